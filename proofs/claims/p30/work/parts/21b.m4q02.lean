abbrev q_X7_allOf (u : uk_Mem) (w : Int32) (r : Option Value) (u' : uk_Mem) : Prop := (∃ x : Int32, r = some (.int x) ∧ True) ∧ (u' = u)
set_option maxHeartbeats 4000000 in
set_option maxRecDepth 20000 in
theorem c_X7_allOf {G : uk_D} (hs : uk_Sep G) {u : uk_Mem} (hu : iv u) (w : Int32) (p0 : w = 0 ∨ w = 16) (d : Nat) : uk_Meth G d mX7_allOf [.ref (uk_ad G 60), .int w] u (q_X7_allOf u w) := by
  refine uk_Meth.of hs (by decide) (Nat.le_of_ble_eq_true rfl) (fun X => ?_)
  refine g_iconst (v := 0) dX7_allOf_0 (by decide) ?_
  refine g_istore_n dX7_allOf_1 (by decide) ?_
  refine g_pick (lv' := [(0, .ref (uk_ad G 60)), (1, .int w), (2, .int 0)]) [0, 1, 2] rfl ?_
  refine g_iconst (v := 0) dX7_allOf_2 (by decide) ?_
  refine g_istore_n dX7_allOf_3 (by decide) ?_
  refine g_pick (lv' := [(0, .ref (uk_ad G 60)), (1, .int w), (2, .int 0), (3, .int 0)]) [0, 1, 2, 3] rfl ?_
  have L4_0 : ∀ i3 : Int32, 0 ≤ i3 → i3 ≤ 8 → ∀ (w2 : Int32), uk_G G X mX7_allOf d (q_X7_allOf u w) 4 [(0, .ref (uk_ad G 60)), (1, .int w), (2, .int w2), (3, .int i3)] [] u := by
    refine uk_upl 8 ?_
    intro i3 ai3 bi3 ihi3 w2
    refine g_iload_n dX7_allOf_4 rfl ?_
    refine g_aload_n dX7_allOf_5 rfl ?_
    refine f_X7_79 rfl rfl dX7_allOf_6 ?_
    refine g_topi (fun x4 ex4 => ?_)
    have rx4 : 0 ≤ x4 ∧ x4 ≤ 8 := by rw [ex4]; exact iv_at hu _ _ rfl
    have s5 : u.1 60 3 = x4 := ex4.symm
    refine g_icmp_ge (tgt := 46) dX7_allOf_9 (by decide) (fun c6 => ?_) (fun c6 => ?_)
    · refine g_iload_n dX7_allOf_46 rfl ?_
      exact g_iret (ty := .int) dX7_allOf_47 rfl rfl ⟨⟨_, rfl, by first | trivial | lia | grind⟩, rfl⟩
    · refine g_iload_n dX7_allOf_12 rfl ?_
      refine g_aload_n dX7_allOf_13 rfl ?_
      refine f_X7_13 rfl rfl dX7_allOf_14 ?_
      refine g_iconst (v := 0) dX7_allOf_17 (by decide) ?_
      refine g_iload_n dX7_allOf_18 rfl ?_
      refine g_iadd dX7_allOf_19 ?_
      refine g_topi (fun x7 ex7 => ?_)
      have ox7 : x7 = i3 := by rw [ex7, Int32.zero_add]
      have v8 : vp_in x7 51 := uk_vin 51 rfl (by first | decide | lia | grind) (by first | decide | lia | grind)
      refine g_iald rfl rfl v8 dX7_allOf_20 ?_
      refine g_topi (fun x9 ex9 => ?_)
      have bx9 := uk_cl v8
      have rx9 : 0 ≤ x9 ∧ x9 ≤ 40 := by rw [ex9]; exact sg_0 hu (by unfold uk_is51; decide) (by first | lia | grind) (by first | lia | grind)
      refine g_iload_n dX7_allOf_21 rfl ?_
      refine g_if_ne (tgt := 29) dX7_allOf_22 (by decide) (fun c10 => ?_) (fun c10 => ?_)
      · refine g_aload_n dX7_allOf_29 rfl ?_
        refine f_X7_13 rfl rfl dX7_allOf_30 ?_
        refine g_iload_n dX7_allOf_33 rfl ?_
        refine g_iload_n dX7_allOf_34 rfl ?_
        refine g_iadd dX7_allOf_35 ?_
        refine g_topi (fun x11 ex11 => ?_)
        have v12 : vp_in x11 51 := uk_vin 51 rfl (by first | decide | lia | grind) (by first | decide | lia | grind)
        refine g_iald rfl rfl v12 dX7_allOf_36 ?_
        refine g_topi (fun x13 ex13 => ?_)
        have bx13 := uk_cl v12
        refine g_imul dX7_allOf_37 ?_
        refine g_topi (fun x14 ex14 => ?_)
        refine g_iadd dX7_allOf_38 ?_
        refine g_topi (fun x15 ex15 => ?_)
        refine g_istore_n dX7_allOf_39 (by decide) ?_
        refine g_pick (lv' := [(0, .ref (uk_ad G 60)), (1, .int w), (2, .int x15), (3, .int i3)]) [0, 1, 2, 3] rfl ?_
        refine g_iinc (v := i3 + 1) dX7_allOf_40 rfl rfl (by decide) ?_
        refine g_pick (lv' := [(0, .ref (uk_ad G 60)), (1, .int w), (2, .int x15), (3, .int (i3 + 1))]) [0, 1, 2, 3] rfl ?_
        refine g_goto (tgt := 4) dX7_allOf_43 (by decide) ?_
        refine g_pick (lv' := [(0, .ref (uk_ad G 60)), (1, .int w), (2, .int x15), (3, .int (i3 + 1))]) [0, 1, 2, 3] rfl ?_
        exact ihi3 (by first | lia | grind) x15 
      · refine g_iconst (v := 1) dX7_allOf_25 (by decide) ?_
        refine g_goto (tgt := 37) dX7_allOf_26 (by decide) ?_
        refine g_imul dX7_allOf_37 ?_
        refine g_topi (fun x16 ex16 => ?_)
        refine g_iadd dX7_allOf_38 ?_
        refine g_topi (fun x17 ex17 => ?_)
        refine g_istore_n dX7_allOf_39 (by decide) ?_
        refine g_pick (lv' := [(0, .ref (uk_ad G 60)), (1, .int w), (2, .int x17), (3, .int i3)]) [0, 1, 2, 3] rfl ?_
        refine g_iinc (v := i3 + 1) dX7_allOf_40 rfl rfl (by decide) ?_
        refine g_pick (lv' := [(0, .ref (uk_ad G 60)), (1, .int w), (2, .int x17), (3, .int (i3 + 1))]) [0, 1, 2, 3] rfl ?_
        refine g_goto (tgt := 4) dX7_allOf_43 (by decide) ?_
        refine g_pick (lv' := [(0, .ref (uk_ad G 60)), (1, .int w), (2, .int x17), (3, .int (i3 + 1))]) [0, 1, 2, 3] rfl ?_
        exact ihi3 (by first | lia | grind) x17 
  refine g_pick (lv' := [(0, .ref (uk_ad G 60)), (1, .int w), (2, .int 0), (3, .int 0)]) [0, 1, 2, 3] rfl ?_
  exact L4_0 0 (by first | decide | lia | grind) (by first | decide | lia | grind) 0 
