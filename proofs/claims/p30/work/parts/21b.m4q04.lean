abbrev q_X7_isAsked (u : uk_Mem) (w : Int32) (r : Option Value) (u' : uk_Mem) : Prop := (∃ x : Int32, r = some (.int x) ∧ (x = 0 ∨ x = 1) ∧ (¬ x = 0 → (w = 0 ∨ (10 ≤ w ∧ w ≤ 13))) ∧ (x = 0 → True)) ∧ (u' = u)
set_option maxHeartbeats 4000000 in
set_option maxRecDepth 20000 in
theorem c_X7_isAsked {G : uk_D} (hs : uk_Sep G) {u : uk_Mem} (hu : iv u) (w : Int32) (d : Nat) : uk_Meth G (d + 1) mX7_isAsked [.int w] u (q_X7_isAsked u w) := by
  refine uk_Meth.of hs (by decide) (Nat.le_of_ble_eq_true rfl) (fun X => ?_)
  refine g_iload_n dX7_isAsked_0 rfl ?_
  refine g_if_eq (tgt := 18) dX7_isAsked_1 (by decide) (fun c1 => ?_) (fun c1 => ?_)
  · refine g_iconst (v := 1) dX7_isAsked_18 (by decide) ?_
    refine g_goto (tgt := 23) dX7_isAsked_19 (by decide) ?_
    exact g_iret (ty := .boolean) dX7_isAsked_23 rfl rfl ⟨⟨1, rfl, Or.inr rfl, fun _ => by first | trivial | lia | grind, fun q => absurd q (by decide)⟩, rfl⟩
  · refine g_iload_n dX7_isAsked_4 rfl ?_
    refine g_i2l dX7_isAsked_5 ?_
    refine g_ldc2 (v := 10) k_X7_229 dX7_isAsked_6 ?_
    refine g_ldc2 (v := 13) k_X7_248 dX7_isAsked_9 ?_
    refine cl_X7_84 (As := [.long w.toInt64, .long 10, .long 13]) rfl (c_X7_in (G := G) hs hu  w 10 13  (d)) rfl (by omega) rfl (Nat.le_of_ble_eq_true rfl) dX7_isAsked_12 (fun r2 u3 q4 => ?_)
    obtain ⟨⟨x5, rfl, tx5, nx5, zx5⟩, mq4⟩ := q4
    rw [mq4]
    refine g_if_eq (tgt := 22) dX7_isAsked_15 (by decide) (fun c6 => ?_) (fun c6 => ?_)
    · have zc6 := zx5 c6
      refine g_iconst (v := 0) dX7_isAsked_22 (by decide) ?_
      exact g_iret (ty := .boolean) dX7_isAsked_23 rfl rfl ⟨⟨0, rfl, Or.inl rfl, fun q => absurd rfl q, fun _ => by first | trivial | lia | grind⟩, rfl⟩
    · have zc6 := nx5 c6
      refine g_iconst (v := 1) dX7_isAsked_18 (by decide) ?_
      refine g_goto (tgt := 23) dX7_isAsked_19 (by decide) ?_
      exact g_iret (ty := .boolean) dX7_isAsked_23 rfl rfl ⟨⟨1, rfl, Or.inr rfl, fun _ => by first | trivial | lia | grind, fun q => absurd q (by decide)⟩, rfl⟩
abbrev q_X7_see (u : uk_Mem) (b : Int32) (r : Option Value) (u' : uk_Mem) : Prop := (∃ x : Int32, r = some (.int x) ∧ True) ∧ (iv u' ∧ fk [61] [] u u' ∧ ri u')
abbrev q_X7_forget (u : uk_Mem) (n : Int32) (r : Option Value) (u' : uk_Mem) : Prop := (∃ x : Int32, r = some (.int x) ∧ True) ∧ (iv u' ∧ fk [61] [] u u' ∧ ri u')
abbrev q_X7_count (u : uk_Mem) (w : Int32) (r : Option Value) (u' : uk_Mem) : Prop := (∃ x : Int32, r = some (.int x) ∧ True) ∧ (iv u' ∧ fk [62] [] u u' ∧ ri u')
abbrev q_X7_countIn (u : uk_Mem) (b : Int32) (r : Option Value) (u' : uk_Mem) : Prop := (∃ x : Int32, r = some (.int x) ∧ True) ∧ (u' = u)
set_option maxHeartbeats 4000000 in
set_option maxRecDepth 20000 in
theorem c_X7_countIn {G : uk_D} (hs : uk_Sep G) {u : uk_Mem} (hu : iv u) (b : Int32) (d : Nat) : uk_Meth G (d + 1) mX7_countIn [.ref (uk_ad G 60), .int b] u (q_X7_countIn u b) := by
  refine uk_Meth.of hs (by decide) (Nat.le_of_ble_eq_true rfl) (fun X => ?_)
  refine g_iconst (v := 0) dX7_countIn_0 (by decide) ?_
  refine g_istore_n dX7_countIn_1 (by decide) ?_
  refine g_pick (lv' := [(0, .ref (uk_ad G 60)), (1, .int b), (2, .int 0)]) [0, 1, 2] rfl ?_
  refine g_iconst (v := 0) dX7_countIn_2 (by decide) ?_
  refine g_istore_n dX7_countIn_3 (by decide) ?_
  refine g_pick (lv' := [(0, .ref (uk_ad G 60)), (1, .int b), (2, .int 0), (3, .int 0)]) [0, 1, 2, 3] rfl ?_
  have L4_0 : ∀ i3 : Int32, 0 ≤ i3 → i3 ≤ 255 → ∀ (w2 : Int32), uk_G G X mX7_countIn (d + 1) (q_X7_countIn u b) 4 [(0, .ref (uk_ad G 60)), (1, .int b), (2, .int w2), (3, .int i3)] [] u := by
    refine uk_upl 255 ?_
    intro i3 ai3 bi3 ihi3 w2
    refine g_iload_n dX7_countIn_4 rfl ?_
    refine g_aload_n dX7_countIn_5 rfl ?_
    refine f_X7_207 rfl rfl dX7_countIn_6 ?_
    refine g_topi (fun x4 ex4 => ?_)
    have rx4 : 0 ≤ x4 ∧ x4 ≤ 255 := by rw [ex4]; exact iv_at hu _ _ rfl
    have s5 : u.1 60 22 = x4 := ex4.symm
    refine g_icmp_ge (tgt := 39) dX7_countIn_9 (by decide) (fun c6 => ?_) (fun c6 => ?_)
    · refine g_iload_n dX7_countIn_39 rfl ?_
      exact g_iret (ty := .int) dX7_countIn_40 rfl rfl ⟨⟨_, rfl, by first | trivial | lia | grind⟩, rfl⟩
    · refine g_iload_n dX7_countIn_12 rfl ?_
      refine g_aload_n dX7_countIn_13 rfl ?_
      refine f_X7_41 rfl rfl dX7_countIn_14 ?_
      refine g_iload_n dX7_countIn_17 rfl ?_
      have v7 : vp_in i3 256 := uk_vin 256 rfl (by first | decide | lia | grind) (by first | decide | lia | grind)
      refine g_iald rfl rfl v7 dX7_countIn_18 ?_
      refine g_topi (fun x8 ex8 => ?_)
      have bx8 := uk_cl v7
      have rx8 : 0 ≤ x8 ∧ x8 ≤ 7 := by rw [ex8]; exact iv_at hu _ _ (uk_pick1 _ (by omega))
      refine g_iload_n dX7_countIn_19 rfl ?_
      refine g_icmp_ne (tgt := 27) dX7_countIn_20 (by decide) (fun c9 => ?_) (fun c9 => ?_)
      · refine g_iconst (v := 0) dX7_countIn_27 (by decide) ?_
        refine cl_X7_169 (As := [.int 0]) rfl (c_X7_flag (G := G) hs hu  0  (d)) rfl (by omega) rfl (Nat.le_of_ble_eq_true rfl) dX7_countIn_28 (fun r10 u11 q12 => ?_)
        obtain ⟨⟨x13, rfl, tx13⟩, mq12⟩ := q12
        rw [mq12]
        refine g_iadd dX7_countIn_31 ?_
        refine g_topi (fun x14 ex14 => ?_)
        refine g_istore_n dX7_countIn_32 (by decide) ?_
        refine g_pick (lv' := [(0, .ref (uk_ad G 60)), (1, .int b), (2, .int x14), (3, .int i3)]) [0, 1, 2, 3] rfl ?_
        refine g_iinc (v := i3 + 1) dX7_countIn_33 rfl rfl (by decide) ?_
        refine g_pick (lv' := [(0, .ref (uk_ad G 60)), (1, .int b), (2, .int x14), (3, .int (i3 + 1))]) [0, 1, 2, 3] rfl ?_
        refine g_goto (tgt := 4) dX7_countIn_36 (by decide) ?_
        refine g_pick (lv' := [(0, .ref (uk_ad G 60)), (1, .int b), (2, .int x14), (3, .int (i3 + 1))]) [0, 1, 2, 3] rfl ?_
        exact ihi3 (by first | lia | grind) x14 
      · refine g_iconst (v := 1) dX7_countIn_23 (by decide) ?_
        refine g_goto (tgt := 28) dX7_countIn_24 (by decide) ?_
        refine cl_X7_169 (As := [.int 1]) rfl (c_X7_flag (G := G) hs hu  1  (d)) rfl (by omega) rfl (Nat.le_of_ble_eq_true rfl) dX7_countIn_28 (fun r15 u16 q17 => ?_)
        obtain ⟨⟨x18, rfl, tx18⟩, mq17⟩ := q17
        rw [mq17]
        refine g_iadd dX7_countIn_31 ?_
        refine g_topi (fun x19 ex19 => ?_)
        refine g_istore_n dX7_countIn_32 (by decide) ?_
        refine g_pick (lv' := [(0, .ref (uk_ad G 60)), (1, .int b), (2, .int x19), (3, .int i3)]) [0, 1, 2, 3] rfl ?_
        refine g_iinc (v := i3 + 1) dX7_countIn_33 rfl rfl (by decide) ?_
        refine g_pick (lv' := [(0, .ref (uk_ad G 60)), (1, .int b), (2, .int x19), (3, .int (i3 + 1))]) [0, 1, 2, 3] rfl ?_
        refine g_goto (tgt := 4) dX7_countIn_36 (by decide) ?_
        refine g_pick (lv' := [(0, .ref (uk_ad G 60)), (1, .int b), (2, .int x19), (3, .int (i3 + 1))]) [0, 1, 2, 3] rfl ?_
        exact ihi3 (by first | lia | grind) x19 
  refine g_pick (lv' := [(0, .ref (uk_ad G 60)), (1, .int b), (2, .int 0), (3, .int 0)]) [0, 1, 2, 3] rfl ?_
  exact L4_0 0 (by first | decide | lia | grind) (by first | decide | lia | grind) 0 
