abbrev q_X7_holds (u : uk_Mem) (m : Int32) (b : Int32) (r : Option Value) (u' : uk_Mem) : Prop := (∃ x : Int32, r = some (.int x) ∧ True) ∧ (iv u' ∧ fk [70] [] u u' ∧ ri u')
set_option maxHeartbeats 4000000 in
set_option maxRecDepth 20000 in
theorem c_X7_holds {G : uk_D} (hs : uk_Sep G) {u : uk_Mem} (hu : iv u) (hri : ri u) (m : Int32) (b : Int32) (d : Nat) : uk_Meth G (d + 2) mX7_holds [.ref (uk_ad G 60), .int m, .int b] u (q_X7_holds u m b) := by
  refine uk_Meth.of hs (by decide) (Nat.le_of_ble_eq_true rfl) (fun X => ?_)
  have f0 : fk [70] [] u u := fk_rf
  refine g_aload_n dX7_holds_0 rfl ?_
  refine g_iload_n dX7_holds_1 rfl ?_
  refine cl_X7_163 (c := 60) (As := [.int m]) rfl (c_X7_isStuff (G := G) hs hu  m  (d)) rfl (by omega) rfl rfl (Nat.le_of_ble_eq_true rfl) dX7_holds_2 (fun r1 u2 q3 => ?_)
  obtain ⟨⟨x4, rfl, tx4, nx4, zx4⟩, mq3⟩ := q3
  rw [mq3]
  refine g_if_eq (tgt := 16) dX7_holds_5 (by decide) (fun c5 => ?_) (fun c5 => ?_)
  · have zc5 := zx4 c5
    refine g_iconst (v := (-1)) dX7_holds_16 (by decide) ?_
    exact g_iret (ty := .int) dX7_holds_17 rfl rfl ⟨⟨_, rfl, by first | trivial | lia | grind⟩, hu, f0, hri⟩
  · have zc5 := nx4 c5
    refine g_aload_n dX7_holds_8 rfl ?_
    refine g_iload_n dX7_holds_9 rfl ?_
    refine cl_X7_163 (c := 60) (As := [.int b]) rfl (c_X7_isStuff (G := G) hs hu  b  (d)) rfl (by omega) rfl rfl (Nat.le_of_ble_eq_true rfl) dX7_holds_10 (fun r6 u7 q8 => ?_)
    obtain ⟨⟨x9, rfl, tx9, nx9, zx9⟩, mq8⟩ := q8
    rw [mq8]
    refine g_if_ne (tgt := 18) dX7_holds_13 (by decide) (fun c10 => ?_) (fun c10 => ?_)
    · have zc10 := nx9 c10
      refine g_aload_n dX7_holds_18 rfl ?_
      refine g_iload_n dX7_holds_19 rfl ?_
      refine cl_X7_166 (c := 60) (As := [.int b]) rfl (c_X7_isRaw (G := G) hs hu  b (by first | trivial | decide | lia | grind) (by first | trivial | decide | lia | grind) (d + 1)) rfl (by omega) rfl rfl (Nat.le_of_ble_eq_true rfl) dX7_holds_20 (fun r11 u12 q13 => ?_)
      obtain ⟨⟨x14, rfl, tx14, nx14, zx14⟩, mq13⟩ := q13
      rw [mq13]
      refine g_if_ne (tgt := 29) dX7_holds_23 (by decide) (fun c15 => ?_) (fun c15 => ?_)
      · have zc15 := nx14 c15
        refine g_aload_n dX7_holds_29 rfl ?_
        refine g_iload_n dX7_holds_30 rfl ?_
        refine cl_X7_204 (c := 60) (As := [.int m]) rfl (c_X7_findHeld (G := G) hs hu hri  m (by first | trivial | decide | lia | grind) (by first | trivial | decide | lia | grind) (by first | trivial | decide | lia | grind) (d)) rfl (by omega) rfl rfl (Nat.le_of_ble_eq_true rfl) dX7_holds_31 (fun r16 u17 q18 => ?_)
        obtain ⟨rfl, mq18⟩ := q18
        obtain ⟨hu17, gu17, riu17⟩ := mq18
        have fu17 : fk [70] [] u u17 := fk_tr f0 gu17 (by decide) (by decide)
        have wu17_60_3 : u17.1 60 3 = u.1 60 3 := fk_at gu17 (by decide)
        refine g_aload_n dX7_holds_34 rfl ?_
        refine f_X7_38 rfl rfl dX7_holds_35 ?_
        refine g_iload_n dX7_holds_38 rfl ?_
        have v19 : vp_in b 8 := uk_vin 8 rfl (by first | decide | lia | grind) (by first | decide | lia | grind)
        refine g_iald rfl rfl v19 dX7_holds_39 ?_
        refine g_topi (fun x20 ex20 => ?_)
        exact g_iret (ty := .int) dX7_holds_40 rfl rfl ⟨⟨_, rfl, by first | trivial | lia | grind⟩, hu17, fu17, riu17⟩
      · have zc15 := zx14 c15
        refine g_bipush (v := (-2)) dX7_holds_26 (by decide) ?_
        exact g_iret (ty := .int) dX7_holds_28 rfl rfl ⟨⟨_, rfl, by first | trivial | lia | grind⟩, hu, f0, hri⟩
    · have zc10 := zx9 c10
      refine g_iconst (v := (-1)) dX7_holds_16 (by decide) ?_
      exact g_iret (ty := .int) dX7_holds_17 rfl rfl ⟨⟨_, rfl, by first | trivial | lia | grind⟩, hu, f0, hri⟩
abbrev q_X7_cost (u : uk_Mem) (m : Int32) (r : Option Value) (u' : uk_Mem) : Prop := (∃ x : Int32, r = some (.int x) ∧ True) ∧ (iv u' ∧ fk [70] [] u u' ∧ ri u')
set_option maxHeartbeats 4000000 in
set_option maxRecDepth 20000 in
theorem c_X7_cost {G : uk_D} (hs : uk_Sep G) {u : uk_Mem} (hu : iv u) (hri : ri u) (m : Int32) (d : Nat) : uk_Meth G (d + 2) mX7_cost [.ref (uk_ad G 60), .int m] u (q_X7_cost u m) := by
  refine uk_Meth.of hs (by decide) (Nat.le_of_ble_eq_true rfl) (fun X => ?_)
  have f0 : fk [70] [] u u := fk_rf
  refine g_aload_n dX7_cost_0 rfl ?_
  refine g_iload_n dX7_cost_1 rfl ?_
  refine cl_X7_163 (c := 60) (As := [.int m]) rfl (c_X7_isStuff (G := G) hs hu  m  (d)) rfl (by omega) rfl rfl (Nat.le_of_ble_eq_true rfl) dX7_cost_2 (fun r1 u2 q3 => ?_)
  obtain ⟨⟨x4, rfl, tx4, nx4, zx4⟩, mq3⟩ := q3
  rw [mq3]
  refine g_if_ne (tgt := 10) dX7_cost_5 (by decide) (fun c5 => ?_) (fun c5 => ?_)
  · have zc5 := nx4 c5
    refine g_iconst (v := 0) dX7_cost_10 (by decide) ?_
    refine g_istore_n dX7_cost_11 (by decide) ?_
    refine g_pick (lv' := [(0, .ref (uk_ad G 60)), (1, .int m), (2, .int 0)]) [0, 1, 2] rfl ?_
    refine g_aload_n dX7_cost_12 rfl ?_
    refine g_iload_n dX7_cost_13 rfl ?_
    refine cl_X7_204 (c := 60) (As := [.int m]) rfl (c_X7_findHeld (G := G) hs hu hri  m (by first | trivial | decide | lia | grind) (by first | trivial | decide | lia | grind) (by first | trivial | decide | lia | grind) (d)) rfl (by omega) rfl rfl (Nat.le_of_ble_eq_true rfl) dX7_cost_14 (fun r6 u7 q8 => ?_)
    obtain ⟨rfl, mq8⟩ := q8
    obtain ⟨hu7, gu7, riu7⟩ := mq8
    have fu7 : fk [70] [] u u7 := fk_tr f0 gu7 (by decide) (by decide)
    have wu7_60_3 : u7.1 60 3 = u.1 60 3 := fk_at gu7 (by decide)
    refine g_iconst (v := 0) dX7_cost_17 (by decide) ?_
    refine g_istore_n dX7_cost_18 (by decide) ?_
    refine g_pick (lv' := [(0, .ref (uk_ad G 60)), (1, .int m), (2, .int 0), (3, .int 0)]) [0, 1, 2, 3] rfl ?_
    have L19_8 : ∀ i11 : Int32, 0 ≤ i11 → i11 ≤ 8 → ∀ (w10 : Int32), uk_G G X mX7_cost (d + 2) (q_X7_cost u m) 19 [(0, .ref (uk_ad G 60)), (1, .int m), (2, .int w10), (3, .int i11)] [] u7 := by
      refine uk_upl 8 ?_
      intro i11 ai11 bi11 ihi11 w10
      refine g_iload_n dX7_cost_19 rfl ?_
      refine g_aload_n dX7_cost_20 rfl ?_
      refine f_X7_79 rfl rfl dX7_cost_21 ?_
      refine g_topi (fun x12 ex12 => ?_)
      have rx12 : 0 ≤ x12 ∧ x12 ≤ 8 := by rw [ex12]; exact iv_at hu7 _ _ rfl
      have s13 : u7.1 60 3 = x12 := ex12.symm
      refine g_icmp_ge (tgt := 64) dX7_cost_24 (by decide) (fun c14 => ?_) (fun c14 => ?_)
      · refine g_iload_n dX7_cost_64 rfl ?_
        exact g_iret (ty := .int) dX7_cost_65 rfl rfl ⟨⟨_, rfl, by first | trivial | lia | grind⟩, hu7, fu7, riu7⟩
      · refine g_iload_n dX7_cost_27 rfl ?_
        refine g_aload_n dX7_cost_28 rfl ?_
        refine g_iload_n dX7_cost_29 rfl ?_
        refine cl_X7_166 (c := 60) (As := [.int i11]) rfl (c_X7_isRaw (G := G) hs hu7  i11 (by first | trivial | decide | lia | grind) (by first | trivial | decide | lia | grind) (d + 1)) rfl (by omega) rfl rfl (Nat.le_of_ble_eq_true rfl) dX7_cost_30 (fun r15 u16 q17 => ?_)
        obtain ⟨⟨x18, rfl, tx18, nx18, zx18⟩, mq17⟩ := q17
        rw [mq17]
        refine g_if_eq (tgt := 55) dX7_cost_33 (by decide) (fun c19 => ?_) (fun c19 => ?_)
        · have zc19 := zx18 c19
          refine g_iconst (v := 0) dX7_cost_55 (by decide) ?_
          refine g_iadd dX7_cost_56 ?_
          refine g_topi (fun x20 ex20 => ?_)
          refine g_istore_n dX7_cost_57 (by decide) ?_
          refine g_pick (lv' := [(0, .ref (uk_ad G 60)), (1, .int m), (2, .int x20), (3, .int i11)]) [0, 1, 2, 3] rfl ?_
          refine g_iinc (v := i11 + 1) dX7_cost_58 rfl rfl (by decide) ?_
          refine g_pick (lv' := [(0, .ref (uk_ad G 60)), (1, .int m), (2, .int x20), (3, .int (i11 + 1))]) [0, 1, 2, 3] rfl ?_
          refine g_goto (tgt := 19) dX7_cost_61 (by decide) ?_
          refine g_pick (lv' := [(0, .ref (uk_ad G 60)), (1, .int m), (2, .int x20), (3, .int (i11 + 1))]) [0, 1, 2, 3] rfl ?_
          exact ihi11 (by first | lia | grind) x20 
        · have zc19 := nx18 c19
          refine g_aload_n dX7_cost_36 rfl ?_
          refine f_X7_38 rfl rfl dX7_cost_37 ?_
          refine g_iload_n dX7_cost_40 rfl ?_
          have v21 : vp_in i11 8 := uk_vin 8 rfl (by first | decide | lia | grind) (by first | decide | lia | grind)
          refine g_iald rfl rfl v21 dX7_cost_41 ?_
          refine g_topi (fun x22 ex22 => ?_)
          refine g_aload_n dX7_cost_42 rfl ?_
          refine f_X7_7 rfl rfl dX7_cost_43 ?_
          refine g_bipush (v := 24) dX7_cost_46 (by decide) ?_
          refine g_iload_n dX7_cost_48 rfl ?_
          refine g_iadd dX7_cost_49 ?_
          refine g_topi (fun x23 ex23 => ?_)
          have v24 : vp_in x23 153 := uk_vin 153 rfl (by first | decide | lia | grind) (by first | decide | lia | grind)
          refine g_iald rfl rfl v24 dX7_cost_50 ?_
          refine g_topi (fun x25 ex25 => ?_)
          have bx25 := uk_cl v24
          refine g_imul dX7_cost_51 ?_
          refine g_topi (fun x26 ex26 => ?_)
          refine g_goto (tgt := 56) dX7_cost_52 (by decide) ?_
          refine g_iadd dX7_cost_56 ?_
          refine g_topi (fun x27 ex27 => ?_)
          refine g_istore_n dX7_cost_57 (by decide) ?_
          refine g_pick (lv' := [(0, .ref (uk_ad G 60)), (1, .int m), (2, .int x27), (3, .int i11)]) [0, 1, 2, 3] rfl ?_
          refine g_iinc (v := i11 + 1) dX7_cost_58 rfl rfl (by decide) ?_
          refine g_pick (lv' := [(0, .ref (uk_ad G 60)), (1, .int m), (2, .int x27), (3, .int (i11 + 1))]) [0, 1, 2, 3] rfl ?_
          refine g_goto (tgt := 19) dX7_cost_61 (by decide) ?_
          refine g_pick (lv' := [(0, .ref (uk_ad G 60)), (1, .int m), (2, .int x27), (3, .int (i11 + 1))]) [0, 1, 2, 3] rfl ?_
          exact ihi11 (by first | lia | grind) x27 
    refine g_pick (lv' := [(0, .ref (uk_ad G 60)), (1, .int m), (2, .int 0), (3, .int 0)]) [0, 1, 2, 3] rfl ?_
    exact L19_8 0 (by first | decide | lia | grind) (by first | decide | lia | grind) 0 
  · have zc5 := zx4 c5
    refine g_iconst (v := (-1)) dX7_cost_8 (by decide) ?_
    exact g_iret (ty := .int) dX7_cost_9 rfl rfl ⟨⟨_, rfl, by first | trivial | lia | grind⟩, hu, f0, hri⟩
