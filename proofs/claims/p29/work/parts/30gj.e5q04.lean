def e_X6_least (u : uk_Mem) (m : Int32) (w : Int32) : Int32 × uk_Mem := let x4 : Int32 := (e_X0_hasStuff u 13 m); if x4 = 0 then (((-1 : Int32), u)) else (if w = 0 then (let x10 : Int32 := (e_X2_findFewest u m).1; let u8 : uk_Mem := (e_X2_findFewest u m).2; if x10 = 0 then (((-4 : Int32), u8)) else (if w = 0 then (let x18 : Int32 := u8.1 46 2; (x18, u8)) else (let x13 : Int32 := w - (10 : Int32); let x17 : Int32 := (e_X2_doingAt u8 x13); (x17, u8)))) else (if (10 : Int32) ≤ w then (let x24 : Int32 := (e_X2_findFewest u m).1; let u22 : uk_Mem := (e_X2_findFewest u m).2; if x24 = 0 then (((-4 : Int32), u22)) else (if w = 0 then (let x32 : Int32 := u22.1 46 2; (x32, u22)) else (let x27 : Int32 := w - (10 : Int32); let x31 : Int32 := (e_X2_doingAt u22 x27); (x31, u22)))) else (((-1 : Int32), u))))
abbrev qe_X6_least (u : uk_Mem) (m : Int32) (w : Int32) (r : Option Value) (u' : uk_Mem) : Prop := (q_X6_least u m w r u') ∧ (r = some (.int (e_X6_least u m w).1) ∧ u' = (e_X6_least u m w).2)
set_option maxHeartbeats 4000000 in
set_option maxRecDepth 20000 in
theorem x_X6_least {G : uk_D} (hs : uk_Sep G) {u : uk_Mem} (hu : iv u) (m : Int32) (w : Int32) (d : Nat) : uk_Meth G (d + 9) mX6_least [.ref (uk_ad G 0), .int m, .int w] u (qe_X6_least u m w) := by
  refine uk_Meth.of hs (by decide) (Nat.le_of_ble_eq_true rfl) (fun X => ?_)
  have f0 : fr 13 49 u u := fr_rf
  refine g_aload_n dX6_least_0 rfl ?_
  refine f_X6_10 rfl rfl dX6_least_1 ?_
  refine g_iload_n dX6_least_4 rfl ?_
  refine cl_X6_118 (c := 13) (As := [.int m]) rfl (x_X0_hasStuff (G := G) hs hu uk_isK13 m  (d + 8)) rfl (by omega) rfl rfl (Nat.le_of_ble_eq_true rfl) dX6_least_5 (fun r1 u2 q3 => ?_)
  obtain ⟨q3, Eq3⟩ := q3
  obtain ⟨⟨x4, rfl, tx4, nx4, zx4⟩, mq3⟩ := q3
  rw [mq3]
  have ex4 : x4 = (e_X0_hasStuff u 13 m) := ee_v Eq3
  refine g_if_eq (tgt := 21) dX6_least_8 (by decide) (fun c5 => ?_) (fun c5 => ?_)
  · have zc5 := zx4 c5
    refine g_iconst (v := (-1)) dX6_least_21 (by decide) ?_
    exact g_iret (ty := .int) dX6_least_22 rfl rfl ⟨⟨⟨_, rfl, by first | trivial | lia | grind⟩, hu, f0⟩, ee_i (by subst ex4; exact (if_pos c5).trans (rfl))⟩
  · have zc5 := nx4 c5
    refine g_iload_n dX6_least_11 rfl ?_
    refine g_if_eq (tgt := 23) dX6_least_12 (by decide) (fun c6 => ?_) (fun c6 => ?_)
    · refine g_aload_n dX6_least_23 rfl ?_
      refine f_X6_55 rfl rfl dX6_least_24 ?_
      refine g_aload_n dX6_least_27 rfl ?_
      refine f_X6_10 rfl rfl dX6_least_28 ?_
      refine g_iload_n dX6_least_31 rfl ?_
      refine cl_X6_219 (c := 46) (As := [.ref (uk_ad G 13), .int m]) rfl (x_X2_findFewest (G := G) hs hu  m (by first | trivial | decide | lia | grind) (by first | trivial | decide | lia | grind) (d)) rfl (by omega) rfl rfl (Nat.le_of_ble_eq_true rfl) dX6_least_32 (fun r7 u8 q9 => ?_)
      obtain ⟨q9, Eq9⟩ := q9
      obtain ⟨⟨x10, rfl, tx10, nx10, zx10⟩, mq9⟩ := q9
      obtain ⟨hu8, gu8⟩ := mq9
      have fu8 : fr 13 49 u u8 := fr_tr f0 gu8 (by omega) (by omega)
      have ex10 : x10 = (e_X2_findFewest u m).1 := ee_v Eq9.1
      have eu8 : u8 = (e_X2_findFewest u m).2 := Eq9.2
      refine g_if_ne (tgt := 41) dX6_least_35 (by decide) (fun c11 => ?_) (fun c11 => ?_)
      · have zc11 := nx10 c11
        refine g_iload_n dX6_least_41 rfl ?_
        refine g_if_ne (tgt := 55) dX6_least_42 (by decide) (fun c12 => ?_) (fun c12 => ?_)
        · refine g_aload_n dX6_least_55 rfl ?_
          refine f_X6_55 rfl rfl dX6_least_56 ?_
          refine g_iload_n dX6_least_59 rfl ?_
          refine g_bipush (v := 10) dX6_least_60 (by decide) ?_
          refine g_isub dX6_least_62 ?_
          refine g_topi (fun x13 ex13 => ?_)
          refine cl_X6_216 (c := 46) (As := [.int x13]) rfl (x_X2_doingAt (G := G) hs hu8  x13  (d + 8)) rfl (by omega) rfl rfl (Nat.le_of_ble_eq_true rfl) dX6_least_63 (fun r14 u15 q16 => ?_)
          obtain ⟨q16, Eq16⟩ := q16
          obtain ⟨⟨x17, rfl, tx17⟩, mq16⟩ := q16
          rw [mq16]
          have ex17 : x17 = (e_X2_doingAt u8 x13) := ee_v Eq16
          exact g_iret (ty := .int) dX6_least_66 rfl rfl ⟨⟨⟨_, rfl, by first | trivial | lia | grind⟩, hu8, fu8⟩, ee_i (by subst ex17; subst ex13; subst eu8; subst ex10; subst ex4; exact (if_neg c5).trans ((if_pos c6).trans ((if_neg c11).trans ((if_neg c12).trans (rfl)))))⟩
        · refine g_aload_n dX6_least_45 rfl ?_
          refine f_X6_55 rfl rfl dX6_least_46 ?_
          refine f_X6_215 rfl rfl dX6_least_49 ?_
          refine g_topi (fun x18 ex18 => ?_)
          have rx18 : 0 ≤ x18 ∧ x18 ≤ 4 := by rw [ex18]; exact iv_at hu8 _ _ rfl
          have s19 : u8.1 46 2 = x18 := ex18.symm
          refine g_goto (tgt := 66) dX6_least_52 (by decide) ?_
          exact g_iret (ty := .int) dX6_least_66 rfl rfl ⟨⟨⟨_, rfl, by first | trivial | lia | grind⟩, hu8, fu8⟩, ee_i (by subst ex18; subst eu8; subst ex10; subst ex4; exact (if_neg c5).trans ((if_pos c6).trans ((if_neg c11).trans ((if_pos c12).trans (rfl)))))⟩
      · have zc11 := zx10 c11
        refine g_bipush (v := (-4)) dX6_least_38 (by decide) ?_
        exact g_iret (ty := .int) dX6_least_40 rfl rfl ⟨⟨⟨_, rfl, by first | trivial | lia | grind⟩, hu8, fu8⟩, ee_i (by subst eu8; subst ex10; subst ex4; exact (if_neg c5).trans ((if_pos c6).trans ((if_pos c11).trans (rfl))))⟩
    · refine g_iload_n dX6_least_15 rfl ?_
      refine g_bipush (v := 10) dX6_least_16 (by decide) ?_
      refine g_icmp_ge (tgt := 23) dX6_least_18 (by decide) (fun c20 => ?_) (fun c20 => ?_)
      · refine g_aload_n dX6_least_23 rfl ?_
        refine f_X6_55 rfl rfl dX6_least_24 ?_
        refine g_aload_n dX6_least_27 rfl ?_
        refine f_X6_10 rfl rfl dX6_least_28 ?_
        refine g_iload_n dX6_least_31 rfl ?_
        refine cl_X6_219 (c := 46) (As := [.ref (uk_ad G 13), .int m]) rfl (x_X2_findFewest (G := G) hs hu  m (by first | trivial | decide | lia | grind) (by first | trivial | decide | lia | grind) (d)) rfl (by omega) rfl rfl (Nat.le_of_ble_eq_true rfl) dX6_least_32 (fun r21 u22 q23 => ?_)
        obtain ⟨q23, Eq23⟩ := q23
        obtain ⟨⟨x24, rfl, tx24, nx24, zx24⟩, mq23⟩ := q23
        obtain ⟨hu22, gu22⟩ := mq23
        have fu22 : fr 13 49 u u22 := fr_tr f0 gu22 (by omega) (by omega)
        have ex24 : x24 = (e_X2_findFewest u m).1 := ee_v Eq23.1
        have eu22 : u22 = (e_X2_findFewest u m).2 := Eq23.2
        refine g_if_ne (tgt := 41) dX6_least_35 (by decide) (fun c25 => ?_) (fun c25 => ?_)
        · have zc25 := nx24 c25
          refine g_iload_n dX6_least_41 rfl ?_
          refine g_if_ne (tgt := 55) dX6_least_42 (by decide) (fun c26 => ?_) (fun c26 => ?_)
          · refine g_aload_n dX6_least_55 rfl ?_
            refine f_X6_55 rfl rfl dX6_least_56 ?_
            refine g_iload_n dX6_least_59 rfl ?_
            refine g_bipush (v := 10) dX6_least_60 (by decide) ?_
            refine g_isub dX6_least_62 ?_
            refine g_topi (fun x27 ex27 => ?_)
            refine cl_X6_216 (c := 46) (As := [.int x27]) rfl (x_X2_doingAt (G := G) hs hu22  x27  (d + 8)) rfl (by omega) rfl rfl (Nat.le_of_ble_eq_true rfl) dX6_least_63 (fun r28 u29 q30 => ?_)
            obtain ⟨q30, Eq30⟩ := q30
            obtain ⟨⟨x31, rfl, tx31⟩, mq30⟩ := q30
            rw [mq30]
            have ex31 : x31 = (e_X2_doingAt u22 x27) := ee_v Eq30
            exact g_iret (ty := .int) dX6_least_66 rfl rfl ⟨⟨⟨_, rfl, by first | trivial | lia | grind⟩, hu22, fu22⟩, ee_i (by subst ex31; subst ex27; subst eu22; subst ex24; subst ex4; exact (if_neg c5).trans ((if_neg c6).trans ((if_pos c20).trans ((if_neg c25).trans ((if_neg c26).trans (rfl))))))⟩
          · refine g_aload_n dX6_least_45 rfl ?_
            refine f_X6_55 rfl rfl dX6_least_46 ?_
            refine f_X6_215 rfl rfl dX6_least_49 ?_
            refine g_topi (fun x32 ex32 => ?_)
            have rx32 : 0 ≤ x32 ∧ x32 ≤ 4 := by rw [ex32]; exact iv_at hu22 _ _ rfl
            have s33 : u22.1 46 2 = x32 := ex32.symm
            refine g_goto (tgt := 66) dX6_least_52 (by decide) ?_
            exact g_iret (ty := .int) dX6_least_66 rfl rfl ⟨⟨⟨_, rfl, by first | trivial | lia | grind⟩, hu22, fu22⟩, ee_i (by subst ex32; subst eu22; subst ex24; subst ex4; exact (if_neg c5).trans ((if_neg c6).trans ((if_pos c20).trans ((if_neg c25).trans ((if_pos c26).trans (rfl))))))⟩
        · have zc25 := zx24 c25
          refine g_bipush (v := (-4)) dX6_least_38 (by decide) ?_
          exact g_iret (ty := .int) dX6_least_40 rfl rfl ⟨⟨⟨_, rfl, by first | trivial | lia | grind⟩, hu22, fu22⟩, ee_i (by subst eu22; subst ex24; subst ex4; exact (if_neg c5).trans ((if_neg c6).trans ((if_pos c20).trans ((if_pos c25).trans (rfl)))))⟩
      · refine g_iconst (v := (-1)) dX6_least_21 (by decide) ?_
        exact g_iret (ty := .int) dX6_least_22 rfl rfl ⟨⟨⟨_, rfl, by first | trivial | lia | grind⟩, hu, f0⟩, ee_i (by subst ex4; exact (if_neg c5).trans ((if_neg c6).trans ((if_neg c20).trans (rfl))))⟩

