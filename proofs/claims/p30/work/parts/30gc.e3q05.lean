def e_X7_canTurn (u : uk_Mem) (m : Int32) : Int32 := let x1 : Int32 := (32 : Int32) + m; let x3 : Int32 := u.1 62 x1.toNatClampNeg; if x3 = (4 : Int32) then ((0 : Int32)) else (let x5 : Int32 := (32 : Int32) + m; let x7 : Int32 := u.1 62 x5.toNatClampNeg; if x7 = (2 : Int32) then ((0 : Int32)) else (let x9 : Int32 := (0 : Int32) + m; let x11 : Int32 := u.1 62 x9.toNatClampNeg; if x11 = 0 then ((0 : Int32)) else (let x14 : Int32 := u.1 64 m.toNatClampNeg; let x16 : Int32 := u.1 65 m.toNatClampNeg; let x20 : Int32 := (e_X7_givesSecond u m); if x20 = 0 then (let x22 : Int32 := (0 : Int32) + x14; let x24 : Int32 := u.1 62 x22.toNatClampNeg; let x25 : Int32 := x24 + (1 : Int32); if (40 : Int32) < x25 then ((0 : Int32)) else (let x30 : Int32 := (e_X7_givesSecond u m); if x30 = 0 then ((1 : Int32)) else (if x14 = x16 then ((1 : Int32)) else (let x33 : Int32 := (0 : Int32) + x16; let x35 : Int32 := u.1 62 x33.toNatClampNeg; if (40 : Int32) ≤ x35 then ((0 : Int32)) else ((1 : Int32)))))) else (if x14 = x16 then (let x53 : Int32 := (0 : Int32) + x14; let x55 : Int32 := u.1 62 x53.toNatClampNeg; let x56 : Int32 := x55 + (2 : Int32); if (40 : Int32) < x56 then ((0 : Int32)) else (let x61 : Int32 := (e_X7_givesSecond u m); if x61 = 0 then ((1 : Int32)) else (if x14 = x16 then ((1 : Int32)) else (let x64 : Int32 := (0 : Int32) + x16; let x66 : Int32 := u.1 62 x64.toNatClampNeg; if (40 : Int32) ≤ x66 then ((0 : Int32)) else ((1 : Int32)))))) else (let x38 : Int32 := (0 : Int32) + x14; let x40 : Int32 := u.1 62 x38.toNatClampNeg; let x41 : Int32 := x40 + (1 : Int32); if (40 : Int32) < x41 then ((0 : Int32)) else (let x46 : Int32 := (e_X7_givesSecond u m); if x46 = 0 then ((1 : Int32)) else (if x14 = x16 then ((1 : Int32)) else (let x49 : Int32 := (0 : Int32) + x16; let x51 : Int32 := u.1 62 x49.toNatClampNeg; if (40 : Int32) ≤ x51 then ((0 : Int32)) else ((1 : Int32))))))))))
abbrev qe_X7_canTurn (u : uk_Mem) (m : Int32) (r : Option Value) (u' : uk_Mem) : Prop := (q_X7_canTurn u m r u') ∧ (r = some (.int (e_X7_canTurn u m)))
set_option maxHeartbeats 4000000 in
set_option maxRecDepth 20000 in
theorem x_X7_canTurn {G : uk_D} (hs : uk_Sep G) {u : uk_Mem} (hu : iv u) (hra : ra u) (m : Int32) (p0 : 0 ≤ m) (p1 : m < u.1 60 3) (p2 : m ≤ 7) (d : Nat) : uk_Meth G (d + 1) mX7_canTurn [.ref (uk_ad G 60), .int m] u (qe_X7_canTurn u m) := by
  refine uk_Meth.of hs (by decide) (Nat.le_of_ble_eq_true rfl) (fun X => ?_)
  have hk : u.1 62 (32 + m).toNatClampNeg = 4 ∨ (0 ≤ u.1 64 m.toNatClampNeg ∧ u.1 64 m.toNatClampNeg < m ∧ 0 ≤ u.1 65 m.toNatClampNeg ∧ u.1 65 m.toNatClampNeg < m) := hra m p0 p1 p2
  refine g_aload_n dX7_canTurn_0 rfl ?_
  refine f_X7_13 rfl rfl dX7_canTurn_1 ?_
  refine g_bipush (v := 32) dX7_canTurn_4 (by decide) ?_
  refine g_iload_n dX7_canTurn_6 rfl ?_
  refine g_iadd dX7_canTurn_7 ?_
  refine g_topi (fun x1 ex1 => ?_)
  have v2 : vp_in x1 51 := uk_vin 51 rfl (by first | decide | lia | grind) (by first | decide | lia | grind)
  refine g_iald rfl rfl v2 dX7_canTurn_8 ?_
  refine g_topi (fun x3 ex3 => ?_)
  have bx3 := uk_cl v2
  refine g_iconst (v := 4) dX7_canTurn_9 (by decide) ?_
  refine g_icmp_eq (tgt := 37) dX7_canTurn_10 (by decide) (fun c4 => ?_) (fun c4 => ?_)
  · refine g_iconst (v := 0) dX7_canTurn_37 (by decide) ?_
    exact g_iret (ty := .boolean) dX7_canTurn_38 rfl rfl ⟨⟨⟨0, rfl, Or.inl rfl, fun q => absurd rfl q, fun _ => by first | trivial | lia | grind⟩, rfl⟩, ee_p (by subst ex3; subst ex1; exact (if_pos c4).trans (rfl))⟩
  · refine g_aload_n dX7_canTurn_13 rfl ?_
    refine f_X7_13 rfl rfl dX7_canTurn_14 ?_
    refine g_bipush (v := 32) dX7_canTurn_17 (by decide) ?_
    refine g_iload_n dX7_canTurn_19 rfl ?_
    refine g_iadd dX7_canTurn_20 ?_
    refine g_topi (fun x5 ex5 => ?_)
    have v6 : vp_in x5 51 := uk_vin 51 rfl (by first | decide | lia | grind) (by first | decide | lia | grind)
    refine g_iald rfl rfl v6 dX7_canTurn_21 ?_
    refine g_topi (fun x7 ex7 => ?_)
    have bx7 := uk_cl v6
    refine g_iconst (v := 2) dX7_canTurn_22 (by decide) ?_
    refine g_icmp_eq (tgt := 37) dX7_canTurn_23 (by decide) (fun c8 => ?_) (fun c8 => ?_)
    · refine g_iconst (v := 0) dX7_canTurn_37 (by decide) ?_
      exact g_iret (ty := .boolean) dX7_canTurn_38 rfl rfl ⟨⟨⟨0, rfl, Or.inl rfl, fun q => absurd rfl q, fun _ => by first | trivial | lia | grind⟩, rfl⟩, ee_p (by subst ex7; subst ex5; subst ex3; subst ex1; exact (if_neg c4).trans ((if_pos c8).trans (rfl)))⟩
    · refine g_aload_n dX7_canTurn_26 rfl ?_
      refine f_X7_13 rfl rfl dX7_canTurn_27 ?_
      refine g_iconst (v := 0) dX7_canTurn_30 (by decide) ?_
      refine g_iload_n dX7_canTurn_31 rfl ?_
      refine g_iadd dX7_canTurn_32 ?_
      refine g_topi (fun x9 ex9 => ?_)
      have ox9 : x9 = m := by rw [ex9, Int32.zero_add]
      have v10 : vp_in x9 51 := uk_vin 51 rfl (by first | decide | lia | grind) (by first | decide | lia | grind)
      refine g_iald rfl rfl v10 dX7_canTurn_33 ?_
      refine g_topi (fun x11 ex11 => ?_)
      have bx11 := uk_cl v10
      have rx11 : 0 ≤ x11 ∧ x11 ≤ 40 := by rw [ex11]; exact sg_0 hu (by unfold uk_is51; decide) (by first | lia | grind) (by first | lia | grind)
      refine g_if_ne (tgt := 39) dX7_canTurn_34 (by decide) (fun c12 => ?_) (fun c12 => ?_)
      · refine g_aload_n dX7_canTurn_39 rfl ?_
        refine f_X7_20 rfl rfl dX7_canTurn_40 ?_
        refine g_iload_n dX7_canTurn_43 rfl ?_
        have v13 : vp_in m 8 := uk_vin 8 rfl (by first | decide | lia | grind) (by first | decide | lia | grind)
        refine g_iald rfl rfl v13 dX7_canTurn_44 ?_
        refine g_topi (fun x14 ex14 => ?_)
        have bx14 := uk_cl v13
        have rx14 : (-4) ≤ x14 ∧ x14 ≤ 7 := by rw [ex14]; exact iv_at hu _ _ (uk_pick1 _ (by omega))
        have hp := hk.resolve_left (by grind)
        refine g_istore_n dX7_canTurn_45 (by decide) ?_
        refine g_pick (lv' := [(0, .ref (uk_ad G 60)), (1, .int m), (2, .int x14)]) [0, 1, 2] rfl ?_
        refine g_aload_n dX7_canTurn_46 rfl ?_
        refine f_X7_23 rfl rfl dX7_canTurn_47 ?_
        refine g_iload_n dX7_canTurn_50 rfl ?_
        have v15 : vp_in m 8 := uk_vin 8 rfl (by first | decide | lia | grind) (by first | decide | lia | grind)
        refine g_iald rfl rfl v15 dX7_canTurn_51 ?_
        refine g_topi (fun x16 ex16 => ?_)
        have bx16 := uk_cl v15
        have rx16 : (-4) ≤ x16 ∧ x16 ≤ 7 := by rw [ex16]; exact iv_at hu _ _ (uk_pick1 _ (by omega))
        refine g_istore_n dX7_canTurn_52 (by decide) ?_
        refine g_pick (lv' := [(0, .ref (uk_ad G 60)), (1, .int m), (2, .int x14), (3, .int x16)]) [0, 1, 2, 3] rfl ?_
        refine g_aload_n dX7_canTurn_53 rfl ?_
        refine g_iload_n dX7_canTurn_54 rfl ?_
        refine cl_X7_153 (c := 60) (As := [.int m]) rfl (x_X7_givesSecond (G := G) hs hu  m (by first | trivial | decide | lia | grind) (by first | trivial | decide | lia | grind) (d)) rfl (by omega) rfl rfl (Nat.le_of_ble_eq_true rfl) dX7_canTurn_55 (fun r17 u18 q19 => ?_)
        obtain ⟨q19, Eq19⟩ := q19
        obtain ⟨⟨x20, rfl, tx20, nx20, zx20⟩, mq19⟩ := q19
        rw [mq19]
        have ex20 : x20 = (e_X7_givesSecond u m) := ee_v Eq19
        refine g_if_eq (tgt := 70) dX7_canTurn_58 (by decide) (fun c21 => ?_) (fun c21 => ?_)
        · have zc21 := zx20 c21
          refine g_iconst (v := 1) dX7_canTurn_70 (by decide) ?_
          refine g_istore dX7_canTurn_71 (by decide) ?_
          refine g_pick (lv' := [(0, .ref (uk_ad G 60)), (1, .int m), (2, .int x14), (3, .int x16), (4, .int 1)]) [0, 1, 2, 3, 4] rfl ?_
          refine g_aload_n dX7_canTurn_73 rfl ?_
          refine f_X7_13 rfl rfl dX7_canTurn_74 ?_
          refine g_iconst (v := 0) dX7_canTurn_77 (by decide) ?_
          refine g_iload_n dX7_canTurn_78 rfl ?_
          refine g_iadd dX7_canTurn_79 ?_
          refine g_topi (fun x22 ex22 => ?_)
          have ox22 : x22 = x14 := by rw [ex22, Int32.zero_add]
          have v23 : vp_in x22 51 := uk_vin 51 rfl (by first | decide | lia | grind) (by first | decide | lia | grind)
          refine g_iald rfl rfl v23 dX7_canTurn_80 ?_
          refine g_topi (fun x24 ex24 => ?_)
          have bx24 := uk_cl v23
          have rx24 : 0 ≤ x24 ∧ x24 ≤ 40 := by rw [ex24]; exact sg_0 hu (by unfold uk_is51; decide) (by first | lia | grind) (by first | lia | grind)
          refine g_iload dX7_canTurn_81 rfl ?_
          refine g_iadd dX7_canTurn_83 ?_
          refine g_topi (fun x25 ex25 => ?_)
          refine g_bipush (v := 40) dX7_canTurn_84 (by decide) ?_
          refine g_icmp_gt (tgt := 119) dX7_canTurn_86 (by decide) (fun c26 => ?_) (fun c26 => ?_)
          · refine g_iconst (v := 0) dX7_canTurn_119 (by decide) ?_
            exact g_iret (ty := .boolean) dX7_canTurn_120 rfl rfl ⟨⟨⟨0, rfl, Or.inl rfl, fun q => absurd rfl q, fun _ => by first | trivial | lia | grind⟩, rfl⟩, ee_p (by subst ex25; subst ex24; subst ex22; subst ex20; subst ex16; subst ex14; subst ex11; subst ex9; subst ex7; subst ex5; subst ex3; subst ex1; exact (if_neg c4).trans ((if_neg c8).trans ((if_neg c12).trans ((if_pos c21).trans ((if_pos c26).trans (rfl))))))⟩
          · refine g_aload_n dX7_canTurn_89 rfl ?_
            refine g_iload_n dX7_canTurn_90 rfl ?_
            refine cl_X7_153 (c := 60) (As := [.int m]) rfl (x_X7_givesSecond (G := G) hs hu  m (by first | trivial | decide | lia | grind) (by first | trivial | decide | lia | grind) (d)) rfl (by omega) rfl rfl (Nat.le_of_ble_eq_true rfl) dX7_canTurn_91 (fun r27 u28 q29 => ?_)
            obtain ⟨q29, Eq29⟩ := q29
            obtain ⟨⟨x30, rfl, tx30, nx30, zx30⟩, mq29⟩ := q29
            rw [mq29]
            have ex30 : x30 = (e_X7_givesSecond u m) := ee_v Eq29
            refine g_if_eq (tgt := 115) dX7_canTurn_94 (by decide) (fun c31 => ?_) (fun c31 => ?_)
            · have zc31 := zx30 c31
              refine g_iconst (v := 1) dX7_canTurn_115 (by decide) ?_
              refine g_goto (tgt := 120) dX7_canTurn_116 (by decide) ?_
              exact g_iret (ty := .boolean) dX7_canTurn_120 rfl rfl ⟨⟨⟨1, rfl, Or.inr rfl, fun _ => ⟨hp.1, hp.2.1, hp.2.2.1, hp.2.2.2, by grind, by grind, fun q q2 => by grind, fun q q2 => by grind⟩, fun q => absurd q (by decide)⟩, rfl⟩, ee_p (by subst ex30; subst ex25; subst ex24; subst ex22; subst ex20; subst ex16; subst ex14; subst ex11; subst ex9; subst ex7; subst ex5; subst ex3; subst ex1; exact (if_neg c4).trans ((if_neg c8).trans ((if_neg c12).trans ((if_pos c21).trans ((if_neg c26).trans ((if_pos c31).trans (rfl)))))))⟩
            · have zc31 := nx30 c31
              refine g_iload_n dX7_canTurn_97 rfl ?_
              refine g_iload_n dX7_canTurn_98 rfl ?_
              refine g_icmp_eq (tgt := 115) dX7_canTurn_99 (by decide) (fun c32 => ?_) (fun c32 => ?_)
              · refine g_iconst (v := 1) dX7_canTurn_115 (by decide) ?_
                refine g_goto (tgt := 120) dX7_canTurn_116 (by decide) ?_
                exact g_iret (ty := .boolean) dX7_canTurn_120 rfl rfl ⟨⟨⟨1, rfl, Or.inr rfl, fun _ => ⟨hp.1, hp.2.1, hp.2.2.1, hp.2.2.2, by grind, by grind, fun q q2 => by grind, fun q q2 => by grind⟩, fun q => absurd q (by decide)⟩, rfl⟩, ee_p (by subst ex30; subst ex25; subst ex24; subst ex22; subst ex20; subst ex16; subst ex14; subst ex11; subst ex9; subst ex7; subst ex5; subst ex3; subst ex1; exact (if_neg c4).trans ((if_neg c8).trans ((if_neg c12).trans ((if_pos c21).trans ((if_neg c26).trans ((if_neg c31).trans ((if_pos c32).trans (rfl))))))))⟩
              · refine g_aload_n dX7_canTurn_102 rfl ?_
                refine f_X7_13 rfl rfl dX7_canTurn_103 ?_
                refine g_iconst (v := 0) dX7_canTurn_106 (by decide) ?_
                refine g_iload_n dX7_canTurn_107 rfl ?_
                refine g_iadd dX7_canTurn_108 ?_
                refine g_topi (fun x33 ex33 => ?_)
                have ox33 : x33 = x16 := by rw [ex33, Int32.zero_add]
                have v34 : vp_in x33 51 := uk_vin 51 rfl (by first | decide | lia | grind) (by first | decide | lia | grind)
                refine g_iald rfl rfl v34 dX7_canTurn_109 ?_
                refine g_topi (fun x35 ex35 => ?_)
                have bx35 := uk_cl v34
                have rx35 : 0 ≤ x35 ∧ x35 ≤ 40 := by rw [ex35]; exact sg_0 hu (by unfold uk_is51; decide) (by first | lia | grind) (by first | lia | grind)
                refine g_bipush (v := 40) dX7_canTurn_110 (by decide) ?_
                refine g_icmp_ge (tgt := 119) dX7_canTurn_112 (by decide) (fun c36 => ?_) (fun c36 => ?_)
                · refine g_iconst (v := 0) dX7_canTurn_119 (by decide) ?_
                  exact g_iret (ty := .boolean) dX7_canTurn_120 rfl rfl ⟨⟨⟨0, rfl, Or.inl rfl, fun q => absurd rfl q, fun _ => by first | trivial | lia | grind⟩, rfl⟩, ee_p (by subst ex35; subst ex33; subst ex30; subst ex25; subst ex24; subst ex22; subst ex20; subst ex16; subst ex14; subst ex11; subst ex9; subst ex7; subst ex5; subst ex3; subst ex1; exact (if_neg c4).trans ((if_neg c8).trans ((if_neg c12).trans ((if_pos c21).trans ((if_neg c26).trans ((if_neg c31).trans ((if_neg c32).trans ((if_pos c36).trans (rfl)))))))))⟩
                · refine g_iconst (v := 1) dX7_canTurn_115 (by decide) ?_
                  refine g_goto (tgt := 120) dX7_canTurn_116 (by decide) ?_
                  exact g_iret (ty := .boolean) dX7_canTurn_120 rfl rfl ⟨⟨⟨1, rfl, Or.inr rfl, fun _ => ⟨hp.1, hp.2.1, hp.2.2.1, hp.2.2.2, by grind, by grind, fun q q2 => by grind, fun q q2 => by grind⟩, fun q => absurd q (by decide)⟩, rfl⟩, ee_p (by subst ex35; subst ex33; subst ex30; subst ex25; subst ex24; subst ex22; subst ex20; subst ex16; subst ex14; subst ex11; subst ex9; subst ex7; subst ex5; subst ex3; subst ex1; exact (if_neg c4).trans ((if_neg c8).trans ((if_neg c12).trans ((if_pos c21).trans ((if_neg c26).trans ((if_neg c31).trans ((if_neg c32).trans ((if_neg c36).trans (rfl)))))))))⟩
        · have zc21 := nx20 c21
          refine g_iload_n dX7_canTurn_61 rfl ?_
          refine g_iload_n dX7_canTurn_62 rfl ?_
          refine g_icmp_ne (tgt := 70) dX7_canTurn_63 (by decide) (fun c37 => ?_) (fun c37 => ?_)
          · refine g_iconst (v := 1) dX7_canTurn_70 (by decide) ?_
            refine g_istore dX7_canTurn_71 (by decide) ?_
            refine g_pick (lv' := [(0, .ref (uk_ad G 60)), (1, .int m), (2, .int x14), (3, .int x16), (4, .int 1)]) [0, 1, 2, 3, 4] rfl ?_
            refine g_aload_n dX7_canTurn_73 rfl ?_
            refine f_X7_13 rfl rfl dX7_canTurn_74 ?_
            refine g_iconst (v := 0) dX7_canTurn_77 (by decide) ?_
            refine g_iload_n dX7_canTurn_78 rfl ?_
            refine g_iadd dX7_canTurn_79 ?_
            refine g_topi (fun x38 ex38 => ?_)
            have ox38 : x38 = x14 := by rw [ex38, Int32.zero_add]
            have v39 : vp_in x38 51 := uk_vin 51 rfl (by first | decide | lia | grind) (by first | decide | lia | grind)
            refine g_iald rfl rfl v39 dX7_canTurn_80 ?_
            refine g_topi (fun x40 ex40 => ?_)
            have bx40 := uk_cl v39
            have rx40 : 0 ≤ x40 ∧ x40 ≤ 40 := by rw [ex40]; exact sg_0 hu (by unfold uk_is51; decide) (by first | lia | grind) (by first | lia | grind)
            refine g_iload dX7_canTurn_81 rfl ?_
            refine g_iadd dX7_canTurn_83 ?_
            refine g_topi (fun x41 ex41 => ?_)
            refine g_bipush (v := 40) dX7_canTurn_84 (by decide) ?_
            refine g_icmp_gt (tgt := 119) dX7_canTurn_86 (by decide) (fun c42 => ?_) (fun c42 => ?_)
            · refine g_iconst (v := 0) dX7_canTurn_119 (by decide) ?_
              exact g_iret (ty := .boolean) dX7_canTurn_120 rfl rfl ⟨⟨⟨0, rfl, Or.inl rfl, fun q => absurd rfl q, fun _ => by first | trivial | lia | grind⟩, rfl⟩, ee_p (by subst ex41; subst ex40; subst ex38; subst ex20; subst ex16; subst ex14; subst ex11; subst ex9; subst ex7; subst ex5; subst ex3; subst ex1; exact (if_neg c4).trans ((if_neg c8).trans ((if_neg c12).trans ((if_neg c21).trans ((if_neg c37).trans ((if_pos c42).trans (rfl)))))))⟩
            · refine g_aload_n dX7_canTurn_89 rfl ?_
              refine g_iload_n dX7_canTurn_90 rfl ?_
              refine cl_X7_153 (c := 60) (As := [.int m]) rfl (x_X7_givesSecond (G := G) hs hu  m (by first | trivial | decide | lia | grind) (by first | trivial | decide | lia | grind) (d)) rfl (by omega) rfl rfl (Nat.le_of_ble_eq_true rfl) dX7_canTurn_91 (fun r43 u44 q45 => ?_)
              obtain ⟨q45, Eq45⟩ := q45
              obtain ⟨⟨x46, rfl, tx46, nx46, zx46⟩, mq45⟩ := q45
              rw [mq45]
              have ex46 : x46 = (e_X7_givesSecond u m) := ee_v Eq45
              refine g_if_eq (tgt := 115) dX7_canTurn_94 (by decide) (fun c47 => ?_) (fun c47 => ?_)
              · have zc47 := zx46 c47
                refine g_iconst (v := 1) dX7_canTurn_115 (by decide) ?_
                refine g_goto (tgt := 120) dX7_canTurn_116 (by decide) ?_
                exact g_iret (ty := .boolean) dX7_canTurn_120 rfl rfl ⟨⟨⟨1, rfl, Or.inr rfl, fun _ => ⟨hp.1, hp.2.1, hp.2.2.1, hp.2.2.2, by grind, by grind, fun q q2 => by grind, fun q q2 => by grind⟩, fun q => absurd q (by decide)⟩, rfl⟩, ee_p (by subst ex46; subst ex41; subst ex40; subst ex38; subst ex20; subst ex16; subst ex14; subst ex11; subst ex9; subst ex7; subst ex5; subst ex3; subst ex1; exact (if_neg c4).trans ((if_neg c8).trans ((if_neg c12).trans ((if_neg c21).trans ((if_neg c37).trans ((if_neg c42).trans ((if_pos c47).trans (rfl))))))))⟩
              · have zc47 := nx46 c47
                refine g_iload_n dX7_canTurn_97 rfl ?_
                refine g_iload_n dX7_canTurn_98 rfl ?_
                refine g_icmp_eq (tgt := 115) dX7_canTurn_99 (by decide) (fun c48 => ?_) (fun c48 => ?_)
                · refine g_iconst (v := 1) dX7_canTurn_115 (by decide) ?_
                  refine g_goto (tgt := 120) dX7_canTurn_116 (by decide) ?_
                  exact g_iret (ty := .boolean) dX7_canTurn_120 rfl rfl ⟨⟨⟨1, rfl, Or.inr rfl, fun _ => ⟨hp.1, hp.2.1, hp.2.2.1, hp.2.2.2, by grind, by grind, fun q q2 => by grind, fun q q2 => by grind⟩, fun q => absurd q (by decide)⟩, rfl⟩, ee_p (by subst ex46; subst ex41; subst ex40; subst ex38; subst ex20; subst ex16; subst ex14; subst ex11; subst ex9; subst ex7; subst ex5; subst ex3; subst ex1; exact (if_neg c4).trans ((if_neg c8).trans ((if_neg c12).trans ((if_neg c21).trans ((if_neg c37).trans ((if_neg c42).trans ((if_neg c47).trans ((if_pos c48).trans (rfl)))))))))⟩
                · refine g_aload_n dX7_canTurn_102 rfl ?_
                  refine f_X7_13 rfl rfl dX7_canTurn_103 ?_
                  refine g_iconst (v := 0) dX7_canTurn_106 (by decide) ?_
                  refine g_iload_n dX7_canTurn_107 rfl ?_
                  refine g_iadd dX7_canTurn_108 ?_
                  refine g_topi (fun x49 ex49 => ?_)
                  have ox49 : x49 = x16 := by rw [ex49, Int32.zero_add]
                  have v50 : vp_in x49 51 := uk_vin 51 rfl (by first | decide | lia | grind) (by first | decide | lia | grind)
                  refine g_iald rfl rfl v50 dX7_canTurn_109 ?_
                  refine g_topi (fun x51 ex51 => ?_)
                  have bx51 := uk_cl v50
                  have rx51 : 0 ≤ x51 ∧ x51 ≤ 40 := by rw [ex51]; exact sg_0 hu (by unfold uk_is51; decide) (by first | lia | grind) (by first | lia | grind)
                  refine g_bipush (v := 40) dX7_canTurn_110 (by decide) ?_
                  refine g_icmp_ge (tgt := 119) dX7_canTurn_112 (by decide) (fun c52 => ?_) (fun c52 => ?_)
                  · refine g_iconst (v := 0) dX7_canTurn_119 (by decide) ?_
                    exact g_iret (ty := .boolean) dX7_canTurn_120 rfl rfl ⟨⟨⟨0, rfl, Or.inl rfl, fun q => absurd rfl q, fun _ => by first | trivial | lia | grind⟩, rfl⟩, ee_p (by subst ex51; subst ex49; subst ex46; subst ex41; subst ex40; subst ex38; subst ex20; subst ex16; subst ex14; subst ex11; subst ex9; subst ex7; subst ex5; subst ex3; subst ex1; exact (if_neg c4).trans ((if_neg c8).trans ((if_neg c12).trans ((if_neg c21).trans ((if_neg c37).trans ((if_neg c42).trans ((if_neg c47).trans ((if_neg c48).trans ((if_pos c52).trans (rfl))))))))))⟩
                  · refine g_iconst (v := 1) dX7_canTurn_115 (by decide) ?_
                    refine g_goto (tgt := 120) dX7_canTurn_116 (by decide) ?_
                    exact g_iret (ty := .boolean) dX7_canTurn_120 rfl rfl ⟨⟨⟨1, rfl, Or.inr rfl, fun _ => ⟨hp.1, hp.2.1, hp.2.2.1, hp.2.2.2, by grind, by grind, fun q q2 => by grind, fun q q2 => by grind⟩, fun q => absurd q (by decide)⟩, rfl⟩, ee_p (by subst ex51; subst ex49; subst ex46; subst ex41; subst ex40; subst ex38; subst ex20; subst ex16; subst ex14; subst ex11; subst ex9; subst ex7; subst ex5; subst ex3; subst ex1; exact (if_neg c4).trans ((if_neg c8).trans ((if_neg c12).trans ((if_neg c21).trans ((if_neg c37).trans ((if_neg c42).trans ((if_neg c47).trans ((if_neg c48).trans ((if_neg c52).trans (rfl))))))))))⟩
          · refine g_iconst (v := 2) dX7_canTurn_66 (by decide) ?_
            refine g_goto (tgt := 71) dX7_canTurn_67 (by decide) ?_
            refine g_istore dX7_canTurn_71 (by decide) ?_
            refine g_pick (lv' := [(0, .ref (uk_ad G 60)), (1, .int m), (2, .int x14), (3, .int x16), (4, .int 2)]) [0, 1, 2, 3, 4] rfl ?_
            refine g_aload_n dX7_canTurn_73 rfl ?_
            refine f_X7_13 rfl rfl dX7_canTurn_74 ?_
            refine g_iconst (v := 0) dX7_canTurn_77 (by decide) ?_
            refine g_iload_n dX7_canTurn_78 rfl ?_
            refine g_iadd dX7_canTurn_79 ?_
            refine g_topi (fun x53 ex53 => ?_)
            have ox53 : x53 = x14 := by rw [ex53, Int32.zero_add]
            have v54 : vp_in x53 51 := uk_vin 51 rfl (by first | decide | lia | grind) (by first | decide | lia | grind)
            refine g_iald rfl rfl v54 dX7_canTurn_80 ?_
            refine g_topi (fun x55 ex55 => ?_)
            have bx55 := uk_cl v54
            have rx55 : 0 ≤ x55 ∧ x55 ≤ 40 := by rw [ex55]; exact sg_0 hu (by unfold uk_is51; decide) (by first | lia | grind) (by first | lia | grind)
            refine g_iload dX7_canTurn_81 rfl ?_
            refine g_iadd dX7_canTurn_83 ?_
            refine g_topi (fun x56 ex56 => ?_)
            refine g_bipush (v := 40) dX7_canTurn_84 (by decide) ?_
            refine g_icmp_gt (tgt := 119) dX7_canTurn_86 (by decide) (fun c57 => ?_) (fun c57 => ?_)
            · refine g_iconst (v := 0) dX7_canTurn_119 (by decide) ?_
              exact g_iret (ty := .boolean) dX7_canTurn_120 rfl rfl ⟨⟨⟨0, rfl, Or.inl rfl, fun q => absurd rfl q, fun _ => by first | trivial | lia | grind⟩, rfl⟩, ee_p (by subst ex56; subst ex55; subst ex53; subst ex20; subst ex16; subst ex14; subst ex11; subst ex9; subst ex7; subst ex5; subst ex3; subst ex1; exact (if_neg c4).trans ((if_neg c8).trans ((if_neg c12).trans ((if_neg c21).trans ((if_pos c37).trans ((if_pos c57).trans (rfl)))))))⟩
            · refine g_aload_n dX7_canTurn_89 rfl ?_
              refine g_iload_n dX7_canTurn_90 rfl ?_
              refine cl_X7_153 (c := 60) (As := [.int m]) rfl (x_X7_givesSecond (G := G) hs hu  m (by first | trivial | decide | lia | grind) (by first | trivial | decide | lia | grind) (d)) rfl (by omega) rfl rfl (Nat.le_of_ble_eq_true rfl) dX7_canTurn_91 (fun r58 u59 q60 => ?_)
              obtain ⟨q60, Eq60⟩ := q60
              obtain ⟨⟨x61, rfl, tx61, nx61, zx61⟩, mq60⟩ := q60
              rw [mq60]
              have ex61 : x61 = (e_X7_givesSecond u m) := ee_v Eq60
              refine g_if_eq (tgt := 115) dX7_canTurn_94 (by decide) (fun c62 => ?_) (fun c62 => ?_)
              · have zc62 := zx61 c62
                refine g_iconst (v := 1) dX7_canTurn_115 (by decide) ?_
                refine g_goto (tgt := 120) dX7_canTurn_116 (by decide) ?_
                exact g_iret (ty := .boolean) dX7_canTurn_120 rfl rfl ⟨⟨⟨1, rfl, Or.inr rfl, fun _ => ⟨hp.1, hp.2.1, hp.2.2.1, hp.2.2.2, by grind, by grind, fun q q2 => by grind, fun q q2 => by grind⟩, fun q => absurd q (by decide)⟩, rfl⟩, ee_p (by subst ex61; subst ex56; subst ex55; subst ex53; subst ex20; subst ex16; subst ex14; subst ex11; subst ex9; subst ex7; subst ex5; subst ex3; subst ex1; exact (if_neg c4).trans ((if_neg c8).trans ((if_neg c12).trans ((if_neg c21).trans ((if_pos c37).trans ((if_neg c57).trans ((if_pos c62).trans (rfl))))))))⟩
              · have zc62 := nx61 c62
                refine g_iload_n dX7_canTurn_97 rfl ?_
                refine g_iload_n dX7_canTurn_98 rfl ?_
                refine g_icmp_eq (tgt := 115) dX7_canTurn_99 (by decide) (fun c63 => ?_) (fun c63 => ?_)
                · refine g_iconst (v := 1) dX7_canTurn_115 (by decide) ?_
                  refine g_goto (tgt := 120) dX7_canTurn_116 (by decide) ?_
                  exact g_iret (ty := .boolean) dX7_canTurn_120 rfl rfl ⟨⟨⟨1, rfl, Or.inr rfl, fun _ => ⟨hp.1, hp.2.1, hp.2.2.1, hp.2.2.2, by grind, by grind, fun q q2 => by grind, fun q q2 => by grind⟩, fun q => absurd q (by decide)⟩, rfl⟩, ee_p (by subst ex61; subst ex56; subst ex55; subst ex53; subst ex20; subst ex16; subst ex14; subst ex11; subst ex9; subst ex7; subst ex5; subst ex3; subst ex1; exact (if_neg c4).trans ((if_neg c8).trans ((if_neg c12).trans ((if_neg c21).trans ((if_pos c37).trans ((if_neg c57).trans ((if_neg c62).trans ((if_pos c63).trans (rfl)))))))))⟩
                · refine g_aload_n dX7_canTurn_102 rfl ?_
                  refine f_X7_13 rfl rfl dX7_canTurn_103 ?_
                  refine g_iconst (v := 0) dX7_canTurn_106 (by decide) ?_
                  refine g_iload_n dX7_canTurn_107 rfl ?_
                  refine g_iadd dX7_canTurn_108 ?_
                  refine g_topi (fun x64 ex64 => ?_)
                  have ox64 : x64 = x16 := by rw [ex64, Int32.zero_add]
                  have v65 : vp_in x64 51 := uk_vin 51 rfl (by first | decide | lia | grind) (by first | decide | lia | grind)
                  refine g_iald rfl rfl v65 dX7_canTurn_109 ?_
                  refine g_topi (fun x66 ex66 => ?_)
                  have bx66 := uk_cl v65
                  have rx66 : 0 ≤ x66 ∧ x66 ≤ 40 := by rw [ex66]; exact sg_0 hu (by unfold uk_is51; decide) (by first | lia | grind) (by first | lia | grind)
                  refine g_bipush (v := 40) dX7_canTurn_110 (by decide) ?_
                  refine g_icmp_ge (tgt := 119) dX7_canTurn_112 (by decide) (fun c67 => ?_) (fun c67 => ?_)
                  · refine g_iconst (v := 0) dX7_canTurn_119 (by decide) ?_
                    exact g_iret (ty := .boolean) dX7_canTurn_120 rfl rfl ⟨⟨⟨0, rfl, Or.inl rfl, fun q => absurd rfl q, fun _ => by first | trivial | lia | grind⟩, rfl⟩, ee_p (by subst ex66; subst ex64; subst ex61; subst ex56; subst ex55; subst ex53; subst ex20; subst ex16; subst ex14; subst ex11; subst ex9; subst ex7; subst ex5; subst ex3; subst ex1; exact (if_neg c4).trans ((if_neg c8).trans ((if_neg c12).trans ((if_neg c21).trans ((if_pos c37).trans ((if_neg c57).trans ((if_neg c62).trans ((if_neg c63).trans ((if_pos c67).trans (rfl))))))))))⟩
                  · refine g_iconst (v := 1) dX7_canTurn_115 (by decide) ?_
                    refine g_goto (tgt := 120) dX7_canTurn_116 (by decide) ?_
                    exact g_iret (ty := .boolean) dX7_canTurn_120 rfl rfl ⟨⟨⟨1, rfl, Or.inr rfl, fun _ => ⟨hp.1, hp.2.1, hp.2.2.1, hp.2.2.2, by grind, by grind, fun q q2 => by grind, fun q q2 => by grind⟩, fun q => absurd q (by decide)⟩, rfl⟩, ee_p (by subst ex66; subst ex64; subst ex61; subst ex56; subst ex55; subst ex53; subst ex20; subst ex16; subst ex14; subst ex11; subst ex9; subst ex7; subst ex5; subst ex3; subst ex1; exact (if_neg c4).trans ((if_neg c8).trans ((if_neg c12).trans ((if_neg c21).trans ((if_pos c37).trans ((if_neg c57).trans ((if_neg c62).trans ((if_neg c63).trans ((if_neg c67).trans (rfl))))))))))⟩
      · refine g_iconst (v := 0) dX7_canTurn_37 (by decide) ?_
        exact g_iret (ty := .boolean) dX7_canTurn_38 rfl rfl ⟨⟨⟨0, rfl, Or.inl rfl, fun q => absurd rfl q, fun _ => by first | trivial | lia | grind⟩, rfl⟩, ee_p (by subst ex11; subst ex9; subst ex7; subst ex5; subst ex3; subst ex1; exact (if_neg c4).trans ((if_neg c8).trans ((if_pos c12).trans (rfl))))⟩
