def l_X0_isEnoughFor_9 (m : Int32) (w : Int32) (kb : Nat) : Nat → Int32 → uk_Mem → Int32 × uk_Mem
  | 0, _, u6 => (0, u6)
  | K9 + 1, i5, u6 => if i5 < 0 then (((1 : Int32), u6)) else (if i5 = m then (if w ≤ 0 then (l_X0_isEnoughFor_9 m w kb K9 (i5 - 1) u6) else (let x40 : Int32 := (e_X0_isMade u6 kb i5); if x40 = 0 then (((0 : Int32), u6)) else (let x43 : Int32 := u6.1 (kb + 2) i5.toNatClampNeg; let x45 : Int32 := u6.1 57 x43.toNatClampNeg; let x46 : Int32 := x45 + w; let u49 : uk_Mem := uk_up u6 57 x43.toNatClampNeg x46; let x51 : Int32 := u49.1 (kb + 3) i5.toNatClampNeg; let x53 : Int32 := u49.1 57 x51.toNatClampNeg; let x54 : Int32 := x53 + w; let u57 : uk_Mem := uk_up u49 57 x51.toNatClampNeg x54; l_X0_isEnoughFor_9 m w kb K9 (i5 - 1) u57))) else (let x10 : Int32 := u6.1 57 i5.toNatClampNeg; let x12 : Int32 := u6.1 (kb + 6) i5.toNatClampNeg; let x13 : Int32 := x10 - x12; if x13 ≤ 0 then (l_X0_isEnoughFor_9 m w kb K9 (i5 - 1) u6) else (let x18 : Int32 := (e_X0_isMade u6 kb i5); if x18 = 0 then (((0 : Int32), u6)) else (let x21 : Int32 := u6.1 (kb + 2) i5.toNatClampNeg; let x23 : Int32 := u6.1 57 x21.toNatClampNeg; let x24 : Int32 := x23 + x13; let u27 : uk_Mem := uk_up u6 57 x21.toNatClampNeg x24; let x29 : Int32 := u27.1 (kb + 3) i5.toNatClampNeg; let x31 : Int32 := u27.1 57 x29.toNatClampNeg; let x32 : Int32 := x31 + x13; let u35 : uk_Mem := uk_up u27 57 x29.toNatClampNeg x32; l_X0_isEnoughFor_9 m w kb K9 (i5 - 1) u35))))
def e_X0_isEnoughFor (u : uk_Mem) (kb : Nat) (m : Int32) (w : Int32) : Int32 × uk_Mem := let u2 : uk_Mem := e_X0_startNeed u m w; l_X0_isEnoughFor_9 m w kb ee_K m u2
abbrev qe_X0_isEnoughFor (u : uk_Mem) (kb : Nat) (m : Int32) (w : Int32) (r : Option Value) (u' : uk_Mem) : Prop := (q_X0_isEnoughFor u kb m w r u') ∧ (r = some (.int (e_X0_isEnoughFor u kb m w).1) ∧ u' = (e_X0_isEnoughFor u kb m w).2)
set_option maxHeartbeats 4000000 in
set_option maxRecDepth 20000 in
theorem x_X0_isEnoughFor {G : uk_D} (hs : uk_Sep G) {u : uk_Mem} (hu : iv u) {kb : Nat} (hkb : uk_isK kb) (m : Int32) (w : Int32) (p0 : 0 ≤ m) (p1 : m ≤ 7) (d : Nat) : uk_Meth G (d + 1) mX0_isEnoughFor [.ref (uk_ad G kb), .int m, .int w, .ref (uk_ad G 57)] u (qe_X0_isEnoughFor u kb m w) := by
  refine uk_Meth.of hs (by decide) (Nat.le_of_ble_eq_true rfl) (fun X => ?_)
  have f0 : fr 57 58 u u := fr_rf
  refine g_iload_n dX0_isEnoughFor_0 rfl ?_
  refine g_iload_n dX0_isEnoughFor_1 rfl ?_
  refine g_aload_n dX0_isEnoughFor_2 rfl ?_
  refine cl_X0_97 (As := [.int m, .int w, .ref (uk_ad G 57)]) rfl (x_X0_startNeed (G := G) hs hu  m w  (d)) rfl (by omega) rfl (Nat.le_of_ble_eq_true rfl) dX0_isEnoughFor_3 (fun r1 u2 q3 => ?_)
  obtain ⟨q3, Eq3⟩ := q3
  obtain ⟨rfl, mq3⟩ := q3
  obtain ⟨hu2, gu2⟩ := mq3
  have fu2 : fr 57 58 u u2 := fr_tr f0 gu2 (by omega) (by omega)
  have eu2 : u2 = e_X0_startNeed u m w := Eq3
  refine g_iload_n dX0_isEnoughFor_6 rfl ?_
  refine g_istore dX0_isEnoughFor_7 (by decide) ?_
  refine g_pick (lv' := [(0, .ref (uk_ad G kb)), (1, .int m), (2, .int w), (3, .ref (uk_ad G 57)), (4, .int m)]) [0, 1, 2, 3, 4] rfl ?_
  have L9_3 : ∀ i5 : Int32, -1 ≤ i5 → ∀ (u6 : uk_Mem), iv u6 → fr 57 58 u u6 → i5 ≤ 7 → (∃ ki5 : Nat, ee_D i5 ki5 ∧ e_X0_isEnoughFor u kb m w = l_X0_isEnoughFor_9 m w kb ki5 i5 u6) → uk_G G X mX0_isEnoughFor (d + 1) (qe_X0_isEnoughFor u kb m w) 9 [(0, .ref (uk_ad G kb)), (1, .int m), (2, .int w), (3, .ref (uk_ad G 57)), (4, .int i5)] [] u6 := by
    refine uk_dnl ?_
    intro i5 ai5 ihi5  u6 hu6 fu6 ji50 jEi5
    obtain ⟨ki5, fki5, hki5⟩ := jEi5
    obtain ⟨ki5, rfl⟩ := ee_Dp (by first | assumption | lia | grind) fki5
    refine g_iload dX0_isEnoughFor_9 rfl ?_
    refine g_if_lt (tgt := 88) dX0_isEnoughFor_11 (by decide) (fun c7 => ?_) (fun c7 => ?_)
    · refine g_iconst (v := 1) dX0_isEnoughFor_88 (by decide) ?_
      exact g_iret (ty := .boolean) dX0_isEnoughFor_89 rfl rfl ⟨⟨⟨1, rfl, Or.inr rfl, fun _ => by first | trivial | lia | grind, fun q => absurd q (by decide)⟩, hu6, fu6⟩, ee_i (by exact hki5.trans ((if_pos c7).trans (rfl)))⟩
    · refine g_iload dX0_isEnoughFor_14 rfl ?_
      refine g_iload_n dX0_isEnoughFor_16 rfl ?_
      refine g_icmp_ne (tgt := 24) dX0_isEnoughFor_17 (by decide) (fun c8 => ?_) (fun c8 => ?_)
      · refine g_aload_n dX0_isEnoughFor_24 rfl ?_
        refine g_iload dX0_isEnoughFor_25 rfl ?_
        have v9 : vp_in i5 8 := uk_vin 8 rfl (by first | decide | lia | grind) (by first | decide | lia | grind)
        refine g_iald rfl rfl v9 dX0_isEnoughFor_27 ?_
        refine g_topi (fun x10 ex10 => ?_)
        refine g_aload_n dX0_isEnoughFor_28 rfl ?_
        refine f_X0_31 rfl (kk_0 hkb) dX0_isEnoughFor_29 ?_
        refine g_iload dX0_isEnoughFor_32 rfl ?_
        have v11 : vp_in i5 8 := uk_vin 8 rfl (by first | decide | lia | grind) (by first | decide | lia | grind)
        refine g_iald (kk_6 hkb) (kl_6 hkb) v11 dX0_isEnoughFor_34 ?_
        refine g_topi (fun x12 ex12 => ?_)
        refine g_isub dX0_isEnoughFor_35 ?_
        refine g_topi (fun x13 ex13 => ?_)
        refine g_istore dX0_isEnoughFor_36 (by decide) ?_
        refine g_pick (lv' := [(0, .ref (uk_ad G kb)), (1, .int m), (2, .int w), (3, .ref (uk_ad G 57)), (4, .int i5), (5, .int x13)]) [0, 1, 2, 3, 4, 5] rfl ?_
        refine g_iload dX0_isEnoughFor_38 rfl ?_
        refine g_if_le (tgt := 82) dX0_isEnoughFor_40 (by decide) (fun c14 => ?_) (fun c14 => ?_)
        · refine g_iinc (v := i5 - 1) dX0_isEnoughFor_82 rfl (uk_m1 _) (by decide) ?_
          refine g_pick (lv' := [(0, .ref (uk_ad G kb)), (1, .int m), (2, .int w), (3, .ref (uk_ad G 57)), (4, .int (i5 - 1)), (5, .int x13)]) [0, 1, 2, 3, 4, 5] rfl ?_
          refine g_goto (tgt := 9) dX0_isEnoughFor_85 (by decide) ?_
          refine g_pick (lv' := [(0, .ref (uk_ad G kb)), (1, .int m), (2, .int w), (3, .ref (uk_ad G 57)), (4, .int (i5 - 1))]) [0, 1, 2, 3, 4] rfl ?_
          exact ihi5 (by first | lia | grind)  u6 hu6 fu6 (by first | trivial | lia | grind) ⟨ki5, ee_Ds fki5 (by first | assumption | lia | grind), by subst ex13; subst ex12; subst ex10; exact hki5.trans ((if_neg c7).trans ((if_neg c8).trans ((if_pos c14).trans (rfl))))⟩
        · refine g_aload_n dX0_isEnoughFor_43 rfl ?_
          refine g_iload dX0_isEnoughFor_44 rfl ?_
          refine cl_X0_61 (c := kb) (As := [.int i5]) rfl (x_X0_isMade (G := G) hs hu6 hkb i5 (by first | trivial | decide | lia | grind) (by first | trivial | decide | lia | grind) (d)) rfl (by omega) (kk_0 hkb) rfl (Nat.le_of_ble_eq_true rfl) dX0_isEnoughFor_46 (fun r15 u16 q17 => ?_)
          obtain ⟨q17, Eq17⟩ := q17
          obtain ⟨⟨x18, rfl, tx18, nx18, zx18⟩, mq17⟩ := q17
          rw [mq17]
          have ex18 : x18 = (e_X0_isMade u6 kb i5) := ee_v Eq17
          refine g_if_ne (tgt := 54) dX0_isEnoughFor_49 (by decide) (fun c19 => ?_) (fun c19 => ?_)
          · have zc19 := nx18 c19
            refine g_aload_n dX0_isEnoughFor_54 rfl ?_
            refine g_aload_n dX0_isEnoughFor_55 rfl ?_
            refine f_X0_19 rfl (kk_0 hkb) dX0_isEnoughFor_56 ?_
            refine g_iload dX0_isEnoughFor_59 rfl ?_
            have v20 : vp_in i5 8 := uk_vin 8 rfl (by first | decide | lia | grind) (by first | decide | lia | grind)
            refine g_iald (kk_2 hkb) (kl_2 hkb) v20 dX0_isEnoughFor_61 ?_
            refine g_topi (fun x21 ex21 => ?_)
            have bx21 := uk_cl v20
            have rx21 : 0 ≤ x21 ∧ x21 ≤ 7 := by rw [ex21]; exact iv_at hu6 _ _ (ka_2 hkb _ (by omega))
            refine g_dup2 dX0_isEnoughFor_62 rfl rfl ?_
            have v22 : vp_in x21 8 := uk_vin 8 rfl (by first | decide | lia | grind) (by first | decide | lia | grind)
            refine g_iald rfl rfl v22 dX0_isEnoughFor_63 ?_
            refine g_topi (fun x23 ex23 => ?_)
            refine g_iload dX0_isEnoughFor_64 rfl ?_
            refine g_iadd dX0_isEnoughFor_66 ?_
            refine g_topi (fun x24 ex24 => ?_)
            have v25 : vp_in x21 8 := uk_vin 8 rfl (by first | decide | lia | grind) (by first | decide | lia | grind)
            have b26 := uk_cl v25
            refine g_iast rfl rfl v25 dX0_isEnoughFor_67 ?_
            refine g_mem (fun u27 eu27 => ?_)
            have hu27 : iv u27 := by rw [eu27]; exact iv_upF hu6 (uk_pick1 _ (by omega))
            have fu27 : fr 57 58 u u27 := by rw [eu27]; exact fr_up fu6 (by omega) (by omega)
            refine g_aload_n dX0_isEnoughFor_68 rfl ?_
            refine g_aload_n dX0_isEnoughFor_69 rfl ?_
            refine f_X0_22 rfl (kk_0 hkb) dX0_isEnoughFor_70 ?_
            refine g_iload dX0_isEnoughFor_73 rfl ?_
            have v28 : vp_in i5 8 := uk_vin 8 rfl (by first | decide | lia | grind) (by first | decide | lia | grind)
            refine g_iald (kk_3 hkb) (kl_3 hkb) v28 dX0_isEnoughFor_75 ?_
            refine g_topi (fun x29 ex29 => ?_)
            have bx29 := uk_cl v28
            have rx29 : 0 ≤ x29 ∧ x29 ≤ 7 := by rw [ex29]; exact iv_at hu27 _ _ (ka_3 hkb _ (by omega))
            refine g_dup2 dX0_isEnoughFor_76 rfl rfl ?_
            have v30 : vp_in x29 8 := uk_vin 8 rfl (by first | decide | lia | grind) (by first | decide | lia | grind)
            refine g_iald rfl rfl v30 dX0_isEnoughFor_77 ?_
            refine g_topi (fun x31 ex31 => ?_)
            refine g_iload dX0_isEnoughFor_78 rfl ?_
            refine g_iadd dX0_isEnoughFor_80 ?_
            refine g_topi (fun x32 ex32 => ?_)
            have v33 : vp_in x29 8 := uk_vin 8 rfl (by first | decide | lia | grind) (by first | decide | lia | grind)
            have b34 := uk_cl v33
            refine g_iast rfl rfl v33 dX0_isEnoughFor_81 ?_
            refine g_mem (fun u35 eu35 => ?_)
            have hu35 : iv u35 := by rw [eu35]; exact iv_upF hu27 (uk_pick1 _ (by omega))
            have fu35 : fr 57 58 u u35 := by rw [eu35]; exact fr_up fu27 (by omega) (by omega)
            refine g_iinc (v := i5 - 1) dX0_isEnoughFor_82 rfl (uk_m1 _) (by decide) ?_
            refine g_pick (lv' := [(0, .ref (uk_ad G kb)), (1, .int m), (2, .int w), (3, .ref (uk_ad G 57)), (4, .int (i5 - 1)), (5, .int x13)]) [0, 1, 2, 3, 4, 5] rfl ?_
            refine g_goto (tgt := 9) dX0_isEnoughFor_85 (by decide) ?_
            refine g_pick (lv' := [(0, .ref (uk_ad G kb)), (1, .int m), (2, .int w), (3, .ref (uk_ad G 57)), (4, .int (i5 - 1))]) [0, 1, 2, 3, 4] rfl ?_
            exact ihi5 (by first | lia | grind)  u35 hu35 fu35 (by first | trivial | lia | grind) ⟨ki5, ee_Ds fki5 (by first | assumption | lia | grind), by subst eu35; subst ex32; subst ex31; subst ex29; subst eu27; subst ex24; subst ex23; subst ex21; subst ex18; subst ex13; subst ex12; subst ex10; exact hki5.trans ((if_neg c7).trans ((if_neg c8).trans ((if_neg c14).trans ((if_neg c19).trans (rfl)))))⟩
          · have zc19 := zx18 c19
            refine g_iconst (v := 0) dX0_isEnoughFor_52 (by decide) ?_
            exact g_iret (ty := .boolean) dX0_isEnoughFor_53 rfl rfl ⟨⟨⟨0, rfl, Or.inl rfl, fun q => absurd rfl q, fun _ => by first | trivial | lia | grind⟩, hu6, fu6⟩, ee_i (by subst ex18; subst ex13; subst ex12; subst ex10; exact hki5.trans ((if_neg c7).trans ((if_neg c8).trans ((if_neg c14).trans ((if_pos c19).trans (rfl))))))⟩
      · refine g_iload_n dX0_isEnoughFor_20 rfl ?_
        refine g_goto (tgt := 36) dX0_isEnoughFor_21 (by decide) ?_
        refine g_istore dX0_isEnoughFor_36 (by decide) ?_
        refine g_pick (lv' := [(0, .ref (uk_ad G kb)), (1, .int m), (2, .int w), (3, .ref (uk_ad G 57)), (4, .int i5), (5, .int w)]) [0, 1, 2, 3, 4, 5] rfl ?_
        refine g_iload dX0_isEnoughFor_38 rfl ?_
        refine g_if_le (tgt := 82) dX0_isEnoughFor_40 (by decide) (fun c36 => ?_) (fun c36 => ?_)
        · refine g_iinc (v := i5 - 1) dX0_isEnoughFor_82 rfl (uk_m1 _) (by decide) ?_
          refine g_pick (lv' := [(0, .ref (uk_ad G kb)), (1, .int m), (2, .int w), (3, .ref (uk_ad G 57)), (4, .int (i5 - 1)), (5, .int w)]) [0, 1, 2, 3, 4, 5] rfl ?_
          refine g_goto (tgt := 9) dX0_isEnoughFor_85 (by decide) ?_
          refine g_pick (lv' := [(0, .ref (uk_ad G kb)), (1, .int m), (2, .int w), (3, .ref (uk_ad G 57)), (4, .int (i5 - 1))]) [0, 1, 2, 3, 4] rfl ?_
          exact ihi5 (by first | lia | grind)  u6 hu6 fu6 (by first | trivial | lia | grind) ⟨ki5, ee_Ds fki5 (by first | assumption | lia | grind), by exact hki5.trans ((if_neg c7).trans ((if_pos c8).trans ((if_pos c36).trans (rfl))))⟩
        · refine g_aload_n dX0_isEnoughFor_43 rfl ?_
          refine g_iload dX0_isEnoughFor_44 rfl ?_
          refine cl_X0_61 (c := kb) (As := [.int i5]) rfl (x_X0_isMade (G := G) hs hu6 hkb i5 (by first | trivial | decide | lia | grind) (by first | trivial | decide | lia | grind) (d)) rfl (by omega) (kk_0 hkb) rfl (Nat.le_of_ble_eq_true rfl) dX0_isEnoughFor_46 (fun r37 u38 q39 => ?_)
          obtain ⟨q39, Eq39⟩ := q39
          obtain ⟨⟨x40, rfl, tx40, nx40, zx40⟩, mq39⟩ := q39
          rw [mq39]
          have ex40 : x40 = (e_X0_isMade u6 kb i5) := ee_v Eq39
          refine g_if_ne (tgt := 54) dX0_isEnoughFor_49 (by decide) (fun c41 => ?_) (fun c41 => ?_)
          · have zc41 := nx40 c41
            refine g_aload_n dX0_isEnoughFor_54 rfl ?_
            refine g_aload_n dX0_isEnoughFor_55 rfl ?_
            refine f_X0_19 rfl (kk_0 hkb) dX0_isEnoughFor_56 ?_
            refine g_iload dX0_isEnoughFor_59 rfl ?_
            have v42 : vp_in i5 8 := uk_vin 8 rfl (by first | decide | lia | grind) (by first | decide | lia | grind)
            refine g_iald (kk_2 hkb) (kl_2 hkb) v42 dX0_isEnoughFor_61 ?_
            refine g_topi (fun x43 ex43 => ?_)
            have bx43 := uk_cl v42
            have rx43 : 0 ≤ x43 ∧ x43 ≤ 7 := by rw [ex43]; exact iv_at hu6 _ _ (ka_2 hkb _ (by omega))
            refine g_dup2 dX0_isEnoughFor_62 rfl rfl ?_
            have v44 : vp_in x43 8 := uk_vin 8 rfl (by first | decide | lia | grind) (by first | decide | lia | grind)
            refine g_iald rfl rfl v44 dX0_isEnoughFor_63 ?_
            refine g_topi (fun x45 ex45 => ?_)
            refine g_iload dX0_isEnoughFor_64 rfl ?_
            refine g_iadd dX0_isEnoughFor_66 ?_
            refine g_topi (fun x46 ex46 => ?_)
            have v47 : vp_in x43 8 := uk_vin 8 rfl (by first | decide | lia | grind) (by first | decide | lia | grind)
            have b48 := uk_cl v47
            refine g_iast rfl rfl v47 dX0_isEnoughFor_67 ?_
            refine g_mem (fun u49 eu49 => ?_)
            have hu49 : iv u49 := by rw [eu49]; exact iv_upF hu6 (uk_pick1 _ (by omega))
            have fu49 : fr 57 58 u u49 := by rw [eu49]; exact fr_up fu6 (by omega) (by omega)
            refine g_aload_n dX0_isEnoughFor_68 rfl ?_
            refine g_aload_n dX0_isEnoughFor_69 rfl ?_
            refine f_X0_22 rfl (kk_0 hkb) dX0_isEnoughFor_70 ?_
            refine g_iload dX0_isEnoughFor_73 rfl ?_
            have v50 : vp_in i5 8 := uk_vin 8 rfl (by first | decide | lia | grind) (by first | decide | lia | grind)
            refine g_iald (kk_3 hkb) (kl_3 hkb) v50 dX0_isEnoughFor_75 ?_
            refine g_topi (fun x51 ex51 => ?_)
            have bx51 := uk_cl v50
            have rx51 : 0 ≤ x51 ∧ x51 ≤ 7 := by rw [ex51]; exact iv_at hu49 _ _ (ka_3 hkb _ (by omega))
            refine g_dup2 dX0_isEnoughFor_76 rfl rfl ?_
            have v52 : vp_in x51 8 := uk_vin 8 rfl (by first | decide | lia | grind) (by first | decide | lia | grind)
            refine g_iald rfl rfl v52 dX0_isEnoughFor_77 ?_
            refine g_topi (fun x53 ex53 => ?_)
            refine g_iload dX0_isEnoughFor_78 rfl ?_
            refine g_iadd dX0_isEnoughFor_80 ?_
            refine g_topi (fun x54 ex54 => ?_)
            have v55 : vp_in x51 8 := uk_vin 8 rfl (by first | decide | lia | grind) (by first | decide | lia | grind)
            have b56 := uk_cl v55
            refine g_iast rfl rfl v55 dX0_isEnoughFor_81 ?_
            refine g_mem (fun u57 eu57 => ?_)
            have hu57 : iv u57 := by rw [eu57]; exact iv_upF hu49 (uk_pick1 _ (by omega))
            have fu57 : fr 57 58 u u57 := by rw [eu57]; exact fr_up fu49 (by omega) (by omega)
            refine g_iinc (v := i5 - 1) dX0_isEnoughFor_82 rfl (uk_m1 _) (by decide) ?_
            refine g_pick (lv' := [(0, .ref (uk_ad G kb)), (1, .int m), (2, .int w), (3, .ref (uk_ad G 57)), (4, .int (i5 - 1)), (5, .int w)]) [0, 1, 2, 3, 4, 5] rfl ?_
            refine g_goto (tgt := 9) dX0_isEnoughFor_85 (by decide) ?_
            refine g_pick (lv' := [(0, .ref (uk_ad G kb)), (1, .int m), (2, .int w), (3, .ref (uk_ad G 57)), (4, .int (i5 - 1))]) [0, 1, 2, 3, 4] rfl ?_
            exact ihi5 (by first | lia | grind)  u57 hu57 fu57 (by first | trivial | lia | grind) ⟨ki5, ee_Ds fki5 (by first | assumption | lia | grind), by subst eu57; subst ex54; subst ex53; subst ex51; subst eu49; subst ex46; subst ex45; subst ex43; subst ex40; exact hki5.trans ((if_neg c7).trans ((if_pos c8).trans ((if_neg c36).trans ((if_neg c41).trans (rfl)))))⟩
          · have zc41 := zx40 c41
            refine g_iconst (v := 0) dX0_isEnoughFor_52 (by decide) ?_
            exact g_iret (ty := .boolean) dX0_isEnoughFor_53 rfl rfl ⟨⟨⟨0, rfl, Or.inl rfl, fun q => absurd rfl q, fun _ => by first | trivial | lia | grind⟩, hu6, fu6⟩, ee_i (by subst ex40; exact hki5.trans ((if_neg c7).trans ((if_pos c8).trans ((if_neg c36).trans ((if_pos c41).trans (rfl))))))⟩
  refine g_pick (lv' := [(0, .ref (uk_ad G kb)), (1, .int m), (2, .int w), (3, .ref (uk_ad G 57)), (4, .int m)]) [0, 1, 2, 3, 4] rfl ?_
  exact L9_3 m (by first | decide | lia | grind)  u2 hu2 fu2 (by first | trivial | lia | grind) ⟨ee_K, ee_D0 _, by subst eu2; exact rfl⟩
def l_X6_most_29 (m : Int32) : Nat → Int32 → uk_Mem → Int32 × uk_Mem
  | 0, _, u13 => (0, u13)
  | K9 + 1, i12, u13 => if (40 : Int32) ≤ i12 then ((i12, u13)) else (let x15 : Int32 := i12 + (1 : Int32); let x19 : Int32 := (e_X0_isEnoughFor u13 13 m x15).1; let u17 : uk_Mem := (e_X0_isEnoughFor u13 13 m x15).2; if x19 = 0 then ((i12, u17)) else (l_X6_most_29 m K9 (i12 + 1) u17))
def e_X6_most (u : uk_Mem) (m : Int32) : Int32 × uk_Mem := let x4 : Int32 := (e_X0_hasStuff u 13 m); if x4 = 0 then (((-1 : Int32), u)) else (let x9 : Int32 := (e_X0_isMade u 13 m); if x9 = 0 then (((-2 : Int32), u)) else (l_X6_most_29 m ee_K (0 : Int32) u))
abbrev qe_X6_most (u : uk_Mem) (m : Int32) (r : Option Value) (u' : uk_Mem) : Prop := (q_X6_most u m r u') ∧ (r = some (.int (e_X6_most u m).1) ∧ u' = (e_X6_most u m).2)
set_option maxHeartbeats 4000000 in
set_option maxRecDepth 20000 in
theorem x_X6_most {G : uk_D} (hs : uk_Sep G) {u : uk_Mem} (hu : iv u) (m : Int32) (d : Nat) : uk_Meth G (d + 2) mX6_most [.ref (uk_ad G 0), .int m] u (qe_X6_most u m) := by
  refine uk_Meth.of hs (by decide) (Nat.le_of_ble_eq_true rfl) (fun X => ?_)
  have f0 : fr 57 58 u u := fr_rf
  refine g_aload_n dX6_most_0 rfl ?_
  refine f_X6_10 rfl rfl dX6_most_1 ?_
  refine g_iload_n dX6_most_4 rfl ?_
  refine cl_X6_118 (c := 13) (As := [.int m]) rfl (x_X0_hasStuff (G := G) hs hu uk_isK13 m  (d + 1)) rfl (by omega) rfl rfl (Nat.le_of_ble_eq_true rfl) dX6_most_5 (fun r1 u2 q3 => ?_)
  obtain ⟨q3, Eq3⟩ := q3
  obtain ⟨⟨x4, rfl, tx4, nx4, zx4⟩, mq3⟩ := q3
  rw [mq3]
  have ex4 : x4 = (e_X0_hasStuff u 13 m) := ee_v Eq3
  refine g_if_ne (tgt := 13) dX6_most_8 (by decide) (fun c5 => ?_) (fun c5 => ?_)
  · have zc5 := nx4 c5
    refine g_aload_n dX6_most_13 rfl ?_
    refine f_X6_10 rfl rfl dX6_most_14 ?_
    refine g_iload_n dX6_most_17 rfl ?_
    refine cl_X6_122 (c := 13) (As := [.int m]) rfl (x_X0_isMade (G := G) hs hu uk_isK13 m (by first | trivial | decide | lia | grind) (by first | trivial | decide | lia | grind) (d + 1)) rfl (by omega) rfl rfl (Nat.le_of_ble_eq_true rfl) dX6_most_18 (fun r6 u7 q8 => ?_)
    obtain ⟨q8, Eq8⟩ := q8
    obtain ⟨⟨x9, rfl, tx9, nx9, zx9⟩, mq8⟩ := q8
    rw [mq8]
    have ex9 : x9 = (e_X0_isMade u 13 m) := ee_v Eq8
    refine g_if_ne (tgt := 27) dX6_most_21 (by decide) (fun c10 => ?_) (fun c10 => ?_)
    · have zc10 := nx9 c10
      refine g_iconst (v := 0) dX6_most_27 (by decide) ?_
      refine g_istore_n dX6_most_28 (by decide) ?_
      refine g_pick (lv' := [(0, .ref (uk_ad G 0)), (1, .int m), (2, .int 0)]) [0, 1, 2] rfl ?_
      have L29_10 : ∀ i12 : Int32, 0 ≤ i12 → i12 ≤ 40 → ∀ (u13 : uk_Mem), iv u13 → fr 57 58 u u13 → (∃ ki12 : Nat, ee_F 40 i12 ki12 ∧ e_X6_most u m = l_X6_most_29 m ki12 i12 u13) → uk_G G X mX6_most (d + 2) (qe_X6_most u m) 29 [(0, .ref (uk_ad G 0)), (1, .int m), (2, .int i12)] [] u13 := by
        refine uk_upl 40 ?_
        intro i12 ai12 bi12 ihi12  u13 hu13 fu13 jEi12
        obtain ⟨ki12, fki12, hki12⟩ := jEi12
        obtain ⟨ki12, rfl⟩ := ee_Fp (by first | assumption | lia | grind) fki12
        refine g_iload_n dX6_most_29 rfl ?_
        refine g_bipush (v := 40) dX6_most_30 (by decide) ?_
        refine g_icmp_ge (tgt := 59) dX6_most_32 (by decide) (fun c14 => ?_) (fun c14 => ?_)
        · refine g_iload_n dX6_most_59 rfl ?_
          exact g_iret (ty := .int) dX6_most_60 rfl rfl ⟨⟨⟨_, rfl, by first | trivial | lia | grind⟩, hu13, fu13⟩, ee_i (by exact hki12.trans ((if_pos c14).trans (rfl)))⟩
        · refine g_aload_n dX6_most_35 rfl ?_
          refine f_X6_10 rfl rfl dX6_most_36 ?_
          refine g_iload_n dX6_most_39 rfl ?_
          refine g_iload_n dX6_most_40 rfl ?_
          refine g_iconst (v := 1) dX6_most_41 (by decide) ?_
          refine g_iadd dX6_most_42 ?_
          refine g_topi (fun x15 ex15 => ?_)
          refine g_aload_n dX6_most_43 rfl ?_
          refine f_X6_66 rfl rfl dX6_most_44 ?_
          refine cl_X6_165 (c := 13) (As := [.int m, .int x15, .ref (uk_ad G 57)]) rfl (x_X0_isEnoughFor (G := G) hs hu13 uk_isK13 m x15 (by first | trivial | decide | lia | grind) (by first | trivial | decide | lia | grind) (d)) rfl (by omega) rfl rfl (Nat.le_of_ble_eq_true rfl) dX6_most_47 (fun r16 u17 q18 => ?_)
          obtain ⟨q18, Eq18⟩ := q18
          obtain ⟨⟨x19, rfl, tx19, nx19, zx19⟩, mq18⟩ := q18
          obtain ⟨hu17, gu17⟩ := mq18
          have fu17 : fr 57 58 u u17 := fr_tr fu13 gu17 (by omega) (by omega)
          have ex19 : x19 = (e_X0_isEnoughFor u13 13 m x15).1 := ee_v Eq18.1
          have eu17 : u17 = (e_X0_isEnoughFor u13 13 m x15).2 := Eq18.2
          refine g_if_eq (tgt := 59) dX6_most_50 (by decide) (fun c20 => ?_) (fun c20 => ?_)
          · have zc20 := zx19 c20
            refine g_iload_n dX6_most_59 rfl ?_
            exact g_iret (ty := .int) dX6_most_60 rfl rfl ⟨⟨⟨_, rfl, by first | trivial | lia | grind⟩, hu17, fu17⟩, ee_i (by subst eu17; subst ex19; subst ex15; exact hki12.trans ((if_neg c14).trans ((if_pos c20).trans (rfl))))⟩
          · have zc20 := nx19 c20
            refine g_iinc (v := i12 + 1) dX6_most_53 rfl rfl (by decide) ?_
            refine g_pick (lv' := [(0, .ref (uk_ad G 0)), (1, .int m), (2, .int (i12 + 1))]) [0, 1, 2] rfl ?_
            refine g_goto (tgt := 29) dX6_most_56 (by decide) ?_
            refine g_pick (lv' := [(0, .ref (uk_ad G 0)), (1, .int m), (2, .int (i12 + 1))]) [0, 1, 2] rfl ?_
            exact ihi12 (by first | lia | grind)  u17 hu17 fu17  ⟨ki12, ee_Fs fki12 (by first | assumption | lia | grind), by subst eu17; subst ex19; subst ex15; exact hki12.trans ((if_neg c14).trans ((if_neg c20).trans (rfl)))⟩
      refine g_pick (lv' := [(0, .ref (uk_ad G 0)), (1, .int m), (2, .int 0)]) [0, 1, 2] rfl ?_
      exact L29_10 0 (by first | decide | lia | grind) (by first | decide | lia | grind)  u hu f0  ⟨ee_K, ee_F0 _ _, by subst ex9; subst ex4; exact (if_neg c5).trans ((if_neg c10).trans (rfl))⟩
    · have zc10 := zx9 c10
      refine g_bipush (v := (-2)) dX6_most_24 (by decide) ?_
      exact g_iret (ty := .int) dX6_most_26 rfl rfl ⟨⟨⟨_, rfl, by first | trivial | lia | grind⟩, hu, f0⟩, ee_i (by subst ex9; subst ex4; exact (if_neg c5).trans ((if_pos c10).trans (rfl)))⟩
  · have zc5 := zx4 c5
    refine g_iconst (v := (-1)) dX6_most_11 (by decide) ?_
    exact g_iret (ty := .int) dX6_most_12 rfl rfl ⟨⟨⟨_, rfl, by first | trivial | lia | grind⟩, hu, f0⟩, ee_i (by subst ex4; exact (if_pos c5).trans (rfl))⟩
def l_X7_canHave_34 (m : Int32) : Nat → Int32 → uk_Mem → Int32 × uk_Mem
  | 0, _, u9 => (0, u9)
  | K9 + 1, i8, u9 => if i8 < 0 then (((1 : Int32), u9)) else (if i8 = m then (let x50 : Int32 := u9.1 70 i8.toNatClampNeg; if x50 ≤ (0 : Int32) then (l_X7_canHave_34 m K9 (i8 - 1) u9) else (let x55 : Int32 := u9.1 70 i8.toNatClampNeg; let x56 : Int32 := x55 - (0 : Int32); if x56 ≤ 0 then (if x56 ≤ 0 then (l_X7_canHave_34 m K9 (i8 - 1) u9) else ((0, u9))) else (let x62 : Int32 := (e_X7_isRaw u9 i8); if x62 = 0 then (if x56 ≤ 0 then (l_X7_canHave_34 m K9 (i8 - 1) u9) else (let x66 : Int32 := u9.1 64 i8.toNatClampNeg; let x68 : Int32 := u9.1 70 x66.toNatClampNeg; let x69 : Int32 := x68 + x56; let u72 : uk_Mem := uk_up u9 70 x66.toNatClampNeg x69; let x75 : Int32 := u72.1 65 i8.toNatClampNeg; let x77 : Int32 := u72.1 70 x75.toNatClampNeg; let x78 : Int32 := x77 + x56; let u81 : uk_Mem := uk_up u72 70 x75.toNatClampNeg x78; l_X7_canHave_34 m K9 (i8 - 1) u81)) else (((0 : Int32), u9))))) else (let x12 : Int32 := (0 : Int32) + i8; let x14 : Int32 := u9.1 61 x12.toNatClampNeg; let x16 : Int32 := u9.1 70 i8.toNatClampNeg; if x16 ≤ x14 then (l_X7_canHave_34 m K9 (i8 - 1) u9) else (let x21 : Int32 := u9.1 70 i8.toNatClampNeg; let x22 : Int32 := x21 - x14; if x22 ≤ 0 then (if x22 ≤ 0 then (l_X7_canHave_34 m K9 (i8 - 1) u9) else ((0, u9))) else (let x28 : Int32 := (e_X7_isRaw u9 i8); if x28 = 0 then (if x22 ≤ 0 then (l_X7_canHave_34 m K9 (i8 - 1) u9) else (let x32 : Int32 := u9.1 64 i8.toNatClampNeg; let x34 : Int32 := u9.1 70 x32.toNatClampNeg; let x35 : Int32 := x34 + x22; let u38 : uk_Mem := uk_up u9 70 x32.toNatClampNeg x35; let x41 : Int32 := u38.1 65 i8.toNatClampNeg; let x43 : Int32 := u38.1 70 x41.toNatClampNeg; let x44 : Int32 := x43 + x22; let u47 : uk_Mem := uk_up u38 70 x41.toNatClampNeg x44; l_X7_canHave_34 m K9 (i8 - 1) u47)) else (((0 : Int32), u9))))))
def l_X7_canHave_2 (m : Int32) (n : Int32) : Nat → Int32 → uk_Mem → Int32 × uk_Mem
  | 0, _, u3 => (0, u3)
  | K9 + 1, i2, u3 => let x4 : Int32 := u3.1 60 3; if x4 ≤ i2 then (l_X7_canHave_34 m ee_K m u3) else (if i2 = m then (let u89 : uk_Mem := uk_up u3 70 i2.toNatClampNeg n; l_X7_canHave_2 m n K9 (i2 + 1) u89) else (let u86 : uk_Mem := uk_up u3 70 i2.toNatClampNeg (0 : Int32); l_X7_canHave_2 m n K9 (i2 + 1) u86))
def e_X7_canHave (u : uk_Mem) (m : Int32) (n : Int32) : Int32 × uk_Mem := l_X7_canHave_2 m n ee_K (0 : Int32) u
abbrev qe_X7_canHave (u : uk_Mem) (m : Int32) (n : Int32) (r : Option Value) (u' : uk_Mem) : Prop := (q_X7_canHave u m n r u') ∧ (r = some (.int (e_X7_canHave u m n).1) ∧ u' = (e_X7_canHave u m n).2)
set_option maxHeartbeats 4000000 in
set_option maxRecDepth 20000 in
theorem x_X7_canHave {G : uk_D} (hs : uk_Sep G) {u : uk_Mem} (hu : iv u) (hri : ri u) (m : Int32) (n : Int32) (p0 : 0 ≤ m) (p1 : m < u.1 60 3) (p2 : m ≤ 7) (d : Nat) : uk_Meth G (d + 1) mX7_canHave [.ref (uk_ad G 60), .int m, .int n] u (qe_X7_canHave u m n) := by
  refine uk_Meth.of hs (by decide) (Nat.le_of_ble_eq_true rfl) (fun X => ?_)
  have f0 : fk [70] [] u u := fk_rf
  have C61 : u.1 61 = u.1 61 := rfl
  refine g_iconst (v := 0) dX7_canHave_0 (by decide) ?_
  refine g_istore_n dX7_canHave_1 (by decide) ?_
  refine g_pick (lv' := [(0, .ref (uk_ad G 60)), (1, .int m), (2, .int n), (3, .int 0)]) [0, 1, 2, 3] rfl ?_
  have L2_0 : ∀ i2 : Int32, 0 ≤ i2 → i2 ≤ 8 → ∀ (u3 : uk_Mem), iv u3 → fk [70] [] u u3 → ri u3 → az n (u3.1 70) i2 → (∃ ki2 : Nat, ee_F 8 i2 ki2 ∧ e_X7_canHave u m n = l_X7_canHave_2 m n ki2 i2 u3) → uk_G G X mX7_canHave (d + 1) (qe_X7_canHave u m n) 2 [(0, .ref (uk_ad G 60)), (1, .int m), (2, .int n), (3, .int i2)] [] u3 := by
    refine uk_upl 8 ?_
    intro i2 ai2 bi2 ihi2  u3 hu3 fu3 riu3 ji20 jEi2
    obtain ⟨ki2, fki2, hki2⟩ := jEi2
    obtain ⟨ki2, rfl⟩ := ee_Fp (by first | assumption | lia | grind) fki2
    have wu3_60_3 : u3.1 60 3 = u.1 60 3 := fk_at fu3 (by decide)
    refine g_iload_n dX7_canHave_2 rfl ?_
    refine g_aload_n dX7_canHave_3 rfl ?_
    refine f_X7_79 rfl rfl dX7_canHave_4 ?_
    refine g_topi (fun x4 ex4 => ?_)
    have rx4 : 0 ≤ x4 ∧ x4 ≤ 8 := by rw [ex4]; exact iv_at hu3 _ _ rfl
    have s5 : u3.1 60 3 = x4 := ex4.symm
    refine g_icmp_ge (tgt := 32) dX7_canHave_7 (by decide) (fun c6 => ?_) (fun c6 => ?_)
    · refine g_iload_n dX7_canHave_32 rfl ?_
      refine g_istore_n dX7_canHave_33 (by decide) ?_
      refine g_pick (lv' := [(0, .ref (uk_ad G 60)), (1, .int m), (2, .int n), (3, .int m)]) [0, 1, 2, 3] rfl ?_
      have L34_6 : ∀ i8 : Int32, -1 ≤ i8 → ∀ (u9 : uk_Mem), iv u9 → fk [70] [] u u9 → ri u9 → i8 ≤ 7 → i8 < u.1 60 3 → az n (u9.1 70) (u.1 60 3) → (∃ ki8 : Nat, ee_D i8 ki8 ∧ e_X7_canHave u m n = l_X7_canHave_34 m ki8 i8 u9) → uk_G G X mX7_canHave (d + 1) (qe_X7_canHave u m n) 34 [(0, .ref (uk_ad G 60)), (1, .int m), (2, .int n), (3, .int i8)] [] u9 := by
        refine uk_dnl ?_
        intro i8 ai8 ihi8  u9 hu9 fu9 riu9 ji80 ji81 ji82 jEi8
        obtain ⟨ki8, fki8, hki8⟩ := jEi8
        obtain ⟨ki8, rfl⟩ := ee_Dp (by first | assumption | lia | grind) fki8
        have C61_u9 : u9.1 61 = u9.1 61 := rfl
        have wu9_60_3 : u9.1 60 3 = u.1 60 3 := fk_at fu9 (by decide)
        refine g_iload_n dX7_canHave_34 rfl ?_
        refine g_if_lt (tgt := 141) dX7_canHave_35 (by decide) (fun c10 => ?_) (fun c10 => ?_)
        · refine g_iconst (v := 1) dX7_canHave_141 (by decide) ?_
          exact g_iret (ty := .boolean) dX7_canHave_142 rfl rfl ⟨⟨⟨1, rfl, Or.inr rfl, fun _ => by first | trivial | lia | grind, fun q => absurd q (by decide)⟩, hu9, fu9, riu9⟩, ee_i (by exact hki8.trans ((if_pos c10).trans (rfl)))⟩
        · refine g_iload_n dX7_canHave_38 rfl ?_
          refine g_iload_n dX7_canHave_39 rfl ?_
          refine g_icmp_ne (tgt := 47) dX7_canHave_40 (by decide) (fun c11 => ?_) (fun c11 => ?_)
          · refine g_aload_n dX7_canHave_47 rfl ?_
            refine f_X7_7 rfl rfl dX7_canHave_48 ?_
            refine g_iconst (v := 0) dX7_canHave_51 (by decide) ?_
            refine g_iload_n dX7_canHave_52 rfl ?_
            refine g_iadd dX7_canHave_53 ?_
            refine g_topi (fun x12 ex12 => ?_)
            have ox12 : x12 = i8 := by rw [ex12, Int32.zero_add]
            have v13 : vp_in x12 153 := uk_vin 153 rfl (by first | decide | lia | grind) (by first | decide | lia | grind)
            refine g_iald rfl rfl v13 dX7_canHave_54 ?_
            refine g_topi (fun x14 ex14 => ?_)
            have bx14 := uk_cl v13
            have rx14 : 0 ≤ x14 ∧ x14 ≤ 40 := by rw [ex14]; exact sg_0 hu9 (by unfold uk_is51; decide) (by first | lia | grind) (by first | lia | grind)
            have px14 : x14 = (u9.1 61) (x12 : Int32).toNatClampNeg := ex14.trans (congrFun C61_u9 _)
            refine g_istore dX7_canHave_55 (by decide) ?_
            refine g_pick (lv' := [(0, .ref (uk_ad G 60)), (1, .int m), (2, .int n), (3, .int i8), (4, .int x14)]) [0, 1, 2, 3, 4] rfl ?_
            refine g_aload_n dX7_canHave_57 rfl ?_
            refine f_X7_38 rfl rfl dX7_canHave_58 ?_
            refine g_iload_n dX7_canHave_61 rfl ?_
            have v15 : vp_in i8 8 := uk_vin 8 rfl (by first | decide | lia | grind) (by first | decide | lia | grind)
            refine g_iald rfl rfl v15 dX7_canHave_62 ?_
            refine g_topi (fun x16 ex16 => ?_)
            refine g_iload dX7_canHave_63 rfl ?_
            refine g_icmp_le (tgt := 80) dX7_canHave_65 (by decide) (fun c17 => ?_) (fun c17 => ?_)
            · refine g_iconst (v := 0) dX7_canHave_80 (by decide) ?_
              refine g_istore dX7_canHave_81 (by decide) ?_
              refine g_pick (lv' := [(0, .ref (uk_ad G 60)), (1, .int m), (2, .int n), (3, .int i8), (4, .int x14), (5, .int 0)]) [0, 1, 2, 3, 4, 5] rfl ?_
              refine g_iload dX7_canHave_83 rfl ?_
              refine g_if_le (tgt := 98) dX7_canHave_85 (by decide) (fun c18 => ?_) (fun c18 => ?_)
              · refine g_iload dX7_canHave_98 rfl ?_
                refine g_if_le (tgt := 135) dX7_canHave_100 (by decide) (fun c19 => ?_) (fun c19 => ?_)
                · refine g_iinc (v := i8 - 1) dX7_canHave_135 rfl (uk_m1 _) (by decide) ?_
                  refine g_pick (lv' := [(0, .ref (uk_ad G 60)), (1, .int m), (2, .int n), (3, .int (i8 - 1)), (4, .int x14), (5, .int 0)]) [0, 1, 2, 3, 4, 5] rfl ?_
                  refine g_goto (tgt := 34) dX7_canHave_138 (by decide) ?_
                  refine g_pick (lv' := [(0, .ref (uk_ad G 60)), (1, .int m), (2, .int n), (3, .int (i8 - 1))]) [0, 1, 2, 3] rfl ?_
                  exact ihi8 (by first | lia | grind)  u9 hu9 fu9 riu9 (by lia) (by lia) ji82 ⟨ki8, ee_Ds fki8 (by first | assumption | lia | grind), by subst ex16; subst ex14; subst ex12; exact hki8.trans ((if_neg c10).trans ((if_neg c11).trans ((if_pos c17).trans (rfl))))⟩
                · exact absurd c19 (by decide)
              · exact absurd c18 (by decide)
            · refine g_aload_n dX7_canHave_68 rfl ?_
              refine f_X7_38 rfl rfl dX7_canHave_69 ?_
              refine g_iload_n dX7_canHave_72 rfl ?_
              have v20 : vp_in i8 8 := uk_vin 8 rfl (by first | decide | lia | grind) (by first | decide | lia | grind)
              refine g_iald rfl rfl v20 dX7_canHave_73 ?_
              refine g_topi (fun x21 ex21 => ?_)
              refine g_iload dX7_canHave_74 rfl ?_
              refine g_isub dX7_canHave_76 ?_
              refine g_topi (fun x22 ex22 => ?_)
              refine g_goto (tgt := 81) dX7_canHave_77 (by decide) ?_
              refine g_istore dX7_canHave_81 (by decide) ?_
              refine g_pick (lv' := [(0, .ref (uk_ad G 60)), (1, .int m), (2, .int n), (3, .int i8), (4, .int x14), (5, .int x22)]) [0, 1, 2, 3, 4, 5] rfl ?_
              refine g_iload dX7_canHave_83 rfl ?_
              refine g_if_le (tgt := 98) dX7_canHave_85 (by decide) (fun c23 => ?_) (fun c23 => ?_)
              · refine g_iload dX7_canHave_98 rfl ?_
                refine g_if_le (tgt := 135) dX7_canHave_100 (by decide) (fun c24 => ?_) (fun c24 => ?_)
                · refine g_iinc (v := i8 - 1) dX7_canHave_135 rfl (uk_m1 _) (by decide) ?_
                  refine g_pick (lv' := [(0, .ref (uk_ad G 60)), (1, .int m), (2, .int n), (3, .int (i8 - 1)), (4, .int x14), (5, .int x22)]) [0, 1, 2, 3, 4, 5] rfl ?_
                  refine g_goto (tgt := 34) dX7_canHave_138 (by decide) ?_
                  refine g_pick (lv' := [(0, .ref (uk_ad G 60)), (1, .int m), (2, .int n), (3, .int (i8 - 1))]) [0, 1, 2, 3] rfl ?_
                  exact ihi8 (by first | lia | grind)  u9 hu9 fu9 riu9 (by lia) (by lia) ji82 ⟨ki8, ee_Ds fki8 (by first | assumption | lia | grind), by subst ex22; subst ex21; subst ex16; subst ex14; subst ex12; exact hki8.trans ((if_neg c10).trans ((if_neg c11).trans ((if_neg c17).trans ((if_pos c23).trans ((if_pos c24).trans (rfl))))))⟩
                · exact absurd (show x22 ≤ 0 by assumption) (by assumption)
              · have hn0 : ¬ n = 0 := fun q => by have w0 := ji82 q i8 (by lia) (by lia); first | lia | grind
                refine g_aload_n dX7_canHave_88 rfl ?_
                refine g_iload_n dX7_canHave_89 rfl ?_
                refine cl_X7_166 (c := 60) (As := [.int i8]) rfl (x_X7_isRaw (G := G) hs hu9  i8 (by first | trivial | decide | lia | grind) (by first | trivial | decide | lia | grind) (d)) rfl (by omega) rfl rfl (Nat.le_of_ble_eq_true rfl) dX7_canHave_90 (fun r25 u26 q27 => ?_)
                obtain ⟨q27, Eq27⟩ := q27
                obtain ⟨⟨x28, rfl, tx28, nx28, zx28⟩, mq27⟩ := q27
                rw [mq27]
                have ex28 : x28 = (e_X7_isRaw u9 i8) := ee_v Eq27
                refine g_if_eq (tgt := 98) dX7_canHave_93 (by decide) (fun c29 => ?_) (fun c29 => ?_)
                · have zc29 := zx28 c29
                  refine g_iload dX7_canHave_98 rfl ?_
                  refine g_if_le (tgt := 135) dX7_canHave_100 (by decide) (fun c30 => ?_) (fun c30 => ?_)
                  · refine g_iinc (v := i8 - 1) dX7_canHave_135 rfl (uk_m1 _) (by decide) ?_
                    refine g_pick (lv' := [(0, .ref (uk_ad G 60)), (1, .int m), (2, .int n), (3, .int (i8 - 1)), (4, .int x14), (5, .int x22)]) [0, 1, 2, 3, 4, 5] rfl ?_
                    refine g_goto (tgt := 34) dX7_canHave_138 (by decide) ?_
                    refine g_pick (lv' := [(0, .ref (uk_ad G 60)), (1, .int m), (2, .int n), (3, .int (i8 - 1))]) [0, 1, 2, 3] rfl ?_
                    exact ihi8 (by first | lia | grind)  u9 hu9 fu9 riu9 (by lia) (by lia) ji82 ⟨ki8, ee_Ds fki8 (by first | assumption | lia | grind), by subst ex28; subst ex22; subst ex21; subst ex16; subst ex14; subst ex12; exact hki8.trans ((if_neg c10).trans ((if_neg c11).trans ((if_neg c17).trans ((if_neg c23).trans ((if_pos c29).trans ((if_pos c30).trans (rfl)))))))⟩
                  · refine g_aload_n dX7_canHave_103 rfl ?_
                    refine f_X7_38 rfl rfl dX7_canHave_104 ?_
                    refine g_aload_n dX7_canHave_107 rfl ?_
                    refine f_X7_20 rfl rfl dX7_canHave_108 ?_
                    refine g_iload_n dX7_canHave_111 rfl ?_
                    have v31 : vp_in i8 8 := uk_vin 8 rfl (by first | decide | lia | grind) (by first | decide | lia | grind)
                    refine g_iald rfl rfl v31 dX7_canHave_112 ?_
                    refine g_topi (fun x32 ex32 => ?_)
                    have bx32 := uk_cl v31
                    have rx32 : (-4) ≤ x32 ∧ x32 ≤ 7 := by rw [ex32]; exact iv_at hu9 _ _ (uk_pick1 _ (by omega))
                    have hqx32 := (riu9.1 i8 (by lia) (by rw [fk_at (c := 60) (i := 3) fu9 (by decide)]; first | lia | grind) (by lia)).resolve_left (by first | assumption | grind)
                    have hpx32 : 0 ≤ x32 ∧ x32 < i8 := by rw [ex32]; exact ⟨hqx32.1, hqx32.2.1⟩
                    refine g_dup2 dX7_canHave_113 rfl rfl ?_
                    have v33 : vp_in x32 8 := uk_vin 8 rfl (by first | decide | lia | grind) (by first | decide | lia | grind)
                    refine g_iald rfl rfl v33 dX7_canHave_114 ?_
                    refine g_topi (fun x34 ex34 => ?_)
                    refine g_iload dX7_canHave_115 rfl ?_
                    refine g_iadd dX7_canHave_117 ?_
                    refine g_topi (fun x35 ex35 => ?_)
                    have v36 : vp_in x32 8 := uk_vin 8 rfl (by first | decide | lia | grind) (by first | decide | lia | grind)
                    have b37 := uk_cl v36
                    refine g_iast rfl rfl v36 dX7_canHave_118 ?_
                    refine g_mem (fun u38 eu38 => ?_)
                    have hu38 : iv u38 := by rw [eu38]; exact iv_upF hu9 (uk_pick1 _ (by omega))
                    have fu38 : fk [70] [] u u38 := by rw [eu38]; exact fk_up fu9 (by decide) (fun q => absurd q (by decide))
                    have riu38 : ri u38 := by rw [eu38]; exact ri_1 riu9 (by decide) (fun q => absurd q (by decide))
                    have C39 : u38.1 61 = u9.1 61 := by rw [eu38]; exact (uk_up_oc (by decide)).trans C61_u9
                    refine g_aload_n dX7_canHave_119 rfl ?_
                    refine f_X7_38 rfl rfl dX7_canHave_120 ?_
                    refine g_aload_n dX7_canHave_123 rfl ?_
                    refine f_X7_23 rfl rfl dX7_canHave_124 ?_
                    refine g_iload_n dX7_canHave_127 rfl ?_
                    have v40 : vp_in i8 8 := uk_vin 8 rfl (by first | decide | lia | grind) (by first | decide | lia | grind)
                    refine g_iald rfl rfl v40 dX7_canHave_128 ?_
                    refine g_topi (fun x41 ex41 => ?_)
                    have bx41 := uk_cl v40
                    have rx41 : (-4) ≤ x41 ∧ x41 ≤ 7 := by rw [ex41]; exact iv_at hu38 _ _ (uk_pick1 _ (by omega))
                    have kx41 : ¬ u38.1 61 (32 + i8).toNatClampNeg = 4 := by rw [C39]; assumption
                    have hqx41 := (riu38.1 i8 (by lia) (by rw [fk_at (c := 60) (i := 3) fu38 (by decide)]; first | lia | grind) (by lia)).resolve_left kx41
                    have hpx41 : 0 ≤ x41 ∧ x41 < i8 := by rw [ex41]; exact ⟨hqx41.2.2.1, hqx41.2.2.2⟩
                    refine g_dup2 dX7_canHave_129 rfl rfl ?_
                    have v42 : vp_in x41 8 := uk_vin 8 rfl (by first | decide | lia | grind) (by first | decide | lia | grind)
                    refine g_iald rfl rfl v42 dX7_canHave_130 ?_
                    refine g_topi (fun x43 ex43 => ?_)
                    refine g_iload dX7_canHave_131 rfl ?_
                    refine g_iadd dX7_canHave_133 ?_
                    refine g_topi (fun x44 ex44 => ?_)
                    have v45 : vp_in x41 8 := uk_vin 8 rfl (by first | decide | lia | grind) (by first | decide | lia | grind)
                    have b46 := uk_cl v45
                    refine g_iast rfl rfl v45 dX7_canHave_134 ?_
                    refine g_mem (fun u47 eu47 => ?_)
                    have hu47 : iv u47 := by rw [eu47]; exact iv_upF hu38 (uk_pick1 _ (by omega))
                    have fu47 : fk [70] [] u u47 := by rw [eu47]; exact fk_up fu38 (by decide) (fun q => absurd q (by decide))
                    have riu47 : ri u47 := by rw [eu47]; exact ri_1 riu38 (by decide) (fun q => absurd q (by decide))
                    have C48 : u47.1 61 = u9.1 61 := by rw [eu47]; exact (uk_up_oc (by decide)).trans C39
                    refine g_iinc (v := i8 - 1) dX7_canHave_135 rfl (uk_m1 _) (by decide) ?_
                    refine g_pick (lv' := [(0, .ref (uk_ad G 60)), (1, .int m), (2, .int n), (3, .int (i8 - 1)), (4, .int x14), (5, .int x22)]) [0, 1, 2, 3, 4, 5] rfl ?_
                    refine g_goto (tgt := 34) dX7_canHave_138 (by decide) ?_
                    refine g_pick (lv' := [(0, .ref (uk_ad G 60)), (1, .int m), (2, .int n), (3, .int (i8 - 1))]) [0, 1, 2, 3] rfl ?_
                    exact ihi8 (by first | lia | grind)  u47 hu47 fu47 riu47 (by lia) (by lia) (az_ne hn0) ⟨ki8, ee_Ds fki8 (by first | assumption | lia | grind), by subst eu47; subst ex44; subst ex43; subst ex41; subst eu38; subst ex35; subst ex34; subst ex32; subst ex28; subst ex22; subst ex21; subst ex16; subst ex14; subst ex12; exact hki8.trans ((if_neg c10).trans ((if_neg c11).trans ((if_neg c17).trans ((if_neg c23).trans ((if_pos c29).trans ((if_neg c30).trans (rfl)))))))⟩
                · have zc29 := nx28 c29
                  refine g_iconst (v := 0) dX7_canHave_96 (by decide) ?_
                  exact g_iret (ty := .boolean) dX7_canHave_97 rfl rfl ⟨⟨⟨0, rfl, Or.inl rfl, fun q => absurd rfl q, fun _ => by first | trivial | lia | grind⟩, hu9, fu9, riu9⟩, ee_i (by subst ex28; subst ex22; subst ex21; subst ex16; subst ex14; subst ex12; exact hki8.trans ((if_neg c10).trans ((if_neg c11).trans ((if_neg c17).trans ((if_neg c23).trans ((if_neg c29).trans (rfl)))))))⟩
          · refine g_iconst (v := 0) dX7_canHave_43 (by decide) ?_
            refine g_goto (tgt := 55) dX7_canHave_44 (by decide) ?_
            refine g_istore dX7_canHave_55 (by decide) ?_
            refine g_pick (lv' := [(0, .ref (uk_ad G 60)), (1, .int m), (2, .int n), (3, .int i8), (4, .int 0)]) [0, 1, 2, 3, 4] rfl ?_
            refine g_aload_n dX7_canHave_57 rfl ?_
            refine f_X7_38 rfl rfl dX7_canHave_58 ?_
            refine g_iload_n dX7_canHave_61 rfl ?_
            have v49 : vp_in i8 8 := uk_vin 8 rfl (by first | decide | lia | grind) (by first | decide | lia | grind)
            refine g_iald rfl rfl v49 dX7_canHave_62 ?_
            refine g_topi (fun x50 ex50 => ?_)
            refine g_iload dX7_canHave_63 rfl ?_
            refine g_icmp_le (tgt := 80) dX7_canHave_65 (by decide) (fun c51 => ?_) (fun c51 => ?_)
            · refine g_iconst (v := 0) dX7_canHave_80 (by decide) ?_
              refine g_istore dX7_canHave_81 (by decide) ?_
              refine g_pick (lv' := [(0, .ref (uk_ad G 60)), (1, .int m), (2, .int n), (3, .int i8), (4, .int 0), (5, .int 0)]) [0, 1, 2, 3, 4, 5] rfl ?_
              refine g_iload dX7_canHave_83 rfl ?_
              refine g_if_le (tgt := 98) dX7_canHave_85 (by decide) (fun c52 => ?_) (fun c52 => ?_)
              · refine g_iload dX7_canHave_98 rfl ?_
                refine g_if_le (tgt := 135) dX7_canHave_100 (by decide) (fun c53 => ?_) (fun c53 => ?_)
                · refine g_iinc (v := i8 - 1) dX7_canHave_135 rfl (uk_m1 _) (by decide) ?_
                  refine g_pick (lv' := [(0, .ref (uk_ad G 60)), (1, .int m), (2, .int n), (3, .int (i8 - 1)), (4, .int 0), (5, .int 0)]) [0, 1, 2, 3, 4, 5] rfl ?_
                  refine g_goto (tgt := 34) dX7_canHave_138 (by decide) ?_
                  refine g_pick (lv' := [(0, .ref (uk_ad G 60)), (1, .int m), (2, .int n), (3, .int (i8 - 1))]) [0, 1, 2, 3] rfl ?_
                  exact ihi8 (by first | lia | grind)  u9 hu9 fu9 riu9 (by lia) (by lia) ji82 ⟨ki8, ee_Ds fki8 (by first | assumption | lia | grind), by subst ex50; exact hki8.trans ((if_neg c10).trans ((if_pos c11).trans ((if_pos c51).trans (rfl))))⟩
                · exact absurd c53 (by decide)
              · exact absurd c52 (by decide)
            · refine g_aload_n dX7_canHave_68 rfl ?_
              refine f_X7_38 rfl rfl dX7_canHave_69 ?_
              refine g_iload_n dX7_canHave_72 rfl ?_
              have v54 : vp_in i8 8 := uk_vin 8 rfl (by first | decide | lia | grind) (by first | decide | lia | grind)
              refine g_iald rfl rfl v54 dX7_canHave_73 ?_
              refine g_topi (fun x55 ex55 => ?_)
              refine g_iload dX7_canHave_74 rfl ?_
              refine g_isub dX7_canHave_76 ?_
              refine g_topi (fun x56 ex56 => ?_)
              refine g_goto (tgt := 81) dX7_canHave_77 (by decide) ?_
              refine g_istore dX7_canHave_81 (by decide) ?_
              refine g_pick (lv' := [(0, .ref (uk_ad G 60)), (1, .int m), (2, .int n), (3, .int i8), (4, .int 0), (5, .int x56)]) [0, 1, 2, 3, 4, 5] rfl ?_
              refine g_iload dX7_canHave_83 rfl ?_
              refine g_if_le (tgt := 98) dX7_canHave_85 (by decide) (fun c57 => ?_) (fun c57 => ?_)
              · refine g_iload dX7_canHave_98 rfl ?_
                refine g_if_le (tgt := 135) dX7_canHave_100 (by decide) (fun c58 => ?_) (fun c58 => ?_)
                · refine g_iinc (v := i8 - 1) dX7_canHave_135 rfl (uk_m1 _) (by decide) ?_
                  refine g_pick (lv' := [(0, .ref (uk_ad G 60)), (1, .int m), (2, .int n), (3, .int (i8 - 1)), (4, .int 0), (5, .int x56)]) [0, 1, 2, 3, 4, 5] rfl ?_
                  refine g_goto (tgt := 34) dX7_canHave_138 (by decide) ?_
                  refine g_pick (lv' := [(0, .ref (uk_ad G 60)), (1, .int m), (2, .int n), (3, .int (i8 - 1))]) [0, 1, 2, 3] rfl ?_
                  exact ihi8 (by first | lia | grind)  u9 hu9 fu9 riu9 (by lia) (by lia) ji82 ⟨ki8, ee_Ds fki8 (by first | assumption | lia | grind), by subst ex56; subst ex55; subst ex50; exact hki8.trans ((if_neg c10).trans ((if_pos c11).trans ((if_neg c51).trans ((if_pos c57).trans ((if_pos c58).trans (rfl))))))⟩
                · exact absurd (show x56 ≤ 0 by assumption) (by assumption)
              · have hn0 : ¬ n = 0 := fun q => by have w0 := ji82 q i8 (by lia) (by lia); first | lia | grind
                refine g_aload_n dX7_canHave_88 rfl ?_
                refine g_iload_n dX7_canHave_89 rfl ?_
                refine cl_X7_166 (c := 60) (As := [.int i8]) rfl (x_X7_isRaw (G := G) hs hu9  i8 (by first | trivial | decide | lia | grind) (by first | trivial | decide | lia | grind) (d)) rfl (by omega) rfl rfl (Nat.le_of_ble_eq_true rfl) dX7_canHave_90 (fun r59 u60 q61 => ?_)
                obtain ⟨q61, Eq61⟩ := q61
                obtain ⟨⟨x62, rfl, tx62, nx62, zx62⟩, mq61⟩ := q61
                rw [mq61]
                have ex62 : x62 = (e_X7_isRaw u9 i8) := ee_v Eq61
                refine g_if_eq (tgt := 98) dX7_canHave_93 (by decide) (fun c63 => ?_) (fun c63 => ?_)
                · have zc63 := zx62 c63
                  refine g_iload dX7_canHave_98 rfl ?_
                  refine g_if_le (tgt := 135) dX7_canHave_100 (by decide) (fun c64 => ?_) (fun c64 => ?_)
                  · refine g_iinc (v := i8 - 1) dX7_canHave_135 rfl (uk_m1 _) (by decide) ?_
                    refine g_pick (lv' := [(0, .ref (uk_ad G 60)), (1, .int m), (2, .int n), (3, .int (i8 - 1)), (4, .int 0), (5, .int x56)]) [0, 1, 2, 3, 4, 5] rfl ?_
                    refine g_goto (tgt := 34) dX7_canHave_138 (by decide) ?_
                    refine g_pick (lv' := [(0, .ref (uk_ad G 60)), (1, .int m), (2, .int n), (3, .int (i8 - 1))]) [0, 1, 2, 3] rfl ?_
                    exact ihi8 (by first | lia | grind)  u9 hu9 fu9 riu9 (by lia) (by lia) ji82 ⟨ki8, ee_Ds fki8 (by first | assumption | lia | grind), by subst ex62; subst ex56; subst ex55; subst ex50; exact hki8.trans ((if_neg c10).trans ((if_pos c11).trans ((if_neg c51).trans ((if_neg c57).trans ((if_pos c63).trans ((if_pos c64).trans (rfl)))))))⟩
                  · refine g_aload_n dX7_canHave_103 rfl ?_
                    refine f_X7_38 rfl rfl dX7_canHave_104 ?_
                    refine g_aload_n dX7_canHave_107 rfl ?_
                    refine f_X7_20 rfl rfl dX7_canHave_108 ?_
                    refine g_iload_n dX7_canHave_111 rfl ?_
                    have v65 : vp_in i8 8 := uk_vin 8 rfl (by first | decide | lia | grind) (by first | decide | lia | grind)
                    refine g_iald rfl rfl v65 dX7_canHave_112 ?_
                    refine g_topi (fun x66 ex66 => ?_)
                    have bx66 := uk_cl v65
                    have rx66 : (-4) ≤ x66 ∧ x66 ≤ 7 := by rw [ex66]; exact iv_at hu9 _ _ (uk_pick1 _ (by omega))
                    have hqx66 := (riu9.1 i8 (by lia) (by rw [fk_at (c := 60) (i := 3) fu9 (by decide)]; first | lia | grind) (by lia)).resolve_left (by first | assumption | grind)
                    have hpx66 : 0 ≤ x66 ∧ x66 < i8 := by rw [ex66]; exact ⟨hqx66.1, hqx66.2.1⟩
                    refine g_dup2 dX7_canHave_113 rfl rfl ?_
                    have v67 : vp_in x66 8 := uk_vin 8 rfl (by first | decide | lia | grind) (by first | decide | lia | grind)
                    refine g_iald rfl rfl v67 dX7_canHave_114 ?_
                    refine g_topi (fun x68 ex68 => ?_)
                    refine g_iload dX7_canHave_115 rfl ?_
                    refine g_iadd dX7_canHave_117 ?_
                    refine g_topi (fun x69 ex69 => ?_)
                    have v70 : vp_in x66 8 := uk_vin 8 rfl (by first | decide | lia | grind) (by first | decide | lia | grind)
                    have b71 := uk_cl v70
                    refine g_iast rfl rfl v70 dX7_canHave_118 ?_
                    refine g_mem (fun u72 eu72 => ?_)
                    have hu72 : iv u72 := by rw [eu72]; exact iv_upF hu9 (uk_pick1 _ (by omega))
                    have fu72 : fk [70] [] u u72 := by rw [eu72]; exact fk_up fu9 (by decide) (fun q => absurd q (by decide))
                    have riu72 : ri u72 := by rw [eu72]; exact ri_1 riu9 (by decide) (fun q => absurd q (by decide))
                    have C73 : u72.1 61 = u9.1 61 := by rw [eu72]; exact (uk_up_oc (by decide)).trans C61_u9
                    refine g_aload_n dX7_canHave_119 rfl ?_
                    refine f_X7_38 rfl rfl dX7_canHave_120 ?_
                    refine g_aload_n dX7_canHave_123 rfl ?_
                    refine f_X7_23 rfl rfl dX7_canHave_124 ?_
                    refine g_iload_n dX7_canHave_127 rfl ?_
                    have v74 : vp_in i8 8 := uk_vin 8 rfl (by first | decide | lia | grind) (by first | decide | lia | grind)
                    refine g_iald rfl rfl v74 dX7_canHave_128 ?_
                    refine g_topi (fun x75 ex75 => ?_)
                    have bx75 := uk_cl v74
                    have rx75 : (-4) ≤ x75 ∧ x75 ≤ 7 := by rw [ex75]; exact iv_at hu72 _ _ (uk_pick1 _ (by omega))
                    have kx75 : ¬ u72.1 61 (32 + i8).toNatClampNeg = 4 := by rw [C73]; assumption
                    have hqx75 := (riu72.1 i8 (by lia) (by rw [fk_at (c := 60) (i := 3) fu72 (by decide)]; first | lia | grind) (by lia)).resolve_left kx75
                    have hpx75 : 0 ≤ x75 ∧ x75 < i8 := by rw [ex75]; exact ⟨hqx75.2.2.1, hqx75.2.2.2⟩
                    refine g_dup2 dX7_canHave_129 rfl rfl ?_
                    have v76 : vp_in x75 8 := uk_vin 8 rfl (by first | decide | lia | grind) (by first | decide | lia | grind)
                    refine g_iald rfl rfl v76 dX7_canHave_130 ?_
                    refine g_topi (fun x77 ex77 => ?_)
                    refine g_iload dX7_canHave_131 rfl ?_
                    refine g_iadd dX7_canHave_133 ?_
                    refine g_topi (fun x78 ex78 => ?_)
                    have v79 : vp_in x75 8 := uk_vin 8 rfl (by first | decide | lia | grind) (by first | decide | lia | grind)
                    have b80 := uk_cl v79
                    refine g_iast rfl rfl v79 dX7_canHave_134 ?_
                    refine g_mem (fun u81 eu81 => ?_)
                    have hu81 : iv u81 := by rw [eu81]; exact iv_upF hu72 (uk_pick1 _ (by omega))
                    have fu81 : fk [70] [] u u81 := by rw [eu81]; exact fk_up fu72 (by decide) (fun q => absurd q (by decide))
                    have riu81 : ri u81 := by rw [eu81]; exact ri_1 riu72 (by decide) (fun q => absurd q (by decide))
                    have C82 : u81.1 61 = u9.1 61 := by rw [eu81]; exact (uk_up_oc (by decide)).trans C73
                    refine g_iinc (v := i8 - 1) dX7_canHave_135 rfl (uk_m1 _) (by decide) ?_
                    refine g_pick (lv' := [(0, .ref (uk_ad G 60)), (1, .int m), (2, .int n), (3, .int (i8 - 1)), (4, .int 0), (5, .int x56)]) [0, 1, 2, 3, 4, 5] rfl ?_
                    refine g_goto (tgt := 34) dX7_canHave_138 (by decide) ?_
                    refine g_pick (lv' := [(0, .ref (uk_ad G 60)), (1, .int m), (2, .int n), (3, .int (i8 - 1))]) [0, 1, 2, 3] rfl ?_
                    exact ihi8 (by first | lia | grind)  u81 hu81 fu81 riu81 (by lia) (by lia) (az_ne hn0) ⟨ki8, ee_Ds fki8 (by first | assumption | lia | grind), by subst eu81; subst ex78; subst ex77; subst ex75; subst eu72; subst ex69; subst ex68; subst ex66; subst ex62; subst ex56; subst ex55; subst ex50; exact hki8.trans ((if_neg c10).trans ((if_pos c11).trans ((if_neg c51).trans ((if_neg c57).trans ((if_pos c63).trans ((if_neg c64).trans (rfl)))))))⟩
                · have zc63 := nx62 c63
                  refine g_iconst (v := 0) dX7_canHave_96 (by decide) ?_
                  exact g_iret (ty := .boolean) dX7_canHave_97 rfl rfl ⟨⟨⟨0, rfl, Or.inl rfl, fun q => absurd rfl q, fun _ => by first | trivial | lia | grind⟩, hu9, fu9, riu9⟩, ee_i (by subst ex62; subst ex56; subst ex55; subst ex50; exact hki8.trans ((if_neg c10).trans ((if_pos c11).trans ((if_neg c51).trans ((if_neg c57).trans ((if_neg c63).trans (rfl)))))))⟩
      refine g_pick (lv' := [(0, .ref (uk_ad G 60)), (1, .int m), (2, .int n), (3, .int m)]) [0, 1, 2, 3] rfl ?_
      exact L34_6 m (by first | decide | lia | grind)  u3 hu3 fu3 riu3 (by lia) (by lia) (az_le ji20 (by first | lia | grind)) ⟨ee_K, ee_D0 _, by subst ex4; exact hki2.trans ((if_pos c6).trans (rfl))⟩
    · refine g_aload_n dX7_canHave_10 rfl ?_
      refine f_X7_38 rfl rfl dX7_canHave_11 ?_
      refine g_iload_n dX7_canHave_14 rfl ?_
      refine g_iload_n dX7_canHave_15 rfl ?_
      refine g_iload_n dX7_canHave_16 rfl ?_
      refine g_icmp_ne (tgt := 24) dX7_canHave_17 (by decide) (fun c83 => ?_) (fun c83 => ?_)
      · refine g_iconst (v := 0) dX7_canHave_24 (by decide) ?_
        have v84 : vp_in i2 8 := uk_vin 8 rfl (by first | decide | lia | grind) (by first | decide | lia | grind)
        have b85 := uk_cl v84
        refine g_iast rfl rfl v84 dX7_canHave_25 ?_
        refine g_mem (fun u86 eu86 => ?_)
        have hu86 : iv u86 := by rw [eu86]; exact iv_upF hu3 (uk_pick1 _ (by omega))
        have fu86 : fk [70] [] u u86 := by rw [eu86]; exact fk_up fu3 (by decide) (fun q => absurd q (by decide))
        have riu86 : ri u86 := by rw [eu86]; exact ri_1 riu3 (by decide) (fun q => absurd q (by decide))
        refine g_iinc (v := i2 + 1) dX7_canHave_26 rfl rfl (by decide) ?_
        refine g_pick (lv' := [(0, .ref (uk_ad G 60)), (1, .int m), (2, .int n), (3, .int (i2 + 1))]) [0, 1, 2, 3] rfl ?_
        refine g_goto (tgt := 2) dX7_canHave_29 (by decide) ?_
        refine g_pick (lv' := [(0, .ref (uk_ad G 60)), (1, .int m), (2, .int n), (3, .int (i2 + 1))]) [0, 1, 2, 3] rfl ?_
        exact ihi2 (by first | lia | grind)  u86 hu86 fu86 riu86 (by rw [eu86, uk_up_self]; exact az_up ji20 (by lia) (fun q => by first | rfl | exact q)) ⟨ki2, ee_Fs fki2 (by first | assumption | lia | grind), by subst eu86; subst ex4; exact hki2.trans ((if_neg c6).trans ((if_neg c83).trans (rfl)))⟩
      · refine g_iload_n dX7_canHave_20 rfl ?_
        refine g_goto (tgt := 25) dX7_canHave_21 (by decide) ?_
        have v87 : vp_in i2 8 := uk_vin 8 rfl (by first | decide | lia | grind) (by first | decide | lia | grind)
        have b88 := uk_cl v87
        refine g_iast rfl rfl v87 dX7_canHave_25 ?_
        refine g_mem (fun u89 eu89 => ?_)
        have hu89 : iv u89 := by rw [eu89]; exact iv_upF hu3 (uk_pick1 _ (by omega))
        have fu89 : fk [70] [] u u89 := by rw [eu89]; exact fk_up fu3 (by decide) (fun q => absurd q (by decide))
        have riu89 : ri u89 := by rw [eu89]; exact ri_1 riu3 (by decide) (fun q => absurd q (by decide))
        refine g_iinc (v := i2 + 1) dX7_canHave_26 rfl rfl (by decide) ?_
        refine g_pick (lv' := [(0, .ref (uk_ad G 60)), (1, .int m), (2, .int n), (3, .int (i2 + 1))]) [0, 1, 2, 3] rfl ?_
        refine g_goto (tgt := 2) dX7_canHave_29 (by decide) ?_
        refine g_pick (lv' := [(0, .ref (uk_ad G 60)), (1, .int m), (2, .int n), (3, .int (i2 + 1))]) [0, 1, 2, 3] rfl ?_
        exact ihi2 (by first | lia | grind)  u89 hu89 fu89 riu89 (by rw [eu89, uk_up_self]; exact az_up ji20 (by lia) (fun q => by first | rfl | exact q)) ⟨ki2, ee_Fs fki2 (by first | assumption | lia | grind), by subst eu89; subst ex4; exact hki2.trans ((if_neg c6).trans ((if_pos c83).trans (rfl)))⟩
  refine g_pick (lv' := [(0, .ref (uk_ad G 60)), (1, .int m), (2, .int n), (3, .int 0)]) [0, 1, 2, 3] rfl ?_
  exact L2_0 0 (by first | decide | lia | grind) (by first | decide | lia | grind)  u hu f0 hri az_0 ⟨ee_K, ee_F0 _ _, by exact rfl⟩
def l_X7_most_24 (m : Int32) : Nat → Int32 → uk_Mem → Int32 × uk_Mem
  | 0, _, u13 => (0, u13)
  | K9 + 1, i12, u13 => let x17 : Int32 := (e_X7_canHave u13 m i12).1; let u15 : uk_Mem := (e_X7_canHave u13 m i12).2; if x17 = 0 then (l_X7_most_24 m K9 (i12 - 1) u15) else ((i12, u15))
def e_X7_most (u : uk_Mem) (m : Int32) : Int32 × uk_Mem := let x4 : Int32 := (e_X7_isStuff u m); if x4 = 0 then (((-1 : Int32), u)) else (let x9 : Int32 := (e_X7_isRaw u m); if x9 = 0 then (l_X7_most_24 m ee_K (40 : Int32) u) else (((-2 : Int32), u)))
abbrev qe_X7_most (u : uk_Mem) (m : Int32) (r : Option Value) (u' : uk_Mem) : Prop := (q_X7_most u m r u') ∧ (r = some (.int (e_X7_most u m).1) ∧ u' = (e_X7_most u m).2)
set_option maxHeartbeats 4000000 in
set_option maxRecDepth 20000 in
theorem x_X7_most {G : uk_D} (hs : uk_Sep G) {u : uk_Mem} (hu : iv u) (hri : ri u) (m : Int32) (d : Nat) : uk_Meth G (d + 2) mX7_most [.ref (uk_ad G 60), .int m] u (qe_X7_most u m) := by
  refine uk_Meth.of hs (by decide) (Nat.le_of_ble_eq_true rfl) (fun X => ?_)
  have f0 : fk [70] [] u u := fk_rf
  refine g_aload_n dX7_most_0 rfl ?_
  refine g_iload_n dX7_most_1 rfl ?_
  refine cl_X7_163 (c := 60) (As := [.int m]) rfl (x_X7_isStuff (G := G) hs hu  m  (d)) rfl (by omega) rfl rfl (Nat.le_of_ble_eq_true rfl) dX7_most_2 (fun r1 u2 q3 => ?_)
  obtain ⟨q3, Eq3⟩ := q3
  obtain ⟨⟨x4, rfl, tx4, nx4, zx4⟩, mq3⟩ := q3
  rw [mq3]
  have ex4 : x4 = (e_X7_isStuff u m) := ee_v Eq3
  refine g_if_ne (tgt := 10) dX7_most_5 (by decide) (fun c5 => ?_) (fun c5 => ?_)
  · have zc5 := nx4 c5
    refine g_aload_n dX7_most_10 rfl ?_
    refine g_iload_n dX7_most_11 rfl ?_
    refine cl_X7_166 (c := 60) (As := [.int m]) rfl (x_X7_isRaw (G := G) hs hu  m (by first | trivial | decide | lia | grind) (by first | trivial | decide | lia | grind) (d + 1)) rfl (by omega) rfl rfl (Nat.le_of_ble_eq_true rfl) dX7_most_12 (fun r6 u7 q8 => ?_)
    obtain ⟨q8, Eq8⟩ := q8
    obtain ⟨⟨x9, rfl, tx9, nx9, zx9⟩, mq8⟩ := q8
    rw [mq8]
    have ex9 : x9 = (e_X7_isRaw u m) := ee_v Eq8
    refine g_if_eq (tgt := 21) dX7_most_15 (by decide) (fun c10 => ?_) (fun c10 => ?_)
    · have zc10 := zx9 c10
      refine g_bipush (v := 40) dX7_most_21 (by decide) ?_
      refine g_istore_n dX7_most_23 (by decide) ?_
      refine g_pick (lv' := [(0, .ref (uk_ad G 60)), (1, .int m), (2, .int 40)]) [0, 1, 2] rfl ?_
      have L24_10 : ∀ i12 : Int32, -1 ≤ i12 → ∀ (u13 : uk_Mem), iv u13 → fk [70] [] u u13 → ri u13 → 0 ≤ i12 → (∃ ki12 : Nat, ee_D i12 ki12 ∧ e_X7_most u m = l_X7_most_24 m ki12 i12 u13) → uk_G G X mX7_most (d + 2) (qe_X7_most u m) 24 [(0, .ref (uk_ad G 60)), (1, .int m), (2, .int i12)] [] u13 := by
        refine uk_dnl ?_
        intro i12 ai12 ihi12  u13 hu13 fu13 riu13 ji120 jEi12
        obtain ⟨ki12, fki12, hki12⟩ := jEi12
        obtain ⟨ki12, rfl⟩ := ee_Dp (by first | assumption | lia | grind) fki12
        have wu13_60_3 : u13.1 60 3 = u.1 60 3 := fk_at fu13 (by decide)
        refine g_aload_n dX7_most_24 rfl ?_
        refine g_iload_n dX7_most_25 rfl ?_
        refine g_iload_n dX7_most_26 rfl ?_
        refine cl_X7_200 (c := 60) (As := [.int m, .int i12]) rfl (x_X7_canHave (G := G) hs hu13 riu13  m i12 (by first | trivial | decide | lia | grind) (by first | trivial | decide | lia | grind) (by first | trivial | decide | lia | grind) (d)) rfl (by omega) rfl rfl (Nat.le_of_ble_eq_true rfl) dX7_most_27 (fun r14 u15 q16 => ?_)
        obtain ⟨q16, Eq16⟩ := q16
        obtain ⟨⟨x17, rfl, tx17, nx17, zx17⟩, mq16⟩ := q16
        obtain ⟨hu15, gu15, riu15⟩ := mq16
        have fu15 : fk [70] [] u u15 := fk_tr fu13 gu15 (by decide) (by decide)
        have wu15_60_3 : u15.1 60 3 = u13.1 60 3 := fk_at gu15 (by decide)
        have ex17 : x17 = (e_X7_canHave u13 m i12).1 := ee_v Eq16.1
        have eu15 : u15 = (e_X7_canHave u13 m i12).2 := Eq16.2
        refine g_if_ne (tgt := 39) dX7_most_30 (by decide) (fun c18 => ?_) (fun c18 => ?_)
        · have zc18 := nx17 c18
          refine g_iload_n dX7_most_39 rfl ?_
          exact g_iret (ty := .int) dX7_most_40 rfl rfl ⟨⟨⟨_, rfl, by first | trivial | lia | grind⟩, hu15, fu15, riu15⟩, ee_i (by subst eu15; subst ex17; exact hki12.trans ((if_neg c18).trans (rfl)))⟩
        · have zc18 := zx17 c18
          refine g_iinc (v := i12 - 1) dX7_most_33 rfl (uk_m1 _) (by decide) ?_
          refine g_pick (lv' := [(0, .ref (uk_ad G 60)), (1, .int m), (2, .int (i12 - 1))]) [0, 1, 2] rfl ?_
          refine g_goto (tgt := 24) dX7_most_36 (by decide) ?_
          refine g_pick (lv' := [(0, .ref (uk_ad G 60)), (1, .int m), (2, .int (i12 - 1))]) [0, 1, 2] rfl ?_
          exact ihi12 (by first | lia | grind)  u15 hu15 fu15 riu15 (by first | trivial | lia | grind) ⟨ki12, ee_Ds fki12 (by first | assumption | lia | grind), by subst eu15; subst ex17; exact hki12.trans ((if_pos c18).trans (rfl))⟩
      refine g_pick (lv' := [(0, .ref (uk_ad G 60)), (1, .int m), (2, .int 40)]) [0, 1, 2] rfl ?_
      exact L24_10 40 (by first | decide | lia | grind)  u hu f0 hri (by first | trivial | lia | grind) ⟨ee_K, ee_D0 _, by subst ex9; subst ex4; exact (if_neg c5).trans ((if_pos c10).trans (rfl))⟩
    · have zc10 := nx9 c10
      refine g_bipush (v := (-2)) dX7_most_18 (by decide) ?_
      exact g_iret (ty := .int) dX7_most_20 rfl rfl ⟨⟨⟨_, rfl, by first | trivial | lia | grind⟩, hu, f0, hri⟩, ee_i (by subst ex9; subst ex4; exact (if_neg c5).trans ((if_neg c10).trans (rfl)))⟩
  · have zc5 := zx4 c5
    refine g_iconst (v := (-1)) dX7_most_8 (by decide) ?_
    exact g_iret (ty := .int) dX7_most_9 rfl rfl ⟨⟨⟨_, rfl, by first | trivial | lia | grind⟩, hu, f0, hri⟩, ee_i (by subst ex4; exact (if_pos c5).trans (rfl))⟩
/-! how many can be had: what is lacking, stage by stage, in whole numbers -/
def bd : Nat → Int
  | 0 => 262440 | 1 => 87480 | 2 => 29160 | 3 => 9720 | 4 => 3240 | 5 => 1080 | 6 => 360 | 7 => 120 | _ => 40
theorem bd_s : ∀ k, k < 8 → bd k = 3 * bd (k + 1) := by decide
theorem bd_r : ∀ k, k < 9 → 40 ≤ bd k ∧ bd k ≤ 262440 := by decide
def ad (a : Nat → Int) (A B : Nat) (l : Int) : Nat → Int := fun j => a j + (if j = A then l else 0) + (if j = B then l else 0)
def lk (v : uk_Mem) (m k : Nat) (a : Nat → Int) : Int := a k - (if k = m then 0 else (v.1 61 k).toInt)
def enf (v : uk_Mem) (m : Nat) : Nat → (Nat → Int) → Bool
  | 0, _ => true
  | k + 1, a => if lk v m k a ≤ 0 then enf v m k a else if v.1 61 (k + 32) = 4 then false else enf v m k (ad a (v.1 64 k).toNatClampNeg (v.1 65 k).toNatClampNeg (lk v m k a))
theorem enf_s {v : uk_Mem} {m k : Nat} {a : Nat → Int} : enf v m (k + 1) a = if lk v m k a ≤ 0 then enf v m k a else if v.1 61 (k + 32) = 4 then false else enf v m k (ad a (v.1 64 k).toNatClampNeg (v.1 65 k).toNatClampNeg (lk v m k a)) := rfl
theorem enf_a {v : uk_Mem} {m k : Nat} {a : Nat → Int} (h : lk v m k a ≤ 0) : enf v m (k + 1) a = enf v m k a := if_pos h
theorem enf_b {v : uk_Mem} {m k : Nat} {a : Nat → Int} (h : ¬ lk v m k a ≤ 0) (r : v.1 61 (k + 32) = 4) : enf v m (k + 1) a = false := (if_neg h).trans (if_pos r)
theorem enf_c {v : uk_Mem} {m k : Nat} {a : Nat → Int} (h : ¬ lk v m k a ≤ 0) (r : ¬ v.1 61 (k + 32) = 4) : enf v m (k + 1) a = enf v m k (ad a (v.1 64 k).toNatClampNeg (v.1 65 k).toNatClampNeg (lk v m k a)) := (if_neg h).trans (if_neg r)
theorem lk_mono {v : uk_Mem} {m k : Nat} {a b : Nat → Int} (h : ∀ j, a j ≤ b j) : lk v m k a ≤ lk v m k b := by
  have := h k
  unfold lk
  omega
theorem enf_mono {v : uk_Mem} {m : Nat} : ∀ (k : Nat) (a b : Nat → Int), (∀ j, a j ≤ b j) → enf v m k b = true → enf v m k a = true := by
  intro k
  induction k with
  | zero => exact fun _ _ _ _ => rfl
  | succ k ih =>
    intro a b h e
    have l := lk_mono (v := v) (m := m) (k := k) h
    rw [enf_s] at e ⊢
    by_cases q : lk v m k b ≤ 0
    · rw [if_pos q] at e
      rw [if_pos (by omega)]
      exact ih a b h e
    · rw [if_neg q] at e
      by_cases r : v.1 61 (k + 32) = 4
      · rw [if_pos r] at e
        exact absurd e (by decide)
      · rw [if_neg r] at e
        by_cases p : lk v m k a ≤ 0
        · rw [if_pos p]
          refine ih _ _ (fun j => ?_) e
          have := h j
          unfold ad
          split <;> split <;> omega
        · rw [if_neg p, if_neg r]
          refine ih _ _ (fun j => ?_) e
          have := h j
          unfold ad
          split <;> split <;> omega
theorem enf_0 {v : uk_Mem} {m : Nat} (hP : ∀ k, k < 8 → 0 ≤ (v.1 61 k).toInt) : ∀ (k : Nat) (a : Nat → Int), k ≤ 8 → (∀ j, a j ≤ 0) → enf v m k a = true := by
  intro k
  induction k with
  | zero => exact fun _ _ _ => rfl
  | succ k ih =>
    intro a h8 h
    rw [enf_s, if_pos]
    · exact ih a (by omega) h
    · have := h k
      have p := hP k (by omega)
      unfold lk
      split <;> omega
theorem ti_add {x y : Int32} (x0 : 0 ≤ x.toInt) (x1 : x.toInt ≤ 1000000) (y0 : 0 ≤ y.toInt) (y1 : y.toInt ≤ 1000000) : (x + y).toInt = x.toInt + y.toInt := by
  rw [Int32.toInt_add]
  exact Int.bmod_eq_of_le (by omega) (by omega)
theorem ti_sub {x y : Int32} (x0 : 0 ≤ x.toInt) (x1 : x.toInt ≤ 1000000) (y0 : 0 ≤ y.toInt) (y1 : y.toInt ≤ 1000000) : (x - y).toInt = x.toInt - y.toInt := by
  rw [Int32.toInt_sub]
  exact Int.bmod_eq_of_le (by omega) (by omega)
theorem ti_le0 {x : Int32} : x ≤ 0 ↔ x.toInt ≤ 0 := by
  rw [Int32.le_iff_toInt_le]
  exact Iff.rfl
def AJ (u : uk_Mem) (c : Nat) (a : Nat → Int) (k : Nat) : Prop := ∀ j, j < k → (u.1 c j).toInt = a j ∧ 0 ≤ a j ∧ a j ≤ bd k
theorem AJ_dn {u : uk_Mem} {c k : Nat} {a : Nat → Int} (hk : k < 8) (h : AJ u c a (k + 1)) : AJ u c a k := fun j hj => by
  obtain ⟨h1, h2, h3⟩ := h j (by omega)
  have b := bd_s k hk
  have b1 := bd_r (k + 1) (by omega)
  exact ⟨h1, h2, by omega⟩
theorem AJ_ad {u : uk_Mem} {c k A B : Nat} {a : Nat → Int} {L : Int32} (hk : k < 8) (h : AJ u c a (k + 1)) (l0 : 0 < L.toInt) (l1 : L.toInt ≤ bd (k + 1)) (hA : A < k) (hB : B < k) : AJ (uk_up (uk_up u c A (u.1 c A + L)) c B ((uk_up u c A (u.1 c A + L)).1 c B + L)) c (ad a A B L.toInt) k := fun j hj => by
  obtain ⟨j1, j2, j3⟩ := h j (by omega)
  obtain ⟨a1, a2, a3⟩ := h A (by omega)
  obtain ⟨b1, b2, b3⟩ := h B (by omega)
  have b := bd_s k hk
  have br := bd_r (k + 1) (by omega)
  have sA : (u.1 c A + L).toInt = a A + L.toInt := by rw [ti_add (by omega) (by omega) (by omega) (by omega), a1]
  have sB : (u.1 c B + L).toInt = a B + L.toInt := by rw [ti_add (by omega) (by omega) (by omega) (by omega), b1]
  have sAA : (u.1 c A + L + L).toInt = a A + L.toInt + L.toInt := by rw [ti_add (by omega) (by omega) (by omega) (by omega), sA]
  unfold ad
  rw [uk_up_at, uk_up_at, uk_up_at]
  by_cases e2 : j = B
  · rw [if_pos ⟨rfl, e2⟩, if_pos e2]
    by_cases e1 : B = A
    · rw [if_pos ⟨rfl, e1⟩, if_pos (e2.trans e1), sAA]
      rw [e2.trans e1] at j2 j3 ⊢
      exact ⟨rfl, by omega, by omega⟩
    · rw [if_neg (fun z => e1 z.2), if_neg (fun z => e1 (e2.symm.trans z)), sB]
      rw [e2] at j2 j3 ⊢
      exact ⟨by omega, by omega, by omega⟩
  · rw [if_neg (fun z => e2 z.2), if_neg e2]
    by_cases e1 : j = A
    · rw [if_pos ⟨rfl, e1⟩, if_pos e1, sA]
      rw [e1] at j2 j3 ⊢
      exact ⟨by omega, by omega, by omega⟩
    · rw [if_neg (fun z => e1 z.2), if_neg e1, j1]
      exact ⟨by omega, by omega, by omega⟩
theorem raw7 {v : uk_Mem} {i : Int32} (h0 : 0 ≤ i) (h7 : i ≤ 7) : e_X7_isRaw v i = if v.1 61 (i.toNatClampNeg + 32) = 4 then 1 else 0 := by
  unfold e_X7_isRaw
  dsimp only
  rw [ix_32 h0 h7]
theorem iv_t {v : uk_Mem} (h : iv v) : ∀ k, k < 8 → 0 ≤ (v.1 61 k).toInt ∧ (v.1 61 k).toInt ≤ 40 := fun k hk => by
  have := iv_at h 61 k (sg_t1 k hk)
  rw [Int32.le_iff_toInt_le, Int32.le_iff_toInt_le] at this
  exact this
theorem cl_ne {a b : Int32} (h0 : 0 ≤ a) (h1 : 0 ≤ b) (h : ¬ a = b) : ¬ a.toNatClampNeg = b.toNatClampNeg := fun q => h (Int32.toInt_inj.mp (by
  have a1 := Int32.le_iff_toInt_le.mp h0
  have b1 := Int32.le_iff_toInt_le.mp h1
  have z : (0 : Int32).toInt = 0 := rfl
  have e1 : a.toNatClampNeg = a.toInt.toNat := rfl
  have e2 : b.toNatClampNeg = b.toInt.toNat := rfl
  omega))
/-- the reference: from a stuff down to the first -/
theorem hav_l {v0 : uk_Mem} {m : Int32} (hv0 : iv v0) (hri : ri v0) (m0 : 0 ≤ m) (hm : m < v0.1 60 3) : ∀ (k K : Nat) (i : Int32) (v : uk_Mem) (a : Nat → Int), i.toInt = (k : Int) - 1 → i ≤ m → ee_D i K → (∀ c, ¬ c = 70 → v.1 c = v0.1 c) → AJ v 70 a k → (l_X7_canHave_34 m K i v).1 = (if enf v0 m.toNatClampNeg k a = true then 1 else 0) ∧ ∀ c, ¬ c = 70 → (l_X7_canHave_34 m K i v).2.1 c = v0.1 c := by
  have hn : 0 ≤ v0.1 60 3 ∧ v0.1 60 3 ≤ 8 := iv_at hv0 60 3 rfl
  have P := iv_t hv0
  have z : (0 : Int32).toInt = 0 := rfl
  have z1 : (-1 : Int32).toInt = -1 := rfl
  have zs : ∀ x : Int32, x - 0 = x := fun x => by grind
  have ee : ∀ x : Int32, x.toNatClampNeg = x.toInt.toNat := fun x => rfl
  intro k
  induction k with
  | zero =>
    intro K i v a hi him f hv ha
    obtain ⟨K', rfl⟩ := ee_Dp (show -1 ≤ i by rw [Int32.le_iff_toInt_le]; omega) f
    rw [l_X7_canHave_34, if_pos (show i < 0 by rw [Int32.lt_iff_toInt_lt]; omega)]
    exact ⟨rfl, hv⟩
  | succ k ih =>
    intro K i v a hi him f hv ha
    have i0 : 0 ≤ i := by
      rw [Int32.le_iff_toInt_le]
      omega
    have i7 : i ≤ 7 := by lia
    have ek : i.toNatClampNeg = k := by
      have := ee i
      omega
    have k8 : k < 8 := by
      have := uk_cln 7 7 rfl i0 i7
      omega
    obtain ⟨K', rfl⟩ := ee_Dp (show -1 ≤ i by lia) f
    have f' := ee_Ds f (show i - 1 < i by lia)
    have hi' : (i - 1).toInt = (k : Int) - 1 := by
      have e1 : (1 : Int32).toInt = 1 := rfl
      rw [ti_sub (by omega) (by omega) (by omega) (by omega), e1]
      omega
    obtain ⟨ak1, ak2, ak3⟩ := ha k (by omega)
    have bk := bd_r (k + 1) (by omega)
    have pk := P k k8
    -- one more stage
    have T : ∀ L : Int32, 0 < L.toInt → L.toInt ≤ bd (k + 1) → L.toInt = lk v0 m.toNatClampNeg k a → ¬ v0.1 61 (k + 32) = 4 → (l_X7_canHave_34 m K' (i - 1) (uk_up (uk_up v 70 (v0.1 64 k).toNatClampNeg (v.1 70 (v0.1 64 k).toNatClampNeg + L)) 70 (v0.1 65 k).toNatClampNeg ((uk_up v 70 (v0.1 64 k).toNatClampNeg (v.1 70 (v0.1 64 k).toNatClampNeg + L)).1 70 (v0.1 65 k).toNatClampNeg + L))).1 = (if enf v0 m.toNatClampNeg (k + 1) a = true then 1 else 0) ∧ ∀ c, ¬ c = 70 → (l_X7_canHave_34 m K' (i - 1) (uk_up (uk_up v 70 (v0.1 64 k).toNatClampNeg (v.1 70 (v0.1 64 k).toNatClampNeg + L)) 70 (v0.1 65 k).toNatClampNeg ((uk_up v 70 (v0.1 64 k).toNatClampNeg (v.1 70 (v0.1 64 k).toNatClampNeg + L)).1 70 (v0.1 65 k).toNatClampNeg + L))).2.1 c = v0.1 c := fun L l0 l1 le r => by
      have hr := hri.1 i i0 (by lia) i7
      rw [ix_32 i0 i7, ek] at hr
      obtain ⟨p0, p1, q0, q1⟩ := hr.resolve_left r
      have la := uk_cll p0 p1
      have lb := uk_cll q0 q1
      rw [ek] at la lb
      rw [enf_c (by omega) r, ← le]
      refine ih K' (i - 1) _ _ hi' (by lia) f' (fun c hc => ?_) (AJ_ad k8 ha l0 l1 la lb)
      rw [uk_up_oc hc, uk_up_oc hc]
      exact hv c hc
    have e65 : ∀ (n : Nat) (x : Int32), (uk_up v 70 n x).1 65 = v.1 65 := fun n x => uk_up_oc (by decide)
    have R := raw7 (v := v) i0 i7
    rw [ek, hv 61 (by omega)] at R
    rw [l_X7_canHave_34, if_neg (show ¬ i < 0 by lia)]
    dsimp only
    simp only [e65, ek, ix_0, hv 64 (by omega), hv 65 (by omega), hv 61 (by omega), zs, R]
    by_cases em : i = m
    · have km : k = m.toNatClampNeg := by rw [← em, ek]
      have hl : lk v0 m.toNatClampNeg k a = (v.1 70 k).toInt := by
        unfold lk
        rw [if_pos km, ak1]
        omega
      rw [if_pos em]
      by_cases p : v.1 70 k ≤ 0
      · have p' := ti_le0.mp p
        rw [if_pos p, enf_a (by omega)]
        exact ih K' (i - 1) v a hi' (by lia) f' hv (AJ_dn k8 ha)
      · have p' : ¬ (v.1 70 k).toInt ≤ 0 := fun w => p (ti_le0.mpr w)
        rw [if_neg p, if_neg p]
        by_cases r : v0.1 61 (k + 32) = 4
        · rw [if_pos r, if_neg one0, enf_b (by omega) r]
          exact ⟨rfl, hv⟩
        · rw [if_neg r, if_pos rfl, if_neg p]
          exact T _ (by omega) (by omega) hl.symm r
    · have km : ¬ k = m.toNatClampNeg := by
        rw [← ek]
        exact cl_ne i0 m0 em
      have dl : (v.1 70 k - v0.1 61 k).toInt = (v.1 70 k).toInt - (v0.1 61 k).toInt := ti_sub (by omega) (by omega) (by omega) (by omega)
      have hl : lk v0 m.toNatClampNeg k a = (v.1 70 k - v0.1 61 k).toInt := by
        unfold lk
        rw [if_neg km, dl, ak1]
      rw [if_neg em]
      by_cases p : v.1 70 k ≤ v0.1 61 k
      · have p' := Int32.le_iff_toInt_le.mp p
        rw [if_pos p, enf_a (by omega)]
        exact ih K' (i - 1) v a hi' (by lia) f' hv (AJ_dn k8 ha)
      · have p' : ¬ (v.1 70 k).toInt ≤ (v0.1 61 k).toInt := fun w => p (Int32.le_iff_toInt_le.mpr w)
        have p2 : ¬ v.1 70 k - v0.1 61 k ≤ 0 := fun w => by
          have := ti_le0.mp w
          omega
        rw [if_neg p, if_neg p2]
        by_cases r : v0.1 61 (k + 32) = 4
        · rw [if_pos r, if_neg one0, enf_b (by omega) r]
          exact ⟨rfl, hv⟩
        · rw [if_neg r, if_pos rfl, if_neg p2]
          exact T _ (by omega) (by omega) hl.symm r
/-- the class: the same -/
theorem eno_l {u0 v0 : uk_Mem} {m w : Int32} (hv0 : iv v0) (hri : ri v0) (hK : KR u0 v0 13 61 0) (m0 : 0 ≤ m) (hm : m < v0.1 60 3) : ∀ (k K : Nat) (i : Int32) (u : uk_Mem) (a : Nat → Int), i.toInt = (k : Int) - 1 → i ≤ m → ee_D i K → (∀ c, ¬ c = 57 → u.1 c = u0.1 c) → (i = m → u.1 57 m.toNatClampNeg = w) → AJ u 57 a k → (l_X0_isEnoughFor_9 m w 13 K i u).1 = (if enf v0 m.toNatClampNeg k a = true then 1 else 0) ∧ ∀ c, ¬ c = 57 → (l_X0_isEnoughFor_9 m w 13 K i u).2.1 c = u0.1 c := by
  have hn : 0 ≤ v0.1 60 3 ∧ v0.1 60 3 ≤ 8 := iv_at hv0 60 3 rfl
  have P := iv_t hv0
  have z : (0 : Int32).toInt = 0 := rfl
  have z1 : (-1 : Int32).toInt = -1 := rfl
  have ee : ∀ x : Int32, x.toNatClampNeg = x.toInt.toNat := fun x => rfl
  intro k
  induction k with
  | zero =>
    intro K i u a hi him f hv hw ha
    obtain ⟨K', rfl⟩ := ee_Dp (show -1 ≤ i by rw [Int32.le_iff_toInt_le]; omega) f
    rw [l_X0_isEnoughFor_9, if_pos (show i < 0 by rw [Int32.lt_iff_toInt_lt]; omega)]
    exact ⟨rfl, hv⟩
  | succ k ih =>
    intro K i u a hi him f hv hw ha
    have i0 : 0 ≤ i := by
      rw [Int32.le_iff_toInt_le]
      omega
    have i7 : i ≤ 7 := by lia
    have ek : i.toNatClampNeg = k := by
      have := ee i
      omega
    have k8 : k < 8 := by
      have := uk_cln 7 7 rfl i0 i7
      omega
    have kn : k < (v0.1 60 3).toNatClampNeg := by
      rw [← ek]
      exact uk_cll i0 (by lia)
    obtain ⟨K', rfl⟩ := ee_Dp (show -1 ≤ i by lia) f
    have f' := ee_Ds f (show i - 1 < i by lia)
    have hi' : (i - 1).toInt = (k : Int) - 1 := by
      have e1 : (1 : Int32).toInt = 1 := rfl
      rw [ti_sub (by omega) (by omega) (by omega) (by omega), e1]
      omega
    obtain ⟨ak1, ak2, ak3⟩ := ha k (by omega)
    have bk := bd_r (k + 1) (by omega)
    have pk := P k k8
    obtain ⟨j1, -, j3, -, -, j6⟩ := hK.2.2.2.2.1 k kn
    rw [Nat.zero_add] at j1 j6
    have j3 : u0.1 19 k = v0.1 61 k := j3
    have hw' : i - 1 = m → ∀ x : uk_Mem, x.1 57 m.toNatClampNeg = w := fun q => absurd q (by lia)
    -- one more stage
    have T : ∀ L : Int32, 0 < L.toInt → L.toInt ≤ bd (k + 1) → L.toInt = lk v0 m.toNatClampNeg k a → ¬ v0.1 61 (k + 32) = 4 → (l_X0_isEnoughFor_9 m w 13 K' (i - 1) (uk_up (uk_up u 57 (u0.1 (13 + 2) k).toNatClampNeg (u.1 57 (u0.1 (13 + 2) k).toNatClampNeg + L)) 57 (u0.1 (13 + 3) k).toNatClampNeg ((uk_up u 57 (u0.1 (13 + 2) k).toNatClampNeg (u.1 57 (u0.1 (13 + 2) k).toNatClampNeg + L)).1 57 (u0.1 (13 + 3) k).toNatClampNeg + L))).1 = (if enf v0 m.toNatClampNeg (k + 1) a = true then 1 else 0) ∧ ∀ c, ¬ c = 57 → (l_X0_isEnoughFor_9 m w 13 K' (i - 1) (uk_up (uk_up u 57 (u0.1 (13 + 2) k).toNatClampNeg (u.1 57 (u0.1 (13 + 2) k).toNatClampNeg + L)) 57 (u0.1 (13 + 3) k).toNatClampNeg ((uk_up u 57 (u0.1 (13 + 2) k).toNatClampNeg (u.1 57 (u0.1 (13 + 2) k).toNatClampNeg + L)).1 57 (u0.1 (13 + 3) k).toNatClampNeg + L))).2.1 c = u0.1 c := fun L l0 l1 le r => by
      have hr := hri.1 i i0 (by lia) i7
      rw [ix_32 i0 i7, ek] at hr
      obtain ⟨p0, p1, q0, q1⟩ := hr.resolve_left r
      have la := uk_cll p0 p1
      have lb := uk_cll q0 q1
      rw [ek] at la lb
      obtain ⟨pA, pB⟩ := j6 r
      rw [pA, pB, enf_c (by omega) r, ← le]
      refine ih K' (i - 1) _ _ hi' (by lia) f' (fun c hc => ?_) (fun q => hw' q _) (AJ_ad k8 ha l0 l1 la lb)
      rw [uk_up_oc hc, uk_up_oc hc]
      exact hv c hc
    have e3 : ∀ (n : Nat) (x : Int32), (uk_up u 57 n x).1 (13 + 3) = u.1 (13 + 3) := fun n x => uk_up_oc (by decide)
    have R : e_X0_isMade u 13 i = if v0.1 61 (k + 32) = 4 then 0 else 1 := by
      have q := raw_e (u := u) (v := v0) i0 i7 (by rw [ek, hv 14 (by omega)]; exact j1)
      rw [raw7 i0 i7, ek] at q
      by_cases r : v0.1 61 (k + 32) = 4
      · rw [if_pos r] at q ⊢
        rcases q with q | q
        · exact q.1
        · exact absurd q.2 one0
      · rw [if_neg r] at q ⊢
        rcases q with q | q
        · exact absurd q.2.symm one0
        · exact q.1
    rw [l_X0_isEnoughFor_9, if_neg (show ¬ i < 0 by lia)]
    dsimp only
    simp only [e3, ek, hv (13 + 2) (by omega), hv (13 + 3) (by omega), hv (13 + 6) (by omega), R]
    rw [show u0.1 (13 + 6) k = v0.1 61 k from j3]
    by_cases em : i = m
    · have km : k = m.toNatClampNeg := by rw [← em, ek]
      have hwk : u.1 57 k = w := by rw [km]; exact hw em
      have hl : lk v0 m.toNatClampNeg k a = w.toInt := by
        unfold lk
        rw [if_pos km, ← hwk, ak1]
        omega
      have wk : w.toInt = a k := by rw [← hwk]; exact ak1
      rw [if_pos em]
      by_cases p : w ≤ 0
      · have p' := ti_le0.mp p
        rw [if_pos p, enf_a (by omega)]
        exact ih K' (i - 1) u a hi' (by lia) f' hv (fun q => hw' q _) (AJ_dn k8 ha)
      · have p' : ¬ w.toInt ≤ 0 := fun w => p (ti_le0.mpr w)
        rw [if_neg p]
        by_cases r : v0.1 61 (k + 32) = 4
        · rw [if_pos r, if_pos rfl, enf_b (by omega) r]
          exact ⟨rfl, hv⟩
        · rw [if_neg r, if_neg one0]
          exact T _ (by omega) (by omega) hl.symm r
    · have km : ¬ k = m.toNatClampNeg := by
        rw [← ek]
        exact cl_ne i0 m0 em
      have dl : (u.1 57 k - v0.1 61 k).toInt = (u.1 57 k).toInt - (v0.1 61 k).toInt := ti_sub (by omega) (by omega) (by omega) (by omega)
      have hl : lk v0 m.toNatClampNeg k a = (u.1 57 k - v0.1 61 k).toInt := by
        unfold lk
        rw [if_neg km, dl, ak1]
      rw [if_neg em]
      by_cases p : u.1 57 k - v0.1 61 k ≤ 0
      · have p' := ti_le0.mp p
        rw [if_pos p, enf_a (by omega)]
        exact ih K' (i - 1) u a hi' (by lia) f' hv (fun q => hw' q _) (AJ_dn k8 ha)
      · have p' : ¬ (u.1 57 k - v0.1 61 k).toInt ≤ 0 := fun w => p (ti_le0.mpr w)
        rw [if_neg p]
        by_cases r : v0.1 61 (k + 32) = 4
        · rw [if_pos r, if_pos rfl, enf_b (by omega) r]
          exact ⟨rfl, hv⟩
        · rw [if_neg r, if_neg one0]
          exact T _ (by omega) (by omega) hl.symm r
/-! most: the class counts up, the reference down -/
theorem nI_m {m : Int32} (m0 : 0 ≤ m) (m7 : m ≤ 7) : nI m.toNatClampNeg = m := by
  obtain ⟨t, ht, rfl⟩ := nI_of2 (x := m) (M := 7) (n := 7) rfl (by grind) (by lia)
  rw [nI_clamp (by omega)]
def st1 (m : Nat) (n : Int) : Nat → Int := fun j => if j = m then n else 0
def En (v : uk_Mem) (m : Int32) (n : Int) : Bool := enf v m.toNatClampNeg (m.toNatClampNeg + 1) (st1 m.toNatClampNeg n)
theorem En_mono {v : uk_Mem} {m : Int32} {n k : Int} (h : n ≤ k) (e : En v m k = true) : En v m n = true := enf_mono _ _ _ (fun j => by unfold st1; split <;> omega) e
theorem En_0 {v : uk_Mem} {m : Int32} (hv : iv v) (m0 : 0 ≤ m) (m7 : m ≤ 7) : En v m 0 = true := by
  have l := uk_cln 7 7 rfl m0 m7
  exact enf_0 (fun k hk => (iv_t hv k hk).1) _ _ (by omega) (fun j => by unfold st1; split <;> omega)
theorem AJ_st {u : uk_Mem} {c : Nat} {m w : Int32} (m0 : 0 ≤ m) (m7 : m ≤ 7) (w0 : 0 ≤ w) (w40 : w ≤ 40) (h : ∀ j, j ≤ m.toNatClampNeg → u.1 c j = if nI j = m then w else 0) : AJ u c (st1 m.toNatClampNeg w.toInt) (m.toNatClampNeg + 1) := fun j hj => by
  have l := uk_cln 7 7 rfl m0 m7
  have b := bd_r (m.toNatClampNeg + 1) (by omega)
  have a0 := Int32.le_iff_toInt_le.mp w0
  have a1 := Int32.le_iff_toInt_le.mp w40
  have z : (0 : Int32).toInt = 0 := rfl
  have z4 : (40 : Int32).toInt = 40 := rfl
  rw [h j (by omega)]
  unfold st1
  by_cases e : j = m.toNatClampNeg
  · rw [if_pos (by rw [e]; exact nI_m m0 m7), if_pos e]
    exact ⟨rfl, by omega, by omega⟩
  · have en : ¬ nI j = m := fun q => e (by rw [← q, nI_clamp (by omega)])
    rw [if_neg en, if_neg e]
    exact ⟨rfl, by omega, by omega⟩
theorem enough_e {u0 u v0 : uk_Mem} {m w : Int32} (hv0 : iv v0) (hri : ri v0) (hK : KR u0 v0 13 61 0) (m0 : 0 ≤ m) (hm : m < v0.1 60 3) (w0 : 0 ≤ w) (w40 : w ≤ 40) (hu : ∀ c, ¬ c = 57 → u.1 c = u0.1 c) : (e_X0_isEnoughFor u 13 m w).1 = (if En v0 m w.toInt = true then 1 else 0) ∧ ∀ c, ¬ c = 57 → (e_X0_isEnoughFor u 13 m w).2.1 c = u0.1 c := by
  have hn : 0 ≤ v0.1 60 3 ∧ v0.1 60 3 ≤ 8 := iv_at hv0 60 3 rfl
  have l := uk_cln 7 7 rfl m0 (by lia)
  obtain ⟨a1, a2⟩ := startNeed_l (m := m) (w := w) ee_K 0 u (ee_F0 _ _) (by decide) (by decide)
  have z0 : (0 : Int32).toNatClampNeg = 0 := rfl
  rw [z0] at a2
  have e : e_X0_isEnoughFor u 13 m w = l_X0_isEnoughFor_9 m w 13 ee_K m (l_X0_startNeed_2 m w ee_K 0 u) := rfl
  rw [e]
  have mi : m.toInt = ((m.toNatClampNeg + 1 : Nat) : Int) - 1 := by
    have := Int32.le_iff_toInt_le.mp m0
    have z : (0 : Int32).toInt = 0 := rfl
    have ee : m.toNatClampNeg = m.toInt.toNat := rfl
    omega
  refine eno_l hv0 hri hK m0 hm (m.toNatClampNeg + 1) ee_K m _ _ mi (by lia) (ee_D0 _) (fun c hc => (a1 c hc).trans (hu c hc)) (fun _ => ?_) (AJ_st m0 (by lia) w0 w40 (fun j hj => ?_))
  · rw [a2, if_pos (show 0 ≤ m.toNatClampNeg ∧ m.toNatClampNeg < 8 by omega), if_pos (nI_m m0 (by lia))]
  · rw [a2, if_pos (show 0 ≤ j ∧ j < 8 by omega)]
theorem have_s {m n : Int32} : ∀ (K : Nat) (i : Int32) (v : uk_Mem), 0 ≤ v.1 60 3 → v.1 60 3 ≤ 8 → ee_F (v.1 60 3) i K → 0 ≤ i → i ≤ v.1 60 3 → ∃ x : uk_Mem, l_X7_canHave_2 m n K i v = l_X7_canHave_34 m ee_K m x ∧ (∀ c, ¬ c = 70 → x.1 c = v.1 c) ∧ ∀ j, x.1 70 j = if i.toNatClampNeg ≤ j ∧ j < (v.1 60 3).toNatClampNeg then (if nI j = m then n else 0) else v.1 70 j := by
  intro K
  induction K with
  | zero =>
    intro i v n0 n8 f h0 h1
    obtain ⟨j, hj⟩ := ee_Fp h1 f
    omega
  | succ K ih =>
    intro i v n0 n8 f h0 h1
    rw [l_X7_canHave_2]
    dsimp only
    by_cases q : v.1 60 3 ≤ i
    · rw [if_pos q]
      have := uk_cmo n0 q
      refine ⟨v, rfl, fun _ _ => rfl, fun j => ?_⟩
      rw [if_neg (by omega)]
    · rw [if_neg q]
      have hc := uk_c1 h0 (by lia)
      have hl := uk_cln 7 7 rfl h0 (by lia)
      have hlt := uk_cll h0 (show i < v.1 60 3 by lia)
      obtain ⟨t, ht, rfl⟩ := nI_of2 (x := i) (M := 7) (n := 7) rfl (by grind) (by lia)
      have et : (nI t).toNatClampNeg = t := nI_clamp (by omega)
      rw [et] at hc hlt ⊢
      have step : ∀ y : Int32, y = (if nI t = m then n else 0) → ∃ x : uk_Mem, l_X7_canHave_2 m n K (nI t + 1) (uk_up v 70 t y) = l_X7_canHave_34 m ee_K m x ∧ (∀ c, ¬ c = 70 → x.1 c = v.1 c) ∧ ∀ j, x.1 70 j = if t ≤ j ∧ j < (v.1 60 3).toNatClampNeg then (if nI j = m then n else 0) else v.1 70 j := fun y hy => by
        have o60 : (uk_up v 70 t y).1 60 = v.1 60 := uk_up_oc (by decide)
        obtain ⟨x, a, b, c⟩ := ih (nI t + 1) (uk_up v 70 t y) (by rw [o60]; exact n0) (by rw [o60]; exact n8) (by rw [o60]; exact ee_Fs f (by lia)) (by lia) (by rw [o60]; lia)
        refine ⟨x, a, fun d h => (b d h).trans (uk_up_oc h), fun j => ?_⟩
        rw [c j, hc, o60, uk_up_at]
        by_cases e : j = t
        · rw [if_neg (by omega), if_pos ⟨rfl, e⟩, if_pos (by omega), hy, e]
        · by_cases e2 : t + 1 ≤ j ∧ j < (v.1 60 3).toNatClampNeg
          · rw [if_pos e2, if_pos (show t ≤ j ∧ j < (v.1 60 3).toNatClampNeg by omega)]
          · rw [if_neg e2, if_neg (fun z => e z.2), if_neg (by omega)]
      by_cases e : nI t = m
      · rw [if_pos e]
        exact step n (by rw [if_pos e])
      · rw [if_neg e]
        exact step 0 (by rw [if_neg e])
theorem canHave_e {v v0 : uk_Mem} {m n : Int32} (hv0 : iv v0) (hri : ri v0) (m0 : 0 ≤ m) (hm : m < v0.1 60 3) (n0 : 0 ≤ n) (n40 : n ≤ 40) (hv : ∀ c, ¬ c = 70 → v.1 c = v0.1 c) : (e_X7_canHave v m n).1 = (if En v0 m n.toInt = true then 1 else 0) ∧ ∀ c, ¬ c = 70 → (e_X7_canHave v m n).2.1 c = v0.1 c := by
  have hn : 0 ≤ v0.1 60 3 ∧ v0.1 60 3 ≤ 8 := iv_at hv0 60 3 rfl
  have l := uk_cln 7 7 rfl m0 (by lia)
  have lm := uk_cll m0 hm
  have v3 : v.1 60 3 = v0.1 60 3 := by rw [hv 60 (by omega)]
  obtain ⟨x, b0, b1, b2⟩ := have_s (m := m) (n := n) ee_K 0 v (by rw [v3]; exact hn.1) (by rw [v3]; exact hn.2) (ee_F0 _ _) (by decide) (by rw [v3]; exact hn.1)
  have z0 : (0 : Int32).toNatClampNeg = 0 := rfl
  rw [z0, v3] at b2
  have e : e_X7_canHave v m n = l_X7_canHave_34 m ee_K m x := b0
  rw [e]
  have mi : m.toInt = ((m.toNatClampNeg + 1 : Nat) : Int) - 1 := by
    have := Int32.le_iff_toInt_le.mp m0
    have z : (0 : Int32).toInt = 0 := rfl
    have ee : m.toNatClampNeg = m.toInt.toNat := rfl
    omega
  refine hav_l hv0 hri m0 hm (m.toNatClampNeg + 1) ee_K m x _ mi (by lia) (ee_D0 _) (fun c hc => (b1 c hc).trans (hv c hc)) (AJ_st m0 (by lia) n0 n40 (fun j hj => ?_))
  rw [b2, if_pos (show 0 ≤ j ∧ j < (v0.1 60 3).toNatClampNeg by omega)]
theorem m6_l {u0 v0 : uk_Mem} {m : Int32} (hv0 : iv v0) (hri : ri v0) (hK : KR u0 v0 13 61 0) (m0 : 0 ≤ m) (hm : m < v0.1 60 3) : ∀ (K : Nat) (i : Int32) (u : uk_Mem), ee_F 40 i K → 0 ≤ i → i ≤ 40 → (∀ c, ¬ c = 57 → u.1 c = u0.1 c) → En v0 m i.toInt = true → ∃ c : Int32, (l_X6_most_29 m K i u).1 = c ∧ 0 ≤ c ∧ c ≤ 40 ∧ En v0 m c.toInt = true ∧ (c = 40 ∨ En v0 m (c.toInt + 1) = false) := by
  intro K
  induction K with
  | zero =>
    intro i u f h0 h1
    obtain ⟨j, hj⟩ := ee_Fp h1 f
    omega
  | succ K ih =>
    intro i u f h0 h1 hu he
    rw [l_X6_most_29]
    dsimp only
    by_cases q : (40 : Int32) ≤ i
    · rw [if_pos q]
      exact ⟨i, rfl, h0, h1, he, Or.inl (by lia)⟩
    · rw [if_neg q]
      have a0 := Int32.le_iff_toInt_le.mp h0
      have a1 := Int32.le_iff_toInt_le.mp h1
      have z : (0 : Int32).toInt = 0 := rfl
      have z1 : (1 : Int32).toInt = 1 := rfl
      have z4 : (40 : Int32).toInt = 40 := rfl
      have e1 : (i + 1).toInt = i.toInt + 1 := by rw [ti_add (by omega) (by omega) (by omega) (by omega), z1]
      obtain ⟨p, r⟩ := enough_e (u := u) (w := i + 1) hv0 hri hK m0 hm (by lia) (by lia) hu
      rw [p, e1]
      by_cases t : En v0 m (i.toInt + 1) = true
      · rw [if_pos t, if_neg one0]
        exact ih (i + 1) _ (ee_Fs f (by lia)) (by lia) (by lia) r (by rw [e1]; exact t)
      · rw [if_neg t, if_pos rfl]
        exact ⟨i, rfl, h0, h1, he, Or.inr (Bool.eq_false_iff.mpr t)⟩
theorem m7_l {v0 : uk_Mem} {m : Int32} (hv0 : iv v0) (hri : ri v0) (m0 : 0 ≤ m) (hm : m < v0.1 60 3) : ∀ (K : Nat) (i : Int32) (v : uk_Mem), ee_D i K → 0 ≤ i → i ≤ 40 → (∀ c, ¬ c = 70 → v.1 c = v0.1 c) → (∀ n : Int, i.toInt < n → n ≤ 40 → En v0 m n = false) → ∃ c : Int32, (l_X7_most_24 m K i v).1 = c ∧ 0 ≤ c ∧ c ≤ 40 ∧ En v0 m c.toInt = true ∧ ∀ n : Int, c.toInt < n → n ≤ 40 → En v0 m n = false := by
  have hn : 0 ≤ v0.1 60 3 ∧ v0.1 60 3 ≤ 8 := iv_at hv0 60 3 rfl
  intro K
  induction K with
  | zero =>
    intro i v f h0
    obtain ⟨j, hj⟩ := ee_Dp (by lia) f
    omega
  | succ K ih =>
    intro i v f h0 h1 hv hf
    rw [l_X7_most_24]
    obtain ⟨p, r⟩ := canHave_e (v := v) (n := i) hv0 hri m0 hm h0 h1 hv
    rw [p]
    by_cases t : En v0 m i.toInt = true
    · rw [if_pos t, if_neg one0]
      exact ⟨i, rfl, h0, h1, t, hf⟩
    · rw [if_neg t, if_pos rfl]
      have i1 : ¬ i = 0 := fun q => t (by rw [q]; exact En_0 hv0 m0 (by lia))
      have a0 := Int32.le_iff_toInt_le.mp h0
      have a1 := Int32.le_iff_toInt_le.mp h1
      have z : (0 : Int32).toInt = 0 := rfl
      have z1 : (1 : Int32).toInt = 1 := rfl
      have z4 : (40 : Int32).toInt = 40 := rfl
      have e1 : (i - 1).toInt = i.toInt - 1 := by rw [ti_sub (by omega) (by omega) (by omega) (by omega), z1]
      refine ih (i - 1) _ (ee_Ds f (by lia)) (by lia) (by lia) r (fun n n1 n2 => ?_)
      rw [e1] at n1
      by_cases s : n = i.toInt
      · rw [s]
        exact Bool.eq_false_iff.mpr t
      · exact hf n (by omega) n2
theorem most_e {u v : uk_Mem} {m : Int32} (hv : iv v) (hri : ri v) (hK : KR u v 13 61 0) : (e_X6_most u m).1 = (e_X7_most v m).1 := by
  have hn : 0 ≤ v.1 60 3 ∧ v.1 60 3 ≤ 8 := iv_at hv 60 3 rfl
  unfold e_X6_most e_X7_most
  dsimp only
  rw [hasStuff_e hK.1 hn]
  by_cases h1 : e_X7_isStuff v m = 0
  · rw [if_pos h1, if_pos h1]
  · rw [if_neg h1, if_neg h1]
    have hm := isStuff_n hn h1
    have j1 := (hK.2.2.2.2.1 m.toNatClampNeg (uk_cll hm.1 hm.2)).1
    rcases raw_e (u := u) (v := v) hm.1 (by lia) j1 with ⟨m1, m2⟩ | ⟨m1, m2⟩
    · rw [m1, m2, if_pos rfl, if_neg one0]
    · rw [m1, m2, if_neg one0, if_pos rfl]
      obtain ⟨c, c0, c1, c2, c3, c4⟩ := m6_l hv hri hK hm.1 hm.2 ee_K 0 u (ee_F0 _ _) (by decide) (by decide) (fun _ _ => rfl) (En_0 hv hm.1 (by lia))
      have z4 : (40 : Int32).toInt = 40 := rfl
      obtain ⟨d, d0, d1, d2, d3, d4⟩ := m7_l hv hri hm.1 hm.2 ee_K 40 v (ee_D0 _) (by decide) (by decide) (fun _ _ => rfl) (fun n n1 n2 => absurd n1 (by omega))
      rw [c0, d0]
      have y1 := Int32.le_iff_toInt_le.mp c2
      have y2 := Int32.le_iff_toInt_le.mp d2
      have x1 : c.toInt ≤ d.toInt := Classical.byContradiction fun q => by
        have := d4 c.toInt (by omega) (by omega)
        rw [this] at c3
        exact absurd c3 (by decide)
      have x2 : d.toInt ≤ c.toInt := Classical.byContradiction fun q => by
        rcases c4 with e | e
        · rw [e] at q
          omega
        · have := En_mono (n := c.toInt + 1) (k := d.toInt) (by omega) d3
          rw [this] at e
          exact absurd e (by decide)
      exact Int32.toInt_inj.mp (by omega)
theorem iv_z : iv u_z := by
  have key : ∀ (l : List (Nat × Int32 × Int32)) (i : Nat), (l.all fun q => decide (q.2.1 ≤ 0) && decide (0 ≤ q.2.2)) = true → (uk_pick l i).1 ≤ 0 ∧ 0 ≤ (uk_pick l i).2 := by
    intro l
    induction l with
    | nil => intro i _; exact (show (-2147483648 : Int32) ≤ 0 ∧ (0 : Int32) ≤ 2147483647 by decide)
    | cons a l ih =>
      intro i h
      obtain ⟨b, r⟩ := a
      rw [List.all_cons, Bool.and_eq_true] at h
      unfold uk_pick
      split
      · have h1 := h.1
        rw [Bool.and_eq_true] at h1
        exact ⟨of_decide_eq_true h1.1, of_decide_eq_true h1.2⟩
      · exact ih i h.2
  have hall : (uk_rngs.all fun l => l.all fun q => decide (q.2.1 ≤ 0) && decide (0 ≤ q.2.2)) = true := by decide +kernel
  intro c i
  show (uk_pick (uk_rngs.getD c []) i).1 ≤ 0 ∧ 0 ≤ (uk_pick (uk_rngs.getD c []) i).2
  refine key _ i ?_
  rw [List.getD_eq_getElem?_getD]
  cases hc : uk_rngs[c]? with
  | none => rfl
  | some l => exact List.all_eq_true.mp hall l (List.mem_of_getElem? hc)
theorem iv_0 : iv u_0 := iv_upF (iv_upF (iv_upF (iv_upF iv_z rfl) rfl) rfl) rfl
theorem uk_fvs_ad {G G' : uk_D} {u : uk_Mem} {c : Nat} : ∀ (l : List (Option Nat)) (i : Nat), (∀ o ∈ l, ∀ x, o = some x → uk_ad G' (c + x) = uk_ad G (c + x)) → uk_fvs G' u c i l = uk_fvs G u c i l
  | [], i, _ => rfl
  | o :: r, i, h => by
    rw [uk_fvs, uk_fvs, uk_fvs_ad r (i + 1) (fun o ho => h o (List.mem_cons_of_mem _ ho))]
    congr 1
    cases o with
    | none => rfl
    | some x =>
      show Value.ref (uk_ad G' (c + x)) = Value.ref (uk_ad G (c + x))
      rw [h (some x) List.mem_cons_self x rfl]
theorem uk_off : ((List.range 60).all fun c => (uk_ftab (uk_kind c)).all fun o => match o with | none => true | some x => decide (c + x < 60)) = true := by decide +kernel
theorem uk_k12 : ((List.range 60).all fun c => !(uk_kind c == 12) || c == 52) = true := by decide +kernel
theorem uk_ent_ad {G G' : uk_D} {u : uk_Mem} {c : Nat} (hc : c < 60) (hk : G'.2.2.1 = G.2.2.1) (h : ∀ j, j < 60 → uk_ad G' j = uk_ad G j) : uk_ent G' u c = uk_ent G u c := by
  have ho := List.all_eq_true.mp uk_off c (List.mem_range.mpr hc)
  have h12 := List.all_eq_true.mp uk_k12 c (List.mem_range.mpr hc)
  have hf : uk_fvs G' u c 0 (uk_ftab (uk_kind c)) = uk_fvs G u c 0 (uk_ftab (uk_kind c)) := uk_fvs_ad _ 0 (fun o hm x e => by
    subst e
    have := List.all_eq_true.mp ho _ hm
    exact h _ (of_decide_eq_true this))
  unfold uk_ent
  rw [hk]
  generalize hkc : uk_kind c = k at *
  split
  · rfl
  · rfl
  · rfl
  · rfl
  · have : c = 52 := by simpa using h12
    subst this
    have e : (fun i => if i < uk_len 52 then some (uk_ad G' (52 + 1 + i)) else none) = (fun i => if i < uk_len 52 then some (uk_ad G (52 + 1 + i)) else none) := by
      funext i
      by_cases q : i < uk_len 52
      · rw [if_pos q, if_pos q, h _ (by have : uk_len 52 = 4 := rfl; omega)]
      · rw [if_neg q, if_neg q]
    rw [e]
  · rw [hf]
def ad_7 (G : uk_D) (ad : Nat → Nat) (l : List Nat) : Nat → Nat := fun c => if c < 60 then ad c else if c < 78 then l.getD (c - 60) 0 else G.2.2.2.1 c
abbrev G_7 (G : uk_D) (ad : Nat → Nat) (l : List Nat) : uk_D := (G.1, G.2.1, G.2.2.1, ad_7 G ad l, G.2.2.2.2)
theorem ad_7_lo {G : uk_D} {ad : Nat → Nat} {l : List Nat} {c : Nat} (h : c < 60) : ad_7 G ad l c = ad c := by unfold ad_7; rw [if_pos h]
theorem ad_7_hi {G : uk_D} {ad : Nat → Nat} {l : List Nat} {c : Nat} (h : 78 ≤ c) : ad_7 G ad l c = G.2.2.2.1 c := by unfold ad_7; rw [if_neg (by omega), if_neg (by omega)]
theorem uk_E_7 {G : uk_D} {ad : Nat → Nat} {l : List Nat} {U : State} (h : uk_E G U) : uk_E (G_7 G ad l) U := by
  have e1 : (fun i => uk_ad (G_7 G ad l) (100 + i)) = fun i => uk_ad G (100 + i) := by
    funext i
    exact ad_7_hi (by omega)
  have e2 : (fun i => uk_ad (G_7 G ad l) (200 + i)) = fun i => uk_ad G (200 + i) := by
    funext i
    exact ad_7_hi (by omega)
  obtain ⟨h1, h2, h3, h4⟩ := h
  refine ⟨?_, h2, h3, fun i hi => ?_⟩
  · rw [e1, e2]
    exact h1
  · rw [congrFun e1 i]
    exact h4 i hi
theorem w_78 {G : uk_D} {ad : Nat → Nat} {l : List Nat} {u : uk_Mem} : uk_ws (G_7 G ad l) u = (List.range 60).map (fun c => (ad c, uk_ent (G.1, G.2.1, G.2.2.1, ad, fun _ => True) u c)) ++ ([60, 61, 62, 63, 64, 65, 66, 67, 68, 69, 70, 71, 72, 73, 74, 75, 76, 77] : List Nat).map (fun c => (uk_ad (G_7 G ad l) c, uk_ent (G_7 G ad l) u c)) := by
  have e : List.range 78 = List.range 60 ++ ([60, 61, 62, 63, 64, 65, 66, 67, 68, 69, 70, 71, 72, 73, 74, 75, 76, 77] : List Nat) := by decide
  unfold uk_ws
  rw [e, List.map_append]
  congr 1
  refine List.map_congr_left (fun c hc => ?_)
  have hc := List.mem_range.mp hc
  rw [uk_ent_ad (G' := G_7 G ad l) (G := (G.1, G.2.1, G.2.2.1, ad, fun _ => True)) hc rfl (fun j hj => ad_7_lo hj)]
  show (ad_7 G ad l c, _) = _
  rw [ad_7_lo hc]
/-! the sheets: lanes and sizes on both sides -/
def aq (A : Nat → Int32) (v k : Int32) : Prop := ∀ j : Int32, 0 ≤ j → j < k → A j.toNatClampNeg = v
theorem aq_0 {A : Nat → Int32} {v : Int32} : aq A v 0 := fun j h0 h1 => absurd h0 (by grind)
theorem aq_up {A : Nat → Int32} {v k : Int32} (h : aq A v k) (h0 : 0 ≤ k) : aq (upd A k.toNatClampNeg v) v (k + 1) := fun j j0 j1 => by
  by_cases q : j = k
  · rw [upd_at q]
  · rw [upd_ne j0 h0 q]
    exact h j j0 (by grind)
theorem aq_le {A : Nat → Int32} {v k n : Int32} (h : aq A v k) (hn : n ≤ k) : aq A v n := fun j j0 j1 => h j j0 (by grind)
set_option maxHeartbeats 4000000 in
set_option maxRecDepth 20000 in
theorem g7_tail {G : uk_D} {X : uk_Cx} {Q : Option Value → uk_Mem → Prop} (hs : uk_Sep G) {u : uk_Mem} (hu : iv u) (d : Nat) (hQ : ∀ u', iv u' → ri u' → fk [60, 61, 63, 64, 65, 66, 74] [13, 18, 28] u u' → aq (u'.1 74) (-4) 4 → u'.1 60 3 = 0 → (∀ j, j < 51 → u'.1 61 j = 0) → u'.1 63 0 = 0 → u'.1 63 1 = 0 → Q none u') : uk_G G X mX7_init (d + 1) Q 141 [(0, .ref (uk_ad G 60))] [] u := by
  have f0 : fk [60, 61, 63, 64, 65, 66, 74] [13, 18, 28] u u := fk_rf
  refine g_iconst (v := 0) dX7_init_141 (by decide) ?_
  refine g_istore_n dX7_init_142 (by decide) ?_
  refine g_pick (lv' := [(0, .ref (uk_ad G 60)), (1, .int 0)]) [0, 1] rfl ?_
  have L143_0 : ∀ i2 : Int32, 0 ≤ i2 → i2 ≤ 4 → ∀ (u3 : uk_Mem), iv u3 → fk [60, 61, 63, 64, 65, 66, 74] [13, 18, 28] u u3 → aq (u3.1 74) (-4) i2 → uk_G G X mX7_init (d + 1) Q 143 [(0, .ref (uk_ad G 60)), (1, .int i2)] [] u3 := by
    refine uk_upl 4 ?_
    intro i2 ai2 bi2 ihi2  u3 hu3 fu3 ji20
    have C74_u3 : u3.1 74 = u3.1 74 := rfl
    refine g_iload_n dX7_init_143 rfl ?_
    refine g_iconst (v := 4) dX7_init_144 (by decide) ?_
    refine g_icmp_ge (tgt := 162) dX7_init_145 (by decide) (fun c4 => ?_) (fun c4 => ?_)
    · refine g_aload_n dX7_init_162 rfl ?_
      refine cl_X7_63 (c := 60) (As := []) rfl (c_X7_firstDraft_t (G := G) hs hu3    (d)) rfl (by omega) rfl rfl (Nat.le_of_ble_eq_true rfl) dX7_init_163 (fun r5 u6 q7 => ?_)
      obtain ⟨rfl, mq7⟩ := q7
      obtain ⟨hu6, gu6, rfu6, ku60, ku61, ku62, ku63⟩ := mq7
      have fu6 : fk [60, 61, 63, 64, 65, 66, 74] [13, 18, 28] u u6 := fk_tr fu3 gu6 (by decide) (by decide)
      have C8 : u6.1 74 = u3.1 74 := (fk_c gu6 (by decide)).trans C74_u3
      have rdX : rd u6 := rd_0 ku60
      refine g_aload_n dX7_init_166 rfl ?_
      refine cl_X7_66 (c := 60) (As := []) rfl (c_X7_keepDraft_t (G := G) hs hu6 rdX    (d)) rfl (by omega) rfl rfl (Nat.le_of_ble_eq_true rfl) dX7_init_167 (fun r9 u10 q11 => ?_)
      obtain ⟨rfl, mq11⟩ := q11
      obtain ⟨hu10, gu10, riu10, ku100, ku101, ku102, ku103, ku104, ku105⟩ := mq11
      have fu10 : fk [60, 61, 63, 64, 65, 66, 74] [13, 18, 28] u u10 := fk_tr fu6 gu10 (by decide) (by decide)
      have rdu10 : rd u10 := rd_fk rdX gu10 (by decide) (by decide) (by decide) (by decide)
      have C12 : u10.1 74 = u3.1 74 := (fk_c gu10 (by decide)).trans C8
      exact g_vret dX7_init_170 rfl (hQ _ hu10 riu10 fu10 (by rw [C12]; exact aq_le ji20 (by lia)) (ku100.trans ku60) (fun j hj => (cpy_n ku101 (by rw [show (51 : Int32).toNatClampNeg = 51 from rfl]; exact hj) (by decide)).trans (ku63 j hj)) ku104 ku105)
    · refine g_aload_n dX7_init_148 rfl ?_
      refine f_X7_51 rfl rfl dX7_init_149 ?_
      refine g_iload_n dX7_init_152 rfl ?_
      refine g_bipush (v := (-4)) dX7_init_153 (by decide) ?_
      have v13 : vp_in i2 4 := uk_vin 4 rfl (by first | decide | lia | grind) (by first | decide | lia | grind)
      have b14 := uk_cl v13
      refine g_iast rfl rfl v13 dX7_init_155 ?_
      refine g_mem (fun u15 eu15 => ?_)
      have hu15 : iv u15 := by rw [eu15]; exact iv_upF hu3 (uk_pick1 _ (by omega))
      have fu15 : fk [60, 61, 63, 64, 65, 66, 74] [13, 18, 28] u u15 := by rw [eu15]; exact fk_up fu3 (by decide) (fun q => absurd q (by decide))
      have C16 : u15.1 74 = (upd (u3.1 74) (i2 : Int32).toNatClampNeg (-4)) := by rw [eu15, uk_up_self, C74_u3]
      refine g_iinc (v := i2 + 1) dX7_init_156 rfl rfl (by decide) ?_
      refine g_pick (lv' := [(0, .ref (uk_ad G 60)), (1, .int (i2 + 1))]) [0, 1] rfl ?_
      refine g_goto (tgt := 143) dX7_init_159 (by decide) ?_
      refine g_pick (lv' := [(0, .ref (uk_ad G 60)), (1, .int (i2 + 1))]) [0, 1] rfl ?_
      exact ihi2 (by first | lia | grind)  u15 hu15 fu15 (by rw [C16]; exact aq_up ji20 (by lia))
  refine g_pick (lv' := [(0, .ref (uk_ad G 60)), (1, .int 0)]) [0, 1] rfl ?_
  exact L143_0 0 (by first | decide | lia | grind) (by first | decide | lia | grind)  u hu f0 aq_0
set_option maxHeartbeats 40000000 in
set_option maxRecDepth 40000 in
theorem c_X7_init {G : uk_D} {ad : Nat → Nat} (h0 : Nat) : ui_MethA G (uk_E G) 2 17 948 mX7_init [.ref h0] ((h0, .inr (7, [.null, .null, .null, .int 0, .null, .null, .null, .int 0, .null, .null, .int 0, .int 0, .null, .int 0, .int 0, .int 0, .int 0, .int 0, .int 0, .int 0, .null, .null, .int 0, .null, .null, .null, .null, .null, .int 0, .null])) :: w_60 G ad) (fun w => ∃ (l : List Nat) (u : uk_Mem), l.getD 0 0 = h0 ∧ w = uk_ws (G_7 G ad l) u ∧ iv u ∧ ri u ∧ REL u) := by
  refine ui_MethA.of (by decide) (Nat.le_of_ble_eq_true rfl) (fun X => ?_)
  refine i_ws (ws' := (h0, .inr (7, [.null, .null, .null, .int 0, .null, .null, .null, .int 0, .null, .null, .int 0, .int 0, .null, .int 0, .int 0, .int 0, .int 0, .int 0, .int 0, .int 0, .null, .null, .int 0, .null, .null, .null, .null, .null, .int 0, .null])) :: (w_60 G ad ++ [])) (by rw [List.append_nil]) ?_
  refine i_aload_n dX7_init_0 rfl ?_
  refine i_obj (uk_wI (List.mem_of_getElem? (i := 764) (by decide +kernel)) rfl) dX7_init_1 (by decide) (by decide) ?_
  refine i_aload_n dX7_init_4 rfl ?_
  refine i_sipush (v := 153) dX7_init_5 (by decide) ?_
  refine i_newa (atype := .int) (ty := .int) (a0 := (153, .inl (fun _ => 0))) 0 (uk_wI (List.mem_of_getElem? (i := 84) (by decide +kernel)) rfl) rfl rfl (fun _ _ h => h) (fun _ => rfl) (by decide) rfl (by decide) (by decide) (by decide) dX7_init_8 (fun q1 => ?_)
  refine i_ws (ws' := (h0, .inr (7, [.null, .null, .null, .int 0, .null, .null, .null, .int 0, .null, .null, .int 0, .int 0, .null, .int 0, .int 0, .int 0, .int 0, .int 0, .int 0, .int 0, .null, .null, .int 0, .null, .null, .null, .null, .null, .int 0, .null])) :: (w_60 G ad ++ [(q1, .inl (G.2.2.1 8, 153, .inl (fun _ => 0)))])) (by rw [List.cons_append, List.append_assoc]; rfl) ?_
  refine i_putF (q0 := 0) (j := 0) (ty := (.array .int)) (ws' := (h0, .inr (7, [.ref q1, .null, .null, .int 0, .null, .null, .null, .int 0, .null, .null, .int 0, .int 0, .null, .int 0, .int 0, .int 0, .int 0, .int 0, .int 0, .int 0, .null, .null, .int 0, .null, .null, .null, .null, .null, .int 0, .null])) :: (w_60 G ad ++ [(q1, .inl (G.2.2.1 8, 153, .inl (fun _ => 0)))])) rfl rfl uk_in7 (by decide) tyX7_ok nmX7 rfl rfl rfl (by decide +kernel) rfl rfl (Nat.le_of_ble_eq_true rfl) (uk_wI (List.mem_of_getElem? (i := 773) (by decide +kernel)) rfl) dX7_init_10 rfl ?_
  refine i_aload_n dX7_init_13 rfl ?_
  refine i_bipush (v := 51) dX7_init_14 (by decide) ?_
  refine i_newa (atype := .int) (ty := .int) (a0 := (51, .inl (fun _ => 0))) 0 (uk_wI (List.mem_of_getElem? (i := 84) (by decide +kernel)) rfl) rfl rfl (fun _ _ h => h) (fun _ => rfl) (by decide) rfl (by decide) (by decide) (by decide) dX7_init_16 (fun q2 => ?_)
  refine i_ws (ws' := (h0, .inr (7, [.ref q1, .null, .null, .int 0, .null, .null, .null, .int 0, .null, .null, .int 0, .int 0, .null, .int 0, .int 0, .int 0, .int 0, .int 0, .int 0, .int 0, .null, .null, .int 0, .null, .null, .null, .null, .null, .int 0, .null])) :: (w_60 G ad ++ [(q1, .inl (G.2.2.1 8, 153, .inl (fun _ => 0))), (q2, .inl (G.2.2.1 8, 51, .inl (fun _ => 0)))])) (by rw [List.cons_append, List.append_assoc]; rfl) ?_
  refine i_putF (q0 := 0) (j := 1) (ty := (.array .int)) (ws' := (h0, .inr (7, [.ref q1, .ref q2, .null, .int 0, .null, .null, .null, .int 0, .null, .null, .int 0, .int 0, .null, .int 0, .int 0, .int 0, .int 0, .int 0, .int 0, .int 0, .null, .null, .int 0, .null, .null, .null, .null, .null, .int 0, .null])) :: (w_60 G ad ++ [(q1, .inl (G.2.2.1 8, 153, .inl (fun _ => 0))), (q2, .inl (G.2.2.1 8, 51, .inl (fun _ => 0)))])) rfl rfl uk_in7 (by decide) tyX7_ok nmX7 rfl rfl rfl (by decide +kernel) rfl rfl (Nat.le_of_ble_eq_true rfl) (uk_wI (List.mem_of_getElem? (i := 774) (by decide +kernel)) rfl) dX7_init_18 rfl ?_
  refine i_aload_n dX7_init_21 rfl ?_
  refine i_iconst (v := 2) dX7_init_22 (by decide) ?_
  refine i_newa (atype := .boolean) (ty := .boolean) (a0 := (2, .inl (fun _ => 0))) 2 (uk_wI (List.mem_of_getElem? (i := 172) (by decide +kernel)) rfl) rfl rfl (fun _ _ h => h) (fun _ => rfl) (by decide) rfl (by decide) (by decide) (by decide) dX7_init_23 (fun q3 => ?_)
  refine i_ws (ws' := (h0, .inr (7, [.ref q1, .ref q2, .null, .int 0, .null, .null, .null, .int 0, .null, .null, .int 0, .int 0, .null, .int 0, .int 0, .int 0, .int 0, .int 0, .int 0, .int 0, .null, .null, .int 0, .null, .null, .null, .null, .null, .int 0, .null])) :: (w_60 G ad ++ [(q1, .inl (G.2.2.1 8, 153, .inl (fun _ => 0))), (q2, .inl (G.2.2.1 8, 51, .inl (fun _ => 0))), (q3, .inl (G.2.2.1 10, 2, .inl (fun _ => 0)))])) (by rw [List.cons_append, List.append_assoc]; rfl) ?_
  refine i_putF (q0 := 0) (j := 2) (ty := (.array .boolean)) (ws' := (h0, .inr (7, [.ref q1, .ref q2, .ref q3, .int 0, .null, .null, .null, .int 0, .null, .null, .int 0, .int 0, .null, .int 0, .int 0, .int 0, .int 0, .int 0, .int 0, .int 0, .null, .null, .int 0, .null, .null, .null, .null, .null, .int 0, .null])) :: (w_60 G ad ++ [(q1, .inl (G.2.2.1 8, 153, .inl (fun _ => 0))), (q2, .inl (G.2.2.1 8, 51, .inl (fun _ => 0))), (q3, .inl (G.2.2.1 10, 2, .inl (fun _ => 0)))])) rfl rfl uk_in7 (by decide) tyX7_ok nmX7 rfl rfl rfl (by decide +kernel) rfl rfl (Nat.le_of_ble_eq_true rfl) (uk_wI (List.mem_of_getElem? (i := 775) (by decide +kernel)) rfl) dX7_init_25 rfl ?_
  refine i_aload_n dX7_init_28 rfl ?_
  refine i_bipush (v := 8) dX7_init_29 (by decide) ?_
  refine i_newa (atype := .int) (ty := .int) (a0 := (8, .inl (fun _ => 0))) 0 (uk_wI (List.mem_of_getElem? (i := 84) (by decide +kernel)) rfl) rfl rfl (fun _ _ h => h) (fun _ => rfl) (by decide) rfl (by decide) (by decide) (by decide) dX7_init_31 (fun q4 => ?_)
  refine i_ws (ws' := (h0, .inr (7, [.ref q1, .ref q2, .ref q3, .int 0, .null, .null, .null, .int 0, .null, .null, .int 0, .int 0, .null, .int 0, .int 0, .int 0, .int 0, .int 0, .int 0, .int 0, .null, .null, .int 0, .null, .null, .null, .null, .null, .int 0, .null])) :: (w_60 G ad ++ [(q1, .inl (G.2.2.1 8, 153, .inl (fun _ => 0))), (q2, .inl (G.2.2.1 8, 51, .inl (fun _ => 0))), (q3, .inl (G.2.2.1 10, 2, .inl (fun _ => 0))), (q4, .inl (G.2.2.1 8, 8, .inl (fun _ => 0)))])) (by rw [List.cons_append, List.append_assoc]; rfl) ?_
  refine i_putF (q0 := 0) (j := 4) (ty := (.array .int)) (ws' := (h0, .inr (7, [.ref q1, .ref q2, .ref q3, .int 0, .ref q4, .null, .null, .int 0, .null, .null, .int 0, .int 0, .null, .int 0, .int 0, .int 0, .int 0, .int 0, .int 0, .int 0, .null, .null, .int 0, .null, .null, .null, .null, .null, .int 0, .null])) :: (w_60 G ad ++ [(q1, .inl (G.2.2.1 8, 153, .inl (fun _ => 0))), (q2, .inl (G.2.2.1 8, 51, .inl (fun _ => 0))), (q3, .inl (G.2.2.1 10, 2, .inl (fun _ => 0))), (q4, .inl (G.2.2.1 8, 8, .inl (fun _ => 0)))])) rfl rfl uk_in7 (by decide) tyX7_ok nmX7 rfl rfl rfl (by decide +kernel) rfl rfl (Nat.le_of_ble_eq_true rfl) (uk_wI (List.mem_of_getElem? (i := 777) (by decide +kernel)) rfl) dX7_init_33 rfl ?_
  refine i_aload_n dX7_init_36 rfl ?_
  refine i_bipush (v := 8) dX7_init_37 (by decide) ?_
  refine i_newa (atype := .int) (ty := .int) (a0 := (8, .inl (fun _ => 0))) 0 (uk_wI (List.mem_of_getElem? (i := 84) (by decide +kernel)) rfl) rfl rfl (fun _ _ h => h) (fun _ => rfl) (by decide) rfl (by decide) (by decide) (by decide) dX7_init_39 (fun q5 => ?_)
  refine i_ws (ws' := (h0, .inr (7, [.ref q1, .ref q2, .ref q3, .int 0, .ref q4, .null, .null, .int 0, .null, .null, .int 0, .int 0, .null, .int 0, .int 0, .int 0, .int 0, .int 0, .int 0, .int 0, .null, .null, .int 0, .null, .null, .null, .null, .null, .int 0, .null])) :: (w_60 G ad ++ [(q1, .inl (G.2.2.1 8, 153, .inl (fun _ => 0))), (q2, .inl (G.2.2.1 8, 51, .inl (fun _ => 0))), (q3, .inl (G.2.2.1 10, 2, .inl (fun _ => 0))), (q4, .inl (G.2.2.1 8, 8, .inl (fun _ => 0))), (q5, .inl (G.2.2.1 8, 8, .inl (fun _ => 0)))])) (by rw [List.cons_append, List.append_assoc]; rfl) ?_
  refine i_putF (q0 := 0) (j := 5) (ty := (.array .int)) (ws' := (h0, .inr (7, [.ref q1, .ref q2, .ref q3, .int 0, .ref q4, .ref q5, .null, .int 0, .null, .null, .int 0, .int 0, .null, .int 0, .int 0, .int 0, .int 0, .int 0, .int 0, .int 0, .null, .null, .int 0, .null, .null, .null, .null, .null, .int 0, .null])) :: (w_60 G ad ++ [(q1, .inl (G.2.2.1 8, 153, .inl (fun _ => 0))), (q2, .inl (G.2.2.1 8, 51, .inl (fun _ => 0))), (q3, .inl (G.2.2.1 10, 2, .inl (fun _ => 0))), (q4, .inl (G.2.2.1 8, 8, .inl (fun _ => 0))), (q5, .inl (G.2.2.1 8, 8, .inl (fun _ => 0)))])) rfl rfl uk_in7 (by decide) tyX7_ok nmX7 rfl rfl rfl (by decide +kernel) rfl rfl (Nat.le_of_ble_eq_true rfl) (uk_wI (List.mem_of_getElem? (i := 778) (by decide +kernel)) rfl) dX7_init_41 rfl ?_
  refine i_aload_n dX7_init_44 rfl ?_
  refine i_bipush (v := 51) dX7_init_45 (by decide) ?_
  refine i_newa (atype := .int) (ty := .int) (a0 := (51, .inl (fun _ => 0))) 0 (uk_wI (List.mem_of_getElem? (i := 84) (by decide +kernel)) rfl) rfl rfl (fun _ _ h => h) (fun _ => rfl) (by decide) rfl (by decide) (by decide) (by decide) dX7_init_47 (fun q6 => ?_)
  refine i_ws (ws' := (h0, .inr (7, [.ref q1, .ref q2, .ref q3, .int 0, .ref q4, .ref q5, .null, .int 0, .null, .null, .int 0, .int 0, .null, .int 0, .int 0, .int 0, .int 0, .int 0, .int 0, .int 0, .null, .null, .int 0, .null, .null, .null, .null, .null, .int 0, .null])) :: (w_60 G ad ++ [(q1, .inl (G.2.2.1 8, 153, .inl (fun _ => 0))), (q2, .inl (G.2.2.1 8, 51, .inl (fun _ => 0))), (q3, .inl (G.2.2.1 10, 2, .inl (fun _ => 0))), (q4, .inl (G.2.2.1 8, 8, .inl (fun _ => 0))), (q5, .inl (G.2.2.1 8, 8, .inl (fun _ => 0))), (q6, .inl (G.2.2.1 8, 51, .inl (fun _ => 0)))])) (by rw [List.cons_append, List.append_assoc]; rfl) ?_
  refine i_putF (q0 := 0) (j := 6) (ty := (.array .int)) (ws' := (h0, .inr (7, [.ref q1, .ref q2, .ref q3, .int 0, .ref q4, .ref q5, .ref q6, .int 0, .null, .null, .int 0, .int 0, .null, .int 0, .int 0, .int 0, .int 0, .int 0, .int 0, .int 0, .null, .null, .int 0, .null, .null, .null, .null, .null, .int 0, .null])) :: (w_60 G ad ++ [(q1, .inl (G.2.2.1 8, 153, .inl (fun _ => 0))), (q2, .inl (G.2.2.1 8, 51, .inl (fun _ => 0))), (q3, .inl (G.2.2.1 10, 2, .inl (fun _ => 0))), (q4, .inl (G.2.2.1 8, 8, .inl (fun _ => 0))), (q5, .inl (G.2.2.1 8, 8, .inl (fun _ => 0))), (q6, .inl (G.2.2.1 8, 51, .inl (fun _ => 0)))])) rfl rfl uk_in7 (by decide) tyX7_ok nmX7 rfl rfl rfl (by decide +kernel) rfl rfl (Nat.le_of_ble_eq_true rfl) (uk_wI (List.mem_of_getElem? (i := 779) (by decide +kernel)) rfl) dX7_init_49 rfl ?_
  refine i_aload_n dX7_init_52 rfl ?_
  refine i_bipush (v := 8) dX7_init_53 (by decide) ?_
  refine i_newa (atype := .int) (ty := .int) (a0 := (8, .inl (fun _ => 0))) 0 (uk_wI (List.mem_of_getElem? (i := 84) (by decide +kernel)) rfl) rfl rfl (fun _ _ h => h) (fun _ => rfl) (by decide) rfl (by decide) (by decide) (by decide) dX7_init_55 (fun q7 => ?_)
  refine i_ws (ws' := (h0, .inr (7, [.ref q1, .ref q2, .ref q3, .int 0, .ref q4, .ref q5, .ref q6, .int 0, .null, .null, .int 0, .int 0, .null, .int 0, .int 0, .int 0, .int 0, .int 0, .int 0, .int 0, .null, .null, .int 0, .null, .null, .null, .null, .null, .int 0, .null])) :: (w_60 G ad ++ [(q1, .inl (G.2.2.1 8, 153, .inl (fun _ => 0))), (q2, .inl (G.2.2.1 8, 51, .inl (fun _ => 0))), (q3, .inl (G.2.2.1 10, 2, .inl (fun _ => 0))), (q4, .inl (G.2.2.1 8, 8, .inl (fun _ => 0))), (q5, .inl (G.2.2.1 8, 8, .inl (fun _ => 0))), (q6, .inl (G.2.2.1 8, 51, .inl (fun _ => 0))), (q7, .inl (G.2.2.1 8, 8, .inl (fun _ => 0)))])) (by rw [List.cons_append, List.append_assoc]; rfl) ?_
  refine i_putF (q0 := 0) (j := 8) (ty := (.array .int)) (ws' := (h0, .inr (7, [.ref q1, .ref q2, .ref q3, .int 0, .ref q4, .ref q5, .ref q6, .int 0, .ref q7, .null, .int 0, .int 0, .null, .int 0, .int 0, .int 0, .int 0, .int 0, .int 0, .int 0, .null, .null, .int 0, .null, .null, .null, .null, .null, .int 0, .null])) :: (w_60 G ad ++ [(q1, .inl (G.2.2.1 8, 153, .inl (fun _ => 0))), (q2, .inl (G.2.2.1 8, 51, .inl (fun _ => 0))), (q3, .inl (G.2.2.1 10, 2, .inl (fun _ => 0))), (q4, .inl (G.2.2.1 8, 8, .inl (fun _ => 0))), (q5, .inl (G.2.2.1 8, 8, .inl (fun _ => 0))), (q6, .inl (G.2.2.1 8, 51, .inl (fun _ => 0))), (q7, .inl (G.2.2.1 8, 8, .inl (fun _ => 0)))])) rfl rfl uk_in7 (by decide) tyX7_ok nmX7 rfl rfl rfl (by decide +kernel) rfl rfl (Nat.le_of_ble_eq_true rfl) (uk_wI (List.mem_of_getElem? (i := 781) (by decide +kernel)) rfl) dX7_init_57 rfl ?_
  refine i_aload_n dX7_init_60 rfl ?_
  refine i_bipush (v := 8) dX7_init_61 (by decide) ?_
  refine i_newa (atype := .int) (ty := .int) (a0 := (8, .inl (fun _ => 0))) 0 (uk_wI (List.mem_of_getElem? (i := 84) (by decide +kernel)) rfl) rfl rfl (fun _ _ h => h) (fun _ => rfl) (by decide) rfl (by decide) (by decide) (by decide) dX7_init_63 (fun q8 => ?_)
  refine i_ws (ws' := (h0, .inr (7, [.ref q1, .ref q2, .ref q3, .int 0, .ref q4, .ref q5, .ref q6, .int 0, .ref q7, .null, .int 0, .int 0, .null, .int 0, .int 0, .int 0, .int 0, .int 0, .int 0, .int 0, .null, .null, .int 0, .null, .null, .null, .null, .null, .int 0, .null])) :: (w_60 G ad ++ [(q1, .inl (G.2.2.1 8, 153, .inl (fun _ => 0))), (q2, .inl (G.2.2.1 8, 51, .inl (fun _ => 0))), (q3, .inl (G.2.2.1 10, 2, .inl (fun _ => 0))), (q4, .inl (G.2.2.1 8, 8, .inl (fun _ => 0))), (q5, .inl (G.2.2.1 8, 8, .inl (fun _ => 0))), (q6, .inl (G.2.2.1 8, 51, .inl (fun _ => 0))), (q7, .inl (G.2.2.1 8, 8, .inl (fun _ => 0))), (q8, .inl (G.2.2.1 8, 8, .inl (fun _ => 0)))])) (by rw [List.cons_append, List.append_assoc]; rfl) ?_
  refine i_putF (q0 := 0) (j := 9) (ty := (.array .int)) (ws' := (h0, .inr (7, [.ref q1, .ref q2, .ref q3, .int 0, .ref q4, .ref q5, .ref q6, .int 0, .ref q7, .ref q8, .int 0, .int 0, .null, .int 0, .int 0, .int 0, .int 0, .int 0, .int 0, .int 0, .null, .null, .int 0, .null, .null, .null, .null, .null, .int 0, .null])) :: (w_60 G ad ++ [(q1, .inl (G.2.2.1 8, 153, .inl (fun _ => 0))), (q2, .inl (G.2.2.1 8, 51, .inl (fun _ => 0))), (q3, .inl (G.2.2.1 10, 2, .inl (fun _ => 0))), (q4, .inl (G.2.2.1 8, 8, .inl (fun _ => 0))), (q5, .inl (G.2.2.1 8, 8, .inl (fun _ => 0))), (q6, .inl (G.2.2.1 8, 51, .inl (fun _ => 0))), (q7, .inl (G.2.2.1 8, 8, .inl (fun _ => 0))), (q8, .inl (G.2.2.1 8, 8, .inl (fun _ => 0)))])) rfl rfl uk_in7 (by decide) tyX7_ok nmX7 rfl rfl rfl (by decide +kernel) rfl rfl (Nat.le_of_ble_eq_true rfl) (uk_wI (List.mem_of_getElem? (i := 782) (by decide +kernel)) rfl) dX7_init_65 rfl ?_
  refine i_aload_n dX7_init_68 rfl ?_
  refine i_sipush (v := 160) dX7_init_69 (by decide) ?_
  refine i_newa (atype := .int) (ty := .int) (a0 := (160, .inl (fun _ => 0))) 0 (uk_wI (List.mem_of_getElem? (i := 84) (by decide +kernel)) rfl) rfl rfl (fun _ _ h => h) (fun _ => rfl) (by decide) rfl (by decide) (by decide) (by decide) dX7_init_72 (fun q9 => ?_)
  refine i_ws (ws' := (h0, .inr (7, [.ref q1, .ref q2, .ref q3, .int 0, .ref q4, .ref q5, .ref q6, .int 0, .ref q7, .ref q8, .int 0, .int 0, .null, .int 0, .int 0, .int 0, .int 0, .int 0, .int 0, .int 0, .null, .null, .int 0, .null, .null, .null, .null, .null, .int 0, .null])) :: (w_60 G ad ++ [(q1, .inl (G.2.2.1 8, 153, .inl (fun _ => 0))), (q2, .inl (G.2.2.1 8, 51, .inl (fun _ => 0))), (q3, .inl (G.2.2.1 10, 2, .inl (fun _ => 0))), (q4, .inl (G.2.2.1 8, 8, .inl (fun _ => 0))), (q5, .inl (G.2.2.1 8, 8, .inl (fun _ => 0))), (q6, .inl (G.2.2.1 8, 51, .inl (fun _ => 0))), (q7, .inl (G.2.2.1 8, 8, .inl (fun _ => 0))), (q8, .inl (G.2.2.1 8, 8, .inl (fun _ => 0))), (q9, .inl (G.2.2.1 8, 160, .inl (fun _ => 0)))])) (by rw [List.cons_append, List.append_assoc]; rfl) ?_
  refine i_putF (q0 := 0) (j := 12) (ty := (.array .int)) (ws' := (h0, .inr (7, [.ref q1, .ref q2, .ref q3, .int 0, .ref q4, .ref q5, .ref q6, .int 0, .ref q7, .ref q8, .int 0, .int 0, .ref q9, .int 0, .int 0, .int 0, .int 0, .int 0, .int 0, .int 0, .null, .null, .int 0, .null, .null, .null, .null, .null, .int 0, .null])) :: (w_60 G ad ++ [(q1, .inl (G.2.2.1 8, 153, .inl (fun _ => 0))), (q2, .inl (G.2.2.1 8, 51, .inl (fun _ => 0))), (q3, .inl (G.2.2.1 10, 2, .inl (fun _ => 0))), (q4, .inl (G.2.2.1 8, 8, .inl (fun _ => 0))), (q5, .inl (G.2.2.1 8, 8, .inl (fun _ => 0))), (q6, .inl (G.2.2.1 8, 51, .inl (fun _ => 0))), (q7, .inl (G.2.2.1 8, 8, .inl (fun _ => 0))), (q8, .inl (G.2.2.1 8, 8, .inl (fun _ => 0))), (q9, .inl (G.2.2.1 8, 160, .inl (fun _ => 0)))])) rfl rfl uk_in7 (by decide) tyX7_ok nmX7 rfl rfl rfl (by decide +kernel) rfl rfl (Nat.le_of_ble_eq_true rfl) (uk_wI (List.mem_of_getElem? (i := 785) (by decide +kernel)) rfl) dX7_init_74 rfl ?_
  refine i_aload_n dX7_init_77 rfl ?_
  refine i_bipush (v := 8) dX7_init_78 (by decide) ?_
  refine i_newa (atype := .int) (ty := .int) (a0 := (8, .inl (fun _ => 0))) 0 (uk_wI (List.mem_of_getElem? (i := 84) (by decide +kernel)) rfl) rfl rfl (fun _ _ h => h) (fun _ => rfl) (by decide) rfl (by decide) (by decide) (by decide) dX7_init_80 (fun q10 => ?_)
  refine i_ws (ws' := (h0, .inr (7, [.ref q1, .ref q2, .ref q3, .int 0, .ref q4, .ref q5, .ref q6, .int 0, .ref q7, .ref q8, .int 0, .int 0, .ref q9, .int 0, .int 0, .int 0, .int 0, .int 0, .int 0, .int 0, .null, .null, .int 0, .null, .null, .null, .null, .null, .int 0, .null])) :: (w_60 G ad ++ [(q1, .inl (G.2.2.1 8, 153, .inl (fun _ => 0))), (q2, .inl (G.2.2.1 8, 51, .inl (fun _ => 0))), (q3, .inl (G.2.2.1 10, 2, .inl (fun _ => 0))), (q4, .inl (G.2.2.1 8, 8, .inl (fun _ => 0))), (q5, .inl (G.2.2.1 8, 8, .inl (fun _ => 0))), (q6, .inl (G.2.2.1 8, 51, .inl (fun _ => 0))), (q7, .inl (G.2.2.1 8, 8, .inl (fun _ => 0))), (q8, .inl (G.2.2.1 8, 8, .inl (fun _ => 0))), (q9, .inl (G.2.2.1 8, 160, .inl (fun _ => 0))), (q10, .inl (G.2.2.1 8, 8, .inl (fun _ => 0)))])) (by rw [List.cons_append, List.append_assoc]; rfl) ?_
  refine i_putF (q0 := 0) (j := 20) (ty := (.array .int)) (ws' := (h0, .inr (7, [.ref q1, .ref q2, .ref q3, .int 0, .ref q4, .ref q5, .ref q6, .int 0, .ref q7, .ref q8, .int 0, .int 0, .ref q9, .int 0, .int 0, .int 0, .int 0, .int 0, .int 0, .int 0, .ref q10, .null, .int 0, .null, .null, .null, .null, .null, .int 0, .null])) :: (w_60 G ad ++ [(q1, .inl (G.2.2.1 8, 153, .inl (fun _ => 0))), (q2, .inl (G.2.2.1 8, 51, .inl (fun _ => 0))), (q3, .inl (G.2.2.1 10, 2, .inl (fun _ => 0))), (q4, .inl (G.2.2.1 8, 8, .inl (fun _ => 0))), (q5, .inl (G.2.2.1 8, 8, .inl (fun _ => 0))), (q6, .inl (G.2.2.1 8, 51, .inl (fun _ => 0))), (q7, .inl (G.2.2.1 8, 8, .inl (fun _ => 0))), (q8, .inl (G.2.2.1 8, 8, .inl (fun _ => 0))), (q9, .inl (G.2.2.1 8, 160, .inl (fun _ => 0))), (q10, .inl (G.2.2.1 8, 8, .inl (fun _ => 0)))])) rfl rfl uk_in7 (by decide) tyX7_ok nmX7 rfl rfl rfl (by decide +kernel) rfl rfl (Nat.le_of_ble_eq_true rfl) (uk_wI (List.mem_of_getElem? (i := 793) (by decide +kernel)) rfl) dX7_init_82 rfl ?_
  refine i_aload_n dX7_init_85 rfl ?_
  refine i_sipush (v := 256) dX7_init_86 (by decide) ?_
  refine i_newa (atype := .int) (ty := .int) (a0 := (256, .inl (fun _ => 0))) 0 (uk_wI (List.mem_of_getElem? (i := 84) (by decide +kernel)) rfl) rfl rfl (fun _ _ h => h) (fun _ => rfl) (by decide) rfl (by decide) (by decide) (by decide) dX7_init_89 (fun q11 => ?_)
  refine i_ws (ws' := (h0, .inr (7, [.ref q1, .ref q2, .ref q3, .int 0, .ref q4, .ref q5, .ref q6, .int 0, .ref q7, .ref q8, .int 0, .int 0, .ref q9, .int 0, .int 0, .int 0, .int 0, .int 0, .int 0, .int 0, .ref q10, .null, .int 0, .null, .null, .null, .null, .null, .int 0, .null])) :: (w_60 G ad ++ [(q1, .inl (G.2.2.1 8, 153, .inl (fun _ => 0))), (q2, .inl (G.2.2.1 8, 51, .inl (fun _ => 0))), (q3, .inl (G.2.2.1 10, 2, .inl (fun _ => 0))), (q4, .inl (G.2.2.1 8, 8, .inl (fun _ => 0))), (q5, .inl (G.2.2.1 8, 8, .inl (fun _ => 0))), (q6, .inl (G.2.2.1 8, 51, .inl (fun _ => 0))), (q7, .inl (G.2.2.1 8, 8, .inl (fun _ => 0))), (q8, .inl (G.2.2.1 8, 8, .inl (fun _ => 0))), (q9, .inl (G.2.2.1 8, 160, .inl (fun _ => 0))), (q10, .inl (G.2.2.1 8, 8, .inl (fun _ => 0))), (q11, .inl (G.2.2.1 8, 256, .inl (fun _ => 0)))])) (by rw [List.cons_append, List.append_assoc]; rfl) ?_
  refine i_putF (q0 := 0) (j := 21) (ty := (.array .int)) (ws' := (h0, .inr (7, [.ref q1, .ref q2, .ref q3, .int 0, .ref q4, .ref q5, .ref q6, .int 0, .ref q7, .ref q8, .int 0, .int 0, .ref q9, .int 0, .int 0, .int 0, .int 0, .int 0, .int 0, .int 0, .ref q10, .ref q11, .int 0, .null, .null, .null, .null, .null, .int 0, .null])) :: (w_60 G ad ++ [(q1, .inl (G.2.2.1 8, 153, .inl (fun _ => 0))), (q2, .inl (G.2.2.1 8, 51, .inl (fun _ => 0))), (q3, .inl (G.2.2.1 10, 2, .inl (fun _ => 0))), (q4, .inl (G.2.2.1 8, 8, .inl (fun _ => 0))), (q5, .inl (G.2.2.1 8, 8, .inl (fun _ => 0))), (q6, .inl (G.2.2.1 8, 51, .inl (fun _ => 0))), (q7, .inl (G.2.2.1 8, 8, .inl (fun _ => 0))), (q8, .inl (G.2.2.1 8, 8, .inl (fun _ => 0))), (q9, .inl (G.2.2.1 8, 160, .inl (fun _ => 0))), (q10, .inl (G.2.2.1 8, 8, .inl (fun _ => 0))), (q11, .inl (G.2.2.1 8, 256, .inl (fun _ => 0)))])) rfl rfl uk_in7 (by decide) tyX7_ok nmX7 rfl rfl rfl (by decide +kernel) rfl rfl (Nat.le_of_ble_eq_true rfl) (uk_wI (List.mem_of_getElem? (i := 794) (by decide +kernel)) rfl) dX7_init_91 rfl ?_
  refine i_aload_n dX7_init_94 rfl ?_
  refine i_bipush (v := 8) dX7_init_95 (by decide) ?_
  refine i_newa (atype := .long) (ty := .long) (a0 := (8, .inr (.inl (fun _ => 0)))) 3 (uk_wI (List.mem_of_getElem? (i := 263) (by decide +kernel)) rfl) rfl rfl (fun _ _ h => h) (fun _ => rfl) (by decide) rfl (by decide) (by decide) (by decide) dX7_init_97 (fun q12 => ?_)
  refine i_ws (ws' := (h0, .inr (7, [.ref q1, .ref q2, .ref q3, .int 0, .ref q4, .ref q5, .ref q6, .int 0, .ref q7, .ref q8, .int 0, .int 0, .ref q9, .int 0, .int 0, .int 0, .int 0, .int 0, .int 0, .int 0, .ref q10, .ref q11, .int 0, .null, .null, .null, .null, .null, .int 0, .null])) :: (w_60 G ad ++ [(q1, .inl (G.2.2.1 8, 153, .inl (fun _ => 0))), (q2, .inl (G.2.2.1 8, 51, .inl (fun _ => 0))), (q3, .inl (G.2.2.1 10, 2, .inl (fun _ => 0))), (q4, .inl (G.2.2.1 8, 8, .inl (fun _ => 0))), (q5, .inl (G.2.2.1 8, 8, .inl (fun _ => 0))), (q6, .inl (G.2.2.1 8, 51, .inl (fun _ => 0))), (q7, .inl (G.2.2.1 8, 8, .inl (fun _ => 0))), (q8, .inl (G.2.2.1 8, 8, .inl (fun _ => 0))), (q9, .inl (G.2.2.1 8, 160, .inl (fun _ => 0))), (q10, .inl (G.2.2.1 8, 8, .inl (fun _ => 0))), (q11, .inl (G.2.2.1 8, 256, .inl (fun _ => 0))), (q12, .inl (G.2.2.1 11, 8, .inr (.inl (fun _ => 0))))])) (by rw [List.cons_append, List.append_assoc]; rfl) ?_
  refine i_putF (q0 := 0) (j := 23) (ty := (.array .long)) (ws' := (h0, .inr (7, [.ref q1, .ref q2, .ref q3, .int 0, .ref q4, .ref q5, .ref q6, .int 0, .ref q7, .ref q8, .int 0, .int 0, .ref q9, .int 0, .int 0, .int 0, .int 0, .int 0, .int 0, .int 0, .ref q10, .ref q11, .int 0, .ref q12, .null, .null, .null, .null, .int 0, .null])) :: (w_60 G ad ++ [(q1, .inl (G.2.2.1 8, 153, .inl (fun _ => 0))), (q2, .inl (G.2.2.1 8, 51, .inl (fun _ => 0))), (q3, .inl (G.2.2.1 10, 2, .inl (fun _ => 0))), (q4, .inl (G.2.2.1 8, 8, .inl (fun _ => 0))), (q5, .inl (G.2.2.1 8, 8, .inl (fun _ => 0))), (q6, .inl (G.2.2.1 8, 51, .inl (fun _ => 0))), (q7, .inl (G.2.2.1 8, 8, .inl (fun _ => 0))), (q8, .inl (G.2.2.1 8, 8, .inl (fun _ => 0))), (q9, .inl (G.2.2.1 8, 160, .inl (fun _ => 0))), (q10, .inl (G.2.2.1 8, 8, .inl (fun _ => 0))), (q11, .inl (G.2.2.1 8, 256, .inl (fun _ => 0))), (q12, .inl (G.2.2.1 11, 8, .inr (.inl (fun _ => 0))))])) rfl rfl uk_in7 (by decide) tyX7_ok nmX7 rfl rfl rfl (by decide +kernel) rfl rfl (Nat.le_of_ble_eq_true rfl) (uk_wI (List.mem_of_getElem? (i := 796) (by decide +kernel)) rfl) dX7_init_99 rfl ?_
  refine i_aload_n dX7_init_102 rfl ?_
  refine i_bipush (v := 8) dX7_init_103 (by decide) ?_
  refine i_newa (atype := .int) (ty := .int) (a0 := (8, .inl (fun _ => 0))) 0 (uk_wI (List.mem_of_getElem? (i := 84) (by decide +kernel)) rfl) rfl rfl (fun _ _ h => h) (fun _ => rfl) (by decide) rfl (by decide) (by decide) (by decide) dX7_init_105 (fun q13 => ?_)
  refine i_ws (ws' := (h0, .inr (7, [.ref q1, .ref q2, .ref q3, .int 0, .ref q4, .ref q5, .ref q6, .int 0, .ref q7, .ref q8, .int 0, .int 0, .ref q9, .int 0, .int 0, .int 0, .int 0, .int 0, .int 0, .int 0, .ref q10, .ref q11, .int 0, .ref q12, .null, .null, .null, .null, .int 0, .null])) :: (w_60 G ad ++ [(q1, .inl (G.2.2.1 8, 153, .inl (fun _ => 0))), (q2, .inl (G.2.2.1 8, 51, .inl (fun _ => 0))), (q3, .inl (G.2.2.1 10, 2, .inl (fun _ => 0))), (q4, .inl (G.2.2.1 8, 8, .inl (fun _ => 0))), (q5, .inl (G.2.2.1 8, 8, .inl (fun _ => 0))), (q6, .inl (G.2.2.1 8, 51, .inl (fun _ => 0))), (q7, .inl (G.2.2.1 8, 8, .inl (fun _ => 0))), (q8, .inl (G.2.2.1 8, 8, .inl (fun _ => 0))), (q9, .inl (G.2.2.1 8, 160, .inl (fun _ => 0))), (q10, .inl (G.2.2.1 8, 8, .inl (fun _ => 0))), (q11, .inl (G.2.2.1 8, 256, .inl (fun _ => 0))), (q12, .inl (G.2.2.1 11, 8, .inr (.inl (fun _ => 0)))), (q13, .inl (G.2.2.1 8, 8, .inl (fun _ => 0)))])) (by rw [List.cons_append, List.append_assoc]; rfl) ?_
  refine i_putF (q0 := 0) (j := 24) (ty := (.array .int)) (ws' := (h0, .inr (7, [.ref q1, .ref q2, .ref q3, .int 0, .ref q4, .ref q5, .ref q6, .int 0, .ref q7, .ref q8, .int 0, .int 0, .ref q9, .int 0, .int 0, .int 0, .int 0, .int 0, .int 0, .int 0, .ref q10, .ref q11, .int 0, .ref q12, .ref q13, .null, .null, .null, .int 0, .null])) :: (w_60 G ad ++ [(q1, .inl (G.2.2.1 8, 153, .inl (fun _ => 0))), (q2, .inl (G.2.2.1 8, 51, .inl (fun _ => 0))), (q3, .inl (G.2.2.1 10, 2, .inl (fun _ => 0))), (q4, .inl (G.2.2.1 8, 8, .inl (fun _ => 0))), (q5, .inl (G.2.2.1 8, 8, .inl (fun _ => 0))), (q6, .inl (G.2.2.1 8, 51, .inl (fun _ => 0))), (q7, .inl (G.2.2.1 8, 8, .inl (fun _ => 0))), (q8, .inl (G.2.2.1 8, 8, .inl (fun _ => 0))), (q9, .inl (G.2.2.1 8, 160, .inl (fun _ => 0))), (q10, .inl (G.2.2.1 8, 8, .inl (fun _ => 0))), (q11, .inl (G.2.2.1 8, 256, .inl (fun _ => 0))), (q12, .inl (G.2.2.1 11, 8, .inr (.inl (fun _ => 0)))), (q13, .inl (G.2.2.1 8, 8, .inl (fun _ => 0)))])) rfl rfl uk_in7 (by decide) tyX7_ok nmX7 rfl rfl rfl (by decide +kernel) rfl rfl (Nat.le_of_ble_eq_true rfl) (uk_wI (List.mem_of_getElem? (i := 797) (by decide +kernel)) rfl) dX7_init_107 rfl ?_
  refine i_aload_n dX7_init_110 rfl ?_
  refine i_iconst (v := 4) dX7_init_111 (by decide) ?_
  refine i_newa (atype := .int) (ty := .int) (a0 := (4, .inl (fun _ => 0))) 0 (uk_wI (List.mem_of_getElem? (i := 84) (by decide +kernel)) rfl) rfl rfl (fun _ _ h => h) (fun _ => rfl) (by decide) rfl (by decide) (by decide) (by decide) dX7_init_112 (fun q14 => ?_)
  refine i_ws (ws' := (h0, .inr (7, [.ref q1, .ref q2, .ref q3, .int 0, .ref q4, .ref q5, .ref q6, .int 0, .ref q7, .ref q8, .int 0, .int 0, .ref q9, .int 0, .int 0, .int 0, .int 0, .int 0, .int 0, .int 0, .ref q10, .ref q11, .int 0, .ref q12, .ref q13, .null, .null, .null, .int 0, .null])) :: (w_60 G ad ++ [(q1, .inl (G.2.2.1 8, 153, .inl (fun _ => 0))), (q2, .inl (G.2.2.1 8, 51, .inl (fun _ => 0))), (q3, .inl (G.2.2.1 10, 2, .inl (fun _ => 0))), (q4, .inl (G.2.2.1 8, 8, .inl (fun _ => 0))), (q5, .inl (G.2.2.1 8, 8, .inl (fun _ => 0))), (q6, .inl (G.2.2.1 8, 51, .inl (fun _ => 0))), (q7, .inl (G.2.2.1 8, 8, .inl (fun _ => 0))), (q8, .inl (G.2.2.1 8, 8, .inl (fun _ => 0))), (q9, .inl (G.2.2.1 8, 160, .inl (fun _ => 0))), (q10, .inl (G.2.2.1 8, 8, .inl (fun _ => 0))), (q11, .inl (G.2.2.1 8, 256, .inl (fun _ => 0))), (q12, .inl (G.2.2.1 11, 8, .inr (.inl (fun _ => 0)))), (q13, .inl (G.2.2.1 8, 8, .inl (fun _ => 0))), (q14, .inl (G.2.2.1 8, 4, .inl (fun _ => 0)))])) (by rw [List.cons_append, List.append_assoc]; rfl) ?_
  refine i_putF (q0 := 0) (j := 25) (ty := (.array .int)) (ws' := (h0, .inr (7, [.ref q1, .ref q2, .ref q3, .int 0, .ref q4, .ref q5, .ref q6, .int 0, .ref q7, .ref q8, .int 0, .int 0, .ref q9, .int 0, .int 0, .int 0, .int 0, .int 0, .int 0, .int 0, .ref q10, .ref q11, .int 0, .ref q12, .ref q13, .ref q14, .null, .null, .int 0, .null])) :: (w_60 G ad ++ [(q1, .inl (G.2.2.1 8, 153, .inl (fun _ => 0))), (q2, .inl (G.2.2.1 8, 51, .inl (fun _ => 0))), (q3, .inl (G.2.2.1 10, 2, .inl (fun _ => 0))), (q4, .inl (G.2.2.1 8, 8, .inl (fun _ => 0))), (q5, .inl (G.2.2.1 8, 8, .inl (fun _ => 0))), (q6, .inl (G.2.2.1 8, 51, .inl (fun _ => 0))), (q7, .inl (G.2.2.1 8, 8, .inl (fun _ => 0))), (q8, .inl (G.2.2.1 8, 8, .inl (fun _ => 0))), (q9, .inl (G.2.2.1 8, 160, .inl (fun _ => 0))), (q10, .inl (G.2.2.1 8, 8, .inl (fun _ => 0))), (q11, .inl (G.2.2.1 8, 256, .inl (fun _ => 0))), (q12, .inl (G.2.2.1 11, 8, .inr (.inl (fun _ => 0)))), (q13, .inl (G.2.2.1 8, 8, .inl (fun _ => 0))), (q14, .inl (G.2.2.1 8, 4, .inl (fun _ => 0)))])) rfl rfl uk_in7 (by decide) tyX7_ok nmX7 rfl rfl rfl (by decide +kernel) rfl rfl (Nat.le_of_ble_eq_true rfl) (uk_wI (List.mem_of_getElem? (i := 798) (by decide +kernel)) rfl) dX7_init_114 rfl ?_
  refine i_aload_n dX7_init_117 rfl ?_
  refine i_iconst (v := 4) dX7_init_118 (by decide) ?_
  refine i_newa (atype := .int) (ty := .int) (a0 := (4, .inl (fun _ => 0))) 0 (uk_wI (List.mem_of_getElem? (i := 84) (by decide +kernel)) rfl) rfl rfl (fun _ _ h => h) (fun _ => rfl) (by decide) rfl (by decide) (by decide) (by decide) dX7_init_119 (fun q15 => ?_)
  refine i_ws (ws' := (h0, .inr (7, [.ref q1, .ref q2, .ref q3, .int 0, .ref q4, .ref q5, .ref q6, .int 0, .ref q7, .ref q8, .int 0, .int 0, .ref q9, .int 0, .int 0, .int 0, .int 0, .int 0, .int 0, .int 0, .ref q10, .ref q11, .int 0, .ref q12, .ref q13, .ref q14, .null, .null, .int 0, .null])) :: (w_60 G ad ++ [(q1, .inl (G.2.2.1 8, 153, .inl (fun _ => 0))), (q2, .inl (G.2.2.1 8, 51, .inl (fun _ => 0))), (q3, .inl (G.2.2.1 10, 2, .inl (fun _ => 0))), (q4, .inl (G.2.2.1 8, 8, .inl (fun _ => 0))), (q5, .inl (G.2.2.1 8, 8, .inl (fun _ => 0))), (q6, .inl (G.2.2.1 8, 51, .inl (fun _ => 0))), (q7, .inl (G.2.2.1 8, 8, .inl (fun _ => 0))), (q8, .inl (G.2.2.1 8, 8, .inl (fun _ => 0))), (q9, .inl (G.2.2.1 8, 160, .inl (fun _ => 0))), (q10, .inl (G.2.2.1 8, 8, .inl (fun _ => 0))), (q11, .inl (G.2.2.1 8, 256, .inl (fun _ => 0))), (q12, .inl (G.2.2.1 11, 8, .inr (.inl (fun _ => 0)))), (q13, .inl (G.2.2.1 8, 8, .inl (fun _ => 0))), (q14, .inl (G.2.2.1 8, 4, .inl (fun _ => 0))), (q15, .inl (G.2.2.1 8, 4, .inl (fun _ => 0)))])) (by rw [List.cons_append, List.append_assoc]; rfl) ?_
  refine i_putF (q0 := 0) (j := 26) (ty := (.array .int)) (ws' := (h0, .inr (7, [.ref q1, .ref q2, .ref q3, .int 0, .ref q4, .ref q5, .ref q6, .int 0, .ref q7, .ref q8, .int 0, .int 0, .ref q9, .int 0, .int 0, .int 0, .int 0, .int 0, .int 0, .int 0, .ref q10, .ref q11, .int 0, .ref q12, .ref q13, .ref q14, .ref q15, .null, .int 0, .null])) :: (w_60 G ad ++ [(q1, .inl (G.2.2.1 8, 153, .inl (fun _ => 0))), (q2, .inl (G.2.2.1 8, 51, .inl (fun _ => 0))), (q3, .inl (G.2.2.1 10, 2, .inl (fun _ => 0))), (q4, .inl (G.2.2.1 8, 8, .inl (fun _ => 0))), (q5, .inl (G.2.2.1 8, 8, .inl (fun _ => 0))), (q6, .inl (G.2.2.1 8, 51, .inl (fun _ => 0))), (q7, .inl (G.2.2.1 8, 8, .inl (fun _ => 0))), (q8, .inl (G.2.2.1 8, 8, .inl (fun _ => 0))), (q9, .inl (G.2.2.1 8, 160, .inl (fun _ => 0))), (q10, .inl (G.2.2.1 8, 8, .inl (fun _ => 0))), (q11, .inl (G.2.2.1 8, 256, .inl (fun _ => 0))), (q12, .inl (G.2.2.1 11, 8, .inr (.inl (fun _ => 0)))), (q13, .inl (G.2.2.1 8, 8, .inl (fun _ => 0))), (q14, .inl (G.2.2.1 8, 4, .inl (fun _ => 0))), (q15, .inl (G.2.2.1 8, 4, .inl (fun _ => 0)))])) rfl rfl uk_in7 (by decide) tyX7_ok nmX7 rfl rfl rfl (by decide +kernel) rfl rfl (Nat.le_of_ble_eq_true rfl) (uk_wI (List.mem_of_getElem? (i := 799) (by decide +kernel)) rfl) dX7_init_121 rfl ?_
  refine i_aload_n dX7_init_124 rfl ?_
  refine i_sipush (v := 160) dX7_init_125 (by decide) ?_
  refine i_newa (atype := .int) (ty := .int) (a0 := (160, .inl (fun _ => 0))) 0 (uk_wI (List.mem_of_getElem? (i := 84) (by decide +kernel)) rfl) rfl rfl (fun _ _ h => h) (fun _ => rfl) (by decide) rfl (by decide) (by decide) (by decide) dX7_init_128 (fun q16 => ?_)
  refine i_ws (ws' := (h0, .inr (7, [.ref q1, .ref q2, .ref q3, .int 0, .ref q4, .ref q5, .ref q6, .int 0, .ref q7, .ref q8, .int 0, .int 0, .ref q9, .int 0, .int 0, .int 0, .int 0, .int 0, .int 0, .int 0, .ref q10, .ref q11, .int 0, .ref q12, .ref q13, .ref q14, .ref q15, .null, .int 0, .null])) :: (w_60 G ad ++ [(q1, .inl (G.2.2.1 8, 153, .inl (fun _ => 0))), (q2, .inl (G.2.2.1 8, 51, .inl (fun _ => 0))), (q3, .inl (G.2.2.1 10, 2, .inl (fun _ => 0))), (q4, .inl (G.2.2.1 8, 8, .inl (fun _ => 0))), (q5, .inl (G.2.2.1 8, 8, .inl (fun _ => 0))), (q6, .inl (G.2.2.1 8, 51, .inl (fun _ => 0))), (q7, .inl (G.2.2.1 8, 8, .inl (fun _ => 0))), (q8, .inl (G.2.2.1 8, 8, .inl (fun _ => 0))), (q9, .inl (G.2.2.1 8, 160, .inl (fun _ => 0))), (q10, .inl (G.2.2.1 8, 8, .inl (fun _ => 0))), (q11, .inl (G.2.2.1 8, 256, .inl (fun _ => 0))), (q12, .inl (G.2.2.1 11, 8, .inr (.inl (fun _ => 0)))), (q13, .inl (G.2.2.1 8, 8, .inl (fun _ => 0))), (q14, .inl (G.2.2.1 8, 4, .inl (fun _ => 0))), (q15, .inl (G.2.2.1 8, 4, .inl (fun _ => 0))), (q16, .inl (G.2.2.1 8, 160, .inl (fun _ => 0)))])) (by rw [List.cons_append, List.append_assoc]; rfl) ?_
  refine i_putF (q0 := 0) (j := 27) (ty := (.array .int)) (ws' := (h0, .inr (7, [.ref q1, .ref q2, .ref q3, .int 0, .ref q4, .ref q5, .ref q6, .int 0, .ref q7, .ref q8, .int 0, .int 0, .ref q9, .int 0, .int 0, .int 0, .int 0, .int 0, .int 0, .int 0, .ref q10, .ref q11, .int 0, .ref q12, .ref q13, .ref q14, .ref q15, .ref q16, .int 0, .null])) :: (w_60 G ad ++ [(q1, .inl (G.2.2.1 8, 153, .inl (fun _ => 0))), (q2, .inl (G.2.2.1 8, 51, .inl (fun _ => 0))), (q3, .inl (G.2.2.1 10, 2, .inl (fun _ => 0))), (q4, .inl (G.2.2.1 8, 8, .inl (fun _ => 0))), (q5, .inl (G.2.2.1 8, 8, .inl (fun _ => 0))), (q6, .inl (G.2.2.1 8, 51, .inl (fun _ => 0))), (q7, .inl (G.2.2.1 8, 8, .inl (fun _ => 0))), (q8, .inl (G.2.2.1 8, 8, .inl (fun _ => 0))), (q9, .inl (G.2.2.1 8, 160, .inl (fun _ => 0))), (q10, .inl (G.2.2.1 8, 8, .inl (fun _ => 0))), (q11, .inl (G.2.2.1 8, 256, .inl (fun _ => 0))), (q12, .inl (G.2.2.1 11, 8, .inr (.inl (fun _ => 0)))), (q13, .inl (G.2.2.1 8, 8, .inl (fun _ => 0))), (q14, .inl (G.2.2.1 8, 4, .inl (fun _ => 0))), (q15, .inl (G.2.2.1 8, 4, .inl (fun _ => 0))), (q16, .inl (G.2.2.1 8, 160, .inl (fun _ => 0)))])) rfl rfl uk_in7 (by decide) tyX7_ok nmX7 rfl rfl rfl (by decide +kernel) rfl rfl (Nat.le_of_ble_eq_true rfl) (uk_wI (List.mem_of_getElem? (i := 800) (by decide +kernel)) rfl) dX7_init_130 rfl ?_
  refine i_aload_n dX7_init_133 rfl ?_
  refine i_bipush (v := 51) dX7_init_134 (by decide) ?_
  refine i_newa (atype := .int) (ty := .int) (a0 := (51, .inl (fun _ => 0))) 0 (uk_wI (List.mem_of_getElem? (i := 84) (by decide +kernel)) rfl) rfl rfl (fun _ _ h => h) (fun _ => rfl) (by decide) rfl (by decide) (by decide) (by decide) dX7_init_136 (fun q17 => ?_)
  refine i_ws (ws' := (h0, .inr (7, [.ref q1, .ref q2, .ref q3, .int 0, .ref q4, .ref q5, .ref q6, .int 0, .ref q7, .ref q8, .int 0, .int 0, .ref q9, .int 0, .int 0, .int 0, .int 0, .int 0, .int 0, .int 0, .ref q10, .ref q11, .int 0, .ref q12, .ref q13, .ref q14, .ref q15, .ref q16, .int 0, .null])) :: (w_60 G ad ++ [(q1, .inl (G.2.2.1 8, 153, .inl (fun _ => 0))), (q2, .inl (G.2.2.1 8, 51, .inl (fun _ => 0))), (q3, .inl (G.2.2.1 10, 2, .inl (fun _ => 0))), (q4, .inl (G.2.2.1 8, 8, .inl (fun _ => 0))), (q5, .inl (G.2.2.1 8, 8, .inl (fun _ => 0))), (q6, .inl (G.2.2.1 8, 51, .inl (fun _ => 0))), (q7, .inl (G.2.2.1 8, 8, .inl (fun _ => 0))), (q8, .inl (G.2.2.1 8, 8, .inl (fun _ => 0))), (q9, .inl (G.2.2.1 8, 160, .inl (fun _ => 0))), (q10, .inl (G.2.2.1 8, 8, .inl (fun _ => 0))), (q11, .inl (G.2.2.1 8, 256, .inl (fun _ => 0))), (q12, .inl (G.2.2.1 11, 8, .inr (.inl (fun _ => 0)))), (q13, .inl (G.2.2.1 8, 8, .inl (fun _ => 0))), (q14, .inl (G.2.2.1 8, 4, .inl (fun _ => 0))), (q15, .inl (G.2.2.1 8, 4, .inl (fun _ => 0))), (q16, .inl (G.2.2.1 8, 160, .inl (fun _ => 0))), (q17, .inl (G.2.2.1 8, 51, .inl (fun _ => 0)))])) (by rw [List.cons_append, List.append_assoc]; rfl) ?_
  refine i_putF (q0 := 0) (j := 29) (ty := (.array .int)) (ws' := (h0, .inr (7, [.ref q1, .ref q2, .ref q3, .int 0, .ref q4, .ref q5, .ref q6, .int 0, .ref q7, .ref q8, .int 0, .int 0, .ref q9, .int 0, .int 0, .int 0, .int 0, .int 0, .int 0, .int 0, .ref q10, .ref q11, .int 0, .ref q12, .ref q13, .ref q14, .ref q15, .ref q16, .int 0, .ref q17])) :: (w_60 G ad ++ [(q1, .inl (G.2.2.1 8, 153, .inl (fun _ => 0))), (q2, .inl (G.2.2.1 8, 51, .inl (fun _ => 0))), (q3, .inl (G.2.2.1 10, 2, .inl (fun _ => 0))), (q4, .inl (G.2.2.1 8, 8, .inl (fun _ => 0))), (q5, .inl (G.2.2.1 8, 8, .inl (fun _ => 0))), (q6, .inl (G.2.2.1 8, 51, .inl (fun _ => 0))), (q7, .inl (G.2.2.1 8, 8, .inl (fun _ => 0))), (q8, .inl (G.2.2.1 8, 8, .inl (fun _ => 0))), (q9, .inl (G.2.2.1 8, 160, .inl (fun _ => 0))), (q10, .inl (G.2.2.1 8, 8, .inl (fun _ => 0))), (q11, .inl (G.2.2.1 8, 256, .inl (fun _ => 0))), (q12, .inl (G.2.2.1 11, 8, .inr (.inl (fun _ => 0)))), (q13, .inl (G.2.2.1 8, 8, .inl (fun _ => 0))), (q14, .inl (G.2.2.1 8, 4, .inl (fun _ => 0))), (q15, .inl (G.2.2.1 8, 4, .inl (fun _ => 0))), (q16, .inl (G.2.2.1 8, 160, .inl (fun _ => 0))), (q17, .inl (G.2.2.1 8, 51, .inl (fun _ => 0)))])) rfl rfl uk_in7 (by decide) tyX7_ok nmX7 rfl rfl rfl (by decide +kernel) rfl rfl (Nat.le_of_ble_eq_true rfl) (uk_wI (List.mem_of_getElem? (i := 802) (by decide +kernel)) rfl) dX7_init_138 rfl ?_
  refine i_sub (ws' := w_60 G ad ++ [(h0, .inr (7, [.ref q1, .ref q2, .ref q3, .int 0, .ref q4, .ref q5, .ref q6, .int 0, .ref q7, .ref q8, .int 0, .int 0, .ref q9, .int 0, .int 0, .int 0, .int 0, .int 0, .int 0, .int 0, .ref q10, .ref q11, .int 0, .ref q12, .ref q13, .ref q14, .ref q15, .ref q16, .int 0, .ref q17])), (q1, .inl (G.2.2.1 8, 153, .inl (fun _ => 0))), (q2, .inl (G.2.2.1 8, 51, .inl (fun _ => 0))), (q3, .inl (G.2.2.1 10, 2, .inl (fun _ => 0))), (q4, .inl (G.2.2.1 8, 8, .inl (fun _ => 0))), (q5, .inl (G.2.2.1 8, 8, .inl (fun _ => 0))), (q6, .inl (G.2.2.1 8, 51, .inl (fun _ => 0))), (q7, .inl (G.2.2.1 8, 8, .inl (fun _ => 0))), (q8, .inl (G.2.2.1 8, 8, .inl (fun _ => 0))), (q9, .inl (G.2.2.1 8, 160, .inl (fun _ => 0))), (q10, .inl (G.2.2.1 8, 8, .inl (fun _ => 0))), (q11, .inl (G.2.2.1 8, 256, .inl (fun _ => 0))), (q12, .inl (G.2.2.1 11, 8, .inr (.inl (fun _ => 0)))), (q13, .inl (G.2.2.1 8, 8, .inl (fun _ => 0))), (q14, .inl (G.2.2.1 8, 4, .inl (fun _ => 0))), (q15, .inl (G.2.2.1 8, 4, .inl (fun _ => 0))), (q16, .inl (G.2.2.1 8, 160, .inl (fun _ => 0))), (q17, .inl (G.2.2.1 8, 51, .inl (fun _ => 0)))]) [1, 2, 3, 4, 5, 6, 7, 8, 9, 10, 11, 12, 13, 14, 15, 16, 17, 18, 19, 20, 21, 22, 23, 24, 25, 26, 27, 28, 29, 30, 31, 32, 33, 34, 35, 36, 37, 38, 39, 40, 41, 42, 43, 44, 45, 46, 47, 48, 49, 50, 51, 52, 53, 54, 55, 56, 57, 58, 59, 60, 0, 61, 62, 63, 64, 65, 66, 67, 68, 69, 70, 71, 72, 73, 74, 75, 76, 77] (by decide) rfl rfl ?_
  refine i_flat (ad := ad_7 G ad [h0, q1, q2, q3, q4, q5, q6, q7, q8, q9, q10, q11, q12, q13, q14, q15, q16, q17]) (u := u_0) (d := 1 + 1) rfl (by rw [show (G.1, G.2.1, G.2.2.1, ad_7 G ad [h0, q1, q2, q3, q4, q5, q6, q7, q8, q9, q10, q11, q12, q13, q14, q15, q16, q17], G.2.2.2.2) = G_7 G ad [h0, q1, q2, q3, q4, q5, q6, q7, q8, q9, q10, q11, q12, q13, q14, q15, q16, q17] from rfl, w_78]; rfl) (fun U h => uk_E_7 h) (by decide) (by decide) (by decide) (fun X' hs => ?_)
  exact g7_tail hs iv_0 1 (fun u' h1 h2 h3 h4 h5 h6 h7 h8 => ⟨rfl, [h0, q1, q2, q3, q4, q5, q6, q7, q8, q9, q10, q11, q12, q13, q14, q15, q16, q17], u', rfl, rfl, h1, h2, REL_0 h3 (by decide) (by decide) h5 h6 h7 h8 (fun j hj => by have := h4 (nI j) (nI_pos' (by omega)) (by rcases (show j = 0 ∨ j = 1 ∨ j = 2 ∨ j = 3 by omega) with rfl | rfl | rfl | rfl <;> decide); rwa [nI_clamp (by omega)] at this)⟩)
