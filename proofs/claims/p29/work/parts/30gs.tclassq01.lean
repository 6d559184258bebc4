abbrev q_X5_readAll_t (u : uk_Mem) (f : Nat → Int32) (N : Int32) (r : Option Value) (u' : uk_Mem) : Prop := (∃ x : Int32, r = some (.int x) ∧ ((x = (pRes f N).2 ∧ u'.1 1 2 = (pRes f N).1.1 ∧ (¬ (pRes f N).1.1 = 0 → u'.1 1 3 = (pRes f N).1.2.1)) ∧ ((pRes f N).1.1 = 0 → Sw u' (wIt f N x.toNatClampNeg) ∧ u'.1 4 0 = (pIt f N x.toNatClampNeg).2.2.2.1))) ∧ (iv u' ∧ fr 1 13 u u' ∧ u'.1 2 1 = u.1 2 1)
set_option maxHeartbeats 4000000 in
set_option maxRecDepth 20000 in
theorem c_X5_readAll_t {G : uk_D} (hs : uk_Sep G) {u : uk_Mem} (hu : iv u) (f : Nat → Int32) (N : Int32) (p0 : cpy (u.1 3) f N) (p1 : u.1 2 1 = N) (d : Nat) : uk_Meth G (d + 7) mX5_readAll [.ref (uk_ad G 1)] u (q_X5_readAll_t u f N) := by
  refine uk_Meth.of hs (by decide) (Nat.le_of_ble_eq_true rfl) (fun X => ?_)
  have f0 : fr 1 13 u u := fr_rf
  refine g_aload_n dX5_readAll_0 rfl ?_
  refine f_X5_25 rfl rfl dX5_readAll_1 ?_
  refine cl_X5_29 (c := 4) (As := []) rfl (c_X0_clear_t (G := G) hs hu uk_isK4   (d + 6)) rfl (by omega) rfl rfl (Nat.le_of_ble_eq_true rfl) dX5_readAll_4 (fun r1 u2 q3 => ?_)
  obtain ⟨rfl, mq3⟩ := q3
  obtain ⟨hu2, gu2, ku20, ku21⟩ := mq3
  have fu2 : fr 1 13 u u2 := fr_tr f0 gu2 (by omega) (by omega)
  have wu2_2_1 : u2.1 2 1 = u.1 2 1 := fr_at gu2 (by omega)
  have wu2_1_2 : u2.1 1 2 = u.1 1 2 := fr_at gu2 (by omega)
  refine g_aload_n dX5_readAll_7 rfl ?_
  refine f_X5_21 rfl rfl dX5_readAll_8 ?_
  refine cl_X5_34 (c := 2) (As := []) rfl (c_X4_rewind_s (G := G) hs hu2    (d + 6)) rfl (by omega) rfl rfl (Nat.le_of_ble_eq_true rfl) dX5_readAll_11 (fun r4 u5 q6 => ?_)
  obtain ⟨rfl, mq6⟩ := q6
  obtain ⟨hu5, gu5, ku50, ku51⟩ := mq6
  have fu5 : fr 1 13 u u5 := fr_tr fu2 gu5 (by omega) (by omega)
  have wu5_4_0 : u5.1 4 0 = u2.1 4 0 := fr_at gu5 (by omega)
  have wu5_1_2 : u5.1 1 2 = u2.1 1 2 := fr_at gu5 (by omega)
  refine g_aload_n dX5_readAll_14 rfl ?_
  refine g_iconst (v := 0) dX5_readAll_15 (by decide) ?_
  refine p_X5_9 rfl rfl dX5_readAll_16 ?_
  refine g_mem (fun u7 eu7 => ?_)
  have hu7 : iv u7 := by rw [eu7]; exact iv_upF hu5 rfl
  have fu7 : fr 1 13 u u7 := by rw [eu7]; exact fr_up fu5 (by omega) (by omega)
  have s8 : u7.1 1 2 = 0 := by rw [eu7, uk_up_at]; exact if_pos ⟨rfl, rfl⟩
  refine g_aload_n dX5_readAll_19 rfl ?_
  refine g_iconst (v := 0) dX5_readAll_20 (by decide) ?_
  refine p_X5_15 rfl rfl dX5_readAll_21 ?_
  refine g_mem (fun u9 eu9 => ?_)
  have hu9 : iv u9 := by rw [eu9]; exact iv_upF hu7 rfl
  have fu9 : fr 1 13 u u9 := by rw [eu9]; exact fr_up fu7 (by omega) (by omega)
  have s10 : u9.1 1 3 = 0 := by rw [eu9, uk_up_at]; exact if_pos ⟨rfl, rfl⟩
  refine g_aload_n dX5_readAll_24 rfl ?_
  refine g_iconst (v := 0) dX5_readAll_25 (by decide) ?_
  refine p_X5_18 rfl rfl dX5_readAll_26 ?_
  refine g_mem (fun u11 eu11 => ?_)
  have hu11 : iv u11 := by rw [eu11]; exact iv_upF hu9 rfl
  have fu11 : fr 1 13 u u11 := by rw [eu11]; exact fr_up fu9 (by omega) (by omega)
  have s12 : u11.1 1 4 = 0 := by rw [eu11, uk_up_at]; exact if_pos ⟨rfl, rfl⟩
  have S00 : Sc f N u11 p_0 := ⟨by rw [eu11, eu9, eu7, uk_up_oc (by decide), uk_up_oc (by decide), uk_up_oc (by decide), gu5.1 3 (by omega), gu2.1 3 (by omega)]; exact p0, by simp [eu11, eu9, eu7, uk_up_at]; grind, by simp [eu11, eu9, eu7, uk_up_at]; rfl, fun z => absurd rfl z, fun _ => ⟨by simp [eu11, eu9, eu7, uk_up_at]; exact ku51, by simp [eu11, eu9, eu7, uk_up_at]; rfl⟩, by simp [eu11, eu9, eu7, uk_up_at]; rw [fr_at gu5 (by omega)]; exact ku20⟩
  have W00 : Sw u11 (fun _ _ => 0) := KW_cg (show KW u2 4 _ by rw [ku21]; exact KW_clear.1) (fun c c1 c2 => by rw [eu11, uk_up_oc (by omega), eu9, uk_up_oc (by omega), eu7, uk_up_oc (by omega)]; exact gu5.1 c (by omega))
  refine g_iconst (v := 0) dX5_readAll_29 (by decide) ?_
  refine g_istore_n dX5_readAll_30 (by decide) ?_
  refine g_pick (lv' := [(0, .ref (uk_ad G 1)), (1, .int 0)]) [0, 1] rfl ?_
  have L31_12 : ∀ i14 : Int32, 0 ≤ i14 → i14 ≤ 160 → ∀ (u15 : uk_Mem), iv u15 → fr 1 13 u u15 → u15.1 2 1 = u.1 2 1 → Aw f N u15 i14 → uk_G G X mX5_readAll (d + 7) (q_X5_readAll_t u f N) 31 [(0, .ref (uk_ad G 1)), (1, .int i14)] [] u15 := by
    refine uk_upl 160 ?_
    intro i14 ai14 bi14 ihi14  u15 hu15 fu15 ji140 ji141
    refine g_iload_n dX5_readAll_31 rfl ?_
    obtain ⟨b9, W9, hbI, hbJ, hbW, hb1, hb2, hb3⟩ := ji141
    refine g_sipush (v := 160) dX5_readAll_32 (by decide) ?_
    refine g_icmp_ge (tgt := 51) dX5_readAll_35 (by decide) (fun c16 => ?_) (fun c16 => ?_)
    · have RC : Rc f N u15 i14 := Rc_1 hb1 (by rw [← hb3]; exact pLoop_0 (by grind))
      have SF : u15.1 1 2 = 0 → Sw u15 (wIt f N i14.toNatClampNeg) ∧ u15.1 4 0 = (pIt f N i14.toNatClampNeg).2.2.2.1 := fun q => by
        rw [← hbJ, ← hbI]
        exact ⟨hbW, hb1.2.2.2.2.2⟩
      refine g_aload_n dX5_readAll_51 rfl ?_
      refine f_X5_9 rfl rfl dX5_readAll_52 ?_
      refine g_topi (fun x17 ex17 => ?_)
      have s18 : u15.1 1 2 = x17 := ex17.symm
      refine g_if_ne (tgt := 86) dX5_readAll_55 (by decide) (fun c19 => ?_) (fun c19 => ?_)
      · refine g_iload_n dX5_readAll_86 rfl ?_
        exact g_iret (ty := .int) dX5_readAll_87 rfl rfl ⟨⟨_, rfl, ⟨(Re_G RC (fun z => by have z1 := z.1; grind)), fun q => SF ((Re_G RC (fun z => by have z1 := z.1; grind)).2.1.trans q)⟩⟩, hu15, fu15, (by first | rfl | grind | grind [uk_up_at])⟩
      · refine g_aload_n dX5_readAll_58 rfl ?_
        refine f_X5_18 rfl rfl dX5_readAll_59 ?_
        refine g_topi (fun x20 ex20 => ?_)
        have s21 : u15.1 1 4 = x20 := ex20.symm
        refine g_aload_n dX5_readAll_62 rfl ?_
        refine f_X5_25 rfl rfl dX5_readAll_63 ?_
        refine f_X5_43 rfl rfl dX5_readAll_66 ?_
        refine g_topi (fun x22 ex22 => ?_)
        have rx22 : 0 ≤ x22 ∧ x22 ≤ 8 := by rw [ex22]; exact iv_at hu15 _ _ rfl
        have s23 : u15.1 4 0 = x22 := ex22.symm
        refine g_ishr dX5_readAll_69 (fun x24 ex24 => ?_)
        have y70 : (u15.1 1 4 >>> u15.1 4 0) = x24 := by rw [ex24, m31 (by grind) (by grind), ex20, ex22]
        refine g_if_eq (tgt := 86) dX5_readAll_70 (by decide) (fun c25 => ?_) (fun c25 => ?_)
        · refine g_iload_n dX5_readAll_86 rfl ?_
          exact g_iret (ty := .int) dX5_readAll_87 rfl rfl ⟨⟨_, rfl, ⟨(Re_G RC (fun z => by have z2 := z.2; rw [y70] at z2; grind)), fun q => SF ((Re_G RC (fun z => by have z2 := z.2; rw [y70] at z2; grind)).2.1.trans q)⟩⟩, hu15, fu15, (by first | rfl | grind | grind [uk_up_at])⟩
        · refine g_aload_n dX5_readAll_73 rfl ?_
          refine g_bipush (v := 6) dX5_readAll_74 (by decide) ?_
          refine g_aload_n dX5_readAll_76 rfl ?_
          refine f_X5_21 rfl rfl dX5_readAll_77 ?_
          refine f_X5_46 rfl rfl dX5_readAll_80 ?_
          refine g_topi (fun x26 ex26 => ?_)
          have rx26 : 0 ≤ x26 ∧ x26 ≤ 160 := by rw [ex26]; exact iv_at hu15 _ _ rfl
          have s27 : u15.1 2 1 = x26 := ex26.symm
          refine cl_X5_47 (c := 1) (As := [.int 6, .int x26]) rfl (c_X5_refuse_s (G := G) hs hu15  6 x26  (d + 6)) rfl (by omega) rfl rfl (Nat.le_of_ble_eq_true rfl) dX5_readAll_83 (fun r28 u29 q30 => ?_)
          obtain ⟨rfl, mq30⟩ := q30
          obtain ⟨hu29, gu29, ku290, ku291, ku292⟩ := mq30
          have fu29 : fr 1 13 u u29 := fr_tr fu15 gu29 (by omega) (by omega)
          have wu29_2_1 : u29.1 2 1 = u15.1 2 1 := fr_at gu29 (by omega)
          have wu29_4_0 : u29.1 4 0 = u15.1 4 0 := fr_at gu29 (by omega)
          have s31 : u29.1 4 0 = x22 := (fr_at gu29 (by omega)).trans s23
          have s32 : u29.1 2 1 = x26 := (fr_at gu29 (by omega)).trans s27
          refine g_iload_n dX5_readAll_86 rfl ?_
          exact g_iret (ty := .int) dX5_readAll_87 rfl rfl ⟨⟨_, rfl, ⟨(Re_B RC (by grind) (by rw [y70]; grind) ku290 (ku291.trans (by grind))), fun q => absurd (ku290.symm.trans ((Re_B RC (by grind) (by rw [y70]; grind) ku290 (ku291.trans (by grind))).2.1.trans q)) (by decide)⟩⟩, hu29, fu29, (by first | rfl | grind | grind [uk_up_at])⟩
    · refine g_aload_n dX5_readAll_38 rfl ?_
      refine cl_X5_39 (c := 1) (As := []) rfl (c_X5_readLine_t (G := G) hs hu15  f N b9 W9 hb1 (hb1.2.2.1.trans hb2) hbW (d)) rfl (by omega) rfl rfl (Nat.le_of_ble_eq_true rfl) dX5_readAll_39 (fun r33 u34 q35 => ?_)
      obtain ⟨⟨x36, rfl, tx36, nx36, zx36⟩, mq35⟩ := q35
      obtain ⟨hu34, gu34, ku340, ku341, ku342, ku343, ku344⟩ := mq35
      have fu34 : fr 1 13 u u34 := fr_tr fu15 gu34 (by omega) (by omega)
      refine g_if_eq (tgt := 51) dX5_readAll_42 (by decide) (fun c37 => ?_) (fun c37 => ?_)
      · have zc37 := zx36 c37
        have RC : Rc f N u34 i14 := by
          by_cases zt : (tk f N b9.2.2.2.2).2.1 = 0
          · exact Rc_2 (by rw [← hb3]; exact pLoop_e (by grind) (by grind) zt) hb2 (ku342 zt)
          · have zf := (zx36 (by assumption)).resolve_left zt
            exact Rc_1 (ku341 zt) (by rw [← hb3]; exact pLoop_b (by grind) (by grind) zt (fun z => zf ((ku341 zt).2.2.1.trans z)))
        have SF : u34.1 1 2 = 0 → Sw u34 (wIt f N i14.toNatClampNeg) ∧ u34.1 4 0 = (pIt f N i14.toNatClampNeg).2.2.2.1 := fun q => by
          have zt : (tk f N b9.2.2.2.2).2.1 = 0 := Classical.byContradiction fun z => ((zx36 (by assumption)).resolve_left z) q
          rw [← hbJ, ← hbI]
          exact ⟨ku344 zt, (ku342 zt).2.2⟩
        refine g_aload_n dX5_readAll_51 rfl ?_
        refine f_X5_9 rfl rfl dX5_readAll_52 ?_
        refine g_topi (fun x38 ex38 => ?_)
        have s39 : u34.1 1 2 = x38 := ex38.symm
        refine g_if_ne (tgt := 86) dX5_readAll_55 (by decide) (fun c40 => ?_) (fun c40 => ?_)
        · refine g_iload_n dX5_readAll_86 rfl ?_
          exact g_iret (ty := .int) dX5_readAll_87 rfl rfl ⟨⟨_, rfl, ⟨(Re_G RC (fun z => by have z1 := z.1; grind)), fun q => SF ((Re_G RC (fun z => by have z1 := z.1; grind)).2.1.trans q)⟩⟩, hu34, fu34, (by first | rfl | grind | grind [uk_up_at])⟩
        · refine g_aload_n dX5_readAll_58 rfl ?_
          refine f_X5_18 rfl rfl dX5_readAll_59 ?_
          refine g_topi (fun x41 ex41 => ?_)
          have s42 : u34.1 1 4 = x41 := ex41.symm
          refine g_aload_n dX5_readAll_62 rfl ?_
          refine f_X5_25 rfl rfl dX5_readAll_63 ?_
          refine f_X5_43 rfl rfl dX5_readAll_66 ?_
          refine g_topi (fun x43 ex43 => ?_)
          have rx43 : 0 ≤ x43 ∧ x43 ≤ 8 := by rw [ex43]; exact iv_at hu34 _ _ rfl
          have s44 : u34.1 4 0 = x43 := ex43.symm
          refine g_ishr dX5_readAll_69 (fun x45 ex45 => ?_)
          have y70 : (u34.1 1 4 >>> u34.1 4 0) = x45 := by rw [ex45, m31 (by grind) (by grind), ex41, ex43]
          refine g_if_eq (tgt := 86) dX5_readAll_70 (by decide) (fun c46 => ?_) (fun c46 => ?_)
          · refine g_iload_n dX5_readAll_86 rfl ?_
            exact g_iret (ty := .int) dX5_readAll_87 rfl rfl ⟨⟨_, rfl, ⟨(Re_G RC (fun z => by have z2 := z.2; rw [y70] at z2; grind)), fun q => SF ((Re_G RC (fun z => by have z2 := z.2; rw [y70] at z2; grind)).2.1.trans q)⟩⟩, hu34, fu34, (by first | rfl | grind | grind [uk_up_at])⟩
          · refine g_aload_n dX5_readAll_73 rfl ?_
            refine g_bipush (v := 6) dX5_readAll_74 (by decide) ?_
            refine g_aload_n dX5_readAll_76 rfl ?_
            refine f_X5_21 rfl rfl dX5_readAll_77 ?_
            refine f_X5_46 rfl rfl dX5_readAll_80 ?_
            refine g_topi (fun x47 ex47 => ?_)
            have rx47 : 0 ≤ x47 ∧ x47 ≤ 160 := by rw [ex47]; exact iv_at hu34 _ _ rfl
            have s48 : u34.1 2 1 = x47 := ex47.symm
            refine cl_X5_47 (c := 1) (As := [.int 6, .int x47]) rfl (c_X5_refuse_s (G := G) hs hu34  6 x47  (d + 6)) rfl (by omega) rfl rfl (Nat.le_of_ble_eq_true rfl) dX5_readAll_83 (fun r49 u50 q51 => ?_)
            obtain ⟨rfl, mq51⟩ := q51
            obtain ⟨hu50, gu50, ku500, ku501, ku502⟩ := mq51
            have fu50 : fr 1 13 u u50 := fr_tr fu34 gu50 (by omega) (by omega)
            have wu50_2_1 : u50.1 2 1 = u34.1 2 1 := fr_at gu50 (by omega)
            have wu50_4_0 : u50.1 4 0 = u34.1 4 0 := fr_at gu50 (by omega)
            have s52 : u50.1 4 0 = x43 := (fr_at gu50 (by omega)).trans s44
            have s53 : u50.1 2 1 = x47 := (fr_at gu50 (by omega)).trans s48
            refine g_iload_n dX5_readAll_86 rfl ?_
            exact g_iret (ty := .int) dX5_readAll_87 rfl rfl ⟨⟨_, rfl, ⟨(Re_B RC (by grind) (by rw [y70]; grind) ku500 (ku501.trans (by grind))), fun q => absurd (ku500.symm.trans ((Re_B RC (by grind) (by rw [y70]; grind) ku500 (ku501.trans (by grind))).2.1.trans q)) (by decide)⟩⟩, hu50, fu50, (by first | rfl | grind | grind [uk_up_at])⟩
      · have zc37 := nx36 c37
        refine g_iinc (v := i14 + 1) dX5_readAll_45 rfl rfl (by decide) ?_
        refine g_pick (lv' := [(0, .ref (uk_ad G 1)), (1, .int (i14 + 1))]) [0, 1] rfl ?_
        refine g_goto (tgt := 31) dX5_readAll_48 (by decide) ?_
        refine g_pick (lv' := [(0, .ref (uk_ad G 1)), (1, .int (i14 + 1))]) [0, 1] rfl ?_
        exact ihi14 (by first | lia | grind)  u34 hu34 fu34 (by grind) ⟨pLine f N b9, wLine f N b9 W9, (pIt_s (by grind) (by grind) hbI hbJ).1, (pIt_s (by grind) (by grind) hbI hbJ).2, ku343 (nx36 (by assumption)).1 (nx36 (by assumption)).2, ku341 (nx36 (by assumption)).1, ((ku341 (nx36 (by assumption)).1).2.2.1.symm.trans (nx36 (by assumption)).2), (by rw [← hb3]; exact (pLoop_s (by grind) (by grind) (nx36 (by assumption)).1 ((ku341 (nx36 (by assumption)).1).2.2.1.symm.trans (nx36 (by assumption)).2)).symm)⟩
  refine g_pick (lv' := [(0, .ref (uk_ad G 1)), (1, .int 0)]) [0, 1] rfl ?_
  exact L31_12 0 (by first | decide | lia | grind) (by first | decide | lia | grind)  u11 hu11 fu11 (by grind [uk_up_at]) ⟨p_0, fun _ _ => 0, rfl, rfl, W00, S00, rfl, rfl⟩
abbrev q_X6_text_t (u : uk_Mem) (f : Nat → Int32) (N : Int32) (r : Option Value) (u' : uk_Mem) : Prop := (∃ x : Int32, r = some (.int x) ∧ ((¬ (pRes f N).1.1 = 0 ∧ x = -10 - (pRes f N).1.2.1) ∨ ((pRes f N).1.1 = 0 ∧ x = (pRes f N).2))) ∧ (iv u' ∧ fr 0 41 u u' ∧ u'.1 2 1 = 0 ∧ u'.1 0 13 = (pRes f N).1.1 ∧ ((pRes f N).1.1 = 0 → TXI f N u' 2) ∧ (¬ (pRes f N).1.1 = 0 → ∀ d, 13 ≤ d → d ≤ 40 → u'.1 d = u.1 d) ∧ u'.1 0 14 = u.1 0 14)
set_option maxHeartbeats 4000000 in
set_option maxRecDepth 20000 in
theorem c_X6_text_t {G : uk_D} (hs : uk_Sep G) {u : uk_Mem} (hu : iv u) (f : Nat → Int32) (N : Int32) (p0 : cpy (u.1 3) f N) (p1 : u.1 2 1 = N) (d : Nat) : uk_Meth G (d + 8) mX6_text [.ref (uk_ad G 0)] u (q_X6_text_t u f N) := by
  refine uk_Meth.of hs (by decide) (Nat.le_of_ble_eq_true rfl) (fun X => ?_)
  have f0 : fr 0 41 u u := fr_rf
  refine g_aload_n dX6_text_0 rfl ?_
  refine f_X6_31 rfl rfl dX6_text_1 ?_
  refine cl_X6_91 (c := 1) (As := []) rfl (c_X5_readAll_t (G := G) hs hu  f N p0 p1 (d)) rfl (by omega) rfl rfl (Nat.le_of_ble_eq_true rfl) dX6_text_4 (fun r1 u2 q3 => ?_)
  obtain ⟨⟨x4, rfl, tx4⟩, mq3⟩ := q3
  obtain ⟨hu2, gu2, ku20⟩ := mq3
  have fu2 : fr 0 41 u u2 := fr_tr f0 gu2 (by omega) (by omega)
  have tTx4 := tx4.1
  refine g_istore_n dX6_text_7 (by decide) ?_
  refine g_pick (lv' := [(0, .ref (uk_ad G 0)), (1, .int x4)]) [0, 1] rfl ?_
  refine g_aload_n dX6_text_8 rfl ?_
  refine f_X6_22 rfl rfl dX6_text_9 ?_
  refine g_iconst (v := 0) dX6_text_12 (by decide) ?_
  refine p_X6_84 rfl rfl dX6_text_13 ?_
  refine g_mem (fun u5 eu5 => ?_)
  have hu5 : iv u5 := by rw [eu5]; exact iv_up hu2 rfl (by first | lia | grind) (by first | lia | grind)
  have fu5 : fr 0 41 u u5 := by rw [eu5]; exact fr_up fu2 (by omega) (by omega)
  have s6 : u5.1 2 1 = 0 := by rw [eu5, uk_up_at]; exact if_pos ⟨rfl, rfl⟩
  refine g_aload_n dX6_text_16 rfl ?_
  refine g_aload_n dX6_text_17 rfl ?_
  refine f_X6_31 rfl rfl dX6_text_18 ?_
  refine f_X6_95 rfl rfl dX6_text_21 ?_
  refine g_topi (fun x7 ex7 => ?_)
  have s8 : u5.1 1 2 = x7 := ex7.symm
  have yf : x7 = (pRes f N).1.1 := by rw [ex7, eu5, uk_up_at, if_neg (by decide)]; exact tTx4.2.1
  refine p_X6_77 rfl rfl dX6_text_24 ?_
  refine g_mem (fun u9 eu9 => ?_)
  have hu9 : iv u9 := by rw [eu9]; exact iv_upF hu5 rfl
  have fu9 : fr 0 41 u u9 := by rw [eu9]; exact fr_up fu5 (by omega) (by omega)
  have s10 : u9.1 0 13 = x7 := by rw [eu9, uk_up_at]; exact if_pos ⟨rfl, rfl⟩
  have s13 : u9.1 0 13 = (pRes f N).1.1 := by rw [eu9, uk_up_at, if_pos ⟨rfl, rfl⟩]; exact yf
  have s14 : u9.1 0 14 = u.1 0 14 := by rw [eu9, uk_up_at, if_neg (by decide), eu5, uk_up_oc (by decide), gu2.1 0 (by omega)]
  refine g_aload_n dX6_text_27 rfl ?_
  refine f_X6_77 rfl rfl dX6_text_28 ?_
  refine g_topi (fun x11 ex11 => ?_)
  have qx11 : x11 = x7 := by rw [ex11]; exact s10
  refine g_if_eq (tgt := 45) dX6_text_31 (by decide) (fun c12 => ?_) (fun c12 => ?_)
  · have SX := tx4.2 (by grind)
    rw [tx4.1.1] at SX
    have SX9 : Sw u9 (wIt f N (pRes f N).2.toNatClampNeg) := KW_cg SX.1 (fun c c1 c2 => by rw [eu9, uk_up_oc (by omega), eu5, uk_up_oc (by omega)])
    have SZ9 : u9.1 4 0 = (pIt f N (pRes f N).2.toNatClampNeg).2.2.2.1 := by rw [eu9, uk_up_oc (by decide), eu5, uk_up_oc (by decide)]; exact SX.2
    have n9 := uk_cln 8 8 rfl (iv_at hu9 4 0 rfl).1 (iv_at hu9 4 0 rfl).2
    refine g_aload_n dX6_text_45 rfl ?_
    refine f_X6_10 rfl rfl dX6_text_46 ?_
    refine g_aload_n dX6_text_49 rfl ?_
    refine f_X6_16 rfl rfl dX6_text_50 ?_
    refine cl_X6_101 (c := 13) (As := [.ref (uk_ad G 4)]) rfl (c_X0_copyFrom_t (G := G) hs hu9 uk_isK13 uk_isK4   (d + 7)) rfl (by omega) rfl rfl (Nat.le_of_ble_eq_true rfl) dX6_text_53 (fun r13 u14 q15 => ?_)
    obtain ⟨rfl, mq15⟩ := q15
    obtain ⟨hu14, gu14, ku140⟩ := mq15
    have fu14 : fr 0 41 u u14 := fr_tr fu9 gu14 (by omega) (by omega)
    have wu14_2_1 : u14.1 2 1 = u9.1 2 1 := fr_at gu14 (by omega)
    have s16 : u14.1 2 1 = 0 := (fr_at gu14 (by omega)).trans (by simp [eu9, uk_up_at, s6] : u9.1 2 1 = 0)
    have s17 : u14.1 1 2 = x7 := (fr_at gu14 (by omega)).trans (by simp [eu9, uk_up_at, s8] : u9.1 1 2 = x7)
    have s18 : u14.1 0 13 = x7 := (fr_at gu14 (by omega)).trans s10
    refine g_iconst (v := 0) dX6_text_56 (by decide) ?_
    refine g_istore_n dX6_text_57 (by decide) ?_
    refine g_pick (lv' := [(0, .ref (uk_ad G 0)), (1, .int x4), (2, .int 0)]) [0, 1, 2] rfl ?_
    have L58_18 : ∀ i20 : Int32, 0 ≤ i20 → i20 ≤ 2 → ∀ (u21 : uk_Mem), iv u21 → fr 0 41 u u21 → u21.1 2 1 = 0 → u21.1 0 13 = (pRes f N).1.1 → TXI f N u21 i20 → u21.1 0 14 = u.1 0 14 → uk_G G X mX6_text (d + 8) (q_X6_text_t u f N) 58 [(0, .ref (uk_ad G 0)), (1, .int x4), (2, .int i20)] [] u21 := by
      refine uk_upl 2 ?_
      intro i20 ai20 bi20 ihi20  u21 hu21 fu21 ji200 ji201 ji202 ji203
      refine g_iload_n dX6_text_58 rfl ?_
      refine g_iconst (v := 2) dX6_text_59 (by decide) ?_
      refine g_icmp_ge (tgt := 76) dX6_text_60 (by decide) (fun c22 => ?_) (fun c22 => ?_)
      · refine g_iload_n dX6_text_76 rfl ?_
        exact g_iret (ty := .int) dX6_text_77 rfl rfl ⟨⟨_, rfl, Or.inr ⟨by grind, tTx4.1⟩⟩, hu21, fu21, ji200, ji201, (fun _ => by have h9 := ji202; rw [show i20 = 2 by grind] at h9; exact h9), (fun q => by exfalso; grind), ji203⟩
      · refine g_aload_n dX6_text_63 rfl ?_
        refine f_X6_41 rfl rfl dX6_text_64 ?_
        refine g_iload_n dX6_text_67 rfl ?_
        refine g_iconst (v := 0) dX6_text_68 (by decide) ?_
        have v23 : vp_in i20 2 := uk_vin 2 rfl (by first | decide | lia | grind) (by first | decide | lia | grind)
        have b24 := uk_cl v23
        refine g_zast rfl rfl v23 dX6_text_69 ?_
        rw [show vp_nar .boolean 0 = 0 from rfl]
        refine g_mem (fun u25 eu25 => ?_)
        have hu25 : iv u25 := by rw [eu25]; exact iv_up hu21 (uk_pick1 _ (by omega)) (by first | lia | grind) (by first | lia | grind)
        have fu25 : fr 0 41 u u25 := by rw [eu25]; exact fr_up fu21 (by omega) (by omega)
        refine g_iinc (v := i20 + 1) dX6_text_70 rfl rfl (by decide) ?_
        refine g_pick (lv' := [(0, .ref (uk_ad G 0)), (1, .int x4), (2, .int (i20 + 1))]) [0, 1, 2] rfl ?_
        refine g_goto (tgt := 58) dX6_text_73 (by decide) ?_
        refine g_pick (lv' := [(0, .ref (uk_ad G 0)), (1, .int x4), (2, .int (i20 + 1))]) [0, 1, 2] rfl ?_
        exact ihi20 (by first | lia | grind)  u25 hu25 fu25 (by rw [eu25, uk_up_at, if_neg (fun z => absurd z.1 (by decide))]; exact ji200) (by rw [eu25, uk_up_at, if_neg (fun z => absurd z.1 (by decide))]; exact ji201) (TXI_s ji202 (by grind) (by grind) eu25) (by rw [eu25, uk_up_at, if_neg (fun z => absurd z.1 (by decide))]; exact ji203)
    refine g_pick (lv' := [(0, .ref (uk_ad G 0)), (1, .int x4), (2, .int 0)]) [0, 1, 2] rfl ?_
    exact L58_18 0 (by first | decide | lia | grind) (by first | decide | lia | grind)  u14 hu14 fu14 (by grind) ((fr_at gu14 (by omega)).trans s13) (TXI_0 SX9 SZ9 n9 ku140) ((fr_at gu14 (by omega)).trans s14)
  · refine g_bipush (v := (-10)) dX6_text_34 (by decide) ?_
    refine g_aload_n dX6_text_36 rfl ?_
    refine f_X6_31 rfl rfl dX6_text_37 ?_
    refine f_X6_98 rfl rfl dX6_text_40 ?_
    refine g_topi (fun x26 ex26 => ?_)
    have s27 : u9.1 1 3 = x26 := ex26.symm
    have yp : ¬ (pRes f N).1.1 = 0 → x26 = (pRes f N).1.2.1 := fun q => by rw [ex26, eu9, uk_up_at, if_neg (by decide), eu5, uk_up_at, if_neg (by decide)]; exact tTx4.2.2 q
    refine g_isub dX6_text_43 ?_
    refine g_topi (fun x28 ex28 => ?_)
    exact g_iret (ty := .int) dX6_text_44 rfl rfl ⟨⟨_, rfl, Or.inl ⟨by grind, by rw [ex28, yp (by grind)]⟩⟩, hu9, fu9, (by grind [uk_up_at]), s13, (fun q => by exfalso; grind), (fun _ d d1 d2 => by rw [eu9, uk_up_oc (by omega), eu5, uk_up_oc (by omega)]; exact gu2.1 d (by omega)), s14⟩

