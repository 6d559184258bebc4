abbrev q_X7_readLine_t (u : uk_Mem) (f : Nat → Int32) (N : Int32) (a : PS) (W : PW) (r : Option Value) (u' : uk_Mem) : Prop := (r = none) ∧ (iv u' ∧ fk [60, 66, 67, 68] [3, 13, 22, 28] u u' ∧ rf u' ∧ (u'.1 60 18 = 0 → u.1 60 18 = 0) ∧ (u'.1 60 18 = 0 → u.1 60 15 + 3 ≤ u'.1 60 15) ∧ Sr f N u' (pLine f N a) ∧ (u'.1 60 18 = 0 → u'.1 60 7 = (pLine f N a).2.2.2.1 ∧ u'.1 60 10 = (pLine f N a).2.2.1 ∧ hi9 (pLine f N a).2.2.1 (u'.1 60 11)) ∧ (u'.1 60 18 = 0 → Rw u' (wLine f N a W)))
set_option maxHeartbeats 4000000 in
set_option maxRecDepth 20000 in
theorem c_X7_readLine_t {G : uk_D} (hs : uk_Sep G) {u : uk_Mem} (hu : iv u) (hrf : rf u) (f : Nat → Int32) (N : Int32) (a : PS) (W : PW) (p0 : Sr f N u a) (p1 : u.1 60 18 = 0) (p2 : u.1 60 7 = a.2.2.2.1) (p3 : u.1 60 10 = a.2.2.1) (p4 : hi9 a.2.2.1 (u.1 60 11)) (p5 : Rw u W) (d : Nat) : uk_Meth G (d + 4) mX7_readLine [.ref (uk_ad G 60)] u (q_X7_readLine_t u f N a W) := by
  refine uk_Meth.of hs (by decide) (Nat.le_of_ble_eq_true rfl) (fun X => ?_)
  have f0 : fk [60, 66, 67, 68] [3, 13, 22, 28] u u := fk_rf
  obtain ⟨t1, Tt1⟩ : ∃ t, u.1 60 7 = t := ⟨_, rfl⟩
  obtain ⟨t2, Tt2⟩ : ∃ t, u.1 60 14 = t := ⟨_, rfl⟩
  obtain ⟨t3, Tt3⟩ : ∃ t, u.1 60 15 = t := ⟨_, rfl⟩
  obtain ⟨t4, Tt4⟩ : ∃ t, u.1 60 16 = t := ⟨_, rfl⟩
  obtain ⟨t5, Tt5⟩ : ∃ t, u.1 60 18 = t := ⟨_, rfl⟩
  obtain ⟨t6, Tt6⟩ : ∃ t, u.1 60 19 = t := ⟨_, rfl⟩
  obtain ⟨A0, A1, A1n, A4, v9, HT⟩ := Sr_open p0 p1
  have hN : N ≤ 160 := by rw [← p0.2.1]; exact (iv_at hu 60 13 rfl).2
  have HK := tk_eq hN A1 HT
  have H4 : ¬ (tk f N a.2.2.2.2).2.1 = 4 := by rw [HK.2.1]; exact A4
  have PL : pl f (tk f N a.2.2.2.2).2.1 (tk f N a.2.2.2.2).1 (tk f N a.2.2.2.2).2.2.2 = pl f (u.1 60 16) (u.1 60 15) (u.1 60 14) := by rw [HK.1, HK.2.1, HK.2.2.1 A4]
  refine g_aload_n dX7_readLine_0 rfl ?_
  refine f_X7_111 rfl rfl dX7_readLine_1 ?_
  refine g_topi (fun x7 ex7 => ?_)
  have qx7 : x7 = t4 := ex7.trans Tt4
  refine g_iconst (v := 1) dX7_readLine_4 (by decide) ?_
  refine g_icmp_ne (tgt := 15) dX7_readLine_5 (by decide) (fun c8 => ?_) (fun c8 => ?_)
  · refine g_bipush (v := (-4)) dX7_readLine_15 (by decide) ?_
    refine g_istore_n dX7_readLine_17 (by decide) ?_
    refine g_pick (lv' := [(0, .ref (uk_ad G 60)), (1, .int (-4))]) [0, 1] rfl ?_
    have PK : PLK f (u.1 60 16) (u.1 60 15) (u.1 60 14) (-4) := PLK_n (by grind)
    refine g_aload_n dX7_readLine_18 rfl ?_
    refine g_iload_n dX7_readLine_19 rfl ?_
    refine g_bipush (v := (-4)) dX7_readLine_20 (by decide) ?_
    refine g_icmp_eq (tgt := 29) dX7_readLine_22 (by decide) (fun c9 => ?_) (fun c9 => ?_)
    · refine g_iconst (v := 0) dX7_readLine_29 (by decide) ?_
      refine g_iconst (v := 2) dX7_readLine_30 (by decide) ?_
      refine cl_X7_125 (c := 60) (As := [.int 0, .int 2]) rfl (c_X7_needs_s (G := G) hs hu  0 2 (by first | trivial | decide | lia | grind) (by first | trivial | decide | lia | grind) (d + 3)) rfl (by omega) rfl rfl (Nat.le_of_ble_eq_true rfl) dX7_readLine_31 (fun r10 u11 q12 => ?_)
      obtain ⟨rfl, mq12⟩ := q12
      obtain ⟨hu11, gu11, ku110, ku111, ku112⟩ := mq12
      have fu11 : fk [60, 66, 67, 68] [3, 13, 22, 28] u u11 := fk_tr f0 gu11 (by decide) (by decide)
      have rfu11 : rf u11 := rf_mono hrf gu11 (fun q => (ku110 q).1) (by decide) (by decide) (by decide) (by decide)
      have T13 : u11.1 60 7 = t1 := (fk_at gu11 (by decide)).trans Tt1
      have T14 : u11.1 60 14 = t2 := (fk_at gu11 (by decide)).trans Tt2
      have T15 : u11.1 60 15 = t3 := (fk_at gu11 (by decide)).trans Tt3
      have T16 : u11.1 60 16 = t4 := (fk_at gu11 (by decide)).trans Tt4
      obtain ⟨t17, Tt17⟩ : ∃ t, u11.1 60 18 = t := ⟨_, rfl⟩
      have Rt17 : 0 ≤ t17 ∧ t17 ≤ 6 := by rw [← Tt17]; exact iv_at hu11 _ _ rfl
      obtain ⟨t18, Tt18⟩ : ∃ t, u11.1 60 19 = t := ⟨_, rfl⟩
      refine g_aload_n dX7_readLine_34 rfl ?_
      refine g_iload_n dX7_readLine_35 rfl ?_
      refine g_iconst (v := 5) dX7_readLine_36 (by decide) ?_
      refine g_icmp_eq (tgt := 49) dX7_readLine_37 (by decide) (fun c19 => ?_) (fun c19 => ?_)
      · exact absurd c19 (by decide)
      · refine g_aload_n dX7_readLine_40 rfl ?_
        refine f_X7_69 rfl rfl dX7_readLine_41 ?_
        refine g_topi (fun x20 ex20 => ?_)
        have rx20 : 0 ≤ x20 ∧ x20 ≤ 8 := by rw [ex20]; exact iv_at hu11 _ _ rfl
        have qx20 : x20 = t1 := ex20.trans T13
        refine g_bipush (v := 8) dX7_readLine_44 (by decide) ?_
        refine g_icmp_ge (tgt := 53) dX7_readLine_46 (by decide) (fun c21 => ?_) (fun c21 => ?_)
        · refine g_iconst (v := 0) dX7_readLine_53 (by decide) ?_
          refine g_iconst (v := 5) dX7_readLine_54 (by decide) ?_
          refine cl_X7_125 (c := 60) (As := [.int 0, .int 5]) rfl (c_X7_needs_s (G := G) hs hu11  0 5 (by first | trivial | decide | lia | grind) (by first | trivial | decide | lia | grind) (d + 3)) rfl (by omega) rfl rfl (Nat.le_of_ble_eq_true rfl) dX7_readLine_55 (fun r22 u23 q24 => ?_)
          obtain ⟨rfl, mq24⟩ := q24
          obtain ⟨hu23, gu23, ku230, ku231, ku232⟩ := mq24
          have fu23 : fk [60, 66, 67, 68] [3, 13, 22, 28] u u23 := fk_tr fu11 gu23 (by decide) (by decide)
          have rfu23 : rf u23 := rf_mono rfu11 gu23 (fun q => (ku230 q).1) (by decide) (by decide) (by decide) (by decide)
          have T25 : u23.1 60 7 = t1 := (fk_at gu23 (by decide)).trans T13
          have T26 : u23.1 60 14 = t2 := (fk_at gu23 (by decide)).trans T14
          have T27 : u23.1 60 15 = t3 := (fk_at gu23 (by decide)).trans T15
          have T28 : u23.1 60 16 = t4 := (fk_at gu23 (by decide)).trans T16
          obtain ⟨t29, Tt29⟩ : ∃ t, u23.1 60 18 = t := ⟨_, rfl⟩
          have Rt29 : 0 ≤ t29 ∧ t29 ≤ 6 := by rw [← Tt29]; exact iv_at hu23 _ _ rfl
          obtain ⟨t30, Tt30⟩ : ∃ t, u23.1 60 19 = t := ⟨_, rfl⟩
          have FV : u23.1 60 18 = 2 ∧ u23.1 60 19 = u.1 60 15 := ⟨by rw [Tt29]; grind, by rw [Tt30]; grind⟩
          refine g_aload_n dX7_readLine_58 rfl ?_
          refine cl_X7_133 (c := 60) (As := []) rfl (c_X7_next_s (G := G) hs hu23    (d + 2)) rfl (by omega) rfl rfl (Nat.le_of_ble_eq_true rfl) dX7_readLine_59 (fun r31 u32 q33 => ?_)
          obtain ⟨rfl, mq33⟩ := q33
          obtain ⟨hu32, gu32, ku320, ku321, ku322, ku323, ku324, ku325⟩ := mq33
          have fu32 : fk [60, 66, 67, 68] [3, 13, 22, 28] u u32 := fk_tr fu23 gu32 (by decide) (by decide)
          have rfu32 : rf u32 := rf_mono rfu23 gu32 ku320 (by decide) (by decide) (by decide) (by decide)
          have T34 : u32.1 60 7 = t1 := (fk_at gu32 (by decide)).trans T25
          obtain ⟨t35, Tt35⟩ : ∃ t, u32.1 60 14 = t := ⟨_, rfl⟩
          have Rt35 : 0 ≤ t35 ∧ t35 ≤ 160 := by rw [← Tt35]; exact iv_at hu32 _ _ rfl
          obtain ⟨t36, Tt36⟩ : ∃ t, u32.1 60 15 = t := ⟨_, rfl⟩
          have Rt36 : 0 ≤ t36 ∧ t36 ≤ 160 := by rw [← Tt36]; exact iv_at hu32 _ _ rfl
          obtain ⟨t37, Tt37⟩ : ∃ t, u32.1 60 16 = t := ⟨_, rfl⟩
          obtain ⟨t38, Tt38⟩ : ∃ t, u32.1 60 18 = t := ⟨_, rfl⟩
          have Rt38 : 0 ≤ t38 ∧ t38 ≤ 6 := by rw [← Tt38]; exact iv_at hu32 _ _ rfl
          obtain ⟨t39, Tt39⟩ : ∃ t, u32.1 60 19 = t := ⟨_, rfl⟩
          have SB := Sr_bad (k := 2) p0 (by decide) FV.1 (FV.2.trans HK.1.symm) ⟨ku324, fun q => ⟨(ku325 q).2.2.2.2.1, (ku325 q).2.2.2.2.2⟩⟩ ((fk_at (c := 60) (i := 13) gu32 (by decide)).trans ((fk_at (c := 60) (i := 13) gu23 (by decide)).trans (fk_at (c := 60) (i := 13) gu11 (by decide)))) ((fk_c (c := 69) gu32 (by decide)).trans ((fk_c (c := 69) gu23 (by decide)).trans (fk_c (c := 69) gu11 (by decide))))
          have F3 : u32.1 60 18 = 2 := ((ku325 (by rw [FV.1]; decide)).2.2.2.2.1).trans FV.1
          have SL : Sr f N u32 (pLine f N a) := by rw [pLine_2 H4 (PL.trans (by have := PK; unfold PLK at this; grind))]; exact SB
          refine g_aload_n dX7_readLine_62 rfl ?_
          refine f_X7_91 rfl rfl dX7_readLine_63 ?_
          refine g_topi (fun x40 ex40 => ?_)
          have rx40 : 0 ≤ x40 ∧ x40 ≤ 6 := by rw [ex40]; exact iv_at hu32 _ _ rfl
          have qx40 : x40 = t38 := ex40.trans Tt38
          refine g_if_le (tgt := 70) dX7_readLine_66 (by decide) (fun c41 => ?_) (fun c41 => ?_)
          · exfalso; grind
          · exact g_vret dX7_readLine_69 rfl ⟨rfl, hu32, fu32, rfu32, (by first | rfl | (rw [Tt38]; grind) | rw [Tt38]), (by first | rfl | (rw [Tt38, Tt36]; grind) | rw [Tt38, Tt36]), SL, (fun q => by exfalso; grind), (fun q => by exfalso; grind)⟩
        · refine g_iconst (v := 1) dX7_readLine_49 (by decide) ?_
          refine g_goto (tgt := 54) dX7_readLine_50 (by decide) ?_
          refine g_iconst (v := 5) dX7_readLine_54 (by decide) ?_
          refine cl_X7_125 (c := 60) (As := [.int 1, .int 5]) rfl (c_X7_needs_s (G := G) hs hu11  1 5 (by first | trivial | decide | lia | grind) (by first | trivial | decide | lia | grind) (d + 3)) rfl (by omega) rfl rfl (Nat.le_of_ble_eq_true rfl) dX7_readLine_55 (fun r42 u43 q44 => ?_)
          obtain ⟨rfl, mq44⟩ := q44
          obtain ⟨hu43, gu43, ku430, ku431, ku432⟩ := mq44
          have fu43 : fk [60, 66, 67, 68] [3, 13, 22, 28] u u43 := fk_tr fu11 gu43 (by decide) (by decide)
          have rfu43 : rf u43 := rf_mono rfu11 gu43 (fun q => (ku430 q).1) (by decide) (by decide) (by decide) (by decide)
          have T45 : u43.1 60 7 = t1 := (fk_at gu43 (by decide)).trans T13
          have T46 : u43.1 60 14 = t2 := (fk_at gu43 (by decide)).trans T14
          have T47 : u43.1 60 15 = t3 := (fk_at gu43 (by decide)).trans T15
          have T48 : u43.1 60 16 = t4 := (fk_at gu43 (by decide)).trans T16
          obtain ⟨t49, Tt49⟩ : ∃ t, u43.1 60 18 = t := ⟨_, rfl⟩
          have Rt49 : 0 ≤ t49 ∧ t49 ≤ 6 := by rw [← Tt49]; exact iv_at hu43 _ _ rfl
          obtain ⟨t50, Tt50⟩ : ∃ t, u43.1 60 19 = t := ⟨_, rfl⟩
          have FV : u43.1 60 18 = 2 ∧ u43.1 60 19 = u.1 60 15 := ⟨by rw [Tt49]; grind, by rw [Tt50]; grind⟩
          refine g_aload_n dX7_readLine_58 rfl ?_
          refine cl_X7_133 (c := 60) (As := []) rfl (c_X7_next_s (G := G) hs hu43    (d + 2)) rfl (by omega) rfl rfl (Nat.le_of_ble_eq_true rfl) dX7_readLine_59 (fun r51 u52 q53 => ?_)
          obtain ⟨rfl, mq53⟩ := q53
          obtain ⟨hu52, gu52, ku520, ku521, ku522, ku523, ku524, ku525⟩ := mq53
          have fu52 : fk [60, 66, 67, 68] [3, 13, 22, 28] u u52 := fk_tr fu43 gu52 (by decide) (by decide)
          have rfu52 : rf u52 := rf_mono rfu43 gu52 ku520 (by decide) (by decide) (by decide) (by decide)
          have T54 : u52.1 60 7 = t1 := (fk_at gu52 (by decide)).trans T45
          obtain ⟨t55, Tt55⟩ : ∃ t, u52.1 60 14 = t := ⟨_, rfl⟩
          have Rt55 : 0 ≤ t55 ∧ t55 ≤ 160 := by rw [← Tt55]; exact iv_at hu52 _ _ rfl
          obtain ⟨t56, Tt56⟩ : ∃ t, u52.1 60 15 = t := ⟨_, rfl⟩
          have Rt56 : 0 ≤ t56 ∧ t56 ≤ 160 := by rw [← Tt56]; exact iv_at hu52 _ _ rfl
          obtain ⟨t57, Tt57⟩ : ∃ t, u52.1 60 16 = t := ⟨_, rfl⟩
          obtain ⟨t58, Tt58⟩ : ∃ t, u52.1 60 18 = t := ⟨_, rfl⟩
          have Rt58 : 0 ≤ t58 ∧ t58 ≤ 6 := by rw [← Tt58]; exact iv_at hu52 _ _ rfl
          obtain ⟨t59, Tt59⟩ : ∃ t, u52.1 60 19 = t := ⟨_, rfl⟩
          have SB := Sr_bad (k := 2) p0 (by decide) FV.1 (FV.2.trans HK.1.symm) ⟨ku524, fun q => ⟨(ku525 q).2.2.2.2.1, (ku525 q).2.2.2.2.2⟩⟩ ((fk_at (c := 60) (i := 13) gu52 (by decide)).trans ((fk_at (c := 60) (i := 13) gu43 (by decide)).trans (fk_at (c := 60) (i := 13) gu11 (by decide)))) ((fk_c (c := 69) gu52 (by decide)).trans ((fk_c (c := 69) gu43 (by decide)).trans (fk_c (c := 69) gu11 (by decide))))
          have F3 : u52.1 60 18 = 2 := ((ku525 (by rw [FV.1]; decide)).2.2.2.2.1).trans FV.1
          have SL : Sr f N u52 (pLine f N a) := by rw [pLine_2 H4 (PL.trans (by have := PK; unfold PLK at this; grind))]; exact SB
          refine g_aload_n dX7_readLine_62 rfl ?_
          refine f_X7_91 rfl rfl dX7_readLine_63 ?_
          refine g_topi (fun x60 ex60 => ?_)
          have rx60 : 0 ≤ x60 ∧ x60 ≤ 6 := by rw [ex60]; exact iv_at hu52 _ _ rfl
          have qx60 : x60 = t58 := ex60.trans Tt58
          refine g_if_le (tgt := 70) dX7_readLine_66 (by decide) (fun c61 => ?_) (fun c61 => ?_)
          · exfalso; grind
          · exact g_vret dX7_readLine_69 rfl ⟨rfl, hu52, fu52, rfu52, (by first | rfl | (rw [Tt58]; grind) | rw [Tt58]), (by first | rfl | (rw [Tt58, Tt56]; grind) | rw [Tt58, Tt56]), SL, (fun q => by exfalso; grind), (fun q => by exfalso; grind)⟩
    · exact absurd c9 (by decide)
  · refine g_aload_n dX7_readLine_8 rfl ?_
    refine cl_X7_139 (c := 60) (As := []) rfl (c_X7_lineNow_s (G := G) hs hu   (by have := TK_q hN A1 HT (by grind); rw [p0.2.1]; exact this.2.1) (d + 1)) rfl (by omega) rfl rfl (Nat.le_of_ble_eq_true rfl) dX7_readLine_9 (fun r62 u63 q64 => ?_)
    obtain ⟨⟨x65, rfl, tx65⟩, mq64⟩ := q64
    rw [mq64]
    refine g_goto (tgt := 17) dX7_readLine_12 (by decide) ?_
    refine g_istore_n dX7_readLine_17 (by decide) ?_
    refine g_pick (lv' := [(0, .ref (uk_ad G 60)), (1, .int x65)]) [0, 1] rfl ?_
    have PK : PLK f (u.1 60 16) (u.1 60 15) (u.1 60 14) x65 := PLK_1 p0.1 (TK_q hN A1 HT) (by grind) tx65.2
    refine g_aload_n dX7_readLine_18 rfl ?_
    refine g_iload_n dX7_readLine_19 rfl ?_
    refine g_bipush (v := (-4)) dX7_readLine_20 (by decide) ?_
    refine g_icmp_eq (tgt := 29) dX7_readLine_22 (by decide) (fun c66 => ?_) (fun c66 => ?_)
    · refine g_iconst (v := 0) dX7_readLine_29 (by decide) ?_
      refine g_iconst (v := 2) dX7_readLine_30 (by decide) ?_
      refine cl_X7_125 (c := 60) (As := [.int 0, .int 2]) rfl (c_X7_needs_s (G := G) hs hu  0 2 (by first | trivial | decide | lia | grind) (by first | trivial | decide | lia | grind) (d + 3)) rfl (by omega) rfl rfl (Nat.le_of_ble_eq_true rfl) dX7_readLine_31 (fun r67 u68 q69 => ?_)
      obtain ⟨rfl, mq69⟩ := q69
      obtain ⟨hu68, gu68, ku680, ku681, ku682⟩ := mq69
      have fu68 : fk [60, 66, 67, 68] [3, 13, 22, 28] u u68 := fk_tr f0 gu68 (by decide) (by decide)
      have rfu68 : rf u68 := rf_mono hrf gu68 (fun q => (ku680 q).1) (by decide) (by decide) (by decide) (by decide)
      have T70 : u68.1 60 7 = t1 := (fk_at gu68 (by decide)).trans Tt1
      have T71 : u68.1 60 14 = t2 := (fk_at gu68 (by decide)).trans Tt2
      have T72 : u68.1 60 15 = t3 := (fk_at gu68 (by decide)).trans Tt3
      have T73 : u68.1 60 16 = t4 := (fk_at gu68 (by decide)).trans Tt4
      obtain ⟨t74, Tt74⟩ : ∃ t, u68.1 60 18 = t := ⟨_, rfl⟩
      have Rt74 : 0 ≤ t74 ∧ t74 ≤ 6 := by rw [← Tt74]; exact iv_at hu68 _ _ rfl
      obtain ⟨t75, Tt75⟩ : ∃ t, u68.1 60 19 = t := ⟨_, rfl⟩
      refine g_aload_n dX7_readLine_34 rfl ?_
      refine g_iload_n dX7_readLine_35 rfl ?_
      refine g_iconst (v := 5) dX7_readLine_36 (by decide) ?_
      refine g_icmp_eq (tgt := 49) dX7_readLine_37 (by decide) (fun c76 => ?_) (fun c76 => ?_)
      · refine g_iconst (v := 1) dX7_readLine_49 (by decide) ?_
        refine g_goto (tgt := 54) dX7_readLine_50 (by decide) ?_
        refine g_iconst (v := 5) dX7_readLine_54 (by decide) ?_
        refine cl_X7_125 (c := 60) (As := [.int 1, .int 5]) rfl (c_X7_needs_s (G := G) hs hu68  1 5 (by first | trivial | decide | lia | grind) (by first | trivial | decide | lia | grind) (d + 3)) rfl (by omega) rfl rfl (Nat.le_of_ble_eq_true rfl) dX7_readLine_55 (fun r77 u78 q79 => ?_)
        obtain ⟨rfl, mq79⟩ := q79
        obtain ⟨hu78, gu78, ku780, ku781, ku782⟩ := mq79
        have fu78 : fk [60, 66, 67, 68] [3, 13, 22, 28] u u78 := fk_tr fu68 gu78 (by decide) (by decide)
        have rfu78 : rf u78 := rf_mono rfu68 gu78 (fun q => (ku780 q).1) (by decide) (by decide) (by decide) (by decide)
        have T80 : u78.1 60 7 = t1 := (fk_at gu78 (by decide)).trans T70
        have T81 : u78.1 60 14 = t2 := (fk_at gu78 (by decide)).trans T71
        have T82 : u78.1 60 15 = t3 := (fk_at gu78 (by decide)).trans T72
        have T83 : u78.1 60 16 = t4 := (fk_at gu78 (by decide)).trans T73
        obtain ⟨t84, Tt84⟩ : ∃ t, u78.1 60 18 = t := ⟨_, rfl⟩
        have Rt84 : 0 ≤ t84 ∧ t84 ≤ 6 := by rw [← Tt84]; exact iv_at hu78 _ _ rfl
        obtain ⟨t85, Tt85⟩ : ∃ t, u78.1 60 19 = t := ⟨_, rfl⟩
        have FV : u78.1 60 18 = 2 ∧ u78.1 60 19 = u.1 60 15 := ⟨by rw [Tt84]; grind, by rw [Tt85]; grind⟩
        refine g_aload_n dX7_readLine_58 rfl ?_
        refine cl_X7_133 (c := 60) (As := []) rfl (c_X7_next_s (G := G) hs hu78    (d + 2)) rfl (by omega) rfl rfl (Nat.le_of_ble_eq_true rfl) dX7_readLine_59 (fun r86 u87 q88 => ?_)
        obtain ⟨rfl, mq88⟩ := q88
        obtain ⟨hu87, gu87, ku870, ku871, ku872, ku873, ku874, ku875⟩ := mq88
        have fu87 : fk [60, 66, 67, 68] [3, 13, 22, 28] u u87 := fk_tr fu78 gu87 (by decide) (by decide)
        have rfu87 : rf u87 := rf_mono rfu78 gu87 ku870 (by decide) (by decide) (by decide) (by decide)
        have T89 : u87.1 60 7 = t1 := (fk_at gu87 (by decide)).trans T80
        obtain ⟨t90, Tt90⟩ : ∃ t, u87.1 60 14 = t := ⟨_, rfl⟩
        have Rt90 : 0 ≤ t90 ∧ t90 ≤ 160 := by rw [← Tt90]; exact iv_at hu87 _ _ rfl
        obtain ⟨t91, Tt91⟩ : ∃ t, u87.1 60 15 = t := ⟨_, rfl⟩
        have Rt91 : 0 ≤ t91 ∧ t91 ≤ 160 := by rw [← Tt91]; exact iv_at hu87 _ _ rfl
        obtain ⟨t92, Tt92⟩ : ∃ t, u87.1 60 16 = t := ⟨_, rfl⟩
        obtain ⟨t93, Tt93⟩ : ∃ t, u87.1 60 18 = t := ⟨_, rfl⟩
        have Rt93 : 0 ≤ t93 ∧ t93 ≤ 6 := by rw [← Tt93]; exact iv_at hu87 _ _ rfl
        obtain ⟨t94, Tt94⟩ : ∃ t, u87.1 60 19 = t := ⟨_, rfl⟩
        have SB := Sr_bad (k := 2) p0 (by decide) FV.1 (FV.2.trans HK.1.symm) ⟨ku874, fun q => ⟨(ku875 q).2.2.2.2.1, (ku875 q).2.2.2.2.2⟩⟩ ((fk_at (c := 60) (i := 13) gu87 (by decide)).trans ((fk_at (c := 60) (i := 13) gu78 (by decide)).trans (fk_at (c := 60) (i := 13) gu68 (by decide)))) ((fk_c (c := 69) gu87 (by decide)).trans ((fk_c (c := 69) gu78 (by decide)).trans (fk_c (c := 69) gu68 (by decide))))
        have F3 : u87.1 60 18 = 2 := ((ku875 (by rw [FV.1]; decide)).2.2.2.2.1).trans FV.1
        have SL : Sr f N u87 (pLine f N a) := by rw [pLine_2 H4 (PL.trans (by have := PK; unfold PLK at this; grind))]; exact SB
        refine g_aload_n dX7_readLine_62 rfl ?_
        refine f_X7_91 rfl rfl dX7_readLine_63 ?_
        refine g_topi (fun x95 ex95 => ?_)
        have rx95 : 0 ≤ x95 ∧ x95 ≤ 6 := by rw [ex95]; exact iv_at hu87 _ _ rfl
        have qx95 : x95 = t93 := ex95.trans Tt93
        refine g_if_le (tgt := 70) dX7_readLine_66 (by decide) (fun c96 => ?_) (fun c96 => ?_)
        · exfalso; grind
        · exact g_vret dX7_readLine_69 rfl ⟨rfl, hu87, fu87, rfu87, (by first | rfl | (rw [Tt93]; grind) | rw [Tt93]), (by first | rfl | (rw [Tt93, Tt91]; grind) | rw [Tt93, Tt91]), SL, (fun q => by exfalso; grind), (fun q => by exfalso; grind)⟩
      · refine g_aload_n dX7_readLine_40 rfl ?_
        refine f_X7_69 rfl rfl dX7_readLine_41 ?_
        refine g_topi (fun x97 ex97 => ?_)
        have rx97 : 0 ≤ x97 ∧ x97 ≤ 8 := by rw [ex97]; exact iv_at hu68 _ _ rfl
        have qx97 : x97 = t1 := ex97.trans T70
        refine g_bipush (v := 8) dX7_readLine_44 (by decide) ?_
        refine g_icmp_ge (tgt := 53) dX7_readLine_46 (by decide) (fun c98 => ?_) (fun c98 => ?_)
        · refine g_iconst (v := 0) dX7_readLine_53 (by decide) ?_
          refine g_iconst (v := 5) dX7_readLine_54 (by decide) ?_
          refine cl_X7_125 (c := 60) (As := [.int 0, .int 5]) rfl (c_X7_needs_s (G := G) hs hu68  0 5 (by first | trivial | decide | lia | grind) (by first | trivial | decide | lia | grind) (d + 3)) rfl (by omega) rfl rfl (Nat.le_of_ble_eq_true rfl) dX7_readLine_55 (fun r99 u100 q101 => ?_)
          obtain ⟨rfl, mq101⟩ := q101
          obtain ⟨hu100, gu100, ku1000, ku1001, ku1002⟩ := mq101
          have fu100 : fk [60, 66, 67, 68] [3, 13, 22, 28] u u100 := fk_tr fu68 gu100 (by decide) (by decide)
          have rfu100 : rf u100 := rf_mono rfu68 gu100 (fun q => (ku1000 q).1) (by decide) (by decide) (by decide) (by decide)
          have T102 : u100.1 60 7 = t1 := (fk_at gu100 (by decide)).trans T70
          have T103 : u100.1 60 14 = t2 := (fk_at gu100 (by decide)).trans T71
          have T104 : u100.1 60 15 = t3 := (fk_at gu100 (by decide)).trans T72
          have T105 : u100.1 60 16 = t4 := (fk_at gu100 (by decide)).trans T73
          obtain ⟨t106, Tt106⟩ : ∃ t, u100.1 60 18 = t := ⟨_, rfl⟩
          have Rt106 : 0 ≤ t106 ∧ t106 ≤ 6 := by rw [← Tt106]; exact iv_at hu100 _ _ rfl
          obtain ⟨t107, Tt107⟩ : ∃ t, u100.1 60 19 = t := ⟨_, rfl⟩
          have FV : u100.1 60 18 = 2 ∧ u100.1 60 19 = u.1 60 15 := ⟨by rw [Tt106]; grind, by rw [Tt107]; grind⟩
          refine g_aload_n dX7_readLine_58 rfl ?_
          refine cl_X7_133 (c := 60) (As := []) rfl (c_X7_next_s (G := G) hs hu100    (d + 2)) rfl (by omega) rfl rfl (Nat.le_of_ble_eq_true rfl) dX7_readLine_59 (fun r108 u109 q110 => ?_)
          obtain ⟨rfl, mq110⟩ := q110
          obtain ⟨hu109, gu109, ku1090, ku1091, ku1092, ku1093, ku1094, ku1095⟩ := mq110
          have fu109 : fk [60, 66, 67, 68] [3, 13, 22, 28] u u109 := fk_tr fu100 gu109 (by decide) (by decide)
          have rfu109 : rf u109 := rf_mono rfu100 gu109 ku1090 (by decide) (by decide) (by decide) (by decide)
          have T111 : u109.1 60 7 = t1 := (fk_at gu109 (by decide)).trans T102
          obtain ⟨t112, Tt112⟩ : ∃ t, u109.1 60 14 = t := ⟨_, rfl⟩
          have Rt112 : 0 ≤ t112 ∧ t112 ≤ 160 := by rw [← Tt112]; exact iv_at hu109 _ _ rfl
          obtain ⟨t113, Tt113⟩ : ∃ t, u109.1 60 15 = t := ⟨_, rfl⟩
          have Rt113 : 0 ≤ t113 ∧ t113 ≤ 160 := by rw [← Tt113]; exact iv_at hu109 _ _ rfl
          obtain ⟨t114, Tt114⟩ : ∃ t, u109.1 60 16 = t := ⟨_, rfl⟩
          obtain ⟨t115, Tt115⟩ : ∃ t, u109.1 60 18 = t := ⟨_, rfl⟩
          have Rt115 : 0 ≤ t115 ∧ t115 ≤ 6 := by rw [← Tt115]; exact iv_at hu109 _ _ rfl
          obtain ⟨t116, Tt116⟩ : ∃ t, u109.1 60 19 = t := ⟨_, rfl⟩
          have SB := Sr_bad (k := 2) p0 (by decide) FV.1 (FV.2.trans HK.1.symm) ⟨ku1094, fun q => ⟨(ku1095 q).2.2.2.2.1, (ku1095 q).2.2.2.2.2⟩⟩ ((fk_at (c := 60) (i := 13) gu109 (by decide)).trans ((fk_at (c := 60) (i := 13) gu100 (by decide)).trans (fk_at (c := 60) (i := 13) gu68 (by decide)))) ((fk_c (c := 69) gu109 (by decide)).trans ((fk_c (c := 69) gu100 (by decide)).trans (fk_c (c := 69) gu68 (by decide))))
          have F3 : u109.1 60 18 = 2 := ((ku1095 (by rw [FV.1]; decide)).2.2.2.2.1).trans FV.1
          have SL : Sr f N u109 (pLine f N a) := by rw [pLine_2 H4 (PL.trans (by have := PK; unfold PLK at this; grind))]; exact SB
          refine g_aload_n dX7_readLine_62 rfl ?_
          refine f_X7_91 rfl rfl dX7_readLine_63 ?_
          refine g_topi (fun x117 ex117 => ?_)
          have rx117 : 0 ≤ x117 ∧ x117 ≤ 6 := by rw [ex117]; exact iv_at hu109 _ _ rfl
          have qx117 : x117 = t115 := ex117.trans Tt115
          refine g_if_le (tgt := 70) dX7_readLine_66 (by decide) (fun c118 => ?_) (fun c118 => ?_)
          · exfalso; grind
          · exact g_vret dX7_readLine_69 rfl ⟨rfl, hu109, fu109, rfu109, (by first | rfl | (rw [Tt115]; grind) | rw [Tt115]), (by first | rfl | (rw [Tt115, Tt113]; grind) | rw [Tt115, Tt113]), SL, (fun q => by exfalso; grind), (fun q => by exfalso; grind)⟩
        · refine g_iconst (v := 1) dX7_readLine_49 (by decide) ?_
          refine g_goto (tgt := 54) dX7_readLine_50 (by decide) ?_
          refine g_iconst (v := 5) dX7_readLine_54 (by decide) ?_
          refine cl_X7_125 (c := 60) (As := [.int 1, .int 5]) rfl (c_X7_needs_s (G := G) hs hu68  1 5 (by first | trivial | decide | lia | grind) (by first | trivial | decide | lia | grind) (d + 3)) rfl (by omega) rfl rfl (Nat.le_of_ble_eq_true rfl) dX7_readLine_55 (fun r119 u120 q121 => ?_)
          obtain ⟨rfl, mq121⟩ := q121
          obtain ⟨hu120, gu120, ku1200, ku1201, ku1202⟩ := mq121
          have fu120 : fk [60, 66, 67, 68] [3, 13, 22, 28] u u120 := fk_tr fu68 gu120 (by decide) (by decide)
          have rfu120 : rf u120 := rf_mono rfu68 gu120 (fun q => (ku1200 q).1) (by decide) (by decide) (by decide) (by decide)
          have T122 : u120.1 60 7 = t1 := (fk_at gu120 (by decide)).trans T70
          have T123 : u120.1 60 14 = t2 := (fk_at gu120 (by decide)).trans T71
          have T124 : u120.1 60 15 = t3 := (fk_at gu120 (by decide)).trans T72
          have T125 : u120.1 60 16 = t4 := (fk_at gu120 (by decide)).trans T73
          obtain ⟨t126, Tt126⟩ : ∃ t, u120.1 60 18 = t := ⟨_, rfl⟩
          have Rt126 : 0 ≤ t126 ∧ t126 ≤ 6 := by rw [← Tt126]; exact iv_at hu120 _ _ rfl
          obtain ⟨t127, Tt127⟩ : ∃ t, u120.1 60 19 = t := ⟨_, rfl⟩
          have FV : u120.1 60 18 = 2 ∧ u120.1 60 19 = u.1 60 15 := ⟨by rw [Tt126]; grind, by rw [Tt127]; grind⟩
          refine g_aload_n dX7_readLine_58 rfl ?_
          refine cl_X7_133 (c := 60) (As := []) rfl (c_X7_next_s (G := G) hs hu120    (d + 2)) rfl (by omega) rfl rfl (Nat.le_of_ble_eq_true rfl) dX7_readLine_59 (fun r128 u129 q130 => ?_)
          obtain ⟨rfl, mq130⟩ := q130
          obtain ⟨hu129, gu129, ku1290, ku1291, ku1292, ku1293, ku1294, ku1295⟩ := mq130
          have fu129 : fk [60, 66, 67, 68] [3, 13, 22, 28] u u129 := fk_tr fu120 gu129 (by decide) (by decide)
          have rfu129 : rf u129 := rf_mono rfu120 gu129 ku1290 (by decide) (by decide) (by decide) (by decide)
          have T131 : u129.1 60 7 = t1 := (fk_at gu129 (by decide)).trans T122
          obtain ⟨t132, Tt132⟩ : ∃ t, u129.1 60 14 = t := ⟨_, rfl⟩
          have Rt132 : 0 ≤ t132 ∧ t132 ≤ 160 := by rw [← Tt132]; exact iv_at hu129 _ _ rfl
          obtain ⟨t133, Tt133⟩ : ∃ t, u129.1 60 15 = t := ⟨_, rfl⟩
          have Rt133 : 0 ≤ t133 ∧ t133 ≤ 160 := by rw [← Tt133]; exact iv_at hu129 _ _ rfl
          obtain ⟨t134, Tt134⟩ : ∃ t, u129.1 60 16 = t := ⟨_, rfl⟩
          obtain ⟨t135, Tt135⟩ : ∃ t, u129.1 60 18 = t := ⟨_, rfl⟩
          have Rt135 : 0 ≤ t135 ∧ t135 ≤ 6 := by rw [← Tt135]; exact iv_at hu129 _ _ rfl
          obtain ⟨t136, Tt136⟩ : ∃ t, u129.1 60 19 = t := ⟨_, rfl⟩
          have SB := Sr_bad (k := 2) p0 (by decide) FV.1 (FV.2.trans HK.1.symm) ⟨ku1294, fun q => ⟨(ku1295 q).2.2.2.2.1, (ku1295 q).2.2.2.2.2⟩⟩ ((fk_at (c := 60) (i := 13) gu129 (by decide)).trans ((fk_at (c := 60) (i := 13) gu120 (by decide)).trans (fk_at (c := 60) (i := 13) gu68 (by decide)))) ((fk_c (c := 69) gu129 (by decide)).trans ((fk_c (c := 69) gu120 (by decide)).trans (fk_c (c := 69) gu68 (by decide))))
          have F3 : u129.1 60 18 = 2 := ((ku1295 (by rw [FV.1]; decide)).2.2.2.2.1).trans FV.1
          have SL : Sr f N u129 (pLine f N a) := by rw [pLine_2 H4 (PL.trans (by have := PK; unfold PLK at this; grind))]; exact SB
          refine g_aload_n dX7_readLine_62 rfl ?_
          refine f_X7_91 rfl rfl dX7_readLine_63 ?_
          refine g_topi (fun x137 ex137 => ?_)
          have rx137 : 0 ≤ x137 ∧ x137 ≤ 6 := by rw [ex137]; exact iv_at hu129 _ _ rfl
          have qx137 : x137 = t135 := ex137.trans Tt135
          refine g_if_le (tgt := 70) dX7_readLine_66 (by decide) (fun c138 => ?_) (fun c138 => ?_)
          · exfalso; grind
          · exact g_vret dX7_readLine_69 rfl ⟨rfl, hu129, fu129, rfu129, (by first | rfl | (rw [Tt135]; grind) | rw [Tt135]), (by first | rfl | (rw [Tt135, Tt133]; grind) | rw [Tt135, Tt133]), SL, (fun q => by exfalso; grind), (fun q => by exfalso; grind)⟩
    · refine g_iconst (v := 1) dX7_readLine_25 (by decide) ?_
      refine g_goto (tgt := 30) dX7_readLine_26 (by decide) ?_
      refine g_iconst (v := 2) dX7_readLine_30 (by decide) ?_
      refine cl_X7_125 (c := 60) (As := [.int 1, .int 2]) rfl (c_X7_needs_s (G := G) hs hu  1 2 (by first | trivial | decide | lia | grind) (by first | trivial | decide | lia | grind) (d + 3)) rfl (by omega) rfl rfl (Nat.le_of_ble_eq_true rfl) dX7_readLine_31 (fun r139 u140 q141 => ?_)
      obtain ⟨rfl, mq141⟩ := q141
      obtain ⟨hu140, gu140, ku1400, ku1401, ku1402⟩ := mq141
      have fu140 : fk [60, 66, 67, 68] [3, 13, 22, 28] u u140 := fk_tr f0 gu140 (by decide) (by decide)
      have rfu140 : rf u140 := rf_mono hrf gu140 (fun q => (ku1400 q).1) (by decide) (by decide) (by decide) (by decide)
      have T142 : u140.1 60 7 = t1 := (fk_at gu140 (by decide)).trans Tt1
      have T143 : u140.1 60 14 = t2 := (fk_at gu140 (by decide)).trans Tt2
      have T144 : u140.1 60 15 = t3 := (fk_at gu140 (by decide)).trans Tt3
      have T145 : u140.1 60 16 = t4 := (fk_at gu140 (by decide)).trans Tt4
      obtain ⟨t146, Tt146⟩ : ∃ t, u140.1 60 18 = t := ⟨_, rfl⟩
      have Rt146 : 0 ≤ t146 ∧ t146 ≤ 6 := by rw [← Tt146]; exact iv_at hu140 _ _ rfl
      obtain ⟨t147, Tt147⟩ : ∃ t, u140.1 60 19 = t := ⟨_, rfl⟩
      refine g_aload_n dX7_readLine_34 rfl ?_
      refine g_iload_n dX7_readLine_35 rfl ?_
      refine g_iconst (v := 5) dX7_readLine_36 (by decide) ?_
      refine g_icmp_eq (tgt := 49) dX7_readLine_37 (by decide) (fun c148 => ?_) (fun c148 => ?_)
      · refine g_iconst (v := 1) dX7_readLine_49 (by decide) ?_
        refine g_goto (tgt := 54) dX7_readLine_50 (by decide) ?_
        refine g_iconst (v := 5) dX7_readLine_54 (by decide) ?_
        refine cl_X7_125 (c := 60) (As := [.int 1, .int 5]) rfl (c_X7_needs_s (G := G) hs hu140  1 5 (by first | trivial | decide | lia | grind) (by first | trivial | decide | lia | grind) (d + 3)) rfl (by omega) rfl rfl (Nat.le_of_ble_eq_true rfl) dX7_readLine_55 (fun r149 u150 q151 => ?_)
        obtain ⟨rfl, mq151⟩ := q151
        obtain ⟨hu150, gu150, ku1500, ku1501, ku1502⟩ := mq151
        have fu150 : fk [60, 66, 67, 68] [3, 13, 22, 28] u u150 := fk_tr fu140 gu150 (by decide) (by decide)
        have rfu150 : rf u150 := rf_mono rfu140 gu150 (fun q => (ku1500 q).1) (by decide) (by decide) (by decide) (by decide)
        have T152 : u150.1 60 7 = t1 := (fk_at gu150 (by decide)).trans T142
        have T153 : u150.1 60 14 = t2 := (fk_at gu150 (by decide)).trans T143
        have T154 : u150.1 60 15 = t3 := (fk_at gu150 (by decide)).trans T144
        have T155 : u150.1 60 16 = t4 := (fk_at gu150 (by decide)).trans T145
        obtain ⟨t156, Tt156⟩ : ∃ t, u150.1 60 18 = t := ⟨_, rfl⟩
        have Rt156 : 0 ≤ t156 ∧ t156 ≤ 6 := by rw [← Tt156]; exact iv_at hu150 _ _ rfl
        obtain ⟨t157, Tt157⟩ : ∃ t, u150.1 60 19 = t := ⟨_, rfl⟩
        have FV : u150.1 60 18 = 0 := by rw [Tt156]; grind
        refine g_aload_n dX7_readLine_58 rfl ?_
        refine cl_X7_133 (c := 60) (As := []) rfl (c_X7_next_s (G := G) hs hu150    (d + 2)) rfl (by omega) rfl rfl (Nat.le_of_ble_eq_true rfl) dX7_readLine_59 (fun r158 u159 q160 => ?_)
        obtain ⟨rfl, mq160⟩ := q160
        obtain ⟨hu159, gu159, ku1590, ku1591, ku1592, ku1593, ku1594, ku1595⟩ := mq160
        have fu159 : fk [60, 66, 67, 68] [3, 13, 22, 28] u u159 := fk_tr fu150 gu159 (by decide) (by decide)
        have rfu159 : rf u159 := rf_mono rfu150 gu159 ku1590 (by decide) (by decide) (by decide) (by decide)
        have T161 : u159.1 60 7 = t1 := (fk_at gu159 (by decide)).trans T152
        obtain ⟨t162, Tt162⟩ : ∃ t, u159.1 60 14 = t := ⟨_, rfl⟩
        have Rt162 : 0 ≤ t162 ∧ t162 ≤ 160 := by rw [← Tt162]; exact iv_at hu159 _ _ rfl
        obtain ⟨t163, Tt163⟩ : ∃ t, u159.1 60 15 = t := ⟨_, rfl⟩
        have Rt163 : 0 ≤ t163 ∧ t163 ≤ 160 := by rw [← Tt163]; exact iv_at hu159 _ _ rfl
        obtain ⟨t164, Tt164⟩ : ∃ t, u159.1 60 16 = t := ⟨_, rfl⟩
        obtain ⟨t165, Tt165⟩ : ∃ t, u159.1 60 18 = t := ⟨_, rfl⟩
        have Rt165 : 0 ≤ t165 ∧ t165 ≤ 6 := by rw [← Tt165]; exact iv_at hu159 _ _ rfl
        obtain ⟨t166, Tt166⟩ : ∃ t, u159.1 60 19 = t := ⟨_, rfl⟩
        have SN := Sr_next hN p0 A1 A1n HT A4 FV ⟨ku1594, fun q => ⟨(ku1595 q).2.2.2.2.1, (ku1595 q).2.2.2.2.2⟩⟩ ((fk_at (c := 60) (i := 13) gu150 (by decide)).trans (fk_at (c := 60) (i := 13) gu140 (by decide))) ((fk_at (c := 60) (i := 14) gu150 (by decide)).trans (fk_at (c := 60) (i := 14) gu140 (by decide))) ((fk_c (c := 69) gu150 (by decide)).trans (fk_c (c := 69) gu140 (by decide))) ((fk_at (c := 60) (i := 13) gu159 (by decide)).trans ((fk_at (c := 60) (i := 13) gu150 (by decide)).trans (fk_at (c := 60) (i := 13) gu140 (by decide)))) ((fk_c (c := 69) gu159 (by decide)).trans ((fk_c (c := 69) gu150 (by decide)).trans (fk_c (c := 69) gu140 (by decide))))
        have PQ : pl f (u.1 60 16) (u.1 60 15) (u.1 60 14) = x65 ∧ ¬ x65 = -1 := by have := PK; unfold PLK at this; grind
        refine g_aload_n dX7_readLine_62 rfl ?_
        refine f_X7_91 rfl rfl dX7_readLine_63 ?_
        refine g_topi (fun x167 ex167 => ?_)
        have rx167 : 0 ≤ x167 ∧ x167 ≤ 6 := by rw [ex167]; exact iv_at hu159 _ _ rfl
        have qx167 : x167 = t165 := ex167.trans Tt165
        refine g_if_le (tgt := 70) dX7_readLine_66 (by decide) (fun c168 => ?_) (fun c168 => ?_)
        · have F3 : u159.1 60 18 = 0 := by have := iv_at hu159 60 18 (lo := 0) (hi := 6) rfl; grind
          have Z7 : u159.1 60 7 = a.2.2.2.1 := ((fk_at (c := 60) (i := 7) gu159 (by decide)).trans ((fk_at (c := 60) (i := 7) gu150 (by decide)).trans (fk_at (c := 60) (i := 7) gu140 (by decide)))).trans p2
          have Z10 : u159.1 60 10 = a.2.2.1 := ((fk_at (c := 60) (i := 10) gu159 (by decide)).trans ((fk_at (c := 60) (i := 10) gu150 (by decide)).trans (fk_at (c := 60) (i := 10) gu140 (by decide)))).trans p3
          have Z11 : hi9 a.2.2.1 (u159.1 60 11) := by rw [((fk_at (c := 60) (i := 11) gu159 (by decide)).trans ((fk_at (c := 60) (i := 11) gu150 (by decide)).trans (fk_at (c := 60) (i := 11) gu140 (by decide))))]; exact p4
          have RV : Rw u159 W := Rw_cg p5 ((fk_at (c := 60) (i := 7) gu159 (by decide)).trans ((fk_at (c := 60) (i := 7) gu150 (by decide)).trans (fk_at (c := 60) (i := 7) gu140 (by decide)))) ((fk_c (c := 66) gu159 (by decide)).trans ((fk_c (c := 66) gu150 (by decide)).trans (fk_c (c := 66) gu140 (by decide)))) ((fk_c (c := 67) gu159 (by decide)).trans ((fk_c (c := 67) gu150 (by decide)).trans (fk_c (c := 67) gu140 (by decide)))) ((fk_c (c := 68) gu159 (by decide)).trans ((fk_c (c := 68) gu150 (by decide)).trans (fk_c (c := 68) gu140 (by decide))))
          refine g_iload_n dX7_readLine_70 rfl ?_
          refine g_iconst (v := 5) dX7_readLine_71 (by decide) ?_
          refine g_icmp_ne (tgt := 82) dX7_readLine_72 (by decide) (fun c169 => ?_) (fun c169 => ?_)
          · refine g_aload_n dX7_readLine_82 rfl ?_
            refine g_iload_n dX7_readLine_83 rfl ?_
            refine cl_X7_146 (c := 60) (As := [.int x65]) rfl (c_X7_readStuff_t (G := G) hs hu159 rfu159  x65 f N (0, a.2.1, a.2.2.1, a.2.2.2.1, (tk f N a.2.2.2.2).2.2.2) W (by rw [Z7, ← p2]; grind) SN RV (d)) rfl (by omega) rfl rfl (Nat.le_of_ble_eq_true rfl) dX7_readLine_84 (fun r170 u171 q172 => ?_)
            obtain ⟨rfl, mq172⟩ := q172
            obtain ⟨hu171, gu171, rfu171, ku1710, ku1711, ku1712, ku1713, ku1714⟩ := mq172
            have fu171 : fk [60, 66, 67, 68] [3, 13, 22, 28] u u171 := fk_tr fu159 gu171 (by decide) (by decide)
            obtain ⟨t173, Tt173⟩ : ∃ t, u171.1 60 7 = t := ⟨_, rfl⟩
            have Rt173 : 0 ≤ t173 ∧ t173 ≤ 8 := by rw [← Tt173]; exact iv_at hu171 _ _ rfl
            obtain ⟨t174, Tt174⟩ : ∃ t, u171.1 60 14 = t := ⟨_, rfl⟩
            have Rt174 : 0 ≤ t174 ∧ t174 ≤ 160 := by rw [← Tt174]; exact iv_at hu171 _ _ rfl
            obtain ⟨t175, Tt175⟩ : ∃ t, u171.1 60 15 = t := ⟨_, rfl⟩
            have Rt175 : 0 ≤ t175 ∧ t175 ≤ 160 := by rw [← Tt175]; exact iv_at hu171 _ _ rfl
            obtain ⟨t176, Tt176⟩ : ∃ t, u171.1 60 16 = t := ⟨_, rfl⟩
            obtain ⟨t177, Tt177⟩ : ∃ t, u171.1 60 18 = t := ⟨_, rfl⟩
            have Rt177 : 0 ≤ t177 ∧ t177 ≤ 6 := by rw [← Tt177]; exact iv_at hu171 _ _ rfl
            obtain ⟨t178, Tt178⟩ : ∃ t, u171.1 60 19 = t := ⟨_, rfl⟩
            refine g_aload_n dX7_readLine_87 rfl ?_
            refine f_X7_91 rfl rfl dX7_readLine_88 ?_
            refine g_topi (fun x179 ex179 => ?_)
            have rx179 : 0 ≤ x179 ∧ x179 ≤ 6 := by rw [ex179]; exact iv_at hu171 _ _ rfl
            have qx179 : x179 = t177 := ex179.trans Tt177
            refine g_if_ne (tgt := 112) dX7_readLine_91 (by decide) (fun c180 => ?_) (fun c180 => ?_)
            · have ST : stp u171 u171 := Or.inl ⟨by grind, rfl, rfl⟩
              refine g_aload_n dX7_readLine_112 rfl ?_
              refine cl_X7_133 (c := 60) (As := []) rfl (c_X7_next_s (G := G) hs hu171    (d + 2)) rfl (by omega) rfl rfl (Nat.le_of_ble_eq_true rfl) dX7_readLine_113 (fun r181 u182 q183 => ?_)
              obtain ⟨rfl, mq183⟩ := q183
              obtain ⟨hu182, gu182, ku1820, ku1821, ku1822, ku1823, ku1824, ku1825⟩ := mq183
              have fu182 : fk [60, 66, 67, 68] [3, 13, 22, 28] u u182 := fk_tr fu171 gu182 (by decide) (by decide)
              have rfu182 : rf u182 := rf_mono rfu171 gu182 ku1820 (by decide) (by decide) (by decide) (by decide)
              have T184 : u182.1 60 7 = t173 := (fk_at gu182 (by decide)).trans Tt173
              obtain ⟨t185, Tt185⟩ : ∃ t, u182.1 60 14 = t := ⟨_, rfl⟩
              have Rt185 : 0 ≤ t185 ∧ t185 ≤ 160 := by rw [← Tt185]; exact iv_at hu182 _ _ rfl
              obtain ⟨t186, Tt186⟩ : ∃ t, u182.1 60 15 = t := ⟨_, rfl⟩
              have Rt186 : 0 ≤ t186 ∧ t186 ≤ 160 := by rw [← Tt186]; exact iv_at hu182 _ _ rfl
              obtain ⟨t187, Tt187⟩ : ∃ t, u182.1 60 16 = t := ⟨_, rfl⟩
              obtain ⟨t188, Tt188⟩ : ∃ t, u182.1 60 18 = t := ⟨_, rfl⟩
              have Rt188 : 0 ≤ t188 ∧ t188 ≤ 6 := by rw [← Tt188]; exact iv_at hu182 _ _ rfl
              obtain ⟨t189, Tt189⟩ : ∃ t, u182.1 60 19 = t := ⟨_, rfl⟩
              have SS := Sr_stop hN ku1712 ST ⟨ku1824, fun q => ⟨(ku1825 q).2.2.2.2.1, (ku1825 q).2.2.2.2.2⟩⟩ rfl rfl rfl (fk_at gu182 (by decide)) (fk_c gu182 (by decide))
              have Y0 : u182.1 60 18 = 0 → u171.1 60 18 = 0 := fun q => by grind
              have PE : pLine f N a = pAdd (pTake f N (rsf f N (0, a.2.1, a.2.2.1, a.2.2.2.1, (tk f N a.2.2.2.2).2.2.2) x65 (u159.1 60 7)) 3 0).1 := by
                by_cases h9 : x65 = 4
                · rw [pLine_R (k := x65) H4 (PL.trans PQ.1) h9 (by rw [← p2]; grind), rsf_R h9]
                · rw [pLine_M (k := x65) H4 (PL.trans PQ.1) PQ.2 (by grind) h9 (by rw [← p2]; grind)]; exact Eq.symm (rsf_M (f := f) (n := N) (b := (0, a.2.1, a.2.2.1, a.2.2.2.1, (tk f N a.2.2.2.2).2.2.2)) (k := x65) h9 Z7)
              have SL : Sr f N u182 (pLine f N a) := by rw [PE]; exact Sr_add SS
              have TL : u182.1 60 18 = 0 → u182.1 60 7 = (pLine f N a).2.2.2.1 ∧ u182.1 60 10 = (pLine f N a).2.2.1 ∧ hi9 (pLine f N a).2.2.1 (u182.1 60 11) := fun q => by
                have ht := rsf_told (Sr_0 SS q)
                rw [PE, ht.1, ht.2, (fk_at (c := 60) (i := 7) gu182 (by decide)), (fk_at (c := 60) (i := 10) gu182 (by decide)), (fk_at (c := 60) (i := 11) gu182 (by decide)), ku1713, Z7]
                exact ⟨rfl, (fk_at gu171 (by decide)).trans Z10, by rw [fk_at (c := 60) (i := 11) gu171 (by decide)]; exact Z11⟩
              have RL : u182.1 60 18 = 0 → Rw u182 (wLine f N a W) := fun q => by rw [wLine_S (k := x65) (PL.trans PQ.1) (by grind)]; have h9 := ku1714 (Y0 q); rw [Z7] at h9; exact Rw_cg h9 (fk_at (c := 60) (i := 7) gu182 (by decide)) (fk_c (c := 66) gu182 (by decide)) (fk_c (c := 67) gu182 (by decide)) (fk_c (c := 68) gu182 (by decide))
              exact g_vret dX7_readLine_116 rfl ⟨rfl, hu182, fu182, rfu182, (by first | rfl | (rw [Tt188]; grind) | rw [Tt188]), (by first | rfl | (rw [Tt188, Tt186]; grind) | rw [Tt188, Tt186]), SL, TL, RL⟩
            · refine g_aload_n dX7_readLine_94 rfl ?_
              refine g_aload_n dX7_readLine_95 rfl ?_
              refine f_X7_111 rfl rfl dX7_readLine_96 ?_
              refine g_topi (fun x190 ex190 => ?_)
              have qx190 : x190 = t176 := ex190.trans Tt176
              refine g_iconst (v := 3) dX7_readLine_99 (by decide) ?_
              refine g_icmp_ne (tgt := 107) dX7_readLine_100 (by decide) (fun c191 => ?_) (fun c191 => ?_)
              · refine g_iconst (v := 0) dX7_readLine_107 (by decide) ?_
                refine g_iconst (v := 2) dX7_readLine_108 (by decide) ?_
                refine cl_X7_125 (c := 60) (As := [.int 0, .int 2]) rfl (c_X7_needs_s (G := G) hs hu171  0 2 (by first | trivial | decide | lia | grind) (by first | trivial | decide | lia | grind) (d + 3)) rfl (by omega) rfl rfl (Nat.le_of_ble_eq_true rfl) dX7_readLine_109 (fun r192 u193 q194 => ?_)
                obtain ⟨rfl, mq194⟩ := q194
                obtain ⟨hu193, gu193, ku1930, ku1931, ku1932⟩ := mq194
                have fu193 : fk [60, 66, 67, 68] [3, 13, 22, 28] u u193 := fk_tr fu171 gu193 (by decide) (by decide)
                have rfu193 : rf u193 := rf_mono rfu171 gu193 (fun q => (ku1930 q).1) (by decide) (by decide) (by decide) (by decide)
                have T195 : u193.1 60 7 = t173 := (fk_at gu193 (by decide)).trans Tt173
                have T196 : u193.1 60 14 = t174 := (fk_at gu193 (by decide)).trans Tt174
                have T197 : u193.1 60 15 = t175 := (fk_at gu193 (by decide)).trans Tt175
                have T198 : u193.1 60 16 = t176 := (fk_at gu193 (by decide)).trans Tt176
                obtain ⟨t199, Tt199⟩ : ∃ t, u193.1 60 18 = t := ⟨_, rfl⟩
                have Rt199 : 0 ≤ t199 ∧ t199 ≤ 6 := by rw [← Tt199]; exact iv_at hu193 _ _ rfl
                obtain ⟨t200, Tt200⟩ : ∃ t, u193.1 60 19 = t := ⟨_, rfl⟩
                have ST : stp u171 u193 := Or.inr (Or.inl ⟨by grind, by grind, by rw [Tt199]; grind, by rw [Tt200]; grind⟩)
                refine g_aload_n dX7_readLine_112 rfl ?_
                refine cl_X7_133 (c := 60) (As := []) rfl (c_X7_next_s (G := G) hs hu193    (d + 2)) rfl (by omega) rfl rfl (Nat.le_of_ble_eq_true rfl) dX7_readLine_113 (fun r201 u202 q203 => ?_)
                obtain ⟨rfl, mq203⟩ := q203
                obtain ⟨hu202, gu202, ku2020, ku2021, ku2022, ku2023, ku2024, ku2025⟩ := mq203
                have fu202 : fk [60, 66, 67, 68] [3, 13, 22, 28] u u202 := fk_tr fu193 gu202 (by decide) (by decide)
                have rfu202 : rf u202 := rf_mono rfu193 gu202 ku2020 (by decide) (by decide) (by decide) (by decide)
                have T204 : u202.1 60 7 = t173 := (fk_at gu202 (by decide)).trans T195
                obtain ⟨t205, Tt205⟩ : ∃ t, u202.1 60 14 = t := ⟨_, rfl⟩
                have Rt205 : 0 ≤ t205 ∧ t205 ≤ 160 := by rw [← Tt205]; exact iv_at hu202 _ _ rfl
                obtain ⟨t206, Tt206⟩ : ∃ t, u202.1 60 15 = t := ⟨_, rfl⟩
                have Rt206 : 0 ≤ t206 ∧ t206 ≤ 160 := by rw [← Tt206]; exact iv_at hu202 _ _ rfl
                obtain ⟨t207, Tt207⟩ : ∃ t, u202.1 60 16 = t := ⟨_, rfl⟩
                obtain ⟨t208, Tt208⟩ : ∃ t, u202.1 60 18 = t := ⟨_, rfl⟩
                have Rt208 : 0 ≤ t208 ∧ t208 ≤ 6 := by rw [← Tt208]; exact iv_at hu202 _ _ rfl
                obtain ⟨t209, Tt209⟩ : ∃ t, u202.1 60 19 = t := ⟨_, rfl⟩
                have SS := Sr_stop hN ku1712 ST ⟨ku2024, fun q => ⟨(ku2025 q).2.2.2.2.1, (ku2025 q).2.2.2.2.2⟩⟩ (fk_at gu193 (by decide)) (fk_at gu193 (by decide)) (fk_c gu193 (by decide)) (fk_at gu202 (by decide)) (fk_c gu202 (by decide))
                have Y0 : u202.1 60 18 = 0 → u171.1 60 18 = 0 := fun q => by grind
                have PE : pLine f N a = pAdd (pTake f N (rsf f N (0, a.2.1, a.2.2.1, a.2.2.2.1, (tk f N a.2.2.2.2).2.2.2) x65 (u159.1 60 7)) 3 0).1 := by
                  by_cases h9 : x65 = 4
                  · rw [pLine_R (k := x65) H4 (PL.trans PQ.1) h9 (by rw [← p2]; grind), rsf_R h9]
                  · rw [pLine_M (k := x65) H4 (PL.trans PQ.1) PQ.2 (by grind) h9 (by rw [← p2]; grind)]; exact Eq.symm (rsf_M (f := f) (n := N) (b := (0, a.2.1, a.2.2.1, a.2.2.2.1, (tk f N a.2.2.2.2).2.2.2)) (k := x65) h9 Z7)
                have SL : Sr f N u202 (pLine f N a) := by rw [PE]; exact Sr_add SS
                have TL : u202.1 60 18 = 0 → u202.1 60 7 = (pLine f N a).2.2.2.1 ∧ u202.1 60 10 = (pLine f N a).2.2.1 ∧ hi9 (pLine f N a).2.2.1 (u202.1 60 11) := fun q => by
                  have ht := rsf_told (Sr_0 SS q)
                  rw [PE, ht.1, ht.2, ((fk_at (c := 60) (i := 7) gu202 (by decide)).trans (fk_at (c := 60) (i := 7) gu193 (by decide))), ((fk_at (c := 60) (i := 10) gu202 (by decide)).trans (fk_at (c := 60) (i := 10) gu193 (by decide))), ((fk_at (c := 60) (i := 11) gu202 (by decide)).trans (fk_at (c := 60) (i := 11) gu193 (by decide))), ku1713, Z7]
                  exact ⟨rfl, (fk_at gu171 (by decide)).trans Z10, by rw [fk_at (c := 60) (i := 11) gu171 (by decide)]; exact Z11⟩
                have RL : u202.1 60 18 = 0 → Rw u202 (wLine f N a W) := fun q => by rw [wLine_S (k := x65) (PL.trans PQ.1) (by grind)]; have h9 := ku1714 (Y0 q); rw [Z7] at h9; exact Rw_cg h9 ((fk_at (c := 60) (i := 7) gu202 (by decide)).trans (fk_at (c := 60) (i := 7) gu193 (by decide))) ((fk_c (c := 66) gu202 (by decide)).trans (fk_c (c := 66) gu193 (by decide))) ((fk_c (c := 67) gu202 (by decide)).trans (fk_c (c := 67) gu193 (by decide))) ((fk_c (c := 68) gu202 (by decide)).trans (fk_c (c := 68) gu193 (by decide)))
                exact g_vret dX7_readLine_116 rfl ⟨rfl, hu202, fu202, rfu202, (by first | rfl | (rw [Tt208]; grind) | rw [Tt208]), (by first | rfl | (rw [Tt208, Tt206]; grind) | rw [Tt208, Tt206]), SL, TL, RL⟩
              · refine g_iconst (v := 1) dX7_readLine_103 (by decide) ?_
                refine g_goto (tgt := 108) dX7_readLine_104 (by decide) ?_
                refine g_iconst (v := 2) dX7_readLine_108 (by decide) ?_
                refine cl_X7_125 (c := 60) (As := [.int 1, .int 2]) rfl (c_X7_needs_s (G := G) hs hu171  1 2 (by first | trivial | decide | lia | grind) (by first | trivial | decide | lia | grind) (d + 3)) rfl (by omega) rfl rfl (Nat.le_of_ble_eq_true rfl) dX7_readLine_109 (fun r210 u211 q212 => ?_)
                obtain ⟨rfl, mq212⟩ := q212
                obtain ⟨hu211, gu211, ku2110, ku2111, ku2112⟩ := mq212
                have fu211 : fk [60, 66, 67, 68] [3, 13, 22, 28] u u211 := fk_tr fu171 gu211 (by decide) (by decide)
                have rfu211 : rf u211 := rf_mono rfu171 gu211 (fun q => (ku2110 q).1) (by decide) (by decide) (by decide) (by decide)
                have T213 : u211.1 60 7 = t173 := (fk_at gu211 (by decide)).trans Tt173
                have T214 : u211.1 60 14 = t174 := (fk_at gu211 (by decide)).trans Tt174
                have T215 : u211.1 60 15 = t175 := (fk_at gu211 (by decide)).trans Tt175
                have T216 : u211.1 60 16 = t176 := (fk_at gu211 (by decide)).trans Tt176
                obtain ⟨t217, Tt217⟩ : ∃ t, u211.1 60 18 = t := ⟨_, rfl⟩
                have Rt217 : 0 ≤ t217 ∧ t217 ≤ 6 := by rw [← Tt217]; exact iv_at hu211 _ _ rfl
                obtain ⟨t218, Tt218⟩ : ∃ t, u211.1 60 19 = t := ⟨_, rfl⟩
                have ST : stp u171 u211 := Or.inr (Or.inr ⟨by grind, by grind, by rw [Tt217]; grind⟩)
                refine g_aload_n dX7_readLine_112 rfl ?_
                refine cl_X7_133 (c := 60) (As := []) rfl (c_X7_next_s (G := G) hs hu211    (d + 2)) rfl (by omega) rfl rfl (Nat.le_of_ble_eq_true rfl) dX7_readLine_113 (fun r219 u220 q221 => ?_)
                obtain ⟨rfl, mq221⟩ := q221
                obtain ⟨hu220, gu220, ku2200, ku2201, ku2202, ku2203, ku2204, ku2205⟩ := mq221
                have fu220 : fk [60, 66, 67, 68] [3, 13, 22, 28] u u220 := fk_tr fu211 gu220 (by decide) (by decide)
                have rfu220 : rf u220 := rf_mono rfu211 gu220 ku2200 (by decide) (by decide) (by decide) (by decide)
                have T222 : u220.1 60 7 = t173 := (fk_at gu220 (by decide)).trans T213
                obtain ⟨t223, Tt223⟩ : ∃ t, u220.1 60 14 = t := ⟨_, rfl⟩
                have Rt223 : 0 ≤ t223 ∧ t223 ≤ 160 := by rw [← Tt223]; exact iv_at hu220 _ _ rfl
                obtain ⟨t224, Tt224⟩ : ∃ t, u220.1 60 15 = t := ⟨_, rfl⟩
                have Rt224 : 0 ≤ t224 ∧ t224 ≤ 160 := by rw [← Tt224]; exact iv_at hu220 _ _ rfl
                obtain ⟨t225, Tt225⟩ : ∃ t, u220.1 60 16 = t := ⟨_, rfl⟩
                obtain ⟨t226, Tt226⟩ : ∃ t, u220.1 60 18 = t := ⟨_, rfl⟩
                have Rt226 : 0 ≤ t226 ∧ t226 ≤ 6 := by rw [← Tt226]; exact iv_at hu220 _ _ rfl
                obtain ⟨t227, Tt227⟩ : ∃ t, u220.1 60 19 = t := ⟨_, rfl⟩
                have SS := Sr_stop hN ku1712 ST ⟨ku2204, fun q => ⟨(ku2205 q).2.2.2.2.1, (ku2205 q).2.2.2.2.2⟩⟩ (fk_at gu211 (by decide)) (fk_at gu211 (by decide)) (fk_c gu211 (by decide)) (fk_at gu220 (by decide)) (fk_c gu220 (by decide))
                have Y0 : u220.1 60 18 = 0 → u171.1 60 18 = 0 := fun q => by grind
                have PE : pLine f N a = pAdd (pTake f N (rsf f N (0, a.2.1, a.2.2.1, a.2.2.2.1, (tk f N a.2.2.2.2).2.2.2) x65 (u159.1 60 7)) 3 0).1 := by
                  by_cases h9 : x65 = 4
                  · rw [pLine_R (k := x65) H4 (PL.trans PQ.1) h9 (by rw [← p2]; grind), rsf_R h9]
                  · rw [pLine_M (k := x65) H4 (PL.trans PQ.1) PQ.2 (by grind) h9 (by rw [← p2]; grind)]; exact Eq.symm (rsf_M (f := f) (n := N) (b := (0, a.2.1, a.2.2.1, a.2.2.2.1, (tk f N a.2.2.2.2).2.2.2)) (k := x65) h9 Z7)
                have SL : Sr f N u220 (pLine f N a) := by rw [PE]; exact Sr_add SS
                have TL : u220.1 60 18 = 0 → u220.1 60 7 = (pLine f N a).2.2.2.1 ∧ u220.1 60 10 = (pLine f N a).2.2.1 ∧ hi9 (pLine f N a).2.2.1 (u220.1 60 11) := fun q => by
                  have ht := rsf_told (Sr_0 SS q)
                  rw [PE, ht.1, ht.2, ((fk_at (c := 60) (i := 7) gu220 (by decide)).trans (fk_at (c := 60) (i := 7) gu211 (by decide))), ((fk_at (c := 60) (i := 10) gu220 (by decide)).trans (fk_at (c := 60) (i := 10) gu211 (by decide))), ((fk_at (c := 60) (i := 11) gu220 (by decide)).trans (fk_at (c := 60) (i := 11) gu211 (by decide))), ku1713, Z7]
                  exact ⟨rfl, (fk_at gu171 (by decide)).trans Z10, by rw [fk_at (c := 60) (i := 11) gu171 (by decide)]; exact Z11⟩
                have RL : u220.1 60 18 = 0 → Rw u220 (wLine f N a W) := fun q => by rw [wLine_S (k := x65) (PL.trans PQ.1) (by grind)]; have h9 := ku1714 (Y0 q); rw [Z7] at h9; exact Rw_cg h9 ((fk_at (c := 60) (i := 7) gu220 (by decide)).trans (fk_at (c := 60) (i := 7) gu211 (by decide))) ((fk_c (c := 66) gu220 (by decide)).trans (fk_c (c := 66) gu211 (by decide))) ((fk_c (c := 67) gu220 (by decide)).trans (fk_c (c := 67) gu211 (by decide))) ((fk_c (c := 68) gu220 (by decide)).trans (fk_c (c := 68) gu211 (by decide)))
                exact g_vret dX7_readLine_116 rfl ⟨rfl, hu220, fu220, rfu220, (by first | rfl | (rw [Tt226]; grind) | rw [Tt226]), (by first | rfl | (rw [Tt226, Tt224]; grind) | rw [Tt226, Tt224]), SL, TL, RL⟩
          · refine g_aload_n dX7_readLine_75 rfl ?_
            refine cl_X7_143 (c := 60) (As := []) rfl (c_X7_readHave_t (G := G) hs hu159 rfu159  f N (0, a.2.1, a.2.2.1, a.2.2.2.1, (tk f N a.2.2.2.2).2.2.2) W SN F3 Z10 Z11 RV (d)) rfl (by omega) rfl rfl (Nat.le_of_ble_eq_true rfl) dX7_readLine_76 (fun r228 u229 q230 => ?_)
            obtain ⟨rfl, mq230⟩ := q230
            obtain ⟨hu229, gu229, rfu229, ku2290, ku2291, ku2292, ku2293, ku2294⟩ := mq230
            have fu229 : fk [60, 66, 67, 68] [3, 13, 22, 28] u u229 := fk_tr fu159 gu229 (by decide) (by decide)
            have T231 : u229.1 60 7 = t1 := (fk_at gu229 (by decide)).trans T161
            obtain ⟨t232, Tt232⟩ : ∃ t, u229.1 60 14 = t := ⟨_, rfl⟩
            have Rt232 : 0 ≤ t232 ∧ t232 ≤ 160 := by rw [← Tt232]; exact iv_at hu229 _ _ rfl
            obtain ⟨t233, Tt233⟩ : ∃ t, u229.1 60 15 = t := ⟨_, rfl⟩
            have Rt233 : 0 ≤ t233 ∧ t233 ≤ 160 := by rw [← Tt233]; exact iv_at hu229 _ _ rfl
            obtain ⟨t234, Tt234⟩ : ∃ t, u229.1 60 16 = t := ⟨_, rfl⟩
            obtain ⟨t235, Tt235⟩ : ∃ t, u229.1 60 18 = t := ⟨_, rfl⟩
            have Rt235 : 0 ≤ t235 ∧ t235 ≤ 6 := by rw [← Tt235]; exact iv_at hu229 _ _ rfl
            obtain ⟨t236, Tt236⟩ : ∃ t, u229.1 60 19 = t := ⟨_, rfl⟩
            refine g_goto (tgt := 87) dX7_readLine_79 (by decide) ?_
            refine g_aload_n dX7_readLine_87 rfl ?_
            refine f_X7_91 rfl rfl dX7_readLine_88 ?_
            refine g_topi (fun x237 ex237 => ?_)
            have rx237 : 0 ≤ x237 ∧ x237 ≤ 6 := by rw [ex237]; exact iv_at hu229 _ _ rfl
            have qx237 : x237 = t235 := ex237.trans Tt235
            refine g_if_ne (tgt := 112) dX7_readLine_91 (by decide) (fun c238 => ?_) (fun c238 => ?_)
            · have ST : stp u229 u229 := Or.inl ⟨by grind, rfl, rfl⟩
              refine g_aload_n dX7_readLine_112 rfl ?_
              refine cl_X7_133 (c := 60) (As := []) rfl (c_X7_next_s (G := G) hs hu229    (d + 2)) rfl (by omega) rfl rfl (Nat.le_of_ble_eq_true rfl) dX7_readLine_113 (fun r239 u240 q241 => ?_)
              obtain ⟨rfl, mq241⟩ := q241
              obtain ⟨hu240, gu240, ku2400, ku2401, ku2402, ku2403, ku2404, ku2405⟩ := mq241
              have fu240 : fk [60, 66, 67, 68] [3, 13, 22, 28] u u240 := fk_tr fu229 gu240 (by decide) (by decide)
              have rfu240 : rf u240 := rf_mono rfu229 gu240 ku2400 (by decide) (by decide) (by decide) (by decide)
              have T242 : u240.1 60 7 = t1 := (fk_at gu240 (by decide)).trans T231
              obtain ⟨t243, Tt243⟩ : ∃ t, u240.1 60 14 = t := ⟨_, rfl⟩
              have Rt243 : 0 ≤ t243 ∧ t243 ≤ 160 := by rw [← Tt243]; exact iv_at hu240 _ _ rfl
              obtain ⟨t244, Tt244⟩ : ∃ t, u240.1 60 15 = t := ⟨_, rfl⟩
              have Rt244 : 0 ≤ t244 ∧ t244 ≤ 160 := by rw [← Tt244]; exact iv_at hu240 _ _ rfl
              obtain ⟨t245, Tt245⟩ : ∃ t, u240.1 60 16 = t := ⟨_, rfl⟩
              obtain ⟨t246, Tt246⟩ : ∃ t, u240.1 60 18 = t := ⟨_, rfl⟩
              have Rt246 : 0 ≤ t246 ∧ t246 ≤ 6 := by rw [← Tt246]; exact iv_at hu240 _ _ rfl
              obtain ⟨t247, Tt247⟩ : ∃ t, u240.1 60 19 = t := ⟨_, rfl⟩
              have SS := Sr_stop hN ku2292 ST ⟨ku2404, fun q => ⟨(ku2405 q).2.2.2.2.1, (ku2405 q).2.2.2.2.2⟩⟩ rfl rfl rfl (fk_at gu240 (by decide)) (fk_c gu240 (by decide))
              have Y0 : u240.1 60 18 = 0 → u229.1 60 18 = 0 := fun q => by grind
              have SL : Sr f N u240 (pLine f N a) := by rw [pLine_H (k := x65) H4 (PL.trans PQ.1) (by grind)]; exact Sr_tell SS
              have TL : u240.1 60 18 = 0 → u240.1 60 7 = (pLine f N a).2.2.2.1 ∧ u240.1 60 10 = (pLine f N a).2.2.1 ∧ hi9 (pLine f N a).2.2.1 (u240.1 60 11) := fun q => by
                have ht := have_told (Sr_0 SS q)
                have h3 := ku2293 (Y0 q)
                rw [pLine_H (k := x65) H4 (PL.trans PQ.1) (by grind), ht.1, ht.2, (fk_at (c := 60) (i := 7) gu240 (by decide)), (fk_at (c := 60) (i := 10) gu240 (by decide)), (fk_at (c := 60) (i := 11) gu240 (by decide)), h3.1]
                exact ⟨(fk_at gu229 (by decide)).trans Z7, rfl, h3.2⟩
              have RL : u240.1 60 18 = 0 → Rw u240 (wLine f N a W) := fun q => by rw [wLine_H (k := x65) (PL.trans PQ.1) (by grind)]; exact Rw_cg (ku2294 (Y0 q)) (fk_at (c := 60) (i := 7) gu240 (by decide)) (fk_c (c := 66) gu240 (by decide)) (fk_c (c := 67) gu240 (by decide)) (fk_c (c := 68) gu240 (by decide))
              exact g_vret dX7_readLine_116 rfl ⟨rfl, hu240, fu240, rfu240, (by first | rfl | (rw [Tt246]; grind) | rw [Tt246]), (by first | rfl | (rw [Tt246, Tt244]; grind) | rw [Tt246, Tt244]), SL, TL, RL⟩
            · refine g_aload_n dX7_readLine_94 rfl ?_
              refine g_aload_n dX7_readLine_95 rfl ?_
              refine f_X7_111 rfl rfl dX7_readLine_96 ?_
              refine g_topi (fun x248 ex248 => ?_)
              have qx248 : x248 = t234 := ex248.trans Tt234
              refine g_iconst (v := 3) dX7_readLine_99 (by decide) ?_
              refine g_icmp_ne (tgt := 107) dX7_readLine_100 (by decide) (fun c249 => ?_) (fun c249 => ?_)
              · refine g_iconst (v := 0) dX7_readLine_107 (by decide) ?_
                refine g_iconst (v := 2) dX7_readLine_108 (by decide) ?_
                refine cl_X7_125 (c := 60) (As := [.int 0, .int 2]) rfl (c_X7_needs_s (G := G) hs hu229  0 2 (by first | trivial | decide | lia | grind) (by first | trivial | decide | lia | grind) (d + 3)) rfl (by omega) rfl rfl (Nat.le_of_ble_eq_true rfl) dX7_readLine_109 (fun r250 u251 q252 => ?_)
                obtain ⟨rfl, mq252⟩ := q252
                obtain ⟨hu251, gu251, ku2510, ku2511, ku2512⟩ := mq252
                have fu251 : fk [60, 66, 67, 68] [3, 13, 22, 28] u u251 := fk_tr fu229 gu251 (by decide) (by decide)
                have rfu251 : rf u251 := rf_mono rfu229 gu251 (fun q => (ku2510 q).1) (by decide) (by decide) (by decide) (by decide)
                have T253 : u251.1 60 7 = t1 := (fk_at gu251 (by decide)).trans T231
                have T254 : u251.1 60 14 = t232 := (fk_at gu251 (by decide)).trans Tt232
                have T255 : u251.1 60 15 = t233 := (fk_at gu251 (by decide)).trans Tt233
                have T256 : u251.1 60 16 = t234 := (fk_at gu251 (by decide)).trans Tt234
                obtain ⟨t257, Tt257⟩ : ∃ t, u251.1 60 18 = t := ⟨_, rfl⟩
                have Rt257 : 0 ≤ t257 ∧ t257 ≤ 6 := by rw [← Tt257]; exact iv_at hu251 _ _ rfl
                obtain ⟨t258, Tt258⟩ : ∃ t, u251.1 60 19 = t := ⟨_, rfl⟩
                have ST : stp u229 u251 := Or.inr (Or.inl ⟨by grind, by grind, by rw [Tt257]; grind, by rw [Tt258]; grind⟩)
                refine g_aload_n dX7_readLine_112 rfl ?_
                refine cl_X7_133 (c := 60) (As := []) rfl (c_X7_next_s (G := G) hs hu251    (d + 2)) rfl (by omega) rfl rfl (Nat.le_of_ble_eq_true rfl) dX7_readLine_113 (fun r259 u260 q261 => ?_)
                obtain ⟨rfl, mq261⟩ := q261
                obtain ⟨hu260, gu260, ku2600, ku2601, ku2602, ku2603, ku2604, ku2605⟩ := mq261
                have fu260 : fk [60, 66, 67, 68] [3, 13, 22, 28] u u260 := fk_tr fu251 gu260 (by decide) (by decide)
                have rfu260 : rf u260 := rf_mono rfu251 gu260 ku2600 (by decide) (by decide) (by decide) (by decide)
                have T262 : u260.1 60 7 = t1 := (fk_at gu260 (by decide)).trans T253
                obtain ⟨t263, Tt263⟩ : ∃ t, u260.1 60 14 = t := ⟨_, rfl⟩
                have Rt263 : 0 ≤ t263 ∧ t263 ≤ 160 := by rw [← Tt263]; exact iv_at hu260 _ _ rfl
                obtain ⟨t264, Tt264⟩ : ∃ t, u260.1 60 15 = t := ⟨_, rfl⟩
                have Rt264 : 0 ≤ t264 ∧ t264 ≤ 160 := by rw [← Tt264]; exact iv_at hu260 _ _ rfl
                obtain ⟨t265, Tt265⟩ : ∃ t, u260.1 60 16 = t := ⟨_, rfl⟩
                obtain ⟨t266, Tt266⟩ : ∃ t, u260.1 60 18 = t := ⟨_, rfl⟩
                have Rt266 : 0 ≤ t266 ∧ t266 ≤ 6 := by rw [← Tt266]; exact iv_at hu260 _ _ rfl
                obtain ⟨t267, Tt267⟩ : ∃ t, u260.1 60 19 = t := ⟨_, rfl⟩
                have SS := Sr_stop hN ku2292 ST ⟨ku2604, fun q => ⟨(ku2605 q).2.2.2.2.1, (ku2605 q).2.2.2.2.2⟩⟩ (fk_at gu251 (by decide)) (fk_at gu251 (by decide)) (fk_c gu251 (by decide)) (fk_at gu260 (by decide)) (fk_c gu260 (by decide))
                have Y0 : u260.1 60 18 = 0 → u229.1 60 18 = 0 := fun q => by grind
                have SL : Sr f N u260 (pLine f N a) := by rw [pLine_H (k := x65) H4 (PL.trans PQ.1) (by grind)]; exact Sr_tell SS
                have TL : u260.1 60 18 = 0 → u260.1 60 7 = (pLine f N a).2.2.2.1 ∧ u260.1 60 10 = (pLine f N a).2.2.1 ∧ hi9 (pLine f N a).2.2.1 (u260.1 60 11) := fun q => by
                  have ht := have_told (Sr_0 SS q)
                  have h3 := ku2293 (Y0 q)
                  rw [pLine_H (k := x65) H4 (PL.trans PQ.1) (by grind), ht.1, ht.2, ((fk_at (c := 60) (i := 7) gu260 (by decide)).trans (fk_at (c := 60) (i := 7) gu251 (by decide))), ((fk_at (c := 60) (i := 10) gu260 (by decide)).trans (fk_at (c := 60) (i := 10) gu251 (by decide))), ((fk_at (c := 60) (i := 11) gu260 (by decide)).trans (fk_at (c := 60) (i := 11) gu251 (by decide))), h3.1]
                  exact ⟨(fk_at gu229 (by decide)).trans Z7, rfl, h3.2⟩
                have RL : u260.1 60 18 = 0 → Rw u260 (wLine f N a W) := fun q => by rw [wLine_H (k := x65) (PL.trans PQ.1) (by grind)]; exact Rw_cg (ku2294 (Y0 q)) ((fk_at (c := 60) (i := 7) gu260 (by decide)).trans (fk_at (c := 60) (i := 7) gu251 (by decide))) ((fk_c (c := 66) gu260 (by decide)).trans (fk_c (c := 66) gu251 (by decide))) ((fk_c (c := 67) gu260 (by decide)).trans (fk_c (c := 67) gu251 (by decide))) ((fk_c (c := 68) gu260 (by decide)).trans (fk_c (c := 68) gu251 (by decide)))
                exact g_vret dX7_readLine_116 rfl ⟨rfl, hu260, fu260, rfu260, (by first | rfl | (rw [Tt266]; grind) | rw [Tt266]), (by first | rfl | (rw [Tt266, Tt264]; grind) | rw [Tt266, Tt264]), SL, TL, RL⟩
              · refine g_iconst (v := 1) dX7_readLine_103 (by decide) ?_
                refine g_goto (tgt := 108) dX7_readLine_104 (by decide) ?_
                refine g_iconst (v := 2) dX7_readLine_108 (by decide) ?_
                refine cl_X7_125 (c := 60) (As := [.int 1, .int 2]) rfl (c_X7_needs_s (G := G) hs hu229  1 2 (by first | trivial | decide | lia | grind) (by first | trivial | decide | lia | grind) (d + 3)) rfl (by omega) rfl rfl (Nat.le_of_ble_eq_true rfl) dX7_readLine_109 (fun r268 u269 q270 => ?_)
                obtain ⟨rfl, mq270⟩ := q270
                obtain ⟨hu269, gu269, ku2690, ku2691, ku2692⟩ := mq270
                have fu269 : fk [60, 66, 67, 68] [3, 13, 22, 28] u u269 := fk_tr fu229 gu269 (by decide) (by decide)
                have rfu269 : rf u269 := rf_mono rfu229 gu269 (fun q => (ku2690 q).1) (by decide) (by decide) (by decide) (by decide)
                have T271 : u269.1 60 7 = t1 := (fk_at gu269 (by decide)).trans T231
                have T272 : u269.1 60 14 = t232 := (fk_at gu269 (by decide)).trans Tt232
                have T273 : u269.1 60 15 = t233 := (fk_at gu269 (by decide)).trans Tt233
                have T274 : u269.1 60 16 = t234 := (fk_at gu269 (by decide)).trans Tt234
                obtain ⟨t275, Tt275⟩ : ∃ t, u269.1 60 18 = t := ⟨_, rfl⟩
                have Rt275 : 0 ≤ t275 ∧ t275 ≤ 6 := by rw [← Tt275]; exact iv_at hu269 _ _ rfl
                obtain ⟨t276, Tt276⟩ : ∃ t, u269.1 60 19 = t := ⟨_, rfl⟩
                have ST : stp u229 u269 := Or.inr (Or.inr ⟨by grind, by grind, by rw [Tt275]; grind⟩)
                refine g_aload_n dX7_readLine_112 rfl ?_
                refine cl_X7_133 (c := 60) (As := []) rfl (c_X7_next_s (G := G) hs hu269    (d + 2)) rfl (by omega) rfl rfl (Nat.le_of_ble_eq_true rfl) dX7_readLine_113 (fun r277 u278 q279 => ?_)
                obtain ⟨rfl, mq279⟩ := q279
                obtain ⟨hu278, gu278, ku2780, ku2781, ku2782, ku2783, ku2784, ku2785⟩ := mq279
                have fu278 : fk [60, 66, 67, 68] [3, 13, 22, 28] u u278 := fk_tr fu269 gu278 (by decide) (by decide)
                have rfu278 : rf u278 := rf_mono rfu269 gu278 ku2780 (by decide) (by decide) (by decide) (by decide)
                have T280 : u278.1 60 7 = t1 := (fk_at gu278 (by decide)).trans T271
                obtain ⟨t281, Tt281⟩ : ∃ t, u278.1 60 14 = t := ⟨_, rfl⟩
                have Rt281 : 0 ≤ t281 ∧ t281 ≤ 160 := by rw [← Tt281]; exact iv_at hu278 _ _ rfl
                obtain ⟨t282, Tt282⟩ : ∃ t, u278.1 60 15 = t := ⟨_, rfl⟩
                have Rt282 : 0 ≤ t282 ∧ t282 ≤ 160 := by rw [← Tt282]; exact iv_at hu278 _ _ rfl
                obtain ⟨t283, Tt283⟩ : ∃ t, u278.1 60 16 = t := ⟨_, rfl⟩
                obtain ⟨t284, Tt284⟩ : ∃ t, u278.1 60 18 = t := ⟨_, rfl⟩
                have Rt284 : 0 ≤ t284 ∧ t284 ≤ 6 := by rw [← Tt284]; exact iv_at hu278 _ _ rfl
                obtain ⟨t285, Tt285⟩ : ∃ t, u278.1 60 19 = t := ⟨_, rfl⟩
                have SS := Sr_stop hN ku2292 ST ⟨ku2784, fun q => ⟨(ku2785 q).2.2.2.2.1, (ku2785 q).2.2.2.2.2⟩⟩ (fk_at gu269 (by decide)) (fk_at gu269 (by decide)) (fk_c gu269 (by decide)) (fk_at gu278 (by decide)) (fk_c gu278 (by decide))
                have Y0 : u278.1 60 18 = 0 → u229.1 60 18 = 0 := fun q => by grind
                have SL : Sr f N u278 (pLine f N a) := by rw [pLine_H (k := x65) H4 (PL.trans PQ.1) (by grind)]; exact Sr_tell SS
                have TL : u278.1 60 18 = 0 → u278.1 60 7 = (pLine f N a).2.2.2.1 ∧ u278.1 60 10 = (pLine f N a).2.2.1 ∧ hi9 (pLine f N a).2.2.1 (u278.1 60 11) := fun q => by
                  have ht := have_told (Sr_0 SS q)
                  have h3 := ku2293 (Y0 q)
                  rw [pLine_H (k := x65) H4 (PL.trans PQ.1) (by grind), ht.1, ht.2, ((fk_at (c := 60) (i := 7) gu278 (by decide)).trans (fk_at (c := 60) (i := 7) gu269 (by decide))), ((fk_at (c := 60) (i := 10) gu278 (by decide)).trans (fk_at (c := 60) (i := 10) gu269 (by decide))), ((fk_at (c := 60) (i := 11) gu278 (by decide)).trans (fk_at (c := 60) (i := 11) gu269 (by decide))), h3.1]
                  exact ⟨(fk_at gu229 (by decide)).trans Z7, rfl, h3.2⟩
                have RL : u278.1 60 18 = 0 → Rw u278 (wLine f N a W) := fun q => by rw [wLine_H (k := x65) (PL.trans PQ.1) (by grind)]; exact Rw_cg (ku2294 (Y0 q)) ((fk_at (c := 60) (i := 7) gu278 (by decide)).trans (fk_at (c := 60) (i := 7) gu269 (by decide))) ((fk_c (c := 66) gu278 (by decide)).trans (fk_c (c := 66) gu269 (by decide))) ((fk_c (c := 67) gu278 (by decide)).trans (fk_c (c := 67) gu269 (by decide))) ((fk_c (c := 68) gu278 (by decide)).trans (fk_c (c := 68) gu269 (by decide)))
                exact g_vret dX7_readLine_116 rfl ⟨rfl, hu278, fu278, rfu278, (by first | rfl | (rw [Tt284]; grind) | rw [Tt284]), (by first | rfl | (rw [Tt284, Tt282]; grind) | rw [Tt284, Tt282]), SL, TL, RL⟩
        · have S4 := Sr_4 hN SN rfl (by grind)
          have SL : Sr f N u159 (pLine f N a) := by rw [pLine_e (k := x65) H4 (PL.trans PQ.1) PQ.2 (by rw [← p2]; grind) S4.1]; exact S4.2
          exact g_vret dX7_readLine_69 rfl ⟨rfl, hu159, fu159, rfu159, (by first | rfl | (rw [Tt165]; grind) | rw [Tt165]), (by first | rfl | (rw [Tt165, Tt163]; grind) | rw [Tt165, Tt163]), SL, (fun q => by exfalso; grind), (fun q => by exfalso; grind)⟩
      · refine g_aload_n dX7_readLine_40 rfl ?_
        refine f_X7_69 rfl rfl dX7_readLine_41 ?_
        refine g_topi (fun x286 ex286 => ?_)
        have rx286 : 0 ≤ x286 ∧ x286 ≤ 8 := by rw [ex286]; exact iv_at hu140 _ _ rfl
        have qx286 : x286 = t1 := ex286.trans T142
        refine g_bipush (v := 8) dX7_readLine_44 (by decide) ?_
        refine g_icmp_ge (tgt := 53) dX7_readLine_46 (by decide) (fun c287 => ?_) (fun c287 => ?_)
        · refine g_iconst (v := 0) dX7_readLine_53 (by decide) ?_
          refine g_iconst (v := 5) dX7_readLine_54 (by decide) ?_
          refine cl_X7_125 (c := 60) (As := [.int 0, .int 5]) rfl (c_X7_needs_s (G := G) hs hu140  0 5 (by first | trivial | decide | lia | grind) (by first | trivial | decide | lia | grind) (d + 3)) rfl (by omega) rfl rfl (Nat.le_of_ble_eq_true rfl) dX7_readLine_55 (fun r288 u289 q290 => ?_)
          obtain ⟨rfl, mq290⟩ := q290
          obtain ⟨hu289, gu289, ku2890, ku2891, ku2892⟩ := mq290
          have fu289 : fk [60, 66, 67, 68] [3, 13, 22, 28] u u289 := fk_tr fu140 gu289 (by decide) (by decide)
          have rfu289 : rf u289 := rf_mono rfu140 gu289 (fun q => (ku2890 q).1) (by decide) (by decide) (by decide) (by decide)
          have T291 : u289.1 60 7 = t1 := (fk_at gu289 (by decide)).trans T142
          have T292 : u289.1 60 14 = t2 := (fk_at gu289 (by decide)).trans T143
          have T293 : u289.1 60 15 = t3 := (fk_at gu289 (by decide)).trans T144
          have T294 : u289.1 60 16 = t4 := (fk_at gu289 (by decide)).trans T145
          obtain ⟨t295, Tt295⟩ : ∃ t, u289.1 60 18 = t := ⟨_, rfl⟩
          have Rt295 : 0 ≤ t295 ∧ t295 ≤ 6 := by rw [← Tt295]; exact iv_at hu289 _ _ rfl
          obtain ⟨t296, Tt296⟩ : ∃ t, u289.1 60 19 = t := ⟨_, rfl⟩
          have FV : u289.1 60 18 = 5 ∧ u289.1 60 19 = u.1 60 15 := ⟨by rw [Tt295]; grind, by rw [Tt296]; grind⟩
          refine g_aload_n dX7_readLine_58 rfl ?_
          refine cl_X7_133 (c := 60) (As := []) rfl (c_X7_next_s (G := G) hs hu289    (d + 2)) rfl (by omega) rfl rfl (Nat.le_of_ble_eq_true rfl) dX7_readLine_59 (fun r297 u298 q299 => ?_)
          obtain ⟨rfl, mq299⟩ := q299
          obtain ⟨hu298, gu298, ku2980, ku2981, ku2982, ku2983, ku2984, ku2985⟩ := mq299
          have fu298 : fk [60, 66, 67, 68] [3, 13, 22, 28] u u298 := fk_tr fu289 gu298 (by decide) (by decide)
          have rfu298 : rf u298 := rf_mono rfu289 gu298 ku2980 (by decide) (by decide) (by decide) (by decide)
          have T300 : u298.1 60 7 = t1 := (fk_at gu298 (by decide)).trans T291
          obtain ⟨t301, Tt301⟩ : ∃ t, u298.1 60 14 = t := ⟨_, rfl⟩
          have Rt301 : 0 ≤ t301 ∧ t301 ≤ 160 := by rw [← Tt301]; exact iv_at hu298 _ _ rfl
          obtain ⟨t302, Tt302⟩ : ∃ t, u298.1 60 15 = t := ⟨_, rfl⟩
          have Rt302 : 0 ≤ t302 ∧ t302 ≤ 160 := by rw [← Tt302]; exact iv_at hu298 _ _ rfl
          obtain ⟨t303, Tt303⟩ : ∃ t, u298.1 60 16 = t := ⟨_, rfl⟩
          obtain ⟨t304, Tt304⟩ : ∃ t, u298.1 60 18 = t := ⟨_, rfl⟩
          have Rt304 : 0 ≤ t304 ∧ t304 ≤ 6 := by rw [← Tt304]; exact iv_at hu298 _ _ rfl
          obtain ⟨t305, Tt305⟩ : ∃ t, u298.1 60 19 = t := ⟨_, rfl⟩
          have SB := Sr_bad (k := 5) p0 (by decide) FV.1 (FV.2.trans HK.1.symm) ⟨ku2984, fun q => ⟨(ku2985 q).2.2.2.2.1, (ku2985 q).2.2.2.2.2⟩⟩ ((fk_at (c := 60) (i := 13) gu298 (by decide)).trans ((fk_at (c := 60) (i := 13) gu289 (by decide)).trans (fk_at (c := 60) (i := 13) gu140 (by decide)))) ((fk_c (c := 69) gu298 (by decide)).trans ((fk_c (c := 69) gu289 (by decide)).trans (fk_c (c := 69) gu140 (by decide))))
          have F3 : u298.1 60 18 = 5 := ((ku2985 (by rw [FV.1]; decide)).2.2.2.2.1).trans FV.1
          have SL : Sr f N u298 (pLine f N a) := by rw [pLine_5 (k := x65) H4 (PL.trans (by have := PK; unfold PLK at this; grind)) (by have := PK; unfold PLK at this; grind) (by grind) (by rw [← p2]; grind)]; exact SB
          refine g_aload_n dX7_readLine_62 rfl ?_
          refine f_X7_91 rfl rfl dX7_readLine_63 ?_
          refine g_topi (fun x306 ex306 => ?_)
          have rx306 : 0 ≤ x306 ∧ x306 ≤ 6 := by rw [ex306]; exact iv_at hu298 _ _ rfl
          have qx306 : x306 = t304 := ex306.trans Tt304
          refine g_if_le (tgt := 70) dX7_readLine_66 (by decide) (fun c307 => ?_) (fun c307 => ?_)
          · exfalso; grind
          · exact g_vret dX7_readLine_69 rfl ⟨rfl, hu298, fu298, rfu298, (by first | rfl | (rw [Tt304]; grind) | rw [Tt304]), (by first | rfl | (rw [Tt304, Tt302]; grind) | rw [Tt304, Tt302]), SL, (fun q => by exfalso; grind), (fun q => by exfalso; grind)⟩
        · refine g_iconst (v := 1) dX7_readLine_49 (by decide) ?_
          refine g_goto (tgt := 54) dX7_readLine_50 (by decide) ?_
          refine g_iconst (v := 5) dX7_readLine_54 (by decide) ?_
          refine cl_X7_125 (c := 60) (As := [.int 1, .int 5]) rfl (c_X7_needs_s (G := G) hs hu140  1 5 (by first | trivial | decide | lia | grind) (by first | trivial | decide | lia | grind) (d + 3)) rfl (by omega) rfl rfl (Nat.le_of_ble_eq_true rfl) dX7_readLine_55 (fun r308 u309 q310 => ?_)
          obtain ⟨rfl, mq310⟩ := q310
          obtain ⟨hu309, gu309, ku3090, ku3091, ku3092⟩ := mq310
          have fu309 : fk [60, 66, 67, 68] [3, 13, 22, 28] u u309 := fk_tr fu140 gu309 (by decide) (by decide)
          have rfu309 : rf u309 := rf_mono rfu140 gu309 (fun q => (ku3090 q).1) (by decide) (by decide) (by decide) (by decide)
          have T311 : u309.1 60 7 = t1 := (fk_at gu309 (by decide)).trans T142
          have T312 : u309.1 60 14 = t2 := (fk_at gu309 (by decide)).trans T143
          have T313 : u309.1 60 15 = t3 := (fk_at gu309 (by decide)).trans T144
          have T314 : u309.1 60 16 = t4 := (fk_at gu309 (by decide)).trans T145
          obtain ⟨t315, Tt315⟩ : ∃ t, u309.1 60 18 = t := ⟨_, rfl⟩
          have Rt315 : 0 ≤ t315 ∧ t315 ≤ 6 := by rw [← Tt315]; exact iv_at hu309 _ _ rfl
          obtain ⟨t316, Tt316⟩ : ∃ t, u309.1 60 19 = t := ⟨_, rfl⟩
          have FV : u309.1 60 18 = 0 := by rw [Tt315]; grind
          refine g_aload_n dX7_readLine_58 rfl ?_
          refine cl_X7_133 (c := 60) (As := []) rfl (c_X7_next_s (G := G) hs hu309    (d + 2)) rfl (by omega) rfl rfl (Nat.le_of_ble_eq_true rfl) dX7_readLine_59 (fun r317 u318 q319 => ?_)
          obtain ⟨rfl, mq319⟩ := q319
          obtain ⟨hu318, gu318, ku3180, ku3181, ku3182, ku3183, ku3184, ku3185⟩ := mq319
          have fu318 : fk [60, 66, 67, 68] [3, 13, 22, 28] u u318 := fk_tr fu309 gu318 (by decide) (by decide)
          have rfu318 : rf u318 := rf_mono rfu309 gu318 ku3180 (by decide) (by decide) (by decide) (by decide)
          have T320 : u318.1 60 7 = t1 := (fk_at gu318 (by decide)).trans T311
          obtain ⟨t321, Tt321⟩ : ∃ t, u318.1 60 14 = t := ⟨_, rfl⟩
          have Rt321 : 0 ≤ t321 ∧ t321 ≤ 160 := by rw [← Tt321]; exact iv_at hu318 _ _ rfl
          obtain ⟨t322, Tt322⟩ : ∃ t, u318.1 60 15 = t := ⟨_, rfl⟩
          have Rt322 : 0 ≤ t322 ∧ t322 ≤ 160 := by rw [← Tt322]; exact iv_at hu318 _ _ rfl
          obtain ⟨t323, Tt323⟩ : ∃ t, u318.1 60 16 = t := ⟨_, rfl⟩
          obtain ⟨t324, Tt324⟩ : ∃ t, u318.1 60 18 = t := ⟨_, rfl⟩
          have Rt324 : 0 ≤ t324 ∧ t324 ≤ 6 := by rw [← Tt324]; exact iv_at hu318 _ _ rfl
          obtain ⟨t325, Tt325⟩ : ∃ t, u318.1 60 19 = t := ⟨_, rfl⟩
          have SN := Sr_next hN p0 A1 A1n HT A4 FV ⟨ku3184, fun q => ⟨(ku3185 q).2.2.2.2.1, (ku3185 q).2.2.2.2.2⟩⟩ ((fk_at (c := 60) (i := 13) gu309 (by decide)).trans (fk_at (c := 60) (i := 13) gu140 (by decide))) ((fk_at (c := 60) (i := 14) gu309 (by decide)).trans (fk_at (c := 60) (i := 14) gu140 (by decide))) ((fk_c (c := 69) gu309 (by decide)).trans (fk_c (c := 69) gu140 (by decide))) ((fk_at (c := 60) (i := 13) gu318 (by decide)).trans ((fk_at (c := 60) (i := 13) gu309 (by decide)).trans (fk_at (c := 60) (i := 13) gu140 (by decide)))) ((fk_c (c := 69) gu318 (by decide)).trans ((fk_c (c := 69) gu309 (by decide)).trans (fk_c (c := 69) gu140 (by decide))))
          have PQ : pl f (u.1 60 16) (u.1 60 15) (u.1 60 14) = x65 ∧ ¬ x65 = -1 := by have := PK; unfold PLK at this; grind
          refine g_aload_n dX7_readLine_62 rfl ?_
          refine f_X7_91 rfl rfl dX7_readLine_63 ?_
          refine g_topi (fun x326 ex326 => ?_)
          have rx326 : 0 ≤ x326 ∧ x326 ≤ 6 := by rw [ex326]; exact iv_at hu318 _ _ rfl
          have qx326 : x326 = t324 := ex326.trans Tt324
          refine g_if_le (tgt := 70) dX7_readLine_66 (by decide) (fun c327 => ?_) (fun c327 => ?_)
          · have F3 : u318.1 60 18 = 0 := by have := iv_at hu318 60 18 (lo := 0) (hi := 6) rfl; grind
            have Z7 : u318.1 60 7 = a.2.2.2.1 := ((fk_at (c := 60) (i := 7) gu318 (by decide)).trans ((fk_at (c := 60) (i := 7) gu309 (by decide)).trans (fk_at (c := 60) (i := 7) gu140 (by decide)))).trans p2
            have Z10 : u318.1 60 10 = a.2.2.1 := ((fk_at (c := 60) (i := 10) gu318 (by decide)).trans ((fk_at (c := 60) (i := 10) gu309 (by decide)).trans (fk_at (c := 60) (i := 10) gu140 (by decide)))).trans p3
            have Z11 : hi9 a.2.2.1 (u318.1 60 11) := by rw [((fk_at (c := 60) (i := 11) gu318 (by decide)).trans ((fk_at (c := 60) (i := 11) gu309 (by decide)).trans (fk_at (c := 60) (i := 11) gu140 (by decide))))]; exact p4
            have RV : Rw u318 W := Rw_cg p5 ((fk_at (c := 60) (i := 7) gu318 (by decide)).trans ((fk_at (c := 60) (i := 7) gu309 (by decide)).trans (fk_at (c := 60) (i := 7) gu140 (by decide)))) ((fk_c (c := 66) gu318 (by decide)).trans ((fk_c (c := 66) gu309 (by decide)).trans (fk_c (c := 66) gu140 (by decide)))) ((fk_c (c := 67) gu318 (by decide)).trans ((fk_c (c := 67) gu309 (by decide)).trans (fk_c (c := 67) gu140 (by decide)))) ((fk_c (c := 68) gu318 (by decide)).trans ((fk_c (c := 68) gu309 (by decide)).trans (fk_c (c := 68) gu140 (by decide))))
            refine g_iload_n dX7_readLine_70 rfl ?_
            refine g_iconst (v := 5) dX7_readLine_71 (by decide) ?_
            refine g_icmp_ne (tgt := 82) dX7_readLine_72 (by decide) (fun c328 => ?_) (fun c328 => ?_)
            · refine g_aload_n dX7_readLine_82 rfl ?_
              refine g_iload_n dX7_readLine_83 rfl ?_
              refine cl_X7_146 (c := 60) (As := [.int x65]) rfl (c_X7_readStuff_t (G := G) hs hu318 rfu318  x65 f N (0, a.2.1, a.2.2.1, a.2.2.2.1, (tk f N a.2.2.2.2).2.2.2) W (by rw [Z7, ← p2]; grind) SN RV (d)) rfl (by omega) rfl rfl (Nat.le_of_ble_eq_true rfl) dX7_readLine_84 (fun r329 u330 q331 => ?_)
              obtain ⟨rfl, mq331⟩ := q331
              obtain ⟨hu330, gu330, rfu330, ku3300, ku3301, ku3302, ku3303, ku3304⟩ := mq331
              have fu330 : fk [60, 66, 67, 68] [3, 13, 22, 28] u u330 := fk_tr fu318 gu330 (by decide) (by decide)
              obtain ⟨t332, Tt332⟩ : ∃ t, u330.1 60 7 = t := ⟨_, rfl⟩
              have Rt332 : 0 ≤ t332 ∧ t332 ≤ 8 := by rw [← Tt332]; exact iv_at hu330 _ _ rfl
              obtain ⟨t333, Tt333⟩ : ∃ t, u330.1 60 14 = t := ⟨_, rfl⟩
              have Rt333 : 0 ≤ t333 ∧ t333 ≤ 160 := by rw [← Tt333]; exact iv_at hu330 _ _ rfl
              obtain ⟨t334, Tt334⟩ : ∃ t, u330.1 60 15 = t := ⟨_, rfl⟩
              have Rt334 : 0 ≤ t334 ∧ t334 ≤ 160 := by rw [← Tt334]; exact iv_at hu330 _ _ rfl
              obtain ⟨t335, Tt335⟩ : ∃ t, u330.1 60 16 = t := ⟨_, rfl⟩
              obtain ⟨t336, Tt336⟩ : ∃ t, u330.1 60 18 = t := ⟨_, rfl⟩
              have Rt336 : 0 ≤ t336 ∧ t336 ≤ 6 := by rw [← Tt336]; exact iv_at hu330 _ _ rfl
              obtain ⟨t337, Tt337⟩ : ∃ t, u330.1 60 19 = t := ⟨_, rfl⟩
              refine g_aload_n dX7_readLine_87 rfl ?_
              refine f_X7_91 rfl rfl dX7_readLine_88 ?_
              refine g_topi (fun x338 ex338 => ?_)
              have rx338 : 0 ≤ x338 ∧ x338 ≤ 6 := by rw [ex338]; exact iv_at hu330 _ _ rfl
              have qx338 : x338 = t336 := ex338.trans Tt336
              refine g_if_ne (tgt := 112) dX7_readLine_91 (by decide) (fun c339 => ?_) (fun c339 => ?_)
              · have ST : stp u330 u330 := Or.inl ⟨by grind, rfl, rfl⟩
                refine g_aload_n dX7_readLine_112 rfl ?_
                refine cl_X7_133 (c := 60) (As := []) rfl (c_X7_next_s (G := G) hs hu330    (d + 2)) rfl (by omega) rfl rfl (Nat.le_of_ble_eq_true rfl) dX7_readLine_113 (fun r340 u341 q342 => ?_)
                obtain ⟨rfl, mq342⟩ := q342
                obtain ⟨hu341, gu341, ku3410, ku3411, ku3412, ku3413, ku3414, ku3415⟩ := mq342
                have fu341 : fk [60, 66, 67, 68] [3, 13, 22, 28] u u341 := fk_tr fu330 gu341 (by decide) (by decide)
                have rfu341 : rf u341 := rf_mono rfu330 gu341 ku3410 (by decide) (by decide) (by decide) (by decide)
                have T343 : u341.1 60 7 = t332 := (fk_at gu341 (by decide)).trans Tt332
                obtain ⟨t344, Tt344⟩ : ∃ t, u341.1 60 14 = t := ⟨_, rfl⟩
                have Rt344 : 0 ≤ t344 ∧ t344 ≤ 160 := by rw [← Tt344]; exact iv_at hu341 _ _ rfl
                obtain ⟨t345, Tt345⟩ : ∃ t, u341.1 60 15 = t := ⟨_, rfl⟩
                have Rt345 : 0 ≤ t345 ∧ t345 ≤ 160 := by rw [← Tt345]; exact iv_at hu341 _ _ rfl
                obtain ⟨t346, Tt346⟩ : ∃ t, u341.1 60 16 = t := ⟨_, rfl⟩
                obtain ⟨t347, Tt347⟩ : ∃ t, u341.1 60 18 = t := ⟨_, rfl⟩
                have Rt347 : 0 ≤ t347 ∧ t347 ≤ 6 := by rw [← Tt347]; exact iv_at hu341 _ _ rfl
                obtain ⟨t348, Tt348⟩ : ∃ t, u341.1 60 19 = t := ⟨_, rfl⟩
                have SS := Sr_stop hN ku3302 ST ⟨ku3414, fun q => ⟨(ku3415 q).2.2.2.2.1, (ku3415 q).2.2.2.2.2⟩⟩ rfl rfl rfl (fk_at gu341 (by decide)) (fk_c gu341 (by decide))
                have Y0 : u341.1 60 18 = 0 → u330.1 60 18 = 0 := fun q => by grind
                have PE : pLine f N a = pAdd (pTake f N (rsf f N (0, a.2.1, a.2.2.1, a.2.2.2.1, (tk f N a.2.2.2.2).2.2.2) x65 (u318.1 60 7)) 3 0).1 := by
                  by_cases h9 : x65 = 4
                  · rw [pLine_R (k := x65) H4 (PL.trans PQ.1) h9 (by rw [← p2]; grind), rsf_R h9]
                  · rw [pLine_M (k := x65) H4 (PL.trans PQ.1) PQ.2 (by grind) h9 (by rw [← p2]; grind)]; exact Eq.symm (rsf_M (f := f) (n := N) (b := (0, a.2.1, a.2.2.1, a.2.2.2.1, (tk f N a.2.2.2.2).2.2.2)) (k := x65) h9 Z7)
                have SL : Sr f N u341 (pLine f N a) := by rw [PE]; exact Sr_add SS
                have TL : u341.1 60 18 = 0 → u341.1 60 7 = (pLine f N a).2.2.2.1 ∧ u341.1 60 10 = (pLine f N a).2.2.1 ∧ hi9 (pLine f N a).2.2.1 (u341.1 60 11) := fun q => by
                  have ht := rsf_told (Sr_0 SS q)
                  rw [PE, ht.1, ht.2, (fk_at (c := 60) (i := 7) gu341 (by decide)), (fk_at (c := 60) (i := 10) gu341 (by decide)), (fk_at (c := 60) (i := 11) gu341 (by decide)), ku3303, Z7]
                  exact ⟨rfl, (fk_at gu330 (by decide)).trans Z10, by rw [fk_at (c := 60) (i := 11) gu330 (by decide)]; exact Z11⟩
                have RL : u341.1 60 18 = 0 → Rw u341 (wLine f N a W) := fun q => by rw [wLine_S (k := x65) (PL.trans PQ.1) (by grind)]; have h9 := ku3304 (Y0 q); rw [Z7] at h9; exact Rw_cg h9 (fk_at (c := 60) (i := 7) gu341 (by decide)) (fk_c (c := 66) gu341 (by decide)) (fk_c (c := 67) gu341 (by decide)) (fk_c (c := 68) gu341 (by decide))
                exact g_vret dX7_readLine_116 rfl ⟨rfl, hu341, fu341, rfu341, (by first | rfl | (rw [Tt347]; grind) | rw [Tt347]), (by first | rfl | (rw [Tt347, Tt345]; grind) | rw [Tt347, Tt345]), SL, TL, RL⟩
              · refine g_aload_n dX7_readLine_94 rfl ?_
                refine g_aload_n dX7_readLine_95 rfl ?_
                refine f_X7_111 rfl rfl dX7_readLine_96 ?_
                refine g_topi (fun x349 ex349 => ?_)
                have qx349 : x349 = t335 := ex349.trans Tt335
                refine g_iconst (v := 3) dX7_readLine_99 (by decide) ?_
                refine g_icmp_ne (tgt := 107) dX7_readLine_100 (by decide) (fun c350 => ?_) (fun c350 => ?_)
                · refine g_iconst (v := 0) dX7_readLine_107 (by decide) ?_
                  refine g_iconst (v := 2) dX7_readLine_108 (by decide) ?_
                  refine cl_X7_125 (c := 60) (As := [.int 0, .int 2]) rfl (c_X7_needs_s (G := G) hs hu330  0 2 (by first | trivial | decide | lia | grind) (by first | trivial | decide | lia | grind) (d + 3)) rfl (by omega) rfl rfl (Nat.le_of_ble_eq_true rfl) dX7_readLine_109 (fun r351 u352 q353 => ?_)
                  obtain ⟨rfl, mq353⟩ := q353
                  obtain ⟨hu352, gu352, ku3520, ku3521, ku3522⟩ := mq353
                  have fu352 : fk [60, 66, 67, 68] [3, 13, 22, 28] u u352 := fk_tr fu330 gu352 (by decide) (by decide)
                  have rfu352 : rf u352 := rf_mono rfu330 gu352 (fun q => (ku3520 q).1) (by decide) (by decide) (by decide) (by decide)
                  have T354 : u352.1 60 7 = t332 := (fk_at gu352 (by decide)).trans Tt332
                  have T355 : u352.1 60 14 = t333 := (fk_at gu352 (by decide)).trans Tt333
                  have T356 : u352.1 60 15 = t334 := (fk_at gu352 (by decide)).trans Tt334
                  have T357 : u352.1 60 16 = t335 := (fk_at gu352 (by decide)).trans Tt335
                  obtain ⟨t358, Tt358⟩ : ∃ t, u352.1 60 18 = t := ⟨_, rfl⟩
                  have Rt358 : 0 ≤ t358 ∧ t358 ≤ 6 := by rw [← Tt358]; exact iv_at hu352 _ _ rfl
                  obtain ⟨t359, Tt359⟩ : ∃ t, u352.1 60 19 = t := ⟨_, rfl⟩
                  have ST : stp u330 u352 := Or.inr (Or.inl ⟨by grind, by grind, by rw [Tt358]; grind, by rw [Tt359]; grind⟩)
                  refine g_aload_n dX7_readLine_112 rfl ?_
                  refine cl_X7_133 (c := 60) (As := []) rfl (c_X7_next_s (G := G) hs hu352    (d + 2)) rfl (by omega) rfl rfl (Nat.le_of_ble_eq_true rfl) dX7_readLine_113 (fun r360 u361 q362 => ?_)
                  obtain ⟨rfl, mq362⟩ := q362
                  obtain ⟨hu361, gu361, ku3610, ku3611, ku3612, ku3613, ku3614, ku3615⟩ := mq362
                  have fu361 : fk [60, 66, 67, 68] [3, 13, 22, 28] u u361 := fk_tr fu352 gu361 (by decide) (by decide)
                  have rfu361 : rf u361 := rf_mono rfu352 gu361 ku3610 (by decide) (by decide) (by decide) (by decide)
                  have T363 : u361.1 60 7 = t332 := (fk_at gu361 (by decide)).trans T354
                  obtain ⟨t364, Tt364⟩ : ∃ t, u361.1 60 14 = t := ⟨_, rfl⟩
                  have Rt364 : 0 ≤ t364 ∧ t364 ≤ 160 := by rw [← Tt364]; exact iv_at hu361 _ _ rfl
                  obtain ⟨t365, Tt365⟩ : ∃ t, u361.1 60 15 = t := ⟨_, rfl⟩
                  have Rt365 : 0 ≤ t365 ∧ t365 ≤ 160 := by rw [← Tt365]; exact iv_at hu361 _ _ rfl
                  obtain ⟨t366, Tt366⟩ : ∃ t, u361.1 60 16 = t := ⟨_, rfl⟩
                  obtain ⟨t367, Tt367⟩ : ∃ t, u361.1 60 18 = t := ⟨_, rfl⟩
                  have Rt367 : 0 ≤ t367 ∧ t367 ≤ 6 := by rw [← Tt367]; exact iv_at hu361 _ _ rfl
                  obtain ⟨t368, Tt368⟩ : ∃ t, u361.1 60 19 = t := ⟨_, rfl⟩
                  have SS := Sr_stop hN ku3302 ST ⟨ku3614, fun q => ⟨(ku3615 q).2.2.2.2.1, (ku3615 q).2.2.2.2.2⟩⟩ (fk_at gu352 (by decide)) (fk_at gu352 (by decide)) (fk_c gu352 (by decide)) (fk_at gu361 (by decide)) (fk_c gu361 (by decide))
                  have Y0 : u361.1 60 18 = 0 → u330.1 60 18 = 0 := fun q => by grind
                  have PE : pLine f N a = pAdd (pTake f N (rsf f N (0, a.2.1, a.2.2.1, a.2.2.2.1, (tk f N a.2.2.2.2).2.2.2) x65 (u318.1 60 7)) 3 0).1 := by
                    by_cases h9 : x65 = 4
                    · rw [pLine_R (k := x65) H4 (PL.trans PQ.1) h9 (by rw [← p2]; grind), rsf_R h9]
                    · rw [pLine_M (k := x65) H4 (PL.trans PQ.1) PQ.2 (by grind) h9 (by rw [← p2]; grind)]; exact Eq.symm (rsf_M (f := f) (n := N) (b := (0, a.2.1, a.2.2.1, a.2.2.2.1, (tk f N a.2.2.2.2).2.2.2)) (k := x65) h9 Z7)
                  have SL : Sr f N u361 (pLine f N a) := by rw [PE]; exact Sr_add SS
                  have TL : u361.1 60 18 = 0 → u361.1 60 7 = (pLine f N a).2.2.2.1 ∧ u361.1 60 10 = (pLine f N a).2.2.1 ∧ hi9 (pLine f N a).2.2.1 (u361.1 60 11) := fun q => by
                    have ht := rsf_told (Sr_0 SS q)
                    rw [PE, ht.1, ht.2, ((fk_at (c := 60) (i := 7) gu361 (by decide)).trans (fk_at (c := 60) (i := 7) gu352 (by decide))), ((fk_at (c := 60) (i := 10) gu361 (by decide)).trans (fk_at (c := 60) (i := 10) gu352 (by decide))), ((fk_at (c := 60) (i := 11) gu361 (by decide)).trans (fk_at (c := 60) (i := 11) gu352 (by decide))), ku3303, Z7]
                    exact ⟨rfl, (fk_at gu330 (by decide)).trans Z10, by rw [fk_at (c := 60) (i := 11) gu330 (by decide)]; exact Z11⟩
                  have RL : u361.1 60 18 = 0 → Rw u361 (wLine f N a W) := fun q => by rw [wLine_S (k := x65) (PL.trans PQ.1) (by grind)]; have h9 := ku3304 (Y0 q); rw [Z7] at h9; exact Rw_cg h9 ((fk_at (c := 60) (i := 7) gu361 (by decide)).trans (fk_at (c := 60) (i := 7) gu352 (by decide))) ((fk_c (c := 66) gu361 (by decide)).trans (fk_c (c := 66) gu352 (by decide))) ((fk_c (c := 67) gu361 (by decide)).trans (fk_c (c := 67) gu352 (by decide))) ((fk_c (c := 68) gu361 (by decide)).trans (fk_c (c := 68) gu352 (by decide)))
                  exact g_vret dX7_readLine_116 rfl ⟨rfl, hu361, fu361, rfu361, (by first | rfl | (rw [Tt367]; grind) | rw [Tt367]), (by first | rfl | (rw [Tt367, Tt365]; grind) | rw [Tt367, Tt365]), SL, TL, RL⟩
                · refine g_iconst (v := 1) dX7_readLine_103 (by decide) ?_
                  refine g_goto (tgt := 108) dX7_readLine_104 (by decide) ?_
                  refine g_iconst (v := 2) dX7_readLine_108 (by decide) ?_
                  refine cl_X7_125 (c := 60) (As := [.int 1, .int 2]) rfl (c_X7_needs_s (G := G) hs hu330  1 2 (by first | trivial | decide | lia | grind) (by first | trivial | decide | lia | grind) (d + 3)) rfl (by omega) rfl rfl (Nat.le_of_ble_eq_true rfl) dX7_readLine_109 (fun r369 u370 q371 => ?_)
                  obtain ⟨rfl, mq371⟩ := q371
                  obtain ⟨hu370, gu370, ku3700, ku3701, ku3702⟩ := mq371
                  have fu370 : fk [60, 66, 67, 68] [3, 13, 22, 28] u u370 := fk_tr fu330 gu370 (by decide) (by decide)
                  have rfu370 : rf u370 := rf_mono rfu330 gu370 (fun q => (ku3700 q).1) (by decide) (by decide) (by decide) (by decide)
                  have T372 : u370.1 60 7 = t332 := (fk_at gu370 (by decide)).trans Tt332
                  have T373 : u370.1 60 14 = t333 := (fk_at gu370 (by decide)).trans Tt333
                  have T374 : u370.1 60 15 = t334 := (fk_at gu370 (by decide)).trans Tt334
                  have T375 : u370.1 60 16 = t335 := (fk_at gu370 (by decide)).trans Tt335
                  obtain ⟨t376, Tt376⟩ : ∃ t, u370.1 60 18 = t := ⟨_, rfl⟩
                  have Rt376 : 0 ≤ t376 ∧ t376 ≤ 6 := by rw [← Tt376]; exact iv_at hu370 _ _ rfl
                  obtain ⟨t377, Tt377⟩ : ∃ t, u370.1 60 19 = t := ⟨_, rfl⟩
                  have ST : stp u330 u370 := Or.inr (Or.inr ⟨by grind, by grind, by rw [Tt376]; grind⟩)
                  refine g_aload_n dX7_readLine_112 rfl ?_
                  refine cl_X7_133 (c := 60) (As := []) rfl (c_X7_next_s (G := G) hs hu370    (d + 2)) rfl (by omega) rfl rfl (Nat.le_of_ble_eq_true rfl) dX7_readLine_113 (fun r378 u379 q380 => ?_)
                  obtain ⟨rfl, mq380⟩ := q380
                  obtain ⟨hu379, gu379, ku3790, ku3791, ku3792, ku3793, ku3794, ku3795⟩ := mq380
                  have fu379 : fk [60, 66, 67, 68] [3, 13, 22, 28] u u379 := fk_tr fu370 gu379 (by decide) (by decide)
                  have rfu379 : rf u379 := rf_mono rfu370 gu379 ku3790 (by decide) (by decide) (by decide) (by decide)
                  have T381 : u379.1 60 7 = t332 := (fk_at gu379 (by decide)).trans T372
                  obtain ⟨t382, Tt382⟩ : ∃ t, u379.1 60 14 = t := ⟨_, rfl⟩
                  have Rt382 : 0 ≤ t382 ∧ t382 ≤ 160 := by rw [← Tt382]; exact iv_at hu379 _ _ rfl
                  obtain ⟨t383, Tt383⟩ : ∃ t, u379.1 60 15 = t := ⟨_, rfl⟩
                  have Rt383 : 0 ≤ t383 ∧ t383 ≤ 160 := by rw [← Tt383]; exact iv_at hu379 _ _ rfl
                  obtain ⟨t384, Tt384⟩ : ∃ t, u379.1 60 16 = t := ⟨_, rfl⟩
                  obtain ⟨t385, Tt385⟩ : ∃ t, u379.1 60 18 = t := ⟨_, rfl⟩
                  have Rt385 : 0 ≤ t385 ∧ t385 ≤ 6 := by rw [← Tt385]; exact iv_at hu379 _ _ rfl
                  obtain ⟨t386, Tt386⟩ : ∃ t, u379.1 60 19 = t := ⟨_, rfl⟩
                  have SS := Sr_stop hN ku3302 ST ⟨ku3794, fun q => ⟨(ku3795 q).2.2.2.2.1, (ku3795 q).2.2.2.2.2⟩⟩ (fk_at gu370 (by decide)) (fk_at gu370 (by decide)) (fk_c gu370 (by decide)) (fk_at gu379 (by decide)) (fk_c gu379 (by decide))
                  have Y0 : u379.1 60 18 = 0 → u330.1 60 18 = 0 := fun q => by grind
                  have PE : pLine f N a = pAdd (pTake f N (rsf f N (0, a.2.1, a.2.2.1, a.2.2.2.1, (tk f N a.2.2.2.2).2.2.2) x65 (u318.1 60 7)) 3 0).1 := by
                    by_cases h9 : x65 = 4
                    · rw [pLine_R (k := x65) H4 (PL.trans PQ.1) h9 (by rw [← p2]; grind), rsf_R h9]
                    · rw [pLine_M (k := x65) H4 (PL.trans PQ.1) PQ.2 (by grind) h9 (by rw [← p2]; grind)]; exact Eq.symm (rsf_M (f := f) (n := N) (b := (0, a.2.1, a.2.2.1, a.2.2.2.1, (tk f N a.2.2.2.2).2.2.2)) (k := x65) h9 Z7)
                  have SL : Sr f N u379 (pLine f N a) := by rw [PE]; exact Sr_add SS
                  have TL : u379.1 60 18 = 0 → u379.1 60 7 = (pLine f N a).2.2.2.1 ∧ u379.1 60 10 = (pLine f N a).2.2.1 ∧ hi9 (pLine f N a).2.2.1 (u379.1 60 11) := fun q => by
                    have ht := rsf_told (Sr_0 SS q)
                    rw [PE, ht.1, ht.2, ((fk_at (c := 60) (i := 7) gu379 (by decide)).trans (fk_at (c := 60) (i := 7) gu370 (by decide))), ((fk_at (c := 60) (i := 10) gu379 (by decide)).trans (fk_at (c := 60) (i := 10) gu370 (by decide))), ((fk_at (c := 60) (i := 11) gu379 (by decide)).trans (fk_at (c := 60) (i := 11) gu370 (by decide))), ku3303, Z7]
                    exact ⟨rfl, (fk_at gu330 (by decide)).trans Z10, by rw [fk_at (c := 60) (i := 11) gu330 (by decide)]; exact Z11⟩
                  have RL : u379.1 60 18 = 0 → Rw u379 (wLine f N a W) := fun q => by rw [wLine_S (k := x65) (PL.trans PQ.1) (by grind)]; have h9 := ku3304 (Y0 q); rw [Z7] at h9; exact Rw_cg h9 ((fk_at (c := 60) (i := 7) gu379 (by decide)).trans (fk_at (c := 60) (i := 7) gu370 (by decide))) ((fk_c (c := 66) gu379 (by decide)).trans (fk_c (c := 66) gu370 (by decide))) ((fk_c (c := 67) gu379 (by decide)).trans (fk_c (c := 67) gu370 (by decide))) ((fk_c (c := 68) gu379 (by decide)).trans (fk_c (c := 68) gu370 (by decide)))
                  exact g_vret dX7_readLine_116 rfl ⟨rfl, hu379, fu379, rfu379, (by first | rfl | (rw [Tt385]; grind) | rw [Tt385]), (by first | rfl | (rw [Tt385, Tt383]; grind) | rw [Tt385, Tt383]), SL, TL, RL⟩
            · refine g_aload_n dX7_readLine_75 rfl ?_
              refine cl_X7_143 (c := 60) (As := []) rfl (c_X7_readHave_t (G := G) hs hu318 rfu318  f N (0, a.2.1, a.2.2.1, a.2.2.2.1, (tk f N a.2.2.2.2).2.2.2) W SN F3 Z10 Z11 RV (d)) rfl (by omega) rfl rfl (Nat.le_of_ble_eq_true rfl) dX7_readLine_76 (fun r387 u388 q389 => ?_)
              obtain ⟨rfl, mq389⟩ := q389
              obtain ⟨hu388, gu388, rfu388, ku3880, ku3881, ku3882, ku3883, ku3884⟩ := mq389
              have fu388 : fk [60, 66, 67, 68] [3, 13, 22, 28] u u388 := fk_tr fu318 gu388 (by decide) (by decide)
              have T390 : u388.1 60 7 = t1 := (fk_at gu388 (by decide)).trans T320
              obtain ⟨t391, Tt391⟩ : ∃ t, u388.1 60 14 = t := ⟨_, rfl⟩
              have Rt391 : 0 ≤ t391 ∧ t391 ≤ 160 := by rw [← Tt391]; exact iv_at hu388 _ _ rfl
              obtain ⟨t392, Tt392⟩ : ∃ t, u388.1 60 15 = t := ⟨_, rfl⟩
              have Rt392 : 0 ≤ t392 ∧ t392 ≤ 160 := by rw [← Tt392]; exact iv_at hu388 _ _ rfl
              obtain ⟨t393, Tt393⟩ : ∃ t, u388.1 60 16 = t := ⟨_, rfl⟩
              obtain ⟨t394, Tt394⟩ : ∃ t, u388.1 60 18 = t := ⟨_, rfl⟩
              have Rt394 : 0 ≤ t394 ∧ t394 ≤ 6 := by rw [← Tt394]; exact iv_at hu388 _ _ rfl
              obtain ⟨t395, Tt395⟩ : ∃ t, u388.1 60 19 = t := ⟨_, rfl⟩
              refine g_goto (tgt := 87) dX7_readLine_79 (by decide) ?_
              refine g_aload_n dX7_readLine_87 rfl ?_
              refine f_X7_91 rfl rfl dX7_readLine_88 ?_
              refine g_topi (fun x396 ex396 => ?_)
              have rx396 : 0 ≤ x396 ∧ x396 ≤ 6 := by rw [ex396]; exact iv_at hu388 _ _ rfl
              have qx396 : x396 = t394 := ex396.trans Tt394
              refine g_if_ne (tgt := 112) dX7_readLine_91 (by decide) (fun c397 => ?_) (fun c397 => ?_)
              · have ST : stp u388 u388 := Or.inl ⟨by grind, rfl, rfl⟩
                refine g_aload_n dX7_readLine_112 rfl ?_
                refine cl_X7_133 (c := 60) (As := []) rfl (c_X7_next_s (G := G) hs hu388    (d + 2)) rfl (by omega) rfl rfl (Nat.le_of_ble_eq_true rfl) dX7_readLine_113 (fun r398 u399 q400 => ?_)
                obtain ⟨rfl, mq400⟩ := q400
                obtain ⟨hu399, gu399, ku3990, ku3991, ku3992, ku3993, ku3994, ku3995⟩ := mq400
                have fu399 : fk [60, 66, 67, 68] [3, 13, 22, 28] u u399 := fk_tr fu388 gu399 (by decide) (by decide)
                have rfu399 : rf u399 := rf_mono rfu388 gu399 ku3990 (by decide) (by decide) (by decide) (by decide)
                have T401 : u399.1 60 7 = t1 := (fk_at gu399 (by decide)).trans T390
                obtain ⟨t402, Tt402⟩ : ∃ t, u399.1 60 14 = t := ⟨_, rfl⟩
                have Rt402 : 0 ≤ t402 ∧ t402 ≤ 160 := by rw [← Tt402]; exact iv_at hu399 _ _ rfl
                obtain ⟨t403, Tt403⟩ : ∃ t, u399.1 60 15 = t := ⟨_, rfl⟩
                have Rt403 : 0 ≤ t403 ∧ t403 ≤ 160 := by rw [← Tt403]; exact iv_at hu399 _ _ rfl
                obtain ⟨t404, Tt404⟩ : ∃ t, u399.1 60 16 = t := ⟨_, rfl⟩
                obtain ⟨t405, Tt405⟩ : ∃ t, u399.1 60 18 = t := ⟨_, rfl⟩
                have Rt405 : 0 ≤ t405 ∧ t405 ≤ 6 := by rw [← Tt405]; exact iv_at hu399 _ _ rfl
                obtain ⟨t406, Tt406⟩ : ∃ t, u399.1 60 19 = t := ⟨_, rfl⟩
                have SS := Sr_stop hN ku3882 ST ⟨ku3994, fun q => ⟨(ku3995 q).2.2.2.2.1, (ku3995 q).2.2.2.2.2⟩⟩ rfl rfl rfl (fk_at gu399 (by decide)) (fk_c gu399 (by decide))
                have Y0 : u399.1 60 18 = 0 → u388.1 60 18 = 0 := fun q => by grind
                have SL : Sr f N u399 (pLine f N a) := by rw [pLine_H (k := x65) H4 (PL.trans PQ.1) (by grind)]; exact Sr_tell SS
                have TL : u399.1 60 18 = 0 → u399.1 60 7 = (pLine f N a).2.2.2.1 ∧ u399.1 60 10 = (pLine f N a).2.2.1 ∧ hi9 (pLine f N a).2.2.1 (u399.1 60 11) := fun q => by
                  have ht := have_told (Sr_0 SS q)
                  have h3 := ku3883 (Y0 q)
                  rw [pLine_H (k := x65) H4 (PL.trans PQ.1) (by grind), ht.1, ht.2, (fk_at (c := 60) (i := 7) gu399 (by decide)), (fk_at (c := 60) (i := 10) gu399 (by decide)), (fk_at (c := 60) (i := 11) gu399 (by decide)), h3.1]
                  exact ⟨(fk_at gu388 (by decide)).trans Z7, rfl, h3.2⟩
                have RL : u399.1 60 18 = 0 → Rw u399 (wLine f N a W) := fun q => by rw [wLine_H (k := x65) (PL.trans PQ.1) (by grind)]; exact Rw_cg (ku3884 (Y0 q)) (fk_at (c := 60) (i := 7) gu399 (by decide)) (fk_c (c := 66) gu399 (by decide)) (fk_c (c := 67) gu399 (by decide)) (fk_c (c := 68) gu399 (by decide))
                exact g_vret dX7_readLine_116 rfl ⟨rfl, hu399, fu399, rfu399, (by first | rfl | (rw [Tt405]; grind) | rw [Tt405]), (by first | rfl | (rw [Tt405, Tt403]; grind) | rw [Tt405, Tt403]), SL, TL, RL⟩
              · refine g_aload_n dX7_readLine_94 rfl ?_
                refine g_aload_n dX7_readLine_95 rfl ?_
                refine f_X7_111 rfl rfl dX7_readLine_96 ?_
                refine g_topi (fun x407 ex407 => ?_)
                have qx407 : x407 = t393 := ex407.trans Tt393
                refine g_iconst (v := 3) dX7_readLine_99 (by decide) ?_
                refine g_icmp_ne (tgt := 107) dX7_readLine_100 (by decide) (fun c408 => ?_) (fun c408 => ?_)
                · refine g_iconst (v := 0) dX7_readLine_107 (by decide) ?_
                  refine g_iconst (v := 2) dX7_readLine_108 (by decide) ?_
                  refine cl_X7_125 (c := 60) (As := [.int 0, .int 2]) rfl (c_X7_needs_s (G := G) hs hu388  0 2 (by first | trivial | decide | lia | grind) (by first | trivial | decide | lia | grind) (d + 3)) rfl (by omega) rfl rfl (Nat.le_of_ble_eq_true rfl) dX7_readLine_109 (fun r409 u410 q411 => ?_)
                  obtain ⟨rfl, mq411⟩ := q411
                  obtain ⟨hu410, gu410, ku4100, ku4101, ku4102⟩ := mq411
                  have fu410 : fk [60, 66, 67, 68] [3, 13, 22, 28] u u410 := fk_tr fu388 gu410 (by decide) (by decide)
                  have rfu410 : rf u410 := rf_mono rfu388 gu410 (fun q => (ku4100 q).1) (by decide) (by decide) (by decide) (by decide)
                  have T412 : u410.1 60 7 = t1 := (fk_at gu410 (by decide)).trans T390
                  have T413 : u410.1 60 14 = t391 := (fk_at gu410 (by decide)).trans Tt391
                  have T414 : u410.1 60 15 = t392 := (fk_at gu410 (by decide)).trans Tt392
                  have T415 : u410.1 60 16 = t393 := (fk_at gu410 (by decide)).trans Tt393
                  obtain ⟨t416, Tt416⟩ : ∃ t, u410.1 60 18 = t := ⟨_, rfl⟩
                  have Rt416 : 0 ≤ t416 ∧ t416 ≤ 6 := by rw [← Tt416]; exact iv_at hu410 _ _ rfl
                  obtain ⟨t417, Tt417⟩ : ∃ t, u410.1 60 19 = t := ⟨_, rfl⟩
                  have ST : stp u388 u410 := Or.inr (Or.inl ⟨by grind, by grind, by rw [Tt416]; grind, by rw [Tt417]; grind⟩)
                  refine g_aload_n dX7_readLine_112 rfl ?_
                  refine cl_X7_133 (c := 60) (As := []) rfl (c_X7_next_s (G := G) hs hu410    (d + 2)) rfl (by omega) rfl rfl (Nat.le_of_ble_eq_true rfl) dX7_readLine_113 (fun r418 u419 q420 => ?_)
                  obtain ⟨rfl, mq420⟩ := q420
                  obtain ⟨hu419, gu419, ku4190, ku4191, ku4192, ku4193, ku4194, ku4195⟩ := mq420
                  have fu419 : fk [60, 66, 67, 68] [3, 13, 22, 28] u u419 := fk_tr fu410 gu419 (by decide) (by decide)
                  have rfu419 : rf u419 := rf_mono rfu410 gu419 ku4190 (by decide) (by decide) (by decide) (by decide)
                  have T421 : u419.1 60 7 = t1 := (fk_at gu419 (by decide)).trans T412
                  obtain ⟨t422, Tt422⟩ : ∃ t, u419.1 60 14 = t := ⟨_, rfl⟩
                  have Rt422 : 0 ≤ t422 ∧ t422 ≤ 160 := by rw [← Tt422]; exact iv_at hu419 _ _ rfl
                  obtain ⟨t423, Tt423⟩ : ∃ t, u419.1 60 15 = t := ⟨_, rfl⟩
                  have Rt423 : 0 ≤ t423 ∧ t423 ≤ 160 := by rw [← Tt423]; exact iv_at hu419 _ _ rfl
                  obtain ⟨t424, Tt424⟩ : ∃ t, u419.1 60 16 = t := ⟨_, rfl⟩
                  obtain ⟨t425, Tt425⟩ : ∃ t, u419.1 60 18 = t := ⟨_, rfl⟩
                  have Rt425 : 0 ≤ t425 ∧ t425 ≤ 6 := by rw [← Tt425]; exact iv_at hu419 _ _ rfl
                  obtain ⟨t426, Tt426⟩ : ∃ t, u419.1 60 19 = t := ⟨_, rfl⟩
                  have SS := Sr_stop hN ku3882 ST ⟨ku4194, fun q => ⟨(ku4195 q).2.2.2.2.1, (ku4195 q).2.2.2.2.2⟩⟩ (fk_at gu410 (by decide)) (fk_at gu410 (by decide)) (fk_c gu410 (by decide)) (fk_at gu419 (by decide)) (fk_c gu419 (by decide))
                  have Y0 : u419.1 60 18 = 0 → u388.1 60 18 = 0 := fun q => by grind
                  have SL : Sr f N u419 (pLine f N a) := by rw [pLine_H (k := x65) H4 (PL.trans PQ.1) (by grind)]; exact Sr_tell SS
                  have TL : u419.1 60 18 = 0 → u419.1 60 7 = (pLine f N a).2.2.2.1 ∧ u419.1 60 10 = (pLine f N a).2.2.1 ∧ hi9 (pLine f N a).2.2.1 (u419.1 60 11) := fun q => by
                    have ht := have_told (Sr_0 SS q)
                    have h3 := ku3883 (Y0 q)
                    rw [pLine_H (k := x65) H4 (PL.trans PQ.1) (by grind), ht.1, ht.2, ((fk_at (c := 60) (i := 7) gu419 (by decide)).trans (fk_at (c := 60) (i := 7) gu410 (by decide))), ((fk_at (c := 60) (i := 10) gu419 (by decide)).trans (fk_at (c := 60) (i := 10) gu410 (by decide))), ((fk_at (c := 60) (i := 11) gu419 (by decide)).trans (fk_at (c := 60) (i := 11) gu410 (by decide))), h3.1]
                    exact ⟨(fk_at gu388 (by decide)).trans Z7, rfl, h3.2⟩
                  have RL : u419.1 60 18 = 0 → Rw u419 (wLine f N a W) := fun q => by rw [wLine_H (k := x65) (PL.trans PQ.1) (by grind)]; exact Rw_cg (ku3884 (Y0 q)) ((fk_at (c := 60) (i := 7) gu419 (by decide)).trans (fk_at (c := 60) (i := 7) gu410 (by decide))) ((fk_c (c := 66) gu419 (by decide)).trans (fk_c (c := 66) gu410 (by decide))) ((fk_c (c := 67) gu419 (by decide)).trans (fk_c (c := 67) gu410 (by decide))) ((fk_c (c := 68) gu419 (by decide)).trans (fk_c (c := 68) gu410 (by decide)))
                  exact g_vret dX7_readLine_116 rfl ⟨rfl, hu419, fu419, rfu419, (by first | rfl | (rw [Tt425]; grind) | rw [Tt425]), (by first | rfl | (rw [Tt425, Tt423]; grind) | rw [Tt425, Tt423]), SL, TL, RL⟩
                · refine g_iconst (v := 1) dX7_readLine_103 (by decide) ?_
                  refine g_goto (tgt := 108) dX7_readLine_104 (by decide) ?_
                  refine g_iconst (v := 2) dX7_readLine_108 (by decide) ?_
                  refine cl_X7_125 (c := 60) (As := [.int 1, .int 2]) rfl (c_X7_needs_s (G := G) hs hu388  1 2 (by first | trivial | decide | lia | grind) (by first | trivial | decide | lia | grind) (d + 3)) rfl (by omega) rfl rfl (Nat.le_of_ble_eq_true rfl) dX7_readLine_109 (fun r427 u428 q429 => ?_)
                  obtain ⟨rfl, mq429⟩ := q429
                  obtain ⟨hu428, gu428, ku4280, ku4281, ku4282⟩ := mq429
                  have fu428 : fk [60, 66, 67, 68] [3, 13, 22, 28] u u428 := fk_tr fu388 gu428 (by decide) (by decide)
                  have rfu428 : rf u428 := rf_mono rfu388 gu428 (fun q => (ku4280 q).1) (by decide) (by decide) (by decide) (by decide)
                  have T430 : u428.1 60 7 = t1 := (fk_at gu428 (by decide)).trans T390
                  have T431 : u428.1 60 14 = t391 := (fk_at gu428 (by decide)).trans Tt391
                  have T432 : u428.1 60 15 = t392 := (fk_at gu428 (by decide)).trans Tt392
                  have T433 : u428.1 60 16 = t393 := (fk_at gu428 (by decide)).trans Tt393
                  obtain ⟨t434, Tt434⟩ : ∃ t, u428.1 60 18 = t := ⟨_, rfl⟩
                  have Rt434 : 0 ≤ t434 ∧ t434 ≤ 6 := by rw [← Tt434]; exact iv_at hu428 _ _ rfl
                  obtain ⟨t435, Tt435⟩ : ∃ t, u428.1 60 19 = t := ⟨_, rfl⟩
                  have ST : stp u388 u428 := Or.inr (Or.inr ⟨by grind, by grind, by rw [Tt434]; grind⟩)
                  refine g_aload_n dX7_readLine_112 rfl ?_
                  refine cl_X7_133 (c := 60) (As := []) rfl (c_X7_next_s (G := G) hs hu428    (d + 2)) rfl (by omega) rfl rfl (Nat.le_of_ble_eq_true rfl) dX7_readLine_113 (fun r436 u437 q438 => ?_)
                  obtain ⟨rfl, mq438⟩ := q438
                  obtain ⟨hu437, gu437, ku4370, ku4371, ku4372, ku4373, ku4374, ku4375⟩ := mq438
                  have fu437 : fk [60, 66, 67, 68] [3, 13, 22, 28] u u437 := fk_tr fu428 gu437 (by decide) (by decide)
                  have rfu437 : rf u437 := rf_mono rfu428 gu437 ku4370 (by decide) (by decide) (by decide) (by decide)
                  have T439 : u437.1 60 7 = t1 := (fk_at gu437 (by decide)).trans T430
                  obtain ⟨t440, Tt440⟩ : ∃ t, u437.1 60 14 = t := ⟨_, rfl⟩
                  have Rt440 : 0 ≤ t440 ∧ t440 ≤ 160 := by rw [← Tt440]; exact iv_at hu437 _ _ rfl
                  obtain ⟨t441, Tt441⟩ : ∃ t, u437.1 60 15 = t := ⟨_, rfl⟩
                  have Rt441 : 0 ≤ t441 ∧ t441 ≤ 160 := by rw [← Tt441]; exact iv_at hu437 _ _ rfl
                  obtain ⟨t442, Tt442⟩ : ∃ t, u437.1 60 16 = t := ⟨_, rfl⟩
                  obtain ⟨t443, Tt443⟩ : ∃ t, u437.1 60 18 = t := ⟨_, rfl⟩
                  have Rt443 : 0 ≤ t443 ∧ t443 ≤ 6 := by rw [← Tt443]; exact iv_at hu437 _ _ rfl
                  obtain ⟨t444, Tt444⟩ : ∃ t, u437.1 60 19 = t := ⟨_, rfl⟩
                  have SS := Sr_stop hN ku3882 ST ⟨ku4374, fun q => ⟨(ku4375 q).2.2.2.2.1, (ku4375 q).2.2.2.2.2⟩⟩ (fk_at gu428 (by decide)) (fk_at gu428 (by decide)) (fk_c gu428 (by decide)) (fk_at gu437 (by decide)) (fk_c gu437 (by decide))
                  have Y0 : u437.1 60 18 = 0 → u388.1 60 18 = 0 := fun q => by grind
                  have SL : Sr f N u437 (pLine f N a) := by rw [pLine_H (k := x65) H4 (PL.trans PQ.1) (by grind)]; exact Sr_tell SS
                  have TL : u437.1 60 18 = 0 → u437.1 60 7 = (pLine f N a).2.2.2.1 ∧ u437.1 60 10 = (pLine f N a).2.2.1 ∧ hi9 (pLine f N a).2.2.1 (u437.1 60 11) := fun q => by
                    have ht := have_told (Sr_0 SS q)
                    have h3 := ku3883 (Y0 q)
                    rw [pLine_H (k := x65) H4 (PL.trans PQ.1) (by grind), ht.1, ht.2, ((fk_at (c := 60) (i := 7) gu437 (by decide)).trans (fk_at (c := 60) (i := 7) gu428 (by decide))), ((fk_at (c := 60) (i := 10) gu437 (by decide)).trans (fk_at (c := 60) (i := 10) gu428 (by decide))), ((fk_at (c := 60) (i := 11) gu437 (by decide)).trans (fk_at (c := 60) (i := 11) gu428 (by decide))), h3.1]
                    exact ⟨(fk_at gu388 (by decide)).trans Z7, rfl, h3.2⟩
                  have RL : u437.1 60 18 = 0 → Rw u437 (wLine f N a W) := fun q => by rw [wLine_H (k := x65) (PL.trans PQ.1) (by grind)]; exact Rw_cg (ku3884 (Y0 q)) ((fk_at (c := 60) (i := 7) gu437 (by decide)).trans (fk_at (c := 60) (i := 7) gu428 (by decide))) ((fk_c (c := 66) gu437 (by decide)).trans (fk_c (c := 66) gu428 (by decide))) ((fk_c (c := 67) gu437 (by decide)).trans (fk_c (c := 67) gu428 (by decide))) ((fk_c (c := 68) gu437 (by decide)).trans (fk_c (c := 68) gu428 (by decide)))
                  exact g_vret dX7_readLine_116 rfl ⟨rfl, hu437, fu437, rfu437, (by first | rfl | (rw [Tt443]; grind) | rw [Tt443]), (by first | rfl | (rw [Tt443, Tt441]; grind) | rw [Tt443, Tt441]), SL, TL, RL⟩
          · have S4 := Sr_4 hN SN rfl (by grind)
            have SL : Sr f N u318 (pLine f N a) := by rw [pLine_e (k := x65) H4 (PL.trans PQ.1) PQ.2 (by rw [← p2]; grind) S4.1]; exact S4.2
            exact g_vret dX7_readLine_69 rfl ⟨rfl, hu318, fu318, rfu318, (by first | rfl | (rw [Tt324]; grind) | rw [Tt324]), (by first | rfl | (rw [Tt324, Tt322]; grind) | rw [Tt324, Tt322]), SL, (fun q => by exfalso; grind), (fun q => by exfalso; grind)⟩
