abbrev q_X7_firstDraft_s (u : uk_Mem)  (r : Option Value) (u' : uk_Mem) : Prop := (r = none) ∧ (iv u' ∧ fk [60, 66] [3, 13, 14, 15, 16, 17, 18, 19, 22, 28] u u' ∧ rf u' ∧ u'.1 60 7 = 0 ∧ u'.1 60 10 = 0 ∧ u'.1 60 11 = -4)
set_option maxHeartbeats 4000000 in
set_option maxRecDepth 20000 in
theorem c_X7_firstDraft_s {G : uk_D} (hs : uk_Sep G) {u : uk_Mem} (hu : iv u)  (d : Nat) : uk_Meth G d mX7_firstDraft [.ref (uk_ad G 60)] u (q_X7_firstDraft_s u) := by
  refine uk_Meth.of hs (by decide) (Nat.le_of_ble_eq_true rfl) (fun X => ?_)
  have f0 : fk [60, 66] [3, 13, 14, 15, 16, 17, 18, 19, 22, 28] u u := fk_rf
  refine g_iconst (v := 0) dX7_firstDraft_0 (by decide) ?_
  refine g_istore_n dX7_firstDraft_1 (by decide) ?_
  have L2_0 : ∀ i2 : Int32, 0 ≤ i2 → i2 ≤ 51 → ∀ (u3 : uk_Mem), iv u3 → fk [60, 66] [3, 13, 14, 15, 16, 17, 18, 19, 22, 28] u u3 → uk_G G X mX7_firstDraft d (q_X7_firstDraft_s u) 2 [(0, .ref (uk_ad G 60)), (1, .int i2)] [] u3 := by
    refine uk_upl 51 ?_
    intro i2 ai2 bi2 ihi2  u3 hu3 fu3
    refine g_iload_n dX7_firstDraft_2 rfl ?_
    refine g_bipush (v := 51) dX7_firstDraft_3 (by decide) ?_
    refine g_icmp_ge (tgt := 21) dX7_firstDraft_5 (by decide) (fun c4 => ?_) (fun c4 => ?_)
    · refine g_aload_n dX7_firstDraft_21 rfl ?_
      refine g_iconst (v := 0) dX7_firstDraft_22 (by decide) ?_
      refine p_X7_69 rfl rfl dX7_firstDraft_23 ?_
      refine g_mem (fun u5 eu5 => ?_)
      have hu5 : iv u5 := by rw [eu5]; exact iv_up hu3 rfl (by first | lia | grind) (by first | lia | grind)
      have fu5 : fk [60, 66] [3, 13, 14, 15, 16, 17, 18, 19, 22, 28] u u5 := by rw [eu5]; exact fk_up fu3 (by decide) (fun _ => by decide)
      have s6 : u5.1 60 7 = 0 := by rw [eu5, uk_up_at]; exact if_pos ⟨rfl, rfl⟩
      refine g_aload_n dX7_firstDraft_26 rfl ?_
      refine g_iconst (v := 0) dX7_firstDraft_27 (by decide) ?_
      refine p_X7_73 rfl rfl dX7_firstDraft_28 ?_
      refine g_mem (fun u7 eu7 => ?_)
      have hu7 : iv u7 := by rw [eu7]; exact iv_upF hu5 rfl
      have fu7 : fk [60, 66] [3, 13, 14, 15, 16, 17, 18, 19, 22, 28] u u7 := by rw [eu7]; exact fk_up fu5 (by decide) (fun _ => by decide)
      have s8 : u7.1 60 10 = 0 := by rw [eu7, uk_up_at]; exact if_pos ⟨rfl, rfl⟩
      refine g_aload_n dX7_firstDraft_31 rfl ?_
      refine g_bipush (v := (-4)) dX7_firstDraft_32 (by decide) ?_
      refine p_X7_76 rfl rfl dX7_firstDraft_34 ?_
      refine g_mem (fun u9 eu9 => ?_)
      have hu9 : iv u9 := by rw [eu9]; exact iv_upF hu7 rfl
      have fu9 : fk [60, 66] [3, 13, 14, 15, 16, 17, 18, 19, 22, 28] u u9 := by rw [eu9]; exact fk_up fu7 (by decide) (fun _ => by decide)
      have s10 : u9.1 60 11 = (-4) := by rw [eu9, uk_up_at]; exact if_pos ⟨rfl, rfl⟩
      exact g_vret dX7_firstDraft_37 rfl ⟨rfl, hu9, fu9, (fun _ => rd_0 (by grind [uk_up_at])), (by grind [uk_up_at]), (by grind [uk_up_at]), (by grind [uk_up_at])⟩
    · refine g_aload_n dX7_firstDraft_8 rfl ?_
      refine f_X7_26 rfl rfl dX7_firstDraft_9 ?_
      refine g_iload_n dX7_firstDraft_12 rfl ?_
      refine g_iconst (v := 0) dX7_firstDraft_13 (by decide) ?_
      have v11 : vp_in i2 51 := uk_vin 51 rfl (by first | decide | lia | grind) (by first | decide | lia | grind)
      have b12 := uk_cl v11
      refine g_iast rfl rfl v11 dX7_firstDraft_14 ?_
      refine g_mem (fun u13 eu13 => ?_)
      have hu13 : iv u13 := by rw [eu13]; exact iv_st hu3 (by unfold uk_is51; decide) (by first | decide | lia | grind) (by first | decide | lia | grind) (fun q => by first | decide | lia | grind) (fun q => by first | decide | lia | grind) (fun q => by first | decide | lia | grind)
      have fu13 : fk [60, 66] [3, 13, 14, 15, 16, 17, 18, 19, 22, 28] u u13 := by rw [eu13]; exact fk_up fu3 (by decide) (fun q => absurd q (by decide))
      refine g_iinc (v := i2 + 1) dX7_firstDraft_15 rfl rfl (by decide) ?_
      refine g_goto (tgt := 2) dX7_firstDraft_18 (by decide) ?_
      refine g_pick (lv' := [(0, .ref (uk_ad G 60)), (1, .int (i2 + 1))]) [0, 1] rfl ?_
      exact ihi2 (by first | lia | grind)  u13 hu13 fu13 
  refine g_pick (lv' := [(0, .ref (uk_ad G 60)), (1, .int 0)]) [0, 1] rfl ?_
  exact L2_0 0 (by first | decide | lia | grind) (by first | decide | lia | grind)  u hu f0 
abbrev q_X7_text_s (u : uk_Mem) (f : Nat → Int32) (N : Int32) (r : Option Value) (u' : uk_Mem) : Prop := (∃ x : Int32, r = some (.int x) ∧ ((¬ (pRes f N).1.1 = 0 ∧ x = -10 - (pRes f N).1.2.1) ∨ ((pRes f N).1.1 = 0 ∧ x = (pRes f N).2))) ∧ (iv u' ∧ fk [60, 61, 63, 64, 65, 66, 67, 68] [22, 28] u u' ∧ ri u' ∧ u'.1 60 13 = 0 ∧ u'.1 60 18 = (pRes f N).1.1)
set_option maxHeartbeats 4000000 in
set_option maxRecDepth 20000 in
theorem c_X7_text_s {G : uk_D} (hs : uk_Sep G) {u : uk_Mem} (hu : iv u) (hri : ri u) (f : Nat → Int32) (N : Int32) (p0 : cpy (u.1 69) f N) (p1 : u.1 60 13 = N) (d : Nat) : uk_Meth G (d + 5) mX7_text [.ref (uk_ad G 60)] u (q_X7_text_s u f N) := by
  refine uk_Meth.of hs (by decide) (Nat.le_of_ble_eq_true rfl) (fun X => ?_)
  have f0 : fk [60, 61, 63, 64, 65, 66, 67, 68] [22, 28] u u := fk_rf
  obtain ⟨t1, Tt1⟩ : ∃ t, u.1 60 7 = t := ⟨_, rfl⟩
  obtain ⟨t2, Tt2⟩ : ∃ t, u.1 60 11 = t := ⟨_, rfl⟩
  obtain ⟨t3, Tt3⟩ : ∃ t, u.1 60 13 = t := ⟨_, rfl⟩
  obtain ⟨t4, Tt4⟩ : ∃ t, u.1 60 15 = t := ⟨_, rfl⟩
  obtain ⟨t5, Tt5⟩ : ∃ t, u.1 60 16 = t := ⟨_, rfl⟩
  obtain ⟨t6, Tt6⟩ : ∃ t, u.1 60 18 = t := ⟨_, rfl⟩
  obtain ⟨t7, Tt7⟩ : ∃ t, u.1 60 19 = t := ⟨_, rfl⟩
  refine g_iconst (v := 0) dX7_text_0 (by decide) ?_
  refine g_istore_n dX7_text_1 (by decide) ?_
  refine g_aload_n dX7_text_2 rfl ?_
  refine g_iconst (v := 0) dX7_text_3 (by decide) ?_
  refine p_X7_91 rfl rfl dX7_text_4 ?_
  refine g_mem (fun u8 eu8 => ?_)
  have hu8 : iv u8 := by rw [eu8]; exact iv_up hu rfl (by first | lia | grind) (by first | lia | grind)
  have fu8 : fk [60, 61, 63, 64, 65, 66, 67, 68] [22, 28] u u8 := by rw [eu8]; exact fk_up f0 (by decide) (fun _ => by decide)
  have riu8 : ri u8 := by rw [eu8]; exact ri_1 hri (by decide) (fun _ => by decide)
  have s9 : u8.1 60 18 = 0 := by rw [eu8, uk_up_at]; exact if_pos ⟨rfl, rfl⟩
  have T10 : u8.1 60 7 = t1 := by rw [eu8, uk_up_at, if_neg (by decide)]; exact Tt1
  have T11 : u8.1 60 11 = t2 := by rw [eu8, uk_up_at, if_neg (by decide)]; exact Tt2
  have T12 : u8.1 60 13 = t3 := by rw [eu8, uk_up_at, if_neg (by decide)]; exact Tt3
  have T13 : u8.1 60 15 = t4 := by rw [eu8, uk_up_at, if_neg (by decide)]; exact Tt4
  have T14 : u8.1 60 16 = t5 := by rw [eu8, uk_up_at, if_neg (by decide)]; exact Tt5
  have T15 : u8.1 60 19 = t7 := by rw [eu8, uk_up_at, if_neg (by decide)]; exact Tt7
  refine g_aload_n dX7_text_7 rfl ?_
  refine g_iconst (v := 0) dX7_text_8 (by decide) ?_
  refine p_X7_100 rfl rfl dX7_text_9 ?_
  refine g_mem (fun u16 eu16 => ?_)
  have hu16 : iv u16 := by rw [eu16]; exact iv_up hu8 rfl (by first | lia | grind) (by first | lia | grind)
  have fu16 : fk [60, 61, 63, 64, 65, 66, 67, 68] [22, 28] u u16 := by rw [eu16]; exact fk_up fu8 (by decide) (fun _ => by decide)
  have riu16 : ri u16 := by rw [eu16]; exact ri_1 riu8 (by decide) (fun _ => by decide)
  have s17 : u16.1 60 14 = 0 := by rw [eu16, uk_up_at]; exact if_pos ⟨rfl, rfl⟩
  have T18 : u16.1 60 7 = t1 := by rw [eu16, uk_up_at, if_neg (by decide)]; exact T10
  have T19 : u16.1 60 11 = t2 := by rw [eu16, uk_up_at, if_neg (by decide)]; exact T11
  have T20 : u16.1 60 13 = t3 := by rw [eu16, uk_up_at, if_neg (by decide)]; exact T12
  have T21 : u16.1 60 15 = t4 := by rw [eu16, uk_up_at, if_neg (by decide)]; exact T13
  have T22 : u16.1 60 16 = t5 := by rw [eu16, uk_up_at, if_neg (by decide)]; exact T14
  have T23 : u16.1 60 18 = 0 := by rw [eu16, uk_up_at, if_neg (by decide)]; exact s9
  have T24 : u16.1 60 19 = t7 := by rw [eu16, uk_up_at, if_neg (by decide)]; exact T15
  refine g_aload_n dX7_text_12 rfl ?_
  refine cl_X7_63 (c := 60) (As := []) rfl (c_X7_firstDraft_s (G := G) hs hu16    (d + 4)) rfl (by omega) rfl rfl (Nat.le_of_ble_eq_true rfl) dX7_text_13 (fun r25 u26 q27 => ?_)
  obtain ⟨rfl, mq27⟩ := q27
  obtain ⟨hu26, gu26, rfu26, ku260, ku261, ku262⟩ := mq27
  have fu26 : fk [60, 61, 63, 64, 65, 66, 67, 68] [22, 28] u u26 := fk_tr fu16 gu26 (by decide) (by decide)
  have riu26 : ri u26 := ri_fk riu16 gu26 (by decide) (by decide) (by decide) (by decide) (by decide)
  obtain ⟨t28, Tt28⟩ : ∃ t, u26.1 60 7 = t := ⟨_, rfl⟩
  have Rt28 : 0 ≤ t28 ∧ t28 ≤ 8 := by rw [← Tt28]; exact iv_at hu26 _ _ rfl
  obtain ⟨t29, Tt29⟩ : ∃ t, u26.1 60 11 = t := ⟨_, rfl⟩
  have T30 : u26.1 60 13 = t3 := (fk_at gu26 (by decide)).trans T20
  have T31 : u26.1 60 15 = t4 := (fk_at gu26 (by decide)).trans T21
  have T32 : u26.1 60 16 = t5 := (fk_at gu26 (by decide)).trans T22
  have T33 : u26.1 60 18 = 0 := (fk_at gu26 (by decide)).trans T23
  have T34 : u26.1 60 19 = t7 := (fk_at gu26 (by decide)).trans T24
  have wu26_60_3 : u26.1 60 3 = u16.1 60 3 := fk_at gu26 (by decide)
  have s35 : u26.1 60 18 = 0 := (fk_at gu26 (by decide)).trans (by simp [eu16, uk_up_at, s9] : u16.1 60 18 = 0)
  have s36 : u26.1 60 14 = 0 := (fk_at gu26 (by decide)).trans s17
  refine g_aload_n dX7_text_16 rfl ?_
  refine cl_X7_133 (c := 60) (As := []) rfl (c_X7_next_s (G := G) hs hu26    (d + 3)) rfl (by omega) rfl rfl (Nat.le_of_ble_eq_true rfl) dX7_text_17 (fun r37 u38 q39 => ?_)
  obtain ⟨rfl, mq39⟩ := q39
  obtain ⟨hu38, gu38, ku380, ku381, ku382, ku383, ku384, ku385⟩ := mq39
  have fu38 : fk [60, 61, 63, 64, 65, 66, 67, 68] [22, 28] u u38 := fk_tr fu26 gu38 (by decide) (by decide)
  have riu38 : ri u38 := ri_fk riu26 gu38 (by decide) (by decide) (by decide) (by decide) (by decide)
  have rfu38 : rf u38 := rf_mono rfu26 gu38 ku380 (by decide) (by decide) (by decide) (by decide)
  have T40 : u38.1 60 7 = t28 := (fk_at gu38 (by decide)).trans Tt28
  have T41 : u38.1 60 11 = t29 := (fk_at gu38 (by decide)).trans Tt29
  have T42 : u38.1 60 13 = t3 := (fk_at gu38 (by decide)).trans T30
  obtain ⟨t43, Tt43⟩ : ∃ t, u38.1 60 15 = t := ⟨_, rfl⟩
  have Rt43 : 0 ≤ t43 ∧ t43 ≤ 160 := by rw [← Tt43]; exact iv_at hu38 _ _ rfl
  obtain ⟨t44, Tt44⟩ : ∃ t, u38.1 60 16 = t := ⟨_, rfl⟩
  obtain ⟨t45, Tt45⟩ : ∃ t, u38.1 60 18 = t := ⟨_, rfl⟩
  have Rt45 : 0 ≤ t45 ∧ t45 ≤ 6 := by rw [← Tt45]; exact iv_at hu38 _ _ rfl
  obtain ⟨t46, Tt46⟩ : ∃ t, u38.1 60 19 = t := ⟨_, rfl⟩
  have wu38_60_3 : u38.1 60 3 = u26.1 60 3 := fk_at gu38 (by decide)
  have hN : N ≤ 160 := by rw [← p1]; exact (iv_at hu 60 13 rfl).2
  have hN0 : 0 ≤ N := by rw [← p1]; exact (iv_at hu 60 13 rfl).1
  have Q69 : u26.1 69 = u.1 69 := fk_c fu26 (by decide)
  have Q18 : u26.1 60 18 = 0 := by rw [fk_at (c := 60) (i := 18) gu26 (by decide)]; grind [uk_up_at]
  have Q14 : u26.1 60 14 = 0 := by rw [fk_at (c := 60) (i := 14) gu26 (by decide)]; grind [uk_up_at]
  have Q13 : u26.1 60 13 = N := by rw [fk_at (c := 60) (i := 13) gu26 (by decide), ← p1]; grind [uk_up_at]
  have HA : ah f N 0 u38 := ah_cg (show cpy (u26.1 69) f N by rw [Q69]; exact p0) (by decide) hN (by have := ku384 Q18; rw [Q14, Q13] at this; exact this)
  have R0 : Rr f N u38 0 := Or.inl ⟨p_0, rfl, ⟨by rw [fk_c gu38 (by decide), Q69]; exact p0, (fk_at gu38 (by decide)).trans Q13, Or.inr ⟨rfl, ⟨by decide, hN0⟩, HA⟩⟩, rfl, fun _ => ⟨(fk_at gu38 (by decide)).trans ku260, (fk_at gu38 (by decide)).trans ku261, by rw [fk_at (c := 60) (i := 11) gu38 (by decide), ku262]; exact hi9_0⟩⟩
  have L20_46 : ∀ i49 : Int32, 0 ≤ i49 → i49 ≤ 161 → ∀ (i48 : Int32) (u50 : uk_Mem), iv u50 → fk [60, 61, 63, 64, 65, 66, 67, 68] [22, 28] u u50 → ri u50 → rf u50 → tx_ms u50 = i49 → (0 ≤ i48 ∧ i48 ≤ 60) → (u50.1 60 18 = 0 → 3 * i48 ≤ u50.1 60 15) → Rr f N u50 i48 → uk_G G X mX7_text (d + 5) (q_X7_text_s u f N) 20 [(0, .ref (uk_ad G 60)), (1, .int i48)] [] u50 := by
    refine uk_ups 161 ?_
    intro i49 ai49 bi49 ihi49 i48 u50 hu50 fu50 riu50 rfu50 ki49 ji490 ji491 ji492
    obtain ⟨t51, Tt51⟩ : ∃ t, u50.1 60 7 = t := ⟨_, rfl⟩
    have Rt51 : 0 ≤ t51 ∧ t51 ≤ 8 := by rw [← Tt51]; exact iv_at hu50 _ _ rfl
    obtain ⟨t52, Tt52⟩ : ∃ t, u50.1 60 11 = t := ⟨_, rfl⟩
    obtain ⟨t53, Tt53⟩ : ∃ t, u50.1 60 13 = t := ⟨_, rfl⟩
    have Rt53 : 0 ≤ t53 ∧ t53 ≤ 160 := by rw [← Tt53]; exact iv_at hu50 _ _ rfl
    obtain ⟨t54, Tt54⟩ : ∃ t, u50.1 60 15 = t := ⟨_, rfl⟩
    have Rt54 : 0 ≤ t54 ∧ t54 ≤ 160 := by rw [← Tt54]; exact iv_at hu50 _ _ rfl
    obtain ⟨t55, Tt55⟩ : ∃ t, u50.1 60 16 = t := ⟨_, rfl⟩
    obtain ⟨t56, Tt56⟩ : ∃ t, u50.1 60 18 = t := ⟨_, rfl⟩
    have Rt56 : 0 ≤ t56 ∧ t56 ≤ 6 := by rw [← Tt56]; exact iv_at hu50 _ _ rfl
    obtain ⟨t57, Tt57⟩ : ∃ t, u50.1 60 19 = t := ⟨_, rfl⟩
    refine g_aload_n dX7_text_20 rfl ?_
    refine f_X7_91 rfl rfl dX7_text_21 ?_
    refine g_topi (fun x58 ex58 => ?_)
    have rx58 : 0 ≤ x58 ∧ x58 ≤ 6 := by rw [ex58]; exact iv_at hu50 _ _ rfl
    have qx58 : x58 = t56 := ex58.trans Tt56
    refine g_if_ne (tgt := 44) dX7_text_24 (by decide) (fun c59 => ?_) (fun c59 => ?_)
    · refine g_aload_n dX7_text_44 rfl ?_
      refine f_X7_91 rfl rfl dX7_text_45 ?_
      refine g_topi (fun x60 ex60 => ?_)
      have rx60 : 0 ≤ x60 ∧ x60 ≤ 6 := by rw [ex60]; exact iv_at hu50 _ _ rfl
      have qx60 : x60 = t56 := ex60.trans Tt56
      refine g_if_ne (tgt := 73) dX7_text_48 (by decide) (fun c61 => ?_) (fun c61 => ?_)
      · have CC : 0 ≤ i48 ∧ i48 < 160 := by grind
        have RF : u50.1 60 18 = (pRes f N).1.1 ∧ (¬ (pRes f N).1.1 = 0 → u50.1 60 19 = (pRes f N).1.2.1) ∧ ((pRes f N).1.1 = 0 → i48 = (pRes f N).2) := by have r := Rr_F hN CC.1 CC.2 ji492 (by grind); exact ⟨r.1, fun _ => r.2, fun z => absurd (r.1.trans z) (by grind)⟩
        refine g_aload_n dX7_text_73 rfl ?_
        refine g_iconst (v := 0) dX7_text_74 (by decide) ?_
        refine p_X7_88 rfl rfl dX7_text_75 ?_
        refine g_mem (fun u62 eu62 => ?_)
        have hu62 : iv u62 := by rw [eu62]; exact iv_up hu50 rfl (by first | lia | grind) (by first | lia | grind)
        have fu62 : fk [60, 61, 63, 64, 65, 66, 67, 68] [22, 28] u u62 := by rw [eu62]; exact fk_up fu50 (by decide) (fun _ => by decide)
        have riu62 : ri u62 := by rw [eu62]; exact ri_1 riu50 (by decide) (fun _ => by decide)
        have rfu62 : rf u62 := by rw [eu62]; exact rf_1 rfu50 (by decide)
        have s63 : u62.1 60 13 = 0 := by rw [eu62, uk_up_at]; exact if_pos ⟨rfl, rfl⟩
        have T64 : u62.1 60 7 = t51 := by rw [eu62, uk_up_at, if_neg (by decide)]; exact Tt51
        have T65 : u62.1 60 11 = t52 := by rw [eu62, uk_up_at, if_neg (by decide)]; exact Tt52
        have T66 : u62.1 60 15 = t54 := by rw [eu62, uk_up_at, if_neg (by decide)]; exact Tt54
        have T67 : u62.1 60 16 = t55 := by rw [eu62, uk_up_at, if_neg (by decide)]; exact Tt55
        have T68 : u62.1 60 18 = t56 := by rw [eu62, uk_up_at, if_neg (by decide)]; exact Tt56
        have T69 : u62.1 60 19 = t57 := by rw [eu62, uk_up_at, if_neg (by decide)]; exact Tt57
        refine g_aload_n dX7_text_78 rfl ?_
        refine f_X7_91 rfl rfl dX7_text_79 ?_
        refine g_topi (fun x70 ex70 => ?_)
        have rx70 : 0 ≤ x70 ∧ x70 ≤ 6 := by rw [ex70]; exact iv_at hu62 _ _ rfl
        have qx70 : x70 = t56 := ex70.trans T68
        refine g_if_le (tgt := 93) dX7_text_82 (by decide) (fun c71 => ?_) (fun c71 => ?_)
        · refine g_aload_n dX7_text_93 rfl ?_
          have rdx72 : rd u62 := rfu62 (by grind)
          refine cl_X7_66 (c := 60) (As := []) rfl (c_X7_keepDraft (G := G) hs hu62 rdx72    (d + 4)) rfl (by omega) rfl rfl (Nat.le_of_ble_eq_true rfl) dX7_text_94 (fun r73 u74 q75 => ?_)
          obtain ⟨rfl, mq75⟩ := q75
          obtain ⟨hu74, gu74, riu74⟩ := mq75
          have fu74 : fk [60, 61, 63, 64, 65, 66, 67, 68] [22, 28] u u74 := fk_tr fu62 gu74 (by decide) (by decide)
          have T76 : u74.1 60 7 = t51 := (fk_at gu74 (by decide)).trans T64
          have T77 : u74.1 60 11 = t52 := (fk_at gu74 (by decide)).trans T65
          have T78 : u74.1 60 13 = 0 := (fk_at gu74 (by decide)).trans s63
          have T79 : u74.1 60 15 = t54 := (fk_at gu74 (by decide)).trans T66
          have T80 : u74.1 60 16 = t55 := (fk_at gu74 (by decide)).trans T67
          have T81 : u74.1 60 18 = t56 := (fk_at gu74 (by decide)).trans T68
          have T82 : u74.1 60 19 = t57 := (fk_at gu74 (by decide)).trans T69
          have s83 : u74.1 60 13 = 0 := (fk_at gu74 (by decide)).trans s63
          refine g_iload_n dX7_text_97 rfl ?_
          exact g_iret (ty := .int) dX7_text_98 rfl rfl ⟨⟨_, rfl, Or.inr ⟨by rw [← RF.1]; grind, RF.2.2 (by rw [← RF.1]; grind)⟩⟩, hu74, fu74, riu74, (T78.trans (by grind)), (by rw [T81, ← RF.1]; grind)⟩
        · refine g_bipush (v := (-10)) dX7_text_85 (by decide) ?_
          refine g_aload_n dX7_text_87 rfl ?_
          refine f_X7_97 rfl rfl dX7_text_88 ?_
          refine g_topi (fun x84 ex84 => ?_)
          have qx84 : x84 = t57 := ex84.trans T69
          refine g_isub dX7_text_91 ?_
          refine g_topi (fun x85 ex85 => ?_)
          exact g_iret (ty := .int) dX7_text_92 rfl rfl ⟨⟨_, rfl, Or.inl ⟨by rw [← RF.1]; grind, by rw [ex85, ← RF.2.1 (by rw [← RF.1]; grind)]; grind⟩⟩, hu62, fu62, riu62, (s63.trans (by grind)), (by rw [T68, ← RF.1]; grind)⟩
      · refine g_aload_n dX7_text_51 rfl ?_
        refine g_aload_n dX7_text_52 rfl ?_
        refine f_X7_76 rfl rfl dX7_text_53 ?_
        refine g_topi (fun x86 ex86 => ?_)
        have qx86 : x86 = t52 := ex86.trans Tt52
        refine g_aload_n dX7_text_56 rfl ?_
        refine f_X7_69 rfl rfl dX7_text_57 ?_
        refine g_topi (fun x87 ex87 => ?_)
        have rx87 : 0 ≤ x87 ∧ x87 ≤ 8 := by rw [ex87]; exact iv_at hu50 _ _ rfl
        have qx87 : x87 = t51 := ex87.trans Tt51
        refine g_icmp_ge (tgt := 67) dX7_text_60 (by decide) (fun c88 => ?_) (fun c88 => ?_)
        · refine g_iconst (v := 0) dX7_text_67 (by decide) ?_
          refine g_bipush (v := 6) dX7_text_68 (by decide) ?_
          refine cl_X7_125 (c := 60) (As := [.int 0, .int 6]) rfl (c_X7_needs_s (G := G) hs hu50  0 6 (by first | trivial | decide | lia | grind) (by first | trivial | decide | lia | grind) (d + 4)) rfl (by omega) rfl rfl (Nat.le_of_ble_eq_true rfl) dX7_text_70 (fun r89 u90 q91 => ?_)
          obtain ⟨rfl, mq91⟩ := q91
          obtain ⟨hu90, gu90, ku900, ku901, ku902⟩ := mq91
          have fu90 : fk [60, 61, 63, 64, 65, 66, 67, 68] [22, 28] u u90 := fk_tr fu50 gu90 (by decide) (by decide)
          have riu90 : ri u90 := ri_fk riu50 gu90 (by decide) (by decide) (by decide) (by decide) (by decide)
          have rfu90 : rf u90 := rf_mono rfu50 gu90 (fun q => (ku900 q).1) (by decide) (by decide) (by decide) (by decide)
          have T92 : u90.1 60 7 = t51 := (fk_at gu90 (by decide)).trans Tt51
          have T93 : u90.1 60 11 = t52 := (fk_at gu90 (by decide)).trans Tt52
          have T94 : u90.1 60 13 = t53 := (fk_at gu90 (by decide)).trans Tt53
          have T95 : u90.1 60 15 = t54 := (fk_at gu90 (by decide)).trans Tt54
          have T96 : u90.1 60 16 = t55 := (fk_at gu90 (by decide)).trans Tt55
          obtain ⟨t97, Tt97⟩ : ∃ t, u90.1 60 18 = t := ⟨_, rfl⟩
          have Rt97 : 0 ≤ t97 ∧ t97 ≤ 6 := by rw [← Tt97]; exact iv_at hu90 _ _ rfl
          obtain ⟨t98, Tt98⟩ : ∃ t, u90.1 60 19 = t := ⟨_, rfl⟩
          have wu90_60_3 : u90.1 60 3 = u50.1 60 3 := fk_at gu90 (by decide)
          have CC : 0 ≤ i48 ∧ i48 < 160 := by grind
          have RF : u90.1 60 18 = (pRes f N).1.1 ∧ (¬ (pRes f N).1.1 = 0 → u90.1 60 19 = (pRes f N).1.2.1) ∧ ((pRes f N).1.1 = 0 → i48 = (pRes f N).2) := Rr_E hN CC.1 CC.2 ji492 (by grind) (by grind) (iv_at hu50 60 7 rfl) (fun q => by grind) (fun q => by grind)
          refine g_aload_n dX7_text_73 rfl ?_
          refine g_iconst (v := 0) dX7_text_74 (by decide) ?_
          refine p_X7_88 rfl rfl dX7_text_75 ?_
          refine g_mem (fun u99 eu99 => ?_)
          have hu99 : iv u99 := by rw [eu99]; exact iv_up hu90 rfl (by first | lia | grind) (by first | lia | grind)
          have fu99 : fk [60, 61, 63, 64, 65, 66, 67, 68] [22, 28] u u99 := by rw [eu99]; exact fk_up fu90 (by decide) (fun _ => by decide)
          have riu99 : ri u99 := by rw [eu99]; exact ri_1 riu90 (by decide) (fun _ => by decide)
          have rfu99 : rf u99 := by rw [eu99]; exact rf_1 rfu90 (by decide)
          have s100 : u99.1 60 13 = 0 := by rw [eu99, uk_up_at]; exact if_pos ⟨rfl, rfl⟩
          have T101 : u99.1 60 7 = t51 := by rw [eu99, uk_up_at, if_neg (by decide)]; exact T92
          have T102 : u99.1 60 11 = t52 := by rw [eu99, uk_up_at, if_neg (by decide)]; exact T93
          have T103 : u99.1 60 15 = t54 := by rw [eu99, uk_up_at, if_neg (by decide)]; exact T95
          have T104 : u99.1 60 16 = t55 := by rw [eu99, uk_up_at, if_neg (by decide)]; exact T96
          have T105 : u99.1 60 18 = t97 := by rw [eu99, uk_up_at, if_neg (by decide)]; exact Tt97
          have T106 : u99.1 60 19 = t98 := by rw [eu99, uk_up_at, if_neg (by decide)]; exact Tt98
          refine g_aload_n dX7_text_78 rfl ?_
          refine f_X7_91 rfl rfl dX7_text_79 ?_
          refine g_topi (fun x107 ex107 => ?_)
          have rx107 : 0 ≤ x107 ∧ x107 ≤ 6 := by rw [ex107]; exact iv_at hu99 _ _ rfl
          have qx107 : x107 = t97 := ex107.trans T105
          refine g_if_le (tgt := 93) dX7_text_82 (by decide) (fun c108 => ?_) (fun c108 => ?_)
          · refine g_aload_n dX7_text_93 rfl ?_
            have rdx109 : rd u99 := rfu99 (by grind)
            refine cl_X7_66 (c := 60) (As := []) rfl (c_X7_keepDraft (G := G) hs hu99 rdx109    (d + 4)) rfl (by omega) rfl rfl (Nat.le_of_ble_eq_true rfl) dX7_text_94 (fun r110 u111 q112 => ?_)
            obtain ⟨rfl, mq112⟩ := q112
            obtain ⟨hu111, gu111, riu111⟩ := mq112
            have fu111 : fk [60, 61, 63, 64, 65, 66, 67, 68] [22, 28] u u111 := fk_tr fu99 gu111 (by decide) (by decide)
            have T113 : u111.1 60 7 = t51 := (fk_at gu111 (by decide)).trans T101
            have T114 : u111.1 60 11 = t52 := (fk_at gu111 (by decide)).trans T102
            have T115 : u111.1 60 13 = 0 := (fk_at gu111 (by decide)).trans s100
            have T116 : u111.1 60 15 = t54 := (fk_at gu111 (by decide)).trans T103
            have T117 : u111.1 60 16 = t55 := (fk_at gu111 (by decide)).trans T104
            have T118 : u111.1 60 18 = t97 := (fk_at gu111 (by decide)).trans T105
            have T119 : u111.1 60 19 = t98 := (fk_at gu111 (by decide)).trans T106
            have s120 : u111.1 60 13 = 0 := (fk_at gu111 (by decide)).trans s100
            refine g_iload_n dX7_text_97 rfl ?_
            exact g_iret (ty := .int) dX7_text_98 rfl rfl ⟨⟨_, rfl, Or.inr ⟨by rw [← RF.1]; grind, RF.2.2 (by rw [← RF.1]; grind)⟩⟩, hu111, fu111, riu111, (T115.trans (by grind)), (by rw [T118, ← RF.1]; grind)⟩
          · refine g_bipush (v := (-10)) dX7_text_85 (by decide) ?_
            refine g_aload_n dX7_text_87 rfl ?_
            refine f_X7_97 rfl rfl dX7_text_88 ?_
            refine g_topi (fun x121 ex121 => ?_)
            have qx121 : x121 = t98 := ex121.trans T106
            refine g_isub dX7_text_91 ?_
            refine g_topi (fun x122 ex122 => ?_)
            exact g_iret (ty := .int) dX7_text_92 rfl rfl ⟨⟨_, rfl, Or.inl ⟨by rw [← RF.1]; grind, by rw [ex122, ← RF.2.1 (by rw [← RF.1]; grind)]; grind⟩⟩, hu99, fu99, riu99, (s100.trans (by grind)), (by rw [T105, ← RF.1]; grind)⟩
        · refine g_iconst (v := 1) dX7_text_63 (by decide) ?_
          refine g_goto (tgt := 68) dX7_text_64 (by decide) ?_
          refine g_bipush (v := 6) dX7_text_68 (by decide) ?_
          refine cl_X7_125 (c := 60) (As := [.int 1, .int 6]) rfl (c_X7_needs_s (G := G) hs hu50  1 6 (by first | trivial | decide | lia | grind) (by first | trivial | decide | lia | grind) (d + 4)) rfl (by omega) rfl rfl (Nat.le_of_ble_eq_true rfl) dX7_text_70 (fun r123 u124 q125 => ?_)
          obtain ⟨rfl, mq125⟩ := q125
          obtain ⟨hu124, gu124, ku1240, ku1241, ku1242⟩ := mq125
          have fu124 : fk [60, 61, 63, 64, 65, 66, 67, 68] [22, 28] u u124 := fk_tr fu50 gu124 (by decide) (by decide)
          have riu124 : ri u124 := ri_fk riu50 gu124 (by decide) (by decide) (by decide) (by decide) (by decide)
          have rfu124 : rf u124 := rf_mono rfu50 gu124 (fun q => (ku1240 q).1) (by decide) (by decide) (by decide) (by decide)
          have T126 : u124.1 60 7 = t51 := (fk_at gu124 (by decide)).trans Tt51
          have T127 : u124.1 60 11 = t52 := (fk_at gu124 (by decide)).trans Tt52
          have T128 : u124.1 60 13 = t53 := (fk_at gu124 (by decide)).trans Tt53
          have T129 : u124.1 60 15 = t54 := (fk_at gu124 (by decide)).trans Tt54
          have T130 : u124.1 60 16 = t55 := (fk_at gu124 (by decide)).trans Tt55
          obtain ⟨t131, Tt131⟩ : ∃ t, u124.1 60 18 = t := ⟨_, rfl⟩
          have Rt131 : 0 ≤ t131 ∧ t131 ≤ 6 := by rw [← Tt131]; exact iv_at hu124 _ _ rfl
          obtain ⟨t132, Tt132⟩ : ∃ t, u124.1 60 19 = t := ⟨_, rfl⟩
          have wu124_60_3 : u124.1 60 3 = u50.1 60 3 := fk_at gu124 (by decide)
          have CC : 0 ≤ i48 ∧ i48 < 160 := by grind
          have RF : u124.1 60 18 = (pRes f N).1.1 ∧ (¬ (pRes f N).1.1 = 0 → u124.1 60 19 = (pRes f N).1.2.1) ∧ ((pRes f N).1.1 = 0 → i48 = (pRes f N).2) := Rr_E hN CC.1 CC.2 ji492 (by grind) (by grind) (iv_at hu50 60 7 rfl) (fun q => by grind) (fun q => by grind)
          refine g_aload_n dX7_text_73 rfl ?_
          refine g_iconst (v := 0) dX7_text_74 (by decide) ?_
          refine p_X7_88 rfl rfl dX7_text_75 ?_
          refine g_mem (fun u133 eu133 => ?_)
          have hu133 : iv u133 := by rw [eu133]; exact iv_up hu124 rfl (by first | lia | grind) (by first | lia | grind)
          have fu133 : fk [60, 61, 63, 64, 65, 66, 67, 68] [22, 28] u u133 := by rw [eu133]; exact fk_up fu124 (by decide) (fun _ => by decide)
          have riu133 : ri u133 := by rw [eu133]; exact ri_1 riu124 (by decide) (fun _ => by decide)
          have rfu133 : rf u133 := by rw [eu133]; exact rf_1 rfu124 (by decide)
          have s134 : u133.1 60 13 = 0 := by rw [eu133, uk_up_at]; exact if_pos ⟨rfl, rfl⟩
          have T135 : u133.1 60 7 = t51 := by rw [eu133, uk_up_at, if_neg (by decide)]; exact T126
          have T136 : u133.1 60 11 = t52 := by rw [eu133, uk_up_at, if_neg (by decide)]; exact T127
          have T137 : u133.1 60 15 = t54 := by rw [eu133, uk_up_at, if_neg (by decide)]; exact T129
          have T138 : u133.1 60 16 = t55 := by rw [eu133, uk_up_at, if_neg (by decide)]; exact T130
          have T139 : u133.1 60 18 = t131 := by rw [eu133, uk_up_at, if_neg (by decide)]; exact Tt131
          have T140 : u133.1 60 19 = t132 := by rw [eu133, uk_up_at, if_neg (by decide)]; exact Tt132
          refine g_aload_n dX7_text_78 rfl ?_
          refine f_X7_91 rfl rfl dX7_text_79 ?_
          refine g_topi (fun x141 ex141 => ?_)
          have rx141 : 0 ≤ x141 ∧ x141 ≤ 6 := by rw [ex141]; exact iv_at hu133 _ _ rfl
          have qx141 : x141 = t131 := ex141.trans T139
          refine g_if_le (tgt := 93) dX7_text_82 (by decide) (fun c142 => ?_) (fun c142 => ?_)
          · refine g_aload_n dX7_text_93 rfl ?_
            have rdx143 : rd u133 := rfu133 (by grind)
            refine cl_X7_66 (c := 60) (As := []) rfl (c_X7_keepDraft (G := G) hs hu133 rdx143    (d + 4)) rfl (by omega) rfl rfl (Nat.le_of_ble_eq_true rfl) dX7_text_94 (fun r144 u145 q146 => ?_)
            obtain ⟨rfl, mq146⟩ := q146
            obtain ⟨hu145, gu145, riu145⟩ := mq146
            have fu145 : fk [60, 61, 63, 64, 65, 66, 67, 68] [22, 28] u u145 := fk_tr fu133 gu145 (by decide) (by decide)
            have T147 : u145.1 60 7 = t51 := (fk_at gu145 (by decide)).trans T135
            have T148 : u145.1 60 11 = t52 := (fk_at gu145 (by decide)).trans T136
            have T149 : u145.1 60 13 = 0 := (fk_at gu145 (by decide)).trans s134
            have T150 : u145.1 60 15 = t54 := (fk_at gu145 (by decide)).trans T137
            have T151 : u145.1 60 16 = t55 := (fk_at gu145 (by decide)).trans T138
            have T152 : u145.1 60 18 = t131 := (fk_at gu145 (by decide)).trans T139
            have T153 : u145.1 60 19 = t132 := (fk_at gu145 (by decide)).trans T140
            have s154 : u145.1 60 13 = 0 := (fk_at gu145 (by decide)).trans s134
            refine g_iload_n dX7_text_97 rfl ?_
            exact g_iret (ty := .int) dX7_text_98 rfl rfl ⟨⟨_, rfl, Or.inr ⟨by rw [← RF.1]; grind, RF.2.2 (by rw [← RF.1]; grind)⟩⟩, hu145, fu145, riu145, (T149.trans (by grind)), (by rw [T152, ← RF.1]; grind)⟩
          · refine g_bipush (v := (-10)) dX7_text_85 (by decide) ?_
            refine g_aload_n dX7_text_87 rfl ?_
            refine f_X7_97 rfl rfl dX7_text_88 ?_
            refine g_topi (fun x155 ex155 => ?_)
            have qx155 : x155 = t132 := ex155.trans T140
            refine g_isub dX7_text_91 ?_
            refine g_topi (fun x156 ex156 => ?_)
            exact g_iret (ty := .int) dX7_text_92 rfl rfl ⟨⟨_, rfl, Or.inl ⟨by rw [← RF.1]; grind, by rw [ex156, ← RF.2.1 (by rw [← RF.1]; grind)]; grind⟩⟩, hu133, fu133, riu133, (s134.trans (by grind)), (by rw [T139, ← RF.1]; grind)⟩
    · refine g_aload_n dX7_text_27 rfl ?_
      refine f_X7_111 rfl rfl dX7_text_28 ?_
      refine g_topi (fun x157 ex157 => ?_)
      have qx157 : x157 = t55 := ex157.trans Tt55
      refine g_if_eq (tgt := 44) dX7_text_31 (by decide) (fun c158 => ?_) (fun c158 => ?_)
      · refine g_aload_n dX7_text_44 rfl ?_
        refine f_X7_91 rfl rfl dX7_text_45 ?_
        refine g_topi (fun x159 ex159 => ?_)
        have rx159 : 0 ≤ x159 ∧ x159 ≤ 6 := by rw [ex159]; exact iv_at hu50 _ _ rfl
        have qx159 : x159 = t56 := ex159.trans Tt56
        refine g_if_ne (tgt := 73) dX7_text_48 (by decide) (fun c160 => ?_) (fun c160 => ?_)
        · have CC : 0 ≤ i48 ∧ i48 < 160 := by grind
          have RF : u50.1 60 18 = (pRes f N).1.1 ∧ (¬ (pRes f N).1.1 = 0 → u50.1 60 19 = (pRes f N).1.2.1) ∧ ((pRes f N).1.1 = 0 → i48 = (pRes f N).2) := by have r := Rr_F hN CC.1 CC.2 ji492 (by grind); exact ⟨r.1, fun _ => r.2, fun z => absurd (r.1.trans z) (by grind)⟩
          refine g_aload_n dX7_text_73 rfl ?_
          refine g_iconst (v := 0) dX7_text_74 (by decide) ?_
          refine p_X7_88 rfl rfl dX7_text_75 ?_
          refine g_mem (fun u161 eu161 => ?_)
          have hu161 : iv u161 := by rw [eu161]; exact iv_up hu50 rfl (by first | lia | grind) (by first | lia | grind)
          have fu161 : fk [60, 61, 63, 64, 65, 66, 67, 68] [22, 28] u u161 := by rw [eu161]; exact fk_up fu50 (by decide) (fun _ => by decide)
          have riu161 : ri u161 := by rw [eu161]; exact ri_1 riu50 (by decide) (fun _ => by decide)
          have rfu161 : rf u161 := by rw [eu161]; exact rf_1 rfu50 (by decide)
          have s162 : u161.1 60 13 = 0 := by rw [eu161, uk_up_at]; exact if_pos ⟨rfl, rfl⟩
          have T163 : u161.1 60 7 = t51 := by rw [eu161, uk_up_at, if_neg (by decide)]; exact Tt51
          have T164 : u161.1 60 11 = t52 := by rw [eu161, uk_up_at, if_neg (by decide)]; exact Tt52
          have T165 : u161.1 60 15 = t54 := by rw [eu161, uk_up_at, if_neg (by decide)]; exact Tt54
          have T166 : u161.1 60 16 = t55 := by rw [eu161, uk_up_at, if_neg (by decide)]; exact Tt55
          have T167 : u161.1 60 18 = t56 := by rw [eu161, uk_up_at, if_neg (by decide)]; exact Tt56
          have T168 : u161.1 60 19 = t57 := by rw [eu161, uk_up_at, if_neg (by decide)]; exact Tt57
          refine g_aload_n dX7_text_78 rfl ?_
          refine f_X7_91 rfl rfl dX7_text_79 ?_
          refine g_topi (fun x169 ex169 => ?_)
          have rx169 : 0 ≤ x169 ∧ x169 ≤ 6 := by rw [ex169]; exact iv_at hu161 _ _ rfl
          have qx169 : x169 = t56 := ex169.trans T167
          refine g_if_le (tgt := 93) dX7_text_82 (by decide) (fun c170 => ?_) (fun c170 => ?_)
          · refine g_aload_n dX7_text_93 rfl ?_
            have rdx171 : rd u161 := rfu161 (by grind)
            refine cl_X7_66 (c := 60) (As := []) rfl (c_X7_keepDraft (G := G) hs hu161 rdx171    (d + 4)) rfl (by omega) rfl rfl (Nat.le_of_ble_eq_true rfl) dX7_text_94 (fun r172 u173 q174 => ?_)
            obtain ⟨rfl, mq174⟩ := q174
            obtain ⟨hu173, gu173, riu173⟩ := mq174
            have fu173 : fk [60, 61, 63, 64, 65, 66, 67, 68] [22, 28] u u173 := fk_tr fu161 gu173 (by decide) (by decide)
            have T175 : u173.1 60 7 = t51 := (fk_at gu173 (by decide)).trans T163
            have T176 : u173.1 60 11 = t52 := (fk_at gu173 (by decide)).trans T164
            have T177 : u173.1 60 13 = 0 := (fk_at gu173 (by decide)).trans s162
            have T178 : u173.1 60 15 = t54 := (fk_at gu173 (by decide)).trans T165
            have T179 : u173.1 60 16 = t55 := (fk_at gu173 (by decide)).trans T166
            have T180 : u173.1 60 18 = t56 := (fk_at gu173 (by decide)).trans T167
            have T181 : u173.1 60 19 = t57 := (fk_at gu173 (by decide)).trans T168
            have s182 : u173.1 60 13 = 0 := (fk_at gu173 (by decide)).trans s162
            refine g_iload_n dX7_text_97 rfl ?_
            exact g_iret (ty := .int) dX7_text_98 rfl rfl ⟨⟨_, rfl, Or.inr ⟨by rw [← RF.1]; grind, RF.2.2 (by rw [← RF.1]; grind)⟩⟩, hu173, fu173, riu173, (T177.trans (by grind)), (by rw [T180, ← RF.1]; grind)⟩
          · refine g_bipush (v := (-10)) dX7_text_85 (by decide) ?_
            refine g_aload_n dX7_text_87 rfl ?_
            refine f_X7_97 rfl rfl dX7_text_88 ?_
            refine g_topi (fun x183 ex183 => ?_)
            have qx183 : x183 = t57 := ex183.trans T168
            refine g_isub dX7_text_91 ?_
            refine g_topi (fun x184 ex184 => ?_)
            exact g_iret (ty := .int) dX7_text_92 rfl rfl ⟨⟨_, rfl, Or.inl ⟨by rw [← RF.1]; grind, by rw [ex184, ← RF.2.1 (by rw [← RF.1]; grind)]; grind⟩⟩, hu161, fu161, riu161, (s162.trans (by grind)), (by rw [T167, ← RF.1]; grind)⟩
        · refine g_aload_n dX7_text_51 rfl ?_
          refine g_aload_n dX7_text_52 rfl ?_
          refine f_X7_76 rfl rfl dX7_text_53 ?_
          refine g_topi (fun x185 ex185 => ?_)
          have qx185 : x185 = t52 := ex185.trans Tt52
          refine g_aload_n dX7_text_56 rfl ?_
          refine f_X7_69 rfl rfl dX7_text_57 ?_
          refine g_topi (fun x186 ex186 => ?_)
          have rx186 : 0 ≤ x186 ∧ x186 ≤ 8 := by rw [ex186]; exact iv_at hu50 _ _ rfl
          have qx186 : x186 = t51 := ex186.trans Tt51
          refine g_icmp_ge (tgt := 67) dX7_text_60 (by decide) (fun c187 => ?_) (fun c187 => ?_)
          · refine g_iconst (v := 0) dX7_text_67 (by decide) ?_
            refine g_bipush (v := 6) dX7_text_68 (by decide) ?_
            refine cl_X7_125 (c := 60) (As := [.int 0, .int 6]) rfl (c_X7_needs_s (G := G) hs hu50  0 6 (by first | trivial | decide | lia | grind) (by first | trivial | decide | lia | grind) (d + 4)) rfl (by omega) rfl rfl (Nat.le_of_ble_eq_true rfl) dX7_text_70 (fun r188 u189 q190 => ?_)
            obtain ⟨rfl, mq190⟩ := q190
            obtain ⟨hu189, gu189, ku1890, ku1891, ku1892⟩ := mq190
            have fu189 : fk [60, 61, 63, 64, 65, 66, 67, 68] [22, 28] u u189 := fk_tr fu50 gu189 (by decide) (by decide)
            have riu189 : ri u189 := ri_fk riu50 gu189 (by decide) (by decide) (by decide) (by decide) (by decide)
            have rfu189 : rf u189 := rf_mono rfu50 gu189 (fun q => (ku1890 q).1) (by decide) (by decide) (by decide) (by decide)
            have T191 : u189.1 60 7 = t51 := (fk_at gu189 (by decide)).trans Tt51
            have T192 : u189.1 60 11 = t52 := (fk_at gu189 (by decide)).trans Tt52
            have T193 : u189.1 60 13 = t53 := (fk_at gu189 (by decide)).trans Tt53
            have T194 : u189.1 60 15 = t54 := (fk_at gu189 (by decide)).trans Tt54
            have T195 : u189.1 60 16 = t55 := (fk_at gu189 (by decide)).trans Tt55
            obtain ⟨t196, Tt196⟩ : ∃ t, u189.1 60 18 = t := ⟨_, rfl⟩
            have Rt196 : 0 ≤ t196 ∧ t196 ≤ 6 := by rw [← Tt196]; exact iv_at hu189 _ _ rfl
            obtain ⟨t197, Tt197⟩ : ∃ t, u189.1 60 19 = t := ⟨_, rfl⟩
            have wu189_60_3 : u189.1 60 3 = u50.1 60 3 := fk_at gu189 (by decide)
            have CC : 0 ≤ i48 ∧ i48 < 160 := by grind
            have RF : u189.1 60 18 = (pRes f N).1.1 ∧ (¬ (pRes f N).1.1 = 0 → u189.1 60 19 = (pRes f N).1.2.1) ∧ ((pRes f N).1.1 = 0 → i48 = (pRes f N).2) := Rr_E hN CC.1 CC.2 ji492 (by grind) (by grind) (iv_at hu50 60 7 rfl) (fun q => by grind) (fun q => by grind)
            refine g_aload_n dX7_text_73 rfl ?_
            refine g_iconst (v := 0) dX7_text_74 (by decide) ?_
            refine p_X7_88 rfl rfl dX7_text_75 ?_
            refine g_mem (fun u198 eu198 => ?_)
            have hu198 : iv u198 := by rw [eu198]; exact iv_up hu189 rfl (by first | lia | grind) (by first | lia | grind)
            have fu198 : fk [60, 61, 63, 64, 65, 66, 67, 68] [22, 28] u u198 := by rw [eu198]; exact fk_up fu189 (by decide) (fun _ => by decide)
            have riu198 : ri u198 := by rw [eu198]; exact ri_1 riu189 (by decide) (fun _ => by decide)
            have rfu198 : rf u198 := by rw [eu198]; exact rf_1 rfu189 (by decide)
            have s199 : u198.1 60 13 = 0 := by rw [eu198, uk_up_at]; exact if_pos ⟨rfl, rfl⟩
            have T200 : u198.1 60 7 = t51 := by rw [eu198, uk_up_at, if_neg (by decide)]; exact T191
            have T201 : u198.1 60 11 = t52 := by rw [eu198, uk_up_at, if_neg (by decide)]; exact T192
            have T202 : u198.1 60 15 = t54 := by rw [eu198, uk_up_at, if_neg (by decide)]; exact T194
            have T203 : u198.1 60 16 = t55 := by rw [eu198, uk_up_at, if_neg (by decide)]; exact T195
            have T204 : u198.1 60 18 = t196 := by rw [eu198, uk_up_at, if_neg (by decide)]; exact Tt196
            have T205 : u198.1 60 19 = t197 := by rw [eu198, uk_up_at, if_neg (by decide)]; exact Tt197
            refine g_aload_n dX7_text_78 rfl ?_
            refine f_X7_91 rfl rfl dX7_text_79 ?_
            refine g_topi (fun x206 ex206 => ?_)
            have rx206 : 0 ≤ x206 ∧ x206 ≤ 6 := by rw [ex206]; exact iv_at hu198 _ _ rfl
            have qx206 : x206 = t196 := ex206.trans T204
            refine g_if_le (tgt := 93) dX7_text_82 (by decide) (fun c207 => ?_) (fun c207 => ?_)
            · refine g_aload_n dX7_text_93 rfl ?_
              have rdx208 : rd u198 := rfu198 (by grind)
              refine cl_X7_66 (c := 60) (As := []) rfl (c_X7_keepDraft (G := G) hs hu198 rdx208    (d + 4)) rfl (by omega) rfl rfl (Nat.le_of_ble_eq_true rfl) dX7_text_94 (fun r209 u210 q211 => ?_)
              obtain ⟨rfl, mq211⟩ := q211
              obtain ⟨hu210, gu210, riu210⟩ := mq211
              have fu210 : fk [60, 61, 63, 64, 65, 66, 67, 68] [22, 28] u u210 := fk_tr fu198 gu210 (by decide) (by decide)
              have T212 : u210.1 60 7 = t51 := (fk_at gu210 (by decide)).trans T200
              have T213 : u210.1 60 11 = t52 := (fk_at gu210 (by decide)).trans T201
              have T214 : u210.1 60 13 = 0 := (fk_at gu210 (by decide)).trans s199
              have T215 : u210.1 60 15 = t54 := (fk_at gu210 (by decide)).trans T202
              have T216 : u210.1 60 16 = t55 := (fk_at gu210 (by decide)).trans T203
              have T217 : u210.1 60 18 = t196 := (fk_at gu210 (by decide)).trans T204
              have T218 : u210.1 60 19 = t197 := (fk_at gu210 (by decide)).trans T205
              have s219 : u210.1 60 13 = 0 := (fk_at gu210 (by decide)).trans s199
              refine g_iload_n dX7_text_97 rfl ?_
              exact g_iret (ty := .int) dX7_text_98 rfl rfl ⟨⟨_, rfl, Or.inr ⟨by rw [← RF.1]; grind, RF.2.2 (by rw [← RF.1]; grind)⟩⟩, hu210, fu210, riu210, (T214.trans (by grind)), (by rw [T217, ← RF.1]; grind)⟩
            · refine g_bipush (v := (-10)) dX7_text_85 (by decide) ?_
              refine g_aload_n dX7_text_87 rfl ?_
              refine f_X7_97 rfl rfl dX7_text_88 ?_
              refine g_topi (fun x220 ex220 => ?_)
              have qx220 : x220 = t197 := ex220.trans T205
              refine g_isub dX7_text_91 ?_
              refine g_topi (fun x221 ex221 => ?_)
              exact g_iret (ty := .int) dX7_text_92 rfl rfl ⟨⟨_, rfl, Or.inl ⟨by rw [← RF.1]; grind, by rw [ex221, ← RF.2.1 (by rw [← RF.1]; grind)]; grind⟩⟩, hu198, fu198, riu198, (s199.trans (by grind)), (by rw [T204, ← RF.1]; grind)⟩
          · refine g_iconst (v := 1) dX7_text_63 (by decide) ?_
            refine g_goto (tgt := 68) dX7_text_64 (by decide) ?_
            refine g_bipush (v := 6) dX7_text_68 (by decide) ?_
            refine cl_X7_125 (c := 60) (As := [.int 1, .int 6]) rfl (c_X7_needs_s (G := G) hs hu50  1 6 (by first | trivial | decide | lia | grind) (by first | trivial | decide | lia | grind) (d + 4)) rfl (by omega) rfl rfl (Nat.le_of_ble_eq_true rfl) dX7_text_70 (fun r222 u223 q224 => ?_)
            obtain ⟨rfl, mq224⟩ := q224
            obtain ⟨hu223, gu223, ku2230, ku2231, ku2232⟩ := mq224
            have fu223 : fk [60, 61, 63, 64, 65, 66, 67, 68] [22, 28] u u223 := fk_tr fu50 gu223 (by decide) (by decide)
            have riu223 : ri u223 := ri_fk riu50 gu223 (by decide) (by decide) (by decide) (by decide) (by decide)
            have rfu223 : rf u223 := rf_mono rfu50 gu223 (fun q => (ku2230 q).1) (by decide) (by decide) (by decide) (by decide)
            have T225 : u223.1 60 7 = t51 := (fk_at gu223 (by decide)).trans Tt51
            have T226 : u223.1 60 11 = t52 := (fk_at gu223 (by decide)).trans Tt52
            have T227 : u223.1 60 13 = t53 := (fk_at gu223 (by decide)).trans Tt53
            have T228 : u223.1 60 15 = t54 := (fk_at gu223 (by decide)).trans Tt54
            have T229 : u223.1 60 16 = t55 := (fk_at gu223 (by decide)).trans Tt55
            obtain ⟨t230, Tt230⟩ : ∃ t, u223.1 60 18 = t := ⟨_, rfl⟩
            have Rt230 : 0 ≤ t230 ∧ t230 ≤ 6 := by rw [← Tt230]; exact iv_at hu223 _ _ rfl
            obtain ⟨t231, Tt231⟩ : ∃ t, u223.1 60 19 = t := ⟨_, rfl⟩
            have wu223_60_3 : u223.1 60 3 = u50.1 60 3 := fk_at gu223 (by decide)
            have CC : 0 ≤ i48 ∧ i48 < 160 := by grind
            have RF : u223.1 60 18 = (pRes f N).1.1 ∧ (¬ (pRes f N).1.1 = 0 → u223.1 60 19 = (pRes f N).1.2.1) ∧ ((pRes f N).1.1 = 0 → i48 = (pRes f N).2) := Rr_E hN CC.1 CC.2 ji492 (by grind) (by grind) (iv_at hu50 60 7 rfl) (fun q => by grind) (fun q => by grind)
            refine g_aload_n dX7_text_73 rfl ?_
            refine g_iconst (v := 0) dX7_text_74 (by decide) ?_
            refine p_X7_88 rfl rfl dX7_text_75 ?_
            refine g_mem (fun u232 eu232 => ?_)
            have hu232 : iv u232 := by rw [eu232]; exact iv_up hu223 rfl (by first | lia | grind) (by first | lia | grind)
            have fu232 : fk [60, 61, 63, 64, 65, 66, 67, 68] [22, 28] u u232 := by rw [eu232]; exact fk_up fu223 (by decide) (fun _ => by decide)
            have riu232 : ri u232 := by rw [eu232]; exact ri_1 riu223 (by decide) (fun _ => by decide)
            have rfu232 : rf u232 := by rw [eu232]; exact rf_1 rfu223 (by decide)
            have s233 : u232.1 60 13 = 0 := by rw [eu232, uk_up_at]; exact if_pos ⟨rfl, rfl⟩
            have T234 : u232.1 60 7 = t51 := by rw [eu232, uk_up_at, if_neg (by decide)]; exact T225
            have T235 : u232.1 60 11 = t52 := by rw [eu232, uk_up_at, if_neg (by decide)]; exact T226
            have T236 : u232.1 60 15 = t54 := by rw [eu232, uk_up_at, if_neg (by decide)]; exact T228
            have T237 : u232.1 60 16 = t55 := by rw [eu232, uk_up_at, if_neg (by decide)]; exact T229
            have T238 : u232.1 60 18 = t230 := by rw [eu232, uk_up_at, if_neg (by decide)]; exact Tt230
            have T239 : u232.1 60 19 = t231 := by rw [eu232, uk_up_at, if_neg (by decide)]; exact Tt231
            refine g_aload_n dX7_text_78 rfl ?_
            refine f_X7_91 rfl rfl dX7_text_79 ?_
            refine g_topi (fun x240 ex240 => ?_)
            have rx240 : 0 ≤ x240 ∧ x240 ≤ 6 := by rw [ex240]; exact iv_at hu232 _ _ rfl
            have qx240 : x240 = t230 := ex240.trans T238
            refine g_if_le (tgt := 93) dX7_text_82 (by decide) (fun c241 => ?_) (fun c241 => ?_)
            · refine g_aload_n dX7_text_93 rfl ?_
              have rdx242 : rd u232 := rfu232 (by grind)
              refine cl_X7_66 (c := 60) (As := []) rfl (c_X7_keepDraft (G := G) hs hu232 rdx242    (d + 4)) rfl (by omega) rfl rfl (Nat.le_of_ble_eq_true rfl) dX7_text_94 (fun r243 u244 q245 => ?_)
              obtain ⟨rfl, mq245⟩ := q245
              obtain ⟨hu244, gu244, riu244⟩ := mq245
              have fu244 : fk [60, 61, 63, 64, 65, 66, 67, 68] [22, 28] u u244 := fk_tr fu232 gu244 (by decide) (by decide)
              have T246 : u244.1 60 7 = t51 := (fk_at gu244 (by decide)).trans T234
              have T247 : u244.1 60 11 = t52 := (fk_at gu244 (by decide)).trans T235
              have T248 : u244.1 60 13 = 0 := (fk_at gu244 (by decide)).trans s233
              have T249 : u244.1 60 15 = t54 := (fk_at gu244 (by decide)).trans T236
              have T250 : u244.1 60 16 = t55 := (fk_at gu244 (by decide)).trans T237
              have T251 : u244.1 60 18 = t230 := (fk_at gu244 (by decide)).trans T238
              have T252 : u244.1 60 19 = t231 := (fk_at gu244 (by decide)).trans T239
              have s253 : u244.1 60 13 = 0 := (fk_at gu244 (by decide)).trans s233
              refine g_iload_n dX7_text_97 rfl ?_
              exact g_iret (ty := .int) dX7_text_98 rfl rfl ⟨⟨_, rfl, Or.inr ⟨by rw [← RF.1]; grind, RF.2.2 (by rw [← RF.1]; grind)⟩⟩, hu244, fu244, riu244, (T248.trans (by grind)), (by rw [T251, ← RF.1]; grind)⟩
            · refine g_bipush (v := (-10)) dX7_text_85 (by decide) ?_
              refine g_aload_n dX7_text_87 rfl ?_
              refine f_X7_97 rfl rfl dX7_text_88 ?_
              refine g_topi (fun x254 ex254 => ?_)
              have qx254 : x254 = t231 := ex254.trans T239
              refine g_isub dX7_text_91 ?_
              refine g_topi (fun x255 ex255 => ?_)
              exact g_iret (ty := .int) dX7_text_92 rfl rfl ⟨⟨_, rfl, Or.inl ⟨by rw [← RF.1]; grind, by rw [ex255, ← RF.2.1 (by rw [← RF.1]; grind)]; grind⟩⟩, hu232, fu232, riu232, (s233.trans (by grind)), (by rw [T238, ← RF.1]; grind)⟩
      · obtain ⟨b9, B1, B2, B3, B5, B6, B8⟩ := Rr_open ji492 (by grind)
        refine g_aload_n dX7_text_34 rfl ?_
        refine cl_X7_150 (c := 60) (As := []) rfl (c_X7_readLine_s (G := G) hs hu50 rfu50  f N b9 B2 (by grind) B5 B6 B8 (d)) rfl (by omega) rfl rfl (Nat.le_of_ble_eq_true rfl) dX7_text_35 (fun r256 u257 q258 => ?_)
        obtain ⟨rfl, mq258⟩ := q258
        obtain ⟨hu257, gu257, rfu257, ku2570, ku2571, ku2572, ku2573⟩ := mq258
        have fu257 : fk [60, 61, 63, 64, 65, 66, 67, 68] [22, 28] u u257 := fk_tr fu50 gu257 (by decide) (by decide)
        have riu257 : ri u257 := ri_fk riu50 gu257 (by decide) (by decide) (by decide) (by decide) (by decide)
        obtain ⟨t259, Tt259⟩ : ∃ t, u257.1 60 7 = t := ⟨_, rfl⟩
        have Rt259 : 0 ≤ t259 ∧ t259 ≤ 8 := by rw [← Tt259]; exact iv_at hu257 _ _ rfl
        obtain ⟨t260, Tt260⟩ : ∃ t, u257.1 60 11 = t := ⟨_, rfl⟩
        have T261 : u257.1 60 13 = t53 := (fk_at gu257 (by decide)).trans Tt53
        obtain ⟨t262, Tt262⟩ : ∃ t, u257.1 60 15 = t := ⟨_, rfl⟩
        have Rt262 : 0 ≤ t262 ∧ t262 ≤ 160 := by rw [← Tt262]; exact iv_at hu257 _ _ rfl
        obtain ⟨t263, Tt263⟩ : ∃ t, u257.1 60 16 = t := ⟨_, rfl⟩
        obtain ⟨t264, Tt264⟩ : ∃ t, u257.1 60 18 = t := ⟨_, rfl⟩
        have Rt264 : 0 ≤ t264 ∧ t264 ≤ 6 := by rw [← Tt264]; exact iv_at hu257 _ _ rfl
        obtain ⟨t265, Tt265⟩ : ∃ t, u257.1 60 19 = t := ⟨_, rfl⟩
        have wu257_60_3 : u257.1 60 3 = u50.1 60 3 := fk_at gu257 (by decide)
        refine g_iinc (v := i48 + 1) dX7_text_38 rfl rfl (by decide) ?_
        refine g_goto (tgt := 20) dX7_text_41 (by decide) ?_
        refine g_pick (lv' := [(0, .ref (uk_ad G 60)), (1, .int (i48 + 1))]) [0, 1] rfl ?_
        exact ihi49 (tx_ms u257) (tx_lt ki49 hu50 (by grind) ku2571) (tx_b hu257).2 ((i48 + 1)) u257 hu257 fu257 riu257 rfu257 rfl ⟨by have := iv_at hu50 60 15 (lo := 0) (hi := 160) rfl; grind, by have := iv_at hu50 60 15 (lo := 0) (hi := 160) rfl; grind⟩ (fun q => by have := iv_at hu50 60 15 (lo := 0) (hi := 160) rfl; have := ku2571 q; grind) (Rr_step hN (by grind) (by have := iv_at hu50 60 15 (lo := 0) (hi := 160) rfl; grind) (by grind) (by grind) B2 B3 ku2572 ku2573)
  refine g_pick (lv' := [(0, .ref (uk_ad G 60)), (1, .int 0)]) [0, 1] rfl ?_
  exact L20_46 (tx_ms u38) (tx_b hu38).1 (tx_b hu38).2 0 u38 hu38 fu38 riu38 rfu38 rfl ⟨by decide, by decide⟩ (fun q => by have := iv_at hu38 60 15 (lo := 0) (hi := 160) rfl; grind) R0
