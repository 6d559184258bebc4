abbrev q_X7_keepDraft_t (u : uk_Mem)  (r : Option Value) (u' : uk_Mem) : Prop := (r = none) ∧ (iv u' ∧ fk [60, 61, 63, 64, 65] [7, 10, 11, 13, 14, 15, 16, 17, 18, 19, 22, 28] u u' ∧ ri u' ∧ u'.1 60 3 = u.1 60 7 ∧ cpy (u'.1 61) (u.1 66) 51 ∧ cpy (u'.1 64) (u.1 67) (u.1 60 7) ∧ cpy (u'.1 65) (u.1 68) (u.1 60 7) ∧ u'.1 63 0 = 0 ∧ u'.1 63 1 = 0)
set_option maxHeartbeats 4000000 in
set_option maxRecDepth 20000 in
theorem c_X7_keepDraft_t {G : uk_D} (hs : uk_Sep G) {u : uk_Mem} (hu : iv u) (hrd : rd u)  (d : Nat) : uk_Meth G d mX7_keepDraft [.ref (uk_ad G 60)] u (q_X7_keepDraft_t u) := by
  refine uk_Meth.of hs (by decide) (Nat.le_of_ble_eq_true rfl) (fun X => ?_)
  have f0 : fk [60, 61, 63, 64, 65] [7, 10, 11, 13, 14, 15, 16, 17, 18, 19, 22, 28] u u := fk_rf
  obtain ⟨t1, Tt1⟩ : ∃ t, u.1 60 3 = t := ⟨_, rfl⟩
  refine g_iconst (v := 0) dX7_keepDraft_0 (by decide) ?_
  refine g_istore_n dX7_keepDraft_1 (by decide) ?_
  refine g_pick (lv' := [(0, .ref (uk_ad G 60)), (1, .int 0)]) [0, 1] rfl ?_
  have L2_1 : ∀ i3 : Int32, 0 ≤ i3 → i3 ≤ 51 → ∀ (u4 : uk_Mem), iv u4 → fk [60, 61, 63, 64, 65] [7, 10, 11, 13, 14, 15, 16, 17, 18, 19, 22, 28] u u4 → cpy (u4.1 61) (u.1 66) i3 → uk_G G X mX7_keepDraft d (q_X7_keepDraft_t u) 2 [(0, .ref (uk_ad G 60)), (1, .int i3)] [] u4 := by
    refine uk_upl 51 ?_
    intro i3 ai3 bi3 ihi3  u4 hu4 fu4 ji30
    obtain ⟨t5, Tt5⟩ : ∃ t, u4.1 60 3 = t := ⟨_, rfl⟩
    have Rt5 : 0 ≤ t5 ∧ t5 ≤ 8 := by rw [← Tt5]; exact iv_at hu4 _ _ rfl
    refine g_iload_n dX7_keepDraft_2 rfl ?_
    refine g_bipush (v := 51) dX7_keepDraft_3 (by decide) ?_
    refine g_icmp_ge (tgt := 26) dX7_keepDraft_5 (by decide) (fun c6 => ?_) (fun c6 => ?_)
    · refine g_aload_n dX7_keepDraft_26 rfl ?_
      refine g_aload_n dX7_keepDraft_27 rfl ?_
      refine f_X7_69 rfl rfl dX7_keepDraft_28 ?_
      refine g_topi (fun x7 ex7 => ?_)
      have rx7 : 0 ≤ x7 ∧ x7 ≤ 8 := by rw [ex7]; exact iv_at hu4 _ _ rfl
      have s8 : u4.1 60 7 = x7 := ex7.symm
      refine p_X7_79 rfl rfl dX7_keepDraft_31 ?_
      refine g_mem (fun u9 eu9 => ?_)
      have hu9 : iv u9 := by rw [eu9]; exact iv_up hu4 rfl (by first | lia | grind) (by first | lia | grind)
      have fu9 : fk [60, 61, 63, 64, 65] [7, 10, 11, 13, 14, 15, 16, 17, 18, 19, 22, 28] u u9 := by rw [eu9]; exact fk_up fu4 (by decide) (fun _ => by decide)
      have s10 : u9.1 60 3 = x7 := by rw [eu9, uk_up_at]; exact if_pos ⟨rfl, rfl⟩
      refine g_iconst (v := 0) dX7_keepDraft_34 (by decide) ?_
      refine g_istore_n dX7_keepDraft_35 (by decide) ?_
      refine g_pick (lv' := [(0, .ref (uk_ad G 60)), (1, .int 0)]) [0, 1] rfl ?_
      have L36_10 : ∀ i12 : Int32, 0 ≤ i12 → i12 ≤ 8 → ∀ (u13 : uk_Mem), iv u13 → fk [60, 61, 63, 64, 65] [7, 10, 11, 13, 14, 15, 16, 17, 18, 19, 22, 28] u u13 → cpy (u13.1 61) (u.1 66) 51 → cpy (u13.1 64) (u.1 67) i12 → cpy (u13.1 65) (u.1 68) i12 → u13.1 60 3 = u.1 60 7 → uk_G G X mX7_keepDraft d (q_X7_keepDraft_t u) 36 [(0, .ref (uk_ad G 60)), (1, .int i12)] [] u13 := by
        refine uk_upl 8 ?_
        intro i12 ai12 bi12 ihi12  u13 hu13 fu13 ji120 ji121 ji122 ji123
        have C61_u13 : u13.1 61 = u13.1 61 := rfl
        have C63_u13 : u13.1 63 = u13.1 63 := rfl
        have C64_u13 : u13.1 64 = u13.1 64 := rfl
        have C65_u13 : u13.1 65 = u13.1 65 := rfl
        obtain ⟨t14, Tt14⟩ : ∃ t, u13.1 60 3 = t := ⟨_, rfl⟩
        have Rt14 : 0 ≤ t14 ∧ t14 ≤ 8 := by rw [← Tt14]; exact iv_at hu13 _ _ rfl
        refine g_iload_n dX7_keepDraft_36 rfl ?_
        refine g_aload_n dX7_keepDraft_37 rfl ?_
        refine f_X7_79 rfl rfl dX7_keepDraft_38 ?_
        refine g_topi (fun x15 ex15 => ?_)
        have rx15 : 0 ≤ x15 ∧ x15 ≤ 8 := by rw [ex15]; exact iv_at hu13 _ _ rfl
        have qx15 : x15 = t14 := ex15.trans Tt14
        refine g_icmp_ge (tgt := 74) dX7_keepDraft_41 (by decide) (fun c16 => ?_) (fun c16 => ?_)
        · refine g_aload_n dX7_keepDraft_74 rfl ?_
          refine f_X7_16 rfl rfl dX7_keepDraft_75 ?_
          refine g_iconst (v := 0) dX7_keepDraft_78 (by decide) ?_
          refine g_iconst (v := 0) dX7_keepDraft_79 (by decide) ?_
          have v17 : vp_in 0 2 := uk_vin 2 rfl (by first | decide | lia | grind) (by first | decide | lia | grind)
          have b18 := uk_cl v17
          refine g_zast rfl rfl v17 dX7_keepDraft_80 ?_
          rw [show vp_nar .boolean 0 = 0 from rfl]
          refine g_mem (fun u19 eu19 => ?_)
          have hu19 : iv u19 := by rw [eu19]; exact iv_up hu13 (uk_pick1 _ (by omega)) (by first | lia | grind) (by first | lia | grind)
          have fu19 : fk [60, 61, 63, 64, 65] [7, 10, 11, 13, 14, 15, 16, 17, 18, 19, 22, 28] u u19 := by rw [eu19]; exact fk_up fu13 (by decide) (fun q => absurd q (by decide))
          have T20 : u19.1 60 3 = t14 := by rw [eu19]; exact (congrFun (uk_up_oc (by decide)) _).trans Tt14
          have C21 : u19.1 61 = u13.1 61 := by rw [eu19]; exact (uk_up_oc (by decide)).trans C61_u13
          have C22 : u19.1 63 = (upd (u13.1 63) (0 : Int32).toNatClampNeg 0) := by rw [eu19, uk_up_self, C63_u13]
          have C23 : u19.1 64 = u13.1 64 := by rw [eu19]; exact (uk_up_oc (by decide)).trans C64_u13
          have C24 : u19.1 65 = u13.1 65 := by rw [eu19]; exact (uk_up_oc (by decide)).trans C65_u13
          refine g_aload_n dX7_keepDraft_81 rfl ?_
          refine f_X7_16 rfl rfl dX7_keepDraft_82 ?_
          refine g_iconst (v := 1) dX7_keepDraft_85 (by decide) ?_
          refine g_iconst (v := 0) dX7_keepDraft_86 (by decide) ?_
          have v25 : vp_in 1 2 := uk_vin 2 rfl (by first | decide | lia | grind) (by first | decide | lia | grind)
          have b26 := uk_cl v25
          refine g_zast rfl rfl v25 dX7_keepDraft_87 ?_
          rw [show vp_nar .boolean 0 = 0 from rfl]
          refine g_mem (fun u27 eu27 => ?_)
          have hu27 : iv u27 := by rw [eu27]; exact iv_up hu19 (uk_pick1 _ (by omega)) (by first | lia | grind) (by first | lia | grind)
          have fu27 : fk [60, 61, 63, 64, 65] [7, 10, 11, 13, 14, 15, 16, 17, 18, 19, 22, 28] u u27 := by rw [eu27]; exact fk_up fu19 (by decide) (fun q => absurd q (by decide))
          have T28 : u27.1 60 3 = t14 := by rw [eu27]; exact (congrFun (uk_up_oc (by decide)) _).trans T20
          have C29 : u27.1 61 = u13.1 61 := by rw [eu27]; exact (uk_up_oc (by decide)).trans C21
          have C30 : u27.1 63 = (upd ((upd (u13.1 63) (0 : Int32).toNatClampNeg 0)) (1 : Int32).toNatClampNeg 0) := by rw [eu27, uk_up_self, C22]
          have C31 : u27.1 64 = u13.1 64 := by rw [eu27]; exact (uk_up_oc (by decide)).trans C23
          have C32 : u27.1 65 = u13.1 65 := by rw [eu27]; exact (uk_up_oc (by decide)).trans C24
          exact g_vret dX7_keepDraft_88 rfl ⟨rfl, hu27, fu27, (ri_draft hrd (T28.trans (by grind)) (iv_at hu 60 7 rfl).2 (by rw [C29]; exact ji120) (by rw [C31]; exact cpy_le ji121 (by grind)) (by rw [C32]; exact cpy_le ji122 (by grind)) (by rw [C30]; rfl) (by rw [C30]; rfl)), (T28.trans (by grind)), (by rw [C29]; exact ji120), (by rw [C31]; exact cpy_le ji121 (by grind)), (by rw [C32]; exact cpy_le ji122 (by grind)), (by rw [C30]; rfl), (by rw [C30]; rfl)⟩
        · refine g_aload_n dX7_keepDraft_44 rfl ?_
          refine f_X7_20 rfl rfl dX7_keepDraft_45 ?_
          refine g_iload_n dX7_keepDraft_48 rfl ?_
          refine g_aload_n dX7_keepDraft_49 rfl ?_
          refine f_X7_29 rfl rfl dX7_keepDraft_50 ?_
          refine g_iload_n dX7_keepDraft_53 rfl ?_
          have v33 : vp_in i12 8 := uk_vin 8 rfl (by first | decide | lia | grind) (by first | decide | lia | grind)
          refine g_iald rfl rfl v33 dX7_keepDraft_54 ?_
          refine g_topi (fun x34 ex34 => ?_)
          have bx34 := uk_cl v33
          have rx34 : (-4) ≤ x34 ∧ x34 ≤ 7 := by rw [ex34]; exact iv_at hu13 _ _ (uk_pick1 _ (by omega))
          have v35 : vp_in i12 8 := uk_vin 8 rfl (by first | decide | lia | grind) (by first | decide | lia | grind)
          have b36 := uk_cl v35
          refine g_iast rfl rfl v35 dX7_keepDraft_55 ?_
          refine g_mem (fun u37 eu37 => ?_)
          have hu37 : iv u37 := by rw [eu37]; exact iv_up hu13 (uk_pick1 _ (by omega)) (by first | lia | grind) (by first | lia | grind)
          have fu37 : fk [60, 61, 63, 64, 65] [7, 10, 11, 13, 14, 15, 16, 17, 18, 19, 22, 28] u u37 := by rw [eu37]; exact fk_up fu13 (by decide) (fun q => absurd q (by decide))
          have T38 : u37.1 60 3 = t14 := by rw [eu37]; exact (congrFun (uk_up_oc (by decide)) _).trans Tt14
          have C39 : u37.1 61 = u13.1 61 := by rw [eu37]; exact (uk_up_oc (by decide)).trans C61_u13
          have C40 : u37.1 63 = u13.1 63 := by rw [eu37]; exact (uk_up_oc (by decide)).trans C63_u13
          have C41 : u37.1 64 = (upd (u13.1 64) (i12 : Int32).toNatClampNeg x34) := by rw [eu37, uk_up_self, C64_u13]
          have C42 : u37.1 65 = u13.1 65 := by rw [eu37]; exact (uk_up_oc (by decide)).trans C65_u13
          refine g_aload_n dX7_keepDraft_56 rfl ?_
          refine f_X7_23 rfl rfl dX7_keepDraft_57 ?_
          refine g_iload_n dX7_keepDraft_60 rfl ?_
          refine g_aload_n dX7_keepDraft_61 rfl ?_
          refine f_X7_32 rfl rfl dX7_keepDraft_62 ?_
          refine g_iload_n dX7_keepDraft_65 rfl ?_
          have v43 : vp_in i12 8 := uk_vin 8 rfl (by first | decide | lia | grind) (by first | decide | lia | grind)
          refine g_iald rfl rfl v43 dX7_keepDraft_66 ?_
          refine g_topi (fun x44 ex44 => ?_)
          have bx44 := uk_cl v43
          have rx44 : (-4) ≤ x44 ∧ x44 ≤ 7 := by rw [ex44]; exact iv_at hu37 _ _ (uk_pick1 _ (by omega))
          have v45 : vp_in i12 8 := uk_vin 8 rfl (by first | decide | lia | grind) (by first | decide | lia | grind)
          have b46 := uk_cl v45
          refine g_iast rfl rfl v45 dX7_keepDraft_67 ?_
          refine g_mem (fun u47 eu47 => ?_)
          have hu47 : iv u47 := by rw [eu47]; exact iv_up hu37 (uk_pick1 _ (by omega)) (by first | lia | grind) (by first | lia | grind)
          have fu47 : fk [60, 61, 63, 64, 65] [7, 10, 11, 13, 14, 15, 16, 17, 18, 19, 22, 28] u u47 := by rw [eu47]; exact fk_up fu37 (by decide) (fun q => absurd q (by decide))
          have T48 : u47.1 60 3 = t14 := by rw [eu47]; exact (congrFun (uk_up_oc (by decide)) _).trans T38
          have C49 : u47.1 61 = u13.1 61 := by rw [eu47]; exact (uk_up_oc (by decide)).trans C39
          have C50 : u47.1 63 = u13.1 63 := by rw [eu47]; exact (uk_up_oc (by decide)).trans C40
          have C51 : u47.1 64 = (upd (u13.1 64) (i12 : Int32).toNatClampNeg x34) := by rw [eu47]; exact (uk_up_oc (by decide)).trans C41
          have C52 : u47.1 65 = (upd (u13.1 65) (i12 : Int32).toNatClampNeg x44) := by rw [eu47, uk_up_self, C42]
          refine g_iinc (v := i12 + 1) dX7_keepDraft_68 rfl rfl (by decide) ?_
          refine g_pick (lv' := [(0, .ref (uk_ad G 60)), (1, .int (i12 + 1))]) [0, 1] rfl ?_
          refine g_goto (tgt := 36) dX7_keepDraft_71 (by decide) ?_
          refine g_pick (lv' := [(0, .ref (uk_ad G 60)), (1, .int (i12 + 1))]) [0, 1] rfl ?_
          exact ihi12 (by first | lia | grind)  u47 hu47 fu47 (by rw [C49]; exact ji120) (by rw [C51]; exact cpy_up ji121 (by lia) (ex34.trans (congrFun (fk_c fu13 (by decide)) _))) (by rw [C52]; exact cpy_up ji122 (by lia) (ex44.trans (congrFun (fk_c fu37 (by decide)) _))) (by grind)
      refine g_pick (lv' := [(0, .ref (uk_ad G 60)), (1, .int 0)]) [0, 1] rfl ?_
      exact L36_10 0 (by first | decide | lia | grind) (by first | decide | lia | grind)  u9 hu9 fu9 (by rw [eu9, uk_up_oc (by decide)]; exact (show i3 = 51 by grind) ▸ ji30) cpy_0 cpy_0 (s10.trans (ex7.trans (fk_at fu4 (by decide))))
    · refine g_aload_n dX7_keepDraft_8 rfl ?_
      refine f_X7_7 rfl rfl dX7_keepDraft_9 ?_
      refine g_iload_n dX7_keepDraft_12 rfl ?_
      refine g_aload_n dX7_keepDraft_13 rfl ?_
      refine f_X7_26 rfl rfl dX7_keepDraft_14 ?_
      refine g_iload_n dX7_keepDraft_17 rfl ?_
      have v53 : vp_in i3 51 := uk_vin 51 rfl (by first | decide | lia | grind) (by first | decide | lia | grind)
      refine g_iald rfl rfl v53 dX7_keepDraft_18 ?_
      refine g_topi (fun x54 ex54 => ?_)
      have bx54 := uk_cl v53
      have v55 : vp_in i3 153 := uk_vin 153 rfl (by first | decide | lia | grind) (by first | decide | lia | grind)
      have b56 := uk_cl v55
      refine g_iast rfl rfl v55 dX7_keepDraft_19 ?_
      refine g_mem (fun u57 eu57 => ?_)
      have hu57 : iv u57 := by rw [eu57]; exact iv_cp hu4 hu4 (by unfold uk_is51; decide) (by unfold uk_is51; decide) (by omega) ex54
      have fu57 : fk [60, 61, 63, 64, 65] [7, 10, 11, 13, 14, 15, 16, 17, 18, 19, 22, 28] u u57 := by rw [eu57]; exact fk_up fu4 (by decide) (fun q => absurd q (by decide))
      have T58 : u57.1 60 3 = t5 := by rw [eu57]; exact (congrFun (uk_up_oc (by decide)) _).trans Tt5
      refine g_iinc (v := i3 + 1) dX7_keepDraft_20 rfl rfl (by decide) ?_
      refine g_pick (lv' := [(0, .ref (uk_ad G 60)), (1, .int (i3 + 1))]) [0, 1] rfl ?_
      refine g_goto (tgt := 2) dX7_keepDraft_23 (by decide) ?_
      refine g_pick (lv' := [(0, .ref (uk_ad G 60)), (1, .int (i3 + 1))]) [0, 1] rfl ?_
      exact ihi3 (by first | lia | grind)  u57 hu57 fu57 (by rw [eu57, uk_up_self]; exact cpy_up ji30 (by lia) (ex54.trans (congrFun (fk_c fu4 (by decide)) _)))
  refine g_pick (lv' := [(0, .ref (uk_ad G 60)), (1, .int 0)]) [0, 1] rfl ?_
  exact L2_1 0 (by first | decide | lia | grind) (by first | decide | lia | grind)  u hu f0 cpy_0
abbrev q_X7_firstDraft_t (u : uk_Mem)  (r : Option Value) (u' : uk_Mem) : Prop := (r = none) ∧ (iv u' ∧ fk [60, 66] [3, 13, 14, 15, 16, 17, 18, 19, 22, 28] u u' ∧ rf u' ∧ u'.1 60 7 = 0 ∧ u'.1 60 10 = 0 ∧ u'.1 60 11 = -4 ∧ (∀ j, j < 51 → u'.1 66 j = 0))
set_option maxHeartbeats 4000000 in
set_option maxRecDepth 20000 in
theorem c_X7_firstDraft_t {G : uk_D} (hs : uk_Sep G) {u : uk_Mem} (hu : iv u)  (d : Nat) : uk_Meth G d mX7_firstDraft [.ref (uk_ad G 60)] u (q_X7_firstDraft_t u) := by
  refine uk_Meth.of hs (by decide) (Nat.le_of_ble_eq_true rfl) (fun X => ?_)
  have f0 : fk [60, 66] [3, 13, 14, 15, 16, 17, 18, 19, 22, 28] u u := fk_rf
  refine g_iconst (v := 0) dX7_firstDraft_0 (by decide) ?_
  refine g_istore_n dX7_firstDraft_1 (by decide) ?_
  refine g_pick (lv' := [(0, .ref (uk_ad G 60)), (1, .int 0)]) [0, 1] rfl ?_
  have L2_0 : ∀ i2 : Int32, 0 ≤ i2 → i2 ≤ 51 → ∀ (u3 : uk_Mem), iv u3 → fk [60, 66] [3, 13, 14, 15, 16, 17, 18, 19, 22, 28] u u3 → aq0 u3 i2 → uk_G G X mX7_firstDraft d (q_X7_firstDraft_t u) 2 [(0, .ref (uk_ad G 60)), (1, .int i2)] [] u3 := by
    refine uk_upl 51 ?_
    intro i2 ai2 bi2 ihi2  u3 hu3 fu3 ji20
    refine g_iload_n dX7_firstDraft_2 rfl ?_
    refine g_bipush (v := 51) dX7_firstDraft_3 (by decide) ?_
    refine g_icmp_ge (tgt := 21) dX7_firstDraft_5 (by decide) (fun c4 => ?_) (fun c4 => ?_)
    · refine g_aload_n dX7_firstDraft_21 rfl ?_
      refine g_iconst (v := 0) dX7_firstDraft_22 (by decide) ?_
      refine p_X7_69 rfl rfl dX7_firstDraft_23 ?_
      refine g_mem (fun u5 eu5 => ?_)
      have hu5 : iv u5 := by rw [eu5]; exact iv_up hu3 rfl (by first | lia | grind) (by first | lia | grind)
      have fu5 : fk [60, 66] [3, 13, 14, 15, 16, 17, 18, 19, 22, 28] u u5 := by rw [eu5]; exact fk_up fu3 (by decide) (fun _ => by decide)
      have s6 : u5.1 60 7 = 0 := by rw [eu5, uk_up_at]; exact if_pos ⟨rfl, rfl⟩
      refine g_aload_n dX7_firstDraft_26 rfl ?_
      refine g_iconst (v := 0) dX7_firstDraft_27 (by decide) ?_
      refine p_X7_73 rfl rfl dX7_firstDraft_28 ?_
      refine g_mem (fun u7 eu7 => ?_)
      have hu7 : iv u7 := by rw [eu7]; exact iv_upF hu5 rfl
      have fu7 : fk [60, 66] [3, 13, 14, 15, 16, 17, 18, 19, 22, 28] u u7 := by rw [eu7]; exact fk_up fu5 (by decide) (fun _ => by decide)
      have s8 : u7.1 60 10 = 0 := by rw [eu7, uk_up_at]; exact if_pos ⟨rfl, rfl⟩
      refine g_aload_n dX7_firstDraft_31 rfl ?_
      refine g_bipush (v := (-4)) dX7_firstDraft_32 (by decide) ?_
      refine p_X7_76 rfl rfl dX7_firstDraft_34 ?_
      refine g_mem (fun u9 eu9 => ?_)
      have hu9 : iv u9 := by rw [eu9]; exact iv_upF hu7 rfl
      have fu9 : fk [60, 66] [3, 13, 14, 15, 16, 17, 18, 19, 22, 28] u u9 := by rw [eu9]; exact fk_up fu7 (by decide) (fun _ => by decide)
      have s10 : u9.1 60 11 = (-4) := by rw [eu9, uk_up_at]; exact if_pos ⟨rfl, rfl⟩
      exact g_vret dX7_firstDraft_37 rfl ⟨rfl, hu9, fu9, (fun _ => rd_0 (by grind [uk_up_at])), (by grind [uk_up_at]), (by grind [uk_up_at]), (by grind [uk_up_at]), (fun j hj => by rw [eu9, uk_up_oc (by decide), eu7, uk_up_oc (by decide), eu5, uk_up_oc (by decide)]; exact ji20 j (by have := uk_cge 51 51 rfl (i := i2) (by grind); omega))⟩
    · refine g_aload_n dX7_firstDraft_8 rfl ?_
      refine f_X7_26 rfl rfl dX7_firstDraft_9 ?_
      refine g_iload_n dX7_firstDraft_12 rfl ?_
      refine g_iconst (v := 0) dX7_firstDraft_13 (by decide) ?_
      have v11 : vp_in i2 51 := uk_vin 51 rfl (by first | decide | lia | grind) (by first | decide | lia | grind)
      have b12 := uk_cl v11
      refine g_iast rfl rfl v11 dX7_firstDraft_14 ?_
      refine g_mem (fun u13 eu13 => ?_)
      have hu13 : iv u13 := by rw [eu13]; exact iv_st hu3 (by unfold uk_is51; decide) (by first | decide | lia | grind) (by first | decide | lia | grind) (fun q => by first | decide | lia | grind) (fun q => by first | decide | lia | grind) (fun q => by first | decide | lia | grind)
      have fu13 : fk [60, 66] [3, 13, 14, 15, 16, 17, 18, 19, 22, 28] u u13 := by rw [eu13]; exact fk_up fu3 (by decide) (fun q => absurd q (by decide))
      refine g_iinc (v := i2 + 1) dX7_firstDraft_15 rfl rfl (by decide) ?_
      refine g_pick (lv' := [(0, .ref (uk_ad G 60)), (1, .int (i2 + 1))]) [0, 1] rfl ?_
      refine g_goto (tgt := 2) dX7_firstDraft_18 (by decide) ?_
      refine g_pick (lv' := [(0, .ref (uk_ad G 60)), (1, .int (i2 + 1))]) [0, 1] rfl ?_
      exact ihi2 (by first | lia | grind)  u13 hu13 fu13 (aq0_s ji20 (by grind) (by grind) eu13)
  refine g_pick (lv' := [(0, .ref (uk_ad G 60)), (1, .int 0)]) [0, 1] rfl ?_
  exact L2_0 0 (by first | decide | lia | grind) (by first | decide | lia | grind)  u hu f0 aq0_0
abbrev q_X7_text_t (u : uk_Mem) (f : Nat → Int32) (N : Int32) (r : Option Value) (u' : uk_Mem) : Prop := (∃ x : Int32, r = some (.int x) ∧ ((¬ (pRes f N).1.1 = 0 ∧ x = -10 - (pRes f N).1.2.1) ∨ ((pRes f N).1.1 = 0 ∧ x = (pRes f N).2))) ∧ (iv u' ∧ fk [60, 61, 63, 64, 65, 66, 67, 68] [22, 28] u u' ∧ ri u' ∧ u'.1 60 13 = 0 ∧ u'.1 60 18 = (pRes f N).1.1 ∧ ((pRes f N).1.1 = 0 → RwG (u'.1 60 3) (u'.1 61) (u'.1 64) (u'.1 65) (wIt f N (pRes f N).2.toNatClampNeg) ∧ u'.1 60 3 = (pIt f N (pRes f N).2.toNatClampNeg).2.2.2.1 ∧ u'.1 63 0 = 0 ∧ u'.1 63 1 = 0) ∧ (¬ (pRes f N).1.1 = 0 → u'.1 61 = u.1 61 ∧ u'.1 63 = u.1 63 ∧ u'.1 64 = u.1 64 ∧ u'.1 65 = u.1 65 ∧ u'.1 60 3 = u.1 60 3))
set_option maxHeartbeats 4000000 in
set_option maxRecDepth 20000 in
theorem c_X7_text_t {G : uk_D} (hs : uk_Sep G) {u : uk_Mem} (hu : iv u) (hri : ri u) (f : Nat → Int32) (N : Int32) (p0 : cpy (u.1 69) f N) (p1 : u.1 60 13 = N) (d : Nat) : uk_Meth G (d + 5) mX7_text [.ref (uk_ad G 60)] u (q_X7_text_t u f N) := by
  refine uk_Meth.of hs (by decide) (Nat.le_of_ble_eq_true rfl) (fun X => ?_)
  have f0 : fk [60, 61, 63, 64, 65, 66, 67, 68] [22, 28] u u := fk_rf
  obtain ⟨t1, Tt1⟩ : ∃ t, u.1 60 7 = t := ⟨_, rfl⟩
  obtain ⟨t2, Tt2⟩ : ∃ t, u.1 60 11 = t := ⟨_, rfl⟩
  obtain ⟨t3, Tt3⟩ : ∃ t, u.1 60 13 = t := ⟨_, rfl⟩
  obtain ⟨t4, Tt4⟩ : ∃ t, u.1 60 15 = t := ⟨_, rfl⟩
  obtain ⟨t5, Tt5⟩ : ∃ t, u.1 60 16 = t := ⟨_, rfl⟩
  obtain ⟨t6, Tt6⟩ : ∃ t, u.1 60 18 = t := ⟨_, rfl⟩
  obtain ⟨t7, Tt7⟩ : ∃ t, u.1 60 19 = t := ⟨_, rfl⟩
  refine g_iconst (v := 0) dX7_text_0 (by decide) ?_
  refine g_istore_n dX7_text_1 (by decide) ?_
  refine g_pick (lv' := [(0, .ref (uk_ad G 60)), (1, .int 0)]) [0, 1] rfl ?_
  refine g_aload_n dX7_text_2 rfl ?_
  refine g_iconst (v := 0) dX7_text_3 (by decide) ?_
  refine p_X7_91 rfl rfl dX7_text_4 ?_
  refine g_mem (fun u8 eu8 => ?_)
  have hu8 : iv u8 := by rw [eu8]; exact iv_up hu rfl (by first | lia | grind) (by first | lia | grind)
  have fu8 : fk [60, 61, 63, 64, 65, 66, 67, 68] [22, 28] u u8 := by rw [eu8]; exact fk_up f0 (by decide) (fun _ => by decide)
  have riu8 : ri u8 := by rw [eu8]; exact ri_1 hri (by decide) (fun _ => by decide)
  have s9 : u8.1 60 18 = 0 := by rw [eu8, uk_up_at]; exact if_pos ⟨rfl, rfl⟩
  have T10 : u8.1 60 7 = t1 := by rw [eu8, uk_up_at, if_neg (by decide)]; exact Tt1
  have T11 : u8.1 60 11 = t2 := by rw [eu8, uk_up_at, if_neg (by decide)]; exact Tt2
  have T12 : u8.1 60 13 = t3 := by rw [eu8, uk_up_at, if_neg (by decide)]; exact Tt3
  have T13 : u8.1 60 15 = t4 := by rw [eu8, uk_up_at, if_neg (by decide)]; exact Tt4
  have T14 : u8.1 60 16 = t5 := by rw [eu8, uk_up_at, if_neg (by decide)]; exact Tt5
  have T15 : u8.1 60 19 = t7 := by rw [eu8, uk_up_at, if_neg (by decide)]; exact Tt7
  refine g_aload_n dX7_text_7 rfl ?_
  refine g_iconst (v := 0) dX7_text_8 (by decide) ?_
  refine p_X7_100 rfl rfl dX7_text_9 ?_
  refine g_mem (fun u16 eu16 => ?_)
  have hu16 : iv u16 := by rw [eu16]; exact iv_up hu8 rfl (by first | lia | grind) (by first | lia | grind)
  have fu16 : fk [60, 61, 63, 64, 65, 66, 67, 68] [22, 28] u u16 := by rw [eu16]; exact fk_up fu8 (by decide) (fun _ => by decide)
  have riu16 : ri u16 := by rw [eu16]; exact ri_1 riu8 (by decide) (fun _ => by decide)
  have s17 : u16.1 60 14 = 0 := by rw [eu16, uk_up_at]; exact if_pos ⟨rfl, rfl⟩
  have T18 : u16.1 60 7 = t1 := by rw [eu16, uk_up_at, if_neg (by decide)]; exact T10
  have T19 : u16.1 60 11 = t2 := by rw [eu16, uk_up_at, if_neg (by decide)]; exact T11
  have T20 : u16.1 60 13 = t3 := by rw [eu16, uk_up_at, if_neg (by decide)]; exact T12
  have T21 : u16.1 60 15 = t4 := by rw [eu16, uk_up_at, if_neg (by decide)]; exact T13
  have T22 : u16.1 60 16 = t5 := by rw [eu16, uk_up_at, if_neg (by decide)]; exact T14
  have T23 : u16.1 60 18 = 0 := by rw [eu16, uk_up_at, if_neg (by decide)]; exact s9
  have T24 : u16.1 60 19 = t7 := by rw [eu16, uk_up_at, if_neg (by decide)]; exact T15
  refine g_aload_n dX7_text_12 rfl ?_
  refine cl_X7_63 (c := 60) (As := []) rfl (c_X7_firstDraft_t (G := G) hs hu16    (d + 4)) rfl (by omega) rfl rfl (Nat.le_of_ble_eq_true rfl) dX7_text_13 (fun r25 u26 q27 => ?_)
  obtain ⟨rfl, mq27⟩ := q27
  obtain ⟨hu26, gu26, rfu26, ku260, ku261, ku262, ku263⟩ := mq27
  have fu26 : fk [60, 61, 63, 64, 65, 66, 67, 68] [22, 28] u u26 := fk_tr fu16 gu26 (by decide) (by decide)
  have riu26 : ri u26 := ri_fk riu16 gu26 (by decide) (by decide) (by decide) (by decide) (by decide)
  obtain ⟨t28, Tt28⟩ : ∃ t, u26.1 60 7 = t := ⟨_, rfl⟩
  have Rt28 : 0 ≤ t28 ∧ t28 ≤ 8 := by rw [← Tt28]; exact iv_at hu26 _ _ rfl
  obtain ⟨t29, Tt29⟩ : ∃ t, u26.1 60 11 = t := ⟨_, rfl⟩
  have T30 : u26.1 60 13 = t3 := (fk_at gu26 (by decide)).trans T20
  have T31 : u26.1 60 15 = t4 := (fk_at gu26 (by decide)).trans T21
  have T32 : u26.1 60 16 = t5 := (fk_at gu26 (by decide)).trans T22
  have T33 : u26.1 60 18 = 0 := (fk_at gu26 (by decide)).trans T23
  have T34 : u26.1 60 19 = t7 := (fk_at gu26 (by decide)).trans T24
  have wu26_60_3 : u26.1 60 3 = u16.1 60 3 := fk_at gu26 (by decide)
  have s35 : u26.1 60 18 = 0 := (fk_at gu26 (by decide)).trans (by simp [eu16, uk_up_at, s9] : u16.1 60 18 = 0)
  have s36 : u26.1 60 14 = 0 := (fk_at gu26 (by decide)).trans s17
  have FXa : fk [60, 66, 67, 68] [3, 22, 28] u u8 := by rw [eu8]; exact fk_up fk_rf (by decide) (fun _ => by decide)
  have FXb : fk [60, 66, 67, 68] [3, 22, 28] u u16 := by rw [eu16]; exact fk_up FXa (by decide) (fun _ => by decide)
  have FX1 : fk [60, 66, 67, 68] [3, 22, 28] u u26 := fk_tr FXb gu26 (by decide) (by decide)
  refine g_aload_n dX7_text_16 rfl ?_
  refine cl_X7_133 (c := 60) (As := []) rfl (c_X7_next_s (G := G) hs hu26    (d + 3)) rfl (by omega) rfl rfl (Nat.le_of_ble_eq_true rfl) dX7_text_17 (fun r37 u38 q39 => ?_)
  obtain ⟨rfl, mq39⟩ := q39
  obtain ⟨hu38, gu38, ku380, ku381, ku382, ku383, ku384, ku385⟩ := mq39
  have fu38 : fk [60, 61, 63, 64, 65, 66, 67, 68] [22, 28] u u38 := fk_tr fu26 gu38 (by decide) (by decide)
  have riu38 : ri u38 := ri_fk riu26 gu38 (by decide) (by decide) (by decide) (by decide) (by decide)
  have rfu38 : rf u38 := rf_mono rfu26 gu38 ku380 (by decide) (by decide) (by decide) (by decide)
  have T40 : u38.1 60 7 = t28 := (fk_at gu38 (by decide)).trans Tt28
  have T41 : u38.1 60 11 = t29 := (fk_at gu38 (by decide)).trans Tt29
  have T42 : u38.1 60 13 = t3 := (fk_at gu38 (by decide)).trans T30
  obtain ⟨t43, Tt43⟩ : ∃ t, u38.1 60 15 = t := ⟨_, rfl⟩
  have Rt43 : 0 ≤ t43 ∧ t43 ≤ 160 := by rw [← Tt43]; exact iv_at hu38 _ _ rfl
  obtain ⟨t44, Tt44⟩ : ∃ t, u38.1 60 16 = t := ⟨_, rfl⟩
  obtain ⟨t45, Tt45⟩ : ∃ t, u38.1 60 18 = t := ⟨_, rfl⟩
  have Rt45 : 0 ≤ t45 ∧ t45 ≤ 6 := by rw [← Tt45]; exact iv_at hu38 _ _ rfl
  obtain ⟨t46, Tt46⟩ : ∃ t, u38.1 60 19 = t := ⟨_, rfl⟩
  have wu38_60_3 : u38.1 60 3 = u26.1 60 3 := fk_at gu38 (by decide)
  have hN : N ≤ 160 := by rw [← p1]; exact (iv_at hu 60 13 rfl).2
  have hN0 : 0 ≤ N := by rw [← p1]; exact (iv_at hu 60 13 rfl).1
  have Q69 : u26.1 69 = u.1 69 := fk_c fu26 (by decide)
  have Q18 : u26.1 60 18 = 0 := by rw [fk_at (c := 60) (i := 18) gu26 (by decide)]; grind [uk_up_at]
  have Q14 : u26.1 60 14 = 0 := by rw [fk_at (c := 60) (i := 14) gu26 (by decide)]; grind [uk_up_at]
  have Q13 : u26.1 60 13 = N := by rw [fk_at (c := 60) (i := 13) gu26 (by decide), ← p1]; grind [uk_up_at]
  have HA : ah f N 0 u38 := ah_cg (show cpy (u26.1 69) f N by rw [Q69]; exact p0) (by decide) hN (by have := ku384 Q18; rw [Q14, Q13] at this; exact this)
  have R0 : Rr f N u38 0 := Or.inl ⟨p_0, rfl, ⟨by rw [fk_c gu38 (by decide), Q69]; exact p0, (fk_at gu38 (by decide)).trans Q13, Or.inr ⟨rfl, ⟨by decide, hN0⟩, HA⟩⟩, rfl, fun _ => ⟨(fk_at gu38 (by decide)).trans ku260, (fk_at gu38 (by decide)).trans ku261, by rw [fk_at (c := 60) (i := 11) gu38 (by decide), ku262]; exact hi9_0⟩⟩
  have RW0 : RW f N u38 0 := fun _ => ⟨p_0, fun _ _ => 0, rfl, rfl, Rw_cg (Rw_0 ku260 ku263) (fk_at gu38 (by decide)) (fk_c gu38 (by decide)) (fk_c gu38 (by decide)) (fk_c gu38 (by decide)), rfl, ⟨by rw [fk_c gu38 (by decide), Q69]; exact p0, (fk_at gu38 (by decide)).trans Q13, Or.inr ⟨rfl, ⟨by decide, hN0⟩, HA⟩⟩, rfl, (fk_at gu38 (by decide)).trans ku260, (fk_at gu38 (by decide)).trans ku261, by rw [fk_at (c := 60) (i := 11) gu38 (by decide), ku262]; exact hi9_0⟩
  have FX2 : fk [60, 66, 67, 68] [3, 22, 28] u u38 := fk_tr FX1 gu38 (by decide) (by decide)
  have L20_46 : ∀ i49 : Int32, 0 ≤ i49 → i49 ≤ 161 → ∀ (i48 : Int32) (u50 : uk_Mem), iv u50 → fk [60, 61, 63, 64, 65, 66, 67, 68] [22, 28] u u50 → ri u50 → rf u50 → tx_ms u50 = i49 → (0 ≤ i48 ∧ i48 ≤ 60) → (u50.1 60 18 = 0 → 3 * i48 ≤ u50.1 60 15) → Rr f N u50 i48 → RW f N u50 i48 → fk [60, 66, 67, 68] [3, 22, 28] u u50 → uk_G G X mX7_text (d + 5) (q_X7_text_t u f N) 20 [(0, .ref (uk_ad G 60)), (1, .int i48)] [] u50 := by
    refine uk_ups 161 ?_
    intro i49 ai49 bi49 ihi49 i48 u50 hu50 fu50 riu50 rfu50 ki49 ji490 ji491 ji492 ji493 ji494
    obtain ⟨t51, Tt51⟩ : ∃ t, u50.1 60 7 = t := ⟨_, rfl⟩
    have Rt51 : 0 ≤ t51 ∧ t51 ≤ 8 := by rw [← Tt51]; exact iv_at hu50 _ _ rfl
    obtain ⟨t52, Tt52⟩ : ∃ t, u50.1 60 11 = t := ⟨_, rfl⟩
    obtain ⟨t53, Tt53⟩ : ∃ t, u50.1 60 13 = t := ⟨_, rfl⟩
    have Rt53 : 0 ≤ t53 ∧ t53 ≤ 160 := by rw [← Tt53]; exact iv_at hu50 _ _ rfl
    obtain ⟨t54, Tt54⟩ : ∃ t, u50.1 60 15 = t := ⟨_, rfl⟩
    have Rt54 : 0 ≤ t54 ∧ t54 ≤ 160 := by rw [← Tt54]; exact iv_at hu50 _ _ rfl
    obtain ⟨t55, Tt55⟩ : ∃ t, u50.1 60 16 = t := ⟨_, rfl⟩
    obtain ⟨t56, Tt56⟩ : ∃ t, u50.1 60 18 = t := ⟨_, rfl⟩
    have Rt56 : 0 ≤ t56 ∧ t56 ≤ 6 := by rw [← Tt56]; exact iv_at hu50 _ _ rfl
    obtain ⟨t57, Tt57⟩ : ∃ t, u50.1 60 19 = t := ⟨_, rfl⟩
    refine g_aload_n dX7_text_20 rfl ?_
    refine f_X7_91 rfl rfl dX7_text_21 ?_
    refine g_topi (fun x58 ex58 => ?_)
    have rx58 : 0 ≤ x58 ∧ x58 ≤ 6 := by rw [ex58]; exact iv_at hu50 _ _ rfl
    have qx58 : x58 = t56 := ex58.trans Tt56
    refine g_if_ne (tgt := 44) dX7_text_24 (by decide) (fun c59 => ?_) (fun c59 => ?_)
    · refine g_aload_n dX7_text_44 rfl ?_
      refine f_X7_91 rfl rfl dX7_text_45 ?_
      refine g_topi (fun x60 ex60 => ?_)
      have rx60 : 0 ≤ x60 ∧ x60 ≤ 6 := by rw [ex60]; exact iv_at hu50 _ _ rfl
      have qx60 : x60 = t56 := ex60.trans Tt56
      refine g_if_ne (tgt := 73) dX7_text_48 (by decide) (fun c61 => ?_) (fun c61 => ?_)
      · have CC : 0 ≤ i48 ∧ i48 < 160 := by grind
        have RF : u50.1 60 18 = (pRes f N).1.1 ∧ (¬ (pRes f N).1.1 = 0 → u50.1 60 19 = (pRes f N).1.2.1) ∧ ((pRes f N).1.1 = 0 → i48 = (pRes f N).2) := by have r := Rr_F hN CC.1 CC.2 ji492 (by grind); exact ⟨r.1, fun _ => r.2, fun z => absurd (r.1.trans z) (by grind)⟩
        have FX9 : fk [60, 66, 67, 68] [3, 22, 28] u u50 := ji494
        refine g_aload_n dX7_text_73 rfl ?_
        refine g_iconst (v := 0) dX7_text_74 (by decide) ?_
        refine p_X7_88 rfl rfl dX7_text_75 ?_
        refine g_mem (fun u62 eu62 => ?_)
        have hu62 : iv u62 := by rw [eu62]; exact iv_up hu50 rfl (by first | lia | grind) (by first | lia | grind)
        have fu62 : fk [60, 61, 63, 64, 65, 66, 67, 68] [22, 28] u u62 := by rw [eu62]; exact fk_up fu50 (by decide) (fun _ => by decide)
        have riu62 : ri u62 := by rw [eu62]; exact ri_1 riu50 (by decide) (fun _ => by decide)
        have rfu62 : rf u62 := by rw [eu62]; exact rf_1 rfu50 (by decide)
        have s63 : u62.1 60 13 = 0 := by rw [eu62, uk_up_at]; exact if_pos ⟨rfl, rfl⟩
        have T64 : u62.1 60 7 = t51 := by rw [eu62, uk_up_at, if_neg (by decide)]; exact Tt51
        have T65 : u62.1 60 11 = t52 := by rw [eu62, uk_up_at, if_neg (by decide)]; exact Tt52
        have T66 : u62.1 60 15 = t54 := by rw [eu62, uk_up_at, if_neg (by decide)]; exact Tt54
        have T67 : u62.1 60 16 = t55 := by rw [eu62, uk_up_at, if_neg (by decide)]; exact Tt55
        have T68 : u62.1 60 18 = t56 := by rw [eu62, uk_up_at, if_neg (by decide)]; exact Tt56
        have T69 : u62.1 60 19 = t57 := by rw [eu62, uk_up_at, if_neg (by decide)]; exact Tt57
        refine g_aload_n dX7_text_78 rfl ?_
        refine f_X7_91 rfl rfl dX7_text_79 ?_
        refine g_topi (fun x70 ex70 => ?_)
        have rx70 : 0 ≤ x70 ∧ x70 ≤ 6 := by rw [ex70]; exact iv_at hu62 _ _ rfl
        have qx70 : x70 = t56 := ex70.trans T68
        refine g_if_le (tgt := 93) dX7_text_82 (by decide) (fun c71 => ?_) (fun c71 => ?_)
        · refine g_aload_n dX7_text_93 rfl ?_
          exfalso; grind
        · refine g_bipush (v := (-10)) dX7_text_85 (by decide) ?_
          refine g_aload_n dX7_text_87 rfl ?_
          refine f_X7_97 rfl rfl dX7_text_88 ?_
          refine g_topi (fun x72 ex72 => ?_)
          have qx72 : x72 = t57 := ex72.trans T69
          refine g_isub dX7_text_91 ?_
          refine g_topi (fun x73 ex73 => ?_)
          exact g_iret (ty := .int) dX7_text_92 rfl rfl ⟨⟨_, rfl, Or.inl ⟨by rw [← RF.1]; grind, by rw [ex73, ← RF.2.1 (by rw [← RF.1]; grind)]; grind⟩⟩, hu62, fu62, riu62, (s63.trans (by grind)), (by rw [T68, ← RF.1]; grind), (fun q => by exfalso; have := RF.1; grind), (fun _ => ⟨by rw [eu62, uk_up_oc (by decide)]; exact fk_c FX9 (by decide), by rw [eu62, uk_up_oc (by decide)]; exact fk_c FX9 (by decide), by rw [eu62, uk_up_oc (by decide)]; exact fk_c FX9 (by decide), by rw [eu62, uk_up_oc (by decide)]; exact fk_c FX9 (by decide), by rw [eu62, uk_up_at, if_neg (by decide)]; exact fk_at FX9 (by decide)⟩)⟩
      · refine g_aload_n dX7_text_51 rfl ?_
        refine g_aload_n dX7_text_52 rfl ?_
        refine f_X7_76 rfl rfl dX7_text_53 ?_
        refine g_topi (fun x74 ex74 => ?_)
        have qx74 : x74 = t52 := ex74.trans Tt52
        refine g_aload_n dX7_text_56 rfl ?_
        refine f_X7_69 rfl rfl dX7_text_57 ?_
        refine g_topi (fun x75 ex75 => ?_)
        have rx75 : 0 ≤ x75 ∧ x75 ≤ 8 := by rw [ex75]; exact iv_at hu50 _ _ rfl
        have qx75 : x75 = t51 := ex75.trans Tt51
        refine g_icmp_ge (tgt := 67) dX7_text_60 (by decide) (fun c76 => ?_) (fun c76 => ?_)
        · refine g_iconst (v := 0) dX7_text_67 (by decide) ?_
          refine g_bipush (v := 6) dX7_text_68 (by decide) ?_
          refine cl_X7_125 (c := 60) (As := [.int 0, .int 6]) rfl (c_X7_needs_s (G := G) hs hu50  0 6 (by first | trivial | decide | lia | grind) (by first | trivial | decide | lia | grind) (d + 4)) rfl (by omega) rfl rfl (Nat.le_of_ble_eq_true rfl) dX7_text_70 (fun r77 u78 q79 => ?_)
          obtain ⟨rfl, mq79⟩ := q79
          obtain ⟨hu78, gu78, ku780, ku781, ku782⟩ := mq79
          have fu78 : fk [60, 61, 63, 64, 65, 66, 67, 68] [22, 28] u u78 := fk_tr fu50 gu78 (by decide) (by decide)
          have riu78 : ri u78 := ri_fk riu50 gu78 (by decide) (by decide) (by decide) (by decide) (by decide)
          have rfu78 : rf u78 := rf_mono rfu50 gu78 (fun q => (ku780 q).1) (by decide) (by decide) (by decide) (by decide)
          have T80 : u78.1 60 7 = t51 := (fk_at gu78 (by decide)).trans Tt51
          have T81 : u78.1 60 11 = t52 := (fk_at gu78 (by decide)).trans Tt52
          have T82 : u78.1 60 13 = t53 := (fk_at gu78 (by decide)).trans Tt53
          have T83 : u78.1 60 15 = t54 := (fk_at gu78 (by decide)).trans Tt54
          have T84 : u78.1 60 16 = t55 := (fk_at gu78 (by decide)).trans Tt55
          obtain ⟨t85, Tt85⟩ : ∃ t, u78.1 60 18 = t := ⟨_, rfl⟩
          have Rt85 : 0 ≤ t85 ∧ t85 ≤ 6 := by rw [← Tt85]; exact iv_at hu78 _ _ rfl
          obtain ⟨t86, Tt86⟩ : ∃ t, u78.1 60 19 = t := ⟨_, rfl⟩
          have wu78_60_3 : u78.1 60 3 = u50.1 60 3 := fk_at gu78 (by decide)
          have CC : 0 ≤ i48 ∧ i48 < 160 := by grind
          have RF : u78.1 60 18 = (pRes f N).1.1 ∧ (¬ (pRes f N).1.1 = 0 → u78.1 60 19 = (pRes f N).1.2.1) ∧ ((pRes f N).1.1 = 0 → i48 = (pRes f N).2) := Rr_E hN CC.1 CC.2 ji492 (by grind) (by grind) (iv_at hu50 60 7 rfl) (fun q => by grind) (fun q => by grind)
          have RD : (pRes f N).1.1 = 0 → Rw u78 (wIt f N (pRes f N).2.toNatClampNeg) ∧ u78.1 60 7 = (pIt f N (pRes f N).2.toNatClampNeg).2.2.2.1 := fun q => by
            obtain ⟨b9, W9, bI, bJ, BW, B1, B2, B3, B5, B6, B8⟩ := ji493 (by grind)
            rw [← RF.2.2 q, ← bI, ← bJ]
            exact ⟨Rw_cg BW (fk_at gu78 (by decide)) (fk_c gu78 (by decide)) (fk_c gu78 (by decide)) (fk_c gu78 (by decide)), (fk_at gu78 (by decide)).trans B5⟩
          have FX9 : fk [60, 66, 67, 68] [3, 22, 28] u u78 := fk_tr ji494 gu78 (by decide) (by decide)
          refine g_aload_n dX7_text_73 rfl ?_
          refine g_iconst (v := 0) dX7_text_74 (by decide) ?_
          refine p_X7_88 rfl rfl dX7_text_75 ?_
          refine g_mem (fun u87 eu87 => ?_)
          have hu87 : iv u87 := by rw [eu87]; exact iv_up hu78 rfl (by first | lia | grind) (by first | lia | grind)
          have fu87 : fk [60, 61, 63, 64, 65, 66, 67, 68] [22, 28] u u87 := by rw [eu87]; exact fk_up fu78 (by decide) (fun _ => by decide)
          have riu87 : ri u87 := by rw [eu87]; exact ri_1 riu78 (by decide) (fun _ => by decide)
          have rfu87 : rf u87 := by rw [eu87]; exact rf_1 rfu78 (by decide)
          have s88 : u87.1 60 13 = 0 := by rw [eu87, uk_up_at]; exact if_pos ⟨rfl, rfl⟩
          have T89 : u87.1 60 7 = t51 := by rw [eu87, uk_up_at, if_neg (by decide)]; exact T80
          have T90 : u87.1 60 11 = t52 := by rw [eu87, uk_up_at, if_neg (by decide)]; exact T81
          have T91 : u87.1 60 15 = t54 := by rw [eu87, uk_up_at, if_neg (by decide)]; exact T83
          have T92 : u87.1 60 16 = t55 := by rw [eu87, uk_up_at, if_neg (by decide)]; exact T84
          have T93 : u87.1 60 18 = t85 := by rw [eu87, uk_up_at, if_neg (by decide)]; exact Tt85
          have T94 : u87.1 60 19 = t86 := by rw [eu87, uk_up_at, if_neg (by decide)]; exact Tt86
          refine g_aload_n dX7_text_78 rfl ?_
          refine f_X7_91 rfl rfl dX7_text_79 ?_
          refine g_topi (fun x95 ex95 => ?_)
          have rx95 : 0 ≤ x95 ∧ x95 ≤ 6 := by rw [ex95]; exact iv_at hu87 _ _ rfl
          have qx95 : x95 = t85 := ex95.trans T93
          refine g_if_le (tgt := 93) dX7_text_82 (by decide) (fun c96 => ?_) (fun c96 => ?_)
          · refine g_aload_n dX7_text_93 rfl ?_
            have q94 : (pRes f N).1.1 = 0 := by rw [← RF.1]; grind
            have RE : Rw u87 (wIt f N (pRes f N).2.toNatClampNeg) := Rw_cg (RD q94).1 (by rw [eu87, uk_up_at, if_neg (by decide)]) (by rw [eu87, uk_up_oc (by decide)]) (by rw [eu87, uk_up_oc (by decide)]) (by rw [eu87, uk_up_oc (by decide)])
            have RS : u87.1 60 7 = (pIt f N (pRes f N).2.toNatClampNeg).2.2.2.1 := by rw [eu87, uk_up_at, if_neg (by decide)]; exact (RD q94).2
            have rdx97 : rd u87 := rfu87 (by grind)
            refine cl_X7_66 (c := 60) (As := []) rfl (c_X7_keepDraft_t (G := G) hs hu87 rdx97    (d + 4)) rfl (by omega) rfl rfl (Nat.le_of_ble_eq_true rfl) dX7_text_94 (fun r98 u99 q100 => ?_)
            obtain ⟨rfl, mq100⟩ := q100
            obtain ⟨hu99, gu99, riu99, ku990, ku991, ku992, ku993, ku994, ku995⟩ := mq100
            have fu99 : fk [60, 61, 63, 64, 65, 66, 67, 68] [22, 28] u u99 := fk_tr fu87 gu99 (by decide) (by decide)
            have T101 : u99.1 60 7 = t51 := (fk_at gu99 (by decide)).trans T89
            have T102 : u99.1 60 11 = t52 := (fk_at gu99 (by decide)).trans T90
            have T103 : u99.1 60 13 = 0 := (fk_at gu99 (by decide)).trans s88
            have T104 : u99.1 60 15 = t54 := (fk_at gu99 (by decide)).trans T91
            have T105 : u99.1 60 16 = t55 := (fk_at gu99 (by decide)).trans T92
            have T106 : u99.1 60 18 = t85 := (fk_at gu99 (by decide)).trans T93
            have T107 : u99.1 60 19 = t86 := (fk_at gu99 (by decide)).trans T94
            have s108 : u99.1 60 13 = 0 := (fk_at gu99 (by decide)).trans s88
            refine g_iload_n dX7_text_97 rfl ?_
            exact g_iret (ty := .int) dX7_text_98 rfl rfl ⟨⟨_, rfl, Or.inr ⟨by rw [← RF.1]; grind, RF.2.2 (by rw [← RF.1]; grind)⟩⟩, hu99, fu99, riu99, (T103.trans (by grind)), (by rw [T106, ← RF.1]; grind), (fun _ => ⟨RwG_keep RE (iv_at hu87 60 7 rfl).2 ku990 ku991 ku992 ku993 (iv_at hu87 60 7 rfl).1, ku990.trans RS, ku994, ku995⟩), (fun q => absurd q94 q)⟩
          · refine g_bipush (v := (-10)) dX7_text_85 (by decide) ?_
            refine g_aload_n dX7_text_87 rfl ?_
            refine f_X7_97 rfl rfl dX7_text_88 ?_
            refine g_topi (fun x109 ex109 => ?_)
            have qx109 : x109 = t86 := ex109.trans T94
            refine g_isub dX7_text_91 ?_
            refine g_topi (fun x110 ex110 => ?_)
            exact g_iret (ty := .int) dX7_text_92 rfl rfl ⟨⟨_, rfl, Or.inl ⟨by rw [← RF.1]; grind, by rw [ex110, ← RF.2.1 (by rw [← RF.1]; grind)]; grind⟩⟩, hu87, fu87, riu87, (s88.trans (by grind)), (by rw [T93, ← RF.1]; grind), (fun q => by exfalso; have := RF.1; grind), (fun _ => ⟨by rw [eu87, uk_up_oc (by decide)]; exact fk_c FX9 (by decide), by rw [eu87, uk_up_oc (by decide)]; exact fk_c FX9 (by decide), by rw [eu87, uk_up_oc (by decide)]; exact fk_c FX9 (by decide), by rw [eu87, uk_up_oc (by decide)]; exact fk_c FX9 (by decide), by rw [eu87, uk_up_at, if_neg (by decide)]; exact fk_at FX9 (by decide)⟩)⟩
        · refine g_iconst (v := 1) dX7_text_63 (by decide) ?_
          refine g_goto (tgt := 68) dX7_text_64 (by decide) ?_
          refine g_bipush (v := 6) dX7_text_68 (by decide) ?_
          refine cl_X7_125 (c := 60) (As := [.int 1, .int 6]) rfl (c_X7_needs_s (G := G) hs hu50  1 6 (by first | trivial | decide | lia | grind) (by first | trivial | decide | lia | grind) (d + 4)) rfl (by omega) rfl rfl (Nat.le_of_ble_eq_true rfl) dX7_text_70 (fun r111 u112 q113 => ?_)
          obtain ⟨rfl, mq113⟩ := q113
          obtain ⟨hu112, gu112, ku1120, ku1121, ku1122⟩ := mq113
          have fu112 : fk [60, 61, 63, 64, 65, 66, 67, 68] [22, 28] u u112 := fk_tr fu50 gu112 (by decide) (by decide)
          have riu112 : ri u112 := ri_fk riu50 gu112 (by decide) (by decide) (by decide) (by decide) (by decide)
          have rfu112 : rf u112 := rf_mono rfu50 gu112 (fun q => (ku1120 q).1) (by decide) (by decide) (by decide) (by decide)
          have T114 : u112.1 60 7 = t51 := (fk_at gu112 (by decide)).trans Tt51
          have T115 : u112.1 60 11 = t52 := (fk_at gu112 (by decide)).trans Tt52
          have T116 : u112.1 60 13 = t53 := (fk_at gu112 (by decide)).trans Tt53
          have T117 : u112.1 60 15 = t54 := (fk_at gu112 (by decide)).trans Tt54
          have T118 : u112.1 60 16 = t55 := (fk_at gu112 (by decide)).trans Tt55
          obtain ⟨t119, Tt119⟩ : ∃ t, u112.1 60 18 = t := ⟨_, rfl⟩
          have Rt119 : 0 ≤ t119 ∧ t119 ≤ 6 := by rw [← Tt119]; exact iv_at hu112 _ _ rfl
          obtain ⟨t120, Tt120⟩ : ∃ t, u112.1 60 19 = t := ⟨_, rfl⟩
          have wu112_60_3 : u112.1 60 3 = u50.1 60 3 := fk_at gu112 (by decide)
          have CC : 0 ≤ i48 ∧ i48 < 160 := by grind
          have RF : u112.1 60 18 = (pRes f N).1.1 ∧ (¬ (pRes f N).1.1 = 0 → u112.1 60 19 = (pRes f N).1.2.1) ∧ ((pRes f N).1.1 = 0 → i48 = (pRes f N).2) := Rr_E hN CC.1 CC.2 ji492 (by grind) (by grind) (iv_at hu50 60 7 rfl) (fun q => by grind) (fun q => by grind)
          have RD : (pRes f N).1.1 = 0 → Rw u112 (wIt f N (pRes f N).2.toNatClampNeg) ∧ u112.1 60 7 = (pIt f N (pRes f N).2.toNatClampNeg).2.2.2.1 := fun q => by
            obtain ⟨b9, W9, bI, bJ, BW, B1, B2, B3, B5, B6, B8⟩ := ji493 (by grind)
            rw [← RF.2.2 q, ← bI, ← bJ]
            exact ⟨Rw_cg BW (fk_at gu112 (by decide)) (fk_c gu112 (by decide)) (fk_c gu112 (by decide)) (fk_c gu112 (by decide)), (fk_at gu112 (by decide)).trans B5⟩
          have FX9 : fk [60, 66, 67, 68] [3, 22, 28] u u112 := fk_tr ji494 gu112 (by decide) (by decide)
          refine g_aload_n dX7_text_73 rfl ?_
          refine g_iconst (v := 0) dX7_text_74 (by decide) ?_
          refine p_X7_88 rfl rfl dX7_text_75 ?_
          refine g_mem (fun u121 eu121 => ?_)
          have hu121 : iv u121 := by rw [eu121]; exact iv_up hu112 rfl (by first | lia | grind) (by first | lia | grind)
          have fu121 : fk [60, 61, 63, 64, 65, 66, 67, 68] [22, 28] u u121 := by rw [eu121]; exact fk_up fu112 (by decide) (fun _ => by decide)
          have riu121 : ri u121 := by rw [eu121]; exact ri_1 riu112 (by decide) (fun _ => by decide)
          have rfu121 : rf u121 := by rw [eu121]; exact rf_1 rfu112 (by decide)
          have s122 : u121.1 60 13 = 0 := by rw [eu121, uk_up_at]; exact if_pos ⟨rfl, rfl⟩
          have T123 : u121.1 60 7 = t51 := by rw [eu121, uk_up_at, if_neg (by decide)]; exact T114
          have T124 : u121.1 60 11 = t52 := by rw [eu121, uk_up_at, if_neg (by decide)]; exact T115
          have T125 : u121.1 60 15 = t54 := by rw [eu121, uk_up_at, if_neg (by decide)]; exact T117
          have T126 : u121.1 60 16 = t55 := by rw [eu121, uk_up_at, if_neg (by decide)]; exact T118
          have T127 : u121.1 60 18 = t119 := by rw [eu121, uk_up_at, if_neg (by decide)]; exact Tt119
          have T128 : u121.1 60 19 = t120 := by rw [eu121, uk_up_at, if_neg (by decide)]; exact Tt120
          refine g_aload_n dX7_text_78 rfl ?_
          refine f_X7_91 rfl rfl dX7_text_79 ?_
          refine g_topi (fun x129 ex129 => ?_)
          have rx129 : 0 ≤ x129 ∧ x129 ≤ 6 := by rw [ex129]; exact iv_at hu121 _ _ rfl
          have qx129 : x129 = t119 := ex129.trans T127
          refine g_if_le (tgt := 93) dX7_text_82 (by decide) (fun c130 => ?_) (fun c130 => ?_)
          · refine g_aload_n dX7_text_93 rfl ?_
            have q94 : (pRes f N).1.1 = 0 := by rw [← RF.1]; grind
            have RE : Rw u121 (wIt f N (pRes f N).2.toNatClampNeg) := Rw_cg (RD q94).1 (by rw [eu121, uk_up_at, if_neg (by decide)]) (by rw [eu121, uk_up_oc (by decide)]) (by rw [eu121, uk_up_oc (by decide)]) (by rw [eu121, uk_up_oc (by decide)])
            have RS : u121.1 60 7 = (pIt f N (pRes f N).2.toNatClampNeg).2.2.2.1 := by rw [eu121, uk_up_at, if_neg (by decide)]; exact (RD q94).2
            have rdx131 : rd u121 := rfu121 (by grind)
            refine cl_X7_66 (c := 60) (As := []) rfl (c_X7_keepDraft_t (G := G) hs hu121 rdx131    (d + 4)) rfl (by omega) rfl rfl (Nat.le_of_ble_eq_true rfl) dX7_text_94 (fun r132 u133 q134 => ?_)
            obtain ⟨rfl, mq134⟩ := q134
            obtain ⟨hu133, gu133, riu133, ku1330, ku1331, ku1332, ku1333, ku1334, ku1335⟩ := mq134
            have fu133 : fk [60, 61, 63, 64, 65, 66, 67, 68] [22, 28] u u133 := fk_tr fu121 gu133 (by decide) (by decide)
            have T135 : u133.1 60 7 = t51 := (fk_at gu133 (by decide)).trans T123
            have T136 : u133.1 60 11 = t52 := (fk_at gu133 (by decide)).trans T124
            have T137 : u133.1 60 13 = 0 := (fk_at gu133 (by decide)).trans s122
            have T138 : u133.1 60 15 = t54 := (fk_at gu133 (by decide)).trans T125
            have T139 : u133.1 60 16 = t55 := (fk_at gu133 (by decide)).trans T126
            have T140 : u133.1 60 18 = t119 := (fk_at gu133 (by decide)).trans T127
            have T141 : u133.1 60 19 = t120 := (fk_at gu133 (by decide)).trans T128
            have s142 : u133.1 60 13 = 0 := (fk_at gu133 (by decide)).trans s122
            refine g_iload_n dX7_text_97 rfl ?_
            exact g_iret (ty := .int) dX7_text_98 rfl rfl ⟨⟨_, rfl, Or.inr ⟨by rw [← RF.1]; grind, RF.2.2 (by rw [← RF.1]; grind)⟩⟩, hu133, fu133, riu133, (T137.trans (by grind)), (by rw [T140, ← RF.1]; grind), (fun _ => ⟨RwG_keep RE (iv_at hu121 60 7 rfl).2 ku1330 ku1331 ku1332 ku1333 (iv_at hu121 60 7 rfl).1, ku1330.trans RS, ku1334, ku1335⟩), (fun q => absurd q94 q)⟩
          · refine g_bipush (v := (-10)) dX7_text_85 (by decide) ?_
            refine g_aload_n dX7_text_87 rfl ?_
            refine f_X7_97 rfl rfl dX7_text_88 ?_
            refine g_topi (fun x143 ex143 => ?_)
            have qx143 : x143 = t120 := ex143.trans T128
            refine g_isub dX7_text_91 ?_
            refine g_topi (fun x144 ex144 => ?_)
            exact g_iret (ty := .int) dX7_text_92 rfl rfl ⟨⟨_, rfl, Or.inl ⟨by rw [← RF.1]; grind, by rw [ex144, ← RF.2.1 (by rw [← RF.1]; grind)]; grind⟩⟩, hu121, fu121, riu121, (s122.trans (by grind)), (by rw [T127, ← RF.1]; grind), (fun q => by exfalso; have := RF.1; grind), (fun _ => ⟨by rw [eu121, uk_up_oc (by decide)]; exact fk_c FX9 (by decide), by rw [eu121, uk_up_oc (by decide)]; exact fk_c FX9 (by decide), by rw [eu121, uk_up_oc (by decide)]; exact fk_c FX9 (by decide), by rw [eu121, uk_up_oc (by decide)]; exact fk_c FX9 (by decide), by rw [eu121, uk_up_at, if_neg (by decide)]; exact fk_at FX9 (by decide)⟩)⟩
    · refine g_aload_n dX7_text_27 rfl ?_
      refine f_X7_111 rfl rfl dX7_text_28 ?_
      refine g_topi (fun x145 ex145 => ?_)
      have qx145 : x145 = t55 := ex145.trans Tt55
      refine g_if_eq (tgt := 44) dX7_text_31 (by decide) (fun c146 => ?_) (fun c146 => ?_)
      · refine g_aload_n dX7_text_44 rfl ?_
        refine f_X7_91 rfl rfl dX7_text_45 ?_
        refine g_topi (fun x147 ex147 => ?_)
        have rx147 : 0 ≤ x147 ∧ x147 ≤ 6 := by rw [ex147]; exact iv_at hu50 _ _ rfl
        have qx147 : x147 = t56 := ex147.trans Tt56
        refine g_if_ne (tgt := 73) dX7_text_48 (by decide) (fun c148 => ?_) (fun c148 => ?_)
        · have CC : 0 ≤ i48 ∧ i48 < 160 := by grind
          have RF : u50.1 60 18 = (pRes f N).1.1 ∧ (¬ (pRes f N).1.1 = 0 → u50.1 60 19 = (pRes f N).1.2.1) ∧ ((pRes f N).1.1 = 0 → i48 = (pRes f N).2) := by have r := Rr_F hN CC.1 CC.2 ji492 (by grind); exact ⟨r.1, fun _ => r.2, fun z => absurd (r.1.trans z) (by grind)⟩
          have FX9 : fk [60, 66, 67, 68] [3, 22, 28] u u50 := ji494
          refine g_aload_n dX7_text_73 rfl ?_
          refine g_iconst (v := 0) dX7_text_74 (by decide) ?_
          refine p_X7_88 rfl rfl dX7_text_75 ?_
          refine g_mem (fun u149 eu149 => ?_)
          have hu149 : iv u149 := by rw [eu149]; exact iv_up hu50 rfl (by first | lia | grind) (by first | lia | grind)
          have fu149 : fk [60, 61, 63, 64, 65, 66, 67, 68] [22, 28] u u149 := by rw [eu149]; exact fk_up fu50 (by decide) (fun _ => by decide)
          have riu149 : ri u149 := by rw [eu149]; exact ri_1 riu50 (by decide) (fun _ => by decide)
          have rfu149 : rf u149 := by rw [eu149]; exact rf_1 rfu50 (by decide)
          have s150 : u149.1 60 13 = 0 := by rw [eu149, uk_up_at]; exact if_pos ⟨rfl, rfl⟩
          have T151 : u149.1 60 7 = t51 := by rw [eu149, uk_up_at, if_neg (by decide)]; exact Tt51
          have T152 : u149.1 60 11 = t52 := by rw [eu149, uk_up_at, if_neg (by decide)]; exact Tt52
          have T153 : u149.1 60 15 = t54 := by rw [eu149, uk_up_at, if_neg (by decide)]; exact Tt54
          have T154 : u149.1 60 16 = t55 := by rw [eu149, uk_up_at, if_neg (by decide)]; exact Tt55
          have T155 : u149.1 60 18 = t56 := by rw [eu149, uk_up_at, if_neg (by decide)]; exact Tt56
          have T156 : u149.1 60 19 = t57 := by rw [eu149, uk_up_at, if_neg (by decide)]; exact Tt57
          refine g_aload_n dX7_text_78 rfl ?_
          refine f_X7_91 rfl rfl dX7_text_79 ?_
          refine g_topi (fun x157 ex157 => ?_)
          have rx157 : 0 ≤ x157 ∧ x157 ≤ 6 := by rw [ex157]; exact iv_at hu149 _ _ rfl
          have qx157 : x157 = t56 := ex157.trans T155
          refine g_if_le (tgt := 93) dX7_text_82 (by decide) (fun c158 => ?_) (fun c158 => ?_)
          · refine g_aload_n dX7_text_93 rfl ?_
            exfalso; grind
          · refine g_bipush (v := (-10)) dX7_text_85 (by decide) ?_
            refine g_aload_n dX7_text_87 rfl ?_
            refine f_X7_97 rfl rfl dX7_text_88 ?_
            refine g_topi (fun x159 ex159 => ?_)
            have qx159 : x159 = t57 := ex159.trans T156
            refine g_isub dX7_text_91 ?_
            refine g_topi (fun x160 ex160 => ?_)
            exact g_iret (ty := .int) dX7_text_92 rfl rfl ⟨⟨_, rfl, Or.inl ⟨by rw [← RF.1]; grind, by rw [ex160, ← RF.2.1 (by rw [← RF.1]; grind)]; grind⟩⟩, hu149, fu149, riu149, (s150.trans (by grind)), (by rw [T155, ← RF.1]; grind), (fun q => by exfalso; have := RF.1; grind), (fun _ => ⟨by rw [eu149, uk_up_oc (by decide)]; exact fk_c FX9 (by decide), by rw [eu149, uk_up_oc (by decide)]; exact fk_c FX9 (by decide), by rw [eu149, uk_up_oc (by decide)]; exact fk_c FX9 (by decide), by rw [eu149, uk_up_oc (by decide)]; exact fk_c FX9 (by decide), by rw [eu149, uk_up_at, if_neg (by decide)]; exact fk_at FX9 (by decide)⟩)⟩
        · refine g_aload_n dX7_text_51 rfl ?_
          refine g_aload_n dX7_text_52 rfl ?_
          refine f_X7_76 rfl rfl dX7_text_53 ?_
          refine g_topi (fun x161 ex161 => ?_)
          have qx161 : x161 = t52 := ex161.trans Tt52
          refine g_aload_n dX7_text_56 rfl ?_
          refine f_X7_69 rfl rfl dX7_text_57 ?_
          refine g_topi (fun x162 ex162 => ?_)
          have rx162 : 0 ≤ x162 ∧ x162 ≤ 8 := by rw [ex162]; exact iv_at hu50 _ _ rfl
          have qx162 : x162 = t51 := ex162.trans Tt51
          refine g_icmp_ge (tgt := 67) dX7_text_60 (by decide) (fun c163 => ?_) (fun c163 => ?_)
          · refine g_iconst (v := 0) dX7_text_67 (by decide) ?_
            refine g_bipush (v := 6) dX7_text_68 (by decide) ?_
            refine cl_X7_125 (c := 60) (As := [.int 0, .int 6]) rfl (c_X7_needs_s (G := G) hs hu50  0 6 (by first | trivial | decide | lia | grind) (by first | trivial | decide | lia | grind) (d + 4)) rfl (by omega) rfl rfl (Nat.le_of_ble_eq_true rfl) dX7_text_70 (fun r164 u165 q166 => ?_)
            obtain ⟨rfl, mq166⟩ := q166
            obtain ⟨hu165, gu165, ku1650, ku1651, ku1652⟩ := mq166
            have fu165 : fk [60, 61, 63, 64, 65, 66, 67, 68] [22, 28] u u165 := fk_tr fu50 gu165 (by decide) (by decide)
            have riu165 : ri u165 := ri_fk riu50 gu165 (by decide) (by decide) (by decide) (by decide) (by decide)
            have rfu165 : rf u165 := rf_mono rfu50 gu165 (fun q => (ku1650 q).1) (by decide) (by decide) (by decide) (by decide)
            have T167 : u165.1 60 7 = t51 := (fk_at gu165 (by decide)).trans Tt51
            have T168 : u165.1 60 11 = t52 := (fk_at gu165 (by decide)).trans Tt52
            have T169 : u165.1 60 13 = t53 := (fk_at gu165 (by decide)).trans Tt53
            have T170 : u165.1 60 15 = t54 := (fk_at gu165 (by decide)).trans Tt54
            have T171 : u165.1 60 16 = t55 := (fk_at gu165 (by decide)).trans Tt55
            obtain ⟨t172, Tt172⟩ : ∃ t, u165.1 60 18 = t := ⟨_, rfl⟩
            have Rt172 : 0 ≤ t172 ∧ t172 ≤ 6 := by rw [← Tt172]; exact iv_at hu165 _ _ rfl
            obtain ⟨t173, Tt173⟩ : ∃ t, u165.1 60 19 = t := ⟨_, rfl⟩
            have wu165_60_3 : u165.1 60 3 = u50.1 60 3 := fk_at gu165 (by decide)
            have CC : 0 ≤ i48 ∧ i48 < 160 := by grind
            have RF : u165.1 60 18 = (pRes f N).1.1 ∧ (¬ (pRes f N).1.1 = 0 → u165.1 60 19 = (pRes f N).1.2.1) ∧ ((pRes f N).1.1 = 0 → i48 = (pRes f N).2) := Rr_E hN CC.1 CC.2 ji492 (by grind) (by grind) (iv_at hu50 60 7 rfl) (fun q => by grind) (fun q => by grind)
            have RD : (pRes f N).1.1 = 0 → Rw u165 (wIt f N (pRes f N).2.toNatClampNeg) ∧ u165.1 60 7 = (pIt f N (pRes f N).2.toNatClampNeg).2.2.2.1 := fun q => by
              obtain ⟨b9, W9, bI, bJ, BW, B1, B2, B3, B5, B6, B8⟩ := ji493 (by grind)
              rw [← RF.2.2 q, ← bI, ← bJ]
              exact ⟨Rw_cg BW (fk_at gu165 (by decide)) (fk_c gu165 (by decide)) (fk_c gu165 (by decide)) (fk_c gu165 (by decide)), (fk_at gu165 (by decide)).trans B5⟩
            have FX9 : fk [60, 66, 67, 68] [3, 22, 28] u u165 := fk_tr ji494 gu165 (by decide) (by decide)
            refine g_aload_n dX7_text_73 rfl ?_
            refine g_iconst (v := 0) dX7_text_74 (by decide) ?_
            refine p_X7_88 rfl rfl dX7_text_75 ?_
            refine g_mem (fun u174 eu174 => ?_)
            have hu174 : iv u174 := by rw [eu174]; exact iv_up hu165 rfl (by first | lia | grind) (by first | lia | grind)
            have fu174 : fk [60, 61, 63, 64, 65, 66, 67, 68] [22, 28] u u174 := by rw [eu174]; exact fk_up fu165 (by decide) (fun _ => by decide)
            have riu174 : ri u174 := by rw [eu174]; exact ri_1 riu165 (by decide) (fun _ => by decide)
            have rfu174 : rf u174 := by rw [eu174]; exact rf_1 rfu165 (by decide)
            have s175 : u174.1 60 13 = 0 := by rw [eu174, uk_up_at]; exact if_pos ⟨rfl, rfl⟩
            have T176 : u174.1 60 7 = t51 := by rw [eu174, uk_up_at, if_neg (by decide)]; exact T167
            have T177 : u174.1 60 11 = t52 := by rw [eu174, uk_up_at, if_neg (by decide)]; exact T168
            have T178 : u174.1 60 15 = t54 := by rw [eu174, uk_up_at, if_neg (by decide)]; exact T170
            have T179 : u174.1 60 16 = t55 := by rw [eu174, uk_up_at, if_neg (by decide)]; exact T171
            have T180 : u174.1 60 18 = t172 := by rw [eu174, uk_up_at, if_neg (by decide)]; exact Tt172
            have T181 : u174.1 60 19 = t173 := by rw [eu174, uk_up_at, if_neg (by decide)]; exact Tt173
            refine g_aload_n dX7_text_78 rfl ?_
            refine f_X7_91 rfl rfl dX7_text_79 ?_
            refine g_topi (fun x182 ex182 => ?_)
            have rx182 : 0 ≤ x182 ∧ x182 ≤ 6 := by rw [ex182]; exact iv_at hu174 _ _ rfl
            have qx182 : x182 = t172 := ex182.trans T180
            refine g_if_le (tgt := 93) dX7_text_82 (by decide) (fun c183 => ?_) (fun c183 => ?_)
            · refine g_aload_n dX7_text_93 rfl ?_
              have q94 : (pRes f N).1.1 = 0 := by rw [← RF.1]; grind
              have RE : Rw u174 (wIt f N (pRes f N).2.toNatClampNeg) := Rw_cg (RD q94).1 (by rw [eu174, uk_up_at, if_neg (by decide)]) (by rw [eu174, uk_up_oc (by decide)]) (by rw [eu174, uk_up_oc (by decide)]) (by rw [eu174, uk_up_oc (by decide)])
              have RS : u174.1 60 7 = (pIt f N (pRes f N).2.toNatClampNeg).2.2.2.1 := by rw [eu174, uk_up_at, if_neg (by decide)]; exact (RD q94).2
              have rdx184 : rd u174 := rfu174 (by grind)
              refine cl_X7_66 (c := 60) (As := []) rfl (c_X7_keepDraft_t (G := G) hs hu174 rdx184    (d + 4)) rfl (by omega) rfl rfl (Nat.le_of_ble_eq_true rfl) dX7_text_94 (fun r185 u186 q187 => ?_)
              obtain ⟨rfl, mq187⟩ := q187
              obtain ⟨hu186, gu186, riu186, ku1860, ku1861, ku1862, ku1863, ku1864, ku1865⟩ := mq187
              have fu186 : fk [60, 61, 63, 64, 65, 66, 67, 68] [22, 28] u u186 := fk_tr fu174 gu186 (by decide) (by decide)
              have T188 : u186.1 60 7 = t51 := (fk_at gu186 (by decide)).trans T176
              have T189 : u186.1 60 11 = t52 := (fk_at gu186 (by decide)).trans T177
              have T190 : u186.1 60 13 = 0 := (fk_at gu186 (by decide)).trans s175
              have T191 : u186.1 60 15 = t54 := (fk_at gu186 (by decide)).trans T178
              have T192 : u186.1 60 16 = t55 := (fk_at gu186 (by decide)).trans T179
              have T193 : u186.1 60 18 = t172 := (fk_at gu186 (by decide)).trans T180
              have T194 : u186.1 60 19 = t173 := (fk_at gu186 (by decide)).trans T181
              have s195 : u186.1 60 13 = 0 := (fk_at gu186 (by decide)).trans s175
              refine g_iload_n dX7_text_97 rfl ?_
              exact g_iret (ty := .int) dX7_text_98 rfl rfl ⟨⟨_, rfl, Or.inr ⟨by rw [← RF.1]; grind, RF.2.2 (by rw [← RF.1]; grind)⟩⟩, hu186, fu186, riu186, (T190.trans (by grind)), (by rw [T193, ← RF.1]; grind), (fun _ => ⟨RwG_keep RE (iv_at hu174 60 7 rfl).2 ku1860 ku1861 ku1862 ku1863 (iv_at hu174 60 7 rfl).1, ku1860.trans RS, ku1864, ku1865⟩), (fun q => absurd q94 q)⟩
            · refine g_bipush (v := (-10)) dX7_text_85 (by decide) ?_
              refine g_aload_n dX7_text_87 rfl ?_
              refine f_X7_97 rfl rfl dX7_text_88 ?_
              refine g_topi (fun x196 ex196 => ?_)
              have qx196 : x196 = t173 := ex196.trans T181
              refine g_isub dX7_text_91 ?_
              refine g_topi (fun x197 ex197 => ?_)
              exact g_iret (ty := .int) dX7_text_92 rfl rfl ⟨⟨_, rfl, Or.inl ⟨by rw [← RF.1]; grind, by rw [ex197, ← RF.2.1 (by rw [← RF.1]; grind)]; grind⟩⟩, hu174, fu174, riu174, (s175.trans (by grind)), (by rw [T180, ← RF.1]; grind), (fun q => by exfalso; have := RF.1; grind), (fun _ => ⟨by rw [eu174, uk_up_oc (by decide)]; exact fk_c FX9 (by decide), by rw [eu174, uk_up_oc (by decide)]; exact fk_c FX9 (by decide), by rw [eu174, uk_up_oc (by decide)]; exact fk_c FX9 (by decide), by rw [eu174, uk_up_oc (by decide)]; exact fk_c FX9 (by decide), by rw [eu174, uk_up_at, if_neg (by decide)]; exact fk_at FX9 (by decide)⟩)⟩
          · refine g_iconst (v := 1) dX7_text_63 (by decide) ?_
            refine g_goto (tgt := 68) dX7_text_64 (by decide) ?_
            refine g_bipush (v := 6) dX7_text_68 (by decide) ?_
            refine cl_X7_125 (c := 60) (As := [.int 1, .int 6]) rfl (c_X7_needs_s (G := G) hs hu50  1 6 (by first | trivial | decide | lia | grind) (by first | trivial | decide | lia | grind) (d + 4)) rfl (by omega) rfl rfl (Nat.le_of_ble_eq_true rfl) dX7_text_70 (fun r198 u199 q200 => ?_)
            obtain ⟨rfl, mq200⟩ := q200
            obtain ⟨hu199, gu199, ku1990, ku1991, ku1992⟩ := mq200
            have fu199 : fk [60, 61, 63, 64, 65, 66, 67, 68] [22, 28] u u199 := fk_tr fu50 gu199 (by decide) (by decide)
            have riu199 : ri u199 := ri_fk riu50 gu199 (by decide) (by decide) (by decide) (by decide) (by decide)
            have rfu199 : rf u199 := rf_mono rfu50 gu199 (fun q => (ku1990 q).1) (by decide) (by decide) (by decide) (by decide)
            have T201 : u199.1 60 7 = t51 := (fk_at gu199 (by decide)).trans Tt51
            have T202 : u199.1 60 11 = t52 := (fk_at gu199 (by decide)).trans Tt52
            have T203 : u199.1 60 13 = t53 := (fk_at gu199 (by decide)).trans Tt53
            have T204 : u199.1 60 15 = t54 := (fk_at gu199 (by decide)).trans Tt54
            have T205 : u199.1 60 16 = t55 := (fk_at gu199 (by decide)).trans Tt55
            obtain ⟨t206, Tt206⟩ : ∃ t, u199.1 60 18 = t := ⟨_, rfl⟩
            have Rt206 : 0 ≤ t206 ∧ t206 ≤ 6 := by rw [← Tt206]; exact iv_at hu199 _ _ rfl
            obtain ⟨t207, Tt207⟩ : ∃ t, u199.1 60 19 = t := ⟨_, rfl⟩
            have wu199_60_3 : u199.1 60 3 = u50.1 60 3 := fk_at gu199 (by decide)
            have CC : 0 ≤ i48 ∧ i48 < 160 := by grind
            have RF : u199.1 60 18 = (pRes f N).1.1 ∧ (¬ (pRes f N).1.1 = 0 → u199.1 60 19 = (pRes f N).1.2.1) ∧ ((pRes f N).1.1 = 0 → i48 = (pRes f N).2) := Rr_E hN CC.1 CC.2 ji492 (by grind) (by grind) (iv_at hu50 60 7 rfl) (fun q => by grind) (fun q => by grind)
            have RD : (pRes f N).1.1 = 0 → Rw u199 (wIt f N (pRes f N).2.toNatClampNeg) ∧ u199.1 60 7 = (pIt f N (pRes f N).2.toNatClampNeg).2.2.2.1 := fun q => by
              obtain ⟨b9, W9, bI, bJ, BW, B1, B2, B3, B5, B6, B8⟩ := ji493 (by grind)
              rw [← RF.2.2 q, ← bI, ← bJ]
              exact ⟨Rw_cg BW (fk_at gu199 (by decide)) (fk_c gu199 (by decide)) (fk_c gu199 (by decide)) (fk_c gu199 (by decide)), (fk_at gu199 (by decide)).trans B5⟩
            have FX9 : fk [60, 66, 67, 68] [3, 22, 28] u u199 := fk_tr ji494 gu199 (by decide) (by decide)
            refine g_aload_n dX7_text_73 rfl ?_
            refine g_iconst (v := 0) dX7_text_74 (by decide) ?_
            refine p_X7_88 rfl rfl dX7_text_75 ?_
            refine g_mem (fun u208 eu208 => ?_)
            have hu208 : iv u208 := by rw [eu208]; exact iv_up hu199 rfl (by first | lia | grind) (by first | lia | grind)
            have fu208 : fk [60, 61, 63, 64, 65, 66, 67, 68] [22, 28] u u208 := by rw [eu208]; exact fk_up fu199 (by decide) (fun _ => by decide)
            have riu208 : ri u208 := by rw [eu208]; exact ri_1 riu199 (by decide) (fun _ => by decide)
            have rfu208 : rf u208 := by rw [eu208]; exact rf_1 rfu199 (by decide)
            have s209 : u208.1 60 13 = 0 := by rw [eu208, uk_up_at]; exact if_pos ⟨rfl, rfl⟩
            have T210 : u208.1 60 7 = t51 := by rw [eu208, uk_up_at, if_neg (by decide)]; exact T201
            have T211 : u208.1 60 11 = t52 := by rw [eu208, uk_up_at, if_neg (by decide)]; exact T202
            have T212 : u208.1 60 15 = t54 := by rw [eu208, uk_up_at, if_neg (by decide)]; exact T204
            have T213 : u208.1 60 16 = t55 := by rw [eu208, uk_up_at, if_neg (by decide)]; exact T205
            have T214 : u208.1 60 18 = t206 := by rw [eu208, uk_up_at, if_neg (by decide)]; exact Tt206
            have T215 : u208.1 60 19 = t207 := by rw [eu208, uk_up_at, if_neg (by decide)]; exact Tt207
            refine g_aload_n dX7_text_78 rfl ?_
            refine f_X7_91 rfl rfl dX7_text_79 ?_
            refine g_topi (fun x216 ex216 => ?_)
            have rx216 : 0 ≤ x216 ∧ x216 ≤ 6 := by rw [ex216]; exact iv_at hu208 _ _ rfl
            have qx216 : x216 = t206 := ex216.trans T214
            refine g_if_le (tgt := 93) dX7_text_82 (by decide) (fun c217 => ?_) (fun c217 => ?_)
            · refine g_aload_n dX7_text_93 rfl ?_
              have q94 : (pRes f N).1.1 = 0 := by rw [← RF.1]; grind
              have RE : Rw u208 (wIt f N (pRes f N).2.toNatClampNeg) := Rw_cg (RD q94).1 (by rw [eu208, uk_up_at, if_neg (by decide)]) (by rw [eu208, uk_up_oc (by decide)]) (by rw [eu208, uk_up_oc (by decide)]) (by rw [eu208, uk_up_oc (by decide)])
              have RS : u208.1 60 7 = (pIt f N (pRes f N).2.toNatClampNeg).2.2.2.1 := by rw [eu208, uk_up_at, if_neg (by decide)]; exact (RD q94).2
              have rdx218 : rd u208 := rfu208 (by grind)
              refine cl_X7_66 (c := 60) (As := []) rfl (c_X7_keepDraft_t (G := G) hs hu208 rdx218    (d + 4)) rfl (by omega) rfl rfl (Nat.le_of_ble_eq_true rfl) dX7_text_94 (fun r219 u220 q221 => ?_)
              obtain ⟨rfl, mq221⟩ := q221
              obtain ⟨hu220, gu220, riu220, ku2200, ku2201, ku2202, ku2203, ku2204, ku2205⟩ := mq221
              have fu220 : fk [60, 61, 63, 64, 65, 66, 67, 68] [22, 28] u u220 := fk_tr fu208 gu220 (by decide) (by decide)
              have T222 : u220.1 60 7 = t51 := (fk_at gu220 (by decide)).trans T210
              have T223 : u220.1 60 11 = t52 := (fk_at gu220 (by decide)).trans T211
              have T224 : u220.1 60 13 = 0 := (fk_at gu220 (by decide)).trans s209
              have T225 : u220.1 60 15 = t54 := (fk_at gu220 (by decide)).trans T212
              have T226 : u220.1 60 16 = t55 := (fk_at gu220 (by decide)).trans T213
              have T227 : u220.1 60 18 = t206 := (fk_at gu220 (by decide)).trans T214
              have T228 : u220.1 60 19 = t207 := (fk_at gu220 (by decide)).trans T215
              have s229 : u220.1 60 13 = 0 := (fk_at gu220 (by decide)).trans s209
              refine g_iload_n dX7_text_97 rfl ?_
              exact g_iret (ty := .int) dX7_text_98 rfl rfl ⟨⟨_, rfl, Or.inr ⟨by rw [← RF.1]; grind, RF.2.2 (by rw [← RF.1]; grind)⟩⟩, hu220, fu220, riu220, (T224.trans (by grind)), (by rw [T227, ← RF.1]; grind), (fun _ => ⟨RwG_keep RE (iv_at hu208 60 7 rfl).2 ku2200 ku2201 ku2202 ku2203 (iv_at hu208 60 7 rfl).1, ku2200.trans RS, ku2204, ku2205⟩), (fun q => absurd q94 q)⟩
            · refine g_bipush (v := (-10)) dX7_text_85 (by decide) ?_
              refine g_aload_n dX7_text_87 rfl ?_
              refine f_X7_97 rfl rfl dX7_text_88 ?_
              refine g_topi (fun x230 ex230 => ?_)
              have qx230 : x230 = t207 := ex230.trans T215
              refine g_isub dX7_text_91 ?_
              refine g_topi (fun x231 ex231 => ?_)
              exact g_iret (ty := .int) dX7_text_92 rfl rfl ⟨⟨_, rfl, Or.inl ⟨by rw [← RF.1]; grind, by rw [ex231, ← RF.2.1 (by rw [← RF.1]; grind)]; grind⟩⟩, hu208, fu208, riu208, (s209.trans (by grind)), (by rw [T214, ← RF.1]; grind), (fun q => by exfalso; have := RF.1; grind), (fun _ => ⟨by rw [eu208, uk_up_oc (by decide)]; exact fk_c FX9 (by decide), by rw [eu208, uk_up_oc (by decide)]; exact fk_c FX9 (by decide), by rw [eu208, uk_up_oc (by decide)]; exact fk_c FX9 (by decide), by rw [eu208, uk_up_oc (by decide)]; exact fk_c FX9 (by decide), by rw [eu208, uk_up_at, if_neg (by decide)]; exact fk_at FX9 (by decide)⟩)⟩
      · obtain ⟨b9, W9, bI, bJ, BW, B1, B2, B3, B5, B6, B8⟩ := ji493 (by grind)
        refine g_aload_n dX7_text_34 rfl ?_
        refine cl_X7_150 (c := 60) (As := []) rfl (c_X7_readLine_t (G := G) hs hu50 rfu50  f N b9 W9 B2 (by grind) B5 B6 B8 BW (d)) rfl (by omega) rfl rfl (Nat.le_of_ble_eq_true rfl) dX7_text_35 (fun r232 u233 q234 => ?_)
        obtain ⟨rfl, mq234⟩ := q234
        obtain ⟨hu233, gu233, rfu233, ku2330, ku2331, ku2332, ku2333, ku2334⟩ := mq234
        have fu233 : fk [60, 61, 63, 64, 65, 66, 67, 68] [22, 28] u u233 := fk_tr fu50 gu233 (by decide) (by decide)
        have riu233 : ri u233 := ri_fk riu50 gu233 (by decide) (by decide) (by decide) (by decide) (by decide)
        obtain ⟨t235, Tt235⟩ : ∃ t, u233.1 60 7 = t := ⟨_, rfl⟩
        have Rt235 : 0 ≤ t235 ∧ t235 ≤ 8 := by rw [← Tt235]; exact iv_at hu233 _ _ rfl
        obtain ⟨t236, Tt236⟩ : ∃ t, u233.1 60 11 = t := ⟨_, rfl⟩
        have T237 : u233.1 60 13 = t53 := (fk_at gu233 (by decide)).trans Tt53
        obtain ⟨t238, Tt238⟩ : ∃ t, u233.1 60 15 = t := ⟨_, rfl⟩
        have Rt238 : 0 ≤ t238 ∧ t238 ≤ 160 := by rw [← Tt238]; exact iv_at hu233 _ _ rfl
        obtain ⟨t239, Tt239⟩ : ∃ t, u233.1 60 16 = t := ⟨_, rfl⟩
        obtain ⟨t240, Tt240⟩ : ∃ t, u233.1 60 18 = t := ⟨_, rfl⟩
        have Rt240 : 0 ≤ t240 ∧ t240 ≤ 6 := by rw [← Tt240]; exact iv_at hu233 _ _ rfl
        obtain ⟨t241, Tt241⟩ : ∃ t, u233.1 60 19 = t := ⟨_, rfl⟩
        have wu233_60_3 : u233.1 60 3 = u50.1 60 3 := fk_at gu233 (by decide)
        refine g_iinc (v := i48 + 1) dX7_text_38 rfl rfl (by decide) ?_
        refine g_pick (lv' := [(0, .ref (uk_ad G 60)), (1, .int (i48 + 1))]) [0, 1] rfl ?_
        refine g_goto (tgt := 20) dX7_text_41 (by decide) ?_
        refine g_pick (lv' := [(0, .ref (uk_ad G 60)), (1, .int (i48 + 1))]) [0, 1] rfl ?_
        exact ihi49 (tx_ms u233) (tx_lt ki49 hu50 (by grind) ku2331) (tx_b hu233).2 ((i48 + 1)) u233 hu233 fu233 riu233 rfu233 rfl ⟨by have := iv_at hu50 60 15 (lo := 0) (hi := 160) rfl; grind, by have := iv_at hu50 60 15 (lo := 0) (hi := 160) rfl; grind⟩ (fun q => by have := iv_at hu50 60 15 (lo := 0) (hi := 160) rfl; have := ku2331 q; grind) (Rr_step hN (by grind) (by have := iv_at hu50 60 15 (lo := 0) (hi := 160) rfl; grind) (by grind) (by grind) B2 B3 ku2332 ku2333) (RW_s hN (by grind) (by have := iv_at hu50 60 15 (lo := 0) (hi := 160) rfl; grind) bI bJ (by grind) (by grind) B2 B3 ku2332 ku2333 ku2334) (fk_tr ji494 gu233 (by decide) (by decide))
  refine g_pick (lv' := [(0, .ref (uk_ad G 60)), (1, .int 0)]) [0, 1] rfl ?_
  exact L20_46 (tx_ms u38) (tx_b hu38).1 (tx_b hu38).2 0 u38 hu38 fu38 riu38 rfu38 rfl ⟨by decide, by decide⟩ (fun q => by have := iv_at hu38 60 15 (lo := 0) (hi := 160) rfl; grind) R0 RW0 FX2
abbrev q_X6_fitTogether_k (u : uk_Mem) (a : Int32) (b : Int32) (r : Option Value) (u' : uk_Mem) : Prop := (∃ x : Int32, r = some (.int x) ∧ (x = 0 ∨ x = 1) ∧ (¬ x = 0 → True) ∧ (x = 0 → True)) ∧ (iv u' ∧ fr 41 59 u u' ∧ u'.1 50 = u.1 50 ∧ u'.1 51 = u.1 51 ∧ u'.1 53 = u.1 53 ∧ u'.1 54 = u.1 54 ∧ u'.1 55 = u.1 55 ∧ u'.1 56 = u.1 56)
set_option maxHeartbeats 4000000 in
set_option maxRecDepth 20000 in
theorem c_X6_fitTogether_k {G : uk_D} (hs : uk_Sep G) {u : uk_Mem} (hu : iv u) (a : Int32) (b : Int32) (p0 : 0 ≤ a) (p1 : a ≤ 7) (p2 : 0 ≤ b) (p3 : b ≤ 7) (d : Nat) : uk_Meth G (d + 3) mX6_fitTogether [.ref (uk_ad G 0), .int a, .int b] u (q_X6_fitTogether_k u a b) := by
  refine uk_Meth.of hs (by decide) (Nat.le_of_ble_eq_true rfl) (fun X => ?_)
  have f0 : fr 41 59 u u := fr_rf
  have C50 : u.1 50 = u.1 50 := rfl
  have C51 : u.1 51 = u.1 51 := rfl
  have C53 : u.1 53 = u.1 53 := rfl
  have C54 : u.1 54 = u.1 54 := rfl
  have C55 : u.1 55 = u.1 55 := rfl
  have C56 : u.1 56 = u.1 56 := rfl
  refine g_iconst (v := 0) dX6_fitTogether_0 (by decide) ?_
  refine g_istore_n dX6_fitTogether_1 (by decide) ?_
  refine g_pick (lv' := [(0, .ref (uk_ad G 0)), (1, .int a), (2, .int b), (3, .int 0)]) [0, 1, 2, 3] rfl ?_
  have L2_0 : ∀ i2 : Int32, 0 ≤ i2 → i2 ≤ 8 → ∀ (u3 : uk_Mem), iv u3 → fr 41 59 u u3 → u3.1 50 = u.1 50 → u3.1 51 = u.1 51 → u3.1 53 = u.1 53 → u3.1 54 = u.1 54 → u3.1 55 = u.1 55 → u3.1 56 = u.1 56 → uk_G G X mX6_fitTogether (d + 3) (q_X6_fitTogether_k u a b) 2 [(0, .ref (uk_ad G 0)), (1, .int a), (2, .int b), (3, .int i2)] [] u3 := by
    refine uk_upl 8 ?_
    intro i2 ai2 bi2 ihi2  u3 hu3 fu3 ji20 ji21 ji22 ji23 ji24 ji25
    have C50_u3 : u3.1 50 = u3.1 50 := rfl
    have C51_u3 : u3.1 51 = u3.1 51 := rfl
    have C53_u3 : u3.1 53 = u3.1 53 := rfl
    have C54_u3 : u3.1 54 = u3.1 54 := rfl
    have C55_u3 : u3.1 55 = u3.1 55 := rfl
    have C56_u3 : u3.1 56 = u3.1 56 := rfl
    refine g_iload_n dX6_fitTogether_2 rfl ?_
    refine g_bipush (v := 8) dX6_fitTogether_3 (by decide) ?_
    refine g_icmp_ge (tgt := 21) dX6_fitTogether_5 (by decide) (fun c4 => ?_) (fun c4 => ?_)
    · refine g_iconst (v := 0) dX6_fitTogether_21 (by decide) ?_
      refine g_istore_n dX6_fitTogether_22 (by decide) ?_
      refine g_pick (lv' := [(0, .ref (uk_ad G 0)), (1, .int a), (2, .int b), (3, .int 0)]) [0, 1, 2, 3] rfl ?_
      have L23_4 : ∀ i6 : Int32, 0 ≤ i6 → i6 ≤ 8 → ∀ (u7 : uk_Mem), iv u7 → fr 41 59 u u7 → u7.1 50 = u.1 50 → u7.1 51 = u.1 51 → u7.1 53 = u.1 53 → u7.1 54 = u.1 54 → u7.1 55 = u.1 55 → u7.1 56 = u.1 56 → uk_G G X mX6_fitTogether (d + 3) (q_X6_fitTogether_k u a b) 23 [(0, .ref (uk_ad G 0)), (1, .int a), (2, .int b), (3, .int i6)] [] u7 := by
        refine uk_upl 8 ?_
        intro i6 ai6 bi6 ihi6  u7 hu7 fu7 ji60 ji61 ji62 ji63 ji64 ji65
        have C50_u7 : u7.1 50 = u7.1 50 := rfl
        have C51_u7 : u7.1 51 = u7.1 51 := rfl
        have C53_u7 : u7.1 53 = u7.1 53 := rfl
        have C54_u7 : u7.1 54 = u7.1 54 := rfl
        have C55_u7 : u7.1 55 = u7.1 55 := rfl
        have C56_u7 : u7.1 56 = u7.1 56 := rfl
        refine g_iload_n dX6_fitTogether_23 rfl ?_
        refine g_aload_n dX6_fitTogether_24 rfl ?_
        refine f_X6_10 rfl rfl dX6_fitTogether_25 ?_
        refine f_X6_223 rfl rfl dX6_fitTogether_28 ?_
        refine g_topi (fun x8 ex8 => ?_)
        have rx8 : 0 ≤ x8 ∧ x8 ≤ 8 := by rw [ex8]; exact iv_at hu7 _ _ rfl
        have s9 : u7.1 13 9 = x8 := ex8.symm
        refine g_icmp_ge (tgt := 58) dX6_fitTogether_31 (by decide) (fun c10 => ?_) (fun c10 => ?_)
        · refine g_aload_n dX6_fitTogether_58 rfl ?_
          refine f_X6_48 rfl rfl dX6_fitTogether_59 ?_
          refine g_aload_n dX6_fitTogether_62 rfl ?_
          refine f_X6_10 rfl rfl dX6_fitTogether_63 ?_
          refine g_iload_n dX6_fitTogether_66 rfl ?_
          refine g_bipush (v := 127) dX6_fitTogether_67 (by decide) ?_
          refine cl_X6_177 (c := 41) (As := [.ref (uk_ad G 13), .int a, .int 127]) rfl (c_X1_grind (G := G) hs hu7  a 127 (by first | trivial | decide | lia | grind) (by first | trivial | decide | lia | grind) (d)) rfl (by omega) rfl rfl (Nat.le_of_ble_eq_true rfl) dX6_fitTogether_69 (fun r11 u12 q13 => ?_)
          obtain ⟨rfl, mq13⟩ := q13
          obtain ⟨hu12, gu12⟩ := mq13
          have fu12 : fr 41 59 u u12 := fr_tr fu7 gu12 (by omega) (by omega)
          have C14 : u12.1 50 = u7.1 50 := (gu12.1 50 (by omega)).trans C50_u7
          have C15 : u12.1 51 = u7.1 51 := (gu12.1 51 (by omega)).trans C51_u7
          have C16 : u12.1 53 = u7.1 53 := (gu12.1 53 (by omega)).trans C53_u7
          have C17 : u12.1 54 = u7.1 54 := (gu12.1 54 (by omega)).trans C54_u7
          have C18 : u12.1 55 = u7.1 55 := (gu12.1 55 (by omega)).trans C55_u7
          have C19 : u12.1 56 = u7.1 56 := (gu12.1 56 (by omega)).trans C56_u7
          have s20 : u12.1 13 9 = x8 := (fr_at gu12 (by omega)).trans s9
          refine g_aload_n dX6_fitTogether_72 rfl ?_
          refine f_X6_48 rfl rfl dX6_fitTogether_73 ?_
          refine g_aload_n dX6_fitTogether_76 rfl ?_
          refine f_X6_70 rfl rfl dX6_fitTogether_77 ?_
          refine cl_X6_290 (c := 41) (As := [.ref (uk_ad G 58)]) rfl (c_X1_takeFrom (G := G) hs hu12    (d + 2)) rfl (by omega) rfl rfl (Nat.le_of_ble_eq_true rfl) dX6_fitTogether_80 (fun r21 u22 q23 => ?_)
          obtain ⟨rfl, mq23⟩ := q23
          obtain ⟨hu22, gu22⟩ := mq23
          have fu22 : fr 41 59 u u22 := fr_tr fu12 gu22 (by omega) (by omega)
          have C24 : u22.1 50 = u7.1 50 := (gu22.1 50 (by omega)).trans C14
          have C25 : u22.1 51 = u7.1 51 := (gu22.1 51 (by omega)).trans C15
          have C26 : u22.1 53 = u7.1 53 := (gu22.1 53 (by omega)).trans C16
          have C27 : u22.1 54 = u7.1 54 := (gu22.1 54 (by omega)).trans C17
          have C28 : u22.1 55 = u7.1 55 := (gu22.1 55 (by omega)).trans C18
          have C29 : u22.1 56 = u7.1 56 := (gu22.1 56 (by omega)).trans C19
          have s30 : u22.1 13 9 = x8 := (fr_at gu22 (by omega)).trans s20
          refine g_aload_n dX6_fitTogether_83 rfl ?_
          refine f_X6_48 rfl rfl dX6_fitTogether_84 ?_
          refine g_aload_n dX6_fitTogether_87 rfl ?_
          refine f_X6_10 rfl rfl dX6_fitTogether_88 ?_
          refine g_iload_n dX6_fitTogether_91 rfl ?_
          refine g_bipush (v := 127) dX6_fitTogether_92 (by decide) ?_
          refine cl_X6_177 (c := 41) (As := [.ref (uk_ad G 13), .int b, .int 127]) rfl (c_X1_grind (G := G) hs hu22  b 127 (by first | trivial | decide | lia | grind) (by first | trivial | decide | lia | grind) (d)) rfl (by omega) rfl rfl (Nat.le_of_ble_eq_true rfl) dX6_fitTogether_94 (fun r31 u32 q33 => ?_)
          obtain ⟨rfl, mq33⟩ := q33
          obtain ⟨hu32, gu32⟩ := mq33
          have fu32 : fr 41 59 u u32 := fr_tr fu22 gu32 (by omega) (by omega)
          have C34 : u32.1 50 = u7.1 50 := (gu32.1 50 (by omega)).trans C24
          have C35 : u32.1 51 = u7.1 51 := (gu32.1 51 (by omega)).trans C25
          have C36 : u32.1 53 = u7.1 53 := (gu32.1 53 (by omega)).trans C26
          have C37 : u32.1 54 = u7.1 54 := (gu32.1 54 (by omega)).trans C27
          have C38 : u32.1 55 = u7.1 55 := (gu32.1 55 (by omega)).trans C28
          have C39 : u32.1 56 = u7.1 56 := (gu32.1 56 (by omega)).trans C29
          have s40 : u32.1 13 9 = x8 := (fr_at gu32 (by omega)).trans s30
          refine g_aload_n dX6_fitTogether_97 rfl ?_
          refine f_X6_48 rfl rfl dX6_fitTogether_98 ?_
          refine g_aload_n dX6_fitTogether_101 rfl ?_
          refine f_X6_70 rfl rfl dX6_fitTogether_102 ?_
          refine cl_X6_290 (c := 41) (As := [.ref (uk_ad G 58)]) rfl (c_X1_takeFrom (G := G) hs hu32    (d + 2)) rfl (by omega) rfl rfl (Nat.le_of_ble_eq_true rfl) dX6_fitTogether_105 (fun r41 u42 q43 => ?_)
          obtain ⟨rfl, mq43⟩ := q43
          obtain ⟨hu42, gu42⟩ := mq43
          have fu42 : fr 41 59 u u42 := fr_tr fu32 gu42 (by omega) (by omega)
          have C44 : u42.1 50 = u7.1 50 := (gu42.1 50 (by omega)).trans C34
          have C45 : u42.1 51 = u7.1 51 := (gu42.1 51 (by omega)).trans C35
          have C46 : u42.1 53 = u7.1 53 := (gu42.1 53 (by omega)).trans C36
          have C47 : u42.1 54 = u7.1 54 := (gu42.1 54 (by omega)).trans C37
          have C48 : u42.1 55 = u7.1 55 := (gu42.1 55 (by omega)).trans C38
          have C49 : u42.1 56 = u7.1 56 := (gu42.1 56 (by omega)).trans C39
          have s50 : u42.1 13 9 = x8 := (fr_at gu42 (by omega)).trans s40
          refine g_iconst (v := 0) dX6_fitTogether_108 (by decide) ?_
          refine g_istore_n dX6_fitTogether_109 (by decide) ?_
          refine g_pick (lv' := [(0, .ref (uk_ad G 0)), (1, .int a), (2, .int b), (3, .int 0)]) [0, 1, 2, 3] rfl ?_
          have L110_50 : ∀ i52 : Int32, 0 ≤ i52 → i52 ≤ 8 → uk_G G X mX6_fitTogether (d + 3) (q_X6_fitTogether_k u a b) 110 [(0, .ref (uk_ad G 0)), (1, .int a), (2, .int b), (3, .int i52)] [] u42 := by
            refine uk_upl 8 ?_
            intro i52 ai52 bi52 ihi52 
            refine g_iload_n dX6_fitTogether_110 rfl ?_
            refine g_bipush (v := 8) dX6_fitTogether_111 (by decide) ?_
            refine g_icmp_ge (tgt := 133) dX6_fitTogether_113 (by decide) (fun c53 => ?_) (fun c53 => ?_)
            · refine g_iconst (v := 1) dX6_fitTogether_133 (by decide) ?_
              exact g_iret (ty := .boolean) dX6_fitTogether_134 rfl rfl ⟨⟨1, rfl, Or.inr rfl, fun _ => by first | trivial | lia | grind, fun q => absurd q (by decide)⟩, hu42, fu42, (C44.trans ji60), (C45.trans ji61), (C46.trans ji62), (C47.trans ji63), (C48.trans ji64), (C49.trans ji65)⟩
            · refine g_aload_n dX6_fitTogether_116 rfl ?_
              refine f_X6_70 rfl rfl dX6_fitTogether_117 ?_
              refine g_iload_n dX6_fitTogether_120 rfl ?_
              have v54 : vp_in i52 8 := uk_vin 8 rfl (by first | decide | lia | grind) (by first | decide | lia | grind)
              refine g_iald rfl rfl v54 dX6_fitTogether_121 ?_
              refine g_topi (fun x55 ex55 => ?_)
              refine g_if_eq (tgt := 127) dX6_fitTogether_122 (by decide) (fun c56 => ?_) (fun c56 => ?_)
              · refine g_iinc (v := i52 + 1) dX6_fitTogether_127 rfl rfl (by decide) ?_
                refine g_pick (lv' := [(0, .ref (uk_ad G 0)), (1, .int a), (2, .int b), (3, .int (i52 + 1))]) [0, 1, 2, 3] rfl ?_
                refine g_goto (tgt := 110) dX6_fitTogether_130 (by decide) ?_
                refine g_pick (lv' := [(0, .ref (uk_ad G 0)), (1, .int a), (2, .int b), (3, .int (i52 + 1))]) [0, 1, 2, 3] rfl ?_
                exact ihi52 (by first | lia | grind)  
              · refine g_iconst (v := 0) dX6_fitTogether_125 (by decide) ?_
                exact g_iret (ty := .boolean) dX6_fitTogether_126 rfl rfl ⟨⟨0, rfl, Or.inl rfl, fun q => absurd rfl q, fun _ => by first | trivial | lia | grind⟩, hu42, fu42, (C44.trans ji60), (C45.trans ji61), (C46.trans ji62), (C47.trans ji63), (C48.trans ji64), (C49.trans ji65)⟩
          refine g_pick (lv' := [(0, .ref (uk_ad G 0)), (1, .int a), (2, .int b), (3, .int 0)]) [0, 1, 2, 3] rfl ?_
          exact L110_50 0 (by first | decide | lia | grind) (by first | decide | lia | grind)  
        · refine g_aload_n dX6_fitTogether_34 rfl ?_
          refine f_X6_70 rfl rfl dX6_fitTogether_35 ?_
          refine g_aload_n dX6_fitTogether_38 rfl ?_
          refine f_X6_10 rfl rfl dX6_fitTogether_39 ?_
          refine f_X6_226 rfl rfl dX6_fitTogether_42 ?_
          refine g_iload_n dX6_fitTogether_45 rfl ?_
          have v57 : vp_in i6 8 := uk_vin 8 rfl (by first | decide | lia | grind) (by first | decide | lia | grind)
          refine g_iald rfl rfl v57 dX6_fitTogether_46 ?_
          refine g_topi (fun x58 ex58 => ?_)
          have bx58 := uk_cl v57
          have rx58 : 0 ≤ x58 ∧ x58 ≤ 7 := by rw [ex58]; exact iv_at hu7 _ _ (uk_pick1 _ (by omega))
          refine g_dup2 dX6_fitTogether_47 rfl rfl ?_
          have v59 : vp_in x58 8 := uk_vin 8 rfl (by first | decide | lia | grind) (by first | decide | lia | grind)
          refine g_iald rfl rfl v59 dX6_fitTogether_48 ?_
          refine g_topi (fun x60 ex60 => ?_)
          refine g_iconst (v := 1) dX6_fitTogether_49 (by decide) ?_
          refine g_iadd dX6_fitTogether_50 ?_
          refine g_topi (fun x61 ex61 => ?_)
          have v62 : vp_in x58 8 := uk_vin 8 rfl (by first | decide | lia | grind) (by first | decide | lia | grind)
          have b63 := uk_cl v62
          refine g_iast rfl rfl v62 dX6_fitTogether_51 ?_
          refine g_mem (fun u64 eu64 => ?_)
          have hu64 : iv u64 := by rw [eu64]; exact iv_upF hu7 (uk_pick1 _ (by omega))
          have fu64 : fr 41 59 u u64 := by rw [eu64]; exact fr_up fu7 (by omega) (by omega)
          have C65 : u64.1 50 = u7.1 50 := by rw [eu64]; exact (uk_up_oc (by decide)).trans C50_u7
          have C66 : u64.1 51 = u7.1 51 := by rw [eu64]; exact (uk_up_oc (by decide)).trans C51_u7
          have C67 : u64.1 53 = u7.1 53 := by rw [eu64]; exact (uk_up_oc (by decide)).trans C53_u7
          have C68 : u64.1 54 = u7.1 54 := by rw [eu64]; exact (uk_up_oc (by decide)).trans C54_u7
          have C69 : u64.1 55 = u7.1 55 := by rw [eu64]; exact (uk_up_oc (by decide)).trans C55_u7
          have C70 : u64.1 56 = u7.1 56 := by rw [eu64]; exact (uk_up_oc (by decide)).trans C56_u7
          refine g_iinc (v := i6 + 1) dX6_fitTogether_52 rfl rfl (by decide) ?_
          refine g_pick (lv' := [(0, .ref (uk_ad G 0)), (1, .int a), (2, .int b), (3, .int (i6 + 1))]) [0, 1, 2, 3] rfl ?_
          refine g_goto (tgt := 23) dX6_fitTogether_55 (by decide) ?_
          refine g_pick (lv' := [(0, .ref (uk_ad G 0)), (1, .int a), (2, .int b), (3, .int (i6 + 1))]) [0, 1, 2, 3] rfl ?_
          exact ihi6 (by first | lia | grind)  u64 hu64 fu64 (C65.trans ji60) (C66.trans ji61) (C67.trans ji62) (C68.trans ji63) (C69.trans ji64) (C70.trans ji65)
      refine g_pick (lv' := [(0, .ref (uk_ad G 0)), (1, .int a), (2, .int b), (3, .int 0)]) [0, 1, 2, 3] rfl ?_
      exact L23_4 0 (by first | decide | lia | grind) (by first | decide | lia | grind)  u3 hu3 fu3 (C50_u3.trans ji20) (C51_u3.trans ji21) (C53_u3.trans ji22) (C54_u3.trans ji23) (C55_u3.trans ji24) (C56_u3.trans ji25)
    · refine g_aload_n dX6_fitTogether_8 rfl ?_
      refine f_X6_70 rfl rfl dX6_fitTogether_9 ?_
      refine g_iload_n dX6_fitTogether_12 rfl ?_
      refine g_iconst (v := 0) dX6_fitTogether_13 (by decide) ?_
      have v71 : vp_in i2 8 := uk_vin 8 rfl (by first | decide | lia | grind) (by first | decide | lia | grind)
      have b72 := uk_cl v71
      refine g_iast rfl rfl v71 dX6_fitTogether_14 ?_
      refine g_mem (fun u73 eu73 => ?_)
      have hu73 : iv u73 := by rw [eu73]; exact iv_upF hu3 (uk_pick1 _ (by omega))
      have fu73 : fr 41 59 u u73 := by rw [eu73]; exact fr_up fu3 (by omega) (by omega)
      have C74 : u73.1 50 = u3.1 50 := by rw [eu73]; exact (uk_up_oc (by decide)).trans C50_u3
      have C75 : u73.1 51 = u3.1 51 := by rw [eu73]; exact (uk_up_oc (by decide)).trans C51_u3
      have C76 : u73.1 53 = u3.1 53 := by rw [eu73]; exact (uk_up_oc (by decide)).trans C53_u3
      have C77 : u73.1 54 = u3.1 54 := by rw [eu73]; exact (uk_up_oc (by decide)).trans C54_u3
      have C78 : u73.1 55 = u3.1 55 := by rw [eu73]; exact (uk_up_oc (by decide)).trans C55_u3
      have C79 : u73.1 56 = u3.1 56 := by rw [eu73]; exact (uk_up_oc (by decide)).trans C56_u3
      refine g_iinc (v := i2 + 1) dX6_fitTogether_15 rfl rfl (by decide) ?_
      refine g_pick (lv' := [(0, .ref (uk_ad G 0)), (1, .int a), (2, .int b), (3, .int (i2 + 1))]) [0, 1, 2, 3] rfl ?_
      refine g_goto (tgt := 2) dX6_fitTogether_18 (by decide) ?_
      refine g_pick (lv' := [(0, .ref (uk_ad G 0)), (1, .int a), (2, .int b), (3, .int (i2 + 1))]) [0, 1, 2, 3] rfl ?_
      exact ihi2 (by first | lia | grind)  u73 hu73 fu73 (C74.trans ji20) (C75.trans ji21) (C76.trans ji22) (C77.trans ji23) (C78.trans ji24) (C79.trans ji25)
  refine g_pick (lv' := [(0, .ref (uk_ad G 0)), (1, .int a), (2, .int b), (3, .int 0)]) [0, 1, 2, 3] rfl ?_
  exact L2_0 0 (by first | decide | lia | grind) (by first | decide | lia | grind)  u hu f0 C50 C51 C53 C54 C55 C56
abbrev q_X6_pairs_k (u : uk_Mem) (w : Int32) (r : Option Value) (u' : uk_Mem) : Prop := (∃ x : Int32, r = some (.int x) ∧ True) ∧ (iv u' ∧ fr 41 59 u u' ∧ u'.1 50 = u.1 50 ∧ u'.1 51 = u.1 51 ∧ u'.1 53 = u.1 53 ∧ u'.1 54 = u.1 54 ∧ u'.1 55 = u.1 55 ∧ u'.1 56 = u.1 56)
set_option maxHeartbeats 4000000 in
set_option maxRecDepth 20000 in
theorem c_X6_pairs_k {G : uk_D} (hs : uk_Sep G) {u : uk_Mem} (hu : iv u) (w : Int32) (d : Nat) : uk_Meth G (d + 4) mX6_pairs [.ref (uk_ad G 0), .int w] u (q_X6_pairs_k u w) := by
  refine uk_Meth.of hs (by decide) (Nat.le_of_ble_eq_true rfl) (fun X => ?_)
  have f0 : fr 41 59 u u := fr_rf
  have C50 : u.1 50 = u.1 50 := rfl
  have C51 : u.1 51 = u.1 51 := rfl
  have C53 : u.1 53 = u.1 53 := rfl
  have C54 : u.1 54 = u.1 54 := rfl
  have C55 : u.1 55 = u.1 55 := rfl
  have C56 : u.1 56 = u.1 56 := rfl
  refine g_iload_n dX6_pairs_0 rfl ?_
  refine cl_X6_162 (As := [.int w]) rfl (c_X6_isFlag (G := G) hs hu  w  (d + 3)) rfl (by omega) rfl (Nat.le_of_ble_eq_true rfl) dX6_pairs_1 (fun r1 u2 q3 => ?_)
  obtain ⟨⟨x4, rfl, tx4, nx4, zx4⟩, mq3⟩ := q3
  rw [mq3]
  refine g_if_ne (tgt := 9) dX6_pairs_4 (by decide) (fun c5 => ?_) (fun c5 => ?_)
  · have zc5 := nx4 c5
    refine g_iconst (v := 0) dX6_pairs_9 (by decide) ?_
    refine g_istore_n dX6_pairs_10 (by decide) ?_
    refine g_pick (lv' := [(0, .ref (uk_ad G 0)), (1, .int w), (2, .int 0)]) [0, 1, 2] rfl ?_
    refine g_bipush (v := (-4)) dX6_pairs_11 (by decide) ?_
    refine g_istore_n dX6_pairs_13 (by decide) ?_
    refine g_pick (lv' := [(0, .ref (uk_ad G 0)), (1, .int w), (2, .int 0), (3, .int (-4))]) [0, 1, 2, 3] rfl ?_
    refine g_iconst (v := 0) dX6_pairs_14 (by decide) ?_
    refine g_istore dX6_pairs_15 (by decide) ?_
    refine g_pick (lv' := [(0, .ref (uk_ad G 0)), (1, .int w), (2, .int 0), (3, .int (-4)), (4, .int 0)]) [0, 1, 2, 3, 4] rfl ?_
    have L17_5 : ∀ i9 : Int32, 0 ≤ i9 → i9 ≤ 8 → ∀ (w7 : Int32) (w8 : Int32) (u10 : uk_Mem), iv u10 → fr 41 59 u u10 → u10.1 50 = u.1 50 → u10.1 51 = u.1 51 → u10.1 53 = u.1 53 → u10.1 54 = u.1 54 → u10.1 55 = u.1 55 → u10.1 56 = u.1 56 → uk_G G X mX6_pairs (d + 4) (q_X6_pairs_k u w) 17 [(0, .ref (uk_ad G 0)), (1, .int w), (2, .int w7), (3, .int w8), (4, .int i9)] [] u10 := by
      refine uk_upl 8 ?_
      intro i9 ai9 bi9 ihi9 w7 w8 u10 hu10 fu10 ji90 ji91 ji92 ji93 ji94 ji95
      have C50_u10 : u10.1 50 = u10.1 50 := rfl
      have C51_u10 : u10.1 51 = u10.1 51 := rfl
      have C53_u10 : u10.1 53 = u10.1 53 := rfl
      have C54_u10 : u10.1 54 = u10.1 54 := rfl
      have C55_u10 : u10.1 55 = u10.1 55 := rfl
      have C56_u10 : u10.1 56 = u10.1 56 := rfl
      refine g_iload dX6_pairs_17 rfl ?_
      refine g_aload_n dX6_pairs_19 rfl ?_
      refine f_X6_10 rfl rfl dX6_pairs_20 ?_
      refine f_X6_105 rfl rfl dX6_pairs_23 ?_
      refine g_topi (fun x11 ex11 => ?_)
      have rx11 : 0 ≤ x11 ∧ x11 ≤ 8 := by rw [ex11]; exact iv_at hu10 _ _ rfl
      have s12 : u10.1 13 0 = x11 := ex11.symm
      refine g_icmp_ge (tgt := 88) dX6_pairs_26 (by decide) (fun c13 => ?_) (fun c13 => ?_)
      · refine g_iload_n dX6_pairs_88 rfl ?_
        refine g_if_ne (tgt := 96) dX6_pairs_89 (by decide) (fun c14 => ?_) (fun c14 => ?_)
        · refine g_iload_n dX6_pairs_96 rfl ?_
          exact g_iret (ty := .int) dX6_pairs_97 rfl rfl ⟨⟨_, rfl, by first | trivial | lia | grind⟩, hu10, fu10, (C50_u10.trans ji90), (C51_u10.trans ji91), (C53_u10.trans ji92), (C54_u10.trans ji93), (C55_u10.trans ji94), (C56_u10.trans ji95)⟩
        · refine g_iload_n dX6_pairs_92 rfl ?_
          refine g_goto (tgt := 97) dX6_pairs_93 (by decide) ?_
          exact g_iret (ty := .int) dX6_pairs_97 rfl rfl ⟨⟨_, rfl, by first | trivial | lia | grind⟩, hu10, fu10, (C50_u10.trans ji90), (C51_u10.trans ji91), (C53_u10.trans ji92), (C54_u10.trans ji93), (C55_u10.trans ji94), (C56_u10.trans ji95)⟩
      · refine g_iload dX6_pairs_29 rfl ?_
        refine g_istore dX6_pairs_31 (by decide) ?_
        refine g_pick (lv' := [(0, .ref (uk_ad G 0)), (1, .int w), (2, .int w7), (3, .int w8), (4, .int i9), (5, .int i9)]) [0, 1, 2, 3, 4, 5] rfl ?_
        have L33_14 : ∀ i18 : Int32, 0 ≤ i18 → i18 ≤ 8 → ∀ (w16 : Int32) (w17 : Int32) (u19 : uk_Mem), iv u19 → fr 41 59 u u19 → u19.1 50 = u.1 50 → u19.1 51 = u.1 51 → u19.1 53 = u.1 53 → u19.1 54 = u.1 54 → u19.1 55 = u.1 55 → u19.1 56 = u.1 56 → uk_G G X mX6_pairs (d + 4) (q_X6_pairs_k u w) 33 [(0, .ref (uk_ad G 0)), (1, .int w), (2, .int w16), (3, .int w17), (4, .int i9), (5, .int i18)] [] u19 := by
          refine uk_upl 8 ?_
          intro i18 ai18 bi18 ihi18 w16 w17 u19 hu19 fu19 ji180 ji181 ji182 ji183 ji184 ji185
          have C50_u19 : u19.1 50 = u19.1 50 := rfl
          have C51_u19 : u19.1 51 = u19.1 51 := rfl
          have C53_u19 : u19.1 53 = u19.1 53 := rfl
          have C54_u19 : u19.1 54 = u19.1 54 := rfl
          have C55_u19 : u19.1 55 = u19.1 55 := rfl
          have C56_u19 : u19.1 56 = u19.1 56 := rfl
          refine g_iload dX6_pairs_33 rfl ?_
          refine g_aload_n dX6_pairs_35 rfl ?_
          refine f_X6_10 rfl rfl dX6_pairs_36 ?_
          refine f_X6_105 rfl rfl dX6_pairs_39 ?_
          refine g_topi (fun x20 ex20 => ?_)
          have rx20 : 0 ≤ x20 ∧ x20 ≤ 8 := by rw [ex20]; exact iv_at hu19 _ _ rfl
          have s21 : u19.1 13 0 = x20 := ex20.symm
          refine g_icmp_ge (tgt := 82) dX6_pairs_42 (by decide) (fun c22 => ?_) (fun c22 => ?_)
          · refine g_iinc (v := i9 + 1) dX6_pairs_82 rfl rfl (by decide) ?_
            refine g_pick (lv' := [(0, .ref (uk_ad G 0)), (1, .int w), (2, .int w16), (3, .int w17), (4, .int (i9 + 1)), (5, .int i18)]) [0, 1, 2, 3, 4, 5] rfl ?_
            refine g_goto (tgt := 17) dX6_pairs_85 (by decide) ?_
            refine g_pick (lv' := [(0, .ref (uk_ad G 0)), (1, .int w), (2, .int w16), (3, .int w17), (4, .int (i9 + 1))]) [0, 1, 2, 3, 4] rfl ?_
            exact ihi9 (by first | lia | grind) w16 w17 u19 hu19 fu19 (C50_u19.trans ji180) (C51_u19.trans ji181) (C53_u19.trans ji182) (C54_u19.trans ji183) (C55_u19.trans ji184) (C56_u19.trans ji185)
          · refine g_aload_n dX6_pairs_45 rfl ?_
            refine g_iload dX6_pairs_46 rfl ?_
            refine g_iload dX6_pairs_48 rfl ?_
            refine cl_X6_233 (c := 0) (As := [.int i9, .int i18]) rfl (c_X6_fitTogether_k (G := G) hs hu19  i9 i18 (by first | trivial | decide | lia | grind) (by first | trivial | decide | lia | grind) (by first | trivial | decide | lia | grind) (by first | trivial | decide | lia | grind) (d)) rfl (by omega) rfl rfl (Nat.le_of_ble_eq_true rfl) dX6_pairs_50 (fun r23 u24 q25 => ?_)
            obtain ⟨⟨x26, rfl, tx26, nx26, zx26⟩, mq25⟩ := q25
            obtain ⟨hu24, gu24, ku240, ku241, ku242, ku243, ku244, ku245⟩ := mq25
            have fu24 : fr 41 59 u u24 := fr_tr fu19 gu24 (by omega) (by omega)
            have C27 : u24.1 50 = u19.1 50 := ku240.trans C50_u19
            have C28 : u24.1 51 = u19.1 51 := ku241.trans C51_u19
            have C29 : u24.1 53 = u19.1 53 := ku242.trans C53_u19
            have C30 : u24.1 54 = u19.1 54 := ku243.trans C54_u19
            have C31 : u24.1 55 = u19.1 55 := ku244.trans C55_u19
            have C32 : u24.1 56 = u19.1 56 := ku245.trans C56_u19
            have s33 : u24.1 13 0 = x20 := (fr_at gu24 (by omega)).trans s21
            refine g_if_eq (tgt := 76) dX6_pairs_53 (by decide) (fun c34 => ?_) (fun c34 => ?_)
            · have zc34 := zx26 c34
              refine g_iinc (v := i18 + 1) dX6_pairs_76 rfl rfl (by decide) ?_
              refine g_pick (lv' := [(0, .ref (uk_ad G 0)), (1, .int w), (2, .int w16), (3, .int w17), (4, .int i9), (5, .int (i18 + 1))]) [0, 1, 2, 3, 4, 5] rfl ?_
              refine g_goto (tgt := 33) dX6_pairs_79 (by decide) ?_
              refine g_pick (lv' := [(0, .ref (uk_ad G 0)), (1, .int w), (2, .int w16), (3, .int w17), (4, .int i9), (5, .int (i18 + 1))]) [0, 1, 2, 3, 4, 5] rfl ?_
              exact ihi18 (by first | lia | grind) w16 w17 u24 hu24 fu24 (C27.trans ji180) (C28.trans ji181) (C29.trans ji182) (C30.trans ji183) (C31.trans ji184) (C32.trans ji185)
            · have zc34 := nx26 c34
              refine g_iload_n dX6_pairs_56 rfl ?_
              refine g_if_ne (tgt := 71) dX6_pairs_57 (by decide) (fun c35 => ?_) (fun c35 => ?_)
              · refine g_iload_n dX6_pairs_71 rfl ?_
                refine g_istore_n dX6_pairs_72 (by decide) ?_
                refine g_pick (lv' := [(0, .ref (uk_ad G 0)), (1, .int w), (2, .int w16), (3, .int w17), (4, .int i9), (5, .int i18)]) [0, 1, 2, 3, 4, 5] rfl ?_
                refine g_iinc (v := w16 + 1) dX6_pairs_73 rfl rfl (by decide) ?_
                refine g_pick (lv' := [(0, .ref (uk_ad G 0)), (1, .int w), (2, .int (w16 + 1)), (3, .int w17), (4, .int i9), (5, .int i18)]) [0, 1, 2, 3, 4, 5] rfl ?_
                refine g_iinc (v := i18 + 1) dX6_pairs_76 rfl rfl (by decide) ?_
                refine g_pick (lv' := [(0, .ref (uk_ad G 0)), (1, .int w), (2, .int (w16 + 1)), (3, .int w17), (4, .int i9), (5, .int (i18 + 1))]) [0, 1, 2, 3, 4, 5] rfl ?_
                refine g_goto (tgt := 33) dX6_pairs_79 (by decide) ?_
                refine g_pick (lv' := [(0, .ref (uk_ad G 0)), (1, .int w), (2, .int (w16 + 1)), (3, .int w17), (4, .int i9), (5, .int (i18 + 1))]) [0, 1, 2, 3, 4, 5] rfl ?_
                exact ihi18 (by first | lia | grind) (w16 + 1) w17 u24 hu24 fu24 (C27.trans ji180) (C28.trans ji181) (C29.trans ji182) (C30.trans ji183) (C31.trans ji184) (C32.trans ji185)
              · refine g_bipush (v := 10) dX6_pairs_60 (by decide) ?_
                refine g_iload dX6_pairs_62 rfl ?_
                refine g_imul dX6_pairs_64 ?_
                refine g_topi (fun x36 ex36 => ?_)
                refine g_iload dX6_pairs_65 rfl ?_
                refine g_iadd dX6_pairs_67 ?_
                refine g_topi (fun x37 ex37 => ?_)
                refine g_goto (tgt := 72) dX6_pairs_68 (by decide) ?_
                refine g_istore_n dX6_pairs_72 (by decide) ?_
                refine g_pick (lv' := [(0, .ref (uk_ad G 0)), (1, .int w), (2, .int w16), (3, .int x37), (4, .int i9), (5, .int i18)]) [0, 1, 2, 3, 4, 5] rfl ?_
                refine g_iinc (v := w16 + 1) dX6_pairs_73 rfl rfl (by decide) ?_
                refine g_pick (lv' := [(0, .ref (uk_ad G 0)), (1, .int w), (2, .int (w16 + 1)), (3, .int x37), (4, .int i9), (5, .int i18)]) [0, 1, 2, 3, 4, 5] rfl ?_
                refine g_iinc (v := i18 + 1) dX6_pairs_76 rfl rfl (by decide) ?_
                refine g_pick (lv' := [(0, .ref (uk_ad G 0)), (1, .int w), (2, .int (w16 + 1)), (3, .int x37), (4, .int i9), (5, .int (i18 + 1))]) [0, 1, 2, 3, 4, 5] rfl ?_
                refine g_goto (tgt := 33) dX6_pairs_79 (by decide) ?_
                refine g_pick (lv' := [(0, .ref (uk_ad G 0)), (1, .int w), (2, .int (w16 + 1)), (3, .int x37), (4, .int i9), (5, .int (i18 + 1))]) [0, 1, 2, 3, 4, 5] rfl ?_
                exact ihi18 (by first | lia | grind) (w16 + 1) x37 u24 hu24 fu24 (C27.trans ji180) (C28.trans ji181) (C29.trans ji182) (C30.trans ji183) (C31.trans ji184) (C32.trans ji185)
        refine g_pick (lv' := [(0, .ref (uk_ad G 0)), (1, .int w), (2, .int w7), (3, .int w8), (4, .int i9), (5, .int i9)]) [0, 1, 2, 3, 4, 5] rfl ?_
        exact L33_14 i9 (by first | decide | lia | grind) (by first | decide | lia | grind) w7 w8 u10 hu10 fu10 (C50_u10.trans ji90) (C51_u10.trans ji91) (C53_u10.trans ji92) (C54_u10.trans ji93) (C55_u10.trans ji94) (C56_u10.trans ji95)
    refine g_pick (lv' := [(0, .ref (uk_ad G 0)), (1, .int w), (2, .int 0), (3, .int (-4)), (4, .int 0)]) [0, 1, 2, 3, 4] rfl ?_
    exact L17_5 0 (by first | decide | lia | grind) (by first | decide | lia | grind) 0 (-4) u hu f0 C50 C51 C53 C54 C55 C56
  · have zc5 := zx4 c5
    refine g_iconst (v := (-1)) dX6_pairs_7 (by decide) ?_
    exact g_iret (ty := .int) dX6_pairs_8 rfl rfl ⟨⟨_, rfl, by first | trivial | lia | grind⟩, hu, f0, C50, C51, C53, C54, C55, C56⟩
/-! the law: what each call leaves of REL -/
def relA : List Nat := 0 :: 2 :: relC
theorem REL_fr {u u' : uk_Mem} {a b : Nat} (h : REL u) (f : fr a b u u') (ha : ∀ c, c ∈ (60 :: relA) → c < a ∨ b ≤ c) : REL u' := by
  have e : ∀ c, c ∈ (60 :: relA) → u'.1 c = u.1 c := fun c hc => f.1 c (ha c hc)
  have e0 := e 0 (by decide)
  have e2 := e 2 (by decide)
  have e60 := e 60 (by decide)
  exact REL_cg h (fun c hc => e c (List.mem_cons_of_mem _ (List.mem_cons_of_mem _ (List.mem_cons_of_mem _ hc)))) (by rw [e0]) (by rw [e0]) (by rw [e2]) (by rw [e60]) (by rw [e60]) (by rw [e60]) (by rw [e60])
theorem REL_fk {u u' : uk_Mem} {l ks : List Nat} (h : REL u) (f : fk l ks u u') (hl : ∀ c, c ∈ relA → c ∉ l) (hk : ∀ j, j ∈ [3, 13, 18, 28] → 60 ∉ l ∨ (60 = 60 ∧ j ∈ ks)) : REL u' := by
  have e : ∀ c, c ∈ relA → u'.1 c = u.1 c := fun c hc => fk_c f (hl c hc)
  have e0 := e 0 (by decide)
  have e2 := e 2 (by decide)
  exact REL_cg h (fun c hc => e c (List.mem_cons_of_mem _ (List.mem_cons_of_mem _ hc))) (by rw [e0]) (by rw [e0]) (by rw [e2]) (fk_at f (hk 3 (by decide))) (fk_at f (hk 13 (by decide))) (fk_at f (hk 18 (by decide))) (fk_at f (hk 28 (by decide)))
theorem REL_lo {u u' : uk_Mem} {b : Nat} (h : REL u) (f : fr 41 b u u') (hb : b ≤ 59) (e0 : u'.1 50 = u.1 50) (e1 : u'.1 51 = u.1 51) (e3 : u'.1 53 = u.1 53) (e4 : u'.1 54 = u.1 54) (e5 : u'.1 55 = u.1 55) (e6 : u'.1 56 = u.1 56) : REL u' := by
  have e : ∀ c, c < 41 ∨ 59 ≤ c → u'.1 c = u.1 c := fun c hc => f.1 c (by omega)
  refine REL_cg h (fun c hc => ?_) (by rw [e 0 (by omega)]) (by rw [e 0 (by omega)]) (by rw [e 2 (by omega)]) (by rw [e 60 (by omega)]) (by rw [e 60 (by omega)]) (by rw [e 60 (by omega)]) (by rw [e 60 (by omega)])
  rcases (show ∀ c, c ∈ relC → (c < 41 ∨ 59 ≤ c) ∨ c = 50 ∨ c = 51 ∨ c = 53 ∨ c = 54 ∨ c = 55 ∨ c = 56 by decide) c hc with q | rfl | rfl | rfl | rfl | rfl | rfl
  · exact e c q
  · exact e0
  · exact e1
  · exact e3
  · exact e4
  · exact e5
  · exact e6
theorem REL_kp {u u' : uk_Mem} (h : REL u) (f : fr 13 49 u u') (k : KP u u') : REL u' := by
  have e : ∀ c, c < 13 ∨ 49 ≤ c → u'.1 c = u.1 c := fun c hc => f.1 c hc
  refine REL_cg h (fun c hc => ?_) (by rw [e 0 (by omega)]) (by rw [e 0 (by omega)]) (by rw [e 2 (by omega)]) (by rw [e 60 (by omega)]) (by rw [e 60 (by omega)]) (by rw [e 60 (by omega)]) (by rw [e 60 (by omega)])
  rcases (show ∀ c, c ∈ relC → (c < 13 ∨ 49 ≤ c) ∨ (13 ≤ c ∧ c ≤ 45) by decide) c hc with q | q
  · exact e c q
  · exact k c q.1 q.2
theorem KR_u1 {u u1 : uk_Mem} {a b : Nat} (h : REL u) (f : fr a b u u1) (hb : b ≤ 60) : KR u u1 13 61 0 := KR_cg h.1 (fun _ _ _ => rfl) (by rw [f.1 60 (by omega)]) (f.1 61 (by omega)) (f.1 64 (by omega)) (f.1 65 (by omega))
theorem REL_kit {u u1 u2 : uk_Mem} {l : List Nat} (h : REL u) (hu : iv u) (f1 : fr 13 22 u u1) (f2 : fk l [] u1 u2) (hl : ∀ c, c ∈ l → c = 61 ∨ c = 62) (o : ∀ j, 51 ≤ j → u2.1 61 j = u1.1 61 j) (K : KR u1 u2 13 61 0) : REL u2 := by
  have hn : 0 ≤ u.1 60 3 ∧ u.1 60 3 ≤ 8 := iv_at hu 60 3 rfl
  obtain ⟨-, ⟨i0, i1⟩, K1, K2, -, -⟩ := id h
  have e2 : ∀ c, ¬ c = 61 → ¬ c = 62 → u2.1 c = u1.1 c := fun c h1 h2 => fk_c f2 (fun q => (hl c q).elim h1 h2)
  have e : ∀ c, (c < 13 ∨ 22 ≤ c) → ¬ c = 61 → ¬ c = 62 → u2.1 c = u.1 c := fun c h0 h1 h2 => (e2 c h1 h2).trans (f1.1 c h0)
  have o60 : u2.1 60 = u.1 60 := e 60 (by omega) (by omega) (by omega)
  have o61 : ∀ j, 51 ≤ j → u2.1 61 j = u.1 61 j := fun j hj => (o j hj).trans (by rw [f1.1 61 (by omega)])
  have o64 := e 64 (by omega) (by omega) (by omega)
  have o65 := e 65 (by omega) (by omega) (by omega)
  refine REL_mk h (fun c hc => ?_) (by rw [e 0 (by omega) (by omega) (by omega)]) (by rw [e 0 (by omega) (by omega) (by omega)]) (by rw [e 2 (by omega) (by omega) (by omega)]) (by rw [o60]) (by rw [o60]) (by rw [o60]) (KR_cg K (fun d d1 d2 => e2 d (by omega) (by omega)) rfl rfl rfl rfl) ⟨by rw [e 40 (by omega) (by omega) (by omega), e 63 (by omega) (by omega) (by omega)]; exact i0, by rw [e 40 (by omega) (by omega) (by omega), e 63 (by omega) (by omega) (by omega)]; exact i1⟩ (fun q => ?_) (fun q => ?_)
  · have := (show ∀ c, c ∈ relS → (c < 13 ∨ 22 ≤ c) ∧ ¬ c = 61 ∧ ¬ c = 62 by decide) c hc
    exact e c this.1 this.2.1 this.2.2
  · rw [e 63 (by omega) (by omega) (by omega)] at q
    exact KR_cp (K1 q) hn.2 (iv_42 hu (by omega)).2 (fun d d1 d2 => e d (by omega) (by omega) (by omega)) (by rw [o60]) (fun j hj => o61 _ (by omega)) o64 o65
  · rw [e 63 (by omega) (by omega) (by omega)] at q
    exact KR_cp (K2 q) hn.2 (iv_42 hu (by omega)).2 (fun d d1 d2 => e d (by omega) (by omega) (by omega)) (by rw [o60]) (fun j hj => o61 _ (by omega)) o64 o65
/-- the tapes alone -/
theorem REL_tp {u u' : uk_Mem} (h : REL u) (hc : ∀ c, ¬ c = 2 → ¬ c = 3 → ¬ c = 60 → ¬ c = 69 → u'.1 c = u.1 c) (h4 : u'.1 60 3 = u.1 60 3) (h6 : u'.1 60 18 = u.1 60 18) (h7 : u'.1 60 28 = u.1 60 28) (t1 : u'.1 2 1 = u'.1 60 13) (t2 : cpy (u'.1 3) (u'.1 69) (u'.1 2 1)) : REL u' := by
  obtain ⟨k, ⟨i0, i1⟩, im0, im1, ⟨-, -, t3, t4⟩, sh⟩ := h
  have e : ∀ c, ¬ c = 2 → ¬ c = 3 → ¬ c = 60 → ¬ c = 69 → u'.1 c = u.1 c := hc
  refine ⟨KR_cg k (fun d a b => e d (by omega) (by omega) (by omega) (by omega)) h4 (e 61 (by omega) (by omega) (by omega) (by omega)) (e 64 (by omega) (by omega) (by omega) (by omega)) (e 65 (by omega) (by omega) (by omega) (by omega)), ⟨by rw [e 40 (by omega) (by omega) (by omega) (by omega), e 63 (by omega) (by omega) (by omega) (by omega)]; exact i0, by rw [e 40 (by omega) (by omega) (by omega) (by omega), e 63 (by omega) (by omega) (by omega) (by omega)]; exact i1⟩, fun q => ?_, fun q => ?_, ⟨t1, t2, by rw [e 0 (by omega) (by omega) (by omega) (by omega), h6]; exact t3, by rw [e 0 (by omega) (by omega) (by omega) (by omega), h7]; exact t4⟩, fun j hj => ?_⟩
  · rw [e 63 (by omega) (by omega) (by omega) (by omega)] at q
    exact KR_cg (im0 q) (fun d a b => e d (by omega) (by omega) (by omega) (by omega)) h4 (e 61 (by omega) (by omega) (by omega) (by omega)) (e 64 (by omega) (by omega) (by omega) (by omega)) (e 65 (by omega) (by omega) (by omega) (by omega))
  · rw [e 63 (by omega) (by omega) (by omega) (by omega)] at q
    exact KR_cg (im1 q) (fun d a b => e d (by omega) (by omega) (by omega) (by omega)) h4 (e 61 (by omega) (by omega) (by omega) (by omega)) (e 64 (by omega) (by omega) (by omega) (by omega)) (e 65 (by omega) (by omega) (by omega) (by omega))
  · rw [e 50 (by omega) (by omega) (by omega) (by omega), e 51 (by omega) (by omega) (by omega) (by omega), e 74 (by omega) (by omega) (by omega) (by omega), e 75 (by omega) (by omega) (by omega) (by omega), e 76 (by omega) (by omega) (by omega) (by omega), e (53 + j) (by omega) (by omega) (by omega) (by omega)]
    exact sh j hj
/-- the text -/
theorem REL_tx {u u1 u2 : uk_Mem} {f : Nat → Int32} {n : Int32} (h : REL u) (hu : iv u) (hv2 : iv u2) (F1 : fr 0 41 u u1) (F2 : fk [60, 61, 63, 64, 65, 66, 67, 68] [22, 28] u1 u2) (a1 : u1.1 2 1 = 0) (a2 : u1.1 0 13 = (pRes f n).1.1) (a3 : (pRes f n).1.1 = 0 → TXI f n u1 2) (a4 : ¬ (pRes f n).1.1 = 0 → ∀ d, 13 ≤ d → d ≤ 40 → u1.1 d = u.1 d) (a5 : u1.1 0 14 = u.1 0 14) (b1 : u2.1 60 13 = 0) (b2 : u2.1 60 18 = (pRes f n).1.1) (b3 : (pRes f n).1.1 = 0 → RwG (u2.1 60 3) (u2.1 61) (u2.1 64) (u2.1 65) (wIt f n (pRes f n).2.toNatClampNeg) ∧ u2.1 60 3 = (pIt f n (pRes f n).2.toNatClampNeg).2.2.2.1 ∧ u2.1 63 0 = 0 ∧ u2.1 63 1 = 0) (b4 : ¬ (pRes f n).1.1 = 0 → u2.1 61 = u1.1 61 ∧ u2.1 63 = u1.1 63 ∧ u2.1 64 = u1.1 64 ∧ u2.1 65 = u1.1 65 ∧ u2.1 60 3 = u1.1 60 3) : REL u2 := by
  obtain ⟨k, ⟨i0, i1⟩, im0, im1, ⟨-, -, t3, t4⟩, sh⟩ := h
  have o1 : ∀ c, 41 ≤ c → u1.1 c = u.1 c := fun c hc => F1.1 c (Or.inr hc)
  have o2 : ∀ c, c < 60 → u2.1 c = u1.1 c := fun c hc => fk_c F2 ((show ∀ c, c < 60 → c ∉ [60, 61, 63, 64, 65, 66, 67, 68] by decide) c hc)
  have o3 : ∀ c, 69 ≤ c → u2.1 c = u.1 c := fun c hc => (fk_c F2 (by simp only [List.mem_cons, List.not_mem_nil, or_false]; omega)).trans (o1 c (by omega))
  have T : u2.1 2 1 = u2.1 60 13 ∧ cpy (u2.1 3) (u2.1 69) (u2.1 2 1) ∧ u2.1 0 13 = u2.1 60 18 ∧ u2.1 0 14 = u2.1 60 28 := by
    refine ⟨by rw [o2 2 (by omega), a1, b1], by rw [o2 2 (by omega), a1]; exact cpy_0, by rw [o2 0 (by omega), a2, b2], ?_⟩
    rw [o2 0 (by omega), a5, F2.2 28 (by decide), o1 60 (by omega)]
    exact t4
  have S : SHR u2 := fun j hj => by
    rw [o2 50 (by omega), o2 51 (by omega), o2 (53 + j) (by omega), o1 50 (by omega), o1 51 (by omega), o1 (53 + j) (by omega), o3 74 (by omega), o3 75 (by omega), o3 76 (by omega)]
    exact sh j hj
  by_cases z : (pRes f n).1.1 = 0
  · obtain ⟨c1, c2, c3⟩ := a3 z
    obtain ⟨d1, d2, d3, d4⟩ := b3 z
    have hn : 0 ≤ u2.1 60 3 ∧ u2.1 60 3 ≤ 8 := iv_at hv2 60 3 rfl
    have n8 := uk_cln 8 8 rfl hn.1 hn.2
    have K : KR u2 u2 13 61 0 := KR_text (KW_cg c1 (fun c h1 h2 => o2 c (by omega))) d1 (by rw [o2 13 (by omega), c2, d2]) n8
    have z2 : (2 : Int32).toNatClampNeg = 2 := rfl
    rw [z2] at c3
    exact ⟨K, ⟨by rw [o2 40 (by omega), c3 0 (by omega), d3], by rw [o2 40 (by omega), c3 1 (by omega), d4]⟩, fun q => absurd d3 q, fun q => absurd d4 q, T, S⟩
  · obtain ⟨d1, d2, d3, d4, d5⟩ := b4 z
    have a4 := a4 z
    have k3 : u2.1 60 3 = u.1 60 3 := d5.trans (by rw [o1 60 (by omega)])
    have k61 : u2.1 61 = u.1 61 := d1.trans (o1 61 (by omega))
    have k64 : u2.1 64 = u.1 64 := d3.trans (o1 64 (by omega))
    have k65 : u2.1 65 = u.1 65 := d4.trans (o1 65 (by omega))
    have k63 : u2.1 63 = u.1 63 := d2.trans (o1 63 (by omega))
    have kk : ∀ d, 13 ≤ d → d ≤ 40 → u2.1 d = u.1 d := fun d h1 h2 => (o2 d (by omega)).trans (a4 d h1 h2)
    refine ⟨KR_cg k (fun d h1 h2 => kk d h1 (by omega)) k3 k61 k64 k65, ⟨by rw [kk 40 (by omega) (by omega), k63]; exact i0, by rw [kk 40 (by omega) (by omega), k63]; exact i1⟩, fun q => ?_, fun q => ?_, T, S⟩
    · rw [k63] at q
      exact KR_cg (im0 q) (fun d h1 h2 => kk d (by omega) (by omega)) k3 k61 k64 k65
    · rw [k63] at q
      exact KR_cg (im1 q) (fun d h1 h2 => kk d (by omega) (by omega)) k3 k61 k64 k65
/-- at first -/
theorem REL_0 {u : uk_Mem} {l ks : List Nat} (F : fk l ks u_0 u) (hl : ∀ c, c ∈ [0, 2, 3, 13, 40, 50, 51, 53, 54, 55, 56, 69, 75, 76] → c ∉ l) (hk : ∀ j, j ∈ [13, 18, 28] → 60 ∉ l ∨ (60 = 60 ∧ j ∈ ks)) (h3 : u.1 60 3 = 0) (h61 : ∀ j, j < 51 → u.1 61 j = 0) (h630 : u.1 63 0 = 0) (h631 : u.1 63 1 = 0) (h74 : ∀ j, j < 4 → u.1 74 j = -4) : REL u := by
  have e : ∀ c, c ∈ [0, 2, 3, 13, 40, 50, 51, 53, 54, 55, 56, 69, 75, 76] → u.1 c = u_0.1 c := fun c hc => fk_c F (hl c hc)
  have z : ∀ c j, ¬ c = 50 → u_0.1 c j = 0 := fun c j hc => by
    unfold u_0
    rw [uk_up_oc hc, uk_up_oc hc, uk_up_oc hc, uk_up_oc hc]
    rfl
  have o : ∀ c j, c ∈ [0, 2, 3, 13, 40, 51, 53, 54, 55, 56, 69, 75, 76] → u.1 c j = 0 := fun c j hc => by
    have := (show ∀ c, c ∈ [0, 2, 3, 13, 40, 51, 53, 54, 55, 56, 69, 75, 76] → c ∈ [0, 2, 3, 13, 40, 50, 51, 53, 54, 55, 56, 69, 75, 76] ∧ ¬ c = 50 by decide) c hc
    rw [e c this.1]
    exact z c j this.2
  have k0 : ∀ j, j ∈ [13, 18, 28] → u.1 60 j = 0 := fun j hj => (fk_at F (hk j hj)).trans (z 60 j (by omega))
  have z0 : (0 : Int32).toNatClampNeg = 0 := rfl
  refine ⟨⟨by rw [o 13 0 (by decide), h3], by rw [o 13 9 (by decide), h61 _ (by omega)], by rw [o 13 10 (by decide), h61 _ (by omega)], by rw [o 13 11 (by decide), h61 _ (by omega)], fun j hj => ?_, fun j hj => ?_⟩, ⟨by rw [o 40 0 (by decide), h630], by rw [o 40 1 (by decide), h631]⟩, fun q => absurd h630 q, fun q => absurd h631 q, ⟨by rw [o 2 1 (by decide), k0 13 (by decide)], by rw [o 2 1 (by decide)]; exact cpy_0, by rw [o 0 13 (by decide), k0 18 (by decide)], by rw [o 0 14 (by decide), k0 28 (by decide)]⟩, fun j hj => ?_⟩
  · rw [h3, z0] at hj
    exact absurd hj (Nat.not_lt_zero _)
  · rw [h61 _ (by omega), z0] at hj
    exact absurd hj (Nat.not_lt_zero _)
  · refine ⟨Or.inl ⟨?_, h74 j hj⟩, by rw [o 51 j (by decide), o 75 j (by decide)], fun i hi => ?_⟩
    · rw [e 50 (by decide)]
      rcases (show j = 0 ∨ j = 1 ∨ j = 2 ∨ j = 3 by omega) with rfl | rfl | rfl | rfl <;> rfl
    · rw [o 76 _ (by decide)]
      rcases (show j = 0 ∨ j = 1 ∨ j = 2 ∨ j = 3 by omega) with rfl | rfl | rfl | rfl <;> exact o _ i (by decide)
def l_X0_startNeed_2 (m : Int32) (w : Int32) : Nat → Int32 → uk_Mem → uk_Mem
  | 0, _, u3 => u3
  | K9 + 1, i2, u3 => if (8 : Int32) ≤ i2 then (u3) else (if i2 = m then (let u11 : uk_Mem := uk_up u3 57 i2.toNatClampNeg w; l_X0_startNeed_2 m w K9 (i2 + 1) u11) else (let u8 : uk_Mem := uk_up u3 57 i2.toNatClampNeg (0 : Int32); l_X0_startNeed_2 m w K9 (i2 + 1) u8))
def e_X0_startNeed (u : uk_Mem) (m : Int32) (w : Int32) : uk_Mem := l_X0_startNeed_2 m w ee_K (0 : Int32) u
abbrev qe_X0_startNeed (u : uk_Mem) (m : Int32) (w : Int32) (r : Option Value) (u' : uk_Mem) : Prop := (q_X0_startNeed u m w r u') ∧ (u' = e_X0_startNeed u m w)
set_option maxHeartbeats 4000000 in
set_option maxRecDepth 20000 in
theorem x_X0_startNeed {G : uk_D} (hs : uk_Sep G) {u : uk_Mem} (hu : iv u) (m : Int32) (w : Int32) (d : Nat) : uk_Meth G d mX0_startNeed [.int m, .int w, .ref (uk_ad G 57)] u (qe_X0_startNeed u m w) := by
  refine uk_Meth.of hs (by decide) (Nat.le_of_ble_eq_true rfl) (fun X => ?_)
  have f0 : fr 57 58 u u := fr_rf
  refine g_iconst (v := 0) dX0_startNeed_0 (by decide) ?_
  refine g_istore_n dX0_startNeed_1 (by decide) ?_
  refine g_pick (lv' := [(0, .int m), (1, .int w), (2, .ref (uk_ad G 57)), (3, .int 0)]) [0, 1, 2, 3] rfl ?_
  have L2_0 : ∀ i2 : Int32, 0 ≤ i2 → i2 ≤ 8 → ∀ (u3 : uk_Mem), iv u3 → fr 57 58 u u3 → (∃ ki2 : Nat, ee_F 8 i2 ki2 ∧ e_X0_startNeed u m w = l_X0_startNeed_2 m w ki2 i2 u3) → uk_G G X mX0_startNeed d (qe_X0_startNeed u m w) 2 [(0, .int m), (1, .int w), (2, .ref (uk_ad G 57)), (3, .int i2)] [] u3 := by
    refine uk_upl 8 ?_
    intro i2 ai2 bi2 ihi2  u3 hu3 fu3 jEi2
    obtain ⟨ki2, fki2, hki2⟩ := jEi2
    obtain ⟨ki2, rfl⟩ := ee_Fp (by first | assumption | lia | grind) fki2
    refine g_iload_n dX0_startNeed_2 rfl ?_
    refine g_bipush (v := 8) dX0_startNeed_3 (by decide) ?_
    refine g_icmp_ge (tgt := 27) dX0_startNeed_5 (by decide) (fun c4 => ?_) (fun c4 => ?_)
    · exact g_vret dX0_startNeed_27 rfl ⟨⟨rfl, hu3, fu3⟩, (by exact hki2.trans ((if_pos c4).trans (rfl)) : e_X0_startNeed u m w = u3).symm⟩
    · refine g_aload_n dX0_startNeed_8 rfl ?_
      refine g_iload_n dX0_startNeed_9 rfl ?_
      refine g_iload_n dX0_startNeed_10 rfl ?_
      refine g_iload_n dX0_startNeed_11 rfl ?_
      refine g_icmp_ne (tgt := 19) dX0_startNeed_12 (by decide) (fun c5 => ?_) (fun c5 => ?_)
      · refine g_iconst (v := 0) dX0_startNeed_19 (by decide) ?_
        have v6 : vp_in i2 8 := uk_vin 8 rfl (by first | decide | lia | grind) (by first | decide | lia | grind)
        have b7 := uk_cl v6
        refine g_iast rfl rfl v6 dX0_startNeed_20 ?_
        refine g_mem (fun u8 eu8 => ?_)
        have hu8 : iv u8 := by rw [eu8]; exact iv_upF hu3 (uk_pick1 _ (by omega))
        have fu8 : fr 57 58 u u8 := by rw [eu8]; exact fr_up fu3 (by omega) (by omega)
        refine g_iinc (v := i2 + 1) dX0_startNeed_21 rfl rfl (by decide) ?_
        refine g_pick (lv' := [(0, .int m), (1, .int w), (2, .ref (uk_ad G 57)), (3, .int (i2 + 1))]) [0, 1, 2, 3] rfl ?_
        refine g_goto (tgt := 2) dX0_startNeed_24 (by decide) ?_
        refine g_pick (lv' := [(0, .int m), (1, .int w), (2, .ref (uk_ad G 57)), (3, .int (i2 + 1))]) [0, 1, 2, 3] rfl ?_
        exact ihi2 (by first | lia | grind)  u8 hu8 fu8  ⟨ki2, ee_Fs fki2 (by first | assumption | lia | grind), by subst eu8; exact hki2.trans ((if_neg c4).trans ((if_neg c5).trans (rfl)))⟩
      · refine g_iload_n dX0_startNeed_15 rfl ?_
        refine g_goto (tgt := 20) dX0_startNeed_16 (by decide) ?_
        have v9 : vp_in i2 8 := uk_vin 8 rfl (by first | decide | lia | grind) (by first | decide | lia | grind)
        have b10 := uk_cl v9
        refine g_iast rfl rfl v9 dX0_startNeed_20 ?_
        refine g_mem (fun u11 eu11 => ?_)
        have hu11 : iv u11 := by rw [eu11]; exact iv_upF hu3 (uk_pick1 _ (by omega))
        have fu11 : fr 57 58 u u11 := by rw [eu11]; exact fr_up fu3 (by omega) (by omega)
        refine g_iinc (v := i2 + 1) dX0_startNeed_21 rfl rfl (by decide) ?_
        refine g_pick (lv' := [(0, .int m), (1, .int w), (2, .ref (uk_ad G 57)), (3, .int (i2 + 1))]) [0, 1, 2, 3] rfl ?_
        refine g_goto (tgt := 2) dX0_startNeed_24 (by decide) ?_
        refine g_pick (lv' := [(0, .int m), (1, .int w), (2, .ref (uk_ad G 57)), (3, .int (i2 + 1))]) [0, 1, 2, 3] rfl ?_
        exact ihi2 (by first | lia | grind)  u11 hu11 fu11  ⟨ki2, ee_Fs fki2 (by first | assumption | lia | grind), by subst eu11; exact hki2.trans ((if_neg c4).trans ((if_pos c5).trans (rfl)))⟩
  refine g_pick (lv' := [(0, .int m), (1, .int w), (2, .ref (uk_ad G 57)), (3, .int 0)]) [0, 1, 2, 3] rfl ?_
  exact L2_0 0 (by first | decide | lia | grind) (by first | decide | lia | grind)  u hu f0  ⟨ee_K, ee_F0 _ _, by exact rfl⟩
def l_X0_rawNeed_8 (kb : Nat) : Nat → Int32 → uk_Mem → uk_Mem
  | 0, _, u6 => u6
  | K9 + 1, i5, u6 => if i5 < 0 then (u6) else (let x11 : Int32 := (e_X0_isMade u6 kb i5); if x11 = 0 then (l_X0_rawNeed_8 kb K9 (i5 - 1) u6) else (let x14 : Int32 := u6.1 (kb + 2) i5.toNatClampNeg; let x16 : Int32 := u6.1 57 x14.toNatClampNeg; let x18 : Int32 := u6.1 57 i5.toNatClampNeg; let x19 : Int32 := x16 + x18; let u22 : uk_Mem := uk_up u6 57 x14.toNatClampNeg x19; let x24 : Int32 := u22.1 (kb + 3) i5.toNatClampNeg; let x26 : Int32 := u22.1 57 x24.toNatClampNeg; let x28 : Int32 := u22.1 57 i5.toNatClampNeg; let x29 : Int32 := x26 + x28; let u32 : uk_Mem := uk_up u22 57 x24.toNatClampNeg x29; l_X0_rawNeed_8 kb K9 (i5 - 1) u32))
def e_X0_rawNeed (u : uk_Mem) (kb : Nat) (m : Int32) : uk_Mem := let u2 : uk_Mem := e_X0_startNeed u m (1 : Int32); l_X0_rawNeed_8 kb ee_K m u2
abbrev qe_X0_rawNeed (u : uk_Mem) (kb : Nat) (m : Int32) (r : Option Value) (u' : uk_Mem) : Prop := (q_X0_rawNeed u kb m r u') ∧ (u' = e_X0_rawNeed u kb m)
set_option maxHeartbeats 4000000 in
set_option maxRecDepth 20000 in
theorem x_X0_rawNeed {G : uk_D} (hs : uk_Sep G) {u : uk_Mem} (hu : iv u) {kb : Nat} (hkb : uk_isK kb) (m : Int32) (p0 : 0 ≤ m) (p1 : m ≤ 7) (d : Nat) : uk_Meth G (d + 1) mX0_rawNeed [.ref (uk_ad G kb), .int m, .ref (uk_ad G 57)] u (qe_X0_rawNeed u kb m) := by
  refine uk_Meth.of hs (by decide) (Nat.le_of_ble_eq_true rfl) (fun X => ?_)
  have f0 : fr 57 58 u u := fr_rf
  refine g_iload_n dX0_rawNeed_0 rfl ?_
  refine g_iconst (v := 1) dX0_rawNeed_1 (by decide) ?_
  refine g_aload_n dX0_rawNeed_2 rfl ?_
  refine cl_X0_97 (As := [.int m, .int 1, .ref (uk_ad G 57)]) rfl (x_X0_startNeed (G := G) hs hu  m 1  (d)) rfl (by omega) rfl (Nat.le_of_ble_eq_true rfl) dX0_rawNeed_3 (fun r1 u2 q3 => ?_)
  obtain ⟨q3, Eq3⟩ := q3
  obtain ⟨rfl, mq3⟩ := q3
  obtain ⟨hu2, gu2⟩ := mq3
  have fu2 : fr 57 58 u u2 := fr_tr f0 gu2 (by omega) (by omega)
  have eu2 : u2 = e_X0_startNeed u m (1 : Int32) := Eq3
  refine g_iload_n dX0_rawNeed_6 rfl ?_
  refine g_istore_n dX0_rawNeed_7 (by decide) ?_
  refine g_pick (lv' := [(0, .ref (uk_ad G kb)), (1, .int m), (2, .ref (uk_ad G 57)), (3, .int m)]) [0, 1, 2, 3] rfl ?_
  have L8_3 : ∀ i5 : Int32, -1 ≤ i5 → ∀ (u6 : uk_Mem), iv u6 → fr 57 58 u u6 → i5 ≤ 7 → (∃ ki5 : Nat, ee_D i5 ki5 ∧ e_X0_rawNeed u kb m = l_X0_rawNeed_8 kb ki5 i5 u6) → uk_G G X mX0_rawNeed (d + 1) (qe_X0_rawNeed u kb m) 8 [(0, .ref (uk_ad G kb)), (1, .int m), (2, .ref (uk_ad G 57)), (3, .int i5)] [] u6 := by
    refine uk_dnl ?_
    intro i5 ai5 ihi5  u6 hu6 fu6 ji50 jEi5
    obtain ⟨ki5, fki5, hki5⟩ := jEi5
    obtain ⟨ki5, rfl⟩ := ee_Dp (by first | assumption | lia | grind) fki5
    refine g_iload_n dX0_rawNeed_8 rfl ?_
    refine g_if_lt (tgt := 54) dX0_rawNeed_9 (by decide) (fun c7 => ?_) (fun c7 => ?_)
    · exact g_vret dX0_rawNeed_54 rfl ⟨⟨rfl, hu6, fu6⟩, (by exact hki5.trans ((if_pos c7).trans (rfl)) : e_X0_rawNeed u kb m = u6).symm⟩
    · refine g_aload_n dX0_rawNeed_12 rfl ?_
      refine g_iload_n dX0_rawNeed_13 rfl ?_
      refine cl_X0_61 (c := kb) (As := [.int i5]) rfl (x_X0_isMade (G := G) hs hu6 hkb i5 (by first | trivial | decide | lia | grind) (by first | trivial | decide | lia | grind) (d)) rfl (by omega) (kk_0 hkb) rfl (Nat.le_of_ble_eq_true rfl) dX0_rawNeed_14 (fun r8 u9 q10 => ?_)
      obtain ⟨q10, Eq10⟩ := q10
      obtain ⟨⟨x11, rfl, tx11, nx11, zx11⟩, mq10⟩ := q10
      rw [mq10]
      have ex11 : x11 = (e_X0_isMade u6 kb i5) := ee_v Eq10
      refine g_if_eq (tgt := 48) dX0_rawNeed_17 (by decide) (fun c12 => ?_) (fun c12 => ?_)
      · have zc12 := zx11 c12
        refine g_iinc (v := i5 - 1) dX0_rawNeed_48 rfl (uk_m1 _) (by decide) ?_
        refine g_pick (lv' := [(0, .ref (uk_ad G kb)), (1, .int m), (2, .ref (uk_ad G 57)), (3, .int (i5 - 1))]) [0, 1, 2, 3] rfl ?_
        refine g_goto (tgt := 8) dX0_rawNeed_51 (by decide) ?_
        refine g_pick (lv' := [(0, .ref (uk_ad G kb)), (1, .int m), (2, .ref (uk_ad G 57)), (3, .int (i5 - 1))]) [0, 1, 2, 3] rfl ?_
        exact ihi5 (by first | lia | grind)  u6 hu6 fu6 (by first | trivial | lia | grind) ⟨ki5, ee_Ds fki5 (by first | assumption | lia | grind), by subst ex11; exact hki5.trans ((if_neg c7).trans ((if_pos c12).trans (rfl)))⟩
      · have zc12 := nx11 c12
        refine g_aload_n dX0_rawNeed_20 rfl ?_
        refine g_aload_n dX0_rawNeed_21 rfl ?_
        refine f_X0_19 rfl (kk_0 hkb) dX0_rawNeed_22 ?_
        refine g_iload_n dX0_rawNeed_25 rfl ?_
        have v13 : vp_in i5 8 := uk_vin 8 rfl (by first | decide | lia | grind) (by first | decide | lia | grind)
        refine g_iald (kk_2 hkb) (kl_2 hkb) v13 dX0_rawNeed_26 ?_
        refine g_topi (fun x14 ex14 => ?_)
        have bx14 := uk_cl v13
        have rx14 : 0 ≤ x14 ∧ x14 ≤ 7 := by rw [ex14]; exact iv_at hu6 _ _ (ka_2 hkb _ (by omega))
        refine g_dup2 dX0_rawNeed_27 rfl rfl ?_
        have v15 : vp_in x14 8 := uk_vin 8 rfl (by first | decide | lia | grind) (by first | decide | lia | grind)
        refine g_iald rfl rfl v15 dX0_rawNeed_28 ?_
        refine g_topi (fun x16 ex16 => ?_)
        refine g_aload_n dX0_rawNeed_29 rfl ?_
        refine g_iload_n dX0_rawNeed_30 rfl ?_
        have v17 : vp_in i5 8 := uk_vin 8 rfl (by first | decide | lia | grind) (by first | decide | lia | grind)
        refine g_iald rfl rfl v17 dX0_rawNeed_31 ?_
        refine g_topi (fun x18 ex18 => ?_)
        refine g_iadd dX0_rawNeed_32 ?_
        refine g_topi (fun x19 ex19 => ?_)
        have v20 : vp_in x14 8 := uk_vin 8 rfl (by first | decide | lia | grind) (by first | decide | lia | grind)
        have b21 := uk_cl v20
        refine g_iast rfl rfl v20 dX0_rawNeed_33 ?_
        refine g_mem (fun u22 eu22 => ?_)
        have hu22 : iv u22 := by rw [eu22]; exact iv_upF hu6 (uk_pick1 _ (by omega))
        have fu22 : fr 57 58 u u22 := by rw [eu22]; exact fr_up fu6 (by omega) (by omega)
        refine g_aload_n dX0_rawNeed_34 rfl ?_
        refine g_aload_n dX0_rawNeed_35 rfl ?_
        refine f_X0_22 rfl (kk_0 hkb) dX0_rawNeed_36 ?_
        refine g_iload_n dX0_rawNeed_39 rfl ?_
        have v23 : vp_in i5 8 := uk_vin 8 rfl (by first | decide | lia | grind) (by first | decide | lia | grind)
        refine g_iald (kk_3 hkb) (kl_3 hkb) v23 dX0_rawNeed_40 ?_
        refine g_topi (fun x24 ex24 => ?_)
        have bx24 := uk_cl v23
        have rx24 : 0 ≤ x24 ∧ x24 ≤ 7 := by rw [ex24]; exact iv_at hu22 _ _ (ka_3 hkb _ (by omega))
        refine g_dup2 dX0_rawNeed_41 rfl rfl ?_
        have v25 : vp_in x24 8 := uk_vin 8 rfl (by first | decide | lia | grind) (by first | decide | lia | grind)
        refine g_iald rfl rfl v25 dX0_rawNeed_42 ?_
        refine g_topi (fun x26 ex26 => ?_)
        refine g_aload_n dX0_rawNeed_43 rfl ?_
        refine g_iload_n dX0_rawNeed_44 rfl ?_
        have v27 : vp_in i5 8 := uk_vin 8 rfl (by first | decide | lia | grind) (by first | decide | lia | grind)
        refine g_iald rfl rfl v27 dX0_rawNeed_45 ?_
        refine g_topi (fun x28 ex28 => ?_)
        refine g_iadd dX0_rawNeed_46 ?_
        refine g_topi (fun x29 ex29 => ?_)
        have v30 : vp_in x24 8 := uk_vin 8 rfl (by first | decide | lia | grind) (by first | decide | lia | grind)
        have b31 := uk_cl v30
        refine g_iast rfl rfl v30 dX0_rawNeed_47 ?_
        refine g_mem (fun u32 eu32 => ?_)
        have hu32 : iv u32 := by rw [eu32]; exact iv_upF hu22 (uk_pick1 _ (by omega))
        have fu32 : fr 57 58 u u32 := by rw [eu32]; exact fr_up fu22 (by omega) (by omega)
        refine g_iinc (v := i5 - 1) dX0_rawNeed_48 rfl (uk_m1 _) (by decide) ?_
        refine g_pick (lv' := [(0, .ref (uk_ad G kb)), (1, .int m), (2, .ref (uk_ad G 57)), (3, .int (i5 - 1))]) [0, 1, 2, 3] rfl ?_
        refine g_goto (tgt := 8) dX0_rawNeed_51 (by decide) ?_
        refine g_pick (lv' := [(0, .ref (uk_ad G kb)), (1, .int m), (2, .ref (uk_ad G 57)), (3, .int (i5 - 1))]) [0, 1, 2, 3] rfl ?_
        exact ihi5 (by first | lia | grind)  u32 hu32 fu32 (by first | trivial | lia | grind) ⟨ki5, ee_Ds fki5 (by first | assumption | lia | grind), by subst eu32; subst ex29; subst ex28; subst ex26; subst ex24; subst eu22; subst ex19; subst ex18; subst ex16; subst ex14; subst ex11; exact hki5.trans ((if_neg c7).trans ((if_neg c12).trans (rfl)))⟩
  refine g_pick (lv' := [(0, .ref (uk_ad G kb)), (1, .int m), (2, .ref (uk_ad G 57)), (3, .int m)]) [0, 1, 2, 3] rfl ?_
  exact L8_3 m (by first | decide | lia | grind)  u2 hu2 fu2 (by first | trivial | lia | grind) ⟨ee_K, ee_D0 _, by subst eu2; exact rfl⟩
def l_X0_rawCost_11 (m : Int32) (u2 : uk_Mem) (kb : Nat) : Nat → Int32 → Int32 → Int32 × uk_Mem
  | 0, _, _ => (0, u2)
  | K9 + 1, i6, w5 => if m < i6 then ((w5, u2)) else (let x11 : Int32 := (e_X0_isMade u2 kb i6); if x11 = 0 then (let x14 : Int32 := u2.1 57 i6.toNatClampNeg; let x16 : Int32 := u2.1 (kb + 5) i6.toNatClampNeg; let x17 : Int32 := x14 * x16; let x18 : Int32 := w5 + x17; l_X0_rawCost_11 m u2 kb K9 (i6 + 1) x18) else (let x19 : Int32 := w5 + (0 : Int32); l_X0_rawCost_11 m u2 kb K9 (i6 + 1) x19))
def e_X0_rawCost (u : uk_Mem) (kb : Nat) (m : Int32) : Int32 × uk_Mem := let u2 : uk_Mem := e_X0_rawNeed u kb m; l_X0_rawCost_11 m u2 kb ee_K (0 : Int32) (0 : Int32)
abbrev qe_X0_rawCost (u : uk_Mem) (kb : Nat) (m : Int32) (r : Option Value) (u' : uk_Mem) : Prop := (q_X0_rawCost u kb m r u') ∧ (r = some (.int (e_X0_rawCost u kb m).1) ∧ u' = (e_X0_rawCost u kb m).2)
set_option maxHeartbeats 4000000 in
set_option maxRecDepth 20000 in
theorem x_X0_rawCost {G : uk_D} (hs : uk_Sep G) {u : uk_Mem} (hu : iv u) {kb : Nat} (hkb : uk_isK kb) (m : Int32) (p0 : 0 ≤ m) (p1 : m ≤ 7) (d : Nat) : uk_Meth G (d + 2) mX0_rawCost [.ref (uk_ad G kb), .int m, .ref (uk_ad G 57)] u (qe_X0_rawCost u kb m) := by
  refine uk_Meth.of hs (by decide) (Nat.le_of_ble_eq_true rfl) (fun X => ?_)
  have f0 : fr 57 58 u u := fr_rf
  refine g_aload_n dX0_rawCost_0 rfl ?_
  refine g_iload_n dX0_rawCost_1 rfl ?_
  refine g_aload_n dX0_rawCost_2 rfl ?_
  refine cl_X0_101 (c := kb) (As := [.int m, .ref (uk_ad G 57)]) rfl (x_X0_rawNeed (G := G) hs hu hkb m (by first | trivial | decide | lia | grind) (by first | trivial | decide | lia | grind) (d)) rfl (by omega) (kk_0 hkb) rfl (Nat.le_of_ble_eq_true rfl) dX0_rawCost_3 (fun r1 u2 q3 => ?_)
  obtain ⟨q3, Eq3⟩ := q3
  obtain ⟨rfl, mq3⟩ := q3
  obtain ⟨hu2, gu2⟩ := mq3
  have fu2 : fr 57 58 u u2 := fr_tr f0 gu2 (by omega) (by omega)
  have eu2 : u2 = e_X0_rawNeed u kb m := Eq3
  refine g_iconst (v := 0) dX0_rawCost_6 (by decide) ?_
  refine g_istore_n dX0_rawCost_7 (by decide) ?_
  refine g_pick (lv' := [(0, .ref (uk_ad G kb)), (1, .int m), (2, .ref (uk_ad G 57)), (3, .int 0)]) [0, 1, 2, 3] rfl ?_
  refine g_iconst (v := 0) dX0_rawCost_8 (by decide) ?_
  refine g_istore dX0_rawCost_9 (by decide) ?_
  refine g_pick (lv' := [(0, .ref (uk_ad G kb)), (1, .int m), (2, .ref (uk_ad G 57)), (3, .int 0), (4, .int 0)]) [0, 1, 2, 3, 4] rfl ?_
  have L11_3 : ∀ i6 : Int32, 0 ≤ i6 → i6 ≤ 8 → ∀ (w5 : Int32), (∃ ki6 : Nat, ee_F 8 i6 ki6 ∧ e_X0_rawCost u kb m = l_X0_rawCost_11 m u2 kb ki6 i6 w5) → uk_G G X mX0_rawCost (d + 2) (qe_X0_rawCost u kb m) 11 [(0, .ref (uk_ad G kb)), (1, .int m), (2, .ref (uk_ad G 57)), (3, .int w5), (4, .int i6)] [] u2 := by
    refine uk_upl 8 ?_
    intro i6 ai6 bi6 ihi6 w5 jEi6
    obtain ⟨ki6, fki6, hki6⟩ := jEi6
    obtain ⟨ki6, rfl⟩ := ee_Fp (by first | assumption | lia | grind) fki6
    refine g_iload dX0_rawCost_11 rfl ?_
    refine g_iload_n dX0_rawCost_13 rfl ?_
    refine g_icmp_gt (tgt := 51) dX0_rawCost_14 (by decide) (fun c7 => ?_) (fun c7 => ?_)
    · refine g_iload_n dX0_rawCost_51 rfl ?_
      exact g_iret (ty := .int) dX0_rawCost_52 rfl rfl ⟨⟨⟨_, rfl, by first | trivial | lia | grind⟩, hu2, fu2⟩, ee_i (by exact hki6.trans ((if_pos c7).trans (rfl)))⟩
    · refine g_iload_n dX0_rawCost_17 rfl ?_
      refine g_aload_n dX0_rawCost_18 rfl ?_
      refine g_iload dX0_rawCost_19 rfl ?_
      refine cl_X0_61 (c := kb) (As := [.int i6]) rfl (x_X0_isMade (G := G) hs hu2 hkb i6 (by first | trivial | decide | lia | grind) (by first | trivial | decide | lia | grind) (d + 1)) rfl (by omega) (kk_0 hkb) rfl (Nat.le_of_ble_eq_true rfl) dX0_rawCost_21 (fun r8 u9 q10 => ?_)
      obtain ⟨q10, Eq10⟩ := q10
      obtain ⟨⟨x11, rfl, tx11, nx11, zx11⟩, mq10⟩ := q10
      rw [mq10]
      have ex11 : x11 = (e_X0_isMade u2 kb i6) := ee_v Eq10
      refine g_if_eq (tgt := 31) dX0_rawCost_24 (by decide) (fun c12 => ?_) (fun c12 => ?_)
      · have zc12 := zx11 c12
        refine g_aload_n dX0_rawCost_31 rfl ?_
        refine g_iload dX0_rawCost_32 rfl ?_
        have v13 : vp_in i6 8 := uk_vin 8 rfl (by first | decide | lia | grind) (by first | decide | lia | grind)
        refine g_iald rfl rfl v13 dX0_rawCost_34 ?_
        refine g_topi (fun x14 ex14 => ?_)
        refine g_aload_n dX0_rawCost_35 rfl ?_
        refine f_X0_28 rfl (kk_0 hkb) dX0_rawCost_36 ?_
        refine g_iload dX0_rawCost_39 rfl ?_
        have v15 : vp_in i6 8 := uk_vin 8 rfl (by first | decide | lia | grind) (by first | decide | lia | grind)
        refine g_iald (kk_5 hkb) (kl_5 hkb) v15 dX0_rawCost_41 ?_
        refine g_topi (fun x16 ex16 => ?_)
        refine g_imul dX0_rawCost_42 ?_
        refine g_topi (fun x17 ex17 => ?_)
        refine g_iadd dX0_rawCost_43 ?_
        refine g_topi (fun x18 ex18 => ?_)
        refine g_istore_n dX0_rawCost_44 (by decide) ?_
        refine g_pick (lv' := [(0, .ref (uk_ad G kb)), (1, .int m), (2, .ref (uk_ad G 57)), (3, .int x18), (4, .int i6)]) [0, 1, 2, 3, 4] rfl ?_
        refine g_iinc (v := i6 + 1) dX0_rawCost_45 rfl rfl (by decide) ?_
        refine g_pick (lv' := [(0, .ref (uk_ad G kb)), (1, .int m), (2, .ref (uk_ad G 57)), (3, .int x18), (4, .int (i6 + 1))]) [0, 1, 2, 3, 4] rfl ?_
        refine g_goto (tgt := 11) dX0_rawCost_48 (by decide) ?_
        refine g_pick (lv' := [(0, .ref (uk_ad G kb)), (1, .int m), (2, .ref (uk_ad G 57)), (3, .int x18), (4, .int (i6 + 1))]) [0, 1, 2, 3, 4] rfl ?_
        exact ihi6 (by first | lia | grind) x18  ⟨ki6, ee_Fs fki6 (by first | assumption | lia | grind), by subst ex18; subst ex17; subst ex16; subst ex14; subst ex11; exact hki6.trans ((if_neg c7).trans ((if_pos c12).trans (rfl)))⟩
      · have zc12 := nx11 c12
        refine g_iconst (v := 0) dX0_rawCost_27 (by decide) ?_
        refine g_goto (tgt := 43) dX0_rawCost_28 (by decide) ?_
        refine g_iadd dX0_rawCost_43 ?_
        refine g_topi (fun x19 ex19 => ?_)
        refine g_istore_n dX0_rawCost_44 (by decide) ?_
        refine g_pick (lv' := [(0, .ref (uk_ad G kb)), (1, .int m), (2, .ref (uk_ad G 57)), (3, .int x19), (4, .int i6)]) [0, 1, 2, 3, 4] rfl ?_
        refine g_iinc (v := i6 + 1) dX0_rawCost_45 rfl rfl (by decide) ?_
        refine g_pick (lv' := [(0, .ref (uk_ad G kb)), (1, .int m), (2, .ref (uk_ad G 57)), (3, .int x19), (4, .int (i6 + 1))]) [0, 1, 2, 3, 4] rfl ?_
        refine g_goto (tgt := 11) dX0_rawCost_48 (by decide) ?_
        refine g_pick (lv' := [(0, .ref (uk_ad G kb)), (1, .int m), (2, .ref (uk_ad G 57)), (3, .int x19), (4, .int (i6 + 1))]) [0, 1, 2, 3, 4] rfl ?_
        exact ihi6 (by first | lia | grind) x19  ⟨ki6, ee_Fs fki6 (by first | assumption | lia | grind), by subst ex19; subst ex11; exact hki6.trans ((if_neg c7).trans ((if_neg c12).trans (rfl)))⟩
  refine g_pick (lv' := [(0, .ref (uk_ad G kb)), (1, .int m), (2, .ref (uk_ad G 57)), (3, .int 0), (4, .int 0)]) [0, 1, 2, 3, 4] rfl ?_
  exact L11_3 0 (by first | decide | lia | grind) (by first | decide | lia | grind) 0  ⟨ee_K, ee_F0 _ _, by subst eu2; exact rfl⟩
def l_X7_findHeld_37 : Nat → Int32 → uk_Mem → uk_Mem
  | 0, _, u9 => u9
  | K9 + 1, i8, u9 => if i8 < 0 then (u9) else (let x14 : Int32 := (e_X7_isRaw u9 i8); if x14 = 0 then (let x17 : Int32 := u9.1 64 i8.toNatClampNeg; let x19 : Int32 := u9.1 70 x17.toNatClampNeg; let x21 : Int32 := u9.1 70 i8.toNatClampNeg; let x22 : Int32 := x19 + x21; let u25 : uk_Mem := uk_up u9 70 x17.toNatClampNeg x22; let x28 : Int32 := u25.1 65 i8.toNatClampNeg; let x30 : Int32 := u25.1 70 x28.toNatClampNeg; let x32 : Int32 := u25.1 70 i8.toNatClampNeg; let x33 : Int32 := x30 + x32; let u36 : uk_Mem := uk_up u25 70 x28.toNatClampNeg x33; l_X7_findHeld_37  K9 (i8 - 1) u36) else (l_X7_findHeld_37  K9 (i8 - 1) u9))
def l_X7_findHeld_2 (m : Int32) : Nat → Int32 → uk_Mem → uk_Mem
  | 0, _, u3 => u3
  | K9 + 1, i2, u3 => let x4 : Int32 := u3.1 60 3; if x4 ≤ i2 then (l_X7_findHeld_37  ee_K m u3) else (if i2 = m then (let x49 : Int32 := (e_X7_flag u3 (1 : Int32)); let u52 : uk_Mem := uk_up u3 70 i2.toNatClampNeg x49; l_X7_findHeld_2 m K9 (i2 + 1) u52) else (let x42 : Int32 := (e_X7_flag u3 (0 : Int32)); let u45 : uk_Mem := uk_up u3 70 i2.toNatClampNeg x42; l_X7_findHeld_2 m K9 (i2 + 1) u45))
def e_X7_findHeld (u : uk_Mem) (m : Int32) : uk_Mem := l_X7_findHeld_2 m ee_K (0 : Int32) u
abbrev qe_X7_findHeld (u : uk_Mem) (m : Int32) (r : Option Value) (u' : uk_Mem) : Prop := (q_X7_findHeld u m r u') ∧ (u' = e_X7_findHeld u m)
set_option maxHeartbeats 4000000 in
set_option maxRecDepth 20000 in
theorem x_X7_findHeld {G : uk_D} (hs : uk_Sep G) {u : uk_Mem} (hu : iv u) (hri : ri u) (m : Int32) (p0 : 0 ≤ m) (p1 : m < u.1 60 3) (p2 : m ≤ 7) (d : Nat) : uk_Meth G (d + 1) mX7_findHeld [.ref (uk_ad G 60), .int m] u (qe_X7_findHeld u m) := by
  refine uk_Meth.of hs (by decide) (Nat.le_of_ble_eq_true rfl) (fun X => ?_)
  have f0 : fk [70] [] u u := fk_rf
  have C61 : u.1 61 = u.1 61 := rfl
  refine g_iconst (v := 0) dX7_findHeld_0 (by decide) ?_
  refine g_istore_n dX7_findHeld_1 (by decide) ?_
  refine g_pick (lv' := [(0, .ref (uk_ad G 60)), (1, .int m), (2, .int 0)]) [0, 1, 2] rfl ?_
  have L2_0 : ∀ i2 : Int32, 0 ≤ i2 → i2 ≤ 8 → ∀ (u3 : uk_Mem), iv u3 → fk [70] [] u u3 → ri u3 → (∃ ki2 : Nat, ee_F 8 i2 ki2 ∧ e_X7_findHeld u m = l_X7_findHeld_2 m ki2 i2 u3) → uk_G G X mX7_findHeld (d + 1) (qe_X7_findHeld u m) 2 [(0, .ref (uk_ad G 60)), (1, .int m), (2, .int i2)] [] u3 := by
    refine uk_upl 8 ?_
    intro i2 ai2 bi2 ihi2  u3 hu3 fu3 riu3 jEi2
    obtain ⟨ki2, fki2, hki2⟩ := jEi2
    obtain ⟨ki2, rfl⟩ := ee_Fp (by first | assumption | lia | grind) fki2
    have wu3_60_3 : u3.1 60 3 = u.1 60 3 := fk_at fu3 (by decide)
    refine g_iload_n dX7_findHeld_2 rfl ?_
    refine g_aload_n dX7_findHeld_3 rfl ?_
    refine f_X7_79 rfl rfl dX7_findHeld_4 ?_
    refine g_topi (fun x4 ex4 => ?_)
    have rx4 : 0 ≤ x4 ∧ x4 ≤ 8 := by rw [ex4]; exact iv_at hu3 _ _ rfl
    have s5 : u3.1 60 3 = x4 := ex4.symm
    refine g_icmp_ge (tgt := 35) dX7_findHeld_7 (by decide) (fun c6 => ?_) (fun c6 => ?_)
    · refine g_iload_n dX7_findHeld_35 rfl ?_
      refine g_istore_n dX7_findHeld_36 (by decide) ?_
      refine g_pick (lv' := [(0, .ref (uk_ad G 60)), (1, .int m), (2, .int m)]) [0, 1, 2] rfl ?_
      have L37_6 : ∀ i8 : Int32, -1 ≤ i8 → ∀ (u9 : uk_Mem), iv u9 → fk [70] [] u u9 → ri u9 → i8 ≤ 7 → i8 < u.1 60 3 → (∃ ki8 : Nat, ee_D i8 ki8 ∧ e_X7_findHeld u m = l_X7_findHeld_37  ki8 i8 u9) → uk_G G X mX7_findHeld (d + 1) (qe_X7_findHeld u m) 37 [(0, .ref (uk_ad G 60)), (1, .int m), (2, .int i8)] [] u9 := by
        refine uk_dnl ?_
        intro i8 ai8 ihi8  u9 hu9 fu9 riu9 ji80 ji81 jEi8
        obtain ⟨ki8, fki8, hki8⟩ := jEi8
        obtain ⟨ki8, rfl⟩ := ee_Dp (by first | assumption | lia | grind) fki8
        have C61_u9 : u9.1 61 = u9.1 61 := rfl
        have wu9_60_3 : u9.1 60 3 = u.1 60 3 := fk_at fu9 (by decide)
        refine g_iload_n dX7_findHeld_37 rfl ?_
        refine g_if_lt (tgt := 95) dX7_findHeld_38 (by decide) (fun c10 => ?_) (fun c10 => ?_)
        · exact g_vret dX7_findHeld_95 rfl ⟨⟨rfl, hu9, fu9, riu9⟩, (by exact hki8.trans ((if_pos c10).trans (rfl)) : e_X7_findHeld u m = u9).symm⟩
        · refine g_aload_n dX7_findHeld_41 rfl ?_
          refine g_iload_n dX7_findHeld_42 rfl ?_
          refine cl_X7_166 (c := 60) (As := [.int i8]) rfl (x_X7_isRaw (G := G) hs hu9  i8 (by first | trivial | decide | lia | grind) (by first | trivial | decide | lia | grind) (d)) rfl (by omega) rfl rfl (Nat.le_of_ble_eq_true rfl) dX7_findHeld_43 (fun r11 u12 q13 => ?_)
          obtain ⟨q13, Eq13⟩ := q13
          obtain ⟨⟨x14, rfl, tx14, nx14, zx14⟩, mq13⟩ := q13
          rw [mq13]
          have ex14 : x14 = (e_X7_isRaw u9 i8) := ee_v Eq13
          refine g_if_ne (tgt := 89) dX7_findHeld_46 (by decide) (fun c15 => ?_) (fun c15 => ?_)
          · have zc15 := nx14 c15
            refine g_iinc (v := i8 - 1) dX7_findHeld_89 rfl (uk_m1 _) (by decide) ?_
            refine g_pick (lv' := [(0, .ref (uk_ad G 60)), (1, .int m), (2, .int (i8 - 1))]) [0, 1, 2] rfl ?_
            refine g_goto (tgt := 37) dX7_findHeld_92 (by decide) ?_
            refine g_pick (lv' := [(0, .ref (uk_ad G 60)), (1, .int m), (2, .int (i8 - 1))]) [0, 1, 2] rfl ?_
            exact ihi8 (by first | lia | grind)  u9 hu9 fu9 riu9 (by first | trivial | lia | grind) (by first | trivial | lia | grind) ⟨ki8, ee_Ds fki8 (by first | assumption | lia | grind), by subst ex14; exact hki8.trans ((if_neg c10).trans ((if_neg c15).trans (rfl)))⟩
          · have zc15 := zx14 c15
            refine g_aload_n dX7_findHeld_49 rfl ?_
            refine f_X7_38 rfl rfl dX7_findHeld_50 ?_
            refine g_aload_n dX7_findHeld_53 rfl ?_
            refine f_X7_20 rfl rfl dX7_findHeld_54 ?_
            refine g_iload_n dX7_findHeld_57 rfl ?_
            have v16 : vp_in i8 8 := uk_vin 8 rfl (by first | decide | lia | grind) (by first | decide | lia | grind)
            refine g_iald rfl rfl v16 dX7_findHeld_58 ?_
            refine g_topi (fun x17 ex17 => ?_)
            have bx17 := uk_cl v16
            have rx17 : (-4) ≤ x17 ∧ x17 ≤ 7 := by rw [ex17]; exact iv_at hu9 _ _ (uk_pick1 _ (by omega))
            have hqx17 := (riu9.1 i8 (by lia) (by rw [fk_at (c := 60) (i := 3) fu9 (by decide)]; first | lia | grind) (by lia)).resolve_left (by grind)
            have hpx17 : 0 ≤ x17 ∧ x17 < i8 := by rw [ex17]; exact ⟨hqx17.1, hqx17.2.1⟩
            refine g_dup2 dX7_findHeld_59 rfl rfl ?_
            have v18 : vp_in x17 8 := uk_vin 8 rfl (by first | decide | lia | grind) (by first | decide | lia | grind)
            refine g_iald rfl rfl v18 dX7_findHeld_60 ?_
            refine g_topi (fun x19 ex19 => ?_)
            refine g_aload_n dX7_findHeld_61 rfl ?_
            refine f_X7_38 rfl rfl dX7_findHeld_62 ?_
            refine g_iload_n dX7_findHeld_65 rfl ?_
            have v20 : vp_in i8 8 := uk_vin 8 rfl (by first | decide | lia | grind) (by first | decide | lia | grind)
            refine g_iald rfl rfl v20 dX7_findHeld_66 ?_
            refine g_topi (fun x21 ex21 => ?_)
            refine g_iadd dX7_findHeld_67 ?_
            refine g_topi (fun x22 ex22 => ?_)
            have v23 : vp_in x17 8 := uk_vin 8 rfl (by first | decide | lia | grind) (by first | decide | lia | grind)
            have b24 := uk_cl v23
            refine g_iast rfl rfl v23 dX7_findHeld_68 ?_
            refine g_mem (fun u25 eu25 => ?_)
            have hu25 : iv u25 := by rw [eu25]; exact iv_upF hu9 (uk_pick1 _ (by omega))
            have fu25 : fk [70] [] u u25 := by rw [eu25]; exact fk_up fu9 (by decide) (fun q => absurd q (by decide))
            have riu25 : ri u25 := by rw [eu25]; exact ri_1 riu9 (by decide) (fun q => absurd q (by decide))
            have C26 : u25.1 61 = u9.1 61 := by rw [eu25]; exact (uk_up_oc (by decide)).trans C61_u9
            refine g_aload_n dX7_findHeld_69 rfl ?_
            refine f_X7_38 rfl rfl dX7_findHeld_70 ?_
            refine g_aload_n dX7_findHeld_73 rfl ?_
            refine f_X7_23 rfl rfl dX7_findHeld_74 ?_
            refine g_iload_n dX7_findHeld_77 rfl ?_
            have v27 : vp_in i8 8 := uk_vin 8 rfl (by first | decide | lia | grind) (by first | decide | lia | grind)
            refine g_iald rfl rfl v27 dX7_findHeld_78 ?_
            refine g_topi (fun x28 ex28 => ?_)
            have bx28 := uk_cl v27
            have rx28 : (-4) ≤ x28 ∧ x28 ≤ 7 := by rw [ex28]; exact iv_at hu25 _ _ (uk_pick1 _ (by omega))
            have kx28 : ¬ u25.1 61 (32 + i8).toNatClampNeg = 4 := by rw [C26]; assumption
            have hqx28 := (riu25.1 i8 (by lia) (by rw [fk_at (c := 60) (i := 3) fu25 (by decide)]; first | lia | grind) (by lia)).resolve_left kx28
            have hpx28 : 0 ≤ x28 ∧ x28 < i8 := by rw [ex28]; exact ⟨hqx28.2.2.1, hqx28.2.2.2⟩
            refine g_dup2 dX7_findHeld_79 rfl rfl ?_
            have v29 : vp_in x28 8 := uk_vin 8 rfl (by first | decide | lia | grind) (by first | decide | lia | grind)
            refine g_iald rfl rfl v29 dX7_findHeld_80 ?_
            refine g_topi (fun x30 ex30 => ?_)
            refine g_aload_n dX7_findHeld_81 rfl ?_
            refine f_X7_38 rfl rfl dX7_findHeld_82 ?_
            refine g_iload_n dX7_findHeld_85 rfl ?_
            have v31 : vp_in i8 8 := uk_vin 8 rfl (by first | decide | lia | grind) (by first | decide | lia | grind)
            refine g_iald rfl rfl v31 dX7_findHeld_86 ?_
            refine g_topi (fun x32 ex32 => ?_)
            refine g_iadd dX7_findHeld_87 ?_
            refine g_topi (fun x33 ex33 => ?_)
            have v34 : vp_in x28 8 := uk_vin 8 rfl (by first | decide | lia | grind) (by first | decide | lia | grind)
            have b35 := uk_cl v34
            refine g_iast rfl rfl v34 dX7_findHeld_88 ?_
            refine g_mem (fun u36 eu36 => ?_)
            have hu36 : iv u36 := by rw [eu36]; exact iv_upF hu25 (uk_pick1 _ (by omega))
            have fu36 : fk [70] [] u u36 := by rw [eu36]; exact fk_up fu25 (by decide) (fun q => absurd q (by decide))
            have riu36 : ri u36 := by rw [eu36]; exact ri_1 riu25 (by decide) (fun q => absurd q (by decide))
            have C37 : u36.1 61 = u9.1 61 := by rw [eu36]; exact (uk_up_oc (by decide)).trans C26
            refine g_iinc (v := i8 - 1) dX7_findHeld_89 rfl (uk_m1 _) (by decide) ?_
            refine g_pick (lv' := [(0, .ref (uk_ad G 60)), (1, .int m), (2, .int (i8 - 1))]) [0, 1, 2] rfl ?_
            refine g_goto (tgt := 37) dX7_findHeld_92 (by decide) ?_
            refine g_pick (lv' := [(0, .ref (uk_ad G 60)), (1, .int m), (2, .int (i8 - 1))]) [0, 1, 2] rfl ?_
            exact ihi8 (by first | lia | grind)  u36 hu36 fu36 riu36 (by first | trivial | lia | grind) (by first | trivial | lia | grind) ⟨ki8, ee_Ds fki8 (by first | assumption | lia | grind), by subst eu36; subst ex33; subst ex32; subst ex30; subst ex28; subst eu25; subst ex22; subst ex21; subst ex19; subst ex17; subst ex14; exact hki8.trans ((if_neg c10).trans ((if_pos c15).trans (rfl)))⟩
      refine g_pick (lv' := [(0, .ref (uk_ad G 60)), (1, .int m), (2, .int m)]) [0, 1, 2] rfl ?_
      exact L37_6 m (by first | decide | lia | grind)  u3 hu3 fu3 riu3 (by first | trivial | lia | grind) (by first | trivial | lia | grind) ⟨ee_K, ee_D0 _, by subst ex4; exact hki2.trans ((if_pos c6).trans (rfl))⟩
    · refine g_aload_n dX7_findHeld_10 rfl ?_
      refine f_X7_38 rfl rfl dX7_findHeld_11 ?_
      refine g_iload_n dX7_findHeld_14 rfl ?_
      refine g_iload_n dX7_findHeld_15 rfl ?_
      refine g_iload_n dX7_findHeld_16 rfl ?_
      refine g_icmp_ne (tgt := 24) dX7_findHeld_17 (by decide) (fun c38 => ?_) (fun c38 => ?_)
      · refine g_iconst (v := 0) dX7_findHeld_24 (by decide) ?_
        refine cl_X7_169 (As := [.int 0]) rfl (x_X7_flag (G := G) hs hu3  0  (d)) rfl (by omega) rfl (Nat.le_of_ble_eq_true rfl) dX7_findHeld_25 (fun r39 u40 q41 => ?_)
        obtain ⟨q41, Eq41⟩ := q41
        obtain ⟨⟨x42, rfl, tx42⟩, mq41⟩ := q41
        rw [mq41]
        have ex42 : x42 = (e_X7_flag u3 (0 : Int32)) := ee_v Eq41
        have v43 : vp_in i2 8 := uk_vin 8 rfl (by first | decide | lia | grind) (by first | decide | lia | grind)
        have b44 := uk_cl v43
        refine g_iast rfl rfl v43 dX7_findHeld_28 ?_
        refine g_mem (fun u45 eu45 => ?_)
        have hu45 : iv u45 := by rw [eu45]; exact iv_upF hu3 (uk_pick1 _ (by omega))
        have fu45 : fk [70] [] u u45 := by rw [eu45]; exact fk_up fu3 (by decide) (fun q => absurd q (by decide))
        have riu45 : ri u45 := by rw [eu45]; exact ri_1 riu3 (by decide) (fun q => absurd q (by decide))
        refine g_iinc (v := i2 + 1) dX7_findHeld_29 rfl rfl (by decide) ?_
        refine g_pick (lv' := [(0, .ref (uk_ad G 60)), (1, .int m), (2, .int (i2 + 1))]) [0, 1, 2] rfl ?_
        refine g_goto (tgt := 2) dX7_findHeld_32 (by decide) ?_
        refine g_pick (lv' := [(0, .ref (uk_ad G 60)), (1, .int m), (2, .int (i2 + 1))]) [0, 1, 2] rfl ?_
        exact ihi2 (by first | lia | grind)  u45 hu45 fu45 riu45  ⟨ki2, ee_Fs fki2 (by first | assumption | lia | grind), by subst eu45; subst ex42; subst ex4; exact hki2.trans ((if_neg c6).trans ((if_neg c38).trans (rfl)))⟩
      · refine g_iconst (v := 1) dX7_findHeld_20 (by decide) ?_
        refine g_goto (tgt := 25) dX7_findHeld_21 (by decide) ?_
        refine cl_X7_169 (As := [.int 1]) rfl (x_X7_flag (G := G) hs hu3  1  (d)) rfl (by omega) rfl (Nat.le_of_ble_eq_true rfl) dX7_findHeld_25 (fun r46 u47 q48 => ?_)
        obtain ⟨q48, Eq48⟩ := q48
        obtain ⟨⟨x49, rfl, tx49⟩, mq48⟩ := q48
        rw [mq48]
        have ex49 : x49 = (e_X7_flag u3 (1 : Int32)) := ee_v Eq48
        have v50 : vp_in i2 8 := uk_vin 8 rfl (by first | decide | lia | grind) (by first | decide | lia | grind)
        have b51 := uk_cl v50
        refine g_iast rfl rfl v50 dX7_findHeld_28 ?_
        refine g_mem (fun u52 eu52 => ?_)
        have hu52 : iv u52 := by rw [eu52]; exact iv_upF hu3 (uk_pick1 _ (by omega))
        have fu52 : fk [70] [] u u52 := by rw [eu52]; exact fk_up fu3 (by decide) (fun q => absurd q (by decide))
        have riu52 : ri u52 := by rw [eu52]; exact ri_1 riu3 (by decide) (fun q => absurd q (by decide))
        refine g_iinc (v := i2 + 1) dX7_findHeld_29 rfl rfl (by decide) ?_
        refine g_pick (lv' := [(0, .ref (uk_ad G 60)), (1, .int m), (2, .int (i2 + 1))]) [0, 1, 2] rfl ?_
        refine g_goto (tgt := 2) dX7_findHeld_32 (by decide) ?_
        refine g_pick (lv' := [(0, .ref (uk_ad G 60)), (1, .int m), (2, .int (i2 + 1))]) [0, 1, 2] rfl ?_
        exact ihi2 (by first | lia | grind)  u52 hu52 fu52 riu52  ⟨ki2, ee_Fs fki2 (by first | assumption | lia | grind), by subst eu52; subst ex49; subst ex4; exact hki2.trans ((if_neg c6).trans ((if_pos c38).trans (rfl)))⟩
  refine g_pick (lv' := [(0, .ref (uk_ad G 60)), (1, .int m), (2, .int 0)]) [0, 1, 2] rfl ?_
  exact L2_0 0 (by first | decide | lia | grind) (by first | decide | lia | grind)  u hu f0 hri  ⟨ee_K, ee_F0 _ _, by exact rfl⟩
def l_X7_cost_19 (u7 : uk_Mem) : Nat → Int32 → Int32 → Int32 × uk_Mem
  | 0, _, _ => (0, u7)
  | K9 + 1, i11, w10 => let x12 : Int32 := u7.1 60 3; if x12 ≤ i11 then ((w10, u7)) else (let x18 : Int32 := (e_X7_isRaw u7 i11); if x18 = 0 then (let x20 : Int32 := w10 + (0 : Int32); l_X7_cost_19 u7 K9 (i11 + 1) x20) else (let x22 : Int32 := u7.1 70 i11.toNatClampNeg; let x23 : Int32 := (24 : Int32) + i11; let x25 : Int32 := u7.1 61 x23.toNatClampNeg; let x26 : Int32 := x22 * x25; let x27 : Int32 := w10 + x26; l_X7_cost_19 u7 K9 (i11 + 1) x27))
def e_X7_cost (u : uk_Mem) (m : Int32) : Int32 × uk_Mem := let x4 : Int32 := (e_X7_isStuff u m); if x4 = 0 then (((-1 : Int32), u)) else (let u7 : uk_Mem := e_X7_findHeld u m; l_X7_cost_19 u7 ee_K (0 : Int32) (0 : Int32))
abbrev qe_X7_cost (u : uk_Mem) (m : Int32) (r : Option Value) (u' : uk_Mem) : Prop := (q_X7_cost u m r u') ∧ (r = some (.int (e_X7_cost u m).1) ∧ u' = (e_X7_cost u m).2)
set_option maxHeartbeats 4000000 in
set_option maxRecDepth 20000 in
theorem x_X7_cost {G : uk_D} (hs : uk_Sep G) {u : uk_Mem} (hu : iv u) (hri : ri u) (m : Int32) (d : Nat) : uk_Meth G (d + 2) mX7_cost [.ref (uk_ad G 60), .int m] u (qe_X7_cost u m) := by
  refine uk_Meth.of hs (by decide) (Nat.le_of_ble_eq_true rfl) (fun X => ?_)
  have f0 : fk [70] [] u u := fk_rf
  refine g_aload_n dX7_cost_0 rfl ?_
  refine g_iload_n dX7_cost_1 rfl ?_
  refine cl_X7_163 (c := 60) (As := [.int m]) rfl (x_X7_isStuff (G := G) hs hu  m  (d)) rfl (by omega) rfl rfl (Nat.le_of_ble_eq_true rfl) dX7_cost_2 (fun r1 u2 q3 => ?_)
  obtain ⟨q3, Eq3⟩ := q3
  obtain ⟨⟨x4, rfl, tx4, nx4, zx4⟩, mq3⟩ := q3
  rw [mq3]
  have ex4 : x4 = (e_X7_isStuff u m) := ee_v Eq3
  refine g_if_ne (tgt := 10) dX7_cost_5 (by decide) (fun c5 => ?_) (fun c5 => ?_)
  · have zc5 := nx4 c5
    refine g_iconst (v := 0) dX7_cost_10 (by decide) ?_
    refine g_istore_n dX7_cost_11 (by decide) ?_
    refine g_pick (lv' := [(0, .ref (uk_ad G 60)), (1, .int m), (2, .int 0)]) [0, 1, 2] rfl ?_
    refine g_aload_n dX7_cost_12 rfl ?_
    refine g_iload_n dX7_cost_13 rfl ?_
    refine cl_X7_204 (c := 60) (As := [.int m]) rfl (x_X7_findHeld (G := G) hs hu hri  m (by first | trivial | decide | lia | grind) (by first | trivial | decide | lia | grind) (by first | trivial | decide | lia | grind) (d)) rfl (by omega) rfl rfl (Nat.le_of_ble_eq_true rfl) dX7_cost_14 (fun r6 u7 q8 => ?_)
    obtain ⟨q8, Eq8⟩ := q8
    obtain ⟨rfl, mq8⟩ := q8
    obtain ⟨hu7, gu7, riu7⟩ := mq8
    have fu7 : fk [70] [] u u7 := fk_tr f0 gu7 (by decide) (by decide)
    have wu7_60_3 : u7.1 60 3 = u.1 60 3 := fk_at gu7 (by decide)
    have eu7 : u7 = e_X7_findHeld u m := Eq8
    refine g_iconst (v := 0) dX7_cost_17 (by decide) ?_
    refine g_istore_n dX7_cost_18 (by decide) ?_
    refine g_pick (lv' := [(0, .ref (uk_ad G 60)), (1, .int m), (2, .int 0), (3, .int 0)]) [0, 1, 2, 3] rfl ?_
    have L19_8 : ∀ i11 : Int32, 0 ≤ i11 → i11 ≤ 8 → ∀ (w10 : Int32), (∃ ki11 : Nat, ee_F 8 i11 ki11 ∧ e_X7_cost u m = l_X7_cost_19 u7 ki11 i11 w10) → uk_G G X mX7_cost (d + 2) (qe_X7_cost u m) 19 [(0, .ref (uk_ad G 60)), (1, .int m), (2, .int w10), (3, .int i11)] [] u7 := by
      refine uk_upl 8 ?_
      intro i11 ai11 bi11 ihi11 w10 jEi11
      obtain ⟨ki11, fki11, hki11⟩ := jEi11
      obtain ⟨ki11, rfl⟩ := ee_Fp (by first | assumption | lia | grind) fki11
      refine g_iload_n dX7_cost_19 rfl ?_
      refine g_aload_n dX7_cost_20 rfl ?_
      refine f_X7_79 rfl rfl dX7_cost_21 ?_
      refine g_topi (fun x12 ex12 => ?_)
      have rx12 : 0 ≤ x12 ∧ x12 ≤ 8 := by rw [ex12]; exact iv_at hu7 _ _ rfl
      have s13 : u7.1 60 3 = x12 := ex12.symm
      refine g_icmp_ge (tgt := 64) dX7_cost_24 (by decide) (fun c14 => ?_) (fun c14 => ?_)
      · refine g_iload_n dX7_cost_64 rfl ?_
        exact g_iret (ty := .int) dX7_cost_65 rfl rfl ⟨⟨⟨_, rfl, by first | trivial | lia | grind⟩, hu7, fu7, riu7⟩, ee_i (by subst ex12; exact hki11.trans ((if_pos c14).trans (rfl)))⟩
      · refine g_iload_n dX7_cost_27 rfl ?_
        refine g_aload_n dX7_cost_28 rfl ?_
        refine g_iload_n dX7_cost_29 rfl ?_
        refine cl_X7_166 (c := 60) (As := [.int i11]) rfl (x_X7_isRaw (G := G) hs hu7  i11 (by first | trivial | decide | lia | grind) (by first | trivial | decide | lia | grind) (d + 1)) rfl (by omega) rfl rfl (Nat.le_of_ble_eq_true rfl) dX7_cost_30 (fun r15 u16 q17 => ?_)
        obtain ⟨q17, Eq17⟩ := q17
        obtain ⟨⟨x18, rfl, tx18, nx18, zx18⟩, mq17⟩ := q17
        rw [mq17]
        have ex18 : x18 = (e_X7_isRaw u7 i11) := ee_v Eq17
        refine g_if_eq (tgt := 55) dX7_cost_33 (by decide) (fun c19 => ?_) (fun c19 => ?_)
        · have zc19 := zx18 c19
          refine g_iconst (v := 0) dX7_cost_55 (by decide) ?_
          refine g_iadd dX7_cost_56 ?_
          refine g_topi (fun x20 ex20 => ?_)
          refine g_istore_n dX7_cost_57 (by decide) ?_
          refine g_pick (lv' := [(0, .ref (uk_ad G 60)), (1, .int m), (2, .int x20), (3, .int i11)]) [0, 1, 2, 3] rfl ?_
          refine g_iinc (v := i11 + 1) dX7_cost_58 rfl rfl (by decide) ?_
          refine g_pick (lv' := [(0, .ref (uk_ad G 60)), (1, .int m), (2, .int x20), (3, .int (i11 + 1))]) [0, 1, 2, 3] rfl ?_
          refine g_goto (tgt := 19) dX7_cost_61 (by decide) ?_
          refine g_pick (lv' := [(0, .ref (uk_ad G 60)), (1, .int m), (2, .int x20), (3, .int (i11 + 1))]) [0, 1, 2, 3] rfl ?_
          exact ihi11 (by first | lia | grind) x20  ⟨ki11, ee_Fs fki11 (by first | assumption | lia | grind), by subst ex20; subst ex18; subst ex12; exact hki11.trans ((if_neg c14).trans ((if_pos c19).trans (rfl)))⟩
        · have zc19 := nx18 c19
          refine g_aload_n dX7_cost_36 rfl ?_
          refine f_X7_38 rfl rfl dX7_cost_37 ?_
          refine g_iload_n dX7_cost_40 rfl ?_
          have v21 : vp_in i11 8 := uk_vin 8 rfl (by first | decide | lia | grind) (by first | decide | lia | grind)
          refine g_iald rfl rfl v21 dX7_cost_41 ?_
          refine g_topi (fun x22 ex22 => ?_)
          refine g_aload_n dX7_cost_42 rfl ?_
          refine f_X7_7 rfl rfl dX7_cost_43 ?_
          refine g_bipush (v := 24) dX7_cost_46 (by decide) ?_
          refine g_iload_n dX7_cost_48 rfl ?_
          refine g_iadd dX7_cost_49 ?_
          refine g_topi (fun x23 ex23 => ?_)
          have v24 : vp_in x23 153 := uk_vin 153 rfl (by first | decide | lia | grind) (by first | decide | lia | grind)
          refine g_iald rfl rfl v24 dX7_cost_50 ?_
          refine g_topi (fun x25 ex25 => ?_)
          have bx25 := uk_cl v24
          refine g_imul dX7_cost_51 ?_
          refine g_topi (fun x26 ex26 => ?_)
          refine g_goto (tgt := 56) dX7_cost_52 (by decide) ?_
          refine g_iadd dX7_cost_56 ?_
          refine g_topi (fun x27 ex27 => ?_)
          refine g_istore_n dX7_cost_57 (by decide) ?_
          refine g_pick (lv' := [(0, .ref (uk_ad G 60)), (1, .int m), (2, .int x27), (3, .int i11)]) [0, 1, 2, 3] rfl ?_
          refine g_iinc (v := i11 + 1) dX7_cost_58 rfl rfl (by decide) ?_
          refine g_pick (lv' := [(0, .ref (uk_ad G 60)), (1, .int m), (2, .int x27), (3, .int (i11 + 1))]) [0, 1, 2, 3] rfl ?_
          refine g_goto (tgt := 19) dX7_cost_61 (by decide) ?_
          refine g_pick (lv' := [(0, .ref (uk_ad G 60)), (1, .int m), (2, .int x27), (3, .int (i11 + 1))]) [0, 1, 2, 3] rfl ?_
          exact ihi11 (by first | lia | grind) x27  ⟨ki11, ee_Fs fki11 (by first | assumption | lia | grind), by subst ex27; subst ex26; subst ex25; subst ex23; subst ex22; subst ex18; subst ex12; exact hki11.trans ((if_neg c14).trans ((if_neg c19).trans (rfl)))⟩
    refine g_pick (lv' := [(0, .ref (uk_ad G 60)), (1, .int m), (2, .int 0), (3, .int 0)]) [0, 1, 2, 3] rfl ?_
    exact L19_8 0 (by first | decide | lia | grind) (by first | decide | lia | grind) 0  ⟨ee_K, ee_F0 _ _, by subst eu7; subst ex4; exact (if_neg c5).trans (rfl)⟩
  · have zc5 := zx4 c5
    refine g_iconst (v := (-1)) dX7_cost_8 (by decide) ?_
    exact g_iret (ty := .int) dX7_cost_9 rfl rfl ⟨⟨⟨_, rfl, by first | trivial | lia | grind⟩, hu, f0, hri⟩, ee_i (by subst ex4; exact (if_pos c5).trans (rfl))⟩
/-! what is in a stuff: need (57) against asked (70) -/
def NJ (u v : uk_Mem) : Prop := ∀ j, j < (v.1 60 3).toNatClampNeg → u.1 57 j = v.1 70 j
theorem startNeed_l {m w : Int32} : ∀ (K : Nat) (i : Int32) (u : uk_Mem), ee_F 8 i K → 0 ≤ i → i ≤ 8 → (∀ c, ¬ c = 57 → (l_X0_startNeed_2 m w K i u).1 c = u.1 c) ∧ ∀ j, (l_X0_startNeed_2 m w K i u).1 57 j = if i.toNatClampNeg ≤ j ∧ j < 8 then (if nI j = m then w else 0) else u.1 57 j := by
  intro K
  induction K with
  | zero =>
    intro i u f h0 h1
    obtain ⟨j, hj⟩ := ee_Fp h1 f
    omega
  | succ K ih =>
    intro i u f h0 h1
    rw [l_X0_startNeed_2]
    by_cases q : (8 : Int32) ≤ i
    · rw [if_pos q]
      have := uk_cge 8 8 rfl q
      refine ⟨fun _ _ => rfl, fun j => ?_⟩
      rw [if_neg (by omega)]
    · rw [if_neg q]
      dsimp only
      have hc := uk_c1 h0 (by lia)
      have hl := uk_cln 7 7 rfl h0 (by lia)
      obtain ⟨t, ht, rfl⟩ := nI_of2 (x := i) (M := 7) (n := 7) rfl (by grind) (by lia)
      have et : (nI t).toNatClampNeg = t := nI_clamp (by omega)
      rw [et] at hc ⊢
      have step : ∀ y : Int32, y = (if nI t = m then w else 0) → (∀ c, ¬ c = 57 → (l_X0_startNeed_2 m w K (nI t + 1) (uk_up u 57 t y)).1 c = u.1 c) ∧ ∀ j, (l_X0_startNeed_2 m w K (nI t + 1) (uk_up u 57 t y)).1 57 j = if t ≤ j ∧ j < 8 then (if nI j = m then w else 0) else u.1 57 j := fun y hy => by
        obtain ⟨a, b⟩ := ih (nI t + 1) (uk_up u 57 t y) (ee_Fs f (by lia)) (by lia) (by lia)
        refine ⟨fun c h => (a c h).trans (uk_up_oc h), fun j => ?_⟩
        rw [b j, hc, uk_up_at]
        by_cases e : j = t
        · rw [if_neg (by omega), if_pos ⟨rfl, e⟩, if_pos (by omega), hy, e]
        · by_cases e2 : t + 1 ≤ j ∧ j < 8
          · rw [if_pos e2, if_pos (show t ≤ j ∧ j < 8 by omega)]
          · rw [if_neg e2, if_neg (fun z => e z.2), if_neg (by omega)]
      by_cases e : nI t = m
      · rw [if_pos e]
        exact step w (by rw [if_pos e])
      · rw [if_neg e]
        exact step 0 (by rw [if_neg e])
theorem asks_l {m : Int32} : ∀ (K : Nat) (i : Int32) (v : uk_Mem), 0 ≤ v.1 60 3 → v.1 60 3 ≤ 8 → ee_F (v.1 60 3) i K → 0 ≤ i → i ≤ v.1 60 3 → ∃ x : uk_Mem, l_X7_findHeld_2 m K i v = l_X7_findHeld_37 ee_K m x ∧ (∀ c, ¬ c = 70 → x.1 c = v.1 c) ∧ ∀ j, x.1 70 j = if i.toNatClampNeg ≤ j ∧ j < (v.1 60 3).toNatClampNeg then (if nI j = m then 1 else 0) else v.1 70 j := by
  intro K
  induction K with
  | zero =>
    intro i v n0 n8 f h0 h1
    obtain ⟨j, hj⟩ := ee_Fp h1 f
    omega
  | succ K ih =>
    intro i v n0 n8 f h0 h1
    rw [l_X7_findHeld_2]
    dsimp only
    by_cases q : v.1 60 3 ≤ i
    · rw [if_pos q]
      have := uk_cmo n0 q
      refine ⟨v, rfl, fun _ _ => rfl, fun j => ?_⟩
      rw [if_neg (by omega)]
    · rw [if_neg q]
      have hc := uk_c1 h0 (by lia)
      have hl := uk_cln 7 7 rfl h0 (by lia)
      have hlt := uk_cll h0 (show i < v.1 60 3 by lia)
      obtain ⟨t, ht, rfl⟩ := nI_of2 (x := i) (M := 7) (n := 7) rfl (by grind) (by lia)
      have et : (nI t).toNatClampNeg = t := nI_clamp (by omega)
      rw [et] at hc hlt ⊢
      have fl0 : e_X7_flag v 0 = 0 := if_pos rfl
      have fl1 : e_X7_flag v 1 = 1 := if_neg (by decide)
      rw [fl0, fl1]
      have step : ∀ y : Int32, y = (if nI t = m then 1 else 0) → ∃ x : uk_Mem, l_X7_findHeld_2 m K (nI t + 1) (uk_up v 70 t y) = l_X7_findHeld_37 ee_K m x ∧ (∀ c, ¬ c = 70 → x.1 c = v.1 c) ∧ ∀ j, x.1 70 j = if t ≤ j ∧ j < (v.1 60 3).toNatClampNeg then (if nI j = m then 1 else 0) else v.1 70 j := fun y hy => by
        have o60 : (uk_up v 70 t y).1 60 = v.1 60 := uk_up_oc (by decide)
        obtain ⟨x, a, b, c⟩ := ih (nI t + 1) (uk_up v 70 t y) (by rw [o60]; exact n0) (by rw [o60]; exact n8) (by rw [o60]; exact ee_Fs f (by lia)) (by lia) (by rw [o60]; lia)
        refine ⟨x, a, fun d h => (b d h).trans (uk_up_oc h), fun j => ?_⟩
        rw [c j, hc, o60, uk_up_at]
        by_cases e : j = t
        · rw [if_neg (by omega), if_pos ⟨rfl, e⟩, if_pos (by omega), hy, e]
        · by_cases e2 : t + 1 ≤ j ∧ j < (v.1 60 3).toNatClampNeg
          · rw [if_pos e2, if_pos (show t ≤ j ∧ j < (v.1 60 3).toNatClampNeg by omega)]
          · rw [if_neg e2, if_neg (fun z => e z.2), if_neg (by omega)]
      by_cases e : nI t = m
      · rw [if_pos e]
        exact step 1 (by rw [if_pos e])
      · rw [if_neg e]
        exact step 0 (by rw [if_neg e])
/-- both go down, from a stuff to its parts -/
theorem held_l : ∀ (K : Nat) (i : Int32) (u v : uk_Mem), ee_D i K → -1 ≤ i → i < v.1 60 3 → 0 ≤ v.1 60 3 → v.1 60 3 ≤ 8 → rk (v.1 60 3) (v.1 61) (v.1 64) (v.1 65) 32 → KR u v 13 61 0 → NJ u v → NJ (l_X0_rawNeed_8 13 K i u) (l_X7_findHeld_37 K i v) ∧ (∀ c, ¬ c = 57 → (l_X0_rawNeed_8 13 K i u).1 c = u.1 c) ∧ (∀ c, ¬ c = 70 → (l_X7_findHeld_37 K i v).1 c = v.1 c) ∧ ∀ j, i.toNatClampNeg ≤ j → (i < 0 ∨ (l_X7_findHeld_37 K i v).1 70 j = v.1 70 j) := by
  intro K
  induction K with
  | zero =>
    intro i u v f h0
    obtain ⟨j, hj⟩ := ee_Dp h0 f
    omega
  | succ K ih =>
    intro i u v f h0 h1 n0 n8 hp hK nj
    rw [l_X0_rawNeed_8, l_X7_findHeld_37]
    by_cases q : i < 0
    · rw [if_pos q, if_pos q]
      exact ⟨nj, fun _ _ => rfl, fun _ _ => rfl, fun j _ => Or.inl q⟩
    · rw [if_neg q, if_neg q]
      dsimp only
      have i0 : 0 ≤ i := by lia
      have i7 : i ≤ 7 := by lia
      have hi := uk_cll i0 h1
      obtain ⟨j1, -, -, -, -, j6⟩ := hK.2.2.2.2.1 i.toNatClampNeg hi
      have f' := ee_Ds f (show i - 1 < i by lia)
      rcases raw_e (u := u) (v := v) i0 i7 j1 with ⟨m1, m2⟩ | ⟨m1, m2⟩
      · rw [m1, m2, if_pos rfl, if_neg one0]
        obtain ⟨a, b, c, d⟩ := ih (i - 1) u v f' (by lia) (by lia) n0 n8 hp hK nj
        refine ⟨a, b, c, fun j hj => Or.inr ?_⟩
        rcases Classical.em (i - 1 < 0) with z | z
        · have : i = 0 := by lia
          have e := d j (by
            have : (i - 1).toInt < 0 := Int32.lt_iff_toInt_lt.mp z
            have e : (i - 1).toNatClampNeg = (i - 1).toInt.toNat := rfl
            omega)
          rcases e with e | e
          · -- nothing more is done below 0
            obtain ⟨K', rfl⟩ := ee_Dp (show -1 ≤ i - 1 by lia) f'
            rw [l_X7_findHeld_37, if_pos z]
          · exact e
        · have l := uk_cmo (show 0 ≤ i - 1 by lia) (show i - 1 ≤ i by lia)
          exact (d j (by omega)).resolve_left z
      · rw [m1, m2, if_neg one0, if_pos rfl]
        have hk : ¬ v.1 61 (i.toNatClampNeg + (0 + 32)) = 4 := fun z => by
          unfold e_X7_isRaw at m2
          dsimp only at m2
          rw [ix_32 i0 i7, if_pos z] at m2
          exact absurd m2 (by decide)
        obtain ⟨pA, pB⟩ := j6 hk
        have hr := hp i i0 h1 i7
        rw [ix_32 i0 i7] at hr
        obtain ⟨a0, a1, b0, b1⟩ := hr.resolve_left hk
        have la := uk_cll a0 a1
        have lb := uk_cll b0 b1
        have e3 : ∀ (n : Nat) (x : Int32), (uk_up u 57 n x).1 (13 + 3) = u.1 (13 + 3) := fun n x => uk_up_oc (by decide)
        have e65 : ∀ (n : Nat) (x : Int32), (uk_up v 70 n x).1 65 = v.1 65 := fun n x => uk_up_oc (by decide)
        rw [e3, e65, pA, pB]
        generalize v.1 64 i.toNatClampNeg = A at *
        generalize v.1 65 i.toNatClampNeg = B at *
        have hA := nj A.toNatClampNeg (by omega)
        have hB := nj B.toNatClampNeg (by omega)
        have hI := nj i.toNatClampNeg hi
        have vA : ∀ (x y : Int32), (∀ d, ¬ d = 70 → (uk_up (uk_up v 70 A.toNatClampNeg x) 70 B.toNatClampNeg y).1 d = v.1 d) := fun x y d h => by rw [uk_up_oc h, uk_up_oc h]
        have uA : ∀ (x y : Int32), (∀ d, ¬ d = 57 → (uk_up (uk_up u 57 A.toNatClampNeg x) 57 B.toNatClampNeg y).1 d = u.1 d) := fun x y d h => by rw [uk_up_oc h, uk_up_oc h]
        obtain ⟨a, b, c, d⟩ := ih (i - 1) (uk_up (uk_up u 57 A.toNatClampNeg (u.1 57 A.toNatClampNeg + u.1 57 i.toNatClampNeg)) 57 B.toNatClampNeg ((uk_up u 57 A.toNatClampNeg (u.1 57 A.toNatClampNeg + u.1 57 i.toNatClampNeg)).1 57 B.toNatClampNeg + (uk_up u 57 A.toNatClampNeg (u.1 57 A.toNatClampNeg + u.1 57 i.toNatClampNeg)).1 57 i.toNatClampNeg)) (uk_up (uk_up v 70 A.toNatClampNeg (v.1 70 A.toNatClampNeg + v.1 70 i.toNatClampNeg)) 70 B.toNatClampNeg ((uk_up v 70 A.toNatClampNeg (v.1 70 A.toNatClampNeg + v.1 70 i.toNatClampNeg)).1 70 B.toNatClampNeg + (uk_up v 70 A.toNatClampNeg (v.1 70 A.toNatClampNeg + v.1 70 i.toNatClampNeg)).1 70 i.toNatClampNeg)) f' (by lia) (by rw [vA _ _ 60 (by decide)]; lia) (by rw [vA _ _ 60 (by decide)]; exact n0) (by rw [vA _ _ 60 (by decide)]; exact n8) (by rw [vA _ _ 60 (by decide), vA _ _ 61 (by decide), vA _ _ 64 (by decide), vA _ _ 65 (by decide)]; exact hp) (KR_cg hK (fun d d1 d2 => uA _ _ d (by omega)) (by rw [vA _ _ 60 (by decide)]) (vA _ _ 61 (by decide)) (vA _ _ 64 (by decide)) (vA _ _ 65 (by decide))) (fun j hj => by
          rw [vA _ _ 60 (by decide)] at hj
          simp only [uk_up_at, true_and]
          rw [hA, hI, hB, nj j hj])
        refine ⟨a, fun e h => (b e h).trans (uA _ _ e h), fun e h => (c e h).trans (vA _ _ e h), fun j hj => Or.inr ?_⟩
        have keep : ∀ x y : Int32, (uk_up (uk_up v 70 A.toNatClampNeg x) 70 B.toNatClampNeg y).1 70 j = v.1 70 j := fun x y => by
          rw [uk_up_at, if_neg (by omega), uk_up_at, if_neg (by omega)]
        rcases Classical.em (i - 1 < 0) with z | z
        · obtain ⟨K', rfl⟩ := ee_Dp (show -1 ≤ i - 1 by lia) f'
          rw [l_X7_findHeld_37, if_pos z]
          exact keep _ _
        · have l := uk_cmo (show 0 ≤ i - 1 by lia) (show i - 1 ≤ i by lia)
          exact ((d j (by omega)).resolve_left z).trans (keep _ _)
/-- what both find of a stuff -/
theorem held_e {u v : uk_Mem} {m : Int32} (hv : iv v) (hri : ri v) (hK : KR u v 13 61 0) (m0 : 0 ≤ m) (hm : m < v.1 60 3) : NJ (e_X0_rawNeed u 13 m) (e_X7_findHeld v m) ∧ (∀ c, ¬ c = 57 → (e_X0_rawNeed u 13 m).1 c = u.1 c) ∧ (∀ c, ¬ c = 70 → (e_X7_findHeld v m).1 c = v.1 c) ∧ ∀ j, m.toNatClampNeg < j → j < (v.1 60 3).toNatClampNeg → (e_X7_findHeld v m).1 70 j = 0 := by
  have hn : 0 ≤ v.1 60 3 ∧ v.1 60 3 ≤ 8 := iv_at hv 60 3 rfl
  have n8 := uk_cln 8 8 rfl hn.1 hn.2
  have z0 : (0 : Int32).toNatClampNeg = 0 := rfl
  obtain ⟨a1, a2⟩ := startNeed_l (m := m) (w := 1) ee_K 0 u (ee_F0 _ _) (by decide) (by decide)
  obtain ⟨x, b0, b1, b2⟩ := asks_l (m := m) ee_K 0 v hn.1 hn.2 (ee_F0 _ _) (by decide) hn.1
  rw [z0] at a2 b2
  have x60 := b1 60 (by decide)
  have nj : NJ (l_X0_startNeed_2 m 1 ee_K 0 u) x := fun j hj => by
    rw [x60] at hj
    rw [a2 j, b2 j, if_pos (show 0 ≤ j ∧ j < 8 by omega), if_pos (show 0 ≤ j ∧ j < (v.1 60 3).toNatClampNeg by omega)]
  obtain ⟨c1, c2, c3, c4⟩ := held_l ee_K m (l_X0_startNeed_2 m 1 ee_K 0 u) x (ee_D0 _) (by lia) (by rw [x60]; exact hm) (by rw [x60]; exact hn.1) (by rw [x60]; exact hn.2) (by rw [x60, b1 61 (by decide), b1 64 (by decide), b1 65 (by decide)]; exact hri.1) (KR_cg hK (fun d d1 d2 => a1 d (by omega)) (by rw [x60]) (b1 61 (by decide)) (b1 64 (by decide)) (b1 65 (by decide))) nj
  have e1 : e_X0_rawNeed u 13 m = l_X0_rawNeed_8 13 ee_K m (l_X0_startNeed_2 m 1 ee_K 0 u) := rfl
  have e2 : e_X7_findHeld v m = l_X7_findHeld_37 ee_K m x := b0
  rw [e1, e2]
  refine ⟨c1, fun c h => (c2 c h).trans (a1 c h), fun c h => (c3 c h).trans (b1 c h), fun j j1 j2 => ?_⟩
  rw [(c4 j (by omega)).resolve_left (by lia), b2 j, if_pos (by omega), if_neg]
  intro z
  rw [← z, nI_clamp (by omega)] at j1
  omega
/-- what lies above adds nothing -/
theorem cost_t {v : uk_Mem} {m : Int32} (n0 : 0 ≤ v.1 60 3) (n8 : v.1 60 3 ≤ 8) (m0 : 0 ≤ m) (z : ∀ j, m.toNatClampNeg < j → j < (v.1 60 3).toNatClampNeg → v.1 70 j = 0) : ∀ (K : Nat) (i a : Int32), ee_F (v.1 60 3) i K → m < i → i ≤ v.1 60 3 → (l_X7_cost_19 v K i a).1 = a := by
  intro K
  induction K with
  | zero =>
    intro i a f h0 h1
    obtain ⟨j, hj⟩ := ee_Fp h1 f
    omega
  | succ K ih =>
    intro i a f h0 h1
    rw [l_X7_cost_19]
    dsimp only
    by_cases q : v.1 60 3 ≤ i
    · rw [if_pos q]
    · rw [if_neg q]
      have hz := z i.toNatClampNeg (uk_cll m0 h0) (uk_cll (by lia) (by lia))
      rw [hz]
      split
      · rw [show a + 0 = a by grind]
        exact ih (i + 1) a (ee_Fs f (by lia)) (by lia) (by lia)
      · rw [Int32.zero_mul, show a + 0 = a by grind]
        exact ih (i + 1) a (ee_Fs f (by lia)) (by lia) (by lia)
theorem cost_l {u v : uk_Mem} {m : Int32} (n0 : 0 ≤ v.1 60 3) (n8 : v.1 60 3 ≤ 8) (m0 : 0 ≤ m) (hm : m < v.1 60 3) (hK : KR u v 13 61 0) (nj : NJ u v) (z : ∀ j, m.toNatClampNeg < j → j < (v.1 60 3).toNatClampNeg → v.1 70 j = 0) : ∀ (K : Nat) (i a : Int32), ee_F (v.1 60 3) i K → 0 ≤ i → i ≤ m + 1 → (l_X0_rawCost_11 m u 13 K i a).1 = (l_X7_cost_19 v K i a).1 := by
  intro K
  induction K with
  | zero =>
    intro i a f h0 h1
    obtain ⟨j, hj⟩ := ee_Fp (show i ≤ v.1 60 3 by lia) f
    omega
  | succ K ih =>
    intro i a f h0 h1
    by_cases q : m < i
    · rw [cost_t n0 n8 m0 z (K + 1) i a f q (by lia), l_X0_rawCost_11, if_pos q]
    · have i7 : i ≤ 7 := by lia
      have hl := uk_cll h0 (show i < v.1 60 3 by lia)
      obtain ⟨j1, -, -, -, j5, -⟩ := hK.2.2.2.2.1 i.toNatClampNeg hl
      rw [l_X0_rawCost_11, l_X7_cost_19, if_neg q]
      dsimp only
      rw [if_neg (show ¬ v.1 60 3 ≤ i by lia), nj i.toNatClampNeg hl, ix_24 h0 i7]
      rcases raw_e (u := u) (v := v) h0 i7 j1 with ⟨m1, m2⟩ | ⟨m1, m2⟩
      · have hk : v.1 61 (i.toNatClampNeg + (0 + 32)) = 4 := by
          unfold e_X7_isRaw at m2
          dsimp only at m2
          rw [ix_32 h0 i7] at m2
          exact Classical.byContradiction fun q => by rw [if_neg q] at m2; exact absurd m2 (by decide)
        have p5 : u.1 (13 + 5) i.toNatClampNeg = v.1 61 (i.toNatClampNeg + 24) := (j5 hk).1
        rw [m1, m2, if_pos rfl, if_neg one0, p5]
        exact ih (i + 1) _ (ee_Fs f (by lia)) (by lia) (by lia)
      · rw [m1, m2, if_neg one0, if_pos rfl]
        exact ih (i + 1) _ (ee_Fs f (by lia)) (by lia) (by lia)
theorem rawCost_e {u v : uk_Mem} {m : Int32} (hv : iv v) (hri : ri v) (hK : KR u v 13 61 0) (m0 : 0 ≤ m) (hm : m < v.1 60 3) : (e_X0_rawCost u 13 m).1 = (l_X7_cost_19 (e_X7_findHeld v m) ee_K 0 0).1 := by
  have hn : 0 ≤ v.1 60 3 ∧ v.1 60 3 ≤ 8 := iv_at hv 60 3 rfl
  obtain ⟨n1, n2, n3, n4⟩ := held_e hv hri hK m0 hm
  have x60 := n3 60 (by decide)
  unfold e_X0_rawCost
  dsimp only
  exact cost_l (by rw [x60]; exact hn.1) (by rw [x60]; exact hn.2) m0 (by rw [x60]; exact hm) (KR_cg hK (fun d d1 d2 => n2 d (by omega)) (by rw [x60]) (n3 61 (by decide)) (n3 64 (by decide)) (n3 65 (by decide))) n1 (by rw [x60]; exact n4) ee_K 0 0 (ee_F0 _ _) (by decide) (by lia)