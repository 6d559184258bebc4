abbrev q_X7_keepDraft_t (u : uk_Mem)  (r : Option Value) (u' : uk_Mem) : Prop := (r = none) ∧ (iv u' ∧ fk [60, 61, 63, 64, 65] [7, 10, 11, 13, 14, 15, 16, 17, 18, 19, 22, 28] u u' ∧ ri u' ∧ u'.1 60 3 = u.1 60 7 ∧ cpy (u'.1 61) (u.1 66) 51 ∧ cpy (u'.1 64) (u.1 67) (u.1 60 7) ∧ cpy (u'.1 65) (u.1 68) (u.1 60 7) ∧ u'.1 63 0 = 0 ∧ u'.1 63 1 = 0)
set_option maxHeartbeats 4000000 in
set_option maxRecDepth 20000 in
theorem c_X7_keepDraft_t {G : uk_D} (hs : uk_Sep G) {u : uk_Mem} (hu : iv u) (hrd : rd u)  (d : Nat) : uk_Meth G d mX7_keepDraft [.ref (uk_ad G 60)] u (q_X7_keepDraft_t u) := by
  refine uk_Meth.of hs (by decide) (Nat.le_of_ble_eq_true rfl) (fun X => ?_)
  have f0 : fk [60, 61, 63, 64, 65] [7, 10, 11, 13, 14, 15, 16, 17, 18, 19, 22, 28] u u := fk_rf
  obtain ⟨t1, Tt1⟩ : ∃ t, u.1 60 3 = t := ⟨_, rfl⟩
  refine g_iconst (v := 0) dX7_keepDraft_0 (by decide) ?_
  refine g_istore_n dX7_keepDraft_1 (by decide) ?_
  refine g_pick (lv' := [(0, .ref (uk_ad G 60)), (1, .int 0)]) [0, 1] rfl ?_
  have L2_1 : ∀ i3 : Int32, 0 ≤ i3 → i3 ≤ 51 → ∀ (u4 : uk_Mem), iv u4 → fk [60, 61, 63, 64, 65] [7, 10, 11, 13, 14, 15, 16, 17, 18, 19, 22, 28] u u4 → cpy (u4.1 61) (u.1 66) i3 → uk_G G X mX7_keepDraft d (q_X7_keepDraft_t u) 2 [(0, .ref (uk_ad G 60)), (1, .int i3)] [] u4 := by
    refine uk_upl 51 ?_
    intro i3 ai3 bi3 ihi3  u4 hu4 fu4 ji30
    obtain ⟨t5, Tt5⟩ : ∃ t, u4.1 60 3 = t := ⟨_, rfl⟩
    have Rt5 : 0 ≤ t5 ∧ t5 ≤ 8 := by rw [← Tt5]; exact iv_at hu4 _ _ rfl
    refine g_iload_n dX7_keepDraft_2 rfl ?_
    refine g_bipush (v := 51) dX7_keepDraft_3 (by decide) ?_
    refine g_icmp_ge (tgt := 26) dX7_keepDraft_5 (by decide) (fun c6 => ?_) (fun c6 => ?_)
    · refine g_aload_n dX7_keepDraft_26 rfl ?_
      refine g_aload_n dX7_keepDraft_27 rfl ?_
      refine f_X7_69 rfl rfl dX7_keepDraft_28 ?_
      refine g_topi (fun x7 ex7 => ?_)
      have rx7 : 0 ≤ x7 ∧ x7 ≤ 8 := by rw [ex7]; exact iv_at hu4 _ _ rfl
      have s8 : u4.1 60 7 = x7 := ex7.symm
      refine p_X7_79 rfl rfl dX7_keepDraft_31 ?_
      refine g_mem (fun u9 eu9 => ?_)
      have hu9 : iv u9 := by rw [eu9]; exact iv_up hu4 rfl (by first | lia | grind) (by first | lia | grind)
      have fu9 : fk [60, 61, 63, 64, 65] [7, 10, 11, 13, 14, 15, 16, 17, 18, 19, 22, 28] u u9 := by rw [eu9]; exact fk_up fu4 (by decide) (fun _ => by decide)
      have s10 : u9.1 60 3 = x7 := by rw [eu9, uk_up_at]; exact if_pos ⟨rfl, rfl⟩
      refine g_iconst (v := 0) dX7_keepDraft_34 (by decide) ?_
      refine g_istore_n dX7_keepDraft_35 (by decide) ?_
      refine g_pick (lv' := [(0, .ref (uk_ad G 60)), (1, .int 0)]) [0, 1] rfl ?_
      have L36_10 : ∀ i12 : Int32, 0 ≤ i12 → i12 ≤ 8 → ∀ (u13 : uk_Mem), iv u13 → fk [60, 61, 63, 64, 65] [7, 10, 11, 13, 14, 15, 16, 17, 18, 19, 22, 28] u u13 → cpy (u13.1 61) (u.1 66) 51 → cpy (u13.1 64) (u.1 67) i12 → cpy (u13.1 65) (u.1 68) i12 → u13.1 60 3 = u.1 60 7 → uk_G G X mX7_keepDraft d (q_X7_keepDraft_t u) 36 [(0, .ref (uk_ad G 60)), (1, .int i12)] [] u13 := by
        refine uk_upl 8 ?_
        intro i12 ai12 bi12 ihi12  u13 hu13 fu13 ji120 ji121 ji122 ji123
        have C61_u13 : u13.1 61 = u13.1 61 := rfl
        have C63_u13 : u13.1 63 = u13.1 63 := rfl
        have C64_u13 : u13.1 64 = u13.1 64 := rfl
        have C65_u13 : u13.1 65 = u13.1 65 := rfl
        obtain ⟨t14, Tt14⟩ : ∃ t, u13.1 60 3 = t := ⟨_, rfl⟩
        have Rt14 : 0 ≤ t14 ∧ t14 ≤ 8 := by rw [← Tt14]; exact iv_at hu13 _ _ rfl
        refine g_iload_n dX7_keepDraft_36 rfl ?_
        refine g_aload_n dX7_keepDraft_37 rfl ?_
        refine f_X7_79 rfl rfl dX7_keepDraft_38 ?_
        refine g_topi (fun x15 ex15 => ?_)
        have rx15 : 0 ≤ x15 ∧ x15 ≤ 8 := by rw [ex15]; exact iv_at hu13 _ _ rfl
        have qx15 : x15 = t14 := ex15.trans Tt14
        refine g_icmp_ge (tgt := 74) dX7_keepDraft_41 (by decide) (fun c16 => ?_) (fun c16 => ?_)
        · refine g_aload_n dX7_keepDraft_74 rfl ?_
          refine f_X7_16 rfl rfl dX7_keepDraft_75 ?_
          refine g_iconst (v := 0) dX7_keepDraft_78 (by decide) ?_
          refine g_iconst (v := 0) dX7_keepDraft_79 (by decide) ?_
          have v17 : vp_in 0 2 := uk_vin 2 rfl (by first | decide | lia | grind) (by first | decide | lia | grind)
          have b18 := uk_cl v17
          refine g_zast rfl rfl v17 dX7_keepDraft_80 ?_
          rw [show vp_nar .boolean 0 = 0 from rfl]
          refine g_mem (fun u19 eu19 => ?_)
          have hu19 : iv u19 := by rw [eu19]; exact iv_up hu13 (uk_pick1 _ (by omega)) (by first | lia | grind) (by first | lia | grind)
          have fu19 : fk [60, 61, 63, 64, 65] [7, 10, 11, 13, 14, 15, 16, 17, 18, 19, 22, 28] u u19 := by rw [eu19]; exact fk_up fu13 (by decide) (fun q => absurd q (by decide))
          have T20 : u19.1 60 3 = t14 := by rw [eu19]; exact (congrFun (uk_up_oc (by decide)) _).trans Tt14
          have C21 : u19.1 61 = u13.1 61 := by rw [eu19]; exact (uk_up_oc (by decide)).trans C61_u13
          have C22 : u19.1 63 = (upd (u13.1 63) (0 : Int32).toNatClampNeg 0) := by rw [eu19, uk_up_self, C63_u13]
          have C23 : u19.1 64 = u13.1 64 := by rw [eu19]; exact (uk_up_oc (by decide)).trans C64_u13
          have C24 : u19.1 65 = u13.1 65 := by rw [eu19]; exact (uk_up_oc (by decide)).trans C65_u13
          refine g_aload_n dX7_keepDraft_81 rfl ?_
          refine f_X7_16 rfl rfl dX7_keepDraft_82 ?_
          refine g_iconst (v := 1) dX7_keepDraft_85 (by decide) ?_
          refine g_iconst (v := 0) dX7_keepDraft_86 (by decide) ?_
          have v25 : vp_in 1 2 := uk_vin 2 rfl (by first | decide | lia | grind) (by first | decide | lia | grind)
          have b26 := uk_cl v25
          refine g_zast rfl rfl v25 dX7_keepDraft_87 ?_
          rw [show vp_nar .boolean 0 = 0 from rfl]
          refine g_mem (fun u27 eu27 => ?_)
          have hu27 : iv u27 := by rw [eu27]; exact iv_up hu19 (uk_pick1 _ (by omega)) (by first | lia | grind) (by first | lia | grind)
          have fu27 : fk [60, 61, 63, 64, 65] [7, 10, 11, 13, 14, 15, 16, 17, 18, 19, 22, 28] u u27 := by rw [eu27]; exact fk_up fu19 (by decide) (fun q => absurd q (by decide))
          have T28 : u27.1 60 3 = t14 := by rw [eu27]; exact (congrFun (uk_up_oc (by decide)) _).trans T20
          have C29 : u27.1 61 = u13.1 61 := by rw [eu27]; exact (uk_up_oc (by decide)).trans C21
          have C30 : u27.1 63 = (upd ((upd (u13.1 63) (0 : Int32).toNatClampNeg 0)) (1 : Int32).toNatClampNeg 0) := by rw [eu27, uk_up_self, C22]
          have C31 : u27.1 64 = u13.1 64 := by rw [eu27]; exact (uk_up_oc (by decide)).trans C23
          have C32 : u27.1 65 = u13.1 65 := by rw [eu27]; exact (uk_up_oc (by decide)).trans C24
          exact g_vret dX7_keepDraft_88 rfl ⟨rfl, hu27, fu27, (ri_draft hrd (T28.trans (by grind)) (iv_at hu 60 7 rfl).2 (by rw [C29]; exact ji120) (by rw [C31]; exact cpy_le ji121 (by grind)) (by rw [C32]; exact cpy_le ji122 (by grind)) (by rw [C30]; rfl) (by rw [C30]; rfl)), (T28.trans (by grind)), (by rw [C29]; exact ji120), (by rw [C31]; exact cpy_le ji121 (by grind)), (by rw [C32]; exact cpy_le ji122 (by grind)), (by rw [C30]; rfl), (by rw [C30]; rfl)⟩
        · refine g_aload_n dX7_keepDraft_44 rfl ?_
          refine f_X7_20 rfl rfl dX7_keepDraft_45 ?_
          refine g_iload_n dX7_keepDraft_48 rfl ?_
          refine g_aload_n dX7_keepDraft_49 rfl ?_
          refine f_X7_29 rfl rfl dX7_keepDraft_50 ?_
          refine g_iload_n dX7_keepDraft_53 rfl ?_
          have v33 : vp_in i12 8 := uk_vin 8 rfl (by first | decide | lia | grind) (by first | decide | lia | grind)
          refine g_iald rfl rfl v33 dX7_keepDraft_54 ?_
          refine g_topi (fun x34 ex34 => ?_)
          have bx34 := uk_cl v33
          have rx34 : (-4) ≤ x34 ∧ x34 ≤ 7 := by rw [ex34]; exact iv_at hu13 _ _ (uk_pick1 _ (by omega))
          have v35 : vp_in i12 8 := uk_vin 8 rfl (by first | decide | lia | grind) (by first | decide | lia | grind)
          have b36 := uk_cl v35
          refine g_iast rfl rfl v35 dX7_keepDraft_55 ?_
          refine g_mem (fun u37 eu37 => ?_)
          have hu37 : iv u37 := by rw [eu37]; exact iv_up hu13 (uk_pick1 _ (by omega)) (by first | lia | grind) (by first | lia | grind)
          have fu37 : fk [60, 61, 63, 64, 65] [7, 10, 11, 13, 14, 15, 16, 17, 18, 19, 22, 28] u u37 := by rw [eu37]; exact fk_up fu13 (by decide) (fun q => absurd q (by decide))
          have T38 : u37.1 60 3 = t14 := by rw [eu37]; exact (congrFun (uk_up_oc (by decide)) _).trans Tt14
          have C39 : u37.1 61 = u13.1 61 := by rw [eu37]; exact (uk_up_oc (by decide)).trans C61_u13
          have C40 : u37.1 63 = u13.1 63 := by rw [eu37]; exact (uk_up_oc (by decide)).trans C63_u13
          have C41 : u37.1 64 = (upd (u13.1 64) (i12 : Int32).toNatClampNeg x34) := by rw [eu37, uk_up_self, C64_u13]
          have C42 : u37.1 65 = u13.1 65 := by rw [eu37]; exact (uk_up_oc (by decide)).trans C65_u13
          refine g_aload_n dX7_keepDraft_56 rfl ?_
          refine f_X7_23 rfl rfl dX7_keepDraft_57 ?_
          refine g_iload_n dX7_keepDraft_60 rfl ?_
          refine g_aload_n dX7_keepDraft_61 rfl ?_
          refine f_X7_32 rfl rfl dX7_keepDraft_62 ?_
          refine g_iload_n dX7_keepDraft_65 rfl ?_
          have v43 : vp_in i12 8 := uk_vin 8 rfl (by first | decide | lia | grind) (by first | decide | lia | grind)
          refine g_iald rfl rfl v43 dX7_keepDraft_66 ?_
          refine g_topi (fun x44 ex44 => ?_)
          have bx44 := uk_cl v43
          have rx44 : (-4) ≤ x44 ∧ x44 ≤ 7 := by rw [ex44]; exact iv_at hu37 _ _ (uk_pick1 _ (by omega))
          have v45 : vp_in i12 8 := uk_vin 8 rfl (by first | decide | lia | grind) (by first | decide | lia | grind)
          have b46 := uk_cl v45
          refine g_iast rfl rfl v45 dX7_keepDraft_67 ?_
          refine g_mem (fun u47 eu47 => ?_)
          have hu47 : iv u47 := by rw [eu47]; exact iv_up hu37 (uk_pick1 _ (by omega)) (by first | lia | grind) (by first | lia | grind)
          have fu47 : fk [60, 61, 63, 64, 65] [7, 10, 11, 13, 14, 15, 16, 17, 18, 19, 22, 28] u u47 := by rw [eu47]; exact fk_up fu37 (by decide) (fun q => absurd q (by decide))
          have T48 : u47.1 60 3 = t14 := by rw [eu47]; exact (congrFun (uk_up_oc (by decide)) _).trans T38
          have C49 : u47.1 61 = u13.1 61 := by rw [eu47]; exact (uk_up_oc (by decide)).trans C39
          have C50 : u47.1 63 = u13.1 63 := by rw [eu47]; exact (uk_up_oc (by decide)).trans C40
          have C51 : u47.1 64 = (upd (u13.1 64) (i12 : Int32).toNatClampNeg x34) := by rw [eu47]; exact (uk_up_oc (by decide)).trans C41
          have C52 : u47.1 65 = (upd (u13.1 65) (i12 : Int32).toNatClampNeg x44) := by rw [eu47, uk_up_self, C42]
          refine g_iinc (v := i12 + 1) dX7_keepDraft_68 rfl rfl (by decide) ?_
          refine g_pick (lv' := [(0, .ref (uk_ad G 60)), (1, .int (i12 + 1))]) [0, 1] rfl ?_
          refine g_goto (tgt := 36) dX7_keepDraft_71 (by decide) ?_
          refine g_pick (lv' := [(0, .ref (uk_ad G 60)), (1, .int (i12 + 1))]) [0, 1] rfl ?_
          exact ihi12 (by first | lia | grind)  u47 hu47 fu47 (by rw [C49]; exact ji120) (by rw [C51]; exact cpy_up ji121 (by lia) (ex34.trans (congrFun (fk_c fu13 (by decide)) _))) (by rw [C52]; exact cpy_up ji122 (by lia) (ex44.trans (congrFun (fk_c fu37 (by decide)) _))) (by grind)
      refine g_pick (lv' := [(0, .ref (uk_ad G 60)), (1, .int 0)]) [0, 1] rfl ?_
      exact L36_10 0 (by first | decide | lia | grind) (by first | decide | lia | grind)  u9 hu9 fu9 (by rw [eu9, uk_up_oc (by decide)]; exact (show i3 = 51 by grind) ▸ ji30) cpy_0 cpy_0 (s10.trans (ex7.trans (fk_at fu4 (by decide))))
    · refine g_aload_n dX7_keepDraft_8 rfl ?_
      refine f_X7_7 rfl rfl dX7_keepDraft_9 ?_
      refine g_iload_n dX7_keepDraft_12 rfl ?_
      refine g_aload_n dX7_keepDraft_13 rfl ?_
      refine f_X7_26 rfl rfl dX7_keepDraft_14 ?_
      refine g_iload_n dX7_keepDraft_17 rfl ?_
      have v53 : vp_in i3 51 := uk_vin 51 rfl (by first | decide | lia | grind) (by first | decide | lia | grind)
      refine g_iald rfl rfl v53 dX7_keepDraft_18 ?_
      refine g_topi (fun x54 ex54 => ?_)
      have bx54 := uk_cl v53
      have v55 : vp_in i3 153 := uk_vin 153 rfl (by first | decide | lia | grind) (by first | decide | lia | grind)
      have b56 := uk_cl v55
      refine g_iast rfl rfl v55 dX7_keepDraft_19 ?_
      refine g_mem (fun u57 eu57 => ?_)
      have hu57 : iv u57 := by rw [eu57]; exact iv_cp hu4 hu4 (by unfold uk_is51; decide) (by unfold uk_is51; decide) (by omega) ex54
      have fu57 : fk [60, 61, 63, 64, 65] [7, 10, 11, 13, 14, 15, 16, 17, 18, 19, 22, 28] u u57 := by rw [eu57]; exact fk_up fu4 (by decide) (fun q => absurd q (by decide))
      have T58 : u57.1 60 3 = t5 := by rw [eu57]; exact (congrFun (uk_up_oc (by decide)) _).trans Tt5
      refine g_iinc (v := i3 + 1) dX7_keepDraft_20 rfl rfl (by decide) ?_
      refine g_pick (lv' := [(0, .ref (uk_ad G 60)), (1, .int (i3 + 1))]) [0, 1] rfl ?_
      refine g_goto (tgt := 2) dX7_keepDraft_23 (by decide) ?_
      refine g_pick (lv' := [(0, .ref (uk_ad G 60)), (1, .int (i3 + 1))]) [0, 1] rfl ?_
      exact ihi3 (by first | lia | grind)  u57 hu57 fu57 (by rw [eu57, uk_up_self]; exact cpy_up ji30 (by lia) (ex54.trans (congrFun (fk_c fu4 (by decide)) _)))
  refine g_pick (lv' := [(0, .ref (uk_ad G 60)), (1, .int 0)]) [0, 1] rfl ?_
  exact L2_1 0 (by first | decide | lia | grind) (by first | decide | lia | grind)  u hu f0 cpy_0
abbrev q_X7_firstDraft_t (u : uk_Mem)  (r : Option Value) (u' : uk_Mem) : Prop := (r = none) ∧ (iv u' ∧ fk [60, 66] [3, 13, 14, 15, 16, 17, 18, 19, 22, 28] u u' ∧ rf u' ∧ u'.1 60 7 = 0 ∧ u'.1 60 10 = 0 ∧ u'.1 60 11 = -4 ∧ (∀ j, j < 51 → u'.1 66 j = 0))
set_option maxHeartbeats 4000000 in
set_option maxRecDepth 20000 in
theorem c_X7_firstDraft_t {G : uk_D} (hs : uk_Sep G) {u : uk_Mem} (hu : iv u)  (d : Nat) : uk_Meth G d mX7_firstDraft [.ref (uk_ad G 60)] u (q_X7_firstDraft_t u) := by
  refine uk_Meth.of hs (by decide) (Nat.le_of_ble_eq_true rfl) (fun X => ?_)
  have f0 : fk [60, 66] [3, 13, 14, 15, 16, 17, 18, 19, 22, 28] u u := fk_rf
  refine g_iconst (v := 0) dX7_firstDraft_0 (by decide) ?_
  refine g_istore_n dX7_firstDraft_1 (by decide) ?_
  refine g_pick (lv' := [(0, .ref (uk_ad G 60)), (1, .int 0)]) [0, 1] rfl ?_
  have L2_0 : ∀ i2 : Int32, 0 ≤ i2 → i2 ≤ 51 → ∀ (u3 : uk_Mem), iv u3 → fk [60, 66] [3, 13, 14, 15, 16, 17, 18, 19, 22, 28] u u3 → aq0 u3 i2 → uk_G G X mX7_firstDraft d (q_X7_firstDraft_t u) 2 [(0, .ref (uk_ad G 60)), (1, .int i2)] [] u3 := by
    refine uk_upl 51 ?_
    intro i2 ai2 bi2 ihi2  u3 hu3 fu3 ji20
    refine g_iload_n dX7_firstDraft_2 rfl ?_
    refine g_bipush (v := 51) dX7_firstDraft_3 (by decide) ?_
    refine g_icmp_ge (tgt := 21) dX7_firstDraft_5 (by decide) (fun c4 => ?_) (fun c4 => ?_)
    · refine g_aload_n dX7_firstDraft_21 rfl ?_
      refine g_iconst (v := 0) dX7_firstDraft_22 (by decide) ?_
      refine p_X7_69 rfl rfl dX7_firstDraft_23 ?_
      refine g_mem (fun u5 eu5 => ?_)
      have hu5 : iv u5 := by rw [eu5]; exact iv_up hu3 rfl (by first | lia | grind) (by first | lia | grind)
      have fu5 : fk [60, 66] [3, 13, 14, 15, 16, 17, 18, 19, 22, 28] u u5 := by rw [eu5]; exact fk_up fu3 (by decide) (fun _ => by decide)
      have s6 : u5.1 60 7 = 0 := by rw [eu5, uk_up_at]; exact if_pos ⟨rfl, rfl⟩
      refine g_aload_n dX7_firstDraft_26 rfl ?_
      refine g_iconst (v := 0) dX7_firstDraft_27 (by decide) ?_
      refine p_X7_73 rfl rfl dX7_firstDraft_28 ?_
      refine g_mem (fun u7 eu7 => ?_)
      have hu7 : iv u7 := by rw [eu7]; exact iv_upF hu5 rfl
      have fu7 : fk [60, 66] [3, 13, 14, 15, 16, 17, 18, 19, 22, 28] u u7 := by rw [eu7]; exact fk_up fu5 (by decide) (fun _ => by decide)
      have s8 : u7.1 60 10 = 0 := by rw [eu7, uk_up_at]; exact if_pos ⟨rfl, rfl⟩
      refine g_aload_n dX7_firstDraft_31 rfl ?_
      refine g_bipush (v := (-4)) dX7_firstDraft_32 (by decide) ?_
      refine p_X7_76 rfl rfl dX7_firstDraft_34 ?_
      refine g_mem (fun u9 eu9 => ?_)
      have hu9 : iv u9 := by rw [eu9]; exact iv_upF hu7 rfl
      have fu9 : fk [60, 66] [3, 13, 14, 15, 16, 17, 18, 19, 22, 28] u u9 := by rw [eu9]; exact fk_up fu7 (by decide) (fun _ => by decide)
      have s10 : u9.1 60 11 = (-4) := by rw [eu9, uk_up_at]; exact if_pos ⟨rfl, rfl⟩
      exact g_vret dX7_firstDraft_37 rfl ⟨rfl, hu9, fu9, (fun _ => rd_0 (by grind [uk_up_at])), (by grind [uk_up_at]), (by grind [uk_up_at]), (by grind [uk_up_at]), (fun j hj => by rw [eu9, uk_up_oc (by decide), eu7, uk_up_oc (by decide), eu5, uk_up_oc (by decide)]; exact ji20 j (by have := uk_cge 51 51 rfl (i := i2) (by grind); omega))⟩
    · refine g_aload_n dX7_firstDraft_8 rfl ?_
      refine f_X7_26 rfl rfl dX7_firstDraft_9 ?_
      refine g_iload_n dX7_firstDraft_12 rfl ?_
      refine g_iconst (v := 0) dX7_firstDraft_13 (by decide) ?_
      have v11 : vp_in i2 51 := uk_vin 51 rfl (by first | decide | lia | grind) (by first | decide | lia | grind)
      have b12 := uk_cl v11
      refine g_iast rfl rfl v11 dX7_firstDraft_14 ?_
      refine g_mem (fun u13 eu13 => ?_)
      have hu13 : iv u13 := by rw [eu13]; exact iv_st hu3 (by unfold uk_is51; decide) (by first | decide | lia | grind) (by first | decide | lia | grind) (fun q => by first | decide | lia | grind) (fun q => by first | decide | lia | grind) (fun q => by first | decide | lia | grind)
      have fu13 : fk [60, 66] [3, 13, 14, 15, 16, 17, 18, 19, 22, 28] u u13 := by rw [eu13]; exact fk_up fu3 (by decide) (fun q => absurd q (by decide))
      refine g_iinc (v := i2 + 1) dX7_firstDraft_15 rfl rfl (by decide) ?_
      refine g_pick (lv' := [(0, .ref (uk_ad G 60)), (1, .int (i2 + 1))]) [0, 1] rfl ?_
      refine g_goto (tgt := 2) dX7_firstDraft_18 (by decide) ?_
      refine g_pick (lv' := [(0, .ref (uk_ad G 60)), (1, .int (i2 + 1))]) [0, 1] rfl ?_
      exact ihi2 (by first | lia | grind)  u13 hu13 fu13 (aq0_s ji20 (by grind) (by grind) eu13)
  refine g_pick (lv' := [(0, .ref (uk_ad G 60)), (1, .int 0)]) [0, 1] rfl ?_
  exact L2_0 0 (by first | decide | lia | grind) (by first | decide | lia | grind)  u hu f0 aq0_0
abbrev q_X7_text_t (u : uk_Mem) (f : Nat → Int32) (N : Int32) (r : Option Value) (u' : uk_Mem) : Prop := (∃ x : Int32, r = some (.int x) ∧ ((¬ (pRes f N).1.1 = 0 ∧ x = -10 - (pRes f N).1.2.1) ∨ ((pRes f N).1.1 = 0 ∧ x = (pRes f N).2))) ∧ (iv u' ∧ fk [60, 61, 63, 64, 65, 66, 67, 68] [22, 28] u u' ∧ ri u' ∧ u'.1 60 13 = 0 ∧ u'.1 60 18 = (pRes f N).1.1 ∧ ((pRes f N).1.1 = 0 → RwG (u'.1 60 3) (u'.1 61) (u'.1 64) (u'.1 65) (wIt f N (pRes f N).2.toNatClampNeg) ∧ u'.1 60 3 = (pIt f N (pRes f N).2.toNatClampNeg).2.2.2.1 ∧ u'.1 63 0 = 0 ∧ u'.1 63 1 = 0) ∧ (¬ (pRes f N).1.1 = 0 → u'.1 61 = u.1 61 ∧ u'.1 63 = u.1 63 ∧ u'.1 64 = u.1 64 ∧ u'.1 65 = u.1 65 ∧ u'.1 60 3 = u.1 60 3))
set_option maxHeartbeats 4000000 in
set_option maxRecDepth 20000 in
theorem c_X7_text_t {G : uk_D} (hs : uk_Sep G) {u : uk_Mem} (hu : iv u) (hri : ri u) (f : Nat → Int32) (N : Int32) (p0 : cpy (u.1 69) f N) (p1 : u.1 60 13 = N) (d : Nat) : uk_Meth G (d + 5) mX7_text [.ref (uk_ad G 60)] u (q_X7_text_t u f N) := by
  refine uk_Meth.of hs (by decide) (Nat.le_of_ble_eq_true rfl) (fun X => ?_)
  have f0 : fk [60, 61, 63, 64, 65, 66, 67, 68] [22, 28] u u := fk_rf
  obtain ⟨t1, Tt1⟩ : ∃ t, u.1 60 7 = t := ⟨_, rfl⟩
  obtain ⟨t2, Tt2⟩ : ∃ t, u.1 60 11 = t := ⟨_, rfl⟩
  obtain ⟨t3, Tt3⟩ : ∃ t, u.1 60 13 = t := ⟨_, rfl⟩
  obtain ⟨t4, Tt4⟩ : ∃ t, u.1 60 15 = t := ⟨_, rfl⟩
  obtain ⟨t5, Tt5⟩ : ∃ t, u.1 60 16 = t := ⟨_, rfl⟩
  obtain ⟨t6, Tt6⟩ : ∃ t, u.1 60 18 = t := ⟨_, rfl⟩
  obtain ⟨t7, Tt7⟩ : ∃ t, u.1 60 19 = t := ⟨_, rfl⟩
  refine g_iconst (v := 0) dX7_text_0 (by decide) ?_
  refine g_istore_n dX7_text_1 (by decide) ?_
  refine g_pick (lv' := [(0, .ref (uk_ad G 60)), (1, .int 0)]) [0, 1] rfl ?_
  refine g_aload_n dX7_text_2 rfl ?_
  refine g_iconst (v := 0) dX7_text_3 (by decide) ?_
  refine p_X7_91 rfl rfl dX7_text_4 ?_
  refine g_mem (fun u8 eu8 => ?_)
  have hu8 : iv u8 := by rw [eu8]; exact iv_up hu rfl (by first | lia | grind) (by first | lia | grind)
  have fu8 : fk [60, 61, 63, 64, 65, 66, 67, 68] [22, 28] u u8 := by rw [eu8]; exact fk_up f0 (by decide) (fun _ => by decide)
  have riu8 : ri u8 := by rw [eu8]; exact ri_1 hri (by decide) (fun _ => by decide)
  have s9 : u8.1 60 18 = 0 := by rw [eu8, uk_up_at]; exact if_pos ⟨rfl, rfl⟩
  have T10 : u8.1 60 7 = t1 := by rw [eu8, uk_up_at, if_neg (by decide)]; exact Tt1
  have T11 : u8.1 60 11 = t2 := by rw [eu8, uk_up_at, if_neg (by decide)]; exact Tt2
  have T12 : u8.1 60 13 = t3 := by rw [eu8, uk_up_at, if_neg (by decide)]; exact Tt3
  have T13 : u8.1 60 15 = t4 := by rw [eu8, uk_up_at, if_neg (by decide)]; exact Tt4
  have T14 : u8.1 60 16 = t5 := by rw [eu8, uk_up_at, if_neg (by decide)]; exact Tt5
  have T15 : u8.1 60 19 = t7 := by rw [eu8, uk_up_at, if_neg (by decide)]; exact Tt7
  refine g_aload_n dX7_text_7 rfl ?_
  refine g_iconst (v := 0) dX7_text_8 (by decide) ?_
  refine p_X7_100 rfl rfl dX7_text_9 ?_
  refine g_mem (fun u16 eu16 => ?_)
  have hu16 : iv u16 := by rw [eu16]; exact iv_up hu8 rfl (by first | lia | grind) (by first | lia | grind)
  have fu16 : fk [60, 61, 63, 64, 65, 66, 67, 68] [22, 28] u u16 := by rw [eu16]; exact fk_up fu8 (by decide) (fun _ => by decide)
  have riu16 : ri u16 := by rw [eu16]; exact ri_1 riu8 (by decide) (fun _ => by decide)
  have s17 : u16.1 60 14 = 0 := by rw [eu16, uk_up_at]; exact if_pos ⟨rfl, rfl⟩
  have T18 : u16.1 60 7 = t1 := by rw [eu16, uk_up_at, if_neg (by decide)]; exact T10
  have T19 : u16.1 60 11 = t2 := by rw [eu16, uk_up_at, if_neg (by decide)]; exact T11
  have T20 : u16.1 60 13 = t3 := by rw [eu16, uk_up_at, if_neg (by decide)]; exact T12
  have T21 : u16.1 60 15 = t4 := by rw [eu16, uk_up_at, if_neg (by decide)]; exact T13
  have T22 : u16.1 60 16 = t5 := by rw [eu16, uk_up_at, if_neg (by decide)]; exact T14
  have T23 : u16.1 60 18 = 0 := by rw [eu16, uk_up_at, if_neg (by decide)]; exact s9
  have T24 : u16.1 60 19 = t7 := by rw [eu16, uk_up_at, if_neg (by decide)]; exact T15
  refine g_aload_n dX7_text_12 rfl ?_
  refine cl_X7_63 (c := 60) (As := []) rfl (c_X7_firstDraft_t (G := G) hs hu16    (d + 4)) rfl (by omega) rfl rfl (Nat.le_of_ble_eq_true rfl) dX7_text_13 (fun r25 u26 q27 => ?_)
  obtain ⟨rfl, mq27⟩ := q27
  obtain ⟨hu26, gu26, rfu26, ku260, ku261, ku262, ku263⟩ := mq27
  have fu26 : fk [60, 61, 63, 64, 65, 66, 67, 68] [22, 28] u u26 := fk_tr fu16 gu26 (by decide) (by decide)
  have riu26 : ri u26 := ri_fk riu16 gu26 (by decide) (by decide) (by decide) (by decide) (by decide)
  obtain ⟨t28, Tt28⟩ : ∃ t, u26.1 60 7 = t := ⟨_, rfl⟩
  have Rt28 : 0 ≤ t28 ∧ t28 ≤ 8 := by rw [← Tt28]; exact iv_at hu26 _ _ rfl
  obtain ⟨t29, Tt29⟩ : ∃ t, u26.1 60 11 = t := ⟨_, rfl⟩
  have T30 : u26.1 60 13 = t3 := (fk_at gu26 (by decide)).trans T20
  have T31 : u26.1 60 15 = t4 := (fk_at gu26 (by decide)).trans T21
  have T32 : u26.1 60 16 = t5 := (fk_at gu26 (by decide)).trans T22
  have T33 : u26.1 60 18 = 0 := (fk_at gu26 (by decide)).trans T23
  have T34 : u26.1 60 19 = t7 := (fk_at gu26 (by decide)).trans T24
  have wu26_60_3 : u26.1 60 3 = u16.1 60 3 := fk_at gu26 (by decide)
  have s35 : u26.1 60 18 = 0 := (fk_at gu26 (by decide)).trans (by simp [eu16, uk_up_at, s9] : u16.1 60 18 = 0)
  have s36 : u26.1 60 14 = 0 := (fk_at gu26 (by decide)).trans s17
  have FXa : fk [60, 66, 67, 68] [3, 22, 28] u u8 := by rw [eu8]; exact fk_up fk_rf (by decide) (fun _ => by decide)
  have FXb : fk [60, 66, 67, 68] [3, 22, 28] u u16 := by rw [eu16]; exact fk_up FXa (by decide) (fun _ => by decide)
  have FX1 : fk [60, 66, 67, 68] [3, 22, 28] u u26 := fk_tr FXb gu26 (by decide) (by decide)
  refine g_aload_n dX7_text_16 rfl ?_
  refine cl_X7_133 (c := 60) (As := []) rfl (c_X7_next_s (G := G) hs hu26    (d + 3)) rfl (by omega) rfl rfl (Nat.le_of_ble_eq_true rfl) dX7_text_17 (fun r37 u38 q39 => ?_)
  obtain ⟨rfl, mq39⟩ := q39
  obtain ⟨hu38, gu38, ku380, ku381, ku382, ku383, ku384, ku385⟩ := mq39
  have fu38 : fk [60, 61, 63, 64, 65, 66, 67, 68] [22, 28] u u38 := fk_tr fu26 gu38 (by decide) (by decide)
  have riu38 : ri u38 := ri_fk riu26 gu38 (by decide) (by decide) (by decide) (by decide) (by decide)
  have rfu38 : rf u38 := rf_mono rfu26 gu38 ku380 (by decide) (by decide) (by decide) (by decide)
  have T40 : u38.1 60 7 = t28 := (fk_at gu38 (by decide)).trans Tt28
  have T41 : u38.1 60 11 = t29 := (fk_at gu38 (by decide)).trans Tt29
  have T42 : u38.1 60 13 = t3 := (fk_at gu38 (by decide)).trans T30
  obtain ⟨t43, Tt43⟩ : ∃ t, u38.1 60 15 = t := ⟨_, rfl⟩
  have Rt43 : 0 ≤ t43 ∧ t43 ≤ 160 := by rw [← Tt43]; exact iv_at hu38 _ _ rfl
  obtain ⟨t44, Tt44⟩ : ∃ t, u38.1 60 16 = t := ⟨_, rfl⟩
  obtain ⟨t45, Tt45⟩ : ∃ t, u38.1 60 18 = t := ⟨_, rfl⟩
  have Rt45 : 0 ≤ t45 ∧ t45 ≤ 6 := by rw [← Tt45]; exact iv_at hu38 _ _ rfl
  obtain ⟨t46, Tt46⟩ : ∃ t, u38.1 60 19 = t := ⟨_, rfl⟩
  have wu38_60_3 : u38.1 60 3 = u26.1 60 3 := fk_at gu38 (by decide)
  have hN : N ≤ 160 := by rw [← p1]; exact (iv_at hu 60 13 rfl).2
  have hN0 : 0 ≤ N := by rw [← p1]; exact (iv_at hu 60 13 rfl).1
  have Q69 : u26.1 69 = u.1 69 := fk_c fu26 (by decide)
  have Q18 : u26.1 60 18 = 0 := by rw [fk_at (c := 60) (i := 18) gu26 (by decide)]; grind [uk_up_at]
  have Q14 : u26.1 60 14 = 0 := by rw [fk_at (c := 60) (i := 14) gu26 (by decide)]; grind [uk_up_at]
  have Q13 : u26.1 60 13 = N := by rw [fk_at (c := 60) (i := 13) gu26 (by decide), ← p1]; grind [uk_up_at]
  have HA : ah f N 0 u38 := ah_cg (show cpy (u26.1 69) f N by rw [Q69]; exact p0) (by decide) hN (by have := ku384 Q18; rw [Q14, Q13] at this; exact this)
  have R0 : Rr f N u38 0 := Or.inl ⟨p_0, rfl, ⟨by rw [fk_c gu38 (by decide), Q69]; exact p0, (fk_at gu38 (by decide)).trans Q13, Or.inr ⟨rfl, ⟨by decide, hN0⟩, HA⟩⟩, rfl, fun _ => ⟨(fk_at gu38 (by decide)).trans ku260, (fk_at gu38 (by decide)).trans ku261, by rw [fk_at (c := 60) (i := 11) gu38 (by decide), ku262]; exact hi9_0⟩⟩
  have RW0 : RW f N u38 0 := fun _ => ⟨p_0, fun _ _ => 0, rfl, rfl, Rw_cg (Rw_0 ku260 ku263) (fk_at gu38 (by decide)) (fk_c gu38 (by decide)) (fk_c gu38 (by decide)) (fk_c gu38 (by decide)), rfl, ⟨by rw [fk_c gu38 (by decide), Q69]; exact p0, (fk_at gu38 (by decide)).trans Q13, Or.inr ⟨rfl, ⟨by decide, hN0⟩, HA⟩⟩, rfl, (fk_at gu38 (by decide)).trans ku260, (fk_at gu38 (by decide)).trans ku261, by rw [fk_at (c := 60) (i := 11) gu38 (by decide), ku262]; exact hi9_0⟩
  have FX2 : fk [60, 66, 67, 68] [3, 22, 28] u u38 := fk_tr FX1 gu38 (by decide) (by decide)
  have L20_46 : ∀ i49 : Int32, 0 ≤ i49 → i49 ≤ 161 → ∀ (i48 : Int32) (u50 : uk_Mem), iv u50 → fk [60, 61, 63, 64, 65, 66, 67, 68] [22, 28] u u50 → ri u50 → rf u50 → tx_ms u50 = i49 → (0 ≤ i48 ∧ i48 ≤ 60) → (u50.1 60 18 = 0 → 3 * i48 ≤ u50.1 60 15) → Rr f N u50 i48 → RW f N u50 i48 → fk [60, 66, 67, 68] [3, 22, 28] u u50 → uk_G G X mX7_text (d + 5) (q_X7_text_t u f N) 20 [(0, .ref (uk_ad G 60)), (1, .int i48)] [] u50 := by
    refine uk_ups 161 ?_
    intro i49 ai49 bi49 ihi49 i48 u50 hu50 fu50 riu50 rfu50 ki49 ji490 ji491 ji492 ji493 ji494
    obtain ⟨t51, Tt51⟩ : ∃ t, u50.1 60 7 = t := ⟨_, rfl⟩
    have Rt51 : 0 ≤ t51 ∧ t51 ≤ 8 := by rw [← Tt51]; exact iv_at hu50 _ _ rfl
    obtain ⟨t52, Tt52⟩ : ∃ t, u50.1 60 11 = t := ⟨_, rfl⟩
    obtain ⟨t53, Tt53⟩ : ∃ t, u50.1 60 13 = t := ⟨_, rfl⟩
    have Rt53 : 0 ≤ t53 ∧ t53 ≤ 160 := by rw [← Tt53]; exact iv_at hu50 _ _ rfl
    obtain ⟨t54, Tt54⟩ : ∃ t, u50.1 60 15 = t := ⟨_, rfl⟩
    have Rt54 : 0 ≤ t54 ∧ t54 ≤ 160 := by rw [← Tt54]; exact iv_at hu50 _ _ rfl
    obtain ⟨t55, Tt55⟩ : ∃ t, u50.1 60 16 = t := ⟨_, rfl⟩
    obtain ⟨t56, Tt56⟩ : ∃ t, u50.1 60 18 = t := ⟨_, rfl⟩
    have Rt56 : 0 ≤ t56 ∧ t56 ≤ 6 := by rw [← Tt56]; exact iv_at hu50 _ _ rfl
    obtain ⟨t57, Tt57⟩ : ∃ t, u50.1 60 19 = t := ⟨_, rfl⟩
    refine g_aload_n dX7_text_20 rfl ?_
    refine f_X7_91 rfl rfl dX7_text_21 ?_
    refine g_topi (fun x58 ex58 => ?_)
    have rx58 : 0 ≤ x58 ∧ x58 ≤ 6 := by rw [ex58]; exact iv_at hu50 _ _ rfl
    have qx58 : x58 = t56 := ex58.trans Tt56
    refine g_if_ne (tgt := 44) dX7_text_24 (by decide) (fun c59 => ?_) (fun c59 => ?_)
    · refine g_aload_n dX7_text_44 rfl ?_
      refine f_X7_91 rfl rfl dX7_text_45 ?_
      refine g_topi (fun x60 ex60 => ?_)
      have rx60 : 0 ≤ x60 ∧ x60 ≤ 6 := by rw [ex60]; exact iv_at hu50 _ _ rfl
      have qx60 : x60 = t56 := ex60.trans Tt56
      refine g_if_ne (tgt := 73) dX7_text_48 (by decide) (fun c61 => ?_) (fun c61 => ?_)
      · have CC : 0 ≤ i48 ∧ i48 < 160 := by grind
        have RF : u50.1 60 18 = (pRes f N).1.1 ∧ (¬ (pRes f N).1.1 = 0 → u50.1 60 19 = (pRes f N).1.2.1) ∧ ((pRes f N).1.1 = 0 → i48 = (pRes f N).2) := by have r := Rr_F hN CC.1 CC.2 ji492 (by grind); exact ⟨r.1, fun _ => r.2, fun z => absurd (r.1.trans z) (by grind)⟩
        have FX9 : fk [60, 66, 67, 68] [3, 22, 28] u u50 := ji494
        refine g_aload_n dX7_text_73 rfl ?_
        refine g_iconst (v := 0) dX7_text_74 (by decide) ?_
        refine p_X7_88 rfl rfl dX7_text_75 ?_
        refine g_mem (fun u62 eu62 => ?_)
        have hu62 : iv u62 := by rw [eu62]; exact iv_up hu50 rfl (by first | lia | grind) (by first | lia | grind)
        have fu62 : fk [60, 61, 63, 64, 65, 66, 67, 68] [22, 28] u u62 := by rw [eu62]; exact fk_up fu50 (by decide) (fun _ => by decide)
        have riu62 : ri u62 := by rw [eu62]; exact ri_1 riu50 (by decide) (fun _ => by decide)
        have rfu62 : rf u62 := by rw [eu62]; exact rf_1 rfu50 (by decide)
        have s63 : u62.1 60 13 = 0 := by rw [eu62, uk_up_at]; exact if_pos ⟨rfl, rfl⟩
        have T64 : u62.1 60 7 = t51 := by rw [eu62, uk_up_at, if_neg (by decide)]; exact Tt51
        have T65 : u62.1 60 11 = t52 := by rw [eu62, uk_up_at, if_neg (by decide)]; exact Tt52
        have T66 : u62.1 60 15 = t54 := by rw [eu62, uk_up_at, if_neg (by decide)]; exact Tt54
        have T67 : u62.1 60 16 = t55 := by rw [eu62, uk_up_at, if_neg (by decide)]; exact Tt55
        have T68 : u62.1 60 18 = t56 := by rw [eu62, uk_up_at, if_neg (by decide)]; exact Tt56
        have T69 : u62.1 60 19 = t57 := by rw [eu62, uk_up_at, if_neg (by decide)]; exact Tt57
        refine g_aload_n dX7_text_78 rfl ?_
        refine f_X7_91 rfl rfl dX7_text_79 ?_
        refine g_topi (fun x70 ex70 => ?_)
        have rx70 : 0 ≤ x70 ∧ x70 ≤ 6 := by rw [ex70]; exact iv_at hu62 _ _ rfl
        have qx70 : x70 = t56 := ex70.trans T68
        refine g_if_le (tgt := 93) dX7_text_82 (by decide) (fun c71 => ?_) (fun c71 => ?_)
        · refine g_aload_n dX7_text_93 rfl ?_
          exfalso; grind
        · refine g_bipush (v := (-10)) dX7_text_85 (by decide) ?_
          refine g_aload_n dX7_text_87 rfl ?_
          refine f_X7_97 rfl rfl dX7_text_88 ?_
          refine g_topi (fun x72 ex72 => ?_)
          have qx72 : x72 = t57 := ex72.trans T69
          refine g_isub dX7_text_91 ?_
          refine g_topi (fun x73 ex73 => ?_)
          exact g_iret (ty := .int) dX7_text_92 rfl rfl ⟨⟨_, rfl, Or.inl ⟨by rw [← RF.1]; grind, by rw [ex73, ← RF.2.1 (by rw [← RF.1]; grind)]; grind⟩⟩, hu62, fu62, riu62, (s63.trans (by grind)), (by rw [T68, ← RF.1]; grind), (fun q => by exfalso; have := RF.1; grind), (fun _ => ⟨by rw [eu62, uk_up_oc (by decide)]; exact fk_c FX9 (by decide), by rw [eu62, uk_up_oc (by decide)]; exact fk_c FX9 (by decide), by rw [eu62, uk_up_oc (by decide)]; exact fk_c FX9 (by decide), by rw [eu62, uk_up_oc (by decide)]; exact fk_c FX9 (by decide), by rw [eu62, uk_up_at, if_neg (by decide)]; exact fk_at FX9 (by decide)⟩)⟩
      · refine g_aload_n dX7_text_51 rfl ?_
        refine g_aload_n dX7_text_52 rfl ?_
        refine f_X7_76 rfl rfl dX7_text_53 ?_
        refine g_topi (fun x74 ex74 => ?_)
        have qx74 : x74 = t52 := ex74.trans Tt52
        refine g_aload_n dX7_text_56 rfl ?_
        refine f_X7_69 rfl rfl dX7_text_57 ?_
        refine g_topi (fun x75 ex75 => ?_)
        have rx75 : 0 ≤ x75 ∧ x75 ≤ 8 := by rw [ex75]; exact iv_at hu50 _ _ rfl
        have qx75 : x75 = t51 := ex75.trans Tt51
        refine g_icmp_ge (tgt := 67) dX7_text_60 (by decide) (fun c76 => ?_) (fun c76 => ?_)
        · refine g_iconst (v := 0) dX7_text_67 (by decide) ?_
          refine g_bipush (v := 6) dX7_text_68 (by decide) ?_
          refine cl_X7_125 (c := 60) (As := [.int 0, .int 6]) rfl (c_X7_needs_s (G := G) hs hu50  0 6 (by first | trivial | decide | lia | grind) (by first | trivial | decide | lia | grind) (d + 4)) rfl (by omega) rfl rfl (Nat.le_of_ble_eq_true rfl) dX7_text_70 (fun r77 u78 q79 => ?_)
          obtain ⟨rfl, mq79⟩ := q79
          obtain ⟨hu78, gu78, ku780, ku781, ku782⟩ := mq79
          have fu78 : fk [60, 61, 63, 64, 65, 66, 67, 68] [22, 28] u u78 := fk_tr fu50 gu78 (by decide) (by decide)
          have riu78 : ri u78 := ri_fk riu50 gu78 (by decide) (by decide) (by decide) (by decide) (by decide)
          have rfu78 : rf u78 := rf_mono rfu50 gu78 (fun q => (ku780 q).1) (by decide) (by decide) (by decide) (by decide)
          have T80 : u78.1 60 7 = t51 := (fk_at gu78 (by decide)).trans Tt51
          have T81 : u78.1 60 11 = t52 := (fk_at gu78 (by decide)).trans Tt52
          have T82 : u78.1 60 13 = t53 := (fk_at gu78 (by decide)).trans Tt53
          have T83 : u78.1 60 15 = t54 := (fk_at gu78 (by decide)).trans Tt54
          have T84 : u78.1 60 16 = t55 := (fk_at gu78 (by decide)).trans Tt55
          obtain ⟨t85, Tt85⟩ : ∃ t, u78.1 60 18 = t := ⟨_, rfl⟩
          have Rt85 : 0 ≤ t85 ∧ t85 ≤ 6 := by rw [← Tt85]; exact iv_at hu78 _ _ rfl
          obtain ⟨t86, Tt86⟩ : ∃ t, u78.1 60 19 = t := ⟨_, rfl⟩
          have wu78_60_3 : u78.1 60 3 = u50.1 60 3 := fk_at gu78 (by decide)
          have CC : 0 ≤ i48 ∧ i48 < 160 := by grind
          have RF : u78.1 60 18 = (pRes f N).1.1 ∧ (¬ (pRes f N).1.1 = 0 → u78.1 60 19 = (pRes f N).1.2.1) ∧ ((pRes f N).1.1 = 0 → i48 = (pRes f N).2) := Rr_E hN CC.1 CC.2 ji492 (by grind) (by grind) (iv_at hu50 60 7 rfl) (fun q => by grind) (fun q => by grind)
          have RD : (pRes f N).1.1 = 0 → Rw u78 (wIt f N (pRes f N).2.toNatClampNeg) ∧ u78.1 60 7 = (pIt f N (pRes f N).2.toNatClampNeg).2.2.2.1 := fun q => by
            obtain ⟨b9, W9, bI, bJ, BW, B1, B2, B3, B5, B6, B8⟩ := ji493 (by grind)
            rw [← RF.2.2 q, ← bI, ← bJ]
            exact ⟨Rw_cg BW (fk_at gu78 (by decide)) (fk_c gu78 (by decide)) (fk_c gu78 (by decide)) (fk_c gu78 (by decide)), (fk_at gu78 (by decide)).trans B5⟩
          have FX9 : fk [60, 66, 67, 68] [3, 22, 28] u u78 := fk_tr ji494 gu78 (by decide) (by decide)
          refine g_aload_n dX7_text_73 rfl ?_
          refine g_iconst (v := 0) dX7_text_74 (by decide) ?_
          refine p_X7_88 rfl rfl dX7_text_75 ?_
          refine g_mem (fun u87 eu87 => ?_)
          have hu87 : iv u87 := by rw [eu87]; exact iv_up hu78 rfl (by first | lia | grind) (by first | lia | grind)
          have fu87 : fk [60, 61, 63, 64, 65, 66, 67, 68] [22, 28] u u87 := by rw [eu87]; exact fk_up fu78 (by decide) (fun _ => by decide)
          have riu87 : ri u87 := by rw [eu87]; exact ri_1 riu78 (by decide) (fun _ => by decide)
          have rfu87 : rf u87 := by rw [eu87]; exact rf_1 rfu78 (by decide)
          have s88 : u87.1 60 13 = 0 := by rw [eu87, uk_up_at]; exact if_pos ⟨rfl, rfl⟩
          have T89 : u87.1 60 7 = t51 := by rw [eu87, uk_up_at, if_neg (by decide)]; exact T80
          have T90 : u87.1 60 11 = t52 := by rw [eu87, uk_up_at, if_neg (by decide)]; exact T81
          have T91 : u87.1 60 15 = t54 := by rw [eu87, uk_up_at, if_neg (by decide)]; exact T83
          have T92 : u87.1 60 16 = t55 := by rw [eu87, uk_up_at, if_neg (by decide)]; exact T84
          have T93 : u87.1 60 18 = t85 := by rw [eu87, uk_up_at, if_neg (by decide)]; exact Tt85
          have T94 : u87.1 60 19 = t86 := by rw [eu87, uk_up_at, if_neg (by decide)]; exact Tt86
          refine g_aload_n dX7_text_78 rfl ?_
          refine f_X7_91 rfl rfl dX7_text_79 ?_
          refine g_topi (fun x95 ex95 => ?_)
          have rx95 : 0 ≤ x95 ∧ x95 ≤ 6 := by rw [ex95]; exact iv_at hu87 _ _ rfl
          have qx95 : x95 = t85 := ex95.trans T93
          refine g_if_le (tgt := 93) dX7_text_82 (by decide) (fun c96 => ?_) (fun c96 => ?_)
          · refine g_aload_n dX7_text_93 rfl ?_
            have q94 : (pRes f N).1.1 = 0 := by rw [← RF.1]; grind
            have RE : Rw u87 (wIt f N (pRes f N).2.toNatClampNeg) := Rw_cg (RD q94).1 (by rw [eu87, uk_up_at, if_neg (by decide)]) (by rw [eu87, uk_up_oc (by decide)]) (by rw [eu87, uk_up_oc (by decide)]) (by rw [eu87, uk_up_oc (by decide)])
            have RS : u87.1 60 7 = (pIt f N (pRes f N).2.toNatClampNeg).2.2.2.1 := by rw [eu87, uk_up_at, if_neg (by decide)]; exact (RD q94).2
            have rdx97 : rd u87 := rfu87 (by grind)
            refine cl_X7_66 (c := 60) (As := []) rfl (c_X7_keepDraft_t (G := G) hs hu87 rdx97    (d + 4)) rfl (by omega) rfl rfl (Nat.le_of_ble_eq_true rfl) dX7_text_94 (fun r98 u99 q100 => ?_)
            obtain ⟨rfl, mq100⟩ := q100
            obtain ⟨hu99, gu99, riu99, ku990, ku991, ku992, ku993, ku994, ku995⟩ := mq100
            have fu99 : fk [60, 61, 63, 64, 65, 66, 67, 68] [22, 28] u u99 := fk_tr fu87 gu99 (by decide) (by decide)
            have T101 : u99.1 60 7 = t51 := (fk_at gu99 (by decide)).trans T89
            have T102 : u99.1 60 11 = t52 := (fk_at gu99 (by decide)).trans T90
            have T103 : u99.1 60 13 = 0 := (fk_at gu99 (by decide)).trans s88
            have T104 : u99.1 60 15 = t54 := (fk_at gu99 (by decide)).trans T91
            have T105 : u99.1 60 16 = t55 := (fk_at gu99 (by decide)).trans T92
            have T106 : u99.1 60 18 = t85 := (fk_at gu99 (by decide)).trans T93
            have T107 : u99.1 60 19 = t86 := (fk_at gu99 (by decide)).trans T94
            have s108 : u99.1 60 13 = 0 := (fk_at gu99 (by decide)).trans s88
            refine g_iload_n dX7_text_97 rfl ?_
            exact g_iret (ty := .int) dX7_text_98 rfl rfl ⟨⟨_, rfl, Or.inr ⟨by rw [← RF.1]; grind, RF.2.2 (by rw [← RF.1]; grind)⟩⟩, hu99, fu99, riu99, (T103.trans (by grind)), (by rw [T106, ← RF.1]; grind), (fun _ => ⟨RwG_keep RE (iv_at hu87 60 7 rfl).2 ku990 ku991 ku992 ku993 (iv_at hu87 60 7 rfl).1, ku990.trans RS, ku994, ku995⟩), (fun q => absurd q94 q)⟩
          · refine g_bipush (v := (-10)) dX7_text_85 (by decide) ?_
            refine g_aload_n dX7_text_87 rfl ?_
            refine f_X7_97 rfl rfl dX7_text_88 ?_
            refine g_topi (fun x109 ex109 => ?_)
            have qx109 : x109 = t86 := ex109.trans T94
            refine g_isub dX7_text_91 ?_
            refine g_topi (fun x110 ex110 => ?_)
            exact g_iret (ty := .int) dX7_text_92 rfl rfl ⟨⟨_, rfl, Or.inl ⟨by rw [← RF.1]; grind, by rw [ex110, ← RF.2.1 (by rw [← RF.1]; grind)]; grind⟩⟩, hu87, fu87, riu87, (s88.trans (by grind)), (by rw [T93, ← RF.1]; grind), (fun q => by exfalso; have := RF.1; grind), (fun _ => ⟨by rw [eu87, uk_up_oc (by decide)]; exact fk_c FX9 (by decide), by rw [eu87, uk_up_oc (by decide)]; exact fk_c FX9 (by decide), by rw [eu87, uk_up_oc (by decide)]; exact fk_c FX9 (by decide), by rw [eu87, uk_up_oc (by decide)]; exact fk_c FX9 (by decide), by rw [eu87, uk_up_at, if_neg (by decide)]; exact fk_at FX9 (by decide)⟩)⟩
        · refine g_iconst (v := 1) dX7_text_63 (by decide) ?_
          refine g_goto (tgt := 68) dX7_text_64 (by decide) ?_
          refine g_bipush (v := 6) dX7_text_68 (by decide) ?_
          refine cl_X7_125 (c := 60) (As := [.int 1, .int 6]) rfl (c_X7_needs_s (G := G) hs hu50  1 6 (by first | trivial | decide | lia | grind) (by first | trivial | decide | lia | grind) (d + 4)) rfl (by omega) rfl rfl (Nat.le_of_ble_eq_true rfl) dX7_text_70 (fun r111 u112 q113 => ?_)
          obtain ⟨rfl, mq113⟩ := q113
          obtain ⟨hu112, gu112, ku1120, ku1121, ku1122⟩ := mq113
          have fu112 : fk [60, 61, 63, 64, 65, 66, 67, 68] [22, 28] u u112 := fk_tr fu50 gu112 (by decide) (by decide)
          have riu112 : ri u112 := ri_fk riu50 gu112 (by decide) (by decide) (by decide) (by decide) (by decide)
          have rfu112 : rf u112 := rf_mono rfu50 gu112 (fun q => (ku1120 q).1) (by decide) (by decide) (by decide) (by decide)
          have T114 : u112.1 60 7 = t51 := (fk_at gu112 (by decide)).trans Tt51
          have T115 : u112.1 60 11 = t52 := (fk_at gu112 (by decide)).trans Tt52
          have T116 : u112.1 60 13 = t53 := (fk_at gu112 (by decide)).trans Tt53
          have T117 : u112.1 60 15 = t54 := (fk_at gu112 (by decide)).trans Tt54
          have T118 : u112.1 60 16 = t55 := (fk_at gu112 (by decide)).trans Tt55
          obtain ⟨t119, Tt119⟩ : ∃ t, u112.1 60 18 = t := ⟨_, rfl⟩
          have Rt119 : 0 ≤ t119 ∧ t119 ≤ 6 := by rw [← Tt119]; exact iv_at hu112 _ _ rfl
          obtain ⟨t120, Tt120⟩ : ∃ t, u112.1 60 19 = t := ⟨_, rfl⟩
          have wu112_60_3 : u112.1 60 3 = u50.1 60 3 := fk_at gu112 (by decide)
          have CC : 0 ≤ i48 ∧ i48 < 160 := by grind
          have RF : u112.1 60 18 = (pRes f N).1.1 ∧ (¬ (pRes f N).1.1 = 0 → u112.1 60 19 = (pRes f N).1.2.1) ∧ ((pRes f N).1.1 = 0 → i48 = (pRes f N).2) := Rr_E hN CC.1 CC.2 ji492 (by grind) (by grind) (iv_at hu50 60 7 rfl) (fun q => by grind) (fun q => by grind)
          have RD : (pRes f N).1.1 = 0 → Rw u112 (wIt f N (pRes f N).2.toNatClampNeg) ∧ u112.1 60 7 = (pIt f N (pRes f N).2.toNatClampNeg).2.2.2.1 := fun q => by
            obtain ⟨b9, W9, bI, bJ, BW, B1, B2, B3, B5, B6, B8⟩ := ji493 (by grind)
            rw [← RF.2.2 q, ← bI, ← bJ]
            exact ⟨Rw_cg BW (fk_at gu112 (by decide)) (fk_c gu112 (by decide)) (fk_c gu112 (by decide)) (fk_c gu112 (by decide)), (fk_at gu112 (by decide)).trans B5⟩
          have FX9 : fk [60, 66, 67, 68] [3, 22, 28] u u112 := fk_tr ji494 gu112 (by decide) (by decide)
          refine g_aload_n dX7_text_73 rfl ?_
          refine g_iconst (v := 0) dX7_text_74 (by decide) ?_
          refine p_X7_88 rfl rfl dX7_text_75 ?_
          refine g_mem (fun u121 eu121 => ?_)
          have hu121 : iv u121 := by rw [eu121]; exact iv_up hu112 rfl (by first | lia | grind) (by first | lia | grind)
          have fu121 : fk [60, 61, 63, 64, 65, 66, 67, 68] [22, 28] u u121 := by rw [eu121]; exact fk_up fu112 (by decide) (fun _ => by decide)
          have riu121 : ri u121 := by rw [eu121]; exact ri_1 riu112 (by decide) (fun _ => by decide)
          have rfu121 : rf u121 := by rw [eu121]; exact rf_1 rfu112 (by decide)
          have s122 : u121.1 60 13 = 0 := by rw [eu121, uk_up_at]; exact if_pos ⟨rfl, rfl⟩
          have T123 : u121.1 60 7 = t51 := by rw [eu121, uk_up_at, if_neg (by decide)]; exact T114
          have T124 : u121.1 60 11 = t52 := by rw [eu121, uk_up_at, if_neg (by decide)]; exact T115
          have T125 : u121.1 60 15 = t54 := by rw [eu121, uk_up_at, if_neg (by decide)]; exact T117
          have T126 : u121.1 60 16 = t55 := by rw [eu121, uk_up_at, if_neg (by decide)]; exact T118
          have T127 : u121.1 60 18 = t119 := by rw [eu121, uk_up_at, if_neg (by decide)]; exact Tt119
          have T128 : u121.1 60 19 = t120 := by rw [eu121, uk_up_at, if_neg (by decide)]; exact Tt120
          refine g_aload_n dX7_text_78 rfl ?_
          refine f_X7_91 rfl rfl dX7_text_79 ?_
          refine g_topi (fun x129 ex129 => ?_)
          have rx129 : 0 ≤ x129 ∧ x129 ≤ 6 := by rw [ex129]; exact iv_at hu121 _ _ rfl
          have qx129 : x129 = t119 := ex129.trans T127
          refine g_if_le (tgt := 93) dX7_text_82 (by decide) (fun c130 => ?_) (fun c130 => ?_)
          · refine g_aload_n dX7_text_93 rfl ?_
            have q94 : (pRes f N).1.1 = 0 := by rw [← RF.1]; grind
            have RE : Rw u121 (wIt f N (pRes f N).2.toNatClampNeg) := Rw_cg (RD q94).1 (by rw [eu121, uk_up_at, if_neg (by decide)]) (by rw [eu121, uk_up_oc (by decide)]) (by rw [eu121, uk_up_oc (by decide)]) (by rw [eu121, uk_up_oc (by decide)])
            have RS : u121.1 60 7 = (pIt f N (pRes f N).2.toNatClampNeg).2.2.2.1 := by rw [eu121, uk_up_at, if_neg (by decide)]; exact (RD q94).2
            have rdx131 : rd u121 := rfu121 (by grind)
            refine cl_X7_66 (c := 60) (As := []) rfl (c_X7_keepDraft_t (G := G) hs hu121 rdx131    (d + 4)) rfl (by omega) rfl rfl (Nat.le_of_ble_eq_true rfl) dX7_text_94 (fun r132 u133 q134 => ?_)
            obtain ⟨rfl, mq134⟩ := q134
            obtain ⟨hu133, gu133, riu133, ku1330, ku1331, ku1332, ku1333, ku1334, ku1335⟩ := mq134
            have fu133 : fk [60, 61, 63, 64, 65, 66, 67, 68] [22, 28] u u133 := fk_tr fu121 gu133 (by decide) (by decide)
            have T135 : u133.1 60 7 = t51 := (fk_at gu133 (by decide)).trans T123
            have T136 : u133.1 60 11 = t52 := (fk_at gu133 (by decide)).trans T124
            have T137 : u133.1 60 13 = 0 := (fk_at gu133 (by decide)).trans s122
            have T138 : u133.1 60 15 = t54 := (fk_at gu133 (by decide)).trans T125
            have T139 : u133.1 60 16 = t55 := (fk_at gu133 (by decide)).trans T126
            have T140 : u133.1 60 18 = t119 := (fk_at gu133 (by decide)).trans T127
            have T141 : u133.1 60 19 = t120 := (fk_at gu133 (by decide)).trans T128
            have s142 : u133.1 60 13 = 0 := (fk_at gu133 (by decide)).trans s122
            refine g_iload_n dX7_text_97 rfl ?_
            exact g_iret (ty := .int) dX7_text_98 rfl rfl ⟨⟨_, rfl, Or.inr ⟨by rw [← RF.1]; grind, RF.2.2 (by rw [← RF.1]; grind)⟩⟩, hu133, fu133, riu133, (T137.trans (by grind)), (by rw [T140, ← RF.1]; grind), (fun _ => ⟨RwG_keep RE (iv_at hu121 60 7 rfl).2 ku1330 ku1331 ku1332 ku1333 (iv_at hu121 60 7 rfl).1, ku1330.trans RS, ku1334, ku1335⟩), (fun q => absurd q94 q)⟩
          · refine g_bipush (v := (-10)) dX7_text_85 (by decide) ?_
            refine g_aload_n dX7_text_87 rfl ?_
            refine f_X7_97 rfl rfl dX7_text_88 ?_
            refine g_topi (fun x143 ex143 => ?_)
            have qx143 : x143 = t120 := ex143.trans T128
            refine g_isub dX7_text_91 ?_
            refine g_topi (fun x144 ex144 => ?_)
            exact g_iret (ty := .int) dX7_text_92 rfl rfl ⟨⟨_, rfl, Or.inl ⟨by rw [← RF.1]; grind, by rw [ex144, ← RF.2.1 (by rw [← RF.1]; grind)]; grind⟩⟩, hu121, fu121, riu121, (s122.trans (by grind)), (by rw [T127, ← RF.1]; grind), (fun q => by exfalso; have := RF.1; grind), (fun _ => ⟨by rw [eu121, uk_up_oc (by decide)]; exact fk_c FX9 (by decide), by rw [eu121, uk_up_oc (by decide)]; exact fk_c FX9 (by decide), by rw [eu121, uk_up_oc (by decide)]; exact fk_c FX9 (by decide), by rw [eu121, uk_up_oc (by decide)]; exact fk_c FX9 (by decide), by rw [eu121, uk_up_at, if_neg (by decide)]; exact fk_at FX9 (by decide)⟩)⟩
    · refine g_aload_n dX7_text_27 rfl ?_
      refine f_X7_111 rfl rfl dX7_text_28 ?_
      refine g_topi (fun x145 ex145 => ?_)
      have qx145 : x145 = t55 := ex145.trans Tt55
      refine g_if_eq (tgt := 44) dX7_text_31 (by decide) (fun c146 => ?_) (fun c146 => ?_)
      · refine g_aload_n dX7_text_44 rfl ?_
        refine f_X7_91 rfl rfl dX7_text_45 ?_
        refine g_topi (fun x147 ex147 => ?_)
        have rx147 : 0 ≤ x147 ∧ x147 ≤ 6 := by rw [ex147]; exact iv_at hu50 _ _ rfl
        have qx147 : x147 = t56 := ex147.trans Tt56
        refine g_if_ne (tgt := 73) dX7_text_48 (by decide) (fun c148 => ?_) (fun c148 => ?_)
        · have CC : 0 ≤ i48 ∧ i48 < 160 := by grind
          have RF : u50.1 60 18 = (pRes f N).1.1 ∧ (¬ (pRes f N).1.1 = 0 → u50.1 60 19 = (pRes f N).1.2.1) ∧ ((pRes f N).1.1 = 0 → i48 = (pRes f N).2) := by have r := Rr_F hN CC.1 CC.2 ji492 (by grind); exact ⟨r.1, fun _ => r.2, fun z => absurd (r.1.trans z) (by grind)⟩
          have FX9 : fk [60, 66, 67, 68] [3, 22, 28] u u50 := ji494
          refine g_aload_n dX7_text_73 rfl ?_
          refine g_iconst (v := 0) dX7_text_74 (by decide) ?_
          refine p_X7_88 rfl rfl dX7_text_75 ?_
          refine g_mem (fun u149 eu149 => ?_)
          have hu149 : iv u149 := by rw [eu149]; exact iv_up hu50 rfl (by first | lia | grind) (by first | lia | grind)
          have fu149 : fk [60, 61, 63, 64, 65, 66, 67, 68] [22, 28] u u149 := by rw [eu149]; exact fk_up fu50 (by decide) (fun _ => by decide)
          have riu149 : ri u149 := by rw [eu149]; exact ri_1 riu50 (by decide) (fun _ => by decide)
          have rfu149 : rf u149 := by rw [eu149]; exact rf_1 rfu50 (by decide)
          have s150 : u149.1 60 13 = 0 := by rw [eu149, uk_up_at]; exact if_pos ⟨rfl, rfl⟩
          have T151 : u149.1 60 7 = t51 := by rw [eu149, uk_up_at, if_neg (by decide)]; exact Tt51
          have T152 : u149.1 60 11 = t52 := by rw [eu149, uk_up_at, if_neg (by decide)]; exact Tt52
          have T153 : u149.1 60 15 = t54 := by rw [eu149, uk_up_at, if_neg (by decide)]; exact Tt54
          have T154 : u149.1 60 16 = t55 := by rw [eu149, uk_up_at, if_neg (by decide)]; exact Tt55
          have T155 : u149.1 60 18 = t56 := by rw [eu149, uk_up_at, if_neg (by decide)]; exact Tt56
          have T156 : u149.1 60 19 = t57 := by rw [eu149, uk_up_at, if_neg (by decide)]; exact Tt57
          refine g_aload_n dX7_text_78 rfl ?_
          refine f_X7_91 rfl rfl dX7_text_79 ?_
          refine g_topi (fun x157 ex157 => ?_)
          have rx157 : 0 ≤ x157 ∧ x157 ≤ 6 := by rw [ex157]; exact iv_at hu149 _ _ rfl
          have qx157 : x157 = t56 := ex157.trans T155
          refine g_if_le (tgt := 93) dX7_text_82 (by decide) (fun c158 => ?_) (fun c158 => ?_)
          · refine g_aload_n dX7_text_93 rfl ?_
            exfalso; grind
          · refine g_bipush (v := (-10)) dX7_text_85 (by decide) ?_
            refine g_aload_n dX7_text_87 rfl ?_
            refine f_X7_97 rfl rfl dX7_text_88 ?_
            refine g_topi (fun x159 ex159 => ?_)
            have qx159 : x159 = t57 := ex159.trans T156
            refine g_isub dX7_text_91 ?_
            refine g_topi (fun x160 ex160 => ?_)
            exact g_iret (ty := .int) dX7_text_92 rfl rfl ⟨⟨_, rfl, Or.inl ⟨by rw [← RF.1]; grind, by rw [ex160, ← RF.2.1 (by rw [← RF.1]; grind)]; grind⟩⟩, hu149, fu149, riu149, (s150.trans (by grind)), (by rw [T155, ← RF.1]; grind), (fun q => by exfalso; have := RF.1; grind), (fun _ => ⟨by rw [eu149, uk_up_oc (by decide)]; exact fk_c FX9 (by decide), by rw [eu149, uk_up_oc (by decide)]; exact fk_c FX9 (by decide), by rw [eu149, uk_up_oc (by decide)]; exact fk_c FX9 (by decide), by rw [eu149, uk_up_oc (by decide)]; exact fk_c FX9 (by decide), by rw [eu149, uk_up_at, if_neg (by decide)]; exact fk_at FX9 (by decide)⟩)⟩
        · refine g_aload_n dX7_text_51 rfl ?_
          refine g_aload_n dX7_text_52 rfl ?_
          refine f_X7_76 rfl rfl dX7_text_53 ?_
          refine g_topi (fun x161 ex161 => ?_)
          have qx161 : x161 = t52 := ex161.trans Tt52
          refine g_aload_n dX7_text_56 rfl ?_
          refine f_X7_69 rfl rfl dX7_text_57 ?_
          refine g_topi (fun x162 ex162 => ?_)
          have rx162 : 0 ≤ x162 ∧ x162 ≤ 8 := by rw [ex162]; exact iv_at hu50 _ _ rfl
          have qx162 : x162 = t51 := ex162.trans Tt51
          refine g_icmp_ge (tgt := 67) dX7_text_60 (by decide) (fun c163 => ?_) (fun c163 => ?_)
          · refine g_iconst (v := 0) dX7_text_67 (by decide) ?_
            refine g_bipush (v := 6) dX7_text_68 (by decide) ?_
            refine cl_X7_125 (c := 60) (As := [.int 0, .int 6]) rfl (c_X7_needs_s (G := G) hs hu50  0 6 (by first | trivial | decide | lia | grind) (by first | trivial | decide | lia | grind) (d + 4)) rfl (by omega) rfl rfl (Nat.le_of_ble_eq_true rfl) dX7_text_70 (fun r164 u165 q166 => ?_)
            obtain ⟨rfl, mq166⟩ := q166
            obtain ⟨hu165, gu165, ku1650, ku1651, ku1652⟩ := mq166
            have fu165 : fk [60, 61, 63, 64, 65, 66, 67, 68] [22, 28] u u165 := fk_tr fu50 gu165 (by decide) (by decide)
            have riu165 : ri u165 := ri_fk riu50 gu165 (by decide) (by decide) (by decide) (by decide) (by decide)
            have rfu165 : rf u165 := rf_mono rfu50 gu165 (fun q => (ku1650 q).1) (by decide) (by decide) (by decide) (by decide)
            have T167 : u165.1 60 7 = t51 := (fk_at gu165 (by decide)).trans Tt51
            have T168 : u165.1 60 11 = t52 := (fk_at gu165 (by decide)).trans Tt52
            have T169 : u165.1 60 13 = t53 := (fk_at gu165 (by decide)).trans Tt53
            have T170 : u165.1 60 15 = t54 := (fk_at gu165 (by decide)).trans Tt54
            have T171 : u165.1 60 16 = t55 := (fk_at gu165 (by decide)).trans Tt55
            obtain ⟨t172, Tt172⟩ : ∃ t, u165.1 60 18 = t := ⟨_, rfl⟩
            have Rt172 : 0 ≤ t172 ∧ t172 ≤ 6 := by rw [← Tt172]; exact iv_at hu165 _ _ rfl
            obtain ⟨t173, Tt173⟩ : ∃ t, u165.1 60 19 = t := ⟨_, rfl⟩
            have wu165_60_3 : u165.1 60 3 = u50.1 60 3 := fk_at gu165 (by decide)
            have CC : 0 ≤ i48 ∧ i48 < 160 := by grind
            have RF : u165.1 60 18 = (pRes f N).1.1 ∧ (¬ (pRes f N).1.1 = 0 → u165.1 60 19 = (pRes f N).1.2.1) ∧ ((pRes f N).1.1 = 0 → i48 = (pRes f N).2) := Rr_E hN CC.1 CC.2 ji492 (by grind) (by grind) (iv_at hu50 60 7 rfl) (fun q => by grind) (fun q => by grind)
            have RD : (pRes f N).1.1 = 0 → Rw u165 (wIt f N (pRes f N).2.toNatClampNeg) ∧ u165.1 60 7 = (pIt f N (pRes f N).2.toNatClampNeg).2.2.2.1 := fun q => by
              obtain ⟨b9, W9, bI, bJ, BW, B1, B2, B3, B5, B6, B8⟩ := ji493 (by grind)
              rw [← RF.2.2 q, ← bI, ← bJ]
              exact ⟨Rw_cg BW (fk_at gu165 (by decide)) (fk_c gu165 (by decide)) (fk_c gu165 (by decide)) (fk_c gu165 (by decide)), (fk_at gu165 (by decide)).trans B5⟩
            have FX9 : fk [60, 66, 67, 68] [3, 22, 28] u u165 := fk_tr ji494 gu165 (by decide) (by decide)
            refine g_aload_n dX7_text_73 rfl ?_
            refine g_iconst (v := 0) dX7_text_74 (by decide) ?_
            refine p_X7_88 rfl rfl dX7_text_75 ?_
            refine g_mem (fun u174 eu174 => ?_)
            have hu174 : iv u174 := by rw [eu174]; exact iv_up hu165 rfl (by first | lia | grind) (by first | lia | grind)
            have fu174 : fk [60, 61, 63, 64, 65, 66, 67, 68] [22, 28] u u174 := by rw [eu174]; exact fk_up fu165 (by decide) (fun _ => by decide)
            have riu174 : ri u174 := by rw [eu174]; exact ri_1 riu165 (by decide) (fun _ => by decide)
            have rfu174 : rf u174 := by rw [eu174]; exact rf_1 rfu165 (by decide)
            have s175 : u174.1 60 13 = 0 := by rw [eu174, uk_up_at]; exact if_pos ⟨rfl, rfl⟩
            have T176 : u174.1 60 7 = t51 := by rw [eu174, uk_up_at, if_neg (by decide)]; exact T167
            have T177 : u174.1 60 11 = t52 := by rw [eu174, uk_up_at, if_neg (by decide)]; exact T168
            have T178 : u174.1 60 15 = t54 := by rw [eu174, uk_up_at, if_neg (by decide)]; exact T170
            have T179 : u174.1 60 16 = t55 := by rw [eu174, uk_up_at, if_neg (by decide)]; exact T171
            have T180 : u174.1 60 18 = t172 := by rw [eu174, uk_up_at, if_neg (by decide)]; exact Tt172
            have T181 : u174.1 60 19 = t173 := by rw [eu174, uk_up_at, if_neg (by decide)]; exact Tt173
            refine g_aload_n dX7_text_78 rfl ?_
            refine f_X7_91 rfl rfl dX7_text_79 ?_
            refine g_topi (fun x182 ex182 => ?_)
            have rx182 : 0 ≤ x182 ∧ x182 ≤ 6 := by rw [ex182]; exact iv_at hu174 _ _ rfl
            have qx182 : x182 = t172 := ex182.trans T180
            refine g_if_le (tgt := 93) dX7_text_82 (by decide) (fun c183 => ?_) (fun c183 => ?_)
            · refine g_aload_n dX7_text_93 rfl ?_
              have q94 : (pRes f N).1.1 = 0 := by rw [← RF.1]; grind
              have RE : Rw u174 (wIt f N (pRes f N).2.toNatClampNeg) := Rw_cg (RD q94).1 (by rw [eu174, uk_up_at, if_neg (by decide)]) (by rw [eu174, uk_up_oc (by decide)]) (by rw [eu174, uk_up_oc (by decide)]) (by rw [eu174, uk_up_oc (by decide)])
              have RS : u174.1 60 7 = (pIt f N (pRes f N).2.toNatClampNeg).2.2.2.1 := by rw [eu174, uk_up_at, if_neg (by decide)]; exact (RD q94).2
              have rdx184 : rd u174 := rfu174 (by grind)
              refine cl_X7_66 (c := 60) (As := []) rfl (c_X7_keepDraft_t (G := G) hs hu174 rdx184    (d + 4)) rfl (by omega) rfl rfl (Nat.le_of_ble_eq_true rfl) dX7_text_94 (fun r185 u186 q187 => ?_)
              obtain ⟨rfl, mq187⟩ := q187
              obtain ⟨hu186, gu186, riu186, ku1860, ku1861, ku1862, ku1863, ku1864, ku1865⟩ := mq187
              have fu186 : fk [60, 61, 63, 64, 65, 66, 67, 68] [22, 28] u u186 := fk_tr fu174 gu186 (by decide) (by decide)
              have T188 : u186.1 60 7 = t51 := (fk_at gu186 (by decide)).trans T176
              have T189 : u186.1 60 11 = t52 := (fk_at gu186 (by decide)).trans T177
              have T190 : u186.1 60 13 = 0 := (fk_at gu186 (by decide)).trans s175
              have T191 : u186.1 60 15 = t54 := (fk_at gu186 (by decide)).trans T178
              have T192 : u186.1 60 16 = t55 := (fk_at gu186 (by decide)).trans T179
              have T193 : u186.1 60 18 = t172 := (fk_at gu186 (by decide)).trans T180
              have T194 : u186.1 60 19 = t173 := (fk_at gu186 (by decide)).trans T181
              have s195 : u186.1 60 13 = 0 := (fk_at gu186 (by decide)).trans s175
              refine g_iload_n dX7_text_97 rfl ?_
              exact g_iret (ty := .int) dX7_text_98 rfl rfl ⟨⟨_, rfl, Or.inr ⟨by rw [← RF.1]; grind, RF.2.2 (by rw [← RF.1]; grind)⟩⟩, hu186, fu186, riu186, (T190.trans (by grind)), (by rw [T193, ← RF.1]; grind), (fun _ => ⟨RwG_keep RE (iv_at hu174 60 7 rfl).2 ku1860 ku1861 ku1862 ku1863 (iv_at hu174 60 7 rfl).1, ku1860.trans RS, ku1864, ku1865⟩), (fun q => absurd q94 q)⟩
            · refine g_bipush (v := (-10)) dX7_text_85 (by decide) ?_
              refine g_aload_n dX7_text_87 rfl ?_
              refine f_X7_97 rfl rfl dX7_text_88 ?_
              refine g_topi (fun x196 ex196 => ?_)
              have qx196 : x196 = t173 := ex196.trans T181
              refine g_isub dX7_text_91 ?_
              refine g_topi (fun x197 ex197 => ?_)
              exact g_iret (ty := .int) dX7_text_92 rfl rfl ⟨⟨_, rfl, Or.inl ⟨by rw [← RF.1]; grind, by rw [ex197, ← RF.2.1 (by rw [← RF.1]; grind)]; grind⟩⟩, hu174, fu174, riu174, (s175.trans (by grind)), (by rw [T180, ← RF.1]; grind), (fun q => by exfalso; have := RF.1; grind), (fun _ => ⟨by rw [eu174, uk_up_oc (by decide)]; exact fk_c FX9 (by decide), by rw [eu174, uk_up_oc (by decide)]; exact fk_c FX9 (by decide), by rw [eu174, uk_up_oc (by decide)]; exact fk_c FX9 (by decide), by rw [eu174, uk_up_oc (by decide)]; exact fk_c FX9 (by decide), by rw [eu174, uk_up_at, if_neg (by decide)]; exact fk_at FX9 (by decide)⟩)⟩
          · refine g_iconst (v := 1) dX7_text_63 (by decide) ?_
            refine g_goto (tgt := 68) dX7_text_64 (by decide) ?_
            refine g_bipush (v := 6) dX7_text_68 (by decide) ?_
            refine cl_X7_125 (c := 60) (As := [.int 1, .int 6]) rfl (c_X7_needs_s (G := G) hs hu50  1 6 (by first | trivial | decide | lia | grind) (by first | trivial | decide | lia | grind) (d + 4)) rfl (by omega) rfl rfl (Nat.le_of_ble_eq_true rfl) dX7_text_70 (fun r198 u199 q200 => ?_)
            obtain ⟨rfl, mq200⟩ := q200
            obtain ⟨hu199, gu199, ku1990, ku1991, ku1992⟩ := mq200
            have fu199 : fk [60, 61, 63, 64, 65, 66, 67, 68] [22, 28] u u199 := fk_tr fu50 gu199 (by decide) (by decide)
            have riu199 : ri u199 := ri_fk riu50 gu199 (by decide) (by decide) (by decide) (by decide) (by decide)
            have rfu199 : rf u199 := rf_mono rfu50 gu199 (fun q => (ku1990 q).1) (by decide) (by decide) (by decide) (by decide)
            have T201 : u199.1 60 7 = t51 := (fk_at gu199 (by decide)).trans Tt51
            have T202 : u199.1 60 11 = t52 := (fk_at gu199 (by decide)).trans Tt52
            have T203 : u199.1 60 13 = t53 := (fk_at gu199 (by decide)).trans Tt53
            have T204 : u199.1 60 15 = t54 := (fk_at gu199 (by decide)).trans Tt54
            have T205 : u199.1 60 16 = t55 := (fk_at gu199 (by decide)).trans Tt55
            obtain ⟨t206, Tt206⟩ : ∃ t, u199.1 60 18 = t := ⟨_, rfl⟩
            have Rt206 : 0 ≤ t206 ∧ t206 ≤ 6 := by rw [← Tt206]; exact iv_at hu199 _ _ rfl
            obtain ⟨t207, Tt207⟩ : ∃ t, u199.1 60 19 = t := ⟨_, rfl⟩
            have wu199_60_3 : u199.1 60 3 = u50.1 60 3 := fk_at gu199 (by decide)
            have CC : 0 ≤ i48 ∧ i48 < 160 := by grind
            have RF : u199.1 60 18 = (pRes f N).1.1 ∧ (¬ (pRes f N).1.1 = 0 → u199.1 60 19 = (pRes f N).1.2.1) ∧ ((pRes f N).1.1 = 0 → i48 = (pRes f N).2) := Rr_E hN CC.1 CC.2 ji492 (by grind) (by grind) (iv_at hu50 60 7 rfl) (fun q => by grind) (fun q => by grind)
            have RD : (pRes f N).1.1 = 0 → Rw u199 (wIt f N (pRes f N).2.toNatClampNeg) ∧ u199.1 60 7 = (pIt f N (pRes f N).2.toNatClampNeg).2.2.2.1 := fun q => by
              obtain ⟨b9, W9, bI, bJ, BW, B1, B2, B3, B5, B6, B8⟩ := ji493 (by grind)
              rw [← RF.2.2 q, ← bI, ← bJ]
              exact ⟨Rw_cg BW (fk_at gu199 (by decide)) (fk_c gu199 (by decide)) (fk_c gu199 (by decide)) (fk_c gu199 (by decide)), (fk_at gu199 (by decide)).trans B5⟩
            have FX9 : fk [60, 66, 67, 68] [3, 22, 28] u u199 := fk_tr ji494 gu199 (by decide) (by decide)
            refine g_aload_n dX7_text_73 rfl ?_
            refine g_iconst (v := 0) dX7_text_74 (by decide) ?_
            refine p_X7_88 rfl rfl dX7_text_75 ?_
            refine g_mem (fun u208 eu208 => ?_)
            have hu208 : iv u208 := by rw [eu208]; exact iv_up hu199 rfl (by first | lia | grind) (by first | lia | grind)
            have fu208 : fk [60, 61, 63, 64, 65, 66, 67, 68] [22, 28] u u208 := by rw [eu208]; exact fk_up fu199 (by decide) (fun _ => by decide)
            have riu208 : ri u208 := by rw [eu208]; exact ri_1 riu199 (by decide) (fun _ => by decide)
            have rfu208 : rf u208 := by rw [eu208]; exact rf_1 rfu199 (by decide)
            have s209 : u208.1 60 13 = 0 := by rw [eu208, uk_up_at]; exact if_pos ⟨rfl, rfl⟩
            have T210 : u208.1 60 7 = t51 := by rw [eu208, uk_up_at, if_neg (by decide)]; exact T201
            have T211 : u208.1 60 11 = t52 := by rw [eu208, uk_up_at, if_neg (by decide)]; exact T202
            have T212 : u208.1 60 15 = t54 := by rw [eu208, uk_up_at, if_neg (by decide)]; exact T204
            have T213 : u208.1 60 16 = t55 := by rw [eu208, uk_up_at, if_neg (by decide)]; exact T205
            have T214 : u208.1 60 18 = t206 := by rw [eu208, uk_up_at, if_neg (by decide)]; exact Tt206
            have T215 : u208.1 60 19 = t207 := by rw [eu208, uk_up_at, if_neg (by decide)]; exact Tt207
            refine g_aload_n dX7_text_78 rfl ?_
            refine f_X7_91 rfl rfl dX7_text_79 ?_
            refine g_topi (fun x216 ex216 => ?_)
            have rx216 : 0 ≤ x216 ∧ x216 ≤ 6 := by rw [ex216]; exact iv_at hu208 _ _ rfl
            have qx216 : x216 = t206 := ex216.trans T214
            refine g_if_le (tgt := 93) dX7_text_82 (by decide) (fun c217 => ?_) (fun c217 => ?_)
            · refine g_aload_n dX7_text_93 rfl ?_
              have q94 : (pRes f N).1.1 = 0 := by rw [← RF.1]; grind
              have RE : Rw u208 (wIt f N (pRes f N).2.toNatClampNeg) := Rw_cg (RD q94).1 (by rw [eu208, uk_up_at, if_neg (by decide)]) (by rw [eu208, uk_up_oc (by decide)]) (by rw [eu208, uk_up_oc (by decide)]) (by rw [eu208, uk_up_oc (by decide)])
              have RS : u208.1 60 7 = (pIt f N (pRes f N).2.toNatClampNeg).2.2.2.1 := by rw [eu208, uk_up_at, if_neg (by decide)]; exact (RD q94).2
              have rdx218 : rd u208 := rfu208 (by grind)
              refine cl_X7_66 (c := 60) (As := []) rfl (c_X7_keepDraft_t (G := G) hs hu208 rdx218    (d + 4)) rfl (by omega) rfl rfl (Nat.le_of_ble_eq_true rfl) dX7_text_94 (fun r219 u220 q221 => ?_)
              obtain ⟨rfl, mq221⟩ := q221
              obtain ⟨hu220, gu220, riu220, ku2200, ku2201, ku2202, ku2203, ku2204, ku2205⟩ := mq221
              have fu220 : fk [60, 61, 63, 64, 65, 66, 67, 68] [22, 28] u u220 := fk_tr fu208 gu220 (by decide) (by decide)
              have T222 : u220.1 60 7 = t51 := (fk_at gu220 (by decide)).trans T210
              have T223 : u220.1 60 11 = t52 := (fk_at gu220 (by decide)).trans T211
              have T224 : u220.1 60 13 = 0 := (fk_at gu220 (by decide)).trans s209
              have T225 : u220.1 60 15 = t54 := (fk_at gu220 (by decide)).trans T212
              have T226 : u220.1 60 16 = t55 := (fk_at gu220 (by decide)).trans T213
              have T227 : u220.1 60 18 = t206 := (fk_at gu220 (by decide)).trans T214
              have T228 : u220.1 60 19 = t207 := (fk_at gu220 (by decide)).trans T215
              have s229 : u220.1 60 13 = 0 := (fk_at gu220 (by decide)).trans s209
              refine g_iload_n dX7_text_97 rfl ?_
              exact g_iret (ty := .int) dX7_text_98 rfl rfl ⟨⟨_, rfl, Or.inr ⟨by rw [← RF.1]; grind, RF.2.2 (by rw [← RF.1]; grind)⟩⟩, hu220, fu220, riu220, (T224.trans (by grind)), (by rw [T227, ← RF.1]; grind), (fun _ => ⟨RwG_keep RE (iv_at hu208 60 7 rfl).2 ku2200 ku2201 ku2202 ku2203 (iv_at hu208 60 7 rfl).1, ku2200.trans RS, ku2204, ku2205⟩), (fun q => absurd q94 q)⟩
            · refine g_bipush (v := (-10)) dX7_text_85 (by decide) ?_
              refine g_aload_n dX7_text_87 rfl ?_
              refine f_X7_97 rfl rfl dX7_text_88 ?_
              refine g_topi (fun x230 ex230 => ?_)
              have qx230 : x230 = t207 := ex230.trans T215
              refine g_isub dX7_text_91 ?_
              refine g_topi (fun x231 ex231 => ?_)
              exact g_iret (ty := .int) dX7_text_92 rfl rfl ⟨⟨_, rfl, Or.inl ⟨by rw [← RF.1]; grind, by rw [ex231, ← RF.2.1 (by rw [← RF.1]; grind)]; grind⟩⟩, hu208, fu208, riu208, (s209.trans (by grind)), (by rw [T214, ← RF.1]; grind), (fun q => by exfalso; have := RF.1; grind), (fun _ => ⟨by rw [eu208, uk_up_oc (by decide)]; exact fk_c FX9 (by decide), by rw [eu208, uk_up_oc (by decide)]; exact fk_c FX9 (by decide), by rw [eu208, uk_up_oc (by decide)]; exact fk_c FX9 (by decide), by rw [eu208, uk_up_oc (by decide)]; exact fk_c FX9 (by decide), by rw [eu208, uk_up_at, if_neg (by decide)]; exact fk_at FX9 (by decide)⟩)⟩
      · obtain ⟨b9, W9, bI, bJ, BW, B1, B2, B3, B5, B6, B8⟩ := ji493 (by grind)
        refine g_aload_n dX7_text_34 rfl ?_
        refine cl_X7_150 (c := 60) (As := []) rfl (c_X7_readLine_t (G := G) hs hu50 rfu50  f N b9 W9 B2 (by grind) B5 B6 B8 BW (d)) rfl (by omega) rfl rfl (Nat.le_of_ble_eq_true rfl) dX7_text_35 (fun r232 u233 q234 => ?_)
        obtain ⟨rfl, mq234⟩ := q234
        obtain ⟨hu233, gu233, rfu233, ku2330, ku2331, ku2332, ku2333, ku2334⟩ := mq234
        have fu233 : fk [60, 61, 63, 64, 65, 66, 67, 68] [22, 28] u u233 := fk_tr fu50 gu233 (by decide) (by decide)
        have riu233 : ri u233 := ri_fk riu50 gu233 (by decide) (by decide) (by decide) (by decide) (by decide)
        obtain ⟨t235, Tt235⟩ : ∃ t, u233.1 60 7 = t := ⟨_, rfl⟩
        have Rt235 : 0 ≤ t235 ∧ t235 ≤ 8 := by rw [← Tt235]; exact iv_at hu233 _ _ rfl
        obtain ⟨t236, Tt236⟩ : ∃ t, u233.1 60 11 = t := ⟨_, rfl⟩
        have T237 : u233.1 60 13 = t53 := (fk_at gu233 (by decide)).trans Tt53
        obtain ⟨t238, Tt238⟩ : ∃ t, u233.1 60 15 = t := ⟨_, rfl⟩
        have Rt238 : 0 ≤ t238 ∧ t238 ≤ 160 := by rw [← Tt238]; exact iv_at hu233 _ _ rfl
        obtain ⟨t239, Tt239⟩ : ∃ t, u233.1 60 16 = t := ⟨_, rfl⟩
        obtain ⟨t240, Tt240⟩ : ∃ t, u233.1 60 18 = t := ⟨_, rfl⟩
        have Rt240 : 0 ≤ t240 ∧ t240 ≤ 6 := by rw [← Tt240]; exact iv_at hu233 _ _ rfl
        obtain ⟨t241, Tt241⟩ : ∃ t, u233.1 60 19 = t := ⟨_, rfl⟩
        have wu233_60_3 : u233.1 60 3 = u50.1 60 3 := fk_at gu233 (by decide)
        refine g_iinc (v := i48 + 1) dX7_text_38 rfl rfl (by decide) ?_
        refine g_pick (lv' := [(0, .ref (uk_ad G 60)), (1, .int (i48 + 1))]) [0, 1] rfl ?_
        refine g_goto (tgt := 20) dX7_text_41 (by decide) ?_
        refine g_pick (lv' := [(0, .ref (uk_ad G 60)), (1, .int (i48 + 1))]) [0, 1] rfl ?_
        exact ihi49 (tx_ms u233) (tx_lt ki49 hu50 (by grind) ku2331) (tx_b hu233).2 ((i48 + 1)) u233 hu233 fu233 riu233 rfu233 rfl ⟨by have := iv_at hu50 60 15 (lo := 0) (hi := 160) rfl; grind, by have := iv_at hu50 60 15 (lo := 0) (hi := 160) rfl; grind⟩ (fun q => by have := iv_at hu50 60 15 (lo := 0) (hi := 160) rfl; have := ku2331 q; grind) (Rr_step hN (by grind) (by have := iv_at hu50 60 15 (lo := 0) (hi := 160) rfl; grind) (by grind) (by grind) B2 B3 ku2332 ku2333) (RW_s hN (by grind) (by have := iv_at hu50 60 15 (lo := 0) (hi := 160) rfl; grind) bI bJ (by grind) (by grind) B2 B3 ku2332 ku2333 ku2334) (fk_tr ji494 gu233 (by decide) (by decide))
  refine g_pick (lv' := [(0, .ref (uk_ad G 60)), (1, .int 0)]) [0, 1] rfl ?_
  exact L20_46 (tx_ms u38) (tx_b hu38).1 (tx_b hu38).2 0 u38 hu38 fu38 riu38 rfu38 rfl ⟨by decide, by decide⟩ (fun q => by have := iv_at hu38 60 15 (lo := 0) (hi := 160) rfl; grind) R0 RW0 FX2
abbrev q_X6_loss_k (u : uk_Mem) (m : Int32) (r : Option Value) (u' : uk_Mem) : Prop := (∃ x : Int32, r = some (.int x) ∧ True) ∧ (iv u' ∧ fr 41 58 u u' ∧ u'.1 50 = u.1 50 ∧ u'.1 51 = u.1 51 ∧ u'.1 53 = u.1 53 ∧ u'.1 54 = u.1 54 ∧ u'.1 55 = u.1 55 ∧ u'.1 56 = u.1 56)
set_option maxHeartbeats 4000000 in
set_option maxRecDepth 20000 in
theorem c_X6_loss_k {G : uk_D} (hs : uk_Sep G) {u : uk_Mem} (hu : iv u) (m : Int32) (d : Nat) : uk_Meth G (d + 3) mX6_loss [.ref (uk_ad G 0), .int m] u (q_X6_loss_k u m) := by
  refine uk_Meth.of hs (by decide) (Nat.le_of_ble_eq_true rfl) (fun X => ?_)
  have f0 : fr 41 58 u u := fr_rf
  have C50 : u.1 50 = u.1 50 := rfl
  have C51 : u.1 51 = u.1 51 := rfl
  have C53 : u.1 53 = u.1 53 := rfl
  have C54 : u.1 54 = u.1 54 := rfl
  have C55 : u.1 55 = u.1 55 := rfl
  have C56 : u.1 56 = u.1 56 := rfl
  refine g_aload_n dX6_loss_0 rfl ?_
  refine f_X6_10 rfl rfl dX6_loss_1 ?_
  refine g_iload_n dX6_loss_4 rfl ?_
  refine cl_X6_118 (c := 13) (As := [.int m]) rfl (c_X0_hasStuff (G := G) hs hu uk_isK13 m  (d + 2)) rfl (by omega) rfl rfl (Nat.le_of_ble_eq_true rfl) dX6_loss_5 (fun r1 u2 q3 => ?_)
  obtain ⟨⟨x4, rfl, tx4, nx4, zx4⟩, mq3⟩ := q3
  rw [mq3]
  refine g_if_ne (tgt := 13) dX6_loss_8 (by decide) (fun c5 => ?_) (fun c5 => ?_)
  · have zc5 := nx4 c5
    refine g_aload_n dX6_loss_13 rfl ?_
    refine f_X6_48 rfl rfl dX6_loss_14 ?_
    refine g_aload_n dX6_loss_17 rfl ?_
    refine f_X6_10 rfl rfl dX6_loss_18 ?_
    refine g_iload_n dX6_loss_21 rfl ?_
    refine g_bipush (v := 127) dX6_loss_22 (by decide) ?_
    refine cl_X6_177 (c := 41) (As := [.ref (uk_ad G 13), .int m, .int 127]) rfl (c_X1_grind (G := G) hs hu  m 127 (by first | trivial | decide | lia | grind) (by first | trivial | decide | lia | grind) (d)) rfl (by omega) rfl rfl (Nat.le_of_ble_eq_true rfl) dX6_loss_24 (fun r6 u7 q8 => ?_)
    obtain ⟨rfl, mq8⟩ := q8
    obtain ⟨hu7, gu7⟩ := mq8
    have fu7 : fr 41 58 u u7 := fr_tr f0 gu7 (by omega) (by omega)
    have C9 : u7.1 50 = u.1 50 := (gu7.1 50 (by omega)).trans C50
    have C10 : u7.1 51 = u.1 51 := (gu7.1 51 (by omega)).trans C51
    have C11 : u7.1 53 = u.1 53 := (gu7.1 53 (by omega)).trans C53
    have C12 : u7.1 54 = u.1 54 := (gu7.1 54 (by omega)).trans C54
    have C13 : u7.1 55 = u.1 55 := (gu7.1 55 (by omega)).trans C55
    have C14 : u7.1 56 = u.1 56 := (gu7.1 56 (by omega)).trans C56
    refine g_iconst (v := 0) dX6_loss_27 (by decide) ?_
    refine g_istore_n dX6_loss_28 (by decide) ?_
    refine g_pick (lv' := [(0, .ref (uk_ad G 0)), (1, .int m), (2, .int 0)]) [0, 1, 2] rfl ?_
    refine g_iconst (v := 0) dX6_loss_29 (by decide) ?_
    refine g_istore_n dX6_loss_30 (by decide) ?_
    refine g_pick (lv' := [(0, .ref (uk_ad G 0)), (1, .int m), (2, .int 0), (3, .int 0)]) [0, 1, 2, 3] rfl ?_
    have L31_14 : ∀ i17 : Int32, 0 ≤ i17 → i17 ≤ 128 → ∀ (w16 : Int32), uk_G G X mX6_loss (d + 3) (q_X6_loss_k u m) 31 [(0, .ref (uk_ad G 0)), (1, .int m), (2, .int w16), (3, .int i17)] [] u7 := by
      refine uk_upl 128 ?_
      intro i17 ai17 bi17 ihi17 w16
      refine g_iload_n dX6_loss_31 rfl ?_
      refine g_aload_n dX6_loss_32 rfl ?_
      refine f_X6_48 rfl rfl dX6_loss_33 ?_
      refine f_X6_184 rfl rfl dX6_loss_36 ?_
      refine g_topi (fun x18 ex18 => ?_)
      have rx18 : 0 ≤ x18 ∧ x18 ≤ 128 := by rw [ex18]; exact iv_at hu7 _ _ rfl
      have s19 : u7.1 41 1 = x18 := ex18.symm
      refine g_icmp_ge (tgt := 88) dX6_loss_39 (by decide) (fun c20 => ?_) (fun c20 => ?_)
      · refine g_aload_n dX6_loss_88 rfl ?_
        refine f_X6_10 rfl rfl dX6_loss_89 ?_
        refine g_iload_n dX6_loss_92 rfl ?_
        refine g_aload_n dX6_loss_93 rfl ?_
        refine f_X6_66 rfl rfl dX6_loss_94 ?_
        refine cl_X6_173 (c := 13) (As := [.int m, .ref (uk_ad G 57)]) rfl (c_X0_rawCost (G := G) hs hu7 uk_isK13 m (by first | trivial | decide | lia | grind) (by first | trivial | decide | lia | grind) (d)) rfl (by omega) rfl rfl (Nat.le_of_ble_eq_true rfl) dX6_loss_97 (fun r21 u22 q23 => ?_)
        obtain ⟨⟨x24, rfl, tx24⟩, mq23⟩ := q23
        obtain ⟨hu22, gu22⟩ := mq23
        have fu22 : fr 41 58 u u22 := fr_tr fu7 gu22 (by omega) (by omega)
        have C25 : u22.1 50 = u.1 50 := (gu22.1 50 (by omega)).trans C9
        have C26 : u22.1 51 = u.1 51 := (gu22.1 51 (by omega)).trans C10
        have C27 : u22.1 53 = u.1 53 := (gu22.1 53 (by omega)).trans C11
        have C28 : u22.1 54 = u.1 54 := (gu22.1 54 (by omega)).trans C12
        have C29 : u22.1 55 = u.1 55 := (gu22.1 55 (by omega)).trans C13
        have C30 : u22.1 56 = u.1 56 := (gu22.1 56 (by omega)).trans C14
        have s31 : u22.1 41 1 = x18 := (fr_at gu22 (by omega)).trans s19
        refine g_iload_n dX6_loss_100 rfl ?_
        refine g_isub dX6_loss_101 ?_
        refine g_topi (fun x32 ex32 => ?_)
        exact g_iret (ty := .int) dX6_loss_102 rfl rfl ⟨⟨_, rfl, by first | trivial | lia | grind⟩, hu22, fu22, C25, C26, C27, C28, C29, C30⟩
      · refine g_aload_n dX6_loss_42 rfl ?_
        refine f_X6_48 rfl rfl dX6_loss_43 ?_
        refine f_X6_185 rfl rfl dX6_loss_46 ?_
        refine g_iload_n dX6_loss_49 rfl ?_
        have v33 : vp_in i17 128 := uk_vin 128 rfl (by first | decide | lia | grind) (by first | decide | lia | grind)
        refine g_iald rfl rfl v33 dX6_loss_50 ?_
        refine g_topi (fun x34 ex34 => ?_)
        have bx34 := uk_cl v33
        have rx34 : 0 ≤ x34 ∧ x34 ≤ 7 := by rw [ex34]; exact iv_at hu7 _ _ (uk_pick1 _ (by omega))
        refine g_istore dX6_loss_51 (by decide) ?_
        refine g_pick (lv' := [(0, .ref (uk_ad G 0)), (1, .int m), (2, .int w16), (3, .int i17), (4, .int x34)]) [0, 1, 2, 3, 4] rfl ?_
        refine g_iload_n dX6_loss_53 rfl ?_
        refine g_aload_n dX6_loss_54 rfl ?_
        refine f_X6_10 rfl rfl dX6_loss_55 ?_
        refine g_iload dX6_loss_58 rfl ?_
        refine cl_X6_122 (c := 13) (As := [.int x34]) rfl (c_X0_isMade (G := G) hs hu7 uk_isK13 x34 (by first | trivial | decide | lia | grind) (by first | trivial | decide | lia | grind) (d + 2)) rfl (by omega) rfl rfl (Nat.le_of_ble_eq_true rfl) dX6_loss_60 (fun r35 u36 q37 => ?_)
        obtain ⟨⟨x38, rfl, tx38, nx38, zx38⟩, mq37⟩ := q37
        rw [mq37]
        refine g_if_eq (tgt := 70) dX6_loss_63 (by decide) (fun c39 => ?_) (fun c39 => ?_)
        · have zc39 := zx38 c39
          refine g_aload_n dX6_loss_70 rfl ?_
          refine f_X6_10 rfl rfl dX6_loss_71 ?_
          refine f_X6_137 rfl rfl dX6_loss_74 ?_
          refine g_iload dX6_loss_77 rfl ?_
          have v40 : vp_in x34 8 := uk_vin 8 rfl (by first | decide | lia | grind) (by first | decide | lia | grind)
          refine g_iald rfl rfl v40 dX6_loss_79 ?_
          refine g_topi (fun x41 ex41 => ?_)
          refine g_iadd dX6_loss_80 ?_
          refine g_topi (fun x42 ex42 => ?_)
          refine g_istore_n dX6_loss_81 (by decide) ?_
          refine g_pick (lv' := [(0, .ref (uk_ad G 0)), (1, .int m), (2, .int x42), (3, .int i17), (4, .int x34)]) [0, 1, 2, 3, 4] rfl ?_
          refine g_iinc (v := i17 + 1) dX6_loss_82 rfl rfl (by decide) ?_
          refine g_pick (lv' := [(0, .ref (uk_ad G 0)), (1, .int m), (2, .int x42), (3, .int (i17 + 1)), (4, .int x34)]) [0, 1, 2, 3, 4] rfl ?_
          refine g_goto (tgt := 31) dX6_loss_85 (by decide) ?_
          refine g_pick (lv' := [(0, .ref (uk_ad G 0)), (1, .int m), (2, .int x42), (3, .int (i17 + 1))]) [0, 1, 2, 3] rfl ?_
          exact ihi17 (by first | lia | grind) x42 
        · have zc39 := nx38 c39
          refine g_iconst (v := 0) dX6_loss_66 (by decide) ?_
          refine g_goto (tgt := 80) dX6_loss_67 (by decide) ?_
          refine g_iadd dX6_loss_80 ?_
          refine g_topi (fun x43 ex43 => ?_)
          refine g_istore_n dX6_loss_81 (by decide) ?_
          refine g_pick (lv' := [(0, .ref (uk_ad G 0)), (1, .int m), (2, .int x43), (3, .int i17), (4, .int x34)]) [0, 1, 2, 3, 4] rfl ?_
          refine g_iinc (v := i17 + 1) dX6_loss_82 rfl rfl (by decide) ?_
          refine g_pick (lv' := [(0, .ref (uk_ad G 0)), (1, .int m), (2, .int x43), (3, .int (i17 + 1)), (4, .int x34)]) [0, 1, 2, 3, 4] rfl ?_
          refine g_goto (tgt := 31) dX6_loss_85 (by decide) ?_
          refine g_pick (lv' := [(0, .ref (uk_ad G 0)), (1, .int m), (2, .int x43), (3, .int (i17 + 1))]) [0, 1, 2, 3] rfl ?_
          exact ihi17 (by first | lia | grind) x43 
    refine g_pick (lv' := [(0, .ref (uk_ad G 0)), (1, .int m), (2, .int 0), (3, .int 0)]) [0, 1, 2, 3] rfl ?_
    exact L31_14 0 (by first | decide | lia | grind) (by first | decide | lia | grind) 0 
  · have zc5 := zx4 c5
    refine g_iconst (v := (-1)) dX6_loss_11 (by decide) ?_
    exact g_iret (ty := .int) dX6_loss_12 rfl rfl ⟨⟨_, rfl, by first | trivial | lia | grind⟩, hu, f0, C50, C51, C53, C54, C55, C56⟩
abbrev q_X6_fitTogether_k (u : uk_Mem) (a : Int32) (b : Int32) (r : Option Value) (u' : uk_Mem) : Prop := (∃ x : Int32, r = some (.int x) ∧ (x = 0 ∨ x = 1) ∧ (¬ x = 0 → True) ∧ (x = 0 → True)) ∧ (iv u' ∧ fr 41 59 u u' ∧ u'.1 50 = u.1 50 ∧ u'.1 51 = u.1 51 ∧ u'.1 53 = u.1 53 ∧ u'.1 54 = u.1 54 ∧ u'.1 55 = u.1 55 ∧ u'.1 56 = u.1 56)
set_option maxHeartbeats 4000000 in
set_option maxRecDepth 20000 in
theorem c_X6_fitTogether_k {G : uk_D} (hs : uk_Sep G) {u : uk_Mem} (hu : iv u) (a : Int32) (b : Int32) (p0 : 0 ≤ a) (p1 : a ≤ 7) (p2 : 0 ≤ b) (p3 : b ≤ 7) (d : Nat) : uk_Meth G (d + 3) mX6_fitTogether [.ref (uk_ad G 0), .int a, .int b] u (q_X6_fitTogether_k u a b) := by
  refine uk_Meth.of hs (by decide) (Nat.le_of_ble_eq_true rfl) (fun X => ?_)
  have f0 : fr 41 59 u u := fr_rf
  have C50 : u.1 50 = u.1 50 := rfl
  have C51 : u.1 51 = u.1 51 := rfl
  have C53 : u.1 53 = u.1 53 := rfl
  have C54 : u.1 54 = u.1 54 := rfl
  have C55 : u.1 55 = u.1 55 := rfl
  have C56 : u.1 56 = u.1 56 := rfl
  refine g_iconst (v := 0) dX6_fitTogether_0 (by decide) ?_
  refine g_istore_n dX6_fitTogether_1 (by decide) ?_
  refine g_pick (lv' := [(0, .ref (uk_ad G 0)), (1, .int a), (2, .int b), (3, .int 0)]) [0, 1, 2, 3] rfl ?_
  have L2_0 : ∀ i2 : Int32, 0 ≤ i2 → i2 ≤ 8 → ∀ (u3 : uk_Mem), iv u3 → fr 41 59 u u3 → u3.1 50 = u.1 50 → u3.1 51 = u.1 51 → u3.1 53 = u.1 53 → u3.1 54 = u.1 54 → u3.1 55 = u.1 55 → u3.1 56 = u.1 56 → uk_G G X mX6_fitTogether (d + 3) (q_X6_fitTogether_k u a b) 2 [(0, .ref (uk_ad G 0)), (1, .int a), (2, .int b), (3, .int i2)] [] u3 := by
    refine uk_upl 8 ?_
    intro i2 ai2 bi2 ihi2  u3 hu3 fu3 ji20 ji21 ji22 ji23 ji24 ji25
    have C50_u3 : u3.1 50 = u3.1 50 := rfl
    have C51_u3 : u3.1 51 = u3.1 51 := rfl
    have C53_u3 : u3.1 53 = u3.1 53 := rfl
    have C54_u3 : u3.1 54 = u3.1 54 := rfl
    have C55_u3 : u3.1 55 = u3.1 55 := rfl
    have C56_u3 : u3.1 56 = u3.1 56 := rfl
    refine g_iload_n dX6_fitTogether_2 rfl ?_
    refine g_bipush (v := 8) dX6_fitTogether_3 (by decide) ?_
    refine g_icmp_ge (tgt := 21) dX6_fitTogether_5 (by decide) (fun c4 => ?_) (fun c4 => ?_)
    · refine g_iconst (v := 0) dX6_fitTogether_21 (by decide) ?_
      refine g_istore_n dX6_fitTogether_22 (by decide) ?_
      refine g_pick (lv' := [(0, .ref (uk_ad G 0)), (1, .int a), (2, .int b), (3, .int 0)]) [0, 1, 2, 3] rfl ?_
      have L23_4 : ∀ i6 : Int32, 0 ≤ i6 → i6 ≤ 8 → ∀ (u7 : uk_Mem), iv u7 → fr 41 59 u u7 → u7.1 50 = u.1 50 → u7.1 51 = u.1 51 → u7.1 53 = u.1 53 → u7.1 54 = u.1 54 → u7.1 55 = u.1 55 → u7.1 56 = u.1 56 → uk_G G X mX6_fitTogether (d + 3) (q_X6_fitTogether_k u a b) 23 [(0, .ref (uk_ad G 0)), (1, .int a), (2, .int b), (3, .int i6)] [] u7 := by
        refine uk_upl 8 ?_
        intro i6 ai6 bi6 ihi6  u7 hu7 fu7 ji60 ji61 ji62 ji63 ji64 ji65
        have C50_u7 : u7.1 50 = u7.1 50 := rfl
        have C51_u7 : u7.1 51 = u7.1 51 := rfl
        have C53_u7 : u7.1 53 = u7.1 53 := rfl
        have C54_u7 : u7.1 54 = u7.1 54 := rfl
        have C55_u7 : u7.1 55 = u7.1 55 := rfl
        have C56_u7 : u7.1 56 = u7.1 56 := rfl
        refine g_iload_n dX6_fitTogether_23 rfl ?_
        refine g_aload_n dX6_fitTogether_24 rfl ?_
        refine f_X6_10 rfl rfl dX6_fitTogether_25 ?_
        refine f_X6_223 rfl rfl dX6_fitTogether_28 ?_
        refine g_topi (fun x8 ex8 => ?_)
        have rx8 : 0 ≤ x8 ∧ x8 ≤ 8 := by rw [ex8]; exact iv_at hu7 _ _ rfl
        have s9 : u7.1 13 9 = x8 := ex8.symm
        refine g_icmp_ge (tgt := 58) dX6_fitTogether_31 (by decide) (fun c10 => ?_) (fun c10 => ?_)
        · refine g_aload_n dX6_fitTogether_58 rfl ?_
          refine f_X6_48 rfl rfl dX6_fitTogether_59 ?_
          refine g_aload_n dX6_fitTogether_62 rfl ?_
          refine f_X6_10 rfl rfl dX6_fitTogether_63 ?_
          refine g_iload_n dX6_fitTogether_66 rfl ?_
          refine g_bipush (v := 127) dX6_fitTogether_67 (by decide) ?_
          refine cl_X6_177 (c := 41) (As := [.ref (uk_ad G 13), .int a, .int 127]) rfl (c_X1_grind (G := G) hs hu7  a 127 (by first | trivial | decide | lia | grind) (by first | trivial | decide | lia | grind) (d)) rfl (by omega) rfl rfl (Nat.le_of_ble_eq_true rfl) dX6_fitTogether_69 (fun r11 u12 q13 => ?_)
          obtain ⟨rfl, mq13⟩ := q13
          obtain ⟨hu12, gu12⟩ := mq13
          have fu12 : fr 41 59 u u12 := fr_tr fu7 gu12 (by omega) (by omega)
          have C14 : u12.1 50 = u7.1 50 := (gu12.1 50 (by omega)).trans C50_u7
          have C15 : u12.1 51 = u7.1 51 := (gu12.1 51 (by omega)).trans C51_u7
          have C16 : u12.1 53 = u7.1 53 := (gu12.1 53 (by omega)).trans C53_u7
          have C17 : u12.1 54 = u7.1 54 := (gu12.1 54 (by omega)).trans C54_u7
          have C18 : u12.1 55 = u7.1 55 := (gu12.1 55 (by omega)).trans C55_u7
          have C19 : u12.1 56 = u7.1 56 := (gu12.1 56 (by omega)).trans C56_u7
          have s20 : u12.1 13 9 = x8 := (fr_at gu12 (by omega)).trans s9
          refine g_aload_n dX6_fitTogether_72 rfl ?_
          refine f_X6_48 rfl rfl dX6_fitTogether_73 ?_
          refine g_aload_n dX6_fitTogether_76 rfl ?_
          refine f_X6_70 rfl rfl dX6_fitTogether_77 ?_
          refine cl_X6_290 (c := 41) (As := [.ref (uk_ad G 58)]) rfl (c_X1_takeFrom (G := G) hs hu12    (d + 2)) rfl (by omega) rfl rfl (Nat.le_of_ble_eq_true rfl) dX6_fitTogether_80 (fun r21 u22 q23 => ?_)
          obtain ⟨rfl, mq23⟩ := q23
          obtain ⟨hu22, gu22⟩ := mq23
          have fu22 : fr 41 59 u u22 := fr_tr fu12 gu22 (by omega) (by omega)
          have C24 : u22.1 50 = u7.1 50 := (gu22.1 50 (by omega)).trans C14
          have C25 : u22.1 51 = u7.1 51 := (gu22.1 51 (by omega)).trans C15
          have C26 : u22.1 53 = u7.1 53 := (gu22.1 53 (by omega)).trans C16
          have C27 : u22.1 54 = u7.1 54 := (gu22.1 54 (by omega)).trans C17
          have C28 : u22.1 55 = u7.1 55 := (gu22.1 55 (by omega)).trans C18
          have C29 : u22.1 56 = u7.1 56 := (gu22.1 56 (by omega)).trans C19
          have s30 : u22.1 13 9 = x8 := (fr_at gu22 (by omega)).trans s20
          refine g_aload_n dX6_fitTogether_83 rfl ?_
          refine f_X6_48 rfl rfl dX6_fitTogether_84 ?_
          refine g_aload_n dX6_fitTogether_87 rfl ?_
          refine f_X6_10 rfl rfl dX6_fitTogether_88 ?_
          refine g_iload_n dX6_fitTogether_91 rfl ?_
          refine g_bipush (v := 127) dX6_fitTogether_92 (by decide) ?_
          refine cl_X6_177 (c := 41) (As := [.ref (uk_ad G 13), .int b, .int 127]) rfl (c_X1_grind (G := G) hs hu22  b 127 (by first | trivial | decide | lia | grind) (by first | trivial | decide | lia | grind) (d)) rfl (by omega) rfl rfl (Nat.le_of_ble_eq_true rfl) dX6_fitTogether_94 (fun r31 u32 q33 => ?_)
          obtain ⟨rfl, mq33⟩ := q33
          obtain ⟨hu32, gu32⟩ := mq33
          have fu32 : fr 41 59 u u32 := fr_tr fu22 gu32 (by omega) (by omega)
          have C34 : u32.1 50 = u7.1 50 := (gu32.1 50 (by omega)).trans C24
          have C35 : u32.1 51 = u7.1 51 := (gu32.1 51 (by omega)).trans C25
          have C36 : u32.1 53 = u7.1 53 := (gu32.1 53 (by omega)).trans C26
          have C37 : u32.1 54 = u7.1 54 := (gu32.1 54 (by omega)).trans C27
          have C38 : u32.1 55 = u7.1 55 := (gu32.1 55 (by omega)).trans C28
          have C39 : u32.1 56 = u7.1 56 := (gu32.1 56 (by omega)).trans C29
          have s40 : u32.1 13 9 = x8 := (fr_at gu32 (by omega)).trans s30
          refine g_aload_n dX6_fitTogether_97 rfl ?_
          refine f_X6_48 rfl rfl dX6_fitTogether_98 ?_
          refine g_aload_n dX6_fitTogether_101 rfl ?_
          refine f_X6_70 rfl rfl dX6_fitTogether_102 ?_
          refine cl_X6_290 (c := 41) (As := [.ref (uk_ad G 58)]) rfl (c_X1_takeFrom (G := G) hs hu32    (d + 2)) rfl (by omega) rfl rfl (Nat.le_of_ble_eq_true rfl) dX6_fitTogether_105 (fun r41 u42 q43 => ?_)
          obtain ⟨rfl, mq43⟩ := q43
          obtain ⟨hu42, gu42⟩ := mq43
          have fu42 : fr 41 59 u u42 := fr_tr fu32 gu42 (by omega) (by omega)
          have C44 : u42.1 50 = u7.1 50 := (gu42.1 50 (by omega)).trans C34
          have C45 : u42.1 51 = u7.1 51 := (gu42.1 51 (by omega)).trans C35
          have C46 : u42.1 53 = u7.1 53 := (gu42.1 53 (by omega)).trans C36
          have C47 : u42.1 54 = u7.1 54 := (gu42.1 54 (by omega)).trans C37
          have C48 : u42.1 55 = u7.1 55 := (gu42.1 55 (by omega)).trans C38
          have C49 : u42.1 56 = u7.1 56 := (gu42.1 56 (by omega)).trans C39
          have s50 : u42.1 13 9 = x8 := (fr_at gu42 (by omega)).trans s40
          refine g_iconst (v := 0) dX6_fitTogether_108 (by decide) ?_
          refine g_istore_n dX6_fitTogether_109 (by decide) ?_
          refine g_pick (lv' := [(0, .ref (uk_ad G 0)), (1, .int a), (2, .int b), (3, .int 0)]) [0, 1, 2, 3] rfl ?_
          have L110_50 : ∀ i52 : Int32, 0 ≤ i52 → i52 ≤ 8 → uk_G G X mX6_fitTogether (d + 3) (q_X6_fitTogether_k u a b) 110 [(0, .ref (uk_ad G 0)), (1, .int a), (2, .int b), (3, .int i52)] [] u42 := by
            refine uk_upl 8 ?_
            intro i52 ai52 bi52 ihi52 
            refine g_iload_n dX6_fitTogether_110 rfl ?_
            refine g_bipush (v := 8) dX6_fitTogether_111 (by decide) ?_
            refine g_icmp_ge (tgt := 133) dX6_fitTogether_113 (by decide) (fun c53 => ?_) (fun c53 => ?_)
            · refine g_iconst (v := 1) dX6_fitTogether_133 (by decide) ?_
              exact g_iret (ty := .boolean) dX6_fitTogether_134 rfl rfl ⟨⟨1, rfl, Or.inr rfl, fun _ => by first | trivial | lia | grind, fun q => absurd q (by decide)⟩, hu42, fu42, (C44.trans ji60), (C45.trans ji61), (C46.trans ji62), (C47.trans ji63), (C48.trans ji64), (C49.trans ji65)⟩
            · refine g_aload_n dX6_fitTogether_116 rfl ?_
              refine f_X6_70 rfl rfl dX6_fitTogether_117 ?_
              refine g_iload_n dX6_fitTogether_120 rfl ?_
              have v54 : vp_in i52 8 := uk_vin 8 rfl (by first | decide | lia | grind) (by first | decide | lia | grind)
              refine g_iald rfl rfl v54 dX6_fitTogether_121 ?_
              refine g_topi (fun x55 ex55 => ?_)
              refine g_if_eq (tgt := 127) dX6_fitTogether_122 (by decide) (fun c56 => ?_) (fun c56 => ?_)
              · refine g_iinc (v := i52 + 1) dX6_fitTogether_127 rfl rfl (by decide) ?_
                refine g_pick (lv' := [(0, .ref (uk_ad G 0)), (1, .int a), (2, .int b), (3, .int (i52 + 1))]) [0, 1, 2, 3] rfl ?_
                refine g_goto (tgt := 110) dX6_fitTogether_130 (by decide) ?_
                refine g_pick (lv' := [(0, .ref (uk_ad G 0)), (1, .int a), (2, .int b), (3, .int (i52 + 1))]) [0, 1, 2, 3] rfl ?_
                exact ihi52 (by first | lia | grind)  
              · refine g_iconst (v := 0) dX6_fitTogether_125 (by decide) ?_
                exact g_iret (ty := .boolean) dX6_fitTogether_126 rfl rfl ⟨⟨0, rfl, Or.inl rfl, fun q => absurd rfl q, fun _ => by first | trivial | lia | grind⟩, hu42, fu42, (C44.trans ji60), (C45.trans ji61), (C46.trans ji62), (C47.trans ji63), (C48.trans ji64), (C49.trans ji65)⟩
          refine g_pick (lv' := [(0, .ref (uk_ad G 0)), (1, .int a), (2, .int b), (3, .int 0)]) [0, 1, 2, 3] rfl ?_
          exact L110_50 0 (by first | decide | lia | grind) (by first | decide | lia | grind)  
        · refine g_aload_n dX6_fitTogether_34 rfl ?_
          refine f_X6_70 rfl rfl dX6_fitTogether_35 ?_
          refine g_aload_n dX6_fitTogether_38 rfl ?_
          refine f_X6_10 rfl rfl dX6_fitTogether_39 ?_
          refine f_X6_226 rfl rfl dX6_fitTogether_42 ?_
          refine g_iload_n dX6_fitTogether_45 rfl ?_
          have v57 : vp_in i6 8 := uk_vin 8 rfl (by first | decide | lia | grind) (by first | decide | lia | grind)
          refine g_iald rfl rfl v57 dX6_fitTogether_46 ?_
          refine g_topi (fun x58 ex58 => ?_)
          have bx58 := uk_cl v57
          have rx58 : 0 ≤ x58 ∧ x58 ≤ 7 := by rw [ex58]; exact iv_at hu7 _ _ (uk_pick1 _ (by omega))
          refine g_dup2 dX6_fitTogether_47 rfl rfl ?_
          have v59 : vp_in x58 8 := uk_vin 8 rfl (by first | decide | lia | grind) (by first | decide | lia | grind)
          refine g_iald rfl rfl v59 dX6_fitTogether_48 ?_
          refine g_topi (fun x60 ex60 => ?_)
          refine g_iconst (v := 1) dX6_fitTogether_49 (by decide) ?_
          refine g_iadd dX6_fitTogether_50 ?_
          refine g_topi (fun x61 ex61 => ?_)
          have v62 : vp_in x58 8 := uk_vin 8 rfl (by first | decide | lia | grind) (by first | decide | lia | grind)
          have b63 := uk_cl v62
          refine g_iast rfl rfl v62 dX6_fitTogether_51 ?_
          refine g_mem (fun u64 eu64 => ?_)
          have hu64 : iv u64 := by rw [eu64]; exact iv_upF hu7 (uk_pick1 _ (by omega))
          have fu64 : fr 41 59 u u64 := by rw [eu64]; exact fr_up fu7 (by omega) (by omega)
          have C65 : u64.1 50 = u7.1 50 := by rw [eu64]; exact (uk_up_oc (by decide)).trans C50_u7
          have C66 : u64.1 51 = u7.1 51 := by rw [eu64]; exact (uk_up_oc (by decide)).trans C51_u7
          have C67 : u64.1 53 = u7.1 53 := by rw [eu64]; exact (uk_up_oc (by decide)).trans C53_u7
          have C68 : u64.1 54 = u7.1 54 := by rw [eu64]; exact (uk_up_oc (by decide)).trans C54_u7
          have C69 : u64.1 55 = u7.1 55 := by rw [eu64]; exact (uk_up_oc (by decide)).trans C55_u7
          have C70 : u64.1 56 = u7.1 56 := by rw [eu64]; exact (uk_up_oc (by decide)).trans C56_u7
          refine g_iinc (v := i6 + 1) dX6_fitTogether_52 rfl rfl (by decide) ?_
          refine g_pick (lv' := [(0, .ref (uk_ad G 0)), (1, .int a), (2, .int b), (3, .int (i6 + 1))]) [0, 1, 2, 3] rfl ?_
          refine g_goto (tgt := 23) dX6_fitTogether_55 (by decide) ?_
          refine g_pick (lv' := [(0, .ref (uk_ad G 0)), (1, .int a), (2, .int b), (3, .int (i6 + 1))]) [0, 1, 2, 3] rfl ?_
          exact ihi6 (by first | lia | grind)  u64 hu64 fu64 (C65.trans ji60) (C66.trans ji61) (C67.trans ji62) (C68.trans ji63) (C69.trans ji64) (C70.trans ji65)
      refine g_pick (lv' := [(0, .ref (uk_ad G 0)), (1, .int a), (2, .int b), (3, .int 0)]) [0, 1, 2, 3] rfl ?_
      exact L23_4 0 (by first | decide | lia | grind) (by first | decide | lia | grind)  u3 hu3 fu3 (C50_u3.trans ji20) (C51_u3.trans ji21) (C53_u3.trans ji22) (C54_u3.trans ji23) (C55_u3.trans ji24) (C56_u3.trans ji25)
    · refine g_aload_n dX6_fitTogether_8 rfl ?_
      refine f_X6_70 rfl rfl dX6_fitTogether_9 ?_
      refine g_iload_n dX6_fitTogether_12 rfl ?_
      refine g_iconst (v := 0) dX6_fitTogether_13 (by decide) ?_
      have v71 : vp_in i2 8 := uk_vin 8 rfl (by first | decide | lia | grind) (by first | decide | lia | grind)
      have b72 := uk_cl v71
      refine g_iast rfl rfl v71 dX6_fitTogether_14 ?_
      refine g_mem (fun u73 eu73 => ?_)
      have hu73 : iv u73 := by rw [eu73]; exact iv_upF hu3 (uk_pick1 _ (by omega))
      have fu73 : fr 41 59 u u73 := by rw [eu73]; exact fr_up fu3 (by omega) (by omega)
      have C74 : u73.1 50 = u3.1 50 := by rw [eu73]; exact (uk_up_oc (by decide)).trans C50_u3
      have C75 : u73.1 51 = u3.1 51 := by rw [eu73]; exact (uk_up_oc (by decide)).trans C51_u3
      have C76 : u73.1 53 = u3.1 53 := by rw [eu73]; exact (uk_up_oc (by decide)).trans C53_u3
      have C77 : u73.1 54 = u3.1 54 := by rw [eu73]; exact (uk_up_oc (by decide)).trans C54_u3
      have C78 : u73.1 55 = u3.1 55 := by rw [eu73]; exact (uk_up_oc (by decide)).trans C55_u3
      have C79 : u73.1 56 = u3.1 56 := by rw [eu73]; exact (uk_up_oc (by decide)).trans C56_u3
      refine g_iinc (v := i2 + 1) dX6_fitTogether_15 rfl rfl (by decide) ?_
      refine g_pick (lv' := [(0, .ref (uk_ad G 0)), (1, .int a), (2, .int b), (3, .int (i2 + 1))]) [0, 1, 2, 3] rfl ?_
      refine g_goto (tgt := 2) dX6_fitTogether_18 (by decide) ?_
      refine g_pick (lv' := [(0, .ref (uk_ad G 0)), (1, .int a), (2, .int b), (3, .int (i2 + 1))]) [0, 1, 2, 3] rfl ?_
      exact ihi2 (by first | lia | grind)  u73 hu73 fu73 (C74.trans ji20) (C75.trans ji21) (C76.trans ji22) (C77.trans ji23) (C78.trans ji24) (C79.trans ji25)
  refine g_pick (lv' := [(0, .ref (uk_ad G 0)), (1, .int a), (2, .int b), (3, .int 0)]) [0, 1, 2, 3] rfl ?_
  exact L2_0 0 (by first | decide | lia | grind) (by first | decide | lia | grind)  u hu f0 C50 C51 C53 C54 C55 C56
abbrev q_X6_pairs_k (u : uk_Mem) (w : Int32) (r : Option Value) (u' : uk_Mem) : Prop := (∃ x : Int32, r = some (.int x) ∧ True) ∧ (iv u' ∧ fr 41 59 u u' ∧ u'.1 50 = u.1 50 ∧ u'.1 51 = u.1 51 ∧ u'.1 53 = u.1 53 ∧ u'.1 54 = u.1 54 ∧ u'.1 55 = u.1 55 ∧ u'.1 56 = u.1 56)
set_option maxHeartbeats 4000000 in
set_option maxRecDepth 20000 in
theorem c_X6_pairs_k {G : uk_D} (hs : uk_Sep G) {u : uk_Mem} (hu : iv u) (w : Int32) (d : Nat) : uk_Meth G (d + 4) mX6_pairs [.ref (uk_ad G 0), .int w] u (q_X6_pairs_k u w) := by
  refine uk_Meth.of hs (by decide) (Nat.le_of_ble_eq_true rfl) (fun X => ?_)
  have f0 : fr 41 59 u u := fr_rf
  have C50 : u.1 50 = u.1 50 := rfl
  have C51 : u.1 51 = u.1 51 := rfl
  have C53 : u.1 53 = u.1 53 := rfl
  have C54 : u.1 54 = u.1 54 := rfl
  have C55 : u.1 55 = u.1 55 := rfl
  have C56 : u.1 56 = u.1 56 := rfl
  refine g_iload_n dX6_pairs_0 rfl ?_
  refine cl_X6_162 (As := [.int w]) rfl (c_X6_isFlag (G := G) hs hu  w  (d + 3)) rfl (by omega) rfl (Nat.le_of_ble_eq_true rfl) dX6_pairs_1 (fun r1 u2 q3 => ?_)
  obtain ⟨⟨x4, rfl, tx4, nx4, zx4⟩, mq3⟩ := q3
  rw [mq3]
  refine g_if_ne (tgt := 9) dX6_pairs_4 (by decide) (fun c5 => ?_) (fun c5 => ?_)
  · have zc5 := nx4 c5
    refine g_iconst (v := 0) dX6_pairs_9 (by decide) ?_
    refine g_istore_n dX6_pairs_10 (by decide) ?_
    refine g_pick (lv' := [(0, .ref (uk_ad G 0)), (1, .int w), (2, .int 0)]) [0, 1, 2] rfl ?_
    refine g_bipush (v := (-4)) dX6_pairs_11 (by decide) ?_
    refine g_istore_n dX6_pairs_13 (by decide) ?_
    refine g_pick (lv' := [(0, .ref (uk_ad G 0)), (1, .int w), (2, .int 0), (3, .int (-4))]) [0, 1, 2, 3] rfl ?_
    refine g_iconst (v := 0) dX6_pairs_14 (by decide) ?_
    refine g_istore dX6_pairs_15 (by decide) ?_
    refine g_pick (lv' := [(0, .ref (uk_ad G 0)), (1, .int w), (2, .int 0), (3, .int (-4)), (4, .int 0)]) [0, 1, 2, 3, 4] rfl ?_
    have L17_5 : ∀ i9 : Int32, 0 ≤ i9 → i9 ≤ 8 → ∀ (w7 : Int32) (w8 : Int32) (u10 : uk_Mem), iv u10 → fr 41 59 u u10 → u10.1 50 = u.1 50 → u10.1 51 = u.1 51 → u10.1 53 = u.1 53 → u10.1 54 = u.1 54 → u10.1 55 = u.1 55 → u10.1 56 = u.1 56 → uk_G G X mX6_pairs (d + 4) (q_X6_pairs_k u w) 17 [(0, .ref (uk_ad G 0)), (1, .int w), (2, .int w7), (3, .int w8), (4, .int i9)] [] u10 := by
      refine uk_upl 8 ?_
      intro i9 ai9 bi9 ihi9 w7 w8 u10 hu10 fu10 ji90 ji91 ji92 ji93 ji94 ji95
      have C50_u10 : u10.1 50 = u10.1 50 := rfl
      have C51_u10 : u10.1 51 = u10.1 51 := rfl
      have C53_u10 : u10.1 53 = u10.1 53 := rfl
      have C54_u10 : u10.1 54 = u10.1 54 := rfl
      have C55_u10 : u10.1 55 = u10.1 55 := rfl
      have C56_u10 : u10.1 56 = u10.1 56 := rfl
      refine g_iload dX6_pairs_17 rfl ?_
      refine g_aload_n dX6_pairs_19 rfl ?_
      refine f_X6_10 rfl rfl dX6_pairs_20 ?_
      refine f_X6_105 rfl rfl dX6_pairs_23 ?_
      refine g_topi (fun x11 ex11 => ?_)
      have rx11 : 0 ≤ x11 ∧ x11 ≤ 8 := by rw [ex11]; exact iv_at hu10 _ _ rfl
      have s12 : u10.1 13 0 = x11 := ex11.symm
      refine g_icmp_ge (tgt := 88) dX6_pairs_26 (by decide) (fun c13 => ?_) (fun c13 => ?_)
      · refine g_iload_n dX6_pairs_88 rfl ?_
        refine g_if_ne (tgt := 96) dX6_pairs_89 (by decide) (fun c14 => ?_) (fun c14 => ?_)
        · refine g_iload_n dX6_pairs_96 rfl ?_
          exact g_iret (ty := .int) dX6_pairs_97 rfl rfl ⟨⟨_, rfl, by first | trivial | lia | grind⟩, hu10, fu10, (C50_u10.trans ji90), (C51_u10.trans ji91), (C53_u10.trans ji92), (C54_u10.trans ji93), (C55_u10.trans ji94), (C56_u10.trans ji95)⟩
        · refine g_iload_n dX6_pairs_92 rfl ?_
          refine g_goto (tgt := 97) dX6_pairs_93 (by decide) ?_
          exact g_iret (ty := .int) dX6_pairs_97 rfl rfl ⟨⟨_, rfl, by first | trivial | lia | grind⟩, hu10, fu10, (C50_u10.trans ji90), (C51_u10.trans ji91), (C53_u10.trans ji92), (C54_u10.trans ji93), (C55_u10.trans ji94), (C56_u10.trans ji95)⟩
      · refine g_iload dX6_pairs_29 rfl ?_
        refine g_istore dX6_pairs_31 (by decide) ?_
        refine g_pick (lv' := [(0, .ref (uk_ad G 0)), (1, .int w), (2, .int w7), (3, .int w8), (4, .int i9), (5, .int i9)]) [0, 1, 2, 3, 4, 5] rfl ?_
        have L33_14 : ∀ i18 : Int32, 0 ≤ i18 → i18 ≤ 8 → ∀ (w16 : Int32) (w17 : Int32) (u19 : uk_Mem), iv u19 → fr 41 59 u u19 → u19.1 50 = u.1 50 → u19.1 51 = u.1 51 → u19.1 53 = u.1 53 → u19.1 54 = u.1 54 → u19.1 55 = u.1 55 → u19.1 56 = u.1 56 → uk_G G X mX6_pairs (d + 4) (q_X6_pairs_k u w) 33 [(0, .ref (uk_ad G 0)), (1, .int w), (2, .int w16), (3, .int w17), (4, .int i9), (5, .int i18)] [] u19 := by
          refine uk_upl 8 ?_
          intro i18 ai18 bi18 ihi18 w16 w17 u19 hu19 fu19 ji180 ji181 ji182 ji183 ji184 ji185
          have C50_u19 : u19.1 50 = u19.1 50 := rfl
          have C51_u19 : u19.1 51 = u19.1 51 := rfl
          have C53_u19 : u19.1 53 = u19.1 53 := rfl
          have C54_u19 : u19.1 54 = u19.1 54 := rfl
          have C55_u19 : u19.1 55 = u19.1 55 := rfl
          have C56_u19 : u19.1 56 = u19.1 56 := rfl
          refine g_iload dX6_pairs_33 rfl ?_
          refine g_aload_n dX6_pairs_35 rfl ?_
          refine f_X6_10 rfl rfl dX6_pairs_36 ?_
          refine f_X6_105 rfl rfl dX6_pairs_39 ?_
          refine g_topi (fun x20 ex20 => ?_)
          have rx20 : 0 ≤ x20 ∧ x20 ≤ 8 := by rw [ex20]; exact iv_at hu19 _ _ rfl
          have s21 : u19.1 13 0 = x20 := ex20.symm
          refine g_icmp_ge (tgt := 82) dX6_pairs_42 (by decide) (fun c22 => ?_) (fun c22 => ?_)
          · refine g_iinc (v := i9 + 1) dX6_pairs_82 rfl rfl (by decide) ?_
            refine g_pick (lv' := [(0, .ref (uk_ad G 0)), (1, .int w), (2, .int w16), (3, .int w17), (4, .int (i9 + 1)), (5, .int i18)]) [0, 1, 2, 3, 4, 5] rfl ?_
            refine g_goto (tgt := 17) dX6_pairs_85 (by decide) ?_
            refine g_pick (lv' := [(0, .ref (uk_ad G 0)), (1, .int w), (2, .int w16), (3, .int w17), (4, .int (i9 + 1))]) [0, 1, 2, 3, 4] rfl ?_
            exact ihi9 (by first | lia | grind) w16 w17 u19 hu19 fu19 (C50_u19.trans ji180) (C51_u19.trans ji181) (C53_u19.trans ji182) (C54_u19.trans ji183) (C55_u19.trans ji184) (C56_u19.trans ji185)
          · refine g_aload_n dX6_pairs_45 rfl ?_
            refine g_iload dX6_pairs_46 rfl ?_
            refine g_iload dX6_pairs_48 rfl ?_
            refine cl_X6_233 (c := 0) (As := [.int i9, .int i18]) rfl (c_X6_fitTogether_k (G := G) hs hu19  i9 i18 (by first | trivial | decide | lia | grind) (by first | trivial | decide | lia | grind) (by first | trivial | decide | lia | grind) (by first | trivial | decide | lia | grind) (d)) rfl (by omega) rfl rfl (Nat.le_of_ble_eq_true rfl) dX6_pairs_50 (fun r23 u24 q25 => ?_)
            obtain ⟨⟨x26, rfl, tx26, nx26, zx26⟩, mq25⟩ := q25
            obtain ⟨hu24, gu24, ku240, ku241, ku242, ku243, ku244, ku245⟩ := mq25
            have fu24 : fr 41 59 u u24 := fr_tr fu19 gu24 (by omega) (by omega)
            have C27 : u24.1 50 = u19.1 50 := ku240.trans C50_u19
            have C28 : u24.1 51 = u19.1 51 := ku241.trans C51_u19
            have C29 : u24.1 53 = u19.1 53 := ku242.trans C53_u19
            have C30 : u24.1 54 = u19.1 54 := ku243.trans C54_u19
            have C31 : u24.1 55 = u19.1 55 := ku244.trans C55_u19
            have C32 : u24.1 56 = u19.1 56 := ku245.trans C56_u19
            have s33 : u24.1 13 0 = x20 := (fr_at gu24 (by omega)).trans s21
            refine g_if_eq (tgt := 76) dX6_pairs_53 (by decide) (fun c34 => ?_) (fun c34 => ?_)
            · have zc34 := zx26 c34
              refine g_iinc (v := i18 + 1) dX6_pairs_76 rfl rfl (by decide) ?_
              refine g_pick (lv' := [(0, .ref (uk_ad G 0)), (1, .int w), (2, .int w16), (3, .int w17), (4, .int i9), (5, .int (i18 + 1))]) [0, 1, 2, 3, 4, 5] rfl ?_
              refine g_goto (tgt := 33) dX6_pairs_79 (by decide) ?_
              refine g_pick (lv' := [(0, .ref (uk_ad G 0)), (1, .int w), (2, .int w16), (3, .int w17), (4, .int i9), (5, .int (i18 + 1))]) [0, 1, 2, 3, 4, 5] rfl ?_
              exact ihi18 (by first | lia | grind) w16 w17 u24 hu24 fu24 (C27.trans ji180) (C28.trans ji181) (C29.trans ji182) (C30.trans ji183) (C31.trans ji184) (C32.trans ji185)
            · have zc34 := nx26 c34
              refine g_iload_n dX6_pairs_56 rfl ?_
              refine g_if_ne (tgt := 71) dX6_pairs_57 (by decide) (fun c35 => ?_) (fun c35 => ?_)
              · refine g_iload_n dX6_pairs_71 rfl ?_
                refine g_istore_n dX6_pairs_72 (by decide) ?_
                refine g_pick (lv' := [(0, .ref (uk_ad G 0)), (1, .int w), (2, .int w16), (3, .int w17), (4, .int i9), (5, .int i18)]) [0, 1, 2, 3, 4, 5] rfl ?_
                refine g_iinc (v := w16 + 1) dX6_pairs_73 rfl rfl (by decide) ?_
                refine g_pick (lv' := [(0, .ref (uk_ad G 0)), (1, .int w), (2, .int (w16 + 1)), (3, .int w17), (4, .int i9), (5, .int i18)]) [0, 1, 2, 3, 4, 5] rfl ?_
                refine g_iinc (v := i18 + 1) dX6_pairs_76 rfl rfl (by decide) ?_
                refine g_pick (lv' := [(0, .ref (uk_ad G 0)), (1, .int w), (2, .int (w16 + 1)), (3, .int w17), (4, .int i9), (5, .int (i18 + 1))]) [0, 1, 2, 3, 4, 5] rfl ?_
                refine g_goto (tgt := 33) dX6_pairs_79 (by decide) ?_
                refine g_pick (lv' := [(0, .ref (uk_ad G 0)), (1, .int w), (2, .int (w16 + 1)), (3, .int w17), (4, .int i9), (5, .int (i18 + 1))]) [0, 1, 2, 3, 4, 5] rfl ?_
                exact ihi18 (by first | lia | grind) (w16 + 1) w17 u24 hu24 fu24 (C27.trans ji180) (C28.trans ji181) (C29.trans ji182) (C30.trans ji183) (C31.trans ji184) (C32.trans ji185)
              · refine g_bipush (v := 10) dX6_pairs_60 (by decide) ?_
                refine g_iload dX6_pairs_62 rfl ?_
                refine g_imul dX6_pairs_64 ?_
                refine g_topi (fun x36 ex36 => ?_)
                refine g_iload dX6_pairs_65 rfl ?_
                refine g_iadd dX6_pairs_67 ?_
                refine g_topi (fun x37 ex37 => ?_)
                refine g_goto (tgt := 72) dX6_pairs_68 (by decide) ?_
                refine g_istore_n dX6_pairs_72 (by decide) ?_
                refine g_pick (lv' := [(0, .ref (uk_ad G 0)), (1, .int w), (2, .int w16), (3, .int x37), (4, .int i9), (5, .int i18)]) [0, 1, 2, 3, 4, 5] rfl ?_
                refine g_iinc (v := w16 + 1) dX6_pairs_73 rfl rfl (by decide) ?_
                refine g_pick (lv' := [(0, .ref (uk_ad G 0)), (1, .int w), (2, .int (w16 + 1)), (3, .int x37), (4, .int i9), (5, .int i18)]) [0, 1, 2, 3, 4, 5] rfl ?_
                refine g_iinc (v := i18 + 1) dX6_pairs_76 rfl rfl (by decide) ?_
                refine g_pick (lv' := [(0, .ref (uk_ad G 0)), (1, .int w), (2, .int (w16 + 1)), (3, .int x37), (4, .int i9), (5, .int (i18 + 1))]) [0, 1, 2, 3, 4, 5] rfl ?_
                refine g_goto (tgt := 33) dX6_pairs_79 (by decide) ?_
                refine g_pick (lv' := [(0, .ref (uk_ad G 0)), (1, .int w), (2, .int (w16 + 1)), (3, .int x37), (4, .int i9), (5, .int (i18 + 1))]) [0, 1, 2, 3, 4, 5] rfl ?_
                exact ihi18 (by first | lia | grind) (w16 + 1) x37 u24 hu24 fu24 (C27.trans ji180) (C28.trans ji181) (C29.trans ji182) (C30.trans ji183) (C31.trans ji184) (C32.trans ji185)
        refine g_pick (lv' := [(0, .ref (uk_ad G 0)), (1, .int w), (2, .int w7), (3, .int w8), (4, .int i9), (5, .int i9)]) [0, 1, 2, 3, 4, 5] rfl ?_
        exact L33_14 i9 (by first | decide | lia | grind) (by first | decide | lia | grind) w7 w8 u10 hu10 fu10 (C50_u10.trans ji90) (C51_u10.trans ji91) (C53_u10.trans ji92) (C54_u10.trans ji93) (C55_u10.trans ji94) (C56_u10.trans ji95)
    refine g_pick (lv' := [(0, .ref (uk_ad G 0)), (1, .int w), (2, .int 0), (3, .int (-4)), (4, .int 0)]) [0, 1, 2, 3, 4] rfl ?_
    exact L17_5 0 (by first | decide | lia | grind) (by first | decide | lia | grind) 0 (-4) u hu f0 C50 C51 C53 C54 C55 C56
  · have zc5 := zx4 c5
    refine g_iconst (v := (-1)) dX6_pairs_7 (by decide) ?_
    exact g_iret (ty := .int) dX6_pairs_8 rfl rfl ⟨⟨_, rfl, by first | trivial | lia | grind⟩, hu, f0, C50, C51, C53, C54, C55, C56⟩
/-! the law: what each call leaves of REL -/
def relA : List Nat := 0 :: 2 :: relC
theorem REL_fr {u u' : uk_Mem} {a b : Nat} (h : REL u) (f : fr a b u u') (ha : ∀ c, c ∈ (60 :: relA) → c < a ∨ b ≤ c) : REL u' := by
  have e : ∀ c, c ∈ (60 :: relA) → u'.1 c = u.1 c := fun c hc => f.1 c (ha c hc)
  have e0 := e 0 (by decide)
  have e2 := e 2 (by decide)
  have e60 := e 60 (by decide)
  exact REL_cg h (fun c hc => e c (List.mem_cons_of_mem _ (List.mem_cons_of_mem _ (List.mem_cons_of_mem _ hc)))) (by rw [e0]) (by rw [e0]) (by rw [e2]) (by rw [e60]) (by rw [e60]) (by rw [e60]) (by rw [e60])
theorem REL_fk {u u' : uk_Mem} {l ks : List Nat} (h : REL u) (f : fk l ks u u') (hl : ∀ c, c ∈ relA → c ∉ l) (hk : ∀ j, j ∈ [3, 13, 18, 28] → 60 ∉ l ∨ (60 = 60 ∧ j ∈ ks)) : REL u' := by
  have e : ∀ c, c ∈ relA → u'.1 c = u.1 c := fun c hc => fk_c f (hl c hc)
  have e0 := e 0 (by decide)
  have e2 := e 2 (by decide)
  exact REL_cg h (fun c hc => e c (List.mem_cons_of_mem _ (List.mem_cons_of_mem _ hc))) (by rw [e0]) (by rw [e0]) (by rw [e2]) (fk_at f (hk 3 (by decide))) (fk_at f (hk 13 (by decide))) (fk_at f (hk 18 (by decide))) (fk_at f (hk 28 (by decide)))
theorem REL_lo {u u' : uk_Mem} {b : Nat} (h : REL u) (f : fr 41 b u u') (hb : b ≤ 59) (e0 : u'.1 50 = u.1 50) (e1 : u'.1 51 = u.1 51) (e3 : u'.1 53 = u.1 53) (e4 : u'.1 54 = u.1 54) (e5 : u'.1 55 = u.1 55) (e6 : u'.1 56 = u.1 56) : REL u' := by
  have e : ∀ c, c < 41 ∨ 59 ≤ c → u'.1 c = u.1 c := fun c hc => f.1 c (by omega)
  refine REL_cg h (fun c hc => ?_) (by rw [e 0 (by omega)]) (by rw [e 0 (by omega)]) (by rw [e 2 (by omega)]) (by rw [e 60 (by omega)]) (by rw [e 60 (by omega)]) (by rw [e 60 (by omega)]) (by rw [e 60 (by omega)])
  rcases (show ∀ c, c ∈ relC → (c < 41 ∨ 59 ≤ c) ∨ c = 50 ∨ c = 51 ∨ c = 53 ∨ c = 54 ∨ c = 55 ∨ c = 56 by decide) c hc with q | rfl | rfl | rfl | rfl | rfl | rfl
  · exact e c q
  · exact e0
  · exact e1
  · exact e3
  · exact e4
  · exact e5
  · exact e6
theorem REL_kp {u u' : uk_Mem} (h : REL u) (f : fr 13 49 u u') (k : KP u u') : REL u' := by
  have e : ∀ c, c < 13 ∨ 49 ≤ c → u'.1 c = u.1 c := fun c hc => f.1 c hc
  refine REL_cg h (fun c hc => ?_) (by rw [e 0 (by omega)]) (by rw [e 0 (by omega)]) (by rw [e 2 (by omega)]) (by rw [e 60 (by omega)]) (by rw [e 60 (by omega)]) (by rw [e 60 (by omega)]) (by rw [e 60 (by omega)])
  rcases (show ∀ c, c ∈ relC → (c < 13 ∨ 49 ≤ c) ∨ (13 ≤ c ∧ c ≤ 45) by decide) c hc with q | q
  · exact e c q
  · exact k c q.1 q.2
theorem KR_u1 {u u1 : uk_Mem} {a b : Nat} (h : REL u) (f : fr a b u u1) (hb : b ≤ 60) : KR u u1 13 61 0 := KR_cg h.1 (fun _ _ _ => rfl) (by rw [f.1 60 (by omega)]) (f.1 61 (by omega)) (f.1 64 (by omega)) (f.1 65 (by omega))
theorem REL_kit {u u1 u2 : uk_Mem} {l : List Nat} (h : REL u) (hu : iv u) (f1 : fr 13 22 u u1) (f2 : fk l [] u1 u2) (hl : ∀ c, c ∈ l → c = 61 ∨ c = 62) (o : ∀ j, 51 ≤ j → u2.1 61 j = u1.1 61 j) (K : KR u1 u2 13 61 0) : REL u2 := by
  have hn : 0 ≤ u.1 60 3 ∧ u.1 60 3 ≤ 8 := iv_at hu 60 3 rfl
  obtain ⟨-, ⟨i0, i1⟩, K1, K2, -, -⟩ := id h
  have e2 : ∀ c, ¬ c = 61 → ¬ c = 62 → u2.1 c = u1.1 c := fun c h1 h2 => fk_c f2 (fun q => (hl c q).elim h1 h2)
  have e : ∀ c, (c < 13 ∨ 22 ≤ c) → ¬ c = 61 → ¬ c = 62 → u2.1 c = u.1 c := fun c h0 h1 h2 => (e2 c h1 h2).trans (f1.1 c h0)
  have o60 : u2.1 60 = u.1 60 := e 60 (by omega) (by omega) (by omega)
  have o61 : ∀ j, 51 ≤ j → u2.1 61 j = u.1 61 j := fun j hj => (o j hj).trans (by rw [f1.1 61 (by omega)])
  have o64 := e 64 (by omega) (by omega) (by omega)
  have o65 := e 65 (by omega) (by omega) (by omega)
  refine REL_mk h (fun c hc => ?_) (by rw [e 0 (by omega) (by omega) (by omega)]) (by rw [e 0 (by omega) (by omega) (by omega)]) (by rw [e 2 (by omega) (by omega) (by omega)]) (by rw [o60]) (by rw [o60]) (by rw [o60]) (KR_cg K (fun d d1 d2 => e2 d (by omega) (by omega)) rfl rfl rfl rfl) ⟨by rw [e 40 (by omega) (by omega) (by omega), e 63 (by omega) (by omega) (by omega)]; exact i0, by rw [e 40 (by omega) (by omega) (by omega), e 63 (by omega) (by omega) (by omega)]; exact i1⟩ (fun q => ?_) (fun q => ?_)
  · have := (show ∀ c, c ∈ relS → (c < 13 ∨ 22 ≤ c) ∧ ¬ c = 61 ∧ ¬ c = 62 by decide) c hc
    exact e c this.1 this.2.1 this.2.2
  · rw [e 63 (by omega) (by omega) (by omega)] at q
    exact KR_cp (K1 q) hn.2 (iv_42 hu (by omega)).2 (fun d d1 d2 => e d (by omega) (by omega) (by omega)) (by rw [o60]) (fun j hj => o61 _ (by omega)) o64 o65
  · rw [e 63 (by omega) (by omega) (by omega)] at q
    exact KR_cp (K2 q) hn.2 (iv_42 hu (by omega)).2 (fun d d1 d2 => e d (by omega) (by omega) (by omega)) (by rw [o60]) (fun j hj => o61 _ (by omega)) o64 o65
/-- the tapes alone -/
theorem REL_tp {u u' : uk_Mem} (h : REL u) (hc : ∀ c, ¬ c = 2 → ¬ c = 3 → ¬ c = 60 → ¬ c = 69 → u'.1 c = u.1 c) (h4 : u'.1 60 3 = u.1 60 3) (h6 : u'.1 60 18 = u.1 60 18) (h7 : u'.1 60 28 = u.1 60 28) (t1 : u'.1 2 1 = u'.1 60 13) (t2 : cpy (u'.1 3) (u'.1 69) (u'.1 2 1)) : REL u' := by
  obtain ⟨k, ⟨i0, i1⟩, im0, im1, ⟨-, -, t3, t4⟩, sh⟩ := h
  have e : ∀ c, ¬ c = 2 → ¬ c = 3 → ¬ c = 60 → ¬ c = 69 → u'.1 c = u.1 c := hc
  refine ⟨KR_cg k (fun d a b => e d (by omega) (by omega) (by omega) (by omega)) h4 (e 61 (by omega) (by omega) (by omega) (by omega)) (e 64 (by omega) (by omega) (by omega) (by omega)) (e 65 (by omega) (by omega) (by omega) (by omega)), ⟨by rw [e 40 (by omega) (by omega) (by omega) (by omega), e 63 (by omega) (by omega) (by omega) (by omega)]; exact i0, by rw [e 40 (by omega) (by omega) (by omega) (by omega), e 63 (by omega) (by omega) (by omega) (by omega)]; exact i1⟩, fun q => ?_, fun q => ?_, ⟨t1, t2, by rw [e 0 (by omega) (by omega) (by omega) (by omega), h6]; exact t3, by rw [e 0 (by omega) (by omega) (by omega) (by omega), h7]; exact t4⟩, fun j hj => ?_⟩
  · rw [e 63 (by omega) (by omega) (by omega) (by omega)] at q
    exact KR_cg (im0 q) (fun d a b => e d (by omega) (by omega) (by omega) (by omega)) h4 (e 61 (by omega) (by omega) (by omega) (by omega)) (e 64 (by omega) (by omega) (by omega) (by omega)) (e 65 (by omega) (by omega) (by omega) (by omega))
  · rw [e 63 (by omega) (by omega) (by omega) (by omega)] at q
    exact KR_cg (im1 q) (fun d a b => e d (by omega) (by omega) (by omega) (by omega)) h4 (e 61 (by omega) (by omega) (by omega) (by omega)) (e 64 (by omega) (by omega) (by omega) (by omega)) (e 65 (by omega) (by omega) (by omega) (by omega))
  · rw [e 50 (by omega) (by omega) (by omega) (by omega), e 51 (by omega) (by omega) (by omega) (by omega), e 74 (by omega) (by omega) (by omega) (by omega), e 75 (by omega) (by omega) (by omega) (by omega), e 76 (by omega) (by omega) (by omega) (by omega), e (53 + j) (by omega) (by omega) (by omega) (by omega)]
    exact sh j hj
/-- the text -/
theorem REL_tx {u u1 u2 : uk_Mem} {f : Nat → Int32} {n : Int32} (h : REL u) (hu : iv u) (hv2 : iv u2) (F1 : fr 0 41 u u1) (F2 : fk [60, 61, 63, 64, 65, 66, 67, 68] [22, 28] u1 u2) (a1 : u1.1 2 1 = 0) (a2 : u1.1 0 13 = (pRes f n).1.1) (a3 : (pRes f n).1.1 = 0 → TXI f n u1 2) (a4 : ¬ (pRes f n).1.1 = 0 → ∀ d, 13 ≤ d → d ≤ 40 → u1.1 d = u.1 d) (a5 : u1.1 0 14 = u.1 0 14) (b1 : u2.1 60 13 = 0) (b2 : u2.1 60 18 = (pRes f n).1.1) (b3 : (pRes f n).1.1 = 0 → RwG (u2.1 60 3) (u2.1 61) (u2.1 64) (u2.1 65) (wIt f n (pRes f n).2.toNatClampNeg) ∧ u2.1 60 3 = (pIt f n (pRes f n).2.toNatClampNeg).2.2.2.1 ∧ u2.1 63 0 = 0 ∧ u2.1 63 1 = 0) (b4 : ¬ (pRes f n).1.1 = 0 → u2.1 61 = u1.1 61 ∧ u2.1 63 = u1.1 63 ∧ u2.1 64 = u1.1 64 ∧ u2.1 65 = u1.1 65 ∧ u2.1 60 3 = u1.1 60 3) : REL u2 := by
  obtain ⟨k, ⟨i0, i1⟩, im0, im1, ⟨-, -, t3, t4⟩, sh⟩ := h
  have o1 : ∀ c, 41 ≤ c → u1.1 c = u.1 c := fun c hc => F1.1 c (Or.inr hc)
  have o2 : ∀ c, c < 60 → u2.1 c = u1.1 c := fun c hc => fk_c F2 ((show ∀ c, c < 60 → c ∉ [60, 61, 63, 64, 65, 66, 67, 68] by decide) c hc)
  have o3 : ∀ c, 69 ≤ c → u2.1 c = u.1 c := fun c hc => (fk_c F2 (by simp only [List.mem_cons, List.not_mem_nil, or_false]; omega)).trans (o1 c (by omega))
  have T : u2.1 2 1 = u2.1 60 13 ∧ cpy (u2.1 3) (u2.1 69) (u2.1 2 1) ∧ u2.1 0 13 = u2.1 60 18 ∧ u2.1 0 14 = u2.1 60 28 := by
    refine ⟨by rw [o2 2 (by omega), a1, b1], by rw [o2 2 (by omega), a1]; exact cpy_0, by rw [o2 0 (by omega), a2, b2], ?_⟩
    rw [o2 0 (by omega), a5, F2.2 28 (by decide), o1 60 (by omega)]
    exact t4
  have S : SHR u2 := fun j hj => by
    rw [o2 50 (by omega), o2 51 (by omega), o2 (53 + j) (by omega), o1 50 (by omega), o1 51 (by omega), o1 (53 + j) (by omega), o3 74 (by omega), o3 75 (by omega), o3 76 (by omega)]
    exact sh j hj
  by_cases z : (pRes f n).1.1 = 0
  · obtain ⟨c1, c2, c3⟩ := a3 z
    obtain ⟨d1, d2, d3, d4⟩ := b3 z
    have hn : 0 ≤ u2.1 60 3 ∧ u2.1 60 3 ≤ 8 := iv_at hv2 60 3 rfl
    have n8 := uk_cln 8 8 rfl hn.1 hn.2
    have K : KR u2 u2 13 61 0 := KR_text (KW_cg c1 (fun c h1 h2 => o2 c (by omega))) d1 (by rw [o2 13 (by omega), c2, d2]) n8
    have z2 : (2 : Int32).toNatClampNeg = 2 := rfl
    rw [z2] at c3
    exact ⟨K, ⟨by rw [o2 40 (by omega), c3 0 (by omega), d3], by rw [o2 40 (by omega), c3 1 (by omega), d4]⟩, fun q => absurd d3 q, fun q => absurd d4 q, T, S⟩
  · obtain ⟨d1, d2, d3, d4, d5⟩ := b4 z
    have a4 := a4 z
    have k3 : u2.1 60 3 = u.1 60 3 := d5.trans (by rw [o1 60 (by omega)])
    have k61 : u2.1 61 = u.1 61 := d1.trans (o1 61 (by omega))
    have k64 : u2.1 64 = u.1 64 := d3.trans (o1 64 (by omega))
    have k65 : u2.1 65 = u.1 65 := d4.trans (o1 65 (by omega))
    have k63 : u2.1 63 = u.1 63 := d2.trans (o1 63 (by omega))
    have kk : ∀ d, 13 ≤ d → d ≤ 40 → u2.1 d = u.1 d := fun d h1 h2 => (o2 d (by omega)).trans (a4 d h1 h2)
    refine ⟨KR_cg k (fun d h1 h2 => kk d h1 (by omega)) k3 k61 k64 k65, ⟨by rw [kk 40 (by omega) (by omega), k63]; exact i0, by rw [kk 40 (by omega) (by omega), k63]; exact i1⟩, fun q => ?_, fun q => ?_, T, S⟩
    · rw [k63] at q
      exact KR_cg (im0 q) (fun d h1 h2 => kk d (by omega) (by omega)) k3 k61 k64 k65
    · rw [k63] at q
      exact KR_cg (im1 q) (fun d h1 h2 => kk d (by omega) (by omega)) k3 k61 k64 k65
/-- at first -/
theorem REL_0 {u : uk_Mem} {l ks : List Nat} (F : fk l ks u_0 u) (hl : ∀ c, c ∈ [0, 2, 3, 13, 40, 50, 51, 53, 54, 55, 56, 69, 75, 76] → c ∉ l) (hk : ∀ j, j ∈ [13, 18, 28] → 60 ∉ l ∨ (60 = 60 ∧ j ∈ ks)) (h3 : u.1 60 3 = 0) (h61 : ∀ j, j < 51 → u.1 61 j = 0) (h630 : u.1 63 0 = 0) (h631 : u.1 63 1 = 0) (h74 : ∀ j, j < 4 → u.1 74 j = -4) : REL u := by
  have e : ∀ c, c ∈ [0, 2, 3, 13, 40, 50, 51, 53, 54, 55, 56, 69, 75, 76] → u.1 c = u_0.1 c := fun c hc => fk_c F (hl c hc)
  have z : ∀ c j, ¬ c = 50 → u_0.1 c j = 0 := fun c j hc => by
    unfold u_0
    rw [uk_up_oc hc, uk_up_oc hc, uk_up_oc hc, uk_up_oc hc]
    rfl
  have o : ∀ c j, c ∈ [0, 2, 3, 13, 40, 51, 53, 54, 55, 56, 69, 75, 76] → u.1 c j = 0 := fun c j hc => by
    have := (show ∀ c, c ∈ [0, 2, 3, 13, 40, 51, 53, 54, 55, 56, 69, 75, 76] → c ∈ [0, 2, 3, 13, 40, 50, 51, 53, 54, 55, 56, 69, 75, 76] ∧ ¬ c = 50 by decide) c hc
    rw [e c this.1]
    exact z c j this.2
  have k0 : ∀ j, j ∈ [13, 18, 28] → u.1 60 j = 0 := fun j hj => (fk_at F (hk j hj)).trans (z 60 j (by omega))
  have z0 : (0 : Int32).toNatClampNeg = 0 := rfl
  refine ⟨⟨by rw [o 13 0 (by decide), h3], by rw [o 13 9 (by decide), h61 _ (by omega)], by rw [o 13 10 (by decide), h61 _ (by omega)], by rw [o 13 11 (by decide), h61 _ (by omega)], fun j hj => ?_, fun j hj => ?_⟩, ⟨by rw [o 40 0 (by decide), h630], by rw [o 40 1 (by decide), h631]⟩, fun q => absurd h630 q, fun q => absurd h631 q, ⟨by rw [o 2 1 (by decide), k0 13 (by decide)], by rw [o 2 1 (by decide)]; exact cpy_0, by rw [o 0 13 (by decide), k0 18 (by decide)], by rw [o 0 14 (by decide), k0 28 (by decide)]⟩, fun j hj => ?_⟩
  · rw [h3, z0] at hj
    exact absurd hj (Nat.not_lt_zero _)
  · rw [h61 _ (by omega), z0] at hj
    exact absurd hj (Nat.not_lt_zero _)
  · refine ⟨Or.inl ⟨?_, h74 j hj⟩, by rw [o 51 j (by decide), o 75 j (by decide)], fun i hi => ?_⟩
    · rw [e 50 (by decide)]
      rcases (show j = 0 ∨ j = 1 ∨ j = 2 ∨ j = 3 by omega) with rfl | rfl | rfl | rfl <;> rfl
    · rw [o 76 _ (by decide)]
      rcases (show j = 0 ∨ j = 1 ∨ j = 2 ∨ j = 3 by omega) with rfl | rfl | rfl | rfl <;> exact o _ i (by decide)
def e_X1_putWaiting (u : uk_Mem) (t : Int32) : uk_Mem := let x1 : Int32 := u.1 41 6; if (9 : Int32) ≤ x1 then (let x5 : Int32 := u.1 43 t.toNatClampNeg; if x5 = (-4 : Int32) then (let x7 : Int32 := u.1 41 2; let u11 : uk_Mem := uk_up u 43 t.toNatClampNeg x7; u11) else (u)) else (let x12 : Int32 := u.1 41 6; let u15 : uk_Mem := uk_up u 45 x12.toNatClampNeg t; let x16 : Int32 := u15.1 41 6; let x17 : Int32 := x16 + (1 : Int32); let u18 : uk_Mem := uk_up u15 41 6 x17; let x21 : Int32 := u18.1 43 t.toNatClampNeg; if x21 = (-4 : Int32) then (let x23 : Int32 := u18.1 41 2; let u27 : uk_Mem := uk_up u18 43 t.toNatClampNeg x23; u27) else (u18))
abbrev qe_X1_putWaiting (u : uk_Mem) (t : Int32) (r : Option Value) (u' : uk_Mem) : Prop := (q_X1_putWaiting u t r u') ∧ (u' = e_X1_putWaiting u t)
set_option maxHeartbeats 4000000 in
set_option maxRecDepth 20000 in
theorem x_X1_putWaiting {G : uk_D} (hs : uk_Sep G) {u : uk_Mem} (hu : iv u) (t : Int32) (p0 : 0 ≤ t) (p1 : t ≤ 7) (d : Nat) : uk_Meth G d mX1_putWaiting [.ref (uk_ad G 41), .int t] u (qe_X1_putWaiting u t) := by
  refine uk_Meth.of hs (by decide) (Nat.le_of_ble_eq_true rfl) (fun X => ?_)
  have f0 : fr 41 46 u u := fr_rf
  refine g_aload_n dX1_putWaiting_0 rfl ?_
  refine f_X1_31 rfl rfl dX1_putWaiting_1 ?_
  refine g_topi (fun x1 ex1 => ?_)
  have rx1 : 0 ≤ x1 ∧ x1 ≤ 9 := by rw [ex1]; exact iv_at hu _ _ rfl
  have s2 : u.1 41 6 = x1 := ex1.symm
  refine g_aload_n dX1_putWaiting_4 rfl ?_
  refine f_X1_28 rfl rfl dX1_putWaiting_5 ?_
  refine g_alen8 (v := 9) rfl rfl rfl dX1_putWaiting_8 ?_
  refine g_icmp_ge (tgt := 32) dX1_putWaiting_9 (by decide) (fun c3 => ?_) (fun c3 => ?_)
  · refine g_aload_n dX1_putWaiting_32 rfl ?_
    refine f_X1_22 rfl rfl dX1_putWaiting_33 ?_
    refine g_iload_n dX1_putWaiting_36 rfl ?_
    have v4 : vp_in t 8 := uk_vin 8 rfl (by first | decide | lia | grind) (by first | decide | lia | grind)
    refine g_iald rfl rfl v4 dX1_putWaiting_37 ?_
    refine g_topi (fun x5 ex5 => ?_)
    refine g_bipush (v := (-4)) dX1_putWaiting_38 (by decide) ?_
    refine g_icmp_ne (tgt := 53) dX1_putWaiting_40 (by decide) (fun c6 => ?_) (fun c6 => ?_)
    · exact g_vret dX1_putWaiting_53 rfl ⟨⟨rfl, hu, f0⟩, (by subst ex5; subst ex1; exact (if_pos c3).trans ((if_neg c6).trans (rfl)) : e_X1_putWaiting u t = u).symm⟩
    · refine g_aload_n dX1_putWaiting_43 rfl ?_
      refine f_X1_22 rfl rfl dX1_putWaiting_44 ?_
      refine g_iload_n dX1_putWaiting_47 rfl ?_
      refine g_aload_n dX1_putWaiting_48 rfl ?_
      refine f_X1_19 rfl rfl dX1_putWaiting_49 ?_
      refine g_topi (fun x7 ex7 => ?_)
      have s8 : u.1 41 2 = x7 := ex7.symm
      have v9 : vp_in t 8 := uk_vin 8 rfl (by first | decide | lia | grind) (by first | decide | lia | grind)
      have b10 := uk_cl v9
      refine g_iast rfl rfl v9 dX1_putWaiting_52 ?_
      refine g_mem (fun u11 eu11 => ?_)
      have hu11 : iv u11 := by rw [eu11]; exact iv_upF hu (uk_pick1 _ (by omega))
      have fu11 : fr 41 46 u u11 := by rw [eu11]; exact fr_up f0 (by omega) (by omega)
      exact g_vret dX1_putWaiting_53 rfl ⟨⟨rfl, hu11, fu11⟩, (by subst eu11; subst ex7; subst ex5; subst ex1; exact (if_pos c3).trans ((if_pos c6).trans (rfl)) : e_X1_putWaiting u t = u11).symm⟩
  · refine g_aload_n dX1_putWaiting_12 rfl ?_
    refine f_X1_28 rfl rfl dX1_putWaiting_13 ?_
    refine g_aload_n dX1_putWaiting_16 rfl ?_
    refine f_X1_31 rfl rfl dX1_putWaiting_17 ?_
    refine g_topi (fun x12 ex12 => ?_)
    have rx12 : 0 ≤ x12 ∧ x12 ≤ 9 := by rw [ex12]; exact iv_at hu _ _ rfl
    have qx12 : x12 = x1 := by rw [ex12]; exact s2
    refine g_iload_n dX1_putWaiting_20 rfl ?_
    have v13 : vp_in x12 9 := uk_vin 9 rfl (by first | decide | lia | grind) (by first | decide | lia | grind)
    have b14 := uk_cl v13
    refine g_iast rfl rfl v13 dX1_putWaiting_21 ?_
    refine g_mem (fun u15 eu15 => ?_)
    have hu15 : iv u15 := by rw [eu15]; exact iv_up hu (uk_pick1 _ (by omega)) (by first | lia | grind) (by first | lia | grind)
    have fu15 : fr 41 46 u u15 := by rw [eu15]; exact fr_up f0 (by omega) (by omega)
    refine g_aload_n dX1_putWaiting_22 rfl ?_
    refine g_dup dX1_putWaiting_23 rfl ?_
    refine f_X1_31 rfl rfl dX1_putWaiting_24 ?_
    refine g_topi (fun x16 ex16 => ?_)
    have rx16 : 0 ≤ x16 ∧ x16 ≤ 9 := by rw [ex16]; exact iv_at hu15 _ _ rfl
    have qx16 : x16 = x1 := by rw [ex16]; simp [eu15, uk_up_at, s2]
    refine g_iconst (v := 1) dX1_putWaiting_27 (by decide) ?_
    refine g_iadd dX1_putWaiting_28 ?_
    refine g_topi (fun x17 ex17 => ?_)
    refine p_X1_31 rfl rfl dX1_putWaiting_29 ?_
    refine g_mem (fun u18 eu18 => ?_)
    have hu18 : iv u18 := by rw [eu18]; exact iv_up hu15 rfl (by first | lia | grind) (by first | lia | grind)
    have fu18 : fr 41 46 u u18 := by rw [eu18]; exact fr_up fu15 (by omega) (by omega)
    have s19 : u18.1 41 6 = x17 := by rw [eu18, uk_up_at]; exact if_pos ⟨rfl, rfl⟩
    refine g_aload_n dX1_putWaiting_32 rfl ?_
    refine f_X1_22 rfl rfl dX1_putWaiting_33 ?_
    refine g_iload_n dX1_putWaiting_36 rfl ?_
    have v20 : vp_in t 8 := uk_vin 8 rfl (by first | decide | lia | grind) (by first | decide | lia | grind)
    refine g_iald rfl rfl v20 dX1_putWaiting_37 ?_
    refine g_topi (fun x21 ex21 => ?_)
    refine g_bipush (v := (-4)) dX1_putWaiting_38 (by decide) ?_
    refine g_icmp_ne (tgt := 53) dX1_putWaiting_40 (by decide) (fun c22 => ?_) (fun c22 => ?_)
    · exact g_vret dX1_putWaiting_53 rfl ⟨⟨rfl, hu18, fu18⟩, (by subst ex21; subst eu18; subst ex17; subst ex16; subst eu15; subst ex12; subst ex1; exact (if_neg c3).trans ((if_neg c22).trans (rfl)) : e_X1_putWaiting u t = u18).symm⟩
    · refine g_aload_n dX1_putWaiting_43 rfl ?_
      refine f_X1_22 rfl rfl dX1_putWaiting_44 ?_
      refine g_iload_n dX1_putWaiting_47 rfl ?_
      refine g_aload_n dX1_putWaiting_48 rfl ?_
      refine f_X1_19 rfl rfl dX1_putWaiting_49 ?_
      refine g_topi (fun x23 ex23 => ?_)
      have s24 : u18.1 41 2 = x23 := ex23.symm
      have v25 : vp_in t 8 := uk_vin 8 rfl (by first | decide | lia | grind) (by first | decide | lia | grind)
      have b26 := uk_cl v25
      refine g_iast rfl rfl v25 dX1_putWaiting_52 ?_
      refine g_mem (fun u27 eu27 => ?_)
      have hu27 : iv u27 := by rw [eu27]; exact iv_upF hu18 (uk_pick1 _ (by omega))
      have fu27 : fr 41 46 u u27 := by rw [eu27]; exact fr_up fu18 (by omega) (by omega)
      exact g_vret dX1_putWaiting_53 rfl ⟨⟨rfl, hu27, fu27⟩, (by subst eu27; subst ex23; subst ex21; subst eu18; subst ex17; subst ex16; subst eu15; subst ex12; subst ex1; exact (if_neg c3).trans ((if_pos c22).trans (rfl)) : e_X1_putWaiting u t = u27).symm⟩
def l_X1_start_17 (m : Int32) : Nat → Int32 → uk_Mem → uk_Mem
  | 0, _, u9 => u9
  | K9 + 1, i8, u9 => if (8 : Int32) ≤ i8 then (let u12 : uk_Mem := e_X1_putWaiting u9 m; u12) else (let u16 : uk_Mem := uk_up u9 43 i8.toNatClampNeg (-4 : Int32); let u19 : uk_Mem := uk_up u16 44 i8.toNatClampNeg (0 : Int32); l_X1_start_17 m K9 (i8 + 1) u19)
def e_X1_start (u : uk_Mem) (m : Int32) : uk_Mem := let u1 : uk_Mem := uk_up u 41 1 (0 : Int32); let u3 : uk_Mem := uk_up u1 41 2 (0 : Int32); let u5 : uk_Mem := uk_up u3 41 6 (0 : Int32); l_X1_start_17 m ee_K (0 : Int32) u5
abbrev qe_X1_start (u : uk_Mem) (m : Int32) (r : Option Value) (u' : uk_Mem) : Prop := (q_X1_start u m r u') ∧ (u' = e_X1_start u m)
set_option maxHeartbeats 4000000 in
set_option maxRecDepth 20000 in
theorem x_X1_start {G : uk_D} (hs : uk_Sep G) {u : uk_Mem} (hu : iv u) (m : Int32) (p0 : 0 ≤ m) (p1 : m ≤ 7) (d : Nat) : uk_Meth G (d + 1) mX1_start [.ref (uk_ad G 41), .int m] u (qe_X1_start u m) := by
  refine uk_Meth.of hs (by decide) (Nat.le_of_ble_eq_true rfl) (fun X => ?_)
  have f0 : fr 41 46 u u := fr_rf
  refine g_aload_n dX1_start_0 rfl ?_
  refine g_iconst (v := 0) dX1_start_1 (by decide) ?_
  refine p_X1_15 rfl rfl dX1_start_2 ?_
  refine g_mem (fun u1 eu1 => ?_)
  have hu1 : iv u1 := by rw [eu1]; exact iv_up hu rfl (by first | lia | grind) (by first | lia | grind)
  have fu1 : fr 41 46 u u1 := by rw [eu1]; exact fr_up f0 (by omega) (by omega)
  have s2 : u1.1 41 1 = 0 := by rw [eu1, uk_up_at]; exact if_pos ⟨rfl, rfl⟩
  refine g_aload_n dX1_start_5 rfl ?_
  refine g_iconst (v := 0) dX1_start_6 (by decide) ?_
  refine p_X1_19 rfl rfl dX1_start_7 ?_
  refine g_mem (fun u3 eu3 => ?_)
  have hu3 : iv u3 := by rw [eu3]; exact iv_upF hu1 rfl
  have fu3 : fr 41 46 u u3 := by rw [eu3]; exact fr_up fu1 (by omega) (by omega)
  have s4 : u3.1 41 2 = 0 := by rw [eu3, uk_up_at]; exact if_pos ⟨rfl, rfl⟩
  refine g_aload_n dX1_start_10 rfl ?_
  refine g_iconst (v := 0) dX1_start_11 (by decide) ?_
  refine p_X1_31 rfl rfl dX1_start_12 ?_
  refine g_mem (fun u5 eu5 => ?_)
  have hu5 : iv u5 := by rw [eu5]; exact iv_up hu3 rfl (by first | lia | grind) (by first | lia | grind)
  have fu5 : fr 41 46 u u5 := by rw [eu5]; exact fr_up fu3 (by omega) (by omega)
  have s6 : u5.1 41 6 = 0 := by rw [eu5, uk_up_at]; exact if_pos ⟨rfl, rfl⟩
  refine g_iconst (v := 0) dX1_start_15 (by decide) ?_
  refine g_istore_n dX1_start_16 (by decide) ?_
  refine g_pick (lv' := [(0, .ref (uk_ad G 41)), (1, .int m), (2, .int 0)]) [0, 1, 2] rfl ?_
  have L17_6 : ∀ i8 : Int32, 0 ≤ i8 → i8 ≤ 8 → ∀ (u9 : uk_Mem), iv u9 → fr 41 46 u u9 → (∃ ki8 : Nat, ee_F 8 i8 ki8 ∧ e_X1_start u m = l_X1_start_17 m ki8 i8 u9) → uk_G G X mX1_start (d + 1) (qe_X1_start u m) 17 [(0, .ref (uk_ad G 41)), (1, .int m), (2, .int i8)] [] u9 := by
    refine uk_upl 8 ?_
    intro i8 ai8 bi8 ihi8  u9 hu9 fu9 jEi8
    obtain ⟨ki8, fki8, hki8⟩ := jEi8
    obtain ⟨ki8, rfl⟩ := ee_Fp (by first | assumption | lia | grind) fki8
    refine g_iload_n dX1_start_17 rfl ?_
    refine g_bipush (v := 8) dX1_start_18 (by decide) ?_
    refine g_icmp_ge (tgt := 44) dX1_start_20 (by decide) (fun c10 => ?_) (fun c10 => ?_)
    · refine g_aload_n dX1_start_44 rfl ?_
      refine g_iload_n dX1_start_45 rfl ?_
      refine cl_X1_54 (c := 41) (As := [.int m]) rfl (x_X1_putWaiting (G := G) hs hu9  m (by first | trivial | decide | lia | grind) (by first | trivial | decide | lia | grind) (d)) rfl (by omega) rfl rfl (Nat.le_of_ble_eq_true rfl) dX1_start_46 (fun r11 u12 q13 => ?_)
      obtain ⟨q13, Eq13⟩ := q13
      obtain ⟨rfl, mq13⟩ := q13
      obtain ⟨hu12, gu12⟩ := mq13
      have fu12 : fr 41 46 u u12 := fr_tr fu9 gu12 (by omega) (by omega)
      have eu12 : u12 = e_X1_putWaiting u9 m := Eq13
      exact g_vret dX1_start_49 rfl ⟨⟨rfl, hu12, fu12⟩, (by subst eu12; exact hki8.trans ((if_pos c10).trans (rfl)) : e_X1_start u m = u12).symm⟩
    · refine g_aload_n dX1_start_23 rfl ?_
      refine f_X1_22 rfl rfl dX1_start_24 ?_
      refine g_iload_n dX1_start_27 rfl ?_
      refine g_bipush (v := (-4)) dX1_start_28 (by decide) ?_
      have v14 : vp_in i8 8 := uk_vin 8 rfl (by first | decide | lia | grind) (by first | decide | lia | grind)
      have b15 := uk_cl v14
      refine g_iast rfl rfl v14 dX1_start_30 ?_
      refine g_mem (fun u16 eu16 => ?_)
      have hu16 : iv u16 := by rw [eu16]; exact iv_upF hu9 (uk_pick1 _ (by omega))
      have fu16 : fr 41 46 u u16 := by rw [eu16]; exact fr_up fu9 (by omega) (by omega)
      refine g_aload_n dX1_start_31 rfl ?_
      refine f_X1_25 rfl rfl dX1_start_32 ?_
      refine g_iload_n dX1_start_35 rfl ?_
      refine g_iconst (v := 0) dX1_start_36 (by decide) ?_
      have v17 : vp_in i8 8 := uk_vin 8 rfl (by first | decide | lia | grind) (by first | decide | lia | grind)
      have b18 := uk_cl v17
      refine g_iast rfl rfl v17 dX1_start_37 ?_
      refine g_mem (fun u19 eu19 => ?_)
      have hu19 : iv u19 := by rw [eu19]; exact iv_upF hu16 (uk_pick1 _ (by omega))
      have fu19 : fr 41 46 u u19 := by rw [eu19]; exact fr_up fu16 (by omega) (by omega)
      refine g_iinc (v := i8 + 1) dX1_start_38 rfl rfl (by decide) ?_
      refine g_pick (lv' := [(0, .ref (uk_ad G 41)), (1, .int m), (2, .int (i8 + 1))]) [0, 1, 2] rfl ?_
      refine g_goto (tgt := 17) dX1_start_41 (by decide) ?_
      refine g_pick (lv' := [(0, .ref (uk_ad G 41)), (1, .int m), (2, .int (i8 + 1))]) [0, 1, 2] rfl ?_
      exact ihi8 (by first | lia | grind)  u19 hu19 fu19  ⟨ki8, ee_Fs fki8 (by first | assumption | lia | grind), by subst eu19; subst eu16; exact hki8.trans ((if_neg c10).trans (rfl))⟩
  refine g_pick (lv' := [(0, .ref (uk_ad G 41)), (1, .int m), (2, .int 0)]) [0, 1, 2] rfl ?_
  exact L17_6 0 (by first | decide | lia | grind) (by first | decide | lia | grind)  u5 hu5 fu5  ⟨ee_K, ee_F0 _ _, by subst eu5; subst eu3; subst eu1; exact rfl⟩
def e_X1_takeWaiting (u : uk_Mem) : Int32 × uk_Mem := let x1 : Int32 := u.1 41 6; let x3 : Int32 := x1 - (1 : Int32); let u4 : uk_Mem := uk_up u 41 6 x3; let x6 : Int32 := u4.1 41 6; let x8 : Int32 := u4.1 45 x6.toNatClampNeg; (x8, u4)
abbrev qe_X1_takeWaiting (u : uk_Mem)  (r : Option Value) (u' : uk_Mem) : Prop := (q_X1_takeWaiting u r u') ∧ (r = some (.int (e_X1_takeWaiting u).1) ∧ u' = (e_X1_takeWaiting u).2)
set_option maxHeartbeats 4000000 in
set_option maxRecDepth 20000 in
theorem x_X1_takeWaiting {G : uk_D} (hs : uk_Sep G) {u : uk_Mem} (hu : iv u) (p0 : 1 ≤ u.1 41 6) (d : Nat) : uk_Meth G d mX1_takeWaiting [.ref (uk_ad G 41)] u (qe_X1_takeWaiting u) := by
  refine uk_Meth.of hs (by decide) (Nat.le_of_ble_eq_true rfl) (fun X => ?_)
  have f0 : fr 41 46 u u := fr_rf
  refine g_aload_n dX1_takeWaiting_0 rfl ?_
  refine g_dup dX1_takeWaiting_1 rfl ?_
  refine f_X1_31 rfl rfl dX1_takeWaiting_2 ?_
  refine g_topi (fun x1 ex1 => ?_)
  have rx1 : 0 ≤ x1 ∧ x1 ≤ 9 := by rw [ex1]; exact iv_at hu _ _ rfl
  have s2 : u.1 41 6 = x1 := ex1.symm
  refine g_iconst (v := 1) dX1_takeWaiting_5 (by decide) ?_
  refine g_isub dX1_takeWaiting_6 ?_
  refine g_topi (fun x3 ex3 => ?_)
  refine p_X1_31 rfl rfl dX1_takeWaiting_7 ?_
  refine g_mem (fun u4 eu4 => ?_)
  have hu4 : iv u4 := by rw [eu4]; exact iv_up hu rfl (by first | lia | grind) (by first | lia | grind)
  have fu4 : fr 41 46 u u4 := by rw [eu4]; exact fr_up f0 (by omega) (by omega)
  have s5 : u4.1 41 6 = x3 := by rw [eu4, uk_up_at]; exact if_pos ⟨rfl, rfl⟩
  refine g_aload_n dX1_takeWaiting_10 rfl ?_
  refine f_X1_28 rfl rfl dX1_takeWaiting_11 ?_
  refine g_aload_n dX1_takeWaiting_14 rfl ?_
  refine f_X1_31 rfl rfl dX1_takeWaiting_15 ?_
  refine g_topi (fun x6 ex6 => ?_)
  have rx6 : 0 ≤ x6 ∧ x6 ≤ 9 := by rw [ex6]; exact iv_at hu4 _ _ rfl
  have qx6 : x6 = x3 := by rw [ex6]; exact s5
  have v7 : vp_in x6 9 := uk_vin 9 rfl (by first | decide | lia | grind) (by first | decide | lia | grind)
  refine g_iald rfl rfl v7 dX1_takeWaiting_18 ?_
  refine g_topi (fun x8 ex8 => ?_)
  have bx8 := uk_cl v7
  have rx8 : 0 ≤ x8 ∧ x8 ≤ 7 := by rw [ex8]; exact iv_at hu4 _ _ (uk_pick1 _ (by omega))
  exact g_iret (ty := .int) dX1_takeWaiting_19 rfl rfl ⟨⟨⟨_, rfl, by first | trivial | lia | grind⟩, hu4, fu4⟩, ee_i (by subst ex8; subst ex6; subst eu4; subst ex3; subst ex1; exact rfl)⟩
def e_X1_lieDown (u : uk_Mem) (t : Int32) : uk_Mem := let x1 : Int32 := u.1 41 1; if (128 : Int32) ≤ x1 then (u) else (let x4 : Int32 := u.1 41 1; let u7 : uk_Mem := uk_up u 42 x4.toNatClampNeg t; let x8 : Int32 := u7.1 41 1; let x9 : Int32 := x8 + (1 : Int32); let u10 : uk_Mem := uk_up u7 41 1 x9; u10)
abbrev qe_X1_lieDown (u : uk_Mem) (t : Int32) (r : Option Value) (u' : uk_Mem) : Prop := (q_X1_lieDown u t r u') ∧ (u' = e_X1_lieDown u t)
set_option maxHeartbeats 4000000 in
set_option maxRecDepth 20000 in
theorem x_X1_lieDown {G : uk_D} (hs : uk_Sep G) {u : uk_Mem} (hu : iv u) (t : Int32) (p0 : 0 ≤ t) (p1 : t ≤ 7) (d : Nat) : uk_Meth G d mX1_lieDown [.ref (uk_ad G 41), .int t] u (qe_X1_lieDown u t) := by
  refine uk_Meth.of hs (by decide) (Nat.le_of_ble_eq_true rfl) (fun X => ?_)
  have f0 : fr 41 46 u u := fr_rf
  refine g_aload_n dX1_lieDown_0 rfl ?_
  refine f_X1_15 rfl rfl dX1_lieDown_1 ?_
  refine g_topi (fun x1 ex1 => ?_)
  have rx1 : 0 ≤ x1 ∧ x1 ≤ 128 := by rw [ex1]; exact iv_at hu _ _ rfl
  have s2 : u.1 41 1 = x1 := ex1.symm
  refine g_sipush (v := 128) dX1_lieDown_4 (by decide) ?_
  refine g_icmp_ge (tgt := 30) dX1_lieDown_7 (by decide) (fun c3 => ?_) (fun c3 => ?_)
  · exact g_vret dX1_lieDown_30 rfl ⟨⟨rfl, hu, f0⟩, (by subst ex1; exact (if_pos c3).trans (rfl) : e_X1_lieDown u t = u).symm⟩
  · refine g_aload_n dX1_lieDown_10 rfl ?_
    refine f_X1_9 rfl rfl dX1_lieDown_11 ?_
    refine g_aload_n dX1_lieDown_14 rfl ?_
    refine f_X1_15 rfl rfl dX1_lieDown_15 ?_
    refine g_topi (fun x4 ex4 => ?_)
    have rx4 : 0 ≤ x4 ∧ x4 ≤ 128 := by rw [ex4]; exact iv_at hu _ _ rfl
    have qx4 : x4 = x1 := by rw [ex4]; exact s2
    refine g_iload_n dX1_lieDown_18 rfl ?_
    have v5 : vp_in x4 128 := uk_vin 128 rfl (by first | decide | lia | grind) (by first | decide | lia | grind)
    have b6 := uk_cl v5
    refine g_iast rfl rfl v5 dX1_lieDown_19 ?_
    refine g_mem (fun u7 eu7 => ?_)
    have hu7 : iv u7 := by rw [eu7]; exact iv_up hu (uk_pick1 _ (by omega)) (by first | lia | grind) (by first | lia | grind)
    have fu7 : fr 41 46 u u7 := by rw [eu7]; exact fr_up f0 (by omega) (by omega)
    refine g_aload_n dX1_lieDown_20 rfl ?_
    refine g_dup dX1_lieDown_21 rfl ?_
    refine f_X1_15 rfl rfl dX1_lieDown_22 ?_
    refine g_topi (fun x8 ex8 => ?_)
    have rx8 : 0 ≤ x8 ∧ x8 ≤ 128 := by rw [ex8]; exact iv_at hu7 _ _ rfl
    have qx8 : x8 = x1 := by rw [ex8]; simp [eu7, uk_up_at, s2]
    refine g_iconst (v := 1) dX1_lieDown_25 (by decide) ?_
    refine g_iadd dX1_lieDown_26 ?_
    refine g_topi (fun x9 ex9 => ?_)
    refine p_X1_15 rfl rfl dX1_lieDown_27 ?_
    refine g_mem (fun u10 eu10 => ?_)
    have hu10 : iv u10 := by rw [eu10]; exact iv_up hu7 rfl (by first | lia | grind) (by first | lia | grind)
    have fu10 : fr 41 46 u u10 := by rw [eu10]; exact fr_up fu7 (by omega) (by omega)
    have s11 : u10.1 41 1 = x9 := by rw [eu10, uk_up_at]; exact if_pos ⟨rfl, rfl⟩
    exact g_vret dX1_lieDown_30 rfl ⟨⟨rfl, hu10, fu10⟩, (by subst eu10; subst ex9; subst ex8; subst eu7; subst ex4; subst ex1; exact (if_neg c3).trans (rfl) : e_X1_lieDown u t = u10).symm⟩
def e_X1_part (u : uk_Mem) (t : Int32) (k : Int32) : uk_Mem := let x1 : Int32 := u.1 41 2; let x3 : Int32 := x1 + (1 : Int32); let u4 : uk_Mem := uk_up u 41 2 x3; let x7 : Int32 := u4.1 44 t.toNatClampNeg; let x11 : Int32 := (e_X0_givesB u4 k x7); if x11 = 0 then (let x14 : Int32 := u4.1 15 t.toNatClampNeg; let u16 : uk_Mem := e_X1_putWaiting u4 x14; if k = (3 : Int32) then (let x20 : Int32 := u16.1 44 t.toNatClampNeg; let x21 : Int32 := (1 : Int32) - x20; let u24 : uk_Mem := uk_up u16 44 t.toNatClampNeg x21; u24) else (u16)) else (let x26 : Int32 := u4.1 16 t.toNatClampNeg; let u28 : uk_Mem := e_X1_putWaiting u4 x26; let x31 : Int32 := u28.1 15 t.toNatClampNeg; let u33 : uk_Mem := e_X1_putWaiting u28 x31; if k = (3 : Int32) then (let x37 : Int32 := u33.1 44 t.toNatClampNeg; let x38 : Int32 := (1 : Int32) - x37; let u41 : uk_Mem := uk_up u33 44 t.toNatClampNeg x38; u41) else (u33))
abbrev qe_X1_part (u : uk_Mem) (t : Int32) (k : Int32) (r : Option Value) (u' : uk_Mem) : Prop := (q_X1_part u t k r u') ∧ (u' = e_X1_part u t k)
set_option maxHeartbeats 4000000 in
set_option maxRecDepth 20000 in
theorem x_X1_part {G : uk_D} (hs : uk_Sep G) {u : uk_Mem} (hu : iv u) (t : Int32) (k : Int32) (p0 : 0 ≤ t) (p1 : t ≤ 7) (d : Nat) : uk_Meth G (d + 1) mX1_part [.ref (uk_ad G 41), .ref (uk_ad G 13), .int t, .int k] u (qe_X1_part u t k) := by
  refine uk_Meth.of hs (by decide) (Nat.le_of_ble_eq_true rfl) (fun X => ?_)
  have f0 : fr 41 46 u u := fr_rf
  refine g_aload_n dX1_part_0 rfl ?_
  refine g_dup dX1_part_1 rfl ?_
  refine f_X1_19 rfl rfl dX1_part_2 ?_
  refine g_topi (fun x1 ex1 => ?_)
  have s2 : u.1 41 2 = x1 := ex1.symm
  refine g_iconst (v := 1) dX1_part_5 (by decide) ?_
  refine g_iadd dX1_part_6 ?_
  refine g_topi (fun x3 ex3 => ?_)
  refine p_X1_19 rfl rfl dX1_part_7 ?_
  refine g_mem (fun u4 eu4 => ?_)
  have hu4 : iv u4 := by rw [eu4]; exact iv_upF hu rfl
  have fu4 : fr 41 46 u u4 := by rw [eu4]; exact fr_up f0 (by omega) (by omega)
  have s5 : u4.1 41 2 = x3 := by rw [eu4, uk_up_at]; exact if_pos ⟨rfl, rfl⟩
  refine g_iload_n dX1_part_10 rfl ?_
  refine g_aload_n dX1_part_11 rfl ?_
  refine f_X1_25 rfl rfl dX1_part_12 ?_
  refine g_iload_n dX1_part_15 rfl ?_
  have v6 : vp_in t 8 := uk_vin 8 rfl (by first | decide | lia | grind) (by first | decide | lia | grind)
  refine g_iald rfl rfl v6 dX1_part_16 ?_
  refine g_topi (fun x7 ex7 => ?_)
  refine cl_X1_57 (As := [.int k, .int x7]) rfl (x_X0_givesB (G := G) hs hu4  k x7  (d)) rfl (by omega) rfl (Nat.le_of_ble_eq_true rfl) dX1_part_17 (fun r8 u9 q10 => ?_)
  obtain ⟨q10, Eq10⟩ := q10
  obtain ⟨⟨x11, rfl, tx11, nx11, zx11⟩, mq10⟩ := q10
  rw [mq10]
  have ex11 : x11 = (e_X0_givesB u4 k x7) := ee_v Eq10
  refine g_if_eq (tgt := 33) dX1_part_20 (by decide) (fun c12 => ?_) (fun c12 => ?_)
  · have zc12 := zx11 c12
    refine g_aload_n dX1_part_33 rfl ?_
    refine g_aload_n dX1_part_34 rfl ?_
    refine f_X1_64 rfl rfl dX1_part_35 ?_
    refine g_iload_n dX1_part_38 rfl ?_
    have v13 : vp_in t 8 := uk_vin 8 rfl (by first | decide | lia | grind) (by first | decide | lia | grind)
    refine g_iald rfl rfl v13 dX1_part_39 ?_
    refine g_topi (fun x14 ex14 => ?_)
    have bx14 := uk_cl v13
    have rx14 : 0 ≤ x14 ∧ x14 ≤ 7 := by rw [ex14]; exact iv_at hu4 _ _ (uk_pick1 _ (by omega))
    refine cl_X1_54 (c := 41) (As := [.int x14]) rfl (x_X1_putWaiting (G := G) hs hu4  x14 (by first | trivial | decide | lia | grind) (by first | trivial | decide | lia | grind) (d)) rfl (by omega) rfl rfl (Nat.le_of_ble_eq_true rfl) dX1_part_40 (fun r15 u16 q17 => ?_)
    obtain ⟨q17, Eq17⟩ := q17
    obtain ⟨rfl, mq17⟩ := q17
    obtain ⟨hu16, gu16⟩ := mq17
    have fu16 : fr 41 46 u u16 := fr_tr fu4 gu16 (by omega) (by omega)
    have eu16 : u16 = e_X1_putWaiting u4 x14 := Eq17
    refine g_iload_n dX1_part_43 rfl ?_
    refine g_iconst (v := 3) dX1_part_44 (by decide) ?_
    refine g_icmp_ne (tgt := 62) dX1_part_45 (by decide) (fun c18 => ?_) (fun c18 => ?_)
    · exact g_vret dX1_part_62 rfl ⟨⟨rfl, hu16, fu16⟩, (by subst eu16; subst ex14; subst ex11; subst ex7; subst eu4; subst ex3; subst ex1; exact (if_pos c12).trans ((if_neg c18).trans (rfl)) : e_X1_part u t k = u16).symm⟩
    · refine g_aload_n dX1_part_48 rfl ?_
      refine f_X1_25 rfl rfl dX1_part_49 ?_
      refine g_iload_n dX1_part_52 rfl ?_
      refine g_iconst (v := 1) dX1_part_53 (by decide) ?_
      refine g_aload_n dX1_part_54 rfl ?_
      refine f_X1_25 rfl rfl dX1_part_55 ?_
      refine g_iload_n dX1_part_58 rfl ?_
      have v19 : vp_in t 8 := uk_vin 8 rfl (by first | decide | lia | grind) (by first | decide | lia | grind)
      refine g_iald rfl rfl v19 dX1_part_59 ?_
      refine g_topi (fun x20 ex20 => ?_)
      refine g_isub dX1_part_60 ?_
      refine g_topi (fun x21 ex21 => ?_)
      have v22 : vp_in t 8 := uk_vin 8 rfl (by first | decide | lia | grind) (by first | decide | lia | grind)
      have b23 := uk_cl v22
      refine g_iast rfl rfl v22 dX1_part_61 ?_
      refine g_mem (fun u24 eu24 => ?_)
      have hu24 : iv u24 := by rw [eu24]; exact iv_upF hu16 (uk_pick1 _ (by omega))
      have fu24 : fr 41 46 u u24 := by rw [eu24]; exact fr_up fu16 (by omega) (by omega)
      exact g_vret dX1_part_62 rfl ⟨⟨rfl, hu24, fu24⟩, (by subst eu24; subst ex21; subst ex20; subst eu16; subst ex14; subst ex11; subst ex7; subst eu4; subst ex3; subst ex1; exact (if_pos c12).trans ((if_pos c18).trans (rfl)) : e_X1_part u t k = u24).symm⟩
  · have zc12 := nx11 c12
    refine g_aload_n dX1_part_23 rfl ?_
    refine g_aload_n dX1_part_24 rfl ?_
    refine f_X1_61 rfl rfl dX1_part_25 ?_
    refine g_iload_n dX1_part_28 rfl ?_
    have v25 : vp_in t 8 := uk_vin 8 rfl (by first | decide | lia | grind) (by first | decide | lia | grind)
    refine g_iald rfl rfl v25 dX1_part_29 ?_
    refine g_topi (fun x26 ex26 => ?_)
    have bx26 := uk_cl v25
    have rx26 : 0 ≤ x26 ∧ x26 ≤ 7 := by rw [ex26]; exact iv_at hu4 _ _ (uk_pick1 _ (by omega))
    refine cl_X1_54 (c := 41) (As := [.int x26]) rfl (x_X1_putWaiting (G := G) hs hu4  x26 (by first | trivial | decide | lia | grind) (by first | trivial | decide | lia | grind) (d)) rfl (by omega) rfl rfl (Nat.le_of_ble_eq_true rfl) dX1_part_30 (fun r27 u28 q29 => ?_)
    obtain ⟨q29, Eq29⟩ := q29
    obtain ⟨rfl, mq29⟩ := q29
    obtain ⟨hu28, gu28⟩ := mq29
    have fu28 : fr 41 46 u u28 := fr_tr fu4 gu28 (by omega) (by omega)
    have eu28 : u28 = e_X1_putWaiting u4 x26 := Eq29
    refine g_aload_n dX1_part_33 rfl ?_
    refine g_aload_n dX1_part_34 rfl ?_
    refine f_X1_64 rfl rfl dX1_part_35 ?_
    refine g_iload_n dX1_part_38 rfl ?_
    have v30 : vp_in t 8 := uk_vin 8 rfl (by first | decide | lia | grind) (by first | decide | lia | grind)
    refine g_iald rfl rfl v30 dX1_part_39 ?_
    refine g_topi (fun x31 ex31 => ?_)
    have bx31 := uk_cl v30
    have rx31 : 0 ≤ x31 ∧ x31 ≤ 7 := by rw [ex31]; exact iv_at hu28 _ _ (uk_pick1 _ (by omega))
    refine cl_X1_54 (c := 41) (As := [.int x31]) rfl (x_X1_putWaiting (G := G) hs hu28  x31 (by first | trivial | decide | lia | grind) (by first | trivial | decide | lia | grind) (d)) rfl (by omega) rfl rfl (Nat.le_of_ble_eq_true rfl) dX1_part_40 (fun r32 u33 q34 => ?_)
    obtain ⟨q34, Eq34⟩ := q34
    obtain ⟨rfl, mq34⟩ := q34
    obtain ⟨hu33, gu33⟩ := mq34
    have fu33 : fr 41 46 u u33 := fr_tr fu28 gu33 (by omega) (by omega)
    have eu33 : u33 = e_X1_putWaiting u28 x31 := Eq34
    refine g_iload_n dX1_part_43 rfl ?_
    refine g_iconst (v := 3) dX1_part_44 (by decide) ?_
    refine g_icmp_ne (tgt := 62) dX1_part_45 (by decide) (fun c35 => ?_) (fun c35 => ?_)
    · exact g_vret dX1_part_62 rfl ⟨⟨rfl, hu33, fu33⟩, (by subst eu33; subst ex31; subst eu28; subst ex26; subst ex11; subst ex7; subst eu4; subst ex3; subst ex1; exact (if_neg c12).trans ((if_neg c35).trans (rfl)) : e_X1_part u t k = u33).symm⟩
    · refine g_aload_n dX1_part_48 rfl ?_
      refine f_X1_25 rfl rfl dX1_part_49 ?_
      refine g_iload_n dX1_part_52 rfl ?_
      refine g_iconst (v := 1) dX1_part_53 (by decide) ?_
      refine g_aload_n dX1_part_54 rfl ?_
      refine f_X1_25 rfl rfl dX1_part_55 ?_
      refine g_iload_n dX1_part_58 rfl ?_
      have v36 : vp_in t 8 := uk_vin 8 rfl (by first | decide | lia | grind) (by first | decide | lia | grind)
      refine g_iald rfl rfl v36 dX1_part_59 ?_
      refine g_topi (fun x37 ex37 => ?_)
      refine g_isub dX1_part_60 ?_
      refine g_topi (fun x38 ex38 => ?_)
      have v39 : vp_in t 8 := uk_vin 8 rfl (by first | decide | lia | grind) (by first | decide | lia | grind)
      have b40 := uk_cl v39
      refine g_iast rfl rfl v39 dX1_part_61 ?_
      refine g_mem (fun u41 eu41 => ?_)
      have hu41 : iv u41 := by rw [eu41]; exact iv_upF hu33 (uk_pick1 _ (by omega))
      have fu41 : fr 41 46 u u41 := by rw [eu41]; exact fr_up fu33 (by omega) (by omega)
      exact g_vret dX1_part_62 rfl ⟨⟨rfl, hu41, fu41⟩, (by subst eu41; subst ex38; subst ex37; subst eu33; subst ex31; subst eu28; subst ex26; subst ex11; subst ex7; subst eu4; subst ex3; subst ex1; exact (if_neg c12).trans ((if_pos c35).trans (rfl)) : e_X1_part u t k = u41).symm⟩
def l_X1_grind_90 : Nat → Int32 → uk_Mem → uk_Mem
  | 0, _, u13 => u13
  | K9 + 1, i12, u13 => if i12 < 0 then (u13) else (let x16 : Int32 := u13.1 45 i12.toNatClampNeg; let u18 : uk_Mem := e_X1_lieDown u13 x16; l_X1_grind_90  K9 (i12 - 1) u18)
def l_X1_grind_90_1 : Nat → Int32 → uk_Mem → uk_Mem
  | 0, _, u28 => u28
  | K9 + 1, i27, u28 => if i27 < 0 then (u28) else (let x31 : Int32 := u28.1 45 i27.toNatClampNeg; let u33 : uk_Mem := e_X1_lieDown u28 x31; l_X1_grind_90_1  K9 (i27 - 1) u33)
def l_X1_grind_90_2 : Nat → Int32 → uk_Mem → uk_Mem
  | 0, _, u42 => u42
  | K9 + 1, i41, u42 => if i41 < 0 then (u42) else (let x45 : Int32 := u42.1 45 i41.toNatClampNeg; let u47 : uk_Mem := e_X1_lieDown u42 x45; l_X1_grind_90_2  K9 (i41 - 1) u47)
def l_X1_grind_8 (n : Int32) : Nat → Int32 → uk_Mem → uk_Mem
  | 0, _, u6 => u6
  | K9 + 1, i5, u6 => if (255 : Int32) ≤ i5 then (let x8 : Int32 := u6.1 41 6; let x10 : Int32 := x8 - (1 : Int32); l_X1_grind_90  ee_K x10 u6) else (let x20 : Int32 := u6.1 41 2; if n ≤ x20 then (let x23 : Int32 := u6.1 41 6; let x25 : Int32 := x23 - (1 : Int32); l_X1_grind_90_1  ee_K x25 u6) else (let x35 : Int32 := u6.1 41 6; if x35 ≤ 0 then (let x38 : Int32 := u6.1 41 6; let x39 : Int32 := x38 - (1 : Int32); l_X1_grind_90_2  ee_K x39 u6) else (let x52 : Int32 := (e_X1_takeWaiting u6).1; let u50 : uk_Mem := (e_X1_takeWaiting u6).2; let x54 : Int32 := u50.1 14 x52.toNatClampNeg; if x54 = (4 : Int32) then (let u57 : uk_Mem := e_X1_lieDown u50 x52; l_X1_grind_8 n K9 (i5 + 1) u57) else (if x54 = (2 : Int32) then (let u64 : uk_Mem := e_X1_lieDown u50 x52; l_X1_grind_8 n K9 (i5 + 1) u64) else (let u61 : uk_Mem := e_X1_part u50 x52 x54; l_X1_grind_8 n K9 (i5 + 1) u61)))))
def e_X1_grind (u : uk_Mem) (m : Int32) (n : Int32) : uk_Mem := let u2 : uk_Mem := e_X1_start u m; l_X1_grind_8 n ee_K (0 : Int32) u2
abbrev qe_X1_grind (u : uk_Mem) (m : Int32) (n : Int32) (r : Option Value) (u' : uk_Mem) : Prop := (q_X1_grind u m n r u') ∧ (u' = e_X1_grind u m n)
set_option maxHeartbeats 4000000 in
set_option maxRecDepth 20000 in
theorem x_X1_grind {G : uk_D} (hs : uk_Sep G) {u : uk_Mem} (hu : iv u) (m : Int32) (n : Int32) (p0 : 0 ≤ m) (p1 : m ≤ 7) (d : Nat) : uk_Meth G (d + 2) mX1_grind [.ref (uk_ad G 41), .ref (uk_ad G 13), .int m, .int n] u (qe_X1_grind u m n) := by
  refine uk_Meth.of hs (by decide) (Nat.le_of_ble_eq_true rfl) (fun X => ?_)
  have f0 : fr 41 46 u u := fr_rf
  refine g_aload_n dX1_grind_0 rfl ?_
  refine g_iload_n dX1_grind_1 rfl ?_
  refine cl_X1_34 (c := 41) (As := [.int m]) rfl (x_X1_start (G := G) hs hu  m (by first | trivial | decide | lia | grind) (by first | trivial | decide | lia | grind) (d)) rfl (by omega) rfl rfl (Nat.le_of_ble_eq_true rfl) dX1_grind_2 (fun r1 u2 q3 => ?_)
  obtain ⟨q3, Eq3⟩ := q3
  obtain ⟨rfl, mq3⟩ := q3
  obtain ⟨hu2, gu2⟩ := mq3
  have fu2 : fr 41 46 u u2 := fr_tr f0 gu2 (by omega) (by omega)
  have eu2 : u2 = e_X1_start u m := Eq3
  refine g_iconst (v := 0) dX1_grind_5 (by decide) ?_
  refine g_istore dX1_grind_6 (by decide) ?_
  refine g_pick (lv' := [(0, .ref (uk_ad G 41)), (1, .ref (uk_ad G 13)), (2, .int m), (3, .int n), (4, .int 0)]) [0, 1, 2, 3, 4] rfl ?_
  have L8_3 : ∀ i5 : Int32, 0 ≤ i5 → i5 ≤ 255 → ∀ (u6 : uk_Mem), iv u6 → fr 41 46 u u6 → (∃ ki5 : Nat, ee_F 255 i5 ki5 ∧ e_X1_grind u m n = l_X1_grind_8 n ki5 i5 u6) → uk_G G X mX1_grind (d + 2) (qe_X1_grind u m n) 8 [(0, .ref (uk_ad G 41)), (1, .ref (uk_ad G 13)), (2, .int m), (3, .int n), (4, .int i5)] [] u6 := by
    refine uk_upl 255 ?_
    intro i5 ai5 bi5 ihi5  u6 hu6 fu6 jEi5
    obtain ⟨ki5, fki5, hki5⟩ := jEi5
    obtain ⟨ki5, rfl⟩ := ee_Fp (by first | assumption | lia | grind) fki5
    refine g_iload dX1_grind_8 rfl ?_
    refine g_sipush (v := 255) dX1_grind_10 (by decide) ?_
    refine g_icmp_ge (tgt := 82) dX1_grind_13 (by decide) (fun c7 => ?_) (fun c7 => ?_)
    · refine g_aload_n dX1_grind_82 rfl ?_
      refine f_X1_31 rfl rfl dX1_grind_83 ?_
      refine g_topi (fun x8 ex8 => ?_)
      have rx8 : 0 ≤ x8 ∧ x8 ≤ 9 := by rw [ex8]; exact iv_at hu6 _ _ rfl
      have s9 : u6.1 41 6 = x8 := ex8.symm
      refine g_iconst (v := 1) dX1_grind_86 (by decide) ?_
      refine g_isub dX1_grind_87 ?_
      refine g_topi (fun x10 ex10 => ?_)
      refine g_istore dX1_grind_88 (by decide) ?_
      refine g_pick (lv' := [(0, .ref (uk_ad G 41)), (1, .ref (uk_ad G 13)), (2, .int m), (3, .int n), (4, .int x10)]) [0, 1, 2, 3, 4] rfl ?_
      have L90_10 : ∀ i12 : Int32, -1 ≤ i12 → ∀ (u13 : uk_Mem), iv u13 → fr 41 46 u u13 → i12 ≤ 8 → (∃ ki12 : Nat, ee_D i12 ki12 ∧ e_X1_grind u m n = l_X1_grind_90  ki12 i12 u13) → uk_G G X mX1_grind (d + 2) (qe_X1_grind u m n) 90 [(0, .ref (uk_ad G 41)), (1, .ref (uk_ad G 13)), (2, .int m), (3, .int n), (4, .int i12)] [] u13 := by
        refine uk_dnl ?_
        intro i12 ai12 ihi12  u13 hu13 fu13 ji120 jEi12
        obtain ⟨ki12, fki12, hki12⟩ := jEi12
        obtain ⟨ki12, rfl⟩ := ee_Dp (by first | assumption | lia | grind) fki12
        refine g_iload dX1_grind_90 rfl ?_
        refine g_if_lt (tgt := 112) dX1_grind_92 (by decide) (fun c14 => ?_) (fun c14 => ?_)
        · exact g_vret dX1_grind_112 rfl ⟨⟨rfl, hu13, fu13⟩, (by exact hki12.trans ((if_pos c14).trans (rfl)) : e_X1_grind u m n = u13).symm⟩
        · refine g_aload_n dX1_grind_95 rfl ?_
          refine g_aload_n dX1_grind_96 rfl ?_
          refine f_X1_28 rfl rfl dX1_grind_97 ?_
          refine g_iload dX1_grind_100 rfl ?_
          have v15 : vp_in i12 9 := uk_vin 9 rfl (by first | decide | lia | grind) (by first | decide | lia | grind)
          refine g_iald rfl rfl v15 dX1_grind_102 ?_
          refine g_topi (fun x16 ex16 => ?_)
          have bx16 := uk_cl v15
          have rx16 : 0 ≤ x16 ∧ x16 ≤ 7 := by rw [ex16]; exact iv_at hu13 _ _ (uk_pick1 _ (by omega))
          refine cl_X1_47 (c := 41) (As := [.int x16]) rfl (x_X1_lieDown (G := G) hs hu13  x16 (by first | trivial | decide | lia | grind) (by first | trivial | decide | lia | grind) (d + 1)) rfl (by omega) rfl rfl (Nat.le_of_ble_eq_true rfl) dX1_grind_103 (fun r17 u18 q19 => ?_)
          obtain ⟨q19, Eq19⟩ := q19
          obtain ⟨rfl, mq19⟩ := q19
          obtain ⟨hu18, gu18⟩ := mq19
          have fu18 : fr 41 46 u u18 := fr_tr fu13 gu18 (by omega) (by omega)
          have eu18 : u18 = e_X1_lieDown u13 x16 := Eq19
          refine g_iinc (v := i12 - 1) dX1_grind_106 rfl (uk_m1 _) (by decide) ?_
          refine g_pick (lv' := [(0, .ref (uk_ad G 41)), (1, .ref (uk_ad G 13)), (2, .int m), (3, .int n), (4, .int (i12 - 1))]) [0, 1, 2, 3, 4] rfl ?_
          refine g_goto (tgt := 90) dX1_grind_109 (by decide) ?_
          refine g_pick (lv' := [(0, .ref (uk_ad G 41)), (1, .ref (uk_ad G 13)), (2, .int m), (3, .int n), (4, .int (i12 - 1))]) [0, 1, 2, 3, 4] rfl ?_
          exact ihi12 (by first | lia | grind)  u18 hu18 fu18 (by first | trivial | lia | grind) ⟨ki12, ee_Ds fki12 (by first | assumption | lia | grind), by subst eu18; subst ex16; exact hki12.trans ((if_neg c14).trans (rfl))⟩
      refine g_pick (lv' := [(0, .ref (uk_ad G 41)), (1, .ref (uk_ad G 13)), (2, .int m), (3, .int n), (4, .int x10)]) [0, 1, 2, 3, 4] rfl ?_
      exact L90_10 x10 (by first | decide | lia | grind)  u6 hu6 fu6 (by first | trivial | lia | grind) ⟨ee_K, ee_D0 _, by subst ex10; subst ex8; exact hki5.trans ((if_pos c7).trans (rfl))⟩
    · refine g_aload_n dX1_grind_16 rfl ?_
      refine f_X1_19 rfl rfl dX1_grind_17 ?_
      refine g_topi (fun x20 ex20 => ?_)
      have s21 : u6.1 41 2 = x20 := ex20.symm
      refine g_iload_n dX1_grind_20 rfl ?_
      refine g_icmp_ge (tgt := 82) dX1_grind_21 (by decide) (fun c22 => ?_) (fun c22 => ?_)
      · refine g_aload_n dX1_grind_82 rfl ?_
        refine f_X1_31 rfl rfl dX1_grind_83 ?_
        refine g_topi (fun x23 ex23 => ?_)
        have rx23 : 0 ≤ x23 ∧ x23 ≤ 9 := by rw [ex23]; exact iv_at hu6 _ _ rfl
        have s24 : u6.1 41 6 = x23 := ex23.symm
        refine g_iconst (v := 1) dX1_grind_86 (by decide) ?_
        refine g_isub dX1_grind_87 ?_
        refine g_topi (fun x25 ex25 => ?_)
        refine g_istore dX1_grind_88 (by decide) ?_
        refine g_pick (lv' := [(0, .ref (uk_ad G 41)), (1, .ref (uk_ad G 13)), (2, .int m), (3, .int n), (4, .int x25)]) [0, 1, 2, 3, 4] rfl ?_
        have L90_25 : ∀ i27 : Int32, -1 ≤ i27 → ∀ (u28 : uk_Mem), iv u28 → fr 41 46 u u28 → i27 ≤ 8 → (∃ ki27 : Nat, ee_D i27 ki27 ∧ e_X1_grind u m n = l_X1_grind_90_1  ki27 i27 u28) → uk_G G X mX1_grind (d + 2) (qe_X1_grind u m n) 90 [(0, .ref (uk_ad G 41)), (1, .ref (uk_ad G 13)), (2, .int m), (3, .int n), (4, .int i27)] [] u28 := by
          refine uk_dnl ?_
          intro i27 ai27 ihi27  u28 hu28 fu28 ji270 jEi27
          obtain ⟨ki27, fki27, hki27⟩ := jEi27
          obtain ⟨ki27, rfl⟩ := ee_Dp (by first | assumption | lia | grind) fki27
          refine g_iload dX1_grind_90 rfl ?_
          refine g_if_lt (tgt := 112) dX1_grind_92 (by decide) (fun c29 => ?_) (fun c29 => ?_)
          · exact g_vret dX1_grind_112 rfl ⟨⟨rfl, hu28, fu28⟩, (by exact hki27.trans ((if_pos c29).trans (rfl)) : e_X1_grind u m n = u28).symm⟩
          · refine g_aload_n dX1_grind_95 rfl ?_
            refine g_aload_n dX1_grind_96 rfl ?_
            refine f_X1_28 rfl rfl dX1_grind_97 ?_
            refine g_iload dX1_grind_100 rfl ?_
            have v30 : vp_in i27 9 := uk_vin 9 rfl (by first | decide | lia | grind) (by first | decide | lia | grind)
            refine g_iald rfl rfl v30 dX1_grind_102 ?_
            refine g_topi (fun x31 ex31 => ?_)
            have bx31 := uk_cl v30
            have rx31 : 0 ≤ x31 ∧ x31 ≤ 7 := by rw [ex31]; exact iv_at hu28 _ _ (uk_pick1 _ (by omega))
            refine cl_X1_47 (c := 41) (As := [.int x31]) rfl (x_X1_lieDown (G := G) hs hu28  x31 (by first | trivial | decide | lia | grind) (by first | trivial | decide | lia | grind) (d + 1)) rfl (by omega) rfl rfl (Nat.le_of_ble_eq_true rfl) dX1_grind_103 (fun r32 u33 q34 => ?_)
            obtain ⟨q34, Eq34⟩ := q34
            obtain ⟨rfl, mq34⟩ := q34
            obtain ⟨hu33, gu33⟩ := mq34
            have fu33 : fr 41 46 u u33 := fr_tr fu28 gu33 (by omega) (by omega)
            have eu33 : u33 = e_X1_lieDown u28 x31 := Eq34
            refine g_iinc (v := i27 - 1) dX1_grind_106 rfl (uk_m1 _) (by decide) ?_
            refine g_pick (lv' := [(0, .ref (uk_ad G 41)), (1, .ref (uk_ad G 13)), (2, .int m), (3, .int n), (4, .int (i27 - 1))]) [0, 1, 2, 3, 4] rfl ?_
            refine g_goto (tgt := 90) dX1_grind_109 (by decide) ?_
            refine g_pick (lv' := [(0, .ref (uk_ad G 41)), (1, .ref (uk_ad G 13)), (2, .int m), (3, .int n), (4, .int (i27 - 1))]) [0, 1, 2, 3, 4] rfl ?_
            exact ihi27 (by first | lia | grind)  u33 hu33 fu33 (by first | trivial | lia | grind) ⟨ki27, ee_Ds fki27 (by first | assumption | lia | grind), by subst eu33; subst ex31; exact hki27.trans ((if_neg c29).trans (rfl))⟩
        refine g_pick (lv' := [(0, .ref (uk_ad G 41)), (1, .ref (uk_ad G 13)), (2, .int m), (3, .int n), (4, .int x25)]) [0, 1, 2, 3, 4] rfl ?_
        exact L90_25 x25 (by first | decide | lia | grind)  u6 hu6 fu6 (by first | trivial | lia | grind) ⟨ee_K, ee_D0 _, by subst ex25; subst ex23; subst ex20; exact hki5.trans ((if_neg c7).trans ((if_pos c22).trans (rfl)))⟩
      · refine g_aload_n dX1_grind_24 rfl ?_
        refine f_X1_31 rfl rfl dX1_grind_25 ?_
        refine g_topi (fun x35 ex35 => ?_)
        have rx35 : 0 ≤ x35 ∧ x35 ≤ 9 := by rw [ex35]; exact iv_at hu6 _ _ rfl
        have s36 : u6.1 41 6 = x35 := ex35.symm
        refine g_if_le (tgt := 82) dX1_grind_28 (by decide) (fun c37 => ?_) (fun c37 => ?_)
        · refine g_aload_n dX1_grind_82 rfl ?_
          refine f_X1_31 rfl rfl dX1_grind_83 ?_
          refine g_topi (fun x38 ex38 => ?_)
          have rx38 : 0 ≤ x38 ∧ x38 ≤ 9 := by rw [ex38]; exact iv_at hu6 _ _ rfl
          have qx38 : x38 = x35 := by rw [ex38]; exact s36
          refine g_iconst (v := 1) dX1_grind_86 (by decide) ?_
          refine g_isub dX1_grind_87 ?_
          refine g_topi (fun x39 ex39 => ?_)
          refine g_istore dX1_grind_88 (by decide) ?_
          refine g_pick (lv' := [(0, .ref (uk_ad G 41)), (1, .ref (uk_ad G 13)), (2, .int m), (3, .int n), (4, .int x39)]) [0, 1, 2, 3, 4] rfl ?_
          have L90_39 : ∀ i41 : Int32, -1 ≤ i41 → ∀ (u42 : uk_Mem), iv u42 → fr 41 46 u u42 → i41 ≤ 8 → (∃ ki41 : Nat, ee_D i41 ki41 ∧ e_X1_grind u m n = l_X1_grind_90_2  ki41 i41 u42) → uk_G G X mX1_grind (d + 2) (qe_X1_grind u m n) 90 [(0, .ref (uk_ad G 41)), (1, .ref (uk_ad G 13)), (2, .int m), (3, .int n), (4, .int i41)] [] u42 := by
            refine uk_dnl ?_
            intro i41 ai41 ihi41  u42 hu42 fu42 ji410 jEi41
            obtain ⟨ki41, fki41, hki41⟩ := jEi41
            obtain ⟨ki41, rfl⟩ := ee_Dp (by first | assumption | lia | grind) fki41
            refine g_iload dX1_grind_90 rfl ?_
            refine g_if_lt (tgt := 112) dX1_grind_92 (by decide) (fun c43 => ?_) (fun c43 => ?_)
            · exact g_vret dX1_grind_112 rfl ⟨⟨rfl, hu42, fu42⟩, (by exact hki41.trans ((if_pos c43).trans (rfl)) : e_X1_grind u m n = u42).symm⟩
            · refine g_aload_n dX1_grind_95 rfl ?_
              refine g_aload_n dX1_grind_96 rfl ?_
              refine f_X1_28 rfl rfl dX1_grind_97 ?_
              refine g_iload dX1_grind_100 rfl ?_
              have v44 : vp_in i41 9 := uk_vin 9 rfl (by first | decide | lia | grind) (by first | decide | lia | grind)
              refine g_iald rfl rfl v44 dX1_grind_102 ?_
              refine g_topi (fun x45 ex45 => ?_)
              have bx45 := uk_cl v44
              have rx45 : 0 ≤ x45 ∧ x45 ≤ 7 := by rw [ex45]; exact iv_at hu42 _ _ (uk_pick1 _ (by omega))
              refine cl_X1_47 (c := 41) (As := [.int x45]) rfl (x_X1_lieDown (G := G) hs hu42  x45 (by first | trivial | decide | lia | grind) (by first | trivial | decide | lia | grind) (d + 1)) rfl (by omega) rfl rfl (Nat.le_of_ble_eq_true rfl) dX1_grind_103 (fun r46 u47 q48 => ?_)
              obtain ⟨q48, Eq48⟩ := q48
              obtain ⟨rfl, mq48⟩ := q48
              obtain ⟨hu47, gu47⟩ := mq48
              have fu47 : fr 41 46 u u47 := fr_tr fu42 gu47 (by omega) (by omega)
              have eu47 : u47 = e_X1_lieDown u42 x45 := Eq48
              refine g_iinc (v := i41 - 1) dX1_grind_106 rfl (uk_m1 _) (by decide) ?_
              refine g_pick (lv' := [(0, .ref (uk_ad G 41)), (1, .ref (uk_ad G 13)), (2, .int m), (3, .int n), (4, .int (i41 - 1))]) [0, 1, 2, 3, 4] rfl ?_
              refine g_goto (tgt := 90) dX1_grind_109 (by decide) ?_
              refine g_pick (lv' := [(0, .ref (uk_ad G 41)), (1, .ref (uk_ad G 13)), (2, .int m), (3, .int n), (4, .int (i41 - 1))]) [0, 1, 2, 3, 4] rfl ?_
              exact ihi41 (by first | lia | grind)  u47 hu47 fu47 (by first | trivial | lia | grind) ⟨ki41, ee_Ds fki41 (by first | assumption | lia | grind), by subst eu47; subst ex45; exact hki41.trans ((if_neg c43).trans (rfl))⟩
          refine g_pick (lv' := [(0, .ref (uk_ad G 41)), (1, .ref (uk_ad G 13)), (2, .int m), (3, .int n), (4, .int x39)]) [0, 1, 2, 3, 4] rfl ?_
          exact L90_39 x39 (by first | decide | lia | grind)  u6 hu6 fu6 (by first | trivial | lia | grind) ⟨ee_K, ee_D0 _, by subst ex39; subst ex38; subst ex35; subst ex20; exact hki5.trans ((if_neg c7).trans ((if_neg c22).trans ((if_pos c37).trans (rfl))))⟩
        · refine g_aload_n dX1_grind_31 rfl ?_
          refine cl_X1_38 (c := 41) (As := []) rfl (x_X1_takeWaiting (G := G) hs hu6   (by first | trivial | decide | lia | grind) (d + 1)) rfl (by omega) rfl rfl (Nat.le_of_ble_eq_true rfl) dX1_grind_32 (fun r49 u50 q51 => ?_)
          obtain ⟨q51, Eq51⟩ := q51
          obtain ⟨⟨x52, rfl, tx52⟩, mq51⟩ := q51
          obtain ⟨hu50, gu50⟩ := mq51
          have fu50 : fr 41 46 u u50 := fr_tr fu6 gu50 (by omega) (by omega)
          have ex52 : x52 = (e_X1_takeWaiting u6).1 := ee_v Eq51.1
          have eu50 : u50 = (e_X1_takeWaiting u6).2 := Eq51.2
          refine g_istore dX1_grind_35 (by decide) ?_
          refine g_pick (lv' := [(0, .ref (uk_ad G 41)), (1, .ref (uk_ad G 13)), (2, .int m), (3, .int n), (4, .int i5), (5, .int x52)]) [0, 1, 2, 3, 4, 5] rfl ?_
          refine g_aload_n dX1_grind_37 rfl ?_
          refine f_X1_42 rfl rfl dX1_grind_38 ?_
          refine g_iload dX1_grind_41 rfl ?_
          have v53 : vp_in x52 8 := uk_vin 8 rfl (by first | decide | lia | grind) (by first | decide | lia | grind)
          refine g_iald rfl rfl v53 dX1_grind_43 ?_
          refine g_topi (fun x54 ex54 => ?_)
          refine g_istore dX1_grind_44 (by decide) ?_
          refine g_pick (lv' := [(0, .ref (uk_ad G 41)), (1, .ref (uk_ad G 13)), (2, .int m), (3, .int n), (4, .int i5), (5, .int x52), (6, .int x54)]) [0, 1, 2, 3, 4, 5, 6] rfl ?_
          refine g_iload dX1_grind_46 rfl ?_
          refine g_iconst (v := 4) dX1_grind_48 (by decide) ?_
          refine g_icmp_eq (tgt := 58) dX1_grind_49 (by decide) (fun c55 => ?_) (fun c55 => ?_)
          · refine g_aload_n dX1_grind_58 rfl ?_
            refine g_iload dX1_grind_59 rfl ?_
            refine cl_X1_47 (c := 41) (As := [.int x52]) rfl (x_X1_lieDown (G := G) hs hu50  x52 (by first | trivial | decide | lia | grind) (by first | trivial | decide | lia | grind) (d + 1)) rfl (by omega) rfl rfl (Nat.le_of_ble_eq_true rfl) dX1_grind_61 (fun r56 u57 q58 => ?_)
            obtain ⟨q58, Eq58⟩ := q58
            obtain ⟨rfl, mq58⟩ := q58
            obtain ⟨hu57, gu57⟩ := mq58
            have fu57 : fr 41 46 u u57 := fr_tr fu50 gu57 (by omega) (by omega)
            have eu57 : u57 = e_X1_lieDown u50 x52 := Eq58
            refine g_goto (tgt := 76) dX1_grind_64 (by decide) ?_
            refine g_iinc (v := i5 + 1) dX1_grind_76 rfl rfl (by decide) ?_
            refine g_pick (lv' := [(0, .ref (uk_ad G 41)), (1, .ref (uk_ad G 13)), (2, .int m), (3, .int n), (4, .int (i5 + 1)), (5, .int x52), (6, .int x54)]) [0, 1, 2, 3, 4, 5, 6] rfl ?_
            refine g_goto (tgt := 8) dX1_grind_79 (by decide) ?_
            refine g_pick (lv' := [(0, .ref (uk_ad G 41)), (1, .ref (uk_ad G 13)), (2, .int m), (3, .int n), (4, .int (i5 + 1))]) [0, 1, 2, 3, 4] rfl ?_
            exact ihi5 (by first | lia | grind)  u57 hu57 fu57  ⟨ki5, ee_Fs fki5 (by first | assumption | lia | grind), by subst eu57; subst ex54; subst eu50; subst ex52; subst ex35; subst ex20; exact hki5.trans ((if_neg c7).trans ((if_neg c22).trans ((if_neg c37).trans ((if_pos c55).trans (rfl)))))⟩
          · refine g_iload dX1_grind_52 rfl ?_
            refine g_iconst (v := 2) dX1_grind_54 (by decide) ?_
            refine g_icmp_ne (tgt := 67) dX1_grind_55 (by decide) (fun c59 => ?_) (fun c59 => ?_)
            · refine g_aload_n dX1_grind_67 rfl ?_
              refine g_aload_n dX1_grind_68 rfl ?_
              refine g_iload dX1_grind_69 rfl ?_
              refine g_iload dX1_grind_71 rfl ?_
              refine cl_X1_50 (c := 41) (As := [.ref (uk_ad G 13), .int x52, .int x54]) rfl (x_X1_part (G := G) hs hu50  x52 x54 (by first | trivial | decide | lia | grind) (by first | trivial | decide | lia | grind) (d)) rfl (by omega) rfl rfl (Nat.le_of_ble_eq_true rfl) dX1_grind_73 (fun r60 u61 q62 => ?_)
              obtain ⟨q62, Eq62⟩ := q62
              obtain ⟨rfl, mq62⟩ := q62
              obtain ⟨hu61, gu61⟩ := mq62
              have fu61 : fr 41 46 u u61 := fr_tr fu50 gu61 (by omega) (by omega)
              have eu61 : u61 = e_X1_part u50 x52 x54 := Eq62
              refine g_iinc (v := i5 + 1) dX1_grind_76 rfl rfl (by decide) ?_
              refine g_pick (lv' := [(0, .ref (uk_ad G 41)), (1, .ref (uk_ad G 13)), (2, .int m), (3, .int n), (4, .int (i5 + 1)), (5, .int x52), (6, .int x54)]) [0, 1, 2, 3, 4, 5, 6] rfl ?_
              refine g_goto (tgt := 8) dX1_grind_79 (by decide) ?_
              refine g_pick (lv' := [(0, .ref (uk_ad G 41)), (1, .ref (uk_ad G 13)), (2, .int m), (3, .int n), (4, .int (i5 + 1))]) [0, 1, 2, 3, 4] rfl ?_
              exact ihi5 (by first | lia | grind)  u61 hu61 fu61  ⟨ki5, ee_Fs fki5 (by first | assumption | lia | grind), by subst eu61; subst ex54; subst eu50; subst ex52; subst ex35; subst ex20; exact hki5.trans ((if_neg c7).trans ((if_neg c22).trans ((if_neg c37).trans ((if_neg c55).trans ((if_neg c59).trans (rfl))))))⟩
            · refine g_aload_n dX1_grind_58 rfl ?_
              refine g_iload dX1_grind_59 rfl ?_
              refine cl_X1_47 (c := 41) (As := [.int x52]) rfl (x_X1_lieDown (G := G) hs hu50  x52 (by first | trivial | decide | lia | grind) (by first | trivial | decide | lia | grind) (d + 1)) rfl (by omega) rfl rfl (Nat.le_of_ble_eq_true rfl) dX1_grind_61 (fun r63 u64 q65 => ?_)
              obtain ⟨q65, Eq65⟩ := q65
              obtain ⟨rfl, mq65⟩ := q65
              obtain ⟨hu64, gu64⟩ := mq65
              have fu64 : fr 41 46 u u64 := fr_tr fu50 gu64 (by omega) (by omega)
              have eu64 : u64 = e_X1_lieDown u50 x52 := Eq65
              refine g_goto (tgt := 76) dX1_grind_64 (by decide) ?_
              refine g_iinc (v := i5 + 1) dX1_grind_76 rfl rfl (by decide) ?_
              refine g_pick (lv' := [(0, .ref (uk_ad G 41)), (1, .ref (uk_ad G 13)), (2, .int m), (3, .int n), (4, .int (i5 + 1)), (5, .int x52), (6, .int x54)]) [0, 1, 2, 3, 4, 5, 6] rfl ?_
              refine g_goto (tgt := 8) dX1_grind_79 (by decide) ?_
              refine g_pick (lv' := [(0, .ref (uk_ad G 41)), (1, .ref (uk_ad G 13)), (2, .int m), (3, .int n), (4, .int (i5 + 1))]) [0, 1, 2, 3, 4] rfl ?_
              exact ihi5 (by first | lia | grind)  u64 hu64 fu64  ⟨ki5, ee_Fs fki5 (by first | assumption | lia | grind), by subst eu64; subst ex54; subst eu50; subst ex52; subst ex35; subst ex20; exact hki5.trans ((if_neg c7).trans ((if_neg c22).trans ((if_neg c37).trans ((if_neg c55).trans ((if_pos c59).trans (rfl))))))⟩
  refine g_pick (lv' := [(0, .ref (uk_ad G 41)), (1, .ref (uk_ad G 13)), (2, .int m), (3, .int n), (4, .int 0)]) [0, 1, 2, 3, 4] rfl ?_
  exact L8_3 0 (by first | decide | lia | grind) (by first | decide | lia | grind)  u2 hu2 fu2  ⟨ee_K, ee_F0 _ _, by subst eu2; exact rfl⟩