abbrev q_X7_keepDraft_t (u : uk_Mem)  (r : Option Value) (u' : uk_Mem) : Prop := (r = none) ∧ (iv u' ∧ fk [60, 61, 63, 64, 65] [7, 10, 11, 13, 14, 15, 16, 17, 18, 19, 22, 28] u u' ∧ ri u' ∧ u'.1 60 3 = u.1 60 7 ∧ cpy (u'.1 61) (u.1 66) 51 ∧ cpy (u'.1 64) (u.1 67) (u.1 60 7) ∧ cpy (u'.1 65) (u.1 68) (u.1 60 7) ∧ u'.1 63 0 = 0 ∧ u'.1 63 1 = 0)
set_option maxHeartbeats 4000000 in
set_option maxRecDepth 20000 in
theorem c_X7_keepDraft_t {G : uk_D} (hs : uk_Sep G) {u : uk_Mem} (hu : iv u) (hrd : rd u)  (d : Nat) : uk_Meth G d mX7_keepDraft [.ref (uk_ad G 60)] u (q_X7_keepDraft_t u) := by
  refine uk_Meth.of hs (by decide) (Nat.le_of_ble_eq_true rfl) (fun X => ?_)
  have f0 : fk [60, 61, 63, 64, 65] [7, 10, 11, 13, 14, 15, 16, 17, 18, 19, 22, 28] u u := fk_rf
  obtain ⟨t1, Tt1⟩ : ∃ t, u.1 60 3 = t := ⟨_, rfl⟩
  refine g_iconst (v := 0) dX7_keepDraft_0 (by decide) ?_
  refine g_istore_n dX7_keepDraft_1 (by decide) ?_
  refine g_pick (lv' := [(0, .ref (uk_ad G 60)), (1, .int 0)]) [0, 1] rfl ?_
  have L2_1 : ∀ i3 : Int32, 0 ≤ i3 → i3 ≤ 51 → ∀ (u4 : uk_Mem), iv u4 → fk [60, 61, 63, 64, 65] [7, 10, 11, 13, 14, 15, 16, 17, 18, 19, 22, 28] u u4 → cpy (u4.1 61) (u.1 66) i3 → uk_G G X mX7_keepDraft d (q_X7_keepDraft_t u) 2 [(0, .ref (uk_ad G 60)), (1, .int i3)] [] u4 := by
    refine uk_upl 51 ?_
    intro i3 ai3 bi3 ihi3  u4 hu4 fu4 ji30
    obtain ⟨t5, Tt5⟩ : ∃ t, u4.1 60 3 = t := ⟨_, rfl⟩
    have Rt5 : 0 ≤ t5 ∧ t5 ≤ 8 := by rw [← Tt5]; exact iv_at hu4 _ _ rfl
    refine g_iload_n dX7_keepDraft_2 rfl ?_
    refine g_bipush (v := 51) dX7_keepDraft_3 (by decide) ?_
    refine g_icmp_ge (tgt := 26) dX7_keepDraft_5 (by decide) (fun c6 => ?_) (fun c6 => ?_)
    · refine g_aload_n dX7_keepDraft_26 rfl ?_
      refine g_aload_n dX7_keepDraft_27 rfl ?_
      refine f_X7_69 rfl rfl dX7_keepDraft_28 ?_
      refine g_topi (fun x7 ex7 => ?_)
      have rx7 : 0 ≤ x7 ∧ x7 ≤ 8 := by rw [ex7]; exact iv_at hu4 _ _ rfl
      have s8 : u4.1 60 7 = x7 := ex7.symm
      refine p_X7_79 rfl rfl dX7_keepDraft_31 ?_
      refine g_mem (fun u9 eu9 => ?_)
      have hu9 : iv u9 := by rw [eu9]; exact iv_up hu4 rfl (by first | lia | grind) (by first | lia | grind)
      have fu9 : fk [60, 61, 63, 64, 65] [7, 10, 11, 13, 14, 15, 16, 17, 18, 19, 22, 28] u u9 := by rw [eu9]; exact fk_up fu4 (by decide) (fun _ => by decide)
      have s10 : u9.1 60 3 = x7 := by rw [eu9, uk_up_at]; exact if_pos ⟨rfl, rfl⟩
      refine g_iconst (v := 0) dX7_keepDraft_34 (by decide) ?_
      refine g_istore_n dX7_keepDraft_35 (by decide) ?_
      refine g_pick (lv' := [(0, .ref (uk_ad G 60)), (1, .int 0)]) [0, 1] rfl ?_
      have L36_10 : ∀ i12 : Int32, 0 ≤ i12 → i12 ≤ 8 → ∀ (u13 : uk_Mem), iv u13 → fk [60, 61, 63, 64, 65] [7, 10, 11, 13, 14, 15, 16, 17, 18, 19, 22, 28] u u13 → cpy (u13.1 61) (u.1 66) 51 → cpy (u13.1 64) (u.1 67) i12 → cpy (u13.1 65) (u.1 68) i12 → u13.1 60 3 = u.1 60 7 → uk_G G X mX7_keepDraft d (q_X7_keepDraft_t u) 36 [(0, .ref (uk_ad G 60)), (1, .int i12)] [] u13 := by
        refine uk_upl 8 ?_
        intro i12 ai12 bi12 ihi12  u13 hu13 fu13 ji120 ji121 ji122 ji123
        have C61_u13 : u13.1 61 = u13.1 61 := rfl
        have C63_u13 : u13.1 63 = u13.1 63 := rfl
        have C64_u13 : u13.1 64 = u13.1 64 := rfl
        have C65_u13 : u13.1 65 = u13.1 65 := rfl
        obtain ⟨t14, Tt14⟩ : ∃ t, u13.1 60 3 = t := ⟨_, rfl⟩
        have Rt14 : 0 ≤ t14 ∧ t14 ≤ 8 := by rw [← Tt14]; exact iv_at hu13 _ _ rfl
        refine g_iload_n dX7_keepDraft_36 rfl ?_
        refine g_aload_n dX7_keepDraft_37 rfl ?_
        refine f_X7_79 rfl rfl dX7_keepDraft_38 ?_
        refine g_topi (fun x15 ex15 => ?_)
        have rx15 : 0 ≤ x15 ∧ x15 ≤ 8 := by rw [ex15]; exact iv_at hu13 _ _ rfl
        have qx15 : x15 = t14 := ex15.trans Tt14
        refine g_icmp_ge (tgt := 74) dX7_keepDraft_41 (by decide) (fun c16 => ?_) (fun c16 => ?_)
        · refine g_aload_n dX7_keepDraft_74 rfl ?_
          refine f_X7_16 rfl rfl dX7_keepDraft_75 ?_
          refine g_iconst (v := 0) dX7_keepDraft_78 (by decide) ?_
          refine g_iconst (v := 0) dX7_keepDraft_79 (by decide) ?_
          have v17 : vp_in 0 2 := uk_vin 2 rfl (by first | decide | lia | grind) (by first | decide | lia | grind)
          have b18 := uk_cl v17
          refine g_zast rfl rfl v17 dX7_keepDraft_80 ?_
          rw [show vp_nar .boolean 0 = 0 from rfl]
          refine g_mem (fun u19 eu19 => ?_)
          have hu19 : iv u19 := by rw [eu19]; exact iv_up hu13 (uk_pick1 _ (by omega)) (by first | lia | grind) (by first | lia | grind)
          have fu19 : fk [60, 61, 63, 64, 65] [7, 10, 11, 13, 14, 15, 16, 17, 18, 19, 22, 28] u u19 := by rw [eu19]; exact fk_up fu13 (by decide) (fun q => absurd q (by decide))
          have T20 : u19.1 60 3 = t14 := by rw [eu19]; exact (congrFun (uk_up_oc (by decide)) _).trans Tt14
          have C21 : u19.1 61 = u13.1 61 := by rw [eu19]; exact (uk_up_oc (by decide)).trans C61_u13
          have C22 : u19.1 63 = (upd (u13.1 63) (0 : Int32).toNatClampNeg 0) := by rw [eu19, uk_up_self, C63_u13]
          have C23 : u19.1 64 = u13.1 64 := by rw [eu19]; exact (uk_up_oc (by decide)).trans C64_u13
          have C24 : u19.1 65 = u13.1 65 := by rw [eu19]; exact (uk_up_oc (by decide)).trans C65_u13
          refine g_aload_n dX7_keepDraft_81 rfl ?_
          refine f_X7_16 rfl rfl dX7_keepDraft_82 ?_
          refine g_iconst (v := 1) dX7_keepDraft_85 (by decide) ?_
          refine g_iconst (v := 0) dX7_keepDraft_86 (by decide) ?_
          have v25 : vp_in 1 2 := uk_vin 2 rfl (by first | decide | lia | grind) (by first | decide | lia | grind)
          have b26 := uk_cl v25
          refine g_zast rfl rfl v25 dX7_keepDraft_87 ?_
          rw [show vp_nar .boolean 0 = 0 from rfl]
          refine g_mem (fun u27 eu27 => ?_)
          have hu27 : iv u27 := by rw [eu27]; exact iv_up hu19 (uk_pick1 _ (by omega)) (by first | lia | grind) (by first | lia | grind)
          have fu27 : fk [60, 61, 63, 64, 65] [7, 10, 11, 13, 14, 15, 16, 17, 18, 19, 22, 28] u u27 := by rw [eu27]; exact fk_up fu19 (by decide) (fun q => absurd q (by decide))
          have T28 : u27.1 60 3 = t14 := by rw [eu27]; exact (congrFun (uk_up_oc (by decide)) _).trans T20
          have C29 : u27.1 61 = u13.1 61 := by rw [eu27]; exact (uk_up_oc (by decide)).trans C21
          have C30 : u27.1 63 = (upd ((upd (u13.1 63) (0 : Int32).toNatClampNeg 0)) (1 : Int32).toNatClampNeg 0) := by rw [eu27, uk_up_self, C22]
          have C31 : u27.1 64 = u13.1 64 := by rw [eu27]; exact (uk_up_oc (by decide)).trans C23
          have C32 : u27.1 65 = u13.1 65 := by rw [eu27]; exact (uk_up_oc (by decide)).trans C24
          exact g_vret dX7_keepDraft_88 rfl ⟨rfl, hu27, fu27, (ri_draft hrd (T28.trans (by grind)) (iv_at hu 60 7 rfl).2 (by rw [C29]; exact ji120) (by rw [C31]; exact cpy_le ji121 (by grind)) (by rw [C32]; exact cpy_le ji122 (by grind)) (by rw [C30]; rfl) (by rw [C30]; rfl)), (T28.trans (by grind)), (by rw [C29]; exact ji120), (by rw [C31]; exact cpy_le ji121 (by grind)), (by rw [C32]; exact cpy_le ji122 (by grind)), (by rw [C30]; rfl), (by rw [C30]; rfl)⟩
        · refine g_aload_n dX7_keepDraft_44 rfl ?_
          refine f_X7_20 rfl rfl dX7_keepDraft_45 ?_
          refine g_iload_n dX7_keepDraft_48 rfl ?_
          refine g_aload_n dX7_keepDraft_49 rfl ?_
          refine f_X7_29 rfl rfl dX7_keepDraft_50 ?_
          refine g_iload_n dX7_keepDraft_53 rfl ?_
          have v33 : vp_in i12 8 := uk_vin 8 rfl (by first | decide | lia | grind) (by first | decide | lia | grind)
          refine g_iald rfl rfl v33 dX7_keepDraft_54 ?_
          refine g_topi (fun x34 ex34 => ?_)
          have bx34 := uk_cl v33
          have rx34 : (-4) ≤ x34 ∧ x34 ≤ 7 := by rw [ex34]; exact iv_at hu13 _ _ (uk_pick1 _ (by omega))
          have v35 : vp_in i12 8 := uk_vin 8 rfl (by first | decide | lia | grind) (by first | decide | lia | grind)
          have b36 := uk_cl v35
          refine g_iast rfl rfl v35 dX7_keepDraft_55 ?_
          refine g_mem (fun u37 eu37 => ?_)
          have hu37 : iv u37 := by rw [eu37]; exact iv_up hu13 (uk_pick1 _ (by omega)) (by first | lia | grind) (by first | lia | grind)
          have fu37 : fk [60, 61, 63, 64, 65] [7, 10, 11, 13, 14, 15, 16, 17, 18, 19, 22, 28] u u37 := by rw [eu37]; exact fk_up fu13 (by decide) (fun q => absurd q (by decide))
          have T38 : u37.1 60 3 = t14 := by rw [eu37]; exact (congrFun (uk_up_oc (by decide)) _).trans Tt14
          have C39 : u37.1 61 = u13.1 61 := by rw [eu37]; exact (uk_up_oc (by decide)).trans C61_u13
          have C40 : u37.1 63 = u13.1 63 := by rw [eu37]; exact (uk_up_oc (by decide)).trans C63_u13
          have C41 : u37.1 64 = (upd (u13.1 64) (i12 : Int32).toNatClampNeg x34) := by rw [eu37, uk_up_self, C64_u13]
          have C42 : u37.1 65 = u13.1 65 := by rw [eu37]; exact (uk_up_oc (by decide)).trans C65_u13
          refine g_aload_n dX7_keepDraft_56 rfl ?_
          refine f_X7_23 rfl rfl dX7_keepDraft_57 ?_
          refine g_iload_n dX7_keepDraft_60 rfl ?_
          refine g_aload_n dX7_keepDraft_61 rfl ?_
          refine f_X7_32 rfl rfl dX7_keepDraft_62 ?_
          refine g_iload_n dX7_keepDraft_65 rfl ?_
          have v43 : vp_in i12 8 := uk_vin 8 rfl (by first | decide | lia | grind) (by first | decide | lia | grind)
          refine g_iald rfl rfl v43 dX7_keepDraft_66 ?_
          refine g_topi (fun x44 ex44 => ?_)
          have bx44 := uk_cl v43
          have rx44 : (-4) ≤ x44 ∧ x44 ≤ 7 := by rw [ex44]; exact iv_at hu37 _ _ (uk_pick1 _ (by omega))
          have v45 : vp_in i12 8 := uk_vin 8 rfl (by first | decide | lia | grind) (by first | decide | lia | grind)
          have b46 := uk_cl v45
          refine g_iast rfl rfl v45 dX7_keepDraft_67 ?_
          refine g_mem (fun u47 eu47 => ?_)
          have hu47 : iv u47 := by rw [eu47]; exact iv_up hu37 (uk_pick1 _ (by omega)) (by first | lia | grind) (by first | lia | grind)
          have fu47 : fk [60, 61, 63, 64, 65] [7, 10, 11, 13, 14, 15, 16, 17, 18, 19, 22, 28] u u47 := by rw [eu47]; exact fk_up fu37 (by decide) (fun q => absurd q (by decide))
          have T48 : u47.1 60 3 = t14 := by rw [eu47]; exact (congrFun (uk_up_oc (by decide)) _).trans T38
          have C49 : u47.1 61 = u13.1 61 := by rw [eu47]; exact (uk_up_oc (by decide)).trans C39
          have C50 : u47.1 63 = u13.1 63 := by rw [eu47]; exact (uk_up_oc (by decide)).trans C40
          have C51 : u47.1 64 = (upd (u13.1 64) (i12 : Int32).toNatClampNeg x34) := by rw [eu47]; exact (uk_up_oc (by decide)).trans C41
          have C52 : u47.1 65 = (upd (u13.1 65) (i12 : Int32).toNatClampNeg x44) := by rw [eu47, uk_up_self, C42]
          refine g_iinc (v := i12 + 1) dX7_keepDraft_68 rfl rfl (by decide) ?_
          refine g_pick (lv' := [(0, .ref (uk_ad G 60)), (1, .int (i12 + 1))]) [0, 1] rfl ?_
          refine g_goto (tgt := 36) dX7_keepDraft_71 (by decide) ?_
          refine g_pick (lv' := [(0, .ref (uk_ad G 60)), (1, .int (i12 + 1))]) [0, 1] rfl ?_
          exact ihi12 (by first | lia | grind)  u47 hu47 fu47 (by rw [C49]; exact ji120) (by rw [C51]; exact cpy_up ji121 (by lia) (ex34.trans (congrFun (fk_c fu13 (by decide)) _))) (by rw [C52]; exact cpy_up ji122 (by lia) (ex44.trans (congrFun (fk_c fu37 (by decide)) _))) (by grind)
      refine g_pick (lv' := [(0, .ref (uk_ad G 60)), (1, .int 0)]) [0, 1] rfl ?_
      exact L36_10 0 (by first | decide | lia | grind) (by first | decide | lia | grind)  u9 hu9 fu9 (by rw [eu9, uk_up_oc (by decide)]; exact (show i3 = 51 by grind) ▸ ji30) cpy_0 cpy_0 (s10.trans (ex7.trans (fk_at fu4 (by decide))))
    · refine g_aload_n dX7_keepDraft_8 rfl ?_
      refine f_X7_7 rfl rfl dX7_keepDraft_9 ?_
      refine g_iload_n dX7_keepDraft_12 rfl ?_
      refine g_aload_n dX7_keepDraft_13 rfl ?_
      refine f_X7_26 rfl rfl dX7_keepDraft_14 ?_
      refine g_iload_n dX7_keepDraft_17 rfl ?_
      have v53 : vp_in i3 51 := uk_vin 51 rfl (by first | decide | lia | grind) (by first | decide | lia | grind)
      refine g_iald rfl rfl v53 dX7_keepDraft_18 ?_
      refine g_topi (fun x54 ex54 => ?_)
      have bx54 := uk_cl v53
      have v55 : vp_in i3 153 := uk_vin 153 rfl (by first | decide | lia | grind) (by first | decide | lia | grind)
      have b56 := uk_cl v55
      refine g_iast rfl rfl v55 dX7_keepDraft_19 ?_
      refine g_mem (fun u57 eu57 => ?_)
      have hu57 : iv u57 := by rw [eu57]; exact iv_cp hu4 hu4 (by unfold uk_is51; decide) (by unfold uk_is51; decide) (by omega) ex54
      have fu57 : fk [60, 61, 63, 64, 65] [7, 10, 11, 13, 14, 15, 16, 17, 18, 19, 22, 28] u u57 := by rw [eu57]; exact fk_up fu4 (by decide) (fun q => absurd q (by decide))
      have T58 : u57.1 60 3 = t5 := by rw [eu57]; exact (congrFun (uk_up_oc (by decide)) _).trans Tt5
      refine g_iinc (v := i3 + 1) dX7_keepDraft_20 rfl rfl (by decide) ?_
      refine g_pick (lv' := [(0, .ref (uk_ad G 60)), (1, .int (i3 + 1))]) [0, 1] rfl ?_
      refine g_goto (tgt := 2) dX7_keepDraft_23 (by decide) ?_
      refine g_pick (lv' := [(0, .ref (uk_ad G 60)), (1, .int (i3 + 1))]) [0, 1] rfl ?_
      exact ihi3 (by first | lia | grind)  u57 hu57 fu57 (by rw [eu57, uk_up_self]; exact cpy_up ji30 (by lia) (ex54.trans (congrFun (fk_c fu4 (by decide)) _)))
  refine g_pick (lv' := [(0, .ref (uk_ad G 60)), (1, .int 0)]) [0, 1] rfl ?_
  exact L2_1 0 (by first | decide | lia | grind) (by first | decide | lia | grind)  u hu f0 cpy_0
abbrev q_X7_firstDraft_t (u : uk_Mem)  (r : Option Value) (u' : uk_Mem) : Prop := (r = none) ∧ (iv u' ∧ fk [60, 66] [3, 13, 14, 15, 16, 17, 18, 19, 22, 28] u u' ∧ rf u' ∧ u'.1 60 7 = 0 ∧ u'.1 60 10 = 0 ∧ u'.1 60 11 = -4 ∧ (∀ j, j < 51 → u'.1 66 j = 0))
set_option maxHeartbeats 4000000 in
set_option maxRecDepth 20000 in
theorem c_X7_firstDraft_t {G : uk_D} (hs : uk_Sep G) {u : uk_Mem} (hu : iv u)  (d : Nat) : uk_Meth G d mX7_firstDraft [.ref (uk_ad G 60)] u (q_X7_firstDraft_t u) := by
  refine uk_Meth.of hs (by decide) (Nat.le_of_ble_eq_true rfl) (fun X => ?_)
  have f0 : fk [60, 66] [3, 13, 14, 15, 16, 17, 18, 19, 22, 28] u u := fk_rf
  refine g_iconst (v := 0) dX7_firstDraft_0 (by decide) ?_
  refine g_istore_n dX7_firstDraft_1 (by decide) ?_
  refine g_pick (lv' := [(0, .ref (uk_ad G 60)), (1, .int 0)]) [0, 1] rfl ?_
  have L2_0 : ∀ i2 : Int32, 0 ≤ i2 → i2 ≤ 51 → ∀ (u3 : uk_Mem), iv u3 → fk [60, 66] [3, 13, 14, 15, 16, 17, 18, 19, 22, 28] u u3 → aq0 u3 i2 → uk_G G X mX7_firstDraft d (q_X7_firstDraft_t u) 2 [(0, .ref (uk_ad G 60)), (1, .int i2)] [] u3 := by
    refine uk_upl 51 ?_
    intro i2 ai2 bi2 ihi2  u3 hu3 fu3 ji20
    refine g_iload_n dX7_firstDraft_2 rfl ?_
    refine g_bipush (v := 51) dX7_firstDraft_3 (by decide) ?_
    refine g_icmp_ge (tgt := 21) dX7_firstDraft_5 (by decide) (fun c4 => ?_) (fun c4 => ?_)
    · refine g_aload_n dX7_firstDraft_21 rfl ?_
      refine g_iconst (v := 0) dX7_firstDraft_22 (by decide) ?_
      refine p_X7_69 rfl rfl dX7_firstDraft_23 ?_
      refine g_mem (fun u5 eu5 => ?_)
      have hu5 : iv u5 := by rw [eu5]; exact iv_up hu3 rfl (by first | lia | grind) (by first | lia | grind)
      have fu5 : fk [60, 66] [3, 13, 14, 15, 16, 17, 18, 19, 22, 28] u u5 := by rw [eu5]; exact fk_up fu3 (by decide) (fun _ => by decide)
      have s6 : u5.1 60 7 = 0 := by rw [eu5, uk_up_at]; exact if_pos ⟨rfl, rfl⟩
      refine g_aload_n dX7_firstDraft_26 rfl ?_
      refine g_iconst (v := 0) dX7_firstDraft_27 (by decide) ?_
      refine p_X7_73 rfl rfl dX7_firstDraft_28 ?_
      refine g_mem (fun u7 eu7 => ?_)
      have hu7 : iv u7 := by rw [eu7]; exact iv_upF hu5 rfl
      have fu7 : fk [60, 66] [3, 13, 14, 15, 16, 17, 18, 19, 22, 28] u u7 := by rw [eu7]; exact fk_up fu5 (by decide) (fun _ => by decide)
      have s8 : u7.1 60 10 = 0 := by rw [eu7, uk_up_at]; exact if_pos ⟨rfl, rfl⟩
      refine g_aload_n dX7_firstDraft_31 rfl ?_
      refine g_bipush (v := (-4)) dX7_firstDraft_32 (by decide) ?_
      refine p_X7_76 rfl rfl dX7_firstDraft_34 ?_
      refine g_mem (fun u9 eu9 => ?_)
      have hu9 : iv u9 := by rw [eu9]; exact iv_upF hu7 rfl
      have fu9 : fk [60, 66] [3, 13, 14, 15, 16, 17, 18, 19, 22, 28] u u9 := by rw [eu9]; exact fk_up fu7 (by decide) (fun _ => by decide)
      have s10 : u9.1 60 11 = (-4) := by rw [eu9, uk_up_at]; exact if_pos ⟨rfl, rfl⟩
      exact g_vret dX7_firstDraft_37 rfl ⟨rfl, hu9, fu9, (fun _ => rd_0 (by grind [uk_up_at])), (by grind [uk_up_at]), (by grind [uk_up_at]), (by grind [uk_up_at]), (fun j hj => by rw [eu9, uk_up_oc (by decide), eu7, uk_up_oc (by decide), eu5, uk_up_oc (by decide)]; exact ji20 j (by have := uk_cge 51 51 rfl (i := i2) (by grind); omega))⟩
    · refine g_aload_n dX7_firstDraft_8 rfl ?_
      refine f_X7_26 rfl rfl dX7_firstDraft_9 ?_
      refine g_iload_n dX7_firstDraft_12 rfl ?_
      refine g_iconst (v := 0) dX7_firstDraft_13 (by decide) ?_
      have v11 : vp_in i2 51 := uk_vin 51 rfl (by first | decide | lia | grind) (by first | decide | lia | grind)
      have b12 := uk_cl v11
      refine g_iast rfl rfl v11 dX7_firstDraft_14 ?_
      refine g_mem (fun u13 eu13 => ?_)
      have hu13 : iv u13 := by rw [eu13]; exact iv_st hu3 (by unfold uk_is51; decide) (by first | decide | lia | grind) (by first | decide | lia | grind) (fun q => by first | decide | lia | grind) (fun q => by first | decide | lia | grind) (fun q => by first | decide | lia | grind)
      have fu13 : fk [60, 66] [3, 13, 14, 15, 16, 17, 18, 19, 22, 28] u u13 := by rw [eu13]; exact fk_up fu3 (by decide) (fun q => absurd q (by decide))
      refine g_iinc (v := i2 + 1) dX7_firstDraft_15 rfl rfl (by decide) ?_
      refine g_pick (lv' := [(0, .ref (uk_ad G 60)), (1, .int (i2 + 1))]) [0, 1] rfl ?_
      refine g_goto (tgt := 2) dX7_firstDraft_18 (by decide) ?_
      refine g_pick (lv' := [(0, .ref (uk_ad G 60)), (1, .int (i2 + 1))]) [0, 1] rfl ?_
      exact ihi2 (by first | lia | grind)  u13 hu13 fu13 (aq0_s ji20 (by grind) (by grind) eu13)
  refine g_pick (lv' := [(0, .ref (uk_ad G 60)), (1, .int 0)]) [0, 1] rfl ?_
  exact L2_0 0 (by first | decide | lia | grind) (by first | decide | lia | grind)  u hu f0 aq0_0
abbrev q_X7_text_t (u : uk_Mem) (f : Nat → Int32) (N : Int32) (r : Option Value) (u' : uk_Mem) : Prop := (∃ x : Int32, r = some (.int x) ∧ ((¬ (pRes f N).1.1 = 0 ∧ x = -10 - (pRes f N).1.2.1) ∨ ((pRes f N).1.1 = 0 ∧ x = (pRes f N).2))) ∧ (iv u' ∧ fk [60, 61, 63, 64, 65, 66, 67, 68] [22, 28] u u' ∧ ri u' ∧ u'.1 60 13 = 0 ∧ u'.1 60 18 = (pRes f N).1.1 ∧ ((pRes f N).1.1 = 0 → RwG (u'.1 60 3) (u'.1 61) (u'.1 64) (u'.1 65) (wIt f N (pRes f N).2.toNatClampNeg) ∧ u'.1 60 3 = (pIt f N (pRes f N).2.toNatClampNeg).2.2.2.1 ∧ u'.1 63 0 = 0 ∧ u'.1 63 1 = 0) ∧ (¬ (pRes f N).1.1 = 0 → u'.1 61 = u.1 61 ∧ u'.1 63 = u.1 63 ∧ u'.1 64 = u.1 64 ∧ u'.1 65 = u.1 65 ∧ u'.1 60 3 = u.1 60 3))
set_option maxHeartbeats 4000000 in
set_option maxRecDepth 20000 in
theorem c_X7_text_t {G : uk_D} (hs : uk_Sep G) {u : uk_Mem} (hu : iv u) (hri : ri u) (f : Nat → Int32) (N : Int32) (p0 : cpy (u.1 69) f N) (p1 : u.1 60 13 = N) (d : Nat) : uk_Meth G (d + 5) mX7_text [.ref (uk_ad G 60)] u (q_X7_text_t u f N) := by
  refine uk_Meth.of hs (by decide) (Nat.le_of_ble_eq_true rfl) (fun X => ?_)
  have f0 : fk [60, 61, 63, 64, 65, 66, 67, 68] [22, 28] u u := fk_rf
  obtain ⟨t1, Tt1⟩ : ∃ t, u.1 60 7 = t := ⟨_, rfl⟩
  obtain ⟨t2, Tt2⟩ : ∃ t, u.1 60 11 = t := ⟨_, rfl⟩
  obtain ⟨t3, Tt3⟩ : ∃ t, u.1 60 13 = t := ⟨_, rfl⟩
  obtain ⟨t4, Tt4⟩ : ∃ t, u.1 60 15 = t := ⟨_, rfl⟩
  obtain ⟨t5, Tt5⟩ : ∃ t, u.1 60 16 = t := ⟨_, rfl⟩
  obtain ⟨t6, Tt6⟩ : ∃ t, u.1 60 18 = t := ⟨_, rfl⟩
  obtain ⟨t7, Tt7⟩ : ∃ t, u.1 60 19 = t := ⟨_, rfl⟩
  refine g_iconst (v := 0) dX7_text_0 (by decide) ?_
  refine g_istore_n dX7_text_1 (by decide) ?_
  refine g_pick (lv' := [(0, .ref (uk_ad G 60)), (1, .int 0)]) [0, 1] rfl ?_
  refine g_aload_n dX7_text_2 rfl ?_
  refine g_iconst (v := 0) dX7_text_3 (by decide) ?_
  refine p_X7_91 rfl rfl dX7_text_4 ?_
  refine g_mem (fun u8 eu8 => ?_)
  have hu8 : iv u8 := by rw [eu8]; exact iv_up hu rfl (by first | lia | grind) (by first | lia | grind)
  have fu8 : fk [60, 61, 63, 64, 65, 66, 67, 68] [22, 28] u u8 := by rw [eu8]; exact fk_up f0 (by decide) (fun _ => by decide)
  have riu8 : ri u8 := by rw [eu8]; exact ri_1 hri (by decide) (fun _ => by decide)
  have s9 : u8.1 60 18 = 0 := by rw [eu8, uk_up_at]; exact if_pos ⟨rfl, rfl⟩
  have T10 : u8.1 60 7 = t1 := by rw [eu8, uk_up_at, if_neg (by decide)]; exact Tt1
  have T11 : u8.1 60 11 = t2 := by rw [eu8, uk_up_at, if_neg (by decide)]; exact Tt2
  have T12 : u8.1 60 13 = t3 := by rw [eu8, uk_up_at, if_neg (by decide)]; exact Tt3
  have T13 : u8.1 60 15 = t4 := by rw [eu8, uk_up_at, if_neg (by decide)]; exact Tt4
  have T14 : u8.1 60 16 = t5 := by rw [eu8, uk_up_at, if_neg (by decide)]; exact Tt5
  have T15 : u8.1 60 19 = t7 := by rw [eu8, uk_up_at, if_neg (by decide)]; exact Tt7
  refine g_aload_n dX7_text_7 rfl ?_
  refine g_iconst (v := 0) dX7_text_8 (by decide) ?_
  refine p_X7_100 rfl rfl dX7_text_9 ?_
  refine g_mem (fun u16 eu16 => ?_)
  have hu16 : iv u16 := by rw [eu16]; exact iv_up hu8 rfl (by first | lia | grind) (by first | lia | grind)
  have fu16 : fk [60, 61, 63, 64, 65, 66, 67, 68] [22, 28] u u16 := by rw [eu16]; exact fk_up fu8 (by decide) (fun _ => by decide)
  have riu16 : ri u16 := by rw [eu16]; exact ri_1 riu8 (by decide) (fun _ => by decide)
  have s17 : u16.1 60 14 = 0 := by rw [eu16, uk_up_at]; exact if_pos ⟨rfl, rfl⟩
  have T18 : u16.1 60 7 = t1 := by rw [eu16, uk_up_at, if_neg (by decide)]; exact T10
  have T19 : u16.1 60 11 = t2 := by rw [eu16, uk_up_at, if_neg (by decide)]; exact T11
  have T20 : u16.1 60 13 = t3 := by rw [eu16, uk_up_at, if_neg (by decide)]; exact T12
  have T21 : u16.1 60 15 = t4 := by rw [eu16, uk_up_at, if_neg (by decide)]; exact T13
  have T22 : u16.1 60 16 = t5 := by rw [eu16, uk_up_at, if_neg (by decide)]; exact T14
  have T23 : u16.1 60 18 = 0 := by rw [eu16, uk_up_at, if_neg (by decide)]; exact s9
  have T24 : u16.1 60 19 = t7 := by rw [eu16, uk_up_at, if_neg (by decide)]; exact T15
  refine g_aload_n dX7_text_12 rfl ?_
  refine cl_X7_63 (c := 60) (As := []) rfl (c_X7_firstDraft_t (G := G) hs hu16    (d + 4)) rfl (by omega) rfl rfl (Nat.le_of_ble_eq_true rfl) dX7_text_13 (fun r25 u26 q27 => ?_)
  obtain ⟨rfl, mq27⟩ := q27
  obtain ⟨hu26, gu26, rfu26, ku260, ku261, ku262, ku263⟩ := mq27
  have fu26 : fk [60, 61, 63, 64, 65, 66, 67, 68] [22, 28] u u26 := fk_tr fu16 gu26 (by decide) (by decide)
  have riu26 : ri u26 := ri_fk riu16 gu26 (by decide) (by decide) (by decide) (by decide) (by decide)
  obtain ⟨t28, Tt28⟩ : ∃ t, u26.1 60 7 = t := ⟨_, rfl⟩
  have Rt28 : 0 ≤ t28 ∧ t28 ≤ 8 := by rw [← Tt28]; exact iv_at hu26 _ _ rfl
  obtain ⟨t29, Tt29⟩ : ∃ t, u26.1 60 11 = t := ⟨_, rfl⟩
  have T30 : u26.1 60 13 = t3 := (fk_at gu26 (by decide)).trans T20
  have T31 : u26.1 60 15 = t4 := (fk_at gu26 (by decide)).trans T21
  have T32 : u26.1 60 16 = t5 := (fk_at gu26 (by decide)).trans T22
  have T33 : u26.1 60 18 = 0 := (fk_at gu26 (by decide)).trans T23
  have T34 : u26.1 60 19 = t7 := (fk_at gu26 (by decide)).trans T24
  have wu26_60_3 : u26.1 60 3 = u16.1 60 3 := fk_at gu26 (by decide)
  have s35 : u26.1 60 18 = 0 := (fk_at gu26 (by decide)).trans (by simp [eu16, uk_up_at, s9] : u16.1 60 18 = 0)
  have s36 : u26.1 60 14 = 0 := (fk_at gu26 (by decide)).trans s17
  have FXa : fk [60, 66, 67, 68] [3, 22, 28] u u8 := by rw [eu8]; exact fk_up fk_rf (by decide) (fun _ => by decide)
  have FXb : fk [60, 66, 67, 68] [3, 22, 28] u u16 := by rw [eu16]; exact fk_up FXa (by decide) (fun _ => by decide)
  have FX1 : fk [60, 66, 67, 68] [3, 22, 28] u u26 := fk_tr FXb gu26 (by decide) (by decide)
  refine g_aload_n dX7_text_16 rfl ?_
  refine cl_X7_133 (c := 60) (As := []) rfl (c_X7_next_s (G := G) hs hu26    (d + 3)) rfl (by omega) rfl rfl (Nat.le_of_ble_eq_true rfl) dX7_text_17 (fun r37 u38 q39 => ?_)
  obtain ⟨rfl, mq39⟩ := q39
  obtain ⟨hu38, gu38, ku380, ku381, ku382, ku383, ku384, ku385⟩ := mq39
  have fu38 : fk [60, 61, 63, 64, 65, 66, 67, 68] [22, 28] u u38 := fk_tr fu26 gu38 (by decide) (by decide)
  have riu38 : ri u38 := ri_fk riu26 gu38 (by decide) (by decide) (by decide) (by decide) (by decide)
  have rfu38 : rf u38 := rf_mono rfu26 gu38 ku380 (by decide) (by decide) (by decide) (by decide)
  have T40 : u38.1 60 7 = t28 := (fk_at gu38 (by decide)).trans Tt28
  have T41 : u38.1 60 11 = t29 := (fk_at gu38 (by decide)).trans Tt29
  have T42 : u38.1 60 13 = t3 := (fk_at gu38 (by decide)).trans T30
  obtain ⟨t43, Tt43⟩ : ∃ t, u38.1 60 15 = t := ⟨_, rfl⟩
  have Rt43 : 0 ≤ t43 ∧ t43 ≤ 160 := by rw [← Tt43]; exact iv_at hu38 _ _ rfl
  obtain ⟨t44, Tt44⟩ : ∃ t, u38.1 60 16 = t := ⟨_, rfl⟩
  obtain ⟨t45, Tt45⟩ : ∃ t, u38.1 60 18 = t := ⟨_, rfl⟩
  have Rt45 : 0 ≤ t45 ∧ t45 ≤ 6 := by rw [← Tt45]; exact iv_at hu38 _ _ rfl
  obtain ⟨t46, Tt46⟩ : ∃ t, u38.1 60 19 = t := ⟨_, rfl⟩
  have wu38_60_3 : u38.1 60 3 = u26.1 60 3 := fk_at gu38 (by decide)
  have hN : N ≤ 160 := by rw [← p1]; exact (iv_at hu 60 13 rfl).2
  have hN0 : 0 ≤ N := by rw [← p1]; exact (iv_at hu 60 13 rfl).1
  have Q69 : u26.1 69 = u.1 69 := fk_c fu26 (by decide)
  have Q18 : u26.1 60 18 = 0 := by rw [fk_at (c := 60) (i := 18) gu26 (by decide)]; grind [uk_up_at]
  have Q14 : u26.1 60 14 = 0 := by rw [fk_at (c := 60) (i := 14) gu26 (by decide)]; grind [uk_up_at]
  have Q13 : u26.1 60 13 = N := by rw [fk_at (c := 60) (i := 13) gu26 (by decide), ← p1]; grind [uk_up_at]
  have HA : ah f N 0 u38 := ah_cg (show cpy (u26.1 69) f N by rw [Q69]; exact p0) (by decide) hN (by have := ku384 Q18; rw [Q14, Q13] at this; exact this)
  have R0 : Rr f N u38 0 := Or.inl ⟨p_0, rfl, ⟨by rw [fk_c gu38 (by decide), Q69]; exact p0, (fk_at gu38 (by decide)).trans Q13, Or.inr ⟨rfl, ⟨by decide, hN0⟩, HA⟩⟩, rfl, fun _ => ⟨(fk_at gu38 (by decide)).trans ku260, (fk_at gu38 (by decide)).trans ku261, by rw [fk_at (c := 60) (i := 11) gu38 (by decide), ku262]; exact hi9_0⟩⟩
  have RW0 : RW f N u38 0 := fun _ => ⟨p_0, fun _ _ => 0, rfl, rfl, Rw_cg (Rw_0 ku260 ku263) (fk_at gu38 (by decide)) (fk_c gu38 (by decide)) (fk_c gu38 (by decide)) (fk_c gu38 (by decide)), rfl, ⟨by rw [fk_c gu38 (by decide), Q69]; exact p0, (fk_at gu38 (by decide)).trans Q13, Or.inr ⟨rfl, ⟨by decide, hN0⟩, HA⟩⟩, rfl, (fk_at gu38 (by decide)).trans ku260, (fk_at gu38 (by decide)).trans ku261, by rw [fk_at (c := 60) (i := 11) gu38 (by decide), ku262]; exact hi9_0⟩
  have FX2 : fk [60, 66, 67, 68] [3, 22, 28] u u38 := fk_tr FX1 gu38 (by decide) (by decide)
  have L20_46 : ∀ i49 : Int32, 0 ≤ i49 → i49 ≤ 161 → ∀ (i48 : Int32) (u50 : uk_Mem), iv u50 → fk [60, 61, 63, 64, 65, 66, 67, 68] [22, 28] u u50 → ri u50 → rf u50 → tx_ms u50 = i49 → (0 ≤ i48 ∧ i48 ≤ 60) → (u50.1 60 18 = 0 → 3 * i48 ≤ u50.1 60 15) → Rr f N u50 i48 → RW f N u50 i48 → fk [60, 66, 67, 68] [3, 22, 28] u u50 → uk_G G X mX7_text (d + 5) (q_X7_text_t u f N) 20 [(0, .ref (uk_ad G 60)), (1, .int i48)] [] u50 := by
    refine uk_ups 161 ?_
    intro i49 ai49 bi49 ihi49 i48 u50 hu50 fu50 riu50 rfu50 ki49 ji490 ji491 ji492 ji493 ji494
    obtain ⟨t51, Tt51⟩ : ∃ t, u50.1 60 7 = t := ⟨_, rfl⟩
    have Rt51 : 0 ≤ t51 ∧ t51 ≤ 8 := by rw [← Tt51]; exact iv_at hu50 _ _ rfl
    obtain ⟨t52, Tt52⟩ : ∃ t, u50.1 60 11 = t := ⟨_, rfl⟩
    obtain ⟨t53, Tt53⟩ : ∃ t, u50.1 60 13 = t := ⟨_, rfl⟩
    have Rt53 : 0 ≤ t53 ∧ t53 ≤ 160 := by rw [← Tt53]; exact iv_at hu50 _ _ rfl
    obtain ⟨t54, Tt54⟩ : ∃ t, u50.1 60 15 = t := ⟨_, rfl⟩
    have Rt54 : 0 ≤ t54 ∧ t54 ≤ 160 := by rw [← Tt54]; exact iv_at hu50 _ _ rfl
    obtain ⟨t55, Tt55⟩ : ∃ t, u50.1 60 16 = t := ⟨_, rfl⟩
    obtain ⟨t56, Tt56⟩ : ∃ t, u50.1 60 18 = t := ⟨_, rfl⟩
    have Rt56 : 0 ≤ t56 ∧ t56 ≤ 6 := by rw [← Tt56]; exact iv_at hu50 _ _ rfl
    obtain ⟨t57, Tt57⟩ : ∃ t, u50.1 60 19 = t := ⟨_, rfl⟩
    refine g_aload_n dX7_text_20 rfl ?_
    refine f_X7_91 rfl rfl dX7_text_21 ?_
    refine g_topi (fun x58 ex58 => ?_)
    have rx58 : 0 ≤ x58 ∧ x58 ≤ 6 := by rw [ex58]; exact iv_at hu50 _ _ rfl
    have qx58 : x58 = t56 := ex58.trans Tt56
    refine g_if_ne (tgt := 44) dX7_text_24 (by decide) (fun c59 => ?_) (fun c59 => ?_)
    · refine g_aload_n dX7_text_44 rfl ?_
      refine f_X7_91 rfl rfl dX7_text_45 ?_
      refine g_topi (fun x60 ex60 => ?_)
      have rx60 : 0 ≤ x60 ∧ x60 ≤ 6 := by rw [ex60]; exact iv_at hu50 _ _ rfl
      have qx60 : x60 = t56 := ex60.trans Tt56
      refine g_if_ne (tgt := 73) dX7_text_48 (by decide) (fun c61 => ?_) (fun c61 => ?_)
      · have CC : 0 ≤ i48 ∧ i48 < 160 := by grind
        have RF : u50.1 60 18 = (pRes f N).1.1 ∧ (¬ (pRes f N).1.1 = 0 → u50.1 60 19 = (pRes f N).1.2.1) ∧ ((pRes f N).1.1 = 0 → i48 = (pRes f N).2) := by have r := Rr_F hN CC.1 CC.2 ji492 (by grind); exact ⟨r.1, fun _ => r.2, fun z => absurd (r.1.trans z) (by grind)⟩
        have FX9 : fk [60, 66, 67, 68] [3, 22, 28] u u50 := ji494
        refine g_aload_n dX7_text_73 rfl ?_
        refine g_iconst (v := 0) dX7_text_74 (by decide) ?_
        refine p_X7_88 rfl rfl dX7_text_75 ?_
        refine g_mem (fun u62 eu62 => ?_)
        have hu62 : iv u62 := by rw [eu62]; exact iv_up hu50 rfl (by first | lia | grind) (by first | lia | grind)
        have fu62 : fk [60, 61, 63, 64, 65, 66, 67, 68] [22, 28] u u62 := by rw [eu62]; exact fk_up fu50 (by decide) (fun _ => by decide)
        have riu62 : ri u62 := by rw [eu62]; exact ri_1 riu50 (by decide) (fun _ => by decide)
        have rfu62 : rf u62 := by rw [eu62]; exact rf_1 rfu50 (by decide)
        have s63 : u62.1 60 13 = 0 := by rw [eu62, uk_up_at]; exact if_pos ⟨rfl, rfl⟩
        have T64 : u62.1 60 7 = t51 := by rw [eu62, uk_up_at, if_neg (by decide)]; exact Tt51
        have T65 : u62.1 60 11 = t52 := by rw [eu62, uk_up_at, if_neg (by decide)]; exact Tt52
        have T66 : u62.1 60 15 = t54 := by rw [eu62, uk_up_at, if_neg (by decide)]; exact Tt54
        have T67 : u62.1 60 16 = t55 := by rw [eu62, uk_up_at, if_neg (by decide)]; exact Tt55
        have T68 : u62.1 60 18 = t56 := by rw [eu62, uk_up_at, if_neg (by decide)]; exact Tt56
        have T69 : u62.1 60 19 = t57 := by rw [eu62, uk_up_at, if_neg (by decide)]; exact Tt57
        refine g_aload_n dX7_text_78 rfl ?_
        refine f_X7_91 rfl rfl dX7_text_79 ?_
        refine g_topi (fun x70 ex70 => ?_)
        have rx70 : 0 ≤ x70 ∧ x70 ≤ 6 := by rw [ex70]; exact iv_at hu62 _ _ rfl
        have qx70 : x70 = t56 := ex70.trans T68
        refine g_if_le (tgt := 93) dX7_text_82 (by decide) (fun c71 => ?_) (fun c71 => ?_)
        · refine g_aload_n dX7_text_93 rfl ?_
          exfalso; grind
        · refine g_bipush (v := (-10)) dX7_text_85 (by decide) ?_
          refine g_aload_n dX7_text_87 rfl ?_
          refine f_X7_97 rfl rfl dX7_text_88 ?_
          refine g_topi (fun x72 ex72 => ?_)
          have qx72 : x72 = t57 := ex72.trans T69
          refine g_isub dX7_text_91 ?_
          refine g_topi (fun x73 ex73 => ?_)
          exact g_iret (ty := .int) dX7_text_92 rfl rfl ⟨⟨_, rfl, Or.inl ⟨by rw [← RF.1]; grind, by rw [ex73, ← RF.2.1 (by rw [← RF.1]; grind)]; grind⟩⟩, hu62, fu62, riu62, (s63.trans (by grind)), (by rw [T68, ← RF.1]; grind), (fun q => by exfalso; have := RF.1; grind), (fun _ => ⟨by rw [eu62, uk_up_oc (by decide)]; exact fk_c FX9 (by decide), by rw [eu62, uk_up_oc (by decide)]; exact fk_c FX9 (by decide), by rw [eu62, uk_up_oc (by decide)]; exact fk_c FX9 (by decide), by rw [eu62, uk_up_oc (by decide)]; exact fk_c FX9 (by decide), by rw [eu62, uk_up_at, if_neg (by decide)]; exact fk_at FX9 (by decide)⟩)⟩
      · refine g_aload_n dX7_text_51 rfl ?_
        refine g_aload_n dX7_text_52 rfl ?_
        refine f_X7_76 rfl rfl dX7_text_53 ?_
        refine g_topi (fun x74 ex74 => ?_)
        have qx74 : x74 = t52 := ex74.trans Tt52
        refine g_aload_n dX7_text_56 rfl ?_
        refine f_X7_69 rfl rfl dX7_text_57 ?_
        refine g_topi (fun x75 ex75 => ?_)
        have rx75 : 0 ≤ x75 ∧ x75 ≤ 8 := by rw [ex75]; exact iv_at hu50 _ _ rfl
        have qx75 : x75 = t51 := ex75.trans Tt51
        refine g_icmp_ge (tgt := 67) dX7_text_60 (by decide) (fun c76 => ?_) (fun c76 => ?_)
        · refine g_iconst (v := 0) dX7_text_67 (by decide) ?_
          refine g_bipush (v := 6) dX7_text_68 (by decide) ?_
          refine cl_X7_125 (c := 60) (As := [.int 0, .int 6]) rfl (c_X7_needs_s (G := G) hs hu50  0 6 (by first | trivial | decide | lia | grind) (by first | trivial | decide | lia | grind) (d + 4)) rfl (by omega) rfl rfl (Nat.le_of_ble_eq_true rfl) dX7_text_70 (fun r77 u78 q79 => ?_)
          obtain ⟨rfl, mq79⟩ := q79
          obtain ⟨hu78, gu78, ku780, ku781, ku782⟩ := mq79
          have fu78 : fk [60, 61, 63, 64, 65, 66, 67, 68] [22, 28] u u78 := fk_tr fu50 gu78 (by decide) (by decide)
          have riu78 : ri u78 := ri_fk riu50 gu78 (by decide) (by decide) (by decide) (by decide) (by decide)
          have rfu78 : rf u78 := rf_mono rfu50 gu78 (fun q => (ku780 q).1) (by decide) (by decide) (by decide) (by decide)
          have T80 : u78.1 60 7 = t51 := (fk_at gu78 (by decide)).trans Tt51
          have T81 : u78.1 60 11 = t52 := (fk_at gu78 (by decide)).trans Tt52
          have T82 : u78.1 60 13 = t53 := (fk_at gu78 (by decide)).trans Tt53
          have T83 : u78.1 60 15 = t54 := (fk_at gu78 (by decide)).trans Tt54
          have T84 : u78.1 60 16 = t55 := (fk_at gu78 (by decide)).trans Tt55
          obtain ⟨t85, Tt85⟩ : ∃ t, u78.1 60 18 = t := ⟨_, rfl⟩
          have Rt85 : 0 ≤ t85 ∧ t85 ≤ 6 := by rw [← Tt85]; exact iv_at hu78 _ _ rfl
          obtain ⟨t86, Tt86⟩ : ∃ t, u78.1 60 19 = t := ⟨_, rfl⟩
          have wu78_60_3 : u78.1 60 3 = u50.1 60 3 := fk_at gu78 (by decide)
          have CC : 0 ≤ i48 ∧ i48 < 160 := by grind
          have RF : u78.1 60 18 = (pRes f N).1.1 ∧ (¬ (pRes f N).1.1 = 0 → u78.1 60 19 = (pRes f N).1.2.1) ∧ ((pRes f N).1.1 = 0 → i48 = (pRes f N).2) := Rr_E hN CC.1 CC.2 ji492 (by grind) (by grind) (iv_at hu50 60 7 rfl) (fun q => by grind) (fun q => by grind)
          have RD : (pRes f N).1.1 = 0 → Rw u78 (wIt f N (pRes f N).2.toNatClampNeg) ∧ u78.1 60 7 = (pIt f N (pRes f N).2.toNatClampNeg).2.2.2.1 := fun q => by
            obtain ⟨b9, W9, bI, bJ, BW, B1, B2, B3, B5, B6, B8⟩ := ji493 (by grind)
            rw [← RF.2.2 q, ← bI, ← bJ]
            exact ⟨Rw_cg BW (fk_at gu78 (by decide)) (fk_c gu78 (by decide)) (fk_c gu78 (by decide)) (fk_c gu78 (by decide)), (fk_at gu78 (by decide)).trans B5⟩
          have FX9 : fk [60, 66, 67, 68] [3, 22, 28] u u78 := fk_tr ji494 gu78 (by decide) (by decide)
          refine g_aload_n dX7_text_73 rfl ?_
          refine g_iconst (v := 0) dX7_text_74 (by decide) ?_
          refine p_X7_88 rfl rfl dX7_text_75 ?_
          refine g_mem (fun u87 eu87 => ?_)
          have hu87 : iv u87 := by rw [eu87]; exact iv_up hu78 rfl (by first | lia | grind) (by first | lia | grind)
          have fu87 : fk [60, 61, 63, 64, 65, 66, 67, 68] [22, 28] u u87 := by rw [eu87]; exact fk_up fu78 (by decide) (fun _ => by decide)
          have riu87 : ri u87 := by rw [eu87]; exact ri_1 riu78 (by decide) (fun _ => by decide)
          have rfu87 : rf u87 := by rw [eu87]; exact rf_1 rfu78 (by decide)
          have s88 : u87.1 60 13 = 0 := by rw [eu87, uk_up_at]; exact if_pos ⟨rfl, rfl⟩
          have T89 : u87.1 60 7 = t51 := by rw [eu87, uk_up_at, if_neg (by decide)]; exact T80
          have T90 : u87.1 60 11 = t52 := by rw [eu87, uk_up_at, if_neg (by decide)]; exact T81
          have T91 : u87.1 60 15 = t54 := by rw [eu87, uk_up_at, if_neg (by decide)]; exact T83
          have T92 : u87.1 60 16 = t55 := by rw [eu87, uk_up_at, if_neg (by decide)]; exact T84
          have T93 : u87.1 60 18 = t85 := by rw [eu87, uk_up_at, if_neg (by decide)]; exact Tt85
          have T94 : u87.1 60 19 = t86 := by rw [eu87, uk_up_at, if_neg (by decide)]; exact Tt86
          refine g_aload_n dX7_text_78 rfl ?_
          refine f_X7_91 rfl rfl dX7_text_79 ?_
          refine g_topi (fun x95 ex95 => ?_)
          have rx95 : 0 ≤ x95 ∧ x95 ≤ 6 := by rw [ex95]; exact iv_at hu87 _ _ rfl
          have qx95 : x95 = t85 := ex95.trans T93
          refine g_if_le (tgt := 93) dX7_text_82 (by decide) (fun c96 => ?_) (fun c96 => ?_)
          · refine g_aload_n dX7_text_93 rfl ?_
            have q94 : (pRes f N).1.1 = 0 := by rw [← RF.1]; grind
            have RE : Rw u87 (wIt f N (pRes f N).2.toNatClampNeg) := Rw_cg (RD q94).1 (by rw [eu87, uk_up_at, if_neg (by decide)]) (by rw [eu87, uk_up_oc (by decide)]) (by rw [eu87, uk_up_oc (by decide)]) (by rw [eu87, uk_up_oc (by decide)])
            have RS : u87.1 60 7 = (pIt f N (pRes f N).2.toNatClampNeg).2.2.2.1 := by rw [eu87, uk_up_at, if_neg (by decide)]; exact (RD q94).2
            have rdx97 : rd u87 := rfu87 (by grind)
            refine cl_X7_66 (c := 60) (As := []) rfl (c_X7_keepDraft_t (G := G) hs hu87 rdx97    (d + 4)) rfl (by omega) rfl rfl (Nat.le_of_ble_eq_true rfl) dX7_text_94 (fun r98 u99 q100 => ?_)
            obtain ⟨rfl, mq100⟩ := q100
            obtain ⟨hu99, gu99, riu99, ku990, ku991, ku992, ku993, ku994, ku995⟩ := mq100
            have fu99 : fk [60, 61, 63, 64, 65, 66, 67, 68] [22, 28] u u99 := fk_tr fu87 gu99 (by decide) (by decide)
            have T101 : u99.1 60 7 = t51 := (fk_at gu99 (by decide)).trans T89
            have T102 : u99.1 60 11 = t52 := (fk_at gu99 (by decide)).trans T90
            have T103 : u99.1 60 13 = 0 := (fk_at gu99 (by decide)).trans s88
            have T104 : u99.1 60 15 = t54 := (fk_at gu99 (by decide)).trans T91
            have T105 : u99.1 60 16 = t55 := (fk_at gu99 (by decide)).trans T92
            have T106 : u99.1 60 18 = t85 := (fk_at gu99 (by decide)).trans T93
            have T107 : u99.1 60 19 = t86 := (fk_at gu99 (by decide)).trans T94
            have s108 : u99.1 60 13 = 0 := (fk_at gu99 (by decide)).trans s88
            refine g_iload_n dX7_text_97 rfl ?_
            exact g_iret (ty := .int) dX7_text_98 rfl rfl ⟨⟨_, rfl, Or.inr ⟨by rw [← RF.1]; grind, RF.2.2 (by rw [← RF.1]; grind)⟩⟩, hu99, fu99, riu99, (T103.trans (by grind)), (by rw [T106, ← RF.1]; grind), (fun _ => ⟨RwG_keep RE (iv_at hu87 60 7 rfl).2 ku990 ku991 ku992 ku993 (iv_at hu87 60 7 rfl).1, ku990.trans RS, ku994, ku995⟩), (fun q => absurd q94 q)⟩
          · refine g_bipush (v := (-10)) dX7_text_85 (by decide) ?_
            refine g_aload_n dX7_text_87 rfl ?_
            refine f_X7_97 rfl rfl dX7_text_88 ?_
            refine g_topi (fun x109 ex109 => ?_)
            have qx109 : x109 = t86 := ex109.trans T94
            refine g_isub dX7_text_91 ?_
            refine g_topi (fun x110 ex110 => ?_)
            exact g_iret (ty := .int) dX7_text_92 rfl rfl ⟨⟨_, rfl, Or.inl ⟨by rw [← RF.1]; grind, by rw [ex110, ← RF.2.1 (by rw [← RF.1]; grind)]; grind⟩⟩, hu87, fu87, riu87, (s88.trans (by grind)), (by rw [T93, ← RF.1]; grind), (fun q => by exfalso; have := RF.1; grind), (fun _ => ⟨by rw [eu87, uk_up_oc (by decide)]; exact fk_c FX9 (by decide), by rw [eu87, uk_up_oc (by decide)]; exact fk_c FX9 (by decide), by rw [eu87, uk_up_oc (by decide)]; exact fk_c FX9 (by decide), by rw [eu87, uk_up_oc (by decide)]; exact fk_c FX9 (by decide), by rw [eu87, uk_up_at, if_neg (by decide)]; exact fk_at FX9 (by decide)⟩)⟩
        · refine g_iconst (v := 1) dX7_text_63 (by decide) ?_
          refine g_goto (tgt := 68) dX7_text_64 (by decide) ?_
          refine g_bipush (v := 6) dX7_text_68 (by decide) ?_
          refine cl_X7_125 (c := 60) (As := [.int 1, .int 6]) rfl (c_X7_needs_s (G := G) hs hu50  1 6 (by first | trivial | decide | lia | grind) (by first | trivial | decide | lia | grind) (d + 4)) rfl (by omega) rfl rfl (Nat.le_of_ble_eq_true rfl) dX7_text_70 (fun r111 u112 q113 => ?_)
          obtain ⟨rfl, mq113⟩ := q113
          obtain ⟨hu112, gu112, ku1120, ku1121, ku1122⟩ := mq113
          have fu112 : fk [60, 61, 63, 64, 65, 66, 67, 68] [22, 28] u u112 := fk_tr fu50 gu112 (by decide) (by decide)
          have riu112 : ri u112 := ri_fk riu50 gu112 (by decide) (by decide) (by decide) (by decide) (by decide)
          have rfu112 : rf u112 := rf_mono rfu50 gu112 (fun q => (ku1120 q).1) (by decide) (by decide) (by decide) (by decide)
          have T114 : u112.1 60 7 = t51 := (fk_at gu112 (by decide)).trans Tt51
          have T115 : u112.1 60 11 = t52 := (fk_at gu112 (by decide)).trans Tt52
          have T116 : u112.1 60 13 = t53 := (fk_at gu112 (by decide)).trans Tt53
          have T117 : u112.1 60 15 = t54 := (fk_at gu112 (by decide)).trans Tt54
          have T118 : u112.1 60 16 = t55 := (fk_at gu112 (by decide)).trans Tt55
          obtain ⟨t119, Tt119⟩ : ∃ t, u112.1 60 18 = t := ⟨_, rfl⟩
          have Rt119 : 0 ≤ t119 ∧ t119 ≤ 6 := by rw [← Tt119]; exact iv_at hu112 _ _ rfl
          obtain ⟨t120, Tt120⟩ : ∃ t, u112.1 60 19 = t := ⟨_, rfl⟩
          have wu112_60_3 : u112.1 60 3 = u50.1 60 3 := fk_at gu112 (by decide)
          have CC : 0 ≤ i48 ∧ i48 < 160 := by grind
          have RF : u112.1 60 18 = (pRes f N).1.1 ∧ (¬ (pRes f N).1.1 = 0 → u112.1 60 19 = (pRes f N).1.2.1) ∧ ((pRes f N).1.1 = 0 → i48 = (pRes f N).2) := Rr_E hN CC.1 CC.2 ji492 (by grind) (by grind) (iv_at hu50 60 7 rfl) (fun q => by grind) (fun q => by grind)
          have RD : (pRes f N).1.1 = 0 → Rw u112 (wIt f N (pRes f N).2.toNatClampNeg) ∧ u112.1 60 7 = (pIt f N (pRes f N).2.toNatClampNeg).2.2.2.1 := fun q => by
            obtain ⟨b9, W9, bI, bJ, BW, B1, B2, B3, B5, B6, B8⟩ := ji493 (by grind)
            rw [← RF.2.2 q, ← bI, ← bJ]
            exact ⟨Rw_cg BW (fk_at gu112 (by decide)) (fk_c gu112 (by decide)) (fk_c gu112 (by decide)) (fk_c gu112 (by decide)), (fk_at gu112 (by decide)).trans B5⟩
          have FX9 : fk [60, 66, 67, 68] [3, 22, 28] u u112 := fk_tr ji494 gu112 (by decide) (by decide)
          refine g_aload_n dX7_text_73 rfl ?_
          refine g_iconst (v := 0) dX7_text_74 (by decide) ?_
          refine p_X7_88 rfl rfl dX7_text_75 ?_
          refine g_mem (fun u121 eu121 => ?_)
          have hu121 : iv u121 := by rw [eu121]; exact iv_up hu112 rfl (by first | lia | grind) (by first | lia | grind)
          have fu121 : fk [60, 61, 63, 64, 65, 66, 67, 68] [22, 28] u u121 := by rw [eu121]; exact fk_up fu112 (by decide) (fun _ => by decide)
          have riu121 : ri u121 := by rw [eu121]; exact ri_1 riu112 (by decide) (fun _ => by decide)
          have rfu121 : rf u121 := by rw [eu121]; exact rf_1 rfu112 (by decide)
          have s122 : u121.1 60 13 = 0 := by rw [eu121, uk_up_at]; exact if_pos ⟨rfl, rfl⟩
          have T123 : u121.1 60 7 = t51 := by rw [eu121, uk_up_at, if_neg (by decide)]; exact T114
          have T124 : u121.1 60 11 = t52 := by rw [eu121, uk_up_at, if_neg (by decide)]; exact T115
          have T125 : u121.1 60 15 = t54 := by rw [eu121, uk_up_at, if_neg (by decide)]; exact T117
          have T126 : u121.1 60 16 = t55 := by rw [eu121, uk_up_at, if_neg (by decide)]; exact T118
          have T127 : u121.1 60 18 = t119 := by rw [eu121, uk_up_at, if_neg (by decide)]; exact Tt119
          have T128 : u121.1 60 19 = t120 := by rw [eu121, uk_up_at, if_neg (by decide)]; exact Tt120
          refine g_aload_n dX7_text_78 rfl ?_
          refine f_X7_91 rfl rfl dX7_text_79 ?_
          refine g_topi (fun x129 ex129 => ?_)
          have rx129 : 0 ≤ x129 ∧ x129 ≤ 6 := by rw [ex129]; exact iv_at hu121 _ _ rfl
          have qx129 : x129 = t119 := ex129.trans T127
          refine g_if_le (tgt := 93) dX7_text_82 (by decide) (fun c130 => ?_) (fun c130 => ?_)
          · refine g_aload_n dX7_text_93 rfl ?_
            have q94 : (pRes f N).1.1 = 0 := by rw [← RF.1]; grind
            have RE : Rw u121 (wIt f N (pRes f N).2.toNatClampNeg) := Rw_cg (RD q94).1 (by rw [eu121, uk_up_at, if_neg (by decide)]) (by rw [eu121, uk_up_oc (by decide)]) (by rw [eu121, uk_up_oc (by decide)]) (by rw [eu121, uk_up_oc (by decide)])
            have RS : u121.1 60 7 = (pIt f N (pRes f N).2.toNatClampNeg).2.2.2.1 := by rw [eu121, uk_up_at, if_neg (by decide)]; exact (RD q94).2
            have rdx131 : rd u121 := rfu121 (by grind)
            refine cl_X7_66 (c := 60) (As := []) rfl (c_X7_keepDraft_t (G := G) hs hu121 rdx131    (d + 4)) rfl (by omega) rfl rfl (Nat.le_of_ble_eq_true rfl) dX7_text_94 (fun r132 u133 q134 => ?_)
            obtain ⟨rfl, mq134⟩ := q134
            obtain ⟨hu133, gu133, riu133, ku1330, ku1331, ku1332, ku1333, ku1334, ku1335⟩ := mq134
            have fu133 : fk [60, 61, 63, 64, 65, 66, 67, 68] [22, 28] u u133 := fk_tr fu121 gu133 (by decide) (by decide)
            have T135 : u133.1 60 7 = t51 := (fk_at gu133 (by decide)).trans T123
            have T136 : u133.1 60 11 = t52 := (fk_at gu133 (by decide)).trans T124
            have T137 : u133.1 60 13 = 0 := (fk_at gu133 (by decide)).trans s122
            have T138 : u133.1 60 15 = t54 := (fk_at gu133 (by decide)).trans T125
            have T139 : u133.1 60 16 = t55 := (fk_at gu133 (by decide)).trans T126
            have T140 : u133.1 60 18 = t119 := (fk_at gu133 (by decide)).trans T127
            have T141 : u133.1 60 19 = t120 := (fk_at gu133 (by decide)).trans T128
            have s142 : u133.1 60 13 = 0 := (fk_at gu133 (by decide)).trans s122
            refine g_iload_n dX7_text_97 rfl ?_
            exact g_iret (ty := .int) dX7_text_98 rfl rfl ⟨⟨_, rfl, Or.inr ⟨by rw [← RF.1]; grind, RF.2.2 (by rw [← RF.1]; grind)⟩⟩, hu133, fu133, riu133, (T137.trans (by grind)), (by rw [T140, ← RF.1]; grind), (fun _ => ⟨RwG_keep RE (iv_at hu121 60 7 rfl).2 ku1330 ku1331 ku1332 ku1333 (iv_at hu121 60 7 rfl).1, ku1330.trans RS, ku1334, ku1335⟩), (fun q => absurd q94 q)⟩
          · refine g_bipush (v := (-10)) dX7_text_85 (by decide) ?_
            refine g_aload_n dX7_text_87 rfl ?_
            refine f_X7_97 rfl rfl dX7_text_88 ?_
            refine g_topi (fun x143 ex143 => ?_)
            have qx143 : x143 = t120 := ex143.trans T128
            refine g_isub dX7_text_91 ?_
            refine g_topi (fun x144 ex144 => ?_)
            exact g_iret (ty := .int) dX7_text_92 rfl rfl ⟨⟨_, rfl, Or.inl ⟨by rw [← RF.1]; grind, by rw [ex144, ← RF.2.1 (by rw [← RF.1]; grind)]; grind⟩⟩, hu121, fu121, riu121, (s122.trans (by grind)), (by rw [T127, ← RF.1]; grind), (fun q => by exfalso; have := RF.1; grind), (fun _ => ⟨by rw [eu121, uk_up_oc (by decide)]; exact fk_c FX9 (by decide), by rw [eu121, uk_up_oc (by decide)]; exact fk_c FX9 (by decide), by rw [eu121, uk_up_oc (by decide)]; exact fk_c FX9 (by decide), by rw [eu121, uk_up_oc (by decide)]; exact fk_c FX9 (by decide), by rw [eu121, uk_up_at, if_neg (by decide)]; exact fk_at FX9 (by decide)⟩)⟩
    · refine g_aload_n dX7_text_27 rfl ?_
      refine f_X7_111 rfl rfl dX7_text_28 ?_
      refine g_topi (fun x145 ex145 => ?_)
      have qx145 : x145 = t55 := ex145.trans Tt55
      refine g_if_eq (tgt := 44) dX7_text_31 (by decide) (fun c146 => ?_) (fun c146 => ?_)
      · refine g_aload_n dX7_text_44 rfl ?_
        refine f_X7_91 rfl rfl dX7_text_45 ?_
        refine g_topi (fun x147 ex147 => ?_)
        have rx147 : 0 ≤ x147 ∧ x147 ≤ 6 := by rw [ex147]; exact iv_at hu50 _ _ rfl
        have qx147 : x147 = t56 := ex147.trans Tt56
        refine g_if_ne (tgt := 73) dX7_text_48 (by decide) (fun c148 => ?_) (fun c148 => ?_)
        · have CC : 0 ≤ i48 ∧ i48 < 160 := by grind
          have RF : u50.1 60 18 = (pRes f N).1.1 ∧ (¬ (pRes f N).1.1 = 0 → u50.1 60 19 = (pRes f N).1.2.1) ∧ ((pRes f N).1.1 = 0 → i48 = (pRes f N).2) := by have r := Rr_F hN CC.1 CC.2 ji492 (by grind); exact ⟨r.1, fun _ => r.2, fun z => absurd (r.1.trans z) (by grind)⟩
          have FX9 : fk [60, 66, 67, 68] [3, 22, 28] u u50 := ji494
          refine g_aload_n dX7_text_73 rfl ?_
          refine g_iconst (v := 0) dX7_text_74 (by decide) ?_
          refine p_X7_88 rfl rfl dX7_text_75 ?_
          refine g_mem (fun u149 eu149 => ?_)
          have hu149 : iv u149 := by rw [eu149]; exact iv_up hu50 rfl (by first | lia | grind) (by first | lia | grind)
          have fu149 : fk [60, 61, 63, 64, 65, 66, 67, 68] [22, 28] u u149 := by rw [eu149]; exact fk_up fu50 (by decide) (fun _ => by decide)
          have riu149 : ri u149 := by rw [eu149]; exact ri_1 riu50 (by decide) (fun _ => by decide)
          have rfu149 : rf u149 := by rw [eu149]; exact rf_1 rfu50 (by decide)
          have s150 : u149.1 60 13 = 0 := by rw [eu149, uk_up_at]; exact if_pos ⟨rfl, rfl⟩
          have T151 : u149.1 60 7 = t51 := by rw [eu149, uk_up_at, if_neg (by decide)]; exact Tt51
          have T152 : u149.1 60 11 = t52 := by rw [eu149, uk_up_at, if_neg (by decide)]; exact Tt52
          have T153 : u149.1 60 15 = t54 := by rw [eu149, uk_up_at, if_neg (by decide)]; exact Tt54
          have T154 : u149.1 60 16 = t55 := by rw [eu149, uk_up_at, if_neg (by decide)]; exact Tt55
          have T155 : u149.1 60 18 = t56 := by rw [eu149, uk_up_at, if_neg (by decide)]; exact Tt56
          have T156 : u149.1 60 19 = t57 := by rw [eu149, uk_up_at, if_neg (by decide)]; exact Tt57
          refine g_aload_n dX7_text_78 rfl ?_
          refine f_X7_91 rfl rfl dX7_text_79 ?_
          refine g_topi (fun x157 ex157 => ?_)
          have rx157 : 0 ≤ x157 ∧ x157 ≤ 6 := by rw [ex157]; exact iv_at hu149 _ _ rfl
          have qx157 : x157 = t56 := ex157.trans T155
          refine g_if_le (tgt := 93) dX7_text_82 (by decide) (fun c158 => ?_) (fun c158 => ?_)
          · refine g_aload_n dX7_text_93 rfl ?_
            exfalso; grind
          · refine g_bipush (v := (-10)) dX7_text_85 (by decide) ?_
            refine g_aload_n dX7_text_87 rfl ?_
            refine f_X7_97 rfl rfl dX7_text_88 ?_
            refine g_topi (fun x159 ex159 => ?_)
            have qx159 : x159 = t57 := ex159.trans T156
            refine g_isub dX7_text_91 ?_
            refine g_topi (fun x160 ex160 => ?_)
            exact g_iret (ty := .int) dX7_text_92 rfl rfl ⟨⟨_, rfl, Or.inl ⟨by rw [← RF.1]; grind, by rw [ex160, ← RF.2.1 (by rw [← RF.1]; grind)]; grind⟩⟩, hu149, fu149, riu149, (s150.trans (by grind)), (by rw [T155, ← RF.1]; grind), (fun q => by exfalso; have := RF.1; grind), (fun _ => ⟨by rw [eu149, uk_up_oc (by decide)]; exact fk_c FX9 (by decide), by rw [eu149, uk_up_oc (by decide)]; exact fk_c FX9 (by decide), by rw [eu149, uk_up_oc (by decide)]; exact fk_c FX9 (by decide), by rw [eu149, uk_up_oc (by decide)]; exact fk_c FX9 (by decide), by rw [eu149, uk_up_at, if_neg (by decide)]; exact fk_at FX9 (by decide)⟩)⟩
        · refine g_aload_n dX7_text_51 rfl ?_
          refine g_aload_n dX7_text_52 rfl ?_
          refine f_X7_76 rfl rfl dX7_text_53 ?_
          refine g_topi (fun x161 ex161 => ?_)
          have qx161 : x161 = t52 := ex161.trans Tt52
          refine g_aload_n dX7_text_56 rfl ?_
          refine f_X7_69 rfl rfl dX7_text_57 ?_
          refine g_topi (fun x162 ex162 => ?_)
          have rx162 : 0 ≤ x162 ∧ x162 ≤ 8 := by rw [ex162]; exact iv_at hu50 _ _ rfl
          have qx162 : x162 = t51 := ex162.trans Tt51
          refine g_icmp_ge (tgt := 67) dX7_text_60 (by decide) (fun c163 => ?_) (fun c163 => ?_)
          · refine g_iconst (v := 0) dX7_text_67 (by decide) ?_
            refine g_bipush (v := 6) dX7_text_68 (by decide) ?_
            refine cl_X7_125 (c := 60) (As := [.int 0, .int 6]) rfl (c_X7_needs_s (G := G) hs hu50  0 6 (by first | trivial | decide | lia | grind) (by first | trivial | decide | lia | grind) (d + 4)) rfl (by omega) rfl rfl (Nat.le_of_ble_eq_true rfl) dX7_text_70 (fun r164 u165 q166 => ?_)
            obtain ⟨rfl, mq166⟩ := q166
            obtain ⟨hu165, gu165, ku1650, ku1651, ku1652⟩ := mq166
            have fu165 : fk [60, 61, 63, 64, 65, 66, 67, 68] [22, 28] u u165 := fk_tr fu50 gu165 (by decide) (by decide)
            have riu165 : ri u165 := ri_fk riu50 gu165 (by decide) (by decide) (by decide) (by decide) (by decide)
            have rfu165 : rf u165 := rf_mono rfu50 gu165 (fun q => (ku1650 q).1) (by decide) (by decide) (by decide) (by decide)
            have T167 : u165.1 60 7 = t51 := (fk_at gu165 (by decide)).trans Tt51
            have T168 : u165.1 60 11 = t52 := (fk_at gu165 (by decide)).trans Tt52
            have T169 : u165.1 60 13 = t53 := (fk_at gu165 (by decide)).trans Tt53
            have T170 : u165.1 60 15 = t54 := (fk_at gu165 (by decide)).trans Tt54
            have T171 : u165.1 60 16 = t55 := (fk_at gu165 (by decide)).trans Tt55
            obtain ⟨t172, Tt172⟩ : ∃ t, u165.1 60 18 = t := ⟨_, rfl⟩
            have Rt172 : 0 ≤ t172 ∧ t172 ≤ 6 := by rw [← Tt172]; exact iv_at hu165 _ _ rfl
            obtain ⟨t173, Tt173⟩ : ∃ t, u165.1 60 19 = t := ⟨_, rfl⟩
            have wu165_60_3 : u165.1 60 3 = u50.1 60 3 := fk_at gu165 (by decide)
            have CC : 0 ≤ i48 ∧ i48 < 160 := by grind
            have RF : u165.1 60 18 = (pRes f N).1.1 ∧ (¬ (pRes f N).1.1 = 0 → u165.1 60 19 = (pRes f N).1.2.1) ∧ ((pRes f N).1.1 = 0 → i48 = (pRes f N).2) := Rr_E hN CC.1 CC.2 ji492 (by grind) (by grind) (iv_at hu50 60 7 rfl) (fun q => by grind) (fun q => by grind)
            have RD : (pRes f N).1.1 = 0 → Rw u165 (wIt f N (pRes f N).2.toNatClampNeg) ∧ u165.1 60 7 = (pIt f N (pRes f N).2.toNatClampNeg).2.2.2.1 := fun q => by
              obtain ⟨b9, W9, bI, bJ, BW, B1, B2, B3, B5, B6, B8⟩ := ji493 (by grind)
              rw [← RF.2.2 q, ← bI, ← bJ]
              exact ⟨Rw_cg BW (fk_at gu165 (by decide)) (fk_c gu165 (by decide)) (fk_c gu165 (by decide)) (fk_c gu165 (by decide)), (fk_at gu165 (by decide)).trans B5⟩
            have FX9 : fk [60, 66, 67, 68] [3, 22, 28] u u165 := fk_tr ji494 gu165 (by decide) (by decide)
            refine g_aload_n dX7_text_73 rfl ?_
            refine g_iconst (v := 0) dX7_text_74 (by decide) ?_
            refine p_X7_88 rfl rfl dX7_text_75 ?_
            refine g_mem (fun u174 eu174 => ?_)
            have hu174 : iv u174 := by rw [eu174]; exact iv_up hu165 rfl (by first | lia | grind) (by first | lia | grind)
            have fu174 : fk [60, 61, 63, 64, 65, 66, 67, 68] [22, 28] u u174 := by rw [eu174]; exact fk_up fu165 (by decide) (fun _ => by decide)
            have riu174 : ri u174 := by rw [eu174]; exact ri_1 riu165 (by decide) (fun _ => by decide)
            have rfu174 : rf u174 := by rw [eu174]; exact rf_1 rfu165 (by decide)
            have s175 : u174.1 60 13 = 0 := by rw [eu174, uk_up_at]; exact if_pos ⟨rfl, rfl⟩
            have T176 : u174.1 60 7 = t51 := by rw [eu174, uk_up_at, if_neg (by decide)]; exact T167
            have T177 : u174.1 60 11 = t52 := by rw [eu174, uk_up_at, if_neg (by decide)]; exact T168
            have T178 : u174.1 60 15 = t54 := by rw [eu174, uk_up_at, if_neg (by decide)]; exact T170
            have T179 : u174.1 60 16 = t55 := by rw [eu174, uk_up_at, if_neg (by decide)]; exact T171
            have T180 : u174.1 60 18 = t172 := by rw [eu174, uk_up_at, if_neg (by decide)]; exact Tt172
            have T181 : u174.1 60 19 = t173 := by rw [eu174, uk_up_at, if_neg (by decide)]; exact Tt173
            refine g_aload_n dX7_text_78 rfl ?_
            refine f_X7_91 rfl rfl dX7_text_79 ?_
            refine g_topi (fun x182 ex182 => ?_)
            have rx182 : 0 ≤ x182 ∧ x182 ≤ 6 := by rw [ex182]; exact iv_at hu174 _ _ rfl
            have qx182 : x182 = t172 := ex182.trans T180
            refine g_if_le (tgt := 93) dX7_text_82 (by decide) (fun c183 => ?_) (fun c183 => ?_)
            · refine g_aload_n dX7_text_93 rfl ?_
              have q94 : (pRes f N).1.1 = 0 := by rw [← RF.1]; grind
              have RE : Rw u174 (wIt f N (pRes f N).2.toNatClampNeg) := Rw_cg (RD q94).1 (by rw [eu174, uk_up_at, if_neg (by decide)]) (by rw [eu174, uk_up_oc (by decide)]) (by rw [eu174, uk_up_oc (by decide)]) (by rw [eu174, uk_up_oc (by decide)])
              have RS : u174.1 60 7 = (pIt f N (pRes f N).2.toNatClampNeg).2.2.2.1 := by rw [eu174, uk_up_at, if_neg (by decide)]; exact (RD q94).2
              have rdx184 : rd u174 := rfu174 (by grind)
              refine cl_X7_66 (c := 60) (As := []) rfl (c_X7_keepDraft_t (G := G) hs hu174 rdx184    (d + 4)) rfl (by omega) rfl rfl (Nat.le_of_ble_eq_true rfl) dX7_text_94 (fun r185 u186 q187 => ?_)
              obtain ⟨rfl, mq187⟩ := q187
              obtain ⟨hu186, gu186, riu186, ku1860, ku1861, ku1862, ku1863, ku1864, ku1865⟩ := mq187
              have fu186 : fk [60, 61, 63, 64, 65, 66, 67, 68] [22, 28] u u186 := fk_tr fu174 gu186 (by decide) (by decide)
              have T188 : u186.1 60 7 = t51 := (fk_at gu186 (by decide)).trans T176
              have T189 : u186.1 60 11 = t52 := (fk_at gu186 (by decide)).trans T177
              have T190 : u186.1 60 13 = 0 := (fk_at gu186 (by decide)).trans s175
              have T191 : u186.1 60 15 = t54 := (fk_at gu186 (by decide)).trans T178
              have T192 : u186.1 60 16 = t55 := (fk_at gu186 (by decide)).trans T179
              have T193 : u186.1 60 18 = t172 := (fk_at gu186 (by decide)).trans T180
              have T194 : u186.1 60 19 = t173 := (fk_at gu186 (by decide)).trans T181
              have s195 : u186.1 60 13 = 0 := (fk_at gu186 (by decide)).trans s175
              refine g_iload_n dX7_text_97 rfl ?_
              exact g_iret (ty := .int) dX7_text_98 rfl rfl ⟨⟨_, rfl, Or.inr ⟨by rw [← RF.1]; grind, RF.2.2 (by rw [← RF.1]; grind)⟩⟩, hu186, fu186, riu186, (T190.trans (by grind)), (by rw [T193, ← RF.1]; grind), (fun _ => ⟨RwG_keep RE (iv_at hu174 60 7 rfl).2 ku1860 ku1861 ku1862 ku1863 (iv_at hu174 60 7 rfl).1, ku1860.trans RS, ku1864, ku1865⟩), (fun q => absurd q94 q)⟩
            · refine g_bipush (v := (-10)) dX7_text_85 (by decide) ?_
              refine g_aload_n dX7_text_87 rfl ?_
              refine f_X7_97 rfl rfl dX7_text_88 ?_
              refine g_topi (fun x196 ex196 => ?_)
              have qx196 : x196 = t173 := ex196.trans T181
              refine g_isub dX7_text_91 ?_
              refine g_topi (fun x197 ex197 => ?_)
              exact g_iret (ty := .int) dX7_text_92 rfl rfl ⟨⟨_, rfl, Or.inl ⟨by rw [← RF.1]; grind, by rw [ex197, ← RF.2.1 (by rw [← RF.1]; grind)]; grind⟩⟩, hu174, fu174, riu174, (s175.trans (by grind)), (by rw [T180, ← RF.1]; grind), (fun q => by exfalso; have := RF.1; grind), (fun _ => ⟨by rw [eu174, uk_up_oc (by decide)]; exact fk_c FX9 (by decide), by rw [eu174, uk_up_oc (by decide)]; exact fk_c FX9 (by decide), by rw [eu174, uk_up_oc (by decide)]; exact fk_c FX9 (by decide), by rw [eu174, uk_up_oc (by decide)]; exact fk_c FX9 (by decide), by rw [eu174, uk_up_at, if_neg (by decide)]; exact fk_at FX9 (by decide)⟩)⟩
          · refine g_iconst (v := 1) dX7_text_63 (by decide) ?_
            refine g_goto (tgt := 68) dX7_text_64 (by decide) ?_
            refine g_bipush (v := 6) dX7_text_68 (by decide) ?_
            refine cl_X7_125 (c := 60) (As := [.int 1, .int 6]) rfl (c_X7_needs_s (G := G) hs hu50  1 6 (by first | trivial | decide | lia | grind) (by first | trivial | decide | lia | grind) (d + 4)) rfl (by omega) rfl rfl (Nat.le_of_ble_eq_true rfl) dX7_text_70 (fun r198 u199 q200 => ?_)
            obtain ⟨rfl, mq200⟩ := q200
            obtain ⟨hu199, gu199, ku1990, ku1991, ku1992⟩ := mq200
            have fu199 : fk [60, 61, 63, 64, 65, 66, 67, 68] [22, 28] u u199 := fk_tr fu50 gu199 (by decide) (by decide)
            have riu199 : ri u199 := ri_fk riu50 gu199 (by decide) (by decide) (by decide) (by decide) (by decide)
            have rfu199 : rf u199 := rf_mono rfu50 gu199 (fun q => (ku1990 q).1) (by decide) (by decide) (by decide) (by decide)
            have T201 : u199.1 60 7 = t51 := (fk_at gu199 (by decide)).trans Tt51
            have T202 : u199.1 60 11 = t52 := (fk_at gu199 (by decide)).trans Tt52
            have T203 : u199.1 60 13 = t53 := (fk_at gu199 (by decide)).trans Tt53
            have T204 : u199.1 60 15 = t54 := (fk_at gu199 (by decide)).trans Tt54
            have T205 : u199.1 60 16 = t55 := (fk_at gu199 (by decide)).trans Tt55
            obtain ⟨t206, Tt206⟩ : ∃ t, u199.1 60 18 = t := ⟨_, rfl⟩
            have Rt206 : 0 ≤ t206 ∧ t206 ≤ 6 := by rw [← Tt206]; exact iv_at hu199 _ _ rfl
            obtain ⟨t207, Tt207⟩ : ∃ t, u199.1 60 19 = t := ⟨_, rfl⟩
            have wu199_60_3 : u199.1 60 3 = u50.1 60 3 := fk_at gu199 (by decide)
            have CC : 0 ≤ i48 ∧ i48 < 160 := by grind
            have RF : u199.1 60 18 = (pRes f N).1.1 ∧ (¬ (pRes f N).1.1 = 0 → u199.1 60 19 = (pRes f N).1.2.1) ∧ ((pRes f N).1.1 = 0 → i48 = (pRes f N).2) := Rr_E hN CC.1 CC.2 ji492 (by grind) (by grind) (iv_at hu50 60 7 rfl) (fun q => by grind) (fun q => by grind)
            have RD : (pRes f N).1.1 = 0 → Rw u199 (wIt f N (pRes f N).2.toNatClampNeg) ∧ u199.1 60 7 = (pIt f N (pRes f N).2.toNatClampNeg).2.2.2.1 := fun q => by
              obtain ⟨b9, W9, bI, bJ, BW, B1, B2, B3, B5, B6, B8⟩ := ji493 (by grind)
              rw [← RF.2.2 q, ← bI, ← bJ]
              exact ⟨Rw_cg BW (fk_at gu199 (by decide)) (fk_c gu199 (by decide)) (fk_c gu199 (by decide)) (fk_c gu199 (by decide)), (fk_at gu199 (by decide)).trans B5⟩
            have FX9 : fk [60, 66, 67, 68] [3, 22, 28] u u199 := fk_tr ji494 gu199 (by decide) (by decide)
            refine g_aload_n dX7_text_73 rfl ?_
            refine g_iconst (v := 0) dX7_text_74 (by decide) ?_
            refine p_X7_88 rfl rfl dX7_text_75 ?_
            refine g_mem (fun u208 eu208 => ?_)
            have hu208 : iv u208 := by rw [eu208]; exact iv_up hu199 rfl (by first | lia | grind) (by first | lia | grind)
            have fu208 : fk [60, 61, 63, 64, 65, 66, 67, 68] [22, 28] u u208 := by rw [eu208]; exact fk_up fu199 (by decide) (fun _ => by decide)
            have riu208 : ri u208 := by rw [eu208]; exact ri_1 riu199 (by decide) (fun _ => by decide)
            have rfu208 : rf u208 := by rw [eu208]; exact rf_1 rfu199 (by decide)
            have s209 : u208.1 60 13 = 0 := by rw [eu208, uk_up_at]; exact if_pos ⟨rfl, rfl⟩
            have T210 : u208.1 60 7 = t51 := by rw [eu208, uk_up_at, if_neg (by decide)]; exact T201
            have T211 : u208.1 60 11 = t52 := by rw [eu208, uk_up_at, if_neg (by decide)]; exact T202
            have T212 : u208.1 60 15 = t54 := by rw [eu208, uk_up_at, if_neg (by decide)]; exact T204
            have T213 : u208.1 60 16 = t55 := by rw [eu208, uk_up_at, if_neg (by decide)]; exact T205
            have T214 : u208.1 60 18 = t206 := by rw [eu208, uk_up_at, if_neg (by decide)]; exact Tt206
            have T215 : u208.1 60 19 = t207 := by rw [eu208, uk_up_at, if_neg (by decide)]; exact Tt207
            refine g_aload_n dX7_text_78 rfl ?_
            refine f_X7_91 rfl rfl dX7_text_79 ?_
            refine g_topi (fun x216 ex216 => ?_)
            have rx216 : 0 ≤ x216 ∧ x216 ≤ 6 := by rw [ex216]; exact iv_at hu208 _ _ rfl
            have qx216 : x216 = t206 := ex216.trans T214
            refine g_if_le (tgt := 93) dX7_text_82 (by decide) (fun c217 => ?_) (fun c217 => ?_)
            · refine g_aload_n dX7_text_93 rfl ?_
              have q94 : (pRes f N).1.1 = 0 := by rw [← RF.1]; grind
              have RE : Rw u208 (wIt f N (pRes f N).2.toNatClampNeg) := Rw_cg (RD q94).1 (by rw [eu208, uk_up_at, if_neg (by decide)]) (by rw [eu208, uk_up_oc (by decide)]) (by rw [eu208, uk_up_oc (by decide)]) (by rw [eu208, uk_up_oc (by decide)])
              have RS : u208.1 60 7 = (pIt f N (pRes f N).2.toNatClampNeg).2.2.2.1 := by rw [eu208, uk_up_at, if_neg (by decide)]; exact (RD q94).2
              have rdx218 : rd u208 := rfu208 (by grind)
              refine cl_X7_66 (c := 60) (As := []) rfl (c_X7_keepDraft_t (G := G) hs hu208 rdx218    (d + 4)) rfl (by omega) rfl rfl (Nat.le_of_ble_eq_true rfl) dX7_text_94 (fun r219 u220 q221 => ?_)
              obtain ⟨rfl, mq221⟩ := q221
              obtain ⟨hu220, gu220, riu220, ku2200, ku2201, ku2202, ku2203, ku2204, ku2205⟩ := mq221
              have fu220 : fk [60, 61, 63, 64, 65, 66, 67, 68] [22, 28] u u220 := fk_tr fu208 gu220 (by decide) (by decide)
              have T222 : u220.1 60 7 = t51 := (fk_at gu220 (by decide)).trans T210
              have T223 : u220.1 60 11 = t52 := (fk_at gu220 (by decide)).trans T211
              have T224 : u220.1 60 13 = 0 := (fk_at gu220 (by decide)).trans s209
              have T225 : u220.1 60 15 = t54 := (fk_at gu220 (by decide)).trans T212
              have T226 : u220.1 60 16 = t55 := (fk_at gu220 (by decide)).trans T213
              have T227 : u220.1 60 18 = t206 := (fk_at gu220 (by decide)).trans T214
              have T228 : u220.1 60 19 = t207 := (fk_at gu220 (by decide)).trans T215
              have s229 : u220.1 60 13 = 0 := (fk_at gu220 (by decide)).trans s209
              refine g_iload_n dX7_text_97 rfl ?_
              exact g_iret (ty := .int) dX7_text_98 rfl rfl ⟨⟨_, rfl, Or.inr ⟨by rw [← RF.1]; grind, RF.2.2 (by rw [← RF.1]; grind)⟩⟩, hu220, fu220, riu220, (T224.trans (by grind)), (by rw [T227, ← RF.1]; grind), (fun _ => ⟨RwG_keep RE (iv_at hu208 60 7 rfl).2 ku2200 ku2201 ku2202 ku2203 (iv_at hu208 60 7 rfl).1, ku2200.trans RS, ku2204, ku2205⟩), (fun q => absurd q94 q)⟩
            · refine g_bipush (v := (-10)) dX7_text_85 (by decide) ?_
              refine g_aload_n dX7_text_87 rfl ?_
              refine f_X7_97 rfl rfl dX7_text_88 ?_
              refine g_topi (fun x230 ex230 => ?_)
              have qx230 : x230 = t207 := ex230.trans T215
              refine g_isub dX7_text_91 ?_
              refine g_topi (fun x231 ex231 => ?_)
              exact g_iret (ty := .int) dX7_text_92 rfl rfl ⟨⟨_, rfl, Or.inl ⟨by rw [← RF.1]; grind, by rw [ex231, ← RF.2.1 (by rw [← RF.1]; grind)]; grind⟩⟩, hu208, fu208, riu208, (s209.trans (by grind)), (by rw [T214, ← RF.1]; grind), (fun q => by exfalso; have := RF.1; grind), (fun _ => ⟨by rw [eu208, uk_up_oc (by decide)]; exact fk_c FX9 (by decide), by rw [eu208, uk_up_oc (by decide)]; exact fk_c FX9 (by decide), by rw [eu208, uk_up_oc (by decide)]; exact fk_c FX9 (by decide), by rw [eu208, uk_up_oc (by decide)]; exact fk_c FX9 (by decide), by rw [eu208, uk_up_at, if_neg (by decide)]; exact fk_at FX9 (by decide)⟩)⟩
      · obtain ⟨b9, W9, bI, bJ, BW, B1, B2, B3, B5, B6, B8⟩ := ji493 (by grind)
        refine g_aload_n dX7_text_34 rfl ?_
        refine cl_X7_150 (c := 60) (As := []) rfl (c_X7_readLine_t (G := G) hs hu50 rfu50  f N b9 W9 B2 (by grind) B5 B6 B8 BW (d)) rfl (by omega) rfl rfl (Nat.le_of_ble_eq_true rfl) dX7_text_35 (fun r232 u233 q234 => ?_)
        obtain ⟨rfl, mq234⟩ := q234
        obtain ⟨hu233, gu233, rfu233, ku2330, ku2331, ku2332, ku2333, ku2334⟩ := mq234
        have fu233 : fk [60, 61, 63, 64, 65, 66, 67, 68] [22, 28] u u233 := fk_tr fu50 gu233 (by decide) (by decide)
        have riu233 : ri u233 := ri_fk riu50 gu233 (by decide) (by decide) (by decide) (by decide) (by decide)
        obtain ⟨t235, Tt235⟩ : ∃ t, u233.1 60 7 = t := ⟨_, rfl⟩
        have Rt235 : 0 ≤ t235 ∧ t235 ≤ 8 := by rw [← Tt235]; exact iv_at hu233 _ _ rfl
        obtain ⟨t236, Tt236⟩ : ∃ t, u233.1 60 11 = t := ⟨_, rfl⟩
        have T237 : u233.1 60 13 = t53 := (fk_at gu233 (by decide)).trans Tt53
        obtain ⟨t238, Tt238⟩ : ∃ t, u233.1 60 15 = t := ⟨_, rfl⟩
        have Rt238 : 0 ≤ t238 ∧ t238 ≤ 160 := by rw [← Tt238]; exact iv_at hu233 _ _ rfl
        obtain ⟨t239, Tt239⟩ : ∃ t, u233.1 60 16 = t := ⟨_, rfl⟩
        obtain ⟨t240, Tt240⟩ : ∃ t, u233.1 60 18 = t := ⟨_, rfl⟩
        have Rt240 : 0 ≤ t240 ∧ t240 ≤ 6 := by rw [← Tt240]; exact iv_at hu233 _ _ rfl
        obtain ⟨t241, Tt241⟩ : ∃ t, u233.1 60 19 = t := ⟨_, rfl⟩
        have wu233_60_3 : u233.1 60 3 = u50.1 60 3 := fk_at gu233 (by decide)
        refine g_iinc (v := i48 + 1) dX7_text_38 rfl rfl (by decide) ?_
        refine g_pick (lv' := [(0, .ref (uk_ad G 60)), (1, .int (i48 + 1))]) [0, 1] rfl ?_
        refine g_goto (tgt := 20) dX7_text_41 (by decide) ?_
        refine g_pick (lv' := [(0, .ref (uk_ad G 60)), (1, .int (i48 + 1))]) [0, 1] rfl ?_
        exact ihi49 (tx_ms u233) (tx_lt ki49 hu50 (by grind) ku2331) (tx_b hu233).2 ((i48 + 1)) u233 hu233 fu233 riu233 rfu233 rfl ⟨by have := iv_at hu50 60 15 (lo := 0) (hi := 160) rfl; grind, by have := iv_at hu50 60 15 (lo := 0) (hi := 160) rfl; grind⟩ (fun q => by have := iv_at hu50 60 15 (lo := 0) (hi := 160) rfl; have := ku2331 q; grind) (Rr_step hN (by grind) (by have := iv_at hu50 60 15 (lo := 0) (hi := 160) rfl; grind) (by grind) (by grind) B2 B3 ku2332 ku2333) (RW_s hN (by grind) (by have := iv_at hu50 60 15 (lo := 0) (hi := 160) rfl; grind) bI bJ (by grind) (by grind) B2 B3 ku2332 ku2333 ku2334) (fk_tr ji494 gu233 (by decide) (by decide))
  refine g_pick (lv' := [(0, .ref (uk_ad G 60)), (1, .int 0)]) [0, 1] rfl ?_
  exact L20_46 (tx_ms u38) (tx_b hu38).1 (tx_b hu38).2 0 u38 hu38 fu38 riu38 rfu38 rfl ⟨by decide, by decide⟩ (fun q => by have := iv_at hu38 60 15 (lo := 0) (hi := 160) rfl; grind) R0 RW0 FX2
