abbrev q_X7_starts (u : uk_Mem)  (r : Option Value) (u' : uk_Mem) : Prop := (r = none) ∧ (iv u' ∧ fk [62] [] u u' ∧ ra u' ∧ cpy (u'.1 62) (u.1 61) 51)
set_option maxHeartbeats 4000000 in
set_option maxRecDepth 20000 in
theorem c_X7_starts {G : uk_D} (hs : uk_Sep G) {u : uk_Mem} (hu : iv u) (hri : ri u)  (d : Nat) : uk_Meth G d mX7_starts [.ref (uk_ad G 60)] u (q_X7_starts u) := by
  refine uk_Meth.of hs (by decide) (Nat.le_of_ble_eq_true rfl) (fun X => ?_)
  have f0 : fk [62] [] u u := fk_rf
  refine g_iconst (v := 0) dX7_starts_0 (by decide) ?_
  refine g_istore_n dX7_starts_1 (by decide) ?_
  have L2_0 : ∀ i2 : Int32, 0 ≤ i2 → i2 ≤ 51 → ∀ (u3 : uk_Mem), iv u3 → fk [62] [] u u3 → cpy (u3.1 62) (u.1 61) i2 → uk_G G X mX7_starts d (q_X7_starts u) 2 [(0, .ref (uk_ad G 60)), (1, .int i2)] [] u3 := by
    refine uk_upl 51 ?_
    intro i2 ai2 bi2 ihi2  u3 hu3 fu3 ji20
    refine g_iload_n dX7_starts_2 rfl ?_
    refine g_bipush (v := 51) dX7_starts_3 (by decide) ?_
    refine g_icmp_ge (tgt := 26) dX7_starts_5 (by decide) (fun c4 => ?_) (fun c4 => ?_)
    · exact g_vret dX7_starts_26 rfl ⟨rfl, hu3, fu3, (ra_of hri (fk_at fu3 (by decide)) (fk_c fu3 (by decide)) (fk_c fu3 (by decide)) (cpy_le ji20 (by lia))), (cpy_le ji20 (by lia))⟩
    · refine g_aload_n dX7_starts_8 rfl ?_
      refine f_X7_13 rfl rfl dX7_starts_9 ?_
      refine g_iload_n dX7_starts_12 rfl ?_
      refine g_aload_n dX7_starts_13 rfl ?_
      refine f_X7_7 rfl rfl dX7_starts_14 ?_
      refine g_iload_n dX7_starts_17 rfl ?_
      have v5 : vp_in i2 153 := uk_vin 153 rfl (by first | decide | lia | grind) (by first | decide | lia | grind)
      refine g_iald rfl rfl v5 dX7_starts_18 ?_
      refine g_topi (fun x6 ex6 => ?_)
      have bx6 := uk_cl v5
      have rx6 : 0 ≤ i2 → i2 ≤ 7 → 0 ≤ x6 ∧ x6 ≤ 40 := fun a b => by rw [ex6]; exact sg_0 hu3 (by unfold uk_is51; decide) a b
      have rrx6 : 43 ≤ i2 → i2 ≤ 50 → 0 ≤ x6 ∧ x6 ≤ 7 := fun a b => by rw [ex6]; exact sg_43 hu3 (by unfold uk_is51; decide) a b
      have v7 : vp_in i2 51 := uk_vin 51 rfl (by first | decide | lia | grind) (by first | decide | lia | grind)
      have b8 := uk_cl v7
      refine g_iast rfl rfl v7 dX7_starts_19 ?_
      refine g_mem (fun u9 eu9 => ?_)
      have hu9 : iv u9 := by rw [eu9]; exact iv_cp hu3 hu3 (by unfold uk_is51; decide) (by unfold uk_is51; decide) (by omega) ex6
      have fu9 : fk [62] [] u u9 := by rw [eu9]; exact fk_up fu3 (by decide) (fun q => absurd q (by decide))
      refine g_iinc (v := i2 + 1) dX7_starts_20 rfl rfl (by decide) ?_
      refine g_goto (tgt := 2) dX7_starts_23 (by decide) ?_
      refine g_pick (lv' := [(0, .ref (uk_ad G 60)), (1, .int (i2 + 1))]) [0, 1] rfl ?_
      exact ihi2 (by first | lia | grind)  u9 hu9 fu9 (by rw [eu9, uk_up_self]; exact cpy_up ji20 (by lia) (ex6.trans (congrFun (fk_c fu3 (by decide)) _)))
  refine g_pick (lv' := [(0, .ref (uk_ad G 60)), (1, .int 0)]) [0, 1] rfl ?_
  exact L2_0 0 (by first | decide | lia | grind) (by first | decide | lia | grind)  u hu f0 cpy_0
abbrev q_X7_ends (u : uk_Mem)  (r : Option Value) (u' : uk_Mem) : Prop := (r = none) ∧ (iv u' ∧ fk [61] [] u u' ∧ ri u')
set_option maxHeartbeats 4000000 in
set_option maxRecDepth 20000 in
theorem c_X7_ends {G : uk_D} (hs : uk_Sep G) {u : uk_Mem} (hu : iv u) (hri : ri u) (hra : ra u)  (d : Nat) : uk_Meth G d mX7_ends [.ref (uk_ad G 60)] u (q_X7_ends u) := by
  refine uk_Meth.of hs (by decide) (Nat.le_of_ble_eq_true rfl) (fun X => ?_)
  have f0 : fk [61] [] u u := fk_rf
  refine g_iconst (v := 0) dX7_ends_0 (by decide) ?_
  refine g_istore_n dX7_ends_1 (by decide) ?_
  have L2_0 : ∀ i2 : Int32, 0 ≤ i2 → i2 ≤ 51 → ∀ (u3 : uk_Mem), iv u3 → fk [61] [] u u3 → cpy (u3.1 61) (u.1 62) i2 → cpx (u3.1 61) (u.1 61) → uk_G G X mX7_ends d (q_X7_ends u) 2 [(0, .ref (uk_ad G 60)), (1, .int i2)] [] u3 := by
    refine uk_upl 51 ?_
    intro i2 ai2 bi2 ihi2  u3 hu3 fu3 ji20 ji21
    refine g_iload_n dX7_ends_2 rfl ?_
    refine g_bipush (v := 51) dX7_ends_3 (by decide) ?_
    refine g_icmp_ge (tgt := 26) dX7_ends_5 (by decide) (fun c4 => ?_) (fun c4 => ?_)
    · exact g_vret dX7_ends_26 rfl ⟨rfl, hu3, fu3, (ri_of hri hra (fk_at fu3 (by decide)) (fk_c fu3 (by decide)) (fk_c fu3 (by decide)) (fk_c fu3 (by decide)) (cpy_le ji20 (by lia)) ji21)⟩
    · refine g_aload_n dX7_ends_8 rfl ?_
      refine f_X7_7 rfl rfl dX7_ends_9 ?_
      refine g_iload_n dX7_ends_12 rfl ?_
      refine g_aload_n dX7_ends_13 rfl ?_
      refine f_X7_13 rfl rfl dX7_ends_14 ?_
      refine g_iload_n dX7_ends_17 rfl ?_
      have v5 : vp_in i2 51 := uk_vin 51 rfl (by first | decide | lia | grind) (by first | decide | lia | grind)
      refine g_iald rfl rfl v5 dX7_ends_18 ?_
      refine g_topi (fun x6 ex6 => ?_)
      have bx6 := uk_cl v5
      have rx6 : 0 ≤ i2 → i2 ≤ 7 → 0 ≤ x6 ∧ x6 ≤ 40 := fun a b => by rw [ex6]; exact sg_0 hu3 (by unfold uk_is51; decide) a b
      have rrx6 : 43 ≤ i2 → i2 ≤ 50 → 0 ≤ x6 ∧ x6 ≤ 7 := fun a b => by rw [ex6]; exact sg_43 hu3 (by unfold uk_is51; decide) a b
      have v7 : vp_in i2 153 := uk_vin 153 rfl (by first | decide | lia | grind) (by first | decide | lia | grind)
      have b8 := uk_cl v7
      refine g_iast rfl rfl v7 dX7_ends_19 ?_
      refine g_mem (fun u9 eu9 => ?_)
      have hu9 : iv u9 := by rw [eu9]; exact iv_cp hu3 hu3 (by unfold uk_is51; decide) (by unfold uk_is51; decide) (by omega) ex6
      have fu9 : fk [61] [] u u9 := by rw [eu9]; exact fk_up fu3 (by decide) (fun q => absurd q (by decide))
      refine g_iinc (v := i2 + 1) dX7_ends_20 rfl rfl (by decide) ?_
      refine g_goto (tgt := 2) dX7_ends_23 (by decide) ?_
      refine g_pick (lv' := [(0, .ref (uk_ad G 60)), (1, .int (i2 + 1))]) [0, 1] rfl ?_
      exact ihi2 (by first | lia | grind)  u9 hu9 fu9 (by rw [eu9, uk_up_self]; exact cpy_up ji20 (by lia) (ex6.trans (congrFun (fk_c fu3 (by decide)) _))) (by rw [eu9, uk_up_self]; exact cpx_up ji21 (by lia) (by lia))
  refine g_pick (lv' := [(0, .ref (uk_ad G 60)), (1, .int 0)]) [0, 1] rfl ?_
  exact L2_0 0 (by first | decide | lia | grind) (by first | decide | lia | grind)  u hu f0 cpy_0 cpx_rf
abbrev q_X7_keepDraft (u : uk_Mem)  (r : Option Value) (u' : uk_Mem) : Prop := (r = none) ∧ (iv u' ∧ fk [60, 61, 63, 64, 65] [7, 10, 11, 13, 14, 15, 16, 17, 18, 19, 22, 28] u u' ∧ ri u')
set_option maxHeartbeats 4000000 in
set_option maxRecDepth 20000 in
theorem c_X7_keepDraft {G : uk_D} (hs : uk_Sep G) {u : uk_Mem} (hu : iv u) (hrd : rd u)  (d : Nat) : uk_Meth G d mX7_keepDraft [.ref (uk_ad G 60)] u (q_X7_keepDraft u) := by
  refine uk_Meth.of hs (by decide) (Nat.le_of_ble_eq_true rfl) (fun X => ?_)
  have f0 : fk [60, 61, 63, 64, 65] [7, 10, 11, 13, 14, 15, 16, 17, 18, 19, 22, 28] u u := fk_rf
  obtain ⟨t1, Tt1⟩ : ∃ t, u.1 60 3 = t := ⟨_, rfl⟩
  refine g_iconst (v := 0) dX7_keepDraft_0 (by decide) ?_
  refine g_istore_n dX7_keepDraft_1 (by decide) ?_
  have L2_1 : ∀ i3 : Int32, 0 ≤ i3 → i3 ≤ 51 → ∀ (u4 : uk_Mem), iv u4 → fk [60, 61, 63, 64, 65] [7, 10, 11, 13, 14, 15, 16, 17, 18, 19, 22, 28] u u4 → cpy (u4.1 61) (u.1 66) i3 → uk_G G X mX7_keepDraft d (q_X7_keepDraft u) 2 [(0, .ref (uk_ad G 60)), (1, .int i3)] [] u4 := by
    refine uk_upl 51 ?_
    intro i3 ai3 bi3 ihi3  u4 hu4 fu4 ji30
    obtain ⟨t5, Tt5⟩ : ∃ t, u4.1 60 3 = t := ⟨_, rfl⟩
    have Rt5 : 0 ≤ t5 ∧ t5 ≤ 8 := by rw [← Tt5]; exact iv_at hu4 _ _ rfl
    refine g_iload_n dX7_keepDraft_2 rfl ?_
    refine g_bipush (v := 51) dX7_keepDraft_3 (by decide) ?_
    refine g_icmp_ge (tgt := 26) dX7_keepDraft_5 (by decide) (fun c6 => ?_) (fun c6 => ?_)
    · refine g_aload_n dX7_keepDraft_26 rfl ?_
      refine g_aload_n dX7_keepDraft_27 rfl ?_
      refine f_X7_69 rfl rfl dX7_keepDraft_28 ?_
      refine g_topi (fun x7 ex7 => ?_)
      have rx7 : 0 ≤ x7 ∧ x7 ≤ 8 := by rw [ex7]; exact iv_at hu4 _ _ rfl
      have s8 : u4.1 60 7 = x7 := ex7.symm
      refine p_X7_79 rfl rfl dX7_keepDraft_31 ?_
      refine g_mem (fun u9 eu9 => ?_)
      have hu9 : iv u9 := by rw [eu9]; exact iv_up hu4 rfl (by first | lia | grind) (by first | lia | grind)
      have fu9 : fk [60, 61, 63, 64, 65] [7, 10, 11, 13, 14, 15, 16, 17, 18, 19, 22, 28] u u9 := by rw [eu9]; exact fk_up fu4 (by decide) (fun _ => by decide)
      have s10 : u9.1 60 3 = x7 := by rw [eu9, uk_up_at]; exact if_pos ⟨rfl, rfl⟩
      refine g_iconst (v := 0) dX7_keepDraft_34 (by decide) ?_
      refine g_istore_n dX7_keepDraft_35 (by decide) ?_
      have L36_10 : ∀ i12 : Int32, 0 ≤ i12 → i12 ≤ 8 → ∀ (u13 : uk_Mem), iv u13 → fk [60, 61, 63, 64, 65] [7, 10, 11, 13, 14, 15, 16, 17, 18, 19, 22, 28] u u13 → cpy (u13.1 61) (u.1 66) 51 → cpy (u13.1 64) (u.1 67) i12 → cpy (u13.1 65) (u.1 68) i12 → u13.1 60 3 = u.1 60 7 → uk_G G X mX7_keepDraft d (q_X7_keepDraft u) 36 [(0, .ref (uk_ad G 60)), (1, .int i12)] [] u13 := by
        refine uk_upl 8 ?_
        intro i12 ai12 bi12 ihi12  u13 hu13 fu13 ji120 ji121 ji122 ji123
        have C61_u13 : u13.1 61 = u13.1 61 := rfl
        have C63_u13 : u13.1 63 = u13.1 63 := rfl
        have C64_u13 : u13.1 64 = u13.1 64 := rfl
        have C65_u13 : u13.1 65 = u13.1 65 := rfl
        obtain ⟨t14, Tt14⟩ : ∃ t, u13.1 60 3 = t := ⟨_, rfl⟩
        have Rt14 : 0 ≤ t14 ∧ t14 ≤ 8 := by rw [← Tt14]; exact iv_at hu13 _ _ rfl
        refine g_iload_n dX7_keepDraft_36 rfl ?_
        refine g_aload_n dX7_keepDraft_37 rfl ?_
        refine f_X7_79 rfl rfl dX7_keepDraft_38 ?_
        refine g_topi (fun x15 ex15 => ?_)
        have rx15 : 0 ≤ x15 ∧ x15 ≤ 8 := by rw [ex15]; exact iv_at hu13 _ _ rfl
        have qx15 : x15 = t14 := ex15.trans Tt14
        refine g_icmp_ge (tgt := 74) dX7_keepDraft_41 (by decide) (fun c16 => ?_) (fun c16 => ?_)
        · refine g_aload_n dX7_keepDraft_74 rfl ?_
          refine f_X7_16 rfl rfl dX7_keepDraft_75 ?_
          refine g_iconst (v := 0) dX7_keepDraft_78 (by decide) ?_
          refine g_iconst (v := 0) dX7_keepDraft_79 (by decide) ?_
          have v17 : vp_in 0 2 := uk_vin 2 rfl (by first | decide | lia | grind) (by first | decide | lia | grind)
          have b18 := uk_cl v17
          refine g_zast rfl rfl v17 dX7_keepDraft_80 ?_
          rw [show vp_nar .boolean 0 = 0 from rfl]
          refine g_mem (fun u19 eu19 => ?_)
          have hu19 : iv u19 := by rw [eu19]; exact iv_up hu13 (uk_pick1 _ (by omega)) (by first | lia | grind) (by first | lia | grind)
          have fu19 : fk [60, 61, 63, 64, 65] [7, 10, 11, 13, 14, 15, 16, 17, 18, 19, 22, 28] u u19 := by rw [eu19]; exact fk_up fu13 (by decide) (fun q => absurd q (by decide))
          have T20 : u19.1 60 3 = t14 := by rw [eu19]; exact (congrFun (uk_up_oc (by decide)) _).trans Tt14
          have C21 : u19.1 61 = u13.1 61 := by rw [eu19]; exact (uk_up_oc (by decide)).trans C61_u13
          have C22 : u19.1 63 = (upd (u13.1 63) (0 : Int32).toNatClampNeg 0) := by rw [eu19, uk_up_self, C63_u13]
          have C23 : u19.1 64 = u13.1 64 := by rw [eu19]; exact (uk_up_oc (by decide)).trans C64_u13
          have C24 : u19.1 65 = u13.1 65 := by rw [eu19]; exact (uk_up_oc (by decide)).trans C65_u13
          refine g_aload_n dX7_keepDraft_81 rfl ?_
          refine f_X7_16 rfl rfl dX7_keepDraft_82 ?_
          refine g_iconst (v := 1) dX7_keepDraft_85 (by decide) ?_
          refine g_iconst (v := 0) dX7_keepDraft_86 (by decide) ?_
          have v25 : vp_in 1 2 := uk_vin 2 rfl (by first | decide | lia | grind) (by first | decide | lia | grind)
          have b26 := uk_cl v25
          refine g_zast rfl rfl v25 dX7_keepDraft_87 ?_
          rw [show vp_nar .boolean 0 = 0 from rfl]
          refine g_mem (fun u27 eu27 => ?_)
          have hu27 : iv u27 := by rw [eu27]; exact iv_up hu19 (uk_pick1 _ (by omega)) (by first | lia | grind) (by first | lia | grind)
          have fu27 : fk [60, 61, 63, 64, 65] [7, 10, 11, 13, 14, 15, 16, 17, 18, 19, 22, 28] u u27 := by rw [eu27]; exact fk_up fu19 (by decide) (fun q => absurd q (by decide))
          have T28 : u27.1 60 3 = t14 := by rw [eu27]; exact (congrFun (uk_up_oc (by decide)) _).trans T20
          have C29 : u27.1 61 = u13.1 61 := by rw [eu27]; exact (uk_up_oc (by decide)).trans C21
          have C30 : u27.1 63 = (upd ((upd (u13.1 63) (0 : Int32).toNatClampNeg 0)) (1 : Int32).toNatClampNeg 0) := by rw [eu27, uk_up_self, C22]
          have C31 : u27.1 64 = u13.1 64 := by rw [eu27]; exact (uk_up_oc (by decide)).trans C23
          have C32 : u27.1 65 = u13.1 65 := by rw [eu27]; exact (uk_up_oc (by decide)).trans C24
          exact g_vret dX7_keepDraft_88 rfl ⟨rfl, hu27, fu27, (ri_draft hrd (T28.trans (by grind)) (iv_at hu 60 7 rfl).2 (by rw [C29]; exact ji120) (by rw [C31]; exact cpy_le ji121 (by grind)) (by rw [C32]; exact cpy_le ji122 (by grind)) (by rw [C30]; rfl) (by rw [C30]; rfl))⟩
        · refine g_aload_n dX7_keepDraft_44 rfl ?_
          refine f_X7_20 rfl rfl dX7_keepDraft_45 ?_
          refine g_iload_n dX7_keepDraft_48 rfl ?_
          refine g_aload_n dX7_keepDraft_49 rfl ?_
          refine f_X7_29 rfl rfl dX7_keepDraft_50 ?_
          refine g_iload_n dX7_keepDraft_53 rfl ?_
          have v33 : vp_in i12 8 := uk_vin 8 rfl (by first | decide | lia | grind) (by first | decide | lia | grind)
          refine g_iald rfl rfl v33 dX7_keepDraft_54 ?_
          refine g_topi (fun x34 ex34 => ?_)
          have bx34 := uk_cl v33
          have rx34 : (-4) ≤ x34 ∧ x34 ≤ 7 := by rw [ex34]; exact iv_at hu13 _ _ (uk_pick1 _ (by omega))
          have v35 : vp_in i12 8 := uk_vin 8 rfl (by first | decide | lia | grind) (by first | decide | lia | grind)
          have b36 := uk_cl v35
          refine g_iast rfl rfl v35 dX7_keepDraft_55 ?_
          refine g_mem (fun u37 eu37 => ?_)
          have hu37 : iv u37 := by rw [eu37]; exact iv_up hu13 (uk_pick1 _ (by omega)) (by first | lia | grind) (by first | lia | grind)
          have fu37 : fk [60, 61, 63, 64, 65] [7, 10, 11, 13, 14, 15, 16, 17, 18, 19, 22, 28] u u37 := by rw [eu37]; exact fk_up fu13 (by decide) (fun q => absurd q (by decide))
          have T38 : u37.1 60 3 = t14 := by rw [eu37]; exact (congrFun (uk_up_oc (by decide)) _).trans Tt14
          have C39 : u37.1 61 = u13.1 61 := by rw [eu37]; exact (uk_up_oc (by decide)).trans C61_u13
          have C40 : u37.1 63 = u13.1 63 := by rw [eu37]; exact (uk_up_oc (by decide)).trans C63_u13
          have C41 : u37.1 64 = (upd (u13.1 64) (i12 : Int32).toNatClampNeg x34) := by rw [eu37, uk_up_self, C64_u13]
          have C42 : u37.1 65 = u13.1 65 := by rw [eu37]; exact (uk_up_oc (by decide)).trans C65_u13
          refine g_aload_n dX7_keepDraft_56 rfl ?_
          refine f_X7_23 rfl rfl dX7_keepDraft_57 ?_
          refine g_iload_n dX7_keepDraft_60 rfl ?_
          refine g_aload_n dX7_keepDraft_61 rfl ?_
          refine f_X7_32 rfl rfl dX7_keepDraft_62 ?_
          refine g_iload_n dX7_keepDraft_65 rfl ?_
          have v43 : vp_in i12 8 := uk_vin 8 rfl (by first | decide | lia | grind) (by first | decide | lia | grind)
          refine g_iald rfl rfl v43 dX7_keepDraft_66 ?_
          refine g_topi (fun x44 ex44 => ?_)
          have bx44 := uk_cl v43
          have rx44 : (-4) ≤ x44 ∧ x44 ≤ 7 := by rw [ex44]; exact iv_at hu37 _ _ (uk_pick1 _ (by omega))
          have v45 : vp_in i12 8 := uk_vin 8 rfl (by first | decide | lia | grind) (by first | decide | lia | grind)
          have b46 := uk_cl v45
          refine g_iast rfl rfl v45 dX7_keepDraft_67 ?_
          refine g_mem (fun u47 eu47 => ?_)
          have hu47 : iv u47 := by rw [eu47]; exact iv_up hu37 (uk_pick1 _ (by omega)) (by first | lia | grind) (by first | lia | grind)
          have fu47 : fk [60, 61, 63, 64, 65] [7, 10, 11, 13, 14, 15, 16, 17, 18, 19, 22, 28] u u47 := by rw [eu47]; exact fk_up fu37 (by decide) (fun q => absurd q (by decide))
          have T48 : u47.1 60 3 = t14 := by rw [eu47]; exact (congrFun (uk_up_oc (by decide)) _).trans T38
          have C49 : u47.1 61 = u13.1 61 := by rw [eu47]; exact (uk_up_oc (by decide)).trans C39
          have C50 : u47.1 63 = u13.1 63 := by rw [eu47]; exact (uk_up_oc (by decide)).trans C40
          have C51 : u47.1 64 = (upd (u13.1 64) (i12 : Int32).toNatClampNeg x34) := by rw [eu47]; exact (uk_up_oc (by decide)).trans C41
          have C52 : u47.1 65 = (upd (u13.1 65) (i12 : Int32).toNatClampNeg x44) := by rw [eu47, uk_up_self, C42]
          refine g_iinc (v := i12 + 1) dX7_keepDraft_68 rfl rfl (by decide) ?_
          refine g_goto (tgt := 36) dX7_keepDraft_71 (by decide) ?_
          refine g_pick (lv' := [(0, .ref (uk_ad G 60)), (1, .int (i12 + 1))]) [0, 1] rfl ?_
          exact ihi12 (by first | lia | grind)  u47 hu47 fu47 (by rw [C49]; exact ji120) (by rw [C51]; exact cpy_up ji121 (by lia) (ex34.trans (congrFun (fk_c fu13 (by decide)) _))) (by rw [C52]; exact cpy_up ji122 (by lia) (ex44.trans (congrFun (fk_c fu37 (by decide)) _))) (by grind)
      refine g_pick (lv' := [(0, .ref (uk_ad G 60)), (1, .int 0)]) [0, 1] rfl ?_
      exact L36_10 0 (by first | decide | lia | grind) (by first | decide | lia | grind)  u9 hu9 fu9 (by rw [eu9, uk_up_oc (by decide)]; exact (show i3 = 51 by grind) ▸ ji30) cpy_0 cpy_0 (s10.trans (ex7.trans (fk_at fu4 (by decide))))
    · refine g_aload_n dX7_keepDraft_8 rfl ?_
      refine f_X7_7 rfl rfl dX7_keepDraft_9 ?_
      refine g_iload_n dX7_keepDraft_12 rfl ?_
      refine g_aload_n dX7_keepDraft_13 rfl ?_
      refine f_X7_26 rfl rfl dX7_keepDraft_14 ?_
      refine g_iload_n dX7_keepDraft_17 rfl ?_
      have v53 : vp_in i3 51 := uk_vin 51 rfl (by first | decide | lia | grind) (by first | decide | lia | grind)
      refine g_iald rfl rfl v53 dX7_keepDraft_18 ?_
      refine g_topi (fun x54 ex54 => ?_)
      have bx54 := uk_cl v53
      have rx54 : 0 ≤ i3 → i3 ≤ 7 → 0 ≤ x54 ∧ x54 ≤ 40 := fun a b => by rw [ex54]; exact sg_0 hu4 (by unfold uk_is51; decide) a b
      have rrx54 : 43 ≤ i3 → i3 ≤ 50 → 0 ≤ x54 ∧ x54 ≤ 7 := fun a b => by rw [ex54]; exact sg_43 hu4 (by unfold uk_is51; decide) a b
      have v55 : vp_in i3 153 := uk_vin 153 rfl (by first | decide | lia | grind) (by first | decide | lia | grind)
      have b56 := uk_cl v55
      refine g_iast rfl rfl v55 dX7_keepDraft_19 ?_
      refine g_mem (fun u57 eu57 => ?_)
      have hu57 : iv u57 := by rw [eu57]; exact iv_cp hu4 hu4 (by unfold uk_is51; decide) (by unfold uk_is51; decide) (by omega) ex54
      have fu57 : fk [60, 61, 63, 64, 65] [7, 10, 11, 13, 14, 15, 16, 17, 18, 19, 22, 28] u u57 := by rw [eu57]; exact fk_up fu4 (by decide) (fun q => absurd q (by decide))
      have T58 : u57.1 60 3 = t5 := by rw [eu57]; exact (congrFun (uk_up_oc (by decide)) _).trans Tt5
      refine g_iinc (v := i3 + 1) dX7_keepDraft_20 rfl rfl (by decide) ?_
      refine g_goto (tgt := 2) dX7_keepDraft_23 (by decide) ?_
      refine g_pick (lv' := [(0, .ref (uk_ad G 60)), (1, .int (i3 + 1))]) [0, 1] rfl ?_
      exact ihi3 (by first | lia | grind)  u57 hu57 fu57 (by rw [eu57, uk_up_self]; exact cpy_up ji30 (by lia) (ex54.trans (congrFun (fk_c fu4 (by decide)) _)))
  refine g_pick (lv' := [(0, .ref (uk_ad G 60)), (1, .int 0)]) [0, 1] rfl ?_
  exact L2_1 0 (by first | decide | lia | grind) (by first | decide | lia | grind)  u hu f0 cpy_0
abbrev q_X7_text (u : uk_Mem)  (r : Option Value) (u' : uk_Mem) : Prop := (∃ x : Int32, r = some (.int x) ∧ True) ∧ (iv u' ∧ fk [60, 61, 63, 64, 65, 66, 67, 68] [22, 28] u u' ∧ ri u' ∧ u'.1 60 13 = 0)
set_option maxHeartbeats 4000000 in
set_option maxRecDepth 20000 in
theorem c_X7_text {G : uk_D} (hs : uk_Sep G) {u : uk_Mem} (hu : iv u) (hri : ri u)  (d : Nat) : uk_Meth G (d + 5) mX7_text [.ref (uk_ad G 60)] u (q_X7_text u) := by
  refine uk_Meth.of hs (by decide) (Nat.le_of_ble_eq_true rfl) (fun X => ?_)
  have f0 : fk [60, 61, 63, 64, 65, 66, 67, 68] [22, 28] u u := fk_rf
  obtain ⟨t1, Tt1⟩ : ∃ t, u.1 60 13 = t := ⟨_, rfl⟩
  refine g_iconst (v := 0) dX7_text_0 (by decide) ?_
  refine g_istore_n dX7_text_1 (by decide) ?_
  refine g_aload_n dX7_text_2 rfl ?_
  refine g_iconst (v := 0) dX7_text_3 (by decide) ?_
  refine p_X7_91 rfl rfl dX7_text_4 ?_
  refine g_mem (fun u2 eu2 => ?_)
  have hu2 : iv u2 := by rw [eu2]; exact iv_up hu rfl (by first | lia | grind) (by first | lia | grind)
  have fu2 : fk [60, 61, 63, 64, 65, 66, 67, 68] [22, 28] u u2 := by rw [eu2]; exact fk_up f0 (by decide) (fun _ => by decide)
  have riu2 : ri u2 := by rw [eu2]; exact ri_1 hri (by decide) (fun _ => by decide)
  have s3 : u2.1 60 18 = 0 := by rw [eu2, uk_up_at]; exact if_pos ⟨rfl, rfl⟩
  have T4 : u2.1 60 13 = t1 := by rw [eu2, uk_up_at, if_neg (by decide)]; exact Tt1
  refine g_aload_n dX7_text_7 rfl ?_
  refine g_iconst (v := 0) dX7_text_8 (by decide) ?_
  refine p_X7_100 rfl rfl dX7_text_9 ?_
  refine g_mem (fun u5 eu5 => ?_)
  have hu5 : iv u5 := by rw [eu5]; exact iv_up hu2 rfl (by first | lia | grind) (by first | lia | grind)
  have fu5 : fk [60, 61, 63, 64, 65, 66, 67, 68] [22, 28] u u5 := by rw [eu5]; exact fk_up fu2 (by decide) (fun _ => by decide)
  have riu5 : ri u5 := by rw [eu5]; exact ri_1 riu2 (by decide) (fun _ => by decide)
  have s6 : u5.1 60 14 = 0 := by rw [eu5, uk_up_at]; exact if_pos ⟨rfl, rfl⟩
  have T7 : u5.1 60 13 = t1 := by rw [eu5, uk_up_at, if_neg (by decide)]; exact T4
  refine g_aload_n dX7_text_12 rfl ?_
  refine cl_X7_63 (c := 60) (As := []) rfl (c_X7_firstDraft (G := G) hs hu5    (d + 4)) rfl (by omega) rfl rfl (Nat.le_of_ble_eq_true rfl) dX7_text_13 (fun r8 u9 q10 => ?_)
  obtain ⟨rfl, mq10⟩ := q10
  obtain ⟨hu9, gu9, rfu9, ku90⟩ := mq10
  have fu9 : fk [60, 61, 63, 64, 65, 66, 67, 68] [22, 28] u u9 := fk_tr fu5 gu9 (by decide) (by decide)
  have riu9 : ri u9 := ri_fk riu5 gu9 (by decide) (by decide) (by decide) (by decide) (by decide)
  have T11 : u9.1 60 13 = t1 := (fk_at gu9 (by decide)).trans T7
  have s12 : u9.1 60 18 = 0 := (fk_at gu9 (by decide)).trans (by simp [eu5, uk_up_at, s3] : u5.1 60 18 = 0)
  have s13 : u9.1 60 14 = 0 := (fk_at gu9 (by decide)).trans s6
  refine g_aload_n dX7_text_16 rfl ?_
  refine cl_X7_133 (c := 60) (As := []) rfl (c_X7_next (G := G) hs hu9    (d + 3)) rfl (by omega) rfl rfl (Nat.le_of_ble_eq_true rfl) dX7_text_17 (fun r14 u15 q16 => ?_)
  obtain ⟨rfl, mq16⟩ := q16
  obtain ⟨hu15, gu15, ku150, ku151, ku152, ku153⟩ := mq16
  have fu15 : fk [60, 61, 63, 64, 65, 66, 67, 68] [22, 28] u u15 := fk_tr fu9 gu15 (by decide) (by decide)
  have riu15 : ri u15 := ri_fk riu9 gu15 (by decide) (by decide) (by decide) (by decide) (by decide)
  have rfu15 : rf u15 := rf_mono rfu9 gu15 ku150 (by decide) (by decide) (by decide) (by decide)
  have T17 : u15.1 60 13 = t1 := (fk_at gu15 (by decide)).trans T11
  have L20_17 : ∀ i20 : Int32, 0 ≤ i20 → i20 ≤ 161 → ∀ (i19 : Int32) (u21 : uk_Mem), iv u21 → fk [60, 61, 63, 64, 65, 66, 67, 68] [22, 28] u u21 → ri u21 → rf u21 → tx_ms u21 = i20 → uk_G G X mX7_text (d + 5) (q_X7_text u) 20 [(0, .ref (uk_ad G 60)), (1, .int i19)] [] u21 := by
    refine uk_ups 161 ?_
    intro i20 ai20 bi20 ihi20 i19 u21 hu21 fu21 riu21 rfu21 ki20
    obtain ⟨t22, Tt22⟩ : ∃ t, u21.1 60 13 = t := ⟨_, rfl⟩
    have Rt22 : 0 ≤ t22 ∧ t22 ≤ 160 := by rw [← Tt22]; exact iv_at hu21 _ _ rfl
    refine g_aload_n dX7_text_20 rfl ?_
    refine f_X7_91 rfl rfl dX7_text_21 ?_
    refine g_topi (fun x23 ex23 => ?_)
    have rx23 : 0 ≤ x23 ∧ x23 ≤ 6 := by rw [ex23]; exact iv_at hu21 _ _ rfl
    have s24 : u21.1 60 18 = x23 := ex23.symm
    refine g_if_ne (tgt := 44) dX7_text_24 (by decide) (fun c25 => ?_) (fun c25 => ?_)
    · refine g_aload_n dX7_text_44 rfl ?_
      refine f_X7_91 rfl rfl dX7_text_45 ?_
      refine g_topi (fun x26 ex26 => ?_)
      have rx26 : 0 ≤ x26 ∧ x26 ≤ 6 := by rw [ex26]; exact iv_at hu21 _ _ rfl
      have qx26 : x26 = x23 := by rw [ex26]; exact s24
      refine g_if_ne (tgt := 73) dX7_text_48 (by decide) (fun c27 => ?_) (fun c27 => ?_)
      · refine g_aload_n dX7_text_73 rfl ?_
        refine g_iconst (v := 0) dX7_text_74 (by decide) ?_
        refine p_X7_88 rfl rfl dX7_text_75 ?_
        refine g_mem (fun u28 eu28 => ?_)
        have hu28 : iv u28 := by rw [eu28]; exact iv_up hu21 rfl (by first | lia | grind) (by first | lia | grind)
        have fu28 : fk [60, 61, 63, 64, 65, 66, 67, 68] [22, 28] u u28 := by rw [eu28]; exact fk_up fu21 (by decide) (fun _ => by decide)
        have riu28 : ri u28 := by rw [eu28]; exact ri_1 riu21 (by decide) (fun _ => by decide)
        have rfu28 : rf u28 := by rw [eu28]; exact rf_1 rfu21 (by decide)
        have s29 : u28.1 60 13 = 0 := by rw [eu28, uk_up_at]; exact if_pos ⟨rfl, rfl⟩
        refine g_aload_n dX7_text_78 rfl ?_
        refine f_X7_91 rfl rfl dX7_text_79 ?_
        refine g_topi (fun x30 ex30 => ?_)
        have rx30 : 0 ≤ x30 ∧ x30 ≤ 6 := by rw [ex30]; exact iv_at hu28 _ _ rfl
        have qx30 : x30 = x23 := by rw [ex30]; simp [eu28, uk_up_at, s24]
        refine g_if_le (tgt := 93) dX7_text_82 (by decide) (fun c31 => ?_) (fun c31 => ?_)
        · refine g_aload_n dX7_text_93 rfl ?_
          have rdx32 : rd u28 := rfu28 (by grind)
          refine cl_X7_66 (c := 60) (As := []) rfl (c_X7_keepDraft (G := G) hs hu28 rdx32    (d + 4)) rfl (by omega) rfl rfl (Nat.le_of_ble_eq_true rfl) dX7_text_94 (fun r33 u34 q35 => ?_)
          obtain ⟨rfl, mq35⟩ := q35
          obtain ⟨hu34, gu34, riu34⟩ := mq35
          have fu34 : fk [60, 61, 63, 64, 65, 66, 67, 68] [22, 28] u u34 := fk_tr fu28 gu34 (by decide) (by decide)
          have T36 : u34.1 60 13 = 0 := (fk_at gu34 (by decide)).trans s29
          have s37 : u34.1 60 18 = x23 := (fk_at gu34 (by decide)).trans (by simp [eu28, uk_up_at, s24] : u28.1 60 18 = x23)
          have s38 : u34.1 60 13 = 0 := (fk_at gu34 (by decide)).trans s29
          refine g_iload_n dX7_text_97 rfl ?_
          exact g_iret (ty := .int) dX7_text_98 rfl rfl ⟨⟨_, rfl, by first | trivial | lia | grind⟩, hu34, fu34, riu34, (T36.trans (by grind))⟩
        · refine g_bipush (v := (-10)) dX7_text_85 (by decide) ?_
          refine g_aload_n dX7_text_87 rfl ?_
          refine f_X7_97 rfl rfl dX7_text_88 ?_
          refine g_topi (fun x39 ex39 => ?_)
          have s40 : u28.1 60 19 = x39 := ex39.symm
          refine g_isub dX7_text_91 ?_
          refine g_topi (fun x41 ex41 => ?_)
          exact g_iret (ty := .int) dX7_text_92 rfl rfl ⟨⟨_, rfl, by first | trivial | lia | grind⟩, hu28, fu28, riu28, (s29.trans (by grind))⟩
      · refine g_aload_n dX7_text_51 rfl ?_
        refine g_aload_n dX7_text_52 rfl ?_
        refine f_X7_76 rfl rfl dX7_text_53 ?_
        refine g_topi (fun x42 ex42 => ?_)
        have s43 : u21.1 60 11 = x42 := ex42.symm
        refine g_aload_n dX7_text_56 rfl ?_
        refine f_X7_69 rfl rfl dX7_text_57 ?_
        refine g_topi (fun x44 ex44 => ?_)
        have rx44 : 0 ≤ x44 ∧ x44 ≤ 8 := by rw [ex44]; exact iv_at hu21 _ _ rfl
        have s45 : u21.1 60 7 = x44 := ex44.symm
        refine g_icmp_ge (tgt := 67) dX7_text_60 (by decide) (fun c46 => ?_) (fun c46 => ?_)
        · refine g_iconst (v := 0) dX7_text_67 (by decide) ?_
          refine g_bipush (v := 6) dX7_text_68 (by decide) ?_
          refine cl_X7_125 (c := 60) (As := [.int 0, .int 6]) rfl (c_X7_needs (G := G) hs hu21  0 6 (by first | trivial | decide | lia | grind) (by first | trivial | decide | lia | grind) (d + 4)) rfl (by omega) rfl rfl (Nat.le_of_ble_eq_true rfl) dX7_text_70 (fun r47 u48 q49 => ?_)
          obtain ⟨rfl, mq49⟩ := q49
          obtain ⟨hu48, gu48, ku480⟩ := mq49
          have fu48 : fk [60, 61, 63, 64, 65, 66, 67, 68] [22, 28] u u48 := fk_tr fu21 gu48 (by decide) (by decide)
          have riu48 : ri u48 := ri_fk riu21 gu48 (by decide) (by decide) (by decide) (by decide) (by decide)
          have rfu48 : rf u48 := rf_mono rfu21 gu48 (fun q => (ku480 q).1) (by decide) (by decide) (by decide) (by decide)
          have T50 : u48.1 60 13 = t22 := (fk_at gu48 (by decide)).trans Tt22
          have s51 : u48.1 60 11 = x42 := (fk_at gu48 (by decide)).trans s43
          have s52 : u48.1 60 7 = x44 := (fk_at gu48 (by decide)).trans s45
          refine g_aload_n dX7_text_73 rfl ?_
          refine g_iconst (v := 0) dX7_text_74 (by decide) ?_
          refine p_X7_88 rfl rfl dX7_text_75 ?_
          refine g_mem (fun u53 eu53 => ?_)
          have hu53 : iv u53 := by rw [eu53]; exact iv_up hu48 rfl (by first | lia | grind) (by first | lia | grind)
          have fu53 : fk [60, 61, 63, 64, 65, 66, 67, 68] [22, 28] u u53 := by rw [eu53]; exact fk_up fu48 (by decide) (fun _ => by decide)
          have riu53 : ri u53 := by rw [eu53]; exact ri_1 riu48 (by decide) (fun _ => by decide)
          have rfu53 : rf u53 := by rw [eu53]; exact rf_1 rfu48 (by decide)
          have s54 : u53.1 60 13 = 0 := by rw [eu53, uk_up_at]; exact if_pos ⟨rfl, rfl⟩
          refine g_aload_n dX7_text_78 rfl ?_
          refine f_X7_91 rfl rfl dX7_text_79 ?_
          refine g_topi (fun x55 ex55 => ?_)
          have rx55 : 0 ≤ x55 ∧ x55 ≤ 6 := by rw [ex55]; exact iv_at hu53 _ _ rfl
          have s56 : u53.1 60 18 = x55 := ex55.symm
          refine g_if_le (tgt := 93) dX7_text_82 (by decide) (fun c57 => ?_) (fun c57 => ?_)
          · refine g_aload_n dX7_text_93 rfl ?_
            have rdx58 : rd u53 := rfu53 (by grind)
            refine cl_X7_66 (c := 60) (As := []) rfl (c_X7_keepDraft (G := G) hs hu53 rdx58    (d + 4)) rfl (by omega) rfl rfl (Nat.le_of_ble_eq_true rfl) dX7_text_94 (fun r59 u60 q61 => ?_)
            obtain ⟨rfl, mq61⟩ := q61
            obtain ⟨hu60, gu60, riu60⟩ := mq61
            have fu60 : fk [60, 61, 63, 64, 65, 66, 67, 68] [22, 28] u u60 := fk_tr fu53 gu60 (by decide) (by decide)
            have T62 : u60.1 60 13 = 0 := (fk_at gu60 (by decide)).trans s54
            have s63 : u60.1 60 11 = x42 := (fk_at gu60 (by decide)).trans (by simp [eu53, uk_up_at, s51] : u53.1 60 11 = x42)
            have s64 : u60.1 60 7 = x44 := (fk_at gu60 (by decide)).trans (by simp [eu53, uk_up_at, s52] : u53.1 60 7 = x44)
            have s65 : u60.1 60 13 = 0 := (fk_at gu60 (by decide)).trans s54
            have s66 : u60.1 60 18 = x55 := (fk_at gu60 (by decide)).trans s56
            refine g_iload_n dX7_text_97 rfl ?_
            exact g_iret (ty := .int) dX7_text_98 rfl rfl ⟨⟨_, rfl, by first | trivial | lia | grind⟩, hu60, fu60, riu60, (T62.trans (by grind))⟩
          · refine g_bipush (v := (-10)) dX7_text_85 (by decide) ?_
            refine g_aload_n dX7_text_87 rfl ?_
            refine f_X7_97 rfl rfl dX7_text_88 ?_
            refine g_topi (fun x67 ex67 => ?_)
            have s68 : u53.1 60 19 = x67 := ex67.symm
            refine g_isub dX7_text_91 ?_
            refine g_topi (fun x69 ex69 => ?_)
            exact g_iret (ty := .int) dX7_text_92 rfl rfl ⟨⟨_, rfl, by first | trivial | lia | grind⟩, hu53, fu53, riu53, (s54.trans (by grind))⟩
        · refine g_iconst (v := 1) dX7_text_63 (by decide) ?_
          refine g_goto (tgt := 68) dX7_text_64 (by decide) ?_
          refine g_bipush (v := 6) dX7_text_68 (by decide) ?_
          refine cl_X7_125 (c := 60) (As := [.int 1, .int 6]) rfl (c_X7_needs (G := G) hs hu21  1 6 (by first | trivial | decide | lia | grind) (by first | trivial | decide | lia | grind) (d + 4)) rfl (by omega) rfl rfl (Nat.le_of_ble_eq_true rfl) dX7_text_70 (fun r70 u71 q72 => ?_)
          obtain ⟨rfl, mq72⟩ := q72
          obtain ⟨hu71, gu71, ku710⟩ := mq72
          have fu71 : fk [60, 61, 63, 64, 65, 66, 67, 68] [22, 28] u u71 := fk_tr fu21 gu71 (by decide) (by decide)
          have riu71 : ri u71 := ri_fk riu21 gu71 (by decide) (by decide) (by decide) (by decide) (by decide)
          have rfu71 : rf u71 := rf_mono rfu21 gu71 (fun q => (ku710 q).1) (by decide) (by decide) (by decide) (by decide)
          have T73 : u71.1 60 13 = t22 := (fk_at gu71 (by decide)).trans Tt22
          have s74 : u71.1 60 11 = x42 := (fk_at gu71 (by decide)).trans s43
          have s75 : u71.1 60 7 = x44 := (fk_at gu71 (by decide)).trans s45
          refine g_aload_n dX7_text_73 rfl ?_
          refine g_iconst (v := 0) dX7_text_74 (by decide) ?_
          refine p_X7_88 rfl rfl dX7_text_75 ?_
          refine g_mem (fun u76 eu76 => ?_)
          have hu76 : iv u76 := by rw [eu76]; exact iv_up hu71 rfl (by first | lia | grind) (by first | lia | grind)
          have fu76 : fk [60, 61, 63, 64, 65, 66, 67, 68] [22, 28] u u76 := by rw [eu76]; exact fk_up fu71 (by decide) (fun _ => by decide)
          have riu76 : ri u76 := by rw [eu76]; exact ri_1 riu71 (by decide) (fun _ => by decide)
          have rfu76 : rf u76 := by rw [eu76]; exact rf_1 rfu71 (by decide)
          have s77 : u76.1 60 13 = 0 := by rw [eu76, uk_up_at]; exact if_pos ⟨rfl, rfl⟩
          refine g_aload_n dX7_text_78 rfl ?_
          refine f_X7_91 rfl rfl dX7_text_79 ?_
          refine g_topi (fun x78 ex78 => ?_)
          have rx78 : 0 ≤ x78 ∧ x78 ≤ 6 := by rw [ex78]; exact iv_at hu76 _ _ rfl
          have s79 : u76.1 60 18 = x78 := ex78.symm
          refine g_if_le (tgt := 93) dX7_text_82 (by decide) (fun c80 => ?_) (fun c80 => ?_)
          · refine g_aload_n dX7_text_93 rfl ?_
            have rdx81 : rd u76 := rfu76 (by grind)
            refine cl_X7_66 (c := 60) (As := []) rfl (c_X7_keepDraft (G := G) hs hu76 rdx81    (d + 4)) rfl (by omega) rfl rfl (Nat.le_of_ble_eq_true rfl) dX7_text_94 (fun r82 u83 q84 => ?_)
            obtain ⟨rfl, mq84⟩ := q84
            obtain ⟨hu83, gu83, riu83⟩ := mq84
            have fu83 : fk [60, 61, 63, 64, 65, 66, 67, 68] [22, 28] u u83 := fk_tr fu76 gu83 (by decide) (by decide)
            have T85 : u83.1 60 13 = 0 := (fk_at gu83 (by decide)).trans s77
            have s86 : u83.1 60 11 = x42 := (fk_at gu83 (by decide)).trans (by simp [eu76, uk_up_at, s74] : u76.1 60 11 = x42)
            have s87 : u83.1 60 7 = x44 := (fk_at gu83 (by decide)).trans (by simp [eu76, uk_up_at, s75] : u76.1 60 7 = x44)
            have s88 : u83.1 60 13 = 0 := (fk_at gu83 (by decide)).trans s77
            have s89 : u83.1 60 18 = x78 := (fk_at gu83 (by decide)).trans s79
            refine g_iload_n dX7_text_97 rfl ?_
            exact g_iret (ty := .int) dX7_text_98 rfl rfl ⟨⟨_, rfl, by first | trivial | lia | grind⟩, hu83, fu83, riu83, (T85.trans (by grind))⟩
          · refine g_bipush (v := (-10)) dX7_text_85 (by decide) ?_
            refine g_aload_n dX7_text_87 rfl ?_
            refine f_X7_97 rfl rfl dX7_text_88 ?_
            refine g_topi (fun x90 ex90 => ?_)
            have s91 : u76.1 60 19 = x90 := ex90.symm
            refine g_isub dX7_text_91 ?_
            refine g_topi (fun x92 ex92 => ?_)
            exact g_iret (ty := .int) dX7_text_92 rfl rfl ⟨⟨_, rfl, by first | trivial | lia | grind⟩, hu76, fu76, riu76, (s77.trans (by grind))⟩
    · refine g_aload_n dX7_text_27 rfl ?_
      refine f_X7_111 rfl rfl dX7_text_28 ?_
      refine g_topi (fun x93 ex93 => ?_)
      have s94 : u21.1 60 16 = x93 := ex93.symm
      refine g_if_eq (tgt := 44) dX7_text_31 (by decide) (fun c95 => ?_) (fun c95 => ?_)
      · refine g_aload_n dX7_text_44 rfl ?_
        refine f_X7_91 rfl rfl dX7_text_45 ?_
        refine g_topi (fun x96 ex96 => ?_)
        have rx96 : 0 ≤ x96 ∧ x96 ≤ 6 := by rw [ex96]; exact iv_at hu21 _ _ rfl
        have qx96 : x96 = x23 := by rw [ex96]; exact s24
        refine g_if_ne (tgt := 73) dX7_text_48 (by decide) (fun c97 => ?_) (fun c97 => ?_)
        · refine g_aload_n dX7_text_73 rfl ?_
          refine g_iconst (v := 0) dX7_text_74 (by decide) ?_
          refine p_X7_88 rfl rfl dX7_text_75 ?_
          refine g_mem (fun u98 eu98 => ?_)
          have hu98 : iv u98 := by rw [eu98]; exact iv_up hu21 rfl (by first | lia | grind) (by first | lia | grind)
          have fu98 : fk [60, 61, 63, 64, 65, 66, 67, 68] [22, 28] u u98 := by rw [eu98]; exact fk_up fu21 (by decide) (fun _ => by decide)
          have riu98 : ri u98 := by rw [eu98]; exact ri_1 riu21 (by decide) (fun _ => by decide)
          have rfu98 : rf u98 := by rw [eu98]; exact rf_1 rfu21 (by decide)
          have s99 : u98.1 60 13 = 0 := by rw [eu98, uk_up_at]; exact if_pos ⟨rfl, rfl⟩
          refine g_aload_n dX7_text_78 rfl ?_
          refine f_X7_91 rfl rfl dX7_text_79 ?_
          refine g_topi (fun x100 ex100 => ?_)
          have rx100 : 0 ≤ x100 ∧ x100 ≤ 6 := by rw [ex100]; exact iv_at hu98 _ _ rfl
          have qx100 : x100 = x23 := by rw [ex100]; simp [eu98, uk_up_at, s24]
          refine g_if_le (tgt := 93) dX7_text_82 (by decide) (fun c101 => ?_) (fun c101 => ?_)
          · refine g_aload_n dX7_text_93 rfl ?_
            have rdx102 : rd u98 := rfu98 (by grind)
            refine cl_X7_66 (c := 60) (As := []) rfl (c_X7_keepDraft (G := G) hs hu98 rdx102    (d + 4)) rfl (by omega) rfl rfl (Nat.le_of_ble_eq_true rfl) dX7_text_94 (fun r103 u104 q105 => ?_)
            obtain ⟨rfl, mq105⟩ := q105
            obtain ⟨hu104, gu104, riu104⟩ := mq105
            have fu104 : fk [60, 61, 63, 64, 65, 66, 67, 68] [22, 28] u u104 := fk_tr fu98 gu104 (by decide) (by decide)
            have T106 : u104.1 60 13 = 0 := (fk_at gu104 (by decide)).trans s99
            have s107 : u104.1 60 18 = x23 := (fk_at gu104 (by decide)).trans (by simp [eu98, uk_up_at, s24] : u98.1 60 18 = x23)
            have s108 : u104.1 60 16 = x93 := (fk_at gu104 (by decide)).trans (by simp [eu98, uk_up_at, s94] : u98.1 60 16 = x93)
            have s109 : u104.1 60 13 = 0 := (fk_at gu104 (by decide)).trans s99
            refine g_iload_n dX7_text_97 rfl ?_
            exact g_iret (ty := .int) dX7_text_98 rfl rfl ⟨⟨_, rfl, by first | trivial | lia | grind⟩, hu104, fu104, riu104, (T106.trans (by grind))⟩
          · refine g_bipush (v := (-10)) dX7_text_85 (by decide) ?_
            refine g_aload_n dX7_text_87 rfl ?_
            refine f_X7_97 rfl rfl dX7_text_88 ?_
            refine g_topi (fun x110 ex110 => ?_)
            have s111 : u98.1 60 19 = x110 := ex110.symm
            refine g_isub dX7_text_91 ?_
            refine g_topi (fun x112 ex112 => ?_)
            exact g_iret (ty := .int) dX7_text_92 rfl rfl ⟨⟨_, rfl, by first | trivial | lia | grind⟩, hu98, fu98, riu98, (s99.trans (by grind))⟩
        · refine g_aload_n dX7_text_51 rfl ?_
          refine g_aload_n dX7_text_52 rfl ?_
          refine f_X7_76 rfl rfl dX7_text_53 ?_
          refine g_topi (fun x113 ex113 => ?_)
          have s114 : u21.1 60 11 = x113 := ex113.symm
          refine g_aload_n dX7_text_56 rfl ?_
          refine f_X7_69 rfl rfl dX7_text_57 ?_
          refine g_topi (fun x115 ex115 => ?_)
          have rx115 : 0 ≤ x115 ∧ x115 ≤ 8 := by rw [ex115]; exact iv_at hu21 _ _ rfl
          have s116 : u21.1 60 7 = x115 := ex115.symm
          refine g_icmp_ge (tgt := 67) dX7_text_60 (by decide) (fun c117 => ?_) (fun c117 => ?_)
          · refine g_iconst (v := 0) dX7_text_67 (by decide) ?_
            refine g_bipush (v := 6) dX7_text_68 (by decide) ?_
            refine cl_X7_125 (c := 60) (As := [.int 0, .int 6]) rfl (c_X7_needs (G := G) hs hu21  0 6 (by first | trivial | decide | lia | grind) (by first | trivial | decide | lia | grind) (d + 4)) rfl (by omega) rfl rfl (Nat.le_of_ble_eq_true rfl) dX7_text_70 (fun r118 u119 q120 => ?_)
            obtain ⟨rfl, mq120⟩ := q120
            obtain ⟨hu119, gu119, ku1190⟩ := mq120
            have fu119 : fk [60, 61, 63, 64, 65, 66, 67, 68] [22, 28] u u119 := fk_tr fu21 gu119 (by decide) (by decide)
            have riu119 : ri u119 := ri_fk riu21 gu119 (by decide) (by decide) (by decide) (by decide) (by decide)
            have rfu119 : rf u119 := rf_mono rfu21 gu119 (fun q => (ku1190 q).1) (by decide) (by decide) (by decide) (by decide)
            have T121 : u119.1 60 13 = t22 := (fk_at gu119 (by decide)).trans Tt22
            have s122 : u119.1 60 16 = x93 := (fk_at gu119 (by decide)).trans s94
            have s123 : u119.1 60 11 = x113 := (fk_at gu119 (by decide)).trans s114
            have s124 : u119.1 60 7 = x115 := (fk_at gu119 (by decide)).trans s116
            refine g_aload_n dX7_text_73 rfl ?_
            refine g_iconst (v := 0) dX7_text_74 (by decide) ?_
            refine p_X7_88 rfl rfl dX7_text_75 ?_
            refine g_mem (fun u125 eu125 => ?_)
            have hu125 : iv u125 := by rw [eu125]; exact iv_up hu119 rfl (by first | lia | grind) (by first | lia | grind)
            have fu125 : fk [60, 61, 63, 64, 65, 66, 67, 68] [22, 28] u u125 := by rw [eu125]; exact fk_up fu119 (by decide) (fun _ => by decide)
            have riu125 : ri u125 := by rw [eu125]; exact ri_1 riu119 (by decide) (fun _ => by decide)
            have rfu125 : rf u125 := by rw [eu125]; exact rf_1 rfu119 (by decide)
            have s126 : u125.1 60 13 = 0 := by rw [eu125, uk_up_at]; exact if_pos ⟨rfl, rfl⟩
            refine g_aload_n dX7_text_78 rfl ?_
            refine f_X7_91 rfl rfl dX7_text_79 ?_
            refine g_topi (fun x127 ex127 => ?_)
            have rx127 : 0 ≤ x127 ∧ x127 ≤ 6 := by rw [ex127]; exact iv_at hu125 _ _ rfl
            have s128 : u125.1 60 18 = x127 := ex127.symm
            refine g_if_le (tgt := 93) dX7_text_82 (by decide) (fun c129 => ?_) (fun c129 => ?_)
            · refine g_aload_n dX7_text_93 rfl ?_
              have rdx130 : rd u125 := rfu125 (by grind)
              refine cl_X7_66 (c := 60) (As := []) rfl (c_X7_keepDraft (G := G) hs hu125 rdx130    (d + 4)) rfl (by omega) rfl rfl (Nat.le_of_ble_eq_true rfl) dX7_text_94 (fun r131 u132 q133 => ?_)
              obtain ⟨rfl, mq133⟩ := q133
              obtain ⟨hu132, gu132, riu132⟩ := mq133
              have fu132 : fk [60, 61, 63, 64, 65, 66, 67, 68] [22, 28] u u132 := fk_tr fu125 gu132 (by decide) (by decide)
              have T134 : u132.1 60 13 = 0 := (fk_at gu132 (by decide)).trans s126
              have s135 : u132.1 60 16 = x93 := (fk_at gu132 (by decide)).trans (by simp [eu125, uk_up_at, s122] : u125.1 60 16 = x93)
              have s136 : u132.1 60 11 = x113 := (fk_at gu132 (by decide)).trans (by simp [eu125, uk_up_at, s123] : u125.1 60 11 = x113)
              have s137 : u132.1 60 7 = x115 := (fk_at gu132 (by decide)).trans (by simp [eu125, uk_up_at, s124] : u125.1 60 7 = x115)
              have s138 : u132.1 60 13 = 0 := (fk_at gu132 (by decide)).trans s126
              have s139 : u132.1 60 18 = x127 := (fk_at gu132 (by decide)).trans s128
              refine g_iload_n dX7_text_97 rfl ?_
              exact g_iret (ty := .int) dX7_text_98 rfl rfl ⟨⟨_, rfl, by first | trivial | lia | grind⟩, hu132, fu132, riu132, (T134.trans (by grind))⟩
            · refine g_bipush (v := (-10)) dX7_text_85 (by decide) ?_
              refine g_aload_n dX7_text_87 rfl ?_
              refine f_X7_97 rfl rfl dX7_text_88 ?_
              refine g_topi (fun x140 ex140 => ?_)
              have s141 : u125.1 60 19 = x140 := ex140.symm
              refine g_isub dX7_text_91 ?_
              refine g_topi (fun x142 ex142 => ?_)
              exact g_iret (ty := .int) dX7_text_92 rfl rfl ⟨⟨_, rfl, by first | trivial | lia | grind⟩, hu125, fu125, riu125, (s126.trans (by grind))⟩
          · refine g_iconst (v := 1) dX7_text_63 (by decide) ?_
            refine g_goto (tgt := 68) dX7_text_64 (by decide) ?_
            refine g_bipush (v := 6) dX7_text_68 (by decide) ?_
            refine cl_X7_125 (c := 60) (As := [.int 1, .int 6]) rfl (c_X7_needs (G := G) hs hu21  1 6 (by first | trivial | decide | lia | grind) (by first | trivial | decide | lia | grind) (d + 4)) rfl (by omega) rfl rfl (Nat.le_of_ble_eq_true rfl) dX7_text_70 (fun r143 u144 q145 => ?_)
            obtain ⟨rfl, mq145⟩ := q145
            obtain ⟨hu144, gu144, ku1440⟩ := mq145
            have fu144 : fk [60, 61, 63, 64, 65, 66, 67, 68] [22, 28] u u144 := fk_tr fu21 gu144 (by decide) (by decide)
            have riu144 : ri u144 := ri_fk riu21 gu144 (by decide) (by decide) (by decide) (by decide) (by decide)
            have rfu144 : rf u144 := rf_mono rfu21 gu144 (fun q => (ku1440 q).1) (by decide) (by decide) (by decide) (by decide)
            have T146 : u144.1 60 13 = t22 := (fk_at gu144 (by decide)).trans Tt22
            have s147 : u144.1 60 16 = x93 := (fk_at gu144 (by decide)).trans s94
            have s148 : u144.1 60 11 = x113 := (fk_at gu144 (by decide)).trans s114
            have s149 : u144.1 60 7 = x115 := (fk_at gu144 (by decide)).trans s116
            refine g_aload_n dX7_text_73 rfl ?_
            refine g_iconst (v := 0) dX7_text_74 (by decide) ?_
            refine p_X7_88 rfl rfl dX7_text_75 ?_
            refine g_mem (fun u150 eu150 => ?_)
            have hu150 : iv u150 := by rw [eu150]; exact iv_up hu144 rfl (by first | lia | grind) (by first | lia | grind)
            have fu150 : fk [60, 61, 63, 64, 65, 66, 67, 68] [22, 28] u u150 := by rw [eu150]; exact fk_up fu144 (by decide) (fun _ => by decide)
            have riu150 : ri u150 := by rw [eu150]; exact ri_1 riu144 (by decide) (fun _ => by decide)
            have rfu150 : rf u150 := by rw [eu150]; exact rf_1 rfu144 (by decide)
            have s151 : u150.1 60 13 = 0 := by rw [eu150, uk_up_at]; exact if_pos ⟨rfl, rfl⟩
            refine g_aload_n dX7_text_78 rfl ?_
            refine f_X7_91 rfl rfl dX7_text_79 ?_
            refine g_topi (fun x152 ex152 => ?_)
            have rx152 : 0 ≤ x152 ∧ x152 ≤ 6 := by rw [ex152]; exact iv_at hu150 _ _ rfl
            have s153 : u150.1 60 18 = x152 := ex152.symm
            refine g_if_le (tgt := 93) dX7_text_82 (by decide) (fun c154 => ?_) (fun c154 => ?_)
            · refine g_aload_n dX7_text_93 rfl ?_
              have rdx155 : rd u150 := rfu150 (by grind)
              refine cl_X7_66 (c := 60) (As := []) rfl (c_X7_keepDraft (G := G) hs hu150 rdx155    (d + 4)) rfl (by omega) rfl rfl (Nat.le_of_ble_eq_true rfl) dX7_text_94 (fun r156 u157 q158 => ?_)
              obtain ⟨rfl, mq158⟩ := q158
              obtain ⟨hu157, gu157, riu157⟩ := mq158
              have fu157 : fk [60, 61, 63, 64, 65, 66, 67, 68] [22, 28] u u157 := fk_tr fu150 gu157 (by decide) (by decide)
              have T159 : u157.1 60 13 = 0 := (fk_at gu157 (by decide)).trans s151
              have s160 : u157.1 60 16 = x93 := (fk_at gu157 (by decide)).trans (by simp [eu150, uk_up_at, s147] : u150.1 60 16 = x93)
              have s161 : u157.1 60 11 = x113 := (fk_at gu157 (by decide)).trans (by simp [eu150, uk_up_at, s148] : u150.1 60 11 = x113)
              have s162 : u157.1 60 7 = x115 := (fk_at gu157 (by decide)).trans (by simp [eu150, uk_up_at, s149] : u150.1 60 7 = x115)
              have s163 : u157.1 60 13 = 0 := (fk_at gu157 (by decide)).trans s151
              have s164 : u157.1 60 18 = x152 := (fk_at gu157 (by decide)).trans s153
              refine g_iload_n dX7_text_97 rfl ?_
              exact g_iret (ty := .int) dX7_text_98 rfl rfl ⟨⟨_, rfl, by first | trivial | lia | grind⟩, hu157, fu157, riu157, (T159.trans (by grind))⟩
            · refine g_bipush (v := (-10)) dX7_text_85 (by decide) ?_
              refine g_aload_n dX7_text_87 rfl ?_
              refine f_X7_97 rfl rfl dX7_text_88 ?_
              refine g_topi (fun x165 ex165 => ?_)
              have s166 : u150.1 60 19 = x165 := ex165.symm
              refine g_isub dX7_text_91 ?_
              refine g_topi (fun x167 ex167 => ?_)
              exact g_iret (ty := .int) dX7_text_92 rfl rfl ⟨⟨_, rfl, by first | trivial | lia | grind⟩, hu150, fu150, riu150, (s151.trans (by grind))⟩
      · refine g_aload_n dX7_text_34 rfl ?_
        refine cl_X7_150 (c := 60) (As := []) rfl (c_X7_readLine (G := G) hs hu21 rfu21    (d)) rfl (by omega) rfl rfl (Nat.le_of_ble_eq_true rfl) dX7_text_35 (fun r168 u169 q170 => ?_)
        obtain ⟨rfl, mq170⟩ := q170
        obtain ⟨hu169, gu169, rfu169, ku1690, ku1691⟩ := mq170
        have fu169 : fk [60, 61, 63, 64, 65, 66, 67, 68] [22, 28] u u169 := fk_tr fu21 gu169 (by decide) (by decide)
        have riu169 : ri u169 := ri_fk riu21 gu169 (by decide) (by decide) (by decide) (by decide) (by decide)
        have T171 : u169.1 60 13 = t22 := (fk_at gu169 (by decide)).trans Tt22
        refine g_iinc (v := i19 + 1) dX7_text_38 rfl rfl (by decide) ?_
        refine g_goto (tgt := 20) dX7_text_41 (by decide) ?_
        refine g_pick (lv' := [(0, .ref (uk_ad G 60)), (1, .int (i19 + 1))]) [0, 1] rfl ?_
        exact ihi20 (tx_ms u169) (tx_lt ki20 hu21 (by grind) ku1691) (tx_b hu169).2 ((i19 + 1)) u169 hu169 fu169 riu169 rfu169 rfl 
  refine g_pick (lv' := [(0, .ref (uk_ad G 60)), (1, .int 0)]) [0, 1] rfl ?_
  exact L20_17 (tx_ms u15) (tx_b hu15).1 (tx_b hu15).2 0 u15 hu15 fu15 riu15 rfu15 rfl 
