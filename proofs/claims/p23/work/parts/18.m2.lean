abbrev q_X7_readStuff (u : uk_Mem) (k : Int32) (r : Option Value) (u' : uk_Mem) : Prop := (r = none) ∧ (iv u' ∧ fk [60, 66, 67, 68] [3, 10, 11, 13, 22, 28] u u' ∧ rf u' ∧ (u'.1 60 18 = 0 → u.1 60 18 = 0) ∧ (u'.1 60 18 = 0 → u.1 60 14 ≤ u'.1 60 15 ∧ u'.1 60 15 ≤ u'.1 60 14))
set_option maxHeartbeats 4000000 in
set_option maxRecDepth 20000 in
theorem c_X7_readStuff {G : uk_D} (hs : uk_Sep G) {u : uk_Mem} (hu : iv u) (hrf : rf u) (k : Int32) (p0 : u.1 60 7 ≤ 7) (d : Nat) : uk_Meth G (d + 3) mX7_readStuff [.ref (uk_ad G 60), .int k] u (q_X7_readStuff u k) := by
  refine uk_Meth.of hs (by decide) (Nat.le_of_ble_eq_true rfl) (fun X => ?_)
  have f0 : fk [60, 66, 67, 68] [3, 10, 11, 13, 22, 28] u u := fk_rf
  have C66 : u.1 66 = u.1 66 := rfl
  have C67 : u.1 67 = u.1 67 := rfl
  have C68 : u.1 68 = u.1 68 := rfl
  obtain ⟨t1, Tt1⟩ : ∃ t, u.1 60 7 = t := ⟨_, rfl⟩
  obtain ⟨t2, Tt2⟩ : ∃ t, u.1 60 14 = t := ⟨_, rfl⟩
  obtain ⟨t3, Tt3⟩ : ∃ t, u.1 60 15 = t := ⟨_, rfl⟩
  obtain ⟨t4, Tt4⟩ : ∃ t, u.1 60 18 = t := ⟨_, rfl⟩
  refine g_aload_n dX7_readStuff_0 rfl ?_
  refine f_X7_69 rfl rfl dX7_readStuff_1 ?_
  refine g_topi (fun x5 ex5 => ?_)
  have rx5 : 0 ≤ x5 ∧ x5 ≤ 8 := by rw [ex5]; exact iv_at hu _ _ rfl
  have qx5 : x5 = t1 := ex5.trans Tt1
  refine g_istore_n dX7_readStuff_4 (by decide) ?_
  refine g_aload_n dX7_readStuff_5 rfl ?_
  refine f_X7_26 rfl rfl dX7_readStuff_6 ?_
  refine g_bipush (v := 32) dX7_readStuff_9 (by decide) ?_
  refine g_iload_n dX7_readStuff_11 rfl ?_
  refine g_iadd dX7_readStuff_12 ?_
  refine g_topi (fun x6 ex6 => ?_)
  refine g_iload_n dX7_readStuff_13 rfl ?_
  have v7 : vp_in x6 51 := uk_vin 51 rfl (by first | decide | lia | grind) (by first | decide | lia | grind)
  have b8 := uk_cl v7
  refine g_iast rfl rfl v7 dX7_readStuff_14 ?_
  refine g_mem (fun u9 eu9 => ?_)
  have hu9 : iv u9 := by rw [eu9]; exact iv_st hu (by unfold uk_is51; decide) (by first | decide | lia | grind) (by first | decide | lia | grind) (fun q => by first | decide | lia | grind) (fun q => by first | decide | lia | grind) (fun q => by first | decide | lia | grind)
  have fu9 : fk [60, 66, 67, 68] [3, 10, 11, 13, 22, 28] u u9 := by rw [eu9]; exact fk_up f0 (by decide) (fun q => absurd q (by decide))
  have T10 : u9.1 60 7 = t1 := by rw [eu9]; exact (congrFun (uk_up_oc (by decide)) _).trans Tt1
  have T11 : u9.1 60 14 = t2 := by rw [eu9]; exact (congrFun (uk_up_oc (by decide)) _).trans Tt2
  have T12 : u9.1 60 15 = t3 := by rw [eu9]; exact (congrFun (uk_up_oc (by decide)) _).trans Tt3
  have T13 : u9.1 60 18 = t4 := by rw [eu9]; exact (congrFun (uk_up_oc (by decide)) _).trans Tt4
  have C14 : u9.1 66 = (upd (u.1 66) (x6).toNatClampNeg k) := by rw [eu9, uk_up_self, C66]
  have C15 : u9.1 67 = u.1 67 := by rw [eu9]; exact (uk_up_oc (by decide)).trans C67
  have C16 : u9.1 68 = u.1 68 := by rw [eu9]; exact (uk_up_oc (by decide)).trans C68
  refine g_iload_n dX7_readStuff_15 rfl ?_
  refine g_iconst (v := 4) dX7_readStuff_16 (by decide) ?_
  refine g_icmp_ne (tgt := 55) dX7_readStuff_17 (by decide) (fun c17 => ?_) (fun c17 => ?_)
  · refine g_aload_n dX7_readStuff_55 rfl ?_
    refine f_X7_29 rfl rfl dX7_readStuff_56 ?_
    refine g_iload_n dX7_readStuff_59 rfl ?_
    refine g_aload_n dX7_readStuff_60 rfl ?_
    refine g_iconst (v := 0) dX7_readStuff_61 (by decide) ?_
    refine g_iload_n dX7_readStuff_62 rfl ?_
    refine g_iconst (v := 1) dX7_readStuff_63 (by decide) ?_
    refine g_isub dX7_readStuff_64 ?_
    refine g_topi (fun x18 ex18 => ?_)
    refine cl_X7_136 (c := 60) (As := [.int 0, .int x18]) rfl (c_X7_readNumber (G := G) hs hu9  0 x18  (d)) rfl (by omega) rfl rfl (Nat.le_of_ble_eq_true rfl) dX7_readStuff_65 (fun r19 u20 q21 => ?_)
    obtain ⟨⟨x22, rfl, tx22⟩, mq21⟩ := q21
    obtain ⟨hu20, gu20, ku200, ku201⟩ := mq21
    have fu20 : fk [60, 66, 67, 68] [3, 10, 11, 13, 22, 28] u u20 := fk_tr fu9 gu20 (by decide) (by decide)
    have T23 : u20.1 60 7 = t1 := (fk_at gu20 (by decide)).trans T10
    obtain ⟨t24, Tt24⟩ : ∃ t, u20.1 60 14 = t := ⟨_, rfl⟩
    have Rt24 : 0 ≤ t24 ∧ t24 ≤ 160 := by rw [← Tt24]; exact iv_at hu20 _ _ rfl
    obtain ⟨t25, Tt25⟩ : ∃ t, u20.1 60 15 = t := ⟨_, rfl⟩
    have Rt25 : 0 ≤ t25 ∧ t25 ≤ 160 := by rw [← Tt25]; exact iv_at hu20 _ _ rfl
    obtain ⟨t26, Tt26⟩ : ∃ t, u20.1 60 18 = t := ⟨_, rfl⟩
    have Rt26 : 0 ≤ t26 ∧ t26 ≤ 6 := by rw [← Tt26]; exact iv_at hu20 _ _ rfl
    have C27 : u20.1 66 = (upd (u.1 66) (x6).toNatClampNeg k) := (fk_c gu20 (by decide)).trans C14
    have C28 : u20.1 67 = u.1 67 := (fk_c gu20 (by decide)).trans C15
    have C29 : u20.1 68 = u.1 68 := (fk_c gu20 (by decide)).trans C16
    have v30 : vp_in x5 8 := uk_vin 8 rfl (by first | decide | lia | grind) (by first | decide | lia | grind)
    have b31 := uk_cl v30
    refine g_iast rfl rfl v30 dX7_readStuff_68 ?_
    refine g_mem (fun u32 eu32 => ?_)
    have hu32 : iv u32 := by rw [eu32]; exact iv_up hu20 (uk_pick1 _ (by omega)) (by first | lia | grind) (by first | lia | grind)
    have fu32 : fk [60, 66, 67, 68] [3, 10, 11, 13, 22, 28] u u32 := by rw [eu32]; exact fk_up fu20 (by decide) (fun q => absurd q (by decide))
    have T33 : u32.1 60 7 = t1 := by rw [eu32]; exact (congrFun (uk_up_oc (by decide)) _).trans T23
    have T34 : u32.1 60 14 = t24 := by rw [eu32]; exact (congrFun (uk_up_oc (by decide)) _).trans Tt24
    have T35 : u32.1 60 15 = t25 := by rw [eu32]; exact (congrFun (uk_up_oc (by decide)) _).trans Tt25
    have T36 : u32.1 60 18 = t26 := by rw [eu32]; exact (congrFun (uk_up_oc (by decide)) _).trans Tt26
    have C37 : u32.1 66 = (upd (u.1 66) (x6).toNatClampNeg k) := by rw [eu32]; exact (uk_up_oc (by decide)).trans C27
    have C38 : u32.1 67 = (upd (u.1 67) (x5).toNatClampNeg x22) := by rw [eu32, uk_up_self, C28]
    have C39 : u32.1 68 = u.1 68 := by rw [eu32]; exact (uk_up_oc (by decide)).trans C29
    refine g_aload_n dX7_readStuff_69 rfl ?_
    refine f_X7_32 rfl rfl dX7_readStuff_70 ?_
    refine g_iload_n dX7_readStuff_73 rfl ?_
    refine g_aload_n dX7_readStuff_74 rfl ?_
    refine g_iconst (v := 0) dX7_readStuff_75 (by decide) ?_
    refine g_iload_n dX7_readStuff_76 rfl ?_
    refine g_iconst (v := 1) dX7_readStuff_77 (by decide) ?_
    refine g_isub dX7_readStuff_78 ?_
    refine g_topi (fun x40 ex40 => ?_)
    refine cl_X7_136 (c := 60) (As := [.int 0, .int x40]) rfl (c_X7_readNumber (G := G) hs hu32  0 x40  (d)) rfl (by omega) rfl rfl (Nat.le_of_ble_eq_true rfl) dX7_readStuff_79 (fun r41 u42 q43 => ?_)
    obtain ⟨⟨x44, rfl, tx44⟩, mq43⟩ := q43
    obtain ⟨hu42, gu42, ku420, ku421⟩ := mq43
    have fu42 : fk [60, 66, 67, 68] [3, 10, 11, 13, 22, 28] u u42 := fk_tr fu32 gu42 (by decide) (by decide)
    have T45 : u42.1 60 7 = t1 := (fk_at gu42 (by decide)).trans T33
    obtain ⟨t46, Tt46⟩ : ∃ t, u42.1 60 14 = t := ⟨_, rfl⟩
    have Rt46 : 0 ≤ t46 ∧ t46 ≤ 160 := by rw [← Tt46]; exact iv_at hu42 _ _ rfl
    obtain ⟨t47, Tt47⟩ : ∃ t, u42.1 60 15 = t := ⟨_, rfl⟩
    have Rt47 : 0 ≤ t47 ∧ t47 ≤ 160 := by rw [← Tt47]; exact iv_at hu42 _ _ rfl
    obtain ⟨t48, Tt48⟩ : ∃ t, u42.1 60 18 = t := ⟨_, rfl⟩
    have Rt48 : 0 ≤ t48 ∧ t48 ≤ 6 := by rw [← Tt48]; exact iv_at hu42 _ _ rfl
    have C49 : u42.1 66 = (upd (u.1 66) (x6).toNatClampNeg k) := (fk_c gu42 (by decide)).trans C37
    have C50 : u42.1 67 = (upd (u.1 67) (x5).toNatClampNeg x22) := (fk_c gu42 (by decide)).trans C38
    have C51 : u42.1 68 = u.1 68 := (fk_c gu42 (by decide)).trans C39
    have v52 : vp_in x5 8 := uk_vin 8 rfl (by first | decide | lia | grind) (by first | decide | lia | grind)
    have b53 := uk_cl v52
    refine g_iast rfl rfl v52 dX7_readStuff_82 ?_
    refine g_mem (fun u54 eu54 => ?_)
    have hu54 : iv u54 := by rw [eu54]; exact iv_up hu42 (uk_pick1 _ (by omega)) (by first | lia | grind) (by first | lia | grind)
    have fu54 : fk [60, 66, 67, 68] [3, 10, 11, 13, 22, 28] u u54 := by rw [eu54]; exact fk_up fu42 (by decide) (fun q => absurd q (by decide))
    have T55 : u54.1 60 7 = t1 := by rw [eu54]; exact (congrFun (uk_up_oc (by decide)) _).trans T45
    have T56 : u54.1 60 14 = t46 := by rw [eu54]; exact (congrFun (uk_up_oc (by decide)) _).trans Tt46
    have T57 : u54.1 60 15 = t47 := by rw [eu54]; exact (congrFun (uk_up_oc (by decide)) _).trans Tt47
    have T58 : u54.1 60 18 = t48 := by rw [eu54]; exact (congrFun (uk_up_oc (by decide)) _).trans Tt48
    have C59 : u54.1 66 = (upd (u.1 66) (x6).toNatClampNeg k) := by rw [eu54]; exact (uk_up_oc (by decide)).trans C49
    have C60 : u54.1 67 = (upd (u.1 67) (x5).toNatClampNeg x22) := by rw [eu54]; exact (uk_up_oc (by decide)).trans C50
    have C61 : u54.1 68 = (upd (u.1 68) (x5).toNatClampNeg x44) := by rw [eu54, uk_up_self, C51]
    refine g_aload_n dX7_readStuff_83 rfl ?_
    refine f_X7_26 rfl rfl dX7_readStuff_84 ?_
    refine g_bipush (v := 16) dX7_readStuff_87 (by decide) ?_
    refine g_iload_n dX7_readStuff_89 rfl ?_
    refine g_iadd dX7_readStuff_90 ?_
    refine g_topi (fun x62 ex62 => ?_)
    refine g_aload_n dX7_readStuff_91 rfl ?_
    refine g_iconst (v := 0) dX7_readStuff_92 (by decide) ?_
    refine g_bipush (v := 9) dX7_readStuff_93 (by decide) ?_
    refine cl_X7_136 (c := 60) (As := [.int 0, .int 9]) rfl (c_X7_readNumber (G := G) hs hu54  0 9  (d)) rfl (by omega) rfl rfl (Nat.le_of_ble_eq_true rfl) dX7_readStuff_95 (fun r63 u64 q65 => ?_)
    obtain ⟨⟨x66, rfl, tx66⟩, mq65⟩ := q65
    obtain ⟨hu64, gu64, ku640, ku641⟩ := mq65
    have fu64 : fk [60, 66, 67, 68] [3, 10, 11, 13, 22, 28] u u64 := fk_tr fu54 gu64 (by decide) (by decide)
    have T67 : u64.1 60 7 = t1 := (fk_at gu64 (by decide)).trans T55
    obtain ⟨t68, Tt68⟩ : ∃ t, u64.1 60 14 = t := ⟨_, rfl⟩
    have Rt68 : 0 ≤ t68 ∧ t68 ≤ 160 := by rw [← Tt68]; exact iv_at hu64 _ _ rfl
    obtain ⟨t69, Tt69⟩ : ∃ t, u64.1 60 15 = t := ⟨_, rfl⟩
    have Rt69 : 0 ≤ t69 ∧ t69 ≤ 160 := by rw [← Tt69]; exact iv_at hu64 _ _ rfl
    obtain ⟨t70, Tt70⟩ : ∃ t, u64.1 60 18 = t := ⟨_, rfl⟩
    have Rt70 : 0 ≤ t70 ∧ t70 ≤ 6 := by rw [← Tt70]; exact iv_at hu64 _ _ rfl
    have C71 : u64.1 66 = (upd (u.1 66) (x6).toNatClampNeg k) := (fk_c gu64 (by decide)).trans C59
    have C72 : u64.1 67 = (upd (u.1 67) (x5).toNatClampNeg x22) := (fk_c gu64 (by decide)).trans C60
    have C73 : u64.1 68 = (upd (u.1 68) (x5).toNatClampNeg x44) := (fk_c gu64 (by decide)).trans C61
    have v74 : vp_in x62 51 := uk_vin 51 rfl (by first | decide | lia | grind) (by first | decide | lia | grind)
    have b75 := uk_cl v74
    refine g_iast rfl rfl v74 dX7_readStuff_98 ?_
    refine g_mem (fun u76 eu76 => ?_)
    have hu76 : iv u76 := by rw [eu76]; exact iv_st hu64 (by unfold uk_is51; decide) (by first | decide | lia | grind) (by first | decide | lia | grind) (fun q => by first | decide | lia | grind) (fun q => by first | decide | lia | grind) (fun q => by first | decide | lia | grind)
    have fu76 : fk [60, 66, 67, 68] [3, 10, 11, 13, 22, 28] u u76 := by rw [eu76]; exact fk_up fu64 (by decide) (fun q => absurd q (by decide))
    have T77 : u76.1 60 7 = t1 := by rw [eu76]; exact (congrFun (uk_up_oc (by decide)) _).trans T67
    have T78 : u76.1 60 14 = t68 := by rw [eu76]; exact (congrFun (uk_up_oc (by decide)) _).trans Tt68
    have T79 : u76.1 60 15 = t69 := by rw [eu76]; exact (congrFun (uk_up_oc (by decide)) _).trans Tt69
    have T80 : u76.1 60 18 = t70 := by rw [eu76]; exact (congrFun (uk_up_oc (by decide)) _).trans Tt70
    have C81 : u76.1 66 = (upd ((upd (u.1 66) (x6).toNatClampNeg k)) (x62).toNatClampNeg x66) := by rw [eu76, uk_up_self, C71]
    have C82 : u76.1 67 = (upd (u.1 67) (x5).toNatClampNeg x22) := by rw [eu76]; exact (uk_up_oc (by decide)).trans C72
    have C83 : u76.1 68 = (upd (u.1 68) (x5).toNatClampNeg x44) := by rw [eu76]; exact (uk_up_oc (by decide)).trans C73
    refine g_aload_n dX7_readStuff_99 rfl ?_
    refine g_dup dX7_readStuff_100 rfl ?_
    refine f_X7_69 rfl rfl dX7_readStuff_101 ?_
    refine g_topi (fun x84 ex84 => ?_)
    have rx84 : 0 ≤ x84 ∧ x84 ≤ 8 := by rw [ex84]; exact iv_at hu76 _ _ rfl
    have qx84 : x84 = t1 := ex84.trans T77
    refine g_iconst (v := 1) dX7_readStuff_104 (by decide) ?_
    refine g_iadd dX7_readStuff_105 ?_
    refine g_topi (fun x85 ex85 => ?_)
    refine p_X7_69 rfl rfl dX7_readStuff_106 ?_
    refine g_mem (fun u86 eu86 => ?_)
    have hu86 : iv u86 := by rw [eu86]; exact iv_up hu76 rfl (by first | lia | grind) (by first | lia | grind)
    have fu86 : fk [60, 66, 67, 68] [3, 10, 11, 13, 22, 28] u u86 := by rw [eu86]; exact fk_up fu76 (by decide) (fun _ => by decide)
    have C87 : u86.1 66 = (upd ((upd (u.1 66) (x6).toNatClampNeg k)) (x62).toNatClampNeg x66) := by rw [eu86]; exact (uk_up_oc (by decide)).trans C81
    have C88 : u86.1 67 = (upd (u.1 67) (x5).toNatClampNeg x22) := by rw [eu86]; exact (uk_up_oc (by decide)).trans C82
    have C89 : u86.1 68 = (upd (u.1 68) (x5).toNatClampNeg x44) := by rw [eu86]; exact (uk_up_oc (by decide)).trans C83
    have s90 : u86.1 60 7 = x85 := by rw [eu86, uk_up_at]; exact if_pos ⟨rfl, rfl⟩
    have T91 : u86.1 60 14 = t68 := by rw [eu86, uk_up_at, if_neg (by decide)]; exact T78
    have T92 : u86.1 60 15 = t69 := by rw [eu86, uk_up_at, if_neg (by decide)]; exact T79
    have T93 : u86.1 60 18 = t70 := by rw [eu86, uk_up_at, if_neg (by decide)]; exact T80
    exact g_vret dX7_readStuff_109 rfl ⟨rfl, hu86, fu86, (fun hf => by
    rw [T93] at hf
    have hrd := hrf (by grind)
    unfold rd at hrd ⊢
    rw [show u.1 60 7 = x5 by grind] at hrd
    rw [s90, C88, C89, show x85 = x5 + 1 by grind]
    exact rd_st (by grind) (by grind) hrd (fun i h1 h2 h3 => by rw [C87, upd_ne, upd_ne]; all_goals grind) (by rw [C87, upd_ne, upd_at]; all_goals grind) rfl rfl (by grind)), (by first | rfl | (rw [T93]; grind) | rw [T93]), (by first | rfl | (rw [T93, T92, T91]; grind) | rw [T93, T92, T91])⟩
  · refine g_aload_n dX7_readStuff_20 rfl ?_
    refine f_X7_26 rfl rfl dX7_readStuff_21 ?_
    refine g_bipush (v := 24) dX7_readStuff_24 (by decide) ?_
    refine g_iload_n dX7_readStuff_26 rfl ?_
    refine g_iadd dX7_readStuff_27 ?_
    refine g_topi (fun x94 ex94 => ?_)
    refine g_aload_n dX7_readStuff_28 rfl ?_
    refine g_iconst (v := 0) dX7_readStuff_29 (by decide) ?_
    refine g_bipush (v := 9) dX7_readStuff_30 (by decide) ?_
    refine cl_X7_136 (c := 60) (As := [.int 0, .int 9]) rfl (c_X7_readNumber (G := G) hs hu9  0 9  (d)) rfl (by omega) rfl rfl (Nat.le_of_ble_eq_true rfl) dX7_readStuff_32 (fun r95 u96 q97 => ?_)
    obtain ⟨⟨x98, rfl, tx98⟩, mq97⟩ := q97
    obtain ⟨hu96, gu96, ku960, ku961⟩ := mq97
    have fu96 : fk [60, 66, 67, 68] [3, 10, 11, 13, 22, 28] u u96 := fk_tr fu9 gu96 (by decide) (by decide)
    have T99 : u96.1 60 7 = t1 := (fk_at gu96 (by decide)).trans T10
    obtain ⟨t100, Tt100⟩ : ∃ t, u96.1 60 14 = t := ⟨_, rfl⟩
    have Rt100 : 0 ≤ t100 ∧ t100 ≤ 160 := by rw [← Tt100]; exact iv_at hu96 _ _ rfl
    obtain ⟨t101, Tt101⟩ : ∃ t, u96.1 60 15 = t := ⟨_, rfl⟩
    have Rt101 : 0 ≤ t101 ∧ t101 ≤ 160 := by rw [← Tt101]; exact iv_at hu96 _ _ rfl
    obtain ⟨t102, Tt102⟩ : ∃ t, u96.1 60 18 = t := ⟨_, rfl⟩
    have Rt102 : 0 ≤ t102 ∧ t102 ≤ 6 := by rw [← Tt102]; exact iv_at hu96 _ _ rfl
    have C103 : u96.1 66 = (upd (u.1 66) (x6).toNatClampNeg k) := (fk_c gu96 (by decide)).trans C14
    have C104 : u96.1 67 = u.1 67 := (fk_c gu96 (by decide)).trans C15
    have C105 : u96.1 68 = u.1 68 := (fk_c gu96 (by decide)).trans C16
    have v106 : vp_in x94 51 := uk_vin 51 rfl (by first | decide | lia | grind) (by first | decide | lia | grind)
    have b107 := uk_cl v106
    refine g_iast rfl rfl v106 dX7_readStuff_35 ?_
    refine g_mem (fun u108 eu108 => ?_)
    have hu108 : iv u108 := by rw [eu108]; exact iv_st hu96 (by unfold uk_is51; decide) (by first | decide | lia | grind) (by first | decide | lia | grind) (fun q => by first | decide | lia | grind) (fun q => by first | decide | lia | grind) (fun q => by first | decide | lia | grind)
    have fu108 : fk [60, 66, 67, 68] [3, 10, 11, 13, 22, 28] u u108 := by rw [eu108]; exact fk_up fu96 (by decide) (fun q => absurd q (by decide))
    have T109 : u108.1 60 7 = t1 := by rw [eu108]; exact (congrFun (uk_up_oc (by decide)) _).trans T99
    have T110 : u108.1 60 14 = t100 := by rw [eu108]; exact (congrFun (uk_up_oc (by decide)) _).trans Tt100
    have T111 : u108.1 60 15 = t101 := by rw [eu108]; exact (congrFun (uk_up_oc (by decide)) _).trans Tt101
    have T112 : u108.1 60 18 = t102 := by rw [eu108]; exact (congrFun (uk_up_oc (by decide)) _).trans Tt102
    have C113 : u108.1 66 = (upd ((upd (u.1 66) (x6).toNatClampNeg k)) (x94).toNatClampNeg x98) := by rw [eu108, uk_up_self, C103]
    have C114 : u108.1 67 = u.1 67 := by rw [eu108]; exact (uk_up_oc (by decide)).trans C104
    have C115 : u108.1 68 = u.1 68 := by rw [eu108]; exact (uk_up_oc (by decide)).trans C105
    refine g_aload_n dX7_readStuff_36 rfl ?_
    refine f_X7_29 rfl rfl dX7_readStuff_37 ?_
    refine g_iload_n dX7_readStuff_40 rfl ?_
    refine g_bipush (v := (-4)) dX7_readStuff_41 (by decide) ?_
    have v116 : vp_in x5 8 := uk_vin 8 rfl (by first | decide | lia | grind) (by first | decide | lia | grind)
    have b117 := uk_cl v116
    refine g_iast rfl rfl v116 dX7_readStuff_43 ?_
    refine g_mem (fun u118 eu118 => ?_)
    have hu118 : iv u118 := by rw [eu118]; exact iv_up hu108 (uk_pick1 _ (by omega)) (by first | lia | grind) (by first | lia | grind)
    have fu118 : fk [60, 66, 67, 68] [3, 10, 11, 13, 22, 28] u u118 := by rw [eu118]; exact fk_up fu108 (by decide) (fun q => absurd q (by decide))
    have T119 : u118.1 60 7 = t1 := by rw [eu118]; exact (congrFun (uk_up_oc (by decide)) _).trans T109
    have T120 : u118.1 60 14 = t100 := by rw [eu118]; exact (congrFun (uk_up_oc (by decide)) _).trans T110
    have T121 : u118.1 60 15 = t101 := by rw [eu118]; exact (congrFun (uk_up_oc (by decide)) _).trans T111
    have T122 : u118.1 60 18 = t102 := by rw [eu118]; exact (congrFun (uk_up_oc (by decide)) _).trans T112
    have C123 : u118.1 66 = (upd ((upd (u.1 66) (x6).toNatClampNeg k)) (x94).toNatClampNeg x98) := by rw [eu118]; exact (uk_up_oc (by decide)).trans C113
    have C124 : u118.1 67 = (upd (u.1 67) (x5).toNatClampNeg (-4)) := by rw [eu118, uk_up_self, C114]
    have C125 : u118.1 68 = u.1 68 := by rw [eu118]; exact (uk_up_oc (by decide)).trans C115
    refine g_aload_n dX7_readStuff_44 rfl ?_
    refine f_X7_32 rfl rfl dX7_readStuff_45 ?_
    refine g_iload_n dX7_readStuff_48 rfl ?_
    refine g_bipush (v := (-4)) dX7_readStuff_49 (by decide) ?_
    have v126 : vp_in x5 8 := uk_vin 8 rfl (by first | decide | lia | grind) (by first | decide | lia | grind)
    have b127 := uk_cl v126
    refine g_iast rfl rfl v126 dX7_readStuff_51 ?_
    refine g_mem (fun u128 eu128 => ?_)
    have hu128 : iv u128 := by rw [eu128]; exact iv_up hu118 (uk_pick1 _ (by omega)) (by first | lia | grind) (by first | lia | grind)
    have fu128 : fk [60, 66, 67, 68] [3, 10, 11, 13, 22, 28] u u128 := by rw [eu128]; exact fk_up fu118 (by decide) (fun q => absurd q (by decide))
    have T129 : u128.1 60 7 = t1 := by rw [eu128]; exact (congrFun (uk_up_oc (by decide)) _).trans T119
    have T130 : u128.1 60 14 = t100 := by rw [eu128]; exact (congrFun (uk_up_oc (by decide)) _).trans T120
    have T131 : u128.1 60 15 = t101 := by rw [eu128]; exact (congrFun (uk_up_oc (by decide)) _).trans T121
    have T132 : u128.1 60 18 = t102 := by rw [eu128]; exact (congrFun (uk_up_oc (by decide)) _).trans T122
    have C133 : u128.1 66 = (upd ((upd (u.1 66) (x6).toNatClampNeg k)) (x94).toNatClampNeg x98) := by rw [eu128]; exact (uk_up_oc (by decide)).trans C123
    have C134 : u128.1 67 = (upd (u.1 67) (x5).toNatClampNeg (-4)) := by rw [eu128]; exact (uk_up_oc (by decide)).trans C124
    have C135 : u128.1 68 = (upd (u.1 68) (x5).toNatClampNeg (-4)) := by rw [eu128, uk_up_self, C125]
    refine g_goto (tgt := 83) dX7_readStuff_52 (by decide) ?_
    refine g_aload_n dX7_readStuff_83 rfl ?_
    refine f_X7_26 rfl rfl dX7_readStuff_84 ?_
    refine g_bipush (v := 16) dX7_readStuff_87 (by decide) ?_
    refine g_iload_n dX7_readStuff_89 rfl ?_
    refine g_iadd dX7_readStuff_90 ?_
    refine g_topi (fun x136 ex136 => ?_)
    refine g_aload_n dX7_readStuff_91 rfl ?_
    refine g_iconst (v := 0) dX7_readStuff_92 (by decide) ?_
    refine g_bipush (v := 9) dX7_readStuff_93 (by decide) ?_
    refine cl_X7_136 (c := 60) (As := [.int 0, .int 9]) rfl (c_X7_readNumber (G := G) hs hu128  0 9  (d)) rfl (by omega) rfl rfl (Nat.le_of_ble_eq_true rfl) dX7_readStuff_95 (fun r137 u138 q139 => ?_)
    obtain ⟨⟨x140, rfl, tx140⟩, mq139⟩ := q139
    obtain ⟨hu138, gu138, ku1380, ku1381⟩ := mq139
    have fu138 : fk [60, 66, 67, 68] [3, 10, 11, 13, 22, 28] u u138 := fk_tr fu128 gu138 (by decide) (by decide)
    have T141 : u138.1 60 7 = t1 := (fk_at gu138 (by decide)).trans T129
    obtain ⟨t142, Tt142⟩ : ∃ t, u138.1 60 14 = t := ⟨_, rfl⟩
    have Rt142 : 0 ≤ t142 ∧ t142 ≤ 160 := by rw [← Tt142]; exact iv_at hu138 _ _ rfl
    obtain ⟨t143, Tt143⟩ : ∃ t, u138.1 60 15 = t := ⟨_, rfl⟩
    have Rt143 : 0 ≤ t143 ∧ t143 ≤ 160 := by rw [← Tt143]; exact iv_at hu138 _ _ rfl
    obtain ⟨t144, Tt144⟩ : ∃ t, u138.1 60 18 = t := ⟨_, rfl⟩
    have Rt144 : 0 ≤ t144 ∧ t144 ≤ 6 := by rw [← Tt144]; exact iv_at hu138 _ _ rfl
    have C145 : u138.1 66 = (upd ((upd (u.1 66) (x6).toNatClampNeg k)) (x94).toNatClampNeg x98) := (fk_c gu138 (by decide)).trans C133
    have C146 : u138.1 67 = (upd (u.1 67) (x5).toNatClampNeg (-4)) := (fk_c gu138 (by decide)).trans C134
    have C147 : u138.1 68 = (upd (u.1 68) (x5).toNatClampNeg (-4)) := (fk_c gu138 (by decide)).trans C135
    have v148 : vp_in x136 51 := uk_vin 51 rfl (by first | decide | lia | grind) (by first | decide | lia | grind)
    have b149 := uk_cl v148
    refine g_iast rfl rfl v148 dX7_readStuff_98 ?_
    refine g_mem (fun u150 eu150 => ?_)
    have hu150 : iv u150 := by rw [eu150]; exact iv_st hu138 (by unfold uk_is51; decide) (by first | decide | lia | grind) (by first | decide | lia | grind) (fun q => by first | decide | lia | grind) (fun q => by first | decide | lia | grind) (fun q => by first | decide | lia | grind)
    have fu150 : fk [60, 66, 67, 68] [3, 10, 11, 13, 22, 28] u u150 := by rw [eu150]; exact fk_up fu138 (by decide) (fun q => absurd q (by decide))
    have T151 : u150.1 60 7 = t1 := by rw [eu150]; exact (congrFun (uk_up_oc (by decide)) _).trans T141
    have T152 : u150.1 60 14 = t142 := by rw [eu150]; exact (congrFun (uk_up_oc (by decide)) _).trans Tt142
    have T153 : u150.1 60 15 = t143 := by rw [eu150]; exact (congrFun (uk_up_oc (by decide)) _).trans Tt143
    have T154 : u150.1 60 18 = t144 := by rw [eu150]; exact (congrFun (uk_up_oc (by decide)) _).trans Tt144
    have C155 : u150.1 66 = (upd ((upd ((upd (u.1 66) (x6).toNatClampNeg k)) (x94).toNatClampNeg x98)) (x136).toNatClampNeg x140) := by rw [eu150, uk_up_self, C145]
    have C156 : u150.1 67 = (upd (u.1 67) (x5).toNatClampNeg (-4)) := by rw [eu150]; exact (uk_up_oc (by decide)).trans C146
    have C157 : u150.1 68 = (upd (u.1 68) (x5).toNatClampNeg (-4)) := by rw [eu150]; exact (uk_up_oc (by decide)).trans C147
    refine g_aload_n dX7_readStuff_99 rfl ?_
    refine g_dup dX7_readStuff_100 rfl ?_
    refine f_X7_69 rfl rfl dX7_readStuff_101 ?_
    refine g_topi (fun x158 ex158 => ?_)
    have rx158 : 0 ≤ x158 ∧ x158 ≤ 8 := by rw [ex158]; exact iv_at hu150 _ _ rfl
    have qx158 : x158 = t1 := ex158.trans T151
    refine g_iconst (v := 1) dX7_readStuff_104 (by decide) ?_
    refine g_iadd dX7_readStuff_105 ?_
    refine g_topi (fun x159 ex159 => ?_)
    refine p_X7_69 rfl rfl dX7_readStuff_106 ?_
    refine g_mem (fun u160 eu160 => ?_)
    have hu160 : iv u160 := by rw [eu160]; exact iv_up hu150 rfl (by first | lia | grind) (by first | lia | grind)
    have fu160 : fk [60, 66, 67, 68] [3, 10, 11, 13, 22, 28] u u160 := by rw [eu160]; exact fk_up fu150 (by decide) (fun _ => by decide)
    have C161 : u160.1 66 = (upd ((upd ((upd (u.1 66) (x6).toNatClampNeg k)) (x94).toNatClampNeg x98)) (x136).toNatClampNeg x140) := by rw [eu160]; exact (uk_up_oc (by decide)).trans C155
    have C162 : u160.1 67 = (upd (u.1 67) (x5).toNatClampNeg (-4)) := by rw [eu160]; exact (uk_up_oc (by decide)).trans C156
    have C163 : u160.1 68 = (upd (u.1 68) (x5).toNatClampNeg (-4)) := by rw [eu160]; exact (uk_up_oc (by decide)).trans C157
    have s164 : u160.1 60 7 = x159 := by rw [eu160, uk_up_at]; exact if_pos ⟨rfl, rfl⟩
    have T165 : u160.1 60 14 = t142 := by rw [eu160, uk_up_at, if_neg (by decide)]; exact T152
    have T166 : u160.1 60 15 = t143 := by rw [eu160, uk_up_at, if_neg (by decide)]; exact T153
    have T167 : u160.1 60 18 = t144 := by rw [eu160, uk_up_at, if_neg (by decide)]; exact T154
    exact g_vret dX7_readStuff_109 rfl ⟨rfl, hu160, fu160, (fun hf => by
    rw [T167] at hf
    have hrd := hrf (by grind)
    unfold rd at hrd ⊢
    rw [show u.1 60 7 = x5 by grind] at hrd
    rw [s164, C162, C163, show x159 = x5 + 1 by grind]
    exact rd_st (by grind) (by grind) hrd (fun i h1 h2 h3 => by rw [C161, upd_ne, upd_ne, upd_ne]; all_goals grind) (by rw [C161, upd_ne, upd_ne, upd_at]; all_goals grind) rfl rfl (by grind)), (by first | rfl | (rw [T167]; grind) | rw [T167]), (by first | rfl | (rw [T167, T166, T165]; grind) | rw [T167, T166, T165])⟩
abbrev q_X7_readHave (u : uk_Mem)  (r : Option Value) (u' : uk_Mem) : Prop := (r = none) ∧ (iv u' ∧ fk [60, 66] [3, 7, 13, 22, 28] u u' ∧ rf u' ∧ (u'.1 60 18 = 0 → u.1 60 18 = 0) ∧ (u'.1 60 18 = 0 → u.1 60 14 ≤ u'.1 60 15 ∧ u'.1 60 15 ≤ u'.1 60 14))
set_option maxHeartbeats 4000000 in
set_option maxRecDepth 20000 in
theorem c_X7_readHave {G : uk_D} (hs : uk_Sep G) {u : uk_Mem} (hu : iv u) (hrf : rf u)  (d : Nat) : uk_Meth G (d + 3) mX7_readHave [.ref (uk_ad G 60)] u (q_X7_readHave u) := by
  refine uk_Meth.of hs (by decide) (Nat.le_of_ble_eq_true rfl) (fun X => ?_)
  have f0 : fk [60, 66] [3, 7, 13, 22, 28] u u := fk_rf
  have C66 : u.1 66 = u.1 66 := rfl
  have C67 : u.1 67 = u.1 67 := rfl
  have C68 : u.1 68 = u.1 68 := rfl
  obtain ⟨t1, Tt1⟩ : ∃ t, u.1 60 7 = t := ⟨_, rfl⟩
  obtain ⟨t2, Tt2⟩ : ∃ t, u.1 60 14 = t := ⟨_, rfl⟩
  obtain ⟨t3, Tt3⟩ : ∃ t, u.1 60 15 = t := ⟨_, rfl⟩
  obtain ⟨t4, Tt4⟩ : ∃ t, u.1 60 18 = t := ⟨_, rfl⟩
  refine g_aload_n dX7_readHave_0 rfl ?_
  refine g_iconst (v := 0) dX7_readHave_1 (by decide) ?_
  refine g_bipush (v := 7) dX7_readHave_2 (by decide) ?_
  refine cl_X7_129 (c := 60) (As := [.int 0, .int 7]) rfl (c_X7_looked (G := G) hs hu  0 7  (d + 1)) rfl (by omega) rfl rfl (Nat.le_of_ble_eq_true rfl) dX7_readHave_4 (fun r5 u6 q7 => ?_)
  obtain ⟨⟨x8, rfl, tx8⟩, mq7⟩ := q7
  obtain ⟨hu6, gu6, ku60⟩ := mq7
  have fu6 : fk [60, 66] [3, 7, 13, 22, 28] u u6 := fk_tr f0 gu6 (by decide) (by decide)
  have rfu6 : rf u6 := rf_mono hrf gu6 ku60 (by decide) (by decide) (by decide) (by decide)
  have T9 : u6.1 60 7 = t1 := (fk_at gu6 (by decide)).trans Tt1
  have T10 : u6.1 60 14 = t2 := (fk_at gu6 (by decide)).trans Tt2
  have T11 : u6.1 60 15 = t3 := (fk_at gu6 (by decide)).trans Tt3
  obtain ⟨t12, Tt12⟩ : ∃ t, u6.1 60 18 = t := ⟨_, rfl⟩
  have Rt12 : 0 ≤ t12 ∧ t12 ≤ 6 := by rw [← Tt12]; exact iv_at hu6 _ _ rfl
  have C13 : u6.1 66 = u.1 66 := (fk_c gu6 (by decide)).trans C66
  have C14 : u6.1 67 = u.1 67 := (fk_c gu6 (by decide)).trans C67
  have C15 : u6.1 68 = u.1 68 := (fk_c gu6 (by decide)).trans C68
  refine g_istore_n dX7_readHave_7 (by decide) ?_
  refine g_aload_n dX7_readHave_8 rfl ?_
  refine f_X7_91 rfl rfl dX7_readHave_9 ?_
  refine g_topi (fun x16 ex16 => ?_)
  have rx16 : 0 ≤ x16 ∧ x16 ≤ 6 := by rw [ex16]; exact iv_at hu6 _ _ rfl
  have qx16 : x16 = t12 := ex16.trans Tt12
  refine g_if_ne (tgt := 68) dX7_readHave_12 (by decide) (fun c17 => ?_) (fun c17 => ?_)
  · refine g_aload_n dX7_readHave_68 rfl ?_
    refine cl_X7_133 (c := 60) (As := []) rfl (c_X7_next (G := G) hs hu6    (d + 1)) rfl (by omega) rfl rfl (Nat.le_of_ble_eq_true rfl) dX7_readHave_69 (fun r18 u19 q20 => ?_)
    obtain ⟨rfl, mq20⟩ := q20
    obtain ⟨hu19, gu19, ku190, ku191, ku192, ku193⟩ := mq20
    have fu19 : fk [60, 66] [3, 7, 13, 22, 28] u u19 := fk_tr fu6 gu19 (by decide) (by decide)
    have rfu19 : rf u19 := rf_mono rfu6 gu19 ku190 (by decide) (by decide) (by decide) (by decide)
    have T21 : u19.1 60 7 = t1 := (fk_at gu19 (by decide)).trans T9
    obtain ⟨t22, Tt22⟩ : ∃ t, u19.1 60 14 = t := ⟨_, rfl⟩
    have Rt22 : 0 ≤ t22 ∧ t22 ≤ 160 := by rw [← Tt22]; exact iv_at hu19 _ _ rfl
    obtain ⟨t23, Tt23⟩ : ∃ t, u19.1 60 15 = t := ⟨_, rfl⟩
    have Rt23 : 0 ≤ t23 ∧ t23 ≤ 160 := by rw [← Tt23]; exact iv_at hu19 _ _ rfl
    obtain ⟨t24, Tt24⟩ : ∃ t, u19.1 60 18 = t := ⟨_, rfl⟩
    have Rt24 : 0 ≤ t24 ∧ t24 ≤ 6 := by rw [← Tt24]; exact iv_at hu19 _ _ rfl
    have C25 : u19.1 66 = u.1 66 := (fk_c gu19 (by decide)).trans C13
    have C26 : u19.1 67 = u.1 67 := (fk_c gu19 (by decide)).trans C14
    have C27 : u19.1 68 = u.1 68 := (fk_c gu19 (by decide)).trans C15
    refine g_aload_n dX7_readHave_72 rfl ?_
    refine g_iconst (v := 0) dX7_readHave_73 (by decide) ?_
    refine g_bipush (v := 40) dX7_readHave_74 (by decide) ?_
    refine cl_X7_136 (c := 60) (As := [.int 0, .int 40]) rfl (c_X7_readNumber (G := G) hs hu19  0 40  (d)) rfl (by omega) rfl rfl (Nat.le_of_ble_eq_true rfl) dX7_readHave_76 (fun r28 u29 q30 => ?_)
    obtain ⟨⟨x31, rfl, tx31⟩, mq30⟩ := q30
    obtain ⟨hu29, gu29, ku290, ku291⟩ := mq30
    have fu29 : fk [60, 66] [3, 7, 13, 22, 28] u u29 := fk_tr fu19 gu29 (by decide) (by decide)
    have rfu29 : rf u29 := rf_mono rfu19 gu29 ku290 (by decide) (by decide) (by decide) (by decide)
    have T32 : u29.1 60 7 = t1 := (fk_at gu29 (by decide)).trans T21
    obtain ⟨t33, Tt33⟩ : ∃ t, u29.1 60 14 = t := ⟨_, rfl⟩
    have Rt33 : 0 ≤ t33 ∧ t33 ≤ 160 := by rw [← Tt33]; exact iv_at hu29 _ _ rfl
    obtain ⟨t34, Tt34⟩ : ∃ t, u29.1 60 15 = t := ⟨_, rfl⟩
    have Rt34 : 0 ≤ t34 ∧ t34 ≤ 160 := by rw [← Tt34]; exact iv_at hu29 _ _ rfl
    obtain ⟨t35, Tt35⟩ : ∃ t, u29.1 60 18 = t := ⟨_, rfl⟩
    have Rt35 : 0 ≤ t35 ∧ t35 ≤ 6 := by rw [← Tt35]; exact iv_at hu29 _ _ rfl
    have C36 : u29.1 66 = u.1 66 := (fk_c gu29 (by decide)).trans C25
    have C37 : u29.1 67 = u.1 67 := (fk_c gu29 (by decide)).trans C26
    have C38 : u29.1 68 = u.1 68 := (fk_c gu29 (by decide)).trans C27
    refine g_istore_n dX7_readHave_79 (by decide) ?_
    refine g_aload_n dX7_readHave_80 rfl ?_
    refine f_X7_26 rfl rfl dX7_readHave_81 ?_
    refine g_iconst (v := 0) dX7_readHave_84 (by decide) ?_
    refine g_iload_n dX7_readHave_85 rfl ?_
    refine g_iadd dX7_readHave_86 ?_
    refine g_topi (fun x39 ex39 => ?_)
    refine g_aload_n dX7_readHave_87 rfl ?_
    refine f_X7_91 rfl rfl dX7_readHave_88 ?_
    refine g_topi (fun x40 ex40 => ?_)
    have rx40 : 0 ≤ x40 ∧ x40 ≤ 6 := by rw [ex40]; exact iv_at hu29 _ _ rfl
    have qx40 : x40 = t35 := ex40.trans Tt35
    refine g_if_ne (tgt := 98) dX7_readHave_91 (by decide) (fun c41 => ?_) (fun c41 => ?_)
    · refine g_aload_n dX7_readHave_98 rfl ?_
      refine f_X7_26 rfl rfl dX7_readHave_99 ?_
      refine g_iconst (v := 0) dX7_readHave_102 (by decide) ?_
      refine g_iload_n dX7_readHave_103 rfl ?_
      refine g_iadd dX7_readHave_104 ?_
      refine g_topi (fun x42 ex42 => ?_)
      have v43 : vp_in x42 51 := uk_vin 51 rfl (by first | decide | lia | grind) (by first | decide | lia | grind)
      refine g_iald rfl rfl v43 dX7_readHave_105 ?_
      refine g_topi (fun x44 ex44 => ?_)
      have rx44 : 0 ≤ x42 → x42 ≤ 7 → 0 ≤ x44 ∧ x44 ≤ 40 := fun a b => by rw [ex44]; exact sg_0 hu29 (by unfold uk_is51; decide) a b
      have rrx44 : 43 ≤ x42 → x42 ≤ 50 → 0 ≤ x44 ∧ x44 ≤ 7 := fun a b => by rw [ex44]; exact sg_43 hu29 (by unfold uk_is51; decide) a b
      have v45 : vp_in x39 51 := uk_vin 51 rfl (by first | decide | lia | grind) (by first | decide | lia | grind)
      have b46 := uk_cl v45
      refine g_iast rfl rfl v45 dX7_readHave_106 ?_
      refine g_mem (fun u47 eu47 => ?_)
      have hu47 : iv u47 := by rw [eu47]; exact iv_st hu29 (by unfold uk_is51; decide) (by first | decide | lia | grind) (by first | decide | lia | grind) (fun q => by first | decide | lia | grind) (fun q => by first | decide | lia | grind) (fun q => by first | decide | lia | grind)
      have fu47 : fk [60, 66] [3, 7, 13, 22, 28] u u47 := by rw [eu47]; exact fk_up fu29 (by decide) (fun q => absurd q (by decide))
      have T48 : u47.1 60 7 = t1 := by rw [eu47]; exact (congrFun (uk_up_oc (by decide)) _).trans T32
      have T49 : u47.1 60 14 = t33 := by rw [eu47]; exact (congrFun (uk_up_oc (by decide)) _).trans Tt33
      have T50 : u47.1 60 15 = t34 := by rw [eu47]; exact (congrFun (uk_up_oc (by decide)) _).trans Tt34
      have T51 : u47.1 60 18 = t35 := by rw [eu47]; exact (congrFun (uk_up_oc (by decide)) _).trans Tt35
      have C52 : u47.1 66 = (upd (u.1 66) (x39).toNatClampNeg x44) := by rw [eu47, uk_up_self, C36]
      have C53 : u47.1 67 = u.1 67 := by rw [eu47]; exact (uk_up_oc (by decide)).trans C37
      have C54 : u47.1 68 = u.1 68 := by rw [eu47]; exact (uk_up_oc (by decide)).trans C38
      exact g_vret dX7_readHave_107 rfl ⟨rfl, hu47, fu47, (fun hf => by
    rw [T51] at hf
    have hrd := hrf (by grind)
    unfold rd at hrd ⊢
    rw [show u.1 60 7 = t1 by grind] at hrd
    rw [T48, C52, C53, C54]
    exact rk_up hrd (by grind) (by decide) (by grind)), (by first | rfl | (rw [T51]; grind) | rw [T51]), (by first | rfl | (rw [T51, T50, T49]; grind) | rw [T51, T50, T49])⟩
    · refine g_iload_n dX7_readHave_94 rfl ?_
      refine g_goto (tgt := 106) dX7_readHave_95 (by decide) ?_
      have v55 : vp_in x39 51 := uk_vin 51 rfl (by first | decide | lia | grind) (by first | decide | lia | grind)
      have b56 := uk_cl v55
      refine g_iast rfl rfl v55 dX7_readHave_106 ?_
      refine g_mem (fun u57 eu57 => ?_)
      have hu57 : iv u57 := by rw [eu57]; exact iv_st hu29 (by unfold uk_is51; decide) (by first | decide | lia | grind) (by first | decide | lia | grind) (fun q => by first | decide | lia | grind) (fun q => by first | decide | lia | grind) (fun q => by first | decide | lia | grind)
      have fu57 : fk [60, 66] [3, 7, 13, 22, 28] u u57 := by rw [eu57]; exact fk_up fu29 (by decide) (fun q => absurd q (by decide))
      have T58 : u57.1 60 7 = t1 := by rw [eu57]; exact (congrFun (uk_up_oc (by decide)) _).trans T32
      have T59 : u57.1 60 14 = t33 := by rw [eu57]; exact (congrFun (uk_up_oc (by decide)) _).trans Tt33
      have T60 : u57.1 60 15 = t34 := by rw [eu57]; exact (congrFun (uk_up_oc (by decide)) _).trans Tt34
      have T61 : u57.1 60 18 = t35 := by rw [eu57]; exact (congrFun (uk_up_oc (by decide)) _).trans Tt35
      have C62 : u57.1 66 = (upd (u.1 66) (x39).toNatClampNeg x31) := by rw [eu57, uk_up_self, C36]
      have C63 : u57.1 67 = u.1 67 := by rw [eu57]; exact (uk_up_oc (by decide)).trans C37
      have C64 : u57.1 68 = u.1 68 := by rw [eu57]; exact (uk_up_oc (by decide)).trans C38
      exact g_vret dX7_readHave_107 rfl ⟨rfl, hu57, fu57, (fun hf => by
    rw [T61] at hf
    have hrd := hrf (by grind)
    unfold rd at hrd ⊢
    rw [show u.1 60 7 = t1 by grind] at hrd
    rw [T58, C62, C63, C64]
    exact rk_up hrd (by grind) (by decide) (by grind)), (by first | rfl | (rw [T61]; grind) | rw [T61]), (by first | rfl | (rw [T61, T60, T59]; grind) | rw [T61, T60, T59])⟩
  · refine g_aload_n dX7_readHave_15 rfl ?_
    refine g_aload_n dX7_readHave_16 rfl ?_
    refine f_X7_73 rfl rfl dX7_readHave_17 ?_
    refine g_topi (fun x65 ex65 => ?_)
    have s66 : u6.1 60 10 = x65 := ex65.symm
    refine g_iload_n dX7_readHave_20 rfl ?_
    refine g_ishr dX7_readHave_21 (fun x67 ex67 => ?_)
    refine g_iconst (v := 1) dX7_readHave_22 (by decide) ?_
    refine g_iand dX7_readHave_23 ?_
    refine g_topi (fun x68 ex68 => ?_)
    refine g_if_ne (tgt := 31) dX7_readHave_24 (by decide) (fun c69 => ?_) (fun c69 => ?_)
    · refine g_iconst (v := 0) dX7_readHave_31 (by decide) ?_
      refine g_iconst (v := 4) dX7_readHave_32 (by decide) ?_
      refine cl_X7_125 (c := 60) (As := [.int 0, .int 4]) rfl (c_X7_needs (G := G) hs hu6  0 4 (by first | trivial | decide | lia | grind) (by first | trivial | decide | lia | grind) (d + 2)) rfl (by omega) rfl rfl (Nat.le_of_ble_eq_true rfl) dX7_readHave_33 (fun r70 u71 q72 => ?_)
      obtain ⟨rfl, mq72⟩ := q72
      obtain ⟨hu71, gu71, ku710⟩ := mq72
      have fu71 : fk [60, 66] [3, 7, 13, 22, 28] u u71 := fk_tr fu6 gu71 (by decide) (by decide)
      have rfu71 : rf u71 := rf_mono rfu6 gu71 (fun q => (ku710 q).1) (by decide) (by decide) (by decide) (by decide)
      have T73 : u71.1 60 7 = t1 := (fk_at gu71 (by decide)).trans T9
      have T74 : u71.1 60 14 = t2 := (fk_at gu71 (by decide)).trans T10
      have T75 : u71.1 60 15 = t3 := (fk_at gu71 (by decide)).trans T11
      obtain ⟨t76, Tt76⟩ : ∃ t, u71.1 60 18 = t := ⟨_, rfl⟩
      have Rt76 : 0 ≤ t76 ∧ t76 ≤ 6 := by rw [← Tt76]; exact iv_at hu71 _ _ rfl
      have C77 : u71.1 66 = u.1 66 := (fk_c gu71 (by decide)).trans C13
      have C78 : u71.1 67 = u.1 67 := (fk_c gu71 (by decide)).trans C14
      have C79 : u71.1 68 = u.1 68 := (fk_c gu71 (by decide)).trans C15
      have s80 : u71.1 60 10 = x65 := (fk_at gu71 (by decide)).trans s66
      refine g_aload_n dX7_readHave_36 rfl ?_
      refine g_dup dX7_readHave_37 rfl ?_
      refine f_X7_73 rfl rfl dX7_readHave_38 ?_
      refine g_topi (fun x81 ex81 => ?_)
      have qx81 : x81 = x65 := by rw [ex81]; exact s80
      refine g_iconst (v := 1) dX7_readHave_41 (by decide) ?_
      refine g_iload_n dX7_readHave_42 rfl ?_
      refine g_ishl dX7_readHave_43 (fun x82 ex82 => ?_)
      refine g_ior dX7_readHave_44 ?_
      refine g_topi (fun x83 ex83 => ?_)
      refine p_X7_73 rfl rfl dX7_readHave_45 ?_
      refine g_mem (fun u84 eu84 => ?_)
      have hu84 : iv u84 := by rw [eu84]; exact iv_upF hu71 rfl
      have fu84 : fk [60, 66] [3, 7, 13, 22, 28] u u84 := by rw [eu84]; exact fk_up fu71 (by decide) (fun _ => by decide)
      have C85 : u84.1 66 = u.1 66 := by rw [eu84]; exact (uk_up_oc (by decide)).trans C77
      have C86 : u84.1 67 = u.1 67 := by rw [eu84]; exact (uk_up_oc (by decide)).trans C78
      have C87 : u84.1 68 = u.1 68 := by rw [eu84]; exact (uk_up_oc (by decide)).trans C79
      have s88 : u84.1 60 10 = x83 := by rw [eu84, uk_up_at]; exact if_pos ⟨rfl, rfl⟩
      have T89 : u84.1 60 7 = t1 := by rw [eu84, uk_up_at, if_neg (by decide)]; exact T73
      have T90 : u84.1 60 14 = t2 := by rw [eu84, uk_up_at, if_neg (by decide)]; exact T74
      have T91 : u84.1 60 15 = t3 := by rw [eu84, uk_up_at, if_neg (by decide)]; exact T75
      have T92 : u84.1 60 18 = t76 := by rw [eu84, uk_up_at, if_neg (by decide)]; exact Tt76
      refine g_aload_n dX7_readHave_48 rfl ?_
      refine g_iload_n dX7_readHave_49 rfl ?_
      refine g_aload_n dX7_readHave_50 rfl ?_
      refine f_X7_76 rfl rfl dX7_readHave_51 ?_
      refine g_topi (fun x93 ex93 => ?_)
      have s94 : u84.1 60 11 = x93 := ex93.symm
      refine g_icmp_le (tgt := 61) dX7_readHave_54 (by decide) (fun c95 => ?_) (fun c95 => ?_)
      · refine g_aload_n dX7_readHave_61 rfl ?_
        refine f_X7_76 rfl rfl dX7_readHave_62 ?_
        refine g_topi (fun x96 ex96 => ?_)
        have qx96 : x96 = x93 := by rw [ex96]; exact s94
        refine p_X7_76 rfl rfl dX7_readHave_65 ?_
        refine g_mem (fun u97 eu97 => ?_)
        have hu97 : iv u97 := by rw [eu97]; exact iv_upF hu84 rfl
        have fu97 : fk [60, 66] [3, 7, 13, 22, 28] u u97 := by rw [eu97]; exact fk_up fu84 (by decide) (fun _ => by decide)
        have C98 : u97.1 66 = u.1 66 := by rw [eu97]; exact (uk_up_oc (by decide)).trans C85
        have C99 : u97.1 67 = u.1 67 := by rw [eu97]; exact (uk_up_oc (by decide)).trans C86
        have C100 : u97.1 68 = u.1 68 := by rw [eu97]; exact (uk_up_oc (by decide)).trans C87
        have s101 : u97.1 60 11 = x96 := by rw [eu97, uk_up_at]; exact if_pos ⟨rfl, rfl⟩
        have T102 : u97.1 60 7 = t1 := by rw [eu97, uk_up_at, if_neg (by decide)]; exact T89
        have T103 : u97.1 60 14 = t2 := by rw [eu97, uk_up_at, if_neg (by decide)]; exact T90
        have T104 : u97.1 60 15 = t3 := by rw [eu97, uk_up_at, if_neg (by decide)]; exact T91
        have T105 : u97.1 60 18 = t76 := by rw [eu97, uk_up_at, if_neg (by decide)]; exact T92
        refine g_aload_n dX7_readHave_68 rfl ?_
        refine cl_X7_133 (c := 60) (As := []) rfl (c_X7_next (G := G) hs hu97    (d + 1)) rfl (by omega) rfl rfl (Nat.le_of_ble_eq_true rfl) dX7_readHave_69 (fun r106 u107 q108 => ?_)
        obtain ⟨rfl, mq108⟩ := q108
        obtain ⟨hu107, gu107, ku1070, ku1071, ku1072, ku1073⟩ := mq108
        have fu107 : fk [60, 66] [3, 7, 13, 22, 28] u u107 := fk_tr fu97 gu107 (by decide) (by decide)
        have T109 : u107.1 60 7 = t1 := (fk_at gu107 (by decide)).trans T102
        obtain ⟨t110, Tt110⟩ : ∃ t, u107.1 60 14 = t := ⟨_, rfl⟩
        have Rt110 : 0 ≤ t110 ∧ t110 ≤ 160 := by rw [← Tt110]; exact iv_at hu107 _ _ rfl
        obtain ⟨t111, Tt111⟩ : ∃ t, u107.1 60 15 = t := ⟨_, rfl⟩
        have Rt111 : 0 ≤ t111 ∧ t111 ≤ 160 := by rw [← Tt111]; exact iv_at hu107 _ _ rfl
        obtain ⟨t112, Tt112⟩ : ∃ t, u107.1 60 18 = t := ⟨_, rfl⟩
        have Rt112 : 0 ≤ t112 ∧ t112 ≤ 6 := by rw [← Tt112]; exact iv_at hu107 _ _ rfl
        have C113 : u107.1 66 = u.1 66 := (fk_c gu107 (by decide)).trans C98
        have C114 : u107.1 67 = u.1 67 := (fk_c gu107 (by decide)).trans C99
        have C115 : u107.1 68 = u.1 68 := (fk_c gu107 (by decide)).trans C100
        have s116 : u107.1 60 10 = x83 := (fk_at gu107 (by decide)).trans (by simp [eu97, uk_up_at, s88] : u97.1 60 10 = x83)
        have s117 : u107.1 60 11 = x96 := (fk_at gu107 (by decide)).trans s101
        refine g_aload_n dX7_readHave_72 rfl ?_
        refine g_iconst (v := 0) dX7_readHave_73 (by decide) ?_
        refine g_bipush (v := 40) dX7_readHave_74 (by decide) ?_
        refine cl_X7_136 (c := 60) (As := [.int 0, .int 40]) rfl (c_X7_readNumber (G := G) hs hu107  0 40  (d)) rfl (by omega) rfl rfl (Nat.le_of_ble_eq_true rfl) dX7_readHave_76 (fun r118 u119 q120 => ?_)
        obtain ⟨⟨x121, rfl, tx121⟩, mq120⟩ := q120
        obtain ⟨hu119, gu119, ku1190, ku1191⟩ := mq120
        have fu119 : fk [60, 66] [3, 7, 13, 22, 28] u u119 := fk_tr fu107 gu119 (by decide) (by decide)
        have T122 : u119.1 60 7 = t1 := (fk_at gu119 (by decide)).trans T109
        obtain ⟨t123, Tt123⟩ : ∃ t, u119.1 60 14 = t := ⟨_, rfl⟩
        have Rt123 : 0 ≤ t123 ∧ t123 ≤ 160 := by rw [← Tt123]; exact iv_at hu119 _ _ rfl
        obtain ⟨t124, Tt124⟩ : ∃ t, u119.1 60 15 = t := ⟨_, rfl⟩
        have Rt124 : 0 ≤ t124 ∧ t124 ≤ 160 := by rw [← Tt124]; exact iv_at hu119 _ _ rfl
        obtain ⟨t125, Tt125⟩ : ∃ t, u119.1 60 18 = t := ⟨_, rfl⟩
        have Rt125 : 0 ≤ t125 ∧ t125 ≤ 6 := by rw [← Tt125]; exact iv_at hu119 _ _ rfl
        have C126 : u119.1 66 = u.1 66 := (fk_c gu119 (by decide)).trans C113
        have C127 : u119.1 67 = u.1 67 := (fk_c gu119 (by decide)).trans C114
        have C128 : u119.1 68 = u.1 68 := (fk_c gu119 (by decide)).trans C115
        have s129 : u119.1 60 10 = x83 := (fk_at gu119 (by decide)).trans s116
        have s130 : u119.1 60 11 = x96 := (fk_at gu119 (by decide)).trans s117
        refine g_istore_n dX7_readHave_79 (by decide) ?_
        refine g_aload_n dX7_readHave_80 rfl ?_
        refine f_X7_26 rfl rfl dX7_readHave_81 ?_
        refine g_iconst (v := 0) dX7_readHave_84 (by decide) ?_
        refine g_iload_n dX7_readHave_85 rfl ?_
        refine g_iadd dX7_readHave_86 ?_
        refine g_topi (fun x131 ex131 => ?_)
        refine g_aload_n dX7_readHave_87 rfl ?_
        refine f_X7_91 rfl rfl dX7_readHave_88 ?_
        refine g_topi (fun x132 ex132 => ?_)
        have rx132 : 0 ≤ x132 ∧ x132 ≤ 6 := by rw [ex132]; exact iv_at hu119 _ _ rfl
        have qx132 : x132 = t125 := ex132.trans Tt125
        refine g_if_ne (tgt := 98) dX7_readHave_91 (by decide) (fun c133 => ?_) (fun c133 => ?_)
        · refine g_aload_n dX7_readHave_98 rfl ?_
          refine f_X7_26 rfl rfl dX7_readHave_99 ?_
          refine g_iconst (v := 0) dX7_readHave_102 (by decide) ?_
          refine g_iload_n dX7_readHave_103 rfl ?_
          refine g_iadd dX7_readHave_104 ?_
          refine g_topi (fun x134 ex134 => ?_)
          have v135 : vp_in x134 51 := uk_vin 51 rfl (by first | decide | lia | grind) (by first | decide | lia | grind)
          refine g_iald rfl rfl v135 dX7_readHave_105 ?_
          refine g_topi (fun x136 ex136 => ?_)
          have rx136 : 0 ≤ x134 → x134 ≤ 7 → 0 ≤ x136 ∧ x136 ≤ 40 := fun a b => by rw [ex136]; exact sg_0 hu119 (by unfold uk_is51; decide) a b
          have rrx136 : 43 ≤ x134 → x134 ≤ 50 → 0 ≤ x136 ∧ x136 ≤ 7 := fun a b => by rw [ex136]; exact sg_43 hu119 (by unfold uk_is51; decide) a b
          have v137 : vp_in x131 51 := uk_vin 51 rfl (by first | decide | lia | grind) (by first | decide | lia | grind)
          have b138 := uk_cl v137
          refine g_iast rfl rfl v137 dX7_readHave_106 ?_
          refine g_mem (fun u139 eu139 => ?_)
          have hu139 : iv u139 := by rw [eu139]; exact iv_st hu119 (by unfold uk_is51; decide) (by first | decide | lia | grind) (by first | decide | lia | grind) (fun q => by first | decide | lia | grind) (fun q => by first | decide | lia | grind) (fun q => by first | decide | lia | grind)
          have fu139 : fk [60, 66] [3, 7, 13, 22, 28] u u139 := by rw [eu139]; exact fk_up fu119 (by decide) (fun q => absurd q (by decide))
          have T140 : u139.1 60 7 = t1 := by rw [eu139]; exact (congrFun (uk_up_oc (by decide)) _).trans T122
          have T141 : u139.1 60 14 = t123 := by rw [eu139]; exact (congrFun (uk_up_oc (by decide)) _).trans Tt123
          have T142 : u139.1 60 15 = t124 := by rw [eu139]; exact (congrFun (uk_up_oc (by decide)) _).trans Tt124
          have T143 : u139.1 60 18 = t125 := by rw [eu139]; exact (congrFun (uk_up_oc (by decide)) _).trans Tt125
          have C144 : u139.1 66 = (upd (u.1 66) (x131).toNatClampNeg x136) := by rw [eu139, uk_up_self, C126]
          have C145 : u139.1 67 = u.1 67 := by rw [eu139]; exact (uk_up_oc (by decide)).trans C127
          have C146 : u139.1 68 = u.1 68 := by rw [eu139]; exact (uk_up_oc (by decide)).trans C128
          exact g_vret dX7_readHave_107 rfl ⟨rfl, hu139, fu139, (fun hf => by
    rw [T143] at hf
    have hrd := hrf (by grind)
    unfold rd at hrd ⊢
    rw [show u.1 60 7 = t1 by grind] at hrd
    rw [T140, C144, C145, C146]
    exact rk_up hrd (by grind) (by decide) (by grind)), (by first | rfl | (rw [T143]; grind) | rw [T143]), (by first | rfl | (rw [T143, T142, T141]; grind) | rw [T143, T142, T141])⟩
        · refine g_iload_n dX7_readHave_94 rfl ?_
          refine g_goto (tgt := 106) dX7_readHave_95 (by decide) ?_
          have v147 : vp_in x131 51 := uk_vin 51 rfl (by first | decide | lia | grind) (by first | decide | lia | grind)
          have b148 := uk_cl v147
          refine g_iast rfl rfl v147 dX7_readHave_106 ?_
          refine g_mem (fun u149 eu149 => ?_)
          have hu149 : iv u149 := by rw [eu149]; exact iv_st hu119 (by unfold uk_is51; decide) (by first | decide | lia | grind) (by first | decide | lia | grind) (fun q => by first | decide | lia | grind) (fun q => by first | decide | lia | grind) (fun q => by first | decide | lia | grind)
          have fu149 : fk [60, 66] [3, 7, 13, 22, 28] u u149 := by rw [eu149]; exact fk_up fu119 (by decide) (fun q => absurd q (by decide))
          have T150 : u149.1 60 7 = t1 := by rw [eu149]; exact (congrFun (uk_up_oc (by decide)) _).trans T122
          have T151 : u149.1 60 14 = t123 := by rw [eu149]; exact (congrFun (uk_up_oc (by decide)) _).trans Tt123
          have T152 : u149.1 60 15 = t124 := by rw [eu149]; exact (congrFun (uk_up_oc (by decide)) _).trans Tt124
          have T153 : u149.1 60 18 = t125 := by rw [eu149]; exact (congrFun (uk_up_oc (by decide)) _).trans Tt125
          have C154 : u149.1 66 = (upd (u.1 66) (x131).toNatClampNeg x121) := by rw [eu149, uk_up_self, C126]
          have C155 : u149.1 67 = u.1 67 := by rw [eu149]; exact (uk_up_oc (by decide)).trans C127
          have C156 : u149.1 68 = u.1 68 := by rw [eu149]; exact (uk_up_oc (by decide)).trans C128
          exact g_vret dX7_readHave_107 rfl ⟨rfl, hu149, fu149, (fun hf => by
    rw [T153] at hf
    have hrd := hrf (by grind)
    unfold rd at hrd ⊢
    rw [show u.1 60 7 = t1 by grind] at hrd
    rw [T150, C154, C155, C156]
    exact rk_up hrd (by grind) (by decide) (by grind)), (by first | rfl | (rw [T153]; grind) | rw [T153]), (by first | rfl | (rw [T153, T152, T151]; grind) | rw [T153, T152, T151])⟩
      · refine g_iload_n dX7_readHave_57 rfl ?_
        refine g_goto (tgt := 65) dX7_readHave_58 (by decide) ?_
        refine p_X7_76 rfl rfl dX7_readHave_65 ?_
        refine g_mem (fun u157 eu157 => ?_)
        have hu157 : iv u157 := by rw [eu157]; exact iv_upF hu84 rfl
        have fu157 : fk [60, 66] [3, 7, 13, 22, 28] u u157 := by rw [eu157]; exact fk_up fu84 (by decide) (fun _ => by decide)
        have C158 : u157.1 66 = u.1 66 := by rw [eu157]; exact (uk_up_oc (by decide)).trans C85
        have C159 : u157.1 67 = u.1 67 := by rw [eu157]; exact (uk_up_oc (by decide)).trans C86
        have C160 : u157.1 68 = u.1 68 := by rw [eu157]; exact (uk_up_oc (by decide)).trans C87
        have s161 : u157.1 60 11 = x8 := by rw [eu157, uk_up_at]; exact if_pos ⟨rfl, rfl⟩
        have T162 : u157.1 60 7 = t1 := by rw [eu157, uk_up_at, if_neg (by decide)]; exact T89
        have T163 : u157.1 60 14 = t2 := by rw [eu157, uk_up_at, if_neg (by decide)]; exact T90
        have T164 : u157.1 60 15 = t3 := by rw [eu157, uk_up_at, if_neg (by decide)]; exact T91
        have T165 : u157.1 60 18 = t76 := by rw [eu157, uk_up_at, if_neg (by decide)]; exact T92
        refine g_aload_n dX7_readHave_68 rfl ?_
        refine cl_X7_133 (c := 60) (As := []) rfl (c_X7_next (G := G) hs hu157    (d + 1)) rfl (by omega) rfl rfl (Nat.le_of_ble_eq_true rfl) dX7_readHave_69 (fun r166 u167 q168 => ?_)
        obtain ⟨rfl, mq168⟩ := q168
        obtain ⟨hu167, gu167, ku1670, ku1671, ku1672, ku1673⟩ := mq168
        have fu167 : fk [60, 66] [3, 7, 13, 22, 28] u u167 := fk_tr fu157 gu167 (by decide) (by decide)
        have T169 : u167.1 60 7 = t1 := (fk_at gu167 (by decide)).trans T162
        obtain ⟨t170, Tt170⟩ : ∃ t, u167.1 60 14 = t := ⟨_, rfl⟩
        have Rt170 : 0 ≤ t170 ∧ t170 ≤ 160 := by rw [← Tt170]; exact iv_at hu167 _ _ rfl
        obtain ⟨t171, Tt171⟩ : ∃ t, u167.1 60 15 = t := ⟨_, rfl⟩
        have Rt171 : 0 ≤ t171 ∧ t171 ≤ 160 := by rw [← Tt171]; exact iv_at hu167 _ _ rfl
        obtain ⟨t172, Tt172⟩ : ∃ t, u167.1 60 18 = t := ⟨_, rfl⟩
        have Rt172 : 0 ≤ t172 ∧ t172 ≤ 6 := by rw [← Tt172]; exact iv_at hu167 _ _ rfl
        have C173 : u167.1 66 = u.1 66 := (fk_c gu167 (by decide)).trans C158
        have C174 : u167.1 67 = u.1 67 := (fk_c gu167 (by decide)).trans C159
        have C175 : u167.1 68 = u.1 68 := (fk_c gu167 (by decide)).trans C160
        have s176 : u167.1 60 10 = x83 := (fk_at gu167 (by decide)).trans (by simp [eu157, uk_up_at, s88] : u157.1 60 10 = x83)
        have s177 : u167.1 60 11 = x8 := (fk_at gu167 (by decide)).trans s161
        refine g_aload_n dX7_readHave_72 rfl ?_
        refine g_iconst (v := 0) dX7_readHave_73 (by decide) ?_
        refine g_bipush (v := 40) dX7_readHave_74 (by decide) ?_
        refine cl_X7_136 (c := 60) (As := [.int 0, .int 40]) rfl (c_X7_readNumber (G := G) hs hu167  0 40  (d)) rfl (by omega) rfl rfl (Nat.le_of_ble_eq_true rfl) dX7_readHave_76 (fun r178 u179 q180 => ?_)
        obtain ⟨⟨x181, rfl, tx181⟩, mq180⟩ := q180
        obtain ⟨hu179, gu179, ku1790, ku1791⟩ := mq180
        have fu179 : fk [60, 66] [3, 7, 13, 22, 28] u u179 := fk_tr fu167 gu179 (by decide) (by decide)
        have T182 : u179.1 60 7 = t1 := (fk_at gu179 (by decide)).trans T169
        obtain ⟨t183, Tt183⟩ : ∃ t, u179.1 60 14 = t := ⟨_, rfl⟩
        have Rt183 : 0 ≤ t183 ∧ t183 ≤ 160 := by rw [← Tt183]; exact iv_at hu179 _ _ rfl
        obtain ⟨t184, Tt184⟩ : ∃ t, u179.1 60 15 = t := ⟨_, rfl⟩
        have Rt184 : 0 ≤ t184 ∧ t184 ≤ 160 := by rw [← Tt184]; exact iv_at hu179 _ _ rfl
        obtain ⟨t185, Tt185⟩ : ∃ t, u179.1 60 18 = t := ⟨_, rfl⟩
        have Rt185 : 0 ≤ t185 ∧ t185 ≤ 6 := by rw [← Tt185]; exact iv_at hu179 _ _ rfl
        have C186 : u179.1 66 = u.1 66 := (fk_c gu179 (by decide)).trans C173
        have C187 : u179.1 67 = u.1 67 := (fk_c gu179 (by decide)).trans C174
        have C188 : u179.1 68 = u.1 68 := (fk_c gu179 (by decide)).trans C175
        have s189 : u179.1 60 10 = x83 := (fk_at gu179 (by decide)).trans s176
        have s190 : u179.1 60 11 = x8 := (fk_at gu179 (by decide)).trans s177
        refine g_istore_n dX7_readHave_79 (by decide) ?_
        refine g_aload_n dX7_readHave_80 rfl ?_
        refine f_X7_26 rfl rfl dX7_readHave_81 ?_
        refine g_iconst (v := 0) dX7_readHave_84 (by decide) ?_
        refine g_iload_n dX7_readHave_85 rfl ?_
        refine g_iadd dX7_readHave_86 ?_
        refine g_topi (fun x191 ex191 => ?_)
        refine g_aload_n dX7_readHave_87 rfl ?_
        refine f_X7_91 rfl rfl dX7_readHave_88 ?_
        refine g_topi (fun x192 ex192 => ?_)
        have rx192 : 0 ≤ x192 ∧ x192 ≤ 6 := by rw [ex192]; exact iv_at hu179 _ _ rfl
        have qx192 : x192 = t185 := ex192.trans Tt185
        refine g_if_ne (tgt := 98) dX7_readHave_91 (by decide) (fun c193 => ?_) (fun c193 => ?_)
        · refine g_aload_n dX7_readHave_98 rfl ?_
          refine f_X7_26 rfl rfl dX7_readHave_99 ?_
          refine g_iconst (v := 0) dX7_readHave_102 (by decide) ?_
          refine g_iload_n dX7_readHave_103 rfl ?_
          refine g_iadd dX7_readHave_104 ?_
          refine g_topi (fun x194 ex194 => ?_)
          have v195 : vp_in x194 51 := uk_vin 51 rfl (by first | decide | lia | grind) (by first | decide | lia | grind)
          refine g_iald rfl rfl v195 dX7_readHave_105 ?_
          refine g_topi (fun x196 ex196 => ?_)
          have rx196 : 0 ≤ x194 → x194 ≤ 7 → 0 ≤ x196 ∧ x196 ≤ 40 := fun a b => by rw [ex196]; exact sg_0 hu179 (by unfold uk_is51; decide) a b
          have rrx196 : 43 ≤ x194 → x194 ≤ 50 → 0 ≤ x196 ∧ x196 ≤ 7 := fun a b => by rw [ex196]; exact sg_43 hu179 (by unfold uk_is51; decide) a b
          have v197 : vp_in x191 51 := uk_vin 51 rfl (by first | decide | lia | grind) (by first | decide | lia | grind)
          have b198 := uk_cl v197
          refine g_iast rfl rfl v197 dX7_readHave_106 ?_
          refine g_mem (fun u199 eu199 => ?_)
          have hu199 : iv u199 := by rw [eu199]; exact iv_st hu179 (by unfold uk_is51; decide) (by first | decide | lia | grind) (by first | decide | lia | grind) (fun q => by first | decide | lia | grind) (fun q => by first | decide | lia | grind) (fun q => by first | decide | lia | grind)
          have fu199 : fk [60, 66] [3, 7, 13, 22, 28] u u199 := by rw [eu199]; exact fk_up fu179 (by decide) (fun q => absurd q (by decide))
          have T200 : u199.1 60 7 = t1 := by rw [eu199]; exact (congrFun (uk_up_oc (by decide)) _).trans T182
          have T201 : u199.1 60 14 = t183 := by rw [eu199]; exact (congrFun (uk_up_oc (by decide)) _).trans Tt183
          have T202 : u199.1 60 15 = t184 := by rw [eu199]; exact (congrFun (uk_up_oc (by decide)) _).trans Tt184
          have T203 : u199.1 60 18 = t185 := by rw [eu199]; exact (congrFun (uk_up_oc (by decide)) _).trans Tt185
          have C204 : u199.1 66 = (upd (u.1 66) (x191).toNatClampNeg x196) := by rw [eu199, uk_up_self, C186]
          have C205 : u199.1 67 = u.1 67 := by rw [eu199]; exact (uk_up_oc (by decide)).trans C187
          have C206 : u199.1 68 = u.1 68 := by rw [eu199]; exact (uk_up_oc (by decide)).trans C188
          exact g_vret dX7_readHave_107 rfl ⟨rfl, hu199, fu199, (fun hf => by
    rw [T203] at hf
    have hrd := hrf (by grind)
    unfold rd at hrd ⊢
    rw [show u.1 60 7 = t1 by grind] at hrd
    rw [T200, C204, C205, C206]
    exact rk_up hrd (by grind) (by decide) (by grind)), (by first | rfl | (rw [T203]; grind) | rw [T203]), (by first | rfl | (rw [T203, T202, T201]; grind) | rw [T203, T202, T201])⟩
        · refine g_iload_n dX7_readHave_94 rfl ?_
          refine g_goto (tgt := 106) dX7_readHave_95 (by decide) ?_
          have v207 : vp_in x191 51 := uk_vin 51 rfl (by first | decide | lia | grind) (by first | decide | lia | grind)
          have b208 := uk_cl v207
          refine g_iast rfl rfl v207 dX7_readHave_106 ?_
          refine g_mem (fun u209 eu209 => ?_)
          have hu209 : iv u209 := by rw [eu209]; exact iv_st hu179 (by unfold uk_is51; decide) (by first | decide | lia | grind) (by first | decide | lia | grind) (fun q => by first | decide | lia | grind) (fun q => by first | decide | lia | grind) (fun q => by first | decide | lia | grind)
          have fu209 : fk [60, 66] [3, 7, 13, 22, 28] u u209 := by rw [eu209]; exact fk_up fu179 (by decide) (fun q => absurd q (by decide))
          have T210 : u209.1 60 7 = t1 := by rw [eu209]; exact (congrFun (uk_up_oc (by decide)) _).trans T182
          have T211 : u209.1 60 14 = t183 := by rw [eu209]; exact (congrFun (uk_up_oc (by decide)) _).trans Tt183
          have T212 : u209.1 60 15 = t184 := by rw [eu209]; exact (congrFun (uk_up_oc (by decide)) _).trans Tt184
          have T213 : u209.1 60 18 = t185 := by rw [eu209]; exact (congrFun (uk_up_oc (by decide)) _).trans Tt185
          have C214 : u209.1 66 = (upd (u.1 66) (x191).toNatClampNeg x181) := by rw [eu209, uk_up_self, C186]
          have C215 : u209.1 67 = u.1 67 := by rw [eu209]; exact (uk_up_oc (by decide)).trans C187
          have C216 : u209.1 68 = u.1 68 := by rw [eu209]; exact (uk_up_oc (by decide)).trans C188
          exact g_vret dX7_readHave_107 rfl ⟨rfl, hu209, fu209, (fun hf => by
    rw [T213] at hf
    have hrd := hrf (by grind)
    unfold rd at hrd ⊢
    rw [show u.1 60 7 = t1 by grind] at hrd
    rw [T210, C214, C215, C216]
    exact rk_up hrd (by grind) (by decide) (by grind)), (by first | rfl | (rw [T213]; grind) | rw [T213]), (by first | rfl | (rw [T213, T212, T211]; grind) | rw [T213, T212, T211])⟩
    · refine g_iconst (v := 1) dX7_readHave_27 (by decide) ?_
      refine g_goto (tgt := 32) dX7_readHave_28 (by decide) ?_
      refine g_iconst (v := 4) dX7_readHave_32 (by decide) ?_
      refine cl_X7_125 (c := 60) (As := [.int 1, .int 4]) rfl (c_X7_needs (G := G) hs hu6  1 4 (by first | trivial | decide | lia | grind) (by first | trivial | decide | lia | grind) (d + 2)) rfl (by omega) rfl rfl (Nat.le_of_ble_eq_true rfl) dX7_readHave_33 (fun r217 u218 q219 => ?_)
      obtain ⟨rfl, mq219⟩ := q219
      obtain ⟨hu218, gu218, ku2180⟩ := mq219
      have fu218 : fk [60, 66] [3, 7, 13, 22, 28] u u218 := fk_tr fu6 gu218 (by decide) (by decide)
      have rfu218 : rf u218 := rf_mono rfu6 gu218 (fun q => (ku2180 q).1) (by decide) (by decide) (by decide) (by decide)
      have T220 : u218.1 60 7 = t1 := (fk_at gu218 (by decide)).trans T9
      have T221 : u218.1 60 14 = t2 := (fk_at gu218 (by decide)).trans T10
      have T222 : u218.1 60 15 = t3 := (fk_at gu218 (by decide)).trans T11
      obtain ⟨t223, Tt223⟩ : ∃ t, u218.1 60 18 = t := ⟨_, rfl⟩
      have Rt223 : 0 ≤ t223 ∧ t223 ≤ 6 := by rw [← Tt223]; exact iv_at hu218 _ _ rfl
      have C224 : u218.1 66 = u.1 66 := (fk_c gu218 (by decide)).trans C13
      have C225 : u218.1 67 = u.1 67 := (fk_c gu218 (by decide)).trans C14
      have C226 : u218.1 68 = u.1 68 := (fk_c gu218 (by decide)).trans C15
      have s227 : u218.1 60 10 = x65 := (fk_at gu218 (by decide)).trans s66
      refine g_aload_n dX7_readHave_36 rfl ?_
      refine g_dup dX7_readHave_37 rfl ?_
      refine f_X7_73 rfl rfl dX7_readHave_38 ?_
      refine g_topi (fun x228 ex228 => ?_)
      have qx228 : x228 = x65 := by rw [ex228]; exact s227
      refine g_iconst (v := 1) dX7_readHave_41 (by decide) ?_
      refine g_iload_n dX7_readHave_42 rfl ?_
      refine g_ishl dX7_readHave_43 (fun x229 ex229 => ?_)
      refine g_ior dX7_readHave_44 ?_
      refine g_topi (fun x230 ex230 => ?_)
      refine p_X7_73 rfl rfl dX7_readHave_45 ?_
      refine g_mem (fun u231 eu231 => ?_)
      have hu231 : iv u231 := by rw [eu231]; exact iv_upF hu218 rfl
      have fu231 : fk [60, 66] [3, 7, 13, 22, 28] u u231 := by rw [eu231]; exact fk_up fu218 (by decide) (fun _ => by decide)
      have C232 : u231.1 66 = u.1 66 := by rw [eu231]; exact (uk_up_oc (by decide)).trans C224
      have C233 : u231.1 67 = u.1 67 := by rw [eu231]; exact (uk_up_oc (by decide)).trans C225
      have C234 : u231.1 68 = u.1 68 := by rw [eu231]; exact (uk_up_oc (by decide)).trans C226
      have s235 : u231.1 60 10 = x230 := by rw [eu231, uk_up_at]; exact if_pos ⟨rfl, rfl⟩
      have T236 : u231.1 60 7 = t1 := by rw [eu231, uk_up_at, if_neg (by decide)]; exact T220
      have T237 : u231.1 60 14 = t2 := by rw [eu231, uk_up_at, if_neg (by decide)]; exact T221
      have T238 : u231.1 60 15 = t3 := by rw [eu231, uk_up_at, if_neg (by decide)]; exact T222
      have T239 : u231.1 60 18 = t223 := by rw [eu231, uk_up_at, if_neg (by decide)]; exact Tt223
      refine g_aload_n dX7_readHave_48 rfl ?_
      refine g_iload_n dX7_readHave_49 rfl ?_
      refine g_aload_n dX7_readHave_50 rfl ?_
      refine f_X7_76 rfl rfl dX7_readHave_51 ?_
      refine g_topi (fun x240 ex240 => ?_)
      have s241 : u231.1 60 11 = x240 := ex240.symm
      refine g_icmp_le (tgt := 61) dX7_readHave_54 (by decide) (fun c242 => ?_) (fun c242 => ?_)
      · refine g_aload_n dX7_readHave_61 rfl ?_
        refine f_X7_76 rfl rfl dX7_readHave_62 ?_
        refine g_topi (fun x243 ex243 => ?_)
        have qx243 : x243 = x240 := by rw [ex243]; exact s241
        refine p_X7_76 rfl rfl dX7_readHave_65 ?_
        refine g_mem (fun u244 eu244 => ?_)
        have hu244 : iv u244 := by rw [eu244]; exact iv_upF hu231 rfl
        have fu244 : fk [60, 66] [3, 7, 13, 22, 28] u u244 := by rw [eu244]; exact fk_up fu231 (by decide) (fun _ => by decide)
        have C245 : u244.1 66 = u.1 66 := by rw [eu244]; exact (uk_up_oc (by decide)).trans C232
        have C246 : u244.1 67 = u.1 67 := by rw [eu244]; exact (uk_up_oc (by decide)).trans C233
        have C247 : u244.1 68 = u.1 68 := by rw [eu244]; exact (uk_up_oc (by decide)).trans C234
        have s248 : u244.1 60 11 = x243 := by rw [eu244, uk_up_at]; exact if_pos ⟨rfl, rfl⟩
        have T249 : u244.1 60 7 = t1 := by rw [eu244, uk_up_at, if_neg (by decide)]; exact T236
        have T250 : u244.1 60 14 = t2 := by rw [eu244, uk_up_at, if_neg (by decide)]; exact T237
        have T251 : u244.1 60 15 = t3 := by rw [eu244, uk_up_at, if_neg (by decide)]; exact T238
        have T252 : u244.1 60 18 = t223 := by rw [eu244, uk_up_at, if_neg (by decide)]; exact T239
        refine g_aload_n dX7_readHave_68 rfl ?_
        refine cl_X7_133 (c := 60) (As := []) rfl (c_X7_next (G := G) hs hu244    (d + 1)) rfl (by omega) rfl rfl (Nat.le_of_ble_eq_true rfl) dX7_readHave_69 (fun r253 u254 q255 => ?_)
        obtain ⟨rfl, mq255⟩ := q255
        obtain ⟨hu254, gu254, ku2540, ku2541, ku2542, ku2543⟩ := mq255
        have fu254 : fk [60, 66] [3, 7, 13, 22, 28] u u254 := fk_tr fu244 gu254 (by decide) (by decide)
        have T256 : u254.1 60 7 = t1 := (fk_at gu254 (by decide)).trans T249
        obtain ⟨t257, Tt257⟩ : ∃ t, u254.1 60 14 = t := ⟨_, rfl⟩
        have Rt257 : 0 ≤ t257 ∧ t257 ≤ 160 := by rw [← Tt257]; exact iv_at hu254 _ _ rfl
        obtain ⟨t258, Tt258⟩ : ∃ t, u254.1 60 15 = t := ⟨_, rfl⟩
        have Rt258 : 0 ≤ t258 ∧ t258 ≤ 160 := by rw [← Tt258]; exact iv_at hu254 _ _ rfl
        obtain ⟨t259, Tt259⟩ : ∃ t, u254.1 60 18 = t := ⟨_, rfl⟩
        have Rt259 : 0 ≤ t259 ∧ t259 ≤ 6 := by rw [← Tt259]; exact iv_at hu254 _ _ rfl
        have C260 : u254.1 66 = u.1 66 := (fk_c gu254 (by decide)).trans C245
        have C261 : u254.1 67 = u.1 67 := (fk_c gu254 (by decide)).trans C246
        have C262 : u254.1 68 = u.1 68 := (fk_c gu254 (by decide)).trans C247
        have s263 : u254.1 60 10 = x230 := (fk_at gu254 (by decide)).trans (by simp [eu244, uk_up_at, s235] : u244.1 60 10 = x230)
        have s264 : u254.1 60 11 = x243 := (fk_at gu254 (by decide)).trans s248
        refine g_aload_n dX7_readHave_72 rfl ?_
        refine g_iconst (v := 0) dX7_readHave_73 (by decide) ?_
        refine g_bipush (v := 40) dX7_readHave_74 (by decide) ?_
        refine cl_X7_136 (c := 60) (As := [.int 0, .int 40]) rfl (c_X7_readNumber (G := G) hs hu254  0 40  (d)) rfl (by omega) rfl rfl (Nat.le_of_ble_eq_true rfl) dX7_readHave_76 (fun r265 u266 q267 => ?_)
        obtain ⟨⟨x268, rfl, tx268⟩, mq267⟩ := q267
        obtain ⟨hu266, gu266, ku2660, ku2661⟩ := mq267
        have fu266 : fk [60, 66] [3, 7, 13, 22, 28] u u266 := fk_tr fu254 gu266 (by decide) (by decide)
        have T269 : u266.1 60 7 = t1 := (fk_at gu266 (by decide)).trans T256
        obtain ⟨t270, Tt270⟩ : ∃ t, u266.1 60 14 = t := ⟨_, rfl⟩
        have Rt270 : 0 ≤ t270 ∧ t270 ≤ 160 := by rw [← Tt270]; exact iv_at hu266 _ _ rfl
        obtain ⟨t271, Tt271⟩ : ∃ t, u266.1 60 15 = t := ⟨_, rfl⟩
        have Rt271 : 0 ≤ t271 ∧ t271 ≤ 160 := by rw [← Tt271]; exact iv_at hu266 _ _ rfl
        obtain ⟨t272, Tt272⟩ : ∃ t, u266.1 60 18 = t := ⟨_, rfl⟩
        have Rt272 : 0 ≤ t272 ∧ t272 ≤ 6 := by rw [← Tt272]; exact iv_at hu266 _ _ rfl
        have C273 : u266.1 66 = u.1 66 := (fk_c gu266 (by decide)).trans C260
        have C274 : u266.1 67 = u.1 67 := (fk_c gu266 (by decide)).trans C261
        have C275 : u266.1 68 = u.1 68 := (fk_c gu266 (by decide)).trans C262
        have s276 : u266.1 60 10 = x230 := (fk_at gu266 (by decide)).trans s263
        have s277 : u266.1 60 11 = x243 := (fk_at gu266 (by decide)).trans s264
        refine g_istore_n dX7_readHave_79 (by decide) ?_
        refine g_aload_n dX7_readHave_80 rfl ?_
        refine f_X7_26 rfl rfl dX7_readHave_81 ?_
        refine g_iconst (v := 0) dX7_readHave_84 (by decide) ?_
        refine g_iload_n dX7_readHave_85 rfl ?_
        refine g_iadd dX7_readHave_86 ?_
        refine g_topi (fun x278 ex278 => ?_)
        refine g_aload_n dX7_readHave_87 rfl ?_
        refine f_X7_91 rfl rfl dX7_readHave_88 ?_
        refine g_topi (fun x279 ex279 => ?_)
        have rx279 : 0 ≤ x279 ∧ x279 ≤ 6 := by rw [ex279]; exact iv_at hu266 _ _ rfl
        have qx279 : x279 = t272 := ex279.trans Tt272
        refine g_if_ne (tgt := 98) dX7_readHave_91 (by decide) (fun c280 => ?_) (fun c280 => ?_)
        · refine g_aload_n dX7_readHave_98 rfl ?_
          refine f_X7_26 rfl rfl dX7_readHave_99 ?_
          refine g_iconst (v := 0) dX7_readHave_102 (by decide) ?_
          refine g_iload_n dX7_readHave_103 rfl ?_
          refine g_iadd dX7_readHave_104 ?_
          refine g_topi (fun x281 ex281 => ?_)
          have v282 : vp_in x281 51 := uk_vin 51 rfl (by first | decide | lia | grind) (by first | decide | lia | grind)
          refine g_iald rfl rfl v282 dX7_readHave_105 ?_
          refine g_topi (fun x283 ex283 => ?_)
          have rx283 : 0 ≤ x281 → x281 ≤ 7 → 0 ≤ x283 ∧ x283 ≤ 40 := fun a b => by rw [ex283]; exact sg_0 hu266 (by unfold uk_is51; decide) a b
          have rrx283 : 43 ≤ x281 → x281 ≤ 50 → 0 ≤ x283 ∧ x283 ≤ 7 := fun a b => by rw [ex283]; exact sg_43 hu266 (by unfold uk_is51; decide) a b
          have v284 : vp_in x278 51 := uk_vin 51 rfl (by first | decide | lia | grind) (by first | decide | lia | grind)
          have b285 := uk_cl v284
          refine g_iast rfl rfl v284 dX7_readHave_106 ?_
          refine g_mem (fun u286 eu286 => ?_)
          have hu286 : iv u286 := by rw [eu286]; exact iv_st hu266 (by unfold uk_is51; decide) (by first | decide | lia | grind) (by first | decide | lia | grind) (fun q => by first | decide | lia | grind) (fun q => by first | decide | lia | grind) (fun q => by first | decide | lia | grind)
          have fu286 : fk [60, 66] [3, 7, 13, 22, 28] u u286 := by rw [eu286]; exact fk_up fu266 (by decide) (fun q => absurd q (by decide))
          have T287 : u286.1 60 7 = t1 := by rw [eu286]; exact (congrFun (uk_up_oc (by decide)) _).trans T269
          have T288 : u286.1 60 14 = t270 := by rw [eu286]; exact (congrFun (uk_up_oc (by decide)) _).trans Tt270
          have T289 : u286.1 60 15 = t271 := by rw [eu286]; exact (congrFun (uk_up_oc (by decide)) _).trans Tt271
          have T290 : u286.1 60 18 = t272 := by rw [eu286]; exact (congrFun (uk_up_oc (by decide)) _).trans Tt272
          have C291 : u286.1 66 = (upd (u.1 66) (x278).toNatClampNeg x283) := by rw [eu286, uk_up_self, C273]
          have C292 : u286.1 67 = u.1 67 := by rw [eu286]; exact (uk_up_oc (by decide)).trans C274
          have C293 : u286.1 68 = u.1 68 := by rw [eu286]; exact (uk_up_oc (by decide)).trans C275
          exact g_vret dX7_readHave_107 rfl ⟨rfl, hu286, fu286, (fun hf => by
    rw [T290] at hf
    have hrd := hrf (by grind)
    unfold rd at hrd ⊢
    rw [show u.1 60 7 = t1 by grind] at hrd
    rw [T287, C291, C292, C293]
    exact rk_up hrd (by grind) (by decide) (by grind)), (by first | rfl | (rw [T290]; grind) | rw [T290]), (by first | rfl | (rw [T290, T289, T288]; grind) | rw [T290, T289, T288])⟩
        · refine g_iload_n dX7_readHave_94 rfl ?_
          refine g_goto (tgt := 106) dX7_readHave_95 (by decide) ?_
          have v294 : vp_in x278 51 := uk_vin 51 rfl (by first | decide | lia | grind) (by first | decide | lia | grind)
          have b295 := uk_cl v294
          refine g_iast rfl rfl v294 dX7_readHave_106 ?_
          refine g_mem (fun u296 eu296 => ?_)
          have hu296 : iv u296 := by rw [eu296]; exact iv_st hu266 (by unfold uk_is51; decide) (by first | decide | lia | grind) (by first | decide | lia | grind) (fun q => by first | decide | lia | grind) (fun q => by first | decide | lia | grind) (fun q => by first | decide | lia | grind)
          have fu296 : fk [60, 66] [3, 7, 13, 22, 28] u u296 := by rw [eu296]; exact fk_up fu266 (by decide) (fun q => absurd q (by decide))
          have T297 : u296.1 60 7 = t1 := by rw [eu296]; exact (congrFun (uk_up_oc (by decide)) _).trans T269
          have T298 : u296.1 60 14 = t270 := by rw [eu296]; exact (congrFun (uk_up_oc (by decide)) _).trans Tt270
          have T299 : u296.1 60 15 = t271 := by rw [eu296]; exact (congrFun (uk_up_oc (by decide)) _).trans Tt271
          have T300 : u296.1 60 18 = t272 := by rw [eu296]; exact (congrFun (uk_up_oc (by decide)) _).trans Tt272
          have C301 : u296.1 66 = (upd (u.1 66) (x278).toNatClampNeg x268) := by rw [eu296, uk_up_self, C273]
          have C302 : u296.1 67 = u.1 67 := by rw [eu296]; exact (uk_up_oc (by decide)).trans C274
          have C303 : u296.1 68 = u.1 68 := by rw [eu296]; exact (uk_up_oc (by decide)).trans C275
          exact g_vret dX7_readHave_107 rfl ⟨rfl, hu296, fu296, (fun hf => by
    rw [T300] at hf
    have hrd := hrf (by grind)
    unfold rd at hrd ⊢
    rw [show u.1 60 7 = t1 by grind] at hrd
    rw [T297, C301, C302, C303]
    exact rk_up hrd (by grind) (by decide) (by grind)), (by first | rfl | (rw [T300]; grind) | rw [T300]), (by first | rfl | (rw [T300, T299, T298]; grind) | rw [T300, T299, T298])⟩
      · refine g_iload_n dX7_readHave_57 rfl ?_
        refine g_goto (tgt := 65) dX7_readHave_58 (by decide) ?_
        refine p_X7_76 rfl rfl dX7_readHave_65 ?_
        refine g_mem (fun u304 eu304 => ?_)
        have hu304 : iv u304 := by rw [eu304]; exact iv_upF hu231 rfl
        have fu304 : fk [60, 66] [3, 7, 13, 22, 28] u u304 := by rw [eu304]; exact fk_up fu231 (by decide) (fun _ => by decide)
        have C305 : u304.1 66 = u.1 66 := by rw [eu304]; exact (uk_up_oc (by decide)).trans C232
        have C306 : u304.1 67 = u.1 67 := by rw [eu304]; exact (uk_up_oc (by decide)).trans C233
        have C307 : u304.1 68 = u.1 68 := by rw [eu304]; exact (uk_up_oc (by decide)).trans C234
        have s308 : u304.1 60 11 = x8 := by rw [eu304, uk_up_at]; exact if_pos ⟨rfl, rfl⟩
        have T309 : u304.1 60 7 = t1 := by rw [eu304, uk_up_at, if_neg (by decide)]; exact T236
        have T310 : u304.1 60 14 = t2 := by rw [eu304, uk_up_at, if_neg (by decide)]; exact T237
        have T311 : u304.1 60 15 = t3 := by rw [eu304, uk_up_at, if_neg (by decide)]; exact T238
        have T312 : u304.1 60 18 = t223 := by rw [eu304, uk_up_at, if_neg (by decide)]; exact T239
        refine g_aload_n dX7_readHave_68 rfl ?_
        refine cl_X7_133 (c := 60) (As := []) rfl (c_X7_next (G := G) hs hu304    (d + 1)) rfl (by omega) rfl rfl (Nat.le_of_ble_eq_true rfl) dX7_readHave_69 (fun r313 u314 q315 => ?_)
        obtain ⟨rfl, mq315⟩ := q315
        obtain ⟨hu314, gu314, ku3140, ku3141, ku3142, ku3143⟩ := mq315
        have fu314 : fk [60, 66] [3, 7, 13, 22, 28] u u314 := fk_tr fu304 gu314 (by decide) (by decide)
        have T316 : u314.1 60 7 = t1 := (fk_at gu314 (by decide)).trans T309
        obtain ⟨t317, Tt317⟩ : ∃ t, u314.1 60 14 = t := ⟨_, rfl⟩
        have Rt317 : 0 ≤ t317 ∧ t317 ≤ 160 := by rw [← Tt317]; exact iv_at hu314 _ _ rfl
        obtain ⟨t318, Tt318⟩ : ∃ t, u314.1 60 15 = t := ⟨_, rfl⟩
        have Rt318 : 0 ≤ t318 ∧ t318 ≤ 160 := by rw [← Tt318]; exact iv_at hu314 _ _ rfl
        obtain ⟨t319, Tt319⟩ : ∃ t, u314.1 60 18 = t := ⟨_, rfl⟩
        have Rt319 : 0 ≤ t319 ∧ t319 ≤ 6 := by rw [← Tt319]; exact iv_at hu314 _ _ rfl
        have C320 : u314.1 66 = u.1 66 := (fk_c gu314 (by decide)).trans C305
        have C321 : u314.1 67 = u.1 67 := (fk_c gu314 (by decide)).trans C306
        have C322 : u314.1 68 = u.1 68 := (fk_c gu314 (by decide)).trans C307
        have s323 : u314.1 60 10 = x230 := (fk_at gu314 (by decide)).trans (by simp [eu304, uk_up_at, s235] : u304.1 60 10 = x230)
        have s324 : u314.1 60 11 = x8 := (fk_at gu314 (by decide)).trans s308
        refine g_aload_n dX7_readHave_72 rfl ?_
        refine g_iconst (v := 0) dX7_readHave_73 (by decide) ?_
        refine g_bipush (v := 40) dX7_readHave_74 (by decide) ?_
        refine cl_X7_136 (c := 60) (As := [.int 0, .int 40]) rfl (c_X7_readNumber (G := G) hs hu314  0 40  (d)) rfl (by omega) rfl rfl (Nat.le_of_ble_eq_true rfl) dX7_readHave_76 (fun r325 u326 q327 => ?_)
        obtain ⟨⟨x328, rfl, tx328⟩, mq327⟩ := q327
        obtain ⟨hu326, gu326, ku3260, ku3261⟩ := mq327
        have fu326 : fk [60, 66] [3, 7, 13, 22, 28] u u326 := fk_tr fu314 gu326 (by decide) (by decide)
        have T329 : u326.1 60 7 = t1 := (fk_at gu326 (by decide)).trans T316
        obtain ⟨t330, Tt330⟩ : ∃ t, u326.1 60 14 = t := ⟨_, rfl⟩
        have Rt330 : 0 ≤ t330 ∧ t330 ≤ 160 := by rw [← Tt330]; exact iv_at hu326 _ _ rfl
        obtain ⟨t331, Tt331⟩ : ∃ t, u326.1 60 15 = t := ⟨_, rfl⟩
        have Rt331 : 0 ≤ t331 ∧ t331 ≤ 160 := by rw [← Tt331]; exact iv_at hu326 _ _ rfl
        obtain ⟨t332, Tt332⟩ : ∃ t, u326.1 60 18 = t := ⟨_, rfl⟩
        have Rt332 : 0 ≤ t332 ∧ t332 ≤ 6 := by rw [← Tt332]; exact iv_at hu326 _ _ rfl
        have C333 : u326.1 66 = u.1 66 := (fk_c gu326 (by decide)).trans C320
        have C334 : u326.1 67 = u.1 67 := (fk_c gu326 (by decide)).trans C321
        have C335 : u326.1 68 = u.1 68 := (fk_c gu326 (by decide)).trans C322
        have s336 : u326.1 60 10 = x230 := (fk_at gu326 (by decide)).trans s323
        have s337 : u326.1 60 11 = x8 := (fk_at gu326 (by decide)).trans s324
        refine g_istore_n dX7_readHave_79 (by decide) ?_
        refine g_aload_n dX7_readHave_80 rfl ?_
        refine f_X7_26 rfl rfl dX7_readHave_81 ?_
        refine g_iconst (v := 0) dX7_readHave_84 (by decide) ?_
        refine g_iload_n dX7_readHave_85 rfl ?_
        refine g_iadd dX7_readHave_86 ?_
        refine g_topi (fun x338 ex338 => ?_)
        refine g_aload_n dX7_readHave_87 rfl ?_
        refine f_X7_91 rfl rfl dX7_readHave_88 ?_
        refine g_topi (fun x339 ex339 => ?_)
        have rx339 : 0 ≤ x339 ∧ x339 ≤ 6 := by rw [ex339]; exact iv_at hu326 _ _ rfl
        have qx339 : x339 = t332 := ex339.trans Tt332
        refine g_if_ne (tgt := 98) dX7_readHave_91 (by decide) (fun c340 => ?_) (fun c340 => ?_)
        · refine g_aload_n dX7_readHave_98 rfl ?_
          refine f_X7_26 rfl rfl dX7_readHave_99 ?_
          refine g_iconst (v := 0) dX7_readHave_102 (by decide) ?_
          refine g_iload_n dX7_readHave_103 rfl ?_
          refine g_iadd dX7_readHave_104 ?_
          refine g_topi (fun x341 ex341 => ?_)
          have v342 : vp_in x341 51 := uk_vin 51 rfl (by first | decide | lia | grind) (by first | decide | lia | grind)
          refine g_iald rfl rfl v342 dX7_readHave_105 ?_
          refine g_topi (fun x343 ex343 => ?_)
          have rx343 : 0 ≤ x341 → x341 ≤ 7 → 0 ≤ x343 ∧ x343 ≤ 40 := fun a b => by rw [ex343]; exact sg_0 hu326 (by unfold uk_is51; decide) a b
          have rrx343 : 43 ≤ x341 → x341 ≤ 50 → 0 ≤ x343 ∧ x343 ≤ 7 := fun a b => by rw [ex343]; exact sg_43 hu326 (by unfold uk_is51; decide) a b
          have v344 : vp_in x338 51 := uk_vin 51 rfl (by first | decide | lia | grind) (by first | decide | lia | grind)
          have b345 := uk_cl v344
          refine g_iast rfl rfl v344 dX7_readHave_106 ?_
          refine g_mem (fun u346 eu346 => ?_)
          have hu346 : iv u346 := by rw [eu346]; exact iv_st hu326 (by unfold uk_is51; decide) (by first | decide | lia | grind) (by first | decide | lia | grind) (fun q => by first | decide | lia | grind) (fun q => by first | decide | lia | grind) (fun q => by first | decide | lia | grind)
          have fu346 : fk [60, 66] [3, 7, 13, 22, 28] u u346 := by rw [eu346]; exact fk_up fu326 (by decide) (fun q => absurd q (by decide))
          have T347 : u346.1 60 7 = t1 := by rw [eu346]; exact (congrFun (uk_up_oc (by decide)) _).trans T329
          have T348 : u346.1 60 14 = t330 := by rw [eu346]; exact (congrFun (uk_up_oc (by decide)) _).trans Tt330
          have T349 : u346.1 60 15 = t331 := by rw [eu346]; exact (congrFun (uk_up_oc (by decide)) _).trans Tt331
          have T350 : u346.1 60 18 = t332 := by rw [eu346]; exact (congrFun (uk_up_oc (by decide)) _).trans Tt332
          have C351 : u346.1 66 = (upd (u.1 66) (x338).toNatClampNeg x343) := by rw [eu346, uk_up_self, C333]
          have C352 : u346.1 67 = u.1 67 := by rw [eu346]; exact (uk_up_oc (by decide)).trans C334
          have C353 : u346.1 68 = u.1 68 := by rw [eu346]; exact (uk_up_oc (by decide)).trans C335
          exact g_vret dX7_readHave_107 rfl ⟨rfl, hu346, fu346, (fun hf => by
    rw [T350] at hf
    have hrd := hrf (by grind)
    unfold rd at hrd ⊢
    rw [show u.1 60 7 = t1 by grind] at hrd
    rw [T347, C351, C352, C353]
    exact rk_up hrd (by grind) (by decide) (by grind)), (by first | rfl | (rw [T350]; grind) | rw [T350]), (by first | rfl | (rw [T350, T349, T348]; grind) | rw [T350, T349, T348])⟩
        · refine g_iload_n dX7_readHave_94 rfl ?_
          refine g_goto (tgt := 106) dX7_readHave_95 (by decide) ?_
          have v354 : vp_in x338 51 := uk_vin 51 rfl (by first | decide | lia | grind) (by first | decide | lia | grind)
          have b355 := uk_cl v354
          refine g_iast rfl rfl v354 dX7_readHave_106 ?_
          refine g_mem (fun u356 eu356 => ?_)
          have hu356 : iv u356 := by rw [eu356]; exact iv_st hu326 (by unfold uk_is51; decide) (by first | decide | lia | grind) (by first | decide | lia | grind) (fun q => by first | decide | lia | grind) (fun q => by first | decide | lia | grind) (fun q => by first | decide | lia | grind)
          have fu356 : fk [60, 66] [3, 7, 13, 22, 28] u u356 := by rw [eu356]; exact fk_up fu326 (by decide) (fun q => absurd q (by decide))
          have T357 : u356.1 60 7 = t1 := by rw [eu356]; exact (congrFun (uk_up_oc (by decide)) _).trans T329
          have T358 : u356.1 60 14 = t330 := by rw [eu356]; exact (congrFun (uk_up_oc (by decide)) _).trans Tt330
          have T359 : u356.1 60 15 = t331 := by rw [eu356]; exact (congrFun (uk_up_oc (by decide)) _).trans Tt331
          have T360 : u356.1 60 18 = t332 := by rw [eu356]; exact (congrFun (uk_up_oc (by decide)) _).trans Tt332
          have C361 : u356.1 66 = (upd (u.1 66) (x338).toNatClampNeg x328) := by rw [eu356, uk_up_self, C333]
          have C362 : u356.1 67 = u.1 67 := by rw [eu356]; exact (uk_up_oc (by decide)).trans C334
          have C363 : u356.1 68 = u.1 68 := by rw [eu356]; exact (uk_up_oc (by decide)).trans C335
          exact g_vret dX7_readHave_107 rfl ⟨rfl, hu356, fu356, (fun hf => by
    rw [T360] at hf
    have hrd := hrf (by grind)
    unfold rd at hrd ⊢
    rw [show u.1 60 7 = t1 by grind] at hrd
    rw [T357, C361, C362, C363]
    exact rk_up hrd (by grind) (by decide) (by grind)), (by first | rfl | (rw [T360]; grind) | rw [T360]), (by first | rfl | (rw [T360, T359, T358]; grind) | rw [T360, T359, T358])⟩
abbrev q_X7_readLine (u : uk_Mem)  (r : Option Value) (u' : uk_Mem) : Prop := (r = none) ∧ (iv u' ∧ fk [60, 66, 67, 68] [3, 13, 22, 28] u u' ∧ rf u' ∧ (u'.1 60 18 = 0 → u.1 60 18 = 0) ∧ (u'.1 60 18 = 0 → u.1 60 15 + 3 ≤ u'.1 60 15))
set_option maxHeartbeats 4000000 in
set_option maxRecDepth 20000 in
theorem c_X7_readLine {G : uk_D} (hs : uk_Sep G) {u : uk_Mem} (hu : iv u) (hrf : rf u)  (d : Nat) : uk_Meth G (d + 4) mX7_readLine [.ref (uk_ad G 60)] u (q_X7_readLine u) := by
  refine uk_Meth.of hs (by decide) (Nat.le_of_ble_eq_true rfl) (fun X => ?_)
  have f0 : fk [60, 66, 67, 68] [3, 13, 22, 28] u u := fk_rf
  obtain ⟨t1, Tt1⟩ : ∃ t, u.1 60 7 = t := ⟨_, rfl⟩
  obtain ⟨t2, Tt2⟩ : ∃ t, u.1 60 14 = t := ⟨_, rfl⟩
  obtain ⟨t3, Tt3⟩ : ∃ t, u.1 60 15 = t := ⟨_, rfl⟩
  obtain ⟨t4, Tt4⟩ : ∃ t, u.1 60 16 = t := ⟨_, rfl⟩
  obtain ⟨t5, Tt5⟩ : ∃ t, u.1 60 18 = t := ⟨_, rfl⟩
  refine g_aload_n dX7_readLine_0 rfl ?_
  refine f_X7_111 rfl rfl dX7_readLine_1 ?_
  refine g_topi (fun x6 ex6 => ?_)
  have qx6 : x6 = t4 := ex6.trans Tt4
  refine g_iconst (v := 1) dX7_readLine_4 (by decide) ?_
  refine g_icmp_ne (tgt := 15) dX7_readLine_5 (by decide) (fun c7 => ?_) (fun c7 => ?_)
  · refine g_bipush (v := (-4)) dX7_readLine_15 (by decide) ?_
    refine g_istore_n dX7_readLine_17 (by decide) ?_
    refine g_aload_n dX7_readLine_18 rfl ?_
    refine g_iload_n dX7_readLine_19 rfl ?_
    refine g_bipush (v := (-4)) dX7_readLine_20 (by decide) ?_
    refine g_icmp_eq (tgt := 29) dX7_readLine_22 (by decide) (fun c8 => ?_) (fun c8 => ?_)
    · refine g_iconst (v := 0) dX7_readLine_29 (by decide) ?_
      refine g_iconst (v := 2) dX7_readLine_30 (by decide) ?_
      refine cl_X7_125 (c := 60) (As := [.int 0, .int 2]) rfl (c_X7_needs (G := G) hs hu  0 2 (by first | trivial | decide | lia | grind) (by first | trivial | decide | lia | grind) (d + 3)) rfl (by omega) rfl rfl (Nat.le_of_ble_eq_true rfl) dX7_readLine_31 (fun r9 u10 q11 => ?_)
      obtain ⟨rfl, mq11⟩ := q11
      obtain ⟨hu10, gu10, ku100⟩ := mq11
      have fu10 : fk [60, 66, 67, 68] [3, 13, 22, 28] u u10 := fk_tr f0 gu10 (by decide) (by decide)
      have rfu10 : rf u10 := rf_mono hrf gu10 (fun q => (ku100 q).1) (by decide) (by decide) (by decide) (by decide)
      have T12 : u10.1 60 7 = t1 := (fk_at gu10 (by decide)).trans Tt1
      have T13 : u10.1 60 14 = t2 := (fk_at gu10 (by decide)).trans Tt2
      have T14 : u10.1 60 15 = t3 := (fk_at gu10 (by decide)).trans Tt3
      have T15 : u10.1 60 16 = t4 := (fk_at gu10 (by decide)).trans Tt4
      obtain ⟨t16, Tt16⟩ : ∃ t, u10.1 60 18 = t := ⟨_, rfl⟩
      have Rt16 : 0 ≤ t16 ∧ t16 ≤ 6 := by rw [← Tt16]; exact iv_at hu10 _ _ rfl
      refine g_aload_n dX7_readLine_34 rfl ?_
      refine g_iload_n dX7_readLine_35 rfl ?_
      refine g_iconst (v := 5) dX7_readLine_36 (by decide) ?_
      refine g_icmp_eq (tgt := 49) dX7_readLine_37 (by decide) (fun c17 => ?_) (fun c17 => ?_)
      · exact absurd c17 (by decide)
      · refine g_aload_n dX7_readLine_40 rfl ?_
        refine f_X7_69 rfl rfl dX7_readLine_41 ?_
        refine g_topi (fun x18 ex18 => ?_)
        have rx18 : 0 ≤ x18 ∧ x18 ≤ 8 := by rw [ex18]; exact iv_at hu10 _ _ rfl
        have qx18 : x18 = t1 := ex18.trans T12
        refine g_bipush (v := 8) dX7_readLine_44 (by decide) ?_
        refine g_icmp_ge (tgt := 53) dX7_readLine_46 (by decide) (fun c19 => ?_) (fun c19 => ?_)
        · refine g_iconst (v := 0) dX7_readLine_53 (by decide) ?_
          refine g_iconst (v := 5) dX7_readLine_54 (by decide) ?_
          refine cl_X7_125 (c := 60) (As := [.int 0, .int 5]) rfl (c_X7_needs (G := G) hs hu10  0 5 (by first | trivial | decide | lia | grind) (by first | trivial | decide | lia | grind) (d + 3)) rfl (by omega) rfl rfl (Nat.le_of_ble_eq_true rfl) dX7_readLine_55 (fun r20 u21 q22 => ?_)
          obtain ⟨rfl, mq22⟩ := q22
          obtain ⟨hu21, gu21, ku210⟩ := mq22
          have fu21 : fk [60, 66, 67, 68] [3, 13, 22, 28] u u21 := fk_tr fu10 gu21 (by decide) (by decide)
          have rfu21 : rf u21 := rf_mono rfu10 gu21 (fun q => (ku210 q).1) (by decide) (by decide) (by decide) (by decide)
          have T23 : u21.1 60 7 = t1 := (fk_at gu21 (by decide)).trans T12
          have T24 : u21.1 60 14 = t2 := (fk_at gu21 (by decide)).trans T13
          have T25 : u21.1 60 15 = t3 := (fk_at gu21 (by decide)).trans T14
          have T26 : u21.1 60 16 = t4 := (fk_at gu21 (by decide)).trans T15
          obtain ⟨t27, Tt27⟩ : ∃ t, u21.1 60 18 = t := ⟨_, rfl⟩
          have Rt27 : 0 ≤ t27 ∧ t27 ≤ 6 := by rw [← Tt27]; exact iv_at hu21 _ _ rfl
          refine g_aload_n dX7_readLine_58 rfl ?_
          refine cl_X7_133 (c := 60) (As := []) rfl (c_X7_next (G := G) hs hu21    (d + 2)) rfl (by omega) rfl rfl (Nat.le_of_ble_eq_true rfl) dX7_readLine_59 (fun r28 u29 q30 => ?_)
          obtain ⟨rfl, mq30⟩ := q30
          obtain ⟨hu29, gu29, ku290, ku291, ku292, ku293⟩ := mq30
          have fu29 : fk [60, 66, 67, 68] [3, 13, 22, 28] u u29 := fk_tr fu21 gu29 (by decide) (by decide)
          have rfu29 : rf u29 := rf_mono rfu21 gu29 ku290 (by decide) (by decide) (by decide) (by decide)
          have T31 : u29.1 60 7 = t1 := (fk_at gu29 (by decide)).trans T23
          obtain ⟨t32, Tt32⟩ : ∃ t, u29.1 60 14 = t := ⟨_, rfl⟩
          have Rt32 : 0 ≤ t32 ∧ t32 ≤ 160 := by rw [← Tt32]; exact iv_at hu29 _ _ rfl
          obtain ⟨t33, Tt33⟩ : ∃ t, u29.1 60 15 = t := ⟨_, rfl⟩
          have Rt33 : 0 ≤ t33 ∧ t33 ≤ 160 := by rw [← Tt33]; exact iv_at hu29 _ _ rfl
          obtain ⟨t34, Tt34⟩ : ∃ t, u29.1 60 16 = t := ⟨_, rfl⟩
          obtain ⟨t35, Tt35⟩ : ∃ t, u29.1 60 18 = t := ⟨_, rfl⟩
          have Rt35 : 0 ≤ t35 ∧ t35 ≤ 6 := by rw [← Tt35]; exact iv_at hu29 _ _ rfl
          refine g_aload_n dX7_readLine_62 rfl ?_
          refine f_X7_91 rfl rfl dX7_readLine_63 ?_
          refine g_topi (fun x36 ex36 => ?_)
          have rx36 : 0 ≤ x36 ∧ x36 ≤ 6 := by rw [ex36]; exact iv_at hu29 _ _ rfl
          have qx36 : x36 = t35 := ex36.trans Tt35
          refine g_if_le (tgt := 70) dX7_readLine_66 (by decide) (fun c37 => ?_) (fun c37 => ?_)
          · refine g_iload_n dX7_readLine_70 rfl ?_
            refine g_iconst (v := 5) dX7_readLine_71 (by decide) ?_
            refine g_icmp_ne (tgt := 82) dX7_readLine_72 (by decide) (fun c38 => ?_) (fun c38 => ?_)
            · refine g_aload_n dX7_readLine_82 rfl ?_
              refine g_iload_n dX7_readLine_83 rfl ?_
              refine cl_X7_146 (c := 60) (As := [.int (-4)]) rfl (c_X7_readStuff (G := G) hs hu29 rfu29  (-4) (by first | trivial | decide | lia | grind) (d)) rfl (by omega) rfl rfl (Nat.le_of_ble_eq_true rfl) dX7_readLine_84 (fun r39 u40 q41 => ?_)
              obtain ⟨rfl, mq41⟩ := q41
              obtain ⟨hu40, gu40, rfu40, ku400, ku401⟩ := mq41
              have fu40 : fk [60, 66, 67, 68] [3, 13, 22, 28] u u40 := fk_tr fu29 gu40 (by decide) (by decide)
              obtain ⟨t42, Tt42⟩ : ∃ t, u40.1 60 7 = t := ⟨_, rfl⟩
              have Rt42 : 0 ≤ t42 ∧ t42 ≤ 8 := by rw [← Tt42]; exact iv_at hu40 _ _ rfl
              obtain ⟨t43, Tt43⟩ : ∃ t, u40.1 60 14 = t := ⟨_, rfl⟩
              have Rt43 : 0 ≤ t43 ∧ t43 ≤ 160 := by rw [← Tt43]; exact iv_at hu40 _ _ rfl
              obtain ⟨t44, Tt44⟩ : ∃ t, u40.1 60 15 = t := ⟨_, rfl⟩
              have Rt44 : 0 ≤ t44 ∧ t44 ≤ 160 := by rw [← Tt44]; exact iv_at hu40 _ _ rfl
              obtain ⟨t45, Tt45⟩ : ∃ t, u40.1 60 16 = t := ⟨_, rfl⟩
              obtain ⟨t46, Tt46⟩ : ∃ t, u40.1 60 18 = t := ⟨_, rfl⟩
              have Rt46 : 0 ≤ t46 ∧ t46 ≤ 6 := by rw [← Tt46]; exact iv_at hu40 _ _ rfl
              refine g_aload_n dX7_readLine_87 rfl ?_
              refine f_X7_91 rfl rfl dX7_readLine_88 ?_
              refine g_topi (fun x47 ex47 => ?_)
              have rx47 : 0 ≤ x47 ∧ x47 ≤ 6 := by rw [ex47]; exact iv_at hu40 _ _ rfl
              have qx47 : x47 = t46 := ex47.trans Tt46
              refine g_if_ne (tgt := 112) dX7_readLine_91 (by decide) (fun c48 => ?_) (fun c48 => ?_)
              · refine g_aload_n dX7_readLine_112 rfl ?_
                refine cl_X7_133 (c := 60) (As := []) rfl (c_X7_next (G := G) hs hu40    (d + 2)) rfl (by omega) rfl rfl (Nat.le_of_ble_eq_true rfl) dX7_readLine_113 (fun r49 u50 q51 => ?_)
                obtain ⟨rfl, mq51⟩ := q51
                obtain ⟨hu50, gu50, ku500, ku501, ku502, ku503⟩ := mq51
                have fu50 : fk [60, 66, 67, 68] [3, 13, 22, 28] u u50 := fk_tr fu40 gu50 (by decide) (by decide)
                have rfu50 : rf u50 := rf_mono rfu40 gu50 ku500 (by decide) (by decide) (by decide) (by decide)
                have T52 : u50.1 60 7 = t42 := (fk_at gu50 (by decide)).trans Tt42
                obtain ⟨t53, Tt53⟩ : ∃ t, u50.1 60 14 = t := ⟨_, rfl⟩
                have Rt53 : 0 ≤ t53 ∧ t53 ≤ 160 := by rw [← Tt53]; exact iv_at hu50 _ _ rfl
                obtain ⟨t54, Tt54⟩ : ∃ t, u50.1 60 15 = t := ⟨_, rfl⟩
                have Rt54 : 0 ≤ t54 ∧ t54 ≤ 160 := by rw [← Tt54]; exact iv_at hu50 _ _ rfl
                obtain ⟨t55, Tt55⟩ : ∃ t, u50.1 60 16 = t := ⟨_, rfl⟩
                obtain ⟨t56, Tt56⟩ : ∃ t, u50.1 60 18 = t := ⟨_, rfl⟩
                have Rt56 : 0 ≤ t56 ∧ t56 ≤ 6 := by rw [← Tt56]; exact iv_at hu50 _ _ rfl
                exact g_vret dX7_readLine_116 rfl ⟨rfl, hu50, fu50, rfu50, (by first | rfl | (rw [Tt56]; grind) | rw [Tt56]), (by first | rfl | (rw [Tt56, Tt54]; grind) | rw [Tt56, Tt54])⟩
              · refine g_aload_n dX7_readLine_94 rfl ?_
                refine g_aload_n dX7_readLine_95 rfl ?_
                refine f_X7_111 rfl rfl dX7_readLine_96 ?_
                refine g_topi (fun x57 ex57 => ?_)
                have qx57 : x57 = t45 := ex57.trans Tt45
                refine g_iconst (v := 3) dX7_readLine_99 (by decide) ?_
                refine g_icmp_ne (tgt := 107) dX7_readLine_100 (by decide) (fun c58 => ?_) (fun c58 => ?_)
                · refine g_iconst (v := 0) dX7_readLine_107 (by decide) ?_
                  refine g_iconst (v := 2) dX7_readLine_108 (by decide) ?_
                  refine cl_X7_125 (c := 60) (As := [.int 0, .int 2]) rfl (c_X7_needs (G := G) hs hu40  0 2 (by first | trivial | decide | lia | grind) (by first | trivial | decide | lia | grind) (d + 3)) rfl (by omega) rfl rfl (Nat.le_of_ble_eq_true rfl) dX7_readLine_109 (fun r59 u60 q61 => ?_)
                  obtain ⟨rfl, mq61⟩ := q61
                  obtain ⟨hu60, gu60, ku600⟩ := mq61
                  have fu60 : fk [60, 66, 67, 68] [3, 13, 22, 28] u u60 := fk_tr fu40 gu60 (by decide) (by decide)
                  have rfu60 : rf u60 := rf_mono rfu40 gu60 (fun q => (ku600 q).1) (by decide) (by decide) (by decide) (by decide)
                  have T62 : u60.1 60 7 = t42 := (fk_at gu60 (by decide)).trans Tt42
                  have T63 : u60.1 60 14 = t43 := (fk_at gu60 (by decide)).trans Tt43
                  have T64 : u60.1 60 15 = t44 := (fk_at gu60 (by decide)).trans Tt44
                  have T65 : u60.1 60 16 = t45 := (fk_at gu60 (by decide)).trans Tt45
                  obtain ⟨t66, Tt66⟩ : ∃ t, u60.1 60 18 = t := ⟨_, rfl⟩
                  have Rt66 : 0 ≤ t66 ∧ t66 ≤ 6 := by rw [← Tt66]; exact iv_at hu60 _ _ rfl
                  refine g_aload_n dX7_readLine_112 rfl ?_
                  refine cl_X7_133 (c := 60) (As := []) rfl (c_X7_next (G := G) hs hu60    (d + 2)) rfl (by omega) rfl rfl (Nat.le_of_ble_eq_true rfl) dX7_readLine_113 (fun r67 u68 q69 => ?_)
                  obtain ⟨rfl, mq69⟩ := q69
                  obtain ⟨hu68, gu68, ku680, ku681, ku682, ku683⟩ := mq69
                  have fu68 : fk [60, 66, 67, 68] [3, 13, 22, 28] u u68 := fk_tr fu60 gu68 (by decide) (by decide)
                  have rfu68 : rf u68 := rf_mono rfu60 gu68 ku680 (by decide) (by decide) (by decide) (by decide)
                  have T70 : u68.1 60 7 = t42 := (fk_at gu68 (by decide)).trans T62
                  obtain ⟨t71, Tt71⟩ : ∃ t, u68.1 60 14 = t := ⟨_, rfl⟩
                  have Rt71 : 0 ≤ t71 ∧ t71 ≤ 160 := by rw [← Tt71]; exact iv_at hu68 _ _ rfl
                  obtain ⟨t72, Tt72⟩ : ∃ t, u68.1 60 15 = t := ⟨_, rfl⟩
                  have Rt72 : 0 ≤ t72 ∧ t72 ≤ 160 := by rw [← Tt72]; exact iv_at hu68 _ _ rfl
                  obtain ⟨t73, Tt73⟩ : ∃ t, u68.1 60 16 = t := ⟨_, rfl⟩
                  obtain ⟨t74, Tt74⟩ : ∃ t, u68.1 60 18 = t := ⟨_, rfl⟩
                  have Rt74 : 0 ≤ t74 ∧ t74 ≤ 6 := by rw [← Tt74]; exact iv_at hu68 _ _ rfl
                  exact g_vret dX7_readLine_116 rfl ⟨rfl, hu68, fu68, rfu68, (by first | rfl | (rw [Tt74]; grind) | rw [Tt74]), (by first | rfl | (rw [Tt74, Tt72]; grind) | rw [Tt74, Tt72])⟩
                · refine g_iconst (v := 1) dX7_readLine_103 (by decide) ?_
                  refine g_goto (tgt := 108) dX7_readLine_104 (by decide) ?_
                  refine g_iconst (v := 2) dX7_readLine_108 (by decide) ?_
                  refine cl_X7_125 (c := 60) (As := [.int 1, .int 2]) rfl (c_X7_needs (G := G) hs hu40  1 2 (by first | trivial | decide | lia | grind) (by first | trivial | decide | lia | grind) (d + 3)) rfl (by omega) rfl rfl (Nat.le_of_ble_eq_true rfl) dX7_readLine_109 (fun r75 u76 q77 => ?_)
                  obtain ⟨rfl, mq77⟩ := q77
                  obtain ⟨hu76, gu76, ku760⟩ := mq77
                  have fu76 : fk [60, 66, 67, 68] [3, 13, 22, 28] u u76 := fk_tr fu40 gu76 (by decide) (by decide)
                  have rfu76 : rf u76 := rf_mono rfu40 gu76 (fun q => (ku760 q).1) (by decide) (by decide) (by decide) (by decide)
                  have T78 : u76.1 60 7 = t42 := (fk_at gu76 (by decide)).trans Tt42
                  have T79 : u76.1 60 14 = t43 := (fk_at gu76 (by decide)).trans Tt43
                  have T80 : u76.1 60 15 = t44 := (fk_at gu76 (by decide)).trans Tt44
                  have T81 : u76.1 60 16 = t45 := (fk_at gu76 (by decide)).trans Tt45
                  obtain ⟨t82, Tt82⟩ : ∃ t, u76.1 60 18 = t := ⟨_, rfl⟩
                  have Rt82 : 0 ≤ t82 ∧ t82 ≤ 6 := by rw [← Tt82]; exact iv_at hu76 _ _ rfl
                  refine g_aload_n dX7_readLine_112 rfl ?_
                  refine cl_X7_133 (c := 60) (As := []) rfl (c_X7_next (G := G) hs hu76    (d + 2)) rfl (by omega) rfl rfl (Nat.le_of_ble_eq_true rfl) dX7_readLine_113 (fun r83 u84 q85 => ?_)
                  obtain ⟨rfl, mq85⟩ := q85
                  obtain ⟨hu84, gu84, ku840, ku841, ku842, ku843⟩ := mq85
                  have fu84 : fk [60, 66, 67, 68] [3, 13, 22, 28] u u84 := fk_tr fu76 gu84 (by decide) (by decide)
                  have rfu84 : rf u84 := rf_mono rfu76 gu84 ku840 (by decide) (by decide) (by decide) (by decide)
                  have T86 : u84.1 60 7 = t42 := (fk_at gu84 (by decide)).trans T78
                  obtain ⟨t87, Tt87⟩ : ∃ t, u84.1 60 14 = t := ⟨_, rfl⟩
                  have Rt87 : 0 ≤ t87 ∧ t87 ≤ 160 := by rw [← Tt87]; exact iv_at hu84 _ _ rfl
                  obtain ⟨t88, Tt88⟩ : ∃ t, u84.1 60 15 = t := ⟨_, rfl⟩
                  have Rt88 : 0 ≤ t88 ∧ t88 ≤ 160 := by rw [← Tt88]; exact iv_at hu84 _ _ rfl
                  obtain ⟨t89, Tt89⟩ : ∃ t, u84.1 60 16 = t := ⟨_, rfl⟩
                  obtain ⟨t90, Tt90⟩ : ∃ t, u84.1 60 18 = t := ⟨_, rfl⟩
                  have Rt90 : 0 ≤ t90 ∧ t90 ≤ 6 := by rw [← Tt90]; exact iv_at hu84 _ _ rfl
                  exact g_vret dX7_readLine_116 rfl ⟨rfl, hu84, fu84, rfu84, (by first | rfl | (rw [Tt90]; grind) | rw [Tt90]), (by first | rfl | (rw [Tt90, Tt88]; grind) | rw [Tt90, Tt88])⟩
            · exact absurd c38 (by decide)
          · exact g_vret dX7_readLine_69 rfl ⟨rfl, hu29, fu29, rfu29, (by first | rfl | (rw [Tt35]; grind) | rw [Tt35]), (by first | rfl | (rw [Tt35, Tt33]; grind) | rw [Tt35, Tt33])⟩
        · refine g_iconst (v := 1) dX7_readLine_49 (by decide) ?_
          refine g_goto (tgt := 54) dX7_readLine_50 (by decide) ?_
          refine g_iconst (v := 5) dX7_readLine_54 (by decide) ?_
          refine cl_X7_125 (c := 60) (As := [.int 1, .int 5]) rfl (c_X7_needs (G := G) hs hu10  1 5 (by first | trivial | decide | lia | grind) (by first | trivial | decide | lia | grind) (d + 3)) rfl (by omega) rfl rfl (Nat.le_of_ble_eq_true rfl) dX7_readLine_55 (fun r91 u92 q93 => ?_)
          obtain ⟨rfl, mq93⟩ := q93
          obtain ⟨hu92, gu92, ku920⟩ := mq93
          have fu92 : fk [60, 66, 67, 68] [3, 13, 22, 28] u u92 := fk_tr fu10 gu92 (by decide) (by decide)
          have rfu92 : rf u92 := rf_mono rfu10 gu92 (fun q => (ku920 q).1) (by decide) (by decide) (by decide) (by decide)
          have T94 : u92.1 60 7 = t1 := (fk_at gu92 (by decide)).trans T12
          have T95 : u92.1 60 14 = t2 := (fk_at gu92 (by decide)).trans T13
          have T96 : u92.1 60 15 = t3 := (fk_at gu92 (by decide)).trans T14
          have T97 : u92.1 60 16 = t4 := (fk_at gu92 (by decide)).trans T15
          obtain ⟨t98, Tt98⟩ : ∃ t, u92.1 60 18 = t := ⟨_, rfl⟩
          have Rt98 : 0 ≤ t98 ∧ t98 ≤ 6 := by rw [← Tt98]; exact iv_at hu92 _ _ rfl
          refine g_aload_n dX7_readLine_58 rfl ?_
          refine cl_X7_133 (c := 60) (As := []) rfl (c_X7_next (G := G) hs hu92    (d + 2)) rfl (by omega) rfl rfl (Nat.le_of_ble_eq_true rfl) dX7_readLine_59 (fun r99 u100 q101 => ?_)
          obtain ⟨rfl, mq101⟩ := q101
          obtain ⟨hu100, gu100, ku1000, ku1001, ku1002, ku1003⟩ := mq101
          have fu100 : fk [60, 66, 67, 68] [3, 13, 22, 28] u u100 := fk_tr fu92 gu100 (by decide) (by decide)
          have rfu100 : rf u100 := rf_mono rfu92 gu100 ku1000 (by decide) (by decide) (by decide) (by decide)
          have T102 : u100.1 60 7 = t1 := (fk_at gu100 (by decide)).trans T94
          obtain ⟨t103, Tt103⟩ : ∃ t, u100.1 60 14 = t := ⟨_, rfl⟩
          have Rt103 : 0 ≤ t103 ∧ t103 ≤ 160 := by rw [← Tt103]; exact iv_at hu100 _ _ rfl
          obtain ⟨t104, Tt104⟩ : ∃ t, u100.1 60 15 = t := ⟨_, rfl⟩
          have Rt104 : 0 ≤ t104 ∧ t104 ≤ 160 := by rw [← Tt104]; exact iv_at hu100 _ _ rfl
          obtain ⟨t105, Tt105⟩ : ∃ t, u100.1 60 16 = t := ⟨_, rfl⟩
          obtain ⟨t106, Tt106⟩ : ∃ t, u100.1 60 18 = t := ⟨_, rfl⟩
          have Rt106 : 0 ≤ t106 ∧ t106 ≤ 6 := by rw [← Tt106]; exact iv_at hu100 _ _ rfl
          refine g_aload_n dX7_readLine_62 rfl ?_
          refine f_X7_91 rfl rfl dX7_readLine_63 ?_
          refine g_topi (fun x107 ex107 => ?_)
          have rx107 : 0 ≤ x107 ∧ x107 ≤ 6 := by rw [ex107]; exact iv_at hu100 _ _ rfl
          have qx107 : x107 = t106 := ex107.trans Tt106
          refine g_if_le (tgt := 70) dX7_readLine_66 (by decide) (fun c108 => ?_) (fun c108 => ?_)
          · refine g_iload_n dX7_readLine_70 rfl ?_
            refine g_iconst (v := 5) dX7_readLine_71 (by decide) ?_
            refine g_icmp_ne (tgt := 82) dX7_readLine_72 (by decide) (fun c109 => ?_) (fun c109 => ?_)
            · refine g_aload_n dX7_readLine_82 rfl ?_
              refine g_iload_n dX7_readLine_83 rfl ?_
              refine cl_X7_146 (c := 60) (As := [.int (-4)]) rfl (c_X7_readStuff (G := G) hs hu100 rfu100  (-4) (by first | trivial | decide | lia | grind) (d)) rfl (by omega) rfl rfl (Nat.le_of_ble_eq_true rfl) dX7_readLine_84 (fun r110 u111 q112 => ?_)
              obtain ⟨rfl, mq112⟩ := q112
              obtain ⟨hu111, gu111, rfu111, ku1110, ku1111⟩ := mq112
              have fu111 : fk [60, 66, 67, 68] [3, 13, 22, 28] u u111 := fk_tr fu100 gu111 (by decide) (by decide)
              obtain ⟨t113, Tt113⟩ : ∃ t, u111.1 60 7 = t := ⟨_, rfl⟩
              have Rt113 : 0 ≤ t113 ∧ t113 ≤ 8 := by rw [← Tt113]; exact iv_at hu111 _ _ rfl
              obtain ⟨t114, Tt114⟩ : ∃ t, u111.1 60 14 = t := ⟨_, rfl⟩
              have Rt114 : 0 ≤ t114 ∧ t114 ≤ 160 := by rw [← Tt114]; exact iv_at hu111 _ _ rfl
              obtain ⟨t115, Tt115⟩ : ∃ t, u111.1 60 15 = t := ⟨_, rfl⟩
              have Rt115 : 0 ≤ t115 ∧ t115 ≤ 160 := by rw [← Tt115]; exact iv_at hu111 _ _ rfl
              obtain ⟨t116, Tt116⟩ : ∃ t, u111.1 60 16 = t := ⟨_, rfl⟩
              obtain ⟨t117, Tt117⟩ : ∃ t, u111.1 60 18 = t := ⟨_, rfl⟩
              have Rt117 : 0 ≤ t117 ∧ t117 ≤ 6 := by rw [← Tt117]; exact iv_at hu111 _ _ rfl
              refine g_aload_n dX7_readLine_87 rfl ?_
              refine f_X7_91 rfl rfl dX7_readLine_88 ?_
              refine g_topi (fun x118 ex118 => ?_)
              have rx118 : 0 ≤ x118 ∧ x118 ≤ 6 := by rw [ex118]; exact iv_at hu111 _ _ rfl
              have qx118 : x118 = t117 := ex118.trans Tt117
              refine g_if_ne (tgt := 112) dX7_readLine_91 (by decide) (fun c119 => ?_) (fun c119 => ?_)
              · refine g_aload_n dX7_readLine_112 rfl ?_
                refine cl_X7_133 (c := 60) (As := []) rfl (c_X7_next (G := G) hs hu111    (d + 2)) rfl (by omega) rfl rfl (Nat.le_of_ble_eq_true rfl) dX7_readLine_113 (fun r120 u121 q122 => ?_)
                obtain ⟨rfl, mq122⟩ := q122
                obtain ⟨hu121, gu121, ku1210, ku1211, ku1212, ku1213⟩ := mq122
                have fu121 : fk [60, 66, 67, 68] [3, 13, 22, 28] u u121 := fk_tr fu111 gu121 (by decide) (by decide)
                have rfu121 : rf u121 := rf_mono rfu111 gu121 ku1210 (by decide) (by decide) (by decide) (by decide)
                have T123 : u121.1 60 7 = t113 := (fk_at gu121 (by decide)).trans Tt113
                obtain ⟨t124, Tt124⟩ : ∃ t, u121.1 60 14 = t := ⟨_, rfl⟩
                have Rt124 : 0 ≤ t124 ∧ t124 ≤ 160 := by rw [← Tt124]; exact iv_at hu121 _ _ rfl
                obtain ⟨t125, Tt125⟩ : ∃ t, u121.1 60 15 = t := ⟨_, rfl⟩
                have Rt125 : 0 ≤ t125 ∧ t125 ≤ 160 := by rw [← Tt125]; exact iv_at hu121 _ _ rfl
                obtain ⟨t126, Tt126⟩ : ∃ t, u121.1 60 16 = t := ⟨_, rfl⟩
                obtain ⟨t127, Tt127⟩ : ∃ t, u121.1 60 18 = t := ⟨_, rfl⟩
                have Rt127 : 0 ≤ t127 ∧ t127 ≤ 6 := by rw [← Tt127]; exact iv_at hu121 _ _ rfl
                exact g_vret dX7_readLine_116 rfl ⟨rfl, hu121, fu121, rfu121, (by first | rfl | (rw [Tt127]; grind) | rw [Tt127]), (by first | rfl | (rw [Tt127, Tt125]; grind) | rw [Tt127, Tt125])⟩
              · refine g_aload_n dX7_readLine_94 rfl ?_
                refine g_aload_n dX7_readLine_95 rfl ?_
                refine f_X7_111 rfl rfl dX7_readLine_96 ?_
                refine g_topi (fun x128 ex128 => ?_)
                have qx128 : x128 = t116 := ex128.trans Tt116
                refine g_iconst (v := 3) dX7_readLine_99 (by decide) ?_
                refine g_icmp_ne (tgt := 107) dX7_readLine_100 (by decide) (fun c129 => ?_) (fun c129 => ?_)
                · refine g_iconst (v := 0) dX7_readLine_107 (by decide) ?_
                  refine g_iconst (v := 2) dX7_readLine_108 (by decide) ?_
                  refine cl_X7_125 (c := 60) (As := [.int 0, .int 2]) rfl (c_X7_needs (G := G) hs hu111  0 2 (by first | trivial | decide | lia | grind) (by first | trivial | decide | lia | grind) (d + 3)) rfl (by omega) rfl rfl (Nat.le_of_ble_eq_true rfl) dX7_readLine_109 (fun r130 u131 q132 => ?_)
                  obtain ⟨rfl, mq132⟩ := q132
                  obtain ⟨hu131, gu131, ku1310⟩ := mq132
                  have fu131 : fk [60, 66, 67, 68] [3, 13, 22, 28] u u131 := fk_tr fu111 gu131 (by decide) (by decide)
                  have rfu131 : rf u131 := rf_mono rfu111 gu131 (fun q => (ku1310 q).1) (by decide) (by decide) (by decide) (by decide)
                  have T133 : u131.1 60 7 = t113 := (fk_at gu131 (by decide)).trans Tt113
                  have T134 : u131.1 60 14 = t114 := (fk_at gu131 (by decide)).trans Tt114
                  have T135 : u131.1 60 15 = t115 := (fk_at gu131 (by decide)).trans Tt115
                  have T136 : u131.1 60 16 = t116 := (fk_at gu131 (by decide)).trans Tt116
                  obtain ⟨t137, Tt137⟩ : ∃ t, u131.1 60 18 = t := ⟨_, rfl⟩
                  have Rt137 : 0 ≤ t137 ∧ t137 ≤ 6 := by rw [← Tt137]; exact iv_at hu131 _ _ rfl
                  refine g_aload_n dX7_readLine_112 rfl ?_
                  refine cl_X7_133 (c := 60) (As := []) rfl (c_X7_next (G := G) hs hu131    (d + 2)) rfl (by omega) rfl rfl (Nat.le_of_ble_eq_true rfl) dX7_readLine_113 (fun r138 u139 q140 => ?_)
                  obtain ⟨rfl, mq140⟩ := q140
                  obtain ⟨hu139, gu139, ku1390, ku1391, ku1392, ku1393⟩ := mq140
                  have fu139 : fk [60, 66, 67, 68] [3, 13, 22, 28] u u139 := fk_tr fu131 gu139 (by decide) (by decide)
                  have rfu139 : rf u139 := rf_mono rfu131 gu139 ku1390 (by decide) (by decide) (by decide) (by decide)
                  have T141 : u139.1 60 7 = t113 := (fk_at gu139 (by decide)).trans T133
                  obtain ⟨t142, Tt142⟩ : ∃ t, u139.1 60 14 = t := ⟨_, rfl⟩
                  have Rt142 : 0 ≤ t142 ∧ t142 ≤ 160 := by rw [← Tt142]; exact iv_at hu139 _ _ rfl
                  obtain ⟨t143, Tt143⟩ : ∃ t, u139.1 60 15 = t := ⟨_, rfl⟩
                  have Rt143 : 0 ≤ t143 ∧ t143 ≤ 160 := by rw [← Tt143]; exact iv_at hu139 _ _ rfl
                  obtain ⟨t144, Tt144⟩ : ∃ t, u139.1 60 16 = t := ⟨_, rfl⟩
                  obtain ⟨t145, Tt145⟩ : ∃ t, u139.1 60 18 = t := ⟨_, rfl⟩
                  have Rt145 : 0 ≤ t145 ∧ t145 ≤ 6 := by rw [← Tt145]; exact iv_at hu139 _ _ rfl
                  exact g_vret dX7_readLine_116 rfl ⟨rfl, hu139, fu139, rfu139, (by first | rfl | (rw [Tt145]; grind) | rw [Tt145]), (by first | rfl | (rw [Tt145, Tt143]; grind) | rw [Tt145, Tt143])⟩
                · refine g_iconst (v := 1) dX7_readLine_103 (by decide) ?_
                  refine g_goto (tgt := 108) dX7_readLine_104 (by decide) ?_
                  refine g_iconst (v := 2) dX7_readLine_108 (by decide) ?_
                  refine cl_X7_125 (c := 60) (As := [.int 1, .int 2]) rfl (c_X7_needs (G := G) hs hu111  1 2 (by first | trivial | decide | lia | grind) (by first | trivial | decide | lia | grind) (d + 3)) rfl (by omega) rfl rfl (Nat.le_of_ble_eq_true rfl) dX7_readLine_109 (fun r146 u147 q148 => ?_)
                  obtain ⟨rfl, mq148⟩ := q148
                  obtain ⟨hu147, gu147, ku1470⟩ := mq148
                  have fu147 : fk [60, 66, 67, 68] [3, 13, 22, 28] u u147 := fk_tr fu111 gu147 (by decide) (by decide)
                  have rfu147 : rf u147 := rf_mono rfu111 gu147 (fun q => (ku1470 q).1) (by decide) (by decide) (by decide) (by decide)
                  have T149 : u147.1 60 7 = t113 := (fk_at gu147 (by decide)).trans Tt113
                  have T150 : u147.1 60 14 = t114 := (fk_at gu147 (by decide)).trans Tt114
                  have T151 : u147.1 60 15 = t115 := (fk_at gu147 (by decide)).trans Tt115
                  have T152 : u147.1 60 16 = t116 := (fk_at gu147 (by decide)).trans Tt116
                  obtain ⟨t153, Tt153⟩ : ∃ t, u147.1 60 18 = t := ⟨_, rfl⟩
                  have Rt153 : 0 ≤ t153 ∧ t153 ≤ 6 := by rw [← Tt153]; exact iv_at hu147 _ _ rfl
                  refine g_aload_n dX7_readLine_112 rfl ?_
                  refine cl_X7_133 (c := 60) (As := []) rfl (c_X7_next (G := G) hs hu147    (d + 2)) rfl (by omega) rfl rfl (Nat.le_of_ble_eq_true rfl) dX7_readLine_113 (fun r154 u155 q156 => ?_)
                  obtain ⟨rfl, mq156⟩ := q156
                  obtain ⟨hu155, gu155, ku1550, ku1551, ku1552, ku1553⟩ := mq156
                  have fu155 : fk [60, 66, 67, 68] [3, 13, 22, 28] u u155 := fk_tr fu147 gu155 (by decide) (by decide)
                  have rfu155 : rf u155 := rf_mono rfu147 gu155 ku1550 (by decide) (by decide) (by decide) (by decide)
                  have T157 : u155.1 60 7 = t113 := (fk_at gu155 (by decide)).trans T149
                  obtain ⟨t158, Tt158⟩ : ∃ t, u155.1 60 14 = t := ⟨_, rfl⟩
                  have Rt158 : 0 ≤ t158 ∧ t158 ≤ 160 := by rw [← Tt158]; exact iv_at hu155 _ _ rfl
                  obtain ⟨t159, Tt159⟩ : ∃ t, u155.1 60 15 = t := ⟨_, rfl⟩
                  have Rt159 : 0 ≤ t159 ∧ t159 ≤ 160 := by rw [← Tt159]; exact iv_at hu155 _ _ rfl
                  obtain ⟨t160, Tt160⟩ : ∃ t, u155.1 60 16 = t := ⟨_, rfl⟩
                  obtain ⟨t161, Tt161⟩ : ∃ t, u155.1 60 18 = t := ⟨_, rfl⟩
                  have Rt161 : 0 ≤ t161 ∧ t161 ≤ 6 := by rw [← Tt161]; exact iv_at hu155 _ _ rfl
                  exact g_vret dX7_readLine_116 rfl ⟨rfl, hu155, fu155, rfu155, (by first | rfl | (rw [Tt161]; grind) | rw [Tt161]), (by first | rfl | (rw [Tt161, Tt159]; grind) | rw [Tt161, Tt159])⟩
            · exact absurd c109 (by decide)
          · exact g_vret dX7_readLine_69 rfl ⟨rfl, hu100, fu100, rfu100, (by first | rfl | (rw [Tt106]; grind) | rw [Tt106]), (by first | rfl | (rw [Tt106, Tt104]; grind) | rw [Tt106, Tt104])⟩
    · exact absurd c8 (by decide)
  · refine g_aload_n dX7_readLine_8 rfl ?_
    refine cl_X7_139 (c := 60) (As := []) rfl (c_X7_lineNow (G := G) hs hu    (d + 1)) rfl (by omega) rfl rfl (Nat.le_of_ble_eq_true rfl) dX7_readLine_9 (fun r162 u163 q164 => ?_)
    obtain ⟨⟨x165, rfl, tx165⟩, mq164⟩ := q164
    rw [mq164]
    refine g_goto (tgt := 17) dX7_readLine_12 (by decide) ?_
    refine g_istore_n dX7_readLine_17 (by decide) ?_
    refine g_aload_n dX7_readLine_18 rfl ?_
    refine g_iload_n dX7_readLine_19 rfl ?_
    refine g_bipush (v := (-4)) dX7_readLine_20 (by decide) ?_
    refine g_icmp_eq (tgt := 29) dX7_readLine_22 (by decide) (fun c166 => ?_) (fun c166 => ?_)
    · refine g_iconst (v := 0) dX7_readLine_29 (by decide) ?_
      refine g_iconst (v := 2) dX7_readLine_30 (by decide) ?_
      refine cl_X7_125 (c := 60) (As := [.int 0, .int 2]) rfl (c_X7_needs (G := G) hs hu  0 2 (by first | trivial | decide | lia | grind) (by first | trivial | decide | lia | grind) (d + 3)) rfl (by omega) rfl rfl (Nat.le_of_ble_eq_true rfl) dX7_readLine_31 (fun r167 u168 q169 => ?_)
      obtain ⟨rfl, mq169⟩ := q169
      obtain ⟨hu168, gu168, ku1680⟩ := mq169
      have fu168 : fk [60, 66, 67, 68] [3, 13, 22, 28] u u168 := fk_tr f0 gu168 (by decide) (by decide)
      have rfu168 : rf u168 := rf_mono hrf gu168 (fun q => (ku1680 q).1) (by decide) (by decide) (by decide) (by decide)
      have T170 : u168.1 60 7 = t1 := (fk_at gu168 (by decide)).trans Tt1
      have T171 : u168.1 60 14 = t2 := (fk_at gu168 (by decide)).trans Tt2
      have T172 : u168.1 60 15 = t3 := (fk_at gu168 (by decide)).trans Tt3
      have T173 : u168.1 60 16 = t4 := (fk_at gu168 (by decide)).trans Tt4
      obtain ⟨t174, Tt174⟩ : ∃ t, u168.1 60 18 = t := ⟨_, rfl⟩
      have Rt174 : 0 ≤ t174 ∧ t174 ≤ 6 := by rw [← Tt174]; exact iv_at hu168 _ _ rfl
      refine g_aload_n dX7_readLine_34 rfl ?_
      refine g_iload_n dX7_readLine_35 rfl ?_
      refine g_iconst (v := 5) dX7_readLine_36 (by decide) ?_
      refine g_icmp_eq (tgt := 49) dX7_readLine_37 (by decide) (fun c175 => ?_) (fun c175 => ?_)
      · refine g_iconst (v := 1) dX7_readLine_49 (by decide) ?_
        refine g_goto (tgt := 54) dX7_readLine_50 (by decide) ?_
        refine g_iconst (v := 5) dX7_readLine_54 (by decide) ?_
        refine cl_X7_125 (c := 60) (As := [.int 1, .int 5]) rfl (c_X7_needs (G := G) hs hu168  1 5 (by first | trivial | decide | lia | grind) (by first | trivial | decide | lia | grind) (d + 3)) rfl (by omega) rfl rfl (Nat.le_of_ble_eq_true rfl) dX7_readLine_55 (fun r176 u177 q178 => ?_)
        obtain ⟨rfl, mq178⟩ := q178
        obtain ⟨hu177, gu177, ku1770⟩ := mq178
        have fu177 : fk [60, 66, 67, 68] [3, 13, 22, 28] u u177 := fk_tr fu168 gu177 (by decide) (by decide)
        have rfu177 : rf u177 := rf_mono rfu168 gu177 (fun q => (ku1770 q).1) (by decide) (by decide) (by decide) (by decide)
        have T179 : u177.1 60 7 = t1 := (fk_at gu177 (by decide)).trans T170
        have T180 : u177.1 60 14 = t2 := (fk_at gu177 (by decide)).trans T171
        have T181 : u177.1 60 15 = t3 := (fk_at gu177 (by decide)).trans T172
        have T182 : u177.1 60 16 = t4 := (fk_at gu177 (by decide)).trans T173
        obtain ⟨t183, Tt183⟩ : ∃ t, u177.1 60 18 = t := ⟨_, rfl⟩
        have Rt183 : 0 ≤ t183 ∧ t183 ≤ 6 := by rw [← Tt183]; exact iv_at hu177 _ _ rfl
        refine g_aload_n dX7_readLine_58 rfl ?_
        refine cl_X7_133 (c := 60) (As := []) rfl (c_X7_next (G := G) hs hu177    (d + 2)) rfl (by omega) rfl rfl (Nat.le_of_ble_eq_true rfl) dX7_readLine_59 (fun r184 u185 q186 => ?_)
        obtain ⟨rfl, mq186⟩ := q186
        obtain ⟨hu185, gu185, ku1850, ku1851, ku1852, ku1853⟩ := mq186
        have fu185 : fk [60, 66, 67, 68] [3, 13, 22, 28] u u185 := fk_tr fu177 gu185 (by decide) (by decide)
        have rfu185 : rf u185 := rf_mono rfu177 gu185 ku1850 (by decide) (by decide) (by decide) (by decide)
        have T187 : u185.1 60 7 = t1 := (fk_at gu185 (by decide)).trans T179
        obtain ⟨t188, Tt188⟩ : ∃ t, u185.1 60 14 = t := ⟨_, rfl⟩
        have Rt188 : 0 ≤ t188 ∧ t188 ≤ 160 := by rw [← Tt188]; exact iv_at hu185 _ _ rfl
        obtain ⟨t189, Tt189⟩ : ∃ t, u185.1 60 15 = t := ⟨_, rfl⟩
        have Rt189 : 0 ≤ t189 ∧ t189 ≤ 160 := by rw [← Tt189]; exact iv_at hu185 _ _ rfl
        obtain ⟨t190, Tt190⟩ : ∃ t, u185.1 60 16 = t := ⟨_, rfl⟩
        obtain ⟨t191, Tt191⟩ : ∃ t, u185.1 60 18 = t := ⟨_, rfl⟩
        have Rt191 : 0 ≤ t191 ∧ t191 ≤ 6 := by rw [← Tt191]; exact iv_at hu185 _ _ rfl
        refine g_aload_n dX7_readLine_62 rfl ?_
        refine f_X7_91 rfl rfl dX7_readLine_63 ?_
        refine g_topi (fun x192 ex192 => ?_)
        have rx192 : 0 ≤ x192 ∧ x192 ≤ 6 := by rw [ex192]; exact iv_at hu185 _ _ rfl
        have qx192 : x192 = t191 := ex192.trans Tt191
        refine g_if_le (tgt := 70) dX7_readLine_66 (by decide) (fun c193 => ?_) (fun c193 => ?_)
        · refine g_iload_n dX7_readLine_70 rfl ?_
          refine g_iconst (v := 5) dX7_readLine_71 (by decide) ?_
          refine g_icmp_ne (tgt := 82) dX7_readLine_72 (by decide) (fun c194 => ?_) (fun c194 => ?_)
          · refine g_aload_n dX7_readLine_82 rfl ?_
            refine g_iload_n dX7_readLine_83 rfl ?_
            refine cl_X7_146 (c := 60) (As := [.int x165]) rfl (c_X7_readStuff (G := G) hs hu185 rfu185  x165 (by first | trivial | decide | lia | grind) (d)) rfl (by omega) rfl rfl (Nat.le_of_ble_eq_true rfl) dX7_readLine_84 (fun r195 u196 q197 => ?_)
            obtain ⟨rfl, mq197⟩ := q197
            obtain ⟨hu196, gu196, rfu196, ku1960, ku1961⟩ := mq197
            have fu196 : fk [60, 66, 67, 68] [3, 13, 22, 28] u u196 := fk_tr fu185 gu196 (by decide) (by decide)
            obtain ⟨t198, Tt198⟩ : ∃ t, u196.1 60 7 = t := ⟨_, rfl⟩
            have Rt198 : 0 ≤ t198 ∧ t198 ≤ 8 := by rw [← Tt198]; exact iv_at hu196 _ _ rfl
            obtain ⟨t199, Tt199⟩ : ∃ t, u196.1 60 14 = t := ⟨_, rfl⟩
            have Rt199 : 0 ≤ t199 ∧ t199 ≤ 160 := by rw [← Tt199]; exact iv_at hu196 _ _ rfl
            obtain ⟨t200, Tt200⟩ : ∃ t, u196.1 60 15 = t := ⟨_, rfl⟩
            have Rt200 : 0 ≤ t200 ∧ t200 ≤ 160 := by rw [← Tt200]; exact iv_at hu196 _ _ rfl
            obtain ⟨t201, Tt201⟩ : ∃ t, u196.1 60 16 = t := ⟨_, rfl⟩
            obtain ⟨t202, Tt202⟩ : ∃ t, u196.1 60 18 = t := ⟨_, rfl⟩
            have Rt202 : 0 ≤ t202 ∧ t202 ≤ 6 := by rw [← Tt202]; exact iv_at hu196 _ _ rfl
            refine g_aload_n dX7_readLine_87 rfl ?_
            refine f_X7_91 rfl rfl dX7_readLine_88 ?_
            refine g_topi (fun x203 ex203 => ?_)
            have rx203 : 0 ≤ x203 ∧ x203 ≤ 6 := by rw [ex203]; exact iv_at hu196 _ _ rfl
            have qx203 : x203 = t202 := ex203.trans Tt202
            refine g_if_ne (tgt := 112) dX7_readLine_91 (by decide) (fun c204 => ?_) (fun c204 => ?_)
            · refine g_aload_n dX7_readLine_112 rfl ?_
              refine cl_X7_133 (c := 60) (As := []) rfl (c_X7_next (G := G) hs hu196    (d + 2)) rfl (by omega) rfl rfl (Nat.le_of_ble_eq_true rfl) dX7_readLine_113 (fun r205 u206 q207 => ?_)
              obtain ⟨rfl, mq207⟩ := q207
              obtain ⟨hu206, gu206, ku2060, ku2061, ku2062, ku2063⟩ := mq207
              have fu206 : fk [60, 66, 67, 68] [3, 13, 22, 28] u u206 := fk_tr fu196 gu206 (by decide) (by decide)
              have rfu206 : rf u206 := rf_mono rfu196 gu206 ku2060 (by decide) (by decide) (by decide) (by decide)
              have T208 : u206.1 60 7 = t198 := (fk_at gu206 (by decide)).trans Tt198
              obtain ⟨t209, Tt209⟩ : ∃ t, u206.1 60 14 = t := ⟨_, rfl⟩
              have Rt209 : 0 ≤ t209 ∧ t209 ≤ 160 := by rw [← Tt209]; exact iv_at hu206 _ _ rfl
              obtain ⟨t210, Tt210⟩ : ∃ t, u206.1 60 15 = t := ⟨_, rfl⟩
              have Rt210 : 0 ≤ t210 ∧ t210 ≤ 160 := by rw [← Tt210]; exact iv_at hu206 _ _ rfl
              obtain ⟨t211, Tt211⟩ : ∃ t, u206.1 60 16 = t := ⟨_, rfl⟩
              obtain ⟨t212, Tt212⟩ : ∃ t, u206.1 60 18 = t := ⟨_, rfl⟩
              have Rt212 : 0 ≤ t212 ∧ t212 ≤ 6 := by rw [← Tt212]; exact iv_at hu206 _ _ rfl
              exact g_vret dX7_readLine_116 rfl ⟨rfl, hu206, fu206, rfu206, (by first | rfl | (rw [Tt212]; grind) | rw [Tt212]), (by first | rfl | (rw [Tt212, Tt210]; grind) | rw [Tt212, Tt210])⟩
            · refine g_aload_n dX7_readLine_94 rfl ?_
              refine g_aload_n dX7_readLine_95 rfl ?_
              refine f_X7_111 rfl rfl dX7_readLine_96 ?_
              refine g_topi (fun x213 ex213 => ?_)
              have qx213 : x213 = t201 := ex213.trans Tt201
              refine g_iconst (v := 3) dX7_readLine_99 (by decide) ?_
              refine g_icmp_ne (tgt := 107) dX7_readLine_100 (by decide) (fun c214 => ?_) (fun c214 => ?_)
              · refine g_iconst (v := 0) dX7_readLine_107 (by decide) ?_
                refine g_iconst (v := 2) dX7_readLine_108 (by decide) ?_
                refine cl_X7_125 (c := 60) (As := [.int 0, .int 2]) rfl (c_X7_needs (G := G) hs hu196  0 2 (by first | trivial | decide | lia | grind) (by first | trivial | decide | lia | grind) (d + 3)) rfl (by omega) rfl rfl (Nat.le_of_ble_eq_true rfl) dX7_readLine_109 (fun r215 u216 q217 => ?_)
                obtain ⟨rfl, mq217⟩ := q217
                obtain ⟨hu216, gu216, ku2160⟩ := mq217
                have fu216 : fk [60, 66, 67, 68] [3, 13, 22, 28] u u216 := fk_tr fu196 gu216 (by decide) (by decide)
                have rfu216 : rf u216 := rf_mono rfu196 gu216 (fun q => (ku2160 q).1) (by decide) (by decide) (by decide) (by decide)
                have T218 : u216.1 60 7 = t198 := (fk_at gu216 (by decide)).trans Tt198
                have T219 : u216.1 60 14 = t199 := (fk_at gu216 (by decide)).trans Tt199
                have T220 : u216.1 60 15 = t200 := (fk_at gu216 (by decide)).trans Tt200
                have T221 : u216.1 60 16 = t201 := (fk_at gu216 (by decide)).trans Tt201
                obtain ⟨t222, Tt222⟩ : ∃ t, u216.1 60 18 = t := ⟨_, rfl⟩
                have Rt222 : 0 ≤ t222 ∧ t222 ≤ 6 := by rw [← Tt222]; exact iv_at hu216 _ _ rfl
                refine g_aload_n dX7_readLine_112 rfl ?_
                refine cl_X7_133 (c := 60) (As := []) rfl (c_X7_next (G := G) hs hu216    (d + 2)) rfl (by omega) rfl rfl (Nat.le_of_ble_eq_true rfl) dX7_readLine_113 (fun r223 u224 q225 => ?_)
                obtain ⟨rfl, mq225⟩ := q225
                obtain ⟨hu224, gu224, ku2240, ku2241, ku2242, ku2243⟩ := mq225
                have fu224 : fk [60, 66, 67, 68] [3, 13, 22, 28] u u224 := fk_tr fu216 gu224 (by decide) (by decide)
                have rfu224 : rf u224 := rf_mono rfu216 gu224 ku2240 (by decide) (by decide) (by decide) (by decide)
                have T226 : u224.1 60 7 = t198 := (fk_at gu224 (by decide)).trans T218
                obtain ⟨t227, Tt227⟩ : ∃ t, u224.1 60 14 = t := ⟨_, rfl⟩
                have Rt227 : 0 ≤ t227 ∧ t227 ≤ 160 := by rw [← Tt227]; exact iv_at hu224 _ _ rfl
                obtain ⟨t228, Tt228⟩ : ∃ t, u224.1 60 15 = t := ⟨_, rfl⟩
                have Rt228 : 0 ≤ t228 ∧ t228 ≤ 160 := by rw [← Tt228]; exact iv_at hu224 _ _ rfl
                obtain ⟨t229, Tt229⟩ : ∃ t, u224.1 60 16 = t := ⟨_, rfl⟩
                obtain ⟨t230, Tt230⟩ : ∃ t, u224.1 60 18 = t := ⟨_, rfl⟩
                have Rt230 : 0 ≤ t230 ∧ t230 ≤ 6 := by rw [← Tt230]; exact iv_at hu224 _ _ rfl
                exact g_vret dX7_readLine_116 rfl ⟨rfl, hu224, fu224, rfu224, (by first | rfl | (rw [Tt230]; grind) | rw [Tt230]), (by first | rfl | (rw [Tt230, Tt228]; grind) | rw [Tt230, Tt228])⟩
              · refine g_iconst (v := 1) dX7_readLine_103 (by decide) ?_
                refine g_goto (tgt := 108) dX7_readLine_104 (by decide) ?_
                refine g_iconst (v := 2) dX7_readLine_108 (by decide) ?_
                refine cl_X7_125 (c := 60) (As := [.int 1, .int 2]) rfl (c_X7_needs (G := G) hs hu196  1 2 (by first | trivial | decide | lia | grind) (by first | trivial | decide | lia | grind) (d + 3)) rfl (by omega) rfl rfl (Nat.le_of_ble_eq_true rfl) dX7_readLine_109 (fun r231 u232 q233 => ?_)
                obtain ⟨rfl, mq233⟩ := q233
                obtain ⟨hu232, gu232, ku2320⟩ := mq233
                have fu232 : fk [60, 66, 67, 68] [3, 13, 22, 28] u u232 := fk_tr fu196 gu232 (by decide) (by decide)
                have rfu232 : rf u232 := rf_mono rfu196 gu232 (fun q => (ku2320 q).1) (by decide) (by decide) (by decide) (by decide)
                have T234 : u232.1 60 7 = t198 := (fk_at gu232 (by decide)).trans Tt198
                have T235 : u232.1 60 14 = t199 := (fk_at gu232 (by decide)).trans Tt199
                have T236 : u232.1 60 15 = t200 := (fk_at gu232 (by decide)).trans Tt200
                have T237 : u232.1 60 16 = t201 := (fk_at gu232 (by decide)).trans Tt201
                obtain ⟨t238, Tt238⟩ : ∃ t, u232.1 60 18 = t := ⟨_, rfl⟩
                have Rt238 : 0 ≤ t238 ∧ t238 ≤ 6 := by rw [← Tt238]; exact iv_at hu232 _ _ rfl
                refine g_aload_n dX7_readLine_112 rfl ?_
                refine cl_X7_133 (c := 60) (As := []) rfl (c_X7_next (G := G) hs hu232    (d + 2)) rfl (by omega) rfl rfl (Nat.le_of_ble_eq_true rfl) dX7_readLine_113 (fun r239 u240 q241 => ?_)
                obtain ⟨rfl, mq241⟩ := q241
                obtain ⟨hu240, gu240, ku2400, ku2401, ku2402, ku2403⟩ := mq241
                have fu240 : fk [60, 66, 67, 68] [3, 13, 22, 28] u u240 := fk_tr fu232 gu240 (by decide) (by decide)
                have rfu240 : rf u240 := rf_mono rfu232 gu240 ku2400 (by decide) (by decide) (by decide) (by decide)
                have T242 : u240.1 60 7 = t198 := (fk_at gu240 (by decide)).trans T234
                obtain ⟨t243, Tt243⟩ : ∃ t, u240.1 60 14 = t := ⟨_, rfl⟩
                have Rt243 : 0 ≤ t243 ∧ t243 ≤ 160 := by rw [← Tt243]; exact iv_at hu240 _ _ rfl
                obtain ⟨t244, Tt244⟩ : ∃ t, u240.1 60 15 = t := ⟨_, rfl⟩
                have Rt244 : 0 ≤ t244 ∧ t244 ≤ 160 := by rw [← Tt244]; exact iv_at hu240 _ _ rfl
                obtain ⟨t245, Tt245⟩ : ∃ t, u240.1 60 16 = t := ⟨_, rfl⟩
                obtain ⟨t246, Tt246⟩ : ∃ t, u240.1 60 18 = t := ⟨_, rfl⟩
                have Rt246 : 0 ≤ t246 ∧ t246 ≤ 6 := by rw [← Tt246]; exact iv_at hu240 _ _ rfl
                exact g_vret dX7_readLine_116 rfl ⟨rfl, hu240, fu240, rfu240, (by first | rfl | (rw [Tt246]; grind) | rw [Tt246]), (by first | rfl | (rw [Tt246, Tt244]; grind) | rw [Tt246, Tt244])⟩
          · refine g_aload_n dX7_readLine_75 rfl ?_
            refine cl_X7_143 (c := 60) (As := []) rfl (c_X7_readHave (G := G) hs hu185 rfu185    (d)) rfl (by omega) rfl rfl (Nat.le_of_ble_eq_true rfl) dX7_readLine_76 (fun r247 u248 q249 => ?_)
            obtain ⟨rfl, mq249⟩ := q249
            obtain ⟨hu248, gu248, rfu248, ku2480, ku2481⟩ := mq249
            have fu248 : fk [60, 66, 67, 68] [3, 13, 22, 28] u u248 := fk_tr fu185 gu248 (by decide) (by decide)
            have T250 : u248.1 60 7 = t1 := (fk_at gu248 (by decide)).trans T187
            obtain ⟨t251, Tt251⟩ : ∃ t, u248.1 60 14 = t := ⟨_, rfl⟩
            have Rt251 : 0 ≤ t251 ∧ t251 ≤ 160 := by rw [← Tt251]; exact iv_at hu248 _ _ rfl
            obtain ⟨t252, Tt252⟩ : ∃ t, u248.1 60 15 = t := ⟨_, rfl⟩
            have Rt252 : 0 ≤ t252 ∧ t252 ≤ 160 := by rw [← Tt252]; exact iv_at hu248 _ _ rfl
            obtain ⟨t253, Tt253⟩ : ∃ t, u248.1 60 16 = t := ⟨_, rfl⟩
            obtain ⟨t254, Tt254⟩ : ∃ t, u248.1 60 18 = t := ⟨_, rfl⟩
            have Rt254 : 0 ≤ t254 ∧ t254 ≤ 6 := by rw [← Tt254]; exact iv_at hu248 _ _ rfl
            refine g_goto (tgt := 87) dX7_readLine_79 (by decide) ?_
            refine g_aload_n dX7_readLine_87 rfl ?_
            refine f_X7_91 rfl rfl dX7_readLine_88 ?_
            refine g_topi (fun x255 ex255 => ?_)
            have rx255 : 0 ≤ x255 ∧ x255 ≤ 6 := by rw [ex255]; exact iv_at hu248 _ _ rfl
            have qx255 : x255 = t254 := ex255.trans Tt254
            refine g_if_ne (tgt := 112) dX7_readLine_91 (by decide) (fun c256 => ?_) (fun c256 => ?_)
            · refine g_aload_n dX7_readLine_112 rfl ?_
              refine cl_X7_133 (c := 60) (As := []) rfl (c_X7_next (G := G) hs hu248    (d + 2)) rfl (by omega) rfl rfl (Nat.le_of_ble_eq_true rfl) dX7_readLine_113 (fun r257 u258 q259 => ?_)
              obtain ⟨rfl, mq259⟩ := q259
              obtain ⟨hu258, gu258, ku2580, ku2581, ku2582, ku2583⟩ := mq259
              have fu258 : fk [60, 66, 67, 68] [3, 13, 22, 28] u u258 := fk_tr fu248 gu258 (by decide) (by decide)
              have rfu258 : rf u258 := rf_mono rfu248 gu258 ku2580 (by decide) (by decide) (by decide) (by decide)
              have T260 : u258.1 60 7 = t1 := (fk_at gu258 (by decide)).trans T250
              obtain ⟨t261, Tt261⟩ : ∃ t, u258.1 60 14 = t := ⟨_, rfl⟩
              have Rt261 : 0 ≤ t261 ∧ t261 ≤ 160 := by rw [← Tt261]; exact iv_at hu258 _ _ rfl
              obtain ⟨t262, Tt262⟩ : ∃ t, u258.1 60 15 = t := ⟨_, rfl⟩
              have Rt262 : 0 ≤ t262 ∧ t262 ≤ 160 := by rw [← Tt262]; exact iv_at hu258 _ _ rfl
              obtain ⟨t263, Tt263⟩ : ∃ t, u258.1 60 16 = t := ⟨_, rfl⟩
              obtain ⟨t264, Tt264⟩ : ∃ t, u258.1 60 18 = t := ⟨_, rfl⟩
              have Rt264 : 0 ≤ t264 ∧ t264 ≤ 6 := by rw [← Tt264]; exact iv_at hu258 _ _ rfl
              exact g_vret dX7_readLine_116 rfl ⟨rfl, hu258, fu258, rfu258, (by first | rfl | (rw [Tt264]; grind) | rw [Tt264]), (by first | rfl | (rw [Tt264, Tt262]; grind) | rw [Tt264, Tt262])⟩
            · refine g_aload_n dX7_readLine_94 rfl ?_
              refine g_aload_n dX7_readLine_95 rfl ?_
              refine f_X7_111 rfl rfl dX7_readLine_96 ?_
              refine g_topi (fun x265 ex265 => ?_)
              have qx265 : x265 = t253 := ex265.trans Tt253
              refine g_iconst (v := 3) dX7_readLine_99 (by decide) ?_
              refine g_icmp_ne (tgt := 107) dX7_readLine_100 (by decide) (fun c266 => ?_) (fun c266 => ?_)
              · refine g_iconst (v := 0) dX7_readLine_107 (by decide) ?_
                refine g_iconst (v := 2) dX7_readLine_108 (by decide) ?_
                refine cl_X7_125 (c := 60) (As := [.int 0, .int 2]) rfl (c_X7_needs (G := G) hs hu248  0 2 (by first | trivial | decide | lia | grind) (by first | trivial | decide | lia | grind) (d + 3)) rfl (by omega) rfl rfl (Nat.le_of_ble_eq_true rfl) dX7_readLine_109 (fun r267 u268 q269 => ?_)
                obtain ⟨rfl, mq269⟩ := q269
                obtain ⟨hu268, gu268, ku2680⟩ := mq269
                have fu268 : fk [60, 66, 67, 68] [3, 13, 22, 28] u u268 := fk_tr fu248 gu268 (by decide) (by decide)
                have rfu268 : rf u268 := rf_mono rfu248 gu268 (fun q => (ku2680 q).1) (by decide) (by decide) (by decide) (by decide)
                have T270 : u268.1 60 7 = t1 := (fk_at gu268 (by decide)).trans T250
                have T271 : u268.1 60 14 = t251 := (fk_at gu268 (by decide)).trans Tt251
                have T272 : u268.1 60 15 = t252 := (fk_at gu268 (by decide)).trans Tt252
                have T273 : u268.1 60 16 = t253 := (fk_at gu268 (by decide)).trans Tt253
                obtain ⟨t274, Tt274⟩ : ∃ t, u268.1 60 18 = t := ⟨_, rfl⟩
                have Rt274 : 0 ≤ t274 ∧ t274 ≤ 6 := by rw [← Tt274]; exact iv_at hu268 _ _ rfl
                refine g_aload_n dX7_readLine_112 rfl ?_
                refine cl_X7_133 (c := 60) (As := []) rfl (c_X7_next (G := G) hs hu268    (d + 2)) rfl (by omega) rfl rfl (Nat.le_of_ble_eq_true rfl) dX7_readLine_113 (fun r275 u276 q277 => ?_)
                obtain ⟨rfl, mq277⟩ := q277
                obtain ⟨hu276, gu276, ku2760, ku2761, ku2762, ku2763⟩ := mq277
                have fu276 : fk [60, 66, 67, 68] [3, 13, 22, 28] u u276 := fk_tr fu268 gu276 (by decide) (by decide)
                have rfu276 : rf u276 := rf_mono rfu268 gu276 ku2760 (by decide) (by decide) (by decide) (by decide)
                have T278 : u276.1 60 7 = t1 := (fk_at gu276 (by decide)).trans T270
                obtain ⟨t279, Tt279⟩ : ∃ t, u276.1 60 14 = t := ⟨_, rfl⟩
                have Rt279 : 0 ≤ t279 ∧ t279 ≤ 160 := by rw [← Tt279]; exact iv_at hu276 _ _ rfl
                obtain ⟨t280, Tt280⟩ : ∃ t, u276.1 60 15 = t := ⟨_, rfl⟩
                have Rt280 : 0 ≤ t280 ∧ t280 ≤ 160 := by rw [← Tt280]; exact iv_at hu276 _ _ rfl
                obtain ⟨t281, Tt281⟩ : ∃ t, u276.1 60 16 = t := ⟨_, rfl⟩
                obtain ⟨t282, Tt282⟩ : ∃ t, u276.1 60 18 = t := ⟨_, rfl⟩
                have Rt282 : 0 ≤ t282 ∧ t282 ≤ 6 := by rw [← Tt282]; exact iv_at hu276 _ _ rfl
                exact g_vret dX7_readLine_116 rfl ⟨rfl, hu276, fu276, rfu276, (by first | rfl | (rw [Tt282]; grind) | rw [Tt282]), (by first | rfl | (rw [Tt282, Tt280]; grind) | rw [Tt282, Tt280])⟩
              · refine g_iconst (v := 1) dX7_readLine_103 (by decide) ?_
                refine g_goto (tgt := 108) dX7_readLine_104 (by decide) ?_
                refine g_iconst (v := 2) dX7_readLine_108 (by decide) ?_
                refine cl_X7_125 (c := 60) (As := [.int 1, .int 2]) rfl (c_X7_needs (G := G) hs hu248  1 2 (by first | trivial | decide | lia | grind) (by first | trivial | decide | lia | grind) (d + 3)) rfl (by omega) rfl rfl (Nat.le_of_ble_eq_true rfl) dX7_readLine_109 (fun r283 u284 q285 => ?_)
                obtain ⟨rfl, mq285⟩ := q285
                obtain ⟨hu284, gu284, ku2840⟩ := mq285
                have fu284 : fk [60, 66, 67, 68] [3, 13, 22, 28] u u284 := fk_tr fu248 gu284 (by decide) (by decide)
                have rfu284 : rf u284 := rf_mono rfu248 gu284 (fun q => (ku2840 q).1) (by decide) (by decide) (by decide) (by decide)
                have T286 : u284.1 60 7 = t1 := (fk_at gu284 (by decide)).trans T250
                have T287 : u284.1 60 14 = t251 := (fk_at gu284 (by decide)).trans Tt251
                have T288 : u284.1 60 15 = t252 := (fk_at gu284 (by decide)).trans Tt252
                have T289 : u284.1 60 16 = t253 := (fk_at gu284 (by decide)).trans Tt253
                obtain ⟨t290, Tt290⟩ : ∃ t, u284.1 60 18 = t := ⟨_, rfl⟩
                have Rt290 : 0 ≤ t290 ∧ t290 ≤ 6 := by rw [← Tt290]; exact iv_at hu284 _ _ rfl
                refine g_aload_n dX7_readLine_112 rfl ?_
                refine cl_X7_133 (c := 60) (As := []) rfl (c_X7_next (G := G) hs hu284    (d + 2)) rfl (by omega) rfl rfl (Nat.le_of_ble_eq_true rfl) dX7_readLine_113 (fun r291 u292 q293 => ?_)
                obtain ⟨rfl, mq293⟩ := q293
                obtain ⟨hu292, gu292, ku2920, ku2921, ku2922, ku2923⟩ := mq293
                have fu292 : fk [60, 66, 67, 68] [3, 13, 22, 28] u u292 := fk_tr fu284 gu292 (by decide) (by decide)
                have rfu292 : rf u292 := rf_mono rfu284 gu292 ku2920 (by decide) (by decide) (by decide) (by decide)
                have T294 : u292.1 60 7 = t1 := (fk_at gu292 (by decide)).trans T286
                obtain ⟨t295, Tt295⟩ : ∃ t, u292.1 60 14 = t := ⟨_, rfl⟩
                have Rt295 : 0 ≤ t295 ∧ t295 ≤ 160 := by rw [← Tt295]; exact iv_at hu292 _ _ rfl
                obtain ⟨t296, Tt296⟩ : ∃ t, u292.1 60 15 = t := ⟨_, rfl⟩
                have Rt296 : 0 ≤ t296 ∧ t296 ≤ 160 := by rw [← Tt296]; exact iv_at hu292 _ _ rfl
                obtain ⟨t297, Tt297⟩ : ∃ t, u292.1 60 16 = t := ⟨_, rfl⟩
                obtain ⟨t298, Tt298⟩ : ∃ t, u292.1 60 18 = t := ⟨_, rfl⟩
                have Rt298 : 0 ≤ t298 ∧ t298 ≤ 6 := by rw [← Tt298]; exact iv_at hu292 _ _ rfl
                exact g_vret dX7_readLine_116 rfl ⟨rfl, hu292, fu292, rfu292, (by first | rfl | (rw [Tt298]; grind) | rw [Tt298]), (by first | rfl | (rw [Tt298, Tt296]; grind) | rw [Tt298, Tt296])⟩
        · exact g_vret dX7_readLine_69 rfl ⟨rfl, hu185, fu185, rfu185, (by first | rfl | (rw [Tt191]; grind) | rw [Tt191]), (by first | rfl | (rw [Tt191, Tt189]; grind) | rw [Tt191, Tt189])⟩
      · refine g_aload_n dX7_readLine_40 rfl ?_
        refine f_X7_69 rfl rfl dX7_readLine_41 ?_
        refine g_topi (fun x299 ex299 => ?_)
        have rx299 : 0 ≤ x299 ∧ x299 ≤ 8 := by rw [ex299]; exact iv_at hu168 _ _ rfl
        have qx299 : x299 = t1 := ex299.trans T170
        refine g_bipush (v := 8) dX7_readLine_44 (by decide) ?_
        refine g_icmp_ge (tgt := 53) dX7_readLine_46 (by decide) (fun c300 => ?_) (fun c300 => ?_)
        · refine g_iconst (v := 0) dX7_readLine_53 (by decide) ?_
          refine g_iconst (v := 5) dX7_readLine_54 (by decide) ?_
          refine cl_X7_125 (c := 60) (As := [.int 0, .int 5]) rfl (c_X7_needs (G := G) hs hu168  0 5 (by first | trivial | decide | lia | grind) (by first | trivial | decide | lia | grind) (d + 3)) rfl (by omega) rfl rfl (Nat.le_of_ble_eq_true rfl) dX7_readLine_55 (fun r301 u302 q303 => ?_)
          obtain ⟨rfl, mq303⟩ := q303
          obtain ⟨hu302, gu302, ku3020⟩ := mq303
          have fu302 : fk [60, 66, 67, 68] [3, 13, 22, 28] u u302 := fk_tr fu168 gu302 (by decide) (by decide)
          have rfu302 : rf u302 := rf_mono rfu168 gu302 (fun q => (ku3020 q).1) (by decide) (by decide) (by decide) (by decide)
          have T304 : u302.1 60 7 = t1 := (fk_at gu302 (by decide)).trans T170
          have T305 : u302.1 60 14 = t2 := (fk_at gu302 (by decide)).trans T171
          have T306 : u302.1 60 15 = t3 := (fk_at gu302 (by decide)).trans T172
          have T307 : u302.1 60 16 = t4 := (fk_at gu302 (by decide)).trans T173
          obtain ⟨t308, Tt308⟩ : ∃ t, u302.1 60 18 = t := ⟨_, rfl⟩
          have Rt308 : 0 ≤ t308 ∧ t308 ≤ 6 := by rw [← Tt308]; exact iv_at hu302 _ _ rfl
          refine g_aload_n dX7_readLine_58 rfl ?_
          refine cl_X7_133 (c := 60) (As := []) rfl (c_X7_next (G := G) hs hu302    (d + 2)) rfl (by omega) rfl rfl (Nat.le_of_ble_eq_true rfl) dX7_readLine_59 (fun r309 u310 q311 => ?_)
          obtain ⟨rfl, mq311⟩ := q311
          obtain ⟨hu310, gu310, ku3100, ku3101, ku3102, ku3103⟩ := mq311
          have fu310 : fk [60, 66, 67, 68] [3, 13, 22, 28] u u310 := fk_tr fu302 gu310 (by decide) (by decide)
          have rfu310 : rf u310 := rf_mono rfu302 gu310 ku3100 (by decide) (by decide) (by decide) (by decide)
          have T312 : u310.1 60 7 = t1 := (fk_at gu310 (by decide)).trans T304
          obtain ⟨t313, Tt313⟩ : ∃ t, u310.1 60 14 = t := ⟨_, rfl⟩
          have Rt313 : 0 ≤ t313 ∧ t313 ≤ 160 := by rw [← Tt313]; exact iv_at hu310 _ _ rfl
          obtain ⟨t314, Tt314⟩ : ∃ t, u310.1 60 15 = t := ⟨_, rfl⟩
          have Rt314 : 0 ≤ t314 ∧ t314 ≤ 160 := by rw [← Tt314]; exact iv_at hu310 _ _ rfl
          obtain ⟨t315, Tt315⟩ : ∃ t, u310.1 60 16 = t := ⟨_, rfl⟩
          obtain ⟨t316, Tt316⟩ : ∃ t, u310.1 60 18 = t := ⟨_, rfl⟩
          have Rt316 : 0 ≤ t316 ∧ t316 ≤ 6 := by rw [← Tt316]; exact iv_at hu310 _ _ rfl
          refine g_aload_n dX7_readLine_62 rfl ?_
          refine f_X7_91 rfl rfl dX7_readLine_63 ?_
          refine g_topi (fun x317 ex317 => ?_)
          have rx317 : 0 ≤ x317 ∧ x317 ≤ 6 := by rw [ex317]; exact iv_at hu310 _ _ rfl
          have qx317 : x317 = t316 := ex317.trans Tt316
          refine g_if_le (tgt := 70) dX7_readLine_66 (by decide) (fun c318 => ?_) (fun c318 => ?_)
          · refine g_iload_n dX7_readLine_70 rfl ?_
            refine g_iconst (v := 5) dX7_readLine_71 (by decide) ?_
            refine g_icmp_ne (tgt := 82) dX7_readLine_72 (by decide) (fun c319 => ?_) (fun c319 => ?_)
            · refine g_aload_n dX7_readLine_82 rfl ?_
              refine g_iload_n dX7_readLine_83 rfl ?_
              refine cl_X7_146 (c := 60) (As := [.int x165]) rfl (c_X7_readStuff (G := G) hs hu310 rfu310  x165 (by first | trivial | decide | lia | grind) (d)) rfl (by omega) rfl rfl (Nat.le_of_ble_eq_true rfl) dX7_readLine_84 (fun r320 u321 q322 => ?_)
              obtain ⟨rfl, mq322⟩ := q322
              obtain ⟨hu321, gu321, rfu321, ku3210, ku3211⟩ := mq322
              have fu321 : fk [60, 66, 67, 68] [3, 13, 22, 28] u u321 := fk_tr fu310 gu321 (by decide) (by decide)
              obtain ⟨t323, Tt323⟩ : ∃ t, u321.1 60 7 = t := ⟨_, rfl⟩
              have Rt323 : 0 ≤ t323 ∧ t323 ≤ 8 := by rw [← Tt323]; exact iv_at hu321 _ _ rfl
              obtain ⟨t324, Tt324⟩ : ∃ t, u321.1 60 14 = t := ⟨_, rfl⟩
              have Rt324 : 0 ≤ t324 ∧ t324 ≤ 160 := by rw [← Tt324]; exact iv_at hu321 _ _ rfl
              obtain ⟨t325, Tt325⟩ : ∃ t, u321.1 60 15 = t := ⟨_, rfl⟩
              have Rt325 : 0 ≤ t325 ∧ t325 ≤ 160 := by rw [← Tt325]; exact iv_at hu321 _ _ rfl
              obtain ⟨t326, Tt326⟩ : ∃ t, u321.1 60 16 = t := ⟨_, rfl⟩
              obtain ⟨t327, Tt327⟩ : ∃ t, u321.1 60 18 = t := ⟨_, rfl⟩
              have Rt327 : 0 ≤ t327 ∧ t327 ≤ 6 := by rw [← Tt327]; exact iv_at hu321 _ _ rfl
              refine g_aload_n dX7_readLine_87 rfl ?_
              refine f_X7_91 rfl rfl dX7_readLine_88 ?_
              refine g_topi (fun x328 ex328 => ?_)
              have rx328 : 0 ≤ x328 ∧ x328 ≤ 6 := by rw [ex328]; exact iv_at hu321 _ _ rfl
              have qx328 : x328 = t327 := ex328.trans Tt327
              refine g_if_ne (tgt := 112) dX7_readLine_91 (by decide) (fun c329 => ?_) (fun c329 => ?_)
              · refine g_aload_n dX7_readLine_112 rfl ?_
                refine cl_X7_133 (c := 60) (As := []) rfl (c_X7_next (G := G) hs hu321    (d + 2)) rfl (by omega) rfl rfl (Nat.le_of_ble_eq_true rfl) dX7_readLine_113 (fun r330 u331 q332 => ?_)
                obtain ⟨rfl, mq332⟩ := q332
                obtain ⟨hu331, gu331, ku3310, ku3311, ku3312, ku3313⟩ := mq332
                have fu331 : fk [60, 66, 67, 68] [3, 13, 22, 28] u u331 := fk_tr fu321 gu331 (by decide) (by decide)
                have rfu331 : rf u331 := rf_mono rfu321 gu331 ku3310 (by decide) (by decide) (by decide) (by decide)
                have T333 : u331.1 60 7 = t323 := (fk_at gu331 (by decide)).trans Tt323
                obtain ⟨t334, Tt334⟩ : ∃ t, u331.1 60 14 = t := ⟨_, rfl⟩
                have Rt334 : 0 ≤ t334 ∧ t334 ≤ 160 := by rw [← Tt334]; exact iv_at hu331 _ _ rfl
                obtain ⟨t335, Tt335⟩ : ∃ t, u331.1 60 15 = t := ⟨_, rfl⟩
                have Rt335 : 0 ≤ t335 ∧ t335 ≤ 160 := by rw [← Tt335]; exact iv_at hu331 _ _ rfl
                obtain ⟨t336, Tt336⟩ : ∃ t, u331.1 60 16 = t := ⟨_, rfl⟩
                obtain ⟨t337, Tt337⟩ : ∃ t, u331.1 60 18 = t := ⟨_, rfl⟩
                have Rt337 : 0 ≤ t337 ∧ t337 ≤ 6 := by rw [← Tt337]; exact iv_at hu331 _ _ rfl
                exact g_vret dX7_readLine_116 rfl ⟨rfl, hu331, fu331, rfu331, (by first | rfl | (rw [Tt337]; grind) | rw [Tt337]), (by first | rfl | (rw [Tt337, Tt335]; grind) | rw [Tt337, Tt335])⟩
              · refine g_aload_n dX7_readLine_94 rfl ?_
                refine g_aload_n dX7_readLine_95 rfl ?_
                refine f_X7_111 rfl rfl dX7_readLine_96 ?_
                refine g_topi (fun x338 ex338 => ?_)
                have qx338 : x338 = t326 := ex338.trans Tt326
                refine g_iconst (v := 3) dX7_readLine_99 (by decide) ?_
                refine g_icmp_ne (tgt := 107) dX7_readLine_100 (by decide) (fun c339 => ?_) (fun c339 => ?_)
                · refine g_iconst (v := 0) dX7_readLine_107 (by decide) ?_
                  refine g_iconst (v := 2) dX7_readLine_108 (by decide) ?_
                  refine cl_X7_125 (c := 60) (As := [.int 0, .int 2]) rfl (c_X7_needs (G := G) hs hu321  0 2 (by first | trivial | decide | lia | grind) (by first | trivial | decide | lia | grind) (d + 3)) rfl (by omega) rfl rfl (Nat.le_of_ble_eq_true rfl) dX7_readLine_109 (fun r340 u341 q342 => ?_)
                  obtain ⟨rfl, mq342⟩ := q342
                  obtain ⟨hu341, gu341, ku3410⟩ := mq342
                  have fu341 : fk [60, 66, 67, 68] [3, 13, 22, 28] u u341 := fk_tr fu321 gu341 (by decide) (by decide)
                  have rfu341 : rf u341 := rf_mono rfu321 gu341 (fun q => (ku3410 q).1) (by decide) (by decide) (by decide) (by decide)
                  have T343 : u341.1 60 7 = t323 := (fk_at gu341 (by decide)).trans Tt323
                  have T344 : u341.1 60 14 = t324 := (fk_at gu341 (by decide)).trans Tt324
                  have T345 : u341.1 60 15 = t325 := (fk_at gu341 (by decide)).trans Tt325
                  have T346 : u341.1 60 16 = t326 := (fk_at gu341 (by decide)).trans Tt326
                  obtain ⟨t347, Tt347⟩ : ∃ t, u341.1 60 18 = t := ⟨_, rfl⟩
                  have Rt347 : 0 ≤ t347 ∧ t347 ≤ 6 := by rw [← Tt347]; exact iv_at hu341 _ _ rfl
                  refine g_aload_n dX7_readLine_112 rfl ?_
                  refine cl_X7_133 (c := 60) (As := []) rfl (c_X7_next (G := G) hs hu341    (d + 2)) rfl (by omega) rfl rfl (Nat.le_of_ble_eq_true rfl) dX7_readLine_113 (fun r348 u349 q350 => ?_)
                  obtain ⟨rfl, mq350⟩ := q350
                  obtain ⟨hu349, gu349, ku3490, ku3491, ku3492, ku3493⟩ := mq350
                  have fu349 : fk [60, 66, 67, 68] [3, 13, 22, 28] u u349 := fk_tr fu341 gu349 (by decide) (by decide)
                  have rfu349 : rf u349 := rf_mono rfu341 gu349 ku3490 (by decide) (by decide) (by decide) (by decide)
                  have T351 : u349.1 60 7 = t323 := (fk_at gu349 (by decide)).trans T343
                  obtain ⟨t352, Tt352⟩ : ∃ t, u349.1 60 14 = t := ⟨_, rfl⟩
                  have Rt352 : 0 ≤ t352 ∧ t352 ≤ 160 := by rw [← Tt352]; exact iv_at hu349 _ _ rfl
                  obtain ⟨t353, Tt353⟩ : ∃ t, u349.1 60 15 = t := ⟨_, rfl⟩
                  have Rt353 : 0 ≤ t353 ∧ t353 ≤ 160 := by rw [← Tt353]; exact iv_at hu349 _ _ rfl
                  obtain ⟨t354, Tt354⟩ : ∃ t, u349.1 60 16 = t := ⟨_, rfl⟩
                  obtain ⟨t355, Tt355⟩ : ∃ t, u349.1 60 18 = t := ⟨_, rfl⟩
                  have Rt355 : 0 ≤ t355 ∧ t355 ≤ 6 := by rw [← Tt355]; exact iv_at hu349 _ _ rfl
                  exact g_vret dX7_readLine_116 rfl ⟨rfl, hu349, fu349, rfu349, (by first | rfl | (rw [Tt355]; grind) | rw [Tt355]), (by first | rfl | (rw [Tt355, Tt353]; grind) | rw [Tt355, Tt353])⟩
                · refine g_iconst (v := 1) dX7_readLine_103 (by decide) ?_
                  refine g_goto (tgt := 108) dX7_readLine_104 (by decide) ?_
                  refine g_iconst (v := 2) dX7_readLine_108 (by decide) ?_
                  refine cl_X7_125 (c := 60) (As := [.int 1, .int 2]) rfl (c_X7_needs (G := G) hs hu321  1 2 (by first | trivial | decide | lia | grind) (by first | trivial | decide | lia | grind) (d + 3)) rfl (by omega) rfl rfl (Nat.le_of_ble_eq_true rfl) dX7_readLine_109 (fun r356 u357 q358 => ?_)
                  obtain ⟨rfl, mq358⟩ := q358
                  obtain ⟨hu357, gu357, ku3570⟩ := mq358
                  have fu357 : fk [60, 66, 67, 68] [3, 13, 22, 28] u u357 := fk_tr fu321 gu357 (by decide) (by decide)
                  have rfu357 : rf u357 := rf_mono rfu321 gu357 (fun q => (ku3570 q).1) (by decide) (by decide) (by decide) (by decide)
                  have T359 : u357.1 60 7 = t323 := (fk_at gu357 (by decide)).trans Tt323
                  have T360 : u357.1 60 14 = t324 := (fk_at gu357 (by decide)).trans Tt324
                  have T361 : u357.1 60 15 = t325 := (fk_at gu357 (by decide)).trans Tt325
                  have T362 : u357.1 60 16 = t326 := (fk_at gu357 (by decide)).trans Tt326
                  obtain ⟨t363, Tt363⟩ : ∃ t, u357.1 60 18 = t := ⟨_, rfl⟩
                  have Rt363 : 0 ≤ t363 ∧ t363 ≤ 6 := by rw [← Tt363]; exact iv_at hu357 _ _ rfl
                  refine g_aload_n dX7_readLine_112 rfl ?_
                  refine cl_X7_133 (c := 60) (As := []) rfl (c_X7_next (G := G) hs hu357    (d + 2)) rfl (by omega) rfl rfl (Nat.le_of_ble_eq_true rfl) dX7_readLine_113 (fun r364 u365 q366 => ?_)
                  obtain ⟨rfl, mq366⟩ := q366
                  obtain ⟨hu365, gu365, ku3650, ku3651, ku3652, ku3653⟩ := mq366
                  have fu365 : fk [60, 66, 67, 68] [3, 13, 22, 28] u u365 := fk_tr fu357 gu365 (by decide) (by decide)
                  have rfu365 : rf u365 := rf_mono rfu357 gu365 ku3650 (by decide) (by decide) (by decide) (by decide)
                  have T367 : u365.1 60 7 = t323 := (fk_at gu365 (by decide)).trans T359
                  obtain ⟨t368, Tt368⟩ : ∃ t, u365.1 60 14 = t := ⟨_, rfl⟩
                  have Rt368 : 0 ≤ t368 ∧ t368 ≤ 160 := by rw [← Tt368]; exact iv_at hu365 _ _ rfl
                  obtain ⟨t369, Tt369⟩ : ∃ t, u365.1 60 15 = t := ⟨_, rfl⟩
                  have Rt369 : 0 ≤ t369 ∧ t369 ≤ 160 := by rw [← Tt369]; exact iv_at hu365 _ _ rfl
                  obtain ⟨t370, Tt370⟩ : ∃ t, u365.1 60 16 = t := ⟨_, rfl⟩
                  obtain ⟨t371, Tt371⟩ : ∃ t, u365.1 60 18 = t := ⟨_, rfl⟩
                  have Rt371 : 0 ≤ t371 ∧ t371 ≤ 6 := by rw [← Tt371]; exact iv_at hu365 _ _ rfl
                  exact g_vret dX7_readLine_116 rfl ⟨rfl, hu365, fu365, rfu365, (by first | rfl | (rw [Tt371]; grind) | rw [Tt371]), (by first | rfl | (rw [Tt371, Tt369]; grind) | rw [Tt371, Tt369])⟩
            · refine g_aload_n dX7_readLine_75 rfl ?_
              refine cl_X7_143 (c := 60) (As := []) rfl (c_X7_readHave (G := G) hs hu310 rfu310    (d)) rfl (by omega) rfl rfl (Nat.le_of_ble_eq_true rfl) dX7_readLine_76 (fun r372 u373 q374 => ?_)
              obtain ⟨rfl, mq374⟩ := q374
              obtain ⟨hu373, gu373, rfu373, ku3730, ku3731⟩ := mq374
              have fu373 : fk [60, 66, 67, 68] [3, 13, 22, 28] u u373 := fk_tr fu310 gu373 (by decide) (by decide)
              have T375 : u373.1 60 7 = t1 := (fk_at gu373 (by decide)).trans T312
              obtain ⟨t376, Tt376⟩ : ∃ t, u373.1 60 14 = t := ⟨_, rfl⟩
              have Rt376 : 0 ≤ t376 ∧ t376 ≤ 160 := by rw [← Tt376]; exact iv_at hu373 _ _ rfl
              obtain ⟨t377, Tt377⟩ : ∃ t, u373.1 60 15 = t := ⟨_, rfl⟩
              have Rt377 : 0 ≤ t377 ∧ t377 ≤ 160 := by rw [← Tt377]; exact iv_at hu373 _ _ rfl
              obtain ⟨t378, Tt378⟩ : ∃ t, u373.1 60 16 = t := ⟨_, rfl⟩
              obtain ⟨t379, Tt379⟩ : ∃ t, u373.1 60 18 = t := ⟨_, rfl⟩
              have Rt379 : 0 ≤ t379 ∧ t379 ≤ 6 := by rw [← Tt379]; exact iv_at hu373 _ _ rfl
              refine g_goto (tgt := 87) dX7_readLine_79 (by decide) ?_
              refine g_aload_n dX7_readLine_87 rfl ?_
              refine f_X7_91 rfl rfl dX7_readLine_88 ?_
              refine g_topi (fun x380 ex380 => ?_)
              have rx380 : 0 ≤ x380 ∧ x380 ≤ 6 := by rw [ex380]; exact iv_at hu373 _ _ rfl
              have qx380 : x380 = t379 := ex380.trans Tt379
              refine g_if_ne (tgt := 112) dX7_readLine_91 (by decide) (fun c381 => ?_) (fun c381 => ?_)
              · refine g_aload_n dX7_readLine_112 rfl ?_
                refine cl_X7_133 (c := 60) (As := []) rfl (c_X7_next (G := G) hs hu373    (d + 2)) rfl (by omega) rfl rfl (Nat.le_of_ble_eq_true rfl) dX7_readLine_113 (fun r382 u383 q384 => ?_)
                obtain ⟨rfl, mq384⟩ := q384
                obtain ⟨hu383, gu383, ku3830, ku3831, ku3832, ku3833⟩ := mq384
                have fu383 : fk [60, 66, 67, 68] [3, 13, 22, 28] u u383 := fk_tr fu373 gu383 (by decide) (by decide)
                have rfu383 : rf u383 := rf_mono rfu373 gu383 ku3830 (by decide) (by decide) (by decide) (by decide)
                have T385 : u383.1 60 7 = t1 := (fk_at gu383 (by decide)).trans T375
                obtain ⟨t386, Tt386⟩ : ∃ t, u383.1 60 14 = t := ⟨_, rfl⟩
                have Rt386 : 0 ≤ t386 ∧ t386 ≤ 160 := by rw [← Tt386]; exact iv_at hu383 _ _ rfl
                obtain ⟨t387, Tt387⟩ : ∃ t, u383.1 60 15 = t := ⟨_, rfl⟩
                have Rt387 : 0 ≤ t387 ∧ t387 ≤ 160 := by rw [← Tt387]; exact iv_at hu383 _ _ rfl
                obtain ⟨t388, Tt388⟩ : ∃ t, u383.1 60 16 = t := ⟨_, rfl⟩
                obtain ⟨t389, Tt389⟩ : ∃ t, u383.1 60 18 = t := ⟨_, rfl⟩
                have Rt389 : 0 ≤ t389 ∧ t389 ≤ 6 := by rw [← Tt389]; exact iv_at hu383 _ _ rfl
                exact g_vret dX7_readLine_116 rfl ⟨rfl, hu383, fu383, rfu383, (by first | rfl | (rw [Tt389]; grind) | rw [Tt389]), (by first | rfl | (rw [Tt389, Tt387]; grind) | rw [Tt389, Tt387])⟩
              · refine g_aload_n dX7_readLine_94 rfl ?_
                refine g_aload_n dX7_readLine_95 rfl ?_
                refine f_X7_111 rfl rfl dX7_readLine_96 ?_
                refine g_topi (fun x390 ex390 => ?_)
                have qx390 : x390 = t378 := ex390.trans Tt378
                refine g_iconst (v := 3) dX7_readLine_99 (by decide) ?_
                refine g_icmp_ne (tgt := 107) dX7_readLine_100 (by decide) (fun c391 => ?_) (fun c391 => ?_)
                · refine g_iconst (v := 0) dX7_readLine_107 (by decide) ?_
                  refine g_iconst (v := 2) dX7_readLine_108 (by decide) ?_
                  refine cl_X7_125 (c := 60) (As := [.int 0, .int 2]) rfl (c_X7_needs (G := G) hs hu373  0 2 (by first | trivial | decide | lia | grind) (by first | trivial | decide | lia | grind) (d + 3)) rfl (by omega) rfl rfl (Nat.le_of_ble_eq_true rfl) dX7_readLine_109 (fun r392 u393 q394 => ?_)
                  obtain ⟨rfl, mq394⟩ := q394
                  obtain ⟨hu393, gu393, ku3930⟩ := mq394
                  have fu393 : fk [60, 66, 67, 68] [3, 13, 22, 28] u u393 := fk_tr fu373 gu393 (by decide) (by decide)
                  have rfu393 : rf u393 := rf_mono rfu373 gu393 (fun q => (ku3930 q).1) (by decide) (by decide) (by decide) (by decide)
                  have T395 : u393.1 60 7 = t1 := (fk_at gu393 (by decide)).trans T375
                  have T396 : u393.1 60 14 = t376 := (fk_at gu393 (by decide)).trans Tt376
                  have T397 : u393.1 60 15 = t377 := (fk_at gu393 (by decide)).trans Tt377
                  have T398 : u393.1 60 16 = t378 := (fk_at gu393 (by decide)).trans Tt378
                  obtain ⟨t399, Tt399⟩ : ∃ t, u393.1 60 18 = t := ⟨_, rfl⟩
                  have Rt399 : 0 ≤ t399 ∧ t399 ≤ 6 := by rw [← Tt399]; exact iv_at hu393 _ _ rfl
                  refine g_aload_n dX7_readLine_112 rfl ?_
                  refine cl_X7_133 (c := 60) (As := []) rfl (c_X7_next (G := G) hs hu393    (d + 2)) rfl (by omega) rfl rfl (Nat.le_of_ble_eq_true rfl) dX7_readLine_113 (fun r400 u401 q402 => ?_)
                  obtain ⟨rfl, mq402⟩ := q402
                  obtain ⟨hu401, gu401, ku4010, ku4011, ku4012, ku4013⟩ := mq402
                  have fu401 : fk [60, 66, 67, 68] [3, 13, 22, 28] u u401 := fk_tr fu393 gu401 (by decide) (by decide)
                  have rfu401 : rf u401 := rf_mono rfu393 gu401 ku4010 (by decide) (by decide) (by decide) (by decide)
                  have T403 : u401.1 60 7 = t1 := (fk_at gu401 (by decide)).trans T395
                  obtain ⟨t404, Tt404⟩ : ∃ t, u401.1 60 14 = t := ⟨_, rfl⟩
                  have Rt404 : 0 ≤ t404 ∧ t404 ≤ 160 := by rw [← Tt404]; exact iv_at hu401 _ _ rfl
                  obtain ⟨t405, Tt405⟩ : ∃ t, u401.1 60 15 = t := ⟨_, rfl⟩
                  have Rt405 : 0 ≤ t405 ∧ t405 ≤ 160 := by rw [← Tt405]; exact iv_at hu401 _ _ rfl
                  obtain ⟨t406, Tt406⟩ : ∃ t, u401.1 60 16 = t := ⟨_, rfl⟩
                  obtain ⟨t407, Tt407⟩ : ∃ t, u401.1 60 18 = t := ⟨_, rfl⟩
                  have Rt407 : 0 ≤ t407 ∧ t407 ≤ 6 := by rw [← Tt407]; exact iv_at hu401 _ _ rfl
                  exact g_vret dX7_readLine_116 rfl ⟨rfl, hu401, fu401, rfu401, (by first | rfl | (rw [Tt407]; grind) | rw [Tt407]), (by first | rfl | (rw [Tt407, Tt405]; grind) | rw [Tt407, Tt405])⟩
                · refine g_iconst (v := 1) dX7_readLine_103 (by decide) ?_
                  refine g_goto (tgt := 108) dX7_readLine_104 (by decide) ?_
                  refine g_iconst (v := 2) dX7_readLine_108 (by decide) ?_
                  refine cl_X7_125 (c := 60) (As := [.int 1, .int 2]) rfl (c_X7_needs (G := G) hs hu373  1 2 (by first | trivial | decide | lia | grind) (by first | trivial | decide | lia | grind) (d + 3)) rfl (by omega) rfl rfl (Nat.le_of_ble_eq_true rfl) dX7_readLine_109 (fun r408 u409 q410 => ?_)
                  obtain ⟨rfl, mq410⟩ := q410
                  obtain ⟨hu409, gu409, ku4090⟩ := mq410
                  have fu409 : fk [60, 66, 67, 68] [3, 13, 22, 28] u u409 := fk_tr fu373 gu409 (by decide) (by decide)
                  have rfu409 : rf u409 := rf_mono rfu373 gu409 (fun q => (ku4090 q).1) (by decide) (by decide) (by decide) (by decide)
                  have T411 : u409.1 60 7 = t1 := (fk_at gu409 (by decide)).trans T375
                  have T412 : u409.1 60 14 = t376 := (fk_at gu409 (by decide)).trans Tt376
                  have T413 : u409.1 60 15 = t377 := (fk_at gu409 (by decide)).trans Tt377
                  have T414 : u409.1 60 16 = t378 := (fk_at gu409 (by decide)).trans Tt378
                  obtain ⟨t415, Tt415⟩ : ∃ t, u409.1 60 18 = t := ⟨_, rfl⟩
                  have Rt415 : 0 ≤ t415 ∧ t415 ≤ 6 := by rw [← Tt415]; exact iv_at hu409 _ _ rfl
                  refine g_aload_n dX7_readLine_112 rfl ?_
                  refine cl_X7_133 (c := 60) (As := []) rfl (c_X7_next (G := G) hs hu409    (d + 2)) rfl (by omega) rfl rfl (Nat.le_of_ble_eq_true rfl) dX7_readLine_113 (fun r416 u417 q418 => ?_)
                  obtain ⟨rfl, mq418⟩ := q418
                  obtain ⟨hu417, gu417, ku4170, ku4171, ku4172, ku4173⟩ := mq418
                  have fu417 : fk [60, 66, 67, 68] [3, 13, 22, 28] u u417 := fk_tr fu409 gu417 (by decide) (by decide)
                  have rfu417 : rf u417 := rf_mono rfu409 gu417 ku4170 (by decide) (by decide) (by decide) (by decide)
                  have T419 : u417.1 60 7 = t1 := (fk_at gu417 (by decide)).trans T411
                  obtain ⟨t420, Tt420⟩ : ∃ t, u417.1 60 14 = t := ⟨_, rfl⟩
                  have Rt420 : 0 ≤ t420 ∧ t420 ≤ 160 := by rw [← Tt420]; exact iv_at hu417 _ _ rfl
                  obtain ⟨t421, Tt421⟩ : ∃ t, u417.1 60 15 = t := ⟨_, rfl⟩
                  have Rt421 : 0 ≤ t421 ∧ t421 ≤ 160 := by rw [← Tt421]; exact iv_at hu417 _ _ rfl
                  obtain ⟨t422, Tt422⟩ : ∃ t, u417.1 60 16 = t := ⟨_, rfl⟩
                  obtain ⟨t423, Tt423⟩ : ∃ t, u417.1 60 18 = t := ⟨_, rfl⟩
                  have Rt423 : 0 ≤ t423 ∧ t423 ≤ 6 := by rw [← Tt423]; exact iv_at hu417 _ _ rfl
                  exact g_vret dX7_readLine_116 rfl ⟨rfl, hu417, fu417, rfu417, (by first | rfl | (rw [Tt423]; grind) | rw [Tt423]), (by first | rfl | (rw [Tt423, Tt421]; grind) | rw [Tt423, Tt421])⟩
          · exact g_vret dX7_readLine_69 rfl ⟨rfl, hu310, fu310, rfu310, (by first | rfl | (rw [Tt316]; grind) | rw [Tt316]), (by first | rfl | (rw [Tt316, Tt314]; grind) | rw [Tt316, Tt314])⟩
        · refine g_iconst (v := 1) dX7_readLine_49 (by decide) ?_
          refine g_goto (tgt := 54) dX7_readLine_50 (by decide) ?_
          refine g_iconst (v := 5) dX7_readLine_54 (by decide) ?_
          refine cl_X7_125 (c := 60) (As := [.int 1, .int 5]) rfl (c_X7_needs (G := G) hs hu168  1 5 (by first | trivial | decide | lia | grind) (by first | trivial | decide | lia | grind) (d + 3)) rfl (by omega) rfl rfl (Nat.le_of_ble_eq_true rfl) dX7_readLine_55 (fun r424 u425 q426 => ?_)
          obtain ⟨rfl, mq426⟩ := q426
          obtain ⟨hu425, gu425, ku4250⟩ := mq426
          have fu425 : fk [60, 66, 67, 68] [3, 13, 22, 28] u u425 := fk_tr fu168 gu425 (by decide) (by decide)
          have rfu425 : rf u425 := rf_mono rfu168 gu425 (fun q => (ku4250 q).1) (by decide) (by decide) (by decide) (by decide)
          have T427 : u425.1 60 7 = t1 := (fk_at gu425 (by decide)).trans T170
          have T428 : u425.1 60 14 = t2 := (fk_at gu425 (by decide)).trans T171
          have T429 : u425.1 60 15 = t3 := (fk_at gu425 (by decide)).trans T172
          have T430 : u425.1 60 16 = t4 := (fk_at gu425 (by decide)).trans T173
          obtain ⟨t431, Tt431⟩ : ∃ t, u425.1 60 18 = t := ⟨_, rfl⟩
          have Rt431 : 0 ≤ t431 ∧ t431 ≤ 6 := by rw [← Tt431]; exact iv_at hu425 _ _ rfl
          refine g_aload_n dX7_readLine_58 rfl ?_
          refine cl_X7_133 (c := 60) (As := []) rfl (c_X7_next (G := G) hs hu425    (d + 2)) rfl (by omega) rfl rfl (Nat.le_of_ble_eq_true rfl) dX7_readLine_59 (fun r432 u433 q434 => ?_)
          obtain ⟨rfl, mq434⟩ := q434
          obtain ⟨hu433, gu433, ku4330, ku4331, ku4332, ku4333⟩ := mq434
          have fu433 : fk [60, 66, 67, 68] [3, 13, 22, 28] u u433 := fk_tr fu425 gu433 (by decide) (by decide)
          have rfu433 : rf u433 := rf_mono rfu425 gu433 ku4330 (by decide) (by decide) (by decide) (by decide)
          have T435 : u433.1 60 7 = t1 := (fk_at gu433 (by decide)).trans T427
          obtain ⟨t436, Tt436⟩ : ∃ t, u433.1 60 14 = t := ⟨_, rfl⟩
          have Rt436 : 0 ≤ t436 ∧ t436 ≤ 160 := by rw [← Tt436]; exact iv_at hu433 _ _ rfl
          obtain ⟨t437, Tt437⟩ : ∃ t, u433.1 60 15 = t := ⟨_, rfl⟩
          have Rt437 : 0 ≤ t437 ∧ t437 ≤ 160 := by rw [← Tt437]; exact iv_at hu433 _ _ rfl
          obtain ⟨t438, Tt438⟩ : ∃ t, u433.1 60 16 = t := ⟨_, rfl⟩
          obtain ⟨t439, Tt439⟩ : ∃ t, u433.1 60 18 = t := ⟨_, rfl⟩
          have Rt439 : 0 ≤ t439 ∧ t439 ≤ 6 := by rw [← Tt439]; exact iv_at hu433 _ _ rfl
          refine g_aload_n dX7_readLine_62 rfl ?_
          refine f_X7_91 rfl rfl dX7_readLine_63 ?_
          refine g_topi (fun x440 ex440 => ?_)
          have rx440 : 0 ≤ x440 ∧ x440 ≤ 6 := by rw [ex440]; exact iv_at hu433 _ _ rfl
          have qx440 : x440 = t439 := ex440.trans Tt439
          refine g_if_le (tgt := 70) dX7_readLine_66 (by decide) (fun c441 => ?_) (fun c441 => ?_)
          · refine g_iload_n dX7_readLine_70 rfl ?_
            refine g_iconst (v := 5) dX7_readLine_71 (by decide) ?_
            refine g_icmp_ne (tgt := 82) dX7_readLine_72 (by decide) (fun c442 => ?_) (fun c442 => ?_)
            · refine g_aload_n dX7_readLine_82 rfl ?_
              refine g_iload_n dX7_readLine_83 rfl ?_
              refine cl_X7_146 (c := 60) (As := [.int x165]) rfl (c_X7_readStuff (G := G) hs hu433 rfu433  x165 (by first | trivial | decide | lia | grind) (d)) rfl (by omega) rfl rfl (Nat.le_of_ble_eq_true rfl) dX7_readLine_84 (fun r443 u444 q445 => ?_)
              obtain ⟨rfl, mq445⟩ := q445
              obtain ⟨hu444, gu444, rfu444, ku4440, ku4441⟩ := mq445
              have fu444 : fk [60, 66, 67, 68] [3, 13, 22, 28] u u444 := fk_tr fu433 gu444 (by decide) (by decide)
              obtain ⟨t446, Tt446⟩ : ∃ t, u444.1 60 7 = t := ⟨_, rfl⟩
              have Rt446 : 0 ≤ t446 ∧ t446 ≤ 8 := by rw [← Tt446]; exact iv_at hu444 _ _ rfl
              obtain ⟨t447, Tt447⟩ : ∃ t, u444.1 60 14 = t := ⟨_, rfl⟩
              have Rt447 : 0 ≤ t447 ∧ t447 ≤ 160 := by rw [← Tt447]; exact iv_at hu444 _ _ rfl
              obtain ⟨t448, Tt448⟩ : ∃ t, u444.1 60 15 = t := ⟨_, rfl⟩
              have Rt448 : 0 ≤ t448 ∧ t448 ≤ 160 := by rw [← Tt448]; exact iv_at hu444 _ _ rfl
              obtain ⟨t449, Tt449⟩ : ∃ t, u444.1 60 16 = t := ⟨_, rfl⟩
              obtain ⟨t450, Tt450⟩ : ∃ t, u444.1 60 18 = t := ⟨_, rfl⟩
              have Rt450 : 0 ≤ t450 ∧ t450 ≤ 6 := by rw [← Tt450]; exact iv_at hu444 _ _ rfl
              refine g_aload_n dX7_readLine_87 rfl ?_
              refine f_X7_91 rfl rfl dX7_readLine_88 ?_
              refine g_topi (fun x451 ex451 => ?_)
              have rx451 : 0 ≤ x451 ∧ x451 ≤ 6 := by rw [ex451]; exact iv_at hu444 _ _ rfl
              have qx451 : x451 = t450 := ex451.trans Tt450
              refine g_if_ne (tgt := 112) dX7_readLine_91 (by decide) (fun c452 => ?_) (fun c452 => ?_)
              · refine g_aload_n dX7_readLine_112 rfl ?_
                refine cl_X7_133 (c := 60) (As := []) rfl (c_X7_next (G := G) hs hu444    (d + 2)) rfl (by omega) rfl rfl (Nat.le_of_ble_eq_true rfl) dX7_readLine_113 (fun r453 u454 q455 => ?_)
                obtain ⟨rfl, mq455⟩ := q455
                obtain ⟨hu454, gu454, ku4540, ku4541, ku4542, ku4543⟩ := mq455
                have fu454 : fk [60, 66, 67, 68] [3, 13, 22, 28] u u454 := fk_tr fu444 gu454 (by decide) (by decide)
                have rfu454 : rf u454 := rf_mono rfu444 gu454 ku4540 (by decide) (by decide) (by decide) (by decide)
                have T456 : u454.1 60 7 = t446 := (fk_at gu454 (by decide)).trans Tt446
                obtain ⟨t457, Tt457⟩ : ∃ t, u454.1 60 14 = t := ⟨_, rfl⟩
                have Rt457 : 0 ≤ t457 ∧ t457 ≤ 160 := by rw [← Tt457]; exact iv_at hu454 _ _ rfl
                obtain ⟨t458, Tt458⟩ : ∃ t, u454.1 60 15 = t := ⟨_, rfl⟩
                have Rt458 : 0 ≤ t458 ∧ t458 ≤ 160 := by rw [← Tt458]; exact iv_at hu454 _ _ rfl
                obtain ⟨t459, Tt459⟩ : ∃ t, u454.1 60 16 = t := ⟨_, rfl⟩
                obtain ⟨t460, Tt460⟩ : ∃ t, u454.1 60 18 = t := ⟨_, rfl⟩
                have Rt460 : 0 ≤ t460 ∧ t460 ≤ 6 := by rw [← Tt460]; exact iv_at hu454 _ _ rfl
                exact g_vret dX7_readLine_116 rfl ⟨rfl, hu454, fu454, rfu454, (by first | rfl | (rw [Tt460]; grind) | rw [Tt460]), (by first | rfl | (rw [Tt460, Tt458]; grind) | rw [Tt460, Tt458])⟩
              · refine g_aload_n dX7_readLine_94 rfl ?_
                refine g_aload_n dX7_readLine_95 rfl ?_
                refine f_X7_111 rfl rfl dX7_readLine_96 ?_
                refine g_topi (fun x461 ex461 => ?_)
                have qx461 : x461 = t449 := ex461.trans Tt449
                refine g_iconst (v := 3) dX7_readLine_99 (by decide) ?_
                refine g_icmp_ne (tgt := 107) dX7_readLine_100 (by decide) (fun c462 => ?_) (fun c462 => ?_)
                · refine g_iconst (v := 0) dX7_readLine_107 (by decide) ?_
                  refine g_iconst (v := 2) dX7_readLine_108 (by decide) ?_
                  refine cl_X7_125 (c := 60) (As := [.int 0, .int 2]) rfl (c_X7_needs (G := G) hs hu444  0 2 (by first | trivial | decide | lia | grind) (by first | trivial | decide | lia | grind) (d + 3)) rfl (by omega) rfl rfl (Nat.le_of_ble_eq_true rfl) dX7_readLine_109 (fun r463 u464 q465 => ?_)
                  obtain ⟨rfl, mq465⟩ := q465
                  obtain ⟨hu464, gu464, ku4640⟩ := mq465
                  have fu464 : fk [60, 66, 67, 68] [3, 13, 22, 28] u u464 := fk_tr fu444 gu464 (by decide) (by decide)
                  have rfu464 : rf u464 := rf_mono rfu444 gu464 (fun q => (ku4640 q).1) (by decide) (by decide) (by decide) (by decide)
                  have T466 : u464.1 60 7 = t446 := (fk_at gu464 (by decide)).trans Tt446
                  have T467 : u464.1 60 14 = t447 := (fk_at gu464 (by decide)).trans Tt447
                  have T468 : u464.1 60 15 = t448 := (fk_at gu464 (by decide)).trans Tt448
                  have T469 : u464.1 60 16 = t449 := (fk_at gu464 (by decide)).trans Tt449
                  obtain ⟨t470, Tt470⟩ : ∃ t, u464.1 60 18 = t := ⟨_, rfl⟩
                  have Rt470 : 0 ≤ t470 ∧ t470 ≤ 6 := by rw [← Tt470]; exact iv_at hu464 _ _ rfl
                  refine g_aload_n dX7_readLine_112 rfl ?_
                  refine cl_X7_133 (c := 60) (As := []) rfl (c_X7_next (G := G) hs hu464    (d + 2)) rfl (by omega) rfl rfl (Nat.le_of_ble_eq_true rfl) dX7_readLine_113 (fun r471 u472 q473 => ?_)
                  obtain ⟨rfl, mq473⟩ := q473
                  obtain ⟨hu472, gu472, ku4720, ku4721, ku4722, ku4723⟩ := mq473
                  have fu472 : fk [60, 66, 67, 68] [3, 13, 22, 28] u u472 := fk_tr fu464 gu472 (by decide) (by decide)
                  have rfu472 : rf u472 := rf_mono rfu464 gu472 ku4720 (by decide) (by decide) (by decide) (by decide)
                  have T474 : u472.1 60 7 = t446 := (fk_at gu472 (by decide)).trans T466
                  obtain ⟨t475, Tt475⟩ : ∃ t, u472.1 60 14 = t := ⟨_, rfl⟩
                  have Rt475 : 0 ≤ t475 ∧ t475 ≤ 160 := by rw [← Tt475]; exact iv_at hu472 _ _ rfl
                  obtain ⟨t476, Tt476⟩ : ∃ t, u472.1 60 15 = t := ⟨_, rfl⟩
                  have Rt476 : 0 ≤ t476 ∧ t476 ≤ 160 := by rw [← Tt476]; exact iv_at hu472 _ _ rfl
                  obtain ⟨t477, Tt477⟩ : ∃ t, u472.1 60 16 = t := ⟨_, rfl⟩
                  obtain ⟨t478, Tt478⟩ : ∃ t, u472.1 60 18 = t := ⟨_, rfl⟩
                  have Rt478 : 0 ≤ t478 ∧ t478 ≤ 6 := by rw [← Tt478]; exact iv_at hu472 _ _ rfl
                  exact g_vret dX7_readLine_116 rfl ⟨rfl, hu472, fu472, rfu472, (by first | rfl | (rw [Tt478]; grind) | rw [Tt478]), (by first | rfl | (rw [Tt478, Tt476]; grind) | rw [Tt478, Tt476])⟩
                · refine g_iconst (v := 1) dX7_readLine_103 (by decide) ?_
                  refine g_goto (tgt := 108) dX7_readLine_104 (by decide) ?_
                  refine g_iconst (v := 2) dX7_readLine_108 (by decide) ?_
                  refine cl_X7_125 (c := 60) (As := [.int 1, .int 2]) rfl (c_X7_needs (G := G) hs hu444  1 2 (by first | trivial | decide | lia | grind) (by first | trivial | decide | lia | grind) (d + 3)) rfl (by omega) rfl rfl (Nat.le_of_ble_eq_true rfl) dX7_readLine_109 (fun r479 u480 q481 => ?_)
                  obtain ⟨rfl, mq481⟩ := q481
                  obtain ⟨hu480, gu480, ku4800⟩ := mq481
                  have fu480 : fk [60, 66, 67, 68] [3, 13, 22, 28] u u480 := fk_tr fu444 gu480 (by decide) (by decide)
                  have rfu480 : rf u480 := rf_mono rfu444 gu480 (fun q => (ku4800 q).1) (by decide) (by decide) (by decide) (by decide)
                  have T482 : u480.1 60 7 = t446 := (fk_at gu480 (by decide)).trans Tt446
                  have T483 : u480.1 60 14 = t447 := (fk_at gu480 (by decide)).trans Tt447
                  have T484 : u480.1 60 15 = t448 := (fk_at gu480 (by decide)).trans Tt448
                  have T485 : u480.1 60 16 = t449 := (fk_at gu480 (by decide)).trans Tt449
                  obtain ⟨t486, Tt486⟩ : ∃ t, u480.1 60 18 = t := ⟨_, rfl⟩
                  have Rt486 : 0 ≤ t486 ∧ t486 ≤ 6 := by rw [← Tt486]; exact iv_at hu480 _ _ rfl
                  refine g_aload_n dX7_readLine_112 rfl ?_
                  refine cl_X7_133 (c := 60) (As := []) rfl (c_X7_next (G := G) hs hu480    (d + 2)) rfl (by omega) rfl rfl (Nat.le_of_ble_eq_true rfl) dX7_readLine_113 (fun r487 u488 q489 => ?_)
                  obtain ⟨rfl, mq489⟩ := q489
                  obtain ⟨hu488, gu488, ku4880, ku4881, ku4882, ku4883⟩ := mq489
                  have fu488 : fk [60, 66, 67, 68] [3, 13, 22, 28] u u488 := fk_tr fu480 gu488 (by decide) (by decide)
                  have rfu488 : rf u488 := rf_mono rfu480 gu488 ku4880 (by decide) (by decide) (by decide) (by decide)
                  have T490 : u488.1 60 7 = t446 := (fk_at gu488 (by decide)).trans T482
                  obtain ⟨t491, Tt491⟩ : ∃ t, u488.1 60 14 = t := ⟨_, rfl⟩
                  have Rt491 : 0 ≤ t491 ∧ t491 ≤ 160 := by rw [← Tt491]; exact iv_at hu488 _ _ rfl
                  obtain ⟨t492, Tt492⟩ : ∃ t, u488.1 60 15 = t := ⟨_, rfl⟩
                  have Rt492 : 0 ≤ t492 ∧ t492 ≤ 160 := by rw [← Tt492]; exact iv_at hu488 _ _ rfl
                  obtain ⟨t493, Tt493⟩ : ∃ t, u488.1 60 16 = t := ⟨_, rfl⟩
                  obtain ⟨t494, Tt494⟩ : ∃ t, u488.1 60 18 = t := ⟨_, rfl⟩
                  have Rt494 : 0 ≤ t494 ∧ t494 ≤ 6 := by rw [← Tt494]; exact iv_at hu488 _ _ rfl
                  exact g_vret dX7_readLine_116 rfl ⟨rfl, hu488, fu488, rfu488, (by first | rfl | (rw [Tt494]; grind) | rw [Tt494]), (by first | rfl | (rw [Tt494, Tt492]; grind) | rw [Tt494, Tt492])⟩
            · refine g_aload_n dX7_readLine_75 rfl ?_
              refine cl_X7_143 (c := 60) (As := []) rfl (c_X7_readHave (G := G) hs hu433 rfu433    (d)) rfl (by omega) rfl rfl (Nat.le_of_ble_eq_true rfl) dX7_readLine_76 (fun r495 u496 q497 => ?_)
              obtain ⟨rfl, mq497⟩ := q497
              obtain ⟨hu496, gu496, rfu496, ku4960, ku4961⟩ := mq497
              have fu496 : fk [60, 66, 67, 68] [3, 13, 22, 28] u u496 := fk_tr fu433 gu496 (by decide) (by decide)
              have T498 : u496.1 60 7 = t1 := (fk_at gu496 (by decide)).trans T435
              obtain ⟨t499, Tt499⟩ : ∃ t, u496.1 60 14 = t := ⟨_, rfl⟩
              have Rt499 : 0 ≤ t499 ∧ t499 ≤ 160 := by rw [← Tt499]; exact iv_at hu496 _ _ rfl
              obtain ⟨t500, Tt500⟩ : ∃ t, u496.1 60 15 = t := ⟨_, rfl⟩
              have Rt500 : 0 ≤ t500 ∧ t500 ≤ 160 := by rw [← Tt500]; exact iv_at hu496 _ _ rfl
              obtain ⟨t501, Tt501⟩ : ∃ t, u496.1 60 16 = t := ⟨_, rfl⟩
              obtain ⟨t502, Tt502⟩ : ∃ t, u496.1 60 18 = t := ⟨_, rfl⟩
              have Rt502 : 0 ≤ t502 ∧ t502 ≤ 6 := by rw [← Tt502]; exact iv_at hu496 _ _ rfl
              refine g_goto (tgt := 87) dX7_readLine_79 (by decide) ?_
              refine g_aload_n dX7_readLine_87 rfl ?_
              refine f_X7_91 rfl rfl dX7_readLine_88 ?_
              refine g_topi (fun x503 ex503 => ?_)
              have rx503 : 0 ≤ x503 ∧ x503 ≤ 6 := by rw [ex503]; exact iv_at hu496 _ _ rfl
              have qx503 : x503 = t502 := ex503.trans Tt502
              refine g_if_ne (tgt := 112) dX7_readLine_91 (by decide) (fun c504 => ?_) (fun c504 => ?_)
              · refine g_aload_n dX7_readLine_112 rfl ?_
                refine cl_X7_133 (c := 60) (As := []) rfl (c_X7_next (G := G) hs hu496    (d + 2)) rfl (by omega) rfl rfl (Nat.le_of_ble_eq_true rfl) dX7_readLine_113 (fun r505 u506 q507 => ?_)
                obtain ⟨rfl, mq507⟩ := q507
                obtain ⟨hu506, gu506, ku5060, ku5061, ku5062, ku5063⟩ := mq507
                have fu506 : fk [60, 66, 67, 68] [3, 13, 22, 28] u u506 := fk_tr fu496 gu506 (by decide) (by decide)
                have rfu506 : rf u506 := rf_mono rfu496 gu506 ku5060 (by decide) (by decide) (by decide) (by decide)
                have T508 : u506.1 60 7 = t1 := (fk_at gu506 (by decide)).trans T498
                obtain ⟨t509, Tt509⟩ : ∃ t, u506.1 60 14 = t := ⟨_, rfl⟩
                have Rt509 : 0 ≤ t509 ∧ t509 ≤ 160 := by rw [← Tt509]; exact iv_at hu506 _ _ rfl
                obtain ⟨t510, Tt510⟩ : ∃ t, u506.1 60 15 = t := ⟨_, rfl⟩
                have Rt510 : 0 ≤ t510 ∧ t510 ≤ 160 := by rw [← Tt510]; exact iv_at hu506 _ _ rfl
                obtain ⟨t511, Tt511⟩ : ∃ t, u506.1 60 16 = t := ⟨_, rfl⟩
                obtain ⟨t512, Tt512⟩ : ∃ t, u506.1 60 18 = t := ⟨_, rfl⟩
                have Rt512 : 0 ≤ t512 ∧ t512 ≤ 6 := by rw [← Tt512]; exact iv_at hu506 _ _ rfl
                exact g_vret dX7_readLine_116 rfl ⟨rfl, hu506, fu506, rfu506, (by first | rfl | (rw [Tt512]; grind) | rw [Tt512]), (by first | rfl | (rw [Tt512, Tt510]; grind) | rw [Tt512, Tt510])⟩
              · refine g_aload_n dX7_readLine_94 rfl ?_
                refine g_aload_n dX7_readLine_95 rfl ?_
                refine f_X7_111 rfl rfl dX7_readLine_96 ?_
                refine g_topi (fun x513 ex513 => ?_)
                have qx513 : x513 = t501 := ex513.trans Tt501
                refine g_iconst (v := 3) dX7_readLine_99 (by decide) ?_
                refine g_icmp_ne (tgt := 107) dX7_readLine_100 (by decide) (fun c514 => ?_) (fun c514 => ?_)
                · refine g_iconst (v := 0) dX7_readLine_107 (by decide) ?_
                  refine g_iconst (v := 2) dX7_readLine_108 (by decide) ?_
                  refine cl_X7_125 (c := 60) (As := [.int 0, .int 2]) rfl (c_X7_needs (G := G) hs hu496  0 2 (by first | trivial | decide | lia | grind) (by first | trivial | decide | lia | grind) (d + 3)) rfl (by omega) rfl rfl (Nat.le_of_ble_eq_true rfl) dX7_readLine_109 (fun r515 u516 q517 => ?_)
                  obtain ⟨rfl, mq517⟩ := q517
                  obtain ⟨hu516, gu516, ku5160⟩ := mq517
                  have fu516 : fk [60, 66, 67, 68] [3, 13, 22, 28] u u516 := fk_tr fu496 gu516 (by decide) (by decide)
                  have rfu516 : rf u516 := rf_mono rfu496 gu516 (fun q => (ku5160 q).1) (by decide) (by decide) (by decide) (by decide)
                  have T518 : u516.1 60 7 = t1 := (fk_at gu516 (by decide)).trans T498
                  have T519 : u516.1 60 14 = t499 := (fk_at gu516 (by decide)).trans Tt499
                  have T520 : u516.1 60 15 = t500 := (fk_at gu516 (by decide)).trans Tt500
                  have T521 : u516.1 60 16 = t501 := (fk_at gu516 (by decide)).trans Tt501
                  obtain ⟨t522, Tt522⟩ : ∃ t, u516.1 60 18 = t := ⟨_, rfl⟩
                  have Rt522 : 0 ≤ t522 ∧ t522 ≤ 6 := by rw [← Tt522]; exact iv_at hu516 _ _ rfl
                  refine g_aload_n dX7_readLine_112 rfl ?_
                  refine cl_X7_133 (c := 60) (As := []) rfl (c_X7_next (G := G) hs hu516    (d + 2)) rfl (by omega) rfl rfl (Nat.le_of_ble_eq_true rfl) dX7_readLine_113 (fun r523 u524 q525 => ?_)
                  obtain ⟨rfl, mq525⟩ := q525
                  obtain ⟨hu524, gu524, ku5240, ku5241, ku5242, ku5243⟩ := mq525
                  have fu524 : fk [60, 66, 67, 68] [3, 13, 22, 28] u u524 := fk_tr fu516 gu524 (by decide) (by decide)
                  have rfu524 : rf u524 := rf_mono rfu516 gu524 ku5240 (by decide) (by decide) (by decide) (by decide)
                  have T526 : u524.1 60 7 = t1 := (fk_at gu524 (by decide)).trans T518
                  obtain ⟨t527, Tt527⟩ : ∃ t, u524.1 60 14 = t := ⟨_, rfl⟩
                  have Rt527 : 0 ≤ t527 ∧ t527 ≤ 160 := by rw [← Tt527]; exact iv_at hu524 _ _ rfl
                  obtain ⟨t528, Tt528⟩ : ∃ t, u524.1 60 15 = t := ⟨_, rfl⟩
                  have Rt528 : 0 ≤ t528 ∧ t528 ≤ 160 := by rw [← Tt528]; exact iv_at hu524 _ _ rfl
                  obtain ⟨t529, Tt529⟩ : ∃ t, u524.1 60 16 = t := ⟨_, rfl⟩
                  obtain ⟨t530, Tt530⟩ : ∃ t, u524.1 60 18 = t := ⟨_, rfl⟩
                  have Rt530 : 0 ≤ t530 ∧ t530 ≤ 6 := by rw [← Tt530]; exact iv_at hu524 _ _ rfl
                  exact g_vret dX7_readLine_116 rfl ⟨rfl, hu524, fu524, rfu524, (by first | rfl | (rw [Tt530]; grind) | rw [Tt530]), (by first | rfl | (rw [Tt530, Tt528]; grind) | rw [Tt530, Tt528])⟩
                · refine g_iconst (v := 1) dX7_readLine_103 (by decide) ?_
                  refine g_goto (tgt := 108) dX7_readLine_104 (by decide) ?_
                  refine g_iconst (v := 2) dX7_readLine_108 (by decide) ?_
                  refine cl_X7_125 (c := 60) (As := [.int 1, .int 2]) rfl (c_X7_needs (G := G) hs hu496  1 2 (by first | trivial | decide | lia | grind) (by first | trivial | decide | lia | grind) (d + 3)) rfl (by omega) rfl rfl (Nat.le_of_ble_eq_true rfl) dX7_readLine_109 (fun r531 u532 q533 => ?_)
                  obtain ⟨rfl, mq533⟩ := q533
                  obtain ⟨hu532, gu532, ku5320⟩ := mq533
                  have fu532 : fk [60, 66, 67, 68] [3, 13, 22, 28] u u532 := fk_tr fu496 gu532 (by decide) (by decide)
                  have rfu532 : rf u532 := rf_mono rfu496 gu532 (fun q => (ku5320 q).1) (by decide) (by decide) (by decide) (by decide)
                  have T534 : u532.1 60 7 = t1 := (fk_at gu532 (by decide)).trans T498
                  have T535 : u532.1 60 14 = t499 := (fk_at gu532 (by decide)).trans Tt499
                  have T536 : u532.1 60 15 = t500 := (fk_at gu532 (by decide)).trans Tt500
                  have T537 : u532.1 60 16 = t501 := (fk_at gu532 (by decide)).trans Tt501
                  obtain ⟨t538, Tt538⟩ : ∃ t, u532.1 60 18 = t := ⟨_, rfl⟩
                  have Rt538 : 0 ≤ t538 ∧ t538 ≤ 6 := by rw [← Tt538]; exact iv_at hu532 _ _ rfl
                  refine g_aload_n dX7_readLine_112 rfl ?_
                  refine cl_X7_133 (c := 60) (As := []) rfl (c_X7_next (G := G) hs hu532    (d + 2)) rfl (by omega) rfl rfl (Nat.le_of_ble_eq_true rfl) dX7_readLine_113 (fun r539 u540 q541 => ?_)
                  obtain ⟨rfl, mq541⟩ := q541
                  obtain ⟨hu540, gu540, ku5400, ku5401, ku5402, ku5403⟩ := mq541
                  have fu540 : fk [60, 66, 67, 68] [3, 13, 22, 28] u u540 := fk_tr fu532 gu540 (by decide) (by decide)
                  have rfu540 : rf u540 := rf_mono rfu532 gu540 ku5400 (by decide) (by decide) (by decide) (by decide)
                  have T542 : u540.1 60 7 = t1 := (fk_at gu540 (by decide)).trans T534
                  obtain ⟨t543, Tt543⟩ : ∃ t, u540.1 60 14 = t := ⟨_, rfl⟩
                  have Rt543 : 0 ≤ t543 ∧ t543 ≤ 160 := by rw [← Tt543]; exact iv_at hu540 _ _ rfl
                  obtain ⟨t544, Tt544⟩ : ∃ t, u540.1 60 15 = t := ⟨_, rfl⟩
                  have Rt544 : 0 ≤ t544 ∧ t544 ≤ 160 := by rw [← Tt544]; exact iv_at hu540 _ _ rfl
                  obtain ⟨t545, Tt545⟩ : ∃ t, u540.1 60 16 = t := ⟨_, rfl⟩
                  obtain ⟨t546, Tt546⟩ : ∃ t, u540.1 60 18 = t := ⟨_, rfl⟩
                  have Rt546 : 0 ≤ t546 ∧ t546 ≤ 6 := by rw [← Tt546]; exact iv_at hu540 _ _ rfl
                  exact g_vret dX7_readLine_116 rfl ⟨rfl, hu540, fu540, rfu540, (by first | rfl | (rw [Tt546]; grind) | rw [Tt546]), (by first | rfl | (rw [Tt546, Tt544]; grind) | rw [Tt546, Tt544])⟩
          · exact g_vret dX7_readLine_69 rfl ⟨rfl, hu433, fu433, rfu433, (by first | rfl | (rw [Tt439]; grind) | rw [Tt439]), (by first | rfl | (rw [Tt439, Tt437]; grind) | rw [Tt439, Tt437])⟩
    · refine g_iconst (v := 1) dX7_readLine_25 (by decide) ?_
      refine g_goto (tgt := 30) dX7_readLine_26 (by decide) ?_
      refine g_iconst (v := 2) dX7_readLine_30 (by decide) ?_
      refine cl_X7_125 (c := 60) (As := [.int 1, .int 2]) rfl (c_X7_needs (G := G) hs hu  1 2 (by first | trivial | decide | lia | grind) (by first | trivial | decide | lia | grind) (d + 3)) rfl (by omega) rfl rfl (Nat.le_of_ble_eq_true rfl) dX7_readLine_31 (fun r547 u548 q549 => ?_)
      obtain ⟨rfl, mq549⟩ := q549
      obtain ⟨hu548, gu548, ku5480⟩ := mq549
      have fu548 : fk [60, 66, 67, 68] [3, 13, 22, 28] u u548 := fk_tr f0 gu548 (by decide) (by decide)
      have rfu548 : rf u548 := rf_mono hrf gu548 (fun q => (ku5480 q).1) (by decide) (by decide) (by decide) (by decide)
      have T550 : u548.1 60 7 = t1 := (fk_at gu548 (by decide)).trans Tt1
      have T551 : u548.1 60 14 = t2 := (fk_at gu548 (by decide)).trans Tt2
      have T552 : u548.1 60 15 = t3 := (fk_at gu548 (by decide)).trans Tt3
      have T553 : u548.1 60 16 = t4 := (fk_at gu548 (by decide)).trans Tt4
      obtain ⟨t554, Tt554⟩ : ∃ t, u548.1 60 18 = t := ⟨_, rfl⟩
      have Rt554 : 0 ≤ t554 ∧ t554 ≤ 6 := by rw [← Tt554]; exact iv_at hu548 _ _ rfl
      refine g_aload_n dX7_readLine_34 rfl ?_
      refine g_iload_n dX7_readLine_35 rfl ?_
      refine g_iconst (v := 5) dX7_readLine_36 (by decide) ?_
      refine g_icmp_eq (tgt := 49) dX7_readLine_37 (by decide) (fun c555 => ?_) (fun c555 => ?_)
      · refine g_iconst (v := 1) dX7_readLine_49 (by decide) ?_
        refine g_goto (tgt := 54) dX7_readLine_50 (by decide) ?_
        refine g_iconst (v := 5) dX7_readLine_54 (by decide) ?_
        refine cl_X7_125 (c := 60) (As := [.int 1, .int 5]) rfl (c_X7_needs (G := G) hs hu548  1 5 (by first | trivial | decide | lia | grind) (by first | trivial | decide | lia | grind) (d + 3)) rfl (by omega) rfl rfl (Nat.le_of_ble_eq_true rfl) dX7_readLine_55 (fun r556 u557 q558 => ?_)
        obtain ⟨rfl, mq558⟩ := q558
        obtain ⟨hu557, gu557, ku5570⟩ := mq558
        have fu557 : fk [60, 66, 67, 68] [3, 13, 22, 28] u u557 := fk_tr fu548 gu557 (by decide) (by decide)
        have rfu557 : rf u557 := rf_mono rfu548 gu557 (fun q => (ku5570 q).1) (by decide) (by decide) (by decide) (by decide)
        have T559 : u557.1 60 7 = t1 := (fk_at gu557 (by decide)).trans T550
        have T560 : u557.1 60 14 = t2 := (fk_at gu557 (by decide)).trans T551
        have T561 : u557.1 60 15 = t3 := (fk_at gu557 (by decide)).trans T552
        have T562 : u557.1 60 16 = t4 := (fk_at gu557 (by decide)).trans T553
        obtain ⟨t563, Tt563⟩ : ∃ t, u557.1 60 18 = t := ⟨_, rfl⟩
        have Rt563 : 0 ≤ t563 ∧ t563 ≤ 6 := by rw [← Tt563]; exact iv_at hu557 _ _ rfl
        refine g_aload_n dX7_readLine_58 rfl ?_
        refine cl_X7_133 (c := 60) (As := []) rfl (c_X7_next (G := G) hs hu557    (d + 2)) rfl (by omega) rfl rfl (Nat.le_of_ble_eq_true rfl) dX7_readLine_59 (fun r564 u565 q566 => ?_)
        obtain ⟨rfl, mq566⟩ := q566
        obtain ⟨hu565, gu565, ku5650, ku5651, ku5652, ku5653⟩ := mq566
        have fu565 : fk [60, 66, 67, 68] [3, 13, 22, 28] u u565 := fk_tr fu557 gu565 (by decide) (by decide)
        have rfu565 : rf u565 := rf_mono rfu557 gu565 ku5650 (by decide) (by decide) (by decide) (by decide)
        have T567 : u565.1 60 7 = t1 := (fk_at gu565 (by decide)).trans T559
        obtain ⟨t568, Tt568⟩ : ∃ t, u565.1 60 14 = t := ⟨_, rfl⟩
        have Rt568 : 0 ≤ t568 ∧ t568 ≤ 160 := by rw [← Tt568]; exact iv_at hu565 _ _ rfl
        obtain ⟨t569, Tt569⟩ : ∃ t, u565.1 60 15 = t := ⟨_, rfl⟩
        have Rt569 : 0 ≤ t569 ∧ t569 ≤ 160 := by rw [← Tt569]; exact iv_at hu565 _ _ rfl
        obtain ⟨t570, Tt570⟩ : ∃ t, u565.1 60 16 = t := ⟨_, rfl⟩
        obtain ⟨t571, Tt571⟩ : ∃ t, u565.1 60 18 = t := ⟨_, rfl⟩
        have Rt571 : 0 ≤ t571 ∧ t571 ≤ 6 := by rw [← Tt571]; exact iv_at hu565 _ _ rfl
        refine g_aload_n dX7_readLine_62 rfl ?_
        refine f_X7_91 rfl rfl dX7_readLine_63 ?_
        refine g_topi (fun x572 ex572 => ?_)
        have rx572 : 0 ≤ x572 ∧ x572 ≤ 6 := by rw [ex572]; exact iv_at hu565 _ _ rfl
        have qx572 : x572 = t571 := ex572.trans Tt571
        refine g_if_le (tgt := 70) dX7_readLine_66 (by decide) (fun c573 => ?_) (fun c573 => ?_)
        · refine g_iload_n dX7_readLine_70 rfl ?_
          refine g_iconst (v := 5) dX7_readLine_71 (by decide) ?_
          refine g_icmp_ne (tgt := 82) dX7_readLine_72 (by decide) (fun c574 => ?_) (fun c574 => ?_)
          · refine g_aload_n dX7_readLine_82 rfl ?_
            refine g_iload_n dX7_readLine_83 rfl ?_
            refine cl_X7_146 (c := 60) (As := [.int x165]) rfl (c_X7_readStuff (G := G) hs hu565 rfu565  x165 (by first | trivial | decide | lia | grind) (d)) rfl (by omega) rfl rfl (Nat.le_of_ble_eq_true rfl) dX7_readLine_84 (fun r575 u576 q577 => ?_)
            obtain ⟨rfl, mq577⟩ := q577
            obtain ⟨hu576, gu576, rfu576, ku5760, ku5761⟩ := mq577
            have fu576 : fk [60, 66, 67, 68] [3, 13, 22, 28] u u576 := fk_tr fu565 gu576 (by decide) (by decide)
            obtain ⟨t578, Tt578⟩ : ∃ t, u576.1 60 7 = t := ⟨_, rfl⟩
            have Rt578 : 0 ≤ t578 ∧ t578 ≤ 8 := by rw [← Tt578]; exact iv_at hu576 _ _ rfl
            obtain ⟨t579, Tt579⟩ : ∃ t, u576.1 60 14 = t := ⟨_, rfl⟩
            have Rt579 : 0 ≤ t579 ∧ t579 ≤ 160 := by rw [← Tt579]; exact iv_at hu576 _ _ rfl
            obtain ⟨t580, Tt580⟩ : ∃ t, u576.1 60 15 = t := ⟨_, rfl⟩
            have Rt580 : 0 ≤ t580 ∧ t580 ≤ 160 := by rw [← Tt580]; exact iv_at hu576 _ _ rfl
            obtain ⟨t581, Tt581⟩ : ∃ t, u576.1 60 16 = t := ⟨_, rfl⟩
            obtain ⟨t582, Tt582⟩ : ∃ t, u576.1 60 18 = t := ⟨_, rfl⟩
            have Rt582 : 0 ≤ t582 ∧ t582 ≤ 6 := by rw [← Tt582]; exact iv_at hu576 _ _ rfl
            refine g_aload_n dX7_readLine_87 rfl ?_
            refine f_X7_91 rfl rfl dX7_readLine_88 ?_
            refine g_topi (fun x583 ex583 => ?_)
            have rx583 : 0 ≤ x583 ∧ x583 ≤ 6 := by rw [ex583]; exact iv_at hu576 _ _ rfl
            have qx583 : x583 = t582 := ex583.trans Tt582
            refine g_if_ne (tgt := 112) dX7_readLine_91 (by decide) (fun c584 => ?_) (fun c584 => ?_)
            · refine g_aload_n dX7_readLine_112 rfl ?_
              refine cl_X7_133 (c := 60) (As := []) rfl (c_X7_next (G := G) hs hu576    (d + 2)) rfl (by omega) rfl rfl (Nat.le_of_ble_eq_true rfl) dX7_readLine_113 (fun r585 u586 q587 => ?_)
              obtain ⟨rfl, mq587⟩ := q587
              obtain ⟨hu586, gu586, ku5860, ku5861, ku5862, ku5863⟩ := mq587
              have fu586 : fk [60, 66, 67, 68] [3, 13, 22, 28] u u586 := fk_tr fu576 gu586 (by decide) (by decide)
              have rfu586 : rf u586 := rf_mono rfu576 gu586 ku5860 (by decide) (by decide) (by decide) (by decide)
              have T588 : u586.1 60 7 = t578 := (fk_at gu586 (by decide)).trans Tt578
              obtain ⟨t589, Tt589⟩ : ∃ t, u586.1 60 14 = t := ⟨_, rfl⟩
              have Rt589 : 0 ≤ t589 ∧ t589 ≤ 160 := by rw [← Tt589]; exact iv_at hu586 _ _ rfl
              obtain ⟨t590, Tt590⟩ : ∃ t, u586.1 60 15 = t := ⟨_, rfl⟩
              have Rt590 : 0 ≤ t590 ∧ t590 ≤ 160 := by rw [← Tt590]; exact iv_at hu586 _ _ rfl
              obtain ⟨t591, Tt591⟩ : ∃ t, u586.1 60 16 = t := ⟨_, rfl⟩
              obtain ⟨t592, Tt592⟩ : ∃ t, u586.1 60 18 = t := ⟨_, rfl⟩
              have Rt592 : 0 ≤ t592 ∧ t592 ≤ 6 := by rw [← Tt592]; exact iv_at hu586 _ _ rfl
              exact g_vret dX7_readLine_116 rfl ⟨rfl, hu586, fu586, rfu586, (by first | rfl | (rw [Tt592]; grind) | rw [Tt592]), (by first | rfl | (rw [Tt592, Tt590]; grind) | rw [Tt592, Tt590])⟩
            · refine g_aload_n dX7_readLine_94 rfl ?_
              refine g_aload_n dX7_readLine_95 rfl ?_
              refine f_X7_111 rfl rfl dX7_readLine_96 ?_
              refine g_topi (fun x593 ex593 => ?_)
              have qx593 : x593 = t581 := ex593.trans Tt581
              refine g_iconst (v := 3) dX7_readLine_99 (by decide) ?_
              refine g_icmp_ne (tgt := 107) dX7_readLine_100 (by decide) (fun c594 => ?_) (fun c594 => ?_)
              · refine g_iconst (v := 0) dX7_readLine_107 (by decide) ?_
                refine g_iconst (v := 2) dX7_readLine_108 (by decide) ?_
                refine cl_X7_125 (c := 60) (As := [.int 0, .int 2]) rfl (c_X7_needs (G := G) hs hu576  0 2 (by first | trivial | decide | lia | grind) (by first | trivial | decide | lia | grind) (d + 3)) rfl (by omega) rfl rfl (Nat.le_of_ble_eq_true rfl) dX7_readLine_109 (fun r595 u596 q597 => ?_)
                obtain ⟨rfl, mq597⟩ := q597
                obtain ⟨hu596, gu596, ku5960⟩ := mq597
                have fu596 : fk [60, 66, 67, 68] [3, 13, 22, 28] u u596 := fk_tr fu576 gu596 (by decide) (by decide)
                have rfu596 : rf u596 := rf_mono rfu576 gu596 (fun q => (ku5960 q).1) (by decide) (by decide) (by decide) (by decide)
                have T598 : u596.1 60 7 = t578 := (fk_at gu596 (by decide)).trans Tt578
                have T599 : u596.1 60 14 = t579 := (fk_at gu596 (by decide)).trans Tt579
                have T600 : u596.1 60 15 = t580 := (fk_at gu596 (by decide)).trans Tt580
                have T601 : u596.1 60 16 = t581 := (fk_at gu596 (by decide)).trans Tt581
                obtain ⟨t602, Tt602⟩ : ∃ t, u596.1 60 18 = t := ⟨_, rfl⟩
                have Rt602 : 0 ≤ t602 ∧ t602 ≤ 6 := by rw [← Tt602]; exact iv_at hu596 _ _ rfl
                refine g_aload_n dX7_readLine_112 rfl ?_
                refine cl_X7_133 (c := 60) (As := []) rfl (c_X7_next (G := G) hs hu596    (d + 2)) rfl (by omega) rfl rfl (Nat.le_of_ble_eq_true rfl) dX7_readLine_113 (fun r603 u604 q605 => ?_)
                obtain ⟨rfl, mq605⟩ := q605
                obtain ⟨hu604, gu604, ku6040, ku6041, ku6042, ku6043⟩ := mq605
                have fu604 : fk [60, 66, 67, 68] [3, 13, 22, 28] u u604 := fk_tr fu596 gu604 (by decide) (by decide)
                have rfu604 : rf u604 := rf_mono rfu596 gu604 ku6040 (by decide) (by decide) (by decide) (by decide)
                have T606 : u604.1 60 7 = t578 := (fk_at gu604 (by decide)).trans T598
                obtain ⟨t607, Tt607⟩ : ∃ t, u604.1 60 14 = t := ⟨_, rfl⟩
                have Rt607 : 0 ≤ t607 ∧ t607 ≤ 160 := by rw [← Tt607]; exact iv_at hu604 _ _ rfl
                obtain ⟨t608, Tt608⟩ : ∃ t, u604.1 60 15 = t := ⟨_, rfl⟩
                have Rt608 : 0 ≤ t608 ∧ t608 ≤ 160 := by rw [← Tt608]; exact iv_at hu604 _ _ rfl
                obtain ⟨t609, Tt609⟩ : ∃ t, u604.1 60 16 = t := ⟨_, rfl⟩
                obtain ⟨t610, Tt610⟩ : ∃ t, u604.1 60 18 = t := ⟨_, rfl⟩
                have Rt610 : 0 ≤ t610 ∧ t610 ≤ 6 := by rw [← Tt610]; exact iv_at hu604 _ _ rfl
                exact g_vret dX7_readLine_116 rfl ⟨rfl, hu604, fu604, rfu604, (by first | rfl | (rw [Tt610]; grind) | rw [Tt610]), (by first | rfl | (rw [Tt610, Tt608]; grind) | rw [Tt610, Tt608])⟩
              · refine g_iconst (v := 1) dX7_readLine_103 (by decide) ?_
                refine g_goto (tgt := 108) dX7_readLine_104 (by decide) ?_
                refine g_iconst (v := 2) dX7_readLine_108 (by decide) ?_
                refine cl_X7_125 (c := 60) (As := [.int 1, .int 2]) rfl (c_X7_needs (G := G) hs hu576  1 2 (by first | trivial | decide | lia | grind) (by first | trivial | decide | lia | grind) (d + 3)) rfl (by omega) rfl rfl (Nat.le_of_ble_eq_true rfl) dX7_readLine_109 (fun r611 u612 q613 => ?_)
                obtain ⟨rfl, mq613⟩ := q613
                obtain ⟨hu612, gu612, ku6120⟩ := mq613
                have fu612 : fk [60, 66, 67, 68] [3, 13, 22, 28] u u612 := fk_tr fu576 gu612 (by decide) (by decide)
                have rfu612 : rf u612 := rf_mono rfu576 gu612 (fun q => (ku6120 q).1) (by decide) (by decide) (by decide) (by decide)
                have T614 : u612.1 60 7 = t578 := (fk_at gu612 (by decide)).trans Tt578
                have T615 : u612.1 60 14 = t579 := (fk_at gu612 (by decide)).trans Tt579
                have T616 : u612.1 60 15 = t580 := (fk_at gu612 (by decide)).trans Tt580
                have T617 : u612.1 60 16 = t581 := (fk_at gu612 (by decide)).trans Tt581
                obtain ⟨t618, Tt618⟩ : ∃ t, u612.1 60 18 = t := ⟨_, rfl⟩
                have Rt618 : 0 ≤ t618 ∧ t618 ≤ 6 := by rw [← Tt618]; exact iv_at hu612 _ _ rfl
                refine g_aload_n dX7_readLine_112 rfl ?_
                refine cl_X7_133 (c := 60) (As := []) rfl (c_X7_next (G := G) hs hu612    (d + 2)) rfl (by omega) rfl rfl (Nat.le_of_ble_eq_true rfl) dX7_readLine_113 (fun r619 u620 q621 => ?_)
                obtain ⟨rfl, mq621⟩ := q621
                obtain ⟨hu620, gu620, ku6200, ku6201, ku6202, ku6203⟩ := mq621
                have fu620 : fk [60, 66, 67, 68] [3, 13, 22, 28] u u620 := fk_tr fu612 gu620 (by decide) (by decide)
                have rfu620 : rf u620 := rf_mono rfu612 gu620 ku6200 (by decide) (by decide) (by decide) (by decide)
                have T622 : u620.1 60 7 = t578 := (fk_at gu620 (by decide)).trans T614
                obtain ⟨t623, Tt623⟩ : ∃ t, u620.1 60 14 = t := ⟨_, rfl⟩
                have Rt623 : 0 ≤ t623 ∧ t623 ≤ 160 := by rw [← Tt623]; exact iv_at hu620 _ _ rfl
                obtain ⟨t624, Tt624⟩ : ∃ t, u620.1 60 15 = t := ⟨_, rfl⟩
                have Rt624 : 0 ≤ t624 ∧ t624 ≤ 160 := by rw [← Tt624]; exact iv_at hu620 _ _ rfl
                obtain ⟨t625, Tt625⟩ : ∃ t, u620.1 60 16 = t := ⟨_, rfl⟩
                obtain ⟨t626, Tt626⟩ : ∃ t, u620.1 60 18 = t := ⟨_, rfl⟩
                have Rt626 : 0 ≤ t626 ∧ t626 ≤ 6 := by rw [← Tt626]; exact iv_at hu620 _ _ rfl
                exact g_vret dX7_readLine_116 rfl ⟨rfl, hu620, fu620, rfu620, (by first | rfl | (rw [Tt626]; grind) | rw [Tt626]), (by first | rfl | (rw [Tt626, Tt624]; grind) | rw [Tt626, Tt624])⟩
          · refine g_aload_n dX7_readLine_75 rfl ?_
            refine cl_X7_143 (c := 60) (As := []) rfl (c_X7_readHave (G := G) hs hu565 rfu565    (d)) rfl (by omega) rfl rfl (Nat.le_of_ble_eq_true rfl) dX7_readLine_76 (fun r627 u628 q629 => ?_)
            obtain ⟨rfl, mq629⟩ := q629
            obtain ⟨hu628, gu628, rfu628, ku6280, ku6281⟩ := mq629
            have fu628 : fk [60, 66, 67, 68] [3, 13, 22, 28] u u628 := fk_tr fu565 gu628 (by decide) (by decide)
            have T630 : u628.1 60 7 = t1 := (fk_at gu628 (by decide)).trans T567
            obtain ⟨t631, Tt631⟩ : ∃ t, u628.1 60 14 = t := ⟨_, rfl⟩
            have Rt631 : 0 ≤ t631 ∧ t631 ≤ 160 := by rw [← Tt631]; exact iv_at hu628 _ _ rfl
            obtain ⟨t632, Tt632⟩ : ∃ t, u628.1 60 15 = t := ⟨_, rfl⟩
            have Rt632 : 0 ≤ t632 ∧ t632 ≤ 160 := by rw [← Tt632]; exact iv_at hu628 _ _ rfl
            obtain ⟨t633, Tt633⟩ : ∃ t, u628.1 60 16 = t := ⟨_, rfl⟩
            obtain ⟨t634, Tt634⟩ : ∃ t, u628.1 60 18 = t := ⟨_, rfl⟩
            have Rt634 : 0 ≤ t634 ∧ t634 ≤ 6 := by rw [← Tt634]; exact iv_at hu628 _ _ rfl
            refine g_goto (tgt := 87) dX7_readLine_79 (by decide) ?_
            refine g_aload_n dX7_readLine_87 rfl ?_
            refine f_X7_91 rfl rfl dX7_readLine_88 ?_
            refine g_topi (fun x635 ex635 => ?_)
            have rx635 : 0 ≤ x635 ∧ x635 ≤ 6 := by rw [ex635]; exact iv_at hu628 _ _ rfl
            have qx635 : x635 = t634 := ex635.trans Tt634
            refine g_if_ne (tgt := 112) dX7_readLine_91 (by decide) (fun c636 => ?_) (fun c636 => ?_)
            · refine g_aload_n dX7_readLine_112 rfl ?_
              refine cl_X7_133 (c := 60) (As := []) rfl (c_X7_next (G := G) hs hu628    (d + 2)) rfl (by omega) rfl rfl (Nat.le_of_ble_eq_true rfl) dX7_readLine_113 (fun r637 u638 q639 => ?_)
              obtain ⟨rfl, mq639⟩ := q639
              obtain ⟨hu638, gu638, ku6380, ku6381, ku6382, ku6383⟩ := mq639
              have fu638 : fk [60, 66, 67, 68] [3, 13, 22, 28] u u638 := fk_tr fu628 gu638 (by decide) (by decide)
              have rfu638 : rf u638 := rf_mono rfu628 gu638 ku6380 (by decide) (by decide) (by decide) (by decide)
              have T640 : u638.1 60 7 = t1 := (fk_at gu638 (by decide)).trans T630
              obtain ⟨t641, Tt641⟩ : ∃ t, u638.1 60 14 = t := ⟨_, rfl⟩
              have Rt641 : 0 ≤ t641 ∧ t641 ≤ 160 := by rw [← Tt641]; exact iv_at hu638 _ _ rfl
              obtain ⟨t642, Tt642⟩ : ∃ t, u638.1 60 15 = t := ⟨_, rfl⟩
              have Rt642 : 0 ≤ t642 ∧ t642 ≤ 160 := by rw [← Tt642]; exact iv_at hu638 _ _ rfl
              obtain ⟨t643, Tt643⟩ : ∃ t, u638.1 60 16 = t := ⟨_, rfl⟩
              obtain ⟨t644, Tt644⟩ : ∃ t, u638.1 60 18 = t := ⟨_, rfl⟩
              have Rt644 : 0 ≤ t644 ∧ t644 ≤ 6 := by rw [← Tt644]; exact iv_at hu638 _ _ rfl
              exact g_vret dX7_readLine_116 rfl ⟨rfl, hu638, fu638, rfu638, (by first | rfl | (rw [Tt644]; grind) | rw [Tt644]), (by first | rfl | (rw [Tt644, Tt642]; grind) | rw [Tt644, Tt642])⟩
            · refine g_aload_n dX7_readLine_94 rfl ?_
              refine g_aload_n dX7_readLine_95 rfl ?_
              refine f_X7_111 rfl rfl dX7_readLine_96 ?_
              refine g_topi (fun x645 ex645 => ?_)
              have qx645 : x645 = t633 := ex645.trans Tt633
              refine g_iconst (v := 3) dX7_readLine_99 (by decide) ?_
              refine g_icmp_ne (tgt := 107) dX7_readLine_100 (by decide) (fun c646 => ?_) (fun c646 => ?_)
              · refine g_iconst (v := 0) dX7_readLine_107 (by decide) ?_
                refine g_iconst (v := 2) dX7_readLine_108 (by decide) ?_
                refine cl_X7_125 (c := 60) (As := [.int 0, .int 2]) rfl (c_X7_needs (G := G) hs hu628  0 2 (by first | trivial | decide | lia | grind) (by first | trivial | decide | lia | grind) (d + 3)) rfl (by omega) rfl rfl (Nat.le_of_ble_eq_true rfl) dX7_readLine_109 (fun r647 u648 q649 => ?_)
                obtain ⟨rfl, mq649⟩ := q649
                obtain ⟨hu648, gu648, ku6480⟩ := mq649
                have fu648 : fk [60, 66, 67, 68] [3, 13, 22, 28] u u648 := fk_tr fu628 gu648 (by decide) (by decide)
                have rfu648 : rf u648 := rf_mono rfu628 gu648 (fun q => (ku6480 q).1) (by decide) (by decide) (by decide) (by decide)
                have T650 : u648.1 60 7 = t1 := (fk_at gu648 (by decide)).trans T630
                have T651 : u648.1 60 14 = t631 := (fk_at gu648 (by decide)).trans Tt631
                have T652 : u648.1 60 15 = t632 := (fk_at gu648 (by decide)).trans Tt632
                have T653 : u648.1 60 16 = t633 := (fk_at gu648 (by decide)).trans Tt633
                obtain ⟨t654, Tt654⟩ : ∃ t, u648.1 60 18 = t := ⟨_, rfl⟩
                have Rt654 : 0 ≤ t654 ∧ t654 ≤ 6 := by rw [← Tt654]; exact iv_at hu648 _ _ rfl
                refine g_aload_n dX7_readLine_112 rfl ?_
                refine cl_X7_133 (c := 60) (As := []) rfl (c_X7_next (G := G) hs hu648    (d + 2)) rfl (by omega) rfl rfl (Nat.le_of_ble_eq_true rfl) dX7_readLine_113 (fun r655 u656 q657 => ?_)
                obtain ⟨rfl, mq657⟩ := q657
                obtain ⟨hu656, gu656, ku6560, ku6561, ku6562, ku6563⟩ := mq657
                have fu656 : fk [60, 66, 67, 68] [3, 13, 22, 28] u u656 := fk_tr fu648 gu656 (by decide) (by decide)
                have rfu656 : rf u656 := rf_mono rfu648 gu656 ku6560 (by decide) (by decide) (by decide) (by decide)
                have T658 : u656.1 60 7 = t1 := (fk_at gu656 (by decide)).trans T650
                obtain ⟨t659, Tt659⟩ : ∃ t, u656.1 60 14 = t := ⟨_, rfl⟩
                have Rt659 : 0 ≤ t659 ∧ t659 ≤ 160 := by rw [← Tt659]; exact iv_at hu656 _ _ rfl
                obtain ⟨t660, Tt660⟩ : ∃ t, u656.1 60 15 = t := ⟨_, rfl⟩
                have Rt660 : 0 ≤ t660 ∧ t660 ≤ 160 := by rw [← Tt660]; exact iv_at hu656 _ _ rfl
                obtain ⟨t661, Tt661⟩ : ∃ t, u656.1 60 16 = t := ⟨_, rfl⟩
                obtain ⟨t662, Tt662⟩ : ∃ t, u656.1 60 18 = t := ⟨_, rfl⟩
                have Rt662 : 0 ≤ t662 ∧ t662 ≤ 6 := by rw [← Tt662]; exact iv_at hu656 _ _ rfl
                exact g_vret dX7_readLine_116 rfl ⟨rfl, hu656, fu656, rfu656, (by first | rfl | (rw [Tt662]; grind) | rw [Tt662]), (by first | rfl | (rw [Tt662, Tt660]; grind) | rw [Tt662, Tt660])⟩
              · refine g_iconst (v := 1) dX7_readLine_103 (by decide) ?_
                refine g_goto (tgt := 108) dX7_readLine_104 (by decide) ?_
                refine g_iconst (v := 2) dX7_readLine_108 (by decide) ?_
                refine cl_X7_125 (c := 60) (As := [.int 1, .int 2]) rfl (c_X7_needs (G := G) hs hu628  1 2 (by first | trivial | decide | lia | grind) (by first | trivial | decide | lia | grind) (d + 3)) rfl (by omega) rfl rfl (Nat.le_of_ble_eq_true rfl) dX7_readLine_109 (fun r663 u664 q665 => ?_)
                obtain ⟨rfl, mq665⟩ := q665
                obtain ⟨hu664, gu664, ku6640⟩ := mq665
                have fu664 : fk [60, 66, 67, 68] [3, 13, 22, 28] u u664 := fk_tr fu628 gu664 (by decide) (by decide)
                have rfu664 : rf u664 := rf_mono rfu628 gu664 (fun q => (ku6640 q).1) (by decide) (by decide) (by decide) (by decide)
                have T666 : u664.1 60 7 = t1 := (fk_at gu664 (by decide)).trans T630
                have T667 : u664.1 60 14 = t631 := (fk_at gu664 (by decide)).trans Tt631
                have T668 : u664.1 60 15 = t632 := (fk_at gu664 (by decide)).trans Tt632
                have T669 : u664.1 60 16 = t633 := (fk_at gu664 (by decide)).trans Tt633
                obtain ⟨t670, Tt670⟩ : ∃ t, u664.1 60 18 = t := ⟨_, rfl⟩
                have Rt670 : 0 ≤ t670 ∧ t670 ≤ 6 := by rw [← Tt670]; exact iv_at hu664 _ _ rfl
                refine g_aload_n dX7_readLine_112 rfl ?_
                refine cl_X7_133 (c := 60) (As := []) rfl (c_X7_next (G := G) hs hu664    (d + 2)) rfl (by omega) rfl rfl (Nat.le_of_ble_eq_true rfl) dX7_readLine_113 (fun r671 u672 q673 => ?_)
                obtain ⟨rfl, mq673⟩ := q673
                obtain ⟨hu672, gu672, ku6720, ku6721, ku6722, ku6723⟩ := mq673
                have fu672 : fk [60, 66, 67, 68] [3, 13, 22, 28] u u672 := fk_tr fu664 gu672 (by decide) (by decide)
                have rfu672 : rf u672 := rf_mono rfu664 gu672 ku6720 (by decide) (by decide) (by decide) (by decide)
                have T674 : u672.1 60 7 = t1 := (fk_at gu672 (by decide)).trans T666
                obtain ⟨t675, Tt675⟩ : ∃ t, u672.1 60 14 = t := ⟨_, rfl⟩
                have Rt675 : 0 ≤ t675 ∧ t675 ≤ 160 := by rw [← Tt675]; exact iv_at hu672 _ _ rfl
                obtain ⟨t676, Tt676⟩ : ∃ t, u672.1 60 15 = t := ⟨_, rfl⟩
                have Rt676 : 0 ≤ t676 ∧ t676 ≤ 160 := by rw [← Tt676]; exact iv_at hu672 _ _ rfl
                obtain ⟨t677, Tt677⟩ : ∃ t, u672.1 60 16 = t := ⟨_, rfl⟩
                obtain ⟨t678, Tt678⟩ : ∃ t, u672.1 60 18 = t := ⟨_, rfl⟩
                have Rt678 : 0 ≤ t678 ∧ t678 ≤ 6 := by rw [← Tt678]; exact iv_at hu672 _ _ rfl
                exact g_vret dX7_readLine_116 rfl ⟨rfl, hu672, fu672, rfu672, (by first | rfl | (rw [Tt678]; grind) | rw [Tt678]), (by first | rfl | (rw [Tt678, Tt676]; grind) | rw [Tt678, Tt676])⟩
        · exact g_vret dX7_readLine_69 rfl ⟨rfl, hu565, fu565, rfu565, (by first | rfl | (rw [Tt571]; grind) | rw [Tt571]), (by first | rfl | (rw [Tt571, Tt569]; grind) | rw [Tt571, Tt569])⟩
      · refine g_aload_n dX7_readLine_40 rfl ?_
        refine f_X7_69 rfl rfl dX7_readLine_41 ?_
        refine g_topi (fun x679 ex679 => ?_)
        have rx679 : 0 ≤ x679 ∧ x679 ≤ 8 := by rw [ex679]; exact iv_at hu548 _ _ rfl
        have qx679 : x679 = t1 := ex679.trans T550
        refine g_bipush (v := 8) dX7_readLine_44 (by decide) ?_
        refine g_icmp_ge (tgt := 53) dX7_readLine_46 (by decide) (fun c680 => ?_) (fun c680 => ?_)
        · refine g_iconst (v := 0) dX7_readLine_53 (by decide) ?_
          refine g_iconst (v := 5) dX7_readLine_54 (by decide) ?_
          refine cl_X7_125 (c := 60) (As := [.int 0, .int 5]) rfl (c_X7_needs (G := G) hs hu548  0 5 (by first | trivial | decide | lia | grind) (by first | trivial | decide | lia | grind) (d + 3)) rfl (by omega) rfl rfl (Nat.le_of_ble_eq_true rfl) dX7_readLine_55 (fun r681 u682 q683 => ?_)
          obtain ⟨rfl, mq683⟩ := q683
          obtain ⟨hu682, gu682, ku6820⟩ := mq683
          have fu682 : fk [60, 66, 67, 68] [3, 13, 22, 28] u u682 := fk_tr fu548 gu682 (by decide) (by decide)
          have rfu682 : rf u682 := rf_mono rfu548 gu682 (fun q => (ku6820 q).1) (by decide) (by decide) (by decide) (by decide)
          have T684 : u682.1 60 7 = t1 := (fk_at gu682 (by decide)).trans T550
          have T685 : u682.1 60 14 = t2 := (fk_at gu682 (by decide)).trans T551
          have T686 : u682.1 60 15 = t3 := (fk_at gu682 (by decide)).trans T552
          have T687 : u682.1 60 16 = t4 := (fk_at gu682 (by decide)).trans T553
          obtain ⟨t688, Tt688⟩ : ∃ t, u682.1 60 18 = t := ⟨_, rfl⟩
          have Rt688 : 0 ≤ t688 ∧ t688 ≤ 6 := by rw [← Tt688]; exact iv_at hu682 _ _ rfl
          refine g_aload_n dX7_readLine_58 rfl ?_
          refine cl_X7_133 (c := 60) (As := []) rfl (c_X7_next (G := G) hs hu682    (d + 2)) rfl (by omega) rfl rfl (Nat.le_of_ble_eq_true rfl) dX7_readLine_59 (fun r689 u690 q691 => ?_)
          obtain ⟨rfl, mq691⟩ := q691
          obtain ⟨hu690, gu690, ku6900, ku6901, ku6902, ku6903⟩ := mq691
          have fu690 : fk [60, 66, 67, 68] [3, 13, 22, 28] u u690 := fk_tr fu682 gu690 (by decide) (by decide)
          have rfu690 : rf u690 := rf_mono rfu682 gu690 ku6900 (by decide) (by decide) (by decide) (by decide)
          have T692 : u690.1 60 7 = t1 := (fk_at gu690 (by decide)).trans T684
          obtain ⟨t693, Tt693⟩ : ∃ t, u690.1 60 14 = t := ⟨_, rfl⟩
          have Rt693 : 0 ≤ t693 ∧ t693 ≤ 160 := by rw [← Tt693]; exact iv_at hu690 _ _ rfl
          obtain ⟨t694, Tt694⟩ : ∃ t, u690.1 60 15 = t := ⟨_, rfl⟩
          have Rt694 : 0 ≤ t694 ∧ t694 ≤ 160 := by rw [← Tt694]; exact iv_at hu690 _ _ rfl
          obtain ⟨t695, Tt695⟩ : ∃ t, u690.1 60 16 = t := ⟨_, rfl⟩
          obtain ⟨t696, Tt696⟩ : ∃ t, u690.1 60 18 = t := ⟨_, rfl⟩
          have Rt696 : 0 ≤ t696 ∧ t696 ≤ 6 := by rw [← Tt696]; exact iv_at hu690 _ _ rfl
          refine g_aload_n dX7_readLine_62 rfl ?_
          refine f_X7_91 rfl rfl dX7_readLine_63 ?_
          refine g_topi (fun x697 ex697 => ?_)
          have rx697 : 0 ≤ x697 ∧ x697 ≤ 6 := by rw [ex697]; exact iv_at hu690 _ _ rfl
          have qx697 : x697 = t696 := ex697.trans Tt696
          refine g_if_le (tgt := 70) dX7_readLine_66 (by decide) (fun c698 => ?_) (fun c698 => ?_)
          · refine g_iload_n dX7_readLine_70 rfl ?_
            refine g_iconst (v := 5) dX7_readLine_71 (by decide) ?_
            refine g_icmp_ne (tgt := 82) dX7_readLine_72 (by decide) (fun c699 => ?_) (fun c699 => ?_)
            · refine g_aload_n dX7_readLine_82 rfl ?_
              refine g_iload_n dX7_readLine_83 rfl ?_
              refine cl_X7_146 (c := 60) (As := [.int x165]) rfl (c_X7_readStuff (G := G) hs hu690 rfu690  x165 (by first | trivial | decide | lia | grind) (d)) rfl (by omega) rfl rfl (Nat.le_of_ble_eq_true rfl) dX7_readLine_84 (fun r700 u701 q702 => ?_)
              obtain ⟨rfl, mq702⟩ := q702
              obtain ⟨hu701, gu701, rfu701, ku7010, ku7011⟩ := mq702
              have fu701 : fk [60, 66, 67, 68] [3, 13, 22, 28] u u701 := fk_tr fu690 gu701 (by decide) (by decide)
              obtain ⟨t703, Tt703⟩ : ∃ t, u701.1 60 7 = t := ⟨_, rfl⟩
              have Rt703 : 0 ≤ t703 ∧ t703 ≤ 8 := by rw [← Tt703]; exact iv_at hu701 _ _ rfl
              obtain ⟨t704, Tt704⟩ : ∃ t, u701.1 60 14 = t := ⟨_, rfl⟩
              have Rt704 : 0 ≤ t704 ∧ t704 ≤ 160 := by rw [← Tt704]; exact iv_at hu701 _ _ rfl
              obtain ⟨t705, Tt705⟩ : ∃ t, u701.1 60 15 = t := ⟨_, rfl⟩
              have Rt705 : 0 ≤ t705 ∧ t705 ≤ 160 := by rw [← Tt705]; exact iv_at hu701 _ _ rfl
              obtain ⟨t706, Tt706⟩ : ∃ t, u701.1 60 16 = t := ⟨_, rfl⟩
              obtain ⟨t707, Tt707⟩ : ∃ t, u701.1 60 18 = t := ⟨_, rfl⟩
              have Rt707 : 0 ≤ t707 ∧ t707 ≤ 6 := by rw [← Tt707]; exact iv_at hu701 _ _ rfl
              refine g_aload_n dX7_readLine_87 rfl ?_
              refine f_X7_91 rfl rfl dX7_readLine_88 ?_
              refine g_topi (fun x708 ex708 => ?_)
              have rx708 : 0 ≤ x708 ∧ x708 ≤ 6 := by rw [ex708]; exact iv_at hu701 _ _ rfl
              have qx708 : x708 = t707 := ex708.trans Tt707
              refine g_if_ne (tgt := 112) dX7_readLine_91 (by decide) (fun c709 => ?_) (fun c709 => ?_)
              · refine g_aload_n dX7_readLine_112 rfl ?_
                refine cl_X7_133 (c := 60) (As := []) rfl (c_X7_next (G := G) hs hu701    (d + 2)) rfl (by omega) rfl rfl (Nat.le_of_ble_eq_true rfl) dX7_readLine_113 (fun r710 u711 q712 => ?_)
                obtain ⟨rfl, mq712⟩ := q712
                obtain ⟨hu711, gu711, ku7110, ku7111, ku7112, ku7113⟩ := mq712
                have fu711 : fk [60, 66, 67, 68] [3, 13, 22, 28] u u711 := fk_tr fu701 gu711 (by decide) (by decide)
                have rfu711 : rf u711 := rf_mono rfu701 gu711 ku7110 (by decide) (by decide) (by decide) (by decide)
                have T713 : u711.1 60 7 = t703 := (fk_at gu711 (by decide)).trans Tt703
                obtain ⟨t714, Tt714⟩ : ∃ t, u711.1 60 14 = t := ⟨_, rfl⟩
                have Rt714 : 0 ≤ t714 ∧ t714 ≤ 160 := by rw [← Tt714]; exact iv_at hu711 _ _ rfl
                obtain ⟨t715, Tt715⟩ : ∃ t, u711.1 60 15 = t := ⟨_, rfl⟩
                have Rt715 : 0 ≤ t715 ∧ t715 ≤ 160 := by rw [← Tt715]; exact iv_at hu711 _ _ rfl
                obtain ⟨t716, Tt716⟩ : ∃ t, u711.1 60 16 = t := ⟨_, rfl⟩
                obtain ⟨t717, Tt717⟩ : ∃ t, u711.1 60 18 = t := ⟨_, rfl⟩
                have Rt717 : 0 ≤ t717 ∧ t717 ≤ 6 := by rw [← Tt717]; exact iv_at hu711 _ _ rfl
                exact g_vret dX7_readLine_116 rfl ⟨rfl, hu711, fu711, rfu711, (by first | rfl | (rw [Tt717]; grind) | rw [Tt717]), (by first | rfl | (rw [Tt717, Tt715]; grind) | rw [Tt717, Tt715])⟩
              · refine g_aload_n dX7_readLine_94 rfl ?_
                refine g_aload_n dX7_readLine_95 rfl ?_
                refine f_X7_111 rfl rfl dX7_readLine_96 ?_
                refine g_topi (fun x718 ex718 => ?_)
                have qx718 : x718 = t706 := ex718.trans Tt706
                refine g_iconst (v := 3) dX7_readLine_99 (by decide) ?_
                refine g_icmp_ne (tgt := 107) dX7_readLine_100 (by decide) (fun c719 => ?_) (fun c719 => ?_)
                · refine g_iconst (v := 0) dX7_readLine_107 (by decide) ?_
                  refine g_iconst (v := 2) dX7_readLine_108 (by decide) ?_
                  refine cl_X7_125 (c := 60) (As := [.int 0, .int 2]) rfl (c_X7_needs (G := G) hs hu701  0 2 (by first | trivial | decide | lia | grind) (by first | trivial | decide | lia | grind) (d + 3)) rfl (by omega) rfl rfl (Nat.le_of_ble_eq_true rfl) dX7_readLine_109 (fun r720 u721 q722 => ?_)
                  obtain ⟨rfl, mq722⟩ := q722
                  obtain ⟨hu721, gu721, ku7210⟩ := mq722
                  have fu721 : fk [60, 66, 67, 68] [3, 13, 22, 28] u u721 := fk_tr fu701 gu721 (by decide) (by decide)
                  have rfu721 : rf u721 := rf_mono rfu701 gu721 (fun q => (ku7210 q).1) (by decide) (by decide) (by decide) (by decide)
                  have T723 : u721.1 60 7 = t703 := (fk_at gu721 (by decide)).trans Tt703
                  have T724 : u721.1 60 14 = t704 := (fk_at gu721 (by decide)).trans Tt704
                  have T725 : u721.1 60 15 = t705 := (fk_at gu721 (by decide)).trans Tt705
                  have T726 : u721.1 60 16 = t706 := (fk_at gu721 (by decide)).trans Tt706
                  obtain ⟨t727, Tt727⟩ : ∃ t, u721.1 60 18 = t := ⟨_, rfl⟩
                  have Rt727 : 0 ≤ t727 ∧ t727 ≤ 6 := by rw [← Tt727]; exact iv_at hu721 _ _ rfl
                  refine g_aload_n dX7_readLine_112 rfl ?_
                  refine cl_X7_133 (c := 60) (As := []) rfl (c_X7_next (G := G) hs hu721    (d + 2)) rfl (by omega) rfl rfl (Nat.le_of_ble_eq_true rfl) dX7_readLine_113 (fun r728 u729 q730 => ?_)
                  obtain ⟨rfl, mq730⟩ := q730
                  obtain ⟨hu729, gu729, ku7290, ku7291, ku7292, ku7293⟩ := mq730
                  have fu729 : fk [60, 66, 67, 68] [3, 13, 22, 28] u u729 := fk_tr fu721 gu729 (by decide) (by decide)
                  have rfu729 : rf u729 := rf_mono rfu721 gu729 ku7290 (by decide) (by decide) (by decide) (by decide)
                  have T731 : u729.1 60 7 = t703 := (fk_at gu729 (by decide)).trans T723
                  obtain ⟨t732, Tt732⟩ : ∃ t, u729.1 60 14 = t := ⟨_, rfl⟩
                  have Rt732 : 0 ≤ t732 ∧ t732 ≤ 160 := by rw [← Tt732]; exact iv_at hu729 _ _ rfl
                  obtain ⟨t733, Tt733⟩ : ∃ t, u729.1 60 15 = t := ⟨_, rfl⟩
                  have Rt733 : 0 ≤ t733 ∧ t733 ≤ 160 := by rw [← Tt733]; exact iv_at hu729 _ _ rfl
                  obtain ⟨t734, Tt734⟩ : ∃ t, u729.1 60 16 = t := ⟨_, rfl⟩
                  obtain ⟨t735, Tt735⟩ : ∃ t, u729.1 60 18 = t := ⟨_, rfl⟩
                  have Rt735 : 0 ≤ t735 ∧ t735 ≤ 6 := by rw [← Tt735]; exact iv_at hu729 _ _ rfl
                  exact g_vret dX7_readLine_116 rfl ⟨rfl, hu729, fu729, rfu729, (by first | rfl | (rw [Tt735]; grind) | rw [Tt735]), (by first | rfl | (rw [Tt735, Tt733]; grind) | rw [Tt735, Tt733])⟩
                · refine g_iconst (v := 1) dX7_readLine_103 (by decide) ?_
                  refine g_goto (tgt := 108) dX7_readLine_104 (by decide) ?_
                  refine g_iconst (v := 2) dX7_readLine_108 (by decide) ?_
                  refine cl_X7_125 (c := 60) (As := [.int 1, .int 2]) rfl (c_X7_needs (G := G) hs hu701  1 2 (by first | trivial | decide | lia | grind) (by first | trivial | decide | lia | grind) (d + 3)) rfl (by omega) rfl rfl (Nat.le_of_ble_eq_true rfl) dX7_readLine_109 (fun r736 u737 q738 => ?_)
                  obtain ⟨rfl, mq738⟩ := q738
                  obtain ⟨hu737, gu737, ku7370⟩ := mq738
                  have fu737 : fk [60, 66, 67, 68] [3, 13, 22, 28] u u737 := fk_tr fu701 gu737 (by decide) (by decide)
                  have rfu737 : rf u737 := rf_mono rfu701 gu737 (fun q => (ku7370 q).1) (by decide) (by decide) (by decide) (by decide)
                  have T739 : u737.1 60 7 = t703 := (fk_at gu737 (by decide)).trans Tt703
                  have T740 : u737.1 60 14 = t704 := (fk_at gu737 (by decide)).trans Tt704
                  have T741 : u737.1 60 15 = t705 := (fk_at gu737 (by decide)).trans Tt705
                  have T742 : u737.1 60 16 = t706 := (fk_at gu737 (by decide)).trans Tt706
                  obtain ⟨t743, Tt743⟩ : ∃ t, u737.1 60 18 = t := ⟨_, rfl⟩
                  have Rt743 : 0 ≤ t743 ∧ t743 ≤ 6 := by rw [← Tt743]; exact iv_at hu737 _ _ rfl
                  refine g_aload_n dX7_readLine_112 rfl ?_
                  refine cl_X7_133 (c := 60) (As := []) rfl (c_X7_next (G := G) hs hu737    (d + 2)) rfl (by omega) rfl rfl (Nat.le_of_ble_eq_true rfl) dX7_readLine_113 (fun r744 u745 q746 => ?_)
                  obtain ⟨rfl, mq746⟩ := q746
                  obtain ⟨hu745, gu745, ku7450, ku7451, ku7452, ku7453⟩ := mq746
                  have fu745 : fk [60, 66, 67, 68] [3, 13, 22, 28] u u745 := fk_tr fu737 gu745 (by decide) (by decide)
                  have rfu745 : rf u745 := rf_mono rfu737 gu745 ku7450 (by decide) (by decide) (by decide) (by decide)
                  have T747 : u745.1 60 7 = t703 := (fk_at gu745 (by decide)).trans T739
                  obtain ⟨t748, Tt748⟩ : ∃ t, u745.1 60 14 = t := ⟨_, rfl⟩
                  have Rt748 : 0 ≤ t748 ∧ t748 ≤ 160 := by rw [← Tt748]; exact iv_at hu745 _ _ rfl
                  obtain ⟨t749, Tt749⟩ : ∃ t, u745.1 60 15 = t := ⟨_, rfl⟩
                  have Rt749 : 0 ≤ t749 ∧ t749 ≤ 160 := by rw [← Tt749]; exact iv_at hu745 _ _ rfl
                  obtain ⟨t750, Tt750⟩ : ∃ t, u745.1 60 16 = t := ⟨_, rfl⟩
                  obtain ⟨t751, Tt751⟩ : ∃ t, u745.1 60 18 = t := ⟨_, rfl⟩
                  have Rt751 : 0 ≤ t751 ∧ t751 ≤ 6 := by rw [← Tt751]; exact iv_at hu745 _ _ rfl
                  exact g_vret dX7_readLine_116 rfl ⟨rfl, hu745, fu745, rfu745, (by first | rfl | (rw [Tt751]; grind) | rw [Tt751]), (by first | rfl | (rw [Tt751, Tt749]; grind) | rw [Tt751, Tt749])⟩
            · refine g_aload_n dX7_readLine_75 rfl ?_
              refine cl_X7_143 (c := 60) (As := []) rfl (c_X7_readHave (G := G) hs hu690 rfu690    (d)) rfl (by omega) rfl rfl (Nat.le_of_ble_eq_true rfl) dX7_readLine_76 (fun r752 u753 q754 => ?_)
              obtain ⟨rfl, mq754⟩ := q754
              obtain ⟨hu753, gu753, rfu753, ku7530, ku7531⟩ := mq754
              have fu753 : fk [60, 66, 67, 68] [3, 13, 22, 28] u u753 := fk_tr fu690 gu753 (by decide) (by decide)
              have T755 : u753.1 60 7 = t1 := (fk_at gu753 (by decide)).trans T692
              obtain ⟨t756, Tt756⟩ : ∃ t, u753.1 60 14 = t := ⟨_, rfl⟩
              have Rt756 : 0 ≤ t756 ∧ t756 ≤ 160 := by rw [← Tt756]; exact iv_at hu753 _ _ rfl
              obtain ⟨t757, Tt757⟩ : ∃ t, u753.1 60 15 = t := ⟨_, rfl⟩
              have Rt757 : 0 ≤ t757 ∧ t757 ≤ 160 := by rw [← Tt757]; exact iv_at hu753 _ _ rfl
              obtain ⟨t758, Tt758⟩ : ∃ t, u753.1 60 16 = t := ⟨_, rfl⟩
              obtain ⟨t759, Tt759⟩ : ∃ t, u753.1 60 18 = t := ⟨_, rfl⟩
              have Rt759 : 0 ≤ t759 ∧ t759 ≤ 6 := by rw [← Tt759]; exact iv_at hu753 _ _ rfl
              refine g_goto (tgt := 87) dX7_readLine_79 (by decide) ?_
              refine g_aload_n dX7_readLine_87 rfl ?_
              refine f_X7_91 rfl rfl dX7_readLine_88 ?_
              refine g_topi (fun x760 ex760 => ?_)
              have rx760 : 0 ≤ x760 ∧ x760 ≤ 6 := by rw [ex760]; exact iv_at hu753 _ _ rfl
              have qx760 : x760 = t759 := ex760.trans Tt759
              refine g_if_ne (tgt := 112) dX7_readLine_91 (by decide) (fun c761 => ?_) (fun c761 => ?_)
              · refine g_aload_n dX7_readLine_112 rfl ?_
                refine cl_X7_133 (c := 60) (As := []) rfl (c_X7_next (G := G) hs hu753    (d + 2)) rfl (by omega) rfl rfl (Nat.le_of_ble_eq_true rfl) dX7_readLine_113 (fun r762 u763 q764 => ?_)
                obtain ⟨rfl, mq764⟩ := q764
                obtain ⟨hu763, gu763, ku7630, ku7631, ku7632, ku7633⟩ := mq764
                have fu763 : fk [60, 66, 67, 68] [3, 13, 22, 28] u u763 := fk_tr fu753 gu763 (by decide) (by decide)
                have rfu763 : rf u763 := rf_mono rfu753 gu763 ku7630 (by decide) (by decide) (by decide) (by decide)
                have T765 : u763.1 60 7 = t1 := (fk_at gu763 (by decide)).trans T755
                obtain ⟨t766, Tt766⟩ : ∃ t, u763.1 60 14 = t := ⟨_, rfl⟩
                have Rt766 : 0 ≤ t766 ∧ t766 ≤ 160 := by rw [← Tt766]; exact iv_at hu763 _ _ rfl
                obtain ⟨t767, Tt767⟩ : ∃ t, u763.1 60 15 = t := ⟨_, rfl⟩
                have Rt767 : 0 ≤ t767 ∧ t767 ≤ 160 := by rw [← Tt767]; exact iv_at hu763 _ _ rfl
                obtain ⟨t768, Tt768⟩ : ∃ t, u763.1 60 16 = t := ⟨_, rfl⟩
                obtain ⟨t769, Tt769⟩ : ∃ t, u763.1 60 18 = t := ⟨_, rfl⟩
                have Rt769 : 0 ≤ t769 ∧ t769 ≤ 6 := by rw [← Tt769]; exact iv_at hu763 _ _ rfl
                exact g_vret dX7_readLine_116 rfl ⟨rfl, hu763, fu763, rfu763, (by first | rfl | (rw [Tt769]; grind) | rw [Tt769]), (by first | rfl | (rw [Tt769, Tt767]; grind) | rw [Tt769, Tt767])⟩
              · refine g_aload_n dX7_readLine_94 rfl ?_
                refine g_aload_n dX7_readLine_95 rfl ?_
                refine f_X7_111 rfl rfl dX7_readLine_96 ?_
                refine g_topi (fun x770 ex770 => ?_)
                have qx770 : x770 = t758 := ex770.trans Tt758
                refine g_iconst (v := 3) dX7_readLine_99 (by decide) ?_
                refine g_icmp_ne (tgt := 107) dX7_readLine_100 (by decide) (fun c771 => ?_) (fun c771 => ?_)
                · refine g_iconst (v := 0) dX7_readLine_107 (by decide) ?_
                  refine g_iconst (v := 2) dX7_readLine_108 (by decide) ?_
                  refine cl_X7_125 (c := 60) (As := [.int 0, .int 2]) rfl (c_X7_needs (G := G) hs hu753  0 2 (by first | trivial | decide | lia | grind) (by first | trivial | decide | lia | grind) (d + 3)) rfl (by omega) rfl rfl (Nat.le_of_ble_eq_true rfl) dX7_readLine_109 (fun r772 u773 q774 => ?_)
                  obtain ⟨rfl, mq774⟩ := q774
                  obtain ⟨hu773, gu773, ku7730⟩ := mq774
                  have fu773 : fk [60, 66, 67, 68] [3, 13, 22, 28] u u773 := fk_tr fu753 gu773 (by decide) (by decide)
                  have rfu773 : rf u773 := rf_mono rfu753 gu773 (fun q => (ku7730 q).1) (by decide) (by decide) (by decide) (by decide)
                  have T775 : u773.1 60 7 = t1 := (fk_at gu773 (by decide)).trans T755
                  have T776 : u773.1 60 14 = t756 := (fk_at gu773 (by decide)).trans Tt756
                  have T777 : u773.1 60 15 = t757 := (fk_at gu773 (by decide)).trans Tt757
                  have T778 : u773.1 60 16 = t758 := (fk_at gu773 (by decide)).trans Tt758
                  obtain ⟨t779, Tt779⟩ : ∃ t, u773.1 60 18 = t := ⟨_, rfl⟩
                  have Rt779 : 0 ≤ t779 ∧ t779 ≤ 6 := by rw [← Tt779]; exact iv_at hu773 _ _ rfl
                  refine g_aload_n dX7_readLine_112 rfl ?_
                  refine cl_X7_133 (c := 60) (As := []) rfl (c_X7_next (G := G) hs hu773    (d + 2)) rfl (by omega) rfl rfl (Nat.le_of_ble_eq_true rfl) dX7_readLine_113 (fun r780 u781 q782 => ?_)
                  obtain ⟨rfl, mq782⟩ := q782
                  obtain ⟨hu781, gu781, ku7810, ku7811, ku7812, ku7813⟩ := mq782
                  have fu781 : fk [60, 66, 67, 68] [3, 13, 22, 28] u u781 := fk_tr fu773 gu781 (by decide) (by decide)
                  have rfu781 : rf u781 := rf_mono rfu773 gu781 ku7810 (by decide) (by decide) (by decide) (by decide)
                  have T783 : u781.1 60 7 = t1 := (fk_at gu781 (by decide)).trans T775
                  obtain ⟨t784, Tt784⟩ : ∃ t, u781.1 60 14 = t := ⟨_, rfl⟩
                  have Rt784 : 0 ≤ t784 ∧ t784 ≤ 160 := by rw [← Tt784]; exact iv_at hu781 _ _ rfl
                  obtain ⟨t785, Tt785⟩ : ∃ t, u781.1 60 15 = t := ⟨_, rfl⟩
                  have Rt785 : 0 ≤ t785 ∧ t785 ≤ 160 := by rw [← Tt785]; exact iv_at hu781 _ _ rfl
                  obtain ⟨t786, Tt786⟩ : ∃ t, u781.1 60 16 = t := ⟨_, rfl⟩
                  obtain ⟨t787, Tt787⟩ : ∃ t, u781.1 60 18 = t := ⟨_, rfl⟩
                  have Rt787 : 0 ≤ t787 ∧ t787 ≤ 6 := by rw [← Tt787]; exact iv_at hu781 _ _ rfl
                  exact g_vret dX7_readLine_116 rfl ⟨rfl, hu781, fu781, rfu781, (by first | rfl | (rw [Tt787]; grind) | rw [Tt787]), (by first | rfl | (rw [Tt787, Tt785]; grind) | rw [Tt787, Tt785])⟩
                · refine g_iconst (v := 1) dX7_readLine_103 (by decide) ?_
                  refine g_goto (tgt := 108) dX7_readLine_104 (by decide) ?_
                  refine g_iconst (v := 2) dX7_readLine_108 (by decide) ?_
                  refine cl_X7_125 (c := 60) (As := [.int 1, .int 2]) rfl (c_X7_needs (G := G) hs hu753  1 2 (by first | trivial | decide | lia | grind) (by first | trivial | decide | lia | grind) (d + 3)) rfl (by omega) rfl rfl (Nat.le_of_ble_eq_true rfl) dX7_readLine_109 (fun r788 u789 q790 => ?_)
                  obtain ⟨rfl, mq790⟩ := q790
                  obtain ⟨hu789, gu789, ku7890⟩ := mq790
                  have fu789 : fk [60, 66, 67, 68] [3, 13, 22, 28] u u789 := fk_tr fu753 gu789 (by decide) (by decide)
                  have rfu789 : rf u789 := rf_mono rfu753 gu789 (fun q => (ku7890 q).1) (by decide) (by decide) (by decide) (by decide)
                  have T791 : u789.1 60 7 = t1 := (fk_at gu789 (by decide)).trans T755
                  have T792 : u789.1 60 14 = t756 := (fk_at gu789 (by decide)).trans Tt756
                  have T793 : u789.1 60 15 = t757 := (fk_at gu789 (by decide)).trans Tt757
                  have T794 : u789.1 60 16 = t758 := (fk_at gu789 (by decide)).trans Tt758
                  obtain ⟨t795, Tt795⟩ : ∃ t, u789.1 60 18 = t := ⟨_, rfl⟩
                  have Rt795 : 0 ≤ t795 ∧ t795 ≤ 6 := by rw [← Tt795]; exact iv_at hu789 _ _ rfl
                  refine g_aload_n dX7_readLine_112 rfl ?_
                  refine cl_X7_133 (c := 60) (As := []) rfl (c_X7_next (G := G) hs hu789    (d + 2)) rfl (by omega) rfl rfl (Nat.le_of_ble_eq_true rfl) dX7_readLine_113 (fun r796 u797 q798 => ?_)
                  obtain ⟨rfl, mq798⟩ := q798
                  obtain ⟨hu797, gu797, ku7970, ku7971, ku7972, ku7973⟩ := mq798
                  have fu797 : fk [60, 66, 67, 68] [3, 13, 22, 28] u u797 := fk_tr fu789 gu797 (by decide) (by decide)
                  have rfu797 : rf u797 := rf_mono rfu789 gu797 ku7970 (by decide) (by decide) (by decide) (by decide)
                  have T799 : u797.1 60 7 = t1 := (fk_at gu797 (by decide)).trans T791
                  obtain ⟨t800, Tt800⟩ : ∃ t, u797.1 60 14 = t := ⟨_, rfl⟩
                  have Rt800 : 0 ≤ t800 ∧ t800 ≤ 160 := by rw [← Tt800]; exact iv_at hu797 _ _ rfl
                  obtain ⟨t801, Tt801⟩ : ∃ t, u797.1 60 15 = t := ⟨_, rfl⟩
                  have Rt801 : 0 ≤ t801 ∧ t801 ≤ 160 := by rw [← Tt801]; exact iv_at hu797 _ _ rfl
                  obtain ⟨t802, Tt802⟩ : ∃ t, u797.1 60 16 = t := ⟨_, rfl⟩
                  obtain ⟨t803, Tt803⟩ : ∃ t, u797.1 60 18 = t := ⟨_, rfl⟩
                  have Rt803 : 0 ≤ t803 ∧ t803 ≤ 6 := by rw [← Tt803]; exact iv_at hu797 _ _ rfl
                  exact g_vret dX7_readLine_116 rfl ⟨rfl, hu797, fu797, rfu797, (by first | rfl | (rw [Tt803]; grind) | rw [Tt803]), (by first | rfl | (rw [Tt803, Tt801]; grind) | rw [Tt803, Tt801])⟩
          · exact g_vret dX7_readLine_69 rfl ⟨rfl, hu690, fu690, rfu690, (by first | rfl | (rw [Tt696]; grind) | rw [Tt696]), (by first | rfl | (rw [Tt696, Tt694]; grind) | rw [Tt696, Tt694])⟩
        · refine g_iconst (v := 1) dX7_readLine_49 (by decide) ?_
          refine g_goto (tgt := 54) dX7_readLine_50 (by decide) ?_
          refine g_iconst (v := 5) dX7_readLine_54 (by decide) ?_
          refine cl_X7_125 (c := 60) (As := [.int 1, .int 5]) rfl (c_X7_needs (G := G) hs hu548  1 5 (by first | trivial | decide | lia | grind) (by first | trivial | decide | lia | grind) (d + 3)) rfl (by omega) rfl rfl (Nat.le_of_ble_eq_true rfl) dX7_readLine_55 (fun r804 u805 q806 => ?_)
          obtain ⟨rfl, mq806⟩ := q806
          obtain ⟨hu805, gu805, ku8050⟩ := mq806
          have fu805 : fk [60, 66, 67, 68] [3, 13, 22, 28] u u805 := fk_tr fu548 gu805 (by decide) (by decide)
          have rfu805 : rf u805 := rf_mono rfu548 gu805 (fun q => (ku8050 q).1) (by decide) (by decide) (by decide) (by decide)
          have T807 : u805.1 60 7 = t1 := (fk_at gu805 (by decide)).trans T550
          have T808 : u805.1 60 14 = t2 := (fk_at gu805 (by decide)).trans T551
          have T809 : u805.1 60 15 = t3 := (fk_at gu805 (by decide)).trans T552
          have T810 : u805.1 60 16 = t4 := (fk_at gu805 (by decide)).trans T553
          obtain ⟨t811, Tt811⟩ : ∃ t, u805.1 60 18 = t := ⟨_, rfl⟩
          have Rt811 : 0 ≤ t811 ∧ t811 ≤ 6 := by rw [← Tt811]; exact iv_at hu805 _ _ rfl
          refine g_aload_n dX7_readLine_58 rfl ?_
          refine cl_X7_133 (c := 60) (As := []) rfl (c_X7_next (G := G) hs hu805    (d + 2)) rfl (by omega) rfl rfl (Nat.le_of_ble_eq_true rfl) dX7_readLine_59 (fun r812 u813 q814 => ?_)
          obtain ⟨rfl, mq814⟩ := q814
          obtain ⟨hu813, gu813, ku8130, ku8131, ku8132, ku8133⟩ := mq814
          have fu813 : fk [60, 66, 67, 68] [3, 13, 22, 28] u u813 := fk_tr fu805 gu813 (by decide) (by decide)
          have rfu813 : rf u813 := rf_mono rfu805 gu813 ku8130 (by decide) (by decide) (by decide) (by decide)
          have T815 : u813.1 60 7 = t1 := (fk_at gu813 (by decide)).trans T807
          obtain ⟨t816, Tt816⟩ : ∃ t, u813.1 60 14 = t := ⟨_, rfl⟩
          have Rt816 : 0 ≤ t816 ∧ t816 ≤ 160 := by rw [← Tt816]; exact iv_at hu813 _ _ rfl
          obtain ⟨t817, Tt817⟩ : ∃ t, u813.1 60 15 = t := ⟨_, rfl⟩
          have Rt817 : 0 ≤ t817 ∧ t817 ≤ 160 := by rw [← Tt817]; exact iv_at hu813 _ _ rfl
          obtain ⟨t818, Tt818⟩ : ∃ t, u813.1 60 16 = t := ⟨_, rfl⟩
          obtain ⟨t819, Tt819⟩ : ∃ t, u813.1 60 18 = t := ⟨_, rfl⟩
          have Rt819 : 0 ≤ t819 ∧ t819 ≤ 6 := by rw [← Tt819]; exact iv_at hu813 _ _ rfl
          refine g_aload_n dX7_readLine_62 rfl ?_
          refine f_X7_91 rfl rfl dX7_readLine_63 ?_
          refine g_topi (fun x820 ex820 => ?_)
          have rx820 : 0 ≤ x820 ∧ x820 ≤ 6 := by rw [ex820]; exact iv_at hu813 _ _ rfl
          have qx820 : x820 = t819 := ex820.trans Tt819
          refine g_if_le (tgt := 70) dX7_readLine_66 (by decide) (fun c821 => ?_) (fun c821 => ?_)
          · refine g_iload_n dX7_readLine_70 rfl ?_
            refine g_iconst (v := 5) dX7_readLine_71 (by decide) ?_
            refine g_icmp_ne (tgt := 82) dX7_readLine_72 (by decide) (fun c822 => ?_) (fun c822 => ?_)
            · refine g_aload_n dX7_readLine_82 rfl ?_
              refine g_iload_n dX7_readLine_83 rfl ?_
              refine cl_X7_146 (c := 60) (As := [.int x165]) rfl (c_X7_readStuff (G := G) hs hu813 rfu813  x165 (by first | trivial | decide | lia | grind) (d)) rfl (by omega) rfl rfl (Nat.le_of_ble_eq_true rfl) dX7_readLine_84 (fun r823 u824 q825 => ?_)
              obtain ⟨rfl, mq825⟩ := q825
              obtain ⟨hu824, gu824, rfu824, ku8240, ku8241⟩ := mq825
              have fu824 : fk [60, 66, 67, 68] [3, 13, 22, 28] u u824 := fk_tr fu813 gu824 (by decide) (by decide)
              obtain ⟨t826, Tt826⟩ : ∃ t, u824.1 60 7 = t := ⟨_, rfl⟩
              have Rt826 : 0 ≤ t826 ∧ t826 ≤ 8 := by rw [← Tt826]; exact iv_at hu824 _ _ rfl
              obtain ⟨t827, Tt827⟩ : ∃ t, u824.1 60 14 = t := ⟨_, rfl⟩
              have Rt827 : 0 ≤ t827 ∧ t827 ≤ 160 := by rw [← Tt827]; exact iv_at hu824 _ _ rfl
              obtain ⟨t828, Tt828⟩ : ∃ t, u824.1 60 15 = t := ⟨_, rfl⟩
              have Rt828 : 0 ≤ t828 ∧ t828 ≤ 160 := by rw [← Tt828]; exact iv_at hu824 _ _ rfl
              obtain ⟨t829, Tt829⟩ : ∃ t, u824.1 60 16 = t := ⟨_, rfl⟩
              obtain ⟨t830, Tt830⟩ : ∃ t, u824.1 60 18 = t := ⟨_, rfl⟩
              have Rt830 : 0 ≤ t830 ∧ t830 ≤ 6 := by rw [← Tt830]; exact iv_at hu824 _ _ rfl
              refine g_aload_n dX7_readLine_87 rfl ?_
              refine f_X7_91 rfl rfl dX7_readLine_88 ?_
              refine g_topi (fun x831 ex831 => ?_)
              have rx831 : 0 ≤ x831 ∧ x831 ≤ 6 := by rw [ex831]; exact iv_at hu824 _ _ rfl
              have qx831 : x831 = t830 := ex831.trans Tt830
              refine g_if_ne (tgt := 112) dX7_readLine_91 (by decide) (fun c832 => ?_) (fun c832 => ?_)
              · refine g_aload_n dX7_readLine_112 rfl ?_
                refine cl_X7_133 (c := 60) (As := []) rfl (c_X7_next (G := G) hs hu824    (d + 2)) rfl (by omega) rfl rfl (Nat.le_of_ble_eq_true rfl) dX7_readLine_113 (fun r833 u834 q835 => ?_)
                obtain ⟨rfl, mq835⟩ := q835
                obtain ⟨hu834, gu834, ku8340, ku8341, ku8342, ku8343⟩ := mq835
                have fu834 : fk [60, 66, 67, 68] [3, 13, 22, 28] u u834 := fk_tr fu824 gu834 (by decide) (by decide)
                have rfu834 : rf u834 := rf_mono rfu824 gu834 ku8340 (by decide) (by decide) (by decide) (by decide)
                have T836 : u834.1 60 7 = t826 := (fk_at gu834 (by decide)).trans Tt826
                obtain ⟨t837, Tt837⟩ : ∃ t, u834.1 60 14 = t := ⟨_, rfl⟩
                have Rt837 : 0 ≤ t837 ∧ t837 ≤ 160 := by rw [← Tt837]; exact iv_at hu834 _ _ rfl
                obtain ⟨t838, Tt838⟩ : ∃ t, u834.1 60 15 = t := ⟨_, rfl⟩
                have Rt838 : 0 ≤ t838 ∧ t838 ≤ 160 := by rw [← Tt838]; exact iv_at hu834 _ _ rfl
                obtain ⟨t839, Tt839⟩ : ∃ t, u834.1 60 16 = t := ⟨_, rfl⟩
                obtain ⟨t840, Tt840⟩ : ∃ t, u834.1 60 18 = t := ⟨_, rfl⟩
                have Rt840 : 0 ≤ t840 ∧ t840 ≤ 6 := by rw [← Tt840]; exact iv_at hu834 _ _ rfl
                exact g_vret dX7_readLine_116 rfl ⟨rfl, hu834, fu834, rfu834, (by first | rfl | (rw [Tt840]; grind) | rw [Tt840]), (by first | rfl | (rw [Tt840, Tt838]; grind) | rw [Tt840, Tt838])⟩
              · refine g_aload_n dX7_readLine_94 rfl ?_
                refine g_aload_n dX7_readLine_95 rfl ?_
                refine f_X7_111 rfl rfl dX7_readLine_96 ?_
                refine g_topi (fun x841 ex841 => ?_)
                have qx841 : x841 = t829 := ex841.trans Tt829
                refine g_iconst (v := 3) dX7_readLine_99 (by decide) ?_
                refine g_icmp_ne (tgt := 107) dX7_readLine_100 (by decide) (fun c842 => ?_) (fun c842 => ?_)
                · refine g_iconst (v := 0) dX7_readLine_107 (by decide) ?_
                  refine g_iconst (v := 2) dX7_readLine_108 (by decide) ?_
                  refine cl_X7_125 (c := 60) (As := [.int 0, .int 2]) rfl (c_X7_needs (G := G) hs hu824  0 2 (by first | trivial | decide | lia | grind) (by first | trivial | decide | lia | grind) (d + 3)) rfl (by omega) rfl rfl (Nat.le_of_ble_eq_true rfl) dX7_readLine_109 (fun r843 u844 q845 => ?_)
                  obtain ⟨rfl, mq845⟩ := q845
                  obtain ⟨hu844, gu844, ku8440⟩ := mq845
                  have fu844 : fk [60, 66, 67, 68] [3, 13, 22, 28] u u844 := fk_tr fu824 gu844 (by decide) (by decide)
                  have rfu844 : rf u844 := rf_mono rfu824 gu844 (fun q => (ku8440 q).1) (by decide) (by decide) (by decide) (by decide)
                  have T846 : u844.1 60 7 = t826 := (fk_at gu844 (by decide)).trans Tt826
                  have T847 : u844.1 60 14 = t827 := (fk_at gu844 (by decide)).trans Tt827
                  have T848 : u844.1 60 15 = t828 := (fk_at gu844 (by decide)).trans Tt828
                  have T849 : u844.1 60 16 = t829 := (fk_at gu844 (by decide)).trans Tt829
                  obtain ⟨t850, Tt850⟩ : ∃ t, u844.1 60 18 = t := ⟨_, rfl⟩
                  have Rt850 : 0 ≤ t850 ∧ t850 ≤ 6 := by rw [← Tt850]; exact iv_at hu844 _ _ rfl
                  refine g_aload_n dX7_readLine_112 rfl ?_
                  refine cl_X7_133 (c := 60) (As := []) rfl (c_X7_next (G := G) hs hu844    (d + 2)) rfl (by omega) rfl rfl (Nat.le_of_ble_eq_true rfl) dX7_readLine_113 (fun r851 u852 q853 => ?_)
                  obtain ⟨rfl, mq853⟩ := q853
                  obtain ⟨hu852, gu852, ku8520, ku8521, ku8522, ku8523⟩ := mq853
                  have fu852 : fk [60, 66, 67, 68] [3, 13, 22, 28] u u852 := fk_tr fu844 gu852 (by decide) (by decide)
                  have rfu852 : rf u852 := rf_mono rfu844 gu852 ku8520 (by decide) (by decide) (by decide) (by decide)
                  have T854 : u852.1 60 7 = t826 := (fk_at gu852 (by decide)).trans T846
                  obtain ⟨t855, Tt855⟩ : ∃ t, u852.1 60 14 = t := ⟨_, rfl⟩
                  have Rt855 : 0 ≤ t855 ∧ t855 ≤ 160 := by rw [← Tt855]; exact iv_at hu852 _ _ rfl
                  obtain ⟨t856, Tt856⟩ : ∃ t, u852.1 60 15 = t := ⟨_, rfl⟩
                  have Rt856 : 0 ≤ t856 ∧ t856 ≤ 160 := by rw [← Tt856]; exact iv_at hu852 _ _ rfl
                  obtain ⟨t857, Tt857⟩ : ∃ t, u852.1 60 16 = t := ⟨_, rfl⟩
                  obtain ⟨t858, Tt858⟩ : ∃ t, u852.1 60 18 = t := ⟨_, rfl⟩
                  have Rt858 : 0 ≤ t858 ∧ t858 ≤ 6 := by rw [← Tt858]; exact iv_at hu852 _ _ rfl
                  exact g_vret dX7_readLine_116 rfl ⟨rfl, hu852, fu852, rfu852, (by first | rfl | (rw [Tt858]; grind) | rw [Tt858]), (by first | rfl | (rw [Tt858, Tt856]; grind) | rw [Tt858, Tt856])⟩
                · refine g_iconst (v := 1) dX7_readLine_103 (by decide) ?_
                  refine g_goto (tgt := 108) dX7_readLine_104 (by decide) ?_
                  refine g_iconst (v := 2) dX7_readLine_108 (by decide) ?_
                  refine cl_X7_125 (c := 60) (As := [.int 1, .int 2]) rfl (c_X7_needs (G := G) hs hu824  1 2 (by first | trivial | decide | lia | grind) (by first | trivial | decide | lia | grind) (d + 3)) rfl (by omega) rfl rfl (Nat.le_of_ble_eq_true rfl) dX7_readLine_109 (fun r859 u860 q861 => ?_)
                  obtain ⟨rfl, mq861⟩ := q861
                  obtain ⟨hu860, gu860, ku8600⟩ := mq861
                  have fu860 : fk [60, 66, 67, 68] [3, 13, 22, 28] u u860 := fk_tr fu824 gu860 (by decide) (by decide)
                  have rfu860 : rf u860 := rf_mono rfu824 gu860 (fun q => (ku8600 q).1) (by decide) (by decide) (by decide) (by decide)
                  have T862 : u860.1 60 7 = t826 := (fk_at gu860 (by decide)).trans Tt826
                  have T863 : u860.1 60 14 = t827 := (fk_at gu860 (by decide)).trans Tt827
                  have T864 : u860.1 60 15 = t828 := (fk_at gu860 (by decide)).trans Tt828
                  have T865 : u860.1 60 16 = t829 := (fk_at gu860 (by decide)).trans Tt829
                  obtain ⟨t866, Tt866⟩ : ∃ t, u860.1 60 18 = t := ⟨_, rfl⟩
                  have Rt866 : 0 ≤ t866 ∧ t866 ≤ 6 := by rw [← Tt866]; exact iv_at hu860 _ _ rfl
                  refine g_aload_n dX7_readLine_112 rfl ?_
                  refine cl_X7_133 (c := 60) (As := []) rfl (c_X7_next (G := G) hs hu860    (d + 2)) rfl (by omega) rfl rfl (Nat.le_of_ble_eq_true rfl) dX7_readLine_113 (fun r867 u868 q869 => ?_)
                  obtain ⟨rfl, mq869⟩ := q869
                  obtain ⟨hu868, gu868, ku8680, ku8681, ku8682, ku8683⟩ := mq869
                  have fu868 : fk [60, 66, 67, 68] [3, 13, 22, 28] u u868 := fk_tr fu860 gu868 (by decide) (by decide)
                  have rfu868 : rf u868 := rf_mono rfu860 gu868 ku8680 (by decide) (by decide) (by decide) (by decide)
                  have T870 : u868.1 60 7 = t826 := (fk_at gu868 (by decide)).trans T862
                  obtain ⟨t871, Tt871⟩ : ∃ t, u868.1 60 14 = t := ⟨_, rfl⟩
                  have Rt871 : 0 ≤ t871 ∧ t871 ≤ 160 := by rw [← Tt871]; exact iv_at hu868 _ _ rfl
                  obtain ⟨t872, Tt872⟩ : ∃ t, u868.1 60 15 = t := ⟨_, rfl⟩
                  have Rt872 : 0 ≤ t872 ∧ t872 ≤ 160 := by rw [← Tt872]; exact iv_at hu868 _ _ rfl
                  obtain ⟨t873, Tt873⟩ : ∃ t, u868.1 60 16 = t := ⟨_, rfl⟩
                  obtain ⟨t874, Tt874⟩ : ∃ t, u868.1 60 18 = t := ⟨_, rfl⟩
                  have Rt874 : 0 ≤ t874 ∧ t874 ≤ 6 := by rw [← Tt874]; exact iv_at hu868 _ _ rfl
                  exact g_vret dX7_readLine_116 rfl ⟨rfl, hu868, fu868, rfu868, (by first | rfl | (rw [Tt874]; grind) | rw [Tt874]), (by first | rfl | (rw [Tt874, Tt872]; grind) | rw [Tt874, Tt872])⟩
            · refine g_aload_n dX7_readLine_75 rfl ?_
              refine cl_X7_143 (c := 60) (As := []) rfl (c_X7_readHave (G := G) hs hu813 rfu813    (d)) rfl (by omega) rfl rfl (Nat.le_of_ble_eq_true rfl) dX7_readLine_76 (fun r875 u876 q877 => ?_)
              obtain ⟨rfl, mq877⟩ := q877
              obtain ⟨hu876, gu876, rfu876, ku8760, ku8761⟩ := mq877
              have fu876 : fk [60, 66, 67, 68] [3, 13, 22, 28] u u876 := fk_tr fu813 gu876 (by decide) (by decide)
              have T878 : u876.1 60 7 = t1 := (fk_at gu876 (by decide)).trans T815
              obtain ⟨t879, Tt879⟩ : ∃ t, u876.1 60 14 = t := ⟨_, rfl⟩
              have Rt879 : 0 ≤ t879 ∧ t879 ≤ 160 := by rw [← Tt879]; exact iv_at hu876 _ _ rfl
              obtain ⟨t880, Tt880⟩ : ∃ t, u876.1 60 15 = t := ⟨_, rfl⟩
              have Rt880 : 0 ≤ t880 ∧ t880 ≤ 160 := by rw [← Tt880]; exact iv_at hu876 _ _ rfl
              obtain ⟨t881, Tt881⟩ : ∃ t, u876.1 60 16 = t := ⟨_, rfl⟩
              obtain ⟨t882, Tt882⟩ : ∃ t, u876.1 60 18 = t := ⟨_, rfl⟩
              have Rt882 : 0 ≤ t882 ∧ t882 ≤ 6 := by rw [← Tt882]; exact iv_at hu876 _ _ rfl
              refine g_goto (tgt := 87) dX7_readLine_79 (by decide) ?_
              refine g_aload_n dX7_readLine_87 rfl ?_
              refine f_X7_91 rfl rfl dX7_readLine_88 ?_
              refine g_topi (fun x883 ex883 => ?_)
              have rx883 : 0 ≤ x883 ∧ x883 ≤ 6 := by rw [ex883]; exact iv_at hu876 _ _ rfl
              have qx883 : x883 = t882 := ex883.trans Tt882
              refine g_if_ne (tgt := 112) dX7_readLine_91 (by decide) (fun c884 => ?_) (fun c884 => ?_)
              · refine g_aload_n dX7_readLine_112 rfl ?_
                refine cl_X7_133 (c := 60) (As := []) rfl (c_X7_next (G := G) hs hu876    (d + 2)) rfl (by omega) rfl rfl (Nat.le_of_ble_eq_true rfl) dX7_readLine_113 (fun r885 u886 q887 => ?_)
                obtain ⟨rfl, mq887⟩ := q887
                obtain ⟨hu886, gu886, ku8860, ku8861, ku8862, ku8863⟩ := mq887
                have fu886 : fk [60, 66, 67, 68] [3, 13, 22, 28] u u886 := fk_tr fu876 gu886 (by decide) (by decide)
                have rfu886 : rf u886 := rf_mono rfu876 gu886 ku8860 (by decide) (by decide) (by decide) (by decide)
                have T888 : u886.1 60 7 = t1 := (fk_at gu886 (by decide)).trans T878
                obtain ⟨t889, Tt889⟩ : ∃ t, u886.1 60 14 = t := ⟨_, rfl⟩
                have Rt889 : 0 ≤ t889 ∧ t889 ≤ 160 := by rw [← Tt889]; exact iv_at hu886 _ _ rfl
                obtain ⟨t890, Tt890⟩ : ∃ t, u886.1 60 15 = t := ⟨_, rfl⟩
                have Rt890 : 0 ≤ t890 ∧ t890 ≤ 160 := by rw [← Tt890]; exact iv_at hu886 _ _ rfl
                obtain ⟨t891, Tt891⟩ : ∃ t, u886.1 60 16 = t := ⟨_, rfl⟩
                obtain ⟨t892, Tt892⟩ : ∃ t, u886.1 60 18 = t := ⟨_, rfl⟩
                have Rt892 : 0 ≤ t892 ∧ t892 ≤ 6 := by rw [← Tt892]; exact iv_at hu886 _ _ rfl
                exact g_vret dX7_readLine_116 rfl ⟨rfl, hu886, fu886, rfu886, (by first | rfl | (rw [Tt892]; grind) | rw [Tt892]), (by first | rfl | (rw [Tt892, Tt890]; grind) | rw [Tt892, Tt890])⟩
              · refine g_aload_n dX7_readLine_94 rfl ?_
                refine g_aload_n dX7_readLine_95 rfl ?_
                refine f_X7_111 rfl rfl dX7_readLine_96 ?_
                refine g_topi (fun x893 ex893 => ?_)
                have qx893 : x893 = t881 := ex893.trans Tt881
                refine g_iconst (v := 3) dX7_readLine_99 (by decide) ?_
                refine g_icmp_ne (tgt := 107) dX7_readLine_100 (by decide) (fun c894 => ?_) (fun c894 => ?_)
                · refine g_iconst (v := 0) dX7_readLine_107 (by decide) ?_
                  refine g_iconst (v := 2) dX7_readLine_108 (by decide) ?_
                  refine cl_X7_125 (c := 60) (As := [.int 0, .int 2]) rfl (c_X7_needs (G := G) hs hu876  0 2 (by first | trivial | decide | lia | grind) (by first | trivial | decide | lia | grind) (d + 3)) rfl (by omega) rfl rfl (Nat.le_of_ble_eq_true rfl) dX7_readLine_109 (fun r895 u896 q897 => ?_)
                  obtain ⟨rfl, mq897⟩ := q897
                  obtain ⟨hu896, gu896, ku8960⟩ := mq897
                  have fu896 : fk [60, 66, 67, 68] [3, 13, 22, 28] u u896 := fk_tr fu876 gu896 (by decide) (by decide)
                  have rfu896 : rf u896 := rf_mono rfu876 gu896 (fun q => (ku8960 q).1) (by decide) (by decide) (by decide) (by decide)
                  have T898 : u896.1 60 7 = t1 := (fk_at gu896 (by decide)).trans T878
                  have T899 : u896.1 60 14 = t879 := (fk_at gu896 (by decide)).trans Tt879
                  have T900 : u896.1 60 15 = t880 := (fk_at gu896 (by decide)).trans Tt880
                  have T901 : u896.1 60 16 = t881 := (fk_at gu896 (by decide)).trans Tt881
                  obtain ⟨t902, Tt902⟩ : ∃ t, u896.1 60 18 = t := ⟨_, rfl⟩
                  have Rt902 : 0 ≤ t902 ∧ t902 ≤ 6 := by rw [← Tt902]; exact iv_at hu896 _ _ rfl
                  refine g_aload_n dX7_readLine_112 rfl ?_
                  refine cl_X7_133 (c := 60) (As := []) rfl (c_X7_next (G := G) hs hu896    (d + 2)) rfl (by omega) rfl rfl (Nat.le_of_ble_eq_true rfl) dX7_readLine_113 (fun r903 u904 q905 => ?_)
                  obtain ⟨rfl, mq905⟩ := q905
                  obtain ⟨hu904, gu904, ku9040, ku9041, ku9042, ku9043⟩ := mq905
                  have fu904 : fk [60, 66, 67, 68] [3, 13, 22, 28] u u904 := fk_tr fu896 gu904 (by decide) (by decide)
                  have rfu904 : rf u904 := rf_mono rfu896 gu904 ku9040 (by decide) (by decide) (by decide) (by decide)
                  have T906 : u904.1 60 7 = t1 := (fk_at gu904 (by decide)).trans T898
                  obtain ⟨t907, Tt907⟩ : ∃ t, u904.1 60 14 = t := ⟨_, rfl⟩
                  have Rt907 : 0 ≤ t907 ∧ t907 ≤ 160 := by rw [← Tt907]; exact iv_at hu904 _ _ rfl
                  obtain ⟨t908, Tt908⟩ : ∃ t, u904.1 60 15 = t := ⟨_, rfl⟩
                  have Rt908 : 0 ≤ t908 ∧ t908 ≤ 160 := by rw [← Tt908]; exact iv_at hu904 _ _ rfl
                  obtain ⟨t909, Tt909⟩ : ∃ t, u904.1 60 16 = t := ⟨_, rfl⟩
                  obtain ⟨t910, Tt910⟩ : ∃ t, u904.1 60 18 = t := ⟨_, rfl⟩
                  have Rt910 : 0 ≤ t910 ∧ t910 ≤ 6 := by rw [← Tt910]; exact iv_at hu904 _ _ rfl
                  exact g_vret dX7_readLine_116 rfl ⟨rfl, hu904, fu904, rfu904, (by first | rfl | (rw [Tt910]; grind) | rw [Tt910]), (by first | rfl | (rw [Tt910, Tt908]; grind) | rw [Tt910, Tt908])⟩
                · refine g_iconst (v := 1) dX7_readLine_103 (by decide) ?_
                  refine g_goto (tgt := 108) dX7_readLine_104 (by decide) ?_
                  refine g_iconst (v := 2) dX7_readLine_108 (by decide) ?_
                  refine cl_X7_125 (c := 60) (As := [.int 1, .int 2]) rfl (c_X7_needs (G := G) hs hu876  1 2 (by first | trivial | decide | lia | grind) (by first | trivial | decide | lia | grind) (d + 3)) rfl (by omega) rfl rfl (Nat.le_of_ble_eq_true rfl) dX7_readLine_109 (fun r911 u912 q913 => ?_)
                  obtain ⟨rfl, mq913⟩ := q913
                  obtain ⟨hu912, gu912, ku9120⟩ := mq913
                  have fu912 : fk [60, 66, 67, 68] [3, 13, 22, 28] u u912 := fk_tr fu876 gu912 (by decide) (by decide)
                  have rfu912 : rf u912 := rf_mono rfu876 gu912 (fun q => (ku9120 q).1) (by decide) (by decide) (by decide) (by decide)
                  have T914 : u912.1 60 7 = t1 := (fk_at gu912 (by decide)).trans T878
                  have T915 : u912.1 60 14 = t879 := (fk_at gu912 (by decide)).trans Tt879
                  have T916 : u912.1 60 15 = t880 := (fk_at gu912 (by decide)).trans Tt880
                  have T917 : u912.1 60 16 = t881 := (fk_at gu912 (by decide)).trans Tt881
                  obtain ⟨t918, Tt918⟩ : ∃ t, u912.1 60 18 = t := ⟨_, rfl⟩
                  have Rt918 : 0 ≤ t918 ∧ t918 ≤ 6 := by rw [← Tt918]; exact iv_at hu912 _ _ rfl
                  refine g_aload_n dX7_readLine_112 rfl ?_
                  refine cl_X7_133 (c := 60) (As := []) rfl (c_X7_next (G := G) hs hu912    (d + 2)) rfl (by omega) rfl rfl (Nat.le_of_ble_eq_true rfl) dX7_readLine_113 (fun r919 u920 q921 => ?_)
                  obtain ⟨rfl, mq921⟩ := q921
                  obtain ⟨hu920, gu920, ku9200, ku9201, ku9202, ku9203⟩ := mq921
                  have fu920 : fk [60, 66, 67, 68] [3, 13, 22, 28] u u920 := fk_tr fu912 gu920 (by decide) (by decide)
                  have rfu920 : rf u920 := rf_mono rfu912 gu920 ku9200 (by decide) (by decide) (by decide) (by decide)
                  have T922 : u920.1 60 7 = t1 := (fk_at gu920 (by decide)).trans T914
                  obtain ⟨t923, Tt923⟩ : ∃ t, u920.1 60 14 = t := ⟨_, rfl⟩
                  have Rt923 : 0 ≤ t923 ∧ t923 ≤ 160 := by rw [← Tt923]; exact iv_at hu920 _ _ rfl
                  obtain ⟨t924, Tt924⟩ : ∃ t, u920.1 60 15 = t := ⟨_, rfl⟩
                  have Rt924 : 0 ≤ t924 ∧ t924 ≤ 160 := by rw [← Tt924]; exact iv_at hu920 _ _ rfl
                  obtain ⟨t925, Tt925⟩ : ∃ t, u920.1 60 16 = t := ⟨_, rfl⟩
                  obtain ⟨t926, Tt926⟩ : ∃ t, u920.1 60 18 = t := ⟨_, rfl⟩
                  have Rt926 : 0 ≤ t926 ∧ t926 ≤ 6 := by rw [← Tt926]; exact iv_at hu920 _ _ rfl
                  exact g_vret dX7_readLine_116 rfl ⟨rfl, hu920, fu920, rfu920, (by first | rfl | (rw [Tt926]; grind) | rw [Tt926]), (by first | rfl | (rw [Tt926, Tt924]; grind) | rw [Tt926, Tt924])⟩
          · exact g_vret dX7_readLine_69 rfl ⟨rfl, hu813, fu813, rfu813, (by first | rfl | (rw [Tt819]; grind) | rw [Tt819]), (by first | rfl | (rw [Tt819, Tt817]; grind) | rw [Tt819, Tt817])⟩
