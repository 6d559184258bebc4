theorem RW_s {f : Nat → Int32} {n c : Int32} {u u' : uk_Mem} {b : PS} {W : PW} (hn : n ≤ 160) (c0 : 0 ≤ c) (c1 : c < 160) (hb : b = pIt f n c.toNatClampNeg) (hW : W = wIt f n c.toNatClampNeg) (h0 : u.1 60 18 = 0) (hs : ¬ u.1 60 16 = 0) (hS : Sr f n u b) (hL : pLoop f n (160 - c.toNatClampNeg) b c = pLoop f n 160 p_0 0) (hS' : Sr f n u' (pLine f n b)) (hT : u'.1 60 18 = 0 → u'.1 60 7 = (pLine f n b).2.2.2.1 ∧ u'.1 60 10 = (pLine f n b).2.2.1 ∧ hi9 (pLine f n b).2.2.1 (u'.1 60 11)) (hR : u'.1 60 18 = 0 → Rw u' (wLine f n b W)) : RW f n u' (c + 1) := fun h => by
  obtain ⟨a0, a1, a1n, a4, v, ht⟩ := Sr_open hS h0
  have hk := tk_eq hn a1 ht
  have hT0 : ¬ (tk f n b.2.2.2.2).2.1 = 0 := fun z => hs (hk.2.1.symm.trans z)
  have z := Sr_0 hS' h
  have hI := pIt_s (f := f) (n := n) c0 (by lia) hb hW
  exact ⟨pLine f n b, wLine f n b W, hI.1, hI.2, hR h, z, hS', by rw [← hL]; exact (pLoop_s c0 c1 hT0 z).symm, (hT h).1, (hT h).2.1, (hT h).2.2⟩
def aq0 (u : uk_Mem) (c : Int32) : Prop := ∀ j, j < c.toNatClampNeg → u.1 66 j = 0
theorem aq0_0 {u : uk_Mem} : aq0 u 0 := fun j hj => absurd hj (by rw [show (0 : Int32).toNatClampNeg = 0 from rfl]; omega)
theorem aq0_s {u u' : uk_Mem} {c : Int32} (h : aq0 u c) (h0 : 0 ≤ c) (h1 : c ≤ 1000) (e : u' = uk_up u 66 c.toNatClampNeg 0) : aq0 u' (c + 1) := fun j hj => by
  rw [uk_c1 h0 (by lia)] at hj
  rw [e, uk_up_at]
  by_cases q : j = c.toNatClampNeg
  · rw [if_pos ⟨rfl, q⟩]
  · rw [if_neg (fun z => q z.2)]
    exact h j (by omega)
abbrev q_X7_readStuff_t (u : uk_Mem) (k : Int32) (f : Nat → Int32) (N : Int32) (a : PS) (W : PW) (r : Option Value) (u' : uk_Mem) : Prop := (r = none) ∧ (iv u' ∧ fk [60, 66, 67, 68] [3, 10, 11, 13, 22, 28] u u' ∧ rf u' ∧ (u'.1 60 18 = 0 → u.1 60 18 = 0) ∧ (u'.1 60 18 = 0 → u.1 60 14 ≤ u'.1 60 15 ∧ u'.1 60 15 ≤ u'.1 60 14) ∧ Sr f N u' (rsf f N a k (u.1 60 7)) ∧ u'.1 60 7 = u.1 60 7 + 1 ∧ (u'.1 60 18 = 0 → Rw u' (wStf f N a k (u.1 60 7) W)))
set_option maxHeartbeats 4000000 in
set_option maxRecDepth 20000 in
theorem c_X7_readStuff_t {G : uk_D} (hs : uk_Sep G) {u : uk_Mem} (hu : iv u) (hrf : rf u) (k : Int32) (f : Nat → Int32) (N : Int32) (a : PS) (W : PW) (p0 : u.1 60 7 ≤ 7) (p1 : Sr f N u a) (p2 : Rw u W) (d : Nat) : uk_Meth G (d + 3) mX7_readStuff [.ref (uk_ad G 60), .int k] u (q_X7_readStuff_t u k f N a W) := by
  refine uk_Meth.of hs (by decide) (Nat.le_of_ble_eq_true rfl) (fun X => ?_)
  have f0 : fk [60, 66, 67, 68] [3, 10, 11, 13, 22, 28] u u := fk_rf
  have C66 : u.1 66 = u.1 66 := rfl
  have C67 : u.1 67 = u.1 67 := rfl
  have C68 : u.1 68 = u.1 68 := rfl
  obtain ⟨t1, Tt1⟩ : ∃ t, u.1 60 7 = t := ⟨_, rfl⟩
  obtain ⟨t2, Tt2⟩ : ∃ t, u.1 60 14 = t := ⟨_, rfl⟩
  obtain ⟨t3, Tt3⟩ : ∃ t, u.1 60 15 = t := ⟨_, rfl⟩
  obtain ⟨t4, Tt4⟩ : ∃ t, u.1 60 18 = t := ⟨_, rfl⟩
  refine g_aload_n dX7_readStuff_0 rfl ?_
  refine f_X7_69 rfl rfl dX7_readStuff_1 ?_
  refine g_topi (fun x5 ex5 => ?_)
  have rx5 : 0 ≤ x5 ∧ x5 ≤ 8 := by rw [ex5]; exact iv_at hu _ _ rfl
  have qx5 : x5 = t1 := ex5.trans Tt1
  refine g_istore_n dX7_readStuff_4 (by decide) ?_
  refine g_pick (lv' := [(0, .ref (uk_ad G 60)), (1, .int k), (2, .int x5)]) [0, 1, 2] rfl ?_
  refine g_aload_n dX7_readStuff_5 rfl ?_
  refine f_X7_26 rfl rfl dX7_readStuff_6 ?_
  refine g_bipush (v := 32) dX7_readStuff_9 (by decide) ?_
  refine g_iload_n dX7_readStuff_11 rfl ?_
  refine g_iadd dX7_readStuff_12 ?_
  refine g_topi (fun x6 ex6 => ?_)
  refine g_iload_n dX7_readStuff_13 rfl ?_
  have v7 : vp_in x6 51 := uk_vin 51 rfl (by first | decide | lia | grind) (by first | decide | lia | grind)
  have b8 := uk_cl v7
  refine g_iast rfl rfl v7 dX7_readStuff_14 ?_
  refine g_mem (fun u9 eu9 => ?_)
  have hu9 : iv u9 := by rw [eu9]; exact iv_st hu (by unfold uk_is51; decide) (by first | decide | lia | grind) (by first | decide | lia | grind) (fun q => by first | decide | lia | grind) (fun q => by first | decide | lia | grind) (fun q => by first | decide | lia | grind)
  have fu9 : fk [60, 66, 67, 68] [3, 10, 11, 13, 22, 28] u u9 := by rw [eu9]; exact fk_up f0 (by decide) (fun q => absurd q (by decide))
  have T10 : u9.1 60 7 = t1 := by rw [eu9]; exact (congrFun (uk_up_oc (by decide)) _).trans Tt1
  have T11 : u9.1 60 14 = t2 := by rw [eu9]; exact (congrFun (uk_up_oc (by decide)) _).trans Tt2
  have T12 : u9.1 60 15 = t3 := by rw [eu9]; exact (congrFun (uk_up_oc (by decide)) _).trans Tt3
  have T13 : u9.1 60 18 = t4 := by rw [eu9]; exact (congrFun (uk_up_oc (by decide)) _).trans Tt4
  have C14 : u9.1 66 = (upd (u.1 66) (x6 : Int32).toNatClampNeg k) := by rw [eu9, uk_up_self, C66]
  have C15 : u9.1 67 = u.1 67 := by rw [eu9]; exact (uk_up_oc (by decide)).trans C67
  have C16 : u9.1 68 = u.1 68 := by rw [eu9]; exact (uk_up_oc (by decide)).trans C68
  refine g_iload_n dX7_readStuff_15 rfl ?_
  refine g_iconst (v := 4) dX7_readStuff_16 (by decide) ?_
  refine g_icmp_ne (tgt := 55) dX7_readStuff_17 (by decide) (fun c17 => ?_) (fun c17 => ?_)
  · refine g_aload_n dX7_readStuff_55 rfl ?_
    refine f_X7_29 rfl rfl dX7_readStuff_56 ?_
    refine g_iload_n dX7_readStuff_59 rfl ?_
    refine g_aload_n dX7_readStuff_60 rfl ?_
    refine g_iconst (v := 0) dX7_readStuff_61 (by decide) ?_
    refine g_iload_n dX7_readStuff_62 rfl ?_
    refine g_iconst (v := 1) dX7_readStuff_63 (by decide) ?_
    refine g_isub dX7_readStuff_64 ?_
    refine g_topi (fun x18 ex18 => ?_)
    refine cl_X7_136 (c := 60) (As := [.int 0, .int x18]) rfl (c_X7_readNumber_s (G := G) hs hu9  0 x18 f N a (show Sr f N u9 _ by rw [eu9]; exact Sr_u p1 (by decide) (by first | exact fun q => absurd q (by decide) | exact fun _ => by decide)) rfl (d)) rfl (by omega) rfl rfl (Nat.le_of_ble_eq_true rfl) dX7_readStuff_65 (fun r19 u20 q21 => ?_)
    obtain ⟨⟨x22, rfl, tx22⟩, mq21⟩ := q21
    obtain ⟨hu20, gu20, ku200, ku201, ku202⟩ := mq21
    have fu20 : fk [60, 66, 67, 68] [3, 10, 11, 13, 22, 28] u u20 := fk_tr fu9 gu20 (by decide) (by decide)
    have T23 : u20.1 60 7 = t1 := (fk_at gu20 (by decide)).trans T10
    obtain ⟨t24, Tt24⟩ : ∃ t, u20.1 60 14 = t := ⟨_, rfl⟩
    have Rt24 : 0 ≤ t24 ∧ t24 ≤ 160 := by rw [← Tt24]; exact iv_at hu20 _ _ rfl
    obtain ⟨t25, Tt25⟩ : ∃ t, u20.1 60 15 = t := ⟨_, rfl⟩
    have Rt25 : 0 ≤ t25 ∧ t25 ≤ 160 := by rw [← Tt25]; exact iv_at hu20 _ _ rfl
    obtain ⟨t26, Tt26⟩ : ∃ t, u20.1 60 18 = t := ⟨_, rfl⟩
    have Rt26 : 0 ≤ t26 ∧ t26 ≤ 6 := by rw [← Tt26]; exact iv_at hu20 _ _ rfl
    have C27 : u20.1 66 = (upd (u.1 66) (x6 : Int32).toNatClampNeg k) := (fk_c gu20 (by decide)).trans C14
    have C28 : u20.1 67 = u.1 67 := (fk_c gu20 (by decide)).trans C15
    have C29 : u20.1 68 = u.1 68 := (fk_c gu20 (by decide)).trans C16
    have v30 : vp_in x5 8 := uk_vin 8 rfl (by first | decide | lia | grind) (by first | decide | lia | grind)
    have b31 := uk_cl v30
    refine g_iast rfl rfl v30 dX7_readStuff_68 ?_
    refine g_mem (fun u32 eu32 => ?_)
    have hu32 : iv u32 := by rw [eu32]; exact iv_up hu20 (uk_pick1 _ (by omega)) (by first | lia | grind) (by first | lia | grind)
    have fu32 : fk [60, 66, 67, 68] [3, 10, 11, 13, 22, 28] u u32 := by rw [eu32]; exact fk_up fu20 (by decide) (fun q => absurd q (by decide))
    have T33 : u32.1 60 7 = t1 := by rw [eu32]; exact (congrFun (uk_up_oc (by decide)) _).trans T23
    have T34 : u32.1 60 14 = t24 := by rw [eu32]; exact (congrFun (uk_up_oc (by decide)) _).trans Tt24
    have T35 : u32.1 60 15 = t25 := by rw [eu32]; exact (congrFun (uk_up_oc (by decide)) _).trans Tt25
    have T36 : u32.1 60 18 = t26 := by rw [eu32]; exact (congrFun (uk_up_oc (by decide)) _).trans Tt26
    have C37 : u32.1 66 = (upd (u.1 66) (x6 : Int32).toNatClampNeg k) := by rw [eu32]; exact (uk_up_oc (by decide)).trans C27
    have C38 : u32.1 67 = (upd (u.1 67) (x5 : Int32).toNatClampNeg x22) := by rw [eu32, uk_up_self, C28]
    have C39 : u32.1 68 = u.1 68 := by rw [eu32]; exact (uk_up_oc (by decide)).trans C29
    refine g_aload_n dX7_readStuff_69 rfl ?_
    refine f_X7_32 rfl rfl dX7_readStuff_70 ?_
    refine g_iload_n dX7_readStuff_73 rfl ?_
    refine g_aload_n dX7_readStuff_74 rfl ?_
    refine g_iconst (v := 0) dX7_readStuff_75 (by decide) ?_
    refine g_iload_n dX7_readStuff_76 rfl ?_
    refine g_iconst (v := 1) dX7_readStuff_77 (by decide) ?_
    refine g_isub dX7_readStuff_78 ?_
    refine g_topi (fun x40 ex40 => ?_)
    refine cl_X7_136 (c := 60) (As := [.int 0, .int x40]) rfl (c_X7_readNumber_s (G := G) hs hu32  0 x40 f N (pTake f N a 2 x18).1 (show Sr f N u32 _ by rw [eu32]; exact Sr_u ku202 (by decide) (by first | exact fun q => absurd q (by decide) | exact fun _ => by decide)) rfl (d)) rfl (by omega) rfl rfl (Nat.le_of_ble_eq_true rfl) dX7_readStuff_79 (fun r41 u42 q43 => ?_)
    obtain ⟨⟨x44, rfl, tx44⟩, mq43⟩ := q43
    obtain ⟨hu42, gu42, ku420, ku421, ku422⟩ := mq43
    have fu42 : fk [60, 66, 67, 68] [3, 10, 11, 13, 22, 28] u u42 := fk_tr fu32 gu42 (by decide) (by decide)
    have T45 : u42.1 60 7 = t1 := (fk_at gu42 (by decide)).trans T33
    obtain ⟨t46, Tt46⟩ : ∃ t, u42.1 60 14 = t := ⟨_, rfl⟩
    have Rt46 : 0 ≤ t46 ∧ t46 ≤ 160 := by rw [← Tt46]; exact iv_at hu42 _ _ rfl
    obtain ⟨t47, Tt47⟩ : ∃ t, u42.1 60 15 = t := ⟨_, rfl⟩
    have Rt47 : 0 ≤ t47 ∧ t47 ≤ 160 := by rw [← Tt47]; exact iv_at hu42 _ _ rfl
    obtain ⟨t48, Tt48⟩ : ∃ t, u42.1 60 18 = t := ⟨_, rfl⟩
    have Rt48 : 0 ≤ t48 ∧ t48 ≤ 6 := by rw [← Tt48]; exact iv_at hu42 _ _ rfl
    have C49 : u42.1 66 = (upd (u.1 66) (x6 : Int32).toNatClampNeg k) := (fk_c gu42 (by decide)).trans C37
    have C50 : u42.1 67 = (upd (u.1 67) (x5 : Int32).toNatClampNeg x22) := (fk_c gu42 (by decide)).trans C38
    have C51 : u42.1 68 = u.1 68 := (fk_c gu42 (by decide)).trans C39
    have v52 : vp_in x5 8 := uk_vin 8 rfl (by first | decide | lia | grind) (by first | decide | lia | grind)
    have b53 := uk_cl v52
    refine g_iast rfl rfl v52 dX7_readStuff_82 ?_
    refine g_mem (fun u54 eu54 => ?_)
    have hu54 : iv u54 := by rw [eu54]; exact iv_up hu42 (uk_pick1 _ (by omega)) (by first | lia | grind) (by first | lia | grind)
    have fu54 : fk [60, 66, 67, 68] [3, 10, 11, 13, 22, 28] u u54 := by rw [eu54]; exact fk_up fu42 (by decide) (fun q => absurd q (by decide))
    have T55 : u54.1 60 7 = t1 := by rw [eu54]; exact (congrFun (uk_up_oc (by decide)) _).trans T45
    have T56 : u54.1 60 14 = t46 := by rw [eu54]; exact (congrFun (uk_up_oc (by decide)) _).trans Tt46
    have T57 : u54.1 60 15 = t47 := by rw [eu54]; exact (congrFun (uk_up_oc (by decide)) _).trans Tt47
    have T58 : u54.1 60 18 = t48 := by rw [eu54]; exact (congrFun (uk_up_oc (by decide)) _).trans Tt48
    have C59 : u54.1 66 = (upd (u.1 66) (x6 : Int32).toNatClampNeg k) := by rw [eu54]; exact (uk_up_oc (by decide)).trans C49
    have C60 : u54.1 67 = (upd (u.1 67) (x5 : Int32).toNatClampNeg x22) := by rw [eu54]; exact (uk_up_oc (by decide)).trans C50
    have C61 : u54.1 68 = (upd (u.1 68) (x5 : Int32).toNatClampNeg x44) := by rw [eu54, uk_up_self, C51]
    refine g_aload_n dX7_readStuff_83 rfl ?_
    refine f_X7_26 rfl rfl dX7_readStuff_84 ?_
    refine g_bipush (v := 16) dX7_readStuff_87 (by decide) ?_
    refine g_iload_n dX7_readStuff_89 rfl ?_
    refine g_iadd dX7_readStuff_90 ?_
    refine g_topi (fun x62 ex62 => ?_)
    refine g_aload_n dX7_readStuff_91 rfl ?_
    refine g_iconst (v := 0) dX7_readStuff_92 (by decide) ?_
    refine g_bipush (v := 9) dX7_readStuff_93 (by decide) ?_
    refine cl_X7_136 (c := 60) (As := [.int 0, .int 9]) rfl (c_X7_readNumber_s (G := G) hs hu54  0 9 f N (pTake f N (pTake f N a 2 x18).1 2 x40).1 (show Sr f N u54 _ by rw [eu54]; exact Sr_u ku422 (by decide) (by first | exact fun q => absurd q (by decide) | exact fun _ => by decide)) rfl (d)) rfl (by omega) rfl rfl (Nat.le_of_ble_eq_true rfl) dX7_readStuff_95 (fun r63 u64 q65 => ?_)
    obtain ⟨⟨x66, rfl, tx66⟩, mq65⟩ := q65
    obtain ⟨hu64, gu64, ku640, ku641, ku642⟩ := mq65
    have fu64 : fk [60, 66, 67, 68] [3, 10, 11, 13, 22, 28] u u64 := fk_tr fu54 gu64 (by decide) (by decide)
    have T67 : u64.1 60 7 = t1 := (fk_at gu64 (by decide)).trans T55
    obtain ⟨t68, Tt68⟩ : ∃ t, u64.1 60 14 = t := ⟨_, rfl⟩
    have Rt68 : 0 ≤ t68 ∧ t68 ≤ 160 := by rw [← Tt68]; exact iv_at hu64 _ _ rfl
    obtain ⟨t69, Tt69⟩ : ∃ t, u64.1 60 15 = t := ⟨_, rfl⟩
    have Rt69 : 0 ≤ t69 ∧ t69 ≤ 160 := by rw [← Tt69]; exact iv_at hu64 _ _ rfl
    obtain ⟨t70, Tt70⟩ : ∃ t, u64.1 60 18 = t := ⟨_, rfl⟩
    have Rt70 : 0 ≤ t70 ∧ t70 ≤ 6 := by rw [← Tt70]; exact iv_at hu64 _ _ rfl
    have C71 : u64.1 66 = (upd (u.1 66) (x6 : Int32).toNatClampNeg k) := (fk_c gu64 (by decide)).trans C59
    have C72 : u64.1 67 = (upd (u.1 67) (x5 : Int32).toNatClampNeg x22) := (fk_c gu64 (by decide)).trans C60
    have C73 : u64.1 68 = (upd (u.1 68) (x5 : Int32).toNatClampNeg x44) := (fk_c gu64 (by decide)).trans C61
    have v74 : vp_in x62 51 := uk_vin 51 rfl (by first | decide | lia | grind) (by first | decide | lia | grind)
    have b75 := uk_cl v74
    refine g_iast rfl rfl v74 dX7_readStuff_98 ?_
    refine g_mem (fun u76 eu76 => ?_)
    have hu76 : iv u76 := by rw [eu76]; exact iv_st hu64 (by unfold uk_is51; decide) (by first | decide | lia | grind) (by first | decide | lia | grind) (fun q => by first | decide | lia | grind) (fun q => by first | decide | lia | grind) (fun q => by first | decide | lia | grind)
    have fu76 : fk [60, 66, 67, 68] [3, 10, 11, 13, 22, 28] u u76 := by rw [eu76]; exact fk_up fu64 (by decide) (fun q => absurd q (by decide))
    have T77 : u76.1 60 7 = t1 := by rw [eu76]; exact (congrFun (uk_up_oc (by decide)) _).trans T67
    have T78 : u76.1 60 14 = t68 := by rw [eu76]; exact (congrFun (uk_up_oc (by decide)) _).trans Tt68
    have T79 : u76.1 60 15 = t69 := by rw [eu76]; exact (congrFun (uk_up_oc (by decide)) _).trans Tt69
    have T80 : u76.1 60 18 = t70 := by rw [eu76]; exact (congrFun (uk_up_oc (by decide)) _).trans Tt70
    have C81 : u76.1 66 = (upd ((upd (u.1 66) (x6 : Int32).toNatClampNeg k)) (x62 : Int32).toNatClampNeg x66) := by rw [eu76, uk_up_self, C71]
    have C82 : u76.1 67 = (upd (u.1 67) (x5 : Int32).toNatClampNeg x22) := by rw [eu76]; exact (uk_up_oc (by decide)).trans C72
    have C83 : u76.1 68 = (upd (u.1 68) (x5 : Int32).toNatClampNeg x44) := by rw [eu76]; exact (uk_up_oc (by decide)).trans C73
    refine g_aload_n dX7_readStuff_99 rfl ?_
    refine g_dup dX7_readStuff_100 rfl ?_
    refine f_X7_69 rfl rfl dX7_readStuff_101 ?_
    refine g_topi (fun x84 ex84 => ?_)
    have rx84 : 0 ≤ x84 ∧ x84 ≤ 8 := by rw [ex84]; exact iv_at hu76 _ _ rfl
    have qx84 : x84 = t1 := ex84.trans T77
    refine g_iconst (v := 1) dX7_readStuff_104 (by decide) ?_
    refine g_iadd dX7_readStuff_105 ?_
    refine g_topi (fun x85 ex85 => ?_)
    refine p_X7_69 rfl rfl dX7_readStuff_106 ?_
    refine g_mem (fun u86 eu86 => ?_)
    have hu86 : iv u86 := by rw [eu86]; exact iv_up hu76 rfl (by first | lia | grind) (by first | lia | grind)
    have fu86 : fk [60, 66, 67, 68] [3, 10, 11, 13, 22, 28] u u86 := by rw [eu86]; exact fk_up fu76 (by decide) (fun _ => by decide)
    have C87 : u86.1 66 = (upd ((upd (u.1 66) (x6 : Int32).toNatClampNeg k)) (x62 : Int32).toNatClampNeg x66) := by rw [eu86]; exact (uk_up_oc (by decide)).trans C81
    have C88 : u86.1 67 = (upd (u.1 67) (x5 : Int32).toNatClampNeg x22) := by rw [eu86]; exact (uk_up_oc (by decide)).trans C82
    have C89 : u86.1 68 = (upd (u.1 68) (x5 : Int32).toNatClampNeg x44) := by rw [eu86]; exact (uk_up_oc (by decide)).trans C83
    have s90 : u86.1 60 7 = x85 := by rw [eu86, uk_up_at]; exact if_pos ⟨rfl, rfl⟩
    have T91 : u86.1 60 14 = t68 := by rw [eu86, uk_up_at, if_neg (by decide)]; exact T78
    have T92 : u86.1 60 15 = t69 := by rw [eu86, uk_up_at, if_neg (by decide)]; exact T79
    have T93 : u86.1 60 18 = t70 := by rw [eu86, uk_up_at, if_neg (by decide)]; exact T80
    exact g_vret dX7_readStuff_109 rfl ⟨rfl, hu86, fu86, (fun hf => by
    rw [T93] at hf
    have hrd := hrf (by grind)
    unfold rd at hrd ⊢
    rw [show u.1 60 7 = x5 by grind] at hrd
    rw [s90, C88, C89, show x85 = x5 + 1 by grind]
    exact rd_st (by grind) (by grind) hrd (fun i h1 h2 h3 => by rw [C87, upd_ne, upd_ne]; all_goals grind) (by rw [C87, upd_ne, upd_at]; all_goals grind) rfl rfl (by grind)), (by first | rfl | (rw [T93]; grind) | rw [T93]), (by first | rfl | (rw [T93, T92, T91]; grind) | rw [T93, T92, T91]), (by unfold rsf; rw [if_neg (by grind)]; have h9 := (show Sr f N u86 _ by rw [eu86]; exact Sr_u (show Sr f N u76 _ by rw [eu76]; exact Sr_u ku642 (by decide) (by first | exact fun q => absurd q (by decide) | exact fun _ => by decide)) (by decide) (by first | exact fun q => absurd q (by decide) | exact fun _ => by decide)); rw [show x18 = u.1 60 7 - 1 by grind, show x40 = u.1 60 7 - 1 by grind] at h9; exact h9), (by rw [s90]; grind), (fun _ => Rw_made p2 (by grind) (by grind) (by grind) (by grind) (by rw [s90]; grind) C87 (by grind) (by grind) C88 C89 (by grind) (by grind) tx22.2 tx44.2 tx66.2)⟩
  · refine g_aload_n dX7_readStuff_20 rfl ?_
    refine f_X7_26 rfl rfl dX7_readStuff_21 ?_
    refine g_bipush (v := 24) dX7_readStuff_24 (by decide) ?_
    refine g_iload_n dX7_readStuff_26 rfl ?_
    refine g_iadd dX7_readStuff_27 ?_
    refine g_topi (fun x94 ex94 => ?_)
    refine g_aload_n dX7_readStuff_28 rfl ?_
    refine g_iconst (v := 0) dX7_readStuff_29 (by decide) ?_
    refine g_bipush (v := 9) dX7_readStuff_30 (by decide) ?_
    refine cl_X7_136 (c := 60) (As := [.int 0, .int 9]) rfl (c_X7_readNumber_s (G := G) hs hu9  0 9 f N a (show Sr f N u9 _ by rw [eu9]; exact Sr_u p1 (by decide) (by first | exact fun q => absurd q (by decide) | exact fun _ => by decide)) rfl (d)) rfl (by omega) rfl rfl (Nat.le_of_ble_eq_true rfl) dX7_readStuff_32 (fun r95 u96 q97 => ?_)
    obtain ⟨⟨x98, rfl, tx98⟩, mq97⟩ := q97
    obtain ⟨hu96, gu96, ku960, ku961, ku962⟩ := mq97
    have fu96 : fk [60, 66, 67, 68] [3, 10, 11, 13, 22, 28] u u96 := fk_tr fu9 gu96 (by decide) (by decide)
    have T99 : u96.1 60 7 = t1 := (fk_at gu96 (by decide)).trans T10
    obtain ⟨t100, Tt100⟩ : ∃ t, u96.1 60 14 = t := ⟨_, rfl⟩
    have Rt100 : 0 ≤ t100 ∧ t100 ≤ 160 := by rw [← Tt100]; exact iv_at hu96 _ _ rfl
    obtain ⟨t101, Tt101⟩ : ∃ t, u96.1 60 15 = t := ⟨_, rfl⟩
    have Rt101 : 0 ≤ t101 ∧ t101 ≤ 160 := by rw [← Tt101]; exact iv_at hu96 _ _ rfl
    obtain ⟨t102, Tt102⟩ : ∃ t, u96.1 60 18 = t := ⟨_, rfl⟩
    have Rt102 : 0 ≤ t102 ∧ t102 ≤ 6 := by rw [← Tt102]; exact iv_at hu96 _ _ rfl
    have C103 : u96.1 66 = (upd (u.1 66) (x6 : Int32).toNatClampNeg k) := (fk_c gu96 (by decide)).trans C14
    have C104 : u96.1 67 = u.1 67 := (fk_c gu96 (by decide)).trans C15
    have C105 : u96.1 68 = u.1 68 := (fk_c gu96 (by decide)).trans C16
    have v106 : vp_in x94 51 := uk_vin 51 rfl (by first | decide | lia | grind) (by first | decide | lia | grind)
    have b107 := uk_cl v106
    refine g_iast rfl rfl v106 dX7_readStuff_35 ?_
    refine g_mem (fun u108 eu108 => ?_)
    have hu108 : iv u108 := by rw [eu108]; exact iv_st hu96 (by unfold uk_is51; decide) (by first | decide | lia | grind) (by first | decide | lia | grind) (fun q => by first | decide | lia | grind) (fun q => by first | decide | lia | grind) (fun q => by first | decide | lia | grind)
    have fu108 : fk [60, 66, 67, 68] [3, 10, 11, 13, 22, 28] u u108 := by rw [eu108]; exact fk_up fu96 (by decide) (fun q => absurd q (by decide))
    have T109 : u108.1 60 7 = t1 := by rw [eu108]; exact (congrFun (uk_up_oc (by decide)) _).trans T99
    have T110 : u108.1 60 14 = t100 := by rw [eu108]; exact (congrFun (uk_up_oc (by decide)) _).trans Tt100
    have T111 : u108.1 60 15 = t101 := by rw [eu108]; exact (congrFun (uk_up_oc (by decide)) _).trans Tt101
    have T112 : u108.1 60 18 = t102 := by rw [eu108]; exact (congrFun (uk_up_oc (by decide)) _).trans Tt102
    have C113 : u108.1 66 = (upd ((upd (u.1 66) (x6 : Int32).toNatClampNeg k)) (x94 : Int32).toNatClampNeg x98) := by rw [eu108, uk_up_self, C103]
    have C114 : u108.1 67 = u.1 67 := by rw [eu108]; exact (uk_up_oc (by decide)).trans C104
    have C115 : u108.1 68 = u.1 68 := by rw [eu108]; exact (uk_up_oc (by decide)).trans C105
    refine g_aload_n dX7_readStuff_36 rfl ?_
    refine f_X7_29 rfl rfl dX7_readStuff_37 ?_
    refine g_iload_n dX7_readStuff_40 rfl ?_
    refine g_bipush (v := (-4)) dX7_readStuff_41 (by decide) ?_
    have v116 : vp_in x5 8 := uk_vin 8 rfl (by first | decide | lia | grind) (by first | decide | lia | grind)
    have b117 := uk_cl v116
    refine g_iast rfl rfl v116 dX7_readStuff_43 ?_
    refine g_mem (fun u118 eu118 => ?_)
    have hu118 : iv u118 := by rw [eu118]; exact iv_up hu108 (uk_pick1 _ (by omega)) (by first | lia | grind) (by first | lia | grind)
    have fu118 : fk [60, 66, 67, 68] [3, 10, 11, 13, 22, 28] u u118 := by rw [eu118]; exact fk_up fu108 (by decide) (fun q => absurd q (by decide))
    have T119 : u118.1 60 7 = t1 := by rw [eu118]; exact (congrFun (uk_up_oc (by decide)) _).trans T109
    have T120 : u118.1 60 14 = t100 := by rw [eu118]; exact (congrFun (uk_up_oc (by decide)) _).trans T110
    have T121 : u118.1 60 15 = t101 := by rw [eu118]; exact (congrFun (uk_up_oc (by decide)) _).trans T111
    have T122 : u118.1 60 18 = t102 := by rw [eu118]; exact (congrFun (uk_up_oc (by decide)) _).trans T112
    have C123 : u118.1 66 = (upd ((upd (u.1 66) (x6 : Int32).toNatClampNeg k)) (x94 : Int32).toNatClampNeg x98) := by rw [eu118]; exact (uk_up_oc (by decide)).trans C113
    have C124 : u118.1 67 = (upd (u.1 67) (x5 : Int32).toNatClampNeg (-4)) := by rw [eu118, uk_up_self, C114]
    have C125 : u118.1 68 = u.1 68 := by rw [eu118]; exact (uk_up_oc (by decide)).trans C115
    refine g_aload_n dX7_readStuff_44 rfl ?_
    refine f_X7_32 rfl rfl dX7_readStuff_45 ?_
    refine g_iload_n dX7_readStuff_48 rfl ?_
    refine g_bipush (v := (-4)) dX7_readStuff_49 (by decide) ?_
    have v126 : vp_in x5 8 := uk_vin 8 rfl (by first | decide | lia | grind) (by first | decide | lia | grind)
    have b127 := uk_cl v126
    refine g_iast rfl rfl v126 dX7_readStuff_51 ?_
    refine g_mem (fun u128 eu128 => ?_)
    have hu128 : iv u128 := by rw [eu128]; exact iv_up hu118 (uk_pick1 _ (by omega)) (by first | lia | grind) (by first | lia | grind)
    have fu128 : fk [60, 66, 67, 68] [3, 10, 11, 13, 22, 28] u u128 := by rw [eu128]; exact fk_up fu118 (by decide) (fun q => absurd q (by decide))
    have T129 : u128.1 60 7 = t1 := by rw [eu128]; exact (congrFun (uk_up_oc (by decide)) _).trans T119
    have T130 : u128.1 60 14 = t100 := by rw [eu128]; exact (congrFun (uk_up_oc (by decide)) _).trans T120
    have T131 : u128.1 60 15 = t101 := by rw [eu128]; exact (congrFun (uk_up_oc (by decide)) _).trans T121
    have T132 : u128.1 60 18 = t102 := by rw [eu128]; exact (congrFun (uk_up_oc (by decide)) _).trans T122
    have C133 : u128.1 66 = (upd ((upd (u.1 66) (x6 : Int32).toNatClampNeg k)) (x94 : Int32).toNatClampNeg x98) := by rw [eu128]; exact (uk_up_oc (by decide)).trans C123
    have C134 : u128.1 67 = (upd (u.1 67) (x5 : Int32).toNatClampNeg (-4)) := by rw [eu128]; exact (uk_up_oc (by decide)).trans C124
    have C135 : u128.1 68 = (upd (u.1 68) (x5 : Int32).toNatClampNeg (-4)) := by rw [eu128, uk_up_self, C125]
    refine g_goto (tgt := 83) dX7_readStuff_52 (by decide) ?_
    refine g_aload_n dX7_readStuff_83 rfl ?_
    refine f_X7_26 rfl rfl dX7_readStuff_84 ?_
    refine g_bipush (v := 16) dX7_readStuff_87 (by decide) ?_
    refine g_iload_n dX7_readStuff_89 rfl ?_
    refine g_iadd dX7_readStuff_90 ?_
    refine g_topi (fun x136 ex136 => ?_)
    refine g_aload_n dX7_readStuff_91 rfl ?_
    refine g_iconst (v := 0) dX7_readStuff_92 (by decide) ?_
    refine g_bipush (v := 9) dX7_readStuff_93 (by decide) ?_
    refine cl_X7_136 (c := 60) (As := [.int 0, .int 9]) rfl (c_X7_readNumber_s (G := G) hs hu128  0 9 f N (pTake f N a 2 9).1 (show Sr f N u128 _ by rw [eu128]; exact Sr_u (show Sr f N u118 _ by rw [eu118]; exact Sr_u (show Sr f N u108 _ by rw [eu108]; exact Sr_u ku962 (by decide) (by first | exact fun q => absurd q (by decide) | exact fun _ => by decide)) (by decide) (by first | exact fun q => absurd q (by decide) | exact fun _ => by decide)) (by decide) (by first | exact fun q => absurd q (by decide) | exact fun _ => by decide)) rfl (d)) rfl (by omega) rfl rfl (Nat.le_of_ble_eq_true rfl) dX7_readStuff_95 (fun r137 u138 q139 => ?_)
    obtain ⟨⟨x140, rfl, tx140⟩, mq139⟩ := q139
    obtain ⟨hu138, gu138, ku1380, ku1381, ku1382⟩ := mq139
    have fu138 : fk [60, 66, 67, 68] [3, 10, 11, 13, 22, 28] u u138 := fk_tr fu128 gu138 (by decide) (by decide)
    have T141 : u138.1 60 7 = t1 := (fk_at gu138 (by decide)).trans T129
    obtain ⟨t142, Tt142⟩ : ∃ t, u138.1 60 14 = t := ⟨_, rfl⟩
    have Rt142 : 0 ≤ t142 ∧ t142 ≤ 160 := by rw [← Tt142]; exact iv_at hu138 _ _ rfl
    obtain ⟨t143, Tt143⟩ : ∃ t, u138.1 60 15 = t := ⟨_, rfl⟩
    have Rt143 : 0 ≤ t143 ∧ t143 ≤ 160 := by rw [← Tt143]; exact iv_at hu138 _ _ rfl
    obtain ⟨t144, Tt144⟩ : ∃ t, u138.1 60 18 = t := ⟨_, rfl⟩
    have Rt144 : 0 ≤ t144 ∧ t144 ≤ 6 := by rw [← Tt144]; exact iv_at hu138 _ _ rfl
    have C145 : u138.1 66 = (upd ((upd (u.1 66) (x6 : Int32).toNatClampNeg k)) (x94 : Int32).toNatClampNeg x98) := (fk_c gu138 (by decide)).trans C133
    have C146 : u138.1 67 = (upd (u.1 67) (x5 : Int32).toNatClampNeg (-4)) := (fk_c gu138 (by decide)).trans C134
    have C147 : u138.1 68 = (upd (u.1 68) (x5 : Int32).toNatClampNeg (-4)) := (fk_c gu138 (by decide)).trans C135
    have v148 : vp_in x136 51 := uk_vin 51 rfl (by first | decide | lia | grind) (by first | decide | lia | grind)
    have b149 := uk_cl v148
    refine g_iast rfl rfl v148 dX7_readStuff_98 ?_
    refine g_mem (fun u150 eu150 => ?_)
    have hu150 : iv u150 := by rw [eu150]; exact iv_st hu138 (by unfold uk_is51; decide) (by first | decide | lia | grind) (by first | decide | lia | grind) (fun q => by first | decide | lia | grind) (fun q => by first | decide | lia | grind) (fun q => by first | decide | lia | grind)
    have fu150 : fk [60, 66, 67, 68] [3, 10, 11, 13, 22, 28] u u150 := by rw [eu150]; exact fk_up fu138 (by decide) (fun q => absurd q (by decide))
    have T151 : u150.1 60 7 = t1 := by rw [eu150]; exact (congrFun (uk_up_oc (by decide)) _).trans T141
    have T152 : u150.1 60 14 = t142 := by rw [eu150]; exact (congrFun (uk_up_oc (by decide)) _).trans Tt142
    have T153 : u150.1 60 15 = t143 := by rw [eu150]; exact (congrFun (uk_up_oc (by decide)) _).trans Tt143
    have T154 : u150.1 60 18 = t144 := by rw [eu150]; exact (congrFun (uk_up_oc (by decide)) _).trans Tt144
    have C155 : u150.1 66 = (upd ((upd ((upd (u.1 66) (x6 : Int32).toNatClampNeg k)) (x94 : Int32).toNatClampNeg x98)) (x136 : Int32).toNatClampNeg x140) := by rw [eu150, uk_up_self, C145]
    have C156 : u150.1 67 = (upd (u.1 67) (x5 : Int32).toNatClampNeg (-4)) := by rw [eu150]; exact (uk_up_oc (by decide)).trans C146
    have C157 : u150.1 68 = (upd (u.1 68) (x5 : Int32).toNatClampNeg (-4)) := by rw [eu150]; exact (uk_up_oc (by decide)).trans C147
    refine g_aload_n dX7_readStuff_99 rfl ?_
    refine g_dup dX7_readStuff_100 rfl ?_
    refine f_X7_69 rfl rfl dX7_readStuff_101 ?_
    refine g_topi (fun x158 ex158 => ?_)
    have rx158 : 0 ≤ x158 ∧ x158 ≤ 8 := by rw [ex158]; exact iv_at hu150 _ _ rfl
    have qx158 : x158 = t1 := ex158.trans T151
    refine g_iconst (v := 1) dX7_readStuff_104 (by decide) ?_
    refine g_iadd dX7_readStuff_105 ?_
    refine g_topi (fun x159 ex159 => ?_)
    refine p_X7_69 rfl rfl dX7_readStuff_106 ?_
    refine g_mem (fun u160 eu160 => ?_)
    have hu160 : iv u160 := by rw [eu160]; exact iv_up hu150 rfl (by first | lia | grind) (by first | lia | grind)
    have fu160 : fk [60, 66, 67, 68] [3, 10, 11, 13, 22, 28] u u160 := by rw [eu160]; exact fk_up fu150 (by decide) (fun _ => by decide)
    have C161 : u160.1 66 = (upd ((upd ((upd (u.1 66) (x6 : Int32).toNatClampNeg k)) (x94 : Int32).toNatClampNeg x98)) (x136 : Int32).toNatClampNeg x140) := by rw [eu160]; exact (uk_up_oc (by decide)).trans C155
    have C162 : u160.1 67 = (upd (u.1 67) (x5 : Int32).toNatClampNeg (-4)) := by rw [eu160]; exact (uk_up_oc (by decide)).trans C156
    have C163 : u160.1 68 = (upd (u.1 68) (x5 : Int32).toNatClampNeg (-4)) := by rw [eu160]; exact (uk_up_oc (by decide)).trans C157
    have s164 : u160.1 60 7 = x159 := by rw [eu160, uk_up_at]; exact if_pos ⟨rfl, rfl⟩
    have T165 : u160.1 60 14 = t142 := by rw [eu160, uk_up_at, if_neg (by decide)]; exact T152
    have T166 : u160.1 60 15 = t143 := by rw [eu160, uk_up_at, if_neg (by decide)]; exact T153
    have T167 : u160.1 60 18 = t144 := by rw [eu160, uk_up_at, if_neg (by decide)]; exact T154
    exact g_vret dX7_readStuff_109 rfl ⟨rfl, hu160, fu160, (fun hf => by
    rw [T167] at hf
    have hrd := hrf (by grind)
    unfold rd at hrd ⊢
    rw [show u.1 60 7 = x5 by grind] at hrd
    rw [s164, C162, C163, show x159 = x5 + 1 by grind]
    exact rd_st (by grind) (by grind) hrd (fun i h1 h2 h3 => by rw [C161, upd_ne, upd_ne, upd_ne]; all_goals grind) (by rw [C161, upd_ne, upd_ne, upd_at]; all_goals grind) rfl rfl (by grind)), (by first | rfl | (rw [T167]; grind) | rw [T167]), (by first | rfl | (rw [T167, T166, T165]; grind) | rw [T167, T166, T165]), (by unfold rsf; rw [if_pos (by grind)]; exact (show Sr f N u160 _ by rw [eu160]; exact Sr_u (show Sr f N u150 _ by rw [eu150]; exact Sr_u ku1382 (by decide) (by first | exact fun q => absurd q (by decide) | exact fun _ => by decide)) (by decide) (by first | exact fun q => absurd q (by decide) | exact fun _ => by decide))), (by rw [s164]; grind), (fun _ => Rw_raw p2 (by grind) (by grind) (by grind) (by grind) (by rw [s164]; grind) C161 (by grind) (by grind) (by grind) C162 C163 tx98.2 tx140.2)⟩
abbrev q_X7_readHave_t (u : uk_Mem) (f : Nat → Int32) (N : Int32) (a : PS) (W : PW) (r : Option Value) (u' : uk_Mem) : Prop := (r = none) ∧ (iv u' ∧ fk [60, 66] [3, 7, 13, 22, 28] u u' ∧ rf u' ∧ (u'.1 60 18 = 0 → u.1 60 18 = 0) ∧ (u'.1 60 18 = 0 → u.1 60 14 ≤ u'.1 60 15 ∧ u'.1 60 15 ≤ u'.1 60 14) ∧ Sr f N u' (pTake f N (pTwice (pTake f N a 2 7).1 (pTake f N a 2 7).2 (tk f N a.2.2.2.2).1) 2 40).1 ∧ (u'.1 60 18 = 0 → u'.1 60 10 = a.2.2.1 ||| ((1 : Int32) <<< (pTake f N a 2 7).2) ∧ hi9 (a.2.2.1 ||| ((1 : Int32) <<< (pTake f N a 2 7).2)) (u'.1 60 11)) ∧ (u'.1 60 18 = 0 → Rw u' (wHav f N a W)))
set_option maxHeartbeats 4000000 in
set_option maxRecDepth 20000 in
theorem c_X7_readHave_t {G : uk_D} (hs : uk_Sep G) {u : uk_Mem} (hu : iv u) (hrf : rf u) (f : Nat → Int32) (N : Int32) (a : PS) (W : PW) (p0 : Sr f N u a) (p1 : u.1 60 18 = 0) (p2 : u.1 60 10 = a.2.2.1) (p3 : hi9 a.2.2.1 (u.1 60 11)) (p4 : Rw u W) (d : Nat) : uk_Meth G (d + 3) mX7_readHave [.ref (uk_ad G 60)] u (q_X7_readHave_t u f N a W) := by
  refine uk_Meth.of hs (by decide) (Nat.le_of_ble_eq_true rfl) (fun X => ?_)
  have f0 : fk [60, 66] [3, 7, 13, 22, 28] u u := fk_rf
  have C66 : u.1 66 = u.1 66 := rfl
  have C67 : u.1 67 = u.1 67 := rfl
  have C68 : u.1 68 = u.1 68 := rfl
  obtain ⟨t1, Tt1⟩ : ∃ t, u.1 60 7 = t := ⟨_, rfl⟩
  obtain ⟨t2, Tt2⟩ : ∃ t, u.1 60 10 = t := ⟨_, rfl⟩
  obtain ⟨t3, Tt3⟩ : ∃ t, u.1 60 11 = t := ⟨_, rfl⟩
  obtain ⟨t4, Tt4⟩ : ∃ t, u.1 60 13 = t := ⟨_, rfl⟩
  obtain ⟨t5, Tt5⟩ : ∃ t, u.1 60 14 = t := ⟨_, rfl⟩
  obtain ⟨t6, Tt6⟩ : ∃ t, u.1 60 15 = t := ⟨_, rfl⟩
  obtain ⟨t7, Tt7⟩ : ∃ t, u.1 60 18 = t := ⟨_, rfl⟩
  obtain ⟨t8, Tt8⟩ : ∃ t, u.1 60 19 = t := ⟨_, rfl⟩
  refine g_aload_n dX7_readHave_0 rfl ?_
  refine g_iconst (v := 0) dX7_readHave_1 (by decide) ?_
  refine g_bipush (v := 7) dX7_readHave_2 (by decide) ?_
  refine cl_X7_129 (c := 60) (As := [.int 0, .int 7]) rfl (c_X7_looked_s (G := G) hs hu  0 7  (d + 1)) rfl (by omega) rfl rfl (Nat.le_of_ble_eq_true rfl) dX7_readHave_4 (fun r9 u10 q11 => ?_)
  obtain ⟨⟨x12, rfl, tx12⟩, mq11⟩ := q11
  obtain ⟨hu10, gu10, ku100⟩ := mq11
  have fu10 : fk [60, 66] [3, 7, 13, 22, 28] u u10 := fk_tr f0 gu10 (by decide) (by decide)
  have rfu10 : rf u10 := rf_mono hrf gu10 ku100 (by decide) (by decide) (by decide) (by decide)
  have T13 : u10.1 60 7 = t1 := (fk_at gu10 (by decide)).trans Tt1
  have T14 : u10.1 60 10 = t2 := (fk_at gu10 (by decide)).trans Tt2
  have T15 : u10.1 60 11 = t3 := (fk_at gu10 (by decide)).trans Tt3
  have T16 : u10.1 60 13 = t4 := (fk_at gu10 (by decide)).trans Tt4
  have T17 : u10.1 60 14 = t5 := (fk_at gu10 (by decide)).trans Tt5
  have T18 : u10.1 60 15 = t6 := (fk_at gu10 (by decide)).trans Tt6
  obtain ⟨t19, Tt19⟩ : ∃ t, u10.1 60 18 = t := ⟨_, rfl⟩
  have Rt19 : 0 ≤ t19 ∧ t19 ≤ 6 := by rw [← Tt19]; exact iv_at hu10 _ _ rfl
  obtain ⟨t20, Tt20⟩ : ∃ t, u10.1 60 19 = t := ⟨_, rfl⟩
  have C21 : u10.1 66 = u.1 66 := (fk_c gu10 (by decide)).trans C66
  have C22 : u10.1 67 = u.1 67 := (fk_c gu10 (by decide)).trans C67
  have C23 : u10.1 68 = u.1 68 := (fk_c gu10 (by decide)).trans C68
  have hN : N ≤ 160 := by rw [← p0.2.1]; exact (iv_at hu 60 13 rfl).2
  have TB : u10.1 60 10 = a.2.2.1 := (fk_at gu10 (by decide)).trans p2
  have HB : hi9 a.2.2.1 (u10.1 60 11) := by rw [fk_at (c := 60) (i := 11) gu10 (by decide)]; exact p3
  have XR : 0 ≤ x12 ∧ x12 ≤ 7 := by grind
  refine g_istore_n dX7_readHave_7 (by decide) ?_
  refine g_pick (lv' := [(0, .ref (uk_ad G 60)), (1, .int x12)]) [0, 1] rfl ?_
  refine g_aload_n dX7_readHave_8 rfl ?_
  refine f_X7_91 rfl rfl dX7_readHave_9 ?_
  refine g_topi (fun x24 ex24 => ?_)
  have rx24 : 0 ≤ x24 ∧ x24 ≤ 6 := by rw [ex24]; exact iv_at hu10 _ _ rfl
  have qx24 : x24 = t19 := ex24.trans Tt19
  refine g_if_ne (tgt := 68) dX7_readHave_12 (by decide) (fun c25 => ?_) (fun c25 => ?_)
  · have TW : twd a.2.2.1 x12 u10 u10 := Or.inl ⟨by grind, rfl, rfl⟩
    refine g_aload_n dX7_readHave_68 rfl ?_
    refine cl_X7_133 (c := 60) (As := []) rfl (c_X7_next_s (G := G) hs hu10    (d + 1)) rfl (by omega) rfl rfl (Nat.le_of_ble_eq_true rfl) dX7_readHave_69 (fun r26 u27 q28 => ?_)
    obtain ⟨rfl, mq28⟩ := q28
    obtain ⟨hu27, gu27, ku270, ku271, ku272, ku273, ku274, ku275⟩ := mq28
    have fu27 : fk [60, 66] [3, 7, 13, 22, 28] u u27 := fk_tr fu10 gu27 (by decide) (by decide)
    have rfu27 : rf u27 := rf_mono rfu10 gu27 ku270 (by decide) (by decide) (by decide) (by decide)
    have T29 : u27.1 60 7 = t1 := (fk_at gu27 (by decide)).trans T13
    have T30 : u27.1 60 10 = t2 := (fk_at gu27 (by decide)).trans T14
    have T31 : u27.1 60 11 = t3 := (fk_at gu27 (by decide)).trans T15
    have T32 : u27.1 60 13 = t4 := (fk_at gu27 (by decide)).trans T16
    obtain ⟨t33, Tt33⟩ : ∃ t, u27.1 60 14 = t := ⟨_, rfl⟩
    have Rt33 : 0 ≤ t33 ∧ t33 ≤ 160 := by rw [← Tt33]; exact iv_at hu27 _ _ rfl
    obtain ⟨t34, Tt34⟩ : ∃ t, u27.1 60 15 = t := ⟨_, rfl⟩
    have Rt34 : 0 ≤ t34 ∧ t34 ≤ 160 := by rw [← Tt34]; exact iv_at hu27 _ _ rfl
    obtain ⟨t35, Tt35⟩ : ∃ t, u27.1 60 18 = t := ⟨_, rfl⟩
    have Rt35 : 0 ≤ t35 ∧ t35 ≤ 6 := by rw [← Tt35]; exact iv_at hu27 _ _ rfl
    obtain ⟨t36, Tt36⟩ : ∃ t, u27.1 60 19 = t := ⟨_, rfl⟩
    have C37 : u27.1 66 = u.1 66 := (fk_c gu27 (by decide)).trans C21
    have C38 : u27.1 67 = u.1 67 := (fk_c gu27 (by decide)).trans C22
    have C39 : u27.1 68 = u.1 68 := (fk_c gu27 (by decide)).trans C23
    have SX := Sr_twice hN p0 tx12.2 TW ⟨ku274, fun q => ⟨(ku275 q).2.2.2.2.1, (ku275 q).2.2.2.2.2⟩⟩ (fk_at gu10 (by decide)) (fk_at gu10 (by decide)) (fk_at gu10 (by decide)) (fk_c gu10 (by decide)) rfl rfl rfl (fk_at gu27 (by decide)) (fk_c gu27 (by decide))
    refine g_aload_n dX7_readHave_72 rfl ?_
    refine g_iconst (v := 0) dX7_readHave_73 (by decide) ?_
    refine g_bipush (v := 40) dX7_readHave_74 (by decide) ?_
    refine cl_X7_136 (c := 60) (As := [.int 0, .int 40]) rfl (c_X7_readNumber_s (G := G) hs hu27  0 40 f N (pTwice (pTake f N a 2 7).1 (pTake f N a 2 7).2 (tk f N a.2.2.2.2).1) SX.1 rfl (d)) rfl (by omega) rfl rfl (Nat.le_of_ble_eq_true rfl) dX7_readHave_76 (fun r40 u41 q42 => ?_)
    obtain ⟨⟨x43, rfl, tx43⟩, mq42⟩ := q42
    obtain ⟨hu41, gu41, ku410, ku411, ku412⟩ := mq42
    have fu41 : fk [60, 66] [3, 7, 13, 22, 28] u u41 := fk_tr fu27 gu41 (by decide) (by decide)
    have rfu41 : rf u41 := rf_mono rfu27 gu41 ku410 (by decide) (by decide) (by decide) (by decide)
    have T44 : u41.1 60 7 = t1 := (fk_at gu41 (by decide)).trans T29
    have T45 : u41.1 60 10 = t2 := (fk_at gu41 (by decide)).trans T30
    have T46 : u41.1 60 11 = t3 := (fk_at gu41 (by decide)).trans T31
    have T47 : u41.1 60 13 = t4 := (fk_at gu41 (by decide)).trans T32
    obtain ⟨t48, Tt48⟩ : ∃ t, u41.1 60 14 = t := ⟨_, rfl⟩
    have Rt48 : 0 ≤ t48 ∧ t48 ≤ 160 := by rw [← Tt48]; exact iv_at hu41 _ _ rfl
    obtain ⟨t49, Tt49⟩ : ∃ t, u41.1 60 15 = t := ⟨_, rfl⟩
    have Rt49 : 0 ≤ t49 ∧ t49 ≤ 160 := by rw [← Tt49]; exact iv_at hu41 _ _ rfl
    obtain ⟨t50, Tt50⟩ : ∃ t, u41.1 60 18 = t := ⟨_, rfl⟩
    have Rt50 : 0 ≤ t50 ∧ t50 ≤ 6 := by rw [← Tt50]; exact iv_at hu41 _ _ rfl
    obtain ⟨t51, Tt51⟩ : ∃ t, u41.1 60 19 = t := ⟨_, rfl⟩
    have C52 : u41.1 66 = u.1 66 := (fk_c gu41 (by decide)).trans C37
    have C53 : u41.1 67 = u.1 67 := (fk_c gu41 (by decide)).trans C38
    have C54 : u41.1 68 = u.1 68 := (fk_c gu41 (by decide)).trans C39
    refine g_istore_n dX7_readHave_79 (by decide) ?_
    refine g_pick (lv' := [(0, .ref (uk_ad G 60)), (1, .int x12), (2, .int x43)]) [0, 1, 2] rfl ?_
    refine g_aload_n dX7_readHave_80 rfl ?_
    refine f_X7_26 rfl rfl dX7_readHave_81 ?_
    refine g_iconst (v := 0) dX7_readHave_84 (by decide) ?_
    refine g_iload_n dX7_readHave_85 rfl ?_
    refine g_iadd dX7_readHave_86 ?_
    refine g_topi (fun x55 ex55 => ?_)
    have ox55 : x55 = x12 := by rw [ex55, Int32.zero_add]
    refine g_aload_n dX7_readHave_87 rfl ?_
    refine f_X7_91 rfl rfl dX7_readHave_88 ?_
    refine g_topi (fun x56 ex56 => ?_)
    have rx56 : 0 ≤ x56 ∧ x56 ≤ 6 := by rw [ex56]; exact iv_at hu41 _ _ rfl
    have qx56 : x56 = t50 := ex56.trans Tt50
    refine g_if_ne (tgt := 98) dX7_readHave_91 (by decide) (fun c57 => ?_) (fun c57 => ?_)
    · refine g_aload_n dX7_readHave_98 rfl ?_
      refine f_X7_26 rfl rfl dX7_readHave_99 ?_
      refine g_iconst (v := 0) dX7_readHave_102 (by decide) ?_
      refine g_iload_n dX7_readHave_103 rfl ?_
      refine g_iadd dX7_readHave_104 ?_
      refine g_topi (fun x58 ex58 => ?_)
      have ox58 : x58 = x12 := by rw [ex58, Int32.zero_add]
      have v59 : vp_in x58 51 := uk_vin 51 rfl (by first | decide | lia | grind) (by first | decide | lia | grind)
      refine g_iald rfl rfl v59 dX7_readHave_105 ?_
      refine g_topi (fun x60 ex60 => ?_)
      have bx60 := uk_cl v59
      have rx60 : 0 ≤ x60 ∧ x60 ≤ 40 := by rw [ex60]; exact sg_0 hu41 (by unfold uk_is51; decide) (by first | lia | grind) (by first | lia | grind)
      have px60 : x60 = (u.1 66) (x58 : Int32).toNatClampNeg := ex60.trans (congrFun C52 _)
      have v61 : vp_in x55 51 := uk_vin 51 rfl (by first | decide | lia | grind) (by first | decide | lia | grind)
      have b62 := uk_cl v61
      refine g_iast rfl rfl v61 dX7_readHave_106 ?_
      refine g_mem (fun u63 eu63 => ?_)
      have hu63 : iv u63 := by rw [eu63]; exact iv_st hu41 (by unfold uk_is51; decide) (by first | decide | lia | grind) (by first | decide | lia | grind) (fun q => by first | decide | lia | grind) (fun q => by first | decide | lia | grind) (fun q => by first | decide | lia | grind)
      have fu63 : fk [60, 66] [3, 7, 13, 22, 28] u u63 := by rw [eu63]; exact fk_up fu41 (by decide) (fun q => absurd q (by decide))
      have T64 : u63.1 60 7 = t1 := by rw [eu63]; exact (congrFun (uk_up_oc (by decide)) _).trans T44
      have T65 : u63.1 60 10 = t2 := by rw [eu63]; exact (congrFun (uk_up_oc (by decide)) _).trans T45
      have T66 : u63.1 60 11 = t3 := by rw [eu63]; exact (congrFun (uk_up_oc (by decide)) _).trans T46
      have T67 : u63.1 60 13 = t4 := by rw [eu63]; exact (congrFun (uk_up_oc (by decide)) _).trans T47
      have T68 : u63.1 60 14 = t48 := by rw [eu63]; exact (congrFun (uk_up_oc (by decide)) _).trans Tt48
      have T69 : u63.1 60 15 = t49 := by rw [eu63]; exact (congrFun (uk_up_oc (by decide)) _).trans Tt49
      have T70 : u63.1 60 18 = t50 := by rw [eu63]; exact (congrFun (uk_up_oc (by decide)) _).trans Tt50
      have T71 : u63.1 60 19 = t51 := by rw [eu63]; exact (congrFun (uk_up_oc (by decide)) _).trans Tt51
      have C72 : u63.1 66 = (upd (u.1 66) (x55 : Int32).toNatClampNeg x60) := by rw [eu63, uk_up_self, C52]
      have C73 : u63.1 67 = u.1 67 := by rw [eu63]; exact (uk_up_oc (by decide)).trans C53
      have C74 : u63.1 68 = u.1 68 := by rw [eu63]; exact (uk_up_oc (by decide)).trans C54
      exact g_vret dX7_readHave_107 rfl ⟨rfl, hu63, fu63, (fun hf => by
    rw [T70] at hf
    have hrd := hrf (by grind)
    unfold rd at hrd ⊢
    rw [show u.1 60 7 = t1 by grind] at hrd
    rw [T64, C72, C73, C74]
    exact rk_up hrd (by grind) (by decide) (by grind)), (by first | rfl | (rw [T70]; grind) | rw [T70]), (by first | rfl | (rw [T70, T69, T68]; grind) | rw [T70, T69, T68]), (show Sr f N u63 _ by rw [eu63]; exact Sr_u ku412 (by decide) (fun q => absurd q (by decide))), (fun q => by exfalso; grind), (fun q => by exfalso; grind)⟩
    · refine g_iload_n dX7_readHave_94 rfl ?_
      refine g_goto (tgt := 106) dX7_readHave_95 (by decide) ?_
      have v75 : vp_in x55 51 := uk_vin 51 rfl (by first | decide | lia | grind) (by first | decide | lia | grind)
      have b76 := uk_cl v75
      refine g_iast rfl rfl v75 dX7_readHave_106 ?_
      refine g_mem (fun u77 eu77 => ?_)
      have hu77 : iv u77 := by rw [eu77]; exact iv_st hu41 (by unfold uk_is51; decide) (by first | decide | lia | grind) (by first | decide | lia | grind) (fun q => by first | decide | lia | grind) (fun q => by first | decide | lia | grind) (fun q => by first | decide | lia | grind)
      have fu77 : fk [60, 66] [3, 7, 13, 22, 28] u u77 := by rw [eu77]; exact fk_up fu41 (by decide) (fun q => absurd q (by decide))
      have T78 : u77.1 60 7 = t1 := by rw [eu77]; exact (congrFun (uk_up_oc (by decide)) _).trans T44
      have T79 : u77.1 60 10 = t2 := by rw [eu77]; exact (congrFun (uk_up_oc (by decide)) _).trans T45
      have T80 : u77.1 60 11 = t3 := by rw [eu77]; exact (congrFun (uk_up_oc (by decide)) _).trans T46
      have T81 : u77.1 60 13 = t4 := by rw [eu77]; exact (congrFun (uk_up_oc (by decide)) _).trans T47
      have T82 : u77.1 60 14 = t48 := by rw [eu77]; exact (congrFun (uk_up_oc (by decide)) _).trans Tt48
      have T83 : u77.1 60 15 = t49 := by rw [eu77]; exact (congrFun (uk_up_oc (by decide)) _).trans Tt49
      have T84 : u77.1 60 18 = t50 := by rw [eu77]; exact (congrFun (uk_up_oc (by decide)) _).trans Tt50
      have T85 : u77.1 60 19 = t51 := by rw [eu77]; exact (congrFun (uk_up_oc (by decide)) _).trans Tt51
      have C86 : u77.1 66 = (upd (u.1 66) (x55 : Int32).toNatClampNeg x43) := by rw [eu77, uk_up_self, C52]
      have C87 : u77.1 67 = u.1 67 := by rw [eu77]; exact (uk_up_oc (by decide)).trans C53
      have C88 : u77.1 68 = u.1 68 := by rw [eu77]; exact (uk_up_oc (by decide)).trans C54
      exact g_vret dX7_readHave_107 rfl ⟨rfl, hu77, fu77, (fun hf => by
    rw [T84] at hf
    have hrd := hrf (by grind)
    unfold rd at hrd ⊢
    rw [show u.1 60 7 = t1 by grind] at hrd
    rw [T78, C86, C87, C88]
    exact rk_up hrd (by grind) (by decide) (by grind)), (by first | rfl | (rw [T84]; grind) | rw [T84]), (by first | rfl | (rw [T84, T83, T82]; grind) | rw [T84, T83, T82]), (show Sr f N u77 _ by rw [eu77]; exact Sr_u ku412 (by decide) (fun q => absurd q (by decide))), (fun q => by exfalso; grind), (fun _ => Rw_have p4 (by rw [T78]; grind) C86 C87 C88 (by grind) (by grind) (by grind) SX.2 tx43.2)⟩
  · refine g_aload_n dX7_readHave_15 rfl ?_
    refine g_aload_n dX7_readHave_16 rfl ?_
    refine f_X7_73 rfl rfl dX7_readHave_17 ?_
    refine g_topi (fun x89 ex89 => ?_)
    have qx89 : x89 = t2 := ex89.trans T14
    refine g_iload_n dX7_readHave_20 rfl ?_
    refine g_ishr dX7_readHave_21 (fun x90 ex90 => ?_)
    refine g_iconst (v := 1) dX7_readHave_22 (by decide) ?_
    refine g_iand dX7_readHave_23 ?_
    refine g_topi (fun x91 ex91 => ?_)
    have yx91 : (a.2.2.1 >>> x12) &&& 1 = x91 := by rw [ex91, ex90, m31 XR.1 (by grind), ex89, TB]
    have ax91 := and1 ex91
    refine g_if_ne (tgt := 31) dX7_readHave_24 (by decide) (fun c92 => ?_) (fun c92 => ?_)
    · refine g_iconst (v := 0) dX7_readHave_31 (by decide) ?_
      refine g_iconst (v := 4) dX7_readHave_32 (by decide) ?_
      refine cl_X7_125 (c := 60) (As := [.int 0, .int 4]) rfl (c_X7_needs_s (G := G) hs hu10  0 4 (by first | trivial | decide | lia | grind) (by first | trivial | decide | lia | grind) (d + 2)) rfl (by omega) rfl rfl (Nat.le_of_ble_eq_true rfl) dX7_readHave_33 (fun r93 u94 q95 => ?_)
      obtain ⟨rfl, mq95⟩ := q95
      obtain ⟨hu94, gu94, ku940, ku941, ku942⟩ := mq95
      have fu94 : fk [60, 66] [3, 7, 13, 22, 28] u u94 := fk_tr fu10 gu94 (by decide) (by decide)
      have rfu94 : rf u94 := rf_mono rfu10 gu94 (fun q => (ku940 q).1) (by decide) (by decide) (by decide) (by decide)
      have T96 : u94.1 60 7 = t1 := (fk_at gu94 (by decide)).trans T13
      have T97 : u94.1 60 10 = t2 := (fk_at gu94 (by decide)).trans T14
      have T98 : u94.1 60 11 = t3 := (fk_at gu94 (by decide)).trans T15
      have T99 : u94.1 60 13 = t4 := (fk_at gu94 (by decide)).trans T16
      have T100 : u94.1 60 14 = t5 := (fk_at gu94 (by decide)).trans T17
      have T101 : u94.1 60 15 = t6 := (fk_at gu94 (by decide)).trans T18
      obtain ⟨t102, Tt102⟩ : ∃ t, u94.1 60 18 = t := ⟨_, rfl⟩
      have Rt102 : 0 ≤ t102 ∧ t102 ≤ 6 := by rw [← Tt102]; exact iv_at hu94 _ _ rfl
      obtain ⟨t103, Tt103⟩ : ∃ t, u94.1 60 19 = t := ⟨_, rfl⟩
      have C104 : u94.1 66 = u.1 66 := (fk_c gu94 (by decide)).trans C21
      have C105 : u94.1 67 = u.1 67 := (fk_c gu94 (by decide)).trans C22
      have C106 : u94.1 68 = u.1 68 := (fk_c gu94 (by decide)).trans C23
      refine g_aload_n dX7_readHave_36 rfl ?_
      refine g_dup dX7_readHave_37 rfl ?_
      refine f_X7_73 rfl rfl dX7_readHave_38 ?_
      refine g_topi (fun x107 ex107 => ?_)
      have qx107 : x107 = t2 := ex107.trans T97
      refine g_iconst (v := 1) dX7_readHave_41 (by decide) ?_
      refine g_iload_n dX7_readHave_42 rfl ?_
      refine g_ishl dX7_readHave_43 (fun x108 ex108 => ?_)
      refine g_ior dX7_readHave_44 ?_
      refine g_topi (fun x109 ex109 => ?_)
      refine p_X7_73 rfl rfl dX7_readHave_45 ?_
      refine g_mem (fun u110 eu110 => ?_)
      have hu110 : iv u110 := by rw [eu110]; exact iv_upF hu94 rfl
      have fu110 : fk [60, 66] [3, 7, 13, 22, 28] u u110 := by rw [eu110]; exact fk_up fu94 (by decide) (fun _ => by decide)
      have rfu110 : rf u110 := by rw [eu110]; exact rf_1 rfu94 (by decide)
      have C111 : u110.1 66 = u.1 66 := by rw [eu110]; exact (uk_up_oc (by decide)).trans C104
      have C112 : u110.1 67 = u.1 67 := by rw [eu110]; exact (uk_up_oc (by decide)).trans C105
      have C113 : u110.1 68 = u.1 68 := by rw [eu110]; exact (uk_up_oc (by decide)).trans C106
      have s114 : u110.1 60 10 = x109 := by rw [eu110, uk_up_at]; exact if_pos ⟨rfl, rfl⟩
      have T115 : u110.1 60 7 = t1 := by rw [eu110, uk_up_at, if_neg (by decide)]; exact T96
      have T116 : u110.1 60 11 = t3 := by rw [eu110, uk_up_at, if_neg (by decide)]; exact T98
      have T117 : u110.1 60 13 = t4 := by rw [eu110, uk_up_at, if_neg (by decide)]; exact T99
      have T118 : u110.1 60 14 = t5 := by rw [eu110, uk_up_at, if_neg (by decide)]; exact T100
      have T119 : u110.1 60 15 = t6 := by rw [eu110, uk_up_at, if_neg (by decide)]; exact T101
      have T120 : u110.1 60 18 = t102 := by rw [eu110, uk_up_at, if_neg (by decide)]; exact Tt102
      have T121 : u110.1 60 19 = t103 := by rw [eu110, uk_up_at, if_neg (by decide)]; exact Tt103
      refine g_aload_n dX7_readHave_48 rfl ?_
      refine g_iload_n dX7_readHave_49 rfl ?_
      refine g_aload_n dX7_readHave_50 rfl ?_
      refine f_X7_76 rfl rfl dX7_readHave_51 ?_
      refine g_topi (fun x122 ex122 => ?_)
      have qx122 : x122 = t3 := ex122.trans T116
      refine g_icmp_le (tgt := 61) dX7_readHave_54 (by decide) (fun c123 => ?_) (fun c123 => ?_)
      · refine g_aload_n dX7_readHave_61 rfl ?_
        refine f_X7_76 rfl rfl dX7_readHave_62 ?_
        refine g_topi (fun x124 ex124 => ?_)
        have qx124 : x124 = t3 := ex124.trans T116
        refine p_X7_76 rfl rfl dX7_readHave_65 ?_
        refine g_mem (fun u125 eu125 => ?_)
        have hu125 : iv u125 := by rw [eu125]; exact iv_upF hu110 rfl
        have fu125 : fk [60, 66] [3, 7, 13, 22, 28] u u125 := by rw [eu125]; exact fk_up fu110 (by decide) (fun _ => by decide)
        have rfu125 : rf u125 := by rw [eu125]; exact rf_1 rfu110 (by decide)
        have C126 : u125.1 66 = u.1 66 := by rw [eu125]; exact (uk_up_oc (by decide)).trans C111
        have C127 : u125.1 67 = u.1 67 := by rw [eu125]; exact (uk_up_oc (by decide)).trans C112
        have C128 : u125.1 68 = u.1 68 := by rw [eu125]; exact (uk_up_oc (by decide)).trans C113
        have s129 : u125.1 60 11 = x124 := by rw [eu125, uk_up_at]; exact if_pos ⟨rfl, rfl⟩
        have T130 : u125.1 60 7 = t1 := by rw [eu125, uk_up_at, if_neg (by decide)]; exact T115
        have T131 : u125.1 60 10 = x109 := by rw [eu125, uk_up_at, if_neg (by decide)]; exact s114
        have T132 : u125.1 60 13 = t4 := by rw [eu125, uk_up_at, if_neg (by decide)]; exact T117
        have T133 : u125.1 60 14 = t5 := by rw [eu125, uk_up_at, if_neg (by decide)]; exact T118
        have T134 : u125.1 60 15 = t6 := by rw [eu125, uk_up_at, if_neg (by decide)]; exact T119
        have T135 : u125.1 60 18 = t102 := by rw [eu125, uk_up_at, if_neg (by decide)]; exact T120
        have T136 : u125.1 60 19 = t103 := by rw [eu125, uk_up_at, if_neg (by decide)]; exact T121
        have TW : twd a.2.2.1 x12 u10 u125 := Or.inr (Or.inl ⟨by grind, by rw [yx91]; grind, by rw [T135]; grind, by rw [T136]; grind⟩)
        have TD : u125.1 60 10 = a.2.2.1 ||| ((1 : Int32) <<< x12) := by rw [T131, ex109, ex108, m31 XR.1 (by grind), show x107 = a.2.2.1 by grind]
        have TH : hi9 (a.2.2.1 ||| ((1 : Int32) <<< x12)) (u125.1 60 11) := hi9_up HB XR.1 XR.2 (fun q => by first | (rw [s129]; done) | (rw [s129]; grind)) (fun q => by first | (rw [s129]; done) | (rw [s129]; grind))
        have M69 : u125.1 69 = u10.1 69 := by rw [eu125, uk_up_oc (by decide), eu110, uk_up_oc (by decide)]; exact fk_c gu94 (by decide)
        have M14 : u125.1 60 14 = u10.1 60 14 := by rw [T133]; grind
        have M13 : u125.1 60 13 = u10.1 60 13 := by rw [T132]; grind
        refine g_aload_n dX7_readHave_68 rfl ?_
        refine cl_X7_133 (c := 60) (As := []) rfl (c_X7_next_s (G := G) hs hu125    (d + 1)) rfl (by omega) rfl rfl (Nat.le_of_ble_eq_true rfl) dX7_readHave_69 (fun r137 u138 q139 => ?_)
        obtain ⟨rfl, mq139⟩ := q139
        obtain ⟨hu138, gu138, ku1380, ku1381, ku1382, ku1383, ku1384, ku1385⟩ := mq139
        have fu138 : fk [60, 66] [3, 7, 13, 22, 28] u u138 := fk_tr fu125 gu138 (by decide) (by decide)
        have rfu138 : rf u138 := rf_mono rfu125 gu138 ku1380 (by decide) (by decide) (by decide) (by decide)
        have T140 : u138.1 60 7 = t1 := (fk_at gu138 (by decide)).trans T130
        have T141 : u138.1 60 10 = x109 := (fk_at gu138 (by decide)).trans T131
        have T142 : u138.1 60 11 = x124 := (fk_at gu138 (by decide)).trans s129
        have T143 : u138.1 60 13 = t4 := (fk_at gu138 (by decide)).trans T132
        obtain ⟨t144, Tt144⟩ : ∃ t, u138.1 60 14 = t := ⟨_, rfl⟩
        have Rt144 : 0 ≤ t144 ∧ t144 ≤ 160 := by rw [← Tt144]; exact iv_at hu138 _ _ rfl
        obtain ⟨t145, Tt145⟩ : ∃ t, u138.1 60 15 = t := ⟨_, rfl⟩
        have Rt145 : 0 ≤ t145 ∧ t145 ≤ 160 := by rw [← Tt145]; exact iv_at hu138 _ _ rfl
        obtain ⟨t146, Tt146⟩ : ∃ t, u138.1 60 18 = t := ⟨_, rfl⟩
        have Rt146 : 0 ≤ t146 ∧ t146 ≤ 6 := by rw [← Tt146]; exact iv_at hu138 _ _ rfl
        obtain ⟨t147, Tt147⟩ : ∃ t, u138.1 60 19 = t := ⟨_, rfl⟩
        have C148 : u138.1 66 = u.1 66 := (fk_c gu138 (by decide)).trans C126
        have C149 : u138.1 67 = u.1 67 := (fk_c gu138 (by decide)).trans C127
        have C150 : u138.1 68 = u.1 68 := (fk_c gu138 (by decide)).trans C128
        have s151 : u138.1 60 10 = x109 := (fk_at gu138 (by decide)).trans (by simp [eu125, uk_up_at, s114] : u125.1 60 10 = x109)
        have s152 : u138.1 60 11 = x124 := (fk_at gu138 (by decide)).trans s129
        have SX := Sr_twice hN p0 tx12.2 TW ⟨ku1384, fun q => ⟨(ku1385 q).2.2.2.2.1, (ku1385 q).2.2.2.2.2⟩⟩ (fk_at gu10 (by decide)) (fk_at gu10 (by decide)) (fk_at gu10 (by decide)) (fk_c gu10 (by decide)) M14 M13 M69 (fk_at gu138 (by decide)) (fk_c gu138 (by decide))
        refine g_aload_n dX7_readHave_72 rfl ?_
        refine g_iconst (v := 0) dX7_readHave_73 (by decide) ?_
        refine g_bipush (v := 40) dX7_readHave_74 (by decide) ?_
        refine cl_X7_136 (c := 60) (As := [.int 0, .int 40]) rfl (c_X7_readNumber_s (G := G) hs hu138  0 40 f N (pTwice (pTake f N a 2 7).1 (pTake f N a 2 7).2 (tk f N a.2.2.2.2).1) SX.1 rfl (d)) rfl (by omega) rfl rfl (Nat.le_of_ble_eq_true rfl) dX7_readHave_76 (fun r153 u154 q155 => ?_)
        obtain ⟨⟨x156, rfl, tx156⟩, mq155⟩ := q155
        obtain ⟨hu154, gu154, ku1540, ku1541, ku1542⟩ := mq155
        have fu154 : fk [60, 66] [3, 7, 13, 22, 28] u u154 := fk_tr fu138 gu154 (by decide) (by decide)
        have rfu154 : rf u154 := rf_mono rfu138 gu154 ku1540 (by decide) (by decide) (by decide) (by decide)
        have T157 : u154.1 60 7 = t1 := (fk_at gu154 (by decide)).trans T140
        have T158 : u154.1 60 10 = x109 := (fk_at gu154 (by decide)).trans T141
        have T159 : u154.1 60 11 = x124 := (fk_at gu154 (by decide)).trans T142
        have T160 : u154.1 60 13 = t4 := (fk_at gu154 (by decide)).trans T143
        obtain ⟨t161, Tt161⟩ : ∃ t, u154.1 60 14 = t := ⟨_, rfl⟩
        have Rt161 : 0 ≤ t161 ∧ t161 ≤ 160 := by rw [← Tt161]; exact iv_at hu154 _ _ rfl
        obtain ⟨t162, Tt162⟩ : ∃ t, u154.1 60 15 = t := ⟨_, rfl⟩
        have Rt162 : 0 ≤ t162 ∧ t162 ≤ 160 := by rw [← Tt162]; exact iv_at hu154 _ _ rfl
        obtain ⟨t163, Tt163⟩ : ∃ t, u154.1 60 18 = t := ⟨_, rfl⟩
        have Rt163 : 0 ≤ t163 ∧ t163 ≤ 6 := by rw [← Tt163]; exact iv_at hu154 _ _ rfl
        obtain ⟨t164, Tt164⟩ : ∃ t, u154.1 60 19 = t := ⟨_, rfl⟩
        have C165 : u154.1 66 = u.1 66 := (fk_c gu154 (by decide)).trans C148
        have C166 : u154.1 67 = u.1 67 := (fk_c gu154 (by decide)).trans C149
        have C167 : u154.1 68 = u.1 68 := (fk_c gu154 (by decide)).trans C150
        have s168 : u154.1 60 10 = x109 := (fk_at gu154 (by decide)).trans s151
        have s169 : u154.1 60 11 = x124 := (fk_at gu154 (by decide)).trans s152
        refine g_istore_n dX7_readHave_79 (by decide) ?_
        refine g_pick (lv' := [(0, .ref (uk_ad G 60)), (1, .int x12), (2, .int x156)]) [0, 1, 2] rfl ?_
        refine g_aload_n dX7_readHave_80 rfl ?_
        refine f_X7_26 rfl rfl dX7_readHave_81 ?_
        refine g_iconst (v := 0) dX7_readHave_84 (by decide) ?_
        refine g_iload_n dX7_readHave_85 rfl ?_
        refine g_iadd dX7_readHave_86 ?_
        refine g_topi (fun x170 ex170 => ?_)
        have ox170 : x170 = x12 := by rw [ex170, Int32.zero_add]
        refine g_aload_n dX7_readHave_87 rfl ?_
        refine f_X7_91 rfl rfl dX7_readHave_88 ?_
        refine g_topi (fun x171 ex171 => ?_)
        have rx171 : 0 ≤ x171 ∧ x171 ≤ 6 := by rw [ex171]; exact iv_at hu154 _ _ rfl
        have qx171 : x171 = t163 := ex171.trans Tt163
        refine g_if_ne (tgt := 98) dX7_readHave_91 (by decide) (fun c172 => ?_) (fun c172 => ?_)
        · refine g_aload_n dX7_readHave_98 rfl ?_
          refine f_X7_26 rfl rfl dX7_readHave_99 ?_
          refine g_iconst (v := 0) dX7_readHave_102 (by decide) ?_
          refine g_iload_n dX7_readHave_103 rfl ?_
          refine g_iadd dX7_readHave_104 ?_
          refine g_topi (fun x173 ex173 => ?_)
          have ox173 : x173 = x12 := by rw [ex173, Int32.zero_add]
          have v174 : vp_in x173 51 := uk_vin 51 rfl (by first | decide | lia | grind) (by first | decide | lia | grind)
          refine g_iald rfl rfl v174 dX7_readHave_105 ?_
          refine g_topi (fun x175 ex175 => ?_)
          have bx175 := uk_cl v174
          have rx175 : 0 ≤ x175 ∧ x175 ≤ 40 := by rw [ex175]; exact sg_0 hu154 (by unfold uk_is51; decide) (by first | lia | grind) (by first | lia | grind)
          have px175 : x175 = (u.1 66) (x173 : Int32).toNatClampNeg := ex175.trans (congrFun C165 _)
          have v176 : vp_in x170 51 := uk_vin 51 rfl (by first | decide | lia | grind) (by first | decide | lia | grind)
          have b177 := uk_cl v176
          refine g_iast rfl rfl v176 dX7_readHave_106 ?_
          refine g_mem (fun u178 eu178 => ?_)
          have hu178 : iv u178 := by rw [eu178]; exact iv_st hu154 (by unfold uk_is51; decide) (by first | decide | lia | grind) (by first | decide | lia | grind) (fun q => by first | decide | lia | grind) (fun q => by first | decide | lia | grind) (fun q => by first | decide | lia | grind)
          have fu178 : fk [60, 66] [3, 7, 13, 22, 28] u u178 := by rw [eu178]; exact fk_up fu154 (by decide) (fun q => absurd q (by decide))
          have T179 : u178.1 60 7 = t1 := by rw [eu178]; exact (congrFun (uk_up_oc (by decide)) _).trans T157
          have T180 : u178.1 60 10 = x109 := by rw [eu178]; exact (congrFun (uk_up_oc (by decide)) _).trans T158
          have T181 : u178.1 60 11 = x124 := by rw [eu178]; exact (congrFun (uk_up_oc (by decide)) _).trans T159
          have T182 : u178.1 60 13 = t4 := by rw [eu178]; exact (congrFun (uk_up_oc (by decide)) _).trans T160
          have T183 : u178.1 60 14 = t161 := by rw [eu178]; exact (congrFun (uk_up_oc (by decide)) _).trans Tt161
          have T184 : u178.1 60 15 = t162 := by rw [eu178]; exact (congrFun (uk_up_oc (by decide)) _).trans Tt162
          have T185 : u178.1 60 18 = t163 := by rw [eu178]; exact (congrFun (uk_up_oc (by decide)) _).trans Tt163
          have T186 : u178.1 60 19 = t164 := by rw [eu178]; exact (congrFun (uk_up_oc (by decide)) _).trans Tt164
          have C187 : u178.1 66 = (upd (u.1 66) (x170 : Int32).toNatClampNeg x175) := by rw [eu178, uk_up_self, C165]
          have C188 : u178.1 67 = u.1 67 := by rw [eu178]; exact (uk_up_oc (by decide)).trans C166
          have C189 : u178.1 68 = u.1 68 := by rw [eu178]; exact (uk_up_oc (by decide)).trans C167
          exact g_vret dX7_readHave_107 rfl ⟨rfl, hu178, fu178, (fun hf => by
    rw [T185] at hf
    have hrd := hrf (by grind)
    unfold rd at hrd ⊢
    rw [show u.1 60 7 = t1 by grind] at hrd
    rw [T179, C187, C188, C189]
    exact rk_up hrd (by grind) (by decide) (by grind)), (by first | rfl | (rw [T185]; grind) | rw [T185]), (by first | rfl | (rw [T185, T184, T183]; grind) | rw [T185, T184, T183]), (show Sr f N u178 _ by rw [eu178]; exact Sr_u ku1542 (by decide) (fun q => absurd q (by decide))), (fun q => ⟨by rw [T180, ← SX.2]; grind, by rw [T181, ← SX.2]; have := TH; grind⟩), (fun q => by exfalso; grind)⟩
        · refine g_iload_n dX7_readHave_94 rfl ?_
          refine g_goto (tgt := 106) dX7_readHave_95 (by decide) ?_
          have v190 : vp_in x170 51 := uk_vin 51 rfl (by first | decide | lia | grind) (by first | decide | lia | grind)
          have b191 := uk_cl v190
          refine g_iast rfl rfl v190 dX7_readHave_106 ?_
          refine g_mem (fun u192 eu192 => ?_)
          have hu192 : iv u192 := by rw [eu192]; exact iv_st hu154 (by unfold uk_is51; decide) (by first | decide | lia | grind) (by first | decide | lia | grind) (fun q => by first | decide | lia | grind) (fun q => by first | decide | lia | grind) (fun q => by first | decide | lia | grind)
          have fu192 : fk [60, 66] [3, 7, 13, 22, 28] u u192 := by rw [eu192]; exact fk_up fu154 (by decide) (fun q => absurd q (by decide))
          have T193 : u192.1 60 7 = t1 := by rw [eu192]; exact (congrFun (uk_up_oc (by decide)) _).trans T157
          have T194 : u192.1 60 10 = x109 := by rw [eu192]; exact (congrFun (uk_up_oc (by decide)) _).trans T158
          have T195 : u192.1 60 11 = x124 := by rw [eu192]; exact (congrFun (uk_up_oc (by decide)) _).trans T159
          have T196 : u192.1 60 13 = t4 := by rw [eu192]; exact (congrFun (uk_up_oc (by decide)) _).trans T160
          have T197 : u192.1 60 14 = t161 := by rw [eu192]; exact (congrFun (uk_up_oc (by decide)) _).trans Tt161
          have T198 : u192.1 60 15 = t162 := by rw [eu192]; exact (congrFun (uk_up_oc (by decide)) _).trans Tt162
          have T199 : u192.1 60 18 = t163 := by rw [eu192]; exact (congrFun (uk_up_oc (by decide)) _).trans Tt163
          have T200 : u192.1 60 19 = t164 := by rw [eu192]; exact (congrFun (uk_up_oc (by decide)) _).trans Tt164
          have C201 : u192.1 66 = (upd (u.1 66) (x170 : Int32).toNatClampNeg x156) := by rw [eu192, uk_up_self, C165]
          have C202 : u192.1 67 = u.1 67 := by rw [eu192]; exact (uk_up_oc (by decide)).trans C166
          have C203 : u192.1 68 = u.1 68 := by rw [eu192]; exact (uk_up_oc (by decide)).trans C167
          exact g_vret dX7_readHave_107 rfl ⟨rfl, hu192, fu192, (fun hf => by
    rw [T199] at hf
    have hrd := hrf (by grind)
    unfold rd at hrd ⊢
    rw [show u.1 60 7 = t1 by grind] at hrd
    rw [T193, C201, C202, C203]
    exact rk_up hrd (by grind) (by decide) (by grind)), (by first | rfl | (rw [T199]; grind) | rw [T199]), (by first | rfl | (rw [T199, T198, T197]; grind) | rw [T199, T198, T197]), (show Sr f N u192 _ by rw [eu192]; exact Sr_u ku1542 (by decide) (fun q => absurd q (by decide))), (fun q => ⟨by rw [T194, ← SX.2]; grind, by rw [T195, ← SX.2]; have := TH; grind⟩), (fun _ => Rw_have p4 (by rw [T193]; grind) C201 C202 C203 (by grind) (by grind) (by grind) SX.2 tx156.2)⟩
      · refine g_iload_n dX7_readHave_57 rfl ?_
        refine g_goto (tgt := 65) dX7_readHave_58 (by decide) ?_
        refine p_X7_76 rfl rfl dX7_readHave_65 ?_
        refine g_mem (fun u204 eu204 => ?_)
        have hu204 : iv u204 := by rw [eu204]; exact iv_upF hu110 rfl
        have fu204 : fk [60, 66] [3, 7, 13, 22, 28] u u204 := by rw [eu204]; exact fk_up fu110 (by decide) (fun _ => by decide)
        have rfu204 : rf u204 := by rw [eu204]; exact rf_1 rfu110 (by decide)
        have C205 : u204.1 66 = u.1 66 := by rw [eu204]; exact (uk_up_oc (by decide)).trans C111
        have C206 : u204.1 67 = u.1 67 := by rw [eu204]; exact (uk_up_oc (by decide)).trans C112
        have C207 : u204.1 68 = u.1 68 := by rw [eu204]; exact (uk_up_oc (by decide)).trans C113
        have s208 : u204.1 60 11 = x12 := by rw [eu204, uk_up_at]; exact if_pos ⟨rfl, rfl⟩
        have T209 : u204.1 60 7 = t1 := by rw [eu204, uk_up_at, if_neg (by decide)]; exact T115
        have T210 : u204.1 60 10 = x109 := by rw [eu204, uk_up_at, if_neg (by decide)]; exact s114
        have T211 : u204.1 60 13 = t4 := by rw [eu204, uk_up_at, if_neg (by decide)]; exact T117
        have T212 : u204.1 60 14 = t5 := by rw [eu204, uk_up_at, if_neg (by decide)]; exact T118
        have T213 : u204.1 60 15 = t6 := by rw [eu204, uk_up_at, if_neg (by decide)]; exact T119
        have T214 : u204.1 60 18 = t102 := by rw [eu204, uk_up_at, if_neg (by decide)]; exact T120
        have T215 : u204.1 60 19 = t103 := by rw [eu204, uk_up_at, if_neg (by decide)]; exact T121
        have TW : twd a.2.2.1 x12 u10 u204 := Or.inr (Or.inl ⟨by grind, by rw [yx91]; grind, by rw [T214]; grind, by rw [T215]; grind⟩)
        have TD : u204.1 60 10 = a.2.2.1 ||| ((1 : Int32) <<< x12) := by rw [T210, ex109, ex108, m31 XR.1 (by grind), show x107 = a.2.2.1 by grind]
        have TH : hi9 (a.2.2.1 ||| ((1 : Int32) <<< x12)) (u204.1 60 11) := hi9_up HB XR.1 XR.2 (fun q => by first | (rw [s208]; done) | (rw [s208]; grind)) (fun q => by first | (rw [s208]; done) | (rw [s208]; grind))
        have M69 : u204.1 69 = u10.1 69 := by rw [eu204, uk_up_oc (by decide), eu110, uk_up_oc (by decide)]; exact fk_c gu94 (by decide)
        have M14 : u204.1 60 14 = u10.1 60 14 := by rw [T212]; grind
        have M13 : u204.1 60 13 = u10.1 60 13 := by rw [T211]; grind
        refine g_aload_n dX7_readHave_68 rfl ?_
        refine cl_X7_133 (c := 60) (As := []) rfl (c_X7_next_s (G := G) hs hu204    (d + 1)) rfl (by omega) rfl rfl (Nat.le_of_ble_eq_true rfl) dX7_readHave_69 (fun r216 u217 q218 => ?_)
        obtain ⟨rfl, mq218⟩ := q218
        obtain ⟨hu217, gu217, ku2170, ku2171, ku2172, ku2173, ku2174, ku2175⟩ := mq218
        have fu217 : fk [60, 66] [3, 7, 13, 22, 28] u u217 := fk_tr fu204 gu217 (by decide) (by decide)
        have rfu217 : rf u217 := rf_mono rfu204 gu217 ku2170 (by decide) (by decide) (by decide) (by decide)
        have T219 : u217.1 60 7 = t1 := (fk_at gu217 (by decide)).trans T209
        have T220 : u217.1 60 10 = x109 := (fk_at gu217 (by decide)).trans T210
        have T221 : u217.1 60 11 = x12 := (fk_at gu217 (by decide)).trans s208
        have T222 : u217.1 60 13 = t4 := (fk_at gu217 (by decide)).trans T211
        obtain ⟨t223, Tt223⟩ : ∃ t, u217.1 60 14 = t := ⟨_, rfl⟩
        have Rt223 : 0 ≤ t223 ∧ t223 ≤ 160 := by rw [← Tt223]; exact iv_at hu217 _ _ rfl
        obtain ⟨t224, Tt224⟩ : ∃ t, u217.1 60 15 = t := ⟨_, rfl⟩
        have Rt224 : 0 ≤ t224 ∧ t224 ≤ 160 := by rw [← Tt224]; exact iv_at hu217 _ _ rfl
        obtain ⟨t225, Tt225⟩ : ∃ t, u217.1 60 18 = t := ⟨_, rfl⟩
        have Rt225 : 0 ≤ t225 ∧ t225 ≤ 6 := by rw [← Tt225]; exact iv_at hu217 _ _ rfl
        obtain ⟨t226, Tt226⟩ : ∃ t, u217.1 60 19 = t := ⟨_, rfl⟩
        have C227 : u217.1 66 = u.1 66 := (fk_c gu217 (by decide)).trans C205
        have C228 : u217.1 67 = u.1 67 := (fk_c gu217 (by decide)).trans C206
        have C229 : u217.1 68 = u.1 68 := (fk_c gu217 (by decide)).trans C207
        have s230 : u217.1 60 10 = x109 := (fk_at gu217 (by decide)).trans (by simp [eu204, uk_up_at, s114] : u204.1 60 10 = x109)
        have s231 : u217.1 60 11 = x12 := (fk_at gu217 (by decide)).trans s208
        have SX := Sr_twice hN p0 tx12.2 TW ⟨ku2174, fun q => ⟨(ku2175 q).2.2.2.2.1, (ku2175 q).2.2.2.2.2⟩⟩ (fk_at gu10 (by decide)) (fk_at gu10 (by decide)) (fk_at gu10 (by decide)) (fk_c gu10 (by decide)) M14 M13 M69 (fk_at gu217 (by decide)) (fk_c gu217 (by decide))
        refine g_aload_n dX7_readHave_72 rfl ?_
        refine g_iconst (v := 0) dX7_readHave_73 (by decide) ?_
        refine g_bipush (v := 40) dX7_readHave_74 (by decide) ?_
        refine cl_X7_136 (c := 60) (As := [.int 0, .int 40]) rfl (c_X7_readNumber_s (G := G) hs hu217  0 40 f N (pTwice (pTake f N a 2 7).1 (pTake f N a 2 7).2 (tk f N a.2.2.2.2).1) SX.1 rfl (d)) rfl (by omega) rfl rfl (Nat.le_of_ble_eq_true rfl) dX7_readHave_76 (fun r232 u233 q234 => ?_)
        obtain ⟨⟨x235, rfl, tx235⟩, mq234⟩ := q234
        obtain ⟨hu233, gu233, ku2330, ku2331, ku2332⟩ := mq234
        have fu233 : fk [60, 66] [3, 7, 13, 22, 28] u u233 := fk_tr fu217 gu233 (by decide) (by decide)
        have rfu233 : rf u233 := rf_mono rfu217 gu233 ku2330 (by decide) (by decide) (by decide) (by decide)
        have T236 : u233.1 60 7 = t1 := (fk_at gu233 (by decide)).trans T219
        have T237 : u233.1 60 10 = x109 := (fk_at gu233 (by decide)).trans T220
        have T238 : u233.1 60 11 = x12 := (fk_at gu233 (by decide)).trans T221
        have T239 : u233.1 60 13 = t4 := (fk_at gu233 (by decide)).trans T222
        obtain ⟨t240, Tt240⟩ : ∃ t, u233.1 60 14 = t := ⟨_, rfl⟩
        have Rt240 : 0 ≤ t240 ∧ t240 ≤ 160 := by rw [← Tt240]; exact iv_at hu233 _ _ rfl
        obtain ⟨t241, Tt241⟩ : ∃ t, u233.1 60 15 = t := ⟨_, rfl⟩
        have Rt241 : 0 ≤ t241 ∧ t241 ≤ 160 := by rw [← Tt241]; exact iv_at hu233 _ _ rfl
        obtain ⟨t242, Tt242⟩ : ∃ t, u233.1 60 18 = t := ⟨_, rfl⟩
        have Rt242 : 0 ≤ t242 ∧ t242 ≤ 6 := by rw [← Tt242]; exact iv_at hu233 _ _ rfl
        obtain ⟨t243, Tt243⟩ : ∃ t, u233.1 60 19 = t := ⟨_, rfl⟩
        have C244 : u233.1 66 = u.1 66 := (fk_c gu233 (by decide)).trans C227
        have C245 : u233.1 67 = u.1 67 := (fk_c gu233 (by decide)).trans C228
        have C246 : u233.1 68 = u.1 68 := (fk_c gu233 (by decide)).trans C229
        have s247 : u233.1 60 10 = x109 := (fk_at gu233 (by decide)).trans s230
        have s248 : u233.1 60 11 = x12 := (fk_at gu233 (by decide)).trans s231
        refine g_istore_n dX7_readHave_79 (by decide) ?_
        refine g_pick (lv' := [(0, .ref (uk_ad G 60)), (1, .int x12), (2, .int x235)]) [0, 1, 2] rfl ?_
        refine g_aload_n dX7_readHave_80 rfl ?_
        refine f_X7_26 rfl rfl dX7_readHave_81 ?_
        refine g_iconst (v := 0) dX7_readHave_84 (by decide) ?_
        refine g_iload_n dX7_readHave_85 rfl ?_
        refine g_iadd dX7_readHave_86 ?_
        refine g_topi (fun x249 ex249 => ?_)
        have ox249 : x249 = x12 := by rw [ex249, Int32.zero_add]
        refine g_aload_n dX7_readHave_87 rfl ?_
        refine f_X7_91 rfl rfl dX7_readHave_88 ?_
        refine g_topi (fun x250 ex250 => ?_)
        have rx250 : 0 ≤ x250 ∧ x250 ≤ 6 := by rw [ex250]; exact iv_at hu233 _ _ rfl
        have qx250 : x250 = t242 := ex250.trans Tt242
        refine g_if_ne (tgt := 98) dX7_readHave_91 (by decide) (fun c251 => ?_) (fun c251 => ?_)
        · refine g_aload_n dX7_readHave_98 rfl ?_
          refine f_X7_26 rfl rfl dX7_readHave_99 ?_
          refine g_iconst (v := 0) dX7_readHave_102 (by decide) ?_
          refine g_iload_n dX7_readHave_103 rfl ?_
          refine g_iadd dX7_readHave_104 ?_
          refine g_topi (fun x252 ex252 => ?_)
          have ox252 : x252 = x12 := by rw [ex252, Int32.zero_add]
          have v253 : vp_in x252 51 := uk_vin 51 rfl (by first | decide | lia | grind) (by first | decide | lia | grind)
          refine g_iald rfl rfl v253 dX7_readHave_105 ?_
          refine g_topi (fun x254 ex254 => ?_)
          have bx254 := uk_cl v253
          have rx254 : 0 ≤ x254 ∧ x254 ≤ 40 := by rw [ex254]; exact sg_0 hu233 (by unfold uk_is51; decide) (by first | lia | grind) (by first | lia | grind)
          have px254 : x254 = (u.1 66) (x252 : Int32).toNatClampNeg := ex254.trans (congrFun C244 _)
          have v255 : vp_in x249 51 := uk_vin 51 rfl (by first | decide | lia | grind) (by first | decide | lia | grind)
          have b256 := uk_cl v255
          refine g_iast rfl rfl v255 dX7_readHave_106 ?_
          refine g_mem (fun u257 eu257 => ?_)
          have hu257 : iv u257 := by rw [eu257]; exact iv_st hu233 (by unfold uk_is51; decide) (by first | decide | lia | grind) (by first | decide | lia | grind) (fun q => by first | decide | lia | grind) (fun q => by first | decide | lia | grind) (fun q => by first | decide | lia | grind)
          have fu257 : fk [60, 66] [3, 7, 13, 22, 28] u u257 := by rw [eu257]; exact fk_up fu233 (by decide) (fun q => absurd q (by decide))
          have T258 : u257.1 60 7 = t1 := by rw [eu257]; exact (congrFun (uk_up_oc (by decide)) _).trans T236
          have T259 : u257.1 60 10 = x109 := by rw [eu257]; exact (congrFun (uk_up_oc (by decide)) _).trans T237
          have T260 : u257.1 60 11 = x12 := by rw [eu257]; exact (congrFun (uk_up_oc (by decide)) _).trans T238
          have T261 : u257.1 60 13 = t4 := by rw [eu257]; exact (congrFun (uk_up_oc (by decide)) _).trans T239
          have T262 : u257.1 60 14 = t240 := by rw [eu257]; exact (congrFun (uk_up_oc (by decide)) _).trans Tt240
          have T263 : u257.1 60 15 = t241 := by rw [eu257]; exact (congrFun (uk_up_oc (by decide)) _).trans Tt241
          have T264 : u257.1 60 18 = t242 := by rw [eu257]; exact (congrFun (uk_up_oc (by decide)) _).trans Tt242
          have T265 : u257.1 60 19 = t243 := by rw [eu257]; exact (congrFun (uk_up_oc (by decide)) _).trans Tt243
          have C266 : u257.1 66 = (upd (u.1 66) (x249 : Int32).toNatClampNeg x254) := by rw [eu257, uk_up_self, C244]
          have C267 : u257.1 67 = u.1 67 := by rw [eu257]; exact (uk_up_oc (by decide)).trans C245
          have C268 : u257.1 68 = u.1 68 := by rw [eu257]; exact (uk_up_oc (by decide)).trans C246
          exact g_vret dX7_readHave_107 rfl ⟨rfl, hu257, fu257, (fun hf => by
    rw [T264] at hf
    have hrd := hrf (by grind)
    unfold rd at hrd ⊢
    rw [show u.1 60 7 = t1 by grind] at hrd
    rw [T258, C266, C267, C268]
    exact rk_up hrd (by grind) (by decide) (by grind)), (by first | rfl | (rw [T264]; grind) | rw [T264]), (by first | rfl | (rw [T264, T263, T262]; grind) | rw [T264, T263, T262]), (show Sr f N u257 _ by rw [eu257]; exact Sr_u ku2332 (by decide) (fun q => absurd q (by decide))), (fun q => ⟨by rw [T259, ← SX.2]; grind, by rw [T260, ← SX.2]; have := TH; grind⟩), (fun q => by exfalso; grind)⟩
        · refine g_iload_n dX7_readHave_94 rfl ?_
          refine g_goto (tgt := 106) dX7_readHave_95 (by decide) ?_
          have v269 : vp_in x249 51 := uk_vin 51 rfl (by first | decide | lia | grind) (by first | decide | lia | grind)
          have b270 := uk_cl v269
          refine g_iast rfl rfl v269 dX7_readHave_106 ?_
          refine g_mem (fun u271 eu271 => ?_)
          have hu271 : iv u271 := by rw [eu271]; exact iv_st hu233 (by unfold uk_is51; decide) (by first | decide | lia | grind) (by first | decide | lia | grind) (fun q => by first | decide | lia | grind) (fun q => by first | decide | lia | grind) (fun q => by first | decide | lia | grind)
          have fu271 : fk [60, 66] [3, 7, 13, 22, 28] u u271 := by rw [eu271]; exact fk_up fu233 (by decide) (fun q => absurd q (by decide))
          have T272 : u271.1 60 7 = t1 := by rw [eu271]; exact (congrFun (uk_up_oc (by decide)) _).trans T236
          have T273 : u271.1 60 10 = x109 := by rw [eu271]; exact (congrFun (uk_up_oc (by decide)) _).trans T237
          have T274 : u271.1 60 11 = x12 := by rw [eu271]; exact (congrFun (uk_up_oc (by decide)) _).trans T238
          have T275 : u271.1 60 13 = t4 := by rw [eu271]; exact (congrFun (uk_up_oc (by decide)) _).trans T239
          have T276 : u271.1 60 14 = t240 := by rw [eu271]; exact (congrFun (uk_up_oc (by decide)) _).trans Tt240
          have T277 : u271.1 60 15 = t241 := by rw [eu271]; exact (congrFun (uk_up_oc (by decide)) _).trans Tt241
          have T278 : u271.1 60 18 = t242 := by rw [eu271]; exact (congrFun (uk_up_oc (by decide)) _).trans Tt242
          have T279 : u271.1 60 19 = t243 := by rw [eu271]; exact (congrFun (uk_up_oc (by decide)) _).trans Tt243
          have C280 : u271.1 66 = (upd (u.1 66) (x249 : Int32).toNatClampNeg x235) := by rw [eu271, uk_up_self, C244]
          have C281 : u271.1 67 = u.1 67 := by rw [eu271]; exact (uk_up_oc (by decide)).trans C245
          have C282 : u271.1 68 = u.1 68 := by rw [eu271]; exact (uk_up_oc (by decide)).trans C246
          exact g_vret dX7_readHave_107 rfl ⟨rfl, hu271, fu271, (fun hf => by
    rw [T278] at hf
    have hrd := hrf (by grind)
    unfold rd at hrd ⊢
    rw [show u.1 60 7 = t1 by grind] at hrd
    rw [T272, C280, C281, C282]
    exact rk_up hrd (by grind) (by decide) (by grind)), (by first | rfl | (rw [T278]; grind) | rw [T278]), (by first | rfl | (rw [T278, T277, T276]; grind) | rw [T278, T277, T276]), (show Sr f N u271 _ by rw [eu271]; exact Sr_u ku2332 (by decide) (fun q => absurd q (by decide))), (fun q => ⟨by rw [T273, ← SX.2]; grind, by rw [T274, ← SX.2]; have := TH; grind⟩), (fun _ => Rw_have p4 (by rw [T272]; grind) C280 C281 C282 (by grind) (by grind) (by grind) SX.2 tx235.2)⟩
    · refine g_iconst (v := 1) dX7_readHave_27 (by decide) ?_
      refine g_goto (tgt := 32) dX7_readHave_28 (by decide) ?_
      refine g_iconst (v := 4) dX7_readHave_32 (by decide) ?_
      refine cl_X7_125 (c := 60) (As := [.int 1, .int 4]) rfl (c_X7_needs_s (G := G) hs hu10  1 4 (by first | trivial | decide | lia | grind) (by first | trivial | decide | lia | grind) (d + 2)) rfl (by omega) rfl rfl (Nat.le_of_ble_eq_true rfl) dX7_readHave_33 (fun r283 u284 q285 => ?_)
      obtain ⟨rfl, mq285⟩ := q285
      obtain ⟨hu284, gu284, ku2840, ku2841, ku2842⟩ := mq285
      have fu284 : fk [60, 66] [3, 7, 13, 22, 28] u u284 := fk_tr fu10 gu284 (by decide) (by decide)
      have rfu284 : rf u284 := rf_mono rfu10 gu284 (fun q => (ku2840 q).1) (by decide) (by decide) (by decide) (by decide)
      have T286 : u284.1 60 7 = t1 := (fk_at gu284 (by decide)).trans T13
      have T287 : u284.1 60 10 = t2 := (fk_at gu284 (by decide)).trans T14
      have T288 : u284.1 60 11 = t3 := (fk_at gu284 (by decide)).trans T15
      have T289 : u284.1 60 13 = t4 := (fk_at gu284 (by decide)).trans T16
      have T290 : u284.1 60 14 = t5 := (fk_at gu284 (by decide)).trans T17
      have T291 : u284.1 60 15 = t6 := (fk_at gu284 (by decide)).trans T18
      obtain ⟨t292, Tt292⟩ : ∃ t, u284.1 60 18 = t := ⟨_, rfl⟩
      have Rt292 : 0 ≤ t292 ∧ t292 ≤ 6 := by rw [← Tt292]; exact iv_at hu284 _ _ rfl
      obtain ⟨t293, Tt293⟩ : ∃ t, u284.1 60 19 = t := ⟨_, rfl⟩
      have C294 : u284.1 66 = u.1 66 := (fk_c gu284 (by decide)).trans C21
      have C295 : u284.1 67 = u.1 67 := (fk_c gu284 (by decide)).trans C22
      have C296 : u284.1 68 = u.1 68 := (fk_c gu284 (by decide)).trans C23
      refine g_aload_n dX7_readHave_36 rfl ?_
      refine g_dup dX7_readHave_37 rfl ?_
      refine f_X7_73 rfl rfl dX7_readHave_38 ?_
      refine g_topi (fun x297 ex297 => ?_)
      have qx297 : x297 = t2 := ex297.trans T287
      refine g_iconst (v := 1) dX7_readHave_41 (by decide) ?_
      refine g_iload_n dX7_readHave_42 rfl ?_
      refine g_ishl dX7_readHave_43 (fun x298 ex298 => ?_)
      refine g_ior dX7_readHave_44 ?_
      refine g_topi (fun x299 ex299 => ?_)
      refine p_X7_73 rfl rfl dX7_readHave_45 ?_
      refine g_mem (fun u300 eu300 => ?_)
      have hu300 : iv u300 := by rw [eu300]; exact iv_upF hu284 rfl
      have fu300 : fk [60, 66] [3, 7, 13, 22, 28] u u300 := by rw [eu300]; exact fk_up fu284 (by decide) (fun _ => by decide)
      have rfu300 : rf u300 := by rw [eu300]; exact rf_1 rfu284 (by decide)
      have C301 : u300.1 66 = u.1 66 := by rw [eu300]; exact (uk_up_oc (by decide)).trans C294
      have C302 : u300.1 67 = u.1 67 := by rw [eu300]; exact (uk_up_oc (by decide)).trans C295
      have C303 : u300.1 68 = u.1 68 := by rw [eu300]; exact (uk_up_oc (by decide)).trans C296
      have s304 : u300.1 60 10 = x299 := by rw [eu300, uk_up_at]; exact if_pos ⟨rfl, rfl⟩
      have T305 : u300.1 60 7 = t1 := by rw [eu300, uk_up_at, if_neg (by decide)]; exact T286
      have T306 : u300.1 60 11 = t3 := by rw [eu300, uk_up_at, if_neg (by decide)]; exact T288
      have T307 : u300.1 60 13 = t4 := by rw [eu300, uk_up_at, if_neg (by decide)]; exact T289
      have T308 : u300.1 60 14 = t5 := by rw [eu300, uk_up_at, if_neg (by decide)]; exact T290
      have T309 : u300.1 60 15 = t6 := by rw [eu300, uk_up_at, if_neg (by decide)]; exact T291
      have T310 : u300.1 60 18 = t292 := by rw [eu300, uk_up_at, if_neg (by decide)]; exact Tt292
      have T311 : u300.1 60 19 = t293 := by rw [eu300, uk_up_at, if_neg (by decide)]; exact Tt293
      refine g_aload_n dX7_readHave_48 rfl ?_
      refine g_iload_n dX7_readHave_49 rfl ?_
      refine g_aload_n dX7_readHave_50 rfl ?_
      refine f_X7_76 rfl rfl dX7_readHave_51 ?_
      refine g_topi (fun x312 ex312 => ?_)
      have qx312 : x312 = t3 := ex312.trans T306
      refine g_icmp_le (tgt := 61) dX7_readHave_54 (by decide) (fun c313 => ?_) (fun c313 => ?_)
      · refine g_aload_n dX7_readHave_61 rfl ?_
        refine f_X7_76 rfl rfl dX7_readHave_62 ?_
        refine g_topi (fun x314 ex314 => ?_)
        have qx314 : x314 = t3 := ex314.trans T306
        refine p_X7_76 rfl rfl dX7_readHave_65 ?_
        refine g_mem (fun u315 eu315 => ?_)
        have hu315 : iv u315 := by rw [eu315]; exact iv_upF hu300 rfl
        have fu315 : fk [60, 66] [3, 7, 13, 22, 28] u u315 := by rw [eu315]; exact fk_up fu300 (by decide) (fun _ => by decide)
        have rfu315 : rf u315 := by rw [eu315]; exact rf_1 rfu300 (by decide)
        have C316 : u315.1 66 = u.1 66 := by rw [eu315]; exact (uk_up_oc (by decide)).trans C301
        have C317 : u315.1 67 = u.1 67 := by rw [eu315]; exact (uk_up_oc (by decide)).trans C302
        have C318 : u315.1 68 = u.1 68 := by rw [eu315]; exact (uk_up_oc (by decide)).trans C303
        have s319 : u315.1 60 11 = x314 := by rw [eu315, uk_up_at]; exact if_pos ⟨rfl, rfl⟩
        have T320 : u315.1 60 7 = t1 := by rw [eu315, uk_up_at, if_neg (by decide)]; exact T305
        have T321 : u315.1 60 10 = x299 := by rw [eu315, uk_up_at, if_neg (by decide)]; exact s304
        have T322 : u315.1 60 13 = t4 := by rw [eu315, uk_up_at, if_neg (by decide)]; exact T307
        have T323 : u315.1 60 14 = t5 := by rw [eu315, uk_up_at, if_neg (by decide)]; exact T308
        have T324 : u315.1 60 15 = t6 := by rw [eu315, uk_up_at, if_neg (by decide)]; exact T309
        have T325 : u315.1 60 18 = t292 := by rw [eu315, uk_up_at, if_neg (by decide)]; exact T310
        have T326 : u315.1 60 19 = t293 := by rw [eu315, uk_up_at, if_neg (by decide)]; exact T311
        have TW : twd a.2.2.1 x12 u10 u315 := Or.inr (Or.inr ⟨by grind, by rw [yx91]; grind, by rw [T325]; grind⟩)
        have TD : u315.1 60 10 = a.2.2.1 ||| ((1 : Int32) <<< x12) := by rw [T321, ex299, ex298, m31 XR.1 (by grind), show x297 = a.2.2.1 by grind]
        have TH : hi9 (a.2.2.1 ||| ((1 : Int32) <<< x12)) (u315.1 60 11) := hi9_up HB XR.1 XR.2 (fun q => by first | (rw [s319]; done) | (rw [s319]; grind)) (fun q => by first | (rw [s319]; done) | (rw [s319]; grind))
        have M69 : u315.1 69 = u10.1 69 := by rw [eu315, uk_up_oc (by decide), eu300, uk_up_oc (by decide)]; exact fk_c gu284 (by decide)
        have M14 : u315.1 60 14 = u10.1 60 14 := by rw [T323]; grind
        have M13 : u315.1 60 13 = u10.1 60 13 := by rw [T322]; grind
        refine g_aload_n dX7_readHave_68 rfl ?_
        refine cl_X7_133 (c := 60) (As := []) rfl (c_X7_next_s (G := G) hs hu315    (d + 1)) rfl (by omega) rfl rfl (Nat.le_of_ble_eq_true rfl) dX7_readHave_69 (fun r327 u328 q329 => ?_)
        obtain ⟨rfl, mq329⟩ := q329
        obtain ⟨hu328, gu328, ku3280, ku3281, ku3282, ku3283, ku3284, ku3285⟩ := mq329
        have fu328 : fk [60, 66] [3, 7, 13, 22, 28] u u328 := fk_tr fu315 gu328 (by decide) (by decide)
        have rfu328 : rf u328 := rf_mono rfu315 gu328 ku3280 (by decide) (by decide) (by decide) (by decide)
        have T330 : u328.1 60 7 = t1 := (fk_at gu328 (by decide)).trans T320
        have T331 : u328.1 60 10 = x299 := (fk_at gu328 (by decide)).trans T321
        have T332 : u328.1 60 11 = x314 := (fk_at gu328 (by decide)).trans s319
        have T333 : u328.1 60 13 = t4 := (fk_at gu328 (by decide)).trans T322
        obtain ⟨t334, Tt334⟩ : ∃ t, u328.1 60 14 = t := ⟨_, rfl⟩
        have Rt334 : 0 ≤ t334 ∧ t334 ≤ 160 := by rw [← Tt334]; exact iv_at hu328 _ _ rfl
        obtain ⟨t335, Tt335⟩ : ∃ t, u328.1 60 15 = t := ⟨_, rfl⟩
        have Rt335 : 0 ≤ t335 ∧ t335 ≤ 160 := by rw [← Tt335]; exact iv_at hu328 _ _ rfl
        obtain ⟨t336, Tt336⟩ : ∃ t, u328.1 60 18 = t := ⟨_, rfl⟩
        have Rt336 : 0 ≤ t336 ∧ t336 ≤ 6 := by rw [← Tt336]; exact iv_at hu328 _ _ rfl
        obtain ⟨t337, Tt337⟩ : ∃ t, u328.1 60 19 = t := ⟨_, rfl⟩
        have C338 : u328.1 66 = u.1 66 := (fk_c gu328 (by decide)).trans C316
        have C339 : u328.1 67 = u.1 67 := (fk_c gu328 (by decide)).trans C317
        have C340 : u328.1 68 = u.1 68 := (fk_c gu328 (by decide)).trans C318
        have s341 : u328.1 60 10 = x299 := (fk_at gu328 (by decide)).trans (by simp [eu315, uk_up_at, s304] : u315.1 60 10 = x299)
        have s342 : u328.1 60 11 = x314 := (fk_at gu328 (by decide)).trans s319
        have SX := Sr_twice hN p0 tx12.2 TW ⟨ku3284, fun q => ⟨(ku3285 q).2.2.2.2.1, (ku3285 q).2.2.2.2.2⟩⟩ (fk_at gu10 (by decide)) (fk_at gu10 (by decide)) (fk_at gu10 (by decide)) (fk_c gu10 (by decide)) M14 M13 M69 (fk_at gu328 (by decide)) (fk_c gu328 (by decide))
        refine g_aload_n dX7_readHave_72 rfl ?_
        refine g_iconst (v := 0) dX7_readHave_73 (by decide) ?_
        refine g_bipush (v := 40) dX7_readHave_74 (by decide) ?_
        refine cl_X7_136 (c := 60) (As := [.int 0, .int 40]) rfl (c_X7_readNumber_s (G := G) hs hu328  0 40 f N (pTwice (pTake f N a 2 7).1 (pTake f N a 2 7).2 (tk f N a.2.2.2.2).1) SX.1 rfl (d)) rfl (by omega) rfl rfl (Nat.le_of_ble_eq_true rfl) dX7_readHave_76 (fun r343 u344 q345 => ?_)
        obtain ⟨⟨x346, rfl, tx346⟩, mq345⟩ := q345
        obtain ⟨hu344, gu344, ku3440, ku3441, ku3442⟩ := mq345
        have fu344 : fk [60, 66] [3, 7, 13, 22, 28] u u344 := fk_tr fu328 gu344 (by decide) (by decide)
        have rfu344 : rf u344 := rf_mono rfu328 gu344 ku3440 (by decide) (by decide) (by decide) (by decide)
        have T347 : u344.1 60 7 = t1 := (fk_at gu344 (by decide)).trans T330
        have T348 : u344.1 60 10 = x299 := (fk_at gu344 (by decide)).trans T331
        have T349 : u344.1 60 11 = x314 := (fk_at gu344 (by decide)).trans T332
        have T350 : u344.1 60 13 = t4 := (fk_at gu344 (by decide)).trans T333
        obtain ⟨t351, Tt351⟩ : ∃ t, u344.1 60 14 = t := ⟨_, rfl⟩
        have Rt351 : 0 ≤ t351 ∧ t351 ≤ 160 := by rw [← Tt351]; exact iv_at hu344 _ _ rfl
        obtain ⟨t352, Tt352⟩ : ∃ t, u344.1 60 15 = t := ⟨_, rfl⟩
        have Rt352 : 0 ≤ t352 ∧ t352 ≤ 160 := by rw [← Tt352]; exact iv_at hu344 _ _ rfl
        obtain ⟨t353, Tt353⟩ : ∃ t, u344.1 60 18 = t := ⟨_, rfl⟩
        have Rt353 : 0 ≤ t353 ∧ t353 ≤ 6 := by rw [← Tt353]; exact iv_at hu344 _ _ rfl
        obtain ⟨t354, Tt354⟩ : ∃ t, u344.1 60 19 = t := ⟨_, rfl⟩
        have C355 : u344.1 66 = u.1 66 := (fk_c gu344 (by decide)).trans C338
        have C356 : u344.1 67 = u.1 67 := (fk_c gu344 (by decide)).trans C339
        have C357 : u344.1 68 = u.1 68 := (fk_c gu344 (by decide)).trans C340
        have s358 : u344.1 60 10 = x299 := (fk_at gu344 (by decide)).trans s341
        have s359 : u344.1 60 11 = x314 := (fk_at gu344 (by decide)).trans s342
        refine g_istore_n dX7_readHave_79 (by decide) ?_
        refine g_pick (lv' := [(0, .ref (uk_ad G 60)), (1, .int x12), (2, .int x346)]) [0, 1, 2] rfl ?_
        refine g_aload_n dX7_readHave_80 rfl ?_
        refine f_X7_26 rfl rfl dX7_readHave_81 ?_
        refine g_iconst (v := 0) dX7_readHave_84 (by decide) ?_
        refine g_iload_n dX7_readHave_85 rfl ?_
        refine g_iadd dX7_readHave_86 ?_
        refine g_topi (fun x360 ex360 => ?_)
        have ox360 : x360 = x12 := by rw [ex360, Int32.zero_add]
        refine g_aload_n dX7_readHave_87 rfl ?_
        refine f_X7_91 rfl rfl dX7_readHave_88 ?_
        refine g_topi (fun x361 ex361 => ?_)
        have rx361 : 0 ≤ x361 ∧ x361 ≤ 6 := by rw [ex361]; exact iv_at hu344 _ _ rfl
        have qx361 : x361 = t353 := ex361.trans Tt353
        refine g_if_ne (tgt := 98) dX7_readHave_91 (by decide) (fun c362 => ?_) (fun c362 => ?_)
        · refine g_aload_n dX7_readHave_98 rfl ?_
          refine f_X7_26 rfl rfl dX7_readHave_99 ?_
          refine g_iconst (v := 0) dX7_readHave_102 (by decide) ?_
          refine g_iload_n dX7_readHave_103 rfl ?_
          refine g_iadd dX7_readHave_104 ?_
          refine g_topi (fun x363 ex363 => ?_)
          have ox363 : x363 = x12 := by rw [ex363, Int32.zero_add]
          have v364 : vp_in x363 51 := uk_vin 51 rfl (by first | decide | lia | grind) (by first | decide | lia | grind)
          refine g_iald rfl rfl v364 dX7_readHave_105 ?_
          refine g_topi (fun x365 ex365 => ?_)
          have bx365 := uk_cl v364
          have rx365 : 0 ≤ x365 ∧ x365 ≤ 40 := by rw [ex365]; exact sg_0 hu344 (by unfold uk_is51; decide) (by first | lia | grind) (by first | lia | grind)
          have px365 : x365 = (u.1 66) (x363 : Int32).toNatClampNeg := ex365.trans (congrFun C355 _)
          have v366 : vp_in x360 51 := uk_vin 51 rfl (by first | decide | lia | grind) (by first | decide | lia | grind)
          have b367 := uk_cl v366
          refine g_iast rfl rfl v366 dX7_readHave_106 ?_
          refine g_mem (fun u368 eu368 => ?_)
          have hu368 : iv u368 := by rw [eu368]; exact iv_st hu344 (by unfold uk_is51; decide) (by first | decide | lia | grind) (by first | decide | lia | grind) (fun q => by first | decide | lia | grind) (fun q => by first | decide | lia | grind) (fun q => by first | decide | lia | grind)
          have fu368 : fk [60, 66] [3, 7, 13, 22, 28] u u368 := by rw [eu368]; exact fk_up fu344 (by decide) (fun q => absurd q (by decide))
          have T369 : u368.1 60 7 = t1 := by rw [eu368]; exact (congrFun (uk_up_oc (by decide)) _).trans T347
          have T370 : u368.1 60 10 = x299 := by rw [eu368]; exact (congrFun (uk_up_oc (by decide)) _).trans T348
          have T371 : u368.1 60 11 = x314 := by rw [eu368]; exact (congrFun (uk_up_oc (by decide)) _).trans T349
          have T372 : u368.1 60 13 = t4 := by rw [eu368]; exact (congrFun (uk_up_oc (by decide)) _).trans T350
          have T373 : u368.1 60 14 = t351 := by rw [eu368]; exact (congrFun (uk_up_oc (by decide)) _).trans Tt351
          have T374 : u368.1 60 15 = t352 := by rw [eu368]; exact (congrFun (uk_up_oc (by decide)) _).trans Tt352
          have T375 : u368.1 60 18 = t353 := by rw [eu368]; exact (congrFun (uk_up_oc (by decide)) _).trans Tt353
          have T376 : u368.1 60 19 = t354 := by rw [eu368]; exact (congrFun (uk_up_oc (by decide)) _).trans Tt354
          have C377 : u368.1 66 = (upd (u.1 66) (x360 : Int32).toNatClampNeg x365) := by rw [eu368, uk_up_self, C355]
          have C378 : u368.1 67 = u.1 67 := by rw [eu368]; exact (uk_up_oc (by decide)).trans C356
          have C379 : u368.1 68 = u.1 68 := by rw [eu368]; exact (uk_up_oc (by decide)).trans C357
          exact g_vret dX7_readHave_107 rfl ⟨rfl, hu368, fu368, (fun hf => by
    rw [T375] at hf
    have hrd := hrf (by grind)
    unfold rd at hrd ⊢
    rw [show u.1 60 7 = t1 by grind] at hrd
    rw [T369, C377, C378, C379]
    exact rk_up hrd (by grind) (by decide) (by grind)), (by first | rfl | (rw [T375]; grind) | rw [T375]), (by first | rfl | (rw [T375, T374, T373]; grind) | rw [T375, T374, T373]), (show Sr f N u368 _ by rw [eu368]; exact Sr_u ku3442 (by decide) (fun q => absurd q (by decide))), (fun q => ⟨by rw [T370, ← SX.2]; grind, by rw [T371, ← SX.2]; have := TH; grind⟩), (fun q => by exfalso; grind)⟩
        · refine g_iload_n dX7_readHave_94 rfl ?_
          refine g_goto (tgt := 106) dX7_readHave_95 (by decide) ?_
          have v380 : vp_in x360 51 := uk_vin 51 rfl (by first | decide | lia | grind) (by first | decide | lia | grind)
          have b381 := uk_cl v380
          refine g_iast rfl rfl v380 dX7_readHave_106 ?_
          refine g_mem (fun u382 eu382 => ?_)
          have hu382 : iv u382 := by rw [eu382]; exact iv_st hu344 (by unfold uk_is51; decide) (by first | decide | lia | grind) (by first | decide | lia | grind) (fun q => by first | decide | lia | grind) (fun q => by first | decide | lia | grind) (fun q => by first | decide | lia | grind)
          have fu382 : fk [60, 66] [3, 7, 13, 22, 28] u u382 := by rw [eu382]; exact fk_up fu344 (by decide) (fun q => absurd q (by decide))
          have T383 : u382.1 60 7 = t1 := by rw [eu382]; exact (congrFun (uk_up_oc (by decide)) _).trans T347
          have T384 : u382.1 60 10 = x299 := by rw [eu382]; exact (congrFun (uk_up_oc (by decide)) _).trans T348
          have T385 : u382.1 60 11 = x314 := by rw [eu382]; exact (congrFun (uk_up_oc (by decide)) _).trans T349
          have T386 : u382.1 60 13 = t4 := by rw [eu382]; exact (congrFun (uk_up_oc (by decide)) _).trans T350
          have T387 : u382.1 60 14 = t351 := by rw [eu382]; exact (congrFun (uk_up_oc (by decide)) _).trans Tt351
          have T388 : u382.1 60 15 = t352 := by rw [eu382]; exact (congrFun (uk_up_oc (by decide)) _).trans Tt352
          have T389 : u382.1 60 18 = t353 := by rw [eu382]; exact (congrFun (uk_up_oc (by decide)) _).trans Tt353
          have T390 : u382.1 60 19 = t354 := by rw [eu382]; exact (congrFun (uk_up_oc (by decide)) _).trans Tt354
          have C391 : u382.1 66 = (upd (u.1 66) (x360 : Int32).toNatClampNeg x346) := by rw [eu382, uk_up_self, C355]
          have C392 : u382.1 67 = u.1 67 := by rw [eu382]; exact (uk_up_oc (by decide)).trans C356
          have C393 : u382.1 68 = u.1 68 := by rw [eu382]; exact (uk_up_oc (by decide)).trans C357
          exact g_vret dX7_readHave_107 rfl ⟨rfl, hu382, fu382, (fun hf => by
    rw [T389] at hf
    have hrd := hrf (by grind)
    unfold rd at hrd ⊢
    rw [show u.1 60 7 = t1 by grind] at hrd
    rw [T383, C391, C392, C393]
    exact rk_up hrd (by grind) (by decide) (by grind)), (by first | rfl | (rw [T389]; grind) | rw [T389]), (by first | rfl | (rw [T389, T388, T387]; grind) | rw [T389, T388, T387]), (show Sr f N u382 _ by rw [eu382]; exact Sr_u ku3442 (by decide) (fun q => absurd q (by decide))), (fun q => ⟨by rw [T384, ← SX.2]; grind, by rw [T385, ← SX.2]; have := TH; grind⟩), (fun _ => Rw_have p4 (by rw [T383]; grind) C391 C392 C393 (by grind) (by grind) (by grind) SX.2 tx346.2)⟩
      · refine g_iload_n dX7_readHave_57 rfl ?_
        refine g_goto (tgt := 65) dX7_readHave_58 (by decide) ?_
        refine p_X7_76 rfl rfl dX7_readHave_65 ?_
        refine g_mem (fun u394 eu394 => ?_)
        have hu394 : iv u394 := by rw [eu394]; exact iv_upF hu300 rfl
        have fu394 : fk [60, 66] [3, 7, 13, 22, 28] u u394 := by rw [eu394]; exact fk_up fu300 (by decide) (fun _ => by decide)
        have rfu394 : rf u394 := by rw [eu394]; exact rf_1 rfu300 (by decide)
        have C395 : u394.1 66 = u.1 66 := by rw [eu394]; exact (uk_up_oc (by decide)).trans C301
        have C396 : u394.1 67 = u.1 67 := by rw [eu394]; exact (uk_up_oc (by decide)).trans C302
        have C397 : u394.1 68 = u.1 68 := by rw [eu394]; exact (uk_up_oc (by decide)).trans C303
        have s398 : u394.1 60 11 = x12 := by rw [eu394, uk_up_at]; exact if_pos ⟨rfl, rfl⟩
        have T399 : u394.1 60 7 = t1 := by rw [eu394, uk_up_at, if_neg (by decide)]; exact T305
        have T400 : u394.1 60 10 = x299 := by rw [eu394, uk_up_at, if_neg (by decide)]; exact s304
        have T401 : u394.1 60 13 = t4 := by rw [eu394, uk_up_at, if_neg (by decide)]; exact T307
        have T402 : u394.1 60 14 = t5 := by rw [eu394, uk_up_at, if_neg (by decide)]; exact T308
        have T403 : u394.1 60 15 = t6 := by rw [eu394, uk_up_at, if_neg (by decide)]; exact T309
        have T404 : u394.1 60 18 = t292 := by rw [eu394, uk_up_at, if_neg (by decide)]; exact T310
        have T405 : u394.1 60 19 = t293 := by rw [eu394, uk_up_at, if_neg (by decide)]; exact T311
        have TW : twd a.2.2.1 x12 u10 u394 := Or.inr (Or.inr ⟨by grind, by rw [yx91]; grind, by rw [T404]; grind⟩)
        have TD : u394.1 60 10 = a.2.2.1 ||| ((1 : Int32) <<< x12) := by rw [T400, ex299, ex298, m31 XR.1 (by grind), show x297 = a.2.2.1 by grind]
        have TH : hi9 (a.2.2.1 ||| ((1 : Int32) <<< x12)) (u394.1 60 11) := hi9_up HB XR.1 XR.2 (fun q => by first | (rw [s398]; done) | (rw [s398]; grind)) (fun q => by first | (rw [s398]; done) | (rw [s398]; grind))
        have M69 : u394.1 69 = u10.1 69 := by rw [eu394, uk_up_oc (by decide), eu300, uk_up_oc (by decide)]; exact fk_c gu284 (by decide)
        have M14 : u394.1 60 14 = u10.1 60 14 := by rw [T402]; grind
        have M13 : u394.1 60 13 = u10.1 60 13 := by rw [T401]; grind
        refine g_aload_n dX7_readHave_68 rfl ?_
        refine cl_X7_133 (c := 60) (As := []) rfl (c_X7_next_s (G := G) hs hu394    (d + 1)) rfl (by omega) rfl rfl (Nat.le_of_ble_eq_true rfl) dX7_readHave_69 (fun r406 u407 q408 => ?_)
        obtain ⟨rfl, mq408⟩ := q408
        obtain ⟨hu407, gu407, ku4070, ku4071, ku4072, ku4073, ku4074, ku4075⟩ := mq408
        have fu407 : fk [60, 66] [3, 7, 13, 22, 28] u u407 := fk_tr fu394 gu407 (by decide) (by decide)
        have rfu407 : rf u407 := rf_mono rfu394 gu407 ku4070 (by decide) (by decide) (by decide) (by decide)
        have T409 : u407.1 60 7 = t1 := (fk_at gu407 (by decide)).trans T399
        have T410 : u407.1 60 10 = x299 := (fk_at gu407 (by decide)).trans T400
        have T411 : u407.1 60 11 = x12 := (fk_at gu407 (by decide)).trans s398
        have T412 : u407.1 60 13 = t4 := (fk_at gu407 (by decide)).trans T401
        obtain ⟨t413, Tt413⟩ : ∃ t, u407.1 60 14 = t := ⟨_, rfl⟩
        have Rt413 : 0 ≤ t413 ∧ t413 ≤ 160 := by rw [← Tt413]; exact iv_at hu407 _ _ rfl
        obtain ⟨t414, Tt414⟩ : ∃ t, u407.1 60 15 = t := ⟨_, rfl⟩
        have Rt414 : 0 ≤ t414 ∧ t414 ≤ 160 := by rw [← Tt414]; exact iv_at hu407 _ _ rfl
        obtain ⟨t415, Tt415⟩ : ∃ t, u407.1 60 18 = t := ⟨_, rfl⟩
        have Rt415 : 0 ≤ t415 ∧ t415 ≤ 6 := by rw [← Tt415]; exact iv_at hu407 _ _ rfl
        obtain ⟨t416, Tt416⟩ : ∃ t, u407.1 60 19 = t := ⟨_, rfl⟩
        have C417 : u407.1 66 = u.1 66 := (fk_c gu407 (by decide)).trans C395
        have C418 : u407.1 67 = u.1 67 := (fk_c gu407 (by decide)).trans C396
        have C419 : u407.1 68 = u.1 68 := (fk_c gu407 (by decide)).trans C397
        have s420 : u407.1 60 10 = x299 := (fk_at gu407 (by decide)).trans (by simp [eu394, uk_up_at, s304] : u394.1 60 10 = x299)
        have s421 : u407.1 60 11 = x12 := (fk_at gu407 (by decide)).trans s398
        have SX := Sr_twice hN p0 tx12.2 TW ⟨ku4074, fun q => ⟨(ku4075 q).2.2.2.2.1, (ku4075 q).2.2.2.2.2⟩⟩ (fk_at gu10 (by decide)) (fk_at gu10 (by decide)) (fk_at gu10 (by decide)) (fk_c gu10 (by decide)) M14 M13 M69 (fk_at gu407 (by decide)) (fk_c gu407 (by decide))
        refine g_aload_n dX7_readHave_72 rfl ?_
        refine g_iconst (v := 0) dX7_readHave_73 (by decide) ?_
        refine g_bipush (v := 40) dX7_readHave_74 (by decide) ?_
        refine cl_X7_136 (c := 60) (As := [.int 0, .int 40]) rfl (c_X7_readNumber_s (G := G) hs hu407  0 40 f N (pTwice (pTake f N a 2 7).1 (pTake f N a 2 7).2 (tk f N a.2.2.2.2).1) SX.1 rfl (d)) rfl (by omega) rfl rfl (Nat.le_of_ble_eq_true rfl) dX7_readHave_76 (fun r422 u423 q424 => ?_)
        obtain ⟨⟨x425, rfl, tx425⟩, mq424⟩ := q424
        obtain ⟨hu423, gu423, ku4230, ku4231, ku4232⟩ := mq424
        have fu423 : fk [60, 66] [3, 7, 13, 22, 28] u u423 := fk_tr fu407 gu423 (by decide) (by decide)
        have rfu423 : rf u423 := rf_mono rfu407 gu423 ku4230 (by decide) (by decide) (by decide) (by decide)
        have T426 : u423.1 60 7 = t1 := (fk_at gu423 (by decide)).trans T409
        have T427 : u423.1 60 10 = x299 := (fk_at gu423 (by decide)).trans T410
        have T428 : u423.1 60 11 = x12 := (fk_at gu423 (by decide)).trans T411
        have T429 : u423.1 60 13 = t4 := (fk_at gu423 (by decide)).trans T412
        obtain ⟨t430, Tt430⟩ : ∃ t, u423.1 60 14 = t := ⟨_, rfl⟩
        have Rt430 : 0 ≤ t430 ∧ t430 ≤ 160 := by rw [← Tt430]; exact iv_at hu423 _ _ rfl
        obtain ⟨t431, Tt431⟩ : ∃ t, u423.1 60 15 = t := ⟨_, rfl⟩
        have Rt431 : 0 ≤ t431 ∧ t431 ≤ 160 := by rw [← Tt431]; exact iv_at hu423 _ _ rfl
        obtain ⟨t432, Tt432⟩ : ∃ t, u423.1 60 18 = t := ⟨_, rfl⟩
        have Rt432 : 0 ≤ t432 ∧ t432 ≤ 6 := by rw [← Tt432]; exact iv_at hu423 _ _ rfl
        obtain ⟨t433, Tt433⟩ : ∃ t, u423.1 60 19 = t := ⟨_, rfl⟩
        have C434 : u423.1 66 = u.1 66 := (fk_c gu423 (by decide)).trans C417
        have C435 : u423.1 67 = u.1 67 := (fk_c gu423 (by decide)).trans C418
        have C436 : u423.1 68 = u.1 68 := (fk_c gu423 (by decide)).trans C419
        have s437 : u423.1 60 10 = x299 := (fk_at gu423 (by decide)).trans s420
        have s438 : u423.1 60 11 = x12 := (fk_at gu423 (by decide)).trans s421
        refine g_istore_n dX7_readHave_79 (by decide) ?_
        refine g_pick (lv' := [(0, .ref (uk_ad G 60)), (1, .int x12), (2, .int x425)]) [0, 1, 2] rfl ?_
        refine g_aload_n dX7_readHave_80 rfl ?_
        refine f_X7_26 rfl rfl dX7_readHave_81 ?_
        refine g_iconst (v := 0) dX7_readHave_84 (by decide) ?_
        refine g_iload_n dX7_readHave_85 rfl ?_
        refine g_iadd dX7_readHave_86 ?_
        refine g_topi (fun x439 ex439 => ?_)
        have ox439 : x439 = x12 := by rw [ex439, Int32.zero_add]
        refine g_aload_n dX7_readHave_87 rfl ?_
        refine f_X7_91 rfl rfl dX7_readHave_88 ?_
        refine g_topi (fun x440 ex440 => ?_)
        have rx440 : 0 ≤ x440 ∧ x440 ≤ 6 := by rw [ex440]; exact iv_at hu423 _ _ rfl
        have qx440 : x440 = t432 := ex440.trans Tt432
        refine g_if_ne (tgt := 98) dX7_readHave_91 (by decide) (fun c441 => ?_) (fun c441 => ?_)
        · refine g_aload_n dX7_readHave_98 rfl ?_
          refine f_X7_26 rfl rfl dX7_readHave_99 ?_
          refine g_iconst (v := 0) dX7_readHave_102 (by decide) ?_
          refine g_iload_n dX7_readHave_103 rfl ?_
          refine g_iadd dX7_readHave_104 ?_
          refine g_topi (fun x442 ex442 => ?_)
          have ox442 : x442 = x12 := by rw [ex442, Int32.zero_add]
          have v443 : vp_in x442 51 := uk_vin 51 rfl (by first | decide | lia | grind) (by first | decide | lia | grind)
          refine g_iald rfl rfl v443 dX7_readHave_105 ?_
          refine g_topi (fun x444 ex444 => ?_)
          have bx444 := uk_cl v443
          have rx444 : 0 ≤ x444 ∧ x444 ≤ 40 := by rw [ex444]; exact sg_0 hu423 (by unfold uk_is51; decide) (by first | lia | grind) (by first | lia | grind)
          have px444 : x444 = (u.1 66) (x442 : Int32).toNatClampNeg := ex444.trans (congrFun C434 _)
          have v445 : vp_in x439 51 := uk_vin 51 rfl (by first | decide | lia | grind) (by first | decide | lia | grind)
          have b446 := uk_cl v445
          refine g_iast rfl rfl v445 dX7_readHave_106 ?_
          refine g_mem (fun u447 eu447 => ?_)
          have hu447 : iv u447 := by rw [eu447]; exact iv_st hu423 (by unfold uk_is51; decide) (by first | decide | lia | grind) (by first | decide | lia | grind) (fun q => by first | decide | lia | grind) (fun q => by first | decide | lia | grind) (fun q => by first | decide | lia | grind)
          have fu447 : fk [60, 66] [3, 7, 13, 22, 28] u u447 := by rw [eu447]; exact fk_up fu423 (by decide) (fun q => absurd q (by decide))
          have T448 : u447.1 60 7 = t1 := by rw [eu447]; exact (congrFun (uk_up_oc (by decide)) _).trans T426
          have T449 : u447.1 60 10 = x299 := by rw [eu447]; exact (congrFun (uk_up_oc (by decide)) _).trans T427
          have T450 : u447.1 60 11 = x12 := by rw [eu447]; exact (congrFun (uk_up_oc (by decide)) _).trans T428
          have T451 : u447.1 60 13 = t4 := by rw [eu447]; exact (congrFun (uk_up_oc (by decide)) _).trans T429
          have T452 : u447.1 60 14 = t430 := by rw [eu447]; exact (congrFun (uk_up_oc (by decide)) _).trans Tt430
          have T453 : u447.1 60 15 = t431 := by rw [eu447]; exact (congrFun (uk_up_oc (by decide)) _).trans Tt431
          have T454 : u447.1 60 18 = t432 := by rw [eu447]; exact (congrFun (uk_up_oc (by decide)) _).trans Tt432
          have T455 : u447.1 60 19 = t433 := by rw [eu447]; exact (congrFun (uk_up_oc (by decide)) _).trans Tt433
          have C456 : u447.1 66 = (upd (u.1 66) (x439 : Int32).toNatClampNeg x444) := by rw [eu447, uk_up_self, C434]
          have C457 : u447.1 67 = u.1 67 := by rw [eu447]; exact (uk_up_oc (by decide)).trans C435
          have C458 : u447.1 68 = u.1 68 := by rw [eu447]; exact (uk_up_oc (by decide)).trans C436
          exact g_vret dX7_readHave_107 rfl ⟨rfl, hu447, fu447, (fun hf => by
    rw [T454] at hf
    have hrd := hrf (by grind)
    unfold rd at hrd ⊢
    rw [show u.1 60 7 = t1 by grind] at hrd
    rw [T448, C456, C457, C458]
    exact rk_up hrd (by grind) (by decide) (by grind)), (by first | rfl | (rw [T454]; grind) | rw [T454]), (by first | rfl | (rw [T454, T453, T452]; grind) | rw [T454, T453, T452]), (show Sr f N u447 _ by rw [eu447]; exact Sr_u ku4232 (by decide) (fun q => absurd q (by decide))), (fun q => ⟨by rw [T449, ← SX.2]; grind, by rw [T450, ← SX.2]; have := TH; grind⟩), (fun q => by exfalso; grind)⟩
        · refine g_iload_n dX7_readHave_94 rfl ?_
          refine g_goto (tgt := 106) dX7_readHave_95 (by decide) ?_
          have v459 : vp_in x439 51 := uk_vin 51 rfl (by first | decide | lia | grind) (by first | decide | lia | grind)
          have b460 := uk_cl v459
          refine g_iast rfl rfl v459 dX7_readHave_106 ?_
          refine g_mem (fun u461 eu461 => ?_)
          have hu461 : iv u461 := by rw [eu461]; exact iv_st hu423 (by unfold uk_is51; decide) (by first | decide | lia | grind) (by first | decide | lia | grind) (fun q => by first | decide | lia | grind) (fun q => by first | decide | lia | grind) (fun q => by first | decide | lia | grind)
          have fu461 : fk [60, 66] [3, 7, 13, 22, 28] u u461 := by rw [eu461]; exact fk_up fu423 (by decide) (fun q => absurd q (by decide))
          have T462 : u461.1 60 7 = t1 := by rw [eu461]; exact (congrFun (uk_up_oc (by decide)) _).trans T426
          have T463 : u461.1 60 10 = x299 := by rw [eu461]; exact (congrFun (uk_up_oc (by decide)) _).trans T427
          have T464 : u461.1 60 11 = x12 := by rw [eu461]; exact (congrFun (uk_up_oc (by decide)) _).trans T428
          have T465 : u461.1 60 13 = t4 := by rw [eu461]; exact (congrFun (uk_up_oc (by decide)) _).trans T429
          have T466 : u461.1 60 14 = t430 := by rw [eu461]; exact (congrFun (uk_up_oc (by decide)) _).trans Tt430
          have T467 : u461.1 60 15 = t431 := by rw [eu461]; exact (congrFun (uk_up_oc (by decide)) _).trans Tt431
          have T468 : u461.1 60 18 = t432 := by rw [eu461]; exact (congrFun (uk_up_oc (by decide)) _).trans Tt432
          have T469 : u461.1 60 19 = t433 := by rw [eu461]; exact (congrFun (uk_up_oc (by decide)) _).trans Tt433
          have C470 : u461.1 66 = (upd (u.1 66) (x439 : Int32).toNatClampNeg x425) := by rw [eu461, uk_up_self, C434]
          have C471 : u461.1 67 = u.1 67 := by rw [eu461]; exact (uk_up_oc (by decide)).trans C435
          have C472 : u461.1 68 = u.1 68 := by rw [eu461]; exact (uk_up_oc (by decide)).trans C436
          exact g_vret dX7_readHave_107 rfl ⟨rfl, hu461, fu461, (fun hf => by
    rw [T468] at hf
    have hrd := hrf (by grind)
    unfold rd at hrd ⊢
    rw [show u.1 60 7 = t1 by grind] at hrd
    rw [T462, C470, C471, C472]
    exact rk_up hrd (by grind) (by decide) (by grind)), (by first | rfl | (rw [T468]; grind) | rw [T468]), (by first | rfl | (rw [T468, T467, T466]; grind) | rw [T468, T467, T466]), (show Sr f N u461 _ by rw [eu461]; exact Sr_u ku4232 (by decide) (fun q => absurd q (by decide))), (fun q => ⟨by rw [T463, ← SX.2]; grind, by rw [T464, ← SX.2]; have := TH; grind⟩), (fun _ => Rw_have p4 (by rw [T462]; grind) C470 C471 C472 (by grind) (by grind) (by grind) SX.2 tx425.2)⟩
