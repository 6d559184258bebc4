theorem RW_s {f : Nat → Int32} {n c : Int32} {u u' : uk_Mem} {b : PS} {W : PW} (hn : n ≤ 160) (c0 : 0 ≤ c) (c1 : c < 160) (hb : b = pIt f n c.toNatClampNeg) (hW : W = wIt f n c.toNatClampNeg) (h0 : u.1 60 18 = 0) (hs : ¬ u.1 60 16 = 0) (hS : Sr f n u b) (hL : pLoop f n (160 - c.toNatClampNeg) b c = pLoop f n 160 p_0 0) (hS' : Sr f n u' (pLine f n b)) (hT : u'.1 60 18 = 0 → u'.1 60 7 = (pLine f n b).2.2.2.1 ∧ u'.1 60 10 = (pLine f n b).2.2.1 ∧ hi9 (pLine f n b).2.2.1 (u'.1 60 11)) (hR : u'.1 60 18 = 0 → Rw u' (wLine f n b W)) : RW f n u' (c + 1) := fun h => by
  obtain ⟨a0, a1, a1n, a4, v, ht⟩ := Sr_open hS h0
  have hk := tk_eq hn a1 ht
  have hT0 : ¬ (tk f n b.2.2.2.2).2.1 = 0 := fun z => hs (hk.2.1.symm.trans z)
  have z := Sr_0 hS' h
  have hI := pIt_s (f := f) (n := n) c0 (by lia) hb hW
  exact ⟨pLine f n b, wLine f n b W, hI.1, hI.2, hR h, z, hS', by rw [← hL]; exact (pLoop_s c0 c1 hT0 z).symm, (hT h).1, (hT h).2.1, (hT h).2.2⟩
def aq0 (u : uk_Mem) (c : Int32) : Prop := ∀ j, j < c.toNatClampNeg → u.1 66 j = 0
theorem aq0_0 {u : uk_Mem} : aq0 u 0 := fun j hj => absurd hj (by rw [show (0 : Int32).toNatClampNeg = 0 from rfl]; omega)
theorem aq0_s {u u' : uk_Mem} {c : Int32} (h : aq0 u c) (h0 : 0 ≤ c) (h1 : c ≤ 1000) (e : u' = uk_up u 66 c.toNatClampNeg 0) : aq0 u' (c + 1) := fun j hj => by
  rw [uk_c1 h0 (by lia)] at hj
  rw [e, uk_up_at]
  by_cases q : j = c.toNatClampNeg
  · rw [if_pos ⟨rfl, q⟩]
  · rw [if_neg (fun z => q z.2)]
    exact h j (by omega)
abbrev q_X7_readStuff_t (u : uk_Mem) (k : Int32) (f : Nat → Int32) (N : Int32) (a : PS) (W : PW) (r : Option Value) (u' : uk_Mem) : Prop := (r = none) ∧ (iv u' ∧ fk [60, 66, 67, 68] [3, 10, 11, 13, 22, 28] u u' ∧ rf u' ∧ (u'.1 60 18 = 0 → u.1 60 18 = 0) ∧ (u'.1 60 18 = 0 → u.1 60 14 ≤ u'.1 60 15 ∧ u'.1 60 15 ≤ u'.1 60 14) ∧ Sr f N u' (rsf f N a k (u.1 60 7)) ∧ u'.1 60 7 = u.1 60 7 + 1 ∧ (u'.1 60 18 = 0 → Rw u' (wStf f N a k (u.1 60 7) W)))
set_option maxHeartbeats 4000000 in
set_option maxRecDepth 20000 in
theorem c_X7_readStuff_t {G : uk_D} (hs : uk_Sep G) {u : uk_Mem} (hu : iv u) (hrf : rf u) (k : Int32) (f : Nat → Int32) (N : Int32) (a : PS) (W : PW) (p0 : u.1 60 7 ≤ 7) (p1 : Sr f N u a) (p2 : Rw u W) (d : Nat) : uk_Meth G (d + 3) mX7_readStuff [.ref (uk_ad G 60), .int k] u (q_X7_readStuff_t u k f N a W) := by
  refine uk_Meth.of hs (by decide) (Nat.le_of_ble_eq_true rfl) (fun X => ?_)
  have f0 : fk [60, 66, 67, 68] [3, 10, 11, 13, 22, 28] u u := fk_rf
  have C66 : u.1 66 = u.1 66 := rfl
  have C67 : u.1 67 = u.1 67 := rfl
  have C68 : u.1 68 = u.1 68 := rfl
  obtain ⟨t1, Tt1⟩ : ∃ t, u.1 60 7 = t := ⟨_, rfl⟩
  obtain ⟨t2, Tt2⟩ : ∃ t, u.1 60 14 = t := ⟨_, rfl⟩
  obtain ⟨t3, Tt3⟩ : ∃ t, u.1 60 15 = t := ⟨_, rfl⟩
  obtain ⟨t4, Tt4⟩ : ∃ t, u.1 60 18 = t := ⟨_, rfl⟩
  refine g_aload_n dX7_readStuff_0 rfl ?_
  refine f_X7_69 rfl rfl dX7_readStuff_1 ?_
  refine g_topi (fun x5 ex5 => ?_)
  have rx5 : 0 ≤ x5 ∧ x5 ≤ 8 := by rw [ex5]; exact iv_at hu _ _ rfl
  have qx5 : x5 = t1 := ex5.trans Tt1
  refine g_istore_n dX7_readStuff_4 (by decide) ?_
  refine g_aload_n dX7_readStuff_5 rfl ?_
  refine f_X7_26 rfl rfl dX7_readStuff_6 ?_
  refine g_bipush (v := 32) dX7_readStuff_9 (by decide) ?_
  refine g_iload_n dX7_readStuff_11 rfl ?_
  refine g_iadd dX7_readStuff_12 ?_
  refine g_topi (fun x6 ex6 => ?_)
  refine g_iload_n dX7_readStuff_13 rfl ?_
  have v7 : vp_in x6 51 := uk_vin 51 rfl (by first | decide | lia | grind) (by first | decide | lia | grind)
  have b8 := uk_cl v7
  refine g_iast rfl rfl v7 dX7_readStuff_14 ?_
  refine g_mem (fun u9 eu9 => ?_)
  have hu9 : iv u9 := by rw [eu9]; exact iv_st hu (by unfold uk_is51; decide) (by first | decide | lia | grind) (by first | decide | lia | grind) (fun q => by first | decide | lia | grind) (fun q => by first | decide | lia | grind) (fun q => by first | decide | lia | grind)
  have fu9 : fk [60, 66, 67, 68] [3, 10, 11, 13, 22, 28] u u9 := by rw [eu9]; exact fk_up f0 (by decide) (fun q => absurd q (by decide))
  have T10 : u9.1 60 7 = t1 := by rw [eu9]; exact (congrFun (uk_up_oc (by decide)) _).trans Tt1
  have T11 : u9.1 60 14 = t2 := by rw [eu9]; exact (congrFun (uk_up_oc (by decide)) _).trans Tt2
  have T12 : u9.1 60 15 = t3 := by rw [eu9]; exact (congrFun (uk_up_oc (by decide)) _).trans Tt3
  have T13 : u9.1 60 18 = t4 := by rw [eu9]; exact (congrFun (uk_up_oc (by decide)) _).trans Tt4
  have C14 : u9.1 66 = (upd (u.1 66) (x6 : Int32).toNatClampNeg k) := by rw [eu9, uk_up_self, C66]
  have C15 : u9.1 67 = u.1 67 := by rw [eu9]; exact (uk_up_oc (by decide)).trans C67
  have C16 : u9.1 68 = u.1 68 := by rw [eu9]; exact (uk_up_oc (by decide)).trans C68
  refine g_iload_n dX7_readStuff_15 rfl ?_
  refine g_iconst (v := 4) dX7_readStuff_16 (by decide) ?_
  refine g_icmp_ne (tgt := 55) dX7_readStuff_17 (by decide) (fun c17 => ?_) (fun c17 => ?_)
  · refine g_aload_n dX7_readStuff_55 rfl ?_
    refine f_X7_29 rfl rfl dX7_readStuff_56 ?_
    refine g_iload_n dX7_readStuff_59 rfl ?_
    refine g_aload_n dX7_readStuff_60 rfl ?_
    refine g_iconst (v := 0) dX7_readStuff_61 (by decide) ?_
    refine g_iload_n dX7_readStuff_62 rfl ?_
    refine g_iconst (v := 1) dX7_readStuff_63 (by decide) ?_
    refine g_isub dX7_readStuff_64 ?_
    refine g_topi (fun x18 ex18 => ?_)
    refine cl_X7_136 (c := 60) (As := [.int 0, .int x18]) rfl (c_X7_readNumber_s (G := G) hs hu9  0 x18 f N a (show Sr f N u9 _ by rw [eu9]; exact Sr_u p1 (by decide) (by first | exact fun q => absurd q (by decide) | exact fun _ => by decide)) rfl (d)) rfl (by omega) rfl rfl (Nat.le_of_ble_eq_true rfl) dX7_readStuff_65 (fun r19 u20 q21 => ?_)
    obtain ⟨⟨x22, rfl, tx22⟩, mq21⟩ := q21
    obtain ⟨hu20, gu20, ku200, ku201, ku202⟩ := mq21
    have fu20 : fk [60, 66, 67, 68] [3, 10, 11, 13, 22, 28] u u20 := fk_tr fu9 gu20 (by decide) (by decide)
    have T23 : u20.1 60 7 = t1 := (fk_at gu20 (by decide)).trans T10
    obtain ⟨t24, Tt24⟩ : ∃ t, u20.1 60 14 = t := ⟨_, rfl⟩
    have Rt24 : 0 ≤ t24 ∧ t24 ≤ 160 := by rw [← Tt24]; exact iv_at hu20 _ _ rfl
    obtain ⟨t25, Tt25⟩ : ∃ t, u20.1 60 15 = t := ⟨_, rfl⟩
    have Rt25 : 0 ≤ t25 ∧ t25 ≤ 160 := by rw [← Tt25]; exact iv_at hu20 _ _ rfl
    obtain ⟨t26, Tt26⟩ : ∃ t, u20.1 60 18 = t := ⟨_, rfl⟩
    have Rt26 : 0 ≤ t26 ∧ t26 ≤ 6 := by rw [← Tt26]; exact iv_at hu20 _ _ rfl
    have C27 : u20.1 66 = (upd (u.1 66) (x6 : Int32).toNatClampNeg k) := (fk_c gu20 (by decide)).trans C14
    have C28 : u20.1 67 = u.1 67 := (fk_c gu20 (by decide)).trans C15
    have C29 : u20.1 68 = u.1 68 := (fk_c gu20 (by decide)).trans C16
    have v30 : vp_in x5 8 := uk_vin 8 rfl (by first | decide | lia | grind) (by first | decide | lia | grind)
    have b31 := uk_cl v30
    refine g_iast rfl rfl v30 dX7_readStuff_68 ?_
    refine g_mem (fun u32 eu32 => ?_)
    have hu32 : iv u32 := by rw [eu32]; exact iv_up hu20 (uk_pick1 _ (by omega)) (by first | lia | grind) (by first | lia | grind)
    have fu32 : fk [60, 66, 67, 68] [3, 10, 11, 13, 22, 28] u u32 := by rw [eu32]; exact fk_up fu20 (by decide) (fun q => absurd q (by decide))
    have T33 : u32.1 60 7 = t1 := by rw [eu32]; exact (congrFun (uk_up_oc (by decide)) _).trans T23
    have T34 : u32.1 60 14 = t24 := by rw [eu32]; exact (congrFun (uk_up_oc (by decide)) _).trans Tt24
    have T35 : u32.1 60 15 = t25 := by rw [eu32]; exact (congrFun (uk_up_oc (by decide)) _).trans Tt25
    have T36 : u32.1 60 18 = t26 := by rw [eu32]; exact (congrFun (uk_up_oc (by decide)) _).trans Tt26
    have C37 : u32.1 66 = (upd (u.1 66) (x6 : Int32).toNatClampNeg k) := by rw [eu32]; exact (uk_up_oc (by decide)).trans C27
    have C38 : u32.1 67 = (upd (u.1 67) (x5 : Int32).toNatClampNeg x22) := by rw [eu32, uk_up_self, C28]
    have C39 : u32.1 68 = u.1 68 := by rw [eu32]; exact (uk_up_oc (by decide)).trans C29
    refine g_aload_n dX7_readStuff_69 rfl ?_
    refine f_X7_32 rfl rfl dX7_readStuff_70 ?_
    refine g_iload_n dX7_readStuff_73 rfl ?_
    refine g_aload_n dX7_readStuff_74 rfl ?_
    refine g_iconst (v := 0) dX7_readStuff_75 (by decide) ?_
    refine g_iload_n dX7_readStuff_76 rfl ?_
    refine g_iconst (v := 1) dX7_readStuff_77 (by decide) ?_
    refine g_isub dX7_readStuff_78 ?_
    refine g_topi (fun x40 ex40 => ?_)
    refine cl_X7_136 (c := 60) (As := [.int 0, .int x40]) rfl (c_X7_readNumber_s (G := G) hs hu32  0 x40 f N (pTake f N a 2 x18).1 (show Sr f N u32 _ by rw [eu32]; exact Sr_u ku202 (by decide) (by first | exact fun q => absurd q (by decide) | exact fun _ => by decide)) rfl (d)) rfl (by omega) rfl rfl (Nat.le_of_ble_eq_true rfl) dX7_readStuff_79 (fun r41 u42 q43 => ?_)
    obtain ⟨⟨x44, rfl, tx44⟩, mq43⟩ := q43
    obtain ⟨hu42, gu42, ku420, ku421, ku422⟩ := mq43
    have fu42 : fk [60, 66, 67, 68] [3, 10, 11, 13, 22, 28] u u42 := fk_tr fu32 gu42 (by decide) (by decide)
    have T45 : u42.1 60 7 = t1 := (fk_at gu42 (by decide)).trans T33
    obtain ⟨t46, Tt46⟩ : ∃ t, u42.1 60 14 = t := ⟨_, rfl⟩
    have Rt46 : 0 ≤ t46 ∧ t46 ≤ 160 := by rw [← Tt46]; exact iv_at hu42 _ _ rfl
    obtain ⟨t47, Tt47⟩ : ∃ t, u42.1 60 15 = t := ⟨_, rfl⟩
    have Rt47 : 0 ≤ t47 ∧ t47 ≤ 160 := by rw [← Tt47]; exact iv_at hu42 _ _ rfl
    obtain ⟨t48, Tt48⟩ : ∃ t, u42.1 60 18 = t := ⟨_, rfl⟩
    have Rt48 : 0 ≤ t48 ∧ t48 ≤ 6 := by rw [← Tt48]; exact iv_at hu42 _ _ rfl
    have C49 : u42.1 66 = (upd (u.1 66) (x6 : Int32).toNatClampNeg k) := (fk_c gu42 (by decide)).trans C37
    have C50 : u42.1 67 = (upd (u.1 67) (x5 : Int32).toNatClampNeg x22) := (fk_c gu42 (by decide)).trans C38
    have C51 : u42.1 68 = u.1 68 := (fk_c gu42 (by decide)).trans C39
    have v52 : vp_in x5 8 := uk_vin 8 rfl (by first | decide | lia | grind) (by first | decide | lia | grind)
    have b53 := uk_cl v52
    refine g_iast rfl rfl v52 dX7_readStuff_82 ?_
    refine g_mem (fun u54 eu54 => ?_)
    have hu54 : iv u54 := by rw [eu54]; exact iv_up hu42 (uk_pick1 _ (by omega)) (by first | lia | grind) (by first | lia | grind)
    have fu54 : fk [60, 66, 67, 68] [3, 10, 11, 13, 22, 28] u u54 := by rw [eu54]; exact fk_up fu42 (by decide) (fun q => absurd q (by decide))
    have T55 : u54.1 60 7 = t1 := by rw [eu54]; exact (congrFun (uk_up_oc (by decide)) _).trans T45
    have T56 : u54.1 60 14 = t46 := by rw [eu54]; exact (congrFun (uk_up_oc (by decide)) _).trans Tt46
    have T57 : u54.1 60 15 = t47 := by rw [eu54]; exact (congrFun (uk_up_oc (by decide)) _).trans Tt47
    have T58 : u54.1 60 18 = t48 := by rw [eu54]; exact (congrFun (uk_up_oc (by decide)) _).trans Tt48
    have C59 : u54.1 66 = (upd (u.1 66) (x6 : Int32).toNatClampNeg k) := by rw [eu54]; exact (uk_up_oc (by decide)).trans C49
    have C60 : u54.1 67 = (upd (u.1 67) (x5 : Int32).toNatClampNeg x22) := by rw [eu54]; exact (uk_up_oc (by decide)).trans C50
    have C61 : u54.1 68 = (upd (u.1 68) (x5 : Int32).toNatClampNeg x44) := by rw [eu54, uk_up_self, C51]
    refine g_aload_n dX7_readStuff_83 rfl ?_
    refine f_X7_26 rfl rfl dX7_readStuff_84 ?_
    refine g_bipush (v := 16) dX7_readStuff_87 (by decide) ?_
    refine g_iload_n dX7_readStuff_89 rfl ?_
    refine g_iadd dX7_readStuff_90 ?_
    refine g_topi (fun x62 ex62 => ?_)
    refine g_aload_n dX7_readStuff_91 rfl ?_
    refine g_iconst (v := 0) dX7_readStuff_92 (by decide) ?_
    refine g_bipush (v := 9) dX7_readStuff_93 (by decide) ?_
    refine cl_X7_136 (c := 60) (As := [.int 0, .int 9]) rfl (c_X7_readNumber_s (G := G) hs hu54  0 9 f N (pTake f N (pTake f N a 2 x18).1 2 x40).1 (show Sr f N u54 _ by rw [eu54]; exact Sr_u ku422 (by decide) (by first | exact fun q => absurd q (by decide) | exact fun _ => by decide)) rfl (d)) rfl (by omega) rfl rfl (Nat.le_of_ble_eq_true rfl) dX7_readStuff_95 (fun r63 u64 q65 => ?_)
    obtain ⟨⟨x66, rfl, tx66⟩, mq65⟩ := q65
    obtain ⟨hu64, gu64, ku640, ku641, ku642⟩ := mq65
    have fu64 : fk [60, 66, 67, 68] [3, 10, 11, 13, 22, 28] u u64 := fk_tr fu54 gu64 (by decide) (by decide)
    have T67 : u64.1 60 7 = t1 := (fk_at gu64 (by decide)).trans T55
    obtain ⟨t68, Tt68⟩ : ∃ t, u64.1 60 14 = t := ⟨_, rfl⟩
    have Rt68 : 0 ≤ t68 ∧ t68 ≤ 160 := by rw [← Tt68]; exact iv_at hu64 _ _ rfl
    obtain ⟨t69, Tt69⟩ : ∃ t, u64.1 60 15 = t := ⟨_, rfl⟩
    have Rt69 : 0 ≤ t69 ∧ t69 ≤ 160 := by rw [← Tt69]; exact iv_at hu64 _ _ rfl
    obtain ⟨t70, Tt70⟩ : ∃ t, u64.1 60 18 = t := ⟨_, rfl⟩
    have Rt70 : 0 ≤ t70 ∧ t70 ≤ 6 := by rw [← Tt70]; exact iv_at hu64 _ _ rfl
    have C71 : u64.1 66 = (upd (u.1 66) (x6 : Int32).toNatClampNeg k) := (fk_c gu64 (by decide)).trans C59
    have C72 : u64.1 67 = (upd (u.1 67) (x5 : Int32).toNatClampNeg x22) := (fk_c gu64 (by decide)).trans C60
    have C73 : u64.1 68 = (upd (u.1 68) (x5 : Int32).toNatClampNeg x44) := (fk_c gu64 (by decide)).trans C61
    have v74 : vp_in x62 51 := uk_vin 51 rfl (by first | decide | lia | grind) (by first | decide | lia | grind)
    have b75 := uk_cl v74
    refine g_iast rfl rfl v74 dX7_readStuff_98 ?_
    refine g_mem (fun u76 eu76 => ?_)
    have hu76 : iv u76 := by rw [eu76]; exact iv_st hu64 (by unfold uk_is51; decide) (by first | decide | lia | grind) (by first | decide | lia | grind) (fun q => by first | decide | lia | grind) (fun q => by first | decide | lia | grind) (fun q => by first | decide | lia | grind)
    have fu76 : fk [60, 66, 67, 68] [3, 10, 11, 13, 22, 28] u u76 := by rw [eu76]; exact fk_up fu64 (by decide) (fun q => absurd q (by decide))
    have T77 : u76.1 60 7 = t1 := by rw [eu76]; exact (congrFun (uk_up_oc (by decide)) _).trans T67
    have T78 : u76.1 60 14 = t68 := by rw [eu76]; exact (congrFun (uk_up_oc (by decide)) _).trans Tt68
    have T79 : u76.1 60 15 = t69 := by rw [eu76]; exact (congrFun (uk_up_oc (by decide)) _).trans Tt69
    have T80 : u76.1 60 18 = t70 := by rw [eu76]; exact (congrFun (uk_up_oc (by decide)) _).trans Tt70
    have C81 : u76.1 66 = (upd ((upd (u.1 66) (x6 : Int32).toNatClampNeg k)) (x62 : Int32).toNatClampNeg x66) := by rw [eu76, uk_up_self, C71]
    have C82 : u76.1 67 = (upd (u.1 67) (x5 : Int32).toNatClampNeg x22) := by rw [eu76]; exact (uk_up_oc (by decide)).trans C72
    have C83 : u76.1 68 = (upd (u.1 68) (x5 : Int32).toNatClampNeg x44) := by rw [eu76]; exact (uk_up_oc (by decide)).trans C73
    refine g_aload_n dX7_readStuff_99 rfl ?_
    refine g_dup dX7_readStuff_100 rfl ?_
    refine f_X7_69 rfl rfl dX7_readStuff_101 ?_
    refine g_topi (fun x84 ex84 => ?_)
    have rx84 : 0 ≤ x84 ∧ x84 ≤ 8 := by rw [ex84]; exact iv_at hu76 _ _ rfl
    have qx84 : x84 = t1 := ex84.trans T77
    refine g_iconst (v := 1) dX7_readStuff_104 (by decide) ?_
    refine g_iadd dX7_readStuff_105 ?_
    refine g_topi (fun x85 ex85 => ?_)
    refine p_X7_69 rfl rfl dX7_readStuff_106 ?_
    refine g_mem (fun u86 eu86 => ?_)
    have hu86 : iv u86 := by rw [eu86]; exact iv_up hu76 rfl (by first | lia | grind) (by first | lia | grind)
    have fu86 : fk [60, 66, 67, 68] [3, 10, 11, 13, 22, 28] u u86 := by rw [eu86]; exact fk_up fu76 (by decide) (fun _ => by decide)
    have C87 : u86.1 66 = (upd ((upd (u.1 66) (x6 : Int32).toNatClampNeg k)) (x62 : Int32).toNatClampNeg x66) := by rw [eu86]; exact (uk_up_oc (by decide)).trans C81
    have C88 : u86.1 67 = (upd (u.1 67) (x5 : Int32).toNatClampNeg x22) := by rw [eu86]; exact (uk_up_oc (by decide)).trans C82
    have C89 : u86.1 68 = (upd (u.1 68) (x5 : Int32).toNatClampNeg x44) := by rw [eu86]; exact (uk_up_oc (by decide)).trans C83
    have s90 : u86.1 60 7 = x85 := by rw [eu86, uk_up_at]; exact if_pos ⟨rfl, rfl⟩
    have T91 : u86.1 60 14 = t68 := by rw [eu86, uk_up_at, if_neg (by decide)]; exact T78
    have T92 : u86.1 60 15 = t69 := by rw [eu86, uk_up_at, if_neg (by decide)]; exact T79
    have T93 : u86.1 60 18 = t70 := by rw [eu86, uk_up_at, if_neg (by decide)]; exact T80
    exact g_vret dX7_readStuff_109 rfl ⟨rfl, hu86, fu86, (fun hf => by
    rw [T93] at hf
    have hrd := hrf (by grind)
    unfold rd at hrd ⊢
    rw [show u.1 60 7 = x5 by grind] at hrd
    rw [s90, C88, C89, show x85 = x5 + 1 by grind]
    exact rd_st (by grind) (by grind) hrd (fun i h1 h2 h3 => by rw [C87, upd_ne, upd_ne]; all_goals grind) (by rw [C87, upd_ne, upd_at]; all_goals grind) rfl rfl (by grind)), (by first | rfl | (rw [T93]; grind) | rw [T93]), (by first | rfl | (rw [T93, T92, T91]; grind) | rw [T93, T92, T91]), (by unfold rsf; rw [if_neg (by grind)]; have h9 := (show Sr f N u86 _ by rw [eu86]; exact Sr_u (show Sr f N u76 _ by rw [eu76]; exact Sr_u ku642 (by decide) (by first | exact fun q => absurd q (by decide) | exact fun _ => by decide)) (by decide) (by first | exact fun q => absurd q (by decide) | exact fun _ => by decide)); rw [show x18 = u.1 60 7 - 1 by grind, show x40 = u.1 60 7 - 1 by grind] at h9; exact h9), (by rw [s90]; grind), (fun _ => Rw_made p2 (by grind) (by grind) (by grind) (by grind) (by rw [s90]; grind) C87 (by grind) (by grind) C88 C89 (by grind) (by grind) tx22.2 tx44.2 tx66.2)⟩
  · refine g_aload_n dX7_readStuff_20 rfl ?_
    refine f_X7_26 rfl rfl dX7_readStuff_21 ?_
    refine g_bipush (v := 24) dX7_readStuff_24 (by decide) ?_
    refine g_iload_n dX7_readStuff_26 rfl ?_
    refine g_iadd dX7_readStuff_27 ?_
    refine g_topi (fun x94 ex94 => ?_)
    refine g_aload_n dX7_readStuff_28 rfl ?_
    refine g_iconst (v := 0) dX7_readStuff_29 (by decide) ?_
    refine g_bipush (v := 9) dX7_readStuff_30 (by decide) ?_
    refine cl_X7_136 (c := 60) (As := [.int 0, .int 9]) rfl (c_X7_readNumber_s (G := G) hs hu9  0 9 f N a (show Sr f N u9 _ by rw [eu9]; exact Sr_u p1 (by decide) (by first | exact fun q => absurd q (by decide) | exact fun _ => by decide)) rfl (d)) rfl (by omega) rfl rfl (Nat.le_of_ble_eq_true rfl) dX7_readStuff_32 (fun r95 u96 q97 => ?_)
    obtain ⟨⟨x98, rfl, tx98⟩, mq97⟩ := q97
    obtain ⟨hu96, gu96, ku960, ku961, ku962⟩ := mq97
    have fu96 : fk [60, 66, 67, 68] [3, 10, 11, 13, 22, 28] u u96 := fk_tr fu9 gu96 (by decide) (by decide)
    have T99 : u96.1 60 7 = t1 := (fk_at gu96 (by decide)).trans T10
    obtain ⟨t100, Tt100⟩ : ∃ t, u96.1 60 14 = t := ⟨_, rfl⟩
    have Rt100 : 0 ≤ t100 ∧ t100 ≤ 160 := by rw [← Tt100]; exact iv_at hu96 _ _ rfl
    obtain ⟨t101, Tt101⟩ : ∃ t, u96.1 60 15 = t := ⟨_, rfl⟩
    have Rt101 : 0 ≤ t101 ∧ t101 ≤ 160 := by rw [← Tt101]; exact iv_at hu96 _ _ rfl
    obtain ⟨t102, Tt102⟩ : ∃ t, u96.1 60 18 = t := ⟨_, rfl⟩
    have Rt102 : 0 ≤ t102 ∧ t102 ≤ 6 := by rw [← Tt102]; exact iv_at hu96 _ _ rfl
    have C103 : u96.1 66 = (upd (u.1 66) (x6 : Int32).toNatClampNeg k) := (fk_c gu96 (by decide)).trans C14
    have C104 : u96.1 67 = u.1 67 := (fk_c gu96 (by decide)).trans C15
    have C105 : u96.1 68 = u.1 68 := (fk_c gu96 (by decide)).trans C16
    have v106 : vp_in x94 51 := uk_vin 51 rfl (by first | decide | lia | grind) (by first | decide | lia | grind)
    have b107 := uk_cl v106
    refine g_iast rfl rfl v106 dX7_readStuff_35 ?_
    refine g_mem (fun u108 eu108 => ?_)
    have hu108 : iv u108 := by rw [eu108]; exact iv_st hu96 (by unfold uk_is51; decide) (by first | decide | lia | grind) (by first | decide | lia | grind) (fun q => by first | decide | lia | grind) (fun q => by first | decide | lia | grind) (fun q => by first | decide | lia | grind)
    have fu108 : fk [60, 66, 67, 68] [3, 10, 11, 13, 22, 28] u u108 := by rw [eu108]; exact fk_up fu96 (by decide) (fun q => absurd q (by decide))
    have T109 : u108.1 60 7 = t1 := by rw [eu108]; exact (congrFun (uk_up_oc (by decide)) _).trans T99
    have T110 : u108.1 60 14 = t100 := by rw [eu108]; exact (congrFun (uk_up_oc (by decide)) _).trans Tt100
    have T111 : u108.1 60 15 = t101 := by rw [eu108]; exact (congrFun (uk_up_oc (by decide)) _).trans Tt101
    have T112 : u108.1 60 18 = t102 := by rw [eu108]; exact (congrFun (uk_up_oc (by decide)) _).trans Tt102
    have C113 : u108.1 66 = (upd ((upd (u.1 66) (x6 : Int32).toNatClampNeg k)) (x94 : Int32).toNatClampNeg x98) := by rw [eu108, uk_up_self, C103]
    have C114 : u108.1 67 = u.1 67 := by rw [eu108]; exact (uk_up_oc (by decide)).trans C104
    have C115 : u108.1 68 = u.1 68 := by rw [eu108]; exact (uk_up_oc (by decide)).trans C105
    refine g_aload_n dX7_readStuff_36 rfl ?_
    refine f_X7_29 rfl rfl dX7_readStuff_37 ?_
    refine g_iload_n dX7_readStuff_40 rfl ?_
    refine g_bipush (v := (-4)) dX7_readStuff_41 (by decide) ?_
    have v116 : vp_in x5 8 := uk_vin 8 rfl (by first | decide | lia | grind) (by first | decide | lia | grind)
    have b117 := uk_cl v116
    refine g_iast rfl rfl v116 dX7_readStuff_43 ?_
    refine g_mem (fun u118 eu118 => ?_)
    have hu118 : iv u118 := by rw [eu118]; exact iv_up hu108 (uk_pick1 _ (by omega)) (by first | lia | grind) (by first | lia | grind)
    have fu118 : fk [60, 66, 67, 68] [3, 10, 11, 13, 22, 28] u u118 := by rw [eu118]; exact fk_up fu108 (by decide) (fun q => absurd q (by decide))
    have T119 : u118.1 60 7 = t1 := by rw [eu118]; exact (congrFun (uk_up_oc (by decide)) _).trans T109
    have T120 : u118.1 60 14 = t100 := by rw [eu118]; exact (congrFun (uk_up_oc (by decide)) _).trans T110
    have T121 : u118.1 60 15 = t101 := by rw [eu118]; exact (congrFun (uk_up_oc (by decide)) _).trans T111
    have T122 : u118.1 60 18 = t102 := by rw [eu118]; exact (congrFun (uk_up_oc (by decide)) _).trans T112
    have C123 : u118.1 66 = (upd ((upd (u.1 66) (x6 : Int32).toNatClampNeg k)) (x94 : Int32).toNatClampNeg x98) := by rw [eu118]; exact (uk_up_oc (by decide)).trans C113
    have C124 : u118.1 67 = (upd (u.1 67) (x5 : Int32).toNatClampNeg (-4)) := by rw [eu118, uk_up_self, C114]
    have C125 : u118.1 68 = u.1 68 := by rw [eu118]; exact (uk_up_oc (by decide)).trans C115
    refine g_aload_n dX7_readStuff_44 rfl ?_
    refine f_X7_32 rfl rfl dX7_readStuff_45 ?_
    refine g_iload_n dX7_readStuff_48 rfl ?_
    refine g_bipush (v := (-4)) dX7_readStuff_49 (by decide) ?_
    have v126 : vp_in x5 8 := uk_vin 8 rfl (by first | decide | lia | grind) (by first | decide | lia | grind)
    have b127 := uk_cl v126
    refine g_iast rfl rfl v126 dX7_readStuff_51 ?_
    refine g_mem (fun u128 eu128 => ?_)
    have hu128 : iv u128 := by rw [eu128]; exact iv_up hu118 (uk_pick1 _ (by omega)) (by first | lia | grind) (by first | lia | grind)
    have fu128 : fk [60, 66, 67, 68] [3, 10, 11, 13, 22, 28] u u128 := by rw [eu128]; exact fk_up fu118 (by decide) (fun q => absurd q (by decide))
    have T129 : u128.1 60 7 = t1 := by rw [eu128]; exact (congrFun (uk_up_oc (by decide)) _).trans T119
    have T130 : u128.1 60 14 = t100 := by rw [eu128]; exact (congrFun (uk_up_oc (by decide)) _).trans T120
    have T131 : u128.1 60 15 = t101 := by rw [eu128]; exact (congrFun (uk_up_oc (by decide)) _).trans T121
    have T132 : u128.1 60 18 = t102 := by rw [eu128]; exact (congrFun (uk_up_oc (by decide)) _).trans T122
    have C133 : u128.1 66 = (upd ((upd (u.1 66) (x6 : Int32).toNatClampNeg k)) (x94 : Int32).toNatClampNeg x98) := by rw [eu128]; exact (uk_up_oc (by decide)).trans C123
    have C134 : u128.1 67 = (upd (u.1 67) (x5 : Int32).toNatClampNeg (-4)) := by rw [eu128]; exact (uk_up_oc (by decide)).trans C124
    have C135 : u128.1 68 = (upd (u.1 68) (x5 : Int32).toNatClampNeg (-4)) := by rw [eu128, uk_up_self, C125]
    refine g_goto (tgt := 83) dX7_readStuff_52 (by decide) ?_
    refine g_aload_n dX7_readStuff_83 rfl ?_
    refine f_X7_26 rfl rfl dX7_readStuff_84 ?_
    refine g_bipush (v := 16) dX7_readStuff_87 (by decide) ?_
    refine g_iload_n dX7_readStuff_89 rfl ?_
    refine g_iadd dX7_readStuff_90 ?_
    refine g_topi (fun x136 ex136 => ?_)
    refine g_aload_n dX7_readStuff_91 rfl ?_
    refine g_iconst (v := 0) dX7_readStuff_92 (by decide) ?_
    refine g_bipush (v := 9) dX7_readStuff_93 (by decide) ?_
    refine cl_X7_136 (c := 60) (As := [.int 0, .int 9]) rfl (c_X7_readNumber_s (G := G) hs hu128  0 9 f N (pTake f N a 2 9).1 (show Sr f N u128 _ by rw [eu128]; exact Sr_u (show Sr f N u118 _ by rw [eu118]; exact Sr_u (show Sr f N u108 _ by rw [eu108]; exact Sr_u ku962 (by decide) (by first | exact fun q => absurd q (by decide) | exact fun _ => by decide)) (by decide) (by first | exact fun q => absurd q (by decide) | exact fun _ => by decide)) (by decide) (by first | exact fun q => absurd q (by decide) | exact fun _ => by decide)) rfl (d)) rfl (by omega) rfl rfl (Nat.le_of_ble_eq_true rfl) dX7_readStuff_95 (fun r137 u138 q139 => ?_)
    obtain ⟨⟨x140, rfl, tx140⟩, mq139⟩ := q139
    obtain ⟨hu138, gu138, ku1380, ku1381, ku1382⟩ := mq139
    have fu138 : fk [60, 66, 67, 68] [3, 10, 11, 13, 22, 28] u u138 := fk_tr fu128 gu138 (by decide) (by decide)
    have T141 : u138.1 60 7 = t1 := (fk_at gu138 (by decide)).trans T129
    obtain ⟨t142, Tt142⟩ : ∃ t, u138.1 60 14 = t := ⟨_, rfl⟩
    have Rt142 : 0 ≤ t142 ∧ t142 ≤ 160 := by rw [← Tt142]; exact iv_at hu138 _ _ rfl
    obtain ⟨t143, Tt143⟩ : ∃ t, u138.1 60 15 = t := ⟨_, rfl⟩
    have Rt143 : 0 ≤ t143 ∧ t143 ≤ 160 := by rw [← Tt143]; exact iv_at hu138 _ _ rfl
    obtain ⟨t144, Tt144⟩ : ∃ t, u138.1 60 18 = t := ⟨_, rfl⟩
    have Rt144 : 0 ≤ t144 ∧ t144 ≤ 6 := by rw [← Tt144]; exact iv_at hu138 _ _ rfl
    have C145 : u138.1 66 = (upd ((upd (u.1 66) (x6 : Int32).toNatClampNeg k)) (x94 : Int32).toNatClampNeg x98) := (fk_c gu138 (by decide)).trans C133
    have C146 : u138.1 67 = (upd (u.1 67) (x5 : Int32).toNatClampNeg (-4)) := (fk_c gu138 (by decide)).trans C134
    have C147 : u138.1 68 = (upd (u.1 68) (x5 : Int32).toNatClampNeg (-4)) := (fk_c gu138 (by decide)).trans C135
    have v148 : vp_in x136 51 := uk_vin 51 rfl (by first | decide | lia | grind) (by first | decide | lia | grind)
    have b149 := uk_cl v148
    refine g_iast rfl rfl v148 dX7_readStuff_98 ?_
    refine g_mem (fun u150 eu150 => ?_)
    have hu150 : iv u150 := by rw [eu150]; exact iv_st hu138 (by unfold uk_is51; decide) (by first | decide | lia | grind) (by first | decide | lia | grind) (fun q => by first | decide | lia | grind) (fun q => by first | decide | lia | grind) (fun q => by first | decide | lia | grind)
    have fu150 : fk [60, 66, 67, 68] [3, 10, 11, 13, 22, 28] u u150 := by rw [eu150]; exact fk_up fu138 (by decide) (fun q => absurd q (by decide))
    have T151 : u150.1 60 7 = t1 := by rw [eu150]; exact (congrFun (uk_up_oc (by decide)) _).trans T141
    have T152 : u150.1 60 14 = t142 := by rw [eu150]; exact (congrFun (uk_up_oc (by decide)) _).trans Tt142
    have T153 : u150.1 60 15 = t143 := by rw [eu150]; exact (congrFun (uk_up_oc (by decide)) _).trans Tt143
    have T154 : u150.1 60 18 = t144 := by rw [eu150]; exact (congrFun (uk_up_oc (by decide)) _).trans Tt144
    have C155 : u150.1 66 = (upd ((upd ((upd (u.1 66) (x6 : Int32).toNatClampNeg k)) (x94 : Int32).toNatClampNeg x98)) (x136 : Int32).toNatClampNeg x140) := by rw [eu150, uk_up_self, C145]
    have C156 : u150.1 67 = (upd (u.1 67) (x5 : Int32).toNatClampNeg (-4)) := by rw [eu150]; exact (uk_up_oc (by decide)).trans C146
    have C157 : u150.1 68 = (upd (u.1 68) (x5 : Int32).toNatClampNeg (-4)) := by rw [eu150]; exact (uk_up_oc (by decide)).trans C147
    refine g_aload_n dX7_readStuff_99 rfl ?_
    refine g_dup dX7_readStuff_100 rfl ?_
    refine f_X7_69 rfl rfl dX7_readStuff_101 ?_
    refine g_topi (fun x158 ex158 => ?_)
    have rx158 : 0 ≤ x158 ∧ x158 ≤ 8 := by rw [ex158]; exact iv_at hu150 _ _ rfl
    have qx158 : x158 = t1 := ex158.trans T151
    refine g_iconst (v := 1) dX7_readStuff_104 (by decide) ?_
    refine g_iadd dX7_readStuff_105 ?_
    refine g_topi (fun x159 ex159 => ?_)
    refine p_X7_69 rfl rfl dX7_readStuff_106 ?_
    refine g_mem (fun u160 eu160 => ?_)
    have hu160 : iv u160 := by rw [eu160]; exact iv_up hu150 rfl (by first | lia | grind) (by first | lia | grind)
    have fu160 : fk [60, 66, 67, 68] [3, 10, 11, 13, 22, 28] u u160 := by rw [eu160]; exact fk_up fu150 (by decide) (fun _ => by decide)
    have C161 : u160.1 66 = (upd ((upd ((upd (u.1 66) (x6 : Int32).toNatClampNeg k)) (x94 : Int32).toNatClampNeg x98)) (x136 : Int32).toNatClampNeg x140) := by rw [eu160]; exact (uk_up_oc (by decide)).trans C155
    have C162 : u160.1 67 = (upd (u.1 67) (x5 : Int32).toNatClampNeg (-4)) := by rw [eu160]; exact (uk_up_oc (by decide)).trans C156
    have C163 : u160.1 68 = (upd (u.1 68) (x5 : Int32).toNatClampNeg (-4)) := by rw [eu160]; exact (uk_up_oc (by decide)).trans C157
    have s164 : u160.1 60 7 = x159 := by rw [eu160, uk_up_at]; exact if_pos ⟨rfl, rfl⟩
    have T165 : u160.1 60 14 = t142 := by rw [eu160, uk_up_at, if_neg (by decide)]; exact T152
    have T166 : u160.1 60 15 = t143 := by rw [eu160, uk_up_at, if_neg (by decide)]; exact T153
    have T167 : u160.1 60 18 = t144 := by rw [eu160, uk_up_at, if_neg (by decide)]; exact T154
    exact g_vret dX7_readStuff_109 rfl ⟨rfl, hu160, fu160, (fun hf => by
    rw [T167] at hf
    have hrd := hrf (by grind)
    unfold rd at hrd ⊢
    rw [show u.1 60 7 = x5 by grind] at hrd
    rw [s164, C162, C163, show x159 = x5 + 1 by grind]
    exact rd_st (by grind) (by grind) hrd (fun i h1 h2 h3 => by rw [C161, upd_ne, upd_ne, upd_ne]; all_goals grind) (by rw [C161, upd_ne, upd_ne, upd_at]; all_goals grind) rfl rfl (by grind)), (by first | rfl | (rw [T167]; grind) | rw [T167]), (by first | rfl | (rw [T167, T166, T165]; grind) | rw [T167, T166, T165]), (by unfold rsf; rw [if_pos (by grind)]; exact (show Sr f N u160 _ by rw [eu160]; exact Sr_u (show Sr f N u150 _ by rw [eu150]; exact Sr_u ku1382 (by decide) (by first | exact fun q => absurd q (by decide) | exact fun _ => by decide)) (by decide) (by first | exact fun q => absurd q (by decide) | exact fun _ => by decide))), (by rw [s164]; grind), (fun _ => Rw_raw p2 (by grind) (by grind) (by grind) (by grind) (by rw [s164]; grind) C161 (by grind) (by grind) (by grind) C162 C163 tx98.2 tx140.2)⟩
abbrev q_X7_readHave_t (u : uk_Mem) (f : Nat → Int32) (N : Int32) (a : PS) (W : PW) (r : Option Value) (u' : uk_Mem) : Prop := (r = none) ∧ (iv u' ∧ fk [60, 66] [3, 7, 13, 22, 28] u u' ∧ rf u' ∧ (u'.1 60 18 = 0 → u.1 60 18 = 0) ∧ (u'.1 60 18 = 0 → u.1 60 14 ≤ u'.1 60 15 ∧ u'.1 60 15 ≤ u'.1 60 14) ∧ Sr f N u' (pTake f N (pTwice (pTake f N a 2 7).1 (pTake f N a 2 7).2 (tk f N a.2.2.2.2).1) 2 40).1 ∧ (u'.1 60 18 = 0 → u'.1 60 10 = a.2.2.1 ||| ((1 : Int32) <<< (pTake f N a 2 7).2) ∧ hi9 (a.2.2.1 ||| ((1 : Int32) <<< (pTake f N a 2 7).2)) (u'.1 60 11)) ∧ (u'.1 60 18 = 0 → Rw u' (wHav f N a W)))
set_option maxHeartbeats 4000000 in
set_option maxRecDepth 20000 in
theorem c_X7_readHave_t {G : uk_D} (hs : uk_Sep G) {u : uk_Mem} (hu : iv u) (hrf : rf u) (f : Nat → Int32) (N : Int32) (a : PS) (W : PW) (p0 : Sr f N u a) (p1 : u.1 60 18 = 0) (p2 : u.1 60 10 = a.2.2.1) (p3 : hi9 a.2.2.1 (u.1 60 11)) (p4 : Rw u W) (d : Nat) : uk_Meth G (d + 3) mX7_readHave [.ref (uk_ad G 60)] u (q_X7_readHave_t u f N a W) := by
  refine uk_Meth.of hs (by decide) (Nat.le_of_ble_eq_true rfl) (fun X => ?_)
  have f0 : fk [60, 66] [3, 7, 13, 22, 28] u u := fk_rf
  have C66 : u.1 66 = u.1 66 := rfl
  have C67 : u.1 67 = u.1 67 := rfl
  have C68 : u.1 68 = u.1 68 := rfl
  obtain ⟨t1, Tt1⟩ : ∃ t, u.1 60 7 = t := ⟨_, rfl⟩
  obtain ⟨t2, Tt2⟩ : ∃ t, u.1 60 10 = t := ⟨_, rfl⟩
  obtain ⟨t3, Tt3⟩ : ∃ t, u.1 60 11 = t := ⟨_, rfl⟩
  obtain ⟨t4, Tt4⟩ : ∃ t, u.1 60 13 = t := ⟨_, rfl⟩
  obtain ⟨t5, Tt5⟩ : ∃ t, u.1 60 14 = t := ⟨_, rfl⟩
  obtain ⟨t6, Tt6⟩ : ∃ t, u.1 60 15 = t := ⟨_, rfl⟩
  obtain ⟨t7, Tt7⟩ : ∃ t, u.1 60 18 = t := ⟨_, rfl⟩
  obtain ⟨t8, Tt8⟩ : ∃ t, u.1 60 19 = t := ⟨_, rfl⟩
  refine g_aload_n dX7_readHave_0 rfl ?_
  refine g_iconst (v := 0) dX7_readHave_1 (by decide) ?_
  refine g_bipush (v := 7) dX7_readHave_2 (by decide) ?_
  refine cl_X7_129 (c := 60) (As := [.int 0, .int 7]) rfl (c_X7_looked_s (G := G) hs hu  0 7  (d + 1)) rfl (by omega) rfl rfl (Nat.le_of_ble_eq_true rfl) dX7_readHave_4 (fun r9 u10 q11 => ?_)
  obtain ⟨⟨x12, rfl, tx12⟩, mq11⟩ := q11
  obtain ⟨hu10, gu10, ku100⟩ := mq11
  have fu10 : fk [60, 66] [3, 7, 13, 22, 28] u u10 := fk_tr f0 gu10 (by decide) (by decide)
  have rfu10 : rf u10 := rf_mono hrf gu10 ku100 (by decide) (by decide) (by decide) (by decide)
  have T13 : u10.1 60 7 = t1 := (fk_at gu10 (by decide)).trans Tt1
  have T14 : u10.1 60 10 = t2 := (fk_at gu10 (by decide)).trans Tt2
  have T15 : u10.1 60 11 = t3 := (fk_at gu10 (by decide)).trans Tt3
  have T16 : u10.1 60 13 = t4 := (fk_at gu10 (by decide)).trans Tt4
  have T17 : u10.1 60 14 = t5 := (fk_at gu10 (by decide)).trans Tt5
  have T18 : u10.1 60 15 = t6 := (fk_at gu10 (by decide)).trans Tt6
  obtain ⟨t19, Tt19⟩ : ∃ t, u10.1 60 18 = t := ⟨_, rfl⟩
  have Rt19 : 0 ≤ t19 ∧ t19 ≤ 6 := by rw [← Tt19]; exact iv_at hu10 _ _ rfl
  obtain ⟨t20, Tt20⟩ : ∃ t, u10.1 60 19 = t := ⟨_, rfl⟩
  have C21 : u10.1 66 = u.1 66 := (fk_c gu10 (by decide)).trans C66
  have C22 : u10.1 67 = u.1 67 := (fk_c gu10 (by decide)).trans C67
  have C23 : u10.1 68 = u.1 68 := (fk_c gu10 (by decide)).trans C68
  have hN : N ≤ 160 := by rw [← p0.2.1]; exact (iv_at hu 60 13 rfl).2
  have TB : u10.1 60 10 = a.2.2.1 := (fk_at gu10 (by decide)).trans p2
  have HB : hi9 a.2.2.1 (u10.1 60 11) := by rw [fk_at (c := 60) (i := 11) gu10 (by decide)]; exact p3
  have XR : 0 ≤ x12 ∧ x12 ≤ 7 := by grind
  refine g_istore_n dX7_readHave_7 (by decide) ?_
  refine g_aload_n dX7_readHave_8 rfl ?_
  refine f_X7_91 rfl rfl dX7_readHave_9 ?_
  refine g_topi (fun x24 ex24 => ?_)
  have rx24 : 0 ≤ x24 ∧ x24 ≤ 6 := by rw [ex24]; exact iv_at hu10 _ _ rfl
  have qx24 : x24 = t19 := ex24.trans Tt19
  refine g_if_ne (tgt := 68) dX7_readHave_12 (by decide) (fun c25 => ?_) (fun c25 => ?_)
  · have TW : twd a.2.2.1 x12 u10 u10 := Or.inl ⟨by grind, rfl, rfl⟩
    refine g_aload_n dX7_readHave_68 rfl ?_
    refine cl_X7_133 (c := 60) (As := []) rfl (c_X7_next_s (G := G) hs hu10    (d + 1)) rfl (by omega) rfl rfl (Nat.le_of_ble_eq_true rfl) dX7_readHave_69 (fun r26 u27 q28 => ?_)
    obtain ⟨rfl, mq28⟩ := q28
    obtain ⟨hu27, gu27, ku270, ku271, ku272, ku273, ku274, ku275⟩ := mq28
    have fu27 : fk [60, 66] [3, 7, 13, 22, 28] u u27 := fk_tr fu10 gu27 (by decide) (by decide)
    have rfu27 : rf u27 := rf_mono rfu10 gu27 ku270 (by decide) (by decide) (by decide) (by decide)
    have T29 : u27.1 60 7 = t1 := (fk_at gu27 (by decide)).trans T13
    have T30 : u27.1 60 10 = t2 := (fk_at gu27 (by decide)).trans T14
    have T31 : u27.1 60 11 = t3 := (fk_at gu27 (by decide)).trans T15
    have T32 : u27.1 60 13 = t4 := (fk_at gu27 (by decide)).trans T16
    obtain ⟨t33, Tt33⟩ : ∃ t, u27.1 60 14 = t := ⟨_, rfl⟩
    have Rt33 : 0 ≤ t33 ∧ t33 ≤ 160 := by rw [← Tt33]; exact iv_at hu27 _ _ rfl
    obtain ⟨t34, Tt34⟩ : ∃ t, u27.1 60 15 = t := ⟨_, rfl⟩
    have Rt34 : 0 ≤ t34 ∧ t34 ≤ 160 := by rw [← Tt34]; exact iv_at hu27 _ _ rfl
    obtain ⟨t35, Tt35⟩ : ∃ t, u27.1 60 18 = t := ⟨_, rfl⟩
    have Rt35 : 0 ≤ t35 ∧ t35 ≤ 6 := by rw [← Tt35]; exact iv_at hu27 _ _ rfl
    obtain ⟨t36, Tt36⟩ : ∃ t, u27.1 60 19 = t := ⟨_, rfl⟩
    have C37 : u27.1 66 = u.1 66 := (fk_c gu27 (by decide)).trans C21
    have C38 : u27.1 67 = u.1 67 := (fk_c gu27 (by decide)).trans C22
    have C39 : u27.1 68 = u.1 68 := (fk_c gu27 (by decide)).trans C23
    have SX := Sr_twice hN p0 tx12.2 TW ⟨ku274, fun q => ⟨(ku275 q).2.2.2.2.1, (ku275 q).2.2.2.2.2⟩⟩ (fk_at gu10 (by decide)) (fk_at gu10 (by decide)) (fk_at gu10 (by decide)) (fk_c gu10 (by decide)) rfl rfl rfl (fk_at gu27 (by decide)) (fk_c gu27 (by decide))
    refine g_aload_n dX7_readHave_72 rfl ?_
    refine g_iconst (v := 0) dX7_readHave_73 (by decide) ?_
    refine g_bipush (v := 40) dX7_readHave_74 (by decide) ?_
    refine cl_X7_136 (c := 60) (As := [.int 0, .int 40]) rfl (c_X7_readNumber_s (G := G) hs hu27  0 40 f N (pTwice (pTake f N a 2 7).1 (pTake f N a 2 7).2 (tk f N a.2.2.2.2).1) SX.1 rfl (d)) rfl (by omega) rfl rfl (Nat.le_of_ble_eq_true rfl) dX7_readHave_76 (fun r40 u41 q42 => ?_)
    obtain ⟨⟨x43, rfl, tx43⟩, mq42⟩ := q42
    obtain ⟨hu41, gu41, ku410, ku411, ku412⟩ := mq42
    have fu41 : fk [60, 66] [3, 7, 13, 22, 28] u u41 := fk_tr fu27 gu41 (by decide) (by decide)
    have rfu41 : rf u41 := rf_mono rfu27 gu41 ku410 (by decide) (by decide) (by decide) (by decide)
    have T44 : u41.1 60 7 = t1 := (fk_at gu41 (by decide)).trans T29
    have T45 : u41.1 60 10 = t2 := (fk_at gu41 (by decide)).trans T30
    have T46 : u41.1 60 11 = t3 := (fk_at gu41 (by decide)).trans T31
    have T47 : u41.1 60 13 = t4 := (fk_at gu41 (by decide)).trans T32
    obtain ⟨t48, Tt48⟩ : ∃ t, u41.1 60 14 = t := ⟨_, rfl⟩
    have Rt48 : 0 ≤ t48 ∧ t48 ≤ 160 := by rw [← Tt48]; exact iv_at hu41 _ _ rfl
    obtain ⟨t49, Tt49⟩ : ∃ t, u41.1 60 15 = t := ⟨_, rfl⟩
    have Rt49 : 0 ≤ t49 ∧ t49 ≤ 160 := by rw [← Tt49]; exact iv_at hu41 _ _ rfl
    obtain ⟨t50, Tt50⟩ : ∃ t, u41.1 60 18 = t := ⟨_, rfl⟩
    have Rt50 : 0 ≤ t50 ∧ t50 ≤ 6 := by rw [← Tt50]; exact iv_at hu41 _ _ rfl
    obtain ⟨t51, Tt51⟩ : ∃ t, u41.1 60 19 = t := ⟨_, rfl⟩
    have C52 : u41.1 66 = u.1 66 := (fk_c gu41 (by decide)).trans C37
    have C53 : u41.1 67 = u.1 67 := (fk_c gu41 (by decide)).trans C38
    have C54 : u41.1 68 = u.1 68 := (fk_c gu41 (by decide)).trans C39
    refine g_istore_n dX7_readHave_79 (by decide) ?_
    refine g_aload_n dX7_readHave_80 rfl ?_
    refine f_X7_26 rfl rfl dX7_readHave_81 ?_
    refine g_iconst (v := 0) dX7_readHave_84 (by decide) ?_
    refine g_iload_n dX7_readHave_85 rfl ?_
    refine g_iadd dX7_readHave_86 ?_
    refine g_topi (fun x55 ex55 => ?_)
    have ox55 : x55 = x12 := by rw [ex55, Int32.zero_add]
    refine g_aload_n dX7_readHave_87 rfl ?_
    refine f_X7_91 rfl rfl dX7_readHave_88 ?_
    refine g_topi (fun x56 ex56 => ?_)
    have rx56 : 0 ≤ x56 ∧ x56 ≤ 6 := by rw [ex56]; exact iv_at hu41 _ _ rfl
    have qx56 : x56 = t50 := ex56.trans Tt50
    refine g_if_ne (tgt := 98) dX7_readHave_91 (by decide) (fun c57 => ?_) (fun c57 => ?_)
    · refine g_aload_n dX7_readHave_98 rfl ?_
      refine f_X7_26 rfl rfl dX7_readHave_99 ?_
      refine g_iconst (v := 0) dX7_readHave_102 (by decide) ?_
      refine g_iload_n dX7_readHave_103 rfl ?_
      refine g_iadd dX7_readHave_104 ?_
      refine g_topi (fun x58 ex58 => ?_)
      have ox58 : x58 = x12 := by rw [ex58, Int32.zero_add]
      have v59 : vp_in x58 51 := uk_vin 51 rfl (by first | decide | lia | grind) (by first | decide | lia | grind)
      refine g_iald rfl rfl v59 dX7_readHave_105 ?_
      refine g_topi (fun x60 ex60 => ?_)
      have bx60 := uk_cl v59
      have rx60 : 0 ≤ x60 ∧ x60 ≤ 40 := by rw [ex60]; exact sg_0 hu41 (by unfold uk_is51; decide) (by first | lia | grind) (by first | lia | grind)
      have px60 : x60 = (u.1 66) (x58 : Int32).toNatClampNeg := ex60.trans (congrFun C52 _)
      have v61 : vp_in x55 51 := uk_vin 51 rfl (by first | decide | lia | grind) (by first | decide | lia | grind)
      have b62 := uk_cl v61
      refine g_iast rfl rfl v61 dX7_readHave_106 ?_
      refine g_mem (fun u63 eu63 => ?_)
      have hu63 : iv u63 := by rw [eu63]; exact iv_st hu41 (by unfold uk_is51; decide) (by first | decide | lia | grind) (by first | decide | lia | grind) (fun q => by first | decide | lia | grind) (fun q => by first | decide | lia | grind) (fun q => by first | decide | lia | grind)
      have fu63 : fk [60, 66] [3, 7, 13, 22, 28] u u63 := by rw [eu63]; exact fk_up fu41 (by decide) (fun q => absurd q (by decide))
      have T64 : u63.1 60 7 = t1 := by rw [eu63]; exact (congrFun (uk_up_oc (by decide)) _).trans T44
      have T65 : u63.1 60 10 = t2 := by rw [eu63]; exact (congrFun (uk_up_oc (by decide)) _).trans T45
      have T66 : u63.1 60 11 = t3 := by rw [eu63]; exact (congrFun (uk_up_oc (by decide)) _).trans T46
      have T67 : u63.1 60 13 = t4 := by rw [eu63]; exact (congrFun (uk_up_oc (by decide)) _).trans T47
      have T68 : u63.1 60 14 = t48 := by rw [eu63]; exact (congrFun (uk_up_oc (by decide)) _).trans Tt48
      have T69 : u63.1 60 15 = t49 := by rw [eu63]; exact (congrFun (uk_up_oc (by decide)) _).trans Tt49
      have T70 : u63.1 60 18 = t50 := by rw [eu63]; exact (congrFun (uk_up_oc (by decide)) _).trans Tt50
      have T71 : u63.1 60 19 = t51 := by rw [eu63]; exact (congrFun (uk_up_oc (by decide)) _).trans Tt51
      have C72 : u63.1 66 = (upd (u.1 66) (x55 : Int32).toNatClampNeg x60) := by rw [eu63, uk_up_self, C52]
      have C73 : u63.1 67 = u.1 67 := by rw [eu63]; exact (uk_up_oc (by decide)).trans C53
      have C74 : u63.1 68 = u.1 68 := by rw [eu63]; exact (uk_up_oc (by decide)).trans C54
      exact g_vret dX7_readHave_107 rfl ⟨rfl, hu63, fu63, (fun hf => by
    rw [T70] at hf
    have hrd := hrf (by grind)
    unfold rd at hrd ⊢
    rw [show u.1 60 7 = t1 by grind] at hrd
    rw [T64, C72, C73, C74]
    exact rk_up hrd (by grind) (by decide) (by grind)), (by first | rfl | (rw [T70]; grind) | rw [T70]), (by first | rfl | (rw [T70, T69, T68]; grind) | rw [T70, T69, T68]), (show Sr f N u63 _ by rw [eu63]; exact Sr_u ku412 (by decide) (fun q => absurd q (by decide))), (fun q => by exfalso; grind), (fun q => by exfalso; grind)⟩
    · refine g_iload_n dX7_readHave_94 rfl ?_
      refine g_goto (tgt := 106) dX7_readHave_95 (by decide) ?_
      have v75 : vp_in x55 51 := uk_vin 51 rfl (by first | decide | lia | grind) (by first | decide | lia | grind)
      have b76 := uk_cl v75
      refine g_iast rfl rfl v75 dX7_readHave_106 ?_
      refine g_mem (fun u77 eu77 => ?_)
      have hu77 : iv u77 := by rw [eu77]; exact iv_st hu41 (by unfold uk_is51; decide) (by first | decide | lia | grind) (by first | decide | lia | grind) (fun q => by first | decide | lia | grind) (fun q => by first | decide | lia | grind) (fun q => by first | decide | lia | grind)
      have fu77 : fk [60, 66] [3, 7, 13, 22, 28] u u77 := by rw [eu77]; exact fk_up fu41 (by decide) (fun q => absurd q (by decide))
      have T78 : u77.1 60 7 = t1 := by rw [eu77]; exact (congrFun (uk_up_oc (by decide)) _).trans T44
      have T79 : u77.1 60 10 = t2 := by rw [eu77]; exact (congrFun (uk_up_oc (by decide)) _).trans T45
      have T80 : u77.1 60 11 = t3 := by rw [eu77]; exact (congrFun (uk_up_oc (by decide)) _).trans T46
      have T81 : u77.1 60 13 = t4 := by rw [eu77]; exact (congrFun (uk_up_oc (by decide)) _).trans T47
      have T82 : u77.1 60 14 = t48 := by rw [eu77]; exact (congrFun (uk_up_oc (by decide)) _).trans Tt48
      have T83 : u77.1 60 15 = t49 := by rw [eu77]; exact (congrFun (uk_up_oc (by decide)) _).trans Tt49
      have T84 : u77.1 60 18 = t50 := by rw [eu77]; exact (congrFun (uk_up_oc (by decide)) _).trans Tt50
      have T85 : u77.1 60 19 = t51 := by rw [eu77]; exact (congrFun (uk_up_oc (by decide)) _).trans Tt51
      have C86 : u77.1 66 = (upd (u.1 66) (x55 : Int32).toNatClampNeg x43) := by rw [eu77, uk_up_self, C52]
      have C87 : u77.1 67 = u.1 67 := by rw [eu77]; exact (uk_up_oc (by decide)).trans C53
      have C88 : u77.1 68 = u.1 68 := by rw [eu77]; exact (uk_up_oc (by decide)).trans C54
      exact g_vret dX7_readHave_107 rfl ⟨rfl, hu77, fu77, (fun hf => by
    rw [T84] at hf
    have hrd := hrf (by grind)
    unfold rd at hrd ⊢
    rw [show u.1 60 7 = t1 by grind] at hrd
    rw [T78, C86, C87, C88]
    exact rk_up hrd (by grind) (by decide) (by grind)), (by first | rfl | (rw [T84]; grind) | rw [T84]), (by first | rfl | (rw [T84, T83, T82]; grind) | rw [T84, T83, T82]), (show Sr f N u77 _ by rw [eu77]; exact Sr_u ku412 (by decide) (fun q => absurd q (by decide))), (fun q => by exfalso; grind), (fun _ => Rw_have p4 (by rw [T78]; grind) C86 C87 C88 (by grind) (by grind) (by grind) SX.2 tx43.2)⟩
  · refine g_aload_n dX7_readHave_15 rfl ?_
    refine g_aload_n dX7_readHave_16 rfl ?_
    refine f_X7_73 rfl rfl dX7_readHave_17 ?_
    refine g_topi (fun x89 ex89 => ?_)
    have qx89 : x89 = t2 := ex89.trans T14
    refine g_iload_n dX7_readHave_20 rfl ?_
    refine g_ishr dX7_readHave_21 (fun x90 ex90 => ?_)
    refine g_iconst (v := 1) dX7_readHave_22 (by decide) ?_
    refine g_iand dX7_readHave_23 ?_
    refine g_topi (fun x91 ex91 => ?_)
    have yx91 : (a.2.2.1 >>> x12) &&& 1 = x91 := by rw [ex91, ex90, m31 XR.1 (by grind), ex89, TB]
    have ax91 := and1 ex91
    refine g_if_ne (tgt := 31) dX7_readHave_24 (by decide) (fun c92 => ?_) (fun c92 => ?_)
    · refine g_iconst (v := 0) dX7_readHave_31 (by decide) ?_
      refine g_iconst (v := 4) dX7_readHave_32 (by decide) ?_
      refine cl_X7_125 (c := 60) (As := [.int 0, .int 4]) rfl (c_X7_needs_s (G := G) hs hu10  0 4 (by first | trivial | decide | lia | grind) (by first | trivial | decide | lia | grind) (d + 2)) rfl (by omega) rfl rfl (Nat.le_of_ble_eq_true rfl) dX7_readHave_33 (fun r93 u94 q95 => ?_)
      obtain ⟨rfl, mq95⟩ := q95
      obtain ⟨hu94, gu94, ku940, ku941, ku942⟩ := mq95
      have fu94 : fk [60, 66] [3, 7, 13, 22, 28] u u94 := fk_tr fu10 gu94 (by decide) (by decide)
      have rfu94 : rf u94 := rf_mono rfu10 gu94 (fun q => (ku940 q).1) (by decide) (by decide) (by decide) (by decide)
      have T96 : u94.1 60 7 = t1 := (fk_at gu94 (by decide)).trans T13
      have T97 : u94.1 60 10 = t2 := (fk_at gu94 (by decide)).trans T14
      have T98 : u94.1 60 11 = t3 := (fk_at gu94 (by decide)).trans T15
      have T99 : u94.1 60 13 = t4 := (fk_at gu94 (by decide)).trans T16
      have T100 : u94.1 60 14 = t5 := (fk_at gu94 (by decide)).trans T17
      have T101 : u94.1 60 15 = t6 := (fk_at gu94 (by decide)).trans T18
      obtain ⟨t102, Tt102⟩ : ∃ t, u94.1 60 18 = t := ⟨_, rfl⟩
      have Rt102 : 0 ≤ t102 ∧ t102 ≤ 6 := by rw [← Tt102]; exact iv_at hu94 _ _ rfl
      obtain ⟨t103, Tt103⟩ : ∃ t, u94.1 60 19 = t := ⟨_, rfl⟩
      have C104 : u94.1 66 = u.1 66 := (fk_c gu94 (by decide)).trans C21
      have C105 : u94.1 67 = u.1 67 := (fk_c gu94 (by decide)).trans C22
      have C106 : u94.1 68 = u.1 68 := (fk_c gu94 (by decide)).trans C23
      refine g_aload_n dX7_readHave_36 rfl ?_
      refine g_dup dX7_readHave_37 rfl ?_
      refine f_X7_73 rfl rfl dX7_readHave_38 ?_
      refine g_topi (fun x107 ex107 => ?_)
      have qx107 : x107 = t2 := ex107.trans T97
      refine g_iconst (v := 1) dX7_readHave_41 (by decide) ?_
      refine g_iload_n dX7_readHave_42 rfl ?_
      refine g_ishl dX7_readHave_43 (fun x108 ex108 => ?_)
      refine g_ior dX7_readHave_44 ?_
      refine g_topi (fun x109 ex109 => ?_)
      refine p_X7_73 rfl rfl dX7_readHave_45 ?_
      refine g_mem (fun u110 eu110 => ?_)
      have hu110 : iv u110 := by rw [eu110]; exact iv_upF hu94 rfl
      have fu110 : fk [60, 66] [3, 7, 13, 22, 28] u u110 := by rw [eu110]; exact fk_up fu94 (by decide) (fun _ => by decide)
      have rfu110 : rf u110 := by rw [eu110]; exact rf_1 rfu94 (by decide)
      have C111 : u110.1 66 = u.1 66 := by rw [eu110]; exact (uk_up_oc (by decide)).trans C104
      have C112 : u110.1 67 = u.1 67 := by rw [eu110]; exact (uk_up_oc (by decide)).trans C105
      have C113 : u110.1 68 = u.1 68 := by rw [eu110]; exact (uk_up_oc (by decide)).trans C106
      have s114 : u110.1 60 10 = x109 := by rw [eu110, uk_up_at]; exact if_pos ⟨rfl, rfl⟩
      have T115 : u110.1 60 7 = t1 := by rw [eu110, uk_up_at, if_neg (by decide)]; exact T96
      have T116 : u110.1 60 11 = t3 := by rw [eu110, uk_up_at, if_neg (by decide)]; exact T98
      have T117 : u110.1 60 13 = t4 := by rw [eu110, uk_up_at, if_neg (by decide)]; exact T99
      have T118 : u110.1 60 14 = t5 := by rw [eu110, uk_up_at, if_neg (by decide)]; exact T100
      have T119 : u110.1 60 15 = t6 := by rw [eu110, uk_up_at, if_neg (by decide)]; exact T101
      have T120 : u110.1 60 18 = t102 := by rw [eu110, uk_up_at, if_neg (by decide)]; exact Tt102
      have T121 : u110.1 60 19 = t103 := by rw [eu110, uk_up_at, if_neg (by decide)]; exact Tt103
      refine g_aload_n dX7_readHave_48 rfl ?_
      refine g_iload_n dX7_readHave_49 rfl ?_
      refine g_aload_n dX7_readHave_50 rfl ?_
      refine f_X7_76 rfl rfl dX7_readHave_51 ?_
      refine g_topi (fun x122 ex122 => ?_)
      have qx122 : x122 = t3 := ex122.trans T116
      refine g_icmp_le (tgt := 61) dX7_readHave_54 (by decide) (fun c123 => ?_) (fun c123 => ?_)
      · refine g_aload_n dX7_readHave_61 rfl ?_
        refine f_X7_76 rfl rfl dX7_readHave_62 ?_
        refine g_topi (fun x124 ex124 => ?_)
        have qx124 : x124 = t3 := ex124.trans T116
        refine p_X7_76 rfl rfl dX7_readHave_65 ?_
        refine g_mem (fun u125 eu125 => ?_)
        have hu125 : iv u125 := by rw [eu125]; exact iv_upF hu110 rfl
        have fu125 : fk [60, 66] [3, 7, 13, 22, 28] u u125 := by rw [eu125]; exact fk_up fu110 (by decide) (fun _ => by decide)
        have rfu125 : rf u125 := by rw [eu125]; exact rf_1 rfu110 (by decide)
        have C126 : u125.1 66 = u.1 66 := by rw [eu125]; exact (uk_up_oc (by decide)).trans C111
        have C127 : u125.1 67 = u.1 67 := by rw [eu125]; exact (uk_up_oc (by decide)).trans C112
        have C128 : u125.1 68 = u.1 68 := by rw [eu125]; exact (uk_up_oc (by decide)).trans C113
        have s129 : u125.1 60 11 = x124 := by rw [eu125, uk_up_at]; exact if_pos ⟨rfl, rfl⟩
        have T130 : u125.1 60 7 = t1 := by rw [eu125, uk_up_at, if_neg (by decide)]; exact T115
        have T131 : u125.1 60 10 = x109 := by rw [eu125, uk_up_at, if_neg (by decide)]; exact s114
        have T132 : u125.1 60 13 = t4 := by rw [eu125, uk_up_at, if_neg (by decide)]; exact T117
        have T133 : u125.1 60 14 = t5 := by rw [eu125, uk_up_at, if_neg (by decide)]; exact T118
        have T134 : u125.1 60 15 = t6 := by rw [eu125, uk_up_at, if_neg (by decide)]; exact T119
        have T135 : u125.1 60 18 = t102 := by rw [eu125, uk_up_at, if_neg (by decide)]; exact T120
        have T136 : u125.1 60 19 = t103 := by rw [eu125, uk_up_at, if_neg (by decide)]; exact T121
        have TW : twd a.2.2.1 x12 u10 u125 := Or.inr (Or.inl ⟨by grind, by rw [yx91]; grind, by rw [T135]; grind, by rw [T136]; grind⟩)
        have TD : u125.1 60 10 = a.2.2.1 ||| ((1 : Int32) <<< x12) := by rw [T131, ex109, ex108, m31 XR.1 (by grind), show x107 = a.2.2.1 by grind]
        have TH : hi9 (a.2.2.1 ||| ((1 : Int32) <<< x12)) (u125.1 60 11) := hi9_up HB XR.1 XR.2 (fun q => by first | (rw [s129]; done) | (rw [s129]; grind)) (fun q => by first | (rw [s129]; done) | (rw [s129]; grind))
        have M69 : u125.1 69 = u10.1 69 := by rw [eu125, uk_up_oc (by decide), eu110, uk_up_oc (by decide)]; exact fk_c gu94 (by decide)
        have M14 : u125.1 60 14 = u10.1 60 14 := by rw [T133]; grind
        have M13 : u125.1 60 13 = u10.1 60 13 := by rw [T132]; grind
        refine g_aload_n dX7_readHave_68 rfl ?_
        refine cl_X7_133 (c := 60) (As := []) rfl (c_X7_next_s (G := G) hs hu125    (d + 1)) rfl (by omega) rfl rfl (Nat.le_of_ble_eq_true rfl) dX7_readHave_69 (fun r137 u138 q139 => ?_)
        obtain ⟨rfl, mq139⟩ := q139
        obtain ⟨hu138, gu138, ku1380, ku1381, ku1382, ku1383, ku1384, ku1385⟩ := mq139
        have fu138 : fk [60, 66] [3, 7, 13, 22, 28] u u138 := fk_tr fu125 gu138 (by decide) (by decide)
        have rfu138 : rf u138 := rf_mono rfu125 gu138 ku1380 (by decide) (by decide) (by decide) (by decide)
        have T140 : u138.1 60 7 = t1 := (fk_at gu138 (by decide)).trans T130
        have T141 : u138.1 60 10 = x109 := (fk_at gu138 (by decide)).trans T131
        have T142 : u138.1 60 11 = x124 := (fk_at gu138 (by decide)).trans s129
        have T143 : u138.1 60 13 = t4 := (fk_at gu138 (by decide)).trans T132
        obtain ⟨t144, Tt144⟩ : ∃ t, u138.1 60 14 = t := ⟨_, rfl⟩
        have Rt144 : 0 ≤ t144 ∧ t144 ≤ 160 := by rw [← Tt144]; exact iv_at hu138 _ _ rfl
        obtain ⟨t145, Tt145⟩ : ∃ t, u138.1 60 15 = t := ⟨_, rfl⟩
        have Rt145 : 0 ≤ t145 ∧ t145 ≤ 160 := by rw [← Tt145]; exact iv_at hu138 _ _ rfl
        obtain ⟨t146, Tt146⟩ : ∃ t, u138.1 60 18 = t := ⟨_, rfl⟩
        have Rt146 : 0 ≤ t146 ∧ t146 ≤ 6 := by rw [← Tt146]; exact iv_at hu138 _ _ rfl
        obtain ⟨t147, Tt147⟩ : ∃ t, u138.1 60 19 = t := ⟨_, rfl⟩
        have C148 : u138.1 66 = u.1 66 := (fk_c gu138 (by decide)).trans C126
        have C149 : u138.1 67 = u.1 67 := (fk_c gu138 (by decide)).trans C127
        have C150 : u138.1 68 = u.1 68 := (fk_c gu138 (by decide)).trans C128
        have s151 : u138.1 60 10 = x109 := (fk_at gu138 (by decide)).trans (by simp [eu125, uk_up_at, s114] : u125.1 60 10 = x109)
        have s152 : u138.1 60 11 = x124 := (fk_at gu138 (by decide)).trans s129
        have SX := Sr_twice hN p0 tx12.2 TW ⟨ku1384, fun q => ⟨(ku1385 q).2.2.2.2.1, (ku1385 q).2.2.2.2.2⟩⟩ (fk_at gu10 (by decide)) (fk_at gu10 (by decide)) (fk_at gu10 (by decide)) (fk_c gu10 (by decide)) M14 M13 M69 (fk_at gu138 (by decide)) (fk_c gu138 (by decide))
        refine g_aload_n dX7_readHave_72 rfl ?_
        refine g_iconst (v := 0) dX7_readHave_73 (by decide) ?_
        refine g_bipush (v := 40) dX7_readHave_74 (by decide) ?_
        refine cl_X7_136 (c := 60) (As := [.int 0, .int 40]) rfl (c_X7_readNumber_s (G := G) hs hu138  0 40 f N (pTwice (pTake f N a 2 7).1 (pTake f N a 2 7).2 (tk f N a.2.2.2.2).1) SX.1 rfl (d)) rfl (by omega) rfl rfl (Nat.le_of_ble_eq_true rfl) dX7_readHave_76 (fun r153 u154 q155 => ?_)
        obtain ⟨⟨x156, rfl, tx156⟩, mq155⟩ := q155
        obtain ⟨hu154, gu154, ku1540, ku1541, ku1542⟩ := mq155
        have fu154 : fk [60, 66] [3, 7, 13, 22, 28] u u154 := fk_tr fu138 gu154 (by decide) (by decide)
        have rfu154 : rf u154 := rf_mono rfu138 gu154 ku1540 (by decide) (by decide) (by decide) (by decide)
        have T157 : u154.1 60 7 = t1 := (fk_at gu154 (by decide)).trans T140
        have T158 : u154.1 60 10 = x109 := (fk_at gu154 (by decide)).trans T141
        have T159 : u154.1 60 11 = x124 := (fk_at gu154 (by decide)).trans T142
        have T160 : u154.1 60 13 = t4 := (fk_at gu154 (by decide)).trans T143
        obtain ⟨t161, Tt161⟩ : ∃ t, u154.1 60 14 = t := ⟨_, rfl⟩
        have Rt161 : 0 ≤ t161 ∧ t161 ≤ 160 := by rw [← Tt161]; exact iv_at hu154 _ _ rfl
        obtain ⟨t162, Tt162⟩ : ∃ t, u154.1 60 15 = t := ⟨_, rfl⟩
        have Rt162 : 0 ≤ t162 ∧ t162 ≤ 160 := by rw [← Tt162]; exact iv_at hu154 _ _ rfl
        obtain ⟨t163, Tt163⟩ : ∃ t, u154.1 60 18 = t := ⟨_, rfl⟩
        have Rt163 : 0 ≤ t163 ∧ t163 ≤ 6 := by rw [← Tt163]; exact iv_at hu154 _ _ rfl
        obtain ⟨t164, Tt164⟩ : ∃ t, u154.1 60 19 = t := ⟨_, rfl⟩
        have C165 : u154.1 66 = u.1 66 := (fk_c gu154 (by decide)).trans C148
        have C166 : u154.1 67 = u.1 67 := (fk_c gu154 (by decide)).trans C149
        have C167 : u154.1 68 = u.1 68 := (fk_c gu154 (by decide)).trans C150
        have s168 : u154.1 60 10 = x109 := (fk_at gu154 (by decide)).trans s151
        have s169 : u154.1 60 11 = x124 := (fk_at gu154 (by decide)).trans s152
        refine g_istore_n dX7_readHave_79 (by decide) ?_
        refine g_aload_n dX7_readHave_80 rfl ?_
        refine f_X7_26 rfl rfl dX7_readHave_81 ?_
        refine g_iconst (v := 0) dX7_readHave_84 (by decide) ?_
        refine g_iload_n dX7_readHave_85 rfl ?_
        refine g_iadd dX7_readHave_86 ?_
        refine g_topi (fun x170 ex170 => ?_)
        have ox170 : x170 = x12 := by rw [ex170, Int32.zero_add]
        refine g_aload_n dX7_readHave_87 rfl ?_
        refine f_X7_91 rfl rfl dX7_readHave_88 ?_
        refine g_topi (fun x171 ex171 => ?_)
        have rx171 : 0 ≤ x171 ∧ x171 ≤ 6 := by rw [ex171]; exact iv_at hu154 _ _ rfl
        have qx171 : x171 = t163 := ex171.trans Tt163
        refine g_if_ne (tgt := 98) dX7_readHave_91 (by decide) (fun c172 => ?_) (fun c172 => ?_)
        · refine g_aload_n dX7_readHave_98 rfl ?_
          refine f_X7_26 rfl rfl dX7_readHave_99 ?_
          refine g_iconst (v := 0) dX7_readHave_102 (by decide) ?_
          refine g_iload_n dX7_readHave_103 rfl ?_
          refine g_iadd dX7_readHave_104 ?_
          refine g_topi (fun x173 ex173 => ?_)
          have ox173 : x173 = x12 := by rw [ex173, Int32.zero_add]
          have v174 : vp_in x173 51 := uk_vin 51 rfl (by first | decide | lia | grind) (by first | decide | lia | grind)
          refine g_iald rfl rfl v174 dX7_readHave_105 ?_
          refine g_topi (fun x175 ex175 => ?_)
          have bx175 := uk_cl v174
          have rx175 : 0 ≤ x175 ∧ x175 ≤ 40 := by rw [ex175]; exact sg_0 hu154 (by unfold uk_is51; decide) (by first | lia | grind) (by first | lia | grind)
          have px175 : x175 = (u.1 66) (x173 : Int32).toNatClampNeg := ex175.trans (congrFun C165 _)
          have v176 : vp_in x170 51 := uk_vin 51 rfl (by first | decide | lia | grind) (by first | decide | lia | grind)
          have b177 := uk_cl v176
          refine g_iast rfl rfl v176 dX7_readHave_106 ?_
          refine g_mem (fun u178 eu178 => ?_)
          have hu178 : iv u178 := by rw [eu178]; exact iv_st hu154 (by unfold uk_is51; decide) (by first | decide | lia | grind) (by first | decide | lia | grind) (fun q => by first | decide | lia | grind) (fun q => by first | decide | lia | grind) (fun q => by first | decide | lia | grind)
          have fu178 : fk [60, 66] [3, 7, 13, 22, 28] u u178 := by rw [eu178]; exact fk_up fu154 (by decide) (fun q => absurd q (by decide))
          have T179 : u178.1 60 7 = t1 := by rw [eu178]; exact (congrFun (uk_up_oc (by decide)) _).trans T157
          have T180 : u178.1 60 10 = x109 := by rw [eu178]; exact (congrFun (uk_up_oc (by decide)) _).trans T158
          have T181 : u178.1 60 11 = x124 := by rw [eu178]; exact (congrFun (uk_up_oc (by decide)) _).trans T159
          have T182 : u178.1 60 13 = t4 := by rw [eu178]; exact (congrFun (uk_up_oc (by decide)) _).trans T160
          have T183 : u178.1 60 14 = t161 := by rw [eu178]; exact (congrFun (uk_up_oc (by decide)) _).trans Tt161
          have T184 : u178.1 60 15 = t162 := by rw [eu178]; exact (congrFun (uk_up_oc (by decide)) _).trans Tt162
          have T185 : u178.1 60 18 = t163 := by rw [eu178]; exact (congrFun (uk_up_oc (by decide)) _).trans Tt163
          have T186 : u178.1 60 19 = t164 := by rw [eu178]; exact (congrFun (uk_up_oc (by decide)) _).trans Tt164
          have C187 : u178.1 66 = (upd (u.1 66) (x170 : Int32).toNatClampNeg x175) := by rw [eu178, uk_up_self, C165]
          have C188 : u178.1 67 = u.1 67 := by rw [eu178]; exact (uk_up_oc (by decide)).trans C166
          have C189 : u178.1 68 = u.1 68 := by rw [eu178]; exact (uk_up_oc (by decide)).trans C167
          exact g_vret dX7_readHave_107 rfl ⟨rfl, hu178, fu178, (fun hf => by
    rw [T185] at hf
    have hrd := hrf (by grind)
    unfold rd at hrd ⊢
    rw [show u.1 60 7 = t1 by grind] at hrd
    rw [T179, C187, C188, C189]
    exact rk_up hrd (by grind) (by decide) (by grind)), (by first | rfl | (rw [T185]; grind) | rw [T185]), (by first | rfl | (rw [T185, T184, T183]; grind) | rw [T185, T184, T183]), (show Sr f N u178 _ by rw [eu178]; exact Sr_u ku1542 (by decide) (fun q => absurd q (by decide))), (fun q => ⟨by rw [T180, ← SX.2]; grind, by rw [T181, ← SX.2]; have := TH; grind⟩), (fun q => by exfalso; grind)⟩
        · refine g_iload_n dX7_readHave_94 rfl ?_
          refine g_goto (tgt := 106) dX7_readHave_95 (by decide) ?_
          have v190 : vp_in x170 51 := uk_vin 51 rfl (by first | decide | lia | grind) (by first | decide | lia | grind)
          have b191 := uk_cl v190
          refine g_iast rfl rfl v190 dX7_readHave_106 ?_
          refine g_mem (fun u192 eu192 => ?_)
          have hu192 : iv u192 := by rw [eu192]; exact iv_st hu154 (by unfold uk_is51; decide) (by first | decide | lia | grind) (by first | decide | lia | grind) (fun q => by first | decide | lia | grind) (fun q => by first | decide | lia | grind) (fun q => by first | decide | lia | grind)
          have fu192 : fk [60, 66] [3, 7, 13, 22, 28] u u192 := by rw [eu192]; exact fk_up fu154 (by decide) (fun q => absurd q (by decide))
          have T193 : u192.1 60 7 = t1 := by rw [eu192]; exact (congrFun (uk_up_oc (by decide)) _).trans T157
          have T194 : u192.1 60 10 = x109 := by rw [eu192]; exact (congrFun (uk_up_oc (by decide)) _).trans T158
          have T195 : u192.1 60 11 = x124 := by rw [eu192]; exact (congrFun (uk_up_oc (by decide)) _).trans T159
          have T196 : u192.1 60 13 = t4 := by rw [eu192]; exact (congrFun (uk_up_oc (by decide)) _).trans T160
          have T197 : u192.1 60 14 = t161 := by rw [eu192]; exact (congrFun (uk_up_oc (by decide)) _).trans Tt161
          have T198 : u192.1 60 15 = t162 := by rw [eu192]; exact (congrFun (uk_up_oc (by decide)) _).trans Tt162
          have T199 : u192.1 60 18 = t163 := by rw [eu192]; exact (congrFun (uk_up_oc (by decide)) _).trans Tt163
          have T200 : u192.1 60 19 = t164 := by rw [eu192]; exact (congrFun (uk_up_oc (by decide)) _).trans Tt164
          have C201 : u192.1 66 = (upd (u.1 66) (x170 : Int32).toNatClampNeg x156) := by rw [eu192, uk_up_self, C165]
          have C202 : u192.1 67 = u.1 67 := by rw [eu192]; exact (uk_up_oc (by decide)).trans C166
          have C203 : u192.1 68 = u.1 68 := by rw [eu192]; exact (uk_up_oc (by decide)).trans C167
          exact g_vret dX7_readHave_107 rfl ⟨rfl, hu192, fu192, (fun hf => by
    rw [T199] at hf
    have hrd := hrf (by grind)
    unfold rd at hrd ⊢
    rw [show u.1 60 7 = t1 by grind] at hrd
    rw [T193, C201, C202, C203]
    exact rk_up hrd (by grind) (by decide) (by grind)), (by first | rfl | (rw [T199]; grind) | rw [T199]), (by first | rfl | (rw [T199, T198, T197]; grind) | rw [T199, T198, T197]), (show Sr f N u192 _ by rw [eu192]; exact Sr_u ku1542 (by decide) (fun q => absurd q (by decide))), (fun q => ⟨by rw [T194, ← SX.2]; grind, by rw [T195, ← SX.2]; have := TH; grind⟩), (fun _ => Rw_have p4 (by rw [T193]; grind) C201 C202 C203 (by grind) (by grind) (by grind) SX.2 tx156.2)⟩
      · refine g_iload_n dX7_readHave_57 rfl ?_
        refine g_goto (tgt := 65) dX7_readHave_58 (by decide) ?_
        refine p_X7_76 rfl rfl dX7_readHave_65 ?_
        refine g_mem (fun u204 eu204 => ?_)
        have hu204 : iv u204 := by rw [eu204]; exact iv_upF hu110 rfl
        have fu204 : fk [60, 66] [3, 7, 13, 22, 28] u u204 := by rw [eu204]; exact fk_up fu110 (by decide) (fun _ => by decide)
        have rfu204 : rf u204 := by rw [eu204]; exact rf_1 rfu110 (by decide)
        have C205 : u204.1 66 = u.1 66 := by rw [eu204]; exact (uk_up_oc (by decide)).trans C111
        have C206 : u204.1 67 = u.1 67 := by rw [eu204]; exact (uk_up_oc (by decide)).trans C112
        have C207 : u204.1 68 = u.1 68 := by rw [eu204]; exact (uk_up_oc (by decide)).trans C113
        have s208 : u204.1 60 11 = x12 := by rw [eu204, uk_up_at]; exact if_pos ⟨rfl, rfl⟩
        have T209 : u204.1 60 7 = t1 := by rw [eu204, uk_up_at, if_neg (by decide)]; exact T115
        have T210 : u204.1 60 10 = x109 := by rw [eu204, uk_up_at, if_neg (by decide)]; exact s114
        have T211 : u204.1 60 13 = t4 := by rw [eu204, uk_up_at, if_neg (by decide)]; exact T117
        have T212 : u204.1 60 14 = t5 := by rw [eu204, uk_up_at, if_neg (by decide)]; exact T118
        have T213 : u204.1 60 15 = t6 := by rw [eu204, uk_up_at, if_neg (by decide)]; exact T119
        have T214 : u204.1 60 18 = t102 := by rw [eu204, uk_up_at, if_neg (by decide)]; exact T120
        have T215 : u204.1 60 19 = t103 := by rw [eu204, uk_up_at, if_neg (by decide)]; exact T121
        have TW : twd a.2.2.1 x12 u10 u204 := Or.inr (Or.inl ⟨by grind, by rw [yx91]; grind, by rw [T214]; grind, by rw [T215]; grind⟩)
        have TD : u204.1 60 10 = a.2.2.1 ||| ((1 : Int32) <<< x12) := by rw [T210, ex109, ex108, m31 XR.1 (by grind), show x107 = a.2.2.1 by grind]
        have TH : hi9 (a.2.2.1 ||| ((1 : Int32) <<< x12)) (u204.1 60 11) := hi9_up HB XR.1 XR.2 (fun q => by first | (rw [s208]; done) | (rw [s208]; grind)) (fun q => by first | (rw [s208]; done) | (rw [s208]; grind))
        have M69 : u204.1 69 = u10.1 69 := by rw [eu204, uk_up_oc (by decide), eu110, uk_up_oc (by decide)]; exact fk_c gu94 (by decide)
        have M14 : u204.1 60 14 = u10.1 60 14 := by rw [T212]; grind
        have M13 : u204.1 60 13 = u10.1 60 13 := by rw [T211]; grind
        refine g_aload_n dX7_readHave_68 rfl ?_
        refine cl_X7_133 (c := 60) (As := []) rfl (c_X7_next_s (G := G) hs hu204    (d + 1)) rfl (by omega) rfl rfl (Nat.le_of_ble_eq_true rfl) dX7_readHave_69 (fun r216 u217 q218 => ?_)
        obtain ⟨rfl, mq218⟩ := q218
        obtain ⟨hu217, gu217, ku2170, ku2171, ku2172, ku2173, ku2174, ku2175⟩ := mq218
        have fu217 : fk [60, 66] [3, 7, 13, 22, 28] u u217 := fk_tr fu204 gu217 (by decide) (by decide)
        have rfu217 : rf u217 := rf_mono rfu204 gu217 ku2170 (by decide) (by decide) (by decide) (by decide)
        have T219 : u217.1 60 7 = t1 := (fk_at gu217 (by decide)).trans T209
        have T220 : u217.1 60 10 = x109 := (fk_at gu217 (by decide)).trans T210
        have T221 : u217.1 60 11 = x12 := (fk_at gu217 (by decide)).trans s208
        have T222 : u217.1 60 13 = t4 := (fk_at gu217 (by decide)).trans T211
        obtain ⟨t223, Tt223⟩ : ∃ t, u217.1 60 14 = t := ⟨_, rfl⟩
        have Rt223 : 0 ≤ t223 ∧ t223 ≤ 160 := by rw [← Tt223]; exact iv_at hu217 _ _ rfl
        obtain ⟨t224, Tt224⟩ : ∃ t, u217.1 60 15 = t := ⟨_, rfl⟩
        have Rt224 : 0 ≤ t224 ∧ t224 ≤ 160 := by rw [← Tt224]; exact iv_at hu217 _ _ rfl
        obtain ⟨t225, Tt225⟩ : ∃ t, u217.1 60 18 = t := ⟨_, rfl⟩
        have Rt225 : 0 ≤ t225 ∧ t225 ≤ 6 := by rw [← Tt225]; exact iv_at hu217 _ _ rfl
        obtain ⟨t226, Tt226⟩ : ∃ t, u217.1 60 19 = t := ⟨_, rfl⟩
        have C227 : u217.1 66 = u.1 66 := (fk_c gu217 (by decide)).trans C205
        have C228 : u217.1 67 = u.1 67 := (fk_c gu217 (by decide)).trans C206
        have C229 : u217.1 68 = u.1 68 := (fk_c gu217 (by decide)).trans C207
        have s230 : u217.1 60 10 = x109 := (fk_at gu217 (by decide)).trans (by simp [eu204, uk_up_at, s114] : u204.1 60 10 = x109)
        have s231 : u217.1 60 11 = x12 := (fk_at gu217 (by decide)).trans s208
        have SX := Sr_twice hN p0 tx12.2 TW ⟨ku2174, fun q => ⟨(ku2175 q).2.2.2.2.1, (ku2175 q).2.2.2.2.2⟩⟩ (fk_at gu10 (by decide)) (fk_at gu10 (by decide)) (fk_at gu10 (by decide)) (fk_c gu10 (by decide)) M14 M13 M69 (fk_at gu217 (by decide)) (fk_c gu217 (by decide))
        refine g_aload_n dX7_readHave_72 rfl ?_
        refine g_iconst (v := 0) dX7_readHave_73 (by decide) ?_
        refine g_bipush (v := 40) dX7_readHave_74 (by decide) ?_
        refine cl_X7_136 (c := 60) (As := [.int 0, .int 40]) rfl (c_X7_readNumber_s (G := G) hs hu217  0 40 f N (pTwice (pTake f N a 2 7).1 (pTake f N a 2 7).2 (tk f N a.2.2.2.2).1) SX.1 rfl (d)) rfl (by omega) rfl rfl (Nat.le_of_ble_eq_true rfl) dX7_readHave_76 (fun r232 u233 q234 => ?_)
        obtain ⟨⟨x235, rfl, tx235⟩, mq234⟩ := q234
        obtain ⟨hu233, gu233, ku2330, ku2331, ku2332⟩ := mq234
        have fu233 : fk [60, 66] [3, 7, 13, 22, 28] u u233 := fk_tr fu217 gu233 (by decide) (by decide)
        have rfu233 : rf u233 := rf_mono rfu217 gu233 ku2330 (by decide) (by decide) (by decide) (by decide)
        have T236 : u233.1 60 7 = t1 := (fk_at gu233 (by decide)).trans T219
        have T237 : u233.1 60 10 = x109 := (fk_at gu233 (by decide)).trans T220
        have T238 : u233.1 60 11 = x12 := (fk_at gu233 (by decide)).trans T221
        have T239 : u233.1 60 13 = t4 := (fk_at gu233 (by decide)).trans T222
        obtain ⟨t240, Tt240⟩ : ∃ t, u233.1 60 14 = t := ⟨_, rfl⟩
        have Rt240 : 0 ≤ t240 ∧ t240 ≤ 160 := by rw [← Tt240]; exact iv_at hu233 _ _ rfl
        obtain ⟨t241, Tt241⟩ : ∃ t, u233.1 60 15 = t := ⟨_, rfl⟩
        have Rt241 : 0 ≤ t241 ∧ t241 ≤ 160 := by rw [← Tt241]; exact iv_at hu233 _ _ rfl
        obtain ⟨t242, Tt242⟩ : ∃ t, u233.1 60 18 = t := ⟨_, rfl⟩
        have Rt242 : 0 ≤ t242 ∧ t242 ≤ 6 := by rw [← Tt242]; exact iv_at hu233 _ _ rfl
        obtain ⟨t243, Tt243⟩ : ∃ t, u233.1 60 19 = t := ⟨_, rfl⟩
        have C244 : u233.1 66 = u.1 66 := (fk_c gu233 (by decide)).trans C227
        have C245 : u233.1 67 = u.1 67 := (fk_c gu233 (by decide)).trans C228
        have C246 : u233.1 68 = u.1 68 := (fk_c gu233 (by decide)).trans C229
        have s247 : u233.1 60 10 = x109 := (fk_at gu233 (by decide)).trans s230
        have s248 : u233.1 60 11 = x12 := (fk_at gu233 (by decide)).trans s231
        refine g_istore_n dX7_readHave_79 (by decide) ?_
        refine g_aload_n dX7_readHave_80 rfl ?_
        refine f_X7_26 rfl rfl dX7_readHave_81 ?_
        refine g_iconst (v := 0) dX7_readHave_84 (by decide) ?_
        refine g_iload_n dX7_readHave_85 rfl ?_
        refine g_iadd dX7_readHave_86 ?_
        refine g_topi (fun x249 ex249 => ?_)
        have ox249 : x249 = x12 := by rw [ex249, Int32.zero_add]
        refine g_aload_n dX7_readHave_87 rfl ?_
        refine f_X7_91 rfl rfl dX7_readHave_88 ?_
        refine g_topi (fun x250 ex250 => ?_)
        have rx250 : 0 ≤ x250 ∧ x250 ≤ 6 := by rw [ex250]; exact iv_at hu233 _ _ rfl
        have qx250 : x250 = t242 := ex250.trans Tt242
        refine g_if_ne (tgt := 98) dX7_readHave_91 (by decide) (fun c251 => ?_) (fun c251 => ?_)
        · refine g_aload_n dX7_readHave_98 rfl ?_
          refine f_X7_26 rfl rfl dX7_readHave_99 ?_
          refine g_iconst (v := 0) dX7_readHave_102 (by decide) ?_
          refine g_iload_n dX7_readHave_103 rfl ?_
          refine g_iadd dX7_readHave_104 ?_
          refine g_topi (fun x252 ex252 => ?_)
          have ox252 : x252 = x12 := by rw [ex252, Int32.zero_add]
          have v253 : vp_in x252 51 := uk_vin 51 rfl (by first | decide | lia | grind) (by first | decide | lia | grind)
          refine g_iald rfl rfl v253 dX7_readHave_105 ?_
          refine g_topi (fun x254 ex254 => ?_)
          have bx254 := uk_cl v253
          have rx254 : 0 ≤ x254 ∧ x254 ≤ 40 := by rw [ex254]; exact sg_0 hu233 (by unfold uk_is51; decide) (by first | lia | grind) (by first | lia | grind)
          have px254 : x254 = (u.1 66) (x252 : Int32).toNatClampNeg := ex254.trans (congrFun C244 _)
          have v255 : vp_in x249 51 := uk_vin 51 rfl (by first | decide | lia | grind) (by first | decide | lia | grind)
          have b256 := uk_cl v255
          refine g_iast rfl rfl v255 dX7_readHave_106 ?_
          refine g_mem (fun u257 eu257 => ?_)
          have hu257 : iv u257 := by rw [eu257]; exact iv_st hu233 (by unfold uk_is51; decide) (by first | decide | lia | grind) (by first | decide | lia | grind) (fun q => by first | decide | lia | grind) (fun q => by first | decide | lia | grind) (fun q => by first | decide | lia | grind)
          have fu257 : fk [60, 66] [3, 7, 13, 22, 28] u u257 := by rw [eu257]; exact fk_up fu233 (by decide) (fun q => absurd q (by decide))
          have T258 : u257.1 60 7 = t1 := by rw [eu257]; exact (congrFun (uk_up_oc (by decide)) _).trans T236
          have T259 : u257.1 60 10 = x109 := by rw [eu257]; exact (congrFun (uk_up_oc (by decide)) _).trans T237
          have T260 : u257.1 60 11 = x12 := by rw [eu257]; exact (congrFun (uk_up_oc (by decide)) _).trans T238
          have T261 : u257.1 60 13 = t4 := by rw [eu257]; exact (congrFun (uk_up_oc (by decide)) _).trans T239
          have T262 : u257.1 60 14 = t240 := by rw [eu257]; exact (congrFun (uk_up_oc (by decide)) _).trans Tt240
          have T263 : u257.1 60 15 = t241 := by rw [eu257]; exact (congrFun (uk_up_oc (by decide)) _).trans Tt241
          have T264 : u257.1 60 18 = t242 := by rw [eu257]; exact (congrFun (uk_up_oc (by decide)) _).trans Tt242
          have T265 : u257.1 60 19 = t243 := by rw [eu257]; exact (congrFun (uk_up_oc (by decide)) _).trans Tt243
          have C266 : u257.1 66 = (upd (u.1 66) (x249 : Int32).toNatClampNeg x254) := by rw [eu257, uk_up_self, C244]
          have C267 : u257.1 67 = u.1 67 := by rw [eu257]; exact (uk_up_oc (by decide)).trans C245
          have C268 : u257.1 68 = u.1 68 := by rw [eu257]; exact (uk_up_oc (by decide)).trans C246
          exact g_vret dX7_readHave_107 rfl ⟨rfl, hu257, fu257, (fun hf => by
    rw [T264] at hf
    have hrd := hrf (by grind)
    unfold rd at hrd ⊢
    rw [show u.1 60 7 = t1 by grind] at hrd
    rw [T258, C266, C267, C268]
    exact rk_up hrd (by grind) (by decide) (by grind)), (by first | rfl | (rw [T264]; grind) | rw [T264]), (by first | rfl | (rw [T264, T263, T262]; grind) | rw [T264, T263, T262]), (show Sr f N u257 _ by rw [eu257]; exact Sr_u ku2332 (by decide) (fun q => absurd q (by decide))), (fun q => ⟨by rw [T259, ← SX.2]; grind, by rw [T260, ← SX.2]; have := TH; grind⟩), (fun q => by exfalso; grind)⟩
        · refine g_iload_n dX7_readHave_94 rfl ?_
          refine g_goto (tgt := 106) dX7_readHave_95 (by decide) ?_
          have v269 : vp_in x249 51 := uk_vin 51 rfl (by first | decide | lia | grind) (by first | decide | lia | grind)
          have b270 := uk_cl v269
          refine g_iast rfl rfl v269 dX7_readHave_106 ?_
          refine g_mem (fun u271 eu271 => ?_)
          have hu271 : iv u271 := by rw [eu271]; exact iv_st hu233 (by unfold uk_is51; decide) (by first | decide | lia | grind) (by first | decide | lia | grind) (fun q => by first | decide | lia | grind) (fun q => by first | decide | lia | grind) (fun q => by first | decide | lia | grind)
          have fu271 : fk [60, 66] [3, 7, 13, 22, 28] u u271 := by rw [eu271]; exact fk_up fu233 (by decide) (fun q => absurd q (by decide))
          have T272 : u271.1 60 7 = t1 := by rw [eu271]; exact (congrFun (uk_up_oc (by decide)) _).trans T236
          have T273 : u271.1 60 10 = x109 := by rw [eu271]; exact (congrFun (uk_up_oc (by decide)) _).trans T237
          have T274 : u271.1 60 11 = x12 := by rw [eu271]; exact (congrFun (uk_up_oc (by decide)) _).trans T238
          have T275 : u271.1 60 13 = t4 := by rw [eu271]; exact (congrFun (uk_up_oc (by decide)) _).trans T239
          have T276 : u271.1 60 14 = t240 := by rw [eu271]; exact (congrFun (uk_up_oc (by decide)) _).trans Tt240
          have T277 : u271.1 60 15 = t241 := by rw [eu271]; exact (congrFun (uk_up_oc (by decide)) _).trans Tt241
          have T278 : u271.1 60 18 = t242 := by rw [eu271]; exact (congrFun (uk_up_oc (by decide)) _).trans Tt242
          have T279 : u271.1 60 19 = t243 := by rw [eu271]; exact (congrFun (uk_up_oc (by decide)) _).trans Tt243
          have C280 : u271.1 66 = (upd (u.1 66) (x249 : Int32).toNatClampNeg x235) := by rw [eu271, uk_up_self, C244]
          have C281 : u271.1 67 = u.1 67 := by rw [eu271]; exact (uk_up_oc (by decide)).trans C245
          have C282 : u271.1 68 = u.1 68 := by rw [eu271]; exact (uk_up_oc (by decide)).trans C246
          exact g_vret dX7_readHave_107 rfl ⟨rfl, hu271, fu271, (fun hf => by
    rw [T278] at hf
    have hrd := hrf (by grind)
    unfold rd at hrd ⊢
    rw [show u.1 60 7 = t1 by grind] at hrd
    rw [T272, C280, C281, C282]
    exact rk_up hrd (by grind) (by decide) (by grind)), (by first | rfl | (rw [T278]; grind) | rw [T278]), (by first | rfl | (rw [T278, T277, T276]; grind) | rw [T278, T277, T276]), (show Sr f N u271 _ by rw [eu271]; exact Sr_u ku2332 (by decide) (fun q => absurd q (by decide))), (fun q => ⟨by rw [T273, ← SX.2]; grind, by rw [T274, ← SX.2]; have := TH; grind⟩), (fun _ => Rw_have p4 (by rw [T272]; grind) C280 C281 C282 (by grind) (by grind) (by grind) SX.2 tx235.2)⟩
    · refine g_iconst (v := 1) dX7_readHave_27 (by decide) ?_
      refine g_goto (tgt := 32) dX7_readHave_28 (by decide) ?_
      refine g_iconst (v := 4) dX7_readHave_32 (by decide) ?_
      refine cl_X7_125 (c := 60) (As := [.int 1, .int 4]) rfl (c_X7_needs_s (G := G) hs hu10  1 4 (by first | trivial | decide | lia | grind) (by first | trivial | decide | lia | grind) (d + 2)) rfl (by omega) rfl rfl (Nat.le_of_ble_eq_true rfl) dX7_readHave_33 (fun r283 u284 q285 => ?_)
      obtain ⟨rfl, mq285⟩ := q285
      obtain ⟨hu284, gu284, ku2840, ku2841, ku2842⟩ := mq285
      have fu284 : fk [60, 66] [3, 7, 13, 22, 28] u u284 := fk_tr fu10 gu284 (by decide) (by decide)
      have rfu284 : rf u284 := rf_mono rfu10 gu284 (fun q => (ku2840 q).1) (by decide) (by decide) (by decide) (by decide)
      have T286 : u284.1 60 7 = t1 := (fk_at gu284 (by decide)).trans T13
      have T287 : u284.1 60 10 = t2 := (fk_at gu284 (by decide)).trans T14
      have T288 : u284.1 60 11 = t3 := (fk_at gu284 (by decide)).trans T15
      have T289 : u284.1 60 13 = t4 := (fk_at gu284 (by decide)).trans T16
      have T290 : u284.1 60 14 = t5 := (fk_at gu284 (by decide)).trans T17
      have T291 : u284.1 60 15 = t6 := (fk_at gu284 (by decide)).trans T18
      obtain ⟨t292, Tt292⟩ : ∃ t, u284.1 60 18 = t := ⟨_, rfl⟩
      have Rt292 : 0 ≤ t292 ∧ t292 ≤ 6 := by rw [← Tt292]; exact iv_at hu284 _ _ rfl
      obtain ⟨t293, Tt293⟩ : ∃ t, u284.1 60 19 = t := ⟨_, rfl⟩
      have C294 : u284.1 66 = u.1 66 := (fk_c gu284 (by decide)).trans C21
      have C295 : u284.1 67 = u.1 67 := (fk_c gu284 (by decide)).trans C22
      have C296 : u284.1 68 = u.1 68 := (fk_c gu284 (by decide)).trans C23
      refine g_aload_n dX7_readHave_36 rfl ?_
      refine g_dup dX7_readHave_37 rfl ?_
      refine f_X7_73 rfl rfl dX7_readHave_38 ?_
      refine g_topi (fun x297 ex297 => ?_)
      have qx297 : x297 = t2 := ex297.trans T287
      refine g_iconst (v := 1) dX7_readHave_41 (by decide) ?_
      refine g_iload_n dX7_readHave_42 rfl ?_
      refine g_ishl dX7_readHave_43 (fun x298 ex298 => ?_)
      refine g_ior dX7_readHave_44 ?_
      refine g_topi (fun x299 ex299 => ?_)
      refine p_X7_73 rfl rfl dX7_readHave_45 ?_
      refine g_mem (fun u300 eu300 => ?_)
      have hu300 : iv u300 := by rw [eu300]; exact iv_upF hu284 rfl
      have fu300 : fk [60, 66] [3, 7, 13, 22, 28] u u300 := by rw [eu300]; exact fk_up fu284 (by decide) (fun _ => by decide)
      have rfu300 : rf u300 := by rw [eu300]; exact rf_1 rfu284 (by decide)
      have C301 : u300.1 66 = u.1 66 := by rw [eu300]; exact (uk_up_oc (by decide)).trans C294
      have C302 : u300.1 67 = u.1 67 := by rw [eu300]; exact (uk_up_oc (by decide)).trans C295
      have C303 : u300.1 68 = u.1 68 := by rw [eu300]; exact (uk_up_oc (by decide)).trans C296
      have s304 : u300.1 60 10 = x299 := by rw [eu300, uk_up_at]; exact if_pos ⟨rfl, rfl⟩
      have T305 : u300.1 60 7 = t1 := by rw [eu300, uk_up_at, if_neg (by decide)]; exact T286
      have T306 : u300.1 60 11 = t3 := by rw [eu300, uk_up_at, if_neg (by decide)]; exact T288
      have T307 : u300.1 60 13 = t4 := by rw [eu300, uk_up_at, if_neg (by decide)]; exact T289
      have T308 : u300.1 60 14 = t5 := by rw [eu300, uk_up_at, if_neg (by decide)]; exact T290
      have T309 : u300.1 60 15 = t6 := by rw [eu300, uk_up_at, if_neg (by decide)]; exact T291
      have T310 : u300.1 60 18 = t292 := by rw [eu300, uk_up_at, if_neg (by decide)]; exact Tt292
      have T311 : u300.1 60 19 = t293 := by rw [eu300, uk_up_at, if_neg (by decide)]; exact Tt293
      refine g_aload_n dX7_readHave_48 rfl ?_
      refine g_iload_n dX7_readHave_49 rfl ?_
      refine g_aload_n dX7_readHave_50 rfl ?_
      refine f_X7_76 rfl rfl dX7_readHave_51 ?_
      refine g_topi (fun x312 ex312 => ?_)
      have qx312 : x312 = t3 := ex312.trans T306
      refine g_icmp_le (tgt := 61) dX7_readHave_54 (by decide) (fun c313 => ?_) (fun c313 => ?_)
      · refine g_aload_n dX7_readHave_61 rfl ?_
        refine f_X7_76 rfl rfl dX7_readHave_62 ?_
        refine g_topi (fun x314 ex314 => ?_)
        have qx314 : x314 = t3 := ex314.trans T306
        refine p_X7_76 rfl rfl dX7_readHave_65 ?_
        refine g_mem (fun u315 eu315 => ?_)
        have hu315 : iv u315 := by rw [eu315]; exact iv_upF hu300 rfl
        have fu315 : fk [60, 66] [3, 7, 13, 22, 28] u u315 := by rw [eu315]; exact fk_up fu300 (by decide) (fun _ => by decide)
        have rfu315 : rf u315 := by rw [eu315]; exact rf_1 rfu300 (by decide)
        have C316 : u315.1 66 = u.1 66 := by rw [eu315]; exact (uk_up_oc (by decide)).trans C301
        have C317 : u315.1 67 = u.1 67 := by rw [eu315]; exact (uk_up_oc (by decide)).trans C302
        have C318 : u315.1 68 = u.1 68 := by rw [eu315]; exact (uk_up_oc (by decide)).trans C303
        have s319 : u315.1 60 11 = x314 := by rw [eu315, uk_up_at]; exact if_pos ⟨rfl, rfl⟩
        have T320 : u315.1 60 7 = t1 := by rw [eu315, uk_up_at, if_neg (by decide)]; exact T305
        have T321 : u315.1 60 10 = x299 := by rw [eu315, uk_up_at, if_neg (by decide)]; exact s304
        have T322 : u315.1 60 13 = t4 := by rw [eu315, uk_up_at, if_neg (by decide)]; exact T307
        have T323 : u315.1 60 14 = t5 := by rw [eu315, uk_up_at, if_neg (by decide)]; exact T308
        have T324 : u315.1 60 15 = t6 := by rw [eu315, uk_up_at, if_neg (by decide)]; exact T309
        have T325 : u315.1 60 18 = t292 := by rw [eu315, uk_up_at, if_neg (by decide)]; exact T310
        have T326 : u315.1 60 19 = t293 := by rw [eu315, uk_up_at, if_neg (by decide)]; exact T311
        have TW : twd a.2.2.1 x12 u10 u315 := Or.inr (Or.inr ⟨by grind, by rw [yx91]; grind, by rw [T325]; grind⟩)
        have TD : u315.1 60 10 = a.2.2.1 ||| ((1 : Int32) <<< x12) := by rw [T321, ex299, ex298, m31 XR.1 (by grind), show x297 = a.2.2.1 by grind]
        have TH : hi9 (a.2.2.1 ||| ((1 : Int32) <<< x12)) (u315.1 60 11) := hi9_up HB XR.1 XR.2 (fun q => by first | (rw [s319]; done) | (rw [s319]; grind)) (fun q => by first | (rw [s319]; done) | (rw [s319]; grind))
        have M69 : u315.1 69 = u10.1 69 := by rw [eu315, uk_up_oc (by decide), eu300, uk_up_oc (by decide)]; exact fk_c gu284 (by decide)
        have M14 : u315.1 60 14 = u10.1 60 14 := by rw [T323]; grind
        have M13 : u315.1 60 13 = u10.1 60 13 := by rw [T322]; grind
        refine g_aload_n dX7_readHave_68 rfl ?_
        refine cl_X7_133 (c := 60) (As := []) rfl (c_X7_next_s (G := G) hs hu315    (d + 1)) rfl (by omega) rfl rfl (Nat.le_of_ble_eq_true rfl) dX7_readHave_69 (fun r327 u328 q329 => ?_)
        obtain ⟨rfl, mq329⟩ := q329
        obtain ⟨hu328, gu328, ku3280, ku3281, ku3282, ku3283, ku3284, ku3285⟩ := mq329
        have fu328 : fk [60, 66] [3, 7, 13, 22, 28] u u328 := fk_tr fu315 gu328 (by decide) (by decide)
        have rfu328 : rf u328 := rf_mono rfu315 gu328 ku3280 (by decide) (by decide) (by decide) (by decide)
        have T330 : u328.1 60 7 = t1 := (fk_at gu328 (by decide)).trans T320
        have T331 : u328.1 60 10 = x299 := (fk_at gu328 (by decide)).trans T321
        have T332 : u328.1 60 11 = x314 := (fk_at gu328 (by decide)).trans s319
        have T333 : u328.1 60 13 = t4 := (fk_at gu328 (by decide)).trans T322
        obtain ⟨t334, Tt334⟩ : ∃ t, u328.1 60 14 = t := ⟨_, rfl⟩
        have Rt334 : 0 ≤ t334 ∧ t334 ≤ 160 := by rw [← Tt334]; exact iv_at hu328 _ _ rfl
        obtain ⟨t335, Tt335⟩ : ∃ t, u328.1 60 15 = t := ⟨_, rfl⟩
        have Rt335 : 0 ≤ t335 ∧ t335 ≤ 160 := by rw [← Tt335]; exact iv_at hu328 _ _ rfl
        obtain ⟨t336, Tt336⟩ : ∃ t, u328.1 60 18 = t := ⟨_, rfl⟩
        have Rt336 : 0 ≤ t336 ∧ t336 ≤ 6 := by rw [← Tt336]; exact iv_at hu328 _ _ rfl
        obtain ⟨t337, Tt337⟩ : ∃ t, u328.1 60 19 = t := ⟨_, rfl⟩
        have C338 : u328.1 66 = u.1 66 := (fk_c gu328 (by decide)).trans C316
        have C339 : u328.1 67 = u.1 67 := (fk_c gu328 (by decide)).trans C317
        have C340 : u328.1 68 = u.1 68 := (fk_c gu328 (by decide)).trans C318
        have s341 : u328.1 60 10 = x299 := (fk_at gu328 (by decide)).trans (by simp [eu315, uk_up_at, s304] : u315.1 60 10 = x299)
        have s342 : u328.1 60 11 = x314 := (fk_at gu328 (by decide)).trans s319
        have SX := Sr_twice hN p0 tx12.2 TW ⟨ku3284, fun q => ⟨(ku3285 q).2.2.2.2.1, (ku3285 q).2.2.2.2.2⟩⟩ (fk_at gu10 (by decide)) (fk_at gu10 (by decide)) (fk_at gu10 (by decide)) (fk_c gu10 (by decide)) M14 M13 M69 (fk_at gu328 (by decide)) (fk_c gu328 (by decide))
        refine g_aload_n dX7_readHave_72 rfl ?_
        refine g_iconst (v := 0) dX7_readHave_73 (by decide) ?_
        refine g_bipush (v := 40) dX7_readHave_74 (by decide) ?_
        refine cl_X7_136 (c := 60) (As := [.int 0, .int 40]) rfl (c_X7_readNumber_s (G := G) hs hu328  0 40 f N (pTwice (pTake f N a 2 7).1 (pTake f N a 2 7).2 (tk f N a.2.2.2.2).1) SX.1 rfl (d)) rfl (by omega) rfl rfl (Nat.le_of_ble_eq_true rfl) dX7_readHave_76 (fun r343 u344 q345 => ?_)
        obtain ⟨⟨x346, rfl, tx346⟩, mq345⟩ := q345
        obtain ⟨hu344, gu344, ku3440, ku3441, ku3442⟩ := mq345
        have fu344 : fk [60, 66] [3, 7, 13, 22, 28] u u344 := fk_tr fu328 gu344 (by decide) (by decide)
        have rfu344 : rf u344 := rf_mono rfu328 gu344 ku3440 (by decide) (by decide) (by decide) (by decide)
        have T347 : u344.1 60 7 = t1 := (fk_at gu344 (by decide)).trans T330
        have T348 : u344.1 60 10 = x299 := (fk_at gu344 (by decide)).trans T331
        have T349 : u344.1 60 11 = x314 := (fk_at gu344 (by decide)).trans T332
        have T350 : u344.1 60 13 = t4 := (fk_at gu344 (by decide)).trans T333
        obtain ⟨t351, Tt351⟩ : ∃ t, u344.1 60 14 = t := ⟨_, rfl⟩
        have Rt351 : 0 ≤ t351 ∧ t351 ≤ 160 := by rw [← Tt351]; exact iv_at hu344 _ _ rfl
        obtain ⟨t352, Tt352⟩ : ∃ t, u344.1 60 15 = t := ⟨_, rfl⟩
        have Rt352 : 0 ≤ t352 ∧ t352 ≤ 160 := by rw [← Tt352]; exact iv_at hu344 _ _ rfl
        obtain ⟨t353, Tt353⟩ : ∃ t, u344.1 60 18 = t := ⟨_, rfl⟩
        have Rt353 : 0 ≤ t353 ∧ t353 ≤ 6 := by rw [← Tt353]; exact iv_at hu344 _ _ rfl
        obtain ⟨t354, Tt354⟩ : ∃ t, u344.1 60 19 = t := ⟨_, rfl⟩
        have C355 : u344.1 66 = u.1 66 := (fk_c gu344 (by decide)).trans C338
        have C356 : u344.1 67 = u.1 67 := (fk_c gu344 (by decide)).trans C339
        have C357 : u344.1 68 = u.1 68 := (fk_c gu344 (by decide)).trans C340
        have s358 : u344.1 60 10 = x299 := (fk_at gu344 (by decide)).trans s341
        have s359 : u344.1 60 11 = x314 := (fk_at gu344 (by decide)).trans s342
        refine g_istore_n dX7_readHave_79 (by decide) ?_
        refine g_aload_n dX7_readHave_80 rfl ?_
        refine f_X7_26 rfl rfl dX7_readHave_81 ?_
        refine g_iconst (v := 0) dX7_readHave_84 (by decide) ?_
        refine g_iload_n dX7_readHave_85 rfl ?_
        refine g_iadd dX7_readHave_86 ?_
        refine g_topi (fun x360 ex360 => ?_)
        have ox360 : x360 = x12 := by rw [ex360, Int32.zero_add]
        refine g_aload_n dX7_readHave_87 rfl ?_
        refine f_X7_91 rfl rfl dX7_readHave_88 ?_
        refine g_topi (fun x361 ex361 => ?_)
        have rx361 : 0 ≤ x361 ∧ x361 ≤ 6 := by rw [ex361]; exact iv_at hu344 _ _ rfl
        have qx361 : x361 = t353 := ex361.trans Tt353
        refine g_if_ne (tgt := 98) dX7_readHave_91 (by decide) (fun c362 => ?_) (fun c362 => ?_)
        · refine g_aload_n dX7_readHave_98 rfl ?_
          refine f_X7_26 rfl rfl dX7_readHave_99 ?_
          refine g_iconst (v := 0) dX7_readHave_102 (by decide) ?_
          refine g_iload_n dX7_readHave_103 rfl ?_
          refine g_iadd dX7_readHave_104 ?_
          refine g_topi (fun x363 ex363 => ?_)
          have ox363 : x363 = x12 := by rw [ex363, Int32.zero_add]
          have v364 : vp_in x363 51 := uk_vin 51 rfl (by first | decide | lia | grind) (by first | decide | lia | grind)
          refine g_iald rfl rfl v364 dX7_readHave_105 ?_
          refine g_topi (fun x365 ex365 => ?_)
          have bx365 := uk_cl v364
          have rx365 : 0 ≤ x365 ∧ x365 ≤ 40 := by rw [ex365]; exact sg_0 hu344 (by unfold uk_is51; decide) (by first | lia | grind) (by first | lia | grind)
          have px365 : x365 = (u.1 66) (x363 : Int32).toNatClampNeg := ex365.trans (congrFun C355 _)
          have v366 : vp_in x360 51 := uk_vin 51 rfl (by first | decide | lia | grind) (by first | decide | lia | grind)
          have b367 := uk_cl v366
          refine g_iast rfl rfl v366 dX7_readHave_106 ?_
          refine g_mem (fun u368 eu368 => ?_)
          have hu368 : iv u368 := by rw [eu368]; exact iv_st hu344 (by unfold uk_is51; decide) (by first | decide | lia | grind) (by first | decide | lia | grind) (fun q => by first | decide | lia | grind) (fun q => by first | decide | lia | grind) (fun q => by first | decide | lia | grind)
          have fu368 : fk [60, 66] [3, 7, 13, 22, 28] u u368 := by rw [eu368]; exact fk_up fu344 (by decide) (fun q => absurd q (by decide))
          have T369 : u368.1 60 7 = t1 := by rw [eu368]; exact (congrFun (uk_up_oc (by decide)) _).trans T347
          have T370 : u368.1 60 10 = x299 := by rw [eu368]; exact (congrFun (uk_up_oc (by decide)) _).trans T348
          have T371 : u368.1 60 11 = x314 := by rw [eu368]; exact (congrFun (uk_up_oc (by decide)) _).trans T349
          have T372 : u368.1 60 13 = t4 := by rw [eu368]; exact (congrFun (uk_up_oc (by decide)) _).trans T350
          have T373 : u368.1 60 14 = t351 := by rw [eu368]; exact (congrFun (uk_up_oc (by decide)) _).trans Tt351
          have T374 : u368.1 60 15 = t352 := by rw [eu368]; exact (congrFun (uk_up_oc (by decide)) _).trans Tt352
          have T375 : u368.1 60 18 = t353 := by rw [eu368]; exact (congrFun (uk_up_oc (by decide)) _).trans Tt353
          have T376 : u368.1 60 19 = t354 := by rw [eu368]; exact (congrFun (uk_up_oc (by decide)) _).trans Tt354
          have C377 : u368.1 66 = (upd (u.1 66) (x360 : Int32).toNatClampNeg x365) := by rw [eu368, uk_up_self, C355]
          have C378 : u368.1 67 = u.1 67 := by rw [eu368]; exact (uk_up_oc (by decide)).trans C356
          have C379 : u368.1 68 = u.1 68 := by rw [eu368]; exact (uk_up_oc (by decide)).trans C357
          exact g_vret dX7_readHave_107 rfl ⟨rfl, hu368, fu368, (fun hf => by
    rw [T375] at hf
    have hrd := hrf (by grind)
    unfold rd at hrd ⊢
    rw [show u.1 60 7 = t1 by grind] at hrd
    rw [T369, C377, C378, C379]
    exact rk_up hrd (by grind) (by decide) (by grind)), (by first | rfl | (rw [T375]; grind) | rw [T375]), (by first | rfl | (rw [T375, T374, T373]; grind) | rw [T375, T374, T373]), (show Sr f N u368 _ by rw [eu368]; exact Sr_u ku3442 (by decide) (fun q => absurd q (by decide))), (fun q => ⟨by rw [T370, ← SX.2]; grind, by rw [T371, ← SX.2]; have := TH; grind⟩), (fun q => by exfalso; grind)⟩
        · refine g_iload_n dX7_readHave_94 rfl ?_
          refine g_goto (tgt := 106) dX7_readHave_95 (by decide) ?_
          have v380 : vp_in x360 51 := uk_vin 51 rfl (by first | decide | lia | grind) (by first | decide | lia | grind)
          have b381 := uk_cl v380
          refine g_iast rfl rfl v380 dX7_readHave_106 ?_
          refine g_mem (fun u382 eu382 => ?_)
          have hu382 : iv u382 := by rw [eu382]; exact iv_st hu344 (by unfold uk_is51; decide) (by first | decide | lia | grind) (by first | decide | lia | grind) (fun q => by first | decide | lia | grind) (fun q => by first | decide | lia | grind) (fun q => by first | decide | lia | grind)
          have fu382 : fk [60, 66] [3, 7, 13, 22, 28] u u382 := by rw [eu382]; exact fk_up fu344 (by decide) (fun q => absurd q (by decide))
          have T383 : u382.1 60 7 = t1 := by rw [eu382]; exact (congrFun (uk_up_oc (by decide)) _).trans T347
          have T384 : u382.1 60 10 = x299 := by rw [eu382]; exact (congrFun (uk_up_oc (by decide)) _).trans T348
          have T385 : u382.1 60 11 = x314 := by rw [eu382]; exact (congrFun (uk_up_oc (by decide)) _).trans T349
          have T386 : u382.1 60 13 = t4 := by rw [eu382]; exact (congrFun (uk_up_oc (by decide)) _).trans T350
          have T387 : u382.1 60 14 = t351 := by rw [eu382]; exact (congrFun (uk_up_oc (by decide)) _).trans Tt351
          have T388 : u382.1 60 15 = t352 := by rw [eu382]; exact (congrFun (uk_up_oc (by decide)) _).trans Tt352
          have T389 : u382.1 60 18 = t353 := by rw [eu382]; exact (congrFun (uk_up_oc (by decide)) _).trans Tt353
          have T390 : u382.1 60 19 = t354 := by rw [eu382]; exact (congrFun (uk_up_oc (by decide)) _).trans Tt354
          have C391 : u382.1 66 = (upd (u.1 66) (x360 : Int32).toNatClampNeg x346) := by rw [eu382, uk_up_self, C355]
          have C392 : u382.1 67 = u.1 67 := by rw [eu382]; exact (uk_up_oc (by decide)).trans C356
          have C393 : u382.1 68 = u.1 68 := by rw [eu382]; exact (uk_up_oc (by decide)).trans C357
          exact g_vret dX7_readHave_107 rfl ⟨rfl, hu382, fu382, (fun hf => by
    rw [T389] at hf
    have hrd := hrf (by grind)
    unfold rd at hrd ⊢
    rw [show u.1 60 7 = t1 by grind] at hrd
    rw [T383, C391, C392, C393]
    exact rk_up hrd (by grind) (by decide) (by grind)), (by first | rfl | (rw [T389]; grind) | rw [T389]), (by first | rfl | (rw [T389, T388, T387]; grind) | rw [T389, T388, T387]), (show Sr f N u382 _ by rw [eu382]; exact Sr_u ku3442 (by decide) (fun q => absurd q (by decide))), (fun q => ⟨by rw [T384, ← SX.2]; grind, by rw [T385, ← SX.2]; have := TH; grind⟩), (fun _ => Rw_have p4 (by rw [T383]; grind) C391 C392 C393 (by grind) (by grind) (by grind) SX.2 tx346.2)⟩
      · refine g_iload_n dX7_readHave_57 rfl ?_
        refine g_goto (tgt := 65) dX7_readHave_58 (by decide) ?_
        refine p_X7_76 rfl rfl dX7_readHave_65 ?_
        refine g_mem (fun u394 eu394 => ?_)
        have hu394 : iv u394 := by rw [eu394]; exact iv_upF hu300 rfl
        have fu394 : fk [60, 66] [3, 7, 13, 22, 28] u u394 := by rw [eu394]; exact fk_up fu300 (by decide) (fun _ => by decide)
        have rfu394 : rf u394 := by rw [eu394]; exact rf_1 rfu300 (by decide)
        have C395 : u394.1 66 = u.1 66 := by rw [eu394]; exact (uk_up_oc (by decide)).trans C301
        have C396 : u394.1 67 = u.1 67 := by rw [eu394]; exact (uk_up_oc (by decide)).trans C302
        have C397 : u394.1 68 = u.1 68 := by rw [eu394]; exact (uk_up_oc (by decide)).trans C303
        have s398 : u394.1 60 11 = x12 := by rw [eu394, uk_up_at]; exact if_pos ⟨rfl, rfl⟩
        have T399 : u394.1 60 7 = t1 := by rw [eu394, uk_up_at, if_neg (by decide)]; exact T305
        have T400 : u394.1 60 10 = x299 := by rw [eu394, uk_up_at, if_neg (by decide)]; exact s304
        have T401 : u394.1 60 13 = t4 := by rw [eu394, uk_up_at, if_neg (by decide)]; exact T307
        have T402 : u394.1 60 14 = t5 := by rw [eu394, uk_up_at, if_neg (by decide)]; exact T308
        have T403 : u394.1 60 15 = t6 := by rw [eu394, uk_up_at, if_neg (by decide)]; exact T309
        have T404 : u394.1 60 18 = t292 := by rw [eu394, uk_up_at, if_neg (by decide)]; exact T310
        have T405 : u394.1 60 19 = t293 := by rw [eu394, uk_up_at, if_neg (by decide)]; exact T311
        have TW : twd a.2.2.1 x12 u10 u394 := Or.inr (Or.inr ⟨by grind, by rw [yx91]; grind, by rw [T404]; grind⟩)
        have TD : u394.1 60 10 = a.2.2.1 ||| ((1 : Int32) <<< x12) := by rw [T400, ex299, ex298, m31 XR.1 (by grind), show x297 = a.2.2.1 by grind]
        have TH : hi9 (a.2.2.1 ||| ((1 : Int32) <<< x12)) (u394.1 60 11) := hi9_up HB XR.1 XR.2 (fun q => by first | (rw [s398]; done) | (rw [s398]; grind)) (fun q => by first | (rw [s398]; done) | (rw [s398]; grind))
        have M69 : u394.1 69 = u10.1 69 := by rw [eu394, uk_up_oc (by decide), eu300, uk_up_oc (by decide)]; exact fk_c gu284 (by decide)
        have M14 : u394.1 60 14 = u10.1 60 14 := by rw [T402]; grind
        have M13 : u394.1 60 13 = u10.1 60 13 := by rw [T401]; grind
        refine g_aload_n dX7_readHave_68 rfl ?_
        refine cl_X7_133 (c := 60) (As := []) rfl (c_X7_next_s (G := G) hs hu394    (d + 1)) rfl (by omega) rfl rfl (Nat.le_of_ble_eq_true rfl) dX7_readHave_69 (fun r406 u407 q408 => ?_)
        obtain ⟨rfl, mq408⟩ := q408
        obtain ⟨hu407, gu407, ku4070, ku4071, ku4072, ku4073, ku4074, ku4075⟩ := mq408
        have fu407 : fk [60, 66] [3, 7, 13, 22, 28] u u407 := fk_tr fu394 gu407 (by decide) (by decide)
        have rfu407 : rf u407 := rf_mono rfu394 gu407 ku4070 (by decide) (by decide) (by decide) (by decide)
        have T409 : u407.1 60 7 = t1 := (fk_at gu407 (by decide)).trans T399
        have T410 : u407.1 60 10 = x299 := (fk_at gu407 (by decide)).trans T400
        have T411 : u407.1 60 11 = x12 := (fk_at gu407 (by decide)).trans s398
        have T412 : u407.1 60 13 = t4 := (fk_at gu407 (by decide)).trans T401
        obtain ⟨t413, Tt413⟩ : ∃ t, u407.1 60 14 = t := ⟨_, rfl⟩
        have Rt413 : 0 ≤ t413 ∧ t413 ≤ 160 := by rw [← Tt413]; exact iv_at hu407 _ _ rfl
        obtain ⟨t414, Tt414⟩ : ∃ t, u407.1 60 15 = t := ⟨_, rfl⟩
        have Rt414 : 0 ≤ t414 ∧ t414 ≤ 160 := by rw [← Tt414]; exact iv_at hu407 _ _ rfl
        obtain ⟨t415, Tt415⟩ : ∃ t, u407.1 60 18 = t := ⟨_, rfl⟩
        have Rt415 : 0 ≤ t415 ∧ t415 ≤ 6 := by rw [← Tt415]; exact iv_at hu407 _ _ rfl
        obtain ⟨t416, Tt416⟩ : ∃ t, u407.1 60 19 = t := ⟨_, rfl⟩
        have C417 : u407.1 66 = u.1 66 := (fk_c gu407 (by decide)).trans C395
        have C418 : u407.1 67 = u.1 67 := (fk_c gu407 (by decide)).trans C396
        have C419 : u407.1 68 = u.1 68 := (fk_c gu407 (by decide)).trans C397
        have s420 : u407.1 60 10 = x299 := (fk_at gu407 (by decide)).trans (by simp [eu394, uk_up_at, s304] : u394.1 60 10 = x299)
        have s421 : u407.1 60 11 = x12 := (fk_at gu407 (by decide)).trans s398
        have SX := Sr_twice hN p0 tx12.2 TW ⟨ku4074, fun q => ⟨(ku4075 q).2.2.2.2.1, (ku4075 q).2.2.2.2.2⟩⟩ (fk_at gu10 (by decide)) (fk_at gu10 (by decide)) (fk_at gu10 (by decide)) (fk_c gu10 (by decide)) M14 M13 M69 (fk_at gu407 (by decide)) (fk_c gu407 (by decide))
        refine g_aload_n dX7_readHave_72 rfl ?_
        refine g_iconst (v := 0) dX7_readHave_73 (by decide) ?_
        refine g_bipush (v := 40) dX7_readHave_74 (by decide) ?_
        refine cl_X7_136 (c := 60) (As := [.int 0, .int 40]) rfl (c_X7_readNumber_s (G := G) hs hu407  0 40 f N (pTwice (pTake f N a 2 7).1 (pTake f N a 2 7).2 (tk f N a.2.2.2.2).1) SX.1 rfl (d)) rfl (by omega) rfl rfl (Nat.le_of_ble_eq_true rfl) dX7_readHave_76 (fun r422 u423 q424 => ?_)
        obtain ⟨⟨x425, rfl, tx425⟩, mq424⟩ := q424
        obtain ⟨hu423, gu423, ku4230, ku4231, ku4232⟩ := mq424
        have fu423 : fk [60, 66] [3, 7, 13, 22, 28] u u423 := fk_tr fu407 gu423 (by decide) (by decide)
        have rfu423 : rf u423 := rf_mono rfu407 gu423 ku4230 (by decide) (by decide) (by decide) (by decide)
        have T426 : u423.1 60 7 = t1 := (fk_at gu423 (by decide)).trans T409
        have T427 : u423.1 60 10 = x299 := (fk_at gu423 (by decide)).trans T410
        have T428 : u423.1 60 11 = x12 := (fk_at gu423 (by decide)).trans T411
        have T429 : u423.1 60 13 = t4 := (fk_at gu423 (by decide)).trans T412
        obtain ⟨t430, Tt430⟩ : ∃ t, u423.1 60 14 = t := ⟨_, rfl⟩
        have Rt430 : 0 ≤ t430 ∧ t430 ≤ 160 := by rw [← Tt430]; exact iv_at hu423 _ _ rfl
        obtain ⟨t431, Tt431⟩ : ∃ t, u423.1 60 15 = t := ⟨_, rfl⟩
        have Rt431 : 0 ≤ t431 ∧ t431 ≤ 160 := by rw [← Tt431]; exact iv_at hu423 _ _ rfl
        obtain ⟨t432, Tt432⟩ : ∃ t, u423.1 60 18 = t := ⟨_, rfl⟩
        have Rt432 : 0 ≤ t432 ∧ t432 ≤ 6 := by rw [← Tt432]; exact iv_at hu423 _ _ rfl
        obtain ⟨t433, Tt433⟩ : ∃ t, u423.1 60 19 = t := ⟨_, rfl⟩
        have C434 : u423.1 66 = u.1 66 := (fk_c gu423 (by decide)).trans C417
        have C435 : u423.1 67 = u.1 67 := (fk_c gu423 (by decide)).trans C418
        have C436 : u423.1 68 = u.1 68 := (fk_c gu423 (by decide)).trans C419
        have s437 : u423.1 60 10 = x299 := (fk_at gu423 (by decide)).trans s420
        have s438 : u423.1 60 11 = x12 := (fk_at gu423 (by decide)).trans s421
        refine g_istore_n dX7_readHave_79 (by decide) ?_
        refine g_aload_n dX7_readHave_80 rfl ?_
        refine f_X7_26 rfl rfl dX7_readHave_81 ?_
        refine g_iconst (v := 0) dX7_readHave_84 (by decide) ?_
        refine g_iload_n dX7_readHave_85 rfl ?_
        refine g_iadd dX7_readHave_86 ?_
        refine g_topi (fun x439 ex439 => ?_)
        have ox439 : x439 = x12 := by rw [ex439, Int32.zero_add]
        refine g_aload_n dX7_readHave_87 rfl ?_
        refine f_X7_91 rfl rfl dX7_readHave_88 ?_
        refine g_topi (fun x440 ex440 => ?_)
        have rx440 : 0 ≤ x440 ∧ x440 ≤ 6 := by rw [ex440]; exact iv_at hu423 _ _ rfl
        have qx440 : x440 = t432 := ex440.trans Tt432
        refine g_if_ne (tgt := 98) dX7_readHave_91 (by decide) (fun c441 => ?_) (fun c441 => ?_)
        · refine g_aload_n dX7_readHave_98 rfl ?_
          refine f_X7_26 rfl rfl dX7_readHave_99 ?_
          refine g_iconst (v := 0) dX7_readHave_102 (by decide) ?_
          refine g_iload_n dX7_readHave_103 rfl ?_
          refine g_iadd dX7_readHave_104 ?_
          refine g_topi (fun x442 ex442 => ?_)
          have ox442 : x442 = x12 := by rw [ex442, Int32.zero_add]
          have v443 : vp_in x442 51 := uk_vin 51 rfl (by first | decide | lia | grind) (by first | decide | lia | grind)
          refine g_iald rfl rfl v443 dX7_readHave_105 ?_
          refine g_topi (fun x444 ex444 => ?_)
          have bx444 := uk_cl v443
          have rx444 : 0 ≤ x444 ∧ x444 ≤ 40 := by rw [ex444]; exact sg_0 hu423 (by unfold uk_is51; decide) (by first | lia | grind) (by first | lia | grind)
          have px444 : x444 = (u.1 66) (x442 : Int32).toNatClampNeg := ex444.trans (congrFun C434 _)
          have v445 : vp_in x439 51 := uk_vin 51 rfl (by first | decide | lia | grind) (by first | decide | lia | grind)
          have b446 := uk_cl v445
          refine g_iast rfl rfl v445 dX7_readHave_106 ?_
          refine g_mem (fun u447 eu447 => ?_)
          have hu447 : iv u447 := by rw [eu447]; exact iv_st hu423 (by unfold uk_is51; decide) (by first | decide | lia | grind) (by first | decide | lia | grind) (fun q => by first | decide | lia | grind) (fun q => by first | decide | lia | grind) (fun q => by first | decide | lia | grind)
          have fu447 : fk [60, 66] [3, 7, 13, 22, 28] u u447 := by rw [eu447]; exact fk_up fu423 (by decide) (fun q => absurd q (by decide))
          have T448 : u447.1 60 7 = t1 := by rw [eu447]; exact (congrFun (uk_up_oc (by decide)) _).trans T426
          have T449 : u447.1 60 10 = x299 := by rw [eu447]; exact (congrFun (uk_up_oc (by decide)) _).trans T427
          have T450 : u447.1 60 11 = x12 := by rw [eu447]; exact (congrFun (uk_up_oc (by decide)) _).trans T428
          have T451 : u447.1 60 13 = t4 := by rw [eu447]; exact (congrFun (uk_up_oc (by decide)) _).trans T429
          have T452 : u447.1 60 14 = t430 := by rw [eu447]; exact (congrFun (uk_up_oc (by decide)) _).trans Tt430
          have T453 : u447.1 60 15 = t431 := by rw [eu447]; exact (congrFun (uk_up_oc (by decide)) _).trans Tt431
          have T454 : u447.1 60 18 = t432 := by rw [eu447]; exact (congrFun (uk_up_oc (by decide)) _).trans Tt432
          have T455 : u447.1 60 19 = t433 := by rw [eu447]; exact (congrFun (uk_up_oc (by decide)) _).trans Tt433
          have C456 : u447.1 66 = (upd (u.1 66) (x439 : Int32).toNatClampNeg x444) := by rw [eu447, uk_up_self, C434]
          have C457 : u447.1 67 = u.1 67 := by rw [eu447]; exact (uk_up_oc (by decide)).trans C435
          have C458 : u447.1 68 = u.1 68 := by rw [eu447]; exact (uk_up_oc (by decide)).trans C436
          exact g_vret dX7_readHave_107 rfl ⟨rfl, hu447, fu447, (fun hf => by
    rw [T454] at hf
    have hrd := hrf (by grind)
    unfold rd at hrd ⊢
    rw [show u.1 60 7 = t1 by grind] at hrd
    rw [T448, C456, C457, C458]
    exact rk_up hrd (by grind) (by decide) (by grind)), (by first | rfl | (rw [T454]; grind) | rw [T454]), (by first | rfl | (rw [T454, T453, T452]; grind) | rw [T454, T453, T452]), (show Sr f N u447 _ by rw [eu447]; exact Sr_u ku4232 (by decide) (fun q => absurd q (by decide))), (fun q => ⟨by rw [T449, ← SX.2]; grind, by rw [T450, ← SX.2]; have := TH; grind⟩), (fun q => by exfalso; grind)⟩
        · refine g_iload_n dX7_readHave_94 rfl ?_
          refine g_goto (tgt := 106) dX7_readHave_95 (by decide) ?_
          have v459 : vp_in x439 51 := uk_vin 51 rfl (by first | decide | lia | grind) (by first | decide | lia | grind)
          have b460 := uk_cl v459
          refine g_iast rfl rfl v459 dX7_readHave_106 ?_
          refine g_mem (fun u461 eu461 => ?_)
          have hu461 : iv u461 := by rw [eu461]; exact iv_st hu423 (by unfold uk_is51; decide) (by first | decide | lia | grind) (by first | decide | lia | grind) (fun q => by first | decide | lia | grind) (fun q => by first | decide | lia | grind) (fun q => by first | decide | lia | grind)
          have fu461 : fk [60, 66] [3, 7, 13, 22, 28] u u461 := by rw [eu461]; exact fk_up fu423 (by decide) (fun q => absurd q (by decide))
          have T462 : u461.1 60 7 = t1 := by rw [eu461]; exact (congrFun (uk_up_oc (by decide)) _).trans T426
          have T463 : u461.1 60 10 = x299 := by rw [eu461]; exact (congrFun (uk_up_oc (by decide)) _).trans T427
          have T464 : u461.1 60 11 = x12 := by rw [eu461]; exact (congrFun (uk_up_oc (by decide)) _).trans T428
          have T465 : u461.1 60 13 = t4 := by rw [eu461]; exact (congrFun (uk_up_oc (by decide)) _).trans T429
          have T466 : u461.1 60 14 = t430 := by rw [eu461]; exact (congrFun (uk_up_oc (by decide)) _).trans Tt430
          have T467 : u461.1 60 15 = t431 := by rw [eu461]; exact (congrFun (uk_up_oc (by decide)) _).trans Tt431
          have T468 : u461.1 60 18 = t432 := by rw [eu461]; exact (congrFun (uk_up_oc (by decide)) _).trans Tt432
          have T469 : u461.1 60 19 = t433 := by rw [eu461]; exact (congrFun (uk_up_oc (by decide)) _).trans Tt433
          have C470 : u461.1 66 = (upd (u.1 66) (x439 : Int32).toNatClampNeg x425) := by rw [eu461, uk_up_self, C434]
          have C471 : u461.1 67 = u.1 67 := by rw [eu461]; exact (uk_up_oc (by decide)).trans C435
          have C472 : u461.1 68 = u.1 68 := by rw [eu461]; exact (uk_up_oc (by decide)).trans C436
          exact g_vret dX7_readHave_107 rfl ⟨rfl, hu461, fu461, (fun hf => by
    rw [T468] at hf
    have hrd := hrf (by grind)
    unfold rd at hrd ⊢
    rw [show u.1 60 7 = t1 by grind] at hrd
    rw [T462, C470, C471, C472]
    exact rk_up hrd (by grind) (by decide) (by grind)), (by first | rfl | (rw [T468]; grind) | rw [T468]), (by first | rfl | (rw [T468, T467, T466]; grind) | rw [T468, T467, T466]), (show Sr f N u461 _ by rw [eu461]; exact Sr_u ku4232 (by decide) (fun q => absurd q (by decide))), (fun q => ⟨by rw [T463, ← SX.2]; grind, by rw [T464, ← SX.2]; have := TH; grind⟩), (fun _ => Rw_have p4 (by rw [T462]; grind) C470 C471 C472 (by grind) (by grind) (by grind) SX.2 tx425.2)⟩
abbrev q_X7_readLine_t (u : uk_Mem) (f : Nat → Int32) (N : Int32) (a : PS) (W : PW) (r : Option Value) (u' : uk_Mem) : Prop := (r = none) ∧ (iv u' ∧ fk [60, 66, 67, 68] [3, 13, 22, 28] u u' ∧ rf u' ∧ (u'.1 60 18 = 0 → u.1 60 18 = 0) ∧ (u'.1 60 18 = 0 → u.1 60 15 + 3 ≤ u'.1 60 15) ∧ Sr f N u' (pLine f N a) ∧ (u'.1 60 18 = 0 → u'.1 60 7 = (pLine f N a).2.2.2.1 ∧ u'.1 60 10 = (pLine f N a).2.2.1 ∧ hi9 (pLine f N a).2.2.1 (u'.1 60 11)) ∧ (u'.1 60 18 = 0 → Rw u' (wLine f N a W)))
set_option maxHeartbeats 4000000 in
set_option maxRecDepth 20000 in
theorem c_X7_readLine_t {G : uk_D} (hs : uk_Sep G) {u : uk_Mem} (hu : iv u) (hrf : rf u) (f : Nat → Int32) (N : Int32) (a : PS) (W : PW) (p0 : Sr f N u a) (p1 : u.1 60 18 = 0) (p2 : u.1 60 7 = a.2.2.2.1) (p3 : u.1 60 10 = a.2.2.1) (p4 : hi9 a.2.2.1 (u.1 60 11)) (p5 : Rw u W) (d : Nat) : uk_Meth G (d + 4) mX7_readLine [.ref (uk_ad G 60)] u (q_X7_readLine_t u f N a W) := by
  refine uk_Meth.of hs (by decide) (Nat.le_of_ble_eq_true rfl) (fun X => ?_)
  have f0 : fk [60, 66, 67, 68] [3, 13, 22, 28] u u := fk_rf
  obtain ⟨t1, Tt1⟩ : ∃ t, u.1 60 7 = t := ⟨_, rfl⟩
  obtain ⟨t2, Tt2⟩ : ∃ t, u.1 60 14 = t := ⟨_, rfl⟩
  obtain ⟨t3, Tt3⟩ : ∃ t, u.1 60 15 = t := ⟨_, rfl⟩
  obtain ⟨t4, Tt4⟩ : ∃ t, u.1 60 16 = t := ⟨_, rfl⟩
  obtain ⟨t5, Tt5⟩ : ∃ t, u.1 60 18 = t := ⟨_, rfl⟩
  obtain ⟨t6, Tt6⟩ : ∃ t, u.1 60 19 = t := ⟨_, rfl⟩
  obtain ⟨A0, A1, A1n, A4, v9, HT⟩ := Sr_open p0 p1
  have hN : N ≤ 160 := by rw [← p0.2.1]; exact (iv_at hu 60 13 rfl).2
  have HK := tk_eq hN A1 HT
  have H4 : ¬ (tk f N a.2.2.2.2).2.1 = 4 := by rw [HK.2.1]; exact A4
  have PL : pl f (tk f N a.2.2.2.2).2.1 (tk f N a.2.2.2.2).1 (tk f N a.2.2.2.2).2.2.2 = pl f (u.1 60 16) (u.1 60 15) (u.1 60 14) := by rw [HK.1, HK.2.1, HK.2.2.1 A4]
  refine g_aload_n dX7_readLine_0 rfl ?_
  refine f_X7_111 rfl rfl dX7_readLine_1 ?_
  refine g_topi (fun x7 ex7 => ?_)
  have qx7 : x7 = t4 := ex7.trans Tt4
  refine g_iconst (v := 1) dX7_readLine_4 (by decide) ?_
  refine g_icmp_ne (tgt := 15) dX7_readLine_5 (by decide) (fun c8 => ?_) (fun c8 => ?_)
  · refine g_bipush (v := (-4)) dX7_readLine_15 (by decide) ?_
    refine g_istore_n dX7_readLine_17 (by decide) ?_
    have PK : PLK f (u.1 60 16) (u.1 60 15) (u.1 60 14) (-4) := PLK_n (by grind)
    refine g_aload_n dX7_readLine_18 rfl ?_
    refine g_iload_n dX7_readLine_19 rfl ?_
    refine g_bipush (v := (-4)) dX7_readLine_20 (by decide) ?_
    refine g_icmp_eq (tgt := 29) dX7_readLine_22 (by decide) (fun c9 => ?_) (fun c9 => ?_)
    · refine g_iconst (v := 0) dX7_readLine_29 (by decide) ?_
      refine g_iconst (v := 2) dX7_readLine_30 (by decide) ?_
      refine cl_X7_125 (c := 60) (As := [.int 0, .int 2]) rfl (c_X7_needs_s (G := G) hs hu  0 2 (by first | trivial | decide | lia | grind) (by first | trivial | decide | lia | grind) (d + 3)) rfl (by omega) rfl rfl (Nat.le_of_ble_eq_true rfl) dX7_readLine_31 (fun r10 u11 q12 => ?_)
      obtain ⟨rfl, mq12⟩ := q12
      obtain ⟨hu11, gu11, ku110, ku111, ku112⟩ := mq12
      have fu11 : fk [60, 66, 67, 68] [3, 13, 22, 28] u u11 := fk_tr f0 gu11 (by decide) (by decide)
      have rfu11 : rf u11 := rf_mono hrf gu11 (fun q => (ku110 q).1) (by decide) (by decide) (by decide) (by decide)
      have T13 : u11.1 60 7 = t1 := (fk_at gu11 (by decide)).trans Tt1
      have T14 : u11.1 60 14 = t2 := (fk_at gu11 (by decide)).trans Tt2
      have T15 : u11.1 60 15 = t3 := (fk_at gu11 (by decide)).trans Tt3
      have T16 : u11.1 60 16 = t4 := (fk_at gu11 (by decide)).trans Tt4
      obtain ⟨t17, Tt17⟩ : ∃ t, u11.1 60 18 = t := ⟨_, rfl⟩
      have Rt17 : 0 ≤ t17 ∧ t17 ≤ 6 := by rw [← Tt17]; exact iv_at hu11 _ _ rfl
      obtain ⟨t18, Tt18⟩ : ∃ t, u11.1 60 19 = t := ⟨_, rfl⟩
      refine g_aload_n dX7_readLine_34 rfl ?_
      refine g_iload_n dX7_readLine_35 rfl ?_
      refine g_iconst (v := 5) dX7_readLine_36 (by decide) ?_
      refine g_icmp_eq (tgt := 49) dX7_readLine_37 (by decide) (fun c19 => ?_) (fun c19 => ?_)
      · exact absurd c19 (by decide)
      · refine g_aload_n dX7_readLine_40 rfl ?_
        refine f_X7_69 rfl rfl dX7_readLine_41 ?_
        refine g_topi (fun x20 ex20 => ?_)
        have rx20 : 0 ≤ x20 ∧ x20 ≤ 8 := by rw [ex20]; exact iv_at hu11 _ _ rfl
        have qx20 : x20 = t1 := ex20.trans T13
        refine g_bipush (v := 8) dX7_readLine_44 (by decide) ?_
        refine g_icmp_ge (tgt := 53) dX7_readLine_46 (by decide) (fun c21 => ?_) (fun c21 => ?_)
        · refine g_iconst (v := 0) dX7_readLine_53 (by decide) ?_
          refine g_iconst (v := 5) dX7_readLine_54 (by decide) ?_
          refine cl_X7_125 (c := 60) (As := [.int 0, .int 5]) rfl (c_X7_needs_s (G := G) hs hu11  0 5 (by first | trivial | decide | lia | grind) (by first | trivial | decide | lia | grind) (d + 3)) rfl (by omega) rfl rfl (Nat.le_of_ble_eq_true rfl) dX7_readLine_55 (fun r22 u23 q24 => ?_)
          obtain ⟨rfl, mq24⟩ := q24
          obtain ⟨hu23, gu23, ku230, ku231, ku232⟩ := mq24
          have fu23 : fk [60, 66, 67, 68] [3, 13, 22, 28] u u23 := fk_tr fu11 gu23 (by decide) (by decide)
          have rfu23 : rf u23 := rf_mono rfu11 gu23 (fun q => (ku230 q).1) (by decide) (by decide) (by decide) (by decide)
          have T25 : u23.1 60 7 = t1 := (fk_at gu23 (by decide)).trans T13
          have T26 : u23.1 60 14 = t2 := (fk_at gu23 (by decide)).trans T14
          have T27 : u23.1 60 15 = t3 := (fk_at gu23 (by decide)).trans T15
          have T28 : u23.1 60 16 = t4 := (fk_at gu23 (by decide)).trans T16
          obtain ⟨t29, Tt29⟩ : ∃ t, u23.1 60 18 = t := ⟨_, rfl⟩
          have Rt29 : 0 ≤ t29 ∧ t29 ≤ 6 := by rw [← Tt29]; exact iv_at hu23 _ _ rfl
          obtain ⟨t30, Tt30⟩ : ∃ t, u23.1 60 19 = t := ⟨_, rfl⟩
          have FV : u23.1 60 18 = 2 ∧ u23.1 60 19 = u.1 60 15 := ⟨by rw [Tt29]; grind, by rw [Tt30]; grind⟩
          refine g_aload_n dX7_readLine_58 rfl ?_
          refine cl_X7_133 (c := 60) (As := []) rfl (c_X7_next_s (G := G) hs hu23    (d + 2)) rfl (by omega) rfl rfl (Nat.le_of_ble_eq_true rfl) dX7_readLine_59 (fun r31 u32 q33 => ?_)
          obtain ⟨rfl, mq33⟩ := q33
          obtain ⟨hu32, gu32, ku320, ku321, ku322, ku323, ku324, ku325⟩ := mq33
          have fu32 : fk [60, 66, 67, 68] [3, 13, 22, 28] u u32 := fk_tr fu23 gu32 (by decide) (by decide)
          have rfu32 : rf u32 := rf_mono rfu23 gu32 ku320 (by decide) (by decide) (by decide) (by decide)
          have T34 : u32.1 60 7 = t1 := (fk_at gu32 (by decide)).trans T25
          obtain ⟨t35, Tt35⟩ : ∃ t, u32.1 60 14 = t := ⟨_, rfl⟩
          have Rt35 : 0 ≤ t35 ∧ t35 ≤ 160 := by rw [← Tt35]; exact iv_at hu32 _ _ rfl
          obtain ⟨t36, Tt36⟩ : ∃ t, u32.1 60 15 = t := ⟨_, rfl⟩
          have Rt36 : 0 ≤ t36 ∧ t36 ≤ 160 := by rw [← Tt36]; exact iv_at hu32 _ _ rfl
          obtain ⟨t37, Tt37⟩ : ∃ t, u32.1 60 16 = t := ⟨_, rfl⟩
          obtain ⟨t38, Tt38⟩ : ∃ t, u32.1 60 18 = t := ⟨_, rfl⟩
          have Rt38 : 0 ≤ t38 ∧ t38 ≤ 6 := by rw [← Tt38]; exact iv_at hu32 _ _ rfl
          obtain ⟨t39, Tt39⟩ : ∃ t, u32.1 60 19 = t := ⟨_, rfl⟩
          have SB := Sr_bad (k := 2) p0 (by decide) FV.1 (FV.2.trans HK.1.symm) ⟨ku324, fun q => ⟨(ku325 q).2.2.2.2.1, (ku325 q).2.2.2.2.2⟩⟩ ((fk_at (c := 60) (i := 13) gu32 (by decide)).trans ((fk_at (c := 60) (i := 13) gu23 (by decide)).trans (fk_at (c := 60) (i := 13) gu11 (by decide)))) ((fk_c (c := 69) gu32 (by decide)).trans ((fk_c (c := 69) gu23 (by decide)).trans (fk_c (c := 69) gu11 (by decide))))
          have F3 : u32.1 60 18 = 2 := ((ku325 (by rw [FV.1]; decide)).2.2.2.2.1).trans FV.1
          have SL : Sr f N u32 (pLine f N a) := by rw [pLine_2 H4 (PL.trans (by have := PK; unfold PLK at this; grind))]; exact SB
          refine g_aload_n dX7_readLine_62 rfl ?_
          refine f_X7_91 rfl rfl dX7_readLine_63 ?_
          refine g_topi (fun x40 ex40 => ?_)
          have rx40 : 0 ≤ x40 ∧ x40 ≤ 6 := by rw [ex40]; exact iv_at hu32 _ _ rfl
          have qx40 : x40 = t38 := ex40.trans Tt38
          refine g_if_le (tgt := 70) dX7_readLine_66 (by decide) (fun c41 => ?_) (fun c41 => ?_)
          · exfalso; grind
          · exact g_vret dX7_readLine_69 rfl ⟨rfl, hu32, fu32, rfu32, (by first | rfl | (rw [Tt38]; grind) | rw [Tt38]), (by first | rfl | (rw [Tt38, Tt36]; grind) | rw [Tt38, Tt36]), SL, (fun q => by exfalso; grind), (fun q => by exfalso; grind)⟩
        · refine g_iconst (v := 1) dX7_readLine_49 (by decide) ?_
          refine g_goto (tgt := 54) dX7_readLine_50 (by decide) ?_
          refine g_iconst (v := 5) dX7_readLine_54 (by decide) ?_
          refine cl_X7_125 (c := 60) (As := [.int 1, .int 5]) rfl (c_X7_needs_s (G := G) hs hu11  1 5 (by first | trivial | decide | lia | grind) (by first | trivial | decide | lia | grind) (d + 3)) rfl (by omega) rfl rfl (Nat.le_of_ble_eq_true rfl) dX7_readLine_55 (fun r42 u43 q44 => ?_)
          obtain ⟨rfl, mq44⟩ := q44
          obtain ⟨hu43, gu43, ku430, ku431, ku432⟩ := mq44
          have fu43 : fk [60, 66, 67, 68] [3, 13, 22, 28] u u43 := fk_tr fu11 gu43 (by decide) (by decide)
          have rfu43 : rf u43 := rf_mono rfu11 gu43 (fun q => (ku430 q).1) (by decide) (by decide) (by decide) (by decide)
          have T45 : u43.1 60 7 = t1 := (fk_at gu43 (by decide)).trans T13
          have T46 : u43.1 60 14 = t2 := (fk_at gu43 (by decide)).trans T14
          have T47 : u43.1 60 15 = t3 := (fk_at gu43 (by decide)).trans T15
          have T48 : u43.1 60 16 = t4 := (fk_at gu43 (by decide)).trans T16
          obtain ⟨t49, Tt49⟩ : ∃ t, u43.1 60 18 = t := ⟨_, rfl⟩
          have Rt49 : 0 ≤ t49 ∧ t49 ≤ 6 := by rw [← Tt49]; exact iv_at hu43 _ _ rfl
          obtain ⟨t50, Tt50⟩ : ∃ t, u43.1 60 19 = t := ⟨_, rfl⟩
          have FV : u43.1 60 18 = 2 ∧ u43.1 60 19 = u.1 60 15 := ⟨by rw [Tt49]; grind, by rw [Tt50]; grind⟩
          refine g_aload_n dX7_readLine_58 rfl ?_
          refine cl_X7_133 (c := 60) (As := []) rfl (c_X7_next_s (G := G) hs hu43    (d + 2)) rfl (by omega) rfl rfl (Nat.le_of_ble_eq_true rfl) dX7_readLine_59 (fun r51 u52 q53 => ?_)
          obtain ⟨rfl, mq53⟩ := q53
          obtain ⟨hu52, gu52, ku520, ku521, ku522, ku523, ku524, ku525⟩ := mq53
          have fu52 : fk [60, 66, 67, 68] [3, 13, 22, 28] u u52 := fk_tr fu43 gu52 (by decide) (by decide)
          have rfu52 : rf u52 := rf_mono rfu43 gu52 ku520 (by decide) (by decide) (by decide) (by decide)
          have T54 : u52.1 60 7 = t1 := (fk_at gu52 (by decide)).trans T45
          obtain ⟨t55, Tt55⟩ : ∃ t, u52.1 60 14 = t := ⟨_, rfl⟩
          have Rt55 : 0 ≤ t55 ∧ t55 ≤ 160 := by rw [← Tt55]; exact iv_at hu52 _ _ rfl
          obtain ⟨t56, Tt56⟩ : ∃ t, u52.1 60 15 = t := ⟨_, rfl⟩
          have Rt56 : 0 ≤ t56 ∧ t56 ≤ 160 := by rw [← Tt56]; exact iv_at hu52 _ _ rfl
          obtain ⟨t57, Tt57⟩ : ∃ t, u52.1 60 16 = t := ⟨_, rfl⟩
          obtain ⟨t58, Tt58⟩ : ∃ t, u52.1 60 18 = t := ⟨_, rfl⟩
          have Rt58 : 0 ≤ t58 ∧ t58 ≤ 6 := by rw [← Tt58]; exact iv_at hu52 _ _ rfl
          obtain ⟨t59, Tt59⟩ : ∃ t, u52.1 60 19 = t := ⟨_, rfl⟩
          have SB := Sr_bad (k := 2) p0 (by decide) FV.1 (FV.2.trans HK.1.symm) ⟨ku524, fun q => ⟨(ku525 q).2.2.2.2.1, (ku525 q).2.2.2.2.2⟩⟩ ((fk_at (c := 60) (i := 13) gu52 (by decide)).trans ((fk_at (c := 60) (i := 13) gu43 (by decide)).trans (fk_at (c := 60) (i := 13) gu11 (by decide)))) ((fk_c (c := 69) gu52 (by decide)).trans ((fk_c (c := 69) gu43 (by decide)).trans (fk_c (c := 69) gu11 (by decide))))
          have F3 : u52.1 60 18 = 2 := ((ku525 (by rw [FV.1]; decide)).2.2.2.2.1).trans FV.1
          have SL : Sr f N u52 (pLine f N a) := by rw [pLine_2 H4 (PL.trans (by have := PK; unfold PLK at this; grind))]; exact SB
          refine g_aload_n dX7_readLine_62 rfl ?_
          refine f_X7_91 rfl rfl dX7_readLine_63 ?_
          refine g_topi (fun x60 ex60 => ?_)
          have rx60 : 0 ≤ x60 ∧ x60 ≤ 6 := by rw [ex60]; exact iv_at hu52 _ _ rfl
          have qx60 : x60 = t58 := ex60.trans Tt58
          refine g_if_le (tgt := 70) dX7_readLine_66 (by decide) (fun c61 => ?_) (fun c61 => ?_)
          · exfalso; grind
          · exact g_vret dX7_readLine_69 rfl ⟨rfl, hu52, fu52, rfu52, (by first | rfl | (rw [Tt58]; grind) | rw [Tt58]), (by first | rfl | (rw [Tt58, Tt56]; grind) | rw [Tt58, Tt56]), SL, (fun q => by exfalso; grind), (fun q => by exfalso; grind)⟩
    · exact absurd c9 (by decide)
  · refine g_aload_n dX7_readLine_8 rfl ?_
    refine cl_X7_139 (c := 60) (As := []) rfl (c_X7_lineNow_s (G := G) hs hu   (by have := TK_q hN A1 HT (by grind); rw [p0.2.1]; exact this.2.1) (d + 1)) rfl (by omega) rfl rfl (Nat.le_of_ble_eq_true rfl) dX7_readLine_9 (fun r62 u63 q64 => ?_)
    obtain ⟨⟨x65, rfl, tx65⟩, mq64⟩ := q64
    rw [mq64]
    refine g_goto (tgt := 17) dX7_readLine_12 (by decide) ?_
    refine g_istore_n dX7_readLine_17 (by decide) ?_
    have PK : PLK f (u.1 60 16) (u.1 60 15) (u.1 60 14) x65 := PLK_1 p0.1 (TK_q hN A1 HT) (by grind) tx65.2
    refine g_aload_n dX7_readLine_18 rfl ?_
    refine g_iload_n dX7_readLine_19 rfl ?_
    refine g_bipush (v := (-4)) dX7_readLine_20 (by decide) ?_
    refine g_icmp_eq (tgt := 29) dX7_readLine_22 (by decide) (fun c66 => ?_) (fun c66 => ?_)
    · refine g_iconst (v := 0) dX7_readLine_29 (by decide) ?_
      refine g_iconst (v := 2) dX7_readLine_30 (by decide) ?_
      refine cl_X7_125 (c := 60) (As := [.int 0, .int 2]) rfl (c_X7_needs_s (G := G) hs hu  0 2 (by first | trivial | decide | lia | grind) (by first | trivial | decide | lia | grind) (d + 3)) rfl (by omega) rfl rfl (Nat.le_of_ble_eq_true rfl) dX7_readLine_31 (fun r67 u68 q69 => ?_)
      obtain ⟨rfl, mq69⟩ := q69
      obtain ⟨hu68, gu68, ku680, ku681, ku682⟩ := mq69
      have fu68 : fk [60, 66, 67, 68] [3, 13, 22, 28] u u68 := fk_tr f0 gu68 (by decide) (by decide)
      have rfu68 : rf u68 := rf_mono hrf gu68 (fun q => (ku680 q).1) (by decide) (by decide) (by decide) (by decide)
      have T70 : u68.1 60 7 = t1 := (fk_at gu68 (by decide)).trans Tt1
      have T71 : u68.1 60 14 = t2 := (fk_at gu68 (by decide)).trans Tt2
      have T72 : u68.1 60 15 = t3 := (fk_at gu68 (by decide)).trans Tt3
      have T73 : u68.1 60 16 = t4 := (fk_at gu68 (by decide)).trans Tt4
      obtain ⟨t74, Tt74⟩ : ∃ t, u68.1 60 18 = t := ⟨_, rfl⟩
      have Rt74 : 0 ≤ t74 ∧ t74 ≤ 6 := by rw [← Tt74]; exact iv_at hu68 _ _ rfl
      obtain ⟨t75, Tt75⟩ : ∃ t, u68.1 60 19 = t := ⟨_, rfl⟩
      refine g_aload_n dX7_readLine_34 rfl ?_
      refine g_iload_n dX7_readLine_35 rfl ?_
      refine g_iconst (v := 5) dX7_readLine_36 (by decide) ?_
      refine g_icmp_eq (tgt := 49) dX7_readLine_37 (by decide) (fun c76 => ?_) (fun c76 => ?_)
      · refine g_iconst (v := 1) dX7_readLine_49 (by decide) ?_
        refine g_goto (tgt := 54) dX7_readLine_50 (by decide) ?_
        refine g_iconst (v := 5) dX7_readLine_54 (by decide) ?_
        refine cl_X7_125 (c := 60) (As := [.int 1, .int 5]) rfl (c_X7_needs_s (G := G) hs hu68  1 5 (by first | trivial | decide | lia | grind) (by first | trivial | decide | lia | grind) (d + 3)) rfl (by omega) rfl rfl (Nat.le_of_ble_eq_true rfl) dX7_readLine_55 (fun r77 u78 q79 => ?_)
        obtain ⟨rfl, mq79⟩ := q79
        obtain ⟨hu78, gu78, ku780, ku781, ku782⟩ := mq79
        have fu78 : fk [60, 66, 67, 68] [3, 13, 22, 28] u u78 := fk_tr fu68 gu78 (by decide) (by decide)
        have rfu78 : rf u78 := rf_mono rfu68 gu78 (fun q => (ku780 q).1) (by decide) (by decide) (by decide) (by decide)
        have T80 : u78.1 60 7 = t1 := (fk_at gu78 (by decide)).trans T70
        have T81 : u78.1 60 14 = t2 := (fk_at gu78 (by decide)).trans T71
        have T82 : u78.1 60 15 = t3 := (fk_at gu78 (by decide)).trans T72
        have T83 : u78.1 60 16 = t4 := (fk_at gu78 (by decide)).trans T73
        obtain ⟨t84, Tt84⟩ : ∃ t, u78.1 60 18 = t := ⟨_, rfl⟩
        have Rt84 : 0 ≤ t84 ∧ t84 ≤ 6 := by rw [← Tt84]; exact iv_at hu78 _ _ rfl
        obtain ⟨t85, Tt85⟩ : ∃ t, u78.1 60 19 = t := ⟨_, rfl⟩
        have FV : u78.1 60 18 = 2 ∧ u78.1 60 19 = u.1 60 15 := ⟨by rw [Tt84]; grind, by rw [Tt85]; grind⟩
        refine g_aload_n dX7_readLine_58 rfl ?_
        refine cl_X7_133 (c := 60) (As := []) rfl (c_X7_next_s (G := G) hs hu78    (d + 2)) rfl (by omega) rfl rfl (Nat.le_of_ble_eq_true rfl) dX7_readLine_59 (fun r86 u87 q88 => ?_)
        obtain ⟨rfl, mq88⟩ := q88
        obtain ⟨hu87, gu87, ku870, ku871, ku872, ku873, ku874, ku875⟩ := mq88
        have fu87 : fk [60, 66, 67, 68] [3, 13, 22, 28] u u87 := fk_tr fu78 gu87 (by decide) (by decide)
        have rfu87 : rf u87 := rf_mono rfu78 gu87 ku870 (by decide) (by decide) (by decide) (by decide)
        have T89 : u87.1 60 7 = t1 := (fk_at gu87 (by decide)).trans T80
        obtain ⟨t90, Tt90⟩ : ∃ t, u87.1 60 14 = t := ⟨_, rfl⟩
        have Rt90 : 0 ≤ t90 ∧ t90 ≤ 160 := by rw [← Tt90]; exact iv_at hu87 _ _ rfl
        obtain ⟨t91, Tt91⟩ : ∃ t, u87.1 60 15 = t := ⟨_, rfl⟩
        have Rt91 : 0 ≤ t91 ∧ t91 ≤ 160 := by rw [← Tt91]; exact iv_at hu87 _ _ rfl
        obtain ⟨t92, Tt92⟩ : ∃ t, u87.1 60 16 = t := ⟨_, rfl⟩
        obtain ⟨t93, Tt93⟩ : ∃ t, u87.1 60 18 = t := ⟨_, rfl⟩
        have Rt93 : 0 ≤ t93 ∧ t93 ≤ 6 := by rw [← Tt93]; exact iv_at hu87 _ _ rfl
        obtain ⟨t94, Tt94⟩ : ∃ t, u87.1 60 19 = t := ⟨_, rfl⟩
        have SB := Sr_bad (k := 2) p0 (by decide) FV.1 (FV.2.trans HK.1.symm) ⟨ku874, fun q => ⟨(ku875 q).2.2.2.2.1, (ku875 q).2.2.2.2.2⟩⟩ ((fk_at (c := 60) (i := 13) gu87 (by decide)).trans ((fk_at (c := 60) (i := 13) gu78 (by decide)).trans (fk_at (c := 60) (i := 13) gu68 (by decide)))) ((fk_c (c := 69) gu87 (by decide)).trans ((fk_c (c := 69) gu78 (by decide)).trans (fk_c (c := 69) gu68 (by decide))))
        have F3 : u87.1 60 18 = 2 := ((ku875 (by rw [FV.1]; decide)).2.2.2.2.1).trans FV.1
        have SL : Sr f N u87 (pLine f N a) := by rw [pLine_2 H4 (PL.trans (by have := PK; unfold PLK at this; grind))]; exact SB
        refine g_aload_n dX7_readLine_62 rfl ?_
        refine f_X7_91 rfl rfl dX7_readLine_63 ?_
        refine g_topi (fun x95 ex95 => ?_)
        have rx95 : 0 ≤ x95 ∧ x95 ≤ 6 := by rw [ex95]; exact iv_at hu87 _ _ rfl
        have qx95 : x95 = t93 := ex95.trans Tt93
        refine g_if_le (tgt := 70) dX7_readLine_66 (by decide) (fun c96 => ?_) (fun c96 => ?_)
        · exfalso; grind
        · exact g_vret dX7_readLine_69 rfl ⟨rfl, hu87, fu87, rfu87, (by first | rfl | (rw [Tt93]; grind) | rw [Tt93]), (by first | rfl | (rw [Tt93, Tt91]; grind) | rw [Tt93, Tt91]), SL, (fun q => by exfalso; grind), (fun q => by exfalso; grind)⟩
      · refine g_aload_n dX7_readLine_40 rfl ?_
        refine f_X7_69 rfl rfl dX7_readLine_41 ?_
        refine g_topi (fun x97 ex97 => ?_)
        have rx97 : 0 ≤ x97 ∧ x97 ≤ 8 := by rw [ex97]; exact iv_at hu68 _ _ rfl
        have qx97 : x97 = t1 := ex97.trans T70
        refine g_bipush (v := 8) dX7_readLine_44 (by decide) ?_
        refine g_icmp_ge (tgt := 53) dX7_readLine_46 (by decide) (fun c98 => ?_) (fun c98 => ?_)
        · refine g_iconst (v := 0) dX7_readLine_53 (by decide) ?_
          refine g_iconst (v := 5) dX7_readLine_54 (by decide) ?_
          refine cl_X7_125 (c := 60) (As := [.int 0, .int 5]) rfl (c_X7_needs_s (G := G) hs hu68  0 5 (by first | trivial | decide | lia | grind) (by first | trivial | decide | lia | grind) (d + 3)) rfl (by omega) rfl rfl (Nat.le_of_ble_eq_true rfl) dX7_readLine_55 (fun r99 u100 q101 => ?_)
          obtain ⟨rfl, mq101⟩ := q101
          obtain ⟨hu100, gu100, ku1000, ku1001, ku1002⟩ := mq101
          have fu100 : fk [60, 66, 67, 68] [3, 13, 22, 28] u u100 := fk_tr fu68 gu100 (by decide) (by decide)
          have rfu100 : rf u100 := rf_mono rfu68 gu100 (fun q => (ku1000 q).1) (by decide) (by decide) (by decide) (by decide)
          have T102 : u100.1 60 7 = t1 := (fk_at gu100 (by decide)).trans T70
          have T103 : u100.1 60 14 = t2 := (fk_at gu100 (by decide)).trans T71
          have T104 : u100.1 60 15 = t3 := (fk_at gu100 (by decide)).trans T72
          have T105 : u100.1 60 16 = t4 := (fk_at gu100 (by decide)).trans T73
          obtain ⟨t106, Tt106⟩ : ∃ t, u100.1 60 18 = t := ⟨_, rfl⟩
          have Rt106 : 0 ≤ t106 ∧ t106 ≤ 6 := by rw [← Tt106]; exact iv_at hu100 _ _ rfl
          obtain ⟨t107, Tt107⟩ : ∃ t, u100.1 60 19 = t := ⟨_, rfl⟩
          have FV : u100.1 60 18 = 2 ∧ u100.1 60 19 = u.1 60 15 := ⟨by rw [Tt106]; grind, by rw [Tt107]; grind⟩
          refine g_aload_n dX7_readLine_58 rfl ?_
          refine cl_X7_133 (c := 60) (As := []) rfl (c_X7_next_s (G := G) hs hu100    (d + 2)) rfl (by omega) rfl rfl (Nat.le_of_ble_eq_true rfl) dX7_readLine_59 (fun r108 u109 q110 => ?_)
          obtain ⟨rfl, mq110⟩ := q110
          obtain ⟨hu109, gu109, ku1090, ku1091, ku1092, ku1093, ku1094, ku1095⟩ := mq110
          have fu109 : fk [60, 66, 67, 68] [3, 13, 22, 28] u u109 := fk_tr fu100 gu109 (by decide) (by decide)
          have rfu109 : rf u109 := rf_mono rfu100 gu109 ku1090 (by decide) (by decide) (by decide) (by decide)
          have T111 : u109.1 60 7 = t1 := (fk_at gu109 (by decide)).trans T102
          obtain ⟨t112, Tt112⟩ : ∃ t, u109.1 60 14 = t := ⟨_, rfl⟩
          have Rt112 : 0 ≤ t112 ∧ t112 ≤ 160 := by rw [← Tt112]; exact iv_at hu109 _ _ rfl
          obtain ⟨t113, Tt113⟩ : ∃ t, u109.1 60 15 = t := ⟨_, rfl⟩
          have Rt113 : 0 ≤ t113 ∧ t113 ≤ 160 := by rw [← Tt113]; exact iv_at hu109 _ _ rfl
          obtain ⟨t114, Tt114⟩ : ∃ t, u109.1 60 16 = t := ⟨_, rfl⟩
          obtain ⟨t115, Tt115⟩ : ∃ t, u109.1 60 18 = t := ⟨_, rfl⟩
          have Rt115 : 0 ≤ t115 ∧ t115 ≤ 6 := by rw [← Tt115]; exact iv_at hu109 _ _ rfl
          obtain ⟨t116, Tt116⟩ : ∃ t, u109.1 60 19 = t := ⟨_, rfl⟩
          have SB := Sr_bad (k := 2) p0 (by decide) FV.1 (FV.2.trans HK.1.symm) ⟨ku1094, fun q => ⟨(ku1095 q).2.2.2.2.1, (ku1095 q).2.2.2.2.2⟩⟩ ((fk_at (c := 60) (i := 13) gu109 (by decide)).trans ((fk_at (c := 60) (i := 13) gu100 (by decide)).trans (fk_at (c := 60) (i := 13) gu68 (by decide)))) ((fk_c (c := 69) gu109 (by decide)).trans ((fk_c (c := 69) gu100 (by decide)).trans (fk_c (c := 69) gu68 (by decide))))
          have F3 : u109.1 60 18 = 2 := ((ku1095 (by rw [FV.1]; decide)).2.2.2.2.1).trans FV.1
          have SL : Sr f N u109 (pLine f N a) := by rw [pLine_2 H4 (PL.trans (by have := PK; unfold PLK at this; grind))]; exact SB
          refine g_aload_n dX7_readLine_62 rfl ?_
          refine f_X7_91 rfl rfl dX7_readLine_63 ?_
          refine g_topi (fun x117 ex117 => ?_)
          have rx117 : 0 ≤ x117 ∧ x117 ≤ 6 := by rw [ex117]; exact iv_at hu109 _ _ rfl
          have qx117 : x117 = t115 := ex117.trans Tt115
          refine g_if_le (tgt := 70) dX7_readLine_66 (by decide) (fun c118 => ?_) (fun c118 => ?_)
          · exfalso; grind
          · exact g_vret dX7_readLine_69 rfl ⟨rfl, hu109, fu109, rfu109, (by first | rfl | (rw [Tt115]; grind) | rw [Tt115]), (by first | rfl | (rw [Tt115, Tt113]; grind) | rw [Tt115, Tt113]), SL, (fun q => by exfalso; grind), (fun q => by exfalso; grind)⟩
        · refine g_iconst (v := 1) dX7_readLine_49 (by decide) ?_
          refine g_goto (tgt := 54) dX7_readLine_50 (by decide) ?_
          refine g_iconst (v := 5) dX7_readLine_54 (by decide) ?_
          refine cl_X7_125 (c := 60) (As := [.int 1, .int 5]) rfl (c_X7_needs_s (G := G) hs hu68  1 5 (by first | trivial | decide | lia | grind) (by first | trivial | decide | lia | grind) (d + 3)) rfl (by omega) rfl rfl (Nat.le_of_ble_eq_true rfl) dX7_readLine_55 (fun r119 u120 q121 => ?_)
          obtain ⟨rfl, mq121⟩ := q121
          obtain ⟨hu120, gu120, ku1200, ku1201, ku1202⟩ := mq121
          have fu120 : fk [60, 66, 67, 68] [3, 13, 22, 28] u u120 := fk_tr fu68 gu120 (by decide) (by decide)
          have rfu120 : rf u120 := rf_mono rfu68 gu120 (fun q => (ku1200 q).1) (by decide) (by decide) (by decide) (by decide)
          have T122 : u120.1 60 7 = t1 := (fk_at gu120 (by decide)).trans T70
          have T123 : u120.1 60 14 = t2 := (fk_at gu120 (by decide)).trans T71
          have T124 : u120.1 60 15 = t3 := (fk_at gu120 (by decide)).trans T72
          have T125 : u120.1 60 16 = t4 := (fk_at gu120 (by decide)).trans T73
          obtain ⟨t126, Tt126⟩ : ∃ t, u120.1 60 18 = t := ⟨_, rfl⟩
          have Rt126 : 0 ≤ t126 ∧ t126 ≤ 6 := by rw [← Tt126]; exact iv_at hu120 _ _ rfl
          obtain ⟨t127, Tt127⟩ : ∃ t, u120.1 60 19 = t := ⟨_, rfl⟩
          have FV : u120.1 60 18 = 2 ∧ u120.1 60 19 = u.1 60 15 := ⟨by rw [Tt126]; grind, by rw [Tt127]; grind⟩
          refine g_aload_n dX7_readLine_58 rfl ?_
          refine cl_X7_133 (c := 60) (As := []) rfl (c_X7_next_s (G := G) hs hu120    (d + 2)) rfl (by omega) rfl rfl (Nat.le_of_ble_eq_true rfl) dX7_readLine_59 (fun r128 u129 q130 => ?_)
          obtain ⟨rfl, mq130⟩ := q130
          obtain ⟨hu129, gu129, ku1290, ku1291, ku1292, ku1293, ku1294, ku1295⟩ := mq130
          have fu129 : fk [60, 66, 67, 68] [3, 13, 22, 28] u u129 := fk_tr fu120 gu129 (by decide) (by decide)
          have rfu129 : rf u129 := rf_mono rfu120 gu129 ku1290 (by decide) (by decide) (by decide) (by decide)
          have T131 : u129.1 60 7 = t1 := (fk_at gu129 (by decide)).trans T122
          obtain ⟨t132, Tt132⟩ : ∃ t, u129.1 60 14 = t := ⟨_, rfl⟩
          have Rt132 : 0 ≤ t132 ∧ t132 ≤ 160 := by rw [← Tt132]; exact iv_at hu129 _ _ rfl
          obtain ⟨t133, Tt133⟩ : ∃ t, u129.1 60 15 = t := ⟨_, rfl⟩
          have Rt133 : 0 ≤ t133 ∧ t133 ≤ 160 := by rw [← Tt133]; exact iv_at hu129 _ _ rfl
          obtain ⟨t134, Tt134⟩ : ∃ t, u129.1 60 16 = t := ⟨_, rfl⟩
          obtain ⟨t135, Tt135⟩ : ∃ t, u129.1 60 18 = t := ⟨_, rfl⟩
          have Rt135 : 0 ≤ t135 ∧ t135 ≤ 6 := by rw [← Tt135]; exact iv_at hu129 _ _ rfl
          obtain ⟨t136, Tt136⟩ : ∃ t, u129.1 60 19 = t := ⟨_, rfl⟩
          have SB := Sr_bad (k := 2) p0 (by decide) FV.1 (FV.2.trans HK.1.symm) ⟨ku1294, fun q => ⟨(ku1295 q).2.2.2.2.1, (ku1295 q).2.2.2.2.2⟩⟩ ((fk_at (c := 60) (i := 13) gu129 (by decide)).trans ((fk_at (c := 60) (i := 13) gu120 (by decide)).trans (fk_at (c := 60) (i := 13) gu68 (by decide)))) ((fk_c (c := 69) gu129 (by decide)).trans ((fk_c (c := 69) gu120 (by decide)).trans (fk_c (c := 69) gu68 (by decide))))
          have F3 : u129.1 60 18 = 2 := ((ku1295 (by rw [FV.1]; decide)).2.2.2.2.1).trans FV.1
          have SL : Sr f N u129 (pLine f N a) := by rw [pLine_2 H4 (PL.trans (by have := PK; unfold PLK at this; grind))]; exact SB
          refine g_aload_n dX7_readLine_62 rfl ?_
          refine f_X7_91 rfl rfl dX7_readLine_63 ?_
          refine g_topi (fun x137 ex137 => ?_)
          have rx137 : 0 ≤ x137 ∧ x137 ≤ 6 := by rw [ex137]; exact iv_at hu129 _ _ rfl
          have qx137 : x137 = t135 := ex137.trans Tt135
          refine g_if_le (tgt := 70) dX7_readLine_66 (by decide) (fun c138 => ?_) (fun c138 => ?_)
          · exfalso; grind
          · exact g_vret dX7_readLine_69 rfl ⟨rfl, hu129, fu129, rfu129, (by first | rfl | (rw [Tt135]; grind) | rw [Tt135]), (by first | rfl | (rw [Tt135, Tt133]; grind) | rw [Tt135, Tt133]), SL, (fun q => by exfalso; grind), (fun q => by exfalso; grind)⟩
    · refine g_iconst (v := 1) dX7_readLine_25 (by decide) ?_
      refine g_goto (tgt := 30) dX7_readLine_26 (by decide) ?_
      refine g_iconst (v := 2) dX7_readLine_30 (by decide) ?_
      refine cl_X7_125 (c := 60) (As := [.int 1, .int 2]) rfl (c_X7_needs_s (G := G) hs hu  1 2 (by first | trivial | decide | lia | grind) (by first | trivial | decide | lia | grind) (d + 3)) rfl (by omega) rfl rfl (Nat.le_of_ble_eq_true rfl) dX7_readLine_31 (fun r139 u140 q141 => ?_)
      obtain ⟨rfl, mq141⟩ := q141
      obtain ⟨hu140, gu140, ku1400, ku1401, ku1402⟩ := mq141
      have fu140 : fk [60, 66, 67, 68] [3, 13, 22, 28] u u140 := fk_tr f0 gu140 (by decide) (by decide)
      have rfu140 : rf u140 := rf_mono hrf gu140 (fun q => (ku1400 q).1) (by decide) (by decide) (by decide) (by decide)
      have T142 : u140.1 60 7 = t1 := (fk_at gu140 (by decide)).trans Tt1
      have T143 : u140.1 60 14 = t2 := (fk_at gu140 (by decide)).trans Tt2
      have T144 : u140.1 60 15 = t3 := (fk_at gu140 (by decide)).trans Tt3
      have T145 : u140.1 60 16 = t4 := (fk_at gu140 (by decide)).trans Tt4
      obtain ⟨t146, Tt146⟩ : ∃ t, u140.1 60 18 = t := ⟨_, rfl⟩
      have Rt146 : 0 ≤ t146 ∧ t146 ≤ 6 := by rw [← Tt146]; exact iv_at hu140 _ _ rfl
      obtain ⟨t147, Tt147⟩ : ∃ t, u140.1 60 19 = t := ⟨_, rfl⟩
      refine g_aload_n dX7_readLine_34 rfl ?_
      refine g_iload_n dX7_readLine_35 rfl ?_
      refine g_iconst (v := 5) dX7_readLine_36 (by decide) ?_
      refine g_icmp_eq (tgt := 49) dX7_readLine_37 (by decide) (fun c148 => ?_) (fun c148 => ?_)
      · refine g_iconst (v := 1) dX7_readLine_49 (by decide) ?_
        refine g_goto (tgt := 54) dX7_readLine_50 (by decide) ?_
        refine g_iconst (v := 5) dX7_readLine_54 (by decide) ?_
        refine cl_X7_125 (c := 60) (As := [.int 1, .int 5]) rfl (c_X7_needs_s (G := G) hs hu140  1 5 (by first | trivial | decide | lia | grind) (by first | trivial | decide | lia | grind) (d + 3)) rfl (by omega) rfl rfl (Nat.le_of_ble_eq_true rfl) dX7_readLine_55 (fun r149 u150 q151 => ?_)
        obtain ⟨rfl, mq151⟩ := q151
        obtain ⟨hu150, gu150, ku1500, ku1501, ku1502⟩ := mq151
        have fu150 : fk [60, 66, 67, 68] [3, 13, 22, 28] u u150 := fk_tr fu140 gu150 (by decide) (by decide)
        have rfu150 : rf u150 := rf_mono rfu140 gu150 (fun q => (ku1500 q).1) (by decide) (by decide) (by decide) (by decide)
        have T152 : u150.1 60 7 = t1 := (fk_at gu150 (by decide)).trans T142
        have T153 : u150.1 60 14 = t2 := (fk_at gu150 (by decide)).trans T143
        have T154 : u150.1 60 15 = t3 := (fk_at gu150 (by decide)).trans T144
        have T155 : u150.1 60 16 = t4 := (fk_at gu150 (by decide)).trans T145
        obtain ⟨t156, Tt156⟩ : ∃ t, u150.1 60 18 = t := ⟨_, rfl⟩
        have Rt156 : 0 ≤ t156 ∧ t156 ≤ 6 := by rw [← Tt156]; exact iv_at hu150 _ _ rfl
        obtain ⟨t157, Tt157⟩ : ∃ t, u150.1 60 19 = t := ⟨_, rfl⟩
        have FV : u150.1 60 18 = 0 := by rw [Tt156]; grind
        refine g_aload_n dX7_readLine_58 rfl ?_
        refine cl_X7_133 (c := 60) (As := []) rfl (c_X7_next_s (G := G) hs hu150    (d + 2)) rfl (by omega) rfl rfl (Nat.le_of_ble_eq_true rfl) dX7_readLine_59 (fun r158 u159 q160 => ?_)
        obtain ⟨rfl, mq160⟩ := q160
        obtain ⟨hu159, gu159, ku1590, ku1591, ku1592, ku1593, ku1594, ku1595⟩ := mq160
        have fu159 : fk [60, 66, 67, 68] [3, 13, 22, 28] u u159 := fk_tr fu150 gu159 (by decide) (by decide)
        have rfu159 : rf u159 := rf_mono rfu150 gu159 ku1590 (by decide) (by decide) (by decide) (by decide)
        have T161 : u159.1 60 7 = t1 := (fk_at gu159 (by decide)).trans T152
        obtain ⟨t162, Tt162⟩ : ∃ t, u159.1 60 14 = t := ⟨_, rfl⟩
        have Rt162 : 0 ≤ t162 ∧ t162 ≤ 160 := by rw [← Tt162]; exact iv_at hu159 _ _ rfl
        obtain ⟨t163, Tt163⟩ : ∃ t, u159.1 60 15 = t := ⟨_, rfl⟩
        have Rt163 : 0 ≤ t163 ∧ t163 ≤ 160 := by rw [← Tt163]; exact iv_at hu159 _ _ rfl
        obtain ⟨t164, Tt164⟩ : ∃ t, u159.1 60 16 = t := ⟨_, rfl⟩
        obtain ⟨t165, Tt165⟩ : ∃ t, u159.1 60 18 = t := ⟨_, rfl⟩
        have Rt165 : 0 ≤ t165 ∧ t165 ≤ 6 := by rw [← Tt165]; exact iv_at hu159 _ _ rfl
        obtain ⟨t166, Tt166⟩ : ∃ t, u159.1 60 19 = t := ⟨_, rfl⟩
        have SN := Sr_next hN p0 A1 A1n HT A4 FV ⟨ku1594, fun q => ⟨(ku1595 q).2.2.2.2.1, (ku1595 q).2.2.2.2.2⟩⟩ ((fk_at (c := 60) (i := 13) gu150 (by decide)).trans (fk_at (c := 60) (i := 13) gu140 (by decide))) ((fk_at (c := 60) (i := 14) gu150 (by decide)).trans (fk_at (c := 60) (i := 14) gu140 (by decide))) ((fk_c (c := 69) gu150 (by decide)).trans (fk_c (c := 69) gu140 (by decide))) ((fk_at (c := 60) (i := 13) gu159 (by decide)).trans ((fk_at (c := 60) (i := 13) gu150 (by decide)).trans (fk_at (c := 60) (i := 13) gu140 (by decide)))) ((fk_c (c := 69) gu159 (by decide)).trans ((fk_c (c := 69) gu150 (by decide)).trans (fk_c (c := 69) gu140 (by decide))))
        have PQ : pl f (u.1 60 16) (u.1 60 15) (u.1 60 14) = x65 ∧ ¬ x65 = -1 := by have := PK; unfold PLK at this; grind
        refine g_aload_n dX7_readLine_62 rfl ?_
        refine f_X7_91 rfl rfl dX7_readLine_63 ?_
        refine g_topi (fun x167 ex167 => ?_)
        have rx167 : 0 ≤ x167 ∧ x167 ≤ 6 := by rw [ex167]; exact iv_at hu159 _ _ rfl
        have qx167 : x167 = t165 := ex167.trans Tt165
        refine g_if_le (tgt := 70) dX7_readLine_66 (by decide) (fun c168 => ?_) (fun c168 => ?_)
        · have F3 : u159.1 60 18 = 0 := by have := iv_at hu159 60 18 (lo := 0) (hi := 6) rfl; grind
          have Z7 : u159.1 60 7 = a.2.2.2.1 := ((fk_at (c := 60) (i := 7) gu159 (by decide)).trans ((fk_at (c := 60) (i := 7) gu150 (by decide)).trans (fk_at (c := 60) (i := 7) gu140 (by decide)))).trans p2
          have Z10 : u159.1 60 10 = a.2.2.1 := ((fk_at (c := 60) (i := 10) gu159 (by decide)).trans ((fk_at (c := 60) (i := 10) gu150 (by decide)).trans (fk_at (c := 60) (i := 10) gu140 (by decide)))).trans p3
          have Z11 : hi9 a.2.2.1 (u159.1 60 11) := by rw [((fk_at (c := 60) (i := 11) gu159 (by decide)).trans ((fk_at (c := 60) (i := 11) gu150 (by decide)).trans (fk_at (c := 60) (i := 11) gu140 (by decide))))]; exact p4
          have RV : Rw u159 W := Rw_cg p5 ((fk_at (c := 60) (i := 7) gu159 (by decide)).trans ((fk_at (c := 60) (i := 7) gu150 (by decide)).trans (fk_at (c := 60) (i := 7) gu140 (by decide)))) ((fk_c (c := 66) gu159 (by decide)).trans ((fk_c (c := 66) gu150 (by decide)).trans (fk_c (c := 66) gu140 (by decide)))) ((fk_c (c := 67) gu159 (by decide)).trans ((fk_c (c := 67) gu150 (by decide)).trans (fk_c (c := 67) gu140 (by decide)))) ((fk_c (c := 68) gu159 (by decide)).trans ((fk_c (c := 68) gu150 (by decide)).trans (fk_c (c := 68) gu140 (by decide))))
          refine g_iload_n dX7_readLine_70 rfl ?_
          refine g_iconst (v := 5) dX7_readLine_71 (by decide) ?_
          refine g_icmp_ne (tgt := 82) dX7_readLine_72 (by decide) (fun c169 => ?_) (fun c169 => ?_)
          · refine g_aload_n dX7_readLine_82 rfl ?_
            refine g_iload_n dX7_readLine_83 rfl ?_
            refine cl_X7_146 (c := 60) (As := [.int x65]) rfl (c_X7_readStuff_t (G := G) hs hu159 rfu159  x65 f N (0, a.2.1, a.2.2.1, a.2.2.2.1, (tk f N a.2.2.2.2).2.2.2) W (by rw [Z7, ← p2]; grind) SN RV (d)) rfl (by omega) rfl rfl (Nat.le_of_ble_eq_true rfl) dX7_readLine_84 (fun r170 u171 q172 => ?_)
            obtain ⟨rfl, mq172⟩ := q172
            obtain ⟨hu171, gu171, rfu171, ku1710, ku1711, ku1712, ku1713, ku1714⟩ := mq172
            have fu171 : fk [60, 66, 67, 68] [3, 13, 22, 28] u u171 := fk_tr fu159 gu171 (by decide) (by decide)
            obtain ⟨t173, Tt173⟩ : ∃ t, u171.1 60 7 = t := ⟨_, rfl⟩
            have Rt173 : 0 ≤ t173 ∧ t173 ≤ 8 := by rw [← Tt173]; exact iv_at hu171 _ _ rfl
            obtain ⟨t174, Tt174⟩ : ∃ t, u171.1 60 14 = t := ⟨_, rfl⟩
            have Rt174 : 0 ≤ t174 ∧ t174 ≤ 160 := by rw [← Tt174]; exact iv_at hu171 _ _ rfl
            obtain ⟨t175, Tt175⟩ : ∃ t, u171.1 60 15 = t := ⟨_, rfl⟩
            have Rt175 : 0 ≤ t175 ∧ t175 ≤ 160 := by rw [← Tt175]; exact iv_at hu171 _ _ rfl
            obtain ⟨t176, Tt176⟩ : ∃ t, u171.1 60 16 = t := ⟨_, rfl⟩
            obtain ⟨t177, Tt177⟩ : ∃ t, u171.1 60 18 = t := ⟨_, rfl⟩
            have Rt177 : 0 ≤ t177 ∧ t177 ≤ 6 := by rw [← Tt177]; exact iv_at hu171 _ _ rfl
            obtain ⟨t178, Tt178⟩ : ∃ t, u171.1 60 19 = t := ⟨_, rfl⟩
            refine g_aload_n dX7_readLine_87 rfl ?_
            refine f_X7_91 rfl rfl dX7_readLine_88 ?_
            refine g_topi (fun x179 ex179 => ?_)
            have rx179 : 0 ≤ x179 ∧ x179 ≤ 6 := by rw [ex179]; exact iv_at hu171 _ _ rfl
            have qx179 : x179 = t177 := ex179.trans Tt177
            refine g_if_ne (tgt := 112) dX7_readLine_91 (by decide) (fun c180 => ?_) (fun c180 => ?_)
            · have ST : stp u171 u171 := Or.inl ⟨by grind, rfl, rfl⟩
              refine g_aload_n dX7_readLine_112 rfl ?_
              refine cl_X7_133 (c := 60) (As := []) rfl (c_X7_next_s (G := G) hs hu171    (d + 2)) rfl (by omega) rfl rfl (Nat.le_of_ble_eq_true rfl) dX7_readLine_113 (fun r181 u182 q183 => ?_)
              obtain ⟨rfl, mq183⟩ := q183
              obtain ⟨hu182, gu182, ku1820, ku1821, ku1822, ku1823, ku1824, ku1825⟩ := mq183
              have fu182 : fk [60, 66, 67, 68] [3, 13, 22, 28] u u182 := fk_tr fu171 gu182 (by decide) (by decide)
              have rfu182 : rf u182 := rf_mono rfu171 gu182 ku1820 (by decide) (by decide) (by decide) (by decide)
              have T184 : u182.1 60 7 = t173 := (fk_at gu182 (by decide)).trans Tt173
              obtain ⟨t185, Tt185⟩ : ∃ t, u182.1 60 14 = t := ⟨_, rfl⟩
              have Rt185 : 0 ≤ t185 ∧ t185 ≤ 160 := by rw [← Tt185]; exact iv_at hu182 _ _ rfl
              obtain ⟨t186, Tt186⟩ : ∃ t, u182.1 60 15 = t := ⟨_, rfl⟩
              have Rt186 : 0 ≤ t186 ∧ t186 ≤ 160 := by rw [← Tt186]; exact iv_at hu182 _ _ rfl
              obtain ⟨t187, Tt187⟩ : ∃ t, u182.1 60 16 = t := ⟨_, rfl⟩
              obtain ⟨t188, Tt188⟩ : ∃ t, u182.1 60 18 = t := ⟨_, rfl⟩
              have Rt188 : 0 ≤ t188 ∧ t188 ≤ 6 := by rw [← Tt188]; exact iv_at hu182 _ _ rfl
              obtain ⟨t189, Tt189⟩ : ∃ t, u182.1 60 19 = t := ⟨_, rfl⟩
              have SS := Sr_stop hN ku1712 ST ⟨ku1824, fun q => ⟨(ku1825 q).2.2.2.2.1, (ku1825 q).2.2.2.2.2⟩⟩ rfl rfl rfl (fk_at gu182 (by decide)) (fk_c gu182 (by decide))
              have Y0 : u182.1 60 18 = 0 → u171.1 60 18 = 0 := fun q => by grind
              have PE : pLine f N a = pAdd (pTake f N (rsf f N (0, a.2.1, a.2.2.1, a.2.2.2.1, (tk f N a.2.2.2.2).2.2.2) x65 (u159.1 60 7)) 3 0).1 := by
                by_cases h9 : x65 = 4
                · rw [pLine_R (k := x65) H4 (PL.trans PQ.1) h9 (by rw [← p2]; grind), rsf_R h9]
                · rw [pLine_M (k := x65) H4 (PL.trans PQ.1) PQ.2 (by grind) h9 (by rw [← p2]; grind)]; exact Eq.symm (rsf_M (f := f) (n := N) (b := (0, a.2.1, a.2.2.1, a.2.2.2.1, (tk f N a.2.2.2.2).2.2.2)) (k := x65) h9 Z7)
              have SL : Sr f N u182 (pLine f N a) := by rw [PE]; exact Sr_add SS
              have TL : u182.1 60 18 = 0 → u182.1 60 7 = (pLine f N a).2.2.2.1 ∧ u182.1 60 10 = (pLine f N a).2.2.1 ∧ hi9 (pLine f N a).2.2.1 (u182.1 60 11) := fun q => by
                have ht := rsf_told (Sr_0 SS q)
                rw [PE, ht.1, ht.2, (fk_at (c := 60) (i := 7) gu182 (by decide)), (fk_at (c := 60) (i := 10) gu182 (by decide)), (fk_at (c := 60) (i := 11) gu182 (by decide)), ku1713, Z7]
                exact ⟨rfl, (fk_at gu171 (by decide)).trans Z10, by rw [fk_at (c := 60) (i := 11) gu171 (by decide)]; exact Z11⟩
              have RL : u182.1 60 18 = 0 → Rw u182 (wLine f N a W) := fun q => by rw [wLine_S (k := x65) (PL.trans PQ.1) (by grind), ← Z7]; exact Rw_cg (ku1714 (Y0 q)) (fk_at (c := 60) (i := 7) gu182 (by decide)) (fk_c (c := 66) gu182 (by decide)) (fk_c (c := 67) gu182 (by decide)) (fk_c (c := 68) gu182 (by decide))
              exact g_vret dX7_readLine_116 rfl ⟨rfl, hu182, fu182, rfu182, (by first | rfl | (rw [Tt188]; grind) | rw [Tt188]), (by first | rfl | (rw [Tt188, Tt186]; grind) | rw [Tt188, Tt186]), SL, TL, RL⟩
            · refine g_aload_n dX7_readLine_94 rfl ?_
              refine g_aload_n dX7_readLine_95 rfl ?_
              refine f_X7_111 rfl rfl dX7_readLine_96 ?_
              refine g_topi (fun x190 ex190 => ?_)
              have qx190 : x190 = t176 := ex190.trans Tt176
              refine g_iconst (v := 3) dX7_readLine_99 (by decide) ?_
              refine g_icmp_ne (tgt := 107) dX7_readLine_100 (by decide) (fun c191 => ?_) (fun c191 => ?_)
              · refine g_iconst (v := 0) dX7_readLine_107 (by decide) ?_
                refine g_iconst (v := 2) dX7_readLine_108 (by decide) ?_
                refine cl_X7_125 (c := 60) (As := [.int 0, .int 2]) rfl (c_X7_needs_s (G := G) hs hu171  0 2 (by first | trivial | decide | lia | grind) (by first | trivial | decide | lia | grind) (d + 3)) rfl (by omega) rfl rfl (Nat.le_of_ble_eq_true rfl) dX7_readLine_109 (fun r192 u193 q194 => ?_)
                obtain ⟨rfl, mq194⟩ := q194
                obtain ⟨hu193, gu193, ku1930, ku1931, ku1932⟩ := mq194
                have fu193 : fk [60, 66, 67, 68] [3, 13, 22, 28] u u193 := fk_tr fu171 gu193 (by decide) (by decide)
                have rfu193 : rf u193 := rf_mono rfu171 gu193 (fun q => (ku1930 q).1) (by decide) (by decide) (by decide) (by decide)
                have T195 : u193.1 60 7 = t173 := (fk_at gu193 (by decide)).trans Tt173
                have T196 : u193.1 60 14 = t174 := (fk_at gu193 (by decide)).trans Tt174
                have T197 : u193.1 60 15 = t175 := (fk_at gu193 (by decide)).trans Tt175
                have T198 : u193.1 60 16 = t176 := (fk_at gu193 (by decide)).trans Tt176
                obtain ⟨t199, Tt199⟩ : ∃ t, u193.1 60 18 = t := ⟨_, rfl⟩
                have Rt199 : 0 ≤ t199 ∧ t199 ≤ 6 := by rw [← Tt199]; exact iv_at hu193 _ _ rfl
                obtain ⟨t200, Tt200⟩ : ∃ t, u193.1 60 19 = t := ⟨_, rfl⟩
                have ST : stp u171 u193 := Or.inr (Or.inl ⟨by grind, by grind, by rw [Tt199]; grind, by rw [Tt200]; grind⟩)
                refine g_aload_n dX7_readLine_112 rfl ?_
                refine cl_X7_133 (c := 60) (As := []) rfl (c_X7_next_s (G := G) hs hu193    (d + 2)) rfl (by omega) rfl rfl (Nat.le_of_ble_eq_true rfl) dX7_readLine_113 (fun r201 u202 q203 => ?_)
                obtain ⟨rfl, mq203⟩ := q203
                obtain ⟨hu202, gu202, ku2020, ku2021, ku2022, ku2023, ku2024, ku2025⟩ := mq203
                have fu202 : fk [60, 66, 67, 68] [3, 13, 22, 28] u u202 := fk_tr fu193 gu202 (by decide) (by decide)
                have rfu202 : rf u202 := rf_mono rfu193 gu202 ku2020 (by decide) (by decide) (by decide) (by decide)
                have T204 : u202.1 60 7 = t173 := (fk_at gu202 (by decide)).trans T195
                obtain ⟨t205, Tt205⟩ : ∃ t, u202.1 60 14 = t := ⟨_, rfl⟩
                have Rt205 : 0 ≤ t205 ∧ t205 ≤ 160 := by rw [← Tt205]; exact iv_at hu202 _ _ rfl
                obtain ⟨t206, Tt206⟩ : ∃ t, u202.1 60 15 = t := ⟨_, rfl⟩
                have Rt206 : 0 ≤ t206 ∧ t206 ≤ 160 := by rw [← Tt206]; exact iv_at hu202 _ _ rfl
                obtain ⟨t207, Tt207⟩ : ∃ t, u202.1 60 16 = t := ⟨_, rfl⟩
                obtain ⟨t208, Tt208⟩ : ∃ t, u202.1 60 18 = t := ⟨_, rfl⟩
                have Rt208 : 0 ≤ t208 ∧ t208 ≤ 6 := by rw [← Tt208]; exact iv_at hu202 _ _ rfl
                obtain ⟨t209, Tt209⟩ : ∃ t, u202.1 60 19 = t := ⟨_, rfl⟩
                have SS := Sr_stop hN ku1712 ST ⟨ku2024, fun q => ⟨(ku2025 q).2.2.2.2.1, (ku2025 q).2.2.2.2.2⟩⟩ (fk_at gu193 (by decide)) (fk_at gu193 (by decide)) (fk_c gu193 (by decide)) (fk_at gu202 (by decide)) (fk_c gu202 (by decide))
                have Y0 : u202.1 60 18 = 0 → u171.1 60 18 = 0 := fun q => by grind
                have PE : pLine f N a = pAdd (pTake f N (rsf f N (0, a.2.1, a.2.2.1, a.2.2.2.1, (tk f N a.2.2.2.2).2.2.2) x65 (u159.1 60 7)) 3 0).1 := by
                  by_cases h9 : x65 = 4
                  · rw [pLine_R (k := x65) H4 (PL.trans PQ.1) h9 (by rw [← p2]; grind), rsf_R h9]
                  · rw [pLine_M (k := x65) H4 (PL.trans PQ.1) PQ.2 (by grind) h9 (by rw [← p2]; grind)]; exact Eq.symm (rsf_M (f := f) (n := N) (b := (0, a.2.1, a.2.2.1, a.2.2.2.1, (tk f N a.2.2.2.2).2.2.2)) (k := x65) h9 Z7)
                have SL : Sr f N u202 (pLine f N a) := by rw [PE]; exact Sr_add SS
                have TL : u202.1 60 18 = 0 → u202.1 60 7 = (pLine f N a).2.2.2.1 ∧ u202.1 60 10 = (pLine f N a).2.2.1 ∧ hi9 (pLine f N a).2.2.1 (u202.1 60 11) := fun q => by
                  have ht := rsf_told (Sr_0 SS q)
                  rw [PE, ht.1, ht.2, ((fk_at (c := 60) (i := 7) gu202 (by decide)).trans (fk_at (c := 60) (i := 7) gu193 (by decide))), ((fk_at (c := 60) (i := 10) gu202 (by decide)).trans (fk_at (c := 60) (i := 10) gu193 (by decide))), ((fk_at (c := 60) (i := 11) gu202 (by decide)).trans (fk_at (c := 60) (i := 11) gu193 (by decide))), ku1713, Z7]
                  exact ⟨rfl, (fk_at gu171 (by decide)).trans Z10, by rw [fk_at (c := 60) (i := 11) gu171 (by decide)]; exact Z11⟩
                have RL : u202.1 60 18 = 0 → Rw u202 (wLine f N a W) := fun q => by rw [wLine_S (k := x65) (PL.trans PQ.1) (by grind), ← Z7]; exact Rw_cg (ku1714 (Y0 q)) ((fk_at (c := 60) (i := 7) gu202 (by decide)).trans (fk_at (c := 60) (i := 7) gu193 (by decide))) ((fk_c (c := 66) gu202 (by decide)).trans (fk_c (c := 66) gu193 (by decide))) ((fk_c (c := 67) gu202 (by decide)).trans (fk_c (c := 67) gu193 (by decide))) ((fk_c (c := 68) gu202 (by decide)).trans (fk_c (c := 68) gu193 (by decide)))
                exact g_vret dX7_readLine_116 rfl ⟨rfl, hu202, fu202, rfu202, (by first | rfl | (rw [Tt208]; grind) | rw [Tt208]), (by first | rfl | (rw [Tt208, Tt206]; grind) | rw [Tt208, Tt206]), SL, TL, RL⟩
              · refine g_iconst (v := 1) dX7_readLine_103 (by decide) ?_
                refine g_goto (tgt := 108) dX7_readLine_104 (by decide) ?_
                refine g_iconst (v := 2) dX7_readLine_108 (by decide) ?_
                refine cl_X7_125 (c := 60) (As := [.int 1, .int 2]) rfl (c_X7_needs_s (G := G) hs hu171  1 2 (by first | trivial | decide | lia | grind) (by first | trivial | decide | lia | grind) (d + 3)) rfl (by omega) rfl rfl (Nat.le_of_ble_eq_true rfl) dX7_readLine_109 (fun r210 u211 q212 => ?_)
                obtain ⟨rfl, mq212⟩ := q212
                obtain ⟨hu211, gu211, ku2110, ku2111, ku2112⟩ := mq212
                have fu211 : fk [60, 66, 67, 68] [3, 13, 22, 28] u u211 := fk_tr fu171 gu211 (by decide) (by decide)
                have rfu211 : rf u211 := rf_mono rfu171 gu211 (fun q => (ku2110 q).1) (by decide) (by decide) (by decide) (by decide)
                have T213 : u211.1 60 7 = t173 := (fk_at gu211 (by decide)).trans Tt173
                have T214 : u211.1 60 14 = t174 := (fk_at gu211 (by decide)).trans Tt174
                have T215 : u211.1 60 15 = t175 := (fk_at gu211 (by decide)).trans Tt175
                have T216 : u211.1 60 16 = t176 := (fk_at gu211 (by decide)).trans Tt176
                obtain ⟨t217, Tt217⟩ : ∃ t, u211.1 60 18 = t := ⟨_, rfl⟩
                have Rt217 : 0 ≤ t217 ∧ t217 ≤ 6 := by rw [← Tt217]; exact iv_at hu211 _ _ rfl
                obtain ⟨t218, Tt218⟩ : ∃ t, u211.1 60 19 = t := ⟨_, rfl⟩
                have ST : stp u171 u211 := Or.inr (Or.inr ⟨by grind, by grind, by rw [Tt217]; grind⟩)
                refine g_aload_n dX7_readLine_112 rfl ?_
                refine cl_X7_133 (c := 60) (As := []) rfl (c_X7_next_s (G := G) hs hu211    (d + 2)) rfl (by omega) rfl rfl (Nat.le_of_ble_eq_true rfl) dX7_readLine_113 (fun r219 u220 q221 => ?_)
                obtain ⟨rfl, mq221⟩ := q221
                obtain ⟨hu220, gu220, ku2200, ku2201, ku2202, ku2203, ku2204, ku2205⟩ := mq221
                have fu220 : fk [60, 66, 67, 68] [3, 13, 22, 28] u u220 := fk_tr fu211 gu220 (by decide) (by decide)
                have rfu220 : rf u220 := rf_mono rfu211 gu220 ku2200 (by decide) (by decide) (by decide) (by decide)
                have T222 : u220.1 60 7 = t173 := (fk_at gu220 (by decide)).trans T213
                obtain ⟨t223, Tt223⟩ : ∃ t, u220.1 60 14 = t := ⟨_, rfl⟩
                have Rt223 : 0 ≤ t223 ∧ t223 ≤ 160 := by rw [← Tt223]; exact iv_at hu220 _ _ rfl
                obtain ⟨t224, Tt224⟩ : ∃ t, u220.1 60 15 = t := ⟨_, rfl⟩
                have Rt224 : 0 ≤ t224 ∧ t224 ≤ 160 := by rw [← Tt224]; exact iv_at hu220 _ _ rfl
                obtain ⟨t225, Tt225⟩ : ∃ t, u220.1 60 16 = t := ⟨_, rfl⟩
                obtain ⟨t226, Tt226⟩ : ∃ t, u220.1 60 18 = t := ⟨_, rfl⟩
                have Rt226 : 0 ≤ t226 ∧ t226 ≤ 6 := by rw [← Tt226]; exact iv_at hu220 _ _ rfl
                obtain ⟨t227, Tt227⟩ : ∃ t, u220.1 60 19 = t := ⟨_, rfl⟩
                have SS := Sr_stop hN ku1712 ST ⟨ku2204, fun q => ⟨(ku2205 q).2.2.2.2.1, (ku2205 q).2.2.2.2.2⟩⟩ (fk_at gu211 (by decide)) (fk_at gu211 (by decide)) (fk_c gu211 (by decide)) (fk_at gu220 (by decide)) (fk_c gu220 (by decide))
                have Y0 : u220.1 60 18 = 0 → u171.1 60 18 = 0 := fun q => by grind
                have PE : pLine f N a = pAdd (pTake f N (rsf f N (0, a.2.1, a.2.2.1, a.2.2.2.1, (tk f N a.2.2.2.2).2.2.2) x65 (u159.1 60 7)) 3 0).1 := by
                  by_cases h9 : x65 = 4
                  · rw [pLine_R (k := x65) H4 (PL.trans PQ.1) h9 (by rw [← p2]; grind), rsf_R h9]
                  · rw [pLine_M (k := x65) H4 (PL.trans PQ.1) PQ.2 (by grind) h9 (by rw [← p2]; grind)]; exact Eq.symm (rsf_M (f := f) (n := N) (b := (0, a.2.1, a.2.2.1, a.2.2.2.1, (tk f N a.2.2.2.2).2.2.2)) (k := x65) h9 Z7)
                have SL : Sr f N u220 (pLine f N a) := by rw [PE]; exact Sr_add SS
                have TL : u220.1 60 18 = 0 → u220.1 60 7 = (pLine f N a).2.2.2.1 ∧ u220.1 60 10 = (pLine f N a).2.2.1 ∧ hi9 (pLine f N a).2.2.1 (u220.1 60 11) := fun q => by
                  have ht := rsf_told (Sr_0 SS q)
                  rw [PE, ht.1, ht.2, ((fk_at (c := 60) (i := 7) gu220 (by decide)).trans (fk_at (c := 60) (i := 7) gu211 (by decide))), ((fk_at (c := 60) (i := 10) gu220 (by decide)).trans (fk_at (c := 60) (i := 10) gu211 (by decide))), ((fk_at (c := 60) (i := 11) gu220 (by decide)).trans (fk_at (c := 60) (i := 11) gu211 (by decide))), ku1713, Z7]
                  exact ⟨rfl, (fk_at gu171 (by decide)).trans Z10, by rw [fk_at (c := 60) (i := 11) gu171 (by decide)]; exact Z11⟩
                have RL : u220.1 60 18 = 0 → Rw u220 (wLine f N a W) := fun q => by rw [wLine_S (k := x65) (PL.trans PQ.1) (by grind), ← Z7]; exact Rw_cg (ku1714 (Y0 q)) ((fk_at (c := 60) (i := 7) gu220 (by decide)).trans (fk_at (c := 60) (i := 7) gu211 (by decide))) ((fk_c (c := 66) gu220 (by decide)).trans (fk_c (c := 66) gu211 (by decide))) ((fk_c (c := 67) gu220 (by decide)).trans (fk_c (c := 67) gu211 (by decide))) ((fk_c (c := 68) gu220 (by decide)).trans (fk_c (c := 68) gu211 (by decide)))
                exact g_vret dX7_readLine_116 rfl ⟨rfl, hu220, fu220, rfu220, (by first | rfl | (rw [Tt226]; grind) | rw [Tt226]), (by first | rfl | (rw [Tt226, Tt224]; grind) | rw [Tt226, Tt224]), SL, TL, RL⟩
          · refine g_aload_n dX7_readLine_75 rfl ?_
            refine cl_X7_143 (c := 60) (As := []) rfl (c_X7_readHave_t (G := G) hs hu159 rfu159  f N (0, a.2.1, a.2.2.1, a.2.2.2.1, (tk f N a.2.2.2.2).2.2.2) W SN F3 Z10 Z11 RV (d)) rfl (by omega) rfl rfl (Nat.le_of_ble_eq_true rfl) dX7_readLine_76 (fun r228 u229 q230 => ?_)
            obtain ⟨rfl, mq230⟩ := q230
            obtain ⟨hu229, gu229, rfu229, ku2290, ku2291, ku2292, ku2293, ku2294⟩ := mq230
            have fu229 : fk [60, 66, 67, 68] [3, 13, 22, 28] u u229 := fk_tr fu159 gu229 (by decide) (by decide)
            have T231 : u229.1 60 7 = t1 := (fk_at gu229 (by decide)).trans T161
            obtain ⟨t232, Tt232⟩ : ∃ t, u229.1 60 14 = t := ⟨_, rfl⟩
            have Rt232 : 0 ≤ t232 ∧ t232 ≤ 160 := by rw [← Tt232]; exact iv_at hu229 _ _ rfl
            obtain ⟨t233, Tt233⟩ : ∃ t, u229.1 60 15 = t := ⟨_, rfl⟩
            have Rt233 : 0 ≤ t233 ∧ t233 ≤ 160 := by rw [← Tt233]; exact iv_at hu229 _ _ rfl
            obtain ⟨t234, Tt234⟩ : ∃ t, u229.1 60 16 = t := ⟨_, rfl⟩
            obtain ⟨t235, Tt235⟩ : ∃ t, u229.1 60 18 = t := ⟨_, rfl⟩
            have Rt235 : 0 ≤ t235 ∧ t235 ≤ 6 := by rw [← Tt235]; exact iv_at hu229 _ _ rfl
            obtain ⟨t236, Tt236⟩ : ∃ t, u229.1 60 19 = t := ⟨_, rfl⟩
            refine g_goto (tgt := 87) dX7_readLine_79 (by decide) ?_
            refine g_aload_n dX7_readLine_87 rfl ?_
            refine f_X7_91 rfl rfl dX7_readLine_88 ?_
            refine g_topi (fun x237 ex237 => ?_)
            have rx237 : 0 ≤ x237 ∧ x237 ≤ 6 := by rw [ex237]; exact iv_at hu229 _ _ rfl
            have qx237 : x237 = t235 := ex237.trans Tt235
            refine g_if_ne (tgt := 112) dX7_readLine_91 (by decide) (fun c238 => ?_) (fun c238 => ?_)
            · have ST : stp u229 u229 := Or.inl ⟨by grind, rfl, rfl⟩
              refine g_aload_n dX7_readLine_112 rfl ?_
              refine cl_X7_133 (c := 60) (As := []) rfl (c_X7_next_s (G := G) hs hu229    (d + 2)) rfl (by omega) rfl rfl (Nat.le_of_ble_eq_true rfl) dX7_readLine_113 (fun r239 u240 q241 => ?_)
              obtain ⟨rfl, mq241⟩ := q241
              obtain ⟨hu240, gu240, ku2400, ku2401, ku2402, ku2403, ku2404, ku2405⟩ := mq241
              have fu240 : fk [60, 66, 67, 68] [3, 13, 22, 28] u u240 := fk_tr fu229 gu240 (by decide) (by decide)
              have rfu240 : rf u240 := rf_mono rfu229 gu240 ku2400 (by decide) (by decide) (by decide) (by decide)
              have T242 : u240.1 60 7 = t1 := (fk_at gu240 (by decide)).trans T231
              obtain ⟨t243, Tt243⟩ : ∃ t, u240.1 60 14 = t := ⟨_, rfl⟩
              have Rt243 : 0 ≤ t243 ∧ t243 ≤ 160 := by rw [← Tt243]; exact iv_at hu240 _ _ rfl
              obtain ⟨t244, Tt244⟩ : ∃ t, u240.1 60 15 = t := ⟨_, rfl⟩
              have Rt244 : 0 ≤ t244 ∧ t244 ≤ 160 := by rw [← Tt244]; exact iv_at hu240 _ _ rfl
              obtain ⟨t245, Tt245⟩ : ∃ t, u240.1 60 16 = t := ⟨_, rfl⟩
              obtain ⟨t246, Tt246⟩ : ∃ t, u240.1 60 18 = t := ⟨_, rfl⟩
              have Rt246 : 0 ≤ t246 ∧ t246 ≤ 6 := by rw [← Tt246]; exact iv_at hu240 _ _ rfl
              obtain ⟨t247, Tt247⟩ : ∃ t, u240.1 60 19 = t := ⟨_, rfl⟩
              have SS := Sr_stop hN ku2292 ST ⟨ku2404, fun q => ⟨(ku2405 q).2.2.2.2.1, (ku2405 q).2.2.2.2.2⟩⟩ rfl rfl rfl (fk_at gu240 (by decide)) (fk_c gu240 (by decide))
              have Y0 : u240.1 60 18 = 0 → u229.1 60 18 = 0 := fun q => by grind
              have SL : Sr f N u240 (pLine f N a) := by rw [pLine_H (k := x65) H4 (PL.trans PQ.1) (by grind)]; exact Sr_tell SS
              have TL : u240.1 60 18 = 0 → u240.1 60 7 = (pLine f N a).2.2.2.1 ∧ u240.1 60 10 = (pLine f N a).2.2.1 ∧ hi9 (pLine f N a).2.2.1 (u240.1 60 11) := fun q => by
                have ht := have_told (Sr_0 SS q)
                have h3 := ku2293 (Y0 q)
                rw [pLine_H (k := x65) H4 (PL.trans PQ.1) (by grind), ht.1, ht.2, (fk_at (c := 60) (i := 7) gu240 (by decide)), (fk_at (c := 60) (i := 10) gu240 (by decide)), (fk_at (c := 60) (i := 11) gu240 (by decide)), h3.1]
                exact ⟨(fk_at gu229 (by decide)).trans Z7, rfl, h3.2⟩
              have RL : u240.1 60 18 = 0 → Rw u240 (wLine f N a W) := fun q => by rw [wLine_H (k := x65) (PL.trans PQ.1) (by grind)]; exact Rw_cg (ku2294 (Y0 q)) (fk_at (c := 60) (i := 7) gu240 (by decide)) (fk_c (c := 66) gu240 (by decide)) (fk_c (c := 67) gu240 (by decide)) (fk_c (c := 68) gu240 (by decide))
              exact g_vret dX7_readLine_116 rfl ⟨rfl, hu240, fu240, rfu240, (by first | rfl | (rw [Tt246]; grind) | rw [Tt246]), (by first | rfl | (rw [Tt246, Tt244]; grind) | rw [Tt246, Tt244]), SL, TL, RL⟩
            · refine g_aload_n dX7_readLine_94 rfl ?_
              refine g_aload_n dX7_readLine_95 rfl ?_
              refine f_X7_111 rfl rfl dX7_readLine_96 ?_
              refine g_topi (fun x248 ex248 => ?_)
              have qx248 : x248 = t234 := ex248.trans Tt234
              refine g_iconst (v := 3) dX7_readLine_99 (by decide) ?_
              refine g_icmp_ne (tgt := 107) dX7_readLine_100 (by decide) (fun c249 => ?_) (fun c249 => ?_)
              · refine g_iconst (v := 0) dX7_readLine_107 (by decide) ?_
                refine g_iconst (v := 2) dX7_readLine_108 (by decide) ?_
                refine cl_X7_125 (c := 60) (As := [.int 0, .int 2]) rfl (c_X7_needs_s (G := G) hs hu229  0 2 (by first | trivial | decide | lia | grind) (by first | trivial | decide | lia | grind) (d + 3)) rfl (by omega) rfl rfl (Nat.le_of_ble_eq_true rfl) dX7_readLine_109 (fun r250 u251 q252 => ?_)
                obtain ⟨rfl, mq252⟩ := q252
                obtain ⟨hu251, gu251, ku2510, ku2511, ku2512⟩ := mq252
                have fu251 : fk [60, 66, 67, 68] [3, 13, 22, 28] u u251 := fk_tr fu229 gu251 (by decide) (by decide)
                have rfu251 : rf u251 := rf_mono rfu229 gu251 (fun q => (ku2510 q).1) (by decide) (by decide) (by decide) (by decide)
                have T253 : u251.1 60 7 = t1 := (fk_at gu251 (by decide)).trans T231
                have T254 : u251.1 60 14 = t232 := (fk_at gu251 (by decide)).trans Tt232
                have T255 : u251.1 60 15 = t233 := (fk_at gu251 (by decide)).trans Tt233
                have T256 : u251.1 60 16 = t234 := (fk_at gu251 (by decide)).trans Tt234
                obtain ⟨t257, Tt257⟩ : ∃ t, u251.1 60 18 = t := ⟨_, rfl⟩
                have Rt257 : 0 ≤ t257 ∧ t257 ≤ 6 := by rw [← Tt257]; exact iv_at hu251 _ _ rfl
                obtain ⟨t258, Tt258⟩ : ∃ t, u251.1 60 19 = t := ⟨_, rfl⟩
                have ST : stp u229 u251 := Or.inr (Or.inl ⟨by grind, by grind, by rw [Tt257]; grind, by rw [Tt258]; grind⟩)
                refine g_aload_n dX7_readLine_112 rfl ?_
                refine cl_X7_133 (c := 60) (As := []) rfl (c_X7_next_s (G := G) hs hu251    (d + 2)) rfl (by omega) rfl rfl (Nat.le_of_ble_eq_true rfl) dX7_readLine_113 (fun r259 u260 q261 => ?_)
                obtain ⟨rfl, mq261⟩ := q261
                obtain ⟨hu260, gu260, ku2600, ku2601, ku2602, ku2603, ku2604, ku2605⟩ := mq261
                have fu260 : fk [60, 66, 67, 68] [3, 13, 22, 28] u u260 := fk_tr fu251 gu260 (by decide) (by decide)
                have rfu260 : rf u260 := rf_mono rfu251 gu260 ku2600 (by decide) (by decide) (by decide) (by decide)
                have T262 : u260.1 60 7 = t1 := (fk_at gu260 (by decide)).trans T253
                obtain ⟨t263, Tt263⟩ : ∃ t, u260.1 60 14 = t := ⟨_, rfl⟩
                have Rt263 : 0 ≤ t263 ∧ t263 ≤ 160 := by rw [← Tt263]; exact iv_at hu260 _ _ rfl
                obtain ⟨t264, Tt264⟩ : ∃ t, u260.1 60 15 = t := ⟨_, rfl⟩
                have Rt264 : 0 ≤ t264 ∧ t264 ≤ 160 := by rw [← Tt264]; exact iv_at hu260 _ _ rfl
                obtain ⟨t265, Tt265⟩ : ∃ t, u260.1 60 16 = t := ⟨_, rfl⟩
                obtain ⟨t266, Tt266⟩ : ∃ t, u260.1 60 18 = t := ⟨_, rfl⟩
                have Rt266 : 0 ≤ t266 ∧ t266 ≤ 6 := by rw [← Tt266]; exact iv_at hu260 _ _ rfl
                obtain ⟨t267, Tt267⟩ : ∃ t, u260.1 60 19 = t := ⟨_, rfl⟩
                have SS := Sr_stop hN ku2292 ST ⟨ku2604, fun q => ⟨(ku2605 q).2.2.2.2.1, (ku2605 q).2.2.2.2.2⟩⟩ (fk_at gu251 (by decide)) (fk_at gu251 (by decide)) (fk_c gu251 (by decide)) (fk_at gu260 (by decide)) (fk_c gu260 (by decide))
                have Y0 : u260.1 60 18 = 0 → u229.1 60 18 = 0 := fun q => by grind
                have SL : Sr f N u260 (pLine f N a) := by rw [pLine_H (k := x65) H4 (PL.trans PQ.1) (by grind)]; exact Sr_tell SS
                have TL : u260.1 60 18 = 0 → u260.1 60 7 = (pLine f N a).2.2.2.1 ∧ u260.1 60 10 = (pLine f N a).2.2.1 ∧ hi9 (pLine f N a).2.2.1 (u260.1 60 11) := fun q => by
                  have ht := have_told (Sr_0 SS q)
                  have h3 := ku2293 (Y0 q)
                  rw [pLine_H (k := x65) H4 (PL.trans PQ.1) (by grind), ht.1, ht.2, ((fk_at (c := 60) (i := 7) gu260 (by decide)).trans (fk_at (c := 60) (i := 7) gu251 (by decide))), ((fk_at (c := 60) (i := 10) gu260 (by decide)).trans (fk_at (c := 60) (i := 10) gu251 (by decide))), ((fk_at (c := 60) (i := 11) gu260 (by decide)).trans (fk_at (c := 60) (i := 11) gu251 (by decide))), h3.1]
                  exact ⟨(fk_at gu229 (by decide)).trans Z7, rfl, h3.2⟩
                have RL : u260.1 60 18 = 0 → Rw u260 (wLine f N a W) := fun q => by rw [wLine_H (k := x65) (PL.trans PQ.1) (by grind)]; exact Rw_cg (ku2294 (Y0 q)) ((fk_at (c := 60) (i := 7) gu260 (by decide)).trans (fk_at (c := 60) (i := 7) gu251 (by decide))) ((fk_c (c := 66) gu260 (by decide)).trans (fk_c (c := 66) gu251 (by decide))) ((fk_c (c := 67) gu260 (by decide)).trans (fk_c (c := 67) gu251 (by decide))) ((fk_c (c := 68) gu260 (by decide)).trans (fk_c (c := 68) gu251 (by decide)))
                exact g_vret dX7_readLine_116 rfl ⟨rfl, hu260, fu260, rfu260, (by first | rfl | (rw [Tt266]; grind) | rw [Tt266]), (by first | rfl | (rw [Tt266, Tt264]; grind) | rw [Tt266, Tt264]), SL, TL, RL⟩
              · refine g_iconst (v := 1) dX7_readLine_103 (by decide) ?_
                refine g_goto (tgt := 108) dX7_readLine_104 (by decide) ?_
                refine g_iconst (v := 2) dX7_readLine_108 (by decide) ?_
                refine cl_X7_125 (c := 60) (As := [.int 1, .int 2]) rfl (c_X7_needs_s (G := G) hs hu229  1 2 (by first | trivial | decide | lia | grind) (by first | trivial | decide | lia | grind) (d + 3)) rfl (by omega) rfl rfl (Nat.le_of_ble_eq_true rfl) dX7_readLine_109 (fun r268 u269 q270 => ?_)
                obtain ⟨rfl, mq270⟩ := q270
                obtain ⟨hu269, gu269, ku2690, ku2691, ku2692⟩ := mq270
                have fu269 : fk [60, 66, 67, 68] [3, 13, 22, 28] u u269 := fk_tr fu229 gu269 (by decide) (by decide)
                have rfu269 : rf u269 := rf_mono rfu229 gu269 (fun q => (ku2690 q).1) (by decide) (by decide) (by decide) (by decide)
                have T271 : u269.1 60 7 = t1 := (fk_at gu269 (by decide)).trans T231
                have T272 : u269.1 60 14 = t232 := (fk_at gu269 (by decide)).trans Tt232
                have T273 : u269.1 60 15 = t233 := (fk_at gu269 (by decide)).trans Tt233
                have T274 : u269.1 60 16 = t234 := (fk_at gu269 (by decide)).trans Tt234
                obtain ⟨t275, Tt275⟩ : ∃ t, u269.1 60 18 = t := ⟨_, rfl⟩
                have Rt275 : 0 ≤ t275 ∧ t275 ≤ 6 := by rw [← Tt275]; exact iv_at hu269 _ _ rfl
                obtain ⟨t276, Tt276⟩ : ∃ t, u269.1 60 19 = t := ⟨_, rfl⟩
                have ST : stp u229 u269 := Or.inr (Or.inr ⟨by grind, by grind, by rw [Tt275]; grind⟩)
                refine g_aload_n dX7_readLine_112 rfl ?_
                refine cl_X7_133 (c := 60) (As := []) rfl (c_X7_next_s (G := G) hs hu269    (d + 2)) rfl (by omega) rfl rfl (Nat.le_of_ble_eq_true rfl) dX7_readLine_113 (fun r277 u278 q279 => ?_)
                obtain ⟨rfl, mq279⟩ := q279
                obtain ⟨hu278, gu278, ku2780, ku2781, ku2782, ku2783, ku2784, ku2785⟩ := mq279
                have fu278 : fk [60, 66, 67, 68] [3, 13, 22, 28] u u278 := fk_tr fu269 gu278 (by decide) (by decide)
                have rfu278 : rf u278 := rf_mono rfu269 gu278 ku2780 (by decide) (by decide) (by decide) (by decide)
                have T280 : u278.1 60 7 = t1 := (fk_at gu278 (by decide)).trans T271
                obtain ⟨t281, Tt281⟩ : ∃ t, u278.1 60 14 = t := ⟨_, rfl⟩
                have Rt281 : 0 ≤ t281 ∧ t281 ≤ 160 := by rw [← Tt281]; exact iv_at hu278 _ _ rfl
                obtain ⟨t282, Tt282⟩ : ∃ t, u278.1 60 15 = t := ⟨_, rfl⟩
                have Rt282 : 0 ≤ t282 ∧ t282 ≤ 160 := by rw [← Tt282]; exact iv_at hu278 _ _ rfl
                obtain ⟨t283, Tt283⟩ : ∃ t, u278.1 60 16 = t := ⟨_, rfl⟩
                obtain ⟨t284, Tt284⟩ : ∃ t, u278.1 60 18 = t := ⟨_, rfl⟩
                have Rt284 : 0 ≤ t284 ∧ t284 ≤ 6 := by rw [← Tt284]; exact iv_at hu278 _ _ rfl
                obtain ⟨t285, Tt285⟩ : ∃ t, u278.1 60 19 = t := ⟨_, rfl⟩
                have SS := Sr_stop hN ku2292 ST ⟨ku2784, fun q => ⟨(ku2785 q).2.2.2.2.1, (ku2785 q).2.2.2.2.2⟩⟩ (fk_at gu269 (by decide)) (fk_at gu269 (by decide)) (fk_c gu269 (by decide)) (fk_at gu278 (by decide)) (fk_c gu278 (by decide))
                have Y0 : u278.1 60 18 = 0 → u229.1 60 18 = 0 := fun q => by grind
                have SL : Sr f N u278 (pLine f N a) := by rw [pLine_H (k := x65) H4 (PL.trans PQ.1) (by grind)]; exact Sr_tell SS
                have TL : u278.1 60 18 = 0 → u278.1 60 7 = (pLine f N a).2.2.2.1 ∧ u278.1 60 10 = (pLine f N a).2.2.1 ∧ hi9 (pLine f N a).2.2.1 (u278.1 60 11) := fun q => by
                  have ht := have_told (Sr_0 SS q)
                  have h3 := ku2293 (Y0 q)
                  rw [pLine_H (k := x65) H4 (PL.trans PQ.1) (by grind), ht.1, ht.2, ((fk_at (c := 60) (i := 7) gu278 (by decide)).trans (fk_at (c := 60) (i := 7) gu269 (by decide))), ((fk_at (c := 60) (i := 10) gu278 (by decide)).trans (fk_at (c := 60) (i := 10) gu269 (by decide))), ((fk_at (c := 60) (i := 11) gu278 (by decide)).trans (fk_at (c := 60) (i := 11) gu269 (by decide))), h3.1]
                  exact ⟨(fk_at gu229 (by decide)).trans Z7, rfl, h3.2⟩
                have RL : u278.1 60 18 = 0 → Rw u278 (wLine f N a W) := fun q => by rw [wLine_H (k := x65) (PL.trans PQ.1) (by grind)]; exact Rw_cg (ku2294 (Y0 q)) ((fk_at (c := 60) (i := 7) gu278 (by decide)).trans (fk_at (c := 60) (i := 7) gu269 (by decide))) ((fk_c (c := 66) gu278 (by decide)).trans (fk_c (c := 66) gu269 (by decide))) ((fk_c (c := 67) gu278 (by decide)).trans (fk_c (c := 67) gu269 (by decide))) ((fk_c (c := 68) gu278 (by decide)).trans (fk_c (c := 68) gu269 (by decide)))
                exact g_vret dX7_readLine_116 rfl ⟨rfl, hu278, fu278, rfu278, (by first | rfl | (rw [Tt284]; grind) | rw [Tt284]), (by first | rfl | (rw [Tt284, Tt282]; grind) | rw [Tt284, Tt282]), SL, TL, RL⟩
        · have S4 := Sr_4 hN SN rfl (by grind)
          have SL : Sr f N u159 (pLine f N a) := by rw [pLine_e (k := x65) H4 (PL.trans PQ.1) PQ.2 (by rw [← p2]; grind) S4.1]; exact S4.2
          exact g_vret dX7_readLine_69 rfl ⟨rfl, hu159, fu159, rfu159, (by first | rfl | (rw [Tt165]; grind) | rw [Tt165]), (by first | rfl | (rw [Tt165, Tt163]; grind) | rw [Tt165, Tt163]), SL, (fun q => by exfalso; grind), (fun q => by exfalso; grind)⟩
      · refine g_aload_n dX7_readLine_40 rfl ?_
        refine f_X7_69 rfl rfl dX7_readLine_41 ?_
        refine g_topi (fun x286 ex286 => ?_)
        have rx286 : 0 ≤ x286 ∧ x286 ≤ 8 := by rw [ex286]; exact iv_at hu140 _ _ rfl
        have qx286 : x286 = t1 := ex286.trans T142
        refine g_bipush (v := 8) dX7_readLine_44 (by decide) ?_
        refine g_icmp_ge (tgt := 53) dX7_readLine_46 (by decide) (fun c287 => ?_) (fun c287 => ?_)
        · refine g_iconst (v := 0) dX7_readLine_53 (by decide) ?_
          refine g_iconst (v := 5) dX7_readLine_54 (by decide) ?_
          refine cl_X7_125 (c := 60) (As := [.int 0, .int 5]) rfl (c_X7_needs_s (G := G) hs hu140  0 5 (by first | trivial | decide | lia | grind) (by first | trivial | decide | lia | grind) (d + 3)) rfl (by omega) rfl rfl (Nat.le_of_ble_eq_true rfl) dX7_readLine_55 (fun r288 u289 q290 => ?_)
          obtain ⟨rfl, mq290⟩ := q290
          obtain ⟨hu289, gu289, ku2890, ku2891, ku2892⟩ := mq290
          have fu289 : fk [60, 66, 67, 68] [3, 13, 22, 28] u u289 := fk_tr fu140 gu289 (by decide) (by decide)
          have rfu289 : rf u289 := rf_mono rfu140 gu289 (fun q => (ku2890 q).1) (by decide) (by decide) (by decide) (by decide)
          have T291 : u289.1 60 7 = t1 := (fk_at gu289 (by decide)).trans T142
          have T292 : u289.1 60 14 = t2 := (fk_at gu289 (by decide)).trans T143
          have T293 : u289.1 60 15 = t3 := (fk_at gu289 (by decide)).trans T144
          have T294 : u289.1 60 16 = t4 := (fk_at gu289 (by decide)).trans T145
          obtain ⟨t295, Tt295⟩ : ∃ t, u289.1 60 18 = t := ⟨_, rfl⟩
          have Rt295 : 0 ≤ t295 ∧ t295 ≤ 6 := by rw [← Tt295]; exact iv_at hu289 _ _ rfl
          obtain ⟨t296, Tt296⟩ : ∃ t, u289.1 60 19 = t := ⟨_, rfl⟩
          have FV : u289.1 60 18 = 5 ∧ u289.1 60 19 = u.1 60 15 := ⟨by rw [Tt295]; grind, by rw [Tt296]; grind⟩
          refine g_aload_n dX7_readLine_58 rfl ?_
          refine cl_X7_133 (c := 60) (As := []) rfl (c_X7_next_s (G := G) hs hu289    (d + 2)) rfl (by omega) rfl rfl (Nat.le_of_ble_eq_true rfl) dX7_readLine_59 (fun r297 u298 q299 => ?_)
          obtain ⟨rfl, mq299⟩ := q299
          obtain ⟨hu298, gu298, ku2980, ku2981, ku2982, ku2983, ku2984, ku2985⟩ := mq299
          have fu298 : fk [60, 66, 67, 68] [3, 13, 22, 28] u u298 := fk_tr fu289 gu298 (by decide) (by decide)
          have rfu298 : rf u298 := rf_mono rfu289 gu298 ku2980 (by decide) (by decide) (by decide) (by decide)
          have T300 : u298.1 60 7 = t1 := (fk_at gu298 (by decide)).trans T291
          obtain ⟨t301, Tt301⟩ : ∃ t, u298.1 60 14 = t := ⟨_, rfl⟩
          have Rt301 : 0 ≤ t301 ∧ t301 ≤ 160 := by rw [← Tt301]; exact iv_at hu298 _ _ rfl
          obtain ⟨t302, Tt302⟩ : ∃ t, u298.1 60 15 = t := ⟨_, rfl⟩
          have Rt302 : 0 ≤ t302 ∧ t302 ≤ 160 := by rw [← Tt302]; exact iv_at hu298 _ _ rfl
          obtain ⟨t303, Tt303⟩ : ∃ t, u298.1 60 16 = t := ⟨_, rfl⟩
          obtain ⟨t304, Tt304⟩ : ∃ t, u298.1 60 18 = t := ⟨_, rfl⟩
          have Rt304 : 0 ≤ t304 ∧ t304 ≤ 6 := by rw [← Tt304]; exact iv_at hu298 _ _ rfl
          obtain ⟨t305, Tt305⟩ : ∃ t, u298.1 60 19 = t := ⟨_, rfl⟩
          have SB := Sr_bad (k := 5) p0 (by decide) FV.1 (FV.2.trans HK.1.symm) ⟨ku2984, fun q => ⟨(ku2985 q).2.2.2.2.1, (ku2985 q).2.2.2.2.2⟩⟩ ((fk_at (c := 60) (i := 13) gu298 (by decide)).trans ((fk_at (c := 60) (i := 13) gu289 (by decide)).trans (fk_at (c := 60) (i := 13) gu140 (by decide)))) ((fk_c (c := 69) gu298 (by decide)).trans ((fk_c (c := 69) gu289 (by decide)).trans (fk_c (c := 69) gu140 (by decide))))
          have F3 : u298.1 60 18 = 5 := ((ku2985 (by rw [FV.1]; decide)).2.2.2.2.1).trans FV.1
          have SL : Sr f N u298 (pLine f N a) := by rw [pLine_5 (k := x65) H4 (PL.trans (by have := PK; unfold PLK at this; grind)) (by have := PK; unfold PLK at this; grind) (by grind) (by rw [← p2]; grind)]; exact SB
          refine g_aload_n dX7_readLine_62 rfl ?_
          refine f_X7_91 rfl rfl dX7_readLine_63 ?_
          refine g_topi (fun x306 ex306 => ?_)
          have rx306 : 0 ≤ x306 ∧ x306 ≤ 6 := by rw [ex306]; exact iv_at hu298 _ _ rfl
          have qx306 : x306 = t304 := ex306.trans Tt304
          refine g_if_le (tgt := 70) dX7_readLine_66 (by decide) (fun c307 => ?_) (fun c307 => ?_)
          · exfalso; grind
          · exact g_vret dX7_readLine_69 rfl ⟨rfl, hu298, fu298, rfu298, (by first | rfl | (rw [Tt304]; grind) | rw [Tt304]), (by first | rfl | (rw [Tt304, Tt302]; grind) | rw [Tt304, Tt302]), SL, (fun q => by exfalso; grind), (fun q => by exfalso; grind)⟩
        · refine g_iconst (v := 1) dX7_readLine_49 (by decide) ?_
          refine g_goto (tgt := 54) dX7_readLine_50 (by decide) ?_
          refine g_iconst (v := 5) dX7_readLine_54 (by decide) ?_
          refine cl_X7_125 (c := 60) (As := [.int 1, .int 5]) rfl (c_X7_needs_s (G := G) hs hu140  1 5 (by first | trivial | decide | lia | grind) (by first | trivial | decide | lia | grind) (d + 3)) rfl (by omega) rfl rfl (Nat.le_of_ble_eq_true rfl) dX7_readLine_55 (fun r308 u309 q310 => ?_)
          obtain ⟨rfl, mq310⟩ := q310
          obtain ⟨hu309, gu309, ku3090, ku3091, ku3092⟩ := mq310
          have fu309 : fk [60, 66, 67, 68] [3, 13, 22, 28] u u309 := fk_tr fu140 gu309 (by decide) (by decide)
          have rfu309 : rf u309 := rf_mono rfu140 gu309 (fun q => (ku3090 q).1) (by decide) (by decide) (by decide) (by decide)
          have T311 : u309.1 60 7 = t1 := (fk_at gu309 (by decide)).trans T142
          have T312 : u309.1 60 14 = t2 := (fk_at gu309 (by decide)).trans T143
          have T313 : u309.1 60 15 = t3 := (fk_at gu309 (by decide)).trans T144
          have T314 : u309.1 60 16 = t4 := (fk_at gu309 (by decide)).trans T145
          obtain ⟨t315, Tt315⟩ : ∃ t, u309.1 60 18 = t := ⟨_, rfl⟩
          have Rt315 : 0 ≤ t315 ∧ t315 ≤ 6 := by rw [← Tt315]; exact iv_at hu309 _ _ rfl
          obtain ⟨t316, Tt316⟩ : ∃ t, u309.1 60 19 = t := ⟨_, rfl⟩
          have FV : u309.1 60 18 = 0 := by rw [Tt315]; grind
          refine g_aload_n dX7_readLine_58 rfl ?_
          refine cl_X7_133 (c := 60) (As := []) rfl (c_X7_next_s (G := G) hs hu309    (d + 2)) rfl (by omega) rfl rfl (Nat.le_of_ble_eq_true rfl) dX7_readLine_59 (fun r317 u318 q319 => ?_)
          obtain ⟨rfl, mq319⟩ := q319
          obtain ⟨hu318, gu318, ku3180, ku3181, ku3182, ku3183, ku3184, ku3185⟩ := mq319
          have fu318 : fk [60, 66, 67, 68] [3, 13, 22, 28] u u318 := fk_tr fu309 gu318 (by decide) (by decide)
          have rfu318 : rf u318 := rf_mono rfu309 gu318 ku3180 (by decide) (by decide) (by decide) (by decide)
          have T320 : u318.1 60 7 = t1 := (fk_at gu318 (by decide)).trans T311
          obtain ⟨t321, Tt321⟩ : ∃ t, u318.1 60 14 = t := ⟨_, rfl⟩
          have Rt321 : 0 ≤ t321 ∧ t321 ≤ 160 := by rw [← Tt321]; exact iv_at hu318 _ _ rfl
          obtain ⟨t322, Tt322⟩ : ∃ t, u318.1 60 15 = t := ⟨_, rfl⟩
          have Rt322 : 0 ≤ t322 ∧ t322 ≤ 160 := by rw [← Tt322]; exact iv_at hu318 _ _ rfl
          obtain ⟨t323, Tt323⟩ : ∃ t, u318.1 60 16 = t := ⟨_, rfl⟩
          obtain ⟨t324, Tt324⟩ : ∃ t, u318.1 60 18 = t := ⟨_, rfl⟩
          have Rt324 : 0 ≤ t324 ∧ t324 ≤ 6 := by rw [← Tt324]; exact iv_at hu318 _ _ rfl
          obtain ⟨t325, Tt325⟩ : ∃ t, u318.1 60 19 = t := ⟨_, rfl⟩
          have SN := Sr_next hN p0 A1 A1n HT A4 FV ⟨ku3184, fun q => ⟨(ku3185 q).2.2.2.2.1, (ku3185 q).2.2.2.2.2⟩⟩ ((fk_at (c := 60) (i := 13) gu309 (by decide)).trans (fk_at (c := 60) (i := 13) gu140 (by decide))) ((fk_at (c := 60) (i := 14) gu309 (by decide)).trans (fk_at (c := 60) (i := 14) gu140 (by decide))) ((fk_c (c := 69) gu309 (by decide)).trans (fk_c (c := 69) gu140 (by decide))) ((fk_at (c := 60) (i := 13) gu318 (by decide)).trans ((fk_at (c := 60) (i := 13) gu309 (by decide)).trans (fk_at (c := 60) (i := 13) gu140 (by decide)))) ((fk_c (c := 69) gu318 (by decide)).trans ((fk_c (c := 69) gu309 (by decide)).trans (fk_c (c := 69) gu140 (by decide))))
          have PQ : pl f (u.1 60 16) (u.1 60 15) (u.1 60 14) = x65 ∧ ¬ x65 = -1 := by have := PK; unfold PLK at this; grind
          refine g_aload_n dX7_readLine_62 rfl ?_
          refine f_X7_91 rfl rfl dX7_readLine_63 ?_
          refine g_topi (fun x326 ex326 => ?_)
          have rx326 : 0 ≤ x326 ∧ x326 ≤ 6 := by rw [ex326]; exact iv_at hu318 _ _ rfl
          have qx326 : x326 = t324 := ex326.trans Tt324
          refine g_if_le (tgt := 70) dX7_readLine_66 (by decide) (fun c327 => ?_) (fun c327 => ?_)
          · have F3 : u318.1 60 18 = 0 := by have := iv_at hu318 60 18 (lo := 0) (hi := 6) rfl; grind
            have Z7 : u318.1 60 7 = a.2.2.2.1 := ((fk_at (c := 60) (i := 7) gu318 (by decide)).trans ((fk_at (c := 60) (i := 7) gu309 (by decide)).trans (fk_at (c := 60) (i := 7) gu140 (by decide)))).trans p2
            have Z10 : u318.1 60 10 = a.2.2.1 := ((fk_at (c := 60) (i := 10) gu318 (by decide)).trans ((fk_at (c := 60) (i := 10) gu309 (by decide)).trans (fk_at (c := 60) (i := 10) gu140 (by decide)))).trans p3
            have Z11 : hi9 a.2.2.1 (u318.1 60 11) := by rw [((fk_at (c := 60) (i := 11) gu318 (by decide)).trans ((fk_at (c := 60) (i := 11) gu309 (by decide)).trans (fk_at (c := 60) (i := 11) gu140 (by decide))))]; exact p4
            have RV : Rw u318 W := Rw_cg p5 ((fk_at (c := 60) (i := 7) gu318 (by decide)).trans ((fk_at (c := 60) (i := 7) gu309 (by decide)).trans (fk_at (c := 60) (i := 7) gu140 (by decide)))) ((fk_c (c := 66) gu318 (by decide)).trans ((fk_c (c := 66) gu309 (by decide)).trans (fk_c (c := 66) gu140 (by decide)))) ((fk_c (c := 67) gu318 (by decide)).trans ((fk_c (c := 67) gu309 (by decide)).trans (fk_c (c := 67) gu140 (by decide)))) ((fk_c (c := 68) gu318 (by decide)).trans ((fk_c (c := 68) gu309 (by decide)).trans (fk_c (c := 68) gu140 (by decide))))
            refine g_iload_n dX7_readLine_70 rfl ?_
            refine g_iconst (v := 5) dX7_readLine_71 (by decide) ?_
            refine g_icmp_ne (tgt := 82) dX7_readLine_72 (by decide) (fun c328 => ?_) (fun c328 => ?_)
            · refine g_aload_n dX7_readLine_82 rfl ?_
              refine g_iload_n dX7_readLine_83 rfl ?_
              refine cl_X7_146 (c := 60) (As := [.int x65]) rfl (c_X7_readStuff_t (G := G) hs hu318 rfu318  x65 f N (0, a.2.1, a.2.2.1, a.2.2.2.1, (tk f N a.2.2.2.2).2.2.2) W (by rw [Z7, ← p2]; grind) SN RV (d)) rfl (by omega) rfl rfl (Nat.le_of_ble_eq_true rfl) dX7_readLine_84 (fun r329 u330 q331 => ?_)
              obtain ⟨rfl, mq331⟩ := q331
              obtain ⟨hu330, gu330, rfu330, ku3300, ku3301, ku3302, ku3303, ku3304⟩ := mq331
              have fu330 : fk [60, 66, 67, 68] [3, 13, 22, 28] u u330 := fk_tr fu318 gu330 (by decide) (by decide)
              obtain ⟨t332, Tt332⟩ : ∃ t, u330.1 60 7 = t := ⟨_, rfl⟩
              have Rt332 : 0 ≤ t332 ∧ t332 ≤ 8 := by rw [← Tt332]; exact iv_at hu330 _ _ rfl
              obtain ⟨t333, Tt333⟩ : ∃ t, u330.1 60 14 = t := ⟨_, rfl⟩
              have Rt333 : 0 ≤ t333 ∧ t333 ≤ 160 := by rw [← Tt333]; exact iv_at hu330 _ _ rfl
              obtain ⟨t334, Tt334⟩ : ∃ t, u330.1 60 15 = t := ⟨_, rfl⟩
              have Rt334 : 0 ≤ t334 ∧ t334 ≤ 160 := by rw [← Tt334]; exact iv_at hu330 _ _ rfl
              obtain ⟨t335, Tt335⟩ : ∃ t, u330.1 60 16 = t := ⟨_, rfl⟩
              obtain ⟨t336, Tt336⟩ : ∃ t, u330.1 60 18 = t := ⟨_, rfl⟩
              have Rt336 : 0 ≤ t336 ∧ t336 ≤ 6 := by rw [← Tt336]; exact iv_at hu330 _ _ rfl
              obtain ⟨t337, Tt337⟩ : ∃ t, u330.1 60 19 = t := ⟨_, rfl⟩
              refine g_aload_n dX7_readLine_87 rfl ?_
              refine f_X7_91 rfl rfl dX7_readLine_88 ?_
              refine g_topi (fun x338 ex338 => ?_)
              have rx338 : 0 ≤ x338 ∧ x338 ≤ 6 := by rw [ex338]; exact iv_at hu330 _ _ rfl
              have qx338 : x338 = t336 := ex338.trans Tt336
              refine g_if_ne (tgt := 112) dX7_readLine_91 (by decide) (fun c339 => ?_) (fun c339 => ?_)
              · have ST : stp u330 u330 := Or.inl ⟨by grind, rfl, rfl⟩
                refine g_aload_n dX7_readLine_112 rfl ?_
                refine cl_X7_133 (c := 60) (As := []) rfl (c_X7_next_s (G := G) hs hu330    (d + 2)) rfl (by omega) rfl rfl (Nat.le_of_ble_eq_true rfl) dX7_readLine_113 (fun r340 u341 q342 => ?_)
                obtain ⟨rfl, mq342⟩ := q342
                obtain ⟨hu341, gu341, ku3410, ku3411, ku3412, ku3413, ku3414, ku3415⟩ := mq342
                have fu341 : fk [60, 66, 67, 68] [3, 13, 22, 28] u u341 := fk_tr fu330 gu341 (by decide) (by decide)
                have rfu341 : rf u341 := rf_mono rfu330 gu341 ku3410 (by decide) (by decide) (by decide) (by decide)
                have T343 : u341.1 60 7 = t332 := (fk_at gu341 (by decide)).trans Tt332
                obtain ⟨t344, Tt344⟩ : ∃ t, u341.1 60 14 = t := ⟨_, rfl⟩
                have Rt344 : 0 ≤ t344 ∧ t344 ≤ 160 := by rw [← Tt344]; exact iv_at hu341 _ _ rfl
                obtain ⟨t345, Tt345⟩ : ∃ t, u341.1 60 15 = t := ⟨_, rfl⟩
                have Rt345 : 0 ≤ t345 ∧ t345 ≤ 160 := by rw [← Tt345]; exact iv_at hu341 _ _ rfl
                obtain ⟨t346, Tt346⟩ : ∃ t, u341.1 60 16 = t := ⟨_, rfl⟩
                obtain ⟨t347, Tt347⟩ : ∃ t, u341.1 60 18 = t := ⟨_, rfl⟩
                have Rt347 : 0 ≤ t347 ∧ t347 ≤ 6 := by rw [← Tt347]; exact iv_at hu341 _ _ rfl
                obtain ⟨t348, Tt348⟩ : ∃ t, u341.1 60 19 = t := ⟨_, rfl⟩
                have SS := Sr_stop hN ku3302 ST ⟨ku3414, fun q => ⟨(ku3415 q).2.2.2.2.1, (ku3415 q).2.2.2.2.2⟩⟩ rfl rfl rfl (fk_at gu341 (by decide)) (fk_c gu341 (by decide))
                have Y0 : u341.1 60 18 = 0 → u330.1 60 18 = 0 := fun q => by grind
                have PE : pLine f N a = pAdd (pTake f N (rsf f N (0, a.2.1, a.2.2.1, a.2.2.2.1, (tk f N a.2.2.2.2).2.2.2) x65 (u318.1 60 7)) 3 0).1 := by
                  by_cases h9 : x65 = 4
                  · rw [pLine_R (k := x65) H4 (PL.trans PQ.1) h9 (by rw [← p2]; grind), rsf_R h9]
                  · rw [pLine_M (k := x65) H4 (PL.trans PQ.1) PQ.2 (by grind) h9 (by rw [← p2]; grind)]; exact Eq.symm (rsf_M (f := f) (n := N) (b := (0, a.2.1, a.2.2.1, a.2.2.2.1, (tk f N a.2.2.2.2).2.2.2)) (k := x65) h9 Z7)
                have SL : Sr f N u341 (pLine f N a) := by rw [PE]; exact Sr_add SS
                have TL : u341.1 60 18 = 0 → u341.1 60 7 = (pLine f N a).2.2.2.1 ∧ u341.1 60 10 = (pLine f N a).2.2.1 ∧ hi9 (pLine f N a).2.2.1 (u341.1 60 11) := fun q => by
                  have ht := rsf_told (Sr_0 SS q)
                  rw [PE, ht.1, ht.2, (fk_at (c := 60) (i := 7) gu341 (by decide)), (fk_at (c := 60) (i := 10) gu341 (by decide)), (fk_at (c := 60) (i := 11) gu341 (by decide)), ku3303, Z7]
                  exact ⟨rfl, (fk_at gu330 (by decide)).trans Z10, by rw [fk_at (c := 60) (i := 11) gu330 (by decide)]; exact Z11⟩
                have RL : u341.1 60 18 = 0 → Rw u341 (wLine f N a W) := fun q => by rw [wLine_S (k := x65) (PL.trans PQ.1) (by grind), ← Z7]; exact Rw_cg (ku3304 (Y0 q)) (fk_at (c := 60) (i := 7) gu341 (by decide)) (fk_c (c := 66) gu341 (by decide)) (fk_c (c := 67) gu341 (by decide)) (fk_c (c := 68) gu341 (by decide))
                exact g_vret dX7_readLine_116 rfl ⟨rfl, hu341, fu341, rfu341, (by first | rfl | (rw [Tt347]; grind) | rw [Tt347]), (by first | rfl | (rw [Tt347, Tt345]; grind) | rw [Tt347, Tt345]), SL, TL, RL⟩
              · refine g_aload_n dX7_readLine_94 rfl ?_
                refine g_aload_n dX7_readLine_95 rfl ?_
                refine f_X7_111 rfl rfl dX7_readLine_96 ?_
                refine g_topi (fun x349 ex349 => ?_)
                have qx349 : x349 = t335 := ex349.trans Tt335
                refine g_iconst (v := 3) dX7_readLine_99 (by decide) ?_
                refine g_icmp_ne (tgt := 107) dX7_readLine_100 (by decide) (fun c350 => ?_) (fun c350 => ?_)
                · refine g_iconst (v := 0) dX7_readLine_107 (by decide) ?_
                  refine g_iconst (v := 2) dX7_readLine_108 (by decide) ?_
                  refine cl_X7_125 (c := 60) (As := [.int 0, .int 2]) rfl (c_X7_needs_s (G := G) hs hu330  0 2 (by first | trivial | decide | lia | grind) (by first | trivial | decide | lia | grind) (d + 3)) rfl (by omega) rfl rfl (Nat.le_of_ble_eq_true rfl) dX7_readLine_109 (fun r351 u352 q353 => ?_)
                  obtain ⟨rfl, mq353⟩ := q353
                  obtain ⟨hu352, gu352, ku3520, ku3521, ku3522⟩ := mq353
                  have fu352 : fk [60, 66, 67, 68] [3, 13, 22, 28] u u352 := fk_tr fu330 gu352 (by decide) (by decide)
                  have rfu352 : rf u352 := rf_mono rfu330 gu352 (fun q => (ku3520 q).1) (by decide) (by decide) (by decide) (by decide)
                  have T354 : u352.1 60 7 = t332 := (fk_at gu352 (by decide)).trans Tt332
                  have T355 : u352.1 60 14 = t333 := (fk_at gu352 (by decide)).trans Tt333
                  have T356 : u352.1 60 15 = t334 := (fk_at gu352 (by decide)).trans Tt334
                  have T357 : u352.1 60 16 = t335 := (fk_at gu352 (by decide)).trans Tt335
                  obtain ⟨t358, Tt358⟩ : ∃ t, u352.1 60 18 = t := ⟨_, rfl⟩
                  have Rt358 : 0 ≤ t358 ∧ t358 ≤ 6 := by rw [← Tt358]; exact iv_at hu352 _ _ rfl
                  obtain ⟨t359, Tt359⟩ : ∃ t, u352.1 60 19 = t := ⟨_, rfl⟩
                  have ST : stp u330 u352 := Or.inr (Or.inl ⟨by grind, by grind, by rw [Tt358]; grind, by rw [Tt359]; grind⟩)
                  refine g_aload_n dX7_readLine_112 rfl ?_
                  refine cl_X7_133 (c := 60) (As := []) rfl (c_X7_next_s (G := G) hs hu352    (d + 2)) rfl (by omega) rfl rfl (Nat.le_of_ble_eq_true rfl) dX7_readLine_113 (fun r360 u361 q362 => ?_)
                  obtain ⟨rfl, mq362⟩ := q362
                  obtain ⟨hu361, gu361, ku3610, ku3611, ku3612, ku3613, ku3614, ku3615⟩ := mq362
                  have fu361 : fk [60, 66, 67, 68] [3, 13, 22, 28] u u361 := fk_tr fu352 gu361 (by decide) (by decide)
                  have rfu361 : rf u361 := rf_mono rfu352 gu361 ku3610 (by decide) (by decide) (by decide) (by decide)
                  have T363 : u361.1 60 7 = t332 := (fk_at gu361 (by decide)).trans T354
                  obtain ⟨t364, Tt364⟩ : ∃ t, u361.1 60 14 = t := ⟨_, rfl⟩
                  have Rt364 : 0 ≤ t364 ∧ t364 ≤ 160 := by rw [← Tt364]; exact iv_at hu361 _ _ rfl
                  obtain ⟨t365, Tt365⟩ : ∃ t, u361.1 60 15 = t := ⟨_, rfl⟩
                  have Rt365 : 0 ≤ t365 ∧ t365 ≤ 160 := by rw [← Tt365]; exact iv_at hu361 _ _ rfl
                  obtain ⟨t366, Tt366⟩ : ∃ t, u361.1 60 16 = t := ⟨_, rfl⟩
                  obtain ⟨t367, Tt367⟩ : ∃ t, u361.1 60 18 = t := ⟨_, rfl⟩
                  have Rt367 : 0 ≤ t367 ∧ t367 ≤ 6 := by rw [← Tt367]; exact iv_at hu361 _ _ rfl
                  obtain ⟨t368, Tt368⟩ : ∃ t, u361.1 60 19 = t := ⟨_, rfl⟩
                  have SS := Sr_stop hN ku3302 ST ⟨ku3614, fun q => ⟨(ku3615 q).2.2.2.2.1, (ku3615 q).2.2.2.2.2⟩⟩ (fk_at gu352 (by decide)) (fk_at gu352 (by decide)) (fk_c gu352 (by decide)) (fk_at gu361 (by decide)) (fk_c gu361 (by decide))
                  have Y0 : u361.1 60 18 = 0 → u330.1 60 18 = 0 := fun q => by grind
                  have PE : pLine f N a = pAdd (pTake f N (rsf f N (0, a.2.1, a.2.2.1, a.2.2.2.1, (tk f N a.2.2.2.2).2.2.2) x65 (u318.1 60 7)) 3 0).1 := by
                    by_cases h9 : x65 = 4
                    · rw [pLine_R (k := x65) H4 (PL.trans PQ.1) h9 (by rw [← p2]; grind), rsf_R h9]
                    · rw [pLine_M (k := x65) H4 (PL.trans PQ.1) PQ.2 (by grind) h9 (by rw [← p2]; grind)]; exact Eq.symm (rsf_M (f := f) (n := N) (b := (0, a.2.1, a.2.2.1, a.2.2.2.1, (tk f N a.2.2.2.2).2.2.2)) (k := x65) h9 Z7)
                  have SL : Sr f N u361 (pLine f N a) := by rw [PE]; exact Sr_add SS
                  have TL : u361.1 60 18 = 0 → u361.1 60 7 = (pLine f N a).2.2.2.1 ∧ u361.1 60 10 = (pLine f N a).2.2.1 ∧ hi9 (pLine f N a).2.2.1 (u361.1 60 11) := fun q => by
                    have ht := rsf_told (Sr_0 SS q)
                    rw [PE, ht.1, ht.2, ((fk_at (c := 60) (i := 7) gu361 (by decide)).trans (fk_at (c := 60) (i := 7) gu352 (by decide))), ((fk_at (c := 60) (i := 10) gu361 (by decide)).trans (fk_at (c := 60) (i := 10) gu352 (by decide))), ((fk_at (c := 60) (i := 11) gu361 (by decide)).trans (fk_at (c := 60) (i := 11) gu352 (by decide))), ku3303, Z7]
                    exact ⟨rfl, (fk_at gu330 (by decide)).trans Z10, by rw [fk_at (c := 60) (i := 11) gu330 (by decide)]; exact Z11⟩
                  have RL : u361.1 60 18 = 0 → Rw u361 (wLine f N a W) := fun q => by rw [wLine_S (k := x65) (PL.trans PQ.1) (by grind), ← Z7]; exact Rw_cg (ku3304 (Y0 q)) ((fk_at (c := 60) (i := 7) gu361 (by decide)).trans (fk_at (c := 60) (i := 7) gu352 (by decide))) ((fk_c (c := 66) gu361 (by decide)).trans (fk_c (c := 66) gu352 (by decide))) ((fk_c (c := 67) gu361 (by decide)).trans (fk_c (c := 67) gu352 (by decide))) ((fk_c (c := 68) gu361 (by decide)).trans (fk_c (c := 68) gu352 (by decide)))
                  exact g_vret dX7_readLine_116 rfl ⟨rfl, hu361, fu361, rfu361, (by first | rfl | (rw [Tt367]; grind) | rw [Tt367]), (by first | rfl | (rw [Tt367, Tt365]; grind) | rw [Tt367, Tt365]), SL, TL, RL⟩
                · refine g_iconst (v := 1) dX7_readLine_103 (by decide) ?_
                  refine g_goto (tgt := 108) dX7_readLine_104 (by decide) ?_
                  refine g_iconst (v := 2) dX7_readLine_108 (by decide) ?_
                  refine cl_X7_125 (c := 60) (As := [.int 1, .int 2]) rfl (c_X7_needs_s (G := G) hs hu330  1 2 (by first | trivial | decide | lia | grind) (by first | trivial | decide | lia | grind) (d + 3)) rfl (by omega) rfl rfl (Nat.le_of_ble_eq_true rfl) dX7_readLine_109 (fun r369 u370 q371 => ?_)
                  obtain ⟨rfl, mq371⟩ := q371
                  obtain ⟨hu370, gu370, ku3700, ku3701, ku3702⟩ := mq371
                  have fu370 : fk [60, 66, 67, 68] [3, 13, 22, 28] u u370 := fk_tr fu330 gu370 (by decide) (by decide)
                  have rfu370 : rf u370 := rf_mono rfu330 gu370 (fun q => (ku3700 q).1) (by decide) (by decide) (by decide) (by decide)
                  have T372 : u370.1 60 7 = t332 := (fk_at gu370 (by decide)).trans Tt332
                  have T373 : u370.1 60 14 = t333 := (fk_at gu370 (by decide)).trans Tt333
                  have T374 : u370.1 60 15 = t334 := (fk_at gu370 (by decide)).trans Tt334
                  have T375 : u370.1 60 16 = t335 := (fk_at gu370 (by decide)).trans Tt335
                  obtain ⟨t376, Tt376⟩ : ∃ t, u370.1 60 18 = t := ⟨_, rfl⟩
                  have Rt376 : 0 ≤ t376 ∧ t376 ≤ 6 := by rw [← Tt376]; exact iv_at hu370 _ _ rfl
                  obtain ⟨t377, Tt377⟩ : ∃ t, u370.1 60 19 = t := ⟨_, rfl⟩
                  have ST : stp u330 u370 := Or.inr (Or.inr ⟨by grind, by grind, by rw [Tt376]; grind⟩)
                  refine g_aload_n dX7_readLine_112 rfl ?_
                  refine cl_X7_133 (c := 60) (As := []) rfl (c_X7_next_s (G := G) hs hu370    (d + 2)) rfl (by omega) rfl rfl (Nat.le_of_ble_eq_true rfl) dX7_readLine_113 (fun r378 u379 q380 => ?_)
                  obtain ⟨rfl, mq380⟩ := q380
                  obtain ⟨hu379, gu379, ku3790, ku3791, ku3792, ku3793, ku3794, ku3795⟩ := mq380
                  have fu379 : fk [60, 66, 67, 68] [3, 13, 22, 28] u u379 := fk_tr fu370 gu379 (by decide) (by decide)
                  have rfu379 : rf u379 := rf_mono rfu370 gu379 ku3790 (by decide) (by decide) (by decide) (by decide)
                  have T381 : u379.1 60 7 = t332 := (fk_at gu379 (by decide)).trans T372
                  obtain ⟨t382, Tt382⟩ : ∃ t, u379.1 60 14 = t := ⟨_, rfl⟩
                  have Rt382 : 0 ≤ t382 ∧ t382 ≤ 160 := by rw [← Tt382]; exact iv_at hu379 _ _ rfl
                  obtain ⟨t383, Tt383⟩ : ∃ t, u379.1 60 15 = t := ⟨_, rfl⟩
                  have Rt383 : 0 ≤ t383 ∧ t383 ≤ 160 := by rw [← Tt383]; exact iv_at hu379 _ _ rfl
                  obtain ⟨t384, Tt384⟩ : ∃ t, u379.1 60 16 = t := ⟨_, rfl⟩
                  obtain ⟨t385, Tt385⟩ : ∃ t, u379.1 60 18 = t := ⟨_, rfl⟩
                  have Rt385 : 0 ≤ t385 ∧ t385 ≤ 6 := by rw [← Tt385]; exact iv_at hu379 _ _ rfl
                  obtain ⟨t386, Tt386⟩ : ∃ t, u379.1 60 19 = t := ⟨_, rfl⟩
                  have SS := Sr_stop hN ku3302 ST ⟨ku3794, fun q => ⟨(ku3795 q).2.2.2.2.1, (ku3795 q).2.2.2.2.2⟩⟩ (fk_at gu370 (by decide)) (fk_at gu370 (by decide)) (fk_c gu370 (by decide)) (fk_at gu379 (by decide)) (fk_c gu379 (by decide))
                  have Y0 : u379.1 60 18 = 0 → u330.1 60 18 = 0 := fun q => by grind
                  have PE : pLine f N a = pAdd (pTake f N (rsf f N (0, a.2.1, a.2.2.1, a.2.2.2.1, (tk f N a.2.2.2.2).2.2.2) x65 (u318.1 60 7)) 3 0).1 := by
                    by_cases h9 : x65 = 4
                    · rw [pLine_R (k := x65) H4 (PL.trans PQ.1) h9 (by rw [← p2]; grind), rsf_R h9]
                    · rw [pLine_M (k := x65) H4 (PL.trans PQ.1) PQ.2 (by grind) h9 (by rw [← p2]; grind)]; exact Eq.symm (rsf_M (f := f) (n := N) (b := (0, a.2.1, a.2.2.1, a.2.2.2.1, (tk f N a.2.2.2.2).2.2.2)) (k := x65) h9 Z7)
                  have SL : Sr f N u379 (pLine f N a) := by rw [PE]; exact Sr_add SS
                  have TL : u379.1 60 18 = 0 → u379.1 60 7 = (pLine f N a).2.2.2.1 ∧ u379.1 60 10 = (pLine f N a).2.2.1 ∧ hi9 (pLine f N a).2.2.1 (u379.1 60 11) := fun q => by
                    have ht := rsf_told (Sr_0 SS q)
                    rw [PE, ht.1, ht.2, ((fk_at (c := 60) (i := 7) gu379 (by decide)).trans (fk_at (c := 60) (i := 7) gu370 (by decide))), ((fk_at (c := 60) (i := 10) gu379 (by decide)).trans (fk_at (c := 60) (i := 10) gu370 (by decide))), ((fk_at (c := 60) (i := 11) gu379 (by decide)).trans (fk_at (c := 60) (i := 11) gu370 (by decide))), ku3303, Z7]
                    exact ⟨rfl, (fk_at gu330 (by decide)).trans Z10, by rw [fk_at (c := 60) (i := 11) gu330 (by decide)]; exact Z11⟩
                  have RL : u379.1 60 18 = 0 → Rw u379 (wLine f N a W) := fun q => by rw [wLine_S (k := x65) (PL.trans PQ.1) (by grind), ← Z7]; exact Rw_cg (ku3304 (Y0 q)) ((fk_at (c := 60) (i := 7) gu379 (by decide)).trans (fk_at (c := 60) (i := 7) gu370 (by decide))) ((fk_c (c := 66) gu379 (by decide)).trans (fk_c (c := 66) gu370 (by decide))) ((fk_c (c := 67) gu379 (by decide)).trans (fk_c (c := 67) gu370 (by decide))) ((fk_c (c := 68) gu379 (by decide)).trans (fk_c (c := 68) gu370 (by decide)))
                  exact g_vret dX7_readLine_116 rfl ⟨rfl, hu379, fu379, rfu379, (by first | rfl | (rw [Tt385]; grind) | rw [Tt385]), (by first | rfl | (rw [Tt385, Tt383]; grind) | rw [Tt385, Tt383]), SL, TL, RL⟩
            · refine g_aload_n dX7_readLine_75 rfl ?_
              refine cl_X7_143 (c := 60) (As := []) rfl (c_X7_readHave_t (G := G) hs hu318 rfu318  f N (0, a.2.1, a.2.2.1, a.2.2.2.1, (tk f N a.2.2.2.2).2.2.2) W SN F3 Z10 Z11 RV (d)) rfl (by omega) rfl rfl (Nat.le_of_ble_eq_true rfl) dX7_readLine_76 (fun r387 u388 q389 => ?_)
              obtain ⟨rfl, mq389⟩ := q389
              obtain ⟨hu388, gu388, rfu388, ku3880, ku3881, ku3882, ku3883, ku3884⟩ := mq389
              have fu388 : fk [60, 66, 67, 68] [3, 13, 22, 28] u u388 := fk_tr fu318 gu388 (by decide) (by decide)
              have T390 : u388.1 60 7 = t1 := (fk_at gu388 (by decide)).trans T320
              obtain ⟨t391, Tt391⟩ : ∃ t, u388.1 60 14 = t := ⟨_, rfl⟩
              have Rt391 : 0 ≤ t391 ∧ t391 ≤ 160 := by rw [← Tt391]; exact iv_at hu388 _ _ rfl
              obtain ⟨t392, Tt392⟩ : ∃ t, u388.1 60 15 = t := ⟨_, rfl⟩
              have Rt392 : 0 ≤ t392 ∧ t392 ≤ 160 := by rw [← Tt392]; exact iv_at hu388 _ _ rfl
              obtain ⟨t393, Tt393⟩ : ∃ t, u388.1 60 16 = t := ⟨_, rfl⟩
              obtain ⟨t394, Tt394⟩ : ∃ t, u388.1 60 18 = t := ⟨_, rfl⟩
              have Rt394 : 0 ≤ t394 ∧ t394 ≤ 6 := by rw [← Tt394]; exact iv_at hu388 _ _ rfl
              obtain ⟨t395, Tt395⟩ : ∃ t, u388.1 60 19 = t := ⟨_, rfl⟩
              refine g_goto (tgt := 87) dX7_readLine_79 (by decide) ?_
              refine g_aload_n dX7_readLine_87 rfl ?_
              refine f_X7_91 rfl rfl dX7_readLine_88 ?_
              refine g_topi (fun x396 ex396 => ?_)
              have rx396 : 0 ≤ x396 ∧ x396 ≤ 6 := by rw [ex396]; exact iv_at hu388 _ _ rfl
              have qx396 : x396 = t394 := ex396.trans Tt394
              refine g_if_ne (tgt := 112) dX7_readLine_91 (by decide) (fun c397 => ?_) (fun c397 => ?_)
              · have ST : stp u388 u388 := Or.inl ⟨by grind, rfl, rfl⟩
                refine g_aload_n dX7_readLine_112 rfl ?_
                refine cl_X7_133 (c := 60) (As := []) rfl (c_X7_next_s (G := G) hs hu388    (d + 2)) rfl (by omega) rfl rfl (Nat.le_of_ble_eq_true rfl) dX7_readLine_113 (fun r398 u399 q400 => ?_)
                obtain ⟨rfl, mq400⟩ := q400
                obtain ⟨hu399, gu399, ku3990, ku3991, ku3992, ku3993, ku3994, ku3995⟩ := mq400
                have fu399 : fk [60, 66, 67, 68] [3, 13, 22, 28] u u399 := fk_tr fu388 gu399 (by decide) (by decide)
                have rfu399 : rf u399 := rf_mono rfu388 gu399 ku3990 (by decide) (by decide) (by decide) (by decide)
                have T401 : u399.1 60 7 = t1 := (fk_at gu399 (by decide)).trans T390
                obtain ⟨t402, Tt402⟩ : ∃ t, u399.1 60 14 = t := ⟨_, rfl⟩
                have Rt402 : 0 ≤ t402 ∧ t402 ≤ 160 := by rw [← Tt402]; exact iv_at hu399 _ _ rfl
                obtain ⟨t403, Tt403⟩ : ∃ t, u399.1 60 15 = t := ⟨_, rfl⟩
                have Rt403 : 0 ≤ t403 ∧ t403 ≤ 160 := by rw [← Tt403]; exact iv_at hu399 _ _ rfl
                obtain ⟨t404, Tt404⟩ : ∃ t, u399.1 60 16 = t := ⟨_, rfl⟩
                obtain ⟨t405, Tt405⟩ : ∃ t, u399.1 60 18 = t := ⟨_, rfl⟩
                have Rt405 : 0 ≤ t405 ∧ t405 ≤ 6 := by rw [← Tt405]; exact iv_at hu399 _ _ rfl
                obtain ⟨t406, Tt406⟩ : ∃ t, u399.1 60 19 = t := ⟨_, rfl⟩
                have SS := Sr_stop hN ku3882 ST ⟨ku3994, fun q => ⟨(ku3995 q).2.2.2.2.1, (ku3995 q).2.2.2.2.2⟩⟩ rfl rfl rfl (fk_at gu399 (by decide)) (fk_c gu399 (by decide))
                have Y0 : u399.1 60 18 = 0 → u388.1 60 18 = 0 := fun q => by grind
                have SL : Sr f N u399 (pLine f N a) := by rw [pLine_H (k := x65) H4 (PL.trans PQ.1) (by grind)]; exact Sr_tell SS
                have TL : u399.1 60 18 = 0 → u399.1 60 7 = (pLine f N a).2.2.2.1 ∧ u399.1 60 10 = (pLine f N a).2.2.1 ∧ hi9 (pLine f N a).2.2.1 (u399.1 60 11) := fun q => by
                  have ht := have_told (Sr_0 SS q)
                  have h3 := ku3883 (Y0 q)
                  rw [pLine_H (k := x65) H4 (PL.trans PQ.1) (by grind), ht.1, ht.2, (fk_at (c := 60) (i := 7) gu399 (by decide)), (fk_at (c := 60) (i := 10) gu399 (by decide)), (fk_at (c := 60) (i := 11) gu399 (by decide)), h3.1]
                  exact ⟨(fk_at gu388 (by decide)).trans Z7, rfl, h3.2⟩
                have RL : u399.1 60 18 = 0 → Rw u399 (wLine f N a W) := fun q => by rw [wLine_H (k := x65) (PL.trans PQ.1) (by grind)]; exact Rw_cg (ku3884 (Y0 q)) (fk_at (c := 60) (i := 7) gu399 (by decide)) (fk_c (c := 66) gu399 (by decide)) (fk_c (c := 67) gu399 (by decide)) (fk_c (c := 68) gu399 (by decide))
                exact g_vret dX7_readLine_116 rfl ⟨rfl, hu399, fu399, rfu399, (by first | rfl | (rw [Tt405]; grind) | rw [Tt405]), (by first | rfl | (rw [Tt405, Tt403]; grind) | rw [Tt405, Tt403]), SL, TL, RL⟩
              · refine g_aload_n dX7_readLine_94 rfl ?_
                refine g_aload_n dX7_readLine_95 rfl ?_
                refine f_X7_111 rfl rfl dX7_readLine_96 ?_
                refine g_topi (fun x407 ex407 => ?_)
                have qx407 : x407 = t393 := ex407.trans Tt393
                refine g_iconst (v := 3) dX7_readLine_99 (by decide) ?_
                refine g_icmp_ne (tgt := 107) dX7_readLine_100 (by decide) (fun c408 => ?_) (fun c408 => ?_)
                · refine g_iconst (v := 0) dX7_readLine_107 (by decide) ?_
                  refine g_iconst (v := 2) dX7_readLine_108 (by decide) ?_
                  refine cl_X7_125 (c := 60) (As := [.int 0, .int 2]) rfl (c_X7_needs_s (G := G) hs hu388  0 2 (by first | trivial | decide | lia | grind) (by first | trivial | decide | lia | grind) (d + 3)) rfl (by omega) rfl rfl (Nat.le_of_ble_eq_true rfl) dX7_readLine_109 (fun r409 u410 q411 => ?_)
                  obtain ⟨rfl, mq411⟩ := q411
                  obtain ⟨hu410, gu410, ku4100, ku4101, ku4102⟩ := mq411
                  have fu410 : fk [60, 66, 67, 68] [3, 13, 22, 28] u u410 := fk_tr fu388 gu410 (by decide) (by decide)
                  have rfu410 : rf u410 := rf_mono rfu388 gu410 (fun q => (ku4100 q).1) (by decide) (by decide) (by decide) (by decide)
                  have T412 : u410.1 60 7 = t1 := (fk_at gu410 (by decide)).trans T390
                  have T413 : u410.1 60 14 = t391 := (fk_at gu410 (by decide)).trans Tt391
                  have T414 : u410.1 60 15 = t392 := (fk_at gu410 (by decide)).trans Tt392
                  have T415 : u410.1 60 16 = t393 := (fk_at gu410 (by decide)).trans Tt393
                  obtain ⟨t416, Tt416⟩ : ∃ t, u410.1 60 18 = t := ⟨_, rfl⟩
                  have Rt416 : 0 ≤ t416 ∧ t416 ≤ 6 := by rw [← Tt416]; exact iv_at hu410 _ _ rfl
                  obtain ⟨t417, Tt417⟩ : ∃ t, u410.1 60 19 = t := ⟨_, rfl⟩
                  have ST : stp u388 u410 := Or.inr (Or.inl ⟨by grind, by grind, by rw [Tt416]; grind, by rw [Tt417]; grind⟩)
                  refine g_aload_n dX7_readLine_112 rfl ?_
                  refine cl_X7_133 (c := 60) (As := []) rfl (c_X7_next_s (G := G) hs hu410    (d + 2)) rfl (by omega) rfl rfl (Nat.le_of_ble_eq_true rfl) dX7_readLine_113 (fun r418 u419 q420 => ?_)
                  obtain ⟨rfl, mq420⟩ := q420
                  obtain ⟨hu419, gu419, ku4190, ku4191, ku4192, ku4193, ku4194, ku4195⟩ := mq420
                  have fu419 : fk [60, 66, 67, 68] [3, 13, 22, 28] u u419 := fk_tr fu410 gu419 (by decide) (by decide)
                  have rfu419 : rf u419 := rf_mono rfu410 gu419 ku4190 (by decide) (by decide) (by decide) (by decide)
                  have T421 : u419.1 60 7 = t1 := (fk_at gu419 (by decide)).trans T412
                  obtain ⟨t422, Tt422⟩ : ∃ t, u419.1 60 14 = t := ⟨_, rfl⟩
                  have Rt422 : 0 ≤ t422 ∧ t422 ≤ 160 := by rw [← Tt422]; exact iv_at hu419 _ _ rfl
                  obtain ⟨t423, Tt423⟩ : ∃ t, u419.1 60 15 = t := ⟨_, rfl⟩
                  have Rt423 : 0 ≤ t423 ∧ t423 ≤ 160 := by rw [← Tt423]; exact iv_at hu419 _ _ rfl
                  obtain ⟨t424, Tt424⟩ : ∃ t, u419.1 60 16 = t := ⟨_, rfl⟩
                  obtain ⟨t425, Tt425⟩ : ∃ t, u419.1 60 18 = t := ⟨_, rfl⟩
                  have Rt425 : 0 ≤ t425 ∧ t425 ≤ 6 := by rw [← Tt425]; exact iv_at hu419 _ _ rfl
                  obtain ⟨t426, Tt426⟩ : ∃ t, u419.1 60 19 = t := ⟨_, rfl⟩
                  have SS := Sr_stop hN ku3882 ST ⟨ku4194, fun q => ⟨(ku4195 q).2.2.2.2.1, (ku4195 q).2.2.2.2.2⟩⟩ (fk_at gu410 (by decide)) (fk_at gu410 (by decide)) (fk_c gu410 (by decide)) (fk_at gu419 (by decide)) (fk_c gu419 (by decide))
                  have Y0 : u419.1 60 18 = 0 → u388.1 60 18 = 0 := fun q => by grind
                  have SL : Sr f N u419 (pLine f N a) := by rw [pLine_H (k := x65) H4 (PL.trans PQ.1) (by grind)]; exact Sr_tell SS
                  have TL : u419.1 60 18 = 0 → u419.1 60 7 = (pLine f N a).2.2.2.1 ∧ u419.1 60 10 = (pLine f N a).2.2.1 ∧ hi9 (pLine f N a).2.2.1 (u419.1 60 11) := fun q => by
                    have ht := have_told (Sr_0 SS q)
                    have h3 := ku3883 (Y0 q)
                    rw [pLine_H (k := x65) H4 (PL.trans PQ.1) (by grind), ht.1, ht.2, ((fk_at (c := 60) (i := 7) gu419 (by decide)).trans (fk_at (c := 60) (i := 7) gu410 (by decide))), ((fk_at (c := 60) (i := 10) gu419 (by decide)).trans (fk_at (c := 60) (i := 10) gu410 (by decide))), ((fk_at (c := 60) (i := 11) gu419 (by decide)).trans (fk_at (c := 60) (i := 11) gu410 (by decide))), h3.1]
                    exact ⟨(fk_at gu388 (by decide)).trans Z7, rfl, h3.2⟩
                  have RL : u419.1 60 18 = 0 → Rw u419 (wLine f N a W) := fun q => by rw [wLine_H (k := x65) (PL.trans PQ.1) (by grind)]; exact Rw_cg (ku3884 (Y0 q)) ((fk_at (c := 60) (i := 7) gu419 (by decide)).trans (fk_at (c := 60) (i := 7) gu410 (by decide))) ((fk_c (c := 66) gu419 (by decide)).trans (fk_c (c := 66) gu410 (by decide))) ((fk_c (c := 67) gu419 (by decide)).trans (fk_c (c := 67) gu410 (by decide))) ((fk_c (c := 68) gu419 (by decide)).trans (fk_c (c := 68) gu410 (by decide)))
                  exact g_vret dX7_readLine_116 rfl ⟨rfl, hu419, fu419, rfu419, (by first | rfl | (rw [Tt425]; grind) | rw [Tt425]), (by first | rfl | (rw [Tt425, Tt423]; grind) | rw [Tt425, Tt423]), SL, TL, RL⟩
                · refine g_iconst (v := 1) dX7_readLine_103 (by decide) ?_
                  refine g_goto (tgt := 108) dX7_readLine_104 (by decide) ?_
                  refine g_iconst (v := 2) dX7_readLine_108 (by decide) ?_
                  refine cl_X7_125 (c := 60) (As := [.int 1, .int 2]) rfl (c_X7_needs_s (G := G) hs hu388  1 2 (by first | trivial | decide | lia | grind) (by first | trivial | decide | lia | grind) (d + 3)) rfl (by omega) rfl rfl (Nat.le_of_ble_eq_true rfl) dX7_readLine_109 (fun r427 u428 q429 => ?_)
                  obtain ⟨rfl, mq429⟩ := q429
                  obtain ⟨hu428, gu428, ku4280, ku4281, ku4282⟩ := mq429
                  have fu428 : fk [60, 66, 67, 68] [3, 13, 22, 28] u u428 := fk_tr fu388 gu428 (by decide) (by decide)
                  have rfu428 : rf u428 := rf_mono rfu388 gu428 (fun q => (ku4280 q).1) (by decide) (by decide) (by decide) (by decide)
                  have T430 : u428.1 60 7 = t1 := (fk_at gu428 (by decide)).trans T390
                  have T431 : u428.1 60 14 = t391 := (fk_at gu428 (by decide)).trans Tt391
                  have T432 : u428.1 60 15 = t392 := (fk_at gu428 (by decide)).trans Tt392
                  have T433 : u428.1 60 16 = t393 := (fk_at gu428 (by decide)).trans Tt393
                  obtain ⟨t434, Tt434⟩ : ∃ t, u428.1 60 18 = t := ⟨_, rfl⟩
                  have Rt434 : 0 ≤ t434 ∧ t434 ≤ 6 := by rw [← Tt434]; exact iv_at hu428 _ _ rfl
                  obtain ⟨t435, Tt435⟩ : ∃ t, u428.1 60 19 = t := ⟨_, rfl⟩
                  have ST : stp u388 u428 := Or.inr (Or.inr ⟨by grind, by grind, by rw [Tt434]; grind⟩)
                  refine g_aload_n dX7_readLine_112 rfl ?_
                  refine cl_X7_133 (c := 60) (As := []) rfl (c_X7_next_s (G := G) hs hu428    (d + 2)) rfl (by omega) rfl rfl (Nat.le_of_ble_eq_true rfl) dX7_readLine_113 (fun r436 u437 q438 => ?_)
                  obtain ⟨rfl, mq438⟩ := q438
                  obtain ⟨hu437, gu437, ku4370, ku4371, ku4372, ku4373, ku4374, ku4375⟩ := mq438
                  have fu437 : fk [60, 66, 67, 68] [3, 13, 22, 28] u u437 := fk_tr fu428 gu437 (by decide) (by decide)
                  have rfu437 : rf u437 := rf_mono rfu428 gu437 ku4370 (by decide) (by decide) (by decide) (by decide)
                  have T439 : u437.1 60 7 = t1 := (fk_at gu437 (by decide)).trans T430
                  obtain ⟨t440, Tt440⟩ : ∃ t, u437.1 60 14 = t := ⟨_, rfl⟩
                  have Rt440 : 0 ≤ t440 ∧ t440 ≤ 160 := by rw [← Tt440]; exact iv_at hu437 _ _ rfl
                  obtain ⟨t441, Tt441⟩ : ∃ t, u437.1 60 15 = t := ⟨_, rfl⟩
                  have Rt441 : 0 ≤ t441 ∧ t441 ≤ 160 := by rw [← Tt441]; exact iv_at hu437 _ _ rfl
                  obtain ⟨t442, Tt442⟩ : ∃ t, u437.1 60 16 = t := ⟨_, rfl⟩
                  obtain ⟨t443, Tt443⟩ : ∃ t, u437.1 60 18 = t := ⟨_, rfl⟩
                  have Rt443 : 0 ≤ t443 ∧ t443 ≤ 6 := by rw [← Tt443]; exact iv_at hu437 _ _ rfl
                  obtain ⟨t444, Tt444⟩ : ∃ t, u437.1 60 19 = t := ⟨_, rfl⟩
                  have SS := Sr_stop hN ku3882 ST ⟨ku4374, fun q => ⟨(ku4375 q).2.2.2.2.1, (ku4375 q).2.2.2.2.2⟩⟩ (fk_at gu428 (by decide)) (fk_at gu428 (by decide)) (fk_c gu428 (by decide)) (fk_at gu437 (by decide)) (fk_c gu437 (by decide))
                  have Y0 : u437.1 60 18 = 0 → u388.1 60 18 = 0 := fun q => by grind
                  have SL : Sr f N u437 (pLine f N a) := by rw [pLine_H (k := x65) H4 (PL.trans PQ.1) (by grind)]; exact Sr_tell SS
                  have TL : u437.1 60 18 = 0 → u437.1 60 7 = (pLine f N a).2.2.2.1 ∧ u437.1 60 10 = (pLine f N a).2.2.1 ∧ hi9 (pLine f N a).2.2.1 (u437.1 60 11) := fun q => by
                    have ht := have_told (Sr_0 SS q)
                    have h3 := ku3883 (Y0 q)
                    rw [pLine_H (k := x65) H4 (PL.trans PQ.1) (by grind), ht.1, ht.2, ((fk_at (c := 60) (i := 7) gu437 (by decide)).trans (fk_at (c := 60) (i := 7) gu428 (by decide))), ((fk_at (c := 60) (i := 10) gu437 (by decide)).trans (fk_at (c := 60) (i := 10) gu428 (by decide))), ((fk_at (c := 60) (i := 11) gu437 (by decide)).trans (fk_at (c := 60) (i := 11) gu428 (by decide))), h3.1]
                    exact ⟨(fk_at gu388 (by decide)).trans Z7, rfl, h3.2⟩
                  have RL : u437.1 60 18 = 0 → Rw u437 (wLine f N a W) := fun q => by rw [wLine_H (k := x65) (PL.trans PQ.1) (by grind)]; exact Rw_cg (ku3884 (Y0 q)) ((fk_at (c := 60) (i := 7) gu437 (by decide)).trans (fk_at (c := 60) (i := 7) gu428 (by decide))) ((fk_c (c := 66) gu437 (by decide)).trans (fk_c (c := 66) gu428 (by decide))) ((fk_c (c := 67) gu437 (by decide)).trans (fk_c (c := 67) gu428 (by decide))) ((fk_c (c := 68) gu437 (by decide)).trans (fk_c (c := 68) gu428 (by decide)))
                  exact g_vret dX7_readLine_116 rfl ⟨rfl, hu437, fu437, rfu437, (by first | rfl | (rw [Tt443]; grind) | rw [Tt443]), (by first | rfl | (rw [Tt443, Tt441]; grind) | rw [Tt443, Tt441]), SL, TL, RL⟩
          · have S4 := Sr_4 hN SN rfl (by grind)
            have SL : Sr f N u318 (pLine f N a) := by rw [pLine_e (k := x65) H4 (PL.trans PQ.1) PQ.2 (by rw [← p2]; grind) S4.1]; exact S4.2
            exact g_vret dX7_readLine_69 rfl ⟨rfl, hu318, fu318, rfu318, (by first | rfl | (rw [Tt324]; grind) | rw [Tt324]), (by first | rfl | (rw [Tt324, Tt322]; grind) | rw [Tt324, Tt322]), SL, (fun q => by exfalso; grind), (fun q => by exfalso; grind)⟩
abbrev q_X7_keepDraft_t (u : uk_Mem)  (r : Option Value) (u' : uk_Mem) : Prop := (r = none) ∧ (iv u' ∧ fk [60, 61, 63, 64, 65] [7, 10, 11, 13, 14, 15, 16, 17, 18, 19, 22, 28] u u' ∧ ri u' ∧ u'.1 60 3 = u.1 60 7 ∧ cpy (u'.1 61) (u.1 66) 51 ∧ cpy (u'.1 64) (u.1 67) (u.1 60 7) ∧ cpy (u'.1 65) (u.1 68) (u.1 60 7) ∧ u'.1 63 0 = 0 ∧ u'.1 63 1 = 0)
set_option maxHeartbeats 4000000 in
set_option maxRecDepth 20000 in
theorem c_X7_keepDraft_t {G : uk_D} (hs : uk_Sep G) {u : uk_Mem} (hu : iv u) (hrd : rd u)  (d : Nat) : uk_Meth G d mX7_keepDraft [.ref (uk_ad G 60)] u (q_X7_keepDraft_t u) := by
  refine uk_Meth.of hs (by decide) (Nat.le_of_ble_eq_true rfl) (fun X => ?_)
  have f0 : fk [60, 61, 63, 64, 65] [7, 10, 11, 13, 14, 15, 16, 17, 18, 19, 22, 28] u u := fk_rf
  obtain ⟨t1, Tt1⟩ : ∃ t, u.1 60 3 = t := ⟨_, rfl⟩
  refine g_iconst (v := 0) dX7_keepDraft_0 (by decide) ?_
  refine g_istore_n dX7_keepDraft_1 (by decide) ?_
  have L2_1 : ∀ i3 : Int32, 0 ≤ i3 → i3 ≤ 51 → ∀ (u4 : uk_Mem), iv u4 → fk [60, 61, 63, 64, 65] [7, 10, 11, 13, 14, 15, 16, 17, 18, 19, 22, 28] u u4 → cpy (u4.1 61) (u.1 66) i3 → uk_G G X mX7_keepDraft d (q_X7_keepDraft_t u) 2 [(0, .ref (uk_ad G 60)), (1, .int i3)] [] u4 := by
    refine uk_upl 51 ?_
    intro i3 ai3 bi3 ihi3  u4 hu4 fu4 ji30
    obtain ⟨t5, Tt5⟩ : ∃ t, u4.1 60 3 = t := ⟨_, rfl⟩
    have Rt5 : 0 ≤ t5 ∧ t5 ≤ 8 := by rw [← Tt5]; exact iv_at hu4 _ _ rfl
    refine g_iload_n dX7_keepDraft_2 rfl ?_
    refine g_bipush (v := 51) dX7_keepDraft_3 (by decide) ?_
    refine g_icmp_ge (tgt := 26) dX7_keepDraft_5 (by decide) (fun c6 => ?_) (fun c6 => ?_)
    · refine g_aload_n dX7_keepDraft_26 rfl ?_
      refine g_aload_n dX7_keepDraft_27 rfl ?_
      refine f_X7_69 rfl rfl dX7_keepDraft_28 ?_
      refine g_topi (fun x7 ex7 => ?_)
      have rx7 : 0 ≤ x7 ∧ x7 ≤ 8 := by rw [ex7]; exact iv_at hu4 _ _ rfl
      have s8 : u4.1 60 7 = x7 := ex7.symm
      refine p_X7_79 rfl rfl dX7_keepDraft_31 ?_
      refine g_mem (fun u9 eu9 => ?_)
      have hu9 : iv u9 := by rw [eu9]; exact iv_up hu4 rfl (by first | lia | grind) (by first | lia | grind)
      have fu9 : fk [60, 61, 63, 64, 65] [7, 10, 11, 13, 14, 15, 16, 17, 18, 19, 22, 28] u u9 := by rw [eu9]; exact fk_up fu4 (by decide) (fun _ => by decide)
      have s10 : u9.1 60 3 = x7 := by rw [eu9, uk_up_at]; exact if_pos ⟨rfl, rfl⟩
      refine g_iconst (v := 0) dX7_keepDraft_34 (by decide) ?_
      refine g_istore_n dX7_keepDraft_35 (by decide) ?_
      have L36_10 : ∀ i12 : Int32, 0 ≤ i12 → i12 ≤ 8 → ∀ (u13 : uk_Mem), iv u13 → fk [60, 61, 63, 64, 65] [7, 10, 11, 13, 14, 15, 16, 17, 18, 19, 22, 28] u u13 → cpy (u13.1 61) (u.1 66) 51 → cpy (u13.1 64) (u.1 67) i12 → cpy (u13.1 65) (u.1 68) i12 → u13.1 60 3 = u.1 60 7 → uk_G G X mX7_keepDraft d (q_X7_keepDraft_t u) 36 [(0, .ref (uk_ad G 60)), (1, .int i12)] [] u13 := by
        refine uk_upl 8 ?_
        intro i12 ai12 bi12 ihi12  u13 hu13 fu13 ji120 ji121 ji122 ji123
        have C61_u13 : u13.1 61 = u13.1 61 := rfl
        have C63_u13 : u13.1 63 = u13.1 63 := rfl
        have C64_u13 : u13.1 64 = u13.1 64 := rfl
        have C65_u13 : u13.1 65 = u13.1 65 := rfl
        obtain ⟨t14, Tt14⟩ : ∃ t, u13.1 60 3 = t := ⟨_, rfl⟩
        have Rt14 : 0 ≤ t14 ∧ t14 ≤ 8 := by rw [← Tt14]; exact iv_at hu13 _ _ rfl
        refine g_iload_n dX7_keepDraft_36 rfl ?_
        refine g_aload_n dX7_keepDraft_37 rfl ?_
        refine f_X7_79 rfl rfl dX7_keepDraft_38 ?_
        refine g_topi (fun x15 ex15 => ?_)
        have rx15 : 0 ≤ x15 ∧ x15 ≤ 8 := by rw [ex15]; exact iv_at hu13 _ _ rfl
        have qx15 : x15 = t14 := ex15.trans Tt14
        refine g_icmp_ge (tgt := 74) dX7_keepDraft_41 (by decide) (fun c16 => ?_) (fun c16 => ?_)
        · refine g_aload_n dX7_keepDraft_74 rfl ?_
          refine f_X7_16 rfl rfl dX7_keepDraft_75 ?_
          refine g_iconst (v := 0) dX7_keepDraft_78 (by decide) ?_
          refine g_iconst (v := 0) dX7_keepDraft_79 (by decide) ?_
          have v17 : vp_in 0 2 := uk_vin 2 rfl (by first | decide | lia | grind) (by first | decide | lia | grind)
          have b18 := uk_cl v17
          refine g_zast rfl rfl v17 dX7_keepDraft_80 ?_
          rw [show vp_nar .boolean 0 = 0 from rfl]
          refine g_mem (fun u19 eu19 => ?_)
          have hu19 : iv u19 := by rw [eu19]; exact iv_up hu13 (uk_pick1 _ (by omega)) (by first | lia | grind) (by first | lia | grind)
          have fu19 : fk [60, 61, 63, 64, 65] [7, 10, 11, 13, 14, 15, 16, 17, 18, 19, 22, 28] u u19 := by rw [eu19]; exact fk_up fu13 (by decide) (fun q => absurd q (by decide))
          have T20 : u19.1 60 3 = t14 := by rw [eu19]; exact (congrFun (uk_up_oc (by decide)) _).trans Tt14
          have C21 : u19.1 61 = u13.1 61 := by rw [eu19]; exact (uk_up_oc (by decide)).trans C61_u13
          have C22 : u19.1 63 = (upd (u13.1 63) (0 : Int32).toNatClampNeg 0) := by rw [eu19, uk_up_self, C63_u13]
          have C23 : u19.1 64 = u13.1 64 := by rw [eu19]; exact (uk_up_oc (by decide)).trans C64_u13
          have C24 : u19.1 65 = u13.1 65 := by rw [eu19]; exact (uk_up_oc (by decide)).trans C65_u13
          refine g_aload_n dX7_keepDraft_81 rfl ?_
          refine f_X7_16 rfl rfl dX7_keepDraft_82 ?_
          refine g_iconst (v := 1) dX7_keepDraft_85 (by decide) ?_
          refine g_iconst (v := 0) dX7_keepDraft_86 (by decide) ?_
          have v25 : vp_in 1 2 := uk_vin 2 rfl (by first | decide | lia | grind) (by first | decide | lia | grind)
          have b26 := uk_cl v25
          refine g_zast rfl rfl v25 dX7_keepDraft_87 ?_
          rw [show vp_nar .boolean 0 = 0 from rfl]
          refine g_mem (fun u27 eu27 => ?_)
          have hu27 : iv u27 := by rw [eu27]; exact iv_up hu19 (uk_pick1 _ (by omega)) (by first | lia | grind) (by first | lia | grind)
          have fu27 : fk [60, 61, 63, 64, 65] [7, 10, 11, 13, 14, 15, 16, 17, 18, 19, 22, 28] u u27 := by rw [eu27]; exact fk_up fu19 (by decide) (fun q => absurd q (by decide))
          have T28 : u27.1 60 3 = t14 := by rw [eu27]; exact (congrFun (uk_up_oc (by decide)) _).trans T20
          have C29 : u27.1 61 = u13.1 61 := by rw [eu27]; exact (uk_up_oc (by decide)).trans C21
          have C30 : u27.1 63 = (upd ((upd (u13.1 63) (0 : Int32).toNatClampNeg 0)) (1 : Int32).toNatClampNeg 0) := by rw [eu27, uk_up_self, C22]
          have C31 : u27.1 64 = u13.1 64 := by rw [eu27]; exact (uk_up_oc (by decide)).trans C23
          have C32 : u27.1 65 = u13.1 65 := by rw [eu27]; exact (uk_up_oc (by decide)).trans C24
          exact g_vret dX7_keepDraft_88 rfl ⟨rfl, hu27, fu27, (ri_draft hrd (T28.trans (by grind)) (iv_at hu 60 7 rfl).2 (by rw [C29]; exact ji120) (by rw [C31]; exact cpy_le ji121 (by grind)) (by rw [C32]; exact cpy_le ji122 (by grind)) (by rw [C30]; rfl) (by rw [C30]; rfl)), (T28.trans (by grind)), (by rw [C29]; exact ji120), (by rw [C31]; exact cpy_le ji121 (by grind)), (by rw [C32]; exact cpy_le ji122 (by grind)), (by rw [C30]; rfl), (by rw [C30]; rfl)⟩
        · refine g_aload_n dX7_keepDraft_44 rfl ?_
          refine f_X7_20 rfl rfl dX7_keepDraft_45 ?_
          refine g_iload_n dX7_keepDraft_48 rfl ?_
          refine g_aload_n dX7_keepDraft_49 rfl ?_
          refine f_X7_29 rfl rfl dX7_keepDraft_50 ?_
          refine g_iload_n dX7_keepDraft_53 rfl ?_
          have v33 : vp_in i12 8 := uk_vin 8 rfl (by first | decide | lia | grind) (by first | decide | lia | grind)
          refine g_iald rfl rfl v33 dX7_keepDraft_54 ?_
          refine g_topi (fun x34 ex34 => ?_)
          have bx34 := uk_cl v33
          have rx34 : (-4) ≤ x34 ∧ x34 ≤ 7 := by rw [ex34]; exact iv_at hu13 _ _ (uk_pick1 _ (by omega))
          have v35 : vp_in i12 8 := uk_vin 8 rfl (by first | decide | lia | grind) (by first | decide | lia | grind)
          have b36 := uk_cl v35
          refine g_iast rfl rfl v35 dX7_keepDraft_55 ?_
          refine g_mem (fun u37 eu37 => ?_)
          have hu37 : iv u37 := by rw [eu37]; exact iv_up hu13 (uk_pick1 _ (by omega)) (by first | lia | grind) (by first | lia | grind)
          have fu37 : fk [60, 61, 63, 64, 65] [7, 10, 11, 13, 14, 15, 16, 17, 18, 19, 22, 28] u u37 := by rw [eu37]; exact fk_up fu13 (by decide) (fun q => absurd q (by decide))
          have T38 : u37.1 60 3 = t14 := by rw [eu37]; exact (congrFun (uk_up_oc (by decide)) _).trans Tt14
          have C39 : u37.1 61 = u13.1 61 := by rw [eu37]; exact (uk_up_oc (by decide)).trans C61_u13
          have C40 : u37.1 63 = u13.1 63 := by rw [eu37]; exact (uk_up_oc (by decide)).trans C63_u13
          have C41 : u37.1 64 = (upd (u13.1 64) (i12 : Int32).toNatClampNeg x34) := by rw [eu37, uk_up_self, C64_u13]
          have C42 : u37.1 65 = u13.1 65 := by rw [eu37]; exact (uk_up_oc (by decide)).trans C65_u13
          refine g_aload_n dX7_keepDraft_56 rfl ?_
          refine f_X7_23 rfl rfl dX7_keepDraft_57 ?_
          refine g_iload_n dX7_keepDraft_60 rfl ?_
          refine g_aload_n dX7_keepDraft_61 rfl ?_
          refine f_X7_32 rfl rfl dX7_keepDraft_62 ?_
          refine g_iload_n dX7_keepDraft_65 rfl ?_
          have v43 : vp_in i12 8 := uk_vin 8 rfl (by first | decide | lia | grind) (by first | decide | lia | grind)
          refine g_iald rfl rfl v43 dX7_keepDraft_66 ?_
          refine g_topi (fun x44 ex44 => ?_)
          have bx44 := uk_cl v43
          have rx44 : (-4) ≤ x44 ∧ x44 ≤ 7 := by rw [ex44]; exact iv_at hu37 _ _ (uk_pick1 _ (by omega))
          have v45 : vp_in i12 8 := uk_vin 8 rfl (by first | decide | lia | grind) (by first | decide | lia | grind)
          have b46 := uk_cl v45
          refine g_iast rfl rfl v45 dX7_keepDraft_67 ?_
          refine g_mem (fun u47 eu47 => ?_)
          have hu47 : iv u47 := by rw [eu47]; exact iv_up hu37 (uk_pick1 _ (by omega)) (by first | lia | grind) (by first | lia | grind)
          have fu47 : fk [60, 61, 63, 64, 65] [7, 10, 11, 13, 14, 15, 16, 17, 18, 19, 22, 28] u u47 := by rw [eu47]; exact fk_up fu37 (by decide) (fun q => absurd q (by decide))
          have T48 : u47.1 60 3 = t14 := by rw [eu47]; exact (congrFun (uk_up_oc (by decide)) _).trans T38
          have C49 : u47.1 61 = u13.1 61 := by rw [eu47]; exact (uk_up_oc (by decide)).trans C39
          have C50 : u47.1 63 = u13.1 63 := by rw [eu47]; exact (uk_up_oc (by decide)).trans C40
          have C51 : u47.1 64 = (upd (u13.1 64) (i12 : Int32).toNatClampNeg x34) := by rw [eu47]; exact (uk_up_oc (by decide)).trans C41
          have C52 : u47.1 65 = (upd (u13.1 65) (i12 : Int32).toNatClampNeg x44) := by rw [eu47, uk_up_self, C42]
          refine g_iinc (v := i12 + 1) dX7_keepDraft_68 rfl rfl (by decide) ?_
          refine g_goto (tgt := 36) dX7_keepDraft_71 (by decide) ?_
          refine g_pick (lv' := [(0, .ref (uk_ad G 60)), (1, .int (i12 + 1))]) [0, 1] rfl ?_
          exact ihi12 (by first | lia | grind)  u47 hu47 fu47 (by rw [C49]; exact ji120) (by rw [C51]; exact cpy_up ji121 (by lia) (ex34.trans (congrFun (fk_c fu13 (by decide)) _))) (by rw [C52]; exact cpy_up ji122 (by lia) (ex44.trans (congrFun (fk_c fu37 (by decide)) _))) (by grind)
      refine g_pick (lv' := [(0, .ref (uk_ad G 60)), (1, .int 0)]) [0, 1] rfl ?_
      exact L36_10 0 (by first | decide | lia | grind) (by first | decide | lia | grind)  u9 hu9 fu9 (by rw [eu9, uk_up_oc (by decide)]; exact (show i3 = 51 by grind) ▸ ji30) cpy_0 cpy_0 (s10.trans (ex7.trans (fk_at fu4 (by decide))))
    · refine g_aload_n dX7_keepDraft_8 rfl ?_
      refine f_X7_7 rfl rfl dX7_keepDraft_9 ?_
      refine g_iload_n dX7_keepDraft_12 rfl ?_
      refine g_aload_n dX7_keepDraft_13 rfl ?_
      refine f_X7_26 rfl rfl dX7_keepDraft_14 ?_
      refine g_iload_n dX7_keepDraft_17 rfl ?_
      have v53 : vp_in i3 51 := uk_vin 51 rfl (by first | decide | lia | grind) (by first | decide | lia | grind)
      refine g_iald rfl rfl v53 dX7_keepDraft_18 ?_
      refine g_topi (fun x54 ex54 => ?_)
      have bx54 := uk_cl v53
      have v55 : vp_in i3 153 := uk_vin 153 rfl (by first | decide | lia | grind) (by first | decide | lia | grind)
      have b56 := uk_cl v55
      refine g_iast rfl rfl v55 dX7_keepDraft_19 ?_
      refine g_mem (fun u57 eu57 => ?_)
      have hu57 : iv u57 := by rw [eu57]; exact iv_cp hu4 hu4 (by unfold uk_is51; decide) (by unfold uk_is51; decide) (by omega) ex54
      have fu57 : fk [60, 61, 63, 64, 65] [7, 10, 11, 13, 14, 15, 16, 17, 18, 19, 22, 28] u u57 := by rw [eu57]; exact fk_up fu4 (by decide) (fun q => absurd q (by decide))
      have T58 : u57.1 60 3 = t5 := by rw [eu57]; exact (congrFun (uk_up_oc (by decide)) _).trans Tt5
      refine g_iinc (v := i3 + 1) dX7_keepDraft_20 rfl rfl (by decide) ?_
      refine g_goto (tgt := 2) dX7_keepDraft_23 (by decide) ?_
      refine g_pick (lv' := [(0, .ref (uk_ad G 60)), (1, .int (i3 + 1))]) [0, 1] rfl ?_
      exact ihi3 (by first | lia | grind)  u57 hu57 fu57 (by rw [eu57, uk_up_self]; exact cpy_up ji30 (by lia) (ex54.trans (congrFun (fk_c fu4 (by decide)) _)))
  refine g_pick (lv' := [(0, .ref (uk_ad G 60)), (1, .int 0)]) [0, 1] rfl ?_
  exact L2_1 0 (by first | decide | lia | grind) (by first | decide | lia | grind)  u hu f0 cpy_0
abbrev q_X7_firstDraft_t (u : uk_Mem)  (r : Option Value) (u' : uk_Mem) : Prop := (r = none) ∧ (iv u' ∧ fk [60, 66] [3, 13, 14, 15, 16, 17, 18, 19, 22, 28] u u' ∧ rf u' ∧ u'.1 60 7 = 0 ∧ u'.1 60 10 = 0 ∧ u'.1 60 11 = -4 ∧ (∀ j, j < 51 → u'.1 66 j = 0))
set_option maxHeartbeats 4000000 in
set_option maxRecDepth 20000 in
theorem c_X7_firstDraft_t {G : uk_D} (hs : uk_Sep G) {u : uk_Mem} (hu : iv u)  (d : Nat) : uk_Meth G d mX7_firstDraft [.ref (uk_ad G 60)] u (q_X7_firstDraft_t u) := by
  refine uk_Meth.of hs (by decide) (Nat.le_of_ble_eq_true rfl) (fun X => ?_)
  have f0 : fk [60, 66] [3, 13, 14, 15, 16, 17, 18, 19, 22, 28] u u := fk_rf
  refine g_iconst (v := 0) dX7_firstDraft_0 (by decide) ?_
  refine g_istore_n dX7_firstDraft_1 (by decide) ?_
  have L2_0 : ∀ i2 : Int32, 0 ≤ i2 → i2 ≤ 51 → ∀ (u3 : uk_Mem), iv u3 → fk [60, 66] [3, 13, 14, 15, 16, 17, 18, 19, 22, 28] u u3 → aq0 u3 i2 → uk_G G X mX7_firstDraft d (q_X7_firstDraft_t u) 2 [(0, .ref (uk_ad G 60)), (1, .int i2)] [] u3 := by
    refine uk_upl 51 ?_
    intro i2 ai2 bi2 ihi2  u3 hu3 fu3 ji20
    refine g_iload_n dX7_firstDraft_2 rfl ?_
    refine g_bipush (v := 51) dX7_firstDraft_3 (by decide) ?_
    refine g_icmp_ge (tgt := 21) dX7_firstDraft_5 (by decide) (fun c4 => ?_) (fun c4 => ?_)
    · refine g_aload_n dX7_firstDraft_21 rfl ?_
      refine g_iconst (v := 0) dX7_firstDraft_22 (by decide) ?_
      refine p_X7_69 rfl rfl dX7_firstDraft_23 ?_
      refine g_mem (fun u5 eu5 => ?_)
      have hu5 : iv u5 := by rw [eu5]; exact iv_up hu3 rfl (by first | lia | grind) (by first | lia | grind)
      have fu5 : fk [60, 66] [3, 13, 14, 15, 16, 17, 18, 19, 22, 28] u u5 := by rw [eu5]; exact fk_up fu3 (by decide) (fun _ => by decide)
      have s6 : u5.1 60 7 = 0 := by rw [eu5, uk_up_at]; exact if_pos ⟨rfl, rfl⟩
      refine g_aload_n dX7_firstDraft_26 rfl ?_
      refine g_iconst (v := 0) dX7_firstDraft_27 (by decide) ?_
      refine p_X7_73 rfl rfl dX7_firstDraft_28 ?_
      refine g_mem (fun u7 eu7 => ?_)
      have hu7 : iv u7 := by rw [eu7]; exact iv_upF hu5 rfl
      have fu7 : fk [60, 66] [3, 13, 14, 15, 16, 17, 18, 19, 22, 28] u u7 := by rw [eu7]; exact fk_up fu5 (by decide) (fun _ => by decide)
      have s8 : u7.1 60 10 = 0 := by rw [eu7, uk_up_at]; exact if_pos ⟨rfl, rfl⟩
      refine g_aload_n dX7_firstDraft_31 rfl ?_
      refine g_bipush (v := (-4)) dX7_firstDraft_32 (by decide) ?_
      refine p_X7_76 rfl rfl dX7_firstDraft_34 ?_
      refine g_mem (fun u9 eu9 => ?_)
      have hu9 : iv u9 := by rw [eu9]; exact iv_upF hu7 rfl
      have fu9 : fk [60, 66] [3, 13, 14, 15, 16, 17, 18, 19, 22, 28] u u9 := by rw [eu9]; exact fk_up fu7 (by decide) (fun _ => by decide)
      have s10 : u9.1 60 11 = (-4) := by rw [eu9, uk_up_at]; exact if_pos ⟨rfl, rfl⟩
      exact g_vret dX7_firstDraft_37 rfl ⟨rfl, hu9, fu9, (fun _ => rd_0 (by grind [uk_up_at])), (by grind [uk_up_at]), (by grind [uk_up_at]), (by grind [uk_up_at]), (fun j hj => by rw [eu9, uk_up_oc (by decide), eu7, uk_up_oc (by decide), eu5, uk_up_oc (by decide)]; exact ji20 j (by have := uk_cge 51 51 rfl (i := i2) (by grind); omega))⟩
    · refine g_aload_n dX7_firstDraft_8 rfl ?_
      refine f_X7_26 rfl rfl dX7_firstDraft_9 ?_
      refine g_iload_n dX7_firstDraft_12 rfl ?_
      refine g_iconst (v := 0) dX7_firstDraft_13 (by decide) ?_
      have v11 : vp_in i2 51 := uk_vin 51 rfl (by first | decide | lia | grind) (by first | decide | lia | grind)
      have b12 := uk_cl v11
      refine g_iast rfl rfl v11 dX7_firstDraft_14 ?_
      refine g_mem (fun u13 eu13 => ?_)
      have hu13 : iv u13 := by rw [eu13]; exact iv_st hu3 (by unfold uk_is51; decide) (by first | decide | lia | grind) (by first | decide | lia | grind) (fun q => by first | decide | lia | grind) (fun q => by first | decide | lia | grind) (fun q => by first | decide | lia | grind)
      have fu13 : fk [60, 66] [3, 13, 14, 15, 16, 17, 18, 19, 22, 28] u u13 := by rw [eu13]; exact fk_up fu3 (by decide) (fun q => absurd q (by decide))
      refine g_iinc (v := i2 + 1) dX7_firstDraft_15 rfl rfl (by decide) ?_
      refine g_goto (tgt := 2) dX7_firstDraft_18 (by decide) ?_
      refine g_pick (lv' := [(0, .ref (uk_ad G 60)), (1, .int (i2 + 1))]) [0, 1] rfl ?_
      exact ihi2 (by first | lia | grind)  u13 hu13 fu13 (aq0_s ji20 (by grind) (by grind) eu13)
  refine g_pick (lv' := [(0, .ref (uk_ad G 60)), (1, .int 0)]) [0, 1] rfl ?_
  exact L2_0 0 (by first | decide | lia | grind) (by first | decide | lia | grind)  u hu f0 aq0_0
abbrev q_X7_text_t (u : uk_Mem) (f : Nat → Int32) (N : Int32) (r : Option Value) (u' : uk_Mem) : Prop := (∃ x : Int32, r = some (.int x) ∧ ((¬ (pRes f N).1.1 = 0 ∧ x = -10 - (pRes f N).1.2.1) ∨ ((pRes f N).1.1 = 0 ∧ x = (pRes f N).2))) ∧ (iv u' ∧ fk [60, 61, 63, 64, 65, 66, 67, 68] [22, 28] u u' ∧ ri u' ∧ u'.1 60 13 = 0 ∧ u'.1 60 18 = (pRes f N).1.1 ∧ ((pRes f N).1.1 = 0 → RwG (u'.1 60 3) (u'.1 61) (u'.1 64) (u'.1 65) (wIt f N (pRes f N).2.toNatClampNeg) ∧ u'.1 60 3 = (pIt f N (pRes f N).2.toNatClampNeg).2.2.2.1 ∧ u'.1 63 0 = 0 ∧ u'.1 63 1 = 0) ∧ (¬ (pRes f N).1.1 = 0 → u'.1 61 = u.1 61 ∧ u'.1 63 = u.1 63 ∧ u'.1 64 = u.1 64 ∧ u'.1 65 = u.1 65 ∧ u'.1 60 3 = u.1 60 3))
set_option maxHeartbeats 4000000 in
set_option maxRecDepth 20000 in
theorem c_X7_text_t {G : uk_D} (hs : uk_Sep G) {u : uk_Mem} (hu : iv u) (hri : ri u) (f : Nat → Int32) (N : Int32) (p0 : cpy (u.1 69) f N) (p1 : u.1 60 13 = N) (d : Nat) : uk_Meth G (d + 5) mX7_text [.ref (uk_ad G 60)] u (q_X7_text_t u f N) := by
  refine uk_Meth.of hs (by decide) (Nat.le_of_ble_eq_true rfl) (fun X => ?_)
  have f0 : fk [60, 61, 63, 64, 65, 66, 67, 68] [22, 28] u u := fk_rf
  obtain ⟨t1, Tt1⟩ : ∃ t, u.1 60 7 = t := ⟨_, rfl⟩
  obtain ⟨t2, Tt2⟩ : ∃ t, u.1 60 11 = t := ⟨_, rfl⟩
  obtain ⟨t3, Tt3⟩ : ∃ t, u.1 60 13 = t := ⟨_, rfl⟩
  obtain ⟨t4, Tt4⟩ : ∃ t, u.1 60 15 = t := ⟨_, rfl⟩
  obtain ⟨t5, Tt5⟩ : ∃ t, u.1 60 16 = t := ⟨_, rfl⟩
  obtain ⟨t6, Tt6⟩ : ∃ t, u.1 60 18 = t := ⟨_, rfl⟩
  obtain ⟨t7, Tt7⟩ : ∃ t, u.1 60 19 = t := ⟨_, rfl⟩
  refine g_iconst (v := 0) dX7_text_0 (by decide) ?_
  refine g_istore_n dX7_text_1 (by decide) ?_
  refine g_aload_n dX7_text_2 rfl ?_
  refine g_iconst (v := 0) dX7_text_3 (by decide) ?_
  refine p_X7_91 rfl rfl dX7_text_4 ?_
  refine g_mem (fun u8 eu8 => ?_)
  have hu8 : iv u8 := by rw [eu8]; exact iv_up hu rfl (by first | lia | grind) (by first | lia | grind)
  have fu8 : fk [60, 61, 63, 64, 65, 66, 67, 68] [22, 28] u u8 := by rw [eu8]; exact fk_up f0 (by decide) (fun _ => by decide)
  have riu8 : ri u8 := by rw [eu8]; exact ri_1 hri (by decide) (fun _ => by decide)
  have s9 : u8.1 60 18 = 0 := by rw [eu8, uk_up_at]; exact if_pos ⟨rfl, rfl⟩
  have T10 : u8.1 60 7 = t1 := by rw [eu8, uk_up_at, if_neg (by decide)]; exact Tt1
  have T11 : u8.1 60 11 = t2 := by rw [eu8, uk_up_at, if_neg (by decide)]; exact Tt2
  have T12 : u8.1 60 13 = t3 := by rw [eu8, uk_up_at, if_neg (by decide)]; exact Tt3
  have T13 : u8.1 60 15 = t4 := by rw [eu8, uk_up_at, if_neg (by decide)]; exact Tt4
  have T14 : u8.1 60 16 = t5 := by rw [eu8, uk_up_at, if_neg (by decide)]; exact Tt5
  have T15 : u8.1 60 19 = t7 := by rw [eu8, uk_up_at, if_neg (by decide)]; exact Tt7
  refine g_aload_n dX7_text_7 rfl ?_
  refine g_iconst (v := 0) dX7_text_8 (by decide) ?_
  refine p_X7_100 rfl rfl dX7_text_9 ?_
  refine g_mem (fun u16 eu16 => ?_)
  have hu16 : iv u16 := by rw [eu16]; exact iv_up hu8 rfl (by first | lia | grind) (by first | lia | grind)
  have fu16 : fk [60, 61, 63, 64, 65, 66, 67, 68] [22, 28] u u16 := by rw [eu16]; exact fk_up fu8 (by decide) (fun _ => by decide)
  have riu16 : ri u16 := by rw [eu16]; exact ri_1 riu8 (by decide) (fun _ => by decide)
  have s17 : u16.1 60 14 = 0 := by rw [eu16, uk_up_at]; exact if_pos ⟨rfl, rfl⟩
  have T18 : u16.1 60 7 = t1 := by rw [eu16, uk_up_at, if_neg (by decide)]; exact T10
  have T19 : u16.1 60 11 = t2 := by rw [eu16, uk_up_at, if_neg (by decide)]; exact T11
  have T20 : u16.1 60 13 = t3 := by rw [eu16, uk_up_at, if_neg (by decide)]; exact T12
  have T21 : u16.1 60 15 = t4 := by rw [eu16, uk_up_at, if_neg (by decide)]; exact T13
  have T22 : u16.1 60 16 = t5 := by rw [eu16, uk_up_at, if_neg (by decide)]; exact T14
  have T23 : u16.1 60 18 = 0 := by rw [eu16, uk_up_at, if_neg (by decide)]; exact s9
  have T24 : u16.1 60 19 = t7 := by rw [eu16, uk_up_at, if_neg (by decide)]; exact T15
  refine g_aload_n dX7_text_12 rfl ?_
  refine cl_X7_63 (c := 60) (As := []) rfl (c_X7_firstDraft_t (G := G) hs hu16    (d + 4)) rfl (by omega) rfl rfl (Nat.le_of_ble_eq_true rfl) dX7_text_13 (fun r25 u26 q27 => ?_)
  obtain ⟨rfl, mq27⟩ := q27
  obtain ⟨hu26, gu26, rfu26, ku260, ku261, ku262, ku263⟩ := mq27
  have fu26 : fk [60, 61, 63, 64, 65, 66, 67, 68] [22, 28] u u26 := fk_tr fu16 gu26 (by decide) (by decide)
  have riu26 : ri u26 := ri_fk riu16 gu26 (by decide) (by decide) (by decide) (by decide) (by decide)
  obtain ⟨t28, Tt28⟩ : ∃ t, u26.1 60 7 = t := ⟨_, rfl⟩
  have Rt28 : 0 ≤ t28 ∧ t28 ≤ 8 := by rw [← Tt28]; exact iv_at hu26 _ _ rfl
  obtain ⟨t29, Tt29⟩ : ∃ t, u26.1 60 11 = t := ⟨_, rfl⟩
  have T30 : u26.1 60 13 = t3 := (fk_at gu26 (by decide)).trans T20
  have T31 : u26.1 60 15 = t4 := (fk_at gu26 (by decide)).trans T21
  have T32 : u26.1 60 16 = t5 := (fk_at gu26 (by decide)).trans T22
  have T33 : u26.1 60 18 = 0 := (fk_at gu26 (by decide)).trans T23
  have T34 : u26.1 60 19 = t7 := (fk_at gu26 (by decide)).trans T24
  have wu26_60_3 : u26.1 60 3 = u16.1 60 3 := fk_at gu26 (by decide)
  have s35 : u26.1 60 18 = 0 := (fk_at gu26 (by decide)).trans (by simp [eu16, uk_up_at, s9] : u16.1 60 18 = 0)
  have s36 : u26.1 60 14 = 0 := (fk_at gu26 (by decide)).trans s17
  have FXa : fk [60, 66, 67, 68] [3, 22, 28] u u8 := by rw [eu8]; exact fk_up fk_rf (by decide) (fun _ => by decide)
  have FXb : fk [60, 66, 67, 68] [3, 22, 28] u u16 := by rw [eu16]; exact fk_up FXa (by decide) (fun _ => by decide)
  have FX1 : fk [60, 66, 67, 68] [3, 22, 28] u u26 := fk_tr FXb gu26 (by decide) (by decide)
  refine g_aload_n dX7_text_16 rfl ?_
  refine cl_X7_133 (c := 60) (As := []) rfl (c_X7_next_s (G := G) hs hu26    (d + 3)) rfl (by omega) rfl rfl (Nat.le_of_ble_eq_true rfl) dX7_text_17 (fun r37 u38 q39 => ?_)
  obtain ⟨rfl, mq39⟩ := q39
  obtain ⟨hu38, gu38, ku380, ku381, ku382, ku383, ku384, ku385⟩ := mq39
  have fu38 : fk [60, 61, 63, 64, 65, 66, 67, 68] [22, 28] u u38 := fk_tr fu26 gu38 (by decide) (by decide)
  have riu38 : ri u38 := ri_fk riu26 gu38 (by decide) (by decide) (by decide) (by decide) (by decide)
  have rfu38 : rf u38 := rf_mono rfu26 gu38 ku380 (by decide) (by decide) (by decide) (by decide)
  have T40 : u38.1 60 7 = t28 := (fk_at gu38 (by decide)).trans Tt28
  have T41 : u38.1 60 11 = t29 := (fk_at gu38 (by decide)).trans Tt29
  have T42 : u38.1 60 13 = t3 := (fk_at gu38 (by decide)).trans T30
  obtain ⟨t43, Tt43⟩ : ∃ t, u38.1 60 15 = t := ⟨_, rfl⟩
  have Rt43 : 0 ≤ t43 ∧ t43 ≤ 160 := by rw [← Tt43]; exact iv_at hu38 _ _ rfl
  obtain ⟨t44, Tt44⟩ : ∃ t, u38.1 60 16 = t := ⟨_, rfl⟩
  obtain ⟨t45, Tt45⟩ : ∃ t, u38.1 60 18 = t := ⟨_, rfl⟩
  have Rt45 : 0 ≤ t45 ∧ t45 ≤ 6 := by rw [← Tt45]; exact iv_at hu38 _ _ rfl
  obtain ⟨t46, Tt46⟩ : ∃ t, u38.1 60 19 = t := ⟨_, rfl⟩
  have wu38_60_3 : u38.1 60 3 = u26.1 60 3 := fk_at gu38 (by decide)
  have hN : N ≤ 160 := by rw [← p1]; exact (iv_at hu 60 13 rfl).2
  have hN0 : 0 ≤ N := by rw [← p1]; exact (iv_at hu 60 13 rfl).1
  have Q69 : u26.1 69 = u.1 69 := fk_c fu26 (by decide)
  have Q18 : u26.1 60 18 = 0 := by rw [fk_at (c := 60) (i := 18) gu26 (by decide)]; grind [uk_up_at]
  have Q14 : u26.1 60 14 = 0 := by rw [fk_at (c := 60) (i := 14) gu26 (by decide)]; grind [uk_up_at]
  have Q13 : u26.1 60 13 = N := by rw [fk_at (c := 60) (i := 13) gu26 (by decide), ← p1]; grind [uk_up_at]
  have HA : ah f N 0 u38 := ah_cg (show cpy (u26.1 69) f N by rw [Q69]; exact p0) (by decide) hN (by have := ku384 Q18; rw [Q14, Q13] at this; exact this)
  have R0 : Rr f N u38 0 := Or.inl ⟨p_0, rfl, ⟨by rw [fk_c gu38 (by decide), Q69]; exact p0, (fk_at gu38 (by decide)).trans Q13, Or.inr ⟨rfl, ⟨by decide, hN0⟩, HA⟩⟩, rfl, fun _ => ⟨(fk_at gu38 (by decide)).trans ku260, (fk_at gu38 (by decide)).trans ku261, by rw [fk_at (c := 60) (i := 11) gu38 (by decide), ku262]; exact hi9_0⟩⟩
  have RW0 : RW f N u38 0 := fun _ => ⟨p_0, fun _ _ => 0, rfl, rfl, Rw_cg (Rw_0 ku260 ku263) (fk_at gu38 (by decide)) (fk_c gu38 (by decide)) (fk_c gu38 (by decide)) (fk_c gu38 (by decide)), rfl, ⟨by rw [fk_c gu38 (by decide), Q69]; exact p0, (fk_at gu38 (by decide)).trans Q13, Or.inr ⟨rfl, ⟨by decide, hN0⟩, HA⟩⟩, rfl, (fk_at gu38 (by decide)).trans ku260, (fk_at gu38 (by decide)).trans ku261, by rw [fk_at (c := 60) (i := 11) gu38 (by decide), ku262]; exact hi9_0⟩
  have FX2 : fk [60, 66, 67, 68] [3, 22, 28] u u38 := fk_tr FX1 gu38 (by decide) (by decide)
  have L20_46 : ∀ i49 : Int32, 0 ≤ i49 → i49 ≤ 161 → ∀ (i48 : Int32) (u50 : uk_Mem), iv u50 → fk [60, 61, 63, 64, 65, 66, 67, 68] [22, 28] u u50 → ri u50 → rf u50 → tx_ms u50 = i49 → (0 ≤ i48 ∧ i48 ≤ 60) → (u50.1 60 18 = 0 → 3 * i48 ≤ u50.1 60 15) → Rr f N u50 i48 → RW f N u50 i48 → fk [60, 66, 67, 68] [3, 22, 28] u u50 → uk_G G X mX7_text (d + 5) (q_X7_text_t u f N) 20 [(0, .ref (uk_ad G 60)), (1, .int i48)] [] u50 := by
    refine uk_ups 161 ?_
    intro i49 ai49 bi49 ihi49 i48 u50 hu50 fu50 riu50 rfu50 ki49 ji490 ji491 ji492 ji493 ji494
    obtain ⟨t51, Tt51⟩ : ∃ t, u50.1 60 7 = t := ⟨_, rfl⟩
    have Rt51 : 0 ≤ t51 ∧ t51 ≤ 8 := by rw [← Tt51]; exact iv_at hu50 _ _ rfl
    obtain ⟨t52, Tt52⟩ : ∃ t, u50.1 60 11 = t := ⟨_, rfl⟩
    obtain ⟨t53, Tt53⟩ : ∃ t, u50.1 60 13 = t := ⟨_, rfl⟩
    have Rt53 : 0 ≤ t53 ∧ t53 ≤ 160 := by rw [← Tt53]; exact iv_at hu50 _ _ rfl
    obtain ⟨t54, Tt54⟩ : ∃ t, u50.1 60 15 = t := ⟨_, rfl⟩
    have Rt54 : 0 ≤ t54 ∧ t54 ≤ 160 := by rw [← Tt54]; exact iv_at hu50 _ _ rfl
    obtain ⟨t55, Tt55⟩ : ∃ t, u50.1 60 16 = t := ⟨_, rfl⟩
    obtain ⟨t56, Tt56⟩ : ∃ t, u50.1 60 18 = t := ⟨_, rfl⟩
    have Rt56 : 0 ≤ t56 ∧ t56 ≤ 6 := by rw [← Tt56]; exact iv_at hu50 _ _ rfl
    obtain ⟨t57, Tt57⟩ : ∃ t, u50.1 60 19 = t := ⟨_, rfl⟩
    refine g_aload_n dX7_text_20 rfl ?_
    refine f_X7_91 rfl rfl dX7_text_21 ?_
    refine g_topi (fun x58 ex58 => ?_)
    have rx58 : 0 ≤ x58 ∧ x58 ≤ 6 := by rw [ex58]; exact iv_at hu50 _ _ rfl
    have qx58 : x58 = t56 := ex58.trans Tt56
    refine g_if_ne (tgt := 44) dX7_text_24 (by decide) (fun c59 => ?_) (fun c59 => ?_)
    · refine g_aload_n dX7_text_44 rfl ?_
      refine f_X7_91 rfl rfl dX7_text_45 ?_
      refine g_topi (fun x60 ex60 => ?_)
      have rx60 : 0 ≤ x60 ∧ x60 ≤ 6 := by rw [ex60]; exact iv_at hu50 _ _ rfl
      have qx60 : x60 = t56 := ex60.trans Tt56
      refine g_if_ne (tgt := 73) dX7_text_48 (by decide) (fun c61 => ?_) (fun c61 => ?_)
      · have CC : 0 ≤ i48 ∧ i48 < 160 := by grind
        have RF : u50.1 60 18 = (pRes f N).1.1 ∧ (¬ (pRes f N).1.1 = 0 → u50.1 60 19 = (pRes f N).1.2.1) ∧ ((pRes f N).1.1 = 0 → i48 = (pRes f N).2) := by have r := Rr_F hN CC.1 CC.2 ji492 (by grind); exact ⟨r.1, fun _ => r.2, fun z => absurd (r.1.trans z) (by grind)⟩
        have FX9 : fk [60, 66, 67, 68] [3, 22, 28] u u50 := ji494
        refine g_aload_n dX7_text_73 rfl ?_
        refine g_iconst (v := 0) dX7_text_74 (by decide) ?_
        refine p_X7_88 rfl rfl dX7_text_75 ?_
        refine g_mem (fun u62 eu62 => ?_)
        have hu62 : iv u62 := by rw [eu62]; exact iv_up hu50 rfl (by first | lia | grind) (by first | lia | grind)
        have fu62 : fk [60, 61, 63, 64, 65, 66, 67, 68] [22, 28] u u62 := by rw [eu62]; exact fk_up fu50 (by decide) (fun _ => by decide)
        have riu62 : ri u62 := by rw [eu62]; exact ri_1 riu50 (by decide) (fun _ => by decide)
        have rfu62 : rf u62 := by rw [eu62]; exact rf_1 rfu50 (by decide)
        have s63 : u62.1 60 13 = 0 := by rw [eu62, uk_up_at]; exact if_pos ⟨rfl, rfl⟩
        have T64 : u62.1 60 7 = t51 := by rw [eu62, uk_up_at, if_neg (by decide)]; exact Tt51
        have T65 : u62.1 60 11 = t52 := by rw [eu62, uk_up_at, if_neg (by decide)]; exact Tt52
        have T66 : u62.1 60 15 = t54 := by rw [eu62, uk_up_at, if_neg (by decide)]; exact Tt54
        have T67 : u62.1 60 16 = t55 := by rw [eu62, uk_up_at, if_neg (by decide)]; exact Tt55
        have T68 : u62.1 60 18 = t56 := by rw [eu62, uk_up_at, if_neg (by decide)]; exact Tt56
        have T69 : u62.1 60 19 = t57 := by rw [eu62, uk_up_at, if_neg (by decide)]; exact Tt57
        refine g_aload_n dX7_text_78 rfl ?_
        refine f_X7_91 rfl rfl dX7_text_79 ?_
        refine g_topi (fun x70 ex70 => ?_)
        have rx70 : 0 ≤ x70 ∧ x70 ≤ 6 := by rw [ex70]; exact iv_at hu62 _ _ rfl
        have qx70 : x70 = t56 := ex70.trans T68
        refine g_if_le (tgt := 93) dX7_text_82 (by decide) (fun c71 => ?_) (fun c71 => ?_)
        · refine g_aload_n dX7_text_93 rfl ?_
          exfalso; grind
        · refine g_bipush (v := (-10)) dX7_text_85 (by decide) ?_
          refine g_aload_n dX7_text_87 rfl ?_
          refine f_X7_97 rfl rfl dX7_text_88 ?_
          refine g_topi (fun x72 ex72 => ?_)
          have qx72 : x72 = t57 := ex72.trans T69
          refine g_isub dX7_text_91 ?_
          refine g_topi (fun x73 ex73 => ?_)
          exact g_iret (ty := .int) dX7_text_92 rfl rfl ⟨⟨_, rfl, Or.inl ⟨by rw [← RF.1]; grind, by rw [ex73, ← RF.2.1 (by rw [← RF.1]; grind)]; grind⟩⟩, hu62, fu62, riu62, (s63.trans (by grind)), (by rw [T68, ← RF.1]; grind), (fun q => by exfalso; have := RF.1; grind), (fun _ => ⟨by rw [eu62, uk_up_oc (by decide)]; exact fk_c FX9 (by decide), by rw [eu62, uk_up_oc (by decide)]; exact fk_c FX9 (by decide), by rw [eu62, uk_up_oc (by decide)]; exact fk_c FX9 (by decide), by rw [eu62, uk_up_oc (by decide)]; exact fk_c FX9 (by decide), by rw [eu62, uk_up_at, if_neg (by decide)]; exact fk_at FX9 (by decide)⟩)⟩
      · refine g_aload_n dX7_text_51 rfl ?_
        refine g_aload_n dX7_text_52 rfl ?_
        refine f_X7_76 rfl rfl dX7_text_53 ?_
        refine g_topi (fun x74 ex74 => ?_)
        have qx74 : x74 = t52 := ex74.trans Tt52
        refine g_aload_n dX7_text_56 rfl ?_
        refine f_X7_69 rfl rfl dX7_text_57 ?_
        refine g_topi (fun x75 ex75 => ?_)
        have rx75 : 0 ≤ x75 ∧ x75 ≤ 8 := by rw [ex75]; exact iv_at hu50 _ _ rfl
        have qx75 : x75 = t51 := ex75.trans Tt51
        refine g_icmp_ge (tgt := 67) dX7_text_60 (by decide) (fun c76 => ?_) (fun c76 => ?_)
        · refine g_iconst (v := 0) dX7_text_67 (by decide) ?_
          refine g_bipush (v := 6) dX7_text_68 (by decide) ?_
          refine cl_X7_125 (c := 60) (As := [.int 0, .int 6]) rfl (c_X7_needs_s (G := G) hs hu50  0 6 (by first | trivial | decide | lia | grind) (by first | trivial | decide | lia | grind) (d + 4)) rfl (by omega) rfl rfl (Nat.le_of_ble_eq_true rfl) dX7_text_70 (fun r77 u78 q79 => ?_)
          obtain ⟨rfl, mq79⟩ := q79
          obtain ⟨hu78, gu78, ku780, ku781, ku782⟩ := mq79
          have fu78 : fk [60, 61, 63, 64, 65, 66, 67, 68] [22, 28] u u78 := fk_tr fu50 gu78 (by decide) (by decide)
          have riu78 : ri u78 := ri_fk riu50 gu78 (by decide) (by decide) (by decide) (by decide) (by decide)
          have rfu78 : rf u78 := rf_mono rfu50 gu78 (fun q => (ku780 q).1) (by decide) (by decide) (by decide) (by decide)
          have T80 : u78.1 60 7 = t51 := (fk_at gu78 (by decide)).trans Tt51
          have T81 : u78.1 60 11 = t52 := (fk_at gu78 (by decide)).trans Tt52
          have T82 : u78.1 60 13 = t53 := (fk_at gu78 (by decide)).trans Tt53
          have T83 : u78.1 60 15 = t54 := (fk_at gu78 (by decide)).trans Tt54
          have T84 : u78.1 60 16 = t55 := (fk_at gu78 (by decide)).trans Tt55
          obtain ⟨t85, Tt85⟩ : ∃ t, u78.1 60 18 = t := ⟨_, rfl⟩
          have Rt85 : 0 ≤ t85 ∧ t85 ≤ 6 := by rw [← Tt85]; exact iv_at hu78 _ _ rfl
          obtain ⟨t86, Tt86⟩ : ∃ t, u78.1 60 19 = t := ⟨_, rfl⟩
          have wu78_60_3 : u78.1 60 3 = u50.1 60 3 := fk_at gu78 (by decide)
          have CC : 0 ≤ i48 ∧ i48 < 160 := by grind
          have RF : u78.1 60 18 = (pRes f N).1.1 ∧ (¬ (pRes f N).1.1 = 0 → u78.1 60 19 = (pRes f N).1.2.1) ∧ ((pRes f N).1.1 = 0 → i48 = (pRes f N).2) := Rr_E hN CC.1 CC.2 ji492 (by grind) (by grind) (iv_at hu50 60 7 rfl) (fun q => by grind) (fun q => by grind)
          have RD : (pRes f N).1.1 = 0 → Rw u78 (wIt f N (pRes f N).2.toNatClampNeg) ∧ u78.1 60 7 = (pIt f N (pRes f N).2.toNatClampNeg).2.2.2.1 := fun q => by
            obtain ⟨b9, W9, bI, bJ, BW, B1, B2, B3, B5, B6, B8⟩ := ji493 (by grind)
            rw [← RF.2.2 q, ← bI, ← bJ]
            exact ⟨Rw_cg BW (fk_at gu78 (by decide)) (fk_c gu78 (by decide)) (fk_c gu78 (by decide)) (fk_c gu78 (by decide)), (fk_at gu78 (by decide)).trans B5⟩
          have FX9 : fk [60, 66, 67, 68] [3, 22, 28] u u78 := fk_tr ji494 gu78 (by decide) (by decide)
          refine g_aload_n dX7_text_73 rfl ?_
          refine g_iconst (v := 0) dX7_text_74 (by decide) ?_
          refine p_X7_88 rfl rfl dX7_text_75 ?_
          refine g_mem (fun u87 eu87 => ?_)
          have hu87 : iv u87 := by rw [eu87]; exact iv_up hu78 rfl (by first | lia | grind) (by first | lia | grind)
          have fu87 : fk [60, 61, 63, 64, 65, 66, 67, 68] [22, 28] u u87 := by rw [eu87]; exact fk_up fu78 (by decide) (fun _ => by decide)
          have riu87 : ri u87 := by rw [eu87]; exact ri_1 riu78 (by decide) (fun _ => by decide)
          have rfu87 : rf u87 := by rw [eu87]; exact rf_1 rfu78 (by decide)
          have s88 : u87.1 60 13 = 0 := by rw [eu87, uk_up_at]; exact if_pos ⟨rfl, rfl⟩
          have T89 : u87.1 60 7 = t51 := by rw [eu87, uk_up_at, if_neg (by decide)]; exact T80
          have T90 : u87.1 60 11 = t52 := by rw [eu87, uk_up_at, if_neg (by decide)]; exact T81
          have T91 : u87.1 60 15 = t54 := by rw [eu87, uk_up_at, if_neg (by decide)]; exact T83
          have T92 : u87.1 60 16 = t55 := by rw [eu87, uk_up_at, if_neg (by decide)]; exact T84
          have T93 : u87.1 60 18 = t85 := by rw [eu87, uk_up_at, if_neg (by decide)]; exact Tt85
          have T94 : u87.1 60 19 = t86 := by rw [eu87, uk_up_at, if_neg (by decide)]; exact Tt86
          refine g_aload_n dX7_text_78 rfl ?_
          refine f_X7_91 rfl rfl dX7_text_79 ?_
          refine g_topi (fun x95 ex95 => ?_)
          have rx95 : 0 ≤ x95 ∧ x95 ≤ 6 := by rw [ex95]; exact iv_at hu87 _ _ rfl
          have qx95 : x95 = t85 := ex95.trans T93
          refine g_if_le (tgt := 93) dX7_text_82 (by decide) (fun c96 => ?_) (fun c96 => ?_)
          · refine g_aload_n dX7_text_93 rfl ?_
            have q94 : (pRes f N).1.1 = 0 := by rw [← RF.1]; grind
            have RE : Rw u87 (wIt f N (pRes f N).2.toNatClampNeg) := Rw_cg (RD q94).1 (by rw [eu87, uk_up_at, if_neg (by decide)]) (by rw [eu87, uk_up_oc (by decide)]) (by rw [eu87, uk_up_oc (by decide)]) (by rw [eu87, uk_up_oc (by decide)])
            have RS : u87.1 60 7 = (pIt f N (pRes f N).2.toNatClampNeg).2.2.2.1 := by rw [eu87, uk_up_at, if_neg (by decide)]; exact (RD q94).2
            have rdx97 : rd u87 := rfu87 (by grind)
            refine cl_X7_66 (c := 60) (As := []) rfl (c_X7_keepDraft_t (G := G) hs hu87 rdx97    (d + 4)) rfl (by omega) rfl rfl (Nat.le_of_ble_eq_true rfl) dX7_text_94 (fun r98 u99 q100 => ?_)
            obtain ⟨rfl, mq100⟩ := q100
            obtain ⟨hu99, gu99, riu99, ku990, ku991, ku992, ku993, ku994, ku995⟩ := mq100
            have fu99 : fk [60, 61, 63, 64, 65, 66, 67, 68] [22, 28] u u99 := fk_tr fu87 gu99 (by decide) (by decide)
            have T101 : u99.1 60 7 = t51 := (fk_at gu99 (by decide)).trans T89
            have T102 : u99.1 60 11 = t52 := (fk_at gu99 (by decide)).trans T90
            have T103 : u99.1 60 13 = 0 := (fk_at gu99 (by decide)).trans s88
            have T104 : u99.1 60 15 = t54 := (fk_at gu99 (by decide)).trans T91
            have T105 : u99.1 60 16 = t55 := (fk_at gu99 (by decide)).trans T92
            have T106 : u99.1 60 18 = t85 := (fk_at gu99 (by decide)).trans T93
            have T107 : u99.1 60 19 = t86 := (fk_at gu99 (by decide)).trans T94
            have s108 : u99.1 60 13 = 0 := (fk_at gu99 (by decide)).trans s88
            refine g_iload_n dX7_text_97 rfl ?_
            exact g_iret (ty := .int) dX7_text_98 rfl rfl ⟨⟨_, rfl, Or.inr ⟨by rw [← RF.1]; grind, RF.2.2 (by rw [← RF.1]; grind)⟩⟩, hu99, fu99, riu99, (T103.trans (by grind)), (by rw [T106, ← RF.1]; grind), (fun _ => ⟨RwG_keep RE (iv_at hu87 60 7 rfl).2 ku990 ku991 ku992 ku993 (iv_at hu87 60 7 rfl).1, ku990.trans RS, ku994, ku995⟩), (fun q => absurd q94 q)⟩
          · refine g_bipush (v := (-10)) dX7_text_85 (by decide) ?_
            refine g_aload_n dX7_text_87 rfl ?_
            refine f_X7_97 rfl rfl dX7_text_88 ?_
            refine g_topi (fun x109 ex109 => ?_)
            have qx109 : x109 = t86 := ex109.trans T94
            refine g_isub dX7_text_91 ?_
            refine g_topi (fun x110 ex110 => ?_)
            exact g_iret (ty := .int) dX7_text_92 rfl rfl ⟨⟨_, rfl, Or.inl ⟨by rw [← RF.1]; grind, by rw [ex110, ← RF.2.1 (by rw [← RF.1]; grind)]; grind⟩⟩, hu87, fu87, riu87, (s88.trans (by grind)), (by rw [T93, ← RF.1]; grind), (fun q => by exfalso; have := RF.1; grind), (fun _ => ⟨by rw [eu87, uk_up_oc (by decide)]; exact fk_c FX9 (by decide), by rw [eu87, uk_up_oc (by decide)]; exact fk_c FX9 (by decide), by rw [eu87, uk_up_oc (by decide)]; exact fk_c FX9 (by decide), by rw [eu87, uk_up_oc (by decide)]; exact fk_c FX9 (by decide), by rw [eu87, uk_up_at, if_neg (by decide)]; exact fk_at FX9 (by decide)⟩)⟩
        · refine g_iconst (v := 1) dX7_text_63 (by decide) ?_
          refine g_goto (tgt := 68) dX7_text_64 (by decide) ?_
          refine g_bipush (v := 6) dX7_text_68 (by decide) ?_
          refine cl_X7_125 (c := 60) (As := [.int 1, .int 6]) rfl (c_X7_needs_s (G := G) hs hu50  1 6 (by first | trivial | decide | lia | grind) (by first | trivial | decide | lia | grind) (d + 4)) rfl (by omega) rfl rfl (Nat.le_of_ble_eq_true rfl) dX7_text_70 (fun r111 u112 q113 => ?_)
          obtain ⟨rfl, mq113⟩ := q113
          obtain ⟨hu112, gu112, ku1120, ku1121, ku1122⟩ := mq113
          have fu112 : fk [60, 61, 63, 64, 65, 66, 67, 68] [22, 28] u u112 := fk_tr fu50 gu112 (by decide) (by decide)
          have riu112 : ri u112 := ri_fk riu50 gu112 (by decide) (by decide) (by decide) (by decide) (by decide)
          have rfu112 : rf u112 := rf_mono rfu50 gu112 (fun q => (ku1120 q).1) (by decide) (by decide) (by decide) (by decide)
          have T114 : u112.1 60 7 = t51 := (fk_at gu112 (by decide)).trans Tt51
          have T115 : u112.1 60 11 = t52 := (fk_at gu112 (by decide)).trans Tt52
          have T116 : u112.1 60 13 = t53 := (fk_at gu112 (by decide)).trans Tt53
          have T117 : u112.1 60 15 = t54 := (fk_at gu112 (by decide)).trans Tt54
          have T118 : u112.1 60 16 = t55 := (fk_at gu112 (by decide)).trans Tt55
          obtain ⟨t119, Tt119⟩ : ∃ t, u112.1 60 18 = t := ⟨_, rfl⟩
          have Rt119 : 0 ≤ t119 ∧ t119 ≤ 6 := by rw [← Tt119]; exact iv_at hu112 _ _ rfl
          obtain ⟨t120, Tt120⟩ : ∃ t, u112.1 60 19 = t := ⟨_, rfl⟩
          have wu112_60_3 : u112.1 60 3 = u50.1 60 3 := fk_at gu112 (by decide)
          have CC : 0 ≤ i48 ∧ i48 < 160 := by grind
          have RF : u112.1 60 18 = (pRes f N).1.1 ∧ (¬ (pRes f N).1.1 = 0 → u112.1 60 19 = (pRes f N).1.2.1) ∧ ((pRes f N).1.1 = 0 → i48 = (pRes f N).2) := Rr_E hN CC.1 CC.2 ji492 (by grind) (by grind) (iv_at hu50 60 7 rfl) (fun q => by grind) (fun q => by grind)
          have RD : (pRes f N).1.1 = 0 → Rw u112 (wIt f N (pRes f N).2.toNatClampNeg) ∧ u112.1 60 7 = (pIt f N (pRes f N).2.toNatClampNeg).2.2.2.1 := fun q => by
            obtain ⟨b9, W9, bI, bJ, BW, B1, B2, B3, B5, B6, B8⟩ := ji493 (by grind)
            rw [← RF.2.2 q, ← bI, ← bJ]
            exact ⟨Rw_cg BW (fk_at gu112 (by decide)) (fk_c gu112 (by decide)) (fk_c gu112 (by decide)) (fk_c gu112 (by decide)), (fk_at gu112 (by decide)).trans B5⟩
          have FX9 : fk [60, 66, 67, 68] [3, 22, 28] u u112 := fk_tr ji494 gu112 (by decide) (by decide)
          refine g_aload_n dX7_text_73 rfl ?_
          refine g_iconst (v := 0) dX7_text_74 (by decide) ?_
          refine p_X7_88 rfl rfl dX7_text_75 ?_
          refine g_mem (fun u121 eu121 => ?_)
          have hu121 : iv u121 := by rw [eu121]; exact iv_up hu112 rfl (by first | lia | grind) (by first | lia | grind)
          have fu121 : fk [60, 61, 63, 64, 65, 66, 67, 68] [22, 28] u u121 := by rw [eu121]; exact fk_up fu112 (by decide) (fun _ => by decide)
          have riu121 : ri u121 := by rw [eu121]; exact ri_1 riu112 (by decide) (fun _ => by decide)
          have rfu121 : rf u121 := by rw [eu121]; exact rf_1 rfu112 (by decide)
          have s122 : u121.1 60 13 = 0 := by rw [eu121, uk_up_at]; exact if_pos ⟨rfl, rfl⟩
          have T123 : u121.1 60 7 = t51 := by rw [eu121, uk_up_at, if_neg (by decide)]; exact T114
          have T124 : u121.1 60 11 = t52 := by rw [eu121, uk_up_at, if_neg (by decide)]; exact T115
          have T125 : u121.1 60 15 = t54 := by rw [eu121, uk_up_at, if_neg (by decide)]; exact T117
          have T126 : u121.1 60 16 = t55 := by rw [eu121, uk_up_at, if_neg (by decide)]; exact T118
          have T127 : u121.1 60 18 = t119 := by rw [eu121, uk_up_at, if_neg (by decide)]; exact Tt119
          have T128 : u121.1 60 19 = t120 := by rw [eu121, uk_up_at, if_neg (by decide)]; exact Tt120
          refine g_aload_n dX7_text_78 rfl ?_
          refine f_X7_91 rfl rfl dX7_text_79 ?_
          refine g_topi (fun x129 ex129 => ?_)
          have rx129 : 0 ≤ x129 ∧ x129 ≤ 6 := by rw [ex129]; exact iv_at hu121 _ _ rfl
          have qx129 : x129 = t119 := ex129.trans T127
          refine g_if_le (tgt := 93) dX7_text_82 (by decide) (fun c130 => ?_) (fun c130 => ?_)
          · refine g_aload_n dX7_text_93 rfl ?_
            have q94 : (pRes f N).1.1 = 0 := by rw [← RF.1]; grind
            have RE : Rw u121 (wIt f N (pRes f N).2.toNatClampNeg) := Rw_cg (RD q94).1 (by rw [eu121, uk_up_at, if_neg (by decide)]) (by rw [eu121, uk_up_oc (by decide)]) (by rw [eu121, uk_up_oc (by decide)]) (by rw [eu121, uk_up_oc (by decide)])
            have RS : u121.1 60 7 = (pIt f N (pRes f N).2.toNatClampNeg).2.2.2.1 := by rw [eu121, uk_up_at, if_neg (by decide)]; exact (RD q94).2
            have rdx131 : rd u121 := rfu121 (by grind)
            refine cl_X7_66 (c := 60) (As := []) rfl (c_X7_keepDraft_t (G := G) hs hu121 rdx131    (d + 4)) rfl (by omega) rfl rfl (Nat.le_of_ble_eq_true rfl) dX7_text_94 (fun r132 u133 q134 => ?_)
            obtain ⟨rfl, mq134⟩ := q134
            obtain ⟨hu133, gu133, riu133, ku1330, ku1331, ku1332, ku1333, ku1334, ku1335⟩ := mq134
            have fu133 : fk [60, 61, 63, 64, 65, 66, 67, 68] [22, 28] u u133 := fk_tr fu121 gu133 (by decide) (by decide)
            have T135 : u133.1 60 7 = t51 := (fk_at gu133 (by decide)).trans T123
            have T136 : u133.1 60 11 = t52 := (fk_at gu133 (by decide)).trans T124
            have T137 : u133.1 60 13 = 0 := (fk_at gu133 (by decide)).trans s122
            have T138 : u133.1 60 15 = t54 := (fk_at gu133 (by decide)).trans T125
            have T139 : u133.1 60 16 = t55 := (fk_at gu133 (by decide)).trans T126
            have T140 : u133.1 60 18 = t119 := (fk_at gu133 (by decide)).trans T127
            have T141 : u133.1 60 19 = t120 := (fk_at gu133 (by decide)).trans T128
            have s142 : u133.1 60 13 = 0 := (fk_at gu133 (by decide)).trans s122
            refine g_iload_n dX7_text_97 rfl ?_
            exact g_iret (ty := .int) dX7_text_98 rfl rfl ⟨⟨_, rfl, Or.inr ⟨by rw [← RF.1]; grind, RF.2.2 (by rw [← RF.1]; grind)⟩⟩, hu133, fu133, riu133, (T137.trans (by grind)), (by rw [T140, ← RF.1]; grind), (fun _ => ⟨RwG_keep RE (iv_at hu121 60 7 rfl).2 ku1330 ku1331 ku1332 ku1333 (iv_at hu121 60 7 rfl).1, ku1330.trans RS, ku1334, ku1335⟩), (fun q => absurd q94 q)⟩
          · refine g_bipush (v := (-10)) dX7_text_85 (by decide) ?_
            refine g_aload_n dX7_text_87 rfl ?_
            refine f_X7_97 rfl rfl dX7_text_88 ?_
            refine g_topi (fun x143 ex143 => ?_)
            have qx143 : x143 = t120 := ex143.trans T128
            refine g_isub dX7_text_91 ?_
            refine g_topi (fun x144 ex144 => ?_)
            exact g_iret (ty := .int) dX7_text_92 rfl rfl ⟨⟨_, rfl, Or.inl ⟨by rw [← RF.1]; grind, by rw [ex144, ← RF.2.1 (by rw [← RF.1]; grind)]; grind⟩⟩, hu121, fu121, riu121, (s122.trans (by grind)), (by rw [T127, ← RF.1]; grind), (fun q => by exfalso; have := RF.1; grind), (fun _ => ⟨by rw [eu121, uk_up_oc (by decide)]; exact fk_c FX9 (by decide), by rw [eu121, uk_up_oc (by decide)]; exact fk_c FX9 (by decide), by rw [eu121, uk_up_oc (by decide)]; exact fk_c FX9 (by decide), by rw [eu121, uk_up_oc (by decide)]; exact fk_c FX9 (by decide), by rw [eu121, uk_up_at, if_neg (by decide)]; exact fk_at FX9 (by decide)⟩)⟩
    · refine g_aload_n dX7_text_27 rfl ?_
      refine f_X7_111 rfl rfl dX7_text_28 ?_
      refine g_topi (fun x145 ex145 => ?_)
      have qx145 : x145 = t55 := ex145.trans Tt55
      refine g_if_eq (tgt := 44) dX7_text_31 (by decide) (fun c146 => ?_) (fun c146 => ?_)
      · refine g_aload_n dX7_text_44 rfl ?_
        refine f_X7_91 rfl rfl dX7_text_45 ?_
        refine g_topi (fun x147 ex147 => ?_)
        have rx147 : 0 ≤ x147 ∧ x147 ≤ 6 := by rw [ex147]; exact iv_at hu50 _ _ rfl
        have qx147 : x147 = t56 := ex147.trans Tt56
        refine g_if_ne (tgt := 73) dX7_text_48 (by decide) (fun c148 => ?_) (fun c148 => ?_)
        · have CC : 0 ≤ i48 ∧ i48 < 160 := by grind
          have RF : u50.1 60 18 = (pRes f N).1.1 ∧ (¬ (pRes f N).1.1 = 0 → u50.1 60 19 = (pRes f N).1.2.1) ∧ ((pRes f N).1.1 = 0 → i48 = (pRes f N).2) := by have r := Rr_F hN CC.1 CC.2 ji492 (by grind); exact ⟨r.1, fun _ => r.2, fun z => absurd (r.1.trans z) (by grind)⟩
          have FX9 : fk [60, 66, 67, 68] [3, 22, 28] u u50 := ji494
          refine g_aload_n dX7_text_73 rfl ?_
          refine g_iconst (v := 0) dX7_text_74 (by decide) ?_
          refine p_X7_88 rfl rfl dX7_text_75 ?_
          refine g_mem (fun u149 eu149 => ?_)
          have hu149 : iv u149 := by rw [eu149]; exact iv_up hu50 rfl (by first | lia | grind) (by first | lia | grind)
          have fu149 : fk [60, 61, 63, 64, 65, 66, 67, 68] [22, 28] u u149 := by rw [eu149]; exact fk_up fu50 (by decide) (fun _ => by decide)
          have riu149 : ri u149 := by rw [eu149]; exact ri_1 riu50 (by decide) (fun _ => by decide)
          have rfu149 : rf u149 := by rw [eu149]; exact rf_1 rfu50 (by decide)
          have s150 : u149.1 60 13 = 0 := by rw [eu149, uk_up_at]; exact if_pos ⟨rfl, rfl⟩
          have T151 : u149.1 60 7 = t51 := by rw [eu149, uk_up_at, if_neg (by decide)]; exact Tt51
          have T152 : u149.1 60 11 = t52 := by rw [eu149, uk_up_at, if_neg (by decide)]; exact Tt52
          have T153 : u149.1 60 15 = t54 := by rw [eu149, uk_up_at, if_neg (by decide)]; exact Tt54
          have T154 : u149.1 60 16 = t55 := by rw [eu149, uk_up_at, if_neg (by decide)]; exact Tt55
          have T155 : u149.1 60 18 = t56 := by rw [eu149, uk_up_at, if_neg (by decide)]; exact Tt56
          have T156 : u149.1 60 19 = t57 := by rw [eu149, uk_up_at, if_neg (by decide)]; exact Tt57
          refine g_aload_n dX7_text_78 rfl ?_
          refine f_X7_91 rfl rfl dX7_text_79 ?_
          refine g_topi (fun x157 ex157 => ?_)
          have rx157 : 0 ≤ x157 ∧ x157 ≤ 6 := by rw [ex157]; exact iv_at hu149 _ _ rfl
          have qx157 : x157 = t56 := ex157.trans T155
          refine g_if_le (tgt := 93) dX7_text_82 (by decide) (fun c158 => ?_) (fun c158 => ?_)
          · refine g_aload_n dX7_text_93 rfl ?_
            exfalso; grind
          · refine g_bipush (v := (-10)) dX7_text_85 (by decide) ?_
            refine g_aload_n dX7_text_87 rfl ?_
            refine f_X7_97 rfl rfl dX7_text_88 ?_
            refine g_topi (fun x159 ex159 => ?_)
            have qx159 : x159 = t57 := ex159.trans T156
            refine g_isub dX7_text_91 ?_
            refine g_topi (fun x160 ex160 => ?_)
            exact g_iret (ty := .int) dX7_text_92 rfl rfl ⟨⟨_, rfl, Or.inl ⟨by rw [← RF.1]; grind, by rw [ex160, ← RF.2.1 (by rw [← RF.1]; grind)]; grind⟩⟩, hu149, fu149, riu149, (s150.trans (by grind)), (by rw [T155, ← RF.1]; grind), (fun q => by exfalso; have := RF.1; grind), (fun _ => ⟨by rw [eu149, uk_up_oc (by decide)]; exact fk_c FX9 (by decide), by rw [eu149, uk_up_oc (by decide)]; exact fk_c FX9 (by decide), by rw [eu149, uk_up_oc (by decide)]; exact fk_c FX9 (by decide), by rw [eu149, uk_up_oc (by decide)]; exact fk_c FX9 (by decide), by rw [eu149, uk_up_at, if_neg (by decide)]; exact fk_at FX9 (by decide)⟩)⟩
        · refine g_aload_n dX7_text_51 rfl ?_
          refine g_aload_n dX7_text_52 rfl ?_
          refine f_X7_76 rfl rfl dX7_text_53 ?_
          refine g_topi (fun x161 ex161 => ?_)
          have qx161 : x161 = t52 := ex161.trans Tt52
          refine g_aload_n dX7_text_56 rfl ?_
          refine f_X7_69 rfl rfl dX7_text_57 ?_
          refine g_topi (fun x162 ex162 => ?_)
          have rx162 : 0 ≤ x162 ∧ x162 ≤ 8 := by rw [ex162]; exact iv_at hu50 _ _ rfl
          have qx162 : x162 = t51 := ex162.trans Tt51
          refine g_icmp_ge (tgt := 67) dX7_text_60 (by decide) (fun c163 => ?_) (fun c163 => ?_)
          · refine g_iconst (v := 0) dX7_text_67 (by decide) ?_
            refine g_bipush (v := 6) dX7_text_68 (by decide) ?_
            refine cl_X7_125 (c := 60) (As := [.int 0, .int 6]) rfl (c_X7_needs_s (G := G) hs hu50  0 6 (by first | trivial | decide | lia | grind) (by first | trivial | decide | lia | grind) (d + 4)) rfl (by omega) rfl rfl (Nat.le_of_ble_eq_true rfl) dX7_text_70 (fun r164 u165 q166 => ?_)
            obtain ⟨rfl, mq166⟩ := q166
            obtain ⟨hu165, gu165, ku1650, ku1651, ku1652⟩ := mq166
            have fu165 : fk [60, 61, 63, 64, 65, 66, 67, 68] [22, 28] u u165 := fk_tr fu50 gu165 (by decide) (by decide)
            have riu165 : ri u165 := ri_fk riu50 gu165 (by decide) (by decide) (by decide) (by decide) (by decide)
            have rfu165 : rf u165 := rf_mono rfu50 gu165 (fun q => (ku1650 q).1) (by decide) (by decide) (by decide) (by decide)
            have T167 : u165.1 60 7 = t51 := (fk_at gu165 (by decide)).trans Tt51
            have T168 : u165.1 60 11 = t52 := (fk_at gu165 (by decide)).trans Tt52
            have T169 : u165.1 60 13 = t53 := (fk_at gu165 (by decide)).trans Tt53
            have T170 : u165.1 60 15 = t54 := (fk_at gu165 (by decide)).trans Tt54
            have T171 : u165.1 60 16 = t55 := (fk_at gu165 (by decide)).trans Tt55
            obtain ⟨t172, Tt172⟩ : ∃ t, u165.1 60 18 = t := ⟨_, rfl⟩
            have Rt172 : 0 ≤ t172 ∧ t172 ≤ 6 := by rw [← Tt172]; exact iv_at hu165 _ _ rfl
            obtain ⟨t173, Tt173⟩ : ∃ t, u165.1 60 19 = t := ⟨_, rfl⟩
            have wu165_60_3 : u165.1 60 3 = u50.1 60 3 := fk_at gu165 (by decide)
            have CC : 0 ≤ i48 ∧ i48 < 160 := by grind
            have RF : u165.1 60 18 = (pRes f N).1.1 ∧ (¬ (pRes f N).1.1 = 0 → u165.1 60 19 = (pRes f N).1.2.1) ∧ ((pRes f N).1.1 = 0 → i48 = (pRes f N).2) := Rr_E hN CC.1 CC.2 ji492 (by grind) (by grind) (iv_at hu50 60 7 rfl) (fun q => by grind) (fun q => by grind)
            have RD : (pRes f N).1.1 = 0 → Rw u165 (wIt f N (pRes f N).2.toNatClampNeg) ∧ u165.1 60 7 = (pIt f N (pRes f N).2.toNatClampNeg).2.2.2.1 := fun q => by
              obtain ⟨b9, W9, bI, bJ, BW, B1, B2, B3, B5, B6, B8⟩ := ji493 (by grind)
              rw [← RF.2.2 q, ← bI, ← bJ]
              exact ⟨Rw_cg BW (fk_at gu165 (by decide)) (fk_c gu165 (by decide)) (fk_c gu165 (by decide)) (fk_c gu165 (by decide)), (fk_at gu165 (by decide)).trans B5⟩
            have FX9 : fk [60, 66, 67, 68] [3, 22, 28] u u165 := fk_tr ji494 gu165 (by decide) (by decide)
            refine g_aload_n dX7_text_73 rfl ?_
            refine g_iconst (v := 0) dX7_text_74 (by decide) ?_
            refine p_X7_88 rfl rfl dX7_text_75 ?_
            refine g_mem (fun u174 eu174 => ?_)
            have hu174 : iv u174 := by rw [eu174]; exact iv_up hu165 rfl (by first | lia | grind) (by first | lia | grind)
            have fu174 : fk [60, 61, 63, 64, 65, 66, 67, 68] [22, 28] u u174 := by rw [eu174]; exact fk_up fu165 (by decide) (fun _ => by decide)
            have riu174 : ri u174 := by rw [eu174]; exact ri_1 riu165 (by decide) (fun _ => by decide)
            have rfu174 : rf u174 := by rw [eu174]; exact rf_1 rfu165 (by decide)
            have s175 : u174.1 60 13 = 0 := by rw [eu174, uk_up_at]; exact if_pos ⟨rfl, rfl⟩
            have T176 : u174.1 60 7 = t51 := by rw [eu174, uk_up_at, if_neg (by decide)]; exact T167
            have T177 : u174.1 60 11 = t52 := by rw [eu174, uk_up_at, if_neg (by decide)]; exact T168
            have T178 : u174.1 60 15 = t54 := by rw [eu174, uk_up_at, if_neg (by decide)]; exact T170
            have T179 : u174.1 60 16 = t55 := by rw [eu174, uk_up_at, if_neg (by decide)]; exact T171
            have T180 : u174.1 60 18 = t172 := by rw [eu174, uk_up_at, if_neg (by decide)]; exact Tt172
            have T181 : u174.1 60 19 = t173 := by rw [eu174, uk_up_at, if_neg (by decide)]; exact Tt173
            refine g_aload_n dX7_text_78 rfl ?_
            refine f_X7_91 rfl rfl dX7_text_79 ?_
            refine g_topi (fun x182 ex182 => ?_)
            have rx182 : 0 ≤ x182 ∧ x182 ≤ 6 := by rw [ex182]; exact iv_at hu174 _ _ rfl
            have qx182 : x182 = t172 := ex182.trans T180
            refine g_if_le (tgt := 93) dX7_text_82 (by decide) (fun c183 => ?_) (fun c183 => ?_)
            · refine g_aload_n dX7_text_93 rfl ?_
              have q94 : (pRes f N).1.1 = 0 := by rw [← RF.1]; grind
              have RE : Rw u174 (wIt f N (pRes f N).2.toNatClampNeg) := Rw_cg (RD q94).1 (by rw [eu174, uk_up_at, if_neg (by decide)]) (by rw [eu174, uk_up_oc (by decide)]) (by rw [eu174, uk_up_oc (by decide)]) (by rw [eu174, uk_up_oc (by decide)])
              have RS : u174.1 60 7 = (pIt f N (pRes f N).2.toNatClampNeg).2.2.2.1 := by rw [eu174, uk_up_at, if_neg (by decide)]; exact (RD q94).2
              have rdx184 : rd u174 := rfu174 (by grind)
              refine cl_X7_66 (c := 60) (As := []) rfl (c_X7_keepDraft_t (G := G) hs hu174 rdx184    (d + 4)) rfl (by omega) rfl rfl (Nat.le_of_ble_eq_true rfl) dX7_text_94 (fun r185 u186 q187 => ?_)
              obtain ⟨rfl, mq187⟩ := q187
              obtain ⟨hu186, gu186, riu186, ku1860, ku1861, ku1862, ku1863, ku1864, ku1865⟩ := mq187
              have fu186 : fk [60, 61, 63, 64, 65, 66, 67, 68] [22, 28] u u186 := fk_tr fu174 gu186 (by decide) (by decide)
              have T188 : u186.1 60 7 = t51 := (fk_at gu186 (by decide)).trans T176
              have T189 : u186.1 60 11 = t52 := (fk_at gu186 (by decide)).trans T177
              have T190 : u186.1 60 13 = 0 := (fk_at gu186 (by decide)).trans s175
              have T191 : u186.1 60 15 = t54 := (fk_at gu186 (by decide)).trans T178
              have T192 : u186.1 60 16 = t55 := (fk_at gu186 (by decide)).trans T179
              have T193 : u186.1 60 18 = t172 := (fk_at gu186 (by decide)).trans T180
              have T194 : u186.1 60 19 = t173 := (fk_at gu186 (by decide)).trans T181
              have s195 : u186.1 60 13 = 0 := (fk_at gu186 (by decide)).trans s175
              refine g_iload_n dX7_text_97 rfl ?_
              exact g_iret (ty := .int) dX7_text_98 rfl rfl ⟨⟨_, rfl, Or.inr ⟨by rw [← RF.1]; grind, RF.2.2 (by rw [← RF.1]; grind)⟩⟩, hu186, fu186, riu186, (T190.trans (by grind)), (by rw [T193, ← RF.1]; grind), (fun _ => ⟨RwG_keep RE (iv_at hu174 60 7 rfl).2 ku1860 ku1861 ku1862 ku1863 (iv_at hu174 60 7 rfl).1, ku1860.trans RS, ku1864, ku1865⟩), (fun q => absurd q94 q)⟩
            · refine g_bipush (v := (-10)) dX7_text_85 (by decide) ?_
              refine g_aload_n dX7_text_87 rfl ?_
              refine f_X7_97 rfl rfl dX7_text_88 ?_
              refine g_topi (fun x196 ex196 => ?_)
              have qx196 : x196 = t173 := ex196.trans T181
              refine g_isub dX7_text_91 ?_
              refine g_topi (fun x197 ex197 => ?_)
              exact g_iret (ty := .int) dX7_text_92 rfl rfl ⟨⟨_, rfl, Or.inl ⟨by rw [← RF.1]; grind, by rw [ex197, ← RF.2.1 (by rw [← RF.1]; grind)]; grind⟩⟩, hu174, fu174, riu174, (s175.trans (by grind)), (by rw [T180, ← RF.1]; grind), (fun q => by exfalso; have := RF.1; grind), (fun _ => ⟨by rw [eu174, uk_up_oc (by decide)]; exact fk_c FX9 (by decide), by rw [eu174, uk_up_oc (by decide)]; exact fk_c FX9 (by decide), by rw [eu174, uk_up_oc (by decide)]; exact fk_c FX9 (by decide), by rw [eu174, uk_up_oc (by decide)]; exact fk_c FX9 (by decide), by rw [eu174, uk_up_at, if_neg (by decide)]; exact fk_at FX9 (by decide)⟩)⟩
          · refine g_iconst (v := 1) dX7_text_63 (by decide) ?_
            refine g_goto (tgt := 68) dX7_text_64 (by decide) ?_
            refine g_bipush (v := 6) dX7_text_68 (by decide) ?_
            refine cl_X7_125 (c := 60) (As := [.int 1, .int 6]) rfl (c_X7_needs_s (G := G) hs hu50  1 6 (by first | trivial | decide | lia | grind) (by first | trivial | decide | lia | grind) (d + 4)) rfl (by omega) rfl rfl (Nat.le_of_ble_eq_true rfl) dX7_text_70 (fun r198 u199 q200 => ?_)
            obtain ⟨rfl, mq200⟩ := q200
            obtain ⟨hu199, gu199, ku1990, ku1991, ku1992⟩ := mq200
            have fu199 : fk [60, 61, 63, 64, 65, 66, 67, 68] [22, 28] u u199 := fk_tr fu50 gu199 (by decide) (by decide)
            have riu199 : ri u199 := ri_fk riu50 gu199 (by decide) (by decide) (by decide) (by decide) (by decide)
            have rfu199 : rf u199 := rf_mono rfu50 gu199 (fun q => (ku1990 q).1) (by decide) (by decide) (by decide) (by decide)
            have T201 : u199.1 60 7 = t51 := (fk_at gu199 (by decide)).trans Tt51
            have T202 : u199.1 60 11 = t52 := (fk_at gu199 (by decide)).trans Tt52
            have T203 : u199.1 60 13 = t53 := (fk_at gu199 (by decide)).trans Tt53
            have T204 : u199.1 60 15 = t54 := (fk_at gu199 (by decide)).trans Tt54
            have T205 : u199.1 60 16 = t55 := (fk_at gu199 (by decide)).trans Tt55
            obtain ⟨t206, Tt206⟩ : ∃ t, u199.1 60 18 = t := ⟨_, rfl⟩
            have Rt206 : 0 ≤ t206 ∧ t206 ≤ 6 := by rw [← Tt206]; exact iv_at hu199 _ _ rfl
            obtain ⟨t207, Tt207⟩ : ∃ t, u199.1 60 19 = t := ⟨_, rfl⟩
            have wu199_60_3 : u199.1 60 3 = u50.1 60 3 := fk_at gu199 (by decide)
            have CC : 0 ≤ i48 ∧ i48 < 160 := by grind
            have RF : u199.1 60 18 = (pRes f N).1.1 ∧ (¬ (pRes f N).1.1 = 0 → u199.1 60 19 = (pRes f N).1.2.1) ∧ ((pRes f N).1.1 = 0 → i48 = (pRes f N).2) := Rr_E hN CC.1 CC.2 ji492 (by grind) (by grind) (iv_at hu50 60 7 rfl) (fun q => by grind) (fun q => by grind)
            have RD : (pRes f N).1.1 = 0 → Rw u199 (wIt f N (pRes f N).2.toNatClampNeg) ∧ u199.1 60 7 = (pIt f N (pRes f N).2.toNatClampNeg).2.2.2.1 := fun q => by
              obtain ⟨b9, W9, bI, bJ, BW, B1, B2, B3, B5, B6, B8⟩ := ji493 (by grind)
              rw [← RF.2.2 q, ← bI, ← bJ]
              exact ⟨Rw_cg BW (fk_at gu199 (by decide)) (fk_c gu199 (by decide)) (fk_c gu199 (by decide)) (fk_c gu199 (by decide)), (fk_at gu199 (by decide)).trans B5⟩
            have FX9 : fk [60, 66, 67, 68] [3, 22, 28] u u199 := fk_tr ji494 gu199 (by decide) (by decide)
            refine g_aload_n dX7_text_73 rfl ?_
            refine g_iconst (v := 0) dX7_text_74 (by decide) ?_
            refine p_X7_88 rfl rfl dX7_text_75 ?_
            refine g_mem (fun u208 eu208 => ?_)
            have hu208 : iv u208 := by rw [eu208]; exact iv_up hu199 rfl (by first | lia | grind) (by first | lia | grind)
            have fu208 : fk [60, 61, 63, 64, 65, 66, 67, 68] [22, 28] u u208 := by rw [eu208]; exact fk_up fu199 (by decide) (fun _ => by decide)
            have riu208 : ri u208 := by rw [eu208]; exact ri_1 riu199 (by decide) (fun _ => by decide)
            have rfu208 : rf u208 := by rw [eu208]; exact rf_1 rfu199 (by decide)
            have s209 : u208.1 60 13 = 0 := by rw [eu208, uk_up_at]; exact if_pos ⟨rfl, rfl⟩
            have T210 : u208.1 60 7 = t51 := by rw [eu208, uk_up_at, if_neg (by decide)]; exact T201
            have T211 : u208.1 60 11 = t52 := by rw [eu208, uk_up_at, if_neg (by decide)]; exact T202
            have T212 : u208.1 60 15 = t54 := by rw [eu208, uk_up_at, if_neg (by decide)]; exact T204
            have T213 : u208.1 60 16 = t55 := by rw [eu208, uk_up_at, if_neg (by decide)]; exact T205
            have T214 : u208.1 60 18 = t206 := by rw [eu208, uk_up_at, if_neg (by decide)]; exact Tt206
            have T215 : u208.1 60 19 = t207 := by rw [eu208, uk_up_at, if_neg (by decide)]; exact Tt207
            refine g_aload_n dX7_text_78 rfl ?_
            refine f_X7_91 rfl rfl dX7_text_79 ?_
            refine g_topi (fun x216 ex216 => ?_)
            have rx216 : 0 ≤ x216 ∧ x216 ≤ 6 := by rw [ex216]; exact iv_at hu208 _ _ rfl
            have qx216 : x216 = t206 := ex216.trans T214
            refine g_if_le (tgt := 93) dX7_text_82 (by decide) (fun c217 => ?_) (fun c217 => ?_)
            · refine g_aload_n dX7_text_93 rfl ?_
              have q94 : (pRes f N).1.1 = 0 := by rw [← RF.1]; grind
              have RE : Rw u208 (wIt f N (pRes f N).2.toNatClampNeg) := Rw_cg (RD q94).1 (by rw [eu208, uk_up_at, if_neg (by decide)]) (by rw [eu208, uk_up_oc (by decide)]) (by rw [eu208, uk_up_oc (by decide)]) (by rw [eu208, uk_up_oc (by decide)])
              have RS : u208.1 60 7 = (pIt f N (pRes f N).2.toNatClampNeg).2.2.2.1 := by rw [eu208, uk_up_at, if_neg (by decide)]; exact (RD q94).2
              have rdx218 : rd u208 := rfu208 (by grind)
              refine cl_X7_66 (c := 60) (As := []) rfl (c_X7_keepDraft_t (G := G) hs hu208 rdx218    (d + 4)) rfl (by omega) rfl rfl (Nat.le_of_ble_eq_true rfl) dX7_text_94 (fun r219 u220 q221 => ?_)
              obtain ⟨rfl, mq221⟩ := q221
              obtain ⟨hu220, gu220, riu220, ku2200, ku2201, ku2202, ku2203, ku2204, ku2205⟩ := mq221
              have fu220 : fk [60, 61, 63, 64, 65, 66, 67, 68] [22, 28] u u220 := fk_tr fu208 gu220 (by decide) (by decide)
              have T222 : u220.1 60 7 = t51 := (fk_at gu220 (by decide)).trans T210
              have T223 : u220.1 60 11 = t52 := (fk_at gu220 (by decide)).trans T211
              have T224 : u220.1 60 13 = 0 := (fk_at gu220 (by decide)).trans s209
              have T225 : u220.1 60 15 = t54 := (fk_at gu220 (by decide)).trans T212
              have T226 : u220.1 60 16 = t55 := (fk_at gu220 (by decide)).trans T213
              have T227 : u220.1 60 18 = t206 := (fk_at gu220 (by decide)).trans T214
              have T228 : u220.1 60 19 = t207 := (fk_at gu220 (by decide)).trans T215
              have s229 : u220.1 60 13 = 0 := (fk_at gu220 (by decide)).trans s209
              refine g_iload_n dX7_text_97 rfl ?_
              exact g_iret (ty := .int) dX7_text_98 rfl rfl ⟨⟨_, rfl, Or.inr ⟨by rw [← RF.1]; grind, RF.2.2 (by rw [← RF.1]; grind)⟩⟩, hu220, fu220, riu220, (T224.trans (by grind)), (by rw [T227, ← RF.1]; grind), (fun _ => ⟨RwG_keep RE (iv_at hu208 60 7 rfl).2 ku2200 ku2201 ku2202 ku2203 (iv_at hu208 60 7 rfl).1, ku2200.trans RS, ku2204, ku2205⟩), (fun q => absurd q94 q)⟩
            · refine g_bipush (v := (-10)) dX7_text_85 (by decide) ?_
              refine g_aload_n dX7_text_87 rfl ?_
              refine f_X7_97 rfl rfl dX7_text_88 ?_
              refine g_topi (fun x230 ex230 => ?_)
              have qx230 : x230 = t207 := ex230.trans T215
              refine g_isub dX7_text_91 ?_
              refine g_topi (fun x231 ex231 => ?_)
              exact g_iret (ty := .int) dX7_text_92 rfl rfl ⟨⟨_, rfl, Or.inl ⟨by rw [← RF.1]; grind, by rw [ex231, ← RF.2.1 (by rw [← RF.1]; grind)]; grind⟩⟩, hu208, fu208, riu208, (s209.trans (by grind)), (by rw [T214, ← RF.1]; grind), (fun q => by exfalso; have := RF.1; grind), (fun _ => ⟨by rw [eu208, uk_up_oc (by decide)]; exact fk_c FX9 (by decide), by rw [eu208, uk_up_oc (by decide)]; exact fk_c FX9 (by decide), by rw [eu208, uk_up_oc (by decide)]; exact fk_c FX9 (by decide), by rw [eu208, uk_up_oc (by decide)]; exact fk_c FX9 (by decide), by rw [eu208, uk_up_at, if_neg (by decide)]; exact fk_at FX9 (by decide)⟩)⟩
      · obtain ⟨b9, W9, bI, bJ, BW, B1, B2, B3, B5, B6, B8⟩ := ji493 (by grind)
        refine g_aload_n dX7_text_34 rfl ?_
        refine cl_X7_150 (c := 60) (As := []) rfl (c_X7_readLine_t (G := G) hs hu50 rfu50  f N b9 W9 B2 (by grind) B5 B6 B8 BW (d)) rfl (by omega) rfl rfl (Nat.le_of_ble_eq_true rfl) dX7_text_35 (fun r232 u233 q234 => ?_)
        obtain ⟨rfl, mq234⟩ := q234
        obtain ⟨hu233, gu233, rfu233, ku2330, ku2331, ku2332, ku2333, ku2334⟩ := mq234
        have fu233 : fk [60, 61, 63, 64, 65, 66, 67, 68] [22, 28] u u233 := fk_tr fu50 gu233 (by decide) (by decide)
        have riu233 : ri u233 := ri_fk riu50 gu233 (by decide) (by decide) (by decide) (by decide) (by decide)
        obtain ⟨t235, Tt235⟩ : ∃ t, u233.1 60 7 = t := ⟨_, rfl⟩
        have Rt235 : 0 ≤ t235 ∧ t235 ≤ 8 := by rw [← Tt235]; exact iv_at hu233 _ _ rfl
        obtain ⟨t236, Tt236⟩ : ∃ t, u233.1 60 11 = t := ⟨_, rfl⟩
        have T237 : u233.1 60 13 = t53 := (fk_at gu233 (by decide)).trans Tt53
        obtain ⟨t238, Tt238⟩ : ∃ t, u233.1 60 15 = t := ⟨_, rfl⟩
        have Rt238 : 0 ≤ t238 ∧ t238 ≤ 160 := by rw [← Tt238]; exact iv_at hu233 _ _ rfl
        obtain ⟨t239, Tt239⟩ : ∃ t, u233.1 60 16 = t := ⟨_, rfl⟩
        obtain ⟨t240, Tt240⟩ : ∃ t, u233.1 60 18 = t := ⟨_, rfl⟩
        have Rt240 : 0 ≤ t240 ∧ t240 ≤ 6 := by rw [← Tt240]; exact iv_at hu233 _ _ rfl
        obtain ⟨t241, Tt241⟩ : ∃ t, u233.1 60 19 = t := ⟨_, rfl⟩
        have wu233_60_3 : u233.1 60 3 = u50.1 60 3 := fk_at gu233 (by decide)
        refine g_iinc (v := i48 + 1) dX7_text_38 rfl rfl (by decide) ?_
        refine g_goto (tgt := 20) dX7_text_41 (by decide) ?_
        refine g_pick (lv' := [(0, .ref (uk_ad G 60)), (1, .int (i48 + 1))]) [0, 1] rfl ?_
        exact ihi49 (tx_ms u233) (tx_lt ki49 hu50 (by grind) ku2331) (tx_b hu233).2 ((i48 + 1)) u233 hu233 fu233 riu233 rfu233 rfl ⟨by have := iv_at hu50 60 15 (lo := 0) (hi := 160) rfl; grind, by have := iv_at hu50 60 15 (lo := 0) (hi := 160) rfl; grind⟩ (fun q => by have := iv_at hu50 60 15 (lo := 0) (hi := 160) rfl; have := ku2331 q; grind) (Rr_step hN (by grind) (by have := iv_at hu50 60 15 (lo := 0) (hi := 160) rfl; grind) (by grind) (by grind) B2 B3 ku2332 ku2333) (RW_s hN (by grind) (by have := iv_at hu50 60 15 (lo := 0) (hi := 160) rfl; grind) bI bJ (by grind) (by grind) B2 B3 ku2332 ku2333 ku2334) (fk_tr ji494 gu233 (by decide) (by decide))
  refine g_pick (lv' := [(0, .ref (uk_ad G 60)), (1, .int 0)]) [0, 1] rfl ?_
  exact L20_46 (tx_ms u38) (tx_b hu38).1 (tx_b hu38).2 0 u38 hu38 fu38 riu38 rfu38 rfl ⟨by decide, by decide⟩ (fun q => by have := iv_at hu38 60 15 (lo := 0) (hi := 160) rfl; grind) R0 RW0 FX2
