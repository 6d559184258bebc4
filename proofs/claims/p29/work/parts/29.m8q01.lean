abbrev q_X7_turns1 (u : uk_Mem)  (r : Option Value) (u' : uk_Mem) : Prop := (∃ x : Int32, r = some (.int x) ∧ (x = 0 ∨ x = 1) ∧ (¬ x = 0 → pot u' < pot u) ∧ (x = 0 → True)) ∧ (iv u' ∧ fk [60, 62, 71] [3, 7, 10, 11, 13, 14, 15, 16, 17, 18, 19, 28] u u' ∧ ri u' ∧ ra u' ∧ rp u')
set_option maxHeartbeats 4000000 in
set_option maxRecDepth 20000 in
theorem c_X7_turns1 {G : uk_D} (hs : uk_Sep G) {u : uk_Mem} (hu : iv u) (hri : ri u) (hra : ra u) (hrp : rp u)  (d : Nat) : uk_Meth G (d + 1) mX7_turns1 [.ref (uk_ad G 60)] u (q_X7_turns1 u) := by
  refine uk_Meth.of hs (by decide) (Nat.le_of_ble_eq_true rfl) (fun X => ?_)
  have f0 : fk [60, 62, 71] [3, 7, 10, 11, 13, 14, 15, 16, 17, 18, 19, 28] u u := fk_rf
  have C71 : u.1 71 = u.1 71 := rfl
  obtain ⟨t1, Tt1⟩ : ∃ t, u.1 60 22 = t := ⟨_, rfl⟩
  refine g_aload_n dX7_turns1_0 rfl ?_
  refine cl_X7_210 (c := 60) (As := []) rfl (c_X7_nextThing (G := G) hs hu    (d)) rfl (by omega) rfl rfl (Nat.le_of_ble_eq_true rfl) dX7_turns1_1 (fun r2 u3 q4 => ?_)
  obtain ⟨⟨x5, rfl, tx5⟩, mq4⟩ := q4
  rw [mq4]
  refine g_istore_n dX7_turns1_4 (by decide) ?_
  refine g_pick (lv' := [(0, .ref (uk_ad G 60)), (1, .int x5)]) [0, 1] rfl ?_
  refine g_iload_n dX7_turns1_5 rfl ?_
  refine g_bipush (v := (-4)) dX7_turns1_6 (by decide) ?_
  refine g_icmp_ne (tgt := 13) dX7_turns1_8 (by decide) (fun c6 => ?_) (fun c6 => ?_)
  · have R22 : 0 ≤ u.1 60 22 ∧ u.1 60 22 ≤ 255 := iv_at hu 60 22 rfl
    obtain ⟨hx0, hx1, hx2⟩ := tx5.resolve_left (by assumption)
    refine g_aload_n dX7_turns1_13 rfl ?_
    refine f_X7_41 rfl rfl dX7_turns1_14 ?_
    refine g_iload_n dX7_turns1_17 rfl ?_
    have v7 : vp_in x5 256 := uk_vin 256 rfl (by first | decide | lia | grind) (by first | decide | lia | grind)
    refine g_iald rfl rfl v7 dX7_turns1_18 ?_
    refine g_topi (fun x8 ex8 => ?_)
    have bx8 := uk_cl v7
    have rx8 : 0 ≤ x8 ∧ x8 ≤ 7 := by rw [ex8]; exact iv_at hu _ _ (uk_pick1 _ (by omega))
    have px8 : x8 = (u.1 71) (x5 : Int32).toNatClampNeg := ex8.trans (congrFun C71 _)
    have hmx8 : x8 < u.1 60 3 := by rw [ex8]; exact hrp.1 _ (uk_cll (by lia) (by lia))
    have hkx8 := (hra x8 (by lia) hmx8 (by lia)).resolve_left (by rw [px8]; exact hx2)
    refine g_istore_n dX7_turns1_19 (by decide) ?_
    refine g_pick (lv' := [(0, .ref (uk_ad G 60)), (1, .int x5), (2, .int x8)]) [0, 1, 2] rfl ?_
    refine g_aload_n dX7_turns1_20 rfl ?_
    refine f_X7_41 rfl rfl dX7_turns1_21 ?_
    refine g_iload_n dX7_turns1_24 rfl ?_
    refine g_aload_n dX7_turns1_25 rfl ?_
    refine f_X7_20 rfl rfl dX7_turns1_26 ?_
    refine g_iload_n dX7_turns1_29 rfl ?_
    have v9 : vp_in x8 8 := uk_vin 8 rfl (by first | decide | lia | grind) (by first | decide | lia | grind)
    refine g_iald rfl rfl v9 dX7_turns1_30 ?_
    refine g_topi (fun x10 ex10 => ?_)
    have bx10 := uk_cl v9
    have rx10 : (-4) ≤ x10 ∧ x10 ≤ 7 := by rw [ex10]; exact iv_at hu _ _ (uk_pick1 _ (by omega))
    have hax10 : 0 ≤ x10 ∧ x10 < x8 := by rw [ex10]; exact ⟨hkx8.1, hkx8.2.1⟩
    have v11 : vp_in x5 256 := uk_vin 256 rfl (by first | decide | lia | grind) (by first | decide | lia | grind)
    have b12 := uk_cl v11
    refine g_iast rfl rfl v11 dX7_turns1_31 ?_
    refine g_mem (fun u13 eu13 => ?_)
    have hu13 : iv u13 := by rw [eu13]; exact iv_up hu (uk_pick1 _ (by omega)) (by first | lia | grind) (by first | lia | grind)
    have fu13 : fk [60, 62, 71] [3, 7, 10, 11, 13, 14, 15, 16, 17, 18, 19, 28] u u13 := by rw [eu13]; exact fk_up f0 (by decide) (fun q => absurd q (by decide))
    have riu13 : ri u13 := by rw [eu13]; exact ri_1 hri (by decide) (fun q => absurd q (by decide))
    have rau13 : ra u13 := by rw [eu13]; exact ra_1 hra (by decide) (fun q => absurd q (by decide))
    have T14 : u13.1 60 22 = t1 := by rw [eu13]; exact (congrFun (uk_up_oc (by decide)) _).trans Tt1
    have C15 : u13.1 71 = (upd (u.1 71) (x5 : Int32).toNatClampNeg x10) := by rw [eu13, uk_up_self, C71]
    refine g_aload_n dX7_turns1_32 rfl ?_
    refine g_iload_n dX7_turns1_33 rfl ?_
    refine cl_X7_153 (c := 60) (As := [.int x8]) rfl (c_X7_givesSecond (G := G) hs hu13  x8 (by first | trivial | decide | lia | grind) (by first | trivial | decide | lia | grind) (d)) rfl (by omega) rfl rfl (Nat.le_of_ble_eq_true rfl) dX7_turns1_34 (fun r16 u17 q18 => ?_)
    obtain ⟨⟨x19, rfl, tx19, nx19, zx19⟩, mq18⟩ := q18
    rw [mq18]
    refine g_if_eq (tgt := 96) dX7_turns1_37 (by decide) (fun c20 => ?_) (fun c20 => ?_)
    · have zc20 := zx19 c20
      refine g_aload_n dX7_turns1_96 rfl ?_
      refine f_X7_13 rfl rfl dX7_turns1_97 ?_
      refine g_bipush (v := 8) dX7_turns1_100 (by decide) ?_
      refine g_iload_n dX7_turns1_102 rfl ?_
      refine g_iadd dX7_turns1_103 ?_
      refine g_topi (fun x21 ex21 => ?_)
      refine g_aload_n dX7_turns1_104 rfl ?_
      refine f_X7_13 rfl rfl dX7_turns1_105 ?_
      refine g_bipush (v := 32) dX7_turns1_108 (by decide) ?_
      refine g_iload_n dX7_turns1_110 rfl ?_
      refine g_iadd dX7_turns1_111 ?_
      refine g_topi (fun x22 ex22 => ?_)
      have v23 : vp_in x22 51 := uk_vin 51 rfl (by first | decide | lia | grind) (by first | decide | lia | grind)
      refine g_iald rfl rfl v23 dX7_turns1_112 ?_
      refine g_topi (fun x24 ex24 => ?_)
      have bx24 := uk_cl v23
      refine g_iconst (v := 3) dX7_turns1_113 (by decide) ?_
      refine g_icmp_ne (tgt := 131) dX7_turns1_114 (by decide) (fun c25 => ?_) (fun c25 => ?_)
      · refine g_aload_n dX7_turns1_131 rfl ?_
        refine f_X7_13 rfl rfl dX7_turns1_132 ?_
        refine g_bipush (v := 8) dX7_turns1_135 (by decide) ?_
        refine g_iload_n dX7_turns1_137 rfl ?_
        refine g_iadd dX7_turns1_138 ?_
        refine g_topi (fun x26 ex26 => ?_)
        have v27 : vp_in x26 51 := uk_vin 51 rfl (by first | decide | lia | grind) (by first | decide | lia | grind)
        refine g_iald rfl rfl v27 dX7_turns1_139 ?_
        refine g_topi (fun x28 ex28 => ?_)
        have bx28 := uk_cl v27
        have v29 : vp_in x21 51 := uk_vin 51 rfl (by first | decide | lia | grind) (by first | decide | lia | grind)
        have b30 := uk_cl v29
        refine g_iast rfl rfl v29 dX7_turns1_140 ?_
        refine g_mem (fun u31 eu31 => ?_)
        have hu31 : iv u31 := by rw [eu31]; exact iv_st hu13 (by unfold uk_is51; decide) (by first | decide | lia | grind) (by first | decide | lia | grind) (fun q => by first | decide | lia | grind) (fun q => by first | decide | lia | grind) (fun q => by first | decide | lia | grind)
        have fu31 : fk [60, 62, 71] [3, 7, 10, 11, 13, 14, 15, 16, 17, 18, 19, 28] u u31 := by rw [eu31]; exact fk_up fu13 (by decide) (fun q => absurd q (by decide))
        have riu31 : ri u31 := by rw [eu31]; exact ri_1 riu13 (by decide) (fun q => absurd q (by decide))
        have rau31 : ra u31 := by rw [eu31]; exact ra_at rau13 (by first | decide | lia | grind) (by first | decide | lia | grind)
        have T32 : u31.1 60 22 = t1 := by rw [eu31]; exact (congrFun (uk_up_oc (by decide)) _).trans T14
        have C33 : u31.1 71 = (upd (u.1 71) (x5 : Int32).toNatClampNeg x10) := by rw [eu31]; exact (uk_up_oc (by decide)).trans C15
        refine g_iconst (v := 1) dX7_turns1_141 (by decide) ?_
        exact g_iret (ty := .boolean) dX7_turns1_142 rfl rfl ⟨⟨1, rfl, Or.inr rfl, fun _ => (tn_1 hrp (i := x5) (m := x8) (a := x10) (by lia) (by lia) ex8.symm hax10.1 hax10.2 C33 (T32.trans (by first | assumption | grind)) (fk_at fu31 (by decide))).2, fun q => absurd q (by decide)⟩, hu31, fu31, riu31, rau31, (tn_1 hrp (i := x5) (m := x8) (a := x10) (by lia) (by lia) ex8.symm hax10.1 hax10.2 C33 (T32.trans (by first | assumption | grind)) (fk_at fu31 (by decide))).1⟩
      · refine g_iconst (v := 1) dX7_turns1_117 (by decide) ?_
        refine g_aload_n dX7_turns1_118 rfl ?_
        refine f_X7_13 rfl rfl dX7_turns1_119 ?_
        refine g_bipush (v := 8) dX7_turns1_122 (by decide) ?_
        refine g_iload_n dX7_turns1_124 rfl ?_
        refine g_iadd dX7_turns1_125 ?_
        refine g_topi (fun x34 ex34 => ?_)
        have v35 : vp_in x34 51 := uk_vin 51 rfl (by first | decide | lia | grind) (by first | decide | lia | grind)
        refine g_iald rfl rfl v35 dX7_turns1_126 ?_
        refine g_topi (fun x36 ex36 => ?_)
        have bx36 := uk_cl v35
        refine g_isub dX7_turns1_127 ?_
        refine g_topi (fun x37 ex37 => ?_)
        refine g_goto (tgt := 140) dX7_turns1_128 (by decide) ?_
        have v38 : vp_in x21 51 := uk_vin 51 rfl (by first | decide | lia | grind) (by first | decide | lia | grind)
        have b39 := uk_cl v38
        refine g_iast rfl rfl v38 dX7_turns1_140 ?_
        refine g_mem (fun u40 eu40 => ?_)
        have hu40 : iv u40 := by rw [eu40]; exact iv_st hu13 (by unfold uk_is51; decide) (by first | decide | lia | grind) (by first | decide | lia | grind) (fun q => by first | decide | lia | grind) (fun q => by first | decide | lia | grind) (fun q => by first | decide | lia | grind)
        have fu40 : fk [60, 62, 71] [3, 7, 10, 11, 13, 14, 15, 16, 17, 18, 19, 28] u u40 := by rw [eu40]; exact fk_up fu13 (by decide) (fun q => absurd q (by decide))
        have riu40 : ri u40 := by rw [eu40]; exact ri_1 riu13 (by decide) (fun q => absurd q (by decide))
        have rau40 : ra u40 := by rw [eu40]; exact ra_at rau13 (by first | decide | lia | grind) (by first | decide | lia | grind)
        have T41 : u40.1 60 22 = t1 := by rw [eu40]; exact (congrFun (uk_up_oc (by decide)) _).trans T14
        have C42 : u40.1 71 = (upd (u.1 71) (x5 : Int32).toNatClampNeg x10) := by rw [eu40]; exact (uk_up_oc (by decide)).trans C15
        refine g_iconst (v := 1) dX7_turns1_141 (by decide) ?_
        exact g_iret (ty := .boolean) dX7_turns1_142 rfl rfl ⟨⟨1, rfl, Or.inr rfl, fun _ => (tn_1 hrp (i := x5) (m := x8) (a := x10) (by lia) (by lia) ex8.symm hax10.1 hax10.2 C42 (T41.trans (by first | assumption | grind)) (fk_at fu40 (by decide))).2, fun q => absurd q (by decide)⟩, hu40, fu40, riu40, rau40, (tn_1 hrp (i := x5) (m := x8) (a := x10) (by lia) (by lia) ex8.symm hax10.1 hax10.2 C42 (T41.trans (by first | assumption | grind)) (fk_at fu40 (by decide))).1⟩
    · have zc20 := nx19 c20
      refine g_aload_n dX7_turns1_40 rfl ?_
      refine f_X7_207 rfl rfl dX7_turns1_41 ?_
      refine g_topi (fun x43 ex43 => ?_)
      have rx43 : 0 ≤ x43 ∧ x43 ≤ 255 := by rw [ex43]; exact iv_at hu13 _ _ rfl
      have qx43 : x43 = t1 := ex43.trans T14
      refine g_istore_n dX7_turns1_44 (by decide) ?_
      refine g_pick (lv' := [(0, .ref (uk_ad G 60)), (1, .int x5), (2, .int x8), (3, .int x43)]) [0, 1, 2, 3] rfl ?_
      have L45_43 : ∀ i45 : Int32, -1 ≤ i45 → ∀ (u46 : uk_Mem), iv u46 → fk [60, 62, 71] [3, 7, 10, 11, 13, 14, 15, 16, 17, 18, 19, 28] u u46 → ri u46 → ra u46 → i45 ≤ u.1 60 22 → x5 + 1 ≤ i45 → u46.1 71 = sh (upd (u.1 71) x5.toNatClampNeg x10) (u.1 60 22).toNatClampNeg i45.toNatClampNeg → u46.1 60 22 = u.1 60 22 → uk_G G X mX7_turns1 (d + 1) (q_X7_turns1 u) 45 [(0, .ref (uk_ad G 60)), (1, .int x5), (2, .int x8), (3, .int i45)] [] u46 := by
        refine uk_dnl ?_
        intro i45 ai45 ihi45  u46 hu46 fu46 riu46 rau46 ji450 ji451 ji452 ji453
        have C71_u46 : u46.1 71 = u46.1 71 := rfl
        obtain ⟨t47, Tt47⟩ : ∃ t, u46.1 60 22 = t := ⟨_, rfl⟩
        have Rt47 : 0 ≤ t47 ∧ t47 ≤ 255 := by rw [← Tt47]; exact iv_at hu46 _ _ rfl
        have wu46_60_3 : u46.1 60 3 = u.1 60 3 := fk_at fu46 (by decide)
        refine g_iload_n dX7_turns1_45 rfl ?_
        refine g_iload_n dX7_turns1_46 rfl ?_
        refine g_iconst (v := 1) dX7_turns1_47 (by decide) ?_
        refine g_iadd dX7_turns1_48 ?_
        refine g_topi (fun x48 ex48 => ?_)
        refine g_icmp_le (tgt := 72) dX7_turns1_49 (by decide) (fun c49 => ?_) (fun c49 => ?_)
        · have hc1 : i45 = x5 + 1 := by first | lia | grind
          refine g_aload_n dX7_turns1_72 rfl ?_
          refine f_X7_41 rfl rfl dX7_turns1_73 ?_
          refine g_iload_n dX7_turns1_76 rfl ?_
          refine g_iconst (v := 1) dX7_turns1_77 (by decide) ?_
          refine g_iadd dX7_turns1_78 ?_
          refine g_topi (fun x50 ex50 => ?_)
          refine g_aload_n dX7_turns1_79 rfl ?_
          refine f_X7_23 rfl rfl dX7_turns1_80 ?_
          refine g_iload_n dX7_turns1_83 rfl ?_
          have v51 : vp_in x8 8 := uk_vin 8 rfl (by first | decide | lia | grind) (by first | decide | lia | grind)
          refine g_iald rfl rfl v51 dX7_turns1_84 ?_
          refine g_topi (fun x52 ex52 => ?_)
          have bx52 := uk_cl v51
          have rx52 : (-4) ≤ x52 ∧ x52 ≤ 7 := by rw [ex52]; exact iv_at hu46 _ _ (uk_pick1 _ (by omega))
          have hbx52 : 0 ≤ x52 ∧ x52 < x8 := by rw [ex52, fk_c fu46 (by decide)]; exact ⟨hkx8.2.2.1, hkx8.2.2.2⟩
          have v53 : vp_in x50 256 := uk_vin 256 rfl (by first | decide | lia | grind) (by first | decide | lia | grind)
          have b54 := uk_cl v53
          refine g_iast rfl rfl v53 dX7_turns1_85 ?_
          refine g_mem (fun u55 eu55 => ?_)
          have hu55 : iv u55 := by rw [eu55]; exact iv_up hu46 (uk_pick1 _ (by omega)) (by first | lia | grind) (by first | lia | grind)
          have fu55 : fk [60, 62, 71] [3, 7, 10, 11, 13, 14, 15, 16, 17, 18, 19, 28] u u55 := by rw [eu55]; exact fk_up fu46 (by decide) (fun q => absurd q (by decide))
          have riu55 : ri u55 := by rw [eu55]; exact ri_1 riu46 (by decide) (fun q => absurd q (by decide))
          have rau55 : ra u55 := by rw [eu55]; exact ra_1 rau46 (by decide) (fun q => absurd q (by decide))
          have T56 : u55.1 60 22 = t47 := by rw [eu55]; exact (congrFun (uk_up_oc (by decide)) _).trans Tt47
          have C57 : u55.1 71 = (upd (u46.1 71) (x50 : Int32).toNatClampNeg x52) := by rw [eu55, uk_up_self, C71_u46]
          refine g_aload_n dX7_turns1_86 rfl ?_
          refine g_dup dX7_turns1_87 rfl ?_
          refine f_X7_207 rfl rfl dX7_turns1_88 ?_
          refine g_topi (fun x58 ex58 => ?_)
          have rx58 : 0 ≤ x58 ∧ x58 ≤ 255 := by rw [ex58]; exact iv_at hu55 _ _ rfl
          have qx58 : x58 = t47 := ex58.trans T56
          refine g_iconst (v := 1) dX7_turns1_91 (by decide) ?_
          refine g_iadd dX7_turns1_92 ?_
          refine g_topi (fun x59 ex59 => ?_)
          refine p_X7_207 rfl rfl dX7_turns1_93 ?_
          refine g_mem (fun u60 eu60 => ?_)
          have hu60 : iv u60 := by rw [eu60]; exact iv_up hu55 rfl (by have := tn_n hrp (i := x5) (m := x8) (a := x10) (b := x52) (by lia) (by lia) ex8.symm hax10.1 hax10.2 hbx52.1 hbx52.2; first | lia | grind) (by have := tn_n hrp (i := x5) (m := x8) (a := x10) (b := x52) (by lia) (by lia) ex8.symm hax10.1 hax10.2 hbx52.1 hbx52.2; first | lia | grind)
          have fu60 : fk [60, 62, 71] [3, 7, 10, 11, 13, 14, 15, 16, 17, 18, 19, 28] u u60 := by rw [eu60]; exact fk_up fu55 (by decide) (fun _ => by decide)
          have riu60 : ri u60 := by rw [eu60]; exact ri_1 riu55 (by decide) (fun _ => by decide)
          have rau60 : ra u60 := by rw [eu60]; exact ra_1 rau55 (by decide) (fun _ => by decide)
          have C61 : u60.1 71 = (upd (u46.1 71) (x50 : Int32).toNatClampNeg x52) := by rw [eu60]; exact (uk_up_oc (by decide)).trans C57
          have s62 : u60.1 60 22 = x59 := by rw [eu60, uk_up_at]; exact if_pos ⟨rfl, rfl⟩
          refine g_aload_n dX7_turns1_96 rfl ?_
          refine f_X7_13 rfl rfl dX7_turns1_97 ?_
          refine g_bipush (v := 8) dX7_turns1_100 (by decide) ?_
          refine g_iload_n dX7_turns1_102 rfl ?_
          refine g_iadd dX7_turns1_103 ?_
          refine g_topi (fun x63 ex63 => ?_)
          refine g_aload_n dX7_turns1_104 rfl ?_
          refine f_X7_13 rfl rfl dX7_turns1_105 ?_
          refine g_bipush (v := 32) dX7_turns1_108 (by decide) ?_
          refine g_iload_n dX7_turns1_110 rfl ?_
          refine g_iadd dX7_turns1_111 ?_
          refine g_topi (fun x64 ex64 => ?_)
          have v65 : vp_in x64 51 := uk_vin 51 rfl (by first | decide | lia | grind) (by first | decide | lia | grind)
          refine g_iald rfl rfl v65 dX7_turns1_112 ?_
          refine g_topi (fun x66 ex66 => ?_)
          have bx66 := uk_cl v65
          refine g_iconst (v := 3) dX7_turns1_113 (by decide) ?_
          refine g_icmp_ne (tgt := 131) dX7_turns1_114 (by decide) (fun c67 => ?_) (fun c67 => ?_)
          · refine g_aload_n dX7_turns1_131 rfl ?_
            refine f_X7_13 rfl rfl dX7_turns1_132 ?_
            refine g_bipush (v := 8) dX7_turns1_135 (by decide) ?_
            refine g_iload_n dX7_turns1_137 rfl ?_
            refine g_iadd dX7_turns1_138 ?_
            refine g_topi (fun x68 ex68 => ?_)
            have v69 : vp_in x68 51 := uk_vin 51 rfl (by first | decide | lia | grind) (by first | decide | lia | grind)
            refine g_iald rfl rfl v69 dX7_turns1_139 ?_
            refine g_topi (fun x70 ex70 => ?_)
            have bx70 := uk_cl v69
            have v71 : vp_in x63 51 := uk_vin 51 rfl (by first | decide | lia | grind) (by first | decide | lia | grind)
            have b72 := uk_cl v71
            refine g_iast rfl rfl v71 dX7_turns1_140 ?_
            refine g_mem (fun u73 eu73 => ?_)
            have hu73 : iv u73 := by rw [eu73]; exact iv_st hu60 (by unfold uk_is51; decide) (by first | decide | lia | grind) (by first | decide | lia | grind) (fun q => by first | decide | lia | grind) (fun q => by first | decide | lia | grind) (fun q => by first | decide | lia | grind)
            have fu73 : fk [60, 62, 71] [3, 7, 10, 11, 13, 14, 15, 16, 17, 18, 19, 28] u u73 := by rw [eu73]; exact fk_up fu60 (by decide) (fun q => absurd q (by decide))
            have riu73 : ri u73 := by rw [eu73]; exact ri_1 riu60 (by decide) (fun q => absurd q (by decide))
            have rau73 : ra u73 := by rw [eu73]; exact ra_at rau60 (by first | decide | lia | grind) (by first | decide | lia | grind)
            have T74 : u73.1 60 22 = x59 := by rw [eu73]; exact (congrFun (uk_up_oc (by decide)) _).trans s62
            have C75 : u73.1 71 = (upd (u46.1 71) (x50 : Int32).toNatClampNeg x52) := by rw [eu73]; exact (uk_up_oc (by decide)).trans C61
            refine g_iconst (v := 1) dX7_turns1_141 (by decide) ?_
            exact g_iret (ty := .boolean) dX7_turns1_142 rfl rfl ⟨⟨1, rfl, Or.inr rfl, fun _ => (tn_2 hrp (i := x5) (m := x8) (a := x10) (b := x52) (by lia) (by lia) ex8.symm hax10.1 hax10.2 hbx52.1 hbx52.2 (C75.trans (by rw [ji452, hc1, ex50])) (T74.trans (by first | assumption | grind)) (fk_at fu73 (by decide))).2, fun q => absurd q (by decide)⟩, hu73, fu73, riu73, rau73, (tn_2 hrp (i := x5) (m := x8) (a := x10) (b := x52) (by lia) (by lia) ex8.symm hax10.1 hax10.2 hbx52.1 hbx52.2 (C75.trans (by rw [ji452, hc1, ex50])) (T74.trans (by first | assumption | grind)) (fk_at fu73 (by decide))).1⟩
          · refine g_iconst (v := 1) dX7_turns1_117 (by decide) ?_
            refine g_aload_n dX7_turns1_118 rfl ?_
            refine f_X7_13 rfl rfl dX7_turns1_119 ?_
            refine g_bipush (v := 8) dX7_turns1_122 (by decide) ?_
            refine g_iload_n dX7_turns1_124 rfl ?_
            refine g_iadd dX7_turns1_125 ?_
            refine g_topi (fun x76 ex76 => ?_)
            have v77 : vp_in x76 51 := uk_vin 51 rfl (by first | decide | lia | grind) (by first | decide | lia | grind)
            refine g_iald rfl rfl v77 dX7_turns1_126 ?_
            refine g_topi (fun x78 ex78 => ?_)
            have bx78 := uk_cl v77
            refine g_isub dX7_turns1_127 ?_
            refine g_topi (fun x79 ex79 => ?_)
            refine g_goto (tgt := 140) dX7_turns1_128 (by decide) ?_
            have v80 : vp_in x63 51 := uk_vin 51 rfl (by first | decide | lia | grind) (by first | decide | lia | grind)
            have b81 := uk_cl v80
            refine g_iast rfl rfl v80 dX7_turns1_140 ?_
            refine g_mem (fun u82 eu82 => ?_)
            have hu82 : iv u82 := by rw [eu82]; exact iv_st hu60 (by unfold uk_is51; decide) (by first | decide | lia | grind) (by first | decide | lia | grind) (fun q => by first | decide | lia | grind) (fun q => by first | decide | lia | grind) (fun q => by first | decide | lia | grind)
            have fu82 : fk [60, 62, 71] [3, 7, 10, 11, 13, 14, 15, 16, 17, 18, 19, 28] u u82 := by rw [eu82]; exact fk_up fu60 (by decide) (fun q => absurd q (by decide))
            have riu82 : ri u82 := by rw [eu82]; exact ri_1 riu60 (by decide) (fun q => absurd q (by decide))
            have rau82 : ra u82 := by rw [eu82]; exact ra_at rau60 (by first | decide | lia | grind) (by first | decide | lia | grind)
            have T83 : u82.1 60 22 = x59 := by rw [eu82]; exact (congrFun (uk_up_oc (by decide)) _).trans s62
            have C84 : u82.1 71 = (upd (u46.1 71) (x50 : Int32).toNatClampNeg x52) := by rw [eu82]; exact (uk_up_oc (by decide)).trans C61
            refine g_iconst (v := 1) dX7_turns1_141 (by decide) ?_
            exact g_iret (ty := .boolean) dX7_turns1_142 rfl rfl ⟨⟨1, rfl, Or.inr rfl, fun _ => (tn_2 hrp (i := x5) (m := x8) (a := x10) (b := x52) (by lia) (by lia) ex8.symm hax10.1 hax10.2 hbx52.1 hbx52.2 (C84.trans (by rw [ji452, hc1, ex50])) (T83.trans (by first | assumption | grind)) (fk_at fu82 (by decide))).2, fun q => absurd q (by decide)⟩, hu82, fu82, riu82, rau82, (tn_2 hrp (i := x5) (m := x8) (a := x10) (b := x52) (by lia) (by lia) ex8.symm hax10.1 hax10.2 hbx52.1 hbx52.2 (C84.trans (by rw [ji452, hc1, ex50])) (T83.trans (by first | assumption | grind)) (fk_at fu82 (by decide))).1⟩
        · refine g_aload_n dX7_turns1_52 rfl ?_
          refine f_X7_41 rfl rfl dX7_turns1_53 ?_
          refine g_iload_n dX7_turns1_56 rfl ?_
          refine g_aload_n dX7_turns1_57 rfl ?_
          refine f_X7_41 rfl rfl dX7_turns1_58 ?_
          refine g_iload_n dX7_turns1_61 rfl ?_
          refine g_iconst (v := 1) dX7_turns1_62 (by decide) ?_
          refine g_isub dX7_turns1_63 ?_
          refine g_topi (fun x85 ex85 => ?_)
          have v86 : vp_in x85 256 := uk_vin 256 rfl (by first | decide | lia | grind) (by first | decide | lia | grind)
          refine g_iald rfl rfl v86 dX7_turns1_64 ?_
          refine g_topi (fun x87 ex87 => ?_)
          have bx87 := uk_cl v86
          have rx87 : 0 ≤ x87 ∧ x87 ≤ 7 := by rw [ex87]; exact iv_at hu46 _ _ (uk_pick1 _ (by omega))
          have px87 : x87 = (u46.1 71) (x85 : Int32).toNatClampNeg := ex87.trans (congrFun C71_u46 _)
          have v88 : vp_in i45 256 := uk_vin 256 rfl (by first | decide | lia | grind) (by first | decide | lia | grind)
          have b89 := uk_cl v88
          refine g_iast rfl rfl v88 dX7_turns1_65 ?_
          refine g_mem (fun u90 eu90 => ?_)
          have hu90 : iv u90 := by rw [eu90]; exact iv_up hu46 (uk_pick1 _ (by omega)) (by first | lia | grind) (by first | lia | grind)
          have fu90 : fk [60, 62, 71] [3, 7, 10, 11, 13, 14, 15, 16, 17, 18, 19, 28] u u90 := by rw [eu90]; exact fk_up fu46 (by decide) (fun q => absurd q (by decide))
          have riu90 : ri u90 := by rw [eu90]; exact ri_1 riu46 (by decide) (fun q => absurd q (by decide))
          have rau90 : ra u90 := by rw [eu90]; exact ra_1 rau46 (by decide) (fun q => absurd q (by decide))
          have T91 : u90.1 60 22 = t47 := by rw [eu90]; exact (congrFun (uk_up_oc (by decide)) _).trans Tt47
          have C92 : u90.1 71 = (upd (u46.1 71) (i45 : Int32).toNatClampNeg x87) := by rw [eu90, uk_up_self, C71_u46]
          refine g_iinc (v := i45 - 1) dX7_turns1_66 rfl (uk_m1 _) (by decide) ?_
          refine g_pick (lv' := [(0, .ref (uk_ad G 60)), (1, .int x5), (2, .int x8), (3, .int (i45 - 1))]) [0, 1, 2, 3] rfl ?_
          refine g_goto (tgt := 45) dX7_turns1_69 (by decide) ?_
          refine g_pick (lv' := [(0, .ref (uk_ad G 60)), (1, .int x5), (2, .int x8), (3, .int (i45 - 1))]) [0, 1, 2, 3] rfl ?_
          exact ihi45 (by first | lia | grind)  u90 hu90 fu90 riu90 rau90 (by first | lia | grind) (by first | lia | grind) (by rw [C92, px87, ex85, uk_s1 (by lia), ji452]; exact sh_s (by have := uk_cge 1 1 rfl (show (1 : Int32) ≤ i45 by lia); exact this) (uk_cmo (by lia) ji450)) (T91.trans (by first | assumption | grind))
      refine g_pick (lv' := [(0, .ref (uk_ad G 60)), (1, .int x5), (2, .int x8), (3, .int x43)]) [0, 1, 2, 3] rfl ?_
      exact L45_43 x43 (by first | decide | lia | grind)  u13 hu13 fu13 riu13 rau13 (by first | lia | grind) (by first | lia | grind) (C15.trans (by rw [show x43 = u.1 60 22 by first | assumption | grind]; exact (sh_0 _ _).symm)) (T14.trans (by first | assumption | grind))
  · refine g_iconst (v := 0) dX7_turns1_11 (by decide) ?_
    exact g_iret (ty := .boolean) dX7_turns1_12 rfl rfl ⟨⟨0, rfl, Or.inl rfl, fun q => absurd rfl q, fun _ => by first | trivial | lia | grind⟩, hu, f0, hri, hra, hrp⟩
abbrev q_X7_mills (u : uk_Mem) (m : Int32) (n : Int32) (r : Option Value) (u' : uk_Mem) : Prop := (∃ x : Int32, r = some (.int x) ∧ True) ∧ (iv u' ∧ fk [60, 62, 71] [3, 7, 10, 11, 13, 14, 15, 16, 17, 18, 19, 28] u u' ∧ ri u' ∧ ra u' ∧ rp u')
set_option maxHeartbeats 4000000 in
set_option maxRecDepth 20000 in
theorem c_X7_mills {G : uk_D} (hs : uk_Sep G) {u : uk_Mem} (hu : iv u) (hri : ri u) (m : Int32) (n : Int32) (p0 : 0 ≤ m) (p1 : m < u.1 60 3) (p2 : m ≤ 7) (p3 : n ≤ 128) (d : Nat) : uk_Meth G (d + 2) mX7_mills [.ref (uk_ad G 60), .int m, .int n] u (q_X7_mills u m n) := by
  refine uk_Meth.of hs (by decide) (Nat.le_of_ble_eq_true rfl) (fun X => ?_)
  have f0 : fk [60, 62, 71] [3, 7, 10, 11, 13, 14, 15, 16, 17, 18, 19, 28] u u := fk_rf
  refine g_iconst (v := 0) dX7_mills_0 (by decide) ?_
  refine g_istore_n dX7_mills_1 (by decide) ?_
  refine g_pick (lv' := [(0, .ref (uk_ad G 60)), (1, .int m), (2, .int n), (3, .int 0)]) [0, 1, 2, 3] rfl ?_
  refine g_aload_n dX7_mills_2 rfl ?_
  refine g_iload_n dX7_mills_3 rfl ?_
  refine cl_X7_213 (c := 60) (As := [.int m]) rfl (c_X7_lays (G := G) hs hu hri  m (by first | trivial | decide | lia | grind) (by first | trivial | decide | lia | grind) (by first | trivial | decide | lia | grind) (d)) rfl (by omega) rfl rfl (Nat.le_of_ble_eq_true rfl) dX7_mills_4 (fun r1 u2 q3 => ?_)
  obtain ⟨rfl, mq3⟩ := q3
  obtain ⟨hu2, gu2, riu2, rau2, rpu2⟩ := mq3
  have fu2 : fk [60, 62, 71] [3, 7, 10, 11, 13, 14, 15, 16, 17, 18, 19, 28] u u2 := fk_tr f0 gu2 (by decide) (by decide)
  have wu2_60_3 : u2.1 60 3 = u.1 60 3 := fk_at gu2 (by decide)
  have L7_3 : ∀ i5 : Int32, 0 ≤ i5 → i5 ≤ 128 → ∀ (u6 : uk_Mem), iv u6 → fk [60, 62, 71] [3, 7, 10, 11, 13, 14, 15, 16, 17, 18, 19, 28] u u6 → ri u6 → ra u6 → rp u6 → uk_G G X mX7_mills (d + 2) (q_X7_mills u m n) 7 [(0, .ref (uk_ad G 60)), (1, .int m), (2, .int n), (3, .int i5)] [] u6 := by
    refine uk_upl 128 ?_
    intro i5 ai5 bi5 ihi5  u6 hu6 fu6 riu6 rau6 rpu6
    have wu6_60_3 : u6.1 60 3 = u.1 60 3 := fk_at fu6 (by decide)
    refine g_iload_n dX7_mills_7 rfl ?_
    refine g_iload_n dX7_mills_8 rfl ?_
    refine g_icmp_ge (tgt := 25) dX7_mills_9 (by decide) (fun c7 => ?_) (fun c7 => ?_)
    · refine g_iload_n dX7_mills_25 rfl ?_
      exact g_iret (ty := .int) dX7_mills_26 rfl rfl ⟨⟨_, rfl, by first | trivial | lia | grind⟩, hu6, fu6, riu6, rau6, rpu6⟩
    · refine g_aload_n dX7_mills_12 rfl ?_
      refine cl_X7_216 (c := 60) (As := []) rfl (c_X7_turns1 (G := G) hs hu6 riu6 rau6 rpu6    (d)) rfl (by omega) rfl rfl (Nat.le_of_ble_eq_true rfl) dX7_mills_13 (fun r8 u9 q10 => ?_)
      obtain ⟨⟨x11, rfl, tx11, nx11, zx11⟩, mq10⟩ := q10
      obtain ⟨hu9, gu9, riu9, rau9, rpu9⟩ := mq10
      have fu9 : fk [60, 62, 71] [3, 7, 10, 11, 13, 14, 15, 16, 17, 18, 19, 28] u u9 := fk_tr fu6 gu9 (by decide) (by decide)
      have wu9_60_3 : u9.1 60 3 = u6.1 60 3 := fk_at gu9 (by decide)
      refine g_if_eq (tgt := 25) dX7_mills_16 (by decide) (fun c12 => ?_) (fun c12 => ?_)
      · have zc12 := zx11 c12
        refine g_iload_n dX7_mills_25 rfl ?_
        exact g_iret (ty := .int) dX7_mills_26 rfl rfl ⟨⟨_, rfl, by first | trivial | lia | grind⟩, hu9, fu9, riu9, rau9, rpu9⟩
      · have zc12 := nx11 c12
        refine g_iinc (v := i5 + 1) dX7_mills_19 rfl rfl (by decide) ?_
        refine g_pick (lv' := [(0, .ref (uk_ad G 60)), (1, .int m), (2, .int n), (3, .int (i5 + 1))]) [0, 1, 2, 3] rfl ?_
        refine g_goto (tgt := 7) dX7_mills_22 (by decide) ?_
        refine g_pick (lv' := [(0, .ref (uk_ad G 60)), (1, .int m), (2, .int n), (3, .int (i5 + 1))]) [0, 1, 2, 3] rfl ?_
        exact ihi5 (by first | lia | grind)  u9 hu9 fu9 riu9 rau9 rpu9 
  refine g_pick (lv' := [(0, .ref (uk_ad G 60)), (1, .int m), (2, .int n), (3, .int 0)]) [0, 1, 2, 3] rfl ?_
  exact L7_3 0 (by first | decide | lia | grind) (by first | decide | lia | grind)  u2 hu2 fu2 riu2 rau2 rpu2 
abbrev q_X7_turns (u : uk_Mem) (m : Int32) (w : Int32) (r : Option Value) (u' : uk_Mem) : Prop := (∃ x : Int32, r = some (.int x) ∧ True) ∧ (iv u' ∧ fk [60, 62, 71] [3, 7, 10, 11, 13, 14, 15, 16, 17, 18, 19, 28] u u' ∧ ri u')
set_option maxHeartbeats 4000000 in
set_option maxRecDepth 20000 in
theorem c_X7_turns {G : uk_D} (hs : uk_Sep G) {u : uk_Mem} (hu : iv u) (hri : ri u) (m : Int32) (w : Int32) (d : Nat) : uk_Meth G (d + 3) mX7_turns [.ref (uk_ad G 60), .int m, .int w] u (q_X7_turns u m w) := by
  refine uk_Meth.of hs (by decide) (Nat.le_of_ble_eq_true rfl) (fun X => ?_)
  have f0 : fk [60, 62, 71] [3, 7, 10, 11, 13, 14, 15, 16, 17, 18, 19, 28] u u := fk_rf
  refine g_aload_n dX7_turns_0 rfl ?_
  refine g_iload_n dX7_turns_1 rfl ?_
  refine cl_X7_163 (c := 60) (As := [.int m]) rfl (c_X7_isStuff (G := G) hs hu  m  (d + 1)) rfl (by omega) rfl rfl (Nat.le_of_ble_eq_true rfl) dX7_turns_2 (fun r1 u2 q3 => ?_)
  obtain ⟨⟨x4, rfl, tx4, nx4, zx4⟩, mq3⟩ := q3
  rw [mq3]
  refine g_if_eq (tgt := 15) dX7_turns_5 (by decide) (fun c5 => ?_) (fun c5 => ?_)
  · have zc5 := zx4 c5
    refine g_iconst (v := (-1)) dX7_turns_15 (by decide) ?_
    exact g_iret (ty := .int) dX7_turns_16 rfl rfl ⟨⟨_, rfl, by first | trivial | lia | grind⟩, hu, f0, hri⟩
  · have zc5 := nx4 c5
    refine g_iload_n dX7_turns_8 rfl ?_
    refine cl_X7_197 (As := [.int w]) rfl (c_X7_isPart (G := G) hs hu  w  (d + 1)) rfl (by omega) rfl (Nat.le_of_ble_eq_true rfl) dX7_turns_9 (fun r6 u7 q8 => ?_)
    obtain ⟨⟨x9, rfl, tx9, nx9, zx9⟩, mq8⟩ := q8
    rw [mq8]
    refine g_if_ne (tgt := 17) dX7_turns_12 (by decide) (fun c10 => ?_) (fun c10 => ?_)
    · have zc10 := nx9 c10
      refine g_aload_n dX7_turns_17 rfl ?_
      refine g_iload_n dX7_turns_18 rfl ?_
      refine g_sipush (v := 128) dX7_turns_19 (by decide) ?_
      refine cl_X7_220 (c := 60) (As := [.int m, .int 128]) rfl (c_X7_mills (G := G) hs hu hri  m 128 (by first | trivial | decide | lia | grind) (by first | trivial | decide | lia | grind) (by first | trivial | decide | lia | grind) (by first | trivial | decide | lia | grind) (d)) rfl (by omega) rfl rfl (Nat.le_of_ble_eq_true rfl) dX7_turns_22 (fun r11 u12 q13 => ?_)
      obtain ⟨⟨x14, rfl, tx14⟩, mq13⟩ := q13
      obtain ⟨hu12, gu12, riu12, rau12, rpu12⟩ := mq13
      have fu12 : fk [60, 62, 71] [3, 7, 10, 11, 13, 14, 15, 16, 17, 18, 19, 28] u u12 := fk_tr f0 gu12 (by decide) (by decide)
      have wu12_60_3 : u12.1 60 3 = u.1 60 3 := fk_at gu12 (by decide)
      refine g_istore_n dX7_turns_25 (by decide) ?_
      refine g_pick (lv' := [(0, .ref (uk_ad G 60)), (1, .int m), (2, .int w), (3, .int x14)]) [0, 1, 2, 3] rfl ?_
      refine g_iload_n dX7_turns_26 rfl ?_
      refine g_if_ne (tgt := 34) dX7_turns_27 (by decide) (fun c15 => ?_) (fun c15 => ?_)
      · refine g_aload_n dX7_turns_34 rfl ?_
        refine f_X7_207 rfl rfl dX7_turns_35 ?_
        refine g_topi (fun x16 ex16 => ?_)
        have rx16 : 0 ≤ x16 ∧ x16 ≤ 255 := by rw [ex16]; exact iv_at hu12 _ _ rfl
        have s17 : u12.1 60 22 = x16 := ex16.symm
        exact g_iret (ty := .int) dX7_turns_38 rfl rfl ⟨⟨_, rfl, by first | trivial | lia | grind⟩, hu12, fu12, riu12⟩
      · refine g_iload_n dX7_turns_30 rfl ?_
        refine g_goto (tgt := 38) dX7_turns_31 (by decide) ?_
        exact g_iret (ty := .int) dX7_turns_38 rfl rfl ⟨⟨_, rfl, by first | trivial | lia | grind⟩, hu12, fu12, riu12⟩
    · have zc10 := zx9 c10
      refine g_iconst (v := (-1)) dX7_turns_15 (by decide) ?_
      exact g_iret (ty := .int) dX7_turns_16 rfl rfl ⟨⟨_, rfl, by first | trivial | lia | grind⟩, hu, f0, hri⟩
abbrev q_X7_comes (u : uk_Mem) (m : Int32) (i : Int32) (r : Option Value) (u' : uk_Mem) : Prop := (∃ x : Int32, r = some (.int x) ∧ True) ∧ (iv u' ∧ fk [60, 62, 71] [3, 7, 10, 11, 13, 14, 15, 16, 17, 18, 19, 28] u u' ∧ ri u')
set_option maxHeartbeats 4000000 in
set_option maxRecDepth 20000 in
theorem c_X7_comes {G : uk_D} (hs : uk_Sep G) {u : uk_Mem} (hu : iv u) (hri : ri u) (m : Int32) (i : Int32) (d : Nat) : uk_Meth G (d + 3) mX7_comes [.ref (uk_ad G 60), .int m, .int i] u (q_X7_comes u m i) := by
  refine uk_Meth.of hs (by decide) (Nat.le_of_ble_eq_true rfl) (fun X => ?_)
  have f0 : fk [60, 62, 71] [3, 7, 10, 11, 13, 14, 15, 16, 17, 18, 19, 28] u u := fk_rf
  refine g_aload_n dX7_comes_0 rfl ?_
  refine g_iload_n dX7_comes_1 rfl ?_
  refine cl_X7_163 (c := 60) (As := [.int m]) rfl (c_X7_isStuff (G := G) hs hu  m  (d + 1)) rfl (by omega) rfl rfl (Nat.le_of_ble_eq_true rfl) dX7_comes_2 (fun r1 u2 q3 => ?_)
  obtain ⟨⟨x4, rfl, tx4, nx4, zx4⟩, mq3⟩ := q3
  rw [mq3]
  refine g_if_eq (tgt := 12) dX7_comes_5 (by decide) (fun c5 => ?_) (fun c5 => ?_)
  · have zc5 := zx4 c5
    refine g_iconst (v := (-1)) dX7_comes_12 (by decide) ?_
    exact g_iret (ty := .int) dX7_comes_13 rfl rfl ⟨⟨_, rfl, by first | trivial | lia | grind⟩, hu, f0, hri⟩
  · have zc5 := nx4 c5
    refine g_iload_n dX7_comes_8 rfl ?_
    refine g_if_ge (tgt := 14) dX7_comes_9 (by decide) (fun c6 => ?_) (fun c6 => ?_)
    · refine g_aload_n dX7_comes_14 rfl ?_
      refine g_iload_n dX7_comes_15 rfl ?_
      refine g_sipush (v := 128) dX7_comes_16 (by decide) ?_
      refine cl_X7_220 (c := 60) (As := [.int m, .int 128]) rfl (c_X7_mills (G := G) hs hu hri  m 128 (by first | trivial | decide | lia | grind) (by first | trivial | decide | lia | grind) (by first | trivial | decide | lia | grind) (by first | trivial | decide | lia | grind) (d)) rfl (by omega) rfl rfl (Nat.le_of_ble_eq_true rfl) dX7_comes_19 (fun r7 u8 q9 => ?_)
      obtain ⟨⟨x10, rfl, tx10⟩, mq9⟩ := q9
      obtain ⟨hu8, gu8, riu8, rau8, rpu8⟩ := mq9
      have fu8 : fk [60, 62, 71] [3, 7, 10, 11, 13, 14, 15, 16, 17, 18, 19, 28] u u8 := fk_tr f0 gu8 (by decide) (by decide)
      have wu8_60_3 : u8.1 60 3 = u.1 60 3 := fk_at gu8 (by decide)
      refine g_pop dX7_comes_22 rfl ?_
      refine g_iload_n dX7_comes_23 rfl ?_
      refine g_aload_n dX7_comes_24 rfl ?_
      refine f_X7_207 rfl rfl dX7_comes_25 ?_
      refine g_topi (fun x11 ex11 => ?_)
      have rx11 : 0 ≤ x11 ∧ x11 ≤ 255 := by rw [ex11]; exact iv_at hu8 _ _ rfl
      have s12 : u8.1 60 22 = x11 := ex11.symm
      refine g_icmp_ge (tgt := 40) dX7_comes_28 (by decide) (fun c13 => ?_) (fun c13 => ?_)
      · refine g_bipush (v := (-4)) dX7_comes_40 (by decide) ?_
        exact g_iret (ty := .int) dX7_comes_42 rfl rfl ⟨⟨_, rfl, by first | trivial | lia | grind⟩, hu8, fu8, riu8⟩
      · refine g_aload_n dX7_comes_31 rfl ?_
        refine f_X7_41 rfl rfl dX7_comes_32 ?_
        refine g_iload_n dX7_comes_35 rfl ?_
        have v14 : vp_in i 256 := uk_vin 256 rfl (by first | decide | lia | grind) (by first | decide | lia | grind)
        refine g_iald rfl rfl v14 dX7_comes_36 ?_
        refine g_topi (fun x15 ex15 => ?_)
        have bx15 := uk_cl v14
        have rx15 : 0 ≤ x15 ∧ x15 ≤ 7 := by rw [ex15]; exact iv_at hu8 _ _ (uk_pick1 _ (by omega))
        refine g_goto (tgt := 42) dX7_comes_37 (by decide) ?_
        exact g_iret (ty := .int) dX7_comes_42 rfl rfl ⟨⟨_, rfl, by first | trivial | lia | grind⟩, hu8, fu8, riu8⟩
    · refine g_iconst (v := (-1)) dX7_comes_12 (by decide) ?_
      exact g_iret (ty := .int) dX7_comes_13 rfl rfl ⟨⟨_, rfl, by first | trivial | lia | grind⟩, hu, f0, hri⟩
abbrev q_X7_after (u : uk_Mem) (m : Int32) (n : Int32) (b : Int32) (r : Option Value) (u' : uk_Mem) : Prop := (∃ x : Int32, r = some (.int x) ∧ True) ∧ (iv u' ∧ fk [60, 62, 71] [3, 7, 10, 11, 13, 14, 15, 16, 17, 18, 19, 28] u u' ∧ ri u')
set_option maxHeartbeats 4000000 in
set_option maxRecDepth 20000 in
theorem c_X7_after {G : uk_D} (hs : uk_Sep G) {u : uk_Mem} (hu : iv u) (hri : ri u) (m : Int32) (n : Int32) (b : Int32) (d : Nat) : uk_Meth G (d + 3) mX7_after [.ref (uk_ad G 60), .int m, .int n, .int b] u (q_X7_after u m n b) := by
  refine uk_Meth.of hs (by decide) (Nat.le_of_ble_eq_true rfl) (fun X => ?_)
  have f0 : fk [60, 62, 71] [3, 7, 10, 11, 13, 14, 15, 16, 17, 18, 19, 28] u u := fk_rf
  refine g_aload_n dX7_after_0 rfl ?_
  refine g_iload_n dX7_after_1 rfl ?_
  refine cl_X7_163 (c := 60) (As := [.int m]) rfl (c_X7_isStuff (G := G) hs hu  m  (d + 1)) rfl (by omega) rfl rfl (Nat.le_of_ble_eq_true rfl) dX7_after_2 (fun r1 u2 q3 => ?_)
  obtain ⟨⟨x4, rfl, tx4, nx4, zx4⟩, mq3⟩ := q3
  rw [mq3]
  refine g_if_eq (tgt := 28) dX7_after_5 (by decide) (fun c5 => ?_) (fun c5 => ?_)
  · have zc5 := zx4 c5
    refine g_iconst (v := (-1)) dX7_after_28 (by decide) ?_
    exact g_iret (ty := .int) dX7_after_29 rfl rfl ⟨⟨_, rfl, by first | trivial | lia | grind⟩, hu, f0, hri⟩
  · have zc5 := nx4 c5
    refine g_iload_n dX7_after_8 rfl ?_
    refine g_i2l dX7_after_9 ?_
    refine g_lconst (v := 0) dX7_after_10 (by decide) ?_
    refine g_ldc2 (v := 127) k_X7_82 dX7_after_11 ?_
    refine cl_X7_84 (As := [.long n.toInt64, .long 0, .long 127]) rfl (c_X7_in (G := G) hs hu  n 0 127  (d + 2)) rfl (by omega) rfl (Nat.le_of_ble_eq_true rfl) dX7_after_14 (fun r6 u7 q8 => ?_)
    obtain ⟨⟨x9, rfl, tx9, nx9, zx9⟩, mq8⟩ := q8
    rw [mq8]
    refine g_if_eq (tgt := 28) dX7_after_17 (by decide) (fun c10 => ?_) (fun c10 => ?_)
    · have zc10 := zx9 c10
      refine g_iconst (v := (-1)) dX7_after_28 (by decide) ?_
      exact g_iret (ty := .int) dX7_after_29 rfl rfl ⟨⟨_, rfl, by first | trivial | lia | grind⟩, hu, f0, hri⟩
    · have zc10 := nx9 c10
      refine g_aload_n dX7_after_20 rfl ?_
      refine g_iload_n dX7_after_21 rfl ?_
      refine cl_X7_163 (c := 60) (As := [.int b]) rfl (c_X7_isStuff (G := G) hs hu  b  (d + 1)) rfl (by omega) rfl rfl (Nat.le_of_ble_eq_true rfl) dX7_after_22 (fun r11 u12 q13 => ?_)
      obtain ⟨⟨x14, rfl, tx14, nx14, zx14⟩, mq13⟩ := q13
      rw [mq13]
      refine g_if_ne (tgt := 30) dX7_after_25 (by decide) (fun c15 => ?_) (fun c15 => ?_)
      · have zc15 := nx14 c15
        refine g_aload_n dX7_after_30 rfl ?_
        refine g_iload_n dX7_after_31 rfl ?_
        refine g_iload_n dX7_after_32 rfl ?_
        refine cl_X7_220 (c := 60) (As := [.int m, .int n]) rfl (c_X7_mills (G := G) hs hu hri  m n (by first | trivial | decide | lia | grind) (by first | trivial | decide | lia | grind) (by first | trivial | decide | lia | grind) (by first | trivial | decide | lia | grind) (d)) rfl (by omega) rfl rfl (Nat.le_of_ble_eq_true rfl) dX7_after_33 (fun r16 u17 q18 => ?_)
        obtain ⟨⟨x19, rfl, tx19⟩, mq18⟩ := q18
        obtain ⟨hu17, gu17, riu17, rau17, rpu17⟩ := mq18
        have fu17 : fk [60, 62, 71] [3, 7, 10, 11, 13, 14, 15, 16, 17, 18, 19, 28] u u17 := fk_tr f0 gu17 (by decide) (by decide)
        have wu17_60_3 : u17.1 60 3 = u.1 60 3 := fk_at gu17 (by decide)
        refine g_pop dX7_after_36 rfl ?_
        refine g_aload_n dX7_after_37 rfl ?_
        refine g_iload_n dX7_after_38 rfl ?_
        refine cl_X7_223 (c := 60) (As := [.int b]) rfl (c_X7_countIn (G := G) hs hu17  b  (d + 1)) rfl (by omega) rfl rfl (Nat.le_of_ble_eq_true rfl) dX7_after_39 (fun r20 u21 q22 => ?_)
        obtain ⟨⟨x23, rfl, tx23⟩, mq22⟩ := q22
        rw [mq22]
        exact g_iret (ty := .int) dX7_after_42 rfl rfl ⟨⟨_, rfl, by first | trivial | lia | grind⟩, hu17, fu17, riu17⟩
      · have zc15 := zx14 c15
        refine g_iconst (v := (-1)) dX7_after_28 (by decide) ?_
        exact g_iret (ty := .int) dX7_after_29 rfl rfl ⟨⟨_, rfl, by first | trivial | lia | grind⟩, hu, f0, hri⟩
abbrev q_X7_first (u : uk_Mem) (m : Int32) (b : Int32) (r : Option Value) (u' : uk_Mem) : Prop := (∃ x : Int32, r = some (.int x) ∧ True) ∧ (iv u' ∧ fk [60, 62, 71] [3, 7, 10, 11, 13, 14, 15, 16, 17, 18, 19, 28] u u' ∧ ri u')
set_option maxHeartbeats 4000000 in
set_option maxRecDepth 20000 in
theorem c_X7_first {G : uk_D} (hs : uk_Sep G) {u : uk_Mem} (hu : iv u) (hri : ri u) (m : Int32) (b : Int32) (d : Nat) : uk_Meth G (d + 2) mX7_first [.ref (uk_ad G 60), .int m, .int b] u (q_X7_first u m b) := by
  refine uk_Meth.of hs (by decide) (Nat.le_of_ble_eq_true rfl) (fun X => ?_)
  have f0 : fk [60, 62, 71] [3, 7, 10, 11, 13, 14, 15, 16, 17, 18, 19, 28] u u := fk_rf
  refine g_aload_n dX7_first_0 rfl ?_
  refine g_iload_n dX7_first_1 rfl ?_
  refine cl_X7_163 (c := 60) (As := [.int m]) rfl (c_X7_isStuff (G := G) hs hu  m  (d)) rfl (by omega) rfl rfl (Nat.le_of_ble_eq_true rfl) dX7_first_2 (fun r1 u2 q3 => ?_)
  obtain ⟨⟨x4, rfl, tx4, nx4, zx4⟩, mq3⟩ := q3
  rw [mq3]
  refine g_if_eq (tgt := 16) dX7_first_5 (by decide) (fun c5 => ?_) (fun c5 => ?_)
  · have zc5 := zx4 c5
    refine g_iconst (v := (-1)) dX7_first_16 (by decide) ?_
    exact g_iret (ty := .int) dX7_first_17 rfl rfl ⟨⟨_, rfl, by first | trivial | lia | grind⟩, hu, f0, hri⟩
  · have zc5 := nx4 c5
    refine g_aload_n dX7_first_8 rfl ?_
    refine g_iload_n dX7_first_9 rfl ?_
    refine cl_X7_163 (c := 60) (As := [.int b]) rfl (c_X7_isStuff (G := G) hs hu  b  (d)) rfl (by omega) rfl rfl (Nat.le_of_ble_eq_true rfl) dX7_first_10 (fun r6 u7 q8 => ?_)
    obtain ⟨⟨x9, rfl, tx9, nx9, zx9⟩, mq8⟩ := q8
    rw [mq8]
    refine g_if_ne (tgt := 18) dX7_first_13 (by decide) (fun c10 => ?_) (fun c10 => ?_)
    · have zc10 := nx9 c10
      refine g_iconst (v := 0) dX7_first_18 (by decide) ?_
      refine g_istore_n dX7_first_19 (by decide) ?_
      refine g_pick (lv' := [(0, .ref (uk_ad G 60)), (1, .int m), (2, .int b), (3, .int 0)]) [0, 1, 2, 3] rfl ?_
      refine g_aload_n dX7_first_20 rfl ?_
      refine g_iload_n dX7_first_21 rfl ?_
      refine cl_X7_213 (c := 60) (As := [.int m]) rfl (c_X7_lays (G := G) hs hu hri  m (by first | trivial | decide | lia | grind) (by first | trivial | decide | lia | grind) (by first | trivial | decide | lia | grind) (d)) rfl (by omega) rfl rfl (Nat.le_of_ble_eq_true rfl) dX7_first_22 (fun r11 u12 q13 => ?_)
      obtain ⟨rfl, mq13⟩ := q13
      obtain ⟨hu12, gu12, riu12, rau12, rpu12⟩ := mq13
      have fu12 : fk [60, 62, 71] [3, 7, 10, 11, 13, 14, 15, 16, 17, 18, 19, 28] u u12 := fk_tr f0 gu12 (by decide) (by decide)
      have wu12_60_3 : u12.1 60 3 = u.1 60 3 := fk_at gu12 (by decide)
      have L25_13 : ∀ i15 : Int32, 0 ≤ i15 → i15 ≤ 255 → ∀ (u16 : uk_Mem), iv u16 → fk [60, 62, 71] [3, 7, 10, 11, 13, 14, 15, 16, 17, 18, 19, 28] u u16 → ri u16 → ra u16 → rp u16 → i15.toNatClampNeg + pot u16 ≤ 255 → uk_G G X mX7_first (d + 2) (q_X7_first u m b) 25 [(0, .ref (uk_ad G 60)), (1, .int m), (2, .int b), (3, .int i15)] [] u16 := by
        refine uk_upl 255 ?_
        intro i15 ai15 bi15 ihi15  u16 hu16 fu16 riu16 rau16 rpu16 ji150
        have wu16_60_3 : u16.1 60 3 = u.1 60 3 := fk_at fu16 (by decide)
        refine g_aload_n dX7_first_25 rfl ?_
        refine g_iload_n dX7_first_26 rfl ?_
        refine cl_X7_223 (c := 60) (As := [.int b]) rfl (c_X7_countIn (G := G) hs hu16  b  (d)) rfl (by omega) rfl rfl (Nat.le_of_ble_eq_true rfl) dX7_first_27 (fun r17 u18 q19 => ?_)
        obtain ⟨⟨x20, rfl, tx20⟩, mq19⟩ := q19
        rw [mq19]
        refine g_if_ne (tgt := 49) dX7_first_30 (by decide) (fun c21 => ?_) (fun c21 => ?_)
        · refine g_iload_n dX7_first_49 rfl ?_
          exact g_iret (ty := .int) dX7_first_50 rfl rfl ⟨⟨_, rfl, by first | trivial | lia | grind⟩, hu16, fu16, riu16⟩
        · refine g_aload_n dX7_first_33 rfl ?_
          refine cl_X7_216 (c := 60) (As := []) rfl (c_X7_turns1 (G := G) hs hu16 riu16 rau16 rpu16    (d)) rfl (by omega) rfl rfl (Nat.le_of_ble_eq_true rfl) dX7_first_34 (fun r22 u23 q24 => ?_)
          obtain ⟨⟨x25, rfl, tx25, nx25, zx25⟩, mq24⟩ := q24
          obtain ⟨hu23, gu23, riu23, rau23, rpu23⟩ := mq24
          have fu23 : fk [60, 62, 71] [3, 7, 10, 11, 13, 14, 15, 16, 17, 18, 19, 28] u u23 := fk_tr fu16 gu23 (by decide) (by decide)
          have wu23_60_3 : u23.1 60 3 = u16.1 60 3 := fk_at gu23 (by decide)
          refine g_if_ne (tgt := 43) dX7_first_37 (by decide) (fun c26 => ?_) (fun c26 => ?_)
          · have zc26 := nx25 c26
            have hst := pt_step ai15 bi15 ji150 (by assumption)
            refine g_iinc (v := i15 + 1) dX7_first_43 rfl rfl (by decide) ?_
            refine g_pick (lv' := [(0, .ref (uk_ad G 60)), (1, .int m), (2, .int b), (3, .int (i15 + 1))]) [0, 1, 2, 3] rfl ?_
            refine g_goto (tgt := 25) dX7_first_46 (by decide) ?_
            refine g_pick (lv' := [(0, .ref (uk_ad G 60)), (1, .int m), (2, .int b), (3, .int (i15 + 1))]) [0, 1, 2, 3] rfl ?_
            exact ihi15 (by first | lia | grind)  u23 hu23 fu23 riu23 rau23 rpu23 hst.2
          · have zc26 := zx25 c26
            refine g_bipush (v := (-4)) dX7_first_40 (by decide) ?_
            exact g_iret (ty := .int) dX7_first_42 rfl rfl ⟨⟨_, rfl, by first | trivial | lia | grind⟩, hu23, fu23, riu23⟩
      refine g_pick (lv' := [(0, .ref (uk_ad G 60)), (1, .int m), (2, .int b), (3, .int 0)]) [0, 1, 2, 3] rfl ?_
      exact L25_13 0 (by first | decide | lia | grind) (by first | decide | lia | grind)  u12 hu12 fu12 riu12 rau12 rpu12 (by have := rpu12.2; simpa using this)
    · have zc10 := zx9 c10
      refine g_iconst (v := (-1)) dX7_first_16 (by decide) ?_
      exact g_iret (ty := .int) dX7_first_17 rfl rfl ⟨⟨_, rfl, by first | trivial | lia | grind⟩, hu, f0, hri⟩
