abbrev q_X7_doIt_b (u : uk_Mem) (g : Int32) (r : Option Value) (u' : uk_Mem) : Prop := (r = none) ∧ (iv u' ∧ fk [62] [] u u' ∧ ra u')
set_option maxHeartbeats 4000000 in
set_option maxRecDepth 20000 in
theorem c_X7_doIt_b {G : uk_D} (hs : uk_Sep G) {u : uk_Mem} (hu : iv u) (hra : ra u) (g : Int32) (p0 : 10 ≤ g) (p1 : g ≤ 17) (p2 : 0 ≤ (u.1 64 ((g - 10)).toNatClampNeg)) (p3 : (u.1 64 ((g - 10)).toNatClampNeg) < (g - 10)) (p4 : 0 ≤ (u.1 65 ((g - 10)).toNatClampNeg)) (p5 : (u.1 65 ((g - 10)).toNatClampNeg) < (g - 10)) (p6 : 1 ≤ u.1 62 ((g - 10)).toNatClampNeg) (p7 : u.1 62 (u.1 64 ((g - 10)).toNatClampNeg).toNatClampNeg < 40) (p8 : ((u.1 62 (32 + (g - 10)).toNatClampNeg = 0 ∨ (u.1 62 (32 + (g - 10)).toNatClampNeg = 3 ∧ u.1 62 (8 + (g - 10)).toNatClampNeg = 1)) → (u.1 64 ((g - 10)).toNatClampNeg) = (u.1 65 ((g - 10)).toNatClampNeg) → u.1 62 (u.1 64 ((g - 10)).toNatClampNeg).toNatClampNeg + 2 ≤ 40)) (p9 : ((u.1 62 (32 + (g - 10)).toNatClampNeg = 0 ∨ (u.1 62 (32 + (g - 10)).toNatClampNeg = 3 ∧ u.1 62 (8 + (g - 10)).toNatClampNeg = 1)) → ¬ (u.1 64 ((g - 10)).toNatClampNeg) = (u.1 65 ((g - 10)).toNatClampNeg) → u.1 62 (u.1 65 ((g - 10)).toNatClampNeg).toNatClampNeg < 40)) (d : Nat) : uk_Meth G (d + 1) mX7_doIt [.ref (uk_ad G 60), .int g] u (q_X7_doIt_b u g) := by
  refine uk_Meth.of hs (by decide) (Nat.le_of_ble_eq_true rfl) (fun X => ?_)
  have f0 : fk [62] [] u u := fk_rf
  have C62 : u.1 62 = u.1 62 := rfl
  have C64 : u.1 64 = u.1 64 := rfl
  have C65 : u.1 65 = u.1 65 := rfl
  obtain ⟨pA, hpA⟩ : ∃ a, u.1 64 ((g - 10)).toNatClampNeg = a := ⟨_, rfl⟩
  obtain ⟨pB, hpB⟩ : ∃ a, u.1 65 ((g - 10)).toNatClampNeg = a := ⟨_, rfl⟩
  obtain ⟨cA, hcA⟩ : ∃ a, u.1 62 pA.toNatClampNeg = a := ⟨_, rfl⟩
  obtain ⟨cB, hcB⟩ : ∃ a, u.1 62 pB.toNatClampNeg = a := ⟨_, rfl⟩
  obtain ⟨cM, hcM⟩ : ∃ a, u.1 62 ((g - 10)).toNatClampNeg = a := ⟨_, rfl⟩
  simp only [hpA, hpB, hcA, hcB, hcM] at p2 p3 p4 p5 p6 p7 p8 p9
  have rA := sg_0 hu (c := 62) (by unfold uk_is51; decide) (i := pA) (by lia) (by lia)
  rw [hcA] at rA
  have rB := sg_0 hu (c := 62) (by unfold uk_is51; decide) (i := pB) (by lia) (by lia)
  rw [hcB] at rB
  have rM := sg_0 hu (c := 62) (by unfold uk_is51; decide) (i := (g - 10)) (by lia) (by lia)
  rw [hcM] at rM
  have hAB : pA = pB → cA = cB := fun q => by rw [← hcA, ← hcB, q]
  refine g_iload_n dX7_doIt_0 rfl ?_
  refine g_bipush (v := 10) dX7_doIt_1 (by decide) ?_
  refine g_irem dX7_doIt_3 (by first | decide | lia | grind) ?_
  refine g_topi (fun x1 ex1 => ?_)
  have nx1 : x1 = (g - 10) := (uk_r10 ex1).2 (by lia) (by lia); clear ex1
  refine g_istore_n dX7_doIt_4 (by decide) ?_
  refine g_iload_n dX7_doIt_5 rfl ?_
  refine g_bipush (v := 10) dX7_doIt_6 (by decide) ?_
  refine g_icmp_ge (tgt := 15) dX7_doIt_8 (by decide) (fun c2 => ?_) (fun c2 => ?_)
  · refine g_iconst (v := 1) dX7_doIt_15 (by decide) ?_
    refine g_istore_n dX7_doIt_16 (by decide) ?_
    refine g_iload_n dX7_doIt_17 rfl ?_
    refine g_bipush (v := 10) dX7_doIt_18 (by decide) ?_
    refine g_icmp_lt (tgt := 31) dX7_doIt_20 (by decide) (fun c3 => ?_) (fun c3 => ?_)
    · exact absurd c3 (by lia)
    · refine g_aload_n dX7_doIt_23 rfl ?_
      refine g_iload_n dX7_doIt_24 rfl ?_
      refine cl_X7_153 (c := 60) (As := [.int x1]) rfl (c_X7_givesSecond (G := G) hs hu  x1 (by first | trivial | decide | lia | grind) (by first | trivial | decide | lia | grind) (d)) rfl (by omega) rfl rfl (Nat.le_of_ble_eq_true rfl) dX7_doIt_25 (fun r4 u5 q6 => ?_)
      obtain ⟨⟨x7, rfl, tx7, nx7, zx7⟩, mq6⟩ := q6
      rw [mq6]
      refine g_if_eq (tgt := 35) dX7_doIt_28 (by decide) (fun c8 => ?_) (fun c8 => ?_)
      · have zc8 := zx7 c8
        refine g_iconst (v := 0) dX7_doIt_35 (by decide) ?_
        refine g_istore dX7_doIt_36 (by decide) ?_
        refine g_aload_n dX7_doIt_38 rfl ?_
        refine f_X7_13 rfl rfl dX7_doIt_39 ?_
        refine g_iconst (v := 0) dX7_doIt_42 (by decide) ?_
        refine g_iload_n dX7_doIt_43 rfl ?_
        refine g_iadd dX7_doIt_44 ?_
        refine g_topi (fun x9 ex9 => ?_)
        have ox9 : x9 = x1 := by rw [ex9, Int32.zero_add]
        refine g_dup2 dX7_doIt_45 rfl rfl ?_
        have v10 : vp_in x9 51 := uk_vin 51 rfl (by first | decide | lia | grind) (by first | decide | lia | grind)
        refine g_iald rfl rfl v10 dX7_doIt_46 ?_
        refine g_topi (fun x11 ex11 => ?_)
        have bx11 := uk_cl v10
        have rx11 : 0 ≤ x11 ∧ x11 ≤ 40 := by rw [ex11]; exact sg_0 hu (by unfold uk_is51; decide) (by first | lia | grind) (by first | lia | grind)
        have px11 : x11 = (u.1 62) (x9 : Int32).toNatClampNeg := ex11.trans (congrFun C62 _)
        have yx11 : x11 = cM := by rw [px11, show (x9 : Int32) = (g - 10) by lia]; exact hcM
        refine g_iload_n dX7_doIt_47 rfl ?_
        refine g_isub dX7_doIt_48 ?_
        refine g_topi (fun x12 ex12 => ?_)
        have v13 : vp_in x9 51 := uk_vin 51 rfl (by first | decide | lia | grind) (by first | decide | lia | grind)
        have b14 := uk_cl v13
        refine g_iast rfl rfl v13 dX7_doIt_49 ?_
        refine g_mem (fun u15 eu15 => ?_)
        have hu15 : iv u15 := by rw [eu15]; exact iv_st hu (by unfold uk_is51; decide) (by lia) (by lia) (fun _ => dl_2 ex12 yx11 p6 rM.2) (fun q => absurd q (by lia)) (fun q => absurd q (by lia))
        have fu15 : fk [62] [] u u15 := by rw [eu15]; exact fk_up f0 (by decide) (fun q => absurd q (by decide))
        have rau15 : ra u15 := by rw [eu15]; exact ra_at hra (by first | decide | lia | grind) (by first | decide | lia | grind)
        have C16 : u15.1 62 = (upd (u.1 62) (x9 : Int32).toNatClampNeg x12) := by rw [eu15, uk_up_self, C62]
        have C17 : u15.1 64 = u.1 64 := by rw [eu15]; exact (uk_up_oc (by decide)).trans C64
        have C18 : u15.1 65 = u.1 65 := by rw [eu15]; exact (uk_up_oc (by decide)).trans C65
        refine g_aload_n dX7_doIt_50 rfl ?_
        refine f_X7_13 rfl rfl dX7_doIt_51 ?_
        refine g_iconst (v := 0) dX7_doIt_54 (by decide) ?_
        refine g_aload_n dX7_doIt_55 rfl ?_
        refine f_X7_20 rfl rfl dX7_doIt_56 ?_
        refine g_iload_n dX7_doIt_59 rfl ?_
        have v19 : vp_in x1 8 := uk_vin 8 rfl (by first | decide | lia | grind) (by first | decide | lia | grind)
        refine g_iald rfl rfl v19 dX7_doIt_60 ?_
        refine g_topi (fun x20 ex20 => ?_)
        have bx20 := uk_cl v19
        have rx20 : (-4) ≤ x20 ∧ x20 ≤ 7 := by rw [ex20]; exact iv_at hu15 _ _ (uk_pick1 _ (by omega))
        have px20 : x20 = (u.1 64) (x1 : Int32).toNatClampNeg := ex20.trans (congrFun C17 _)
        have yx20 : x20 = pA := by rw [px20, show (x1 : Int32) = (g - 10) by lia]; exact hpA
        refine g_iadd dX7_doIt_61 ?_
        refine g_topi (fun x21 ex21 => ?_)
        have ox21 : x21 = x20 := by rw [ex21, Int32.zero_add]
        refine g_dup2 dX7_doIt_62 rfl rfl ?_
        have v22 : vp_in x21 51 := uk_vin 51 rfl (by first | decide | lia | grind) (by first | decide | lia | grind)
        refine g_iald rfl rfl v22 dX7_doIt_63 ?_
        refine g_topi (fun x23 ex23 => ?_)
        have bx23 := uk_cl v22
        have rx23 : 0 ≤ x23 ∧ x23 ≤ 40 := by rw [ex23]; exact sg_0 hu15 (by unfold uk_is51; decide) (by first | lia | grind) (by first | lia | grind)
        have px23 : x23 = ((upd (u.1 62) (x9 : Int32).toNatClampNeg x12)) (x21 : Int32).toNatClampNeg := ex23.trans (congrFun C16 _)
        have lx23 : x23 = u.1 62 (x21 : Int32).toNatClampNeg := by rw [px23]; exact upd_ne (by lia) (by lia) (by lia)
        have yx23 : x23 = cA := by rw [lx23, show (x21 : Int32) = pA by lia]; exact hcA
        refine g_iload_n dX7_doIt_64 rfl ?_
        refine g_iadd dX7_doIt_65 ?_
        refine g_topi (fun x24 ex24 => ?_)
        have v25 : vp_in x21 51 := uk_vin 51 rfl (by first | decide | lia | grind) (by first | decide | lia | grind)
        have b26 := uk_cl v25
        refine g_iast rfl rfl v25 dX7_doIt_66 ?_
        refine g_mem (fun u27 eu27 => ?_)
        have hu27 : iv u27 := by rw [eu27]; exact iv_st hu15 (by unfold uk_is51; decide) (by lia) (by lia) (fun _ => dl_4 ex24 yx23 rA.1 p7) (fun q => absurd q (by lia)) (fun q => absurd q (by lia))
        have fu27 : fk [62] [] u u27 := by rw [eu27]; exact fk_up fu15 (by decide) (fun q => absurd q (by decide))
        have rau27 : ra u27 := by rw [eu27]; exact ra_at rau15 (by first | decide | lia | grind) (by first | decide | lia | grind)
        have C28 : u27.1 62 = (upd ((upd (u.1 62) (x9 : Int32).toNatClampNeg x12)) (x21 : Int32).toNatClampNeg x24) := by rw [eu27, uk_up_self, C16]
        have C29 : u27.1 64 = u.1 64 := by rw [eu27]; exact (uk_up_oc (by decide)).trans C17
        have C30 : u27.1 65 = u.1 65 := by rw [eu27]; exact (uk_up_oc (by decide)).trans C18
        refine g_aload_n dX7_doIt_67 rfl ?_
        refine f_X7_13 rfl rfl dX7_doIt_68 ?_
        refine g_iconst (v := 0) dX7_doIt_71 (by decide) ?_
        refine g_aload_n dX7_doIt_72 rfl ?_
        refine f_X7_23 rfl rfl dX7_doIt_73 ?_
        refine g_iload_n dX7_doIt_76 rfl ?_
        have v31 : vp_in x1 8 := uk_vin 8 rfl (by first | decide | lia | grind) (by first | decide | lia | grind)
        refine g_iald rfl rfl v31 dX7_doIt_77 ?_
        refine g_topi (fun x32 ex32 => ?_)
        have bx32 := uk_cl v31
        have rx32 : (-4) ≤ x32 ∧ x32 ≤ 7 := by rw [ex32]; exact iv_at hu27 _ _ (uk_pick1 _ (by omega))
        have px32 : x32 = (u.1 65) (x1 : Int32).toNatClampNeg := ex32.trans (congrFun C30 _)
        have yx32 : x32 = pB := by rw [px32, show (x1 : Int32) = (g - 10) by lia]; exact hpB
        refine g_iadd dX7_doIt_78 ?_
        refine g_topi (fun x33 ex33 => ?_)
        have ox33 : x33 = x32 := by rw [ex33, Int32.zero_add]
        refine g_dup2 dX7_doIt_79 rfl rfl ?_
        have v34 : vp_in x33 51 := uk_vin 51 rfl (by first | decide | lia | grind) (by first | decide | lia | grind)
        refine g_iald rfl rfl v34 dX7_doIt_80 ?_
        refine g_topi (fun x35 ex35 => ?_)
        have bx35 := uk_cl v34
        have rx35 : 0 ≤ x35 ∧ x35 ≤ 40 := by rw [ex35]; exact sg_0 hu27 (by unfold uk_is51; decide) (by first | lia | grind) (by first | lia | grind)
        have px35 : x35 = ((upd ((upd (u.1 62) (x9 : Int32).toNatClampNeg x12)) (x21 : Int32).toNatClampNeg x24)) (x33 : Int32).toNatClampNeg := ex35.trans (congrFun C28 _)
        have lx35 : (x33 = x21 → x35 = x24) ∧ (¬ x33 = x21 → x35 = u.1 62 (x33 : Int32).toNatClampNeg) := ⟨fun q => by rw [px35]; exact upd_at q, fun q => by rw [px35, upd_ne (by lia) (by lia) q]; exact upd_ne (by lia) (by lia) (by lia)⟩
        have yx35 : (pB = pA → x35 = x24) ∧ (¬ pB = pA → x35 = cB) := ⟨fun q => lx35.1 (by lia), fun q => by rw [lx35.2 (by lia), show (x33 : Int32) = pB by lia]; exact hcB⟩
        refine g_iload dX7_doIt_81 rfl ?_
        refine g_if_eq (tgt := 90) dX7_doIt_83 (by decide) (fun c36 => ?_) (fun c36 => ?_)
        · refine g_iconst (v := 0) dX7_doIt_90 (by decide) ?_
          refine g_iadd dX7_doIt_91 ?_
          refine g_topi (fun x37 ex37 => ?_)
          have v38 : vp_in x33 51 := uk_vin 51 rfl (by first | decide | lia | grind) (by first | decide | lia | grind)
          have b39 := uk_cl v38
          refine g_iast rfl rfl v38 dX7_doIt_92 ?_
          refine g_mem (fun u40 eu40 => ?_)
          have hu40 : iv u40 := by rw [eu40]; exact iv_st hu27 (by unfold uk_is51; decide) (by lia) (by lia) (fun _ => dl_7 ex37 yx35 ex24 yx23 ⟨rA.1, p7⟩ rB) (fun q => absurd q (by lia)) (fun q => absurd q (by lia))
          have fu40 : fk [62] [] u u40 := by rw [eu40]; exact fk_up fu27 (by decide) (fun q => absurd q (by decide))
          have rau40 : ra u40 := by rw [eu40]; exact ra_at rau27 (by first | decide | lia | grind) (by first | decide | lia | grind)
          have C41 : u40.1 62 = (upd ((upd ((upd (u.1 62) (x9 : Int32).toNatClampNeg x12)) (x21 : Int32).toNatClampNeg x24)) (x33 : Int32).toNatClampNeg x37) := by rw [eu40, uk_up_self, C28]
          have C42 : u40.1 64 = u.1 64 := by rw [eu40]; exact (uk_up_oc (by decide)).trans C29
          have C43 : u40.1 65 = u.1 65 := by rw [eu40]; exact (uk_up_oc (by decide)).trans C30
          refine g_aload_n dX7_doIt_93 rfl ?_
          refine f_X7_13 rfl rfl dX7_doIt_94 ?_
          refine g_bipush (v := 8) dX7_doIt_97 (by decide) ?_
          refine g_iload_n dX7_doIt_99 rfl ?_
          refine g_iadd dX7_doIt_100 ?_
          refine g_topi (fun x44 ex44 => ?_)
          refine g_iload_n dX7_doIt_101 rfl ?_
          refine g_bipush (v := 10) dX7_doIt_102 (by decide) ?_
          refine g_icmp_lt (tgt := 134) dX7_doIt_104 (by decide) (fun c45 => ?_) (fun c45 => ?_)
          · exact absurd c45 (by lia)
          · refine g_aload_n dX7_doIt_107 rfl ?_
            refine f_X7_13 rfl rfl dX7_doIt_108 ?_
            refine g_bipush (v := 32) dX7_doIt_111 (by decide) ?_
            refine g_iload_n dX7_doIt_113 rfl ?_
            refine g_iadd dX7_doIt_114 ?_
            refine g_topi (fun x46 ex46 => ?_)
            have v47 : vp_in x46 51 := uk_vin 51 rfl (by first | decide | lia | grind) (by first | decide | lia | grind)
            refine g_iald rfl rfl v47 dX7_doIt_115 ?_
            refine g_topi (fun x48 ex48 => ?_)
            have bx48 := uk_cl v47
            have px48 : x48 = ((upd ((upd ((upd (u.1 62) (x9 : Int32).toNatClampNeg x12)) (x21 : Int32).toNatClampNeg x24)) (x33 : Int32).toNatClampNeg x37)) (x46 : Int32).toNatClampNeg := ex48.trans (congrFun C41 _)
            refine g_iconst (v := 3) dX7_doIt_116 (by decide) ?_
            refine g_icmp_ne (tgt := 134) dX7_doIt_117 (by decide) (fun c49 => ?_) (fun c49 => ?_)
            · refine g_aload_n dX7_doIt_134 rfl ?_
              refine f_X7_13 rfl rfl dX7_doIt_135 ?_
              refine g_bipush (v := 8) dX7_doIt_138 (by decide) ?_
              refine g_iload_n dX7_doIt_140 rfl ?_
              refine g_iadd dX7_doIt_141 ?_
              refine g_topi (fun x50 ex50 => ?_)
              have v51 : vp_in x50 51 := uk_vin 51 rfl (by first | decide | lia | grind) (by first | decide | lia | grind)
              refine g_iald rfl rfl v51 dX7_doIt_142 ?_
              refine g_topi (fun x52 ex52 => ?_)
              have bx52 := uk_cl v51
              have px52 : x52 = ((upd ((upd ((upd (u.1 62) (x9 : Int32).toNatClampNeg x12)) (x21 : Int32).toNatClampNeg x24)) (x33 : Int32).toNatClampNeg x37)) (x50 : Int32).toNatClampNeg := ex52.trans (congrFun C41 _)
              have v53 : vp_in x44 51 := uk_vin 51 rfl (by first | decide | lia | grind) (by first | decide | lia | grind)
              have b54 := uk_cl v53
              refine g_iast rfl rfl v53 dX7_doIt_143 ?_
              refine g_mem (fun u55 eu55 => ?_)
              have hu55 : iv u55 := by rw [eu55]; exact iv_st hu40 (by unfold uk_is51; decide) (by first | decide | lia | grind) (by first | decide | lia | grind) (fun q => by first | decide | lia | grind) (fun q => by first | decide | lia | grind) (fun q => by first | decide | lia | grind)
              have fu55 : fk [62] [] u u55 := by rw [eu55]; exact fk_up fu40 (by decide) (fun q => absurd q (by decide))
              have rau55 : ra u55 := by rw [eu55]; exact ra_at rau40 (by first | decide | lia | grind) (by first | decide | lia | grind)
              have C56 : u55.1 62 = (upd ((upd ((upd ((upd (u.1 62) (x9 : Int32).toNatClampNeg x12)) (x21 : Int32).toNatClampNeg x24)) (x33 : Int32).toNatClampNeg x37)) (x44 : Int32).toNatClampNeg x52) := by rw [eu55, uk_up_self, C41]
              have C57 : u55.1 64 = u.1 64 := by rw [eu55]; exact (uk_up_oc (by decide)).trans C42
              have C58 : u55.1 65 = u.1 65 := by rw [eu55]; exact (uk_up_oc (by decide)).trans C43
              refine g_aload_n dX7_doIt_144 rfl ?_
              refine f_X7_13 rfl rfl dX7_doIt_145 ?_
              refine g_bipush (v := 41) dX7_doIt_148 (by decide) ?_
              refine g_dup2 dX7_doIt_150 rfl rfl ?_
              have v59 : vp_in 41 51 := uk_vin 51 rfl (by first | decide | lia | grind) (by first | decide | lia | grind)
              refine g_iald rfl rfl v59 dX7_doIt_151 ?_
              refine g_topi (fun x60 ex60 => ?_)
              have bx60 := uk_cl v59
              have px60 : x60 = ((upd ((upd ((upd ((upd (u.1 62) (x9 : Int32).toNatClampNeg x12)) (x21 : Int32).toNatClampNeg x24)) (x33 : Int32).toNatClampNeg x37)) (x44 : Int32).toNatClampNeg x52)) (41 : Int32).toNatClampNeg := ex60.trans (congrFun C56 _)
              refine g_iconst (v := 1) dX7_doIt_152 (by decide) ?_
              refine g_iadd dX7_doIt_153 ?_
              refine g_topi (fun x61 ex61 => ?_)
              have v62 : vp_in 41 51 := uk_vin 51 rfl (by first | decide | lia | grind) (by first | decide | lia | grind)
              have b63 := uk_cl v62
              refine g_iast rfl rfl v62 dX7_doIt_154 ?_
              refine g_mem (fun u64 eu64 => ?_)
              have hu64 : iv u64 := by rw [eu64]; exact iv_st hu55 (by unfold uk_is51; decide) (by first | decide | lia | grind) (by first | decide | lia | grind) (fun q => by first | decide | lia | grind) (fun q => by first | decide | lia | grind) (fun q => by first | decide | lia | grind)
              have fu64 : fk [62] [] u u64 := by rw [eu64]; exact fk_up fu55 (by decide) (fun q => absurd q (by decide))
              have rau64 : ra u64 := by rw [eu64]; exact ra_at rau55 (by first | decide | lia | grind) (by first | decide | lia | grind)
              have C65 : u64.1 62 = (upd ((upd ((upd ((upd ((upd (u.1 62) (x9 : Int32).toNatClampNeg x12)) (x21 : Int32).toNatClampNeg x24)) (x33 : Int32).toNatClampNeg x37)) (x44 : Int32).toNatClampNeg x52)) (41 : Int32).toNatClampNeg x61) := by rw [eu64, uk_up_self, C56]
              have C66 : u64.1 64 = u.1 64 := by rw [eu64]; exact (uk_up_oc (by decide)).trans C57
              have C67 : u64.1 65 = u.1 65 := by rw [eu64]; exact (uk_up_oc (by decide)).trans C58
              exact g_vret dX7_doIt_155 rfl ⟨rfl, hu64, fu64, rau64⟩
            · refine g_iconst (v := 1) dX7_doIt_120 (by decide) ?_
              refine g_aload_n dX7_doIt_121 rfl ?_
              refine f_X7_13 rfl rfl dX7_doIt_122 ?_
              refine g_bipush (v := 8) dX7_doIt_125 (by decide) ?_
              refine g_iload_n dX7_doIt_127 rfl ?_
              refine g_iadd dX7_doIt_128 ?_
              refine g_topi (fun x68 ex68 => ?_)
              have v69 : vp_in x68 51 := uk_vin 51 rfl (by first | decide | lia | grind) (by first | decide | lia | grind)
              refine g_iald rfl rfl v69 dX7_doIt_129 ?_
              refine g_topi (fun x70 ex70 => ?_)
              have bx70 := uk_cl v69
              have px70 : x70 = ((upd ((upd ((upd (u.1 62) (x9 : Int32).toNatClampNeg x12)) (x21 : Int32).toNatClampNeg x24)) (x33 : Int32).toNatClampNeg x37)) (x68 : Int32).toNatClampNeg := ex70.trans (congrFun C41 _)
              refine g_isub dX7_doIt_130 ?_
              refine g_topi (fun x71 ex71 => ?_)
              refine g_goto (tgt := 143) dX7_doIt_131 (by decide) ?_
              have v72 : vp_in x44 51 := uk_vin 51 rfl (by first | decide | lia | grind) (by first | decide | lia | grind)
              have b73 := uk_cl v72
              refine g_iast rfl rfl v72 dX7_doIt_143 ?_
              refine g_mem (fun u74 eu74 => ?_)
              have hu74 : iv u74 := by rw [eu74]; exact iv_st hu40 (by unfold uk_is51; decide) (by first | decide | lia | grind) (by first | decide | lia | grind) (fun q => by first | decide | lia | grind) (fun q => by first | decide | lia | grind) (fun q => by first | decide | lia | grind)
              have fu74 : fk [62] [] u u74 := by rw [eu74]; exact fk_up fu40 (by decide) (fun q => absurd q (by decide))
              have rau74 : ra u74 := by rw [eu74]; exact ra_at rau40 (by first | decide | lia | grind) (by first | decide | lia | grind)
              have C75 : u74.1 62 = (upd ((upd ((upd ((upd (u.1 62) (x9 : Int32).toNatClampNeg x12)) (x21 : Int32).toNatClampNeg x24)) (x33 : Int32).toNatClampNeg x37)) (x44 : Int32).toNatClampNeg x71) := by rw [eu74, uk_up_self, C41]
              have C76 : u74.1 64 = u.1 64 := by rw [eu74]; exact (uk_up_oc (by decide)).trans C42
              have C77 : u74.1 65 = u.1 65 := by rw [eu74]; exact (uk_up_oc (by decide)).trans C43
              refine g_aload_n dX7_doIt_144 rfl ?_
              refine f_X7_13 rfl rfl dX7_doIt_145 ?_
              refine g_bipush (v := 41) dX7_doIt_148 (by decide) ?_
              refine g_dup2 dX7_doIt_150 rfl rfl ?_
              have v78 : vp_in 41 51 := uk_vin 51 rfl (by first | decide | lia | grind) (by first | decide | lia | grind)
              refine g_iald rfl rfl v78 dX7_doIt_151 ?_
              refine g_topi (fun x79 ex79 => ?_)
              have bx79 := uk_cl v78
              have px79 : x79 = ((upd ((upd ((upd ((upd (u.1 62) (x9 : Int32).toNatClampNeg x12)) (x21 : Int32).toNatClampNeg x24)) (x33 : Int32).toNatClampNeg x37)) (x44 : Int32).toNatClampNeg x71)) (41 : Int32).toNatClampNeg := ex79.trans (congrFun C75 _)
              refine g_iconst (v := 1) dX7_doIt_152 (by decide) ?_
              refine g_iadd dX7_doIt_153 ?_
              refine g_topi (fun x80 ex80 => ?_)
              have v81 : vp_in 41 51 := uk_vin 51 rfl (by first | decide | lia | grind) (by first | decide | lia | grind)
              have b82 := uk_cl v81
              refine g_iast rfl rfl v81 dX7_doIt_154 ?_
              refine g_mem (fun u83 eu83 => ?_)
              have hu83 : iv u83 := by rw [eu83]; exact iv_st hu74 (by unfold uk_is51; decide) (by first | decide | lia | grind) (by first | decide | lia | grind) (fun q => by first | decide | lia | grind) (fun q => by first | decide | lia | grind) (fun q => by first | decide | lia | grind)
              have fu83 : fk [62] [] u u83 := by rw [eu83]; exact fk_up fu74 (by decide) (fun q => absurd q (by decide))
              have rau83 : ra u83 := by rw [eu83]; exact ra_at rau74 (by first | decide | lia | grind) (by first | decide | lia | grind)
              have C84 : u83.1 62 = (upd ((upd ((upd ((upd ((upd (u.1 62) (x9 : Int32).toNatClampNeg x12)) (x21 : Int32).toNatClampNeg x24)) (x33 : Int32).toNatClampNeg x37)) (x44 : Int32).toNatClampNeg x71)) (41 : Int32).toNatClampNeg x80) := by rw [eu83, uk_up_self, C75]
              have C85 : u83.1 64 = u.1 64 := by rw [eu83]; exact (uk_up_oc (by decide)).trans C76
              have C86 : u83.1 65 = u.1 65 := by rw [eu83]; exact (uk_up_oc (by decide)).trans C77
              exact g_vret dX7_doIt_155 rfl ⟨rfl, hu83, fu83, rau83⟩
        · exact absurd c36 (by decide)
      · have zc8 := nx7 c8
        refine g_iconst (v := 1) dX7_doIt_31 (by decide) ?_
        refine g_goto (tgt := 36) dX7_doIt_32 (by decide) ?_
        refine g_istore dX7_doIt_36 (by decide) ?_
        refine g_aload_n dX7_doIt_38 rfl ?_
        refine f_X7_13 rfl rfl dX7_doIt_39 ?_
        refine g_iconst (v := 0) dX7_doIt_42 (by decide) ?_
        refine g_iload_n dX7_doIt_43 rfl ?_
        refine g_iadd dX7_doIt_44 ?_
        refine g_topi (fun x87 ex87 => ?_)
        have ox87 : x87 = x1 := by rw [ex87, Int32.zero_add]
        refine g_dup2 dX7_doIt_45 rfl rfl ?_
        have v88 : vp_in x87 51 := uk_vin 51 rfl (by first | decide | lia | grind) (by first | decide | lia | grind)
        refine g_iald rfl rfl v88 dX7_doIt_46 ?_
        refine g_topi (fun x89 ex89 => ?_)
        have bx89 := uk_cl v88
        have rx89 : 0 ≤ x89 ∧ x89 ≤ 40 := by rw [ex89]; exact sg_0 hu (by unfold uk_is51; decide) (by first | lia | grind) (by first | lia | grind)
        have px89 : x89 = (u.1 62) (x87 : Int32).toNatClampNeg := ex89.trans (congrFun C62 _)
        have yx89 : x89 = cM := by rw [px89, show (x87 : Int32) = (g - 10) by lia]; exact hcM
        refine g_iload_n dX7_doIt_47 rfl ?_
        refine g_isub dX7_doIt_48 ?_
        refine g_topi (fun x90 ex90 => ?_)
        have v91 : vp_in x87 51 := uk_vin 51 rfl (by first | decide | lia | grind) (by first | decide | lia | grind)
        have b92 := uk_cl v91
        refine g_iast rfl rfl v91 dX7_doIt_49 ?_
        refine g_mem (fun u93 eu93 => ?_)
        have hu93 : iv u93 := by rw [eu93]; exact iv_st hu (by unfold uk_is51; decide) (by lia) (by lia) (fun _ => dl_2 ex90 yx89 p6 rM.2) (fun q => absurd q (by lia)) (fun q => absurd q (by lia))
        have fu93 : fk [62] [] u u93 := by rw [eu93]; exact fk_up f0 (by decide) (fun q => absurd q (by decide))
        have rau93 : ra u93 := by rw [eu93]; exact ra_at hra (by first | decide | lia | grind) (by first | decide | lia | grind)
        have C94 : u93.1 62 = (upd (u.1 62) (x87 : Int32).toNatClampNeg x90) := by rw [eu93, uk_up_self, C62]
        have C95 : u93.1 64 = u.1 64 := by rw [eu93]; exact (uk_up_oc (by decide)).trans C64
        have C96 : u93.1 65 = u.1 65 := by rw [eu93]; exact (uk_up_oc (by decide)).trans C65
        refine g_aload_n dX7_doIt_50 rfl ?_
        refine f_X7_13 rfl rfl dX7_doIt_51 ?_
        refine g_iconst (v := 0) dX7_doIt_54 (by decide) ?_
        refine g_aload_n dX7_doIt_55 rfl ?_
        refine f_X7_20 rfl rfl dX7_doIt_56 ?_
        refine g_iload_n dX7_doIt_59 rfl ?_
        have v97 : vp_in x1 8 := uk_vin 8 rfl (by first | decide | lia | grind) (by first | decide | lia | grind)
        refine g_iald rfl rfl v97 dX7_doIt_60 ?_
        refine g_topi (fun x98 ex98 => ?_)
        have bx98 := uk_cl v97
        have rx98 : (-4) ≤ x98 ∧ x98 ≤ 7 := by rw [ex98]; exact iv_at hu93 _ _ (uk_pick1 _ (by omega))
        have px98 : x98 = (u.1 64) (x1 : Int32).toNatClampNeg := ex98.trans (congrFun C95 _)
        have yx98 : x98 = pA := by rw [px98, show (x1 : Int32) = (g - 10) by lia]; exact hpA
        refine g_iadd dX7_doIt_61 ?_
        refine g_topi (fun x99 ex99 => ?_)
        have ox99 : x99 = x98 := by rw [ex99, Int32.zero_add]
        refine g_dup2 dX7_doIt_62 rfl rfl ?_
        have v100 : vp_in x99 51 := uk_vin 51 rfl (by first | decide | lia | grind) (by first | decide | lia | grind)
        refine g_iald rfl rfl v100 dX7_doIt_63 ?_
        refine g_topi (fun x101 ex101 => ?_)
        have bx101 := uk_cl v100
        have rx101 : 0 ≤ x101 ∧ x101 ≤ 40 := by rw [ex101]; exact sg_0 hu93 (by unfold uk_is51; decide) (by first | lia | grind) (by first | lia | grind)
        have px101 : x101 = ((upd (u.1 62) (x87 : Int32).toNatClampNeg x90)) (x99 : Int32).toNatClampNeg := ex101.trans (congrFun C94 _)
        have lx101 : x101 = u.1 62 (x99 : Int32).toNatClampNeg := by rw [px101]; exact upd_ne (by lia) (by lia) (by lia)
        have yx101 : x101 = cA := by rw [lx101, show (x99 : Int32) = pA by lia]; exact hcA
        refine g_iload_n dX7_doIt_64 rfl ?_
        refine g_iadd dX7_doIt_65 ?_
        refine g_topi (fun x102 ex102 => ?_)
        have v103 : vp_in x99 51 := uk_vin 51 rfl (by first | decide | lia | grind) (by first | decide | lia | grind)
        have b104 := uk_cl v103
        refine g_iast rfl rfl v103 dX7_doIt_66 ?_
        refine g_mem (fun u105 eu105 => ?_)
        have hu105 : iv u105 := by rw [eu105]; exact iv_st hu93 (by unfold uk_is51; decide) (by lia) (by lia) (fun _ => dl_4 ex102 yx101 rA.1 p7) (fun q => absurd q (by lia)) (fun q => absurd q (by lia))
        have fu105 : fk [62] [] u u105 := by rw [eu105]; exact fk_up fu93 (by decide) (fun q => absurd q (by decide))
        have rau105 : ra u105 := by rw [eu105]; exact ra_at rau93 (by first | decide | lia | grind) (by first | decide | lia | grind)
        have C106 : u105.1 62 = (upd ((upd (u.1 62) (x87 : Int32).toNatClampNeg x90)) (x99 : Int32).toNatClampNeg x102) := by rw [eu105, uk_up_self, C94]
        have C107 : u105.1 64 = u.1 64 := by rw [eu105]; exact (uk_up_oc (by decide)).trans C95
        have C108 : u105.1 65 = u.1 65 := by rw [eu105]; exact (uk_up_oc (by decide)).trans C96
        refine g_aload_n dX7_doIt_67 rfl ?_
        refine f_X7_13 rfl rfl dX7_doIt_68 ?_
        refine g_iconst (v := 0) dX7_doIt_71 (by decide) ?_
        refine g_aload_n dX7_doIt_72 rfl ?_
        refine f_X7_23 rfl rfl dX7_doIt_73 ?_
        refine g_iload_n dX7_doIt_76 rfl ?_
        have v109 : vp_in x1 8 := uk_vin 8 rfl (by first | decide | lia | grind) (by first | decide | lia | grind)
        refine g_iald rfl rfl v109 dX7_doIt_77 ?_
        refine g_topi (fun x110 ex110 => ?_)
        have bx110 := uk_cl v109
        have rx110 : (-4) ≤ x110 ∧ x110 ≤ 7 := by rw [ex110]; exact iv_at hu105 _ _ (uk_pick1 _ (by omega))
        have px110 : x110 = (u.1 65) (x1 : Int32).toNatClampNeg := ex110.trans (congrFun C108 _)
        have yx110 : x110 = pB := by rw [px110, show (x1 : Int32) = (g - 10) by lia]; exact hpB
        refine g_iadd dX7_doIt_78 ?_
        refine g_topi (fun x111 ex111 => ?_)
        have ox111 : x111 = x110 := by rw [ex111, Int32.zero_add]
        refine g_dup2 dX7_doIt_79 rfl rfl ?_
        have v112 : vp_in x111 51 := uk_vin 51 rfl (by first | decide | lia | grind) (by first | decide | lia | grind)
        refine g_iald rfl rfl v112 dX7_doIt_80 ?_
        refine g_topi (fun x113 ex113 => ?_)
        have bx113 := uk_cl v112
        have rx113 : 0 ≤ x113 ∧ x113 ≤ 40 := by rw [ex113]; exact sg_0 hu105 (by unfold uk_is51; decide) (by first | lia | grind) (by first | lia | grind)
        have px113 : x113 = ((upd ((upd (u.1 62) (x87 : Int32).toNatClampNeg x90)) (x99 : Int32).toNatClampNeg x102)) (x111 : Int32).toNatClampNeg := ex113.trans (congrFun C106 _)
        have lx113 : (x111 = x99 → x113 = x102) ∧ (¬ x111 = x99 → x113 = u.1 62 (x111 : Int32).toNatClampNeg) := ⟨fun q => by rw [px113]; exact upd_at q, fun q => by rw [px113, upd_ne (by lia) (by lia) q]; exact upd_ne (by lia) (by lia) (by lia)⟩
        have yx113 : (pB = pA → x113 = x102) ∧ (¬ pB = pA → x113 = cB) := ⟨fun q => lx113.1 (by lia), fun q => by rw [lx113.2 (by lia), show (x111 : Int32) = pB by lia]; exact hcB⟩
        refine g_iload dX7_doIt_81 rfl ?_
        refine g_if_eq (tgt := 90) dX7_doIt_83 (by decide) (fun c114 => ?_) (fun c114 => ?_)
        · exact absurd c114 (by decide)
        · refine g_iload_n dX7_doIt_86 rfl ?_
          refine g_goto (tgt := 91) dX7_doIt_87 (by decide) ?_
          refine g_iadd dX7_doIt_91 ?_
          refine g_topi (fun x115 ex115 => ?_)
          have v116 : vp_in x111 51 := uk_vin 51 rfl (by first | decide | lia | grind) (by first | decide | lia | grind)
          have b117 := uk_cl v116
          refine g_iast rfl rfl v116 dX7_doIt_92 ?_
          refine g_mem (fun u118 eu118 => ?_)
          have hu118 : iv u118 := by rw [eu118]; exact iv_st hu105 (by unfold uk_is51; decide) (by lia) (by lia) (fun _ => dl_6 ex115 yx113 ex102 yx101 (p8 (by rw [← nx1]; assumption)) (p9 (by rw [← nx1]; assumption)) ⟨rA.1, p7⟩ rB.1) (fun q => absurd q (by lia)) (fun q => absurd q (by lia))
          have fu118 : fk [62] [] u u118 := by rw [eu118]; exact fk_up fu105 (by decide) (fun q => absurd q (by decide))
          have rau118 : ra u118 := by rw [eu118]; exact ra_at rau105 (by first | decide | lia | grind) (by first | decide | lia | grind)
          have C119 : u118.1 62 = (upd ((upd ((upd (u.1 62) (x87 : Int32).toNatClampNeg x90)) (x99 : Int32).toNatClampNeg x102)) (x111 : Int32).toNatClampNeg x115) := by rw [eu118, uk_up_self, C106]
          have C120 : u118.1 64 = u.1 64 := by rw [eu118]; exact (uk_up_oc (by decide)).trans C107
          have C121 : u118.1 65 = u.1 65 := by rw [eu118]; exact (uk_up_oc (by decide)).trans C108
          refine g_aload_n dX7_doIt_93 rfl ?_
          refine f_X7_13 rfl rfl dX7_doIt_94 ?_
          refine g_bipush (v := 8) dX7_doIt_97 (by decide) ?_
          refine g_iload_n dX7_doIt_99 rfl ?_
          refine g_iadd dX7_doIt_100 ?_
          refine g_topi (fun x122 ex122 => ?_)
          refine g_iload_n dX7_doIt_101 rfl ?_
          refine g_bipush (v := 10) dX7_doIt_102 (by decide) ?_
          refine g_icmp_lt (tgt := 134) dX7_doIt_104 (by decide) (fun c123 => ?_) (fun c123 => ?_)
          · exact absurd c123 (by lia)
          · refine g_aload_n dX7_doIt_107 rfl ?_
            refine f_X7_13 rfl rfl dX7_doIt_108 ?_
            refine g_bipush (v := 32) dX7_doIt_111 (by decide) ?_
            refine g_iload_n dX7_doIt_113 rfl ?_
            refine g_iadd dX7_doIt_114 ?_
            refine g_topi (fun x124 ex124 => ?_)
            have v125 : vp_in x124 51 := uk_vin 51 rfl (by first | decide | lia | grind) (by first | decide | lia | grind)
            refine g_iald rfl rfl v125 dX7_doIt_115 ?_
            refine g_topi (fun x126 ex126 => ?_)
            have bx126 := uk_cl v125
            have px126 : x126 = ((upd ((upd ((upd (u.1 62) (x87 : Int32).toNatClampNeg x90)) (x99 : Int32).toNatClampNeg x102)) (x111 : Int32).toNatClampNeg x115)) (x124 : Int32).toNatClampNeg := ex126.trans (congrFun C119 _)
            refine g_iconst (v := 3) dX7_doIt_116 (by decide) ?_
            refine g_icmp_ne (tgt := 134) dX7_doIt_117 (by decide) (fun c127 => ?_) (fun c127 => ?_)
            · refine g_aload_n dX7_doIt_134 rfl ?_
              refine f_X7_13 rfl rfl dX7_doIt_135 ?_
              refine g_bipush (v := 8) dX7_doIt_138 (by decide) ?_
              refine g_iload_n dX7_doIt_140 rfl ?_
              refine g_iadd dX7_doIt_141 ?_
              refine g_topi (fun x128 ex128 => ?_)
              have v129 : vp_in x128 51 := uk_vin 51 rfl (by first | decide | lia | grind) (by first | decide | lia | grind)
              refine g_iald rfl rfl v129 dX7_doIt_142 ?_
              refine g_topi (fun x130 ex130 => ?_)
              have bx130 := uk_cl v129
              have px130 : x130 = ((upd ((upd ((upd (u.1 62) (x87 : Int32).toNatClampNeg x90)) (x99 : Int32).toNatClampNeg x102)) (x111 : Int32).toNatClampNeg x115)) (x128 : Int32).toNatClampNeg := ex130.trans (congrFun C119 _)
              have v131 : vp_in x122 51 := uk_vin 51 rfl (by first | decide | lia | grind) (by first | decide | lia | grind)
              have b132 := uk_cl v131
              refine g_iast rfl rfl v131 dX7_doIt_143 ?_
              refine g_mem (fun u133 eu133 => ?_)
              have hu133 : iv u133 := by rw [eu133]; exact iv_st hu118 (by unfold uk_is51; decide) (by first | decide | lia | grind) (by first | decide | lia | grind) (fun q => by first | decide | lia | grind) (fun q => by first | decide | lia | grind) (fun q => by first | decide | lia | grind)
              have fu133 : fk [62] [] u u133 := by rw [eu133]; exact fk_up fu118 (by decide) (fun q => absurd q (by decide))
              have rau133 : ra u133 := by rw [eu133]; exact ra_at rau118 (by first | decide | lia | grind) (by first | decide | lia | grind)
              have C134 : u133.1 62 = (upd ((upd ((upd ((upd (u.1 62) (x87 : Int32).toNatClampNeg x90)) (x99 : Int32).toNatClampNeg x102)) (x111 : Int32).toNatClampNeg x115)) (x122 : Int32).toNatClampNeg x130) := by rw [eu133, uk_up_self, C119]
              have C135 : u133.1 64 = u.1 64 := by rw [eu133]; exact (uk_up_oc (by decide)).trans C120
              have C136 : u133.1 65 = u.1 65 := by rw [eu133]; exact (uk_up_oc (by decide)).trans C121
              refine g_aload_n dX7_doIt_144 rfl ?_
              refine f_X7_13 rfl rfl dX7_doIt_145 ?_
              refine g_bipush (v := 41) dX7_doIt_148 (by decide) ?_
              refine g_dup2 dX7_doIt_150 rfl rfl ?_
              have v137 : vp_in 41 51 := uk_vin 51 rfl (by first | decide | lia | grind) (by first | decide | lia | grind)
              refine g_iald rfl rfl v137 dX7_doIt_151 ?_
              refine g_topi (fun x138 ex138 => ?_)
              have bx138 := uk_cl v137
              have px138 : x138 = ((upd ((upd ((upd ((upd (u.1 62) (x87 : Int32).toNatClampNeg x90)) (x99 : Int32).toNatClampNeg x102)) (x111 : Int32).toNatClampNeg x115)) (x122 : Int32).toNatClampNeg x130)) (41 : Int32).toNatClampNeg := ex138.trans (congrFun C134 _)
              refine g_iconst (v := 1) dX7_doIt_152 (by decide) ?_
              refine g_iadd dX7_doIt_153 ?_
              refine g_topi (fun x139 ex139 => ?_)
              have v140 : vp_in 41 51 := uk_vin 51 rfl (by first | decide | lia | grind) (by first | decide | lia | grind)
              have b141 := uk_cl v140
              refine g_iast rfl rfl v140 dX7_doIt_154 ?_
              refine g_mem (fun u142 eu142 => ?_)
              have hu142 : iv u142 := by rw [eu142]; exact iv_st hu133 (by unfold uk_is51; decide) (by first | decide | lia | grind) (by first | decide | lia | grind) (fun q => by first | decide | lia | grind) (fun q => by first | decide | lia | grind) (fun q => by first | decide | lia | grind)
              have fu142 : fk [62] [] u u142 := by rw [eu142]; exact fk_up fu133 (by decide) (fun q => absurd q (by decide))
              have rau142 : ra u142 := by rw [eu142]; exact ra_at rau133 (by first | decide | lia | grind) (by first | decide | lia | grind)
              have C143 : u142.1 62 = (upd ((upd ((upd ((upd ((upd (u.1 62) (x87 : Int32).toNatClampNeg x90)) (x99 : Int32).toNatClampNeg x102)) (x111 : Int32).toNatClampNeg x115)) (x122 : Int32).toNatClampNeg x130)) (41 : Int32).toNatClampNeg x139) := by rw [eu142, uk_up_self, C134]
              have C144 : u142.1 64 = u.1 64 := by rw [eu142]; exact (uk_up_oc (by decide)).trans C135
              have C145 : u142.1 65 = u.1 65 := by rw [eu142]; exact (uk_up_oc (by decide)).trans C136
              exact g_vret dX7_doIt_155 rfl ⟨rfl, hu142, fu142, rau142⟩
            · refine g_iconst (v := 1) dX7_doIt_120 (by decide) ?_
              refine g_aload_n dX7_doIt_121 rfl ?_
              refine f_X7_13 rfl rfl dX7_doIt_122 ?_
              refine g_bipush (v := 8) dX7_doIt_125 (by decide) ?_
              refine g_iload_n dX7_doIt_127 rfl ?_
              refine g_iadd dX7_doIt_128 ?_
              refine g_topi (fun x146 ex146 => ?_)
              have v147 : vp_in x146 51 := uk_vin 51 rfl (by first | decide | lia | grind) (by first | decide | lia | grind)
              refine g_iald rfl rfl v147 dX7_doIt_129 ?_
              refine g_topi (fun x148 ex148 => ?_)
              have bx148 := uk_cl v147
              have px148 : x148 = ((upd ((upd ((upd (u.1 62) (x87 : Int32).toNatClampNeg x90)) (x99 : Int32).toNatClampNeg x102)) (x111 : Int32).toNatClampNeg x115)) (x146 : Int32).toNatClampNeg := ex148.trans (congrFun C119 _)
              refine g_isub dX7_doIt_130 ?_
              refine g_topi (fun x149 ex149 => ?_)
              refine g_goto (tgt := 143) dX7_doIt_131 (by decide) ?_
              have v150 : vp_in x122 51 := uk_vin 51 rfl (by first | decide | lia | grind) (by first | decide | lia | grind)
              have b151 := uk_cl v150
              refine g_iast rfl rfl v150 dX7_doIt_143 ?_
              refine g_mem (fun u152 eu152 => ?_)
              have hu152 : iv u152 := by rw [eu152]; exact iv_st hu118 (by unfold uk_is51; decide) (by first | decide | lia | grind) (by first | decide | lia | grind) (fun q => by first | decide | lia | grind) (fun q => by first | decide | lia | grind) (fun q => by first | decide | lia | grind)
              have fu152 : fk [62] [] u u152 := by rw [eu152]; exact fk_up fu118 (by decide) (fun q => absurd q (by decide))
              have rau152 : ra u152 := by rw [eu152]; exact ra_at rau118 (by first | decide | lia | grind) (by first | decide | lia | grind)
              have C153 : u152.1 62 = (upd ((upd ((upd ((upd (u.1 62) (x87 : Int32).toNatClampNeg x90)) (x99 : Int32).toNatClampNeg x102)) (x111 : Int32).toNatClampNeg x115)) (x122 : Int32).toNatClampNeg x149) := by rw [eu152, uk_up_self, C119]
              have C154 : u152.1 64 = u.1 64 := by rw [eu152]; exact (uk_up_oc (by decide)).trans C120
              have C155 : u152.1 65 = u.1 65 := by rw [eu152]; exact (uk_up_oc (by decide)).trans C121
              refine g_aload_n dX7_doIt_144 rfl ?_
              refine f_X7_13 rfl rfl dX7_doIt_145 ?_
              refine g_bipush (v := 41) dX7_doIt_148 (by decide) ?_
              refine g_dup2 dX7_doIt_150 rfl rfl ?_
              have v156 : vp_in 41 51 := uk_vin 51 rfl (by first | decide | lia | grind) (by first | decide | lia | grind)
              refine g_iald rfl rfl v156 dX7_doIt_151 ?_
              refine g_topi (fun x157 ex157 => ?_)
              have bx157 := uk_cl v156
              have px157 : x157 = ((upd ((upd ((upd ((upd (u.1 62) (x87 : Int32).toNatClampNeg x90)) (x99 : Int32).toNatClampNeg x102)) (x111 : Int32).toNatClampNeg x115)) (x122 : Int32).toNatClampNeg x149)) (41 : Int32).toNatClampNeg := ex157.trans (congrFun C153 _)
              refine g_iconst (v := 1) dX7_doIt_152 (by decide) ?_
              refine g_iadd dX7_doIt_153 ?_
              refine g_topi (fun x158 ex158 => ?_)
              have v159 : vp_in 41 51 := uk_vin 51 rfl (by first | decide | lia | grind) (by first | decide | lia | grind)
              have b160 := uk_cl v159
              refine g_iast rfl rfl v159 dX7_doIt_154 ?_
              refine g_mem (fun u161 eu161 => ?_)
              have hu161 : iv u161 := by rw [eu161]; exact iv_st hu152 (by unfold uk_is51; decide) (by first | decide | lia | grind) (by first | decide | lia | grind) (fun q => by first | decide | lia | grind) (fun q => by first | decide | lia | grind) (fun q => by first | decide | lia | grind)
              have fu161 : fk [62] [] u u161 := by rw [eu161]; exact fk_up fu152 (by decide) (fun q => absurd q (by decide))
              have rau161 : ra u161 := by rw [eu161]; exact ra_at rau152 (by first | decide | lia | grind) (by first | decide | lia | grind)
              have C162 : u161.1 62 = (upd ((upd ((upd ((upd ((upd (u.1 62) (x87 : Int32).toNatClampNeg x90)) (x99 : Int32).toNatClampNeg x102)) (x111 : Int32).toNatClampNeg x115)) (x122 : Int32).toNatClampNeg x149)) (41 : Int32).toNatClampNeg x158) := by rw [eu161, uk_up_self, C153]
              have C163 : u161.1 64 = u.1 64 := by rw [eu161]; exact (uk_up_oc (by decide)).trans C154
              have C164 : u161.1 65 = u.1 65 := by rw [eu161]; exact (uk_up_oc (by decide)).trans C155
              exact g_vret dX7_doIt_155 rfl ⟨rfl, hu161, fu161, rau161⟩
  · exact absurd c2 (by lia)
