set_option maxHeartbeats 4000000 in
set_option maxRecDepth 20000 in
theorem x_X7_doIt_a {G : uk_D} (hs : uk_Sep G) {u : uk_Mem} (hu : iv u) (hra : ra u) (g : Int32) (p0 : 0 ≤ g) (p1 : g ≤ 7) (p2 : 0 ≤ (u.1 64 (g).toNatClampNeg)) (p3 : (u.1 64 (g).toNatClampNeg) < g) (p4 : 0 ≤ (u.1 65 (g).toNatClampNeg)) (p5 : (u.1 65 (g).toNatClampNeg) < g) (p6 : u.1 62 (g).toNatClampNeg < 40) (p7 : ((u.1 64 (g).toNatClampNeg) = (u.1 65 (g).toNatClampNeg) → 2 ≤ u.1 62 (u.1 64 (g).toNatClampNeg).toNatClampNeg)) (p8 : (¬ (u.1 64 (g).toNatClampNeg) = (u.1 65 (g).toNatClampNeg) → 1 ≤ u.1 62 (u.1 64 (g).toNatClampNeg).toNatClampNeg ∧ 1 ≤ u.1 62 (u.1 65 (g).toNatClampNeg).toNatClampNeg)) (d : Nat) : uk_Meth G (d + 1) mX7_doIt [.ref (uk_ad G 60), .int g] u (qe_X7_doIt_a u g) := by
  refine uk_Meth.of hs (by decide) (Nat.le_of_ble_eq_true rfl) (fun X => ?_)
  have f0 : fk [62] [] u u := fk_rf
  have C62 : u.1 62 = u.1 62 := rfl
  have C64 : u.1 64 = u.1 64 := rfl
  have C65 : u.1 65 = u.1 65 := rfl
  obtain ⟨pA, hpA⟩ : ∃ a, u.1 64 (g).toNatClampNeg = a := ⟨_, rfl⟩
  obtain ⟨pB, hpB⟩ : ∃ a, u.1 65 (g).toNatClampNeg = a := ⟨_, rfl⟩
  obtain ⟨cA, hcA⟩ : ∃ a, u.1 62 pA.toNatClampNeg = a := ⟨_, rfl⟩
  obtain ⟨cB, hcB⟩ : ∃ a, u.1 62 pB.toNatClampNeg = a := ⟨_, rfl⟩
  obtain ⟨cM, hcM⟩ : ∃ a, u.1 62 (g).toNatClampNeg = a := ⟨_, rfl⟩
  simp only [hpA, hpB, hcA, hcB, hcM] at p2 p3 p4 p5 p6 p7 p8
  have rA := sg_0 hu (c := 62) (by unfold uk_is51; decide) (i := pA) (by lia) (by lia)
  rw [hcA] at rA
  have rB := sg_0 hu (c := 62) (by unfold uk_is51; decide) (i := pB) (by lia) (by lia)
  rw [hcB] at rB
  have rM := sg_0 hu (c := 62) (by unfold uk_is51; decide) (i := g) (by lia) (by lia)
  rw [hcM] at rM
  have hAB : pA = pB → cA = cB := fun q => by rw [← hcA, ← hcB, q]
  have c1 : 1 ≤ cA := by
    by_cases q : pA = pB
    · have := p7 q
      lia
    · exact (p8 q).1
  refine g_iload_n dX7_doIt_0 rfl ?_
  refine g_bipush (v := 10) dX7_doIt_1 (by decide) ?_
  refine g_irem dX7_doIt_3 (by first | decide | lia | grind) ?_
  refine g_topi (fun x1 ex1 => ?_)
  have nx1 : x1 = g := (uk_r10 ex1).1 (by lia) (by lia); replace ex1 : ee_W _ _ := ex1
  refine g_istore_n dX7_doIt_4 (by decide) ?_
  refine g_pick (lv' := [(0, .ref (uk_ad G 60)), (1, .int g), (2, .int x1)]) [0, 1, 2] rfl ?_
  refine g_iload_n dX7_doIt_5 rfl ?_
  refine g_bipush (v := 10) dX7_doIt_6 (by decide) ?_
  refine g_icmp_ge (tgt := 15) dX7_doIt_8 (by decide) (fun c2 => ?_) (fun c2 => ?_)
  · exact absurd c2 (by lia)
  · refine g_iconst (v := (-1)) dX7_doIt_11 (by decide) ?_
    refine g_goto (tgt := 16) dX7_doIt_12 (by decide) ?_
    refine g_istore_n dX7_doIt_16 (by decide) ?_
    refine g_pick (lv' := [(0, .ref (uk_ad G 60)), (1, .int g), (2, .int x1), (3, .int (-1))]) [0, 1, 2, 3] rfl ?_
    refine g_iload_n dX7_doIt_17 rfl ?_
    refine g_bipush (v := 10) dX7_doIt_18 (by decide) ?_
    refine g_icmp_lt (tgt := 31) dX7_doIt_20 (by decide) (fun c3 => ?_) (fun c3 => ?_)
    · refine g_iconst (v := 1) dX7_doIt_31 (by decide) ?_
      refine g_goto (tgt := 36) dX7_doIt_32 (by decide) ?_
      refine g_istore dX7_doIt_36 (by decide) ?_
      refine g_pick (lv' := [(0, .ref (uk_ad G 60)), (1, .int g), (2, .int x1), (3, .int (-1)), (4, .int 1)]) [0, 1, 2, 3, 4] rfl ?_
      refine g_aload_n dX7_doIt_38 rfl ?_
      refine f_X7_13 rfl rfl dX7_doIt_39 ?_
      refine g_iconst (v := 0) dX7_doIt_42 (by decide) ?_
      refine g_iload_n dX7_doIt_43 rfl ?_
      refine g_iadd dX7_doIt_44 ?_
      refine g_topi (fun x4 ex4 => ?_)
      have ox4 : x4 = x1 := by rw [ex4, Int32.zero_add]
      refine g_dup2 dX7_doIt_45 rfl rfl ?_
      have v5 : vp_in x4 51 := uk_vin 51 rfl (by first | decide | lia | grind) (by first | decide | lia | grind)
      refine g_iald rfl rfl v5 dX7_doIt_46 ?_
      refine g_topi (fun x6 ex6 => ?_)
      have bx6 := uk_cl v5
      have rx6 : 0 ≤ x6 ∧ x6 ≤ 40 := by rw [ex6]; exact sg_0 hu (by unfold uk_is51; decide) (by first | lia | grind) (by first | lia | grind)
      have px6 : x6 = (u.1 62) (x4 : Int32).toNatClampNeg := ex6.trans (congrFun C62 _)
      have yx6 : x6 = cM := by rw [px6, show (x4 : Int32) = g by lia]; exact hcM
      refine g_iload_n dX7_doIt_47 rfl ?_
      refine g_isub dX7_doIt_48 ?_
      refine g_topi (fun x7 ex7 => ?_)
      have v8 : vp_in x4 51 := uk_vin 51 rfl (by first | decide | lia | grind) (by first | decide | lia | grind)
      have b9 := uk_cl v8
      refine g_iast rfl rfl v8 dX7_doIt_49 ?_
      refine g_mem (fun u10 eu10 => ?_)
      have hu10 : iv u10 := by rw [eu10]; exact iv_st hu (by unfold uk_is51; decide) (by lia) (by lia) (fun _ => dl_1 ex7 yx6 rM.1 p6) (fun q => absurd q (by lia)) (fun q => absurd q (by lia))
      have fu10 : fk [62] [] u u10 := by rw [eu10]; exact fk_up f0 (by decide) (fun q => absurd q (by decide))
      have rau10 : ra u10 := by rw [eu10]; exact ra_at hra (by first | decide | lia | grind) (by first | decide | lia | grind)
      have C11 : u10.1 62 = (upd (u.1 62) (x4 : Int32).toNatClampNeg x7) := by rw [eu10, uk_up_self, C62]
      have C12 : u10.1 64 = u.1 64 := by rw [eu10]; exact (uk_up_oc (by decide)).trans C64
      have C13 : u10.1 65 = u.1 65 := by rw [eu10]; exact (uk_up_oc (by decide)).trans C65
      refine g_aload_n dX7_doIt_50 rfl ?_
      refine f_X7_13 rfl rfl dX7_doIt_51 ?_
      refine g_iconst (v := 0) dX7_doIt_54 (by decide) ?_
      refine g_aload_n dX7_doIt_55 rfl ?_
      refine f_X7_20 rfl rfl dX7_doIt_56 ?_
      refine g_iload_n dX7_doIt_59 rfl ?_
      have v14 : vp_in x1 8 := uk_vin 8 rfl (by first | decide | lia | grind) (by first | decide | lia | grind)
      refine g_iald rfl rfl v14 dX7_doIt_60 ?_
      refine g_topi (fun x15 ex15 => ?_)
      have bx15 := uk_cl v14
      have rx15 : (-4) ≤ x15 ∧ x15 ≤ 7 := by rw [ex15]; exact iv_at hu10 _ _ (uk_pick1 _ (by omega))
      have px15 : x15 = (u.1 64) (x1 : Int32).toNatClampNeg := ex15.trans (congrFun C12 _)
      have yx15 : x15 = pA := by rw [px15, show (x1 : Int32) = g by lia]; exact hpA
      refine g_iadd dX7_doIt_61 ?_
      refine g_topi (fun x16 ex16 => ?_)
      have ox16 : x16 = x15 := by rw [ex16, Int32.zero_add]
      refine g_dup2 dX7_doIt_62 rfl rfl ?_
      have v17 : vp_in x16 51 := uk_vin 51 rfl (by first | decide | lia | grind) (by first | decide | lia | grind)
      refine g_iald rfl rfl v17 dX7_doIt_63 ?_
      refine g_topi (fun x18 ex18 => ?_)
      have bx18 := uk_cl v17
      have rx18 : 0 ≤ x18 ∧ x18 ≤ 40 := by rw [ex18]; exact sg_0 hu10 (by unfold uk_is51; decide) (by first | lia | grind) (by first | lia | grind)
      have px18 : x18 = ((upd (u.1 62) (x4 : Int32).toNatClampNeg x7)) (x16 : Int32).toNatClampNeg := ex18.trans (congrFun C11 _)
      have lx18 : x18 = u.1 62 (x16 : Int32).toNatClampNeg := by rw [px18]; exact upd_ne (by lia) (by lia) (by lia)
      have yx18 : x18 = cA := by rw [lx18, show (x16 : Int32) = pA by lia]; exact hcA
      refine g_iload_n dX7_doIt_64 rfl ?_
      refine g_iadd dX7_doIt_65 ?_
      refine g_topi (fun x19 ex19 => ?_)
      have v20 : vp_in x16 51 := uk_vin 51 rfl (by first | decide | lia | grind) (by first | decide | lia | grind)
      have b21 := uk_cl v20
      refine g_iast rfl rfl v20 dX7_doIt_66 ?_
      refine g_mem (fun u22 eu22 => ?_)
      have hu22 : iv u22 := by rw [eu22]; exact iv_st hu10 (by unfold uk_is51; decide) (by lia) (by lia) (fun _ => dl_3 ex19 yx18 c1 rA.2) (fun q => absurd q (by lia)) (fun q => absurd q (by lia))
      have fu22 : fk [62] [] u u22 := by rw [eu22]; exact fk_up fu10 (by decide) (fun q => absurd q (by decide))
      have rau22 : ra u22 := by rw [eu22]; exact ra_at rau10 (by first | decide | lia | grind) (by first | decide | lia | grind)
      have C23 : u22.1 62 = (upd ((upd (u.1 62) (x4 : Int32).toNatClampNeg x7)) (x16 : Int32).toNatClampNeg x19) := by rw [eu22, uk_up_self, C11]
      have C24 : u22.1 64 = u.1 64 := by rw [eu22]; exact (uk_up_oc (by decide)).trans C12
      have C25 : u22.1 65 = u.1 65 := by rw [eu22]; exact (uk_up_oc (by decide)).trans C13
      refine g_aload_n dX7_doIt_67 rfl ?_
      refine f_X7_13 rfl rfl dX7_doIt_68 ?_
      refine g_iconst (v := 0) dX7_doIt_71 (by decide) ?_
      refine g_aload_n dX7_doIt_72 rfl ?_
      refine f_X7_23 rfl rfl dX7_doIt_73 ?_
      refine g_iload_n dX7_doIt_76 rfl ?_
      have v26 : vp_in x1 8 := uk_vin 8 rfl (by first | decide | lia | grind) (by first | decide | lia | grind)
      refine g_iald rfl rfl v26 dX7_doIt_77 ?_
      refine g_topi (fun x27 ex27 => ?_)
      have bx27 := uk_cl v26
      have rx27 : (-4) ≤ x27 ∧ x27 ≤ 7 := by rw [ex27]; exact iv_at hu22 _ _ (uk_pick1 _ (by omega))
      have px27 : x27 = (u.1 65) (x1 : Int32).toNatClampNeg := ex27.trans (congrFun C25 _)
      have yx27 : x27 = pB := by rw [px27, show (x1 : Int32) = g by lia]; exact hpB
      refine g_iadd dX7_doIt_78 ?_
      refine g_topi (fun x28 ex28 => ?_)
      have ox28 : x28 = x27 := by rw [ex28, Int32.zero_add]
      refine g_dup2 dX7_doIt_79 rfl rfl ?_
      have v29 : vp_in x28 51 := uk_vin 51 rfl (by first | decide | lia | grind) (by first | decide | lia | grind)
      refine g_iald rfl rfl v29 dX7_doIt_80 ?_
      refine g_topi (fun x30 ex30 => ?_)
      have bx30 := uk_cl v29
      have rx30 : 0 ≤ x30 ∧ x30 ≤ 40 := by rw [ex30]; exact sg_0 hu22 (by unfold uk_is51; decide) (by first | lia | grind) (by first | lia | grind)
      have px30 : x30 = ((upd ((upd (u.1 62) (x4 : Int32).toNatClampNeg x7)) (x16 : Int32).toNatClampNeg x19)) (x28 : Int32).toNatClampNeg := ex30.trans (congrFun C23 _)
      have lx30 : (x28 = x16 → x30 = x19) ∧ (¬ x28 = x16 → x30 = u.1 62 (x28 : Int32).toNatClampNeg) := ⟨fun q => by rw [px30]; exact upd_at q, fun q => by rw [px30, upd_ne (by lia) (by lia) q]; exact upd_ne (by lia) (by lia) (by lia)⟩
      have yx30 : (pB = pA → x30 = x19) ∧ (¬ pB = pA → x30 = cB) := ⟨fun q => lx30.1 (by lia), fun q => by rw [lx30.2 (by lia), show (x28 : Int32) = pB by lia]; exact hcB⟩
      refine g_iload dX7_doIt_81 rfl ?_
      refine g_if_eq (tgt := 90) dX7_doIt_83 (by decide) (fun c31 => ?_) (fun c31 => ?_)
      · exact absurd c31 (by decide)
      · refine g_iload_n dX7_doIt_86 rfl ?_
        refine g_goto (tgt := 91) dX7_doIt_87 (by decide) ?_
        refine g_iadd dX7_doIt_91 ?_
        refine g_topi (fun x32 ex32 => ?_)
        have v33 : vp_in x28 51 := uk_vin 51 rfl (by first | decide | lia | grind) (by first | decide | lia | grind)
        have b34 := uk_cl v33
        refine g_iast rfl rfl v33 dX7_doIt_92 ?_
        refine g_mem (fun u35 eu35 => ?_)
        have hu35 : iv u35 := by rw [eu35]; exact iv_st hu22 (by unfold uk_is51; decide) (by lia) (by lia) (fun _ => dl_5 ex32 yx30 ex19 yx18 p7 p8 rA.2 rB.2) (fun q => absurd q (by lia)) (fun q => absurd q (by lia))
        have fu35 : fk [62] [] u u35 := by rw [eu35]; exact fk_up fu22 (by decide) (fun q => absurd q (by decide))
        have rau35 : ra u35 := by rw [eu35]; exact ra_at rau22 (by first | decide | lia | grind) (by first | decide | lia | grind)
        have C36 : u35.1 62 = (upd ((upd ((upd (u.1 62) (x4 : Int32).toNatClampNeg x7)) (x16 : Int32).toNatClampNeg x19)) (x28 : Int32).toNatClampNeg x32) := by rw [eu35, uk_up_self, C23]
        have C37 : u35.1 64 = u.1 64 := by rw [eu35]; exact (uk_up_oc (by decide)).trans C24
        have C38 : u35.1 65 = u.1 65 := by rw [eu35]; exact (uk_up_oc (by decide)).trans C25
        refine g_aload_n dX7_doIt_93 rfl ?_
        refine f_X7_13 rfl rfl dX7_doIt_94 ?_
        refine g_bipush (v := 8) dX7_doIt_97 (by decide) ?_
        refine g_iload_n dX7_doIt_99 rfl ?_
        refine g_iadd dX7_doIt_100 ?_
        refine g_topi (fun x39 ex39 => ?_)
        refine g_iload_n dX7_doIt_101 rfl ?_
        refine g_bipush (v := 10) dX7_doIt_102 (by decide) ?_
        refine g_icmp_lt (tgt := 134) dX7_doIt_104 (by decide) (fun c40 => ?_) (fun c40 => ?_)
        · refine g_aload_n dX7_doIt_134 rfl ?_
          refine f_X7_13 rfl rfl dX7_doIt_135 ?_
          refine g_bipush (v := 8) dX7_doIt_138 (by decide) ?_
          refine g_iload_n dX7_doIt_140 rfl ?_
          refine g_iadd dX7_doIt_141 ?_
          refine g_topi (fun x41 ex41 => ?_)
          have v42 : vp_in x41 51 := uk_vin 51 rfl (by first | decide | lia | grind) (by first | decide | lia | grind)
          refine g_iald rfl rfl v42 dX7_doIt_142 ?_
          refine g_topi (fun x43 ex43 => ?_)
          have bx43 := uk_cl v42
          have px43 : x43 = ((upd ((upd ((upd (u.1 62) (x4 : Int32).toNatClampNeg x7)) (x16 : Int32).toNatClampNeg x19)) (x28 : Int32).toNatClampNeg x32)) (x41 : Int32).toNatClampNeg := ex43.trans (congrFun C36 _)
          have v44 : vp_in x39 51 := uk_vin 51 rfl (by first | decide | lia | grind) (by first | decide | lia | grind)
          have b45 := uk_cl v44
          refine g_iast rfl rfl v44 dX7_doIt_143 ?_
          refine g_mem (fun u46 eu46 => ?_)
          have hu46 : iv u46 := by rw [eu46]; exact iv_st hu35 (by unfold uk_is51; decide) (by first | decide | lia | grind) (by first | decide | lia | grind) (fun q => by first | decide | lia | grind) (fun q => by first | decide | lia | grind) (fun q => by first | decide | lia | grind)
          have fu46 : fk [62] [] u u46 := by rw [eu46]; exact fk_up fu35 (by decide) (fun q => absurd q (by decide))
          have rau46 : ra u46 := by rw [eu46]; exact ra_at rau35 (by first | decide | lia | grind) (by first | decide | lia | grind)
          have C47 : u46.1 62 = (upd ((upd ((upd ((upd (u.1 62) (x4 : Int32).toNatClampNeg x7)) (x16 : Int32).toNatClampNeg x19)) (x28 : Int32).toNatClampNeg x32)) (x39 : Int32).toNatClampNeg x43) := by rw [eu46, uk_up_self, C36]
          have C48 : u46.1 64 = u.1 64 := by rw [eu46]; exact (uk_up_oc (by decide)).trans C37
          have C49 : u46.1 65 = u.1 65 := by rw [eu46]; exact (uk_up_oc (by decide)).trans C38
          refine g_aload_n dX7_doIt_144 rfl ?_
          refine f_X7_13 rfl rfl dX7_doIt_145 ?_
          refine g_bipush (v := 41) dX7_doIt_148 (by decide) ?_
          refine g_dup2 dX7_doIt_150 rfl rfl ?_
          have v50 : vp_in 41 51 := uk_vin 51 rfl (by first | decide | lia | grind) (by first | decide | lia | grind)
          refine g_iald rfl rfl v50 dX7_doIt_151 ?_
          refine g_topi (fun x51 ex51 => ?_)
          have bx51 := uk_cl v50
          have px51 : x51 = ((upd ((upd ((upd ((upd (u.1 62) (x4 : Int32).toNatClampNeg x7)) (x16 : Int32).toNatClampNeg x19)) (x28 : Int32).toNatClampNeg x32)) (x39 : Int32).toNatClampNeg x43)) (41 : Int32).toNatClampNeg := ex51.trans (congrFun C47 _)
          refine g_iconst (v := 1) dX7_doIt_152 (by decide) ?_
          refine g_iadd dX7_doIt_153 ?_
          refine g_topi (fun x52 ex52 => ?_)
          have v53 : vp_in 41 51 := uk_vin 51 rfl (by first | decide | lia | grind) (by first | decide | lia | grind)
          have b54 := uk_cl v53
          refine g_iast rfl rfl v53 dX7_doIt_154 ?_
          refine g_mem (fun u55 eu55 => ?_)
          have hu55 : iv u55 := by rw [eu55]; exact iv_st hu46 (by unfold uk_is51; decide) (by first | decide | lia | grind) (by first | decide | lia | grind) (fun q => by first | decide | lia | grind) (fun q => by first | decide | lia | grind) (fun q => by first | decide | lia | grind)
          have fu55 : fk [62] [] u u55 := by rw [eu55]; exact fk_up fu46 (by decide) (fun q => absurd q (by decide))
          have rau55 : ra u55 := by rw [eu55]; exact ra_at rau46 (by first | decide | lia | grind) (by first | decide | lia | grind)
          have C56 : u55.1 62 = (upd ((upd ((upd ((upd ((upd (u.1 62) (x4 : Int32).toNatClampNeg x7)) (x16 : Int32).toNatClampNeg x19)) (x28 : Int32).toNatClampNeg x32)) (x39 : Int32).toNatClampNeg x43)) (41 : Int32).toNatClampNeg x52) := by rw [eu55, uk_up_self, C47]
          have C57 : u55.1 64 = u.1 64 := by rw [eu55]; exact (uk_up_oc (by decide)).trans C48
          have C58 : u55.1 65 = u.1 65 := by rw [eu55]; exact (uk_up_oc (by decide)).trans C49
          exact g_vret dX7_doIt_155 rfl ⟨⟨rfl, hu55, fu55, rau55⟩, (by subst eu55; subst ex52; subst ex51; subst eu46; subst ex43; subst ex41; subst ex39; subst eu35; subst ex32; subst ex30; subst ex28; subst ex27; subst eu22; subst ex19; subst ex18; subst ex16; subst ex15; subst eu10; subst ex7; subst ex6; subst ex4; unfold ee_W at ex1; subst ex1; exact rfl : e_X7_doIt_a u g = u55).symm⟩
        · exact absurd c40 (by lia)
    · exact absurd c3 (by lia)
