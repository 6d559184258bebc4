abbrev q_X7_doIt_a (u : uk_Mem) (g : Int32) (r : Option Value) (u' : uk_Mem) : Prop := (r = none) ∧ (iv u' ∧ fk [62] [] u u' ∧ ra u')
set_option maxHeartbeats 4000000 in
set_option maxRecDepth 20000 in
theorem c_X7_doIt_a {G : uk_D} (hs : uk_Sep G) {u : uk_Mem} (hu : iv u) (hra : ra u) (g : Int32) (p0 : 0 ≤ g) (p1 : g ≤ 7) (p2 : 0 ≤ (u.1 64 (g).toNatClampNeg)) (p3 : (u.1 64 (g).toNatClampNeg) < g) (p4 : 0 ≤ (u.1 65 (g).toNatClampNeg)) (p5 : (u.1 65 (g).toNatClampNeg) < g) (p6 : u.1 62 (g).toNatClampNeg < 40) (p7 : ((u.1 64 (g).toNatClampNeg) = (u.1 65 (g).toNatClampNeg) → 2 ≤ u.1 62 (u.1 64 (g).toNatClampNeg).toNatClampNeg)) (p8 : (¬ (u.1 64 (g).toNatClampNeg) = (u.1 65 (g).toNatClampNeg) → 1 ≤ u.1 62 (u.1 64 (g).toNatClampNeg).toNatClampNeg ∧ 1 ≤ u.1 62 (u.1 65 (g).toNatClampNeg).toNatClampNeg)) (d : Nat) : uk_Meth G (d + 1) mX7_doIt [.ref (uk_ad G 60), .int g] u (q_X7_doIt_a u g) := by
  refine uk_Meth.of hs (by decide) (Nat.le_of_ble_eq_true rfl) (fun X => ?_)
  have f0 : fk [62] [] u u := fk_rf
  have C62 : u.1 62 = u.1 62 := rfl
  have C64 : u.1 64 = u.1 64 := rfl
  have C65 : u.1 65 = u.1 65 := rfl
  obtain ⟨pA, hpA⟩ : ∃ a, u.1 64 (g).toNatClampNeg = a := ⟨_, rfl⟩
  obtain ⟨pB, hpB⟩ : ∃ a, u.1 65 (g).toNatClampNeg = a := ⟨_, rfl⟩
  obtain ⟨cA, hcA⟩ : ∃ a, u.1 62 pA.toNatClampNeg = a := ⟨_, rfl⟩
  obtain ⟨cB, hcB⟩ : ∃ a, u.1 62 pB.toNatClampNeg = a := ⟨_, rfl⟩
  obtain ⟨cM, hcM⟩ : ∃ a, u.1 62 (g).toNatClampNeg = a := ⟨_, rfl⟩
  simp only [hpA, hpB, hcA, hcB, hcM] at p2 p3 p4 p5 p6 p7 p8
  have rA := sg_0 hu (c := 62) (by unfold uk_is51; decide) (i := pA) (by lia) (by lia)
  rw [hcA] at rA
  have rB := sg_0 hu (c := 62) (by unfold uk_is51; decide) (i := pB) (by lia) (by lia)
  rw [hcB] at rB
  have rM := sg_0 hu (c := 62) (by unfold uk_is51; decide) (i := g) (by lia) (by lia)
  rw [hcM] at rM
  have hAB : pA = pB → cA = cB := fun q => by rw [← hcA, ← hcB, q]
  have c1 : 1 ≤ cA := by
    by_cases q : pA = pB
    · have := p7 q
      lia
    · exact (p8 q).1
  refine g_iload_n dX7_doIt_0 rfl ?_
  refine g_bipush (v := 10) dX7_doIt_1 (by decide) ?_
  refine g_irem dX7_doIt_3 (by first | decide | lia | grind) ?_
  refine g_topi (fun x1 ex1 => ?_)
  have nx1 : x1 = g := (uk_r10 ex1).1 (by lia) (by lia); clear ex1
  refine g_istore_n dX7_doIt_4 (by decide) ?_
  refine g_iload_n dX7_doIt_5 rfl ?_
  refine g_bipush (v := 10) dX7_doIt_6 (by decide) ?_
  refine g_icmp_ge (tgt := 15) dX7_doIt_8 (by decide) (fun c2 => ?_) (fun c2 => ?_)
  · exact absurd c2 (by lia)
  · refine g_iconst (v := (-1)) dX7_doIt_11 (by decide) ?_
    refine g_goto (tgt := 16) dX7_doIt_12 (by decide) ?_
    refine g_istore_n dX7_doIt_16 (by decide) ?_
    refine g_iload_n dX7_doIt_17 rfl ?_
    refine g_bipush (v := 10) dX7_doIt_18 (by decide) ?_
    refine g_icmp_lt (tgt := 31) dX7_doIt_20 (by decide) (fun c3 => ?_) (fun c3 => ?_)
    · refine g_iconst (v := 1) dX7_doIt_31 (by decide) ?_
      refine g_goto (tgt := 36) dX7_doIt_32 (by decide) ?_
      refine g_istore dX7_doIt_36 (by decide) ?_
      refine g_aload_n dX7_doIt_38 rfl ?_
      refine f_X7_13 rfl rfl dX7_doIt_39 ?_
      refine g_iconst (v := 0) dX7_doIt_42 (by decide) ?_
      refine g_iload_n dX7_doIt_43 rfl ?_
      refine g_iadd dX7_doIt_44 ?_
      refine g_topi (fun x4 ex4 => ?_)
      have ox4 : x4 = x1 := by rw [ex4, Int32.zero_add]
      refine g_dup2 dX7_doIt_45 rfl rfl ?_
      have v5 : vp_in x4 51 := uk_vin 51 rfl (by first | decide | lia | grind) (by first | decide | lia | grind)
      refine g_iald rfl rfl v5 dX7_doIt_46 ?_
      refine g_topi (fun x6 ex6 => ?_)
      have bx6 := uk_cl v5
      have rx6 : 0 ≤ x6 ∧ x6 ≤ 40 := by rw [ex6]; exact sg_0 hu (by unfold uk_is51; decide) (by first | lia | grind) (by first | lia | grind)
      have px6 : x6 = (u.1 62) (x4 : Int32).toNatClampNeg := ex6.trans (congrFun C62 _)
      have yx6 : x6 = cM := by rw [px6, show (x4 : Int32) = g by lia]; exact hcM
      refine g_iload_n dX7_doIt_47 rfl ?_
      refine g_isub dX7_doIt_48 ?_
      refine g_topi (fun x7 ex7 => ?_)
      have v8 : vp_in x4 51 := uk_vin 51 rfl (by first | decide | lia | grind) (by first | decide | lia | grind)
      have b9 := uk_cl v8
      refine g_iast rfl rfl v8 dX7_doIt_49 ?_
      refine g_mem (fun u10 eu10 => ?_)
      have hu10 : iv u10 := by rw [eu10]; exact iv_st hu (by unfold uk_is51; decide) (by lia) (by lia) (fun _ => dl_1 ex7 yx6 rM.1 p6) (fun q => absurd q (by lia)) (fun q => absurd q (by lia))
      have fu10 : fk [62] [] u u10 := by rw [eu10]; exact fk_up f0 (by decide) (fun q => absurd q (by decide))
      have rau10 : ra u10 := by rw [eu10]; exact ra_at hra (by first | decide | lia | grind) (by first | decide | lia | grind)
      have C11 : u10.1 62 = (upd (u.1 62) (x4 : Int32).toNatClampNeg x7) := by rw [eu10, uk_up_self, C62]
      have C12 : u10.1 64 = u.1 64 := by rw [eu10]; exact (uk_up_oc (by decide)).trans C64
      have C13 : u10.1 65 = u.1 65 := by rw [eu10]; exact (uk_up_oc (by decide)).trans C65
      refine g_aload_n dX7_doIt_50 rfl ?_
      refine f_X7_13 rfl rfl dX7_doIt_51 ?_
      refine g_iconst (v := 0) dX7_doIt_54 (by decide) ?_
      refine g_aload_n dX7_doIt_55 rfl ?_
      refine f_X7_20 rfl rfl dX7_doIt_56 ?_
      refine g_iload_n dX7_doIt_59 rfl ?_
      have v14 : vp_in x1 8 := uk_vin 8 rfl (by first | decide | lia | grind) (by first | decide | lia | grind)
      refine g_iald rfl rfl v14 dX7_doIt_60 ?_
      refine g_topi (fun x15 ex15 => ?_)
      have bx15 := uk_cl v14
      have rx15 : (-4) ≤ x15 ∧ x15 ≤ 7 := by rw [ex15]; exact iv_at hu10 _ _ (uk_pick1 _ (by omega))
      have px15 : x15 = (u.1 64) (x1 : Int32).toNatClampNeg := ex15.trans (congrFun C12 _)
      have yx15 : x15 = pA := by rw [px15, show (x1 : Int32) = g by lia]; exact hpA
      refine g_iadd dX7_doIt_61 ?_
      refine g_topi (fun x16 ex16 => ?_)
      have ox16 : x16 = x15 := by rw [ex16, Int32.zero_add]
      refine g_dup2 dX7_doIt_62 rfl rfl ?_
      have v17 : vp_in x16 51 := uk_vin 51 rfl (by first | decide | lia | grind) (by first | decide | lia | grind)
      refine g_iald rfl rfl v17 dX7_doIt_63 ?_
      refine g_topi (fun x18 ex18 => ?_)
      have bx18 := uk_cl v17
      have rx18 : 0 ≤ x18 ∧ x18 ≤ 40 := by rw [ex18]; exact sg_0 hu10 (by unfold uk_is51; decide) (by first | lia | grind) (by first | lia | grind)
      have px18 : x18 = ((upd (u.1 62) (x4 : Int32).toNatClampNeg x7)) (x16 : Int32).toNatClampNeg := ex18.trans (congrFun C11 _)
      have lx18 : x18 = u.1 62 (x16 : Int32).toNatClampNeg := by rw [px18]; exact upd_ne (by lia) (by lia) (by lia)
      have yx18 : x18 = cA := by rw [lx18, show (x16 : Int32) = pA by lia]; exact hcA
      refine g_iload_n dX7_doIt_64 rfl ?_
      refine g_iadd dX7_doIt_65 ?_
      refine g_topi (fun x19 ex19 => ?_)
      have v20 : vp_in x16 51 := uk_vin 51 rfl (by first | decide | lia | grind) (by first | decide | lia | grind)
      have b21 := uk_cl v20
      refine g_iast rfl rfl v20 dX7_doIt_66 ?_
      refine g_mem (fun u22 eu22 => ?_)
      have hu22 : iv u22 := by rw [eu22]; exact iv_st hu10 (by unfold uk_is51; decide) (by lia) (by lia) (fun _ => dl_3 ex19 yx18 c1 rA.2) (fun q => absurd q (by lia)) (fun q => absurd q (by lia))
      have fu22 : fk [62] [] u u22 := by rw [eu22]; exact fk_up fu10 (by decide) (fun q => absurd q (by decide))
      have rau22 : ra u22 := by rw [eu22]; exact ra_at rau10 (by first | decide | lia | grind) (by first | decide | lia | grind)
      have C23 : u22.1 62 = (upd ((upd (u.1 62) (x4 : Int32).toNatClampNeg x7)) (x16 : Int32).toNatClampNeg x19) := by rw [eu22, uk_up_self, C11]
      have C24 : u22.1 64 = u.1 64 := by rw [eu22]; exact (uk_up_oc (by decide)).trans C12
      have C25 : u22.1 65 = u.1 65 := by rw [eu22]; exact (uk_up_oc (by decide)).trans C13
      refine g_aload_n dX7_doIt_67 rfl ?_
      refine f_X7_13 rfl rfl dX7_doIt_68 ?_
      refine g_iconst (v := 0) dX7_doIt_71 (by decide) ?_
      refine g_aload_n dX7_doIt_72 rfl ?_
      refine f_X7_23 rfl rfl dX7_doIt_73 ?_
      refine g_iload_n dX7_doIt_76 rfl ?_
      have v26 : vp_in x1 8 := uk_vin 8 rfl (by first | decide | lia | grind) (by first | decide | lia | grind)
      refine g_iald rfl rfl v26 dX7_doIt_77 ?_
      refine g_topi (fun x27 ex27 => ?_)
      have bx27 := uk_cl v26
      have rx27 : (-4) ≤ x27 ∧ x27 ≤ 7 := by rw [ex27]; exact iv_at hu22 _ _ (uk_pick1 _ (by omega))
      have px27 : x27 = (u.1 65) (x1 : Int32).toNatClampNeg := ex27.trans (congrFun C25 _)
      have yx27 : x27 = pB := by rw [px27, show (x1 : Int32) = g by lia]; exact hpB
      refine g_iadd dX7_doIt_78 ?_
      refine g_topi (fun x28 ex28 => ?_)
      have ox28 : x28 = x27 := by rw [ex28, Int32.zero_add]
      refine g_dup2 dX7_doIt_79 rfl rfl ?_
      have v29 : vp_in x28 51 := uk_vin 51 rfl (by first | decide | lia | grind) (by first | decide | lia | grind)
      refine g_iald rfl rfl v29 dX7_doIt_80 ?_
      refine g_topi (fun x30 ex30 => ?_)
      have bx30 := uk_cl v29
      have rx30 : 0 ≤ x30 ∧ x30 ≤ 40 := by rw [ex30]; exact sg_0 hu22 (by unfold uk_is51; decide) (by first | lia | grind) (by first | lia | grind)
      have px30 : x30 = ((upd ((upd (u.1 62) (x4 : Int32).toNatClampNeg x7)) (x16 : Int32).toNatClampNeg x19)) (x28 : Int32).toNatClampNeg := ex30.trans (congrFun C23 _)
      have lx30 : (x28 = x16 → x30 = x19) ∧ (¬ x28 = x16 → x30 = u.1 62 (x28 : Int32).toNatClampNeg) := ⟨fun q => by rw [px30]; exact upd_at q, fun q => by rw [px30, upd_ne (by lia) (by lia) q]; exact upd_ne (by lia) (by lia) (by lia)⟩
      have yx30 : (pB = pA → x30 = x19) ∧ (¬ pB = pA → x30 = cB) := ⟨fun q => lx30.1 (by lia), fun q => by rw [lx30.2 (by lia), show (x28 : Int32) = pB by lia]; exact hcB⟩
      refine g_iload dX7_doIt_81 rfl ?_
      refine g_if_eq (tgt := 90) dX7_doIt_83 (by decide) (fun c31 => ?_) (fun c31 => ?_)
      · exact absurd c31 (by decide)
      · refine g_iload_n dX7_doIt_86 rfl ?_
        refine g_goto (tgt := 91) dX7_doIt_87 (by decide) ?_
        refine g_iadd dX7_doIt_91 ?_
        refine g_topi (fun x32 ex32 => ?_)
        have v33 : vp_in x28 51 := uk_vin 51 rfl (by first | decide | lia | grind) (by first | decide | lia | grind)
        have b34 := uk_cl v33
        refine g_iast rfl rfl v33 dX7_doIt_92 ?_
        refine g_mem (fun u35 eu35 => ?_)
        have hu35 : iv u35 := by rw [eu35]; exact iv_st hu22 (by unfold uk_is51; decide) (by lia) (by lia) (fun _ => dl_5 ex32 yx30 ex19 yx18 p7 p8 rA.2 rB.2) (fun q => absurd q (by lia)) (fun q => absurd q (by lia))
        have fu35 : fk [62] [] u u35 := by rw [eu35]; exact fk_up fu22 (by decide) (fun q => absurd q (by decide))
        have rau35 : ra u35 := by rw [eu35]; exact ra_at rau22 (by first | decide | lia | grind) (by first | decide | lia | grind)
        have C36 : u35.1 62 = (upd ((upd ((upd (u.1 62) (x4 : Int32).toNatClampNeg x7)) (x16 : Int32).toNatClampNeg x19)) (x28 : Int32).toNatClampNeg x32) := by rw [eu35, uk_up_self, C23]
        have C37 : u35.1 64 = u.1 64 := by rw [eu35]; exact (uk_up_oc (by decide)).trans C24
        have C38 : u35.1 65 = u.1 65 := by rw [eu35]; exact (uk_up_oc (by decide)).trans C25
        refine g_aload_n dX7_doIt_93 rfl ?_
        refine f_X7_13 rfl rfl dX7_doIt_94 ?_
        refine g_bipush (v := 8) dX7_doIt_97 (by decide) ?_
        refine g_iload_n dX7_doIt_99 rfl ?_
        refine g_iadd dX7_doIt_100 ?_
        refine g_topi (fun x39 ex39 => ?_)
        refine g_iload_n dX7_doIt_101 rfl ?_
        refine g_bipush (v := 10) dX7_doIt_102 (by decide) ?_
        refine g_icmp_lt (tgt := 134) dX7_doIt_104 (by decide) (fun c40 => ?_) (fun c40 => ?_)
        · refine g_aload_n dX7_doIt_134 rfl ?_
          refine f_X7_13 rfl rfl dX7_doIt_135 ?_
          refine g_bipush (v := 8) dX7_doIt_138 (by decide) ?_
          refine g_iload_n dX7_doIt_140 rfl ?_
          refine g_iadd dX7_doIt_141 ?_
          refine g_topi (fun x41 ex41 => ?_)
          have v42 : vp_in x41 51 := uk_vin 51 rfl (by first | decide | lia | grind) (by first | decide | lia | grind)
          refine g_iald rfl rfl v42 dX7_doIt_142 ?_
          refine g_topi (fun x43 ex43 => ?_)
          have bx43 := uk_cl v42
          have px43 : x43 = ((upd ((upd ((upd (u.1 62) (x4 : Int32).toNatClampNeg x7)) (x16 : Int32).toNatClampNeg x19)) (x28 : Int32).toNatClampNeg x32)) (x41 : Int32).toNatClampNeg := ex43.trans (congrFun C36 _)
          have v44 : vp_in x39 51 := uk_vin 51 rfl (by first | decide | lia | grind) (by first | decide | lia | grind)
          have b45 := uk_cl v44
          refine g_iast rfl rfl v44 dX7_doIt_143 ?_
          refine g_mem (fun u46 eu46 => ?_)
          have hu46 : iv u46 := by rw [eu46]; exact iv_st hu35 (by unfold uk_is51; decide) (by first | decide | lia | grind) (by first | decide | lia | grind) (fun q => by first | decide | lia | grind) (fun q => by first | decide | lia | grind) (fun q => by first | decide | lia | grind)
          have fu46 : fk [62] [] u u46 := by rw [eu46]; exact fk_up fu35 (by decide) (fun q => absurd q (by decide))
          have rau46 : ra u46 := by rw [eu46]; exact ra_at rau35 (by first | decide | lia | grind) (by first | decide | lia | grind)
          have C47 : u46.1 62 = (upd ((upd ((upd ((upd (u.1 62) (x4 : Int32).toNatClampNeg x7)) (x16 : Int32).toNatClampNeg x19)) (x28 : Int32).toNatClampNeg x32)) (x39 : Int32).toNatClampNeg x43) := by rw [eu46, uk_up_self, C36]
          have C48 : u46.1 64 = u.1 64 := by rw [eu46]; exact (uk_up_oc (by decide)).trans C37
          have C49 : u46.1 65 = u.1 65 := by rw [eu46]; exact (uk_up_oc (by decide)).trans C38
          refine g_aload_n dX7_doIt_144 rfl ?_
          refine f_X7_13 rfl rfl dX7_doIt_145 ?_
          refine g_bipush (v := 41) dX7_doIt_148 (by decide) ?_
          refine g_dup2 dX7_doIt_150 rfl rfl ?_
          have v50 : vp_in 41 51 := uk_vin 51 rfl (by first | decide | lia | grind) (by first | decide | lia | grind)
          refine g_iald rfl rfl v50 dX7_doIt_151 ?_
          refine g_topi (fun x51 ex51 => ?_)
          have bx51 := uk_cl v50
          have px51 : x51 = ((upd ((upd ((upd ((upd (u.1 62) (x4 : Int32).toNatClampNeg x7)) (x16 : Int32).toNatClampNeg x19)) (x28 : Int32).toNatClampNeg x32)) (x39 : Int32).toNatClampNeg x43)) (41 : Int32).toNatClampNeg := ex51.trans (congrFun C47 _)
          refine g_iconst (v := 1) dX7_doIt_152 (by decide) ?_
          refine g_iadd dX7_doIt_153 ?_
          refine g_topi (fun x52 ex52 => ?_)
          have v53 : vp_in 41 51 := uk_vin 51 rfl (by first | decide | lia | grind) (by first | decide | lia | grind)
          have b54 := uk_cl v53
          refine g_iast rfl rfl v53 dX7_doIt_154 ?_
          refine g_mem (fun u55 eu55 => ?_)
          have hu55 : iv u55 := by rw [eu55]; exact iv_st hu46 (by unfold uk_is51; decide) (by first | decide | lia | grind) (by first | decide | lia | grind) (fun q => by first | decide | lia | grind) (fun q => by first | decide | lia | grind) (fun q => by first | decide | lia | grind)
          have fu55 : fk [62] [] u u55 := by rw [eu55]; exact fk_up fu46 (by decide) (fun q => absurd q (by decide))
          have rau55 : ra u55 := by rw [eu55]; exact ra_at rau46 (by first | decide | lia | grind) (by first | decide | lia | grind)
          have C56 : u55.1 62 = (upd ((upd ((upd ((upd ((upd (u.1 62) (x4 : Int32).toNatClampNeg x7)) (x16 : Int32).toNatClampNeg x19)) (x28 : Int32).toNatClampNeg x32)) (x39 : Int32).toNatClampNeg x43)) (41 : Int32).toNatClampNeg x52) := by rw [eu55, uk_up_self, C47]
          have C57 : u55.1 64 = u.1 64 := by rw [eu55]; exact (uk_up_oc (by decide)).trans C48
          have C58 : u55.1 65 = u.1 65 := by rw [eu55]; exact (uk_up_oc (by decide)).trans C49
          exact g_vret dX7_doIt_155 rfl ⟨rfl, hu55, fu55, rau55⟩
        · exact absurd c40 (by lia)
    · exact absurd c3 (by lia)
abbrev q_X7_doIt_b (u : uk_Mem) (g : Int32) (r : Option Value) (u' : uk_Mem) : Prop := (r = none) ∧ (iv u' ∧ fk [62] [] u u' ∧ ra u')
set_option maxHeartbeats 4000000 in
set_option maxRecDepth 20000 in
theorem c_X7_doIt_b {G : uk_D} (hs : uk_Sep G) {u : uk_Mem} (hu : iv u) (hra : ra u) (g : Int32) (p0 : 10 ≤ g) (p1 : g ≤ 17) (p2 : 0 ≤ (u.1 64 ((g - 10)).toNatClampNeg)) (p3 : (u.1 64 ((g - 10)).toNatClampNeg) < (g - 10)) (p4 : 0 ≤ (u.1 65 ((g - 10)).toNatClampNeg)) (p5 : (u.1 65 ((g - 10)).toNatClampNeg) < (g - 10)) (p6 : 1 ≤ u.1 62 ((g - 10)).toNatClampNeg) (p7 : u.1 62 (u.1 64 ((g - 10)).toNatClampNeg).toNatClampNeg < 40) (p8 : ((u.1 62 (32 + (g - 10)).toNatClampNeg = 0 ∨ (u.1 62 (32 + (g - 10)).toNatClampNeg = 3 ∧ u.1 62 (8 + (g - 10)).toNatClampNeg = 1)) → (u.1 64 ((g - 10)).toNatClampNeg) = (u.1 65 ((g - 10)).toNatClampNeg) → u.1 62 (u.1 64 ((g - 10)).toNatClampNeg).toNatClampNeg + 2 ≤ 40)) (p9 : ((u.1 62 (32 + (g - 10)).toNatClampNeg = 0 ∨ (u.1 62 (32 + (g - 10)).toNatClampNeg = 3 ∧ u.1 62 (8 + (g - 10)).toNatClampNeg = 1)) → ¬ (u.1 64 ((g - 10)).toNatClampNeg) = (u.1 65 ((g - 10)).toNatClampNeg) → u.1 62 (u.1 65 ((g - 10)).toNatClampNeg).toNatClampNeg < 40)) (d : Nat) : uk_Meth G (d + 1) mX7_doIt [.ref (uk_ad G 60), .int g] u (q_X7_doIt_b u g) := by
  refine uk_Meth.of hs (by decide) (Nat.le_of_ble_eq_true rfl) (fun X => ?_)
  have f0 : fk [62] [] u u := fk_rf
  have C62 : u.1 62 = u.1 62 := rfl
  have C64 : u.1 64 = u.1 64 := rfl
  have C65 : u.1 65 = u.1 65 := rfl
  obtain ⟨pA, hpA⟩ : ∃ a, u.1 64 ((g - 10)).toNatClampNeg = a := ⟨_, rfl⟩
  obtain ⟨pB, hpB⟩ : ∃ a, u.1 65 ((g - 10)).toNatClampNeg = a := ⟨_, rfl⟩
  obtain ⟨cA, hcA⟩ : ∃ a, u.1 62 pA.toNatClampNeg = a := ⟨_, rfl⟩
  obtain ⟨cB, hcB⟩ : ∃ a, u.1 62 pB.toNatClampNeg = a := ⟨_, rfl⟩
  obtain ⟨cM, hcM⟩ : ∃ a, u.1 62 ((g - 10)).toNatClampNeg = a := ⟨_, rfl⟩
  simp only [hpA, hpB, hcA, hcB, hcM] at p2 p3 p4 p5 p6 p7 p8 p9
  have rA := sg_0 hu (c := 62) (by unfold uk_is51; decide) (i := pA) (by lia) (by lia)
  rw [hcA] at rA
  have rB := sg_0 hu (c := 62) (by unfold uk_is51; decide) (i := pB) (by lia) (by lia)
  rw [hcB] at rB
  have rM := sg_0 hu (c := 62) (by unfold uk_is51; decide) (i := (g - 10)) (by lia) (by lia)
  rw [hcM] at rM
  have hAB : pA = pB → cA = cB := fun q => by rw [← hcA, ← hcB, q]
  refine g_iload_n dX7_doIt_0 rfl ?_
  refine g_bipush (v := 10) dX7_doIt_1 (by decide) ?_
  refine g_irem dX7_doIt_3 (by first | decide | lia | grind) ?_
  refine g_topi (fun x1 ex1 => ?_)
  have nx1 : x1 = (g - 10) := (uk_r10 ex1).2 (by lia) (by lia); clear ex1
  refine g_istore_n dX7_doIt_4 (by decide) ?_
  refine g_iload_n dX7_doIt_5 rfl ?_
  refine g_bipush (v := 10) dX7_doIt_6 (by decide) ?_
  refine g_icmp_ge (tgt := 15) dX7_doIt_8 (by decide) (fun c2 => ?_) (fun c2 => ?_)
  · refine g_iconst (v := 1) dX7_doIt_15 (by decide) ?_
    refine g_istore_n dX7_doIt_16 (by decide) ?_
    refine g_iload_n dX7_doIt_17 rfl ?_
    refine g_bipush (v := 10) dX7_doIt_18 (by decide) ?_
    refine g_icmp_lt (tgt := 31) dX7_doIt_20 (by decide) (fun c3 => ?_) (fun c3 => ?_)
    · exact absurd c3 (by lia)
    · refine g_aload_n dX7_doIt_23 rfl ?_
      refine g_iload_n dX7_doIt_24 rfl ?_
      refine cl_X7_153 (c := 60) (As := [.int x1]) rfl (c_X7_givesSecond (G := G) hs hu  x1 (by first | trivial | decide | lia | grind) (by first | trivial | decide | lia | grind) (d)) rfl (by omega) rfl rfl (Nat.le_of_ble_eq_true rfl) dX7_doIt_25 (fun r4 u5 q6 => ?_)
      obtain ⟨⟨x7, rfl, tx7, nx7, zx7⟩, mq6⟩ := q6
      rw [mq6]
      refine g_if_eq (tgt := 35) dX7_doIt_28 (by decide) (fun c8 => ?_) (fun c8 => ?_)
      · have zc8 := zx7 c8
        refine g_iconst (v := 0) dX7_doIt_35 (by decide) ?_
        refine g_istore dX7_doIt_36 (by decide) ?_
        refine g_aload_n dX7_doIt_38 rfl ?_
        refine f_X7_13 rfl rfl dX7_doIt_39 ?_
        refine g_iconst (v := 0) dX7_doIt_42 (by decide) ?_
        refine g_iload_n dX7_doIt_43 rfl ?_
        refine g_iadd dX7_doIt_44 ?_
        refine g_topi (fun x9 ex9 => ?_)
        have ox9 : x9 = x1 := by rw [ex9, Int32.zero_add]
        refine g_dup2 dX7_doIt_45 rfl rfl ?_
        have v10 : vp_in x9 51 := uk_vin 51 rfl (by first | decide | lia | grind) (by first | decide | lia | grind)
        refine g_iald rfl rfl v10 dX7_doIt_46 ?_
        refine g_topi (fun x11 ex11 => ?_)
        have bx11 := uk_cl v10
        have rx11 : 0 ≤ x11 ∧ x11 ≤ 40 := by rw [ex11]; exact sg_0 hu (by unfold uk_is51; decide) (by first | lia | grind) (by first | lia | grind)
        have px11 : x11 = (u.1 62) (x9 : Int32).toNatClampNeg := ex11.trans (congrFun C62 _)
        have yx11 : x11 = cM := by rw [px11, show (x9 : Int32) = (g - 10) by lia]; exact hcM
        refine g_iload_n dX7_doIt_47 rfl ?_
        refine g_isub dX7_doIt_48 ?_
        refine g_topi (fun x12 ex12 => ?_)
        have v13 : vp_in x9 51 := uk_vin 51 rfl (by first | decide | lia | grind) (by first | decide | lia | grind)
        have b14 := uk_cl v13
        refine g_iast rfl rfl v13 dX7_doIt_49 ?_
        refine g_mem (fun u15 eu15 => ?_)
        have hu15 : iv u15 := by rw [eu15]; exact iv_st hu (by unfold uk_is51; decide) (by lia) (by lia) (fun _ => dl_2 ex12 yx11 p6 rM.2) (fun q => absurd q (by lia)) (fun q => absurd q (by lia))
        have fu15 : fk [62] [] u u15 := by rw [eu15]; exact fk_up f0 (by decide) (fun q => absurd q (by decide))
        have rau15 : ra u15 := by rw [eu15]; exact ra_at hra (by first | decide | lia | grind) (by first | decide | lia | grind)
        have C16 : u15.1 62 = (upd (u.1 62) (x9 : Int32).toNatClampNeg x12) := by rw [eu15, uk_up_self, C62]
        have C17 : u15.1 64 = u.1 64 := by rw [eu15]; exact (uk_up_oc (by decide)).trans C64
        have C18 : u15.1 65 = u.1 65 := by rw [eu15]; exact (uk_up_oc (by decide)).trans C65
        refine g_aload_n dX7_doIt_50 rfl ?_
        refine f_X7_13 rfl rfl dX7_doIt_51 ?_
        refine g_iconst (v := 0) dX7_doIt_54 (by decide) ?_
        refine g_aload_n dX7_doIt_55 rfl ?_
        refine f_X7_20 rfl rfl dX7_doIt_56 ?_
        refine g_iload_n dX7_doIt_59 rfl ?_
        have v19 : vp_in x1 8 := uk_vin 8 rfl (by first | decide | lia | grind) (by first | decide | lia | grind)
        refine g_iald rfl rfl v19 dX7_doIt_60 ?_
        refine g_topi (fun x20 ex20 => ?_)
        have bx20 := uk_cl v19
        have rx20 : (-4) ≤ x20 ∧ x20 ≤ 7 := by rw [ex20]; exact iv_at hu15 _ _ (uk_pick1 _ (by omega))
        have px20 : x20 = (u.1 64) (x1 : Int32).toNatClampNeg := ex20.trans (congrFun C17 _)
        have yx20 : x20 = pA := by rw [px20, show (x1 : Int32) = (g - 10) by lia]; exact hpA
        refine g_iadd dX7_doIt_61 ?_
        refine g_topi (fun x21 ex21 => ?_)
        have ox21 : x21 = x20 := by rw [ex21, Int32.zero_add]
        refine g_dup2 dX7_doIt_62 rfl rfl ?_
        have v22 : vp_in x21 51 := uk_vin 51 rfl (by first | decide | lia | grind) (by first | decide | lia | grind)
        refine g_iald rfl rfl v22 dX7_doIt_63 ?_
        refine g_topi (fun x23 ex23 => ?_)
        have bx23 := uk_cl v22
        have rx23 : 0 ≤ x23 ∧ x23 ≤ 40 := by rw [ex23]; exact sg_0 hu15 (by unfold uk_is51; decide) (by first | lia | grind) (by first | lia | grind)
        have px23 : x23 = ((upd (u.1 62) (x9 : Int32).toNatClampNeg x12)) (x21 : Int32).toNatClampNeg := ex23.trans (congrFun C16 _)
        have lx23 : x23 = u.1 62 (x21 : Int32).toNatClampNeg := by rw [px23]; exact upd_ne (by lia) (by lia) (by lia)
        have yx23 : x23 = cA := by rw [lx23, show (x21 : Int32) = pA by lia]; exact hcA
        refine g_iload_n dX7_doIt_64 rfl ?_
        refine g_iadd dX7_doIt_65 ?_
        refine g_topi (fun x24 ex24 => ?_)
        have v25 : vp_in x21 51 := uk_vin 51 rfl (by first | decide | lia | grind) (by first | decide | lia | grind)
        have b26 := uk_cl v25
        refine g_iast rfl rfl v25 dX7_doIt_66 ?_
        refine g_mem (fun u27 eu27 => ?_)
        have hu27 : iv u27 := by rw [eu27]; exact iv_st hu15 (by unfold uk_is51; decide) (by lia) (by lia) (fun _ => dl_4 ex24 yx23 rA.1 p7) (fun q => absurd q (by lia)) (fun q => absurd q (by lia))
        have fu27 : fk [62] [] u u27 := by rw [eu27]; exact fk_up fu15 (by decide) (fun q => absurd q (by decide))
        have rau27 : ra u27 := by rw [eu27]; exact ra_at rau15 (by first | decide | lia | grind) (by first | decide | lia | grind)
        have C28 : u27.1 62 = (upd ((upd (u.1 62) (x9 : Int32).toNatClampNeg x12)) (x21 : Int32).toNatClampNeg x24) := by rw [eu27, uk_up_self, C16]
        have C29 : u27.1 64 = u.1 64 := by rw [eu27]; exact (uk_up_oc (by decide)).trans C17
        have C30 : u27.1 65 = u.1 65 := by rw [eu27]; exact (uk_up_oc (by decide)).trans C18
        refine g_aload_n dX7_doIt_67 rfl ?_
        refine f_X7_13 rfl rfl dX7_doIt_68 ?_
        refine g_iconst (v := 0) dX7_doIt_71 (by decide) ?_
        refine g_aload_n dX7_doIt_72 rfl ?_
        refine f_X7_23 rfl rfl dX7_doIt_73 ?_
        refine g_iload_n dX7_doIt_76 rfl ?_
        have v31 : vp_in x1 8 := uk_vin 8 rfl (by first | decide | lia | grind) (by first | decide | lia | grind)
        refine g_iald rfl rfl v31 dX7_doIt_77 ?_
        refine g_topi (fun x32 ex32 => ?_)
        have bx32 := uk_cl v31
        have rx32 : (-4) ≤ x32 ∧ x32 ≤ 7 := by rw [ex32]; exact iv_at hu27 _ _ (uk_pick1 _ (by omega))
        have px32 : x32 = (u.1 65) (x1 : Int32).toNatClampNeg := ex32.trans (congrFun C30 _)
        have yx32 : x32 = pB := by rw [px32, show (x1 : Int32) = (g - 10) by lia]; exact hpB
        refine g_iadd dX7_doIt_78 ?_
        refine g_topi (fun x33 ex33 => ?_)
        have ox33 : x33 = x32 := by rw [ex33, Int32.zero_add]
        refine g_dup2 dX7_doIt_79 rfl rfl ?_
        have v34 : vp_in x33 51 := uk_vin 51 rfl (by first | decide | lia | grind) (by first | decide | lia | grind)
        refine g_iald rfl rfl v34 dX7_doIt_80 ?_
        refine g_topi (fun x35 ex35 => ?_)
        have bx35 := uk_cl v34
        have rx35 : 0 ≤ x35 ∧ x35 ≤ 40 := by rw [ex35]; exact sg_0 hu27 (by unfold uk_is51; decide) (by first | lia | grind) (by first | lia | grind)
        have px35 : x35 = ((upd ((upd (u.1 62) (x9 : Int32).toNatClampNeg x12)) (x21 : Int32).toNatClampNeg x24)) (x33 : Int32).toNatClampNeg := ex35.trans (congrFun C28 _)
        have lx35 : (x33 = x21 → x35 = x24) ∧ (¬ x33 = x21 → x35 = u.1 62 (x33 : Int32).toNatClampNeg) := ⟨fun q => by rw [px35]; exact upd_at q, fun q => by rw [px35, upd_ne (by lia) (by lia) q]; exact upd_ne (by lia) (by lia) (by lia)⟩
        have yx35 : (pB = pA → x35 = x24) ∧ (¬ pB = pA → x35 = cB) := ⟨fun q => lx35.1 (by lia), fun q => by rw [lx35.2 (by lia), show (x33 : Int32) = pB by lia]; exact hcB⟩
        refine g_iload dX7_doIt_81 rfl ?_
        refine g_if_eq (tgt := 90) dX7_doIt_83 (by decide) (fun c36 => ?_) (fun c36 => ?_)
        · refine g_iconst (v := 0) dX7_doIt_90 (by decide) ?_
          refine g_iadd dX7_doIt_91 ?_
          refine g_topi (fun x37 ex37 => ?_)
          have v38 : vp_in x33 51 := uk_vin 51 rfl (by first | decide | lia | grind) (by first | decide | lia | grind)
          have b39 := uk_cl v38
          refine g_iast rfl rfl v38 dX7_doIt_92 ?_
          refine g_mem (fun u40 eu40 => ?_)
          have hu40 : iv u40 := by rw [eu40]; exact iv_st hu27 (by unfold uk_is51; decide) (by lia) (by lia) (fun _ => dl_7 ex37 yx35 ex24 yx23 ⟨rA.1, p7⟩ rB) (fun q => absurd q (by lia)) (fun q => absurd q (by lia))
          have fu40 : fk [62] [] u u40 := by rw [eu40]; exact fk_up fu27 (by decide) (fun q => absurd q (by decide))
          have rau40 : ra u40 := by rw [eu40]; exact ra_at rau27 (by first | decide | lia | grind) (by first | decide | lia | grind)
          have C41 : u40.1 62 = (upd ((upd ((upd (u.1 62) (x9 : Int32).toNatClampNeg x12)) (x21 : Int32).toNatClampNeg x24)) (x33 : Int32).toNatClampNeg x37) := by rw [eu40, uk_up_self, C28]
          have C42 : u40.1 64 = u.1 64 := by rw [eu40]; exact (uk_up_oc (by decide)).trans C29
          have C43 : u40.1 65 = u.1 65 := by rw [eu40]; exact (uk_up_oc (by decide)).trans C30
          refine g_aload_n dX7_doIt_93 rfl ?_
          refine f_X7_13 rfl rfl dX7_doIt_94 ?_
          refine g_bipush (v := 8) dX7_doIt_97 (by decide) ?_
          refine g_iload_n dX7_doIt_99 rfl ?_
          refine g_iadd dX7_doIt_100 ?_
          refine g_topi (fun x44 ex44 => ?_)
          refine g_iload_n dX7_doIt_101 rfl ?_
          refine g_bipush (v := 10) dX7_doIt_102 (by decide) ?_
          refine g_icmp_lt (tgt := 134) dX7_doIt_104 (by decide) (fun c45 => ?_) (fun c45 => ?_)
          · exact absurd c45 (by lia)
          · refine g_aload_n dX7_doIt_107 rfl ?_
            refine f_X7_13 rfl rfl dX7_doIt_108 ?_
            refine g_bipush (v := 32) dX7_doIt_111 (by decide) ?_
            refine g_iload_n dX7_doIt_113 rfl ?_
            refine g_iadd dX7_doIt_114 ?_
            refine g_topi (fun x46 ex46 => ?_)
            have v47 : vp_in x46 51 := uk_vin 51 rfl (by first | decide | lia | grind) (by first | decide | lia | grind)
            refine g_iald rfl rfl v47 dX7_doIt_115 ?_
            refine g_topi (fun x48 ex48 => ?_)
            have bx48 := uk_cl v47
            have px48 : x48 = ((upd ((upd ((upd (u.1 62) (x9 : Int32).toNatClampNeg x12)) (x21 : Int32).toNatClampNeg x24)) (x33 : Int32).toNatClampNeg x37)) (x46 : Int32).toNatClampNeg := ex48.trans (congrFun C41 _)
            refine g_iconst (v := 3) dX7_doIt_116 (by decide) ?_
            refine g_icmp_ne (tgt := 134) dX7_doIt_117 (by decide) (fun c49 => ?_) (fun c49 => ?_)
            · refine g_aload_n dX7_doIt_134 rfl ?_
              refine f_X7_13 rfl rfl dX7_doIt_135 ?_
              refine g_bipush (v := 8) dX7_doIt_138 (by decide) ?_
              refine g_iload_n dX7_doIt_140 rfl ?_
              refine g_iadd dX7_doIt_141 ?_
              refine g_topi (fun x50 ex50 => ?_)
              have v51 : vp_in x50 51 := uk_vin 51 rfl (by first | decide | lia | grind) (by first | decide | lia | grind)
              refine g_iald rfl rfl v51 dX7_doIt_142 ?_
              refine g_topi (fun x52 ex52 => ?_)
              have bx52 := uk_cl v51
              have px52 : x52 = ((upd ((upd ((upd (u.1 62) (x9 : Int32).toNatClampNeg x12)) (x21 : Int32).toNatClampNeg x24)) (x33 : Int32).toNatClampNeg x37)) (x50 : Int32).toNatClampNeg := ex52.trans (congrFun C41 _)
              have v53 : vp_in x44 51 := uk_vin 51 rfl (by first | decide | lia | grind) (by first | decide | lia | grind)
              have b54 := uk_cl v53
              refine g_iast rfl rfl v53 dX7_doIt_143 ?_
              refine g_mem (fun u55 eu55 => ?_)
              have hu55 : iv u55 := by rw [eu55]; exact iv_st hu40 (by unfold uk_is51; decide) (by first | decide | lia | grind) (by first | decide | lia | grind) (fun q => by first | decide | lia | grind) (fun q => by first | decide | lia | grind) (fun q => by first | decide | lia | grind)
              have fu55 : fk [62] [] u u55 := by rw [eu55]; exact fk_up fu40 (by decide) (fun q => absurd q (by decide))
              have rau55 : ra u55 := by rw [eu55]; exact ra_at rau40 (by first | decide | lia | grind) (by first | decide | lia | grind)
              have C56 : u55.1 62 = (upd ((upd ((upd ((upd (u.1 62) (x9 : Int32).toNatClampNeg x12)) (x21 : Int32).toNatClampNeg x24)) (x33 : Int32).toNatClampNeg x37)) (x44 : Int32).toNatClampNeg x52) := by rw [eu55, uk_up_self, C41]
              have C57 : u55.1 64 = u.1 64 := by rw [eu55]; exact (uk_up_oc (by decide)).trans C42
              have C58 : u55.1 65 = u.1 65 := by rw [eu55]; exact (uk_up_oc (by decide)).trans C43
              refine g_aload_n dX7_doIt_144 rfl ?_
              refine f_X7_13 rfl rfl dX7_doIt_145 ?_
              refine g_bipush (v := 41) dX7_doIt_148 (by decide) ?_
              refine g_dup2 dX7_doIt_150 rfl rfl ?_
              have v59 : vp_in 41 51 := uk_vin 51 rfl (by first | decide | lia | grind) (by first | decide | lia | grind)
              refine g_iald rfl rfl v59 dX7_doIt_151 ?_
              refine g_topi (fun x60 ex60 => ?_)
              have bx60 := uk_cl v59
              have px60 : x60 = ((upd ((upd ((upd ((upd (u.1 62) (x9 : Int32).toNatClampNeg x12)) (x21 : Int32).toNatClampNeg x24)) (x33 : Int32).toNatClampNeg x37)) (x44 : Int32).toNatClampNeg x52)) (41 : Int32).toNatClampNeg := ex60.trans (congrFun C56 _)
              refine g_iconst (v := 1) dX7_doIt_152 (by decide) ?_
              refine g_iadd dX7_doIt_153 ?_
              refine g_topi (fun x61 ex61 => ?_)
              have v62 : vp_in 41 51 := uk_vin 51 rfl (by first | decide | lia | grind) (by first | decide | lia | grind)
              have b63 := uk_cl v62
              refine g_iast rfl rfl v62 dX7_doIt_154 ?_
              refine g_mem (fun u64 eu64 => ?_)
              have hu64 : iv u64 := by rw [eu64]; exact iv_st hu55 (by unfold uk_is51; decide) (by first | decide | lia | grind) (by first | decide | lia | grind) (fun q => by first | decide | lia | grind) (fun q => by first | decide | lia | grind) (fun q => by first | decide | lia | grind)
              have fu64 : fk [62] [] u u64 := by rw [eu64]; exact fk_up fu55 (by decide) (fun q => absurd q (by decide))
              have rau64 : ra u64 := by rw [eu64]; exact ra_at rau55 (by first | decide | lia | grind) (by first | decide | lia | grind)
              have C65 : u64.1 62 = (upd ((upd ((upd ((upd ((upd (u.1 62) (x9 : Int32).toNatClampNeg x12)) (x21 : Int32).toNatClampNeg x24)) (x33 : Int32).toNatClampNeg x37)) (x44 : Int32).toNatClampNeg x52)) (41 : Int32).toNatClampNeg x61) := by rw [eu64, uk_up_self, C56]
              have C66 : u64.1 64 = u.1 64 := by rw [eu64]; exact (uk_up_oc (by decide)).trans C57
              have C67 : u64.1 65 = u.1 65 := by rw [eu64]; exact (uk_up_oc (by decide)).trans C58
              exact g_vret dX7_doIt_155 rfl ⟨rfl, hu64, fu64, rau64⟩
            · refine g_iconst (v := 1) dX7_doIt_120 (by decide) ?_
              refine g_aload_n dX7_doIt_121 rfl ?_
              refine f_X7_13 rfl rfl dX7_doIt_122 ?_
              refine g_bipush (v := 8) dX7_doIt_125 (by decide) ?_
              refine g_iload_n dX7_doIt_127 rfl ?_
              refine g_iadd dX7_doIt_128 ?_
              refine g_topi (fun x68 ex68 => ?_)
              have v69 : vp_in x68 51 := uk_vin 51 rfl (by first | decide | lia | grind) (by first | decide | lia | grind)
              refine g_iald rfl rfl v69 dX7_doIt_129 ?_
              refine g_topi (fun x70 ex70 => ?_)
              have bx70 := uk_cl v69
              have px70 : x70 = ((upd ((upd ((upd (u.1 62) (x9 : Int32).toNatClampNeg x12)) (x21 : Int32).toNatClampNeg x24)) (x33 : Int32).toNatClampNeg x37)) (x68 : Int32).toNatClampNeg := ex70.trans (congrFun C41 _)
              refine g_isub dX7_doIt_130 ?_
              refine g_topi (fun x71 ex71 => ?_)
              refine g_goto (tgt := 143) dX7_doIt_131 (by decide) ?_
              have v72 : vp_in x44 51 := uk_vin 51 rfl (by first | decide | lia | grind) (by first | decide | lia | grind)
              have b73 := uk_cl v72
              refine g_iast rfl rfl v72 dX7_doIt_143 ?_
              refine g_mem (fun u74 eu74 => ?_)
              have hu74 : iv u74 := by rw [eu74]; exact iv_st hu40 (by unfold uk_is51; decide) (by first | decide | lia | grind) (by first | decide | lia | grind) (fun q => by first | decide | lia | grind) (fun q => by first | decide | lia | grind) (fun q => by first | decide | lia | grind)
              have fu74 : fk [62] [] u u74 := by rw [eu74]; exact fk_up fu40 (by decide) (fun q => absurd q (by decide))
              have rau74 : ra u74 := by rw [eu74]; exact ra_at rau40 (by first | decide | lia | grind) (by first | decide | lia | grind)
              have C75 : u74.1 62 = (upd ((upd ((upd ((upd (u.1 62) (x9 : Int32).toNatClampNeg x12)) (x21 : Int32).toNatClampNeg x24)) (x33 : Int32).toNatClampNeg x37)) (x44 : Int32).toNatClampNeg x71) := by rw [eu74, uk_up_self, C41]
              have C76 : u74.1 64 = u.1 64 := by rw [eu74]; exact (uk_up_oc (by decide)).trans C42
              have C77 : u74.1 65 = u.1 65 := by rw [eu74]; exact (uk_up_oc (by decide)).trans C43
              refine g_aload_n dX7_doIt_144 rfl ?_
              refine f_X7_13 rfl rfl dX7_doIt_145 ?_
              refine g_bipush (v := 41) dX7_doIt_148 (by decide) ?_
              refine g_dup2 dX7_doIt_150 rfl rfl ?_
              have v78 : vp_in 41 51 := uk_vin 51 rfl (by first | decide | lia | grind) (by first | decide | lia | grind)
              refine g_iald rfl rfl v78 dX7_doIt_151 ?_
              refine g_topi (fun x79 ex79 => ?_)
              have bx79 := uk_cl v78
              have px79 : x79 = ((upd ((upd ((upd ((upd (u.1 62) (x9 : Int32).toNatClampNeg x12)) (x21 : Int32).toNatClampNeg x24)) (x33 : Int32).toNatClampNeg x37)) (x44 : Int32).toNatClampNeg x71)) (41 : Int32).toNatClampNeg := ex79.trans (congrFun C75 _)
              refine g_iconst (v := 1) dX7_doIt_152 (by decide) ?_
              refine g_iadd dX7_doIt_153 ?_
              refine g_topi (fun x80 ex80 => ?_)
              have v81 : vp_in 41 51 := uk_vin 51 rfl (by first | decide | lia | grind) (by first | decide | lia | grind)
              have b82 := uk_cl v81
              refine g_iast rfl rfl v81 dX7_doIt_154 ?_
              refine g_mem (fun u83 eu83 => ?_)
              have hu83 : iv u83 := by rw [eu83]; exact iv_st hu74 (by unfold uk_is51; decide) (by first | decide | lia | grind) (by first | decide | lia | grind) (fun q => by first | decide | lia | grind) (fun q => by first | decide | lia | grind) (fun q => by first | decide | lia | grind)
              have fu83 : fk [62] [] u u83 := by rw [eu83]; exact fk_up fu74 (by decide) (fun q => absurd q (by decide))
              have rau83 : ra u83 := by rw [eu83]; exact ra_at rau74 (by first | decide | lia | grind) (by first | decide | lia | grind)
              have C84 : u83.1 62 = (upd ((upd ((upd ((upd ((upd (u.1 62) (x9 : Int32).toNatClampNeg x12)) (x21 : Int32).toNatClampNeg x24)) (x33 : Int32).toNatClampNeg x37)) (x44 : Int32).toNatClampNeg x71)) (41 : Int32).toNatClampNeg x80) := by rw [eu83, uk_up_self, C75]
              have C85 : u83.1 64 = u.1 64 := by rw [eu83]; exact (uk_up_oc (by decide)).trans C76
              have C86 : u83.1 65 = u.1 65 := by rw [eu83]; exact (uk_up_oc (by decide)).trans C77
              exact g_vret dX7_doIt_155 rfl ⟨rfl, hu83, fu83, rau83⟩
        · exact absurd c36 (by decide)
      · have zc8 := nx7 c8
        refine g_iconst (v := 1) dX7_doIt_31 (by decide) ?_
        refine g_goto (tgt := 36) dX7_doIt_32 (by decide) ?_
        refine g_istore dX7_doIt_36 (by decide) ?_
        refine g_aload_n dX7_doIt_38 rfl ?_
        refine f_X7_13 rfl rfl dX7_doIt_39 ?_
        refine g_iconst (v := 0) dX7_doIt_42 (by decide) ?_
        refine g_iload_n dX7_doIt_43 rfl ?_
        refine g_iadd dX7_doIt_44 ?_
        refine g_topi (fun x87 ex87 => ?_)
        have ox87 : x87 = x1 := by rw [ex87, Int32.zero_add]
        refine g_dup2 dX7_doIt_45 rfl rfl ?_
        have v88 : vp_in x87 51 := uk_vin 51 rfl (by first | decide | lia | grind) (by first | decide | lia | grind)
        refine g_iald rfl rfl v88 dX7_doIt_46 ?_
        refine g_topi (fun x89 ex89 => ?_)
        have bx89 := uk_cl v88
        have rx89 : 0 ≤ x89 ∧ x89 ≤ 40 := by rw [ex89]; exact sg_0 hu (by unfold uk_is51; decide) (by first | lia | grind) (by first | lia | grind)
        have px89 : x89 = (u.1 62) (x87 : Int32).toNatClampNeg := ex89.trans (congrFun C62 _)
        have yx89 : x89 = cM := by rw [px89, show (x87 : Int32) = (g - 10) by lia]; exact hcM
        refine g_iload_n dX7_doIt_47 rfl ?_
        refine g_isub dX7_doIt_48 ?_
        refine g_topi (fun x90 ex90 => ?_)
        have v91 : vp_in x87 51 := uk_vin 51 rfl (by first | decide | lia | grind) (by first | decide | lia | grind)
        have b92 := uk_cl v91
        refine g_iast rfl rfl v91 dX7_doIt_49 ?_
        refine g_mem (fun u93 eu93 => ?_)
        have hu93 : iv u93 := by rw [eu93]; exact iv_st hu (by unfold uk_is51; decide) (by lia) (by lia) (fun _ => dl_2 ex90 yx89 p6 rM.2) (fun q => absurd q (by lia)) (fun q => absurd q (by lia))
        have fu93 : fk [62] [] u u93 := by rw [eu93]; exact fk_up f0 (by decide) (fun q => absurd q (by decide))
        have rau93 : ra u93 := by rw [eu93]; exact ra_at hra (by first | decide | lia | grind) (by first | decide | lia | grind)
        have C94 : u93.1 62 = (upd (u.1 62) (x87 : Int32).toNatClampNeg x90) := by rw [eu93, uk_up_self, C62]
        have C95 : u93.1 64 = u.1 64 := by rw [eu93]; exact (uk_up_oc (by decide)).trans C64
        have C96 : u93.1 65 = u.1 65 := by rw [eu93]; exact (uk_up_oc (by decide)).trans C65
        refine g_aload_n dX7_doIt_50 rfl ?_
        refine f_X7_13 rfl rfl dX7_doIt_51 ?_
        refine g_iconst (v := 0) dX7_doIt_54 (by decide) ?_
        refine g_aload_n dX7_doIt_55 rfl ?_
        refine f_X7_20 rfl rfl dX7_doIt_56 ?_
        refine g_iload_n dX7_doIt_59 rfl ?_
        have v97 : vp_in x1 8 := uk_vin 8 rfl (by first | decide | lia | grind) (by first | decide | lia | grind)
        refine g_iald rfl rfl v97 dX7_doIt_60 ?_
        refine g_topi (fun x98 ex98 => ?_)
        have bx98 := uk_cl v97
        have rx98 : (-4) ≤ x98 ∧ x98 ≤ 7 := by rw [ex98]; exact iv_at hu93 _ _ (uk_pick1 _ (by omega))
        have px98 : x98 = (u.1 64) (x1 : Int32).toNatClampNeg := ex98.trans (congrFun C95 _)
        have yx98 : x98 = pA := by rw [px98, show (x1 : Int32) = (g - 10) by lia]; exact hpA
        refine g_iadd dX7_doIt_61 ?_
        refine g_topi (fun x99 ex99 => ?_)
        have ox99 : x99 = x98 := by rw [ex99, Int32.zero_add]
        refine g_dup2 dX7_doIt_62 rfl rfl ?_
        have v100 : vp_in x99 51 := uk_vin 51 rfl (by first | decide | lia | grind) (by first | decide | lia | grind)
        refine g_iald rfl rfl v100 dX7_doIt_63 ?_
        refine g_topi (fun x101 ex101 => ?_)
        have bx101 := uk_cl v100
        have rx101 : 0 ≤ x101 ∧ x101 ≤ 40 := by rw [ex101]; exact sg_0 hu93 (by unfold uk_is51; decide) (by first | lia | grind) (by first | lia | grind)
        have px101 : x101 = ((upd (u.1 62) (x87 : Int32).toNatClampNeg x90)) (x99 : Int32).toNatClampNeg := ex101.trans (congrFun C94 _)
        have lx101 : x101 = u.1 62 (x99 : Int32).toNatClampNeg := by rw [px101]; exact upd_ne (by lia) (by lia) (by lia)
        have yx101 : x101 = cA := by rw [lx101, show (x99 : Int32) = pA by lia]; exact hcA
        refine g_iload_n dX7_doIt_64 rfl ?_
        refine g_iadd dX7_doIt_65 ?_
        refine g_topi (fun x102 ex102 => ?_)
        have v103 : vp_in x99 51 := uk_vin 51 rfl (by first | decide | lia | grind) (by first | decide | lia | grind)
        have b104 := uk_cl v103
        refine g_iast rfl rfl v103 dX7_doIt_66 ?_
        refine g_mem (fun u105 eu105 => ?_)
        have hu105 : iv u105 := by rw [eu105]; exact iv_st hu93 (by unfold uk_is51; decide) (by lia) (by lia) (fun _ => dl_4 ex102 yx101 rA.1 p7) (fun q => absurd q (by lia)) (fun q => absurd q (by lia))
        have fu105 : fk [62] [] u u105 := by rw [eu105]; exact fk_up fu93 (by decide) (fun q => absurd q (by decide))
        have rau105 : ra u105 := by rw [eu105]; exact ra_at rau93 (by first | decide | lia | grind) (by first | decide | lia | grind)
        have C106 : u105.1 62 = (upd ((upd (u.1 62) (x87 : Int32).toNatClampNeg x90)) (x99 : Int32).toNatClampNeg x102) := by rw [eu105, uk_up_self, C94]
        have C107 : u105.1 64 = u.1 64 := by rw [eu105]; exact (uk_up_oc (by decide)).trans C95
        have C108 : u105.1 65 = u.1 65 := by rw [eu105]; exact (uk_up_oc (by decide)).trans C96
        refine g_aload_n dX7_doIt_67 rfl ?_
        refine f_X7_13 rfl rfl dX7_doIt_68 ?_
        refine g_iconst (v := 0) dX7_doIt_71 (by decide) ?_
        refine g_aload_n dX7_doIt_72 rfl ?_
        refine f_X7_23 rfl rfl dX7_doIt_73 ?_
        refine g_iload_n dX7_doIt_76 rfl ?_
        have v109 : vp_in x1 8 := uk_vin 8 rfl (by first | decide | lia | grind) (by first | decide | lia | grind)
        refine g_iald rfl rfl v109 dX7_doIt_77 ?_
        refine g_topi (fun x110 ex110 => ?_)
        have bx110 := uk_cl v109
        have rx110 : (-4) ≤ x110 ∧ x110 ≤ 7 := by rw [ex110]; exact iv_at hu105 _ _ (uk_pick1 _ (by omega))
        have px110 : x110 = (u.1 65) (x1 : Int32).toNatClampNeg := ex110.trans (congrFun C108 _)
        have yx110 : x110 = pB := by rw [px110, show (x1 : Int32) = (g - 10) by lia]; exact hpB
        refine g_iadd dX7_doIt_78 ?_
        refine g_topi (fun x111 ex111 => ?_)
        have ox111 : x111 = x110 := by rw [ex111, Int32.zero_add]
        refine g_dup2 dX7_doIt_79 rfl rfl ?_
        have v112 : vp_in x111 51 := uk_vin 51 rfl (by first | decide | lia | grind) (by first | decide | lia | grind)
        refine g_iald rfl rfl v112 dX7_doIt_80 ?_
        refine g_topi (fun x113 ex113 => ?_)
        have bx113 := uk_cl v112
        have rx113 : 0 ≤ x113 ∧ x113 ≤ 40 := by rw [ex113]; exact sg_0 hu105 (by unfold uk_is51; decide) (by first | lia | grind) (by first | lia | grind)
        have px113 : x113 = ((upd ((upd (u.1 62) (x87 : Int32).toNatClampNeg x90)) (x99 : Int32).toNatClampNeg x102)) (x111 : Int32).toNatClampNeg := ex113.trans (congrFun C106 _)
        have lx113 : (x111 = x99 → x113 = x102) ∧ (¬ x111 = x99 → x113 = u.1 62 (x111 : Int32).toNatClampNeg) := ⟨fun q => by rw [px113]; exact upd_at q, fun q => by rw [px113, upd_ne (by lia) (by lia) q]; exact upd_ne (by lia) (by lia) (by lia)⟩
        have yx113 : (pB = pA → x113 = x102) ∧ (¬ pB = pA → x113 = cB) := ⟨fun q => lx113.1 (by lia), fun q => by rw [lx113.2 (by lia), show (x111 : Int32) = pB by lia]; exact hcB⟩
        refine g_iload dX7_doIt_81 rfl ?_
        refine g_if_eq (tgt := 90) dX7_doIt_83 (by decide) (fun c114 => ?_) (fun c114 => ?_)
        · exact absurd c114 (by decide)
        · refine g_iload_n dX7_doIt_86 rfl ?_
          refine g_goto (tgt := 91) dX7_doIt_87 (by decide) ?_
          refine g_iadd dX7_doIt_91 ?_
          refine g_topi (fun x115 ex115 => ?_)
          have v116 : vp_in x111 51 := uk_vin 51 rfl (by first | decide | lia | grind) (by first | decide | lia | grind)
          have b117 := uk_cl v116
          refine g_iast rfl rfl v116 dX7_doIt_92 ?_
          refine g_mem (fun u118 eu118 => ?_)
          have hu118 : iv u118 := by rw [eu118]; exact iv_st hu105 (by unfold uk_is51; decide) (by lia) (by lia) (fun _ => dl_6 ex115 yx113 ex102 yx101 (p8 (by rw [← nx1]; assumption)) (p9 (by rw [← nx1]; assumption)) ⟨rA.1, p7⟩ rB.1) (fun q => absurd q (by lia)) (fun q => absurd q (by lia))
          have fu118 : fk [62] [] u u118 := by rw [eu118]; exact fk_up fu105 (by decide) (fun q => absurd q (by decide))
          have rau118 : ra u118 := by rw [eu118]; exact ra_at rau105 (by first | decide | lia | grind) (by first | decide | lia | grind)
          have C119 : u118.1 62 = (upd ((upd ((upd (u.1 62) (x87 : Int32).toNatClampNeg x90)) (x99 : Int32).toNatClampNeg x102)) (x111 : Int32).toNatClampNeg x115) := by rw [eu118, uk_up_self, C106]
          have C120 : u118.1 64 = u.1 64 := by rw [eu118]; exact (uk_up_oc (by decide)).trans C107
          have C121 : u118.1 65 = u.1 65 := by rw [eu118]; exact (uk_up_oc (by decide)).trans C108
          refine g_aload_n dX7_doIt_93 rfl ?_
          refine f_X7_13 rfl rfl dX7_doIt_94 ?_
          refine g_bipush (v := 8) dX7_doIt_97 (by decide) ?_
          refine g_iload_n dX7_doIt_99 rfl ?_
          refine g_iadd dX7_doIt_100 ?_
          refine g_topi (fun x122 ex122 => ?_)
          refine g_iload_n dX7_doIt_101 rfl ?_
          refine g_bipush (v := 10) dX7_doIt_102 (by decide) ?_
          refine g_icmp_lt (tgt := 134) dX7_doIt_104 (by decide) (fun c123 => ?_) (fun c123 => ?_)
          · exact absurd c123 (by lia)
          · refine g_aload_n dX7_doIt_107 rfl ?_
            refine f_X7_13 rfl rfl dX7_doIt_108 ?_
            refine g_bipush (v := 32) dX7_doIt_111 (by decide) ?_
            refine g_iload_n dX7_doIt_113 rfl ?_
            refine g_iadd dX7_doIt_114 ?_
            refine g_topi (fun x124 ex124 => ?_)
            have v125 : vp_in x124 51 := uk_vin 51 rfl (by first | decide | lia | grind) (by first | decide | lia | grind)
            refine g_iald rfl rfl v125 dX7_doIt_115 ?_
            refine g_topi (fun x126 ex126 => ?_)
            have bx126 := uk_cl v125
            have px126 : x126 = ((upd ((upd ((upd (u.1 62) (x87 : Int32).toNatClampNeg x90)) (x99 : Int32).toNatClampNeg x102)) (x111 : Int32).toNatClampNeg x115)) (x124 : Int32).toNatClampNeg := ex126.trans (congrFun C119 _)
            refine g_iconst (v := 3) dX7_doIt_116 (by decide) ?_
            refine g_icmp_ne (tgt := 134) dX7_doIt_117 (by decide) (fun c127 => ?_) (fun c127 => ?_)
            · refine g_aload_n dX7_doIt_134 rfl ?_
              refine f_X7_13 rfl rfl dX7_doIt_135 ?_
              refine g_bipush (v := 8) dX7_doIt_138 (by decide) ?_
              refine g_iload_n dX7_doIt_140 rfl ?_
              refine g_iadd dX7_doIt_141 ?_
              refine g_topi (fun x128 ex128 => ?_)
              have v129 : vp_in x128 51 := uk_vin 51 rfl (by first | decide | lia | grind) (by first | decide | lia | grind)
              refine g_iald rfl rfl v129 dX7_doIt_142 ?_
              refine g_topi (fun x130 ex130 => ?_)
              have bx130 := uk_cl v129
              have px130 : x130 = ((upd ((upd ((upd (u.1 62) (x87 : Int32).toNatClampNeg x90)) (x99 : Int32).toNatClampNeg x102)) (x111 : Int32).toNatClampNeg x115)) (x128 : Int32).toNatClampNeg := ex130.trans (congrFun C119 _)
              have v131 : vp_in x122 51 := uk_vin 51 rfl (by first | decide | lia | grind) (by first | decide | lia | grind)
              have b132 := uk_cl v131
              refine g_iast rfl rfl v131 dX7_doIt_143 ?_
              refine g_mem (fun u133 eu133 => ?_)
              have hu133 : iv u133 := by rw [eu133]; exact iv_st hu118 (by unfold uk_is51; decide) (by first | decide | lia | grind) (by first | decide | lia | grind) (fun q => by first | decide | lia | grind) (fun q => by first | decide | lia | grind) (fun q => by first | decide | lia | grind)
              have fu133 : fk [62] [] u u133 := by rw [eu133]; exact fk_up fu118 (by decide) (fun q => absurd q (by decide))
              have rau133 : ra u133 := by rw [eu133]; exact ra_at rau118 (by first | decide | lia | grind) (by first | decide | lia | grind)
              have C134 : u133.1 62 = (upd ((upd ((upd ((upd (u.1 62) (x87 : Int32).toNatClampNeg x90)) (x99 : Int32).toNatClampNeg x102)) (x111 : Int32).toNatClampNeg x115)) (x122 : Int32).toNatClampNeg x130) := by rw [eu133, uk_up_self, C119]
              have C135 : u133.1 64 = u.1 64 := by rw [eu133]; exact (uk_up_oc (by decide)).trans C120
              have C136 : u133.1 65 = u.1 65 := by rw [eu133]; exact (uk_up_oc (by decide)).trans C121
              refine g_aload_n dX7_doIt_144 rfl ?_
              refine f_X7_13 rfl rfl dX7_doIt_145 ?_
              refine g_bipush (v := 41) dX7_doIt_148 (by decide) ?_
              refine g_dup2 dX7_doIt_150 rfl rfl ?_
              have v137 : vp_in 41 51 := uk_vin 51 rfl (by first | decide | lia | grind) (by first | decide | lia | grind)
              refine g_iald rfl rfl v137 dX7_doIt_151 ?_
              refine g_topi (fun x138 ex138 => ?_)
              have bx138 := uk_cl v137
              have px138 : x138 = ((upd ((upd ((upd ((upd (u.1 62) (x87 : Int32).toNatClampNeg x90)) (x99 : Int32).toNatClampNeg x102)) (x111 : Int32).toNatClampNeg x115)) (x122 : Int32).toNatClampNeg x130)) (41 : Int32).toNatClampNeg := ex138.trans (congrFun C134 _)
              refine g_iconst (v := 1) dX7_doIt_152 (by decide) ?_
              refine g_iadd dX7_doIt_153 ?_
              refine g_topi (fun x139 ex139 => ?_)
              have v140 : vp_in 41 51 := uk_vin 51 rfl (by first | decide | lia | grind) (by first | decide | lia | grind)
              have b141 := uk_cl v140
              refine g_iast rfl rfl v140 dX7_doIt_154 ?_
              refine g_mem (fun u142 eu142 => ?_)
              have hu142 : iv u142 := by rw [eu142]; exact iv_st hu133 (by unfold uk_is51; decide) (by first | decide | lia | grind) (by first | decide | lia | grind) (fun q => by first | decide | lia | grind) (fun q => by first | decide | lia | grind) (fun q => by first | decide | lia | grind)
              have fu142 : fk [62] [] u u142 := by rw [eu142]; exact fk_up fu133 (by decide) (fun q => absurd q (by decide))
              have rau142 : ra u142 := by rw [eu142]; exact ra_at rau133 (by first | decide | lia | grind) (by first | decide | lia | grind)
              have C143 : u142.1 62 = (upd ((upd ((upd ((upd ((upd (u.1 62) (x87 : Int32).toNatClampNeg x90)) (x99 : Int32).toNatClampNeg x102)) (x111 : Int32).toNatClampNeg x115)) (x122 : Int32).toNatClampNeg x130)) (41 : Int32).toNatClampNeg x139) := by rw [eu142, uk_up_self, C134]
              have C144 : u142.1 64 = u.1 64 := by rw [eu142]; exact (uk_up_oc (by decide)).trans C135
              have C145 : u142.1 65 = u.1 65 := by rw [eu142]; exact (uk_up_oc (by decide)).trans C136
              exact g_vret dX7_doIt_155 rfl ⟨rfl, hu142, fu142, rau142⟩
            · refine g_iconst (v := 1) dX7_doIt_120 (by decide) ?_
              refine g_aload_n dX7_doIt_121 rfl ?_
              refine f_X7_13 rfl rfl dX7_doIt_122 ?_
              refine g_bipush (v := 8) dX7_doIt_125 (by decide) ?_
              refine g_iload_n dX7_doIt_127 rfl ?_
              refine g_iadd dX7_doIt_128 ?_
              refine g_topi (fun x146 ex146 => ?_)
              have v147 : vp_in x146 51 := uk_vin 51 rfl (by first | decide | lia | grind) (by first | decide | lia | grind)
              refine g_iald rfl rfl v147 dX7_doIt_129 ?_
              refine g_topi (fun x148 ex148 => ?_)
              have bx148 := uk_cl v147
              have px148 : x148 = ((upd ((upd ((upd (u.1 62) (x87 : Int32).toNatClampNeg x90)) (x99 : Int32).toNatClampNeg x102)) (x111 : Int32).toNatClampNeg x115)) (x146 : Int32).toNatClampNeg := ex148.trans (congrFun C119 _)
              refine g_isub dX7_doIt_130 ?_
              refine g_topi (fun x149 ex149 => ?_)
              refine g_goto (tgt := 143) dX7_doIt_131 (by decide) ?_
              have v150 : vp_in x122 51 := uk_vin 51 rfl (by first | decide | lia | grind) (by first | decide | lia | grind)
              have b151 := uk_cl v150
              refine g_iast rfl rfl v150 dX7_doIt_143 ?_
              refine g_mem (fun u152 eu152 => ?_)
              have hu152 : iv u152 := by rw [eu152]; exact iv_st hu118 (by unfold uk_is51; decide) (by first | decide | lia | grind) (by first | decide | lia | grind) (fun q => by first | decide | lia | grind) (fun q => by first | decide | lia | grind) (fun q => by first | decide | lia | grind)
              have fu152 : fk [62] [] u u152 := by rw [eu152]; exact fk_up fu118 (by decide) (fun q => absurd q (by decide))
              have rau152 : ra u152 := by rw [eu152]; exact ra_at rau118 (by first | decide | lia | grind) (by first | decide | lia | grind)
              have C153 : u152.1 62 = (upd ((upd ((upd ((upd (u.1 62) (x87 : Int32).toNatClampNeg x90)) (x99 : Int32).toNatClampNeg x102)) (x111 : Int32).toNatClampNeg x115)) (x122 : Int32).toNatClampNeg x149) := by rw [eu152, uk_up_self, C119]
              have C154 : u152.1 64 = u.1 64 := by rw [eu152]; exact (uk_up_oc (by decide)).trans C120
              have C155 : u152.1 65 = u.1 65 := by rw [eu152]; exact (uk_up_oc (by decide)).trans C121
              refine g_aload_n dX7_doIt_144 rfl ?_
              refine f_X7_13 rfl rfl dX7_doIt_145 ?_
              refine g_bipush (v := 41) dX7_doIt_148 (by decide) ?_
              refine g_dup2 dX7_doIt_150 rfl rfl ?_
              have v156 : vp_in 41 51 := uk_vin 51 rfl (by first | decide | lia | grind) (by first | decide | lia | grind)
              refine g_iald rfl rfl v156 dX7_doIt_151 ?_
              refine g_topi (fun x157 ex157 => ?_)
              have bx157 := uk_cl v156
              have px157 : x157 = ((upd ((upd ((upd ((upd (u.1 62) (x87 : Int32).toNatClampNeg x90)) (x99 : Int32).toNatClampNeg x102)) (x111 : Int32).toNatClampNeg x115)) (x122 : Int32).toNatClampNeg x149)) (41 : Int32).toNatClampNeg := ex157.trans (congrFun C153 _)
              refine g_iconst (v := 1) dX7_doIt_152 (by decide) ?_
              refine g_iadd dX7_doIt_153 ?_
              refine g_topi (fun x158 ex158 => ?_)
              have v159 : vp_in 41 51 := uk_vin 51 rfl (by first | decide | lia | grind) (by first | decide | lia | grind)
              have b160 := uk_cl v159
              refine g_iast rfl rfl v159 dX7_doIt_154 ?_
              refine g_mem (fun u161 eu161 => ?_)
              have hu161 : iv u161 := by rw [eu161]; exact iv_st hu152 (by unfold uk_is51; decide) (by first | decide | lia | grind) (by first | decide | lia | grind) (fun q => by first | decide | lia | grind) (fun q => by first | decide | lia | grind) (fun q => by first | decide | lia | grind)
              have fu161 : fk [62] [] u u161 := by rw [eu161]; exact fk_up fu152 (by decide) (fun q => absurd q (by decide))
              have rau161 : ra u161 := by rw [eu161]; exact ra_at rau152 (by first | decide | lia | grind) (by first | decide | lia | grind)
              have C162 : u161.1 62 = (upd ((upd ((upd ((upd ((upd (u.1 62) (x87 : Int32).toNatClampNeg x90)) (x99 : Int32).toNatClampNeg x102)) (x111 : Int32).toNatClampNeg x115)) (x122 : Int32).toNatClampNeg x149)) (41 : Int32).toNatClampNeg x158) := by rw [eu161, uk_up_self, C153]
              have C163 : u161.1 64 = u.1 64 := by rw [eu161]; exact (uk_up_oc (by decide)).trans C154
              have C164 : u161.1 65 = u.1 65 := by rw [eu161]; exact (uk_up_oc (by decide)).trans C155
              exact g_vret dX7_doIt_155 rfl ⟨rfl, hu161, fu161, rau161⟩
  · exact absurd c2 (by lia)
abbrev q_X7_doIt (u : uk_Mem) (g : Int32) (r : Option Value) (u' : uk_Mem) : Prop := (r = none) ∧ (iv u' ∧ fk [62] [] u u' ∧ ra u')
theorem c_X7_doIt {G : uk_D} (hs : uk_Sep G) {u : uk_Mem} (hu : iv u) (hra : ra u) (g : Int32) (p0 : (0 ≤ g ∧ g ≤ 7) ∨ (10 ≤ g ∧ g ≤ 17)) (p1 : (g < 10 → 0 ≤ (u.1 64 (g).toNatClampNeg) ∧ (u.1 64 (g).toNatClampNeg) < g ∧ 0 ≤ (u.1 65 (g).toNatClampNeg) ∧ (u.1 65 (g).toNatClampNeg) < g ∧ u.1 62 (g).toNatClampNeg < 40 ∧ ((u.1 64 (g).toNatClampNeg) = (u.1 65 (g).toNatClampNeg) → 2 ≤ u.1 62 (u.1 64 (g).toNatClampNeg).toNatClampNeg) ∧ (¬ (u.1 64 (g).toNatClampNeg) = (u.1 65 (g).toNatClampNeg) → 1 ≤ u.1 62 (u.1 64 (g).toNatClampNeg).toNatClampNeg ∧ 1 ≤ u.1 62 (u.1 65 (g).toNatClampNeg).toNatClampNeg))) (p2 : (10 ≤ g → 0 ≤ (u.1 64 ((g - 10)).toNatClampNeg) ∧ (u.1 64 ((g - 10)).toNatClampNeg) < (g - 10) ∧ 0 ≤ (u.1 65 ((g - 10)).toNatClampNeg) ∧ (u.1 65 ((g - 10)).toNatClampNeg) < (g - 10) ∧ 1 ≤ u.1 62 ((g - 10)).toNatClampNeg ∧ u.1 62 (u.1 64 ((g - 10)).toNatClampNeg).toNatClampNeg < 40 ∧ ((u.1 62 (32 + (g - 10)).toNatClampNeg = 0 ∨ (u.1 62 (32 + (g - 10)).toNatClampNeg = 3 ∧ u.1 62 (8 + (g - 10)).toNatClampNeg = 1)) → (u.1 64 ((g - 10)).toNatClampNeg) = (u.1 65 ((g - 10)).toNatClampNeg) → u.1 62 (u.1 64 ((g - 10)).toNatClampNeg).toNatClampNeg + 2 ≤ 40) ∧ ((u.1 62 (32 + (g - 10)).toNatClampNeg = 0 ∨ (u.1 62 (32 + (g - 10)).toNatClampNeg = 3 ∧ u.1 62 (8 + (g - 10)).toNatClampNeg = 1)) → ¬ (u.1 64 ((g - 10)).toNatClampNeg) = (u.1 65 ((g - 10)).toNatClampNeg) → u.1 62 (u.1 65 ((g - 10)).toNatClampNeg).toNatClampNeg < 40))) (d : Nat) : uk_Meth G (d + 1) mX7_doIt [.ref (uk_ad G 60), .int g] u (q_X7_doIt u g) := by
  rcases p0 with q | q
  · obtain ⟨a0, a1, a2, a3, a4, a5, a6⟩ := p1 (by grind)
    exact c_X7_doIt_a hs hu hra g q.1 q.2 a0 a1 a2 a3 a4 a5 a6 d
  · obtain ⟨a0, a1, a2, a3, a4, a5, a6, a7⟩ := p2 q.1
    exact c_X7_doIt_b hs hu hra g q.1 q.2 a0 a1 a2 a3 a4 a5 a6 a7 d
abbrev q_X7_isDoing (u : uk_Mem) (g : Int32) (r : Option Value) (u' : uk_Mem) : Prop := (∃ x : Int32, r = some (.int x) ∧ (x = 0 ∨ x = 1) ∧ (¬ x = 0 → ((0 ≤ g ∧ g ≤ 7 ∧ g < u.1 60 3) ∨ (10 ≤ g ∧ g ≤ 17 ∧ g - 10 < u.1 60 3))) ∧ (x = 0 → True)) ∧ (u' = u)
set_option maxHeartbeats 4000000 in
set_option maxRecDepth 20000 in
theorem c_X7_isDoing {G : uk_D} (hs : uk_Sep G) {u : uk_Mem} (hu : iv u) (g : Int32) (d : Nat) : uk_Meth G (d + 2) mX7_isDoing [.ref (uk_ad G 60), .int g] u (q_X7_isDoing u g) := by
  refine uk_Meth.of hs (by decide) (Nat.le_of_ble_eq_true rfl) (fun X => ?_)
  refine g_aload_n dX7_isDoing_0 rfl ?_
  refine g_iload_n dX7_isDoing_1 rfl ?_
  refine cl_X7_163 (c := 60) (As := [.int g]) rfl (c_X7_isStuff (G := G) hs hu  g  (d)) rfl (by omega) rfl rfl (Nat.le_of_ble_eq_true rfl) dX7_isDoing_2 (fun r1 u2 q3 => ?_)
  obtain ⟨⟨x4, rfl, tx4, nx4, zx4⟩, mq3⟩ := q3
  rw [mq3]
  refine g_if_ne (tgt := 19) dX7_isDoing_5 (by decide) (fun c5 => ?_) (fun c5 => ?_)
  · have zc5 := nx4 c5
    refine g_iconst (v := 1) dX7_isDoing_19 (by decide) ?_
    refine g_goto (tgt := 24) dX7_isDoing_20 (by decide) ?_
    exact g_iret (ty := .boolean) dX7_isDoing_24 rfl rfl ⟨⟨1, rfl, Or.inr rfl, fun _ => by first | trivial | lia | grind, fun q => absurd q (by decide)⟩, rfl⟩
  · have zc5 := zx4 c5
    refine g_aload_n dX7_isDoing_8 rfl ?_
    refine g_iload_n dX7_isDoing_9 rfl ?_
    refine g_bipush (v := 10) dX7_isDoing_10 (by decide) ?_
    refine g_isub dX7_isDoing_12 ?_
    refine g_topi (fun x6 ex6 => ?_)
    refine cl_X7_163 (c := 60) (As := [.int x6]) rfl (c_X7_isStuff (G := G) hs hu  x6  (d)) rfl (by omega) rfl rfl (Nat.le_of_ble_eq_true rfl) dX7_isDoing_13 (fun r7 u8 q9 => ?_)
    obtain ⟨⟨x10, rfl, tx10, nx10, zx10⟩, mq9⟩ := q9
    rw [mq9]
    refine g_if_eq (tgt := 23) dX7_isDoing_16 (by decide) (fun c11 => ?_) (fun c11 => ?_)
    · have zc11 := zx10 c11
      refine g_iconst (v := 0) dX7_isDoing_23 (by decide) ?_
      exact g_iret (ty := .boolean) dX7_isDoing_24 rfl rfl ⟨⟨0, rfl, Or.inl rfl, fun q => absurd rfl q, fun _ => by first | trivial | lia | grind⟩, rfl⟩
    · have zc11 := nx10 c11
      refine g_iconst (v := 1) dX7_isDoing_19 (by decide) ?_
      refine g_goto (tgt := 24) dX7_isDoing_20 (by decide) ?_
      exact g_iret (ty := .boolean) dX7_isDoing_24 rfl rfl ⟨⟨1, rfl, Or.inr rfl, fun _ => by first | trivial | lia | grind, fun q => absurd q (by decide)⟩, rfl⟩
abbrev q_X7_allOf (u : uk_Mem) (w : Int32) (r : Option Value) (u' : uk_Mem) : Prop := (∃ x : Int32, r = some (.int x) ∧ True) ∧ (u' = u)
set_option maxHeartbeats 4000000 in
set_option maxRecDepth 20000 in
theorem c_X7_allOf {G : uk_D} (hs : uk_Sep G) {u : uk_Mem} (hu : iv u) (w : Int32) (p0 : w = 0 ∨ w = 16) (d : Nat) : uk_Meth G d mX7_allOf [.ref (uk_ad G 60), .int w] u (q_X7_allOf u w) := by
  refine uk_Meth.of hs (by decide) (Nat.le_of_ble_eq_true rfl) (fun X => ?_)
  refine g_iconst (v := 0) dX7_allOf_0 (by decide) ?_
  refine g_istore_n dX7_allOf_1 (by decide) ?_
  refine g_pick (lv' := [(0, .ref (uk_ad G 60)), (1, .int w), (2, .int 0)]) [0, 1, 2] rfl ?_
  refine g_iconst (v := 0) dX7_allOf_2 (by decide) ?_
  refine g_istore_n dX7_allOf_3 (by decide) ?_
  refine g_pick (lv' := [(0, .ref (uk_ad G 60)), (1, .int w), (2, .int 0), (3, .int 0)]) [0, 1, 2, 3] rfl ?_
  have L4_0 : ∀ i3 : Int32, 0 ≤ i3 → i3 ≤ 8 → ∀ (w2 : Int32), uk_G G X mX7_allOf d (q_X7_allOf u w) 4 [(0, .ref (uk_ad G 60)), (1, .int w), (2, .int w2), (3, .int i3)] [] u := by
    refine uk_upl 8 ?_
    intro i3 ai3 bi3 ihi3 w2
    refine g_iload_n dX7_allOf_4 rfl ?_
    refine g_aload_n dX7_allOf_5 rfl ?_
    refine f_X7_79 rfl rfl dX7_allOf_6 ?_
    refine g_topi (fun x4 ex4 => ?_)
    have rx4 : 0 ≤ x4 ∧ x4 ≤ 8 := by rw [ex4]; exact iv_at hu _ _ rfl
    have s5 : u.1 60 3 = x4 := ex4.symm
    refine g_icmp_ge (tgt := 46) dX7_allOf_9 (by decide) (fun c6 => ?_) (fun c6 => ?_)
    · refine g_iload_n dX7_allOf_46 rfl ?_
      exact g_iret (ty := .int) dX7_allOf_47 rfl rfl ⟨⟨_, rfl, by first | trivial | lia | grind⟩, rfl⟩
    · refine g_iload_n dX7_allOf_12 rfl ?_
      refine g_aload_n dX7_allOf_13 rfl ?_
      refine f_X7_13 rfl rfl dX7_allOf_14 ?_
      refine g_iconst (v := 0) dX7_allOf_17 (by decide) ?_
      refine g_iload_n dX7_allOf_18 rfl ?_
      refine g_iadd dX7_allOf_19 ?_
      refine g_topi (fun x7 ex7 => ?_)
      have ox7 : x7 = i3 := by rw [ex7, Int32.zero_add]
      have v8 : vp_in x7 51 := uk_vin 51 rfl (by first | decide | lia | grind) (by first | decide | lia | grind)
      refine g_iald rfl rfl v8 dX7_allOf_20 ?_
      refine g_topi (fun x9 ex9 => ?_)
      have bx9 := uk_cl v8
      have rx9 : 0 ≤ x9 ∧ x9 ≤ 40 := by rw [ex9]; exact sg_0 hu (by unfold uk_is51; decide) (by first | lia | grind) (by first | lia | grind)
      refine g_iload_n dX7_allOf_21 rfl ?_
      refine g_if_ne (tgt := 29) dX7_allOf_22 (by decide) (fun c10 => ?_) (fun c10 => ?_)
      · refine g_aload_n dX7_allOf_29 rfl ?_
        refine f_X7_13 rfl rfl dX7_allOf_30 ?_
        refine g_iload_n dX7_allOf_33 rfl ?_
        refine g_iload_n dX7_allOf_34 rfl ?_
        refine g_iadd dX7_allOf_35 ?_
        refine g_topi (fun x11 ex11 => ?_)
        have v12 : vp_in x11 51 := uk_vin 51 rfl (by first | decide | lia | grind) (by first | decide | lia | grind)
        refine g_iald rfl rfl v12 dX7_allOf_36 ?_
        refine g_topi (fun x13 ex13 => ?_)
        have bx13 := uk_cl v12
        refine g_imul dX7_allOf_37 ?_
        refine g_topi (fun x14 ex14 => ?_)
        refine g_iadd dX7_allOf_38 ?_
        refine g_topi (fun x15 ex15 => ?_)
        refine g_istore_n dX7_allOf_39 (by decide) ?_
        refine g_pick (lv' := [(0, .ref (uk_ad G 60)), (1, .int w), (2, .int x15), (3, .int i3)]) [0, 1, 2, 3] rfl ?_
        refine g_iinc (v := i3 + 1) dX7_allOf_40 rfl rfl (by decide) ?_
        refine g_pick (lv' := [(0, .ref (uk_ad G 60)), (1, .int w), (2, .int x15), (3, .int (i3 + 1))]) [0, 1, 2, 3] rfl ?_
        refine g_goto (tgt := 4) dX7_allOf_43 (by decide) ?_
        refine g_pick (lv' := [(0, .ref (uk_ad G 60)), (1, .int w), (2, .int x15), (3, .int (i3 + 1))]) [0, 1, 2, 3] rfl ?_
        exact ihi3 (by first | lia | grind) x15 
      · refine g_iconst (v := 1) dX7_allOf_25 (by decide) ?_
        refine g_goto (tgt := 37) dX7_allOf_26 (by decide) ?_
        refine g_imul dX7_allOf_37 ?_
        refine g_topi (fun x16 ex16 => ?_)
        refine g_iadd dX7_allOf_38 ?_
        refine g_topi (fun x17 ex17 => ?_)
        refine g_istore_n dX7_allOf_39 (by decide) ?_
        refine g_pick (lv' := [(0, .ref (uk_ad G 60)), (1, .int w), (2, .int x17), (3, .int i3)]) [0, 1, 2, 3] rfl ?_
        refine g_iinc (v := i3 + 1) dX7_allOf_40 rfl rfl (by decide) ?_
        refine g_pick (lv' := [(0, .ref (uk_ad G 60)), (1, .int w), (2, .int x17), (3, .int (i3 + 1))]) [0, 1, 2, 3] rfl ?_
        refine g_goto (tgt := 4) dX7_allOf_43 (by decide) ?_
        refine g_pick (lv' := [(0, .ref (uk_ad G 60)), (1, .int w), (2, .int x17), (3, .int (i3 + 1))]) [0, 1, 2, 3] rfl ?_
        exact ihi3 (by first | lia | grind) x17 
  refine g_pick (lv' := [(0, .ref (uk_ad G 60)), (1, .int w), (2, .int 0), (3, .int 0)]) [0, 1, 2, 3] rfl ?_
  exact L4_0 0 (by first | decide | lia | grind) (by first | decide | lia | grind) 0 
abbrev q_X7_rule (u : uk_Mem) (w : Int32) (r : Option Value) (u' : uk_Mem) : Prop := (∃ x : Int32, r = some (.int x) ∧ True) ∧ (u' = u)
abbrev q_X7_stuff (u : uk_Mem) (m : Int32) (w : Int32) (r : Option Value) (u' : uk_Mem) : Prop := (∃ x : Int32, r = some (.int x) ∧ True) ∧ (u' = u)
abbrev q_X7_becomes (u : uk_Mem) (k : Int32) (v : Int32) (r : Option Value) (u' : uk_Mem) : Prop := (∃ x : Int32, r = some (.int x) ∧ True) ∧ (iv u' ∧ fk [61] [] u u' ∧ u' = uk_up u 61 k.toNatClampNeg v)
abbrev q_X7_fill (u : uk_Mem) (m : Int32) (n : Int32) (r : Option Value) (u' : uk_Mem) : Prop := (∃ x : Int32, r = some (.int x) ∧ True) ∧ (iv u' ∧ fk [61] [] u u' ∧ ri u')
abbrev q_X7_feeds (u : uk_Mem) (m : Int32) (v : Int32) (r : Option Value) (u' : uk_Mem) : Prop := (∃ x : Int32, r = some (.int x) ∧ True) ∧ (iv u' ∧ fk [61] [] u u' ∧ ri u')
abbrev q_X7_price (u : uk_Mem) (m : Int32) (v : Int32) (r : Option Value) (u' : uk_Mem) : Prop := (∃ x : Int32, r = some (.int x) ∧ True) ∧ (iv u' ∧ fk [61] [] u u' ∧ ri u')
abbrev q_X7_kind (u : uk_Mem) (m : Int32) (k : Int32) (r : Option Value) (u' : uk_Mem) : Prop := (∃ x : Int32, r = some (.int x) ∧ True) ∧ (iv u' ∧ fk [61] [] u u' ∧ ri u')
abbrev q_X7_does (u : uk_Mem) (g : Int32) (r : Option Value) (u' : uk_Mem) : Prop := (∃ x : Int32, r = some (.int x) ∧ True) ∧ (iv u' ∧ fk [61, 62] [] u u' ∧ ri u')
abbrev q_X7_eat (u : uk_Mem) (m : Int32) (r : Option Value) (u' : uk_Mem) : Prop := (∃ x : Int32, r = some (.int x) ∧ True) ∧ (iv u' ∧ fk [61] [] u u' ∧ ri u')
abbrev q_X7_can (u : uk_Mem) (w : Int32) (r : Option Value) (u' : uk_Mem) : Prop := (∃ x : Int32, r = some (.int x) ∧ True) ∧ (iv u' ∧ fk [62] [] u u' ∧ ri u')
abbrev q_X7_isSheet (u : uk_Mem) (k : Int32) (l : Int32) (r : Option Value) (u' : uk_Mem) : Prop := (∃ x : Int32, r = some (.int x) ∧ (x = 0 ∨ x = 1) ∧ (¬ x = 0 → 0 ≤ k ∧ k ≤ 3 ∧ 0 ≤ l ∧ l ≤ 2) ∧ (x = 0 → True)) ∧ (u' = u)
abbrev q_X7_sheet (u : uk_Mem) (k : Int32) (l : Int32) (n : Int32) (r : Option Value) (u' : uk_Mem) : Prop := (∃ x : Int32, r = some (.int x) ∧ True) ∧ (iv u' ∧ fk [74, 75, 76] [] u u')
abbrev q_X7_lay (u : uk_Mem) (k : Int32) (i : Int32) (v : Int32) (r : Option Value) (u' : uk_Mem) : Prop := (∃ x : Int32, r = some (.int x) ∧ True) ∧ (iv u' ∧ fk [76] [] u u')
abbrev q_X7_baseTo (u : uk_Mem) (n : Int32) (r : Option Value) (u' : uk_Mem) : Prop := (∃ x : Int32, r = some (.int x) ∧ (1 ≤ x ∧ x ≤ 65536)) ∧ (u' = u)
set_option maxHeartbeats 4000000 in
set_option maxRecDepth 20000 in
theorem c_X7_baseTo {G : uk_D} (hs : uk_Sep G) {u : uk_Mem} (hu : iv u) (n : Int32) (p0 : n ≤ 4) (d : Nat) : uk_Meth G d mX7_baseTo [.ref (uk_ad G 60), .int n] u (q_X7_baseTo u n) := by
  refine uk_Meth.of hs (by decide) (Nat.le_of_ble_eq_true rfl) (fun X => ?_)
  refine g_iconst (v := 1) dX7_baseTo_0 (by decide) ?_
  refine g_istore_n dX7_baseTo_1 (by decide) ?_
  refine g_pick (lv' := [(0, .ref (uk_ad G 60)), (1, .int n), (2, .int 1)]) [0, 1, 2] rfl ?_
  refine g_iconst (v := 0) dX7_baseTo_2 (by decide) ?_
  refine g_istore_n dX7_baseTo_3 (by decide) ?_
  refine g_pick (lv' := [(0, .ref (uk_ad G 60)), (1, .int n), (2, .int 1), (3, .int 0)]) [0, 1, 2, 3] rfl ?_
  have L4_0 : ∀ i3 : Int32, 0 ≤ i3 → i3 ≤ 4 → ∀ (w2 : Int32), ((i3 = 0 ∧ w2 = 1) ∨ (i3 = 1 ∧ w2 = 16) ∨ (i3 = 2 ∧ w2 = 256) ∨ (i3 = 3 ∧ w2 = 4096) ∨ (i3 = 4 ∧ w2 = 65536)) → (i3 = 0 ∨ i3 ≤ n) → uk_G G X mX7_baseTo d (q_X7_baseTo u n) 4 [(0, .ref (uk_ad G 60)), (1, .int n), (2, .int w2), (3, .int i3)] [] u := by
    refine uk_upl 4 ?_
    intro i3 ai3 bi3 ihi3 w2 ji30 ji31
    refine g_iload_n dX7_baseTo_4 rfl ?_
    refine g_iload_n dX7_baseTo_5 rfl ?_
    refine g_icmp_ge (tgt := 20) dX7_baseTo_6 (by decide) (fun c4 => ?_) (fun c4 => ?_)
    · refine g_iload_n dX7_baseTo_20 rfl ?_
      exact g_iret (ty := .int) dX7_baseTo_21 rfl rfl ⟨⟨_, rfl, by first | trivial | lia | grind⟩, rfl⟩
    · refine g_iload_n dX7_baseTo_9 rfl ?_
      refine g_bipush (v := 16) dX7_baseTo_10 (by decide) ?_
      refine g_imul dX7_baseTo_12 ?_
      refine g_topi (fun x5 ex5 => ?_)
      refine g_istore_n dX7_baseTo_13 (by decide) ?_
      refine g_pick (lv' := [(0, .ref (uk_ad G 60)), (1, .int n), (2, .int x5), (3, .int i3)]) [0, 1, 2, 3] rfl ?_
      refine g_iinc (v := i3 + 1) dX7_baseTo_14 rfl rfl (by decide) ?_
      refine g_pick (lv' := [(0, .ref (uk_ad G 60)), (1, .int n), (2, .int x5), (3, .int (i3 + 1))]) [0, 1, 2, 3] rfl ?_
      refine g_goto (tgt := 4) dX7_baseTo_17 (by decide) ?_
      refine g_pick (lv' := [(0, .ref (uk_ad G 60)), (1, .int n), (2, .int x5), (3, .int (i3 + 1))]) [0, 1, 2, 3] rfl ?_
      exact ihi3 (by first | lia | grind) x5 (by first | trivial | lia | grind) (by first | trivial | lia | grind)
  refine g_pick (lv' := [(0, .ref (uk_ad G 60)), (1, .int n), (2, .int 1), (3, .int 0)]) [0, 1, 2, 3] rfl ?_
  exact L4_0 0 (by first | decide | lia | grind) (by first | decide | lia | grind) 1 (by first | trivial | lia | grind) (by first | trivial | lia | grind)
abbrev q_X7_isAsked (u : uk_Mem) (w : Int32) (r : Option Value) (u' : uk_Mem) : Prop := (∃ x : Int32, r = some (.int x) ∧ (x = 0 ∨ x = 1) ∧ (¬ x = 0 → (w = 0 ∨ (10 ≤ w ∧ w ≤ 13))) ∧ (x = 0 → True)) ∧ (u' = u)
set_option maxHeartbeats 4000000 in
set_option maxRecDepth 20000 in
theorem c_X7_isAsked {G : uk_D} (hs : uk_Sep G) {u : uk_Mem} (hu : iv u) (w : Int32) (d : Nat) : uk_Meth G (d + 1) mX7_isAsked [.int w] u (q_X7_isAsked u w) := by
  refine uk_Meth.of hs (by decide) (Nat.le_of_ble_eq_true rfl) (fun X => ?_)
  refine g_iload_n dX7_isAsked_0 rfl ?_
  refine g_if_eq (tgt := 18) dX7_isAsked_1 (by decide) (fun c1 => ?_) (fun c1 => ?_)
  · refine g_iconst (v := 1) dX7_isAsked_18 (by decide) ?_
    refine g_goto (tgt := 23) dX7_isAsked_19 (by decide) ?_
    exact g_iret (ty := .boolean) dX7_isAsked_23 rfl rfl ⟨⟨1, rfl, Or.inr rfl, fun _ => by first | trivial | lia | grind, fun q => absurd q (by decide)⟩, rfl⟩
  · refine g_iload_n dX7_isAsked_4 rfl ?_
    refine g_i2l dX7_isAsked_5 ?_
    refine g_ldc2 (v := 10) k_X7_229 dX7_isAsked_6 ?_
    refine g_ldc2 (v := 13) k_X7_248 dX7_isAsked_9 ?_
    refine cl_X7_84 (As := [.long w.toInt64, .long 10, .long 13]) rfl (c_X7_in (G := G) hs hu  w 10 13  (d)) rfl (by omega) rfl (Nat.le_of_ble_eq_true rfl) dX7_isAsked_12 (fun r2 u3 q4 => ?_)
    obtain ⟨⟨x5, rfl, tx5, nx5, zx5⟩, mq4⟩ := q4
    rw [mq4]
    refine g_if_eq (tgt := 22) dX7_isAsked_15 (by decide) (fun c6 => ?_) (fun c6 => ?_)
    · have zc6 := zx5 c6
      refine g_iconst (v := 0) dX7_isAsked_22 (by decide) ?_
      exact g_iret (ty := .boolean) dX7_isAsked_23 rfl rfl ⟨⟨0, rfl, Or.inl rfl, fun q => absurd rfl q, fun _ => by first | trivial | lia | grind⟩, rfl⟩
    · have zc6 := nx5 c6
      refine g_iconst (v := 1) dX7_isAsked_18 (by decide) ?_
      refine g_goto (tgt := 23) dX7_isAsked_19 (by decide) ?_
      exact g_iret (ty := .boolean) dX7_isAsked_23 rfl rfl ⟨⟨1, rfl, Or.inr rfl, fun _ => by first | trivial | lia | grind, fun q => absurd q (by decide)⟩, rfl⟩
abbrev q_X7_see (u : uk_Mem) (b : Int32) (r : Option Value) (u' : uk_Mem) : Prop := (∃ x : Int32, r = some (.int x) ∧ True) ∧ (iv u' ∧ fk [61] [] u u' ∧ ri u')
abbrev q_X7_forget (u : uk_Mem) (n : Int32) (r : Option Value) (u' : uk_Mem) : Prop := (∃ x : Int32, r = some (.int x) ∧ True) ∧ (iv u' ∧ fk [61] [] u u' ∧ ri u')
abbrev q_X7_count (u : uk_Mem) (w : Int32) (r : Option Value) (u' : uk_Mem) : Prop := (∃ x : Int32, r = some (.int x) ∧ True) ∧ (iv u' ∧ fk [62] [] u u' ∧ ri u')
abbrev q_X7_countIn (u : uk_Mem) (b : Int32) (r : Option Value) (u' : uk_Mem) : Prop := (∃ x : Int32, r = some (.int x) ∧ True) ∧ (u' = u)
set_option maxHeartbeats 4000000 in
set_option maxRecDepth 20000 in
theorem c_X7_countIn {G : uk_D} (hs : uk_Sep G) {u : uk_Mem} (hu : iv u) (b : Int32) (d : Nat) : uk_Meth G (d + 1) mX7_countIn [.ref (uk_ad G 60), .int b] u (q_X7_countIn u b) := by
  refine uk_Meth.of hs (by decide) (Nat.le_of_ble_eq_true rfl) (fun X => ?_)
  refine g_iconst (v := 0) dX7_countIn_0 (by decide) ?_
  refine g_istore_n dX7_countIn_1 (by decide) ?_
  refine g_pick (lv' := [(0, .ref (uk_ad G 60)), (1, .int b), (2, .int 0)]) [0, 1, 2] rfl ?_
  refine g_iconst (v := 0) dX7_countIn_2 (by decide) ?_
  refine g_istore_n dX7_countIn_3 (by decide) ?_
  refine g_pick (lv' := [(0, .ref (uk_ad G 60)), (1, .int b), (2, .int 0), (3, .int 0)]) [0, 1, 2, 3] rfl ?_
  have L4_0 : ∀ i3 : Int32, 0 ≤ i3 → i3 ≤ 255 → ∀ (w2 : Int32), uk_G G X mX7_countIn (d + 1) (q_X7_countIn u b) 4 [(0, .ref (uk_ad G 60)), (1, .int b), (2, .int w2), (3, .int i3)] [] u := by
    refine uk_upl 255 ?_
    intro i3 ai3 bi3 ihi3 w2
    refine g_iload_n dX7_countIn_4 rfl ?_
    refine g_aload_n dX7_countIn_5 rfl ?_
    refine f_X7_207 rfl rfl dX7_countIn_6 ?_
    refine g_topi (fun x4 ex4 => ?_)
    have rx4 : 0 ≤ x4 ∧ x4 ≤ 255 := by rw [ex4]; exact iv_at hu _ _ rfl
    have s5 : u.1 60 22 = x4 := ex4.symm
    refine g_icmp_ge (tgt := 39) dX7_countIn_9 (by decide) (fun c6 => ?_) (fun c6 => ?_)
    · refine g_iload_n dX7_countIn_39 rfl ?_
      exact g_iret (ty := .int) dX7_countIn_40 rfl rfl ⟨⟨_, rfl, by first | trivial | lia | grind⟩, rfl⟩
    · refine g_iload_n dX7_countIn_12 rfl ?_
      refine g_aload_n dX7_countIn_13 rfl ?_
      refine f_X7_41 rfl rfl dX7_countIn_14 ?_
      refine g_iload_n dX7_countIn_17 rfl ?_
      have v7 : vp_in i3 256 := uk_vin 256 rfl (by first | decide | lia | grind) (by first | decide | lia | grind)
      refine g_iald rfl rfl v7 dX7_countIn_18 ?_
      refine g_topi (fun x8 ex8 => ?_)
      have bx8 := uk_cl v7
      have rx8 : 0 ≤ x8 ∧ x8 ≤ 7 := by rw [ex8]; exact iv_at hu _ _ (uk_pick1 _ (by omega))
      refine g_iload_n dX7_countIn_19 rfl ?_
      refine g_icmp_ne (tgt := 27) dX7_countIn_20 (by decide) (fun c9 => ?_) (fun c9 => ?_)
      · refine g_iconst (v := 0) dX7_countIn_27 (by decide) ?_
        refine cl_X7_169 (As := [.int 0]) rfl (c_X7_flag (G := G) hs hu  0  (d)) rfl (by omega) rfl (Nat.le_of_ble_eq_true rfl) dX7_countIn_28 (fun r10 u11 q12 => ?_)
        obtain ⟨⟨x13, rfl, tx13⟩, mq12⟩ := q12
        rw [mq12]
        refine g_iadd dX7_countIn_31 ?_
        refine g_topi (fun x14 ex14 => ?_)
        refine g_istore_n dX7_countIn_32 (by decide) ?_
        refine g_pick (lv' := [(0, .ref (uk_ad G 60)), (1, .int b), (2, .int x14), (3, .int i3)]) [0, 1, 2, 3] rfl ?_
        refine g_iinc (v := i3 + 1) dX7_countIn_33 rfl rfl (by decide) ?_
        refine g_pick (lv' := [(0, .ref (uk_ad G 60)), (1, .int b), (2, .int x14), (3, .int (i3 + 1))]) [0, 1, 2, 3] rfl ?_
        refine g_goto (tgt := 4) dX7_countIn_36 (by decide) ?_
        refine g_pick (lv' := [(0, .ref (uk_ad G 60)), (1, .int b), (2, .int x14), (3, .int (i3 + 1))]) [0, 1, 2, 3] rfl ?_
        exact ihi3 (by first | lia | grind) x14 
      · refine g_iconst (v := 1) dX7_countIn_23 (by decide) ?_
        refine g_goto (tgt := 28) dX7_countIn_24 (by decide) ?_
        refine cl_X7_169 (As := [.int 1]) rfl (c_X7_flag (G := G) hs hu  1  (d)) rfl (by omega) rfl (Nat.le_of_ble_eq_true rfl) dX7_countIn_28 (fun r15 u16 q17 => ?_)
        obtain ⟨⟨x18, rfl, tx18⟩, mq17⟩ := q17
        rw [mq17]
        refine g_iadd dX7_countIn_31 ?_
        refine g_topi (fun x19 ex19 => ?_)
        refine g_istore_n dX7_countIn_32 (by decide) ?_
        refine g_pick (lv' := [(0, .ref (uk_ad G 60)), (1, .int b), (2, .int x19), (3, .int i3)]) [0, 1, 2, 3] rfl ?_
        refine g_iinc (v := i3 + 1) dX7_countIn_33 rfl rfl (by decide) ?_
        refine g_pick (lv' := [(0, .ref (uk_ad G 60)), (1, .int b), (2, .int x19), (3, .int (i3 + 1))]) [0, 1, 2, 3] rfl ?_
        refine g_goto (tgt := 4) dX7_countIn_36 (by decide) ?_
        refine g_pick (lv' := [(0, .ref (uk_ad G 60)), (1, .int b), (2, .int x19), (3, .int (i3 + 1))]) [0, 1, 2, 3] rfl ?_
        exact ihi3 (by first | lia | grind) x19 
  refine g_pick (lv' := [(0, .ref (uk_ad G 60)), (1, .int b), (2, .int 0), (3, .int 0)]) [0, 1, 2, 3] rfl ?_
  exact L4_0 0 (by first | decide | lia | grind) (by first | decide | lia | grind) 0 
abbrev q_X7_findHeld (u : uk_Mem) (m : Int32) (r : Option Value) (u' : uk_Mem) : Prop := (r = none) ∧ (iv u' ∧ fk [70] [] u u' ∧ ri u')
set_option maxHeartbeats 4000000 in
set_option maxRecDepth 20000 in
theorem c_X7_findHeld {G : uk_D} (hs : uk_Sep G) {u : uk_Mem} (hu : iv u) (hri : ri u) (m : Int32) (p0 : 0 ≤ m) (p1 : m < u.1 60 3) (p2 : m ≤ 7) (d : Nat) : uk_Meth G (d + 1) mX7_findHeld [.ref (uk_ad G 60), .int m] u (q_X7_findHeld u m) := by
  refine uk_Meth.of hs (by decide) (Nat.le_of_ble_eq_true rfl) (fun X => ?_)
  have f0 : fk [70] [] u u := fk_rf
  have C61 : u.1 61 = u.1 61 := rfl
  refine g_iconst (v := 0) dX7_findHeld_0 (by decide) ?_
  refine g_istore_n dX7_findHeld_1 (by decide) ?_
  refine g_pick (lv' := [(0, .ref (uk_ad G 60)), (1, .int m), (2, .int 0)]) [0, 1, 2] rfl ?_
  have L2_0 : ∀ i2 : Int32, 0 ≤ i2 → i2 ≤ 8 → ∀ (u3 : uk_Mem), iv u3 → fk [70] [] u u3 → ri u3 → uk_G G X mX7_findHeld (d + 1) (q_X7_findHeld u m) 2 [(0, .ref (uk_ad G 60)), (1, .int m), (2, .int i2)] [] u3 := by
    refine uk_upl 8 ?_
    intro i2 ai2 bi2 ihi2  u3 hu3 fu3 riu3
    have wu3_60_3 : u3.1 60 3 = u.1 60 3 := fk_at fu3 (by decide)
    refine g_iload_n dX7_findHeld_2 rfl ?_
    refine g_aload_n dX7_findHeld_3 rfl ?_
    refine f_X7_79 rfl rfl dX7_findHeld_4 ?_
    refine g_topi (fun x4 ex4 => ?_)
    have rx4 : 0 ≤ x4 ∧ x4 ≤ 8 := by rw [ex4]; exact iv_at hu3 _ _ rfl
    have s5 : u3.1 60 3 = x4 := ex4.symm
    refine g_icmp_ge (tgt := 35) dX7_findHeld_7 (by decide) (fun c6 => ?_) (fun c6 => ?_)
    · refine g_iload_n dX7_findHeld_35 rfl ?_
      refine g_istore_n dX7_findHeld_36 (by decide) ?_
      refine g_pick (lv' := [(0, .ref (uk_ad G 60)), (1, .int m), (2, .int m)]) [0, 1, 2] rfl ?_
      have L37_6 : ∀ i8 : Int32, -1 ≤ i8 → ∀ (u9 : uk_Mem), iv u9 → fk [70] [] u u9 → ri u9 → i8 ≤ 7 → i8 < u.1 60 3 → uk_G G X mX7_findHeld (d + 1) (q_X7_findHeld u m) 37 [(0, .ref (uk_ad G 60)), (1, .int m), (2, .int i8)] [] u9 := by
        refine uk_dnl ?_
        intro i8 ai8 ihi8  u9 hu9 fu9 riu9 ji80 ji81
        have C61_u9 : u9.1 61 = u9.1 61 := rfl
        have wu9_60_3 : u9.1 60 3 = u.1 60 3 := fk_at fu9 (by decide)
        refine g_iload_n dX7_findHeld_37 rfl ?_
        refine g_if_lt (tgt := 95) dX7_findHeld_38 (by decide) (fun c10 => ?_) (fun c10 => ?_)
        · exact g_vret dX7_findHeld_95 rfl ⟨rfl, hu9, fu9, riu9⟩
        · refine g_aload_n dX7_findHeld_41 rfl ?_
          refine g_iload_n dX7_findHeld_42 rfl ?_
          refine cl_X7_166 (c := 60) (As := [.int i8]) rfl (c_X7_isRaw (G := G) hs hu9  i8 (by first | trivial | decide | lia | grind) (by first | trivial | decide | lia | grind) (d)) rfl (by omega) rfl rfl (Nat.le_of_ble_eq_true rfl) dX7_findHeld_43 (fun r11 u12 q13 => ?_)
          obtain ⟨⟨x14, rfl, tx14, nx14, zx14⟩, mq13⟩ := q13
          rw [mq13]
          refine g_if_ne (tgt := 89) dX7_findHeld_46 (by decide) (fun c15 => ?_) (fun c15 => ?_)
          · have zc15 := nx14 c15
            refine g_iinc (v := i8 - 1) dX7_findHeld_89 rfl (uk_m1 _) (by decide) ?_
            refine g_pick (lv' := [(0, .ref (uk_ad G 60)), (1, .int m), (2, .int (i8 - 1))]) [0, 1, 2] rfl ?_
            refine g_goto (tgt := 37) dX7_findHeld_92 (by decide) ?_
            refine g_pick (lv' := [(0, .ref (uk_ad G 60)), (1, .int m), (2, .int (i8 - 1))]) [0, 1, 2] rfl ?_
            exact ihi8 (by first | lia | grind)  u9 hu9 fu9 riu9 (by first | trivial | lia | grind) (by first | trivial | lia | grind)
          · have zc15 := zx14 c15
            refine g_aload_n dX7_findHeld_49 rfl ?_
            refine f_X7_38 rfl rfl dX7_findHeld_50 ?_
            refine g_aload_n dX7_findHeld_53 rfl ?_
            refine f_X7_20 rfl rfl dX7_findHeld_54 ?_
            refine g_iload_n dX7_findHeld_57 rfl ?_
            have v16 : vp_in i8 8 := uk_vin 8 rfl (by first | decide | lia | grind) (by first | decide | lia | grind)
            refine g_iald rfl rfl v16 dX7_findHeld_58 ?_
            refine g_topi (fun x17 ex17 => ?_)
            have bx17 := uk_cl v16
            have rx17 : (-4) ≤ x17 ∧ x17 ≤ 7 := by rw [ex17]; exact iv_at hu9 _ _ (uk_pick1 _ (by omega))
            have hqx17 := (riu9.1 i8 (by lia) (by rw [fk_at (c := 60) (i := 3) fu9 (by decide)]; first | lia | grind) (by lia)).resolve_left (by grind)
            have hpx17 : 0 ≤ x17 ∧ x17 < i8 := by rw [ex17]; exact ⟨hqx17.1, hqx17.2.1⟩
            refine g_dup2 dX7_findHeld_59 rfl rfl ?_
            have v18 : vp_in x17 8 := uk_vin 8 rfl (by first | decide | lia | grind) (by first | decide | lia | grind)
            refine g_iald rfl rfl v18 dX7_findHeld_60 ?_
            refine g_topi (fun x19 ex19 => ?_)
            refine g_aload_n dX7_findHeld_61 rfl ?_
            refine f_X7_38 rfl rfl dX7_findHeld_62 ?_
            refine g_iload_n dX7_findHeld_65 rfl ?_
            have v20 : vp_in i8 8 := uk_vin 8 rfl (by first | decide | lia | grind) (by first | decide | lia | grind)
            refine g_iald rfl rfl v20 dX7_findHeld_66 ?_
            refine g_topi (fun x21 ex21 => ?_)
            refine g_iadd dX7_findHeld_67 ?_
            refine g_topi (fun x22 ex22 => ?_)
            have v23 : vp_in x17 8 := uk_vin 8 rfl (by first | decide | lia | grind) (by first | decide | lia | grind)
            have b24 := uk_cl v23
            refine g_iast rfl rfl v23 dX7_findHeld_68 ?_
            refine g_mem (fun u25 eu25 => ?_)
            have hu25 : iv u25 := by rw [eu25]; exact iv_upF hu9 (uk_pick1 _ (by omega))
            have fu25 : fk [70] [] u u25 := by rw [eu25]; exact fk_up fu9 (by decide) (fun q => absurd q (by decide))
            have riu25 : ri u25 := by rw [eu25]; exact ri_1 riu9 (by decide) (fun q => absurd q (by decide))
            have C26 : u25.1 61 = u9.1 61 := by rw [eu25]; exact (uk_up_oc (by decide)).trans C61_u9
            refine g_aload_n dX7_findHeld_69 rfl ?_
            refine f_X7_38 rfl rfl dX7_findHeld_70 ?_
            refine g_aload_n dX7_findHeld_73 rfl ?_
            refine f_X7_23 rfl rfl dX7_findHeld_74 ?_
            refine g_iload_n dX7_findHeld_77 rfl ?_
            have v27 : vp_in i8 8 := uk_vin 8 rfl (by first | decide | lia | grind) (by first | decide | lia | grind)
            refine g_iald rfl rfl v27 dX7_findHeld_78 ?_
            refine g_topi (fun x28 ex28 => ?_)
            have bx28 := uk_cl v27
            have rx28 : (-4) ≤ x28 ∧ x28 ≤ 7 := by rw [ex28]; exact iv_at hu25 _ _ (uk_pick1 _ (by omega))
            have kx28 : ¬ u25.1 61 (32 + i8).toNatClampNeg = 4 := by rw [C26]; assumption
            have hqx28 := (riu25.1 i8 (by lia) (by rw [fk_at (c := 60) (i := 3) fu25 (by decide)]; first | lia | grind) (by lia)).resolve_left kx28
            have hpx28 : 0 ≤ x28 ∧ x28 < i8 := by rw [ex28]; exact ⟨hqx28.2.2.1, hqx28.2.2.2⟩
            refine g_dup2 dX7_findHeld_79 rfl rfl ?_
            have v29 : vp_in x28 8 := uk_vin 8 rfl (by first | decide | lia | grind) (by first | decide | lia | grind)
            refine g_iald rfl rfl v29 dX7_findHeld_80 ?_
            refine g_topi (fun x30 ex30 => ?_)
            refine g_aload_n dX7_findHeld_81 rfl ?_
            refine f_X7_38 rfl rfl dX7_findHeld_82 ?_
            refine g_iload_n dX7_findHeld_85 rfl ?_
            have v31 : vp_in i8 8 := uk_vin 8 rfl (by first | decide | lia | grind) (by first | decide | lia | grind)
            refine g_iald rfl rfl v31 dX7_findHeld_86 ?_
            refine g_topi (fun x32 ex32 => ?_)
            refine g_iadd dX7_findHeld_87 ?_
            refine g_topi (fun x33 ex33 => ?_)
            have v34 : vp_in x28 8 := uk_vin 8 rfl (by first | decide | lia | grind) (by first | decide | lia | grind)
            have b35 := uk_cl v34
            refine g_iast rfl rfl v34 dX7_findHeld_88 ?_
            refine g_mem (fun u36 eu36 => ?_)
            have hu36 : iv u36 := by rw [eu36]; exact iv_upF hu25 (uk_pick1 _ (by omega))
            have fu36 : fk [70] [] u u36 := by rw [eu36]; exact fk_up fu25 (by decide) (fun q => absurd q (by decide))
            have riu36 : ri u36 := by rw [eu36]; exact ri_1 riu25 (by decide) (fun q => absurd q (by decide))
            have C37 : u36.1 61 = u9.1 61 := by rw [eu36]; exact (uk_up_oc (by decide)).trans C26
            refine g_iinc (v := i8 - 1) dX7_findHeld_89 rfl (uk_m1 _) (by decide) ?_
            refine g_pick (lv' := [(0, .ref (uk_ad G 60)), (1, .int m), (2, .int (i8 - 1))]) [0, 1, 2] rfl ?_
            refine g_goto (tgt := 37) dX7_findHeld_92 (by decide) ?_
            refine g_pick (lv' := [(0, .ref (uk_ad G 60)), (1, .int m), (2, .int (i8 - 1))]) [0, 1, 2] rfl ?_
            exact ihi8 (by first | lia | grind)  u36 hu36 fu36 riu36 (by first | trivial | lia | grind) (by first | trivial | lia | grind)
      refine g_pick (lv' := [(0, .ref (uk_ad G 60)), (1, .int m), (2, .int m)]) [0, 1, 2] rfl ?_
      exact L37_6 m (by first | decide | lia | grind)  u3 hu3 fu3 riu3 (by first | trivial | lia | grind) (by first | trivial | lia | grind)
    · refine g_aload_n dX7_findHeld_10 rfl ?_
      refine f_X7_38 rfl rfl dX7_findHeld_11 ?_
      refine g_iload_n dX7_findHeld_14 rfl ?_
      refine g_iload_n dX7_findHeld_15 rfl ?_
      refine g_iload_n dX7_findHeld_16 rfl ?_
      refine g_icmp_ne (tgt := 24) dX7_findHeld_17 (by decide) (fun c38 => ?_) (fun c38 => ?_)
      · refine g_iconst (v := 0) dX7_findHeld_24 (by decide) ?_
        refine cl_X7_169 (As := [.int 0]) rfl (c_X7_flag (G := G) hs hu3  0  (d)) rfl (by omega) rfl (Nat.le_of_ble_eq_true rfl) dX7_findHeld_25 (fun r39 u40 q41 => ?_)
        obtain ⟨⟨x42, rfl, tx42⟩, mq41⟩ := q41
        rw [mq41]
        have v43 : vp_in i2 8 := uk_vin 8 rfl (by first | decide | lia | grind) (by first | decide | lia | grind)
        have b44 := uk_cl v43
        refine g_iast rfl rfl v43 dX7_findHeld_28 ?_
        refine g_mem (fun u45 eu45 => ?_)
        have hu45 : iv u45 := by rw [eu45]; exact iv_upF hu3 (uk_pick1 _ (by omega))
        have fu45 : fk [70] [] u u45 := by rw [eu45]; exact fk_up fu3 (by decide) (fun q => absurd q (by decide))
        have riu45 : ri u45 := by rw [eu45]; exact ri_1 riu3 (by decide) (fun q => absurd q (by decide))
        refine g_iinc (v := i2 + 1) dX7_findHeld_29 rfl rfl (by decide) ?_
        refine g_pick (lv' := [(0, .ref (uk_ad G 60)), (1, .int m), (2, .int (i2 + 1))]) [0, 1, 2] rfl ?_
        refine g_goto (tgt := 2) dX7_findHeld_32 (by decide) ?_
        refine g_pick (lv' := [(0, .ref (uk_ad G 60)), (1, .int m), (2, .int (i2 + 1))]) [0, 1, 2] rfl ?_
        exact ihi2 (by first | lia | grind)  u45 hu45 fu45 riu45 
      · refine g_iconst (v := 1) dX7_findHeld_20 (by decide) ?_
        refine g_goto (tgt := 25) dX7_findHeld_21 (by decide) ?_
        refine cl_X7_169 (As := [.int 1]) rfl (c_X7_flag (G := G) hs hu3  1  (d)) rfl (by omega) rfl (Nat.le_of_ble_eq_true rfl) dX7_findHeld_25 (fun r46 u47 q48 => ?_)
        obtain ⟨⟨x49, rfl, tx49⟩, mq48⟩ := q48
        rw [mq48]
        have v50 : vp_in i2 8 := uk_vin 8 rfl (by first | decide | lia | grind) (by first | decide | lia | grind)
        have b51 := uk_cl v50
        refine g_iast rfl rfl v50 dX7_findHeld_28 ?_
        refine g_mem (fun u52 eu52 => ?_)
        have hu52 : iv u52 := by rw [eu52]; exact iv_upF hu3 (uk_pick1 _ (by omega))
        have fu52 : fk [70] [] u u52 := by rw [eu52]; exact fk_up fu3 (by decide) (fun q => absurd q (by decide))
        have riu52 : ri u52 := by rw [eu52]; exact ri_1 riu3 (by decide) (fun q => absurd q (by decide))
        refine g_iinc (v := i2 + 1) dX7_findHeld_29 rfl rfl (by decide) ?_
        refine g_pick (lv' := [(0, .ref (uk_ad G 60)), (1, .int m), (2, .int (i2 + 1))]) [0, 1, 2] rfl ?_
        refine g_goto (tgt := 2) dX7_findHeld_32 (by decide) ?_
        refine g_pick (lv' := [(0, .ref (uk_ad G 60)), (1, .int m), (2, .int (i2 + 1))]) [0, 1, 2] rfl ?_
        exact ihi2 (by first | lia | grind)  u52 hu52 fu52 riu52 
  refine g_pick (lv' := [(0, .ref (uk_ad G 60)), (1, .int m), (2, .int 0)]) [0, 1, 2] rfl ?_
  exact L2_0 0 (by first | decide | lia | grind) (by first | decide | lia | grind)  u hu f0 hri 
abbrev q_X7_holds (u : uk_Mem) (m : Int32) (b : Int32) (r : Option Value) (u' : uk_Mem) : Prop := (∃ x : Int32, r = some (.int x) ∧ True) ∧ (iv u' ∧ fk [70] [] u u' ∧ ri u')
set_option maxHeartbeats 4000000 in
set_option maxRecDepth 20000 in
theorem c_X7_holds {G : uk_D} (hs : uk_Sep G) {u : uk_Mem} (hu : iv u) (hri : ri u) (m : Int32) (b : Int32) (d : Nat) : uk_Meth G (d + 2) mX7_holds [.ref (uk_ad G 60), .int m, .int b] u (q_X7_holds u m b) := by
  refine uk_Meth.of hs (by decide) (Nat.le_of_ble_eq_true rfl) (fun X => ?_)
  have f0 : fk [70] [] u u := fk_rf
  refine g_aload_n dX7_holds_0 rfl ?_
  refine g_iload_n dX7_holds_1 rfl ?_
  refine cl_X7_163 (c := 60) (As := [.int m]) rfl (c_X7_isStuff (G := G) hs hu  m  (d)) rfl (by omega) rfl rfl (Nat.le_of_ble_eq_true rfl) dX7_holds_2 (fun r1 u2 q3 => ?_)
  obtain ⟨⟨x4, rfl, tx4, nx4, zx4⟩, mq3⟩ := q3
  rw [mq3]
  refine g_if_eq (tgt := 16) dX7_holds_5 (by decide) (fun c5 => ?_) (fun c5 => ?_)
  · have zc5 := zx4 c5
    refine g_iconst (v := (-1)) dX7_holds_16 (by decide) ?_
    exact g_iret (ty := .int) dX7_holds_17 rfl rfl ⟨⟨_, rfl, by first | trivial | lia | grind⟩, hu, f0, hri⟩
  · have zc5 := nx4 c5
    refine g_aload_n dX7_holds_8 rfl ?_
    refine g_iload_n dX7_holds_9 rfl ?_
    refine cl_X7_163 (c := 60) (As := [.int b]) rfl (c_X7_isStuff (G := G) hs hu  b  (d)) rfl (by omega) rfl rfl (Nat.le_of_ble_eq_true rfl) dX7_holds_10 (fun r6 u7 q8 => ?_)
    obtain ⟨⟨x9, rfl, tx9, nx9, zx9⟩, mq8⟩ := q8
    rw [mq8]
    refine g_if_ne (tgt := 18) dX7_holds_13 (by decide) (fun c10 => ?_) (fun c10 => ?_)
    · have zc10 := nx9 c10
      refine g_aload_n dX7_holds_18 rfl ?_
      refine g_iload_n dX7_holds_19 rfl ?_
      refine cl_X7_166 (c := 60) (As := [.int b]) rfl (c_X7_isRaw (G := G) hs hu  b (by first | trivial | decide | lia | grind) (by first | trivial | decide | lia | grind) (d + 1)) rfl (by omega) rfl rfl (Nat.le_of_ble_eq_true rfl) dX7_holds_20 (fun r11 u12 q13 => ?_)
      obtain ⟨⟨x14, rfl, tx14, nx14, zx14⟩, mq13⟩ := q13
      rw [mq13]
      refine g_if_ne (tgt := 29) dX7_holds_23 (by decide) (fun c15 => ?_) (fun c15 => ?_)
      · have zc15 := nx14 c15
        refine g_aload_n dX7_holds_29 rfl ?_
        refine g_iload_n dX7_holds_30 rfl ?_
        refine cl_X7_204 (c := 60) (As := [.int m]) rfl (c_X7_findHeld (G := G) hs hu hri  m (by first | trivial | decide | lia | grind) (by first | trivial | decide | lia | grind) (by first | trivial | decide | lia | grind) (d)) rfl (by omega) rfl rfl (Nat.le_of_ble_eq_true rfl) dX7_holds_31 (fun r16 u17 q18 => ?_)
        obtain ⟨rfl, mq18⟩ := q18
        obtain ⟨hu17, gu17, riu17⟩ := mq18
        have fu17 : fk [70] [] u u17 := fk_tr f0 gu17 (by decide) (by decide)
        have wu17_60_3 : u17.1 60 3 = u.1 60 3 := fk_at gu17 (by decide)
        refine g_aload_n dX7_holds_34 rfl ?_
        refine f_X7_38 rfl rfl dX7_holds_35 ?_
        refine g_iload_n dX7_holds_38 rfl ?_
        have v19 : vp_in b 8 := uk_vin 8 rfl (by first | decide | lia | grind) (by first | decide | lia | grind)
        refine g_iald rfl rfl v19 dX7_holds_39 ?_
        refine g_topi (fun x20 ex20 => ?_)
        exact g_iret (ty := .int) dX7_holds_40 rfl rfl ⟨⟨_, rfl, by first | trivial | lia | grind⟩, hu17, fu17, riu17⟩
      · have zc15 := zx14 c15
        refine g_bipush (v := (-2)) dX7_holds_26 (by decide) ?_
        exact g_iret (ty := .int) dX7_holds_28 rfl rfl ⟨⟨_, rfl, by first | trivial | lia | grind⟩, hu, f0, hri⟩
    · have zc10 := zx9 c10
      refine g_iconst (v := (-1)) dX7_holds_16 (by decide) ?_
      exact g_iret (ty := .int) dX7_holds_17 rfl rfl ⟨⟨_, rfl, by first | trivial | lia | grind⟩, hu, f0, hri⟩
abbrev q_X7_cost (u : uk_Mem) (m : Int32) (r : Option Value) (u' : uk_Mem) : Prop := (∃ x : Int32, r = some (.int x) ∧ True) ∧ (iv u' ∧ fk [70] [] u u' ∧ ri u')
set_option maxHeartbeats 4000000 in
set_option maxRecDepth 20000 in
theorem c_X7_cost {G : uk_D} (hs : uk_Sep G) {u : uk_Mem} (hu : iv u) (hri : ri u) (m : Int32) (d : Nat) : uk_Meth G (d + 2) mX7_cost [.ref (uk_ad G 60), .int m] u (q_X7_cost u m) := by
  refine uk_Meth.of hs (by decide) (Nat.le_of_ble_eq_true rfl) (fun X => ?_)
  have f0 : fk [70] [] u u := fk_rf
  refine g_aload_n dX7_cost_0 rfl ?_
  refine g_iload_n dX7_cost_1 rfl ?_
  refine cl_X7_163 (c := 60) (As := [.int m]) rfl (c_X7_isStuff (G := G) hs hu  m  (d)) rfl (by omega) rfl rfl (Nat.le_of_ble_eq_true rfl) dX7_cost_2 (fun r1 u2 q3 => ?_)
  obtain ⟨⟨x4, rfl, tx4, nx4, zx4⟩, mq3⟩ := q3
  rw [mq3]
  refine g_if_ne (tgt := 10) dX7_cost_5 (by decide) (fun c5 => ?_) (fun c5 => ?_)
  · have zc5 := nx4 c5
    refine g_iconst (v := 0) dX7_cost_10 (by decide) ?_
    refine g_istore_n dX7_cost_11 (by decide) ?_
    refine g_pick (lv' := [(0, .ref (uk_ad G 60)), (1, .int m), (2, .int 0)]) [0, 1, 2] rfl ?_
    refine g_aload_n dX7_cost_12 rfl ?_
    refine g_iload_n dX7_cost_13 rfl ?_
    refine cl_X7_204 (c := 60) (As := [.int m]) rfl (c_X7_findHeld (G := G) hs hu hri  m (by first | trivial | decide | lia | grind) (by first | trivial | decide | lia | grind) (by first | trivial | decide | lia | grind) (d)) rfl (by omega) rfl rfl (Nat.le_of_ble_eq_true rfl) dX7_cost_14 (fun r6 u7 q8 => ?_)
    obtain ⟨rfl, mq8⟩ := q8
    obtain ⟨hu7, gu7, riu7⟩ := mq8
    have fu7 : fk [70] [] u u7 := fk_tr f0 gu7 (by decide) (by decide)
    have wu7_60_3 : u7.1 60 3 = u.1 60 3 := fk_at gu7 (by decide)
    refine g_iconst (v := 0) dX7_cost_17 (by decide) ?_
    refine g_istore_n dX7_cost_18 (by decide) ?_
    refine g_pick (lv' := [(0, .ref (uk_ad G 60)), (1, .int m), (2, .int 0), (3, .int 0)]) [0, 1, 2, 3] rfl ?_
    have L19_8 : ∀ i11 : Int32, 0 ≤ i11 → i11 ≤ 8 → ∀ (w10 : Int32), uk_G G X mX7_cost (d + 2) (q_X7_cost u m) 19 [(0, .ref (uk_ad G 60)), (1, .int m), (2, .int w10), (3, .int i11)] [] u7 := by
      refine uk_upl 8 ?_
      intro i11 ai11 bi11 ihi11 w10
      refine g_iload_n dX7_cost_19 rfl ?_
      refine g_aload_n dX7_cost_20 rfl ?_
      refine f_X7_79 rfl rfl dX7_cost_21 ?_
      refine g_topi (fun x12 ex12 => ?_)
      have rx12 : 0 ≤ x12 ∧ x12 ≤ 8 := by rw [ex12]; exact iv_at hu7 _ _ rfl
      have s13 : u7.1 60 3 = x12 := ex12.symm
      refine g_icmp_ge (tgt := 64) dX7_cost_24 (by decide) (fun c14 => ?_) (fun c14 => ?_)
      · refine g_iload_n dX7_cost_64 rfl ?_
        exact g_iret (ty := .int) dX7_cost_65 rfl rfl ⟨⟨_, rfl, by first | trivial | lia | grind⟩, hu7, fu7, riu7⟩
      · refine g_iload_n dX7_cost_27 rfl ?_
        refine g_aload_n dX7_cost_28 rfl ?_
        refine g_iload_n dX7_cost_29 rfl ?_
        refine cl_X7_166 (c := 60) (As := [.int i11]) rfl (c_X7_isRaw (G := G) hs hu7  i11 (by first | trivial | decide | lia | grind) (by first | trivial | decide | lia | grind) (d + 1)) rfl (by omega) rfl rfl (Nat.le_of_ble_eq_true rfl) dX7_cost_30 (fun r15 u16 q17 => ?_)
        obtain ⟨⟨x18, rfl, tx18, nx18, zx18⟩, mq17⟩ := q17
        rw [mq17]
        refine g_if_eq (tgt := 55) dX7_cost_33 (by decide) (fun c19 => ?_) (fun c19 => ?_)
        · have zc19 := zx18 c19
          refine g_iconst (v := 0) dX7_cost_55 (by decide) ?_
          refine g_iadd dX7_cost_56 ?_
          refine g_topi (fun x20 ex20 => ?_)
          refine g_istore_n dX7_cost_57 (by decide) ?_
          refine g_pick (lv' := [(0, .ref (uk_ad G 60)), (1, .int m), (2, .int x20), (3, .int i11)]) [0, 1, 2, 3] rfl ?_
          refine g_iinc (v := i11 + 1) dX7_cost_58 rfl rfl (by decide) ?_
          refine g_pick (lv' := [(0, .ref (uk_ad G 60)), (1, .int m), (2, .int x20), (3, .int (i11 + 1))]) [0, 1, 2, 3] rfl ?_
          refine g_goto (tgt := 19) dX7_cost_61 (by decide) ?_
          refine g_pick (lv' := [(0, .ref (uk_ad G 60)), (1, .int m), (2, .int x20), (3, .int (i11 + 1))]) [0, 1, 2, 3] rfl ?_
          exact ihi11 (by first | lia | grind) x20 
        · have zc19 := nx18 c19
          refine g_aload_n dX7_cost_36 rfl ?_
          refine f_X7_38 rfl rfl dX7_cost_37 ?_
          refine g_iload_n dX7_cost_40 rfl ?_
          have v21 : vp_in i11 8 := uk_vin 8 rfl (by first | decide | lia | grind) (by first | decide | lia | grind)
          refine g_iald rfl rfl v21 dX7_cost_41 ?_
          refine g_topi (fun x22 ex22 => ?_)
          refine g_aload_n dX7_cost_42 rfl ?_
          refine f_X7_7 rfl rfl dX7_cost_43 ?_
          refine g_bipush (v := 24) dX7_cost_46 (by decide) ?_
          refine g_iload_n dX7_cost_48 rfl ?_
          refine g_iadd dX7_cost_49 ?_
          refine g_topi (fun x23 ex23 => ?_)
          have v24 : vp_in x23 153 := uk_vin 153 rfl (by first | decide | lia | grind) (by first | decide | lia | grind)
          refine g_iald rfl rfl v24 dX7_cost_50 ?_
          refine g_topi (fun x25 ex25 => ?_)
          have bx25 := uk_cl v24
          refine g_imul dX7_cost_51 ?_
          refine g_topi (fun x26 ex26 => ?_)
          refine g_goto (tgt := 56) dX7_cost_52 (by decide) ?_
          refine g_iadd dX7_cost_56 ?_
          refine g_topi (fun x27 ex27 => ?_)
          refine g_istore_n dX7_cost_57 (by decide) ?_
          refine g_pick (lv' := [(0, .ref (uk_ad G 60)), (1, .int m), (2, .int x27), (3, .int i11)]) [0, 1, 2, 3] rfl ?_
          refine g_iinc (v := i11 + 1) dX7_cost_58 rfl rfl (by decide) ?_
          refine g_pick (lv' := [(0, .ref (uk_ad G 60)), (1, .int m), (2, .int x27), (3, .int (i11 + 1))]) [0, 1, 2, 3] rfl ?_
          refine g_goto (tgt := 19) dX7_cost_61 (by decide) ?_
          refine g_pick (lv' := [(0, .ref (uk_ad G 60)), (1, .int m), (2, .int x27), (3, .int (i11 + 1))]) [0, 1, 2, 3] rfl ?_
          exact ihi11 (by first | lia | grind) x27 
    refine g_pick (lv' := [(0, .ref (uk_ad G 60)), (1, .int m), (2, .int 0), (3, .int 0)]) [0, 1, 2, 3] rfl ?_
    exact L19_8 0 (by first | decide | lia | grind) (by first | decide | lia | grind) 0 
  · have zc5 := zx4 c5
    refine g_iconst (v := (-1)) dX7_cost_8 (by decide) ?_
    exact g_iret (ty := .int) dX7_cost_9 rfl rfl ⟨⟨_, rfl, by first | trivial | lia | grind⟩, hu, f0, hri⟩
abbrev q_X7_doingIn (u : uk_Mem) (c : Int32) (n : Int32) (i : Int32) (r : Option Value) (u' : uk_Mem) : Prop := (∃ x : Int32, r = some (.int x) ∧ True) ∧ (u' = u)
set_option maxHeartbeats 4000000 in
set_option maxRecDepth 20000 in
theorem c_X7_doingIn {G : uk_D} (hs : uk_Sep G) {u : uk_Mem} (hu : iv u) (c : Int32) (n : Int32) (i : Int32) (p0 : 0 ≤ i) (p1 : i < n) (p2 : n ≤ 4) (d : Nat) : uk_Meth G (d + 1) mX7_doingIn [.ref (uk_ad G 60), .int c, .int n, .int i] u (q_X7_doingIn u c n i) := by
  refine uk_Meth.of hs (by decide) (Nat.le_of_ble_eq_true rfl) (fun X => ?_)
  refine g_iload_n dX7_doingIn_0 rfl ?_
  refine g_aload_n dX7_doingIn_1 rfl ?_
  refine g_iload_n dX7_doingIn_2 rfl ?_
  refine g_iconst (v := 1) dX7_doingIn_3 (by decide) ?_
  refine g_isub dX7_doingIn_4 ?_
  refine g_topi (fun x1 ex1 => ?_)
  refine g_iload_n dX7_doingIn_5 rfl ?_
  refine g_isub dX7_doingIn_6 ?_
  refine g_topi (fun x2 ex2 => ?_)
  refine cl_X7_241 (c := 60) (As := [.int x2]) rfl (c_X7_baseTo (G := G) hs hu  x2 (by first | trivial | decide | lia | grind) (d)) rfl (by omega) rfl rfl (Nat.le_of_ble_eq_true rfl) dX7_doingIn_7 (fun r3 u4 q5 => ?_)
  obtain ⟨⟨x6, rfl, tx6⟩, mq5⟩ := q5
  rw [mq5]
  refine g_idiv dX7_doingIn_10 (by first | decide | lia | grind) ?_
  refine g_topi (fun x7 ex7 => ?_)
  refine g_bipush (v := 16) dX7_doingIn_11 (by decide) ?_
  refine g_irem dX7_doingIn_13 (by first | decide | lia | grind) ?_
  refine g_topi (fun x8 ex8 => ?_)
  refine g_istore dX7_doingIn_14 (by decide) ?_
  refine g_pick (lv' := [(0, .ref (uk_ad G 60)), (1, .int c), (2, .int n), (3, .int i), (4, .int x8)]) [0, 1, 2, 3, 4] rfl ?_
  refine g_iload dX7_doingIn_16 rfl ?_
  refine g_bipush (v := 8) dX7_doingIn_18 (by decide) ?_
  refine g_icmp_ge (tgt := 28) dX7_doingIn_20 (by decide) (fun c9 => ?_) (fun c9 => ?_)
  · refine g_bipush (v := 10) dX7_doingIn_28 (by decide) ?_
    refine g_iload dX7_doingIn_30 rfl ?_
    refine g_iadd dX7_doingIn_32 ?_
    refine g_topi (fun x10 ex10 => ?_)
    refine g_bipush (v := 8) dX7_doingIn_33 (by decide) ?_
    refine g_isub dX7_doingIn_35 ?_
    refine g_topi (fun x11 ex11 => ?_)
    exact g_iret (ty := .int) dX7_doingIn_36 rfl rfl ⟨⟨_, rfl, by first | trivial | lia | grind⟩, rfl⟩
  · refine g_iload dX7_doingIn_23 rfl ?_
    refine g_goto (tgt := 36) dX7_doingIn_25 (by decide) ?_
    exact g_iret (ty := .int) dX7_doingIn_36 rfl rfl ⟨⟨_, rfl, by first | trivial | lia | grind⟩, rfl⟩
abbrev q_X7_doRow (u : uk_Mem) (c : Int32) (n : Int32) (r : Option Value) (u' : uk_Mem) : Prop := (∃ x : Int32, r = some (.int x) ∧ (x = 0 ∨ x = 1) ∧ (¬ x = 0 → True) ∧ (x = 0 → True)) ∧ (iv u' ∧ fk [62] [] u u' ∧ ri u')
set_option maxHeartbeats 4000000 in
set_option maxRecDepth 20000 in
theorem c_X7_doRow {G : uk_D} (hs : uk_Sep G) {u : uk_Mem} (hu : iv u) (hri : ri u) (c : Int32) (n : Int32) (p0 : n ≤ 4) (d : Nat) : uk_Meth G (d + 3) mX7_doRow [.ref (uk_ad G 60), .int c, .int n] u (q_X7_doRow u c n) := by
  refine uk_Meth.of hs (by decide) (Nat.le_of_ble_eq_true rfl) (fun X => ?_)
  have f0 : fk [62] [] u u := fk_rf
  refine g_aload_n dX7_doRow_0 rfl ?_
  refine cl_X7_185 (c := 60) (As := []) rfl (c_X7_starts (G := G) hs hu hri    (d + 2)) rfl (by omega) rfl rfl (Nat.le_of_ble_eq_true rfl) dX7_doRow_1 (fun r1 u2 q3 => ?_)
  obtain ⟨rfl, mq3⟩ := q3
  obtain ⟨hu2, gu2, rau2, ku20⟩ := mq3
  have fu2 : fk [62] [] u u2 := fk_tr f0 gu2 (by decide) (by decide)
  have riu2 : ri u2 := ri_fk hri gu2 (by decide) (by decide) (by decide) (by decide) (by decide)
  have wu2_60_3 : u2.1 60 3 = u.1 60 3 := fk_at gu2 (by decide)
  refine g_iconst (v := 0) dX7_doRow_4 (by decide) ?_
  refine g_istore_n dX7_doRow_5 (by decide) ?_
  refine g_pick (lv' := [(0, .ref (uk_ad G 60)), (1, .int c), (2, .int n), (3, .int 0)]) [0, 1, 2, 3] rfl ?_
  have L6_3 : ∀ i5 : Int32, 0 ≤ i5 → i5 ≤ 4 → ∀ (u6 : uk_Mem), iv u6 → fk [62] [] u u6 → ri u6 → ra u6 → uk_G G X mX7_doRow (d + 3) (q_X7_doRow u c n) 6 [(0, .ref (uk_ad G 60)), (1, .int c), (2, .int n), (3, .int i5)] [] u6 := by
    refine uk_upl 4 ?_
    intro i5 ai5 bi5 ihi5  u6 hu6 fu6 riu6 rau6
    have wu6_60_3 : u6.1 60 3 = u.1 60 3 := fk_at fu6 (by decide)
    refine g_iload_n dX7_doRow_6 rfl ?_
    refine g_iload_n dX7_doRow_7 rfl ?_
    refine g_icmp_ge (tgt := 52) dX7_doRow_8 (by decide) (fun c7 => ?_) (fun c7 => ?_)
    · refine g_iconst (v := 1) dX7_doRow_52 (by decide) ?_
      exact g_iret (ty := .boolean) dX7_doRow_53 rfl rfl ⟨⟨1, rfl, Or.inr rfl, fun _ => by first | trivial | lia | grind, fun q => absurd q (by decide)⟩, hu6, fu6, riu6⟩
    · refine g_aload_n dX7_doRow_11 rfl ?_
      refine g_iload_n dX7_doRow_12 rfl ?_
      refine g_iload_n dX7_doRow_13 rfl ?_
      refine g_iload_n dX7_doRow_14 rfl ?_
      refine cl_X7_244 (c := 60) (As := [.int c, .int n, .int i5]) rfl (c_X7_doingIn (G := G) hs hu6  c n i5 (by first | trivial | decide | lia | grind) (by first | trivial | decide | lia | grind) (by first | trivial | decide | lia | grind) (d + 1)) rfl (by omega) rfl rfl (Nat.le_of_ble_eq_true rfl) dX7_doRow_15 (fun r8 u9 q10 => ?_)
      obtain ⟨⟨x11, rfl, tx11⟩, mq10⟩ := q10
      rw [mq10]
      refine g_istore dX7_doRow_18 (by decide) ?_
      refine g_pick (lv' := [(0, .ref (uk_ad G 60)), (1, .int c), (2, .int n), (3, .int i5), (4, .int x11)]) [0, 1, 2, 3, 4] rfl ?_
      refine g_aload_n dX7_doRow_20 rfl ?_
      refine g_iload dX7_doRow_21 rfl ?_
      refine cl_X7_182 (c := 60) (As := [.int x11]) rfl (c_X7_isDoing (G := G) hs hu6  x11  (d)) rfl (by omega) rfl rfl (Nat.le_of_ble_eq_true rfl) dX7_doRow_23 (fun r12 u13 q14 => ?_)
      obtain ⟨⟨x15, rfl, tx15, nx15, zx15⟩, mq14⟩ := q14
      rw [mq14]
      refine g_if_eq (tgt := 38) dX7_doRow_26 (by decide) (fun c16 => ?_) (fun c16 => ?_)
      · have zc16 := zx15 c16
        refine g_iconst (v := 0) dX7_doRow_38 (by decide) ?_
        exact g_iret (ty := .boolean) dX7_doRow_39 rfl rfl ⟨⟨0, rfl, Or.inl rfl, fun q => absurd rfl q, fun _ => by first | trivial | lia | grind⟩, hu6, fu6, riu6⟩
      · have zc16 := nx15 c16
        refine g_aload_n dX7_doRow_29 rfl ?_
        refine g_iload dX7_doRow_30 rfl ?_
        refine cl_X7_188 (c := 60) (As := [.int x11]) rfl (c_X7_canDo (G := G) hs hu6 rau6  x11 (by first | trivial | decide | lia | grind) (d)) rfl (by omega) rfl rfl (Nat.le_of_ble_eq_true rfl) dX7_doRow_32 (fun r17 u18 q19 => ?_)
        obtain ⟨⟨x20, rfl, tx20, nx20, zx20⟩, mq19⟩ := q19
        rw [mq19]
        refine g_if_ne (tgt := 40) dX7_doRow_35 (by decide) (fun c21 => ?_) (fun c21 => ?_)
        · have zc21 := nx20 c21
          refine g_aload_n dX7_doRow_40 rfl ?_
          refine g_iload dX7_doRow_41 rfl ?_
          refine cl_X7_191 (c := 60) (As := [.int x11]) rfl (c_X7_doIt (G := G) hs hu6 rau6  x11 (by first | trivial | decide | lia | grind) (by first | trivial | decide | lia | grind) (by first | trivial | decide | lia | grind) (d + 1)) rfl (by omega) rfl rfl (Nat.le_of_ble_eq_true rfl) dX7_doRow_43 (fun r22 u23 q24 => ?_)
          obtain ⟨rfl, mq24⟩ := q24
          obtain ⟨hu23, gu23, rau23⟩ := mq24
          have fu23 : fk [62] [] u u23 := fk_tr fu6 gu23 (by decide) (by decide)
          have riu23 : ri u23 := ri_fk riu6 gu23 (by decide) (by decide) (by decide) (by decide) (by decide)
          have wu23_60_3 : u23.1 60 3 = u6.1 60 3 := fk_at gu23 (by decide)
          refine g_iinc (v := i5 + 1) dX7_doRow_46 rfl rfl (by decide) ?_
          refine g_pick (lv' := [(0, .ref (uk_ad G 60)), (1, .int c), (2, .int n), (3, .int (i5 + 1)), (4, .int x11)]) [0, 1, 2, 3, 4] rfl ?_
          refine g_goto (tgt := 6) dX7_doRow_49 (by decide) ?_
          refine g_pick (lv' := [(0, .ref (uk_ad G 60)), (1, .int c), (2, .int n), (3, .int (i5 + 1))]) [0, 1, 2, 3] rfl ?_
          exact ihi5 (by first | lia | grind)  u23 hu23 fu23 riu23 rau23 
        · have zc21 := zx20 c21
          refine g_iconst (v := 0) dX7_doRow_38 (by decide) ?_
          exact g_iret (ty := .boolean) dX7_doRow_39 rfl rfl ⟨⟨0, rfl, Or.inl rfl, fun q => absurd rfl q, fun _ => by first | trivial | lia | grind⟩, hu6, fu6, riu6⟩
  refine g_pick (lv' := [(0, .ref (uk_ad G 60)), (1, .int c), (2, .int n), (3, .int 0)]) [0, 1, 2, 3] rfl ?_
  exact L6_3 0 (by first | decide | lia | grind) (by first | decide | lia | grind)  u2 hu2 fu2 riu2 rau2 
abbrev q_X7_least (u : uk_Mem) (m : Int32) (w : Int32) (r : Option Value) (u' : uk_Mem) : Prop := (∃ x : Int32, r = some (.int x) ∧ True) ∧ (iv u' ∧ fk [62] [] u u' ∧ ri u')
set_option maxHeartbeats 4000000 in
set_option maxRecDepth 20000 in
theorem c_X7_least {G : uk_D} (hs : uk_Sep G) {u : uk_Mem} (hu : iv u) (hri : ri u) (m : Int32) (w : Int32) (d : Nat) : uk_Meth G (d + 4) mX7_least [.ref (uk_ad G 60), .int m, .int w] u (q_X7_least u m w) := by
  refine uk_Meth.of hs (by decide) (Nat.le_of_ble_eq_true rfl) (fun X => ?_)
  have f0 : fk [62] [] u u := fk_rf
  refine g_aload_n dX7_least_0 rfl ?_
  refine g_iload_n dX7_least_1 rfl ?_
  refine cl_X7_163 (c := 60) (As := [.int m]) rfl (c_X7_isStuff (G := G) hs hu  m  (d + 2)) rfl (by omega) rfl rfl (Nat.le_of_ble_eq_true rfl) dX7_least_2 (fun r1 u2 q3 => ?_)
  obtain ⟨⟨x4, rfl, tx4, nx4, zx4⟩, mq3⟩ := q3
  rw [mq3]
  refine g_if_eq (tgt := 15) dX7_least_5 (by decide) (fun c5 => ?_) (fun c5 => ?_)
  · have zc5 := zx4 c5
    refine g_iconst (v := (-1)) dX7_least_15 (by decide) ?_
    exact g_iret (ty := .int) dX7_least_16 rfl rfl ⟨⟨_, rfl, by first | trivial | lia | grind⟩, hu, f0, hri⟩
  · have zc5 := nx4 c5
    refine g_iload_n dX7_least_8 rfl ?_
    refine cl_X7_252 (As := [.int w]) rfl (c_X7_isAsked (G := G) hs hu  w  (d + 2)) rfl (by omega) rfl (Nat.le_of_ble_eq_true rfl) dX7_least_9 (fun r6 u7 q8 => ?_)
    obtain ⟨⟨x9, rfl, tx9, nx9, zx9⟩, mq8⟩ := q8
    rw [mq8]
    refine g_if_ne (tgt := 17) dX7_least_12 (by decide) (fun c10 => ?_) (fun c10 => ?_)
    · have zc10 := nx9 c10
      refine g_iconst (v := 0) dX7_least_17 (by decide) ?_
      refine g_istore_n dX7_least_18 (by decide) ?_
      refine g_pick (lv' := [(0, .ref (uk_ad G 60)), (1, .int m), (2, .int w), (3, .int 0)]) [0, 1, 2, 3] rfl ?_
      have L19_10 : ∀ i12 : Int32, 0 ≤ i12 → i12 ≤ 5 → ∀ (u13 : uk_Mem), iv u13 → fk [62] [] u u13 → ri u13 → uk_G G X mX7_least (d + 4) (q_X7_least u m w) 19 [(0, .ref (uk_ad G 60)), (1, .int m), (2, .int w), (3, .int i12)] [] u13 := by
        refine uk_upl 5 ?_
        intro i12 ai12 bi12 ihi12  u13 hu13 fu13 riu13
        have wu13_60_3 : u13.1 60 3 = u.1 60 3 := fk_at fu13 (by decide)
        refine g_iload_n dX7_least_19 rfl ?_
        refine g_iconst (v := 4) dX7_least_20 (by decide) ?_
        refine g_icmp_gt (tgt := 103) dX7_least_21 (by decide) (fun c14 => ?_) (fun c14 => ?_)
        · refine g_bipush (v := (-4)) dX7_least_103 (by decide) ?_
          exact g_iret (ty := .int) dX7_least_105 rfl rfl ⟨⟨_, rfl, by first | trivial | lia | grind⟩, hu13, fu13, riu13⟩
        · refine g_iconst (v := 0) dX7_least_24 (by decide) ?_
          refine g_istore dX7_least_25 (by decide) ?_
          refine g_pick (lv' := [(0, .ref (uk_ad G 60)), (1, .int m), (2, .int w), (3, .int i12), (4, .int 0)]) [0, 1, 2, 3, 4] rfl ?_
          have L27_14 : ∀ i16 : Int32, 0 ≤ i16 → i16 ≤ 65536 → ∀ (u17 : uk_Mem), iv u17 → fk [62] [] u u17 → ri u17 → uk_G G X mX7_least (d + 4) (q_X7_least u m w) 27 [(0, .ref (uk_ad G 60)), (1, .int m), (2, .int w), (3, .int i12), (4, .int i16)] [] u17 := by
            refine uk_upl 65536 ?_
            intro i16 ai16 bi16 ihi16  u17 hu17 fu17 riu17
            have wu17_60_3 : u17.1 60 3 = u.1 60 3 := fk_at fu17 (by decide)
            refine g_iload dX7_least_27 rfl ?_
            refine g_aload_n dX7_least_29 rfl ?_
            refine g_iload_n dX7_least_30 rfl ?_
            refine cl_X7_241 (c := 60) (As := [.int i12]) rfl (c_X7_baseTo (G := G) hs hu17  i12 (by first | trivial | decide | lia | grind) (d + 3)) rfl (by omega) rfl rfl (Nat.le_of_ble_eq_true rfl) dX7_least_31 (fun r18 u19 q20 => ?_)
            obtain ⟨⟨x21, rfl, tx21⟩, mq20⟩ := q20
            rw [mq20]
            refine g_icmp_ge (tgt := 97) dX7_least_34 (by decide) (fun c22 => ?_) (fun c22 => ?_)
            · refine g_iinc (v := i12 + 1) dX7_least_97 rfl rfl (by decide) ?_
              refine g_pick (lv' := [(0, .ref (uk_ad G 60)), (1, .int m), (2, .int w), (3, .int (i12 + 1)), (4, .int i16)]) [0, 1, 2, 3, 4] rfl ?_
              refine g_goto (tgt := 19) dX7_least_100 (by decide) ?_
              refine g_pick (lv' := [(0, .ref (uk_ad G 60)), (1, .int m), (2, .int w), (3, .int (i12 + 1))]) [0, 1, 2, 3] rfl ?_
              exact ihi12 (by first | lia | grind)  u17 hu17 fu17 riu17 
            · refine g_aload_n dX7_least_37 rfl ?_
              refine g_iload dX7_least_38 rfl ?_
              refine g_iload_n dX7_least_40 rfl ?_
              refine cl_X7_255 (c := 60) (As := [.int i16, .int i12]) rfl (c_X7_doRow (G := G) hs hu17 riu17  i16 i12 (by first | trivial | decide | lia | grind) (d)) rfl (by omega) rfl rfl (Nat.le_of_ble_eq_true rfl) dX7_least_41 (fun r23 u24 q25 => ?_)
              obtain ⟨⟨x26, rfl, tx26, nx26, zx26⟩, mq25⟩ := q25
              obtain ⟨hu24, gu24, riu24⟩ := mq25
              have fu24 : fk [62] [] u u24 := fk_tr fu17 gu24 (by decide) (by decide)
              have wu24_60_3 : u24.1 60 3 = u17.1 60 3 := fk_at gu24 (by decide)
              refine g_if_eq (tgt := 91) dX7_least_44 (by decide) (fun c27 => ?_) (fun c27 => ?_)
              · have zc27 := zx26 c27
                refine g_iinc (v := i16 + 1) dX7_least_91 rfl rfl (by decide) ?_
                refine g_pick (lv' := [(0, .ref (uk_ad G 60)), (1, .int m), (2, .int w), (3, .int i12), (4, .int (i16 + 1))]) [0, 1, 2, 3, 4] rfl ?_
                refine g_goto (tgt := 27) dX7_least_94 (by decide) ?_
                refine g_pick (lv' := [(0, .ref (uk_ad G 60)), (1, .int m), (2, .int w), (3, .int i12), (4, .int (i16 + 1))]) [0, 1, 2, 3, 4] rfl ?_
                exact ihi16 (by first | lia | grind)  u24 hu24 fu24 riu24 
              · have zc27 := nx26 c27
                refine g_aload_n dX7_least_47 rfl ?_
                refine f_X7_13 rfl rfl dX7_least_48 ?_
                refine g_iconst (v := 0) dX7_least_51 (by decide) ?_
                refine g_iload_n dX7_least_52 rfl ?_
                refine g_iadd dX7_least_53 ?_
                refine g_topi (fun x28 ex28 => ?_)
                have ox28 : x28 = m := by rw [ex28, Int32.zero_add]
                have v29 : vp_in x28 51 := uk_vin 51 rfl (by first | decide | lia | grind) (by first | decide | lia | grind)
                refine g_iald rfl rfl v29 dX7_least_54 ?_
                refine g_topi (fun x30 ex30 => ?_)
                have bx30 := uk_cl v29
                have rx30 : 0 ≤ x30 ∧ x30 ≤ 40 := by rw [ex30]; exact sg_0 hu24 (by unfold uk_is51; decide) (by first | lia | grind) (by first | lia | grind)
                refine g_if_le (tgt := 91) dX7_least_55 (by decide) (fun c31 => ?_) (fun c31 => ?_)
                · refine g_iinc (v := i16 + 1) dX7_least_91 rfl rfl (by decide) ?_
                  refine g_pick (lv' := [(0, .ref (uk_ad G 60)), (1, .int m), (2, .int w), (3, .int i12), (4, .int (i16 + 1))]) [0, 1, 2, 3, 4] rfl ?_
                  refine g_goto (tgt := 27) dX7_least_94 (by decide) ?_
                  refine g_pick (lv' := [(0, .ref (uk_ad G 60)), (1, .int m), (2, .int w), (3, .int i12), (4, .int (i16 + 1))]) [0, 1, 2, 3, 4] rfl ?_
                  exact ihi16 (by first | lia | grind)  u24 hu24 fu24 riu24 
                · refine g_iload_n dX7_least_58 rfl ?_
                  refine g_if_ne (tgt := 66) dX7_least_59 (by decide) (fun c32 => ?_) (fun c32 => ?_)
                  · refine g_iload_n dX7_least_66 rfl ?_
                    refine g_bipush (v := 10) dX7_least_67 (by decide) ?_
                    refine g_isub dX7_least_69 ?_
                    refine g_topi (fun x33 ex33 => ?_)
                    refine g_iload_n dX7_least_70 rfl ?_
                    refine g_icmp_ge (tgt := 88) dX7_least_71 (by decide) (fun c34 => ?_) (fun c34 => ?_)
                    · refine g_bipush (v := (-4)) dX7_least_88 (by decide) ?_
                      exact g_iret (ty := .int) dX7_least_90 rfl rfl ⟨⟨_, rfl, by first | trivial | lia | grind⟩, hu24, fu24, riu24⟩
                    · refine g_aload_n dX7_least_74 rfl ?_
                      refine g_iload dX7_least_75 rfl ?_
                      refine g_iload_n dX7_least_77 rfl ?_
                      refine g_iload_n dX7_least_78 rfl ?_
                      refine g_bipush (v := 10) dX7_least_79 (by decide) ?_
                      refine g_isub dX7_least_81 ?_
                      refine g_topi (fun x35 ex35 => ?_)
                      refine cl_X7_244 (c := 60) (As := [.int i16, .int i12, .int x35]) rfl (c_X7_doingIn (G := G) hs hu24  i16 i12 x35 (by first | trivial | decide | lia | grind) (by first | trivial | decide | lia | grind) (by first | trivial | decide | lia | grind) (d + 2)) rfl (by omega) rfl rfl (Nat.le_of_ble_eq_true rfl) dX7_least_82 (fun r36 u37 q38 => ?_)
                      obtain ⟨⟨x39, rfl, tx39⟩, mq38⟩ := q38
                      rw [mq38]
                      refine g_goto (tgt := 90) dX7_least_85 (by decide) ?_
                      exact g_iret (ty := .int) dX7_least_90 rfl rfl ⟨⟨_, rfl, by first | trivial | lia | grind⟩, hu24, fu24, riu24⟩
                  · refine g_iload_n dX7_least_62 rfl ?_
                    refine g_goto (tgt := 90) dX7_least_63 (by decide) ?_
                    exact g_iret (ty := .int) dX7_least_90 rfl rfl ⟨⟨_, rfl, by first | trivial | lia | grind⟩, hu24, fu24, riu24⟩
          refine g_pick (lv' := [(0, .ref (uk_ad G 60)), (1, .int m), (2, .int w), (3, .int i12), (4, .int 0)]) [0, 1, 2, 3, 4] rfl ?_
          exact L27_14 0 (by first | decide | lia | grind) (by first | decide | lia | grind)  u13 hu13 fu13 riu13 
      refine g_pick (lv' := [(0, .ref (uk_ad G 60)), (1, .int m), (2, .int w), (3, .int 0)]) [0, 1, 2, 3] rfl ?_
      exact L19_10 0 (by first | decide | lia | grind) (by first | decide | lia | grind)  u hu f0 hri 
    · have zc10 := zx9 c10
      refine g_iconst (v := (-1)) dX7_least_15 (by decide) ?_
      exact g_iret (ty := .int) dX7_least_16 rfl rfl ⟨⟨_, rfl, by first | trivial | lia | grind⟩, hu, f0, hri⟩
abbrev q_X7_drift (u : uk_Mem) (s : Int32) (n : Int32) (w : Int32) (r : Option Value) (u' : uk_Mem) : Prop := (∃ x : Int32, r = some (.int x) ∧ True) ∧ (iv u' ∧ fk [62] [] u u' ∧ ri u')
set_option maxHeartbeats 4000000 in
set_option maxRecDepth 20000 in
theorem c_X7_drift {G : uk_D} (hs : uk_Sep G) {u : uk_Mem} (hu : iv u) (hri : ri u) (s : Int32) (n : Int32) (w : Int32) (d : Nat) : uk_Meth G (d + 3) mX7_drift [.ref (uk_ad G 60), .int s, .int n, .int w] u (q_X7_drift u s n w) := by
  refine uk_Meth.of hs (by decide) (Nat.le_of_ble_eq_true rfl) (fun X => ?_)
  have f0 : fk [62] [] u u := fk_rf
  refine g_iload_n dX7_drift_0 rfl ?_
  refine g_i2l dX7_drift_1 ?_
  refine g_lconst (v := 1) dX7_drift_2 (by decide) ?_
  refine g_ldc2 (v := 60) k_X7_264 dX7_drift_3 ?_
  refine cl_X7_84 (As := [.long n.toInt64, .long 1, .long 60]) rfl (c_X7_in (G := G) hs hu  n 1 60  (d + 2)) rfl (by omega) rfl (Nat.le_of_ble_eq_true rfl) dX7_drift_6 (fun r1 u2 q3 => ?_)
  obtain ⟨⟨x4, rfl, tx4, nx4, zx4⟩, mq3⟩ := q3
  rw [mq3]
  refine g_if_eq (tgt := 19) dX7_drift_9 (by decide) (fun c5 => ?_) (fun c5 => ?_)
  · have zc5 := zx4 c5
    refine g_iconst (v := (-1)) dX7_drift_19 (by decide) ?_
    exact g_iret (ty := .int) dX7_drift_20 rfl rfl ⟨⟨_, rfl, by first | trivial | lia | grind⟩, hu, f0, hri⟩
  · have zc5 := nx4 c5
    refine g_iload_n dX7_drift_12 rfl ?_
    refine cl_X7_197 (As := [.int w]) rfl (c_X7_isPart (G := G) hs hu  w  (d + 1)) rfl (by omega) rfl (Nat.le_of_ble_eq_true rfl) dX7_drift_13 (fun r6 u7 q8 => ?_)
    obtain ⟨⟨x9, rfl, tx9, nx9, zx9⟩, mq8⟩ := q8
    rw [mq8]
    refine g_if_ne (tgt := 21) dX7_drift_16 (by decide) (fun c10 => ?_) (fun c10 => ?_)
    · have zc10 := nx9 c10
      refine g_aload_n dX7_drift_21 rfl ?_
      refine f_X7_79 rfl rfl dX7_drift_22 ?_
      refine g_topi (fun x11 ex11 => ?_)
      have rx11 : 0 ≤ x11 ∧ x11 ≤ 8 := by rw [ex11]; exact iv_at hu _ _ rfl
      have s12 : u.1 60 3 = x11 := ex11.symm
      refine g_if_ne (tgt := 31) dX7_drift_25 (by decide) (fun c13 => ?_) (fun c13 => ?_)
      · refine g_iload_n dX7_drift_31 rfl ?_
        refine g_istore dX7_drift_32 (by decide) ?_
        refine g_pick (lv' := [(0, .ref (uk_ad G 60)), (1, .int s), (2, .int n), (3, .int w), (4, .int s)]) [0, 1, 2, 3, 4] rfl ?_
        refine g_iconst (v := 0) dX7_drift_34 (by decide) ?_
        refine g_istore dX7_drift_35 (by decide) ?_
        refine g_pick (lv' := [(0, .ref (uk_ad G 60)), (1, .int s), (2, .int n), (3, .int w), (4, .int s), (5, .int 0)]) [0, 1, 2, 3, 4, 5] rfl ?_
        refine g_aload_n dX7_drift_37 rfl ?_
        refine cl_X7_185 (c := 60) (As := []) rfl (c_X7_starts (G := G) hs hu hri    (d + 2)) rfl (by omega) rfl rfl (Nat.le_of_ble_eq_true rfl) dX7_drift_38 (fun r14 u15 q16 => ?_)
        obtain ⟨rfl, mq16⟩ := q16
        obtain ⟨hu15, gu15, rau15, ku150⟩ := mq16
        have fu15 : fk [62] [] u u15 := fk_tr f0 gu15 (by decide) (by decide)
        have riu15 : ri u15 := ri_fk hri gu15 (by decide) (by decide) (by decide) (by decide) (by decide)
        have wu15_60_3 : u15.1 60 3 = u.1 60 3 := fk_at gu15 (by decide)
        have s17 : u15.1 60 3 = x11 := (fk_at gu15 (by decide)).trans s12
        refine g_iconst (v := 0) dX7_drift_41 (by decide) ?_
        refine g_istore dX7_drift_42 (by decide) ?_
        refine g_pick (lv' := [(0, .ref (uk_ad G 60)), (1, .int s), (2, .int n), (3, .int w), (4, .int s), (5, .int 0), (6, .int 0)]) [0, 1, 2, 3, 4, 5, 6] rfl ?_
        have L44_17 : ∀ i21 : Int32, 0 ≤ i21 → i21 ≤ 60 → ∀ (w19 : Int32) (w20 : Int32) (u22 : uk_Mem), iv u22 → fk [62] [] u u22 → ri u22 → ra u22 → uk_G G X mX7_drift (d + 3) (q_X7_drift u s n w) 44 [(0, .ref (uk_ad G 60)), (1, .int s), (2, .int n), (3, .int w), (4, .int w19), (5, .int w20), (6, .int i21)] [] u22 := by
          refine uk_upl 60 ?_
          intro i21 ai21 bi21 ihi21 w19 w20 u22 hu22 fu22 riu22 rau22
          have wu22_60_3 : u22.1 60 3 = u.1 60 3 := fk_at fu22 (by decide)
          refine g_iload dX7_drift_44 rfl ?_
          refine g_iload_n dX7_drift_46 rfl ?_
          refine g_icmp_ge (tgt := 133) dX7_drift_47 (by decide) (fun c23 => ?_) (fun c23 => ?_)
          · refine g_iload_n dX7_drift_133 rfl ?_
            refine g_if_ne (tgt := 142) dX7_drift_134 (by decide) (fun c24 => ?_) (fun c24 => ?_)
            · refine g_aload_n dX7_drift_142 rfl ?_
              refine g_iconst (v := 0) dX7_drift_143 (by decide) ?_
              refine cl_X7_258 (c := 60) (As := [.int 0]) rfl (c_X7_allOf (G := G) hs hu22  0 (by first | trivial | decide | lia | grind) (d + 2)) rfl (by omega) rfl rfl (Nat.le_of_ble_eq_true rfl) dX7_drift_144 (fun r25 u26 q27 => ?_)
              obtain ⟨⟨x28, rfl, tx28⟩, mq27⟩ := q27
              rw [mq27]
              exact g_iret (ty := .int) dX7_drift_147 rfl rfl ⟨⟨_, rfl, by first | trivial | lia | grind⟩, hu22, fu22, riu22⟩
            · refine g_iload dX7_drift_137 rfl ?_
              refine g_goto (tgt := 147) dX7_drift_139 (by decide) ?_
              exact g_iret (ty := .int) dX7_drift_147 rfl rfl ⟨⟨_, rfl, by first | trivial | lia | grind⟩, hu22, fu22, riu22⟩
          · refine g_iload dX7_drift_50 rfl ?_
            refine g_ldcw (v := 1103515245) k_X7_266 dX7_drift_52 ?_
            refine g_imul dX7_drift_55 ?_
            refine g_topi (fun x29 ex29 => ?_)
            refine g_sipush (v := 12345) dX7_drift_56 (by decide) ?_
            refine g_iadd dX7_drift_59 ?_
            refine g_topi (fun x30 ex30 => ?_)
            refine g_istore dX7_drift_60 (by decide) ?_
            refine g_pick (lv' := [(0, .ref (uk_ad G 60)), (1, .int s), (2, .int n), (3, .int w), (4, .int x30), (5, .int w20), (6, .int i21)]) [0, 1, 2, 3, 4, 5, 6] rfl ?_
            refine g_iload dX7_drift_62 rfl ?_
            refine g_bipush (v := 16) dX7_drift_64 (by decide) ?_
            refine g_ishr dX7_drift_66 (fun x31 ex31 => ?_)
            refine g_sipush (v := 32767) dX7_drift_67 (by decide) ?_
            refine g_iand dX7_drift_70 ?_
            refine g_topi (fun x32 ex32 => ?_)
            have nx32 := uk_a15 ex32; clear ex32
            refine g_aload_n dX7_drift_71 rfl ?_
            refine f_X7_79 rfl rfl dX7_drift_72 ?_
            refine g_topi (fun x33 ex33 => ?_)
            have rx33 : 0 ≤ x33 ∧ x33 ≤ 8 := by rw [ex33]; exact iv_at hu22 _ _ rfl
            have s34 : u22.1 60 3 = x33 := ex33.symm
            refine g_irem dX7_drift_75 (by first | decide | lia | grind) ?_
            refine g_topi (fun x35 ex35 => ?_)
            have nx35 := uk_mod ex35 nx32.1 (by first | decide | lia | grind); clear ex35
            refine g_istore dX7_drift_76 (by decide) ?_
            refine g_pick (lv' := [(0, .ref (uk_ad G 60)), (1, .int s), (2, .int n), (3, .int w), (4, .int x30), (5, .int w20), (6, .int i21), (7, .int x35)]) [0, 1, 2, 3, 4, 5, 6, 7] rfl ?_
            refine g_iload dX7_drift_78 rfl ?_
            refine g_ldcw (v := 1103515245) k_X7_266 dX7_drift_80 ?_
            refine g_imul dX7_drift_83 ?_
            refine g_topi (fun x36 ex36 => ?_)
            refine g_sipush (v := 12345) dX7_drift_84 (by decide) ?_
            refine g_iadd dX7_drift_87 ?_
            refine g_topi (fun x37 ex37 => ?_)
            refine g_istore dX7_drift_88 (by decide) ?_
            refine g_pick (lv' := [(0, .ref (uk_ad G 60)), (1, .int s), (2, .int n), (3, .int w), (4, .int x37), (5, .int w20), (6, .int i21), (7, .int x35)]) [0, 1, 2, 3, 4, 5, 6, 7] rfl ?_
            refine g_iload dX7_drift_90 rfl ?_
            refine g_bipush (v := 10) dX7_drift_92 (by decide) ?_
            refine g_iload dX7_drift_94 rfl ?_
            refine g_bipush (v := 16) dX7_drift_96 (by decide) ?_
            refine g_ishr dX7_drift_98 (fun x38 ex38 => ?_)
            refine g_sipush (v := 32767) dX7_drift_99 (by decide) ?_
            refine g_iand dX7_drift_102 ?_
            refine g_topi (fun x39 ex39 => ?_)
            have nx39 := uk_a15 ex39; clear ex39
            refine g_iconst (v := 2) dX7_drift_103 (by decide) ?_
            refine g_irem dX7_drift_104 (by first | decide | lia | grind) ?_
            refine g_topi (fun x40 ex40 => ?_)
            have nx40 := uk_mod ex40 nx39.1 (by first | decide | lia | grind); clear ex40
            refine g_imul dX7_drift_105 ?_
            refine g_topi (fun x41 ex41 => ?_)
            refine g_iadd dX7_drift_106 ?_
            refine g_topi (fun x42 ex42 => ?_)
            refine g_istore dX7_drift_107 (by decide) ?_
            refine g_pick (lv' := [(0, .ref (uk_ad G 60)), (1, .int s), (2, .int n), (3, .int w), (4, .int x37), (5, .int w20), (6, .int i21), (7, .int x35), (8, .int x42)]) [0, 1, 2, 3, 4, 5, 6, 7, 8] rfl ?_
            refine g_aload_n dX7_drift_109 rfl ?_
            refine g_iload dX7_drift_110 rfl ?_
            refine cl_X7_188 (c := 60) (As := [.int x42]) rfl (c_X7_canDo (G := G) hs hu22 rau22  x42 (by first | trivial | decide | lia | grind) (d)) rfl (by omega) rfl rfl (Nat.le_of_ble_eq_true rfl) dX7_drift_112 (fun r43 u44 q45 => ?_)
            obtain ⟨⟨x46, rfl, tx46, nx46, zx46⟩, mq45⟩ := q45
            rw [mq45]
            refine g_if_eq (tgt := 127) dX7_drift_115 (by decide) (fun c47 => ?_) (fun c47 => ?_)
            · have zc47 := zx46 c47
              refine g_iinc (v := i21 + 1) dX7_drift_127 rfl rfl (by decide) ?_
              refine g_pick (lv' := [(0, .ref (uk_ad G 60)), (1, .int s), (2, .int n), (3, .int w), (4, .int x37), (5, .int w20), (6, .int (i21 + 1)), (7, .int x35), (8, .int x42)]) [0, 1, 2, 3, 4, 5, 6, 7, 8] rfl ?_
              refine g_goto (tgt := 44) dX7_drift_130 (by decide) ?_
              refine g_pick (lv' := [(0, .ref (uk_ad G 60)), (1, .int s), (2, .int n), (3, .int w), (4, .int x37), (5, .int w20), (6, .int (i21 + 1))]) [0, 1, 2, 3, 4, 5, 6] rfl ?_
              exact ihi21 (by first | lia | grind) x37 w20 u22 hu22 fu22 riu22 rau22 
            · have zc47 := nx46 c47
              refine g_aload_n dX7_drift_118 rfl ?_
              refine g_iload dX7_drift_119 rfl ?_
              refine cl_X7_191 (c := 60) (As := [.int x42]) rfl (c_X7_doIt (G := G) hs hu22 rau22  x42 (by first | trivial | decide | lia | grind) (by first | trivial | decide | lia | grind) (by first | trivial | decide | lia | grind) (d + 1)) rfl (by omega) rfl rfl (Nat.le_of_ble_eq_true rfl) dX7_drift_121 (fun r48 u49 q50 => ?_)
              obtain ⟨rfl, mq50⟩ := q50
              obtain ⟨hu49, gu49, rau49⟩ := mq50
              have fu49 : fk [62] [] u u49 := fk_tr fu22 gu49 (by decide) (by decide)
              have riu49 : ri u49 := ri_fk riu22 gu49 (by decide) (by decide) (by decide) (by decide) (by decide)
              have wu49_60_3 : u49.1 60 3 = u22.1 60 3 := fk_at gu49 (by decide)
              have s51 : u49.1 60 3 = x33 := (fk_at gu49 (by decide)).trans s34
              refine g_iinc (v := w20 + 1) dX7_drift_124 rfl rfl (by decide) ?_
              refine g_pick (lv' := [(0, .ref (uk_ad G 60)), (1, .int s), (2, .int n), (3, .int w), (4, .int x37), (5, .int (w20 + 1)), (6, .int i21), (7, .int x35), (8, .int x42)]) [0, 1, 2, 3, 4, 5, 6, 7, 8] rfl ?_
              refine g_iinc (v := i21 + 1) dX7_drift_127 rfl rfl (by decide) ?_
              refine g_pick (lv' := [(0, .ref (uk_ad G 60)), (1, .int s), (2, .int n), (3, .int w), (4, .int x37), (5, .int (w20 + 1)), (6, .int (i21 + 1)), (7, .int x35), (8, .int x42)]) [0, 1, 2, 3, 4, 5, 6, 7, 8] rfl ?_
              refine g_goto (tgt := 44) dX7_drift_130 (by decide) ?_
              refine g_pick (lv' := [(0, .ref (uk_ad G 60)), (1, .int s), (2, .int n), (3, .int w), (4, .int x37), (5, .int (w20 + 1)), (6, .int (i21 + 1))]) [0, 1, 2, 3, 4, 5, 6] rfl ?_
              exact ihi21 (by first | lia | grind) x37 (w20 + 1) u49 hu49 fu49 riu49 rau49 
        refine g_pick (lv' := [(0, .ref (uk_ad G 60)), (1, .int s), (2, .int n), (3, .int w), (4, .int s), (5, .int 0), (6, .int 0)]) [0, 1, 2, 3, 4, 5, 6] rfl ?_
        exact L44_17 0 (by first | decide | lia | grind) (by first | decide | lia | grind) s 0 u15 hu15 fu15 riu15 rau15 
      · refine g_bipush (v := (-2)) dX7_drift_28 (by decide) ?_
        exact g_iret (ty := .int) dX7_drift_30 rfl rfl ⟨⟨_, rfl, by first | trivial | lia | grind⟩, hu, f0, hri⟩
    · have zc10 := zx9 c10
      refine g_iconst (v := (-1)) dX7_drift_19 (by decide) ?_
      exact g_iret (ty := .int) dX7_drift_20 rfl rfl ⟨⟨_, rfl, by first | trivial | lia | grind⟩, hu, f0, hri⟩
/-! the row of what lies on the table: its weight falls with every turn -/
theorem uk_cll {i j : Int32} (h0 : 0 ≤ i) (h : i < j) : i.toNatClampNeg < j.toNatClampNeg := by
  have a := Int32.le_iff_toInt_le.mp h0
  have b := Int32.lt_iff_toInt_lt.mp h
  have z : (0 : Int32).toInt = 0 := rfl
  have e1 : i.toNatClampNeg = i.toInt.toNat := rfl
  have e2 : j.toNatClampNeg = j.toInt.toNat := rfl
  omega
theorem uk_c1 {i : Int32} (h0 : 0 ≤ i) (h1 : i ≤ 1000000) : (i + 1).toNatClampNeg = i.toNatClampNeg + 1 := by
  obtain ⟨j, hj, rfl⟩ := nI_of2 (x := i) (M := 1000000) (n := 1000000) rfl (by grind) h1
  rw [nI_1, nI_clamp (by omega), nI_clamp (by omega)]
theorem uk_s1 {i : Int32} (h0 : 1 ≤ i) : (i - 1).toNatClampNeg = i.toNatClampNeg - 1 := by
  obtain ⟨j, hj, rfl⟩ := nI_of (x := i) (by grind)
  have hj1 : 1 ≤ j := by
    rcases Nat.eq_zero_or_pos j with q | q
    · subst q
      exact absurd h0 (by decide)
    · exact q
  have : nI j - 1 = nI (j - 1) := by
    show nI j - nI 1 = _
    rw [pk_sub hj1]
  rw [this, nI_clamp (by omega), nI_clamp (by omega)]
def wt (x : Int32) : Nat := 2 ^ (x.toNatClampNeg + 1) - 1
theorem wt_pos (x : Int32) : 1 ≤ wt x := by
  unfold wt
  have : 1 ≤ 2 ^ x.toNatClampNeg := Nat.one_le_two_pow
  rw [Nat.pow_succ]
  omega
theorem wt_7 {x : Int32} (h0 : 0 ≤ x) (h : x ≤ 7) : wt x ≤ 255 := by
  unfold wt
  have := uk_cln 7 7 rfl h0 h
  have : 2 ^ (x.toNatClampNeg + 1) ≤ 2 ^ 8 := Nat.pow_le_pow_right (by omega) (by omega)
  omega
theorem wt_two {m a b : Int32} (ha : 0 ≤ a) (ham : a < m) (hb : 0 ≤ b) (hbm : b < m) : wt a + wt b < wt m := by
  unfold wt
  have h1 := uk_cll ha ham
  have h2 := uk_cll hb hbm
  have p1 : 2 ^ (a.toNatClampNeg + 1) ≤ 2 ^ m.toNatClampNeg := Nat.pow_le_pow_right (by omega) (by omega)
  have p2 : 2 ^ (b.toNatClampNeg + 1) ≤ 2 ^ m.toNatClampNeg := Nat.pow_le_pow_right (by omega) (by omega)
  have p3 : 1 ≤ 2 ^ (a.toNatClampNeg + 1) := Nat.one_le_two_pow
  have p4 : 1 ≤ 2 ^ (b.toNatClampNeg + 1) := Nat.one_le_two_pow
  rw [Nat.pow_succ 2 m.toNatClampNeg]
  omega
theorem wt_one {m a : Int32} (ha : 0 ≤ a) (ham : a < m) : wt a < wt m := by
  have := wt_two ha ham ha ham
  omega
def pt (R : Nat → Int32) : Nat → Nat
  | 0 => 0
  | n + 1 => pt R n + wt (R n)
theorem pt_ge (R : Nat → Int32) : ∀ n, n ≤ pt R n
  | 0 => Nat.le_refl _
  | n + 1 => by
    have := pt_ge R n
    have := wt_pos (R n)
    unfold pt
    omega
theorem pt_cg {R R' : Nat → Int32} : ∀ n, (∀ i, i < n → R' i = R i) → pt R' n = pt R n
  | 0, _ => rfl
  | n + 1, h => by
    unfold pt
    rw [pt_cg n (fun i hi => h i (by omega)), h n (by omega)]
theorem pt_upd {R : Nat → Int32} {i : Nat} {a : Int32} : ∀ n, i < n → pt (upd R i a) n + wt (R i) = pt R n + wt a
  | 0, h => absurd h (by omega)
  | n + 1, h => by
    unfold pt
    by_cases q : i = n
    · subst q
      rw [pt_cg (R := R) i (fun j hj => by unfold upd; rw [if_neg (by omega)])]
      have : upd R i a i = a := by unfold upd; rw [if_pos rfl]
      rw [this]
      omega
    · have ih := pt_upd (R := R) (i := i) (a := a) n (by omega)
      have : upd R i a n = R n := by unfold upd; rw [if_neg (by omega)]
      rw [this]
      omega
/-- all from k + 1 to n moved up by one -/
def sh (R : Nat → Int32) (n k : Nat) : Nat → Int32 := fun j => if k < j ∧ j ≤ n then R (j - 1) else R j
theorem sh_0 (R : Nat → Int32) (n : Nat) : sh R n n = R := by
  funext j
  unfold sh
  rw [if_neg (by omega)]
theorem sh_s {R : Nat → Int32} {n k : Nat} (h1 : 1 ≤ k) (h : k ≤ n) : upd (sh R n k) k (sh R n k (k - 1)) = sh R n (k - 1) := by
  funext j
  unfold upd
  by_cases q : j = k
  · rw [if_pos q]
    unfold sh
    rw [if_neg (by omega), if_pos (by omega), q]
  · rw [if_neg q]
    unfold sh
    by_cases q2 : k < j ∧ j ≤ n
    · rw [if_pos q2, if_pos (by omega)]
    · rw [if_neg q2, if_neg (by omega)]
theorem pt_sh {R : Nat → Int32} {i : Nat} {b : Int32} : ∀ n, i < n → pt (upd (sh R n (i + 1)) (i + 1) b) (n + 1) = pt R n + wt b
  | 0, h => absurd h (by omega)
  | n + 1, h => by
    by_cases q : i = n
    · subst q
      rw [sh_0]
      show pt _ (i + 1) + wt _ = _
      rw [pt_cg (R := R) (i + 1) (fun j hj => by unfold upd; rw [if_neg (by omega)])]
      have : upd R (i + 1) b (i + 1) = b := by unfold upd; rw [if_pos rfl]
      rw [this]
    · have ih := pt_sh (R := R) (i := i) (b := b) n (by omega)
      show pt _ (n + 1) + wt _ = pt R n + wt (R n) + wt b
      rw [pt_cg (R := upd (sh R n (i + 1)) (i + 1) b) (n + 1) (fun j hj => by
        unfold upd
        by_cases q3 : j = i + 1
        · rw [if_pos q3, if_pos q3]
        · rw [if_neg q3, if_neg q3]
          unfold sh
          by_cases q2 : i + 1 < j ∧ j ≤ n
          · rw [if_pos q2, if_pos (by omega)]
          · rw [if_neg q2, if_neg (by omega)]), ih]
      have : upd (sh R (n + 1) (i + 1)) (i + 1) b (n + 1) = R n := by
        unfold upd
        rw [if_neg (by omega)]
        unfold sh
        rw [if_pos (by omega)]
        rfl
      rw [this]
      omega
def pot (u : uk_Mem) : Nat := pt (u.1 71) (u.1 60 22).toNatClampNeg
def rp (u : uk_Mem) : Prop := (∀ i : Nat, i < (u.1 60 22).toNatClampNeg → u.1 71 i < u.1 60 3) ∧ pot u ≤ 255
theorem rp_mk {u v : uk_Mem} {R : Nat → Int32} {n : Int32} (h71 : v.1 71 = R) (h22 : v.1 60 22 = n) (h3 : v.1 60 3 = u.1 60 3) (hl : ∀ i, i < n.toNatClampNeg → R i < u.1 60 3) (hp : pt R n.toNatClampNeg ≤ 255) : rp v := by
  unfold rp pot
  rw [h71, h22, h3]
  exact ⟨hl, hp⟩
theorem rp_lay {u v : uk_Mem} {R : Nat → Int32} {m : Int32} (h71 : v.1 71 = upd R (0 : Int32).toNatClampNeg m) (h22 : v.1 60 22 = 1) (h3 : v.1 60 3 = u.1 60 3) (h0 : 0 ≤ m) (h7 : m ≤ 7) (hm : m < u.1 60 3) : rp v := by
  have z : (0 : Int32).toNatClampNeg = 0 := rfl
  have z1 : (1 : Int32).toNatClampNeg = 1 := rfl
  have e : upd R 0 m 0 = m := by unfold upd; rw [if_pos rfl]
  rw [z] at h71
  refine rp_mk h71 h22 h3 (fun i hi => ?_) ?_
  · rw [z1] at hi
    rw [show i = 0 by omega, e]
    exact hm
  · rw [z1]
    unfold pt pt
    rw [e]
    have := wt_7 h0 h7
    omega
theorem rp_n {u : uk_Mem} (h : rp u) : (u.1 60 22).toNatClampNeg ≤ 255 := Nat.le_trans (pt_ge _ _) h.2
/-- a thing gives its first part back -/
theorem tn_1 {u v : uk_Mem} (h : rp u) {i m a : Int32} (hi : 0 ≤ i) (hn : i < u.1 60 22) (hm : u.1 71 i.toNatClampNeg = m) (ha : 0 ≤ a) (ham : a < m) (h71 : v.1 71 = upd (u.1 71) i.toNatClampNeg a) (h22 : v.1 60 22 = u.1 60 22) (h3 : v.1 60 3 = u.1 60 3) : rp v ∧ pot v < pot u := by
  have hl := uk_cll hi hn
  have hp := pt_upd (R := u.1 71) (a := a) _ hl
  rw [hm] at hp
  have hw := wt_one ha ham
  have hq : pot v < pot u := by
    unfold pot
    rw [h71, h22]
    omega
  refine ⟨⟨?_, Nat.le_trans (Nat.le_of_lt hq) h.2⟩, hq⟩
  rw [h71, h22, h3]
  intro j hj
  unfold upd
  by_cases q : j = i.toNatClampNeg
  · rw [if_pos q]
    have := h.1 _ hl
    rw [hm] at this
    exact Int32.lt_trans ham this
  · rw [if_neg q]
    exact h.1 j hj
/-- a thing gives both its parts back -/
theorem tn_2 {u v : uk_Mem} (h : rp u) {i m a b : Int32} (hi : 0 ≤ i) (hn : i < u.1 60 22) (hm : u.1 71 i.toNatClampNeg = m) (ha : 0 ≤ a) (ham : a < m) (hb : 0 ≤ b) (hbm : b < m) (h71 : v.1 71 = upd (sh (upd (u.1 71) i.toNatClampNeg a) (u.1 60 22).toNatClampNeg (i + 1).toNatClampNeg) (i + 1).toNatClampNeg b) (h22 : v.1 60 22 = u.1 60 22 + 1) (h3 : v.1 60 3 = u.1 60 3) : rp v ∧ pot v < pot u := by
  have hl := uk_cll hi hn
  have hp := pt_upd (R := u.1 71) (a := a) _ hl
  have hr := pt_sh (R := upd (u.1 71) i.toNatClampNeg a) (b := b) _ hl
  rw [hm] at hp
  have hw := wt_two ha ham hb hbm
  have hN := rp_n h
  have hn1 : u.1 60 22 ≤ 255 := by
    apply Int32.le_iff_toInt_le.mpr
    have e : (u.1 60 22).toNatClampNeg = (u.1 60 22).toInt.toNat := rfl
    have z : (255 : Int32).toInt = 255 := rfl
    omega
  have e1 : (i + 1).toNatClampNeg = i.toNatClampNeg + 1 := uk_c1 hi (by grind)
  have e2 : (u.1 60 22 + 1).toNatClampNeg = (u.1 60 22).toNatClampNeg + 1 := uk_c1 (by grind) (by grind)
  rw [e1] at h71
  have hq : pot v < pot u := by
    unfold pot
    rw [h71, h22, e2]
    omega
  refine ⟨⟨?_, Nat.le_trans (Nat.le_of_lt hq) h.2⟩, hq⟩
  have hms : m < u.1 60 3 := by
    have := h.1 _ hl
    rwa [hm] at this
  have hA : ∀ j, j < (u.1 60 22).toNatClampNeg → upd (u.1 71) i.toNatClampNeg a j < u.1 60 3 := fun j hj => by
    unfold upd
    by_cases q : j = i.toNatClampNeg
    · rw [if_pos q]
      exact Int32.lt_trans ham hms
    · rw [if_neg q]
      exact h.1 j hj
  rw [h71, h22, h3, e2]
  intro j hj
  unfold upd
  by_cases q : j = i.toNatClampNeg + 1
  · rw [if_pos q]
    exact Int32.lt_trans hbm hms
  · rw [if_neg q]
    unfold sh
    by_cases q2 : i.toNatClampNeg + 1 < j ∧ j ≤ (u.1 60 22).toNatClampNeg
    · rw [if_pos q2]
      exact hA _ (by omega)
    · rw [if_neg q2]
      exact hA _ (by omega)
theorem tn_n {u : uk_Mem} (h : rp u) {i m a b : Int32} (hi : 0 ≤ i) (hn : i < u.1 60 22) (hm : u.1 71 i.toNatClampNeg = m) (ha : 0 ≤ a) (ham : a < m) (hb : 0 ≤ b) (hbm : b < m) : u.1 60 22 ≤ 254 := by
  have hl := uk_cll hi hn
  have hp := pt_upd (R := u.1 71) (a := a) _ hl
  have hr := pt_sh (R := upd (u.1 71) i.toNatClampNeg a) (b := b) _ hl
  rw [hm] at hp
  have hw := wt_two ha ham hb hbm
  have hg := pt_ge (upd (sh (upd (u.1 71) i.toNatClampNeg a) (u.1 60 22).toNatClampNeg (i.toNatClampNeg + 1)) (i.toNatClampNeg + 1) b) ((u.1 60 22).toNatClampNeg + 1)
  have h255 := h.2
  unfold pot at h255
  apply Int32.le_iff_toInt_le.mpr
  have e : (u.1 60 22).toNatClampNeg = (u.1 60 22).toInt.toNat := rfl
  have z : (254 : Int32).toInt = 254 := rfl
  omega
theorem pt_step {i : Int32} {a b : Nat} (h0 : 0 ≤ i) (h1 : i ≤ 255) (h : i.toNatClampNeg + a ≤ 255) (hl : b < a) : i + 1 ≤ 255 ∧ (i + 1).toNatClampNeg + b ≤ 255 := by
  have e := uk_c1 h0 (by grind)
  refine ⟨?_, by omega⟩
  have e1 : i.toNatClampNeg = i.toInt.toNat := rfl
  have z : (254 : Int32).toInt = 254 := rfl
  have : i ≤ 254 := by
    apply Int32.le_iff_toInt_le.mpr
    omega
  grind
/-- nothing is asked where none is wanted -/
def az (n : Int32) (A : Nat → Int32) (k : Int32) : Prop := n = 0 → ∀ j : Int32, 0 ≤ j → j < k → A j.toNatClampNeg = 0
theorem az_0 {n : Int32} {A : Nat → Int32} : az n A 0 := fun _ j h0 h1 => absurd h0 (by grind)
theorem az_up {n k x : Int32} {A : Nat → Int32} (h : az n A k) (h0 : 0 ≤ k) (hx : n = 0 → x = 0) : az n (upd A k.toNatClampNeg x) (k + 1) := fun q j j0 j1 => by
  by_cases e : j = k
  · rw [upd_at e]
    exact hx q
  · rw [upd_ne j0 h0 e]
    exact h q j j0 (by grind)
theorem az_le {n k k' : Int32} {A : Nat → Int32} (h : az n A k) (hk : k' ≤ k) : az n A k' := fun q j j0 j1 => h q j j0 (by grind)
theorem az_ne {n k : Int32} {A : Nat → Int32} (h : ¬ n = 0) : az n A k := fun q => absurd q h
/-! the row 'had' -/
def rh (u : uk_Mem) : Prop := rk (u.1 60 3) (u.1 77) (u.1 64) (u.1 65) 32
theorem rh_1 {c i : Nat} {x : Int32} {u : uk_Mem} (h : rh u) (hc : c ≠ 77 ∧ c ≠ 64 ∧ c ≠ 65) (h3 : c = 60 → i ≠ 3) : rh (uk_up u c i x) := by
  unfold rh
  rw [uk_up_at, if_neg (fun q => h3 q.1.symm q.2.symm), uk_up_oc hc.1.symm, uk_up_oc hc.2.1.symm, uk_up_oc hc.2.2.symm]
  exact h
theorem rh_fk {l ks : List Nat} {u u' : uk_Mem} (h : rh u) (f : fk l ks u u') (h0 : 60 ∉ l ∨ (60 = 60 ∧ 3 ∈ ks)) (h1 : 77 ∉ l) (h4 : 64 ∉ l) (h5 : 65 ∉ l) : rh u' := by
  unfold rh
  rw [fk_at f h0, fk_c f h1, fk_c f h4, fk_c f h5]
  exact h
theorem rh_of {u u' : uk_Mem} (h : ri u) (f0 : u'.1 60 3 = u.1 60 3) (f4 : u'.1 64 = u.1 64) (f5 : u'.1 65 = u.1 65) (hc : cpy (u'.1 77) (u.1 61) 51) : rh u' := by
  unfold rh
  rw [f0, f4, f5]
  exact cpy_rk (o := 0) h.1 hc
theorem ri_ofh {u u' : uk_Mem} (h : ri u) (ha : rh u) (f0 : u'.1 60 3 = u.1 60 3) (f3 : u'.1 63 = u.1 63) (f4 : u'.1 64 = u.1 64) (f5 : u'.1 65 = u.1 65) (hc : cpy (u'.1 61) (u.1 77) 51) (hx : cpx (u'.1 61) (u.1 61)) : ri u' := by
  unfold ri
  rw [f0, f3, f4, f5]
  exact ⟨cpy_rk (o := 0) ha hc, h.2.1.imp_right fun q => rk_eq q (fun m m0 m7 => hx (83 + m) (by grind)), h.2.2.imp_right fun q => rk_eq q (fun m m0 m7 => hx (134 + m) (by grind))⟩
/-- the place that is read lies in its sheet -/
theorem rd_ix {k f i s z z2 z3 : Int32} {p : Int64} (hk : 0 ≤ k) (hk3 : k ≤ 3) (hi : 0 ≤ i) (hi2 : i ≤ 20) (hs : s ≤ 40) (hp : p = f.toInt64 + i.toInt64) (c1 : ¬ lg_cmp p 0 < 0) (c2 : lg_cmp p s.toInt64 < 0) (e1 : z = 40 * k) (e2 : z2 = z + f) (e3 : z3 = z2 + i) : 0 ≤ z3 ∧ z3 < 160 := by
  rw [lg_cmp_lt] at c1 c2
  have a := Int32.le_iff_toInt_le.mp hi
  have b := Int32.le_iff_toInt_le.mp hi2
  have c := Int32.le_iff_toInt_le.mp hs
  have f0 := Int32.le_toInt f
  have f1 := Int32.toInt_le f
  have m0 : Int32.minValue.toInt = -2147483648 := rfl
  have m1 : Int32.maxValue.toInt = 2147483647 := rfl
  have y0 : (0 : Int32).toInt = 0 := rfl
  have y1 : (20 : Int32).toInt = 20 := rfl
  have y2 : (40 : Int32).toInt = 40 := rfl
  have hpt : p.toInt = f.toInt + i.toInt := by
    rw [hp, Int64.toInt_add, Int32.toInt_toInt64, Int32.toInt_toInt64]
    apply Int.bmod_eq_of_le <;> omega
  have q1 : 0 ≤ f.toInt + i.toInt := by
    rw [Int64.lt_iff_toInt_lt, hpt] at c1
    have : (0 : Int64).toInt = 0 := rfl
    omega
  have q2 : f.toInt + i.toInt < 40 := by
    rw [Int64.lt_iff_toInt_lt, hpt, Int32.toInt_toInt64] at c2
    omega
  have hq : (f + i).toInt = f.toInt + i.toInt := by
    rw [Int32.toInt_add]
    apply Int.bmod_eq_of_le <;> omega
  have g0 : 0 ≤ f + i := Int32.le_iff_toInt_le.mpr (by rw [hq]; omega)
  have y3 : (39 : Int32).toInt = 39 := rfl
  have g1 : f + i ≤ 39 := Int32.le_iff_toInt_le.mpr (by rw [hq]; omega)
  have e : z3 = 40 * k + (f + i) := by rw [e3, e2, e1, Int32.add_assoc]
  generalize f + i = w at *
  subst e
  clear e3 e2 e1 hp hpt c1 c2
  constructor <;> lia
/-! the images -/
def cpi (A B : Nat → Int32) (to o k : Int32) : Prop := ∀ i : Int32, 0 ≤ i → i ≤ 152 → A i.toNatClampNeg = if to ≤ i ∧ i < to + k then B (o + (i - to)).toNatClampNeg else B i.toNatClampNeg
theorem cpi_0 {A : Nat → Int32} {to o : Int32} (h : 0 ≤ to) (h1 : to ≤ 102) : cpi A A to o 0 := fun i h0 h1 => by
  rw [if_neg (by grind)]
theorem cpi_up {A B : Nat → Int32} {to o k x z : Int32} (h : cpi A B to o k) (h0 : 0 ≤ k) (h1 : k < 51) (t0 : 0 ≤ to) (t1 : to ≤ 102) (o0 : 0 ≤ o) (o1 : o ≤ 102) (hz : z = to + k) (hto : o + 51 ≤ to ∨ to + 51 ≤ o) (hx : x = A (o + k).toNatClampNeg) : cpi (upd A z.toNatClampNeg x) B to o (k + 1) := fun i i0 i1 => by
  subst hz
  have hA := h (o + k) (by grind) (by grind)
  have hnn : ¬ (to ≤ o + k ∧ o + k < to + k) := fun q => by
    rcases hto with z | z
    · have := q.1
      lia
    · have := q.2
      lia
  rw [if_neg hnn] at hA
  by_cases q : i = to + k
  · rw [upd_at q, hx, hA, if_pos (by grind), show o + (i - to) = o + k by grind]
  · rw [upd_ne i0 (by grind) q, h i i0 i1]
    by_cases q2 : to ≤ i ∧ i < to + k
    · rw [if_pos q2, if_pos (by grind)]
    · rw [if_neg q2, if_neg (by grind)]
theorem iv_img {u v : uk_Mem} (h : iv v) (hu : iv u) {to o k z w x : Int32} (ht : to = 0 ∨ to = 51 ∨ to = 102) (ho : o = 0 ∨ o = 51 ∨ o = 102) (h0 : 0 ≤ k) (h1 : k < 51) (hz : z = to + k) (hw : w = o + k) (hx : x = u.1 61 w.toNatClampNeg) : iv (uk_up v 61 z.toNatClampNeg x) := by
  obtain ⟨j, hj, rfl⟩ := nI_of2 (x := k) (M := 50) (n := 50) rfl (by grind) (by grind)
  have key : ∀ t : Int32, t = 0 ∨ t = 51 ∨ t = 102 → uk_rg 61 (t + nI j).toNatClampNeg = uk_rg 61 j := by
    intro t ht
    rcases ht with rfl | rfl | rfl
    · rw [Int32.zero_add, nI_clamp (by omega)]
    · rw [show (51 : Int32) = nI 51 from rfl, nI_add, nI_clamp (by omega)]
      exact sg_t8 j (by omega)
    · rw [show (102 : Int32) = nI 102 from rfl, nI_add, nI_clamp (by omega)]
      exact sg_t9 j (by omega)
  have hr := hu 61 w.toNatClampNeg
  rw [← hx, hw, key o ho] at hr
  rw [hz]
  exact iv_up h (lo := (uk_rg 61 j).1) (hi := (uk_rg 61 j).2) (key to ht) hr.1 hr.2
/-- an image is kept -/
theorem ri_keep {u u' : uk_Mem} (h : ri u) {k to : Int32} (hk : (k = 0 ∧ to = 51) ∨ (k = 1 ∧ to = 102)) (f0 : u'.1 60 3 = u.1 60 3) (f3 : u'.1 63 = upd (u.1 63) k.toNatClampNeg 1) (f4 : u'.1 64 = u.1 64) (f5 : u'.1 65 = u.1 65) (hc : cpi (u'.1 61) (u.1 61) to 0 51) : ri u' := by
  unfold ri
  rw [f0, f3, f4, f5]
  rcases hk with ⟨rfl, rfl⟩ | ⟨rfl, rfl⟩
  · refine ⟨rk_eq h.1 (fun m m0 m7 => ?_), Or.inr (rk_eq h.1 (fun m m0 m7 => ?_)), ?_⟩
    · rw [hc (32 + m) (by grind) (by grind), if_neg (by grind)]
    · rw [hc (83 + m) (by grind) (by grind), if_pos (by grind), show (0 : Int32) + (83 + m - 51) = 32 + m by grind]
    · have : upd (u.1 63) (0 : Int32).toNatClampNeg 1 1 = u.1 63 1 := by unfold upd; rw [if_neg (by decide)]
      rw [this]
      refine h.2.2.imp_right fun q => rk_eq q (fun m m0 m7 => ?_)
      rw [hc (134 + m) (by grind) (by grind), if_neg (by grind)]
  · refine ⟨rk_eq h.1 (fun m m0 m7 => ?_), ?_, Or.inr (rk_eq h.1 (fun m m0 m7 => ?_))⟩
    · rw [hc (32 + m) (by grind) (by grind), if_neg (by grind)]
    · have : upd (u.1 63) (1 : Int32).toNatClampNeg 1 0 = u.1 63 0 := by unfold upd; rw [if_neg (by decide)]
      rw [this]
      refine h.2.1.imp_right fun q => rk_eq q (fun m m0 m7 => ?_)
      rw [hc (83 + m) (by grind) (by grind), if_neg (by grind)]
    · rw [hc (134 + m) (by grind) (by grind), if_pos (by grind), show (0 : Int32) + (134 + m - 102) = 32 + m by grind]
/-- an image comes back -/
theorem ri_back {u u' : uk_Mem} (h : ri u) {k o : Int32} (hk : (k = 0 ∧ o = 51) ∨ (k = 1 ∧ o = 102)) (h1 : ¬ u.1 63 k.toNatClampNeg = 0) (f0 : u'.1 60 3 = u.1 60 3) (f3 : u'.1 63 = u.1 63) (f4 : u'.1 64 = u.1 64) (f5 : u'.1 65 = u.1 65) (hc : cpi (u'.1 61) (u.1 61) 0 o 51) : ri u' := by
  unfold ri
  rw [f0, f3, f4, f5]
  have e1 : ∀ m : Int32, 0 ≤ m → m ≤ 7 → u'.1 61 (83 + m).toNatClampNeg = u.1 61 (83 + m).toNatClampNeg := fun m m0 m7 => by
    rw [hc (83 + m) (by grind) (by grind), if_neg (by grind)]
  have e2 : ∀ m : Int32, 0 ≤ m → m ≤ 7 → u'.1 61 (134 + m).toNatClampNeg = u.1 61 (134 + m).toNatClampNeg := fun m m0 m7 => by
    rw [hc (134 + m) (by grind) (by grind), if_neg (by grind)]
  refine ⟨?_, h.2.1.imp_right fun q => rk_eq q e1, h.2.2.imp_right fun q => rk_eq q e2⟩
  rcases hk with ⟨rfl, rfl⟩ | ⟨rfl, rfl⟩
  · refine rk_eq (h.2.1.resolve_left h1) (fun m m0 m7 => ?_)
    rw [hc (32 + m) (by grind) (by grind), if_pos (by grind), show (51 : Int32) + (32 + m - 0) = 83 + m by grind]
  · refine rk_eq (h.2.2.resolve_left h1) (fun m m0 m7 => ?_)
    rw [hc (32 + m) (by grind) (by grind), if_pos (by grind), show (102 : Int32) + (32 + m - 0) = 134 + m by grind]
