abbrev q_X7_doIt_a (u : uk_Mem) (g : Int32) (r : Option Value) (u' : uk_Mem) : Prop := (r = none) ∧ (iv u' ∧ fk [62] [] u u' ∧ ra u')
set_option maxHeartbeats 4000000 in
set_option maxRecDepth 20000 in
theorem c_X7_doIt_a {G : uk_D} (hs : uk_Sep G) {u : uk_Mem} (hu : iv u) (hra : ra u) (g : Int32) (p0 : 0 ≤ g) (p1 : g ≤ 7) (p2 : 0 ≤ (u.1 64 (g).toNatClampNeg)) (p3 : (u.1 64 (g).toNatClampNeg) < g) (p4 : 0 ≤ (u.1 65 (g).toNatClampNeg)) (p5 : (u.1 65 (g).toNatClampNeg) < g) (p6 : u.1 62 (g).toNatClampNeg < 40) (p7 : ((u.1 64 (g).toNatClampNeg) = (u.1 65 (g).toNatClampNeg) → 2 ≤ u.1 62 (u.1 64 (g).toNatClampNeg).toNatClampNeg)) (p8 : (¬ (u.1 64 (g).toNatClampNeg) = (u.1 65 (g).toNatClampNeg) → 1 ≤ u.1 62 (u.1 64 (g).toNatClampNeg).toNatClampNeg ∧ 1 ≤ u.1 62 (u.1 65 (g).toNatClampNeg).toNatClampNeg)) (d : Nat) : uk_Meth G (d + 1) mX7_doIt [.ref (uk_ad G 60), .int g] u (q_X7_doIt_a u g) := by
  refine uk_Meth.of hs (by decide) (Nat.le_of_ble_eq_true rfl) (fun X => ?_)
  have f0 : fk [62] [] u u := fk_rf
  have C62 : u.1 62 = u.1 62 := rfl
  obtain ⟨pA, hpA⟩ : ∃ a, u.1 64 (g).toNatClampNeg = a := ⟨_, rfl⟩
  obtain ⟨pB, hpB⟩ : ∃ a, u.1 65 (g).toNatClampNeg = a := ⟨_, rfl⟩
  obtain ⟨cA, hcA⟩ : ∃ a, u.1 62 pA.toNatClampNeg = a := ⟨_, rfl⟩
  obtain ⟨cB, hcB⟩ : ∃ a, u.1 62 pB.toNatClampNeg = a := ⟨_, rfl⟩
  obtain ⟨cM, hcM⟩ : ∃ a, u.1 62 (g).toNatClampNeg = a := ⟨_, rfl⟩
  simp only [hpA, hpB, hcA, hcB, hcM] at p2 p3 p4 p5 p6 p7 p8
  have rA := sg_0 hu (c := 62) (by unfold uk_is51; decide) (i := pA) (by lia) (by lia)
  rw [hcA] at rA
  have rB := sg_0 hu (c := 62) (by unfold uk_is51; decide) (i := pB) (by lia) (by lia)
  rw [hcB] at rB
  have rM := sg_0 hu (c := 62) (by unfold uk_is51; decide) (i := g) (by lia) (by lia)
  rw [hcM] at rM
  have hAB : pA = pB → cA = cB := fun q => by rw [← hcA, ← hcB, q]
  refine g_iload_n dX7_doIt_0 rfl ?_
  refine g_bipush (v := 10) dX7_doIt_1 (by decide) ?_
  refine g_irem dX7_doIt_3 (by first | decide | lia | grind) ?_
  refine g_topi (fun x1 ex1 => ?_)
  have nx1 : x1 = g := (uk_r10 ex1).1 (by lia) (by lia); clear ex1
  refine g_istore_n dX7_doIt_4 (by decide) ?_
  refine g_iload_n dX7_doIt_5 rfl ?_
  refine g_bipush (v := 10) dX7_doIt_6 (by decide) ?_
  refine g_icmp_ge (tgt := 15) dX7_doIt_8 (by decide) (fun c2 => ?_) (fun c2 => ?_)
  · exact absurd c2 (by lia)
  · refine g_iconst (v := (-1)) dX7_doIt_11 (by decide) ?_
    refine g_goto (tgt := 16) dX7_doIt_12 (by decide) ?_
    refine g_istore_n dX7_doIt_16 (by decide) ?_
    refine g_iload_n dX7_doIt_17 rfl ?_
    refine g_bipush (v := 10) dX7_doIt_18 (by decide) ?_
    refine g_icmp_lt (tgt := 31) dX7_doIt_20 (by decide) (fun c3 => ?_) (fun c3 => ?_)
    · refine g_iconst (v := 1) dX7_doIt_31 (by decide) ?_
      refine g_goto (tgt := 36) dX7_doIt_32 (by decide) ?_
      refine g_istore dX7_doIt_36 (by decide) ?_
      refine g_aload_n dX7_doIt_38 rfl ?_
      refine f_X7_13 rfl rfl dX7_doIt_39 ?_
      refine g_iconst (v := 0) dX7_doIt_42 (by decide) ?_
      refine g_iload_n dX7_doIt_43 rfl ?_
      refine g_iadd dX7_doIt_44 ?_
      refine g_topi (fun x4 ex4 => ?_)
      have ox4 : x4 = x1 := by rw [ex4, Int32.zero_add]
      refine g_dup2 dX7_doIt_45 rfl rfl ?_
      have v5 : vp_in x4 51 := uk_vin 51 rfl (by first | decide | lia | grind) (by first | decide | lia | grind)
      refine g_iald rfl rfl v5 dX7_doIt_46 ?_
      refine g_topi (fun x6 ex6 => ?_)
      have bx6 := uk_cl v5
      have rx6 : 0 ≤ x6 ∧ x6 ≤ 40 := by rw [ex6]; exact sg_0 hu (by unfold uk_is51; decide) (by first | lia | grind) (by first | lia | grind)
      have px6 : x6 = (u.1 62) (x4 : Int32).toNatClampNeg := ex6.trans (congrFun C62 _)
      have yx6 : x6 = cM := by rw [px6, show (x4 : Int32) = g by lia]; exact hcM
      refine g_iload_n dX7_doIt_47 rfl ?_
      refine g_isub dX7_doIt_48 ?_
      refine g_topi (fun x7 ex7 => ?_)
      have v8 : vp_in x4 51 := uk_vin 51 rfl (by first | decide | lia | grind) (by first | decide | lia | grind)
      have b9 := uk_cl v8
      refine g_iast rfl rfl v8 dX7_doIt_49 ?_
      refine g_mem (fun u10 eu10 => ?_)
      have t7 : 43 ≤ x4 → 0 ≤ x7 ∧ x7 ≤ 7 := fun q => by lia
      sorry
