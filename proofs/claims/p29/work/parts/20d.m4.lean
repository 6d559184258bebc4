abbrev q_X7_canDo (u : uk_Mem) (g : Int32) (r : Option Value) (u' : uk_Mem) : Prop := (∃ x : Int32, r = some (.int x) ∧ (x = 0 ∨ x = 1) ∧ (¬ x = 0 → (g < 10 → 0 ≤ (u.1 64 (g).toNatClampNeg) ∧ (u.1 64 (g).toNatClampNeg) < g ∧ 0 ≤ (u.1 65 (g).toNatClampNeg) ∧ (u.1 65 (g).toNatClampNeg) < g ∧ u.1 62 (g).toNatClampNeg < 40 ∧ ((u.1 64 (g).toNatClampNeg) = (u.1 65 (g).toNatClampNeg) → 2 ≤ u.1 62 (u.1 64 (g).toNatClampNeg).toNatClampNeg) ∧ (¬ (u.1 64 (g).toNatClampNeg) = (u.1 65 (g).toNatClampNeg) → 1 ≤ u.1 62 (u.1 64 (g).toNatClampNeg).toNatClampNeg ∧ 1 ≤ u.1 62 (u.1 65 (g).toNatClampNeg).toNatClampNeg)) ∧ (10 ≤ g → 0 ≤ (u.1 64 ((g - 10)).toNatClampNeg) ∧ (u.1 64 ((g - 10)).toNatClampNeg) < (g - 10) ∧ 0 ≤ (u.1 65 ((g - 10)).toNatClampNeg) ∧ (u.1 65 ((g - 10)).toNatClampNeg) < (g - 10) ∧ 1 ≤ u.1 62 ((g - 10)).toNatClampNeg ∧ u.1 62 (u.1 64 ((g - 10)).toNatClampNeg).toNatClampNeg < 40 ∧ ((u.1 62 (32 + (g - 10)).toNatClampNeg = 0 ∨ (u.1 62 (32 + (g - 10)).toNatClampNeg = 3 ∧ u.1 62 (8 + (g - 10)).toNatClampNeg = 1)) → (u.1 64 ((g - 10)).toNatClampNeg) = (u.1 65 ((g - 10)).toNatClampNeg) → u.1 62 (u.1 64 ((g - 10)).toNatClampNeg).toNatClampNeg + 2 ≤ 40) ∧ ((u.1 62 (32 + (g - 10)).toNatClampNeg = 0 ∨ (u.1 62 (32 + (g - 10)).toNatClampNeg = 3 ∧ u.1 62 (8 + (g - 10)).toNatClampNeg = 1)) → ¬ (u.1 64 ((g - 10)).toNatClampNeg) = (u.1 65 ((g - 10)).toNatClampNeg) → u.1 62 (u.1 65 ((g - 10)).toNatClampNeg).toNatClampNeg < 40))) ∧ (x = 0 → True)) ∧ (u' = u)
set_option maxHeartbeats 4000000 in
set_option maxRecDepth 20000 in
theorem c_X7_canDo {G : uk_D} (hs : uk_Sep G) {u : uk_Mem} (hu : iv u) (hra : ra u) (g : Int32) (p0 : ((0 ≤ g ∧ g ≤ 7 ∧ g < u.1 60 3) ∨ (10 ≤ g ∧ g ≤ 17 ∧ g - 10 < u.1 60 3))) (d : Nat) : uk_Meth G (d + 2) mX7_canDo [.ref (uk_ad G 60), .int g] u (q_X7_canDo u g) := by
  refine uk_Meth.of hs (by decide) (Nat.le_of_ble_eq_true rfl) (fun X => ?_)
  refine g_iload_n dX7_canDo_0 rfl ?_
  refine g_bipush (v := 10) dX7_canDo_1 (by decide) ?_
  refine g_icmp_ge (tgt := 14) dX7_canDo_3 (by decide) (fun c1 => ?_) (fun c1 => ?_)
  · refine g_aload_n dX7_canDo_14 rfl ?_
    refine g_iload_n dX7_canDo_15 rfl ?_
    refine g_bipush (v := 10) dX7_canDo_16 (by decide) ?_
    refine g_isub dX7_canDo_18 ?_
    refine g_topi (fun x2 ex2 => ?_)
    refine cl_X7_160 (c := 60) (As := [.int x2]) rfl (c_X7_canTurn (G := G) hs hu hra  x2 (by first | trivial | decide | lia | grind) (by first | trivial | decide | lia | grind) (by first | trivial | decide | lia | grind) (d)) rfl (by omega) rfl rfl (Nat.le_of_ble_eq_true rfl) dX7_canDo_19 (fun r3 u4 q5 => ?_)
    obtain ⟨⟨x6, rfl, tx6, nx6, zx6⟩, mq5⟩ := q5
    rw [mq5]
    exact g_iret (ty := .boolean) dX7_canDo_22 rfl (uk_nb tx6) ⟨⟨_, rfl, tx6, fun q => by first | trivial | (have := nx6 q; first | exact this | grind), fun q => by first | trivial | (have := zx6 q; first | exact this | grind)⟩, rfl⟩
  · refine g_aload_n dX7_canDo_6 rfl ?_
    refine g_iload_n dX7_canDo_7 rfl ?_
    refine cl_X7_157 (c := 60) (As := [.int g]) rfl (c_X7_canCook (G := G) hs hu hra  g (by first | trivial | decide | lia | grind) (by first | trivial | decide | lia | grind) (by first | trivial | decide | lia | grind) (d + 1)) rfl (by omega) rfl rfl (Nat.le_of_ble_eq_true rfl) dX7_canDo_8 (fun r7 u8 q9 => ?_)
    obtain ⟨⟨x10, rfl, tx10, nx10, zx10⟩, mq9⟩ := q9
    rw [mq9]
    refine g_goto (tgt := 22) dX7_canDo_11 (by decide) ?_
    exact g_iret (ty := .boolean) dX7_canDo_22 rfl (uk_nb tx10) ⟨⟨_, rfl, tx10, fun q => by first | trivial | (have := nx10 q; first | exact this | grind), fun q => by first | trivial | (have := zx10 q; first | exact this | grind)⟩, rfl⟩
