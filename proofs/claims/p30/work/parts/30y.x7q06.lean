set_option maxHeartbeats 4000000 in
theorem lw_c9 {G : uk_D} {X : uk_Cx} {b L : Nat} {xs : Nat → Int32} {i : Int32} {u : uk_Mem} (hs : uk_Sep G) (hX : lw_scr G X b L xs) (h1 : vp_in (i + 1) L) (h2 : vp_in (i + 2) L) (h3 : vp_in (i + 3) L) (h4 : vp_in (i + 4) L) (hu : iv u) (hri : ri u) (ht : REL u) (K : ∀ u', iv u' → ri u' → REL u' → uk_G G X mL 12 lw_q 1230 [(0, .ref b), (1, .ref (uk_ad G 0)), (2, .ref (uk_ad G 60)), (3, .int i)] [] u') : uk_G G X mL 12 lw_q 419 [(0, .ref b), (1, .ref (uk_ad G 0)), (2, .ref (uk_ad G 60)), (3, .int i)] [] u := by
  have hts : u.1 2 1 = u.1 60 13 := ht.2.2.2.2.1.1
  have htp : cpy (u.1 3) (u.1 69) (u.1 2 1) := ht.2.2.2.2.1.2.1
  refine g_aload_n dL_law_419 rfl ?_
  refine g_aload_n dL_law_420 rfl ?_
  refine g_iload_n dL_law_421 rfl ?_
  refine g_iconst (v := 1) dL_law_422 (by decide) ?_
  refine g_iadd dL_law_423 ?_
  refine g_sld hX h1 dL_law_424 ?_
  refine g_aload_n dL_law_425 rfl ?_
  refine g_iload_n dL_law_426 rfl ?_
  refine g_iconst (v := 2) dL_law_427 (by decide) ?_
  refine g_iadd dL_law_428 ?_
  refine g_sld hX h2 dL_law_429 ?_
  refine cl_L_52 (c := 0) (As := [.int (xs (i + 1).toNatClampNeg), .int (xs (i + 2).toNatClampNeg)]) rfl (x_X6_kind (G := G) hs hu (xs (i + 1).toNatClampNeg) (xs (i + 2).toNatClampNeg) 9) rfl (by decide) rfl rfl (Nat.le_of_ble_eq_true rfl) dL_law_430 (fun r1 u1 q1 => ?_)
  obtain ⟨q1, E1⟩ := q1
  obtain ⟨⟨x1, rfl, t1⟩, m1⟩ := q1
  obtain ⟨hv1, g1⟩ := m1
  have rj1 : ri u1 := ri_fr hri g1 (by decide)
  have K1 : KR u u1 13 61 0 := KR_u1 ht g1 (by decide)
  refine g_pop dL_law_433 rfl ?_
  refine g_aload_n dL_law_434 rfl ?_
  refine g_aload_n dL_law_435 rfl ?_
  refine g_iload_n dL_law_436 rfl ?_
  refine g_iconst (v := 1) dL_law_437 (by decide) ?_
  refine g_iadd dL_law_438 ?_
  refine g_sld hX h1 dL_law_439 ?_
  refine g_aload_n dL_law_440 rfl ?_
  refine g_iload_n dL_law_441 rfl ?_
  refine g_iconst (v := 2) dL_law_442 (by decide) ?_
  refine g_iadd dL_law_443 ?_
  refine g_sld hX h2 dL_law_444 ?_
  refine cl_L_55 (c := 60) (As := [.int (xs (i + 1).toNatClampNeg), .int (xs (i + 2).toNatClampNeg)]) rfl (x_X7_kind (G := G) hs hv1 rj1 (xs (i + 1).toNatClampNeg) (xs (i + 2).toNatClampNeg) 8) rfl (by decide) rfl rfl (Nat.le_of_ble_eq_true rfl) dL_law_445 (fun r2 u2 q2 => ?_)
  obtain ⟨q2, E2⟩ := q2
  obtain ⟨⟨x2, rfl, t2⟩, m2⟩ := q2
  obtain ⟨hv2, g2, ri2⟩ := m2
  have A := kind_e (m := (xs (i + 1).toNatClampNeg)) (n := (xs (i + 2).toNatClampNeg)) hv1 K1
  have A2 : KR u1 u2 13 61 0 := by
    have z := A.2
    rw [← E1.2, ← E2.2] at z
    exact z
  have ht2 : REL u2 := REL_kit ht hu g1 g2 (by decide) (fun j hj => by rw [E2.2]; exact kind_o (iv_at hv1 60 3 rfl) hj) A2
  refine g_pop dL_law_448 rfl ?_
  refine g_goto (tgt := 1230) dL_law_449 (by decide) ?_
  exact K u2 hv2 ri2 ht2
set_option maxHeartbeats 4000000 in
theorem lw_c10 {G : uk_D} {X : uk_Cx} {b L : Nat} {xs : Nat → Int32} {i : Int32} {u : uk_Mem} (hs : uk_Sep G) (hX : lw_scr G X b L xs) (h1 : vp_in (i + 1) L) (h2 : vp_in (i + 2) L) (h3 : vp_in (i + 3) L) (h4 : vp_in (i + 4) L) (hu : iv u) (hri : ri u) (ht : REL u) (K : ∀ u', iv u' → ri u' → REL u' → uk_G G X mL 12 lw_q 1230 [(0, .ref b), (1, .ref (uk_ad G 0)), (2, .ref (uk_ad G 60)), (3, .int i)] [] u') : uk_G G X mL 12 lw_q 452 [(0, .ref b), (1, .ref (uk_ad G 0)), (2, .ref (uk_ad G 60)), (3, .int i)] [] u := by
  have hts : u.1 2 1 = u.1 60 13 := ht.2.2.2.2.1.1
  have htp : cpy (u.1 3) (u.1 69) (u.1 2 1) := ht.2.2.2.2.1.2.1
  refine g_aload_n dL_law_452 rfl ?_
  refine g_aload_n dL_law_453 rfl ?_
  refine g_iload_n dL_law_454 rfl ?_
  refine g_iconst (v := 1) dL_law_455 (by decide) ?_
  refine g_iadd dL_law_456 ?_
  refine g_sld hX h1 dL_law_457 ?_
  refine cl_L_56 (c := 0) (As := [.int (xs (i + 1).toNatClampNeg)]) rfl (x_X6_does (G := G) hs hu (xs (i + 1).toNatClampNeg) 7) rfl (by decide) rfl rfl (Nat.le_of_ble_eq_true rfl) dL_law_458 (fun r1 u1 q1 => ?_)
  obtain ⟨q1, E1⟩ := q1
  obtain ⟨⟨x1, rfl, t1⟩, m1⟩ := q1
  obtain ⟨hv1, g1⟩ := m1
  have rj1 : ri u1 := ri_fr hri g1 (by decide)
  have K1 : KR u u1 13 61 0 := KR_u1 ht g1 (by decide)
  refine g_pop dL_law_461 rfl ?_
  refine g_aload_n dL_law_462 rfl ?_
  refine g_aload_n dL_law_463 rfl ?_
  refine g_iload_n dL_law_464 rfl ?_
  refine g_iconst (v := 1) dL_law_465 (by decide) ?_
  refine g_iadd dL_law_466 ?_
  refine g_sld hX h1 dL_law_467 ?_
  refine cl_L_59 (c := 60) (As := [.int (xs (i + 1).toNatClampNeg)]) rfl (x_X7_does (G := G) hs hv1 rj1 (xs (i + 1).toNatClampNeg) 7) rfl (by decide) rfl rfl (Nat.le_of_ble_eq_true rfl) dL_law_468 (fun r2 u2 q2 => ?_)
  obtain ⟨q2, E2⟩ := q2
  obtain ⟨⟨x2, rfl, t2⟩, m2⟩ := q2
  obtain ⟨hv2, g2, ri2⟩ := m2
  have A := does_e (g := (xs (i + 1).toNatClampNeg)) hv1 rj1 K1
  have A2 : KR u1 u2 13 61 0 := by
    have z := A.2
    rw [← E1.2, ← E2.2] at z
    exact z
  have ht2 : REL u2 := REL_kit ht hu g1 g2 (by decide) (fun j hj => by rw [E2.2]; exact does_o hj) A2
  refine g_pop dL_law_471 rfl ?_
  refine g_goto (tgt := 1230) dL_law_472 (by decide) ?_
  exact K u2 hv2 ri2 ht2
