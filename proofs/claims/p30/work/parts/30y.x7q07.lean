set_option maxHeartbeats 4000000 in
theorem lw_c11 {G : uk_D} {X : uk_Cx} {b L : Nat} {xs : Nat → Int32} {i : Int32} {u : uk_Mem} (hs : uk_Sep G) (hX : lw_scr G X b L xs) (h1 : vp_in (i + 1) L) (h2 : vp_in (i + 2) L) (h3 : vp_in (i + 3) L) (h4 : vp_in (i + 4) L) (hu : iv u) (hri : ri u) (ht : REL u) (K : ∀ u', iv u' → ri u' → REL u' → uk_G G X mL 12 lw_q 1230 [(0, .ref b), (1, .ref (uk_ad G 0)), (2, .ref (uk_ad G 60)), (3, .int i)] [] u') : uk_G G X mL 12 lw_q 475 [(0, .ref b), (1, .ref (uk_ad G 0)), (2, .ref (uk_ad G 60)), (3, .int i)] [] u := by
  have hts : u.1 2 1 = u.1 60 13 := ht.2.2.2.2.1.1
  have htp : cpy (u.1 3) (u.1 69) (u.1 2 1) := ht.2.2.2.2.1.2.1
  refine g_aload_n dL_law_475 rfl ?_
  refine g_aload_n dL_law_476 rfl ?_
  refine g_iload_n dL_law_477 rfl ?_
  refine g_iconst (v := 1) dL_law_478 (by decide) ?_
  refine g_iadd dL_law_479 ?_
  refine g_sld hX h1 dL_law_480 ?_
  refine cl_L_60 (c := 0) (As := [.int (xs (i + 1).toNatClampNeg)]) rfl (x_X6_eat (G := G) hs hu (xs (i + 1).toNatClampNeg) 9) rfl (by decide) rfl rfl (Nat.le_of_ble_eq_true rfl) dL_law_481 (fun r1 u1 q1 => ?_)
  obtain ⟨q1, E1⟩ := q1
  obtain ⟨⟨x1, rfl, t1⟩, m1⟩ := q1
  obtain ⟨hv1, g1⟩ := m1
  have rj1 : ri u1 := ri_fr hri g1 (by decide)
  have K1 : KR u u1 13 61 0 := KR_u1 ht g1 (by decide)
  refine g_pop dL_law_484 rfl ?_
  refine g_aload_n dL_law_485 rfl ?_
  refine g_aload_n dL_law_486 rfl ?_
  refine g_iload_n dL_law_487 rfl ?_
  refine g_iconst (v := 1) dL_law_488 (by decide) ?_
  refine g_iadd dL_law_489 ?_
  refine g_sld hX h1 dL_law_490 ?_
  refine cl_L_63 (c := 60) (As := [.int (xs (i + 1).toNatClampNeg)]) rfl (x_X7_eat (G := G) hs hv1 rj1 (xs (i + 1).toNatClampNeg) 8) rfl (by decide) rfl rfl (Nat.le_of_ble_eq_true rfl) dL_law_491 (fun r2 u2 q2 => ?_)
  obtain ⟨q2, E2⟩ := q2
  obtain ⟨⟨x2, rfl, t2⟩, m2⟩ := q2
  obtain ⟨hv2, g2, ri2⟩ := m2
  have A := eat_e (m := (xs (i + 1).toNatClampNeg)) hv1 K1
  have A2 : KR u1 u2 13 61 0 := by
    have z := A.2
    rw [← E1.2, ← E2.2] at z
    exact z
  have ht2 : REL u2 := REL_kit ht hu g1 g2 (by decide) (fun j hj => by rw [E2.2]; exact eat_o (iv_at hv1 60 3 rfl) hj) A2
  refine g_pop dL_law_494 rfl ?_
  refine g_goto (tgt := 1230) dL_law_495 (by decide) ?_
  exact K u2 hv2 ri2 ht2
set_option maxHeartbeats 4000000 in
theorem lw_c12 {G : uk_D} {X : uk_Cx} {b L : Nat} {xs : Nat → Int32} {i : Int32} {u : uk_Mem} (hs : uk_Sep G) (hX : lw_scr G X b L xs) (h1 : vp_in (i + 1) L) (h2 : vp_in (i + 2) L) (h3 : vp_in (i + 3) L) (h4 : vp_in (i + 4) L) (hu : iv u) (hri : ri u) (ht : REL u) (K : ∀ u', iv u' → ri u' → REL u' → uk_G G X mL 12 lw_q 1230 [(0, .ref b), (1, .ref (uk_ad G 0)), (2, .ref (uk_ad G 60)), (3, .int i)] [] u') : uk_G G X mL 12 lw_q 498 [(0, .ref b), (1, .ref (uk_ad G 0)), (2, .ref (uk_ad G 60)), (3, .int i)] [] u := by
  have hts : u.1 2 1 = u.1 60 13 := ht.2.2.2.2.1.1
  have htp : cpy (u.1 3) (u.1 69) (u.1 2 1) := ht.2.2.2.2.1.2.1
  refine g_aload_n dL_law_498 rfl ?_
  refine g_aload_n dL_law_499 rfl ?_
  refine g_iload_n dL_law_500 rfl ?_
  refine g_iconst (v := 1) dL_law_501 (by decide) ?_
  refine g_iadd dL_law_502 ?_
  refine g_sld hX h1 dL_law_503 ?_
  refine cl_L_64 (c := 0) (As := [.int (xs (i + 1).toNatClampNeg)]) rfl (x_X6_can (G := G) hs hu (xs (i + 1).toNatClampNeg) 7) rfl (by decide) rfl rfl (Nat.le_of_ble_eq_true rfl) dL_law_504 (fun r1 u1 q1 => ?_)
  obtain ⟨q1, E1⟩ := q1
  obtain ⟨⟨x1, rfl, t1⟩, m1⟩ := q1
  rw [m1]
  refine g_pop dL_law_507 rfl ?_
  refine g_aload_n dL_law_508 rfl ?_
  refine g_aload_n dL_law_509 rfl ?_
  refine g_iload_n dL_law_510 rfl ?_
  refine g_iconst (v := 1) dL_law_511 (by decide) ?_
  refine g_iadd dL_law_512 ?_
  refine g_sld hX h1 dL_law_513 ?_
  refine cl_L_67 (c := 60) (As := [.int (xs (i + 1).toNatClampNeg)]) rfl (x_X7_can (G := G) hs hu hri (xs (i + 1).toNatClampNeg) 7) rfl (by decide) rfl rfl (Nat.le_of_ble_eq_true rfl) dL_law_514 (fun r2 u2 q2 => ?_)
  obtain ⟨q2, E2⟩ := q2
  obtain ⟨⟨x2, rfl, t2⟩, m2⟩ := q2
  obtain ⟨hv2, g2, ri2⟩ := m2
  have ht2 : REL u2 := REL_fk ht g2 (by decide) (by decide)
  refine g_pop dL_law_517 rfl ?_
  refine g_goto (tgt := 1230) dL_law_518 (by decide) ?_
  exact K u2 hv2 ri2 ht2
