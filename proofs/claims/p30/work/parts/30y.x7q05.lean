set_option maxHeartbeats 4000000 in
theorem lw_c7 {G : uk_D} {X : uk_Cx} {b L : Nat} {xs : Nat → Int32} {i : Int32} {u : uk_Mem} (hs : uk_Sep G) (hX : lw_scr G X b L xs) (h1 : vp_in (i + 1) L) (h2 : vp_in (i + 2) L) (h3 : vp_in (i + 3) L) (h4 : vp_in (i + 4) L) (hu : iv u) (hri : ri u) (ht : REL u) (K : ∀ u', iv u' → ri u' → REL u' → uk_G G X mL 12 lw_q 1230 [(0, .ref b), (1, .ref (uk_ad G 0)), (2, .ref (uk_ad G 60)), (3, .int i)] [] u') : uk_G G X mL 12 lw_q 353 [(0, .ref b), (1, .ref (uk_ad G 0)), (2, .ref (uk_ad G 60)), (3, .int i)] [] u := by
  have hts : u.1 2 1 = u.1 60 13 := ht.2.2.2.2.1.1
  have htp : cpy (u.1 3) (u.1 69) (u.1 2 1) := ht.2.2.2.2.1.2.1
  refine g_aload_n dL_law_353 rfl ?_
  refine g_aload_n dL_law_354 rfl ?_
  refine g_iload_n dL_law_355 rfl ?_
  refine g_iconst (v := 1) dL_law_356 (by decide) ?_
  refine g_iadd dL_law_357 ?_
  refine g_sld hX h1 dL_law_358 ?_
  refine g_aload_n dL_law_359 rfl ?_
  refine g_iload_n dL_law_360 rfl ?_
  refine g_iconst (v := 2) dL_law_361 (by decide) ?_
  refine g_iadd dL_law_362 ?_
  refine g_sld hX h2 dL_law_363 ?_
  refine cl_L_44 (c := 0) (As := [.int (xs (i + 1).toNatClampNeg), .int (xs (i + 2).toNatClampNeg)]) rfl (x_X6_feeds (G := G) hs hu (xs (i + 1).toNatClampNeg) (xs (i + 2).toNatClampNeg) 9) rfl (by decide) rfl rfl (Nat.le_of_ble_eq_true rfl) dL_law_364 (fun r1 u1 q1 => ?_)
  obtain ⟨q1, E1⟩ := q1
  obtain ⟨⟨x1, rfl, t1⟩, m1⟩ := q1
  obtain ⟨hv1, g1⟩ := m1
  have rj1 : ri u1 := ri_fr hri g1 (by decide)
  have K1 : KR u u1 13 61 0 := KR_u1 ht g1 (by decide)
  refine g_pop dL_law_367 rfl ?_
  refine g_aload_n dL_law_368 rfl ?_
  refine g_aload_n dL_law_369 rfl ?_
  refine g_iload_n dL_law_370 rfl ?_
  refine g_iconst (v := 1) dL_law_371 (by decide) ?_
  refine g_iadd dL_law_372 ?_
  refine g_sld hX h1 dL_law_373 ?_
  refine g_aload_n dL_law_374 rfl ?_
  refine g_iload_n dL_law_375 rfl ?_
  refine g_iconst (v := 2) dL_law_376 (by decide) ?_
  refine g_iadd dL_law_377 ?_
  refine g_sld hX h2 dL_law_378 ?_
  refine cl_L_47 (c := 60) (As := [.int (xs (i + 1).toNatClampNeg), .int (xs (i + 2).toNatClampNeg)]) rfl (x_X7_feeds (G := G) hs hv1 rj1 (xs (i + 1).toNatClampNeg) (xs (i + 2).toNatClampNeg) 8) rfl (by decide) rfl rfl (Nat.le_of_ble_eq_true rfl) dL_law_379 (fun r2 u2 q2 => ?_)
  obtain ⟨q2, E2⟩ := q2
  obtain ⟨⟨x2, rfl, t2⟩, m2⟩ := q2
  obtain ⟨hv2, g2, ri2⟩ := m2
  have A := feeds_e (m := (xs (i + 1).toNatClampNeg)) (n := (xs (i + 2).toNatClampNeg)) hv1 K1
  have A2 : KR u1 u2 13 61 0 := by
    have z := A.2
    rw [← E1.2, ← E2.2] at z
    exact z
  have ht2 : REL u2 := REL_kit ht hu g1 g2 (by decide) (fun j hj => by rw [E2.2]; exact feeds_o (iv_at hv1 60 3 rfl) hj) A2
  refine g_pop dL_law_382 rfl ?_
  refine g_goto (tgt := 1230) dL_law_383 (by decide) ?_
  exact K u2 hv2 ri2 ht2
set_option maxHeartbeats 4000000 in
theorem lw_c8 {G : uk_D} {X : uk_Cx} {b L : Nat} {xs : Nat → Int32} {i : Int32} {u : uk_Mem} (hs : uk_Sep G) (hX : lw_scr G X b L xs) (h1 : vp_in (i + 1) L) (h2 : vp_in (i + 2) L) (h3 : vp_in (i + 3) L) (h4 : vp_in (i + 4) L) (hu : iv u) (hri : ri u) (ht : REL u) (K : ∀ u', iv u' → ri u' → REL u' → uk_G G X mL 12 lw_q 1230 [(0, .ref b), (1, .ref (uk_ad G 0)), (2, .ref (uk_ad G 60)), (3, .int i)] [] u') : uk_G G X mL 12 lw_q 386 [(0, .ref b), (1, .ref (uk_ad G 0)), (2, .ref (uk_ad G 60)), (3, .int i)] [] u := by
  have hts : u.1 2 1 = u.1 60 13 := ht.2.2.2.2.1.1
  have htp : cpy (u.1 3) (u.1 69) (u.1 2 1) := ht.2.2.2.2.1.2.1
  refine g_aload_n dL_law_386 rfl ?_
  refine g_aload_n dL_law_387 rfl ?_
  refine g_iload_n dL_law_388 rfl ?_
  refine g_iconst (v := 1) dL_law_389 (by decide) ?_
  refine g_iadd dL_law_390 ?_
  refine g_sld hX h1 dL_law_391 ?_
  refine g_aload_n dL_law_392 rfl ?_
  refine g_iload_n dL_law_393 rfl ?_
  refine g_iconst (v := 2) dL_law_394 (by decide) ?_
  refine g_iadd dL_law_395 ?_
  refine g_sld hX h2 dL_law_396 ?_
  refine cl_L_48 (c := 0) (As := [.int (xs (i + 1).toNatClampNeg), .int (xs (i + 2).toNatClampNeg)]) rfl (x_X6_price (G := G) hs hu (xs (i + 1).toNatClampNeg) (xs (i + 2).toNatClampNeg) 9) rfl (by decide) rfl rfl (Nat.le_of_ble_eq_true rfl) dL_law_397 (fun r1 u1 q1 => ?_)
  obtain ⟨q1, E1⟩ := q1
  obtain ⟨⟨x1, rfl, t1⟩, m1⟩ := q1
  obtain ⟨hv1, g1⟩ := m1
  have rj1 : ri u1 := ri_fr hri g1 (by decide)
  have K1 : KR u u1 13 61 0 := KR_u1 ht g1 (by decide)
  refine g_pop dL_law_400 rfl ?_
  refine g_aload_n dL_law_401 rfl ?_
  refine g_aload_n dL_law_402 rfl ?_
  refine g_iload_n dL_law_403 rfl ?_
  refine g_iconst (v := 1) dL_law_404 (by decide) ?_
  refine g_iadd dL_law_405 ?_
  refine g_sld hX h1 dL_law_406 ?_
  refine g_aload_n dL_law_407 rfl ?_
  refine g_iload_n dL_law_408 rfl ?_
  refine g_iconst (v := 2) dL_law_409 (by decide) ?_
  refine g_iadd dL_law_410 ?_
  refine g_sld hX h2 dL_law_411 ?_
  refine cl_L_51 (c := 60) (As := [.int (xs (i + 1).toNatClampNeg), .int (xs (i + 2).toNatClampNeg)]) rfl (x_X7_price (G := G) hs hv1 rj1 (xs (i + 1).toNatClampNeg) (xs (i + 2).toNatClampNeg) 8) rfl (by decide) rfl rfl (Nat.le_of_ble_eq_true rfl) dL_law_412 (fun r2 u2 q2 => ?_)
  obtain ⟨q2, E2⟩ := q2
  obtain ⟨⟨x2, rfl, t2⟩, m2⟩ := q2
  obtain ⟨hv2, g2, ri2⟩ := m2
  have A := price_e (m := (xs (i + 1).toNatClampNeg)) (n := (xs (i + 2).toNatClampNeg)) hv1 K1
  have A2 : KR u1 u2 13 61 0 := by
    have z := A.2
    rw [← E1.2, ← E2.2] at z
    exact z
  have ht2 : REL u2 := REL_kit ht hu g1 g2 (by decide) (fun j hj => by rw [E2.2]; exact price_o (iv_at hv1 60 3 rfl) hj) A2
  refine g_pop dL_law_415 rfl ?_
  refine g_goto (tgt := 1230) dL_law_416 (by decide) ?_
  exact K u2 hv2 ri2 ht2
