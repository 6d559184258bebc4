set_option maxHeartbeats 4000000 in
theorem lw_c5 {G : uk_D} {X : uk_Cx} {b L : Nat} {xs : Nat → Int32} {i : Int32} {u : uk_Mem} (hs : uk_Sep G) (hX : lw_scr G X b L xs) (h1 : vp_in (i + 1) L) (h2 : vp_in (i + 2) L) (h3 : vp_in (i + 3) L) (h4 : vp_in (i + 4) L) (hu : iv u) (hri : ri u) (ht : REL u) (K : ∀ u', iv u' → ri u' → REL u' → uk_G G X mL 12 lw_q 1230 [(0, .ref b), (1, .ref (uk_ad G 0)), (2, .ref (uk_ad G 60)), (3, .int i)] [] u') : uk_G G X mL 12 lw_q 287 [(0, .ref b), (1, .ref (uk_ad G 0)), (2, .ref (uk_ad G 60)), (3, .int i)] [] u := by
  have hts : u.1 2 1 = u.1 60 13 := ht.2.2.2.2.1.1
  have htp : cpy (u.1 3) (u.1 69) (u.1 2 1) := ht.2.2.2.2.1.2.1
  refine g_aload_n dL_law_287 rfl ?_
  refine g_aload_n dL_law_288 rfl ?_
  refine g_iload_n dL_law_289 rfl ?_
  refine g_iconst (v := 1) dL_law_290 (by decide) ?_
  refine g_iadd dL_law_291 ?_
  refine g_sld hX h1 dL_law_292 ?_
  refine g_aload_n dL_law_293 rfl ?_
  refine g_iload_n dL_law_294 rfl ?_
  refine g_iconst (v := 2) dL_law_295 (by decide) ?_
  refine g_iadd dL_law_296 ?_
  refine g_sld hX h2 dL_law_297 ?_
  refine cl_L_35 (c := 0) (As := [.int (xs (i + 1).toNatClampNeg), .int (xs (i + 2).toNatClampNeg)]) rfl (x_X6_stuff (G := G) hs hu (xs (i + 1).toNatClampNeg) (xs (i + 2).toNatClampNeg) 9) rfl (by decide) rfl rfl (Nat.le_of_ble_eq_true rfl) dL_law_298 (fun r1 u1 q1 => ?_)
  obtain ⟨q1, E1⟩ := q1
  obtain ⟨⟨x1, rfl, t1⟩, m1⟩ := q1
  rw [m1]
  refine g_pop dL_law_301 rfl ?_
  refine g_aload_n dL_law_302 rfl ?_
  refine g_aload_n dL_law_303 rfl ?_
  refine g_iload_n dL_law_304 rfl ?_
  refine g_iconst (v := 1) dL_law_305 (by decide) ?_
  refine g_iadd dL_law_306 ?_
  refine g_sld hX h1 dL_law_307 ?_
  refine g_aload_n dL_law_308 rfl ?_
  refine g_iload_n dL_law_309 rfl ?_
  refine g_iconst (v := 2) dL_law_310 (by decide) ?_
  refine g_iadd dL_law_311 ?_
  refine g_sld hX h2 dL_law_312 ?_
  refine cl_L_39 (c := 60) (As := [.int (xs (i + 1).toNatClampNeg), .int (xs (i + 2).toNatClampNeg)]) rfl (x_X7_stuff (G := G) hs hu (xs (i + 1).toNatClampNeg) (xs (i + 2).toNatClampNeg) 8) rfl (by decide) rfl rfl (Nat.le_of_ble_eq_true rfl) dL_law_313 (fun r2 u2 q2 => ?_)
  obtain ⟨q2, E2⟩ := q2
  obtain ⟨⟨x2, rfl, t2⟩, m2⟩ := q2
  rw [m2]
  refine g_pop dL_law_316 rfl ?_
  refine g_goto (tgt := 1230) dL_law_317 (by decide) ?_
  exact K u hu hri ht
set_option maxHeartbeats 4000000 in
theorem lw_c6 {G : uk_D} {X : uk_Cx} {b L : Nat} {xs : Nat → Int32} {i : Int32} {u : uk_Mem} (hs : uk_Sep G) (hX : lw_scr G X b L xs) (h1 : vp_in (i + 1) L) (h2 : vp_in (i + 2) L) (h3 : vp_in (i + 3) L) (h4 : vp_in (i + 4) L) (hu : iv u) (hri : ri u) (ht : REL u) (K : ∀ u', iv u' → ri u' → REL u' → uk_G G X mL 12 lw_q 1230 [(0, .ref b), (1, .ref (uk_ad G 0)), (2, .ref (uk_ad G 60)), (3, .int i)] [] u') : uk_G G X mL 12 lw_q 320 [(0, .ref b), (1, .ref (uk_ad G 0)), (2, .ref (uk_ad G 60)), (3, .int i)] [] u := by
  have hts : u.1 2 1 = u.1 60 13 := ht.2.2.2.2.1.1
  have htp : cpy (u.1 3) (u.1 69) (u.1 2 1) := ht.2.2.2.2.1.2.1
  refine g_aload_n dL_law_320 rfl ?_
  refine g_aload_n dL_law_321 rfl ?_
  refine g_iload_n dL_law_322 rfl ?_
  refine g_iconst (v := 1) dL_law_323 (by decide) ?_
  refine g_iadd dL_law_324 ?_
  refine g_sld hX h1 dL_law_325 ?_
  refine g_aload_n dL_law_326 rfl ?_
  refine g_iload_n dL_law_327 rfl ?_
  refine g_iconst (v := 2) dL_law_328 (by decide) ?_
  refine g_iadd dL_law_329 ?_
  refine g_sld hX h2 dL_law_330 ?_
  refine cl_L_40 (c := 0) (As := [.int (xs (i + 1).toNatClampNeg), .int (xs (i + 2).toNatClampNeg)]) rfl (x_X6_fill (G := G) hs hu (xs (i + 1).toNatClampNeg) (xs (i + 2).toNatClampNeg) 9) rfl (by decide) rfl rfl (Nat.le_of_ble_eq_true rfl) dL_law_331 (fun r1 u1 q1 => ?_)
  obtain ⟨q1, E1⟩ := q1
  obtain ⟨⟨x1, rfl, t1⟩, m1⟩ := q1
  obtain ⟨hv1, g1⟩ := m1
  have rj1 : ri u1 := ri_fr hri g1 (by decide)
  have K1 : KR u u1 13 61 0 := KR_u1 ht g1 (by decide)
  refine g_pop dL_law_334 rfl ?_
  refine g_aload_n dL_law_335 rfl ?_
  refine g_aload_n dL_law_336 rfl ?_
  refine g_iload_n dL_law_337 rfl ?_
  refine g_iconst (v := 1) dL_law_338 (by decide) ?_
  refine g_iadd dL_law_339 ?_
  refine g_sld hX h1 dL_law_340 ?_
  refine g_aload_n dL_law_341 rfl ?_
  refine g_iload_n dL_law_342 rfl ?_
  refine g_iconst (v := 2) dL_law_343 (by decide) ?_
  refine g_iadd dL_law_344 ?_
  refine g_sld hX h2 dL_law_345 ?_
  refine cl_L_43 (c := 60) (As := [.int (xs (i + 1).toNatClampNeg), .int (xs (i + 2).toNatClampNeg)]) rfl (x_X7_fill (G := G) hs hv1 rj1 (xs (i + 1).toNatClampNeg) (xs (i + 2).toNatClampNeg) 8) rfl (by decide) rfl rfl (Nat.le_of_ble_eq_true rfl) dL_law_346 (fun r2 u2 q2 => ?_)
  obtain ⟨q2, E2⟩ := q2
  obtain ⟨⟨x2, rfl, t2⟩, m2⟩ := q2
  obtain ⟨hv2, g2, ri2⟩ := m2
  have A := fill_e (m := (xs (i + 1).toNatClampNeg)) (n := (xs (i + 2).toNatClampNeg)) hv1 K1
  have A2 : KR u1 u2 13 61 0 := by
    have z := A.2
    rw [← E1.2, ← E2.2] at z
    exact z
  have ht2 : REL u2 := REL_kit ht hu g1 g2 (by decide) (fun j hj => by rw [E2.2]; exact fill_o (iv_at hv1 60 3 rfl) hj) A2
  refine g_pop dL_law_349 rfl ?_
  refine g_goto (tgt := 1230) dL_law_350 (by decide) ?_
  exact K u2 hv2 ri2 ht2
