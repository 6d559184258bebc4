set_option maxHeartbeats 4000000 in
theorem lw_c13 {G : uk_D} {X : uk_Cx} {b L : Nat} {xs : Nat → Int32} {i : Int32} {u : uk_Mem} (hs : uk_Sep G) (hX : lw_scr G X b L xs) (h1 : vp_in (i + 1) L) (h2 : vp_in (i + 2) L) (h3 : vp_in (i + 3) L) (h4 : vp_in (i + 4) L) (hu : iv u) (hri : ri u) (ht : REL u) (K : ∀ u', iv u' → ri u' → REL u' → uk_G G X mL 12 lw_q 1230 [(0, .ref b), (1, .ref (uk_ad G 0)), (2, .ref (uk_ad G 60)), (3, .int i)] [] u') : uk_G G X mL 12 lw_q 521 [(0, .ref b), (1, .ref (uk_ad G 0)), (2, .ref (uk_ad G 60)), (3, .int i)] [] u := by
  have hts : u.1 2 1 = u.1 60 13 := ht.2.2.2.2.1.1
  have htp : cpy (u.1 3) (u.1 69) (u.1 2 1) := ht.2.2.2.2.1.2.1
  refine g_aload_n dL_law_521 rfl ?_
  refine g_aload_n dL_law_522 rfl ?_
  refine g_iload_n dL_law_523 rfl ?_
  refine g_iconst (v := 1) dL_law_524 (by decide) ?_
  refine g_iadd dL_law_525 ?_
  refine g_sld hX h1 dL_law_526 ?_
  refine cl_L_68 (c := 0) (As := [.int (xs (i + 1).toNatClampNeg)]) rfl (c_X6_most (G := G) hs hu (xs (i + 1).toNatClampNeg) 8) rfl (by decide) rfl rfl (Nat.le_of_ble_eq_true rfl) dL_law_527 (fun r1 u1 q1 => ?_)
  obtain ⟨⟨x1, rfl, t1⟩, m1⟩ := q1
  obtain ⟨hv1, g1⟩ := m1
  have rj1 : ri u1 := ri_fr hri g1 (by decide)
  have ht1 : REL u1 := REL_fr ht g1 (by decide)
  refine g_pop dL_law_530 rfl ?_
  refine g_aload_n dL_law_531 rfl ?_
  refine g_aload_n dL_law_532 rfl ?_
  refine g_iload_n dL_law_533 rfl ?_
  refine g_iconst (v := 1) dL_law_534 (by decide) ?_
  refine g_iadd dL_law_535 ?_
  refine g_sld hX h1 dL_law_536 ?_
  refine cl_L_71 (c := 60) (As := [.int (xs (i + 1).toNatClampNeg)]) rfl (c_X7_most (G := G) hs hv1 rj1 (xs (i + 1).toNatClampNeg) 8) rfl (by decide) rfl rfl (Nat.le_of_ble_eq_true rfl) dL_law_537 (fun r2 u2 q2 => ?_)
  obtain ⟨⟨x2, rfl, t2⟩, m2⟩ := q2
  obtain ⟨hv2, g2, ri2⟩ := m2
  have ht2 : REL u2 := REL_fk ht1 g2 (by decide) (by decide)
  refine g_pop dL_law_540 rfl ?_
  refine g_goto (tgt := 1230) dL_law_541 (by decide) ?_
  exact K u2 hv2 ri2 ht2
set_option maxHeartbeats 4000000 in
theorem lw_c14 {G : uk_D} {X : uk_Cx} {b L : Nat} {xs : Nat → Int32} {i : Int32} {u : uk_Mem} (hs : uk_Sep G) (hX : lw_scr G X b L xs) (h1 : vp_in (i + 1) L) (h2 : vp_in (i + 2) L) (h3 : vp_in (i + 3) L) (h4 : vp_in (i + 4) L) (hu : iv u) (hri : ri u) (ht : REL u) (K : ∀ u', iv u' → ri u' → REL u' → uk_G G X mL 12 lw_q 1230 [(0, .ref b), (1, .ref (uk_ad G 0)), (2, .ref (uk_ad G 60)), (3, .int i)] [] u') : uk_G G X mL 12 lw_q 544 [(0, .ref b), (1, .ref (uk_ad G 0)), (2, .ref (uk_ad G 60)), (3, .int i)] [] u := by
  have hts : u.1 2 1 = u.1 60 13 := ht.2.2.2.2.1.1
  have htp : cpy (u.1 3) (u.1 69) (u.1 2 1) := ht.2.2.2.2.1.2.1
  refine g_aload_n dL_law_544 rfl ?_
  refine g_aload_n dL_law_545 rfl ?_
  refine g_iload_n dL_law_546 rfl ?_
  refine g_iconst (v := 1) dL_law_547 (by decide) ?_
  refine g_iadd dL_law_548 ?_
  refine g_sld hX h1 dL_law_549 ?_
  refine g_aload_n dL_law_550 rfl ?_
  refine g_iload_n dL_law_551 rfl ?_
  refine g_iconst (v := 2) dL_law_552 (by decide) ?_
  refine g_iadd dL_law_553 ?_
  refine g_sld hX h2 dL_law_554 ?_
  refine cl_L_72 (c := 0) (As := [.int (xs (i + 1).toNatClampNeg), .int (xs (i + 2).toNatClampNeg)]) rfl (c_X6_holds (G := G) hs hu (xs (i + 1).toNatClampNeg) (xs (i + 2).toNatClampNeg) 8) rfl (by decide) rfl rfl (Nat.le_of_ble_eq_true rfl) dL_law_555 (fun r1 u1 q1 => ?_)
  obtain ⟨⟨x1, rfl, t1⟩, m1⟩ := q1
  obtain ⟨hv1, g1⟩ := m1
  have rj1 : ri u1 := ri_fr hri g1 (by decide)
  have ht1 : REL u1 := REL_fr ht g1 (by decide)
  refine g_pop dL_law_558 rfl ?_
  refine g_aload_n dL_law_559 rfl ?_
  refine g_aload_n dL_law_560 rfl ?_
  refine g_iload_n dL_law_561 rfl ?_
  refine g_iconst (v := 1) dL_law_562 (by decide) ?_
  refine g_iadd dL_law_563 ?_
  refine g_sld hX h1 dL_law_564 ?_
  refine g_aload_n dL_law_565 rfl ?_
  refine g_iload_n dL_law_566 rfl ?_
  refine g_iconst (v := 2) dL_law_567 (by decide) ?_
  refine g_iadd dL_law_568 ?_
  refine g_sld hX h2 dL_law_569 ?_
  refine cl_L_75 (c := 60) (As := [.int (xs (i + 1).toNatClampNeg), .int (xs (i + 2).toNatClampNeg)]) rfl (c_X7_holds (G := G) hs hv1 rj1 (xs (i + 1).toNatClampNeg) (xs (i + 2).toNatClampNeg) 8) rfl (by decide) rfl rfl (Nat.le_of_ble_eq_true rfl) dL_law_570 (fun r2 u2 q2 => ?_)
  obtain ⟨⟨x2, rfl, t2⟩, m2⟩ := q2
  obtain ⟨hv2, g2, ri2⟩ := m2
  have ht2 : REL u2 := REL_fk ht1 g2 (by decide) (by decide)
  refine g_pop dL_law_573 rfl ?_
  refine g_goto (tgt := 1230) dL_law_574 (by decide) ?_
  exact K u2 hv2 ri2 ht2
