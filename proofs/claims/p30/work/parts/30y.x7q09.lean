set_option maxHeartbeats 4000000 in
theorem lw_c15 {G : uk_D} {X : uk_Cx} {b L : Nat} {xs : Nat → Int32} {i : Int32} {u : uk_Mem} (hs : uk_Sep G) (hX : lw_scr G X b L xs) (h1 : vp_in (i + 1) L) (h2 : vp_in (i + 2) L) (h3 : vp_in (i + 3) L) (h4 : vp_in (i + 4) L) (hu : iv u) (hri : ri u) (ht : REL u) (K : ∀ u', iv u' → ri u' → REL u' → uk_G G X mL 12 lw_q 1230 [(0, .ref b), (1, .ref (uk_ad G 0)), (2, .ref (uk_ad G 60)), (3, .int i)] [] u') : uk_G G X mL 12 lw_q 577 [(0, .ref b), (1, .ref (uk_ad G 0)), (2, .ref (uk_ad G 60)), (3, .int i)] [] u := by
  have hts : u.1 2 1 = u.1 60 13 := ht.2.2.2.2.1.1
  have htp : cpy (u.1 3) (u.1 69) (u.1 2 1) := ht.2.2.2.2.1.2.1
  refine g_aload_n dL_law_577 rfl ?_
  refine g_aload_n dL_law_578 rfl ?_
  refine g_iload_n dL_law_579 rfl ?_
  refine g_iconst (v := 1) dL_law_580 (by decide) ?_
  refine g_iadd dL_law_581 ?_
  refine g_sld hX h1 dL_law_582 ?_
  refine cl_L_76 (c := 0) (As := [.int (xs (i + 1).toNatClampNeg)]) rfl (c_X6_cost (G := G) hs hu (xs (i + 1).toNatClampNeg) 7) rfl (by decide) rfl rfl (Nat.le_of_ble_eq_true rfl) dL_law_583 (fun r1 u1 q1 => ?_)
  obtain ⟨⟨x1, rfl, t1⟩, m1⟩ := q1
  obtain ⟨hv1, g1⟩ := m1
  have rj1 : ri u1 := ri_fr hri g1 (by decide)
  have ht1 : REL u1 := REL_fr ht g1 (by decide)
  refine g_pop dL_law_586 rfl ?_
  refine g_aload_n dL_law_587 rfl ?_
  refine g_aload_n dL_law_588 rfl ?_
  refine g_iload_n dL_law_589 rfl ?_
  refine g_iconst (v := 1) dL_law_590 (by decide) ?_
  refine g_iadd dL_law_591 ?_
  refine g_sld hX h1 dL_law_592 ?_
  refine cl_L_79 (c := 60) (As := [.int (xs (i + 1).toNatClampNeg)]) rfl (c_X7_cost (G := G) hs hv1 rj1 (xs (i + 1).toNatClampNeg) 8) rfl (by decide) rfl rfl (Nat.le_of_ble_eq_true rfl) dL_law_593 (fun r2 u2 q2 => ?_)
  obtain ⟨⟨x2, rfl, t2⟩, m2⟩ := q2
  obtain ⟨hv2, g2, ri2⟩ := m2
  have ht2 : REL u2 := REL_fk ht1 g2 (by decide) (by decide)
  refine g_pop dL_law_596 rfl ?_
  refine g_goto (tgt := 1230) dL_law_597 (by decide) ?_
  exact K u2 hv2 ri2 ht2
set_option maxHeartbeats 4000000 in
theorem lw_c16 {G : uk_D} {X : uk_Cx} {b L : Nat} {xs : Nat → Int32} {i : Int32} {u : uk_Mem} (hs : uk_Sep G) (hX : lw_scr G X b L xs) (h1 : vp_in (i + 1) L) (h2 : vp_in (i + 2) L) (h3 : vp_in (i + 3) L) (h4 : vp_in (i + 4) L) (hu : iv u) (hri : ri u) (ht : REL u) (K : ∀ u', iv u' → ri u' → REL u' → uk_G G X mL 12 lw_q 1230 [(0, .ref b), (1, .ref (uk_ad G 0)), (2, .ref (uk_ad G 60)), (3, .int i)] [] u') : uk_G G X mL 12 lw_q 600 [(0, .ref b), (1, .ref (uk_ad G 0)), (2, .ref (uk_ad G 60)), (3, .int i)] [] u := by
  have hts : u.1 2 1 = u.1 60 13 := ht.2.2.2.2.1.1
  have htp : cpy (u.1 3) (u.1 69) (u.1 2 1) := ht.2.2.2.2.1.2.1
  refine g_aload_n dL_law_600 rfl ?_
  refine g_aload_n dL_law_601 rfl ?_
  refine g_iload_n dL_law_602 rfl ?_
  refine g_iconst (v := 1) dL_law_603 (by decide) ?_
  refine g_iadd dL_law_604 ?_
  refine g_sld hX h1 dL_law_605 ?_
  refine g_aload_n dL_law_606 rfl ?_
  refine g_iload_n dL_law_607 rfl ?_
  refine g_iconst (v := 2) dL_law_608 (by decide) ?_
  refine g_iadd dL_law_609 ?_
  refine g_sld hX h2 dL_law_610 ?_
  refine cl_L_80 (c := 0) (As := [.int (xs (i + 1).toNatClampNeg), .int (xs (i + 2).toNatClampNeg)]) rfl (c_X6_turns (G := G) hs hu (xs (i + 1).toNatClampNeg) (xs (i + 2).toNatClampNeg) 7) rfl (by decide) rfl rfl (Nat.le_of_ble_eq_true rfl) dL_law_611 (fun r1 u1 q1 => ?_)
  obtain ⟨⟨x1, rfl, t1⟩, m1⟩ := q1
  obtain ⟨hv1, g1⟩ := m1
  have rj1 : ri u1 := ri_fr hri g1 (by decide)
  have ht1 : REL u1 := REL_fr ht g1 (by decide)
  refine g_pop dL_law_614 rfl ?_
  refine g_aload_n dL_law_615 rfl ?_
  refine g_aload_n dL_law_616 rfl ?_
  refine g_iload_n dL_law_617 rfl ?_
  refine g_iconst (v := 1) dL_law_618 (by decide) ?_
  refine g_iadd dL_law_619 ?_
  refine g_sld hX h1 dL_law_620 ?_
  refine g_aload_n dL_law_621 rfl ?_
  refine g_iload_n dL_law_622 rfl ?_
  refine g_iconst (v := 2) dL_law_623 (by decide) ?_
  refine g_iadd dL_law_624 ?_
  refine g_sld hX h2 dL_law_625 ?_
  refine cl_L_83 (c := 60) (As := [.int (xs (i + 1).toNatClampNeg), .int (xs (i + 2).toNatClampNeg)]) rfl (c_X7_turns (G := G) hs hv1 rj1 (xs (i + 1).toNatClampNeg) (xs (i + 2).toNatClampNeg) 7) rfl (by decide) rfl rfl (Nat.le_of_ble_eq_true rfl) dL_law_626 (fun r2 u2 q2 => ?_)
  obtain ⟨⟨x2, rfl, t2⟩, m2⟩ := q2
  obtain ⟨hv2, g2, ri2⟩ := m2
  have ht2 : REL u2 := REL_fk ht1 g2 (by decide) (by decide)
  refine g_pop dL_law_629 rfl ?_
  refine g_goto (tgt := 1230) dL_law_630 (by decide) ?_
  exact K u2 hv2 ri2 ht2
