set_option maxHeartbeats 4000000 in
theorem lw_c17 {G : uk_D} {X : uk_Cx} {b L : Nat} {xs : Nat → Int32} {i : Int32} {u : uk_Mem} (hs : uk_Sep G) (hX : lw_scr G X b L xs) (h1 : vp_in (i + 1) L) (h2 : vp_in (i + 2) L) (h3 : vp_in (i + 3) L) (h4 : vp_in (i + 4) L) (hu : iv u) (hri : ri u) (ht : REL u) (K : ∀ u', iv u' → ri u' → REL u' → uk_G G X mL 12 lw_q 1230 [(0, .ref b), (1, .ref (uk_ad G 0)), (2, .ref (uk_ad G 60)), (3, .int i)] [] u') : uk_G G X mL 12 lw_q 633 [(0, .ref b), (1, .ref (uk_ad G 0)), (2, .ref (uk_ad G 60)), (3, .int i)] [] u := by
  have hts : u.1 2 1 = u.1 60 13 := ht.2.2.2.2.1.1
  have htp : cpy (u.1 3) (u.1 69) (u.1 2 1) := ht.2.2.2.2.1.2.1
  refine g_aload_n dL_law_633 rfl ?_
  refine g_aload_n dL_law_634 rfl ?_
  refine g_iload_n dL_law_635 rfl ?_
  refine g_iconst (v := 1) dL_law_636 (by decide) ?_
  refine g_iadd dL_law_637 ?_
  refine g_sld hX h1 dL_law_638 ?_
  refine g_aload_n dL_law_639 rfl ?_
  refine g_iload_n dL_law_640 rfl ?_
  refine g_iconst (v := 2) dL_law_641 (by decide) ?_
  refine g_iadd dL_law_642 ?_
  refine g_sld hX h2 dL_law_643 ?_
  refine cl_L_84 (c := 0) (As := [.int (xs (i + 1).toNatClampNeg), .int (xs (i + 2).toNatClampNeg)]) rfl (c_X6_comes (G := G) hs hu (xs (i + 1).toNatClampNeg) (xs (i + 2).toNatClampNeg) 7) rfl (by decide) rfl rfl (Nat.le_of_ble_eq_true rfl) dL_law_644 (fun r1 u1 q1 => ?_)
  obtain ⟨⟨x1, rfl, t1⟩, m1⟩ := q1
  obtain ⟨hv1, g1⟩ := m1
  have rj1 : ri u1 := ri_fr hri g1 (by decide)
  have ht1 : REL u1 := REL_fr ht g1 (by decide)
  refine g_pop dL_law_647 rfl ?_
  refine g_aload_n dL_law_648 rfl ?_
  refine g_aload_n dL_law_649 rfl ?_
  refine g_iload_n dL_law_650 rfl ?_
  refine g_iconst (v := 1) dL_law_651 (by decide) ?_
  refine g_iadd dL_law_652 ?_
  refine g_sld hX h1 dL_law_653 ?_
  refine g_aload_n dL_law_654 rfl ?_
  refine g_iload_n dL_law_655 rfl ?_
  refine g_iconst (v := 2) dL_law_656 (by decide) ?_
  refine g_iadd dL_law_657 ?_
  refine g_sld hX h2 dL_law_658 ?_
  refine cl_L_87 (c := 60) (As := [.int (xs (i + 1).toNatClampNeg), .int (xs (i + 2).toNatClampNeg)]) rfl (c_X7_comes (G := G) hs hv1 rj1 (xs (i + 1).toNatClampNeg) (xs (i + 2).toNatClampNeg) 7) rfl (by decide) rfl rfl (Nat.le_of_ble_eq_true rfl) dL_law_659 (fun r2 u2 q2 => ?_)
  obtain ⟨⟨x2, rfl, t2⟩, m2⟩ := q2
  obtain ⟨hv2, g2, ri2⟩ := m2
  have ht2 : REL u2 := REL_fk ht1 g2 (by decide) (by decide)
  refine g_pop dL_law_662 rfl ?_
  refine g_goto (tgt := 1230) dL_law_663 (by decide) ?_
  exact K u2 hv2 ri2 ht2
set_option maxHeartbeats 4000000 in
theorem lw_c18 {G : uk_D} {X : uk_Cx} {b L : Nat} {xs : Nat → Int32} {i : Int32} {u : uk_Mem} (hs : uk_Sep G) (hX : lw_scr G X b L xs) (h1 : vp_in (i + 1) L) (h2 : vp_in (i + 2) L) (h3 : vp_in (i + 3) L) (h4 : vp_in (i + 4) L) (hu : iv u) (hri : ri u) (ht : REL u) (K : ∀ u', iv u' → ri u' → REL u' → uk_G G X mL 12 lw_q 1230 [(0, .ref b), (1, .ref (uk_ad G 0)), (2, .ref (uk_ad G 60)), (3, .int i)] [] u') : uk_G G X mL 12 lw_q 666 [(0, .ref b), (1, .ref (uk_ad G 0)), (2, .ref (uk_ad G 60)), (3, .int i)] [] u := by
  have hts : u.1 2 1 = u.1 60 13 := ht.2.2.2.2.1.1
  have htp : cpy (u.1 3) (u.1 69) (u.1 2 1) := ht.2.2.2.2.1.2.1
  refine g_aload_n dL_law_666 rfl ?_
  refine g_aload_n dL_law_667 rfl ?_
  refine g_iload_n dL_law_668 rfl ?_
  refine g_iconst (v := 1) dL_law_669 (by decide) ?_
  refine g_iadd dL_law_670 ?_
  refine g_sld hX h1 dL_law_671 ?_
  refine g_aload_n dL_law_672 rfl ?_
  refine g_iload_n dL_law_673 rfl ?_
  refine g_iconst (v := 2) dL_law_674 (by decide) ?_
  refine g_iadd dL_law_675 ?_
  refine g_sld hX h2 dL_law_676 ?_
  refine g_aload_n dL_law_677 rfl ?_
  refine g_iload_n dL_law_678 rfl ?_
  refine g_iconst (v := 3) dL_law_679 (by decide) ?_
  refine g_iadd dL_law_680 ?_
  refine g_sld hX h3 dL_law_681 ?_
  refine cl_L_88 (c := 0) (As := [.int (xs (i + 1).toNatClampNeg), .int (xs (i + 2).toNatClampNeg), .int (xs (i + 3).toNatClampNeg)]) rfl (c_X6_after (G := G) hs hu (xs (i + 1).toNatClampNeg) (xs (i + 2).toNatClampNeg) (xs (i + 3).toNatClampNeg) 7) rfl (by decide) rfl rfl (Nat.le_of_ble_eq_true rfl) dL_law_682 (fun r1 u1 q1 => ?_)
  obtain ⟨⟨x1, rfl, t1⟩, m1⟩ := q1
  obtain ⟨hv1, g1⟩ := m1
  have rj1 : ri u1 := ri_fr hri g1 (by decide)
  have ht1 : REL u1 := REL_fr ht g1 (by decide)
  refine g_pop dL_law_685 rfl ?_
  refine g_aload_n dL_law_686 rfl ?_
  refine g_aload_n dL_law_687 rfl ?_
  refine g_iload_n dL_law_688 rfl ?_
  refine g_iconst (v := 1) dL_law_689 (by decide) ?_
  refine g_iadd dL_law_690 ?_
  refine g_sld hX h1 dL_law_691 ?_
  refine g_aload_n dL_law_692 rfl ?_
  refine g_iload_n dL_law_693 rfl ?_
  refine g_iconst (v := 2) dL_law_694 (by decide) ?_
  refine g_iadd dL_law_695 ?_
  refine g_sld hX h2 dL_law_696 ?_
  refine g_aload_n dL_law_697 rfl ?_
  refine g_iload_n dL_law_698 rfl ?_
  refine g_iconst (v := 3) dL_law_699 (by decide) ?_
  refine g_iadd dL_law_700 ?_
  refine g_sld hX h3 dL_law_701 ?_
  refine cl_L_92 (c := 60) (As := [.int (xs (i + 1).toNatClampNeg), .int (xs (i + 2).toNatClampNeg), .int (xs (i + 3).toNatClampNeg)]) rfl (c_X7_after (G := G) hs hv1 rj1 (xs (i + 1).toNatClampNeg) (xs (i + 2).toNatClampNeg) (xs (i + 3).toNatClampNeg) 7) rfl (by decide) rfl rfl (Nat.le_of_ble_eq_true rfl) dL_law_702 (fun r2 u2 q2 => ?_)
  obtain ⟨⟨x2, rfl, t2⟩, m2⟩ := q2
  obtain ⟨hv2, g2, ri2⟩ := m2
  have ht2 : REL u2 := REL_fk ht1 g2 (by decide) (by decide)
  refine g_pop dL_law_705 rfl ?_
  refine g_goto (tgt := 1230) dL_law_706 (by decide) ?_
  exact K u2 hv2 ri2 ht2
