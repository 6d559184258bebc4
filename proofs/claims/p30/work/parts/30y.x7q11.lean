set_option maxHeartbeats 4000000 in
theorem lw_c19 {G : uk_D} {X : uk_Cx} {b L : Nat} {xs : Nat → Int32} {i : Int32} {u : uk_Mem} (hs : uk_Sep G) (hX : lw_scr G X b L xs) (h1 : vp_in (i + 1) L) (h2 : vp_in (i + 2) L) (h3 : vp_in (i + 3) L) (h4 : vp_in (i + 4) L) (hu : iv u) (hri : ri u) (ht : REL u) (K : ∀ u', iv u' → ri u' → REL u' → uk_G G X mL 12 lw_q 1230 [(0, .ref b), (1, .ref (uk_ad G 0)), (2, .ref (uk_ad G 60)), (3, .int i)] [] u') : uk_G G X mL 12 lw_q 709 [(0, .ref b), (1, .ref (uk_ad G 0)), (2, .ref (uk_ad G 60)), (3, .int i)] [] u := by
  have hts : u.1 2 1 = u.1 60 13 := ht.2.2.2.2.1.1
  have htp : cpy (u.1 3) (u.1 69) (u.1 2 1) := ht.2.2.2.2.1.2.1
  refine g_aload_n dL_law_709 rfl ?_
  refine g_aload_n dL_law_710 rfl ?_
  refine g_iload_n dL_law_711 rfl ?_
  refine g_iconst (v := 1) dL_law_712 (by decide) ?_
  refine g_iadd dL_law_713 ?_
  refine g_sld hX h1 dL_law_714 ?_
  refine g_aload_n dL_law_715 rfl ?_
  refine g_iload_n dL_law_716 rfl ?_
  refine g_iconst (v := 2) dL_law_717 (by decide) ?_
  refine g_iadd dL_law_718 ?_
  refine g_sld hX h2 dL_law_719 ?_
  refine cl_L_93 (c := 0) (As := [.int (xs (i + 1).toNatClampNeg), .int (xs (i + 2).toNatClampNeg)]) rfl (c_X6_first (G := G) hs hu (xs (i + 1).toNatClampNeg) (xs (i + 2).toNatClampNeg) 7) rfl (by decide) rfl rfl (Nat.le_of_ble_eq_true rfl) dL_law_720 (fun r1 u1 q1 => ?_)
  obtain ⟨⟨x1, rfl, t1⟩, m1⟩ := q1
  obtain ⟨hv1, g1⟩ := m1
  have rj1 : ri u1 := ri_fr hri g1 (by decide)
  have ht1 : REL u1 := REL_fr ht g1 (by decide)
  refine g_pop dL_law_723 rfl ?_
  refine g_aload_n dL_law_724 rfl ?_
  refine g_aload_n dL_law_725 rfl ?_
  refine g_iload_n dL_law_726 rfl ?_
  refine g_iconst (v := 1) dL_law_727 (by decide) ?_
  refine g_iadd dL_law_728 ?_
  refine g_sld hX h1 dL_law_729 ?_
  refine g_aload_n dL_law_730 rfl ?_
  refine g_iload_n dL_law_731 rfl ?_
  refine g_iconst (v := 2) dL_law_732 (by decide) ?_
  refine g_iadd dL_law_733 ?_
  refine g_sld hX h2 dL_law_734 ?_
  refine cl_L_96 (c := 60) (As := [.int (xs (i + 1).toNatClampNeg), .int (xs (i + 2).toNatClampNeg)]) rfl (c_X7_first (G := G) hs hv1 rj1 (xs (i + 1).toNatClampNeg) (xs (i + 2).toNatClampNeg) 8) rfl (by decide) rfl rfl (Nat.le_of_ble_eq_true rfl) dL_law_735 (fun r2 u2 q2 => ?_)
  obtain ⟨⟨x2, rfl, t2⟩, m2⟩ := q2
  obtain ⟨hv2, g2, ri2⟩ := m2
  have ht2 : REL u2 := REL_fk ht1 g2 (by decide) (by decide)
  refine g_pop dL_law_738 rfl ?_
  refine g_goto (tgt := 1230) dL_law_739 (by decide) ?_
  exact K u2 hv2 ri2 ht2
set_option maxHeartbeats 4000000 in
theorem lw_c20 {G : uk_D} {X : uk_Cx} {b L : Nat} {xs : Nat → Int32} {i : Int32} {u : uk_Mem} (hs : uk_Sep G) (hX : lw_scr G X b L xs) (h1 : vp_in (i + 1) L) (h2 : vp_in (i + 2) L) (h3 : vp_in (i + 3) L) (h4 : vp_in (i + 4) L) (hu : iv u) (hri : ri u) (ht : REL u) (K : ∀ u', iv u' → ri u' → REL u' → uk_G G X mL 12 lw_q 1230 [(0, .ref b), (1, .ref (uk_ad G 0)), (2, .ref (uk_ad G 60)), (3, .int i)] [] u') : uk_G G X mL 12 lw_q 742 [(0, .ref b), (1, .ref (uk_ad G 0)), (2, .ref (uk_ad G 60)), (3, .int i)] [] u := by
  have hts : u.1 2 1 = u.1 60 13 := ht.2.2.2.2.1.1
  have htp : cpy (u.1 3) (u.1 69) (u.1 2 1) := ht.2.2.2.2.1.2.1
  refine g_aload_n dL_law_742 rfl ?_
  refine g_aload_n dL_law_743 rfl ?_
  refine g_iload_n dL_law_744 rfl ?_
  refine g_iconst (v := 1) dL_law_745 (by decide) ?_
  refine g_iadd dL_law_746 ?_
  refine g_sld hX h1 dL_law_747 ?_
  refine cl_L_97 (c := 0) (As := [.int (xs (i + 1).toNatClampNeg)]) rfl (c_X6_loss_k (G := G) hs hu (xs (i + 1).toNatClampNeg) 7) rfl (by decide) rfl rfl (Nat.le_of_ble_eq_true rfl) dL_law_748 (fun r1 u1 q1 => ?_)
  obtain ⟨⟨x1, rfl, t1⟩, m1⟩ := q1
  obtain ⟨hv1, g1, k1_0, k1_1, k1_2, k1_3, k1_4, k1_5⟩ := m1
  have rj1 : ri u1 := ri_fr hri g1 (by decide)
  have ht1 : REL u1 := REL_lo ht g1 (by decide) k1_0 k1_1 k1_2 k1_3 k1_4 k1_5
  refine g_pop dL_law_751 rfl ?_
  refine g_aload_n dL_law_752 rfl ?_
  refine g_aload_n dL_law_753 rfl ?_
  refine g_iload_n dL_law_754 rfl ?_
  refine g_iconst (v := 1) dL_law_755 (by decide) ?_
  refine g_iadd dL_law_756 ?_
  refine g_sld hX h1 dL_law_757 ?_
  refine cl_L_100 (c := 60) (As := [.int (xs (i + 1).toNatClampNeg)]) rfl (c_X7_loss (G := G) hs hv1 rj1 (xs (i + 1).toNatClampNeg) 7) rfl (by decide) rfl rfl (Nat.le_of_ble_eq_true rfl) dL_law_758 (fun r2 u2 q2 => ?_)
  obtain ⟨⟨x2, rfl, t2⟩, m2⟩ := q2
  obtain ⟨hv2, g2, ri2⟩ := m2
  have ht2 : REL u2 := REL_fk ht1 g2 (by decide) (by decide)
  refine g_pop dL_law_761 rfl ?_
  refine g_goto (tgt := 1230) dL_law_762 (by decide) ?_
  exact K u2 hv2 ri2 ht2
