set_option maxHeartbeats 4000000 in
theorem lw_c21 {G : uk_D} {X : uk_Cx} {b L : Nat} {xs : Nat → Int32} {i : Int32} {u : uk_Mem} (hs : uk_Sep G) (hX : lw_scr G X b L xs) (h1 : vp_in (i + 1) L) (h2 : vp_in (i + 2) L) (h3 : vp_in (i + 3) L) (h4 : vp_in (i + 4) L) (hu : iv u) (hri : ri u) (ht : REL u) (K : ∀ u', iv u' → ri u' → REL u' → uk_G G X mL 12 lw_q 1230 [(0, .ref b), (1, .ref (uk_ad G 0)), (2, .ref (uk_ad G 60)), (3, .int i)] [] u') : uk_G G X mL 12 lw_q 765 [(0, .ref b), (1, .ref (uk_ad G 0)), (2, .ref (uk_ad G 60)), (3, .int i)] [] u := by
  have hts : u.1 2 1 = u.1 60 13 := ht.2.2.2.2.1.1
  have htp : cpy (u.1 3) (u.1 69) (u.1 2 1) := ht.2.2.2.2.1.2.1
  refine g_aload_n dL_law_765 rfl ?_
  refine g_aload_n dL_law_766 rfl ?_
  refine g_iload_n dL_law_767 rfl ?_
  refine g_iconst (v := 1) dL_law_768 (by decide) ?_
  refine g_iadd dL_law_769 ?_
  refine g_sld hX h1 dL_law_770 ?_
  refine g_aload_n dL_law_771 rfl ?_
  refine g_iload_n dL_law_772 rfl ?_
  refine g_iconst (v := 2) dL_law_773 (by decide) ?_
  refine g_iadd dL_law_774 ?_
  refine g_sld hX h2 dL_law_775 ?_
  refine g_aload_n dL_law_776 rfl ?_
  refine g_iload_n dL_law_777 rfl ?_
  refine g_iconst (v := 3) dL_law_778 (by decide) ?_
  refine g_iadd dL_law_779 ?_
  refine g_sld hX h3 dL_law_780 ?_
  refine g_aload_n dL_law_781 rfl ?_
  refine g_iload_n dL_law_782 rfl ?_
  refine g_iconst (v := 4) dL_law_783 (by decide) ?_
  refine g_iadd dL_law_784 ?_
  refine g_sld hX h4 dL_law_785 ?_
  refine cl_L_101 (c := 0) (As := [.int (xs (i + 1).toNatClampNeg), .int (xs (i + 2).toNatClampNeg), .int (xs (i + 3).toNatClampNeg), .int (xs (i + 4).toNatClampNeg)]) rfl (c_X6_mean (G := G) hs hu (xs (i + 1).toNatClampNeg) (xs (i + 2).toNatClampNeg) (xs (i + 3).toNatClampNeg) (xs (i + 4).toNatClampNeg) 8) rfl (by decide) rfl rfl (Nat.le_of_ble_eq_true rfl) dL_law_786 (fun r1 u1 q1 => ?_)
  obtain ⟨⟨x1, rfl, t1⟩, m1⟩ := q1
  obtain ⟨hv1, g1⟩ := m1
  have rj1 : ri u1 := ri_fr hri g1 (by decide)
  have ht1 : REL u1 := REL_fr ht g1 (by decide)
  refine g_pop2 dL_law_789 rfl ?_
  refine g_aload_n dL_law_790 rfl ?_
  refine g_aload_n dL_law_791 rfl ?_
  refine g_iload_n dL_law_792 rfl ?_
  refine g_iconst (v := 1) dL_law_793 (by decide) ?_
  refine g_iadd dL_law_794 ?_
  refine g_sld hX h1 dL_law_795 ?_
  refine g_aload_n dL_law_796 rfl ?_
  refine g_iload_n dL_law_797 rfl ?_
  refine g_iconst (v := 2) dL_law_798 (by decide) ?_
  refine g_iadd dL_law_799 ?_
  refine g_sld hX h2 dL_law_800 ?_
  refine g_aload_n dL_law_801 rfl ?_
  refine g_iload_n dL_law_802 rfl ?_
  refine g_iconst (v := 3) dL_law_803 (by decide) ?_
  refine g_iadd dL_law_804 ?_
  refine g_sld hX h3 dL_law_805 ?_
  refine g_aload_n dL_law_806 rfl ?_
  refine g_iload_n dL_law_807 rfl ?_
  refine g_iconst (v := 4) dL_law_808 (by decide) ?_
  refine g_iadd dL_law_809 ?_
  refine g_sld hX h4 dL_law_810 ?_
  refine cl_L_105 (c := 60) (As := [.int (xs (i + 1).toNatClampNeg), .int (xs (i + 2).toNatClampNeg), .int (xs (i + 3).toNatClampNeg), .int (xs (i + 4).toNatClampNeg)]) rfl (c_X7_mean (G := G) hs hv1 rj1 (xs (i + 1).toNatClampNeg) (xs (i + 2).toNatClampNeg) (xs (i + 3).toNatClampNeg) (xs (i + 4).toNatClampNeg) 8) rfl (by decide) rfl rfl (Nat.le_of_ble_eq_true rfl) dL_law_811 (fun r2 u2 q2 => ?_)
  obtain ⟨⟨x2, rfl, t2⟩, m2⟩ := q2
  obtain ⟨hv2, g2, ri2⟩ := m2
  have ht2 : REL u2 := REL_fk ht1 g2 (by decide) (by decide)
  refine g_pop2 dL_law_814 rfl ?_
  refine g_goto (tgt := 1230) dL_law_815 (by decide) ?_
  exact K u2 hv2 ri2 ht2
set_option maxHeartbeats 4000000 in
theorem lw_c22 {G : uk_D} {X : uk_Cx} {b L : Nat} {xs : Nat → Int32} {i : Int32} {u : uk_Mem} (hs : uk_Sep G) (hX : lw_scr G X b L xs) (h1 : vp_in (i + 1) L) (h2 : vp_in (i + 2) L) (h3 : vp_in (i + 3) L) (h4 : vp_in (i + 4) L) (hu : iv u) (hri : ri u) (ht : REL u) (K : ∀ u', iv u' → ri u' → REL u' → uk_G G X mL 12 lw_q 1230 [(0, .ref b), (1, .ref (uk_ad G 0)), (2, .ref (uk_ad G 60)), (3, .int i)] [] u') : uk_G G X mL 12 lw_q 818 [(0, .ref b), (1, .ref (uk_ad G 0)), (2, .ref (uk_ad G 60)), (3, .int i)] [] u := by
  have hts : u.1 2 1 = u.1 60 13 := ht.2.2.2.2.1.1
  have htp : cpy (u.1 3) (u.1 69) (u.1 2 1) := ht.2.2.2.2.1.2.1
  refine g_aload_n dL_law_818 rfl ?_
  refine g_aload_n dL_law_819 rfl ?_
  refine g_iload_n dL_law_820 rfl ?_
  refine g_iconst (v := 1) dL_law_821 (by decide) ?_
  refine g_iadd dL_law_822 ?_
  refine g_sld hX h1 dL_law_823 ?_
  refine g_aload_n dL_law_824 rfl ?_
  refine g_iload_n dL_law_825 rfl ?_
  refine g_iconst (v := 2) dL_law_826 (by decide) ?_
  refine g_iadd dL_law_827 ?_
  refine g_sld hX h2 dL_law_828 ?_
  refine cl_L_106 (c := 0) (As := [.int (xs (i + 1).toNatClampNeg), .int (xs (i + 2).toNatClampNeg)]) rfl (x_X6_best (G := G) hs hu (xs (i + 1).toNatClampNeg) (xs (i + 2).toNatClampNeg) 1) rfl (by decide) rfl rfl (Nat.le_of_ble_eq_true rfl) dL_law_829 (fun r1 u1 q1 => ?_)
  obtain ⟨q1, E1⟩ := q1
  obtain ⟨⟨x1, rfl, t1⟩, m1⟩ := q1
  obtain ⟨hv1, g1⟩ := m1
  have rj1 : ri u1 := ri_fr hri g1 (by decide)
  have ht1 : REL u1 := REL_kp ht g1 (by rw [E1.2]; exact KP_X6_best)
  refine g_pop dL_law_832 rfl ?_
  refine g_aload_n dL_law_833 rfl ?_
  refine g_aload_n dL_law_834 rfl ?_
  refine g_iload_n dL_law_835 rfl ?_
  refine g_iconst (v := 1) dL_law_836 (by decide) ?_
  refine g_iadd dL_law_837 ?_
  refine g_sld hX h1 dL_law_838 ?_
  refine g_aload_n dL_law_839 rfl ?_
  refine g_iload_n dL_law_840 rfl ?_
  refine g_iconst (v := 2) dL_law_841 (by decide) ?_
  refine g_iadd dL_law_842 ?_
  refine g_sld hX h2 dL_law_843 ?_
  refine cl_L_109 (c := 60) (As := [.int (xs (i + 1).toNatClampNeg), .int (xs (i + 2).toNatClampNeg)]) rfl (c_X7_best (G := G) hs hv1 rj1 (xs (i + 1).toNatClampNeg) (xs (i + 2).toNatClampNeg) 6) rfl (by decide) rfl rfl (Nat.le_of_ble_eq_true rfl) dL_law_844 (fun r2 u2 q2 => ?_)
  obtain ⟨⟨x2, rfl, t2⟩, m2⟩ := q2
  obtain ⟨hv2, g2, ri2⟩ := m2
  have ht2 : REL u2 := REL_fk ht1 g2 (by decide) (by decide)
  refine g_pop dL_law_847 rfl ?_
  refine g_goto (tgt := 1230) dL_law_848 (by decide) ?_
  exact K u2 hv2 ri2 ht2
