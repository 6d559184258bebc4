set_option maxHeartbeats 4000000 in
theorem lw_c23 {G : uk_D} {X : uk_Cx} {b L : Nat} {xs : Nat → Int32} {i : Int32} {u : uk_Mem} (hs : uk_Sep G) (hX : lw_scr G X b L xs) (h1 : vp_in (i + 1) L) (h2 : vp_in (i + 2) L) (h3 : vp_in (i + 3) L) (h4 : vp_in (i + 4) L) (hu : iv u) (hri : ri u) (ht : REL u) (K : ∀ u', iv u' → ri u' → REL u' → uk_G G X mL 12 lw_q 1230 [(0, .ref b), (1, .ref (uk_ad G 0)), (2, .ref (uk_ad G 60)), (3, .int i)] [] u') : uk_G G X mL 12 lw_q 851 [(0, .ref b), (1, .ref (uk_ad G 0)), (2, .ref (uk_ad G 60)), (3, .int i)] [] u := by
  have hts : u.1 2 1 = u.1 60 13 := ht.2.2.2.2.1.1
  have htp : cpy (u.1 3) (u.1 69) (u.1 2 1) := ht.2.2.2.2.1.2.1
  refine g_aload_n dL_law_851 rfl ?_
  refine g_aload_n dL_law_852 rfl ?_
  refine g_iload_n dL_law_853 rfl ?_
  refine g_iconst (v := 1) dL_law_854 (by decide) ?_
  refine g_iadd dL_law_855 ?_
  refine g_sld hX h1 dL_law_856 ?_
  refine g_aload_n dL_law_857 rfl ?_
  refine g_iload_n dL_law_858 rfl ?_
  refine g_iconst (v := 2) dL_law_859 (by decide) ?_
  refine g_iadd dL_law_860 ?_
  refine g_sld hX h2 dL_law_861 ?_
  refine cl_L_110 (c := 0) (As := [.int (xs (i + 1).toNatClampNeg), .int (xs (i + 2).toNatClampNeg)]) rfl (x_X6_least (G := G) hs hu (xs (i + 1).toNatClampNeg) (xs (i + 2).toNatClampNeg) 1) rfl (by decide) rfl rfl (Nat.le_of_ble_eq_true rfl) dL_law_862 (fun r1 u1 q1 => ?_)
  obtain ⟨q1, E1⟩ := q1
  obtain ⟨⟨x1, rfl, t1⟩, m1⟩ := q1
  obtain ⟨hv1, g1⟩ := m1
  have rj1 : ri u1 := ri_fr hri g1 (by decide)
  have ht1 : REL u1 := REL_kp ht g1 (by rw [E1.2]; exact KP_X6_least)
  refine g_pop dL_law_865 rfl ?_
  refine g_aload_n dL_law_866 rfl ?_
  refine g_aload_n dL_law_867 rfl ?_
  refine g_iload_n dL_law_868 rfl ?_
  refine g_iconst (v := 1) dL_law_869 (by decide) ?_
  refine g_iadd dL_law_870 ?_
  refine g_sld hX h1 dL_law_871 ?_
  refine g_aload_n dL_law_872 rfl ?_
  refine g_iload_n dL_law_873 rfl ?_
  refine g_iconst (v := 2) dL_law_874 (by decide) ?_
  refine g_iadd dL_law_875 ?_
  refine g_sld hX h2 dL_law_876 ?_
  refine cl_L_113 (c := 60) (As := [.int (xs (i + 1).toNatClampNeg), .int (xs (i + 2).toNatClampNeg)]) rfl (c_X7_least (G := G) hs hv1 rj1 (xs (i + 1).toNatClampNeg) (xs (i + 2).toNatClampNeg) 6) rfl (by decide) rfl rfl (Nat.le_of_ble_eq_true rfl) dL_law_877 (fun r2 u2 q2 => ?_)
  obtain ⟨⟨x2, rfl, t2⟩, m2⟩ := q2
  obtain ⟨hv2, g2, ri2⟩ := m2
  have ht2 : REL u2 := REL_fk ht1 g2 (by decide) (by decide)
  refine g_pop dL_law_880 rfl ?_
  refine g_goto (tgt := 1230) dL_law_881 (by decide) ?_
  exact K u2 hv2 ri2 ht2
set_option maxHeartbeats 4000000 in
theorem lw_c24 {G : uk_D} {X : uk_Cx} {b L : Nat} {xs : Nat → Int32} {i : Int32} {u : uk_Mem} (hs : uk_Sep G) (hX : lw_scr G X b L xs) (h1 : vp_in (i + 1) L) (h2 : vp_in (i + 2) L) (h3 : vp_in (i + 3) L) (h4 : vp_in (i + 4) L) (hu : iv u) (hri : ri u) (ht : REL u) (K : ∀ u', iv u' → ri u' → REL u' → uk_G G X mL 12 lw_q 1230 [(0, .ref b), (1, .ref (uk_ad G 0)), (2, .ref (uk_ad G 60)), (3, .int i)] [] u') : uk_G G X mL 12 lw_q 884 [(0, .ref b), (1, .ref (uk_ad G 0)), (2, .ref (uk_ad G 60)), (3, .int i)] [] u := by
  have hts : u.1 2 1 = u.1 60 13 := ht.2.2.2.2.1.1
  have htp : cpy (u.1 3) (u.1 69) (u.1 2 1) := ht.2.2.2.2.1.2.1
  refine g_aload_n dL_law_884 rfl ?_
  refine g_aload_n dL_law_885 rfl ?_
  refine g_iload_n dL_law_886 rfl ?_
  refine g_iconst (v := 1) dL_law_887 (by decide) ?_
  refine g_iadd dL_law_888 ?_
  refine g_sld hX h1 dL_law_889 ?_
  refine cl_L_114 (c := 0) (As := [.int (xs (i + 1).toNatClampNeg)]) rfl (x_X6_see (G := G) hs hu (xs (i + 1).toNatClampNeg) 9) rfl (by decide) rfl rfl (Nat.le_of_ble_eq_true rfl) dL_law_890 (fun r1 u1 q1 => ?_)
  obtain ⟨q1, E1⟩ := q1
  obtain ⟨⟨x1, rfl, t1⟩, m1⟩ := q1
  obtain ⟨hv1, g1⟩ := m1
  have rj1 : ri u1 := ri_fr hri g1 (by decide)
  have K1 : KR u u1 13 61 0 := KR_u1 ht g1 (by decide)
  refine g_pop dL_law_893 rfl ?_
  refine g_aload_n dL_law_894 rfl ?_
  refine g_aload_n dL_law_895 rfl ?_
  refine g_iload_n dL_law_896 rfl ?_
  refine g_iconst (v := 1) dL_law_897 (by decide) ?_
  refine g_iadd dL_law_898 ?_
  refine g_sld hX h1 dL_law_899 ?_
  refine cl_L_117 (c := 60) (As := [.int (xs (i + 1).toNatClampNeg)]) rfl (x_X7_see (G := G) hs hv1 rj1 (xs (i + 1).toNatClampNeg) 8) rfl (by decide) rfl rfl (Nat.le_of_ble_eq_true rfl) dL_law_900 (fun r2 u2 q2 => ?_)
  obtain ⟨q2, E2⟩ := q2
  obtain ⟨⟨x2, rfl, t2⟩, m2⟩ := q2
  obtain ⟨hv2, g2, ri2⟩ := m2
  have A := see_e (x := (xs (i + 1).toNatClampNeg)) hv1 K1
  have A2 : KR u1 u2 13 61 0 := by
    have z := A.2
    rw [← E1.2, ← E2.2] at z
    exact z
  have ht2 : REL u2 := REL_kit ht hu g1 g2 (by decide) (fun j hj => by rw [E2.2]; exact see_o hv1 hj) A2
  refine g_pop dL_law_903 rfl ?_
  refine g_goto (tgt := 1230) dL_law_904 (by decide) ?_
  exact K u2 hv2 ri2 ht2
