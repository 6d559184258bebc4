set_option maxHeartbeats 4000000 in
theorem lw_c28 {G : uk_D} {X : uk_Cx} {b L : Nat} {xs : Nat → Int32} {i : Int32} {u : uk_Mem} (hs : uk_Sep G) (hX : lw_scr G X b L xs) (h1 : vp_in (i + 1) L) (h2 : vp_in (i + 2) L) (h3 : vp_in (i + 3) L) (h4 : vp_in (i + 4) L) (hu : iv u) (hri : ri u) (ht : REL u) (K : ∀ u', iv u' → ri u' → REL u' → uk_G G X mL 12 lw_q 1230 [(0, .ref b), (1, .ref (uk_ad G 0)), (2, .ref (uk_ad G 60)), (3, .int i)] [] u') : uk_G G X mL 12 lw_q 966 [(0, .ref b), (1, .ref (uk_ad G 0)), (2, .ref (uk_ad G 60)), (3, .int i)] [] u := by
  have hts : u.1 2 1 = u.1 60 13 := ht.2.2.2.2.1.1
  have htp : cpy (u.1 3) (u.1 69) (u.1 2 1) := ht.2.2.2.2.1.2.1
  refine g_aload_n dL_law_966 rfl ?_
  refine g_aload_n dL_law_967 rfl ?_
  refine g_iload_n dL_law_968 rfl ?_
  refine g_iconst (v := 1) dL_law_969 (by decide) ?_
  refine g_iadd dL_law_970 ?_
  refine g_sld hX h1 dL_law_971 ?_
  refine g_aload_n dL_law_972 rfl ?_
  refine g_iload_n dL_law_973 rfl ?_
  refine g_iconst (v := 2) dL_law_974 (by decide) ?_
  refine g_iadd dL_law_975 ?_
  refine g_sld hX h2 dL_law_976 ?_
  refine g_aload_n dL_law_977 rfl ?_
  refine g_iload_n dL_law_978 rfl ?_
  refine g_iconst (v := 3) dL_law_979 (by decide) ?_
  refine g_iadd dL_law_980 ?_
  refine g_sld hX h3 dL_law_981 ?_
  refine cl_L_130 (c := 0) (As := [.int (xs (i + 1).toNatClampNeg), .int (xs (i + 2).toNatClampNeg), .int (xs (i + 3).toNatClampNeg)]) rfl (x_X6_drift (G := G) hs hu (xs (i + 1).toNatClampNeg) (xs (i + 2).toNatClampNeg) (xs (i + 3).toNatClampNeg) 7) rfl (by decide) rfl rfl (Nat.le_of_ble_eq_true rfl) dL_law_982 (fun r1 u1 q1 => ?_)
  obtain ⟨q1, E1⟩ := q1
  obtain ⟨⟨x1, rfl, t1⟩, m1⟩ := q1
  obtain ⟨hv1, g1⟩ := m1
  have rj1 : ri u1 := ri_fr hri g1 (by decide)
  have ht1 : REL u1 := REL_fr ht g1 (by decide)
  refine g_aload_n dL_law_985 rfl ?_
  refine g_aload_n dL_law_986 rfl ?_
  refine g_iload_n dL_law_987 rfl ?_
  refine g_iconst (v := 1) dL_law_988 (by decide) ?_
  refine g_iadd dL_law_989 ?_
  refine g_sld hX h1 dL_law_990 ?_
  refine g_aload_n dL_law_991 rfl ?_
  refine g_iload_n dL_law_992 rfl ?_
  refine g_iconst (v := 2) dL_law_993 (by decide) ?_
  refine g_iadd dL_law_994 ?_
  refine g_sld hX h2 dL_law_995 ?_
  refine g_aload_n dL_law_996 rfl ?_
  refine g_iload_n dL_law_997 rfl ?_
  refine g_iconst (v := 3) dL_law_998 (by decide) ?_
  refine g_iadd dL_law_999 ?_
  refine g_sld hX h3 dL_law_1000 ?_
  refine cl_L_133 (c := 60) (As := [.int (xs (i + 1).toNatClampNeg), .int (xs (i + 2).toNatClampNeg), .int (xs (i + 3).toNatClampNeg)]) rfl (x_X7_drift (G := G) hs hv1 rj1 (xs (i + 1).toNatClampNeg) (xs (i + 2).toNatClampNeg) (xs (i + 3).toNatClampNeg) 7) rfl (by decide) rfl rfl (Nat.le_of_ble_eq_true rfl) dL_law_1001 (fun r2 u2 q2 => ?_)
  obtain ⟨q2, E2⟩ := q2
  obtain ⟨⟨x2, rfl, t2⟩, m2⟩ := q2
  obtain ⟨hv2, g2, ri2⟩ := m2
  have ht2 : REL u2 := REL_fk ht1 g2 (by decide) (by decide)
  refine g_icmp_eq (tgt := 1230) dL_law_1004 (by decide) (fun c => ?_) (fun c => ?_)
  · exact K u2 hv2 ri2 ht2
  · exact absurd ((ee_v E1.1).trans ((drift_e hv1 rj1 (KR_u1 ht g1 (by decide))).trans (ee_v E2.1).symm)) c
set_option maxHeartbeats 4000000 in
theorem lw_c29 {G : uk_D} {X : uk_Cx} {b L : Nat} {xs : Nat → Int32} {i : Int32} {u : uk_Mem} (hs : uk_Sep G) (hX : lw_scr G X b L xs) (h1 : vp_in (i + 1) L) (h2 : vp_in (i + 2) L) (h3 : vp_in (i + 3) L) (h4 : vp_in (i + 4) L) (hu : iv u) (hri : ri u) (ht : REL u) (K : ∀ u', iv u' → ri u' → REL u' → uk_G G X mL 12 lw_q 1230 [(0, .ref b), (1, .ref (uk_ad G 0)), (2, .ref (uk_ad G 60)), (3, .int i)] [] u') : uk_G G X mL 12 lw_q 1009 [(0, .ref b), (1, .ref (uk_ad G 0)), (2, .ref (uk_ad G 60)), (3, .int i)] [] u := by
  have hts : u.1 2 1 = u.1 60 13 := ht.2.2.2.2.1.1
  have htp : cpy (u.1 3) (u.1 69) (u.1 2 1) := ht.2.2.2.2.1.2.1
  refine g_aload_n dL_law_1009 rfl ?_
  refine g_aload_n dL_law_1010 rfl ?_
  refine g_iload_n dL_law_1011 rfl ?_
  refine g_iconst (v := 1) dL_law_1012 (by decide) ?_
  refine g_iadd dL_law_1013 ?_
  refine g_sld hX h1 dL_law_1014 ?_
  refine cl_L_134 (c := 0) (As := [.int (xs (i + 1).toNatClampNeg)]) rfl (x_X6_keep (G := G) hs hu (xs (i + 1).toNatClampNeg) 9) rfl (by decide) rfl rfl (Nat.le_of_ble_eq_true rfl) dL_law_1015 (fun r1 u1 q1 => ?_)
  obtain ⟨q1, E1⟩ := q1
  obtain ⟨⟨x1, rfl, t1⟩, m1⟩ := q1
  obtain ⟨hv1, g1⟩ := m1
  have rj1 : ri u1 := ri_fr hri g1 (by decide)
  refine g_pop dL_law_1018 rfl ?_
  refine g_aload_n dL_law_1019 rfl ?_
  refine g_aload_n dL_law_1020 rfl ?_
  refine g_iload_n dL_law_1021 rfl ?_
  refine g_iconst (v := 1) dL_law_1022 (by decide) ?_
  refine g_iadd dL_law_1023 ?_
  refine g_sld hX h1 dL_law_1024 ?_
  refine cl_L_137 (c := 60) (As := [.int (xs (i + 1).toNatClampNeg)]) rfl (x_X7_keep (G := G) hs hv1 rj1 (xs (i + 1).toNatClampNeg) 9) rfl (by decide) rfl rfl (Nat.le_of_ble_eq_true rfl) dL_law_1025 (fun r2 u2 q2 => ?_)
  obtain ⟨q2, E2⟩ := q2
  obtain ⟨⟨x2, rfl, t2⟩, m2⟩ := q2
  obtain ⟨hv2, g2, ri2⟩ := m2
  have A := keep_R ht hu E1.2 E2.2
  refine g_pop dL_law_1028 rfl ?_
  refine g_goto (tgt := 1230) dL_law_1029 (by decide) ?_
  exact K u2 hv2 ri2 A.2
