set_option maxHeartbeats 4000000 in
theorem lw_c30 {G : uk_D} {X : uk_Cx} {b L : Nat} {xs : Nat → Int32} {i : Int32} {u : uk_Mem} (hs : uk_Sep G) (hX : lw_scr G X b L xs) (h1 : vp_in (i + 1) L) (h2 : vp_in (i + 2) L) (h3 : vp_in (i + 3) L) (h4 : vp_in (i + 4) L) (hu : iv u) (hri : ri u) (ht : REL u) (K : ∀ u', iv u' → ri u' → REL u' → uk_G G X mL 12 lw_q 1230 [(0, .ref b), (1, .ref (uk_ad G 0)), (2, .ref (uk_ad G 60)), (3, .int i)] [] u') : uk_G G X mL 12 lw_q 1032 [(0, .ref b), (1, .ref (uk_ad G 0)), (2, .ref (uk_ad G 60)), (3, .int i)] [] u := by
  have hts : u.1 2 1 = u.1 60 13 := ht.2.2.2.2.1.1
  have htp : cpy (u.1 3) (u.1 69) (u.1 2 1) := ht.2.2.2.2.1.2.1
  refine g_aload_n dL_law_1032 rfl ?_
  refine g_aload_n dL_law_1033 rfl ?_
  refine g_iload_n dL_law_1034 rfl ?_
  refine g_iconst (v := 1) dL_law_1035 (by decide) ?_
  refine g_iadd dL_law_1036 ?_
  refine g_sld hX h1 dL_law_1037 ?_
  refine cl_L_138 (c := 0) (As := [.int (xs (i + 1).toNatClampNeg)]) rfl (x_X6_back (G := G) hs hu (xs (i + 1).toNatClampNeg) 9) rfl (by decide) rfl rfl (Nat.le_of_ble_eq_true rfl) dL_law_1038 (fun r1 u1 q1 => ?_)
  obtain ⟨q1, E1⟩ := q1
  obtain ⟨⟨x1, rfl, t1⟩, m1⟩ := q1
  obtain ⟨hv1, g1⟩ := m1
  have rj1 : ri u1 := ri_fr hri g1 (by decide)
  refine g_pop dL_law_1041 rfl ?_
  refine g_aload_n dL_law_1042 rfl ?_
  refine g_aload_n dL_law_1043 rfl ?_
  refine g_iload_n dL_law_1044 rfl ?_
  refine g_iconst (v := 1) dL_law_1045 (by decide) ?_
  refine g_iadd dL_law_1046 ?_
  refine g_sld hX h1 dL_law_1047 ?_
  refine cl_L_141 (c := 60) (As := [.int (xs (i + 1).toNatClampNeg)]) rfl (x_X7_back (G := G) hs hv1 rj1 (xs (i + 1).toNatClampNeg) 9) rfl (by decide) rfl rfl (Nat.le_of_ble_eq_true rfl) dL_law_1048 (fun r2 u2 q2 => ?_)
  obtain ⟨q2, E2⟩ := q2
  obtain ⟨⟨x2, rfl, t2⟩, m2⟩ := q2
  obtain ⟨hv2, g2, ri2⟩ := m2
  have A := back_R ht hu E1.2 E2.2
  refine g_pop dL_law_1051 rfl ?_
  refine g_goto (tgt := 1230) dL_law_1052 (by decide) ?_
  exact K u2 hv2 ri2 A.2
set_option maxHeartbeats 4000000 in
theorem lw_c31 {G : uk_D} {X : uk_Cx} {b L : Nat} {xs : Nat → Int32} {i : Int32} {u : uk_Mem} (hs : uk_Sep G) (hX : lw_scr G X b L xs) (h1 : vp_in (i + 1) L) (h2 : vp_in (i + 2) L) (h3 : vp_in (i + 3) L) (h4 : vp_in (i + 4) L) (hu : iv u) (hri : ri u) (ht : REL u) (K : ∀ u', iv u' → ri u' → REL u' → uk_G G X mL 12 lw_q 1230 [(0, .ref b), (1, .ref (uk_ad G 0)), (2, .ref (uk_ad G 60)), (3, .int i)] [] u') : uk_G G X mL 12 lw_q 1055 [(0, .ref b), (1, .ref (uk_ad G 0)), (2, .ref (uk_ad G 60)), (3, .int i)] [] u := by
  have hts : u.1 2 1 = u.1 60 13 := ht.2.2.2.2.1.1
  have htp : cpy (u.1 3) (u.1 69) (u.1 2 1) := ht.2.2.2.2.1.2.1
  refine g_aload_n dL_law_1055 rfl ?_
  refine g_aload_n dL_law_1056 rfl ?_
  refine g_iload_n dL_law_1057 rfl ?_
  refine g_iconst (v := 1) dL_law_1058 (by decide) ?_
  refine g_iadd dL_law_1059 ?_
  refine g_sld hX h1 dL_law_1060 ?_
  refine g_aload_n dL_law_1061 rfl ?_
  refine g_iload_n dL_law_1062 rfl ?_
  refine g_iconst (v := 2) dL_law_1063 (by decide) ?_
  refine g_iadd dL_law_1064 ?_
  refine g_sld hX h2 dL_law_1065 ?_
  refine g_aload_n dL_law_1066 rfl ?_
  refine g_iload_n dL_law_1067 rfl ?_
  refine g_iconst (v := 3) dL_law_1068 (by decide) ?_
  refine g_iadd dL_law_1069 ?_
  refine g_sld hX h3 dL_law_1070 ?_
  refine cl_L_142 (c := 0) (As := [.int (xs (i + 1).toNatClampNeg), .int (xs (i + 2).toNatClampNeg), .int (xs (i + 3).toNatClampNeg)]) rfl (x_X6_sheet (G := G) hs hu (xs (i + 1).toNatClampNeg) (xs (i + 2).toNatClampNeg) (xs (i + 3).toNatClampNeg) 9) rfl (by decide) rfl rfl (Nat.le_of_ble_eq_true rfl) dL_law_1071 (fun r1 u1 q1 => ?_)
  obtain ⟨q1, E1⟩ := q1
  obtain ⟨⟨x1, rfl, t1⟩, m1⟩ := q1
  obtain ⟨hv1, g1⟩ := m1
  have rj1 : ri u1 := ri_fr hri g1 (by decide)
  refine g_pop dL_law_1074 rfl ?_
  refine g_aload_n dL_law_1075 rfl ?_
  refine g_aload_n dL_law_1076 rfl ?_
  refine g_iload_n dL_law_1077 rfl ?_
  refine g_iconst (v := 1) dL_law_1078 (by decide) ?_
  refine g_iadd dL_law_1079 ?_
  refine g_sld hX h1 dL_law_1080 ?_
  refine g_aload_n dL_law_1081 rfl ?_
  refine g_iload_n dL_law_1082 rfl ?_
  refine g_iconst (v := 2) dL_law_1083 (by decide) ?_
  refine g_iadd dL_law_1084 ?_
  refine g_sld hX h2 dL_law_1085 ?_
  refine g_aload_n dL_law_1086 rfl ?_
  refine g_iload_n dL_law_1087 rfl ?_
  refine g_iconst (v := 3) dL_law_1088 (by decide) ?_
  refine g_iadd dL_law_1089 ?_
  refine g_sld hX h3 dL_law_1090 ?_
  refine cl_L_145 (c := 60) (As := [.int (xs (i + 1).toNatClampNeg), .int (xs (i + 2).toNatClampNeg), .int (xs (i + 3).toNatClampNeg)]) rfl (x_X7_sheet (G := G) hs hv1 (xs (i + 1).toNatClampNeg) (xs (i + 2).toNatClampNeg) (xs (i + 3).toNatClampNeg) 8) rfl (by decide) rfl rfl (Nat.le_of_ble_eq_true rfl) dL_law_1091 (fun r2 u2 q2 => ?_)
  obtain ⟨q2, E2⟩ := q2
  obtain ⟨⟨x2, rfl, t2⟩, m2⟩ := q2
  obtain ⟨hv2, g2⟩ := m2
  have rj2 : ri u2 := ri_fk rj1 g2 (by decide) (by decide) (by decide) (by decide) (by decide)
  have A := sheet_R ht E1.2 E2.2
  refine g_pop dL_law_1094 rfl ?_
  refine g_goto (tgt := 1230) dL_law_1095 (by decide) ?_
  exact K u2 hv2 rj2 A.2
