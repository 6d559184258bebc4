set_option maxHeartbeats 4000000 in
theorem lw_c32 {G : uk_D} {X : uk_Cx} {b L : Nat} {xs : Nat → Int32} {i : Int32} {u : uk_Mem} (hs : uk_Sep G) (hX : lw_scr G X b L xs) (h1 : vp_in (i + 1) L) (h2 : vp_in (i + 2) L) (h3 : vp_in (i + 3) L) (h4 : vp_in (i + 4) L) (hu : iv u) (hri : ri u) (ht : REL u) (K : ∀ u', iv u' → ri u' → REL u' → uk_G G X mL 12 lw_q 1230 [(0, .ref b), (1, .ref (uk_ad G 0)), (2, .ref (uk_ad G 60)), (3, .int i)] [] u') : uk_G G X mL 12 lw_q 1098 [(0, .ref b), (1, .ref (uk_ad G 0)), (2, .ref (uk_ad G 60)), (3, .int i)] [] u := by
  have hts : u.1 2 1 = u.1 60 13 := ht.2.2.2.2.1.1
  have htp : cpy (u.1 3) (u.1 69) (u.1 2 1) := ht.2.2.2.2.1.2.1
  refine g_aload_n dL_law_1098 rfl ?_
  refine g_aload_n dL_law_1099 rfl ?_
  refine g_iload_n dL_law_1100 rfl ?_
  refine g_iconst (v := 1) dL_law_1101 (by decide) ?_
  refine g_iadd dL_law_1102 ?_
  refine g_sld hX h1 dL_law_1103 ?_
  refine g_aload_n dL_law_1104 rfl ?_
  refine g_iload_n dL_law_1105 rfl ?_
  refine g_iconst (v := 2) dL_law_1106 (by decide) ?_
  refine g_iadd dL_law_1107 ?_
  refine g_sld hX h2 dL_law_1108 ?_
  refine g_aload_n dL_law_1109 rfl ?_
  refine g_iload_n dL_law_1110 rfl ?_
  refine g_iconst (v := 3) dL_law_1111 (by decide) ?_
  refine g_iadd dL_law_1112 ?_
  refine g_sld hX h3 dL_law_1113 ?_
  refine cl_L_146 (c := 0) (As := [.int (xs (i + 1).toNatClampNeg), .int (xs (i + 2).toNatClampNeg), .int (xs (i + 3).toNatClampNeg)]) rfl (x_X6_lay (G := G) hs hu (xs (i + 1).toNatClampNeg) (xs (i + 2).toNatClampNeg) (xs (i + 3).toNatClampNeg) 8) rfl (by decide) rfl rfl (Nat.le_of_ble_eq_true rfl) dL_law_1114 (fun r1 u1 q1 => ?_)
  obtain ⟨q1, E1⟩ := q1
  obtain ⟨⟨x1, rfl, t1⟩, m1⟩ := q1
  obtain ⟨hv1, g1⟩ := m1
  have rj1 : ri u1 := ri_fr hri g1 (by decide)
  refine g_pop dL_law_1117 rfl ?_
  refine g_aload_n dL_law_1118 rfl ?_
  refine g_aload_n dL_law_1119 rfl ?_
  refine g_iload_n dL_law_1120 rfl ?_
  refine g_iconst (v := 1) dL_law_1121 (by decide) ?_
  refine g_iadd dL_law_1122 ?_
  refine g_sld hX h1 dL_law_1123 ?_
  refine g_aload_n dL_law_1124 rfl ?_
  refine g_iload_n dL_law_1125 rfl ?_
  refine g_iconst (v := 2) dL_law_1126 (by decide) ?_
  refine g_iadd dL_law_1127 ?_
  refine g_sld hX h2 dL_law_1128 ?_
  refine g_aload_n dL_law_1129 rfl ?_
  refine g_iload_n dL_law_1130 rfl ?_
  refine g_iconst (v := 3) dL_law_1131 (by decide) ?_
  refine g_iadd dL_law_1132 ?_
  refine g_sld hX h3 dL_law_1133 ?_
  refine cl_L_149 (c := 60) (As := [.int (xs (i + 1).toNatClampNeg), .int (xs (i + 2).toNatClampNeg), .int (xs (i + 3).toNatClampNeg)]) rfl (x_X7_lay (G := G) hs hv1 (xs (i + 1).toNatClampNeg) (xs (i + 2).toNatClampNeg) (xs (i + 3).toNatClampNeg) 8) rfl (by decide) rfl rfl (Nat.le_of_ble_eq_true rfl) dL_law_1134 (fun r2 u2 q2 => ?_)
  obtain ⟨q2, E2⟩ := q2
  obtain ⟨⟨x2, rfl, t2⟩, m2⟩ := q2
  obtain ⟨hv2, g2⟩ := m2
  have rj2 : ri u2 := ri_fk rj1 g2 (by decide) (by decide) (by decide) (by decide) (by decide)
  have A := lay_R ht hu E1.2 E2.2
  refine g_pop dL_law_1137 rfl ?_
  refine g_goto (tgt := 1230) dL_law_1138 (by decide) ?_
  exact K u2 hv2 rj2 A.2
set_option maxHeartbeats 4000000 in
theorem lw_c33 {G : uk_D} {X : uk_Cx} {b L : Nat} {xs : Nat → Int32} {i : Int32} {u : uk_Mem} (hs : uk_Sep G) (hX : lw_scr G X b L xs) (h1 : vp_in (i + 1) L) (h2 : vp_in (i + 2) L) (h3 : vp_in (i + 3) L) (h4 : vp_in (i + 4) L) (hu : iv u) (hri : ri u) (ht : REL u) (K : ∀ u', iv u' → ri u' → REL u' → uk_G G X mL 12 lw_q 1230 [(0, .ref b), (1, .ref (uk_ad G 0)), (2, .ref (uk_ad G 60)), (3, .int i)] [] u') : uk_G G X mL 12 lw_q 1141 [(0, .ref b), (1, .ref (uk_ad G 0)), (2, .ref (uk_ad G 60)), (3, .int i)] [] u := by
  have hts : u.1 2 1 = u.1 60 13 := ht.2.2.2.2.1.1
  have htp : cpy (u.1 3) (u.1 69) (u.1 2 1) := ht.2.2.2.2.1.2.1
  refine g_aload_n dL_law_1141 rfl ?_
  refine g_aload_n dL_law_1142 rfl ?_
  refine g_iload_n dL_law_1143 rfl ?_
  refine g_iconst (v := 1) dL_law_1144 (by decide) ?_
  refine g_iadd dL_law_1145 ?_
  refine g_sld hX h1 dL_law_1146 ?_
  refine g_aload_n dL_law_1147 rfl ?_
  refine g_iload_n dL_law_1148 rfl ?_
  refine g_iconst (v := 2) dL_law_1149 (by decide) ?_
  refine g_iadd dL_law_1150 ?_
  refine g_sld hX h2 dL_law_1151 ?_
  refine g_aload_n dL_law_1152 rfl ?_
  refine g_iload_n dL_law_1153 rfl ?_
  refine g_iconst (v := 3) dL_law_1154 (by decide) ?_
  refine g_iadd dL_law_1155 ?_
  refine g_sld hX h3 dL_law_1156 ?_
  refine g_aload_n dL_law_1157 rfl ?_
  refine g_iload_n dL_law_1158 rfl ?_
  refine g_iconst (v := 4) dL_law_1159 (by decide) ?_
  refine g_iadd dL_law_1160 ?_
  refine g_sld hX h4 dL_law_1161 ?_
  refine cl_L_150 (c := 0) (As := [.int (xs (i + 1).toNatClampNeg), .int (xs (i + 2).toNatClampNeg), .int (xs (i + 3).toNatClampNeg), .int (xs (i + 4).toNatClampNeg)]) rfl (x_X6_read (G := G) hs hu (xs (i + 1).toNatClampNeg) (xs (i + 2).toNatClampNeg) (xs (i + 3).toNatClampNeg) (xs (i + 4).toNatClampNeg) 6) rfl (by decide) rfl rfl (Nat.le_of_ble_eq_true rfl) dL_law_1162 (fun r1 u1 q1 => ?_)
  obtain ⟨q1, E1⟩ := q1
  obtain ⟨⟨x1, rfl, t1⟩, m1⟩ := q1
  obtain ⟨hv1, g1, k1_0⟩ := m1
  have rj1 : ri u1 := ri_fr hri g1 (by decide)
  refine g_pop dL_law_1165 rfl ?_
  refine g_aload_n dL_law_1166 rfl ?_
  refine g_aload_n dL_law_1167 rfl ?_
  refine g_iload_n dL_law_1168 rfl ?_
  refine g_iconst (v := 1) dL_law_1169 (by decide) ?_
  refine g_iadd dL_law_1170 ?_
  refine g_sld hX h1 dL_law_1171 ?_
  refine g_aload_n dL_law_1172 rfl ?_
  refine g_iload_n dL_law_1173 rfl ?_
  refine g_iconst (v := 2) dL_law_1174 (by decide) ?_
  refine g_iadd dL_law_1175 ?_
  refine g_sld hX h2 dL_law_1176 ?_
  refine g_aload_n dL_law_1177 rfl ?_
  refine g_iload_n dL_law_1178 rfl ?_
  refine g_iconst (v := 3) dL_law_1179 (by decide) ?_
  refine g_iadd dL_law_1180 ?_
  refine g_sld hX h3 dL_law_1181 ?_
  refine g_aload_n dL_law_1182 rfl ?_
  refine g_iload_n dL_law_1183 rfl ?_
  refine g_iconst (v := 4) dL_law_1184 (by decide) ?_
  refine g_iadd dL_law_1185 ?_
  refine g_sld hX h4 dL_law_1186 ?_
  refine cl_L_154 (c := 60) (As := [.int (xs (i + 1).toNatClampNeg), .int (xs (i + 2).toNatClampNeg), .int (xs (i + 3).toNatClampNeg), .int (xs (i + 4).toNatClampNeg)]) rfl (x_X7_read (G := G) hs hv1 rj1 (xs (i + 1).toNatClampNeg) (xs (i + 2).toNatClampNeg) (xs (i + 3).toNatClampNeg) (xs (i + 4).toNatClampNeg) 6) rfl (by decide) rfl rfl (Nat.le_of_ble_eq_true rfl) dL_law_1187 (fun r2 u2 q2 => ?_)
  obtain ⟨q2, E2⟩ := q2
  obtain ⟨⟨x2, rfl, t2⟩, m2⟩ := q2
  obtain ⟨hv2, g2, ri2⟩ := m2
  have A := read_R ht hu hri E1.2 E2.2 g1 g2 hv1
  refine g_pop dL_law_1190 rfl ?_
  refine g_goto (tgt := 1230) dL_law_1191 (by decide) ?_
  exact K u2 hv2 ri2 A.2
