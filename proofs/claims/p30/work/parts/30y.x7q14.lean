set_option maxHeartbeats 4000000 in
theorem lw_c25 {G : uk_D} {X : uk_Cx} {b L : Nat} {xs : Nat → Int32} {i : Int32} {u : uk_Mem} (hs : uk_Sep G) (hX : lw_scr G X b L xs) (h1 : vp_in (i + 1) L) (h2 : vp_in (i + 2) L) (h3 : vp_in (i + 3) L) (h4 : vp_in (i + 4) L) (hu : iv u) (hri : ri u) (ht : REL u) (K : ∀ u', iv u' → ri u' → REL u' → uk_G G X mL 12 lw_q 1230 [(0, .ref b), (1, .ref (uk_ad G 0)), (2, .ref (uk_ad G 60)), (3, .int i)] [] u') : uk_G G X mL 12 lw_q 907 [(0, .ref b), (1, .ref (uk_ad G 0)), (2, .ref (uk_ad G 60)), (3, .int i)] [] u := by
  have hts : u.1 2 1 = u.1 60 13 := ht.2.2.2.2.1.1
  have htp : cpy (u.1 3) (u.1 69) (u.1 2 1) := ht.2.2.2.2.1.2.1
  refine g_aload_n dL_law_907 rfl ?_
  refine g_aload_n dL_law_908 rfl ?_
  refine g_iload_n dL_law_909 rfl ?_
  refine g_iconst (v := 1) dL_law_910 (by decide) ?_
  refine g_iadd dL_law_911 ?_
  refine g_sld hX h1 dL_law_912 ?_
  refine cl_L_118 (c := 0) (As := [.int (xs (i + 1).toNatClampNeg)]) rfl (x_X6_forget (G := G) hs hu (xs (i + 1).toNatClampNeg) 10) rfl (by decide) rfl rfl (Nat.le_of_ble_eq_true rfl) dL_law_913 (fun r1 u1 q1 => ?_)
  obtain ⟨q1, E1⟩ := q1
  obtain ⟨⟨x1, rfl, t1⟩, m1⟩ := q1
  obtain ⟨hv1, g1⟩ := m1
  have rj1 : ri u1 := ri_fr hri g1 (by decide)
  have K1 : KR u u1 13 61 0 := KR_u1 ht g1 (by decide)
  refine g_pop dL_law_916 rfl ?_
  refine g_aload_n dL_law_917 rfl ?_
  refine g_aload_n dL_law_918 rfl ?_
  refine g_iload_n dL_law_919 rfl ?_
  refine g_iconst (v := 1) dL_law_920 (by decide) ?_
  refine g_iadd dL_law_921 ?_
  refine g_sld hX h1 dL_law_922 ?_
  refine cl_L_121 (c := 60) (As := [.int (xs (i + 1).toNatClampNeg)]) rfl (x_X7_forget (G := G) hs hv1 rj1 (xs (i + 1).toNatClampNeg) 9) rfl (by decide) rfl rfl (Nat.le_of_ble_eq_true rfl) dL_law_923 (fun r2 u2 q2 => ?_)
  obtain ⟨q2, E2⟩ := q2
  obtain ⟨⟨x2, rfl, t2⟩, m2⟩ := q2
  obtain ⟨hv2, g2, ri2⟩ := m2
  have A := forget_e (n := (xs (i + 1).toNatClampNeg)) hv1 K1
  have A2 : KR u1 u2 13 61 0 := by
    have z := A.2
    rw [← E1.2, ← E2.2] at z
    exact z
  have ht2 : REL u2 := REL_kit ht hu g1 g2 (by decide) (fun j hj => by rw [E2.2]; exact forget_o hj) A2
  refine g_pop dL_law_926 rfl ?_
  refine g_goto (tgt := 1230) dL_law_927 (by decide) ?_
  exact K u2 hv2 ri2 ht2
set_option maxHeartbeats 4000000 in
theorem lw_c26 {G : uk_D} {X : uk_Cx} {b L : Nat} {xs : Nat → Int32} {i : Int32} {u : uk_Mem} (hs : uk_Sep G) (hX : lw_scr G X b L xs) (h1 : vp_in (i + 1) L) (h2 : vp_in (i + 2) L) (h3 : vp_in (i + 3) L) (h4 : vp_in (i + 4) L) (hu : iv u) (hri : ri u) (ht : REL u) (K : ∀ u', iv u' → ri u' → REL u' → uk_G G X mL 12 lw_q 1230 [(0, .ref b), (1, .ref (uk_ad G 0)), (2, .ref (uk_ad G 60)), (3, .int i)] [] u') : uk_G G X mL 12 lw_q 930 [(0, .ref b), (1, .ref (uk_ad G 0)), (2, .ref (uk_ad G 60)), (3, .int i)] [] u := by
  have hts : u.1 2 1 = u.1 60 13 := ht.2.2.2.2.1.1
  have htp : cpy (u.1 3) (u.1 69) (u.1 2 1) := ht.2.2.2.2.1.2.1
  refine g_aload_n dL_law_930 rfl ?_
  refine cl_L_122 (c := 0) (As := []) rfl (c_X6_fits (G := G) hs hu  7) rfl (by decide) rfl rfl (Nat.le_of_ble_eq_true rfl) dL_law_931 (fun r1 u1 q1 => ?_)
  obtain ⟨⟨x1, rfl, t1⟩, m1⟩ := q1
  obtain ⟨hv1, g1⟩ := m1
  have rj1 : ri u1 := ri_fr hri g1 (by decide)
  have ht1 : REL u1 := REL_fr ht g1 (by decide)
  refine g_pop dL_law_934 rfl ?_
  refine g_aload_n dL_law_935 rfl ?_
  refine cl_L_125 (c := 60) (As := []) rfl (c_X7_fits (G := G) hs hv1 rj1  7) rfl (by decide) rfl rfl (Nat.le_of_ble_eq_true rfl) dL_law_936 (fun r2 u2 q2 => ?_)
  obtain ⟨⟨x2, rfl, t2⟩, m2⟩ := q2
  obtain ⟨hv2, g2, ri2⟩ := m2
  have ht2 : REL u2 := REL_fk ht1 g2 (by decide) (by decide)
  refine g_pop dL_law_939 rfl ?_
  refine g_goto (tgt := 1230) dL_law_940 (by decide) ?_
  exact K u2 hv2 ri2 ht2
set_option maxHeartbeats 4000000 in
theorem lw_c27 {G : uk_D} {X : uk_Cx} {b L : Nat} {xs : Nat → Int32} {i : Int32} {u : uk_Mem} (hs : uk_Sep G) (hX : lw_scr G X b L xs) (h1 : vp_in (i + 1) L) (h2 : vp_in (i + 2) L) (h3 : vp_in (i + 3) L) (h4 : vp_in (i + 4) L) (hu : iv u) (hri : ri u) (ht : REL u) (K : ∀ u', iv u' → ri u' → REL u' → uk_G G X mL 12 lw_q 1230 [(0, .ref b), (1, .ref (uk_ad G 0)), (2, .ref (uk_ad G 60)), (3, .int i)] [] u') : uk_G G X mL 12 lw_q 943 [(0, .ref b), (1, .ref (uk_ad G 0)), (2, .ref (uk_ad G 60)), (3, .int i)] [] u := by
  have hts : u.1 2 1 = u.1 60 13 := ht.2.2.2.2.1.1
  have htp : cpy (u.1 3) (u.1 69) (u.1 2 1) := ht.2.2.2.2.1.2.1
  refine g_aload_n dL_law_943 rfl ?_
  refine g_aload_n dL_law_944 rfl ?_
  refine g_iload_n dL_law_945 rfl ?_
  refine g_iconst (v := 1) dL_law_946 (by decide) ?_
  refine g_iadd dL_law_947 ?_
  refine g_sld hX h1 dL_law_948 ?_
  refine cl_L_126 (c := 0) (As := [.int (xs (i + 1).toNatClampNeg)]) rfl (c_X6_pairs_k (G := G) hs hu (xs (i + 1).toNatClampNeg) 6) rfl (by decide) rfl rfl (Nat.le_of_ble_eq_true rfl) dL_law_949 (fun r1 u1 q1 => ?_)
  obtain ⟨⟨x1, rfl, t1⟩, m1⟩ := q1
  obtain ⟨hv1, g1, k1_0, k1_1, k1_2, k1_3, k1_4, k1_5⟩ := m1
  have rj1 : ri u1 := ri_fr hri g1 (by decide)
  have ht1 : REL u1 := REL_lo ht g1 (by decide) k1_0 k1_1 k1_2 k1_3 k1_4 k1_5
  refine g_pop dL_law_952 rfl ?_
  refine g_aload_n dL_law_953 rfl ?_
  refine g_aload_n dL_law_954 rfl ?_
  refine g_iload_n dL_law_955 rfl ?_
  refine g_iconst (v := 1) dL_law_956 (by decide) ?_
  refine g_iadd dL_law_957 ?_
  refine g_sld hX h1 dL_law_958 ?_
  refine cl_L_129 (c := 60) (As := [.int (xs (i + 1).toNatClampNeg)]) rfl (c_X7_pairs (G := G) hs hv1 rj1 (xs (i + 1).toNatClampNeg) 6) rfl (by decide) rfl rfl (Nat.le_of_ble_eq_true rfl) dL_law_959 (fun r2 u2 q2 => ?_)
  obtain ⟨⟨x2, rfl, t2⟩, m2⟩ := q2
  obtain ⟨hv2, g2, ri2⟩ := m2
  have ht2 : REL u2 := REL_fk ht1 g2 (by decide) (by decide)
  refine g_pop dL_law_962 rfl ?_
  refine g_goto (tgt := 1230) dL_law_963 (by decide) ?_
  exact K u2 hv2 ri2 ht2
