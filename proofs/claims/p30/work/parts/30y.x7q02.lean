set_option maxHeartbeats 4000000 in
theorem lw_c0 {G : uk_D} {X : uk_Cx} {b L : Nat} {xs : Nat → Int32} {i : Int32} {u : uk_Mem} (hs : uk_Sep G) (hX : lw_scr G X b L xs) (h1 : vp_in (i + 1) L) (h2 : vp_in (i + 2) L) (h3 : vp_in (i + 3) L) (h4 : vp_in (i + 4) L) (hu : iv u) (hri : ri u) (ht : REL u) (K : ∀ u', iv u' → ri u' → REL u' → uk_G G X mL 12 lw_q 1230 [(0, .ref b), (1, .ref (uk_ad G 0)), (2, .ref (uk_ad G 60)), (3, .int i)] [] u') : uk_G G X mL 12 lw_q 192 [(0, .ref b), (1, .ref (uk_ad G 0)), (2, .ref (uk_ad G 60)), (3, .int i)] [] u := by
  have hts : u.1 2 1 = u.1 60 13 := ht.2.2.2.2.1.1
  have htp : cpy (u.1 3) (u.1 69) (u.1 2 1) := ht.2.2.2.2.1.2.1
  refine g_aload_n dL_law_192 rfl ?_
  refine g_aload_n dL_law_193 rfl ?_
  refine g_iload_n dL_law_194 rfl ?_
  refine g_iconst (v := 1) dL_law_195 (by decide) ?_
  refine g_iadd dL_law_196 ?_
  refine g_sld hX h1 dL_law_197 ?_
  refine cl_L_13 (c := 0) (As := [.int (xs (i + 1).toNatClampNeg)]) rfl (c_X6_feed_s (G := G) hs hu (xs (i + 1).toNatClampNeg) 9) rfl (by decide) rfl rfl (Nat.le_of_ble_eq_true rfl) dL_law_198 (fun r1 u1 q1 => ?_)
  obtain ⟨⟨x1, rfl, t1⟩, m1⟩ := q1
  obtain ⟨hv1, g1, k1_0, k1_1⟩ := m1
  have rj1 : ri u1 := ri_fr hri g1 (by decide)
  refine g_pop dL_law_201 rfl ?_
  refine g_aload_n dL_law_202 rfl ?_
  refine g_aload_n dL_law_203 rfl ?_
  refine g_iload_n dL_law_204 rfl ?_
  refine g_iconst (v := 1) dL_law_205 (by decide) ?_
  refine g_iadd dL_law_206 ?_
  refine g_sld hX h1 dL_law_207 ?_
  refine cl_L_17 (c := 60) (As := [.int (xs (i + 1).toNatClampNeg)]) rfl (c_X7_feed_s (G := G) hs hv1 (xs (i + 1).toNatClampNeg) 9) rfl (by decide) rfl rfl (Nat.le_of_ble_eq_true rfl) dL_law_208 (fun r2 u2 q2 => ?_)
  obtain ⟨⟨x2, rfl, t2⟩, m2⟩ := q2
  obtain ⟨hv2, g2, k2_0, k2_1⟩ := m2
  have rj2 : ri u2 := ri_fk rj1 g2 (by decide) (by decide) (by decide) (by decide) (by decide)
  have s1 : u1.1 60 13 = u.1 60 13 := fr_at g1 (by decide)
  have s2 : u2.1 2 1 = u1.1 2 1 := fk_at g2 (by decide)
  have rr : 0 ≤ u.1 2 1 ∧ u.1 2 1 ≤ 160 := iv_at hu 2 1 rfl
  rw [s1] at t2
  have hq := lw_feed hts rr.2 t1 t2
  have ht2 : REL u2 := REL_tp ht (fun c h2 h3 h60 h69 => (fk_c g2 (by simp only [List.mem_cons, List.not_mem_nil, or_false]; omega)).trans (g1.1 c (by omega))) ((fk_at g2 (by decide)).trans (fr_at g1 (by decide))) ((fk_at g2 (by decide)).trans (fr_at g1 (by decide))) ((fk_at g2 (by decide)).trans (fr_at g1 (by decide))) (s2.trans hq.1) (tp_feed htp hts rr rr.2 t1 k1_0 k1_1 t2 (by rw [← g1.1 69 (by omega)]; exact k2_0) (by rw [← g1.1 69 (by omega)]; exact k2_1) (fk_c g2 (by decide)) s2 s1)
  refine g_pop dL_law_211 rfl ?_
  refine g_goto (tgt := 1230) dL_law_212 (by decide) ?_
  exact K u2 hv2 rj2 ht2
set_option maxHeartbeats 4000000 in
theorem lw_c1 {G : uk_D} {X : uk_Cx} {b L : Nat} {xs : Nat → Int32} {i : Int32} {u : uk_Mem} (hs : uk_Sep G) (hX : lw_scr G X b L xs) (h1 : vp_in (i + 1) L) (h2 : vp_in (i + 2) L) (h3 : vp_in (i + 3) L) (h4 : vp_in (i + 4) L) (hu : iv u) (hri : ri u) (ht : REL u) (K : ∀ u', iv u' → ri u' → REL u' → uk_G G X mL 12 lw_q 1230 [(0, .ref b), (1, .ref (uk_ad G 0)), (2, .ref (uk_ad G 60)), (3, .int i)] [] u') : uk_G G X mL 12 lw_q 215 [(0, .ref b), (1, .ref (uk_ad G 0)), (2, .ref (uk_ad G 60)), (3, .int i)] [] u := by
  have hts : u.1 2 1 = u.1 60 13 := ht.2.2.2.2.1.1
  have htp : cpy (u.1 3) (u.1 69) (u.1 2 1) := ht.2.2.2.2.1.2.1
  refine g_aload_n dL_law_215 rfl ?_
  refine g_aload_n dL_law_216 rfl ?_
  refine g_iload_n dL_law_217 rfl ?_
  refine g_iconst (v := 1) dL_law_218 (by decide) ?_
  refine g_iadd dL_law_219 ?_
  refine g_sld hX h1 dL_law_220 ?_
  refine cl_L_18 (c := 0) (As := [.int (xs (i + 1).toNatClampNeg)]) rfl (c_X6_end (G := G) hs hu (xs (i + 1).toNatClampNeg) 10) rfl (by decide) rfl rfl (Nat.le_of_ble_eq_true rfl) dL_law_221 (fun r1 u1 q1 => ?_)
  obtain ⟨⟨x1, rfl, t1⟩, m1⟩ := q1
  obtain ⟨hv1, g1⟩ := m1
  have rj1 : ri u1 := ri_fr hri g1 (by decide)
  refine g_pop dL_law_224 rfl ?_
  refine g_aload_n dL_law_225 rfl ?_
  refine g_aload_n dL_law_226 rfl ?_
  refine g_iload_n dL_law_227 rfl ?_
  refine g_iconst (v := 1) dL_law_228 (by decide) ?_
  refine g_iadd dL_law_229 ?_
  refine g_sld hX h1 dL_law_230 ?_
  refine cl_L_21 (c := 60) (As := [.int (xs (i + 1).toNatClampNeg)]) rfl (c_X7_end (G := G) hs hv1 (xs (i + 1).toNatClampNeg) 9) rfl (by decide) rfl rfl (Nat.le_of_ble_eq_true rfl) dL_law_231 (fun r2 u2 q2 => ?_)
  obtain ⟨⟨x2, rfl, t2⟩, m2⟩ := q2
  obtain ⟨hv2, g2⟩ := m2
  have rj2 : ri u2 := ri_fk rj1 g2 (by decide) (by decide) (by decide) (by decide) (by decide)
  have s1 : u1.1 60 13 = u.1 60 13 := fr_at g1 (by decide)
  have s2 : u2.1 2 1 = u1.1 2 1 := fk_at g2 (by decide)
  have c3 : u2.1 3 = u.1 3 := (fk_c g2 (by decide)).trans (g1.1 3 (by omega))
  have c69 : u2.1 69 = u.1 69 := (fk_c g2 (by decide)).trans (g1.1 69 (by omega))
  have ht2 : REL u2 := REL_tp ht (fun c h2 h3 h60 h69 => (fk_c g2 (by simp only [List.mem_cons, List.not_mem_nil, or_false]; omega)).trans (g1.1 c (by omega))) ((fk_at g2 (by decide)).trans (fr_at g1 (by decide))) ((fk_at g2 (by decide)).trans (fr_at g1 (by decide))) ((fk_at g2 (by decide)).trans (fr_at g1 (by decide))) (by grind) (by rw [c3, c69]; exact cpy_le htp (by grind))
  refine g_pop dL_law_234 rfl ?_
  refine g_goto (tgt := 1230) dL_law_235 (by decide) ?_
  exact K u2 hv2 rj2 ht2
