set_option maxHeartbeats 4000000 in
theorem lw_c2 {G : uk_D} {X : uk_Cx} {b L : Nat} {xs : Nat → Int32} {i : Int32} {u : uk_Mem} (hs : uk_Sep G) (hX : lw_scr G X b L xs) (h1 : vp_in (i + 1) L) (h2 : vp_in (i + 2) L) (h3 : vp_in (i + 3) L) (h4 : vp_in (i + 4) L) (hu : iv u) (hri : ri u) (ht : REL u) (K : ∀ u', iv u' → ri u' → REL u' → uk_G G X mL 12 lw_q 1230 [(0, .ref b), (1, .ref (uk_ad G 0)), (2, .ref (uk_ad G 60)), (3, .int i)] [] u') : uk_G G X mL 12 lw_q 238 [(0, .ref b), (1, .ref (uk_ad G 0)), (2, .ref (uk_ad G 60)), (3, .int i)] [] u := by
  have hts : u.1 2 1 = u.1 60 13 := ht.2.2.2.2.1.1
  have htp : cpy (u.1 3) (u.1 69) (u.1 2 1) := ht.2.2.2.2.1.2.1
  refine g_aload_n dL_law_238 rfl ?_
  refine cl_L_22 (c := 0) (As := []) rfl (c_X6_text_t (G := G) hs hu  (u.1 3) (u.1 2 1) (fun i _ _ => rfl) rfl 2) rfl (by decide) rfl rfl (Nat.le_of_ble_eq_true rfl) dL_law_239 (fun r1 u1 q1 => ?_)
  obtain ⟨⟨x1, rfl, t1⟩, m1⟩ := q1
  obtain ⟨hv1, g1, k1_0, k1_1, k1_2, k1_3, k1_4⟩ := m1
  have rj1 : ri u1 := ri_fr hri g1 (by decide)
  refine g_pop dL_law_242 rfl ?_
  refine g_aload_n dL_law_243 rfl ?_
  refine cl_L_26 (c := 60) (As := []) rfl (c_X7_text_t (G := G) hs hv1 rj1  (u.1 3) (u.1 2 1) (by rw [g1.1 69 (by omega)]; exact cpy_sy htp) (by rw [fr_at (c := 60) (i := 13) g1 (by decide)]; exact hts.symm) 5) rfl (by decide) rfl rfl (Nat.le_of_ble_eq_true rfl) dL_law_244 (fun r2 u2 q2 => ?_)
  obtain ⟨⟨x2, rfl, t2⟩, m2⟩ := q2
  obtain ⟨hv2, g2, ri2, k2_0, k2_1, k2_2, k2_3⟩ := m2
  have ht2 : REL u2 := REL_tx ht hu hv2 g1 g2 k1_0 k1_1 k1_2 k1_3 k1_4 k2_0 k2_1 k2_2 k2_3
  refine g_pop dL_law_247 rfl ?_
  refine g_goto (tgt := 1230) dL_law_248 (by decide) ?_
  exact K u2 hv2 ri2 ht2
set_option maxHeartbeats 4000000 in
theorem lw_c3 {G : uk_D} {X : uk_Cx} {b L : Nat} {xs : Nat → Int32} {i : Int32} {u : uk_Mem} (hs : uk_Sep G) (hX : lw_scr G X b L xs) (h1 : vp_in (i + 1) L) (h2 : vp_in (i + 2) L) (h3 : vp_in (i + 3) L) (h4 : vp_in (i + 4) L) (hu : iv u) (hri : ri u) (ht : REL u) (K : ∀ u', iv u' → ri u' → REL u' → uk_G G X mL 12 lw_q 1230 [(0, .ref b), (1, .ref (uk_ad G 0)), (2, .ref (uk_ad G 60)), (3, .int i)] [] u') : uk_G G X mL 12 lw_q 251 [(0, .ref b), (1, .ref (uk_ad G 0)), (2, .ref (uk_ad G 60)), (3, .int i)] [] u := by
  have hts : u.1 2 1 = u.1 60 13 := ht.2.2.2.2.1.1
  have htp : cpy (u.1 3) (u.1 69) (u.1 2 1) := ht.2.2.2.2.1.2.1
  refine g_aload_n dL_law_251 rfl ?_
  refine cl_L_27 (c := 0) (As := []) rfl (c_X6_fault_s (G := G) hs hu  10) rfl (by decide) rfl rfl (Nat.le_of_ble_eq_true rfl) dL_law_252 (fun r1 u1 q1 => ?_)
  obtain ⟨⟨x1, rfl, t1⟩, m1⟩ := q1
  rw [m1]
  refine g_pop dL_law_255 rfl ?_
  refine g_aload_n dL_law_256 rfl ?_
  refine cl_L_30 (c := 60) (As := []) rfl (c_X7_fault_s (G := G) hs hu  10) rfl (by decide) rfl rfl (Nat.le_of_ble_eq_true rfl) dL_law_257 (fun r2 u2 q2 => ?_)
  obtain ⟨⟨x2, rfl, t2⟩, m2⟩ := q2
  rw [m2]
  refine g_pop dL_law_260 rfl ?_
  refine g_goto (tgt := 1230) dL_law_261 (by decide) ?_
  exact K u hu hri ht
set_option maxHeartbeats 4000000 in
theorem lw_c4 {G : uk_D} {X : uk_Cx} {b L : Nat} {xs : Nat → Int32} {i : Int32} {u : uk_Mem} (hs : uk_Sep G) (hX : lw_scr G X b L xs) (h1 : vp_in (i + 1) L) (h2 : vp_in (i + 2) L) (h3 : vp_in (i + 3) L) (h4 : vp_in (i + 4) L) (hu : iv u) (hri : ri u) (ht : REL u) (K : ∀ u', iv u' → ri u' → REL u' → uk_G G X mL 12 lw_q 1230 [(0, .ref b), (1, .ref (uk_ad G 0)), (2, .ref (uk_ad G 60)), (3, .int i)] [] u') : uk_G G X mL 12 lw_q 264 [(0, .ref b), (1, .ref (uk_ad G 0)), (2, .ref (uk_ad G 60)), (3, .int i)] [] u := by
  have hts : u.1 2 1 = u.1 60 13 := ht.2.2.2.2.1.1
  have htp : cpy (u.1 3) (u.1 69) (u.1 2 1) := ht.2.2.2.2.1.2.1
  refine g_aload_n dL_law_264 rfl ?_
  refine g_aload_n dL_law_265 rfl ?_
  refine g_iload_n dL_law_266 rfl ?_
  refine g_iconst (v := 1) dL_law_267 (by decide) ?_
  refine g_iadd dL_law_268 ?_
  refine g_sld hX h1 dL_law_269 ?_
  refine cl_L_31 (c := 0) (As := [.int (xs (i + 1).toNatClampNeg)]) rfl (x_X6_rule (G := G) hs hu (xs (i + 1).toNatClampNeg) 8) rfl (by decide) rfl rfl (Nat.le_of_ble_eq_true rfl) dL_law_270 (fun r1 u1 q1 => ?_)
  obtain ⟨q1, E1⟩ := q1
  obtain ⟨⟨x1, rfl, t1⟩, m1⟩ := q1
  rw [m1]
  refine g_pop dL_law_273 rfl ?_
  refine g_aload_n dL_law_274 rfl ?_
  refine g_aload_n dL_law_275 rfl ?_
  refine g_iload_n dL_law_276 rfl ?_
  refine g_iconst (v := 1) dL_law_277 (by decide) ?_
  refine g_iadd dL_law_278 ?_
  refine g_sld hX h1 dL_law_279 ?_
  refine cl_L_34 (c := 60) (As := [.int (xs (i + 1).toNatClampNeg)]) rfl (x_X7_rule (G := G) hs hu (xs (i + 1).toNatClampNeg) 9) rfl (by decide) rfl rfl (Nat.le_of_ble_eq_true rfl) dL_law_280 (fun r2 u2 q2 => ?_)
  obtain ⟨q2, E2⟩ := q2
  obtain ⟨⟨x2, rfl, t2⟩, m2⟩ := q2
  rw [m2]
  refine g_pop dL_law_283 rfl ?_
  refine g_goto (tgt := 1230) dL_law_284 (by decide) ?_
  exact K u hu hri ht
