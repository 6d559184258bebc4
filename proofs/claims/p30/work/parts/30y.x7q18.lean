set_option maxHeartbeats 4000000 in
theorem lw_c34 {G : uk_D} {X : uk_Cx} {b L : Nat} {xs : Nat → Int32} {i : Int32} {u : uk_Mem} (hs : uk_Sep G) (hX : lw_scr G X b L xs) (h1 : vp_in (i + 1) L) (h2 : vp_in (i + 2) L) (h3 : vp_in (i + 3) L) (h4 : vp_in (i + 4) L) (hu : iv u) (hri : ri u) (ht : REL u) (K : ∀ u', iv u' → ri u' → REL u' → uk_G G X mL 12 lw_q 1230 [(0, .ref b), (1, .ref (uk_ad G 0)), (2, .ref (uk_ad G 60)), (3, .int i)] [] u') : uk_G G X mL 12 lw_q 1194 [(0, .ref b), (1, .ref (uk_ad G 0)), (2, .ref (uk_ad G 60)), (3, .int i)] [] u := by
  have hts : u.1 2 1 = u.1 60 13 := ht.2.2.2.2.1.1
  have htp : cpy (u.1 3) (u.1 69) (u.1 2 1) := ht.2.2.2.2.1.2.1
  refine g_aload_n dL_law_1194 rfl ?_
  refine cl_L_155 (c := 0) (As := []) rfl (x_X6_torn (G := G) hs hu  10) rfl (by decide) rfl rfl (Nat.le_of_ble_eq_true rfl) dL_law_1195 (fun r1 u1 q1 => ?_)
  obtain ⟨q1, E1⟩ := q1
  obtain ⟨⟨x1, rfl, t1⟩, m1⟩ := q1
  rw [m1]
  refine g_pop dL_law_1198 rfl ?_
  refine g_aload_n dL_law_1199 rfl ?_
  refine cl_L_158 (c := 60) (As := []) rfl (x_X7_torn (G := G) hs hu  10) rfl (by decide) rfl rfl (Nat.le_of_ble_eq_true rfl) dL_law_1200 (fun r2 u2 q2 => ?_)
  obtain ⟨q2, E2⟩ := q2
  obtain ⟨⟨x2, rfl, t2⟩, m2⟩ := q2
  rw [m2]
  refine g_pop dL_law_1203 rfl ?_
  refine g_goto (tgt := 1230) dL_law_1204 (by decide) ?_
  exact K u hu hri ht
set_option maxHeartbeats 4000000 in
theorem lw_c35 {G : uk_D} {X : uk_Cx} {b L : Nat} {xs : Nat → Int32} {i : Int32} {u : uk_Mem} (hs : uk_Sep G) (hX : lw_scr G X b L xs) (h1 : vp_in (i + 1) L) (h2 : vp_in (i + 2) L) (h3 : vp_in (i + 3) L) (h4 : vp_in (i + 4) L) (hu : iv u) (hri : ri u) (ht : REL u) (K : ∀ u', iv u' → ri u' → REL u' → uk_G G X mL 12 lw_q 1230 [(0, .ref b), (1, .ref (uk_ad G 0)), (2, .ref (uk_ad G 60)), (3, .int i)] [] u') : uk_G G X mL 12 lw_q 1207 [(0, .ref b), (1, .ref (uk_ad G 0)), (2, .ref (uk_ad G 60)), (3, .int i)] [] u := by
  have hts : u.1 2 1 = u.1 60 13 := ht.2.2.2.2.1.1
  have htp : cpy (u.1 3) (u.1 69) (u.1 2 1) := ht.2.2.2.2.1.2.1
  refine g_aload_n dL_law_1207 rfl ?_
  refine g_aload_n dL_law_1208 rfl ?_
  refine g_iload_n dL_law_1209 rfl ?_
  refine g_iconst (v := 1) dL_law_1210 (by decide) ?_
  refine g_iadd dL_law_1211 ?_
  refine g_sld hX h1 dL_law_1212 ?_
  refine cl_L_159 (c := 0) (As := [.int (xs (i + 1).toNatClampNeg)]) rfl (x_X6_count (G := G) hs hu (xs (i + 1).toNatClampNeg) 9) rfl (by decide) rfl rfl (Nat.le_of_ble_eq_true rfl) dL_law_1213 (fun r1 u1 q1 => ?_)
  obtain ⟨q1, E1⟩ := q1
  obtain ⟨⟨x1, rfl, t1⟩, m1⟩ := q1
  rw [m1]
  refine g_pop dL_law_1216 rfl ?_
  refine g_aload_n dL_law_1217 rfl ?_
  refine g_aload_n dL_law_1218 rfl ?_
  refine g_iload_n dL_law_1219 rfl ?_
  refine g_iconst (v := 1) dL_law_1220 (by decide) ?_
  refine g_iadd dL_law_1221 ?_
  refine g_sld hX h1 dL_law_1222 ?_
  refine cl_L_162 (c := 60) (As := [.int (xs (i + 1).toNatClampNeg)]) rfl (x_X7_count (G := G) hs hu hri (xs (i + 1).toNatClampNeg) 9) rfl (by decide) rfl rfl (Nat.le_of_ble_eq_true rfl) dL_law_1223 (fun r2 u2 q2 => ?_)
  obtain ⟨q2, E2⟩ := q2
  obtain ⟨⟨x2, rfl, t2⟩, m2⟩ := q2
  obtain ⟨hv2, g2, ri2⟩ := m2
  have ht2 : REL u2 := REL_fk ht g2 (by decide) (by decide)
  refine g_pop dL_law_1226 rfl ?_
  refine g_goto (tgt := 1230) dL_law_1227 (by decide) ?_
  exact K u2 hv2 ri2 ht2
set_option maxHeartbeats 4000000 in
theorem lw_loop {G : uk_D} {X : uk_Cx} {b L : Nat} {xs : Nat → Int32} (hs : uk_Sep G) (hX : lw_scr G X b L xs) (hL : L ≤ 2560) : ∀ i : Int32, 0 ≤ i → i ≤ 2565 → ∀ u, iv u → ri u → REL u → uk_G G X mL 12 lw_q 18 [(0, .ref b), (1, .ref (uk_ad G 0)), (2, .ref (uk_ad G 60)), (3, .int i)] [] u := by
  refine uk_ups 2565 ?_
  intro i a0 a1 ih u hu hri ht
  refine g_iload_n dL_law_18 rfl ?_
  refine g_aload_n dL_law_19 rfl ?_
  refine g_scl hX dL_law_20 ?_
  refine g_iconst (v := 5) dL_law_21 (by decide) ?_
  refine g_isub dL_law_22 ?_
  refine g_topi (fun y ey => ?_)
  have b0 : 0 ≤ nI L := nI_pos' (by omega)
  have b1 : nI L ≤ 2560 := nI_le (a := L) (b := 2560) hL (by omega)
  have e1 : y = nI L - 5 := ey
  clear ey
  generalize hl : nI L = l at *
  refine g_icmp_gt (tgt := 1236) dL_law_23 (by decide) (fun c => ?_) (fun c => ?_)
  · refine g_iconst (v := 1) dL_law_1236 (by decide) ?_
    exact g_iret (ty := .boolean) dL_law_1237 rfl rfl rfl
  · have v0 : vp_in i L := lw_vin a0 (by rw [hl]; lia) (by omega)
    have v1 : vp_in (i + 1) L := lw_vin (by lia) (by rw [hl]; lia) (by omega)
    have v2 : vp_in (i + 2) L := lw_vin (by lia) (by rw [hl]; lia) (by omega)
    have v3 : vp_in (i + 3) L := lw_vin (by lia) (by rw [hl]; lia) (by omega)
    have v4 : vp_in (i + 4) L := lw_vin (by lia) (by rw [hl]; lia) (by omega)
    have K : ∀ u', iv u' → ri u' → REL u' → uk_G G X mL 12 lw_q 1230 [(0, .ref b), (1, .ref (uk_ad G 0)), (2, .ref (uk_ad G 60)), (3, .int i)] [] u' := by
      intro u' k1 k2 k3
      refine g_iinc (v := i + 5) dL_law_1230 rfl rfl (by decide) ?_
      refine g_goto (tgt := 18) dL_law_1233 (by decide) ?_
      refine g_pick (lv' := [(0, .ref b), (1, .ref (uk_ad G 0)), (2, .ref (uk_ad G 60)), (3, .int (i + 5))]) [0, 1, 2, 3] rfl ?_
      exact ih (i + 5) (by lia) (by lia) u' k1 k2 k3
    refine g_aload_n dL_law_26 rfl ?_
    refine g_iload_n dL_law_27 rfl ?_
    refine g_sld hX v0 dL_law_28 ?_
    refine g_bipush (v := 63) dL_law_29 (by decide) ?_
    refine g_iand dL_law_31 ?_
    refine g_topi (fun z ez => ?_)
    clear ez
    by_cases c0 : z < 0 ∨ 35 < z
    · refine g_tabOut (tgt := 1230) dL_law_32 (uk_swo 0 35 rfl rfl c0) (by decide) ?_
      exact K u hu hri ht
    · obtain ⟨j, hj, rfl⟩ := nI_of2 (x := z) (M := 35) (n := 35) rfl (fun q => c0 (Or.inl q)) (by lia)
      rcases (show j = 0 ∨ j = 1 ∨ j = 2 ∨ j = 3 ∨ j = 4 ∨ j = 5 ∨ j = 6 ∨ j = 7 ∨ j = 8 ∨ j = 9 ∨ j = 10 ∨ j = 11 ∨ j = 12 ∨ j = 13 ∨ j = 14 ∨ j = 15 ∨ j = 16 ∨ j = 17 ∨ j = 18 ∨ j = 19 ∨ j = 20 ∨ j = 21 ∨ j = 22 ∨ j = 23 ∨ j = 24 ∨ j = 25 ∨ j = 26 ∨ j = 27 ∨ j = 28 ∨ j = 29 ∨ j = 30 ∨ j = 31 ∨ j = 32 ∨ j = 33 ∨ j = 34 ∨ j = 35 by omega) with rfl | rfl | rfl | rfl | rfl | rfl | rfl | rfl | rfl | rfl | rfl | rfl | rfl | rfl | rfl | rfl | rfl | rfl | rfl | rfl | rfl | rfl | rfl | rfl | rfl | rfl | rfl | rfl | rfl | rfl | rfl | rfl | rfl | rfl | rfl | rfl
      · refine g_tabIn (off := 160) (tgt := 192) dL_law_32 (by decide) (by decide) rfl (by decide) ?_
        exact lw_c0 hs hX v1 v2 v3 v4 hu hri ht K
      · refine g_tabIn (off := 183) (tgt := 215) dL_law_32 (by decide) (by decide) rfl (by decide) ?_
        exact lw_c1 hs hX v1 v2 v3 v4 hu hri ht K
      · refine g_tabIn (off := 206) (tgt := 238) dL_law_32 (by decide) (by decide) rfl (by decide) ?_
        exact lw_c2 hs hX v1 v2 v3 v4 hu hri ht K
      · refine g_tabIn (off := 219) (tgt := 251) dL_law_32 (by decide) (by decide) rfl (by decide) ?_
        exact lw_c3 hs hX v1 v2 v3 v4 hu hri ht K
      · refine g_tabIn (off := 232) (tgt := 264) dL_law_32 (by decide) (by decide) rfl (by decide) ?_
        exact lw_c4 hs hX v1 v2 v3 v4 hu hri ht K
      · refine g_tabIn (off := 255) (tgt := 287) dL_law_32 (by decide) (by decide) rfl (by decide) ?_
        exact lw_c5 hs hX v1 v2 v3 v4 hu hri ht K
      · refine g_tabIn (off := 288) (tgt := 320) dL_law_32 (by decide) (by decide) rfl (by decide) ?_
        exact lw_c6 hs hX v1 v2 v3 v4 hu hri ht K
      · refine g_tabIn (off := 321) (tgt := 353) dL_law_32 (by decide) (by decide) rfl (by decide) ?_
        exact lw_c7 hs hX v1 v2 v3 v4 hu hri ht K
      · refine g_tabIn (off := 354) (tgt := 386) dL_law_32 (by decide) (by decide) rfl (by decide) ?_
        exact lw_c8 hs hX v1 v2 v3 v4 hu hri ht K
      · refine g_tabIn (off := 387) (tgt := 419) dL_law_32 (by decide) (by decide) rfl (by decide) ?_
        exact lw_c9 hs hX v1 v2 v3 v4 hu hri ht K
      · refine g_tabIn (off := 420) (tgt := 452) dL_law_32 (by decide) (by decide) rfl (by decide) ?_
        exact lw_c10 hs hX v1 v2 v3 v4 hu hri ht K
      · refine g_tabIn (off := 443) (tgt := 475) dL_law_32 (by decide) (by decide) rfl (by decide) ?_
        exact lw_c11 hs hX v1 v2 v3 v4 hu hri ht K
      · refine g_tabIn (off := 466) (tgt := 498) dL_law_32 (by decide) (by decide) rfl (by decide) ?_
        exact lw_c12 hs hX v1 v2 v3 v4 hu hri ht K
      · refine g_tabIn (off := 489) (tgt := 521) dL_law_32 (by decide) (by decide) rfl (by decide) ?_
        exact lw_c13 hs hX v1 v2 v3 v4 hu hri ht K
      · refine g_tabIn (off := 512) (tgt := 544) dL_law_32 (by decide) (by decide) rfl (by decide) ?_
        exact lw_c14 hs hX v1 v2 v3 v4 hu hri ht K
      · refine g_tabIn (off := 545) (tgt := 577) dL_law_32 (by decide) (by decide) rfl (by decide) ?_
        exact lw_c15 hs hX v1 v2 v3 v4 hu hri ht K
      · refine g_tabIn (off := 568) (tgt := 600) dL_law_32 (by decide) (by decide) rfl (by decide) ?_
        exact lw_c16 hs hX v1 v2 v3 v4 hu hri ht K
      · refine g_tabIn (off := 601) (tgt := 633) dL_law_32 (by decide) (by decide) rfl (by decide) ?_
        exact lw_c17 hs hX v1 v2 v3 v4 hu hri ht K
      · refine g_tabIn (off := 634) (tgt := 666) dL_law_32 (by decide) (by decide) rfl (by decide) ?_
        exact lw_c18 hs hX v1 v2 v3 v4 hu hri ht K
      · refine g_tabIn (off := 677) (tgt := 709) dL_law_32 (by decide) (by decide) rfl (by decide) ?_
        exact lw_c19 hs hX v1 v2 v3 v4 hu hri ht K
      · refine g_tabIn (off := 710) (tgt := 742) dL_law_32 (by decide) (by decide) rfl (by decide) ?_
        exact lw_c20 hs hX v1 v2 v3 v4 hu hri ht K
      · refine g_tabIn (off := 733) (tgt := 765) dL_law_32 (by decide) (by decide) rfl (by decide) ?_
        exact lw_c21 hs hX v1 v2 v3 v4 hu hri ht K
      · refine g_tabIn (off := 786) (tgt := 818) dL_law_32 (by decide) (by decide) rfl (by decide) ?_
        exact lw_c22 hs hX v1 v2 v3 v4 hu hri ht K
      · refine g_tabIn (off := 819) (tgt := 851) dL_law_32 (by decide) (by decide) rfl (by decide) ?_
        exact lw_c23 hs hX v1 v2 v3 v4 hu hri ht K
      · refine g_tabIn (off := 852) (tgt := 884) dL_law_32 (by decide) (by decide) rfl (by decide) ?_
        exact lw_c24 hs hX v1 v2 v3 v4 hu hri ht K
      · refine g_tabIn (off := 875) (tgt := 907) dL_law_32 (by decide) (by decide) rfl (by decide) ?_
        exact lw_c25 hs hX v1 v2 v3 v4 hu hri ht K
      · refine g_tabIn (off := 898) (tgt := 930) dL_law_32 (by decide) (by decide) rfl (by decide) ?_
        exact lw_c26 hs hX v1 v2 v3 v4 hu hri ht K
      · refine g_tabIn (off := 911) (tgt := 943) dL_law_32 (by decide) (by decide) rfl (by decide) ?_
        exact lw_c27 hs hX v1 v2 v3 v4 hu hri ht K
      · refine g_tabIn (off := 934) (tgt := 966) dL_law_32 (by decide) (by decide) rfl (by decide) ?_
        exact lw_c28 hs hX v1 v2 v3 v4 hu hri ht K
      · refine g_tabIn (off := 977) (tgt := 1009) dL_law_32 (by decide) (by decide) rfl (by decide) ?_
        exact lw_c29 hs hX v1 v2 v3 v4 hu hri ht K
      · refine g_tabIn (off := 1000) (tgt := 1032) dL_law_32 (by decide) (by decide) rfl (by decide) ?_
        exact lw_c30 hs hX v1 v2 v3 v4 hu hri ht K
      · refine g_tabIn (off := 1023) (tgt := 1055) dL_law_32 (by decide) (by decide) rfl (by decide) ?_
        exact lw_c31 hs hX v1 v2 v3 v4 hu hri ht K
      · refine g_tabIn (off := 1066) (tgt := 1098) dL_law_32 (by decide) (by decide) rfl (by decide) ?_
        exact lw_c32 hs hX v1 v2 v3 v4 hu hri ht K
      · refine g_tabIn (off := 1109) (tgt := 1141) dL_law_32 (by decide) (by decide) rfl (by decide) ?_
        exact lw_c33 hs hX v1 v2 v3 v4 hu hri ht K
      · refine g_tabIn (off := 1162) (tgt := 1194) dL_law_32 (by decide) (by decide) rfl (by decide) ?_
        exact lw_c34 hs hX v1 v2 v3 v4 hu hri ht K
      · refine g_tabIn (off := 1175) (tgt := 1207) dL_law_32 (by decide) (by decide) rfl (by decide) ?_
        exact lw_c35 hs hX v1 v2 v3 v4 hu hri ht K

