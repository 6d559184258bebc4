/-! does, and the calls that change one number -/
theorem starts_o {u : uk_Mem} {j : Nat} (h : 51 ≤ j) : (e_X7_starts u).1 62 j = u.1 62 j := ((starts_l ee_K 0 u (ee_F0 _ _) (by decide) (by decide)).2.2 j).trans (if_neg (by omega))
theorem iv_starts {v : uk_Mem} (hv : iv v) : iv (e_X7_starts v) := fun c i => by
  by_cases hc : c = 62
  · subst hc
    by_cases hi : i < 51
    · rw [starts_j hi, sg_t5 i hi]
      exact hv 61 i
    · rw [starts_o (by omega)]
      exact hv 62 i
  · rw [starts_c hc]
    exact hv c i
theorem ra_starts {v : uk_Mem} (hri : ri v) : ra (e_X7_starts v) := ra_of hri (by rw [starts_c (by decide)]) (starts_c (by decide)) (starts_c (by decide)) (fun i i0 i1 => starts_j (by have := uk_cln 50 50 rfl i0 (by lia); omega))
theorem hasStuff_e {u v : uk_Mem} {b : Nat} {m : Int32} (k0 : u.1 b 0 = v.1 60 3) (hn : 0 ≤ v.1 60 3 ∧ v.1 60 3 ≤ 8) : e_X0_hasStuff u b m = e_X7_isStuff v m := by
  unfold e_X0_hasStuff e_X7_isStuff e_X7_in
  dsimp only
  rw [k0]
  generalize v.1 60 3 = n at *
  grind
theorem isStuff_n {v : uk_Mem} {m : Int32} (hn : 0 ≤ v.1 60 3 ∧ v.1 60 3 ≤ 8) (h : ¬ e_X7_isStuff v m = 0) : 0 ≤ m ∧ m < v.1 60 3 := by
  unfold e_X7_isStuff e_X7_in at h
  dsimp only at h
  generalize v.1 60 3 = n at *
  grind
theorem hasDoing_e {u v : uk_Mem} {b : Nat} {g : Int32} (k0 : u.1 b 0 = v.1 60 3) (hn : 0 ≤ v.1 60 3 ∧ v.1 60 3 ≤ 8) : e_X0_hasDoing u b g = e_X7_isDoing v g := by
  rw [isDoing_e hn]
  unfold e_X0_hasDoing e_X0_hasStuff e_X6_stuffOf
  dsimp only
  rw [k0]
  generalize v.1 60 3 = n at *
  grind
theorem canCook_k {v : uk_Mem} {m : Int32} (h : ¬ e_X7_canCook v m = 0) (h0 : 0 ≤ m) (h7 : m ≤ 7) : ¬ v.1 62 (m.toNatClampNeg + 32) = 4 := fun q => h (by
  unfold e_X7_canCook
  dsimp only
  rw [ix_32 h0 h7, if_pos q])
theorem canTurn_k {v : uk_Mem} {m : Int32} (h : ¬ e_X7_canTurn v m = 0) (h0 : 0 ≤ m) (h7 : m ≤ 7) : ¬ v.1 62 (m.toNatClampNeg + 32) = 4 := fun q => h (by
  unfold e_X7_canTurn
  dsimp only
  rw [ix_32 h0 h7, if_pos q])
theorem doIt_c {v : uk_Mem} {g : Int32} {d : Nat} (hd : ¬ d = 62) : (e_X7_doIt v g).1 d = v.1 d := by
  unfold e_X7_doIt
  split
  · exact da_c hd
  · exact db_c hd
/-- a doing that can be done, in a kitchen and in the reference's own row -/
theorem KR_do {u v : uk_Mem} {b : Nat} {g : Int32} (hv : iv v) (hra : ra v) (hK : KR u v b 62 0) (hd : ¬ e_X7_isDoing v g = 0) (hc : ¬ e_X7_canDo v g = 0) : KR (e_X0_perform u b g) (e_X7_doIt v g) b 62 0 := by
  have hn : 0 ≤ v.1 60 3 ∧ v.1 60 3 ≤ 8 := iv_at hv 60 3 rfl
  have hdo : (0 ≤ g ∧ g < v.1 60 3) ∨ (10 ≤ g ∧ g - 10 < v.1 60 3) := Classical.byContradiction fun q => hd (by rw [isDoing_e hn, if_neg q])
  unfold e_X7_canDo at hc
  dsimp only at hc
  rcases hdo with q | q
  · rw [if_neg (by lia)] at hc
    exact KR_cook hv hra hK q.1 q.2 (canCook_k hc q.1 (by lia))
  · rw [if_pos q.1] at hc
    exact KR_turn hv hra hK q.1 q.2 (canTurn_k hc (by lia) (by lia))
theorem does_e {u v : uk_Mem} {g : Int32} (hv : iv v) (hri : ri v) (hK : KR u v 13 61 0) : (e_X6_does u g).1 = (e_X7_does v g).1 ∧ KR (e_X6_does u g).2 (e_X7_does v g).2 13 61 0 := by
  have hn : 0 ≤ v.1 60 3 ∧ v.1 60 3 ≤ 8 := iv_at hv 60 3 rfl
  have s8 : v.1 61 42 ≤ 8 := (sg_42 hv (c := 61) (by unfold uk_is51; decide)).2
  have hv7 := iv_starts hv
  have hra7 := ra_starts hri
  have n60 : (e_X7_starts v).1 60 3 = v.1 60 3 := by rw [starts_c (by decide)]
  have K7 : KR u (e_X7_starts v) 13 62 0 := KR_row hK hn.2 s8 n60 (fun j hj => starts_j hj) (starts_c (by decide)) (starts_c (by decide))
  have hd7 : e_X7_isDoing (e_X7_starts v) g = e_X7_isDoing v g := by rw [isDoing_e hn, isDoing_e (by rw [n60]; exact hn), n60]
  unfold e_X6_does e_X7_does
  dsimp only
  rw [hasDoing_e hK.1 hn]
  by_cases h1 : e_X7_isDoing v g = 0
  · rw [if_pos h1, if_pos h1]
    exact ⟨rfl, hK⟩
  · rw [if_neg h1, if_neg h1]
    have ha := able_e hv7 hra7 K7 (g := g)
    rw [hd7, if_neg h1] at ha
    rw [ha]
    by_cases h2 : e_X7_canDo (e_X7_starts v) g = 0
    · rw [if_pos h2, if_pos h2]
      exact ⟨rfl, KR_cg hK (fun _ _ _ => rfl) n60 (starts_c (by decide)) (starts_c (by decide)) (starts_c (by decide))⟩
    · rw [if_neg h2, if_neg h2]
      have K8 := KR_do hv7 hra7 K7 (by rw [hd7]; exact h1) h2
      have c60 : (e_X7_doIt (e_X7_starts v) g).1 60 3 = v.1 60 3 := by rw [doIt_c (by decide), n60]
      have p9 : (e_X0_perform u 13 g).1 13 9 = u.1 13 9 := by
        by_cases q : g < 10
        · rw [pf_lo q, if_neg (by omega), mc_c (by omega)]
        · rw [pf_hi q, if_neg (by omega), fh_c (by omega), mt_c (by omega)]
      have c42 : (e_X7_doIt (e_X7_starts v) g).1 62 (0 + 42) ≤ 8 := by rw [← K8.2.1, p9, hK.2.1]; exact s8
      have K9 : KR (e_X0_perform u 13 g) (e_X7_ends (e_X7_doIt (e_X7_starts v) g)) 13 61 0 := KR_row K8 (by rw [c60]; exact hn.2) c42 (by rw [ends_c (by decide)]) (fun j hj => ends_j hj) (ends_c (by decide)) (ends_c (by decide))
      refine ⟨?_, K9⟩
      have hdo : (0 ≤ g ∧ g < v.1 60 3) ∨ (10 ≤ g ∧ g - 10 < v.1 60 3) := Classical.byContradiction fun q => h1 (by rw [isDoing_e hn, if_neg q])
      have e60 : (e_X7_ends (e_X7_doIt (e_X7_starts v) g)).1 60 3 = v.1 60 3 := by rw [ends_c (by decide), c60]
      dsimp only
      rcases hdo with q | q
      · rw [show ∀ w, e_X6_stuffOf w g = g from fun w => if_pos (by lia), rm_lo q.1 (by lia), ix_0]
        exact (K9.2.2.2.2.1 g.toNatClampNeg (by rw [e60]; exact uk_cll q.1 q.2)).2.2.1
      · rw [show ∀ w, e_X6_stuffOf w g = g - 10 from fun w => if_neg (by lia), rm_hi q.1 (by lia), ix_0]
        exact (K9.2.2.2.2.1 (g - 10).toNatClampNeg (by rw [e60]; exact uk_cll (by lia) q.2)).2.2.1
theorem KR_p {u v : uk_Mem} {i : Nat} {x : Int32} (hK : KR u v 13 61 0) (n8 : (v.1 60 3).toNatClampNeg ≤ 8) (s8 : (v.1 61 42).toNatClampNeg ≤ 8) (hi : i < 8) : KR (uk_up u 19 i x) (uk_up v 61 i x) 13 61 0 := by
  obtain ⟨k0, k9, k10, k11, kj, ks⟩ := hK
  have er : ∀ j, 8 ≤ j → (uk_up v 61 i x).1 61 j = v.1 61 j := fun j hj => by rw [uk_up_at, if_neg (by omega)]
  refine ⟨by rw [uk_up_oc (by decide), uk_up_oc (by decide)]; exact k0, by rw [uk_up_oc (by decide), er _ (by omega)]; exact k9, by rw [uk_up_oc (by decide), er _ (by omega)]; exact k10, by rw [uk_up_oc (by decide), er _ (by omega)]; exact k11, fun j hj => ?_, fun j hj => ?_⟩
  · rw [uk_up_oc (by decide)] at hj
    obtain ⟨j1, j2, j3, j4, j5, j6⟩ := kj j hj
    unfold KJ
    rw [er (j + (0 + 32)) (by omega), er (j + (0 + 16)) (by omega), er (j + (0 + 8)) (by omega), er (j + (0 + 24)) (by omega), uk_up_oc (b := 13 + 1) (by decide), uk_up_oc (b := 13 + 2) (by decide), uk_up_oc (b := 13 + 3) (by decide), uk_up_oc (b := 13 + 4) (by decide), uk_up_oc (b := 13 + 5) (by decide), uk_up_oc (b := 13 + 7) (by decide), uk_up_oc (b := 64) (by decide), uk_up_oc (b := 65) (by decide)]
    refine ⟨j1, j2, ?_, j4, j5, j6⟩
    rw [uk_up_at, uk_up_at]
    simp only [Nat.add_zero, Nat.reduceAdd, true_and]
    simp only [Nat.add_zero, Nat.reduceAdd] at j3
    rw [j3]
  · rw [er _ (by omega)] at hj
    rw [uk_up_oc (by decide), er _ (by omega)]
    exact ks j hj
theorem fill_e {u v : uk_Mem} {m n : Int32} (hv : iv v) (hK : KR u v 13 61 0) : (e_X6_fill u m n).1 = (e_X7_fill v m n).1 ∧ KR (e_X6_fill u m n).2 (e_X7_fill v m n).2 13 61 0 := by
  have hn : 0 ≤ v.1 60 3 ∧ v.1 60 3 ≤ 8 := iv_at hv 60 3 rfl
  have n8 := uk_cln 8 8 rfl hn.1 hn.2
  have s := sg_42 hv (c := 61) (by unfold uk_is51; decide)
  have s8 := uk_cln 8 8 rfl s.1 s.2
  unfold e_X6_fill e_X7_fill e_X7_becomes
  dsimp only
  rw [hasStuff_e hK.1 hn, ix_0]
  by_cases h1 : e_X7_isStuff v m = 0
  · rw [if_pos h1, if_pos h1]
    exact ⟨rfl, hK⟩
  · rw [if_neg h1, if_neg h1]
    have hm := isStuff_n hn h1
    have hl := uk_cll hm.1 hm.2
    by_cases h2 : 0 ≤ n ∧ n ≤ 40
    · rw [if_neg (by lia), if_pos h2.2, show e_X7_in v n 0 40 = 1 from if_pos h2, if_neg (by decide)]
      exact ⟨(hK.2.2.2.2.1 _ hl).2.2.1, KR_p hK n8 s8 (by omega)⟩
    · rw [show e_X7_in v n 0 40 = 0 from if_neg h2, if_pos rfl]
      by_cases h3 : n < 0
      · rw [if_pos h3]
        exact ⟨rfl, hK⟩
      · rw [if_neg h3, if_neg (by lia)]
        exact ⟨rfl, hK⟩
