/-! the other calls that change one number -/
theorem KR_set {u v : uk_Mem} {i a o : Nat} {x : Int32} (hK : KR u v 13 61 0) (n8 : (v.1 60 3).toNatClampNeg ≤ 8) (s8 : (v.1 61 42).toNatClampNeg ≤ 8) (hi : i < 8) (hc : (a = 4 ∧ o = 16) ∨ (a = 5 ∧ o = 24) ∨ (a = 1 ∧ o = 32 ∧ ¬ x = 4 ∧ ¬ v.1 61 (i + 32) = 4)) : KR (uk_up u (13 + a) i x) (uk_up v 61 (i + o) x) 13 61 0 := by
  obtain ⟨k0, k9, k10, k11, kj, ks⟩ := hK
  have eu : ∀ d, ¬ d = 13 + a → (uk_up u (13 + a) i x).1 d = u.1 d := fun d h => uk_up_oc h
  have ev : ∀ d, ¬ d = 61 → (uk_up v 61 (i + o) x).1 d = v.1 d := fun d h => uk_up_oc h
  have er : ∀ j, ¬ j = i + o → (uk_up v 61 (i + o) x).1 61 j = v.1 61 j := fun j h => by rw [uk_up_at, if_neg (fun z => h z.2)]
  have es : (uk_up v 61 (i + o) x).1 61 (i + o) = x := by rw [uk_up_at, if_pos ⟨rfl, rfl⟩]
  have ec : ∀ j, (uk_up u (13 + a) i x).1 (13 + a) j = if j = i then x else u.1 (13 + a) j := fun j => by rw [uk_up_at]; simp
  refine ⟨by rw [eu _ (by omega), ev _ (by omega)]; exact k0, by rw [eu _ (by omega), er _ (by omega)]; exact k9, by rw [eu _ (by omega), er _ (by omega)]; exact k10, by rw [eu _ (by omega), er _ (by omega)]; exact k11, fun j hj => ?_, fun j hj => ?_⟩
  · rw [ev _ (by omega)] at hj
    obtain ⟨j1, j2, j3, j4, j5, j6⟩ := kj j hj
    unfold KJ
    rw [ev 64 (by omega), ev 65 (by omega)]
    rcases hc with ⟨rfl, rfl⟩ | ⟨rfl, rfl⟩ | ⟨rfl, rfl, hx, hy⟩
    · rw [eu (13 + 1) (by omega), eu (13 + 2) (by omega), eu (13 + 3) (by omega), eu (13 + 5) (by omega), eu (13 + 6) (by omega), eu (13 + 7) (by omega), er (j + (0 + 32)) (by omega), er (j + 0) (by omega), er (j + (0 + 8)) (by omega), er (j + (0 + 24)) (by omega)]
      refine ⟨j1, ?_, j3, j4, j5, j6⟩
      by_cases q : j = i
      · subst q
        rw [ec, if_pos rfl]
        exact es.symm
      · rw [ec, if_neg q, er _ (by omega)]
        exact j2
    · rw [eu (13 + 1) (by omega), eu (13 + 2) (by omega), eu (13 + 3) (by omega), eu (13 + 4) (by omega), eu (13 + 6) (by omega), eu (13 + 7) (by omega), er (j + (0 + 32)) (by omega), er (j + (0 + 16)) (by omega), er (j + 0) (by omega), er (j + (0 + 8)) (by omega)]
      refine ⟨j1, j2, j3, j4, fun z => ⟨?_, (j5 z).2⟩, j6⟩
      by_cases q : j = i
      · subst q
        rw [ec, if_pos rfl]
        exact es.symm
      · rw [ec, if_neg q, er _ (by omega)]
        exact (j5 z).1
    · rw [eu (13 + 2) (by omega), eu (13 + 3) (by omega), eu (13 + 4) (by omega), eu (13 + 5) (by omega), eu (13 + 6) (by omega), eu (13 + 7) (by omega), er (j + (0 + 16)) (by omega), er (j + 0) (by omega), er (j + (0 + 8)) (by omega), er (j + (0 + 24)) (by omega)]
      by_cases q : j = i
      · subst q
        have e1 : (uk_up v 61 (j + 32) x).1 61 (j + (0 + 32)) = x := es
        rw [ec, if_pos rfl, e1]
        exact ⟨rfl, j2, j3, j4, fun z => absurd z hx, fun _ => j6 hy⟩
      · rw [ec, if_neg q, er (j + (0 + 32)) (by omega)]
        exact ⟨j1, j2, j3, j4, j5, j6⟩
  · rw [er _ (by omega)] at hj
    rw [eu _ (by omega), er _ (by omega)]
    exact ks j hj
theorem KR_fed {u v : uk_Mem} {x : Int32} (hK : KR u v 13 61 0) (n8 : (v.1 60 3).toNatClampNeg ≤ 8) : KR (uk_up u 13 10 x) (uk_up v 61 40 x) 13 61 0 := by
  obtain ⟨k0, k9, k10, k11, kj, ks⟩ := hK
  have er : ∀ j, ¬ j = 40 → (uk_up v 61 40 x).1 61 j = v.1 61 j := fun j h => by rw [uk_up_at, if_neg (fun z => h z.2)]
  have eu : ∀ d, ¬ d = 13 → (uk_up u 13 10 x).1 d = u.1 d := fun d h => uk_up_oc h
  have ev : ∀ d, ¬ d = 61 → (uk_up v 61 40 x).1 d = v.1 d := fun d h => uk_up_oc h
  have e0 : ∀ j, ¬ j = 10 → (uk_up u 13 10 x).1 13 j = u.1 13 j := fun j h => by rw [uk_up_at, if_neg (fun z => h z.2)]
  refine ⟨by rw [e0 _ (by omega), ev _ (by omega)]; exact k0, by rw [e0 _ (by omega), er _ (by omega)]; exact k9, ?_, by rw [e0 _ (by omega), er _ (by omega)]; exact k11, fun j hj => ?_, fun j hj => ?_⟩
  · rw [uk_up_at, if_pos ⟨rfl, rfl⟩, uk_up_at, if_pos ⟨rfl, rfl⟩]
  · rw [ev _ (by omega)] at hj
    unfold KJ
    rw [eu (13 + 1) (by omega), eu (13 + 2) (by omega), eu (13 + 3) (by omega), eu (13 + 4) (by omega), eu (13 + 5) (by omega), eu (13 + 6) (by omega), eu (13 + 7) (by omega), er (j + (0 + 32)) (by omega), er (j + (0 + 16)) (by omega), er (j + 0) (by omega), er (j + (0 + 8)) (by omega), er (j + (0 + 24)) (by omega), ev 64 (by omega), ev 65 (by omega)]
    exact kj j hj
  · rw [er _ (by omega)] at hj
    rw [eu _ (by omega), er _ (by omega)]
    exact ks j hj
theorem KR_seen {u v : uk_Mem} {n : Int32} (hK : KR u v 13 61 0) (n8 : (v.1 60 3).toNatClampNeg ≤ 8) (hn : ∀ i, i < n.toNatClampNeg → u.1 21 i = v.1 61 (i + 43)) : KR (uk_up u 13 9 n) (uk_up v 61 42 n) 13 61 0 := by
  obtain ⟨k0, k9, k10, k11, kj, ks⟩ := hK
  have er : ∀ j, ¬ j = 42 → (uk_up v 61 42 n).1 61 j = v.1 61 j := fun j h => by rw [uk_up_at, if_neg (fun z => h z.2)]
  have eu : ∀ d, ¬ d = 13 → (uk_up u 13 9 n).1 d = u.1 d := fun d h => uk_up_oc h
  have ev : ∀ d, ¬ d = 61 → (uk_up v 61 42 n).1 d = v.1 d := fun d h => uk_up_oc h
  have e0 : ∀ j, ¬ j = 9 → (uk_up u 13 9 n).1 13 j = u.1 13 j := fun j h => by rw [uk_up_at, if_neg (fun z => h z.2)]
  have e42 : (uk_up v 61 42 n).1 61 (0 + 42) = n := by rw [uk_up_at, if_pos ⟨rfl, rfl⟩]
  refine ⟨by rw [e0 _ (by omega), ev _ (by omega)]; exact k0, ?_, by rw [e0 _ (by omega), er _ (by omega)]; exact k10, by rw [e0 _ (by omega), er _ (by omega)]; exact k11, fun j hj => ?_, fun j hj => ?_⟩
  · rw [e42, uk_up_at, if_pos ⟨rfl, rfl⟩]
  · rw [ev _ (by omega)] at hj
    unfold KJ
    rw [eu (13 + 1) (by omega), eu (13 + 2) (by omega), eu (13 + 3) (by omega), eu (13 + 4) (by omega), eu (13 + 5) (by omega), eu (13 + 6) (by omega), eu (13 + 7) (by omega), er (j + (0 + 32)) (by omega), er (j + (0 + 16)) (by omega), er (j + 0) (by omega), er (j + (0 + 8)) (by omega), er (j + (0 + 24)) (by omega), ev 64 (by omega), ev 65 (by omega)]
    exact kj j hj
  · rw [e42] at hj
    rw [eu _ (by omega), er _ (by omega)]
    exact hn j hj
theorem isRaw_e {u v : uk_Mem} {m : Int32} (h0 : 0 ≤ m) (h7 : m ≤ 7) (h : u.1 14 m.toNatClampNeg = v.1 61 (m.toNatClampNeg + 32)) : e_X0_isMade u 13 m = 0 ↔ ¬ e_X7_isRaw v m = 0 := by
  unfold e_X0_isMade e_X7_isRaw
  dsimp only
  rw [ix_32 h0 h7, show u.1 (13 + 1) m.toNatClampNeg = u.1 14 m.toNatClampNeg from rfl, h]
  by_cases q : v.1 61 (m.toNatClampNeg + 32) = 4
  · simp [q]
  · simp [q]
theorem digit_e {u v : uk_Mem} {n : Int32} : e_X6_isDigit u n = e_X7_in v n 0 9 := by
  unfold e_X6_isDigit e_X7_in
  grind
theorem feeds_e {u v : uk_Mem} {m n : Int32} (hv : iv v) (hK : KR u v 13 61 0) : (e_X6_feeds u m n).1 = (e_X7_feeds v m n).1 ∧ KR (e_X6_feeds u m n).2 (e_X7_feeds v m n).2 13 61 0 := by
  have hn : 0 ≤ v.1 60 3 ∧ v.1 60 3 ≤ 8 := iv_at hv 60 3 rfl
  have n8 := uk_cln 8 8 rfl hn.1 hn.2
  have s := sg_42 hv (c := 61) (by unfold uk_is51; decide)
  have s8 := uk_cln 8 8 rfl s.1 s.2
  unfold e_X6_feeds e_X7_feeds e_X7_becomes
  dsimp only
  rw [hasStuff_e hK.1 hn, digit_e (v := v)]
  by_cases h1 : e_X7_isStuff v m = 0
  · rw [if_pos h1, if_pos h1]
    exact ⟨rfl, hK⟩
  · rw [if_neg h1, if_neg h1]
    have hm := isStuff_n hn h1
    have hl := uk_cll hm.1 hm.2
    rw [ix_16 hm.1 (by lia)]
    by_cases h2 : e_X7_in v n 0 9 = 0
    · rw [if_pos h2, if_pos h2]
      exact ⟨rfl, hK⟩
    · rw [if_neg h2, if_neg h2]
      exact ⟨(hK.2.2.2.2.1 _ hl).2.1, KR_set (a := 4) (o := 16) hK n8 s8 (by omega) (Or.inl ⟨rfl, rfl⟩)⟩
theorem price_e {u v : uk_Mem} {m n : Int32} (hv : iv v) (hK : KR u v 13 61 0) : (e_X6_price u m n).1 = (e_X7_price v m n).1 ∧ KR (e_X6_price u m n).2 (e_X7_price v m n).2 13 61 0 := by
  have hn : 0 ≤ v.1 60 3 ∧ v.1 60 3 ≤ 8 := iv_at hv 60 3 rfl
  have n8 := uk_cln 8 8 rfl hn.1 hn.2
  have s := sg_42 hv (c := 61) (by unfold uk_is51; decide)
  have s8 := uk_cln 8 8 rfl s.1 s.2
  unfold e_X6_price e_X7_price e_X7_becomes
  dsimp only
  rw [hasStuff_e hK.1 hn, digit_e (v := v)]
  by_cases h1 : e_X7_isStuff v m = 0
  · rw [if_pos h1, if_pos h1]
    exact ⟨rfl, hK⟩
  · rw [if_neg h1, if_neg h1]
    have hm := isStuff_n hn h1
    have hl := uk_cll hm.1 hm.2
    have hj := hK.2.2.2.2.1 _ hl
    have hw := isRaw_e (u := u) (v := v) hm.1 (by lia) hj.1
    rw [ix_24 hm.1 (by lia)]
    by_cases h2 : e_X7_in v n 0 9 = 0
    · rw [if_pos h2, if_pos h2]
      exact ⟨rfl, hK⟩
    · rw [if_neg h2, if_neg h2]
      by_cases h3 : e_X7_isRaw v m = 0
      · rw [if_pos h3, if_neg (fun z => hw.mp z h3)]
        exact ⟨rfl, hK⟩
      · rw [if_neg h3, if_pos (hw.mpr h3)]
        have h4 : v.1 61 (m.toNatClampNeg + (0 + 32)) = 4 := by
          unfold e_X7_isRaw at h3
          dsimp only at h3
          rw [ix_32 hm.1 (by lia)] at h3
          exact Classical.byContradiction fun q => h3 (if_neg q)
        exact ⟨(hj.2.2.2.2.1 h4).1, KR_set (a := 5) (o := 24) hK n8 s8 (by omega) (Or.inr (Or.inl ⟨rfl, rfl⟩))⟩
theorem kind_e {u v : uk_Mem} {m n : Int32} (hv : iv v) (hK : KR u v 13 61 0) : (e_X6_kind u m n).1 = (e_X7_kind v m n).1 ∧ KR (e_X6_kind u m n).2 (e_X7_kind v m n).2 13 61 0 := by
  have hn : 0 ≤ v.1 60 3 ∧ v.1 60 3 ≤ 8 := iv_at hv 60 3 rfl
  have n8 := uk_cln 8 8 rfl hn.1 hn.2
  have s := sg_42 hv (c := 61) (by unfold uk_is51; decide)
  have s8 := uk_cln 8 8 rfl s.1 s.2
  unfold e_X6_kind e_X7_kind e_X7_becomes
  dsimp only
  rw [hasStuff_e hK.1 hn]
  by_cases h1 : e_X7_isStuff v m = 0
  · rw [if_pos h1, if_pos h1]
    exact ⟨rfl, hK⟩
  · rw [if_neg h1, if_neg h1]
    have hm := isStuff_n hn h1
    have hl := uk_cll hm.1 hm.2
    have hj := hK.2.2.2.2.1 _ hl
    have hw := isRaw_e (u := u) (v := v) hm.1 (by lia) hj.1
    rw [ix_32 hm.1 (by lia)]
    by_cases h2 : 0 ≤ n ∧ n ≤ 3
    · rw [if_neg (by lia), if_pos h2.2, show e_X7_in v n 0 3 = 1 from if_pos h2, if_neg (c := (1 : Int32) = 0) (by decide)]
      by_cases h3 : e_X7_isRaw v m = 0
      · rw [if_pos h3, if_neg (fun z => hw.mp z h3)]
        have h4 : ¬ v.1 61 (m.toNatClampNeg + 32) = 4 := fun q => by
          unfold e_X7_isRaw at h3
          dsimp only at h3
          rw [ix_32 hm.1 (by lia), if_pos q] at h3
          exact absurd h3 (by decide)
        exact ⟨hj.1, KR_set (a := 1) (o := 32) hK n8 s8 (by omega) (Or.inr (Or.inr ⟨rfl, rfl, by lia, h4⟩))⟩
      · rw [if_neg h3, if_pos (hw.mpr h3)]
        exact ⟨rfl, hK⟩
    · rw [show e_X7_in v n 0 3 = 0 from if_neg h2, if_pos rfl]
      by_cases h3 : n < 0
      · rw [if_pos h3]
        exact ⟨rfl, hK⟩
      · rw [if_neg h3, if_neg (by lia)]
        exact ⟨rfl, hK⟩
theorem eat_e {u v : uk_Mem} {m : Int32} (hv : iv v) (hK : KR u v 13 61 0) : (e_X6_eat u m).1 = (e_X7_eat v m).1 ∧ KR (e_X6_eat u m).2 (e_X7_eat v m).2 13 61 0 := by
  have hn : 0 ≤ v.1 60 3 ∧ v.1 60 3 ≤ 8 := iv_at hv 60 3 rfl
  have n8 := uk_cln 8 8 rfl hn.1 hn.2
  have s := sg_42 hv (c := 61) (by unfold uk_is51; decide)
  have s8 := uk_cln 8 8 rfl s.1 s.2
  unfold e_X6_eat e_X7_eat
  dsimp only
  rw [hasStuff_e hK.1 hn]
  by_cases h1 : e_X7_isStuff v m = 0
  · rw [if_pos h1, if_pos h1]
    exact ⟨rfl, hK⟩
  · rw [if_neg h1, if_neg h1]
    have hm := isStuff_n hn h1
    have hl := uk_cll hm.1 hm.2
    have hj := hK.2.2.2.2.1 _ hl
    have j3 : u.1 19 m.toNatClampNeg = v.1 61 m.toNatClampNeg := hj.2.2.1
    have j2 : u.1 17 m.toNatClampNeg = v.1 61 (m.toNatClampNeg + 16) := hj.2.1
    have k10 : u.1 13 10 = v.1 61 40 := hK.2.2.1
    rw [ix_0, ix_16 hm.1 (by lia), j3]
    by_cases h2 : v.1 61 m.toNatClampNeg = 0
    · rw [if_pos h2, if_pos h2]
      exact ⟨rfl, hK⟩
    · rw [if_neg h2, if_neg h2]
      have K1 := KR_p (i := m.toNatClampNeg) (x := v.1 61 m.toNatClampNeg - 1) hK n8 s8 (by omega)
      have e40 : (40 : Int32).toNatClampNeg = 40 := rfl
      have a1 : (uk_up u 19 m.toNatClampNeg (v.1 61 m.toNatClampNeg - 1)).1 13 10 = u.1 13 10 := by rw [uk_up_oc (by decide)]
      have a2 : (uk_up u 19 m.toNatClampNeg (v.1 61 m.toNatClampNeg - 1)).1 17 m.toNatClampNeg = u.1 17 m.toNatClampNeg := by rw [uk_up_oc (by decide)]
      have a3 : (uk_up v 61 m.toNatClampNeg (v.1 61 m.toNatClampNeg - 1)).1 61 40 = v.1 61 40 := by rw [uk_up_at, if_neg (by omega)]
      have a4 : (uk_up v 61 m.toNatClampNeg (v.1 61 m.toNatClampNeg - 1)).1 61 (m.toNatClampNeg + 16) = v.1 61 (m.toNatClampNeg + 16) := by rw [uk_up_at, if_neg (by omega)]
      rw [e40, a1, a2, a3, a4, k10, j2, uk_up_at, if_pos ⟨rfl, rfl⟩, uk_up_at, if_pos ⟨rfl, rfl⟩]
      exact ⟨rfl, KR_fed K1 (by rw [uk_up_oc (by decide)]; exact n8)⟩
theorem forget_e {u v : uk_Mem} {n : Int32} (hv : iv v) (hK : KR u v 13 61 0) : (e_X6_forget u n).1 = (e_X7_forget v n).1 ∧ KR (e_X6_forget u n).2 (e_X7_forget v n).2 13 61 0 := by
  have hn : 0 ≤ v.1 60 3 ∧ v.1 60 3 ≤ 8 := iv_at hv 60 3 rfl
  have n8 := uk_cln 8 8 rfl hn.1 hn.2
  have s := sg_42 hv (c := 61) (by unfold uk_is51; decide)
  have k9 : u.1 13 9 = v.1 61 42 := hK.2.1
  have e42 : (42 : Int32).toNatClampNeg = 42 := rfl
  unfold e_X6_forget e_X7_forget e_X7_becomes
  dsimp only
  rw [e42, k9]
  by_cases h2 : 0 ≤ n ∧ n ≤ v.1 61 42
  · rw [if_neg (by lia), if_pos h2.2, show e_X7_in v n 0 (v.1 61 42) = 1 from if_pos h2, if_neg (c := (1 : Int32) = 0) (by decide)]
    refine ⟨rfl, KR_seen hK n8 (fun i hi => hK.2.2.2.2.2 i ?_)⟩
    have := uk_cmo h2.1 h2.2
    show i < (v.1 61 (0 + 42)).toNatClampNeg
    rw [Nat.zero_add]
    omega
  · rw [show e_X7_in v n 0 (v.1 61 42) = 0 from if_neg h2, if_pos rfl]
    by_cases h3 : n < 0
    · rw [if_pos h3]
      exact ⟨rfl, hK⟩
    · rw [if_neg h3, if_neg (by lia)]
      exact ⟨rfl, hK⟩
