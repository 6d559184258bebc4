/-! the other calls that change one number -/
theorem KR_set {u v : uk_Mem} {i a o : Nat} {x : Int32} (hK : KR u v 13 61 0) (n8 : (v.1 60 3).toNatClampNeg ≤ 8) (s8 : (v.1 61 42).toNatClampNeg ≤ 8) (hi : i < 8) (hc : (a = 4 ∧ o = 16) ∨ (a = 5 ∧ o = 24) ∨ (a = 1 ∧ o = 32 ∧ ¬ x = 4 ∧ ¬ v.1 61 (i + 32) = 4)) : KR (uk_up u (13 + a) i x) (uk_up v 61 (i + o) x) 13 61 0 := by
  obtain ⟨k0, k9, k10, k11, kj, ks⟩ := hK
  have eu : ∀ d, ¬ d = 13 + a → (uk_up u (13 + a) i x).1 d = u.1 d := fun d h => uk_up_oc h
  have ev : ∀ d, ¬ d = 61 → (uk_up v 61 (i + o) x).1 d = v.1 d := fun d h => uk_up_oc h
  have er : ∀ j, ¬ j = i + o → (uk_up v 61 (i + o) x).1 61 j = v.1 61 j := fun j h => by rw [uk_up_at, if_neg (fun z => h z.2)]
  have es : (uk_up v 61 (i + o) x).1 61 (i + o) = x := by rw [uk_up_at, if_pos ⟨rfl, rfl⟩]
  have ec : ∀ j, (uk_up u (13 + a) i x).1 (13 + a) j = if j = i then x else u.1 (13 + a) j := fun j => by rw [uk_up_at]; simp
  refine ⟨by rw [eu _ (by omega), ev _ (by omega)]; exact k0, by rw [eu _ (by omega), er _ (by omega)]; exact k9, by rw [eu _ (by omega), er _ (by omega)]; exact k10, by rw [eu _ (by omega), er _ (by omega)]; exact k11, fun j hj => ?_, fun j hj => ?_⟩
  · rw [ev _ (by omega)] at hj
    obtain ⟨j1, j2, j3, j4, j5, j6⟩ := kj j hj
    unfold KJ
    rw [ev 64 (by omega), ev 65 (by omega)]
    rcases hc with ⟨rfl, rfl⟩ | ⟨rfl, rfl⟩ | ⟨rfl, rfl, hx, hy⟩
    · rw [eu (13 + 1) (by omega), eu (13 + 2) (by omega), eu (13 + 3) (by omega), eu (13 + 5) (by omega), eu (13 + 6) (by omega), eu (13 + 7) (by omega), er (j + (0 + 32)) (by omega), er (j + 0) (by omega), er (j + (0 + 8)) (by omega), er (j + (0 + 24)) (by omega)]
      refine ⟨j1, ?_, j3, j4, j5, j6⟩
      by_cases q : j = i
      · subst q
        rw [ec, if_pos rfl]
        exact es.symm
      · rw [ec, if_neg q, er _ (by omega)]
        exact j2
    · rw [eu (13 + 1) (by omega), eu (13 + 2) (by omega), eu (13 + 3) (by omega), eu (13 + 4) (by omega), eu (13 + 6) (by omega), eu (13 + 7) (by omega), er (j + (0 + 32)) (by omega), er (j + (0 + 16)) (by omega), er (j + 0) (by omega), er (j + (0 + 8)) (by omega)]
      refine ⟨j1, j2, j3, j4, fun z => ⟨?_, (j5 z).2⟩, j6⟩
      by_cases q : j = i
      · subst q
        rw [ec, if_pos rfl]
        exact es.symm
      · rw [ec, if_neg q, er _ (by omega)]
        exact (j5 z).1
    · rw [eu (13 + 2) (by omega), eu (13 + 3) (by omega), eu (13 + 4) (by omega), eu (13 + 5) (by omega), eu (13 + 6) (by omega), eu (13 + 7) (by omega), er (j + (0 + 16)) (by omega), er (j + 0) (by omega), er (j + (0 + 8)) (by omega), er (j + (0 + 24)) (by omega)]
      by_cases q : j = i
      · subst q
        have e1 : (uk_up v 61 (j + 32) x).1 61 (j + (0 + 32)) = x := es
        rw [ec, if_pos rfl, e1]
        exact ⟨rfl, j2, j3, j4, fun z => absurd z hx, fun _ => j6 hy⟩
      · rw [ec, if_neg q, er (j + (0 + 32)) (by omega)]
        exact ⟨j1, j2, j3, j4, j5, j6⟩
  · rw [er _ (by omega)] at hj
    rw [eu _ (by omega), er _ (by omega)]
    exact ks j hj
theorem KR_fed {u v : uk_Mem} {x : Int32} (hK : KR u v 13 61 0) (n8 : (v.1 60 3).toNatClampNeg ≤ 8) : KR (uk_up u 13 10 x) (uk_up v 61 40 x) 13 61 0 := by
  obtain ⟨k0, k9, k10, k11, kj, ks⟩ := hK
  have er : ∀ j, ¬ j = 40 → (uk_up v 61 40 x).1 61 j = v.1 61 j := fun j h => by rw [uk_up_at, if_neg (fun z => h z.2)]
  have eu : ∀ d, ¬ d = 13 → (uk_up u 13 10 x).1 d = u.1 d := fun d h => uk_up_oc h
  have ev : ∀ d, ¬ d = 61 → (uk_up v 61 40 x).1 d = v.1 d := fun d h => uk_up_oc h
  have e0 : ∀ j, ¬ j = 10 → (uk_up u 13 10 x).1 13 j = u.1 13 j := fun j h => by rw [uk_up_at, if_neg (fun z => h z.2)]
  refine ⟨by rw [e0 _ (by omega), ev _ (by omega)]; exact k0, by rw [e0 _ (by omega), er _ (by omega)]; exact k9, ?_, by rw [e0 _ (by omega), er _ (by omega)]; exact k11, fun j hj => ?_, fun j hj => ?_⟩
  · rw [uk_up_at, if_pos ⟨rfl, rfl⟩, uk_up_at, if_pos ⟨rfl, rfl⟩]
  · rw [ev _ (by omega)] at hj
    unfold KJ
    rw [eu (13 + 1) (by omega), eu (13 + 2) (by omega), eu (13 + 3) (by omega), eu (13 + 4) (by omega), eu (13 + 5) (by omega), eu (13 + 6) (by omega), eu (13 + 7) (by omega), er (j + (0 + 32)) (by omega), er (j + (0 + 16)) (by omega), er (j + 0) (by omega), er (j + (0 + 8)) (by omega), er (j + (0 + 24)) (by omega), ev 64 (by omega), ev 65 (by omega)]
    exact kj j hj
  · rw [er _ (by omega)] at hj
    rw [eu _ (by omega), er _ (by omega)]
    exact ks j hj
theorem KR_seen {u v : uk_Mem} {n : Int32} (hK : KR u v 13 61 0) (n8 : (v.1 60 3).toNatClampNeg ≤ 8) (hn : ∀ i, i < n.toNatClampNeg → u.1 21 i = v.1 61 (i + 43)) : KR (uk_up u 13 9 n) (uk_up v 61 42 n) 13 61 0 := by
  obtain ⟨k0, k9, k10, k11, kj, ks⟩ := hK
  have er : ∀ j, ¬ j = 42 → (uk_up v 61 42 n).1 61 j = v.1 61 j := fun j h => by rw [uk_up_at, if_neg (fun z => h z.2)]
  have eu : ∀ d, ¬ d = 13 → (uk_up u 13 9 n).1 d = u.1 d := fun d h => uk_up_oc h
  have ev : ∀ d, ¬ d = 61 → (uk_up v 61 42 n).1 d = v.1 d := fun d h => uk_up_oc h
  have e0 : ∀ j, ¬ j = 9 → (uk_up u 13 9 n).1 13 j = u.1 13 j := fun j h => by rw [uk_up_at, if_neg (fun z => h z.2)]
  have e42 : (uk_up v 61 42 n).1 61 (0 + 42) = n := by rw [uk_up_at, if_pos ⟨rfl, rfl⟩]
  refine ⟨by rw [e0 _ (by omega), ev _ (by omega)]; exact k0, ?_, by rw [e0 _ (by omega), er _ (by omega)]; exact k10, by rw [e0 _ (by omega), er _ (by omega)]; exact k11, fun j hj => ?_, fun j hj => ?_⟩
  · rw [e42, uk_up_at, if_pos ⟨rfl, rfl⟩]
  · rw [ev _ (by omega)] at hj
    unfold KJ
    rw [eu (13 + 1) (by omega), eu (13 + 2) (by omega), eu (13 + 3) (by omega), eu (13 + 4) (by omega), eu (13 + 5) (by omega), eu (13 + 6) (by omega), eu (13 + 7) (by omega), er (j + (0 + 32)) (by omega), er (j + (0 + 16)) (by omega), er (j + 0) (by omega), er (j + (0 + 8)) (by omega), er (j + (0 + 24)) (by omega), ev 64 (by omega), ev 65 (by omega)]
    exact kj j hj
  · rw [e42] at hj
    rw [eu _ (by omega), er _ (by omega)]
    exact hn j hj
theorem isRaw_e {u v : uk_Mem} {m : Int32} (h0 : 0 ≤ m) (h7 : m ≤ 7) (h : u.1 14 m.toNatClampNeg = v.1 61 (m.toNatClampNeg + 32)) : e_X0_isMade u 13 m = 0 ↔ ¬ e_X7_isRaw v m = 0 := by
  unfold e_X0_isMade e_X7_isRaw
  dsimp only
  rw [ix_32 h0 h7, show u.1 (13 + 1) m.toNatClampNeg = u.1 14 m.toNatClampNeg from rfl, h]
  by_cases q : v.1 61 (m.toNatClampNeg + 32) = 4
  · simp [q]
  · simp [q]
theorem digit_e {u v : uk_Mem} {n : Int32} : e_X6_isDigit u n = e_X7_in v n 0 9 := by
  unfold e_X6_isDigit e_X7_in
  grind
theorem feeds_e {u v : uk_Mem} {m n : Int32} (hv : iv v) (hK : KR u v 13 61 0) : (e_X6_feeds u m n).1 = (e_X7_feeds v m n).1 ∧ KR (e_X6_feeds u m n).2 (e_X7_feeds v m n).2 13 61 0 := by
  have hn : 0 ≤ v.1 60 3 ∧ v.1 60 3 ≤ 8 := iv_at hv 60 3 rfl
  have n8 := uk_cln 8 8 rfl hn.1 hn.2
  have s := sg_42 hv (c := 61) (by unfold uk_is51; decide)
  have s8 := uk_cln 8 8 rfl s.1 s.2
  unfold e_X6_feeds e_X7_feeds e_X7_becomes
  dsimp only
  rw [hasStuff_e hK.1 hn, digit_e (v := v)]
  by_cases h1 : e_X7_isStuff v m = 0
  · rw [if_pos h1, if_pos h1]
    exact ⟨rfl, hK⟩
  · rw [if_neg h1, if_neg h1]
    have hm := isStuff_n hn h1
    have hl := uk_cll hm.1 hm.2
    rw [ix_16 hm.1 (by lia)]
    by_cases h2 : e_X7_in v n 0 9 = 0
    · rw [if_pos h2, if_pos h2]
      exact ⟨rfl, hK⟩
    · rw [if_neg h2, if_neg h2]
      exact ⟨(hK.2.2.2.2.1 _ hl).2.1, KR_set (a := 4) (o := 16) hK n8 s8 (by omega) (Or.inl ⟨rfl, rfl⟩)⟩
theorem price_e {u v : uk_Mem} {m n : Int32} (hv : iv v) (hK : KR u v 13 61 0) : (e_X6_price u m n).1 = (e_X7_price v m n).1 ∧ KR (e_X6_price u m n).2 (e_X7_price v m n).2 13 61 0 := by
  have hn : 0 ≤ v.1 60 3 ∧ v.1 60 3 ≤ 8 := iv_at hv 60 3 rfl
  have n8 := uk_cln 8 8 rfl hn.1 hn.2
  have s := sg_42 hv (c := 61) (by unfold uk_is51; decide)
  have s8 := uk_cln 8 8 rfl s.1 s.2
  unfold e_X6_price e_X7_price e_X7_becomes
  dsimp only
  rw [hasStuff_e hK.1 hn, digit_e (v := v)]
  by_cases h1 : e_X7_isStuff v m = 0
  · rw [if_pos h1, if_pos h1]
    exact ⟨rfl, hK⟩
  · rw [if_neg h1, if_neg h1]
    have hm := isStuff_n hn h1
    have hl := uk_cll hm.1 hm.2
    have hj := hK.2.2.2.2.1 _ hl
    have hw := isRaw_e (u := u) (v := v) hm.1 (by lia) hj.1
    rw [ix_24 hm.1 (by lia)]
    by_cases h2 : e_X7_in v n 0 9 = 0
    · rw [if_pos h2, if_pos h2]
      exact ⟨rfl, hK⟩
    · rw [if_neg h2, if_neg h2]
      by_cases h3 : e_X7_isRaw v m = 0
      · rw [if_pos h3, if_neg (fun z => hw.mp z h3)]
        exact ⟨rfl, hK⟩
      · rw [if_neg h3, if_pos (hw.mpr h3)]
        have h4 : v.1 61 (m.toNatClampNeg + (0 + 32)) = 4 := by
          unfold e_X7_isRaw at h3
          dsimp only at h3
          rw [ix_32 hm.1 (by lia)] at h3
          exact Classical.byContradiction fun q => h3 (if_neg q)
        exact ⟨(hj.2.2.2.2.1 h4).1, KR_set (a := 5) (o := 24) hK n8 s8 (by omega) (Or.inr (Or.inl ⟨rfl, rfl⟩))⟩
theorem kind_e {u v : uk_Mem} {m n : Int32} (hv : iv v) (hK : KR u v 13 61 0) : (e_X6_kind u m n).1 = (e_X7_kind v m n).1 ∧ KR (e_X6_kind u m n).2 (e_X7_kind v m n).2 13 61 0 := by
  have hn : 0 ≤ v.1 60 3 ∧ v.1 60 3 ≤ 8 := iv_at hv 60 3 rfl
  have n8 := uk_cln 8 8 rfl hn.1 hn.2
  have s := sg_42 hv (c := 61) (by unfold uk_is51; decide)
  have s8 := uk_cln 8 8 rfl s.1 s.2
  unfold e_X6_kind e_X7_kind e_X7_becomes
  dsimp only
  rw [hasStuff_e hK.1 hn]
  by_cases h1 : e_X7_isStuff v m = 0
  · rw [if_pos h1, if_pos h1]
    exact ⟨rfl, hK⟩
  · rw [if_neg h1, if_neg h1]
    have hm := isStuff_n hn h1
    have hl := uk_cll hm.1 hm.2
    have hj := hK.2.2.2.2.1 _ hl
    have hw := isRaw_e (u := u) (v := v) hm.1 (by lia) hj.1
    rw [ix_32 hm.1 (by lia)]
    by_cases h2 : 0 ≤ n ∧ n ≤ 3
    · rw [if_neg (by lia), if_pos h2.2, show e_X7_in v n 0 3 = 1 from if_pos h2, if_neg (c := (1 : Int32) = 0) (by decide)]
      by_cases h3 : e_X7_isRaw v m = 0
      · rw [if_pos h3, if_neg (fun z => hw.mp z h3)]
        have h4 : ¬ v.1 61 (m.toNatClampNeg + 32) = 4 := fun q => by
          unfold e_X7_isRaw at h3
          dsimp only at h3
          rw [ix_32 hm.1 (by lia), if_pos q] at h3
          exact absurd h3 (by decide)
        exact ⟨hj.1, KR_set (a := 1) (o := 32) hK n8 s8 (by omega) (Or.inr (Or.inr ⟨rfl, rfl, by lia, h4⟩))⟩
      · rw [if_neg h3, if_pos (hw.mpr h3)]
        exact ⟨rfl, hK⟩
    · rw [show e_X7_in v n 0 3 = 0 from if_neg h2, if_pos rfl]
      by_cases h3 : n < 0
      · rw [if_pos h3]
        exact ⟨rfl, hK⟩
      · rw [if_neg h3, if_neg (by lia)]
        exact ⟨rfl, hK⟩
theorem eat_e {u v : uk_Mem} {m : Int32} (hv : iv v) (hK : KR u v 13 61 0) : (e_X6_eat u m).1 = (e_X7_eat v m).1 ∧ KR (e_X6_eat u m).2 (e_X7_eat v m).2 13 61 0 := by
  have hn : 0 ≤ v.1 60 3 ∧ v.1 60 3 ≤ 8 := iv_at hv 60 3 rfl
  have n8 := uk_cln 8 8 rfl hn.1 hn.2
  have s := sg_42 hv (c := 61) (by unfold uk_is51; decide)
  have s8 := uk_cln 8 8 rfl s.1 s.2
  unfold e_X6_eat e_X7_eat
  dsimp only
  rw [hasStuff_e hK.1 hn]
  by_cases h1 : e_X7_isStuff v m = 0
  · rw [if_pos h1, if_pos h1]
    exact ⟨rfl, hK⟩
  · rw [if_neg h1, if_neg h1]
    have hm := isStuff_n hn h1
    have hl := uk_cll hm.1 hm.2
    have hj := hK.2.2.2.2.1 _ hl
    have j3 : u.1 19 m.toNatClampNeg = v.1 61 m.toNatClampNeg := hj.2.2.1
    have j2 : u.1 17 m.toNatClampNeg = v.1 61 (m.toNatClampNeg + 16) := hj.2.1
    have k10 : u.1 13 10 = v.1 61 40 := hK.2.2.1
    rw [ix_0, ix_16 hm.1 (by lia), j3]
    by_cases h2 : v.1 61 m.toNatClampNeg = 0
    · rw [if_pos h2, if_pos h2]
      exact ⟨rfl, hK⟩
    · rw [if_neg h2, if_neg h2]
      have K1 := KR_p (i := m.toNatClampNeg) (x := v.1 61 m.toNatClampNeg - 1) hK n8 s8 (by omega)
      have e40 : (40 : Int32).toNatClampNeg = 40 := rfl
      have a1 : (uk_up u 19 m.toNatClampNeg (v.1 61 m.toNatClampNeg - 1)).1 13 10 = u.1 13 10 := by rw [uk_up_oc (by decide)]
      have a2 : (uk_up u 19 m.toNatClampNeg (v.1 61 m.toNatClampNeg - 1)).1 17 m.toNatClampNeg = u.1 17 m.toNatClampNeg := by rw [uk_up_oc (by decide)]
      have a3 : (uk_up v 61 m.toNatClampNeg (v.1 61 m.toNatClampNeg - 1)).1 61 40 = v.1 61 40 := by rw [uk_up_at, if_neg (by omega)]
      have a4 : (uk_up v 61 m.toNatClampNeg (v.1 61 m.toNatClampNeg - 1)).1 61 (m.toNatClampNeg + 16) = v.1 61 (m.toNatClampNeg + 16) := by rw [uk_up_at, if_neg (by omega)]
      rw [e40, a1, a2, a3, a4, k10, j2, uk_up_at, if_pos ⟨rfl, rfl⟩, uk_up_at, if_pos ⟨rfl, rfl⟩]
      exact ⟨rfl, KR_fed K1 (by rw [uk_up_oc (by decide)]; exact n8)⟩
theorem forget_e {u v : uk_Mem} {n : Int32} (hv : iv v) (hK : KR u v 13 61 0) : (e_X6_forget u n).1 = (e_X7_forget v n).1 ∧ KR (e_X6_forget u n).2 (e_X7_forget v n).2 13 61 0 := by
  have hn : 0 ≤ v.1 60 3 ∧ v.1 60 3 ≤ 8 := iv_at hv 60 3 rfl
  have n8 := uk_cln 8 8 rfl hn.1 hn.2
  have s := sg_42 hv (c := 61) (by unfold uk_is51; decide)
  have k9 : u.1 13 9 = v.1 61 42 := hK.2.1
  have e42 : (42 : Int32).toNatClampNeg = 42 := rfl
  unfold e_X6_forget e_X7_forget e_X7_becomes
  dsimp only
  rw [e42, k9]
  by_cases h2 : 0 ≤ n ∧ n ≤ v.1 61 42
  · rw [if_neg (by lia), if_pos h2.2, show e_X7_in v n 0 (v.1 61 42) = 1 from if_pos h2, if_neg (c := (1 : Int32) = 0) (by decide)]
    refine ⟨rfl, KR_seen hK n8 (fun i hi => hK.2.2.2.2.2 i ?_)⟩
    have := uk_cmo h2.1 h2.2
    show i < (v.1 61 (0 + 42)).toNatClampNeg
    rw [Nat.zero_add]
    omega
  · rw [show e_X7_in v n 0 (v.1 61 42) = 0 from if_neg h2, if_pos rfl]
    by_cases h3 : n < 0
    · rw [if_pos h3]
      exact ⟨rfl, hK⟩
    · rw [if_neg h3, if_neg (by lia)]
      exact ⟨rfl, hK⟩
/-! a kitchen copied; rows of the reference copied; images -/
def Dj (kb kc : Nat) : Prop := ∀ a c, a ≤ 8 → c ≤ 8 → ¬ kb + a = kc + c
theorem Dj_of {kb kc : Nat} (h : uk_isK kb) (h' : uk_isK kc) (hn : ¬ kb = kc) : Dj kb kc := by
  intro a c ha hc
  rcases h with rfl | rfl | rfl | rfl <;> rcases h' with rfl | rfl | rfl | rfl <;> omega
theorem cf2 {kb kc : Nat} (hd : Dj kb kc) : ∀ (K : Nat) (i : Int32) (w : uk_Mem), ee_F 8 i K → 0 ≤ i → i ≤ 8 → (∀ d, ¬ d = kb + 8 → (l_X0_copyFrom_132 kc kb K i w).1 d = w.1 d) ∧ ∀ j, (l_X0_copyFrom_132 kc kb K i w).1 (kb + 8) j = if i.toNatClampNeg ≤ j ∧ j < 8 then w.1 (kc + 8) j else w.1 (kb + 8) j := by
  intro K
  induction K with
  | zero =>
    intro i m f h0 h1
    obtain ⟨j, hj⟩ := ee_Fp h1 f
    omega
  | succ K ih =>
    intro i m f h0 h1
    rw [l_X0_copyFrom_132]
    by_cases q : (8 : Int32) ≤ i
    · rw [if_pos q]
      have := uk_cge 8 8 rfl q
      refine ⟨fun _ _ => rfl, fun j => ?_⟩
      rw [if_neg (by omega)]
    · rw [if_neg q]
      dsimp only
      have hc := uk_c1 h0 (by lia)
      have hl := uk_cln 7 7 rfl h0 (by lia)
      obtain ⟨a, c⟩ := ih (i + 1) (uk_up m (kb + 8) i.toNatClampNeg (m.1 (kc + 8) i.toNatClampNeg)) (ee_Fs f (by lia)) (by lia) (by lia)
      refine ⟨fun d hd => (a d hd).trans (uk_up_oc hd), fun j => ?_⟩
      rw [c j, hc, uk_up_oc (b := kc + 8) (fun z => hd 8 8 (by omega) (by omega) z.symm), uk_up_at]
      generalize i.toNatClampNeg = k at *
      grind
theorem cf1 {kb kc : Nat} (hd : Dj kb kc) : ∀ (K : Nat) (i : Int32) (w : uk_Mem), ee_F 8 i K → 0 ≤ i → i ≤ 8 → (∀ d, (d ≤ kb ∨ kb + 8 < d) → (l_X0_copyFrom_34 kc kb K i w).1 d = w.1 d) ∧ ∀ a, 1 ≤ a → a ≤ 8 → ∀ j, (l_X0_copyFrom_34 kc kb K i w).1 (kb + a) j = if (a = 8 ∨ i.toNatClampNeg ≤ j) ∧ j < 8 then w.1 (kc + a) j else w.1 (kb + a) j := by
  intro K
  induction K with
  | zero =>
    intro i m f h0 h1
    obtain ⟨j, hj⟩ := ee_Fp h1 f
    omega
  | succ K ih =>
    intro i w f h0 h1
    rw [l_X0_copyFrom_34]
    by_cases q : (8 : Int32) ≤ i
    · rw [if_pos q]
      have hi := uk_cge 8 8 rfl q
      obtain ⟨c1, c2⟩ := cf2 hd ee_K 0 w (ee_F0 _ _) (by decide) (by decide)
      refine ⟨fun d h => c1 d (by omega), fun a a1 a8 j => ?_⟩
      by_cases e : a = 8
      · subst e
        rw [c2 j, show (0 : Int32).toNatClampNeg = 0 from rfl]
        grind
      · rw [c1 _ (by omega), if_neg (by omega)]
    · rw [if_neg q]
      dsimp only
      have hc := uk_c1 h0 (by lia)
      have hl := uk_cln 7 7 rfl h0 (by lia)
      have es : ∀ (v : uk_Mem) (x : Int32) (n a c : Nat), a ≤ 8 → c ≤ 8 → (uk_up v (kb + a) n x).1 (kc + c) = v.1 (kc + c) := fun v x n a c ha hc => uk_up_oc (fun z => hd a c ha hc z.symm)
      rw [es _ _ _ 1 2 (by omega) (by omega), es _ _ _ 2 3 (by omega) (by omega), es _ _ _ 1 3 (by omega) (by omega), es _ _ _ 3 4 (by omega) (by omega), es _ _ _ 2 4 (by omega) (by omega), es _ _ _ 1 4 (by omega) (by omega), es _ _ _ 4 5 (by omega) (by omega), es _ _ _ 3 5 (by omega) (by omega), es _ _ _ 2 5 (by omega) (by omega), es _ _ _ 1 5 (by omega) (by omega), es _ _ _ 5 6 (by omega) (by omega), es _ _ _ 4 6 (by omega) (by omega), es _ _ _ 3 6 (by omega) (by omega), es _ _ _ 2 6 (by omega) (by omega), es _ _ _ 1 6 (by omega) (by omega), es _ _ _ 6 7 (by omega) (by omega), es _ _ _ 5 7 (by omega) (by omega), es _ _ _ 4 7 (by omega) (by omega), es _ _ _ 3 7 (by omega) (by omega), es _ _ _ 2 7 (by omega) (by omega), es _ _ _ 1 7 (by omega) (by omega)]
      generalize hw' : uk_up (uk_up (uk_up (uk_up (uk_up (uk_up (uk_up w (kb + 1) _ _) (kb + 2) _ _) (kb + 3) _ _) (kb + 4) _ _) (kb + 5) _ _) (kb + 6) _ _) (kb + 7) _ _ = w'
      have wo : ∀ d, (d ≤ kb ∨ kb + 7 < d) → w'.1 d = w.1 d := fun d h => by
        rw [← hw', uk_up_oc (by omega), uk_up_oc (by omega), uk_up_oc (by omega), uk_up_oc (by omega), uk_up_oc (by omega), uk_up_oc (by omega), uk_up_oc (by omega)]
      have wc : ∀ c, c ≤ 8 → w'.1 (kc + c) = w.1 (kc + c) := fun c h => by
        rw [← hw', es _ _ _ 7 c (by omega) h, es _ _ _ 6 c (by omega) h, es _ _ _ 5 c (by omega) h, es _ _ _ 4 c (by omega) h, es _ _ _ 3 c (by omega) h, es _ _ _ 2 c (by omega) h, es _ _ _ 1 c (by omega) h]
      have ww : ∀ a, 1 ≤ a → a ≤ 7 → ∀ j, w'.1 (kb + a) j = if j = i.toNatClampNeg then w.1 (kc + a) j else w.1 (kb + a) j := fun a a1 a7 j => by
        rw [← hw']
        rcases (show a = 1 ∨ a = 2 ∨ a = 3 ∨ a = 4 ∨ a = 5 ∨ a = 6 ∨ a = 7 by omega) with rfl | rfl | rfl | rfl | rfl | rfl | rfl <;> (simp only [uk_up_at, Nat.add_left_cancel_iff, Nat.reduceEqDiff, false_and, true_and, if_false]; grind)
      obtain ⟨p1, p2⟩ := ih (i + 1) w' (ee_Fs f (by lia)) (by lia) (by lia)
      refine ⟨fun d h => (p1 d h).trans (wo d (by omega)), fun a a1 a8 j => ?_⟩
      rw [p2 a a1 a8 j, hc, wc a a8]
      by_cases e : a = 8
      · subst e
        rw [wo (kb + 8) (by omega)]
        simp
      · rw [ww a a1 (by omega) j]
        generalize i.toNatClampNeg = k at *
        grind
theorem cf_r {u : uk_Mem} {kb kc a j : Nat} (hd : Dj kb kc) (a1 : 1 ≤ a) (a8 : a ≤ 8) (hj : j < 8) : (e_X0_copyFrom u kb kc).1 (kb + a) j = u.1 (kc + a) j := by
  unfold e_X0_copyFrom
  dsimp only
  rw [(cf1 hd ee_K 0 _ (ee_F0 _ _) (by decide) (by decide)).2 a a1 a8 j, if_pos ⟨Or.inr (Nat.zero_le _), hj⟩]
  have e : ∀ (v : uk_Mem) (n : Nat) (x : Int32), (uk_up v kb n x).1 (kc + a) = v.1 (kc + a) := fun v n x => uk_up_oc (fun z => hd 0 a (by omega) a8 z.symm)
  rw [e, e, e, e]
theorem cf_o {u : uk_Mem} {kb kc d : Nat} (hd : Dj kb kc) (h : d < kb ∨ kb + 8 < d) : (e_X0_copyFrom u kb kc).1 d = u.1 d := by
  unfold e_X0_copyFrom
  dsimp only
  rw [(cf1 hd ee_K 0 _ (ee_F0 _ _) (by decide) (by decide)).1 d (by omega), uk_up_oc (by omega), uk_up_oc (by omega), uk_up_oc (by omega), uk_up_oc (by omega)]
theorem cf_s {u : uk_Mem} {kb kc : Nat} (hd : Dj kb kc) : (e_X0_copyFrom u kb kc).1 kb 0 = u.1 kc 0 ∧ (e_X0_copyFrom u kb kc).1 kb 9 = u.1 kc 9 ∧ (e_X0_copyFrom u kb kc).1 kb 10 = u.1 kc 10 ∧ (e_X0_copyFrom u kb kc).1 kb 11 = u.1 kc 11 := by
  unfold e_X0_copyFrom
  dsimp only
  have e : ∀ (v : uk_Mem) (n : Nat) (x : Int32), (uk_up v kb n x).1 kc = v.1 kc := fun v n x => uk_up_oc (fun z => hd 0 0 (by omega) (by omega) z.symm)
  rw [(cf1 hd ee_K 0 _ (ee_F0 _ _) (by decide) (by decide)).1 kb (by omega)]
  simp only [e, uk_up_at]
  simp
theorem KR_copy {u v : uk_Mem} {kb kc c o : Nat} (hd : Dj kb kc) (h : KR u v kc c o) (n8 : (v.1 60 3).toNatClampNeg ≤ 8) (s8 : (v.1 c (o + 42)).toNatClampNeg ≤ 8) : KR (e_X0_copyFrom u kb kc) v kb c o := by
  obtain ⟨k0, k9, k10, k11, kj, ks⟩ := h
  obtain ⟨c0, c9, c10, c11⟩ := cf_s (u := u) hd
  refine ⟨c0.trans k0, c9.trans k9, c10.trans k10, c11.trans k11, fun j hj => ?_, fun i hi => ?_⟩
  · unfold KJ
    rw [cf_r hd (a := 1) (by omega) (by omega) (by omega), cf_r hd (a := 2) (by omega) (by omega) (by omega), cf_r hd (a := 3) (by omega) (by omega) (by omega), cf_r hd (a := 4) (by omega) (by omega) (by omega), cf_r hd (a := 5) (by omega) (by omega) (by omega), cf_r hd (a := 6) (by omega) (by omega) (by omega), cf_r hd (a := 7) (by omega) (by omega) (by omega)]
    exact kj j hj
  · rw [cf_r hd (by omega) (by omega) (by omega)]
    exact ks i hi
theorem ix_t {C m : Int32} {c : Nat} (hC : C.toInt = (c : Int)) (hc : c ≤ 1000) (h0 : 0 ≤ m) (h7 : m ≤ 1000) : (C + m).toNatClampNeg = c + m.toNatClampNeg := by
  have a := Int32.le_iff_toInt_le.mp h0
  have b := Int32.le_iff_toInt_le.mp h7
  have z : (0 : Int32).toInt = 0 := rfl
  have y : (1000 : Int32).toInt = 1000 := rfl
  have e : (C + m).toInt = C.toInt + m.toInt := by
    rw [Int32.toInt_add]
    exact Int.bmod_eq_of_le (by omega) (by omega)
  show (C + m).toInt.toNat = c + m.toInt.toNat
  omega
theorem cp_l {t o : Int32} {T O : Nat} (ht : t.toInt = (T : Int)) (ho : o.toInt = (O : Int)) (hT : T ≤ 102) (hO : O ≤ 102) (hd : T + 51 ≤ O ∨ O + 51 ≤ T) : ∀ (K : Nat) (i : Int32) (w : uk_Mem), ee_F 51 i K → 0 ≤ i → i ≤ 51 → (∀ d, ¬ d = 61 → (l_X7_copies_2 t o K i w).1 d = w.1 d) ∧ ∀ j, (l_X7_copies_2 t o K i w).1 61 j = if T + i.toNatClampNeg ≤ j ∧ j < T + 51 then w.1 61 (j - T + O) else w.1 61 j := by
  intro K
  induction K with
  | zero =>
    intro i m f h0 h1
    obtain ⟨j, hj⟩ := ee_Fp h1 f
    omega
  | succ K ih =>
    intro i m f h0 h1
    rw [l_X7_copies_2]
    by_cases q : (51 : Int32) ≤ i
    · rw [if_pos q]
      have := uk_cge 51 51 rfl q
      refine ⟨fun _ _ => rfl, fun j => ?_⟩
      rw [if_neg (by omega)]
    · rw [if_neg q]
      dsimp only
      have hc := uk_c1 h0 (by lia)
      have hl := uk_cln 50 50 rfl h0 (by lia)
      rw [ix_t ht (by omega) h0 (by lia), ix_t ho (by omega) h0 (by lia)]
      obtain ⟨a, c⟩ := ih (i + 1) (uk_up m 61 (T + i.toNatClampNeg) (m.1 61 (O + i.toNatClampNeg))) (ee_Fs f (by lia)) (by lia) (by lia)
      refine ⟨fun d hd => (a d hd).trans (uk_up_oc hd), fun j => ?_⟩
      rw [c j, hc]
      simp only [uk_up_at, true_and]
      generalize i.toNatClampNeg = k at *
      by_cases e : j = T + k
      · subst e
        rw [if_neg (by omega), if_pos rfl, if_pos (by omega), show T + k - T + O = O + k by omega]
      · by_cases e2 : T + (k + 1) ≤ j ∧ j < T + 51
        · rw [if_pos e2, if_neg (show ¬ j - T + O = T + k by omega), if_pos (show T + k ≤ j ∧ j < T + 51 by omega)]
        · rw [if_neg e2, if_neg e, if_neg (by omega)]
theorem cp_c {v : uk_Mem} {t o : Int32} {T O : Nat} (ht : t.toInt = (T : Int)) (ho : o.toInt = (O : Int)) (hT : T ≤ 102) (hO : O ≤ 102) (hd : T + 51 ≤ O ∨ O + 51 ≤ T) {d : Nat} (h : ¬ d = 61) : (e_X7_copies v t o).1 d = v.1 d := (cp_l ht ho hT hO hd ee_K 0 v (ee_F0 _ _) (by decide) (by decide)).1 d h
theorem cp_j {v : uk_Mem} {t o : Int32} {T O : Nat} (ht : t.toInt = (T : Int)) (ho : o.toInt = (O : Int)) (hT : T ≤ 102) (hO : O ≤ 102) (hd : T + 51 ≤ O ∨ O + 51 ≤ T) {j : Nat} (h : j < 51) : (e_X7_copies v t o).1 61 (j + T) = v.1 61 (j + O) := by
  have := (cp_l ht ho hT hO hd ee_K 0 v (ee_F0 _ _) (by decide) (by decide)).2 (j + T)
  rw [show (0 : Int32).toNatClampNeg = 0 from rfl, if_pos (by omega), show j + T - T + O = j + O by omega] at this
  exact this
theorem cp_o {v : uk_Mem} {t o : Int32} {T O : Nat} (ht : t.toInt = (T : Int)) (ho : o.toInt = (O : Int)) (hT : T ≤ 102) (hO : O ≤ 102) (hd : T + 51 ≤ O ∨ O + 51 ≤ T) {j : Nat} (h : j < T ∨ T + 51 ≤ j) : (e_X7_copies v t o).1 61 j = v.1 61 j := by
  have := (cp_l ht ho hT hO hd ee_K 0 v (ee_F0 _ _) (by decide) (by decide)).2 j
  rw [if_neg (by omega)] at this
  exact this
theorem KR_saw {u v : uk_Mem} {i : Nat} {x : Int32} (hK : KR u v 13 61 0) (n8 : (v.1 60 3).toNatClampNeg ≤ 8) (hi : i < 8) : KR (uk_up u 21 i x) (uk_up v 61 (i + 43) x) 13 61 0 := by
  obtain ⟨k0, k9, k10, k11, kj, ks⟩ := hK
  have eu : ∀ d, ¬ d = 21 → (uk_up u 21 i x).1 d = u.1 d := fun d h => uk_up_oc h
  have ev : ∀ d, ¬ d = 61 → (uk_up v 61 (i + 43) x).1 d = v.1 d := fun d h => uk_up_oc h
  have er : ∀ j, ¬ j = i + 43 → (uk_up v 61 (i + 43) x).1 61 j = v.1 61 j := fun j h => by rw [uk_up_at, if_neg (fun z => h z.2)]
  refine ⟨by rw [eu _ (by omega), ev _ (by omega)]; exact k0, by rw [eu _ (by omega), er _ (by omega)]; exact k9, by rw [eu _ (by omega), er _ (by omega)]; exact k10, by rw [eu _ (by omega), er _ (by omega)]; exact k11, fun j hj => ?_, fun j hj => ?_⟩
  · rw [ev _ (by omega)] at hj
    unfold KJ
    rw [eu (13 + 1) (by omega), eu (13 + 2) (by omega), eu (13 + 3) (by omega), eu (13 + 4) (by omega), eu (13 + 5) (by omega), eu (13 + 6) (by omega), eu (13 + 7) (by omega), er (j + (0 + 32)) (by omega), er (j + (0 + 16)) (by omega), er (j + 0) (by omega), er (j + (0 + 8)) (by omega), er (j + (0 + 24)) (by omega), ev 64 (by omega), ev 65 (by omega)]
    exact kj j hj
  · rw [er _ (by omega)] at hj
    by_cases q : j = i
    · subst q
      rw [uk_up_at, if_pos ⟨rfl, rfl⟩, uk_up_at, if_pos ⟨rfl, rfl⟩]
    · rw [er _ (by omega), uk_up_at, if_neg (fun z => q z.2)]
      exact ks j hj
theorem see_e {u v : uk_Mem} {x : Int32} (hv : iv v) (hK : KR u v 13 61 0) : (e_X6_see u x).1 = (e_X7_see v x).1 ∧ KR (e_X6_see u x).2 (e_X7_see v x).2 13 61 0 := by
  have hn : 0 ≤ v.1 60 3 ∧ v.1 60 3 ≤ 8 := iv_at hv 60 3 rfl
  have n8 := uk_cln 8 8 rfl hn.1 hn.2
  have s := sg_42 hv (c := 61) (by unfold uk_is51; decide)
  have k9 : u.1 13 9 = v.1 61 42 := hK.2.1
  have e42 : (42 : Int32).toNatClampNeg = 42 := rfl
  unfold e_X6_see e_X7_see
  dsimp only
  rw [hasStuff_e hK.1 hn]
  by_cases h1 : e_X7_isStuff v x = 0
  · rw [if_pos h1, if_pos h1]
    exact ⟨rfl, hK⟩
  · rw [if_neg h1, if_neg h1, e42, k9]
    by_cases h2 : v.1 61 42 = 8
    · rw [if_pos h2, if_neg (by lia)]
      exact ⟨rfl, hK⟩
    · have s7 : v.1 61 42 ≤ 7 := by lia
      have c7 := uk_cln 7 7 rfl s.1 s7
      rw [if_neg h2, if_pos (by lia), ix_43 s.1 s7]
      have a1 : (uk_up u 21 (v.1 61 42).toNatClampNeg x).1 13 9 = v.1 61 42 := by rw [uk_up_oc (by decide)]; exact k9
      have a2 : (uk_up v 61 ((v.1 61 42).toNatClampNeg + 43) x).1 61 42 = v.1 61 42 := by rw [uk_up_at, if_neg (by omega)]
      rw [a1, a2, uk_up_at, if_pos ⟨rfl, rfl⟩, uk_up_at, if_pos ⟨rfl, rfl⟩]
      have K1 := KR_saw (i := (v.1 61 42).toNatClampNeg) (x := x) hK n8 (by omega)
      refine ⟨rfl, KR_seen K1 (by rw [uk_up_oc (by decide)]; exact n8) (fun i hi => ?_)⟩
      rw [uk_c1 s.1 (by lia)] at hi
      by_cases q : i = (v.1 61 42).toNatClampNeg
      · subst q
        rw [uk_up_at, if_pos ⟨rfl, rfl⟩, uk_up_at, if_pos ⟨rfl, rfl⟩]
      · rw [uk_up_at, if_neg (fun z => q z.2), uk_up_at, if_neg (by omega)]
        exact hK.2.2.2.2.2 i (by show i < (v.1 61 (0 + 42)).toNatClampNeg; rw [Nat.zero_add]; omega)
