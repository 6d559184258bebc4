theorem ends_o {u : uk_Mem} {j : Nat} (h : 51 ≤ j) : (e_X7_ends u).1 61 j = u.1 61 j := ((ends_l ee_K 0 u (ee_F0 _ _) (by decide) (by decide)).2.2 j).trans (if_neg (by omega))
/-- a stuff of a kitchen of the class (its cells from b on) and of a row of the reference (cell c, from o on) -/
def KJ (u v : uk_Mem) (b c o j : Nat) : Prop := u.1 (b + 1) j = v.1 c (j + (o + 32)) ∧ u.1 (b + 4) j = v.1 c (j + (o + 16)) ∧ u.1 (b + 6) j = v.1 c (j + o) ∧ u.1 (b + 7) j = v.1 c (j + (o + 8)) ∧ (v.1 c (j + (o + 32)) = 4 → u.1 (b + 5) j = v.1 c (j + (o + 24)) ∧ v.1 64 j = -4 ∧ v.1 65 j = -4) ∧ (¬ v.1 c (j + (o + 32)) = 4 → u.1 (b + 2) j = v.1 64 j ∧ u.1 (b + 3) j = v.1 65 j)
def KR (u v : uk_Mem) (b c o : Nat) : Prop := u.1 b 0 = v.1 60 3 ∧ u.1 b 9 = v.1 c (o + 42) ∧ u.1 b 10 = v.1 c (o + 40) ∧ u.1 b 11 = v.1 c (o + 41) ∧ (∀ j : Nat, j < (v.1 60 3).toNatClampNeg → KJ u v b c o j) ∧ ∀ i : Nat, i < (v.1 c (o + 42)).toNatClampNeg → u.1 (b + 8) i = v.1 c (i + (o + 43))
/-- other memories with the same cells -/
theorem KR_cg {u v u' v' : uk_Mem} {b c o : Nat} (h : KR u v b c o) (hu : ∀ d, b ≤ d → d ≤ b + 8 → u'.1 d = u.1 d) (h60 : v'.1 60 3 = v.1 60 3) (hc : v'.1 c = v.1 c) (h64 : v'.1 64 = v.1 64) (h65 : v'.1 65 = v.1 65) : KR u' v' b c o := by
  obtain ⟨k0, k9, k10, k11, kj, ks⟩ := h
  have hb := hu b (by omega) (by omega)
  refine ⟨by rw [hb, h60]; exact k0, by rw [hb, hc]; exact k9, by rw [hb, hc]; exact k10, by rw [hb, hc]; exact k11, fun j hj => ?_, fun i hi => ?_⟩
  · rw [h60] at hj
    unfold KJ
    rw [hu (b + 1) (by omega) (by omega), hu (b + 2) (by omega) (by omega), hu (b + 3) (by omega) (by omega), hu (b + 4) (by omega) (by omega), hu (b + 5) (by omega) (by omega), hu (b + 6) (by omega) (by omega), hu (b + 7) (by omega) (by omega), hc, h64, h65]
    exact kj j hj
  · rw [hc] at hi ⊢
    rw [hu (b + 8) (by omega) (by omega)]
    exact ks i hi
/-- the same 51 numbers in another row -/
theorem KR_row {u v v' : uk_Mem} {b c o c' o' : Nat} (h : KR u v b c o) (hn : v.1 60 3 ≤ 8) (hs : v.1 c (o + 42) ≤ 8) (h60 : v'.1 60 3 = v.1 60 3) (hc : ∀ j, j < 51 → v'.1 c' (j + o') = v.1 c (j + o)) (h64 : v'.1 64 = v.1 64) (h65 : v'.1 65 = v.1 65) : KR u v' b c' o' := by
  obtain ⟨k0, k9, k10, k11, kj, ks⟩ := h
  have hr : ∀ a j, j + a < 51 → v'.1 c' (j + (o' + a)) = v.1 c (j + (o + a)) := fun a j ha => by
    have := hc (j + a) ha
    rwa [show j + a + o' = j + (o' + a) by omega, show j + a + o = j + (o + a) by omega] at this
  have hf : ∀ a, a < 51 → v'.1 c' (o' + a) = v.1 c (o + a) := fun a ha => by
    have := hr a 0 (by omega)
    rwa [Nat.zero_add, Nat.zero_add] at this
  have n8 : (v.1 60 3).toNatClampNeg ≤ 8 := by
    by_cases q : 0 ≤ v.1 60 3
    · exact uk_cln 8 8 rfl q hn
    · have : (v.1 60 3).toInt < 0 := by
        have := Int32.lt_iff_toInt_lt.mp (show v.1 60 3 < 0 by lia)
        exact this
      have e : (v.1 60 3).toNatClampNeg = (v.1 60 3).toInt.toNat := rfl
      omega
  have s8 : (v.1 c (o + 42)).toNatClampNeg ≤ 8 := by
    by_cases q : 0 ≤ v.1 c (o + 42)
    · exact uk_cln 8 8 rfl q hs
    · have : (v.1 c (o + 42)).toInt < 0 := by
        have := Int32.lt_iff_toInt_lt.mp (show v.1 c (o + 42) < 0 by lia)
        exact this
      have e : (v.1 c (o + 42)).toNatClampNeg = (v.1 c (o + 42)).toInt.toNat := rfl
      omega
  refine ⟨by rw [h60]; exact k0, by rw [hf 42 (by omega)]; exact k9, by rw [hf 40 (by omega)]; exact k10, by rw [hf 41 (by omega)]; exact k11, fun j hj => ?_, fun i hi => ?_⟩
  · rw [h60] at hj
    unfold KJ
    rw [hr 32 j (by omega), hr 16 j (by omega), hc j (by omega), hr 8 j (by omega), hr 24 j (by omega), h64, h65]
    exact kj j hj
  · rw [hf 42 (by omega)] at hi
    rw [hr 43 i (by omega)]
    exact ks i hi
theorem one0 : ¬ (1 : Int32) = 0 := by decide
theorem lp_n {x n : Int32} (hn : 0 ≤ n ∧ n ≤ 8) : x ≤ n - 1 ↔ x < n := by
  constructor
  · intro h
    lia
  · intro h
    lia
theorem lp_g {g n : Int32} (hn : n ≤ 8) : (0 ≤ g - 10 ∧ g - 10 < n) ↔ (10 ≤ g ∧ g - 10 < n) := by
  constructor
  · intro h
    have h7 : g - 10 < 8 := by lia
    exact ⟨by lia, h.2⟩
  · intro h
    exact ⟨by lia, h.2⟩
