/-- told, and the highest of what it tells of -/
def hi9 (tb h : Int32) : Prop := ∃ t : Nat, t < 256 ∧ tb = nI t ∧ ((t = 0 ∧ h = -4) ∨ ∃ k : Nat, k < 8 ∧ h = nI k ∧ 2 ^ k ≤ t ∧ t < 2 ^ (k + 1))
theorem h9_1 : ∀ t, t < 256 → ∀ j, j < 8 → nI t ||| ((1 : Int32) <<< nI j) = nI (t ||| 2 ^ j) := by decide +kernel
theorem h9_2 : ∀ t, t < 256 → ∀ s, s < 9 → ((nI t >>> nI s = 0) ↔ t < 2 ^ s) := by decide +kernel
theorem h9_3 : ∀ t, t < 256 → ∀ j, j < 8 → (t ||| 2 ^ j) < 256 ∧ (t < 2 ^ (j + 1) → 2 ^ j ≤ (t ||| 2 ^ j) ∧ (t ||| 2 ^ j) < 2 ^ (j + 1)) := by decide +kernel
theorem h9_4 : ∀ t, t < 256 → ∀ j, j < 8 → ∀ k, k < 8 → (¬ (j ≤ k ∧ t < 2 ^ (k + 1)) ∨ ((t ||| 2 ^ j) < 2 ^ (k + 1) ∧ t ≤ (t ||| 2 ^ j))) := by decide +kernel
theorem hi9_0 : hi9 0 (-4) := ⟨0, by decide, rfl, Or.inl ⟨rfl, rfl⟩⟩
theorem hi9_up {tb h m h' : Int32} (H : hi9 tb h) (h0 : 0 ≤ m) (h7 : m ≤ 7) (e1 : h < m → h' = m) (e2 : ¬ h < m → h' = h) : hi9 (tb ||| ((1 : Int32) <<< m)) h' := by
  obtain ⟨j, hj, rfl⟩ := nI_of2 (x := m) (M := 7) (n := 7) rfl (by grind) h7
  obtain ⟨t, ht, rfl, hh⟩ := H
  obtain ⟨a1, a2⟩ := h9_3 t ht j (by omega)
  refine ⟨t ||| 2 ^ j, a1, h9_1 t ht j (by omega), Or.inr ?_⟩
  rcases hh with ⟨rfl, rfl⟩ | ⟨k, hk, rfl, k1, k2⟩
  · have := e1 (by have : (0 : Int32) ≤ nI j := h0; grind)
    exact ⟨j, by omega, this, a2 (Nat.two_pow_pos _)⟩
  · by_cases z : k < j
    · have := e1 (nI_lt z (by omega))
      refine ⟨j, by omega, this, a2 (Nat.lt_of_lt_of_le k2 (Nat.pow_le_pow_right (by omega) (by omega)))⟩
    · have := e2 (nI_nlt (by omega) (by omega))
      obtain ⟨b1, b2⟩ := (h9_4 t ht j (by omega) k hk).resolve_left (fun w => w ⟨by omega, k2⟩)
      exact ⟨k, hk, this, Nat.le_trans k1 b2, b1⟩
theorem hi9_s {tb h s : Int32} (H : hi9 tb h) (s0 : 0 ≤ s) (s8 : s ≤ 8) : (tb >>> s = 0) ↔ h < s := by
  obtain ⟨j, hj, rfl⟩ := nI_of2 (x := s) (M := 8) (n := 8) rfl (by grind) s8
  obtain ⟨t, ht, rfl, hh⟩ := H
  rw [h9_2 t ht j (by omega)]
  rcases hh with ⟨rfl, rfl⟩ | ⟨k, hk, rfl, k1, k2⟩
  · constructor
    · intro _
      grind
    · intro _
      exact Nat.two_pow_pos _
  · rw [nI_ltI (by omega) (by omega)]
    constructor
    · intro z
      rcases Nat.lt_or_ge k j with w | w
      · exact w
      · exact absurd (Nat.le_trans (Nat.pow_le_pow_right (by omega) w) k1) (by omega)
    · intro z
      exact Nat.lt_of_lt_of_le k2 (Nat.pow_le_pow_right (by omega) (by omega))
theorem and1 {x z : Int32} (h : z = x &&& 1) : z = 0 ∨ z = 1 := by
  obtain ⟨j, hj, e⟩ := pk_andE x (m := 1) 1 rfl
  rw [h, e]
  rcases (show j = 0 ∨ j = 1 by omega) with rfl | rfl
  · exact Or.inl rfl
  · exact Or.inr rfl
theorem pTake_told {f : Nat → Int32} {n w m : Int32} {a : PS} : (pTake f n a w m).1.2.2.1 = a.2.2.1 ∧ (pTake f n a w m).1.2.2.2.1 = a.2.2.2.1 := by
  unfold pTake
  split
  · exact ⟨rfl, rfl⟩
  · split
    · exact ⟨rfl, rfl⟩
    · split
      · exact ⟨rfl, rfl⟩
      · split <;> exact ⟨rfl, rfl⟩
theorem pTwice_told {b : PS} {m s : Int32} : (pTwice b m s).2.2.1 = b.2.2.1 ∧ (pTwice b m s).2.2.2.1 = b.2.2.2.1 := by
  unfold pTwice
  split <;> exact ⟨rfl, rfl⟩
theorem Sr_0 {f : Nat → Int32} {n : Int32} {u : uk_Mem} {a : PS} (h : Sr f n u a) (h0 : u.1 60 18 = 0) : a.1 = 0 := by
  rcases h.2.2 with ⟨b1, b2, -⟩ | ⟨b1, -⟩
  · exact absurd (b2.symm.trans h0) b1
  · exact b1
theorem Sr_open {f : Nat → Int32} {n : Int32} {u : uk_Mem} {a : PS} (h : Sr f n u a) (h0 : u.1 60 18 = 0) : a.1 = 0 ∧ 0 ≤ a.2.2.2.2 ∧ a.2.2.2.2 ≤ n ∧ ¬ u.1 60 16 = 4 ∧ ∃ v, TK f n a.2.2.2.2 (u.1 60 15) (u.1 60 16) v (u.1 60 14) := by
  rcases h.2.2 with ⟨b1, b2, -⟩ | ⟨b1, b2, s, t, v, q, ht, hh⟩
  · exact absurd (b2.symm.trans h0) b1
  · rcases hh with ⟨g1, g2, g3⟩ | ⟨g1, g2, g3, g4, g5, g6⟩
    · exact absurd (h0.symm.trans g2) (by decide)
    · exact ⟨b1, b2.1, b2.2, fun z => g1 (g4.symm.trans z), v, by rw [g3, g4, g6]; exact ht⟩
/-- the same place, the same fault -/
theorem Sr_like {f : Nat → Int32} {n : Int32} {u : uk_Mem} {a b : PS} (h : Sr f n u a) (e1 : b.1 = a.1) (e2 : b.2.1 = a.2.1) (e5 : b.2.2.2.2 = a.2.2.2.2) : Sr f n u b := by
  unfold Sr
  rw [e1, e2, e5]
  exact h
