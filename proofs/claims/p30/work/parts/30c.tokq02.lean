theorem tf_uq {c x y : Int32} (h : tf c x) (h' : tf c y) : x = y := by
  rcases h' with z | z | z | z
  · exact (tf_n1 h z.1).trans z.2.symm
  · exact (tf_n2 h z.1).trans z.2.symm
  · rcases h with w | w | w | w
    · exact absurd w.1 (fun k => n59 k z.1)
    · exact absurd w.1 (fun k => d59 k z.1)
    · exact w.2.trans z.2.symm
    · exact absurd z.1 w.2.2.1
  · rcases h with w | w | w | w
    · exact absurd w.1 z.1
    · exact absurd w.1 z.2.1
    · exact absurd w.1 z.2.2.1
    · exact w.2.2.2.trans z.2.2.2.symm
/-- a word's letter -/
def chj (j : Nat) (i : Int32) : Int32 := (((((uk_sByt.getD j []).getD i.toNatClampNeg 0) &&& 255).toUInt32 % 65536).toInt32)
def nmp (f : Nat → Int32) (s : Int32) (j : Nat) (k : Int32) : Prop := ∀ i : Int32, 0 ≤ i → i < k → f (s + i).toNatClampNeg = chj j i
/-- from s to q stands the word j -/
def nmj (f : Nat → Int32) (s q : Int32) (j : Nat) : Prop := q - s = Int32.ofNat (uk_sLen.getD j 0) ∧ nmp f s j (Int32.ofNat (uk_sLen.getD j 0))
theorem nmp_0 {f : Nat → Int32} {s : Int32} {j : Nat} : nmp f s j 0 := fun i h0 h1 => absurd h0 (by grind)
theorem nmp_up {f : Nat → Int32} {s k : Int32} {j : Nat} (h : nmp f s j k) (h0 : 0 ≤ k) (h9 : k ≤ 4) (e : f (s + k).toNatClampNeg = chj j k) : nmp f s j (k + 1) := fun i i0 i1 => by
  by_cases z : i = k
  · rw [z]
    exact e
  · exact h i i0 (by lia)
theorem nmp_le {f : Nat → Int32} {s k k' : Int32} {j : Nat} (h : nmp f s j k) (e : k' ≤ k) : nmp f s j k' := fun i i0 i1 => h i i0 (by grind)
theorem nmj_uq {f : Nat → Int32} {s q : Int32} {i j : Nat} (hi : i < 6) (hj : j < 6) (h : nmj f s q i) (h' : nmj f s q j) : i = j := by
  obtain ⟨a, b⟩ := h
  obtain ⟨a', b'⟩ := h'
  have el := a.symm.trans a'
  rcases (show i = 0 ∨ i = 1 ∨ i = 2 ∨ i = 3 ∨ i = 4 ∨ i = 5 by omega) with rfl | rfl | rfl | rfl | rfl | rfl <;> rcases (show j = 0 ∨ j = 1 ∨ j = 2 ∨ j = 3 ∨ j = 4 ∨ j = 5 by omega) with rfl | rfl | rfl | rfl | rfl | rfl <;> first | rfl | exact absurd el (by decide) | exact absurd ((b 0 (by decide) (by decide)).symm.trans (b' 0 (by decide) (by decide))) (by decide) | exact absurd ((b 1 (by decide) (by decide)).symm.trans (b' 1 (by decide) (by decide))) (by decide)
/-- which line a token begins -/
def ln (f : Nat → Int32) (t s q x : Int32) : Prop := (∃ j : Nat, j < 6 ∧ t = 1 ∧ nmj f s q j ∧ x = [4, 0, 1, 2, 3, 5].getD j (0 : Int32)) ∨ ((∀ j : Nat, j < 6 → ¬ (t = 1 ∧ nmj f s q j)) ∧ x = -1)
theorem ln_uq {f : Nat → Int32} {t s q x y : Int32} (h : ln f t s q x) (h' : ln f t s q y) : x = y := by
  rcases h with ⟨j, hj, h1, h2, rfl⟩ | ⟨h1, rfl⟩ <;> rcases h' with ⟨i, hi, g1, g2, rfl⟩ | ⟨g1, rfl⟩
  · rw [nmj_uq hj hi h2 g2]
  · exact absurd ⟨h1, h2⟩ (g1 j hj)
  · exact absurd ⟨g1, g2⟩ (h1 i hi)
  · rfl
theorem rn_cg {P : Int32 → Prop} {f g : Nat → Int32} {n p q : Int32} (h : cpy f g n) (h0 : 0 ≤ p) (hr : rn P f n p q) : rn P g n p q := ⟨hr.1, fun i i0 i1 => by
  have := hr.2 i i0 i1
  rw [← h i (by grind) this.1]
  exact this⟩
theorem TK_cg {f g : Nat → Int32} {n p s t v q : Int32} (h : cpy f g n) (h0 : 0 ≤ p) (hn : n ≤ 160) (hT : TK f n p s t v q) : TK g n p s t v q := by
  obtain ⟨h1, h2, h3⟩ := hT
  have s0 : 0 ≤ s := by have := h1.1; lia
  have en : ∀ (P : Int32 → Prop) (r : Int32), 0 ≤ r → ¬ (r < n ∧ P (f r.toNatClampNeg)) → ¬ (r < n ∧ P (g r.toNatClampNeg)) := fun P r r0 z w => z ⟨w.1, by rw [h r r0 w.1]; exact w.2⟩
  refine ⟨rn_cg h h0 h1, en e32 s s0 h2, ?_⟩
  rcases h3 with ⟨a, b, c⟩ | ⟨a, b, c, d, e⟩ | ⟨a, b, c, d, e⟩ | ⟨a, b, c⟩ | ⟨a, b, c, d, e⟩
  · exact Or.inl ⟨a, b, c⟩
  · exact Or.inr (Or.inl ⟨a, by rw [← h s s0 a]; exact b, c, rn_cg h s0 d, en nam q (by have := d.1; lia) e⟩)
  · refine Or.inr (Or.inr (Or.inl ⟨a, by rw [← h s s0 a]; exact b, rn_cg h s0 c, en dig q (by have := c.1; lia) d, ?_⟩))
    rcases e with ⟨e1, e2, e3⟩ | e
    · refine Or.inl ⟨e1, e2, fun z => ?_, fun z => ?_⟩
      · rw [← h s s0 a]
        exact e3.1 z
      · have z2 := (c.2 (s + 1) (by lia) (by lia)).1
        rw [← h s s0 a, ← h (s + 1) (by lia) z2]
        exact e3.2 z
    · exact Or.inr e
  · exact Or.inr (Or.inr (Or.inr (Or.inl ⟨a, by rw [← h s s0 a]; exact b, c⟩)))
  · exact Or.inr (Or.inr (Or.inr (Or.inr ⟨a, by rw [← h s s0 a]; exact b, by rw [← h s s0 a]; exact c, by rw [← h s s0 a]; exact d, e⟩)))
