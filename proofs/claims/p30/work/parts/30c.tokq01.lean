/-- while the token is read: as far as q -/
def TJ (f : Nat → Int32) (n p s t v q : Int32) : Prop :=
  rn e32 f n p s ∧ ¬ (s < n ∧ e32 (f s.toNatClampNeg)) ∧
  ((t = 0 ∧ ¬ s < n ∧ q = s) ∨ (t = 1 ∧ s < n ∧ nam (f s.toNatClampNeg) ∧ rn nam f n s q) ∨ (t = 2 ∧ s < n ∧ dig (f s.toNatClampNeg) ∧ rn dig f n s q ∧ (q = s → v = 0) ∧ vq f s q v))
/-- the sort that a byte begins -/
def tf (c x : Int32) : Prop := (nam c ∧ x = 1) ∨ (dig c ∧ x = 2) ∨ (c = 59 ∧ x = 3) ∨ (¬ nam c ∧ ¬ dig c ∧ ¬ c = 59 ∧ x = 4)
theorem tf_1 {c x : Int32} (h : tf c x) (e : x = 1) : nam c := by
  rcases h with h | h | h | h <;> first | exact h.1 | exact absurd (h.2.symm.trans e) (by decide) | exact absurd (h.2.2.2.symm.trans e) (by decide)
theorem tf_2 {c x : Int32} (h : tf c x) (e : x = 2) : dig c := by
  rcases h with h | h | h | h <;> first | exact absurd (h.2.symm.trans e) (by decide) | exact h.1 | exact absurd (h.2.2.2.symm.trans e) (by decide)
theorem tf_n1 {c x : Int32} (h : tf c x) (e : nam c) : x = 1 := by
  rcases h with h | h | h | h
  · exact h.2
  · exact absurd e (fun z => nd z h.1)
  · exact absurd e (fun z => n59 z h.1)
  · exact absurd e h.1
theorem tf_n2 {c x : Int32} (h : tf c x) (e : dig c) : x = 2 := by
  rcases h with h | h | h | h
  · exact absurd e (fun z => nd h.1 z)
  · exact h.2
  · exact absurd e (fun z => d59 z h.1)
  · exact absurd e h.2.1
theorem TJ_0 {f : Nat → Int32} {n p s v : Int32} (h : rn e32 f n p s) (h2 : ¬ s < n) : TJ f n p s 0 v s := ⟨h, fun z => h2 z.1, Or.inl ⟨rfl, h2, rfl⟩⟩
theorem TJ_12 {f : Nat → Int32} {n p s t : Int32} (h0 : 0 ≤ s) (hn : n ≤ 160) (h : rn e32 f n p s) (h2 : ¬ (s < n ∧ e32 (f s.toNatClampNeg))) (hs : s < n) (ht : tf (f s.toNatClampNeg) t) (h3 : ¬ t = 3) (h4 : ¬ t = 4) : TJ f n p s t 0 s := by
  refine ⟨h, h2, Or.inr ?_⟩
  rcases ht with z | z | z | z
  · exact Or.inl ⟨z.2, hs, z.1, rn_0⟩
  · exact Or.inr ⟨z.2, hs, z.1, rn_0, fun _ => rfl, ⟨fun q => by exfalso; lia, fun q => by exfalso; lia⟩⟩
  · exact absurd z.2 h3
  · exact absurd z.2.2.2 h4
theorem TJ_s {f : Nat → Int32} {n p s t v q c v' q' : Int32} (h : TJ f n p s t v q) (h0 : 0 ≤ s) (hn : n ≤ 160) (hq : q < n) (hc : f q.toNatClampNeg = c) (ht : tf c t) (hv : t = 2 → q ≤ s + 1 → v' = v * 10 + c - 48) (e : q' = q + 1) : TJ f n p s t v' q' := by
  subst e
  obtain ⟨a1, a2, a3⟩ := h
  refine ⟨a1, a2, ?_⟩
  rcases a3 with ⟨rfl, b, rfl⟩ | ⟨rfl, b, b2, b3⟩ | ⟨rfl, b, b2, b3, b4, b5⟩
  · exact absurd hq b
  · exact Or.inr (Or.inl ⟨rfl, b, b2, rn_up b3 hq hn (by rw [hc]; exact tf_1 ht rfl)⟩)
  · refine Or.inr (Or.inr ⟨rfl, b, b2, rn_up b3 hq hn (by rw [hc]; exact tf_2 ht rfl), fun z => by exfalso; have := b3.1; lia, fun z => ?_, fun z => ?_⟩)
    · have e1 : q = s := by lia
      have := hv rfl (by lia)
      rw [b4 e1] at this
      rw [this, ← e1, hc]
      grind
    · have e1 : q = s + 1 := by lia
      have := hv rfl (by lia)
      rw [b5.1 e1] at this
      rw [this, ← e1, hc]
theorem TJ_e {f : Nat → Int32} {n p s t v q t' : Int32} (h : TJ f n p s t v q) (he : ¬ (q < n ∧ tf (f q.toNatClampNeg) t)) (h2 : t = 2 → q ≤ s + 2 → t' = 2) (h4 : t = 2 → s + 2 < q → t' = 4) (h1 : ¬ t = 2 → t' = t) : TK f n p s t' v q := by
  obtain ⟨a1, a2, a3⟩ := h
  refine ⟨a1, a2, ?_⟩
  rcases a3 with ⟨rfl, b, rfl⟩ | ⟨rfl, b, b2, b3⟩ | ⟨rfl, b, b2, b3, b4, b5⟩
  · exact Or.inl ⟨b, h1 (by decide), rfl⟩
  · exact Or.inr (Or.inl ⟨b, b2, h1 (by decide), b3, fun z => he ⟨z.1, Or.inl ⟨z.2, rfl⟩⟩⟩)
  · refine Or.inr (Or.inr (Or.inl ⟨b, b2, b3, fun z => he ⟨z.1, Or.inr (Or.inl ⟨z.2, rfl⟩)⟩, ?_⟩))
    by_cases z : q ≤ s + 2
    · exact Or.inl ⟨z, h2 rfl z, b5⟩
    · exact Or.inr ⟨by lia, h4 rfl (by lia)⟩
theorem TK_3 {f : Nat → Int32} {n p s t v q : Int32} (h : rn e32 f n p s) (h2 : ¬ (s < n ∧ e32 (f s.toNatClampNeg))) (hs : s < n) (ht : tf (f s.toNatClampNeg) t) (h34 : t = 3 ∨ t = 4) (hv : v = 0) (hq : q = s + 1) : TK f n p s t v q := by
  refine ⟨h, h2, Or.inr (Or.inr (Or.inr ?_))⟩
  rcases ht with z | z | z | z
  · rcases h34 with w | w <;> exact absurd (z.2.symm.trans w) (by decide)
  · rcases h34 with w | w <;> exact absurd (z.2.symm.trans w) (by decide)
  · exact Or.inl ⟨hs, z.1, z.2, hv, hq⟩
  · exact Or.inr ⟨hs, z.1, z.2.1, z.2.2.1, z.2.2.2, hq⟩
