/-! the text, pure: runs of bytes, tokens -/
def e32 (c : Int32) : Prop := c = 32
def nam (c : Int32) : Prop := 97 ≤ c ∧ c ≤ 122
def dig (c : Int32) : Prop := 48 ≤ c ∧ c ≤ 57
/-- from p to q all bytes are of the sort P, and in the text -/
def rn (P : Int32 → Prop) (f : Nat → Int32) (n p q : Int32) : Prop := p ≤ q ∧ ∀ i : Int32, p ≤ i → i < q → i < n ∧ P (f i.toNatClampNeg)
theorem rn_0 {P : Int32 → Prop} {f : Nat → Int32} {n p : Int32} : rn P f n p p := ⟨by grind, fun i h1 h2 => absurd h1 (by grind)⟩
theorem rn_up {P : Int32 → Prop} {f : Nat → Int32} {n p q : Int32} (h : rn P f n p q) (hq : q < n) (hn : n ≤ 160) (hP : P (f q.toNatClampNeg)) : rn P f n p (q + 1) := by
  refine ⟨by have := h.1; lia, fun i h1 h2 => ?_⟩
  by_cases e : i = q
  · rw [e]
    exact ⟨hq, hP⟩
  · exact h.2 i h1 (by lia)
theorem rn_uq {P : Int32 → Prop} {f : Nat → Int32} {n p q q' : Int32} (h : rn P f n p q) (e : ¬ (q < n ∧ P (f q.toNatClampNeg))) (h' : rn P f n p q') (e' : ¬ (q' < n ∧ P (f q'.toNatClampNeg))) : q = q' := by
  by_cases a : q < q'
  · exact absurd (h'.2 q h.1 a) e
  · by_cases b : q' < q
    · exact absurd (h.2 q' h'.1 b) e'
    · lia
/-- what figures are worth -/
def vq (f : Nat → Int32) (s q v : Int32) : Prop := (q = s + 1 → v = f s.toNatClampNeg - 48) ∧ (q = s + 2 → v = (f s.toNatClampNeg - 48) * 10 + f (s + 1).toNatClampNeg - 48)
/-- a token: from p on; it starts at s, is of the sort t, worth v, and ends at q -/
def TK (f : Nat → Int32) (n p s t v q : Int32) : Prop :=
  rn e32 f n p s ∧ ¬ (s < n ∧ e32 (f s.toNatClampNeg)) ∧
  ((¬ s < n ∧ t = 0 ∧ q = s) ∨
   (s < n ∧ nam (f s.toNatClampNeg) ∧ t = 1 ∧ rn nam f n s q ∧ ¬ (q < n ∧ nam (f q.toNatClampNeg))) ∨
   (s < n ∧ dig (f s.toNatClampNeg) ∧ rn dig f n s q ∧ ¬ (q < n ∧ dig (f q.toNatClampNeg)) ∧ ((q ≤ s + 2 ∧ t = 2 ∧ vq f s q v) ∨ (s + 2 < q ∧ t = 4))) ∨
   (s < n ∧ f s.toNatClampNeg = 59 ∧ t = 3 ∧ v = 0 ∧ q = s + 1) ∨
   (s < n ∧ ¬ nam (f s.toNatClampNeg) ∧ ¬ dig (f s.toNatClampNeg) ∧ ¬ f s.toNatClampNeg = 59 ∧ t = 4 ∧ q = s + 1))
theorem nd {c : Int32} (h : nam c) (h' : dig c) : False := by
  unfold nam at h
  unfold dig at h'
  grind
theorem n59 {c : Int32} (h : nam c) (h' : c = 59) : False := by
  unfold nam at h
  grind
theorem d59 {c : Int32} (h : dig c) (h' : c = 59) : False := by
  unfold dig at h
  grind
theorem rn_pos {P : Int32 → Prop} {f : Nat → Int32} {n s q : Int32} (h : rn P f n s q) (e : ¬ (q < n ∧ P (f q.toNatClampNeg))) (hs : s < n) (hP : P (f s.toNatClampNeg)) : s < q := by
  by_cases a : s < q
  · exact a
  · have : q = s := by have := h.1; lia
    exact absurd (by rw [this]; exact ⟨hs, hP⟩) e
theorem TK_uq {f : Nat → Int32} {n p s t v q s' t' v' q' : Int32} (hn : n ≤ 160) (h0 : 0 ≤ p) (h : TK f n p s t v q) (h' : TK f n p s' t' v' q') : s = s' ∧ t = t' ∧ (¬ t = 4 → q = q') ∧ (t = 2 ∨ t = 3 → v = v') := by
  obtain ⟨h1, h2, h3⟩ := h
  obtain ⟨g1, g2, g3⟩ := h'
  have es := rn_uq h1 h2 g1 g2
  subst es
  refine ⟨rfl, ?_⟩
  have s0 : 0 ≤ s := by have := h1.1; lia
  rcases h3 with ⟨a, rfl, rfl⟩ | ⟨a, b, rfl, c, d⟩ | ⟨a, b, c, d, e⟩ | ⟨a, b, rfl, rfl, rfl⟩ | ⟨a, b, c, d, rfl, rfl⟩ <;>
    rcases g3 with ⟨a', rfl, rfl⟩ | ⟨a', b', rfl, c', d'⟩ | ⟨a', b', c', d', e'⟩ | ⟨a', b', rfl, rfl, rfl⟩ | ⟨a', b', c', d', rfl, rfl⟩ <;>
    first
    | exact absurd a a' | exact absurd a' a | exact absurd b' (fun z => nd b z) | exact absurd b (fun z => nd z b') | exact absurd b (fun z => nd b' z) | exact absurd b' (fun z => n59 b z) | exact absurd b (fun z => n59 b' z) | exact absurd b' (fun z => d59 b z) | exact absurd b (fun z => d59 b' z) | exact absurd b b' | exact absurd b' b | exact absurd b c' | exact absurd b' c | exact absurd b d' | exact absurd b' d
    | exact ⟨rfl, fun _ => rfl, fun z => by rcases z with z | z <;> first | rfl | exact absurd z (by decide)⟩
    | exact ⟨rfl, fun _ => rn_uq c d c' d', fun z => by rcases z with z | z <;> exact absurd z (by decide)⟩
    | exact ⟨rfl, fun z => absurd rfl z, fun z => by rcases z with z | z <;> exact absurd z (by decide)⟩
    | skip
  have eq := rn_uq c d c' d'
  subst eq
  have hp := rn_pos c d a b
  rcases e with ⟨e1, rfl, e2⟩ | ⟨e1, rfl⟩ <;> rcases e' with ⟨e1', rfl, e2'⟩ | ⟨e1', rfl⟩
  · refine ⟨rfl, fun _ => rfl, fun _ => ?_⟩
    by_cases z : q = s + 1
    · rw [e2.1 z, e2'.1 z]
    · have z2 : q = s + 2 := by lia
      rw [e2.2 z2, e2'.2 z2]
  · exfalso; lia
  · exfalso; lia
  · exact ⟨rfl, fun _ => rfl, fun z => by rcases z with z | z <;> exact absurd z (by decide)⟩
