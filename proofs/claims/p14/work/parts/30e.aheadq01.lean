theorem Sr_u {f : Nat → Int32} {n : Int32} {u : uk_Mem} {a : PS} {c i : Nat} {x : Int32} (h : Sr f n u a) (hc : c ≠ 69) (hi : c = 60 → i ∉ [13, 14, 15, 16, 17, 18, 19]) : Sr f n (uk_up u c i x) a := by
  have e : ∀ k : Nat, k ∈ [13, 14, 15, 16, 17, 18, 19] → (uk_up u c i x).1 60 k = u.1 60 k := fun k hk => by
    rw [uk_up_at, if_neg (fun q : 60 = c ∧ k = i => hi q.1.symm (q.2 ▸ hk))]
  unfold Sr ah
  rw [e 13 (by decide), e 14 (by decide), e 15 (by decide), e 16 (by decide), e 17 (by decide), e 18 (by decide), e 19 (by decide), uk_up_oc hc.symm]
  exact h
theorem nm3 {f : Nat → Int32} {s q : Int32} {j : Nat} {a b c : Int32} (hl : Int32.ofNat (uk_sLen.getD j 0) = 3) (h0 : chj j 0 = a) (h1 : chj j 1 = b) (h2 : chj j 2 = c) : nmj f s q j ↔ (q - s = 3 ∧ f s.toNatClampNeg = a ∧ f (s + 1).toNatClampNeg = b ∧ f (s + 2).toNatClampNeg = c) := by
  unfold nmj nmp
  rw [hl]
  constructor
  · rintro ⟨z, w⟩
    refine ⟨z, ?_, (w 1 (by decide) (by decide)).trans h1, (w 2 (by decide) (by decide)).trans h2⟩
    have := (w 0 (by decide) (by decide)).trans h0
    rwa [Int32.add_zero] at this
  · rintro ⟨z, w0, w1, w2⟩
    refine ⟨z, fun i i0 i1 => ?_⟩
    rcases (show i = 0 ∨ i = 1 ∨ i = 2 by lia) with rfl | rfl | rfl
    · rw [Int32.add_zero, w0, h0]
    · rw [w1, h1]
    · rw [w2, h2]
theorem nm4 {f : Nat → Int32} {s q : Int32} {j : Nat} {a b c d : Int32} (hl : Int32.ofNat (uk_sLen.getD j 0) = 4) (h0 : chj j 0 = a) (h1 : chj j 1 = b) (h2 : chj j 2 = c) (h3 : chj j 3 = d) : nmj f s q j ↔ ((q - s = 4 ∧ f s.toNatClampNeg = a ∧ f (s + 1).toNatClampNeg = b ∧ f (s + 2).toNatClampNeg = c) ∧ f (s + 3).toNatClampNeg = d) := by
  unfold nmj nmp
  rw [hl]
  constructor
  · rintro ⟨z, w⟩
    refine ⟨⟨z, ?_, (w 1 (by decide) (by decide)).trans h1, (w 2 (by decide) (by decide)).trans h2⟩, (w 3 (by decide) (by decide)).trans h3⟩
    have := (w 0 (by decide) (by decide)).trans h0
    rwa [Int32.add_zero] at this
  · rintro ⟨⟨z, w0, w1, w2⟩, w3⟩
    refine ⟨z, fun i i0 i1 => ?_⟩
    rcases (show i = 0 ∨ i = 1 ∨ i = 2 ∨ i = 3 by lia) with rfl | rfl | rfl | rfl
    · rw [Int32.add_zero, w0, h0]
    · rw [w1, h1]
    · rw [w2, h2]
    · rw [w3, h3]
/-- the reference's number of a line: -4 for none -/
def lnr (f : Nat → Int32) (s q x : Int32) : Prop := (x = -4 ∧ ln f 1 s q (-1)) ∨ (¬ x = -4 ∧ ¬ x = -1 ∧ ln f 1 s q x)
theorem TK_30 {f : Nat → Int32} {n p s t v q : Int32} (h : TK f n p s t v q) (ht : t = 3) : v = 0 := by
  obtain ⟨h1, h2, h3⟩ := h
  rcases h3 with ⟨a, b, c⟩ | ⟨a, b, c, d, e⟩ | ⟨a, b, c, d, e⟩ | ⟨a, b, c, d, e⟩ | ⟨a, b, c, d, e, g⟩
  · exact absurd (b.symm.trans ht) (by decide)
  · exact absurd (c.symm.trans ht) (by decide)
  · rcases e with ⟨-, e, -⟩ | ⟨-, e⟩ <;> exact absurd (e.symm.trans ht) (by decide)
  · exact d
  · exact absurd (e.symm.trans ht) (by decide)
/-- is it the line's end -/
def stp (u u' : uk_Mem) : Prop := (¬ u.1 60 18 = 0 ∧ u'.1 60 18 = u.1 60 18 ∧ u'.1 60 19 = u.1 60 19) ∨ (u.1 60 18 = 0 ∧ ¬ u.1 60 16 = 3 ∧ u'.1 60 18 = 2 ∧ u'.1 60 19 = u.1 60 15) ∨ (u.1 60 18 = 0 ∧ u.1 60 16 = 3 ∧ u'.1 60 18 = 0)
theorem Sr_stop {f : Nat → Int32} {n : Int32} {u u1 u2 : uk_Mem} {a : PS} (hn : n ≤ 160) (hc : Sr f n u a) (hl : stp u u1) (hx : nxd u1 u2) (e14 : u1.1 60 14 = u.1 60 14) (e13 : u1.1 60 13 = u.1 60 13) (e69 : u1.1 69 = u.1 69) (g13 : u2.1 60 13 = u1.1 60 13) (g69 : u2.1 69 = u1.1 69) : Sr f n u2 (pTake f n a 3 0).1 := by
  obtain ⟨c1, c2, c3⟩ := hc
  have d1 : cpy (u2.1 69) f n := by rw [g69, e69]; exact c1
  have d2 : u2.1 60 13 = n := (g13.trans e13).trans c2
  rcases c3 with ⟨b1, b2, b3⟩ | ⟨b1, b2, b3⟩
  · have hF : ¬ u.1 60 18 = 0 := fun z => b1 (b2.symm.trans z)
    have e : pTake f n a 3 0 = (a, 0) := if_pos b1
    rw [e]
    rcases hl with ⟨l1, l2, l3⟩ | ⟨l1, l2⟩ | ⟨l1, l2⟩
    · have hs := hx.2 (fun z => hF (l2.symm.trans z))
      exact ⟨d1, d2, Or.inl ⟨b1, hs.1.trans (l2.trans b2), hs.2.trans (l3.trans b3)⟩⟩
    · exact absurd l1 hF
    · exact absurd l1 hF
  · obtain ⟨s, t, v, q, ht, hh⟩ := b3
    obtain ⟨k1, k2, k3, k4⟩ := tk_eq hn b2.1 ht
    have bad : ∀ k : Int32, ¬ k = 0 → pTake f n a 3 0 = (pBad a k s, 0) → u1.1 60 18 = k → u1.1 60 19 = s → Sr f n u2 (pTake f n a 3 0).1 := by
      intro k hk e f1 f2
      have hs := hx.2 (fun z => hk (f1.symm.trans z))
      rw [e]
      exact ⟨d1, d2, Or.inl ⟨hk, hs.1.trans f1, hs.2.trans f2⟩⟩
    have p0 : pTake f n a 3 0 = if t = 4 then (pBad a 1 s, 0) else if ¬ t = 3 then (pBad a 2 s, 0) else if 0 < (tk f n a.2.2.2.2).2.2.1 then (pBad a 3 s, 0) else ((0, a.2.1, a.2.2.1, a.2.2.2.1, (tk f n a.2.2.2.2).2.2.2), (tk f n a.2.2.2.2).2.2.1) := by
      unfold pTake
      rw [if_neg (fun z => z b1), k1, k2]
    rcases hh with ⟨g1, g2, g3⟩ | ⟨g1, g2, g3, g4, g5, g6⟩
    · rcases hl with ⟨l1, l2, l3⟩ | ⟨l1, l2⟩ | ⟨l1, l2⟩
      · exact bad 1 (by decide) (by rw [p0, if_pos g1]) (l2.trans g2) (l3.trans g3)
      · exact absurd (l1.symm.trans g2) (by decide)
      · exact absurd (l1.symm.trans g2) (by decide)
    · rcases hl with ⟨l1, l2, l3⟩ | ⟨l1, l2, l3, l4⟩ | ⟨l1, l2, l3⟩
      · exact absurd g2 l1
      · have t2 : ¬ t = 3 := fun z => l2 (g4.trans z)
        exact bad 2 (by decide) (by rw [p0, if_neg g1, if_pos t2]) l3 (l4.trans g3)
      · have t2 : t = 3 := g4.symm.trans l2
        have hv := TK_30 ht t2
        have hle := TK_le hn b2.1 ht
        have e : pTake f n a 3 0 = ((0, a.2.1, a.2.2.1, a.2.2.2.1, q), v) := by
          rw [p0, if_neg g1, if_neg (fun z => z t2), k4 (Or.inr t2), k3 g1, if_neg (by rw [hv]; decide)]
        have ha := hx.1 l3
        rw [e69, e13, e14, c2, g6] at ha
        rw [e]
        exact ⟨d1, d2, Or.inr ⟨rfl, (show 0 ≤ q ∧ q ≤ n from ⟨by grind, TK_qn hn b2.1 b2.2 ht g1⟩), ah_cg c1 (by grind) hn ha⟩⟩
