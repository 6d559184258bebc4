/-! the reference's reader: one token ahead -/
def ah (f : Nat → Int32) (n p : Int32) (u : uk_Mem) : Prop := ∃ s t v q, TK f n p s t v q ∧ ((t = 4 ∧ u.1 60 18 = 1 ∧ u.1 60 19 = s) ∨ (¬ t = 4 ∧ u.1 60 18 = 0 ∧ u.1 60 15 = s ∧ u.1 60 16 = t ∧ (t = 2 → u.1 60 17 = v) ∧ u.1 60 14 = q))
theorem ah_G {f : Nat → Int32} {n p s t v q : Int32} {u : uk_Mem} (h : TK f n p s t v q) (h4 : ¬ t = 4) (e18 : u.1 60 18 = 0) (e15 : u.1 60 15 = s) (e16 : u.1 60 16 = t) (e17 : t = 2 → u.1 60 17 = v) (e14 : u.1 60 14 = q) : ah f n p u := ⟨s, t, v, q, h, Or.inr ⟨h4, e18, e15, e16, e17, e14⟩⟩
theorem ah_D {f : Nat → Int32} {n p s v q : Int32} {u : uk_Mem} (hj : TJ f n p s 2 v q) (EX : ¬ (q < n ∧ tf (f q.toNatClampNeg) 2)) (h : (q ≤ s + 2 ∧ u.1 60 18 = 0) ∨ (s + 2 < q ∧ u.1 60 18 = 1 ∧ u.1 60 19 = s)) (e15 : u.1 60 15 = s) (e16 : u.1 60 16 = 2) (e17 : u.1 60 17 = v) (e14 : u.1 60 14 = q) : ah f n p u := by
  rcases h with ⟨h1, h2⟩ | ⟨h1, h2, h3⟩
  · exact ah_G (TJ_e (t' := 2) hj EX (fun _ _ => rfl) (fun _ z => absurd h1 (by grind)) (fun z => absurd rfl z)) (by decide) h2 e15 e16 (fun _ => e17) e14
  · exact ⟨s, 4, v, q, TJ_e (t' := 4) hj EX (fun _ z => absurd h1 (by grind)) (fun _ _ => rfl) (fun z => absurd rfl z), Or.inl ⟨rfl, h2, h3⟩⟩
theorem ah_S {f : Nat → Int32} {n p s : Int32} {u : uk_Mem} (RN : rn e32 f n p s) (NN : ¬ (s < n ∧ e32 (f s.toNatClampNeg))) (hs : s < n) (h1 : ¬ nam (f s.toNatClampNeg)) (h2 : ¬ dig (f s.toNatClampNeg)) (h : (f s.toNatClampNeg = 59 ∧ u.1 60 18 = 0) ∨ (¬ f s.toNatClampNeg = 59 ∧ u.1 60 18 = 1 ∧ u.1 60 19 = s)) (e15 : u.1 60 15 = s) (e16 : u.1 60 16 = 3) (e14 : u.1 60 14 = s + 1) : ah f n p u := by
  rcases h with ⟨g1, g2⟩ | ⟨g1, g2, g3⟩
  · exact ah_G (TK_3 (t := 3) (v := 0) RN NN hs (Or.inr (Or.inr (Or.inl ⟨g1, rfl⟩))) (Or.inl rfl) rfl rfl) (by decide) g2 e15 e16 (fun z => absurd z (by decide)) e14
  · exact ⟨s, 4, 0, s + 1, TK_3 RN NN hs (Or.inr (Or.inr (Or.inr ⟨h1, h2, g1, rfl⟩))) (Or.inr rfl) rfl rfl, Or.inl ⟨rfl, g2, g3⟩⟩
theorem TK_qn {f : Nat → Int32} {n p s t v q : Int32} (hn : n ≤ 160) (h0 : 0 ≤ p) (hp : p ≤ n) (h : TK f n p s t v q) (h4 : ¬ t = 4) : q ≤ n := by
  obtain ⟨h1, h2, h3⟩ := h
  have s0 := h1.1
  have rq : ∀ (P : Int32 → Prop) (r w : Int32), 0 ≤ r → r ≤ n → rn P f n r w → w ≤ n := fun P r w r0 r1 hr => by
    by_cases z : r < w
    · have := (hr.2 (w - 1) (by lia) (by lia)).1
      lia
    · have := hr.1
      lia
  have sn := rq e32 p s h0 hp h1
  rcases h3 with ⟨a, b, rfl⟩ | ⟨a, b, c, d, e⟩ | ⟨a, b, c, d, e⟩ | ⟨a, b, c, d, rfl⟩ | ⟨a, b, c, d, e, rfl⟩
  · exact sn
  · exact rq nam s q (by lia) sn d
  · exact rq dig s q (by lia) sn c
  · lia
  · exact absurd e h4
/-- the reference's reader is at a: its token is read already -/
def Sr (f : Nat → Int32) (n : Int32) (u : uk_Mem) (a : PS) : Prop := cpy (u.1 69) f n ∧ u.1 60 13 = n ∧ ((¬ a.1 = 0 ∧ u.1 60 18 = a.1 ∧ u.1 60 19 = a.2.1) ∨ (a.1 = 0 ∧ (0 ≤ a.2.2.2.2 ∧ a.2.2.2.2 ≤ n) ∧ ah f n a.2.2.2.2 u))
theorem ah_cg {f g : Nat → Int32} {n p : Int32} {u : uk_Mem} (h : cpy f g n) (h0 : 0 ≤ p) (hn : n ≤ 160) (ha : ah f n p u) : ah g n p u := by
  obtain ⟨s, t, v, q, h1, h2⟩ := ha
  exact ⟨s, t, v, q, TK_cg h h0 hn h1, h2⟩
/-- what looked does -/
def lkd (lo hi : Int32) (u u' : uk_Mem) (x : Int32) : Prop :=
  (¬ u.1 60 18 = 0 ∧ u'.1 60 18 = u.1 60 18 ∧ u'.1 60 19 = u.1 60 19 ∧ x = 0) ∨
  (u.1 60 18 = 0 ∧ ¬ u.1 60 16 = 2 ∧ u'.1 60 18 = 2 ∧ u'.1 60 19 = u.1 60 15 ∧ x = 0) ∨
  (u.1 60 18 = 0 ∧ u.1 60 16 = 2 ∧ (u.1 60 17 < lo ∨ hi < u.1 60 17) ∧ u'.1 60 18 = 3 ∧ u'.1 60 19 = u.1 60 15 ∧ x = 0) ∨
  (u.1 60 18 = 0 ∧ u.1 60 16 = 2 ∧ lo ≤ u.1 60 17 ∧ u.1 60 17 ≤ hi ∧ u'.1 60 18 = 0 ∧ x = u.1 60 17)
/-- what next does -/
def nxd (u u' : uk_Mem) : Prop := (u.1 60 18 = 0 → ah (u.1 69) (u.1 60 13) (u.1 60 14) u') ∧ (¬ u.1 60 18 = 0 → u'.1 60 18 = u.1 60 18 ∧ u'.1 60 19 = u.1 60 19)
theorem Sr_num {f : Nat → Int32} {n hi x : Int32} {u u1 u2 : uk_Mem} {a : PS} (hn : n ≤ 160) (hc : Sr f n u a) (hl : lkd 0 hi u u1 x) (hx : nxd u1 u2) (e14 : u1.1 60 14 = u.1 60 14) (e13 : u1.1 60 13 = u.1 60 13) (e69 : u1.1 69 = u.1 69) (g13 : u2.1 60 13 = u1.1 60 13) (g69 : u2.1 69 = u1.1 69) : Sr f n u2 (pTake f n a 2 hi).1 ∧ x = (pTake f n a 2 hi).2 := by
  obtain ⟨c1, c2, c3⟩ := hc
  have d1 : cpy (u2.1 69) f n := by rw [g69, e69]; exact c1
  have d2 : u2.1 60 13 = n := (g13.trans e13).trans c2
  rcases c3 with ⟨b1, b2, b3⟩ | ⟨b1, b2, b3⟩
  · have hF : ¬ u.1 60 18 = 0 := fun z => b1 (b2.symm.trans z)
    have e : pTake f n a 2 hi = (a, 0) := if_pos b1
    rw [e]
    rcases hl with ⟨l1, l2, l3, l4⟩ | ⟨l1, l2⟩ | ⟨l1, l2⟩ | ⟨l1, l2⟩
    · have hs := hx.2 (fun z => hF (l2.symm.trans z))
      exact ⟨⟨d1, d2, Or.inl ⟨b1, hs.1.trans (l2.trans b2), hs.2.trans (l3.trans b3)⟩⟩, l4⟩
    · exact absurd l1 hF
    · exact absurd l1 hF
    · exact absurd l1 hF
  · obtain ⟨s, t, v, q, ht, hh⟩ := b3
    obtain ⟨k1, k2, k3, k4⟩ := tk_eq hn b2.1 ht
    have bad : ∀ k : Int32, ¬ k = 0 → pTake f n a 2 hi = (pBad a k s, 0) → u1.1 60 18 = k → u1.1 60 19 = s → x = 0 → Sr f n u2 (pTake f n a 2 hi).1 ∧ x = (pTake f n a 2 hi).2 := by
      intro k hk e f1 f2 hx0
      have hs := hx.2 (fun z => hk (f1.symm.trans z))
      rw [e]
      exact ⟨⟨d1, d2, Or.inl ⟨hk, hs.1.trans f1, hs.2.trans f2⟩⟩, hx0⟩
    have p0 : pTake f n a 2 hi = if t = 4 then (pBad a 1 s, 0) else if ¬ t = 2 then (pBad a 2 s, 0) else if hi < (tk f n a.2.2.2.2).2.2.1 then (pBad a 3 s, 0) else ((0, a.2.1, a.2.2.1, a.2.2.2.1, (tk f n a.2.2.2.2).2.2.2), (tk f n a.2.2.2.2).2.2.1) := by
      unfold pTake
      rw [if_neg (fun z => z b1), k1, k2]
    rcases hh with ⟨g1, g2, g3⟩ | ⟨g1, g2, g3, g4, g5, g6⟩
    · rcases hl with ⟨l1, l2, l3, l4⟩ | ⟨l1, l2⟩ | ⟨l1, l2⟩ | ⟨l1, l2⟩
      · exact bad 1 (by decide) (by rw [p0, if_pos g1]) (l2.trans g2) (l3.trans g3) l4
      · exact absurd (l1.symm.trans g2) (by decide)
      · exact absurd (l1.symm.trans g2) (by decide)
      · exact absurd (l1.symm.trans g2) (by decide)
    · rcases hl with ⟨l1, l2, l3, l4⟩ | ⟨l1, l2, l3, l4, l5⟩ | ⟨l1, l2, l3, l4, l5, l6⟩ | ⟨l1, l2, l3, l4, l5, l6⟩
      · exact absurd g2 l1
      · have t2 : ¬ t = 2 := fun z => l2 (g4.trans z)
        exact bad 2 (by decide) (by rw [p0, if_neg g1, if_pos t2]) l3 (l4.trans g3) l5
      · have t2 : t = 2 := g4.symm.trans l2
        have hv := TK_v hn b2.1 ht t2
        rw [g5 t2] at l3
        have l3' : hi < v := l3.resolve_left (by grind)
        exact bad 3 (by decide) (by rw [p0, if_neg g1, if_neg (fun z => z t2), k4 (Or.inl t2), if_pos l3']) l4 (l5.trans g3) l6
      · have t2 : t = 2 := g4.symm.trans l2
        have hv := TK_v hn b2.1 ht t2
        have hle := TK_le hn b2.1 ht
        rw [g5 t2] at l3 l4 l6
        have e : pTake f n a 2 hi = ((0, a.2.1, a.2.2.1, a.2.2.2.1, q), v) := by
          rw [p0, if_neg g1, if_neg (fun z => z t2), k4 (Or.inl t2), k3 g1, if_neg (by grind)]
        have ha := hx.1 l5
        rw [e69, e13, e14, c2, g6] at ha
        rw [e]
        exact ⟨⟨d1, d2, Or.inr ⟨rfl, (show 0 ≤ q ∧ q ≤ n from ⟨by grind, TK_qn hn b2.1 b2.2 ht g1⟩), ah_cg c1 (by grind) hn ha⟩⟩, l6⟩
theorem Sr_u {f : Nat → Int32} {n : Int32} {u : uk_Mem} {a : PS} {c i : Nat} {x : Int32} (h : Sr f n u a) (hc : c ≠ 69) (hi : c = 60 → i ∉ [13, 14, 15, 16, 17, 18, 19]) : Sr f n (uk_up u c i x) a := by
  have e : ∀ k : Nat, k ∈ [13, 14, 15, 16, 17, 18, 19] → (uk_up u c i x).1 60 k = u.1 60 k := fun k hk => by
    rw [uk_up_at, if_neg (fun q : 60 = c ∧ k = i => hi q.1.symm (q.2 ▸ hk))]
  unfold Sr ah
  rw [e 13 (by decide), e 14 (by decide), e 15 (by decide), e 16 (by decide), e 17 (by decide), e 18 (by decide), e 19 (by decide), uk_up_oc hc.symm]
  exact h
theorem nm3 {f : Nat → Int32} {s q : Int32} {j : Nat} {a b c : Int32} (hl : Int32.ofNat (uk_sLen.getD j 0) = 3) (h0 : chj j 0 = a) (h1 : chj j 1 = b) (h2 : chj j 2 = c) : nmj f s q j ↔ (q - s = 3 ∧ f s.toNatClampNeg = a ∧ f (s + 1).toNatClampNeg = b ∧ f (s + 2).toNatClampNeg = c) := by
  unfold nmj nmp
  rw [hl]
  constructor
  · rintro ⟨z, w⟩
    refine ⟨z, ?_, (w 1 (by decide) (by decide)).trans h1, (w 2 (by decide) (by decide)).trans h2⟩
    have := (w 0 (by decide) (by decide)).trans h0
    rwa [Int32.add_zero] at this
  · rintro ⟨z, w0, w1, w2⟩
    refine ⟨z, fun i i0 i1 => ?_⟩
    rcases (show i = 0 ∨ i = 1 ∨ i = 2 by lia) with rfl | rfl | rfl
    · rw [Int32.add_zero, w0, h0]
    · rw [w1, h1]
    · rw [w2, h2]
theorem nm4 {f : Nat → Int32} {s q : Int32} {j : Nat} {a b c d : Int32} (hl : Int32.ofNat (uk_sLen.getD j 0) = 4) (h0 : chj j 0 = a) (h1 : chj j 1 = b) (h2 : chj j 2 = c) (h3 : chj j 3 = d) : nmj f s q j ↔ ((q - s = 4 ∧ f s.toNatClampNeg = a ∧ f (s + 1).toNatClampNeg = b ∧ f (s + 2).toNatClampNeg = c) ∧ f (s + 3).toNatClampNeg = d) := by
  unfold nmj nmp
  rw [hl]
  constructor
  · rintro ⟨z, w⟩
    refine ⟨⟨z, ?_, (w 1 (by decide) (by decide)).trans h1, (w 2 (by decide) (by decide)).trans h2⟩, (w 3 (by decide) (by decide)).trans h3⟩
    have := (w 0 (by decide) (by decide)).trans h0
    rwa [Int32.add_zero] at this
  · rintro ⟨⟨z, w0, w1, w2⟩, w3⟩
    refine ⟨z, fun i i0 i1 => ?_⟩
    rcases (show i = 0 ∨ i = 1 ∨ i = 2 ∨ i = 3 by lia) with rfl | rfl | rfl | rfl
    · rw [Int32.add_zero, w0, h0]
    · rw [w1, h1]
    · rw [w2, h2]
    · rw [w3, h3]
/-- the reference's number of a line: -4 for none -/
def lnr (f : Nat → Int32) (s q x : Int32) : Prop := (x = -4 ∧ ln f 1 s q (-1)) ∨ (¬ x = -4 ∧ ¬ x = -1 ∧ ln f 1 s q x)
theorem TK_30 {f : Nat → Int32} {n p s t v q : Int32} (h : TK f n p s t v q) (ht : t = 3) : v = 0 := by
  obtain ⟨h1, h2, h3⟩ := h
  rcases h3 with ⟨a, b, c⟩ | ⟨a, b, c, d, e⟩ | ⟨a, b, c, d, e⟩ | ⟨a, b, c, d, e⟩ | ⟨a, b, c, d, e, g⟩
  · exact absurd (b.symm.trans ht) (by decide)
  · exact absurd (c.symm.trans ht) (by decide)
  · rcases e with ⟨-, e, -⟩ | ⟨-, e⟩ <;> exact absurd (e.symm.trans ht) (by decide)
  · exact d
  · exact absurd (e.symm.trans ht) (by decide)
/-- is it the line's end -/
def stp (u u' : uk_Mem) : Prop := (¬ u.1 60 18 = 0 ∧ u'.1 60 18 = u.1 60 18 ∧ u'.1 60 19 = u.1 60 19) ∨ (u.1 60 18 = 0 ∧ ¬ u.1 60 16 = 3 ∧ u'.1 60 18 = 2 ∧ u'.1 60 19 = u.1 60 15) ∨ (u.1 60 18 = 0 ∧ u.1 60 16 = 3 ∧ u'.1 60 18 = 0)
theorem Sr_stop {f : Nat → Int32} {n : Int32} {u u1 u2 : uk_Mem} {a : PS} (hn : n ≤ 160) (hc : Sr f n u a) (hl : stp u u1) (hx : nxd u1 u2) (e14 : u1.1 60 14 = u.1 60 14) (e13 : u1.1 60 13 = u.1 60 13) (e69 : u1.1 69 = u.1 69) (g13 : u2.1 60 13 = u1.1 60 13) (g69 : u2.1 69 = u1.1 69) : Sr f n u2 (pTake f n a 3 0).1 := by
  obtain ⟨c1, c2, c3⟩ := hc
  have d1 : cpy (u2.1 69) f n := by rw [g69, e69]; exact c1
  have d2 : u2.1 60 13 = n := (g13.trans e13).trans c2
  rcases c3 with ⟨b1, b2, b3⟩ | ⟨b1, b2, b3⟩
  · have hF : ¬ u.1 60 18 = 0 := fun z => b1 (b2.symm.trans z)
    have e : pTake f n a 3 0 = (a, 0) := if_pos b1
    rw [e]
    rcases hl with ⟨l1, l2, l3⟩ | ⟨l1, l2⟩ | ⟨l1, l2⟩
    · have hs := hx.2 (fun z => hF (l2.symm.trans z))
      exact ⟨d1, d2, Or.inl ⟨b1, hs.1.trans (l2.trans b2), hs.2.trans (l3.trans b3)⟩⟩
    · exact absurd l1 hF
    · exact absurd l1 hF
  · obtain ⟨s, t, v, q, ht, hh⟩ := b3
    obtain ⟨k1, k2, k3, k4⟩ := tk_eq hn b2.1 ht
    have bad : ∀ k : Int32, ¬ k = 0 → pTake f n a 3 0 = (pBad a k s, 0) → u1.1 60 18 = k → u1.1 60 19 = s → Sr f n u2 (pTake f n a 3 0).1 := by
      intro k hk e f1 f2
      have hs := hx.2 (fun z => hk (f1.symm.trans z))
      rw [e]
      exact ⟨d1, d2, Or.inl ⟨hk, hs.1.trans f1, hs.2.trans f2⟩⟩
    have p0 : pTake f n a 3 0 = if t = 4 then (pBad a 1 s, 0) else if ¬ t = 3 then (pBad a 2 s, 0) else if 0 < (tk f n a.2.2.2.2).2.2.1 then (pBad a 3 s, 0) else ((0, a.2.1, a.2.2.1, a.2.2.2.1, (tk f n a.2.2.2.2).2.2.2), (tk f n a.2.2.2.2).2.2.1) := by
      unfold pTake
      rw [if_neg (fun z => z b1), k1, k2]
    rcases hh with ⟨g1, g2, g3⟩ | ⟨g1, g2, g3, g4, g5, g6⟩
    · rcases hl with ⟨l1, l2, l3⟩ | ⟨l1, l2⟩ | ⟨l1, l2⟩
      · exact bad 1 (by decide) (by rw [p0, if_pos g1]) (l2.trans g2) (l3.trans g3)
      · exact absurd (l1.symm.trans g2) (by decide)
      · exact absurd (l1.symm.trans g2) (by decide)
    · rcases hl with ⟨l1, l2, l3⟩ | ⟨l1, l2, l3, l4⟩ | ⟨l1, l2, l3⟩
      · exact absurd g2 l1
      · have t2 : ¬ t = 3 := fun z => l2 (g4.trans z)
        exact bad 2 (by decide) (by rw [p0, if_neg g1, if_pos t2]) l3 (l4.trans g3)
      · have t2 : t = 3 := g4.symm.trans l2
        have hv := TK_30 ht t2
        have hle := TK_le hn b2.1 ht
        have e : pTake f n a 3 0 = ((0, a.2.1, a.2.2.1, a.2.2.2.1, q), v) := by
          rw [p0, if_neg g1, if_neg (fun z => z t2), k4 (Or.inr t2), k3 g1, if_neg (by rw [hv]; decide)]
        have ha := hx.1 l3
        rw [e69, e13, e14, c2, g6] at ha
        rw [e]
        exact ⟨d1, d2, Or.inr ⟨rfl, (show 0 ≤ q ∧ q ≤ n from ⟨by grind, TK_qn hn b2.1 b2.2 ht g1⟩), ah_cg c1 (by grind) hn ha⟩⟩
/-- nothing of a line is taken where its next token can't be read -/
theorem pT_4 {f : Nat → Int32} {n w m : Int32} {b : PS} (hb : b.1 = 0) (h4 : (tk f n b.2.2.2.2).2.1 = 4) : pTake f n b w m = (pBad b 1 (tk f n b.2.2.2.2).1, 0) := by
  unfold pTake
  rw [if_neg (fun z => z hb), if_pos h4]
theorem pT_F {f : Nat → Int32} {n w m : Int32} {b : PS} (hb : ¬ b.1 = 0) : pTake f n b w m = (b, 0) := if_pos hb
theorem pB_1 {b : PS} {k s : Int32} (hk : ¬ k = 0) : ¬ (pBad b k s).1 = 0 := hk
theorem pRaw_4 {f : Nat → Int32} {n : Int32} {b : PS} (hb : b.1 = 0) (h4 : (tk f n b.2.2.2.2).2.1 = 4) : pRaw f n b = pBad b 1 (tk f n b.2.2.2.2).1 := by
  have h1 : ¬ (pBad b 1 (tk f n b.2.2.2.2).1).1 = 0 := pB_1 (by decide)
  unfold pRaw
  rw [pT_4 hb h4, pT_F h1, pT_F h1]
  exact if_neg h1
theorem pMade_4 {f : Nat → Int32} {n : Int32} {b : PS} (hb : b.1 = 0) (h4 : (tk f n b.2.2.2.2).2.1 = 4) : pMade f n b = pBad b 1 (tk f n b.2.2.2.2).1 := by
  have h1 : ¬ (pBad b 1 (tk f n b.2.2.2.2).1).1 = 0 := pB_1 (by decide)
  unfold pMade
  rw [pT_4 hb h4, pT_F h1, pT_F h1, pT_F h1]
  exact if_neg h1
theorem pHave_4 {f : Nat → Int32} {n : Int32} {b : PS} (hb : b.1 = 0) (h4 : (tk f n b.2.2.2.2).2.1 = 4) : pHave f n b = pBad b 1 (tk f n b.2.2.2.2).1 := by
  have h1 : ¬ (pBad b 1 (tk f n b.2.2.2.2).1).1 = 0 := pB_1 (by decide)
  unfold pHave
  rw [pT_4 hb h4]
  have e : pTwice (pBad b 1 (tk f n b.2.2.2.2).1, (0 : Int32)).1 (pBad b 1 (tk f n b.2.2.2.2).1, (0 : Int32)).2 (tk f n b.2.2.2.2).1 = pBad b 1 (tk f n b.2.2.2.2).1 := if_neg (fun z => h1 z.1)
  rw [e, pT_F h1, pT_F h1]
  exact if_neg h1
noncomputable def rsf (f : Nat → Int32) (n : Int32) (a : PS) (k m : Int32) : PS := if k = 4 then (pTake f n (pTake f n a 2 9).1 2 9).1 else (pTake f n (pTake f n (pTake f n a 2 (m - 1)).1 2 (m - 1)).1 2 9).1
/-- told twice -/
def twd (tb m : Int32) (u u' : uk_Mem) : Prop := (¬ u.1 60 18 = 0 ∧ u'.1 60 18 = u.1 60 18 ∧ u'.1 60 19 = u.1 60 19) ∨ (u.1 60 18 = 0 ∧ (tb >>> m) &&& 1 = 1 ∧ u'.1 60 18 = 4 ∧ u'.1 60 19 = u.1 60 15) ∨ (u.1 60 18 = 0 ∧ ¬ (tb >>> m) &&& 1 = 1 ∧ u'.1 60 18 = 0)
theorem Sr_twice {f : Nat → Int32} {n x : Int32} {u u1 u2 u3 : uk_Mem} {a : PS} (hn : n ≤ 160) (hc : Sr f n u a) (hl : lkd 0 7 u u1 x) (hw : twd a.2.2.1 x u1 u2) (hx : nxd u2 u3) (e14 : u1.1 60 14 = u.1 60 14) (e15 : u1.1 60 15 = u.1 60 15) (e13 : u1.1 60 13 = u.1 60 13) (e69 : u1.1 69 = u.1 69) (f14 : u2.1 60 14 = u1.1 60 14) (f13 : u2.1 60 13 = u1.1 60 13) (f69 : u2.1 69 = u1.1 69) (g13 : u3.1 60 13 = u2.1 60 13) (g69 : u3.1 69 = u2.1 69) : Sr f n u3 (pTwice (pTake f n a 2 7).1 (pTake f n a 2 7).2 (tk f n a.2.2.2.2).1) ∧ x = (pTake f n a 2 7).2 := by
  obtain ⟨c1, c2, c3⟩ := hc
  have d1 : cpy (u3.1 69) f n := by rw [g69, f69, e69]; exact c1
  have d2 : u3.1 60 13 = n := (g13.trans (f13.trans e13)).trans c2
  have stay : ∀ (b : PS) (y s' : Int32), ¬ b.1 = 0 → u1.1 60 18 = b.1 → u1.1 60 19 = b.2.1 → Sr f n u3 (pTwice b y s') := by
    intro b y s' hb h1 h2
    have e : pTwice b y s' = b := if_neg (fun z => hb z.1)
    rw [e]
    have hF : ¬ u1.1 60 18 = 0 := fun z => hb (h1.symm.trans z)
    rcases hw with ⟨w1, w2, w3⟩ | ⟨w1, w2⟩ | ⟨w1, w2⟩
    · have hs := hx.2 (fun z => hF (w2.symm.trans z))
      exact ⟨d1, d2, Or.inl ⟨hb, hs.1.trans (w2.trans h1), hs.2.trans (w3.trans h2)⟩⟩
    · exact absurd w1 hF
    · exact absurd w1 hF
  rcases c3 with ⟨b1, b2, b3⟩ | ⟨b1, b2, b3⟩
  · have hF : ¬ u.1 60 18 = 0 := fun z => b1 (b2.symm.trans z)
    have e : pTake f n a 2 7 = (a, 0) := if_pos b1
    rw [e]
    rcases hl with ⟨l1, l2, l3, l4⟩ | ⟨l1, l2⟩ | ⟨l1, l2⟩ | ⟨l1, l2⟩
    · exact ⟨stay a 0 _ b1 (l2.trans b2) (l3.trans b3), l4⟩
    · exact absurd l1 hF
    · exact absurd l1 hF
    · exact absurd l1 hF
  · obtain ⟨s, t, v, q, ht, hh⟩ := b3
    obtain ⟨k1, k2, k3, k4⟩ := tk_eq hn b2.1 ht
    have p0 : pTake f n a 2 7 = if t = 4 then (pBad a 1 s, 0) else if ¬ t = 2 then (pBad a 2 s, 0) else if 7 < (tk f n a.2.2.2.2).2.2.1 then (pBad a 3 s, 0) else ((0, a.2.1, a.2.2.1, a.2.2.2.1, (tk f n a.2.2.2.2).2.2.2), (tk f n a.2.2.2.2).2.2.1) := by
      unfold pTake
      rw [if_neg (fun z => z b1), k1, k2]
    have bad : ∀ k : Int32, ¬ k = 0 → pTake f n a 2 7 = (pBad a k s, 0) → u1.1 60 18 = k → u1.1 60 19 = s → x = 0 → Sr f n u3 (pTwice (pTake f n a 2 7).1 (pTake f n a 2 7).2 (tk f n a.2.2.2.2).1) ∧ x = (pTake f n a 2 7).2 := by
      intro k hk e f1 f2 hx0
      rw [e]
      exact ⟨stay _ _ _ (pB_1 hk) f1 f2, hx0⟩
    rcases hh with ⟨g1, g2, g3⟩ | ⟨g1, g2, g3, g4, g5, g6⟩
    · rcases hl with ⟨l1, l2, l3, l4⟩ | ⟨l1, l2⟩ | ⟨l1, l2⟩ | ⟨l1, l2⟩
      · exact bad 1 (by decide) (by rw [p0, if_pos g1]) (l2.trans g2) (l3.trans g3) l4
      · exact absurd (l1.symm.trans g2) (by decide)
      · exact absurd (l1.symm.trans g2) (by decide)
      · exact absurd (l1.symm.trans g2) (by decide)
    · rcases hl with ⟨l1, l2, l3, l4⟩ | ⟨l1, l2, l3, l4, l5⟩ | ⟨l1, l2, l3, l4, l5, l6⟩ | ⟨l1, l2, l3, l4, l5, l6⟩
      · exact absurd g2 l1
      · have t2 : ¬ t = 2 := fun z => l2 (g4.trans z)
        exact bad 2 (by decide) (by rw [p0, if_neg g1, if_pos t2]) l3 (l4.trans g3) l5
      · have t2 : t = 2 := g4.symm.trans l2
        have hv := TK_v hn b2.1 ht t2
        rw [g5 t2] at l3
        have l3' : 7 < v := l3.resolve_left (by grind)
        exact bad 3 (by decide) (by rw [p0, if_neg g1, if_neg (fun z => z t2), k4 (Or.inl t2), if_pos l3']) l4 (l5.trans g3) l6
      · have t2 : t = 2 := g4.symm.trans l2
        have hle := TK_le hn b2.1 ht
        rw [g5 t2] at l3 l4 l6
        have e : pTake f n a 2 7 = ((0, a.2.1, a.2.2.1, a.2.2.2.1, q), v) := by
          rw [p0, if_neg g1, if_neg (fun z => z t2), k4 (Or.inl t2), k3 g1, if_neg (by grind)]
        rw [e, k1]
        refine ⟨?_, l6⟩
        rw [l6] at hw
        rcases hw with ⟨w1, w2⟩ | ⟨w1, w2, w3, w4⟩ | ⟨w1, w2, w3⟩
        · exact absurd l5 w1
        · have e2 : pTwice ((0, a.2.1, a.2.2.1, a.2.2.2.1, q), v).1 ((0, a.2.1, a.2.2.1, a.2.2.2.1, q), v).2 s = pBad (0, a.2.1, a.2.2.1, a.2.2.2.1, q) 4 s := if_pos ⟨rfl, w2⟩
          have hs := hx.2 (fun z => absurd (w3.symm.trans z) (by decide))
          rw [e2]
          exact ⟨d1, d2, Or.inl ⟨pB_1 (by decide), hs.1.trans w3, hs.2.trans (w4.trans (e15.trans g3))⟩⟩
        · have e2 : pTwice ((0, a.2.1, a.2.2.1, a.2.2.2.1, q), v).1 ((0, a.2.1, a.2.2.1, a.2.2.2.1, q), v).2 s = (0, a.2.1, a.2.2.1, a.2.2.2.1, q) := if_neg (fun z => w2 z.2)
          have ha := hx.1 w3
          rw [f69, e69, f13, e13, f14, e14, c2, g6] at ha
          rw [e2]
          exact ⟨d1, d2, Or.inr ⟨rfl, (show 0 ≤ q ∧ q ≤ n from ⟨by grind, TK_qn hn b2.1 b2.2 ht g1⟩), ah_cg c1 (by grind) hn ha⟩⟩
/-- told, and the highest of what it tells of -/
def hi9 (tb h : Int32) : Prop := ∃ t : Nat, t < 256 ∧ tb = nI t ∧ ((t = 0 ∧ h = -4) ∨ ∃ k : Nat, k < 8 ∧ h = nI k ∧ 2 ^ k ≤ t ∧ t < 2 ^ (k + 1))
theorem h9_1 : ∀ t, t < 256 → ∀ j, j < 8 → nI t ||| ((1 : Int32) <<< nI j) = nI (t ||| 2 ^ j) := by decide +kernel
theorem h9_2 : ∀ t, t < 256 → ∀ s, s < 9 → ((nI t >>> nI s = 0) ↔ t < 2 ^ s) := by decide +kernel
theorem h9_3 : ∀ t, t < 256 → ∀ j, j < 8 → (t ||| 2 ^ j) < 256 ∧ (t < 2 ^ (j + 1) → 2 ^ j ≤ (t ||| 2 ^ j) ∧ (t ||| 2 ^ j) < 2 ^ (j + 1)) := by decide +kernel
theorem h9_4 : ∀ t, t < 256 → ∀ j, j < 8 → ∀ k, k < 8 → (¬ (j ≤ k ∧ t < 2 ^ (k + 1)) ∨ ((t ||| 2 ^ j) < 2 ^ (k + 1) ∧ t ≤ (t ||| 2 ^ j))) := by decide +kernel
theorem hi9_0 : hi9 0 (-4) := ⟨0, by decide, rfl, Or.inl ⟨rfl, rfl⟩⟩
theorem hi9_up {tb h m h' : Int32} (H : hi9 tb h) (h0 : 0 ≤ m) (h7 : m ≤ 7) (e1 : h < m → h' = m) (e2 : ¬ h < m → h' = h) : hi9 (tb ||| ((1 : Int32) <<< m)) h' := by
  obtain ⟨j, hj, rfl⟩ := nI_of2 (x := m) (M := 7) (n := 7) rfl (by grind) h7
  obtain ⟨t, ht, rfl, hh⟩ := H
  obtain ⟨a1, a2⟩ := h9_3 t ht j (by omega)
  refine ⟨t ||| 2 ^ j, a1, h9_1 t ht j (by omega), Or.inr ?_⟩
  rcases hh with ⟨rfl, rfl⟩ | ⟨k, hk, rfl, k1, k2⟩
  · have := e1 (by have : (0 : Int32) ≤ nI j := h0; grind)
    exact ⟨j, by omega, this, a2 (Nat.two_pow_pos _)⟩
  · by_cases z : k < j
    · have := e1 (nI_lt z (by omega))
      refine ⟨j, by omega, this, a2 (Nat.lt_of_lt_of_le k2 (Nat.pow_le_pow_right (by omega) (by omega)))⟩
    · have := e2 (nI_nlt (by omega) (by omega))
      obtain ⟨b1, b2⟩ := (h9_4 t ht j (by omega) k hk).resolve_left (fun w => w ⟨by omega, k2⟩)
      exact ⟨k, hk, this, Nat.le_trans k1 b2, b1⟩
theorem hi9_s {tb h s : Int32} (H : hi9 tb h) (s0 : 0 ≤ s) (s8 : s ≤ 8) : (tb >>> s = 0) ↔ h < s := by
  obtain ⟨j, hj, rfl⟩ := nI_of2 (x := s) (M := 8) (n := 8) rfl (by grind) s8
  obtain ⟨t, ht, rfl, hh⟩ := H
  rw [h9_2 t ht j (by omega)]
  rcases hh with ⟨rfl, rfl⟩ | ⟨k, hk, rfl, k1, k2⟩
  · constructor
    · intro _
      grind
    · intro _
      exact Nat.two_pow_pos _
  · rw [nI_ltI (by omega) (by omega)]
    constructor
    · intro z
      rcases Nat.lt_or_ge k j with w | w
      · exact w
      · exact absurd (Nat.le_trans (Nat.pow_le_pow_right (by omega) w) k1) (by omega)
    · intro z
      exact Nat.lt_of_lt_of_le k2 (Nat.pow_le_pow_right (by omega) (by omega))
theorem and1 {x z : Int32} (h : z = x &&& 1) : z = 0 ∨ z = 1 := by
  obtain ⟨j, hj, e⟩ := pk_andE x (m := 1) 1 rfl
  rw [h, e]
  rcases (show j = 0 ∨ j = 1 by omega) with rfl | rfl
  · exact Or.inl rfl
  · exact Or.inr rfl
theorem pTake_told {f : Nat → Int32} {n w m : Int32} {a : PS} : (pTake f n a w m).1.2.2.1 = a.2.2.1 ∧ (pTake f n a w m).1.2.2.2.1 = a.2.2.2.1 := by
  unfold pTake
  split
  · exact ⟨rfl, rfl⟩
  · split
    · exact ⟨rfl, rfl⟩
    · split
      · exact ⟨rfl, rfl⟩
      · split <;> exact ⟨rfl, rfl⟩
theorem pTwice_told {b : PS} {m s : Int32} : (pTwice b m s).2.2.1 = b.2.2.1 ∧ (pTwice b m s).2.2.2.1 = b.2.2.2.1 := by
  unfold pTwice
  split <;> exact ⟨rfl, rfl⟩
theorem Sr_0 {f : Nat → Int32} {n : Int32} {u : uk_Mem} {a : PS} (h : Sr f n u a) (h0 : u.1 60 18 = 0) : a.1 = 0 := by
  rcases h.2.2 with ⟨b1, b2, -⟩ | ⟨b1, -⟩
  · exact absurd (b2.symm.trans h0) b1
  · exact b1
theorem Sr_open {f : Nat → Int32} {n : Int32} {u : uk_Mem} {a : PS} (h : Sr f n u a) (h0 : u.1 60 18 = 0) : a.1 = 0 ∧ 0 ≤ a.2.2.2.2 ∧ a.2.2.2.2 ≤ n ∧ ¬ u.1 60 16 = 4 ∧ ∃ v, TK f n a.2.2.2.2 (u.1 60 15) (u.1 60 16) v (u.1 60 14) := by
  rcases h.2.2 with ⟨b1, b2, -⟩ | ⟨b1, b2, s, t, v, q, ht, hh⟩
  · exact absurd (b2.symm.trans h0) b1
  · rcases hh with ⟨g1, g2, g3⟩ | ⟨g1, g2, g3, g4, g5, g6⟩
    · exact absurd (h0.symm.trans g2) (by decide)
    · exact ⟨b1, b2.1, b2.2, fun z => g1 (g4.symm.trans z), v, by rw [g3, g4, g6]; exact ht⟩
/-- the same place, the same fault -/
theorem Sr_like {f : Nat → Int32} {n : Int32} {u : uk_Mem} {a b : PS} (h : Sr f n u a) (e1 : b.1 = a.1) (e2 : b.2.1 = a.2.1) (e5 : b.2.2.2.2 = a.2.2.2.2) : Sr f n u b := by
  unfold Sr
  rw [e1, e2, e5]
  exact h
theorem Sr_add {f : Nat → Int32} {n : Int32} {u : uk_Mem} {a : PS} (h : Sr f n u a) : Sr f n u (pAdd a) := by
  unfold pAdd
  split
  · exact Sr_like h rfl rfl rfl
  · exact h
theorem Sr_tell {f : Nat → Int32} {n m : Int32} {u : uk_Mem} {a : PS} (h : Sr f n u a) : Sr f n u (pTell a m) := by
  unfold pTell
  split
  · exact Sr_like h rfl rfl rfl
  · exact h
/-- a fault, and next does nothing -/
theorem Sr_bad {f : Nat → Int32} {n k s : Int32} {u u2 u3 : uk_Mem} {a : PS} (h : Sr f n u a) (hk : ¬ k = 0) (h18 : u2.1 60 18 = k) (h19 : u2.1 60 19 = s) (hx : nxd u2 u3) (e13 : u3.1 60 13 = u.1 60 13) (e69 : u3.1 69 = u.1 69) : Sr f n u3 (pBad a k s) := by
  have hs := hx.2 (fun z => hk (h18.symm.trans z))
  exact ⟨by rw [e69]; exact h.1, e13.trans h.2.1, Or.inl ⟨pB_1 hk, hs.1.trans h18, hs.2.trans h19⟩⟩
/-- the token is passed: the next is read -/
theorem Sr_next {f : Nat → Int32} {n v : Int32} {u u2 u3 : uk_Mem} {a : PS} (hn : n ≤ 160) (h : Sr f n u a) (h0 : 0 ≤ a.2.2.2.2) (hpn : a.2.2.2.2 ≤ n) (ht : TK f n a.2.2.2.2 (u.1 60 15) (u.1 60 16) v (u.1 60 14)) (h4 : ¬ u.1 60 16 = 4) (h18 : u2.1 60 18 = 0) (hx : nxd u2 u3) (f13 : u2.1 60 13 = u.1 60 13) (f14 : u2.1 60 14 = u.1 60 14) (f69 : u2.1 69 = u.1 69) (e13 : u3.1 60 13 = u.1 60 13) (e69 : u3.1 69 = u.1 69) : Sr f n u3 (0, a.2.1, a.2.2.1, a.2.2.2.1, (tk f n a.2.2.2.2).2.2.2) := by
  have hk := tk_eq hn h0 ht
  have ha := hx.1 h18
  have hle := TK_le hn h0 ht
  rw [f69, f13, f14, h.2.1] at ha
  refine ⟨by rw [e69]; exact h.1, e13.trans h.2.1, Or.inr ⟨rfl, ?_, ?_⟩⟩
  · show 0 ≤ (tk f n a.2.2.2.2).2.2.2 ∧ (tk f n a.2.2.2.2).2.2.2 ≤ n
    rw [hk.2.2.1 h4]
    exact ⟨by grind, TK_qn hn h0 hpn ht h4⟩
  · show ah f n (tk f n a.2.2.2.2).2.2.2 u3
    rw [hk.2.2.1 h4]
    exact ah_cg h.1 (by grind) hn ha
/-- the next can't be read -/
theorem Sr_4 {f : Nat → Int32} {n : Int32} {u : uk_Mem} {b : PS} (hn : n ≤ 160) (h : Sr f n u b) (hb : b.1 = 0) (h18 : ¬ u.1 60 18 = 0) : (tk f n b.2.2.2.2).2.1 = 4 ∧ Sr f n u (pBad b 1 (tk f n b.2.2.2.2).1) := by
  obtain ⟨c1, c2, c3⟩ := h
  rcases c3 with ⟨b1, -⟩ | ⟨b1, b2, s, t, v, q, ht, hh⟩
  · exact absurd hb b1
  · have hk := tk_eq hn b2.1 ht
    rcases hh with ⟨g1, g2, g3⟩ | ⟨g1, g2, -⟩
    · exact ⟨hk.2.1.trans g1, c1, c2, Or.inl ⟨pB_1 (by decide), g2, g3.trans hk.1.symm⟩⟩
    · exact absurd g2 h18
/-- the reference's line, as the pure one has it -/
def PLK (f : Nat → Int32) (t s q k : Int32) : Prop := (k = -4 ∧ pl f t s q = -1) ∨ (¬ k = -4 ∧ ¬ k = -1 ∧ pl f t s q = k)
theorem PLK_1 {f g : Nat → Int32} {n t s q k : Int32} (h : cpy g f n) (hq : t = 1 → 0 ≤ s ∧ q ≤ n ∧ n ≤ 160 ∧ s ≤ n) (ht : t = 1) (hl : lnr g s q k) : PLK f t s q k := by
  subst ht
  rcases hl with ⟨h1, h2⟩ | ⟨h1, h2, h3⟩
  · exact Or.inl ⟨h1, pl_eq (ln_cg h hq h2)⟩
  · exact Or.inr ⟨h1, h2, pl_eq (ln_cg h hq h3)⟩
theorem PLK_n {f : Nat → Int32} {t s q : Int32} (ht : ¬ t = 1) : PLK f t s q (-4) := Or.inl ⟨rfl, pl_eq (Or.inr ⟨fun j hj z => ht z.1, rfl⟩)⟩
section PLN
variable {f : Nat → Int32} {n k : Int32} {a : PS}
theorem pLine_2 (h4 : ¬ (tk f n a.2.2.2.2).2.1 = 4) (hp : pl f (tk f n a.2.2.2.2).2.1 (tk f n a.2.2.2.2).1 (tk f n a.2.2.2.2).2.2.2 = -1) : pLine f n a = pBad a 2 (tk f n a.2.2.2.2).1 := by
  unfold pLine
  rw [if_neg h4, if_pos hp]
theorem pLine_5 (h4 : ¬ (tk f n a.2.2.2.2).2.1 = 4) (hp : pl f (tk f n a.2.2.2.2).2.1 (tk f n a.2.2.2.2).1 (tk f n a.2.2.2.2).2.2.2 = k) (h1 : ¬ k = -1) (h5 : ¬ k = 5) (h8 : ¬ a.2.2.2.1 < 8) : pLine f n a = pBad a 5 (tk f n a.2.2.2.2).1 := by
  unfold pLine
  rw [if_neg h4, hp, if_neg h1, if_neg h5, if_pos h8]
theorem pLine_H (h4 : ¬ (tk f n a.2.2.2.2).2.1 = 4) (hp : pl f (tk f n a.2.2.2.2).2.1 (tk f n a.2.2.2.2).1 (tk f n a.2.2.2.2).2.2.2 = k) (h5 : k = 5) : pLine f n a = pHave f n (0, a.2.1, a.2.2.1, a.2.2.2.1, (tk f n a.2.2.2.2).2.2.2) := by
  unfold pLine
  rw [if_neg h4, hp, if_neg (by rw [h5]; decide), if_pos h5]
theorem pLine_R (h4 : ¬ (tk f n a.2.2.2.2).2.1 = 4) (hp : pl f (tk f n a.2.2.2.2).2.1 (tk f n a.2.2.2.2).1 (tk f n a.2.2.2.2).2.2.2 = k) (h5 : k = 4) (h8 : a.2.2.2.1 < 8) : pLine f n a = pRaw f n (0, a.2.1, a.2.2.1, a.2.2.2.1, (tk f n a.2.2.2.2).2.2.2) := by
  unfold pLine
  rw [if_neg h4, hp, if_neg (by rw [h5]; decide), if_neg (by rw [h5]; decide), if_neg (fun z => z h8), if_pos h5]
theorem pLine_M (h4 : ¬ (tk f n a.2.2.2.2).2.1 = 4) (hp : pl f (tk f n a.2.2.2.2).2.1 (tk f n a.2.2.2.2).1 (tk f n a.2.2.2.2).2.2.2 = k) (h1 : ¬ k = -1) (h5 : ¬ k = 5) (h9 : ¬ k = 4) (h8 : a.2.2.2.1 < 8) : pLine f n a = pMade f n (0, a.2.1, a.2.2.1, a.2.2.2.1, (tk f n a.2.2.2.2).2.2.2) := by
  unfold pLine
  rw [if_neg h4, hp, if_neg h1, if_neg h5, if_neg (fun z => z h8), if_neg h9]
theorem pLine_e (h4 : ¬ (tk f n a.2.2.2.2).2.1 = 4) (hp : pl f (tk f n a.2.2.2.2).2.1 (tk f n a.2.2.2.2).1 (tk f n a.2.2.2.2).2.2.2 = k) (h1 : ¬ k = -1) (h8 : k = 5 ∨ a.2.2.2.1 < 8) (hb : (tk f n (tk f n a.2.2.2.2).2.2.2).2.1 = 4) : pLine f n a = pBad (0, a.2.1, a.2.2.1, a.2.2.2.1, (tk f n a.2.2.2.2).2.2.2) 1 (tk f n (tk f n a.2.2.2.2).2.2.2).1 := by
  by_cases h5 : k = 5
  · rw [pLine_H h4 hp h5]
    exact pHave_4 rfl hb
  · have h8 := h8.resolve_left h5
    by_cases h9 : k = 4
    · rw [pLine_R h4 hp h9 h8]
      exact pRaw_4 rfl hb
    · rw [pLine_M h4 hp h1 h5 h9 h8]
      exact pMade_4 rfl hb
/-- the line's stuff is through: raw or made -/
theorem rsf_R {b : PS} {m : Int32} (hk : k = 4) : pAdd (pTake f n (rsf f n b k m) 3 0).1 = pRaw f n b := by
  unfold rsf pRaw
  rw [if_pos hk]
theorem rsf_M {b : PS} {m : Int32} (hk : ¬ k = 4) (hm : m = b.2.2.2.1) : pAdd (pTake f n (rsf f n b k m) 3 0).1 = pMade f n b := by
  unfold rsf pMade
  rw [if_neg hk, hm, pTake_told.2]
/-- what a line leaves, when nothing was wrong -/
theorem rsf_told {b : PS} {m : Int32} (h0 : (pTake f n (rsf f n b k m) 3 0).1.1 = 0) : (pAdd (pTake f n (rsf f n b k m) 3 0).1).2.2.1 = b.2.2.1 ∧ (pAdd (pTake f n (rsf f n b k m) 3 0).1).2.2.2.1 = b.2.2.2.1 + 1 := by
  have e : (rsf f n b k m).2.2.1 = b.2.2.1 ∧ (rsf f n b k m).2.2.2.1 = b.2.2.2.1 := by
    unfold rsf
    split
    · exact ⟨pTake_told.1.trans pTake_told.1, pTake_told.2.trans pTake_told.2⟩
    · exact ⟨pTake_told.1.trans (pTake_told.1.trans pTake_told.1), pTake_told.2.trans (pTake_told.2.trans pTake_told.2)⟩
  unfold pAdd
  rw [if_pos h0]
  refine ⟨pTake_told.1.trans e.1, ?_⟩
  show (pTake f n (rsf f n b k m) 3 0).1.2.2.2.1 + 1 = _
  rw [pTake_told.2, e.2]
theorem have_told {b : PS} (h0 : (pTake f n (pTake f n (pTwice (pTake f n b 2 7).1 (pTake f n b 2 7).2 (tk f n b.2.2.2.2).1) 2 40).1 3 0).1.1 = 0) : (pHave f n b).2.2.1 = b.2.2.1 ||| ((1 : Int32) <<< (pTake f n b 2 7).2) ∧ (pHave f n b).2.2.2.1 = b.2.2.2.1 := by
  unfold pHave pTell
  rw [if_pos h0]
  constructor
  · show (pTake f n (pTake f n (pTwice (pTake f n b 2 7).1 (pTake f n b 2 7).2 (tk f n b.2.2.2.2).1) 2 40).1 3 0).1.2.2.1 ||| _ = _
    rw [pTake_told.1, pTake_told.1, pTwice_told.1, pTake_told.1]
  · show (pTake f n (pTake f n (pTwice (pTake f n b 2 7).1 (pTake f n b 2 7).2 (tk f n b.2.2.2.2).1) 2 40).1 3 0).1.2.2.2.1 = _
    rw [pTake_told.2, pTake_told.2, pTwice_told.2, pTake_told.2]
end PLN
/-! all lines -/
def Rr (f : Nat → Int32) (n : Int32) (u : uk_Mem) (c : Int32) : Prop :=
  (∃ b : PS, b.1 = 0 ∧ Sr f n u b ∧ pLoop f n (160 - c.toNatClampNeg) b c = pLoop f n 160 p_0 0 ∧ (u.1 60 18 = 0 → u.1 60 7 = b.2.2.2.1 ∧ u.1 60 10 = b.2.2.1 ∧ hi9 b.2.2.1 (u.1 60 11))) ∨
  (¬ u.1 60 18 = 0 ∧ u.1 60 18 = (pLoop f n 160 p_0 0).1.1 ∧ u.1 60 19 = (pLoop f n 160 p_0 0).1.2.1)
theorem Rr_open {f : Nat → Int32} {n c : Int32} {u : uk_Mem} (h : Rr f n u c) (h0 : u.1 60 18 = 0) : ∃ b : PS, b.1 = 0 ∧ Sr f n u b ∧ pLoop f n (160 - c.toNatClampNeg) b c = pLoop f n 160 p_0 0 ∧ u.1 60 7 = b.2.2.2.1 ∧ u.1 60 10 = b.2.2.1 ∧ hi9 b.2.2.1 (u.1 60 11) := by
  rcases h with ⟨b, h1, h2, h3, h4⟩ | ⟨h1, -⟩
  · exact ⟨b, h1, h2, h3, h4 h0⟩
  · exact absurd h0 h1
theorem Rr_step {f : Nat → Int32} {n c : Int32} {u u' : uk_Mem} {b : PS} (hn : n ≤ 160) (c0 : 0 ≤ c) (c1 : c < 160) (h0 : u.1 60 18 = 0) (hs : ¬ u.1 60 16 = 0) (hS : Sr f n u b) (hL : pLoop f n (160 - c.toNatClampNeg) b c = pLoop f n 160 p_0 0) (hS' : Sr f n u' (pLine f n b)) (hT : u'.1 60 18 = 0 → u'.1 60 7 = (pLine f n b).2.2.2.1 ∧ u'.1 60 10 = (pLine f n b).2.2.1 ∧ hi9 (pLine f n b).2.2.1 (u'.1 60 11)) : Rr f n u' (c + 1) := by
  obtain ⟨a0, a1, a1n, a4, v, ht⟩ := Sr_open hS h0
  have hk := tk_eq hn a1 ht
  have hT0 : ¬ (tk f n b.2.2.2.2).2.1 = 0 := fun z => hs (hk.2.1.symm.trans z)
  by_cases z : (pLine f n b).1 = 0
  · exact Or.inl ⟨pLine f n b, z, hS', by rw [← hL]; exact (pLoop_s c0 c1 hT0 z).symm, hT⟩
  · have e : pLoop f n 160 p_0 0 = (pLine f n b, c) := by rw [← hL]; exact pLoop_b c0 c1 hT0 z
    rcases hS'.2.2 with ⟨d1, d2, d3⟩ | ⟨d1, -⟩
    · refine Or.inr ⟨fun w => d1 (d2.symm.trans w), ?_, ?_⟩
      · rw [e]
        exact d2
      · rw [e]
        exact d3
    · exact absurd d1 z
theorem Rr_F {f : Nat → Int32} {n c : Int32} {u : uk_Mem} (hn : n ≤ 160) (c0 : 0 ≤ c) (c1 : c < 160) (h : Rr f n u c) (h0 : ¬ u.1 60 18 = 0) : u.1 60 18 = (pRes f n).1.1 ∧ u.1 60 19 = (pRes f n).1.2.1 := by
  have key : u.1 60 18 = (pLoop f n 160 p_0 0).1.1 ∧ u.1 60 19 = (pLoop f n 160 p_0 0).1.2.1 := by
    rcases h with ⟨b, h1, h2, h3, -⟩ | ⟨-, h2⟩
    · obtain ⟨t4, s4⟩ := Sr_4 hn h2 h1 h0
      have pe : pLine f n b = pBad b 1 (tk f n b.2.2.2.2).1 := if_pos t4
      have e : pLoop f n 160 p_0 0 = (pLine f n b, c) := by rw [← h3]; exact pLoop_b c0 c1 (by rw [t4]; decide) (by rw [pe]; exact pB_1 (by decide))
      rcases s4.2.2 with ⟨d1, d2, d3⟩ | ⟨d1, -⟩
      · rw [e, pe]
        exact ⟨d2, d3⟩
      · exact absurd d1 (pB_1 (by decide))
    · exact h2
  have e : (pRes f n).1 = (pLoop f n 160 p_0 0).1 := if_neg (fun z => h0 (key.1.trans z.1))
  rw [e]
  exact key
theorem Rr_E {f : Nat → Int32} {n c : Int32} {u u' : uk_Mem} (hn : n ≤ 160) (c0 : 0 ≤ c) (c1 : c < 160) (h : Rr f n u c) (h0 : u.1 60 18 = 0) (hs : u.1 60 16 = 0) (h7 : 0 ≤ u.1 60 7 ∧ u.1 60 7 ≤ 8) (hb : u.1 60 11 < u.1 60 7 → u'.1 60 18 = 0) (hB : ¬ u.1 60 11 < u.1 60 7 → u'.1 60 18 = 6 ∧ u'.1 60 19 = u.1 60 15) : u'.1 60 18 = (pRes f n).1.1 ∧ (¬ (pRes f n).1.1 = 0 → u'.1 60 19 = (pRes f n).1.2.1) ∧ ((pRes f n).1.1 = 0 → c = (pRes f n).2) := by
  obtain ⟨b, h1, h2, h3, h5, h6, h8⟩ := Rr_open h h0
  obtain ⟨a0, a1, a1n, a4, v, ht⟩ := Sr_open h2 h0
  have hk := tk_eq hn a1 ht
  have e : pLoop f n 160 p_0 0 = (b, c) := by rw [← h3]; exact pLoop_e c0 c1 (hk.2.1.trans hs)
  have hfn : u.1 60 15 = n := by
    obtain ⟨t1, t2, t3⟩ := ht
    have hsn : u.1 60 15 ≤ n := by
      have q := TK_le hn a1 ⟨t1, t2, t3⟩
      have q2 := TK_qn hn a1 a1n ⟨t1, t2, t3⟩ a4
      grind
    rcases t3 with ⟨a, -⟩ | ⟨-, -, a, -⟩ | ⟨-, -, -, -, a⟩ | ⟨-, -, a, -⟩ | ⟨-, -, -, -, a, -⟩
    · grind
    · exact absurd (a.symm.trans hs) (by decide)
    · rcases a with ⟨-, a, -⟩ | ⟨-, a⟩ <;> exact absurd (a.symm.trans hs) (by decide)
    · exact absurd (a.symm.trans hs) (by decide)
    · exact absurd (a.symm.trans hs) (by decide)
  have hi := hi9_s (s := b.2.2.2.1) h8 (by rw [← h5]; exact h7.1) (by rw [← h5]; exact h7.2)
  by_cases z : u.1 60 11 < u.1 60 7
  · have ep : pRes f n = (b, c) := by
      unfold pRes pEnd
      rw [e, if_neg (fun w => w.2 (hi.mpr (by rw [← h5]; exact z)))]
    rw [ep]
    exact ⟨(hb z).trans h1.symm, fun w => absurd h1 w, fun _ => rfl⟩
  · have ep : pRes f n = (pBad b 6 n, c) := by
      unfold pRes pEnd
      rw [e, if_pos ⟨h1, fun w => z (by rw [h5]; exact hi.mp w)⟩]
    rw [ep]
    exact ⟨(hB z).1, fun _ => (hB z).2.trans hfn, fun w => absurd w (pB_1 (by decide))⟩
abbrev q_X7_byteAt_s (u : uk_Mem) (p : Int32) (r : Option Value) (u' : uk_Mem) : Prop := (∃ x : Int32, r = some (.int x) ∧ ((x = -1 ∧ u.1 60 13 ≤ p) ∨ (p < u.1 60 13 ∧ 0 ≤ x ∧ x = u.1 69 p.toNatClampNeg))) ∧ (u' = u)
set_option maxHeartbeats 4000000 in
set_option maxRecDepth 20000 in
theorem c_X7_byteAt_s {G : uk_D} (hs : uk_Sep G) {u : uk_Mem} (hu : iv u) (p : Int32) (p0 : 0 ≤ p) (d : Nat) : uk_Meth G d mX7_byteAt [.ref (uk_ad G 60), .int p] u (q_X7_byteAt_s u p) := by
  refine uk_Meth.of hs (by decide) (Nat.le_of_ble_eq_true rfl) (fun X => ?_)
  refine g_iload_n dX7_byteAt_0 rfl ?_
  refine g_aload_n dX7_byteAt_1 rfl ?_
  refine f_X7_88 rfl rfl dX7_byteAt_2 ?_
  refine g_topi (fun x1 ex1 => ?_)
  have rx1 : 0 ≤ x1 ∧ x1 ≤ 160 := by rw [ex1]; exact iv_at hu _ _ rfl
  have s2 : u.1 60 13 = x1 := ex1.symm
  refine g_icmp_ge (tgt := 17) dX7_byteAt_5 (by decide) (fun c3 => ?_) (fun c3 => ?_)
  · refine g_iconst (v := (-1)) dX7_byteAt_17 (by decide) ?_
    exact g_iret (ty := .int) dX7_byteAt_18 rfl rfl ⟨⟨_, rfl, by first | trivial | lia | grind⟩, rfl⟩
  · refine g_aload_n dX7_byteAt_8 rfl ?_
    refine f_X7_35 rfl rfl dX7_byteAt_9 ?_
    refine g_iload_n dX7_byteAt_12 rfl ?_
    have v4 : vp_in p 160 := uk_vin 160 rfl (by first | decide | lia | grind) (by first | decide | lia | grind)
    refine g_iald rfl rfl v4 dX7_byteAt_13 ?_
    refine g_topi (fun x5 ex5 => ?_)
    have bx5 := uk_cl v4
    have rx5 : 0 ≤ x5 ∧ x5 ≤ 127 := by rw [ex5]; exact iv_at hu _ _ (uk_pick1 _ (by omega))
    refine g_goto (tgt := 18) dX7_byteAt_14 (by decide) ?_
    exact g_iret (ty := .int) dX7_byteAt_18 rfl rfl ⟨⟨_, rfl, by first | trivial | lia | grind⟩, rfl⟩
abbrev q_X7_needs_s (u : uk_Mem) (b : Int32) (e : Int32) (r : Option Value) (u' : uk_Mem) : Prop := (r = none) ∧ (iv u' ∧ fk [60] [3, 7, 10, 11, 13, 14, 15, 16, 17, 22, 28] u u' ∧ (u'.1 60 18 = 0 → u.1 60 18 = 0 ∧ ¬ b = 0) ∧ (u.1 60 18 = 0 → b = 0 → u'.1 60 18 = e ∧ u'.1 60 19 = u.1 60 15) ∧ (¬ (u.1 60 18 = 0 ∧ b = 0) → u'.1 60 18 = u.1 60 18 ∧ u'.1 60 19 = u.1 60 19))
set_option maxHeartbeats 4000000 in
set_option maxRecDepth 20000 in
theorem c_X7_needs_s {G : uk_D} (hs : uk_Sep G) {u : uk_Mem} (hu : iv u) (b : Int32) (e : Int32) (p0 : 1 ≤ e) (p1 : e ≤ 6) (d : Nat) : uk_Meth G d mX7_needs [.ref (uk_ad G 60), .int b, .int e] u (q_X7_needs_s u b e) := by
  refine uk_Meth.of hs (by decide) (Nat.le_of_ble_eq_true rfl) (fun X => ?_)
  have f0 : fk [60] [3, 7, 10, 11, 13, 14, 15, 16, 17, 22, 28] u u := fk_rf
  obtain ⟨t1, Tt1⟩ : ∃ t, u.1 60 15 = t := ⟨_, rfl⟩
  obtain ⟨t2, Tt2⟩ : ∃ t, u.1 60 18 = t := ⟨_, rfl⟩
  obtain ⟨t3, Tt3⟩ : ∃ t, u.1 60 19 = t := ⟨_, rfl⟩
  refine g_iload_n dX7_needs_0 rfl ?_
  refine g_if_ne (tgt := 24) dX7_needs_1 (by decide) (fun c4 => ?_) (fun c4 => ?_)
  · exact g_vret dX7_needs_24 rfl ⟨rfl, hu, f0, (by rw [Tt2]; grind), (by rw [Tt2, Tt3]; grind), (by rw [Tt2, Tt3]; grind)⟩
  · refine g_aload_n dX7_needs_4 rfl ?_
    refine f_X7_91 rfl rfl dX7_needs_5 ?_
    refine g_topi (fun x5 ex5 => ?_)
    have rx5 : 0 ≤ x5 ∧ x5 ≤ 6 := by rw [ex5]; exact iv_at hu _ _ rfl
    have qx5 : x5 = t2 := ex5.trans Tt2
    refine g_if_ne (tgt := 24) dX7_needs_8 (by decide) (fun c6 => ?_) (fun c6 => ?_)
    · exact g_vret dX7_needs_24 rfl ⟨rfl, hu, f0, (by rw [Tt2]; grind), (by rw [Tt2, Tt3]; grind), (by rw [Tt2, Tt3]; grind)⟩
    · refine g_aload_n dX7_needs_11 rfl ?_
      refine g_iload_n dX7_needs_12 rfl ?_
      refine p_X7_91 rfl rfl dX7_needs_13 ?_
      refine g_mem (fun u7 eu7 => ?_)
      have hu7 : iv u7 := by rw [eu7]; exact iv_up hu rfl (by first | lia | grind) (by first | lia | grind)
      have fu7 : fk [60] [3, 7, 10, 11, 13, 14, 15, 16, 17, 22, 28] u u7 := by rw [eu7]; exact fk_up f0 (by decide) (fun _ => by decide)
      have s8 : u7.1 60 18 = e := by rw [eu7, uk_up_at]; exact if_pos ⟨rfl, rfl⟩
      have T9 : u7.1 60 15 = t1 := by rw [eu7, uk_up_at, if_neg (by decide)]; exact Tt1
      have T10 : u7.1 60 19 = t3 := by rw [eu7, uk_up_at, if_neg (by decide)]; exact Tt3
      refine g_aload_n dX7_needs_16 rfl ?_
      refine g_aload_n dX7_needs_17 rfl ?_
      refine f_X7_94 rfl rfl dX7_needs_18 ?_
      refine g_topi (fun x11 ex11 => ?_)
      have rx11 : 0 ≤ x11 ∧ x11 ≤ 160 := by rw [ex11]; exact iv_at hu7 _ _ rfl
      have qx11 : x11 = t1 := ex11.trans T9
      refine p_X7_97 rfl rfl dX7_needs_21 ?_
      refine g_mem (fun u12 eu12 => ?_)
      have hu12 : iv u12 := by rw [eu12]; exact iv_upF hu7 rfl
      have fu12 : fk [60] [3, 7, 10, 11, 13, 14, 15, 16, 17, 22, 28] u u12 := by rw [eu12]; exact fk_up fu7 (by decide) (fun _ => by decide)
      have s13 : u12.1 60 19 = x11 := by rw [eu12, uk_up_at]; exact if_pos ⟨rfl, rfl⟩
      have T14 : u12.1 60 15 = t1 := by rw [eu12, uk_up_at, if_neg (by decide)]; exact T9
      have T15 : u12.1 60 18 = e := by rw [eu12, uk_up_at, if_neg (by decide)]; exact s8
      exact g_vret dX7_needs_24 rfl ⟨rfl, hu12, fu12, (by rw [T15]; grind), (by rw [T15, s13]; grind), (by rw [T15, s13]; grind)⟩
abbrev q_X7_next_s (u : uk_Mem)  (r : Option Value) (u' : uk_Mem) : Prop := (r = none) ∧ (iv u' ∧ fk [60] [3, 7, 10, 11, 13, 22, 28] u u' ∧ (u'.1 60 18 = 0 → u.1 60 18 = 0) ∧ u.1 60 14 ≤ u'.1 60 14 ∧ (u.1 60 18 = 0 → u.1 60 14 ≤ u'.1 60 15) ∧ (u.1 60 18 = 0 → u'.1 60 15 ≤ u'.1 60 14) ∧ (u.1 60 18 = 0 → ah (u.1 69) (u.1 60 13) (u.1 60 14) u') ∧ (¬ u.1 60 18 = 0 → u'.1 60 14 = u.1 60 14 ∧ u'.1 60 15 = u.1 60 15 ∧ u'.1 60 16 = u.1 60 16 ∧ u'.1 60 17 = u.1 60 17 ∧ u'.1 60 18 = u.1 60 18 ∧ u'.1 60 19 = u.1 60 19))
set_option maxHeartbeats 4000000 in
set_option maxRecDepth 20000 in
theorem c_X7_next_s {G : uk_D} (hs : uk_Sep G) {u : uk_Mem} (hu : iv u)  (d : Nat) : uk_Meth G (d + 1) mX7_next [.ref (uk_ad G 60)] u (q_X7_next_s u) := by
  refine uk_Meth.of hs (by decide) (Nat.le_of_ble_eq_true rfl) (fun X => ?_)
  have f0 : fk [60] [3, 7, 10, 11, 13, 22, 28] u u := fk_rf
  obtain ⟨t1, Tt1⟩ : ∃ t, u.1 60 13 = t := ⟨_, rfl⟩
  obtain ⟨t2, Tt2⟩ : ∃ t, u.1 60 14 = t := ⟨_, rfl⟩
  obtain ⟨t3, Tt3⟩ : ∃ t, u.1 60 15 = t := ⟨_, rfl⟩
  obtain ⟨t4, Tt4⟩ : ∃ t, u.1 60 16 = t := ⟨_, rfl⟩
  obtain ⟨t5, Tt5⟩ : ∃ t, u.1 60 17 = t := ⟨_, rfl⟩
  obtain ⟨t6, Tt6⟩ : ∃ t, u.1 60 18 = t := ⟨_, rfl⟩
  obtain ⟨t7, Tt7⟩ : ∃ t, u.1 60 19 = t := ⟨_, rfl⟩
  have n160 : u.1 60 13 ≤ 160 := (iv_at hu 60 13 rfl).2
  refine g_aload_n dX7_next_0 rfl ?_
  refine f_X7_91 rfl rfl dX7_next_1 ?_
  refine g_topi (fun x8 ex8 => ?_)
  have rx8 : 0 ≤ x8 ∧ x8 ≤ 6 := by rw [ex8]; exact iv_at hu _ _ rfl
  have qx8 : x8 = t6 := ex8.trans Tt6
  refine g_if_le (tgt := 8) dX7_next_4 (by decide) (fun c9 => ?_) (fun c9 => ?_)
  · have L8_9 : ∀ i11 : Int32, 0 ≤ i11 → i11 ≤ 160 → ∀ (u12 : uk_Mem), iv u12 → fk [60] [3, 7, 10, 11, 13, 22, 28] u u12 → u12.1 60 14 = i11 → u12.1 60 18 = u.1 60 18 → rn e32 (u.1 69) (u.1 60 13) (u.1 60 14) (u12.1 60 14) → uk_G G X mX7_next (d + 1) (q_X7_next_s u) 8 [(0, .ref (uk_ad G 60))] [] u12 := by
      refine uk_upl 160 ?_
      intro i11 ai11 bi11 ihi11  u12 hu12 fu12 ki11 ji110 ji111
      obtain ⟨t13, Tt13⟩ : ∃ t, u12.1 60 13 = t := ⟨_, rfl⟩
      have Rt13 : 0 ≤ t13 ∧ t13 ≤ 160 := by rw [← Tt13]; exact iv_at hu12 _ _ rfl
      obtain ⟨t14, Tt14⟩ : ∃ t, u12.1 60 15 = t := ⟨_, rfl⟩
      have Rt14 : 0 ≤ t14 ∧ t14 ≤ 160 := by rw [← Tt14]; exact iv_at hu12 _ _ rfl
      obtain ⟨t15, Tt15⟩ : ∃ t, u12.1 60 16 = t := ⟨_, rfl⟩
      obtain ⟨t16, Tt16⟩ : ∃ t, u12.1 60 17 = t := ⟨_, rfl⟩
      obtain ⟨t17, Tt17⟩ : ∃ t, u12.1 60 18 = t := ⟨_, rfl⟩
      have Rt17 : 0 ≤ t17 ∧ t17 ≤ 6 := by rw [← Tt17]; exact iv_at hu12 _ _ rfl
      obtain ⟨t18, Tt18⟩ : ∃ t, u12.1 60 19 = t := ⟨_, rfl⟩
      refine g_aload_n dX7_next_8 rfl ?_
      refine g_aload_n dX7_next_9 rfl ?_
      refine f_X7_100 rfl rfl dX7_next_10 ?_
      refine g_topi (fun x19 ex19 => ?_)
      have rx19 : 0 ≤ x19 ∧ x19 ≤ 160 := by rw [ex19]; exact iv_at hu12 _ _ rfl
      have qx19 : x19 = i11 := ex19.trans ki11
      refine cl_X7_103 (c := 60) (As := [.int x19]) rfl (c_X7_byteAt_s (G := G) hs hu12  x19 (by first | trivial | decide | lia | grind) (d)) rfl (by omega) rfl rfl (Nat.le_of_ble_eq_true rfl) dX7_next_13 (fun r20 u21 q22 => ?_)
      obtain ⟨⟨x23, rfl, tx23⟩, mq22⟩ := q22
      rw [mq22]
      have bx23 : (x23 = -1 ∧ u.1 60 13 ≤ i11) ∨ (i11 < u.1 60 13 ∧ 0 ≤ x23 ∧ x23 = u.1 69 i11.toNatClampNeg) := by rw [← fk_at (c := 60) (i := 13) fu12 (by decide), ← fk_c (c := 69) fu12 (by decide), show i11 = x19 by grind]; exact tx23
      refine g_bipush (v := 32) dX7_next_16 (by decide) ?_
      refine g_icmp_ne (tgt := 34) dX7_next_18 (by decide) (fun c24 => ?_) (fun c24 => ?_)
      · have RN : rn e32 (u.1 69) (u.1 60 13) (u.1 60 14) i11 := by rw [← ki11]; exact ji111
        have NN : ¬ (i11 < u.1 60 13 ∧ e32 (u.1 69 i11.toNatClampNeg)) := fun z => by have z1 := z.1; have z2 := z.2; unfold e32 at z2; grind
        have S0 : u.1 60 14 ≤ i11 := RN.1
        refine g_aload_n dX7_next_34 rfl ?_
        refine g_aload_n dX7_next_35 rfl ?_
        refine f_X7_100 rfl rfl dX7_next_36 ?_
        refine g_topi (fun x25 ex25 => ?_)
        have rx25 : 0 ≤ x25 ∧ x25 ≤ 160 := by rw [ex25]; exact iv_at hu12 _ _ rfl
        have qx25 : x25 = i11 := ex25.trans ki11
        refine p_X7_94 rfl rfl dX7_next_39 ?_
        refine g_mem (fun u26 eu26 => ?_)
        have hu26 : iv u26 := by rw [eu26]; exact iv_up hu12 rfl (by first | lia | grind) (by first | lia | grind)
        have fu26 : fk [60] [3, 7, 10, 11, 13, 22, 28] u u26 := by rw [eu26]; exact fk_up fu12 (by decide) (fun _ => by decide)
        have s27 : u26.1 60 15 = x25 := by rw [eu26, uk_up_at]; exact if_pos ⟨rfl, rfl⟩
        have T28 : u26.1 60 13 = t13 := by rw [eu26, uk_up_at, if_neg (by decide)]; exact Tt13
        have T29 : u26.1 60 14 = i11 := by rw [eu26, uk_up_at, if_neg (by decide)]; exact ki11
        have T30 : u26.1 60 16 = t15 := by rw [eu26, uk_up_at, if_neg (by decide)]; exact Tt15
        have T31 : u26.1 60 17 = t16 := by rw [eu26, uk_up_at, if_neg (by decide)]; exact Tt16
        have T32 : u26.1 60 18 = t17 := by rw [eu26, uk_up_at, if_neg (by decide)]; exact Tt17
        have T33 : u26.1 60 19 = t18 := by rw [eu26, uk_up_at, if_neg (by decide)]; exact Tt18
        refine g_aload_n dX7_next_42 rfl ?_
        refine g_aload_n dX7_next_43 rfl ?_
        refine f_X7_100 rfl rfl dX7_next_44 ?_
        refine g_topi (fun x34 ex34 => ?_)
        have rx34 : 0 ≤ x34 ∧ x34 ≤ 160 := by rw [ex34]; exact iv_at hu26 _ _ rfl
        have qx34 : x34 = i11 := ex34.trans T29
        refine cl_X7_103 (c := 60) (As := [.int x34]) rfl (c_X7_byteAt_s (G := G) hs hu26  x34 (by first | trivial | decide | lia | grind) (d)) rfl (by omega) rfl rfl (Nat.le_of_ble_eq_true rfl) dX7_next_47 (fun r35 u36 q37 => ?_)
        obtain ⟨⟨x38, rfl, tx38⟩, mq37⟩ := q37
        rw [mq37]
        have bx38 : (x38 = -1 ∧ u.1 60 13 ≤ i11) ∨ (i11 < u.1 60 13 ∧ 0 ≤ x38 ∧ x38 = u.1 69 i11.toNatClampNeg) := by rw [← fk_at (c := 60) (i := 13) fu26 (by decide), ← fk_c (c := 69) fu26 (by decide), show i11 = x34 by grind]; exact tx38
        refine g_istore_n dX7_next_50 (by decide) ?_
        refine g_pick (lv' := [(0, .ref (uk_ad G 60)), (1, .int x38)]) [0, 1] rfl ?_
        refine g_iload_n dX7_next_51 rfl ?_
        refine g_if_ge (tgt := 63) dX7_next_52 (by decide) (fun c39 => ?_) (fun c39 => ?_)
        · refine g_iload_n dX7_next_63 rfl ?_
          refine g_i2l dX7_next_64 ?_
          refine g_ldc2 (v := 97) k_X7_114 dX7_next_65 ?_
          refine g_ldc2 (v := 122) k_X7_116 dX7_next_68 ?_
          refine cl_X7_84 (As := [.long x38.toInt64, .long 97, .long 122]) rfl (c_X7_in (G := G) hs hu26  x38 97 122  (d)) rfl (by omega) rfl (Nat.le_of_ble_eq_true rfl) dX7_next_71 (fun r40 u41 q42 => ?_)
          obtain ⟨⟨x43, rfl, tx43, nx43, zx43⟩, mq42⟩ := q42
          rw [mq42]
          refine g_if_eq (tgt := 116) dX7_next_74 (by decide) (fun c44 => ?_) (fun c44 => ?_)
          · have zc44 := zx43 c44
            refine g_iload_n dX7_next_116 rfl ?_
            refine g_i2l dX7_next_117 ?_
            refine g_ldc2 (v := 48) k_X7_118 dX7_next_118 ?_
            refine g_ldc2 (v := 57) k_X7_120 dX7_next_121 ?_
            refine cl_X7_84 (As := [.long x38.toInt64, .long 48, .long 57]) rfl (c_X7_in (G := G) hs hu26  x38 48 57  (d)) rfl (by omega) rfl (Nat.le_of_ble_eq_true rfl) dX7_next_124 (fun r45 u46 q47 => ?_)
            obtain ⟨⟨x48, rfl, tx48, nx48, zx48⟩, mq47⟩ := q47
            rw [mq47]
            refine g_if_eq (tgt := 243) dX7_next_127 (by decide) (fun c49 => ?_) (fun c49 => ?_)
            · have zc49 := zx48 c49
              refine g_aload_n dX7_next_243 rfl ?_
              refine g_iconst (v := 3) dX7_next_244 (by decide) ?_
              refine p_X7_111 rfl rfl dX7_next_245 ?_
              refine g_mem (fun u50 eu50 => ?_)
              have hu50 : iv u50 := by rw [eu50]; exact iv_upF hu26 rfl
              have fu50 : fk [60] [3, 7, 10, 11, 13, 22, 28] u u50 := by rw [eu50]; exact fk_up fu26 (by decide) (fun _ => by decide)
              have s51 : u50.1 60 16 = 3 := by rw [eu50, uk_up_at]; exact if_pos ⟨rfl, rfl⟩
              have T52 : u50.1 60 13 = t13 := by rw [eu50, uk_up_at, if_neg (by decide)]; exact T28
              have T53 : u50.1 60 14 = i11 := by rw [eu50, uk_up_at, if_neg (by decide)]; exact T29
              have T54 : u50.1 60 15 = x25 := by rw [eu50, uk_up_at, if_neg (by decide)]; exact s27
              have T55 : u50.1 60 17 = t16 := by rw [eu50, uk_up_at, if_neg (by decide)]; exact T31
              have T56 : u50.1 60 18 = t17 := by rw [eu50, uk_up_at, if_neg (by decide)]; exact T32
              have T57 : u50.1 60 19 = t18 := by rw [eu50, uk_up_at, if_neg (by decide)]; exact T33
              refine g_aload_n dX7_next_248 rfl ?_
              refine g_iload_n dX7_next_249 rfl ?_
              refine g_bipush (v := 59) dX7_next_250 (by decide) ?_
              refine g_icmp_ne (tgt := 259) dX7_next_252 (by decide) (fun c58 => ?_) (fun c58 => ?_)
              · refine g_iconst (v := 0) dX7_next_259 (by decide) ?_
                refine g_iconst (v := 1) dX7_next_260 (by decide) ?_
                refine cl_X7_125 (c := 60) (As := [.int 0, .int 1]) rfl (c_X7_needs_s (G := G) hs hu50  0 1 (by first | trivial | decide | lia | grind) (by first | trivial | decide | lia | grind) (d)) rfl (by omega) rfl rfl (Nat.le_of_ble_eq_true rfl) dX7_next_261 (fun r59 u60 q61 => ?_)
                obtain ⟨rfl, mq61⟩ := q61
                obtain ⟨hu60, gu60, ku600, ku601, ku602⟩ := mq61
                have fu60 : fk [60] [3, 7, 10, 11, 13, 22, 28] u u60 := fk_tr fu50 gu60 (by decide) (by decide)
                have T62 : u60.1 60 13 = t13 := (fk_at gu60 (by decide)).trans T52
                have T63 : u60.1 60 14 = i11 := (fk_at gu60 (by decide)).trans T53
                have T64 : u60.1 60 15 = x25 := (fk_at gu60 (by decide)).trans T54
                have T65 : u60.1 60 16 = 3 := (fk_at gu60 (by decide)).trans s51
                have T66 : u60.1 60 17 = t16 := (fk_at gu60 (by decide)).trans T55
                obtain ⟨t67, Tt67⟩ : ∃ t, u60.1 60 18 = t := ⟨_, rfl⟩
                have Rt67 : 0 ≤ t67 ∧ t67 ≤ 6 := by rw [← Tt67]; exact iv_at hu60 _ _ rfl
                obtain ⟨t68, Tt68⟩ : ∃ t, u60.1 60 19 = t := ⟨_, rfl⟩
                have s69 : u60.1 60 14 = i11 := (fk_at gu60 (by decide)).trans (by simp [eu50, eu26, uk_up_at, ki11] : u50.1 60 14 = i11)
                have s70 : u60.1 60 15 = x25 := (fk_at gu60 (by decide)).trans (by simp [eu50, uk_up_at, s27] : u50.1 60 15 = x25)
                have s71 : u60.1 60 16 = 3 := (fk_at gu60 (by decide)).trans s51
                refine g_aload_n dX7_next_264 rfl ?_
                refine g_dup dX7_next_265 rfl ?_
                refine f_X7_100 rfl rfl dX7_next_266 ?_
                refine g_topi (fun x72 ex72 => ?_)
                have rx72 : 0 ≤ x72 ∧ x72 ≤ 160 := by rw [ex72]; exact iv_at hu60 _ _ rfl
                have qx72 : x72 = i11 := ex72.trans T63
                refine g_iconst (v := 1) dX7_next_269 (by decide) ?_
                refine g_iadd dX7_next_270 ?_
                refine g_topi (fun x73 ex73 => ?_)
                refine p_X7_100 rfl rfl dX7_next_271 ?_
                refine g_mem (fun u74 eu74 => ?_)
                have hu74 : iv u74 := by rw [eu74]; exact iv_up hu60 rfl (by first | lia | grind) (by first | lia | grind)
                have fu74 : fk [60] [3, 7, 10, 11, 13, 22, 28] u u74 := by rw [eu74]; exact fk_up fu60 (by decide) (fun _ => by decide)
                have s75 : u74.1 60 14 = x73 := by rw [eu74, uk_up_at]; exact if_pos ⟨rfl, rfl⟩
                have T76 : u74.1 60 13 = t13 := by rw [eu74, uk_up_at, if_neg (by decide)]; exact T62
                have T77 : u74.1 60 15 = x25 := by rw [eu74, uk_up_at, if_neg (by decide)]; exact T64
                have T78 : u74.1 60 16 = 3 := by rw [eu74, uk_up_at, if_neg (by decide)]; exact T65
                have T79 : u74.1 60 17 = t16 := by rw [eu74, uk_up_at, if_neg (by decide)]; exact T66
                have T80 : u74.1 60 18 = t67 := by rw [eu74, uk_up_at, if_neg (by decide)]; exact Tt67
                have T81 : u74.1 60 19 = t68 := by rw [eu74, uk_up_at, if_neg (by decide)]; exact Tt68
                exact g_vret dX7_next_274 rfl ⟨rfl, hu74, fu74, (by first | rfl | (rw [T80]; grind) | rw [T80]), (by first | rfl | (rw [s75]; grind) | rw [s75]), (by first | rfl | (rw [T77]; grind) | rw [T77]), (by first | rfl | (rw [T77, s75]; grind) | rw [T77, s75]), (fun q => ah_S RN NN (by grind) (fun z => by unfold nam at z; grind) (fun z => by unfold dig at z; grind) (Or.inr ⟨by grind, (by first | (rw [T80]; done) | (rw [T80]; grind)), (by first | (rw [T81]; done) | (rw [T81]; grind))⟩) (by first | (rw [T77]; done) | (rw [T77]; grind)) (by first | (rw [T78]; done) | (rw [T78]; grind)) (by first | (rw [s75]; done) | (rw [s75]; grind))), (fun q => by exfalso; grind)⟩
              · refine g_iconst (v := 1) dX7_next_255 (by decide) ?_
                refine g_goto (tgt := 260) dX7_next_256 (by decide) ?_
                refine g_iconst (v := 1) dX7_next_260 (by decide) ?_
                refine cl_X7_125 (c := 60) (As := [.int 1, .int 1]) rfl (c_X7_needs_s (G := G) hs hu50  1 1 (by first | trivial | decide | lia | grind) (by first | trivial | decide | lia | grind) (d)) rfl (by omega) rfl rfl (Nat.le_of_ble_eq_true rfl) dX7_next_261 (fun r82 u83 q84 => ?_)
                obtain ⟨rfl, mq84⟩ := q84
                obtain ⟨hu83, gu83, ku830, ku831, ku832⟩ := mq84
                have fu83 : fk [60] [3, 7, 10, 11, 13, 22, 28] u u83 := fk_tr fu50 gu83 (by decide) (by decide)
                have T85 : u83.1 60 13 = t13 := (fk_at gu83 (by decide)).trans T52
                have T86 : u83.1 60 14 = i11 := (fk_at gu83 (by decide)).trans T53
                have T87 : u83.1 60 15 = x25 := (fk_at gu83 (by decide)).trans T54
                have T88 : u83.1 60 16 = 3 := (fk_at gu83 (by decide)).trans s51
                have T89 : u83.1 60 17 = t16 := (fk_at gu83 (by decide)).trans T55
                obtain ⟨t90, Tt90⟩ : ∃ t, u83.1 60 18 = t := ⟨_, rfl⟩
                have Rt90 : 0 ≤ t90 ∧ t90 ≤ 6 := by rw [← Tt90]; exact iv_at hu83 _ _ rfl
                obtain ⟨t91, Tt91⟩ : ∃ t, u83.1 60 19 = t := ⟨_, rfl⟩
                have s92 : u83.1 60 14 = i11 := (fk_at gu83 (by decide)).trans (by simp [eu50, eu26, uk_up_at, ki11] : u50.1 60 14 = i11)
                have s93 : u83.1 60 15 = x25 := (fk_at gu83 (by decide)).trans (by simp [eu50, uk_up_at, s27] : u50.1 60 15 = x25)
                have s94 : u83.1 60 16 = 3 := (fk_at gu83 (by decide)).trans s51
                refine g_aload_n dX7_next_264 rfl ?_
                refine g_dup dX7_next_265 rfl ?_
                refine f_X7_100 rfl rfl dX7_next_266 ?_
                refine g_topi (fun x95 ex95 => ?_)
                have rx95 : 0 ≤ x95 ∧ x95 ≤ 160 := by rw [ex95]; exact iv_at hu83 _ _ rfl
                have qx95 : x95 = i11 := ex95.trans T86
                refine g_iconst (v := 1) dX7_next_269 (by decide) ?_
                refine g_iadd dX7_next_270 ?_
                refine g_topi (fun x96 ex96 => ?_)
                refine p_X7_100 rfl rfl dX7_next_271 ?_
                refine g_mem (fun u97 eu97 => ?_)
                have hu97 : iv u97 := by rw [eu97]; exact iv_up hu83 rfl (by first | lia | grind) (by first | lia | grind)
                have fu97 : fk [60] [3, 7, 10, 11, 13, 22, 28] u u97 := by rw [eu97]; exact fk_up fu83 (by decide) (fun _ => by decide)
                have s98 : u97.1 60 14 = x96 := by rw [eu97, uk_up_at]; exact if_pos ⟨rfl, rfl⟩
                have T99 : u97.1 60 13 = t13 := by rw [eu97, uk_up_at, if_neg (by decide)]; exact T85
                have T100 : u97.1 60 15 = x25 := by rw [eu97, uk_up_at, if_neg (by decide)]; exact T87
                have T101 : u97.1 60 16 = 3 := by rw [eu97, uk_up_at, if_neg (by decide)]; exact T88
                have T102 : u97.1 60 17 = t16 := by rw [eu97, uk_up_at, if_neg (by decide)]; exact T89
                have T103 : u97.1 60 18 = t90 := by rw [eu97, uk_up_at, if_neg (by decide)]; exact Tt90
                have T104 : u97.1 60 19 = t91 := by rw [eu97, uk_up_at, if_neg (by decide)]; exact Tt91
                exact g_vret dX7_next_274 rfl ⟨rfl, hu97, fu97, (by first | rfl | (rw [T103]; grind) | rw [T103]), (by first | rfl | (rw [s98]; grind) | rw [s98]), (by first | rfl | (rw [T100]; grind) | rw [T100]), (by first | rfl | (rw [T100, s98]; grind) | rw [T100, s98]), (fun q => ah_S RN NN (by grind) (fun z => by unfold nam at z; grind) (fun z => by unfold dig at z; grind) (Or.inl ⟨by grind, (by first | (rw [T103]; done) | (rw [T103]; grind))⟩) (by first | (rw [T100]; done) | (rw [T100]; grind)) (by first | (rw [T101]; done) | (rw [T101]; grind)) (by first | (rw [s98]; done) | (rw [s98]; grind))), (fun q => by exfalso; grind)⟩
            · have zc49 := nx48 c49
              refine g_aload_n dX7_next_130 rfl ?_
              refine g_iconst (v := 2) dX7_next_131 (by decide) ?_
              refine p_X7_111 rfl rfl dX7_next_132 ?_
              refine g_mem (fun u105 eu105 => ?_)
              have hu105 : iv u105 := by rw [eu105]; exact iv_upF hu26 rfl
              have fu105 : fk [60] [3, 7, 10, 11, 13, 22, 28] u u105 := by rw [eu105]; exact fk_up fu26 (by decide) (fun _ => by decide)
              have s106 : u105.1 60 16 = 2 := by rw [eu105, uk_up_at]; exact if_pos ⟨rfl, rfl⟩
              have T107 : u105.1 60 13 = t13 := by rw [eu105, uk_up_at, if_neg (by decide)]; exact T28
              have T108 : u105.1 60 14 = i11 := by rw [eu105, uk_up_at, if_neg (by decide)]; exact T29
              have T109 : u105.1 60 15 = x25 := by rw [eu105, uk_up_at, if_neg (by decide)]; exact s27
              have T110 : u105.1 60 17 = t16 := by rw [eu105, uk_up_at, if_neg (by decide)]; exact T31
              have T111 : u105.1 60 18 = t17 := by rw [eu105, uk_up_at, if_neg (by decide)]; exact T32
              have T112 : u105.1 60 19 = t18 := by rw [eu105, uk_up_at, if_neg (by decide)]; exact T33
              refine g_aload_n dX7_next_135 rfl ?_
              refine g_iconst (v := 0) dX7_next_136 (by decide) ?_
              refine p_X7_122 rfl rfl dX7_next_137 ?_
              refine g_mem (fun u113 eu113 => ?_)
              have hu113 : iv u113 := by rw [eu113]; exact iv_upF hu105 rfl
              have fu113 : fk [60] [3, 7, 10, 11, 13, 22, 28] u u113 := by rw [eu113]; exact fk_up fu105 (by decide) (fun _ => by decide)
              have s114 : u113.1 60 17 = 0 := by rw [eu113, uk_up_at]; exact if_pos ⟨rfl, rfl⟩
              have T115 : u113.1 60 13 = t13 := by rw [eu113, uk_up_at, if_neg (by decide)]; exact T107
              have T116 : u113.1 60 14 = i11 := by rw [eu113, uk_up_at, if_neg (by decide)]; exact T108
              have T117 : u113.1 60 15 = x25 := by rw [eu113, uk_up_at, if_neg (by decide)]; exact T109
              have T118 : u113.1 60 16 = 2 := by rw [eu113, uk_up_at, if_neg (by decide)]; exact s106
              have T119 : u113.1 60 18 = t17 := by rw [eu113, uk_up_at, if_neg (by decide)]; exact T111
              have T120 : u113.1 60 19 = t18 := by rw [eu113, uk_up_at, if_neg (by decide)]; exact T112
              have L140_120 : ∀ i122 : Int32, 0 ≤ i122 → i122 ≤ 160 → ∀ (u123 : uk_Mem), iv u123 → fk [60] [3, 7, 10, 11, 13, 22, 28] u u123 → u123.1 60 14 = i122 → u123.1 60 18 = u.1 60 18 → u123.1 60 16 = 2 → TJ (u.1 69) (u.1 60 13) (u.1 60 14) (u123.1 60 15) 2 (u123.1 60 17) (u123.1 60 14) → u.1 60 14 ≤ u123.1 60 14 → u.1 60 14 ≤ u123.1 60 15 → u123.1 60 15 ≤ u123.1 60 14 → uk_G G X mX7_next (d + 1) (q_X7_next_s u) 140 [(0, .ref (uk_ad G 60)), (1, .int x38)] [] u123 := by
                refine uk_upl 160 ?_
                intro i122 ai122 bi122 ihi122  u123 hu123 fu123 ki122 ji1220 ji1221 ji1222 ji1223 ji1224 ji1225
                obtain ⟨t124, Tt124⟩ : ∃ t, u123.1 60 13 = t := ⟨_, rfl⟩
                have Rt124 : 0 ≤ t124 ∧ t124 ≤ 160 := by rw [← Tt124]; exact iv_at hu123 _ _ rfl
                obtain ⟨t125, Tt125⟩ : ∃ t, u123.1 60 15 = t := ⟨_, rfl⟩
                have Rt125 : 0 ≤ t125 ∧ t125 ≤ 160 := by rw [← Tt125]; exact iv_at hu123 _ _ rfl
                obtain ⟨t126, Tt126⟩ : ∃ t, u123.1 60 16 = t := ⟨_, rfl⟩
                obtain ⟨t127, Tt127⟩ : ∃ t, u123.1 60 17 = t := ⟨_, rfl⟩
                obtain ⟨t128, Tt128⟩ : ∃ t, u123.1 60 18 = t := ⟨_, rfl⟩
                have Rt128 : 0 ≤ t128 ∧ t128 ≤ 6 := by rw [← Tt128]; exact iv_at hu123 _ _ rfl
                obtain ⟨t129, Tt129⟩ : ∃ t, u123.1 60 19 = t := ⟨_, rfl⟩
                refine g_aload_n dX7_next_140 rfl ?_
                have hj : TJ (u.1 69) (u.1 60 13) (u.1 60 14) t125 2 t127 i122 := by rw [← Tt125, ← Tt127, ← ki122]; exact ji1222
                refine g_aload_n dX7_next_141 rfl ?_
                refine f_X7_100 rfl rfl dX7_next_142 ?_
                refine g_topi (fun x130 ex130 => ?_)
                have rx130 : 0 ≤ x130 ∧ x130 ≤ 160 := by rw [ex130]; exact iv_at hu123 _ _ rfl
                have qx130 : x130 = i122 := ex130.trans ki122
                refine cl_X7_103 (c := 60) (As := [.int x130]) rfl (c_X7_byteAt_s (G := G) hs hu123  x130 (by first | trivial | decide | lia | grind) (d)) rfl (by omega) rfl rfl (Nat.le_of_ble_eq_true rfl) dX7_next_145 (fun r131 u132 q133 => ?_)
                obtain ⟨⟨x134, rfl, tx134⟩, mq133⟩ := q133
                rw [mq133]
                have bx134 : (x134 = -1 ∧ u.1 60 13 ≤ i122) ∨ (i122 < u.1 60 13 ∧ 0 ≤ x134 ∧ x134 = u.1 69 i122.toNatClampNeg) := by rw [← fk_at (c := 60) (i := 13) fu123 (by decide), ← fk_c (c := 69) fu123 (by decide), show i122 = x130 by grind]; exact tx134
                refine g_i2l dX7_next_148 ?_
                refine g_ldc2 (v := 48) k_X7_118 dX7_next_149 ?_
                refine g_ldc2 (v := 57) k_X7_120 dX7_next_152 ?_
                refine cl_X7_84 (As := [.long x134.toInt64, .long 48, .long 57]) rfl (c_X7_in (G := G) hs hu123  x134 48 57  (d)) rfl (by omega) rfl (Nat.le_of_ble_eq_true rfl) dX7_next_155 (fun r135 u136 q137 => ?_)
                obtain ⟨⟨x138, rfl, tx138, nx138, zx138⟩, mq137⟩ := q137
                rw [mq137]
                refine g_if_eq (tgt := 217) dX7_next_158 (by decide) (fun c139 => ?_) (fun c139 => ?_)
                · have zc139 := zx138 c139
                  have EX : ¬ (i122 < u.1 60 13 ∧ tf (u.1 69 i122.toNatClampNeg) 2) := fun z => by have z1 := z.1; have z2 := tf_2 z.2 rfl; unfold dig at z2; grind
                  refine g_aload_n dX7_next_217 rfl ?_
                  refine g_aload_n dX7_next_218 rfl ?_
                  refine f_X7_100 rfl rfl dX7_next_219 ?_
                  refine g_topi (fun x140 ex140 => ?_)
                  have rx140 : 0 ≤ x140 ∧ x140 ≤ 160 := by rw [ex140]; exact iv_at hu123 _ _ rfl
                  have qx140 : x140 = i122 := ex140.trans ki122
                  refine g_aload_n dX7_next_222 rfl ?_
                  refine f_X7_94 rfl rfl dX7_next_223 ?_
                  refine g_topi (fun x141 ex141 => ?_)
                  have rx141 : 0 ≤ x141 ∧ x141 ≤ 160 := by rw [ex141]; exact iv_at hu123 _ _ rfl
                  have qx141 : x141 = t125 := ex141.trans Tt125
                  refine g_isub dX7_next_226 ?_
                  refine g_topi (fun x142 ex142 => ?_)
                  refine g_iconst (v := 2) dX7_next_227 (by decide) ?_
                  refine g_icmp_gt (tgt := 235) dX7_next_228 (by decide) (fun c143 => ?_) (fun c143 => ?_)
                  · refine g_iconst (v := 0) dX7_next_235 (by decide) ?_
                    refine g_iconst (v := 1) dX7_next_236 (by decide) ?_
                    refine cl_X7_125 (c := 60) (As := [.int 0, .int 1]) rfl (c_X7_needs_s (G := G) hs hu123  0 1 (by first | trivial | decide | lia | grind) (by first | trivial | decide | lia | grind) (d)) rfl (by omega) rfl rfl (Nat.le_of_ble_eq_true rfl) dX7_next_237 (fun r144 u145 q146 => ?_)
                    obtain ⟨rfl, mq146⟩ := q146
                    obtain ⟨hu145, gu145, ku1450, ku1451, ku1452⟩ := mq146
                    have fu145 : fk [60] [3, 7, 10, 11, 13, 22, 28] u u145 := fk_tr fu123 gu145 (by decide) (by decide)
                    have T147 : u145.1 60 13 = t124 := (fk_at gu145 (by decide)).trans Tt124
                    have T148 : u145.1 60 14 = i122 := (fk_at gu145 (by decide)).trans ki122
                    have T149 : u145.1 60 15 = t125 := (fk_at gu145 (by decide)).trans Tt125
                    have T150 : u145.1 60 16 = t126 := (fk_at gu145 (by decide)).trans Tt126
                    have T151 : u145.1 60 17 = t127 := (fk_at gu145 (by decide)).trans Tt127
                    obtain ⟨t152, Tt152⟩ : ∃ t, u145.1 60 18 = t := ⟨_, rfl⟩
                    have Rt152 : 0 ≤ t152 ∧ t152 ≤ 6 := by rw [← Tt152]; exact iv_at hu145 _ _ rfl
                    obtain ⟨t153, Tt153⟩ : ∃ t, u145.1 60 19 = t := ⟨_, rfl⟩
                    have s154 : u145.1 60 14 = i122 := (fk_at gu145 (by decide)).trans ki122
                    refine g_goto (tgt := 274) dX7_next_240 (by decide) ?_
                    exact g_vret dX7_next_274 rfl ⟨rfl, hu145, fu145, (by first | rfl | (rw [Tt152]; grind) | rw [Tt152]), (by first | rfl | (rw [T148]; grind) | rw [T148]), (by first | rfl | (rw [T149]; grind) | rw [T149]), (by first | rfl | (rw [T149, T148]; grind) | rw [T149, T148]), (fun q => ah_D hj EX (Or.inr ⟨by grind, (by first | (rw [Tt152]; done) | (rw [Tt152]; grind)), (by first | (rw [Tt153]; done) | (rw [Tt153]; grind))⟩) (by first | (rw [T149]; done) | (rw [T149]; grind)) (by first | (rw [T150]; done) | (rw [T150]; grind)) (by first | (rw [T151]; done) | (rw [T151]; grind)) (by first | (rw [T148]; done) | (rw [T148]; grind))), (fun q => by exfalso; grind)⟩
                  · refine g_iconst (v := 1) dX7_next_231 (by decide) ?_
                    refine g_goto (tgt := 236) dX7_next_232 (by decide) ?_
                    refine g_iconst (v := 1) dX7_next_236 (by decide) ?_
                    refine cl_X7_125 (c := 60) (As := [.int 1, .int 1]) rfl (c_X7_needs_s (G := G) hs hu123  1 1 (by first | trivial | decide | lia | grind) (by first | trivial | decide | lia | grind) (d)) rfl (by omega) rfl rfl (Nat.le_of_ble_eq_true rfl) dX7_next_237 (fun r155 u156 q157 => ?_)
                    obtain ⟨rfl, mq157⟩ := q157
                    obtain ⟨hu156, gu156, ku1560, ku1561, ku1562⟩ := mq157
                    have fu156 : fk [60] [3, 7, 10, 11, 13, 22, 28] u u156 := fk_tr fu123 gu156 (by decide) (by decide)
                    have T158 : u156.1 60 13 = t124 := (fk_at gu156 (by decide)).trans Tt124
                    have T159 : u156.1 60 14 = i122 := (fk_at gu156 (by decide)).trans ki122
                    have T160 : u156.1 60 15 = t125 := (fk_at gu156 (by decide)).trans Tt125
                    have T161 : u156.1 60 16 = t126 := (fk_at gu156 (by decide)).trans Tt126
                    have T162 : u156.1 60 17 = t127 := (fk_at gu156 (by decide)).trans Tt127
                    obtain ⟨t163, Tt163⟩ : ∃ t, u156.1 60 18 = t := ⟨_, rfl⟩
                    have Rt163 : 0 ≤ t163 ∧ t163 ≤ 6 := by rw [← Tt163]; exact iv_at hu156 _ _ rfl
                    obtain ⟨t164, Tt164⟩ : ∃ t, u156.1 60 19 = t := ⟨_, rfl⟩
                    have s165 : u156.1 60 14 = i122 := (fk_at gu156 (by decide)).trans ki122
                    refine g_goto (tgt := 274) dX7_next_240 (by decide) ?_
                    exact g_vret dX7_next_274 rfl ⟨rfl, hu156, fu156, (by first | rfl | (rw [Tt163]; grind) | rw [Tt163]), (by first | rfl | (rw [T159]; grind) | rw [T159]), (by first | rfl | (rw [T160]; grind) | rw [T160]), (by first | rfl | (rw [T160, T159]; grind) | rw [T160, T159]), (fun q => ah_D hj EX (Or.inl ⟨by grind, (by first | (rw [Tt163]; done) | (rw [Tt163]; grind))⟩) (by first | (rw [T160]; done) | (rw [T160]; grind)) (by first | (rw [T161]; done) | (rw [T161]; grind)) (by first | (rw [T162]; done) | (rw [T162]; grind)) (by first | (rw [T159]; done) | (rw [T159]; grind))), (fun q => by exfalso; grind)⟩
                · have zc139 := nx138 c139
                  refine g_aload_n dX7_next_161 rfl ?_
                  refine g_aload_n dX7_next_162 rfl ?_
                  refine f_X7_100 rfl rfl dX7_next_163 ?_
                  refine g_topi (fun x166 ex166 => ?_)
                  have rx166 : 0 ≤ x166 ∧ x166 ≤ 160 := by rw [ex166]; exact iv_at hu123 _ _ rfl
                  have qx166 : x166 = i122 := ex166.trans ki122
                  refine g_aload_n dX7_next_166 rfl ?_
                  refine f_X7_94 rfl rfl dX7_next_167 ?_
                  refine g_topi (fun x167 ex167 => ?_)
                  have rx167 : 0 ≤ x167 ∧ x167 ≤ 160 := by rw [ex167]; exact iv_at hu123 _ _ rfl
                  have qx167 : x167 = t125 := ex167.trans Tt125
                  refine g_isub dX7_next_170 ?_
                  refine g_topi (fun x168 ex168 => ?_)
                  refine g_iconst (v := 2) dX7_next_171 (by decide) ?_
                  refine g_icmp_ge (tgt := 197) dX7_next_172 (by decide) (fun c169 => ?_) (fun c169 => ?_)
                  · refine g_aload_n dX7_next_197 rfl ?_
                    refine f_X7_122 rfl rfl dX7_next_198 ?_
                    refine g_topi (fun x170 ex170 => ?_)
                    have qx170 : x170 = t127 := ex170.trans Tt127
                    refine p_X7_122 rfl rfl dX7_next_201 ?_
                    refine g_mem (fun u171 eu171 => ?_)
                    have hu171 : iv u171 := by rw [eu171]; exact iv_upF hu123 rfl
                    have fu171 : fk [60] [3, 7, 10, 11, 13, 22, 28] u u171 := by rw [eu171]; exact fk_up fu123 (by decide) (fun _ => by decide)
                    have s172 : u171.1 60 17 = x170 := by rw [eu171, uk_up_at]; exact if_pos ⟨rfl, rfl⟩
                    have T173 : u171.1 60 13 = t124 := by rw [eu171, uk_up_at, if_neg (by decide)]; exact Tt124
                    have T174 : u171.1 60 14 = i122 := by rw [eu171, uk_up_at, if_neg (by decide)]; exact ki122
                    have T175 : u171.1 60 15 = t125 := by rw [eu171, uk_up_at, if_neg (by decide)]; exact Tt125
                    have T176 : u171.1 60 16 = t126 := by rw [eu171, uk_up_at, if_neg (by decide)]; exact Tt126
                    have T177 : u171.1 60 18 = t128 := by rw [eu171, uk_up_at, if_neg (by decide)]; exact Tt128
                    have T178 : u171.1 60 19 = t129 := by rw [eu171, uk_up_at, if_neg (by decide)]; exact Tt129
                    refine g_aload_n dX7_next_204 rfl ?_
                    refine g_dup dX7_next_205 rfl ?_
                    refine f_X7_100 rfl rfl dX7_next_206 ?_
                    refine g_topi (fun x179 ex179 => ?_)
                    have rx179 : 0 ≤ x179 ∧ x179 ≤ 160 := by rw [ex179]; exact iv_at hu171 _ _ rfl
                    have qx179 : x179 = i122 := ex179.trans T174
                    refine g_iconst (v := 1) dX7_next_209 (by decide) ?_
                    refine g_iadd dX7_next_210 ?_
                    refine g_topi (fun x180 ex180 => ?_)
                    refine p_X7_100 rfl rfl dX7_next_211 ?_
                    refine g_mem (fun u181 eu181 => ?_)
                    have hu181 : iv u181 := by rw [eu181]; exact iv_up hu171 rfl (by first | lia | grind) (by first | lia | grind)
                    have fu181 : fk [60] [3, 7, 10, 11, 13, 22, 28] u u181 := by rw [eu181]; exact fk_up fu171 (by decide) (fun _ => by decide)
                    have s182 : u181.1 60 14 = x180 := by rw [eu181, uk_up_at]; exact if_pos ⟨rfl, rfl⟩
                    have T183 : u181.1 60 13 = t124 := by rw [eu181, uk_up_at, if_neg (by decide)]; exact T173
                    have T184 : u181.1 60 15 = t125 := by rw [eu181, uk_up_at, if_neg (by decide)]; exact T175
                    have T185 : u181.1 60 16 = t126 := by rw [eu181, uk_up_at, if_neg (by decide)]; exact T176
                    have T186 : u181.1 60 17 = x170 := by rw [eu181, uk_up_at, if_neg (by decide)]; exact s172
                    have T187 : u181.1 60 18 = t128 := by rw [eu181, uk_up_at, if_neg (by decide)]; exact T177
                    have T188 : u181.1 60 19 = t129 := by rw [eu181, uk_up_at, if_neg (by decide)]; exact T178
                    refine g_goto (tgt := 140) dX7_next_214 (by decide) ?_
                    refine g_pick (lv' := [(0, .ref (uk_ad G 60)), (1, .int x38)]) [0, 1] rfl ?_
                    exact ihi122 (by first | lia | grind) u181 hu181 fu181 (s182.trans (by first | lia | grind)) (by first | rfl | (rw [T187]; grind) | rw [T187]) (by first | rfl | (rw [T185]; grind) | rw [T185]) (by rw [T184, s182, T186]; exact TJ_s hj (by grind) n160 (by grind) rfl (Or.inr (Or.inl ⟨(by unfold dig; grind), rfl⟩)) (fun z z9 => by grind) (by grind)) (by first | rfl | (rw [s182]; grind) | rw [s182]) (by first | rfl | (rw [T184]; grind) | rw [T184]) (by first | rfl | (rw [T184, s182]; grind) | rw [T184, s182])
                  · refine g_bipush (v := 10) dX7_next_175 (by decide) ?_
                    refine g_aload_n dX7_next_177 rfl ?_
                    refine f_X7_122 rfl rfl dX7_next_178 ?_
                    refine g_topi (fun x189 ex189 => ?_)
                    have qx189 : x189 = t127 := ex189.trans Tt127
                    refine g_imul dX7_next_181 ?_
                    refine g_topi (fun x190 ex190 => ?_)
                    refine g_aload_n dX7_next_182 rfl ?_
                    refine g_aload_n dX7_next_183 rfl ?_
                    refine f_X7_100 rfl rfl dX7_next_184 ?_
                    refine g_topi (fun x191 ex191 => ?_)
                    have rx191 : 0 ≤ x191 ∧ x191 ≤ 160 := by rw [ex191]; exact iv_at hu123 _ _ rfl
                    have qx191 : x191 = i122 := ex191.trans ki122
                    refine cl_X7_103 (c := 60) (As := [.int x191]) rfl (c_X7_byteAt_s (G := G) hs hu123  x191 (by first | trivial | decide | lia | grind) (d)) rfl (by omega) rfl rfl (Nat.le_of_ble_eq_true rfl) dX7_next_187 (fun r192 u193 q194 => ?_)
                    obtain ⟨⟨x195, rfl, tx195⟩, mq194⟩ := q194
                    rw [mq194]
                    have bx195 : (x195 = -1 ∧ u.1 60 13 ≤ i122) ∨ (i122 < u.1 60 13 ∧ 0 ≤ x195 ∧ x195 = u.1 69 i122.toNatClampNeg) := by rw [← fk_at (c := 60) (i := 13) fu123 (by decide), ← fk_c (c := 69) fu123 (by decide), show i122 = x191 by grind]; exact tx195
                    refine g_iadd dX7_next_190 ?_
                    refine g_topi (fun x196 ex196 => ?_)
                    refine g_bipush (v := 48) dX7_next_191 (by decide) ?_
                    refine g_isub dX7_next_193 ?_
                    refine g_topi (fun x197 ex197 => ?_)
                    refine g_goto (tgt := 201) dX7_next_194 (by decide) ?_
                    refine p_X7_122 rfl rfl dX7_next_201 ?_
                    refine g_mem (fun u198 eu198 => ?_)
                    have hu198 : iv u198 := by rw [eu198]; exact iv_upF hu123 rfl
                    have fu198 : fk [60] [3, 7, 10, 11, 13, 22, 28] u u198 := by rw [eu198]; exact fk_up fu123 (by decide) (fun _ => by decide)
                    have s199 : u198.1 60 17 = x197 := by rw [eu198, uk_up_at]; exact if_pos ⟨rfl, rfl⟩
                    have T200 : u198.1 60 13 = t124 := by rw [eu198, uk_up_at, if_neg (by decide)]; exact Tt124
                    have T201 : u198.1 60 14 = i122 := by rw [eu198, uk_up_at, if_neg (by decide)]; exact ki122
                    have T202 : u198.1 60 15 = t125 := by rw [eu198, uk_up_at, if_neg (by decide)]; exact Tt125
                    have T203 : u198.1 60 16 = t126 := by rw [eu198, uk_up_at, if_neg (by decide)]; exact Tt126
                    have T204 : u198.1 60 18 = t128 := by rw [eu198, uk_up_at, if_neg (by decide)]; exact Tt128
                    have T205 : u198.1 60 19 = t129 := by rw [eu198, uk_up_at, if_neg (by decide)]; exact Tt129
                    refine g_aload_n dX7_next_204 rfl ?_
                    refine g_dup dX7_next_205 rfl ?_
                    refine f_X7_100 rfl rfl dX7_next_206 ?_
                    refine g_topi (fun x206 ex206 => ?_)
                    have rx206 : 0 ≤ x206 ∧ x206 ≤ 160 := by rw [ex206]; exact iv_at hu198 _ _ rfl
                    have qx206 : x206 = i122 := ex206.trans T201
                    refine g_iconst (v := 1) dX7_next_209 (by decide) ?_
                    refine g_iadd dX7_next_210 ?_
                    refine g_topi (fun x207 ex207 => ?_)
                    refine p_X7_100 rfl rfl dX7_next_211 ?_
                    refine g_mem (fun u208 eu208 => ?_)
                    have hu208 : iv u208 := by rw [eu208]; exact iv_up hu198 rfl (by first | lia | grind) (by first | lia | grind)
                    have fu208 : fk [60] [3, 7, 10, 11, 13, 22, 28] u u208 := by rw [eu208]; exact fk_up fu198 (by decide) (fun _ => by decide)
                    have s209 : u208.1 60 14 = x207 := by rw [eu208, uk_up_at]; exact if_pos ⟨rfl, rfl⟩
                    have T210 : u208.1 60 13 = t124 := by rw [eu208, uk_up_at, if_neg (by decide)]; exact T200
                    have T211 : u208.1 60 15 = t125 := by rw [eu208, uk_up_at, if_neg (by decide)]; exact T202
                    have T212 : u208.1 60 16 = t126 := by rw [eu208, uk_up_at, if_neg (by decide)]; exact T203
                    have T213 : u208.1 60 17 = x197 := by rw [eu208, uk_up_at, if_neg (by decide)]; exact s199
                    have T214 : u208.1 60 18 = t128 := by rw [eu208, uk_up_at, if_neg (by decide)]; exact T204
                    have T215 : u208.1 60 19 = t129 := by rw [eu208, uk_up_at, if_neg (by decide)]; exact T205
                    refine g_goto (tgt := 140) dX7_next_214 (by decide) ?_
                    refine g_pick (lv' := [(0, .ref (uk_ad G 60)), (1, .int x38)]) [0, 1] rfl ?_
                    exact ihi122 (by first | lia | grind) u208 hu208 fu208 (s209.trans (by first | lia | grind)) (by first | rfl | (rw [T214]; grind) | rw [T214]) (by first | rfl | (rw [T212]; grind) | rw [T212]) (by rw [T211, s209, T213]; exact TJ_s hj (by grind) n160 (by grind) rfl (Or.inr (Or.inl ⟨(by unfold dig; grind), rfl⟩)) (fun z z9 => by grind) (by grind)) (by first | rfl | (rw [s209]; grind) | rw [s209]) (by first | rfl | (rw [T211]; grind) | rw [T211]) (by first | rfl | (rw [T211, s209]; grind) | rw [T211, s209])
              refine g_pick (lv' := [(0, .ref (uk_ad G 60)), (1, .int x38)]) [0, 1] rfl ?_
              exact L140_120 (u113.1 60 14) (iv_at hu113 _ _ rfl).1 (iv_at hu113 _ _ rfl).2  u113 hu113 fu113 rfl (by first | rfl | (rw [T119]; grind) | rw [T119]) (by first | rfl | (rw [T118]; grind) | rw [T118]) (by rw [T117, T116, s114]; rw [show x25 = i11 by grind]; exact TJ_12 (by grind) n160 RN NN (by grind) (Or.inr (Or.inl ⟨(by unfold dig; grind), rfl⟩)) (by decide) (by decide)) (by first | rfl | (rw [T116]; grind) | rw [T116]) (by first | rfl | (rw [T117]; grind) | rw [T117]) (by first | rfl | (rw [T117, T116]; grind) | rw [T117, T116])
          · have zc44 := nx43 c44
            refine g_aload_n dX7_next_77 rfl ?_
            refine g_iconst (v := 1) dX7_next_78 (by decide) ?_
            refine p_X7_111 rfl rfl dX7_next_79 ?_
            refine g_mem (fun u216 eu216 => ?_)
            have hu216 : iv u216 := by rw [eu216]; exact iv_upF hu26 rfl
            have fu216 : fk [60] [3, 7, 10, 11, 13, 22, 28] u u216 := by rw [eu216]; exact fk_up fu26 (by decide) (fun _ => by decide)
            have s217 : u216.1 60 16 = 1 := by rw [eu216, uk_up_at]; exact if_pos ⟨rfl, rfl⟩
            have T218 : u216.1 60 13 = t13 := by rw [eu216, uk_up_at, if_neg (by decide)]; exact T28
            have T219 : u216.1 60 14 = i11 := by rw [eu216, uk_up_at, if_neg (by decide)]; exact T29
            have T220 : u216.1 60 15 = x25 := by rw [eu216, uk_up_at, if_neg (by decide)]; exact s27
            have T221 : u216.1 60 17 = t16 := by rw [eu216, uk_up_at, if_neg (by decide)]; exact T31
            have T222 : u216.1 60 18 = t17 := by rw [eu216, uk_up_at, if_neg (by decide)]; exact T32
            have T223 : u216.1 60 19 = t18 := by rw [eu216, uk_up_at, if_neg (by decide)]; exact T33
            have L82_223 : ∀ i225 : Int32, 0 ≤ i225 → i225 ≤ 160 → ∀ (u226 : uk_Mem), iv u226 → fk [60] [3, 7, 10, 11, 13, 22, 28] u u226 → u226.1 60 14 = i225 → u226.1 60 18 = u.1 60 18 → u226.1 60 16 = 1 → TJ (u.1 69) (u.1 60 13) (u.1 60 14) (u226.1 60 15) 1 0 (u226.1 60 14) → u.1 60 14 ≤ u226.1 60 14 → u.1 60 14 ≤ u226.1 60 15 → u226.1 60 15 ≤ u226.1 60 14 → uk_G G X mX7_next (d + 1) (q_X7_next_s u) 82 [(0, .ref (uk_ad G 60)), (1, .int x38)] [] u226 := by
              refine uk_upl 160 ?_
              intro i225 ai225 bi225 ihi225  u226 hu226 fu226 ki225 ji2250 ji2251 ji2252 ji2253 ji2254 ji2255
              obtain ⟨t227, Tt227⟩ : ∃ t, u226.1 60 13 = t := ⟨_, rfl⟩
              have Rt227 : 0 ≤ t227 ∧ t227 ≤ 160 := by rw [← Tt227]; exact iv_at hu226 _ _ rfl
              obtain ⟨t228, Tt228⟩ : ∃ t, u226.1 60 15 = t := ⟨_, rfl⟩
              have Rt228 : 0 ≤ t228 ∧ t228 ≤ 160 := by rw [← Tt228]; exact iv_at hu226 _ _ rfl
              obtain ⟨t229, Tt229⟩ : ∃ t, u226.1 60 16 = t := ⟨_, rfl⟩
              obtain ⟨t230, Tt230⟩ : ∃ t, u226.1 60 17 = t := ⟨_, rfl⟩
              obtain ⟨t231, Tt231⟩ : ∃ t, u226.1 60 18 = t := ⟨_, rfl⟩
              have Rt231 : 0 ≤ t231 ∧ t231 ≤ 6 := by rw [← Tt231]; exact iv_at hu226 _ _ rfl
              obtain ⟨t232, Tt232⟩ : ∃ t, u226.1 60 19 = t := ⟨_, rfl⟩
              refine g_aload_n dX7_next_82 rfl ?_
              have hj : TJ (u.1 69) (u.1 60 13) (u.1 60 14) t228 1 0 i225 := by rw [← Tt228, ← ki225]; exact ji2252
              refine g_aload_n dX7_next_83 rfl ?_
              refine f_X7_100 rfl rfl dX7_next_84 ?_
              refine g_topi (fun x233 ex233 => ?_)
              have rx233 : 0 ≤ x233 ∧ x233 ≤ 160 := by rw [ex233]; exact iv_at hu226 _ _ rfl
              have qx233 : x233 = i225 := ex233.trans ki225
              refine cl_X7_103 (c := 60) (As := [.int x233]) rfl (c_X7_byteAt_s (G := G) hs hu226  x233 (by first | trivial | decide | lia | grind) (d)) rfl (by omega) rfl rfl (Nat.le_of_ble_eq_true rfl) dX7_next_87 (fun r234 u235 q236 => ?_)
              obtain ⟨⟨x237, rfl, tx237⟩, mq236⟩ := q236
              rw [mq236]
              have bx237 : (x237 = -1 ∧ u.1 60 13 ≤ i225) ∨ (i225 < u.1 60 13 ∧ 0 ≤ x237 ∧ x237 = u.1 69 i225.toNatClampNeg) := by rw [← fk_at (c := 60) (i := 13) fu226 (by decide), ← fk_c (c := 69) fu226 (by decide), show i225 = x233 by grind]; exact tx237
              refine g_i2l dX7_next_90 ?_
              refine g_ldc2 (v := 97) k_X7_114 dX7_next_91 ?_
              refine g_ldc2 (v := 122) k_X7_116 dX7_next_94 ?_
              refine cl_X7_84 (As := [.long x237.toInt64, .long 97, .long 122]) rfl (c_X7_in (G := G) hs hu226  x237 97 122  (d)) rfl (by omega) rfl (Nat.le_of_ble_eq_true rfl) dX7_next_97 (fun r238 u239 q240 => ?_)
              obtain ⟨⟨x241, rfl, tx241, nx241, zx241⟩, mq240⟩ := q240
              rw [mq240]
              refine g_if_eq (tgt := 274) dX7_next_100 (by decide) (fun c242 => ?_) (fun c242 => ?_)
              · have zc242 := zx241 c242
                have EX : ¬ (i225 < u.1 60 13 ∧ tf (u.1 69 i225.toNatClampNeg) 1) := fun z => by have z1 := z.1; have z2 := tf_1 z.2 rfl; unfold nam at z2; grind
                exact g_vret dX7_next_274 rfl ⟨rfl, hu226, fu226, (by first | rfl | (rw [Tt231]; grind) | rw [Tt231]), (by first | rfl | (rw [ki225]; grind) | rw [ki225]), (by first | rfl | (rw [Tt228]; grind) | rw [Tt228]), (by first | rfl | (rw [Tt228, ki225]; grind) | rw [Tt228, ki225]), (fun q => ah_G (TJ_e (t' := 1) hj EX (fun z => absurd z (by decide)) (fun z => absurd z (by decide)) (fun _ => rfl)) (by decide) (by first | (rw [Tt231]; done) | (rw [Tt231]; grind)) (by first | (rw [Tt228]; done) | (rw [Tt228]; grind)) (by first | (rw [Tt229]; done) | (rw [Tt229]; grind)) (fun z => absurd z (by decide)) (by first | (rw [ki225]; done) | (rw [ki225]; grind))), (fun q => by exfalso; grind)⟩
              · have zc242 := nx241 c242
                refine g_aload_n dX7_next_103 rfl ?_
                refine g_dup dX7_next_104 rfl ?_
                refine f_X7_100 rfl rfl dX7_next_105 ?_
                refine g_topi (fun x243 ex243 => ?_)
                have rx243 : 0 ≤ x243 ∧ x243 ≤ 160 := by rw [ex243]; exact iv_at hu226 _ _ rfl
                have qx243 : x243 = i225 := ex243.trans ki225
                refine g_iconst (v := 1) dX7_next_108 (by decide) ?_
                refine g_iadd dX7_next_109 ?_
                refine g_topi (fun x244 ex244 => ?_)
                refine p_X7_100 rfl rfl dX7_next_110 ?_
                refine g_mem (fun u245 eu245 => ?_)
                have hu245 : iv u245 := by rw [eu245]; exact iv_up hu226 rfl (by first | lia | grind) (by first | lia | grind)
                have fu245 : fk [60] [3, 7, 10, 11, 13, 22, 28] u u245 := by rw [eu245]; exact fk_up fu226 (by decide) (fun _ => by decide)
                have s246 : u245.1 60 14 = x244 := by rw [eu245, uk_up_at]; exact if_pos ⟨rfl, rfl⟩
                have T247 : u245.1 60 13 = t227 := by rw [eu245, uk_up_at, if_neg (by decide)]; exact Tt227
                have T248 : u245.1 60 15 = t228 := by rw [eu245, uk_up_at, if_neg (by decide)]; exact Tt228
                have T249 : u245.1 60 16 = t229 := by rw [eu245, uk_up_at, if_neg (by decide)]; exact Tt229
                have T250 : u245.1 60 17 = t230 := by rw [eu245, uk_up_at, if_neg (by decide)]; exact Tt230
                have T251 : u245.1 60 18 = t231 := by rw [eu245, uk_up_at, if_neg (by decide)]; exact Tt231
                have T252 : u245.1 60 19 = t232 := by rw [eu245, uk_up_at, if_neg (by decide)]; exact Tt232
                refine g_goto (tgt := 82) dX7_next_113 (by decide) ?_
                refine g_pick (lv' := [(0, .ref (uk_ad G 60)), (1, .int x38)]) [0, 1] rfl ?_
                exact ihi225 (by first | lia | grind) u245 hu245 fu245 (s246.trans (by first | lia | grind)) (by first | rfl | (rw [T251]; grind) | rw [T251]) (by first | rfl | (rw [T249]; grind) | rw [T249]) (by rw [T248, s246]; exact TJ_s hj (by grind) n160 (by grind) rfl (Or.inl ⟨(by unfold nam; grind), rfl⟩) (fun z z9 => by exact absurd z (by decide)) (by grind)) (by first | rfl | (rw [s246]; grind) | rw [s246]) (by first | rfl | (rw [T248]; grind) | rw [T248]) (by first | rfl | (rw [T248, s246]; grind) | rw [T248, s246])
            refine g_pick (lv' := [(0, .ref (uk_ad G 60)), (1, .int x38)]) [0, 1] rfl ?_
            exact L82_223 (u216.1 60 14) (iv_at hu216 _ _ rfl).1 (iv_at hu216 _ _ rfl).2  u216 hu216 fu216 rfl (by first | rfl | (rw [T222]; grind) | rw [T222]) (by first | rfl | (rw [s217]; grind) | rw [s217]) (by rw [T220, T219]; rw [show x25 = i11 by grind]; exact TJ_12 (by grind) n160 RN NN (by grind) (Or.inl ⟨(by unfold nam; grind), rfl⟩) (by decide) (by decide)) (by first | rfl | (rw [T219]; grind) | rw [T219]) (by first | rfl | (rw [T220]; grind) | rw [T220]) (by first | rfl | (rw [T220, T219]; grind) | rw [T220, T219])
        · refine g_aload_n dX7_next_55 rfl ?_
          refine g_iconst (v := 0) dX7_next_56 (by decide) ?_
          refine p_X7_111 rfl rfl dX7_next_57 ?_
          refine g_mem (fun u253 eu253 => ?_)
          have hu253 : iv u253 := by rw [eu253]; exact iv_upF hu26 rfl
          have fu253 : fk [60] [3, 7, 10, 11, 13, 22, 28] u u253 := by rw [eu253]; exact fk_up fu26 (by decide) (fun _ => by decide)
          have s254 : u253.1 60 16 = 0 := by rw [eu253, uk_up_at]; exact if_pos ⟨rfl, rfl⟩
          have T255 : u253.1 60 13 = t13 := by rw [eu253, uk_up_at, if_neg (by decide)]; exact T28
          have T256 : u253.1 60 14 = i11 := by rw [eu253, uk_up_at, if_neg (by decide)]; exact T29
          have T257 : u253.1 60 15 = x25 := by rw [eu253, uk_up_at, if_neg (by decide)]; exact s27
          have T258 : u253.1 60 17 = t16 := by rw [eu253, uk_up_at, if_neg (by decide)]; exact T31
          have T259 : u253.1 60 18 = t17 := by rw [eu253, uk_up_at, if_neg (by decide)]; exact T32
          have T260 : u253.1 60 19 = t18 := by rw [eu253, uk_up_at, if_neg (by decide)]; exact T33
          refine g_goto (tgt := 274) dX7_next_60 (by decide) ?_
          exact g_vret dX7_next_274 rfl ⟨rfl, hu253, fu253, (by first | rfl | (rw [T259]; grind) | rw [T259]), (by first | rfl | (rw [T256]; grind) | rw [T256]), (by first | rfl | (rw [T257]; grind) | rw [T257]), (by first | rfl | (rw [T257, T256]; grind) | rw [T257, T256]), (fun q => ah_G (TK_0 (v := 0) RN (by grind)) (by decide) (by first | (rw [T259]; done) | (rw [T259]; grind)) (by first | (rw [T257]; done) | (rw [T257]; grind)) (by first | (rw [s254]; done) | (rw [s254]; grind)) (fun z => absurd z (by decide)) (by first | (rw [T256]; done) | (rw [T256]; grind))), (fun q => by exfalso; grind)⟩
      · refine g_aload_n dX7_next_21 rfl ?_
        refine g_dup dX7_next_22 rfl ?_
        refine f_X7_100 rfl rfl dX7_next_23 ?_
        refine g_topi (fun x261 ex261 => ?_)
        have rx261 : 0 ≤ x261 ∧ x261 ≤ 160 := by rw [ex261]; exact iv_at hu12 _ _ rfl
        have qx261 : x261 = i11 := ex261.trans ki11
        refine g_iconst (v := 1) dX7_next_26 (by decide) ?_
        refine g_iadd dX7_next_27 ?_
        refine g_topi (fun x262 ex262 => ?_)
        refine p_X7_100 rfl rfl dX7_next_28 ?_
        refine g_mem (fun u263 eu263 => ?_)
        have hu263 : iv u263 := by rw [eu263]; exact iv_up hu12 rfl (by first | lia | grind) (by first | lia | grind)
        have fu263 : fk [60] [3, 7, 10, 11, 13, 22, 28] u u263 := by rw [eu263]; exact fk_up fu12 (by decide) (fun _ => by decide)
        have s264 : u263.1 60 14 = x262 := by rw [eu263, uk_up_at]; exact if_pos ⟨rfl, rfl⟩
        have T265 : u263.1 60 13 = t13 := by rw [eu263, uk_up_at, if_neg (by decide)]; exact Tt13
        have T266 : u263.1 60 15 = t14 := by rw [eu263, uk_up_at, if_neg (by decide)]; exact Tt14
        have T267 : u263.1 60 16 = t15 := by rw [eu263, uk_up_at, if_neg (by decide)]; exact Tt15
        have T268 : u263.1 60 17 = t16 := by rw [eu263, uk_up_at, if_neg (by decide)]; exact Tt16
        have T269 : u263.1 60 18 = t17 := by rw [eu263, uk_up_at, if_neg (by decide)]; exact Tt17
        have T270 : u263.1 60 19 = t18 := by rw [eu263, uk_up_at, if_neg (by decide)]; exact Tt18
        have hr : rn e32 (u.1 69) (u.1 60 13) (u.1 60 14) (i11 + 1) := rn_up (show rn e32 (u.1 69) (u.1 60 13) (u.1 60 14) i11 from by rw [← ki11]; exact ji111) (by grind) n160 (by unfold e32; grind)
        refine g_goto (tgt := 8) dX7_next_31 (by decide) ?_
        refine g_pick (lv' := [(0, .ref (uk_ad G 60))]) [0] rfl ?_
        exact ihi11 (by first | lia | grind) u263 hu263 fu263 (s264.trans (by first | lia | grind)) (by first | rfl | (rw [T269]; grind) | rw [T269]) (by rw [s264, show x262 = i11 + 1 by grind]; exact hr)
    refine g_pick (lv' := [(0, .ref (uk_ad G 60))]) [0] rfl ?_
    exact L8_9 (u.1 60 14) (iv_at hu _ _ rfl).1 (iv_at hu _ _ rfl).2  u hu f0 rfl rfl rn_0
  · exact g_vret dX7_next_7 rfl ⟨rfl, hu, f0, (fun q => q), (by grind), (fun q => by exfalso; grind), (fun q => by exfalso; grind), (fun q => by exfalso; grind), (fun _ => ⟨rfl, rfl, rfl, rfl, rfl, rfl⟩)⟩
abbrev q_X7_looked_s (u : uk_Mem) (lo : Int32) (hi : Int32) (r : Option Value) (u' : uk_Mem) : Prop := (∃ x : Int32, r = some (.int x) ∧ (((u'.1 60 18 = 0 → lo ≤ x ∧ x ≤ hi) ∧ (x = 0 ∨ (lo ≤ x ∧ x ≤ hi))) ∧ lkd lo hi u u' x)) ∧ (iv u' ∧ fk [60] [3, 7, 10, 11, 13, 14, 15, 16, 17, 22, 28] u u' ∧ (u'.1 60 18 = 0 → u.1 60 18 = 0))
set_option maxHeartbeats 4000000 in
set_option maxRecDepth 20000 in
theorem c_X7_looked_s {G : uk_D} (hs : uk_Sep G) {u : uk_Mem} (hu : iv u) (lo : Int32) (hi : Int32) (d : Nat) : uk_Meth G (d + 1) mX7_looked [.ref (uk_ad G 60), .int lo, .int hi] u (q_X7_looked_s u lo hi) := by
  refine uk_Meth.of hs (by decide) (Nat.le_of_ble_eq_true rfl) (fun X => ?_)
  have f0 : fk [60] [3, 7, 10, 11, 13, 14, 15, 16, 17, 22, 28] u u := fk_rf
  obtain ⟨t1, Tt1⟩ : ∃ t, u.1 60 15 = t := ⟨_, rfl⟩
  obtain ⟨t2, Tt2⟩ : ∃ t, u.1 60 16 = t := ⟨_, rfl⟩
  obtain ⟨t3, Tt3⟩ : ∃ t, u.1 60 17 = t := ⟨_, rfl⟩
  obtain ⟨t4, Tt4⟩ : ∃ t, u.1 60 18 = t := ⟨_, rfl⟩
  obtain ⟨t5, Tt5⟩ : ∃ t, u.1 60 19 = t := ⟨_, rfl⟩
  refine g_aload_n dX7_looked_0 rfl ?_
  refine f_X7_91 rfl rfl dX7_looked_1 ?_
  refine g_topi (fun x6 ex6 => ?_)
  have rx6 : 0 ≤ x6 ∧ x6 ≤ 6 := by rw [ex6]; exact iv_at hu _ _ rfl
  have qx6 : x6 = t4 := ex6.trans Tt4
  refine g_if_ne (tgt := 25) dX7_looked_4 (by decide) (fun c7 => ?_) (fun c7 => ?_)
  · refine g_aload_n dX7_looked_25 rfl ?_
    refine f_X7_91 rfl rfl dX7_looked_26 ?_
    refine g_topi (fun x8 ex8 => ?_)
    have rx8 : 0 ≤ x8 ∧ x8 ≤ 6 := by rw [ex8]; exact iv_at hu _ _ rfl
    have qx8 : x8 = t4 := ex8.trans Tt4
    refine g_if_ne (tgt := 49) dX7_looked_29 (by decide) (fun c9 => ?_) (fun c9 => ?_)
    · refine g_aload_n dX7_looked_49 rfl ?_
      refine f_X7_91 rfl rfl dX7_looked_50 ?_
      refine g_topi (fun x10 ex10 => ?_)
      have rx10 : 0 ≤ x10 ∧ x10 ≤ 6 := by rw [ex10]; exact iv_at hu _ _ rfl
      have qx10 : x10 = t4 := ex10.trans Tt4
      refine g_if_ne (tgt := 63) dX7_looked_53 (by decide) (fun c11 => ?_) (fun c11 => ?_)
      · refine g_iconst (v := 0) dX7_looked_63 (by decide) ?_
        exact g_iret (ty := .int) dX7_looked_64 rfl rfl ⟨⟨_, rfl, ⟨by first | trivial | lia | grind, (by unfold lkd; grind)⟩⟩, hu, f0, (by first | rfl | (rw [Tt4]; grind) | rw [Tt4])⟩
      · refine g_aload_n dX7_looked_56 rfl ?_
        refine f_X7_122 rfl rfl dX7_looked_57 ?_
        refine g_topi (fun x12 ex12 => ?_)
        have qx12 : x12 = t3 := ex12.trans Tt3
        refine g_goto (tgt := 64) dX7_looked_60 (by decide) ?_
        exact g_iret (ty := .int) dX7_looked_64 rfl rfl ⟨⟨_, rfl, ⟨by first | trivial | lia | grind, (by unfold lkd; grind)⟩⟩, hu, f0, (by first | rfl | (rw [Tt4]; grind) | rw [Tt4])⟩
    · refine g_aload_n dX7_looked_32 rfl ?_
      refine g_aload_n dX7_looked_33 rfl ?_
      refine f_X7_122 rfl rfl dX7_looked_34 ?_
      refine g_topi (fun x13 ex13 => ?_)
      have qx13 : x13 = t3 := ex13.trans Tt3
      refine g_i2l dX7_looked_37 ?_
      refine g_iload_n dX7_looked_38 rfl ?_
      refine g_i2l dX7_looked_39 ?_
      refine g_iload_n dX7_looked_40 rfl ?_
      refine g_i2l dX7_looked_41 ?_
      refine cl_X7_84 (As := [.long x13.toInt64, .long lo.toInt64, .long hi.toInt64]) rfl (c_X7_in (G := G) hs hu  x13 lo hi  (d)) rfl (by omega) rfl (Nat.le_of_ble_eq_true rfl) dX7_looked_42 (fun r14 u15 q16 => ?_)
      obtain ⟨⟨x17, rfl, tx17, nx17, zx17⟩, mq16⟩ := q16
      rw [mq16]
      refine g_iconst (v := 3) dX7_looked_45 (by decide) ?_
      refine cl_X7_125 (c := 60) (As := [.int x17, .int 3]) rfl (c_X7_needs_s (G := G) hs hu  x17 3 (by first | trivial | decide | lia | grind) (by first | trivial | decide | lia | grind) (d)) rfl (by omega) rfl rfl (Nat.le_of_ble_eq_true rfl) dX7_looked_46 (fun r18 u19 q20 => ?_)
      obtain ⟨rfl, mq20⟩ := q20
      obtain ⟨hu19, gu19, ku190, ku191, ku192⟩ := mq20
      have fu19 : fk [60] [3, 7, 10, 11, 13, 14, 15, 16, 17, 22, 28] u u19 := fk_tr f0 gu19 (by decide) (by decide)
      have T21 : u19.1 60 15 = t1 := (fk_at gu19 (by decide)).trans Tt1
      have T22 : u19.1 60 16 = t2 := (fk_at gu19 (by decide)).trans Tt2
      have T23 : u19.1 60 17 = t3 := (fk_at gu19 (by decide)).trans Tt3
      obtain ⟨t24, Tt24⟩ : ∃ t, u19.1 60 18 = t := ⟨_, rfl⟩
      have Rt24 : 0 ≤ t24 ∧ t24 ≤ 6 := by rw [← Tt24]; exact iv_at hu19 _ _ rfl
      obtain ⟨t25, Tt25⟩ : ∃ t, u19.1 60 19 = t := ⟨_, rfl⟩
      refine g_aload_n dX7_looked_49 rfl ?_
      refine f_X7_91 rfl rfl dX7_looked_50 ?_
      refine g_topi (fun x26 ex26 => ?_)
      have rx26 : 0 ≤ x26 ∧ x26 ≤ 6 := by rw [ex26]; exact iv_at hu19 _ _ rfl
      have qx26 : x26 = t24 := ex26.trans Tt24
      refine g_if_ne (tgt := 63) dX7_looked_53 (by decide) (fun c27 => ?_) (fun c27 => ?_)
      · refine g_iconst (v := 0) dX7_looked_63 (by decide) ?_
        exact g_iret (ty := .int) dX7_looked_64 rfl rfl ⟨⟨_, rfl, ⟨by first | trivial | lia | grind, (by unfold lkd; grind)⟩⟩, hu19, fu19, (by first | rfl | (rw [Tt24]; grind) | rw [Tt24])⟩
      · refine g_aload_n dX7_looked_56 rfl ?_
        refine f_X7_122 rfl rfl dX7_looked_57 ?_
        refine g_topi (fun x28 ex28 => ?_)
        have qx28 : x28 = t3 := ex28.trans T23
        refine g_goto (tgt := 64) dX7_looked_60 (by decide) ?_
        exact g_iret (ty := .int) dX7_looked_64 rfl rfl ⟨⟨_, rfl, ⟨by first | trivial | lia | grind, (by unfold lkd; grind)⟩⟩, hu19, fu19, (by first | rfl | (rw [Tt24]; grind) | rw [Tt24])⟩
  · refine g_aload_n dX7_looked_7 rfl ?_
    refine g_aload_n dX7_looked_8 rfl ?_
    refine f_X7_111 rfl rfl dX7_looked_9 ?_
    refine g_topi (fun x29 ex29 => ?_)
    have qx29 : x29 = t2 := ex29.trans Tt2
    refine g_iconst (v := 2) dX7_looked_12 (by decide) ?_
    refine g_icmp_ne (tgt := 20) dX7_looked_13 (by decide) (fun c30 => ?_) (fun c30 => ?_)
    · refine g_iconst (v := 0) dX7_looked_20 (by decide) ?_
      refine g_iconst (v := 2) dX7_looked_21 (by decide) ?_
      refine cl_X7_125 (c := 60) (As := [.int 0, .int 2]) rfl (c_X7_needs_s (G := G) hs hu  0 2 (by first | trivial | decide | lia | grind) (by first | trivial | decide | lia | grind) (d)) rfl (by omega) rfl rfl (Nat.le_of_ble_eq_true rfl) dX7_looked_22 (fun r31 u32 q33 => ?_)
      obtain ⟨rfl, mq33⟩ := q33
      obtain ⟨hu32, gu32, ku320, ku321, ku322⟩ := mq33
      have fu32 : fk [60] [3, 7, 10, 11, 13, 14, 15, 16, 17, 22, 28] u u32 := fk_tr f0 gu32 (by decide) (by decide)
      have T34 : u32.1 60 15 = t1 := (fk_at gu32 (by decide)).trans Tt1
      have T35 : u32.1 60 16 = t2 := (fk_at gu32 (by decide)).trans Tt2
      have T36 : u32.1 60 17 = t3 := (fk_at gu32 (by decide)).trans Tt3
      obtain ⟨t37, Tt37⟩ : ∃ t, u32.1 60 18 = t := ⟨_, rfl⟩
      have Rt37 : 0 ≤ t37 ∧ t37 ≤ 6 := by rw [← Tt37]; exact iv_at hu32 _ _ rfl
      obtain ⟨t38, Tt38⟩ : ∃ t, u32.1 60 19 = t := ⟨_, rfl⟩
      refine g_aload_n dX7_looked_25 rfl ?_
      refine f_X7_91 rfl rfl dX7_looked_26 ?_
      refine g_topi (fun x39 ex39 => ?_)
      have rx39 : 0 ≤ x39 ∧ x39 ≤ 6 := by rw [ex39]; exact iv_at hu32 _ _ rfl
      have qx39 : x39 = t37 := ex39.trans Tt37
      refine g_if_ne (tgt := 49) dX7_looked_29 (by decide) (fun c40 => ?_) (fun c40 => ?_)
      · refine g_aload_n dX7_looked_49 rfl ?_
        refine f_X7_91 rfl rfl dX7_looked_50 ?_
        refine g_topi (fun x41 ex41 => ?_)
        have rx41 : 0 ≤ x41 ∧ x41 ≤ 6 := by rw [ex41]; exact iv_at hu32 _ _ rfl
        have qx41 : x41 = t37 := ex41.trans Tt37
        refine g_if_ne (tgt := 63) dX7_looked_53 (by decide) (fun c42 => ?_) (fun c42 => ?_)
        · refine g_iconst (v := 0) dX7_looked_63 (by decide) ?_
          exact g_iret (ty := .int) dX7_looked_64 rfl rfl ⟨⟨_, rfl, ⟨by first | trivial | lia | grind, (by unfold lkd; grind)⟩⟩, hu32, fu32, (by first | rfl | (rw [Tt37]; grind) | rw [Tt37])⟩
        · refine g_aload_n dX7_looked_56 rfl ?_
          refine f_X7_122 rfl rfl dX7_looked_57 ?_
          refine g_topi (fun x43 ex43 => ?_)
          have qx43 : x43 = t3 := ex43.trans T36
          refine g_goto (tgt := 64) dX7_looked_60 (by decide) ?_
          exact g_iret (ty := .int) dX7_looked_64 rfl rfl ⟨⟨_, rfl, ⟨by first | trivial | lia | grind, (by unfold lkd; grind)⟩⟩, hu32, fu32, (by first | rfl | (rw [Tt37]; grind) | rw [Tt37])⟩
      · refine g_aload_n dX7_looked_32 rfl ?_
        refine g_aload_n dX7_looked_33 rfl ?_
        refine f_X7_122 rfl rfl dX7_looked_34 ?_
        refine g_topi (fun x44 ex44 => ?_)
        have qx44 : x44 = t3 := ex44.trans T36
        refine g_i2l dX7_looked_37 ?_
        refine g_iload_n dX7_looked_38 rfl ?_
        refine g_i2l dX7_looked_39 ?_
        refine g_iload_n dX7_looked_40 rfl ?_
        refine g_i2l dX7_looked_41 ?_
        refine cl_X7_84 (As := [.long x44.toInt64, .long lo.toInt64, .long hi.toInt64]) rfl (c_X7_in (G := G) hs hu32  x44 lo hi  (d)) rfl (by omega) rfl (Nat.le_of_ble_eq_true rfl) dX7_looked_42 (fun r45 u46 q47 => ?_)
        obtain ⟨⟨x48, rfl, tx48, nx48, zx48⟩, mq47⟩ := q47
        rw [mq47]
        refine g_iconst (v := 3) dX7_looked_45 (by decide) ?_
        refine cl_X7_125 (c := 60) (As := [.int x48, .int 3]) rfl (c_X7_needs_s (G := G) hs hu32  x48 3 (by first | trivial | decide | lia | grind) (by first | trivial | decide | lia | grind) (d)) rfl (by omega) rfl rfl (Nat.le_of_ble_eq_true rfl) dX7_looked_46 (fun r49 u50 q51 => ?_)
        obtain ⟨rfl, mq51⟩ := q51
        obtain ⟨hu50, gu50, ku500, ku501, ku502⟩ := mq51
        have fu50 : fk [60] [3, 7, 10, 11, 13, 14, 15, 16, 17, 22, 28] u u50 := fk_tr fu32 gu50 (by decide) (by decide)
        have T52 : u50.1 60 15 = t1 := (fk_at gu50 (by decide)).trans T34
        have T53 : u50.1 60 16 = t2 := (fk_at gu50 (by decide)).trans T35
        have T54 : u50.1 60 17 = t3 := (fk_at gu50 (by decide)).trans T36
        obtain ⟨t55, Tt55⟩ : ∃ t, u50.1 60 18 = t := ⟨_, rfl⟩
        have Rt55 : 0 ≤ t55 ∧ t55 ≤ 6 := by rw [← Tt55]; exact iv_at hu50 _ _ rfl
        obtain ⟨t56, Tt56⟩ : ∃ t, u50.1 60 19 = t := ⟨_, rfl⟩
        refine g_aload_n dX7_looked_49 rfl ?_
        refine f_X7_91 rfl rfl dX7_looked_50 ?_
        refine g_topi (fun x57 ex57 => ?_)
        have rx57 : 0 ≤ x57 ∧ x57 ≤ 6 := by rw [ex57]; exact iv_at hu50 _ _ rfl
        have qx57 : x57 = t55 := ex57.trans Tt55
        refine g_if_ne (tgt := 63) dX7_looked_53 (by decide) (fun c58 => ?_) (fun c58 => ?_)
        · refine g_iconst (v := 0) dX7_looked_63 (by decide) ?_
          exact g_iret (ty := .int) dX7_looked_64 rfl rfl ⟨⟨_, rfl, ⟨by first | trivial | lia | grind, (by unfold lkd; grind)⟩⟩, hu50, fu50, (by first | rfl | (rw [Tt55]; grind) | rw [Tt55])⟩
        · refine g_aload_n dX7_looked_56 rfl ?_
          refine f_X7_122 rfl rfl dX7_looked_57 ?_
          refine g_topi (fun x59 ex59 => ?_)
          have qx59 : x59 = t3 := ex59.trans T54
          refine g_goto (tgt := 64) dX7_looked_60 (by decide) ?_
          exact g_iret (ty := .int) dX7_looked_64 rfl rfl ⟨⟨_, rfl, ⟨by first | trivial | lia | grind, (by unfold lkd; grind)⟩⟩, hu50, fu50, (by first | rfl | (rw [Tt55]; grind) | rw [Tt55])⟩
    · refine g_iconst (v := 1) dX7_looked_16 (by decide) ?_
      refine g_goto (tgt := 21) dX7_looked_17 (by decide) ?_
      refine g_iconst (v := 2) dX7_looked_21 (by decide) ?_
      refine cl_X7_125 (c := 60) (As := [.int 1, .int 2]) rfl (c_X7_needs_s (G := G) hs hu  1 2 (by first | trivial | decide | lia | grind) (by first | trivial | decide | lia | grind) (d)) rfl (by omega) rfl rfl (Nat.le_of_ble_eq_true rfl) dX7_looked_22 (fun r60 u61 q62 => ?_)
      obtain ⟨rfl, mq62⟩ := q62
      obtain ⟨hu61, gu61, ku610, ku611, ku612⟩ := mq62
      have fu61 : fk [60] [3, 7, 10, 11, 13, 14, 15, 16, 17, 22, 28] u u61 := fk_tr f0 gu61 (by decide) (by decide)
      have T63 : u61.1 60 15 = t1 := (fk_at gu61 (by decide)).trans Tt1
      have T64 : u61.1 60 16 = t2 := (fk_at gu61 (by decide)).trans Tt2
      have T65 : u61.1 60 17 = t3 := (fk_at gu61 (by decide)).trans Tt3
      obtain ⟨t66, Tt66⟩ : ∃ t, u61.1 60 18 = t := ⟨_, rfl⟩
      have Rt66 : 0 ≤ t66 ∧ t66 ≤ 6 := by rw [← Tt66]; exact iv_at hu61 _ _ rfl
      obtain ⟨t67, Tt67⟩ : ∃ t, u61.1 60 19 = t := ⟨_, rfl⟩
      refine g_aload_n dX7_looked_25 rfl ?_
      refine f_X7_91 rfl rfl dX7_looked_26 ?_
      refine g_topi (fun x68 ex68 => ?_)
      have rx68 : 0 ≤ x68 ∧ x68 ≤ 6 := by rw [ex68]; exact iv_at hu61 _ _ rfl
      have qx68 : x68 = t66 := ex68.trans Tt66
      refine g_if_ne (tgt := 49) dX7_looked_29 (by decide) (fun c69 => ?_) (fun c69 => ?_)
      · refine g_aload_n dX7_looked_49 rfl ?_
        refine f_X7_91 rfl rfl dX7_looked_50 ?_
        refine g_topi (fun x70 ex70 => ?_)
        have rx70 : 0 ≤ x70 ∧ x70 ≤ 6 := by rw [ex70]; exact iv_at hu61 _ _ rfl
        have qx70 : x70 = t66 := ex70.trans Tt66
        refine g_if_ne (tgt := 63) dX7_looked_53 (by decide) (fun c71 => ?_) (fun c71 => ?_)
        · refine g_iconst (v := 0) dX7_looked_63 (by decide) ?_
          exact g_iret (ty := .int) dX7_looked_64 rfl rfl ⟨⟨_, rfl, ⟨by first | trivial | lia | grind, (by unfold lkd; grind)⟩⟩, hu61, fu61, (by first | rfl | (rw [Tt66]; grind) | rw [Tt66])⟩
        · refine g_aload_n dX7_looked_56 rfl ?_
          refine f_X7_122 rfl rfl dX7_looked_57 ?_
          refine g_topi (fun x72 ex72 => ?_)
          have qx72 : x72 = t3 := ex72.trans T65
          refine g_goto (tgt := 64) dX7_looked_60 (by decide) ?_
          exact g_iret (ty := .int) dX7_looked_64 rfl rfl ⟨⟨_, rfl, ⟨by first | trivial | lia | grind, (by unfold lkd; grind)⟩⟩, hu61, fu61, (by first | rfl | (rw [Tt66]; grind) | rw [Tt66])⟩
      · refine g_aload_n dX7_looked_32 rfl ?_
        refine g_aload_n dX7_looked_33 rfl ?_
        refine f_X7_122 rfl rfl dX7_looked_34 ?_
        refine g_topi (fun x73 ex73 => ?_)
        have qx73 : x73 = t3 := ex73.trans T65
        refine g_i2l dX7_looked_37 ?_
        refine g_iload_n dX7_looked_38 rfl ?_
        refine g_i2l dX7_looked_39 ?_
        refine g_iload_n dX7_looked_40 rfl ?_
        refine g_i2l dX7_looked_41 ?_
        refine cl_X7_84 (As := [.long x73.toInt64, .long lo.toInt64, .long hi.toInt64]) rfl (c_X7_in (G := G) hs hu61  x73 lo hi  (d)) rfl (by omega) rfl (Nat.le_of_ble_eq_true rfl) dX7_looked_42 (fun r74 u75 q76 => ?_)
        obtain ⟨⟨x77, rfl, tx77, nx77, zx77⟩, mq76⟩ := q76
        rw [mq76]
        refine g_iconst (v := 3) dX7_looked_45 (by decide) ?_
        refine cl_X7_125 (c := 60) (As := [.int x77, .int 3]) rfl (c_X7_needs_s (G := G) hs hu61  x77 3 (by first | trivial | decide | lia | grind) (by first | trivial | decide | lia | grind) (d)) rfl (by omega) rfl rfl (Nat.le_of_ble_eq_true rfl) dX7_looked_46 (fun r78 u79 q80 => ?_)
        obtain ⟨rfl, mq80⟩ := q80
        obtain ⟨hu79, gu79, ku790, ku791, ku792⟩ := mq80
        have fu79 : fk [60] [3, 7, 10, 11, 13, 14, 15, 16, 17, 22, 28] u u79 := fk_tr fu61 gu79 (by decide) (by decide)
        have T81 : u79.1 60 15 = t1 := (fk_at gu79 (by decide)).trans T63
        have T82 : u79.1 60 16 = t2 := (fk_at gu79 (by decide)).trans T64
        have T83 : u79.1 60 17 = t3 := (fk_at gu79 (by decide)).trans T65
        obtain ⟨t84, Tt84⟩ : ∃ t, u79.1 60 18 = t := ⟨_, rfl⟩
        have Rt84 : 0 ≤ t84 ∧ t84 ≤ 6 := by rw [← Tt84]; exact iv_at hu79 _ _ rfl
        obtain ⟨t85, Tt85⟩ : ∃ t, u79.1 60 19 = t := ⟨_, rfl⟩
        refine g_aload_n dX7_looked_49 rfl ?_
        refine f_X7_91 rfl rfl dX7_looked_50 ?_
        refine g_topi (fun x86 ex86 => ?_)
        have rx86 : 0 ≤ x86 ∧ x86 ≤ 6 := by rw [ex86]; exact iv_at hu79 _ _ rfl
        have qx86 : x86 = t84 := ex86.trans Tt84
        refine g_if_ne (tgt := 63) dX7_looked_53 (by decide) (fun c87 => ?_) (fun c87 => ?_)
        · refine g_iconst (v := 0) dX7_looked_63 (by decide) ?_
          exact g_iret (ty := .int) dX7_looked_64 rfl rfl ⟨⟨_, rfl, ⟨by first | trivial | lia | grind, (by unfold lkd; grind)⟩⟩, hu79, fu79, (by first | rfl | (rw [Tt84]; grind) | rw [Tt84])⟩
        · refine g_aload_n dX7_looked_56 rfl ?_
          refine f_X7_122 rfl rfl dX7_looked_57 ?_
          refine g_topi (fun x88 ex88 => ?_)
          have qx88 : x88 = t3 := ex88.trans T83
          refine g_goto (tgt := 64) dX7_looked_60 (by decide) ?_
          exact g_iret (ty := .int) dX7_looked_64 rfl rfl ⟨⟨_, rfl, ⟨by first | trivial | lia | grind, (by unfold lkd; grind)⟩⟩, hu79, fu79, (by first | rfl | (rw [Tt84]; grind) | rw [Tt84])⟩
abbrev q_X7_readNumber_s (u : uk_Mem) (lo : Int32) (hi : Int32) (f : Nat → Int32) (N : Int32) (a : PS) (r : Option Value) (u' : uk_Mem) : Prop := (∃ x : Int32, r = some (.int x) ∧ (((u'.1 60 18 = 0 → lo ≤ x ∧ x ≤ hi) ∧ (x = 0 ∨ (lo ≤ x ∧ x ≤ hi))) ∧ x = (pTake f N a 2 hi).2)) ∧ (iv u' ∧ fk [60] [3, 7, 10, 11, 13, 22, 28] u u' ∧ (u'.1 60 18 = 0 → u.1 60 18 = 0) ∧ (u'.1 60 18 = 0 → u.1 60 14 ≤ u'.1 60 15 ∧ u'.1 60 15 ≤ u'.1 60 14) ∧ Sr f N u' (pTake f N a 2 hi).1)
set_option maxHeartbeats 4000000 in
set_option maxRecDepth 20000 in
theorem c_X7_readNumber_s {G : uk_D} (hs : uk_Sep G) {u : uk_Mem} (hu : iv u) (lo : Int32) (hi : Int32) (f : Nat → Int32) (N : Int32) (a : PS) (p0 : Sr f N u a) (p1 : lo = 0) (d : Nat) : uk_Meth G (d + 2) mX7_readNumber [.ref (uk_ad G 60), .int lo, .int hi] u (q_X7_readNumber_s u lo hi f N a) := by
  refine uk_Meth.of hs (by decide) (Nat.le_of_ble_eq_true rfl) (fun X => ?_)
  have f0 : fk [60] [3, 7, 10, 11, 13, 22, 28] u u := fk_rf
  obtain ⟨t1, Tt1⟩ : ∃ t, u.1 60 14 = t := ⟨_, rfl⟩
  obtain ⟨t2, Tt2⟩ : ∃ t, u.1 60 15 = t := ⟨_, rfl⟩
  obtain ⟨t3, Tt3⟩ : ∃ t, u.1 60 18 = t := ⟨_, rfl⟩
  have hN : N ≤ 160 := by rw [← p0.2.1]; exact (iv_at hu 60 13 rfl).2
  refine g_aload_n dX7_readNumber_0 rfl ?_
  refine g_iload_n dX7_readNumber_1 rfl ?_
  refine g_iload_n dX7_readNumber_2 rfl ?_
  refine cl_X7_129 (c := 60) (As := [.int lo, .int hi]) rfl (c_X7_looked_s (G := G) hs hu  lo hi  (d)) rfl (by omega) rfl rfl (Nat.le_of_ble_eq_true rfl) dX7_readNumber_3 (fun r4 u5 q6 => ?_)
  obtain ⟨⟨x7, rfl, tx7⟩, mq6⟩ := q6
  obtain ⟨hu5, gu5, ku50⟩ := mq6
  have fu5 : fk [60] [3, 7, 10, 11, 13, 22, 28] u u5 := fk_tr f0 gu5 (by decide) (by decide)
  have T8 : u5.1 60 14 = t1 := (fk_at gu5 (by decide)).trans Tt1
  have T9 : u5.1 60 15 = t2 := (fk_at gu5 (by decide)).trans Tt2
  obtain ⟨t10, Tt10⟩ : ∃ t, u5.1 60 18 = t := ⟨_, rfl⟩
  have Rt10 : 0 ≤ t10 ∧ t10 ≤ 6 := by rw [← Tt10]; exact iv_at hu5 _ _ rfl
  refine g_istore_n dX7_readNumber_6 (by decide) ?_
  refine g_pick (lv' := [(0, .ref (uk_ad G 60)), (1, .int lo), (2, .int hi), (3, .int x7)]) [0, 1, 2, 3] rfl ?_
  refine g_aload_n dX7_readNumber_7 rfl ?_
  refine cl_X7_133 (c := 60) (As := []) rfl (c_X7_next_s (G := G) hs hu5    (d)) rfl (by omega) rfl rfl (Nat.le_of_ble_eq_true rfl) dX7_readNumber_8 (fun r11 u12 q13 => ?_)
  obtain ⟨rfl, mq13⟩ := q13
  obtain ⟨hu12, gu12, ku120, ku121, ku122, ku123, ku124, ku125⟩ := mq13
  have fu12 : fk [60] [3, 7, 10, 11, 13, 22, 28] u u12 := fk_tr fu5 gu12 (by decide) (by decide)
  obtain ⟨t14, Tt14⟩ : ∃ t, u12.1 60 14 = t := ⟨_, rfl⟩
  have Rt14 : 0 ≤ t14 ∧ t14 ≤ 160 := by rw [← Tt14]; exact iv_at hu12 _ _ rfl
  obtain ⟨t15, Tt15⟩ : ∃ t, u12.1 60 15 = t := ⟨_, rfl⟩
  have Rt15 : 0 ≤ t15 ∧ t15 ≤ 160 := by rw [← Tt15]; exact iv_at hu12 _ _ rfl
  obtain ⟨t16, Tt16⟩ : ∃ t, u12.1 60 18 = t := ⟨_, rfl⟩
  have Rt16 : 0 ≤ t16 ∧ t16 ≤ 6 := by rw [← Tt16]; exact iv_at hu12 _ _ rfl
  refine g_iload_n dX7_readNumber_11 rfl ?_
  exact g_iret (ty := .int) dX7_readNumber_12 rfl rfl ⟨⟨_, rfl, ⟨by first | trivial | lia | grind, (Sr_num hN p0 (by rw [← p1]; exact tx7.2) ⟨ku124, fun q => ⟨(ku125 q).2.2.2.2.1, (ku125 q).2.2.2.2.2⟩⟩ (fk_at gu5 (by decide)) (fk_at gu5 (by decide)) (fk_c gu5 (by decide)) (fk_at gu12 (by decide)) (fk_c gu12 (by decide))).2⟩⟩, hu12, fu12, (by first | rfl | (rw [Tt16]; grind) | rw [Tt16]), (by first | rfl | (rw [Tt16, Tt15, Tt14]; grind) | rw [Tt16, Tt15, Tt14]), (Sr_num hN p0 (by rw [← p1]; exact tx7.2) ⟨ku124, fun q => ⟨(ku125 q).2.2.2.2.1, (ku125 q).2.2.2.2.2⟩⟩ (fk_at gu5 (by decide)) (fk_at gu5 (by decide)) (fk_c gu5 (by decide)) (fk_at gu12 (by decide)) (fk_c gu12 (by decide))).1⟩
abbrev q_X7_is_s (u : uk_Mem) (n : Int32) (a : Int32) (b : Int32) (c : Int32) (r : Option Value) (u' : uk_Mem) : Prop := (∃ x : Int32, r = some (.int x) ∧ (x = 0 ∨ x = 1) ∧ (¬ x = 0 → (u.1 60 14 - u.1 60 15 = n ∧ u.1 69 (u.1 60 15).toNatClampNeg = a ∧ u.1 69 (u.1 60 15 + 1).toNatClampNeg = b ∧ u.1 69 (u.1 60 15 + 2).toNatClampNeg = c)) ∧ (x = 0 → ¬ (u.1 60 14 - u.1 60 15 = n ∧ u.1 69 (u.1 60 15).toNatClampNeg = a ∧ u.1 69 (u.1 60 15 + 1).toNatClampNeg = b ∧ u.1 69 (u.1 60 15 + 2).toNatClampNeg = c))) ∧ (u' = u)
set_option maxHeartbeats 4000000 in
set_option maxRecDepth 20000 in
theorem c_X7_is_s {G : uk_D} (hs : uk_Sep G) {u : uk_Mem} (hu : iv u) (n : Int32) (a : Int32) (b : Int32) (c : Int32) (p0 : u.1 60 14 ≤ u.1 60 13) (p1 : n = 3 ∨ n = 4) (p2 : 0 ≤ a ∧ 0 ≤ b ∧ 0 ≤ c) (d : Nat) : uk_Meth G (d + 1) mX7_is [.ref (uk_ad G 60), .int n, .int a, .int b, .int c] u (q_X7_is_s u n a b c) := by
  refine uk_Meth.of hs (by decide) (Nat.le_of_ble_eq_true rfl) (fun X => ?_)
  refine g_aload_n dX7_is_0 rfl ?_
  refine f_X7_100 rfl rfl dX7_is_1 ?_
  refine g_topi (fun x1 ex1 => ?_)
  have rx1 : 0 ≤ x1 ∧ x1 ≤ 160 := by rw [ex1]; exact iv_at hu _ _ rfl
  have s2 : u.1 60 14 = x1 := ex1.symm
  refine g_aload_n dX7_is_4 rfl ?_
  refine f_X7_94 rfl rfl dX7_is_5 ?_
  refine g_topi (fun x3 ex3 => ?_)
  have rx3 : 0 ≤ x3 ∧ x3 ≤ 160 := by rw [ex3]; exact iv_at hu _ _ rfl
  have s4 : u.1 60 15 = x3 := ex3.symm
  refine g_isub dX7_is_8 ?_
  refine g_topi (fun x5 ex5 => ?_)
  refine g_iload_n dX7_is_9 rfl ?_
  refine g_icmp_ne (tgt := 58) dX7_is_10 (by decide) (fun c6 => ?_) (fun c6 => ?_)
  · refine g_iconst (v := 0) dX7_is_58 (by decide) ?_
    exact g_iret (ty := .boolean) dX7_is_59 rfl rfl ⟨⟨0, rfl, Or.inl rfl, fun q => absurd rfl q, fun _ => by first | trivial | lia | grind⟩, rfl⟩
  · refine g_aload_n dX7_is_13 rfl ?_
    refine g_aload_n dX7_is_14 rfl ?_
    refine f_X7_94 rfl rfl dX7_is_15 ?_
    refine g_topi (fun x7 ex7 => ?_)
    have rx7 : 0 ≤ x7 ∧ x7 ≤ 160 := by rw [ex7]; exact iv_at hu _ _ rfl
    have qx7 : x7 = x3 := by rw [ex7]; exact s4
    refine cl_X7_103 (c := 60) (As := [.int x7]) rfl (c_X7_byteAt_s (G := G) hs hu  x7 (by first | trivial | decide | lia | grind) (d)) rfl (by omega) rfl rfl (Nat.le_of_ble_eq_true rfl) dX7_is_18 (fun r8 u9 q10 => ?_)
    obtain ⟨⟨x11, rfl, tx11⟩, mq10⟩ := q10
    rw [mq10]
    refine g_iload_n dX7_is_21 rfl ?_
    refine g_icmp_ne (tgt := 58) dX7_is_22 (by decide) (fun c12 => ?_) (fun c12 => ?_)
    · refine g_iconst (v := 0) dX7_is_58 (by decide) ?_
      exact g_iret (ty := .boolean) dX7_is_59 rfl rfl ⟨⟨0, rfl, Or.inl rfl, fun q => absurd rfl q, fun _ => by first | trivial | lia | grind⟩, rfl⟩
    · refine g_aload_n dX7_is_25 rfl ?_
      refine g_aload_n dX7_is_26 rfl ?_
      refine f_X7_94 rfl rfl dX7_is_27 ?_
      refine g_topi (fun x13 ex13 => ?_)
      have rx13 : 0 ≤ x13 ∧ x13 ≤ 160 := by rw [ex13]; exact iv_at hu _ _ rfl
      have qx13 : x13 = x3 := by rw [ex13]; exact s4
      refine g_iconst (v := 1) dX7_is_30 (by decide) ?_
      refine g_iadd dX7_is_31 ?_
      refine g_topi (fun x14 ex14 => ?_)
      refine cl_X7_103 (c := 60) (As := [.int x14]) rfl (c_X7_byteAt_s (G := G) hs hu  x14 (by first | trivial | decide | lia | grind) (d)) rfl (by omega) rfl rfl (Nat.le_of_ble_eq_true rfl) dX7_is_32 (fun r15 u16 q17 => ?_)
      obtain ⟨⟨x18, rfl, tx18⟩, mq17⟩ := q17
      rw [mq17]
      refine g_iload_n dX7_is_35 rfl ?_
      refine g_icmp_ne (tgt := 58) dX7_is_36 (by decide) (fun c19 => ?_) (fun c19 => ?_)
      · refine g_iconst (v := 0) dX7_is_58 (by decide) ?_
        exact g_iret (ty := .boolean) dX7_is_59 rfl rfl ⟨⟨0, rfl, Or.inl rfl, fun q => absurd rfl q, fun _ => by first | trivial | lia | grind⟩, rfl⟩
      · refine g_aload_n dX7_is_39 rfl ?_
        refine g_aload_n dX7_is_40 rfl ?_
        refine f_X7_94 rfl rfl dX7_is_41 ?_
        refine g_topi (fun x20 ex20 => ?_)
        have rx20 : 0 ≤ x20 ∧ x20 ≤ 160 := by rw [ex20]; exact iv_at hu _ _ rfl
        have qx20 : x20 = x3 := by rw [ex20]; exact s4
        refine g_iconst (v := 2) dX7_is_44 (by decide) ?_
        refine g_iadd dX7_is_45 ?_
        refine g_topi (fun x21 ex21 => ?_)
        refine cl_X7_103 (c := 60) (As := [.int x21]) rfl (c_X7_byteAt_s (G := G) hs hu  x21 (by first | trivial | decide | lia | grind) (d)) rfl (by omega) rfl rfl (Nat.le_of_ble_eq_true rfl) dX7_is_46 (fun r22 u23 q24 => ?_)
        obtain ⟨⟨x25, rfl, tx25⟩, mq24⟩ := q24
        rw [mq24]
        refine g_iload dX7_is_49 rfl ?_
        refine g_icmp_ne (tgt := 58) dX7_is_51 (by decide) (fun c26 => ?_) (fun c26 => ?_)
        · refine g_iconst (v := 0) dX7_is_58 (by decide) ?_
          exact g_iret (ty := .boolean) dX7_is_59 rfl rfl ⟨⟨0, rfl, Or.inl rfl, fun q => absurd rfl q, fun _ => by first | trivial | lia | grind⟩, rfl⟩
        · refine g_iconst (v := 1) dX7_is_54 (by decide) ?_
          refine g_goto (tgt := 59) dX7_is_55 (by decide) ?_
          exact g_iret (ty := .boolean) dX7_is_59 rfl rfl ⟨⟨1, rfl, Or.inr rfl, fun _ => by first | trivial | lia | grind, fun q => absurd q (by decide)⟩, rfl⟩
abbrev q_X7_lineNow_s (u : uk_Mem)  (r : Option Value) (u' : uk_Mem) : Prop := (∃ x : Int32, r = some (.int x) ∧ ((¬ x = -4 → u.1 60 15 + 3 ≤ u.1 60 14) ∧ lnr (u.1 69) (u.1 60 15) (u.1 60 14) x)) ∧ (u' = u)
set_option maxHeartbeats 4000000 in
set_option maxRecDepth 20000 in
theorem c_X7_lineNow_s {G : uk_D} (hs : uk_Sep G) {u : uk_Mem} (hu : iv u) (p0 : u.1 60 14 ≤ u.1 60 13) (d : Nat) : uk_Meth G (d + 2) mX7_lineNow [.ref (uk_ad G 60)] u (q_X7_lineNow_s u) := by
  refine uk_Meth.of hs (by decide) (Nat.le_of_ble_eq_true rfl) (fun X => ?_)
  have W0 := nm3 (f := u.1 69) (s := u.1 60 15) (q := u.1 60 14) (j := 0) (by decide) (show chj 0 0 = 114 by decide) (show chj 0 1 = 97 by decide) (show chj 0 2 = 119 by decide)
  have W1 := nm3 (f := u.1 69) (s := u.1 60 15) (q := u.1 60 14) (j := 1) (by decide) (show chj 1 0 = 109 by decide) (show chj 1 1 = 105 by decide) (show chj 1 2 = 120 by decide)
  have W2 := nm4 (f := u.1 69) (s := u.1 60 15) (q := u.1 60 14) (j := 2) (by decide) (show chj 2 0 = 98 by decide) (show chj 2 1 = 111 by decide) (show chj 2 2 = 105 by decide) (show chj 2 3 = 108 by decide)
  have W3 := nm4 (f := u.1 69) (s := u.1 60 15) (q := u.1 60 14) (j := 3) (by decide) (show chj 3 0 = 98 by decide) (show chj 3 1 = 117 by decide) (show chj 3 2 = 114 by decide) (show chj 3 3 = 110 by decide)
  have W4 := nm4 (f := u.1 69) (s := u.1 60 15) (q := u.1 60 14) (j := 4) (by decide) (show chj 4 0 = 115 by decide) (show chj 4 1 = 97 by decide) (show chj 4 2 = 108 by decide) (show chj 4 3 = 116 by decide)
  have W5 := nm4 (f := u.1 69) (s := u.1 60 15) (q := u.1 60 14) (j := 5) (by decide) (show chj 5 0 = 104 by decide) (show chj 5 1 = 97 by decide) (show chj 5 2 = 118 by decide) (show chj 5 3 = 101 by decide)
  refine g_aload_n dX7_lineNow_0 rfl ?_
  refine g_iconst (v := 3) dX7_lineNow_1 (by decide) ?_
  refine g_bipush (v := 109) dX7_lineNow_2 (by decide) ?_
  refine g_bipush (v := 105) dX7_lineNow_4 (by decide) ?_
  refine g_bipush (v := 120) dX7_lineNow_6 (by decide) ?_
  refine cl_X7_107 (c := 60) (As := [.int 3, .int 109, .int 105, .int 120]) rfl (c_X7_is_s (G := G) hs hu  3 109 105 120 (by first | trivial | decide | lia | grind) (by first | trivial | decide | lia | grind) (by first | trivial | decide | lia | grind) (d)) rfl (by omega) rfl rfl (Nat.le_of_ble_eq_true rfl) dX7_lineNow_8 (fun r1 u2 q3 => ?_)
  obtain ⟨⟨x4, rfl, tx4, nx4, zx4⟩, mq3⟩ := q3
  rw [mq3]
  refine g_if_eq (tgt := 16) dX7_lineNow_11 (by decide) (fun c5 => ?_) (fun c5 => ?_)
  · have zc5 := zx4 c5
    refine g_aload_n dX7_lineNow_16 rfl ?_
    refine g_iconst (v := 4) dX7_lineNow_17 (by decide) ?_
    refine g_bipush (v := 98) dX7_lineNow_18 (by decide) ?_
    refine g_bipush (v := 111) dX7_lineNow_20 (by decide) ?_
    refine g_bipush (v := 105) dX7_lineNow_22 (by decide) ?_
    refine cl_X7_107 (c := 60) (As := [.int 4, .int 98, .int 111, .int 105]) rfl (c_X7_is_s (G := G) hs hu  4 98 111 105 (by first | trivial | decide | lia | grind) (by first | trivial | decide | lia | grind) (by first | trivial | decide | lia | grind) (d)) rfl (by omega) rfl rfl (Nat.le_of_ble_eq_true rfl) dX7_lineNow_24 (fun r6 u7 q8 => ?_)
    obtain ⟨⟨x9, rfl, tx9, nx9, zx9⟩, mq8⟩ := q8
    rw [mq8]
    refine g_if_eq (tgt := 47) dX7_lineNow_27 (by decide) (fun c10 => ?_) (fun c10 => ?_)
    · have zc10 := zx9 c10
      refine g_aload_n dX7_lineNow_47 rfl ?_
      refine g_iconst (v := 4) dX7_lineNow_48 (by decide) ?_
      refine g_bipush (v := 98) dX7_lineNow_49 (by decide) ?_
      refine g_bipush (v := 117) dX7_lineNow_51 (by decide) ?_
      refine g_bipush (v := 114) dX7_lineNow_53 (by decide) ?_
      refine cl_X7_107 (c := 60) (As := [.int 4, .int 98, .int 117, .int 114]) rfl (c_X7_is_s (G := G) hs hu  4 98 117 114 (by first | trivial | decide | lia | grind) (by first | trivial | decide | lia | grind) (by first | trivial | decide | lia | grind) (d)) rfl (by omega) rfl rfl (Nat.le_of_ble_eq_true rfl) dX7_lineNow_55 (fun r11 u12 q13 => ?_)
      obtain ⟨⟨x14, rfl, tx14, nx14, zx14⟩, mq13⟩ := q13
      rw [mq13]
      refine g_if_eq (tgt := 78) dX7_lineNow_58 (by decide) (fun c15 => ?_) (fun c15 => ?_)
      · have zc15 := zx14 c15
        refine g_aload_n dX7_lineNow_78 rfl ?_
        refine g_iconst (v := 4) dX7_lineNow_79 (by decide) ?_
        refine g_bipush (v := 115) dX7_lineNow_80 (by decide) ?_
        refine g_bipush (v := 97) dX7_lineNow_82 (by decide) ?_
        refine g_bipush (v := 108) dX7_lineNow_84 (by decide) ?_
        refine cl_X7_107 (c := 60) (As := [.int 4, .int 115, .int 97, .int 108]) rfl (c_X7_is_s (G := G) hs hu  4 115 97 108 (by first | trivial | decide | lia | grind) (by first | trivial | decide | lia | grind) (by first | trivial | decide | lia | grind) (d)) rfl (by omega) rfl rfl (Nat.le_of_ble_eq_true rfl) dX7_lineNow_86 (fun r16 u17 q18 => ?_)
        obtain ⟨⟨x19, rfl, tx19, nx19, zx19⟩, mq18⟩ := q18
        rw [mq18]
        refine g_if_eq (tgt := 109) dX7_lineNow_89 (by decide) (fun c20 => ?_) (fun c20 => ?_)
        · have zc20 := zx19 c20
          refine g_aload_n dX7_lineNow_109 rfl ?_
          refine g_iconst (v := 3) dX7_lineNow_110 (by decide) ?_
          refine g_bipush (v := 114) dX7_lineNow_111 (by decide) ?_
          refine g_bipush (v := 97) dX7_lineNow_113 (by decide) ?_
          refine g_bipush (v := 119) dX7_lineNow_115 (by decide) ?_
          refine cl_X7_107 (c := 60) (As := [.int 3, .int 114, .int 97, .int 119]) rfl (c_X7_is_s (G := G) hs hu  3 114 97 119 (by first | trivial | decide | lia | grind) (by first | trivial | decide | lia | grind) (by first | trivial | decide | lia | grind) (d)) rfl (by omega) rfl rfl (Nat.le_of_ble_eq_true rfl) dX7_lineNow_117 (fun r21 u22 q23 => ?_)
          obtain ⟨⟨x24, rfl, tx24, nx24, zx24⟩, mq23⟩ := q23
          rw [mq23]
          refine g_if_eq (tgt := 127) dX7_lineNow_120 (by decide) (fun c25 => ?_) (fun c25 => ?_)
          · have zc25 := zx24 c25
            refine g_aload_n dX7_lineNow_127 rfl ?_
            refine g_iconst (v := 4) dX7_lineNow_128 (by decide) ?_
            refine g_bipush (v := 104) dX7_lineNow_129 (by decide) ?_
            refine g_bipush (v := 97) dX7_lineNow_131 (by decide) ?_
            refine g_bipush (v := 118) dX7_lineNow_133 (by decide) ?_
            refine cl_X7_107 (c := 60) (As := [.int 4, .int 104, .int 97, .int 118]) rfl (c_X7_is_s (G := G) hs hu  4 104 97 118 (by first | trivial | decide | lia | grind) (by first | trivial | decide | lia | grind) (by first | trivial | decide | lia | grind) (d)) rfl (by omega) rfl rfl (Nat.le_of_ble_eq_true rfl) dX7_lineNow_135 (fun r26 u27 q28 => ?_)
            obtain ⟨⟨x29, rfl, tx29, nx29, zx29⟩, mq28⟩ := q28
            rw [mq28]
            refine g_if_eq (tgt := 160) dX7_lineNow_138 (by decide) (fun c30 => ?_) (fun c30 => ?_)
            · have zc30 := zx29 c30
              refine g_bipush (v := (-4)) dX7_lineNow_160 (by decide) ?_
              exact g_iret (ty := .int) dX7_lineNow_162 rfl rfl ⟨⟨_, rfl, ⟨by first | trivial | lia | grind, Or.inl ⟨rfl, Or.inr ⟨fun j hj z => by rcases (show j = 0 ∨ j = 1 ∨ j = 2 ∨ j = 3 ∨ j = 4 ∨ j = 5 by omega) with rfl | rfl | rfl | rfl | rfl | rfl <;> first | (have w := W0.mp z.2; grind) | (have w := W1.mp z.2; grind) | (have w := W2.mp z.2; grind) | (have w := W3.mp z.2; grind) | (have w := W4.mp z.2; grind) | (have w := W5.mp z.2; grind), rfl⟩⟩⟩⟩, rfl⟩
            · have zc30 := nx29 c30
              refine g_aload_n dX7_lineNow_141 rfl ?_
              refine g_aload_n dX7_lineNow_142 rfl ?_
              refine f_X7_94 rfl rfl dX7_lineNow_143 ?_
              refine g_topi (fun x31 ex31 => ?_)
              have rx31 : 0 ≤ x31 ∧ x31 ≤ 160 := by rw [ex31]; exact iv_at hu _ _ rfl
              have s32 : u.1 60 15 = x31 := ex31.symm
              refine g_iconst (v := 3) dX7_lineNow_146 (by decide) ?_
              refine g_iadd dX7_lineNow_147 ?_
              refine g_topi (fun x33 ex33 => ?_)
              refine cl_X7_103 (c := 60) (As := [.int x33]) rfl (c_X7_byteAt_s (G := G) hs hu  x33 (by first | trivial | decide | lia | grind) (d + 1)) rfl (by omega) rfl rfl (Nat.le_of_ble_eq_true rfl) dX7_lineNow_148 (fun r34 u35 q36 => ?_)
              obtain ⟨⟨x37, rfl, tx37⟩, mq36⟩ := q36
              rw [mq36]
              refine g_bipush (v := 101) dX7_lineNow_151 (by decide) ?_
              refine g_icmp_ne (tgt := 160) dX7_lineNow_153 (by decide) (fun c38 => ?_) (fun c38 => ?_)
              · refine g_bipush (v := (-4)) dX7_lineNow_160 (by decide) ?_
                exact g_iret (ty := .int) dX7_lineNow_162 rfl rfl ⟨⟨_, rfl, ⟨by first | trivial | lia | grind, Or.inl ⟨rfl, Or.inr ⟨fun j hj z => by rcases (show j = 0 ∨ j = 1 ∨ j = 2 ∨ j = 3 ∨ j = 4 ∨ j = 5 by omega) with rfl | rfl | rfl | rfl | rfl | rfl <;> first | (have w := W0.mp z.2; grind) | (have w := W1.mp z.2; grind) | (have w := W2.mp z.2; grind) | (have w := W3.mp z.2; grind) | (have w := W4.mp z.2; grind) | (have w := W5.mp z.2; grind), rfl⟩⟩⟩⟩, rfl⟩
              · refine g_iconst (v := 5) dX7_lineNow_156 (by decide) ?_
                refine g_goto (tgt := 162) dX7_lineNow_157 (by decide) ?_
                exact g_iret (ty := .int) dX7_lineNow_162 rfl rfl ⟨⟨_, rfl, ⟨by first | trivial | lia | grind, Or.inr ⟨by decide, by decide, Or.inl ⟨5, by decide, rfl, W5.mpr (by grind), rfl⟩⟩⟩⟩, rfl⟩
          · have zc25 := nx24 c25
            refine g_iconst (v := 4) dX7_lineNow_123 (by decide) ?_
            refine g_goto (tgt := 162) dX7_lineNow_124 (by decide) ?_
            exact g_iret (ty := .int) dX7_lineNow_162 rfl rfl ⟨⟨_, rfl, ⟨by first | trivial | lia | grind, Or.inr ⟨by decide, by decide, Or.inl ⟨0, by decide, rfl, W0.mpr (by grind), rfl⟩⟩⟩⟩, rfl⟩
        · have zc20 := nx19 c20
          refine g_aload_n dX7_lineNow_92 rfl ?_
          refine g_aload_n dX7_lineNow_93 rfl ?_
          refine f_X7_94 rfl rfl dX7_lineNow_94 ?_
          refine g_topi (fun x39 ex39 => ?_)
          have rx39 : 0 ≤ x39 ∧ x39 ≤ 160 := by rw [ex39]; exact iv_at hu _ _ rfl
          have s40 : u.1 60 15 = x39 := ex39.symm
          refine g_iconst (v := 3) dX7_lineNow_97 (by decide) ?_
          refine g_iadd dX7_lineNow_98 ?_
          refine g_topi (fun x41 ex41 => ?_)
          refine cl_X7_103 (c := 60) (As := [.int x41]) rfl (c_X7_byteAt_s (G := G) hs hu  x41 (by first | trivial | decide | lia | grind) (d + 1)) rfl (by omega) rfl rfl (Nat.le_of_ble_eq_true rfl) dX7_lineNow_99 (fun r42 u43 q44 => ?_)
          obtain ⟨⟨x45, rfl, tx45⟩, mq44⟩ := q44
          rw [mq44]
          refine g_bipush (v := 116) dX7_lineNow_102 (by decide) ?_
          refine g_icmp_ne (tgt := 109) dX7_lineNow_104 (by decide) (fun c46 => ?_) (fun c46 => ?_)
          · refine g_aload_n dX7_lineNow_109 rfl ?_
            refine g_iconst (v := 3) dX7_lineNow_110 (by decide) ?_
            refine g_bipush (v := 114) dX7_lineNow_111 (by decide) ?_
            refine g_bipush (v := 97) dX7_lineNow_113 (by decide) ?_
            refine g_bipush (v := 119) dX7_lineNow_115 (by decide) ?_
            refine cl_X7_107 (c := 60) (As := [.int 3, .int 114, .int 97, .int 119]) rfl (c_X7_is_s (G := G) hs hu  3 114 97 119 (by first | trivial | decide | lia | grind) (by first | trivial | decide | lia | grind) (by first | trivial | decide | lia | grind) (d)) rfl (by omega) rfl rfl (Nat.le_of_ble_eq_true rfl) dX7_lineNow_117 (fun r47 u48 q49 => ?_)
            obtain ⟨⟨x50, rfl, tx50, nx50, zx50⟩, mq49⟩ := q49
            rw [mq49]
            refine g_if_eq (tgt := 127) dX7_lineNow_120 (by decide) (fun c51 => ?_) (fun c51 => ?_)
            · have zc51 := zx50 c51
              refine g_aload_n dX7_lineNow_127 rfl ?_
              refine g_iconst (v := 4) dX7_lineNow_128 (by decide) ?_
              refine g_bipush (v := 104) dX7_lineNow_129 (by decide) ?_
              refine g_bipush (v := 97) dX7_lineNow_131 (by decide) ?_
              refine g_bipush (v := 118) dX7_lineNow_133 (by decide) ?_
              refine cl_X7_107 (c := 60) (As := [.int 4, .int 104, .int 97, .int 118]) rfl (c_X7_is_s (G := G) hs hu  4 104 97 118 (by first | trivial | decide | lia | grind) (by first | trivial | decide | lia | grind) (by first | trivial | decide | lia | grind) (d)) rfl (by omega) rfl rfl (Nat.le_of_ble_eq_true rfl) dX7_lineNow_135 (fun r52 u53 q54 => ?_)
              obtain ⟨⟨x55, rfl, tx55, nx55, zx55⟩, mq54⟩ := q54
              rw [mq54]
              refine g_if_eq (tgt := 160) dX7_lineNow_138 (by decide) (fun c56 => ?_) (fun c56 => ?_)
              · have zc56 := zx55 c56
                refine g_bipush (v := (-4)) dX7_lineNow_160 (by decide) ?_
                exact g_iret (ty := .int) dX7_lineNow_162 rfl rfl ⟨⟨_, rfl, ⟨by first | trivial | lia | grind, Or.inl ⟨rfl, Or.inr ⟨fun j hj z => by rcases (show j = 0 ∨ j = 1 ∨ j = 2 ∨ j = 3 ∨ j = 4 ∨ j = 5 by omega) with rfl | rfl | rfl | rfl | rfl | rfl <;> first | (have w := W0.mp z.2; grind) | (have w := W1.mp z.2; grind) | (have w := W2.mp z.2; grind) | (have w := W3.mp z.2; grind) | (have w := W4.mp z.2; grind) | (have w := W5.mp z.2; grind), rfl⟩⟩⟩⟩, rfl⟩
              · have zc56 := nx55 c56
                refine g_aload_n dX7_lineNow_141 rfl ?_
                refine g_aload_n dX7_lineNow_142 rfl ?_
                refine f_X7_94 rfl rfl dX7_lineNow_143 ?_
                refine g_topi (fun x57 ex57 => ?_)
                have rx57 : 0 ≤ x57 ∧ x57 ≤ 160 := by rw [ex57]; exact iv_at hu _ _ rfl
                have qx57 : x57 = x39 := by rw [ex57]; exact s40
                refine g_iconst (v := 3) dX7_lineNow_146 (by decide) ?_
                refine g_iadd dX7_lineNow_147 ?_
                refine g_topi (fun x58 ex58 => ?_)
                refine cl_X7_103 (c := 60) (As := [.int x58]) rfl (c_X7_byteAt_s (G := G) hs hu  x58 (by first | trivial | decide | lia | grind) (d + 1)) rfl (by omega) rfl rfl (Nat.le_of_ble_eq_true rfl) dX7_lineNow_148 (fun r59 u60 q61 => ?_)
                obtain ⟨⟨x62, rfl, tx62⟩, mq61⟩ := q61
                rw [mq61]
                refine g_bipush (v := 101) dX7_lineNow_151 (by decide) ?_
                refine g_icmp_ne (tgt := 160) dX7_lineNow_153 (by decide) (fun c63 => ?_) (fun c63 => ?_)
                · refine g_bipush (v := (-4)) dX7_lineNow_160 (by decide) ?_
                  exact g_iret (ty := .int) dX7_lineNow_162 rfl rfl ⟨⟨_, rfl, ⟨by first | trivial | lia | grind, Or.inl ⟨rfl, Or.inr ⟨fun j hj z => by rcases (show j = 0 ∨ j = 1 ∨ j = 2 ∨ j = 3 ∨ j = 4 ∨ j = 5 by omega) with rfl | rfl | rfl | rfl | rfl | rfl <;> first | (have w := W0.mp z.2; grind) | (have w := W1.mp z.2; grind) | (have w := W2.mp z.2; grind) | (have w := W3.mp z.2; grind) | (have w := W4.mp z.2; grind) | (have w := W5.mp z.2; grind), rfl⟩⟩⟩⟩, rfl⟩
                · refine g_iconst (v := 5) dX7_lineNow_156 (by decide) ?_
                  refine g_goto (tgt := 162) dX7_lineNow_157 (by decide) ?_
                  exact g_iret (ty := .int) dX7_lineNow_162 rfl rfl ⟨⟨_, rfl, ⟨by first | trivial | lia | grind, Or.inr ⟨by decide, by decide, Or.inl ⟨5, by decide, rfl, W5.mpr (by grind), rfl⟩⟩⟩⟩, rfl⟩
            · have zc51 := nx50 c51
              refine g_iconst (v := 4) dX7_lineNow_123 (by decide) ?_
              refine g_goto (tgt := 162) dX7_lineNow_124 (by decide) ?_
              exact g_iret (ty := .int) dX7_lineNow_162 rfl rfl ⟨⟨_, rfl, ⟨by first | trivial | lia | grind, Or.inr ⟨by decide, by decide, Or.inl ⟨0, by decide, rfl, W0.mpr (by grind), rfl⟩⟩⟩⟩, rfl⟩
          · refine g_iconst (v := 3) dX7_lineNow_107 (by decide) ?_
            exact g_iret (ty := .int) dX7_lineNow_108 rfl rfl ⟨⟨_, rfl, ⟨by first | trivial | lia | grind, Or.inr ⟨by decide, by decide, Or.inl ⟨4, by decide, rfl, W4.mpr (by grind), rfl⟩⟩⟩⟩, rfl⟩
      · have zc15 := nx14 c15
        refine g_aload_n dX7_lineNow_61 rfl ?_
        refine g_aload_n dX7_lineNow_62 rfl ?_
        refine f_X7_94 rfl rfl dX7_lineNow_63 ?_
        refine g_topi (fun x64 ex64 => ?_)
        have rx64 : 0 ≤ x64 ∧ x64 ≤ 160 := by rw [ex64]; exact iv_at hu _ _ rfl
        have s65 : u.1 60 15 = x64 := ex64.symm
        refine g_iconst (v := 3) dX7_lineNow_66 (by decide) ?_
        refine g_iadd dX7_lineNow_67 ?_
        refine g_topi (fun x66 ex66 => ?_)
        refine cl_X7_103 (c := 60) (As := [.int x66]) rfl (c_X7_byteAt_s (G := G) hs hu  x66 (by first | trivial | decide | lia | grind) (d + 1)) rfl (by omega) rfl rfl (Nat.le_of_ble_eq_true rfl) dX7_lineNow_68 (fun r67 u68 q69 => ?_)
        obtain ⟨⟨x70, rfl, tx70⟩, mq69⟩ := q69
        rw [mq69]
        refine g_bipush (v := 110) dX7_lineNow_71 (by decide) ?_
        refine g_icmp_ne (tgt := 78) dX7_lineNow_73 (by decide) (fun c71 => ?_) (fun c71 => ?_)
        · refine g_aload_n dX7_lineNow_78 rfl ?_
          refine g_iconst (v := 4) dX7_lineNow_79 (by decide) ?_
          refine g_bipush (v := 115) dX7_lineNow_80 (by decide) ?_
          refine g_bipush (v := 97) dX7_lineNow_82 (by decide) ?_
          refine g_bipush (v := 108) dX7_lineNow_84 (by decide) ?_
          refine cl_X7_107 (c := 60) (As := [.int 4, .int 115, .int 97, .int 108]) rfl (c_X7_is_s (G := G) hs hu  4 115 97 108 (by first | trivial | decide | lia | grind) (by first | trivial | decide | lia | grind) (by first | trivial | decide | lia | grind) (d)) rfl (by omega) rfl rfl (Nat.le_of_ble_eq_true rfl) dX7_lineNow_86 (fun r72 u73 q74 => ?_)
          obtain ⟨⟨x75, rfl, tx75, nx75, zx75⟩, mq74⟩ := q74
          rw [mq74]
          refine g_if_eq (tgt := 109) dX7_lineNow_89 (by decide) (fun c76 => ?_) (fun c76 => ?_)
          · have zc76 := zx75 c76
            refine g_aload_n dX7_lineNow_109 rfl ?_
            refine g_iconst (v := 3) dX7_lineNow_110 (by decide) ?_
            refine g_bipush (v := 114) dX7_lineNow_111 (by decide) ?_
            refine g_bipush (v := 97) dX7_lineNow_113 (by decide) ?_
            refine g_bipush (v := 119) dX7_lineNow_115 (by decide) ?_
            refine cl_X7_107 (c := 60) (As := [.int 3, .int 114, .int 97, .int 119]) rfl (c_X7_is_s (G := G) hs hu  3 114 97 119 (by first | trivial | decide | lia | grind) (by first | trivial | decide | lia | grind) (by first | trivial | decide | lia | grind) (d)) rfl (by omega) rfl rfl (Nat.le_of_ble_eq_true rfl) dX7_lineNow_117 (fun r77 u78 q79 => ?_)
            obtain ⟨⟨x80, rfl, tx80, nx80, zx80⟩, mq79⟩ := q79
            rw [mq79]
            refine g_if_eq (tgt := 127) dX7_lineNow_120 (by decide) (fun c81 => ?_) (fun c81 => ?_)
            · have zc81 := zx80 c81
              refine g_aload_n dX7_lineNow_127 rfl ?_
              refine g_iconst (v := 4) dX7_lineNow_128 (by decide) ?_
              refine g_bipush (v := 104) dX7_lineNow_129 (by decide) ?_
              refine g_bipush (v := 97) dX7_lineNow_131 (by decide) ?_
              refine g_bipush (v := 118) dX7_lineNow_133 (by decide) ?_
              refine cl_X7_107 (c := 60) (As := [.int 4, .int 104, .int 97, .int 118]) rfl (c_X7_is_s (G := G) hs hu  4 104 97 118 (by first | trivial | decide | lia | grind) (by first | trivial | decide | lia | grind) (by first | trivial | decide | lia | grind) (d)) rfl (by omega) rfl rfl (Nat.le_of_ble_eq_true rfl) dX7_lineNow_135 (fun r82 u83 q84 => ?_)
              obtain ⟨⟨x85, rfl, tx85, nx85, zx85⟩, mq84⟩ := q84
              rw [mq84]
              refine g_if_eq (tgt := 160) dX7_lineNow_138 (by decide) (fun c86 => ?_) (fun c86 => ?_)
              · have zc86 := zx85 c86
                refine g_bipush (v := (-4)) dX7_lineNow_160 (by decide) ?_
                exact g_iret (ty := .int) dX7_lineNow_162 rfl rfl ⟨⟨_, rfl, ⟨by first | trivial | lia | grind, Or.inl ⟨rfl, Or.inr ⟨fun j hj z => by rcases (show j = 0 ∨ j = 1 ∨ j = 2 ∨ j = 3 ∨ j = 4 ∨ j = 5 by omega) with rfl | rfl | rfl | rfl | rfl | rfl <;> first | (have w := W0.mp z.2; grind) | (have w := W1.mp z.2; grind) | (have w := W2.mp z.2; grind) | (have w := W3.mp z.2; grind) | (have w := W4.mp z.2; grind) | (have w := W5.mp z.2; grind), rfl⟩⟩⟩⟩, rfl⟩
              · have zc86 := nx85 c86
                refine g_aload_n dX7_lineNow_141 rfl ?_
                refine g_aload_n dX7_lineNow_142 rfl ?_
                refine f_X7_94 rfl rfl dX7_lineNow_143 ?_
                refine g_topi (fun x87 ex87 => ?_)
                have rx87 : 0 ≤ x87 ∧ x87 ≤ 160 := by rw [ex87]; exact iv_at hu _ _ rfl
                have qx87 : x87 = x64 := by rw [ex87]; exact s65
                refine g_iconst (v := 3) dX7_lineNow_146 (by decide) ?_
                refine g_iadd dX7_lineNow_147 ?_
                refine g_topi (fun x88 ex88 => ?_)
                refine cl_X7_103 (c := 60) (As := [.int x88]) rfl (c_X7_byteAt_s (G := G) hs hu  x88 (by first | trivial | decide | lia | grind) (d + 1)) rfl (by omega) rfl rfl (Nat.le_of_ble_eq_true rfl) dX7_lineNow_148 (fun r89 u90 q91 => ?_)
                obtain ⟨⟨x92, rfl, tx92⟩, mq91⟩ := q91
                rw [mq91]
                refine g_bipush (v := 101) dX7_lineNow_151 (by decide) ?_
                refine g_icmp_ne (tgt := 160) dX7_lineNow_153 (by decide) (fun c93 => ?_) (fun c93 => ?_)
                · refine g_bipush (v := (-4)) dX7_lineNow_160 (by decide) ?_
                  exact g_iret (ty := .int) dX7_lineNow_162 rfl rfl ⟨⟨_, rfl, ⟨by first | trivial | lia | grind, Or.inl ⟨rfl, Or.inr ⟨fun j hj z => by rcases (show j = 0 ∨ j = 1 ∨ j = 2 ∨ j = 3 ∨ j = 4 ∨ j = 5 by omega) with rfl | rfl | rfl | rfl | rfl | rfl <;> first | (have w := W0.mp z.2; grind) | (have w := W1.mp z.2; grind) | (have w := W2.mp z.2; grind) | (have w := W3.mp z.2; grind) | (have w := W4.mp z.2; grind) | (have w := W5.mp z.2; grind), rfl⟩⟩⟩⟩, rfl⟩
                · refine g_iconst (v := 5) dX7_lineNow_156 (by decide) ?_
                  refine g_goto (tgt := 162) dX7_lineNow_157 (by decide) ?_
                  exact g_iret (ty := .int) dX7_lineNow_162 rfl rfl ⟨⟨_, rfl, ⟨by first | trivial | lia | grind, Or.inr ⟨by decide, by decide, Or.inl ⟨5, by decide, rfl, W5.mpr (by grind), rfl⟩⟩⟩⟩, rfl⟩
            · have zc81 := nx80 c81
              refine g_iconst (v := 4) dX7_lineNow_123 (by decide) ?_
              refine g_goto (tgt := 162) dX7_lineNow_124 (by decide) ?_
              exact g_iret (ty := .int) dX7_lineNow_162 rfl rfl ⟨⟨_, rfl, ⟨by first | trivial | lia | grind, Or.inr ⟨by decide, by decide, Or.inl ⟨0, by decide, rfl, W0.mpr (by grind), rfl⟩⟩⟩⟩, rfl⟩
          · have zc76 := nx75 c76
            refine g_aload_n dX7_lineNow_92 rfl ?_
            refine g_aload_n dX7_lineNow_93 rfl ?_
            refine f_X7_94 rfl rfl dX7_lineNow_94 ?_
            refine g_topi (fun x94 ex94 => ?_)
            have rx94 : 0 ≤ x94 ∧ x94 ≤ 160 := by rw [ex94]; exact iv_at hu _ _ rfl
            have qx94 : x94 = x64 := by rw [ex94]; exact s65
            refine g_iconst (v := 3) dX7_lineNow_97 (by decide) ?_
            refine g_iadd dX7_lineNow_98 ?_
            refine g_topi (fun x95 ex95 => ?_)
            refine cl_X7_103 (c := 60) (As := [.int x95]) rfl (c_X7_byteAt_s (G := G) hs hu  x95 (by first | trivial | decide | lia | grind) (d + 1)) rfl (by omega) rfl rfl (Nat.le_of_ble_eq_true rfl) dX7_lineNow_99 (fun r96 u97 q98 => ?_)
            obtain ⟨⟨x99, rfl, tx99⟩, mq98⟩ := q98
            rw [mq98]
            refine g_bipush (v := 116) dX7_lineNow_102 (by decide) ?_
            refine g_icmp_ne (tgt := 109) dX7_lineNow_104 (by decide) (fun c100 => ?_) (fun c100 => ?_)
            · refine g_aload_n dX7_lineNow_109 rfl ?_
              refine g_iconst (v := 3) dX7_lineNow_110 (by decide) ?_
              refine g_bipush (v := 114) dX7_lineNow_111 (by decide) ?_
              refine g_bipush (v := 97) dX7_lineNow_113 (by decide) ?_
              refine g_bipush (v := 119) dX7_lineNow_115 (by decide) ?_
              refine cl_X7_107 (c := 60) (As := [.int 3, .int 114, .int 97, .int 119]) rfl (c_X7_is_s (G := G) hs hu  3 114 97 119 (by first | trivial | decide | lia | grind) (by first | trivial | decide | lia | grind) (by first | trivial | decide | lia | grind) (d)) rfl (by omega) rfl rfl (Nat.le_of_ble_eq_true rfl) dX7_lineNow_117 (fun r101 u102 q103 => ?_)
              obtain ⟨⟨x104, rfl, tx104, nx104, zx104⟩, mq103⟩ := q103
              rw [mq103]
              refine g_if_eq (tgt := 127) dX7_lineNow_120 (by decide) (fun c105 => ?_) (fun c105 => ?_)
              · have zc105 := zx104 c105
                refine g_aload_n dX7_lineNow_127 rfl ?_
                refine g_iconst (v := 4) dX7_lineNow_128 (by decide) ?_
                refine g_bipush (v := 104) dX7_lineNow_129 (by decide) ?_
                refine g_bipush (v := 97) dX7_lineNow_131 (by decide) ?_
                refine g_bipush (v := 118) dX7_lineNow_133 (by decide) ?_
                refine cl_X7_107 (c := 60) (As := [.int 4, .int 104, .int 97, .int 118]) rfl (c_X7_is_s (G := G) hs hu  4 104 97 118 (by first | trivial | decide | lia | grind) (by first | trivial | decide | lia | grind) (by first | trivial | decide | lia | grind) (d)) rfl (by omega) rfl rfl (Nat.le_of_ble_eq_true rfl) dX7_lineNow_135 (fun r106 u107 q108 => ?_)
                obtain ⟨⟨x109, rfl, tx109, nx109, zx109⟩, mq108⟩ := q108
                rw [mq108]
                refine g_if_eq (tgt := 160) dX7_lineNow_138 (by decide) (fun c110 => ?_) (fun c110 => ?_)
                · have zc110 := zx109 c110
                  refine g_bipush (v := (-4)) dX7_lineNow_160 (by decide) ?_
                  exact g_iret (ty := .int) dX7_lineNow_162 rfl rfl ⟨⟨_, rfl, ⟨by first | trivial | lia | grind, Or.inl ⟨rfl, Or.inr ⟨fun j hj z => by rcases (show j = 0 ∨ j = 1 ∨ j = 2 ∨ j = 3 ∨ j = 4 ∨ j = 5 by omega) with rfl | rfl | rfl | rfl | rfl | rfl <;> first | (have w := W0.mp z.2; grind) | (have w := W1.mp z.2; grind) | (have w := W2.mp z.2; grind) | (have w := W3.mp z.2; grind) | (have w := W4.mp z.2; grind) | (have w := W5.mp z.2; grind), rfl⟩⟩⟩⟩, rfl⟩
                · have zc110 := nx109 c110
                  refine g_aload_n dX7_lineNow_141 rfl ?_
                  refine g_aload_n dX7_lineNow_142 rfl ?_
                  refine f_X7_94 rfl rfl dX7_lineNow_143 ?_
                  refine g_topi (fun x111 ex111 => ?_)
                  have rx111 : 0 ≤ x111 ∧ x111 ≤ 160 := by rw [ex111]; exact iv_at hu _ _ rfl
                  have qx111 : x111 = x64 := by rw [ex111]; exact s65
                  refine g_iconst (v := 3) dX7_lineNow_146 (by decide) ?_
                  refine g_iadd dX7_lineNow_147 ?_
                  refine g_topi (fun x112 ex112 => ?_)
                  refine cl_X7_103 (c := 60) (As := [.int x112]) rfl (c_X7_byteAt_s (G := G) hs hu  x112 (by first | trivial | decide | lia | grind) (d + 1)) rfl (by omega) rfl rfl (Nat.le_of_ble_eq_true rfl) dX7_lineNow_148 (fun r113 u114 q115 => ?_)
                  obtain ⟨⟨x116, rfl, tx116⟩, mq115⟩ := q115
                  rw [mq115]
                  refine g_bipush (v := 101) dX7_lineNow_151 (by decide) ?_
                  refine g_icmp_ne (tgt := 160) dX7_lineNow_153 (by decide) (fun c117 => ?_) (fun c117 => ?_)
                  · refine g_bipush (v := (-4)) dX7_lineNow_160 (by decide) ?_
                    exact g_iret (ty := .int) dX7_lineNow_162 rfl rfl ⟨⟨_, rfl, ⟨by first | trivial | lia | grind, Or.inl ⟨rfl, Or.inr ⟨fun j hj z => by rcases (show j = 0 ∨ j = 1 ∨ j = 2 ∨ j = 3 ∨ j = 4 ∨ j = 5 by omega) with rfl | rfl | rfl | rfl | rfl | rfl <;> first | (have w := W0.mp z.2; grind) | (have w := W1.mp z.2; grind) | (have w := W2.mp z.2; grind) | (have w := W3.mp z.2; grind) | (have w := W4.mp z.2; grind) | (have w := W5.mp z.2; grind), rfl⟩⟩⟩⟩, rfl⟩
                  · refine g_iconst (v := 5) dX7_lineNow_156 (by decide) ?_
                    refine g_goto (tgt := 162) dX7_lineNow_157 (by decide) ?_
                    exact g_iret (ty := .int) dX7_lineNow_162 rfl rfl ⟨⟨_, rfl, ⟨by first | trivial | lia | grind, Or.inr ⟨by decide, by decide, Or.inl ⟨5, by decide, rfl, W5.mpr (by grind), rfl⟩⟩⟩⟩, rfl⟩
              · have zc105 := nx104 c105
                refine g_iconst (v := 4) dX7_lineNow_123 (by decide) ?_
                refine g_goto (tgt := 162) dX7_lineNow_124 (by decide) ?_
                exact g_iret (ty := .int) dX7_lineNow_162 rfl rfl ⟨⟨_, rfl, ⟨by first | trivial | lia | grind, Or.inr ⟨by decide, by decide, Or.inl ⟨0, by decide, rfl, W0.mpr (by grind), rfl⟩⟩⟩⟩, rfl⟩
            · refine g_iconst (v := 3) dX7_lineNow_107 (by decide) ?_
              exact g_iret (ty := .int) dX7_lineNow_108 rfl rfl ⟨⟨_, rfl, ⟨by first | trivial | lia | grind, Or.inr ⟨by decide, by decide, Or.inl ⟨4, by decide, rfl, W4.mpr (by grind), rfl⟩⟩⟩⟩, rfl⟩
        · refine g_iconst (v := 2) dX7_lineNow_76 (by decide) ?_
          exact g_iret (ty := .int) dX7_lineNow_77 rfl rfl ⟨⟨_, rfl, ⟨by first | trivial | lia | grind, Or.inr ⟨by decide, by decide, Or.inl ⟨3, by decide, rfl, W3.mpr (by grind), rfl⟩⟩⟩⟩, rfl⟩
    · have zc10 := nx9 c10
      refine g_aload_n dX7_lineNow_30 rfl ?_
      refine g_aload_n dX7_lineNow_31 rfl ?_
      refine f_X7_94 rfl rfl dX7_lineNow_32 ?_
      refine g_topi (fun x118 ex118 => ?_)
      have rx118 : 0 ≤ x118 ∧ x118 ≤ 160 := by rw [ex118]; exact iv_at hu _ _ rfl
      have s119 : u.1 60 15 = x118 := ex118.symm
      refine g_iconst (v := 3) dX7_lineNow_35 (by decide) ?_
      refine g_iadd dX7_lineNow_36 ?_
      refine g_topi (fun x120 ex120 => ?_)
      refine cl_X7_103 (c := 60) (As := [.int x120]) rfl (c_X7_byteAt_s (G := G) hs hu  x120 (by first | trivial | decide | lia | grind) (d + 1)) rfl (by omega) rfl rfl (Nat.le_of_ble_eq_true rfl) dX7_lineNow_37 (fun r121 u122 q123 => ?_)
      obtain ⟨⟨x124, rfl, tx124⟩, mq123⟩ := q123
      rw [mq123]
      refine g_bipush (v := 108) dX7_lineNow_40 (by decide) ?_
      refine g_icmp_ne (tgt := 47) dX7_lineNow_42 (by decide) (fun c125 => ?_) (fun c125 => ?_)
      · refine g_aload_n dX7_lineNow_47 rfl ?_
        refine g_iconst (v := 4) dX7_lineNow_48 (by decide) ?_
        refine g_bipush (v := 98) dX7_lineNow_49 (by decide) ?_
        refine g_bipush (v := 117) dX7_lineNow_51 (by decide) ?_
        refine g_bipush (v := 114) dX7_lineNow_53 (by decide) ?_
        refine cl_X7_107 (c := 60) (As := [.int 4, .int 98, .int 117, .int 114]) rfl (c_X7_is_s (G := G) hs hu  4 98 117 114 (by first | trivial | decide | lia | grind) (by first | trivial | decide | lia | grind) (by first | trivial | decide | lia | grind) (d)) rfl (by omega) rfl rfl (Nat.le_of_ble_eq_true rfl) dX7_lineNow_55 (fun r126 u127 q128 => ?_)
        obtain ⟨⟨x129, rfl, tx129, nx129, zx129⟩, mq128⟩ := q128
        rw [mq128]
        refine g_if_eq (tgt := 78) dX7_lineNow_58 (by decide) (fun c130 => ?_) (fun c130 => ?_)
        · have zc130 := zx129 c130
          refine g_aload_n dX7_lineNow_78 rfl ?_
          refine g_iconst (v := 4) dX7_lineNow_79 (by decide) ?_
          refine g_bipush (v := 115) dX7_lineNow_80 (by decide) ?_
          refine g_bipush (v := 97) dX7_lineNow_82 (by decide) ?_
          refine g_bipush (v := 108) dX7_lineNow_84 (by decide) ?_
          refine cl_X7_107 (c := 60) (As := [.int 4, .int 115, .int 97, .int 108]) rfl (c_X7_is_s (G := G) hs hu  4 115 97 108 (by first | trivial | decide | lia | grind) (by first | trivial | decide | lia | grind) (by first | trivial | decide | lia | grind) (d)) rfl (by omega) rfl rfl (Nat.le_of_ble_eq_true rfl) dX7_lineNow_86 (fun r131 u132 q133 => ?_)
          obtain ⟨⟨x134, rfl, tx134, nx134, zx134⟩, mq133⟩ := q133
          rw [mq133]
          refine g_if_eq (tgt := 109) dX7_lineNow_89 (by decide) (fun c135 => ?_) (fun c135 => ?_)
          · have zc135 := zx134 c135
            refine g_aload_n dX7_lineNow_109 rfl ?_
            refine g_iconst (v := 3) dX7_lineNow_110 (by decide) ?_
            refine g_bipush (v := 114) dX7_lineNow_111 (by decide) ?_
            refine g_bipush (v := 97) dX7_lineNow_113 (by decide) ?_
            refine g_bipush (v := 119) dX7_lineNow_115 (by decide) ?_
            refine cl_X7_107 (c := 60) (As := [.int 3, .int 114, .int 97, .int 119]) rfl (c_X7_is_s (G := G) hs hu  3 114 97 119 (by first | trivial | decide | lia | grind) (by first | trivial | decide | lia | grind) (by first | trivial | decide | lia | grind) (d)) rfl (by omega) rfl rfl (Nat.le_of_ble_eq_true rfl) dX7_lineNow_117 (fun r136 u137 q138 => ?_)
            obtain ⟨⟨x139, rfl, tx139, nx139, zx139⟩, mq138⟩ := q138
            rw [mq138]
            refine g_if_eq (tgt := 127) dX7_lineNow_120 (by decide) (fun c140 => ?_) (fun c140 => ?_)
            · have zc140 := zx139 c140
              refine g_aload_n dX7_lineNow_127 rfl ?_
              refine g_iconst (v := 4) dX7_lineNow_128 (by decide) ?_
              refine g_bipush (v := 104) dX7_lineNow_129 (by decide) ?_
              refine g_bipush (v := 97) dX7_lineNow_131 (by decide) ?_
              refine g_bipush (v := 118) dX7_lineNow_133 (by decide) ?_
              refine cl_X7_107 (c := 60) (As := [.int 4, .int 104, .int 97, .int 118]) rfl (c_X7_is_s (G := G) hs hu  4 104 97 118 (by first | trivial | decide | lia | grind) (by first | trivial | decide | lia | grind) (by first | trivial | decide | lia | grind) (d)) rfl (by omega) rfl rfl (Nat.le_of_ble_eq_true rfl) dX7_lineNow_135 (fun r141 u142 q143 => ?_)
              obtain ⟨⟨x144, rfl, tx144, nx144, zx144⟩, mq143⟩ := q143
              rw [mq143]
              refine g_if_eq (tgt := 160) dX7_lineNow_138 (by decide) (fun c145 => ?_) (fun c145 => ?_)
              · have zc145 := zx144 c145
                refine g_bipush (v := (-4)) dX7_lineNow_160 (by decide) ?_
                exact g_iret (ty := .int) dX7_lineNow_162 rfl rfl ⟨⟨_, rfl, ⟨by first | trivial | lia | grind, Or.inl ⟨rfl, Or.inr ⟨fun j hj z => by rcases (show j = 0 ∨ j = 1 ∨ j = 2 ∨ j = 3 ∨ j = 4 ∨ j = 5 by omega) with rfl | rfl | rfl | rfl | rfl | rfl <;> first | (have w := W0.mp z.2; grind) | (have w := W1.mp z.2; grind) | (have w := W2.mp z.2; grind) | (have w := W3.mp z.2; grind) | (have w := W4.mp z.2; grind) | (have w := W5.mp z.2; grind), rfl⟩⟩⟩⟩, rfl⟩
              · have zc145 := nx144 c145
                refine g_aload_n dX7_lineNow_141 rfl ?_
                refine g_aload_n dX7_lineNow_142 rfl ?_
                refine f_X7_94 rfl rfl dX7_lineNow_143 ?_
                refine g_topi (fun x146 ex146 => ?_)
                have rx146 : 0 ≤ x146 ∧ x146 ≤ 160 := by rw [ex146]; exact iv_at hu _ _ rfl
                have qx146 : x146 = x118 := by rw [ex146]; exact s119
                refine g_iconst (v := 3) dX7_lineNow_146 (by decide) ?_
                refine g_iadd dX7_lineNow_147 ?_
                refine g_topi (fun x147 ex147 => ?_)
                refine cl_X7_103 (c := 60) (As := [.int x147]) rfl (c_X7_byteAt_s (G := G) hs hu  x147 (by first | trivial | decide | lia | grind) (d + 1)) rfl (by omega) rfl rfl (Nat.le_of_ble_eq_true rfl) dX7_lineNow_148 (fun r148 u149 q150 => ?_)
                obtain ⟨⟨x151, rfl, tx151⟩, mq150⟩ := q150
                rw [mq150]
                refine g_bipush (v := 101) dX7_lineNow_151 (by decide) ?_
                refine g_icmp_ne (tgt := 160) dX7_lineNow_153 (by decide) (fun c152 => ?_) (fun c152 => ?_)
                · refine g_bipush (v := (-4)) dX7_lineNow_160 (by decide) ?_
                  exact g_iret (ty := .int) dX7_lineNow_162 rfl rfl ⟨⟨_, rfl, ⟨by first | trivial | lia | grind, Or.inl ⟨rfl, Or.inr ⟨fun j hj z => by rcases (show j = 0 ∨ j = 1 ∨ j = 2 ∨ j = 3 ∨ j = 4 ∨ j = 5 by omega) with rfl | rfl | rfl | rfl | rfl | rfl <;> first | (have w := W0.mp z.2; grind) | (have w := W1.mp z.2; grind) | (have w := W2.mp z.2; grind) | (have w := W3.mp z.2; grind) | (have w := W4.mp z.2; grind) | (have w := W5.mp z.2; grind), rfl⟩⟩⟩⟩, rfl⟩
                · refine g_iconst (v := 5) dX7_lineNow_156 (by decide) ?_
                  refine g_goto (tgt := 162) dX7_lineNow_157 (by decide) ?_
                  exact g_iret (ty := .int) dX7_lineNow_162 rfl rfl ⟨⟨_, rfl, ⟨by first | trivial | lia | grind, Or.inr ⟨by decide, by decide, Or.inl ⟨5, by decide, rfl, W5.mpr (by grind), rfl⟩⟩⟩⟩, rfl⟩
            · have zc140 := nx139 c140
              refine g_iconst (v := 4) dX7_lineNow_123 (by decide) ?_
              refine g_goto (tgt := 162) dX7_lineNow_124 (by decide) ?_
              exact g_iret (ty := .int) dX7_lineNow_162 rfl rfl ⟨⟨_, rfl, ⟨by first | trivial | lia | grind, Or.inr ⟨by decide, by decide, Or.inl ⟨0, by decide, rfl, W0.mpr (by grind), rfl⟩⟩⟩⟩, rfl⟩
          · have zc135 := nx134 c135
            refine g_aload_n dX7_lineNow_92 rfl ?_
            refine g_aload_n dX7_lineNow_93 rfl ?_
            refine f_X7_94 rfl rfl dX7_lineNow_94 ?_
            refine g_topi (fun x153 ex153 => ?_)
            have rx153 : 0 ≤ x153 ∧ x153 ≤ 160 := by rw [ex153]; exact iv_at hu _ _ rfl
            have qx153 : x153 = x118 := by rw [ex153]; exact s119
            refine g_iconst (v := 3) dX7_lineNow_97 (by decide) ?_
            refine g_iadd dX7_lineNow_98 ?_
            refine g_topi (fun x154 ex154 => ?_)
            refine cl_X7_103 (c := 60) (As := [.int x154]) rfl (c_X7_byteAt_s (G := G) hs hu  x154 (by first | trivial | decide | lia | grind) (d + 1)) rfl (by omega) rfl rfl (Nat.le_of_ble_eq_true rfl) dX7_lineNow_99 (fun r155 u156 q157 => ?_)
            obtain ⟨⟨x158, rfl, tx158⟩, mq157⟩ := q157
            rw [mq157]
            refine g_bipush (v := 116) dX7_lineNow_102 (by decide) ?_
            refine g_icmp_ne (tgt := 109) dX7_lineNow_104 (by decide) (fun c159 => ?_) (fun c159 => ?_)
            · refine g_aload_n dX7_lineNow_109 rfl ?_
              refine g_iconst (v := 3) dX7_lineNow_110 (by decide) ?_
              refine g_bipush (v := 114) dX7_lineNow_111 (by decide) ?_
              refine g_bipush (v := 97) dX7_lineNow_113 (by decide) ?_
              refine g_bipush (v := 119) dX7_lineNow_115 (by decide) ?_
              refine cl_X7_107 (c := 60) (As := [.int 3, .int 114, .int 97, .int 119]) rfl (c_X7_is_s (G := G) hs hu  3 114 97 119 (by first | trivial | decide | lia | grind) (by first | trivial | decide | lia | grind) (by first | trivial | decide | lia | grind) (d)) rfl (by omega) rfl rfl (Nat.le_of_ble_eq_true rfl) dX7_lineNow_117 (fun r160 u161 q162 => ?_)
              obtain ⟨⟨x163, rfl, tx163, nx163, zx163⟩, mq162⟩ := q162
              rw [mq162]
              refine g_if_eq (tgt := 127) dX7_lineNow_120 (by decide) (fun c164 => ?_) (fun c164 => ?_)
              · have zc164 := zx163 c164
                refine g_aload_n dX7_lineNow_127 rfl ?_
                refine g_iconst (v := 4) dX7_lineNow_128 (by decide) ?_
                refine g_bipush (v := 104) dX7_lineNow_129 (by decide) ?_
                refine g_bipush (v := 97) dX7_lineNow_131 (by decide) ?_
                refine g_bipush (v := 118) dX7_lineNow_133 (by decide) ?_
                refine cl_X7_107 (c := 60) (As := [.int 4, .int 104, .int 97, .int 118]) rfl (c_X7_is_s (G := G) hs hu  4 104 97 118 (by first | trivial | decide | lia | grind) (by first | trivial | decide | lia | grind) (by first | trivial | decide | lia | grind) (d)) rfl (by omega) rfl rfl (Nat.le_of_ble_eq_true rfl) dX7_lineNow_135 (fun r165 u166 q167 => ?_)
                obtain ⟨⟨x168, rfl, tx168, nx168, zx168⟩, mq167⟩ := q167
                rw [mq167]
                refine g_if_eq (tgt := 160) dX7_lineNow_138 (by decide) (fun c169 => ?_) (fun c169 => ?_)
                · have zc169 := zx168 c169
                  refine g_bipush (v := (-4)) dX7_lineNow_160 (by decide) ?_
                  exact g_iret (ty := .int) dX7_lineNow_162 rfl rfl ⟨⟨_, rfl, ⟨by first | trivial | lia | grind, Or.inl ⟨rfl, Or.inr ⟨fun j hj z => by rcases (show j = 0 ∨ j = 1 ∨ j = 2 ∨ j = 3 ∨ j = 4 ∨ j = 5 by omega) with rfl | rfl | rfl | rfl | rfl | rfl <;> first | (have w := W0.mp z.2; grind) | (have w := W1.mp z.2; grind) | (have w := W2.mp z.2; grind) | (have w := W3.mp z.2; grind) | (have w := W4.mp z.2; grind) | (have w := W5.mp z.2; grind), rfl⟩⟩⟩⟩, rfl⟩
                · have zc169 := nx168 c169
                  refine g_aload_n dX7_lineNow_141 rfl ?_
                  refine g_aload_n dX7_lineNow_142 rfl ?_
                  refine f_X7_94 rfl rfl dX7_lineNow_143 ?_
                  refine g_topi (fun x170 ex170 => ?_)
                  have rx170 : 0 ≤ x170 ∧ x170 ≤ 160 := by rw [ex170]; exact iv_at hu _ _ rfl
                  have qx170 : x170 = x118 := by rw [ex170]; exact s119
                  refine g_iconst (v := 3) dX7_lineNow_146 (by decide) ?_
                  refine g_iadd dX7_lineNow_147 ?_
                  refine g_topi (fun x171 ex171 => ?_)
                  refine cl_X7_103 (c := 60) (As := [.int x171]) rfl (c_X7_byteAt_s (G := G) hs hu  x171 (by first | trivial | decide | lia | grind) (d + 1)) rfl (by omega) rfl rfl (Nat.le_of_ble_eq_true rfl) dX7_lineNow_148 (fun r172 u173 q174 => ?_)
                  obtain ⟨⟨x175, rfl, tx175⟩, mq174⟩ := q174
                  rw [mq174]
                  refine g_bipush (v := 101) dX7_lineNow_151 (by decide) ?_
                  refine g_icmp_ne (tgt := 160) dX7_lineNow_153 (by decide) (fun c176 => ?_) (fun c176 => ?_)
                  · refine g_bipush (v := (-4)) dX7_lineNow_160 (by decide) ?_
                    exact g_iret (ty := .int) dX7_lineNow_162 rfl rfl ⟨⟨_, rfl, ⟨by first | trivial | lia | grind, Or.inl ⟨rfl, Or.inr ⟨fun j hj z => by rcases (show j = 0 ∨ j = 1 ∨ j = 2 ∨ j = 3 ∨ j = 4 ∨ j = 5 by omega) with rfl | rfl | rfl | rfl | rfl | rfl <;> first | (have w := W0.mp z.2; grind) | (have w := W1.mp z.2; grind) | (have w := W2.mp z.2; grind) | (have w := W3.mp z.2; grind) | (have w := W4.mp z.2; grind) | (have w := W5.mp z.2; grind), rfl⟩⟩⟩⟩, rfl⟩
                  · refine g_iconst (v := 5) dX7_lineNow_156 (by decide) ?_
                    refine g_goto (tgt := 162) dX7_lineNow_157 (by decide) ?_
                    exact g_iret (ty := .int) dX7_lineNow_162 rfl rfl ⟨⟨_, rfl, ⟨by first | trivial | lia | grind, Or.inr ⟨by decide, by decide, Or.inl ⟨5, by decide, rfl, W5.mpr (by grind), rfl⟩⟩⟩⟩, rfl⟩
              · have zc164 := nx163 c164
                refine g_iconst (v := 4) dX7_lineNow_123 (by decide) ?_
                refine g_goto (tgt := 162) dX7_lineNow_124 (by decide) ?_
                exact g_iret (ty := .int) dX7_lineNow_162 rfl rfl ⟨⟨_, rfl, ⟨by first | trivial | lia | grind, Or.inr ⟨by decide, by decide, Or.inl ⟨0, by decide, rfl, W0.mpr (by grind), rfl⟩⟩⟩⟩, rfl⟩
            · refine g_iconst (v := 3) dX7_lineNow_107 (by decide) ?_
              exact g_iret (ty := .int) dX7_lineNow_108 rfl rfl ⟨⟨_, rfl, ⟨by first | trivial | lia | grind, Or.inr ⟨by decide, by decide, Or.inl ⟨4, by decide, rfl, W4.mpr (by grind), rfl⟩⟩⟩⟩, rfl⟩
        · have zc130 := nx129 c130
          refine g_aload_n dX7_lineNow_61 rfl ?_
          refine g_aload_n dX7_lineNow_62 rfl ?_
          refine f_X7_94 rfl rfl dX7_lineNow_63 ?_
          refine g_topi (fun x177 ex177 => ?_)
          have rx177 : 0 ≤ x177 ∧ x177 ≤ 160 := by rw [ex177]; exact iv_at hu _ _ rfl
          have qx177 : x177 = x118 := by rw [ex177]; exact s119
          refine g_iconst (v := 3) dX7_lineNow_66 (by decide) ?_
          refine g_iadd dX7_lineNow_67 ?_
          refine g_topi (fun x178 ex178 => ?_)
          refine cl_X7_103 (c := 60) (As := [.int x178]) rfl (c_X7_byteAt_s (G := G) hs hu  x178 (by first | trivial | decide | lia | grind) (d + 1)) rfl (by omega) rfl rfl (Nat.le_of_ble_eq_true rfl) dX7_lineNow_68 (fun r179 u180 q181 => ?_)
          obtain ⟨⟨x182, rfl, tx182⟩, mq181⟩ := q181
          rw [mq181]
          refine g_bipush (v := 110) dX7_lineNow_71 (by decide) ?_
          refine g_icmp_ne (tgt := 78) dX7_lineNow_73 (by decide) (fun c183 => ?_) (fun c183 => ?_)
          · refine g_aload_n dX7_lineNow_78 rfl ?_
            refine g_iconst (v := 4) dX7_lineNow_79 (by decide) ?_
            refine g_bipush (v := 115) dX7_lineNow_80 (by decide) ?_
            refine g_bipush (v := 97) dX7_lineNow_82 (by decide) ?_
            refine g_bipush (v := 108) dX7_lineNow_84 (by decide) ?_
            refine cl_X7_107 (c := 60) (As := [.int 4, .int 115, .int 97, .int 108]) rfl (c_X7_is_s (G := G) hs hu  4 115 97 108 (by first | trivial | decide | lia | grind) (by first | trivial | decide | lia | grind) (by first | trivial | decide | lia | grind) (d)) rfl (by omega) rfl rfl (Nat.le_of_ble_eq_true rfl) dX7_lineNow_86 (fun r184 u185 q186 => ?_)
            obtain ⟨⟨x187, rfl, tx187, nx187, zx187⟩, mq186⟩ := q186
            rw [mq186]
            refine g_if_eq (tgt := 109) dX7_lineNow_89 (by decide) (fun c188 => ?_) (fun c188 => ?_)
            · have zc188 := zx187 c188
              refine g_aload_n dX7_lineNow_109 rfl ?_
              refine g_iconst (v := 3) dX7_lineNow_110 (by decide) ?_
              refine g_bipush (v := 114) dX7_lineNow_111 (by decide) ?_
              refine g_bipush (v := 97) dX7_lineNow_113 (by decide) ?_
              refine g_bipush (v := 119) dX7_lineNow_115 (by decide) ?_
              refine cl_X7_107 (c := 60) (As := [.int 3, .int 114, .int 97, .int 119]) rfl (c_X7_is_s (G := G) hs hu  3 114 97 119 (by first | trivial | decide | lia | grind) (by first | trivial | decide | lia | grind) (by first | trivial | decide | lia | grind) (d)) rfl (by omega) rfl rfl (Nat.le_of_ble_eq_true rfl) dX7_lineNow_117 (fun r189 u190 q191 => ?_)
              obtain ⟨⟨x192, rfl, tx192, nx192, zx192⟩, mq191⟩ := q191
              rw [mq191]
              refine g_if_eq (tgt := 127) dX7_lineNow_120 (by decide) (fun c193 => ?_) (fun c193 => ?_)
              · have zc193 := zx192 c193
                refine g_aload_n dX7_lineNow_127 rfl ?_
                refine g_iconst (v := 4) dX7_lineNow_128 (by decide) ?_
                refine g_bipush (v := 104) dX7_lineNow_129 (by decide) ?_
                refine g_bipush (v := 97) dX7_lineNow_131 (by decide) ?_
                refine g_bipush (v := 118) dX7_lineNow_133 (by decide) ?_
                refine cl_X7_107 (c := 60) (As := [.int 4, .int 104, .int 97, .int 118]) rfl (c_X7_is_s (G := G) hs hu  4 104 97 118 (by first | trivial | decide | lia | grind) (by first | trivial | decide | lia | grind) (by first | trivial | decide | lia | grind) (d)) rfl (by omega) rfl rfl (Nat.le_of_ble_eq_true rfl) dX7_lineNow_135 (fun r194 u195 q196 => ?_)
                obtain ⟨⟨x197, rfl, tx197, nx197, zx197⟩, mq196⟩ := q196
                rw [mq196]
                refine g_if_eq (tgt := 160) dX7_lineNow_138 (by decide) (fun c198 => ?_) (fun c198 => ?_)
                · have zc198 := zx197 c198
                  refine g_bipush (v := (-4)) dX7_lineNow_160 (by decide) ?_
                  exact g_iret (ty := .int) dX7_lineNow_162 rfl rfl ⟨⟨_, rfl, ⟨by first | trivial | lia | grind, Or.inl ⟨rfl, Or.inr ⟨fun j hj z => by rcases (show j = 0 ∨ j = 1 ∨ j = 2 ∨ j = 3 ∨ j = 4 ∨ j = 5 by omega) with rfl | rfl | rfl | rfl | rfl | rfl <;> first | (have w := W0.mp z.2; grind) | (have w := W1.mp z.2; grind) | (have w := W2.mp z.2; grind) | (have w := W3.mp z.2; grind) | (have w := W4.mp z.2; grind) | (have w := W5.mp z.2; grind), rfl⟩⟩⟩⟩, rfl⟩
                · have zc198 := nx197 c198
                  refine g_aload_n dX7_lineNow_141 rfl ?_
                  refine g_aload_n dX7_lineNow_142 rfl ?_
                  refine f_X7_94 rfl rfl dX7_lineNow_143 ?_
                  refine g_topi (fun x199 ex199 => ?_)
                  have rx199 : 0 ≤ x199 ∧ x199 ≤ 160 := by rw [ex199]; exact iv_at hu _ _ rfl
                  have qx199 : x199 = x118 := by rw [ex199]; exact s119
                  refine g_iconst (v := 3) dX7_lineNow_146 (by decide) ?_
                  refine g_iadd dX7_lineNow_147 ?_
                  refine g_topi (fun x200 ex200 => ?_)
                  refine cl_X7_103 (c := 60) (As := [.int x200]) rfl (c_X7_byteAt_s (G := G) hs hu  x200 (by first | trivial | decide | lia | grind) (d + 1)) rfl (by omega) rfl rfl (Nat.le_of_ble_eq_true rfl) dX7_lineNow_148 (fun r201 u202 q203 => ?_)
                  obtain ⟨⟨x204, rfl, tx204⟩, mq203⟩ := q203
                  rw [mq203]
                  refine g_bipush (v := 101) dX7_lineNow_151 (by decide) ?_
                  refine g_icmp_ne (tgt := 160) dX7_lineNow_153 (by decide) (fun c205 => ?_) (fun c205 => ?_)
                  · refine g_bipush (v := (-4)) dX7_lineNow_160 (by decide) ?_
                    exact g_iret (ty := .int) dX7_lineNow_162 rfl rfl ⟨⟨_, rfl, ⟨by first | trivial | lia | grind, Or.inl ⟨rfl, Or.inr ⟨fun j hj z => by rcases (show j = 0 ∨ j = 1 ∨ j = 2 ∨ j = 3 ∨ j = 4 ∨ j = 5 by omega) with rfl | rfl | rfl | rfl | rfl | rfl <;> first | (have w := W0.mp z.2; grind) | (have w := W1.mp z.2; grind) | (have w := W2.mp z.2; grind) | (have w := W3.mp z.2; grind) | (have w := W4.mp z.2; grind) | (have w := W5.mp z.2; grind), rfl⟩⟩⟩⟩, rfl⟩
                  · refine g_iconst (v := 5) dX7_lineNow_156 (by decide) ?_
                    refine g_goto (tgt := 162) dX7_lineNow_157 (by decide) ?_
                    exact g_iret (ty := .int) dX7_lineNow_162 rfl rfl ⟨⟨_, rfl, ⟨by first | trivial | lia | grind, Or.inr ⟨by decide, by decide, Or.inl ⟨5, by decide, rfl, W5.mpr (by grind), rfl⟩⟩⟩⟩, rfl⟩
              · have zc193 := nx192 c193
                refine g_iconst (v := 4) dX7_lineNow_123 (by decide) ?_
                refine g_goto (tgt := 162) dX7_lineNow_124 (by decide) ?_
                exact g_iret (ty := .int) dX7_lineNow_162 rfl rfl ⟨⟨_, rfl, ⟨by first | trivial | lia | grind, Or.inr ⟨by decide, by decide, Or.inl ⟨0, by decide, rfl, W0.mpr (by grind), rfl⟩⟩⟩⟩, rfl⟩
            · have zc188 := nx187 c188
              refine g_aload_n dX7_lineNow_92 rfl ?_
              refine g_aload_n dX7_lineNow_93 rfl ?_
              refine f_X7_94 rfl rfl dX7_lineNow_94 ?_
              refine g_topi (fun x206 ex206 => ?_)
              have rx206 : 0 ≤ x206 ∧ x206 ≤ 160 := by rw [ex206]; exact iv_at hu _ _ rfl
              have qx206 : x206 = x118 := by rw [ex206]; exact s119
              refine g_iconst (v := 3) dX7_lineNow_97 (by decide) ?_
              refine g_iadd dX7_lineNow_98 ?_
              refine g_topi (fun x207 ex207 => ?_)
              refine cl_X7_103 (c := 60) (As := [.int x207]) rfl (c_X7_byteAt_s (G := G) hs hu  x207 (by first | trivial | decide | lia | grind) (d + 1)) rfl (by omega) rfl rfl (Nat.le_of_ble_eq_true rfl) dX7_lineNow_99 (fun r208 u209 q210 => ?_)
              obtain ⟨⟨x211, rfl, tx211⟩, mq210⟩ := q210
              rw [mq210]
              refine g_bipush (v := 116) dX7_lineNow_102 (by decide) ?_
              refine g_icmp_ne (tgt := 109) dX7_lineNow_104 (by decide) (fun c212 => ?_) (fun c212 => ?_)
              · refine g_aload_n dX7_lineNow_109 rfl ?_
                refine g_iconst (v := 3) dX7_lineNow_110 (by decide) ?_
                refine g_bipush (v := 114) dX7_lineNow_111 (by decide) ?_
                refine g_bipush (v := 97) dX7_lineNow_113 (by decide) ?_
                refine g_bipush (v := 119) dX7_lineNow_115 (by decide) ?_
                refine cl_X7_107 (c := 60) (As := [.int 3, .int 114, .int 97, .int 119]) rfl (c_X7_is_s (G := G) hs hu  3 114 97 119 (by first | trivial | decide | lia | grind) (by first | trivial | decide | lia | grind) (by first | trivial | decide | lia | grind) (d)) rfl (by omega) rfl rfl (Nat.le_of_ble_eq_true rfl) dX7_lineNow_117 (fun r213 u214 q215 => ?_)
                obtain ⟨⟨x216, rfl, tx216, nx216, zx216⟩, mq215⟩ := q215
                rw [mq215]
                refine g_if_eq (tgt := 127) dX7_lineNow_120 (by decide) (fun c217 => ?_) (fun c217 => ?_)
                · have zc217 := zx216 c217
                  refine g_aload_n dX7_lineNow_127 rfl ?_
                  refine g_iconst (v := 4) dX7_lineNow_128 (by decide) ?_
                  refine g_bipush (v := 104) dX7_lineNow_129 (by decide) ?_
                  refine g_bipush (v := 97) dX7_lineNow_131 (by decide) ?_
                  refine g_bipush (v := 118) dX7_lineNow_133 (by decide) ?_
                  refine cl_X7_107 (c := 60) (As := [.int 4, .int 104, .int 97, .int 118]) rfl (c_X7_is_s (G := G) hs hu  4 104 97 118 (by first | trivial | decide | lia | grind) (by first | trivial | decide | lia | grind) (by first | trivial | decide | lia | grind) (d)) rfl (by omega) rfl rfl (Nat.le_of_ble_eq_true rfl) dX7_lineNow_135 (fun r218 u219 q220 => ?_)
                  obtain ⟨⟨x221, rfl, tx221, nx221, zx221⟩, mq220⟩ := q220
                  rw [mq220]
                  refine g_if_eq (tgt := 160) dX7_lineNow_138 (by decide) (fun c222 => ?_) (fun c222 => ?_)
                  · have zc222 := zx221 c222
                    refine g_bipush (v := (-4)) dX7_lineNow_160 (by decide) ?_
                    exact g_iret (ty := .int) dX7_lineNow_162 rfl rfl ⟨⟨_, rfl, ⟨by first | trivial | lia | grind, Or.inl ⟨rfl, Or.inr ⟨fun j hj z => by rcases (show j = 0 ∨ j = 1 ∨ j = 2 ∨ j = 3 ∨ j = 4 ∨ j = 5 by omega) with rfl | rfl | rfl | rfl | rfl | rfl <;> first | (have w := W0.mp z.2; grind) | (have w := W1.mp z.2; grind) | (have w := W2.mp z.2; grind) | (have w := W3.mp z.2; grind) | (have w := W4.mp z.2; grind) | (have w := W5.mp z.2; grind), rfl⟩⟩⟩⟩, rfl⟩
                  · have zc222 := nx221 c222
                    refine g_aload_n dX7_lineNow_141 rfl ?_
                    refine g_aload_n dX7_lineNow_142 rfl ?_
                    refine f_X7_94 rfl rfl dX7_lineNow_143 ?_
                    refine g_topi (fun x223 ex223 => ?_)
                    have rx223 : 0 ≤ x223 ∧ x223 ≤ 160 := by rw [ex223]; exact iv_at hu _ _ rfl
                    have qx223 : x223 = x118 := by rw [ex223]; exact s119
                    refine g_iconst (v := 3) dX7_lineNow_146 (by decide) ?_
                    refine g_iadd dX7_lineNow_147 ?_
                    refine g_topi (fun x224 ex224 => ?_)
                    refine cl_X7_103 (c := 60) (As := [.int x224]) rfl (c_X7_byteAt_s (G := G) hs hu  x224 (by first | trivial | decide | lia | grind) (d + 1)) rfl (by omega) rfl rfl (Nat.le_of_ble_eq_true rfl) dX7_lineNow_148 (fun r225 u226 q227 => ?_)
                    obtain ⟨⟨x228, rfl, tx228⟩, mq227⟩ := q227
                    rw [mq227]
                    refine g_bipush (v := 101) dX7_lineNow_151 (by decide) ?_
                    refine g_icmp_ne (tgt := 160) dX7_lineNow_153 (by decide) (fun c229 => ?_) (fun c229 => ?_)
                    · refine g_bipush (v := (-4)) dX7_lineNow_160 (by decide) ?_
                      exact g_iret (ty := .int) dX7_lineNow_162 rfl rfl ⟨⟨_, rfl, ⟨by first | trivial | lia | grind, Or.inl ⟨rfl, Or.inr ⟨fun j hj z => by rcases (show j = 0 ∨ j = 1 ∨ j = 2 ∨ j = 3 ∨ j = 4 ∨ j = 5 by omega) with rfl | rfl | rfl | rfl | rfl | rfl <;> first | (have w := W0.mp z.2; grind) | (have w := W1.mp z.2; grind) | (have w := W2.mp z.2; grind) | (have w := W3.mp z.2; grind) | (have w := W4.mp z.2; grind) | (have w := W5.mp z.2; grind), rfl⟩⟩⟩⟩, rfl⟩
                    · refine g_iconst (v := 5) dX7_lineNow_156 (by decide) ?_
                      refine g_goto (tgt := 162) dX7_lineNow_157 (by decide) ?_
                      exact g_iret (ty := .int) dX7_lineNow_162 rfl rfl ⟨⟨_, rfl, ⟨by first | trivial | lia | grind, Or.inr ⟨by decide, by decide, Or.inl ⟨5, by decide, rfl, W5.mpr (by grind), rfl⟩⟩⟩⟩, rfl⟩
                · have zc217 := nx216 c217
                  refine g_iconst (v := 4) dX7_lineNow_123 (by decide) ?_
                  refine g_goto (tgt := 162) dX7_lineNow_124 (by decide) ?_
                  exact g_iret (ty := .int) dX7_lineNow_162 rfl rfl ⟨⟨_, rfl, ⟨by first | trivial | lia | grind, Or.inr ⟨by decide, by decide, Or.inl ⟨0, by decide, rfl, W0.mpr (by grind), rfl⟩⟩⟩⟩, rfl⟩
              · refine g_iconst (v := 3) dX7_lineNow_107 (by decide) ?_
                exact g_iret (ty := .int) dX7_lineNow_108 rfl rfl ⟨⟨_, rfl, ⟨by first | trivial | lia | grind, Or.inr ⟨by decide, by decide, Or.inl ⟨4, by decide, rfl, W4.mpr (by grind), rfl⟩⟩⟩⟩, rfl⟩
          · refine g_iconst (v := 2) dX7_lineNow_76 (by decide) ?_
            exact g_iret (ty := .int) dX7_lineNow_77 rfl rfl ⟨⟨_, rfl, ⟨by first | trivial | lia | grind, Or.inr ⟨by decide, by decide, Or.inl ⟨3, by decide, rfl, W3.mpr (by grind), rfl⟩⟩⟩⟩, rfl⟩
      · refine g_iconst (v := 1) dX7_lineNow_45 (by decide) ?_
        exact g_iret (ty := .int) dX7_lineNow_46 rfl rfl ⟨⟨_, rfl, ⟨by first | trivial | lia | grind, Or.inr ⟨by decide, by decide, Or.inl ⟨2, by decide, rfl, W2.mpr (by grind), rfl⟩⟩⟩⟩, rfl⟩
  · have zc5 := nx4 c5
    refine g_iconst (v := 0) dX7_lineNow_14 (by decide) ?_
    exact g_iret (ty := .int) dX7_lineNow_15 rfl rfl ⟨⟨_, rfl, ⟨by first | trivial | lia | grind, Or.inr ⟨by decide, by decide, Or.inl ⟨1, by decide, rfl, W1.mpr (by grind), rfl⟩⟩⟩⟩, rfl⟩