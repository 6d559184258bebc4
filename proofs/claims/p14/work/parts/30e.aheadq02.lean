/-- nothing of a line is taken where its next token can't be read -/
theorem pT_4 {f : Nat → Int32} {n w m : Int32} {b : PS} (hb : b.1 = 0) (h4 : (tk f n b.2.2.2.2).2.1 = 4) : pTake f n b w m = (pBad b 1 (tk f n b.2.2.2.2).1, 0) := by
  unfold pTake
  rw [if_neg (fun z => z hb), if_pos h4]
theorem pT_F {f : Nat → Int32} {n w m : Int32} {b : PS} (hb : ¬ b.1 = 0) : pTake f n b w m = (b, 0) := if_pos hb
theorem pB_1 {b : PS} {k s : Int32} (hk : ¬ k = 0) : ¬ (pBad b k s).1 = 0 := hk
theorem pRaw_4 {f : Nat → Int32} {n : Int32} {b : PS} (hb : b.1 = 0) (h4 : (tk f n b.2.2.2.2).2.1 = 4) : pRaw f n b = pBad b 1 (tk f n b.2.2.2.2).1 := by
  have h1 : ¬ (pBad b 1 (tk f n b.2.2.2.2).1).1 = 0 := pB_1 (by decide)
  unfold pRaw
  rw [pT_4 hb h4, pT_F h1, pT_F h1]
  exact if_neg h1
theorem pMade_4 {f : Nat → Int32} {n : Int32} {b : PS} (hb : b.1 = 0) (h4 : (tk f n b.2.2.2.2).2.1 = 4) : pMade f n b = pBad b 1 (tk f n b.2.2.2.2).1 := by
  have h1 : ¬ (pBad b 1 (tk f n b.2.2.2.2).1).1 = 0 := pB_1 (by decide)
  unfold pMade
  rw [pT_4 hb h4, pT_F h1, pT_F h1, pT_F h1]
  exact if_neg h1
theorem pHave_4 {f : Nat → Int32} {n : Int32} {b : PS} (hb : b.1 = 0) (h4 : (tk f n b.2.2.2.2).2.1 = 4) : pHave f n b = pBad b 1 (tk f n b.2.2.2.2).1 := by
  have h1 : ¬ (pBad b 1 (tk f n b.2.2.2.2).1).1 = 0 := pB_1 (by decide)
  unfold pHave
  rw [pT_4 hb h4]
  have e : pTwice (pBad b 1 (tk f n b.2.2.2.2).1, (0 : Int32)).1 (pBad b 1 (tk f n b.2.2.2.2).1, (0 : Int32)).2 (tk f n b.2.2.2.2).1 = pBad b 1 (tk f n b.2.2.2.2).1 := if_neg (fun z => h1 z.1)
  rw [e, pT_F h1, pT_F h1]
  exact if_neg h1
noncomputable def rsf (f : Nat → Int32) (n : Int32) (a : PS) (k m : Int32) : PS := if k = 4 then (pTake f n (pTake f n a 2 9).1 2 9).1 else (pTake f n (pTake f n (pTake f n a 2 (m - 1)).1 2 (m - 1)).1 2 9).1
/-- told twice -/
def twd (tb m : Int32) (u u' : uk_Mem) : Prop := (¬ u.1 60 18 = 0 ∧ u'.1 60 18 = u.1 60 18 ∧ u'.1 60 19 = u.1 60 19) ∨ (u.1 60 18 = 0 ∧ (tb >>> m) &&& 1 = 1 ∧ u'.1 60 18 = 4 ∧ u'.1 60 19 = u.1 60 15) ∨ (u.1 60 18 = 0 ∧ ¬ (tb >>> m) &&& 1 = 1 ∧ u'.1 60 18 = 0)
theorem Sr_twice {f : Nat → Int32} {n x : Int32} {u u1 u2 u3 : uk_Mem} {a : PS} (hn : n ≤ 160) (hc : Sr f n u a) (hl : lkd 0 7 u u1 x) (hw : twd a.2.2.1 x u1 u2) (hx : nxd u2 u3) (e14 : u1.1 60 14 = u.1 60 14) (e15 : u1.1 60 15 = u.1 60 15) (e13 : u1.1 60 13 = u.1 60 13) (e69 : u1.1 69 = u.1 69) (f14 : u2.1 60 14 = u1.1 60 14) (f13 : u2.1 60 13 = u1.1 60 13) (f69 : u2.1 69 = u1.1 69) (g13 : u3.1 60 13 = u2.1 60 13) (g69 : u3.1 69 = u2.1 69) : Sr f n u3 (pTwice (pTake f n a 2 7).1 (pTake f n a 2 7).2 (tk f n a.2.2.2.2).1) ∧ x = (pTake f n a 2 7).2 := by
  obtain ⟨c1, c2, c3⟩ := hc
  have d1 : cpy (u3.1 69) f n := by rw [g69, f69, e69]; exact c1
  have d2 : u3.1 60 13 = n := (g13.trans (f13.trans e13)).trans c2
  have stay : ∀ (b : PS) (y s' : Int32), ¬ b.1 = 0 → u1.1 60 18 = b.1 → u1.1 60 19 = b.2.1 → Sr f n u3 (pTwice b y s') := by
    intro b y s' hb h1 h2
    have e : pTwice b y s' = b := if_neg (fun z => hb z.1)
    rw [e]
    have hF : ¬ u1.1 60 18 = 0 := fun z => hb (h1.symm.trans z)
    rcases hw with ⟨w1, w2, w3⟩ | ⟨w1, w2⟩ | ⟨w1, w2⟩
    · have hs := hx.2 (fun z => hF (w2.symm.trans z))
      exact ⟨d1, d2, Or.inl ⟨hb, hs.1.trans (w2.trans h1), hs.2.trans (w3.trans h2)⟩⟩
    · exact absurd w1 hF
    · exact absurd w1 hF
  rcases c3 with ⟨b1, b2, b3⟩ | ⟨b1, b2, b3⟩
  · have hF : ¬ u.1 60 18 = 0 := fun z => b1 (b2.symm.trans z)
    have e : pTake f n a 2 7 = (a, 0) := if_pos b1
    rw [e]
    rcases hl with ⟨l1, l2, l3, l4⟩ | ⟨l1, l2⟩ | ⟨l1, l2⟩ | ⟨l1, l2⟩
    · exact ⟨stay a 0 _ b1 (l2.trans b2) (l3.trans b3), l4⟩
    · exact absurd l1 hF
    · exact absurd l1 hF
    · exact absurd l1 hF
  · obtain ⟨s, t, v, q, ht, hh⟩ := b3
    obtain ⟨k1, k2, k3, k4⟩ := tk_eq hn b2.1 ht
    have p0 : pTake f n a 2 7 = if t = 4 then (pBad a 1 s, 0) else if ¬ t = 2 then (pBad a 2 s, 0) else if 7 < (tk f n a.2.2.2.2).2.2.1 then (pBad a 3 s, 0) else ((0, a.2.1, a.2.2.1, a.2.2.2.1, (tk f n a.2.2.2.2).2.2.2), (tk f n a.2.2.2.2).2.2.1) := by
      unfold pTake
      rw [if_neg (fun z => z b1), k1, k2]
    have bad : ∀ k : Int32, ¬ k = 0 → pTake f n a 2 7 = (pBad a k s, 0) → u1.1 60 18 = k → u1.1 60 19 = s → x = 0 → Sr f n u3 (pTwice (pTake f n a 2 7).1 (pTake f n a 2 7).2 (tk f n a.2.2.2.2).1) ∧ x = (pTake f n a 2 7).2 := by
      intro k hk e f1 f2 hx0
      rw [e]
      exact ⟨stay _ _ _ (pB_1 hk) f1 f2, hx0⟩
    rcases hh with ⟨g1, g2, g3⟩ | ⟨g1, g2, g3, g4, g5, g6⟩
    · rcases hl with ⟨l1, l2, l3, l4⟩ | ⟨l1, l2⟩ | ⟨l1, l2⟩ | ⟨l1, l2⟩
      · exact bad 1 (by decide) (by rw [p0, if_pos g1]) (l2.trans g2) (l3.trans g3) l4
      · exact absurd (l1.symm.trans g2) (by decide)
      · exact absurd (l1.symm.trans g2) (by decide)
      · exact absurd (l1.symm.trans g2) (by decide)
    · rcases hl with ⟨l1, l2, l3, l4⟩ | ⟨l1, l2, l3, l4, l5⟩ | ⟨l1, l2, l3, l4, l5, l6⟩ | ⟨l1, l2, l3, l4, l5, l6⟩
      · exact absurd g2 l1
      · have t2 : ¬ t = 2 := fun z => l2 (g4.trans z)
        exact bad 2 (by decide) (by rw [p0, if_neg g1, if_pos t2]) l3 (l4.trans g3) l5
      · have t2 : t = 2 := g4.symm.trans l2
        have hv := TK_v hn b2.1 ht t2
        rw [g5 t2] at l3
        have l3' : 7 < v := l3.resolve_left (by grind)
        exact bad 3 (by decide) (by rw [p0, if_neg g1, if_neg (fun z => z t2), k4 (Or.inl t2), if_pos l3']) l4 (l5.trans g3) l6
      · have t2 : t = 2 := g4.symm.trans l2
        have hle := TK_le hn b2.1 ht
        rw [g5 t2] at l3 l4 l6
        have e : pTake f n a 2 7 = ((0, a.2.1, a.2.2.1, a.2.2.2.1, q), v) := by
          rw [p0, if_neg g1, if_neg (fun z => z t2), k4 (Or.inl t2), k3 g1, if_neg (by grind)]
        rw [e, k1]
        refine ⟨?_, l6⟩
        rw [l6] at hw
        rcases hw with ⟨w1, w2⟩ | ⟨w1, w2, w3, w4⟩ | ⟨w1, w2, w3⟩
        · exact absurd l5 w1
        · have e2 : pTwice ((0, a.2.1, a.2.2.1, a.2.2.2.1, q), v).1 ((0, a.2.1, a.2.2.1, a.2.2.2.1, q), v).2 s = pBad (0, a.2.1, a.2.2.1, a.2.2.2.1, q) 4 s := if_pos ⟨rfl, w2⟩
          have hs := hx.2 (fun z => absurd (w3.symm.trans z) (by decide))
          rw [e2]
          exact ⟨d1, d2, Or.inl ⟨pB_1 (by decide), hs.1.trans w3, hs.2.trans (w4.trans (e15.trans g3))⟩⟩
        · have e2 : pTwice ((0, a.2.1, a.2.2.1, a.2.2.2.1, q), v).1 ((0, a.2.1, a.2.2.1, a.2.2.2.1, q), v).2 s = (0, a.2.1, a.2.2.1, a.2.2.2.1, q) := if_neg (fun z => w2 z.2)
          have ha := hx.1 w3
          rw [f69, e69, f13, e13, f14, e14, c2, g6] at ha
          rw [e2]
          exact ⟨d1, d2, Or.inr ⟨rfl, (show 0 ≤ q ∧ q ≤ n from ⟨by grind, TK_qn hn b2.1 b2.2 ht g1⟩), ah_cg c1 (by grind) hn ha⟩⟩
