/-! the reference's reader: one token ahead -/
def ah (f : Nat → Int32) (n p : Int32) (u : uk_Mem) : Prop := ∃ s t v q, TK f n p s t v q ∧ ((t = 4 ∧ u.1 60 18 = 1 ∧ u.1 60 19 = s) ∨ (¬ t = 4 ∧ u.1 60 18 = 0 ∧ u.1 60 15 = s ∧ u.1 60 16 = t ∧ (t = 2 → u.1 60 17 = v) ∧ u.1 60 14 = q))
theorem ah_G {f : Nat → Int32} {n p s t v q : Int32} {u : uk_Mem} (h : TK f n p s t v q) (h4 : ¬ t = 4) (e18 : u.1 60 18 = 0) (e15 : u.1 60 15 = s) (e16 : u.1 60 16 = t) (e17 : t = 2 → u.1 60 17 = v) (e14 : u.1 60 14 = q) : ah f n p u := ⟨s, t, v, q, h, Or.inr ⟨h4, e18, e15, e16, e17, e14⟩⟩
theorem ah_D {f : Nat → Int32} {n p s v q : Int32} {u : uk_Mem} (hj : TJ f n p s 2 v q) (EX : ¬ (q < n ∧ tf (f q.toNatClampNeg) 2)) (h : (q ≤ s + 2 ∧ u.1 60 18 = 0) ∨ (s + 2 < q ∧ u.1 60 18 = 1 ∧ u.1 60 19 = s)) (e15 : u.1 60 15 = s) (e16 : u.1 60 16 = 2) (e17 : u.1 60 17 = v) (e14 : u.1 60 14 = q) : ah f n p u := by
  rcases h with ⟨h1, h2⟩ | ⟨h1, h2, h3⟩
  · exact ah_G (TJ_e (t' := 2) hj EX (fun _ _ => rfl) (fun _ z => absurd h1 (by grind)) (fun z => absurd rfl z)) (by decide) h2 e15 e16 (fun _ => e17) e14
  · exact ⟨s, 4, v, q, TJ_e (t' := 4) hj EX (fun _ z => absurd h1 (by grind)) (fun _ _ => rfl) (fun z => absurd rfl z), Or.inl ⟨rfl, h2, h3⟩⟩
theorem ah_S {f : Nat → Int32} {n p s : Int32} {u : uk_Mem} (RN : rn e32 f n p s) (NN : ¬ (s < n ∧ e32 (f s.toNatClampNeg))) (hs : s < n) (h1 : ¬ nam (f s.toNatClampNeg)) (h2 : ¬ dig (f s.toNatClampNeg)) (h : (f s.toNatClampNeg = 59 ∧ u.1 60 18 = 0) ∨ (¬ f s.toNatClampNeg = 59 ∧ u.1 60 18 = 1 ∧ u.1 60 19 = s)) (e15 : u.1 60 15 = s) (e16 : u.1 60 16 = 3) (e14 : u.1 60 14 = s + 1) : ah f n p u := by
  rcases h with ⟨g1, g2⟩ | ⟨g1, g2, g3⟩
  · exact ah_G (TK_3 (t := 3) (v := 0) RN NN hs (Or.inr (Or.inr (Or.inl ⟨g1, rfl⟩))) (Or.inl rfl) rfl rfl) (by decide) g2 e15 e16 (fun z => absurd z (by decide)) e14
  · exact ⟨s, 4, 0, s + 1, TK_3 RN NN hs (Or.inr (Or.inr (Or.inr ⟨h1, h2, g1, rfl⟩))) (Or.inr rfl) rfl rfl, Or.inl ⟨rfl, g2, g3⟩⟩
theorem TK_qn {f : Nat → Int32} {n p s t v q : Int32} (hn : n ≤ 160) (h0 : 0 ≤ p) (hp : p ≤ n) (h : TK f n p s t v q) (h4 : ¬ t = 4) : q ≤ n := by
  obtain ⟨h1, h2, h3⟩ := h
  have s0 := h1.1
  have rq : ∀ (P : Int32 → Prop) (r w : Int32), 0 ≤ r → r ≤ n → rn P f n r w → w ≤ n := fun P r w r0 r1 hr => by
    by_cases z : r < w
    · have := (hr.2 (w - 1) (by lia) (by lia)).1
      lia
    · have := hr.1
      lia
  have sn := rq e32 p s h0 hp h1
  rcases h3 with ⟨a, b, rfl⟩ | ⟨a, b, c, d, e⟩ | ⟨a, b, c, d, e⟩ | ⟨a, b, c, d, rfl⟩ | ⟨a, b, c, d, e, rfl⟩
  · exact sn
  · exact rq nam s q (by lia) sn d
  · exact rq dig s q (by lia) sn c
  · lia
  · exact absurd e h4
/-- the reference's reader is at a: its token is read already -/
def Sr (f : Nat → Int32) (n : Int32) (u : uk_Mem) (a : PS) : Prop := cpy (u.1 69) f n ∧ u.1 60 13 = n ∧ ((¬ a.1 = 0 ∧ u.1 60 18 = a.1 ∧ u.1 60 19 = a.2.1) ∨ (a.1 = 0 ∧ (0 ≤ a.2.2.2.2 ∧ a.2.2.2.2 ≤ n) ∧ ah f n a.2.2.2.2 u))
theorem ah_cg {f g : Nat → Int32} {n p : Int32} {u : uk_Mem} (h : cpy f g n) (h0 : 0 ≤ p) (hn : n ≤ 160) (ha : ah f n p u) : ah g n p u := by
  obtain ⟨s, t, v, q, h1, h2⟩ := ha
  exact ⟨s, t, v, q, TK_cg h h0 hn h1, h2⟩
/-- what looked does -/
def lkd (lo hi : Int32) (u u' : uk_Mem) (x : Int32) : Prop :=
  (¬ u.1 60 18 = 0 ∧ u'.1 60 18 = u.1 60 18 ∧ u'.1 60 19 = u.1 60 19 ∧ x = 0) ∨
  (u.1 60 18 = 0 ∧ ¬ u.1 60 16 = 2 ∧ u'.1 60 18 = 2 ∧ u'.1 60 19 = u.1 60 15 ∧ x = 0) ∨
  (u.1 60 18 = 0 ∧ u.1 60 16 = 2 ∧ (u.1 60 17 < lo ∨ hi < u.1 60 17) ∧ u'.1 60 18 = 3 ∧ u'.1 60 19 = u.1 60 15 ∧ x = 0) ∨
  (u.1 60 18 = 0 ∧ u.1 60 16 = 2 ∧ lo ≤ u.1 60 17 ∧ u.1 60 17 ≤ hi ∧ u'.1 60 18 = 0 ∧ x = u.1 60 17)
/-- what next does -/
def nxd (u u' : uk_Mem) : Prop := (u.1 60 18 = 0 → ah (u.1 69) (u.1 60 13) (u.1 60 14) u') ∧ (¬ u.1 60 18 = 0 → u'.1 60 18 = u.1 60 18 ∧ u'.1 60 19 = u.1 60 19)
theorem Sr_num {f : Nat → Int32} {n hi x : Int32} {u u1 u2 : uk_Mem} {a : PS} (hn : n ≤ 160) (hc : Sr f n u a) (hl : lkd 0 hi u u1 x) (hx : nxd u1 u2) (e14 : u1.1 60 14 = u.1 60 14) (e13 : u1.1 60 13 = u.1 60 13) (e69 : u1.1 69 = u.1 69) (g13 : u2.1 60 13 = u1.1 60 13) (g69 : u2.1 69 = u1.1 69) : Sr f n u2 (pTake f n a 2 hi).1 ∧ x = (pTake f n a 2 hi).2 := by
  obtain ⟨c1, c2, c3⟩ := hc
  have d1 : cpy (u2.1 69) f n := by rw [g69, e69]; exact c1
  have d2 : u2.1 60 13 = n := (g13.trans e13).trans c2
  rcases c3 with ⟨b1, b2, b3⟩ | ⟨b1, b2, b3⟩
  · have hF : ¬ u.1 60 18 = 0 := fun z => b1 (b2.symm.trans z)
    have e : pTake f n a 2 hi = (a, 0) := if_pos b1
    rw [e]
    rcases hl with ⟨l1, l2, l3, l4⟩ | ⟨l1, l2⟩ | ⟨l1, l2⟩ | ⟨l1, l2⟩
    · have hs := hx.2 (fun z => hF (l2.symm.trans z))
      exact ⟨⟨d1, d2, Or.inl ⟨b1, hs.1.trans (l2.trans b2), hs.2.trans (l3.trans b3)⟩⟩, l4⟩
    · exact absurd l1 hF
    · exact absurd l1 hF
    · exact absurd l1 hF
  · obtain ⟨s, t, v, q, ht, hh⟩ := b3
    obtain ⟨k1, k2, k3, k4⟩ := tk_eq hn b2.1 ht
    have bad : ∀ k : Int32, ¬ k = 0 → pTake f n a 2 hi = (pBad a k s, 0) → u1.1 60 18 = k → u1.1 60 19 = s → x = 0 → Sr f n u2 (pTake f n a 2 hi).1 ∧ x = (pTake f n a 2 hi).2 := by
      intro k hk e f1 f2 hx0
      have hs := hx.2 (fun z => hk (f1.symm.trans z))
      rw [e]
      exact ⟨⟨d1, d2, Or.inl ⟨hk, hs.1.trans f1, hs.2.trans f2⟩⟩, hx0⟩
    have p0 : pTake f n a 2 hi = if t = 4 then (pBad a 1 s, 0) else if ¬ t = 2 then (pBad a 2 s, 0) else if hi < (tk f n a.2.2.2.2).2.2.1 then (pBad a 3 s, 0) else ((0, a.2.1, a.2.2.1, a.2.2.2.1, (tk f n a.2.2.2.2).2.2.2), (tk f n a.2.2.2.2).2.2.1) := by
      unfold pTake
      rw [if_neg (fun z => z b1), k1, k2]
    rcases hh with ⟨g1, g2, g3⟩ | ⟨g1, g2, g3, g4, g5, g6⟩
    · rcases hl with ⟨l1, l2, l3, l4⟩ | ⟨l1, l2⟩ | ⟨l1, l2⟩ | ⟨l1, l2⟩
      · exact bad 1 (by decide) (by rw [p0, if_pos g1]) (l2.trans g2) (l3.trans g3) l4
      · exact absurd (l1.symm.trans g2) (by decide)
      · exact absurd (l1.symm.trans g2) (by decide)
      · exact absurd (l1.symm.trans g2) (by decide)
    · rcases hl with ⟨l1, l2, l3, l4⟩ | ⟨l1, l2, l3, l4, l5⟩ | ⟨l1, l2, l3, l4, l5, l6⟩ | ⟨l1, l2, l3, l4, l5, l6⟩
      · exact absurd g2 l1
      · have t2 : ¬ t = 2 := fun z => l2 (g4.trans z)
        exact bad 2 (by decide) (by rw [p0, if_neg g1, if_pos t2]) l3 (l4.trans g3) l5
      · have t2 : t = 2 := g4.symm.trans l2
        have hv := TK_v hn b2.1 ht t2
        rw [g5 t2] at l3
        have l3' : hi < v := l3.resolve_left (by grind)
        exact bad 3 (by decide) (by rw [p0, if_neg g1, if_neg (fun z => z t2), k4 (Or.inl t2), if_pos l3']) l4 (l5.trans g3) l6
      · have t2 : t = 2 := g4.symm.trans l2
        have hv := TK_v hn b2.1 ht t2
        have hle := TK_le hn b2.1 ht
        rw [g5 t2] at l3 l4 l6
        have e : pTake f n a 2 hi = ((0, a.2.1, a.2.2.1, a.2.2.2.1, q), v) := by
          rw [p0, if_neg g1, if_neg (fun z => z t2), k4 (Or.inl t2), k3 g1, if_neg (by grind)]
        have ha := hx.1 l5
        rw [e69, e13, e14, c2, g6] at ha
        rw [e]
        exact ⟨⟨d1, d2, Or.inr ⟨rfl, (show 0 ≤ q ∧ q ≤ n from ⟨by grind, TK_qn hn b2.1 b2.2 ht g1⟩), ah_cg c1 (by grind) hn ha⟩⟩, l6⟩
