theorem Sr_add {f : Nat → Int32} {n : Int32} {u : uk_Mem} {a : PS} (h : Sr f n u a) : Sr f n u (pAdd a) := by
  unfold pAdd
  split
  · exact Sr_like h rfl rfl rfl
  · exact h
theorem Sr_tell {f : Nat → Int32} {n m : Int32} {u : uk_Mem} {a : PS} (h : Sr f n u a) : Sr f n u (pTell a m) := by
  unfold pTell
  split
  · exact Sr_like h rfl rfl rfl
  · exact h
/-- a fault, and next does nothing -/
theorem Sr_bad {f : Nat → Int32} {n k s : Int32} {u u2 u3 : uk_Mem} {a : PS} (h : Sr f n u a) (hk : ¬ k = 0) (h18 : u2.1 60 18 = k) (h19 : u2.1 60 19 = s) (hx : nxd u2 u3) (e13 : u3.1 60 13 = u.1 60 13) (e69 : u3.1 69 = u.1 69) : Sr f n u3 (pBad a k s) := by
  have hs := hx.2 (fun z => hk (h18.symm.trans z))
  exact ⟨by rw [e69]; exact h.1, e13.trans h.2.1, Or.inl ⟨pB_1 hk, hs.1.trans h18, hs.2.trans h19⟩⟩
/-- the token is passed: the next is read -/
theorem Sr_next {f : Nat → Int32} {n v : Int32} {u u2 u3 : uk_Mem} {a : PS} (hn : n ≤ 160) (h : Sr f n u a) (h0 : 0 ≤ a.2.2.2.2) (hpn : a.2.2.2.2 ≤ n) (ht : TK f n a.2.2.2.2 (u.1 60 15) (u.1 60 16) v (u.1 60 14)) (h4 : ¬ u.1 60 16 = 4) (h18 : u2.1 60 18 = 0) (hx : nxd u2 u3) (f13 : u2.1 60 13 = u.1 60 13) (f14 : u2.1 60 14 = u.1 60 14) (f69 : u2.1 69 = u.1 69) (e13 : u3.1 60 13 = u.1 60 13) (e69 : u3.1 69 = u.1 69) : Sr f n u3 (0, a.2.1, a.2.2.1, a.2.2.2.1, (tk f n a.2.2.2.2).2.2.2) := by
  have hk := tk_eq hn h0 ht
  have ha := hx.1 h18
  have hle := TK_le hn h0 ht
  rw [f69, f13, f14, h.2.1] at ha
  refine ⟨by rw [e69]; exact h.1, e13.trans h.2.1, Or.inr ⟨rfl, ?_, ?_⟩⟩
  · show 0 ≤ (tk f n a.2.2.2.2).2.2.2 ∧ (tk f n a.2.2.2.2).2.2.2 ≤ n
    rw [hk.2.2.1 h4]
    exact ⟨by grind, TK_qn hn h0 hpn ht h4⟩
  · show ah f n (tk f n a.2.2.2.2).2.2.2 u3
    rw [hk.2.2.1 h4]
    exact ah_cg h.1 (by grind) hn ha
/-- the next can't be read -/
theorem Sr_4 {f : Nat → Int32} {n : Int32} {u : uk_Mem} {b : PS} (hn : n ≤ 160) (h : Sr f n u b) (hb : b.1 = 0) (h18 : ¬ u.1 60 18 = 0) : (tk f n b.2.2.2.2).2.1 = 4 ∧ Sr f n u (pBad b 1 (tk f n b.2.2.2.2).1) := by
  obtain ⟨c1, c2, c3⟩ := h
  rcases c3 with ⟨b1, -⟩ | ⟨b1, b2, s, t, v, q, ht, hh⟩
  · exact absurd hb b1
  · have hk := tk_eq hn b2.1 ht
    rcases hh with ⟨g1, g2, g3⟩ | ⟨g1, g2, -⟩
    · exact ⟨hk.2.1.trans g1, c1, c2, Or.inl ⟨pB_1 (by decide), g2, g3.trans hk.1.symm⟩⟩
    · exact absurd g2 h18
/-- the reference's line, as the pure one has it -/
def PLK (f : Nat → Int32) (t s q k : Int32) : Prop := (k = -4 ∧ pl f t s q = -1) ∨ (¬ k = -4 ∧ ¬ k = -1 ∧ pl f t s q = k)
theorem PLK_1 {f g : Nat → Int32} {n t s q k : Int32} (h : cpy g f n) (hq : t = 1 → 0 ≤ s ∧ q ≤ n ∧ n ≤ 160 ∧ s ≤ n) (ht : t = 1) (hl : lnr g s q k) : PLK f t s q k := by
  subst ht
  rcases hl with ⟨h1, h2⟩ | ⟨h1, h2, h3⟩
  · exact Or.inl ⟨h1, pl_eq (ln_cg h hq h2)⟩
  · exact Or.inr ⟨h1, h2, pl_eq (ln_cg h hq h3)⟩
theorem PLK_n {f : Nat → Int32} {t s q : Int32} (ht : ¬ t = 1) : PLK f t s q (-4) := Or.inl ⟨rfl, pl_eq (Or.inr ⟨fun j hj z => ht z.1, rfl⟩)⟩
section PLN
variable {f : Nat → Int32} {n k : Int32} {a : PS}
theorem pLine_2 (h4 : ¬ (tk f n a.2.2.2.2).2.1 = 4) (hp : pl f (tk f n a.2.2.2.2).2.1 (tk f n a.2.2.2.2).1 (tk f n a.2.2.2.2).2.2.2 = -1) : pLine f n a = pBad a 2 (tk f n a.2.2.2.2).1 := by
  unfold pLine
  rw [if_neg h4, if_pos hp]
theorem pLine_5 (h4 : ¬ (tk f n a.2.2.2.2).2.1 = 4) (hp : pl f (tk f n a.2.2.2.2).2.1 (tk f n a.2.2.2.2).1 (tk f n a.2.2.2.2).2.2.2 = k) (h1 : ¬ k = -1) (h5 : ¬ k = 5) (h8 : ¬ a.2.2.2.1 < 8) : pLine f n a = pBad a 5 (tk f n a.2.2.2.2).1 := by
  unfold pLine
  rw [if_neg h4, hp, if_neg h1, if_neg h5, if_pos h8]
theorem pLine_H (h4 : ¬ (tk f n a.2.2.2.2).2.1 = 4) (hp : pl f (tk f n a.2.2.2.2).2.1 (tk f n a.2.2.2.2).1 (tk f n a.2.2.2.2).2.2.2 = k) (h5 : k = 5) : pLine f n a = pHave f n (0, a.2.1, a.2.2.1, a.2.2.2.1, (tk f n a.2.2.2.2).2.2.2) := by
  unfold pLine
  rw [if_neg h4, hp, if_neg (by rw [h5]; decide), if_pos h5]
theorem pLine_R (h4 : ¬ (tk f n a.2.2.2.2).2.1 = 4) (hp : pl f (tk f n a.2.2.2.2).2.1 (tk f n a.2.2.2.2).1 (tk f n a.2.2.2.2).2.2.2 = k) (h5 : k = 4) (h8 : a.2.2.2.1 < 8) : pLine f n a = pRaw f n (0, a.2.1, a.2.2.1, a.2.2.2.1, (tk f n a.2.2.2.2).2.2.2) := by
  unfold pLine
  rw [if_neg h4, hp, if_neg (by rw [h5]; decide), if_neg (by rw [h5]; decide), if_neg (fun z => z h8), if_pos h5]
theorem pLine_M (h4 : ¬ (tk f n a.2.2.2.2).2.1 = 4) (hp : pl f (tk f n a.2.2.2.2).2.1 (tk f n a.2.2.2.2).1 (tk f n a.2.2.2.2).2.2.2 = k) (h1 : ¬ k = -1) (h5 : ¬ k = 5) (h9 : ¬ k = 4) (h8 : a.2.2.2.1 < 8) : pLine f n a = pMade f n (0, a.2.1, a.2.2.1, a.2.2.2.1, (tk f n a.2.2.2.2).2.2.2) := by
  unfold pLine
  rw [if_neg h4, hp, if_neg h1, if_neg h5, if_neg (fun z => z h8), if_neg h9]
theorem pLine_e (h4 : ¬ (tk f n a.2.2.2.2).2.1 = 4) (hp : pl f (tk f n a.2.2.2.2).2.1 (tk f n a.2.2.2.2).1 (tk f n a.2.2.2.2).2.2.2 = k) (h1 : ¬ k = -1) (h8 : k = 5 ∨ a.2.2.2.1 < 8) (hb : (tk f n (tk f n a.2.2.2.2).2.2.2).2.1 = 4) : pLine f n a = pBad (0, a.2.1, a.2.2.1, a.2.2.2.1, (tk f n a.2.2.2.2).2.2.2) 1 (tk f n (tk f n a.2.2.2.2).2.2.2).1 := by
  by_cases h5 : k = 5
  · rw [pLine_H h4 hp h5]
    exact pHave_4 rfl hb
  · have h8 := h8.resolve_left h5
    by_cases h9 : k = 4
    · rw [pLine_R h4 hp h9 h8]
      exact pRaw_4 rfl hb
    · rw [pLine_M h4 hp h1 h5 h9 h8]
      exact pMade_4 rfl hb
/-- the line's stuff is through: raw or made -/
theorem rsf_R {b : PS} {m : Int32} (hk : k = 4) : pAdd (pTake f n (rsf f n b k m) 3 0).1 = pRaw f n b := by
  unfold rsf pRaw
  rw [if_pos hk]
theorem rsf_M {b : PS} {m : Int32} (hk : ¬ k = 4) (hm : m = b.2.2.2.1) : pAdd (pTake f n (rsf f n b k m) 3 0).1 = pMade f n b := by
  unfold rsf pMade
  rw [if_neg hk, hm, pTake_told.2]
/-- what a line leaves, when nothing was wrong -/
theorem rsf_told {b : PS} {m : Int32} (h0 : (pTake f n (rsf f n b k m) 3 0).1.1 = 0) : (pAdd (pTake f n (rsf f n b k m) 3 0).1).2.2.1 = b.2.2.1 ∧ (pAdd (pTake f n (rsf f n b k m) 3 0).1).2.2.2.1 = b.2.2.2.1 + 1 := by
  have e : (rsf f n b k m).2.2.1 = b.2.2.1 ∧ (rsf f n b k m).2.2.2.1 = b.2.2.2.1 := by
    unfold rsf
    split
    · exact ⟨pTake_told.1.trans pTake_told.1, pTake_told.2.trans pTake_told.2⟩
    · exact ⟨pTake_told.1.trans (pTake_told.1.trans pTake_told.1), pTake_told.2.trans (pTake_told.2.trans pTake_told.2)⟩
  unfold pAdd
  rw [if_pos h0]
  refine ⟨pTake_told.1.trans e.1, ?_⟩
  show (pTake f n (rsf f n b k m) 3 0).1.2.2.2.1 + 1 = _
  rw [pTake_told.2, e.2]
theorem have_told {b : PS} (h0 : (pTake f n (pTake f n (pTwice (pTake f n b 2 7).1 (pTake f n b 2 7).2 (tk f n b.2.2.2.2).1) 2 40).1 3 0).1.1 = 0) : (pHave f n b).2.2.1 = b.2.2.1 ||| ((1 : Int32) <<< (pTake f n b 2 7).2) ∧ (pHave f n b).2.2.2.1 = b.2.2.2.1 := by
  unfold pHave pTell
  rw [if_pos h0]
  constructor
  · show (pTake f n (pTake f n (pTwice (pTake f n b 2 7).1 (pTake f n b 2 7).2 (tk f n b.2.2.2.2).1) 2 40).1 3 0).1.2.2.1 ||| _ = _
    rw [pTake_told.1, pTake_told.1, pTwice_told.1, pTake_told.1]
  · show (pTake f n (pTake f n (pTwice (pTake f n b 2 7).1 (pTake f n b 2 7).2 (tk f n b.2.2.2.2).1) 2 40).1 3 0).1.2.2.2.1 = _
    rw [pTake_told.2, pTake_told.2, pTwice_told.2, pTake_told.2]
end PLN
