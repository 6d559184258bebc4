def pAdd (b : PS) : PS := if b.1 = 0 then (b.1, b.2.1, b.2.2.1, b.2.2.2.1 + 1, b.2.2.2.2) else b
theorem add_F {f : Nat → Int32} {n : Int32} {u : uk_Mem} {b : PS} (hc : Sc f n u b) (h : ¬ u.1 1 2 = 0) : Sc f n u (pAdd b) := by
  have h1 : ¬ b.1 = 0 := fun z => h (hc.2.2.1.trans z)
  unfold pAdd
  rw [if_neg h1]
  exact hc
theorem add_G {f : Nat → Int32} {n : Int32} {u u' : uk_Mem} {b : PS} (hc : Sc f n u b) (h : u.1 1 2 = 0) (e1 : u'.1 1 = u.1 1) (e2 : u'.1 2 = u.1 2) (e3 : u'.1 3 = u.1 3) (e4 : u'.1 4 0 = u.1 4 0 + 1) : Sc f n u' (pAdd b) := by
  obtain ⟨c1, c2, c3, c4, c5, c6⟩ := hc
  have h1 : b.1 = 0 := c3.symm.trans h
  unfold pAdd
  rw [if_pos h1]
  refine ⟨(by rw [e3]; exact c1), (congrFun e2 1).trans c2, (congrFun e1 2).trans c3, fun z => absurd h1 z, fun _ => ⟨(congrFun e2 2).trans (c5 h1).1, (congrFun e1 4).trans (c5 h1).2⟩, ?_⟩
  rw [e4, c6]
noncomputable def pRaw (f : Nat → Int32) (n : Int32) (a : PS) : PS := pAdd (pTake f n (pTake f n (pTake f n a 2 9).1 2 9).1 3 0).1
noncomputable def pMade (f : Nat → Int32) (n : Int32) (a : PS) : PS := pAdd (pTake f n (pTake f n (pTake f n (pTake f n a 2 (a.2.2.2.1 - 1)).1 2 ((pTake f n a 2 (a.2.2.2.1 - 1)).1.2.2.2.1 - 1)).1 2 9).1 3 0).1
def pTwice (b : PS) (m s : Int32) : PS := if b.1 = 0 ∧ (b.2.2.1 >>> m) &&& 1 = 1 then pBad b 4 s else b
def pTell (b : PS) (m : Int32) : PS := if b.1 = 0 then (b.1, b.2.1, b.2.2.1 ||| ((1 : Int32) <<< m), b.2.2.2.1, b.2.2.2.2) else b
noncomputable def pHave (f : Nat → Int32) (n : Int32) (a : PS) : PS := pTell (pTake f n (pTake f n (pTwice (pTake f n a 2 7).1 (pTake f n a 2 7).2 (tk f n a.2.2.2.2).1) 2 40).1 3 0).1 (pTake f n a 2 7).2
theorem twice_F {f : Nat → Int32} {n m s : Int32} {u : uk_Mem} {b : PS} (hc : Sc f n u b) (h : ¬ (u.1 1 2 = 0 ∧ (u.1 1 4 >>> m) &&& 1 = 1)) : Sc f n u (pTwice b m s) := by
  unfold pTwice
  rw [if_neg (fun z => h ⟨hc.2.2.1.trans z.1, by rw [(hc.2.2.2.2.1 z.1).2]; exact z.2⟩)]
  exact hc
theorem twice_B {f : Nat → Int32} {n m s : Int32} {u u' : uk_Mem} {b : PS} (hc : Sc f n u b) (h : u.1 1 2 = 0) (h2 : (u.1 1 4 >>> m) &&& 1 = 1) (e3 : u'.1 3 = u.1 3) (e21 : u'.1 2 1 = u.1 2 1) (e12 : u'.1 1 2 = 4) (e13 : u'.1 1 3 = s) (e4 : u'.1 4 0 = u.1 4 0) : Sc f n u' (pTwice b m s) := by
  obtain ⟨c1, c2, c3, c4, c5, c6⟩ := hc
  have h1 : b.1 = 0 := c3.symm.trans h
  unfold pTwice
  rw [if_pos ⟨h1, by rw [← (c5 h1).2]; exact h2⟩]
  exact ⟨(by rw [e3]; exact c1), e21.trans c2, e12, fun _ => e13, fun z => absurd (show (4 : Int32) = 0 from z) (by decide), e4.trans c6⟩
theorem tell_F {f : Nat → Int32} {n m : Int32} {u : uk_Mem} {b : PS} (hc : Sc f n u b) (h : ¬ u.1 1 2 = 0) : Sc f n u (pTell b m) := by
  have h1 : ¬ b.1 = 0 := fun z => h (hc.2.2.1.trans z)
  unfold pTell
  rw [if_neg h1]
  exact hc
theorem tell_G {f : Nat → Int32} {n m : Int32} {u u' : uk_Mem} {b : PS} (hc : Sc f n u b) (h : u.1 1 2 = 0) (e12 : u'.1 1 2 = u.1 1 2) (e14 : u'.1 1 4 = u.1 1 4 ||| ((1 : Int32) <<< m)) (e2 : u'.1 2 = u.1 2) (e3 : u'.1 3 = u.1 3) (e4 : u'.1 4 0 = u.1 4 0) : Sc f n u' (pTell b m) := by
  obtain ⟨c1, c2, c3, c4, c5, c6⟩ := hc
  have h1 : b.1 = 0 := c3.symm.trans h
  unfold pTell
  rw [if_pos h1]
  refine ⟨(by rw [e3]; exact c1), (congrFun e2 1).trans c2, e12.trans c3, fun z => absurd h1 z, fun _ => ⟨(congrFun e2 2).trans (c5 h1).1, ?_⟩, e4.trans c6⟩
  rw [e14, (c5 h1).2]
/-- which line a token begins, as a number -/
noncomputable def pl (f : Nat → Int32) (t s q : Int32) : Int32 := Classical.epsilon (fun x => ln f t s q x)
theorem pl_eq {f : Nat → Int32} {t s q x : Int32} (h : ln f t s q x) : pl f t s q = x := ln_uq (Classical.epsilon_spec (p := fun x => ln f t s q x) ⟨x, h⟩) h
noncomputable def pLine (f : Nat → Int32) (n : Int32) (a : PS) : PS :=
  if (tk f n a.2.2.2.2).2.1 = 4 then pBad a 1 (tk f n a.2.2.2.2).1
  else if pl f (tk f n a.2.2.2.2).2.1 (tk f n a.2.2.2.2).1 (tk f n a.2.2.2.2).2.2.2 = -1 then pBad a 2 (tk f n a.2.2.2.2).1
  else if pl f (tk f n a.2.2.2.2).2.1 (tk f n a.2.2.2.2).1 (tk f n a.2.2.2.2).2.2.2 = 5 then pHave f n (0, a.2.1, a.2.2.1, a.2.2.2.1, (tk f n a.2.2.2.2).2.2.2)
  else if ¬ a.2.2.2.1 < 8 then pBad a 5 (tk f n a.2.2.2.2).1
  else if pl f (tk f n a.2.2.2.2).2.1 (tk f n a.2.2.2.2).1 (tk f n a.2.2.2.2).2.2.2 = 4 then pRaw f n (0, a.2.1, a.2.2.1, a.2.2.2.1, (tk f n a.2.2.2.2).2.2.2)
  else pMade f n (0, a.2.1, a.2.2.1, a.2.2.2.1, (tk f n a.2.2.2.2).2.2.2)
