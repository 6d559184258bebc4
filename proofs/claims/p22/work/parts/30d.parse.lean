/-! the text, pure: what a reader of it makes of it: fault, its place, what have told of, how many stuffs, the place -/
abbrev PS : Type := Int32 × Int32 × Int32 × Int32 × Int32
noncomputable def tk (f : Nat → Int32) (n p : Int32) : Int32 × Int32 × Int32 × Int32 := Classical.epsilon (fun z : Int32 × Int32 × Int32 × Int32 => TK f n p z.1 z.2.1 z.2.2.1 z.2.2.2)
theorem tk_eq {f : Nat → Int32} {n p s t v q : Int32} (hn : n ≤ 160) (h0 : 0 ≤ p) (h : TK f n p s t v q) : (tk f n p).1 = s ∧ (tk f n p).2.1 = t ∧ (¬ t = 4 → (tk f n p).2.2.2 = q) ∧ (t = 2 ∨ t = 3 → (tk f n p).2.2.1 = v) := by
  have hs := Classical.epsilon_spec (p := fun z : Int32 × Int32 × Int32 × Int32 => TK f n p z.1 z.2.1 z.2.2.1 z.2.2.2) ⟨(s, t, v, q), h⟩
  obtain ⟨e1, e2, e3, e4⟩ := TK_uq hn h0 hs h
  refine ⟨e1, e2, fun z => e3 (fun w => z (e2.symm.trans w)), fun z => e4 ?_⟩
  rcases z with z | z
  · exact Or.inl (e2.trans z)
  · exact Or.inr (e2.trans z)
theorem m31a : ∀ j, j < 32 → nI j &&& 31 = nI j := by decide +kernel
theorem m31 {m : Int32} (h0 : 0 ≤ m) (h7 : m ≤ 31) : m &&& 31 = m := by
  obtain ⟨j, hj, rfl⟩ := nI_of2 (x := m) (M := 31) (n := 31) rfl (by grind) h7
  exact m31a j (by omega)
def pBad (a : PS) (k s : Int32) : PS := (k, s, a.2.2.1, a.2.2.2.1, 0)
noncomputable def pTake (f : Nat → Int32) (n : Int32) (a : PS) (w m : Int32) : PS × Int32 :=
  if ¬ a.1 = 0 then (a, 0)
  else if (tk f n a.2.2.2.2).2.1 = 4 then (pBad a 1 (tk f n a.2.2.2.2).1, 0)
  else if ¬ (tk f n a.2.2.2.2).2.1 = w then (pBad a 2 (tk f n a.2.2.2.2).1, 0)
  else if m < (tk f n a.2.2.2.2).2.2.1 then (pBad a 3 (tk f n a.2.2.2.2).1, 0)
  else ((0, a.2.1, a.2.2.1, a.2.2.2.1, (tk f n a.2.2.2.2).2.2.2), (tk f n a.2.2.2.2).2.2.1)
/-- the class's reader is at a -/
def Sc (f : Nat → Int32) (n : Int32) (u : uk_Mem) (a : PS) : Prop := cpy (u.1 3) f n ∧ u.1 2 1 = n ∧ u.1 1 2 = a.1 ∧ (¬ a.1 = 0 → u.1 1 3 = a.2.1) ∧ (a.1 = 0 → u.1 2 2 = a.2.2.2.2 ∧ u.1 1 4 = a.2.2.1) ∧ u.1 4 0 = a.2.2.2.1
theorem take_F {f : Nat → Int32} {n w m : Int32} {u : uk_Mem} {a : PS} (hc : Sc f n u a) (h : ¬ u.1 1 2 = 0) : Sc f n u (pTake f n a w m).1 ∧ 0 = (pTake f n a w m).2 := by
  have h1 : ¬ a.1 = 0 := fun z => h (hc.2.2.1.trans z)
  have e : pTake f n a w m = (a, 0) := if_pos h1
  rw [e]
  exact ⟨hc, rfl⟩
/-- a token that is not the one wanted -/
theorem take_B {f : Nat → Int32} {n w m s t v q k : Int32} {u u' : uk_Mem} {a : PS} (hn : n ≤ 160) (hp : 0 ≤ u.1 2 2) (hc : Sc f n u a) (h : u.1 1 2 = 0) (ht : TK f n (u.1 2 2) s t v q) (hk : (t = 4 ∧ k = 1) ∨ (¬ t = 4 ∧ ¬ t = w ∧ k = 2) ∨ (¬ t = 4 ∧ t = w ∧ (t = 2 ∨ t = 3) ∧ m < v ∧ k = 3)) (e3 : u'.1 3 = u.1 3) (e21 : u'.1 2 1 = u.1 2 1) (e12 : u'.1 1 2 = k) (e13 : u'.1 1 3 = s) (e4 : u'.1 4 0 = u.1 4 0) : Sc f n u' (pTake f n a w m).1 ∧ 0 = (pTake f n a w m).2 := by
  obtain ⟨c1, c2, c3, c4, c5, c6⟩ := hc
  have h1 : a.1 = 0 := c3.symm.trans h
  have hpl := (c5 h1).1
  rw [hpl] at ht hp
  obtain ⟨k1, k2, k3, k4⟩ := tk_eq hn hp ht
  have e : pTake f n a w m = (pBad a k s, 0) := by
    unfold pTake
    rw [if_neg (fun z => z h1), k1, k2]
    rcases hk with ⟨z, rfl⟩ | ⟨z, z2, rfl⟩ | ⟨z, z2, z3, z4, rfl⟩
    · rw [if_pos z]
    · rw [if_neg z, if_pos z2]
    · rw [if_neg z, if_neg (fun y => y z2), k4 z3, if_pos z4]
  have hk0 : ¬ k = 0 := by
    rcases hk with ⟨-, rfl⟩ | ⟨-, -, rfl⟩ | ⟨-, -, -, -, rfl⟩ <;> decide
  rw [e]
  exact ⟨⟨(by rw [e3]; exact c1), e21.trans c2, e12, fun _ => e13, fun z => absurd z hk0, e4.trans c6⟩, rfl⟩
theorem take_G {f : Nat → Int32} {n w m s t v q : Int32} {u u' : uk_Mem} {a : PS} (hn : n ≤ 160) (hp : 0 ≤ u.1 2 2) (hc : Sc f n u a) (h : u.1 1 2 = 0) (ht : TK f n (u.1 2 2) s t v q) (h4 : ¬ t = 4) (hw : t = w) (h23 : t = 2 ∨ t = 3) (hm : ¬ m < v) (e3 : u'.1 3 = u.1 3) (e21 : u'.1 2 1 = u.1 2 1) (e12 : u'.1 1 2 = u.1 1 2) (e14 : u'.1 1 4 = u.1 1 4) (e22 : u'.1 2 2 = q) (e4 : u'.1 4 0 = u.1 4 0) : Sc f n u' (pTake f n a w m).1 ∧ v = (pTake f n a w m).2 := by
  obtain ⟨c1, c2, c3, c4, c5, c6⟩ := hc
  have h1 : a.1 = 0 := c3.symm.trans h
  have hpl := (c5 h1).1
  rw [hpl] at ht hp
  obtain ⟨k1, k2, k3, k4⟩ := tk_eq hn hp ht
  have e : pTake f n a w m = ((0, a.2.1, a.2.2.1, a.2.2.2.1, q), v) := by
    unfold pTake
    rw [if_neg (fun z => z h1), k2, if_neg h4, if_neg (fun y => y hw), k4 h23, if_neg hm, k3 h4]
  rw [e]
  exact ⟨⟨(by rw [e3]; exact c1), e21.trans c2, e12.trans h, fun z => absurd rfl z, fun _ => ⟨e22, e14.trans (c5 h1).2⟩, e4.trans c6⟩, rfl⟩
def pAdd (b : PS) : PS := if b.1 = 0 then (b.1, b.2.1, b.2.2.1, b.2.2.2.1 + 1, b.2.2.2.2) else b
theorem add_F {f : Nat → Int32} {n : Int32} {u : uk_Mem} {b : PS} (hc : Sc f n u b) (h : ¬ u.1 1 2 = 0) : Sc f n u (pAdd b) := by
  have h1 : ¬ b.1 = 0 := fun z => h (hc.2.2.1.trans z)
  unfold pAdd
  rw [if_neg h1]
  exact hc
theorem add_G {f : Nat → Int32} {n : Int32} {u u' : uk_Mem} {b : PS} (hc : Sc f n u b) (h : u.1 1 2 = 0) (e1 : u'.1 1 = u.1 1) (e2 : u'.1 2 = u.1 2) (e3 : u'.1 3 = u.1 3) (e4 : u'.1 4 0 = u.1 4 0 + 1) : Sc f n u' (pAdd b) := by
  obtain ⟨c1, c2, c3, c4, c5, c6⟩ := hc
  have h1 : b.1 = 0 := c3.symm.trans h
  unfold pAdd
  rw [if_pos h1]
  refine ⟨(by rw [e3]; exact c1), (congrFun e2 1).trans c2, (congrFun e1 2).trans c3, fun z => absurd h1 z, fun _ => ⟨(congrFun e2 2).trans (c5 h1).1, (congrFun e1 4).trans (c5 h1).2⟩, ?_⟩
  rw [e4, c6]
noncomputable def pRaw (f : Nat → Int32) (n : Int32) (a : PS) : PS := pAdd (pTake f n (pTake f n (pTake f n a 2 9).1 2 9).1 3 0).1
noncomputable def pMade (f : Nat → Int32) (n : Int32) (a : PS) : PS := pAdd (pTake f n (pTake f n (pTake f n (pTake f n a 2 (a.2.2.2.1 - 1)).1 2 ((pTake f n a 2 (a.2.2.2.1 - 1)).1.2.2.2.1 - 1)).1 2 9).1 3 0).1
def pTwice (b : PS) (m s : Int32) : PS := if b.1 = 0 ∧ (b.2.2.1 >>> m) &&& 1 = 1 then pBad b 4 s else b
def pTell (b : PS) (m : Int32) : PS := if b.1 = 0 then (b.1, b.2.1, b.2.2.1 ||| ((1 : Int32) <<< m), b.2.2.2.1, b.2.2.2.2) else b
noncomputable def pHave (f : Nat → Int32) (n : Int32) (a : PS) : PS := pTell (pTake f n (pTake f n (pTwice (pTake f n a 2 7).1 (pTake f n a 2 7).2 (tk f n a.2.2.2.2).1) 2 40).1 3 0).1 (pTake f n a 2 7).2
theorem twice_F {f : Nat → Int32} {n m s : Int32} {u : uk_Mem} {b : PS} (hc : Sc f n u b) (h : ¬ (u.1 1 2 = 0 ∧ (u.1 1 4 >>> m) &&& 1 = 1)) : Sc f n u (pTwice b m s) := by
  unfold pTwice
  rw [if_neg (fun z => h ⟨hc.2.2.1.trans z.1, by rw [(hc.2.2.2.2.1 z.1).2]; exact z.2⟩)]
  exact hc
theorem twice_B {f : Nat → Int32} {n m s : Int32} {u u' : uk_Mem} {b : PS} (hc : Sc f n u b) (h : u.1 1 2 = 0) (h2 : (u.1 1 4 >>> m) &&& 1 = 1) (e3 : u'.1 3 = u.1 3) (e21 : u'.1 2 1 = u.1 2 1) (e12 : u'.1 1 2 = 4) (e13 : u'.1 1 3 = s) (e4 : u'.1 4 0 = u.1 4 0) : Sc f n u' (pTwice b m s) := by
  obtain ⟨c1, c2, c3, c4, c5, c6⟩ := hc
  have h1 : b.1 = 0 := c3.symm.trans h
  unfold pTwice
  rw [if_pos ⟨h1, by rw [← (c5 h1).2]; exact h2⟩]
  exact ⟨(by rw [e3]; exact c1), e21.trans c2, e12, fun _ => e13, fun z => absurd (show (4 : Int32) = 0 from z) (by decide), e4.trans c6⟩
theorem tell_F {f : Nat → Int32} {n m : Int32} {u : uk_Mem} {b : PS} (hc : Sc f n u b) (h : ¬ u.1 1 2 = 0) : Sc f n u (pTell b m) := by
  have h1 : ¬ b.1 = 0 := fun z => h (hc.2.2.1.trans z)
  unfold pTell
  rw [if_neg h1]
  exact hc
theorem tell_G {f : Nat → Int32} {n m : Int32} {u u' : uk_Mem} {b : PS} (hc : Sc f n u b) (h : u.1 1 2 = 0) (e12 : u'.1 1 2 = u.1 1 2) (e14 : u'.1 1 4 = u.1 1 4 ||| ((1 : Int32) <<< m)) (e2 : u'.1 2 = u.1 2) (e3 : u'.1 3 = u.1 3) (e4 : u'.1 4 0 = u.1 4 0) : Sc f n u' (pTell b m) := by
  obtain ⟨c1, c2, c3, c4, c5, c6⟩ := hc
  have h1 : b.1 = 0 := c3.symm.trans h
  unfold pTell
  rw [if_pos h1]
  refine ⟨(by rw [e3]; exact c1), (congrFun e2 1).trans c2, e12.trans c3, fun z => absurd h1 z, fun _ => ⟨(congrFun e2 2).trans (c5 h1).1, ?_⟩, e4.trans c6⟩
  rw [e14, (c5 h1).2]
/-- which line a token begins, as a number -/
noncomputable def pl (f : Nat → Int32) (t s q : Int32) : Int32 := Classical.epsilon (fun x => ln f t s q x)
theorem pl_eq {f : Nat → Int32} {t s q x : Int32} (h : ln f t s q x) : pl f t s q = x := ln_uq (Classical.epsilon_spec (p := fun x => ln f t s q x) ⟨x, h⟩) h
noncomputable def pLine (f : Nat → Int32) (n : Int32) (a : PS) : PS :=
  if (tk f n a.2.2.2.2).2.1 = 4 then pBad a 1 (tk f n a.2.2.2.2).1
  else if pl f (tk f n a.2.2.2.2).2.1 (tk f n a.2.2.2.2).1 (tk f n a.2.2.2.2).2.2.2 = -1 then pBad a 2 (tk f n a.2.2.2.2).1
  else if pl f (tk f n a.2.2.2.2).2.1 (tk f n a.2.2.2.2).1 (tk f n a.2.2.2.2).2.2.2 = 5 then pHave f n (0, a.2.1, a.2.2.1, a.2.2.2.1, (tk f n a.2.2.2.2).2.2.2)
  else if ¬ a.2.2.2.1 < 8 then pBad a 5 (tk f n a.2.2.2.2).1
  else if pl f (tk f n a.2.2.2.2).2.1 (tk f n a.2.2.2.2).1 (tk f n a.2.2.2.2).2.2.2 = 4 then pRaw f n (0, a.2.1, a.2.2.1, a.2.2.2.1, (tk f n a.2.2.2.2).2.2.2)
  else pMade f n (0, a.2.1, a.2.2.1, a.2.2.2.1, (tk f n a.2.2.2.2).2.2.2)
/-- the token that a line begins with is read -/
theorem Sc_tok {f : Nat → Int32} {n s t v q : Int32} {u u' : uk_Mem} {a : PS} (hn : n ≤ 160) (hp : 0 ≤ u.1 2 2) (hc : Sc f n u a) (h : u.1 1 2 = 0) (ht : TK f n (u.1 2 2) s t v q) (h4 : ¬ t = 4) (e3 : u'.1 3 = u.1 3) (e21 : u'.1 2 1 = u.1 2 1) (e1 : u'.1 1 = u.1 1) (e22 : u'.1 2 2 = q) (e4 : u'.1 4 0 = u.1 4 0) : Sc f n u' (0, a.2.1, a.2.2.1, a.2.2.2.1, (tk f n a.2.2.2.2).2.2.2) := by
  obtain ⟨c1, c2, c3, c4, c5, c6⟩ := hc
  have h1 : a.1 = 0 := c3.symm.trans h
  have hpl := (c5 h1).1
  rw [hpl] at ht hp
  obtain ⟨k1, k2, k3, k4⟩ := tk_eq hn hp ht
  exact ⟨(by rw [e3]; exact c1), e21.trans c2, (congrFun e1 2).trans h, fun z => absurd rfl z, fun _ => ⟨e22.trans (k3 h4).symm, (congrFun e1 4).trans (c5 h1).2⟩, e4.trans c6⟩
theorem Sc_bad {f : Nat → Int32} {n k s : Int32} {u u' : uk_Mem} {a : PS} (hc : Sc f n u a) (hk : ¬ k = 0) (e3 : u'.1 3 = u.1 3) (e21 : u'.1 2 1 = u.1 2 1) (e12 : u'.1 1 2 = k) (e13 : u'.1 1 3 = s) (e4 : u'.1 4 0 = u.1 4 0) : Sc f n u' (pBad a k s) := by
  obtain ⟨c1, c2, c3, c4, c5, c6⟩ := hc
  exact ⟨(by rw [e3]; exact c1), e21.trans c2, e12, fun _ => e13, fun z => absurd (show k = 0 from z) hk, e4.trans c6⟩
noncomputable def pLoop (f : Nat → Int32) (n : Int32) : Nat → PS → Int32 → PS × Int32
  | 0, b, c => (b, c)
  | k + 1, b, c => if (tk f n b.2.2.2.2).2.1 = 0 then (b, c) else if ¬ (pLine f n b).1 = 0 then (pLine f n b, c) else pLoop f n k (pLine f n b) (c + 1)
def pEnd (n : Int32) (b : PS) : PS := if b.1 = 0 ∧ ¬ (b.2.2.1 >>> b.2.2.2.1) = 0 then pBad b 6 n else b
def p_0 : PS := (0, 0, 0, 0, 0)
noncomputable def pRes (f : Nat → Int32) (n : Int32) : PS × Int32 := (pEnd n (pLoop f n 160 p_0 0).1, (pLoop f n 160 p_0 0).2)
theorem c160 {c : Int32} (h0 : 0 ≤ c) (h : c < 160) : ∃ k : Nat, 160 - c.toNatClampNeg = k + 1 ∧ 160 - (c + 1).toNatClampNeg = k := by
  have e := uk_c1 h0 (by grind)
  have l := uk_cln 159 159 rfl h0 (by grind)
  exact ⟨159 - c.toNatClampNeg, by omega, by omega⟩
theorem pLoop_s {f : Nat → Int32} {n c : Int32} {b : PS} (h0 : 0 ≤ c) (h : c < 160) (ht : ¬ (tk f n b.2.2.2.2).2.1 = 0) (hb : (pLine f n b).1 = 0) : pLoop f n (160 - c.toNatClampNeg) b c = pLoop f n (160 - (c + 1).toNatClampNeg) (pLine f n b) (c + 1) := by
  obtain ⟨k, k1, k2⟩ := c160 h0 h
  rw [k1, k2, pLoop, if_neg ht, if_neg (fun z => z hb)]
theorem pLoop_e {f : Nat → Int32} {n c : Int32} {b : PS} (h0 : 0 ≤ c) (h : c < 160) (ht : (tk f n b.2.2.2.2).2.1 = 0) : pLoop f n (160 - c.toNatClampNeg) b c = (b, c) := by
  obtain ⟨k, k1, k2⟩ := c160 h0 h
  rw [k1, pLoop, if_pos ht]
theorem pLoop_b {f : Nat → Int32} {n c : Int32} {b : PS} (h0 : 0 ≤ c) (h : c < 160) (ht : ¬ (tk f n b.2.2.2.2).2.1 = 0) (hb : ¬ (pLine f n b).1 = 0) : pLoop f n (160 - c.toNatClampNeg) b c = (pLine f n b, c) := by
  obtain ⟨k, k1, k2⟩ := c160 h0 h
  rw [k1, pLoop, if_neg ht, if_pos hb]
theorem pLoop_0 {f : Nat → Int32} {n c : Int32} {b : PS} (h : 160 ≤ c) : pLoop f n (160 - c.toNatClampNeg) b c = (b, c) := by
  have := uk_cge 160 160 rfl h
  rw [show 160 - c.toNatClampNeg = 0 by omega, pLoop]
/-- the reader is through with its lines -/
def Rc (f : Nat → Int32) (n : Int32) (u : uk_Mem) (c : Int32) : Prop := ∃ b : PS, pLoop f n 160 p_0 0 = (b, c) ∧ u.1 1 2 = b.1 ∧ (¬ b.1 = 0 → u.1 1 3 = b.2.1) ∧ (b.1 = 0 → u.1 1 4 = b.2.2.1 ∧ u.1 4 0 = b.2.2.2.1)
theorem Rc_1 {f : Nat → Int32} {n c : Int32} {u : uk_Mem} {b : PS} (hc : Sc f n u b) (h : pLoop f n 160 p_0 0 = (b, c)) : Rc f n u c := ⟨b, h, hc.2.2.1, hc.2.2.2.1, fun z => ⟨(hc.2.2.2.2.1 z).2, hc.2.2.2.2.2⟩⟩
theorem Rc_2 {f : Nat → Int32} {n c : Int32} {u : uk_Mem} {b : PS} (h : pLoop f n 160 p_0 0 = (b, c)) (hb : b.1 = 0) (e : u.1 1 2 = 0 ∧ u.1 1 4 = b.2.2.1 ∧ u.1 4 0 = b.2.2.2.1) : Rc f n u c := ⟨b, h, e.1.trans hb.symm, fun z => absurd hb z, fun _ => e.2⟩
theorem Re_B {f : Nat → Int32} {n c : Int32} {u u' : uk_Mem} (h : Rc f n u c) (h0 : u.1 1 2 = 0) (h1 : ¬ (u.1 1 4 >>> u.1 4 0) = 0) (e12 : u'.1 1 2 = 6) (e13 : u'.1 1 3 = n) : c = (pRes f n).2 ∧ u'.1 1 2 = (pRes f n).1.1 ∧ (¬ (pRes f n).1.1 = 0 → u'.1 1 3 = (pRes f n).1.2.1) := by
  obtain ⟨b, a1, a2, a3, a4⟩ := h
  have hb : b.1 = 0 := a2.symm.trans h0
  have e : pRes f n = (pBad b 6 n, c) := by
    unfold pRes pEnd
    rw [a1, if_pos ⟨hb, by rw [← (a4 hb).1, ← (a4 hb).2]; exact h1⟩]
  rw [e]
  exact ⟨rfl, e12, fun _ => e13⟩
theorem Re_G {f : Nat → Int32} {n c : Int32} {u : uk_Mem} (h : Rc f n u c) (h1 : ¬ (u.1 1 2 = 0 ∧ ¬ (u.1 1 4 >>> u.1 4 0) = 0)) : c = (pRes f n).2 ∧ u.1 1 2 = (pRes f n).1.1 ∧ (¬ (pRes f n).1.1 = 0 → u.1 1 3 = (pRes f n).1.2.1) := by
  obtain ⟨b, a1, a2, a3, a4⟩ := h
  have e : pRes f n = (b, c) := by
    unfold pRes pEnd
    rw [a1, if_neg (fun z => h1 ⟨a2.trans z.1, by rw [(a4 z.1).1, (a4 z.1).2]; exact z.2⟩)]
  rw [e]
  exact ⟨rfl, a2, a3⟩
abbrev q_X5_refuse_s (u : uk_Mem) (k : Int32) (b : Int32) (r : Option Value) (u' : uk_Mem) : Prop := (r = none) ∧ (iv u' ∧ fr 1 2 u u' ∧ u'.1 1 2 = k ∧ u'.1 1 3 = b ∧ u'.1 1 4 = u.1 1 4)
set_option maxHeartbeats 4000000 in
set_option maxRecDepth 20000 in
theorem c_X5_refuse_s {G : uk_D} (hs : uk_Sep G) {u : uk_Mem} (hu : iv u) (k : Int32) (b : Int32) (d : Nat) : uk_Meth G d mX5_refuse [.ref (uk_ad G 1), .int k, .int b] u (q_X5_refuse_s u k b) := by
  refine uk_Meth.of hs (by decide) (Nat.le_of_ble_eq_true rfl) (fun X => ?_)
  have f0 : fr 1 2 u u := fr_rf
  refine g_aload_n dX5_refuse_0 rfl ?_
  refine g_iload_n dX5_refuse_1 rfl ?_
  refine p_X5_9 rfl rfl dX5_refuse_2 ?_
  refine g_mem (fun u1 eu1 => ?_)
  have hu1 : iv u1 := by rw [eu1]; exact iv_upF hu rfl
  have fu1 : fr 1 2 u u1 := by rw [eu1]; exact fr_up f0 (by omega) (by omega)
  have s2 : u1.1 1 2 = k := by rw [eu1, uk_up_at]; exact if_pos ⟨rfl, rfl⟩
  refine g_aload_n dX5_refuse_5 rfl ?_
  refine g_iload_n dX5_refuse_6 rfl ?_
  refine p_X5_15 rfl rfl dX5_refuse_7 ?_
  refine g_mem (fun u3 eu3 => ?_)
  have hu3 : iv u3 := by rw [eu3]; exact iv_upF hu1 rfl
  have fu3 : fr 1 2 u u3 := by rw [eu3]; exact fr_up fu1 (by omega) (by omega)
  have s4 : u3.1 1 3 = b := by rw [eu3, uk_up_at]; exact if_pos ⟨rfl, rfl⟩
  exact g_vret dX5_refuse_10 rfl ⟨rfl, hu3, fu3, (by grind [uk_up_at]), (by grind [uk_up_at]), (by grind [uk_up_at])⟩
abbrev q_X5_take_s (u : uk_Mem) (w : Int32) (n : Int32) (f : Nat → Int32) (N : Int32) (a : PS) (r : Option Value) (u' : uk_Mem) : Prop := (∃ x : Int32, r = some (.int x) ∧ ((w = 2 → 0 ≤ x ∧ x ≤ 99 ∧ (u'.1 1 2 = 0 → x ≤ n)) ∧ x = (pTake f N a w n).2)) ∧ (iv u' ∧ fr 1 3 u u' ∧ u'.1 2 1 = u.1 2 1 ∧ (u'.1 1 2 = 0 → u.1 1 2 = 0) ∧ Sc f N u' (pTake f N a w n).1 ∧ (u'.1 1 2 = 0 → u.1 1 2 = 0 → u'.1 2 4 = (tk f N (u.1 2 2)).1))
set_option maxHeartbeats 4000000 in
set_option maxRecDepth 20000 in
theorem c_X5_take_s {G : uk_D} (hs : uk_Sep G) {u : uk_Mem} (hu : iv u) (w : Int32) (n : Int32) (f : Nat → Int32) (N : Int32) (a : PS) (p0 : Sc f N u a) (p1 : w = 2 ∨ w = 3) (d : Nat) : uk_Meth G (d + 2) mX5_take [.ref (uk_ad G 1), .int w, .int n] u (q_X5_take_s u w n f N a) := by
  refine uk_Meth.of hs (by decide) (Nat.le_of_ble_eq_true rfl) (fun X => ?_)
  have f0 : fr 1 3 u u := fr_rf
  refine g_aload_n dX5_take_0 rfl ?_
  refine f_X5_9 rfl rfl dX5_take_1 ?_
  refine g_topi (fun x1 ex1 => ?_)
  have s2 : u.1 1 2 = x1 := ex1.symm
  refine g_if_eq (tgt := 9) dX5_take_4 (by decide) (fun c3 => ?_) (fun c3 => ?_)
  · refine g_aload_n dX5_take_9 rfl ?_
    refine f_X5_21 rfl rfl dX5_take_10 ?_
    refine cl_X5_51 (c := 2) (As := []) rfl (c_X4_readToken_s (G := G) hs hu    (d)) rfl (by omega) rfl rfl (Nat.le_of_ble_eq_true rfl) dX5_take_13 (fun r4 u5 q6 => ?_)
    obtain ⟨rfl, mq6⟩ := q6
    obtain ⟨hu5, gu5, ku50, ku51⟩ := mq6
    have fu5 : fr 1 3 u u5 := fr_tr f0 gu5 (by omega) (by omega)
    have wu5_4_0 : u5.1 4 0 = u.1 4 0 := fr_at gu5 (by omega)
    have wu5_1_2 : u5.1 1 2 = u.1 1 2 := fr_at gu5 (by omega)
    have s7 : u5.1 1 2 = x1 := (fr_at gu5 (by omega)).trans s2
    have hN : N ≤ 160 := by rw [← p0.2.1]; exact (iv_at hu 2 1 rfl).2
    have hP0 : 0 ≤ u.1 2 2 := (iv_at hu 2 2 rfl).1
    have HT : TK f N (u.1 2 2) (u5.1 2 4) (u5.1 2 3) (u5.1 2 5) (u5.1 2 2) := TK_cg p0.1 hP0 hN (by rw [← p0.2.1]; exact ku51)
    have HV := TK_v hN hP0 HT
    have hF0 : u.1 1 2 = 0 := by grind
    have w1 : u5.1 1 2 = u.1 1 2 := fr_at gu5 (by omega)
    refine g_aload_n dX5_take_16 rfl ?_
    refine f_X5_21 rfl rfl dX5_take_17 ?_
    refine f_X5_54 rfl rfl dX5_take_20 ?_
    refine g_topi (fun x8 ex8 => ?_)
    have s9 : u5.1 2 3 = x8 := ex8.symm
    refine g_iconst (v := 4) dX5_take_23 (by decide) ?_
    refine g_icmp_ne (tgt := 42) dX5_take_24 (by decide) (fun c10 => ?_) (fun c10 => ?_)
    · refine g_aload_n dX5_take_42 rfl ?_
      refine f_X5_21 rfl rfl dX5_take_43 ?_
      refine f_X5_54 rfl rfl dX5_take_46 ?_
      refine g_topi (fun x11 ex11 => ?_)
      have qx11 : x11 = x8 := by rw [ex11]; exact s9
      refine g_iload_n dX5_take_49 rfl ?_
      refine g_icmp_eq (tgt := 68) dX5_take_50 (by decide) (fun c12 => ?_) (fun c12 => ?_)
      · refine g_aload_n dX5_take_68 rfl ?_
        refine f_X5_21 rfl rfl dX5_take_69 ?_
        refine f_X5_105 rfl rfl dX5_take_72 ?_
        refine g_topi (fun x13 ex13 => ?_)
        have s14 : u5.1 2 5 = x13 := ex13.symm
        refine g_iload_n dX5_take_75 rfl ?_
        refine g_icmp_le (tgt := 91) dX5_take_76 (by decide) (fun c15 => ?_) (fun c15 => ?_)
        · refine g_aload_n dX5_take_91 rfl ?_
          refine f_X5_9 rfl rfl dX5_take_92 ?_
          refine g_topi (fun x16 ex16 => ?_)
          have qx16 : x16 = x1 := by rw [ex16]; exact s7
          refine g_if_ne (tgt := 108) dX5_take_95 (by decide) (fun c17 => ?_) (fun c17 => ?_)
          · refine g_iconst (v := 0) dX5_take_108 (by decide) ?_
            exact g_iret (ty := .int) dX5_take_109 rfl rfl ⟨⟨_, rfl, (by exfalso; grind)⟩, hu5, fu5, (by exfalso; grind), (by exfalso; grind), (by exfalso; grind), (by exfalso; grind)⟩
          · refine g_aload_n dX5_take_98 rfl ?_
            refine f_X5_21 rfl rfl dX5_take_99 ?_
            refine f_X5_105 rfl rfl dX5_take_102 ?_
            refine g_topi (fun x18 ex18 => ?_)
            have qx18 : x18 = x13 := by rw [ex18]; exact s14
            refine g_goto (tgt := 109) dX5_take_105 (by decide) ?_
            exact g_iret (ty := .int) dX5_take_109 rfl rfl ⟨⟨_, rfl, ⟨by first | trivial | lia | grind, (by rw [← (take_G hN hP0 p0 hF0 HT (by grind) (by grind) (by grind) (by grind) (gu5.1 3 (by omega)) ku50 (fr_at gu5 (by omega)) (fr_at gu5 (by omega)) rfl (fr_at gu5 (by omega))).2]; grind)⟩⟩, hu5, fu5, (by grind), (by grind), (take_G hN hP0 p0 hF0 HT (by grind) (by grind) (by grind) (by grind) (gu5.1 3 (by omega)) ku50 (fr_at gu5 (by omega)) (fr_at gu5 (by omega)) rfl (fr_at gu5 (by omega))).1, (fun q q2 => (tk_eq hN hP0 HT).1.symm)⟩
        · refine g_aload_n dX5_take_79 rfl ?_
          refine g_iconst (v := 3) dX5_take_80 (by decide) ?_
          refine g_aload_n dX5_take_81 rfl ?_
          refine f_X5_21 rfl rfl dX5_take_82 ?_
          refine f_X5_61 rfl rfl dX5_take_85 ?_
          refine g_topi (fun x19 ex19 => ?_)
          have rx19 : 0 ≤ x19 ∧ x19 ≤ 160 := by rw [ex19]; exact iv_at hu5 _ _ rfl
          have s20 : u5.1 2 4 = x19 := ex19.symm
          refine cl_X5_47 (c := 1) (As := [.int 3, .int x19]) rfl (c_X5_refuse_s (G := G) hs hu5  3 x19  (d + 1)) rfl (by omega) rfl rfl (Nat.le_of_ble_eq_true rfl) dX5_take_88 (fun r21 u22 q23 => ?_)
          obtain ⟨rfl, mq23⟩ := q23
          obtain ⟨hu22, gu22, ku220, ku221, ku222⟩ := mq23
          have fu22 : fr 1 3 u u22 := fr_tr fu5 gu22 (by omega) (by omega)
          have wu22_2_1 : u22.1 2 1 = u5.1 2 1 := fr_at gu22 (by omega)
          have wu22_4_0 : u22.1 4 0 = u5.1 4 0 := fr_at gu22 (by omega)
          have s24 : u22.1 2 3 = x8 := (fr_at gu22 (by omega)).trans s9
          have s25 : u22.1 2 5 = x13 := (fr_at gu22 (by omega)).trans s14
          have s26 : u22.1 2 4 = x19 := (fr_at gu22 (by omega)).trans s20
          refine g_aload_n dX5_take_91 rfl ?_
          refine f_X5_9 rfl rfl dX5_take_92 ?_
          refine g_topi (fun x27 ex27 => ?_)
          have s28 : u22.1 1 2 = x27 := ex27.symm
          refine g_if_ne (tgt := 108) dX5_take_95 (by decide) (fun c29 => ?_) (fun c29 => ?_)
          · refine g_iconst (v := 0) dX5_take_108 (by decide) ?_
            exact g_iret (ty := .int) dX5_take_109 rfl rfl ⟨⟨_, rfl, ⟨by first | trivial | lia | grind, (take_B hN hP0 p0 hF0 HT (Or.inr (Or.inr ⟨by grind, by grind, by grind, by grind, rfl⟩)) ((gu22.1 3 (by omega)).trans (gu5.1 3 (by omega))) ((fr_at gu22 (by omega)).trans ku50) ku220 (ku221.trans (by grind)) ((fr_at gu22 (by omega)).trans (fr_at gu5 (by omega)))).2⟩⟩, hu22, fu22, (by grind), (by grind), (take_B hN hP0 p0 hF0 HT (Or.inr (Or.inr ⟨by grind, by grind, by grind, by grind, rfl⟩)) ((gu22.1 3 (by omega)).trans (gu5.1 3 (by omega))) ((fr_at gu22 (by omega)).trans ku50) ku220 (ku221.trans (by grind)) ((fr_at gu22 (by omega)).trans (fr_at gu5 (by omega)))).1, (fun q q2 => by exfalso; grind)⟩
          · refine g_aload_n dX5_take_98 rfl ?_
            refine f_X5_21 rfl rfl dX5_take_99 ?_
            refine f_X5_105 rfl rfl dX5_take_102 ?_
            refine g_topi (fun x30 ex30 => ?_)
            have qx30 : x30 = x13 := by rw [ex30]; exact s25
            refine g_goto (tgt := 109) dX5_take_105 (by decide) ?_
            exact g_iret (ty := .int) dX5_take_109 rfl rfl ⟨⟨_, rfl, (by exfalso; grind)⟩, hu22, fu22, (by exfalso; grind), (by exfalso; grind), (by exfalso; grind), (by exfalso; grind)⟩
      · refine g_aload_n dX5_take_53 rfl ?_
        refine g_iconst (v := 2) dX5_take_54 (by decide) ?_
        refine g_aload_n dX5_take_55 rfl ?_
        refine f_X5_21 rfl rfl dX5_take_56 ?_
        refine f_X5_61 rfl rfl dX5_take_59 ?_
        refine g_topi (fun x31 ex31 => ?_)
        have rx31 : 0 ≤ x31 ∧ x31 ≤ 160 := by rw [ex31]; exact iv_at hu5 _ _ rfl
        have s32 : u5.1 2 4 = x31 := ex31.symm
        refine cl_X5_47 (c := 1) (As := [.int 2, .int x31]) rfl (c_X5_refuse_s (G := G) hs hu5  2 x31  (d + 1)) rfl (by omega) rfl rfl (Nat.le_of_ble_eq_true rfl) dX5_take_62 (fun r33 u34 q35 => ?_)
        obtain ⟨rfl, mq35⟩ := q35
        obtain ⟨hu34, gu34, ku340, ku341, ku342⟩ := mq35
        have fu34 : fr 1 3 u u34 := fr_tr fu5 gu34 (by omega) (by omega)
        have wu34_2_1 : u34.1 2 1 = u5.1 2 1 := fr_at gu34 (by omega)
        have wu34_4_0 : u34.1 4 0 = u5.1 4 0 := fr_at gu34 (by omega)
        have s36 : u34.1 2 3 = x8 := (fr_at gu34 (by omega)).trans s9
        have s37 : u34.1 2 4 = x31 := (fr_at gu34 (by omega)).trans s32
        refine g_goto (tgt := 91) dX5_take_65 (by decide) ?_
        refine g_aload_n dX5_take_91 rfl ?_
        refine f_X5_9 rfl rfl dX5_take_92 ?_
        refine g_topi (fun x38 ex38 => ?_)
        have s39 : u34.1 1 2 = x38 := ex38.symm
        refine g_if_ne (tgt := 108) dX5_take_95 (by decide) (fun c40 => ?_) (fun c40 => ?_)
        · refine g_iconst (v := 0) dX5_take_108 (by decide) ?_
          exact g_iret (ty := .int) dX5_take_109 rfl rfl ⟨⟨_, rfl, ⟨by first | trivial | lia | grind, (take_B hN hP0 p0 hF0 HT (Or.inr (Or.inl ⟨by grind, by grind, rfl⟩)) ((gu34.1 3 (by omega)).trans (gu5.1 3 (by omega))) ((fr_at gu34 (by omega)).trans ku50) ku340 (ku341.trans (by grind)) ((fr_at gu34 (by omega)).trans (fr_at gu5 (by omega)))).2⟩⟩, hu34, fu34, (by grind), (by grind), (take_B hN hP0 p0 hF0 HT (Or.inr (Or.inl ⟨by grind, by grind, rfl⟩)) ((gu34.1 3 (by omega)).trans (gu5.1 3 (by omega))) ((fr_at gu34 (by omega)).trans ku50) ku340 (ku341.trans (by grind)) ((fr_at gu34 (by omega)).trans (fr_at gu5 (by omega)))).1, (fun q q2 => by exfalso; grind)⟩
        · refine g_aload_n dX5_take_98 rfl ?_
          refine f_X5_21 rfl rfl dX5_take_99 ?_
          refine f_X5_105 rfl rfl dX5_take_102 ?_
          refine g_topi (fun x41 ex41 => ?_)
          have s42 : u34.1 2 5 = x41 := ex41.symm
          refine g_goto (tgt := 109) dX5_take_105 (by decide) ?_
          exact g_iret (ty := .int) dX5_take_109 rfl rfl ⟨⟨_, rfl, (by exfalso; grind)⟩, hu34, fu34, (by exfalso; grind), (by exfalso; grind), (by exfalso; grind), (by exfalso; grind)⟩
    · refine g_aload_n dX5_take_27 rfl ?_
      refine g_iconst (v := 1) dX5_take_28 (by decide) ?_
      refine g_aload_n dX5_take_29 rfl ?_
      refine f_X5_21 rfl rfl dX5_take_30 ?_
      refine f_X5_61 rfl rfl dX5_take_33 ?_
      refine g_topi (fun x43 ex43 => ?_)
      have rx43 : 0 ≤ x43 ∧ x43 ≤ 160 := by rw [ex43]; exact iv_at hu5 _ _ rfl
      have s44 : u5.1 2 4 = x43 := ex43.symm
      refine cl_X5_47 (c := 1) (As := [.int 1, .int x43]) rfl (c_X5_refuse_s (G := G) hs hu5  1 x43  (d + 1)) rfl (by omega) rfl rfl (Nat.le_of_ble_eq_true rfl) dX5_take_36 (fun r45 u46 q47 => ?_)
      obtain ⟨rfl, mq47⟩ := q47
      obtain ⟨hu46, gu46, ku460, ku461, ku462⟩ := mq47
      have fu46 : fr 1 3 u u46 := fr_tr fu5 gu46 (by omega) (by omega)
      have wu46_2_1 : u46.1 2 1 = u5.1 2 1 := fr_at gu46 (by omega)
      have wu46_4_0 : u46.1 4 0 = u5.1 4 0 := fr_at gu46 (by omega)
      have s48 : u46.1 2 3 = x8 := (fr_at gu46 (by omega)).trans s9
      have s49 : u46.1 2 4 = x43 := (fr_at gu46 (by omega)).trans s44
      refine g_goto (tgt := 91) dX5_take_39 (by decide) ?_
      refine g_aload_n dX5_take_91 rfl ?_
      refine f_X5_9 rfl rfl dX5_take_92 ?_
      refine g_topi (fun x50 ex50 => ?_)
      have s51 : u46.1 1 2 = x50 := ex50.symm
      refine g_if_ne (tgt := 108) dX5_take_95 (by decide) (fun c52 => ?_) (fun c52 => ?_)
      · refine g_iconst (v := 0) dX5_take_108 (by decide) ?_
        exact g_iret (ty := .int) dX5_take_109 rfl rfl ⟨⟨_, rfl, ⟨by first | trivial | lia | grind, (take_B hN hP0 p0 hF0 HT (Or.inl ⟨by grind, rfl⟩) ((gu46.1 3 (by omega)).trans (gu5.1 3 (by omega))) ((fr_at gu46 (by omega)).trans ku50) ku460 (ku461.trans (by grind)) ((fr_at gu46 (by omega)).trans (fr_at gu5 (by omega)))).2⟩⟩, hu46, fu46, (by grind), (by grind), (take_B hN hP0 p0 hF0 HT (Or.inl ⟨by grind, rfl⟩) ((gu46.1 3 (by omega)).trans (gu5.1 3 (by omega))) ((fr_at gu46 (by omega)).trans ku50) ku460 (ku461.trans (by grind)) ((fr_at gu46 (by omega)).trans (fr_at gu5 (by omega)))).1, (fun q q2 => by exfalso; grind)⟩
      · refine g_aload_n dX5_take_98 rfl ?_
        refine f_X5_21 rfl rfl dX5_take_99 ?_
        refine f_X5_105 rfl rfl dX5_take_102 ?_
        refine g_topi (fun x53 ex53 => ?_)
        have s54 : u46.1 2 5 = x53 := ex53.symm
        refine g_goto (tgt := 109) dX5_take_105 (by decide) ?_
        exact g_iret (ty := .int) dX5_take_109 rfl rfl ⟨⟨_, rfl, (by exfalso; grind)⟩, hu46, fu46, (by exfalso; grind), (by exfalso; grind), (by exfalso; grind), (by exfalso; grind)⟩
  · refine g_iconst (v := 0) dX5_take_7 (by decide) ?_
    exact g_iret (ty := .int) dX5_take_8 rfl rfl ⟨⟨_, rfl, ⟨by first | trivial | lia | grind, (take_F p0 (by grind)).2⟩⟩, hu, f0, rfl, (by grind), (take_F p0 (by grind)).1, (fun q q2 => by exfalso; grind)⟩
abbrev q_X4_rewind_s (u : uk_Mem)  (r : Option Value) (u' : uk_Mem) : Prop := (r = none) ∧ (iv u' ∧ fr 2 3 u u' ∧ u'.1 2 1 = u.1 2 1 ∧ u'.1 2 2 = 0)
set_option maxHeartbeats 4000000 in
set_option maxRecDepth 20000 in
theorem c_X4_rewind_s {G : uk_D} (hs : uk_Sep G) {u : uk_Mem} (hu : iv u)  (d : Nat) : uk_Meth G d mX4_rewind [.ref (uk_ad G 2)] u (q_X4_rewind_s u) := by
  refine uk_Meth.of hs (by decide) (Nat.le_of_ble_eq_true rfl) (fun X => ?_)
  have f0 : fr 2 3 u u := fr_rf
  refine g_aload_n dX4_rewind_0 rfl ?_
  refine g_iconst (v := 0) dX4_rewind_1 (by decide) ?_
  refine p_X4_19 rfl rfl dX4_rewind_2 ?_
  refine g_mem (fun u1 eu1 => ?_)
  have hu1 : iv u1 := by rw [eu1]; exact iv_up hu rfl (by first | lia | grind) (by first | lia | grind)
  have fu1 : fr 2 3 u u1 := by rw [eu1]; exact fr_up f0 (by omega) (by omega)
  have s2 : u1.1 2 2 = 0 := by rw [eu1, uk_up_at]; exact if_pos ⟨rfl, rfl⟩
  refine g_aload_n dX4_rewind_5 rfl ?_
  refine g_iconst (v := 0) dX4_rewind_6 (by decide) ?_
  refine p_X4_22 rfl rfl dX4_rewind_7 ?_
  refine g_mem (fun u3 eu3 => ?_)
  have hu3 : iv u3 := by rw [eu3]; exact iv_upF hu1 rfl
  have fu3 : fr 2 3 u u3 := by rw [eu3]; exact fr_up fu1 (by omega) (by omega)
  have s4 : u3.1 2 3 = 0 := by rw [eu3, uk_up_at]; exact if_pos ⟨rfl, rfl⟩
  refine g_aload_n dX4_rewind_10 rfl ?_
  refine g_iconst (v := 0) dX4_rewind_11 (by decide) ?_
  refine p_X4_25 rfl rfl dX4_rewind_12 ?_
  refine g_mem (fun u5 eu5 => ?_)
  have hu5 : iv u5 := by rw [eu5]; exact iv_up hu3 rfl (by first | lia | grind) (by first | lia | grind)
  have fu5 : fr 2 3 u u5 := by rw [eu5]; exact fr_up fu3 (by omega) (by omega)
  have s6 : u5.1 2 4 = 0 := by rw [eu5, uk_up_at]; exact if_pos ⟨rfl, rfl⟩
  refine g_aload_n dX4_rewind_15 rfl ?_
  refine g_iconst (v := 0) dX4_rewind_16 (by decide) ?_
  refine p_X4_28 rfl rfl dX4_rewind_17 ?_
  refine g_mem (fun u7 eu7 => ?_)
  have hu7 : iv u7 := by rw [eu7]; exact iv_upF hu5 rfl
  have fu7 : fr 2 3 u u7 := by rw [eu7]; exact fr_up fu5 (by omega) (by omega)
  have s8 : u7.1 2 5 = 0 := by rw [eu7, uk_up_at]; exact if_pos ⟨rfl, rfl⟩
  exact g_vret dX4_rewind_20 rfl ⟨rfl, hu7, fu7, (by grind [uk_up_at]), (by grind [uk_up_at])⟩