/-! the text, pure: what a reader of it makes of it: fault, its place, what have told of, how many stuffs, the place -/
abbrev PS : Type := Int32 × Int32 × Int32 × Int32 × Int32
noncomputable def tk (f : Nat → Int32) (n p : Int32) : Int32 × Int32 × Int32 × Int32 := Classical.epsilon (fun z : Int32 × Int32 × Int32 × Int32 => TK f n p z.1 z.2.1 z.2.2.1 z.2.2.2)
theorem tk_eq {f : Nat → Int32} {n p s t v q : Int32} (hn : n ≤ 160) (h0 : 0 ≤ p) (h : TK f n p s t v q) : (tk f n p).1 = s ∧ (tk f n p).2.1 = t ∧ (¬ t = 4 → (tk f n p).2.2.2 = q) ∧ (t = 2 ∨ t = 3 → (tk f n p).2.2.1 = v) := by
  have hs := Classical.epsilon_spec (p := fun z : Int32 × Int32 × Int32 × Int32 => TK f n p z.1 z.2.1 z.2.2.1 z.2.2.2) ⟨(s, t, v, q), h⟩
  obtain ⟨e1, e2, e3, e4⟩ := TK_uq hn h0 hs h
  refine ⟨e1, e2, fun z => e3 (fun w => z (e2.symm.trans w)), fun z => e4 ?_⟩
  rcases z with z | z
  · exact Or.inl (e2.trans z)
  · exact Or.inr (e2.trans z)
theorem m31a : ∀ j, j < 32 → nI j &&& 31 = nI j := by decide +kernel
theorem m31 {m : Int32} (h0 : 0 ≤ m) (h7 : m ≤ 31) : m &&& 31 = m := by
  obtain ⟨j, hj, rfl⟩ := nI_of2 (x := m) (M := 31) (n := 31) rfl (by grind) h7
  exact m31a j (by omega)
def pBad (a : PS) (k s : Int32) : PS := (k, s, a.2.2.1, a.2.2.2.1, 0)
noncomputable def pTake (f : Nat → Int32) (n : Int32) (a : PS) (w m : Int32) : PS × Int32 :=
  if ¬ a.1 = 0 then (a, 0)
  else if (tk f n a.2.2.2.2).2.1 = 4 then (pBad a 1 (tk f n a.2.2.2.2).1, 0)
  else if ¬ (tk f n a.2.2.2.2).2.1 = w then (pBad a 2 (tk f n a.2.2.2.2).1, 0)
  else if m < (tk f n a.2.2.2.2).2.2.1 then (pBad a 3 (tk f n a.2.2.2.2).1, 0)
  else ((0, a.2.1, a.2.2.1, a.2.2.2.1, (tk f n a.2.2.2.2).2.2.2), (tk f n a.2.2.2.2).2.2.1)
/-- the class's reader is at a -/
def Sc (f : Nat → Int32) (n : Int32) (u : uk_Mem) (a : PS) : Prop := cpy (u.1 3) f n ∧ u.1 2 1 = n ∧ u.1 1 2 = a.1 ∧ (¬ a.1 = 0 → u.1 1 3 = a.2.1) ∧ (a.1 = 0 → u.1 2 2 = a.2.2.2.2 ∧ u.1 1 4 = a.2.2.1) ∧ u.1 4 0 = a.2.2.2.1
theorem take_F {f : Nat → Int32} {n w m : Int32} {u : uk_Mem} {a : PS} (hc : Sc f n u a) (h : ¬ u.1 1 2 = 0) : Sc f n u (pTake f n a w m).1 ∧ 0 = (pTake f n a w m).2 := by
  have h1 : ¬ a.1 = 0 := fun z => h (hc.2.2.1.trans z)
  have e : pTake f n a w m = (a, 0) := if_pos h1
  rw [e]
  exact ⟨hc, rfl⟩
/-- a token that is not the one wanted -/
theorem take_B {f : Nat → Int32} {n w m s t v q k : Int32} {u u' : uk_Mem} {a : PS} (hn : n ≤ 160) (hp : 0 ≤ u.1 2 2) (hc : Sc f n u a) (h : u.1 1 2 = 0) (ht : TK f n (u.1 2 2) s t v q) (hk : (t = 4 ∧ k = 1) ∨ (¬ t = 4 ∧ ¬ t = w ∧ k = 2) ∨ (¬ t = 4 ∧ t = w ∧ (t = 2 ∨ t = 3) ∧ m < v ∧ k = 3)) (e3 : u'.1 3 = u.1 3) (e21 : u'.1 2 1 = u.1 2 1) (e12 : u'.1 1 2 = k) (e13 : u'.1 1 3 = s) (e4 : u'.1 4 0 = u.1 4 0) : Sc f n u' (pTake f n a w m).1 ∧ 0 = (pTake f n a w m).2 := by
  obtain ⟨c1, c2, c3, c4, c5, c6⟩ := hc
  have h1 : a.1 = 0 := c3.symm.trans h
  have hpl := (c5 h1).1
  rw [hpl] at ht hp
  obtain ⟨k1, k2, k3, k4⟩ := tk_eq hn hp ht
  have e : pTake f n a w m = (pBad a k s, 0) := by
    unfold pTake
    rw [if_neg (fun z => z h1), k1, k2]
    rcases hk with ⟨z, rfl⟩ | ⟨z, z2, rfl⟩ | ⟨z, z2, z3, z4, rfl⟩
    · rw [if_pos z]
    · rw [if_neg z, if_pos z2]
    · rw [if_neg z, if_neg (fun y => y z2), k4 z3, if_pos z4]
  have hk0 : ¬ k = 0 := by
    rcases hk with ⟨-, rfl⟩ | ⟨-, -, rfl⟩ | ⟨-, -, -, -, rfl⟩ <;> decide
  rw [e]
  exact ⟨⟨(by rw [e3]; exact c1), e21.trans c2, e12, fun _ => e13, fun z => absurd z hk0, e4.trans c6⟩, rfl⟩
theorem take_G {f : Nat → Int32} {n w m s t v q : Int32} {u u' : uk_Mem} {a : PS} (hn : n ≤ 160) (hp : 0 ≤ u.1 2 2) (hc : Sc f n u a) (h : u.1 1 2 = 0) (ht : TK f n (u.1 2 2) s t v q) (h4 : ¬ t = 4) (hw : t = w) (h23 : t = 2 ∨ t = 3) (hm : ¬ m < v) (e3 : u'.1 3 = u.1 3) (e21 : u'.1 2 1 = u.1 2 1) (e12 : u'.1 1 2 = u.1 1 2) (e14 : u'.1 1 4 = u.1 1 4) (e22 : u'.1 2 2 = q) (e4 : u'.1 4 0 = u.1 4 0) : Sc f n u' (pTake f n a w m).1 ∧ v = (pTake f n a w m).2 := by
  obtain ⟨c1, c2, c3, c4, c5, c6⟩ := hc
  have h1 : a.1 = 0 := c3.symm.trans h
  have hpl := (c5 h1).1
  rw [hpl] at ht hp
  obtain ⟨k1, k2, k3, k4⟩ := tk_eq hn hp ht
  have e : pTake f n a w m = ((0, a.2.1, a.2.2.1, a.2.2.2.1, q), v) := by
    unfold pTake
    rw [if_neg (fun z => z h1), k2, if_neg h4, if_neg (fun y => y hw), k4 h23, if_neg hm, k3 h4]
  rw [e]
  exact ⟨⟨(by rw [e3]; exact c1), e21.trans c2, e12.trans h, fun z => absurd rfl z, fun _ => ⟨e22, e14.trans (c5 h1).2⟩, e4.trans c6⟩, rfl⟩
