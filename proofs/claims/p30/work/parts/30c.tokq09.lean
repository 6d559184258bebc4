/-- the token that a line begins with is read -/
theorem Sc_tok {f : Nat → Int32} {n s t v q : Int32} {u u' : uk_Mem} {a : PS} (hn : n ≤ 160) (hp : 0 ≤ u.1 2 2) (hc : Sc f n u a) (h : u.1 1 2 = 0) (ht : TK f n (u.1 2 2) s t v q) (h4 : ¬ t = 4) (e3 : u'.1 3 = u.1 3) (e21 : u'.1 2 1 = u.1 2 1) (e1 : u'.1 1 = u.1 1) (e22 : u'.1 2 2 = q) (e4 : u'.1 4 0 = u.1 4 0) : Sc f n u' (0, a.2.1, a.2.2.1, a.2.2.2.1, (tk f n a.2.2.2.2).2.2.2) := by
  obtain ⟨c1, c2, c3, c4, c5, c6⟩ := hc
  have h1 : a.1 = 0 := c3.symm.trans h
  have hpl := (c5 h1).1
  rw [hpl] at ht hp
  obtain ⟨k1, k2, k3, k4⟩ := tk_eq hn hp ht
  exact ⟨(by rw [e3]; exact c1), e21.trans c2, (congrFun e1 2).trans h, fun z => absurd rfl z, fun _ => ⟨e22.trans (k3 h4).symm, (congrFun e1 4).trans (c5 h1).2⟩, e4.trans c6⟩
theorem Sc_bad {f : Nat → Int32} {n k s : Int32} {u u' : uk_Mem} {a : PS} (hc : Sc f n u a) (hk : ¬ k = 0) (e3 : u'.1 3 = u.1 3) (e21 : u'.1 2 1 = u.1 2 1) (e12 : u'.1 1 2 = k) (e13 : u'.1 1 3 = s) (e4 : u'.1 4 0 = u.1 4 0) : Sc f n u' (pBad a k s) := by
  obtain ⟨c1, c2, c3, c4, c5, c6⟩ := hc
  exact ⟨(by rw [e3]; exact c1), e21.trans c2, e12, fun _ => e13, fun z => absurd (show k = 0 from z) hk, e4.trans c6⟩
noncomputable def pLoop (f : Nat → Int32) (n : Int32) : Nat → PS → Int32 → PS × Int32
  | 0, b, c => (b, c)
  | k + 1, b, c => if (tk f n b.2.2.2.2).2.1 = 0 then (b, c) else if ¬ (pLine f n b).1 = 0 then (pLine f n b, c) else pLoop f n k (pLine f n b) (c + 1)
def pEnd (n : Int32) (b : PS) : PS := if b.1 = 0 ∧ ¬ (b.2.2.1 >>> b.2.2.2.1) = 0 then pBad b 6 n else b
def p_0 : PS := (0, 0, 0, 0, 0)
noncomputable def pRes (f : Nat → Int32) (n : Int32) : PS × Int32 := (pEnd n (pLoop f n 160 p_0 0).1, (pLoop f n 160 p_0 0).2)
theorem c160 {c : Int32} (h0 : 0 ≤ c) (h : c < 160) : ∃ k : Nat, 160 - c.toNatClampNeg = k + 1 ∧ 160 - (c + 1).toNatClampNeg = k := by
  have e := uk_c1 h0 (by grind)
  have l := uk_cln 159 159 rfl h0 (by grind)
  exact ⟨159 - c.toNatClampNeg, by omega, by omega⟩
theorem pLoop_s {f : Nat → Int32} {n c : Int32} {b : PS} (h0 : 0 ≤ c) (h : c < 160) (ht : ¬ (tk f n b.2.2.2.2).2.1 = 0) (hb : (pLine f n b).1 = 0) : pLoop f n (160 - c.toNatClampNeg) b c = pLoop f n (160 - (c + 1).toNatClampNeg) (pLine f n b) (c + 1) := by
  obtain ⟨k, k1, k2⟩ := c160 h0 h
  rw [k1, k2, pLoop, if_neg ht, if_neg (fun z => z hb)]
theorem pLoop_e {f : Nat → Int32} {n c : Int32} {b : PS} (h0 : 0 ≤ c) (h : c < 160) (ht : (tk f n b.2.2.2.2).2.1 = 0) : pLoop f n (160 - c.toNatClampNeg) b c = (b, c) := by
  obtain ⟨k, k1, k2⟩ := c160 h0 h
  rw [k1, pLoop, if_pos ht]
theorem pLoop_b {f : Nat → Int32} {n c : Int32} {b : PS} (h0 : 0 ≤ c) (h : c < 160) (ht : ¬ (tk f n b.2.2.2.2).2.1 = 0) (hb : ¬ (pLine f n b).1 = 0) : pLoop f n (160 - c.toNatClampNeg) b c = (pLine f n b, c) := by
  obtain ⟨k, k1, k2⟩ := c160 h0 h
  rw [k1, pLoop, if_neg ht, if_pos hb]
theorem pLoop_0 {f : Nat → Int32} {n c : Int32} {b : PS} (h : 160 ≤ c) : pLoop f n (160 - c.toNatClampNeg) b c = (b, c) := by
  have := uk_cge 160 160 rfl h
  rw [show 160 - c.toNatClampNeg = 0 by omega, pLoop]
/-- the reader is through with its lines -/
def Rc (f : Nat → Int32) (n : Int32) (u : uk_Mem) (c : Int32) : Prop := ∃ b : PS, pLoop f n 160 p_0 0 = (b, c) ∧ u.1 1 2 = b.1 ∧ (¬ b.1 = 0 → u.1 1 3 = b.2.1) ∧ (b.1 = 0 → u.1 1 4 = b.2.2.1 ∧ u.1 4 0 = b.2.2.2.1)
theorem Rc_1 {f : Nat → Int32} {n c : Int32} {u : uk_Mem} {b : PS} (hc : Sc f n u b) (h : pLoop f n 160 p_0 0 = (b, c)) : Rc f n u c := ⟨b, h, hc.2.2.1, hc.2.2.2.1, fun z => ⟨(hc.2.2.2.2.1 z).2, hc.2.2.2.2.2⟩⟩
theorem Rc_2 {f : Nat → Int32} {n c : Int32} {u : uk_Mem} {b : PS} (h : pLoop f n 160 p_0 0 = (b, c)) (hb : b.1 = 0) (e : u.1 1 2 = 0 ∧ u.1 1 4 = b.2.2.1 ∧ u.1 4 0 = b.2.2.2.1) : Rc f n u c := ⟨b, h, e.1.trans hb.symm, fun z => absurd hb z, fun _ => e.2⟩
theorem Re_B {f : Nat → Int32} {n c : Int32} {u u' : uk_Mem} (h : Rc f n u c) (h0 : u.1 1 2 = 0) (h1 : ¬ (u.1 1 4 >>> u.1 4 0) = 0) (e12 : u'.1 1 2 = 6) (e13 : u'.1 1 3 = n) : c = (pRes f n).2 ∧ u'.1 1 2 = (pRes f n).1.1 ∧ (¬ (pRes f n).1.1 = 0 → u'.1 1 3 = (pRes f n).1.2.1) := by
  obtain ⟨b, a1, a2, a3, a4⟩ := h
  have hb : b.1 = 0 := a2.symm.trans h0
  have e : pRes f n = (pBad b 6 n, c) := by
    unfold pRes pEnd
    rw [a1, if_pos ⟨hb, by rw [← (a4 hb).1, ← (a4 hb).2]; exact h1⟩]
  rw [e]
  exact ⟨rfl, e12, fun _ => e13⟩
