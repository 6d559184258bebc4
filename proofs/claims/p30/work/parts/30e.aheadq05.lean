/-! all lines -/
def Rr (f : Nat → Int32) (n : Int32) (u : uk_Mem) (c : Int32) : Prop :=
  (∃ b : PS, b.1 = 0 ∧ Sr f n u b ∧ pLoop f n (160 - c.toNatClampNeg) b c = pLoop f n 160 p_0 0 ∧ (u.1 60 18 = 0 → u.1 60 7 = b.2.2.2.1 ∧ u.1 60 10 = b.2.2.1 ∧ hi9 b.2.2.1 (u.1 60 11))) ∨
  (¬ u.1 60 18 = 0 ∧ u.1 60 18 = (pLoop f n 160 p_0 0).1.1 ∧ u.1 60 19 = (pLoop f n 160 p_0 0).1.2.1)
theorem Rr_open {f : Nat → Int32} {n c : Int32} {u : uk_Mem} (h : Rr f n u c) (h0 : u.1 60 18 = 0) : ∃ b : PS, b.1 = 0 ∧ Sr f n u b ∧ pLoop f n (160 - c.toNatClampNeg) b c = pLoop f n 160 p_0 0 ∧ u.1 60 7 = b.2.2.2.1 ∧ u.1 60 10 = b.2.2.1 ∧ hi9 b.2.2.1 (u.1 60 11) := by
  rcases h with ⟨b, h1, h2, h3, h4⟩ | ⟨h1, -⟩
  · exact ⟨b, h1, h2, h3, h4 h0⟩
  · exact absurd h0 h1
theorem Rr_step {f : Nat → Int32} {n c : Int32} {u u' : uk_Mem} {b : PS} (hn : n ≤ 160) (c0 : 0 ≤ c) (c1 : c < 160) (h0 : u.1 60 18 = 0) (hs : ¬ u.1 60 16 = 0) (hS : Sr f n u b) (hL : pLoop f n (160 - c.toNatClampNeg) b c = pLoop f n 160 p_0 0) (hS' : Sr f n u' (pLine f n b)) (hT : u'.1 60 18 = 0 → u'.1 60 7 = (pLine f n b).2.2.2.1 ∧ u'.1 60 10 = (pLine f n b).2.2.1 ∧ hi9 (pLine f n b).2.2.1 (u'.1 60 11)) : Rr f n u' (c + 1) := by
  obtain ⟨a0, a1, a1n, a4, v, ht⟩ := Sr_open hS h0
  have hk := tk_eq hn a1 ht
  have hT0 : ¬ (tk f n b.2.2.2.2).2.1 = 0 := fun z => hs (hk.2.1.symm.trans z)
  by_cases z : (pLine f n b).1 = 0
  · exact Or.inl ⟨pLine f n b, z, hS', by rw [← hL]; exact (pLoop_s c0 c1 hT0 z).symm, hT⟩
  · have e : pLoop f n 160 p_0 0 = (pLine f n b, c) := by rw [← hL]; exact pLoop_b c0 c1 hT0 z
    rcases hS'.2.2 with ⟨d1, d2, d3⟩ | ⟨d1, -⟩
    · refine Or.inr ⟨fun w => d1 (d2.symm.trans w), ?_, ?_⟩
      · rw [e]
        exact d2
      · rw [e]
        exact d3
    · exact absurd d1 z
theorem Rr_F {f : Nat → Int32} {n c : Int32} {u : uk_Mem} (hn : n ≤ 160) (c0 : 0 ≤ c) (c1 : c < 160) (h : Rr f n u c) (h0 : ¬ u.1 60 18 = 0) : u.1 60 18 = (pRes f n).1.1 ∧ u.1 60 19 = (pRes f n).1.2.1 := by
  have key : u.1 60 18 = (pLoop f n 160 p_0 0).1.1 ∧ u.1 60 19 = (pLoop f n 160 p_0 0).1.2.1 := by
    rcases h with ⟨b, h1, h2, h3, -⟩ | ⟨-, h2⟩
    · obtain ⟨t4, s4⟩ := Sr_4 hn h2 h1 h0
      have pe : pLine f n b = pBad b 1 (tk f n b.2.2.2.2).1 := if_pos t4
      have e : pLoop f n 160 p_0 0 = (pLine f n b, c) := by rw [← h3]; exact pLoop_b c0 c1 (by rw [t4]; decide) (by rw [pe]; exact pB_1 (by decide))
      rcases s4.2.2 with ⟨d1, d2, d3⟩ | ⟨d1, -⟩
      · rw [e, pe]
        exact ⟨d2, d3⟩
      · exact absurd d1 (pB_1 (by decide))
    · exact h2
  have e : (pRes f n).1 = (pLoop f n 160 p_0 0).1 := if_neg (fun z => h0 (key.1.trans z.1))
  rw [e]
  exact key
theorem Rr_E {f : Nat → Int32} {n c : Int32} {u u' : uk_Mem} (hn : n ≤ 160) (c0 : 0 ≤ c) (c1 : c < 160) (h : Rr f n u c) (h0 : u.1 60 18 = 0) (hs : u.1 60 16 = 0) (h7 : 0 ≤ u.1 60 7 ∧ u.1 60 7 ≤ 8) (hb : u.1 60 11 < u.1 60 7 → u'.1 60 18 = 0) (hB : ¬ u.1 60 11 < u.1 60 7 → u'.1 60 18 = 6 ∧ u'.1 60 19 = u.1 60 15) : u'.1 60 18 = (pRes f n).1.1 ∧ (¬ (pRes f n).1.1 = 0 → u'.1 60 19 = (pRes f n).1.2.1) ∧ ((pRes f n).1.1 = 0 → c = (pRes f n).2) := by
  obtain ⟨b, h1, h2, h3, h5, h6, h8⟩ := Rr_open h h0
  obtain ⟨a0, a1, a1n, a4, v, ht⟩ := Sr_open h2 h0
  have hk := tk_eq hn a1 ht
  have e : pLoop f n 160 p_0 0 = (b, c) := by rw [← h3]; exact pLoop_e c0 c1 (hk.2.1.trans hs)
  have hfn : u.1 60 15 = n := by
    obtain ⟨t1, t2, t3⟩ := ht
    have hsn : u.1 60 15 ≤ n := by
      have q := TK_le hn a1 ⟨t1, t2, t3⟩
      have q2 := TK_qn hn a1 a1n ⟨t1, t2, t3⟩ a4
      grind
    rcases t3 with ⟨a, -⟩ | ⟨-, -, a, -⟩ | ⟨-, -, -, -, a⟩ | ⟨-, -, a, -⟩ | ⟨-, -, -, -, a, -⟩
    · grind
    · exact absurd (a.symm.trans hs) (by decide)
    · rcases a with ⟨-, a, -⟩ | ⟨-, a⟩ <;> exact absurd (a.symm.trans hs) (by decide)
    · exact absurd (a.symm.trans hs) (by decide)
    · exact absurd (a.symm.trans hs) (by decide)
  have hi := hi9_s (s := b.2.2.2.1) h8 (by rw [← h5]; exact h7.1) (by rw [← h5]; exact h7.2)
  by_cases z : u.1 60 11 < u.1 60 7
  · have ep : pRes f n = (b, c) := by
      unfold pRes pEnd
      rw [e, if_neg (fun w => w.2 (hi.mpr (by rw [← h5]; exact z)))]
    rw [ep]
    exact ⟨(hb z).trans h1.symm, fun w => absurd h1 w, fun _ => rfl⟩
  · have ep : pRes f n = (pBad b 6 n, c) := by
      unfold pRes pEnd
      rw [e, if_pos ⟨h1, fun w => z (by rw [h5]; exact hi.mp w)⟩]
    rw [ep]
    exact ⟨(hB z).1, fun _ => (hB z).2.trans hfn, fun w => absurd w (pB_1 (by decide))⟩
