/-! the kinds that a text gives -/
theorem ln_ex {f : Nat → Int32} {t s q : Int32} : ∃ x, ln f t s q x := by
  by_cases h : ∃ j : Nat, j < 6 ∧ t = 1 ∧ nmj f s q j
  · obtain ⟨j, a, b, c⟩ := h
    exact ⟨_, Or.inl ⟨j, a, b, c, rfl⟩⟩
  · exact ⟨-1, Or.inr ⟨fun j hj z => h ⟨j, hj, z.1, z.2⟩, rfl⟩⟩
theorem pl_r {f : Nat → Int32} {t s q : Int32} : pl f t s q = -1 ∨ pl f t s q = 5 ∨ (0 ≤ pl f t s q ∧ pl f t s q ≤ 4) := by
  have h : ln f t s q (pl f t s q) := Classical.epsilon_spec (p := fun x => ln f t s q x) ln_ex
  generalize pl f t s q = x at *
  rcases h with ⟨j, hj, -, -, e⟩ | ⟨-, e⟩
  · rcases (show j = 0 ∨ j = 1 ∨ j = 2 ∨ j = 3 ∨ j = 4 ∨ j = 5 by omega) with rfl | rfl | rfl | rfl | rfl | rfl <;> (rw [e]; decide)
  · exact Or.inl e
theorem pLine_pl {f : Nat → Int32} {n : Int32} {a : PS} (h : (pLine f n a).1 = 0) : ¬ pl f (tk f n a.2.2.2.2).2.1 (tk f n a.2.2.2.2).1 (tk f n a.2.2.2.2).2.2.2 = -1 := fun q => by
  unfold pLine at h
  by_cases t : (tk f n a.2.2.2.2).2.1 = 4
  · rw [if_pos t] at h
    exact absurd (show (1 : Int32) = 0 from h) (by decide)
  · rw [if_neg t, if_pos q] at h
    exact absurd (show (2 : Int32) = 0 from h) (by decide)
theorem wAdd_1 {W : PW} {m j : Nat} {k a b f p : Int32} : wAdd W m k a b f p 1 j = if j = m then k else W 1 j := by
  unfold wAdd
  by_cases q : j = m
  · rw [if_pos ⟨q, by decide⟩, if_pos rfl, if_pos q]
  · rw [if_neg (fun z => q z.1), if_neg q]
theorem wIt_K {f : Nat → Int32} {n : Int32} : ∀ k, (∀ i, i ≤ k → (pIt f n i).1 = 0) → ∀ j, 0 ≤ wIt f n k 1 j ∧ wIt f n k 1 j ≤ 4 := by
  intro k
  induction k with
  | zero => exact fun _ j => ⟨(by decide : (0 : Int32) ≤ 0), (by decide : (0 : Int32) ≤ 4)⟩
  | succ k ih =>
    intro h j
    have h0 := ih (fun i hi => h i (by omega))
    have hp : (pLine f n (pIt f n k)).1 = 0 := h (k + 1) (by omega)
    have hl := pLine_pl hp
    show 0 ≤ wLine f n (pIt f n k) (wIt f n k) 1 j ∧ wLine f n (pIt f n k) (wIt f n k) 1 j ≤ 4
    have r := pl_r (f := f) (t := (tk f n (pIt f n k).2.2.2.2).2.1) (s := (tk f n (pIt f n k).2.2.2.2).1) (q := (tk f n (pIt f n k).2.2.2.2).2.2.2)
    unfold wLine
    generalize pl f (tk f n (pIt f n k).2.2.2.2).2.1 (tk f n (pIt f n k).2.2.2.2).1 (tk f n (pIt f n k).2.2.2.2).2.2.2 = x at *
    by_cases q : x = 5
    · rw [if_pos q]
      unfold wHav wPut
      rw [if_neg (fun z => absurd z.1 (by decide))]
      exact h0 j
    · rw [if_neg q]
      have r := (r.resolve_left hl).resolve_left q
      unfold wStf
      by_cases y : x = 4
      · rw [if_pos y, wAdd_1]
        split
        · exact ⟨by decide, by decide⟩
        · exact h0 j
      · rw [if_neg y, wAdd_1]
        split
        · exact r
        · exact h0 j
theorem pLoop_it {f : Nat → Int32} {n : Int32} : ∀ (K c : Nat), (∀ i, i ≤ c → (pIt f n i).1 = 0) → (pLoop f n K (pIt f n c) (nI c)).1.1 = 0 → ∃ m, (pLoop f n K (pIt f n c) (nI c)).2 = nI m ∧ m ≤ c + K ∧ ∀ i, i ≤ m → (pIt f n i).1 = 0 := by
  intro K
  induction K with
  | zero => exact fun c h _ => ⟨c, rfl, by omega, h⟩
  | succ K ih =>
    intro c h e
    rw [pLoop] at e ⊢
    by_cases t : (tk f n (pIt f n c).2.2.2.2).2.1 = 0
    · rw [if_pos t]
      exact ⟨c, rfl, by omega, h⟩
    · rw [if_neg t] at e ⊢
      by_cases q : (pLine f n (pIt f n c)).1 = 0
      · rw [if_neg (fun z => z q), nI_1] at e ⊢
        obtain ⟨m, m1, m2, m3⟩ := ih (c + 1) (fun i hi => by
          by_cases z : i = c + 1
          · rw [z]
            exact q
          · exact h i (by omega)) e
        exact ⟨m, m1, by omega, m3⟩
      · rw [if_pos q] at e
        exact absurd e q
theorem pRes_it {f : Nat → Int32} {n : Int32} (h : (pRes f n).1.1 = 0) : ∀ i, i ≤ (pRes f n).2.toNatClampNeg → (pIt f n i).1 = 0 := by
  have e : (pLoop f n 160 p_0 0).1.1 = 0 := by
    have h : (pEnd n (pLoop f n 160 p_0 0).1).1 = 0 := h
    unfold pEnd at h
    split at h
    · exact absurd (show (6 : Int32) = 0 from h) (by decide)
    · exact h
  obtain ⟨m, m1, m2, m3⟩ := pLoop_it (f := f) (n := n) 160 0 (fun i hi => by rw [show i = 0 by omega]; rfl) e
  have e2 : (pRes f n).2 = nI m := m1
  rw [e2, nI_clamp (by omega)]
  exact m3
theorem PR_tx {u u1 u2 : uk_Mem} {f : Nat → Int32} {n : Int32} (h : PR u) (F1 : fr 0 41 u u1) (b3 : (pRes f n).1.1 = 0 → RwG (u2.1 60 3) (u2.1 61) (u2.1 64) (u2.1 65) (wIt f n (pRes f n).2.toNatClampNeg) ∧ u2.1 60 3 = (pIt f n (pRes f n).2.toNatClampNeg).2.2.2.1 ∧ u2.1 63 0 = 0 ∧ u2.1 63 1 = 0) (b4 : ¬ (pRes f n).1.1 = 0 → u2.1 61 = u1.1 61 ∧ u2.1 63 = u1.1 63 ∧ u2.1 64 = u1.1 64 ∧ u2.1 65 = u1.1 65 ∧ u2.1 60 3 = u1.1 60 3) : PR u2 := by
  by_cases z : (pRes f n).1.1 = 0
  · obtain ⟨d1, d2, d3, d4⟩ := b3 z
    obtain ⟨c1, c2, c3, c4, c5, c6⟩ := d1
    refine ⟨⟨fun j hj hk => ?_, fun i hi => ?_⟩, fun q => absurd d3 q, fun q => absurd d4 q⟩
    · rw [show j + (0 + 32) = j + 32 by omega, (c6 j hk).1]
      exact wIt_K _ (pRes_it z) j
    · rw [show u2.1 61 (0 + 42) = 0 from c5, show (0 : Int32).toNatClampNeg = 0 from rfl] at hi
      exact absurd hi (Nat.not_lt_zero _)
  · obtain ⟨d1, d2, d3, d4, d5⟩ := b4 z
    exact PR_c (PR_fr h F1 (by omega)) d1 d2 d5
theorem PR_0 {u : uk_Mem} (h61 : ∀ j, j < 51 → u.1 61 j = 0) (h630 : u.1 63 0 = 0) (h631 : u.1 63 1 = 0) : PR u := by
  refine ⟨⟨fun j hj _ => ?_, fun i hi => ?_⟩, fun q => absurd h630 q, fun q => absurd h631 q⟩
  · rw [h61 _ (by omega)]
    exact ⟨by decide, by decide⟩
  · rw [h61 _ (by omega), show (0 : Int32).toNatClampNeg = 0 from rfl] at hi
    exact absurd hi (Nat.not_lt_zero _)
/-- class and reference side by side, and the ranges -/
def RLP (u : uk_Mem) : Prop := REL u ∧ PR u
