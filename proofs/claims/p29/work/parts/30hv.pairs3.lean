/-! pairs leaves the sheets alone -/
theorem tk_c {c : Nat} (hc : ¬ c = 58) : ∀ (K : Nat) (i : Int32) (u : uk_Mem), (l_X1_takeFrom_2 K i u).1 c = u.1 c := by
  intro K
  induction K with
  | zero => intro i u; rfl
  | succ K ih =>
    intro i u
    rw [l_X1_takeFrom_2]
    dsimp only
    split
    · rfl
    · rw [ih, uk_up_oc hc]
theorem l110_s {u : uk_Mem} : ∀ (K : Nat) (i : Int32), (l_X6_fitTogether_110 u K i).2 = u := by
  intro K
  induction K with
  | zero => intro i; rfl
  | succ K ih =>
    intro i
    rw [l_X6_fitTogether_110]
    dsimp only
    split
    · rfl
    · split
      · exact ih _
      · rfl
theorem f23_c {c : Nat} (h1 : 46 ≤ c) (h2 : c ≤ 56) {a b : Int32} : ∀ (K : Nat) (i : Int32) (u : uk_Mem), (l_X6_fitTogether_23 a b K i u).2.1 c = u.1 c := by
  intro K
  induction K with
  | zero => intro i u; rfl
  | succ K ih =>
    intro i u
    rw [l_X6_fitTogether_23]
    dsimp only
    split
    · rw [l110_s]
      unfold e_X1_takeFrom
      rw [tk_c (by omega), gr_c (by omega), tk_c (by omega), gr_c (by omega)]
    · rw [ih, uk_up_oc (by omega)]
theorem f2_c {c : Nat} (h1 : 46 ≤ c) (h2 : c ≤ 56) {a b : Int32} : ∀ (K : Nat) (i : Int32) (u : uk_Mem), (l_X6_fitTogether_2 a b K i u).2.1 c = u.1 c := by
  intro K
  induction K with
  | zero => intro i u; rfl
  | succ K ih =>
    intro i u
    rw [l_X6_fitTogether_2]
    dsimp only
    split
    · exact f23_c h1 h2 _ _ _
    · rw [ih, uk_up_oc (by omega)]
theorem p33_c {c : Nat} (h1 : 46 ≤ c) (h2 : c ≤ 56) {i : Int32} {C : Int32 → Int32 → Int32 → uk_Mem → Int32 × uk_Mem} (hC : ∀ (j a b : Int32) (u : uk_Mem), (C j a b u).2.1 c = u.1 c) : ∀ (K : Nat) (k a b : Int32) (u : uk_Mem), (l_X6_pairs_33 i C K k a b u).2.1 c = u.1 c := by
  intro K
  induction K with
  | zero => intro k a b u; rfl
  | succ K ih =>
    intro k a b u
    have fc : (e_X6_fitTogether u i k).2.1 c = u.1 c := f2_c h1 h2 ee_K 0 u
    rw [l_X6_pairs_33]
    dsimp only
    split
    · exact hC _ _ _ _
    · split
      · exact (ih _ _ _ _).trans fc
      · split
        · exact (ih _ _ _ _).trans fc
        · exact (ih _ _ _ _).trans fc
theorem p17_c {c : Nat} (h1 : 46 ≤ c) (h2 : c ≤ 56) {w : Int32} : ∀ (K : Nat) (i a b : Int32) (u : uk_Mem), (l_X6_pairs_17 w K i a b u).2.1 c = u.1 c := by
  intro K
  induction K with
  | zero => intro i a b u; rfl
  | succ K ih =>
    intro i a b u
    rw [l_X6_pairs_17]
    split
    · split
      · rfl
      · rfl
    · exact p33_c h1 h2 (fun j a b u => ih j a b u) _ _ _ _ _
theorem pairs6_c {c : Nat} {u : uk_Mem} {w : Int32} (h1 : 46 ≤ c) (h2 : c ≤ 56) : (e_X6_pairs u w).2.1 c = u.1 c := by
  unfold e_X6_pairs
  dsimp only
  split
  · rfl
  · exact p17_c h1 h2 _ _ _ _ _
