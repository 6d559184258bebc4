/-! what is lost -/
/-! what it leaves -/
theorem pwo_c {c : Nat} {u : uk_Mem} {t : Int32} (hc : ¬ (41 ≤ c ∧ c ≤ 45)) : (e_X1_putWaiting u t).1 c = u.1 c := by
  unfold e_X1_putWaiting
  dsimp only
  split
  · split
    · rw [uk_up_oc (by omega)]
    · rfl
  · split
    · rw [uk_up_oc (by omega), uk_up_oc (by omega), uk_up_oc (by omega)]
    · rw [uk_up_oc (by omega), uk_up_oc (by omega)]
theorem ldo_c {c : Nat} {u : uk_Mem} {t : Int32} (hc : ¬ (41 ≤ c ∧ c ≤ 45)) : (e_X1_lieDown u t).1 c = u.1 c := by
  unfold e_X1_lieDown
  dsimp only
  split
  · rfl
  · rw [uk_up_oc (by omega), uk_up_oc (by omega)]
theorem pto_c {c : Nat} {u : uk_Mem} {t k : Int32} (hc : ¬ (41 ≤ c ∧ c ≤ 45)) : (e_X1_part u t k).1 c = u.1 c := by
  unfold e_X1_part
  dsimp only
  split
  · split
    · rw [uk_up_oc (by omega), pwo_c hc, uk_up_oc (by omega)]
    · rw [pwo_c hc, uk_up_oc (by omega)]
  · split
    · rw [uk_up_oc (by omega), pwo_c hc, pwo_c hc, uk_up_oc (by omega)]
    · rw [pwo_c hc, pwo_c hc, uk_up_oc (by omega)]
theorem g90_c {c : Nat} (hc : ¬ (41 ≤ c ∧ c ≤ 45)) : ∀ (K : Nat) (i : Int32) (u : uk_Mem), (l_X1_grind_90 K i u).1 c = u.1 c := by
  intro K
  induction K with
  | zero => intro i u; rfl
  | succ K ih =>
    intro i u
    rw [l_X1_grind_90]
    split
    · rfl
    · exact (ih _ _).trans (ldo_c hc)
theorem g8_c {c : Nat} {n : Int32} (hc : ¬ (41 ≤ c ∧ c ≤ 45)) : ∀ (K : Nat) (i : Int32) (u : uk_Mem), (l_X1_grind_8 n K i u).1 c = u.1 c := by
  intro K
  induction K with
  | zero => intro i u; rfl
  | succ K ih =>
    intro i u
    have tw : (e_X1_takeWaiting u).2.1 c = u.1 c := by
      unfold e_X1_takeWaiting
      dsimp only
      rw [uk_up_oc (by omega)]
    rw [l_X1_grind_8]
    dsimp only
    split
    · exact g90_c hc _ _ _
    · split
      · rw [g90_1]
        exact g90_c hc _ _ _
      · split
        · rw [g90_2]
          exact g90_c hc _ _ _
        · split
          · rw [ih, ldo_c hc, tw]
          · split
            · rw [ih, ldo_c hc, tw]
            · rw [ih, pto_c hc, tw]
theorem st17_c {c : Nat} {m : Int32} (hc : ¬ (41 ≤ c ∧ c ≤ 45)) : ∀ (K : Nat) (i : Int32) (u : uk_Mem), (l_X1_start_17 m K i u).1 c = u.1 c := by
  intro K
  induction K with
  | zero => intro i u; rfl
  | succ K ih =>
    intro i u
    rw [l_X1_start_17]
    dsimp only
    split
    · exact pwo_c hc
    · rw [ih, uk_up_oc (by omega), uk_up_oc (by omega)]
theorem gr_c {c : Nat} {u : uk_Mem} {m n : Int32} (hc : ¬ (41 ≤ c ∧ c ≤ 45)) : (e_X1_grind u m n).1 c = u.1 c := by
  unfold e_X1_grind
  dsimp only
  rw [g8_c hc]
  unfold e_X1_start
  dsimp only
  rw [st17_c hc, uk_up_oc (by omega), uk_up_oc (by omega), uk_up_oc (by omega)]