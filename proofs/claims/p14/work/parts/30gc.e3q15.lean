theorem able_e {u v : uk_Mem} {b : Nat} {g : Int32} (hv : iv v) (hra : ra v) (hK : KR u v b 62 0) : e_X0_isAble u b g = if e_X7_isDoing v g = 0 then 0 else e_X7_canDo v g := by
  have hn : 0 ≤ v.1 60 3 ∧ v.1 60 3 ≤ 8 := iv_at hv 60 3 rfl
  rw [isDoing_e hn]
  have k0 := hK.1
  unfold e_X0_isAble e_X0_hasStuff e_X6_stuffOf e_X7_canDo
  dsimp only
  rw [k0]
  by_cases h1 : 0 ≤ g ∧ g < v.1 60 3
  · have c := cook_e hv hra hK h1.1 h1.2
    have g0 : ¬ g < 0 := by lia
    have g1 : g < 10 := by lia
    have g2 : ¬ v.1 60 3 ≤ g := by lia
    have g3 : ¬ 10 ≤ g := by lia
    simp only [if_neg g0, if_pos g1, if_neg g2, if_neg g3, if_pos (Or.inl (b := 10 ≤ g ∧ g - 10 < v.1 60 3) h1), if_neg one0]
    exact c
  · by_cases h2 : 10 ≤ g ∧ g - 10 < v.1 60 3
    · have c := turn_e hv hra hK (m := g - 10) (by lia) h2.2
      have g0 : ¬ g < 0 := by lia
      have g1 : ¬ g < 10 := by lia
      have g4 : ¬ g - 10 < 0 := by lia
      have g2 : ¬ v.1 60 3 ≤ g - 10 := by lia
      simp only [if_neg g0, if_neg g1, if_neg g2, if_neg g4, if_pos h2.1, if_pos (Or.inr (a := 0 ≤ g ∧ g < v.1 60 3) h2), if_neg one0]
      exact c
    · rw [if_neg (show ¬ ((0 ≤ g ∧ g < v.1 60 3) ∨ (10 ≤ g ∧ g - 10 < v.1 60 3)) from fun z => z.elim h1 h2), if_pos (show (0 : Int32) = 0 from rfl)]
      by_cases g0 : g < 0
      · rw [if_pos g0]
      · rw [if_neg g0]
        by_cases g1 : g < 10
        · have g2 : v.1 60 3 ≤ g := by lia
          simp only [if_pos g1, if_neg g0, if_pos g2]
          simp
        · have g4 : ¬ g - 10 < 0 := by lia
          have g2 : v.1 60 3 ≤ g - 10 := by lia
          simp only [if_neg g1, if_neg g4, if_pos g2]
          simp

