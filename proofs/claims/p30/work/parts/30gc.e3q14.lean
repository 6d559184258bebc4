theorem isDoing_e {v : uk_Mem} {g : Int32} (hn : 0 ≤ v.1 60 3 ∧ v.1 60 3 ≤ 8) : e_X7_isDoing v g = if (0 ≤ g ∧ g < v.1 60 3) ∨ (10 ≤ g ∧ g - 10 < v.1 60 3) then 1 else 0 := by
  unfold e_X7_isDoing e_X7_isStuff e_X7_in
  dsimp only
  simp only [lp_n hn, lp_g hn.2]
  generalize v.1 60 3 = n at *
  by_cases h1 : 0 ≤ g ∧ g < n
  · simp only [if_pos h1, if_neg one0, if_pos (Or.inl (b := 10 ≤ g ∧ g - 10 < n) h1)]
  · by_cases h2 : 10 ≤ g ∧ g - 10 < n
    · simp only [if_neg h1, if_pos h2, if_neg one0, if_pos (Or.inr (a := 0 ≤ g ∧ g < n) h2)]
      simp
    · have h3 : ¬ ((0 ≤ g ∧ g < n) ∨ (10 ≤ g ∧ g - 10 < n)) := fun z => z.elim h1 h2
      simp only [if_neg h1, if_neg h2, if_neg h3]
      simp
/-- what the mill's rows need of two parts -/
theorem cook_e {u v : uk_Mem} {b : Nat} {m : Int32} (hv : iv v) (hra : ra v) (hK : KR u v b 62 0) (h0 : 0 ≤ m) (hm : m < v.1 60 3) : (if e_X0_isMade u b m = 0 then 0 else e_X0_isCookable u b m) = e_X7_canCook v m := by
  obtain ⟨-, -, -, -, kj, -⟩ := hK
  have hn : 0 ≤ v.1 60 3 ∧ v.1 60 3 ≤ 8 := iv_at hv 60 3 rfl
  have h7 : m ≤ 7 := by lia
  obtain ⟨j1, -, j3, -, -, j6⟩ := kj m.toNatClampNeg (uk_cll h0 hm)
  have hr := hra m h0 hm h7
  have pm := sg_0 hv (c := 62) (by unfold uk_is51; decide) h0 h7
  unfold e_X0_isMade e_X0_isCookable e_X7_canCook
  dsimp only
  rw [ix_32 h0 h7] at hr ⊢
  simp only [ix_0]
  rw [j1, j3]
  by_cases hk : v.1 62 (m.toNatClampNeg + 32) = 4
  · simp [hk]
  · obtain ⟨a0, a1, b0, b1⟩ := hr.resolve_left hk
    rw [(j6 hk).1, (j6 hk).2]
    generalize v.1 64 m.toNatClampNeg = A at *
    generalize v.1 65 m.toNatClampNeg = B at *
    have ja := (kj A.toNatClampNeg (uk_cll a0 (by lia))).2.2.1
    have jb := (kj B.toNatClampNeg (uk_cll b0 (by lia))).2.2.1
    have pa := sg_0 hv (c := 62) (by unfold uk_is51; decide) a0 (by lia)
    have pb := sg_0 hv (c := 62) (by unfold uk_is51; decide) b0 (by lia)
    rw [ja, jb]
    simp only [Nat.add_zero, hk, if_false]
    generalize v.1 62 m.toNatClampNeg = x at *
    by_cases hab : A = B
    · subst hab
      generalize v.1 62 A.toNatClampNeg = y at *
      grind
    · generalize v.1 62 A.toNatClampNeg = y at *
      generalize v.1 62 B.toNatClampNeg = z at *
      grind
theorem givesB_e {u v : uk_Mem} {m : Int32} (h0 : 0 ≤ m) (h7 : m ≤ 7) : e_X0_givesB u (v.1 62 (m.toNatClampNeg + 32)) (v.1 62 (m.toNatClampNeg + 8)) = e_X7_givesSecond v m := by
  unfold e_X0_givesB e_X7_givesSecond
  dsimp only
  rw [ix_32 h0 h7, ix_8 h0 h7]
theorem turn_e {u v : uk_Mem} {b : Nat} {m : Int32} (hv : iv v) (hra : ra v) (hK : KR u v b 62 0) (h0 : 0 ≤ m) (hm : m < v.1 60 3) : (if e_X0_isMade u b m = 0 then 0 else e_X0_isTurnable u b m) = e_X7_canTurn v m := by
  obtain ⟨-, -, -, -, kj, -⟩ := hK
  have hn : 0 ≤ v.1 60 3 ∧ v.1 60 3 ≤ 8 := iv_at hv 60 3 rfl
  have h7 : m ≤ 7 := by lia
  obtain ⟨j1, -, j3, j4, -, j6⟩ := kj m.toNatClampNeg (uk_cll h0 hm)
  have hr := hra m h0 hm h7
  have pm := sg_0 hv (c := 62) (by unfold uk_is51; decide) h0 h7
  unfold e_X0_isMade e_X0_isTurnable e_X7_canTurn
  dsimp only
  rw [ix_32 h0 h7] at hr ⊢
  simp only [ix_0]
  rw [j1, j3, j4]
  by_cases hk : v.1 62 (m.toNatClampNeg + 32) = 4
  · simp [hk]
  · obtain ⟨a0, a1, b0, b1⟩ := hr.resolve_left hk
    rw [(j6 hk).1, (j6 hk).2]
    simp only [Nat.zero_add]
    rw [givesB_e h0 h7]
    generalize e_X7_givesSecond v m = s at *
    generalize v.1 64 m.toNatClampNeg = A at *
    generalize v.1 65 m.toNatClampNeg = B at *
    have ja := (kj A.toNatClampNeg (uk_cll a0 (by lia))).2.2.1
    have jb := (kj B.toNatClampNeg (uk_cll b0 (by lia))).2.2.1
    have pa := sg_0 hv (c := 62) (by unfold uk_is51; decide) a0 (by lia)
    have pb := sg_0 hv (c := 62) (by unfold uk_is51; decide) b0 (by lia)
    rw [ja, jb]
    simp only [Nat.add_zero, hk, if_false]
    generalize v.1 62 (m.toNatClampNeg + 32) = k at *
    generalize v.1 62 m.toNatClampNeg = x at *
    by_cases k2 : k = 2
    · simp only [if_pos k2]
      simp
    · simp only [if_neg k2]
      by_cases x0 : x = 0
      · simp only [if_pos x0]
        simp
      · simp only [if_neg x0, if_neg one0]
        by_cases hab : A = B
        · subst hab
          generalize v.1 62 A.toNatClampNeg = y at *
          simp only [if_true]
          clear j1 j3 j4 j6 ja jb kj hra hv hr
          by_cases s0 : s = 0
          · simp only [if_pos s0]
            by_cases y4 : 40 ≤ y
            · rw [if_pos y4, if_pos (by lia)]
            · rw [if_neg y4, if_neg (by lia)]
          · simp only [if_neg s0]
            by_cases y4 : 40 < y + 2
            · simp only [if_pos y4]
              simp
            · rw [if_neg y4, if_neg (by lia)]
        · generalize v.1 62 A.toNatClampNeg = y at *
          generalize v.1 62 B.toNatClampNeg = z at *
          simp only [if_neg hab]
          clear j1 j3 j4 j6 ja jb kj hra hv hr
          by_cases s0 : s = 0
          · simp only [if_pos s0]
            by_cases y4 : 40 ≤ y
            · rw [if_pos y4, if_pos (by lia)]
            · rw [if_neg y4, if_neg (by lia)]
          · simp only [if_neg s0]
            by_cases y4 : 40 ≤ y
            · rw [if_pos y4, if_pos (by lia)]
            · rw [if_neg y4, if_neg (show ¬ 40 < y + 1 by lia)]
              by_cases z4 : 40 ≤ z
              · rw [if_pos z4, if_pos (by lia)]
              · rw [if_neg z4, if_neg (by lia)]
