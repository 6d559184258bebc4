/-! class and reference side by side, pure: copies, what can be done, what is done -/
theorem ix_0 {m : Int32} : ((0 : Int32) + m).toNatClampNeg = m.toNatClampNeg := by rw [Int32.zero_add]
theorem ix_c {C m : Int32} {c : Nat} (hC : C.toInt = (c : Int)) (hc : c ≤ 100) (h0 : 0 ≤ m) (h7 : m ≤ 100) : (C + m).toNatClampNeg = m.toNatClampNeg + c := by
  have a := Int32.le_iff_toInt_le.mp h0
  have b := Int32.le_iff_toInt_le.mp h7
  have z : (0 : Int32).toInt = 0 := rfl
  have y : (100 : Int32).toInt = 100 := rfl
  have e : (C + m).toInt = C.toInt + m.toInt := by
    rw [Int32.toInt_add]
    exact Int.bmod_eq_of_le (by omega) (by omega)
  show (C + m).toInt.toNat = m.toInt.toNat + c
  omega
theorem ix_8 {m : Int32} (h0 : 0 ≤ m) (h7 : m ≤ 7) : ((8 : Int32) + m).toNatClampNeg = m.toNatClampNeg + 8 := ix_c rfl (by omega) h0 (by lia)
theorem ix_16 {m : Int32} (h0 : 0 ≤ m) (h7 : m ≤ 7) : ((16 : Int32) + m).toNatClampNeg = m.toNatClampNeg + 16 := ix_c rfl (by omega) h0 (by lia)
theorem ix_24 {m : Int32} (h0 : 0 ≤ m) (h7 : m ≤ 7) : ((24 : Int32) + m).toNatClampNeg = m.toNatClampNeg + 24 := ix_c rfl (by omega) h0 (by lia)
theorem ix_32 {m : Int32} (h0 : 0 ≤ m) (h7 : m ≤ 7) : ((32 : Int32) + m).toNatClampNeg = m.toNatClampNeg + 32 := ix_c rfl (by omega) h0 (by lia)
theorem ix_43 {m : Int32} (h0 : 0 ≤ m) (h7 : m ≤ 7) : ((43 : Int32) + m).toNatClampNeg = m.toNatClampNeg + 43 := ix_c rfl (by omega) h0 (by lia)
theorem starts_l : ∀ (K : Nat) (i : Int32) (m : uk_Mem), ee_F 51 i K → 0 ≤ i → i ≤ 51 → (∀ c, ¬ c = 62 → (l_X7_starts_2 K i m).1 c = m.1 c) ∧ (l_X7_starts_2 K i m).2 = m.2 ∧ ∀ j, (l_X7_starts_2 K i m).1 62 j = if i.toNatClampNeg ≤ j ∧ j < 51 then m.1 61 j else m.1 62 j := by
  intro K
  induction K with
  | zero =>
    intro i m f h0 h1
    obtain ⟨j, hj⟩ := ee_Fp h1 f
    omega
  | succ K ih =>
    intro i m f h0 h1
    rw [l_X7_starts_2]
    by_cases q : (51 : Int32) ≤ i
    · rw [if_pos q]
      have := uk_cge 51 51 rfl q
      refine ⟨fun _ _ => rfl, rfl, fun j => ?_⟩
      rw [if_neg (by omega)]
    · rw [if_neg q]
      dsimp only
      have hc := uk_c1 h0 (by lia)
      have hl := uk_cln 50 50 rfl h0 (by lia)
      obtain ⟨a, b, c⟩ := ih (i + 1) (uk_up m 62 i.toNatClampNeg (m.1 61 i.toNatClampNeg)) (ee_Fs f (by lia)) (by lia) (by lia)
      refine ⟨fun d hd => (a d hd).trans (uk_up_oc hd), b, fun j => ?_⟩
      rw [c j, hc, uk_up_oc (by decide), uk_up_at]
      generalize i.toNatClampNeg = k at *
      grind
theorem ends_l : ∀ (K : Nat) (i : Int32) (m : uk_Mem), ee_F 51 i K → 0 ≤ i → i ≤ 51 → (∀ c, ¬ c = 61 → (l_X7_ends_2 K i m).1 c = m.1 c) ∧ (l_X7_ends_2 K i m).2 = m.2 ∧ ∀ j, (l_X7_ends_2 K i m).1 61 j = if i.toNatClampNeg ≤ j ∧ j < 51 then m.1 62 j else m.1 61 j := by
  intro K
  induction K with
  | zero =>
    intro i m f h0 h1
    obtain ⟨j, hj⟩ := ee_Fp h1 f
    omega
  | succ K ih =>
    intro i m f h0 h1
    rw [l_X7_ends_2]
    by_cases q : (51 : Int32) ≤ i
    · rw [if_pos q]
      have := uk_cge 51 51 rfl q
      refine ⟨fun _ _ => rfl, rfl, fun j => ?_⟩
      rw [if_neg (by omega)]
    · rw [if_neg q]
      dsimp only
      have hc := uk_c1 h0 (by lia)
      have hl := uk_cln 50 50 rfl h0 (by lia)
      obtain ⟨a, b, c⟩ := ih (i + 1) (uk_up m 61 i.toNatClampNeg (m.1 62 i.toNatClampNeg)) (ee_Fs f (by lia)) (by lia) (by lia)
      refine ⟨fun d hd => (a d hd).trans (uk_up_oc hd), b, fun j => ?_⟩
      rw [c j, hc, uk_up_oc (by decide), uk_up_at]
      generalize i.toNatClampNeg = k at *
      grind
theorem starts_c {u : uk_Mem} {c : Nat} (h : ¬ c = 62) : (e_X7_starts u).1 c = u.1 c := (starts_l ee_K 0 u (ee_F0 _ _) (by decide) (by decide)).1 c h
theorem starts_j {u : uk_Mem} {j : Nat} (h : j < 51) : (e_X7_starts u).1 62 j = u.1 61 j := ((starts_l ee_K 0 u (ee_F0 _ _) (by decide) (by decide)).2.2 j).trans (if_pos ⟨Nat.zero_le _, h⟩)
theorem ends_c {u : uk_Mem} {c : Nat} (h : ¬ c = 61) : (e_X7_ends u).1 c = u.1 c := (ends_l ee_K 0 u (ee_F0 _ _) (by decide) (by decide)).1 c h
theorem ends_j {u : uk_Mem} {j : Nat} (h : j < 51) : (e_X7_ends u).1 61 j = u.1 62 j := ((ends_l ee_K 0 u (ee_F0 _ _) (by decide) (by decide)).2.2 j).trans (if_pos ⟨Nat.zero_le _, h⟩)
