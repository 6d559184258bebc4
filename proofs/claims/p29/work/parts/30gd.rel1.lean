/-! class and reference side by side, pure: copies, what can be done, what is done -/
theorem ix_0 {m : Int32} : ((0 : Int32) + m).toNatClampNeg = m.toNatClampNeg := by rw [Int32.zero_add]
theorem ix_c {C m : Int32} {c : Nat} (hC : C.toInt = (c : Int)) (hc : c ≤ 100) (h0 : 0 ≤ m) (h7 : m ≤ 100) : (C + m).toNatClampNeg = m.toNatClampNeg + c := by
  have a := Int32.le_iff_toInt_le.mp h0
  have b := Int32.le_iff_toInt_le.mp h7
  have z : (0 : Int32).toInt = 0 := rfl
  have y : (100 : Int32).toInt = 100 := rfl
  have e : (C + m).toInt = C.toInt + m.toInt := by
    rw [Int32.toInt_add]
    exact Int.bmod_eq_of_le (by omega) (by omega)
  show (C + m).toInt.toNat = m.toInt.toNat + c
  omega
theorem ix_8 {m : Int32} (h0 : 0 ≤ m) (h7 : m ≤ 7) : ((8 : Int32) + m).toNatClampNeg = m.toNatClampNeg + 8 := ix_c rfl (by omega) h0 (by lia)
theorem ix_16 {m : Int32} (h0 : 0 ≤ m) (h7 : m ≤ 7) : ((16 : Int32) + m).toNatClampNeg = m.toNatClampNeg + 16 := ix_c rfl (by omega) h0 (by lia)
theorem ix_24 {m : Int32} (h0 : 0 ≤ m) (h7 : m ≤ 7) : ((24 : Int32) + m).toNatClampNeg = m.toNatClampNeg + 24 := ix_c rfl (by omega) h0 (by lia)
theorem ix_32 {m : Int32} (h0 : 0 ≤ m) (h7 : m ≤ 7) : ((32 : Int32) + m).toNatClampNeg = m.toNatClampNeg + 32 := ix_c rfl (by omega) h0 (by lia)
theorem ix_43 {m : Int32} (h0 : 0 ≤ m) (h7 : m ≤ 7) : ((43 : Int32) + m).toNatClampNeg = m.toNatClampNeg + 43 := ix_c rfl (by omega) h0 (by lia)
theorem starts_l : ∀ (K : Nat) (i : Int32) (m : uk_Mem), ee_F 51 i K → 0 ≤ i → i ≤ 51 → (∀ c, ¬ c = 62 → (l_X7_starts_2 K i m).1 c = m.1 c) ∧ (l_X7_starts_2 K i m).2 = m.2 ∧ ∀ j, (l_X7_starts_2 K i m).1 62 j = if i.toNatClampNeg ≤ j ∧ j < 51 then m.1 61 j else m.1 62 j := by
  intro K
  induction K with
  | zero =>
    intro i m f h0 h1
    obtain ⟨j, hj⟩ := ee_Fp h1 f
    omega
  | succ K ih =>
    intro i m f h0 h1
    rw [l_X7_starts_2]
    by_cases q : (51 : Int32) ≤ i
    · rw [if_pos q]
      have := uk_cge 51 51 rfl q
      refine ⟨fun _ _ => rfl, rfl, fun j => ?_⟩
      rw [if_neg (by omega)]
    · rw [if_neg q]
      dsimp only
      have hc := uk_c1 h0 (by lia)
      have hl := uk_cln 50 50 rfl h0 (by lia)
      obtain ⟨a, b, c⟩ := ih (i + 1) (uk_up m 62 i.toNatClampNeg (m.1 61 i.toNatClampNeg)) (ee_Fs f (by lia)) (by lia) (by lia)
      refine ⟨fun d hd => (a d hd).trans (uk_up_oc hd), b, fun j => ?_⟩
      rw [c j, hc, uk_up_oc (by decide), uk_up_at]
      generalize i.toNatClampNeg = k at *
      grind
theorem ends_l : ∀ (K : Nat) (i : Int32) (m : uk_Mem), ee_F 51 i K → 0 ≤ i → i ≤ 51 → (∀ c, ¬ c = 61 → (l_X7_ends_2 K i m).1 c = m.1 c) ∧ (l_X7_ends_2 K i m).2 = m.2 ∧ ∀ j, (l_X7_ends_2 K i m).1 61 j = if i.toNatClampNeg ≤ j ∧ j < 51 then m.1 62 j else m.1 61 j := by
  intro K
  induction K with
  | zero =>
    intro i m f h0 h1
    obtain ⟨j, hj⟩ := ee_Fp h1 f
    omega
  | succ K ih =>
    intro i m f h0 h1
    rw [l_X7_ends_2]
    by_cases q : (51 : Int32) ≤ i
    · rw [if_pos q]
      have := uk_cge 51 51 rfl q
      refine ⟨fun _ _ => rfl, rfl, fun j => ?_⟩
      rw [if_neg (by omega)]
    · rw [if_neg q]
      dsimp only
      have hc := uk_c1 h0 (by lia)
      have hl := uk_cln 50 50 rfl h0 (by lia)
      obtain ⟨a, b, c⟩ := ih (i + 1) (uk_up m 61 i.toNatClampNeg (m.1 62 i.toNatClampNeg)) (ee_Fs f (by lia)) (by lia) (by lia)
      refine ⟨fun d hd => (a d hd).trans (uk_up_oc hd), b, fun j => ?_⟩
      rw [c j, hc, uk_up_oc (by decide), uk_up_at]
      generalize i.toNatClampNeg = k at *
      grind
theorem starts_c {u : uk_Mem} {c : Nat} (h : ¬ c = 62) : (e_X7_starts u).1 c = u.1 c := (starts_l ee_K 0 u (ee_F0 _ _) (by decide) (by decide)).1 c h
theorem starts_j {u : uk_Mem} {j : Nat} (h : j < 51) : (e_X7_starts u).1 62 j = u.1 61 j := ((starts_l ee_K 0 u (ee_F0 _ _) (by decide) (by decide)).2.2 j).trans (if_pos ⟨Nat.zero_le _, h⟩)
theorem ends_c {u : uk_Mem} {c : Nat} (h : ¬ c = 61) : (e_X7_ends u).1 c = u.1 c := (ends_l ee_K 0 u (ee_F0 _ _) (by decide) (by decide)).1 c h
theorem ends_j {u : uk_Mem} {j : Nat} (h : j < 51) : (e_X7_ends u).1 61 j = u.1 62 j := ((ends_l ee_K 0 u (ee_F0 _ _) (by decide) (by decide)).2.2 j).trans (if_pos ⟨Nat.zero_le _, h⟩)
theorem ends_o {u : uk_Mem} {j : Nat} (h : 51 ≤ j) : (e_X7_ends u).1 61 j = u.1 61 j := ((ends_l ee_K 0 u (ee_F0 _ _) (by decide) (by decide)).2.2 j).trans (if_neg (by omega))
/-- a stuff of a kitchen of the class (its cells from b on) and of a row of the reference (cell c, from o on) -/
def KJ (u v : uk_Mem) (b c o j : Nat) : Prop := u.1 (b + 1) j = v.1 c (j + (o + 32)) ∧ u.1 (b + 4) j = v.1 c (j + (o + 16)) ∧ u.1 (b + 6) j = v.1 c (j + o) ∧ u.1 (b + 7) j = v.1 c (j + (o + 8)) ∧ (v.1 c (j + (o + 32)) = 4 → u.1 (b + 5) j = v.1 c (j + (o + 24)) ∧ v.1 64 j = -4 ∧ v.1 65 j = -4) ∧ (¬ v.1 c (j + (o + 32)) = 4 → u.1 (b + 2) j = v.1 64 j ∧ u.1 (b + 3) j = v.1 65 j)
def KR (u v : uk_Mem) (b c o : Nat) : Prop := u.1 b 0 = v.1 60 3 ∧ u.1 b 9 = v.1 c (o + 42) ∧ u.1 b 10 = v.1 c (o + 40) ∧ u.1 b 11 = v.1 c (o + 41) ∧ (∀ j : Nat, j < (v.1 60 3).toNatClampNeg → KJ u v b c o j) ∧ ∀ i : Nat, i < (v.1 c (o + 42)).toNatClampNeg → u.1 (b + 8) i = v.1 c (i + (o + 43))
/-- other memories with the same cells -/
theorem KR_cg {u v u' v' : uk_Mem} {b c o : Nat} (h : KR u v b c o) (hu : ∀ d, b ≤ d → d ≤ b + 8 → u'.1 d = u.1 d) (h60 : v'.1 60 3 = v.1 60 3) (hc : v'.1 c = v.1 c) (h64 : v'.1 64 = v.1 64) (h65 : v'.1 65 = v.1 65) : KR u' v' b c o := by
  obtain ⟨k0, k9, k10, k11, kj, ks⟩ := h
  have hb := hu b (by omega) (by omega)
  refine ⟨by rw [hb, h60]; exact k0, by rw [hb, hc]; exact k9, by rw [hb, hc]; exact k10, by rw [hb, hc]; exact k11, fun j hj => ?_, fun i hi => ?_⟩
  · rw [h60] at hj
    unfold KJ
    rw [hu (b + 1) (by omega) (by omega), hu (b + 2) (by omega) (by omega), hu (b + 3) (by omega) (by omega), hu (b + 4) (by omega) (by omega), hu (b + 5) (by omega) (by omega), hu (b + 6) (by omega) (by omega), hu (b + 7) (by omega) (by omega), hc, h64, h65]
    exact kj j hj
  · rw [hc] at hi ⊢
    rw [hu (b + 8) (by omega) (by omega)]
    exact ks i hi
/-- the same 51 numbers in another row -/
theorem KR_row {u v v' : uk_Mem} {b c o c' o' : Nat} (h : KR u v b c o) (hn : v.1 60 3 ≤ 8) (hs : v.1 c (o + 42) ≤ 8) (h60 : v'.1 60 3 = v.1 60 3) (hc : ∀ j, j < 51 → v'.1 c' (j + o') = v.1 c (j + o)) (h64 : v'.1 64 = v.1 64) (h65 : v'.1 65 = v.1 65) : KR u v' b c' o' := by
  obtain ⟨k0, k9, k10, k11, kj, ks⟩ := h
  have hr : ∀ a j, j + a < 51 → v'.1 c' (j + (o' + a)) = v.1 c (j + (o + a)) := fun a j ha => by
    have := hc (j + a) ha
    rwa [show j + a + o' = j + (o' + a) by omega, show j + a + o = j + (o + a) by omega] at this
  have hf : ∀ a, a < 51 → v'.1 c' (o' + a) = v.1 c (o + a) := fun a ha => by
    have := hr a 0 (by omega)
    rwa [Nat.zero_add, Nat.zero_add] at this
  have n8 : (v.1 60 3).toNatClampNeg ≤ 8 := by
    by_cases q : 0 ≤ v.1 60 3
    · exact uk_cln 8 8 rfl q hn
    · have : (v.1 60 3).toInt < 0 := by
        have := Int32.lt_iff_toInt_lt.mp (show v.1 60 3 < 0 by lia)
        exact this
      have e : (v.1 60 3).toNatClampNeg = (v.1 60 3).toInt.toNat := rfl
      omega
  have s8 : (v.1 c (o + 42)).toNatClampNeg ≤ 8 := by
    by_cases q : 0 ≤ v.1 c (o + 42)
    · exact uk_cln 8 8 rfl q hs
    · have : (v.1 c (o + 42)).toInt < 0 := by
        have := Int32.lt_iff_toInt_lt.mp (show v.1 c (o + 42) < 0 by lia)
        exact this
      have e : (v.1 c (o + 42)).toNatClampNeg = (v.1 c (o + 42)).toInt.toNat := rfl
      omega
  refine ⟨by rw [h60]; exact k0, by rw [hf 42 (by omega)]; exact k9, by rw [hf 40 (by omega)]; exact k10, by rw [hf 41 (by omega)]; exact k11, fun j hj => ?_, fun i hi => ?_⟩
  · rw [h60] at hj
    unfold KJ
    rw [hr 32 j (by omega), hr 16 j (by omega), hc j (by omega), hr 8 j (by omega), hr 24 j (by omega), h64, h65]
    exact kj j hj
  · rw [hf 42 (by omega)] at hi
    rw [hr 43 i (by omega)]
    exact ks i hi
theorem one0 : ¬ (1 : Int32) = 0 := by decide
theorem lp_n {x n : Int32} (hn : 0 ≤ n ∧ n ≤ 8) : x ≤ n - 1 ↔ x < n := by
  constructor
  · intro h
    lia
  · intro h
    lia
theorem lp_g {g n : Int32} (hn : n ≤ 8) : (0 ≤ g - 10 ∧ g - 10 < n) ↔ (10 ≤ g ∧ g - 10 < n) := by
  constructor
  · intro h
    have h7 : g - 10 < 8 := by lia
    exact ⟨by lia, h.2⟩
  · intro h
    exact ⟨by lia, h.2⟩
theorem isDoing_e {v : uk_Mem} {g : Int32} (hn : 0 ≤ v.1 60 3 ∧ v.1 60 3 ≤ 8) : e_X7_isDoing v g = if (0 ≤ g ∧ g < v.1 60 3) ∨ (10 ≤ g ∧ g - 10 < v.1 60 3) then 1 else 0 := by
  unfold e_X7_isDoing e_X7_isStuff e_X7_in
  dsimp only
  simp only [lp_n hn, lp_g hn.2]
  generalize v.1 60 3 = n at *
  by_cases h1 : 0 ≤ g ∧ g < n
  · simp only [if_pos h1, if_neg one0, if_pos (Or.inl (b := 10 ≤ g ∧ g - 10 < n) h1)]
  · by_cases h2 : 10 ≤ g ∧ g - 10 < n
    · simp only [if_neg h1, if_pos h2, if_neg one0, if_pos (Or.inr (a := 0 ≤ g ∧ g < n) h2)]
      simp
    · have h3 : ¬ ((0 ≤ g ∧ g < n) ∨ (10 ≤ g ∧ g - 10 < n)) := fun z => z.elim h1 h2
      simp only [if_neg h1, if_neg h2, if_neg h3]
      simp
/-- what the mill's rows need of two parts -/
theorem cook_e {u v : uk_Mem} {b : Nat} {m : Int32} (hv : iv v) (hra : ra v) (hK : KR u v b 62 0) (h0 : 0 ≤ m) (hm : m < v.1 60 3) : (if e_X0_isMade u b m = 0 then 0 else e_X0_isCookable u b m) = e_X7_canCook v m := by
  obtain ⟨-, -, -, -, kj, -⟩ := hK
  have hn : 0 ≤ v.1 60 3 ∧ v.1 60 3 ≤ 8 := iv_at hv 60 3 rfl
  have h7 : m ≤ 7 := by lia
  obtain ⟨j1, -, j3, -, -, j6⟩ := kj m.toNatClampNeg (uk_cll h0 hm)
  have hr := hra m h0 hm h7
  have pm := sg_0 hv (c := 62) (by unfold uk_is51; decide) h0 h7
  unfold e_X0_isMade e_X0_isCookable e_X7_canCook
  dsimp only
  rw [ix_32 h0 h7] at hr ⊢
  simp only [ix_0]
  rw [j1, j3]
  by_cases hk : v.1 62 (m.toNatClampNeg + 32) = 4
  · simp [hk]
  · obtain ⟨a0, a1, b0, b1⟩ := hr.resolve_left hk
    rw [(j6 hk).1, (j6 hk).2]
    generalize v.1 64 m.toNatClampNeg = A at *
    generalize v.1 65 m.toNatClampNeg = B at *
    have ja := (kj A.toNatClampNeg (uk_cll a0 (by lia))).2.2.1
    have jb := (kj B.toNatClampNeg (uk_cll b0 (by lia))).2.2.1
    have pa := sg_0 hv (c := 62) (by unfold uk_is51; decide) a0 (by lia)
    have pb := sg_0 hv (c := 62) (by unfold uk_is51; decide) b0 (by lia)
    rw [ja, jb]
    simp only [Nat.add_zero, hk, if_false]
    generalize v.1 62 m.toNatClampNeg = x at *
    by_cases hab : A = B
    · subst hab
      generalize v.1 62 A.toNatClampNeg = y at *
      grind
    · generalize v.1 62 A.toNatClampNeg = y at *
      generalize v.1 62 B.toNatClampNeg = z at *
      grind
theorem givesB_e {u v : uk_Mem} {m : Int32} (h0 : 0 ≤ m) (h7 : m ≤ 7) : e_X0_givesB u (v.1 62 (m.toNatClampNeg + 32)) (v.1 62 (m.toNatClampNeg + 8)) = e_X7_givesSecond v m := by
  unfold e_X0_givesB e_X7_givesSecond
  dsimp only
  rw [ix_32 h0 h7, ix_8 h0 h7]
theorem turn_e {u v : uk_Mem} {b : Nat} {m : Int32} (hv : iv v) (hra : ra v) (hK : KR u v b 62 0) (h0 : 0 ≤ m) (hm : m < v.1 60 3) : (if e_X0_isMade u b m = 0 then 0 else e_X0_isTurnable u b m) = e_X7_canTurn v m := by
  obtain ⟨-, -, -, -, kj, -⟩ := hK
  have hn : 0 ≤ v.1 60 3 ∧ v.1 60 3 ≤ 8 := iv_at hv 60 3 rfl
  have h7 : m ≤ 7 := by lia
  obtain ⟨j1, -, j3, j4, -, j6⟩ := kj m.toNatClampNeg (uk_cll h0 hm)
  have hr := hra m h0 hm h7
  have pm := sg_0 hv (c := 62) (by unfold uk_is51; decide) h0 h7
  unfold e_X0_isMade e_X0_isTurnable e_X7_canTurn
  dsimp only
  rw [ix_32 h0 h7] at hr ⊢
  simp only [ix_0]
  rw [j1, j3, j4]
  by_cases hk : v.1 62 (m.toNatClampNeg + 32) = 4
  · simp [hk]
  · obtain ⟨a0, a1, b0, b1⟩ := hr.resolve_left hk
    rw [(j6 hk).1, (j6 hk).2]
    simp only [Nat.zero_add]
    rw [givesB_e h0 h7]
    generalize e_X7_givesSecond v m = s at *
    generalize v.1 64 m.toNatClampNeg = A at *
    generalize v.1 65 m.toNatClampNeg = B at *
    have ja := (kj A.toNatClampNeg (uk_cll a0 (by lia))).2.2.1
    have jb := (kj B.toNatClampNeg (uk_cll b0 (by lia))).2.2.1
    have pa := sg_0 hv (c := 62) (by unfold uk_is51; decide) a0 (by lia)
    have pb := sg_0 hv (c := 62) (by unfold uk_is51; decide) b0 (by lia)
    rw [ja, jb]
    simp only [Nat.add_zero, hk, if_false]
    generalize v.1 62 (m.toNatClampNeg + 32) = k at *
    generalize v.1 62 m.toNatClampNeg = x at *
    by_cases k2 : k = 2
    · simp only [if_pos k2]
      simp
    · simp only [if_neg k2]
      by_cases x0 : x = 0
      · simp only [if_pos x0]
        simp
      · simp only [if_neg x0, if_neg one0]
        by_cases hab : A = B
        · subst hab
          generalize v.1 62 A.toNatClampNeg = y at *
          simp only [if_true]
          clear j1 j3 j4 j6 ja jb kj hra hv hr
          by_cases s0 : s = 0
          · simp only [if_pos s0]
            by_cases y4 : 40 ≤ y
            · rw [if_pos y4, if_pos (by lia)]
            · rw [if_neg y4, if_neg (by lia)]
          · simp only [if_neg s0]
            by_cases y4 : 40 < y + 2
            · simp only [if_pos y4]
              simp
            · rw [if_neg y4, if_neg (by lia)]
        · generalize v.1 62 A.toNatClampNeg = y at *
          generalize v.1 62 B.toNatClampNeg = z at *
          simp only [if_neg hab]
          clear j1 j3 j4 j6 ja jb kj hra hv hr
          by_cases s0 : s = 0
          · simp only [if_pos s0]
            by_cases y4 : 40 ≤ y
            · rw [if_pos y4, if_pos (by lia)]
            · rw [if_neg y4, if_neg (by lia)]
          · simp only [if_neg s0]
            by_cases y4 : 40 ≤ y
            · rw [if_pos y4, if_pos (by lia)]
            · rw [if_neg y4, if_neg (show ¬ 40 < y + 1 by lia)]
              by_cases z4 : 40 ≤ z
              · rw [if_pos z4, if_pos (by lia)]
              · rw [if_neg z4, if_neg (by lia)]
theorem able_e {u v : uk_Mem} {b : Nat} {g : Int32} (hv : iv v) (hra : ra v) (hK : KR u v b 62 0) : e_X0_isAble u b g = if e_X7_isDoing v g = 0 then 0 else e_X7_canDo v g := by
  have hn : 0 ≤ v.1 60 3 ∧ v.1 60 3 ≤ 8 := iv_at hv 60 3 rfl
  rw [isDoing_e hn]
  have k0 := hK.1
  unfold e_X0_isAble e_X0_hasStuff e_X6_stuffOf e_X7_canDo
  dsimp only
  rw [k0]
  by_cases h1 : 0 ≤ g ∧ g < v.1 60 3
  · have c := cook_e hv hra hK h1.1 h1.2
    have g0 : ¬ g < 0 := by lia
    have g1 : g < 10 := by lia
    have g2 : ¬ v.1 60 3 ≤ g := by lia
    have g3 : ¬ 10 ≤ g := by lia
    simp only [if_neg g0, if_pos g1, if_neg g2, if_neg g3, if_pos (Or.inl (b := 10 ≤ g ∧ g - 10 < v.1 60 3) h1), if_neg one0]
    exact c
  · by_cases h2 : 10 ≤ g ∧ g - 10 < v.1 60 3
    · have c := turn_e hv hra hK (m := g - 10) (by lia) h2.2
      have g0 : ¬ g < 0 := by lia
      have g1 : ¬ g < 10 := by lia
      have g4 : ¬ g - 10 < 0 := by lia
      have g2 : ¬ v.1 60 3 ≤ g - 10 := by lia
      simp only [if_neg g0, if_neg g1, if_neg g2, if_neg g4, if_pos h2.1, if_pos (Or.inr (a := 0 ≤ g ∧ g < v.1 60 3) h2), if_neg one0]
      exact c
    · rw [if_neg (show ¬ ((0 ≤ g ∧ g < v.1 60 3) ∨ (10 ≤ g ∧ g - 10 < v.1 60 3)) from fun z => z.elim h1 h2), if_pos (show (0 : Int32) = 0 from rfl)]
      by_cases g0 : g < 0
      · rw [if_pos g0]
      · rw [if_neg g0]
        by_cases g1 : g < 10
        · have g2 : v.1 60 3 ≤ g := by lia
          simp only [if_pos g1, if_neg g0, if_pos g2]
          simp
        · have g4 : ¬ g - 10 < 0 := by lia
          have g2 : v.1 60 3 ≤ g - 10 := by lia
          simp only [if_neg g1, if_neg g4, if_pos g2]
          simp
