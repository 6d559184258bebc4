/-! mean: what both divide by -/
theorem rem64 {x y : Int64} (hx : 0 ≤ x.toInt) (hy : 0 < y.toInt) : (x - x / y * y).toInt = x.toInt % y.toInt := by
  have e : (x - x / y * y).toInt = (x.toInt.tmod y.toInt).bmod (2 ^ 64) := by
    rw [Int64.toInt_sub, Int64.toInt_mul, Int64.toInt_div, Int.bmod_mul_bmod, Int.sub_bmod_bmod, Int.tmod_def, Int.mul_comm y.toInt]
  have m1 : Int64.maxValue.toInt = 9223372036854775807 := rfl
  have l2 := Int64.toInt_le y
  have h1 := Int.emod_nonneg x.toInt (show ¬ y.toInt = 0 by omega)
  have h2 := Int.emod_lt_of_pos x.toInt hy
  rw [e, Int.tmod_eq_emod_of_nonneg hx, Int.bmod_eq_of_le (by omega) (by omega)]
theorem div64 {x y : Int64} (hx : 0 ≤ x.toInt) (hy : 0 < y.toInt) : (x / y).toInt = x.toInt / y.toInt := by
  have m1 : Int64.maxValue.toInt = 9223372036854775807 := rfl
  have l1 := Int64.toInt_le x
  have h1 : 0 ≤ x.toInt / y.toInt := Int.ediv_nonneg hx (by omega)
  have h2 : x.toInt / y.toInt ≤ x.toInt := Int.ediv_le_self _ hx
  rw [Int64.toInt_div, Int.tdiv_eq_ediv_of_nonneg hx, Int.bmod_eq_of_le (by omega) (by omega)]
def gcZ (a b : Int) : Int := (Nat.gcd a.toNat b.toNat : Nat)
theorem gcZ_0 {a : Int} (h : 0 ≤ a) : gcZ a 0 = a := by
  unfold gcZ
  rw [show (0 : Int).toNat = 0 from rfl, Nat.gcd_zero_right]
  omega
theorem gcZ_s {a b : Int} (ha : 0 ≤ a) (hb : 0 < b) : gcZ a b = gcZ b (a % b) := by
  unfold gcZ
  rw [Int.toNat_emod ha (by omega), Nat.gcd_comm b.toNat, ← Nat.gcd_rec, Nat.gcd_comm]
theorem com_l : ∀ (K : Nat) (x y : Int64), 0 ≤ x.toInt → 0 ≤ y.toInt → y.toInt.natAbs < K → (l_com K x y).toInt = gcZ x.toInt y.toInt := by
  intro K
  induction K with
  | zero => intro x y _ _ h; omega
  | succ K ih =>
    intro x y hx hy h
    rw [l_com]
    by_cases q : y = 0
    · rw [if_pos q, q, show (0 : Int64).toInt = 0 from rfl, gcZ_0 hx]
    · have hy0 : ¬ y.toInt = 0 := fun z => q (Int64.toInt_inj.mp z)
      have hy1 : 0 < y.toInt := by omega
      have r := rem64 hx hy1
      have h1 := Int.emod_nonneg x.toInt hy0
      have h2 := Int.emod_lt_of_pos x.toInt hy1
      rw [if_neg q, ih y _ hy (by omega) (by omega), r, gcZ_s hx hy1]
theorem common_e {u : uk_Mem} {a b : Int64} (ha : 0 ≤ a.toInt) (hb : 0 ≤ b.toInt) : (e_X7_common u a b).toInt = gcZ a.toInt b.toInt := com_l _ a b ha hb (by omega)
theorem half {h l : Int} (hl : 0 < l) (hh : l ≤ h) : 2 * (h % l) < h := by
  have h1 := Int.emod_nonneg h (show ¬ l = 0 by omega)
  have h2 := Int.emod_lt_of_pos h hl
  have h3 := Int.mul_ediv_add_emod h l
  have h4 : 1 ≤ h / l := by
    rw [Int.le_ediv_iff_mul_le hl]
    omega
  have h5 : l * 1 ≤ l * (h / l) := Int.mul_le_mul_of_nonneg_left h4 (by omega)
  omega
/-- the class goes 128 times at most: each time the product is halved -/
theorem gc_l : ∀ (K i : Nat) (h l : Int64), 128 < i + K → i ≤ 128 → 0 < h.toInt → 0 ≤ l.toInt → l.toInt ≤ h.toInt → h.toInt * l.toInt < 2 ^ (128 - i) → (l_X6_greatestCommon_9 K (nI i) h l).toInt = gcZ h.toInt l.toInt := by
  have z64 : (0 : Int64).toInt = 0 := rfl
  intro K
  induction K with
  | zero => intro i h l h1 h2; omega
  | succ K ih =>
    intro i h l h1 h2 hh hl hlh hp
    rw [l_X6_greatestCommon_9]
    dsimp only
    have hn : ¬ lg_cmp h 0 ≤ 0 := fun q => by
      have := Int64.le_iff_toInt_le.mp ((lg_cmp_le _ _).mp q)
      omega
    by_cases e : i = 128
    · have l0 : l.toInt = 0 := Classical.byContradiction fun q => by
        have h3 : 0 < h.toInt * l.toInt := Int.mul_pos hh (by omega)
        rw [e, show (128 - 128 : Nat) = 0 from rfl, Int.pow_zero] at hp
        omega
      rw [e, if_pos (show (128 : Int32) ≤ nI 128 from by decide), if_neg hn, l0, gcZ_0 (by omega)]
    · rw [if_neg (show ¬ (128 : Int32) ≤ nI i from nI_ge (b := 128) (by omega) (by omega))]
      by_cases q : lg_cmp l 0 ≤ 0
      · have l0 : l.toInt = 0 := by
          have := Int64.le_iff_toInt_le.mp ((lg_cmp_le _ _).mp q)
          omega
        rw [if_pos q, if_neg hn, l0, gcZ_0 (by omega)]
      · have l1 : 0 < l.toInt := Classical.byContradiction fun z => q ((lg_cmp_le _ _).mpr (Int64.le_iff_toInt_le.mpr (by omega)))
        have r := rem64 (x := h) (y := l) (by omega) l1
        have r1 := Int.emod_nonneg h.toInt (show ¬ l.toInt = 0 by omega)
        have r2 := Int.emod_lt_of_pos h.toInt l1
        have hf := half l1 hlh
        rw [if_neg q, nI_1, ih (i + 1) l _ (by omega) (by omega) l1 (by omega) (by omega) ?_, r, gcZ_s (by omega) l1]
        rw [r]
        have p1 : (2 : Int) ^ (128 - i) = 2 * 2 ^ (128 - (i + 1)) := by
          rw [show 128 - i = (128 - (i + 1)) + 1 by omega, Int.pow_succ, Int.mul_comm]
        rw [p1] at hp
        have p2 : l.toInt * (2 * (h.toInt % l.toInt)) ≤ l.toInt * h.toInt := Int.mul_le_mul_of_nonneg_left (by omega) (by omega)
        have p3 : l.toInt * (2 * (h.toInt % l.toInt)) = 2 * (l.toInt * (h.toInt % l.toInt)) := by rw [Int.mul_left_comm]
        have p4 : h.toInt * l.toInt = l.toInt * h.toInt := Int.mul_comm _ _
        omega
theorem gcZ_c {a b : Int} : gcZ a b = gcZ b a := by
  unfold gcZ
  rw [Nat.gcd_comm]
theorem great_e {u : uk_Mem} {a : Int64} (ha : 0 ≤ a.toInt) (ha2 : a.toInt ≤ 1280000000) : (e_X6_greatestCommon u a 10000000).toInt = gcZ a.toInt 10000000 := by
  have zb : (10000000 : Int64).toInt = 10000000 := rfl
  have b1 : (2 : Int) ^ (128 - 0) = 340282366920938463463374607431768211456 := by decide
  have b2 : (2 : Int) ^ (128 - 1) = 170141183460469231731687303715884105728 := by decide
  unfold e_X6_greatestCommon
  by_cases q : a.toInt ≤ 10000000
  · have := gc_l ee_K 0 10000000 a (by unfold ee_K; omega) (by omega) (by omega) ha (by omega) (by rw [b1, zb]; omega)
    rw [show (0 : Int32) = nI 0 from rfl, this, zb, gcZ_c]
  · have e1 : ee_K = 4294967295 + 1 := rfl
    have l1 : 0 < a.toInt := by omega
    have qn : ¬ lg_cmp a 0 ≤ 0 := fun z => by
      have := Int64.le_iff_toInt_le.mp ((lg_cmp_le _ _).mp z)
      have z64 : (0 : Int64).toInt = 0 := rfl
      omega
    have r := rem64 (x := 10000000) (y := a) (by omega) l1
    have rr : (10000000 : Int) % a.toInt = 10000000 := Int.emod_eq_of_lt (by omega) (by omega)
    rw [zb, rr] at r
    rw [e1, l_X6_greatestCommon_9]
    dsimp only
    rw [if_neg (show ¬ (128 : Int32) ≤ 0 from by decide), if_neg qn, show (0 : Int32) + 1 = nI 1 from rfl, gc_l 4294967295 1 a _ (by omega) (by omega) l1 (by omega) (by omega) (by rw [b2, r]; omega), r]
/-- ten times both, ten times what divides both -/
theorem gcZ_10 {a : Int} (h : 0 ≤ a) : gcZ 100000000 (10 * a) = 10 * gcZ a 10000000 := by
  unfold gcZ
  rw [show (100000000 : Int).toNat = 10 * 10000000 from rfl, show (10 * a).toNat = 10 * a.toNat by omega, Nat.gcd_mul_left, show (10000000 : Int).toNat = 10000000 from rfl, Nat.gcd_comm]
  omega
theorem gcZ_pos {a : Int} : 0 < gcZ a 10000000 := by
  unfold gcZ
  have : 0 < Nat.gcd a.toNat (10000000 : Int).toNat := Nat.gcd_pos_of_pos_right _ (by decide)
  omega
