abbrev q_X7_drift (u : uk_Mem) (s : Int32) (n : Int32) (w : Int32) (r : Option Value) (u' : uk_Mem) : Prop := (∃ x : Int32, r = some (.int x) ∧ True) ∧ (iv u' ∧ fk [62] [] u u' ∧ ri u')
/-! the row of what lies on the table: its weight falls with every turn -/
theorem uk_cll {i j : Int32} (h0 : 0 ≤ i) (h : i < j) : i.toNatClampNeg < j.toNatClampNeg := by
  have a := Int32.le_iff_toInt_le.mp h0
  have b := Int32.lt_iff_toInt_lt.mp h
  have z : (0 : Int32).toInt = 0 := rfl
  have e1 : i.toNatClampNeg = i.toInt.toNat := rfl
  have e2 : j.toNatClampNeg = j.toInt.toNat := rfl
  omega
theorem uk_c1 {i : Int32} (h0 : 0 ≤ i) (h1 : i ≤ 1000000) : (i + 1).toNatClampNeg = i.toNatClampNeg + 1 := by
  obtain ⟨j, hj, rfl⟩ := nI_of2 (x := i) (M := 1000000) (n := 1000000) rfl (by grind) h1
  rw [nI_1, nI_clamp (by omega), nI_clamp (by omega)]
theorem uk_s1 {i : Int32} (h0 : 1 ≤ i) : (i - 1).toNatClampNeg = i.toNatClampNeg - 1 := by
  obtain ⟨j, hj, rfl⟩ := nI_of (x := i) (by grind)
  have hj1 : 1 ≤ j := by
    rcases Nat.eq_zero_or_pos j with q | q
    · subst q
      exact absurd h0 (by decide)
    · exact q
  have : nI j - 1 = nI (j - 1) := by
    show nI j - nI 1 = _
    rw [pk_sub hj1]
  rw [this, nI_clamp (by omega), nI_clamp (by omega)]
def wt (x : Int32) : Nat := 2 ^ (x.toNatClampNeg + 1) - 1
theorem wt_pos (x : Int32) : 1 ≤ wt x := by
  unfold wt
  have : 1 ≤ 2 ^ x.toNatClampNeg := Nat.one_le_two_pow
  rw [Nat.pow_succ]
  omega
theorem wt_7 {x : Int32} (h0 : 0 ≤ x) (h : x ≤ 7) : wt x ≤ 255 := by
  unfold wt
  have := uk_cln 7 7 rfl h0 h
  have : 2 ^ (x.toNatClampNeg + 1) ≤ 2 ^ 8 := Nat.pow_le_pow_right (by omega) (by omega)
  omega
theorem wt_two {m a b : Int32} (ha : 0 ≤ a) (ham : a < m) (hb : 0 ≤ b) (hbm : b < m) : wt a + wt b < wt m := by
  unfold wt
  have h1 := uk_cll ha ham
  have h2 := uk_cll hb hbm
  have p1 : 2 ^ (a.toNatClampNeg + 1) ≤ 2 ^ m.toNatClampNeg := Nat.pow_le_pow_right (by omega) (by omega)
  have p2 : 2 ^ (b.toNatClampNeg + 1) ≤ 2 ^ m.toNatClampNeg := Nat.pow_le_pow_right (by omega) (by omega)
  have p3 : 1 ≤ 2 ^ (a.toNatClampNeg + 1) := Nat.one_le_two_pow
  have p4 : 1 ≤ 2 ^ (b.toNatClampNeg + 1) := Nat.one_le_two_pow
  rw [Nat.pow_succ 2 m.toNatClampNeg]
  omega
theorem wt_one {m a : Int32} (ha : 0 ≤ a) (ham : a < m) : wt a < wt m := by
  have := wt_two ha ham ha ham
  omega
def pt (R : Nat → Int32) : Nat → Nat
  | 0 => 0
  | n + 1 => pt R n + wt (R n)
theorem pt_ge (R : Nat → Int32) : ∀ n, n ≤ pt R n
  | 0 => Nat.le_refl _
  | n + 1 => by
    have := pt_ge R n
    have := wt_pos (R n)
    unfold pt
    omega
theorem pt_cg {R R' : Nat → Int32} : ∀ n, (∀ i, i < n → R' i = R i) → pt R' n = pt R n
  | 0, _ => rfl
  | n + 1, h => by
    unfold pt
    rw [pt_cg n (fun i hi => h i (by omega)), h n (by omega)]
theorem pt_upd {R : Nat → Int32} {i : Nat} {a : Int32} : ∀ n, i < n → pt (upd R i a) n + wt (R i) = pt R n + wt a
  | 0, h => absurd h (by omega)
  | n + 1, h => by
    unfold pt
    by_cases q : i = n
    · subst q
      rw [pt_cg (R := R) i (fun j hj => by unfold upd; rw [if_neg (by omega)])]
      have : upd R i a i = a := by unfold upd; rw [if_pos rfl]
      rw [this]
      omega
    · have ih := pt_upd (R := R) (i := i) (a := a) n (by omega)
      have : upd R i a n = R n := by unfold upd; rw [if_neg (by omega)]
      rw [this]
      omega
/-- all from k + 1 to n moved up by one -/
def sh (R : Nat → Int32) (n k : Nat) : Nat → Int32 := fun j => if k < j ∧ j ≤ n then R (j - 1) else R j
theorem sh_0 (R : Nat → Int32) (n : Nat) : sh R n n = R := by
  funext j
  unfold sh
  rw [if_neg (by omega)]
theorem sh_s {R : Nat → Int32} {n k : Nat} (h1 : 1 ≤ k) (h : k ≤ n) : upd (sh R n k) k (sh R n k (k - 1)) = sh R n (k - 1) := by
  funext j
  unfold upd
  by_cases q : j = k
  · rw [if_pos q]
    unfold sh
    rw [if_neg (by omega), if_pos (by omega), q]
  · rw [if_neg q]
    unfold sh
    by_cases q2 : k < j ∧ j ≤ n
    · rw [if_pos q2, if_pos (by omega)]
    · rw [if_neg q2, if_neg (by omega)]
theorem pt_sh {R : Nat → Int32} {i : Nat} {b : Int32} : ∀ n, i < n → pt (upd (sh R n (i + 1)) (i + 1) b) (n + 1) = pt R n + wt b
  | 0, h => absurd h (by omega)
  | n + 1, h => by
    by_cases q : i = n
    · subst q
      rw [sh_0]
      show pt _ (i + 1) + wt _ = _
      rw [pt_cg (R := R) (i + 1) (fun j hj => by unfold upd; rw [if_neg (by omega)])]
      have : upd R (i + 1) b (i + 1) = b := by unfold upd; rw [if_pos rfl]
      rw [this]
    · have ih := pt_sh (R := R) (i := i) (b := b) n (by omega)
      show pt _ (n + 1) + wt _ = pt R n + wt (R n) + wt b
      rw [pt_cg (R := upd (sh R n (i + 1)) (i + 1) b) (n + 1) (fun j hj => by
        unfold upd
        by_cases q3 : j = i + 1
        · rw [if_pos q3, if_pos q3]
        · rw [if_neg q3, if_neg q3]
          unfold sh
          by_cases q2 : i + 1 < j ∧ j ≤ n
          · rw [if_pos q2, if_pos (by omega)]
          · rw [if_neg q2, if_neg (by omega)]), ih]
      have : upd (sh R (n + 1) (i + 1)) (i + 1) b (n + 1) = R n := by
        unfold upd
        rw [if_neg (by omega)]
        unfold sh
        rw [if_pos (by omega)]
        rfl
      rw [this]
      omega
