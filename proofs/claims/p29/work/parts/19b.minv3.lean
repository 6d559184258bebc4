theorem uk_a15 {x z : Int32} (h : z = x &&& 32767) : 0 ≤ z ∧ z ≤ 32767 := by
  obtain ⟨j, hj, e⟩ := pk_andE x (m := 32767) 15 rfl
  rw [h, e]
  exact ⟨nI_pos' (by omega), nI_le (a := j) (b := 32767) (by omega) (by omega)⟩
theorem uk_mod {x y z : Int32} (h : z = x - x / y * y) (hx : 0 ≤ x) (hy : 0 < y) : 0 ≤ z ∧ z < y := by
  obtain ⟨a, ha, rfl⟩ := nI_of (x := x) (by grind)
  obtain ⟨b, hb, rfl⟩ := nI_of (x := y) (by grind)
  have b0 : 0 < b := by
    rcases Nat.eq_zero_or_pos b with q | q
    · subst q
      exact absurd hy (by decide)
    · exact q
  rw [h, pk_rem ha b0 hb]
  have := Nat.mod_lt a b0
  exact ⟨nI_pos' (by omega), nI_lt this hb⟩
theorem uk_r10 {g z : Int32} (h : z = g - g / 10 * 10) : (0 ≤ g → g ≤ 9 → z = g) ∧ (10 ≤ g → g ≤ 17 → z = g - 10) := by
  have t : (10 : Int32) = nI 10 := rfl
  constructor
  · intro h0 h1
    obtain ⟨j, hj, e⟩ := nI_of2 (x := g) (M := 9) (n := 9) rfl (by grind) h1
    rw [h, t, e, pk_rem (by omega) (by omega) (by omega), Nat.mod_eq_of_lt (by omega)]
  · intro h0 h1
    obtain ⟨j, hj, e⟩ := nI_of2 (x := g) (M := 17) (n := 17) rfl (by grind) h1
    have hj2 : 10 ≤ j := by
      rw [t, e] at h0
      exact (nI_leI (a := 10) (b := j) (by omega) (by omega)).mp h0
    rw [h, t, e, pk_rem (by omega) (by omega) (by omega), pk_sub hj2]
    congr 1
    omega
theorem dl_1 {x y c : Int32} (e : x = y - (-1)) (hy : y = c) (h0 : 0 ≤ c) (h1 : c < 40) : 0 ≤ x ∧ x ≤ 40 := by
  subst e
  subst hy
  constructor <;> lia
theorem dl_2 {x y c : Int32} (e : x = y - 1) (hy : y = c) (h0 : 1 ≤ c) (h1 : c ≤ 40) : 0 ≤ x ∧ x ≤ 40 := by
  subst e
  subst hy
  constructor <;> lia
theorem dl_3 {x y c : Int32} (e : x = y + (-1)) (hy : y = c) (h0 : 1 ≤ c) (h1 : c ≤ 40) : 0 ≤ x ∧ x ≤ 40 := by
  subst e
  subst hy
  constructor <;> lia
theorem dl_4 {x y c : Int32} (e : x = y + 1) (hy : y = c) (h0 : 0 ≤ c) (h1 : c < 40) : 0 ≤ x ∧ x ≤ 40 := by
  subst e
  subst hy
  constructor <;> lia
theorem dl_5 {x y w v a b ca cb : Int32} (e : x = y + (-1)) (hy : (b = a → y = w) ∧ (¬ b = a → y = cb)) (ew : w = v + (-1)) (hv : v = ca) (p : a = b → 2 ≤ ca) (q : ¬ a = b → 1 ≤ ca ∧ 1 ≤ cb) (r : ca ≤ 40) (r2 : cb ≤ 40) : 0 ≤ x ∧ x ≤ 40 := by
  by_cases z : a = b
  · have h1 := hy.1 z.symm
    have h2 := p z
    subst e h1 ew hv
    constructor <;> lia
  · have h1 := hy.2 (fun k => z k.symm)
    have h2 := (q z).2
    subst e h1
    constructor <;> lia
theorem dl_6 {x y w v a b ca cb : Int32} (e : x = y + 1) (hy : (b = a → y = w) ∧ (¬ b = a → y = cb)) (ew : w = v + 1) (hv : v = ca) (p : a = b → ca + 2 ≤ 40) (q : ¬ a = b → cb < 40) (r : 0 ≤ ca ∧ ca < 40) (r2 : 0 ≤ cb) : 0 ≤ x ∧ x ≤ 40 := by
  by_cases z : a = b
  · have h1 := hy.1 z.symm
    have h2 := p z
    obtain ⟨r0, r1⟩ := r
    subst e h1 ew hv
    constructor <;> lia
  · have h1 := hy.2 (fun k => z k.symm)
    have h2 := q z
    subst e h1
    constructor <;> lia
theorem dl_7 {x y w v a b ca cb : Int32} (e : x = y + 0) (hy : (b = a → y = w) ∧ (¬ b = a → y = cb)) (ew : w = v + 1) (hv : v = ca) (r : 0 ≤ ca ∧ ca < 40) (r2 : 0 ≤ cb ∧ cb ≤ 40) : 0 ≤ x ∧ x ≤ 40 := by
  obtain ⟨r0, r1⟩ := r
  obtain ⟨s0, s1⟩ := r2
  by_cases z : a = b
  · have h1 := hy.1 z.symm
    subst e h1 ew hv
    constructor <;> lia
  · have h1 := hy.2 (fun k => z k.symm)
    subst e h1
    constructor <;> lia
