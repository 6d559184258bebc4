theorem pt_step {i : Int32} {a b : Nat} (h0 : 0 ≤ i) (h1 : i ≤ 255) (h : i.toNatClampNeg + a ≤ 255) (hl : b < a) : i + 1 ≤ 255 ∧ (i + 1).toNatClampNeg + b ≤ 255 := by
  have e := uk_c1 h0 (by grind)
  refine ⟨?_, by omega⟩
  have e1 : i.toNatClampNeg = i.toInt.toNat := rfl
  have z : (254 : Int32).toInt = 254 := rfl
  have : i ≤ 254 := by
    apply Int32.le_iff_toInt_le.mpr
    omega
  grind
/-- nothing is asked where none is wanted -/
def az (n : Int32) (A : Nat → Int32) (k : Int32) : Prop := n = 0 → ∀ j : Int32, 0 ≤ j → j < k → A j.toNatClampNeg = 0
theorem az_0 {n : Int32} {A : Nat → Int32} : az n A 0 := fun _ j h0 h1 => absurd h0 (by grind)
theorem az_up {n k x : Int32} {A : Nat → Int32} (h : az n A k) (h0 : 0 ≤ k) (hx : n = 0 → x = 0) : az n (upd A k.toNatClampNeg x) (k + 1) := fun q j j0 j1 => by
  by_cases e : j = k
  · rw [upd_at e]
    exact hx q
  · rw [upd_ne j0 h0 e]
    exact h q j j0 (by grind)
theorem az_le {n k k' : Int32} {A : Nat → Int32} (h : az n A k) (hk : k' ≤ k) : az n A k' := fun q j j0 j1 => h q j j0 (by grind)
theorem az_ne {n k : Int32} {A : Nat → Int32} (h : ¬ n = 0) : az n A k := fun q => absurd q h
/-! the row 'had' -/
def rh (u : uk_Mem) : Prop := rk (u.1 60 3) (u.1 77) (u.1 64) (u.1 65) 32
theorem rh_1 {c i : Nat} {x : Int32} {u : uk_Mem} (h : rh u) (hc : c ≠ 77 ∧ c ≠ 64 ∧ c ≠ 65) (h3 : c = 60 → i ≠ 3) : rh (uk_up u c i x) := by
  unfold rh
  rw [uk_up_at, if_neg (fun q => h3 q.1.symm q.2.symm), uk_up_oc hc.1.symm, uk_up_oc hc.2.1.symm, uk_up_oc hc.2.2.symm]
  exact h
theorem rh_fk {l ks : List Nat} {u u' : uk_Mem} (h : rh u) (f : fk l ks u u') (h0 : 60 ∉ l ∨ (60 = 60 ∧ 3 ∈ ks)) (h1 : 77 ∉ l) (h4 : 64 ∉ l) (h5 : 65 ∉ l) : rh u' := by
  unfold rh
  rw [fk_at f h0, fk_c f h1, fk_c f h4, fk_c f h5]
  exact h
theorem rh_of {u u' : uk_Mem} (h : ri u) (f0 : u'.1 60 3 = u.1 60 3) (f4 : u'.1 64 = u.1 64) (f5 : u'.1 65 = u.1 65) (hc : cpy (u'.1 77) (u.1 61) 51) : rh u' := by
  unfold rh
  rw [f0, f4, f5]
  exact cpy_rk (o := 0) h.1 hc
theorem ri_ofh {u u' : uk_Mem} (h : ri u) (ha : rh u) (f0 : u'.1 60 3 = u.1 60 3) (f3 : u'.1 63 = u.1 63) (f4 : u'.1 64 = u.1 64) (f5 : u'.1 65 = u.1 65) (hc : cpy (u'.1 61) (u.1 77) 51) (hx : cpx (u'.1 61) (u.1 61)) : ri u' := by
  unfold ri
  rw [f0, f3, f4, f5]
  exact ⟨cpy_rk (o := 0) ha hc, h.2.1.imp_right fun q => rk_eq q (fun m m0 m7 => hx (83 + m) (by grind)), h.2.2.imp_right fun q => rk_eq q (fun m m0 m7 => hx (134 + m) (by grind))⟩
/-- the place that is read lies in its sheet -/
theorem rd_ix {k f i s z z2 z3 : Int32} {p : Int64} (hk : 0 ≤ k) (hk3 : k ≤ 3) (hi : 0 ≤ i) (hi2 : i ≤ 20) (hs : s ≤ 40) (hp : p = f.toInt64 + i.toInt64) (c1 : ¬ lg_cmp p 0 < 0) (c2 : lg_cmp p s.toInt64 < 0) (e1 : z = 40 * k) (e2 : z2 = z + f) (e3 : z3 = z2 + i) : 0 ≤ z3 ∧ z3 < 160 := by
  rw [lg_cmp_lt] at c1 c2
  have a := Int32.le_iff_toInt_le.mp hi
  have b := Int32.le_iff_toInt_le.mp hi2
  have c := Int32.le_iff_toInt_le.mp hs
  have f0 := Int32.le_toInt f
  have f1 := Int32.toInt_le f
  have m0 : Int32.minValue.toInt = -2147483648 := rfl
  have m1 : Int32.maxValue.toInt = 2147483647 := rfl
  have y0 : (0 : Int32).toInt = 0 := rfl
  have y1 : (20 : Int32).toInt = 20 := rfl
  have y2 : (40 : Int32).toInt = 40 := rfl
  have hpt : p.toInt = f.toInt + i.toInt := by
    rw [hp, Int64.toInt_add, Int32.toInt_toInt64, Int32.toInt_toInt64]
    apply Int.bmod_eq_of_le <;> omega
  have q1 : 0 ≤ f.toInt + i.toInt := by
    rw [Int64.lt_iff_toInt_lt, hpt] at c1
    have : (0 : Int64).toInt = 0 := rfl
    omega
  have q2 : f.toInt + i.toInt < 40 := by
    rw [Int64.lt_iff_toInt_lt, hpt, Int32.toInt_toInt64] at c2
    omega
  have hq : (f + i).toInt = f.toInt + i.toInt := by
    rw [Int32.toInt_add]
    apply Int.bmod_eq_of_le <;> omega
  have g0 : 0 ≤ f + i := Int32.le_iff_toInt_le.mpr (by rw [hq]; omega)
  have y3 : (39 : Int32).toInt = 39 := rfl
  have g1 : f + i ≤ 39 := Int32.le_iff_toInt_le.mpr (by rw [hq]; omega)
  have e : z3 = 40 * k + (f + i) := by rw [e3, e2, e1, Int32.add_assoc]
  generalize f + i = w at *
  subst e
  clear e3 e2 e1 hp hpt c1 c2
  constructor <;> lia
