def rd (u : uk_Mem) : Prop := rk (u.1 60 7) (u.1 66) (u.1 67) (u.1 68) 32
def rf (u : uk_Mem) : Prop := u.1 60 18 = 0 → rd u
theorem rd_fk {l ks : List Nat} {u u' : uk_Mem} (h : rd u) (f : fk l ks u u') (h7 : 60 ∉ l ∨ (60 = 60 ∧ 7 ∈ ks)) (h1 : 66 ∉ l) (h2 : 67 ∉ l) (h3 : 68 ∉ l) : rd u' := by
  unfold rd
  rw [fk_at f h7, fk_c f h1, fk_c f h2, fk_c f h3]
  exact h
theorem rf_mono {l ks : List Nat} {u u' : uk_Mem} (h : rf u) (f : fk l ks u u') (hm : u'.1 60 18 = 0 → u.1 60 18 = 0) (h7 : 60 ∉ l ∨ (60 = 60 ∧ 7 ∈ ks)) (h1 : 66 ∉ l) (h2 : 67 ∉ l) (h3 : 68 ∉ l) : rf u' := fun q => rd_fk (h (hm q)) f h7 h1 h2 h3
theorem rd_0 {u : uk_Mem} (h : u.1 60 7 = 0) : rd u := fun m h0 h1 _ => by
  rw [h] at h1
  exact absurd h0 (by grind)
theorem upd_ne {K : Nat → Int32} {i j x : Int32} (hi : 0 ≤ i) (hj : 0 ≤ j) (h : ¬ i = j) : upd K j.toNatClampNeg x i.toNatClampNeg = K i.toNatClampNeg := by
  unfold upd
  rw [if_neg (fun q => h (uk_cinj hi hj q))]
theorem upd_at {K : Nat → Int32} {i j x : Int32} (h : i = j) : upd K j.toNatClampNeg x i.toNatClampNeg = x := by
  unfold upd
  rw [h, if_pos rfl]
theorem rd_st {n : Int32} {K K' A A' B B' : Nat → Int32} {kind a b : Int32} (h0 : 0 ≤ n) (h7 : n ≤ 7) (h : rk n K A B 32) (hK : ∀ i : Int32, 32 ≤ i → i ≤ 39 → ¬ i = 32 + n → K' i.toNatClampNeg = K i.toNatClampNeg) (hn : K' (32 + n).toNatClampNeg = kind) (hA : A' = upd A n.toNatClampNeg a) (hB : B' = upd B n.toNatClampNeg b) (hk : kind = 4 ∨ (0 ≤ a ∧ a < n ∧ 0 ≤ b ∧ b < n)) : rk (n + 1) K' A' B' 32 := by
  intro m m0 m1 m2
  by_cases q : m = n
  · subst q
    rw [hn, hA, hB, upd_at rfl, upd_at rfl]
    exact hk
  · rw [hK (32 + m) (by grind) (by grind) (by grind), hA, hB, upd_ne m0 h0 q, upd_ne m0 h0 q]
    exact h m m0 (by grind) m2
/-- the first k places are alike -/
def cpy (A B : Nat → Int32) (k : Int32) : Prop := ∀ i : Int32, 0 ≤ i → i < k → A i.toNatClampNeg = B i.toNatClampNeg
theorem cpy_0 {A B : Nat → Int32} : cpy A B 0 := fun i h0 h1 => absurd h0 (by grind)
theorem cpy_up {A B : Nat → Int32} {k x : Int32} (h : cpy A B k) (h0 : 0 ≤ k) (hx : x = B k.toNatClampNeg) : cpy (upd A k.toNatClampNeg x) B (k + 1) := fun i i0 i1 => by
  by_cases q : i = k
  · rw [upd_at q, hx, q]
  · rw [upd_ne i0 h0 q]
    exact h i i0 (by grind)
theorem cpy_rk {n o : Int32} {K K' A B : Nat → Int32} (h : rk n K A B 32) (hc : cpy K' K 51) : rk n K' A B 32 := rk_eq h (fun m m0 m7 => hc (32 + m) (by grind) (by grind))
theorem ri_draft {u u' : uk_Mem} (h : rd u) (h3 : u'.1 60 3 = u.1 60 7) (h8 : u.1 60 7 ≤ 8) (h1 : cpy (u'.1 61) (u.1 66) 51) (h4 : cpy (u'.1 64) (u.1 67) (u.1 60 7)) (h5 : cpy (u'.1 65) (u.1 68) (u.1 60 7)) (k0 : u'.1 63 0 = 0) (k1 : u'.1 63 1 = 0) : ri u' := by
  refine ⟨?_, Or.inl k0, Or.inl k1⟩
  intro m m0 m1 m7
  rw [h3] at m1
  rw [h1 (32 + m) (by grind) (by grind), h4 m m0 m1, h5 m m0 m1]
  exact h m m0 m1 m7
theorem cpy_le {A B : Nat → Int32} {k n : Int32} (h : cpy A B k) (hn : n ≤ k) : cpy A B n := fun i i0 i1 => h i i0 (by grind)
theorem rf_1 {u : uk_Mem} {i : Nat} {x : Int32} (h : rf u) (hi : i ≠ 7 ∧ i ≠ 18) : rf (uk_up u 60 i x) := by
  intro q
  rw [uk_up_at, if_neg (fun z => hi.2 z.2.symm)] at q
  unfold rd
  rw [uk_up_at, if_neg (fun z => hi.1 z.2.symm), uk_up_oc (by decide), uk_up_oc (by decide), uk_up_oc (by decide)]
  exact h q
def tx_ms (u : uk_Mem) : Int32 := if u.1 60 18 = 0 then u.1 60 15 else 161
theorem tx_b {u : uk_Mem} (h : iv u) : 0 ≤ tx_ms u ∧ tx_ms u ≤ 161 := by
  have := iv_at h 60 15 (lo := 0) (hi := 160) rfl
  unfold tx_ms
  split <;> grind
theorem tx_lt {u v : uk_Mem} {i : Int32} (hi : tx_ms u = i) (hu : iv u) (h0 : u.1 60 18 = 0) (h : v.1 60 18 = 0 → u.1 60 15 + 3 ≤ v.1 60 15) : i < tx_ms v := by
  have := iv_at hu 60 15 (lo := 0) (hi := 160) rfl
  unfold tx_ms at *
  rw [if_pos h0] at hi
  split <;> grind
/-- the places from 51 on are alike -/
def cpx (A B : Nat → Int32) : Prop := ∀ i : Int32, 51 ≤ i → A i.toNatClampNeg = B i.toNatClampNeg
theorem cpx_rf {A : Nat → Int32} : cpx A A := fun _ _ => rfl
theorem cpx_up {A B : Nat → Int32} {k x : Int32} (h : cpx A B) (h0 : 0 ≤ k) (h1 : k < 51) : cpx (upd A k.toNatClampNeg x) B := fun i i0 => by
  rw [upd_ne (by grind) h0 (by grind)]
  exact h i i0
theorem ra_of {u u' : uk_Mem} (h : ri u) (f0 : u'.1 60 3 = u.1 60 3) (f4 : u'.1 64 = u.1 64) (f5 : u'.1 65 = u.1 65) (hc : cpy (u'.1 62) (u.1 61) 51) : ra u' := by
  unfold ra
  rw [f0, f4, f5]
  exact cpy_rk (o := 0) h.1 hc
theorem ri_of {u u' : uk_Mem} (h : ri u) (ha : ra u) (f0 : u'.1 60 3 = u.1 60 3) (f3 : u'.1 63 = u.1 63) (f4 : u'.1 64 = u.1 64) (f5 : u'.1 65 = u.1 65) (hc : cpy (u'.1 61) (u.1 62) 51) (hx : cpx (u'.1 61) (u.1 61)) : ri u' := by
  unfold ri
  rw [f0, f3, f4, f5]
  exact ⟨cpy_rk (o := 0) ha hc, h.2.1.imp_right fun q => rk_eq q (fun m m0 m7 => hx (83 + m) (by grind)), h.2.2.imp_right fun q => rk_eq q (fun m m0 m7 => hx (134 + m) (by grind))⟩
