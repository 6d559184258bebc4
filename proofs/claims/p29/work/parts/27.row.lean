/-! the row of what lies on the table: its weight falls with every turn -/
theorem uk_cll {i j : Int32} (h0 : 0 ≤ i) (h : i < j) : i.toNatClampNeg < j.toNatClampNeg := by
  have a := Int32.le_iff_toInt_le.mp h0
  have b := Int32.lt_iff_toInt_lt.mp h
  have z : (0 : Int32).toInt = 0 := rfl
  have e1 : i.toNatClampNeg = i.toInt.toNat := rfl
  have e2 : j.toNatClampNeg = j.toInt.toNat := rfl
  omega
theorem uk_c1 {i : Int32} (h0 : 0 ≤ i) (h1 : i ≤ 1000000) : (i + 1).toNatClampNeg = i.toNatClampNeg + 1 := by
  obtain ⟨j, hj, rfl⟩ := nI_of2 (x := i) (M := 1000000) (n := 1000000) rfl (by grind) h1
  rw [nI_1, nI_clamp (by omega), nI_clamp (by omega)]
theorem uk_s1 {i : Int32} (h0 : 1 ≤ i) : (i - 1).toNatClampNeg = i.toNatClampNeg - 1 := by
  obtain ⟨j, hj, rfl⟩ := nI_of (x := i) (by grind)
  have hj1 : 1 ≤ j := by
    rcases Nat.eq_zero_or_pos j with q | q
    · subst q
      exact absurd h0 (by decide)
    · exact q
  have : nI j - 1 = nI (j - 1) := by
    show nI j - nI 1 = _
    rw [pk_sub hj1]
  rw [this, nI_clamp (by omega), nI_clamp (by omega)]
def wt (x : Int32) : Nat := 2 ^ (x.toNatClampNeg + 1) - 1
theorem wt_pos (x : Int32) : 1 ≤ wt x := by
  unfold wt
  have : 1 ≤ 2 ^ x.toNatClampNeg := Nat.one_le_two_pow
  rw [Nat.pow_succ]
  omega
theorem wt_7 {x : Int32} (h0 : 0 ≤ x) (h : x ≤ 7) : wt x ≤ 255 := by
  unfold wt
  have := uk_cln 7 7 rfl h0 h
  have : 2 ^ (x.toNatClampNeg + 1) ≤ 2 ^ 8 := Nat.pow_le_pow_right (by omega) (by omega)
  omega
theorem wt_two {m a b : Int32} (ha : 0 ≤ a) (ham : a < m) (hb : 0 ≤ b) (hbm : b < m) : wt a + wt b < wt m := by
  unfold wt
  have h1 := uk_cll ha ham
  have h2 := uk_cll hb hbm
  have p1 : 2 ^ (a.toNatClampNeg + 1) ≤ 2 ^ m.toNatClampNeg := Nat.pow_le_pow_right (by omega) (by omega)
  have p2 : 2 ^ (b.toNatClampNeg + 1) ≤ 2 ^ m.toNatClampNeg := Nat.pow_le_pow_right (by omega) (by omega)
  have p3 : 1 ≤ 2 ^ (a.toNatClampNeg + 1) := Nat.one_le_two_pow
  have p4 : 1 ≤ 2 ^ (b.toNatClampNeg + 1) := Nat.one_le_two_pow
  rw [Nat.pow_succ 2 m.toNatClampNeg]
  omega
theorem wt_one {m a : Int32} (ha : 0 ≤ a) (ham : a < m) : wt a < wt m := by
  have := wt_two ha ham ha ham
  omega
def pt (R : Nat → Int32) : Nat → Nat
  | 0 => 0
  | n + 1 => pt R n + wt (R n)
theorem pt_ge (R : Nat → Int32) : ∀ n, n ≤ pt R n
  | 0 => Nat.le_refl _
  | n + 1 => by
    have := pt_ge R n
    have := wt_pos (R n)
    unfold pt
    omega
theorem pt_cg {R R' : Nat → Int32} : ∀ n, (∀ i, i < n → R' i = R i) → pt R' n = pt R n
  | 0, _ => rfl
  | n + 1, h => by
    unfold pt
    rw [pt_cg n (fun i hi => h i (by omega)), h n (by omega)]
theorem pt_upd {R : Nat → Int32} {i : Nat} {a : Int32} : ∀ n, i < n → pt (upd R i a) n + wt (R i) = pt R n + wt a
  | 0, h => absurd h (by omega)
  | n + 1, h => by
    unfold pt
    by_cases q : i = n
    · subst q
      rw [pt_cg (R := R) i (fun j hj => by unfold upd; rw [if_neg (by omega)])]
      have : upd R i a i = a := by unfold upd; rw [if_pos rfl]
      rw [this]
      omega
    · have ih := pt_upd (R := R) (i := i) (a := a) n (by omega)
      have : upd R i a n = R n := by unfold upd; rw [if_neg (by omega)]
      rw [this]
      omega
/-- all from k + 1 to n moved up by one -/
def sh (R : Nat → Int32) (n k : Nat) : Nat → Int32 := fun j => if k < j ∧ j ≤ n then R (j - 1) else R j
theorem sh_0 (R : Nat → Int32) (n : Nat) : sh R n n = R := by
  funext j
  unfold sh
  rw [if_neg (by omega)]
theorem sh_s {R : Nat → Int32} {n k : Nat} (h1 : 1 ≤ k) (h : k ≤ n) : upd (sh R n k) k (sh R n k (k - 1)) = sh R n (k - 1) := by
  funext j
  unfold upd
  by_cases q : j = k
  · rw [if_pos q]
    unfold sh
    rw [if_neg (by omega), if_pos (by omega), q]
  · rw [if_neg q]
    unfold sh
    by_cases q2 : k < j ∧ j ≤ n
    · rw [if_pos q2, if_pos (by omega)]
    · rw [if_neg q2, if_neg (by omega)]
theorem pt_sh {R : Nat → Int32} {i : Nat} {b : Int32} : ∀ n, i < n → pt (upd (sh R n (i + 1)) (i + 1) b) (n + 1) = pt R n + wt b
  | 0, h => absurd h (by omega)
  | n + 1, h => by
    by_cases q : i = n
    · subst q
      rw [sh_0]
      show pt _ (i + 1) + wt _ = _
      rw [pt_cg (R := R) (i + 1) (fun j hj => by unfold upd; rw [if_neg (by omega)])]
      have : upd R (i + 1) b (i + 1) = b := by unfold upd; rw [if_pos rfl]
      rw [this]
    · have ih := pt_sh (R := R) (i := i) (b := b) n (by omega)
      show pt _ (n + 1) + wt _ = pt R n + wt (R n) + wt b
      rw [pt_cg (R := upd (sh R n (i + 1)) (i + 1) b) (n + 1) (fun j hj => by
        unfold upd
        by_cases q3 : j = i + 1
        · rw [if_pos q3, if_pos q3]
        · rw [if_neg q3, if_neg q3]
          unfold sh
          by_cases q2 : i + 1 < j ∧ j ≤ n
          · rw [if_pos q2, if_pos (by omega)]
          · rw [if_neg q2, if_neg (by omega)]), ih]
      have : upd (sh R (n + 1) (i + 1)) (i + 1) b (n + 1) = R n := by
        unfold upd
        rw [if_neg (by omega)]
        unfold sh
        rw [if_pos (by omega)]
        rfl
      rw [this]
      omega
def pot (u : uk_Mem) : Nat := pt (u.1 71) (u.1 60 22).toNatClampNeg
def rp (u : uk_Mem) : Prop := (∀ i : Nat, i < (u.1 60 22).toNatClampNeg → u.1 71 i < u.1 60 3) ∧ pot u ≤ 255
theorem rp_mk {u v : uk_Mem} {R : Nat → Int32} {n : Int32} (h71 : v.1 71 = R) (h22 : v.1 60 22 = n) (h3 : v.1 60 3 = u.1 60 3) (hl : ∀ i, i < n.toNatClampNeg → R i < u.1 60 3) (hp : pt R n.toNatClampNeg ≤ 255) : rp v := by
  unfold rp pot
  rw [h71, h22, h3]
  exact ⟨hl, hp⟩
theorem rp_lay {u v : uk_Mem} {R : Nat → Int32} {m : Int32} (h71 : v.1 71 = upd R (0 : Int32).toNatClampNeg m) (h22 : v.1 60 22 = 1) (h3 : v.1 60 3 = u.1 60 3) (h0 : 0 ≤ m) (h7 : m ≤ 7) (hm : m < u.1 60 3) : rp v := by
  have z : (0 : Int32).toNatClampNeg = 0 := rfl
  have z1 : (1 : Int32).toNatClampNeg = 1 := rfl
  have e : upd R 0 m 0 = m := by unfold upd; rw [if_pos rfl]
  rw [z] at h71
  refine rp_mk h71 h22 h3 (fun i hi => ?_) ?_
  · rw [z1] at hi
    rw [show i = 0 by omega, e]
    exact hm
  · rw [z1]
    unfold pt pt
    rw [e]
    have := wt_7 h0 h7
    omega
theorem rp_n {u : uk_Mem} (h : rp u) : (u.1 60 22).toNatClampNeg ≤ 255 := Nat.le_trans (pt_ge _ _) h.2
/-- a thing gives its first part back -/
theorem tn_1 {u v : uk_Mem} (h : rp u) {i m a : Int32} (hi : 0 ≤ i) (hn : i < u.1 60 22) (hm : u.1 71 i.toNatClampNeg = m) (ha : 0 ≤ a) (ham : a < m) (h71 : v.1 71 = upd (u.1 71) i.toNatClampNeg a) (h22 : v.1 60 22 = u.1 60 22) (h3 : v.1 60 3 = u.1 60 3) : rp v ∧ pot v < pot u := by
  have hl := uk_cll hi hn
  have hp := pt_upd (R := u.1 71) (a := a) _ hl
  rw [hm] at hp
  have hw := wt_one ha ham
  have hq : pot v < pot u := by
    unfold pot
    rw [h71, h22]
    omega
  refine ⟨⟨?_, Nat.le_trans (Nat.le_of_lt hq) h.2⟩, hq⟩
  rw [h71, h22, h3]
  intro j hj
  unfold upd
  by_cases q : j = i.toNatClampNeg
  · rw [if_pos q]
    have := h.1 _ hl
    rw [hm] at this
    exact Int32.lt_trans ham this
  · rw [if_neg q]
    exact h.1 j hj
/-- a thing gives both its parts back -/
theorem tn_2 {u v : uk_Mem} (h : rp u) {i m a b : Int32} (hi : 0 ≤ i) (hn : i < u.1 60 22) (hm : u.1 71 i.toNatClampNeg = m) (ha : 0 ≤ a) (ham : a < m) (hb : 0 ≤ b) (hbm : b < m) (h71 : v.1 71 = upd (sh (upd (u.1 71) i.toNatClampNeg a) (u.1 60 22).toNatClampNeg (i + 1).toNatClampNeg) (i + 1).toNatClampNeg b) (h22 : v.1 60 22 = u.1 60 22 + 1) (h3 : v.1 60 3 = u.1 60 3) : rp v ∧ pot v < pot u := by
  have hl := uk_cll hi hn
  have hp := pt_upd (R := u.1 71) (a := a) _ hl
  have hr := pt_sh (R := upd (u.1 71) i.toNatClampNeg a) (b := b) _ hl
  rw [hm] at hp
  have hw := wt_two ha ham hb hbm
  have hN := rp_n h
  have hn1 : u.1 60 22 ≤ 255 := by
    apply Int32.le_iff_toInt_le.mpr
    have e : (u.1 60 22).toNatClampNeg = (u.1 60 22).toInt.toNat := rfl
    have z : (255 : Int32).toInt = 255 := rfl
    omega
  have e1 : (i + 1).toNatClampNeg = i.toNatClampNeg + 1 := uk_c1 hi (by grind)
  have e2 : (u.1 60 22 + 1).toNatClampNeg = (u.1 60 22).toNatClampNeg + 1 := uk_c1 (by grind) (by grind)
  rw [e1] at h71
  have hq : pot v < pot u := by
    unfold pot
    rw [h71, h22, e2]
    omega
  refine ⟨⟨?_, Nat.le_trans (Nat.le_of_lt hq) h.2⟩, hq⟩
  have hms : m < u.1 60 3 := by
    have := h.1 _ hl
    rwa [hm] at this
  have hA : ∀ j, j < (u.1 60 22).toNatClampNeg → upd (u.1 71) i.toNatClampNeg a j < u.1 60 3 := fun j hj => by
    unfold upd
    by_cases q : j = i.toNatClampNeg
    · rw [if_pos q]
      exact Int32.lt_trans ham hms
    · rw [if_neg q]
      exact h.1 j hj
  rw [h71, h22, h3, e2]
  intro j hj
  unfold upd
  by_cases q : j = i.toNatClampNeg + 1
  · rw [if_pos q]
    exact Int32.lt_trans hbm hms
  · rw [if_neg q]
    unfold sh
    by_cases q2 : i.toNatClampNeg + 1 < j ∧ j ≤ (u.1 60 22).toNatClampNeg
    · rw [if_pos q2]
      exact hA _ (by omega)
    · rw [if_neg q2]
      exact hA _ (by omega)
theorem tn_n {u : uk_Mem} (h : rp u) {i m a b : Int32} (hi : 0 ≤ i) (hn : i < u.1 60 22) (hm : u.1 71 i.toNatClampNeg = m) (ha : 0 ≤ a) (ham : a < m) (hb : 0 ≤ b) (hbm : b < m) : u.1 60 22 ≤ 254 := by
  have hl := uk_cll hi hn
  have hp := pt_upd (R := u.1 71) (a := a) _ hl
  have hr := pt_sh (R := upd (u.1 71) i.toNatClampNeg a) (b := b) _ hl
  rw [hm] at hp
  have hw := wt_two ha ham hb hbm
  have hg := pt_ge (upd (sh (upd (u.1 71) i.toNatClampNeg a) (u.1 60 22).toNatClampNeg (i.toNatClampNeg + 1)) (i.toNatClampNeg + 1) b) ((u.1 60 22).toNatClampNeg + 1)
  have h255 := h.2
  unfold pot at h255
  apply Int32.le_iff_toInt_le.mpr
  have e : (u.1 60 22).toNatClampNeg = (u.1 60 22).toInt.toNat := rfl
  have z : (254 : Int32).toInt = 254 := rfl
  omega
theorem pt_step {i : Int32} {a b : Nat} (h0 : 0 ≤ i) (h1 : i ≤ 255) (h : i.toNatClampNeg + a ≤ 255) (hl : b < a) : i + 1 ≤ 255 ∧ (i + 1).toNatClampNeg + b ≤ 255 := by
  have e := uk_c1 h0 (by grind)
  refine ⟨?_, by omega⟩
  have e1 : i.toNatClampNeg = i.toInt.toNat := rfl
  have z : (254 : Int32).toInt = 254 := rfl
  have : i ≤ 254 := by
    apply Int32.le_iff_toInt_le.mpr
    omega
  grind
/-- nothing is asked where none is wanted -/
def az (n : Int32) (A : Nat → Int32) (k : Int32) : Prop := n = 0 → ∀ j : Int32, 0 ≤ j → j < k → A j.toNatClampNeg = 0
theorem az_0 {n : Int32} {A : Nat → Int32} : az n A 0 := fun _ j h0 h1 => absurd h0 (by grind)
theorem az_up {n k x : Int32} {A : Nat → Int32} (h : az n A k) (h0 : 0 ≤ k) (hx : n = 0 → x = 0) : az n (upd A k.toNatClampNeg x) (k + 1) := fun q j j0 j1 => by
  by_cases e : j = k
  · rw [upd_at e]
    exact hx q
  · rw [upd_ne j0 h0 e]
    exact h q j j0 (by grind)
theorem az_le {n k k' : Int32} {A : Nat → Int32} (h : az n A k) (hk : k' ≤ k) : az n A k' := fun q j j0 j1 => h q j j0 (by grind)
theorem az_ne {n k : Int32} {A : Nat → Int32} (h : ¬ n = 0) : az n A k := fun q => absurd q h
/-! the row 'had' -/
def rh (u : uk_Mem) : Prop := rk (u.1 60 3) (u.1 77) (u.1 64) (u.1 65) 32
theorem rh_1 {c i : Nat} {x : Int32} {u : uk_Mem} (h : rh u) (hc : c ≠ 77 ∧ c ≠ 64 ∧ c ≠ 65) (h3 : c = 60 → i ≠ 3) : rh (uk_up u c i x) := by
  unfold rh
  rw [uk_up_at, if_neg (fun q => h3 q.1.symm q.2.symm), uk_up_oc hc.1.symm, uk_up_oc hc.2.1.symm, uk_up_oc hc.2.2.symm]
  exact h
theorem rh_fk {l ks : List Nat} {u u' : uk_Mem} (h : rh u) (f : fk l ks u u') (h0 : 60 ∉ l ∨ (60 = 60 ∧ 3 ∈ ks)) (h1 : 77 ∉ l) (h4 : 64 ∉ l) (h5 : 65 ∉ l) : rh u' := by
  unfold rh
  rw [fk_at f h0, fk_c f h1, fk_c f h4, fk_c f h5]
  exact h
theorem rh_of {u u' : uk_Mem} (h : ri u) (f0 : u'.1 60 3 = u.1 60 3) (f4 : u'.1 64 = u.1 64) (f5 : u'.1 65 = u.1 65) (hc : cpy (u'.1 77) (u.1 61) 51) : rh u' := by
  unfold rh
  rw [f0, f4, f5]
  exact cpy_rk (o := 0) h.1 hc
theorem ri_ofh {u u' : uk_Mem} (h : ri u) (ha : rh u) (f0 : u'.1 60 3 = u.1 60 3) (f3 : u'.1 63 = u.1 63) (f4 : u'.1 64 = u.1 64) (f5 : u'.1 65 = u.1 65) (hc : cpy (u'.1 61) (u.1 77) 51) (hx : cpx (u'.1 61) (u.1 61)) : ri u' := by
  unfold ri
  rw [f0, f3, f4, f5]
  exact ⟨cpy_rk (o := 0) ha hc, h.2.1.imp_right fun q => rk_eq q (fun m m0 m7 => hx (83 + m) (by grind)), h.2.2.imp_right fun q => rk_eq q (fun m m0 m7 => hx (134 + m) (by grind))⟩
/-- the place that is read lies in its sheet -/
theorem rd_ix {k f i s z z2 z3 : Int32} {p : Int64} (hk : 0 ≤ k) (hk3 : k ≤ 3) (hi : 0 ≤ i) (hi2 : i ≤ 20) (hs : s ≤ 40) (hp : p = f.toInt64 + i.toInt64) (c1 : ¬ lg_cmp p 0 < 0) (c2 : lg_cmp p s.toInt64 < 0) (e1 : z = 40 * k) (e2 : z2 = z + f) (e3 : z3 = z2 + i) : 0 ≤ z3 ∧ z3 < 160 := by
  rw [lg_cmp_lt] at c1 c2
  have a := Int32.le_iff_toInt_le.mp hi
  have b := Int32.le_iff_toInt_le.mp hi2
  have c := Int32.le_iff_toInt_le.mp hs
  have f0 := Int32.le_toInt f
  have f1 := Int32.toInt_le f
  have m0 : Int32.minValue.toInt = -2147483648 := rfl
  have m1 : Int32.maxValue.toInt = 2147483647 := rfl
  have y0 : (0 : Int32).toInt = 0 := rfl
  have y1 : (20 : Int32).toInt = 20 := rfl
  have y2 : (40 : Int32).toInt = 40 := rfl
  have hpt : p.toInt = f.toInt + i.toInt := by
    rw [hp, Int64.toInt_add, Int32.toInt_toInt64, Int32.toInt_toInt64]
    apply Int.bmod_eq_of_le <;> omega
  have q1 : 0 ≤ f.toInt + i.toInt := by
    rw [Int64.lt_iff_toInt_lt, hpt] at c1
    have : (0 : Int64).toInt = 0 := rfl
    omega
  have q2 : f.toInt + i.toInt < 40 := by
    rw [Int64.lt_iff_toInt_lt, hpt, Int32.toInt_toInt64] at c2
    omega
  have hq : (f + i).toInt = f.toInt + i.toInt := by
    rw [Int32.toInt_add]
    apply Int.bmod_eq_of_le <;> omega
  have g0 : 0 ≤ f + i := Int32.le_iff_toInt_le.mpr (by rw [hq]; omega)
  have y3 : (39 : Int32).toInt = 39 := rfl
  have g1 : f + i ≤ 39 := Int32.le_iff_toInt_le.mpr (by rw [hq]; omega)
  have e : z3 = 40 * k + (f + i) := by rw [e3, e2, e1, Int32.add_assoc]
  generalize f + i = w at *
  subst e
  clear e3 e2 e1 hp hpt c1 c2
  constructor <;> lia
/-! the images -/
def cpi (A B : Nat → Int32) (to o k : Int32) : Prop := ∀ i : Int32, 0 ≤ i → i ≤ 152 → A i.toNatClampNeg = if to ≤ i ∧ i < to + k then B (o + (i - to)).toNatClampNeg else B i.toNatClampNeg
theorem cpi_0 {A : Nat → Int32} {to o : Int32} (h : 0 ≤ to) (h1 : to ≤ 102) : cpi A A to o 0 := fun i h0 h1 => by
  rw [if_neg (by grind)]
theorem cpi_up {A B : Nat → Int32} {to o k x z : Int32} (h : cpi A B to o k) (h0 : 0 ≤ k) (h1 : k < 51) (t0 : 0 ≤ to) (t1 : to ≤ 102) (o0 : 0 ≤ o) (o1 : o ≤ 102) (hz : z = to + k) (hto : o + 51 ≤ to ∨ to + 51 ≤ o) (hx : x = A (o + k).toNatClampNeg) : cpi (upd A z.toNatClampNeg x) B to o (k + 1) := fun i i0 i1 => by
  subst hz
  have hA := h (o + k) (by grind) (by grind)
  have hnn : ¬ (to ≤ o + k ∧ o + k < to + k) := fun q => by
    rcases hto with z | z
    · have := q.1
      lia
    · have := q.2
      lia
  rw [if_neg hnn] at hA
  by_cases q : i = to + k
  · rw [upd_at q, hx, hA, if_pos (by grind), show o + (i - to) = o + k by grind]
  · rw [upd_ne i0 (by grind) q, h i i0 i1]
    by_cases q2 : to ≤ i ∧ i < to + k
    · rw [if_pos q2, if_pos (by grind)]
    · rw [if_neg q2, if_neg (by grind)]
theorem iv_img {u v : uk_Mem} (h : iv v) (hu : iv u) {to o k z w x : Int32} (ht : to = 0 ∨ to = 51 ∨ to = 102) (ho : o = 0 ∨ o = 51 ∨ o = 102) (h0 : 0 ≤ k) (h1 : k < 51) (hz : z = to + k) (hw : w = o + k) (hx : x = u.1 61 w.toNatClampNeg) : iv (uk_up v 61 z.toNatClampNeg x) := by
  obtain ⟨j, hj, rfl⟩ := nI_of2 (x := k) (M := 50) (n := 50) rfl (by grind) (by grind)
  have key : ∀ t : Int32, t = 0 ∨ t = 51 ∨ t = 102 → uk_rg 61 (t + nI j).toNatClampNeg = uk_rg 61 j := by
    intro t ht
    rcases ht with rfl | rfl | rfl
    · rw [Int32.zero_add, nI_clamp (by omega)]
    · rw [show (51 : Int32) = nI 51 from rfl, nI_add, nI_clamp (by omega)]
      exact sg_t8 j (by omega)
    · rw [show (102 : Int32) = nI 102 from rfl, nI_add, nI_clamp (by omega)]
      exact sg_t9 j (by omega)
  have hr := hu 61 w.toNatClampNeg
  rw [← hx, hw, key o ho] at hr
  rw [hz]
  exact iv_up h (lo := (uk_rg 61 j).1) (hi := (uk_rg 61 j).2) (key to ht) hr.1 hr.2
/-- an image is kept -/
theorem ri_keep {u u' : uk_Mem} (h : ri u) {k to : Int32} (hk : (k = 0 ∧ to = 51) ∨ (k = 1 ∧ to = 102)) (f0 : u'.1 60 3 = u.1 60 3) (f3 : u'.1 63 = upd (u.1 63) k.toNatClampNeg 1) (f4 : u'.1 64 = u.1 64) (f5 : u'.1 65 = u.1 65) (hc : cpi (u'.1 61) (u.1 61) to 0 51) : ri u' := by
  unfold ri
  rw [f0, f3, f4, f5]
  rcases hk with ⟨rfl, rfl⟩ | ⟨rfl, rfl⟩
  · refine ⟨rk_eq h.1 (fun m m0 m7 => ?_), Or.inr (rk_eq h.1 (fun m m0 m7 => ?_)), ?_⟩
    · rw [hc (32 + m) (by grind) (by grind), if_neg (by grind)]
    · rw [hc (83 + m) (by grind) (by grind), if_pos (by grind), show (0 : Int32) + (83 + m - 51) = 32 + m by grind]
    · have : upd (u.1 63) (0 : Int32).toNatClampNeg 1 1 = u.1 63 1 := by unfold upd; rw [if_neg (by decide)]
      rw [this]
      refine h.2.2.imp_right fun q => rk_eq q (fun m m0 m7 => ?_)
      rw [hc (134 + m) (by grind) (by grind), if_neg (by grind)]
  · refine ⟨rk_eq h.1 (fun m m0 m7 => ?_), ?_, Or.inr (rk_eq h.1 (fun m m0 m7 => ?_))⟩
    · rw [hc (32 + m) (by grind) (by grind), if_neg (by grind)]
    · have : upd (u.1 63) (1 : Int32).toNatClampNeg 1 0 = u.1 63 0 := by unfold upd; rw [if_neg (by decide)]
      rw [this]
      refine h.2.1.imp_right fun q => rk_eq q (fun m m0 m7 => ?_)
      rw [hc (83 + m) (by grind) (by grind), if_neg (by grind)]
    · rw [hc (134 + m) (by grind) (by grind), if_pos (by grind), show (0 : Int32) + (134 + m - 102) = 32 + m by grind]
/-- an image comes back -/
theorem ri_back {u u' : uk_Mem} (h : ri u) {k o : Int32} (hk : (k = 0 ∧ o = 51) ∨ (k = 1 ∧ o = 102)) (h1 : ¬ u.1 63 k.toNatClampNeg = 0) (f0 : u'.1 60 3 = u.1 60 3) (f3 : u'.1 63 = u.1 63) (f4 : u'.1 64 = u.1 64) (f5 : u'.1 65 = u.1 65) (hc : cpi (u'.1 61) (u.1 61) 0 o 51) : ri u' := by
  unfold ri
  rw [f0, f3, f4, f5]
  have e1 : ∀ m : Int32, 0 ≤ m → m ≤ 7 → u'.1 61 (83 + m).toNatClampNeg = u.1 61 (83 + m).toNatClampNeg := fun m m0 m7 => by
    rw [hc (83 + m) (by grind) (by grind), if_neg (by grind)]
  have e2 : ∀ m : Int32, 0 ≤ m → m ≤ 7 → u'.1 61 (134 + m).toNatClampNeg = u.1 61 (134 + m).toNatClampNeg := fun m m0 m7 => by
    rw [hc (134 + m) (by grind) (by grind), if_neg (by grind)]
  refine ⟨?_, h.2.1.imp_right fun q => rk_eq q e1, h.2.2.imp_right fun q => rk_eq q e2⟩
  rcases hk with ⟨rfl, rfl⟩ | ⟨rfl, rfl⟩
  · refine rk_eq (h.2.1.resolve_left h1) (fun m m0 m7 => ?_)
    rw [hc (32 + m) (by grind) (by grind), if_pos (by grind), show (51 : Int32) + (32 + m - 0) = 83 + m by grind]
  · refine rk_eq (h.2.2.resolve_left h1) (fun m m0 m7 => ?_)
    rw [hc (32 + m) (by grind) (by grind), if_pos (by grind), show (102 : Int32) + (32 + m - 0) = 134 + m by grind]
