/-! the row of what lies on the table: its weight falls with every turn -/
theorem uk_cll {i j : Int32} (h0 : 0 ≤ i) (h : i < j) : i.toNatClampNeg < j.toNatClampNeg := by
  have a := Int32.le_iff_toInt_le.mp h0
  have b := Int32.lt_iff_toInt_lt.mp h
  have z : (0 : Int32).toInt = 0 := rfl
  have e1 : i.toNatClampNeg = i.toInt.toNat := rfl
  have e2 : j.toNatClampNeg = j.toInt.toNat := rfl
  omega
theorem uk_c1 {i : Int32} (h0 : 0 ≤ i) (h1 : i ≤ 1000000) : (i + 1).toNatClampNeg = i.toNatClampNeg + 1 := by
  obtain ⟨j, hj, rfl⟩ := nI_of2 (x := i) (M := 1000000) (n := 1000000) rfl (by grind) h1
  rw [nI_1, nI_clamp (by omega), nI_clamp (by omega)]
theorem uk_s1 {i : Int32} (h0 : 1 ≤ i) : (i - 1).toNatClampNeg = i.toNatClampNeg - 1 := by
  obtain ⟨j, hj, rfl⟩ := nI_of (x := i) (by grind)
  have hj1 : 1 ≤ j := by
    rcases Nat.eq_zero_or_pos j with q | q
    · subst q
      exact absurd h0 (by decide)
    · exact q
  have : nI j - 1 = nI (j - 1) := by
    show nI j - nI 1 = _
    rw [pk_sub hj1]
  rw [this, nI_clamp (by omega), nI_clamp (by omega)]
def wt (x : Int32) : Nat := 2 ^ (x.toNatClampNeg + 1) - 1
theorem wt_pos (x : Int32) : 1 ≤ wt x := by
  unfold wt
  have : 1 ≤ 2 ^ x.toNatClampNeg := Nat.one_le_two_pow
  rw [Nat.pow_succ]
  omega
theorem wt_7 {x : Int32} (h0 : 0 ≤ x) (h : x ≤ 7) : wt x ≤ 255 := by
  unfold wt
  have := uk_cln 7 7 rfl h0 h
  have : 2 ^ (x.toNatClampNeg + 1) ≤ 2 ^ 8 := Nat.pow_le_pow_right (by omega) (by omega)
  omega
theorem wt_two {m a b : Int32} (ha : 0 ≤ a) (ham : a < m) (hb : 0 ≤ b) (hbm : b < m) : wt a + wt b < wt m := by
  unfold wt
  have h1 := uk_cll ha ham
  have h2 := uk_cll hb hbm
  have p1 : 2 ^ (a.toNatClampNeg + 1) ≤ 2 ^ m.toNatClampNeg := Nat.pow_le_pow_right (by omega) (by omega)
  have p2 : 2 ^ (b.toNatClampNeg + 1) ≤ 2 ^ m.toNatClampNeg := Nat.pow_le_pow_right (by omega) (by omega)
  have p3 : 1 ≤ 2 ^ (a.toNatClampNeg + 1) := Nat.one_le_two_pow
  have p4 : 1 ≤ 2 ^ (b.toNatClampNeg + 1) := Nat.one_le_two_pow
  rw [Nat.pow_succ 2 m.toNatClampNeg]
  omega
theorem wt_one {m a : Int32} (ha : 0 ≤ a) (ham : a < m) : wt a < wt m := by
  have := wt_two ha ham ha ham
  omega
def pt (R : Nat → Int32) : Nat → Nat
  | 0 => 0
  | n + 1 => pt R n + wt (R n)
theorem pt_ge (R : Nat → Int32) : ∀ n, n ≤ pt R n
  | 0 => Nat.le_refl _
  | n + 1 => by
    have := pt_ge R n
    have := wt_pos (R n)
    unfold pt
    omega
theorem pt_cg {R R' : Nat → Int32} : ∀ n, (∀ i, i < n → R' i = R i) → pt R' n = pt R n
  | 0, _ => rfl
  | n + 1, h => by
    unfold pt
    rw [pt_cg n (fun i hi => h i (by omega)), h n (by omega)]
theorem pt_upd {R : Nat → Int32} {i : Nat} {a : Int32} : ∀ n, i < n → pt (upd R i a) n + wt (R i) = pt R n + wt a
  | 0, h => absurd h (by omega)
  | n + 1, h => by
    unfold pt
    by_cases q : i = n
    · subst q
      rw [pt_cg (R := R) i (fun j hj => by unfold upd; rw [if_neg (by omega)])]
      have : upd R i a i = a := by unfold upd; rw [if_pos rfl]
      rw [this]
      omega
    · have ih := pt_upd (R := R) (i := i) (a := a) n (by omega)
      have : upd R i a n = R n := by unfold upd; rw [if_neg (by omega)]
      rw [this]
      omega
/-- all from k + 1 to n moved up by one -/
def sh (R : Nat → Int32) (n k : Nat) : Nat → Int32 := fun j => if k < j ∧ j ≤ n then R (j - 1) else R j
theorem sh_0 (R : Nat → Int32) (n : Nat) : sh R n n = R := by
  funext j
  unfold sh
  rw [if_neg (by omega)]
theorem sh_s {R : Nat → Int32} {n k : Nat} (h1 : 1 ≤ k) (h : k ≤ n) : upd (sh R n k) k (sh R n k (k - 1)) = sh R n (k - 1) := by
  funext j
  unfold upd
  by_cases q : j = k
  · rw [if_pos q]
    unfold sh
    rw [if_neg (by omega), if_pos (by omega), q]
  · rw [if_neg q]
    unfold sh
    by_cases q2 : k < j ∧ j ≤ n
    · rw [if_pos q2, if_pos (by omega)]
    · rw [if_neg q2, if_neg (by omega)]
theorem pt_sh {R : Nat → Int32} {i : Nat} {b : Int32} : ∀ n, i < n → pt (upd (sh R n (i + 1)) (i + 1) b) (n + 1) = pt R n + wt b
  | 0, h => absurd h (by omega)
  | n + 1, h => by
    by_cases q : i = n
    · subst q
      rw [sh_0]
      show pt _ (i + 1) + wt _ = _
      rw [pt_cg (R := R) (i + 1) (fun j hj => by unfold upd; rw [if_neg (by omega)])]
      have : upd R (i + 1) b (i + 1) = b := by unfold upd; rw [if_pos rfl]
      rw [this]
    · have ih := pt_sh (R := R) (i := i) (b := b) n (by omega)
      show pt _ (n + 1) + wt _ = pt R n + wt (R n) + wt b
      rw [pt_cg (R := upd (sh R n (i + 1)) (i + 1) b) (n + 1) (fun j hj => by
        unfold upd
        by_cases q3 : j = i + 1
        · rw [if_pos q3, if_pos q3]
        · rw [if_neg q3, if_neg q3]
          unfold sh
          by_cases q2 : i + 1 < j ∧ j ≤ n
          · rw [if_pos q2, if_pos (by omega)]
          · rw [if_neg q2, if_neg (by omega)]), ih]
      have : upd (sh R (n + 1) (i + 1)) (i + 1) b (n + 1) = R n := by
        unfold upd
        rw [if_neg (by omega)]
        unfold sh
        rw [if_pos (by omega)]
        rfl
      rw [this]
      omega
def pot (u : uk_Mem) : Nat := pt (u.1 71) (u.1 60 22).toNatClampNeg
def rp (u : uk_Mem) : Prop := (∀ i : Nat, i < (u.1 60 22).toNatClampNeg → u.1 71 i < u.1 60 3) ∧ pot u ≤ 255
theorem rp_1 {c i : Nat} {x : Int32} {u : uk_Mem} (h : rp u) (hc : c ≠ 71) (h3 : c = 60 → i ≠ 3 ∧ i ≠ 22) : rp (uk_up u c i x) := by
  have e1 : (uk_up u c i x).1 60 3 = u.1 60 3 := by rw [uk_up_at, if_neg (fun q => (h3 q.1.symm).1 q.2.symm)]
  have e2 : (uk_up u c i x).1 60 22 = u.1 60 22 := by rw [uk_up_at, if_neg (fun q => (h3 q.1.symm).2 q.2.symm)]
  have e3 : (uk_up u c i x).1 71 = u.1 71 := uk_up_oc hc.symm
  unfold rp pot
  rw [e1, e2, e3]
  exact h
theorem rp_fk {l ks : List Nat} {u u' : uk_Mem} (h : rp u) (f : fk l ks u u') (h0 : 60 ∉ l) (h1 : 71 ∉ l) : rp u' := by
  unfold rp pot
  rw [fk_c f h0, fk_c f h1]
  exact h
theorem rp_mk {u v : uk_Mem} {R : Nat → Int32} {n : Int32} (h71 : v.1 71 = R) (h22 : v.1 60 22 = n) (h3 : v.1 60 3 = u.1 60 3) (hl : ∀ i, i < n.toNatClampNeg → R i < u.1 60 3) (hp : pt R n.toNatClampNeg ≤ 255) : rp v := by
  unfold rp pot
  rw [h71, h22, h3]
  exact ⟨hl, hp⟩
theorem rp_lay {u v : uk_Mem} {R : Nat → Int32} {m : Int32} (h71 : v.1 71 = upd R (0 : Int32).toNatClampNeg m) (h22 : v.1 60 22 = 1) (h3 : v.1 60 3 = u.1 60 3) (h0 : 0 ≤ m) (h7 : m ≤ 7) (hm : m < u.1 60 3) : rp v := by
  have z : (0 : Int32).toNatClampNeg = 0 := rfl
  have z1 : (1 : Int32).toNatClampNeg = 1 := rfl
  have e : upd R 0 m 0 = m := by unfold upd; rw [if_pos rfl]
  rw [z] at h71
  refine rp_mk h71 h22 h3 (fun i hi => ?_) ?_
  · rw [z1] at hi
    rw [show i = 0 by omega, e]
    exact hm
  · rw [z1]
    unfold pt pt
    rw [e]
    have := wt_7 h0 h7
    omega
theorem rp_n {u : uk_Mem} (h : rp u) : (u.1 60 22).toNatClampNeg ≤ 255 := Nat.le_trans (pt_ge _ _) h.2
/-- a thing gives its first part back -/
theorem tn_1 {u v : uk_Mem} (h : rp u) {i m a : Int32} (hi : 0 ≤ i) (hn : i < u.1 60 22) (hm : u.1 71 i.toNatClampNeg = m) (ha : 0 ≤ a) (ham : a < m) (h71 : v.1 71 = upd (u.1 71) i.toNatClampNeg a) (h22 : v.1 60 22 = u.1 60 22) (h3 : v.1 60 3 = u.1 60 3) : rp v ∧ pot v < pot u := by
  have hl := uk_cll hi hn
  have hp := pt_upd (R := u.1 71) (a := a) _ hl
  rw [hm] at hp
  have hw := wt_one ha ham
  have hq : pot v < pot u := by
    unfold pot
    rw [h71, h22]
    omega
  refine ⟨⟨?_, Nat.le_trans (Nat.le_of_lt hq) h.2⟩, hq⟩
  rw [h71, h22, h3]
  intro j hj
  unfold upd
  by_cases q : j = i.toNatClampNeg
  · rw [if_pos q]
    have := h.1 _ hl
    rw [hm] at this
    exact Int32.lt_trans ham this
  · rw [if_neg q]
    exact h.1 j hj
/-- a thing gives both its parts back -/
theorem tn_2 {u v : uk_Mem} (h : rp u) {i m a b : Int32} (hi : 0 ≤ i) (hn : i < u.1 60 22) (hm : u.1 71 i.toNatClampNeg = m) (ha : 0 ≤ a) (ham : a < m) (hb : 0 ≤ b) (hbm : b < m) (h71 : v.1 71 = upd (sh (upd (u.1 71) i.toNatClampNeg a) (u.1 60 22).toNatClampNeg (i + 1).toNatClampNeg) (i + 1).toNatClampNeg b) (h22 : v.1 60 22 = u.1 60 22 + 1) (h3 : v.1 60 3 = u.1 60 3) : rp v ∧ pot v < pot u := by
  have hl := uk_cll hi hn
  have hp := pt_upd (R := u.1 71) (a := a) _ hl
  have hr := pt_sh (R := upd (u.1 71) i.toNatClampNeg a) (b := b) _ hl
  rw [hm] at hp
  have hw := wt_two ha ham hb hbm
  have hN := rp_n h
  have hn1 : u.1 60 22 ≤ 255 := by
    apply Int32.le_iff_toInt_le.mpr
    have e : (u.1 60 22).toNatClampNeg = (u.1 60 22).toInt.toNat := rfl
    have z : (255 : Int32).toInt = 255 := rfl
    omega
  have e1 : (i + 1).toNatClampNeg = i.toNatClampNeg + 1 := uk_c1 hi (by grind)
  have e2 : (u.1 60 22 + 1).toNatClampNeg = (u.1 60 22).toNatClampNeg + 1 := uk_c1 (by grind) (by grind)
  rw [e1] at h71
  have hq : pot v < pot u := by
    unfold pot
    rw [h71, h22, e2]
    omega
  refine ⟨⟨?_, Nat.le_trans (Nat.le_of_lt hq) h.2⟩, hq⟩
  have hms : m < u.1 60 3 := by
    have := h.1 _ hl
    rwa [hm] at this
  have hA : ∀ j, j < (u.1 60 22).toNatClampNeg → upd (u.1 71) i.toNatClampNeg a j < u.1 60 3 := fun j hj => by
    unfold upd
    by_cases q : j = i.toNatClampNeg
    · rw [if_pos q]
      exact Int32.lt_trans ham hms
    · rw [if_neg q]
      exact h.1 j hj
  rw [h71, h22, h3, e2]
  intro j hj
  unfold upd
  by_cases q : j = i.toNatClampNeg + 1
  · rw [if_pos q]
    exact Int32.lt_trans hbm hms
  · rw [if_neg q]
    unfold sh
    by_cases q2 : i.toNatClampNeg + 1 < j ∧ j ≤ (u.1 60 22).toNatClampNeg
    · rw [if_pos q2]
      exact hA _ (by omega)
    · rw [if_neg q2]
      exact hA _ (by omega)
theorem tn_n {u : uk_Mem} (h : rp u) {i m a b : Int32} (hi : 0 ≤ i) (hn : i < u.1 60 22) (hm : u.1 71 i.toNatClampNeg = m) (ha : 0 ≤ a) (ham : a < m) (hb : 0 ≤ b) (hbm : b < m) : u.1 60 22 ≤ 254 := by
  have hl := uk_cll hi hn
  have hp := pt_upd (R := u.1 71) (a := a) _ hl
  have hr := pt_sh (R := upd (u.1 71) i.toNatClampNeg a) (b := b) _ hl
  rw [hm] at hp
  have hw := wt_two ha ham hb hbm
  have hg := pt_ge (upd (sh (upd (u.1 71) i.toNatClampNeg a) (u.1 60 22).toNatClampNeg (i.toNatClampNeg + 1)) (i.toNatClampNeg + 1) b) ((u.1 60 22).toNatClampNeg + 1)
  have h255 := h.2
  unfold pot at h255
  apply Int32.le_iff_toInt_le.mpr
  have e : (u.1 60 22).toNatClampNeg = (u.1 60 22).toInt.toNat := rfl
  have z : (254 : Int32).toInt = 254 := rfl
  omega
theorem pt_step {i : Int32} {a b : Nat} (h0 : 0 ≤ i) (h1 : i ≤ 255) (h : i.toNatClampNeg + a ≤ 255) (hl : b < a) : i + 1 ≤ 255 ∧ (i + 1).toNatClampNeg + b ≤ 255 := by
  have e := uk_c1 h0 (by grind)
  refine ⟨?_, by omega⟩
  have e1 : i.toNatClampNeg = i.toInt.toNat := rfl
  have z : (254 : Int32).toInt = 254 := rfl
  have : i ≤ 254 := by
    apply Int32.le_iff_toInt_le.mpr
    omega
  grind
/-- nothing is asked where none is wanted -/
def az (n : Int32) (A : Nat → Int32) (k : Int32) : Prop := n = 0 → ∀ j : Int32, 0 ≤ j → j < k → A j.toNatClampNeg = 0
theorem az_0 {n : Int32} {A : Nat → Int32} : az n A 0 := fun _ j h0 h1 => absurd h0 (by grind)
theorem az_up {n k x : Int32} {A : Nat → Int32} (h : az n A k) (h0 : 0 ≤ k) (hx : n = 0 → x = 0) : az n (upd A k.toNatClampNeg x) (k + 1) := fun q j j0 j1 => by
  by_cases e : j = k
  · rw [upd_at e]
    exact hx q
  · rw [upd_ne j0 h0 e]
    exact h q j j0 (by grind)
theorem az_le {n k k' : Int32} {A : Nat → Int32} (h : az n A k) (hk : k' ≤ k) : az n A k' := fun q j j0 j1 => h q j j0 (by grind)
theorem az_ne {n k : Int32} {A : Nat → Int32} (h : ¬ n = 0) : az n A k := fun q => absurd q h
/-! the row 'had' -/
def rh (u : uk_Mem) : Prop := rk (u.1 60 3) (u.1 77) (u.1 64) (u.1 65) 32
theorem rh_1 {c i : Nat} {x : Int32} {u : uk_Mem} (h : rh u) (hc : c ≠ 77 ∧ c ≠ 64 ∧ c ≠ 65) (h3 : c = 60 → i ≠ 3) : rh (uk_up u c i x) := by
  unfold rh
  rw [uk_up_at, if_neg (fun q => h3 q.1.symm q.2.symm), uk_up_oc hc.1.symm, uk_up_oc hc.2.1.symm, uk_up_oc hc.2.2.symm]
  exact h
theorem rh_fk {l ks : List Nat} {u u' : uk_Mem} (h : rh u) (f : fk l ks u u') (h0 : 60 ∉ l ∨ (60 = 60 ∧ 3 ∈ ks)) (h1 : 77 ∉ l) (h4 : 64 ∉ l) (h5 : 65 ∉ l) : rh u' := by
  unfold rh
  rw [fk_at f h0, fk_c f h1, fk_c f h4, fk_c f h5]
  exact h
theorem rh_of {u u' : uk_Mem} (h : ri u) (f0 : u'.1 60 3 = u.1 60 3) (f4 : u'.1 64 = u.1 64) (f5 : u'.1 65 = u.1 65) (hc : cpy (u'.1 77) (u.1 61) 51) : rh u' := by
  unfold rh
  rw [f0, f4, f5]
  exact cpy_rk (o := 0) h.1 hc
theorem ri_ofh {u u' : uk_Mem} (h : ri u) (ha : rh u) (f0 : u'.1 60 3 = u.1 60 3) (f3 : u'.1 63 = u.1 63) (f4 : u'.1 64 = u.1 64) (f5 : u'.1 65 = u.1 65) (hc : cpy (u'.1 61) (u.1 77) 51) (hx : cpx (u'.1 61) (u.1 61)) : ri u' := by
  unfold ri
  rw [f0, f3, f4, f5]
  exact ⟨cpy_rk (o := 0) ha hc, h.2.1.imp_right fun q => rk_eq q (fun m m0 m7 => hx (83 + m) (by grind)), h.2.2.imp_right fun q => rk_eq q (fun m m0 m7 => hx (134 + m) (by grind))⟩
/-- the place that is read lies in its sheet -/
theorem rd_ix {k f i s z z2 z3 : Int32} {p : Int64} (hk : 0 ≤ k) (hk3 : k ≤ 3) (hi : 0 ≤ i) (hi2 : i ≤ 20) (hs : s ≤ 40) (hp : p = f.toInt64 + i.toInt64) (c1 : ¬ lg_cmp p 0 < 0) (c2 : lg_cmp p s.toInt64 < 0) (e1 : z = 40 * k) (e2 : z2 = z + f) (e3 : z3 = z2 + i) : 0 ≤ z3 ∧ z3 < 160 := by
  rw [lg_cmp_lt] at c1 c2
  have a := Int32.le_iff_toInt_le.mp hi
  have b := Int32.le_iff_toInt_le.mp hi2
  have c := Int32.le_iff_toInt_le.mp hs
  have f0 := Int32.le_toInt f
  have f1 := Int32.toInt_le f
  have y0 : (0 : Int32).toInt = 0 := rfl
  have y1 : (20 : Int32).toInt = 20 := rfl
  have y2 : (40 : Int32).toInt = 40 := rfl
  have hpt : p.toInt = f.toInt + i.toInt := by
    rw [hp, Int64.toInt_add, Int32.toInt_toInt64, Int32.toInt_toInt64]
    apply Int.bmod_eq_of_le <;> omega
  have q1 : 0 ≤ f.toInt + i.toInt := by
    rw [Int64.lt_iff_toInt_lt, hpt] at c1
    have : (0 : Int64).toInt = 0 := rfl
    omega
  have q2 : f.toInt + i.toInt < 40 := by
    rw [Int64.lt_iff_toInt_lt, hpt, Int32.toInt_toInt64] at c2
    omega
  have hq : (f + i).toInt = f.toInt + i.toInt := by
    rw [Int32.toInt_add]
    apply Int.bmod_eq_of_le <;> omega
  have g0 : 0 ≤ f + i := Int32.le_iff_toInt_le.mpr (by rw [hq]; omega)
  have y3 : (39 : Int32).toInt = 39 := rfl
  have g1 : f + i ≤ 39 := Int32.le_iff_toInt_le.mpr (by rw [hq]; omega)
  have e : z3 = 40 * k + (f + i) := by rw [e3, e2, e1, Int32.add_assoc]
  generalize f + i = w at *
  subst e
  clear e3 e2 e1 hp hpt c1 c2
  constructor <;> lia
/-! the images -/
def cpi (A B : Nat → Int32) (to o k : Int32) : Prop := ∀ i : Int32, 0 ≤ i → i ≤ 152 → A i.toNatClampNeg = if to ≤ i ∧ i < to + k then B (o + (i - to)).toNatClampNeg else B i.toNatClampNeg
theorem cpi_0 {A : Nat → Int32} {to o : Int32} (h : 0 ≤ to) (h1 : to ≤ 102) : cpi A A to o 0 := fun i h0 h1 => by
  rw [if_neg (by grind)]
theorem cpi_up {A B : Nat → Int32} {to o k x z : Int32} (h : cpi A B to o k) (h0 : 0 ≤ k) (h1 : k < 51) (t0 : 0 ≤ to) (t1 : to ≤ 102) (o0 : 0 ≤ o) (o1 : o ≤ 102) (hz : z = to + k) (hto : o + 51 ≤ to ∨ to + 51 ≤ o) (hx : x = A (o + k).toNatClampNeg) : cpi (upd A z.toNatClampNeg x) B to o (k + 1) := fun i i0 i1 => by
  subst hz
  have hA := h (o + k) (by grind) (by grind)
  rw [if_neg (by grind)] at hA
  by_cases q : i = to + k
  · rw [upd_at q, hx, hA, if_pos (by grind), show o + (i - to) = o + k by grind]
  · rw [upd_ne i0 (by grind) q, h i i0 i1]
    by_cases q2 : to ≤ i ∧ i < to + k
    · rw [if_pos q2, if_pos (by grind)]
    · rw [if_neg q2, if_neg (by grind)]
theorem iv_img {u v : uk_Mem} (h : iv v) (hu : iv u) {to o k z w x : Int32} (ht : to = 0 ∨ to = 51 ∨ to = 102) (ho : o = 0 ∨ o = 51 ∨ o = 102) (h0 : 0 ≤ k) (h1 : k < 51) (hz : z = to + k) (hw : w = o + k) (hx : x = u.1 61 w.toNatClampNeg) : iv (uk_up v 61 z.toNatClampNeg x) := by
  obtain ⟨j, hj, rfl⟩ := nI_of2 (x := k) (M := 50) (n := 50) rfl (by grind) (by grind)
  have key : ∀ t : Int32, t = 0 ∨ t = 51 ∨ t = 102 → uk_rg 61 (t + nI j).toNatClampNeg = uk_rg 61 j := by
    intro t ht
    rcases ht with rfl | rfl | rfl
    · rw [Int32.zero_add, nI_clamp (by omega)]
    · rw [show (51 : Int32) = nI 51 from rfl, nI_add, nI_clamp (by omega)]
      exact sg_t8 j (by omega)
    · rw [show (102 : Int32) = nI 102 from rfl, nI_add, nI_clamp (by omega)]
      exact sg_t9 j (by omega)
  have hr := hu 61 w.toNatClampNeg
  rw [← hx, hw, key o ho] at hr
  rw [hz]
  exact iv_up h (lo := (uk_rg 61 j).1) (hi := (uk_rg 61 j).2) (key to ht) hr.1 hr.2
/-- an image is kept -/
theorem ri_keep {u u' : uk_Mem} (h : ri u) {k to : Int32} (hk : (k = 0 ∧ to = 51) ∨ (k = 1 ∧ to = 102)) (f0 : u'.1 60 3 = u.1 60 3) (f3 : u'.1 63 = upd (u.1 63) k.toNatClampNeg 1) (f4 : u'.1 64 = u.1 64) (f5 : u'.1 65 = u.1 65) (hc : cpi (u'.1 61) (u.1 61) to 0 51) : ri u' := by
  unfold ri
  rw [f0, f3, f4, f5]
  rcases hk with ⟨rfl, rfl⟩ | ⟨rfl, rfl⟩
  · refine ⟨rk_eq h.1 (fun m m0 m7 => ?_), Or.inr (rk_eq h.1 (fun m m0 m7 => ?_)), ?_⟩
    · rw [hc (32 + m) (by grind) (by grind), if_neg (by grind)]
    · rw [hc (83 + m) (by grind) (by grind), if_pos (by grind), show (0 : Int32) + (83 + m - 51) = 32 + m by grind]
    · have : upd (u.1 63) (0 : Int32).toNatClampNeg 1 1 = u.1 63 1 := by unfold upd; rw [if_neg (by decide)]
      rw [this]
      refine h.2.2.imp_right fun q => rk_eq q (fun m m0 m7 => ?_)
      rw [hc (134 + m) (by grind) (by grind), if_neg (by grind)]
  · refine ⟨rk_eq h.1 (fun m m0 m7 => ?_), ?_, Or.inr (rk_eq h.1 (fun m m0 m7 => ?_))⟩
    · rw [hc (32 + m) (by grind) (by grind), if_neg (by grind)]
    · have : upd (u.1 63) (1 : Int32).toNatClampNeg 1 0 = u.1 63 0 := by unfold upd; rw [if_neg (by decide)]
      rw [this]
      refine h.2.1.imp_right fun q => rk_eq q (fun m m0 m7 => ?_)
      rw [hc (83 + m) (by grind) (by grind), if_neg (by grind)]
    · rw [hc (134 + m) (by grind) (by grind), if_pos (by grind), show (0 : Int32) + (134 + m - 102) = 32 + m by grind]
/-- an image comes back -/
theorem ri_back {u u' : uk_Mem} (h : ri u) {k o : Int32} (hk : (k = 0 ∧ o = 51) ∨ (k = 1 ∧ o = 102)) (h1 : ¬ u.1 63 k.toNatClampNeg = 0) (f0 : u'.1 60 3 = u.1 60 3) (f3 : u'.1 63 = u.1 63) (f4 : u'.1 64 = u.1 64) (f5 : u'.1 65 = u.1 65) (hc : cpi (u'.1 61) (u.1 61) 0 o 51) : ri u' := by
  unfold ri
  rw [f0, f3, f4, f5]
  have e1 : ∀ m : Int32, 0 ≤ m → m ≤ 7 → u'.1 61 (83 + m).toNatClampNeg = u.1 61 (83 + m).toNatClampNeg := fun m m0 m7 => by
    rw [hc (83 + m) (by grind) (by grind), if_neg (by grind)]
  have e2 : ∀ m : Int32, 0 ≤ m → m ≤ 7 → u'.1 61 (134 + m).toNatClampNeg = u.1 61 (134 + m).toNatClampNeg := fun m m0 m7 => by
    rw [hc (134 + m) (by grind) (by grind), if_neg (by grind)]
  refine ⟨?_, h.2.1.imp_right fun q => rk_eq q e1, h.2.2.imp_right fun q => rk_eq q e2⟩
  rcases hk with ⟨rfl, rfl⟩ | ⟨rfl, rfl⟩
  · refine rk_eq (h.2.1.resolve_left h1) (fun m m0 m7 => ?_)
    rw [hc (32 + m) (by grind) (by grind), if_pos (by grind), show (51 : Int32) + (32 + m - 0) = 83 + m by grind]
  · refine rk_eq (h.2.2.resolve_left h1) (fun m m0 m7 => ?_)
    rw [hc (32 + m) (by grind) (by grind), if_pos (by grind), show (102 : Int32) + (32 + m - 0) = 134 + m by grind]
/-! constructors: a world that grows -/
theorem va_AOA.moved {ty : FieldType} {u U : State} (hvm : u.vm.Alike U.vm) (h : va_AOA ty u) : va_AOA ty U := by
  have h1 : (Cond.arrayOver (.array ty)).before #[] (u.setVm U.vm) = true := by
    rw [Cond.arrayOver_setVmC hvm]
    exact h
  exact h1
def ui_K (G : uk_D) (U : State) : Prop := va_K G.2.1 vwCl (uk_tys G) U ∧ (∀ w ∈ uk_nest, va_Nw w U) ∧ va_AOA .int U
theorem ui_K.warm {G : uk_D} {s U : State} (hW : s.WarmedH U.vm) (h : ui_K G s) : ui_K G U := ⟨va_K.moved hW.alike h.1, fun w hw => uk_nestW (List.mem_filter.mp hw).2 hW (h.2.1 w hw), va_AOA.moved hW.alike h.2.2⟩
theorem ui_K.same {G : uk_D} {s U : State} (hv : s.vm = U.vm) (h : ui_K G s) : ui_K G U := by
  have ha : s.vm.Alike U.vm := by rw [hv]; exact Vm.Alike.refl U.vm
  exact ⟨va_K.moved ha h.1, fun w hw => uk_nestC (List.mem_filter.mp hw).2 hv (h.2.1 w hw), va_AOA.moved ha h.2.2⟩
def ui_rm (f mc ms : Nat) : Room := { frames := f, cells := mc, slots := ms, locals := 40 * f }
def ui_Meth (G : uk_D) (E : State → Prop) (f mc ms : Nat) (M : uk_M) (As : List Value) (w0 : va_W) (Q : va_W → Prop) : Prop := ∀ sz : Nat,
  Met G.1 M.1 (.code M.1 M.2.1 M.2.2.1 none :: uk_w) (ui_rm f mc ms) (va_Pc As (fun U => U.heap.size = sz ∧ va_P G.2.1 vwCl w0 U.heap ∧ (ui_K G U ∧ E U) ∧ va_D (fun _ => True) w0)) (va_Qv (fun w : va_W => Q w) (fun w t => va_P G.2.1 vwCl w t.heap ∧ va_D (va_A w0 sz) w) (va_A w0 sz)) mc ms (va_A w0 sz)
def ui_Ret (G : uk_D) (A : Nat → Prop) (X : uk_Cx) (M : uk_M) (mc ms : Nat) (Q : va_W → Prop) : Prop :=
  ∀ (pc : Nat) (ls : Array Slot) (H : Heap) (locs : List Loc) (ws : va_W), decode M.2.1 pc = .ok (.return_, 1) → Q ws → va_P G.2.1 vwCl ws H → va_D A ws → va_S A X.2.2.2.1.heap H locs →
    W X.1 G.1 X.2.1 X.2.2.1 X.2.2.2.1 X.2.2.2.2.1 X.2.2.2.2.2.1 X.2.2.2.2.2.2.1 X.2.2.2.2.2.2.2.1 X.2.2.2.2.2.2.2.2.1 H locs mc ms X.2.2.2.2.2.2.2.2.2.2.2 (F0 X.2.2.2.2.1 pc ls [])
def ui_Ok (G : uk_D) (A : Nat → Prop) (E : State → Prop) (X : uk_Cx) (M : uk_M) (f mc ms : Nat) (Q : va_W → Prop) : Prop :=
  X.1.tables.exec = Jvm.exec ∧ X.2.2.2.2.2.2.2.2.1.code = M.2.1 ∧ X.2.2.2.2.2.2.2.2.1.maxLocals = M.2.2.1 ∧ X.2.2.2.1.vm.findClass M.1.cls = some X.2.2.2.2.1.cls ∧ (∀ w ∈ uk_w, w.before X.2.2.2.2.2.1 X.2.2.2.1 = true) ∧
  (ui_K G X.2.2.2.1 ∧ E X.2.2.2.1) ∧ X.2.2.2.2.2.2.2.1.name = M.1.name ∧ (∀ q, X.2.2.2.1.heap.size ≤ q → A q) ∧ (f ≤ X.2.2.1.frames ∧ 40 * f ≤ X.2.2.1.locals ∧ mc ≤ X.2.2.1.cells ∧ ms ≤ X.2.2.1.slots) ∧ ui_Ret G A X M mc ms Q
def ui_G (G : uk_D) (A : Nat → Prop) (E : State → Prop) (X : uk_Cx) (M : uk_M) (f mc ms : Nat) (Q : va_W → Prop) (k n : Nat) (ws : va_W) (pc : Nat) (lv : List (Nat × Value)) (st : List Value) : Prop :=
  ui_Ok G A E X M f mc ms Q → ∀ (ls : Array Slot) (H : Heap) (locs : List Loc), lv_has ls M.2.2.1 lv → va_P G.2.1 vwCl ws H → va_D A ws → va_S A X.2.2.2.1.heap H locs →
    W X.1 G.1 X.2.1 X.2.2.1 X.2.2.2.1 X.2.2.2.2.1 X.2.2.2.2.2.1 X.2.2.2.2.2.2.1 X.2.2.2.2.2.2.2.1 X.2.2.2.2.2.2.2.2.1 H locs k n X.2.2.2.2.2.2.2.2.2.2.2 (F0 X.2.2.2.2.1 pc ls st)
theorem uk_oI : Cond.instanceMethod Lib.objectInit ∈ uk_w := uk_wI (List.mem_of_getElem? (i := 20) (by decide +kernel)) rfl
theorem uk_oC : Cond.code Lib.objectInit ⟨#[0xb1]⟩ 1 none ∈ uk_w := uk_wI (List.mem_of_getElem? (i := 21) (by decide +kernel)) rfl
section UIR
variable {G : uk_D} {A : Nat → Prop} {E : State → Prop} {X : uk_Cx} {M : uk_M} {f mc ms : Nat} {Q : va_W → Prop} {k n : Nat} {ws ws' : va_W} {pc : Nat} {lv : List (Nat × Value)} {st stk : List Value}
theorem i_aload_n {j : Fin 4} {x : Nat} (hd : decode M.2.1 pc = .ok (.aload_n j, 1)) (hv : uk_lk lv (j : Nat) = some (.ref x)) (K : ui_G G A E X M f mc ms Q k n ws (pc + 1) lv (.ref x :: st)) : ui_G G A E X M f mc ms Q k n ws pc lv st := fun hO ls H locs hl hP hD hS => lv_aload_n hO.1 hO.2.1 hd rfl (uk_lv hl hv) (K hO ls H locs hl hP hD hS)
theorem i_iconst {z : Int} {v : Int32} (hd : decode M.2.1 pc = .ok (.iconst z, 1)) (hv : Int32.ofInt z = v) (K : ui_G G A E X M f mc ms Q k n ws (pc + 1) lv (.int v :: st)) : ui_G G A E X M f mc ms Q k n ws pc lv st := fun hO ls H locs hl hP hD hS => lv_iconst hO.1 hO.2.1 hd hv (K hO ls H locs hl hP hD hS)
theorem i_bipush {z : Int} {v : Int32} (hd : decode M.2.1 pc = .ok (.bipush z, 2)) (hv : (Int8.ofInt z).toInt32 = v) (K : ui_G G A E X M f mc ms Q k n ws (pc + 2) lv (.int v :: st)) : ui_G G A E X M f mc ms Q k n ws pc lv st := fun hO ls H locs hl hP hD hS => lv_bipush hO.1 hO.2.1 hd hv (K hO ls H locs hl hP hD hS)
theorem i_sipush {z : Int} {v : Int32} (hd : decode M.2.1 pc = .ok (.sipush z, 3)) (hv : (Int16.ofInt z).toInt32 = v) (K : ui_G G A E X M f mc ms Q k n ws (pc + 3) lv (.int v :: st)) : ui_G G A E X M f mc ms Q k n ws pc lv st := fun hO ls H locs hl hP hD hS => lv_sipush hO.1 hO.2.1 hd hv (K hO ls H locs hl hP hD hS)
theorem i_dup {v : Value} (hd : decode M.2.1 pc = .ok (.dup, 1)) (hv : v.category = 1) (K : ui_G G A E X M f mc ms Q k n ws (pc + 1) lv (v :: v :: st)) : ui_G G A E X M f mc ms Q k n ws pc lv (v :: st) := fun hO ls H locs hl hP hD hS => lv_dup hO.1 hO.2.1 hd hv (K hO ls H locs hl hP hD hS)
theorem i_astore_n {j : Fin 4} {x : Nat} (hd : decode M.2.1 pc = .ok (.astore_n j, 1)) (hn : (j : Nat) < M.2.2.1) (K : ui_G G A E X M f mc ms Q k n ws (pc + 1) (uk_set lv (j : Nat) (.ref x)) st) : ui_G G A E X M f mc ms Q k n ws pc lv (.ref x :: st) := fun hO ls H locs hl hP hD hS => lv_astore_n hO.1 hO.2.1 hd rfl hl hn rfl (fun ls' hl' => K hO ls' H locs (uk_has1 rfl hl') hP hD hS)
theorem i_obj {idx a : Nat} (hw : Cond.methodLink M.1.cls idx Lib.objectInit ∈ uk_w) (hd : decode M.2.1 pc = .ok (.invokespecial idx, 3)) (hf : 1 ≤ f) (hc : (st.map fun v => v.category).sum ≤ 8) (K : ui_G G A E X M f mc ms Q k n ws (pc + 3) lv st) : ui_G G A E X M f mc ms Q k n ws pc lv (.ref a :: st) := fun hO ls H locs hl hP hD hS => by
  have hr := hO.2.2.2.2.2.2.2.2.1
  refine W.objInit hO.1 hO.2.1 hO.2.2.2.1 (hO.2.2.2.2.1 _ hw) (hO.2.2.2.2.1 _ uk_oI) (hO.2.2.2.2.1 _ uk_oC) rfl (by rw [hO.2.2.1]; exact hl.1) rfl hd (Nat.le_trans hf hr.1) (Nat.le_trans (Nat.add_le_add_right (lv_room hc) 12) (Nat.le_trans (by omega) hr.2.1)) ?_
  exact W.eq (g2 := F0 X.2.2.2.2.1 (pc + 3) ls st) rfl (K hO ls H locs hl hP hD hS)
theorem i_newa {atype : ArrayType} {ty : FieldType} {cA : ClassId} {a0 : vp_A} {n0 : Int32} {N' : Nat} (t0 : Nat) (hw : Cond.arrayClass (newarray.typeOf atype) ∈ uk_w) (hty : newarray.typeOf atype = ty) (ht : (uk_tys G)[t0]? = some (cA, ty)) (hra : ∀ (U : State) (c : ClassId), va_RA U c ty → U.vm.findClass ("[" ++ ty.toString) = some c) (ha : ∀ c : ClassId, vp_cell c a0 = arrV c N' (fun _ => defaultValue ty)) (hn : ¬ n0 < 0) (hN : n0.toNatClampNeg = N') (hb : N' * componentBytes ty ≤ 536870912) (hk : k + 1 ≤ mc) (hs : n + N' ≤ ms) (hd : decode M.2.1 pc = .ok (.newarray atype, 2))
    (K : ∀ q : Nat, ui_G G A E X M f mc ms Q (k + 1) (n + N') (ws ++ [(q, .inl (cA, a0))]) (pc + 2) lv (.ref q :: st)) : ui_G G A E X M f mc ms Q k n ws pc lv (.int n0 :: st) := fun hO ls H locs hl hP hD hS => by
  have hr := hO.2.2.2.2.2.2.2.2.1
  have hK := hO.2.2.2.2.2.1.1.1
  refine va_newa hO.1 hO.2.1 (hO.2.2.2.2.1 _ hw) hty hK hP hD hS hO.2.2.2.2.2.2.2.1 ha hn hN hb (Nat.le_trans hk hr.2.2.1) (Nat.le_trans hs hr.2.2.2) hd (fun q cA' H1 hK1 hP1 hD1 hS1 => ?_)
  have e1 := hra _ _ (hK1.2 (uk_tys G).length (cA', ty) (by simp)).2
  have e2 := hra _ _ (hK.2 t0 _ ht).2
  have e : cA' = cA := Option.some.inj (e1.symm.trans e2)
  subst e
  exact K q hO ls H1 locs hl hP1 hD1 hS1
theorem i_mna {cA cy : ClassId} {n0 k0 : Int32} {idx : Nat} (t0 t1 : Nat) (hcl : Cond.classLink M.1.cls idx "[[I" ∈ uk_w) (hw : Cond.arrayClass .int ∈ uk_w) (ht : (uk_tys G)[t0]? = some (cy, .int)) (ht1 : (uk_tys G)[t1]? = some (cA, .array .int)) (e1 : n0 = 4) (e2 : k0 = 40) (hk : k + 5 ≤ mc) (hs : n + 164 ≤ ms) (hd : decode M.2.1 pc = .ok (.multianewarray idx 2, 4))
    (K : ∀ (q : Nat) (r : Nat → Nat), ui_G G A E X M f mc ms Q (k + 1 + 4) (n + 4 + 4 * 40) (ws ++ [(q, .inl (cA, 4, .inr (.inr (.inr (.inr (fun i => if i < 4 then some (r i) else none)))))), (r 0, .inl (cy, 40, .inl (fun _ => 0))), (r 1, .inl (cy, 40, .inl (fun _ => 0))), (r 2, .inl (cy, 40, .inl (fun _ => 0))), (r 3, .inl (cy, 40, .inl (fun _ => 0)))]) (pc + 4) lv (.ref q :: st)) : ui_G G A E X M f mc ms Q k n ws pc lv (.int k0 :: .int n0 :: st) := fun hO ls H locs hl hP hD hS => by
  have hr := hO.2.2.2.2.2.2.2.2.1
  have hK := hO.2.2.2.2.2.1.1.1
  have hP0 : va_P G.2.1 vwCl (ws ++ va_pl [] (fun _ => .inl (cy, 40, .inl (fun _ => 0)))) H := by
    rw [show ws ++ va_pl [] (fun _ => (.inl (cy, 40, .inl (fun _ => 0)) : va_E)) = ws from List.append_nil ws]
    exact hP
  have hD0 : va_D A (ws ++ va_pl [] (fun _ => .inl (cy, 40, .inl (fun _ => 0)))) := by
    rw [show ws ++ va_pl [] (fun _ => (.inl (cy, 40, .inl (fun _ => 0)) : va_E)) = ws from List.append_nil ws]
    exact hD
  refine va_mna (ty := .int) (cy := cy) (z := (40, .inl (fun _ => 0))) (N' := 4) (K' := 40) hO.1 hO.2.1 hO.2.2.2.1 (hO.2.2.2.2.1 _ hcl) hO.2.2.2.2.2.1.1.2.2 (hO.2.2.2.2.1 _ hw) (hK.2 t0 _ ht).2 hK hP0 hD0 hS hO.2.2.2.2.2.2.2.1 (by rw [e1]; decide) (by rw [e2]; decide) (by rw [e1]; rfl) (by rw [e2]; rfl) (by decide) (by decide) (by decide) rfl rfl (Nat.le_trans hk hr.2.2.1) (Nat.le_trans hs hr.2.2.2) (fun c => ?_) hd (fun q r cA' H1 hinj hnl hK1 hP1 hD1 hS1 => ?_)
  · exact (arrV_new c 40 _)
  · have e3 : X.2.2.2.1.vm.findClass ("[" ++ (FieldType.array .int).toString) = some cA' := (hK1.2 (uk_tys G).length (cA', .array .int) (by simp)).2
    have e4 : X.2.2.2.1.vm.findClass ("[" ++ (FieldType.array .int).toString) = some cA := (hK.2 t1 _ ht1).2
    have e : cA' = cA := Option.some.inj (e3.symm.trans e4)
    subst e
    have ew : ∀ (y : Nat × va_E) (v : va_E), (ws ++ [y]) ++ va_pl ([] ++ (List.range 4).map r) (vr_up (fun _ => v) ((List.range 4).map r) v) = ws ++ [y, (r 0, v), (r 1, v), (r 2, v), (r 3, v)] := by
      intro y v
      have e9 : va_pl ([] ++ (List.range 4).map r) (vr_up (fun _ => v) ((List.range 4).map r) v) = [(r 0, v), (r 1, v), (r 2, v), (r 3, v)] := by
        have h9 : vr_up (fun _ => v) ((List.range 4).map r) v = fun _ => v := by
          funext a
          unfold vr_up
          split <;> rfl
        rw [h9]
        rfl
      rw [e9, List.append_assoc]
      rfl
    rw [ew] at hP1 hD1
    exact K q r hO ls H1 locs hl hP1 hD1 hS1
theorem i_putF {ci j idx a N q0 : Nat} {C : String} {T : u_T} {ty0 : Nat → FieldType} {ty : FieldType} {v : Value} {fs : List Value} (he : ws[q0]? = some (a, .inr (ci, fs))) (hcl : vwCl[ci]? = some (C, T, N)) (hin : ∀ w ∈ u_ws C T N, w ∈ uk_w) (hjN : j < N) (hty : ∀ k, k < N → parseFieldDescriptor (T k).2.2.1 = some (ty0 k)) (hnm : ∀ a, a < N → ∀ b, b < N → a ≠ b → (T a).2.1 ≠ (T b).2.1) (hfin : (T j).2.2.2 = true) (hin2 : M.1.name = "<init>") (hdecl : (T j).1 = M.1.cls) (hpd : parseFieldDescriptor (T j).2.2.1 = some ty) (hnar : narrow ty v = v) (hfit : fits ty v = true) (hl0 : j < fs.length) (hw : Cond.fieldLink M.1.cls idx (T j).1 (T j).2.1 (T j).2.2.1 ∈ uk_w) (hd : decode M.2.1 pc = .ok (.putfield idx, 3)) (hws : ws.set q0 (a, .inr (ci, fs.set j v)) = ws')
    (K : ui_G G A E X M f mc ms Q k n ws' (pc + 3) lv st) : ui_G G A E X M f mc ms Q k n ws pc lv (v :: .ref a :: st) := fun hO ls H locs hl hP hD hS => by
  subst hws
  exact va_putF (own := M.1.cls) hO.1 hO.2.1 hO.2.2.2.2.1 hin ty0 hty hnm hO.2.2.2.1 hO.2.2.2.2.2.1.1.1 hP hD hS q0 he hcl j hjN (hO.2.2.2.2.1 _ hw) (fun _ h => h) hfin (hO.2.2.2.2.2.2.1.trans hin2) hdecl hpd hnar hfit hl0 hd (fun H1 locs1 hP1 hD1 hS1 => K hO ls H1 locs1 hl hP1 hD1 hS1)
theorem i_put {ci j idx a N q0 : Nat} {C : String} {T : u_T} {ty0 : Nat → FieldType} {ty : FieldType} {v : Value} {fs : List Value} (he : ws[q0]? = some (a, .inr (ci, fs))) (hcl : vwCl[ci]? = some (C, T, N)) (hin : ∀ w ∈ u_ws C T N, w ∈ uk_w) (hjN : j < N) (hty : ∀ k, k < N → parseFieldDescriptor (T k).2.2.1 = some (ty0 k)) (hnm : ∀ a, a < N → ∀ b, b < N → a ≠ b → (T a).2.1 ≠ (T b).2.1) (hfin : (T j).2.2.2 = false) (hpd : parseFieldDescriptor (T j).2.2.1 = some ty) (hnar : narrow ty v = v) (hfit : fits ty v = true) (hl0 : j < fs.length) (hw : Cond.fieldLink M.1.cls idx (T j).1 (T j).2.1 (T j).2.2.1 ∈ uk_w) (hd : decode M.2.1 pc = .ok (.putfield idx, 3)) (hws : ws.set q0 (a, .inr (ci, fs.set j v)) = ws')
    (K : ui_G G A E X M f mc ms Q k n ws' (pc + 3) lv st) : ui_G G A E X M f mc ms Q k n ws pc lv (v :: .ref a :: st) := fun hO ls H locs hl hP hD hS => by
  subst hws
  exact va_put (own := M.1.cls) hO.1 hO.2.1 hO.2.2.2.2.1 hin ty0 hty hnm hO.2.2.2.1 hO.2.2.2.2.2.1.1.1 hP hD hS q0 he hcl j hjN (hO.2.2.2.2.1 _ hw) (fun _ h => h) hfin hpd hnar hfit hl0 hd (fun H1 locs1 hP1 hD1 hS1 => K hO ls H1 locs1 hl hP1 hD1 hS1)
theorem i_get {ci j idx a N q0 : Nat} {C : String} {T : u_T} {v : Value} {fs : List Value} (he : ws[q0]? = some (a, .inr (ci, fs))) (hcl : vwCl[ci]? = some (C, T, N)) (hin : ∀ w ∈ u_ws C T N, w ∈ uk_w) (hjN : j < N) (hv : fs[j]? = some v) (hw : Cond.fieldLink M.1.cls idx (T j).1 (T j).2.1 (T j).2.2.1 ∈ uk_w) (hd : decode M.2.1 pc = .ok (.getfield idx, 3))
    (K : ui_G G A E X M f mc ms Q k n ws (pc + 3) lv (v :: st)) : ui_G G A E X M f mc ms Q k n ws pc lv (.ref a :: st) := fun hO ls H locs hl hP hD hS =>
  va_get (own := M.1.cls) hO.1 hO.2.1 hO.2.2.2.2.1 hin hO.2.2.2.1 hO.2.2.2.2.2.1.1.1 hP q0 he hcl j hjN (hO.2.2.2.2.1 _ hw) (fun _ h => h) hv hd (K hO ls H locs hl hP hD hS)
theorem i_iast {a N q0 t0 : Nat} {cA : ClassId} {g : Nat → Int32} {i x : Int32} (he : ws[q0]? = some (a, .inl (cA, N, .inl g))) (ht : (uk_tys G)[t0]? = some (cA, .int)) (hi : vp_in i N) (hd : decode M.2.1 pc = .ok (.iastore, 1)) (hws : ws.set q0 (a, .inl (cA, N, .inl (upd g i.toNatClampNeg x))) = ws')
    (K : ui_G G A E X M f mc ms Q k n ws' (pc + 1) lv st) : ui_G G A E X M f mc ms Q k n ws pc lv (.int x :: .int i :: .ref a :: st) := fun hO ls H locs hl hP hD hS => by
  subst hws
  exact va_iast hO.1 hO.2.1 hO.2.2.2.2.2.1.1.1 hP hD hS q0 t0 he ht hi hd (fun H1 locs1 hP1 hD1 hS1 => K hO ls H1 locs1 hl hP1 hD1 hS1)
theorem i_new {ci idx N : Nat} {C : String} {T : u_T} {ty0 : Nat → FieldType} {fs : List Value} (hcl : vwCl[ci]? = some (C, T, N)) (hin : ∀ w ∈ u_ws C T N, w ∈ uk_w) (hty : ∀ k, k < N → parseFieldDescriptor (T k).2.2.1 = some (ty0 k)) (w1 : Cond.classLink M.1.cls idx C ∈ uk_w) (w2 : Cond.instantiable C N ∈ uk_w) (w3 : Cond.initialized C ∈ uk_w) (hfs : ∀ j, j < N → defaultValue (ty0 j) = vp_V fs j) (hk : k + 1 ≤ mc) (hs : n + N ≤ ms) (hd : decode M.2.1 pc = .ok (.new idx, 3))
    (K : ∀ q : Nat, ui_G G A E X M f mc ms Q (k + 1) (n + N) (ws ++ [(q, .inr (ci, fs))]) (pc + 3) lv (.ref q :: st)) : ui_G G A E X M f mc ms Q k n ws pc lv st := fun hO ls H locs hl hP hD hS => by
  have hr := hO.2.2.2.2.2.2.2.2.1
  exact va_new hO.1 hO.2.1 hO.2.2.2.2.1 hin ty0 hty hO.2.2.2.1 (hO.2.2.2.2.1 _ w1) (hO.2.2.2.2.1 _ w2) (hO.2.2.2.2.1 _ w3) hO.2.2.2.2.2.1.1.1 hP hD hS hO.2.2.2.2.2.2.2.1 hcl hfs (Nat.le_trans hk hr.2.2.1) (Nat.le_trans hs hr.2.2.2) hd (fun q H1 hP1 hD1 hS1 => K q hO ls H1 locs hl hP1 hD1 hS1)
theorem i_call {E' : State → Prop} {M' : uk_M} {f' mc' ms' idx nA b : Nat} {host : String} {As : List Value} {w0 wr : va_W} {Q' : va_W → Prop} (isC isR : List Nat) (w1 : Cond.methodLinkNest M.1.cls idx M'.1 host ∈ uk_nest) (w2 : Cond.instanceMethod M'.1 ∈ uk_w) (w4 : Cond.initialized M'.1.cls ∈ uk_w) (w5 : Cond.code M'.1 M'.2.1 M'.2.2.1 none ∈ uk_w) (hi : M'.1.name = "<init>") (hy : M'.1.cls ≠ "java/lang/invoke/MethodHandle" ∧ M'.1.cls ≠ "java/lang/invoke/VarHandle" ∧ (parseMethodDescriptor M'.1.desc).map (fun d => d.parameters.length) = some nA) (hn : M'.2.2.1 ≤ 21)
    (hm : ui_Meth G (fun _ => True) f' mc' ms' M' (.ref b :: As) w0 Q') (hf : f' + 1 ≤ f) (hk : k + mc' ≤ mc) (hs : n + ms' ≤ ms) (hA : As.length = nA) (hst : stk = As.reverse ++ .ref b :: st) (hc : (st.map fun v => v.category).sum ≤ 8) (hd : decode M.2.1 pc = .ok (.invokespecial idx, 3)) (hC : isC.map (fun i => ws[i]?) = w0.map some) (hCf : isC.filterMap (fun i => ws[i]?) = w0) (hnc : va_nd isC = true) (hR : isR.map (fun i => ws[i]?) = wr.map some) (hnd : va_nd isR = true) (hdis : ∀ i ∈ isR, i ∉ isC)
    (K : ∀ w : va_W, Q' w → ui_G G A E X M f mc ms Q (k + mc') (n + ms') (wr ++ w) (pc + 3) lv st) : ui_G G A E X M f mc ms Q k n ws pc lv stk := fun hO ls H locs hl hP hD hS => by
  have hr := hO.2.2.2.2.2.2.2.2.1
  have hw := hO.2.2.2.2.1
  have hPc := hP.sub isC hCf
  have hDc := hD.sub isC hnc hC
  have hFc := va_free (wc := w0) hD hS hO.2.2.2.2.2.2.2.1 isC hC
  refine va_callv (va_runIN (As := As) (rest := st) (Ts := uk_w) ⟨hO.1, hO.2.1, hO.2.2.1, hO.2.2.2.1, hw⟩ (hm H.size) ⟨va_cnB nA hw (uk_goodIn w5) rfl rfl rfl (hO.2.2.2.2.2.1.1.2.1 _ w1) (hw _ w4) hy ⟨Nat.le_trans hf hr.1, Nat.le_trans (by show 8 + (M'.2.2.1 + 11) + 40 * f' ≤ 40 * f; omega) hr.2.1⟩, hi, hw _ w2⟩ ⟨fun a U g mk q => ?_, fun U hU hW => ⟨rfl, by rw [hU], by rw [hU]; exact hPc, ⟨ui_K.warm hW hO.2.2.2.2.2.1.1, trivial⟩, hDc.weaken (fun _ _ _ _ => trivial)⟩⟩ rfl hA hl.1 hst (lv_room hc) hd ⟨Nat.le_trans hk hr.2.2.1, Nat.le_trans hs hr.2.2.2⟩) hS (fun q _ h => hFc q h) hFc (fun w t H1 locs1 ht hvm hq hB hz1 hk1 hS1 => ?_)
  · obtain ⟨q0, q1, qP, qK, qD⟩ := q
    exact ⟨q0, q1, qP, ⟨ui_K.same (U := U.calling g mk a) rfl qK.1, trivial⟩, qD⟩
  · obtain ⟨hP1, hD1⟩ := hB
    rw [ht] at hP1
    obtain ⟨hP2, hD2⟩ := va_join (wr := wr) (w1 := w) hP hD isC isR hC hR hnd hdis hk1 hFc hP1 hD1
    exact K w hq hO ls H1 locs1 hl hP2 hD2 hS1
/-- the same, by a link that is no nest mate's (the law's own two) -/
theorem i_callL {E' : State → Prop} {M' : uk_M} {f' mc' ms' idx nA b : Nat} {As : List Value} {w0 wr : va_W} {Q' : va_W → Prop} (isC isR : List Nat) (w1 : Cond.methodLink M.1.cls idx M'.1 ∈ uk_w) (w2 : Cond.instanceMethod M'.1 ∈ uk_w) (w4 : Cond.initialized M'.1.cls ∈ uk_w) (w5 : Cond.code M'.1 M'.2.1 M'.2.2.1 none ∈ uk_w) (hi : M'.1.name = "<init>") (hy : M'.1.cls ≠ "java/lang/invoke/MethodHandle" ∧ M'.1.cls ≠ "java/lang/invoke/VarHandle" ∧ (parseMethodDescriptor M'.1.desc).map (fun d => d.parameters.length) = some nA) (hn : M'.2.2.1 ≤ 21)
    (hE : ∀ (H : Heap) (locs : List Loc) (U : State), ui_Ok G A E X M f mc ms Q → va_S A X.2.2.2.1.heap H locs → U.heap = H → X.2.2.2.1.WarmedH U.vm → E' U) (hE2 : ∀ (U V : State), U.heap = V.heap → U.vm = V.vm → E' U → E' V)
    (hm : ui_Meth G E' f' mc' ms' M' (.ref b :: As) w0 Q') (hf : f' + 1 ≤ f) (hk : k + mc' ≤ mc) (hs : n + ms' ≤ ms) (hA : As.length = nA) (hst : stk = As.reverse ++ .ref b :: st) (hc : (st.map fun v => v.category).sum ≤ 8) (hd : decode M.2.1 pc = .ok (.invokespecial idx, 3)) (hC : isC.map (fun i => ws[i]?) = w0.map some) (hCf : isC.filterMap (fun i => ws[i]?) = w0) (hnc : va_nd isC = true) (hR : isR.map (fun i => ws[i]?) = wr.map some) (hnd : va_nd isR = true) (hdis : ∀ i ∈ isR, i ∉ isC)
    (K : ∀ w : va_W, Q' w → ui_G G A E X M f mc ms Q (k + mc') (n + ms') (wr ++ w) (pc + 3) lv st) : ui_G G A E X M f mc ms Q k n ws pc lv stk := fun hO ls H locs hl hP hD hS => by
  have hr := hO.2.2.2.2.2.2.2.2.1
  have hw := hO.2.2.2.2.1
  have hPc := hP.sub isC hCf
  have hDc := hD.sub isC hnc hC
  have hFc := va_free (wc := w0) hD hS hO.2.2.2.2.2.2.2.1 isC hC
  refine va_callv (va_runI (As := As) (rest := st) (Ts := uk_w) ⟨hO.1, hO.2.1, hO.2.2.1, hO.2.2.2.1, hw⟩ (hm H.size) (cwI nA hw (uk_goodIn w5) rfl rfl rfl (hw _ w4) (hw _ w1) (hw _ w2) hi hy ⟨Nat.le_trans hf hr.1, Nat.le_trans (by show 8 + (M'.2.2.1 + 11) + 40 * f' ≤ 40 * f; omega) hr.2.1⟩) ⟨fun a U g mk q => ?_, fun U hU hW => ⟨rfl, by rw [hU], by rw [hU]; exact hPc, ⟨ui_K.warm hW hO.2.2.2.2.2.1.1, hE H locs U hO hS hU hW⟩, hDc.weaken (fun _ _ _ _ => trivial)⟩⟩ rfl hA hl.1 hst (lv_room hc) hd ⟨Nat.le_trans hk hr.2.2.1, Nat.le_trans hs hr.2.2.2⟩) hS (fun q _ h => hFc q h) hFc (fun w t H1 locs1 ht hvm hq hB hz1 hk1 hS1 => ?_)
  · obtain ⟨q0, q1, qP, qK, qD⟩ := q
    exact ⟨q0, q1, qP, ⟨ui_K.same (U := U.calling g mk a) rfl qK.1, hE2 U (U.calling g mk a) rfl rfl qK.2⟩, qD⟩
  · obtain ⟨hP1, hD1⟩ := hB
    rw [ht] at hP1
    obtain ⟨hP2, hD2⟩ := va_join (wr := wr) (w1 := w) hP hD isC isR hC hR hnd hdis hk1 hFc hP1 hD1
    exact K w hq hO ls H1 locs1 hl hP2 hD2 hS1
theorem i_ret (hd : decode M.2.1 pc = .ok (.return_, 1)) (hk : k ≤ mc) (hn : n ≤ ms) (hq : Q ws) : ui_G G A E X M f mc ms Q k n ws pc lv [] := fun hO ls H locs hl hP hD hS => W.widen (k := mc) (n := ms) hk hn (hO.2.2.2.2.2.2.2.2.2 pc ls H locs ws hd hq hP hD hS)
theorem i_ws (h : ws = ws') (K : ui_G G A E X M f mc ms Q k n ws' pc lv st) : ui_G G A E X M f mc ms Q k n ws pc lv st := by rw [h]; exact K
/-- the world is re-ordered, or made less -/
theorem i_sub (is : List Nat) (hnd : va_nd is = true) (hC : is.map (fun i => ws[i]?) = ws'.map some) (hCf : is.filterMap (fun i => ws[i]?) = ws') (K : ui_G G A E X M f mc ms Q k n ws' pc lv st) : ui_G G A E X M f mc ms Q k n ws pc lv st := fun hO ls H locs hl hP hD hS => K hO ls H locs hl (hP.sub is hCf) (hD.sub is hnd hC) hS
theorem ui_Meth.of {As : List Value} {w0 : va_W} (hy : plainName M.1.cls = true) (hn : (lg_sl As).length ≤ M.2.2.1) (h : ∀ (A : Nat → Prop) (X : uk_Cx), ui_G G A E X M f mc ms Q 0 0 w0 0 (lv_args 0 As) []) : ui_Meth G E f mc ms M As w0 Q := by
  intro sz
  refine Met.ofW (cc := M.2.1) (maxL := M.2.2.1) (ret := none) hy rfl ?_
  intro p e s m args below meth c s₁ B hml hv
  obtain ⟨rfl, hsz, hP, hK, hD0⟩ := hv
  have hts := atoms_spec (ws := .code M.1 M.2.1 M.2.2.1 none :: uk_w) B.pre
  have hown : s.vm.findClass M.1.cls = some m.cls := findClass_of_methodNamed B.named
  have hlocks : meth.locks = false := B.notSynchronized
  have hr : meth.sig.returnType = none := B.returns
  have hin : meth.name = M.1.name := (name_of_methodNamed B.named B.method).1
  have hl := lv_entry As (n := M.2.2.1) hn
  subst hsz
  have hD := hD0.self (sz := s.heap.size)
  rw [lg_entry_eq]
  refine h (va_A w0 s.heap.size) (p, e, (headSpec (.code M.1 M.2.1 M.2.2.1 none :: uk_w) (ui_rm f mc ms)).room, s, m, As.toArray, below, meth, c, 0, 0, _) ⟨B.exec, B.bytes, hml, hown, fun w hw => hts w (List.mem_cons_of_mem _ hw), hK, hin, fun q hq => Or.inr hq, ⟨Nat.le_refl _, Nat.le_refl _, Nat.le_refl _, Nat.le_refl _⟩, ?_⟩ _ s.heap [] hl hP hD va_S.rf
  intro pc ls H locs ws hd hq hP hD hS
  exact W.vret B.exec B.bytes hr (fun t ht hW => ⟨⟨ws, rfl, hq, by rw [ht]; exact hP, hD⟩, hS.F ht⟩) hS.2.2 hd hlocks
/-- all cells are there: on with the flat memory -/
theorem i_flat {ad : Nat → Nat} {u : uk_Mem} {d : Nat} (hret : M.2.2.2 = none) (hws : ws = uk_ws (G.1, G.2.1, G.2.2.1, ad, A) u) (hE : ∀ U, E U → uk_E (G.1, G.2.1, G.2.2.1, ad, A) U) (hd : d ≤ f) (hk : k ≤ mc) (hn : n ≤ ms) (K : ∀ X' : uk_Cx, uk_Sep (G.1, G.2.1, G.2.2.1, ad, A) → uk_G (G.1, G.2.1, G.2.2.1, ad, A) X' M d (fun r u' => r = none ∧ Q (uk_ws (G.1, G.2.1, G.2.2.1, ad, A) u')) pc lv st u) : ui_G G A E X M f mc ms Q k n ws pc lv st := fun hO ls H locs hl hP hD hS => by
  subst hws
  have hr := hO.2.2.2.2.2.2.2.2.1
  have hsep : uk_Sep (G.1, G.2.1, G.2.2.1, ad, A) := by
    refine ⟨fun i j hi hj e => hD.1 i j _ _ (uk_ws_at hi) (uk_ws_at hj) e, fun i hi => hD.2 i _ (uk_ws_at hi)⟩
  refine K (X.1, X.2.1, X.2.2.1, X.2.2.2.1, X.2.2.2.2.1, X.2.2.2.2.2.1, X.2.2.2.2.2.2.1, X.2.2.2.2.2.2.2.1, X.2.2.2.2.2.2.2.2.1, k, n, X.2.2.2.2.2.2.2.2.2.2.2) hsep ⟨hO.1, hO.2.1, hO.2.2.1, hO.2.2.2.1, hO.2.2.2.2.1, hO.2.2.2.2.2.1.1.1, ⟨hO.2.2.2.2.2.1.1.2.1, hE _ hO.2.2.2.2.2.1.2⟩, hsep, ⟨Nat.le_trans hd hr.1, Nat.le_trans (Nat.mul_le_mul_left 40 hd) hr.2.1, Nat.le_trans hk hr.2.2.1, Nat.le_trans hn hr.2.2.2⟩, ?_⟩ ls H locs hl hP hS
  intro i pc ls st H locs u r hi hd hq hP hS
  rcases hi with ⟨rfl, v, ty, rfl, rfl, hty, hnr⟩ | ⟨rfl, rfl, rfl, hty⟩ | ⟨rfl, v, rfl, rfl, hty⟩ | ⟨rfl, a, n, rfl, rfl, hty⟩
  · exact absurd (hret.symm.trans hty) (by simp)
  · have hD' : va_D A (uk_ws (G.1, G.2.1, G.2.2.1, ad, A) u) := uk_sepD hsep u
    exact W.widen (k := mc) (n := ms) hk hn (hO.2.2.2.2.2.2.2.2.2 pc ls H locs _ hd hq.2 hP hD' hS)
  · exact absurd (hret.symm.trans hty) (by simp)
  · exact absurd (hret.symm.trans hty) (by simp)
end UIR
set_option maxHeartbeats 4000000 in
set_option maxRecDepth 20000 in
theorem c_X0_init {G : uk_D} (h0 : Nat) : ui_Meth G (fun _ => True) 1 8 64 mX0_init [.ref h0] [(h0, .inr (0, [.int 0, .null, .null, .null, .null, .null, .null, .null, .null, .int 0, .int 0, .int 0]))] (fun w => ∃ (q1 : Nat) (q2 : Nat) (q3 : Nat) (q4 : Nat) (q5 : Nat) (q6 : Nat) (q7 : Nat) (q8 : Nat), w = [(h0, .inr (0, [.int 0, .ref q1, .ref q2, .ref q3, .ref q4, .ref q5, .ref q6, .ref q7, .ref q8, .int 0, .int 0, .int 0])), (q1, .inl (G.2.2.1 8, 8, .inl (fun _ => 0))), (q2, .inl (G.2.2.1 8, 8, .inl (fun _ => 0))), (q3, .inl (G.2.2.1 8, 8, .inl (fun _ => 0))), (q4, .inl (G.2.2.1 8, 8, .inl (fun _ => 0))), (q5, .inl (G.2.2.1 8, 8, .inl (fun _ => 0))), (q6, .inl (G.2.2.1 8, 8, .inl (fun _ => 0))), (q7, .inl (G.2.2.1 8, 8, .inl (fun _ => 0))), (q8, .inl (G.2.2.1 8, 8, .inl (fun _ => 0)))]) := by
  refine ui_Meth.of (by decide) (Nat.le_of_ble_eq_true rfl) (fun A X => ?_)
  refine i_aload_n dX0_init_0 rfl ?_
  refine i_obj (uk_wI (List.mem_of_getElem? (i := 27) (by decide +kernel)) rfl) dX0_init_1 (by decide) (by decide) ?_
  refine i_aload_n dX0_init_4 rfl ?_
  refine i_iconst (v := 0) dX0_init_5 (by decide) ?_
  refine i_put (q0 := 0) (j := 0) (ty := .int) (ws' := [(h0, .inr (0, [.int 0, .null, .null, .null, .null, .null, .null, .null, .null, .int 0, .int 0, .int 0]))]) rfl rfl uk_in0 (by decide) tyX0_ok nmX0 rfl (by decide +kernel) rfl rfl (by decide) (uk_wI (List.mem_of_getElem? (i := 28) (by decide +kernel)) rfl) dX0_init_6 rfl ?_
  refine i_aload_n dX0_init_9 rfl ?_
  refine i_bipush (v := 8) dX0_init_10 (by decide) ?_
  refine i_newa (a0 := (8, .inl (fun _ => 0))) 0 (uk_wI (List.mem_of_getElem? (i := 84) (by decide +kernel)) rfl) rfl rfl (fun _ _ h => h) (fun _ => rfl) (by decide) rfl (by decide) (by decide) (by decide) dX0_init_12 (fun q1 => ?_)
  refine i_ws (ws' := [(h0, .inr (0, [.int 0, .null, .null, .null, .null, .null, .null, .null, .null, .int 0, .int 0, .int 0])), (q1, .inl (G.2.2.1 8, 8, .inl (fun _ => 0)))]) rfl ?_
  refine i_putF (q0 := 0) (j := 1) (ty := (.array .int)) (ws' := [(h0, .inr (0, [.int 0, .ref q1, .null, .null, .null, .null, .null, .null, .null, .int 0, .int 0, .int 0])), (q1, .inl (G.2.2.1 8, 8, .inl (fun _ => 0)))]) rfl rfl uk_in0 (by decide) tyX0_ok nmX0 rfl rfl rfl (by decide +kernel) rfl rfl (by decide) (uk_wI (List.mem_of_getElem? (i := 32) (by decide +kernel)) rfl) dX0_init_14 rfl ?_
  refine i_aload_n dX0_init_17 rfl ?_
  refine i_bipush (v := 8) dX0_init_18 (by decide) ?_
  refine i_newa (a0 := (8, .inl (fun _ => 0))) 0 (uk_wI (List.mem_of_getElem? (i := 84) (by decide +kernel)) rfl) rfl rfl (fun _ _ h => h) (fun _ => rfl) (by decide) rfl (by decide) (by decide) (by decide) dX0_init_20 (fun q2 => ?_)
  refine i_ws (ws' := [(h0, .inr (0, [.int 0, .ref q1, .null, .null, .null, .null, .null, .null, .null, .int 0, .int 0, .int 0])), (q1, .inl (G.2.2.1 8, 8, .inl (fun _ => 0))), (q2, .inl (G.2.2.1 8, 8, .inl (fun _ => 0)))]) rfl ?_
  refine i_putF (q0 := 0) (j := 2) (ty := (.array .int)) (ws' := [(h0, .inr (0, [.int 0, .ref q1, .ref q2, .null, .null, .null, .null, .null, .null, .int 0, .int 0, .int 0])), (q1, .inl (G.2.2.1 8, 8, .inl (fun _ => 0))), (q2, .inl (G.2.2.1 8, 8, .inl (fun _ => 0)))]) rfl rfl uk_in0 (by decide) tyX0_ok nmX0 rfl rfl rfl (by decide +kernel) rfl rfl (by decide) (uk_wI (List.mem_of_getElem? (i := 35) (by decide +kernel)) rfl) dX0_init_22 rfl ?_
  refine i_aload_n dX0_init_25 rfl ?_
  refine i_bipush (v := 8) dX0_init_26 (by decide) ?_
  refine i_newa (a0 := (8, .inl (fun _ => 0))) 0 (uk_wI (List.mem_of_getElem? (i := 84) (by decide +kernel)) rfl) rfl rfl (fun _ _ h => h) (fun _ => rfl) (by decide) rfl (by decide) (by decide) (by decide) dX0_init_28 (fun q3 => ?_)
  refine i_ws (ws' := [(h0, .inr (0, [.int 0, .ref q1, .ref q2, .null, .null, .null, .null, .null, .null, .int 0, .int 0, .int 0])), (q1, .inl (G.2.2.1 8, 8, .inl (fun _ => 0))), (q2, .inl (G.2.2.1 8, 8, .inl (fun _ => 0))), (q3, .inl (G.2.2.1 8, 8, .inl (fun _ => 0)))]) rfl ?_
  refine i_putF (q0 := 0) (j := 3) (ty := (.array .int)) (ws' := [(h0, .inr (0, [.int 0, .ref q1, .ref q2, .ref q3, .null, .null, .null, .null, .null, .int 0, .int 0, .int 0])), (q1, .inl (G.2.2.1 8, 8, .inl (fun _ => 0))), (q2, .inl (G.2.2.1 8, 8, .inl (fun _ => 0))), (q3, .inl (G.2.2.1 8, 8, .inl (fun _ => 0)))]) rfl rfl uk_in0 (by decide) tyX0_ok nmX0 rfl rfl rfl (by decide +kernel) rfl rfl (by decide) (uk_wI (List.mem_of_getElem? (i := 38) (by decide +kernel)) rfl) dX0_init_30 rfl ?_
  refine i_aload_n dX0_init_33 rfl ?_
  refine i_bipush (v := 8) dX0_init_34 (by decide) ?_
  refine i_newa (a0 := (8, .inl (fun _ => 0))) 0 (uk_wI (List.mem_of_getElem? (i := 84) (by decide +kernel)) rfl) rfl rfl (fun _ _ h => h) (fun _ => rfl) (by decide) rfl (by decide) (by decide) (by decide) dX0_init_36 (fun q4 => ?_)
  refine i_ws (ws' := [(h0, .inr (0, [.int 0, .ref q1, .ref q2, .ref q3, .null, .null, .null, .null, .null, .int 0, .int 0, .int 0])), (q1, .inl (G.2.2.1 8, 8, .inl (fun _ => 0))), (q2, .inl (G.2.2.1 8, 8, .inl (fun _ => 0))), (q3, .inl (G.2.2.1 8, 8, .inl (fun _ => 0))), (q4, .inl (G.2.2.1 8, 8, .inl (fun _ => 0)))]) rfl ?_
  refine i_putF (q0 := 0) (j := 4) (ty := (.array .int)) (ws' := [(h0, .inr (0, [.int 0, .ref q1, .ref q2, .ref q3, .ref q4, .null, .null, .null, .null, .int 0, .int 0, .int 0])), (q1, .inl (G.2.2.1 8, 8, .inl (fun _ => 0))), (q2, .inl (G.2.2.1 8, 8, .inl (fun _ => 0))), (q3, .inl (G.2.2.1 8, 8, .inl (fun _ => 0))), (q4, .inl (G.2.2.1 8, 8, .inl (fun _ => 0)))]) rfl rfl uk_in0 (by decide) tyX0_ok nmX0 rfl rfl rfl (by decide +kernel) rfl rfl (by decide) (uk_wI (List.mem_of_getElem? (i := 41) (by decide +kernel)) rfl) dX0_init_38 rfl ?_
  refine i_aload_n dX0_init_41 rfl ?_
  refine i_bipush (v := 8) dX0_init_42 (by decide) ?_
  refine i_newa (a0 := (8, .inl (fun _ => 0))) 0 (uk_wI (List.mem_of_getElem? (i := 84) (by decide +kernel)) rfl) rfl rfl (fun _ _ h => h) (fun _ => rfl) (by decide) rfl (by decide) (by decide) (by decide) dX0_init_44 (fun q5 => ?_)
  refine i_ws (ws' := [(h0, .inr (0, [.int 0, .ref q1, .ref q2, .ref q3, .ref q4, .null, .null, .null, .null, .int 0, .int 0, .int 0])), (q1, .inl (G.2.2.1 8, 8, .inl (fun _ => 0))), (q2, .inl (G.2.2.1 8, 8, .inl (fun _ => 0))), (q3, .inl (G.2.2.1 8, 8, .inl (fun _ => 0))), (q4, .inl (G.2.2.1 8, 8, .inl (fun _ => 0))), (q5, .inl (G.2.2.1 8, 8, .inl (fun _ => 0)))]) rfl ?_
  refine i_putF (q0 := 0) (j := 5) (ty := (.array .int)) (ws' := [(h0, .inr (0, [.int 0, .ref q1, .ref q2, .ref q3, .ref q4, .ref q5, .null, .null, .null, .int 0, .int 0, .int 0])), (q1, .inl (G.2.2.1 8, 8, .inl (fun _ => 0))), (q2, .inl (G.2.2.1 8, 8, .inl (fun _ => 0))), (q3, .inl (G.2.2.1 8, 8, .inl (fun _ => 0))), (q4, .inl (G.2.2.1 8, 8, .inl (fun _ => 0))), (q5, .inl (G.2.2.1 8, 8, .inl (fun _ => 0)))]) rfl rfl uk_in0 (by decide) tyX0_ok nmX0 rfl rfl rfl (by decide +kernel) rfl rfl (by decide) (uk_wI (List.mem_of_getElem? (i := 43) (by decide +kernel)) rfl) dX0_init_46 rfl ?_
  refine i_aload_n dX0_init_49 rfl ?_
  refine i_bipush (v := 8) dX0_init_50 (by decide) ?_
  refine i_newa (a0 := (8, .inl (fun _ => 0))) 0 (uk_wI (List.mem_of_getElem? (i := 84) (by decide +kernel)) rfl) rfl rfl (fun _ _ h => h) (fun _ => rfl) (by decide) rfl (by decide) (by decide) (by decide) dX0_init_52 (fun q6 => ?_)
  refine i_ws (ws' := [(h0, .inr (0, [.int 0, .ref q1, .ref q2, .ref q3, .ref q4, .ref q5, .null, .null, .null, .int 0, .int 0, .int 0])), (q1, .inl (G.2.2.1 8, 8, .inl (fun _ => 0))), (q2, .inl (G.2.2.1 8, 8, .inl (fun _ => 0))), (q3, .inl (G.2.2.1 8, 8, .inl (fun _ => 0))), (q4, .inl (G.2.2.1 8, 8, .inl (fun _ => 0))), (q5, .inl (G.2.2.1 8, 8, .inl (fun _ => 0))), (q6, .inl (G.2.2.1 8, 8, .inl (fun _ => 0)))]) rfl ?_
  refine i_putF (q0 := 0) (j := 6) (ty := (.array .int)) (ws' := [(h0, .inr (0, [.int 0, .ref q1, .ref q2, .ref q3, .ref q4, .ref q5, .ref q6, .null, .null, .int 0, .int 0, .int 0])), (q1, .inl (G.2.2.1 8, 8, .inl (fun _ => 0))), (q2, .inl (G.2.2.1 8, 8, .inl (fun _ => 0))), (q3, .inl (G.2.2.1 8, 8, .inl (fun _ => 0))), (q4, .inl (G.2.2.1 8, 8, .inl (fun _ => 0))), (q5, .inl (G.2.2.1 8, 8, .inl (fun _ => 0))), (q6, .inl (G.2.2.1 8, 8, .inl (fun _ => 0)))]) rfl rfl uk_in0 (by decide) tyX0_ok nmX0 rfl rfl rfl (by decide +kernel) rfl rfl (by decide) (uk_wI (List.mem_of_getElem? (i := 45) (by decide +kernel)) rfl) dX0_init_54 rfl ?_
  refine i_aload_n dX0_init_57 rfl ?_
  refine i_bipush (v := 8) dX0_init_58 (by decide) ?_
  refine i_newa (a0 := (8, .inl (fun _ => 0))) 0 (uk_wI (List.mem_of_getElem? (i := 84) (by decide +kernel)) rfl) rfl rfl (fun _ _ h => h) (fun _ => rfl) (by decide) rfl (by decide) (by decide) (by decide) dX0_init_60 (fun q7 => ?_)
  refine i_ws (ws' := [(h0, .inr (0, [.int 0, .ref q1, .ref q2, .ref q3, .ref q4, .ref q5, .ref q6, .null, .null, .int 0, .int 0, .int 0])), (q1, .inl (G.2.2.1 8, 8, .inl (fun _ => 0))), (q2, .inl (G.2.2.1 8, 8, .inl (fun _ => 0))), (q3, .inl (G.2.2.1 8, 8, .inl (fun _ => 0))), (q4, .inl (G.2.2.1 8, 8, .inl (fun _ => 0))), (q5, .inl (G.2.2.1 8, 8, .inl (fun _ => 0))), (q6, .inl (G.2.2.1 8, 8, .inl (fun _ => 0))), (q7, .inl (G.2.2.1 8, 8, .inl (fun _ => 0)))]) rfl ?_
  refine i_putF (q0 := 0) (j := 7) (ty := (.array .int)) (ws' := [(h0, .inr (0, [.int 0, .ref q1, .ref q2, .ref q3, .ref q4, .ref q5, .ref q6, .ref q7, .null, .int 0, .int 0, .int 0])), (q1, .inl (G.2.2.1 8, 8, .inl (fun _ => 0))), (q2, .inl (G.2.2.1 8, 8, .inl (fun _ => 0))), (q3, .inl (G.2.2.1 8, 8, .inl (fun _ => 0))), (q4, .inl (G.2.2.1 8, 8, .inl (fun _ => 0))), (q5, .inl (G.2.2.1 8, 8, .inl (fun _ => 0))), (q6, .inl (G.2.2.1 8, 8, .inl (fun _ => 0))), (q7, .inl (G.2.2.1 8, 8, .inl (fun _ => 0)))]) rfl rfl uk_in0 (by decide) tyX0_ok nmX0 rfl rfl rfl (by decide +kernel) rfl rfl (by decide) (uk_wI (List.mem_of_getElem? (i := 49) (by decide +kernel)) rfl) dX0_init_62 rfl ?_
  refine i_aload_n dX0_init_65 rfl ?_
  refine i_bipush (v := 8) dX0_init_66 (by decide) ?_
  refine i_newa (a0 := (8, .inl (fun _ => 0))) 0 (uk_wI (List.mem_of_getElem? (i := 84) (by decide +kernel)) rfl) rfl rfl (fun _ _ h => h) (fun _ => rfl) (by decide) rfl (by decide) (by decide) (by decide) dX0_init_68 (fun q8 => ?_)
  refine i_ws (ws' := [(h0, .inr (0, [.int 0, .ref q1, .ref q2, .ref q3, .ref q4, .ref q5, .ref q6, .ref q7, .null, .int 0, .int 0, .int 0])), (q1, .inl (G.2.2.1 8, 8, .inl (fun _ => 0))), (q2, .inl (G.2.2.1 8, 8, .inl (fun _ => 0))), (q3, .inl (G.2.2.1 8, 8, .inl (fun _ => 0))), (q4, .inl (G.2.2.1 8, 8, .inl (fun _ => 0))), (q5, .inl (G.2.2.1 8, 8, .inl (fun _ => 0))), (q6, .inl (G.2.2.1 8, 8, .inl (fun _ => 0))), (q7, .inl (G.2.2.1 8, 8, .inl (fun _ => 0))), (q8, .inl (G.2.2.1 8, 8, .inl (fun _ => 0)))]) rfl ?_
  refine i_putF (q0 := 0) (j := 8) (ty := (.array .int)) (ws' := [(h0, .inr (0, [.int 0, .ref q1, .ref q2, .ref q3, .ref q4, .ref q5, .ref q6, .ref q7, .ref q8, .int 0, .int 0, .int 0])), (q1, .inl (G.2.2.1 8, 8, .inl (fun _ => 0))), (q2, .inl (G.2.2.1 8, 8, .inl (fun _ => 0))), (q3, .inl (G.2.2.1 8, 8, .inl (fun _ => 0))), (q4, .inl (G.2.2.1 8, 8, .inl (fun _ => 0))), (q5, .inl (G.2.2.1 8, 8, .inl (fun _ => 0))), (q6, .inl (G.2.2.1 8, 8, .inl (fun _ => 0))), (q7, .inl (G.2.2.1 8, 8, .inl (fun _ => 0))), (q8, .inl (G.2.2.1 8, 8, .inl (fun _ => 0)))]) rfl rfl uk_in0 (by decide) tyX0_ok nmX0 rfl rfl rfl (by decide +kernel) rfl rfl (by decide) (uk_wI (List.mem_of_getElem? (i := 51) (by decide +kernel)) rfl) dX0_init_70 rfl ?_
  refine i_aload_n dX0_init_73 rfl ?_
  refine i_iconst (v := 0) dX0_init_74 (by decide) ?_
  refine i_put (q0 := 0) (j := 9) (ty := .int) (ws' := [(h0, .inr (0, [.int 0, .ref q1, .ref q2, .ref q3, .ref q4, .ref q5, .ref q6, .ref q7, .ref q8, .int 0, .int 0, .int 0])), (q1, .inl (G.2.2.1 8, 8, .inl (fun _ => 0))), (q2, .inl (G.2.2.1 8, 8, .inl (fun _ => 0))), (q3, .inl (G.2.2.1 8, 8, .inl (fun _ => 0))), (q4, .inl (G.2.2.1 8, 8, .inl (fun _ => 0))), (q5, .inl (G.2.2.1 8, 8, .inl (fun _ => 0))), (q6, .inl (G.2.2.1 8, 8, .inl (fun _ => 0))), (q7, .inl (G.2.2.1 8, 8, .inl (fun _ => 0))), (q8, .inl (G.2.2.1 8, 8, .inl (fun _ => 0)))]) rfl rfl uk_in0 (by decide) tyX0_ok nmX0 rfl (by decide +kernel) rfl rfl (by decide) (uk_wI (List.mem_of_getElem? (i := 53) (by decide +kernel)) rfl) dX0_init_75 rfl ?_
  refine i_aload_n dX0_init_78 rfl ?_
  refine i_iconst (v := 0) dX0_init_79 (by decide) ?_
  refine i_put (q0 := 0) (j := 10) (ty := .int) (ws' := [(h0, .inr (0, [.int 0, .ref q1, .ref q2, .ref q3, .ref q4, .ref q5, .ref q6, .ref q7, .ref q8, .int 0, .int 0, .int 0])), (q1, .inl (G.2.2.1 8, 8, .inl (fun _ => 0))), (q2, .inl (G.2.2.1 8, 8, .inl (fun _ => 0))), (q3, .inl (G.2.2.1 8, 8, .inl (fun _ => 0))), (q4, .inl (G.2.2.1 8, 8, .inl (fun _ => 0))), (q5, .inl (G.2.2.1 8, 8, .inl (fun _ => 0))), (q6, .inl (G.2.2.1 8, 8, .inl (fun _ => 0))), (q7, .inl (G.2.2.1 8, 8, .inl (fun _ => 0))), (q8, .inl (G.2.2.1 8, 8, .inl (fun _ => 0)))]) rfl rfl uk_in0 (by decide) tyX0_ok nmX0 rfl (by decide +kernel) rfl rfl (by decide) (uk_wI (List.mem_of_getElem? (i := 55) (by decide +kernel)) rfl) dX0_init_80 rfl ?_
  refine i_aload_n dX0_init_83 rfl ?_
  refine i_iconst (v := 0) dX0_init_84 (by decide) ?_
  refine i_put (q0 := 0) (j := 11) (ty := .int) (ws' := [(h0, .inr (0, [.int 0, .ref q1, .ref q2, .ref q3, .ref q4, .ref q5, .ref q6, .ref q7, .ref q8, .int 0, .int 0, .int 0])), (q1, .inl (G.2.2.1 8, 8, .inl (fun _ => 0))), (q2, .inl (G.2.2.1 8, 8, .inl (fun _ => 0))), (q3, .inl (G.2.2.1 8, 8, .inl (fun _ => 0))), (q4, .inl (G.2.2.1 8, 8, .inl (fun _ => 0))), (q5, .inl (G.2.2.1 8, 8, .inl (fun _ => 0))), (q6, .inl (G.2.2.1 8, 8, .inl (fun _ => 0))), (q7, .inl (G.2.2.1 8, 8, .inl (fun _ => 0))), (q8, .inl (G.2.2.1 8, 8, .inl (fun _ => 0)))]) rfl rfl uk_in0 (by decide) tyX0_ok nmX0 rfl (by decide +kernel) rfl rfl (by decide) (uk_wI (List.mem_of_getElem? (i := 57) (by decide +kernel)) rfl) dX0_init_85 rfl ?_
  exact i_ret dX0_init_88 (by decide) (by decide) ⟨q1, q2, q3, q4, q5, q6, q7, q8, rfl⟩
set_option maxHeartbeats 4000000 in
set_option maxRecDepth 20000 in
theorem c_X1_init {G : uk_D} (h0 : Nat) : ui_Meth G (fun _ => True) 1 4 153 mX1_init [.ref h0] [(h0, .inr (1, [.null, .int 0, .int 0, .null, .null, .null, .int 0]))] (fun w => ∃ (q1 : Nat) (q2 : Nat) (q3 : Nat) (q4 : Nat), w = [(h0, .inr (1, [.ref q1, .int 0, .int 0, .ref q2, .ref q3, .ref q4, .int 0])), (q1, .inl (G.2.2.1 8, 128, .inl (fun _ => 0))), (q2, .inl (G.2.2.1 8, 8, .inl (fun _ => 0))), (q3, .inl (G.2.2.1 8, 8, .inl (fun _ => 0))), (q4, .inl (G.2.2.1 8, 9, .inl (fun _ => 0)))]) := by
  refine ui_Meth.of (by decide) (Nat.le_of_ble_eq_true rfl) (fun A X => ?_)
  refine i_aload_n dX1_init_0 rfl ?_
  refine i_obj (uk_wI (List.mem_of_getElem? (i := 145) (by decide +kernel)) rfl) dX1_init_1 (by decide) (by decide) ?_
  refine i_aload_n dX1_init_4 rfl ?_
  refine i_sipush (v := 128) dX1_init_5 (by decide) ?_
  refine i_newa (a0 := (128, .inl (fun _ => 0))) 0 (uk_wI (List.mem_of_getElem? (i := 84) (by decide +kernel)) rfl) rfl rfl (fun _ _ h => h) (fun _ => rfl) (by decide) rfl (by decide) (by decide) (by decide) dX1_init_8 (fun q1 => ?_)
  refine i_ws (ws' := [(h0, .inr (1, [.null, .int 0, .int 0, .null, .null, .null, .int 0])), (q1, .inl (G.2.2.1 8, 128, .inl (fun _ => 0)))]) rfl ?_
  refine i_putF (q0 := 0) (j := 0) (ty := (.array .int)) (ws' := [(h0, .inr (1, [.ref q1, .int 0, .int 0, .null, .null, .null, .int 0])), (q1, .inl (G.2.2.1 8, 128, .inl (fun _ => 0)))]) rfl rfl uk_in1 (by decide) tyX1_ok nmX1 rfl rfl rfl (by decide +kernel) rfl rfl (by decide) (uk_wI (List.mem_of_getElem? (i := 146) (by decide +kernel)) rfl) dX1_init_10 rfl ?_
  refine i_aload_n dX1_init_13 rfl ?_
  refine i_iconst (v := 0) dX1_init_14 (by decide) ?_
  refine i_put (q0 := 0) (j := 1) (ty := .int) (ws' := [(h0, .inr (1, [.ref q1, .int 0, .int 0, .null, .null, .null, .int 0])), (q1, .inl (G.2.2.1 8, 128, .inl (fun _ => 0)))]) rfl rfl uk_in1 (by decide) tyX1_ok nmX1 rfl (by decide +kernel) rfl rfl (by decide) (uk_wI (List.mem_of_getElem? (i := 148) (by decide +kernel)) rfl) dX1_init_15 rfl ?_
  refine i_aload_n dX1_init_18 rfl ?_
  refine i_iconst (v := 0) dX1_init_19 (by decide) ?_
  refine i_put (q0 := 0) (j := 2) (ty := .int) (ws' := [(h0, .inr (1, [.ref q1, .int 0, .int 0, .null, .null, .null, .int 0])), (q1, .inl (G.2.2.1 8, 128, .inl (fun _ => 0)))]) rfl rfl uk_in1 (by decide) tyX1_ok nmX1 rfl (by decide +kernel) rfl rfl (by decide) (uk_wI (List.mem_of_getElem? (i := 150) (by decide +kernel)) rfl) dX1_init_20 rfl ?_
  refine i_aload_n dX1_init_23 rfl ?_
  refine i_bipush (v := 8) dX1_init_24 (by decide) ?_
  refine i_newa (a0 := (8, .inl (fun _ => 0))) 0 (uk_wI (List.mem_of_getElem? (i := 84) (by decide +kernel)) rfl) rfl rfl (fun _ _ h => h) (fun _ => rfl) (by decide) rfl (by decide) (by decide) (by decide) dX1_init_26 (fun q2 => ?_)
  refine i_ws (ws' := [(h0, .inr (1, [.ref q1, .int 0, .int 0, .null, .null, .null, .int 0])), (q1, .inl (G.2.2.1 8, 128, .inl (fun _ => 0))), (q2, .inl (G.2.2.1 8, 8, .inl (fun _ => 0)))]) rfl ?_
  refine i_putF (q0 := 0) (j := 3) (ty := (.array .int)) (ws' := [(h0, .inr (1, [.ref q1, .int 0, .int 0, .ref q2, .null, .null, .int 0])), (q1, .inl (G.2.2.1 8, 128, .inl (fun _ => 0))), (q2, .inl (G.2.2.1 8, 8, .inl (fun _ => 0)))]) rfl rfl uk_in1 (by decide) tyX1_ok nmX1 rfl rfl rfl (by decide +kernel) rfl rfl (by decide) (uk_wI (List.mem_of_getElem? (i := 152) (by decide +kernel)) rfl) dX1_init_28 rfl ?_
  refine i_aload_n dX1_init_31 rfl ?_
  refine i_bipush (v := 8) dX1_init_32 (by decide) ?_
  refine i_newa (a0 := (8, .inl (fun _ => 0))) 0 (uk_wI (List.mem_of_getElem? (i := 84) (by decide +kernel)) rfl) rfl rfl (fun _ _ h => h) (fun _ => rfl) (by decide) rfl (by decide) (by decide) (by decide) dX1_init_34 (fun q3 => ?_)
  refine i_ws (ws' := [(h0, .inr (1, [.ref q1, .int 0, .int 0, .ref q2, .null, .null, .int 0])), (q1, .inl (G.2.2.1 8, 128, .inl (fun _ => 0))), (q2, .inl (G.2.2.1 8, 8, .inl (fun _ => 0))), (q3, .inl (G.2.2.1 8, 8, .inl (fun _ => 0)))]) rfl ?_
  refine i_putF (q0 := 0) (j := 4) (ty := (.array .int)) (ws' := [(h0, .inr (1, [.ref q1, .int 0, .int 0, .ref q2, .ref q3, .null, .int 0])), (q1, .inl (G.2.2.1 8, 128, .inl (fun _ => 0))), (q2, .inl (G.2.2.1 8, 8, .inl (fun _ => 0))), (q3, .inl (G.2.2.1 8, 8, .inl (fun _ => 0)))]) rfl rfl uk_in1 (by decide) tyX1_ok nmX1 rfl rfl rfl (by decide +kernel) rfl rfl (by decide) (uk_wI (List.mem_of_getElem? (i := 154) (by decide +kernel)) rfl) dX1_init_36 rfl ?_
  refine i_aload_n dX1_init_39 rfl ?_
  refine i_bipush (v := 9) dX1_init_40 (by decide) ?_
  refine i_newa (a0 := (9, .inl (fun _ => 0))) 0 (uk_wI (List.mem_of_getElem? (i := 84) (by decide +kernel)) rfl) rfl rfl (fun _ _ h => h) (fun _ => rfl) (by decide) rfl (by decide) (by decide) (by decide) dX1_init_42 (fun q4 => ?_)
  refine i_ws (ws' := [(h0, .inr (1, [.ref q1, .int 0, .int 0, .ref q2, .ref q3, .null, .int 0])), (q1, .inl (G.2.2.1 8, 128, .inl (fun _ => 0))), (q2, .inl (G.2.2.1 8, 8, .inl (fun _ => 0))), (q3, .inl (G.2.2.1 8, 8, .inl (fun _ => 0))), (q4, .inl (G.2.2.1 8, 9, .inl (fun _ => 0)))]) rfl ?_
  refine i_putF (q0 := 0) (j := 5) (ty := (.array .int)) (ws' := [(h0, .inr (1, [.ref q1, .int 0, .int 0, .ref q2, .ref q3, .ref q4, .int 0])), (q1, .inl (G.2.2.1 8, 128, .inl (fun _ => 0))), (q2, .inl (G.2.2.1 8, 8, .inl (fun _ => 0))), (q3, .inl (G.2.2.1 8, 8, .inl (fun _ => 0))), (q4, .inl (G.2.2.1 8, 9, .inl (fun _ => 0)))]) rfl rfl uk_in1 (by decide) tyX1_ok nmX1 rfl rfl rfl (by decide +kernel) rfl rfl (by decide) (uk_wI (List.mem_of_getElem? (i := 155) (by decide +kernel)) rfl) dX1_init_44 rfl ?_
  refine i_aload_n dX1_init_47 rfl ?_
  refine i_iconst (v := 0) dX1_init_48 (by decide) ?_
  refine i_put (q0 := 0) (j := 6) (ty := .int) (ws' := [(h0, .inr (1, [.ref q1, .int 0, .int 0, .ref q2, .ref q3, .ref q4, .int 0])), (q1, .inl (G.2.2.1 8, 128, .inl (fun _ => 0))), (q2, .inl (G.2.2.1 8, 8, .inl (fun _ => 0))), (q3, .inl (G.2.2.1 8, 8, .inl (fun _ => 0))), (q4, .inl (G.2.2.1 8, 9, .inl (fun _ => 0)))]) rfl rfl uk_in1 (by decide) tyX1_ok nmX1 rfl (by decide +kernel) rfl rfl (by decide) (uk_wI (List.mem_of_getElem? (i := 156) (by decide +kernel)) rfl) dX1_init_49 rfl ?_
  exact i_ret dX1_init_52 (by decide) (by decide) ⟨q1, q2, q3, q4, rfl⟩
set_option maxHeartbeats 4000000 in
set_option maxRecDepth 20000 in
theorem c_X2_init {G : uk_D} (h0 : Nat) : ui_Meth G (fun _ => True) 1 2 8 mX2_init [.ref h0] [(h0, .inr (2, [.null, .null, .int 0, .int 0, .int 0]))] (fun w => ∃ (q1 : Nat) (q2 : Nat), w = [(h0, .inr (2, [.ref q1, .ref q2, .int 0, .int 0, .int 0])), (q1, .inl (G.2.2.1 8, 4, .inl (fun _ => 0))), (q2, .inl (G.2.2.1 8, 4, .inl (fun _ => 0)))]) := by
  refine ui_Meth.of (by decide) (Nat.le_of_ble_eq_true rfl) (fun A X => ?_)
  refine i_aload_n dX2_init_0 rfl ?_
  refine i_obj (uk_wI (List.mem_of_getElem? (i := 178) (by decide +kernel)) rfl) dX2_init_1 (by decide) (by decide) ?_
  refine i_aload_n dX2_init_4 rfl ?_
  refine i_iconst (v := 4) dX2_init_5 (by decide) ?_
  refine i_newa (a0 := (4, .inl (fun _ => 0))) 0 (uk_wI (List.mem_of_getElem? (i := 84) (by decide +kernel)) rfl) rfl rfl (fun _ _ h => h) (fun _ => rfl) (by decide) rfl (by decide) (by decide) (by decide) dX2_init_6 (fun q1 => ?_)
  refine i_ws (ws' := [(h0, .inr (2, [.null, .null, .int 0, .int 0, .int 0])), (q1, .inl (G.2.2.1 8, 4, .inl (fun _ => 0)))]) rfl ?_
  refine i_putF (q0 := 0) (j := 0) (ty := (.array .int)) (ws' := [(h0, .inr (2, [.ref q1, .null, .int 0, .int 0, .int 0])), (q1, .inl (G.2.2.1 8, 4, .inl (fun _ => 0)))]) rfl rfl uk_in2 (by decide) tyX2_ok nmX2 rfl rfl rfl (by decide +kernel) rfl rfl (by decide) (uk_wI (List.mem_of_getElem? (i := 179) (by decide +kernel)) rfl) dX2_init_8 rfl ?_
  refine i_aload_n dX2_init_11 rfl ?_
  refine i_iconst (v := 4) dX2_init_12 (by decide) ?_
  refine i_newa (a0 := (4, .inl (fun _ => 0))) 0 (uk_wI (List.mem_of_getElem? (i := 84) (by decide +kernel)) rfl) rfl rfl (fun _ _ h => h) (fun _ => rfl) (by decide) rfl (by decide) (by decide) (by decide) dX2_init_13 (fun q2 => ?_)
  refine i_ws (ws' := [(h0, .inr (2, [.ref q1, .null, .int 0, .int 0, .int 0])), (q1, .inl (G.2.2.1 8, 4, .inl (fun _ => 0))), (q2, .inl (G.2.2.1 8, 4, .inl (fun _ => 0)))]) rfl ?_
  refine i_putF (q0 := 0) (j := 1) (ty := (.array .int)) (ws' := [(h0, .inr (2, [.ref q1, .ref q2, .int 0, .int 0, .int 0])), (q1, .inl (G.2.2.1 8, 4, .inl (fun _ => 0))), (q2, .inl (G.2.2.1 8, 4, .inl (fun _ => 0)))]) rfl rfl uk_in2 (by decide) tyX2_ok nmX2 rfl rfl rfl (by decide +kernel) rfl rfl (by decide) (uk_wI (List.mem_of_getElem? (i := 180) (by decide +kernel)) rfl) dX2_init_15 rfl ?_
  refine i_aload_n dX2_init_18 rfl ?_
  refine i_iconst (v := 0) dX2_init_19 (by decide) ?_
  refine i_put (q0 := 0) (j := 2) (ty := .int) (ws' := [(h0, .inr (2, [.ref q1, .ref q2, .int 0, .int 0, .int 0])), (q1, .inl (G.2.2.1 8, 4, .inl (fun _ => 0))), (q2, .inl (G.2.2.1 8, 4, .inl (fun _ => 0)))]) rfl rfl uk_in2 (by decide) tyX2_ok nmX2 rfl (by decide +kernel) rfl rfl (by decide) (uk_wI (List.mem_of_getElem? (i := 181) (by decide +kernel)) rfl) dX2_init_20 rfl ?_
  refine i_aload_n dX2_init_23 rfl ?_
  refine i_iconst (v := 0) dX2_init_24 (by decide) ?_
  refine i_put (q0 := 0) (j := 3) (ty := .int) (ws' := [(h0, .inr (2, [.ref q1, .ref q2, .int 0, .int 0, .int 0])), (q1, .inl (G.2.2.1 8, 4, .inl (fun _ => 0))), (q2, .inl (G.2.2.1 8, 4, .inl (fun _ => 0)))]) rfl rfl uk_in2 (by decide) tyX2_ok nmX2 rfl (by decide +kernel) rfl rfl (by decide) (uk_wI (List.mem_of_getElem? (i := 183) (by decide +kernel)) rfl) dX2_init_25 rfl ?_
  refine i_aload_n dX2_init_28 rfl ?_
  refine i_iconst (v := 0) dX2_init_29 (by decide) ?_
  refine i_put (q0 := 0) (j := 4) (ty := .int) (ws' := [(h0, .inr (2, [.ref q1, .ref q2, .int 0, .int 0, .int 0])), (q1, .inl (G.2.2.1 8, 4, .inl (fun _ => 0))), (q2, .inl (G.2.2.1 8, 4, .inl (fun _ => 0)))]) rfl rfl uk_in2 (by decide) tyX2_ok nmX2 rfl (by decide +kernel) rfl rfl (by decide) (uk_wI (List.mem_of_getElem? (i := 185) (by decide +kernel)) rfl) dX2_init_30 rfl ?_
  exact i_ret dX2_init_33 (by decide) (by decide) ⟨q1, q2, rfl⟩
set_option maxHeartbeats 4000000 in
set_option maxRecDepth 20000 in
theorem c_X3_init {G : uk_D} (h0 : Nat) : ui_Meth G (fun _ => True) 1 7 172 mX3_init [.ref h0] [(h0, .inr (3, [.null, .null, .null]))] (fun w => ∃ (q1 : Nat) (q2 : Nat) (q3 : Nat) (r4 : Nat → Nat), w = [(h0, .inr (3, [.ref q1, .ref q2, .ref q3])), (q1, .inl (G.2.2.1 8, 4, .inl (upd (upd (upd (upd (fun _ => 0) (0 : Int32).toNatClampNeg (-1)) (1 : Int32).toNatClampNeg (-1)) (2 : Int32).toNatClampNeg (-1)) (3 : Int32).toNatClampNeg (-1)))), (q2, .inl (G.2.2.1 8, 4, .inl (fun _ => 0))), (q3, .inl (G.2.2.1 12, 4, .inr (.inr (.inr (.inr (fun i => if i < 4 then some (r4 i) else none)))))), (r4 0, .inl (G.2.2.1 8, 40, .inl (fun _ => 0))), (r4 1, .inl (G.2.2.1 8, 40, .inl (fun _ => 0))), (r4 2, .inl (G.2.2.1 8, 40, .inl (fun _ => 0))), (r4 3, .inl (G.2.2.1 8, 40, .inl (fun _ => 0)))]) := by
  refine ui_Meth.of (by decide) (Nat.le_of_ble_eq_true rfl) (fun A X => ?_)
  refine i_aload_n dX3_init_0 rfl ?_
  refine i_obj (uk_wI (List.mem_of_getElem? (i := 202) (by decide +kernel)) rfl) dX3_init_1 (by decide) (by decide) ?_
  refine i_aload_n dX3_init_4 rfl ?_
  refine i_iconst (v := 4) dX3_init_5 (by decide) ?_
  refine i_newa (a0 := (4, .inl (fun _ => 0))) 0 (uk_wI (List.mem_of_getElem? (i := 84) (by decide +kernel)) rfl) rfl rfl (fun _ _ h => h) (fun _ => rfl) (by decide) rfl (by decide) (by decide) (by decide) dX3_init_6 (fun q1 => ?_)
  refine i_ws (ws' := [(h0, .inr (3, [.null, .null, .null])), (q1, .inl (G.2.2.1 8, 4, .inl (fun _ => 0)))]) rfl ?_
  refine i_dup dX3_init_8 rfl ?_
  refine i_iconst (v := 0) dX3_init_9 (by decide) ?_
  refine i_iconst (v := (-1)) dX3_init_10 (by decide) ?_
  refine i_iast (q0 := 1) (t0 := 0) (ws' := [(h0, .inr (3, [.null, .null, .null])), (q1, .inl (G.2.2.1 8, 4, .inl (upd (fun _ => 0) (0 : Int32).toNatClampNeg (-1))))]) rfl rfl (by decide) dX3_init_11 rfl ?_
  refine i_dup dX3_init_12 rfl ?_
  refine i_iconst (v := 1) dX3_init_13 (by decide) ?_
  refine i_iconst (v := (-1)) dX3_init_14 (by decide) ?_
  refine i_iast (q0 := 1) (t0 := 0) (ws' := [(h0, .inr (3, [.null, .null, .null])), (q1, .inl (G.2.2.1 8, 4, .inl (upd (upd (fun _ => 0) (0 : Int32).toNatClampNeg (-1)) (1 : Int32).toNatClampNeg (-1))))]) rfl rfl (by decide) dX3_init_15 rfl ?_
  refine i_dup dX3_init_16 rfl ?_
  refine i_iconst (v := 2) dX3_init_17 (by decide) ?_
  refine i_iconst (v := (-1)) dX3_init_18 (by decide) ?_
  refine i_iast (q0 := 1) (t0 := 0) (ws' := [(h0, .inr (3, [.null, .null, .null])), (q1, .inl (G.2.2.1 8, 4, .inl (upd (upd (upd (fun _ => 0) (0 : Int32).toNatClampNeg (-1)) (1 : Int32).toNatClampNeg (-1)) (2 : Int32).toNatClampNeg (-1))))]) rfl rfl (by decide) dX3_init_19 rfl ?_
  refine i_dup dX3_init_20 rfl ?_
  refine i_iconst (v := 3) dX3_init_21 (by decide) ?_
  refine i_iconst (v := (-1)) dX3_init_22 (by decide) ?_
  refine i_iast (q0 := 1) (t0 := 0) (ws' := [(h0, .inr (3, [.null, .null, .null])), (q1, .inl (G.2.2.1 8, 4, .inl (upd (upd (upd (upd (fun _ => 0) (0 : Int32).toNatClampNeg (-1)) (1 : Int32).toNatClampNeg (-1)) (2 : Int32).toNatClampNeg (-1)) (3 : Int32).toNatClampNeg (-1))))]) rfl rfl (by decide) dX3_init_23 rfl ?_
  refine i_putF (q0 := 0) (j := 0) (ty := (.array .int)) (ws' := [(h0, .inr (3, [.ref q1, .null, .null])), (q1, .inl (G.2.2.1 8, 4, .inl (upd (upd (upd (upd (fun _ => 0) (0 : Int32).toNatClampNeg (-1)) (1 : Int32).toNatClampNeg (-1)) (2 : Int32).toNatClampNeg (-1)) (3 : Int32).toNatClampNeg (-1))))]) rfl rfl uk_in3 (by decide) tyX3_ok nmX3 rfl rfl rfl (by decide +kernel) rfl rfl (by decide) (uk_wI (List.mem_of_getElem? (i := 205) (by decide +kernel)) rfl) dX3_init_24 rfl ?_
  refine i_aload_n dX3_init_27 rfl ?_
  refine i_iconst (v := 4) dX3_init_28 (by decide) ?_
  refine i_newa (a0 := (4, .inl (fun _ => 0))) 0 (uk_wI (List.mem_of_getElem? (i := 84) (by decide +kernel)) rfl) rfl rfl (fun _ _ h => h) (fun _ => rfl) (by decide) rfl (by decide) (by decide) (by decide) dX3_init_29 (fun q2 => ?_)
  refine i_ws (ws' := [(h0, .inr (3, [.ref q1, .null, .null])), (q1, .inl (G.2.2.1 8, 4, .inl (upd (upd (upd (upd (fun _ => 0) (0 : Int32).toNatClampNeg (-1)) (1 : Int32).toNatClampNeg (-1)) (2 : Int32).toNatClampNeg (-1)) (3 : Int32).toNatClampNeg (-1)))), (q2, .inl (G.2.2.1 8, 4, .inl (fun _ => 0)))]) rfl ?_
  refine i_putF (q0 := 0) (j := 1) (ty := (.array .int)) (ws' := [(h0, .inr (3, [.ref q1, .ref q2, .null])), (q1, .inl (G.2.2.1 8, 4, .inl (upd (upd (upd (upd (fun _ => 0) (0 : Int32).toNatClampNeg (-1)) (1 : Int32).toNatClampNeg (-1)) (2 : Int32).toNatClampNeg (-1)) (3 : Int32).toNatClampNeg (-1)))), (q2, .inl (G.2.2.1 8, 4, .inl (fun _ => 0)))]) rfl rfl uk_in3 (by decide) tyX3_ok nmX3 rfl rfl rfl (by decide +kernel) rfl rfl (by decide) (uk_wI (List.mem_of_getElem? (i := 206) (by decide +kernel)) rfl) dX3_init_31 rfl ?_
  refine i_aload_n dX3_init_34 rfl ?_
  refine i_iconst (v := 4) dX3_init_35 (by decide) ?_
  refine i_bipush (v := 40) dX3_init_36 (by decide) ?_
  refine i_mna 0 4 (uk_wI (List.mem_of_getElem? (i := 203) (by decide +kernel)) rfl) (uk_wI (List.mem_of_getElem? (i := 84) (by decide +kernel)) rfl) rfl rfl rfl rfl (by decide) (by decide) dX3_init_38 (fun q3 r4 => ?_)
  refine i_ws (ws' := [(h0, .inr (3, [.ref q1, .ref q2, .null])), (q1, .inl (G.2.2.1 8, 4, .inl (upd (upd (upd (upd (fun _ => 0) (0 : Int32).toNatClampNeg (-1)) (1 : Int32).toNatClampNeg (-1)) (2 : Int32).toNatClampNeg (-1)) (3 : Int32).toNatClampNeg (-1)))), (q2, .inl (G.2.2.1 8, 4, .inl (fun _ => 0))), (q3, .inl (G.2.2.1 12, 4, .inr (.inr (.inr (.inr (fun i => if i < 4 then some (r4 i) else none)))))), (r4 0, .inl (G.2.2.1 8, 40, .inl (fun _ => 0))), (r4 1, .inl (G.2.2.1 8, 40, .inl (fun _ => 0))), (r4 2, .inl (G.2.2.1 8, 40, .inl (fun _ => 0))), (r4 3, .inl (G.2.2.1 8, 40, .inl (fun _ => 0)))]) rfl ?_
  refine i_putF (q0 := 0) (j := 2) (ty := (.array (.array .int))) (ws' := [(h0, .inr (3, [.ref q1, .ref q2, .ref q3])), (q1, .inl (G.2.2.1 8, 4, .inl (upd (upd (upd (upd (fun _ => 0) (0 : Int32).toNatClampNeg (-1)) (1 : Int32).toNatClampNeg (-1)) (2 : Int32).toNatClampNeg (-1)) (3 : Int32).toNatClampNeg (-1)))), (q2, .inl (G.2.2.1 8, 4, .inl (fun _ => 0))), (q3, .inl (G.2.2.1 12, 4, .inr (.inr (.inr (.inr (fun i => if i < 4 then some (r4 i) else none)))))), (r4 0, .inl (G.2.2.1 8, 40, .inl (fun _ => 0))), (r4 1, .inl (G.2.2.1 8, 40, .inl (fun _ => 0))), (r4 2, .inl (G.2.2.1 8, 40, .inl (fun _ => 0))), (r4 3, .inl (G.2.2.1 8, 40, .inl (fun _ => 0)))]) rfl rfl uk_in3 (by decide) tyX3_ok nmX3 rfl rfl rfl (by decide +kernel) rfl rfl (by decide) (uk_wI (List.mem_of_getElem? (i := 208) (by decide +kernel)) rfl) dX3_init_42 rfl ?_
  exact i_ret dX3_init_45 (by decide) (by decide) ⟨q1, q2, q3, r4, rfl⟩
set_option maxHeartbeats 4000000 in
set_option maxRecDepth 20000 in
theorem c_X4_init {G : uk_D} (h0 : Nat) : ui_Meth G (fun _ => True) 1 1 160 mX4_init [.ref h0] [(h0, .inr (4, [.null, .int 0, .int 0, .int 0, .int 0, .int 0]))] (fun w => ∃ (q1 : Nat), w = [(h0, .inr (4, [.ref q1, .int 0, .int 0, .int 0, .int 0, .int 0])), (q1, .inl (G.2.2.1 9, 160, .inl (fun _ => 0)))]) := by
  refine ui_Meth.of (by decide) (Nat.le_of_ble_eq_true rfl) (fun A X => ?_)
  refine i_aload_n dX4_init_0 rfl ?_
  refine i_obj (uk_wI (List.mem_of_getElem? (i := 90) (by decide +kernel)) rfl) dX4_init_1 (by decide) (by decide) ?_
  refine i_aload_n dX4_init_4 rfl ?_
  refine i_sipush (v := 160) dX4_init_5 (by decide) ?_
  refine i_newa (a0 := (160, .inl (fun _ => 0))) 1 (uk_wI (List.mem_of_getElem? (i := 115) (by decide +kernel)) rfl) rfl rfl (fun _ _ h => h) (fun _ => rfl) (by decide) rfl (by decide) (by decide) (by decide) dX4_init_8 (fun q1 => ?_)
  refine i_ws (ws' := [(h0, .inr (4, [.null, .int 0, .int 0, .int 0, .int 0, .int 0])), (q1, .inl (G.2.2.1 9, 160, .inl (fun _ => 0)))]) rfl ?_
  refine i_putF (q0 := 0) (j := 0) (ty := (.array .byte)) (ws' := [(h0, .inr (4, [.ref q1, .int 0, .int 0, .int 0, .int 0, .int 0])), (q1, .inl (G.2.2.1 9, 160, .inl (fun _ => 0)))]) rfl rfl uk_in4 (by decide) tyX4_ok nmX4 rfl rfl rfl (by decide +kernel) rfl rfl (by decide) (uk_wI (List.mem_of_getElem? (i := 91) (by decide +kernel)) rfl) dX4_init_10 rfl ?_
  refine i_aload_n dX4_init_13 rfl ?_
  refine i_iconst (v := 0) dX4_init_14 (by decide) ?_
  refine i_put (q0 := 0) (j := 1) (ty := .int) (ws' := [(h0, .inr (4, [.ref q1, .int 0, .int 0, .int 0, .int 0, .int 0])), (q1, .inl (G.2.2.1 9, 160, .inl (fun _ => 0)))]) rfl rfl uk_in4 (by decide) tyX4_ok nmX4 rfl (by decide +kernel) rfl rfl (by decide) (uk_wI (List.mem_of_getElem? (i := 92) (by decide +kernel)) rfl) dX4_init_15 rfl ?_
  refine i_aload_n dX4_init_18 rfl ?_
  refine i_iconst (v := 0) dX4_init_19 (by decide) ?_
  refine i_put (q0 := 0) (j := 2) (ty := .int) (ws' := [(h0, .inr (4, [.ref q1, .int 0, .int 0, .int 0, .int 0, .int 0])), (q1, .inl (G.2.2.1 9, 160, .inl (fun _ => 0)))]) rfl rfl uk_in4 (by decide) tyX4_ok nmX4 rfl (by decide +kernel) rfl rfl (by decide) (uk_wI (List.mem_of_getElem? (i := 95) (by decide +kernel)) rfl) dX4_init_20 rfl ?_
  refine i_aload_n dX4_init_23 rfl ?_
  refine i_iconst (v := 0) dX4_init_24 (by decide) ?_
  refine i_put (q0 := 0) (j := 3) (ty := .int) (ws' := [(h0, .inr (4, [.ref q1, .int 0, .int 0, .int 0, .int 0, .int 0])), (q1, .inl (G.2.2.1 9, 160, .inl (fun _ => 0)))]) rfl rfl uk_in4 (by decide) tyX4_ok nmX4 rfl (by decide +kernel) rfl rfl (by decide) (uk_wI (List.mem_of_getElem? (i := 96) (by decide +kernel)) rfl) dX4_init_25 rfl ?_
  refine i_aload_n dX4_init_28 rfl ?_
  refine i_iconst (v := 0) dX4_init_29 (by decide) ?_
  refine i_put (q0 := 0) (j := 4) (ty := .int) (ws' := [(h0, .inr (4, [.ref q1, .int 0, .int 0, .int 0, .int 0, .int 0])), (q1, .inl (G.2.2.1 9, 160, .inl (fun _ => 0)))]) rfl rfl uk_in4 (by decide) tyX4_ok nmX4 rfl (by decide +kernel) rfl rfl (by decide) (uk_wI (List.mem_of_getElem? (i := 98) (by decide +kernel)) rfl) dX4_init_30 rfl ?_
  refine i_aload_n dX4_init_33 rfl ?_
  refine i_iconst (v := 0) dX4_init_34 (by decide) ?_
  refine i_put (q0 := 0) (j := 5) (ty := .int) (ws' := [(h0, .inr (4, [.ref q1, .int 0, .int 0, .int 0, .int 0, .int 0])), (q1, .inl (G.2.2.1 9, 160, .inl (fun _ => 0)))]) rfl rfl uk_in4 (by decide) tyX4_ok nmX4 rfl (by decide +kernel) rfl rfl (by decide) (uk_wI (List.mem_of_getElem? (i := 100) (by decide +kernel)) rfl) dX4_init_35 rfl ?_
  exact i_ret dX4_init_38 (by decide) (by decide) ⟨q1, rfl⟩
set_option maxHeartbeats 4000000 in
set_option maxRecDepth 20000 in
theorem c_X5_init {G : uk_D} (h0 : Nat) (a1 : Nat) (a2 : Nat) : ui_Meth G (fun _ => True) 1 0 0 mX5_init [.ref h0, .ref a1, .ref a2] [(h0, .inr (5, [.null, .null, .int 0, .int 0, .int 0]))] (fun w => w = [(h0, .inr (5, [.ref a1, .ref a2, .int 0, .int 0, .int 0]))]) := by
  refine ui_Meth.of (by decide) (Nat.le_of_ble_eq_true rfl) (fun A X => ?_)
  refine i_aload_n dX5_init_0 rfl ?_
  refine i_obj (uk_wI (List.mem_of_getElem? (i := 121) (by decide +kernel)) rfl) dX5_init_1 (by decide) (by decide) ?_
  refine i_aload_n dX5_init_4 rfl ?_
  refine i_iconst (v := 0) dX5_init_5 (by decide) ?_
  refine i_put (q0 := 0) (j := 2) (ty := .int) (ws' := [(h0, .inr (5, [.null, .null, .int 0, .int 0, .int 0]))]) rfl rfl uk_in5 (by decide) tyX5_ok nmX5 rfl (by decide +kernel) rfl rfl (by decide) (uk_wI (List.mem_of_getElem? (i := 124) (by decide +kernel)) rfl) dX5_init_6 rfl ?_
  refine i_aload_n dX5_init_9 rfl ?_
  refine i_iconst (v := 0) dX5_init_10 (by decide) ?_
  refine i_put (q0 := 0) (j := 3) (ty := .int) (ws' := [(h0, .inr (5, [.null, .null, .int 0, .int 0, .int 0]))]) rfl rfl uk_in5 (by decide) tyX5_ok nmX5 rfl (by decide +kernel) rfl rfl (by decide) (uk_wI (List.mem_of_getElem? (i := 126) (by decide +kernel)) rfl) dX5_init_11 rfl ?_
  refine i_aload_n dX5_init_14 rfl ?_
  refine i_iconst (v := 0) dX5_init_15 (by decide) ?_
  refine i_put (q0 := 0) (j := 4) (ty := .int) (ws' := [(h0, .inr (5, [.null, .null, .int 0, .int 0, .int 0]))]) rfl rfl uk_in5 (by decide) tyX5_ok nmX5 rfl (by decide +kernel) rfl rfl (by decide) (uk_wI (List.mem_of_getElem? (i := 128) (by decide +kernel)) rfl) dX5_init_16 rfl ?_
  refine i_aload_n dX5_init_19 rfl ?_
  refine i_aload_n dX5_init_20 rfl ?_
  refine i_putF (q0 := 0) (j := 0) (ty := (.object "UncookMill$Tape")) (ws' := [(h0, .inr (5, [.ref a1, .null, .int 0, .int 0, .int 0]))]) rfl rfl uk_in5 (by decide) tyX5_ok nmX5 rfl rfl rfl (by decide +kernel) rfl rfl (by decide) (uk_wI (List.mem_of_getElem? (i := 122) (by decide +kernel)) rfl) dX5_init_21 rfl ?_
  refine i_aload_n dX5_init_24 rfl ?_
  refine i_aload_n dX5_init_25 rfl ?_
  refine i_putF (q0 := 0) (j := 1) (ty := (.object "UncookMill$Kitchen")) (ws' := [(h0, .inr (5, [.ref a1, .ref a2, .int 0, .int 0, .int 0]))]) rfl rfl uk_in5 (by decide) tyX5_ok nmX5 rfl rfl rfl (by decide +kernel) rfl rfl (by decide) (uk_wI (List.mem_of_getElem? (i := 123) (by decide +kernel)) rfl) dX5_init_26 rfl ?_
  exact i_ret dX5_init_29 (by decide) (by decide) rfl
