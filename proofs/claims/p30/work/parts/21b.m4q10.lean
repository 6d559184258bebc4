def pot (u : uk_Mem) : Nat := pt (u.1 71) (u.1 60 22).toNatClampNeg
def rp (u : uk_Mem) : Prop := (∀ i : Nat, i < (u.1 60 22).toNatClampNeg → u.1 71 i < u.1 60 3) ∧ pot u ≤ 255
theorem rp_mk {u v : uk_Mem} {R : Nat → Int32} {n : Int32} (h71 : v.1 71 = R) (h22 : v.1 60 22 = n) (h3 : v.1 60 3 = u.1 60 3) (hl : ∀ i, i < n.toNatClampNeg → R i < u.1 60 3) (hp : pt R n.toNatClampNeg ≤ 255) : rp v := by
  unfold rp pot
  rw [h71, h22, h3]
  exact ⟨hl, hp⟩
theorem rp_lay {u v : uk_Mem} {R : Nat → Int32} {m : Int32} (h71 : v.1 71 = upd R (0 : Int32).toNatClampNeg m) (h22 : v.1 60 22 = 1) (h3 : v.1 60 3 = u.1 60 3) (h0 : 0 ≤ m) (h7 : m ≤ 7) (hm : m < u.1 60 3) : rp v := by
  have z : (0 : Int32).toNatClampNeg = 0 := rfl
  have z1 : (1 : Int32).toNatClampNeg = 1 := rfl
  have e : upd R 0 m 0 = m := by unfold upd; rw [if_pos rfl]
  rw [z] at h71
  refine rp_mk h71 h22 h3 (fun i hi => ?_) ?_
  · rw [z1] at hi
    rw [show i = 0 by omega, e]
    exact hm
  · rw [z1]
    unfold pt pt
    rw [e]
    have := wt_7 h0 h7
    omega
theorem rp_n {u : uk_Mem} (h : rp u) : (u.1 60 22).toNatClampNeg ≤ 255 := Nat.le_trans (pt_ge _ _) h.2
/-- a thing gives its first part back -/
theorem tn_1 {u v : uk_Mem} (h : rp u) {i m a : Int32} (hi : 0 ≤ i) (hn : i < u.1 60 22) (hm : u.1 71 i.toNatClampNeg = m) (ha : 0 ≤ a) (ham : a < m) (h71 : v.1 71 = upd (u.1 71) i.toNatClampNeg a) (h22 : v.1 60 22 = u.1 60 22) (h3 : v.1 60 3 = u.1 60 3) : rp v ∧ pot v < pot u := by
  have hl := uk_cll hi hn
  have hp := pt_upd (R := u.1 71) (a := a) _ hl
  rw [hm] at hp
  have hw := wt_one ha ham
  have hq : pot v < pot u := by
    unfold pot
    rw [h71, h22]
    omega
  refine ⟨⟨?_, Nat.le_trans (Nat.le_of_lt hq) h.2⟩, hq⟩
  rw [h71, h22, h3]
  intro j hj
  unfold upd
  by_cases q : j = i.toNatClampNeg
  · rw [if_pos q]
    have := h.1 _ hl
    rw [hm] at this
    exact Int32.lt_trans ham this
  · rw [if_neg q]
    exact h.1 j hj
/-- a thing gives both its parts back -/
theorem tn_2 {u v : uk_Mem} (h : rp u) {i m a b : Int32} (hi : 0 ≤ i) (hn : i < u.1 60 22) (hm : u.1 71 i.toNatClampNeg = m) (ha : 0 ≤ a) (ham : a < m) (hb : 0 ≤ b) (hbm : b < m) (h71 : v.1 71 = upd (sh (upd (u.1 71) i.toNatClampNeg a) (u.1 60 22).toNatClampNeg (i + 1).toNatClampNeg) (i + 1).toNatClampNeg b) (h22 : v.1 60 22 = u.1 60 22 + 1) (h3 : v.1 60 3 = u.1 60 3) : rp v ∧ pot v < pot u := by
  have hl := uk_cll hi hn
  have hp := pt_upd (R := u.1 71) (a := a) _ hl
  have hr := pt_sh (R := upd (u.1 71) i.toNatClampNeg a) (b := b) _ hl
  rw [hm] at hp
  have hw := wt_two ha ham hb hbm
  have hN := rp_n h
  have hn1 : u.1 60 22 ≤ 255 := by
    apply Int32.le_iff_toInt_le.mpr
    have e : (u.1 60 22).toNatClampNeg = (u.1 60 22).toInt.toNat := rfl
    have z : (255 : Int32).toInt = 255 := rfl
    omega
  have e1 : (i + 1).toNatClampNeg = i.toNatClampNeg + 1 := uk_c1 hi (by grind)
  have e2 : (u.1 60 22 + 1).toNatClampNeg = (u.1 60 22).toNatClampNeg + 1 := uk_c1 (by grind) (by grind)
  rw [e1] at h71
  have hq : pot v < pot u := by
    unfold pot
    rw [h71, h22, e2]
    omega
  refine ⟨⟨?_, Nat.le_trans (Nat.le_of_lt hq) h.2⟩, hq⟩
  have hms : m < u.1 60 3 := by
    have := h.1 _ hl
    rwa [hm] at this
  have hA : ∀ j, j < (u.1 60 22).toNatClampNeg → upd (u.1 71) i.toNatClampNeg a j < u.1 60 3 := fun j hj => by
    unfold upd
    by_cases q : j = i.toNatClampNeg
    · rw [if_pos q]
      exact Int32.lt_trans ham hms
    · rw [if_neg q]
      exact h.1 j hj
  rw [h71, h22, h3, e2]
  intro j hj
  unfold upd
  by_cases q : j = i.toNatClampNeg + 1
  · rw [if_pos q]
    exact Int32.lt_trans hbm hms
  · rw [if_neg q]
    unfold sh
    by_cases q2 : i.toNatClampNeg + 1 < j ∧ j ≤ (u.1 60 22).toNatClampNeg
    · rw [if_pos q2]
      exact hA _ (by omega)
    · rw [if_neg q2]
      exact hA _ (by omega)
theorem tn_n {u : uk_Mem} (h : rp u) {i m a b : Int32} (hi : 0 ≤ i) (hn : i < u.1 60 22) (hm : u.1 71 i.toNatClampNeg = m) (ha : 0 ≤ a) (ham : a < m) (hb : 0 ≤ b) (hbm : b < m) : u.1 60 22 ≤ 254 := by
  have hl := uk_cll hi hn
  have hp := pt_upd (R := u.1 71) (a := a) _ hl
  have hr := pt_sh (R := upd (u.1 71) i.toNatClampNeg a) (b := b) _ hl
  rw [hm] at hp
  have hw := wt_two ha ham hb hbm
  have hg := pt_ge (upd (sh (upd (u.1 71) i.toNatClampNeg a) (u.1 60 22).toNatClampNeg (i.toNatClampNeg + 1)) (i.toNatClampNeg + 1) b) ((u.1 60 22).toNatClampNeg + 1)
  have h255 := h.2
  unfold pot at h255
  apply Int32.le_iff_toInt_le.mpr
  have e : (u.1 60 22).toNatClampNeg = (u.1 60 22).toInt.toNat := rfl
  have z : (254 : Int32).toInt = 254 := rfl
  omega
