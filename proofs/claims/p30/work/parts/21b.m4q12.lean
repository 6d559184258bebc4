/-! the images -/
def cpi (A B : Nat → Int32) (to o k : Int32) : Prop := ∀ i : Int32, 0 ≤ i → i ≤ 152 → A i.toNatClampNeg = if to ≤ i ∧ i < to + k then B (o + (i - to)).toNatClampNeg else B i.toNatClampNeg
theorem cpi_0 {A : Nat → Int32} {to o : Int32} (h : 0 ≤ to) (h1 : to ≤ 102) : cpi A A to o 0 := fun i h0 h1 => by
  rw [if_neg (by grind)]
theorem cpi_up {A B : Nat → Int32} {to o k x z : Int32} (h : cpi A B to o k) (h0 : 0 ≤ k) (h1 : k < 51) (t0 : 0 ≤ to) (t1 : to ≤ 102) (o0 : 0 ≤ o) (o1 : o ≤ 102) (hz : z = to + k) (hto : o + 51 ≤ to ∨ to + 51 ≤ o) (hx : x = A (o + k).toNatClampNeg) : cpi (upd A z.toNatClampNeg x) B to o (k + 1) := fun i i0 i1 => by
  subst hz
  have hA := h (o + k) (by grind) (by grind)
  have hnn : ¬ (to ≤ o + k ∧ o + k < to + k) := fun q => by
    rcases hto with z | z
    · have := q.1
      lia
    · have := q.2
      lia
  rw [if_neg hnn] at hA
  by_cases q : i = to + k
  · rw [upd_at q, hx, hA, if_pos (by grind), show o + (i - to) = o + k by grind]
  · rw [upd_ne i0 (by grind) q, h i i0 i1]
    by_cases q2 : to ≤ i ∧ i < to + k
    · rw [if_pos q2, if_pos (by grind)]
    · rw [if_neg q2, if_neg (by grind)]
theorem iv_img {u v : uk_Mem} (h : iv v) (hu : iv u) {to o k z w x : Int32} (ht : to = 0 ∨ to = 51 ∨ to = 102) (ho : o = 0 ∨ o = 51 ∨ o = 102) (h0 : 0 ≤ k) (h1 : k < 51) (hz : z = to + k) (hw : w = o + k) (hx : x = u.1 61 w.toNatClampNeg) : iv (uk_up v 61 z.toNatClampNeg x) := by
  obtain ⟨j, hj, rfl⟩ := nI_of2 (x := k) (M := 50) (n := 50) rfl (by grind) (by grind)
  have key : ∀ t : Int32, t = 0 ∨ t = 51 ∨ t = 102 → uk_rg 61 (t + nI j).toNatClampNeg = uk_rg 61 j := by
    intro t ht
    rcases ht with rfl | rfl | rfl
    · rw [Int32.zero_add, nI_clamp (by omega)]
    · rw [show (51 : Int32) = nI 51 from rfl, nI_add, nI_clamp (by omega)]
      exact sg_t8 j (by omega)
    · rw [show (102 : Int32) = nI 102 from rfl, nI_add, nI_clamp (by omega)]
      exact sg_t9 j (by omega)
  have hr := hu 61 w.toNatClampNeg
  rw [← hx, hw, key o ho] at hr
  rw [hz]
  exact iv_up h (lo := (uk_rg 61 j).1) (hi := (uk_rg 61 j).2) (key to ht) hr.1 hr.2
/-- an image is kept -/
theorem ri_keep {u u' : uk_Mem} (h : ri u) {k to : Int32} (hk : (k = 0 ∧ to = 51) ∨ (k = 1 ∧ to = 102)) (f0 : u'.1 60 3 = u.1 60 3) (f3 : u'.1 63 = upd (u.1 63) k.toNatClampNeg 1) (f4 : u'.1 64 = u.1 64) (f5 : u'.1 65 = u.1 65) (hc : cpi (u'.1 61) (u.1 61) to 0 51) : ri u' := by
  unfold ri
  rw [f0, f3, f4, f5]
  rcases hk with ⟨rfl, rfl⟩ | ⟨rfl, rfl⟩
  · refine ⟨rk_eq h.1 (fun m m0 m7 => ?_), Or.inr (rk_eq h.1 (fun m m0 m7 => ?_)), ?_⟩
    · rw [hc (32 + m) (by grind) (by grind), if_neg (by grind)]
    · rw [hc (83 + m) (by grind) (by grind), if_pos (by grind), show (0 : Int32) + (83 + m - 51) = 32 + m by grind]
    · have : upd (u.1 63) (0 : Int32).toNatClampNeg 1 1 = u.1 63 1 := by unfold upd; rw [if_neg (by decide)]
      rw [this]
      refine h.2.2.imp_right fun q => rk_eq q (fun m m0 m7 => ?_)
      rw [hc (134 + m) (by grind) (by grind), if_neg (by grind)]
  · refine ⟨rk_eq h.1 (fun m m0 m7 => ?_), ?_, Or.inr (rk_eq h.1 (fun m m0 m7 => ?_))⟩
    · rw [hc (32 + m) (by grind) (by grind), if_neg (by grind)]
    · have : upd (u.1 63) (1 : Int32).toNatClampNeg 1 0 = u.1 63 0 := by unfold upd; rw [if_neg (by decide)]
      rw [this]
      refine h.2.1.imp_right fun q => rk_eq q (fun m m0 m7 => ?_)
      rw [hc (83 + m) (by grind) (by grind), if_neg (by grind)]
    · rw [hc (134 + m) (by grind) (by grind), if_pos (by grind), show (0 : Int32) + (134 + m - 102) = 32 + m by grind]
/-- an image comes back -/
theorem ri_back {u u' : uk_Mem} (h : ri u) {k o : Int32} (hk : (k = 0 ∧ o = 51) ∨ (k = 1 ∧ o = 102)) (h1 : ¬ u.1 63 k.toNatClampNeg = 0) (f0 : u'.1 60 3 = u.1 60 3) (f3 : u'.1 63 = u.1 63) (f4 : u'.1 64 = u.1 64) (f5 : u'.1 65 = u.1 65) (hc : cpi (u'.1 61) (u.1 61) 0 o 51) : ri u' := by
  unfold ri
  rw [f0, f3, f4, f5]
  have e1 : ∀ m : Int32, 0 ≤ m → m ≤ 7 → u'.1 61 (83 + m).toNatClampNeg = u.1 61 (83 + m).toNatClampNeg := fun m m0 m7 => by
    rw [hc (83 + m) (by grind) (by grind), if_neg (by grind)]
  have e2 : ∀ m : Int32, 0 ≤ m → m ≤ 7 → u'.1 61 (134 + m).toNatClampNeg = u.1 61 (134 + m).toNatClampNeg := fun m m0 m7 => by
    rw [hc (134 + m) (by grind) (by grind), if_neg (by grind)]
  refine ⟨?_, h.2.1.imp_right fun q => rk_eq q e1, h.2.2.imp_right fun q => rk_eq q e2⟩
  rcases hk with ⟨rfl, rfl⟩ | ⟨rfl, rfl⟩
  · refine rk_eq (h.2.1.resolve_left h1) (fun m m0 m7 => ?_)
    rw [hc (32 + m) (by grind) (by grind), if_pos (by grind), show (51 : Int32) + (32 + m - 0) = 83 + m by grind]
  · refine rk_eq (h.2.2.resolve_left h1) (fun m m0 m7 => ?_)
    rw [hc (32 + m) (by grind) (by grind), if_pos (by grind), show (102 : Int32) + (32 + m - 0) = 134 + m by grind]
