/-! what a doing does, place by place -/
theorem rem_a : ∀ j, j < 10 → nI j - nI j / 10 * 10 = nI j := by decide +kernel
theorem rem_b : ∀ j, j < 18 → 10 ≤ j → nI j - nI j / 10 * 10 = nI j - 10 := by decide +kernel
theorem rm_lo {g : Int32} (h0 : 0 ≤ g) (h : g ≤ 9) : g - g / 10 * 10 = g := by
  obtain ⟨j, hj, rfl⟩ := nI_of2 (x := g) (M := 9) (n := 9) rfl (by grind) h
  exact rem_a j (by omega)
theorem rm_hi {g : Int32} (h0 : 10 ≤ g) (h : g ≤ 17) : g - g / 10 * 10 = g - 10 := by
  have c := uk_cge 10 10 rfl h0
  obtain ⟨j, hj, rfl⟩ := nI_of2 (x := g) (M := 17) (n := 17) rfl (by grind) h
  have e : (nI j).toNatClampNeg = j := nI_clamp (by omega)
  exact rem_b j (by omega) (by omega)
theorem mc_c {u : uk_Mem} {b d : Nat} {m t : Int32} (hd : ¬ d = b + 6) : (e_X0_moveCooked u b m t).1 d = u.1 d := by
  unfold e_X0_moveCooked
  dsimp only
  rw [uk_up_oc hd, uk_up_oc hd, uk_up_oc hd]
theorem mc_j {u : uk_Mem} {b j : Nat} {m t : Int32} : (e_X0_moveCooked u b m t).1 (b + 6) j = u.1 (b + 6) j - (if j = (u.1 (b + 2) m.toNatClampNeg).toNatClampNeg then t else 0) - (if j = (u.1 (b + 3) m.toNatClampNeg).toNatClampNeg then t else 0) + (if j = m.toNatClampNeg then t else 0) := by
  unfold e_X0_moveCooked
  dsimp only
  have e3 : ∀ x i, (uk_up u (b + 6) i x).1 (b + 3) = u.1 (b + 3) := fun x i => uk_up_oc (by omega)
  rw [e3]
  simp only [uk_up_at, true_and]
  generalize (u.1 (b + 2) m.toNatClampNeg).toNatClampNeg = A
  generalize (u.1 (b + 3) m.toNatClampNeg).toNatClampNeg = B
  generalize m.toNatClampNeg = M
  grind
theorem givesB_w {u w : uk_Mem} {k h : Int32} : e_X0_givesB u k h = e_X0_givesB w k h := rfl
theorem mt_c {u : uk_Mem} {b d : Nat} {m t : Int32} (hd : ¬ d = b + 6) : (e_X0_moveTurned u b m t).1 d = u.1 d := by
  unfold e_X0_moveTurned
  dsimp only
  split
  · rw [uk_up_oc hd, uk_up_oc hd]
  · rw [uk_up_oc hd, uk_up_oc hd, uk_up_oc hd]
theorem mt_j {u : uk_Mem} {b j : Nat} {m t : Int32} : (e_X0_moveTurned u b m t).1 (b + 6) j = u.1 (b + 6) j - (if j = m.toNatClampNeg then t else 0) + (if j = (u.1 (b + 2) m.toNatClampNeg).toNatClampNeg then t else 0) + (if j = (u.1 (b + 3) m.toNatClampNeg).toNatClampNeg then (if e_X0_givesB u (u.1 (b + 1) m.toNatClampNeg) (u.1 (b + 7) m.toNatClampNeg) = 0 then 0 else t) else 0) := by
  unfold e_X0_moveTurned
  dsimp only
  have e3 : ∀ (w : uk_Mem) x i, (uk_up w (b + 6) i x).1 (b + 3) = w.1 (b + 3) := fun w x i => uk_up_oc (by omega)
  have e2 : ∀ (w : uk_Mem) x i, (uk_up w (b + 6) i x).1 (b + 2) = w.1 (b + 2) := fun w x i => uk_up_oc (by omega)
  have e1 : ∀ (w : uk_Mem) x i, (uk_up w (b + 6) i x).1 (b + 1) = w.1 (b + 1) := fun w x i => uk_up_oc (by omega)
  have e7 : ∀ (w : uk_Mem) x i, (uk_up w (b + 6) i x).1 (b + 7) = w.1 (b + 7) := fun w x i => uk_up_oc (by omega)
  simp only [e1, e2, e3, e7, givesB_w (w := u)]
  generalize e_X0_givesB u (u.1 (b + 1) m.toNatClampNeg) (u.1 (b + 7) m.toNatClampNeg) = G
  generalize hA : (u.1 (b + 2) m.toNatClampNeg).toNatClampNeg = A
  generalize hB : (u.1 (b + 3) m.toNatClampNeg).toNatClampNeg = B
  generalize m.toNatClampNeg = M
  by_cases hG : G = 0
  · rw [if_pos hG, if_pos hG]
    simp only [uk_up_at, true_and]
    grind
  · rw [if_neg hG, if_neg hG]
    simp only [uk_up_at, true_and]
    grind
theorem fh_c {u : uk_Mem} {b d : Nat} {m : Int32} (hd : ¬ d = b + 7) : (e_X0_flipHalf u b m).1 d = u.1 d := by
  unfold e_X0_flipHalf
  dsimp only
  split
  · rw [uk_up_oc hd]
  · rfl
theorem fh_j {u : uk_Mem} {b j : Nat} {m : Int32} : (e_X0_flipHalf u b m).1 (b + 7) j = if j = m.toNatClampNeg ∧ u.1 (b + 1) m.toNatClampNeg = 3 then 1 - u.1 (b + 7) m.toNatClampNeg else u.1 (b + 7) j := by
  unfold e_X0_flipHalf
  dsimp only
  split
  · rw [uk_up_at]
    grind
  · grind
theorem pf_lo {u : uk_Mem} {b : Nat} {g : Int32} (hg : g < 10) (d j : Nat) : (e_X0_perform u b g).1 d j = if d = b ∧ j = 11 then u.1 b 11 + 1 else (e_X0_moveCooked u b g 1).1 d j := by
  unfold e_X0_perform
  rw [show e_X6_stuffOf u g = g from if_pos hg]
  dsimp only
  rw [if_pos hg, uk_up_at, mc_c (by omega)]
theorem pf_hi {u : uk_Mem} {b : Nat} {g : Int32} (hg : ¬ g < 10) (d j : Nat) : (e_X0_perform u b g).1 d j = if d = b ∧ j = 11 then u.1 b 11 + 1 else (e_X0_flipHalf (e_X0_moveTurned u b (g - 10) 1) b (g - 10)).1 d j := by
  unfold e_X0_perform
  rw [show e_X6_stuffOf u g = g - 10 from if_neg hg]
  dsimp only
  rw [if_neg hg, uk_up_at, fh_c (by omega), mt_c (by omega)]
theorem da_c {v : uk_Mem} {g : Int32} {d : Nat} (hd : ¬ d = 62) : (e_X7_doIt_a v g).1 d = v.1 d := by
  unfold e_X7_doIt_a
  dsimp only
  simp only [uk_up_oc hd]
theorem db_c {v : uk_Mem} {g : Int32} {d : Nat} (hd : ¬ d = 62) : (e_X7_doIt_b v g).1 d = v.1 d := by
  unfold e_X7_doIt_b
  dsimp only
  split <;> split <;> simp only [uk_up_oc hd]
theorem da_j {v : uk_Mem} {g : Int32} (h0 : 0 ≤ g) (h7 : g ≤ 7) (ha : v.1 64 g.toNatClampNeg ≤ 7) (hb : v.1 65 g.toNatClampNeg ≤ 7) (ha0 : 0 ≤ v.1 64 g.toNatClampNeg) (hb0 : 0 ≤ v.1 65 g.toNatClampNeg) (j : Nat) : (e_X7_doIt_a v g).1 62 j = if j = 41 then v.1 62 41 + 1 else v.1 62 j + (if j = g.toNatClampNeg then 1 else 0) - (if j = (v.1 64 g.toNatClampNeg).toNatClampNeg then 1 else 0) - (if j = (v.1 65 g.toNatClampNeg).toNatClampNeg then 1 else 0) := by
  unfold e_X7_doIt_a
  dsimp only
  rw [rm_lo h0 (by lia)]
  have e64 : ∀ (w : uk_Mem) x i, (uk_up w 62 i x).1 64 = w.1 64 := fun w x i => uk_up_oc (by decide)
  have e65 : ∀ (w : uk_Mem) x i, (uk_up w 62 i x).1 65 = w.1 65 := fun w x i => uk_up_oc (by decide)
  simp only [e64, e65, ix_0, ix_8 h0 h7]
  have la := uk_cln 7 7 rfl ha0 ha
  have lb := uk_cln 7 7 rfl hb0 hb
  have lg := uk_cln 7 7 rfl h0 h7
  generalize (v.1 64 g.toNatClampNeg).toNatClampNeg = A at *
  generalize (v.1 65 g.toNatClampNeg).toNatClampNeg = B at *
  generalize g.toNatClampNeg = M at *
  have h41 : (41 : Int32).toNatClampNeg = 41 := rfl
  simp only [uk_up_at, true_and, h41]
  grind
theorem db_j {v : uk_Mem} {g : Int32} (h0 : 10 ≤ g) (h7 : g ≤ 17) (ha : v.1 64 (g - 10).toNatClampNeg ≤ 7) (hb : v.1 65 (g - 10).toNatClampNeg ≤ 7) (ha0 : 0 ≤ v.1 64 (g - 10).toNatClampNeg) (hb0 : 0 ≤ v.1 65 (g - 10).toNatClampNeg) (j : Nat) : (e_X7_doIt_b v g).1 62 j = if j = 41 then v.1 62 41 + 1 else if j = (g - 10).toNatClampNeg + 8 then (if v.1 62 ((g - 10).toNatClampNeg + 32) = 3 then 1 - v.1 62 ((g - 10).toNatClampNeg + 8) else v.1 62 ((g - 10).toNatClampNeg + 8)) else v.1 62 j - (if j = (g - 10).toNatClampNeg then 1 else 0) + (if j = (v.1 64 (g - 10).toNatClampNeg).toNatClampNeg then 1 else 0) + (if j = (v.1 65 (g - 10).toNatClampNeg).toNatClampNeg then (if e_X7_givesSecond v (g - 10) = 0 then 0 else 1) else 0) := by
  unfold e_X7_doIt_b
  dsimp only
  rw [rm_hi h0 h7]
  have m0 : 0 ≤ g - 10 := by lia
  have m7 : g - 10 ≤ 7 := by lia
  generalize g - 10 = m at *
  have e64 : ∀ (w : uk_Mem) x i, (uk_up w 62 i x).1 64 = w.1 64 := fun w x i => uk_up_oc (by decide)
  have e65 : ∀ (w : uk_Mem) x i, (uk_up w 62 i x).1 65 = w.1 65 := fun w x i => uk_up_oc (by decide)
  simp only [e64, e65, ix_0, ix_8 m0 m7, ix_32 m0 m7]
  have la := uk_cln 7 7 rfl ha0 ha
  have lb := uk_cln 7 7 rfl hb0 hb
  have lg := uk_cln 7 7 rfl m0 m7
  generalize e_X7_givesSecond v m = S
  generalize (v.1 64 m.toNatClampNeg).toNatClampNeg = A at *
  generalize (v.1 65 m.toNatClampNeg).toNatClampNeg = B at *
  generalize m.toNatClampNeg = M at *
  have h41 : (41 : Int32).toNatClampNeg = 41 := rfl
  have k32 : ∀ x y z, (uk_up (uk_up (uk_up v 62 M x) 62 A y) 62 B z).1 62 (M + 32) = v.1 62 (M + 32) := fun x y z => by
    rw [uk_up_at, if_neg (by omega), uk_up_at, if_neg (by omega), uk_up_at, if_neg (by omega)]
  have k8 : ∀ x y z, (uk_up (uk_up (uk_up v 62 M x) 62 A y) 62 B z).1 62 (M + 8) = v.1 62 (M + 8) := fun x y z => by
    rw [uk_up_at, if_neg (by omega), uk_up_at, if_neg (by omega), uk_up_at, if_neg (by omega)]
  simp only [k32, k8]
  by_cases hS : S = 0
  · rw [if_pos hS, if_pos hS]
    by_cases h3 : v.1 62 (M + 32) = 3
    · rw [if_pos h3, if_pos h3]
      simp only [uk_up_at, true_and, h41]
      grind
    · rw [if_neg h3, if_neg h3]
      simp only [uk_up_at, true_and, h41]
      grind
  · rw [if_neg hS, if_neg hS]
    by_cases h3 : v.1 62 (M + 32) = 3
    · rw [if_pos h3, if_pos h3]
      simp only [uk_up_at, true_and, h41]
      grind
    · rw [if_neg h3, if_neg h3]
      simp only [uk_up_at, true_and, h41]
      grind
theorem KR_step {u v u' v' : uk_Mem} {b : Nat} (hK : KR u v b 62 0) (n8 : (v.1 60 3).toNatClampNeg ≤ 8) (c : ∀ d, (d = b + 1 ∨ d = b + 2 ∨ d = b + 3 ∨ d = b + 4 ∨ d = b + 5 ∨ d = b + 8) → u'.1 d = u.1 d) (s0 : u'.1 b 0 = u.1 b 0) (s9 : u'.1 b 9 = u.1 b 9) (s10 : u'.1 b 10 = u.1 b 10) (v60 : v'.1 60 3 = v.1 60 3) (v64 : v'.1 64 = v.1 64) (v65 : v'.1 65 = v.1 65) (o : ∀ j, 16 ≤ j → ¬ j = 41 → v'.1 62 j = v.1 62 j) (s11 : u'.1 b 11 = v'.1 62 41) (hp : ∀ j, j < (v.1 60 3).toNatClampNeg → u'.1 (b + 6) j = v'.1 62 j) (hh : ∀ j, j < (v.1 60 3).toNatClampNeg → u'.1 (b + 7) j = v'.1 62 (j + 8)) : KR u' v' b 62 0 := by
  obtain ⟨k0, k9, k10, k11, kj, ks⟩ := hK
  refine ⟨by rw [s0, v60]; exact k0, by rw [s9, o _ (by omega) (by omega)]; exact k9, by rw [s10, o _ (by omega) (by omega)]; exact k10, s11, fun j hj => ?_, fun i hi => ?_⟩
  · rw [v60] at hj
    obtain ⟨j1, j2, j3, j4, j5, j6⟩ := kj j hj
    unfold KJ
    rw [c (b + 1) (by omega), c (b + 2) (by omega), c (b + 3) (by omega), c (b + 4) (by omega), c (b + 5) (by omega), o (j + (0 + 32)) (by omega) (by omega), o (j + (0 + 16)) (by omega) (by omega), o (j + (0 + 24)) (by omega) (by omega), v64, v65]
    exact ⟨j1, j2, hp j hj, hh j hj, j5, j6⟩
  · rw [o _ (by omega) (by omega)] at hi
    rw [c (b + 8) (by omega), o _ (by omega) (by omega)]
    exact ks i hi
theorem KR_cook {u v : uk_Mem} {b : Nat} {g : Int32} (hv : iv v) (hra : ra v) (hK : KR u v b 62 0) (h0 : 0 ≤ g) (hg : g < v.1 60 3) (hk : ¬ v.1 62 (g.toNatClampNeg + 32) = 4) : KR (e_X0_perform u b g) (e_X7_doIt v g) b 62 0 := by
  have hn : 0 ≤ v.1 60 3 ∧ v.1 60 3 ≤ 8 := iv_at hv 60 3 rfl
  have n8 := uk_cln 8 8 rfl hn.1 hn.2
  have hr := hra g h0 hg (by lia)
  rw [ix_32 h0 (by lia)] at hr
  obtain ⟨a0, a1, b0, b1⟩ := hr.resolve_left hk
  have hd : e_X7_doIt v g = e_X7_doIt_a v g := if_pos (by lia)
  have w := da_j (v := v) h0 (by lia) (by lia) (by lia) a0 b0
  have hlo := pf_lo (u := u) (b := b) (g := g) (by lia)
  have la := uk_cln 7 7 rfl a0 (by lia)
  have lb := uk_cln 7 7 rfl b0 (by lia)
  have lg := uk_cln 7 7 rfl h0 (by lia)
  obtain ⟨g1, g2, g3, g4, g5, g6⟩ := hK.2.2.2.2.1 g.toNatClampNeg (uk_cll h0 hg)
  rw [hd]
  refine KR_step hK n8 (fun d hd => funext fun j => by rw [hlo, if_neg (by omega), mc_c (by omega)]) (by rw [hlo, if_neg (by omega), mc_c (by omega)]) (by rw [hlo, if_neg (by omega), mc_c (by omega)]) (by rw [hlo, if_neg (by omega), mc_c (by omega)]) (by rw [da_c (by decide)]) (da_c (by decide)) (da_c (by decide)) (fun j h1 h2 => ?_) ?_ (fun j hj => ?_) (fun j hj => ?_)
  · rw [w j, if_neg h2, if_neg (by omega), if_neg (by omega), if_neg (by omega)]
    grind
  · rw [hlo, if_pos ⟨rfl, rfl⟩, w 41, if_pos rfl, hK.2.2.2.1]
  · rw [hlo, if_neg (by omega), mc_j, w j, if_neg (show ¬ j = 41 by omega), (g6 hk).1, (g6 hk).2, (hK.2.2.2.2.1 j hj).2.2.1]
    simp only [Nat.add_zero]
    grind
  · rw [hlo, if_neg (by omega), mc_c (by omega), w (j + 8), if_neg (by omega), if_neg (by omega), if_neg (by omega), if_neg (by omega), (hK.2.2.2.2.1 j hj).2.2.2.1]
    simp only [Nat.zero_add]
    grind
theorem KR_turn {u v : uk_Mem} {b : Nat} {g : Int32} (hv : iv v) (hra : ra v) (hK : KR u v b 62 0) (h0 : 10 ≤ g) (hg : g - 10 < v.1 60 3) (hk : ¬ v.1 62 ((g - 10).toNatClampNeg + 32) = 4) : KR (e_X0_perform u b g) (e_X7_doIt v g) b 62 0 := by
  have hn : 0 ≤ v.1 60 3 ∧ v.1 60 3 ≤ 8 := iv_at hv 60 3 rfl
  have n8 := uk_cln 8 8 rfl hn.1 hn.2
  have g17 : g ≤ 17 := by lia
  have m0 : 0 ≤ g - 10 := by lia
  have m7 : g - 10 ≤ 7 := by lia
  have hr := hra (g - 10) m0 hg m7
  rw [ix_32 m0 m7] at hr
  obtain ⟨a0, a1, b0, b1⟩ := hr.resolve_left hk
  have hd : e_X7_doIt v g = e_X7_doIt_b v g := if_neg (by lia)
  have w := db_j (v := v) h0 g17 (by lia) (by lia) a0 b0
  have hhi := pf_hi (u := u) (b := b) (g := g) (by lia)
  have la := uk_cln 7 7 rfl a0 (by lia)
  have lb := uk_cln 7 7 rfl b0 (by lia)
  have lg := uk_cln 7 7 rfl m0 m7
  obtain ⟨g1, g2, g3, g4, g5, g6⟩ := hK.2.2.2.2.1 (g - 10).toNatClampNeg (uk_cll m0 hg)
  have gb := givesB_e (u := u) (v := v) m0 m7
  rw [hd]
  generalize g - 10 = m at *
  refine KR_step hK n8 (fun d hd => funext fun j => by rw [hhi, if_neg (by omega), fh_c (by omega), mt_c (by omega)]) (by rw [hhi, if_neg (by omega), fh_c (by omega), mt_c (by omega)]) (by rw [hhi, if_neg (by omega), fh_c (by omega), mt_c (by omega)]) (by rw [hhi, if_neg (by omega), fh_c (by omega), mt_c (by omega)]) (by rw [db_c (by decide)]) (db_c (by decide)) (db_c (by decide)) (fun j h1 h2 => ?_) ?_ (fun j hj => ?_) (fun j hj => ?_)
  · rw [w j, if_neg h2, if_neg (by omega), if_neg (by omega), if_neg (by omega), if_neg (by omega)]
    grind
  · rw [hhi, if_pos ⟨rfl, rfl⟩, w 41, if_pos rfl, hK.2.2.2.1]
  · rw [hhi, if_neg (by omega), fh_c (by omega), mt_j, w j, if_neg (show ¬ j = 41 by omega), if_neg (show ¬ j = m.toNatClampNeg + 8 by omega), (g6 hk).1, (g6 hk).2, g1, g4, (hK.2.2.2.2.1 j hj).2.2.1]
    simp only [Nat.zero_add, Nat.add_zero]
    rw [gb]
  · rw [hhi, if_neg (by omega), fh_j, mt_c (by omega), mt_c (by omega), w (j + 8), if_neg (show ¬ j + 8 = 41 by omega), g1, g4, (hK.2.2.2.2.1 j hj).2.2.2.1]
    simp only [Nat.zero_add]
    by_cases q : j = m.toNatClampNeg
    · subst q
      simp only [true_and, if_true]
    · rw [if_neg (fun z => q z.1), if_neg (by omega), if_neg (by omega), if_neg (by omega), if_neg (by omega)]
      grind
