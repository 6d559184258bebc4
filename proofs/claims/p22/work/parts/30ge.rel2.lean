/-! what a doing does, place by place -/
theorem rem_a : ∀ j, j < 10 → nI j - nI j / 10 * 10 = nI j := by decide +kernel
theorem rem_b : ∀ j, j < 18 → 10 ≤ j → nI j - nI j / 10 * 10 = nI j - 10 := by decide +kernel
theorem rm_lo {g : Int32} (h0 : 0 ≤ g) (h : g ≤ 9) : g - g / 10 * 10 = g := by
  obtain ⟨j, hj, rfl⟩ := nI_of2 (x := g) (M := 9) (n := 9) rfl (by grind) h
  exact rem_a j (by omega)
theorem rm_hi {g : Int32} (h0 : 10 ≤ g) (h : g ≤ 17) : g - g / 10 * 10 = g - 10 := by
  have c := uk_cge 10 10 rfl h0
  obtain ⟨j, hj, rfl⟩ := nI_of2 (x := g) (M := 17) (n := 17) rfl (by grind) h
  have e : (nI j).toNatClampNeg = j := nI_clamp (by omega)
  exact rem_b j (by omega) (by omega)
theorem mc_c {u : uk_Mem} {b d : Nat} {m t : Int32} (hd : ¬ d = b + 6) : (e_X0_moveCooked u b m t).1 d = u.1 d := by
  unfold e_X0_moveCooked
  dsimp only
  rw [uk_up_oc hd, uk_up_oc hd, uk_up_oc hd]
theorem mc_j {u : uk_Mem} {b j : Nat} {m t : Int32} : (e_X0_moveCooked u b m t).1 (b + 6) j = u.1 (b + 6) j - (if j = (u.1 (b + 2) m.toNatClampNeg).toNatClampNeg then t else 0) - (if j = (u.1 (b + 3) m.toNatClampNeg).toNatClampNeg then t else 0) + (if j = m.toNatClampNeg then t else 0) := by
  unfold e_X0_moveCooked
  dsimp only
  have e3 : ∀ x i, (uk_up u (b + 6) i x).1 (b + 3) = u.1 (b + 3) := fun x i => uk_up_oc (by omega)
  rw [e3]
  simp only [uk_up_at, true_and]
  generalize (u.1 (b + 2) m.toNatClampNeg).toNatClampNeg = A
  generalize (u.1 (b + 3) m.toNatClampNeg).toNatClampNeg = B
  generalize m.toNatClampNeg = M
  grind
theorem givesB_w {u w : uk_Mem} {k h : Int32} : e_X0_givesB u k h = e_X0_givesB w k h := rfl
theorem mt_c {u : uk_Mem} {b d : Nat} {m t : Int32} (hd : ¬ d = b + 6) : (e_X0_moveTurned u b m t).1 d = u.1 d := by
  unfold e_X0_moveTurned
  dsimp only
  split
  · rw [uk_up_oc hd, uk_up_oc hd]
  · rw [uk_up_oc hd, uk_up_oc hd, uk_up_oc hd]
theorem mt_j {u : uk_Mem} {b j : Nat} {m t : Int32} : (e_X0_moveTurned u b m t).1 (b + 6) j = u.1 (b + 6) j - (if j = m.toNatClampNeg then t else 0) + (if j = (u.1 (b + 2) m.toNatClampNeg).toNatClampNeg then t else 0) + (if j = (u.1 (b + 3) m.toNatClampNeg).toNatClampNeg then (if e_X0_givesB u (u.1 (b + 1) m.toNatClampNeg) (u.1 (b + 7) m.toNatClampNeg) = 0 then 0 else t) else 0) := by
  unfold e_X0_moveTurned
  dsimp only
  have e3 : ∀ (w : uk_Mem) x i, (uk_up w (b + 6) i x).1 (b + 3) = w.1 (b + 3) := fun w x i => uk_up_oc (by omega)
  have e2 : ∀ (w : uk_Mem) x i, (uk_up w (b + 6) i x).1 (b + 2) = w.1 (b + 2) := fun w x i => uk_up_oc (by omega)
  have e1 : ∀ (w : uk_Mem) x i, (uk_up w (b + 6) i x).1 (b + 1) = w.1 (b + 1) := fun w x i => uk_up_oc (by omega)
  have e7 : ∀ (w : uk_Mem) x i, (uk_up w (b + 6) i x).1 (b + 7) = w.1 (b + 7) := fun w x i => uk_up_oc (by omega)
  simp only [e1, e2, e3, e7, givesB_w (w := u)]
  generalize e_X0_givesB u (u.1 (b + 1) m.toNatClampNeg) (u.1 (b + 7) m.toNatClampNeg) = G
  generalize hA : (u.1 (b + 2) m.toNatClampNeg).toNatClampNeg = A
  generalize hB : (u.1 (b + 3) m.toNatClampNeg).toNatClampNeg = B
  generalize m.toNatClampNeg = M
  by_cases hG : G = 0
  · rw [if_pos hG, if_pos hG]
    simp only [uk_up_at, true_and]
    grind
  · rw [if_neg hG, if_neg hG]
    simp only [uk_up_at, true_and]
    grind
theorem fh_c {u : uk_Mem} {b d : Nat} {m : Int32} (hd : ¬ d = b + 7) : (e_X0_flipHalf u b m).1 d = u.1 d := by
  unfold e_X0_flipHalf
  dsimp only
  split
  · rw [uk_up_oc hd]
  · rfl
theorem fh_j {u : uk_Mem} {b j : Nat} {m : Int32} : (e_X0_flipHalf u b m).1 (b + 7) j = if j = m.toNatClampNeg ∧ u.1 (b + 1) m.toNatClampNeg = 3 then 1 - u.1 (b + 7) m.toNatClampNeg else u.1 (b + 7) j := by
  unfold e_X0_flipHalf
  dsimp only
  split
  · rw [uk_up_at]
    grind
  · grind
theorem pf_lo {u : uk_Mem} {b : Nat} {g : Int32} (hg : g < 10) (d j : Nat) : (e_X0_perform u b g).1 d j = if d = b ∧ j = 11 then u.1 b 11 + 1 else (e_X0_moveCooked u b g 1).1 d j := by
  unfold e_X0_perform
  rw [show e_X6_stuffOf u g = g from if_pos hg]
  dsimp only
  rw [if_pos hg, uk_up_at, mc_c (by omega)]
theorem pf_hi {u : uk_Mem} {b : Nat} {g : Int32} (hg : ¬ g < 10) (d j : Nat) : (e_X0_perform u b g).1 d j = if d = b ∧ j = 11 then u.1 b 11 + 1 else (e_X0_flipHalf (e_X0_moveTurned u b (g - 10) 1) b (g - 10)).1 d j := by
  unfold e_X0_perform
  rw [show e_X6_stuffOf u g = g - 10 from if_neg hg]
  dsimp only
  rw [if_neg hg, uk_up_at, fh_c (by omega), mt_c (by omega)]
theorem da_c {v : uk_Mem} {g : Int32} {d : Nat} (hd : ¬ d = 62) : (e_X7_doIt_a v g).1 d = v.1 d := by
  unfold e_X7_doIt_a
  dsimp only
  simp only [uk_up_oc hd]
theorem db_c {v : uk_Mem} {g : Int32} {d : Nat} (hd : ¬ d = 62) : (e_X7_doIt_b v g).1 d = v.1 d := by
  unfold e_X7_doIt_b
  dsimp only
  split <;> split <;> simp only [uk_up_oc hd]
theorem da_j {v : uk_Mem} {g : Int32} (h0 : 0 ≤ g) (h7 : g ≤ 7) (ha : v.1 64 g.toNatClampNeg ≤ 7) (hb : v.1 65 g.toNatClampNeg ≤ 7) (ha0 : 0 ≤ v.1 64 g.toNatClampNeg) (hb0 : 0 ≤ v.1 65 g.toNatClampNeg) (j : Nat) : (e_X7_doIt_a v g).1 62 j = if j = 41 then v.1 62 41 + 1 else v.1 62 j + (if j = g.toNatClampNeg then 1 else 0) - (if j = (v.1 64 g.toNatClampNeg).toNatClampNeg then 1 else 0) - (if j = (v.1 65 g.toNatClampNeg).toNatClampNeg then 1 else 0) := by
  unfold e_X7_doIt_a
  dsimp only
  rw [rm_lo h0 (by lia)]
  have e64 : ∀ (w : uk_Mem) x i, (uk_up w 62 i x).1 64 = w.1 64 := fun w x i => uk_up_oc (by decide)
  have e65 : ∀ (w : uk_Mem) x i, (uk_up w 62 i x).1 65 = w.1 65 := fun w x i => uk_up_oc (by decide)
  simp only [e64, e65, ix_0, ix_8 h0 h7]
  have la := uk_cln 7 7 rfl ha0 ha
  have lb := uk_cln 7 7 rfl hb0 hb
  have lg := uk_cln 7 7 rfl h0 h7
  generalize (v.1 64 g.toNatClampNeg).toNatClampNeg = A at *
  generalize (v.1 65 g.toNatClampNeg).toNatClampNeg = B at *
  generalize g.toNatClampNeg = M at *
  have h41 : (41 : Int32).toNatClampNeg = 41 := rfl
  simp only [uk_up_at, true_and, h41]
  grind
theorem db_j {v : uk_Mem} {g : Int32} (h0 : 10 ≤ g) (h7 : g ≤ 17) (ha : v.1 64 (g - 10).toNatClampNeg ≤ 7) (hb : v.1 65 (g - 10).toNatClampNeg ≤ 7) (ha0 : 0 ≤ v.1 64 (g - 10).toNatClampNeg) (hb0 : 0 ≤ v.1 65 (g - 10).toNatClampNeg) (j : Nat) : (e_X7_doIt_b v g).1 62 j = if j = 41 then v.1 62 41 + 1 else if j = (g - 10).toNatClampNeg + 8 then (if v.1 62 ((g - 10).toNatClampNeg + 32) = 3 then 1 - v.1 62 ((g - 10).toNatClampNeg + 8) else v.1 62 ((g - 10).toNatClampNeg + 8)) else v.1 62 j - (if j = (g - 10).toNatClampNeg then 1 else 0) + (if j = (v.1 64 (g - 10).toNatClampNeg).toNatClampNeg then 1 else 0) + (if j = (v.1 65 (g - 10).toNatClampNeg).toNatClampNeg then (if e_X7_givesSecond v (g - 10) = 0 then 0 else 1) else 0) := by
  unfold e_X7_doIt_b
  dsimp only
  rw [rm_hi h0 h7]
  have m0 : 0 ≤ g - 10 := by lia
  have m7 : g - 10 ≤ 7 := by lia
  generalize g - 10 = m at *
  have e64 : ∀ (w : uk_Mem) x i, (uk_up w 62 i x).1 64 = w.1 64 := fun w x i => uk_up_oc (by decide)
  have e65 : ∀ (w : uk_Mem) x i, (uk_up w 62 i x).1 65 = w.1 65 := fun w x i => uk_up_oc (by decide)
  simp only [e64, e65, ix_0, ix_8 m0 m7, ix_32 m0 m7]
  have la := uk_cln 7 7 rfl ha0 ha
  have lb := uk_cln 7 7 rfl hb0 hb
  have lg := uk_cln 7 7 rfl m0 m7
  generalize e_X7_givesSecond v m = S
  generalize (v.1 64 m.toNatClampNeg).toNatClampNeg = A at *
  generalize (v.1 65 m.toNatClampNeg).toNatClampNeg = B at *
  generalize m.toNatClampNeg = M at *
  have h41 : (41 : Int32).toNatClampNeg = 41 := rfl
  have k32 : ∀ x y z, (uk_up (uk_up (uk_up v 62 M x) 62 A y) 62 B z).1 62 (M + 32) = v.1 62 (M + 32) := fun x y z => by
    rw [uk_up_at, if_neg (by omega), uk_up_at, if_neg (by omega), uk_up_at, if_neg (by omega)]
  have k8 : ∀ x y z, (uk_up (uk_up (uk_up v 62 M x) 62 A y) 62 B z).1 62 (M + 8) = v.1 62 (M + 8) := fun x y z => by
    rw [uk_up_at, if_neg (by omega), uk_up_at, if_neg (by omega), uk_up_at, if_neg (by omega)]
  simp only [k32, k8]
  by_cases hS : S = 0
  · rw [if_pos hS, if_pos hS]
    by_cases h3 : v.1 62 (M + 32) = 3
    · rw [if_pos h3, if_pos h3]
      simp only [uk_up_at, true_and, h41]
      grind
    · rw [if_neg h3, if_neg h3]
      simp only [uk_up_at, true_and, h41]
      grind
  · rw [if_neg hS, if_neg hS]
    by_cases h3 : v.1 62 (M + 32) = 3
    · rw [if_pos h3, if_pos h3]
      simp only [uk_up_at, true_and, h41]
      grind
    · rw [if_neg h3, if_neg h3]
      simp only [uk_up_at, true_and, h41]
      grind
theorem KR_step {u v u' v' : uk_Mem} {b : Nat} (hK : KR u v b 62 0) (n8 : (v.1 60 3).toNatClampNeg ≤ 8) (c : ∀ d, (d = b + 1 ∨ d = b + 2 ∨ d = b + 3 ∨ d = b + 4 ∨ d = b + 5 ∨ d = b + 8) → u'.1 d = u.1 d) (s0 : u'.1 b 0 = u.1 b 0) (s9 : u'.1 b 9 = u.1 b 9) (s10 : u'.1 b 10 = u.1 b 10) (v60 : v'.1 60 3 = v.1 60 3) (v64 : v'.1 64 = v.1 64) (v65 : v'.1 65 = v.1 65) (o : ∀ j, 16 ≤ j → ¬ j = 41 → v'.1 62 j = v.1 62 j) (s11 : u'.1 b 11 = v'.1 62 41) (hp : ∀ j, j < (v.1 60 3).toNatClampNeg → u'.1 (b + 6) j = v'.1 62 j) (hh : ∀ j, j < (v.1 60 3).toNatClampNeg → u'.1 (b + 7) j = v'.1 62 (j + 8)) : KR u' v' b 62 0 := by
  obtain ⟨k0, k9, k10, k11, kj, ks⟩ := hK
  refine ⟨by rw [s0, v60]; exact k0, by rw [s9, o _ (by omega) (by omega)]; exact k9, by rw [s10, o _ (by omega) (by omega)]; exact k10, s11, fun j hj => ?_, fun i hi => ?_⟩
  · rw [v60] at hj
    obtain ⟨j1, j2, j3, j4, j5, j6⟩ := kj j hj
    unfold KJ
    rw [c (b + 1) (by omega), c (b + 2) (by omega), c (b + 3) (by omega), c (b + 4) (by omega), c (b + 5) (by omega), o (j + (0 + 32)) (by omega) (by omega), o (j + (0 + 16)) (by omega) (by omega), o (j + (0 + 24)) (by omega) (by omega), v64, v65]
    exact ⟨j1, j2, hp j hj, hh j hj, j5, j6⟩
  · rw [o _ (by omega) (by omega)] at hi
    rw [c (b + 8) (by omega), o _ (by omega) (by omega)]
    exact ks i hi
theorem KR_cook {u v : uk_Mem} {b : Nat} {g : Int32} (hv : iv v) (hra : ra v) (hK : KR u v b 62 0) (h0 : 0 ≤ g) (hg : g < v.1 60 3) (hk : ¬ v.1 62 (g.toNatClampNeg + 32) = 4) : KR (e_X0_perform u b g) (e_X7_doIt v g) b 62 0 := by
  have hn : 0 ≤ v.1 60 3 ∧ v.1 60 3 ≤ 8 := iv_at hv 60 3 rfl
  have n8 := uk_cln 8 8 rfl hn.1 hn.2
  have hr := hra g h0 hg (by lia)
  rw [ix_32 h0 (by lia)] at hr
  obtain ⟨a0, a1, b0, b1⟩ := hr.resolve_left hk
  have hd : e_X7_doIt v g = e_X7_doIt_a v g := if_pos (by lia)
  have w := da_j (v := v) h0 (by lia) (by lia) (by lia) a0 b0
  have hlo := pf_lo (u := u) (b := b) (g := g) (by lia)
  have la := uk_cln 7 7 rfl a0 (by lia)
  have lb := uk_cln 7 7 rfl b0 (by lia)
  have lg := uk_cln 7 7 rfl h0 (by lia)
  obtain ⟨g1, g2, g3, g4, g5, g6⟩ := hK.2.2.2.2.1 g.toNatClampNeg (uk_cll h0 hg)
  rw [hd]
  refine KR_step hK n8 (fun d hd => funext fun j => by rw [hlo, if_neg (by omega), mc_c (by omega)]) (by rw [hlo, if_neg (by omega), mc_c (by omega)]) (by rw [hlo, if_neg (by omega), mc_c (by omega)]) (by rw [hlo, if_neg (by omega), mc_c (by omega)]) (by rw [da_c (by decide)]) (da_c (by decide)) (da_c (by decide)) (fun j h1 h2 => ?_) ?_ (fun j hj => ?_) (fun j hj => ?_)
  · rw [w j, if_neg h2, if_neg (by omega), if_neg (by omega), if_neg (by omega)]
    grind
  · rw [hlo, if_pos ⟨rfl, rfl⟩, w 41, if_pos rfl, hK.2.2.2.1]
  · rw [hlo, if_neg (by omega), mc_j, w j, if_neg (show ¬ j = 41 by omega), (g6 hk).1, (g6 hk).2, (hK.2.2.2.2.1 j hj).2.2.1]
    simp only [Nat.add_zero]
    grind
  · rw [hlo, if_neg (by omega), mc_c (by omega), w (j + 8), if_neg (by omega), if_neg (by omega), if_neg (by omega), if_neg (by omega), (hK.2.2.2.2.1 j hj).2.2.2.1]
    simp only [Nat.zero_add]
    grind
theorem KR_turn {u v : uk_Mem} {b : Nat} {g : Int32} (hv : iv v) (hra : ra v) (hK : KR u v b 62 0) (h0 : 10 ≤ g) (hg : g - 10 < v.1 60 3) (hk : ¬ v.1 62 ((g - 10).toNatClampNeg + 32) = 4) : KR (e_X0_perform u b g) (e_X7_doIt v g) b 62 0 := by
  have hn : 0 ≤ v.1 60 3 ∧ v.1 60 3 ≤ 8 := iv_at hv 60 3 rfl
  have n8 := uk_cln 8 8 rfl hn.1 hn.2
  have g17 : g ≤ 17 := by lia
  have m0 : 0 ≤ g - 10 := by lia
  have m7 : g - 10 ≤ 7 := by lia
  have hr := hra (g - 10) m0 hg m7
  rw [ix_32 m0 m7] at hr
  obtain ⟨a0, a1, b0, b1⟩ := hr.resolve_left hk
  have hd : e_X7_doIt v g = e_X7_doIt_b v g := if_neg (by lia)
  have w := db_j (v := v) h0 g17 (by lia) (by lia) a0 b0
  have hhi := pf_hi (u := u) (b := b) (g := g) (by lia)
  have la := uk_cln 7 7 rfl a0 (by lia)
  have lb := uk_cln 7 7 rfl b0 (by lia)
  have lg := uk_cln 7 7 rfl m0 m7
  obtain ⟨g1, g2, g3, g4, g5, g6⟩ := hK.2.2.2.2.1 (g - 10).toNatClampNeg (uk_cll m0 hg)
  have gb := givesB_e (u := u) (v := v) m0 m7
  rw [hd]
  generalize g - 10 = m at *
  refine KR_step hK n8 (fun d hd => funext fun j => by rw [hhi, if_neg (by omega), fh_c (by omega), mt_c (by omega)]) (by rw [hhi, if_neg (by omega), fh_c (by omega), mt_c (by omega)]) (by rw [hhi, if_neg (by omega), fh_c (by omega), mt_c (by omega)]) (by rw [hhi, if_neg (by omega), fh_c (by omega), mt_c (by omega)]) (by rw [db_c (by decide)]) (db_c (by decide)) (db_c (by decide)) (fun j h1 h2 => ?_) ?_ (fun j hj => ?_) (fun j hj => ?_)
  · rw [w j, if_neg h2, if_neg (by omega), if_neg (by omega), if_neg (by omega), if_neg (by omega)]
    grind
  · rw [hhi, if_pos ⟨rfl, rfl⟩, w 41, if_pos rfl, hK.2.2.2.1]
  · rw [hhi, if_neg (by omega), fh_c (by omega), mt_j, w j, if_neg (show ¬ j = 41 by omega), if_neg (show ¬ j = m.toNatClampNeg + 8 by omega), (g6 hk).1, (g6 hk).2, g1, g4, (hK.2.2.2.2.1 j hj).2.2.1]
    simp only [Nat.zero_add, Nat.add_zero]
    rw [gb]
  · rw [hhi, if_neg (by omega), fh_j, mt_c (by omega), mt_c (by omega), w (j + 8), if_neg (show ¬ j + 8 = 41 by omega), g1, g4, (hK.2.2.2.2.1 j hj).2.2.2.1]
    simp only [Nat.zero_add]
    by_cases q : j = m.toNatClampNeg
    · subst q
      simp only [true_and, if_true]
    · rw [if_neg (fun z => q z.1), if_neg (by omega), if_neg (by omega), if_neg (by omega), if_neg (by omega)]
      grind
def l_X7_rule_7 (u : uk_Mem) (w : Int32) : Nat → Int32 → Int32 → Int32 → Int32
  | 0, _, _, _ => 0
  | K9 + 1, i4, w2, w3 => let x5 : Int32 := u.1 60 3; if x5 ≤ i4 then (if w = 0 then (let x9 : Int32 := u.1 60 3; x9) else (if w = 1 then (let x12 : Int32 := u.1 61 (40 : Int32).toNatClampNeg; x12) else (if w = 2 then (let x15 : Int32 := u.1 61 (41 : Int32).toNatClampNeg; x15) else (if w = 3 then (w2) else (if w = 4 then (w3) else ((-1 : Int32))))))) else (let x21 : Int32 := (e_X7_isRaw u i4); let x25 : Int32 := (e_X7_flag u x21); let x26 : Int32 := x25 <<< (i4 &&& 31); let x27 : Int32 := w2 ||| x26; let x28 : Int32 := (0 : Int32) + i4; let x30 : Int32 := u.1 61 x28.toNatClampNeg; if x30 ≤ 0 then (let x35 : Int32 := (e_X7_flag u (0 : Int32)); let x36 : Int32 := x35 <<< (i4 &&& 31); let x37 : Int32 := w3 ||| x36; l_X7_rule_7 u w K9 (i4 + 1) x27 x37) else (let x41 : Int32 := (e_X7_flag u (1 : Int32)); let x42 : Int32 := x41 <<< (i4 &&& 31); let x43 : Int32 := w3 ||| x42; l_X7_rule_7 u w K9 (i4 + 1) x27 x43))
def e_X7_rule (u : uk_Mem) (w : Int32) : Int32 := l_X7_rule_7 u w ee_K (0 : Int32) (0 : Int32) (0 : Int32)
abbrev qe_X7_rule (u : uk_Mem) (w : Int32) (r : Option Value) (u' : uk_Mem) : Prop := (q_X7_rule u w r u') ∧ (r = some (.int (e_X7_rule u w)))
set_option maxHeartbeats 4000000 in
set_option maxRecDepth 20000 in
theorem x_X7_rule {G : uk_D} (hs : uk_Sep G) {u : uk_Mem} (hu : iv u) (w : Int32) (d : Nat) : uk_Meth G (d + 1) mX7_rule [.ref (uk_ad G 60), .int w] u (qe_X7_rule u w) := by
  refine uk_Meth.of hs (by decide) (Nat.le_of_ble_eq_true rfl) (fun X => ?_)
  refine g_iconst (v := 0) dX7_rule_0 (by decide) ?_
  refine g_istore_n dX7_rule_1 (by decide) ?_
  refine g_pick (lv' := [(0, .ref (uk_ad G 60)), (1, .int w), (2, .int 0)]) [0, 1, 2] rfl ?_
  refine g_iconst (v := 0) dX7_rule_2 (by decide) ?_
  refine g_istore_n dX7_rule_3 (by decide) ?_
  refine g_pick (lv' := [(0, .ref (uk_ad G 60)), (1, .int w), (2, .int 0), (3, .int 0)]) [0, 1, 2, 3] rfl ?_
  refine g_iconst (v := 0) dX7_rule_4 (by decide) ?_
  refine g_istore dX7_rule_5 (by decide) ?_
  refine g_pick (lv' := [(0, .ref (uk_ad G 60)), (1, .int w), (2, .int 0), (3, .int 0), (4, .int 0)]) [0, 1, 2, 3, 4] rfl ?_
  have L7_0 : ∀ i4 : Int32, 0 ≤ i4 → i4 ≤ 8 → ∀ (w2 : Int32) (w3 : Int32), (∃ ki4 : Nat, ee_F 8 i4 ki4 ∧ e_X7_rule u w = l_X7_rule_7 u w ki4 i4 w2 w3) → uk_G G X mX7_rule (d + 1) (qe_X7_rule u w) 7 [(0, .ref (uk_ad G 60)), (1, .int w), (2, .int w2), (3, .int w3), (4, .int i4)] [] u := by
    refine uk_upl 8 ?_
    intro i4 ai4 bi4 ihi4 w2 w3 jEi4
    obtain ⟨ki4, fki4, hki4⟩ := jEi4
    obtain ⟨ki4, rfl⟩ := ee_Fp (by first | assumption | lia | grind) fki4
    refine g_iload dX7_rule_7 rfl ?_
    refine g_aload_n dX7_rule_9 rfl ?_
    refine f_X7_79 rfl rfl dX7_rule_10 ?_
    refine g_topi (fun x5 ex5 => ?_)
    have rx5 : 0 ≤ x5 ∧ x5 ≤ 8 := by rw [ex5]; exact iv_at hu _ _ rfl
    have s6 : u.1 60 3 = x5 := ex5.symm
    refine g_icmp_ge (tgt := 63) dX7_rule_13 (by decide) (fun c7 => ?_) (fun c7 => ?_)
    · refine g_iload_n dX7_rule_63 rfl ?_
      by_cases c8 : w = 0
      · refine g_tabIn (off := (36)) (tgt := 100) dX7_rule_64 (by rw [c8]; decide) (by rw [c8]; decide) (by rw [c8]; rfl) (by decide) ?_
        refine g_aload_n dX7_rule_100 rfl ?_
        refine f_X7_79 rfl rfl dX7_rule_101 ?_
        refine g_topi (fun x9 ex9 => ?_)
        have rx9 : 0 ≤ x9 ∧ x9 ≤ 8 := by rw [ex9]; exact iv_at hu _ _ rfl
        have qx9 : x9 = x5 := by rw [ex9]; exact s6
        exact g_iret (ty := .int) dX7_rule_104 rfl rfl ⟨⟨⟨_, rfl, by first | trivial | lia | grind⟩, rfl⟩, ee_p (by subst ex9; subst ex5; exact hki4.trans ((if_pos c7).trans ((if_pos c8).trans (rfl))))⟩
      by_cases c10 : w = 1
      · refine g_tabIn (off := (41)) (tgt := 105) dX7_rule_64 (by rw [c10]; decide) (by rw [c10]; decide) (by rw [c10]; rfl) (by decide) ?_
        refine g_aload_n dX7_rule_105 rfl ?_
        refine f_X7_7 rfl rfl dX7_rule_106 ?_
        refine g_bipush (v := 40) dX7_rule_109 (by decide) ?_
        have v11 : vp_in 40 153 := uk_vin 153 rfl (by first | decide | lia | grind) (by first | decide | lia | grind)
        refine g_iald rfl rfl v11 dX7_rule_111 ?_
        refine g_topi (fun x12 ex12 => ?_)
        have bx12 := uk_cl v11
        exact g_iret (ty := .int) dX7_rule_112 rfl rfl ⟨⟨⟨_, rfl, by first | trivial | lia | grind⟩, rfl⟩, ee_p (by subst ex12; subst ex5; exact hki4.trans ((if_pos c7).trans ((if_neg c8).trans ((if_pos c10).trans (rfl)))))⟩
      by_cases c13 : w = 2
      · refine g_tabIn (off := (49)) (tgt := 113) dX7_rule_64 (by rw [c13]; decide) (by rw [c13]; decide) (by rw [c13]; rfl) (by decide) ?_
        refine g_aload_n dX7_rule_113 rfl ?_
        refine f_X7_7 rfl rfl dX7_rule_114 ?_
        refine g_bipush (v := 41) dX7_rule_117 (by decide) ?_
        have v14 : vp_in 41 153 := uk_vin 153 rfl (by first | decide | lia | grind) (by first | decide | lia | grind)
        refine g_iald rfl rfl v14 dX7_rule_119 ?_
        refine g_topi (fun x15 ex15 => ?_)
        have bx15 := uk_cl v14
        exact g_iret (ty := .int) dX7_rule_120 rfl rfl ⟨⟨⟨_, rfl, by first | trivial | lia | grind⟩, rfl⟩, ee_p (by subst ex15; subst ex5; exact hki4.trans ((if_pos c7).trans ((if_neg c8).trans ((if_neg c10).trans ((if_pos c13).trans (rfl))))))⟩
      by_cases c16 : w = 3
      · refine g_tabIn (off := (57)) (tgt := 121) dX7_rule_64 (by rw [c16]; decide) (by rw [c16]; decide) (by rw [c16]; rfl) (by decide) ?_
        refine g_iload_n dX7_rule_121 rfl ?_
        exact g_iret (ty := .int) dX7_rule_122 rfl rfl ⟨⟨⟨_, rfl, by first | trivial | lia | grind⟩, rfl⟩, ee_p (by subst ex5; exact hki4.trans ((if_pos c7).trans ((if_neg c8).trans ((if_neg c10).trans ((if_neg c13).trans ((if_pos c16).trans (rfl)))))))⟩
      by_cases c17 : w = 4
      · refine g_tabIn (off := (59)) (tgt := 123) dX7_rule_64 (by rw [c17]; decide) (by rw [c17]; decide) (by rw [c17]; rfl) (by decide) ?_
        refine g_iload_n dX7_rule_123 rfl ?_
        exact g_iret (ty := .int) dX7_rule_124 rfl rfl ⟨⟨⟨_, rfl, by first | trivial | lia | grind⟩, rfl⟩, ee_p (by subst ex5; exact hki4.trans ((if_pos c7).trans ((if_neg c8).trans ((if_neg c10).trans ((if_neg c13).trans ((if_neg c16).trans ((if_pos c17).trans (rfl))))))))⟩
      refine g_tabOut (tgt := 125) dX7_rule_64 (uk_swo 0 4 rfl rfl (by first | lia | grind)) (by decide) ?_
      refine g_iconst (v := (-1)) dX7_rule_125 (by decide) ?_
      exact g_iret (ty := .int) dX7_rule_126 rfl rfl ⟨⟨⟨_, rfl, by first | trivial | lia | grind⟩, rfl⟩, ee_p (by subst ex5; exact hki4.trans ((if_pos c7).trans ((if_neg c8).trans ((if_neg c10).trans ((if_neg c13).trans ((if_neg c16).trans ((if_neg c17).trans (rfl))))))))⟩
    · refine g_iload_n dX7_rule_16 rfl ?_
      refine g_aload_n dX7_rule_17 rfl ?_
      refine g_iload dX7_rule_18 rfl ?_
      refine cl_X7_166 (c := 60) (As := [.int i4]) rfl (x_X7_isRaw (G := G) hs hu  i4 (by first | trivial | decide | lia | grind) (by first | trivial | decide | lia | grind) (d)) rfl (by omega) rfl rfl (Nat.le_of_ble_eq_true rfl) dX7_rule_20 (fun r18 u19 q20 => ?_)
      obtain ⟨q20, Eq20⟩ := q20
      obtain ⟨⟨x21, rfl, tx21, nx21, zx21⟩, mq20⟩ := q20
      rw [mq20]
      have ex21 : x21 = (e_X7_isRaw u i4) := ee_v Eq20
      refine cl_X7_169 (As := [.int x21]) rfl (x_X7_flag (G := G) hs hu  x21  (d)) rfl (by omega) rfl (Nat.le_of_ble_eq_true rfl) dX7_rule_23 (fun r22 u23 q24 => ?_)
      obtain ⟨q24, Eq24⟩ := q24
      obtain ⟨⟨x25, rfl, tx25⟩, mq24⟩ := q24
      rw [mq24]
      have ex25 : x25 = (e_X7_flag u x21) := ee_v Eq24
      refine g_iload dX7_rule_26 rfl ?_
      refine g_ishl dX7_rule_28 (fun x26 ex26 => ?_)
      refine g_ior dX7_rule_29 ?_
      refine g_topi (fun x27 ex27 => ?_)
      refine g_istore_n dX7_rule_30 (by decide) ?_
      refine g_pick (lv' := [(0, .ref (uk_ad G 60)), (1, .int w), (2, .int x27), (3, .int w3), (4, .int i4)]) [0, 1, 2, 3, 4] rfl ?_
      refine g_iload_n dX7_rule_31 rfl ?_
      refine g_aload_n dX7_rule_32 rfl ?_
      refine f_X7_7 rfl rfl dX7_rule_33 ?_
      refine g_iconst (v := 0) dX7_rule_36 (by decide) ?_
      refine g_iload dX7_rule_37 rfl ?_
      refine g_iadd dX7_rule_39 ?_
      refine g_topi (fun x28 ex28 => ?_)
      have ox28 : x28 = i4 := by rw [ex28, Int32.zero_add]
      have v29 : vp_in x28 153 := uk_vin 153 rfl (by first | decide | lia | grind) (by first | decide | lia | grind)
      refine g_iald rfl rfl v29 dX7_rule_40 ?_
      refine g_topi (fun x30 ex30 => ?_)
      have bx30 := uk_cl v29
      have rx30 : 0 ≤ x30 ∧ x30 ≤ 40 := by rw [ex30]; exact sg_0 hu (by unfold uk_is51; decide) (by first | lia | grind) (by first | lia | grind)
      refine g_if_le (tgt := 48) dX7_rule_41 (by decide) (fun c31 => ?_) (fun c31 => ?_)
      · refine g_iconst (v := 0) dX7_rule_48 (by decide) ?_
        refine cl_X7_169 (As := [.int 0]) rfl (x_X7_flag (G := G) hs hu  0  (d)) rfl (by omega) rfl (Nat.le_of_ble_eq_true rfl) dX7_rule_49 (fun r32 u33 q34 => ?_)
        obtain ⟨q34, Eq34⟩ := q34
        obtain ⟨⟨x35, rfl, tx35⟩, mq34⟩ := q34
        rw [mq34]
        have ex35 : x35 = (e_X7_flag u (0 : Int32)) := ee_v Eq34
        refine g_iload dX7_rule_52 rfl ?_
        refine g_ishl dX7_rule_54 (fun x36 ex36 => ?_)
        refine g_ior dX7_rule_55 ?_
        refine g_topi (fun x37 ex37 => ?_)
        refine g_istore_n dX7_rule_56 (by decide) ?_
        refine g_pick (lv' := [(0, .ref (uk_ad G 60)), (1, .int w), (2, .int x27), (3, .int x37), (4, .int i4)]) [0, 1, 2, 3, 4] rfl ?_
        refine g_iinc (v := i4 + 1) dX7_rule_57 rfl rfl (by decide) ?_
        refine g_pick (lv' := [(0, .ref (uk_ad G 60)), (1, .int w), (2, .int x27), (3, .int x37), (4, .int (i4 + 1))]) [0, 1, 2, 3, 4] rfl ?_
        refine g_goto (tgt := 7) dX7_rule_60 (by decide) ?_
        refine g_pick (lv' := [(0, .ref (uk_ad G 60)), (1, .int w), (2, .int x27), (3, .int x37), (4, .int (i4 + 1))]) [0, 1, 2, 3, 4] rfl ?_
        exact ihi4 (by first | lia | grind) x27 x37  ⟨ki4, ee_Fs fki4 (by first | assumption | lia | grind), by subst ex37; subst ex36; subst ex35; subst ex30; subst ex28; subst ex27; subst ex26; subst ex25; subst ex21; subst ex5; exact hki4.trans ((if_neg c7).trans ((if_pos c31).trans (rfl)))⟩
      · refine g_iconst (v := 1) dX7_rule_44 (by decide) ?_
        refine g_goto (tgt := 49) dX7_rule_45 (by decide) ?_
        refine cl_X7_169 (As := [.int 1]) rfl (x_X7_flag (G := G) hs hu  1  (d)) rfl (by omega) rfl (Nat.le_of_ble_eq_true rfl) dX7_rule_49 (fun r38 u39 q40 => ?_)
        obtain ⟨q40, Eq40⟩ := q40
        obtain ⟨⟨x41, rfl, tx41⟩, mq40⟩ := q40
        rw [mq40]
        have ex41 : x41 = (e_X7_flag u (1 : Int32)) := ee_v Eq40
        refine g_iload dX7_rule_52 rfl ?_
        refine g_ishl dX7_rule_54 (fun x42 ex42 => ?_)
        refine g_ior dX7_rule_55 ?_
        refine g_topi (fun x43 ex43 => ?_)
        refine g_istore_n dX7_rule_56 (by decide) ?_
        refine g_pick (lv' := [(0, .ref (uk_ad G 60)), (1, .int w), (2, .int x27), (3, .int x43), (4, .int i4)]) [0, 1, 2, 3, 4] rfl ?_
        refine g_iinc (v := i4 + 1) dX7_rule_57 rfl rfl (by decide) ?_
        refine g_pick (lv' := [(0, .ref (uk_ad G 60)), (1, .int w), (2, .int x27), (3, .int x43), (4, .int (i4 + 1))]) [0, 1, 2, 3, 4] rfl ?_
        refine g_goto (tgt := 7) dX7_rule_60 (by decide) ?_
        refine g_pick (lv' := [(0, .ref (uk_ad G 60)), (1, .int w), (2, .int x27), (3, .int x43), (4, .int (i4 + 1))]) [0, 1, 2, 3, 4] rfl ?_
        exact ihi4 (by first | lia | grind) x27 x43  ⟨ki4, ee_Fs fki4 (by first | assumption | lia | grind), by subst ex43; subst ex42; subst ex41; subst ex30; subst ex28; subst ex27; subst ex26; subst ex25; subst ex21; subst ex5; exact hki4.trans ((if_neg c7).trans ((if_neg c31).trans (rfl)))⟩
  refine g_pick (lv' := [(0, .ref (uk_ad G 60)), (1, .int w), (2, .int 0), (3, .int 0), (4, .int 0)]) [0, 1, 2, 3, 4] rfl ?_
  exact L7_0 0 (by first | decide | lia | grind) (by first | decide | lia | grind) 0 0  ⟨ee_K, ee_F0 _ _, by exact rfl⟩
def e_X7_stuff (u : uk_Mem) (m : Int32) (w : Int32) : Int32 := let x4 : Int32 := (e_X7_isStuff u m); if x4 = 0 then ((-1 : Int32)) else (if w = 0 then (let x7 : Int32 := (32 : Int32) + m; let x9 : Int32 := u.1 61 x7.toNatClampNeg; x9) else (if w = 1 then (let x12 : Int32 := u.1 64 m.toNatClampNeg; x12) else (if w = 2 then (let x15 : Int32 := u.1 65 m.toNatClampNeg; x15) else (if w = 3 then (let x17 : Int32 := (16 : Int32) + m; let x19 : Int32 := u.1 61 x17.toNatClampNeg; x19) else (if w = 4 then (let x24 : Int32 := (e_X7_isRaw u m); if x24 = 0 then ((-4 : Int32)) else (let x26 : Int32 := (24 : Int32) + m; let x28 : Int32 := u.1 61 x26.toNatClampNeg; x28)) else (if w = 5 then (let x30 : Int32 := (8 : Int32) + m; let x32 : Int32 := u.1 61 x30.toNatClampNeg; x32) else (if w = 6 then (let x34 : Int32 := (0 : Int32) + m; let x36 : Int32 := u.1 61 x34.toNatClampNeg; x36) else ((-1 : Int32)))))))))
abbrev qe_X7_stuff (u : uk_Mem) (m : Int32) (w : Int32) (r : Option Value) (u' : uk_Mem) : Prop := (q_X7_stuff u m w r u') ∧ (r = some (.int (e_X7_stuff u m w)))
set_option maxHeartbeats 4000000 in
set_option maxRecDepth 20000 in
theorem x_X7_stuff {G : uk_D} (hs : uk_Sep G) {u : uk_Mem} (hu : iv u) (m : Int32) (w : Int32) (d : Nat) : uk_Meth G (d + 2) mX7_stuff [.ref (uk_ad G 60), .int m, .int w] u (qe_X7_stuff u m w) := by
  refine uk_Meth.of hs (by decide) (Nat.le_of_ble_eq_true rfl) (fun X => ?_)
  refine g_aload_n dX7_stuff_0 rfl ?_
  refine g_iload_n dX7_stuff_1 rfl ?_
  refine cl_X7_163 (c := 60) (As := [.int m]) rfl (x_X7_isStuff (G := G) hs hu  m  (d)) rfl (by omega) rfl rfl (Nat.le_of_ble_eq_true rfl) dX7_stuff_2 (fun r1 u2 q3 => ?_)
  obtain ⟨q3, Eq3⟩ := q3
  obtain ⟨⟨x4, rfl, tx4, nx4, zx4⟩, mq3⟩ := q3
  rw [mq3]
  have ex4 : x4 = (e_X7_isStuff u m) := ee_v Eq3
  refine g_if_ne (tgt := 10) dX7_stuff_5 (by decide) (fun c5 => ?_) (fun c5 => ?_)
  · have zc5 := nx4 c5
    refine g_iload_n dX7_stuff_10 rfl ?_
    by_cases c6 : w = 0
    · refine g_tabIn (off := (41)) (tgt := 52) dX7_stuff_11 (by rw [c6]; decide) (by rw [c6]; decide) (by rw [c6]; rfl) (by decide) ?_
      refine g_aload_n dX7_stuff_52 rfl ?_
      refine f_X7_7 rfl rfl dX7_stuff_53 ?_
      refine g_bipush (v := 32) dX7_stuff_56 (by decide) ?_
      refine g_iload_n dX7_stuff_58 rfl ?_
      refine g_iadd dX7_stuff_59 ?_
      refine g_topi (fun x7 ex7 => ?_)
      have v8 : vp_in x7 153 := uk_vin 153 rfl (by first | decide | lia | grind) (by first | decide | lia | grind)
      refine g_iald rfl rfl v8 dX7_stuff_60 ?_
      refine g_topi (fun x9 ex9 => ?_)
      have bx9 := uk_cl v8
      exact g_iret (ty := .int) dX7_stuff_61 rfl rfl ⟨⟨⟨_, rfl, by first | trivial | lia | grind⟩, rfl⟩, ee_p (by subst ex9; subst ex7; subst ex4; exact (if_neg c5).trans ((if_pos c6).trans (rfl)))⟩
    by_cases c10 : w = 1
    · refine g_tabIn (off := (51)) (tgt := 62) dX7_stuff_11 (by rw [c10]; decide) (by rw [c10]; decide) (by rw [c10]; rfl) (by decide) ?_
      refine g_aload_n dX7_stuff_62 rfl ?_
      refine f_X7_20 rfl rfl dX7_stuff_63 ?_
      refine g_iload_n dX7_stuff_66 rfl ?_
      have v11 : vp_in m 8 := uk_vin 8 rfl (by first | decide | lia | grind) (by first | decide | lia | grind)
      refine g_iald rfl rfl v11 dX7_stuff_67 ?_
      refine g_topi (fun x12 ex12 => ?_)
      have bx12 := uk_cl v11
      have rx12 : (-4) ≤ x12 ∧ x12 ≤ 7 := by rw [ex12]; exact iv_at hu _ _ (uk_pick1 _ (by omega))
      exact g_iret (ty := .int) dX7_stuff_68 rfl rfl ⟨⟨⟨_, rfl, by first | trivial | lia | grind⟩, rfl⟩, ee_p (by subst ex12; subst ex4; exact (if_neg c5).trans ((if_neg c6).trans ((if_pos c10).trans (rfl))))⟩
    by_cases c13 : w = 2
    · refine g_tabIn (off := (58)) (tgt := 69) dX7_stuff_11 (by rw [c13]; decide) (by rw [c13]; decide) (by rw [c13]; rfl) (by decide) ?_
      refine g_aload_n dX7_stuff_69 rfl ?_
      refine f_X7_23 rfl rfl dX7_stuff_70 ?_
      refine g_iload_n dX7_stuff_73 rfl ?_
      have v14 : vp_in m 8 := uk_vin 8 rfl (by first | decide | lia | grind) (by first | decide | lia | grind)
      refine g_iald rfl rfl v14 dX7_stuff_74 ?_
      refine g_topi (fun x15 ex15 => ?_)
      have bx15 := uk_cl v14
      have rx15 : (-4) ≤ x15 ∧ x15 ≤ 7 := by rw [ex15]; exact iv_at hu _ _ (uk_pick1 _ (by omega))
      exact g_iret (ty := .int) dX7_stuff_75 rfl rfl ⟨⟨⟨_, rfl, by first | trivial | lia | grind⟩, rfl⟩, ee_p (by subst ex15; subst ex4; exact (if_neg c5).trans ((if_neg c6).trans ((if_neg c10).trans ((if_pos c13).trans (rfl)))))⟩
    by_cases c16 : w = 3
    · refine g_tabIn (off := (65)) (tgt := 76) dX7_stuff_11 (by rw [c16]; decide) (by rw [c16]; decide) (by rw [c16]; rfl) (by decide) ?_
      refine g_aload_n dX7_stuff_76 rfl ?_
      refine f_X7_7 rfl rfl dX7_stuff_77 ?_
      refine g_bipush (v := 16) dX7_stuff_80 (by decide) ?_
      refine g_iload_n dX7_stuff_82 rfl ?_
      refine g_iadd dX7_stuff_83 ?_
      refine g_topi (fun x17 ex17 => ?_)
      have v18 : vp_in x17 153 := uk_vin 153 rfl (by first | decide | lia | grind) (by first | decide | lia | grind)
      refine g_iald rfl rfl v18 dX7_stuff_84 ?_
      refine g_topi (fun x19 ex19 => ?_)
      have bx19 := uk_cl v18
      exact g_iret (ty := .int) dX7_stuff_85 rfl rfl ⟨⟨⟨_, rfl, by first | trivial | lia | grind⟩, rfl⟩, ee_p (by subst ex19; subst ex17; subst ex4; exact (if_neg c5).trans ((if_neg c6).trans ((if_neg c10).trans ((if_neg c13).trans ((if_pos c16).trans (rfl))))))⟩
    by_cases c20 : w = 4
    · refine g_tabIn (off := (75)) (tgt := 86) dX7_stuff_11 (by rw [c20]; decide) (by rw [c20]; decide) (by rw [c20]; rfl) (by decide) ?_
      refine g_aload_n dX7_stuff_86 rfl ?_
      refine g_iload_n dX7_stuff_87 rfl ?_
      refine cl_X7_166 (c := 60) (As := [.int m]) rfl (x_X7_isRaw (G := G) hs hu  m (by first | trivial | decide | lia | grind) (by first | trivial | decide | lia | grind) (d + 1)) rfl (by omega) rfl rfl (Nat.le_of_ble_eq_true rfl) dX7_stuff_88 (fun r21 u22 q23 => ?_)
      obtain ⟨q23, Eq23⟩ := q23
      obtain ⟨⟨x24, rfl, tx24, nx24, zx24⟩, mq23⟩ := q23
      rw [mq23]
      have ex24 : x24 = (e_X7_isRaw u m) := ee_v Eq23
      refine g_if_eq (tgt := 106) dX7_stuff_91 (by decide) (fun c25 => ?_) (fun c25 => ?_)
      · have zc25 := zx24 c25
        refine g_bipush (v := (-4)) dX7_stuff_106 (by decide) ?_
        exact g_iret (ty := .int) dX7_stuff_108 rfl rfl ⟨⟨⟨_, rfl, by first | trivial | lia | grind⟩, rfl⟩, ee_p (by subst ex24; subst ex4; exact (if_neg c5).trans ((if_neg c6).trans ((if_neg c10).trans ((if_neg c13).trans ((if_neg c16).trans ((if_pos c20).trans ((if_pos c25).trans (rfl))))))))⟩
      · have zc25 := nx24 c25
        refine g_aload_n dX7_stuff_94 rfl ?_
        refine f_X7_7 rfl rfl dX7_stuff_95 ?_
        refine g_bipush (v := 24) dX7_stuff_98 (by decide) ?_
        refine g_iload_n dX7_stuff_100 rfl ?_
        refine g_iadd dX7_stuff_101 ?_
        refine g_topi (fun x26 ex26 => ?_)
        have v27 : vp_in x26 153 := uk_vin 153 rfl (by first | decide | lia | grind) (by first | decide | lia | grind)
        refine g_iald rfl rfl v27 dX7_stuff_102 ?_
        refine g_topi (fun x28 ex28 => ?_)
        have bx28 := uk_cl v27
        refine g_goto (tgt := 108) dX7_stuff_103 (by decide) ?_
        exact g_iret (ty := .int) dX7_stuff_108 rfl rfl ⟨⟨⟨_, rfl, by first | trivial | lia | grind⟩, rfl⟩, ee_p (by subst ex28; subst ex26; subst ex24; subst ex4; exact (if_neg c5).trans ((if_neg c6).trans ((if_neg c10).trans ((if_neg c13).trans ((if_neg c16).trans ((if_pos c20).trans ((if_neg c25).trans (rfl))))))))⟩
    by_cases c29 : w = 5
    · refine g_tabIn (off := (98)) (tgt := 109) dX7_stuff_11 (by rw [c29]; decide) (by rw [c29]; decide) (by rw [c29]; rfl) (by decide) ?_
      refine g_aload_n dX7_stuff_109 rfl ?_
      refine f_X7_7 rfl rfl dX7_stuff_110 ?_
      refine g_bipush (v := 8) dX7_stuff_113 (by decide) ?_
      refine g_iload_n dX7_stuff_115 rfl ?_
      refine g_iadd dX7_stuff_116 ?_
      refine g_topi (fun x30 ex30 => ?_)
      have v31 : vp_in x30 153 := uk_vin 153 rfl (by first | decide | lia | grind) (by first | decide | lia | grind)
      refine g_iald rfl rfl v31 dX7_stuff_117 ?_
      refine g_topi (fun x32 ex32 => ?_)
      have bx32 := uk_cl v31
      exact g_iret (ty := .int) dX7_stuff_118 rfl rfl ⟨⟨⟨_, rfl, by first | trivial | lia | grind⟩, rfl⟩, ee_p (by subst ex32; subst ex30; subst ex4; exact (if_neg c5).trans ((if_neg c6).trans ((if_neg c10).trans ((if_neg c13).trans ((if_neg c16).trans ((if_neg c20).trans ((if_pos c29).trans (rfl))))))))⟩
    by_cases c33 : w = 6
    · refine g_tabIn (off := (108)) (tgt := 119) dX7_stuff_11 (by rw [c33]; decide) (by rw [c33]; decide) (by rw [c33]; rfl) (by decide) ?_
      refine g_aload_n dX7_stuff_119 rfl ?_
      refine f_X7_7 rfl rfl dX7_stuff_120 ?_
      refine g_iconst (v := 0) dX7_stuff_123 (by decide) ?_
      refine g_iload_n dX7_stuff_124 rfl ?_
      refine g_iadd dX7_stuff_125 ?_
      refine g_topi (fun x34 ex34 => ?_)
      have ox34 : x34 = m := by rw [ex34, Int32.zero_add]
      have v35 : vp_in x34 153 := uk_vin 153 rfl (by first | decide | lia | grind) (by first | decide | lia | grind)
      refine g_iald rfl rfl v35 dX7_stuff_126 ?_
      refine g_topi (fun x36 ex36 => ?_)
      have bx36 := uk_cl v35
      have rx36 : 0 ≤ x36 ∧ x36 ≤ 40 := by rw [ex36]; exact sg_0 hu (by unfold uk_is51; decide) (by first | lia | grind) (by first | lia | grind)
      exact g_iret (ty := .int) dX7_stuff_127 rfl rfl ⟨⟨⟨_, rfl, by first | trivial | lia | grind⟩, rfl⟩, ee_p (by subst ex36; subst ex34; subst ex4; exact (if_neg c5).trans ((if_neg c6).trans ((if_neg c10).trans ((if_neg c13).trans ((if_neg c16).trans ((if_neg c20).trans ((if_neg c29).trans ((if_pos c33).trans (rfl)))))))))⟩
    refine g_tabOut (tgt := 128) dX7_stuff_11 (uk_swo 0 6 rfl rfl (by first | lia | grind)) (by decide) ?_
    refine g_iconst (v := (-1)) dX7_stuff_128 (by decide) ?_
    exact g_iret (ty := .int) dX7_stuff_129 rfl rfl ⟨⟨⟨_, rfl, by first | trivial | lia | grind⟩, rfl⟩, ee_p (by subst ex4; exact (if_neg c5).trans ((if_neg c6).trans ((if_neg c10).trans ((if_neg c13).trans ((if_neg c16).trans ((if_neg c20).trans ((if_neg c29).trans ((if_neg c33).trans (rfl)))))))))⟩
  · have zc5 := zx4 c5
    refine g_iconst (v := (-1)) dX7_stuff_8 (by decide) ?_
    exact g_iret (ty := .int) dX7_stuff_9 rfl rfl ⟨⟨⟨_, rfl, by first | trivial | lia | grind⟩, rfl⟩, ee_p (by subst ex4; exact (if_pos c5).trans (rfl))⟩
def e_X7_fill (u : uk_Mem) (m : Int32) (n : Int32) : Int32 × uk_Mem := let x4 : Int32 := (e_X7_isStuff u m); if x4 = 0 then (((-1 : Int32), u)) else (let x9 : Int32 := (e_X7_in u n (0 : Int32) (40 : Int32)); if x9 = 0 then (((-1 : Int32), u)) else (let x11 : Int32 := (0 : Int32) + m; let x15 : Int32 := (e_X7_becomes u x11 n).1; let u13 : uk_Mem := (e_X7_becomes u x11 n).2; (x15, u13)))
abbrev qe_X7_fill (u : uk_Mem) (m : Int32) (n : Int32) (r : Option Value) (u' : uk_Mem) : Prop := (q_X7_fill u m n r u') ∧ (r = some (.int (e_X7_fill u m n).1) ∧ u' = (e_X7_fill u m n).2)
set_option maxHeartbeats 4000000 in
set_option maxRecDepth 20000 in
theorem x_X7_fill {G : uk_D} (hs : uk_Sep G) {u : uk_Mem} (hu : iv u) (hri : ri u) (m : Int32) (n : Int32) (d : Nat) : uk_Meth G (d + 2) mX7_fill [.ref (uk_ad G 60), .int m, .int n] u (qe_X7_fill u m n) := by
  refine uk_Meth.of hs (by decide) (Nat.le_of_ble_eq_true rfl) (fun X => ?_)
  have f0 : fk [61] [] u u := fk_rf
  refine g_aload_n dX7_fill_0 rfl ?_
  refine g_iload_n dX7_fill_1 rfl ?_
  refine cl_X7_163 (c := 60) (As := [.int m]) rfl (x_X7_isStuff (G := G) hs hu  m  (d)) rfl (by omega) rfl rfl (Nat.le_of_ble_eq_true rfl) dX7_fill_2 (fun r1 u2 q3 => ?_)
  obtain ⟨q3, Eq3⟩ := q3
  obtain ⟨⟨x4, rfl, tx4, nx4, zx4⟩, mq3⟩ := q3
  rw [mq3]
  have ex4 : x4 = (e_X7_isStuff u m) := ee_v Eq3
  refine g_if_eq (tgt := 31) dX7_fill_5 (by decide) (fun c5 => ?_) (fun c5 => ?_)
  · have zc5 := zx4 c5
    refine g_iconst (v := (-1)) dX7_fill_31 (by decide) ?_
    exact g_iret (ty := .int) dX7_fill_32 rfl rfl ⟨⟨⟨_, rfl, by first | trivial | lia | grind⟩, hu, f0, hri⟩, ee_i (by subst ex4; exact (if_pos c5).trans (rfl))⟩
  · have zc5 := nx4 c5
    refine g_iload_n dX7_fill_8 rfl ?_
    refine g_i2l dX7_fill_9 ?_
    refine g_lconst (v := 0) dX7_fill_10 (by decide) ?_
    refine g_ldc2 (v := 40) k_X7_173 dX7_fill_11 ?_
    refine cl_X7_84 (As := [.long n.toInt64, .long 0, .long 40]) rfl (x_X7_in (G := G) hs hu  n 0 40  (d + 1)) rfl (by omega) rfl (Nat.le_of_ble_eq_true rfl) dX7_fill_14 (fun r6 u7 q8 => ?_)
    obtain ⟨q8, Eq8⟩ := q8
    obtain ⟨⟨x9, rfl, tx9, nx9, zx9⟩, mq8⟩ := q8
    rw [mq8]
    have ex9 : x9 = (e_X7_in u n (0 : Int32) (40 : Int32)) := ee_v Eq8
    refine g_if_eq (tgt := 31) dX7_fill_17 (by decide) (fun c10 => ?_) (fun c10 => ?_)
    · have zc10 := zx9 c10
      refine g_iconst (v := (-1)) dX7_fill_31 (by decide) ?_
      exact g_iret (ty := .int) dX7_fill_32 rfl rfl ⟨⟨⟨_, rfl, by first | trivial | lia | grind⟩, hu, f0, hri⟩, ee_i (by subst ex9; subst ex4; exact (if_neg c5).trans ((if_pos c10).trans (rfl)))⟩
    · have zc10 := nx9 c10
      refine g_aload_n dX7_fill_20 rfl ?_
      refine g_iconst (v := 0) dX7_fill_21 (by decide) ?_
      refine g_iload_n dX7_fill_22 rfl ?_
      refine g_iadd dX7_fill_23 ?_
      refine g_topi (fun x11 ex11 => ?_)
      have ox11 : x11 = m := by rw [ex11, Int32.zero_add]
      refine g_iload_n dX7_fill_24 rfl ?_
      refine cl_X7_175 (c := 60) (As := [.int x11, .int n]) rfl (x_X7_becomes (G := G) hs hu  x11 n (by first | trivial | decide | lia | grind) (by first | trivial | decide | lia | grind) (by first | trivial | decide | lia | grind) (by first | trivial | decide | lia | grind) (d + 1)) rfl (by omega) rfl rfl (Nat.le_of_ble_eq_true rfl) dX7_fill_25 (fun r12 u13 q14 => ?_)
      obtain ⟨q14, Eq14⟩ := q14
      obtain ⟨⟨x15, rfl, tx15⟩, mq14⟩ := q14
      obtain ⟨hu13, gu13, xu13⟩ := mq14
      have fu13 : fk [61] [] u u13 := fk_tr f0 gu13 (by decide) (by decide)
      have riu13 : ri u13 := by rw [xu13]; exact ri_st hri (by first | lia | grind) (by first | lia | grind)
      have wu13_60_3 : u13.1 60 3 = u.1 60 3 := fk_at gu13 (by decide)
      have ex15 : x15 = (e_X7_becomes u x11 n).1 := ee_v Eq14.1
      have eu13 : u13 = (e_X7_becomes u x11 n).2 := Eq14.2
      refine g_goto (tgt := 32) dX7_fill_28 (by decide) ?_
      exact g_iret (ty := .int) dX7_fill_32 rfl rfl ⟨⟨⟨_, rfl, by first | trivial | lia | grind⟩, hu13, fu13, riu13⟩, ee_i (by subst eu13; subst ex15; subst ex11; subst ex9; subst ex4; exact (if_neg c5).trans ((if_neg c10).trans (rfl)))⟩
def e_X7_feeds (u : uk_Mem) (m : Int32) (v : Int32) : Int32 × uk_Mem := let x4 : Int32 := (e_X7_isStuff u m); if x4 = 0 then (((-1 : Int32), u)) else (let x9 : Int32 := (e_X7_in u v (0 : Int32) (9 : Int32)); if x9 = 0 then (((-1 : Int32), u)) else (let x11 : Int32 := (16 : Int32) + m; let x15 : Int32 := (e_X7_becomes u x11 v).1; let u13 : uk_Mem := (e_X7_becomes u x11 v).2; (x15, u13)))
abbrev qe_X7_feeds (u : uk_Mem) (m : Int32) (v : Int32) (r : Option Value) (u' : uk_Mem) : Prop := (q_X7_feeds u m v r u') ∧ (r = some (.int (e_X7_feeds u m v).1) ∧ u' = (e_X7_feeds u m v).2)
set_option maxHeartbeats 4000000 in
set_option maxRecDepth 20000 in
theorem x_X7_feeds {G : uk_D} (hs : uk_Sep G) {u : uk_Mem} (hu : iv u) (hri : ri u) (m : Int32) (v : Int32) (d : Nat) : uk_Meth G (d + 2) mX7_feeds [.ref (uk_ad G 60), .int m, .int v] u (qe_X7_feeds u m v) := by
  refine uk_Meth.of hs (by decide) (Nat.le_of_ble_eq_true rfl) (fun X => ?_)
  have f0 : fk [61] [] u u := fk_rf
  refine g_aload_n dX7_feeds_0 rfl ?_
  refine g_iload_n dX7_feeds_1 rfl ?_
  refine cl_X7_163 (c := 60) (As := [.int m]) rfl (x_X7_isStuff (G := G) hs hu  m  (d)) rfl (by omega) rfl rfl (Nat.le_of_ble_eq_true rfl) dX7_feeds_2 (fun r1 u2 q3 => ?_)
  obtain ⟨q3, Eq3⟩ := q3
  obtain ⟨⟨x4, rfl, tx4, nx4, zx4⟩, mq3⟩ := q3
  rw [mq3]
  have ex4 : x4 = (e_X7_isStuff u m) := ee_v Eq3
  refine g_if_eq (tgt := 32) dX7_feeds_5 (by decide) (fun c5 => ?_) (fun c5 => ?_)
  · have zc5 := zx4 c5
    refine g_iconst (v := (-1)) dX7_feeds_32 (by decide) ?_
    exact g_iret (ty := .int) dX7_feeds_33 rfl rfl ⟨⟨⟨_, rfl, by first | trivial | lia | grind⟩, hu, f0, hri⟩, ee_i (by subst ex4; exact (if_pos c5).trans (rfl))⟩
  · have zc5 := nx4 c5
    refine g_iload_n dX7_feeds_8 rfl ?_
    refine g_i2l dX7_feeds_9 ?_
    refine g_lconst (v := 0) dX7_feeds_10 (by decide) ?_
    refine g_ldc2 (v := 9) k_X7_178 dX7_feeds_11 ?_
    refine cl_X7_84 (As := [.long v.toInt64, .long 0, .long 9]) rfl (x_X7_in (G := G) hs hu  v 0 9  (d + 1)) rfl (by omega) rfl (Nat.le_of_ble_eq_true rfl) dX7_feeds_14 (fun r6 u7 q8 => ?_)
    obtain ⟨q8, Eq8⟩ := q8
    obtain ⟨⟨x9, rfl, tx9, nx9, zx9⟩, mq8⟩ := q8
    rw [mq8]
    have ex9 : x9 = (e_X7_in u v (0 : Int32) (9 : Int32)) := ee_v Eq8
    refine g_if_eq (tgt := 32) dX7_feeds_17 (by decide) (fun c10 => ?_) (fun c10 => ?_)
    · have zc10 := zx9 c10
      refine g_iconst (v := (-1)) dX7_feeds_32 (by decide) ?_
      exact g_iret (ty := .int) dX7_feeds_33 rfl rfl ⟨⟨⟨_, rfl, by first | trivial | lia | grind⟩, hu, f0, hri⟩, ee_i (by subst ex9; subst ex4; exact (if_neg c5).trans ((if_pos c10).trans (rfl)))⟩
    · have zc10 := nx9 c10
      refine g_aload_n dX7_feeds_20 rfl ?_
      refine g_bipush (v := 16) dX7_feeds_21 (by decide) ?_
      refine g_iload_n dX7_feeds_23 rfl ?_
      refine g_iadd dX7_feeds_24 ?_
      refine g_topi (fun x11 ex11 => ?_)
      refine g_iload_n dX7_feeds_25 rfl ?_
      refine cl_X7_175 (c := 60) (As := [.int x11, .int v]) rfl (x_X7_becomes (G := G) hs hu  x11 v (by first | trivial | decide | lia | grind) (by first | trivial | decide | lia | grind) (by first | trivial | decide | lia | grind) (by first | trivial | decide | lia | grind) (d + 1)) rfl (by omega) rfl rfl (Nat.le_of_ble_eq_true rfl) dX7_feeds_26 (fun r12 u13 q14 => ?_)
      obtain ⟨q14, Eq14⟩ := q14
      obtain ⟨⟨x15, rfl, tx15⟩, mq14⟩ := q14
      obtain ⟨hu13, gu13, xu13⟩ := mq14
      have fu13 : fk [61] [] u u13 := fk_tr f0 gu13 (by decide) (by decide)
      have riu13 : ri u13 := by rw [xu13]; exact ri_st hri (by first | lia | grind) (by first | lia | grind)
      have wu13_60_3 : u13.1 60 3 = u.1 60 3 := fk_at gu13 (by decide)
      have ex15 : x15 = (e_X7_becomes u x11 v).1 := ee_v Eq14.1
      have eu13 : u13 = (e_X7_becomes u x11 v).2 := Eq14.2
      refine g_goto (tgt := 33) dX7_feeds_29 (by decide) ?_
      exact g_iret (ty := .int) dX7_feeds_33 rfl rfl ⟨⟨⟨_, rfl, by first | trivial | lia | grind⟩, hu13, fu13, riu13⟩, ee_i (by subst eu13; subst ex15; subst ex11; subst ex9; subst ex4; exact (if_neg c5).trans ((if_neg c10).trans (rfl)))⟩
def e_X7_price (u : uk_Mem) (m : Int32) (v : Int32) : Int32 × uk_Mem := let x4 : Int32 := (e_X7_isStuff u m); if x4 = 0 then (((-1 : Int32), u)) else (let x9 : Int32 := (e_X7_in u v (0 : Int32) (9 : Int32)); if x9 = 0 then (((-1 : Int32), u)) else (let x14 : Int32 := (e_X7_isRaw u m); if x14 = 0 then (((-2 : Int32), u)) else (let x16 : Int32 := (24 : Int32) + m; let x20 : Int32 := (e_X7_becomes u x16 v).1; let u18 : uk_Mem := (e_X7_becomes u x16 v).2; (x20, u18))))
abbrev qe_X7_price (u : uk_Mem) (m : Int32) (v : Int32) (r : Option Value) (u' : uk_Mem) : Prop := (q_X7_price u m v r u') ∧ (r = some (.int (e_X7_price u m v).1) ∧ u' = (e_X7_price u m v).2)
set_option maxHeartbeats 4000000 in
set_option maxRecDepth 20000 in
theorem x_X7_price {G : uk_D} (hs : uk_Sep G) {u : uk_Mem} (hu : iv u) (hri : ri u) (m : Int32) (v : Int32) (d : Nat) : uk_Meth G (d + 2) mX7_price [.ref (uk_ad G 60), .int m, .int v] u (qe_X7_price u m v) := by
  refine uk_Meth.of hs (by decide) (Nat.le_of_ble_eq_true rfl) (fun X => ?_)
  have f0 : fk [61] [] u u := fk_rf
  refine g_aload_n dX7_price_0 rfl ?_
  refine g_iload_n dX7_price_1 rfl ?_
  refine cl_X7_163 (c := 60) (As := [.int m]) rfl (x_X7_isStuff (G := G) hs hu  m  (d)) rfl (by omega) rfl rfl (Nat.le_of_ble_eq_true rfl) dX7_price_2 (fun r1 u2 q3 => ?_)
  obtain ⟨q3, Eq3⟩ := q3
  obtain ⟨⟨x4, rfl, tx4, nx4, zx4⟩, mq3⟩ := q3
  rw [mq3]
  have ex4 : x4 = (e_X7_isStuff u m) := ee_v Eq3
  refine g_if_eq (tgt := 20) dX7_price_5 (by decide) (fun c5 => ?_) (fun c5 => ?_)
  · have zc5 := zx4 c5
    refine g_iconst (v := (-1)) dX7_price_20 (by decide) ?_
    exact g_iret (ty := .int) dX7_price_21 rfl rfl ⟨⟨⟨_, rfl, by first | trivial | lia | grind⟩, hu, f0, hri⟩, ee_i (by subst ex4; exact (if_pos c5).trans (rfl))⟩
  · have zc5 := nx4 c5
    refine g_iload_n dX7_price_8 rfl ?_
    refine g_i2l dX7_price_9 ?_
    refine g_lconst (v := 0) dX7_price_10 (by decide) ?_
    refine g_ldc2 (v := 9) k_X7_178 dX7_price_11 ?_
    refine cl_X7_84 (As := [.long v.toInt64, .long 0, .long 9]) rfl (x_X7_in (G := G) hs hu  v 0 9  (d + 1)) rfl (by omega) rfl (Nat.le_of_ble_eq_true rfl) dX7_price_14 (fun r6 u7 q8 => ?_)
    obtain ⟨q8, Eq8⟩ := q8
    obtain ⟨⟨x9, rfl, tx9, nx9, zx9⟩, mq8⟩ := q8
    rw [mq8]
    have ex9 : x9 = (e_X7_in u v (0 : Int32) (9 : Int32)) := ee_v Eq8
    refine g_if_ne (tgt := 22) dX7_price_17 (by decide) (fun c10 => ?_) (fun c10 => ?_)
    · have zc10 := nx9 c10
      refine g_aload_n dX7_price_22 rfl ?_
      refine g_iload_n dX7_price_23 rfl ?_
      refine cl_X7_166 (c := 60) (As := [.int m]) rfl (x_X7_isRaw (G := G) hs hu  m (by first | trivial | decide | lia | grind) (by first | trivial | decide | lia | grind) (d + 1)) rfl (by omega) rfl rfl (Nat.le_of_ble_eq_true rfl) dX7_price_24 (fun r11 u12 q13 => ?_)
      obtain ⟨q13, Eq13⟩ := q13
      obtain ⟨⟨x14, rfl, tx14, nx14, zx14⟩, mq13⟩ := q13
      rw [mq13]
      have ex14 : x14 = (e_X7_isRaw u m) := ee_v Eq13
      refine g_if_eq (tgt := 42) dX7_price_27 (by decide) (fun c15 => ?_) (fun c15 => ?_)
      · have zc15 := zx14 c15
        refine g_bipush (v := (-2)) dX7_price_42 (by decide) ?_
        exact g_iret (ty := .int) dX7_price_44 rfl rfl ⟨⟨⟨_, rfl, by first | trivial | lia | grind⟩, hu, f0, hri⟩, ee_i (by subst ex14; subst ex9; subst ex4; exact (if_neg c5).trans ((if_neg c10).trans ((if_pos c15).trans (rfl))))⟩
      · have zc15 := nx14 c15
        refine g_aload_n dX7_price_30 rfl ?_
        refine g_bipush (v := 24) dX7_price_31 (by decide) ?_
        refine g_iload_n dX7_price_33 rfl ?_
        refine g_iadd dX7_price_34 ?_
        refine g_topi (fun x16 ex16 => ?_)
        refine g_iload_n dX7_price_35 rfl ?_
        refine cl_X7_175 (c := 60) (As := [.int x16, .int v]) rfl (x_X7_becomes (G := G) hs hu  x16 v (by first | trivial | decide | lia | grind) (by first | trivial | decide | lia | grind) (by first | trivial | decide | lia | grind) (by first | trivial | decide | lia | grind) (d + 1)) rfl (by omega) rfl rfl (Nat.le_of_ble_eq_true rfl) dX7_price_36 (fun r17 u18 q19 => ?_)
        obtain ⟨q19, Eq19⟩ := q19
        obtain ⟨⟨x20, rfl, tx20⟩, mq19⟩ := q19
        obtain ⟨hu18, gu18, xu18⟩ := mq19
        have fu18 : fk [61] [] u u18 := fk_tr f0 gu18 (by decide) (by decide)
        have riu18 : ri u18 := by rw [xu18]; exact ri_st hri (by first | lia | grind) (by first | lia | grind)
        have wu18_60_3 : u18.1 60 3 = u.1 60 3 := fk_at gu18 (by decide)
        have ex20 : x20 = (e_X7_becomes u x16 v).1 := ee_v Eq19.1
        have eu18 : u18 = (e_X7_becomes u x16 v).2 := Eq19.2
        refine g_goto (tgt := 44) dX7_price_39 (by decide) ?_
        exact g_iret (ty := .int) dX7_price_44 rfl rfl ⟨⟨⟨_, rfl, by first | trivial | lia | grind⟩, hu18, fu18, riu18⟩, ee_i (by subst eu18; subst ex20; subst ex16; subst ex14; subst ex9; subst ex4; exact (if_neg c5).trans ((if_neg c10).trans ((if_neg c15).trans (rfl))))⟩
    · have zc10 := zx9 c10
      refine g_iconst (v := (-1)) dX7_price_20 (by decide) ?_
      exact g_iret (ty := .int) dX7_price_21 rfl rfl ⟨⟨⟨_, rfl, by first | trivial | lia | grind⟩, hu, f0, hri⟩, ee_i (by subst ex9; subst ex4; exact (if_neg c5).trans ((if_pos c10).trans (rfl)))⟩
def e_X7_kind (u : uk_Mem) (m : Int32) (k : Int32) : Int32 × uk_Mem := let x4 : Int32 := (e_X7_isStuff u m); if x4 = 0 then (((-1 : Int32), u)) else (let x9 : Int32 := (e_X7_in u k (0 : Int32) (3 : Int32)); if x9 = 0 then (((-1 : Int32), u)) else (let x14 : Int32 := (e_X7_isRaw u m); if x14 = 0 then (let x16 : Int32 := (32 : Int32) + m; let x20 : Int32 := (e_X7_becomes u x16 k).1; let u18 : uk_Mem := (e_X7_becomes u x16 k).2; (x20, u18)) else (((-2 : Int32), u))))
abbrev qe_X7_kind (u : uk_Mem) (m : Int32) (k : Int32) (r : Option Value) (u' : uk_Mem) : Prop := (q_X7_kind u m k r u') ∧ (r = some (.int (e_X7_kind u m k).1) ∧ u' = (e_X7_kind u m k).2)
set_option maxHeartbeats 4000000 in
set_option maxRecDepth 20000 in
theorem x_X7_kind {G : uk_D} (hs : uk_Sep G) {u : uk_Mem} (hu : iv u) (hri : ri u) (m : Int32) (k : Int32) (d : Nat) : uk_Meth G (d + 2) mX7_kind [.ref (uk_ad G 60), .int m, .int k] u (qe_X7_kind u m k) := by
  refine uk_Meth.of hs (by decide) (Nat.le_of_ble_eq_true rfl) (fun X => ?_)
  have f0 : fk [61] [] u u := fk_rf
  refine g_aload_n dX7_kind_0 rfl ?_
  refine g_iload_n dX7_kind_1 rfl ?_
  refine cl_X7_163 (c := 60) (As := [.int m]) rfl (x_X7_isStuff (G := G) hs hu  m  (d)) rfl (by omega) rfl rfl (Nat.le_of_ble_eq_true rfl) dX7_kind_2 (fun r1 u2 q3 => ?_)
  obtain ⟨q3, Eq3⟩ := q3
  obtain ⟨⟨x4, rfl, tx4, nx4, zx4⟩, mq3⟩ := q3
  rw [mq3]
  have ex4 : x4 = (e_X7_isStuff u m) := ee_v Eq3
  refine g_if_eq (tgt := 20) dX7_kind_5 (by decide) (fun c5 => ?_) (fun c5 => ?_)
  · have zc5 := zx4 c5
    refine g_iconst (v := (-1)) dX7_kind_20 (by decide) ?_
    exact g_iret (ty := .int) dX7_kind_21 rfl rfl ⟨⟨⟨_, rfl, by first | trivial | lia | grind⟩, hu, f0, hri⟩, ee_i (by subst ex4; exact (if_pos c5).trans (rfl))⟩
  · have zc5 := nx4 c5
    refine g_iload_n dX7_kind_8 rfl ?_
    refine g_i2l dX7_kind_9 ?_
    refine g_lconst (v := 0) dX7_kind_10 (by decide) ?_
    refine g_ldc2 (v := 3) k_X7_180 dX7_kind_11 ?_
    refine cl_X7_84 (As := [.long k.toInt64, .long 0, .long 3]) rfl (x_X7_in (G := G) hs hu  k 0 3  (d + 1)) rfl (by omega) rfl (Nat.le_of_ble_eq_true rfl) dX7_kind_14 (fun r6 u7 q8 => ?_)
    obtain ⟨q8, Eq8⟩ := q8
    obtain ⟨⟨x9, rfl, tx9, nx9, zx9⟩, mq8⟩ := q8
    rw [mq8]
    have ex9 : x9 = (e_X7_in u k (0 : Int32) (3 : Int32)) := ee_v Eq8
    refine g_if_ne (tgt := 22) dX7_kind_17 (by decide) (fun c10 => ?_) (fun c10 => ?_)
    · have zc10 := nx9 c10
      refine g_aload_n dX7_kind_22 rfl ?_
      refine g_iload_n dX7_kind_23 rfl ?_
      refine cl_X7_166 (c := 60) (As := [.int m]) rfl (x_X7_isRaw (G := G) hs hu  m (by first | trivial | decide | lia | grind) (by first | trivial | decide | lia | grind) (d + 1)) rfl (by omega) rfl rfl (Nat.le_of_ble_eq_true rfl) dX7_kind_24 (fun r11 u12 q13 => ?_)
      obtain ⟨q13, Eq13⟩ := q13
      obtain ⟨⟨x14, rfl, tx14, nx14, zx14⟩, mq13⟩ := q13
      rw [mq13]
      have ex14 : x14 = (e_X7_isRaw u m) := ee_v Eq13
      refine g_if_eq (tgt := 35) dX7_kind_27 (by decide) (fun c15 => ?_) (fun c15 => ?_)
      · have zc15 := zx14 c15
        refine g_aload_n dX7_kind_35 rfl ?_
        refine g_bipush (v := 32) dX7_kind_36 (by decide) ?_
        refine g_iload_n dX7_kind_38 rfl ?_
        refine g_iadd dX7_kind_39 ?_
        refine g_topi (fun x16 ex16 => ?_)
        refine g_iload_n dX7_kind_40 rfl ?_
        refine cl_X7_175 (c := 60) (As := [.int x16, .int k]) rfl (x_X7_becomes (G := G) hs hu  x16 k (by first | trivial | decide | lia | grind) (by first | trivial | decide | lia | grind) (by first | trivial | decide | lia | grind) (by first | trivial | decide | lia | grind) (d + 1)) rfl (by omega) rfl rfl (Nat.le_of_ble_eq_true rfl) dX7_kind_41 (fun r17 u18 q19 => ?_)
        obtain ⟨q19, Eq19⟩ := q19
        obtain ⟨⟨x20, rfl, tx20⟩, mq19⟩ := q19
        obtain ⟨hu18, gu18, xu18⟩ := mq19
        have fu18 : fk [61] [] u u18 := fk_tr f0 gu18 (by decide) (by decide)
        have riu18 : ri u18 := by rw [xu18]; exact ri_kind hri (m := m) (by grind) (by grind) (by grind) (by grind) (by assumption)
        have wu18_60_3 : u18.1 60 3 = u.1 60 3 := fk_at gu18 (by decide)
        have ex20 : x20 = (e_X7_becomes u x16 k).1 := ee_v Eq19.1
        have eu18 : u18 = (e_X7_becomes u x16 k).2 := Eq19.2
        exact g_iret (ty := .int) dX7_kind_44 rfl rfl ⟨⟨⟨_, rfl, by first | trivial | lia | grind⟩, hu18, fu18, riu18⟩, ee_i (by subst eu18; subst ex20; subst ex16; subst ex14; subst ex9; subst ex4; exact (if_neg c5).trans ((if_neg c10).trans ((if_pos c15).trans (rfl))))⟩
      · have zc15 := nx14 c15
        refine g_bipush (v := (-2)) dX7_kind_30 (by decide) ?_
        refine g_goto (tgt := 44) dX7_kind_32 (by decide) ?_
        exact g_iret (ty := .int) dX7_kind_44 rfl rfl ⟨⟨⟨_, rfl, by first | trivial | lia | grind⟩, hu, f0, hri⟩, ee_i (by subst ex14; subst ex9; subst ex4; exact (if_neg c5).trans ((if_neg c10).trans ((if_neg c15).trans (rfl))))⟩
    · have zc10 := zx9 c10
      refine g_iconst (v := (-1)) dX7_kind_20 (by decide) ?_
      exact g_iret (ty := .int) dX7_kind_21 rfl rfl ⟨⟨⟨_, rfl, by first | trivial | lia | grind⟩, hu, f0, hri⟩, ee_i (by subst ex9; subst ex4; exact (if_neg c5).trans ((if_pos c10).trans (rfl)))⟩
def e_X7_eat (u : uk_Mem) (m : Int32) : Int32 × uk_Mem := let x4 : Int32 := (e_X7_isStuff u m); if x4 = 0 then (((-1 : Int32), u)) else (let x6 : Int32 := (0 : Int32) + m; let x8 : Int32 := u.1 61 x6.toNatClampNeg; if x8 = 0 then (((-2 : Int32), u)) else (let x10 : Int32 := (0 : Int32) + m; let x12 : Int32 := u.1 61 x10.toNatClampNeg; let x13 : Int32 := x12 - (1 : Int32); let u16 : uk_Mem := uk_up u 61 x10.toNatClampNeg x13; let x18 : Int32 := u16.1 61 (40 : Int32).toNatClampNeg; let x19 : Int32 := (16 : Int32) + m; let x21 : Int32 := u16.1 61 x19.toNatClampNeg; let x22 : Int32 := x18 + x21; let u25 : uk_Mem := uk_up u16 61 (40 : Int32).toNatClampNeg x22; let x27 : Int32 := u25.1 61 (40 : Int32).toNatClampNeg; (x27, u25)))
abbrev qe_X7_eat (u : uk_Mem) (m : Int32) (r : Option Value) (u' : uk_Mem) : Prop := (q_X7_eat u m r u') ∧ (r = some (.int (e_X7_eat u m).1) ∧ u' = (e_X7_eat u m).2)
set_option maxHeartbeats 4000000 in
set_option maxRecDepth 20000 in
theorem x_X7_eat {G : uk_D} (hs : uk_Sep G) {u : uk_Mem} (hu : iv u) (hri : ri u) (m : Int32) (d : Nat) : uk_Meth G (d + 2) mX7_eat [.ref (uk_ad G 60), .int m] u (qe_X7_eat u m) := by
  refine uk_Meth.of hs (by decide) (Nat.le_of_ble_eq_true rfl) (fun X => ?_)
  have f0 : fk [61] [] u u := fk_rf
  refine g_aload_n dX7_eat_0 rfl ?_
  refine g_iload_n dX7_eat_1 rfl ?_
  refine cl_X7_163 (c := 60) (As := [.int m]) rfl (x_X7_isStuff (G := G) hs hu  m  (d)) rfl (by omega) rfl rfl (Nat.le_of_ble_eq_true rfl) dX7_eat_2 (fun r1 u2 q3 => ?_)
  obtain ⟨q3, Eq3⟩ := q3
  obtain ⟨⟨x4, rfl, tx4, nx4, zx4⟩, mq3⟩ := q3
  rw [mq3]
  have ex4 : x4 = (e_X7_isStuff u m) := ee_v Eq3
  refine g_if_ne (tgt := 10) dX7_eat_5 (by decide) (fun c5 => ?_) (fun c5 => ?_)
  · have zc5 := nx4 c5
    refine g_aload_n dX7_eat_10 rfl ?_
    refine f_X7_7 rfl rfl dX7_eat_11 ?_
    refine g_iconst (v := 0) dX7_eat_14 (by decide) ?_
    refine g_iload_n dX7_eat_15 rfl ?_
    refine g_iadd dX7_eat_16 ?_
    refine g_topi (fun x6 ex6 => ?_)
    have ox6 : x6 = m := by rw [ex6, Int32.zero_add]
    have v7 : vp_in x6 153 := uk_vin 153 rfl (by first | decide | lia | grind) (by first | decide | lia | grind)
    refine g_iald rfl rfl v7 dX7_eat_17 ?_
    refine g_topi (fun x8 ex8 => ?_)
    have bx8 := uk_cl v7
    have rx8 : 0 ≤ x8 ∧ x8 ≤ 40 := by rw [ex8]; exact sg_0 hu (by unfold uk_is51; decide) (by first | lia | grind) (by first | lia | grind)
    refine g_if_ne (tgt := 24) dX7_eat_18 (by decide) (fun c9 => ?_) (fun c9 => ?_)
    · refine g_aload_n dX7_eat_24 rfl ?_
      refine f_X7_7 rfl rfl dX7_eat_25 ?_
      refine g_iconst (v := 0) dX7_eat_28 (by decide) ?_
      refine g_iload_n dX7_eat_29 rfl ?_
      refine g_iadd dX7_eat_30 ?_
      refine g_topi (fun x10 ex10 => ?_)
      have ox10 : x10 = m := by rw [ex10, Int32.zero_add]
      refine g_dup2 dX7_eat_31 rfl rfl ?_
      have v11 : vp_in x10 153 := uk_vin 153 rfl (by first | decide | lia | grind) (by first | decide | lia | grind)
      refine g_iald rfl rfl v11 dX7_eat_32 ?_
      refine g_topi (fun x12 ex12 => ?_)
      have bx12 := uk_cl v11
      have rx12 : 0 ≤ x12 ∧ x12 ≤ 40 := by rw [ex12]; exact sg_0 hu (by unfold uk_is51; decide) (by first | lia | grind) (by first | lia | grind)
      refine g_iconst (v := 1) dX7_eat_33 (by decide) ?_
      refine g_isub dX7_eat_34 ?_
      refine g_topi (fun x13 ex13 => ?_)
      have v14 : vp_in x10 153 := uk_vin 153 rfl (by first | decide | lia | grind) (by first | decide | lia | grind)
      have b15 := uk_cl v14
      refine g_iast rfl rfl v14 dX7_eat_35 ?_
      refine g_mem (fun u16 eu16 => ?_)
      have hu16 : iv u16 := by rw [eu16]; exact iv_st hu (by unfold uk_is51; decide) (by first | decide | lia | grind) (by first | decide | lia | grind) (fun q => by first | decide | lia | grind) (fun q => by first | decide | lia | grind) (fun q => by first | decide | lia | grind)
      have fu16 : fk [61] [] u u16 := by rw [eu16]; exact fk_up f0 (by decide) (fun q => absurd q (by decide))
      have riu16 : ri u16 := by rw [eu16]; exact ri_st hri (by first | decide | lia | grind) (by first | decide | lia | grind)
      refine g_aload_n dX7_eat_36 rfl ?_
      refine f_X7_7 rfl rfl dX7_eat_37 ?_
      refine g_bipush (v := 40) dX7_eat_40 (by decide) ?_
      refine g_dup2 dX7_eat_42 rfl rfl ?_
      have v17 : vp_in 40 153 := uk_vin 153 rfl (by first | decide | lia | grind) (by first | decide | lia | grind)
      refine g_iald rfl rfl v17 dX7_eat_43 ?_
      refine g_topi (fun x18 ex18 => ?_)
      have bx18 := uk_cl v17
      refine g_aload_n dX7_eat_44 rfl ?_
      refine f_X7_7 rfl rfl dX7_eat_45 ?_
      refine g_bipush (v := 16) dX7_eat_48 (by decide) ?_
      refine g_iload_n dX7_eat_50 rfl ?_
      refine g_iadd dX7_eat_51 ?_
      refine g_topi (fun x19 ex19 => ?_)
      have v20 : vp_in x19 153 := uk_vin 153 rfl (by first | decide | lia | grind) (by first | decide | lia | grind)
      refine g_iald rfl rfl v20 dX7_eat_52 ?_
      refine g_topi (fun x21 ex21 => ?_)
      have bx21 := uk_cl v20
      refine g_iadd dX7_eat_53 ?_
      refine g_topi (fun x22 ex22 => ?_)
      have v23 : vp_in 40 153 := uk_vin 153 rfl (by first | decide | lia | grind) (by first | decide | lia | grind)
      have b24 := uk_cl v23
      refine g_iast rfl rfl v23 dX7_eat_54 ?_
      refine g_mem (fun u25 eu25 => ?_)
      have hu25 : iv u25 := by rw [eu25]; exact iv_st hu16 (by unfold uk_is51; decide) (by first | decide | lia | grind) (by first | decide | lia | grind) (fun q => by first | decide | lia | grind) (fun q => by first | decide | lia | grind) (fun q => by first | decide | lia | grind)
      have fu25 : fk [61] [] u u25 := by rw [eu25]; exact fk_up fu16 (by decide) (fun q => absurd q (by decide))
      have riu25 : ri u25 := by rw [eu25]; exact ri_st riu16 (by first | decide | lia | grind) (by first | decide | lia | grind)
      refine g_aload_n dX7_eat_55 rfl ?_
      refine f_X7_7 rfl rfl dX7_eat_56 ?_
      refine g_bipush (v := 40) dX7_eat_59 (by decide) ?_
      have v26 : vp_in 40 153 := uk_vin 153 rfl (by first | decide | lia | grind) (by first | decide | lia | grind)
      refine g_iald rfl rfl v26 dX7_eat_61 ?_
      refine g_topi (fun x27 ex27 => ?_)
      have bx27 := uk_cl v26
      exact g_iret (ty := .int) dX7_eat_62 rfl rfl ⟨⟨⟨_, rfl, by first | trivial | lia | grind⟩, hu25, fu25, riu25⟩, ee_i (by subst ex27; subst eu25; subst ex22; subst ex21; subst ex19; subst ex18; subst eu16; subst ex13; subst ex12; subst ex10; subst ex8; subst ex6; subst ex4; exact (if_neg c5).trans ((if_neg c9).trans (rfl)))⟩
    · refine g_bipush (v := (-2)) dX7_eat_21 (by decide) ?_
      exact g_iret (ty := .int) dX7_eat_23 rfl rfl ⟨⟨⟨_, rfl, by first | trivial | lia | grind⟩, hu, f0, hri⟩, ee_i (by subst ex8; subst ex6; subst ex4; exact (if_neg c5).trans ((if_pos c9).trans (rfl)))⟩
  · have zc5 := zx4 c5
    refine g_iconst (v := (-1)) dX7_eat_8 (by decide) ?_
    exact g_iret (ty := .int) dX7_eat_9 rfl rfl ⟨⟨⟨_, rfl, by first | trivial | lia | grind⟩, hu, f0, hri⟩, ee_i (by subst ex4; exact (if_pos c5).trans (rfl))⟩
def l_X7_can_17 (u7 : uk_Mem) (w : Int32) : Nat → Int32 → Int32 → Int32 × uk_Mem
  | 0, _, _ => (0, u7)
  | K9 + 1, i11, w10 => let x12 : Int32 := u7.1 60 3; if x12 ≤ i11 then ((w10, u7)) else (let x15 : Int32 := (10 : Int32) * w; let x16 : Int32 := x15 + i11; let x20 : Int32 := (e_X7_canDo u7 x16); let x24 : Int32 := (e_X7_flag u7 x20); let x25 : Int32 := x24 <<< (i11 &&& 31); let x26 : Int32 := w10 ||| x25; l_X7_can_17 u7 w K9 (i11 + 1) x26)
def e_X7_can (u : uk_Mem) (w : Int32) : Int32 × uk_Mem := let x4 : Int32 := (e_X7_isPart u w); if x4 = 0 then (((-1 : Int32), u)) else (let u7 : uk_Mem := e_X7_starts u; l_X7_can_17 u7 w ee_K (0 : Int32) (0 : Int32))
abbrev qe_X7_can (u : uk_Mem) (w : Int32) (r : Option Value) (u' : uk_Mem) : Prop := (q_X7_can u w r u') ∧ (r = some (.int (e_X7_can u w).1) ∧ u' = (e_X7_can u w).2)
set_option maxHeartbeats 4000000 in
set_option maxRecDepth 20000 in
theorem x_X7_can {G : uk_D} (hs : uk_Sep G) {u : uk_Mem} (hu : iv u) (hri : ri u) (w : Int32) (d : Nat) : uk_Meth G (d + 3) mX7_can [.ref (uk_ad G 60), .int w] u (qe_X7_can u w) := by
  refine uk_Meth.of hs (by decide) (Nat.le_of_ble_eq_true rfl) (fun X => ?_)
  have f0 : fk [62] [] u u := fk_rf
  refine g_iload_n dX7_can_0 rfl ?_
  refine cl_X7_197 (As := [.int w]) rfl (x_X7_isPart (G := G) hs hu  w  (d + 1)) rfl (by omega) rfl (Nat.le_of_ble_eq_true rfl) dX7_can_1 (fun r1 u2 q3 => ?_)
  obtain ⟨q3, Eq3⟩ := q3
  obtain ⟨⟨x4, rfl, tx4, nx4, zx4⟩, mq3⟩ := q3
  rw [mq3]
  have ex4 : x4 = (e_X7_isPart u w) := ee_v Eq3
  refine g_if_ne (tgt := 9) dX7_can_4 (by decide) (fun c5 => ?_) (fun c5 => ?_)
  · have zc5 := nx4 c5
    refine g_iconst (v := 0) dX7_can_9 (by decide) ?_
    refine g_istore_n dX7_can_10 (by decide) ?_
    refine g_pick (lv' := [(0, .ref (uk_ad G 60)), (1, .int w), (2, .int 0)]) [0, 1, 2] rfl ?_
    refine g_aload_n dX7_can_11 rfl ?_
    refine cl_X7_185 (c := 60) (As := []) rfl (x_X7_starts (G := G) hs hu hri    (d + 2)) rfl (by omega) rfl rfl (Nat.le_of_ble_eq_true rfl) dX7_can_12 (fun r6 u7 q8 => ?_)
    obtain ⟨q8, Eq8⟩ := q8
    obtain ⟨rfl, mq8⟩ := q8
    obtain ⟨hu7, gu7, rau7, ku70⟩ := mq8
    have fu7 : fk [62] [] u u7 := fk_tr f0 gu7 (by decide) (by decide)
    have riu7 : ri u7 := ri_fk hri gu7 (by decide) (by decide) (by decide) (by decide) (by decide)
    have wu7_60_3 : u7.1 60 3 = u.1 60 3 := fk_at gu7 (by decide)
    have eu7 : u7 = e_X7_starts u := Eq8
    refine g_iconst (v := 0) dX7_can_15 (by decide) ?_
    refine g_istore_n dX7_can_16 (by decide) ?_
    refine g_pick (lv' := [(0, .ref (uk_ad G 60)), (1, .int w), (2, .int 0), (3, .int 0)]) [0, 1, 2, 3] rfl ?_
    have L17_8 : ∀ i11 : Int32, 0 ≤ i11 → i11 ≤ 8 → ∀ (w10 : Int32), (∃ ki11 : Nat, ee_F 8 i11 ki11 ∧ e_X7_can u w = l_X7_can_17 u7 w ki11 i11 w10) → uk_G G X mX7_can (d + 3) (qe_X7_can u w) 17 [(0, .ref (uk_ad G 60)), (1, .int w), (2, .int w10), (3, .int i11)] [] u7 := by
      refine uk_upl 8 ?_
      intro i11 ai11 bi11 ihi11 w10 jEi11
      obtain ⟨ki11, fki11, hki11⟩ := jEi11
      obtain ⟨ki11, rfl⟩ := ee_Fp (by first | assumption | lia | grind) fki11
      refine g_iload_n dX7_can_17 rfl ?_
      refine g_aload_n dX7_can_18 rfl ?_
      refine f_X7_79 rfl rfl dX7_can_19 ?_
      refine g_topi (fun x12 ex12 => ?_)
      have rx12 : 0 ≤ x12 ∧ x12 ≤ 8 := by rw [ex12]; exact iv_at hu7 _ _ rfl
      have s13 : u7.1 60 3 = x12 := ex12.symm
      refine g_icmp_ge (tgt := 49) dX7_can_22 (by decide) (fun c14 => ?_) (fun c14 => ?_)
      · refine g_iload_n dX7_can_49 rfl ?_
        exact g_iret (ty := .int) dX7_can_50 rfl rfl ⟨⟨⟨_, rfl, by first | trivial | lia | grind⟩, hu7, fu7, riu7⟩, ee_i (by subst ex12; exact hki11.trans ((if_pos c14).trans (rfl)))⟩
      · refine g_iload_n dX7_can_25 rfl ?_
        refine g_aload_n dX7_can_26 rfl ?_
        refine g_bipush (v := 10) dX7_can_27 (by decide) ?_
        refine g_iload_n dX7_can_29 rfl ?_
        refine g_imul dX7_can_30 ?_
        refine g_topi (fun x15 ex15 => ?_)
        refine g_iload_n dX7_can_31 rfl ?_
        refine g_iadd dX7_can_32 ?_
        refine g_topi (fun x16 ex16 => ?_)
        refine cl_X7_188 (c := 60) (As := [.int x16]) rfl (x_X7_canDo (G := G) hs hu7 rau7  x16 (by first | trivial | decide | lia | grind) (d)) rfl (by omega) rfl rfl (Nat.le_of_ble_eq_true rfl) dX7_can_33 (fun r17 u18 q19 => ?_)
        obtain ⟨q19, Eq19⟩ := q19
        obtain ⟨⟨x20, rfl, tx20, nx20, zx20⟩, mq19⟩ := q19
        rw [mq19]
        have ex20 : x20 = (e_X7_canDo u7 x16) := ee_v Eq19
        refine cl_X7_169 (As := [.int x20]) rfl (x_X7_flag (G := G) hs hu7  x20  (d + 2)) rfl (by omega) rfl (Nat.le_of_ble_eq_true rfl) dX7_can_36 (fun r21 u22 q23 => ?_)
        obtain ⟨q23, Eq23⟩ := q23
        obtain ⟨⟨x24, rfl, tx24⟩, mq23⟩ := q23
        rw [mq23]
        have ex24 : x24 = (e_X7_flag u7 x20) := ee_v Eq23
        refine g_iload_n dX7_can_39 rfl ?_
        refine g_ishl dX7_can_40 (fun x25 ex25 => ?_)
        refine g_ior dX7_can_41 ?_
        refine g_topi (fun x26 ex26 => ?_)
        refine g_istore_n dX7_can_42 (by decide) ?_
        refine g_pick (lv' := [(0, .ref (uk_ad G 60)), (1, .int w), (2, .int x26), (3, .int i11)]) [0, 1, 2, 3] rfl ?_
        refine g_iinc (v := i11 + 1) dX7_can_43 rfl rfl (by decide) ?_
        refine g_pick (lv' := [(0, .ref (uk_ad G 60)), (1, .int w), (2, .int x26), (3, .int (i11 + 1))]) [0, 1, 2, 3] rfl ?_
        refine g_goto (tgt := 17) dX7_can_46 (by decide) ?_
        refine g_pick (lv' := [(0, .ref (uk_ad G 60)), (1, .int w), (2, .int x26), (3, .int (i11 + 1))]) [0, 1, 2, 3] rfl ?_
        exact ihi11 (by first | lia | grind) x26  ⟨ki11, ee_Fs fki11 (by first | assumption | lia | grind), by subst ex26; subst ex25; subst ex24; subst ex20; subst ex16; subst ex15; subst ex12; exact hki11.trans ((if_neg c14).trans (rfl))⟩
    refine g_pick (lv' := [(0, .ref (uk_ad G 60)), (1, .int w), (2, .int 0), (3, .int 0)]) [0, 1, 2, 3] rfl ?_
    exact L17_8 0 (by first | decide | lia | grind) (by first | decide | lia | grind) 0  ⟨ee_K, ee_F0 _ _, by subst eu7; subst ex4; exact (if_neg c5).trans (rfl)⟩
  · have zc5 := zx4 c5
    refine g_iconst (v := (-1)) dX7_can_7 (by decide) ?_
    exact g_iret (ty := .int) dX7_can_8 rfl rfl ⟨⟨⟨_, rfl, by first | trivial | lia | grind⟩, hu, f0, hri⟩, ee_i (by subst ex4; exact (if_pos c5).trans (rfl))⟩
def e_X7_isSheet (u : uk_Mem) (k : Int32) (l : Int32) : Int32 := let x4 : Int32 := (e_X7_in u k (0 : Int32) (3 : Int32)); if x4 = 0 then ((0 : Int32)) else (let x9 : Int32 := (e_X7_in u l (0 : Int32) (2 : Int32)); if x9 = 0 then ((0 : Int32)) else ((1 : Int32)))
abbrev qe_X7_isSheet (u : uk_Mem) (k : Int32) (l : Int32) (r : Option Value) (u' : uk_Mem) : Prop := (q_X7_isSheet u k l r u') ∧ (r = some (.int (e_X7_isSheet u k l)))
set_option maxHeartbeats 4000000 in
set_option maxRecDepth 20000 in
theorem x_X7_isSheet {G : uk_D} (hs : uk_Sep G) {u : uk_Mem} (hu : iv u) (k : Int32) (l : Int32) (d : Nat) : uk_Meth G (d + 1) mX7_isSheet [.int k, .int l] u (qe_X7_isSheet u k l) := by
  refine uk_Meth.of hs (by decide) (Nat.le_of_ble_eq_true rfl) (fun X => ?_)
  refine g_iload_n dX7_isSheet_0 rfl ?_
  refine g_i2l dX7_isSheet_1 ?_
  refine g_lconst (v := 0) dX7_isSheet_2 (by decide) ?_
  refine g_ldc2 (v := 3) k_X7_180 dX7_isSheet_3 ?_
  refine cl_X7_84 (As := [.long k.toInt64, .long 0, .long 3]) rfl (x_X7_in (G := G) hs hu  k 0 3  (d)) rfl (by omega) rfl (Nat.le_of_ble_eq_true rfl) dX7_isSheet_6 (fun r1 u2 q3 => ?_)
  obtain ⟨q3, Eq3⟩ := q3
  obtain ⟨⟨x4, rfl, tx4, nx4, zx4⟩, mq3⟩ := q3
  rw [mq3]
  have ex4 : x4 = (e_X7_in u k (0 : Int32) (3 : Int32)) := ee_v Eq3
  refine g_if_eq (tgt := 28) dX7_isSheet_9 (by decide) (fun c5 => ?_) (fun c5 => ?_)
  · have zc5 := zx4 c5
    refine g_iconst (v := 0) dX7_isSheet_28 (by decide) ?_
    exact g_iret (ty := .boolean) dX7_isSheet_29 rfl rfl ⟨⟨⟨0, rfl, Or.inl rfl, fun q => absurd rfl q, fun _ => by first | trivial | lia | grind⟩, rfl⟩, ee_p (by subst ex4; exact (if_pos c5).trans (rfl))⟩
  · have zc5 := nx4 c5
    refine g_iload_n dX7_isSheet_12 rfl ?_
    refine g_i2l dX7_isSheet_13 ?_
    refine g_lconst (v := 0) dX7_isSheet_14 (by decide) ?_
    refine g_ldc2 (v := 2) k_X7_271 dX7_isSheet_15 ?_
    refine cl_X7_84 (As := [.long l.toInt64, .long 0, .long 2]) rfl (x_X7_in (G := G) hs hu  l 0 2  (d)) rfl (by omega) rfl (Nat.le_of_ble_eq_true rfl) dX7_isSheet_18 (fun r6 u7 q8 => ?_)
    obtain ⟨q8, Eq8⟩ := q8
    obtain ⟨⟨x9, rfl, tx9, nx9, zx9⟩, mq8⟩ := q8
    rw [mq8]
    have ex9 : x9 = (e_X7_in u l (0 : Int32) (2 : Int32)) := ee_v Eq8
    refine g_if_eq (tgt := 28) dX7_isSheet_21 (by decide) (fun c10 => ?_) (fun c10 => ?_)
    · have zc10 := zx9 c10
      refine g_iconst (v := 0) dX7_isSheet_28 (by decide) ?_
      exact g_iret (ty := .boolean) dX7_isSheet_29 rfl rfl ⟨⟨⟨0, rfl, Or.inl rfl, fun q => absurd rfl q, fun _ => by first | trivial | lia | grind⟩, rfl⟩, ee_p (by subst ex9; subst ex4; exact (if_neg c5).trans ((if_pos c10).trans (rfl)))⟩
    · have zc10 := nx9 c10
      refine g_iconst (v := 1) dX7_isSheet_24 (by decide) ?_
      refine g_goto (tgt := 29) dX7_isSheet_25 (by decide) ?_
      exact g_iret (ty := .boolean) dX7_isSheet_29 rfl rfl ⟨⟨⟨1, rfl, Or.inr rfl, fun _ => by first | trivial | lia | grind, fun q => absurd q (by decide)⟩, rfl⟩, ee_p (by subst ex9; subst ex4; exact (if_neg c5).trans ((if_neg c10).trans (rfl)))⟩
def l_X7_sheet_40 (k : Int32) : Nat → Int32 → uk_Mem → Int32 × uk_Mem
  | 0, _, u16 => (0, u16)
  | K9 + 1, i15, u16 => if (40 : Int32) ≤ i15 then (((1 : Int32), u16)) else (let x18 : Int32 := (40 : Int32) * k; let x19 : Int32 := x18 + i15; let u22 : uk_Mem := uk_up u16 76 x19.toNatClampNeg (0 : Int32); l_X7_sheet_40 k K9 (i15 + 1) u22)
def e_X7_sheet (u : uk_Mem) (k : Int32) (l : Int32) (n : Int32) : Int32 × uk_Mem := let x4 : Int32 := (e_X7_isSheet u k l); if x4 = 0 then (((-1 : Int32), u)) else (if n ≤ (40 : Int32) then (if 0 ≤ n then (let u10 : uk_Mem := uk_up u 74 k.toNatClampNeg l; let u13 : uk_Mem := uk_up u10 75 k.toNatClampNeg n; l_X7_sheet_40 k ee_K (0 : Int32) u13) else (((-14 : Int32), u))) else (((-1 : Int32), u)))
abbrev qe_X7_sheet (u : uk_Mem) (k : Int32) (l : Int32) (n : Int32) (r : Option Value) (u' : uk_Mem) : Prop := (q_X7_sheet u k l n r u') ∧ (r = some (.int (e_X7_sheet u k l n).1) ∧ u' = (e_X7_sheet u k l n).2)
set_option maxHeartbeats 4000000 in
set_option maxRecDepth 20000 in
theorem x_X7_sheet {G : uk_D} (hs : uk_Sep G) {u : uk_Mem} (hu : iv u) (k : Int32) (l : Int32) (n : Int32) (d : Nat) : uk_Meth G (d + 2) mX7_sheet [.ref (uk_ad G 60), .int k, .int l, .int n] u (qe_X7_sheet u k l n) := by
  refine uk_Meth.of hs (by decide) (Nat.le_of_ble_eq_true rfl) (fun X => ?_)
  have f0 : fk [74, 75, 76] [] u u := fk_rf
  refine g_iload_n dX7_sheet_0 rfl ?_
  refine g_iload_n dX7_sheet_1 rfl ?_
  refine cl_X7_273 (As := [.int k, .int l]) rfl (x_X7_isSheet (G := G) hs hu  k l  (d)) rfl (by omega) rfl (Nat.le_of_ble_eq_true rfl) dX7_sheet_2 (fun r1 u2 q3 => ?_)
  obtain ⟨q3, Eq3⟩ := q3
  obtain ⟨⟨x4, rfl, tx4, nx4, zx4⟩, mq3⟩ := q3
  rw [mq3]
  have ex4 : x4 = (e_X7_isSheet u k l) := ee_v Eq3
  refine g_if_eq (tgt := 14) dX7_sheet_5 (by decide) (fun c5 => ?_) (fun c5 => ?_)
  · have zc5 := zx4 c5
    refine g_iconst (v := (-1)) dX7_sheet_14 (by decide) ?_
    exact g_iret (ty := .int) dX7_sheet_15 rfl rfl ⟨⟨⟨_, rfl, by first | trivial | lia | grind⟩, hu, f0⟩, ee_i (by subst ex4; exact (if_pos c5).trans (rfl))⟩
  · have zc5 := nx4 c5
    refine g_iload_n dX7_sheet_8 rfl ?_
    refine g_bipush (v := 40) dX7_sheet_9 (by decide) ?_
    refine g_icmp_le (tgt := 16) dX7_sheet_11 (by decide) (fun c6 => ?_) (fun c6 => ?_)
    · refine g_iload_n dX7_sheet_16 rfl ?_
      refine g_if_ge (tgt := 23) dX7_sheet_17 (by decide) (fun c7 => ?_) (fun c7 => ?_)
      · refine g_aload_n dX7_sheet_23 rfl ?_
        refine f_X7_51 rfl rfl dX7_sheet_24 ?_
        refine g_iload_n dX7_sheet_27 rfl ?_
        refine g_iload_n dX7_sheet_28 rfl ?_
        have v8 : vp_in k 4 := uk_vin 4 rfl (by first | decide | lia | grind) (by first | decide | lia | grind)
        have b9 := uk_cl v8
        refine g_iast rfl rfl v8 dX7_sheet_29 ?_
        refine g_mem (fun u10 eu10 => ?_)
        have hu10 : iv u10 := by rw [eu10]; exact iv_upF hu (uk_pick1 _ (by omega))
        have fu10 : fk [74, 75, 76] [] u u10 := by rw [eu10]; exact fk_up f0 (by decide) (fun q => absurd q (by decide))
        refine g_aload_n dX7_sheet_30 rfl ?_
        refine f_X7_54 rfl rfl dX7_sheet_31 ?_
        refine g_iload_n dX7_sheet_34 rfl ?_
        refine g_iload_n dX7_sheet_35 rfl ?_
        have v11 : vp_in k 4 := uk_vin 4 rfl (by first | decide | lia | grind) (by first | decide | lia | grind)
        have b12 := uk_cl v11
        refine g_iast rfl rfl v11 dX7_sheet_36 ?_
        refine g_mem (fun u13 eu13 => ?_)
        have hu13 : iv u13 := by rw [eu13]; exact iv_up hu10 (uk_pick1 _ (by omega)) (by first | lia | grind) (by first | lia | grind)
        have fu13 : fk [74, 75, 76] [] u u13 := by rw [eu13]; exact fk_up fu10 (by decide) (fun q => absurd q (by decide))
        refine g_iconst (v := 0) dX7_sheet_37 (by decide) ?_
        refine g_istore dX7_sheet_38 (by decide) ?_
        refine g_pick (lv' := [(0, .ref (uk_ad G 60)), (1, .int k), (2, .int l), (3, .int n), (4, .int 0)]) [0, 1, 2, 3, 4] rfl ?_
        have L40_13 : ∀ i15 : Int32, 0 ≤ i15 → i15 ≤ 40 → ∀ (u16 : uk_Mem), iv u16 → fk [74, 75, 76] [] u u16 → (∃ ki15 : Nat, ee_F 40 i15 ki15 ∧ e_X7_sheet u k l n = l_X7_sheet_40 k ki15 i15 u16) → uk_G G X mX7_sheet (d + 2) (qe_X7_sheet u k l n) 40 [(0, .ref (uk_ad G 60)), (1, .int k), (2, .int l), (3, .int n), (4, .int i15)] [] u16 := by
          refine uk_upl 40 ?_
          intro i15 ai15 bi15 ihi15  u16 hu16 fu16 jEi15
          obtain ⟨ki15, fki15, hki15⟩ := jEi15
          obtain ⟨ki15, rfl⟩ := ee_Fp (by first | assumption | lia | grind) fki15
          refine g_iload dX7_sheet_40 rfl ?_
          refine g_bipush (v := 40) dX7_sheet_42 (by decide) ?_
          refine g_icmp_ge (tgt := 66) dX7_sheet_44 (by decide) (fun c17 => ?_) (fun c17 => ?_)
          · refine g_iconst (v := 1) dX7_sheet_66 (by decide) ?_
            exact g_iret (ty := .int) dX7_sheet_67 rfl rfl ⟨⟨⟨_, rfl, by first | trivial | lia | grind⟩, hu16, fu16⟩, ee_i (by exact hki15.trans ((if_pos c17).trans (rfl)))⟩
          · refine g_aload_n dX7_sheet_47 rfl ?_
            refine f_X7_57 rfl rfl dX7_sheet_48 ?_
            refine g_bipush (v := 40) dX7_sheet_51 (by decide) ?_
            refine g_iload_n dX7_sheet_53 rfl ?_
            refine g_imul dX7_sheet_54 ?_
            refine g_topi (fun x18 ex18 => ?_)
            refine g_iload dX7_sheet_55 rfl ?_
            refine g_iadd dX7_sheet_57 ?_
            refine g_topi (fun x19 ex19 => ?_)
            refine g_iconst (v := 0) dX7_sheet_58 (by decide) ?_
            have v20 : vp_in x19 160 := uk_vin 160 rfl (by first | decide | lia | grind) (by first | decide | lia | grind)
            have b21 := uk_cl v20
            refine g_iast rfl rfl v20 dX7_sheet_59 ?_
            refine g_mem (fun u22 eu22 => ?_)
            have hu22 : iv u22 := by rw [eu22]; exact iv_upF hu16 (uk_pick1 _ (by omega))
            have fu22 : fk [74, 75, 76] [] u u22 := by rw [eu22]; exact fk_up fu16 (by decide) (fun q => absurd q (by decide))
            refine g_iinc (v := i15 + 1) dX7_sheet_60 rfl rfl (by decide) ?_
            refine g_pick (lv' := [(0, .ref (uk_ad G 60)), (1, .int k), (2, .int l), (3, .int n), (4, .int (i15 + 1))]) [0, 1, 2, 3, 4] rfl ?_
            refine g_goto (tgt := 40) dX7_sheet_63 (by decide) ?_
            refine g_pick (lv' := [(0, .ref (uk_ad G 60)), (1, .int k), (2, .int l), (3, .int n), (4, .int (i15 + 1))]) [0, 1, 2, 3, 4] rfl ?_
            exact ihi15 (by first | lia | grind)  u22 hu22 fu22  ⟨ki15, ee_Fs fki15 (by first | assumption | lia | grind), by subst eu22; subst ex19; subst ex18; exact hki15.trans ((if_neg c17).trans (rfl))⟩
        refine g_pick (lv' := [(0, .ref (uk_ad G 60)), (1, .int k), (2, .int l), (3, .int n), (4, .int 0)]) [0, 1, 2, 3, 4] rfl ?_
        exact L40_13 0 (by first | decide | lia | grind) (by first | decide | lia | grind)  u13 hu13 fu13  ⟨ee_K, ee_F0 _ _, by subst eu13; subst eu10; subst ex4; exact (if_neg c5).trans ((if_pos c6).trans ((if_pos c7).trans (rfl)))⟩
      · refine g_bipush (v := (-14)) dX7_sheet_20 (by decide) ?_
        exact g_iret (ty := .int) dX7_sheet_22 rfl rfl ⟨⟨⟨_, rfl, by first | trivial | lia | grind⟩, hu, f0⟩, ee_i (by subst ex4; exact (if_neg c5).trans ((if_pos c6).trans ((if_neg c7).trans (rfl))))⟩
    · refine g_iconst (v := (-1)) dX7_sheet_14 (by decide) ?_
      exact g_iret (ty := .int) dX7_sheet_15 rfl rfl ⟨⟨⟨_, rfl, by first | trivial | lia | grind⟩, hu, f0⟩, ee_i (by subst ex4; exact (if_neg c5).trans ((if_neg c6).trans (rfl)))⟩
def e_X7_lay (u : uk_Mem) (k : Int32) (i : Int32) (v : Int32) : Int32 × uk_Mem := let x4 : Int32 := (e_X7_isSheet u k (0 : Int32)); if x4 = 0 then (((-1 : Int32), u)) else (let x7 : Int32 := u.1 74 k.toNatClampNeg; if x7 = (-4 : Int32) then (((-11 : Int32), u)) else (let x10 : Int32 := u.1 75 k.toNatClampNeg; let x11 : Int32 := x10 - (1 : Int32); let x15 : Int32 := (e_X7_in u i (0 : Int32) x11); if x15 = 0 then (((-12 : Int32), u)) else (let x17 : Int32 := (40 : Int32) * k; let x18 : Int32 := x17 + i; let x20 : Int32 := u.1 74 k.toNatClampNeg; if x20 = 0 then (let x32 : Int32 := v.toInt8.toInt32; let u35 : uk_Mem := uk_up u 76 x18.toNatClampNeg x32; ((1 : Int32), u35)) else (let x23 : Int32 := u.1 74 k.toNatClampNeg; if x23 = (1 : Int32) then (let x28 : Int32 := v.toInt16.toInt32; let u31 : uk_Mem := uk_up u 76 x18.toNatClampNeg x28; ((1 : Int32), u31)) else (let u27 : uk_Mem := uk_up u 76 x18.toNatClampNeg v; ((1 : Int32), u27))))))
abbrev qe_X7_lay (u : uk_Mem) (k : Int32) (i : Int32) (v : Int32) (r : Option Value) (u' : uk_Mem) : Prop := (q_X7_lay u k i v r u') ∧ (r = some (.int (e_X7_lay u k i v).1) ∧ u' = (e_X7_lay u k i v).2)
set_option maxHeartbeats 4000000 in
set_option maxRecDepth 20000 in
theorem x_X7_lay {G : uk_D} (hs : uk_Sep G) {u : uk_Mem} (hu : iv u) (k : Int32) (i : Int32) (v : Int32) (d : Nat) : uk_Meth G (d + 2) mX7_lay [.ref (uk_ad G 60), .int k, .int i, .int v] u (qe_X7_lay u k i v) := by
  refine uk_Meth.of hs (by decide) (Nat.le_of_ble_eq_true rfl) (fun X => ?_)
  have f0 : fk [76] [] u u := fk_rf
  refine g_iload_n dX7_lay_0 rfl ?_
  refine g_iconst (v := 0) dX7_lay_1 (by decide) ?_
  refine cl_X7_273 (As := [.int k, .int 0]) rfl (x_X7_isSheet (G := G) hs hu  k 0  (d)) rfl (by omega) rfl (Nat.le_of_ble_eq_true rfl) dX7_lay_2 (fun r1 u2 q3 => ?_)
  obtain ⟨q3, Eq3⟩ := q3
  obtain ⟨⟨x4, rfl, tx4, nx4, zx4⟩, mq3⟩ := q3
  rw [mq3]
  have ex4 : x4 = (e_X7_isSheet u k (0 : Int32)) := ee_v Eq3
  refine g_if_ne (tgt := 10) dX7_lay_5 (by decide) (fun c5 => ?_) (fun c5 => ?_)
  · have zc5 := nx4 c5
    refine g_aload_n dX7_lay_10 rfl ?_
    refine f_X7_51 rfl rfl dX7_lay_11 ?_
    refine g_iload_n dX7_lay_14 rfl ?_
    have v6 : vp_in k 4 := uk_vin 4 rfl (by first | decide | lia | grind) (by first | decide | lia | grind)
    refine g_iald rfl rfl v6 dX7_lay_15 ?_
    refine g_topi (fun x7 ex7 => ?_)
    refine g_bipush (v := (-4)) dX7_lay_16 (by decide) ?_
    refine g_icmp_ne (tgt := 24) dX7_lay_18 (by decide) (fun c8 => ?_) (fun c8 => ?_)
    · refine g_iload_n dX7_lay_24 rfl ?_
      refine g_i2l dX7_lay_25 ?_
      refine g_lconst (v := 0) dX7_lay_26 (by decide) ?_
      refine g_aload_n dX7_lay_27 rfl ?_
      refine f_X7_54 rfl rfl dX7_lay_28 ?_
      refine g_iload_n dX7_lay_31 rfl ?_
      have v9 : vp_in k 4 := uk_vin 4 rfl (by first | decide | lia | grind) (by first | decide | lia | grind)
      refine g_iald rfl rfl v9 dX7_lay_32 ?_
      refine g_topi (fun x10 ex10 => ?_)
      have bx10 := uk_cl v9
      have rx10 : 0 ≤ x10 ∧ x10 ≤ 40 := by rw [ex10]; exact iv_at hu _ _ (uk_pick1 _ (by omega))
      refine g_iconst (v := 1) dX7_lay_33 (by decide) ?_
      refine g_isub dX7_lay_34 ?_
      refine g_topi (fun x11 ex11 => ?_)
      refine g_i2l dX7_lay_35 ?_
      refine cl_X7_84 (As := [.long i.toInt64, .long 0, .long x11.toInt64]) rfl (x_X7_in (G := G) hs hu  i 0 x11  (d + 1)) rfl (by omega) rfl (Nat.le_of_ble_eq_true rfl) dX7_lay_36 (fun r12 u13 q14 => ?_)
      obtain ⟨q14, Eq14⟩ := q14
      obtain ⟨⟨x15, rfl, tx15, nx15, zx15⟩, mq14⟩ := q14
      rw [mq14]
      have ex15 : x15 = (e_X7_in u i (0 : Int32) x11) := ee_v Eq14
      refine g_if_ne (tgt := 45) dX7_lay_39 (by decide) (fun c16 => ?_) (fun c16 => ?_)
      · have zc16 := nx15 c16
        refine g_aload_n dX7_lay_45 rfl ?_
        refine f_X7_57 rfl rfl dX7_lay_46 ?_
        refine g_bipush (v := 40) dX7_lay_49 (by decide) ?_
        refine g_iload_n dX7_lay_51 rfl ?_
        refine g_imul dX7_lay_52 ?_
        refine g_topi (fun x17 ex17 => ?_)
        refine g_iload_n dX7_lay_53 rfl ?_
        refine g_iadd dX7_lay_54 ?_
        refine g_topi (fun x18 ex18 => ?_)
        refine g_aload_n dX7_lay_55 rfl ?_
        refine f_X7_51 rfl rfl dX7_lay_56 ?_
        refine g_iload_n dX7_lay_59 rfl ?_
        have v19 : vp_in k 4 := uk_vin 4 rfl (by first | decide | lia | grind) (by first | decide | lia | grind)
        refine g_iald rfl rfl v19 dX7_lay_60 ?_
        refine g_topi (fun x20 ex20 => ?_)
        refine g_if_ne (tgt := 69) dX7_lay_61 (by decide) (fun c21 => ?_) (fun c21 => ?_)
        · refine g_aload_n dX7_lay_69 rfl ?_
          refine f_X7_51 rfl rfl dX7_lay_70 ?_
          refine g_iload_n dX7_lay_73 rfl ?_
          have v22 : vp_in k 4 := uk_vin 4 rfl (by first | decide | lia | grind) (by first | decide | lia | grind)
          refine g_iald rfl rfl v22 dX7_lay_74 ?_
          refine g_topi (fun x23 ex23 => ?_)
          refine g_iconst (v := 1) dX7_lay_75 (by decide) ?_
          refine g_icmp_ne (tgt := 84) dX7_lay_76 (by decide) (fun c24 => ?_) (fun c24 => ?_)
          · refine g_iload_n dX7_lay_84 rfl ?_
            have v25 : vp_in x18 160 := uk_vin 160 rfl (by first | decide | lia | grind) (by first | decide | lia | grind)
            have b26 := uk_cl v25
            refine g_iast rfl rfl v25 dX7_lay_85 ?_
            refine g_mem (fun u27 eu27 => ?_)
            have hu27 : iv u27 := by rw [eu27]; exact iv_upF hu (uk_pick1 _ (by omega))
            have fu27 : fk [76] [] u u27 := by rw [eu27]; exact fk_up f0 (by decide) (fun q => absurd q (by decide))
            refine g_iconst (v := 1) dX7_lay_86 (by decide) ?_
            exact g_iret (ty := .int) dX7_lay_87 rfl rfl ⟨⟨⟨_, rfl, by first | trivial | lia | grind⟩, hu27, fu27⟩, ee_i (by subst eu27; subst ex23; subst ex20; subst ex18; subst ex17; subst ex15; subst ex11; subst ex10; subst ex7; subst ex4; exact (if_neg c5).trans ((if_neg c8).trans ((if_neg c16).trans ((if_neg c21).trans ((if_neg c24).trans (rfl))))))⟩
          · refine g_iload_n dX7_lay_79 rfl ?_
            refine g_i2s dX7_lay_80 ?_
            refine g_topi (fun x28 ex28 => ?_)
            refine g_goto (tgt := 85) dX7_lay_81 (by decide) ?_
            have v29 : vp_in x18 160 := uk_vin 160 rfl (by first | decide | lia | grind) (by first | decide | lia | grind)
            have b30 := uk_cl v29
            refine g_iast rfl rfl v29 dX7_lay_85 ?_
            refine g_mem (fun u31 eu31 => ?_)
            have hu31 : iv u31 := by rw [eu31]; exact iv_upF hu (uk_pick1 _ (by omega))
            have fu31 : fk [76] [] u u31 := by rw [eu31]; exact fk_up f0 (by decide) (fun q => absurd q (by decide))
            refine g_iconst (v := 1) dX7_lay_86 (by decide) ?_
            exact g_iret (ty := .int) dX7_lay_87 rfl rfl ⟨⟨⟨_, rfl, by first | trivial | lia | grind⟩, hu31, fu31⟩, ee_i (by subst eu31; subst ex28; subst ex23; subst ex20; subst ex18; subst ex17; subst ex15; subst ex11; subst ex10; subst ex7; subst ex4; exact (if_neg c5).trans ((if_neg c8).trans ((if_neg c16).trans ((if_neg c21).trans ((if_pos c24).trans (rfl))))))⟩
        · refine g_iload_n dX7_lay_64 rfl ?_
          refine g_i2b dX7_lay_65 ?_
          refine g_topi (fun x32 ex32 => ?_)
          refine g_goto (tgt := 85) dX7_lay_66 (by decide) ?_
          have v33 : vp_in x18 160 := uk_vin 160 rfl (by first | decide | lia | grind) (by first | decide | lia | grind)
          have b34 := uk_cl v33
          refine g_iast rfl rfl v33 dX7_lay_85 ?_
          refine g_mem (fun u35 eu35 => ?_)
          have hu35 : iv u35 := by rw [eu35]; exact iv_upF hu (uk_pick1 _ (by omega))
          have fu35 : fk [76] [] u u35 := by rw [eu35]; exact fk_up f0 (by decide) (fun q => absurd q (by decide))
          refine g_iconst (v := 1) dX7_lay_86 (by decide) ?_
          exact g_iret (ty := .int) dX7_lay_87 rfl rfl ⟨⟨⟨_, rfl, by first | trivial | lia | grind⟩, hu35, fu35⟩, ee_i (by subst eu35; subst ex32; subst ex20; subst ex18; subst ex17; subst ex15; subst ex11; subst ex10; subst ex7; subst ex4; exact (if_neg c5).trans ((if_neg c8).trans ((if_neg c16).trans ((if_pos c21).trans (rfl)))))⟩
      · have zc16 := zx15 c16
        refine g_bipush (v := (-12)) dX7_lay_42 (by decide) ?_
        exact g_iret (ty := .int) dX7_lay_44 rfl rfl ⟨⟨⟨_, rfl, by first | trivial | lia | grind⟩, hu, f0⟩, ee_i (by subst ex15; subst ex11; subst ex10; subst ex7; subst ex4; exact (if_neg c5).trans ((if_neg c8).trans ((if_pos c16).trans (rfl))))⟩
    · refine g_bipush (v := (-11)) dX7_lay_21 (by decide) ?_
      exact g_iret (ty := .int) dX7_lay_23 rfl rfl ⟨⟨⟨_, rfl, by first | trivial | lia | grind⟩, hu, f0⟩, ee_i (by subst ex7; subst ex4; exact (if_neg c5).trans ((if_pos c8).trans (rfl)))⟩
  · have zc5 := zx4 c5
    refine g_iconst (v := (-1)) dX7_lay_8 (by decide) ?_
    exact g_iret (ty := .int) dX7_lay_9 rfl rfl ⟨⟨⟨_, rfl, by first | trivial | lia | grind⟩, hu, f0⟩, ee_i (by subst ex4; exact (if_pos c5).trans (rfl))⟩
def e_X7_see (u : uk_Mem) (b : Int32) : Int32 × uk_Mem := let x4 : Int32 := (e_X7_isStuff u b); if x4 = 0 then (((-1 : Int32), u)) else (let x7 : Int32 := u.1 61 (42 : Int32).toNatClampNeg; if x7 = (8 : Int32) then (((-3 : Int32), u)) else (let x10 : Int32 := u.1 61 (42 : Int32).toNatClampNeg; let x11 : Int32 := (43 : Int32) + x10; let u14 : uk_Mem := uk_up u 61 x11.toNatClampNeg b; let x17 : Int32 := u14.1 61 (42 : Int32).toNatClampNeg; let x18 : Int32 := x17 + (1 : Int32); let u21 : uk_Mem := uk_up u14 61 (42 : Int32).toNatClampNeg x18; let x24 : Int32 := u21.1 61 (42 : Int32).toNatClampNeg; (x24, u21)))
abbrev qe_X7_see (u : uk_Mem) (b : Int32) (r : Option Value) (u' : uk_Mem) : Prop := (q_X7_see u b r u') ∧ (r = some (.int (e_X7_see u b).1) ∧ u' = (e_X7_see u b).2)
set_option maxHeartbeats 4000000 in
set_option maxRecDepth 20000 in
theorem x_X7_see {G : uk_D} (hs : uk_Sep G) {u : uk_Mem} (hu : iv u) (hri : ri u) (b : Int32) (d : Nat) : uk_Meth G (d + 2) mX7_see [.ref (uk_ad G 60), .int b] u (qe_X7_see u b) := by
  refine uk_Meth.of hs (by decide) (Nat.le_of_ble_eq_true rfl) (fun X => ?_)
  have f0 : fk [61] [] u u := fk_rf
  have C61 : u.1 61 = u.1 61 := rfl
  refine g_aload_n dX7_see_0 rfl ?_
  refine g_iload_n dX7_see_1 rfl ?_
  refine cl_X7_163 (c := 60) (As := [.int b]) rfl (x_X7_isStuff (G := G) hs hu  b  (d)) rfl (by omega) rfl rfl (Nat.le_of_ble_eq_true rfl) dX7_see_2 (fun r1 u2 q3 => ?_)
  obtain ⟨q3, Eq3⟩ := q3
  obtain ⟨⟨x4, rfl, tx4, nx4, zx4⟩, mq3⟩ := q3
  rw [mq3]
  have ex4 : x4 = (e_X7_isStuff u b) := ee_v Eq3
  refine g_if_ne (tgt := 10) dX7_see_5 (by decide) (fun c5 => ?_) (fun c5 => ?_)
  · have zc5 := nx4 c5
    refine g_aload_n dX7_see_10 rfl ?_
    refine f_X7_7 rfl rfl dX7_see_11 ?_
    refine g_bipush (v := 42) dX7_see_14 (by decide) ?_
    have v6 : vp_in 42 153 := uk_vin 153 rfl (by first | decide | lia | grind) (by first | decide | lia | grind)
    refine g_iald rfl rfl v6 dX7_see_16 ?_
    refine g_topi (fun x7 ex7 => ?_)
    have bx7 := uk_cl v6
    have rx7 : 0 ≤ x7 ∧ x7 ≤ 8 := by rw [ex7]; exact sg_42 hu (by unfold uk_is51; decide)
    have px7 : x7 = (u.1 61) (42 : Int32).toNatClampNeg := ex7.trans (congrFun C61 _)
    refine g_bipush (v := 8) dX7_see_17 (by decide) ?_
    refine g_icmp_ne (tgt := 25) dX7_see_19 (by decide) (fun c8 => ?_) (fun c8 => ?_)
    · refine g_aload_n dX7_see_25 rfl ?_
      refine f_X7_7 rfl rfl dX7_see_26 ?_
      refine g_bipush (v := 43) dX7_see_29 (by decide) ?_
      refine g_aload_n dX7_see_31 rfl ?_
      refine f_X7_7 rfl rfl dX7_see_32 ?_
      refine g_bipush (v := 42) dX7_see_35 (by decide) ?_
      have v9 : vp_in 42 153 := uk_vin 153 rfl (by first | decide | lia | grind) (by first | decide | lia | grind)
      refine g_iald rfl rfl v9 dX7_see_37 ?_
      refine g_topi (fun x10 ex10 => ?_)
      have bx10 := uk_cl v9
      have rx10 : 0 ≤ x10 ∧ x10 ≤ 8 := by rw [ex10]; exact sg_42 hu (by unfold uk_is51; decide)
      have px10 : x10 = (u.1 61) (42 : Int32).toNatClampNeg := ex10.trans (congrFun C61 _)
      refine g_iadd dX7_see_38 ?_
      refine g_topi (fun x11 ex11 => ?_)
      refine g_iload_n dX7_see_39 rfl ?_
      have v12 : vp_in x11 153 := uk_vin 153 rfl (by first | decide | lia | grind) (by first | decide | lia | grind)
      have b13 := uk_cl v12
      refine g_iast rfl rfl v12 dX7_see_40 ?_
      refine g_mem (fun u14 eu14 => ?_)
      have hu14 : iv u14 := by rw [eu14]; exact iv_st hu (by unfold uk_is51; decide) (by first | decide | lia | grind) (by first | decide | lia | grind) (fun q => by first | decide | lia | grind) (fun q => by first | decide | lia | grind) (fun q => by first | decide | lia | grind)
      have fu14 : fk [61] [] u u14 := by rw [eu14]; exact fk_up f0 (by decide) (fun q => absurd q (by decide))
      have riu14 : ri u14 := by rw [eu14]; exact ri_st hri (by first | decide | lia | grind) (by first | decide | lia | grind)
      have C15 : u14.1 61 = (upd (u.1 61) (x11 : Int32).toNatClampNeg b) := by rw [eu14, uk_up_self, C61]
      refine g_aload_n dX7_see_41 rfl ?_
      refine f_X7_7 rfl rfl dX7_see_42 ?_
      refine g_bipush (v := 42) dX7_see_45 (by decide) ?_
      refine g_dup2 dX7_see_47 rfl rfl ?_
      have v16 : vp_in 42 153 := uk_vin 153 rfl (by first | decide | lia | grind) (by first | decide | lia | grind)
      refine g_iald rfl rfl v16 dX7_see_48 ?_
      refine g_topi (fun x17 ex17 => ?_)
      have bx17 := uk_cl v16
      have rx17 : 0 ≤ x17 ∧ x17 ≤ 8 := by rw [ex17]; exact sg_42 hu14 (by unfold uk_is51; decide)
      have px17 : x17 = ((upd (u.1 61) (x11 : Int32).toNatClampNeg b)) (42 : Int32).toNatClampNeg := ex17.trans (congrFun C15 _)
      have yx17 : x17 = x7 := by rw [px17, ex7]; exact upd_ne (by decide) (by lia) (by lia)
      refine g_iconst (v := 1) dX7_see_49 (by decide) ?_
      refine g_iadd dX7_see_50 ?_
      refine g_topi (fun x18 ex18 => ?_)
      have v19 : vp_in 42 153 := uk_vin 153 rfl (by first | decide | lia | grind) (by first | decide | lia | grind)
      have b20 := uk_cl v19
      refine g_iast rfl rfl v19 dX7_see_51 ?_
      refine g_mem (fun u21 eu21 => ?_)
      have hu21 : iv u21 := by rw [eu21]; exact iv_st hu14 (by unfold uk_is51; decide) (by first | decide | lia | grind) (by first | decide | lia | grind) (fun q => by first | decide | lia | grind) (fun q => by first | decide | lia | grind) (fun q => by first | decide | lia | grind)
      have fu21 : fk [61] [] u u21 := by rw [eu21]; exact fk_up fu14 (by decide) (fun q => absurd q (by decide))
      have riu21 : ri u21 := by rw [eu21]; exact ri_st riu14 (by first | decide | lia | grind) (by first | decide | lia | grind)
      have C22 : u21.1 61 = (upd ((upd (u.1 61) (x11 : Int32).toNatClampNeg b)) (42 : Int32).toNatClampNeg x18) := by rw [eu21, uk_up_self, C15]
      refine g_aload_n dX7_see_52 rfl ?_
      refine f_X7_7 rfl rfl dX7_see_53 ?_
      refine g_bipush (v := 42) dX7_see_56 (by decide) ?_
      have v23 : vp_in 42 153 := uk_vin 153 rfl (by first | decide | lia | grind) (by first | decide | lia | grind)
      refine g_iald rfl rfl v23 dX7_see_58 ?_
      refine g_topi (fun x24 ex24 => ?_)
      have bx24 := uk_cl v23
      have rx24 : 0 ≤ x24 ∧ x24 ≤ 8 := by rw [ex24]; exact sg_42 hu21 (by unfold uk_is51; decide)
      have px24 : x24 = ((upd ((upd (u.1 61) (x11 : Int32).toNatClampNeg b)) (42 : Int32).toNatClampNeg x18)) (42 : Int32).toNatClampNeg := ex24.trans (congrFun C22 _)
      exact g_iret (ty := .int) dX7_see_59 rfl rfl ⟨⟨⟨_, rfl, by first | trivial | lia | grind⟩, hu21, fu21, riu21⟩, ee_i (by subst ex24; subst eu21; subst ex18; subst ex17; subst eu14; subst ex11; subst ex10; subst ex7; subst ex4; exact (if_neg c5).trans ((if_neg c8).trans (rfl)))⟩
    · refine g_bipush (v := (-3)) dX7_see_22 (by decide) ?_
      exact g_iret (ty := .int) dX7_see_24 rfl rfl ⟨⟨⟨_, rfl, by first | trivial | lia | grind⟩, hu, f0, hri⟩, ee_i (by subst ex7; subst ex4; exact (if_neg c5).trans ((if_pos c8).trans (rfl)))⟩
  · have zc5 := zx4 c5
    refine g_iconst (v := (-1)) dX7_see_8 (by decide) ?_
    exact g_iret (ty := .int) dX7_see_9 rfl rfl ⟨⟨⟨_, rfl, by first | trivial | lia | grind⟩, hu, f0, hri⟩, ee_i (by subst ex4; exact (if_pos c5).trans (rfl))⟩
def e_X7_forget (u : uk_Mem) (n : Int32) : Int32 × uk_Mem := let x2 : Int32 := u.1 61 (42 : Int32).toNatClampNeg; let x6 : Int32 := (e_X7_in u n (0 : Int32) x2); if x6 = 0 then (((-1 : Int32), u)) else (let x11 : Int32 := (e_X7_becomes u (42 : Int32) n).1; let u9 : uk_Mem := (e_X7_becomes u (42 : Int32) n).2; (x11, u9))
abbrev qe_X7_forget (u : uk_Mem) (n : Int32) (r : Option Value) (u' : uk_Mem) : Prop := (q_X7_forget u n r u') ∧ (r = some (.int (e_X7_forget u n).1) ∧ u' = (e_X7_forget u n).2)
set_option maxHeartbeats 4000000 in
set_option maxRecDepth 20000 in
theorem x_X7_forget {G : uk_D} (hs : uk_Sep G) {u : uk_Mem} (hu : iv u) (hri : ri u) (n : Int32) (d : Nat) : uk_Meth G (d + 1) mX7_forget [.ref (uk_ad G 60), .int n] u (qe_X7_forget u n) := by
  refine uk_Meth.of hs (by decide) (Nat.le_of_ble_eq_true rfl) (fun X => ?_)
  have f0 : fk [61] [] u u := fk_rf
  refine g_iload_n dX7_forget_0 rfl ?_
  refine g_i2l dX7_forget_1 ?_
  refine g_lconst (v := 0) dX7_forget_2 (by decide) ?_
  refine g_aload_n dX7_forget_3 rfl ?_
  refine f_X7_7 rfl rfl dX7_forget_4 ?_
  refine g_bipush (v := 42) dX7_forget_7 (by decide) ?_
  have v1 : vp_in 42 153 := uk_vin 153 rfl (by first | decide | lia | grind) (by first | decide | lia | grind)
  refine g_iald rfl rfl v1 dX7_forget_9 ?_
  refine g_topi (fun x2 ex2 => ?_)
  have bx2 := uk_cl v1
  have rx2 : 0 ≤ x2 ∧ x2 ≤ 8 := by rw [ex2]; exact sg_42 hu (by unfold uk_is51; decide)
  refine g_i2l dX7_forget_10 ?_
  refine cl_X7_84 (As := [.long n.toInt64, .long 0, .long x2.toInt64]) rfl (x_X7_in (G := G) hs hu  n 0 x2  (d)) rfl (by omega) rfl (Nat.le_of_ble_eq_true rfl) dX7_forget_11 (fun r3 u4 q5 => ?_)
  obtain ⟨q5, Eq5⟩ := q5
  obtain ⟨⟨x6, rfl, tx6, nx6, zx6⟩, mq5⟩ := q5
  rw [mq5]
  have ex6 : x6 = (e_X7_in u n (0 : Int32) x2) := ee_v Eq5
  refine g_if_eq (tgt := 27) dX7_forget_14 (by decide) (fun c7 => ?_) (fun c7 => ?_)
  · have zc7 := zx6 c7
    refine g_iconst (v := (-1)) dX7_forget_27 (by decide) ?_
    exact g_iret (ty := .int) dX7_forget_28 rfl rfl ⟨⟨⟨_, rfl, by first | trivial | lia | grind⟩, hu, f0, hri⟩, ee_i (by subst ex6; subst ex2; exact (if_pos c7).trans (rfl))⟩
  · have zc7 := nx6 c7
    refine g_aload_n dX7_forget_17 rfl ?_
    refine g_bipush (v := 42) dX7_forget_18 (by decide) ?_
    refine g_iload_n dX7_forget_20 rfl ?_
    refine cl_X7_175 (c := 60) (As := [.int 42, .int n]) rfl (x_X7_becomes (G := G) hs hu  42 n (by first | trivial | decide | lia | grind) (by first | trivial | decide | lia | grind) (by first | trivial | decide | lia | grind) (by first | trivial | decide | lia | grind) (d)) rfl (by omega) rfl rfl (Nat.le_of_ble_eq_true rfl) dX7_forget_21 (fun r8 u9 q10 => ?_)
    obtain ⟨q10, Eq10⟩ := q10
    obtain ⟨⟨x11, rfl, tx11⟩, mq10⟩ := q10
    obtain ⟨hu9, gu9, xu9⟩ := mq10
    have fu9 : fk [61] [] u u9 := fk_tr f0 gu9 (by decide) (by decide)
    have riu9 : ri u9 := by rw [xu9]; exact ri_st hri (by first | lia | grind) (by first | lia | grind)
    have wu9_60_3 : u9.1 60 3 = u.1 60 3 := fk_at gu9 (by decide)
    have ex11 : x11 = (e_X7_becomes u (42 : Int32) n).1 := ee_v Eq10.1
    have eu9 : u9 = (e_X7_becomes u (42 : Int32) n).2 := Eq10.2
    refine g_goto (tgt := 28) dX7_forget_24 (by decide) ?_
    exact g_iret (ty := .int) dX7_forget_28 rfl rfl ⟨⟨⟨_, rfl, by first | trivial | lia | grind⟩, hu9, fu9, riu9⟩, ee_i (by subst eu9; subst ex11; subst ex6; subst ex2; exact (if_neg c7).trans (rfl))⟩
def e_X7_count (u : uk_Mem) (w : Int32) : Int32 × uk_Mem := let u2 : uk_Mem := e_X7_starts u; if w = 0 then (let x8 : Int32 := (e_X7_allOf u2 (0 : Int32)); (x8, u2)) else (if w = 1 then (let x13 : Int32 := (e_X7_allOf u2 (16 : Int32)); (x13, u2)) else (if w = 2 then (let x16 : Int32 := u2.1 61 (42 : Int32).toNatClampNeg; (x16, u2)) else (if w = 3 then (let x19 : Int32 := u2.1 63 (0 : Int32).toNatClampNeg; let x23 : Int32 := (e_X7_flag u2 x19); let x25 : Int32 := u2.1 63 (1 : Int32).toNatClampNeg; let x29 : Int32 := (e_X7_flag u2 x25); let x30 : Int32 := x23 + x29; (x30, u2)) else (if w = 4 then (let x32 : Int32 := u2.1 60 13; (x32, u2)) else (if w = 5 then (let x36 : Int32 := u2.1 74 (0 : Int32).toNatClampNeg; if x36 = (-4 : Int32) then (((-4 : Int32), u2)) else (let x39 : Int32 := u2.1 75 (0 : Int32).toNatClampNeg; (x39, u2))) else (((-1 : Int32), u2)))))))
abbrev qe_X7_count (u : uk_Mem) (w : Int32) (r : Option Value) (u' : uk_Mem) : Prop := (q_X7_count u w r u') ∧ (r = some (.int (e_X7_count u w).1) ∧ u' = (e_X7_count u w).2)
set_option maxHeartbeats 4000000 in
set_option maxRecDepth 20000 in
theorem x_X7_count {G : uk_D} (hs : uk_Sep G) {u : uk_Mem} (hu : iv u) (hri : ri u) (w : Int32) (d : Nat) : uk_Meth G (d + 1) mX7_count [.ref (uk_ad G 60), .int w] u (qe_X7_count u w) := by
  refine uk_Meth.of hs (by decide) (Nat.le_of_ble_eq_true rfl) (fun X => ?_)
  have f0 : fk [62] [] u u := fk_rf
  refine g_aload_n dX7_count_0 rfl ?_
  refine cl_X7_185 (c := 60) (As := []) rfl (x_X7_starts (G := G) hs hu hri    (d)) rfl (by omega) rfl rfl (Nat.le_of_ble_eq_true rfl) dX7_count_1 (fun r1 u2 q3 => ?_)
  obtain ⟨q3, Eq3⟩ := q3
  obtain ⟨rfl, mq3⟩ := q3
  obtain ⟨hu2, gu2, rau2, ku20⟩ := mq3
  have fu2 : fk [62] [] u u2 := fk_tr f0 gu2 (by decide) (by decide)
  have riu2 : ri u2 := ri_fk hri gu2 (by decide) (by decide) (by decide) (by decide) (by decide)
  have wu2_60_3 : u2.1 60 3 = u.1 60 3 := fk_at gu2 (by decide)
  have eu2 : u2 = e_X7_starts u := Eq3
  refine g_iload_n dX7_count_4 rfl ?_
  by_cases c4 : w = 0
  · refine g_tabIn (off := (39)) (tgt := 44) dX7_count_5 (by rw [c4]; decide) (by rw [c4]; decide) (by rw [c4]; rfl) (by decide) ?_
    refine g_aload_n dX7_count_44 rfl ?_
    refine g_iconst (v := 0) dX7_count_45 (by decide) ?_
    refine cl_X7_258 (c := 60) (As := [.int 0]) rfl (x_X7_allOf (G := G) hs hu2  0 (by first | trivial | decide | lia | grind) (d)) rfl (by omega) rfl rfl (Nat.le_of_ble_eq_true rfl) dX7_count_46 (fun r5 u6 q7 => ?_)
    obtain ⟨q7, Eq7⟩ := q7
    obtain ⟨⟨x8, rfl, tx8⟩, mq7⟩ := q7
    rw [mq7]
    have ex8 : x8 = (e_X7_allOf u2 (0 : Int32)) := ee_v Eq7
    exact g_iret (ty := .int) dX7_count_49 rfl rfl ⟨⟨⟨_, rfl, by first | trivial | lia | grind⟩, hu2, fu2, riu2⟩, ee_i (by subst ex8; subst eu2; exact (if_pos c4).trans (rfl))⟩
  by_cases c9 : w = 1
  · refine g_tabIn (off := (45)) (tgt := 50) dX7_count_5 (by rw [c9]; decide) (by rw [c9]; decide) (by rw [c9]; rfl) (by decide) ?_
    refine g_aload_n dX7_count_50 rfl ?_
    refine g_bipush (v := 16) dX7_count_51 (by decide) ?_
    refine cl_X7_258 (c := 60) (As := [.int 16]) rfl (x_X7_allOf (G := G) hs hu2  16 (by first | trivial | decide | lia | grind) (d)) rfl (by omega) rfl rfl (Nat.le_of_ble_eq_true rfl) dX7_count_53 (fun r10 u11 q12 => ?_)
    obtain ⟨q12, Eq12⟩ := q12
    obtain ⟨⟨x13, rfl, tx13⟩, mq12⟩ := q12
    rw [mq12]
    have ex13 : x13 = (e_X7_allOf u2 (16 : Int32)) := ee_v Eq12
    exact g_iret (ty := .int) dX7_count_56 rfl rfl ⟨⟨⟨_, rfl, by first | trivial | lia | grind⟩, hu2, fu2, riu2⟩, ee_i (by subst ex13; subst eu2; exact (if_neg c4).trans ((if_pos c9).trans (rfl)))⟩
  by_cases c14 : w = 2
  · refine g_tabIn (off := (52)) (tgt := 57) dX7_count_5 (by rw [c14]; decide) (by rw [c14]; decide) (by rw [c14]; rfl) (by decide) ?_
    refine g_aload_n dX7_count_57 rfl ?_
    refine f_X7_7 rfl rfl dX7_count_58 ?_
    refine g_bipush (v := 42) dX7_count_61 (by decide) ?_
    have v15 : vp_in 42 153 := uk_vin 153 rfl (by first | decide | lia | grind) (by first | decide | lia | grind)
    refine g_iald rfl rfl v15 dX7_count_63 ?_
    refine g_topi (fun x16 ex16 => ?_)
    have bx16 := uk_cl v15
    have rx16 : 0 ≤ x16 ∧ x16 ≤ 8 := by rw [ex16]; exact sg_42 hu2 (by unfold uk_is51; decide)
    exact g_iret (ty := .int) dX7_count_64 rfl rfl ⟨⟨⟨_, rfl, by first | trivial | lia | grind⟩, hu2, fu2, riu2⟩, ee_i (by subst ex16; subst eu2; exact (if_neg c4).trans ((if_neg c9).trans ((if_pos c14).trans (rfl))))⟩
  by_cases c17 : w = 3
  · refine g_tabIn (off := (60)) (tgt := 65) dX7_count_5 (by rw [c17]; decide) (by rw [c17]; decide) (by rw [c17]; rfl) (by decide) ?_
    refine g_aload_n dX7_count_65 rfl ?_
    refine f_X7_16 rfl rfl dX7_count_66 ?_
    refine g_iconst (v := 0) dX7_count_69 (by decide) ?_
    have v18 : vp_in 0 2 := uk_vin 2 rfl (by first | decide | lia | grind) (by first | decide | lia | grind)
    refine g_zald rfl rfl v18 dX7_count_70 ?_
    refine g_topi (fun x19 ex19 => ?_)
    have bx19 := uk_cl v18
    have rx19 : 0 ≤ x19 ∧ x19 ≤ 1 := by rw [ex19]; exact iv_at hu2 _ _ (uk_pick1 _ (by omega))
    refine cl_X7_169 (As := [.int x19]) rfl (x_X7_flag (G := G) hs hu2  x19  (d)) rfl (by omega) rfl (Nat.le_of_ble_eq_true rfl) dX7_count_71 (fun r20 u21 q22 => ?_)
    obtain ⟨q22, Eq22⟩ := q22
    obtain ⟨⟨x23, rfl, tx23⟩, mq22⟩ := q22
    rw [mq22]
    have ex23 : x23 = (e_X7_flag u2 x19) := ee_v Eq22
    refine g_aload_n dX7_count_74 rfl ?_
    refine f_X7_16 rfl rfl dX7_count_75 ?_
    refine g_iconst (v := 1) dX7_count_78 (by decide) ?_
    have v24 : vp_in 1 2 := uk_vin 2 rfl (by first | decide | lia | grind) (by first | decide | lia | grind)
    refine g_zald rfl rfl v24 dX7_count_79 ?_
    refine g_topi (fun x25 ex25 => ?_)
    have bx25 := uk_cl v24
    have rx25 : 0 ≤ x25 ∧ x25 ≤ 1 := by rw [ex25]; exact iv_at hu2 _ _ (uk_pick1 _ (by omega))
    refine cl_X7_169 (As := [.int x25]) rfl (x_X7_flag (G := G) hs hu2  x25  (d)) rfl (by omega) rfl (Nat.le_of_ble_eq_true rfl) dX7_count_80 (fun r26 u27 q28 => ?_)
    obtain ⟨q28, Eq28⟩ := q28
    obtain ⟨⟨x29, rfl, tx29⟩, mq28⟩ := q28
    rw [mq28]
    have ex29 : x29 = (e_X7_flag u2 x25) := ee_v Eq28
    refine g_iadd dX7_count_83 ?_
    refine g_topi (fun x30 ex30 => ?_)
    exact g_iret (ty := .int) dX7_count_84 rfl rfl ⟨⟨⟨_, rfl, by first | trivial | lia | grind⟩, hu2, fu2, riu2⟩, ee_i (by subst ex30; subst ex29; subst ex25; subst ex23; subst ex19; subst eu2; exact (if_neg c4).trans ((if_neg c9).trans ((if_neg c14).trans ((if_pos c17).trans (rfl)))))⟩
  by_cases c31 : w = 4
  · refine g_tabIn (off := (80)) (tgt := 85) dX7_count_5 (by rw [c31]; decide) (by rw [c31]; decide) (by rw [c31]; rfl) (by decide) ?_
    refine g_aload_n dX7_count_85 rfl ?_
    refine f_X7_88 rfl rfl dX7_count_86 ?_
    refine g_topi (fun x32 ex32 => ?_)
    have rx32 : 0 ≤ x32 ∧ x32 ≤ 160 := by rw [ex32]; exact iv_at hu2 _ _ rfl
    have s33 : u2.1 60 13 = x32 := ex32.symm
    exact g_iret (ty := .int) dX7_count_89 rfl rfl ⟨⟨⟨_, rfl, by first | trivial | lia | grind⟩, hu2, fu2, riu2⟩, ee_i (by subst ex32; subst eu2; exact (if_neg c4).trans ((if_neg c9).trans ((if_neg c14).trans ((if_neg c17).trans ((if_pos c31).trans (rfl))))))⟩
  by_cases c34 : w = 5
  · refine g_tabIn (off := (85)) (tgt := 90) dX7_count_5 (by rw [c34]; decide) (by rw [c34]; decide) (by rw [c34]; rfl) (by decide) ?_
    refine g_aload_n dX7_count_90 rfl ?_
    refine f_X7_51 rfl rfl dX7_count_91 ?_
    refine g_iconst (v := 0) dX7_count_94 (by decide) ?_
    have v35 : vp_in 0 4 := uk_vin 4 rfl (by first | decide | lia | grind) (by first | decide | lia | grind)
    refine g_iald rfl rfl v35 dX7_count_95 ?_
    refine g_topi (fun x36 ex36 => ?_)
    refine g_bipush (v := (-4)) dX7_count_96 (by decide) ?_
    refine g_icmp_ne (tgt := 106) dX7_count_98 (by decide) (fun c37 => ?_) (fun c37 => ?_)
    · refine g_aload_n dX7_count_106 rfl ?_
      refine f_X7_54 rfl rfl dX7_count_107 ?_
      refine g_iconst (v := 0) dX7_count_110 (by decide) ?_
      have v38 : vp_in 0 4 := uk_vin 4 rfl (by first | decide | lia | grind) (by first | decide | lia | grind)
      refine g_iald rfl rfl v38 dX7_count_111 ?_
      refine g_topi (fun x39 ex39 => ?_)
      have bx39 := uk_cl v38
      have rx39 : 0 ≤ x39 ∧ x39 ≤ 40 := by rw [ex39]; exact iv_at hu2 _ _ (uk_pick1 _ (by omega))
      exact g_iret (ty := .int) dX7_count_112 rfl rfl ⟨⟨⟨_, rfl, by first | trivial | lia | grind⟩, hu2, fu2, riu2⟩, ee_i (by subst ex39; subst ex36; subst eu2; exact (if_neg c4).trans ((if_neg c9).trans ((if_neg c14).trans ((if_neg c17).trans ((if_neg c31).trans ((if_pos c34).trans ((if_neg c37).trans (rfl))))))))⟩
    · refine g_bipush (v := (-4)) dX7_count_101 (by decide) ?_
      refine g_goto (tgt := 112) dX7_count_103 (by decide) ?_
      exact g_iret (ty := .int) dX7_count_112 rfl rfl ⟨⟨⟨_, rfl, by first | trivial | lia | grind⟩, hu2, fu2, riu2⟩, ee_i (by subst ex36; subst eu2; exact (if_neg c4).trans ((if_neg c9).trans ((if_neg c14).trans ((if_neg c17).trans ((if_neg c31).trans ((if_pos c34).trans ((if_pos c37).trans (rfl))))))))⟩
  refine g_tabOut (tgt := 113) dX7_count_5 (uk_swo 0 5 rfl rfl (by first | lia | grind)) (by decide) ?_
  refine g_iconst (v := (-1)) dX7_count_113 (by decide) ?_
  exact g_iret (ty := .int) dX7_count_114 rfl rfl ⟨⟨⟨_, rfl, by first | trivial | lia | grind⟩, hu2, fu2, riu2⟩, ee_i (by subst eu2; exact (if_neg c4).trans ((if_neg c9).trans ((if_neg c14).trans ((if_neg c17).trans ((if_neg c31).trans ((if_neg c34).trans (rfl)))))))⟩
def l_X7_copies_2 (t : Int32) (o : Int32) : Nat → Int32 → uk_Mem → uk_Mem
  | 0, _, u3 => u3
  | K9 + 1, i2, u3 => if (51 : Int32) ≤ i2 then (u3) else (let x5 : Int32 := t + i2; let x6 : Int32 := o + i2; let x8 : Int32 := u3.1 61 x6.toNatClampNeg; let u11 : uk_Mem := uk_up u3 61 x5.toNatClampNeg x8; l_X7_copies_2 t o K9 (i2 + 1) u11)
def e_X7_copies (u : uk_Mem) (t : Int32) (o : Int32) : uk_Mem := l_X7_copies_2 t o ee_K (0 : Int32) u
abbrev qe_X7_copies (u : uk_Mem) (t : Int32) (o : Int32) (r : Option Value) (u' : uk_Mem) : Prop := (q_X7_copies u t o r u') ∧ (u' = e_X7_copies u t o)
set_option maxHeartbeats 4000000 in
set_option maxRecDepth 20000 in
theorem x_X7_copies {G : uk_D} (hs : uk_Sep G) {u : uk_Mem} (hu : iv u) (t : Int32) (o : Int32) (p0 : t = 0 ∨ t = 51 ∨ t = 102) (p1 : o = 0 ∨ o = 51 ∨ o = 102) (p2 : ¬ t = o) (d : Nat) : uk_Meth G d mX7_copies [.ref (uk_ad G 60), .int t, .int o] u (qe_X7_copies u t o) := by
  refine uk_Meth.of hs (by decide) (Nat.le_of_ble_eq_true rfl) (fun X => ?_)
  have f0 : fk [61] [] u u := fk_rf
  refine g_iconst (v := 0) dX7_copies_0 (by decide) ?_
  refine g_istore_n dX7_copies_1 (by decide) ?_
  refine g_pick (lv' := [(0, .ref (uk_ad G 60)), (1, .int t), (2, .int o), (3, .int 0)]) [0, 1, 2, 3] rfl ?_
  have L2_0 : ∀ i2 : Int32, 0 ≤ i2 → i2 ≤ 51 → ∀ (u3 : uk_Mem), iv u3 → fk [61] [] u u3 → cpi (u3.1 61) (u.1 61) t o i2 → (∃ ki2 : Nat, ee_F 51 i2 ki2 ∧ e_X7_copies u t o = l_X7_copies_2 t o ki2 i2 u3) → uk_G G X mX7_copies d (qe_X7_copies u t o) 2 [(0, .ref (uk_ad G 60)), (1, .int t), (2, .int o), (3, .int i2)] [] u3 := by
    refine uk_upl 51 ?_
    intro i2 ai2 bi2 ihi2  u3 hu3 fu3 ji20 jEi2
    obtain ⟨ki2, fki2, hki2⟩ := jEi2
    obtain ⟨ki2, rfl⟩ := ee_Fp (by first | assumption | lia | grind) fki2
    refine g_iload_n dX7_copies_2 rfl ?_
    refine g_bipush (v := 51) dX7_copies_3 (by decide) ?_
    refine g_icmp_ge (tgt := 30) dX7_copies_5 (by decide) (fun c4 => ?_) (fun c4 => ?_)
    · exact g_vret dX7_copies_30 rfl ⟨⟨rfl, hu3, fu3, (by rw [show (51 : Int32) = i2 by lia]; exact ji20)⟩, (by exact hki2.trans ((if_pos c4).trans (rfl)) : e_X7_copies u t o = u3).symm⟩
    · refine g_aload_n dX7_copies_8 rfl ?_
      refine f_X7_7 rfl rfl dX7_copies_9 ?_
      refine g_iload_n dX7_copies_12 rfl ?_
      refine g_iload_n dX7_copies_13 rfl ?_
      refine g_iadd dX7_copies_14 ?_
      refine g_topi (fun x5 ex5 => ?_)
      refine g_aload_n dX7_copies_15 rfl ?_
      refine f_X7_7 rfl rfl dX7_copies_16 ?_
      refine g_iload_n dX7_copies_19 rfl ?_
      refine g_iload_n dX7_copies_20 rfl ?_
      refine g_iadd dX7_copies_21 ?_
      refine g_topi (fun x6 ex6 => ?_)
      have v7 : vp_in x6 153 := uk_vin 153 rfl (by first | decide | lia | grind) (by first | decide | lia | grind)
      refine g_iald rfl rfl v7 dX7_copies_22 ?_
      refine g_topi (fun x8 ex8 => ?_)
      have bx8 := uk_cl v7
      have v9 : vp_in x5 153 := uk_vin 153 rfl (by first | decide | lia | grind) (by first | decide | lia | grind)
      have b10 := uk_cl v9
      refine g_iast rfl rfl v9 dX7_copies_23 ?_
      refine g_mem (fun u11 eu11 => ?_)
      have hu11 : iv u11 := by rw [eu11]; exact iv_img hu3 hu3 p0 p1 (by lia) (by lia) ex5 ex6 ex8
      have fu11 : fk [61] [] u u11 := by rw [eu11]; exact fk_up fu3 (by decide) (fun q => absurd q (by decide))
      refine g_iinc (v := i2 + 1) dX7_copies_24 rfl rfl (by decide) ?_
      refine g_pick (lv' := [(0, .ref (uk_ad G 60)), (1, .int t), (2, .int o), (3, .int (i2 + 1))]) [0, 1, 2, 3] rfl ?_
      refine g_goto (tgt := 2) dX7_copies_27 (by decide) ?_
      refine g_pick (lv' := [(0, .ref (uk_ad G 60)), (1, .int t), (2, .int o), (3, .int (i2 + 1))]) [0, 1, 2, 3] rfl ?_
      exact ihi2 (by first | lia | grind)  u11 hu11 fu11 (by rw [eu11, uk_up_self]; exact cpi_up ji20 (by lia) (by lia) (by grind) (by grind) (by grind) (by grind) ex5 (by grind) (by rw [ex8, ex6])) ⟨ki2, ee_Fs fki2 (by first | assumption | lia | grind), by subst eu11; subst ex8; subst ex6; subst ex5; exact hki2.trans ((if_neg c4).trans (rfl))⟩
  refine g_pick (lv' := [(0, .ref (uk_ad G 60)), (1, .int t), (2, .int o), (3, .int 0)]) [0, 1, 2, 3] rfl ?_
  exact L2_0 0 (by first | decide | lia | grind) (by first | decide | lia | grind)  u hu f0 (cpi_0 (by grind) (by grind)) ⟨ee_K, ee_F0 _ _, by exact rfl⟩
def e_X7_keep (u : uk_Mem) (k : Int32) : Int32 × uk_Mem := let x4 : Int32 := (e_X7_in u k (0 : Int32) (1 : Int32)); if x4 = 0 then (((-1 : Int32), u)) else (let x7 : Int32 := u.1 63 k.toNatClampNeg; let x11 : Int32 := (e_X7_flag u x7); let u14 : uk_Mem := uk_up u 63 k.toNatClampNeg (1 : Int32); let x17 : Int32 := k + (1 : Int32); let x18 : Int32 := (51 : Int32) * x17; let u20 : uk_Mem := e_X7_copies u14 x18 (0 : Int32); (x11, u20))
abbrev qe_X7_keep (u : uk_Mem) (k : Int32) (r : Option Value) (u' : uk_Mem) : Prop := (q_X7_keep u k r u') ∧ (r = some (.int (e_X7_keep u k).1) ∧ u' = (e_X7_keep u k).2)
set_option maxHeartbeats 4000000 in
set_option maxRecDepth 20000 in
theorem x_X7_keep {G : uk_D} (hs : uk_Sep G) {u : uk_Mem} (hu : iv u) (hri : ri u) (k : Int32) (d : Nat) : uk_Meth G (d + 1) mX7_keep [.ref (uk_ad G 60), .int k] u (qe_X7_keep u k) := by
  refine uk_Meth.of hs (by decide) (Nat.le_of_ble_eq_true rfl) (fun X => ?_)
  have f0 : fk [61, 63] [] u u := fk_rf
  have C61 : u.1 61 = u.1 61 := rfl
  have C63 : u.1 63 = u.1 63 := rfl
  refine g_iload_n dX7_keep_0 rfl ?_
  refine g_i2l dX7_keep_1 ?_
  refine g_lconst (v := 0) dX7_keep_2 (by decide) ?_
  refine g_lconst (v := 1) dX7_keep_3 (by decide) ?_
  refine cl_X7_84 (As := [.long k.toInt64, .long 0, .long 1]) rfl (x_X7_in (G := G) hs hu  k 0 1  (d)) rfl (by omega) rfl (Nat.le_of_ble_eq_true rfl) dX7_keep_4 (fun r1 u2 q3 => ?_)
  obtain ⟨q3, Eq3⟩ := q3
  obtain ⟨⟨x4, rfl, tx4, nx4, zx4⟩, mq3⟩ := q3
  rw [mq3]
  have ex4 : x4 = (e_X7_in u k (0 : Int32) (1 : Int32)) := ee_v Eq3
  refine g_if_ne (tgt := 12) dX7_keep_7 (by decide) (fun c5 => ?_) (fun c5 => ?_)
  · have zc5 := nx4 c5
    refine g_aload_n dX7_keep_12 rfl ?_
    refine f_X7_16 rfl rfl dX7_keep_13 ?_
    refine g_iload_n dX7_keep_16 rfl ?_
    have v6 : vp_in k 2 := uk_vin 2 rfl (by first | decide | lia | grind) (by first | decide | lia | grind)
    refine g_zald rfl rfl v6 dX7_keep_17 ?_
    refine g_topi (fun x7 ex7 => ?_)
    have bx7 := uk_cl v6
    have rx7 : 0 ≤ x7 ∧ x7 ≤ 1 := by rw [ex7]; exact iv_at hu _ _ (uk_pick1 _ (by omega))
    have px7 : x7 = (u.1 63) (k : Int32).toNatClampNeg := ex7.trans (congrFun C63 _)
    refine cl_X7_169 (As := [.int x7]) rfl (x_X7_flag (G := G) hs hu  x7  (d)) rfl (by omega) rfl (Nat.le_of_ble_eq_true rfl) dX7_keep_18 (fun r8 u9 q10 => ?_)
    obtain ⟨q10, Eq10⟩ := q10
    obtain ⟨⟨x11, rfl, tx11⟩, mq10⟩ := q10
    rw [mq10]
    have ex11 : x11 = (e_X7_flag u x7) := ee_v Eq10
    refine g_istore_n dX7_keep_21 (by decide) ?_
    refine g_pick (lv' := [(0, .ref (uk_ad G 60)), (1, .int k), (2, .int x11)]) [0, 1, 2] rfl ?_
    refine g_aload_n dX7_keep_22 rfl ?_
    refine f_X7_16 rfl rfl dX7_keep_23 ?_
    refine g_iload_n dX7_keep_26 rfl ?_
    refine g_iconst (v := 1) dX7_keep_27 (by decide) ?_
    have v12 : vp_in k 2 := uk_vin 2 rfl (by first | decide | lia | grind) (by first | decide | lia | grind)
    have b13 := uk_cl v12
    refine g_zast rfl rfl v12 dX7_keep_28 ?_
    rw [show vp_nar .boolean 1 = 1 from rfl]
    refine g_mem (fun u14 eu14 => ?_)
    have hu14 : iv u14 := by rw [eu14]; exact iv_up hu (uk_pick1 _ (by omega)) (by first | lia | grind) (by first | lia | grind)
    have fu14 : fk [61, 63] [] u u14 := by rw [eu14]; exact fk_up f0 (by decide) (fun q => absurd q (by decide))
    have C15 : u14.1 61 = u.1 61 := by rw [eu14]; exact (uk_up_oc (by decide)).trans C61
    have C16 : u14.1 63 = (upd (u.1 63) (k : Int32).toNatClampNeg 1) := by rw [eu14, uk_up_self, C63]
    refine g_aload_n dX7_keep_29 rfl ?_
    refine g_bipush (v := 51) dX7_keep_30 (by decide) ?_
    refine g_iload_n dX7_keep_32 rfl ?_
    refine g_iconst (v := 1) dX7_keep_33 (by decide) ?_
    refine g_iadd dX7_keep_34 ?_
    refine g_topi (fun x17 ex17 => ?_)
    refine g_imul dX7_keep_35 ?_
    refine g_topi (fun x18 ex18 => ?_)
    have nx18 : (k = 0 ∧ x18 = 51) ∨ (k = 1 ∧ x18 = 102) := (show k = 0 ∨ k = 1 by lia).imp (fun q => ⟨q, by rw [ex18, ex17, q]; decide⟩) (fun q => ⟨q, by rw [ex18, ex17, q]; decide⟩)
    refine g_iconst (v := 0) dX7_keep_36 (by decide) ?_
    refine cl_X7_267 (c := 60) (As := [.int x18, .int 0]) rfl (x_X7_copies (G := G) hs hu14  x18 0 (by first | trivial | decide | lia | grind) (by first | trivial | decide | lia | grind) (by first | trivial | decide | lia | grind) (d)) rfl (by omega) rfl rfl (Nat.le_of_ble_eq_true rfl) dX7_keep_37 (fun r19 u20 q21 => ?_)
    obtain ⟨q21, Eq21⟩ := q21
    obtain ⟨rfl, mq21⟩ := q21
    obtain ⟨hu20, gu20, ku200⟩ := mq21
    have fu20 : fk [61, 63] [] u u20 := fk_tr fu14 gu20 (by decide) (by decide)
    have C22 : u20.1 63 = (upd (u.1 63) (k : Int32).toNatClampNeg 1) := (fk_c gu20 (by decide)).trans C16
    have wu20_60_3 : u20.1 60 3 = u14.1 60 3 := fk_at gu20 (by decide)
    have eu20 : u20 = e_X7_copies u14 x18 (0 : Int32) := Eq21
    refine g_iload_n dX7_keep_40 rfl ?_
    exact g_iret (ty := .int) dX7_keep_41 rfl rfl ⟨⟨⟨_, rfl, by first | trivial | lia | grind⟩, hu20, fu20, (ri_keep hri nx18 (fk_at fu20 (by decide)) C22 (fk_c fu20 (by decide)) (fk_c fu20 (by decide)) (by have := ku200; rw [C15] at this; exact this))⟩, ee_i (by subst eu20; subst ex18; subst ex17; subst eu14; subst ex11; subst ex7; subst ex4; exact (if_neg c5).trans (rfl))⟩
  · have zc5 := zx4 c5
    refine g_iconst (v := (-1)) dX7_keep_10 (by decide) ?_
    exact g_iret (ty := .int) dX7_keep_11 rfl rfl ⟨⟨⟨_, rfl, by first | trivial | lia | grind⟩, hu, f0, hri⟩, ee_i (by subst ex4; exact (if_pos c5).trans (rfl))⟩
def e_X7_back (u : uk_Mem) (k : Int32) : Int32 × uk_Mem := let x4 : Int32 := (e_X7_in u k (0 : Int32) (1 : Int32)); if x4 = 0 then (((-1 : Int32), u)) else (let x7 : Int32 := u.1 63 k.toNatClampNeg; if x7 = 0 then (((-2 : Int32), u)) else (let x9 : Int32 := k + (1 : Int32); let x10 : Int32 := (51 : Int32) * x9; let u12 : uk_Mem := e_X7_copies u (0 : Int32) x10; let x15 : Int32 := u12.1 61 (40 : Int32).toNatClampNeg; (x15, u12)))
abbrev qe_X7_back (u : uk_Mem) (k : Int32) (r : Option Value) (u' : uk_Mem) : Prop := (q_X7_back u k r u') ∧ (r = some (.int (e_X7_back u k).1) ∧ u' = (e_X7_back u k).2)
set_option maxHeartbeats 4000000 in
set_option maxRecDepth 20000 in
theorem x_X7_back {G : uk_D} (hs : uk_Sep G) {u : uk_Mem} (hu : iv u) (hri : ri u) (k : Int32) (d : Nat) : uk_Meth G (d + 1) mX7_back [.ref (uk_ad G 60), .int k] u (qe_X7_back u k) := by
  refine uk_Meth.of hs (by decide) (Nat.le_of_ble_eq_true rfl) (fun X => ?_)
  have f0 : fk [61] [] u u := fk_rf
  refine g_iload_n dX7_back_0 rfl ?_
  refine g_i2l dX7_back_1 ?_
  refine g_lconst (v := 0) dX7_back_2 (by decide) ?_
  refine g_lconst (v := 1) dX7_back_3 (by decide) ?_
  refine cl_X7_84 (As := [.long k.toInt64, .long 0, .long 1]) rfl (x_X7_in (G := G) hs hu  k 0 1  (d)) rfl (by omega) rfl (Nat.le_of_ble_eq_true rfl) dX7_back_4 (fun r1 u2 q3 => ?_)
  obtain ⟨q3, Eq3⟩ := q3
  obtain ⟨⟨x4, rfl, tx4, nx4, zx4⟩, mq3⟩ := q3
  rw [mq3]
  have ex4 : x4 = (e_X7_in u k (0 : Int32) (1 : Int32)) := ee_v Eq3
  refine g_if_ne (tgt := 12) dX7_back_7 (by decide) (fun c5 => ?_) (fun c5 => ?_)
  · have zc5 := nx4 c5
    refine g_aload_n dX7_back_12 rfl ?_
    refine f_X7_16 rfl rfl dX7_back_13 ?_
    refine g_iload_n dX7_back_16 rfl ?_
    have v6 : vp_in k 2 := uk_vin 2 rfl (by first | decide | lia | grind) (by first | decide | lia | grind)
    refine g_zald rfl rfl v6 dX7_back_17 ?_
    refine g_topi (fun x7 ex7 => ?_)
    have bx7 := uk_cl v6
    have rx7 : 0 ≤ x7 ∧ x7 ≤ 1 := by rw [ex7]; exact iv_at hu _ _ (uk_pick1 _ (by omega))
    refine g_if_ne (tgt := 24) dX7_back_18 (by decide) (fun c8 => ?_) (fun c8 => ?_)
    · refine g_aload_n dX7_back_24 rfl ?_
      refine g_iconst (v := 0) dX7_back_25 (by decide) ?_
      refine g_bipush (v := 51) dX7_back_26 (by decide) ?_
      refine g_iload_n dX7_back_28 rfl ?_
      refine g_iconst (v := 1) dX7_back_29 (by decide) ?_
      refine g_iadd dX7_back_30 ?_
      refine g_topi (fun x9 ex9 => ?_)
      refine g_imul dX7_back_31 ?_
      refine g_topi (fun x10 ex10 => ?_)
      have nx10 : (k = 0 ∧ x10 = 51) ∨ (k = 1 ∧ x10 = 102) := (show k = 0 ∨ k = 1 by lia).imp (fun q => ⟨q, by rw [ex10, ex9, q]; decide⟩) (fun q => ⟨q, by rw [ex10, ex9, q]; decide⟩)
      refine cl_X7_267 (c := 60) (As := [.int 0, .int x10]) rfl (x_X7_copies (G := G) hs hu  0 x10 (by first | trivial | decide | lia | grind) (by first | trivial | decide | lia | grind) (by first | trivial | decide | lia | grind) (d)) rfl (by omega) rfl rfl (Nat.le_of_ble_eq_true rfl) dX7_back_32 (fun r11 u12 q13 => ?_)
      obtain ⟨q13, Eq13⟩ := q13
      obtain ⟨rfl, mq13⟩ := q13
      obtain ⟨hu12, gu12, ku120⟩ := mq13
      have fu12 : fk [61] [] u u12 := fk_tr f0 gu12 (by decide) (by decide)
      have wu12_60_3 : u12.1 60 3 = u.1 60 3 := fk_at gu12 (by decide)
      have eu12 : u12 = e_X7_copies u (0 : Int32) x10 := Eq13
      refine g_aload_n dX7_back_35 rfl ?_
      refine f_X7_7 rfl rfl dX7_back_36 ?_
      refine g_bipush (v := 40) dX7_back_39 (by decide) ?_
      have v14 : vp_in 40 153 := uk_vin 153 rfl (by first | decide | lia | grind) (by first | decide | lia | grind)
      refine g_iald rfl rfl v14 dX7_back_41 ?_
      refine g_topi (fun x15 ex15 => ?_)
      have bx15 := uk_cl v14
      exact g_iret (ty := .int) dX7_back_42 rfl rfl ⟨⟨⟨_, rfl, by first | trivial | lia | grind⟩, hu12, fu12, (ri_back hri nx10 (by rw [← ex7]; assumption) (fk_at fu12 (by decide)) (fk_c fu12 (by decide)) (fk_c fu12 (by decide)) (fk_c fu12 (by decide)) ku120)⟩, ee_i (by subst ex15; subst eu12; subst ex10; subst ex9; subst ex7; subst ex4; exact (if_neg c5).trans ((if_neg c8).trans (rfl)))⟩
    · refine g_bipush (v := (-2)) dX7_back_21 (by decide) ?_
      exact g_iret (ty := .int) dX7_back_23 rfl rfl ⟨⟨⟨_, rfl, by first | trivial | lia | grind⟩, hu, f0, hri⟩, ee_i (by subst ex7; subst ex4; exact (if_neg c5).trans ((if_pos c8).trans (rfl)))⟩
  · have zc5 := zx4 c5
    refine g_iconst (v := (-1)) dX7_back_10 (by decide) ?_
    exact g_iret (ty := .int) dX7_back_11 rfl rfl ⟨⟨⟨_, rfl, by first | trivial | lia | grind⟩, hu, f0, hri⟩, ee_i (by subst ex4; exact (if_pos c5).trans (rfl))⟩
def l_X7_read_167 (i18 : Int32) : Nat → Int32 → uk_Mem → Int32 × uk_Mem
  | 0, _, u51 => (0, u51)
  | K9 + 1, i50, u51 => if (51 : Int32) ≤ i50 then (let x53 : Int32 := (-20 : Int32) - i18; (x53, u51)) else (let x55 : Int32 := u51.1 77 i50.toNatClampNeg; let u58 : uk_Mem := uk_up u51 61 i50.toNatClampNeg x55; l_X7_read_167 i18 K9 (i50 + 1) u58)
def l_X7_read_62 (n : Int32) (f : Int32) (k : Int32) (l : Int32) : Nat → Int32 → Int32 → Int32 → uk_Mem → Int32 × uk_Mem
  | 0, _, _, _, u19 => (0, u19)
  | K9 + 1, i18, w16, w17, u19 => if n ≤ i18 then (let u21 : uk_Mem := uk_up u19 60 28 w16; (w17, u21)) else (if w16 = 0 then (let y26 : Int64 := (f.toInt64) + (i18.toInt64); let x28 : Int32 := u19.1 74 k.toNatClampNeg; if x28 = (-4 : Int32) then (l_X7_read_62 n f k l K9 (i18 + 1) (1 : Int32) w17 u19) else (let x31 : Int32 := u19.1 74 k.toNatClampNeg; if x31 = l then (if (lg_cmp y26 0) < 0 then (l_X7_read_62 n f k l K9 (i18 + 1) (2 : Int32) w17 u19) else (let x36 : Int32 := u19.1 75 k.toNatClampNeg; if (lg_cmp y26 x36.toInt64) < 0 then (let x39 : Int32 := (40 : Int32) * k; let x40 : Int32 := x39 + f; let x41 : Int32 := x40 + i18; let x43 : Int32 := u19.1 76 x41.toNatClampNeg; let x47 : Int32 := (e_X7_does u19 x43).1; let u45 : uk_Mem := (e_X7_does u19 x43).2; if 0 ≤ x47 then (l_X7_read_62 n f k l K9 (i18 + 1) (0 : Int32) (w17 + 1) u45) else (l_X7_read_167 i18 ee_K (0 : Int32) u45)) else (l_X7_read_62 n f k l K9 (i18 + 1) (2 : Int32) w17 u19))) else (l_X7_read_62 n f k l K9 (i18 + 1) (3 : Int32) w17 u19))) else (let u24 : uk_Mem := uk_up u19 60 28 w16; (w17, u24)))
def l_X7_read_26 (n : Int32) (f : Int32) (k : Int32) (l : Int32) : Nat → Int32 → uk_Mem → Int32 × uk_Mem
  | 0, _, u13 => (0, u13)
  | K9 + 1, i12, u13 => if (51 : Int32) ≤ i12 then (l_X7_read_62 n f k l ee_K (0 : Int32) (0 : Int32) (0 : Int32) u13) else (let x63 : Int32 := u13.1 61 i12.toNatClampNeg; let u66 : uk_Mem := uk_up u13 77 i12.toNatClampNeg x63; l_X7_read_26 n f k l K9 (i12 + 1) u66)
def e_X7_read (u : uk_Mem) (k : Int32) (l : Int32) (f : Int32) (n : Int32) : Int32 × uk_Mem := let x4 : Int32 := (e_X7_isSheet u k l); if x4 = 0 then (((-1 : Int32), u)) else (let x9 : Int32 := (e_X7_in u n (0 : Int32) (20 : Int32)); if x9 = 0 then (((-1 : Int32), u)) else (l_X7_read_26 n f k l ee_K (0 : Int32) u))
abbrev qe_X7_read (u : uk_Mem) (k : Int32) (l : Int32) (f : Int32) (n : Int32) (r : Option Value) (u' : uk_Mem) : Prop := (q_X7_read u k l f n r u') ∧ (r = some (.int (e_X7_read u k l f n).1) ∧ u' = (e_X7_read u k l f n).2)
set_option maxHeartbeats 4000000 in
set_option maxRecDepth 20000 in
theorem x_X7_read {G : uk_D} (hs : uk_Sep G) {u : uk_Mem} (hu : iv u) (hri : ri u) (k : Int32) (l : Int32) (f : Int32) (n : Int32) (d : Nat) : uk_Meth G (d + 4) mX7_read [.ref (uk_ad G 60), .int k, .int l, .int f, .int n] u (qe_X7_read u k l f n) := by
  refine uk_Meth.of hs (by decide) (Nat.le_of_ble_eq_true rfl) (fun X => ?_)
  have f0 : fk [60, 61, 62, 77] [3, 7, 10, 11, 13, 14, 15, 16, 17, 18, 19, 22] u u := fk_rf
  refine g_iload_n dX7_read_0 rfl ?_
  refine g_iload_n dX7_read_1 rfl ?_
  refine cl_X7_273 (As := [.int k, .int l]) rfl (x_X7_isSheet (G := G) hs hu  k l  (d + 2)) rfl (by omega) rfl (Nat.le_of_ble_eq_true rfl) dX7_read_2 (fun r1 u2 q3 => ?_)
  obtain ⟨q3, Eq3⟩ := q3
  obtain ⟨⟨x4, rfl, tx4, nx4, zx4⟩, mq3⟩ := q3
  rw [mq3]
  have ex4 : x4 = (e_X7_isSheet u k l) := ee_v Eq3
  refine g_if_eq (tgt := 21) dX7_read_5 (by decide) (fun c5 => ?_) (fun c5 => ?_)
  · have zc5 := zx4 c5
    refine g_iconst (v := (-1)) dX7_read_21 (by decide) ?_
    exact g_iret (ty := .int) dX7_read_22 rfl rfl ⟨⟨⟨_, rfl, by first | trivial | lia | grind⟩, hu, f0, hri⟩, ee_i (by subst ex4; exact (if_pos c5).trans (rfl))⟩
  · have zc5 := nx4 c5
    refine g_iload dX7_read_8 rfl ?_
    refine g_i2l dX7_read_10 ?_
    refine g_lconst (v := 0) dX7_read_11 (by decide) ?_
    refine g_ldc2 (v := 20) k_X7_276 dX7_read_12 ?_
    refine cl_X7_84 (As := [.long n.toInt64, .long 0, .long 20]) rfl (x_X7_in (G := G) hs hu  n 0 20  (d + 3)) rfl (by omega) rfl (Nat.le_of_ble_eq_true rfl) dX7_read_15 (fun r6 u7 q8 => ?_)
    obtain ⟨q8, Eq8⟩ := q8
    obtain ⟨⟨x9, rfl, tx9, nx9, zx9⟩, mq8⟩ := q8
    rw [mq8]
    have ex9 : x9 = (e_X7_in u n (0 : Int32) (20 : Int32)) := ee_v Eq8
    refine g_if_ne (tgt := 23) dX7_read_18 (by decide) (fun c10 => ?_) (fun c10 => ?_)
    · have zc10 := nx9 c10
      refine g_iconst (v := 0) dX7_read_23 (by decide) ?_
      refine g_istore dX7_read_24 (by decide) ?_
      refine g_pick (lv' := [(0, .ref (uk_ad G 60)), (1, .int k), (2, .int l), (3, .int f), (4, .int n), (5, .int 0)]) [0, 1, 2, 3, 4, 5] rfl ?_
      have L26_10 : ∀ i12 : Int32, 0 ≤ i12 → i12 ≤ 51 → ∀ (u13 : uk_Mem), iv u13 → fk [60, 61, 62, 77] [3, 7, 10, 11, 13, 14, 15, 16, 17, 18, 19, 22] u u13 → ri u13 → cpy (u13.1 77) (u.1 61) i12 → u13.1 61 = u.1 61 → (∃ ki12 : Nat, ee_F 51 i12 ki12 ∧ e_X7_read u k l f n = l_X7_read_26 n f k l ki12 i12 u13) → uk_G G X mX7_read (d + 4) (qe_X7_read u k l f n) 26 [(0, .ref (uk_ad G 60)), (1, .int k), (2, .int l), (3, .int f), (4, .int n), (5, .int i12)] [] u13 := by
        refine uk_upl 51 ?_
        intro i12 ai12 bi12 ihi12  u13 hu13 fu13 riu13 ji120 ji121 jEi12
        obtain ⟨ki12, fki12, hki12⟩ := jEi12
        obtain ⟨ki12, rfl⟩ := ee_Fp (by first | assumption | lia | grind) fki12
        have wu13_60_3 : u13.1 60 3 = u.1 60 3 := fk_at fu13 (by decide)
        refine g_iload dX7_read_26 rfl ?_
        refine g_bipush (v := 51) dX7_read_28 (by decide) ?_
        refine g_icmp_ge (tgt := 53) dX7_read_30 (by decide) (fun c14 => ?_) (fun c14 => ?_)
        · have rhX : rh u13 := rh_of hri (fk_at fu13 (by decide)) (fk_c fu13 (by decide)) (fk_c fu13 (by decide)) (cpy_le ji120 (by lia))
          refine g_iconst (v := 0) dX7_read_53 (by decide) ?_
          refine g_istore dX7_read_54 (by decide) ?_
          refine g_pick (lv' := [(0, .ref (uk_ad G 60)), (1, .int k), (2, .int l), (3, .int f), (4, .int n), (5, .int 0)]) [0, 1, 2, 3, 4, 5] rfl ?_
          refine g_iconst (v := 0) dX7_read_56 (by decide) ?_
          refine g_istore dX7_read_57 (by decide) ?_
          refine g_pick (lv' := [(0, .ref (uk_ad G 60)), (1, .int k), (2, .int l), (3, .int f), (4, .int n), (5, .int 0), (6, .int 0)]) [0, 1, 2, 3, 4, 5, 6] rfl ?_
          refine g_iconst (v := 0) dX7_read_59 (by decide) ?_
          refine g_istore dX7_read_60 (by decide) ?_
          refine g_pick (lv' := [(0, .ref (uk_ad G 60)), (1, .int k), (2, .int l), (3, .int f), (4, .int n), (5, .int 0), (6, .int 0), (7, .int 0)]) [0, 1, 2, 3, 4, 5, 6, 7] rfl ?_
          have L62_14 : ∀ i18 : Int32, 0 ≤ i18 → i18 ≤ 20 → ∀ (w16 : Int32) (w17 : Int32) (u19 : uk_Mem), iv u19 → fk [60, 61, 62, 77] [3, 7, 10, 11, 13, 14, 15, 16, 17, 18, 19, 22] u u19 → ri u19 → rh u19 → (∃ ki18 : Nat, ee_F 20 i18 ki18 ∧ e_X7_read u k l f n = l_X7_read_62 n f k l ki18 i18 w16 w17 u19) → uk_G G X mX7_read (d + 4) (qe_X7_read u k l f n) 62 [(0, .ref (uk_ad G 60)), (1, .int k), (2, .int l), (3, .int f), (4, .int n), (5, .int w16), (6, .int w17), (7, .int i18)] [] u19 := by
            refine uk_upl 20 ?_
            intro i18 ai18 bi18 ihi18 w16 w17 u19 hu19 fu19 riu19 rhu19 jEi18
            obtain ⟨ki18, fki18, hki18⟩ := jEi18
            obtain ⟨ki18, rfl⟩ := ee_Fp (by first | assumption | lia | grind) fki18
            have wu19_60_3 : u19.1 60 3 = u.1 60 3 := fk_at fu19 (by decide)
            refine g_iload dX7_read_62 rfl ?_
            refine g_iload dX7_read_64 rfl ?_
            refine g_icmp_ge (tgt := 209) dX7_read_66 (by decide) (fun c20 => ?_) (fun c20 => ?_)
            · refine g_aload_n dX7_read_209 rfl ?_
              refine g_iload dX7_read_210 rfl ?_
              refine p_X7_281 rfl rfl dX7_read_212 ?_
              refine g_mem (fun u21 eu21 => ?_)
              have hu21 : iv u21 := by rw [eu21]; exact iv_upF hu19 rfl
              have fu21 : fk [60, 61, 62, 77] [3, 7, 10, 11, 13, 14, 15, 16, 17, 18, 19, 22] u u21 := by rw [eu21]; exact fk_up fu19 (by decide) (fun _ => by decide)
              have riu21 : ri u21 := by rw [eu21]; exact ri_1 riu19 (by decide) (fun _ => by decide)
              have rhu21 : rh u21 := by rw [eu21]; exact rh_1 rhu19 (by decide) (fun _ => by decide)
              have s22 : u21.1 60 28 = w16 := by rw [eu21, uk_up_at]; exact if_pos ⟨rfl, rfl⟩
              refine g_iload dX7_read_215 rfl ?_
              exact g_iret (ty := .int) dX7_read_217 rfl rfl ⟨⟨⟨_, rfl, by first | trivial | lia | grind⟩, hu21, fu21, riu21⟩, ee_i (by subst eu21; exact hki18.trans ((if_pos c20).trans (rfl)))⟩
            · refine g_iload dX7_read_69 rfl ?_
              refine g_if_ne (tgt := 209) dX7_read_71 (by decide) (fun c23 => ?_) (fun c23 => ?_)
              · refine g_aload_n dX7_read_209 rfl ?_
                refine g_iload dX7_read_210 rfl ?_
                refine p_X7_281 rfl rfl dX7_read_212 ?_
                refine g_mem (fun u24 eu24 => ?_)
                have hu24 : iv u24 := by rw [eu24]; exact iv_upF hu19 rfl
                have fu24 : fk [60, 61, 62, 77] [3, 7, 10, 11, 13, 14, 15, 16, 17, 18, 19, 22] u u24 := by rw [eu24]; exact fk_up fu19 (by decide) (fun _ => by decide)
                have riu24 : ri u24 := by rw [eu24]; exact ri_1 riu19 (by decide) (fun _ => by decide)
                have rhu24 : rh u24 := by rw [eu24]; exact rh_1 rhu19 (by decide) (fun _ => by decide)
                have s25 : u24.1 60 28 = w16 := by rw [eu24, uk_up_at]; exact if_pos ⟨rfl, rfl⟩
                refine g_iload dX7_read_215 rfl ?_
                exact g_iret (ty := .int) dX7_read_217 rfl rfl ⟨⟨⟨_, rfl, by first | trivial | lia | grind⟩, hu24, fu24, riu24⟩, ee_i (by subst eu24; exact hki18.trans ((if_neg c20).trans ((if_neg c23).trans (rfl))))⟩
              · refine g_iload_n dX7_read_74 rfl ?_
                refine g_i2l dX7_read_75 ?_
                refine g_iload dX7_read_76 rfl ?_
                refine g_i2l dX7_read_78 ?_
                refine g_ladd dX7_read_79 ?_
                refine g_topl (fun y26 ey26 => ?_)
                refine g_lstore dX7_read_80 (by decide) ?_
                refine g_pick (lv' := [(0, .ref (uk_ad G 60)), (1, .int k), (2, .int l), (3, .int f), (4, .int n), (5, .int w16), (6, .int w17), (7, .int i18), (8, .long y26)]) [0, 1, 2, 3, 4, 5, 6, 7, 8] rfl ?_
                refine g_aload_n dX7_read_82 rfl ?_
                refine f_X7_51 rfl rfl dX7_read_83 ?_
                refine g_iload_n dX7_read_86 rfl ?_
                have v27 : vp_in k 4 := uk_vin 4 rfl (by first | decide | lia | grind) (by first | decide | lia | grind)
                refine g_iald rfl rfl v27 dX7_read_87 ?_
                refine g_topi (fun x28 ex28 => ?_)
                refine g_bipush (v := (-4)) dX7_read_88 (by decide) ?_
                refine g_icmp_ne (tgt := 97) dX7_read_90 (by decide) (fun c29 => ?_) (fun c29 => ?_)
                · refine g_aload_n dX7_read_97 rfl ?_
                  refine f_X7_51 rfl rfl dX7_read_98 ?_
                  refine g_iload_n dX7_read_101 rfl ?_
                  have v30 : vp_in k 4 := uk_vin 4 rfl (by first | decide | lia | grind) (by first | decide | lia | grind)
                  refine g_iald rfl rfl v30 dX7_read_102 ?_
                  refine g_topi (fun x31 ex31 => ?_)
                  refine g_iload_n dX7_read_103 rfl ?_
                  refine g_icmp_eq (tgt := 111) dX7_read_104 (by decide) (fun c32 => ?_) (fun c32 => ?_)
                  · refine g_lload dX7_read_111 rfl ?_
                    refine g_lconst (v := 0) dX7_read_113 (by decide) ?_
                    refine g_lcmp dX7_read_114 ?_
                    refine g_if_lt (tgt := 131) dX7_read_115 (by decide) (fun c33 => ?_) (fun c33 => ?_)
                    · refine g_iconst (v := 2) dX7_read_131 (by decide) ?_
                      refine g_goto (tgt := 136) dX7_read_132 (by decide) ?_
                      refine g_istore dX7_read_136 (by decide) ?_
                      refine g_pick (lv' := [(0, .ref (uk_ad G 60)), (1, .int k), (2, .int l), (3, .int f), (4, .int n), (5, .int 2), (6, .int w17), (7, .int i18), (8, .long y26)]) [0, 1, 2, 3, 4, 5, 6, 7, 8] rfl ?_
                      refine g_iload dX7_read_138 rfl ?_
                      refine g_if_ne (tgt := 203) dX7_read_140 (by decide) (fun c34 => ?_) (fun c34 => ?_)
                      · refine g_iinc (v := i18 + 1) dX7_read_203 rfl rfl (by decide) ?_
                        refine g_pick (lv' := [(0, .ref (uk_ad G 60)), (1, .int k), (2, .int l), (3, .int f), (4, .int n), (5, .int 2), (6, .int w17), (7, .int (i18 + 1)), (8, .long y26)]) [0, 1, 2, 3, 4, 5, 6, 7, 8] rfl ?_
                        refine g_goto (tgt := 62) dX7_read_206 (by decide) ?_
                        refine g_pick (lv' := [(0, .ref (uk_ad G 60)), (1, .int k), (2, .int l), (3, .int f), (4, .int n), (5, .int 2), (6, .int w17), (7, .int (i18 + 1))]) [0, 1, 2, 3, 4, 5, 6, 7] rfl ?_
                        exact ihi18 (by first | lia | grind) 2 w17 u19 hu19 fu19 riu19 rhu19  ⟨ki18, ee_Fs fki18 (by first | assumption | lia | grind), by subst ex31; subst ex28; subst ey26; exact hki18.trans ((if_neg c20).trans ((if_pos c23).trans ((if_neg c29).trans ((if_pos c32).trans ((if_pos c33).trans (rfl))))))⟩
                      · exact absurd c34 (by decide)
                    · refine g_lload dX7_read_118 rfl ?_
                      refine g_aload_n dX7_read_120 rfl ?_
                      refine f_X7_54 rfl rfl dX7_read_121 ?_
                      refine g_iload_n dX7_read_124 rfl ?_
                      have v35 : vp_in k 4 := uk_vin 4 rfl (by first | decide | lia | grind) (by first | decide | lia | grind)
                      refine g_iald rfl rfl v35 dX7_read_125 ?_
                      refine g_topi (fun x36 ex36 => ?_)
                      have bx36 := uk_cl v35
                      have rx36 : 0 ≤ x36 ∧ x36 ≤ 40 := by rw [ex36]; exact iv_at hu19 _ _ (uk_pick1 _ (by omega))
                      refine g_i2l dX7_read_126 ?_
                      refine g_lcmp dX7_read_127 ?_
                      refine g_if_lt (tgt := 135) dX7_read_128 (by decide) (fun c37 => ?_) (fun c37 => ?_)
                      · refine g_iconst (v := 0) dX7_read_135 (by decide) ?_
                        refine g_istore dX7_read_136 (by decide) ?_
                        refine g_pick (lv' := [(0, .ref (uk_ad G 60)), (1, .int k), (2, .int l), (3, .int f), (4, .int n), (5, .int 0), (6, .int w17), (7, .int i18), (8, .long y26)]) [0, 1, 2, 3, 4, 5, 6, 7, 8] rfl ?_
                        refine g_iload dX7_read_138 rfl ?_
                        refine g_if_ne (tgt := 203) dX7_read_140 (by decide) (fun c38 => ?_) (fun c38 => ?_)
                        · exact absurd c38 (by decide)
                        · refine g_aload_n dX7_read_143 rfl ?_
                          refine g_aload_n dX7_read_144 rfl ?_
                          refine f_X7_57 rfl rfl dX7_read_145 ?_
                          refine g_bipush (v := 40) dX7_read_148 (by decide) ?_
                          refine g_iload_n dX7_read_150 rfl ?_
                          refine g_imul dX7_read_151 ?_
                          refine g_topi (fun x39 ex39 => ?_)
                          refine g_iload_n dX7_read_152 rfl ?_
                          refine g_iadd dX7_read_153 ?_
                          refine g_topi (fun x40 ex40 => ?_)
                          refine g_iload dX7_read_154 rfl ?_
                          refine g_iadd dX7_read_156 ?_
                          refine g_topi (fun x41 ex41 => ?_)
                          have hixx41 := rd_ix (k := k) (f := f) (i := i18) (s := x36) (by lia) (by lia) (by lia) (by lia) (by lia) ey26 (by assumption) (by assumption) ex39 ex40 ex41
                          have v42 : vp_in x41 160 := uk_vin 160 rfl (by first | decide | lia | grind) (by first | decide | lia | grind)
                          refine g_iald rfl rfl v42 dX7_read_157 ?_
                          refine g_topi (fun x43 ex43 => ?_)
                          refine cl_X7_278 (c := 60) (As := [.int x43]) rfl (x_X7_does (G := G) hs hu19 riu19  x43  (d)) rfl (by omega) rfl rfl (Nat.le_of_ble_eq_true rfl) dX7_read_158 (fun r44 u45 q46 => ?_)
                          obtain ⟨q46, Eq46⟩ := q46
                          obtain ⟨⟨x47, rfl, tx47⟩, mq46⟩ := q46
                          obtain ⟨hu45, gu45, riu45⟩ := mq46
                          have fu45 : fk [60, 61, 62, 77] [3, 7, 10, 11, 13, 14, 15, 16, 17, 18, 19, 22] u u45 := fk_tr fu19 gu45 (by decide) (by decide)
                          have rhu45 : rh u45 := rh_fk rhu19 gu45 (by decide) (by decide) (by decide) (by decide)
                          have wu45_60_3 : u45.1 60 3 = u19.1 60 3 := fk_at gu45 (by decide)
                          have ex47 : x47 = (e_X7_does u19 x43).1 := ee_v Eq46.1
                          have eu45 : u45 = (e_X7_does u19 x43).2 := Eq46.2
                          refine g_if_ge (tgt := 200) dX7_read_161 (by decide) (fun c48 => ?_) (fun c48 => ?_)
                          · refine g_iinc (v := w17 + 1) dX7_read_200 rfl rfl (by decide) ?_
                            refine g_pick (lv' := [(0, .ref (uk_ad G 60)), (1, .int k), (2, .int l), (3, .int f), (4, .int n), (5, .int 0), (6, .int (w17 + 1)), (7, .int i18), (8, .long y26)]) [0, 1, 2, 3, 4, 5, 6, 7, 8] rfl ?_
                            refine g_iinc (v := i18 + 1) dX7_read_203 rfl rfl (by decide) ?_
                            refine g_pick (lv' := [(0, .ref (uk_ad G 60)), (1, .int k), (2, .int l), (3, .int f), (4, .int n), (5, .int 0), (6, .int (w17 + 1)), (7, .int (i18 + 1)), (8, .long y26)]) [0, 1, 2, 3, 4, 5, 6, 7, 8] rfl ?_
                            refine g_goto (tgt := 62) dX7_read_206 (by decide) ?_
                            refine g_pick (lv' := [(0, .ref (uk_ad G 60)), (1, .int k), (2, .int l), (3, .int f), (4, .int n), (5, .int 0), (6, .int (w17 + 1)), (7, .int (i18 + 1))]) [0, 1, 2, 3, 4, 5, 6, 7] rfl ?_
                            exact ihi18 (by first | lia | grind) 0 (w17 + 1) u45 hu45 fu45 riu45 rhu45  ⟨ki18, ee_Fs fki18 (by first | assumption | lia | grind), by subst eu45; subst ex47; subst ex43; subst ex41; subst ex40; subst ex39; subst ex36; subst ex31; subst ex28; subst ey26; exact hki18.trans ((if_neg c20).trans ((if_pos c23).trans ((if_neg c29).trans ((if_pos c32).trans ((if_neg c33).trans ((if_pos c37).trans ((if_pos c48).trans (rfl))))))))⟩
                          · refine g_iconst (v := 0) dX7_read_164 (by decide) ?_
                            refine g_istore dX7_read_165 (by decide) ?_
                            refine g_pick (lv' := [(0, .ref (uk_ad G 60)), (1, .int k), (2, .int l), (3, .int f), (4, .int n), (5, .int 0), (6, .int w17), (7, .int i18), (8, .long y26), (10, .int 0)]) [0, 1, 2, 3, 4, 5, 6, 7, 8, 9] rfl ?_
                            have L167_48 : ∀ i50 : Int32, 0 ≤ i50 → i50 ≤ 51 → ∀ (u51 : uk_Mem), iv u51 → fk [60, 61, 62, 77] [3, 7, 10, 11, 13, 14, 15, 16, 17, 18, 19, 22] u u51 → cpy (u51.1 61) (u45.1 77) i50 → cpx (u51.1 61) (u45.1 61) → u51.1 77 = u45.1 77 → (∃ ki50 : Nat, ee_F 51 i50 ki50 ∧ e_X7_read u k l f n = l_X7_read_167 i18 ki50 i50 u51) → uk_G G X mX7_read (d + 4) (qe_X7_read u k l f n) 167 [(0, .ref (uk_ad G 60)), (1, .int k), (2, .int l), (3, .int f), (4, .int n), (5, .int 0), (6, .int w17), (7, .int i18), (10, .int i50)] [] u51 := by
                              refine uk_upl 51 ?_
                              intro i50 ai50 bi50 ihi50  u51 hu51 fu51 ji500 ji501 ji502 jEi50
                              obtain ⟨ki50, fki50, hki50⟩ := jEi50
                              obtain ⟨ki50, rfl⟩ := ee_Fp (by first | assumption | lia | grind) fki50
                              have wu51_60_3 : u51.1 60 3 = u.1 60 3 := fk_at fu51 (by decide)
                              refine g_iload dX7_read_167 rfl ?_
                              refine g_bipush (v := 51) dX7_read_169 (by decide) ?_
                              refine g_icmp_ge (tgt := 194) dX7_read_171 (by decide) (fun c52 => ?_) (fun c52 => ?_)
                              · refine g_bipush (v := (-20)) dX7_read_194 (by decide) ?_
                                refine g_iload dX7_read_196 rfl ?_
                                refine g_isub dX7_read_198 ?_
                                refine g_topi (fun x53 ex53 => ?_)
                                exact g_iret (ty := .int) dX7_read_199 rfl rfl ⟨⟨⟨_, rfl, by first | trivial | lia | grind⟩, hu51, fu51, (ri_ofh riu45 rhu45 ((fk_at fu51 (by decide)).trans (fk_at fu45 (by decide)).symm) ((fk_c fu51 (by decide)).trans (fk_c fu45 (by decide)).symm) ((fk_c fu51 (by decide)).trans (fk_c fu45 (by decide)).symm) ((fk_c fu51 (by decide)).trans (fk_c fu45 (by decide)).symm) (cpy_le ji500 (by lia)) ji501)⟩, ee_i (by subst ex53; exact hki50.trans ((if_pos c52).trans (rfl)))⟩
                              · refine g_aload_n dX7_read_174 rfl ?_
                                refine f_X7_7 rfl rfl dX7_read_175 ?_
                                refine g_iload dX7_read_178 rfl ?_
                                refine g_aload_n dX7_read_180 rfl ?_
                                refine f_X7_60 rfl rfl dX7_read_181 ?_
                                refine g_iload dX7_read_184 rfl ?_
                                have v54 : vp_in i50 51 := uk_vin 51 rfl (by first | decide | lia | grind) (by first | decide | lia | grind)
                                refine g_iald rfl rfl v54 dX7_read_186 ?_
                                refine g_topi (fun x55 ex55 => ?_)
                                have bx55 := uk_cl v54
                                have v56 : vp_in i50 153 := uk_vin 153 rfl (by first | decide | lia | grind) (by first | decide | lia | grind)
                                have b57 := uk_cl v56
                                refine g_iast rfl rfl v56 dX7_read_187 ?_
                                refine g_mem (fun u58 eu58 => ?_)
                                have hu58 : iv u58 := by rw [eu58]; exact iv_cp hu51 hu51 (by unfold uk_is51; decide) (by unfold uk_is51; decide) (by omega) ex55
                                have fu58 : fk [60, 61, 62, 77] [3, 7, 10, 11, 13, 14, 15, 16, 17, 18, 19, 22] u u58 := by rw [eu58]; exact fk_up fu51 (by decide) (fun q => absurd q (by decide))
                                refine g_iinc (v := i50 + 1) dX7_read_188 rfl rfl (by decide) ?_
                                refine g_pick (lv' := [(0, .ref (uk_ad G 60)), (1, .int k), (2, .int l), (3, .int f), (4, .int n), (5, .int 0), (6, .int w17), (7, .int i18), (10, .int (i50 + 1))]) [0, 1, 2, 3, 4, 5, 6, 7, 8] rfl ?_
                                refine g_goto (tgt := 167) dX7_read_191 (by decide) ?_
                                refine g_pick (lv' := [(0, .ref (uk_ad G 60)), (1, .int k), (2, .int l), (3, .int f), (4, .int n), (5, .int 0), (6, .int w17), (7, .int i18), (10, .int (i50 + 1))]) [0, 1, 2, 3, 4, 5, 6, 7, 8] rfl ?_
                                exact ihi50 (by first | lia | grind)  u58 hu58 fu58 (by rw [eu58, uk_up_self]; exact cpy_up ji500 (by lia) (ex55.trans (congrFun ji502 _))) (by rw [eu58, uk_up_self]; exact cpx_up ji501 (by lia) (by lia)) (by rw [eu58, uk_up_oc (by decide)]; exact ji502) ⟨ki50, ee_Fs fki50 (by first | assumption | lia | grind), by subst eu58; subst ex55; exact hki50.trans ((if_neg c52).trans (rfl))⟩
                            refine g_pick (lv' := [(0, .ref (uk_ad G 60)), (1, .int k), (2, .int l), (3, .int f), (4, .int n), (5, .int 0), (6, .int w17), (7, .int i18), (10, .int 0)]) [0, 1, 2, 3, 4, 5, 6, 7, 9] rfl ?_
                            exact L167_48 0 (by first | decide | lia | grind) (by first | decide | lia | grind)  u45 hu45 fu45 cpy_0 cpx_rf rfl ⟨ee_K, ee_F0 _ _, by subst eu45; subst ex47; subst ex43; subst ex41; subst ex40; subst ex39; subst ex36; subst ex31; subst ex28; subst ey26; exact hki18.trans ((if_neg c20).trans ((if_pos c23).trans ((if_neg c29).trans ((if_pos c32).trans ((if_neg c33).trans ((if_pos c37).trans ((if_neg c48).trans (rfl))))))))⟩
                      · refine g_iconst (v := 2) dX7_read_131 (by decide) ?_
                        refine g_goto (tgt := 136) dX7_read_132 (by decide) ?_
                        refine g_istore dX7_read_136 (by decide) ?_
                        refine g_pick (lv' := [(0, .ref (uk_ad G 60)), (1, .int k), (2, .int l), (3, .int f), (4, .int n), (5, .int 2), (6, .int w17), (7, .int i18), (8, .long y26)]) [0, 1, 2, 3, 4, 5, 6, 7, 8] rfl ?_
                        refine g_iload dX7_read_138 rfl ?_
                        refine g_if_ne (tgt := 203) dX7_read_140 (by decide) (fun c59 => ?_) (fun c59 => ?_)
                        · refine g_iinc (v := i18 + 1) dX7_read_203 rfl rfl (by decide) ?_
                          refine g_pick (lv' := [(0, .ref (uk_ad G 60)), (1, .int k), (2, .int l), (3, .int f), (4, .int n), (5, .int 2), (6, .int w17), (7, .int (i18 + 1)), (8, .long y26)]) [0, 1, 2, 3, 4, 5, 6, 7, 8] rfl ?_
                          refine g_goto (tgt := 62) dX7_read_206 (by decide) ?_
                          refine g_pick (lv' := [(0, .ref (uk_ad G 60)), (1, .int k), (2, .int l), (3, .int f), (4, .int n), (5, .int 2), (6, .int w17), (7, .int (i18 + 1))]) [0, 1, 2, 3, 4, 5, 6, 7] rfl ?_
                          exact ihi18 (by first | lia | grind) 2 w17 u19 hu19 fu19 riu19 rhu19  ⟨ki18, ee_Fs fki18 (by first | assumption | lia | grind), by subst ex36; subst ex31; subst ex28; subst ey26; exact hki18.trans ((if_neg c20).trans ((if_pos c23).trans ((if_neg c29).trans ((if_pos c32).trans ((if_neg c33).trans ((if_neg c37).trans (rfl)))))))⟩
                        · exact absurd c59 (by decide)
                  · refine g_iconst (v := 3) dX7_read_107 (by decide) ?_
                    refine g_goto (tgt := 136) dX7_read_108 (by decide) ?_
                    refine g_istore dX7_read_136 (by decide) ?_
                    refine g_pick (lv' := [(0, .ref (uk_ad G 60)), (1, .int k), (2, .int l), (3, .int f), (4, .int n), (5, .int 3), (6, .int w17), (7, .int i18), (8, .long y26)]) [0, 1, 2, 3, 4, 5, 6, 7, 8] rfl ?_
                    refine g_iload dX7_read_138 rfl ?_
                    refine g_if_ne (tgt := 203) dX7_read_140 (by decide) (fun c60 => ?_) (fun c60 => ?_)
                    · refine g_iinc (v := i18 + 1) dX7_read_203 rfl rfl (by decide) ?_
                      refine g_pick (lv' := [(0, .ref (uk_ad G 60)), (1, .int k), (2, .int l), (3, .int f), (4, .int n), (5, .int 3), (6, .int w17), (7, .int (i18 + 1)), (8, .long y26)]) [0, 1, 2, 3, 4, 5, 6, 7, 8] rfl ?_
                      refine g_goto (tgt := 62) dX7_read_206 (by decide) ?_
                      refine g_pick (lv' := [(0, .ref (uk_ad G 60)), (1, .int k), (2, .int l), (3, .int f), (4, .int n), (5, .int 3), (6, .int w17), (7, .int (i18 + 1))]) [0, 1, 2, 3, 4, 5, 6, 7] rfl ?_
                      exact ihi18 (by first | lia | grind) 3 w17 u19 hu19 fu19 riu19 rhu19  ⟨ki18, ee_Fs fki18 (by first | assumption | lia | grind), by subst ex31; subst ex28; subst ey26; exact hki18.trans ((if_neg c20).trans ((if_pos c23).trans ((if_neg c29).trans ((if_neg c32).trans (rfl)))))⟩
                    · exact absurd c60 (by decide)
                · refine g_iconst (v := 1) dX7_read_93 (by decide) ?_
                  refine g_goto (tgt := 136) dX7_read_94 (by decide) ?_
                  refine g_istore dX7_read_136 (by decide) ?_
                  refine g_pick (lv' := [(0, .ref (uk_ad G 60)), (1, .int k), (2, .int l), (3, .int f), (4, .int n), (5, .int 1), (6, .int w17), (7, .int i18), (8, .long y26)]) [0, 1, 2, 3, 4, 5, 6, 7, 8] rfl ?_
                  refine g_iload dX7_read_138 rfl ?_
                  refine g_if_ne (tgt := 203) dX7_read_140 (by decide) (fun c61 => ?_) (fun c61 => ?_)
                  · refine g_iinc (v := i18 + 1) dX7_read_203 rfl rfl (by decide) ?_
                    refine g_pick (lv' := [(0, .ref (uk_ad G 60)), (1, .int k), (2, .int l), (3, .int f), (4, .int n), (5, .int 1), (6, .int w17), (7, .int (i18 + 1)), (8, .long y26)]) [0, 1, 2, 3, 4, 5, 6, 7, 8] rfl ?_
                    refine g_goto (tgt := 62) dX7_read_206 (by decide) ?_
                    refine g_pick (lv' := [(0, .ref (uk_ad G 60)), (1, .int k), (2, .int l), (3, .int f), (4, .int n), (5, .int 1), (6, .int w17), (7, .int (i18 + 1))]) [0, 1, 2, 3, 4, 5, 6, 7] rfl ?_
                    exact ihi18 (by first | lia | grind) 1 w17 u19 hu19 fu19 riu19 rhu19  ⟨ki18, ee_Fs fki18 (by first | assumption | lia | grind), by subst ex28; subst ey26; exact hki18.trans ((if_neg c20).trans ((if_pos c23).trans ((if_pos c29).trans (rfl))))⟩
                  · exact absurd c61 (by decide)
          refine g_pick (lv' := [(0, .ref (uk_ad G 60)), (1, .int k), (2, .int l), (3, .int f), (4, .int n), (5, .int 0), (6, .int 0), (7, .int 0)]) [0, 1, 2, 3, 4, 5, 6, 7] rfl ?_
          exact L62_14 0 (by first | decide | lia | grind) (by first | decide | lia | grind) 0 0 u13 hu13 fu13 riu13 rhX  ⟨ee_K, ee_F0 _ _, by exact hki12.trans ((if_pos c14).trans (rfl))⟩
        · refine g_aload_n dX7_read_33 rfl ?_
          refine f_X7_60 rfl rfl dX7_read_34 ?_
          refine g_iload dX7_read_37 rfl ?_
          refine g_aload_n dX7_read_39 rfl ?_
          refine f_X7_7 rfl rfl dX7_read_40 ?_
          refine g_iload dX7_read_43 rfl ?_
          have v62 : vp_in i12 153 := uk_vin 153 rfl (by first | decide | lia | grind) (by first | decide | lia | grind)
          refine g_iald rfl rfl v62 dX7_read_45 ?_
          refine g_topi (fun x63 ex63 => ?_)
          have bx63 := uk_cl v62
          have v64 : vp_in i12 51 := uk_vin 51 rfl (by first | decide | lia | grind) (by first | decide | lia | grind)
          have b65 := uk_cl v64
          refine g_iast rfl rfl v64 dX7_read_46 ?_
          refine g_mem (fun u66 eu66 => ?_)
          have hu66 : iv u66 := by rw [eu66]; exact iv_cp hu13 hu13 (by unfold uk_is51; decide) (by unfold uk_is51; decide) (by omega) ex63
          have fu66 : fk [60, 61, 62, 77] [3, 7, 10, 11, 13, 14, 15, 16, 17, 18, 19, 22] u u66 := by rw [eu66]; exact fk_up fu13 (by decide) (fun q => absurd q (by decide))
          have riu66 : ri u66 := by rw [eu66]; exact ri_1 riu13 (by decide) (fun q => absurd q (by decide))
          refine g_iinc (v := i12 + 1) dX7_read_47 rfl rfl (by decide) ?_
          refine g_pick (lv' := [(0, .ref (uk_ad G 60)), (1, .int k), (2, .int l), (3, .int f), (4, .int n), (5, .int (i12 + 1))]) [0, 1, 2, 3, 4, 5] rfl ?_
          refine g_goto (tgt := 26) dX7_read_50 (by decide) ?_
          refine g_pick (lv' := [(0, .ref (uk_ad G 60)), (1, .int k), (2, .int l), (3, .int f), (4, .int n), (5, .int (i12 + 1))]) [0, 1, 2, 3, 4, 5] rfl ?_
          exact ihi12 (by first | lia | grind)  u66 hu66 fu66 riu66 (by rw [eu66, uk_up_self]; exact cpy_up ji120 (by lia) (ex63.trans (congrFun ji121 _))) (by rw [eu66, uk_up_oc (by decide)]; exact ji121) ⟨ki12, ee_Fs fki12 (by first | assumption | lia | grind), by subst eu66; subst ex63; exact hki12.trans ((if_neg c14).trans (rfl))⟩
      refine g_pick (lv' := [(0, .ref (uk_ad G 60)), (1, .int k), (2, .int l), (3, .int f), (4, .int n), (5, .int 0)]) [0, 1, 2, 3, 4, 5] rfl ?_
      exact L26_10 0 (by first | decide | lia | grind) (by first | decide | lia | grind)  u hu f0 hri cpy_0 rfl ⟨ee_K, ee_F0 _ _, by subst ex9; subst ex4; exact (if_neg c5).trans ((if_neg c10).trans (rfl))⟩
    · have zc10 := zx9 c10
      refine g_iconst (v := (-1)) dX7_read_21 (by decide) ?_
      exact g_iret (ty := .int) dX7_read_22 rfl rfl ⟨⟨⟨_, rfl, by first | trivial | lia | grind⟩, hu, f0, hri⟩, ee_i (by subst ex9; subst ex4; exact (if_neg c5).trans ((if_pos c10).trans (rfl)))⟩
def e_X7_torn (u : uk_Mem) : Int32 := let x1 : Int32 := u.1 60 28; x1
abbrev qe_X7_torn (u : uk_Mem)  (r : Option Value) (u' : uk_Mem) : Prop := (q_X7_torn u r u') ∧ (r = some (.int (e_X7_torn u)))
set_option maxHeartbeats 4000000 in
set_option maxRecDepth 20000 in
theorem x_X7_torn {G : uk_D} (hs : uk_Sep G) {u : uk_Mem} (hu : iv u)  (d : Nat) : uk_Meth G d mX7_torn [.ref (uk_ad G 60)] u (qe_X7_torn u) := by
  refine uk_Meth.of hs (by decide) (Nat.le_of_ble_eq_true rfl) (fun X => ?_)
  refine g_aload_n dX7_torn_0 rfl ?_
  refine f_X7_281 rfl rfl dX7_torn_1 ?_
  refine g_topi (fun x1 ex1 => ?_)
  have s2 : u.1 60 28 = x1 := ex1.symm
  exact g_iret (ty := .int) dX7_torn_4 rfl rfl ⟨⟨⟨_, rfl, by first | trivial | lia | grind⟩, rfl⟩, ee_p (by subst ex1; exact rfl)⟩
/-! does, and the calls that change one number -/
theorem starts_o {u : uk_Mem} {j : Nat} (h : 51 ≤ j) : (e_X7_starts u).1 62 j = u.1 62 j := ((starts_l ee_K 0 u (ee_F0 _ _) (by decide) (by decide)).2.2 j).trans (if_neg (by omega))
theorem iv_starts {v : uk_Mem} (hv : iv v) : iv (e_X7_starts v) := fun c i => by
  by_cases hc : c = 62
  · subst hc
    by_cases hi : i < 51
    · rw [starts_j hi, sg_t5 i hi]
      exact hv 61 i
    · rw [starts_o (by omega)]
      exact hv 62 i
  · rw [starts_c hc]
    exact hv c i
theorem ra_starts {v : uk_Mem} (hri : ri v) : ra (e_X7_starts v) := ra_of hri (by rw [starts_c (by decide)]) (starts_c (by decide)) (starts_c (by decide)) (fun i i0 i1 => starts_j (by have := uk_cln 50 50 rfl i0 (by lia); omega))
theorem hasStuff_e {u v : uk_Mem} {b : Nat} {m : Int32} (k0 : u.1 b 0 = v.1 60 3) (hn : 0 ≤ v.1 60 3 ∧ v.1 60 3 ≤ 8) : e_X0_hasStuff u b m = e_X7_isStuff v m := by
  unfold e_X0_hasStuff e_X7_isStuff e_X7_in
  dsimp only
  rw [k0]
  generalize v.1 60 3 = n at *
  grind
theorem isStuff_n {v : uk_Mem} {m : Int32} (hn : 0 ≤ v.1 60 3 ∧ v.1 60 3 ≤ 8) (h : ¬ e_X7_isStuff v m = 0) : 0 ≤ m ∧ m < v.1 60 3 := by
  unfold e_X7_isStuff e_X7_in at h
  dsimp only at h
  generalize v.1 60 3 = n at *
  grind
theorem hasDoing_e {u v : uk_Mem} {b : Nat} {g : Int32} (k0 : u.1 b 0 = v.1 60 3) (hn : 0 ≤ v.1 60 3 ∧ v.1 60 3 ≤ 8) : e_X0_hasDoing u b g = e_X7_isDoing v g := by
  rw [isDoing_e hn]
  unfold e_X0_hasDoing e_X0_hasStuff e_X6_stuffOf
  dsimp only
  rw [k0]
  generalize v.1 60 3 = n at *
  grind
theorem canCook_k {v : uk_Mem} {m : Int32} (h : ¬ e_X7_canCook v m = 0) (h0 : 0 ≤ m) (h7 : m ≤ 7) : ¬ v.1 62 (m.toNatClampNeg + 32) = 4 := fun q => h (by
  unfold e_X7_canCook
  dsimp only
  rw [ix_32 h0 h7, if_pos q])
theorem canTurn_k {v : uk_Mem} {m : Int32} (h : ¬ e_X7_canTurn v m = 0) (h0 : 0 ≤ m) (h7 : m ≤ 7) : ¬ v.1 62 (m.toNatClampNeg + 32) = 4 := fun q => h (by
  unfold e_X7_canTurn
  dsimp only
  rw [ix_32 h0 h7, if_pos q])
theorem doIt_c {v : uk_Mem} {g : Int32} {d : Nat} (hd : ¬ d = 62) : (e_X7_doIt v g).1 d = v.1 d := by
  unfold e_X7_doIt
  split
  · exact da_c hd
  · exact db_c hd
/-- a doing that can be done, in a kitchen and in the reference's own row -/
theorem KR_do {u v : uk_Mem} {b : Nat} {g : Int32} (hv : iv v) (hra : ra v) (hK : KR u v b 62 0) (hd : ¬ e_X7_isDoing v g = 0) (hc : ¬ e_X7_canDo v g = 0) : KR (e_X0_perform u b g) (e_X7_doIt v g) b 62 0 := by
  have hn : 0 ≤ v.1 60 3 ∧ v.1 60 3 ≤ 8 := iv_at hv 60 3 rfl
  have hdo : (0 ≤ g ∧ g < v.1 60 3) ∨ (10 ≤ g ∧ g - 10 < v.1 60 3) := Classical.byContradiction fun q => hd (by rw [isDoing_e hn, if_neg q])
  unfold e_X7_canDo at hc
  dsimp only at hc
  rcases hdo with q | q
  · rw [if_neg (by lia)] at hc
    exact KR_cook hv hra hK q.1 q.2 (canCook_k hc q.1 (by lia))
  · rw [if_pos q.1] at hc
    exact KR_turn hv hra hK q.1 q.2 (canTurn_k hc (by lia) (by lia))
theorem does_e {u v : uk_Mem} {g : Int32} (hv : iv v) (hri : ri v) (hK : KR u v 13 61 0) : (e_X6_does u g).1 = (e_X7_does v g).1 ∧ KR (e_X6_does u g).2 (e_X7_does v g).2 13 61 0 := by
  have hn : 0 ≤ v.1 60 3 ∧ v.1 60 3 ≤ 8 := iv_at hv 60 3 rfl
  have s8 : v.1 61 42 ≤ 8 := (sg_42 hv (c := 61) (by unfold uk_is51; decide)).2
  have hv7 := iv_starts hv
  have hra7 := ra_starts hri
  have n60 : (e_X7_starts v).1 60 3 = v.1 60 3 := by rw [starts_c (by decide)]
  have K7 : KR u (e_X7_starts v) 13 62 0 := KR_row hK hn.2 s8 n60 (fun j hj => starts_j hj) (starts_c (by decide)) (starts_c (by decide))
  have hd7 : e_X7_isDoing (e_X7_starts v) g = e_X7_isDoing v g := by rw [isDoing_e hn, isDoing_e (by rw [n60]; exact hn), n60]
  unfold e_X6_does e_X7_does
  dsimp only
  rw [hasDoing_e hK.1 hn]
  by_cases h1 : e_X7_isDoing v g = 0
  · rw [if_pos h1, if_pos h1]
    exact ⟨rfl, hK⟩
  · rw [if_neg h1, if_neg h1]
    have ha := able_e hv7 hra7 K7 (g := g)
    rw [hd7, if_neg h1] at ha
    rw [ha]
    by_cases h2 : e_X7_canDo (e_X7_starts v) g = 0
    · rw [if_pos h2, if_pos h2]
      exact ⟨rfl, KR_cg hK (fun _ _ _ => rfl) n60 (starts_c (by decide)) (starts_c (by decide)) (starts_c (by decide))⟩
    · rw [if_neg h2, if_neg h2]
      have K8 := KR_do hv7 hra7 K7 (by rw [hd7]; exact h1) h2
      have c60 : (e_X7_doIt (e_X7_starts v) g).1 60 3 = v.1 60 3 := by rw [doIt_c (by decide), n60]
      have p9 : (e_X0_perform u 13 g).1 13 9 = u.1 13 9 := by
        by_cases q : g < 10
        · rw [pf_lo q, if_neg (by omega), mc_c (by omega)]
        · rw [pf_hi q, if_neg (by omega), fh_c (by omega), mt_c (by omega)]
      have c42 : (e_X7_doIt (e_X7_starts v) g).1 62 (0 + 42) ≤ 8 := by rw [← K8.2.1, p9, hK.2.1]; exact s8
      have K9 : KR (e_X0_perform u 13 g) (e_X7_ends (e_X7_doIt (e_X7_starts v) g)) 13 61 0 := KR_row K8 (by rw [c60]; exact hn.2) c42 (by rw [ends_c (by decide)]) (fun j hj => ends_j hj) (ends_c (by decide)) (ends_c (by decide))
      refine ⟨?_, K9⟩
      have hdo : (0 ≤ g ∧ g < v.1 60 3) ∨ (10 ≤ g ∧ g - 10 < v.1 60 3) := Classical.byContradiction fun q => h1 (by rw [isDoing_e hn, if_neg q])
      have e60 : (e_X7_ends (e_X7_doIt (e_X7_starts v) g)).1 60 3 = v.1 60 3 := by rw [ends_c (by decide), c60]
      dsimp only
      rcases hdo with q | q
      · rw [show ∀ w, e_X6_stuffOf w g = g from fun w => if_pos (by lia), rm_lo q.1 (by lia), ix_0]
        exact (K9.2.2.2.2.1 g.toNatClampNeg (by rw [e60]; exact uk_cll q.1 q.2)).2.2.1
      · rw [show ∀ w, e_X6_stuffOf w g = g - 10 from fun w => if_neg (by lia), rm_hi q.1 (by lia), ix_0]
        exact (K9.2.2.2.2.1 (g - 10).toNatClampNeg (by rw [e60]; exact uk_cll (by lia) q.2)).2.2.1
theorem KR_p {u v : uk_Mem} {i : Nat} {x : Int32} (hK : KR u v 13 61 0) (n8 : (v.1 60 3).toNatClampNeg ≤ 8) (s8 : (v.1 61 42).toNatClampNeg ≤ 8) (hi : i < 8) : KR (uk_up u 19 i x) (uk_up v 61 i x) 13 61 0 := by
  obtain ⟨k0, k9, k10, k11, kj, ks⟩ := hK
  have er : ∀ j, 8 ≤ j → (uk_up v 61 i x).1 61 j = v.1 61 j := fun j hj => by rw [uk_up_at, if_neg (by omega)]
  refine ⟨by rw [uk_up_oc (by decide), uk_up_oc (by decide)]; exact k0, by rw [uk_up_oc (by decide), er _ (by omega)]; exact k9, by rw [uk_up_oc (by decide), er _ (by omega)]; exact k10, by rw [uk_up_oc (by decide), er _ (by omega)]; exact k11, fun j hj => ?_, fun j hj => ?_⟩
  · rw [uk_up_oc (by decide)] at hj
    obtain ⟨j1, j2, j3, j4, j5, j6⟩ := kj j hj
    unfold KJ
    rw [er (j + (0 + 32)) (by omega), er (j + (0 + 16)) (by omega), er (j + (0 + 8)) (by omega), er (j + (0 + 24)) (by omega), uk_up_oc (b := 13 + 1) (by decide), uk_up_oc (b := 13 + 2) (by decide), uk_up_oc (b := 13 + 3) (by decide), uk_up_oc (b := 13 + 4) (by decide), uk_up_oc (b := 13 + 5) (by decide), uk_up_oc (b := 13 + 7) (by decide), uk_up_oc (b := 64) (by decide), uk_up_oc (b := 65) (by decide)]
    refine ⟨j1, j2, ?_, j4, j5, j6⟩
    rw [uk_up_at, uk_up_at]
    simp only [Nat.add_zero, Nat.reduceAdd, true_and]
    simp only [Nat.add_zero, Nat.reduceAdd] at j3
    rw [j3]
  · rw [er _ (by omega)] at hj
    rw [uk_up_oc (by decide), er _ (by omega)]
    exact ks j hj
theorem fill_e {u v : uk_Mem} {m n : Int32} (hv : iv v) (hK : KR u v 13 61 0) : (e_X6_fill u m n).1 = (e_X7_fill v m n).1 ∧ KR (e_X6_fill u m n).2 (e_X7_fill v m n).2 13 61 0 := by
  have hn : 0 ≤ v.1 60 3 ∧ v.1 60 3 ≤ 8 := iv_at hv 60 3 rfl
  have n8 := uk_cln 8 8 rfl hn.1 hn.2
  have s := sg_42 hv (c := 61) (by unfold uk_is51; decide)
  have s8 := uk_cln 8 8 rfl s.1 s.2
  unfold e_X6_fill e_X7_fill e_X7_becomes
  dsimp only
  rw [hasStuff_e hK.1 hn, ix_0]
  by_cases h1 : e_X7_isStuff v m = 0
  · rw [if_pos h1, if_pos h1]
    exact ⟨rfl, hK⟩
  · rw [if_neg h1, if_neg h1]
    have hm := isStuff_n hn h1
    have hl := uk_cll hm.1 hm.2
    by_cases h2 : 0 ≤ n ∧ n ≤ 40
    · rw [if_neg (by lia), if_pos h2.2, show e_X7_in v n 0 40 = 1 from if_pos h2, if_neg (by decide)]
      exact ⟨(hK.2.2.2.2.1 _ hl).2.2.1, KR_p hK n8 s8 (by omega)⟩
    · rw [show e_X7_in v n 0 40 = 0 from if_neg h2, if_pos rfl]
      by_cases h3 : n < 0
      · rw [if_pos h3]
        exact ⟨rfl, hK⟩
      · rw [if_neg h3, if_neg (by lia)]
        exact ⟨rfl, hK⟩
