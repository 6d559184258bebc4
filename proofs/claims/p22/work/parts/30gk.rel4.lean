/-! what is done and undone; a search leaves the kitchen -/
theorem un_lo {w : uk_Mem} {b : Nat} {g : Int32} (hg : g < 10) (d j : Nat) : (e_X0_undo w b g).1 d j = if d = b ∧ j = 11 then w.1 b 11 - 1 else (e_X0_moveCooked w b g (-1)).1 d j := by
  unfold e_X0_undo
  rw [show e_X6_stuffOf w g = g from if_pos hg]
  dsimp only
  rw [if_pos hg, uk_up_at, mc_c (by omega)]
theorem un_hi {w : uk_Mem} {b : Nat} {g : Int32} (hg : ¬ g < 10) (d j : Nat) : (e_X0_undo w b g).1 d j = if d = b ∧ j = 11 then w.1 b 11 - 1 else (e_X0_moveTurned (e_X0_flipHalf w b (g - 10)) b (g - 10) (-1)).1 d j := by
  unfold e_X0_undo
  rw [show e_X6_stuffOf w g = g - 10 from if_neg hg]
  dsimp only
  rw [if_neg hg, uk_up_at, mt_c (by omega), fh_c (by omega)]
theorem pf_o {u : uk_Mem} {b d : Nat} {g : Int32} (h : d < b ∨ b + 8 < d) : (e_X0_perform u b g).1 d = u.1 d := funext fun j => by
  by_cases q : g < 10
  · rw [pf_lo q, if_neg (by omega), mc_c (by omega)]
  · rw [pf_hi q, if_neg (by omega), fh_c (by omega), mt_c (by omega)]
theorem un_o {u : uk_Mem} {b d : Nat} {g : Int32} (h : d < b ∨ b + 8 < d) : (e_X0_undo u b g).1 d = u.1 d := funext fun j => by
  by_cases q : g < 10
  · rw [un_lo q, if_neg (by omega), mc_c (by omega)]
  · rw [un_hi q, if_neg (by omega), mt_c (by omega), fh_c (by omega)]
theorem un_do {u w : uk_Mem} {b : Nat} {g : Int32} (hw : ∀ d, b ≤ d → d ≤ b + 8 → w.1 d = (e_X0_perform u b g).1 d) (d : Nat) (h1 : b ≤ d) (h2 : d ≤ b + 8) : (e_X0_undo w b g).1 d = u.1 d := funext fun j => by
  have hj : ∀ d j, b ≤ d → d ≤ b + 8 → w.1 d j = (e_X0_perform u b g).1 d j := fun d j a c => by rw [hw d a c]
  by_cases q : g < 10
  · have hp := pf_lo (u := u) (b := b) q
    rw [un_lo q]
    by_cases e : d = b ∧ j = 11
    · rw [if_pos e, hj b 11 (by omega) (by omega), hp, if_pos ⟨rfl, rfl⟩, e.1, e.2]
      grind
    · rw [if_neg e]
      by_cases e6 : d = b + 6
      · subst e6
        have w2 : w.1 (b + 2) = u.1 (b + 2) := funext fun j => by rw [hj _ _ (by omega) (by omega), hp, if_neg (by omega), mc_c (by omega)]
        have w3 : w.1 (b + 3) = u.1 (b + 3) := funext fun j => by rw [hj _ _ (by omega) (by omega), hp, if_neg (by omega), mc_c (by omega)]
        rw [mc_j, w2, w3, hj (b + 6) j (by omega) (by omega), hp, if_neg (show ¬ (b + 6 = b ∧ j = 11) by omega), mc_j]
        generalize (u.1 (b + 2) g.toNatClampNeg).toNatClampNeg = A
        generalize (u.1 (b + 3) g.toNatClampNeg).toNatClampNeg = B
        generalize g.toNatClampNeg = M
        grind
      · rw [mc_c e6, hj d j h1 h2, hp, if_neg e, mc_c e6]
  · have hp := pf_hi (u := u) (b := b) q
    rw [un_hi q]
    generalize g - 10 = m at *
    have w1 : w.1 (b + 1) = u.1 (b + 1) := funext fun j => by rw [hj _ _ (by omega) (by omega), hp, if_neg (by omega), fh_c (by omega), mt_c (by omega)]
    have w2 : w.1 (b + 2) = u.1 (b + 2) := funext fun j => by rw [hj _ _ (by omega) (by omega), hp, if_neg (by omega), fh_c (by omega), mt_c (by omega)]
    have w3 : w.1 (b + 3) = u.1 (b + 3) := funext fun j => by rw [hj _ _ (by omega) (by omega), hp, if_neg (by omega), fh_c (by omega), mt_c (by omega)]
    have w7 : ∀ j, w.1 (b + 7) j = if j = m.toNatClampNeg ∧ u.1 (b + 1) m.toNatClampNeg = 3 then 1 - u.1 (b + 7) m.toNatClampNeg else u.1 (b + 7) j := fun j => by rw [hj _ _ (by omega) (by omega), hp, if_neg (by omega), fh_j, mt_c (by omega), mt_c (by omega)]
    have f7 : (e_X0_flipHalf w b m).1 (b + 7) = u.1 (b + 7) := funext fun j => by
      rw [fh_j, w1, w7, w7]
      by_cases c : j = m.toNatClampNeg ∧ u.1 (b + 1) m.toNatClampNeg = 3
      · rw [if_pos c, if_pos ⟨rfl, c.2⟩, c.1]
        grind
      · rw [if_neg c, if_neg c]
    by_cases e : d = b ∧ j = 11
    · rw [if_pos e, hj b 11 (by omega) (by omega), hp, if_pos ⟨rfl, rfl⟩, e.1, e.2]
      grind
    · rw [if_neg e]
      by_cases e6 : d = b + 6
      · subst e6
        rw [mt_j, fh_c (d := b + 6) (by omega), fh_c (d := b + 2) (by omega), fh_c (d := b + 3) (by omega), fh_c (d := b + 1) (by omega), f7, w1, w2, w3, hj (b + 6) j (by omega) (by omega), hp, if_neg (by omega), fh_c (by omega), mt_j, givesB_w (u := e_X0_flipHalf w b m) (w := u)]
        generalize e_X0_givesB u (u.1 (b + 1) m.toNatClampNeg) (u.1 (b + 7) m.toNatClampNeg) = S
        generalize (u.1 (b + 2) m.toNatClampNeg).toNatClampNeg = A
        generalize (u.1 (b + 3) m.toNatClampNeg).toNatClampNeg = B
        generalize m.toNatClampNeg = M
        grind
      · rw [mt_c e6]
        by_cases e7 : d = b + 7
        · subst e7
          rw [f7]
        · rw [fh_c e7, hj d j h1 h2, hp, if_neg e, fh_c e7, mt_c e6]
/-- kitchen, images and mill are as they were -/
def KP (u w : uk_Mem) : Prop := ∀ d, 13 ≤ d → d ≤ 45 → w.1 d = u.1 d
theorem KP_rf {u : uk_Mem} : KP u u := fun _ _ _ => rfl
theorem KP_tr {u v w : uk_Mem} (h : KP u v) (k : KP v w) : KP u w := fun d a b => (k d a b).trans (h d a b)
theorem KP_up {u : uk_Mem} {c i : Nat} {x : Int32} (h : 46 ≤ c) : KP u (uk_up u c i x) := fun d a b => uk_up_oc (by omega)
theorem KP_path {n : Int32} : ∀ (K : Nat) (i : Int32) (w : uk_Mem), KP w (l_X2_keepPath_12 n K i w) := by
  intro K
  induction K with
  | zero => intro i w; exact KP_rf
  | succ K ih =>
    intro i w
    rw [l_X2_keepPath_12]
    split
    · exact KP_rf
    · exact KP_tr (KP_up (by omega)) (ih _ _)
theorem KP_kp {u : uk_Mem} {n s : Int32} : KP u (e_X2_keepPath u n s) := by
  unfold e_X2_keepPath
  exact KP_tr (KP_up (by omega)) (KP_tr (KP_up (by omega)) (KP_path _ _ _))
/-- a doing, something that leaves the kitchen, the doing undone -/
theorem KP_un {u w : uk_Mem} {g : Int32} {c i : Nat} {x : Int32} (hc : 46 ≤ c) (h : KP (e_X0_perform (uk_up u c i x) 13 g) w) : KP u (e_X0_undo w 13 g) := fun d a b => by
  by_cases q : d ≤ 21
  · rw [un_do (u := uk_up u c i x) (fun d a b => h d a (by omega)) d a q, uk_up_oc (by omega)]
  · rw [un_o (by omega), h d a b, pf_o (by omega), uk_up_oc (by omega)]

theorem KP_X2_tryRicher_0 {u : uk_Mem} {n g s : Int32} : KP u (e_X2_tryRicher_0 u n g s) := by
  unfold e_X2_tryRicher_0
  dsimp only
  all_goals first | exact KP_rf | exact KP_kp
theorem KP_l_X2_tryRicher_1_28 {s : Int32} {x6 : Int32} {g : Int32} {n : Int32} : ∀ (K : Nat) (i : Int32) (w : uk_Mem), KP w (l_X2_tryRicher_1_28 s x6 g n K i w) := by
  intro K
  induction K with
  | zero => intro i w; exact KP_rf
  | succ K ih =>
    intro i w
    rw [l_X2_tryRicher_1_28]
    dsimp only
    repeat' split
    all_goals first | exact KP_rf | exact ih _ _ | exact KP_tr (KP_un (by omega) KP_X2_tryRicher_0) (ih _ _) | exact KP_un (by omega) KP_X2_tryRicher_0 | exact KP_tr KP_X2_tryRicher_0 (ih _ _) | exact KP_X2_tryRicher_0
theorem KP_X2_tryRicher_1 {u : uk_Mem} {n g s : Int32} : KP u (e_X2_tryRicher_1 u n g s) := by
  unfold e_X2_tryRicher_1
  dsimp only
  repeat' split
  all_goals first | exact KP_rf | exact KP_kp | exact KP_l_X2_tryRicher_1_28 _ _ _
theorem KP_l_X2_tryRicher_2_28 {s : Int32} {x6 : Int32} {g : Int32} {n : Int32} : ∀ (K : Nat) (i : Int32) (w : uk_Mem), KP w (l_X2_tryRicher_2_28 s x6 g n K i w) := by
  intro K
  induction K with
  | zero => intro i w; exact KP_rf
  | succ K ih =>
    intro i w
    rw [l_X2_tryRicher_2_28]
    dsimp only
    repeat' split
    all_goals first | exact KP_rf | exact ih _ _ | exact KP_tr (KP_un (by omega) KP_X2_tryRicher_1) (ih _ _) | exact KP_un (by omega) KP_X2_tryRicher_1 | exact KP_tr KP_X2_tryRicher_1 (ih _ _) | exact KP_X2_tryRicher_1
theorem KP_X2_tryRicher_2 {u : uk_Mem} {n g s : Int32} : KP u (e_X2_tryRicher_2 u n g s) := by
  unfold e_X2_tryRicher_2
  dsimp only
  repeat' split
  all_goals first | exact KP_rf | exact KP_kp | exact KP_l_X2_tryRicher_2_28 _ _ _
theorem KP_l_X2_tryRicher_3_28 {s : Int32} {x6 : Int32} {g : Int32} {n : Int32} : ∀ (K : Nat) (i : Int32) (w : uk_Mem), KP w (l_X2_tryRicher_3_28 s x6 g n K i w) := by
  intro K
  induction K with
  | zero => intro i w; exact KP_rf
  | succ K ih =>
    intro i w
    rw [l_X2_tryRicher_3_28]
    dsimp only
    repeat' split
    all_goals first | exact KP_rf | exact ih _ _ | exact KP_tr (KP_un (by omega) KP_X2_tryRicher_2) (ih _ _) | exact KP_un (by omega) KP_X2_tryRicher_2 | exact KP_tr KP_X2_tryRicher_2 (ih _ _) | exact KP_X2_tryRicher_2
theorem KP_X2_tryRicher_3 {u : uk_Mem} {n g s : Int32} : KP u (e_X2_tryRicher_3 u n g s) := by
  unfold e_X2_tryRicher_3
  dsimp only
  repeat' split
  all_goals first | exact KP_rf | exact KP_kp | exact KP_l_X2_tryRicher_3_28 _ _ _
theorem KP_l_X2_tryRicher_4_28 {s : Int32} {x6 : Int32} {g : Int32} {n : Int32} : ∀ (K : Nat) (i : Int32) (w : uk_Mem), KP w (l_X2_tryRicher_4_28 s x6 g n K i w) := by
  intro K
  induction K with
  | zero => intro i w; exact KP_rf
  | succ K ih =>
    intro i w
    rw [l_X2_tryRicher_4_28]
    dsimp only
    repeat' split
    all_goals first | exact KP_rf | exact ih _ _ | exact KP_tr (KP_un (by omega) KP_X2_tryRicher_3) (ih _ _) | exact KP_un (by omega) KP_X2_tryRicher_3 | exact KP_tr KP_X2_tryRicher_3 (ih _ _) | exact KP_X2_tryRicher_3
theorem KP_X2_tryRicher_4 {u : uk_Mem} {n g s : Int32} : KP u (e_X2_tryRicher_4 u n g s) := by
  unfold e_X2_tryRicher_4
  dsimp only
  repeat' split
  all_goals first | exact KP_rf | exact KP_kp | exact KP_l_X2_tryRicher_4_28 _ _ _
theorem KP_X2_tryRicher {u : uk_Mem} {n g s : Int32} : KP u (e_X2_tryRicher u n g s) := by
  unfold e_X2_tryRicher
  split
  · exact KP_X2_tryRicher_0
  · skip
    split
    · exact KP_X2_tryRicher_1
    · skip
      split
      · exact KP_X2_tryRicher_2
      · skip
        split
        · exact KP_X2_tryRicher_3
        · skip
          exact KP_X2_tryRicher_4
theorem KP_X2_tryReaching_0 {u : uk_Mem} {m n g : Int32} : KP u (e_X2_tryReaching_0 u m n g).2 := by
  unfold e_X2_tryReaching_0
  dsimp only
  repeat' split
  all_goals first | exact KP_rf | exact KP_kp
theorem KP_l_X2_tryReaching_1_39 {g : Int32} {m : Int32} {n : Int32} : ∀ (K : Nat) (i : Int32) (w : uk_Mem), KP w (l_X2_tryReaching_1_39 g m n K i w).2 := by
  intro K
  induction K with
  | zero => intro i w; exact KP_rf
  | succ K ih =>
    intro i w
    rw [l_X2_tryReaching_1_39]
    dsimp only
    repeat' split
    all_goals first | exact KP_rf | exact ih _ _ | exact KP_tr (KP_un (by omega) KP_X2_tryReaching_0) (ih _ _) | exact KP_un (by omega) KP_X2_tryReaching_0 | exact KP_tr KP_X2_tryReaching_0 (ih _ _) | exact KP_X2_tryReaching_0
theorem KP_l_X2_tryReaching_1_39_1 {m : Int32} {g : Int32} {n : Int32} : ∀ (K : Nat) (i : Int32) (w : uk_Mem), KP w (l_X2_tryReaching_1_39_1 m g n K i w).2 := by
  intro K
  induction K with
  | zero => intro i w; exact KP_rf
  | succ K ih =>
    intro i w
    rw [l_X2_tryReaching_1_39_1]
    dsimp only
    repeat' split
    all_goals first | exact KP_rf | exact ih _ _ | exact KP_tr (KP_un (by omega) KP_X2_tryReaching_0) (ih _ _) | exact KP_un (by omega) KP_X2_tryReaching_0 | exact KP_tr KP_X2_tryReaching_0 (ih _ _) | exact KP_X2_tryReaching_0
theorem KP_X2_tryReaching_1 {u : uk_Mem} {m n g : Int32} : KP u (e_X2_tryReaching_1 u m n g).2 := by
  unfold e_X2_tryReaching_1
  dsimp only
  repeat' split
  all_goals first | exact KP_rf | exact KP_kp | exact KP_l_X2_tryReaching_1_39 _ _ _ | exact KP_l_X2_tryReaching_1_39_1 _ _ _
theorem KP_l_X2_tryReaching_2_39 {g : Int32} {m : Int32} {n : Int32} : ∀ (K : Nat) (i : Int32) (w : uk_Mem), KP w (l_X2_tryReaching_2_39 g m n K i w).2 := by
  intro K
  induction K with
  | zero => intro i w; exact KP_rf
  | succ K ih =>
    intro i w
    rw [l_X2_tryReaching_2_39]
    dsimp only
    repeat' split
    all_goals first | exact KP_rf | exact ih _ _ | exact KP_tr (KP_un (by omega) KP_X2_tryReaching_1) (ih _ _) | exact KP_un (by omega) KP_X2_tryReaching_1 | exact KP_tr KP_X2_tryReaching_1 (ih _ _) | exact KP_X2_tryReaching_1
theorem KP_l_X2_tryReaching_2_39_1 {m : Int32} {g : Int32} {n : Int32} : ∀ (K : Nat) (i : Int32) (w : uk_Mem), KP w (l_X2_tryReaching_2_39_1 m g n K i w).2 := by
  intro K
  induction K with
  | zero => intro i w; exact KP_rf
  | succ K ih =>
    intro i w
    rw [l_X2_tryReaching_2_39_1]
    dsimp only
    repeat' split
    all_goals first | exact KP_rf | exact ih _ _ | exact KP_tr (KP_un (by omega) KP_X2_tryReaching_1) (ih _ _) | exact KP_un (by omega) KP_X2_tryReaching_1 | exact KP_tr KP_X2_tryReaching_1 (ih _ _) | exact KP_X2_tryReaching_1
theorem KP_X2_tryReaching_2 {u : uk_Mem} {m n g : Int32} : KP u (e_X2_tryReaching_2 u m n g).2 := by
  unfold e_X2_tryReaching_2
  dsimp only
  repeat' split
  all_goals first | exact KP_rf | exact KP_kp | exact KP_l_X2_tryReaching_2_39 _ _ _ | exact KP_l_X2_tryReaching_2_39_1 _ _ _
theorem KP_l_X2_tryReaching_3_39 {g : Int32} {m : Int32} {n : Int32} : ∀ (K : Nat) (i : Int32) (w : uk_Mem), KP w (l_X2_tryReaching_3_39 g m n K i w).2 := by
  intro K
  induction K with
  | zero => intro i w; exact KP_rf
  | succ K ih =>
    intro i w
    rw [l_X2_tryReaching_3_39]
    dsimp only
    repeat' split
    all_goals first | exact KP_rf | exact ih _ _ | exact KP_tr (KP_un (by omega) KP_X2_tryReaching_2) (ih _ _) | exact KP_un (by omega) KP_X2_tryReaching_2 | exact KP_tr KP_X2_tryReaching_2 (ih _ _) | exact KP_X2_tryReaching_2
theorem KP_l_X2_tryReaching_3_39_1 {m : Int32} {g : Int32} {n : Int32} : ∀ (K : Nat) (i : Int32) (w : uk_Mem), KP w (l_X2_tryReaching_3_39_1 m g n K i w).2 := by
  intro K
  induction K with
  | zero => intro i w; exact KP_rf
  | succ K ih =>
    intro i w
    rw [l_X2_tryReaching_3_39_1]
    dsimp only
    repeat' split
    all_goals first | exact KP_rf | exact ih _ _ | exact KP_tr (KP_un (by omega) KP_X2_tryReaching_2) (ih _ _) | exact KP_un (by omega) KP_X2_tryReaching_2 | exact KP_tr KP_X2_tryReaching_2 (ih _ _) | exact KP_X2_tryReaching_2
theorem KP_X2_tryReaching_3 {u : uk_Mem} {m n g : Int32} : KP u (e_X2_tryReaching_3 u m n g).2 := by
  unfold e_X2_tryReaching_3
  dsimp only
  repeat' split
  all_goals first | exact KP_rf | exact KP_kp | exact KP_l_X2_tryReaching_3_39 _ _ _ | exact KP_l_X2_tryReaching_3_39_1 _ _ _
theorem KP_l_X2_tryReaching_4_39 {g : Int32} {m : Int32} {n : Int32} : ∀ (K : Nat) (i : Int32) (w : uk_Mem), KP w (l_X2_tryReaching_4_39 g m n K i w).2 := by
  intro K
  induction K with
  | zero => intro i w; exact KP_rf
  | succ K ih =>
    intro i w
    rw [l_X2_tryReaching_4_39]
    dsimp only
    repeat' split
    all_goals first | exact KP_rf | exact ih _ _ | exact KP_tr (KP_un (by omega) KP_X2_tryReaching_3) (ih _ _) | exact KP_un (by omega) KP_X2_tryReaching_3 | exact KP_tr KP_X2_tryReaching_3 (ih _ _) | exact KP_X2_tryReaching_3
theorem KP_l_X2_tryReaching_4_39_1 {m : Int32} {g : Int32} {n : Int32} : ∀ (K : Nat) (i : Int32) (w : uk_Mem), KP w (l_X2_tryReaching_4_39_1 m g n K i w).2 := by
  intro K
  induction K with
  | zero => intro i w; exact KP_rf
  | succ K ih =>
    intro i w
    rw [l_X2_tryReaching_4_39_1]
    dsimp only
    repeat' split
    all_goals first | exact KP_rf | exact ih _ _ | exact KP_tr (KP_un (by omega) KP_X2_tryReaching_3) (ih _ _) | exact KP_un (by omega) KP_X2_tryReaching_3 | exact KP_tr KP_X2_tryReaching_3 (ih _ _) | exact KP_X2_tryReaching_3
theorem KP_X2_tryReaching_4 {u : uk_Mem} {m n g : Int32} : KP u (e_X2_tryReaching_4 u m n g).2 := by
  unfold e_X2_tryReaching_4
  dsimp only
  repeat' split
  all_goals first | exact KP_rf | exact KP_kp | exact KP_l_X2_tryReaching_4_39 _ _ _ | exact KP_l_X2_tryReaching_4_39_1 _ _ _
theorem KP_X2_tryReaching {u : uk_Mem} {m n g : Int32} : KP u (e_X2_tryReaching u m n g).2 := by
  unfold e_X2_tryReaching
  split
  · exact KP_X2_tryReaching_0
  · skip
    split
    · exact KP_X2_tryReaching_1
    · skip
      split
      · exact KP_X2_tryReaching_2
      · skip
        split
        · exact KP_X2_tryReaching_3
        · skip
          exact KP_X2_tryReaching_4
theorem KP_l_X2_findRichest_29 {n : Int32} {x15 : Int32} : ∀ (K : Nat) (i : Int32) (w : uk_Mem), KP w (l_X2_findRichest_29 n x15 K i w) := by
  intro K
  induction K with
  | zero => intro i w; exact KP_rf
  | succ K ih =>
    intro i w
    rw [l_X2_findRichest_29]
    dsimp only
    repeat' split
    all_goals first | exact KP_rf | exact KP_tr KP_X2_tryRicher (ih _ _) | exact KP_tr KP_X2_tryRicher KP_kp | exact KP_X2_tryRicher
theorem KP_l_X2_findFewest_2 {m : Int32} : ∀ (K : Nat) (i : Int32) (w : uk_Mem), KP w (l_X2_findFewest_2 m K i w).2 := by
  intro K
  induction K with
  | zero => intro i w; exact KP_rf
  | succ K ih =>
    intro i w
    rw [l_X2_findFewest_2]
    dsimp only
    repeat' split
    all_goals first | exact KP_rf | exact KP_tr KP_X2_tryReaching (ih _ _) | exact KP_tr KP_X2_tryReaching KP_kp | exact KP_X2_tryReaching
theorem KP_X2_findRichest {u : uk_Mem} {n : Int32} : KP u (e_X2_findRichest u n) := by
  unfold e_X2_findRichest
  try dsimp only
  repeat' split
  all_goals first | exact KP_rf | exact KP_l_X2_findRichest_29 _ _ _ | exact KP_tr (KP_up (by omega)) (KP_tr (KP_up (by omega)) (KP_tr (KP_up (by omega)) (KP_l_X2_findRichest_29 _ _ _)))
theorem KP_X2_findFewest {u : uk_Mem} {m : Int32} : KP u (e_X2_findFewest u m).2 := by
  unfold e_X2_findFewest
  try dsimp only
  repeat' split
  all_goals first | exact KP_rf | exact KP_l_X2_findFewest_2 _ _ _ | exact KP_tr (KP_up (by omega)) (KP_tr (KP_up (by omega)) (KP_tr (KP_up (by omega)) (KP_l_X2_findFewest_2 _ _ _)))
theorem KP_X6_best {u : uk_Mem} {k w : Int32} : KP u (e_X6_best u k w).2 := by
  unfold e_X6_best
  try dsimp only
  repeat' split
  all_goals first | exact KP_rf | exact KP_X2_findRichest | exact KP_X2_findFewest
theorem KP_X6_least {u : uk_Mem} {m w : Int32} : KP u (e_X6_least u m w).2 := by
  unfold e_X6_least
  try dsimp only
  repeat' split
  all_goals first | exact KP_rf | exact KP_X2_findRichest | exact KP_X2_findFewest
/-! what lies behind the first 51 stays; class and reference side by side: all that they keep -/
theorem bec_o {v : uk_Mem} {k x : Int32} {j : Nat} (h0 : 0 ≤ k) (hk : k ≤ 50) (h : 51 ≤ j) : (e_X7_becomes v k x).2.1 61 j = v.1 61 j := by
  unfold e_X7_becomes
  dsimp only
  have := uk_cln 50 50 rfl h0 hk
  rw [uk_up_at, if_neg (by omega)]
theorem fill_o {v : uk_Mem} {m n : Int32} {j : Nat} (hn : 0 ≤ v.1 60 3 ∧ v.1 60 3 ≤ 8) (h : 51 ≤ j) : (e_X7_fill v m n).2.1 61 j = v.1 61 j := by
  unfold e_X7_fill
  dsimp only
  by_cases h1 : e_X7_isStuff v m = 0
  · rw [if_pos h1]
  · have hm := isStuff_n hn h1
    rw [if_neg h1]
    split
    · rfl
    · exact bec_o (by lia) (by lia) h
theorem feeds_o {v : uk_Mem} {m n : Int32} {j : Nat} (hn : 0 ≤ v.1 60 3 ∧ v.1 60 3 ≤ 8) (h : 51 ≤ j) : (e_X7_feeds v m n).2.1 61 j = v.1 61 j := by
  unfold e_X7_feeds
  dsimp only
  by_cases h1 : e_X7_isStuff v m = 0
  · rw [if_pos h1]
  · have hm := isStuff_n hn h1
    rw [if_neg h1]
    split
    · rfl
    · exact bec_o (by lia) (by lia) h
theorem price_o {v : uk_Mem} {m n : Int32} {j : Nat} (hn : 0 ≤ v.1 60 3 ∧ v.1 60 3 ≤ 8) (h : 51 ≤ j) : (e_X7_price v m n).2.1 61 j = v.1 61 j := by
  unfold e_X7_price
  dsimp only
  by_cases h1 : e_X7_isStuff v m = 0
  · rw [if_pos h1]
  · have hm := isStuff_n hn h1
    rw [if_neg h1]
    split
    · rfl
    · split
      · rfl
      · exact bec_o (by lia) (by lia) h
theorem kind_o {v : uk_Mem} {m n : Int32} {j : Nat} (hn : 0 ≤ v.1 60 3 ∧ v.1 60 3 ≤ 8) (h : 51 ≤ j) : (e_X7_kind v m n).2.1 61 j = v.1 61 j := by
  unfold e_X7_kind
  dsimp only
  by_cases h1 : e_X7_isStuff v m = 0
  · rw [if_pos h1]
  · have hm := isStuff_n hn h1
    rw [if_neg h1]
    split
    · rfl
    · split
      · exact bec_o (by lia) (by lia) h
      · rfl
theorem eat_o {v : uk_Mem} {m : Int32} {j : Nat} (hn : 0 ≤ v.1 60 3 ∧ v.1 60 3 ≤ 8) (h : 51 ≤ j) : (e_X7_eat v m).2.1 61 j = v.1 61 j := by
  unfold e_X7_eat
  dsimp only
  by_cases h1 : e_X7_isStuff v m = 0
  · rw [if_pos h1]
  · have hm := isStuff_n hn h1
    have := uk_cln 7 7 rfl hm.1 (by lia)
    rw [if_neg h1, ix_0]
    split
    · rfl
    · rw [show (40 : Int32).toNatClampNeg = 40 from rfl]
      dsimp only
      rw [uk_up_at, if_neg (by omega), uk_up_at, if_neg (by omega)]
theorem see_o {v : uk_Mem} {x : Int32} {j : Nat} (hv : iv v) (h : 51 ≤ j) : (e_X7_see v x).2.1 61 j = v.1 61 j := by
  have s := sg_42 hv (c := 61) (by unfold uk_is51; decide)
  unfold e_X7_see
  dsimp only
  rw [show (42 : Int32).toNatClampNeg = 42 from rfl]
  by_cases h1 : e_X7_isStuff v x = 0
  · rw [if_pos h1]
  · rw [if_neg h1]
    by_cases h2 : v.1 61 42 = 8
    · rw [if_pos h2]
    · have := uk_cln 7 7 rfl s.1 (by lia)
      rw [if_neg h2, ix_43 s.1 (by lia)]
      dsimp only
      rw [uk_up_at, if_neg (by omega), uk_up_at, if_neg (by omega)]
theorem forget_o {v : uk_Mem} {n : Int32} {j : Nat} (h : 51 ≤ j) : (e_X7_forget v n).2.1 61 j = v.1 61 j := by
  unfold e_X7_forget
  dsimp only
  split
  · rfl
  · exact bec_o (by decide) (by decide) h
theorem does_o {v : uk_Mem} {g : Int32} {j : Nat} (h : 51 ≤ j) : (e_X7_does v g).2.1 61 j = v.1 61 j := by
  unfold e_X7_does
  dsimp only
  split
  · rfl
  · split
    · rw [starts_c (by decide)]
    · dsimp only
      rw [ends_o h, doIt_c (by decide), starts_c (by decide)]
/-- lanes, sizes, cells of the sheets -/
def SHR (u : uk_Mem) : Prop := ∀ k, k < 4 → ((u.1 50 k = -1 ∧ u.1 74 k = -4) ∨ (u.1 50 k = u.1 74 k ∧ 0 ≤ u.1 50 k ∧ u.1 50 k ≤ 2)) ∧ u.1 51 k = u.1 75 k ∧ ∀ i, i < 40 → u.1 (53 + k) i = u.1 76 (i + 40 * k)
def REL (u : uk_Mem) : Prop := KR u u 13 61 0 ∧ (u.1 40 0 = u.1 63 0 ∧ u.1 40 1 = u.1 63 1) ∧ (¬ u.1 63 0 = 0 → KR u u 22 61 51) ∧ (¬ u.1 63 1 = 0 → KR u u 31 61 102) ∧ (u.1 2 1 = u.1 60 13 ∧ cpy (u.1 3) (u.1 69) (u.1 2 1) ∧ u.1 0 13 = u.1 60 18 ∧ u.1 0 14 = u.1 60 28) ∧ SHR u
/-- the cells that it speaks of -/
def relC : List Nat := [3, 13, 14, 15, 16, 17, 18, 19, 20, 21, 22, 23, 24, 25, 26, 27, 28, 29, 30, 31, 32, 33, 34, 35, 36, 37, 38, 39, 40, 50, 51, 53, 54, 55, 56, 61, 63, 64, 65, 69, 74, 75, 76]
theorem relC_k {d : Nat} (h : 13 ≤ d) (h2 : d ≤ 40) : d ∈ relC := by
  have : ∀ d, d < 41 → 13 ≤ d → d ∈ relC := by decide
  exact this d (by omega) h
theorem REL_cg {u u' : uk_Mem} (h : REL u) (hc : ∀ c, c ∈ relC → u'.1 c = u.1 c) (h1 : u'.1 0 13 = u.1 0 13) (h2 : u'.1 0 14 = u.1 0 14) (h3 : u'.1 2 1 = u.1 2 1) (h4 : u'.1 60 3 = u.1 60 3) (h5 : u'.1 60 13 = u.1 60 13) (h6 : u'.1 60 18 = u.1 60 18) (h7 : u'.1 60 28 = u.1 60 28) : REL u' := by
  obtain ⟨k, ⟨i0, i1⟩, im0, im1, ⟨t1, t2, t3, t4⟩, sh⟩ := h
  refine ⟨KR_cg k (fun d a b => hc d (relC_k a (by omega))) h4 (hc 61 (by decide)) (hc 64 (by decide)) (hc 65 (by decide)), ⟨by rw [hc 40 (by decide), hc 63 (by decide)]; exact i0, by rw [hc 40 (by decide), hc 63 (by decide)]; exact i1⟩, fun q => ?_, fun q => ?_, ⟨by rw [h3, h5]; exact t1, by rw [hc 3 (by decide), hc 69 (by decide), h3]; exact t2, by rw [h1, h6]; exact t3, by rw [h2, h7]; exact t4⟩, fun k hk => ?_⟩
  · rw [hc 63 (by decide)] at q
    exact KR_cg (im0 q) (fun d a b => hc d (relC_k (by omega) (by omega))) h4 (hc 61 (by decide)) (hc 64 (by decide)) (hc 65 (by decide))
  · rw [hc 63 (by decide)] at q
    exact KR_cg (im1 q) (fun d a b => hc d (relC_k (by omega) (by omega))) h4 (hc 61 (by decide)) (hc 64 (by decide)) (hc 65 (by decide))
  · have h53 : u'.1 (53 + k) = u.1 (53 + k) := hc _ (by rcases (show k = 0 ∨ k = 1 ∨ k = 2 ∨ k = 3 by omega) with rfl | rfl | rfl | rfl <;> decide)
    rw [hc 50 (by decide), hc 51 (by decide), hc 74 (by decide), hc 75 (by decide), hc 76 (by decide), h53]
    exact sh k hk
/-! the text's rows, pure: what each line puts where (1 kind, 2 A, 3 B, 4 feeds, 5 price, 6 how many) -/
abbrev PW : Type := Nat → Nat → Int32
def wAdd (W : PW) (m : Nat) (k a b f p : Int32) : PW := fun r j => if j = m ∧ ¬ r = 6 then (if r = 1 then k else if r = 2 then a else if r = 3 then b else if r = 4 then f else p) else W r j
def wPut (W : PW) (m : Nat) (n : Int32) : PW := fun r j => if r = 6 ∧ j = m then n else W r j
noncomputable def wStf (f : Nat → Int32) (n : Int32) (a : PS) (k m : Int32) (W : PW) : PW :=
  if k = 4 then wAdd W m.toNatClampNeg 4 0 0 (pTake f n (pTake f n a 2 9).1 2 9).2 (pTake f n a 2 9).2
  else wAdd W m.toNatClampNeg k (pTake f n a 2 (m - 1)).2 (pTake f n (pTake f n a 2 (m - 1)).1 2 (m - 1)).2 (pTake f n (pTake f n (pTake f n a 2 (m - 1)).1 2 (m - 1)).1 2 9).2 0
noncomputable def wHav (f : Nat → Int32) (n : Int32) (a : PS) (W : PW) : PW := wPut W (pTake f n a 2 7).2.toNatClampNeg (pTake f n (pTwice (pTake f n a 2 7).1 (pTake f n a 2 7).2 (tk f n a.2.2.2.2).1) 2 40).2
noncomputable def wLine (f : Nat → Int32) (n : Int32) (a : PS) (W : PW) : PW :=
  if pl f (tk f n a.2.2.2.2).2.1 (tk f n a.2.2.2.2).1 (tk f n a.2.2.2.2).2.2.2 = 5 then wHav f n (0, a.2.1, a.2.2.1, a.2.2.2.1, (tk f n a.2.2.2.2).2.2.2) W
  else wStf f n (0, a.2.1, a.2.2.1, a.2.2.2.1, (tk f n a.2.2.2.2).2.2.2) (pl f (tk f n a.2.2.2.2).2.1 (tk f n a.2.2.2.2).1 (tk f n a.2.2.2.2).2.2.2) a.2.2.2.1 W
theorem wLine_H {f : Nat → Int32} {n k : Int32} {a : PS} {W : PW} (hp : pl f (tk f n a.2.2.2.2).2.1 (tk f n a.2.2.2.2).1 (tk f n a.2.2.2.2).2.2.2 = k) (h5 : k = 5) : wLine f n a W = wHav f n (0, a.2.1, a.2.2.1, a.2.2.2.1, (tk f n a.2.2.2.2).2.2.2) W := by
  unfold wLine
  rw [hp, if_pos h5]
theorem wLine_S {f : Nat → Int32} {n k : Int32} {a : PS} {W : PW} (hp : pl f (tk f n a.2.2.2.2).2.1 (tk f n a.2.2.2.2).1 (tk f n a.2.2.2.2).2.2.2 = k) (h5 : ¬ k = 5) : wLine f n a W = wStf f n (0, a.2.1, a.2.2.1, a.2.2.2.1, (tk f n a.2.2.2.2).2.2.2) k a.2.2.2.1 W := by
  unfold wLine
  rw [hp, if_neg h5]
/-- behind so many lines -/
noncomputable def pIt (f : Nat → Int32) (n : Int32) : Nat → PS
  | 0 => p_0
  | k + 1 => pLine f n (pIt f n k)
noncomputable def wIt (f : Nat → Int32) (n : Int32) : Nat → PW
  | 0 => fun _ _ => 0
  | k + 1 => wLine f n (pIt f n k) (wIt f n k)
/-- a kitchen of the class has these rows, and nothing else was done in it -/
def KW (u : uk_Mem) (b : Nat) (W : PW) : Prop := (∀ j, j < 8 → u.1 (b + 6) j = W 6 j) ∧ (∀ r, 1 ≤ r → r ≤ 5 → ∀ j, j < (u.1 b 0).toNatClampNeg → u.1 (b + r) j = W r j) ∧ (∀ j, j < 8 → u.1 (b + 7) j = 0) ∧ u.1 b 9 = 0 ∧ u.1 b 10 = 0 ∧ u.1 b 11 = 0
abbrev Sw (u : uk_Mem) (W : PW) : Prop := KW u 4 W
theorem KW_cg {u u' : uk_Mem} {b : Nat} {W : PW} (h : KW u b W) (e : ∀ c, b ≤ c → c ≤ b + 8 → u'.1 c = u.1 c) : KW u' b W := by
  obtain ⟨h1, h2, h3, h4, h5, h6⟩ := h
  have e0 := e b (by omega) (by omega)
  refine ⟨fun j hj => by rw [e (b + 6) (by omega) (by omega)]; exact h1 j hj, fun r r1 r5 j hj => ?_, fun j hj => by rw [e (b + 7) (by omega) (by omega)]; exact h3 j hj, by rw [e0]; exact h4, by rw [e0]; exact h5, by rw [e0]; exact h6⟩
  rw [e0] at hj
  rw [e (b + r) (by omega) (by omega)]
  exact h2 r r1 r5 j hj
theorem Sw_fr {u u' : uk_Mem} {W : PW} {a b : Nat} (h : Sw u W) (f : fr a b u u') (hb : b ≤ 4) : Sw u' W := KW_cg h (fun c h1 h2 => f.1 c (by omega))
theorem am_r {u : uk_Mem} {kb : Nat} {k a b f : Int32} {j : Nat} : (e_X0_addMade u kb k a b f).1 kb 0 = u.1 kb 0 + 1 ∧ (e_X0_addMade u kb k a b f).1 (kb + 6) j = u.1 (kb + 6) j ∧ (e_X0_addMade u kb k a b f).1 (kb + 1) j = (if j = (u.1 kb 0).toNatClampNeg then k else u.1 (kb + 1) j) ∧ (e_X0_addMade u kb k a b f).1 (kb + 2) j = (if j = (u.1 kb 0).toNatClampNeg then a else u.1 (kb + 2) j) ∧ (e_X0_addMade u kb k a b f).1 (kb + 3) j = (if j = (u.1 kb 0).toNatClampNeg then b else u.1 (kb + 3) j) ∧ (e_X0_addMade u kb k a b f).1 (kb + 4) j = (if j = (u.1 kb 0).toNatClampNeg then f else u.1 (kb + 4) j) ∧ (e_X0_addMade u kb k a b f).1 (kb + 5) j = (if j = (u.1 kb 0).toNatClampNeg then 0 else u.1 (kb + 5) j) := by
  unfold e_X0_addMade
  dsimp only
  have e : ∀ (v : uk_Mem) (a n : Nat) (x : Int32), 1 ≤ a → (uk_up v (kb + a) n x).1 kb = v.1 kb := fun v a n x h => uk_up_oc (by omega)
  simp only [uk_up_at]
  simp
theorem am_o {u : uk_Mem} {kb : Nat} {k a b f : Int32} : (∀ j, (e_X0_addMade u kb k a b f).1 (kb + 7) j = u.1 (kb + 7) j) ∧ ∀ j, ¬ j = 0 → (e_X0_addMade u kb k a b f).1 kb j = u.1 kb j := by
  unfold e_X0_addMade
  dsimp only
  refine ⟨fun j => ?_, fun j hj => ?_⟩
  · rw [uk_up_oc (by omega), uk_up_oc (by omega), uk_up_oc (by omega), uk_up_oc (by omega), uk_up_oc (by omega), uk_up_oc (by omega)]
  · rw [uk_up_at, if_neg (fun z => hj z.2), uk_up_oc (by omega), uk_up_oc (by omega), uk_up_oc (by omega), uk_up_oc (by omega), uk_up_oc (by omega)]
theorem ar_r {u : uk_Mem} {kb : Nat} {q f : Int32} {j : Nat} : (e_X0_addRaw u kb q f).1 kb 0 = u.1 kb 0 + 1 ∧ (e_X0_addRaw u kb q f).1 (kb + 6) j = u.1 (kb + 6) j ∧ (e_X0_addRaw u kb q f).1 (kb + 1) j = (if j = (u.1 kb 0).toNatClampNeg then 4 else u.1 (kb + 1) j) ∧ (e_X0_addRaw u kb q f).1 (kb + 2) j = (if j = (u.1 kb 0).toNatClampNeg then 0 else u.1 (kb + 2) j) ∧ (e_X0_addRaw u kb q f).1 (kb + 3) j = (if j = (u.1 kb 0).toNatClampNeg then 0 else u.1 (kb + 3) j) ∧ (e_X0_addRaw u kb q f).1 (kb + 4) j = (if j = (u.1 kb 0).toNatClampNeg then f else u.1 (kb + 4) j) ∧ (e_X0_addRaw u kb q f).1 (kb + 5) j = (if j = (u.1 kb 0).toNatClampNeg then q else u.1 (kb + 5) j) := by
  obtain ⟨a0, a6, a1, a2, a3, a4, a5⟩ := am_r (u := u) (kb := kb) (k := 4) (a := 0) (b := 0) (f := f) (j := j)
  unfold e_X0_addRaw
  dsimp only
  rw [a0, show u.1 kb 0 + 1 - 1 = u.1 kb 0 by grind]
  rw [uk_up_oc (b := kb) (by omega), uk_up_oc (b := kb + 6) (by omega), uk_up_oc (b := kb + 1) (by omega), uk_up_oc (b := kb + 2) (by omega), uk_up_oc (b := kb + 3) (by omega), uk_up_oc (b := kb + 4) (by omega), uk_up_at]
  refine ⟨a0, a6, a1, a2, a3, a4, ?_⟩
  by_cases e : j = (u.1 kb 0).toNatClampNeg
  · rw [if_pos ⟨rfl, e⟩, if_pos e]
  · rw [if_neg (fun z => e z.2), a5, if_neg e, if_neg e]
theorem ar_o {u : uk_Mem} {kb : Nat} {q f : Int32} : (∀ j, (e_X0_addRaw u kb q f).1 (kb + 7) j = u.1 (kb + 7) j) ∧ ∀ j, ¬ j = 0 → (e_X0_addRaw u kb q f).1 kb j = u.1 kb j := by
  unfold e_X0_addRaw
  dsimp only
  refine ⟨fun j => ?_, fun j hj => ?_⟩
  · rw [uk_up_oc (by omega)]
    exact am_o.1 j
  · rw [uk_up_oc (by omega)]
    exact am_o.2 j hj
theorem KW_add {u u' : uk_Mem} {b : Nat} {W : PW} {k x y f p : Int32} (h : KW u b W) (h0 : 0 ≤ u.1 b 0) (h7 : u.1 b 0 ≤ 7) (hr : ∀ j, u'.1 b 0 = u.1 b 0 + 1 ∧ u'.1 (b + 6) j = u.1 (b + 6) j ∧ u'.1 (b + 1) j = (if j = (u.1 b 0).toNatClampNeg then k else u.1 (b + 1) j) ∧ u'.1 (b + 2) j = (if j = (u.1 b 0).toNatClampNeg then x else u.1 (b + 2) j) ∧ u'.1 (b + 3) j = (if j = (u.1 b 0).toNatClampNeg then y else u.1 (b + 3) j) ∧ u'.1 (b + 4) j = (if j = (u.1 b 0).toNatClampNeg then f else u.1 (b + 4) j) ∧ u'.1 (b + 5) j = (if j = (u.1 b 0).toNatClampNeg then p else u.1 (b + 5) j)) (ho : (∀ j, u'.1 (b + 7) j = u.1 (b + 7) j) ∧ ∀ j, ¬ j = 0 → u'.1 b j = u.1 b j) : KW u' b (wAdd W (u.1 b 0).toNatClampNeg k x y f p) := by
  obtain ⟨h1, h2, h3, h4, h5, h6⟩ := h
  have e6 : ∀ j, wAdd W (u.1 b 0).toNatClampNeg k x y f p 6 j = W 6 j := fun j => if_neg (fun z => z.2 rfl)
  refine ⟨fun j hj => by rw [e6, (hr j).2.1]; exact h1 j hj, fun r r1 r5 j hj => ?_, fun j hj => by rw [ho.1 j]; exact h3 j hj, by rw [ho.2 9 (by decide)]; exact h4, by rw [ho.2 10 (by decide)]; exact h5, by rw [ho.2 11 (by decide)]; exact h6⟩
  obtain ⟨a0, a6, a1, a2, a3, a4, a5⟩ := hr j
  rw [a0, uk_c1 h0 (by lia)] at hj
  unfold wAdd
  by_cases e : j = (u.1 b 0).toNatClampNeg
  · rw [if_pos ⟨e, by omega⟩]
    rcases (show r = 1 ∨ r = 2 ∨ r = 3 ∨ r = 4 ∨ r = 5 by omega) with rfl | rfl | rfl | rfl | rfl
    · rw [a1, if_pos e, if_pos rfl]
    · rw [a2, if_pos e, if_neg (by decide), if_pos rfl]
    · rw [a3, if_pos e, if_neg (by decide), if_neg (by decide), if_pos rfl]
    · rw [a4, if_pos e, if_neg (by decide), if_neg (by decide), if_neg (by decide), if_pos rfl]
    · rw [a5, if_pos e, if_neg (by decide), if_neg (by decide), if_neg (by decide), if_neg (by decide)]
  · rw [if_neg (fun z => e z.1)]
    have h9 := h2 r r1 r5 j (by omega)
    rcases (show r = 1 ∨ r = 2 ∨ r = 3 ∨ r = 4 ∨ r = 5 by omega) with rfl | rfl | rfl | rfl | rfl
    · rw [a1, if_neg e]; exact h9
    · rw [a2, if_neg e]; exact h9
    · rw [a3, if_neg e]; exact h9
    · rw [a4, if_neg e]; exact h9
    · rw [a5, if_neg e]; exact h9
theorem Sw_raw {f : Nat → Int32} {n x y : Int32} {a : PS} {W : PW} {u u' : uk_Mem} (h : Sw u W) (hc : u.1 4 0 = a.2.2.2.1) (h0 : 0 ≤ u.1 4 0) (h7 : u.1 4 0 ≤ 7) (e : u' = e_X0_addRaw u 4 x y) (hx : x = (pTake f n a 2 9).2) (hy : y = (pTake f n (pTake f n a 2 9).1 2 9).2) : Sw u' (wStf f n a 4 a.2.2.2.1 W) := by
  have := KW_add (u' := u') (k := 4) (x := 0) (y := 0) (f := y) (p := x) h h0 h7 (fun j => by rw [e]; exact ar_r) (by rw [e]; exact ar_o)
  unfold wStf
  rw [if_pos rfl, ← hx, ← hy, ← hc]
  exact this
theorem Sw_made {f : Nat → Int32} {n k x y z v w : Int32} {a : PS} {W : PW} {u u' : uk_Mem} (h : Sw u W) (hc : u.1 4 0 = a.2.2.2.1) (h0 : 0 ≤ u.1 4 0) (h7 : u.1 4 0 ≤ 7) (hk : ¬ k = 4) (e : u' = e_X0_addMade u 4 k x y z) (hv : v = a.2.2.2.1 - 1) (hw : w = (pTake f n a 2 (a.2.2.2.1 - 1)).1.2.2.2.1 - 1) (hx : x = (pTake f n a 2 v).2) (hy : y = (pTake f n (pTake f n a 2 (a.2.2.2.1 - 1)).1 2 w).2) (hz : z = (pTake f n (pTake f n (pTake f n a 2 (a.2.2.2.1 - 1)).1 2 ((pTake f n a 2 (a.2.2.2.1 - 1)).1.2.2.2.1 - 1)).1 2 9).2) : Sw u' (wStf f n a k a.2.2.2.1 W) := by
  have := KW_add (u' := u') (k := k) (x := x) (y := y) (f := z) (p := 0) h h0 h7 (fun j => by rw [e]; exact am_r) (by rw [e]; exact am_o)
  rw [pTake_told.2] at hw hz
  rw [hv] at hx
  rw [hw] at hy
  unfold wStf
  rw [if_neg hk, ← hx, ← hy, ← hz, ← hc]
  exact this
theorem Sw_have {f : Nat → Int32} {n i v z : Int32} {a : PS} {W : PW} {u u1 u2 : uk_Mem} (h : Sw u W) (e1 : u1 = uk_up u 1 4 z) (e2 : u2 = uk_up u1 10 i.toNatClampNeg v) (hi : i = (pTake f n a 2 7).2) (hv : v = (pTake f n (pTwice (pTake f n a 2 7).1 (pTake f n a 2 7).2 (tk f n a.2.2.2.2).1) 2 40).2) : Sw u2 (wHav f n a W) := by
  obtain ⟨h1, h2, h3, h4, h5, h6⟩ := h
  unfold wHav
  rw [← hv, ← hi]
  have eo : ∀ c, 4 ≤ c → ¬ c = 10 → u2.1 c = u.1 c := fun c hc hn => by rw [e2, uk_up_oc hn, e1, uk_up_oc (by omega)]
  have e10 : ∀ j, u2.1 10 j = if j = i.toNatClampNeg then v else u.1 10 j := fun j => by
    rw [e2, uk_up_at, e1, uk_up_oc (by decide)]
    simp
  refine ⟨fun j hj => ?_, fun r r1 r5 j hj => ?_, fun j hj => by rw [eo _ (by omega) (by omega)]; exact h3 j hj, by rw [eo _ (by omega) (by omega)]; exact h4, by rw [eo _ (by omega) (by omega)]; exact h5, by rw [eo _ (by omega) (by omega)]; exact h6⟩
  · show u2.1 10 j = _
    rw [e10 j]
    unfold wPut
    by_cases q : j = i.toNatClampNeg
    · rw [if_pos q, if_pos ⟨rfl, q⟩]
    · rw [if_neg q, if_neg (fun z => q z.2)]
      exact h1 j hj
  · rw [eo 4 (by omega) (by omega)] at hj
    rw [eo _ (by omega) (by omega)]
    unfold wPut
    rw [if_neg (fun z => by have := z.1; omega)]
    exact h2 r r1 r5 j hj
/-- an empty kitchen -/
theorem cl_l {kb : Nat} : ∀ (K : Nat) (i : Int32) (w : uk_Mem), ee_F 8 i K → 0 ≤ i → i ≤ 8 → (∀ d, ¬ d = kb + 6 → ¬ d = kb + 7 → (l_X0_clear_22 kb K i w).1 d = w.1 d) ∧ (∀ j, (l_X0_clear_22 kb K i w).1 (kb + 6) j = if i.toNatClampNeg ≤ j ∧ j < 8 then 0 else w.1 (kb + 6) j) ∧ ∀ j, (l_X0_clear_22 kb K i w).1 (kb + 7) j = if i.toNatClampNeg ≤ j ∧ j < 8 then 0 else w.1 (kb + 7) j := by
  intro K
  induction K with
  | zero =>
    intro i m f h0 h1
    obtain ⟨j, hj⟩ := ee_Fp h1 f
    omega
  | succ K ih =>
    intro i m f h0 h1
    rw [l_X0_clear_22]
    by_cases q : (8 : Int32) ≤ i
    · rw [if_pos q]
      have := uk_cge 8 8 rfl q
      refine ⟨fun _ _ _ => rfl, fun j => ?_, fun j => ?_⟩
      · rw [if_neg (by omega)]
      · rw [if_neg (by omega)]
    · rw [if_neg q]
      dsimp only
      have hc := uk_c1 h0 (by lia)
      have hl := uk_cln 7 7 rfl h0 (by lia)
      obtain ⟨a, b, c⟩ := ih (i + 1) (uk_up (uk_up m (kb + 6) i.toNatClampNeg 0) (kb + 7) i.toNatClampNeg 0) (ee_Fs f (by lia)) (by lia) (by lia)
      refine ⟨fun d h1 h2 => (a d h1 h2).trans ((uk_up_oc h2).trans (uk_up_oc h1)), fun j => ?_, fun j => ?_⟩
      · rw [b j, hc, uk_up_oc (by omega), uk_up_at]
        generalize i.toNatClampNeg = k at *
        grind
      · rw [c j, hc, uk_up_at, uk_up_oc (by omega)]
        generalize i.toNatClampNeg = k at *
        grind
theorem KW_clear {u : uk_Mem} {kb : Nat} : KW (e_X0_clear u kb) kb (fun _ _ => 0) ∧ (e_X0_clear u kb).1 kb 0 = 0 := by
  unfold e_X0_clear
  dsimp only
  obtain ⟨a, b, c⟩ := cl_l (kb := kb) ee_K 0 (uk_up (uk_up (uk_up (uk_up u kb 0 0) kb 9 0) kb 10 0) kb 11 0) (ee_F0 _ _) (by decide) (by decide)
  have z : (0 : Int32).toNatClampNeg = 0 := rfl
  have a0 := a kb (by omega) (by omega)
  have e0 : (l_X0_clear_22 kb ee_K 0 (uk_up (uk_up (uk_up (uk_up u kb 0 0) kb 9 0) kb 10 0) kb 11 0)).1 kb 0 = 0 := by
    rw [a0]
    simp [uk_up_at]
  refine ⟨⟨fun j hj => ?_, fun r r1 r5 j hj => ?_, fun j hj => ?_, ?_, ?_, ?_⟩, e0⟩
  · rw [b j, if_pos ⟨by omega, hj⟩]
  · rw [e0, z] at hj
    exact absurd hj (Nat.not_lt_zero _)
  · rw [c j, if_pos ⟨by omega, hj⟩]
  · rw [a0]
    simp [uk_up_at]
  · rw [a0]
    simp [uk_up_at]
  · rw [a0]
    simp [uk_up_at]
theorem KW_copy {u : uk_Mem} {kb kc : Nat} {W : PW} (hd : Dj kb kc) (h : KW u kc W) (n8 : (u.1 kc 0).toNatClampNeg ≤ 8) : KW (e_X0_copyFrom u kb kc) kb W := by
  obtain ⟨h1, h2, h3, h4, h5, h6⟩ := h
  obtain ⟨c0, c9, c10, c11⟩ := cf_s (u := u) hd
  refine ⟨fun j hj => by rw [cf_r hd (by omega) (by omega) hj]; exact h1 j hj, fun r r1 r5 j hj => ?_, fun j hj => by rw [cf_r hd (by omega) (by omega) hj]; exact h3 j hj, c9.trans h4, c10.trans h5, c11.trans h6⟩
  rw [c0] at hj
  rw [cf_r hd r1 (by omega) (by omega)]
  exact h2 r r1 r5 j hj
/-! the reference's rows -/
def RwG (s : Int32) (A P Q : Nat → Int32) (W : PW) : Prop := (∀ j, j < 8 → A j = W 6 j) ∧ (∀ j, j < 8 → A (j + 8) = 0) ∧ A 40 = 0 ∧ A 41 = 0 ∧ A 42 = 0 ∧ ∀ j, j < s.toNatClampNeg → A (j + 32) = W 1 j ∧ A (j + 16) = W 4 j ∧ (W 1 j = 4 → A (j + 24) = W 5 j ∧ P j = -4 ∧ Q j = -4) ∧ (¬ W 1 j = 4 → P j = W 2 j ∧ Q j = W 3 j)
def Rw (u : uk_Mem) (W : PW) : Prop := RwG (u.1 60 7) (u.1 66) (u.1 67) (u.1 68) W
theorem Rw_cg {u u' : uk_Mem} {W : PW} (h : Rw u W) (e7 : u'.1 60 7 = u.1 60 7) (e66 : u'.1 66 = u.1 66) (e67 : u'.1 67 = u.1 67) (e68 : u'.1 68 = u.1 68) : Rw u' W := by
  unfold Rw
  rw [e7, e66, e67, e68]
  exact h
theorem upd_i {A : Nat → Int32} {i j : Nat} {x : Int32} : upd A i x j = if j = i then x else A j := rfl
theorem RwG_add {s : Int32} {A A' P P' Q Q' : Nat → Int32} {W : PW} {k x y f p : Int32} (h : RwG s A P Q W) (h0 : 0 ≤ s) (h7 : s ≤ 7) (ea : ∀ j, ¬ j = s.toNatClampNeg + 32 → ¬ j = s.toNatClampNeg + 16 → ¬ j = s.toNatClampNeg + 24 → A' j = A j) (e1 : A' (s.toNatClampNeg + 32) = k) (e4 : A' (s.toNatClampNeg + 16) = f) (e5 : k = 4 → A' (s.toNatClampNeg + 24) = p ∧ P' s.toNatClampNeg = -4 ∧ Q' s.toNatClampNeg = -4) (e2 : ¬ k = 4 → P' s.toNatClampNeg = x ∧ Q' s.toNatClampNeg = y) (ep : ∀ j, ¬ j = s.toNatClampNeg → P' j = P j) (eq : ∀ j, ¬ j = s.toNatClampNeg → Q' j = Q j) : RwG (s + 1) A' P' Q' (wAdd W s.toNatClampNeg k x y f p) := by
  obtain ⟨h1, h2, h3, h4, h5, h6⟩ := h
  have s7 := uk_cln 7 7 rfl h0 h7
  refine ⟨fun j hj => ?_, fun j hj => ?_, ?_, ?_, ?_, fun j hj => ?_⟩
  · rw [ea j (by omega) (by omega) (by omega), h1 j hj]
    exact (if_neg (fun z => z.2 rfl)).symm
  · rw [ea _ (by omega) (by omega) (by omega)]
    exact h2 j hj
  · rw [ea _ (by omega) (by omega) (by omega)]
    exact h3
  · rw [ea _ (by omega) (by omega) (by omega)]
    exact h4
  · rw [ea _ (by omega) (by omega) (by omega)]
    exact h5
  · rw [uk_c1 h0 (by lia)] at hj
    by_cases e : j = s.toNatClampNeg
    · have w1 : wAdd W s.toNatClampNeg k x y f p 1 j = k := by
        unfold wAdd
        rw [if_pos ⟨e, by decide⟩, if_pos rfl]
      have w2 : wAdd W s.toNatClampNeg k x y f p 2 j = x := by
        unfold wAdd
        rw [if_pos ⟨e, by decide⟩, if_neg (by decide), if_pos rfl]
      have w3 : wAdd W s.toNatClampNeg k x y f p 3 j = y := by
        unfold wAdd
        rw [if_pos ⟨e, by decide⟩, if_neg (by decide), if_neg (by decide), if_pos rfl]
      have w4 : wAdd W s.toNatClampNeg k x y f p 4 j = f := by
        unfold wAdd
        rw [if_pos ⟨e, by decide⟩, if_neg (by decide), if_neg (by decide), if_neg (by decide), if_pos rfl]
      have w5 : wAdd W s.toNatClampNeg k x y f p 5 j = p := by
        unfold wAdd
        rw [if_pos ⟨e, by decide⟩, if_neg (by decide), if_neg (by decide), if_neg (by decide), if_neg (by decide)]
      rw [w1, w2, w3, w4, w5, e]
      exact ⟨e1, e4, e5, e2⟩
    · have w : ∀ r, wAdd W s.toNatClampNeg k x y f p r j = W r j := fun r => if_neg (fun z => e z.1)
      rw [w, w, w, w, w, ea _ (by omega) (by omega) (by omega), ea _ (by omega) (by omega) (by omega), ea _ (by omega) (by omega) (by omega), ep j e, eq j e]
      exact h6 j (by omega)
theorem ix_32' {m x : Int32} (h0 : 0 ≤ m) (h7 : m ≤ 7) (e : x = 32 + m) : x.toNatClampNeg = m.toNatClampNeg + 32 := by rw [e]; exact ix_32 h0 h7
theorem ix_24' {m x : Int32} (h0 : 0 ≤ m) (h7 : m ≤ 7) (e : x = 24 + m) : x.toNatClampNeg = m.toNatClampNeg + 24 := by rw [e]; exact ix_24 h0 h7
theorem ix_16' {m x : Int32} (h0 : 0 ≤ m) (h7 : m ≤ 7) (e : x = 16 + m) : x.toNatClampNeg = m.toNatClampNeg + 16 := by rw [e]; exact ix_16 h0 h7
theorem Rw_raw {f : Nat → Int32} {n : Int32} {a : PS} {W : PW} {u u' : uk_Mem} {m k x1 x2 x3 p q : Int32} (h : Rw u W) (hm : m = u.1 60 7) (m0 : 0 ≤ m) (m7 : m ≤ 7) (hk : k = 4) (e7 : u'.1 60 7 = u.1 60 7 + 1) (e66 : u'.1 66 = upd (upd (upd (u.1 66) x1.toNatClampNeg k) x2.toNatClampNeg p) x3.toNatClampNeg q) (i1 : x1 = 32 + m) (i2 : x2 = 24 + m) (i3 : x3 = 16 + m) (e67 : u'.1 67 = upd (u.1 67) m.toNatClampNeg (-4)) (e68 : u'.1 68 = upd (u.1 68) m.toNatClampNeg (-4)) (hp : p = (pTake f n a 2 9).2) (hq : q = (pTake f n (pTake f n a 2 9).1 2 9).2) : Rw u' (wStf f n a k (u.1 60 7) W) := by
  subst hk
  subst hm
  rw [ix_32' m0 m7 i1, ix_24' m0 m7 i2, ix_16' m0 m7 i3] at e66
  unfold wStf
  rw [if_pos rfl, ← hp, ← hq]
  unfold Rw
  rw [e7]
  refine RwG_add h m0 m7 (fun j j1 j2 j3 => ?_) ?_ ?_ (fun _ => ⟨?_, ?_, ?_⟩) (fun z => absurd rfl z) (fun j hj => ?_) (fun j hj => ?_)
  · rw [e66, upd_i, if_neg j2, upd_i, if_neg j3, upd_i, if_neg j1]
  · rw [e66, upd_i, if_neg (by omega), upd_i, if_neg (by omega), upd_i, if_pos rfl]
  · rw [e66, upd_i, if_pos rfl]
  · rw [e66, upd_i, if_neg (by omega), upd_i, if_pos rfl]
  · rw [e67, upd_i, if_pos rfl]
  · rw [e68, upd_i, if_pos rfl]
  · rw [e67, upd_i, if_neg hj]
  · rw [e68, upd_i, if_neg hj]
theorem Rw_made {f : Nat → Int32} {n : Int32} {a : PS} {W : PW} {u u' : uk_Mem} {m k x1 x3 v w x y q : Int32} (h : Rw u W) (hm : m = u.1 60 7) (m0 : 0 ≤ m) (m7 : m ≤ 7) (hk : ¬ k = 4) (e7 : u'.1 60 7 = u.1 60 7 + 1) (e66 : u'.1 66 = upd (upd (u.1 66) x1.toNatClampNeg k) x3.toNatClampNeg q) (i1 : x1 = 32 + m) (i3 : x3 = 16 + m) (e67 : u'.1 67 = upd (u.1 67) m.toNatClampNeg x) (e68 : u'.1 68 = upd (u.1 68) m.toNatClampNeg y) (hv : v = u.1 60 7 - 1) (hw : w = u.1 60 7 - 1) (hx : x = (pTake f n a 2 v).2) (hy : y = (pTake f n (pTake f n a 2 v).1 2 w).2) (hq : q = (pTake f n (pTake f n (pTake f n a 2 v).1 2 w).1 2 9).2) : Rw u' (wStf f n a k (u.1 60 7) W) := by
  subst hm
  rw [hv] at hx hy hq
  rw [hw] at hy hq
  rw [ix_32' m0 m7 i1, ix_16' m0 m7 i3] at e66
  unfold wStf
  rw [if_neg hk, ← hx, ← hy, ← hq]
  unfold Rw
  rw [e7]
  refine RwG_add h m0 m7 (fun j j1 j2 j3 => ?_) ?_ ?_ (fun z => absurd z hk) (fun _ => ⟨?_, ?_⟩) (fun j hj => ?_) (fun j hj => ?_)
  · rw [e66, upd_i, if_neg j2, upd_i, if_neg j1]
  · rw [e66, upd_i, if_neg (by omega), upd_i, if_pos rfl]
  · rw [e66, upd_i, if_pos rfl]
  · rw [e67, upd_i, if_pos rfl]
  · rw [e68, upd_i, if_pos rfl]
  · rw [e67, upd_i, if_neg hj]
  · rw [e68, upd_i, if_neg hj]
theorem Rw_have {f : Nat → Int32} {n : Int32} {a : PS} {W : PW} {u u' : uk_Mem} {i m v : Int32} (h : Rw u W) (e7 : u'.1 60 7 = u.1 60 7) (e66 : u'.1 66 = upd (u.1 66) i.toNatClampNeg v) (e67 : u'.1 67 = u.1 67) (e68 : u'.1 68 = u.1 68) (hi : i = m) (m0 : 0 ≤ m) (m7 : m ≤ 7) (hm : m = (pTake f n a 2 7).2) (hv : v = (pTake f n (pTwice (pTake f n a 2 7).1 (pTake f n a 2 7).2 (tk f n a.2.2.2.2).1) 2 40).2) : Rw u' (wHav f n a W) := by
  subst hi
  have l7 := uk_cln 7 7 rfl m0 m7
  obtain ⟨h1, h2, h3, h4, h5, h6⟩ := h
  unfold wHav
  rw [← hv, ← hm]
  unfold Rw
  rw [e7, e66, e67, e68]
  refine ⟨fun j hj => ?_, fun j hj => by rw [upd_i, if_neg (by omega)]; exact h2 j hj, by rw [upd_i, if_neg (by omega)]; exact h3, by rw [upd_i, if_neg (by omega)]; exact h4, by rw [upd_i, if_neg (by omega)]; exact h5, fun j hj => ?_⟩
  · unfold wPut
    rw [upd_i]
    by_cases q : j = i.toNatClampNeg
    · rw [if_pos q, if_pos ⟨rfl, q⟩]
    · rw [if_neg q, if_neg (fun z => q z.2)]
      exact h1 j hj
  · have w : ∀ r, ¬ r = 6 → wPut W i.toNatClampNeg v r j = W r j := fun r hr => if_neg (fun z => hr z.1)
    rw [w 1 (by decide), w 2 (by decide), w 3 (by decide), w 4 (by decide), w 5 (by decide), upd_i, if_neg (by omega), upd_i, if_neg (by omega), upd_i, if_neg (by omega)]
    exact h6 j hj
/-- an empty draft -/
theorem Rw_0 {u : uk_Mem} (e7 : u.1 60 7 = 0) (e66 : ∀ j, j < 51 → u.1 66 j = 0) : Rw u (fun _ _ => 0) := by
  unfold Rw
  rw [e7]
  refine ⟨fun j hj => e66 j (by omega), fun j hj => e66 _ (by omega), e66 _ (by omega), e66 _ (by omega), e66 _ (by omega), fun j hj => ?_⟩
  exact absurd hj (by rw [show (0 : Int32).toNatClampNeg = 0 from rfl]; omega)
theorem cpy_n {A B : Nat → Int32} {k : Int32} (h : cpy A B k) {j : Nat} (hj : j < k.toNatClampNeg) (hk : k ≤ 1000) : A j = B j := by
  have hk2 : k.toNatClampNeg ≤ 1000 := by
    by_cases q : 0 ≤ k
    · exact uk_cln 1000 1000 rfl q hk
    · have : k.toInt < 0 := Int32.lt_iff_toInt_lt.mp (show k < 0 by lia)
      have e : k.toNatClampNeg = k.toInt.toNat := rfl
      omega
  have c : (nI j).toNatClampNeg = j := nI_clamp (by omega)
  have := h (nI j) (nI_pos' (by omega)) (by
    rw [Int32.lt_iff_toInt_lt]
    have e : k.toNatClampNeg = k.toInt.toNat := rfl
    have e2 : (nI j).toNatClampNeg = (nI j).toInt.toNat := rfl
    have : 0 ≤ (nI j).toInt := Int32.le_iff_toInt_le.mp (nI_pos' (show j < 2 ^ 31 by omega))
    omega)
  rwa [c] at this
/-- the draft is kept -/
theorem RwG_keep {u u' : uk_Mem} {W : PW} (h : Rw u W) (s8 : u.1 60 7 ≤ 8) (e3 : u'.1 60 3 = u.1 60 7) (c1 : cpy (u'.1 61) (u.1 66) 51) (c4 : cpy (u'.1 64) (u.1 67) (u.1 60 7)) (c5 : cpy (u'.1 65) (u.1 68) (u.1 60 7)) (s0 : 0 ≤ u.1 60 7) : RwG (u'.1 60 3) (u'.1 61) (u'.1 64) (u'.1 65) W := by
  obtain ⟨h1, h2, h3, h4, h5, h6⟩ := h
  have l8 := uk_cln 8 8 rfl s0 s8
  have e : ∀ j, j < 51 → u'.1 61 j = u.1 66 j := fun j hj => cpy_n c1 (by rw [show (51 : Int32).toNatClampNeg = 51 from rfl]; exact hj) (by decide)
  rw [e3]
  refine ⟨fun j hj => by rw [e _ (by omega)]; exact h1 j hj, fun j hj => by rw [e _ (by omega)]; exact h2 j hj, by rw [e _ (by omega)]; exact h3, by rw [e _ (by omega)]; exact h4, by rw [e _ (by omega)]; exact h5, fun j hj => ?_⟩
  rw [e _ (by omega), e _ (by omega), e _ (by omega), cpy_n c4 hj (by lia), cpy_n c5 hj (by lia)]
  exact h6 j hj
/-- the same rows on both sides -/
theorem KR_text {u : uk_Mem} {W : PW} (hk : KW u 13 W) (hr : RwG (u.1 60 3) (u.1 61) (u.1 64) (u.1 65) W) (hs : u.1 13 0 = u.1 60 3) (n8 : (u.1 60 3).toNatClampNeg ≤ 8) : KR u u 13 61 0 := by
  obtain ⟨h1, h2, h3, h4, h5, h6⟩ := hk
  obtain ⟨r1, r2, r3, r4, r5, r6⟩ := hr
  rw [hs] at h2
  refine ⟨hs, h4.trans r5.symm, h5.trans r3.symm, h6.trans r4.symm, fun j hj => ?_, fun i hi => ?_⟩
  · obtain ⟨a1, a4, a5, a2⟩ := r6 j hj
    unfold KJ
    simp only [Nat.zero_add, Nat.add_zero]
    rw [a1, a4, h2 1 (by omega) (by omega) j hj, h2 4 (by omega) (by omega) j hj, h1 j (by omega), r1 j (by omega), h3 j (by omega), r2 j (by omega), h2 5 (by omega) (by omega) j hj, h2 2 (by omega) (by omega) j hj, h2 3 (by omega) (by omega) j hj]
    exact ⟨rfl, rfl, rfl, rfl, fun z => ⟨(a5 z).1.symm, (a5 z).2⟩, fun z => ⟨(a2 z).1.symm, (a2 z).2.symm⟩⟩
  · have : u.1 61 (0 + 42) = 0 := r5
    rw [this, show (0 : Int32).toNatClampNeg = 0 from rfl] at hi
    exact absurd hi (Nat.not_lt_zero _)
/-! the loops -/
def Aw (f : Nat → Int32) (n : Int32) (u : uk_Mem) (c : Int32) : Prop := ∃ (b : PS) (W : PW), b = pIt f n c.toNatClampNeg ∧ W = wIt f n c.toNatClampNeg ∧ Sw u W ∧ Sc f n u b ∧ b.1 = 0 ∧ pLoop f n (160 - c.toNatClampNeg) b c = pLoop f n 160 p_0 0
theorem pIt_s {f : Nat → Int32} {n c : Int32} {b : PS} {W : PW} (h0 : 0 ≤ c) (h1 : c ≤ 1000) (hb : b = pIt f n c.toNatClampNeg) (hW : W = wIt f n c.toNatClampNeg) : pLine f n b = pIt f n (c + 1).toNatClampNeg ∧ wLine f n b W = wIt f n (c + 1).toNatClampNeg := by
  rw [uk_c1 h0 (by lia), hb, hW]
  exact ⟨rfl, rfl⟩
def TXI (f : Nat → Int32) (n : Int32) (u : uk_Mem) (c : Int32) : Prop := KW u 13 (wIt f n (pRes f n).2.toNatClampNeg) ∧ u.1 13 0 = (pIt f n (pRes f n).2.toNatClampNeg).2.2.2.1 ∧ ∀ j, j < c.toNatClampNeg → u.1 40 j = 0
theorem TXI_s {f : Nat → Int32} {n c : Int32} {u u' : uk_Mem} (h : TXI f n u c) (h0 : 0 ≤ c) (h1 : c ≤ 1000) (e : u' = uk_up u 40 c.toNatClampNeg 0) : TXI f n u' (c + 1) := by
  obtain ⟨a1, a2, a3⟩ := h
  refine ⟨KW_cg a1 (fun d d1 d2 => by rw [e, uk_up_oc (by omega)]), by rw [e, uk_up_oc (by decide)]; exact a2, fun j hj => ?_⟩
  rw [uk_c1 h0 (by lia)] at hj
  rw [e, uk_up_at]
  by_cases q : j = c.toNatClampNeg
  · rw [if_pos ⟨rfl, q⟩]
  · rw [if_neg (fun z => q z.2)]
    exact a3 j (by omega)
theorem TXI_0 {f : Nat → Int32} {n : Int32} {u u' : uk_Mem} (hW : Sw u (wIt f n (pRes f n).2.toNatClampNeg)) (hs : u.1 4 0 = (pIt f n (pRes f n).2.toNatClampNeg).2.2.2.1) (n8 : (u.1 4 0).toNatClampNeg ≤ 8) (e : u' = e_X0_copyFrom u 13 4) : TXI f n u' 0 := by
  have hd : Dj 13 4 := Dj_of uk_isK13 uk_isK4 (by decide)
  rw [e]
  exact ⟨KW_copy hd hW n8, (cf_s hd).1.trans hs, fun j hj => absurd hj (by rw [show (0 : Int32).toNatClampNeg = 0 from rfl]; omega)⟩
def RW (f : Nat → Int32) (n : Int32) (u : uk_Mem) (c : Int32) : Prop := u.1 60 18 = 0 → ∃ (b : PS) (W : PW), b = pIt f n c.toNatClampNeg ∧ W = wIt f n c.toNatClampNeg ∧ Rw u W ∧ b.1 = 0 ∧ Sr f n u b ∧ pLoop f n (160 - c.toNatClampNeg) b c = pLoop f n 160 p_0 0 ∧ u.1 60 7 = b.2.2.2.1 ∧ u.1 60 10 = b.2.2.1 ∧ hi9 b.2.2.1 (u.1 60 11)
/-! what a doing keeps: ranges, parts -/
theorem canCook_f {v : uk_Mem} {m : Int32} (h : ¬ e_X7_canCook v m = 0) : ¬ v.1 62 m.toNatClampNeg = 40 ∧ (v.1 64 m.toNatClampNeg = v.1 65 m.toNatClampNeg → 1 < v.1 62 (v.1 64 m.toNatClampNeg).toNatClampNeg) ∧ (¬ v.1 64 m.toNatClampNeg = v.1 65 m.toNatClampNeg → 0 < v.1 62 (v.1 64 m.toNatClampNeg).toNatClampNeg ∧ 0 < v.1 62 (v.1 65 m.toNatClampNeg).toNatClampNeg) := by
  unfold e_X7_canCook at h
  dsimp only at h
  simp only [ix_0] at h
  generalize v.1 64 m.toNatClampNeg = A at *
  generalize v.1 65 m.toNatClampNeg = B at *
  generalize v.1 62 m.toNatClampNeg = x at *
  generalize v.1 62 A.toNatClampNeg = y at *
  generalize v.1 62 B.toNatClampNeg = z at *
  split at h
  · exact absurd rfl h
  · split at h
    · exact absurd rfl h
    · split at h
      · split at h
        · exact absurd rfl h
        · refine ⟨by assumption, fun _ => by grind, fun q => absurd (by assumption) q⟩
      · split at h
        · exact absurd rfl h
        · split at h
          · exact absurd rfl h
          · refine ⟨by assumption, fun q => absurd q (by assumption), fun _ => ⟨by grind, by grind⟩⟩
theorem canTurn_f {v : uk_Mem} {m : Int32} (h : ¬ e_X7_canTurn v m = 0) : ¬ v.1 62 m.toNatClampNeg = 0 ∧ (e_X7_givesSecond v m = 0 → ¬ 40 < v.1 62 (v.1 64 m.toNatClampNeg).toNatClampNeg + 1) ∧ (¬ e_X7_givesSecond v m = 0 → v.1 64 m.toNatClampNeg = v.1 65 m.toNatClampNeg → ¬ 40 < v.1 62 (v.1 64 m.toNatClampNeg).toNatClampNeg + 2) ∧ (¬ e_X7_givesSecond v m = 0 → ¬ v.1 64 m.toNatClampNeg = v.1 65 m.toNatClampNeg → ¬ 40 < v.1 62 (v.1 64 m.toNatClampNeg).toNatClampNeg + 1 ∧ ¬ 40 ≤ v.1 62 (v.1 65 m.toNatClampNeg).toNatClampNeg) := by
  unfold e_X7_canTurn at h
  dsimp only at h
  simp only [ix_0] at h
  generalize e_X7_givesSecond v m = s at *
  generalize v.1 64 m.toNatClampNeg = A at *
  generalize v.1 65 m.toNatClampNeg = B at *
  generalize v.1 62 m.toNatClampNeg = x at *
  generalize v.1 62 A.toNatClampNeg = y at *
  generalize v.1 62 B.toNatClampNeg = z at *
  by_cases hs : s = 0
  · simp only [hs, if_true] at h
    refine ⟨?_, ?_, fun q => absurd hs q, fun q => absurd hs q⟩
    · intro q
      simp [q] at h
    · intro _ q
      simp [q] at h
  · simp only [if_neg hs] at h
    by_cases hab : A = B
    · simp only [if_pos hab] at h
      refine ⟨?_, fun q => absurd q hs, ?_, fun _ q => absurd hab q⟩
      · intro q
        simp [q] at h
      · intro _ _ q
        simp [q] at h
    · simp only [if_neg hab] at h
      refine ⟨?_, fun q => absurd q hs, fun _ q => absurd q hab, fun _ _ => ⟨?_, ?_⟩⟩
      · intro q
        simp [q] at h
      · intro q
        simp [q] at h
      · intro q
        simp [q] at h
theorem iv_doIt {v : uk_Mem} {g : Int32} (hv : iv v) (hra : ra v) (hd : ¬ e_X7_isDoing v g = 0) (hc : ¬ e_X7_canDo v g = 0) : iv (e_X7_doIt v g) := by
  have hn : 0 ≤ v.1 60 3 ∧ v.1 60 3 ≤ 8 := iv_at hv 60 3 rfl
  have hdo : (0 ≤ g ∧ g < v.1 60 3) ∨ (10 ≤ g ∧ g - 10 < v.1 60 3) := Classical.byContradiction fun q => hd (by rw [isDoing_e hn, if_neg q])
  unfold e_X7_canDo at hc
  dsimp only at hc
  have e8 : ∀ i, i < 8 → uk_rg 62 i = (0, 40) := fun i h => (sg_t5 i (by omega)).trans (sg_t1 i h)
  have e41 : uk_rg 62 41 = (-2147483648, 2147483647) := rfl
  have eh : ∀ i, i < 8 → uk_rg 62 (i + 8) = (-2147483648, 2147483647) := fun i h => (sg_t5 (i + 8) (by omega)).trans (by rw [Nat.add_comm]; exact sg_t4 i (by omega))
  intro c i
  by_cases h62 : c = 62
  · subst h62
    rcases hdo with q | q
    · rw [if_neg (by lia)] at hc
      have h7 : g ≤ 7 := by lia
      have hk := canCook_k hc q.1 h7
      have hr := hra g q.1 q.2 h7
      rw [ix_32 q.1 h7] at hr
      obtain ⟨a0, a1, b0, b1⟩ := hr.resolve_left hk
      obtain ⟨f1, f2, f3⟩ := canCook_f hc
      rw [show e_X7_doIt v g = e_X7_doIt_a v g from if_pos (by lia), da_j q.1 h7 (by lia) (by lia) a0 b0 i]
      have la := uk_cln 7 7 rfl a0 (by lia)
      have lb := uk_cln 7 7 rfl b0 (by lia)
      have lg := uk_cln 7 7 rfl q.1 h7
      have na := uk_cll a0 a1
      have nb := uk_cll b0 b1
      have hab : v.1 64 g.toNatClampNeg = v.1 65 g.toNatClampNeg ↔ (v.1 64 g.toNatClampNeg).toNatClampNeg = (v.1 65 g.toNatClampNeg).toNatClampNeg := ⟨fun z => by rw [z], fun z => uk_cinj a0 b0 z⟩
      by_cases i41 : i = 41
      · rw [if_pos i41, i41, e41]
        exact ⟨uk_mn _, uk_mx _⟩
      · rw [if_neg i41]
        by_cases i8 : i < 8
        · rw [e8 i i8]
          have pi := iv_at hv 62 i (e8 i i8)
          rw [hab] at f2 f3
          generalize (v.1 64 g.toNatClampNeg).toNatClampNeg = A at *
          generalize (v.1 65 g.toNatClampNeg).toNatClampNeg = B at *
          generalize g.toNatClampNeg = M at *
          have pA := iv_at hv 62 A (e8 A (by omega))
          have pB := iv_at hv 62 B (e8 B (by omega))
          have pM := iv_at hv 62 M (e8 M (by omega))
          show 0 ≤ _ ∧ _ ≤ (40 : Int32)
          by_cases iM : i = M
          · rw [if_pos iM, if_neg (by omega), if_neg (by omega), iM]
            exact ⟨by lia, by lia⟩
          · rw [if_neg iM]
            by_cases iA : i = A
            · by_cases iB : i = B
              · rw [if_pos iA, if_pos iB, iA]
                have := f2 (by omega)
                exact ⟨by lia, by lia⟩
              · rw [if_pos iA, if_neg iB, iA]
                have := f3 (by omega)
                exact ⟨by lia, by lia⟩
            · by_cases iB : i = B
              · rw [if_neg iA, if_pos iB, iB]
                have := f3 (by omega)
                exact ⟨by lia, by lia⟩
              · rw [if_neg iA, if_neg iB]
                exact ⟨by lia, by lia⟩
        · rw [if_neg (by omega), if_neg (by omega), if_neg (by omega), show v.1 62 i + 0 - 0 - 0 = v.1 62 i by grind]
          exact hv 62 i
    · rw [if_pos q.1] at hc
      have m0 : 0 ≤ g - 10 := by lia
      have m7 : g - 10 ≤ 7 := by lia
      have hk := canTurn_k hc m0 m7
      have hr := hra (g - 10) m0 q.2 m7
      rw [ix_32 m0 m7] at hr
      obtain ⟨a0, a1, b0, b1⟩ := hr.resolve_left hk
      obtain ⟨f1, f2, f3, f4⟩ := canTurn_f hc
      rw [show e_X7_doIt v g = e_X7_doIt_b v g from if_neg (by lia), db_j q.1 (by lia) (by lia) (by lia) a0 b0 i]
      generalize g - 10 = m at *
      have la := uk_cln 7 7 rfl a0 (by lia)
      have lb := uk_cln 7 7 rfl b0 (by lia)
      have lg := uk_cln 7 7 rfl m0 m7
      have na := uk_cll a0 a1
      have nb := uk_cll b0 b1
      have hab : v.1 64 m.toNatClampNeg = v.1 65 m.toNatClampNeg ↔ (v.1 64 m.toNatClampNeg).toNatClampNeg = (v.1 65 m.toNatClampNeg).toNatClampNeg := ⟨fun z => by rw [z], fun z => uk_cinj a0 b0 z⟩
      by_cases i41 : i = 41
      · rw [if_pos i41, i41, e41]
        exact ⟨uk_mn _, uk_mx _⟩
      · rw [if_neg i41]
        by_cases ih : i = m.toNatClampNeg + 8
        · rw [if_pos ih, ih, eh _ (by omega)]
          exact ⟨uk_mn _, uk_mx _⟩
        · rw [if_neg ih]
          by_cases i8 : i < 8
          · rw [e8 i i8]
            have pi := iv_at hv 62 i (e8 i i8)
            rw [hab] at f3 f4
            generalize e_X7_givesSecond v m = s at *
            generalize (v.1 64 m.toNatClampNeg).toNatClampNeg = A at *
            generalize (v.1 65 m.toNatClampNeg).toNatClampNeg = B at *
            generalize m.toNatClampNeg = M at *
            have pA := iv_at hv 62 A (e8 A (by omega))
            have pB := iv_at hv 62 B (e8 B (by omega))
            have pM := iv_at hv 62 M (e8 M (by omega))
            show 0 ≤ _ ∧ _ ≤ (40 : Int32)
            by_cases hs : s = 0
            · have f2 := f2 hs
              rw [if_pos hs]
              by_cases iM : i = M
              · rw [if_pos iM, if_neg (by omega), if_neg (by omega), iM]
                exact ⟨by lia, by lia⟩
              · by_cases iA : i = A
                · rw [if_neg iM, if_pos iA, iA]
                  clear f3 f4
                  split
                  · exact ⟨by lia, by lia⟩
                  · exact ⟨by lia, by lia⟩
                · rw [if_neg iM, if_neg iA]
                  split
                  · exact ⟨by lia, by lia⟩
                  · exact ⟨by lia, by lia⟩
            · have f3 := f3 hs
              have f4 := f4 hs
              rw [if_neg hs]
              by_cases iM : i = M
              · rw [if_pos iM, if_neg (by omega), if_neg (by omega), iM]
                exact ⟨by lia, by lia⟩
              · by_cases iA : i = A
                · by_cases iB : i = B
                  · rw [if_neg iM, if_pos iA, if_pos iB, iA]
                    have := f3 (by omega)
                    exact ⟨by lia, by lia⟩
                  · rw [if_neg iM, if_pos iA, if_neg iB, iA]
                    have := f4 (by omega)
                    exact ⟨by lia, by lia⟩
                · by_cases iB : i = B
                  · rw [if_neg iM, if_neg iA, if_pos iB, iB]
                    have := f4 (by omega)
                    exact ⟨by lia, by lia⟩
                  · rw [if_neg iM, if_neg iA, if_neg iB]
                    exact ⟨by lia, by lia⟩
          · rw [if_neg (by omega), if_neg (by omega), if_neg (by omega), show v.1 62 i - 0 + 0 + 0 = v.1 62 i by grind]
            exact hv 62 i
  · rw [doIt_c h62]
    exact hv c i
theorem iv_ends {v : uk_Mem} (hv : iv v) : iv (e_X7_ends v) := fun c i => by
  by_cases hc : c = 61
  · subst hc
    by_cases hi : i < 51
    · rw [ends_j hi, ← sg_t5 i hi]
      exact hv 62 i
    · rw [ends_o (by omega)]
      exact hv 61 i
  · rw [ends_c hc]
    exact hv c i
/-- the kinds stay -/
theorem doIt_k {v : uk_Mem} {g : Int32} (hv : iv v) (hra : ra v) (hd : ¬ e_X7_isDoing v g = 0) (hc : ¬ e_X7_canDo v g = 0) {i : Nat} (h1 : 16 ≤ i) (h2 : ¬ i = 41) : (e_X7_doIt v g).1 62 i = v.1 62 i := by
  have hn : 0 ≤ v.1 60 3 ∧ v.1 60 3 ≤ 8 := iv_at hv 60 3 rfl
  have hdo : (0 ≤ g ∧ g < v.1 60 3) ∨ (10 ≤ g ∧ g - 10 < v.1 60 3) := Classical.byContradiction fun q => hd (by rw [isDoing_e hn, if_neg q])
  unfold e_X7_canDo at hc
  dsimp only at hc
  rcases hdo with q | q
  · rw [if_neg (by lia)] at hc
    have h7 : g ≤ 7 := by lia
    have hk := canCook_k hc q.1 h7
    have hr := hra g q.1 q.2 h7
    rw [ix_32 q.1 h7] at hr
    obtain ⟨a0, a1, b0, b1⟩ := hr.resolve_left hk
    have la := uk_cln 7 7 rfl a0 (by lia)
    have lb := uk_cln 7 7 rfl b0 (by lia)
    have lg := uk_cln 7 7 rfl q.1 h7
    rw [show e_X7_doIt v g = e_X7_doIt_a v g from if_pos (by lia), da_j q.1 h7 (by lia) (by lia) a0 b0 i, if_neg h2, if_neg (by omega), if_neg (by omega), if_neg (by omega)]
    grind
  · rw [if_pos q.1] at hc
    have m0 : 0 ≤ g - 10 := by lia
    have m7 : g - 10 ≤ 7 := by lia
    have hk := canTurn_k hc m0 m7
    have hr := hra (g - 10) m0 q.2 m7
    rw [ix_32 m0 m7] at hr
    obtain ⟨a0, a1, b0, b1⟩ := hr.resolve_left hk
    have la := uk_cln 7 7 rfl a0 (by lia)
    have lb := uk_cln 7 7 rfl b0 (by lia)
    have lg := uk_cln 7 7 rfl m0 m7
    rw [show e_X7_doIt v g = e_X7_doIt_b v g from if_neg (by lia), db_j q.1 (by lia) (by lia) (by lia) a0 b0 i, if_neg h2, if_neg (by omega), if_neg (by omega), if_neg (by omega), if_neg (by omega)]
    grind
theorem ra_doIt {v : uk_Mem} {g : Int32} (hv : iv v) (hra : ra v) (hd : ¬ e_X7_isDoing v g = 0) (hc : ¬ e_X7_canDo v g = 0) : ra (e_X7_doIt v g) := by
  unfold ra
  rw [doIt_c (d := 60) (by decide), doIt_c (d := 64) (by decide), doIt_c (d := 65) (by decide)]
  refine rk_eq hra (fun m m0 m7 => ?_)
  have := uk_cln 7 7 rfl m0 m7
  rw [ix_32 m0 m7]
  exact doIt_k hv hra hd hc (by omega) (by omega)
theorem does_c {v : uk_Mem} {g : Int32} {d : Nat} (h1 : ¬ d = 61) (h2 : ¬ d = 62) : (e_X7_does v g).2.1 d = v.1 d := by
  unfold e_X7_does
  dsimp only
  split
  · rfl
  · split
    · exact starts_c h2
    · dsimp only
      rw [ends_c h1, doIt_c h2, starts_c h2]
theorem iv_does {v : uk_Mem} {g : Int32} (hv : iv v) (hri : ri v) : iv (e_X7_does v g).2 ∧ ri (e_X7_does v g).2 := by
  have hv7 := iv_starts hv
  have hra7 := ra_starts hri
  have hn : 0 ≤ v.1 60 3 ∧ v.1 60 3 ≤ 8 := iv_at hv 60 3 rfl
  have n60 : (e_X7_starts v).1 60 3 = v.1 60 3 := by rw [starts_c (by decide)]
  have hd7 : e_X7_isDoing (e_X7_starts v) g = e_X7_isDoing v g := by rw [isDoing_e hn, isDoing_e (by rw [n60]; exact hn), n60]
  have hri7 : ri (e_X7_starts v) := ri_kp hri n60 (starts_c (by decide)) (starts_c (by decide)) (starts_c (by decide)) (starts_c (by decide))
  unfold e_X7_does
  dsimp only
  by_cases h1 : e_X7_isDoing v g = 0
  · rw [if_pos h1]
    exact ⟨hv, hri⟩
  · rw [if_neg h1]
    by_cases h2 : e_X7_canDo (e_X7_starts v) g = 0
    · rw [if_pos h2]
      exact ⟨hv7, hri7⟩
    · rw [if_neg h2]
      have hd := (show ¬ e_X7_isDoing (e_X7_starts v) g = 0 by rw [hd7]; exact h1)
      have i8 := iv_doIt hv7 hra7 hd h2
      have r8 := ra_doIt hv7 hra7 hd h2
      have ri8 : ri (e_X7_doIt (e_X7_starts v) g) := ri_kp hri7 (by rw [doIt_c (by decide)]) (doIt_c (by decide)) (doIt_c (by decide)) (doIt_c (by decide)) (doIt_c (by decide))
      refine ⟨iv_ends i8, ri_of ri8 r8 (by rw [ends_c (by decide)]) (ends_c (by decide)) (ends_c (by decide)) (ends_c (by decide)) (fun i i0 i1 => ends_j (by have := uk_cln 50 50 rfl i0 (by lia); omega)) (fun i i0 => ends_o (by have := uk_cge 51 51 rfl i0; omega))⟩
/-! answers: rule, stuff, can, count -/
theorem raw_e {u v : uk_Mem} {i : Int32} (h0 : 0 ≤ i) (h7 : i ≤ 7) (h : u.1 14 i.toNatClampNeg = v.1 61 (i.toNatClampNeg + 32)) : (e_X0_isMade u 13 i = 0 ∧ e_X7_isRaw v i = 1) ∨ (e_X0_isMade u 13 i = 1 ∧ e_X7_isRaw v i = 0) := by
  unfold e_X0_isMade e_X7_isRaw
  dsimp only
  rw [ix_32 h0 h7, show u.1 (13 + 1) i.toNatClampNeg = u.1 14 i.toNatClampNeg from rfl, h]
  by_cases q : v.1 61 (i.toNatClampNeg + 32) = 4
  · rw [if_pos q]
    simp [q]
  · rw [if_neg q]
    simp [q]
theorem flag_e {m : uk_Mem} {x : Int32} : e_X7_flag m x = if x = 0 then 0 else 1 := rfl
/-! images -/
def relS : List Nat := [3, 50, 51, 53, 54, 55, 56, 64, 65, 69, 74, 75, 76]
theorem REL_mk {u u' : uk_Mem} (h : REL u) (hc : ∀ c, c ∈ relS → u'.1 c = u.1 c) (h1 : u'.1 0 13 = u.1 0 13) (h2 : u'.1 0 14 = u.1 0 14) (h3 : u'.1 2 1 = u.1 2 1) (h5 : u'.1 60 13 = u.1 60 13) (h6 : u'.1 60 18 = u.1 60 18) (h7 : u'.1 60 28 = u.1 60 28) (K0 : KR u' u' 13 61 0) (I : u'.1 40 0 = u'.1 63 0 ∧ u'.1 40 1 = u'.1 63 1) (K1 : ¬ u'.1 63 0 = 0 → KR u' u' 22 61 51) (K2 : ¬ u'.1 63 1 = 0 → KR u' u' 31 61 102) : REL u' := by
  obtain ⟨-, -, -, -, ⟨t1, t2, t3, t4⟩, sh⟩ := h
  refine ⟨K0, I, K1, K2, ⟨by rw [h3, h5]; exact t1, by rw [hc 3 (by decide), hc 69 (by decide), h3]; exact t2, by rw [h1, h6]; exact t3, by rw [h2, h7]; exact t4⟩, fun k hk => ?_⟩
  have h53 : u'.1 (53 + k) = u.1 (53 + k) := hc _ (by rcases (show k = 0 ∨ k = 1 ∨ k = 2 ∨ k = 3 by omega) with rfl | rfl | rfl | rfl <;> decide)
  rw [hc 50 (by decide), hc 51 (by decide), hc 74 (by decide), hc 75 (by decide), hc 76 (by decide), h53]
  exact sh k hk
theorem iv_42 {u : uk_Mem} (hu : iv u) {T : Nat} (hT : T = 0 ∨ T = 51 ∨ T = 102) : 0 ≤ u.1 61 (T + 42) ∧ u.1 61 (T + 42) ≤ 8 := by
  rcases hT with rfl | rfl | rfl
  · exact iv_at hu 61 (0 + 42) rfl
  · exact iv_at hu 61 (51 + 42) rfl
  · exact iv_at hu 61 (102 + 42) rfl
/-- a row of the reference is copied to another, a kitchen to another -/
theorem KR_cp {u v u' v' : uk_Mem} {b c o c' o' : Nat} (h : KR u v b c o) (hn : v.1 60 3 ≤ 8) (hs : v.1 c (o + 42) ≤ 8) (hu : ∀ d, b ≤ d → d ≤ b + 8 → u'.1 d = u.1 d) (h60 : v'.1 60 3 = v.1 60 3) (hc : ∀ j, j < 51 → v'.1 c' (j + o') = v.1 c (j + o)) (h64 : v'.1 64 = v.1 64) (h65 : v'.1 65 = v.1 65) : KR u' v' b c' o' := KR_cg (KR_row h hn hs h60 hc h64 h65) hu rfl rfl rfl rfl
theorem tI_0 : (0 : Int32).toInt = ((0 : Nat) : Int) := rfl
theorem tI_51 : (51 : Int32).toInt = ((51 : Nat) : Int) := rfl
theorem tI_102 : (102 : Int32).toInt = ((102 : Nat) : Int) := rfl
theorem im1 {u : uk_Mem} {k : Int32} (h : 0 ≤ k ∧ k ≤ 1) : e_X6_isImage u k = 1 := by
  unfold e_X6_isImage
  rw [if_neg (by lia), if_neg (by lia)]
theorem keep6 {u : uk_Mem} {k : Int32} {b : Nat} (h : 0 ≤ k ∧ k ≤ 1) (hb : (if k = 0 then 22 else 31) = b) : e_X6_keep u k = (if u.1 40 k.toNatClampNeg = 0 then 0 else 1, uk_up (e_X0_copyFrom u b 13) 40 k.toNatClampNeg 1) := by
  unfold e_X6_keep
  dsimp only
  rw [im1 h, if_neg one0, hb]
  by_cases q : u.1 40 k.toNatClampNeg = 0
  · rw [if_pos q, if_pos q]
  · rw [if_neg q, if_neg q]
theorem keep7 {v : uk_Mem} {k t : Int32} (h : 0 ≤ k ∧ k ≤ 1) (ht : 51 * (k + 1) = t) : e_X7_keep v k = (if v.1 63 k.toNatClampNeg = 0 then 0 else 1, e_X7_copies (uk_up v 63 k.toNatClampNeg 1) t 0) := by
  unfold e_X7_keep
  dsimp only
  rw [show e_X7_in v k 0 1 = 1 from if_pos h, if_neg one0, ht, flag_e]
theorem back6 {u : uk_Mem} {k : Int32} {b : Nat} (h : 0 ≤ k ∧ k ≤ 1) (hb : (if k = 0 then 22 else 31) = b) : e_X6_back u k = if u.1 40 k.toNatClampNeg = 0 then (-2, u) else ((e_X0_copyFrom u 13 b).1 13 10, e_X0_copyFrom u 13 b) := by
  unfold e_X6_back
  dsimp only
  rw [im1 h, if_neg one0, hb]
theorem back7 {v : uk_Mem} {k t : Int32} (h : 0 ≤ k ∧ k ≤ 1) (ht : 51 * (k + 1) = t) : e_X7_back v k = if v.1 63 k.toNatClampNeg = 0 then (-2, v) else ((e_X7_copies v 0 t).1 61 40, e_X7_copies v 0 t) := by
  unfold e_X7_back
  dsimp only
  rw [show e_X7_in v k 0 1 = 1 from if_pos h, if_neg one0, ht, show (40 : Int32).toNatClampNeg = 40 from rfl]
theorem keep_R {u u1 u2 : uk_Mem} {k : Int32} (h : REL u) (hu : iv u) (e1 : u1 = (e_X6_keep u k).2) (e2 : u2 = (e_X7_keep u1 k).2) : (e_X6_keep u k).1 = (e_X7_keep u1 k).1 ∧ REL u2 := by
  have hn : 0 ≤ u.1 60 3 ∧ u.1 60 3 ≤ 8 := iv_at hu 60 3 rfl
  have n8 := uk_cln 8 8 rfl hn.1 hn.2
  have s0 := iv_42 hu (T := 0) (by omega)
  have s8 := uk_cln 8 8 rfl s0.1 s0.2
  obtain ⟨K0, ⟨i0, i1⟩, K1, K2, T, sh⟩ := h
  have h : REL u := ⟨K0, ⟨i0, i1⟩, K1, K2, T, sh⟩
  have z0 : (0 : Int32).toNatClampNeg = 0 := rfl
  have z1 : (1 : Int32).toNatClampNeg = 1 := rfl
  by_cases k0 : k = 0
  · subst k0
    have d22 : Dj 22 13 := Dj_of uk_isK22 uk_isK13 (by decide)
    have B1 := keep6 (u := u) (k := 0) (b := 22) ⟨by decide, by decide⟩ rfl
    have B2 := keep7 (v := u1) (k := 0) (t := 51) ⟨by decide, by decide⟩ (by decide)
    rw [z0] at B1 B2
    have E1 : u1 = uk_up (e_X0_copyFrom u 22 13) 40 0 1 := by rw [e1, B1]
    have E2 : u2 = e_X7_copies (uk_up u1 63 0 1) 51 0 := by rw [e2, B2]
    have A : (e_X6_keep u 0).1 = (e_X7_keep u1 0).1 := by
      rw [B1, B2]
      dsimp only
      rw [E1, uk_up_oc (b := 63) (by decide), cf_o d22 (by omega), i0]
    have c1 : ∀ d, (d < 22 ∨ 31 ≤ d) → ¬ d = 40 → ¬ d = 63 → ¬ d = 61 → u2.1 d = u.1 d := fun d h1 h2 h3 h4 => by
      rw [E2, cp_c tI_51 tI_0 (by omega) (by omega) (by omega) h4, uk_up_oc h3, E1, uk_up_oc h2, cf_o d22 (by omega)]
    have c22 : ∀ d, 22 ≤ d → d ≤ 30 → u2.1 d = (e_X0_copyFrom u 22 13).1 d := fun d h1 h2 => by
      rw [E2, cp_c tI_51 tI_0 (by omega) (by omega) (by omega) (by omega), uk_up_oc (by omega), E1, uk_up_oc (by omega)]
    have r0 : ∀ j, j < 51 → u2.1 61 j = u.1 61 j := fun j hj => by
      rw [E2, cp_o tI_51 tI_0 (by omega) (by omega) (by omega) (by omega), uk_up_oc (by decide), E1, uk_up_oc (by decide), cf_o d22 (by omega)]
    have r1 : ∀ j, j < 51 → u2.1 61 (j + 51) = u.1 61 j := fun j hj => by
      rw [E2, cp_j tI_51 tI_0 (by omega) (by omega) (by omega) hj, uk_up_oc (by decide), E1, uk_up_oc (by decide), cf_o d22 (by omega)]
      rfl
    have r2 : ∀ j, 102 ≤ j → u2.1 61 j = u.1 61 j := fun j hj => by
      rw [E2, cp_o tI_51 tI_0 (by omega) (by omega) (by omega) (by omega), uk_up_oc (by decide), E1, uk_up_oc (by decide), cf_o d22 (by omega)]
    have e40 : ∀ j, u2.1 40 j = if j = 0 then 1 else u.1 40 j := fun j => by
      rw [E2, cp_c tI_51 tI_0 (by omega) (by omega) (by omega) (by decide), uk_up_oc (by decide), E1, uk_up_at, cf_o d22 (by omega)]
      simp
    have e63 : ∀ j, u2.1 63 j = if j = 0 then 1 else u.1 63 j := fun j => by
      rw [E2, cp_c tI_51 tI_0 (by omega) (by omega) (by omega) (by decide), uk_up_at, E1, uk_up_oc (by decide), cf_o d22 (by omega)]
      simp
    have o60 : u2.1 60 = u.1 60 := c1 60 (by omega) (by omega) (by omega) (by omega)
    have o64 : u2.1 64 = u.1 64 := c1 64 (by omega) (by omega) (by omega) (by omega)
    have o65 : u2.1 65 = u.1 65 := c1 65 (by omega) (by omega) (by omega) (by omega)
    refine ⟨A, REL_mk h (fun c hc => c1 c ?_ ?_ ?_ ?_) (by rw [c1 0 (by omega) (by omega) (by omega) (by omega)]) (by rw [c1 0 (by omega) (by omega) (by omega) (by omega)]) (by rw [c1 2 (by omega) (by omega) (by omega) (by omega)]) (by rw [o60]) (by rw [o60]) (by rw [o60]) ?_ ⟨by rw [e40, e63, if_pos rfl, if_pos rfl], by rw [e40, e63, if_neg (by decide), if_neg (by decide)]; exact i1⟩ (fun _ => ?_) (fun q => ?_)⟩
    · exact (show ∀ c, c ∈ relS → c < 22 ∨ 31 ≤ c by decide) c hc
    · exact (show ∀ c, c ∈ relS → ¬ c = 40 by decide) c hc
    · exact (show ∀ c, c ∈ relS → ¬ c = 63 by decide) c hc
    · exact (show ∀ c, c ∈ relS → ¬ c = 61 by decide) c hc
    · exact KR_cp K0 hn.2 s0.2 (fun d d1 d2 => c1 d (by omega) (by omega) (by omega) (by omega)) (by rw [o60]) (fun j hj => r0 j hj) o64 o65
    · exact KR_cp (KR_copy d22 K0 n8 s8) hn.2 s0.2 (fun d d1 d2 => c22 d (by omega) (by omega)) (by rw [o60]) (fun j hj => r1 j hj) o64 o65
    · rw [e63, if_neg (by decide)] at q
      exact KR_cp (K2 q) hn.2 (iv_42 hu (by omega)).2 (fun d d1 d2 => c1 d (by omega) (by omega) (by omega) (by omega)) (by rw [o60]) (fun j hj => r2 _ (by omega)) o64 o65
  · by_cases k1 : k = 1
    · subst k1
      have d31 : Dj 31 13 := Dj_of uk_isK31 uk_isK13 (by decide)
      have B1 := keep6 (u := u) (k := 1) (b := 31) ⟨by decide, by decide⟩ rfl
      have B2 := keep7 (v := u1) (k := 1) (t := 102) ⟨by decide, by decide⟩ (by decide)
      rw [z1] at B1 B2
      have E1 : u1 = uk_up (e_X0_copyFrom u 31 13) 40 1 1 := by rw [e1, B1]
      have E2 : u2 = e_X7_copies (uk_up u1 63 1 1) 102 0 := by rw [e2, B2]
      have A : (e_X6_keep u 1).1 = (e_X7_keep u1 1).1 := by
        rw [B1, B2]
        dsimp only
        rw [E1, uk_up_oc (b := 63) (by decide), cf_o d31 (by omega), i1]
      have c1 : ∀ d, (d < 31 ∨ 40 ≤ d) → ¬ d = 40 → ¬ d = 63 → ¬ d = 61 → u2.1 d = u.1 d := fun d h1 h2 h3 h4 => by
        rw [E2, cp_c tI_102 tI_0 (by omega) (by omega) (by omega) h4, uk_up_oc h3, E1, uk_up_oc h2, cf_o d31 (by omega)]
      have c31 : ∀ d, 31 ≤ d → d ≤ 39 → u2.1 d = (e_X0_copyFrom u 31 13).1 d := fun d h1 h2 => by
        rw [E2, cp_c tI_102 tI_0 (by omega) (by omega) (by omega) (by omega), uk_up_oc (by omega), E1, uk_up_oc (by omega)]
      have r0 : ∀ j, j < 102 → u2.1 61 j = u.1 61 j := fun j hj => by
        rw [E2, cp_o tI_102 tI_0 (by omega) (by omega) (by omega) (by omega), uk_up_oc (by decide), E1, uk_up_oc (by decide), cf_o d31 (by omega)]
      have r2 : ∀ j, j < 51 → u2.1 61 (j + 102) = u.1 61 j := fun j hj => by
        rw [E2, cp_j tI_102 tI_0 (by omega) (by omega) (by omega) hj, uk_up_oc (by decide), E1, uk_up_oc (by decide), cf_o d31 (by omega)]
        rfl
      have e40 : ∀ j, u2.1 40 j = if j = 1 then 1 else u.1 40 j := fun j => by
        rw [E2, cp_c tI_102 tI_0 (by omega) (by omega) (by omega) (by decide), uk_up_oc (by decide), E1, uk_up_at, cf_o d31 (by omega)]
        simp
      have e63 : ∀ j, u2.1 63 j = if j = 1 then 1 else u.1 63 j := fun j => by
        rw [E2, cp_c tI_102 tI_0 (by omega) (by omega) (by omega) (by decide), uk_up_at, E1, uk_up_oc (by decide), cf_o d31 (by omega)]
        simp
      have o60 : u2.1 60 = u.1 60 := c1 60 (by omega) (by omega) (by omega) (by omega)
      have o64 : u2.1 64 = u.1 64 := c1 64 (by omega) (by omega) (by omega) (by omega)
      have o65 : u2.1 65 = u.1 65 := c1 65 (by omega) (by omega) (by omega) (by omega)
      refine ⟨A, REL_mk h (fun c hc => c1 c ?_ ?_ ?_ ?_) (by rw [c1 0 (by omega) (by omega) (by omega) (by omega)]) (by rw [c1 0 (by omega) (by omega) (by omega) (by omega)]) (by rw [c1 2 (by omega) (by omega) (by omega) (by omega)]) (by rw [o60]) (by rw [o60]) (by rw [o60]) ?_ ⟨by rw [e40, e63, if_neg (by decide), if_neg (by decide)]; exact i0, by rw [e40, e63, if_pos rfl, if_pos rfl]⟩ (fun q => ?_) (fun _ => ?_)⟩
      · exact (show ∀ c, c ∈ relS → c < 31 ∨ 40 ≤ c by decide) c hc
      · exact (show ∀ c, c ∈ relS → ¬ c = 40 by decide) c hc
      · exact (show ∀ c, c ∈ relS → ¬ c = 63 by decide) c hc
      · exact (show ∀ c, c ∈ relS → ¬ c = 61 by decide) c hc
      · exact KR_cp K0 hn.2 s0.2 (fun d d1 d2 => c1 d (by omega) (by omega) (by omega) (by omega)) (by rw [o60]) (fun j hj => r0 _ (by omega)) o64 o65
      · rw [e63, if_neg (by decide)] at q
        exact KR_cp (K1 q) hn.2 (iv_42 hu (by omega)).2 (fun d d1 d2 => c1 d (by omega) (by omega) (by omega) (by omega)) (by rw [o60]) (fun j hj => r0 _ (by omega)) o64 o65
      · exact KR_cp (KR_copy d31 K0 n8 s8) hn.2 s0.2 (fun d d1 d2 => c31 d (by omega) (by omega)) (by rw [o60]) (fun j hj => r2 j hj) o64 o65
    · have hi : e_X6_isImage u k = 0 := by
        unfold e_X6_isImage
        by_cases q : k < 0
        · rw [if_pos q]
        · rw [if_neg q, if_pos (by lia)]
      have a1 : e_X6_keep u k = (-1, u) := by
        unfold e_X6_keep
        dsimp only
        rw [hi, if_pos rfl]
      have h7 : e_X7_in u1 k 0 1 = 0 := if_neg (fun q => by have := q.1; have := q.2; lia)
      have a2 : e_X7_keep u1 k = (-1, u1) := by
        unfold e_X7_keep
        dsimp only
        rw [h7, if_pos rfl]
      rw [a1] at e1 ⊢
      rw [a2] at e2 ⊢
      rw [e2, e1]
      exact ⟨rfl, h⟩
theorem back_R {u u1 u2 : uk_Mem} {k : Int32} (h : REL u) (hu : iv u) (e1 : u1 = (e_X6_back u k).2) (e2 : u2 = (e_X7_back u1 k).2) : (e_X6_back u k).1 = (e_X7_back u1 k).1 ∧ REL u2 := by
  have hn : 0 ≤ u.1 60 3 ∧ u.1 60 3 ≤ 8 := iv_at hu 60 3 rfl
  have n8 := uk_cln 8 8 rfl hn.1 hn.2
  obtain ⟨K0, ⟨i0, i1⟩, K1, K2, T, sh⟩ := h
  have h : REL u := ⟨K0, ⟨i0, i1⟩, K1, K2, T, sh⟩
  have z0 : (0 : Int32).toNatClampNeg = 0 := rfl
  have z1 : (1 : Int32).toNatClampNeg = 1 := rfl
  -- what both do, for an image whose cells begin at b and whose row begins at R
  have key : ∀ (b R : Nat) (r : Int32), ((b = 22 ∧ R = 51) ∨ (b = 31 ∧ R = 102)) → r.toInt = (R : Int) → uk_isK b → KR u u b 61 R → u1 = e_X0_copyFrom u 13 b → u2 = e_X7_copies u1 0 r → u1.1 13 10 = u2.1 61 40 ∧ REL u2 := by
    intro b R r hb hr hib KI E1 E2
    have d13 : Dj 13 b := Dj_of uk_isK13 hib (by omega)
    have s := iv_42 hu (T := R) (by omega)
    have s8 := uk_cln 8 8 rfl s.1 s.2
    have c1 : ∀ d, (d < 13 ∨ 22 ≤ d) → ¬ d = 61 → u2.1 d = u.1 d := fun d h1 h4 => by
      rw [E2, cp_c tI_0 hr (by omega) (by omega) (by omega) h4, E1, cf_o d13 (by omega)]
    have c13 : ∀ d, 13 ≤ d → d ≤ 21 → u2.1 d = (e_X0_copyFrom u 13 b).1 d := fun d h1 h2 => by
      rw [E2, cp_c tI_0 hr (by omega) (by omega) (by omega) (by omega), E1]
    have r0 : ∀ j, j < 51 → u2.1 61 (j + 0) = u.1 61 (j + R) := fun j hj => by
      rw [E2, cp_j tI_0 hr (by omega) (by omega) (by omega) hj, E1, cf_o d13 (by omega)]
    have r1 : ∀ j, 51 ≤ j → u2.1 61 j = u.1 61 j := fun j hj => by
      rw [E2, cp_o tI_0 hr (by omega) (by omega) (by omega) (by omega), E1, cf_o d13 (by omega)]
    have o60 : u2.1 60 = u.1 60 := c1 60 (by omega) (by omega)
    have o64 : u2.1 64 = u.1 64 := c1 64 (by omega) (by omega)
    have o65 : u2.1 65 = u.1 65 := c1 65 (by omega) (by omega)
    have KK : KR u2 u2 13 61 0 := KR_cp (KR_copy d13 KI n8 s8) hn.2 s.2 (fun d d1 d2 => c13 d (by omega) (by omega)) (by rw [o60]) r0 o64 o65
    refine ⟨?_, REL_mk h (fun c hc => c1 c ((show ∀ c, c ∈ relS → c < 13 ∨ 22 ≤ c by decide) c hc) ((show ∀ c, c ∈ relS → ¬ c = 61 by decide) c hc)) (by rw [c1 0 (by omega) (by omega)]) (by rw [c1 0 (by omega) (by omega)]) (by rw [c1 2 (by omega) (by omega)]) (by rw [o60]) (by rw [o60]) (by rw [o60]) KK ⟨by rw [c1 40 (by omega) (by omega), c1 63 (by omega) (by omega)]; exact i0, by rw [c1 40 (by omega) (by omega), c1 63 (by omega) (by omega)]; exact i1⟩ (fun q => ?_) (fun q => ?_)⟩
    · have := KK.2.2.1
      rw [c13 13 (by omega) (by omega), ← E1] at this
      exact this
    · rw [c1 63 (by omega) (by omega)] at q
      exact KR_cp (K1 q) hn.2 (iv_42 hu (by omega)).2 (fun d d1 d2 => c1 d (by omega) (by omega)) (by rw [o60]) (fun j hj => r1 _ (by omega)) o64 o65
    · rw [c1 63 (by omega) (by omega)] at q
      exact KR_cp (K2 q) hn.2 (iv_42 hu (by omega)).2 (fun d d1 d2 => c1 d (by omega) (by omega)) (by rw [o60]) (fun j hj => r1 _ (by omega)) o64 o65
  by_cases k0 : k = 0
  · subst k0
    have a1 := back6 (u := u) (k := 0) (b := 22) ⟨by decide, by decide⟩ rfl
    have a2 := back7 (v := u1) (k := 0) (t := 51) ⟨by decide, by decide⟩ (by decide)
    rw [z0] at a1 a2
    by_cases q : u.1 40 0 = 0
    · rw [if_pos q] at a1
      rw [a1] at e1 ⊢
      have e1 : u1 = u := e1
      rw [e1, ← i0, if_pos q] at a2
      rw [e1, a2] at e2 ⊢
      rw [e2]
      exact ⟨rfl, h⟩
    · rw [if_neg q] at a1
      rw [a1] at e1 ⊢
      have o63 : u1.1 63 0 = u.1 63 0 := by
        rw [e1]
        rw [cf_o (Dj_of uk_isK13 uk_isK22 (by decide)) (by omega)]
      rw [o63, ← i0, if_neg q] at a2
      rw [a2] at e2 ⊢
      have := key 22 51 51 (by omega) tI_51 uk_isK22 (K1 (by rw [← i0]; exact q)) e1 e2
      refine ⟨?_, this.2⟩
      dsimp only at e1 e2 ⊢
      rw [← e1, ← e2]
      exact this.1
  · by_cases k1 : k = 1
    · subst k1
      have a1 := back6 (u := u) (k := 1) (b := 31) ⟨by decide, by decide⟩ rfl
      have a2 := back7 (v := u1) (k := 1) (t := 102) ⟨by decide, by decide⟩ (by decide)
      rw [z1] at a1 a2
      by_cases q : u.1 40 1 = 0
      · rw [if_pos q] at a1
        rw [a1] at e1 ⊢
        have e1 : u1 = u := e1
        rw [e1, ← i1, if_pos q] at a2
        rw [e1, a2] at e2 ⊢
        rw [e2]
        exact ⟨rfl, h⟩
      · rw [if_neg q] at a1
        rw [a1] at e1 ⊢
        have o63 : u1.1 63 1 = u.1 63 1 := by
          rw [e1]
          rw [cf_o (Dj_of uk_isK13 uk_isK31 (by decide)) (by omega)]
        rw [o63, ← i1, if_neg q] at a2
        rw [a2] at e2 ⊢
        have := key 31 102 102 (by omega) tI_102 uk_isK31 (K2 (by rw [← i1]; exact q)) e1 e2
        refine ⟨?_, this.2⟩
        dsimp only at e1 e2 ⊢
        rw [← e1, ← e2]
        exact this.1
    · have hi : e_X6_isImage u k = 0 := by
        unfold e_X6_isImage
        by_cases q : k < 0
        · rw [if_pos q]
        · rw [if_neg q, if_pos (by lia)]
      have a1 : e_X6_back u k = (-1, u) := by
        unfold e_X6_back
        dsimp only
        rw [hi, if_pos rfl]
      have h7 : e_X7_in u1 k 0 1 = 0 := if_neg (fun q => by have := q.1; have := q.2; lia)
      have a2 : e_X7_back u1 k = (-1, u1) := by
        unfold e_X7_back
        dsimp only
        rw [h7, if_pos rfl]
      rw [a1] at e1 ⊢
      rw [a2] at e2 ⊢
      rw [e2, e1]
      exact ⟨rfl, h⟩
/-! sheets -/
theorem ix_40a : ∀ a, a < 4 → ∀ b, b < 40 → ((40 : Int32) * nI a + nI b).toNatClampNeg = b + 40 * a := by decide +kernel
theorem ix_40 {k i : Int32} (k0 : 0 ≤ k) (k3 : k ≤ 3) (i0 : 0 ≤ i) (i39 : i ≤ 39) : ((40 : Int32) * k + i).toNatClampNeg = i.toNatClampNeg + 40 * k.toNatClampNeg := by
  obtain ⟨a, ha, rfl⟩ := nI_of2 (x := k) (M := 3) (n := 3) rfl (by grind) k3
  obtain ⟨b, hb, rfl⟩ := nI_of2 (x := i) (M := 39) (n := 39) rfl (by grind) i39
  rw [ix_40a a (by omega) b (by omega), nI_clamp (n := a) (by omega), nI_clamp (n := b) (by omega)]
theorem renew_l {k : Int32} : ∀ (K : Nat) (i : Int32) (m : uk_Mem), ee_F 40 i K → 0 ≤ i → i ≤ 40 → (∀ c, ¬ c = 53 + k.toNatClampNeg → (l_X3_renew_17 k K i m).1 c = m.1 c) ∧ ∀ j, (l_X3_renew_17 k K i m).1 (53 + k.toNatClampNeg) j = if i.toNatClampNeg ≤ j ∧ j < 40 then 0 else m.1 (53 + k.toNatClampNeg) j := by
  intro K
  induction K with
  | zero =>
    intro i m f h0 h1
    obtain ⟨j, hj⟩ := ee_Fp h1 f
    omega
  | succ K ih =>
    intro i m f h0 h1
    rw [l_X3_renew_17]
    by_cases q : (40 : Int32) ≤ i
    · rw [if_pos q]
      have := uk_cge 40 40 rfl q
      refine ⟨fun _ _ => rfl, fun j => ?_⟩
      rw [if_neg (by omega)]
    · rw [if_neg q]
      dsimp only
      have hc := uk_c1 h0 (by lia)
      have hl := uk_cln 39 39 rfl h0 (by lia)
      obtain ⟨a, c⟩ := ih (i + 1) (uk_up m (52 + 1 + k.toNatClampNeg) i.toNatClampNeg 0) (ee_Fs f (by lia)) (by lia) (by lia)
      refine ⟨fun d hd => (a d hd).trans (uk_up_oc (by omega)), fun j => ?_⟩
      rw [c j, hc, show 52 + 1 + k.toNatClampNeg = 53 + k.toNatClampNeg by omega, uk_up_at]
      generalize i.toNatClampNeg = n at *
      grind
theorem sheet_l {k : Int32} (k0 : 0 ≤ k) (k3 : k ≤ 3) : ∀ (K : Nat) (i : Int32) (m : uk_Mem), ee_F 40 i K → 0 ≤ i → i ≤ 40 → (l_X7_sheet_40 k K i m).1 = 1 ∧ (∀ c, ¬ c = 76 → (l_X7_sheet_40 k K i m).2.1 c = m.1 c) ∧ ∀ j, (l_X7_sheet_40 k K i m).2.1 76 j = if i.toNatClampNeg + 40 * k.toNatClampNeg ≤ j ∧ j < 40 + 40 * k.toNatClampNeg then 0 else m.1 76 j := by
  intro K
  induction K with
  | zero =>
    intro i m f h0 h1
    obtain ⟨j, hj⟩ := ee_Fp h1 f
    omega
  | succ K ih =>
    intro i m f h0 h1
    rw [l_X7_sheet_40]
    by_cases q : (40 : Int32) ≤ i
    · rw [if_pos q]
      have := uk_cge 40 40 rfl q
      refine ⟨rfl, fun _ _ => rfl, fun j => ?_⟩
      rw [if_neg (by omega)]
    · rw [if_neg q]
      dsimp only
      have hc := uk_c1 h0 (by lia)
      have hl := uk_cln 39 39 rfl h0 (by lia)
      rw [ix_40 k0 k3 h0 (by lia)]
      obtain ⟨a, b, c⟩ := ih (i + 1) (uk_up m 76 (i.toNatClampNeg + 40 * k.toNatClampNeg) 0) (ee_Fs f (by lia)) (by lia) (by lia)
      refine ⟨a, fun d hd => (b d hd).trans (uk_up_oc hd), fun j => ?_⟩
      rw [c j, hc, uk_up_at]
      generalize i.toNatClampNeg = n at *
      generalize k.toNatClampNeg = kk at *
      by_cases e : j = n + 40 * kk
      · rw [if_neg (by omega), if_pos ⟨rfl, e⟩, if_pos (by omega)]
      · by_cases e2 : n + 1 + 40 * kk ≤ j ∧ j < 40 + 40 * kk
        · rw [if_pos e2, if_pos (by omega)]
        · rw [if_neg e2, if_neg (fun z => e z.2), if_neg (by omega)]
theorem isSheet_e {u v : uk_Mem} {k l : Int32} : e_X7_isSheet v k l = if 0 ≤ k ∧ k ≤ 3 ∧ 0 ≤ l ∧ l ≤ 2 then 1 else 0 := by
  unfold e_X7_isSheet e_X7_in
  dsimp only
  grind
theorem sheet6 {u : uk_Mem} {k : Int32} : e_X6_isSheet u k = if 0 ≤ k ∧ k ≤ 3 then 1 else 0 := by
  unfold e_X6_isSheet
  grind
theorem lane6 {u : uk_Mem} {l : Int32} : e_X6_isLane u l = if 0 ≤ l ∧ l ≤ 2 then 1 else 0 := by
  unfold e_X6_isLane
  grind
/-- a REL whose sheets alone are another's -/
theorem REL_sh {u u' : uk_Mem} (h : REL u) (hc : ∀ c, ¬ (50 ≤ c ∧ c ≤ 56) → ¬ (74 ≤ c ∧ c ≤ 76) → u'.1 c = u.1 c) (sh : SHR u') : REL u' := by
  obtain ⟨k, ⟨i0, i1⟩, im0, im1, ⟨t1, t2, t3, t4⟩, -⟩ := h
  refine ⟨KR_cg k (fun d a b => hc d (by omega) (by omega)) (by rw [hc 60 (by omega) (by omega)]) (hc 61 (by omega) (by omega)) (hc 64 (by omega) (by omega)) (hc 65 (by omega) (by omega)), ⟨by rw [hc 40 (by omega) (by omega), hc 63 (by omega) (by omega)]; exact i0, by rw [hc 40 (by omega) (by omega), hc 63 (by omega) (by omega)]; exact i1⟩, fun q => ?_, fun q => ?_, ⟨by rw [hc 2 (by omega) (by omega), hc 60 (by omega) (by omega)]; exact t1, by rw [hc 3 (by omega) (by omega), hc 69 (by omega) (by omega), hc 2 (by omega) (by omega)]; exact t2, by rw [hc 0 (by omega) (by omega), hc 60 (by omega) (by omega)]; exact t3, by rw [hc 0 (by omega) (by omega), hc 60 (by omega) (by omega)]; exact t4⟩, sh⟩
  · rw [hc 63 (by omega) (by omega)] at q
    exact KR_cg (im0 q) (fun d a b => hc d (by omega) (by omega)) (by rw [hc 60 (by omega) (by omega)]) (hc 61 (by omega) (by omega)) (hc 64 (by omega) (by omega)) (hc 65 (by omega) (by omega))
  · rw [hc 63 (by omega) (by omega)] at q
    exact KR_cg (im1 q) (fun d a b => hc d (by omega) (by omega)) (by rw [hc 60 (by omega) (by omega)]) (hc 61 (by omega) (by omega)) (hc 64 (by omega) (by omega)) (hc 65 (by omega) (by omega))
theorem sheet_R {u u1 u2 : uk_Mem} {k l n : Int32} (h : REL u) (e1 : u1 = (e_X6_sheet u k l n).2) (e2 : u2 = (e_X7_sheet u1 k l n).2) : (e_X6_sheet u k l n).1 = (e_X7_sheet u1 k l n).1 ∧ REL u2 := by
  have sh := h.2.2.2.2.2
  unfold e_X6_sheet at e1 ⊢
  unfold e_X7_sheet at e2 ⊢
  dsimp only at e1 e2 ⊢
  rw [sheet6, lane6] at e1 ⊢
  rw [isSheet_e (u := u)] at e2 ⊢
  by_cases hk : 0 ≤ k ∧ k ≤ 3
  · by_cases hl : 0 ≤ l ∧ l ≤ 2
    · have h4 : 0 ≤ k ∧ k ≤ 3 ∧ 0 ≤ l ∧ l ≤ 2 := ⟨hk.1, hk.2, hl.1, hl.2⟩
      simp only [if_pos hk, if_pos hl, if_pos h4, if_neg one0] at e1 e2 ⊢
      by_cases hn : n ≤ 40
      · simp only [if_pos hn] at e1 e2 ⊢
        by_cases h0 : 0 ≤ n
        · simp only [if_pos h0] at e1 e2 ⊢
          have c3 := uk_cln 3 3 rfl hk.1 hk.2
          obtain ⟨a1, a2⟩ := renew_l (k := k) ee_K 0 (uk_up (uk_up u 50 k.toNatClampNeg l) 51 k.toNatClampNeg n) (ee_F0 _ _) (by decide) (by decide)
          have E1 : u1 = l_X3_renew_17 k ee_K 0 (uk_up (uk_up u 50 k.toNatClampNeg l) 51 k.toNatClampNeg n) := e1
          rw [← E1] at a1 a2
          obtain ⟨b0, b1, b2⟩ := sheet_l hk.1 hk.2 ee_K 0 (uk_up (uk_up u1 74 k.toNatClampNeg l) 75 k.toNatClampNeg n) (ee_F0 _ _) (by decide) (by decide)
          rw [← e2] at b1 b2
          have z0 : (0 : Int32).toNatClampNeg = 0 := rfl
          rw [z0] at a2 b2
          refine ⟨b0.symm, REL_sh h (fun c h1 h2 => ?_) (fun j hj => ?_)⟩
          · rw [b1 c (by omega), uk_up_oc (by omega), uk_up_oc (by omega), a1 c (by omega), uk_up_oc (by omega), uk_up_oc (by omega)]
          · obtain ⟨s1, s2, s3⟩ := sh j hj
            have e50 : u2.1 50 j = if j = k.toNatClampNeg then l else u.1 50 j := by
              rw [b1 _ (by omega), uk_up_oc (by decide), uk_up_oc (by decide), a1 _ (by omega), uk_up_oc (by decide), uk_up_at]
              simp
            have e51 : u2.1 51 j = if j = k.toNatClampNeg then n else u.1 51 j := by
              rw [b1 _ (by omega), uk_up_oc (by decide), uk_up_oc (by decide), a1 _ (by omega), uk_up_at, uk_up_oc (by decide)]
              simp
            have e74 : u2.1 74 j = if j = k.toNatClampNeg then l else u.1 74 j := by
              rw [b1 _ (by omega), uk_up_oc (by decide), uk_up_at, a1 _ (by omega), uk_up_oc (by decide), uk_up_oc (by decide)]
              simp
            have e75 : u2.1 75 j = if j = k.toNatClampNeg then n else u.1 75 j := by
              rw [b1 _ (by omega), uk_up_at, uk_up_oc (by decide), a1 _ (by omega), uk_up_oc (by decide), uk_up_oc (by decide)]
              simp
            have e76 : ∀ i, u2.1 76 i = if 0 + 40 * k.toNatClampNeg ≤ i ∧ i < 40 + 40 * k.toNatClampNeg then 0 else u.1 76 i := fun i => by
              rw [b2 i, uk_up_oc (by decide), uk_up_oc (by decide), a1 _ (by omega), uk_up_oc (by decide), uk_up_oc (by decide)]
            rw [e50, e51, e74, e75]
            by_cases q : j = k.toNatClampNeg
            · rw [if_pos q, if_pos q, if_pos q, if_pos q]
              refine ⟨Or.inr ⟨rfl, hl⟩, rfl, fun i hi => ?_⟩
              rw [b1 _ (by omega), uk_up_oc (by omega), uk_up_oc (by omega), q, a2 i, if_pos ⟨by omega, hi⟩, e76, if_pos (by omega)]
            · rw [if_neg q, if_neg q, if_neg q, if_neg q]
              refine ⟨s1, s2, fun i hi => ?_⟩
              rw [b1 _ (by omega), uk_up_oc (by omega), uk_up_oc (by omega), a1 _ (by omega), uk_up_oc (by omega), uk_up_oc (by omega), e76, if_neg (by omega)]
              exact s3 i hi
        · simp only [if_neg h0] at e1 e2 ⊢
          rw [e2, e1]
          exact ⟨by trivial, h⟩
      · simp only [if_neg hn] at e1 e2 ⊢
        rw [e2, e1]
        exact ⟨by trivial, h⟩
    · have h4 : ¬ (0 ≤ k ∧ k ≤ 3 ∧ 0 ≤ l ∧ l ≤ 2) := fun z => hl ⟨z.2.2.1, z.2.2.2⟩
      simp only [if_pos hk, if_neg hl, if_neg h4, if_neg one0, if_true] at e1 e2 ⊢
      rw [e2, e1]
      exact ⟨by trivial, h⟩
  · have h4 : ¬ (0 ≤ k ∧ k ≤ 3 ∧ 0 ≤ l ∧ l ≤ 2) := fun z => hk ⟨z.1, z.2.1⟩
    simp only [if_neg hk, if_neg h4, if_true] at e1 e2 ⊢
    rw [e2, e1]
    exact ⟨by trivial, h⟩
/-- a number is laid on both sides -/
theorem SHR_put {u u1 u2 : uk_Mem} {k i x : Int32} (h : REL u) (hk : 0 ≤ k ∧ k ≤ 3) (hi : 0 ≤ i ∧ i ≤ 39) (e1 : u1 = uk_up u (52 + 1 + k.toNatClampNeg) i.toNatClampNeg x) (e2 : u2 = uk_up u1 76 ((40 : Int32) * k + i).toNatClampNeg x) : REL u2 := by
  have sh := h.2.2.2.2.2
  have c3 := uk_cln 3 3 rfl hk.1 hk.2
  have c39 := uk_cln 39 39 rfl hi.1 hi.2
  rw [ix_40 hk.1 hk.2 hi.1 hi.2] at e2
  have c : ∀ d, ¬ d = 76 → ¬ d = 53 + k.toNatClampNeg → u2.1 d = u.1 d := fun d h1 h2 => by rw [e2, uk_up_oc h1, e1, uk_up_oc (by omega)]
  refine REL_sh h (fun d h1 h2 => c d (by omega) (by omega)) (fun j hj => ?_)
  obtain ⟨s1, s2, s3⟩ := sh j hj
  rw [c 50 (by omega) (by omega), c 51 (by omega) (by omega), c 74 (by omega) (by omega), c 75 (by omega) (by omega)]
  refine ⟨s1, s2, fun i' hi' => ?_⟩
  have e76 : ∀ m, u2.1 76 m = if m = i.toNatClampNeg + 40 * k.toNatClampNeg then x else u.1 76 m := fun m => by
    rw [e2, uk_up_at, e1, uk_up_oc (by omega)]
    simp
  rw [e76]
  by_cases q : j = k.toNatClampNeg
  · have e53 : u2.1 (53 + j) i' = if i' = i.toNatClampNeg then x else u.1 (53 + j) i' := by
      rw [e2, uk_up_oc (by omega), e1, uk_up_at, q]
      simp
    rw [e53]
    by_cases q2 : i' = i.toNatClampNeg
    · rw [if_pos q2, if_pos (by omega)]
    · rw [if_neg q2, if_neg (by omega)]
      exact s3 i' hi'
  · rw [c _ (by omega) (by omega), if_neg (by omega)]
    exact s3 i' hi'
theorem lay_R {u u1 u2 : uk_Mem} {k i x : Int32} (h : REL u) (hu : iv u) (e1 : u1 = (e_X6_lay u k i x).2) (e2 : u2 = (e_X7_lay u1 k i x).2) : (e_X6_lay u k i x).1 = (e_X7_lay u1 k i x).1 ∧ REL u2 := by
  have sh := h.2.2.2.2.2
  unfold e_X6_lay at e1 ⊢
  unfold e_X7_lay at e2 ⊢
  dsimp only at e1 e2 ⊢
  rw [sheet6] at e1 ⊢
  rw [isSheet_e (u := u)] at e2 ⊢
  by_cases hk : 0 ≤ k ∧ k ≤ 3
  · have h4 : 0 ≤ k ∧ k ≤ 3 ∧ (0 : Int32) ≤ 0 ∧ (0 : Int32) ≤ 2 := ⟨hk.1, hk.2, by decide, by decide⟩
    have c3 := uk_cln 3 3 rfl hk.1 hk.2
    obtain ⟨s1, s2, s3⟩ := sh k.toNatClampNeg (by omega)
    have hz : 0 ≤ u.1 51 k.toNatClampNeg ∧ u.1 51 k.toNatClampNeg ≤ 40 := by
      rcases (show k.toNatClampNeg = 0 ∨ k.toNatClampNeg = 1 ∨ k.toNatClampNeg = 2 ∨ k.toNatClampNeg = 3 by omega) with q | q | q | q <;> (rw [q]; exact iv_at hu 51 _ rfl)
    simp only [if_pos hk, if_pos h4, if_neg one0] at e1 e2 ⊢
    unfold e_X3_faultAt e_X3_isNothing at e1 ⊢
    dsimp only at e1 ⊢
    unfold e_X7_in at e2 ⊢
    by_cases q : u.1 50 k.toNatClampNeg = -1
    · have q4 : u.1 74 k.toNatClampNeg = -4 := by
        rcases s1 with z | z
        · exact z.2
        · exfalso
          have := z.2.1
          rw [q] at this
          exact absurd this (by decide)
      simp only [if_pos q, if_neg one0] at e1 ⊢
      have e1 : u1 = u := e1
      rw [e1] at e2 ⊢
      rw [if_pos q4] at e2 ⊢
      rw [e2]
      exact ⟨by trivial, h⟩
    · have s1 := s1.resolve_left (fun z => q z.1)
      have q4 : ¬ u.1 74 k.toNatClampNeg = -4 := fun z => by
        have := s1.2.1
        rw [s1.1, z] at this
        exact absurd this (by decide)
      simp only [if_neg q, if_true] at e1 ⊢
      by_cases hi : 0 ≤ i ∧ i < u.1 51 k.toNatClampNeg
      · rw [if_neg (show ¬ i < 0 by lia), if_pos hi.2, if_pos rfl] at e1 ⊢
        have o74 : u1.1 74 = u.1 74 := by
          rw [e1]
          unfold e_X3_put
          dsimp only
          split
          · exact uk_up_oc (by omega)
          · split <;> exact uk_up_oc (by omega)
        have o75 : u1.1 75 = u.1 75 := by
          rw [e1]
          unfold e_X3_put
          dsimp only
          split
          · exact uk_up_oc (by omega)
          · split <;> exact uk_up_oc (by omega)
        rw [o74, o75, if_neg q4] at e2 ⊢
        rw [← s2, if_pos (show 0 ≤ i ∧ i ≤ u.1 51 k.toNatClampNeg - 1 from ⟨hi.1, by lia⟩), if_neg one0] at e2 ⊢
        unfold e_X3_put at e1
        dsimp only at e1
        rw [s1.1] at e1
        by_cases z0 : u.1 74 k.toNatClampNeg = 0
        · rw [if_pos z0] at e1 e2 ⊢
          exact ⟨rfl, SHR_put h hk ⟨hi.1, by lia⟩ e1 e2⟩
        · rw [if_neg z0] at e1 e2 ⊢
          by_cases z1 : u.1 74 k.toNatClampNeg = 1
          · rw [if_pos z1] at e1 e2 ⊢
            exact ⟨rfl, SHR_put h hk ⟨hi.1, by lia⟩ e1 e2⟩
          · rw [if_neg z1] at e1 e2 ⊢
            exact ⟨rfl, SHR_put h hk ⟨hi.1, by lia⟩ e1 e2⟩
      · have hf : (if i < 0 then (2 : Int32) else if i < u.1 51 k.toNatClampNeg then 0 else 2) = 2 := by
          by_cases q1 : i < 0
          · rw [if_pos q1]
          · rw [if_neg q1, if_neg (by lia)]
        rw [hf, if_neg (by decide)] at e1 ⊢
        have e1 : u1 = u := e1
        rw [e1] at e2 ⊢
        rw [if_neg q4, ← s2, if_neg (show ¬ (0 ≤ i ∧ i ≤ u.1 51 k.toNatClampNeg - 1) from fun z => hi ⟨z.1, by have := z.2; lia⟩), if_pos rfl] at e2 ⊢
        rw [e2]
        exact ⟨by trivial, h⟩
  · have h4 : ¬ (0 ≤ k ∧ k ≤ 3 ∧ (0 : Int32) ≤ 0 ∧ (0 : Int32) ≤ 2) := fun z => hk ⟨z.1, z.2.1⟩
    simp only [if_neg hk, if_neg h4, if_true] at e1 e2 ⊢
    rw [e2, e1]
    exact ⟨by trivial, h⟩
/-! doings read from a sheet -/
theorem does6_c {u : uk_Mem} {g : Int32} {d : Nat} (h : d < 13 ∨ 22 ≤ d) : (e_X6_does u g).2.1 d = u.1 d := by
  unfold e_X6_does
  dsimp only
  split
  · rfl
  · split
    · rfl
    · dsimp only
      by_cases q : g < 10
      · exact funext fun j => by rw [pf_lo q, if_neg (by omega), mc_c (by omega)]
      · exact funext fun j => by rw [pf_hi q, if_neg (by omega), fh_c (by omega), mt_c (by omega)]
/-- a sheet on both sides -/
def S1 (u v : uk_Mem) (k : Nat) : Prop := ((u.1 50 k = -1 ∧ v.1 74 k = -4) ∨ (u.1 50 k = v.1 74 k ∧ 0 ≤ u.1 50 k ∧ u.1 50 k ≤ 2)) ∧ u.1 51 k = v.1 75 k ∧ ∀ i, i < 40 → u.1 (53 + k) i = v.1 76 (i + 40 * k)
/-- what both have while they read -/
def RDI (u v : uk_Mem) (k : Nat) : Prop := iv v ∧ ri v ∧ KR u v 13 61 0 ∧ KR u v 4 77 0 ∧ S1 u v k ∧ (0 ≤ v.1 75 k ∧ v.1 75 k ≤ 40) ∧ v.1 77 42 ≤ 8 ∧ 0 ≤ v.1 77 42
theorem RDI_does {u v : uk_Mem} {k : Nat} {g : Int32} (hk : k < 4) (h : RDI u v k) : (e_X6_does u g).1 = (e_X7_does v g).1 ∧ RDI (e_X6_does u g).2 (e_X7_does v g).2 k := by
  obtain ⟨hv, hri, K, K4, ⟨s1, s2, s3⟩, z, y1, y2⟩ := h
  obtain ⟨a, b⟩ := does_e (g := g) hv hri K
  obtain ⟨c1, c2⟩ := iv_does (g := g) hv hri
  have o : ∀ d, ¬ d = 61 → ¬ d = 62 → (e_X7_does v g).2.1 d = v.1 d := fun d h1 h2 => does_c h1 h2
  refine ⟨a, c1, c2, b, KR_cg K4 (fun d d1 d2 => does6_c (by omega)) (by rw [o 60 (by omega) (by omega)]) (o 77 (by omega) (by omega)) (o 64 (by omega) (by omega)) (o 65 (by omega) (by omega)), ⟨?_, ?_, fun i hi => ?_⟩, ?_, ?_, ?_⟩
  · rw [does6_c (by omega), o 74 (by omega) (by omega)]
    exact s1
  · rw [does6_c (by omega), o 75 (by omega) (by omega)]
    exact s2
  · rw [does6_c (by omega), o 76 (by omega) (by omega)]
    exact s3 i hi
  · rw [o 75 (by omega) (by omega)]
    exact z
  · rw [o 77 (by omega) (by omega)]
    exact y1
  · rw [o 77 (by omega) (by omega)]
    exact y2
/-- the row is put back -/
theorem back_l {t : Int32} : ∀ (K : Nat) (i : Int32) (m : uk_Mem), ee_F 51 i K → 0 ≤ i → i ≤ 51 → (l_X7_read_167 t K i m).1 = -20 - t ∧ (∀ c, ¬ c = 61 → (l_X7_read_167 t K i m).2.1 c = m.1 c) ∧ ∀ j, (l_X7_read_167 t K i m).2.1 61 j = if i.toNatClampNeg ≤ j ∧ j < 51 then m.1 77 j else m.1 61 j := by
  intro K
  induction K with
  | zero =>
    intro i m f h0 h1
    obtain ⟨j, hj⟩ := ee_Fp h1 f
    omega
  | succ K ih =>
    intro i m f h0 h1
    rw [l_X7_read_167]
    by_cases q : (51 : Int32) ≤ i
    · rw [if_pos q]
      have := uk_cge 51 51 rfl q
      refine ⟨rfl, fun _ _ => rfl, fun j => ?_⟩
      rw [if_neg (by omega)]
    · rw [if_neg q]
      dsimp only
      have hc := uk_c1 h0 (by lia)
      have hl := uk_cln 50 50 rfl h0 (by lia)
      obtain ⟨a, b, c⟩ := ih (i + 1) (uk_up m 61 i.toNatClampNeg (m.1 77 i.toNatClampNeg)) (ee_Fs f (by lia)) (by lia) (by lia)
      refine ⟨a, fun d hd => (b d hd).trans (uk_up_oc hd), fun j => ?_⟩
      rw [c j, hc, uk_up_oc (by decide), uk_up_at]
      generalize i.toNatClampNeg = k at *
      grind
/-- what a read leaves, against what it began with -/
def RDO (u v u' v' : uk_Mem) : Prop := KR u' v' 13 61 0 ∧ (∀ d, ¬ d = 0 → (d < 4 ∨ 22 ≤ d) → u'.1 d = u.1 d) ∧ (∀ j, ¬ j = 14 → u'.1 0 j = u.1 0 j) ∧ (∀ j, 51 ≤ j → v'.1 61 j = v.1 61 j) ∧ (u.1 0 14 = v.1 60 28 → u'.1 0 14 = v'.1 60 28)
theorem lg_a {a b : Int64} : lg_cmp a b < 0 ↔ a < b := lg_cmp_lt a b
theorem i64_add {f i : Int32} (h0 : 0 ≤ i) (h1 : i ≤ 20) : (f.toInt64 + i.toInt64).toInt = f.toInt + i.toInt := by
  have a := Int32.toInt_lt f
  have b := Int32.le_toInt f
  have c := Int32.toInt_lt i
  have d := Int32.le_toInt i
  rw [Int64.toInt_add, Int32.toInt_toInt64, Int32.toInt_toInt64]
  exact Int.bmod_eq_of_le (by omega) (by omega)
/-- the place that is read, by ints and by longs -/
theorem pl_lt {f i s : Int32} (h0 : 0 ≤ i) (h1 : i ≤ 20) (s0 : 0 ≤ s) (s40 : s ≤ 40) : ((f.toInt64 + i.toInt64 < 0) ∨ ¬ (f.toInt64 + i.toInt64 < s.toInt64)) ↔ (f + i < 0 ∨ ¬ f + i < s) := by
  have e := i64_add (f := f) h0 h1
  have a := Int32.toInt_lt f
  have b := Int32.le_toInt f
  have c := Int32.le_iff_toInt_le.mp h0
  have d := Int32.le_iff_toInt_le.mp h1
  have s1 := Int32.le_iff_toInt_le.mp s0
  have s2 := Int32.le_iff_toInt_le.mp s40
  have z : (0 : Int32).toInt = 0 := rfl
  have z64 : (0 : Int64).toInt = 0 := rfl
  have z20 : (20 : Int32).toInt = 20 := rfl
  have z40 : (40 : Int32).toInt = 40 := rfl
  rw [Int64.lt_iff_toInt_lt, Int64.lt_iff_toInt_lt, Int32.lt_iff_toInt_lt, Int32.lt_iff_toInt_lt, e, Int32.toInt_toInt64, z64, z, Int32.toInt_add]
  rw [z] at c s1
  rw [z20] at d
  rw [z40] at s2
  by_cases q : f.toInt + i.toInt < 2147483648
  · rw [Int.bmod_eq_of_le (by omega) (by omega)]
  · have hb : (f.toInt + i.toInt).bmod (2 ^ 32) = f.toInt + i.toInt - 4294967296 := by
      have hm : (f.toInt + i.toInt) % ((2 ^ 32 : Nat) : Int) = f.toInt + i.toInt := Int.emod_eq_of_lt (by omega) (by omega)
      unfold Int.bmod
      dsimp only
      rw [hm, if_neg (by omega)]
      omega
    rw [hb]
    omega
theorem read_l {n f k l : Int32} (hk : 0 ≤ k ∧ k ≤ 3) (hl : 0 ≤ l ∧ l ≤ 2) (n0 : 0 ≤ n) (n20 : n ≤ 20) : ∀ (K : Nat) (i : Int32) (u v : uk_Mem), ee_F n i K → 0 ≤ i → i ≤ n → RDI u v k.toNatClampNeg → (l_X6_read_42 n f k l K i u).1 = (l_X7_read_62 n f k l K i 0 i v).1 ∧ RDO u v (l_X6_read_42 n f k l K i u).2 (l_X7_read_62 n f k l K i 0 i v).2 := by
  have c3 := uk_cln 3 3 rfl hk.1 hk.2
  intro K
  induction K with
  | zero =>
    intro i u v F h0 h1
    obtain ⟨j, hj⟩ := ee_Fp h1 F
    omega
  | succ K ih =>
    intro i u v F h0 h1 h
    have hh := h
    obtain ⟨hv, hri, KK, K4, ⟨s1, s2, s3⟩, z, y1, y2⟩ := hh
    rw [l_X6_read_42, l_X7_read_62]
    dsimp only
    -- both stop with the same fault
    have stop : ∀ r : Int32, RDO u v (uk_up u 0 14 r) (uk_up v 60 28 r) := fun r => by
      refine ⟨KR_cg KK (fun d d1 d2 => uk_up_oc (by omega)) (by rw [uk_up_at, if_neg (by decide)]) (uk_up_oc (by decide)) (uk_up_oc (by decide)) (uk_up_oc (by decide)), fun d d1 d2 => uk_up_oc d1, fun j hj => by rw [uk_up_at, if_neg (fun w => hj w.2)], fun j hj => by rw [uk_up_oc (by decide)], fun _ => ?_⟩
      rw [uk_up_at, if_pos ⟨rfl, rfl⟩, uk_up_at, if_pos ⟨rfl, rfl⟩]
    by_cases q : n ≤ i
    · rw [if_pos q, if_pos q]
      exact ⟨(show n = i by lia), stop 0⟩
    · rw [if_neg q, if_neg q, if_pos rfl]
      have F' := ee_Fs F (show i < i + 1 by lia)
      -- the reference goes on once more, and stops
      have go : ∀ r : Int32, ¬ r = 0 → l_X7_read_62 n f k l K (i + 1) r i v = (i, uk_up v 60 28 r) := fun r hr => by
        obtain ⟨K', rfl⟩ := ee_Fp (show i + 1 ≤ n by lia) F'
        rw [l_X7_read_62]
        by_cases w : n ≤ i + 1
        · rw [if_pos w]
        · rw [if_neg w, if_neg hr]
      have fin : ∀ r : Int32, ¬ r = 0 → (i, uk_up u 0 14 r).1 = (l_X7_read_62 n f k l K (i + 1) r i v).1 ∧ RDO u v (i, uk_up u 0 14 r).2 (l_X7_read_62 n f k l K (i + 1) r i v).2 := fun r hr => by
        rw [go r hr]
        exact ⟨rfl, stop r⟩
      unfold e_X3_faultAs e_X3_faultAt e_X3_isNothing
      dsimp only
      by_cases p : u.1 50 k.toNatClampNeg = -1
      · have p4 : v.1 74 k.toNatClampNeg = -4 := by
          rcases s1 with w | w
          · exact w.2
          · exfalso
            have := w.2.1
            rw [p] at this
            exact absurd this (by decide)
        simp only [if_pos p, if_pos p4, if_neg one0]
        exact fin 1 (by decide)
      · have s1 := s1.resolve_left (fun w => p w.1)
        have p4 : ¬ v.1 74 k.toNatClampNeg = -4 := fun w => by
          have := s1.2.1
          rw [s1.1, w] at this
          exact absurd this (by decide)
        simp only [if_neg p, if_neg p4, if_true]
        rw [s1.1]
        by_cases e : v.1 74 k.toNatClampNeg = l
        · rw [if_pos e, if_pos e]
          have pe := pl_lt (f := f) (i := i) (s := v.1 75 k.toNatClampNeg) h0 (by lia) z.1 z.2
          rw [s2]
          by_cases g : f + i < 0 ∨ ¬ f + i < v.1 75 k.toNatClampNeg
          · have x2 : (if f + i < 0 then (2 : Int32) else if f + i < v.1 75 k.toNatClampNeg then 0 else 2) = 2 := by
              by_cases g1 : f + i < 0
              · rw [if_pos g1]
              · rw [if_neg g1, if_neg (g.resolve_left g1)]
            rw [x2, if_neg (by decide)]
            have g' := pe.mpr g
            by_cases g1 : f.toInt64 + i.toInt64 < 0
            · rw [if_pos (lg_a.mpr g1)]
              exact fin 2 (by decide)
            · rw [if_neg (fun w => g1 (lg_a.mp w)), if_neg (fun w => (g'.resolve_left g1) (lg_a.mp w))]
              exact fin 2 (by decide)
          · have g1 : ¬ f + i < 0 := fun w => g (Or.inl w)
            have g2 : f + i < v.1 75 k.toNatClampNeg := Classical.byContradiction fun w => g (Or.inr w)
            have g' : ¬ (f.toInt64 + i.toInt64 < 0 ∨ ¬ f.toInt64 + i.toInt64 < (v.1 75 k.toNatClampNeg).toInt64) := fun w => g (pe.mp w)
            have g3 : ¬ f.toInt64 + i.toInt64 < 0 := fun w => g' (Or.inl w)
            have g4 : f.toInt64 + i.toInt64 < (v.1 75 k.toNatClampNeg).toInt64 := Classical.byContradiction fun w => g' (Or.inr w)
            rw [if_neg g1, if_pos g2, if_pos rfl, if_neg (fun w => g3 (lg_a.mp w)), if_pos (lg_a.mpr g4), Int32.add_assoc, ix_40 hk.1 hk.2 (by lia) (by lia)]
            have p39 : f + i ≤ 39 := by lia
            have c39 := uk_cln 39 39 rfl (show 0 ≤ f + i by lia) p39
            have hcell : u.1 (52 + 1 + k.toNatClampNeg) (f + i).toNatClampNeg = v.1 76 ((f + i).toNatClampNeg + 40 * k.toNatClampNeg) := by
              rw [show 52 + 1 + k.toNatClampNeg = 53 + k.toNatClampNeg by omega]
              exact s3 _ (by omega)
            rw [hcell]
            generalize v.1 76 ((f + i).toNatClampNeg + 40 * k.toNatClampNeg) = cell
            obtain ⟨a, R⟩ := RDI_does (g := cell) (by omega) h
            have fr1 : ∀ d, (d < 13 ∨ 22 ≤ d) → (e_X6_does u cell).2.1 d = u.1 d := fun d hd => does6_c hd
            have fr2 : ∀ d, ¬ d = 61 → ¬ d = 62 → (e_X7_does v cell).2.1 d = v.1 d := fun d d1 d2 => does_c d1 d2
            rw [a]
            by_cases x : 0 ≤ (e_X7_does v cell).1
            · rw [if_pos x, if_pos x]
              obtain ⟨b1, B1, B2, B3, B4, B5⟩ := ih (i + 1) (e_X6_does u cell).2 (e_X7_does v cell).2 F' (by lia) (by lia) R
              refine ⟨b1, B1, fun d d1 d2 => (B2 d d1 d2).trans (fr1 d (by omega)), fun j hj => (B3 j hj).trans (by rw [fr1 0 (by omega)]), fun j hj => (B4 j hj).trans (does_o hj), fun w => B5 ?_⟩
              rw [fr1 0 (by omega), fr2 60 (by omega) (by omega)]
              exact w
            · rw [if_neg x, if_neg x]
              obtain ⟨hv', hri', KK', K4', -, -, y1', y2'⟩ := R
              have hn' : 0 ≤ (e_X7_does v cell).2.1 60 3 ∧ (e_X7_does v cell).2.1 60 3 ≤ 8 := iv_at hv' 60 3 rfl
              obtain ⟨l1, l2, l3⟩ := back_l (t := i) ee_K 0 (e_X7_does v cell).2 (ee_F0 _ _) (by decide) (by decide)
              have d134 : Dj 13 4 := Dj_of uk_isK13 uk_isK4 (by decide)
              refine ⟨l1.symm, ?_, fun d d1 d2 => ?_, fun j hj => ?_, fun j hj => ?_, fun w => ?_⟩
              · refine KR_row (KR_copy d134 K4' (uk_cln 8 8 rfl hn'.1 hn'.2) (uk_cln 8 8 rfl y2' y1')) hn'.2 y1' (by rw [l2 60 (by omega)]) (fun j hj => ?_) (l2 64 (by omega)) (l2 65 (by omega))
                rw [Nat.add_zero, l3 j, if_pos ⟨Nat.zero_le _, hj⟩]
              · rw [cf_o d134 (by omega)]
                exact fr1 d (by omega)
              · rw [cf_o d134 (by omega), fr1 0 (by omega)]
              · rw [l3 j, if_neg (by omega)]
                exact does_o hj
              · rw [cf_o d134 (by omega), fr1 0 (by omega), l2 60 (by omega), fr2 60 (by omega) (by omega)]
                exact w
        · rw [if_neg e, if_neg e, if_neg (by decide)]
          exact fin 3 (by decide)
/-- the row is kept aside -/
theorem had_l {n f k l : Int32} : ∀ (K : Nat) (i : Int32) (m : uk_Mem), ee_F 51 i K → 0 ≤ i → i ≤ 51 → ∃ w : uk_Mem, l_X7_read_26 n f k l K i m = l_X7_read_62 n f k l ee_K 0 0 0 w ∧ (∀ c, ¬ c = 77 → w.1 c = m.1 c) ∧ ∀ j, w.1 77 j = if i.toNatClampNeg ≤ j ∧ j < 51 then m.1 61 j else m.1 77 j := by
  intro K
  induction K with
  | zero =>
    intro i m f h0 h1
    obtain ⟨j, hj⟩ := ee_Fp h1 f
    omega
  | succ K ih =>
    intro i m F h0 h1
    rw [l_X7_read_26]
    by_cases q : (51 : Int32) ≤ i
    · rw [if_pos q]
      have := uk_cge 51 51 rfl q
      refine ⟨m, rfl, fun _ _ => rfl, fun j => ?_⟩
      rw [if_neg (by omega)]
    · rw [if_neg q]
      dsimp only
      have hc := uk_c1 h0 (by lia)
      have hl := uk_cln 50 50 rfl h0 (by lia)
      obtain ⟨w, a, b, c⟩ := ih (i + 1) (uk_up m 77 i.toNatClampNeg (m.1 61 i.toNatClampNeg)) (ee_Fs F (by lia)) (by lia) (by lia)
      refine ⟨w, a, fun d hd => (b d hd).trans (uk_up_oc hd), fun j => ?_⟩
      rw [c j, hc, uk_up_oc (by decide), uk_up_at]
      generalize i.toNatClampNeg = k at *
      grind
theorem read_R {u u1 u2 : uk_Mem} {k l f n : Int32} (h : REL u) (hu : iv u) (hri : ri u) (e1 : u1 = (e_X6_read u k l f n).2) (e2 : u2 = (e_X7_read u1 k l f n).2) (F1 : fr 0 22 u u1) (F2 : fk [60, 61, 62, 77] [3, 7, 10, 11, 13, 14, 15, 16, 17, 18, 19, 22] u1 u2) (hv1 : iv u1) : (e_X6_read u k l f n).1 = (e_X7_read u1 k l f n).1 ∧ REL u2 := by
  have hn : 0 ≤ u.1 60 3 ∧ u.1 60 3 ≤ 8 := iv_at hu 60 3 rfl
  have n8 := uk_cln 8 8 rfl hn.1 hn.2
  have s0 := iv_42 hu (T := 0) (by omega)
  have s8 := uk_cln 8 8 rfl s0.1 s0.2
  have hh := h
  obtain ⟨K0, ⟨i0, i1⟩, K1, K2, ⟨t1, t2, t3, t4⟩, sh⟩ := hh
  have c22 : ∀ d, 22 ≤ d → u1.1 d = u.1 d := fun d hd => F1.1 d (Or.inr hd)
  unfold e_X6_read at e1 ⊢
  unfold e_X7_read at e2 ⊢
  dsimp only at e1 e2 ⊢
  rw [sheet6, lane6] at e1 ⊢
  rw [isSheet_e (u := u)] at e2 ⊢
  by_cases hk : 0 ≤ k ∧ k ≤ 3
  · by_cases hl : 0 ≤ l ∧ l ≤ 2
    · have h4 : 0 ≤ k ∧ k ≤ 3 ∧ 0 ≤ l ∧ l ≤ 2 := ⟨hk.1, hk.2, hl.1, hl.2⟩
      simp only [if_pos hk, if_pos hl, if_pos h4, if_neg one0] at e1 e2 ⊢
      by_cases hn2 : 0 ≤ n ∧ n ≤ 20
      · rw [if_neg (show ¬ n < 0 by lia), if_pos hn2.2] at e1 ⊢
        rw [show e_X7_in u1 n 0 20 = 1 from if_pos hn2, if_neg one0] at e2 ⊢
        have c3 := uk_cln 3 3 rfl hk.1 hk.2
        obtain ⟨w, a, b, c⟩ := had_l (n := n) (f := f) (k := k) (l := l) ee_K 0 u1 (ee_F0 _ _) (by decide) (by decide)
        have z0 : (0 : Int32).toNatClampNeg = 0 := rfl
        rw [z0] at c
        rw [a] at e2 ⊢
        have d413 : Dj 4 13 := Dj_of uk_isK4 uk_isK13 (by decide)
        have w60 : w.1 60 = u.1 60 := (b 60 (by omega)).trans (c22 60 (by omega))
        have w61 : w.1 61 = u.1 61 := (b 61 (by omega)).trans (c22 61 (by omega))
        have w64 : w.1 64 = u.1 64 := (b 64 (by omega)).trans (c22 64 (by omega))
        have w65 : w.1 65 = u.1 65 := (b 65 (by omega)).trans (c22 65 (by omega))
        have w63 : w.1 63 = u.1 63 := (b 63 (by omega)).trans (c22 63 (by omega))
        have w77 : ∀ j, j < 51 → w.1 77 j = u.1 61 j := fun j hj => by
          rw [c j, if_pos ⟨Nat.zero_le _, hj⟩, c22 61 (by omega)]
        have ivw : iv w := fun d i => by
          by_cases hd : d = 77
          · subst hd
            by_cases hi : i < 51
            · rw [w77 i hi, sg_t7 i hi]
              exact hu 61 i
            · rw [c i, if_neg (by omega)]
              exact hv1 77 i
          · rw [b d hd]
            exact hv1 d i
        have riw : ri w := ri_kp hri (by rw [w60]) w61 w63 w64 w65
        have KA : KR (e_X0_copyFrom u 4 13) w 13 61 0 := KR_cg K0 (fun d d1 d2 => cf_o d413 (by omega)) (by rw [w60]) w61 w64 w65
        have KB : KR (e_X0_copyFrom u 4 13) w 4 77 0 := KR_row (KR_copy d413 K0 n8 s8) hn.2 s0.2 (by rw [w60]) (fun j hj => w77 j hj) w64 w65
        have hz : 0 ≤ u.1 75 k.toNatClampNeg ∧ u.1 75 k.toNatClampNeg ≤ 40 := by
          rcases (show k.toNatClampNeg = 0 ∨ k.toNatClampNeg = 1 ∨ k.toNatClampNeg = 2 ∨ k.toNatClampNeg = 3 by omega) with q | q | q | q <;> (rw [q]; exact iv_at hu 75 _ rfl)
        have R0 : RDI (e_X0_copyFrom u 4 13) w k.toNatClampNeg := by
          refine ⟨ivw, riw, KA, KB, ?_, ?_, ?_, ?_⟩
          · obtain ⟨s1, s2, s3⟩ := sh k.toNatClampNeg (by omega)
            refine ⟨?_, ?_, fun i hi => ?_⟩
            · rw [cf_o d413 (by omega), b 74 (by omega), c22 74 (by omega)]
              exact s1
            · rw [cf_o d413 (by omega), b 75 (by omega), c22 75 (by omega)]
              exact s2
            · rw [cf_o d413 (by omega), b 76 (by omega), c22 76 (by omega)]
              exact s3 i hi
          · rw [b 75 (by omega), c22 75 (by omega)]
            exact hz
          · rw [w77 42 (by omega)]
            exact s0.2
          · rw [w77 42 (by omega)]
            exact s0.1
        obtain ⟨A, B1, B2, B3, B4, B5⟩ := read_l (f := f) (n := n) hk hl hn2.1 hn2.2 ee_K 0 (e_X0_copyFrom u 4 13) w (ee_F0 _ _) (by decide) hn2.1 R0
        rw [← e1] at B1 B2 B3 B5
        rw [← e2] at B1 B4 B5
        refine ⟨A, ?_⟩
        have x1 : ∀ d, ¬ d = 0 → (d < 4 ∨ 22 ≤ d) → u1.1 d = u.1 d := fun d d1 d2 => (B2 d d1 d2).trans (cf_o d413 (by omega))
        have x2 : ∀ d, ¬ d = 0 → (d < 4 ∨ 22 ≤ d) → d ∉ [60, 61, 62, 77] → u2.1 d = u.1 d := fun d d1 d2 d3 => (fk_c F2 d3).trans (x1 d d1 d2)
        have o13 : u2.1 0 13 = u.1 0 13 := by
          rw [fk_c F2 (by decide), B3 13 (by decide), cf_o d413 (by omega)]
        have o60 : ∀ j, j ∈ [3, 13, 18] → u2.1 60 j = u.1 60 j := fun j hj => by
          rw [F2.2 j ((show ∀ j, j ∈ [3, 13, 18] → j ∈ [3, 7, 10, 11, 13, 14, 15, 16, 17, 18, 19, 22] by decide) j hj), c22 60 (by omega)]
        have o64 : u2.1 64 = u.1 64 := x2 64 (by omega) (by omega) (by decide)
        have o65 : u2.1 65 = u.1 65 := x2 65 (by omega) (by omega) (by decide)
        have o61 : ∀ j, 51 ≤ j → u2.1 61 j = u.1 61 j := fun j hj => (B4 j hj).trans (by rw [w61])
        refine ⟨KR_cg B1 (fun d d1 d2 => fk_c F2 ((show ∀ d, d < 22 → 13 ≤ d → d ∉ [60, 61, 62, 77] by decide) d (by omega) d1)) rfl rfl rfl rfl, ⟨by rw [x2 40 (by omega) (by omega) (by decide), x2 63 (by omega) (by omega) (by decide)]; exact i0, by rw [x2 40 (by omega) (by omega) (by decide), x2 63 (by omega) (by omega) (by decide)]; exact i1⟩, fun q => ?_, fun q => ?_, ⟨by rw [x2 2 (by omega) (by omega) (by decide), o60 13 (by decide)]; exact t1, by rw [x2 3 (by omega) (by omega) (by decide), x2 69 (by omega) (by omega) (by decide), x2 2 (by omega) (by omega) (by decide)]; exact t2, by rw [o13, o60 18 (by decide)]; exact t3, ?_⟩, fun j hj => ?_⟩
        · rw [x2 63 (by omega) (by omega) (by decide)] at q
          exact KR_cp (K1 q) hn.2 (iv_42 hu (by omega)).2 (fun d d1 d2 => x2 d (by omega) (by omega) ((show ∀ d, d < 60 → d ∉ [60, 61, 62, 77] by decide) d (by omega))) (o60 3 (by decide)) (fun j hj => o61 _ (by omega)) o64 o65
        · rw [x2 63 (by omega) (by omega) (by decide)] at q
          exact KR_cp (K2 q) hn.2 (iv_42 hu (by omega)).2 (fun d d1 d2 => x2 d (by omega) (by omega) ((show ∀ d, d < 60 → d ∉ [60, 61, 62, 77] by decide) d (by omega))) (o60 3 (by decide)) (fun j hj => o61 _ (by omega)) o64 o65
        · rw [fk_c F2 (by decide)]
          refine B5 ?_
          rw [cf_o d413 (by omega), w60]
          exact t4
        · rw [x2 50 (by omega) (by omega) (by decide), x2 51 (by omega) (by omega) (by decide), x2 74 (by omega) (by omega) (by decide), x2 75 (by omega) (by omega) (by decide), x2 76 (by omega) (by omega) (by decide), x2 (53 + j) (by omega) (by omega) ((show ∀ d, d < 60 → d ∉ [60, 61, 62, 77] by decide) _ (by omega))]
          exact sh j hj
      · rw [show e_X7_in u1 n 0 20 = 0 from if_neg hn2, if_pos rfl] at e2 ⊢
        by_cases q : n < 0
        · rw [if_pos q] at e1 ⊢
          rw [e2, e1]
          exact ⟨by trivial, h⟩
        · rw [if_neg q, if_neg (by lia)] at e1 ⊢
          rw [e2, e1]
          exact ⟨by trivial, h⟩
    · have h4 : ¬ (0 ≤ k ∧ k ≤ 3 ∧ 0 ≤ l ∧ l ≤ 2) := fun z => hl ⟨z.2.2.1, z.2.2.2⟩
      simp only [if_pos hk, if_neg hl, if_neg h4, if_neg one0, if_true] at e1 e2 ⊢
      rw [e2, e1]
      exact ⟨by trivial, h⟩
  · have h4 : ¬ (0 ≤ k ∧ k ≤ 3 ∧ 0 ≤ l ∧ l ≤ 2) := fun z => hk ⟨z.1, z.2.1⟩
    simp only [if_neg hk, if_neg h4, if_true] at e1 e2 ⊢
    rw [e2, e1]
    exact ⟨by trivial, h⟩
