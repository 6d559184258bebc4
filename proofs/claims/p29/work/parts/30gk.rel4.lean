/-! what is done and undone; a search leaves the kitchen -/
theorem un_lo {w : uk_Mem} {b : Nat} {g : Int32} (hg : g < 10) (d j : Nat) : (e_X0_undo w b g).1 d j = if d = b ∧ j = 11 then w.1 b 11 - 1 else (e_X0_moveCooked w b g (-1)).1 d j := by
  unfold e_X0_undo
  rw [show e_X6_stuffOf w g = g from if_pos hg]
  dsimp only
  rw [if_pos hg, uk_up_at, mc_c (by omega)]
theorem un_hi {w : uk_Mem} {b : Nat} {g : Int32} (hg : ¬ g < 10) (d j : Nat) : (e_X0_undo w b g).1 d j = if d = b ∧ j = 11 then w.1 b 11 - 1 else (e_X0_moveTurned (e_X0_flipHalf w b (g - 10)) b (g - 10) (-1)).1 d j := by
  unfold e_X0_undo
  rw [show e_X6_stuffOf w g = g - 10 from if_neg hg]
  dsimp only
  rw [if_neg hg, uk_up_at, mt_c (by omega), fh_c (by omega)]
theorem pf_o {u : uk_Mem} {b d : Nat} {g : Int32} (h : d < b ∨ b + 8 < d) : (e_X0_perform u b g).1 d = u.1 d := funext fun j => by
  by_cases q : g < 10
  · rw [pf_lo q, if_neg (by omega), mc_c (by omega)]
  · rw [pf_hi q, if_neg (by omega), fh_c (by omega), mt_c (by omega)]
theorem un_o {u : uk_Mem} {b d : Nat} {g : Int32} (h : d < b ∨ b + 8 < d) : (e_X0_undo u b g).1 d = u.1 d := funext fun j => by
  by_cases q : g < 10
  · rw [un_lo q, if_neg (by omega), mc_c (by omega)]
  · rw [un_hi q, if_neg (by omega), mt_c (by omega), fh_c (by omega)]
theorem un_do {u w : uk_Mem} {b : Nat} {g : Int32} (hw : ∀ d, b ≤ d → d ≤ b + 8 → w.1 d = (e_X0_perform u b g).1 d) (d : Nat) (h1 : b ≤ d) (h2 : d ≤ b + 8) : (e_X0_undo w b g).1 d = u.1 d := funext fun j => by
  have hj : ∀ d j, b ≤ d → d ≤ b + 8 → w.1 d j = (e_X0_perform u b g).1 d j := fun d j a c => by rw [hw d a c]
  by_cases q : g < 10
  · have hp := pf_lo (u := u) (b := b) q
    rw [un_lo q]
    by_cases e : d = b ∧ j = 11
    · rw [if_pos e, hj b 11 (by omega) (by omega), hp, if_pos ⟨rfl, rfl⟩, e.1, e.2]
      grind
    · rw [if_neg e]
      by_cases e6 : d = b + 6
      · subst e6
        have w2 : w.1 (b + 2) = u.1 (b + 2) := funext fun j => by rw [hj _ _ (by omega) (by omega), hp, if_neg (by omega), mc_c (by omega)]
        have w3 : w.1 (b + 3) = u.1 (b + 3) := funext fun j => by rw [hj _ _ (by omega) (by omega), hp, if_neg (by omega), mc_c (by omega)]
        rw [mc_j, w2, w3, hj (b + 6) j (by omega) (by omega), hp, if_neg (show ¬ (b + 6 = b ∧ j = 11) by omega), mc_j]
        generalize (u.1 (b + 2) g.toNatClampNeg).toNatClampNeg = A
        generalize (u.1 (b + 3) g.toNatClampNeg).toNatClampNeg = B
        generalize g.toNatClampNeg = M
        grind
      · rw [mc_c e6, hj d j h1 h2, hp, if_neg e, mc_c e6]
  · have hp := pf_hi (u := u) (b := b) q
    rw [un_hi q]
    generalize g - 10 = m at *
    have w1 : w.1 (b + 1) = u.1 (b + 1) := funext fun j => by rw [hj _ _ (by omega) (by omega), hp, if_neg (by omega), fh_c (by omega), mt_c (by omega)]
    have w2 : w.1 (b + 2) = u.1 (b + 2) := funext fun j => by rw [hj _ _ (by omega) (by omega), hp, if_neg (by omega), fh_c (by omega), mt_c (by omega)]
    have w3 : w.1 (b + 3) = u.1 (b + 3) := funext fun j => by rw [hj _ _ (by omega) (by omega), hp, if_neg (by omega), fh_c (by omega), mt_c (by omega)]
    have w7 : ∀ j, w.1 (b + 7) j = if j = m.toNatClampNeg ∧ u.1 (b + 1) m.toNatClampNeg = 3 then 1 - u.1 (b + 7) m.toNatClampNeg else u.1 (b + 7) j := fun j => by rw [hj _ _ (by omega) (by omega), hp, if_neg (by omega), fh_j, mt_c (by omega), mt_c (by omega)]
    have f7 : (e_X0_flipHalf w b m).1 (b + 7) = u.1 (b + 7) := funext fun j => by
      rw [fh_j, w1, w7, w7]
      by_cases c : j = m.toNatClampNeg ∧ u.1 (b + 1) m.toNatClampNeg = 3
      · rw [if_pos c, if_pos ⟨rfl, c.2⟩, c.1]
        grind
      · rw [if_neg c, if_neg c]
    by_cases e : d = b ∧ j = 11
    · rw [if_pos e, hj b 11 (by omega) (by omega), hp, if_pos ⟨rfl, rfl⟩, e.1, e.2]
      grind
    · rw [if_neg e]
      by_cases e6 : d = b + 6
      · subst e6
        rw [mt_j, fh_c (d := b + 6) (by omega), fh_c (d := b + 2) (by omega), fh_c (d := b + 3) (by omega), fh_c (d := b + 1) (by omega), f7, w1, w2, w3, hj (b + 6) j (by omega) (by omega), hp, if_neg (by omega), fh_c (by omega), mt_j, givesB_w (u := e_X0_flipHalf w b m) (w := u)]
        generalize e_X0_givesB u (u.1 (b + 1) m.toNatClampNeg) (u.1 (b + 7) m.toNatClampNeg) = S
        generalize (u.1 (b + 2) m.toNatClampNeg).toNatClampNeg = A
        generalize (u.1 (b + 3) m.toNatClampNeg).toNatClampNeg = B
        generalize m.toNatClampNeg = M
        grind
      · rw [mt_c e6]
        by_cases e7 : d = b + 7
        · subst e7
          rw [f7]
        · rw [fh_c e7, hj d j h1 h2, hp, if_neg e, fh_c e7, mt_c e6]
/-- kitchen, images and mill are as they were -/
def KP (u w : uk_Mem) : Prop := ∀ d, 13 ≤ d → d ≤ 45 → w.1 d = u.1 d
theorem KP_rf {u : uk_Mem} : KP u u := fun _ _ _ => rfl
theorem KP_tr {u v w : uk_Mem} (h : KP u v) (k : KP v w) : KP u w := fun d a b => (k d a b).trans (h d a b)
theorem KP_up {u : uk_Mem} {c i : Nat} {x : Int32} (h : 46 ≤ c) : KP u (uk_up u c i x) := fun d a b => uk_up_oc (by omega)
theorem KP_path {n : Int32} : ∀ (K : Nat) (i : Int32) (w : uk_Mem), KP w (l_X2_keepPath_12 n K i w) := by
  intro K
  induction K with
  | zero => intro i w; exact KP_rf
  | succ K ih =>
    intro i w
    rw [l_X2_keepPath_12]
    split
    · exact KP_rf
    · exact KP_tr (KP_up (by omega)) (ih _ _)
theorem KP_kp {u : uk_Mem} {n s : Int32} : KP u (e_X2_keepPath u n s) := by
  unfold e_X2_keepPath
  exact KP_tr (KP_up (by omega)) (KP_tr (KP_up (by omega)) (KP_path _ _ _))
/-- a doing, something that leaves the kitchen, the doing undone -/
theorem KP_un {u w : uk_Mem} {g : Int32} {c i : Nat} {x : Int32} (hc : 46 ≤ c) (h : KP (e_X0_perform (uk_up u c i x) 13 g) w) : KP u (e_X0_undo w 13 g) := fun d a b => by
  by_cases q : d ≤ 21
  · rw [un_do (u := uk_up u c i x) (fun d a b => h d a (by omega)) d a q, uk_up_oc (by omega)]
  · rw [un_o (by omega), h d a b, pf_o (by omega), uk_up_oc (by omega)]

theorem KP_X2_tryRicher_0 {u : uk_Mem} {n g s : Int32} : KP u (e_X2_tryRicher_0 u n g s) := by
  unfold e_X2_tryRicher_0
  dsimp only
  all_goals first | exact KP_rf | exact KP_kp
theorem KP_l_X2_tryRicher_1_28 {s : Int32} {x6 : Int32} {g : Int32} {n : Int32} : ∀ (K : Nat) (i : Int32) (w : uk_Mem), KP w (l_X2_tryRicher_1_28 s x6 g n K i w) := by
  intro K
  induction K with
  | zero => intro i w; exact KP_rf
  | succ K ih =>
    intro i w
    rw [l_X2_tryRicher_1_28]
    dsimp only
    repeat' split
    all_goals first | exact KP_rf | exact ih _ _ | exact KP_tr (KP_un (by omega) KP_X2_tryRicher_0) (ih _ _) | exact KP_un (by omega) KP_X2_tryRicher_0 | exact KP_tr KP_X2_tryRicher_0 (ih _ _) | exact KP_X2_tryRicher_0
theorem KP_X2_tryRicher_1 {u : uk_Mem} {n g s : Int32} : KP u (e_X2_tryRicher_1 u n g s) := by
  unfold e_X2_tryRicher_1
  dsimp only
  repeat' split
  all_goals first | exact KP_rf | exact KP_kp | exact KP_l_X2_tryRicher_1_28 _ _ _
theorem KP_l_X2_tryRicher_2_28 {s : Int32} {x6 : Int32} {g : Int32} {n : Int32} : ∀ (K : Nat) (i : Int32) (w : uk_Mem), KP w (l_X2_tryRicher_2_28 s x6 g n K i w) := by
  intro K
  induction K with
  | zero => intro i w; exact KP_rf
  | succ K ih =>
    intro i w
    rw [l_X2_tryRicher_2_28]
    dsimp only
    repeat' split
    all_goals first | exact KP_rf | exact ih _ _ | exact KP_tr (KP_un (by omega) KP_X2_tryRicher_1) (ih _ _) | exact KP_un (by omega) KP_X2_tryRicher_1 | exact KP_tr KP_X2_tryRicher_1 (ih _ _) | exact KP_X2_tryRicher_1
theorem KP_X2_tryRicher_2 {u : uk_Mem} {n g s : Int32} : KP u (e_X2_tryRicher_2 u n g s) := by
  unfold e_X2_tryRicher_2
  dsimp only
  repeat' split
  all_goals first | exact KP_rf | exact KP_kp | exact KP_l_X2_tryRicher_2_28 _ _ _
theorem KP_l_X2_tryRicher_3_28 {s : Int32} {x6 : Int32} {g : Int32} {n : Int32} : ∀ (K : Nat) (i : Int32) (w : uk_Mem), KP w (l_X2_tryRicher_3_28 s x6 g n K i w) := by
  intro K
  induction K with
  | zero => intro i w; exact KP_rf
  | succ K ih =>
    intro i w
    rw [l_X2_tryRicher_3_28]
    dsimp only
    repeat' split
    all_goals first | exact KP_rf | exact ih _ _ | exact KP_tr (KP_un (by omega) KP_X2_tryRicher_2) (ih _ _) | exact KP_un (by omega) KP_X2_tryRicher_2 | exact KP_tr KP_X2_tryRicher_2 (ih _ _) | exact KP_X2_tryRicher_2
theorem KP_X2_tryRicher_3 {u : uk_Mem} {n g s : Int32} : KP u (e_X2_tryRicher_3 u n g s) := by
  unfold e_X2_tryRicher_3
  dsimp only
  repeat' split
  all_goals first | exact KP_rf | exact KP_kp | exact KP_l_X2_tryRicher_3_28 _ _ _
theorem KP_l_X2_tryRicher_4_28 {s : Int32} {x6 : Int32} {g : Int32} {n : Int32} : ∀ (K : Nat) (i : Int32) (w : uk_Mem), KP w (l_X2_tryRicher_4_28 s x6 g n K i w) := by
  intro K
  induction K with
  | zero => intro i w; exact KP_rf
  | succ K ih =>
    intro i w
    rw [l_X2_tryRicher_4_28]
    dsimp only
    repeat' split
    all_goals first | exact KP_rf | exact ih _ _ | exact KP_tr (KP_un (by omega) KP_X2_tryRicher_3) (ih _ _) | exact KP_un (by omega) KP_X2_tryRicher_3 | exact KP_tr KP_X2_tryRicher_3 (ih _ _) | exact KP_X2_tryRicher_3
theorem KP_X2_tryRicher_4 {u : uk_Mem} {n g s : Int32} : KP u (e_X2_tryRicher_4 u n g s) := by
  unfold e_X2_tryRicher_4
  dsimp only
  repeat' split
  all_goals first | exact KP_rf | exact KP_kp | exact KP_l_X2_tryRicher_4_28 _ _ _
theorem KP_X2_tryRicher {u : uk_Mem} {n g s : Int32} : KP u (e_X2_tryRicher u n g s) := by
  unfold e_X2_tryRicher
  split
  · exact KP_X2_tryRicher_0
  · skip
    split
    · exact KP_X2_tryRicher_1
    · skip
      split
      · exact KP_X2_tryRicher_2
      · skip
        split
        · exact KP_X2_tryRicher_3
        · skip
          exact KP_X2_tryRicher_4
theorem KP_X2_tryReaching_0 {u : uk_Mem} {m n g : Int32} : KP u (e_X2_tryReaching_0 u m n g).2 := by
  unfold e_X2_tryReaching_0
  dsimp only
  repeat' split
  all_goals first | exact KP_rf | exact KP_kp
theorem KP_l_X2_tryReaching_1_39 {g : Int32} {m : Int32} {n : Int32} : ∀ (K : Nat) (i : Int32) (w : uk_Mem), KP w (l_X2_tryReaching_1_39 g m n K i w).2 := by
  intro K
  induction K with
  | zero => intro i w; exact KP_rf
  | succ K ih =>
    intro i w
    rw [l_X2_tryReaching_1_39]
    dsimp only
    repeat' split
    all_goals first | exact KP_rf | exact ih _ _ | exact KP_tr (KP_un (by omega) KP_X2_tryReaching_0) (ih _ _) | exact KP_un (by omega) KP_X2_tryReaching_0 | exact KP_tr KP_X2_tryReaching_0 (ih _ _) | exact KP_X2_tryReaching_0
theorem KP_l_X2_tryReaching_1_39_1 {m : Int32} {g : Int32} {n : Int32} : ∀ (K : Nat) (i : Int32) (w : uk_Mem), KP w (l_X2_tryReaching_1_39_1 m g n K i w).2 := by
  intro K
  induction K with
  | zero => intro i w; exact KP_rf
  | succ K ih =>
    intro i w
    rw [l_X2_tryReaching_1_39_1]
    dsimp only
    repeat' split
    all_goals first | exact KP_rf | exact ih _ _ | exact KP_tr (KP_un (by omega) KP_X2_tryReaching_0) (ih _ _) | exact KP_un (by omega) KP_X2_tryReaching_0 | exact KP_tr KP_X2_tryReaching_0 (ih _ _) | exact KP_X2_tryReaching_0
theorem KP_X2_tryReaching_1 {u : uk_Mem} {m n g : Int32} : KP u (e_X2_tryReaching_1 u m n g).2 := by
  unfold e_X2_tryReaching_1
  dsimp only
  repeat' split
  all_goals first | exact KP_rf | exact KP_kp | exact KP_l_X2_tryReaching_1_39 _ _ _ | exact KP_l_X2_tryReaching_1_39_1 _ _ _
theorem KP_l_X2_tryReaching_2_39 {g : Int32} {m : Int32} {n : Int32} : ∀ (K : Nat) (i : Int32) (w : uk_Mem), KP w (l_X2_tryReaching_2_39 g m n K i w).2 := by
  intro K
  induction K with
  | zero => intro i w; exact KP_rf
  | succ K ih =>
    intro i w
    rw [l_X2_tryReaching_2_39]
    dsimp only
    repeat' split
    all_goals first | exact KP_rf | exact ih _ _ | exact KP_tr (KP_un (by omega) KP_X2_tryReaching_1) (ih _ _) | exact KP_un (by omega) KP_X2_tryReaching_1 | exact KP_tr KP_X2_tryReaching_1 (ih _ _) | exact KP_X2_tryReaching_1
theorem KP_l_X2_tryReaching_2_39_1 {m : Int32} {g : Int32} {n : Int32} : ∀ (K : Nat) (i : Int32) (w : uk_Mem), KP w (l_X2_tryReaching_2_39_1 m g n K i w).2 := by
  intro K
  induction K with
  | zero => intro i w; exact KP_rf
  | succ K ih =>
    intro i w
    rw [l_X2_tryReaching_2_39_1]
    dsimp only
    repeat' split
    all_goals first | exact KP_rf | exact ih _ _ | exact KP_tr (KP_un (by omega) KP_X2_tryReaching_1) (ih _ _) | exact KP_un (by omega) KP_X2_tryReaching_1 | exact KP_tr KP_X2_tryReaching_1 (ih _ _) | exact KP_X2_tryReaching_1
theorem KP_X2_tryReaching_2 {u : uk_Mem} {m n g : Int32} : KP u (e_X2_tryReaching_2 u m n g).2 := by
  unfold e_X2_tryReaching_2
  dsimp only
  repeat' split
  all_goals first | exact KP_rf | exact KP_kp | exact KP_l_X2_tryReaching_2_39 _ _ _ | exact KP_l_X2_tryReaching_2_39_1 _ _ _
theorem KP_l_X2_tryReaching_3_39 {g : Int32} {m : Int32} {n : Int32} : ∀ (K : Nat) (i : Int32) (w : uk_Mem), KP w (l_X2_tryReaching_3_39 g m n K i w).2 := by
  intro K
  induction K with
  | zero => intro i w; exact KP_rf
  | succ K ih =>
    intro i w
    rw [l_X2_tryReaching_3_39]
    dsimp only
    repeat' split
    all_goals first | exact KP_rf | exact ih _ _ | exact KP_tr (KP_un (by omega) KP_X2_tryReaching_2) (ih _ _) | exact KP_un (by omega) KP_X2_tryReaching_2 | exact KP_tr KP_X2_tryReaching_2 (ih _ _) | exact KP_X2_tryReaching_2
theorem KP_l_X2_tryReaching_3_39_1 {m : Int32} {g : Int32} {n : Int32} : ∀ (K : Nat) (i : Int32) (w : uk_Mem), KP w (l_X2_tryReaching_3_39_1 m g n K i w).2 := by
  intro K
  induction K with
  | zero => intro i w; exact KP_rf
  | succ K ih =>
    intro i w
    rw [l_X2_tryReaching_3_39_1]
    dsimp only
    repeat' split
    all_goals first | exact KP_rf | exact ih _ _ | exact KP_tr (KP_un (by omega) KP_X2_tryReaching_2) (ih _ _) | exact KP_un (by omega) KP_X2_tryReaching_2 | exact KP_tr KP_X2_tryReaching_2 (ih _ _) | exact KP_X2_tryReaching_2
theorem KP_X2_tryReaching_3 {u : uk_Mem} {m n g : Int32} : KP u (e_X2_tryReaching_3 u m n g).2 := by
  unfold e_X2_tryReaching_3
  dsimp only
  repeat' split
  all_goals first | exact KP_rf | exact KP_kp | exact KP_l_X2_tryReaching_3_39 _ _ _ | exact KP_l_X2_tryReaching_3_39_1 _ _ _
theorem KP_l_X2_tryReaching_4_39 {g : Int32} {m : Int32} {n : Int32} : ∀ (K : Nat) (i : Int32) (w : uk_Mem), KP w (l_X2_tryReaching_4_39 g m n K i w).2 := by
  intro K
  induction K with
  | zero => intro i w; exact KP_rf
  | succ K ih =>
    intro i w
    rw [l_X2_tryReaching_4_39]
    dsimp only
    repeat' split
    all_goals first | exact KP_rf | exact ih _ _ | exact KP_tr (KP_un (by omega) KP_X2_tryReaching_3) (ih _ _) | exact KP_un (by omega) KP_X2_tryReaching_3 | exact KP_tr KP_X2_tryReaching_3 (ih _ _) | exact KP_X2_tryReaching_3
theorem KP_l_X2_tryReaching_4_39_1 {m : Int32} {g : Int32} {n : Int32} : ∀ (K : Nat) (i : Int32) (w : uk_Mem), KP w (l_X2_tryReaching_4_39_1 m g n K i w).2 := by
  intro K
  induction K with
  | zero => intro i w; exact KP_rf
  | succ K ih =>
    intro i w
    rw [l_X2_tryReaching_4_39_1]
    dsimp only
    repeat' split
    all_goals first | exact KP_rf | exact ih _ _ | exact KP_tr (KP_un (by omega) KP_X2_tryReaching_3) (ih _ _) | exact KP_un (by omega) KP_X2_tryReaching_3 | exact KP_tr KP_X2_tryReaching_3 (ih _ _) | exact KP_X2_tryReaching_3
theorem KP_X2_tryReaching_4 {u : uk_Mem} {m n g : Int32} : KP u (e_X2_tryReaching_4 u m n g).2 := by
  unfold e_X2_tryReaching_4
  dsimp only
  repeat' split
  all_goals first | exact KP_rf | exact KP_kp | exact KP_l_X2_tryReaching_4_39 _ _ _ | exact KP_l_X2_tryReaching_4_39_1 _ _ _
theorem KP_X2_tryReaching {u : uk_Mem} {m n g : Int32} : KP u (e_X2_tryReaching u m n g).2 := by
  unfold e_X2_tryReaching
  split
  · exact KP_X2_tryReaching_0
  · skip
    split
    · exact KP_X2_tryReaching_1
    · skip
      split
      · exact KP_X2_tryReaching_2
      · skip
        split
        · exact KP_X2_tryReaching_3
        · skip
          exact KP_X2_tryReaching_4
theorem KP_l_X2_findRichest_29 {n : Int32} {x15 : Int32} : ∀ (K : Nat) (i : Int32) (w : uk_Mem), KP w (l_X2_findRichest_29 n x15 K i w) := by
  intro K
  induction K with
  | zero => intro i w; exact KP_rf
  | succ K ih =>
    intro i w
    rw [l_X2_findRichest_29]
    dsimp only
    repeat' split
    all_goals first | exact KP_rf | exact KP_tr KP_X2_tryRicher (ih _ _) | exact KP_tr KP_X2_tryRicher KP_kp | exact KP_X2_tryRicher
theorem KP_l_X2_findFewest_2 {m : Int32} : ∀ (K : Nat) (i : Int32) (w : uk_Mem), KP w (l_X2_findFewest_2 m K i w).2 := by
  intro K
  induction K with
  | zero => intro i w; exact KP_rf
  | succ K ih =>
    intro i w
    rw [l_X2_findFewest_2]
    dsimp only
    repeat' split
    all_goals first | exact KP_rf | exact KP_tr KP_X2_tryReaching (ih _ _) | exact KP_tr KP_X2_tryReaching KP_kp | exact KP_X2_tryReaching
theorem KP_X2_findRichest {u : uk_Mem} {n : Int32} : KP u (e_X2_findRichest u n) := by
  unfold e_X2_findRichest
  try dsimp only
  repeat' split
  all_goals first | exact KP_rf | exact KP_l_X2_findRichest_29 _ _ _ | exact KP_tr (KP_up (by omega)) (KP_tr (KP_up (by omega)) (KP_tr (KP_up (by omega)) (KP_l_X2_findRichest_29 _ _ _)))
theorem KP_X2_findFewest {u : uk_Mem} {m : Int32} : KP u (e_X2_findFewest u m).2 := by
  unfold e_X2_findFewest
  try dsimp only
  repeat' split
  all_goals first | exact KP_rf | exact KP_l_X2_findFewest_2 _ _ _ | exact KP_tr (KP_up (by omega)) (KP_tr (KP_up (by omega)) (KP_tr (KP_up (by omega)) (KP_l_X2_findFewest_2 _ _ _)))
theorem KP_X6_best {u : uk_Mem} {k w : Int32} : KP u (e_X6_best u k w).2 := by
  unfold e_X6_best
  try dsimp only
  repeat' split
  all_goals first | exact KP_rf | exact KP_X2_findRichest | exact KP_X2_findFewest
theorem KP_X6_least {u : uk_Mem} {m w : Int32} : KP u (e_X6_least u m w).2 := by
  unfold e_X6_least
  try dsimp only
  repeat' split
  all_goals first | exact KP_rf | exact KP_X2_findRichest | exact KP_X2_findFewest
