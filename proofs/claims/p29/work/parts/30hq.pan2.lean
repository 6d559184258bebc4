/-! a doing, keep, back, read: the kinds and what was seen -/
theorem do_hi {v : uk_Mem} {g : Int32} (hv : iv v) (hra : ra v) (hd : ¬ e_X7_isDoing v g = 0) (hc : ¬ e_X7_canDo v g = 0) {p : Nat} (p1 : 16 ≤ p) (p2 : ¬ p = 41) : (e_X7_doIt v g).1 62 p = v.1 62 p := by
  have hn : 0 ≤ v.1 60 3 ∧ v.1 60 3 ≤ 8 := iv_at hv 60 3 rfl
  have hdo : (0 ≤ g ∧ g < v.1 60 3) ∨ (10 ≤ g ∧ g - 10 < v.1 60 3) := Classical.byContradiction fun q => hd (by rw [isDoing_e hn, if_neg q])
  have z0 : ∀ x : Int32, x + 0 = x := fun x => by grind
  have zs : ∀ x : Int32, x - 0 = x := fun x => by grind
  unfold e_X7_canDo at hc
  dsimp only at hc
  rcases hdo with q | q
  · rw [if_neg (by lia)] at hc
    have hk := canCook_k hc q.1 (by lia)
    have hr := hra g q.1 q.2 (by lia)
    rw [ix_32 q.1 (by lia)] at hr
    obtain ⟨a0, a1, b0, b1⟩ := hr.resolve_left hk
    have w := da_j (v := v) q.1 (by lia) (by lia) (by lia) a0 b0
    have hdd : e_X7_doIt v g = e_X7_doIt_a v g := if_pos (by lia)
    have lg := uk_cln 7 7 rfl q.1 (by lia)
    have la := uk_cll a0 a1
    have lb := uk_cll b0 b1
    rw [hdd, w, if_neg (by omega), if_neg (by omega), if_neg (by omega), if_neg (by omega), z0, zs, zs]
  · rw [if_pos q.1] at hc
    have m0 : 0 ≤ g - 10 := by lia
    have m7 : g - 10 ≤ 7 := by lia
    have hk := canTurn_k hc m0 m7
    have hr := hra (g - 10) m0 q.2 m7
    rw [ix_32 m0 m7] at hr
    obtain ⟨a0, a1, b0, b1⟩ := hr.resolve_left hk
    have w := db_j (v := v) q.1 (by lia) (by lia) (by lia) a0 b0
    have hdd : e_X7_doIt v g = e_X7_doIt_b v g := if_neg (by lia)
    have lg := uk_cln 7 7 rfl m0 m7
    have la := uk_cll a0 a1
    have lb := uk_cll b0 b1
    rw [hdd, w, if_neg (by omega), if_neg (by omega), if_neg (by omega), if_neg (by omega), if_neg (by omega), zs, z0, z0]
theorem do_P {v : uk_Mem} {g : Int32} (hv : iv v) (hra : ra v) (h : PRo v 62 0) (hd : ¬ e_X7_isDoing v g = 0) (hc : ¬ e_X7_canDo v g = 0) : PRo (e_X7_doIt v g) 62 0 := by
  have e3 : (e_X7_doIt v g).1 60 3 = v.1 60 3 := by rw [doIt_c (by decide)]
  refine ⟨fun j hj hk => ?_, fun i hi => ?_⟩
  · rw [e3] at hk
    rw [do_hi hv hra hd hc (by omega) (by omega)]
    exact h.1 j hj hk
  · rw [do_hi hv hra hd hc (by omega) (by omega)] at hi
    rw [e3, do_hi hv hra hd hc (by omega) (by omega)]
    exact h.2 i hi
theorem does_P {v : uk_Mem} {g : Int32} (hv : iv v) (hri : ri v) (h : PRo v 61 0) : PRo (e_X7_does v g).2 61 0 := by
  have hn : 0 ≤ v.1 60 3 ∧ v.1 60 3 ≤ 8 := iv_at hv 60 3 rfl
  have n60 : (e_X7_starts v).1 60 3 = v.1 60 3 := by rw [starts_c (by decide)]
  have hd7 : e_X7_isDoing (e_X7_starts v) g = e_X7_isDoing v g := by rw [isDoing_e hn, isDoing_e (by rw [n60]; exact hn), n60]
  unfold e_X7_does
  dsimp only
  by_cases h1 : e_X7_isDoing v g = 0
  · rw [if_pos h1]
    exact h
  · rw [if_neg h1]
    by_cases h2 : e_X7_canDo (e_X7_starts v) g = 0
    · rw [if_pos h2]
      exact PRo_c h (starts_c (by decide)) n60
    · rw [if_neg h2]
      dsimp only
      have hv7 := iv_starts hv
      have hra7 := ra_starts hri
      have h7 : PRo (e_X7_starts v) 62 0 := PRo_row h (iv_42 hv (T := 0) (by omega)) (fun j hj => starts_j hj) n60
      have h8 := do_P hv7 hra7 h7 (by rw [hd7]; exact h1) h2
      have hv8 := iv_doIt hv7 hra7 (by rw [hd7]; exact h1) h2
      exact PRo_row h8 (iv_at hv8 62 (0 + 42) rfl) (fun j hj => ends_j hj) (by rw [ends_c (by decide)])
theorem keep_P {v : uk_Mem} {k : Int32} (hv : iv v) (h : PR v) : PR (e_X7_keep v k).2 := by
  by_cases hk : 0 ≤ k ∧ k ≤ 1
  · have k01 : k = 0 ∨ k = 1 := by
      by_cases q : k = 0
      · exact Or.inl q
      · exact Or.inr (by lia)
    rcases k01 with rfl | rfl
    · rw [keep7 (t := 51) hk (by decide)]
      dsimp only
      have c : ∀ d, ¬ d = 61 → (e_X7_copies (uk_up v 63 (0 : Int32).toNatClampNeg 1) 51 0).1 d = (uk_up v 63 (0 : Int32).toNatClampNeg 1).1 d := fun d hd => cp_c tI_51 tI_0 (by omega) (by omega) (by omega) hd
      have e3 : (e_X7_copies (uk_up v 63 (0 : Int32).toNatClampNeg 1) 51 0).1 60 3 = v.1 60 3 := by rw [c 60 (by omega), uk_up_oc (by decide)]
      have o : ∀ j, j < 51 ∨ 102 ≤ j → (e_X7_copies (uk_up v 63 (0 : Int32).toNatClampNeg 1) 51 0).1 61 j = v.1 61 j := fun j hj => by rw [cp_o tI_51 tI_0 (by omega) (by omega) (by omega) (by omega), uk_up_oc (by decide)]
      refine ⟨PRo_row h.1 (iv_42 hv (T := 0) (by omega)) (fun j hj => o j (by omega)) e3, fun _ => PRo_row h.1 (iv_42 hv (T := 0) (by omega)) (fun j hj => ?_) e3, fun q => PRo_row (h.2.2 ?_) (iv_42 hv (T := 102) (by omega)) (fun j hj => o _ (by omega)) e3⟩
      · rw [cp_j tI_51 tI_0 (by omega) (by omega) (by omega) hj, uk_up_oc (by decide)]
      · rw [c 63 (by omega), uk_up_at, if_neg (by decide)] at q
        exact q
    · rw [keep7 (t := 102) hk (by decide)]
      dsimp only
      have c : ∀ d, ¬ d = 61 → (e_X7_copies (uk_up v 63 (1 : Int32).toNatClampNeg 1) 102 0).1 d = (uk_up v 63 (1 : Int32).toNatClampNeg 1).1 d := fun d hd => cp_c tI_102 tI_0 (by omega) (by omega) (by omega) hd
      have e3 : (e_X7_copies (uk_up v 63 (1 : Int32).toNatClampNeg 1) 102 0).1 60 3 = v.1 60 3 := by rw [c 60 (by omega), uk_up_oc (by decide)]
      have o : ∀ j, j < 102 → (e_X7_copies (uk_up v 63 (1 : Int32).toNatClampNeg 1) 102 0).1 61 j = v.1 61 j := fun j hj => by rw [cp_o tI_102 tI_0 (by omega) (by omega) (by omega) (by omega), uk_up_oc (by decide)]
      refine ⟨PRo_row h.1 (iv_42 hv (T := 0) (by omega)) (fun j hj => o j (by omega)) e3, fun q => PRo_row (h.2.1 ?_) (iv_42 hv (T := 51) (by omega)) (fun j hj => o _ (by omega)) e3, fun _ => PRo_row h.1 (iv_42 hv (T := 0) (by omega)) (fun j hj => ?_) e3⟩
      · rw [c 63 (by omega), uk_up_at, if_neg (by decide)] at q
        exact q
      · rw [cp_j tI_102 tI_0 (by omega) (by omega) (by omega) hj, uk_up_oc (by decide)]
  · unfold e_X7_keep
    dsimp only
    rw [show e_X7_in v k 0 1 = 0 from if_neg hk, if_pos rfl]
    exact h
theorem back_P {v : uk_Mem} {k : Int32} (hv : iv v) (h : PR v) : PR (e_X7_back v k).2 := by
  by_cases hk : 0 ≤ k ∧ k ≤ 1
  · have k01 : k = 0 ∨ k = 1 := by
      by_cases q : k = 0
      · exact Or.inl q
      · exact Or.inr (by lia)
    rcases k01 with rfl | rfl
    · rw [back7 (t := 51) hk (by decide)]
      by_cases p : v.1 63 (0 : Int32).toNatClampNeg = 0
      · rw [if_pos p]
        exact h
      · rw [if_neg p]
        dsimp only
        have c : ∀ d, ¬ d = 61 → (e_X7_copies v 0 51).1 d = v.1 d := fun d hd => cp_c tI_0 tI_51 (by omega) (by omega) (by omega) hd
        have e3 : (e_X7_copies v 0 51).1 60 3 = v.1 60 3 := by rw [c 60 (by omega)]
        have o : ∀ j, 51 ≤ j → (e_X7_copies v 0 51).1 61 j = v.1 61 j := fun j hj => by rw [cp_o tI_0 tI_51 (by omega) (by omega) (by omega) (by omega)]
        have hz : PRo v 61 51 := h.2.1 p
        refine ⟨PRo_row hz (iv_42 hv (T := 51) (by omega)) (fun j hj => cp_j tI_0 tI_51 (by omega) (by omega) (by omega) hj) e3, fun _ => PRo_row hz (iv_42 hv (T := 51) (by omega)) (fun j hj => o _ (by omega)) e3, fun q => PRo_row (h.2.2 ?_) (iv_42 hv (T := 102) (by omega)) (fun j hj => o _ (by omega)) e3⟩
        rw [c 63 (by omega)] at q
        exact q
    · rw [back7 (t := 102) hk (by decide)]
      by_cases p : v.1 63 (1 : Int32).toNatClampNeg = 0
      · rw [if_pos p]
        exact h
      · rw [if_neg p]
        dsimp only
        have c : ∀ d, ¬ d = 61 → (e_X7_copies v 0 102).1 d = v.1 d := fun d hd => cp_c tI_0 tI_102 (by omega) (by omega) (by omega) hd
        have e3 : (e_X7_copies v 0 102).1 60 3 = v.1 60 3 := by rw [c 60 (by omega)]
        have o : ∀ j, 51 ≤ j → (e_X7_copies v 0 102).1 61 j = v.1 61 j := fun j hj => by rw [cp_o tI_0 tI_102 (by omega) (by omega) (by omega) (by omega)]
        have hz : PRo v 61 102 := h.2.2 p
        refine ⟨PRo_row hz (iv_42 hv (T := 102) (by omega)) (fun j hj => cp_j tI_0 tI_102 (by omega) (by omega) (by omega) hj) e3, fun q => PRo_row (h.2.1 ?_) (iv_42 hv (T := 51) (by omega)) (fun j hj => o _ (by omega)) e3, fun _ => PRo_row hz (iv_42 hv (T := 102) (by omega)) (fun j hj => o _ (by omega)) e3⟩
        rw [c 63 (by omega)] at q
        exact q
  · unfold e_X7_back
    dsimp only
    rw [show e_X7_in v k 0 1 = 0 from if_neg hk, if_pos rfl]
    exact h
/-- while it reads -/
def PRd (v : uk_Mem) : Prop := iv v ∧ ri v ∧ PRo v 61 0 ∧ PRo v 77 0 ∧ 0 ≤ v.1 77 (0 + 42) ∧ v.1 77 (0 + 42) ≤ 8
theorem read_l2 {n f k l : Int32} : ∀ (K : Nat) (i w t : Int32) (v : uk_Mem), PRd v → PRo (l_X7_read_62 n f k l K i w t v).2 61 0 ∧ (∀ j, 51 ≤ j → (l_X7_read_62 n f k l K i w t v).2.1 61 j = v.1 61 j) := by
  intro K
  induction K with
  | zero =>
    intro i w t v h
    exact ⟨h.2.2.1, fun _ _ => rfl⟩
  | succ K ih =>
    intro i w t v h
    rw [l_X7_read_62]
    dsimp only
    have stop : ∀ r : Int32, PRo (uk_up v 60 28 r) 61 0 ∧ ∀ j, 51 ≤ j → (uk_up v 60 28 r).1 61 j = v.1 61 j := fun r => ⟨PRo_c h.2.2.1 (uk_up_oc (by decide)) (by rw [uk_up_at, if_neg (by decide)]), fun j _ => by rw [uk_up_oc (by decide)]⟩
    split
    · exact stop w
    · split
      · split
        · exact ih _ _ _ v h
        · split
          · split
            · exact ih _ _ _ v h
            · split
              · generalize v.1 76 _ = cell
                obtain ⟨c1, c2⟩ := iv_does (g := cell) h.1 h.2.1
                have o : ∀ d, ¬ d = 61 → ¬ d = 62 → (e_X7_does v cell).2.1 d = v.1 d := fun d h1 h2 => does_c h1 h2
                have h' : PRd (e_X7_does v cell).2 := by
                  refine ⟨c1, c2, does_P h.1 h.2.1 h.2.2.1, PRo_c h.2.2.2.1 (o 77 (by omega) (by omega)) (by rw [o 60 (by omega) (by omega)]), ?_, ?_⟩
                  · rw [o 77 (by omega) (by omega)]
                    exact h.2.2.2.2.1
                  · rw [o 77 (by omega) (by omega)]
                    exact h.2.2.2.2.2
                split
                · obtain ⟨a, b⟩ := ih (i + 1) 0 (t + 1) _ h'
                  exact ⟨a, fun j hj => (b j hj).trans (does_o hj)⟩
                · obtain ⟨l1, l2, l3⟩ := back_l (t := i) ee_K 0 (e_X7_does v cell).2 (ee_F0 _ _) (by decide) (by decide)
                  refine ⟨PRo_row h'.2.2.2.1 h'.2.2.2.2 (fun j hj => ?_) (by rw [l2 60 (by omega)]), fun j hj => ?_⟩
                  · rw [Nat.add_zero, l3 j, if_pos ⟨Nat.zero_le _, hj⟩]
                  · rw [l3 j, if_neg (by omega)]
                    exact does_o hj
              · exact ih _ _ _ v h
          · exact ih _ _ _ v h
      · exact stop w
theorem read_P {v : uk_Mem} {k l f n : Int32} (hv : iv v) (hri : ri v) (h : PR v) : PRo (e_X7_read v k l f n).2 61 0 ∧ ∀ j, 51 ≤ j → (e_X7_read v k l f n).2.1 61 j = v.1 61 j := by
  unfold e_X7_read
  dsimp only
  split
  · exact ⟨h.1, fun _ _ => rfl⟩
  · split
    · exact ⟨h.1, fun _ _ => rfl⟩
    · obtain ⟨w, a, b, c⟩ := had_l (n := n) (f := f) (k := k) (l := l) ee_K 0 v (ee_F0 _ _) (by decide) (by decide)
      have z0 : (0 : Int32).toNatClampNeg = 0 := rfl
      rw [z0] at c
      rw [a]
      have w61 := b 61 (by omega)
      have w77 : ∀ j, j < 51 → w.1 77 (j + 0) = v.1 61 (j + 0) := fun j hj => by rw [c, if_pos ⟨Nat.zero_le _, hj⟩]
      have s0 := iv_42 hv (T := 0) (by omega)
      have e3 : w.1 60 3 = v.1 60 3 := by rw [b 60 (by omega)]
      have ivw : iv w := fun d j => by
        by_cases hd : d = 77
        · subst hd
          rw [c]
          by_cases hj : j < 51
          · rw [if_pos ⟨Nat.zero_le _, hj⟩]
            rw [sg_t7 j hj]
            exact hv 61 j
          · rw [if_neg (by omega)]
            exact hv 77 j
        · rw [b d hd]
          exact hv d j
      have riw : ri w := by
        unfold ri
        rw [b 60 (by omega), b 61 (by omega), b 64 (by omega), b 65 (by omega), b 63 (by omega)]
        exact hri
      obtain ⟨p, q⟩ := read_l2 (n := n) (f := f) (k := k) (l := l) ee_K 0 0 0 w ⟨ivw, riw, PRo_c h.1 w61 e3, PRo_row h.1 s0 w77 e3, by rw [show w.1 77 (0 + 42) = v.1 61 (0 + 42) from w77 42 (by omega)]; exact s0.1, by rw [show w.1 77 (0 + 42) = v.1 61 (0 + 42) from w77 42 (by omega)]; exact s0.2⟩
      exact ⟨p, fun j hj => (q j hj).trans (by rw [w61])⟩
theorem read_P2 {u u1 u2 : uk_Mem} {k l f n : Int32} (h : PR u) (hu : iv u) (hv1 : iv u1) (hri1 : ri u1) (F1 : fr 0 22 u u1) (e2 : u2 = (e_X7_read u1 k l f n).2) (F2 : fk [60, 61, 62, 77] [3, 7, 10, 11, 13, 14, 15, 16, 17, 18, 19, 22] u1 u2) : PR u2 := by
  have h1 : PR u1 := PR_fr h F1 (by omega)
  obtain ⟨p, o⟩ := read_P (k := k) (l := l) (f := f) (n := n) hv1 hri1 h1
  rw [← e2] at p o
  have e3 : u2.1 60 3 = u1.1 60 3 := fk_at F2 (by decide)
  have e6 : u2.1 63 = u1.1 63 := fk_c F2 (by decide)
  refine ⟨p, fun q => ?_, fun q => ?_⟩
  · rw [e6] at q
    exact PRo_row (h1.2.1 q) (iv_42 hv1 (T := 51) (by omega)) (fun j hj => o _ (by omega)) e3
  · rw [e6] at q
    exact PRo_row (h1.2.2 q) (iv_42 hv1 (T := 102) (by omega)) (fun j hj => o _ (by omega)) e3
