/-! what is lost -/
theorem loss_m {u v : uk_Mem} {N : Nat} {R : List Nat} {T : Nat} {h : Nat → Int32} {m : Int32} (n8 : N ≤ 8) (hN : v.1 60 3 = nI N) (hK : KR u v 13 61 0) (f : FN u R T) (r : RLs v N R h) (hR : ∀ y, y ∈ R → y < N) (hl : R.length ≤ 128) : ∀ (K p : Nat) (a : Int32), R.length < p + K → p ≤ R.length → (l_X6_loss_31 u m K (nI p) a).1 = (l_X7_loss_27 v K (nI p) ((e_X0_rawCost u 13 m).1 - a)).1 := by
  intro K
  induction K with
  | zero => intro p a h1 h2; omega
  | succ K ih =>
    intro p a h1 h2
    rw [l_X6_loss_31, l_X7_loss_27]
    dsimp only
    rw [f.1, r.1]
    by_cases e : p = R.length
    · rw [if_pos (by rw [e]; exact Int32.le_refl _), if_pos (by rw [e]; exact Int32.le_refl _)]
    · have hp : p < R.length := by omega
      have hy := hR _ (mem_getD hp)
      rw [if_neg (nI_ge hp (by omega)), if_neg (nI_ge hp (by omega)), nI_clamp (by omega), f.2.1 p hp, r.2.1 p hp, nI_1]
      generalize R.getD p 0 = y at hy
      have y0 : 0 ≤ nI y := nI_pos' (by omega)
      have y7 : nI y ≤ 7 := nI_le (a := y) (b := 7) (by omega) (by omega)
      have hc : (nI y).toNatClampNeg = y := nI_clamp (by omega)
      obtain ⟨j1, -, -, -, j5, -⟩ := hK.2.2.2.2.1 y (by rw [hN, nI_clamp (by omega)]; exact hy)
      have j1' : u.1 14 (nI y).toNatClampNeg = v.1 61 ((nI y).toNatClampNeg + 32) := by rw [hc]; exact j1
      rcases raw_e (u := u) (v := v) y0 y7 j1' with ⟨m1, m2⟩ | ⟨m1, m2⟩
      · have hk : v.1 61 (y + (0 + 32)) = 4 := by
          unfold e_X7_isRaw at m2
          dsimp only at m2
          rw [n32 (by omega)] at m2
          exact Classical.byContradiction fun q => by rw [if_neg q] at m2; exact absurd m2 (by decide)
        have p5 : u.1 18 y = v.1 61 (y + 24) := (j5 hk).1
        have i24 : ((24 : Int32) + nI y).toNatClampNeg = y + 24 := by rw [ix_24 y0 y7, hc]
        rw [m1, m2, if_pos rfl, if_neg one0, hc, p5, i24, ih (p + 1) _ (by omega) (by omega), show (e_X0_rawCost u 13 m).1 - (a + v.1 61 (y + 24)) = (e_X0_rawCost u 13 m).1 - a - v.1 61 (y + 24) by grind]
      · rw [m1, m2, if_neg one0, if_pos rfl, show a + 0 = a by grind, show (e_X0_rawCost u 13 m).1 - a - 0 = (e_X0_rawCost u 13 m).1 - a by grind]
        exact ih (p + 1) a (by omega) (by omega)
theorem cost_snd {v : uk_Mem} : ∀ (K : Nat) (i a : Int32), (l_X7_cost_19 v K i a).2 = v := by
  intro K
  induction K with
  | zero => intro i a; rfl
  | succ K ih =>
    intro i a
    rw [l_X7_cost_19]
    dsimp only
    split
    · rfl
    · split
      · exact ih _ _
      · exact ih _ _
theorem loss_e {u v : uk_Mem} {m : Int32} (hv : iv v) (hri : ri v) (hK : KR u v 13 61 0) : (e_X6_loss u m).1 = (e_X7_loss v m).1 := by
  have hn : 0 ≤ v.1 60 3 ∧ v.1 60 3 ≤ 8 := iv_at hv 60 3 rfl
  obtain ⟨N, n8, hN⟩ := NN hv
  unfold e_X6_loss e_X7_loss
  dsimp only
  rw [hasStuff_e hK.1 hn]
  by_cases h1 : e_X7_isStuff v m = 0
  · rw [if_pos h1, if_pos h1]
  · rw [if_neg h1, if_neg h1]
    have hm := isStuff_n hn h1
    obtain ⟨n1, n2, n3, n4⟩ := held_e hv hri hK hm.1 hm.2
    have ec : e_X7_cost v m = l_X7_cost_19 (e_X7_findHeld v m) ee_K 0 0 := by
      unfold e_X7_cost
      dsimp only
      rw [if_neg h1]
    rw [ec, cost_snd]
    -- what findHeld left
    have x60 := n3 60 (by decide)
    have hri2 : ri (e_X7_findHeld v m) := ri_kp hri (by rw [x60]) (n3 61 (by decide)) (n3 63 (by decide)) (n3 64 (by decide)) (n3 65 (by decide))
    have hK2 : KR u (e_X7_findHeld v m) 13 61 0 := KR_cg hK (fun _ _ _ => rfl) (by rw [x60]) (n3 61 (by decide)) (n3 64 (by decide)) (n3 65 (by decide))
    obtain ⟨k, hk, rfl⟩ := st_n hv n8 hN h1
    obtain ⟨R, T, h, f, r, t, rN, r128, -, o1, o2, o3⟩ := mills_h n8 (by rw [x60]; exact hN) hri2 hK2 hk
    have f : FN (e_X1_grind u (nI k) 127) R T := f
    have r : RLs (h_X7_mills (e_X7_findHeld v (nI k)) (nI k)).2 N R h := r
    have o3 : ∀ c, ¬ (41 ≤ c ∧ c ≤ 45) → (e_X1_grind u (nI k) 127).1 c = u.1 c := o3
    have o1 : ∀ c, ¬ c = 60 → ¬ c = 62 → ¬ c = 71 → (h_X7_mills (e_X7_findHeld v (nI k)) (nI k)).2.1 c = (e_X7_findHeld v (nI k)).1 c := o1
    have o2 : ∀ j, ¬ j = 22 → (h_X7_mills (e_X7_findHeld v (nI k)) (nI k)).2.1 60 j = (e_X7_findHeld v (nI k)).1 60 j := o2
    have hKu : KR (e_X1_grind u (nI k) 127) v 13 61 0 := KR_cg hK (fun d d1 d2 => o3 d (by omega)) rfl rfl rfl rfl
    have hK3 : KR (e_X1_grind u (nI k) 127) (h_X7_mills (e_X7_findHeld v (nI k)) (nI k)).2 13 61 0 := KR_cg hK2 (fun d d1 d2 => o3 d (by omega)) (o2 3 (by decide)) (o1 61 (by decide) (by decide) (by decide)) (o1 64 (by decide) (by decide) (by decide)) (o1 65 (by decide) (by decide) (by decide))
    have key := loss_m (m := nI k) n8 (by rw [o2 3 (by decide), x60]; exact hN) hK3 f r rN r128 ee_K 0 0 (by unfold ee_K; omega) (by omega)
    have e0 : (e_X0_rawCost (e_X1_grind u (nI k) 127) 13 (nI k)).1 - 0 = (l_X7_cost_19 (e_X7_findHeld v (nI k)) ee_K 0 0).1 := by
      rw [rawCost_e hv hri hKu hm.1 hm.2]
      grind
    rw [e0] at key
    exact key
/-! what it leaves -/
theorem rn_c {kb c : Nat} (hc : ¬ c = 57) : ∀ (K : Nat) (i : Int32) (u : uk_Mem), (l_X0_rawNeed_8 kb K i u).1 c = u.1 c := by
  intro K
  induction K with
  | zero => intro i u; rfl
  | succ K ih =>
    intro i u
    rw [l_X0_rawNeed_8]
    dsimp only
    split
    · rfl
    · split
      · exact ih _ _
      · rw [ih, uk_up_oc hc, uk_up_oc hc]
theorem rc_c {kb c : Nat} {u : uk_Mem} {m : Int32} (hc : ¬ c = 57) : (e_X0_rawCost u kb m).2.1 c = u.1 c := by
  have key : ∀ (K : Nat) (i a : Int32) (w : uk_Mem), (l_X0_rawCost_11 m w kb K i a).2 = w := by
    intro K
    induction K with
    | zero => intro i a w; rfl
    | succ K ih =>
      intro i a w
      rw [l_X0_rawCost_11]
      dsimp only
      split
      · rfl
      · split
        · exact ih _ _ _
        · exact ih _ _ _
  unfold e_X0_rawCost
  dsimp only
  rw [key]
  unfold e_X0_rawNeed
  dsimp only
  rw [rn_c hc]
  exact (startNeed_l (m := m) (w := 1) ee_K 0 u (ee_F0 _ _) (by decide) (by decide)).1 c hc
theorem pwo_c {c : Nat} {u : uk_Mem} {t : Int32} (hc : ¬ (41 ≤ c ∧ c ≤ 45)) : (e_X1_putWaiting u t).1 c = u.1 c := by
  unfold e_X1_putWaiting
  dsimp only
  split
  · split
    · rw [uk_up_oc (by omega)]
    · rfl
  · split
    · rw [uk_up_oc (by omega), uk_up_oc (by omega), uk_up_oc (by omega)]
    · rw [uk_up_oc (by omega), uk_up_oc (by omega)]
theorem ldo_c {c : Nat} {u : uk_Mem} {t : Int32} (hc : ¬ (41 ≤ c ∧ c ≤ 45)) : (e_X1_lieDown u t).1 c = u.1 c := by
  unfold e_X1_lieDown
  dsimp only
  split
  · rfl
  · rw [uk_up_oc (by omega), uk_up_oc (by omega)]
theorem pto_c {c : Nat} {u : uk_Mem} {t k : Int32} (hc : ¬ (41 ≤ c ∧ c ≤ 45)) : (e_X1_part u t k).1 c = u.1 c := by
  unfold e_X1_part
  dsimp only
  split
  · split
    · rw [uk_up_oc (by omega), pwo_c hc, uk_up_oc (by omega)]
    · rw [pwo_c hc, uk_up_oc (by omega)]
  · split
    · rw [uk_up_oc (by omega), pwo_c hc, pwo_c hc, uk_up_oc (by omega)]
    · rw [pwo_c hc, pwo_c hc, uk_up_oc (by omega)]
theorem g90_c {c : Nat} (hc : ¬ (41 ≤ c ∧ c ≤ 45)) : ∀ (K : Nat) (i : Int32) (u : uk_Mem), (l_X1_grind_90 K i u).1 c = u.1 c := by
  intro K
  induction K with
  | zero => intro i u; rfl
  | succ K ih =>
    intro i u
    rw [l_X1_grind_90]
    split
    · rfl
    · exact (ih _ _).trans (ldo_c hc)
theorem g8_c {c : Nat} {n : Int32} (hc : ¬ (41 ≤ c ∧ c ≤ 45)) : ∀ (K : Nat) (i : Int32) (u : uk_Mem), (l_X1_grind_8 n K i u).1 c = u.1 c := by
  intro K
  induction K with
  | zero => intro i u; rfl
  | succ K ih =>
    intro i u
    have tw : (e_X1_takeWaiting u).2.1 c = u.1 c := by
      unfold e_X1_takeWaiting
      dsimp only
      rw [uk_up_oc (by omega)]
    rw [l_X1_grind_8]
    dsimp only
    split
    · exact g90_c hc _ _ _
    · split
      · rw [g90_1]
        exact g90_c hc _ _ _
      · split
        · rw [g90_2]
          exact g90_c hc _ _ _
        · split
          · rw [ih, ldo_c hc, tw]
          · split
            · rw [ih, ldo_c hc, tw]
            · rw [ih, pto_c hc, tw]
theorem st17_c {c : Nat} {m : Int32} (hc : ¬ (41 ≤ c ∧ c ≤ 45)) : ∀ (K : Nat) (i : Int32) (u : uk_Mem), (l_X1_start_17 m K i u).1 c = u.1 c := by
  intro K
  induction K with
  | zero => intro i u; rfl
  | succ K ih =>
    intro i u
    rw [l_X1_start_17]
    dsimp only
    split
    · exact pwo_c hc
    · rw [ih, uk_up_oc (by omega), uk_up_oc (by omega)]
theorem gr_c {c : Nat} {u : uk_Mem} {m n : Int32} (hc : ¬ (41 ≤ c ∧ c ≤ 45)) : (e_X1_grind u m n).1 c = u.1 c := by
  unfold e_X1_grind
  dsimp only
  rw [g8_c hc]
  unfold e_X1_start
  dsimp only
  rw [st17_c hc, uk_up_oc (by omega), uk_up_oc (by omega), uk_up_oc (by omega)]
theorem loss6_c {c : Nat} {u : uk_Mem} {m : Int32} (hc : 46 ≤ c) (h2 : c ≤ 56) : (e_X6_loss u m).2.1 c = u.1 c := by
  have key : ∀ (K : Nat) (i a : Int32) (w : uk_Mem), (l_X6_loss_31 w m K i a).2.1 c = w.1 c := by
    intro K
    induction K with
    | zero => intro i a w; rfl
    | succ K ih =>
      intro i a w
      rw [l_X6_loss_31]
      dsimp only
      split
      · exact rc_c (by omega)
      · split
        · exact ih _ _ _
        · exact ih _ _ _
  unfold e_X6_loss
  dsimp only
  split
  · rfl
  · rw [key]
    exact gr_c (by omega)
theorem iv_z : iv u_z := by
  have key : ∀ (l : List (Nat × Int32 × Int32)) (i : Nat), (l.all fun q => decide (q.2.1 ≤ 0) && decide (0 ≤ q.2.2)) = true → (uk_pick l i).1 ≤ 0 ∧ 0 ≤ (uk_pick l i).2 := by
    intro l
    induction l with
    | nil => intro i _; exact (show (-2147483648 : Int32) ≤ 0 ∧ (0 : Int32) ≤ 2147483647 by decide)
    | cons a l ih =>
      intro i h
      obtain ⟨b, r⟩ := a
      rw [List.all_cons, Bool.and_eq_true] at h
      unfold uk_pick
      split
      · have h1 := h.1
        rw [Bool.and_eq_true] at h1
        exact ⟨of_decide_eq_true h1.1, of_decide_eq_true h1.2⟩
      · exact ih i h.2
  have hall : (uk_rngs.all fun l => l.all fun q => decide (q.2.1 ≤ 0) && decide (0 ≤ q.2.2)) = true := by decide +kernel
  intro c i
  show (uk_pick (uk_rngs.getD c []) i).1 ≤ 0 ∧ 0 ≤ (uk_pick (uk_rngs.getD c []) i).2
  refine key _ i ?_
  rw [List.getD_eq_getElem?_getD]
  cases hc : uk_rngs[c]? with
  | none => rfl
  | some l => exact List.all_eq_true.mp hall l (List.mem_of_getElem? hc)
theorem iv_0 : iv u_0 := iv_upF (iv_upF (iv_upF (iv_upF iv_z rfl) rfl) rfl) rfl
theorem uk_fvs_ad {G G' : uk_D} {u : uk_Mem} {c : Nat} : ∀ (l : List (Option Nat)) (i : Nat), (∀ o ∈ l, ∀ x, o = some x → uk_ad G' (c + x) = uk_ad G (c + x)) → uk_fvs G' u c i l = uk_fvs G u c i l
  | [], i, _ => rfl
  | o :: r, i, h => by
    rw [uk_fvs, uk_fvs, uk_fvs_ad r (i + 1) (fun o ho => h o (List.mem_cons_of_mem _ ho))]
    congr 1
    cases o with
    | none => rfl
    | some x =>
      show Value.ref (uk_ad G' (c + x)) = Value.ref (uk_ad G (c + x))
      rw [h (some x) List.mem_cons_self x rfl]
theorem uk_off : ((List.range 60).all fun c => (uk_ftab (uk_kind c)).all fun o => match o with | none => true | some x => decide (c + x < 60)) = true := by decide +kernel
theorem uk_k12 : ((List.range 60).all fun c => !(uk_kind c == 12) || c == 52) = true := by decide +kernel
theorem uk_ent_ad {G G' : uk_D} {u : uk_Mem} {c : Nat} (hc : c < 60) (hk : G'.2.2.1 = G.2.2.1) (h : ∀ j, j < 60 → uk_ad G' j = uk_ad G j) : uk_ent G' u c = uk_ent G u c := by
  have ho := List.all_eq_true.mp uk_off c (List.mem_range.mpr hc)
  have h12 := List.all_eq_true.mp uk_k12 c (List.mem_range.mpr hc)
  have hf : uk_fvs G' u c 0 (uk_ftab (uk_kind c)) = uk_fvs G u c 0 (uk_ftab (uk_kind c)) := uk_fvs_ad _ 0 (fun o hm x e => by
    subst e
    have := List.all_eq_true.mp ho _ hm
    exact h _ (of_decide_eq_true this))
  unfold uk_ent
  rw [hk]
  generalize hkc : uk_kind c = k at *
  split
  · rfl
  · rfl
  · rfl
  · rfl
  · have : c = 52 := by simpa using h12
    subst this
    have e : (fun i => if i < uk_len 52 then some (uk_ad G' (52 + 1 + i)) else none) = (fun i => if i < uk_len 52 then some (uk_ad G (52 + 1 + i)) else none) := by
      funext i
      by_cases q : i < uk_len 52
      · rw [if_pos q, if_pos q, h _ (by have : uk_len 52 = 4 := rfl; omega)]
      · rw [if_neg q, if_neg q]
    rw [e]
  · rw [hf]
def ad_7 (G : uk_D) (ad : Nat → Nat) (l : List Nat) : Nat → Nat := fun c => if c < 60 then ad c else if c < 78 then l.getD (c - 60) 0 else G.2.2.2.1 c
abbrev G_7 (G : uk_D) (ad : Nat → Nat) (l : List Nat) : uk_D := (G.1, G.2.1, G.2.2.1, ad_7 G ad l, G.2.2.2.2)
theorem ad_7_lo {G : uk_D} {ad : Nat → Nat} {l : List Nat} {c : Nat} (h : c < 60) : ad_7 G ad l c = ad c := by unfold ad_7; rw [if_pos h]
theorem ad_7_hi {G : uk_D} {ad : Nat → Nat} {l : List Nat} {c : Nat} (h : 78 ≤ c) : ad_7 G ad l c = G.2.2.2.1 c := by unfold ad_7; rw [if_neg (by omega), if_neg (by omega)]
theorem uk_E_7 {G : uk_D} {ad : Nat → Nat} {l : List Nat} {U : State} (h : uk_E G U) : uk_E (G_7 G ad l) U := by
  have e1 : (fun i => uk_ad (G_7 G ad l) (100 + i)) = fun i => uk_ad G (100 + i) := by
    funext i
    exact ad_7_hi (by omega)
  have e2 : (fun i => uk_ad (G_7 G ad l) (200 + i)) = fun i => uk_ad G (200 + i) := by
    funext i
    exact ad_7_hi (by omega)
  obtain ⟨h1, h2, h3, h4⟩ := h
  refine ⟨?_, h2, h3, fun i hi => ?_⟩
  · rw [e1, e2]
    exact h1
  · rw [congrFun e1 i]
    exact h4 i hi
theorem w_78 {G : uk_D} {ad : Nat → Nat} {l : List Nat} {u : uk_Mem} : uk_ws (G_7 G ad l) u = (List.range 60).map (fun c => (ad c, uk_ent (G.1, G.2.1, G.2.2.1, ad, fun _ => True) u c)) ++ ([60, 61, 62, 63, 64, 65, 66, 67, 68, 69, 70, 71, 72, 73, 74, 75, 76, 77] : List Nat).map (fun c => (uk_ad (G_7 G ad l) c, uk_ent (G_7 G ad l) u c)) := by
  have e : List.range 78 = List.range 60 ++ ([60, 61, 62, 63, 64, 65, 66, 67, 68, 69, 70, 71, 72, 73, 74, 75, 76, 77] : List Nat) := by decide
  unfold uk_ws
  rw [e, List.map_append]
  congr 1
  refine List.map_congr_left (fun c hc => ?_)
  have hc := List.mem_range.mp hc
  rw [uk_ent_ad (G' := G_7 G ad l) (G := (G.1, G.2.1, G.2.2.1, ad, fun _ => True)) hc rfl (fun j hj => ad_7_lo hj)]
  show (ad_7 G ad l c, _) = _
  rw [ad_7_lo hc]
/-! the sheets: lanes and sizes on both sides -/
def aq (A : Nat → Int32) (v k : Int32) : Prop := ∀ j : Int32, 0 ≤ j → j < k → A j.toNatClampNeg = v
theorem aq_0 {A : Nat → Int32} {v : Int32} : aq A v 0 := fun j h0 h1 => absurd h0 (by grind)
theorem aq_up {A : Nat → Int32} {v k : Int32} (h : aq A v k) (h0 : 0 ≤ k) : aq (upd A k.toNatClampNeg v) v (k + 1) := fun j j0 j1 => by
  by_cases q : j = k
  · rw [upd_at q]
  · rw [upd_ne j0 h0 q]
    exact h j j0 (by grind)
theorem aq_le {A : Nat → Int32} {v k n : Int32} (h : aq A v k) (hn : n ≤ k) : aq A v n := fun j j0 j1 => h j j0 (by grind)
set_option maxHeartbeats 4000000 in
set_option maxRecDepth 20000 in
theorem g7_tail {G : uk_D} {X : uk_Cx} {Q : Option Value → uk_Mem → Prop} (hs : uk_Sep G) {u : uk_Mem} (hu : iv u) (d : Nat) (hQ : ∀ u', iv u' → ri u' → fk [60, 61, 63, 64, 65, 66, 74] [13, 18, 28] u u' → aq (u'.1 74) (-4) 4 → u'.1 60 3 = 0 → (∀ j, j < 51 → u'.1 61 j = 0) → u'.1 63 0 = 0 → u'.1 63 1 = 0 → Q none u') : uk_G G X mX7_init (d + 1) Q 141 [(0, .ref (uk_ad G 60))] [] u := by
  have f0 : fk [60, 61, 63, 64, 65, 66, 74] [13, 18, 28] u u := fk_rf
  refine g_iconst (v := 0) dX7_init_141 (by decide) ?_
  refine g_istore_n dX7_init_142 (by decide) ?_
  refine g_pick (lv' := [(0, .ref (uk_ad G 60)), (1, .int 0)]) [0, 1] rfl ?_
  have L143_0 : ∀ i2 : Int32, 0 ≤ i2 → i2 ≤ 4 → ∀ (u3 : uk_Mem), iv u3 → fk [60, 61, 63, 64, 65, 66, 74] [13, 18, 28] u u3 → aq (u3.1 74) (-4) i2 → uk_G G X mX7_init (d + 1) Q 143 [(0, .ref (uk_ad G 60)), (1, .int i2)] [] u3 := by
    refine uk_upl 4 ?_
    intro i2 ai2 bi2 ihi2  u3 hu3 fu3 ji20
    have C74_u3 : u3.1 74 = u3.1 74 := rfl
    refine g_iload_n dX7_init_143 rfl ?_
    refine g_iconst (v := 4) dX7_init_144 (by decide) ?_
    refine g_icmp_ge (tgt := 162) dX7_init_145 (by decide) (fun c4 => ?_) (fun c4 => ?_)
    · refine g_aload_n dX7_init_162 rfl ?_
      refine cl_X7_63 (c := 60) (As := []) rfl (c_X7_firstDraft_t (G := G) hs hu3    (d)) rfl (by omega) rfl rfl (Nat.le_of_ble_eq_true rfl) dX7_init_163 (fun r5 u6 q7 => ?_)
      obtain ⟨rfl, mq7⟩ := q7
      obtain ⟨hu6, gu6, rfu6, ku60, ku61, ku62, ku63⟩ := mq7
      have fu6 : fk [60, 61, 63, 64, 65, 66, 74] [13, 18, 28] u u6 := fk_tr fu3 gu6 (by decide) (by decide)
      have C8 : u6.1 74 = u3.1 74 := (fk_c gu6 (by decide)).trans C74_u3
      have rdX : rd u6 := rd_0 ku60
      refine g_aload_n dX7_init_166 rfl ?_
      refine cl_X7_66 (c := 60) (As := []) rfl (c_X7_keepDraft_t (G := G) hs hu6 rdX    (d)) rfl (by omega) rfl rfl (Nat.le_of_ble_eq_true rfl) dX7_init_167 (fun r9 u10 q11 => ?_)
      obtain ⟨rfl, mq11⟩ := q11
      obtain ⟨hu10, gu10, riu10, ku100, ku101, ku102, ku103, ku104, ku105⟩ := mq11
      have fu10 : fk [60, 61, 63, 64, 65, 66, 74] [13, 18, 28] u u10 := fk_tr fu6 gu10 (by decide) (by decide)
      have rdu10 : rd u10 := rd_fk rdX gu10 (by decide) (by decide) (by decide) (by decide)
      have C12 : u10.1 74 = u3.1 74 := (fk_c gu10 (by decide)).trans C8
      exact g_vret dX7_init_170 rfl (hQ _ hu10 riu10 fu10 (by rw [C12]; exact aq_le ji20 (by lia)) (ku100.trans ku60) (fun j hj => (cpy_n ku101 (by rw [show (51 : Int32).toNatClampNeg = 51 from rfl]; exact hj) (by decide)).trans (ku63 j hj)) ku104 ku105)
    · refine g_aload_n dX7_init_148 rfl ?_
      refine f_X7_51 rfl rfl dX7_init_149 ?_
      refine g_iload_n dX7_init_152 rfl ?_
      refine g_bipush (v := (-4)) dX7_init_153 (by decide) ?_
      have v13 : vp_in i2 4 := uk_vin 4 rfl (by first | decide | lia | grind) (by first | decide | lia | grind)
      have b14 := uk_cl v13
      refine g_iast rfl rfl v13 dX7_init_155 ?_
      refine g_mem (fun u15 eu15 => ?_)
      have hu15 : iv u15 := by rw [eu15]; exact iv_upF hu3 (uk_pick1 _ (by omega))
      have fu15 : fk [60, 61, 63, 64, 65, 66, 74] [13, 18, 28] u u15 := by rw [eu15]; exact fk_up fu3 (by decide) (fun q => absurd q (by decide))
      have C16 : u15.1 74 = (upd (u3.1 74) (i2 : Int32).toNatClampNeg (-4)) := by rw [eu15, uk_up_self, C74_u3]
      refine g_iinc (v := i2 + 1) dX7_init_156 rfl rfl (by decide) ?_
      refine g_pick (lv' := [(0, .ref (uk_ad G 60)), (1, .int (i2 + 1))]) [0, 1] rfl ?_
      refine g_goto (tgt := 143) dX7_init_159 (by decide) ?_
      refine g_pick (lv' := [(0, .ref (uk_ad G 60)), (1, .int (i2 + 1))]) [0, 1] rfl ?_
      exact ihi2 (by first | lia | grind)  u15 hu15 fu15 (by rw [C16]; exact aq_up ji20 (by lia))
  refine g_pick (lv' := [(0, .ref (uk_ad G 60)), (1, .int 0)]) [0, 1] rfl ?_
  exact L143_0 0 (by first | decide | lia | grind) (by first | decide | lia | grind)  u hu f0 aq_0
set_option maxHeartbeats 40000000 in
set_option maxRecDepth 40000 in
theorem c_X7_init {G : uk_D} {ad : Nat → Nat} (h0 : Nat) : ui_MethA G (uk_E G) 2 17 948 mX7_init [.ref h0] ((h0, .inr (7, [.null, .null, .null, .int 0, .null, .null, .null, .int 0, .null, .null, .int 0, .int 0, .null, .int 0, .int 0, .int 0, .int 0, .int 0, .int 0, .int 0, .null, .null, .int 0, .null, .null, .null, .null, .null, .int 0, .null])) :: w_60 G ad) (fun w => ∃ (l : List Nat) (u : uk_Mem), l.getD 0 0 = h0 ∧ w = uk_ws (G_7 G ad l) u ∧ iv u ∧ ri u ∧ REL u) := by
  refine ui_MethA.of (by decide) (Nat.le_of_ble_eq_true rfl) (fun X => ?_)
  refine i_ws (ws' := (h0, .inr (7, [.null, .null, .null, .int 0, .null, .null, .null, .int 0, .null, .null, .int 0, .int 0, .null, .int 0, .int 0, .int 0, .int 0, .int 0, .int 0, .int 0, .null, .null, .int 0, .null, .null, .null, .null, .null, .int 0, .null])) :: (w_60 G ad ++ [])) (by rw [List.append_nil]) ?_
  refine i_aload_n dX7_init_0 rfl ?_
  refine i_obj (uk_wI (List.mem_of_getElem? (i := 764) (by decide +kernel)) rfl) dX7_init_1 (by decide) (by decide) ?_
  refine i_aload_n dX7_init_4 rfl ?_
  refine i_sipush (v := 153) dX7_init_5 (by decide) ?_
  refine i_newa (atype := .int) (ty := .int) (a0 := (153, .inl (fun _ => 0))) 0 (uk_wI (List.mem_of_getElem? (i := 84) (by decide +kernel)) rfl) rfl rfl (fun _ _ h => h) (fun _ => rfl) (by decide) rfl (by decide) (by decide) (by decide) dX7_init_8 (fun q1 => ?_)
  refine i_ws (ws' := (h0, .inr (7, [.null, .null, .null, .int 0, .null, .null, .null, .int 0, .null, .null, .int 0, .int 0, .null, .int 0, .int 0, .int 0, .int 0, .int 0, .int 0, .int 0, .null, .null, .int 0, .null, .null, .null, .null, .null, .int 0, .null])) :: (w_60 G ad ++ [(q1, .inl (G.2.2.1 8, 153, .inl (fun _ => 0)))])) (by rw [List.cons_append, List.append_assoc]; rfl) ?_
  refine i_putF (q0 := 0) (j := 0) (ty := (.array .int)) (ws' := (h0, .inr (7, [.ref q1, .null, .null, .int 0, .null, .null, .null, .int 0, .null, .null, .int 0, .int 0, .null, .int 0, .int 0, .int 0, .int 0, .int 0, .int 0, .int 0, .null, .null, .int 0, .null, .null, .null, .null, .null, .int 0, .null])) :: (w_60 G ad ++ [(q1, .inl (G.2.2.1 8, 153, .inl (fun _ => 0)))])) rfl rfl uk_in7 (by decide) tyX7_ok nmX7 rfl rfl rfl (by decide +kernel) rfl rfl (Nat.le_of_ble_eq_true rfl) (uk_wI (List.mem_of_getElem? (i := 773) (by decide +kernel)) rfl) dX7_init_10 rfl ?_
  refine i_aload_n dX7_init_13 rfl ?_
  refine i_bipush (v := 51) dX7_init_14 (by decide) ?_
  refine i_newa (atype := .int) (ty := .int) (a0 := (51, .inl (fun _ => 0))) 0 (uk_wI (List.mem_of_getElem? (i := 84) (by decide +kernel)) rfl) rfl rfl (fun _ _ h => h) (fun _ => rfl) (by decide) rfl (by decide) (by decide) (by decide) dX7_init_16 (fun q2 => ?_)
  refine i_ws (ws' := (h0, .inr (7, [.ref q1, .null, .null, .int 0, .null, .null, .null, .int 0, .null, .null, .int 0, .int 0, .null, .int 0, .int 0, .int 0, .int 0, .int 0, .int 0, .int 0, .null, .null, .int 0, .null, .null, .null, .null, .null, .int 0, .null])) :: (w_60 G ad ++ [(q1, .inl (G.2.2.1 8, 153, .inl (fun _ => 0))), (q2, .inl (G.2.2.1 8, 51, .inl (fun _ => 0)))])) (by rw [List.cons_append, List.append_assoc]; rfl) ?_
  refine i_putF (q0 := 0) (j := 1) (ty := (.array .int)) (ws' := (h0, .inr (7, [.ref q1, .ref q2, .null, .int 0, .null, .null, .null, .int 0, .null, .null, .int 0, .int 0, .null, .int 0, .int 0, .int 0, .int 0, .int 0, .int 0, .int 0, .null, .null, .int 0, .null, .null, .null, .null, .null, .int 0, .null])) :: (w_60 G ad ++ [(q1, .inl (G.2.2.1 8, 153, .inl (fun _ => 0))), (q2, .inl (G.2.2.1 8, 51, .inl (fun _ => 0)))])) rfl rfl uk_in7 (by decide) tyX7_ok nmX7 rfl rfl rfl (by decide +kernel) rfl rfl (Nat.le_of_ble_eq_true rfl) (uk_wI (List.mem_of_getElem? (i := 774) (by decide +kernel)) rfl) dX7_init_18 rfl ?_
  refine i_aload_n dX7_init_21 rfl ?_
  refine i_iconst (v := 2) dX7_init_22 (by decide) ?_
  refine i_newa (atype := .boolean) (ty := .boolean) (a0 := (2, .inl (fun _ => 0))) 2 (uk_wI (List.mem_of_getElem? (i := 172) (by decide +kernel)) rfl) rfl rfl (fun _ _ h => h) (fun _ => rfl) (by decide) rfl (by decide) (by decide) (by decide) dX7_init_23 (fun q3 => ?_)
  refine i_ws (ws' := (h0, .inr (7, [.ref q1, .ref q2, .null, .int 0, .null, .null, .null, .int 0, .null, .null, .int 0, .int 0, .null, .int 0, .int 0, .int 0, .int 0, .int 0, .int 0, .int 0, .null, .null, .int 0, .null, .null, .null, .null, .null, .int 0, .null])) :: (w_60 G ad ++ [(q1, .inl (G.2.2.1 8, 153, .inl (fun _ => 0))), (q2, .inl (G.2.2.1 8, 51, .inl (fun _ => 0))), (q3, .inl (G.2.2.1 10, 2, .inl (fun _ => 0)))])) (by rw [List.cons_append, List.append_assoc]; rfl) ?_
  refine i_putF (q0 := 0) (j := 2) (ty := (.array .boolean)) (ws' := (h0, .inr (7, [.ref q1, .ref q2, .ref q3, .int 0, .null, .null, .null, .int 0, .null, .null, .int 0, .int 0, .null, .int 0, .int 0, .int 0, .int 0, .int 0, .int 0, .int 0, .null, .null, .int 0, .null, .null, .null, .null, .null, .int 0, .null])) :: (w_60 G ad ++ [(q1, .inl (G.2.2.1 8, 153, .inl (fun _ => 0))), (q2, .inl (G.2.2.1 8, 51, .inl (fun _ => 0))), (q3, .inl (G.2.2.1 10, 2, .inl (fun _ => 0)))])) rfl rfl uk_in7 (by decide) tyX7_ok nmX7 rfl rfl rfl (by decide +kernel) rfl rfl (Nat.le_of_ble_eq_true rfl) (uk_wI (List.mem_of_getElem? (i := 775) (by decide +kernel)) rfl) dX7_init_25 rfl ?_
  refine i_aload_n dX7_init_28 rfl ?_
  refine i_bipush (v := 8) dX7_init_29 (by decide) ?_
  refine i_newa (atype := .int) (ty := .int) (a0 := (8, .inl (fun _ => 0))) 0 (uk_wI (List.mem_of_getElem? (i := 84) (by decide +kernel)) rfl) rfl rfl (fun _ _ h => h) (fun _ => rfl) (by decide) rfl (by decide) (by decide) (by decide) dX7_init_31 (fun q4 => ?_)
  refine i_ws (ws' := (h0, .inr (7, [.ref q1, .ref q2, .ref q3, .int 0, .null, .null, .null, .int 0, .null, .null, .int 0, .int 0, .null, .int 0, .int 0, .int 0, .int 0, .int 0, .int 0, .int 0, .null, .null, .int 0, .null, .null, .null, .null, .null, .int 0, .null])) :: (w_60 G ad ++ [(q1, .inl (G.2.2.1 8, 153, .inl (fun _ => 0))), (q2, .inl (G.2.2.1 8, 51, .inl (fun _ => 0))), (q3, .inl (G.2.2.1 10, 2, .inl (fun _ => 0))), (q4, .inl (G.2.2.1 8, 8, .inl (fun _ => 0)))])) (by rw [List.cons_append, List.append_assoc]; rfl) ?_
  refine i_putF (q0 := 0) (j := 4) (ty := (.array .int)) (ws' := (h0, .inr (7, [.ref q1, .ref q2, .ref q3, .int 0, .ref q4, .null, .null, .int 0, .null, .null, .int 0, .int 0, .null, .int 0, .int 0, .int 0, .int 0, .int 0, .int 0, .int 0, .null, .null, .int 0, .null, .null, .null, .null, .null, .int 0, .null])) :: (w_60 G ad ++ [(q1, .inl (G.2.2.1 8, 153, .inl (fun _ => 0))), (q2, .inl (G.2.2.1 8, 51, .inl (fun _ => 0))), (q3, .inl (G.2.2.1 10, 2, .inl (fun _ => 0))), (q4, .inl (G.2.2.1 8, 8, .inl (fun _ => 0)))])) rfl rfl uk_in7 (by decide) tyX7_ok nmX7 rfl rfl rfl (by decide +kernel) rfl rfl (Nat.le_of_ble_eq_true rfl) (uk_wI (List.mem_of_getElem? (i := 777) (by decide +kernel)) rfl) dX7_init_33 rfl ?_
  refine i_aload_n dX7_init_36 rfl ?_
  refine i_bipush (v := 8) dX7_init_37 (by decide) ?_
  refine i_newa (atype := .int) (ty := .int) (a0 := (8, .inl (fun _ => 0))) 0 (uk_wI (List.mem_of_getElem? (i := 84) (by decide +kernel)) rfl) rfl rfl (fun _ _ h => h) (fun _ => rfl) (by decide) rfl (by decide) (by decide) (by decide) dX7_init_39 (fun q5 => ?_)
  refine i_ws (ws' := (h0, .inr (7, [.ref q1, .ref q2, .ref q3, .int 0, .ref q4, .null, .null, .int 0, .null, .null, .int 0, .int 0, .null, .int 0, .int 0, .int 0, .int 0, .int 0, .int 0, .int 0, .null, .null, .int 0, .null, .null, .null, .null, .null, .int 0, .null])) :: (w_60 G ad ++ [(q1, .inl (G.2.2.1 8, 153, .inl (fun _ => 0))), (q2, .inl (G.2.2.1 8, 51, .inl (fun _ => 0))), (q3, .inl (G.2.2.1 10, 2, .inl (fun _ => 0))), (q4, .inl (G.2.2.1 8, 8, .inl (fun _ => 0))), (q5, .inl (G.2.2.1 8, 8, .inl (fun _ => 0)))])) (by rw [List.cons_append, List.append_assoc]; rfl) ?_
  refine i_putF (q0 := 0) (j := 5) (ty := (.array .int)) (ws' := (h0, .inr (7, [.ref q1, .ref q2, .ref q3, .int 0, .ref q4, .ref q5, .null, .int 0, .null, .null, .int 0, .int 0, .null, .int 0, .int 0, .int 0, .int 0, .int 0, .int 0, .int 0, .null, .null, .int 0, .null, .null, .null, .null, .null, .int 0, .null])) :: (w_60 G ad ++ [(q1, .inl (G.2.2.1 8, 153, .inl (fun _ => 0))), (q2, .inl (G.2.2.1 8, 51, .inl (fun _ => 0))), (q3, .inl (G.2.2.1 10, 2, .inl (fun _ => 0))), (q4, .inl (G.2.2.1 8, 8, .inl (fun _ => 0))), (q5, .inl (G.2.2.1 8, 8, .inl (fun _ => 0)))])) rfl rfl uk_in7 (by decide) tyX7_ok nmX7 rfl rfl rfl (by decide +kernel) rfl rfl (Nat.le_of_ble_eq_true rfl) (uk_wI (List.mem_of_getElem? (i := 778) (by decide +kernel)) rfl) dX7_init_41 rfl ?_
  refine i_aload_n dX7_init_44 rfl ?_
  refine i_bipush (v := 51) dX7_init_45 (by decide) ?_
  refine i_newa (atype := .int) (ty := .int) (a0 := (51, .inl (fun _ => 0))) 0 (uk_wI (List.mem_of_getElem? (i := 84) (by decide +kernel)) rfl) rfl rfl (fun _ _ h => h) (fun _ => rfl) (by decide) rfl (by decide) (by decide) (by decide) dX7_init_47 (fun q6 => ?_)
  refine i_ws (ws' := (h0, .inr (7, [.ref q1, .ref q2, .ref q3, .int 0, .ref q4, .ref q5, .null, .int 0, .null, .null, .int 0, .int 0, .null, .int 0, .int 0, .int 0, .int 0, .int 0, .int 0, .int 0, .null, .null, .int 0, .null, .null, .null, .null, .null, .int 0, .null])) :: (w_60 G ad ++ [(q1, .inl (G.2.2.1 8, 153, .inl (fun _ => 0))), (q2, .inl (G.2.2.1 8, 51, .inl (fun _ => 0))), (q3, .inl (G.2.2.1 10, 2, .inl (fun _ => 0))), (q4, .inl (G.2.2.1 8, 8, .inl (fun _ => 0))), (q5, .inl (G.2.2.1 8, 8, .inl (fun _ => 0))), (q6, .inl (G.2.2.1 8, 51, .inl (fun _ => 0)))])) (by rw [List.cons_append, List.append_assoc]; rfl) ?_
  refine i_putF (q0 := 0) (j := 6) (ty := (.array .int)) (ws' := (h0, .inr (7, [.ref q1, .ref q2, .ref q3, .int 0, .ref q4, .ref q5, .ref q6, .int 0, .null, .null, .int 0, .int 0, .null, .int 0, .int 0, .int 0, .int 0, .int 0, .int 0, .int 0, .null, .null, .int 0, .null, .null, .null, .null, .null, .int 0, .null])) :: (w_60 G ad ++ [(q1, .inl (G.2.2.1 8, 153, .inl (fun _ => 0))), (q2, .inl (G.2.2.1 8, 51, .inl (fun _ => 0))), (q3, .inl (G.2.2.1 10, 2, .inl (fun _ => 0))), (q4, .inl (G.2.2.1 8, 8, .inl (fun _ => 0))), (q5, .inl (G.2.2.1 8, 8, .inl (fun _ => 0))), (q6, .inl (G.2.2.1 8, 51, .inl (fun _ => 0)))])) rfl rfl uk_in7 (by decide) tyX7_ok nmX7 rfl rfl rfl (by decide +kernel) rfl rfl (Nat.le_of_ble_eq_true rfl) (uk_wI (List.mem_of_getElem? (i := 779) (by decide +kernel)) rfl) dX7_init_49 rfl ?_
  refine i_aload_n dX7_init_52 rfl ?_
  refine i_bipush (v := 8) dX7_init_53 (by decide) ?_
  refine i_newa (atype := .int) (ty := .int) (a0 := (8, .inl (fun _ => 0))) 0 (uk_wI (List.mem_of_getElem? (i := 84) (by decide +kernel)) rfl) rfl rfl (fun _ _ h => h) (fun _ => rfl) (by decide) rfl (by decide) (by decide) (by decide) dX7_init_55 (fun q7 => ?_)
  refine i_ws (ws' := (h0, .inr (7, [.ref q1, .ref q2, .ref q3, .int 0, .ref q4, .ref q5, .ref q6, .int 0, .null, .null, .int 0, .int 0, .null, .int 0, .int 0, .int 0, .int 0, .int 0, .int 0, .int 0, .null, .null, .int 0, .null, .null, .null, .null, .null, .int 0, .null])) :: (w_60 G ad ++ [(q1, .inl (G.2.2.1 8, 153, .inl (fun _ => 0))), (q2, .inl (G.2.2.1 8, 51, .inl (fun _ => 0))), (q3, .inl (G.2.2.1 10, 2, .inl (fun _ => 0))), (q4, .inl (G.2.2.1 8, 8, .inl (fun _ => 0))), (q5, .inl (G.2.2.1 8, 8, .inl (fun _ => 0))), (q6, .inl (G.2.2.1 8, 51, .inl (fun _ => 0))), (q7, .inl (G.2.2.1 8, 8, .inl (fun _ => 0)))])) (by rw [List.cons_append, List.append_assoc]; rfl) ?_
  refine i_putF (q0 := 0) (j := 8) (ty := (.array .int)) (ws' := (h0, .inr (7, [.ref q1, .ref q2, .ref q3, .int 0, .ref q4, .ref q5, .ref q6, .int 0, .ref q7, .null, .int 0, .int 0, .null, .int 0, .int 0, .int 0, .int 0, .int 0, .int 0, .int 0, .null, .null, .int 0, .null, .null, .null, .null, .null, .int 0, .null])) :: (w_60 G ad ++ [(q1, .inl (G.2.2.1 8, 153, .inl (fun _ => 0))), (q2, .inl (G.2.2.1 8, 51, .inl (fun _ => 0))), (q3, .inl (G.2.2.1 10, 2, .inl (fun _ => 0))), (q4, .inl (G.2.2.1 8, 8, .inl (fun _ => 0))), (q5, .inl (G.2.2.1 8, 8, .inl (fun _ => 0))), (q6, .inl (G.2.2.1 8, 51, .inl (fun _ => 0))), (q7, .inl (G.2.2.1 8, 8, .inl (fun _ => 0)))])) rfl rfl uk_in7 (by decide) tyX7_ok nmX7 rfl rfl rfl (by decide +kernel) rfl rfl (Nat.le_of_ble_eq_true rfl) (uk_wI (List.mem_of_getElem? (i := 781) (by decide +kernel)) rfl) dX7_init_57 rfl ?_
  refine i_aload_n dX7_init_60 rfl ?_
  refine i_bipush (v := 8) dX7_init_61 (by decide) ?_
  refine i_newa (atype := .int) (ty := .int) (a0 := (8, .inl (fun _ => 0))) 0 (uk_wI (List.mem_of_getElem? (i := 84) (by decide +kernel)) rfl) rfl rfl (fun _ _ h => h) (fun _ => rfl) (by decide) rfl (by decide) (by decide) (by decide) dX7_init_63 (fun q8 => ?_)
  refine i_ws (ws' := (h0, .inr (7, [.ref q1, .ref q2, .ref q3, .int 0, .ref q4, .ref q5, .ref q6, .int 0, .ref q7, .null, .int 0, .int 0, .null, .int 0, .int 0, .int 0, .int 0, .int 0, .int 0, .int 0, .null, .null, .int 0, .null, .null, .null, .null, .null, .int 0, .null])) :: (w_60 G ad ++ [(q1, .inl (G.2.2.1 8, 153, .inl (fun _ => 0))), (q2, .inl (G.2.2.1 8, 51, .inl (fun _ => 0))), (q3, .inl (G.2.2.1 10, 2, .inl (fun _ => 0))), (q4, .inl (G.2.2.1 8, 8, .inl (fun _ => 0))), (q5, .inl (G.2.2.1 8, 8, .inl (fun _ => 0))), (q6, .inl (G.2.2.1 8, 51, .inl (fun _ => 0))), (q7, .inl (G.2.2.1 8, 8, .inl (fun _ => 0))), (q8, .inl (G.2.2.1 8, 8, .inl (fun _ => 0)))])) (by rw [List.cons_append, List.append_assoc]; rfl) ?_
  refine i_putF (q0 := 0) (j := 9) (ty := (.array .int)) (ws' := (h0, .inr (7, [.ref q1, .ref q2, .ref q3, .int 0, .ref q4, .ref q5, .ref q6, .int 0, .ref q7, .ref q8, .int 0, .int 0, .null, .int 0, .int 0, .int 0, .int 0, .int 0, .int 0, .int 0, .null, .null, .int 0, .null, .null, .null, .null, .null, .int 0, .null])) :: (w_60 G ad ++ [(q1, .inl (G.2.2.1 8, 153, .inl (fun _ => 0))), (q2, .inl (G.2.2.1 8, 51, .inl (fun _ => 0))), (q3, .inl (G.2.2.1 10, 2, .inl (fun _ => 0))), (q4, .inl (G.2.2.1 8, 8, .inl (fun _ => 0))), (q5, .inl (G.2.2.1 8, 8, .inl (fun _ => 0))), (q6, .inl (G.2.2.1 8, 51, .inl (fun _ => 0))), (q7, .inl (G.2.2.1 8, 8, .inl (fun _ => 0))), (q8, .inl (G.2.2.1 8, 8, .inl (fun _ => 0)))])) rfl rfl uk_in7 (by decide) tyX7_ok nmX7 rfl rfl rfl (by decide +kernel) rfl rfl (Nat.le_of_ble_eq_true rfl) (uk_wI (List.mem_of_getElem? (i := 782) (by decide +kernel)) rfl) dX7_init_65 rfl ?_
  refine i_aload_n dX7_init_68 rfl ?_
  refine i_sipush (v := 160) dX7_init_69 (by decide) ?_
  refine i_newa (atype := .int) (ty := .int) (a0 := (160, .inl (fun _ => 0))) 0 (uk_wI (List.mem_of_getElem? (i := 84) (by decide +kernel)) rfl) rfl rfl (fun _ _ h => h) (fun _ => rfl) (by decide) rfl (by decide) (by decide) (by decide) dX7_init_72 (fun q9 => ?_)
  refine i_ws (ws' := (h0, .inr (7, [.ref q1, .ref q2, .ref q3, .int 0, .ref q4, .ref q5, .ref q6, .int 0, .ref q7, .ref q8, .int 0, .int 0, .null, .int 0, .int 0, .int 0, .int 0, .int 0, .int 0, .int 0, .null, .null, .int 0, .null, .null, .null, .null, .null, .int 0, .null])) :: (w_60 G ad ++ [(q1, .inl (G.2.2.1 8, 153, .inl (fun _ => 0))), (q2, .inl (G.2.2.1 8, 51, .inl (fun _ => 0))), (q3, .inl (G.2.2.1 10, 2, .inl (fun _ => 0))), (q4, .inl (G.2.2.1 8, 8, .inl (fun _ => 0))), (q5, .inl (G.2.2.1 8, 8, .inl (fun _ => 0))), (q6, .inl (G.2.2.1 8, 51, .inl (fun _ => 0))), (q7, .inl (G.2.2.1 8, 8, .inl (fun _ => 0))), (q8, .inl (G.2.2.1 8, 8, .inl (fun _ => 0))), (q9, .inl (G.2.2.1 8, 160, .inl (fun _ => 0)))])) (by rw [List.cons_append, List.append_assoc]; rfl) ?_
  refine i_putF (q0 := 0) (j := 12) (ty := (.array .int)) (ws' := (h0, .inr (7, [.ref q1, .ref q2, .ref q3, .int 0, .ref q4, .ref q5, .ref q6, .int 0, .ref q7, .ref q8, .int 0, .int 0, .ref q9, .int 0, .int 0, .int 0, .int 0, .int 0, .int 0, .int 0, .null, .null, .int 0, .null, .null, .null, .null, .null, .int 0, .null])) :: (w_60 G ad ++ [(q1, .inl (G.2.2.1 8, 153, .inl (fun _ => 0))), (q2, .inl (G.2.2.1 8, 51, .inl (fun _ => 0))), (q3, .inl (G.2.2.1 10, 2, .inl (fun _ => 0))), (q4, .inl (G.2.2.1 8, 8, .inl (fun _ => 0))), (q5, .inl (G.2.2.1 8, 8, .inl (fun _ => 0))), (q6, .inl (G.2.2.1 8, 51, .inl (fun _ => 0))), (q7, .inl (G.2.2.1 8, 8, .inl (fun _ => 0))), (q8, .inl (G.2.2.1 8, 8, .inl (fun _ => 0))), (q9, .inl (G.2.2.1 8, 160, .inl (fun _ => 0)))])) rfl rfl uk_in7 (by decide) tyX7_ok nmX7 rfl rfl rfl (by decide +kernel) rfl rfl (Nat.le_of_ble_eq_true rfl) (uk_wI (List.mem_of_getElem? (i := 785) (by decide +kernel)) rfl) dX7_init_74 rfl ?_
  refine i_aload_n dX7_init_77 rfl ?_
  refine i_bipush (v := 8) dX7_init_78 (by decide) ?_
  refine i_newa (atype := .int) (ty := .int) (a0 := (8, .inl (fun _ => 0))) 0 (uk_wI (List.mem_of_getElem? (i := 84) (by decide +kernel)) rfl) rfl rfl (fun _ _ h => h) (fun _ => rfl) (by decide) rfl (by decide) (by decide) (by decide) dX7_init_80 (fun q10 => ?_)
  refine i_ws (ws' := (h0, .inr (7, [.ref q1, .ref q2, .ref q3, .int 0, .ref q4, .ref q5, .ref q6, .int 0, .ref q7, .ref q8, .int 0, .int 0, .ref q9, .int 0, .int 0, .int 0, .int 0, .int 0, .int 0, .int 0, .null, .null, .int 0, .null, .null, .null, .null, .null, .int 0, .null])) :: (w_60 G ad ++ [(q1, .inl (G.2.2.1 8, 153, .inl (fun _ => 0))), (q2, .inl (G.2.2.1 8, 51, .inl (fun _ => 0))), (q3, .inl (G.2.2.1 10, 2, .inl (fun _ => 0))), (q4, .inl (G.2.2.1 8, 8, .inl (fun _ => 0))), (q5, .inl (G.2.2.1 8, 8, .inl (fun _ => 0))), (q6, .inl (G.2.2.1 8, 51, .inl (fun _ => 0))), (q7, .inl (G.2.2.1 8, 8, .inl (fun _ => 0))), (q8, .inl (G.2.2.1 8, 8, .inl (fun _ => 0))), (q9, .inl (G.2.2.1 8, 160, .inl (fun _ => 0))), (q10, .inl (G.2.2.1 8, 8, .inl (fun _ => 0)))])) (by rw [List.cons_append, List.append_assoc]; rfl) ?_
  refine i_putF (q0 := 0) (j := 20) (ty := (.array .int)) (ws' := (h0, .inr (7, [.ref q1, .ref q2, .ref q3, .int 0, .ref q4, .ref q5, .ref q6, .int 0, .ref q7, .ref q8, .int 0, .int 0, .ref q9, .int 0, .int 0, .int 0, .int 0, .int 0, .int 0, .int 0, .ref q10, .null, .int 0, .null, .null, .null, .null, .null, .int 0, .null])) :: (w_60 G ad ++ [(q1, .inl (G.2.2.1 8, 153, .inl (fun _ => 0))), (q2, .inl (G.2.2.1 8, 51, .inl (fun _ => 0))), (q3, .inl (G.2.2.1 10, 2, .inl (fun _ => 0))), (q4, .inl (G.2.2.1 8, 8, .inl (fun _ => 0))), (q5, .inl (G.2.2.1 8, 8, .inl (fun _ => 0))), (q6, .inl (G.2.2.1 8, 51, .inl (fun _ => 0))), (q7, .inl (G.2.2.1 8, 8, .inl (fun _ => 0))), (q8, .inl (G.2.2.1 8, 8, .inl (fun _ => 0))), (q9, .inl (G.2.2.1 8, 160, .inl (fun _ => 0))), (q10, .inl (G.2.2.1 8, 8, .inl (fun _ => 0)))])) rfl rfl uk_in7 (by decide) tyX7_ok nmX7 rfl rfl rfl (by decide +kernel) rfl rfl (Nat.le_of_ble_eq_true rfl) (uk_wI (List.mem_of_getElem? (i := 793) (by decide +kernel)) rfl) dX7_init_82 rfl ?_
  refine i_aload_n dX7_init_85 rfl ?_
  refine i_sipush (v := 256) dX7_init_86 (by decide) ?_
  refine i_newa (atype := .int) (ty := .int) (a0 := (256, .inl (fun _ => 0))) 0 (uk_wI (List.mem_of_getElem? (i := 84) (by decide +kernel)) rfl) rfl rfl (fun _ _ h => h) (fun _ => rfl) (by decide) rfl (by decide) (by decide) (by decide) dX7_init_89 (fun q11 => ?_)
  refine i_ws (ws' := (h0, .inr (7, [.ref q1, .ref q2, .ref q3, .int 0, .ref q4, .ref q5, .ref q6, .int 0, .ref q7, .ref q8, .int 0, .int 0, .ref q9, .int 0, .int 0, .int 0, .int 0, .int 0, .int 0, .int 0, .ref q10, .null, .int 0, .null, .null, .null, .null, .null, .int 0, .null])) :: (w_60 G ad ++ [(q1, .inl (G.2.2.1 8, 153, .inl (fun _ => 0))), (q2, .inl (G.2.2.1 8, 51, .inl (fun _ => 0))), (q3, .inl (G.2.2.1 10, 2, .inl (fun _ => 0))), (q4, .inl (G.2.2.1 8, 8, .inl (fun _ => 0))), (q5, .inl (G.2.2.1 8, 8, .inl (fun _ => 0))), (q6, .inl (G.2.2.1 8, 51, .inl (fun _ => 0))), (q7, .inl (G.2.2.1 8, 8, .inl (fun _ => 0))), (q8, .inl (G.2.2.1 8, 8, .inl (fun _ => 0))), (q9, .inl (G.2.2.1 8, 160, .inl (fun _ => 0))), (q10, .inl (G.2.2.1 8, 8, .inl (fun _ => 0))), (q11, .inl (G.2.2.1 8, 256, .inl (fun _ => 0)))])) (by rw [List.cons_append, List.append_assoc]; rfl) ?_
  refine i_putF (q0 := 0) (j := 21) (ty := (.array .int)) (ws' := (h0, .inr (7, [.ref q1, .ref q2, .ref q3, .int 0, .ref q4, .ref q5, .ref q6, .int 0, .ref q7, .ref q8, .int 0, .int 0, .ref q9, .int 0, .int 0, .int 0, .int 0, .int 0, .int 0, .int 0, .ref q10, .ref q11, .int 0, .null, .null, .null, .null, .null, .int 0, .null])) :: (w_60 G ad ++ [(q1, .inl (G.2.2.1 8, 153, .inl (fun _ => 0))), (q2, .inl (G.2.2.1 8, 51, .inl (fun _ => 0))), (q3, .inl (G.2.2.1 10, 2, .inl (fun _ => 0))), (q4, .inl (G.2.2.1 8, 8, .inl (fun _ => 0))), (q5, .inl (G.2.2.1 8, 8, .inl (fun _ => 0))), (q6, .inl (G.2.2.1 8, 51, .inl (fun _ => 0))), (q7, .inl (G.2.2.1 8, 8, .inl (fun _ => 0))), (q8, .inl (G.2.2.1 8, 8, .inl (fun _ => 0))), (q9, .inl (G.2.2.1 8, 160, .inl (fun _ => 0))), (q10, .inl (G.2.2.1 8, 8, .inl (fun _ => 0))), (q11, .inl (G.2.2.1 8, 256, .inl (fun _ => 0)))])) rfl rfl uk_in7 (by decide) tyX7_ok nmX7 rfl rfl rfl (by decide +kernel) rfl rfl (Nat.le_of_ble_eq_true rfl) (uk_wI (List.mem_of_getElem? (i := 794) (by decide +kernel)) rfl) dX7_init_91 rfl ?_
  refine i_aload_n dX7_init_94 rfl ?_
  refine i_bipush (v := 8) dX7_init_95 (by decide) ?_
  refine i_newa (atype := .long) (ty := .long) (a0 := (8, .inr (.inl (fun _ => 0)))) 3 (uk_wI (List.mem_of_getElem? (i := 263) (by decide +kernel)) rfl) rfl rfl (fun _ _ h => h) (fun _ => rfl) (by decide) rfl (by decide) (by decide) (by decide) dX7_init_97 (fun q12 => ?_)
  refine i_ws (ws' := (h0, .inr (7, [.ref q1, .ref q2, .ref q3, .int 0, .ref q4, .ref q5, .ref q6, .int 0, .ref q7, .ref q8, .int 0, .int 0, .ref q9, .int 0, .int 0, .int 0, .int 0, .int 0, .int 0, .int 0, .ref q10, .ref q11, .int 0, .null, .null, .null, .null, .null, .int 0, .null])) :: (w_60 G ad ++ [(q1, .inl (G.2.2.1 8, 153, .inl (fun _ => 0))), (q2, .inl (G.2.2.1 8, 51, .inl (fun _ => 0))), (q3, .inl (G.2.2.1 10, 2, .inl (fun _ => 0))), (q4, .inl (G.2.2.1 8, 8, .inl (fun _ => 0))), (q5, .inl (G.2.2.1 8, 8, .inl (fun _ => 0))), (q6, .inl (G.2.2.1 8, 51, .inl (fun _ => 0))), (q7, .inl (G.2.2.1 8, 8, .inl (fun _ => 0))), (q8, .inl (G.2.2.1 8, 8, .inl (fun _ => 0))), (q9, .inl (G.2.2.1 8, 160, .inl (fun _ => 0))), (q10, .inl (G.2.2.1 8, 8, .inl (fun _ => 0))), (q11, .inl (G.2.2.1 8, 256, .inl (fun _ => 0))), (q12, .inl (G.2.2.1 11, 8, .inr (.inl (fun _ => 0))))])) (by rw [List.cons_append, List.append_assoc]; rfl) ?_
  refine i_putF (q0 := 0) (j := 23) (ty := (.array .long)) (ws' := (h0, .inr (7, [.ref q1, .ref q2, .ref q3, .int 0, .ref q4, .ref q5, .ref q6, .int 0, .ref q7, .ref q8, .int 0, .int 0, .ref q9, .int 0, .int 0, .int 0, .int 0, .int 0, .int 0, .int 0, .ref q10, .ref q11, .int 0, .ref q12, .null, .null, .null, .null, .int 0, .null])) :: (w_60 G ad ++ [(q1, .inl (G.2.2.1 8, 153, .inl (fun _ => 0))), (q2, .inl (G.2.2.1 8, 51, .inl (fun _ => 0))), (q3, .inl (G.2.2.1 10, 2, .inl (fun _ => 0))), (q4, .inl (G.2.2.1 8, 8, .inl (fun _ => 0))), (q5, .inl (G.2.2.1 8, 8, .inl (fun _ => 0))), (q6, .inl (G.2.2.1 8, 51, .inl (fun _ => 0))), (q7, .inl (G.2.2.1 8, 8, .inl (fun _ => 0))), (q8, .inl (G.2.2.1 8, 8, .inl (fun _ => 0))), (q9, .inl (G.2.2.1 8, 160, .inl (fun _ => 0))), (q10, .inl (G.2.2.1 8, 8, .inl (fun _ => 0))), (q11, .inl (G.2.2.1 8, 256, .inl (fun _ => 0))), (q12, .inl (G.2.2.1 11, 8, .inr (.inl (fun _ => 0))))])) rfl rfl uk_in7 (by decide) tyX7_ok nmX7 rfl rfl rfl (by decide +kernel) rfl rfl (Nat.le_of_ble_eq_true rfl) (uk_wI (List.mem_of_getElem? (i := 796) (by decide +kernel)) rfl) dX7_init_99 rfl ?_
  refine i_aload_n dX7_init_102 rfl ?_
  refine i_bipush (v := 8) dX7_init_103 (by decide) ?_
  refine i_newa (atype := .int) (ty := .int) (a0 := (8, .inl (fun _ => 0))) 0 (uk_wI (List.mem_of_getElem? (i := 84) (by decide +kernel)) rfl) rfl rfl (fun _ _ h => h) (fun _ => rfl) (by decide) rfl (by decide) (by decide) (by decide) dX7_init_105 (fun q13 => ?_)
  refine i_ws (ws' := (h0, .inr (7, [.ref q1, .ref q2, .ref q3, .int 0, .ref q4, .ref q5, .ref q6, .int 0, .ref q7, .ref q8, .int 0, .int 0, .ref q9, .int 0, .int 0, .int 0, .int 0, .int 0, .int 0, .int 0, .ref q10, .ref q11, .int 0, .ref q12, .null, .null, .null, .null, .int 0, .null])) :: (w_60 G ad ++ [(q1, .inl (G.2.2.1 8, 153, .inl (fun _ => 0))), (q2, .inl (G.2.2.1 8, 51, .inl (fun _ => 0))), (q3, .inl (G.2.2.1 10, 2, .inl (fun _ => 0))), (q4, .inl (G.2.2.1 8, 8, .inl (fun _ => 0))), (q5, .inl (G.2.2.1 8, 8, .inl (fun _ => 0))), (q6, .inl (G.2.2.1 8, 51, .inl (fun _ => 0))), (q7, .inl (G.2.2.1 8, 8, .inl (fun _ => 0))), (q8, .inl (G.2.2.1 8, 8, .inl (fun _ => 0))), (q9, .inl (G.2.2.1 8, 160, .inl (fun _ => 0))), (q10, .inl (G.2.2.1 8, 8, .inl (fun _ => 0))), (q11, .inl (G.2.2.1 8, 256, .inl (fun _ => 0))), (q12, .inl (G.2.2.1 11, 8, .inr (.inl (fun _ => 0)))), (q13, .inl (G.2.2.1 8, 8, .inl (fun _ => 0)))])) (by rw [List.cons_append, List.append_assoc]; rfl) ?_
  refine i_putF (q0 := 0) (j := 24) (ty := (.array .int)) (ws' := (h0, .inr (7, [.ref q1, .ref q2, .ref q3, .int 0, .ref q4, .ref q5, .ref q6, .int 0, .ref q7, .ref q8, .int 0, .int 0, .ref q9, .int 0, .int 0, .int 0, .int 0, .int 0, .int 0, .int 0, .ref q10, .ref q11, .int 0, .ref q12, .ref q13, .null, .null, .null, .int 0, .null])) :: (w_60 G ad ++ [(q1, .inl (G.2.2.1 8, 153, .inl (fun _ => 0))), (q2, .inl (G.2.2.1 8, 51, .inl (fun _ => 0))), (q3, .inl (G.2.2.1 10, 2, .inl (fun _ => 0))), (q4, .inl (G.2.2.1 8, 8, .inl (fun _ => 0))), (q5, .inl (G.2.2.1 8, 8, .inl (fun _ => 0))), (q6, .inl (G.2.2.1 8, 51, .inl (fun _ => 0))), (q7, .inl (G.2.2.1 8, 8, .inl (fun _ => 0))), (q8, .inl (G.2.2.1 8, 8, .inl (fun _ => 0))), (q9, .inl (G.2.2.1 8, 160, .inl (fun _ => 0))), (q10, .inl (G.2.2.1 8, 8, .inl (fun _ => 0))), (q11, .inl (G.2.2.1 8, 256, .inl (fun _ => 0))), (q12, .inl (G.2.2.1 11, 8, .inr (.inl (fun _ => 0)))), (q13, .inl (G.2.2.1 8, 8, .inl (fun _ => 0)))])) rfl rfl uk_in7 (by decide) tyX7_ok nmX7 rfl rfl rfl (by decide +kernel) rfl rfl (Nat.le_of_ble_eq_true rfl) (uk_wI (List.mem_of_getElem? (i := 797) (by decide +kernel)) rfl) dX7_init_107 rfl ?_
  refine i_aload_n dX7_init_110 rfl ?_
  refine i_iconst (v := 4) dX7_init_111 (by decide) ?_
  refine i_newa (atype := .int) (ty := .int) (a0 := (4, .inl (fun _ => 0))) 0 (uk_wI (List.mem_of_getElem? (i := 84) (by decide +kernel)) rfl) rfl rfl (fun _ _ h => h) (fun _ => rfl) (by decide) rfl (by decide) (by decide) (by decide) dX7_init_112 (fun q14 => ?_)
  refine i_ws (ws' := (h0, .inr (7, [.ref q1, .ref q2, .ref q3, .int 0, .ref q4, .ref q5, .ref q6, .int 0, .ref q7, .ref q8, .int 0, .int 0, .ref q9, .int 0, .int 0, .int 0, .int 0, .int 0, .int 0, .int 0, .ref q10, .ref q11, .int 0, .ref q12, .ref q13, .null, .null, .null, .int 0, .null])) :: (w_60 G ad ++ [(q1, .inl (G.2.2.1 8, 153, .inl (fun _ => 0))), (q2, .inl (G.2.2.1 8, 51, .inl (fun _ => 0))), (q3, .inl (G.2.2.1 10, 2, .inl (fun _ => 0))), (q4, .inl (G.2.2.1 8, 8, .inl (fun _ => 0))), (q5, .inl (G.2.2.1 8, 8, .inl (fun _ => 0))), (q6, .inl (G.2.2.1 8, 51, .inl (fun _ => 0))), (q7, .inl (G.2.2.1 8, 8, .inl (fun _ => 0))), (q8, .inl (G.2.2.1 8, 8, .inl (fun _ => 0))), (q9, .inl (G.2.2.1 8, 160, .inl (fun _ => 0))), (q10, .inl (G.2.2.1 8, 8, .inl (fun _ => 0))), (q11, .inl (G.2.2.1 8, 256, .inl (fun _ => 0))), (q12, .inl (G.2.2.1 11, 8, .inr (.inl (fun _ => 0)))), (q13, .inl (G.2.2.1 8, 8, .inl (fun _ => 0))), (q14, .inl (G.2.2.1 8, 4, .inl (fun _ => 0)))])) (by rw [List.cons_append, List.append_assoc]; rfl) ?_
  refine i_putF (q0 := 0) (j := 25) (ty := (.array .int)) (ws' := (h0, .inr (7, [.ref q1, .ref q2, .ref q3, .int 0, .ref q4, .ref q5, .ref q6, .int 0, .ref q7, .ref q8, .int 0, .int 0, .ref q9, .int 0, .int 0, .int 0, .int 0, .int 0, .int 0, .int 0, .ref q10, .ref q11, .int 0, .ref q12, .ref q13, .ref q14, .null, .null, .int 0, .null])) :: (w_60 G ad ++ [(q1, .inl (G.2.2.1 8, 153, .inl (fun _ => 0))), (q2, .inl (G.2.2.1 8, 51, .inl (fun _ => 0))), (q3, .inl (G.2.2.1 10, 2, .inl (fun _ => 0))), (q4, .inl (G.2.2.1 8, 8, .inl (fun _ => 0))), (q5, .inl (G.2.2.1 8, 8, .inl (fun _ => 0))), (q6, .inl (G.2.2.1 8, 51, .inl (fun _ => 0))), (q7, .inl (G.2.2.1 8, 8, .inl (fun _ => 0))), (q8, .inl (G.2.2.1 8, 8, .inl (fun _ => 0))), (q9, .inl (G.2.2.1 8, 160, .inl (fun _ => 0))), (q10, .inl (G.2.2.1 8, 8, .inl (fun _ => 0))), (q11, .inl (G.2.2.1 8, 256, .inl (fun _ => 0))), (q12, .inl (G.2.2.1 11, 8, .inr (.inl (fun _ => 0)))), (q13, .inl (G.2.2.1 8, 8, .inl (fun _ => 0))), (q14, .inl (G.2.2.1 8, 4, .inl (fun _ => 0)))])) rfl rfl uk_in7 (by decide) tyX7_ok nmX7 rfl rfl rfl (by decide +kernel) rfl rfl (Nat.le_of_ble_eq_true rfl) (uk_wI (List.mem_of_getElem? (i := 798) (by decide +kernel)) rfl) dX7_init_114 rfl ?_
  refine i_aload_n dX7_init_117 rfl ?_
  refine i_iconst (v := 4) dX7_init_118 (by decide) ?_
  refine i_newa (atype := .int) (ty := .int) (a0 := (4, .inl (fun _ => 0))) 0 (uk_wI (List.mem_of_getElem? (i := 84) (by decide +kernel)) rfl) rfl rfl (fun _ _ h => h) (fun _ => rfl) (by decide) rfl (by decide) (by decide) (by decide) dX7_init_119 (fun q15 => ?_)
  refine i_ws (ws' := (h0, .inr (7, [.ref q1, .ref q2, .ref q3, .int 0, .ref q4, .ref q5, .ref q6, .int 0, .ref q7, .ref q8, .int 0, .int 0, .ref q9, .int 0, .int 0, .int 0, .int 0, .int 0, .int 0, .int 0, .ref q10, .ref q11, .int 0, .ref q12, .ref q13, .ref q14, .null, .null, .int 0, .null])) :: (w_60 G ad ++ [(q1, .inl (G.2.2.1 8, 153, .inl (fun _ => 0))), (q2, .inl (G.2.2.1 8, 51, .inl (fun _ => 0))), (q3, .inl (G.2.2.1 10, 2, .inl (fun _ => 0))), (q4, .inl (G.2.2.1 8, 8, .inl (fun _ => 0))), (q5, .inl (G.2.2.1 8, 8, .inl (fun _ => 0))), (q6, .inl (G.2.2.1 8, 51, .inl (fun _ => 0))), (q7, .inl (G.2.2.1 8, 8, .inl (fun _ => 0))), (q8, .inl (G.2.2.1 8, 8, .inl (fun _ => 0))), (q9, .inl (G.2.2.1 8, 160, .inl (fun _ => 0))), (q10, .inl (G.2.2.1 8, 8, .inl (fun _ => 0))), (q11, .inl (G.2.2.1 8, 256, .inl (fun _ => 0))), (q12, .inl (G.2.2.1 11, 8, .inr (.inl (fun _ => 0)))), (q13, .inl (G.2.2.1 8, 8, .inl (fun _ => 0))), (q14, .inl (G.2.2.1 8, 4, .inl (fun _ => 0))), (q15, .inl (G.2.2.1 8, 4, .inl (fun _ => 0)))])) (by rw [List.cons_append, List.append_assoc]; rfl) ?_
  refine i_putF (q0 := 0) (j := 26) (ty := (.array .int)) (ws' := (h0, .inr (7, [.ref q1, .ref q2, .ref q3, .int 0, .ref q4, .ref q5, .ref q6, .int 0, .ref q7, .ref q8, .int 0, .int 0, .ref q9, .int 0, .int 0, .int 0, .int 0, .int 0, .int 0, .int 0, .ref q10, .ref q11, .int 0, .ref q12, .ref q13, .ref q14, .ref q15, .null, .int 0, .null])) :: (w_60 G ad ++ [(q1, .inl (G.2.2.1 8, 153, .inl (fun _ => 0))), (q2, .inl (G.2.2.1 8, 51, .inl (fun _ => 0))), (q3, .inl (G.2.2.1 10, 2, .inl (fun _ => 0))), (q4, .inl (G.2.2.1 8, 8, .inl (fun _ => 0))), (q5, .inl (G.2.2.1 8, 8, .inl (fun _ => 0))), (q6, .inl (G.2.2.1 8, 51, .inl (fun _ => 0))), (q7, .inl (G.2.2.1 8, 8, .inl (fun _ => 0))), (q8, .inl (G.2.2.1 8, 8, .inl (fun _ => 0))), (q9, .inl (G.2.2.1 8, 160, .inl (fun _ => 0))), (q10, .inl (G.2.2.1 8, 8, .inl (fun _ => 0))), (q11, .inl (G.2.2.1 8, 256, .inl (fun _ => 0))), (q12, .inl (G.2.2.1 11, 8, .inr (.inl (fun _ => 0)))), (q13, .inl (G.2.2.1 8, 8, .inl (fun _ => 0))), (q14, .inl (G.2.2.1 8, 4, .inl (fun _ => 0))), (q15, .inl (G.2.2.1 8, 4, .inl (fun _ => 0)))])) rfl rfl uk_in7 (by decide) tyX7_ok nmX7 rfl rfl rfl (by decide +kernel) rfl rfl (Nat.le_of_ble_eq_true rfl) (uk_wI (List.mem_of_getElem? (i := 799) (by decide +kernel)) rfl) dX7_init_121 rfl ?_
  refine i_aload_n dX7_init_124 rfl ?_
  refine i_sipush (v := 160) dX7_init_125 (by decide) ?_
  refine i_newa (atype := .int) (ty := .int) (a0 := (160, .inl (fun _ => 0))) 0 (uk_wI (List.mem_of_getElem? (i := 84) (by decide +kernel)) rfl) rfl rfl (fun _ _ h => h) (fun _ => rfl) (by decide) rfl (by decide) (by decide) (by decide) dX7_init_128 (fun q16 => ?_)
  refine i_ws (ws' := (h0, .inr (7, [.ref q1, .ref q2, .ref q3, .int 0, .ref q4, .ref q5, .ref q6, .int 0, .ref q7, .ref q8, .int 0, .int 0, .ref q9, .int 0, .int 0, .int 0, .int 0, .int 0, .int 0, .int 0, .ref q10, .ref q11, .int 0, .ref q12, .ref q13, .ref q14, .ref q15, .null, .int 0, .null])) :: (w_60 G ad ++ [(q1, .inl (G.2.2.1 8, 153, .inl (fun _ => 0))), (q2, .inl (G.2.2.1 8, 51, .inl (fun _ => 0))), (q3, .inl (G.2.2.1 10, 2, .inl (fun _ => 0))), (q4, .inl (G.2.2.1 8, 8, .inl (fun _ => 0))), (q5, .inl (G.2.2.1 8, 8, .inl (fun _ => 0))), (q6, .inl (G.2.2.1 8, 51, .inl (fun _ => 0))), (q7, .inl (G.2.2.1 8, 8, .inl (fun _ => 0))), (q8, .inl (G.2.2.1 8, 8, .inl (fun _ => 0))), (q9, .inl (G.2.2.1 8, 160, .inl (fun _ => 0))), (q10, .inl (G.2.2.1 8, 8, .inl (fun _ => 0))), (q11, .inl (G.2.2.1 8, 256, .inl (fun _ => 0))), (q12, .inl (G.2.2.1 11, 8, .inr (.inl (fun _ => 0)))), (q13, .inl (G.2.2.1 8, 8, .inl (fun _ => 0))), (q14, .inl (G.2.2.1 8, 4, .inl (fun _ => 0))), (q15, .inl (G.2.2.1 8, 4, .inl (fun _ => 0))), (q16, .inl (G.2.2.1 8, 160, .inl (fun _ => 0)))])) (by rw [List.cons_append, List.append_assoc]; rfl) ?_
  refine i_putF (q0 := 0) (j := 27) (ty := (.array .int)) (ws' := (h0, .inr (7, [.ref q1, .ref q2, .ref q3, .int 0, .ref q4, .ref q5, .ref q6, .int 0, .ref q7, .ref q8, .int 0, .int 0, .ref q9, .int 0, .int 0, .int 0, .int 0, .int 0, .int 0, .int 0, .ref q10, .ref q11, .int 0, .ref q12, .ref q13, .ref q14, .ref q15, .ref q16, .int 0, .null])) :: (w_60 G ad ++ [(q1, .inl (G.2.2.1 8, 153, .inl (fun _ => 0))), (q2, .inl (G.2.2.1 8, 51, .inl (fun _ => 0))), (q3, .inl (G.2.2.1 10, 2, .inl (fun _ => 0))), (q4, .inl (G.2.2.1 8, 8, .inl (fun _ => 0))), (q5, .inl (G.2.2.1 8, 8, .inl (fun _ => 0))), (q6, .inl (G.2.2.1 8, 51, .inl (fun _ => 0))), (q7, .inl (G.2.2.1 8, 8, .inl (fun _ => 0))), (q8, .inl (G.2.2.1 8, 8, .inl (fun _ => 0))), (q9, .inl (G.2.2.1 8, 160, .inl (fun _ => 0))), (q10, .inl (G.2.2.1 8, 8, .inl (fun _ => 0))), (q11, .inl (G.2.2.1 8, 256, .inl (fun _ => 0))), (q12, .inl (G.2.2.1 11, 8, .inr (.inl (fun _ => 0)))), (q13, .inl (G.2.2.1 8, 8, .inl (fun _ => 0))), (q14, .inl (G.2.2.1 8, 4, .inl (fun _ => 0))), (q15, .inl (G.2.2.1 8, 4, .inl (fun _ => 0))), (q16, .inl (G.2.2.1 8, 160, .inl (fun _ => 0)))])) rfl rfl uk_in7 (by decide) tyX7_ok nmX7 rfl rfl rfl (by decide +kernel) rfl rfl (Nat.le_of_ble_eq_true rfl) (uk_wI (List.mem_of_getElem? (i := 800) (by decide +kernel)) rfl) dX7_init_130 rfl ?_
  refine i_aload_n dX7_init_133 rfl ?_
  refine i_bipush (v := 51) dX7_init_134 (by decide) ?_
  refine i_newa (atype := .int) (ty := .int) (a0 := (51, .inl (fun _ => 0))) 0 (uk_wI (List.mem_of_getElem? (i := 84) (by decide +kernel)) rfl) rfl rfl (fun _ _ h => h) (fun _ => rfl) (by decide) rfl (by decide) (by decide) (by decide) dX7_init_136 (fun q17 => ?_)
  refine i_ws (ws' := (h0, .inr (7, [.ref q1, .ref q2, .ref q3, .int 0, .ref q4, .ref q5, .ref q6, .int 0, .ref q7, .ref q8, .int 0, .int 0, .ref q9, .int 0, .int 0, .int 0, .int 0, .int 0, .int 0, .int 0, .ref q10, .ref q11, .int 0, .ref q12, .ref q13, .ref q14, .ref q15, .ref q16, .int 0, .null])) :: (w_60 G ad ++ [(q1, .inl (G.2.2.1 8, 153, .inl (fun _ => 0))), (q2, .inl (G.2.2.1 8, 51, .inl (fun _ => 0))), (q3, .inl (G.2.2.1 10, 2, .inl (fun _ => 0))), (q4, .inl (G.2.2.1 8, 8, .inl (fun _ => 0))), (q5, .inl (G.2.2.1 8, 8, .inl (fun _ => 0))), (q6, .inl (G.2.2.1 8, 51, .inl (fun _ => 0))), (q7, .inl (G.2.2.1 8, 8, .inl (fun _ => 0))), (q8, .inl (G.2.2.1 8, 8, .inl (fun _ => 0))), (q9, .inl (G.2.2.1 8, 160, .inl (fun _ => 0))), (q10, .inl (G.2.2.1 8, 8, .inl (fun _ => 0))), (q11, .inl (G.2.2.1 8, 256, .inl (fun _ => 0))), (q12, .inl (G.2.2.1 11, 8, .inr (.inl (fun _ => 0)))), (q13, .inl (G.2.2.1 8, 8, .inl (fun _ => 0))), (q14, .inl (G.2.2.1 8, 4, .inl (fun _ => 0))), (q15, .inl (G.2.2.1 8, 4, .inl (fun _ => 0))), (q16, .inl (G.2.2.1 8, 160, .inl (fun _ => 0))), (q17, .inl (G.2.2.1 8, 51, .inl (fun _ => 0)))])) (by rw [List.cons_append, List.append_assoc]; rfl) ?_
  refine i_putF (q0 := 0) (j := 29) (ty := (.array .int)) (ws' := (h0, .inr (7, [.ref q1, .ref q2, .ref q3, .int 0, .ref q4, .ref q5, .ref q6, .int 0, .ref q7, .ref q8, .int 0, .int 0, .ref q9, .int 0, .int 0, .int 0, .int 0, .int 0, .int 0, .int 0, .ref q10, .ref q11, .int 0, .ref q12, .ref q13, .ref q14, .ref q15, .ref q16, .int 0, .ref q17])) :: (w_60 G ad ++ [(q1, .inl (G.2.2.1 8, 153, .inl (fun _ => 0))), (q2, .inl (G.2.2.1 8, 51, .inl (fun _ => 0))), (q3, .inl (G.2.2.1 10, 2, .inl (fun _ => 0))), (q4, .inl (G.2.2.1 8, 8, .inl (fun _ => 0))), (q5, .inl (G.2.2.1 8, 8, .inl (fun _ => 0))), (q6, .inl (G.2.2.1 8, 51, .inl (fun _ => 0))), (q7, .inl (G.2.2.1 8, 8, .inl (fun _ => 0))), (q8, .inl (G.2.2.1 8, 8, .inl (fun _ => 0))), (q9, .inl (G.2.2.1 8, 160, .inl (fun _ => 0))), (q10, .inl (G.2.2.1 8, 8, .inl (fun _ => 0))), (q11, .inl (G.2.2.1 8, 256, .inl (fun _ => 0))), (q12, .inl (G.2.2.1 11, 8, .inr (.inl (fun _ => 0)))), (q13, .inl (G.2.2.1 8, 8, .inl (fun _ => 0))), (q14, .inl (G.2.2.1 8, 4, .inl (fun _ => 0))), (q15, .inl (G.2.2.1 8, 4, .inl (fun _ => 0))), (q16, .inl (G.2.2.1 8, 160, .inl (fun _ => 0))), (q17, .inl (G.2.2.1 8, 51, .inl (fun _ => 0)))])) rfl rfl uk_in7 (by decide) tyX7_ok nmX7 rfl rfl rfl (by decide +kernel) rfl rfl (Nat.le_of_ble_eq_true rfl) (uk_wI (List.mem_of_getElem? (i := 802) (by decide +kernel)) rfl) dX7_init_138 rfl ?_
  refine i_sub (ws' := w_60 G ad ++ [(h0, .inr (7, [.ref q1, .ref q2, .ref q3, .int 0, .ref q4, .ref q5, .ref q6, .int 0, .ref q7, .ref q8, .int 0, .int 0, .ref q9, .int 0, .int 0, .int 0, .int 0, .int 0, .int 0, .int 0, .ref q10, .ref q11, .int 0, .ref q12, .ref q13, .ref q14, .ref q15, .ref q16, .int 0, .ref q17])), (q1, .inl (G.2.2.1 8, 153, .inl (fun _ => 0))), (q2, .inl (G.2.2.1 8, 51, .inl (fun _ => 0))), (q3, .inl (G.2.2.1 10, 2, .inl (fun _ => 0))), (q4, .inl (G.2.2.1 8, 8, .inl (fun _ => 0))), (q5, .inl (G.2.2.1 8, 8, .inl (fun _ => 0))), (q6, .inl (G.2.2.1 8, 51, .inl (fun _ => 0))), (q7, .inl (G.2.2.1 8, 8, .inl (fun _ => 0))), (q8, .inl (G.2.2.1 8, 8, .inl (fun _ => 0))), (q9, .inl (G.2.2.1 8, 160, .inl (fun _ => 0))), (q10, .inl (G.2.2.1 8, 8, .inl (fun _ => 0))), (q11, .inl (G.2.2.1 8, 256, .inl (fun _ => 0))), (q12, .inl (G.2.2.1 11, 8, .inr (.inl (fun _ => 0)))), (q13, .inl (G.2.2.1 8, 8, .inl (fun _ => 0))), (q14, .inl (G.2.2.1 8, 4, .inl (fun _ => 0))), (q15, .inl (G.2.2.1 8, 4, .inl (fun _ => 0))), (q16, .inl (G.2.2.1 8, 160, .inl (fun _ => 0))), (q17, .inl (G.2.2.1 8, 51, .inl (fun _ => 0)))]) [1, 2, 3, 4, 5, 6, 7, 8, 9, 10, 11, 12, 13, 14, 15, 16, 17, 18, 19, 20, 21, 22, 23, 24, 25, 26, 27, 28, 29, 30, 31, 32, 33, 34, 35, 36, 37, 38, 39, 40, 41, 42, 43, 44, 45, 46, 47, 48, 49, 50, 51, 52, 53, 54, 55, 56, 57, 58, 59, 60, 0, 61, 62, 63, 64, 65, 66, 67, 68, 69, 70, 71, 72, 73, 74, 75, 76, 77] (by decide) rfl rfl ?_
  refine i_flat (ad := ad_7 G ad [h0, q1, q2, q3, q4, q5, q6, q7, q8, q9, q10, q11, q12, q13, q14, q15, q16, q17]) (u := u_0) (d := 1 + 1) rfl (by rw [show (G.1, G.2.1, G.2.2.1, ad_7 G ad [h0, q1, q2, q3, q4, q5, q6, q7, q8, q9, q10, q11, q12, q13, q14, q15, q16, q17], G.2.2.2.2) = G_7 G ad [h0, q1, q2, q3, q4, q5, q6, q7, q8, q9, q10, q11, q12, q13, q14, q15, q16, q17] from rfl, w_78]; rfl) (fun U h => uk_E_7 h) (by decide) (by decide) (by decide) (fun X' hs => ?_)
  exact g7_tail hs iv_0 1 (fun u' h1 h2 h3 h4 h5 h6 h7 h8 => ⟨rfl, [h0, q1, q2, q3, q4, q5, q6, q7, q8, q9, q10, q11, q12, q13, q14, q15, q16, q17], u', rfl, rfl, h1, h2, REL_0 h3 (by decide) (by decide) h5 h6 h7 h8 (fun j hj => by have := h4 (nI j) (nI_pos' (by omega)) (by rcases (show j = 0 ∨ j = 1 ∨ j = 2 ∨ j = 3 by omega) with rfl | rfl | rfl | rfl <;> decide); rwa [nI_clamp (by omega)] at this)⟩)
/-! the law -/
abbrev mL : uk_M := (x, code, 4, ret)
def lw_q : Option Value → uk_Mem → Prop := fun r _ => r = some (.int 1)
/-- the script lies where it lay, outside the system's own -/
def lw_scr (G : uk_D) (X : uk_Cx) (b L : Nat) (xs : Nat → Int32) : Prop := va_X b L xs X.2.2.2.1 X.2.2.2.1.heap ∧ b < X.2.2.2.1.heap.size ∧ ¬ G.2.2.2.2 b
section LWR
variable {G : uk_D} {X : uk_Cx} {M : uk_M} {d : Nat} {Q : Option Value → uk_Mem → Prop} {pc : Nat} {lv : List (Nat × Value)} {st : List Value} {u : uk_Mem} {b L : Nat} {xs : Nat → Int32}
theorem g_sld {i : Int32} (hX : lw_scr G X b L xs) (hi : vp_in i L) (hd : decode M.2.1 pc = .ok (.iaload, 1)) (K : uk_G G X M d Q (pc + 1) lv (.int (xs i.toNatClampNeg) :: st) u) : uk_G G X M d Q pc lv (.int i :: .ref b :: st) u := fun hO ls H locs hl hP hS => va_sld hO.1 hO.2.1 hX.1 hX.2.1 hX.2.2 hS hi hd (K hO ls H locs hl hP hS)
theorem g_scl (hX : lw_scr G X b L xs) (hd : decode M.2.1 pc = .ok (.arraylength, 1)) (K : uk_G G X M d Q (pc + 1) lv (.int (Int32.ofNat L) :: st) u) : uk_G G X M d Q pc lv (.ref b :: st) u := fun hO ls H locs hl hP hS => va_slen hO.1 hO.2.1 hX.1 hX.2.1 hX.2.2 hS hd (K hO ls H locs hl hP hS)
end LWR
section LWI
variable {G : uk_D} {A : Nat → Prop} {E : State → Prop} {X : uk_Cx} {M : uk_M} {f mc ms : Nat} {Q : va_W → Prop} {k n : Nat} {ws ws' : va_W} {pc : Nat} {lv : List (Nat × Value)} {st stk : List Value}
theorem i_istore_n {j : Fin 4} {x : Int32} (hd : decode M.2.1 pc = .ok (.istore_n j, 1)) (hn : (j : Nat) < M.2.2.1) (K : ui_G G A E X M f mc ms Q k n ws (pc + 1) (uk_set lv (j : Nat) (.int x)) st) : ui_G G A E X M f mc ms Q k n ws pc lv (.int x :: st) := fun hO ls H locs hl hP hD hS => lv_istore_n hO.1 hO.2.1 hd rfl hl hn rfl (fun ls' hl' => K hO ls' H locs (uk_has1 rfl hl') hP hD hS)
end LWI
theorem ri_fr {a b : Nat} {u u' : uk_Mem} (h : ri u) (f : fr a b u u') (hb : b ≤ 60) : ri u' := ri_kp h (fr_at f (Or.inr hb)) (f.1 61 (Or.inr (by omega))) (f.1 63 (Or.inr (by omega))) (f.1 64 (Or.inr (by omega))) (f.1 65 (Or.inr (by omega)))
theorem lw_feed {c a a' b b' x1 x2 : Int32} (h : a = b) (r : a ≤ 160) (t1 : ((c < 0 ∨ 127 < c) ∧ x1 = -1 ∧ a' = a) ∨ (0 ≤ c ∧ c ≤ 127 ∧ 160 ≤ a ∧ x1 = -3 ∧ a' = a) ∨ (0 ≤ c ∧ c ≤ 127 ∧ a < 160 ∧ x1 = a + 1 ∧ a' = a + 1)) (t2 : ((c < 0 ∨ 127 < c) ∧ x2 = -1 ∧ b' = b) ∨ (0 ≤ c ∧ c ≤ 127 ∧ b = 160 ∧ x2 = -3 ∧ b' = b) ∨ (0 ≤ c ∧ c ≤ 127 ∧ ¬ b = 160 ∧ x2 = b + 1 ∧ b' = b + 1)) : a' = b' ∧ x1 = x2 := by
  subst h
  rcases t1 with ⟨p1, rfl, rfl⟩ | ⟨p1, p2, p3, rfl, rfl⟩ | ⟨p1, p2, p3, rfl, rfl⟩ <;> rcases t2 with ⟨q1, rfl, rfl⟩ | ⟨q1, q2, q3, rfl, rfl⟩ | ⟨q1, q2, q3, rfl, rfl⟩
  · exact ⟨rfl, rfl⟩
  · exfalso; rcases p1 with p | p <;> lia
  · exfalso; rcases p1 with p | p <;> lia
  · exfalso; rcases q1 with p | p <;> lia
  · exact ⟨rfl, rfl⟩
  · exfalso; lia
  · exfalso; rcases q1 with p | p <;> lia
  · exfalso; lia
  · exact ⟨rfl, rfl⟩
theorem lw_vin {j : Int32} {L : Nat} (h0 : 0 ≤ j) (h : j < nI L) (hL : L < 2 ^ 31) : vp_in j L := by
  have := uk_cll h0 h
  rw [nI_clamp hL] at this
  rintro (q | q)
  · exact absurd h0 (by lia)
  · omega
theorem tp_feed {u u1 u2 : uk_Mem} {c x1 x2 : Int32} (h : cpy (u.1 3) (u.1 69) (u.1 2 1)) (ht : u.1 2 1 = u.1 60 13) (r0 : 0 ≤ u.1 2 1 ∧ u.1 2 1 ≤ 160) (r : u.1 2 1 ≤ 160) (t1 : (((c < 0 ∨ 127 < c) ∧ x1 = -1 ∧ u1.1 2 1 = u.1 2 1) ∨ (0 ≤ c ∧ c ≤ 127 ∧ 160 ≤ u.1 2 1 ∧ x1 = -3 ∧ u1.1 2 1 = u.1 2 1) ∨ (0 ≤ c ∧ c ≤ 127 ∧ u.1 2 1 < 160 ∧ x1 = u.1 2 1 + 1 ∧ u1.1 2 1 = u.1 2 1 + 1))) (a0 : 0 ≤ c ∧ c ≤ 127 ∧ u.1 2 1 < 160 → u1.1 3 = upd (u.1 3) (u.1 2 1).toNatClampNeg c) (a1 : ¬ (0 ≤ c ∧ c ≤ 127 ∧ u.1 2 1 < 160) → u1.1 3 = u.1 3) (t2 : (((c < 0 ∨ 127 < c) ∧ x2 = -1 ∧ u2.1 60 13 = u.1 60 13) ∨ (0 ≤ c ∧ c ≤ 127 ∧ u.1 60 13 = 160 ∧ x2 = -3 ∧ u2.1 60 13 = u.1 60 13) ∨ (0 ≤ c ∧ c ≤ 127 ∧ ¬ u.1 60 13 = 160 ∧ x2 = u.1 60 13 + 1 ∧ u2.1 60 13 = u.1 60 13 + 1))) (b0 : 0 ≤ c ∧ c ≤ 127 ∧ u1.1 60 13 < 160 → u2.1 69 = upd (u.1 69) (u1.1 60 13).toNatClampNeg c) (b1 : ¬ (0 ≤ c ∧ c ≤ 127 ∧ u1.1 60 13 < 160) → u2.1 69 = u.1 69) (e3 : u2.1 3 = u1.1 3) (e21 : u2.1 2 1 = u1.1 2 1) (e13 : u1.1 60 13 = u.1 60 13) : cpy (u2.1 3) (u2.1 69) (u2.1 2 1) := by
  rw [e3, e21]
  by_cases z : 0 ≤ c ∧ c ≤ 127 ∧ u.1 2 1 < 160
  · rw [a0 z, b0 ⟨z.1, z.2.1, by rw [e13, ← ht]; exact z.2.2⟩, e13, ← ht]
    have hs : u1.1 2 1 = u.1 2 1 + 1 := by
      rcases t1 with ⟨w, -⟩ | ⟨-, -, w, -⟩ | ⟨-, -, -, -, w⟩
      · exfalso; rcases w with w | w <;> grind
      · exfalso; grind
      · exact w
    rw [hs]
    exact cpy_2 h r0.1
  · rw [a1 z, b1 (fun w => z ⟨w.1, w.2.1, by rw [ht, ← e13]; exact w.2.2⟩)]
    have hs : u1.1 2 1 = u.1 2 1 := by
      rcases t1 with ⟨-, -, w⟩ | ⟨-, -, -, -, w⟩ | ⟨w1, w2, w3, -⟩
      · exact w
      · exact w
      · exact absurd ⟨w1, w2, w3⟩ z
    rw [hs]
    exact h
set_option maxHeartbeats 4000000 in
theorem lw_c0 {G : uk_D} {X : uk_Cx} {b L : Nat} {xs : Nat → Int32} {i : Int32} {u : uk_Mem} (hs : uk_Sep G) (hX : lw_scr G X b L xs) (h1 : vp_in (i + 1) L) (h2 : vp_in (i + 2) L) (h3 : vp_in (i + 3) L) (h4 : vp_in (i + 4) L) (hu : iv u) (hri : ri u) (ht : REL u) (K : ∀ u', iv u' → ri u' → REL u' → uk_G G X mL 12 lw_q 1230 [(0, .ref b), (1, .ref (uk_ad G 0)), (2, .ref (uk_ad G 60)), (3, .int i)] [] u') : uk_G G X mL 12 lw_q 192 [(0, .ref b), (1, .ref (uk_ad G 0)), (2, .ref (uk_ad G 60)), (3, .int i)] [] u := by
  have hts : u.1 2 1 = u.1 60 13 := ht.2.2.2.2.1.1
  have htp : cpy (u.1 3) (u.1 69) (u.1 2 1) := ht.2.2.2.2.1.2.1
  refine g_aload_n dL_law_192 rfl ?_
  refine g_aload_n dL_law_193 rfl ?_
  refine g_iload_n dL_law_194 rfl ?_
  refine g_iconst (v := 1) dL_law_195 (by decide) ?_
  refine g_iadd dL_law_196 ?_
  refine g_sld hX h1 dL_law_197 ?_
  refine cl_L_13 (c := 0) (As := [.int (xs (i + 1).toNatClampNeg)]) rfl (c_X6_feed_s (G := G) hs hu (xs (i + 1).toNatClampNeg) 9) rfl (by decide) rfl rfl (Nat.le_of_ble_eq_true rfl) dL_law_198 (fun r1 u1 q1 => ?_)
  obtain ⟨⟨x1, rfl, t1⟩, m1⟩ := q1
  obtain ⟨hv1, g1, k1_0, k1_1⟩ := m1
  have rj1 : ri u1 := ri_fr hri g1 (by decide)
  refine g_pop dL_law_201 rfl ?_
  refine g_aload_n dL_law_202 rfl ?_
  refine g_aload_n dL_law_203 rfl ?_
  refine g_iload_n dL_law_204 rfl ?_
  refine g_iconst (v := 1) dL_law_205 (by decide) ?_
  refine g_iadd dL_law_206 ?_
  refine g_sld hX h1 dL_law_207 ?_
  refine cl_L_17 (c := 60) (As := [.int (xs (i + 1).toNatClampNeg)]) rfl (c_X7_feed_s (G := G) hs hv1 (xs (i + 1).toNatClampNeg) 9) rfl (by decide) rfl rfl (Nat.le_of_ble_eq_true rfl) dL_law_208 (fun r2 u2 q2 => ?_)
  obtain ⟨⟨x2, rfl, t2⟩, m2⟩ := q2
  obtain ⟨hv2, g2, k2_0, k2_1⟩ := m2
  have rj2 : ri u2 := ri_fk rj1 g2 (by decide) (by decide) (by decide) (by decide) (by decide)
  have s1 : u1.1 60 13 = u.1 60 13 := fr_at g1 (by decide)
  have s2 : u2.1 2 1 = u1.1 2 1 := fk_at g2 (by decide)
  have rr : 0 ≤ u.1 2 1 ∧ u.1 2 1 ≤ 160 := iv_at hu 2 1 rfl
  rw [s1] at t2
  have hq := lw_feed hts rr.2 t1 t2
  have ht2 : REL u2 := REL_tp ht (fun c h2 h3 h60 h69 => (fk_c g2 (by simp only [List.mem_cons, List.not_mem_nil, or_false]; omega)).trans (g1.1 c (by omega))) ((fk_at g2 (by decide)).trans (fr_at g1 (by decide))) ((fk_at g2 (by decide)).trans (fr_at g1 (by decide))) ((fk_at g2 (by decide)).trans (fr_at g1 (by decide))) (s2.trans hq.1) (tp_feed htp hts rr rr.2 t1 k1_0 k1_1 t2 (by rw [← g1.1 69 (by omega)]; exact k2_0) (by rw [← g1.1 69 (by omega)]; exact k2_1) (fk_c g2 (by decide)) s2 s1)
  refine g_pop dL_law_211 rfl ?_
  refine g_goto (tgt := 1230) dL_law_212 (by decide) ?_
  exact K u2 hv2 rj2 ht2
set_option maxHeartbeats 4000000 in
theorem lw_c1 {G : uk_D} {X : uk_Cx} {b L : Nat} {xs : Nat → Int32} {i : Int32} {u : uk_Mem} (hs : uk_Sep G) (hX : lw_scr G X b L xs) (h1 : vp_in (i + 1) L) (h2 : vp_in (i + 2) L) (h3 : vp_in (i + 3) L) (h4 : vp_in (i + 4) L) (hu : iv u) (hri : ri u) (ht : REL u) (K : ∀ u', iv u' → ri u' → REL u' → uk_G G X mL 12 lw_q 1230 [(0, .ref b), (1, .ref (uk_ad G 0)), (2, .ref (uk_ad G 60)), (3, .int i)] [] u') : uk_G G X mL 12 lw_q 215 [(0, .ref b), (1, .ref (uk_ad G 0)), (2, .ref (uk_ad G 60)), (3, .int i)] [] u := by
  have hts : u.1 2 1 = u.1 60 13 := ht.2.2.2.2.1.1
  have htp : cpy (u.1 3) (u.1 69) (u.1 2 1) := ht.2.2.2.2.1.2.1
  refine g_aload_n dL_law_215 rfl ?_
  refine g_aload_n dL_law_216 rfl ?_
  refine g_iload_n dL_law_217 rfl ?_
  refine g_iconst (v := 1) dL_law_218 (by decide) ?_
  refine g_iadd dL_law_219 ?_
  refine g_sld hX h1 dL_law_220 ?_
  refine cl_L_18 (c := 0) (As := [.int (xs (i + 1).toNatClampNeg)]) rfl (c_X6_end (G := G) hs hu (xs (i + 1).toNatClampNeg) 10) rfl (by decide) rfl rfl (Nat.le_of_ble_eq_true rfl) dL_law_221 (fun r1 u1 q1 => ?_)
  obtain ⟨⟨x1, rfl, t1⟩, m1⟩ := q1
  obtain ⟨hv1, g1⟩ := m1
  have rj1 : ri u1 := ri_fr hri g1 (by decide)
  refine g_pop dL_law_224 rfl ?_
  refine g_aload_n dL_law_225 rfl ?_
  refine g_aload_n dL_law_226 rfl ?_
  refine g_iload_n dL_law_227 rfl ?_
  refine g_iconst (v := 1) dL_law_228 (by decide) ?_
  refine g_iadd dL_law_229 ?_
  refine g_sld hX h1 dL_law_230 ?_
  refine cl_L_21 (c := 60) (As := [.int (xs (i + 1).toNatClampNeg)]) rfl (c_X7_end (G := G) hs hv1 (xs (i + 1).toNatClampNeg) 9) rfl (by decide) rfl rfl (Nat.le_of_ble_eq_true rfl) dL_law_231 (fun r2 u2 q2 => ?_)
  obtain ⟨⟨x2, rfl, t2⟩, m2⟩ := q2
  obtain ⟨hv2, g2⟩ := m2
  have rj2 : ri u2 := ri_fk rj1 g2 (by decide) (by decide) (by decide) (by decide) (by decide)
  have s1 : u1.1 60 13 = u.1 60 13 := fr_at g1 (by decide)
  have s2 : u2.1 2 1 = u1.1 2 1 := fk_at g2 (by decide)
  have c3 : u2.1 3 = u.1 3 := (fk_c g2 (by decide)).trans (g1.1 3 (by omega))
  have c69 : u2.1 69 = u.1 69 := (fk_c g2 (by decide)).trans (g1.1 69 (by omega))
  have ht2 : REL u2 := REL_tp ht (fun c h2 h3 h60 h69 => (fk_c g2 (by simp only [List.mem_cons, List.not_mem_nil, or_false]; omega)).trans (g1.1 c (by omega))) ((fk_at g2 (by decide)).trans (fr_at g1 (by decide))) ((fk_at g2 (by decide)).trans (fr_at g1 (by decide))) ((fk_at g2 (by decide)).trans (fr_at g1 (by decide))) (by grind) (by rw [c3, c69]; exact cpy_le htp (by grind))
  refine g_pop dL_law_234 rfl ?_
  refine g_goto (tgt := 1230) dL_law_235 (by decide) ?_
  exact K u2 hv2 rj2 ht2
set_option maxHeartbeats 4000000 in
theorem lw_c2 {G : uk_D} {X : uk_Cx} {b L : Nat} {xs : Nat → Int32} {i : Int32} {u : uk_Mem} (hs : uk_Sep G) (hX : lw_scr G X b L xs) (h1 : vp_in (i + 1) L) (h2 : vp_in (i + 2) L) (h3 : vp_in (i + 3) L) (h4 : vp_in (i + 4) L) (hu : iv u) (hri : ri u) (ht : REL u) (K : ∀ u', iv u' → ri u' → REL u' → uk_G G X mL 12 lw_q 1230 [(0, .ref b), (1, .ref (uk_ad G 0)), (2, .ref (uk_ad G 60)), (3, .int i)] [] u') : uk_G G X mL 12 lw_q 238 [(0, .ref b), (1, .ref (uk_ad G 0)), (2, .ref (uk_ad G 60)), (3, .int i)] [] u := by
  have hts : u.1 2 1 = u.1 60 13 := ht.2.2.2.2.1.1
  have htp : cpy (u.1 3) (u.1 69) (u.1 2 1) := ht.2.2.2.2.1.2.1
  refine g_aload_n dL_law_238 rfl ?_
  refine cl_L_22 (c := 0) (As := []) rfl (c_X6_text_t (G := G) hs hu  (u.1 3) (u.1 2 1) (fun i _ _ => rfl) rfl 2) rfl (by decide) rfl rfl (Nat.le_of_ble_eq_true rfl) dL_law_239 (fun r1 u1 q1 => ?_)
  obtain ⟨⟨x1, rfl, t1⟩, m1⟩ := q1
  obtain ⟨hv1, g1, k1_0, k1_1, k1_2, k1_3, k1_4⟩ := m1
  have rj1 : ri u1 := ri_fr hri g1 (by decide)
  refine g_pop dL_law_242 rfl ?_
  refine g_aload_n dL_law_243 rfl ?_
  refine cl_L_26 (c := 60) (As := []) rfl (c_X7_text_t (G := G) hs hv1 rj1  (u.1 3) (u.1 2 1) (by rw [g1.1 69 (by omega)]; exact cpy_sy htp) (by rw [fr_at (c := 60) (i := 13) g1 (by decide)]; exact hts.symm) 5) rfl (by decide) rfl rfl (Nat.le_of_ble_eq_true rfl) dL_law_244 (fun r2 u2 q2 => ?_)
  obtain ⟨⟨x2, rfl, t2⟩, m2⟩ := q2
  obtain ⟨hv2, g2, ri2, k2_0, k2_1, k2_2, k2_3⟩ := m2
  have ht2 : REL u2 := REL_tx ht hu hv2 g1 g2 k1_0 k1_1 k1_2 k1_3 k1_4 k2_0 k2_1 k2_2 k2_3
  refine g_pop dL_law_247 rfl ?_
  refine g_goto (tgt := 1230) dL_law_248 (by decide) ?_
  exact K u2 hv2 ri2 ht2
set_option maxHeartbeats 4000000 in
theorem lw_c3 {G : uk_D} {X : uk_Cx} {b L : Nat} {xs : Nat → Int32} {i : Int32} {u : uk_Mem} (hs : uk_Sep G) (hX : lw_scr G X b L xs) (h1 : vp_in (i + 1) L) (h2 : vp_in (i + 2) L) (h3 : vp_in (i + 3) L) (h4 : vp_in (i + 4) L) (hu : iv u) (hri : ri u) (ht : REL u) (K : ∀ u', iv u' → ri u' → REL u' → uk_G G X mL 12 lw_q 1230 [(0, .ref b), (1, .ref (uk_ad G 0)), (2, .ref (uk_ad G 60)), (3, .int i)] [] u') : uk_G G X mL 12 lw_q 251 [(0, .ref b), (1, .ref (uk_ad G 0)), (2, .ref (uk_ad G 60)), (3, .int i)] [] u := by
  have hts : u.1 2 1 = u.1 60 13 := ht.2.2.2.2.1.1
  have htp : cpy (u.1 3) (u.1 69) (u.1 2 1) := ht.2.2.2.2.1.2.1
  refine g_aload_n dL_law_251 rfl ?_
  refine cl_L_27 (c := 0) (As := []) rfl (c_X6_fault_s (G := G) hs hu  10) rfl (by decide) rfl rfl (Nat.le_of_ble_eq_true rfl) dL_law_252 (fun r1 u1 q1 => ?_)
  obtain ⟨⟨x1, rfl, t1⟩, m1⟩ := q1
  rw [m1]
  refine g_pop dL_law_255 rfl ?_
  refine g_aload_n dL_law_256 rfl ?_
  refine cl_L_30 (c := 60) (As := []) rfl (c_X7_fault_s (G := G) hs hu  10) rfl (by decide) rfl rfl (Nat.le_of_ble_eq_true rfl) dL_law_257 (fun r2 u2 q2 => ?_)
  obtain ⟨⟨x2, rfl, t2⟩, m2⟩ := q2
  rw [m2]
  refine g_pop dL_law_260 rfl ?_
  refine g_goto (tgt := 1230) dL_law_261 (by decide) ?_
  exact K u hu hri ht
set_option maxHeartbeats 4000000 in
theorem lw_c4 {G : uk_D} {X : uk_Cx} {b L : Nat} {xs : Nat → Int32} {i : Int32} {u : uk_Mem} (hs : uk_Sep G) (hX : lw_scr G X b L xs) (h1 : vp_in (i + 1) L) (h2 : vp_in (i + 2) L) (h3 : vp_in (i + 3) L) (h4 : vp_in (i + 4) L) (hu : iv u) (hri : ri u) (ht : REL u) (K : ∀ u', iv u' → ri u' → REL u' → uk_G G X mL 12 lw_q 1230 [(0, .ref b), (1, .ref (uk_ad G 0)), (2, .ref (uk_ad G 60)), (3, .int i)] [] u') : uk_G G X mL 12 lw_q 264 [(0, .ref b), (1, .ref (uk_ad G 0)), (2, .ref (uk_ad G 60)), (3, .int i)] [] u := by
  have hts : u.1 2 1 = u.1 60 13 := ht.2.2.2.2.1.1
  have htp : cpy (u.1 3) (u.1 69) (u.1 2 1) := ht.2.2.2.2.1.2.1
  refine g_aload_n dL_law_264 rfl ?_
  refine g_aload_n dL_law_265 rfl ?_
  refine g_iload_n dL_law_266 rfl ?_
  refine g_iconst (v := 1) dL_law_267 (by decide) ?_
  refine g_iadd dL_law_268 ?_
  refine g_sld hX h1 dL_law_269 ?_
  refine cl_L_31 (c := 0) (As := [.int (xs (i + 1).toNatClampNeg)]) rfl (x_X6_rule (G := G) hs hu (xs (i + 1).toNatClampNeg) 8) rfl (by decide) rfl rfl (Nat.le_of_ble_eq_true rfl) dL_law_270 (fun r1 u1 q1 => ?_)
  obtain ⟨q1, E1⟩ := q1
  obtain ⟨⟨x1, rfl, t1⟩, m1⟩ := q1
  rw [m1]
  refine g_pop dL_law_273 rfl ?_
  refine g_aload_n dL_law_274 rfl ?_
  refine g_aload_n dL_law_275 rfl ?_
  refine g_iload_n dL_law_276 rfl ?_
  refine g_iconst (v := 1) dL_law_277 (by decide) ?_
  refine g_iadd dL_law_278 ?_
  refine g_sld hX h1 dL_law_279 ?_
  refine cl_L_34 (c := 60) (As := [.int (xs (i + 1).toNatClampNeg)]) rfl (x_X7_rule (G := G) hs hu (xs (i + 1).toNatClampNeg) 9) rfl (by decide) rfl rfl (Nat.le_of_ble_eq_true rfl) dL_law_280 (fun r2 u2 q2 => ?_)
  obtain ⟨q2, E2⟩ := q2
  obtain ⟨⟨x2, rfl, t2⟩, m2⟩ := q2
  rw [m2]
  refine g_pop dL_law_283 rfl ?_
  refine g_goto (tgt := 1230) dL_law_284 (by decide) ?_
  exact K u hu hri ht
set_option maxHeartbeats 4000000 in
theorem lw_c5 {G : uk_D} {X : uk_Cx} {b L : Nat} {xs : Nat → Int32} {i : Int32} {u : uk_Mem} (hs : uk_Sep G) (hX : lw_scr G X b L xs) (h1 : vp_in (i + 1) L) (h2 : vp_in (i + 2) L) (h3 : vp_in (i + 3) L) (h4 : vp_in (i + 4) L) (hu : iv u) (hri : ri u) (ht : REL u) (K : ∀ u', iv u' → ri u' → REL u' → uk_G G X mL 12 lw_q 1230 [(0, .ref b), (1, .ref (uk_ad G 0)), (2, .ref (uk_ad G 60)), (3, .int i)] [] u') : uk_G G X mL 12 lw_q 287 [(0, .ref b), (1, .ref (uk_ad G 0)), (2, .ref (uk_ad G 60)), (3, .int i)] [] u := by
  have hts : u.1 2 1 = u.1 60 13 := ht.2.2.2.2.1.1
  have htp : cpy (u.1 3) (u.1 69) (u.1 2 1) := ht.2.2.2.2.1.2.1
  refine g_aload_n dL_law_287 rfl ?_
  refine g_aload_n dL_law_288 rfl ?_
  refine g_iload_n dL_law_289 rfl ?_
  refine g_iconst (v := 1) dL_law_290 (by decide) ?_
  refine g_iadd dL_law_291 ?_
  refine g_sld hX h1 dL_law_292 ?_
  refine g_aload_n dL_law_293 rfl ?_
  refine g_iload_n dL_law_294 rfl ?_
  refine g_iconst (v := 2) dL_law_295 (by decide) ?_
  refine g_iadd dL_law_296 ?_
  refine g_sld hX h2 dL_law_297 ?_
  refine cl_L_35 (c := 0) (As := [.int (xs (i + 1).toNatClampNeg), .int (xs (i + 2).toNatClampNeg)]) rfl (x_X6_stuff (G := G) hs hu (xs (i + 1).toNatClampNeg) (xs (i + 2).toNatClampNeg) 9) rfl (by decide) rfl rfl (Nat.le_of_ble_eq_true rfl) dL_law_298 (fun r1 u1 q1 => ?_)
  obtain ⟨q1, E1⟩ := q1
  obtain ⟨⟨x1, rfl, t1⟩, m1⟩ := q1
  rw [m1]
  refine g_pop dL_law_301 rfl ?_
  refine g_aload_n dL_law_302 rfl ?_
  refine g_aload_n dL_law_303 rfl ?_
  refine g_iload_n dL_law_304 rfl ?_
  refine g_iconst (v := 1) dL_law_305 (by decide) ?_
  refine g_iadd dL_law_306 ?_
  refine g_sld hX h1 dL_law_307 ?_
  refine g_aload_n dL_law_308 rfl ?_
  refine g_iload_n dL_law_309 rfl ?_
  refine g_iconst (v := 2) dL_law_310 (by decide) ?_
  refine g_iadd dL_law_311 ?_
  refine g_sld hX h2 dL_law_312 ?_
  refine cl_L_39 (c := 60) (As := [.int (xs (i + 1).toNatClampNeg), .int (xs (i + 2).toNatClampNeg)]) rfl (x_X7_stuff (G := G) hs hu (xs (i + 1).toNatClampNeg) (xs (i + 2).toNatClampNeg) 8) rfl (by decide) rfl rfl (Nat.le_of_ble_eq_true rfl) dL_law_313 (fun r2 u2 q2 => ?_)
  obtain ⟨q2, E2⟩ := q2
  obtain ⟨⟨x2, rfl, t2⟩, m2⟩ := q2
  rw [m2]
  refine g_pop dL_law_316 rfl ?_
  refine g_goto (tgt := 1230) dL_law_317 (by decide) ?_
  exact K u hu hri ht
set_option maxHeartbeats 4000000 in
theorem lw_c6 {G : uk_D} {X : uk_Cx} {b L : Nat} {xs : Nat → Int32} {i : Int32} {u : uk_Mem} (hs : uk_Sep G) (hX : lw_scr G X b L xs) (h1 : vp_in (i + 1) L) (h2 : vp_in (i + 2) L) (h3 : vp_in (i + 3) L) (h4 : vp_in (i + 4) L) (hu : iv u) (hri : ri u) (ht : REL u) (K : ∀ u', iv u' → ri u' → REL u' → uk_G G X mL 12 lw_q 1230 [(0, .ref b), (1, .ref (uk_ad G 0)), (2, .ref (uk_ad G 60)), (3, .int i)] [] u') : uk_G G X mL 12 lw_q 320 [(0, .ref b), (1, .ref (uk_ad G 0)), (2, .ref (uk_ad G 60)), (3, .int i)] [] u := by
  have hts : u.1 2 1 = u.1 60 13 := ht.2.2.2.2.1.1
  have htp : cpy (u.1 3) (u.1 69) (u.1 2 1) := ht.2.2.2.2.1.2.1
  refine g_aload_n dL_law_320 rfl ?_
  refine g_aload_n dL_law_321 rfl ?_
  refine g_iload_n dL_law_322 rfl ?_
  refine g_iconst (v := 1) dL_law_323 (by decide) ?_
  refine g_iadd dL_law_324 ?_
  refine g_sld hX h1 dL_law_325 ?_
  refine g_aload_n dL_law_326 rfl ?_
  refine g_iload_n dL_law_327 rfl ?_
  refine g_iconst (v := 2) dL_law_328 (by decide) ?_
  refine g_iadd dL_law_329 ?_
  refine g_sld hX h2 dL_law_330 ?_
  refine cl_L_40 (c := 0) (As := [.int (xs (i + 1).toNatClampNeg), .int (xs (i + 2).toNatClampNeg)]) rfl (x_X6_fill (G := G) hs hu (xs (i + 1).toNatClampNeg) (xs (i + 2).toNatClampNeg) 9) rfl (by decide) rfl rfl (Nat.le_of_ble_eq_true rfl) dL_law_331 (fun r1 u1 q1 => ?_)
  obtain ⟨q1, E1⟩ := q1
  obtain ⟨⟨x1, rfl, t1⟩, m1⟩ := q1
  obtain ⟨hv1, g1⟩ := m1
  have rj1 : ri u1 := ri_fr hri g1 (by decide)
  have K1 : KR u u1 13 61 0 := KR_u1 ht g1 (by decide)
  refine g_pop dL_law_334 rfl ?_
  refine g_aload_n dL_law_335 rfl ?_
  refine g_aload_n dL_law_336 rfl ?_
  refine g_iload_n dL_law_337 rfl ?_
  refine g_iconst (v := 1) dL_law_338 (by decide) ?_
  refine g_iadd dL_law_339 ?_
  refine g_sld hX h1 dL_law_340 ?_
  refine g_aload_n dL_law_341 rfl ?_
  refine g_iload_n dL_law_342 rfl ?_
  refine g_iconst (v := 2) dL_law_343 (by decide) ?_
  refine g_iadd dL_law_344 ?_
  refine g_sld hX h2 dL_law_345 ?_
  refine cl_L_43 (c := 60) (As := [.int (xs (i + 1).toNatClampNeg), .int (xs (i + 2).toNatClampNeg)]) rfl (x_X7_fill (G := G) hs hv1 rj1 (xs (i + 1).toNatClampNeg) (xs (i + 2).toNatClampNeg) 8) rfl (by decide) rfl rfl (Nat.le_of_ble_eq_true rfl) dL_law_346 (fun r2 u2 q2 => ?_)
  obtain ⟨q2, E2⟩ := q2
  obtain ⟨⟨x2, rfl, t2⟩, m2⟩ := q2
  obtain ⟨hv2, g2, ri2⟩ := m2
  have A := fill_e (m := (xs (i + 1).toNatClampNeg)) (n := (xs (i + 2).toNatClampNeg)) hv1 K1
  have A2 : KR u1 u2 13 61 0 := by
    have z := A.2
    rw [← E1.2, ← E2.2] at z
    exact z
  have ht2 : REL u2 := REL_kit ht hu g1 g2 (by decide) (fun j hj => by rw [E2.2]; exact fill_o (iv_at hv1 60 3 rfl) hj) A2
  refine g_pop dL_law_349 rfl ?_
  refine g_goto (tgt := 1230) dL_law_350 (by decide) ?_
  exact K u2 hv2 ri2 ht2
set_option maxHeartbeats 4000000 in
theorem lw_c7 {G : uk_D} {X : uk_Cx} {b L : Nat} {xs : Nat → Int32} {i : Int32} {u : uk_Mem} (hs : uk_Sep G) (hX : lw_scr G X b L xs) (h1 : vp_in (i + 1) L) (h2 : vp_in (i + 2) L) (h3 : vp_in (i + 3) L) (h4 : vp_in (i + 4) L) (hu : iv u) (hri : ri u) (ht : REL u) (K : ∀ u', iv u' → ri u' → REL u' → uk_G G X mL 12 lw_q 1230 [(0, .ref b), (1, .ref (uk_ad G 0)), (2, .ref (uk_ad G 60)), (3, .int i)] [] u') : uk_G G X mL 12 lw_q 353 [(0, .ref b), (1, .ref (uk_ad G 0)), (2, .ref (uk_ad G 60)), (3, .int i)] [] u := by
  have hts : u.1 2 1 = u.1 60 13 := ht.2.2.2.2.1.1
  have htp : cpy (u.1 3) (u.1 69) (u.1 2 1) := ht.2.2.2.2.1.2.1
  refine g_aload_n dL_law_353 rfl ?_
  refine g_aload_n dL_law_354 rfl ?_
  refine g_iload_n dL_law_355 rfl ?_
  refine g_iconst (v := 1) dL_law_356 (by decide) ?_
  refine g_iadd dL_law_357 ?_
  refine g_sld hX h1 dL_law_358 ?_
  refine g_aload_n dL_law_359 rfl ?_
  refine g_iload_n dL_law_360 rfl ?_
  refine g_iconst (v := 2) dL_law_361 (by decide) ?_
  refine g_iadd dL_law_362 ?_
  refine g_sld hX h2 dL_law_363 ?_
  refine cl_L_44 (c := 0) (As := [.int (xs (i + 1).toNatClampNeg), .int (xs (i + 2).toNatClampNeg)]) rfl (x_X6_feeds (G := G) hs hu (xs (i + 1).toNatClampNeg) (xs (i + 2).toNatClampNeg) 9) rfl (by decide) rfl rfl (Nat.le_of_ble_eq_true rfl) dL_law_364 (fun r1 u1 q1 => ?_)
  obtain ⟨q1, E1⟩ := q1
  obtain ⟨⟨x1, rfl, t1⟩, m1⟩ := q1
  obtain ⟨hv1, g1⟩ := m1
  have rj1 : ri u1 := ri_fr hri g1 (by decide)
  have K1 : KR u u1 13 61 0 := KR_u1 ht g1 (by decide)
  refine g_pop dL_law_367 rfl ?_
  refine g_aload_n dL_law_368 rfl ?_
  refine g_aload_n dL_law_369 rfl ?_
  refine g_iload_n dL_law_370 rfl ?_
  refine g_iconst (v := 1) dL_law_371 (by decide) ?_
  refine g_iadd dL_law_372 ?_
  refine g_sld hX h1 dL_law_373 ?_
  refine g_aload_n dL_law_374 rfl ?_
  refine g_iload_n dL_law_375 rfl ?_
  refine g_iconst (v := 2) dL_law_376 (by decide) ?_
  refine g_iadd dL_law_377 ?_
  refine g_sld hX h2 dL_law_378 ?_
  refine cl_L_47 (c := 60) (As := [.int (xs (i + 1).toNatClampNeg), .int (xs (i + 2).toNatClampNeg)]) rfl (x_X7_feeds (G := G) hs hv1 rj1 (xs (i + 1).toNatClampNeg) (xs (i + 2).toNatClampNeg) 8) rfl (by decide) rfl rfl (Nat.le_of_ble_eq_true rfl) dL_law_379 (fun r2 u2 q2 => ?_)
  obtain ⟨q2, E2⟩ := q2
  obtain ⟨⟨x2, rfl, t2⟩, m2⟩ := q2
  obtain ⟨hv2, g2, ri2⟩ := m2
  have A := feeds_e (m := (xs (i + 1).toNatClampNeg)) (n := (xs (i + 2).toNatClampNeg)) hv1 K1
  have A2 : KR u1 u2 13 61 0 := by
    have z := A.2
    rw [← E1.2, ← E2.2] at z
    exact z
  have ht2 : REL u2 := REL_kit ht hu g1 g2 (by decide) (fun j hj => by rw [E2.2]; exact feeds_o (iv_at hv1 60 3 rfl) hj) A2
  refine g_pop dL_law_382 rfl ?_
  refine g_goto (tgt := 1230) dL_law_383 (by decide) ?_
  exact K u2 hv2 ri2 ht2
set_option maxHeartbeats 4000000 in
theorem lw_c8 {G : uk_D} {X : uk_Cx} {b L : Nat} {xs : Nat → Int32} {i : Int32} {u : uk_Mem} (hs : uk_Sep G) (hX : lw_scr G X b L xs) (h1 : vp_in (i + 1) L) (h2 : vp_in (i + 2) L) (h3 : vp_in (i + 3) L) (h4 : vp_in (i + 4) L) (hu : iv u) (hri : ri u) (ht : REL u) (K : ∀ u', iv u' → ri u' → REL u' → uk_G G X mL 12 lw_q 1230 [(0, .ref b), (1, .ref (uk_ad G 0)), (2, .ref (uk_ad G 60)), (3, .int i)] [] u') : uk_G G X mL 12 lw_q 386 [(0, .ref b), (1, .ref (uk_ad G 0)), (2, .ref (uk_ad G 60)), (3, .int i)] [] u := by
  have hts : u.1 2 1 = u.1 60 13 := ht.2.2.2.2.1.1
  have htp : cpy (u.1 3) (u.1 69) (u.1 2 1) := ht.2.2.2.2.1.2.1
  refine g_aload_n dL_law_386 rfl ?_
  refine g_aload_n dL_law_387 rfl ?_
  refine g_iload_n dL_law_388 rfl ?_
  refine g_iconst (v := 1) dL_law_389 (by decide) ?_
  refine g_iadd dL_law_390 ?_
  refine g_sld hX h1 dL_law_391 ?_
  refine g_aload_n dL_law_392 rfl ?_
  refine g_iload_n dL_law_393 rfl ?_
  refine g_iconst (v := 2) dL_law_394 (by decide) ?_
  refine g_iadd dL_law_395 ?_
  refine g_sld hX h2 dL_law_396 ?_
  refine cl_L_48 (c := 0) (As := [.int (xs (i + 1).toNatClampNeg), .int (xs (i + 2).toNatClampNeg)]) rfl (x_X6_price (G := G) hs hu (xs (i + 1).toNatClampNeg) (xs (i + 2).toNatClampNeg) 9) rfl (by decide) rfl rfl (Nat.le_of_ble_eq_true rfl) dL_law_397 (fun r1 u1 q1 => ?_)
  obtain ⟨q1, E1⟩ := q1
  obtain ⟨⟨x1, rfl, t1⟩, m1⟩ := q1
  obtain ⟨hv1, g1⟩ := m1
  have rj1 : ri u1 := ri_fr hri g1 (by decide)
  have K1 : KR u u1 13 61 0 := KR_u1 ht g1 (by decide)
  refine g_pop dL_law_400 rfl ?_
  refine g_aload_n dL_law_401 rfl ?_
  refine g_aload_n dL_law_402 rfl ?_
  refine g_iload_n dL_law_403 rfl ?_
  refine g_iconst (v := 1) dL_law_404 (by decide) ?_
  refine g_iadd dL_law_405 ?_
  refine g_sld hX h1 dL_law_406 ?_
  refine g_aload_n dL_law_407 rfl ?_
  refine g_iload_n dL_law_408 rfl ?_
  refine g_iconst (v := 2) dL_law_409 (by decide) ?_
  refine g_iadd dL_law_410 ?_
  refine g_sld hX h2 dL_law_411 ?_
  refine cl_L_51 (c := 60) (As := [.int (xs (i + 1).toNatClampNeg), .int (xs (i + 2).toNatClampNeg)]) rfl (x_X7_price (G := G) hs hv1 rj1 (xs (i + 1).toNatClampNeg) (xs (i + 2).toNatClampNeg) 8) rfl (by decide) rfl rfl (Nat.le_of_ble_eq_true rfl) dL_law_412 (fun r2 u2 q2 => ?_)
  obtain ⟨q2, E2⟩ := q2
  obtain ⟨⟨x2, rfl, t2⟩, m2⟩ := q2
  obtain ⟨hv2, g2, ri2⟩ := m2
  have A := price_e (m := (xs (i + 1).toNatClampNeg)) (n := (xs (i + 2).toNatClampNeg)) hv1 K1
  have A2 : KR u1 u2 13 61 0 := by
    have z := A.2
    rw [← E1.2, ← E2.2] at z
    exact z
  have ht2 : REL u2 := REL_kit ht hu g1 g2 (by decide) (fun j hj => by rw [E2.2]; exact price_o (iv_at hv1 60 3 rfl) hj) A2
  refine g_pop dL_law_415 rfl ?_
  refine g_goto (tgt := 1230) dL_law_416 (by decide) ?_
  exact K u2 hv2 ri2 ht2
set_option maxHeartbeats 4000000 in
theorem lw_c9 {G : uk_D} {X : uk_Cx} {b L : Nat} {xs : Nat → Int32} {i : Int32} {u : uk_Mem} (hs : uk_Sep G) (hX : lw_scr G X b L xs) (h1 : vp_in (i + 1) L) (h2 : vp_in (i + 2) L) (h3 : vp_in (i + 3) L) (h4 : vp_in (i + 4) L) (hu : iv u) (hri : ri u) (ht : REL u) (K : ∀ u', iv u' → ri u' → REL u' → uk_G G X mL 12 lw_q 1230 [(0, .ref b), (1, .ref (uk_ad G 0)), (2, .ref (uk_ad G 60)), (3, .int i)] [] u') : uk_G G X mL 12 lw_q 419 [(0, .ref b), (1, .ref (uk_ad G 0)), (2, .ref (uk_ad G 60)), (3, .int i)] [] u := by
  have hts : u.1 2 1 = u.1 60 13 := ht.2.2.2.2.1.1
  have htp : cpy (u.1 3) (u.1 69) (u.1 2 1) := ht.2.2.2.2.1.2.1
  refine g_aload_n dL_law_419 rfl ?_
  refine g_aload_n dL_law_420 rfl ?_
  refine g_iload_n dL_law_421 rfl ?_
  refine g_iconst (v := 1) dL_law_422 (by decide) ?_
  refine g_iadd dL_law_423 ?_
  refine g_sld hX h1 dL_law_424 ?_
  refine g_aload_n dL_law_425 rfl ?_
  refine g_iload_n dL_law_426 rfl ?_
  refine g_iconst (v := 2) dL_law_427 (by decide) ?_
  refine g_iadd dL_law_428 ?_
  refine g_sld hX h2 dL_law_429 ?_
  refine cl_L_52 (c := 0) (As := [.int (xs (i + 1).toNatClampNeg), .int (xs (i + 2).toNatClampNeg)]) rfl (x_X6_kind (G := G) hs hu (xs (i + 1).toNatClampNeg) (xs (i + 2).toNatClampNeg) 9) rfl (by decide) rfl rfl (Nat.le_of_ble_eq_true rfl) dL_law_430 (fun r1 u1 q1 => ?_)
  obtain ⟨q1, E1⟩ := q1
  obtain ⟨⟨x1, rfl, t1⟩, m1⟩ := q1
  obtain ⟨hv1, g1⟩ := m1
  have rj1 : ri u1 := ri_fr hri g1 (by decide)
  have K1 : KR u u1 13 61 0 := KR_u1 ht g1 (by decide)
  refine g_pop dL_law_433 rfl ?_
  refine g_aload_n dL_law_434 rfl ?_
  refine g_aload_n dL_law_435 rfl ?_
  refine g_iload_n dL_law_436 rfl ?_
  refine g_iconst (v := 1) dL_law_437 (by decide) ?_
  refine g_iadd dL_law_438 ?_
  refine g_sld hX h1 dL_law_439 ?_
  refine g_aload_n dL_law_440 rfl ?_
  refine g_iload_n dL_law_441 rfl ?_
  refine g_iconst (v := 2) dL_law_442 (by decide) ?_
  refine g_iadd dL_law_443 ?_
  refine g_sld hX h2 dL_law_444 ?_
  refine cl_L_55 (c := 60) (As := [.int (xs (i + 1).toNatClampNeg), .int (xs (i + 2).toNatClampNeg)]) rfl (x_X7_kind (G := G) hs hv1 rj1 (xs (i + 1).toNatClampNeg) (xs (i + 2).toNatClampNeg) 8) rfl (by decide) rfl rfl (Nat.le_of_ble_eq_true rfl) dL_law_445 (fun r2 u2 q2 => ?_)
  obtain ⟨q2, E2⟩ := q2
  obtain ⟨⟨x2, rfl, t2⟩, m2⟩ := q2
  obtain ⟨hv2, g2, ri2⟩ := m2
  have A := kind_e (m := (xs (i + 1).toNatClampNeg)) (n := (xs (i + 2).toNatClampNeg)) hv1 K1
  have A2 : KR u1 u2 13 61 0 := by
    have z := A.2
    rw [← E1.2, ← E2.2] at z
    exact z
  have ht2 : REL u2 := REL_kit ht hu g1 g2 (by decide) (fun j hj => by rw [E2.2]; exact kind_o (iv_at hv1 60 3 rfl) hj) A2
  refine g_pop dL_law_448 rfl ?_
  refine g_goto (tgt := 1230) dL_law_449 (by decide) ?_
  exact K u2 hv2 ri2 ht2
set_option maxHeartbeats 4000000 in
theorem lw_c10 {G : uk_D} {X : uk_Cx} {b L : Nat} {xs : Nat → Int32} {i : Int32} {u : uk_Mem} (hs : uk_Sep G) (hX : lw_scr G X b L xs) (h1 : vp_in (i + 1) L) (h2 : vp_in (i + 2) L) (h3 : vp_in (i + 3) L) (h4 : vp_in (i + 4) L) (hu : iv u) (hri : ri u) (ht : REL u) (K : ∀ u', iv u' → ri u' → REL u' → uk_G G X mL 12 lw_q 1230 [(0, .ref b), (1, .ref (uk_ad G 0)), (2, .ref (uk_ad G 60)), (3, .int i)] [] u') : uk_G G X mL 12 lw_q 452 [(0, .ref b), (1, .ref (uk_ad G 0)), (2, .ref (uk_ad G 60)), (3, .int i)] [] u := by
  have hts : u.1 2 1 = u.1 60 13 := ht.2.2.2.2.1.1
  have htp : cpy (u.1 3) (u.1 69) (u.1 2 1) := ht.2.2.2.2.1.2.1
  refine g_aload_n dL_law_452 rfl ?_
  refine g_aload_n dL_law_453 rfl ?_
  refine g_iload_n dL_law_454 rfl ?_
  refine g_iconst (v := 1) dL_law_455 (by decide) ?_
  refine g_iadd dL_law_456 ?_
  refine g_sld hX h1 dL_law_457 ?_
  refine cl_L_56 (c := 0) (As := [.int (xs (i + 1).toNatClampNeg)]) rfl (x_X6_does (G := G) hs hu (xs (i + 1).toNatClampNeg) 7) rfl (by decide) rfl rfl (Nat.le_of_ble_eq_true rfl) dL_law_458 (fun r1 u1 q1 => ?_)
  obtain ⟨q1, E1⟩ := q1
  obtain ⟨⟨x1, rfl, t1⟩, m1⟩ := q1
  obtain ⟨hv1, g1⟩ := m1
  have rj1 : ri u1 := ri_fr hri g1 (by decide)
  have K1 : KR u u1 13 61 0 := KR_u1 ht g1 (by decide)
  refine g_pop dL_law_461 rfl ?_
  refine g_aload_n dL_law_462 rfl ?_
  refine g_aload_n dL_law_463 rfl ?_
  refine g_iload_n dL_law_464 rfl ?_
  refine g_iconst (v := 1) dL_law_465 (by decide) ?_
  refine g_iadd dL_law_466 ?_
  refine g_sld hX h1 dL_law_467 ?_
  refine cl_L_59 (c := 60) (As := [.int (xs (i + 1).toNatClampNeg)]) rfl (x_X7_does (G := G) hs hv1 rj1 (xs (i + 1).toNatClampNeg) 7) rfl (by decide) rfl rfl (Nat.le_of_ble_eq_true rfl) dL_law_468 (fun r2 u2 q2 => ?_)
  obtain ⟨q2, E2⟩ := q2
  obtain ⟨⟨x2, rfl, t2⟩, m2⟩ := q2
  obtain ⟨hv2, g2, ri2⟩ := m2
  have A := does_e (g := (xs (i + 1).toNatClampNeg)) hv1 rj1 K1
  have A2 : KR u1 u2 13 61 0 := by
    have z := A.2
    rw [← E1.2, ← E2.2] at z
    exact z
  have ht2 : REL u2 := REL_kit ht hu g1 g2 (by decide) (fun j hj => by rw [E2.2]; exact does_o hj) A2
  refine g_pop dL_law_471 rfl ?_
  refine g_goto (tgt := 1230) dL_law_472 (by decide) ?_
  exact K u2 hv2 ri2 ht2
set_option maxHeartbeats 4000000 in
theorem lw_c11 {G : uk_D} {X : uk_Cx} {b L : Nat} {xs : Nat → Int32} {i : Int32} {u : uk_Mem} (hs : uk_Sep G) (hX : lw_scr G X b L xs) (h1 : vp_in (i + 1) L) (h2 : vp_in (i + 2) L) (h3 : vp_in (i + 3) L) (h4 : vp_in (i + 4) L) (hu : iv u) (hri : ri u) (ht : REL u) (K : ∀ u', iv u' → ri u' → REL u' → uk_G G X mL 12 lw_q 1230 [(0, .ref b), (1, .ref (uk_ad G 0)), (2, .ref (uk_ad G 60)), (3, .int i)] [] u') : uk_G G X mL 12 lw_q 475 [(0, .ref b), (1, .ref (uk_ad G 0)), (2, .ref (uk_ad G 60)), (3, .int i)] [] u := by
  have hts : u.1 2 1 = u.1 60 13 := ht.2.2.2.2.1.1
  have htp : cpy (u.1 3) (u.1 69) (u.1 2 1) := ht.2.2.2.2.1.2.1
  refine g_aload_n dL_law_475 rfl ?_
  refine g_aload_n dL_law_476 rfl ?_
  refine g_iload_n dL_law_477 rfl ?_
  refine g_iconst (v := 1) dL_law_478 (by decide) ?_
  refine g_iadd dL_law_479 ?_
  refine g_sld hX h1 dL_law_480 ?_
  refine cl_L_60 (c := 0) (As := [.int (xs (i + 1).toNatClampNeg)]) rfl (x_X6_eat (G := G) hs hu (xs (i + 1).toNatClampNeg) 9) rfl (by decide) rfl rfl (Nat.le_of_ble_eq_true rfl) dL_law_481 (fun r1 u1 q1 => ?_)
  obtain ⟨q1, E1⟩ := q1
  obtain ⟨⟨x1, rfl, t1⟩, m1⟩ := q1
  obtain ⟨hv1, g1⟩ := m1
  have rj1 : ri u1 := ri_fr hri g1 (by decide)
  have K1 : KR u u1 13 61 0 := KR_u1 ht g1 (by decide)
  refine g_pop dL_law_484 rfl ?_
  refine g_aload_n dL_law_485 rfl ?_
  refine g_aload_n dL_law_486 rfl ?_
  refine g_iload_n dL_law_487 rfl ?_
  refine g_iconst (v := 1) dL_law_488 (by decide) ?_
  refine g_iadd dL_law_489 ?_
  refine g_sld hX h1 dL_law_490 ?_
  refine cl_L_63 (c := 60) (As := [.int (xs (i + 1).toNatClampNeg)]) rfl (x_X7_eat (G := G) hs hv1 rj1 (xs (i + 1).toNatClampNeg) 8) rfl (by decide) rfl rfl (Nat.le_of_ble_eq_true rfl) dL_law_491 (fun r2 u2 q2 => ?_)
  obtain ⟨q2, E2⟩ := q2
  obtain ⟨⟨x2, rfl, t2⟩, m2⟩ := q2
  obtain ⟨hv2, g2, ri2⟩ := m2
  have A := eat_e (m := (xs (i + 1).toNatClampNeg)) hv1 K1
  have A2 : KR u1 u2 13 61 0 := by
    have z := A.2
    rw [← E1.2, ← E2.2] at z
    exact z
  have ht2 : REL u2 := REL_kit ht hu g1 g2 (by decide) (fun j hj => by rw [E2.2]; exact eat_o (iv_at hv1 60 3 rfl) hj) A2
  refine g_pop dL_law_494 rfl ?_
  refine g_goto (tgt := 1230) dL_law_495 (by decide) ?_
  exact K u2 hv2 ri2 ht2
set_option maxHeartbeats 4000000 in
theorem lw_c12 {G : uk_D} {X : uk_Cx} {b L : Nat} {xs : Nat → Int32} {i : Int32} {u : uk_Mem} (hs : uk_Sep G) (hX : lw_scr G X b L xs) (h1 : vp_in (i + 1) L) (h2 : vp_in (i + 2) L) (h3 : vp_in (i + 3) L) (h4 : vp_in (i + 4) L) (hu : iv u) (hri : ri u) (ht : REL u) (K : ∀ u', iv u' → ri u' → REL u' → uk_G G X mL 12 lw_q 1230 [(0, .ref b), (1, .ref (uk_ad G 0)), (2, .ref (uk_ad G 60)), (3, .int i)] [] u') : uk_G G X mL 12 lw_q 498 [(0, .ref b), (1, .ref (uk_ad G 0)), (2, .ref (uk_ad G 60)), (3, .int i)] [] u := by
  have hts : u.1 2 1 = u.1 60 13 := ht.2.2.2.2.1.1
  have htp : cpy (u.1 3) (u.1 69) (u.1 2 1) := ht.2.2.2.2.1.2.1
  refine g_aload_n dL_law_498 rfl ?_
  refine g_aload_n dL_law_499 rfl ?_
  refine g_iload_n dL_law_500 rfl ?_
  refine g_iconst (v := 1) dL_law_501 (by decide) ?_
  refine g_iadd dL_law_502 ?_
  refine g_sld hX h1 dL_law_503 ?_
  refine cl_L_64 (c := 0) (As := [.int (xs (i + 1).toNatClampNeg)]) rfl (x_X6_can (G := G) hs hu (xs (i + 1).toNatClampNeg) 7) rfl (by decide) rfl rfl (Nat.le_of_ble_eq_true rfl) dL_law_504 (fun r1 u1 q1 => ?_)
  obtain ⟨q1, E1⟩ := q1
  obtain ⟨⟨x1, rfl, t1⟩, m1⟩ := q1
  rw [m1]
  refine g_pop dL_law_507 rfl ?_
  refine g_aload_n dL_law_508 rfl ?_
  refine g_aload_n dL_law_509 rfl ?_
  refine g_iload_n dL_law_510 rfl ?_
  refine g_iconst (v := 1) dL_law_511 (by decide) ?_
  refine g_iadd dL_law_512 ?_
  refine g_sld hX h1 dL_law_513 ?_
  refine cl_L_67 (c := 60) (As := [.int (xs (i + 1).toNatClampNeg)]) rfl (x_X7_can (G := G) hs hu hri (xs (i + 1).toNatClampNeg) 7) rfl (by decide) rfl rfl (Nat.le_of_ble_eq_true rfl) dL_law_514 (fun r2 u2 q2 => ?_)
  obtain ⟨q2, E2⟩ := q2
  obtain ⟨⟨x2, rfl, t2⟩, m2⟩ := q2
  obtain ⟨hv2, g2, ri2⟩ := m2
  have ht2 : REL u2 := REL_fk ht g2 (by decide) (by decide)
  refine g_pop dL_law_517 rfl ?_
  refine g_goto (tgt := 1230) dL_law_518 (by decide) ?_
  exact K u2 hv2 ri2 ht2
set_option maxHeartbeats 4000000 in
theorem lw_c13 {G : uk_D} {X : uk_Cx} {b L : Nat} {xs : Nat → Int32} {i : Int32} {u : uk_Mem} (hs : uk_Sep G) (hX : lw_scr G X b L xs) (h1 : vp_in (i + 1) L) (h2 : vp_in (i + 2) L) (h3 : vp_in (i + 3) L) (h4 : vp_in (i + 4) L) (hu : iv u) (hri : ri u) (ht : REL u) (K : ∀ u', iv u' → ri u' → REL u' → uk_G G X mL 12 lw_q 1230 [(0, .ref b), (1, .ref (uk_ad G 0)), (2, .ref (uk_ad G 60)), (3, .int i)] [] u') : uk_G G X mL 12 lw_q 521 [(0, .ref b), (1, .ref (uk_ad G 0)), (2, .ref (uk_ad G 60)), (3, .int i)] [] u := by
  have hts : u.1 2 1 = u.1 60 13 := ht.2.2.2.2.1.1
  have htp : cpy (u.1 3) (u.1 69) (u.1 2 1) := ht.2.2.2.2.1.2.1
  refine g_aload_n dL_law_521 rfl ?_
  refine g_aload_n dL_law_522 rfl ?_
  refine g_iload_n dL_law_523 rfl ?_
  refine g_iconst (v := 1) dL_law_524 (by decide) ?_
  refine g_iadd dL_law_525 ?_
  refine g_sld hX h1 dL_law_526 ?_
  refine cl_L_68 (c := 0) (As := [.int (xs (i + 1).toNatClampNeg)]) rfl (c_X6_most (G := G) hs hu (xs (i + 1).toNatClampNeg) 8) rfl (by decide) rfl rfl (Nat.le_of_ble_eq_true rfl) dL_law_527 (fun r1 u1 q1 => ?_)
  obtain ⟨⟨x1, rfl, t1⟩, m1⟩ := q1
  obtain ⟨hv1, g1⟩ := m1
  have rj1 : ri u1 := ri_fr hri g1 (by decide)
  have ht1 : REL u1 := REL_fr ht g1 (by decide)
  refine g_pop dL_law_530 rfl ?_
  refine g_aload_n dL_law_531 rfl ?_
  refine g_aload_n dL_law_532 rfl ?_
  refine g_iload_n dL_law_533 rfl ?_
  refine g_iconst (v := 1) dL_law_534 (by decide) ?_
  refine g_iadd dL_law_535 ?_
  refine g_sld hX h1 dL_law_536 ?_
  refine cl_L_71 (c := 60) (As := [.int (xs (i + 1).toNatClampNeg)]) rfl (c_X7_most (G := G) hs hv1 rj1 (xs (i + 1).toNatClampNeg) 8) rfl (by decide) rfl rfl (Nat.le_of_ble_eq_true rfl) dL_law_537 (fun r2 u2 q2 => ?_)
  obtain ⟨⟨x2, rfl, t2⟩, m2⟩ := q2
  obtain ⟨hv2, g2, ri2⟩ := m2
  have ht2 : REL u2 := REL_fk ht1 g2 (by decide) (by decide)
  refine g_pop dL_law_540 rfl ?_
  refine g_goto (tgt := 1230) dL_law_541 (by decide) ?_
  exact K u2 hv2 ri2 ht2
set_option maxHeartbeats 4000000 in
theorem lw_c14 {G : uk_D} {X : uk_Cx} {b L : Nat} {xs : Nat → Int32} {i : Int32} {u : uk_Mem} (hs : uk_Sep G) (hX : lw_scr G X b L xs) (h1 : vp_in (i + 1) L) (h2 : vp_in (i + 2) L) (h3 : vp_in (i + 3) L) (h4 : vp_in (i + 4) L) (hu : iv u) (hri : ri u) (ht : REL u) (K : ∀ u', iv u' → ri u' → REL u' → uk_G G X mL 12 lw_q 1230 [(0, .ref b), (1, .ref (uk_ad G 0)), (2, .ref (uk_ad G 60)), (3, .int i)] [] u') : uk_G G X mL 12 lw_q 544 [(0, .ref b), (1, .ref (uk_ad G 0)), (2, .ref (uk_ad G 60)), (3, .int i)] [] u := by
  have hts : u.1 2 1 = u.1 60 13 := ht.2.2.2.2.1.1
  have htp : cpy (u.1 3) (u.1 69) (u.1 2 1) := ht.2.2.2.2.1.2.1
  refine g_aload_n dL_law_544 rfl ?_
  refine g_aload_n dL_law_545 rfl ?_
  refine g_iload_n dL_law_546 rfl ?_
  refine g_iconst (v := 1) dL_law_547 (by decide) ?_
  refine g_iadd dL_law_548 ?_
  refine g_sld hX h1 dL_law_549 ?_
  refine g_aload_n dL_law_550 rfl ?_
  refine g_iload_n dL_law_551 rfl ?_
  refine g_iconst (v := 2) dL_law_552 (by decide) ?_
  refine g_iadd dL_law_553 ?_
  refine g_sld hX h2 dL_law_554 ?_
  refine cl_L_72 (c := 0) (As := [.int (xs (i + 1).toNatClampNeg), .int (xs (i + 2).toNatClampNeg)]) rfl (c_X6_holds (G := G) hs hu (xs (i + 1).toNatClampNeg) (xs (i + 2).toNatClampNeg) 8) rfl (by decide) rfl rfl (Nat.le_of_ble_eq_true rfl) dL_law_555 (fun r1 u1 q1 => ?_)
  obtain ⟨⟨x1, rfl, t1⟩, m1⟩ := q1
  obtain ⟨hv1, g1⟩ := m1
  have rj1 : ri u1 := ri_fr hri g1 (by decide)
  have ht1 : REL u1 := REL_fr ht g1 (by decide)
  refine g_pop dL_law_558 rfl ?_
  refine g_aload_n dL_law_559 rfl ?_
  refine g_aload_n dL_law_560 rfl ?_
  refine g_iload_n dL_law_561 rfl ?_
  refine g_iconst (v := 1) dL_law_562 (by decide) ?_
  refine g_iadd dL_law_563 ?_
  refine g_sld hX h1 dL_law_564 ?_
  refine g_aload_n dL_law_565 rfl ?_
  refine g_iload_n dL_law_566 rfl ?_
  refine g_iconst (v := 2) dL_law_567 (by decide) ?_
  refine g_iadd dL_law_568 ?_
  refine g_sld hX h2 dL_law_569 ?_
  refine cl_L_75 (c := 60) (As := [.int (xs (i + 1).toNatClampNeg), .int (xs (i + 2).toNatClampNeg)]) rfl (c_X7_holds (G := G) hs hv1 rj1 (xs (i + 1).toNatClampNeg) (xs (i + 2).toNatClampNeg) 8) rfl (by decide) rfl rfl (Nat.le_of_ble_eq_true rfl) dL_law_570 (fun r2 u2 q2 => ?_)
  obtain ⟨⟨x2, rfl, t2⟩, m2⟩ := q2
  obtain ⟨hv2, g2, ri2⟩ := m2
  have ht2 : REL u2 := REL_fk ht1 g2 (by decide) (by decide)
  refine g_pop dL_law_573 rfl ?_
  refine g_goto (tgt := 1230) dL_law_574 (by decide) ?_
  exact K u2 hv2 ri2 ht2
set_option maxHeartbeats 4000000 in
theorem lw_c15 {G : uk_D} {X : uk_Cx} {b L : Nat} {xs : Nat → Int32} {i : Int32} {u : uk_Mem} (hs : uk_Sep G) (hX : lw_scr G X b L xs) (h1 : vp_in (i + 1) L) (h2 : vp_in (i + 2) L) (h3 : vp_in (i + 3) L) (h4 : vp_in (i + 4) L) (hu : iv u) (hri : ri u) (ht : REL u) (K : ∀ u', iv u' → ri u' → REL u' → uk_G G X mL 12 lw_q 1230 [(0, .ref b), (1, .ref (uk_ad G 0)), (2, .ref (uk_ad G 60)), (3, .int i)] [] u') : uk_G G X mL 12 lw_q 577 [(0, .ref b), (1, .ref (uk_ad G 0)), (2, .ref (uk_ad G 60)), (3, .int i)] [] u := by
  have hts : u.1 2 1 = u.1 60 13 := ht.2.2.2.2.1.1
  have htp : cpy (u.1 3) (u.1 69) (u.1 2 1) := ht.2.2.2.2.1.2.1
  refine g_aload_n dL_law_577 rfl ?_
  refine g_aload_n dL_law_578 rfl ?_
  refine g_iload_n dL_law_579 rfl ?_
  refine g_iconst (v := 1) dL_law_580 (by decide) ?_
  refine g_iadd dL_law_581 ?_
  refine g_sld hX h1 dL_law_582 ?_
  refine cl_L_76 (c := 0) (As := [.int (xs (i + 1).toNatClampNeg)]) rfl (c_X6_cost (G := G) hs hu (xs (i + 1).toNatClampNeg) 7) rfl (by decide) rfl rfl (Nat.le_of_ble_eq_true rfl) dL_law_583 (fun r1 u1 q1 => ?_)
  obtain ⟨⟨x1, rfl, t1⟩, m1⟩ := q1
  obtain ⟨hv1, g1⟩ := m1
  have rj1 : ri u1 := ri_fr hri g1 (by decide)
  have ht1 : REL u1 := REL_fr ht g1 (by decide)
  refine g_pop dL_law_586 rfl ?_
  refine g_aload_n dL_law_587 rfl ?_
  refine g_aload_n dL_law_588 rfl ?_
  refine g_iload_n dL_law_589 rfl ?_
  refine g_iconst (v := 1) dL_law_590 (by decide) ?_
  refine g_iadd dL_law_591 ?_
  refine g_sld hX h1 dL_law_592 ?_
  refine cl_L_79 (c := 60) (As := [.int (xs (i + 1).toNatClampNeg)]) rfl (c_X7_cost (G := G) hs hv1 rj1 (xs (i + 1).toNatClampNeg) 8) rfl (by decide) rfl rfl (Nat.le_of_ble_eq_true rfl) dL_law_593 (fun r2 u2 q2 => ?_)
  obtain ⟨⟨x2, rfl, t2⟩, m2⟩ := q2
  obtain ⟨hv2, g2, ri2⟩ := m2
  have ht2 : REL u2 := REL_fk ht1 g2 (by decide) (by decide)
  refine g_pop dL_law_596 rfl ?_
  refine g_goto (tgt := 1230) dL_law_597 (by decide) ?_
  exact K u2 hv2 ri2 ht2
set_option maxHeartbeats 4000000 in
theorem lw_c16 {G : uk_D} {X : uk_Cx} {b L : Nat} {xs : Nat → Int32} {i : Int32} {u : uk_Mem} (hs : uk_Sep G) (hX : lw_scr G X b L xs) (h1 : vp_in (i + 1) L) (h2 : vp_in (i + 2) L) (h3 : vp_in (i + 3) L) (h4 : vp_in (i + 4) L) (hu : iv u) (hri : ri u) (ht : REL u) (K : ∀ u', iv u' → ri u' → REL u' → uk_G G X mL 12 lw_q 1230 [(0, .ref b), (1, .ref (uk_ad G 0)), (2, .ref (uk_ad G 60)), (3, .int i)] [] u') : uk_G G X mL 12 lw_q 600 [(0, .ref b), (1, .ref (uk_ad G 0)), (2, .ref (uk_ad G 60)), (3, .int i)] [] u := by
  have hts : u.1 2 1 = u.1 60 13 := ht.2.2.2.2.1.1
  have htp : cpy (u.1 3) (u.1 69) (u.1 2 1) := ht.2.2.2.2.1.2.1
  refine g_aload_n dL_law_600 rfl ?_
  refine g_aload_n dL_law_601 rfl ?_
  refine g_iload_n dL_law_602 rfl ?_
  refine g_iconst (v := 1) dL_law_603 (by decide) ?_
  refine g_iadd dL_law_604 ?_
  refine g_sld hX h1 dL_law_605 ?_
  refine g_aload_n dL_law_606 rfl ?_
  refine g_iload_n dL_law_607 rfl ?_
  refine g_iconst (v := 2) dL_law_608 (by decide) ?_
  refine g_iadd dL_law_609 ?_
  refine g_sld hX h2 dL_law_610 ?_
  refine cl_L_80 (c := 0) (As := [.int (xs (i + 1).toNatClampNeg), .int (xs (i + 2).toNatClampNeg)]) rfl (c_X6_turns (G := G) hs hu (xs (i + 1).toNatClampNeg) (xs (i + 2).toNatClampNeg) 7) rfl (by decide) rfl rfl (Nat.le_of_ble_eq_true rfl) dL_law_611 (fun r1 u1 q1 => ?_)
  obtain ⟨⟨x1, rfl, t1⟩, m1⟩ := q1
  obtain ⟨hv1, g1⟩ := m1
  have rj1 : ri u1 := ri_fr hri g1 (by decide)
  have ht1 : REL u1 := REL_fr ht g1 (by decide)
  refine g_pop dL_law_614 rfl ?_
  refine g_aload_n dL_law_615 rfl ?_
  refine g_aload_n dL_law_616 rfl ?_
  refine g_iload_n dL_law_617 rfl ?_
  refine g_iconst (v := 1) dL_law_618 (by decide) ?_
  refine g_iadd dL_law_619 ?_
  refine g_sld hX h1 dL_law_620 ?_
  refine g_aload_n dL_law_621 rfl ?_
  refine g_iload_n dL_law_622 rfl ?_
  refine g_iconst (v := 2) dL_law_623 (by decide) ?_
  refine g_iadd dL_law_624 ?_
  refine g_sld hX h2 dL_law_625 ?_
  refine cl_L_83 (c := 60) (As := [.int (xs (i + 1).toNatClampNeg), .int (xs (i + 2).toNatClampNeg)]) rfl (c_X7_turns (G := G) hs hv1 rj1 (xs (i + 1).toNatClampNeg) (xs (i + 2).toNatClampNeg) 7) rfl (by decide) rfl rfl (Nat.le_of_ble_eq_true rfl) dL_law_626 (fun r2 u2 q2 => ?_)
  obtain ⟨⟨x2, rfl, t2⟩, m2⟩ := q2
  obtain ⟨hv2, g2, ri2⟩ := m2
  have ht2 : REL u2 := REL_fk ht1 g2 (by decide) (by decide)
  refine g_pop dL_law_629 rfl ?_
  refine g_goto (tgt := 1230) dL_law_630 (by decide) ?_
  exact K u2 hv2 ri2 ht2
set_option maxHeartbeats 4000000 in
theorem lw_c17 {G : uk_D} {X : uk_Cx} {b L : Nat} {xs : Nat → Int32} {i : Int32} {u : uk_Mem} (hs : uk_Sep G) (hX : lw_scr G X b L xs) (h1 : vp_in (i + 1) L) (h2 : vp_in (i + 2) L) (h3 : vp_in (i + 3) L) (h4 : vp_in (i + 4) L) (hu : iv u) (hri : ri u) (ht : REL u) (K : ∀ u', iv u' → ri u' → REL u' → uk_G G X mL 12 lw_q 1230 [(0, .ref b), (1, .ref (uk_ad G 0)), (2, .ref (uk_ad G 60)), (3, .int i)] [] u') : uk_G G X mL 12 lw_q 633 [(0, .ref b), (1, .ref (uk_ad G 0)), (2, .ref (uk_ad G 60)), (3, .int i)] [] u := by
  have hts : u.1 2 1 = u.1 60 13 := ht.2.2.2.2.1.1
  have htp : cpy (u.1 3) (u.1 69) (u.1 2 1) := ht.2.2.2.2.1.2.1
  refine g_aload_n dL_law_633 rfl ?_
  refine g_aload_n dL_law_634 rfl ?_
  refine g_iload_n dL_law_635 rfl ?_
  refine g_iconst (v := 1) dL_law_636 (by decide) ?_
  refine g_iadd dL_law_637 ?_
  refine g_sld hX h1 dL_law_638 ?_
  refine g_aload_n dL_law_639 rfl ?_
  refine g_iload_n dL_law_640 rfl ?_
  refine g_iconst (v := 2) dL_law_641 (by decide) ?_
  refine g_iadd dL_law_642 ?_
  refine g_sld hX h2 dL_law_643 ?_
  refine cl_L_84 (c := 0) (As := [.int (xs (i + 1).toNatClampNeg), .int (xs (i + 2).toNatClampNeg)]) rfl (c_X6_comes (G := G) hs hu (xs (i + 1).toNatClampNeg) (xs (i + 2).toNatClampNeg) 7) rfl (by decide) rfl rfl (Nat.le_of_ble_eq_true rfl) dL_law_644 (fun r1 u1 q1 => ?_)
  obtain ⟨⟨x1, rfl, t1⟩, m1⟩ := q1
  obtain ⟨hv1, g1⟩ := m1
  have rj1 : ri u1 := ri_fr hri g1 (by decide)
  have ht1 : REL u1 := REL_fr ht g1 (by decide)
  refine g_pop dL_law_647 rfl ?_
  refine g_aload_n dL_law_648 rfl ?_
  refine g_aload_n dL_law_649 rfl ?_
  refine g_iload_n dL_law_650 rfl ?_
  refine g_iconst (v := 1) dL_law_651 (by decide) ?_
  refine g_iadd dL_law_652 ?_
  refine g_sld hX h1 dL_law_653 ?_
  refine g_aload_n dL_law_654 rfl ?_
  refine g_iload_n dL_law_655 rfl ?_
  refine g_iconst (v := 2) dL_law_656 (by decide) ?_
  refine g_iadd dL_law_657 ?_
  refine g_sld hX h2 dL_law_658 ?_
  refine cl_L_87 (c := 60) (As := [.int (xs (i + 1).toNatClampNeg), .int (xs (i + 2).toNatClampNeg)]) rfl (c_X7_comes (G := G) hs hv1 rj1 (xs (i + 1).toNatClampNeg) (xs (i + 2).toNatClampNeg) 7) rfl (by decide) rfl rfl (Nat.le_of_ble_eq_true rfl) dL_law_659 (fun r2 u2 q2 => ?_)
  obtain ⟨⟨x2, rfl, t2⟩, m2⟩ := q2
  obtain ⟨hv2, g2, ri2⟩ := m2
  have ht2 : REL u2 := REL_fk ht1 g2 (by decide) (by decide)
  refine g_pop dL_law_662 rfl ?_
  refine g_goto (tgt := 1230) dL_law_663 (by decide) ?_
  exact K u2 hv2 ri2 ht2
set_option maxHeartbeats 4000000 in
theorem lw_c18 {G : uk_D} {X : uk_Cx} {b L : Nat} {xs : Nat → Int32} {i : Int32} {u : uk_Mem} (hs : uk_Sep G) (hX : lw_scr G X b L xs) (h1 : vp_in (i + 1) L) (h2 : vp_in (i + 2) L) (h3 : vp_in (i + 3) L) (h4 : vp_in (i + 4) L) (hu : iv u) (hri : ri u) (ht : REL u) (K : ∀ u', iv u' → ri u' → REL u' → uk_G G X mL 12 lw_q 1230 [(0, .ref b), (1, .ref (uk_ad G 0)), (2, .ref (uk_ad G 60)), (3, .int i)] [] u') : uk_G G X mL 12 lw_q 666 [(0, .ref b), (1, .ref (uk_ad G 0)), (2, .ref (uk_ad G 60)), (3, .int i)] [] u := by
  have hts : u.1 2 1 = u.1 60 13 := ht.2.2.2.2.1.1
  have htp : cpy (u.1 3) (u.1 69) (u.1 2 1) := ht.2.2.2.2.1.2.1
  refine g_aload_n dL_law_666 rfl ?_
  refine g_aload_n dL_law_667 rfl ?_
  refine g_iload_n dL_law_668 rfl ?_
  refine g_iconst (v := 1) dL_law_669 (by decide) ?_
  refine g_iadd dL_law_670 ?_
  refine g_sld hX h1 dL_law_671 ?_
  refine g_aload_n dL_law_672 rfl ?_
  refine g_iload_n dL_law_673 rfl ?_
  refine g_iconst (v := 2) dL_law_674 (by decide) ?_
  refine g_iadd dL_law_675 ?_
  refine g_sld hX h2 dL_law_676 ?_
  refine g_aload_n dL_law_677 rfl ?_
  refine g_iload_n dL_law_678 rfl ?_
  refine g_iconst (v := 3) dL_law_679 (by decide) ?_
  refine g_iadd dL_law_680 ?_
  refine g_sld hX h3 dL_law_681 ?_
  refine cl_L_88 (c := 0) (As := [.int (xs (i + 1).toNatClampNeg), .int (xs (i + 2).toNatClampNeg), .int (xs (i + 3).toNatClampNeg)]) rfl (c_X6_after (G := G) hs hu (xs (i + 1).toNatClampNeg) (xs (i + 2).toNatClampNeg) (xs (i + 3).toNatClampNeg) 7) rfl (by decide) rfl rfl (Nat.le_of_ble_eq_true rfl) dL_law_682 (fun r1 u1 q1 => ?_)
  obtain ⟨⟨x1, rfl, t1⟩, m1⟩ := q1
  obtain ⟨hv1, g1⟩ := m1
  have rj1 : ri u1 := ri_fr hri g1 (by decide)
  have ht1 : REL u1 := REL_fr ht g1 (by decide)
  refine g_pop dL_law_685 rfl ?_
  refine g_aload_n dL_law_686 rfl ?_
  refine g_aload_n dL_law_687 rfl ?_
  refine g_iload_n dL_law_688 rfl ?_
  refine g_iconst (v := 1) dL_law_689 (by decide) ?_
  refine g_iadd dL_law_690 ?_
  refine g_sld hX h1 dL_law_691 ?_
  refine g_aload_n dL_law_692 rfl ?_
  refine g_iload_n dL_law_693 rfl ?_
  refine g_iconst (v := 2) dL_law_694 (by decide) ?_
  refine g_iadd dL_law_695 ?_
  refine g_sld hX h2 dL_law_696 ?_
  refine g_aload_n dL_law_697 rfl ?_
  refine g_iload_n dL_law_698 rfl ?_
  refine g_iconst (v := 3) dL_law_699 (by decide) ?_
  refine g_iadd dL_law_700 ?_
  refine g_sld hX h3 dL_law_701 ?_
  refine cl_L_92 (c := 60) (As := [.int (xs (i + 1).toNatClampNeg), .int (xs (i + 2).toNatClampNeg), .int (xs (i + 3).toNatClampNeg)]) rfl (c_X7_after (G := G) hs hv1 rj1 (xs (i + 1).toNatClampNeg) (xs (i + 2).toNatClampNeg) (xs (i + 3).toNatClampNeg) 7) rfl (by decide) rfl rfl (Nat.le_of_ble_eq_true rfl) dL_law_702 (fun r2 u2 q2 => ?_)
  obtain ⟨⟨x2, rfl, t2⟩, m2⟩ := q2
  obtain ⟨hv2, g2, ri2⟩ := m2
  have ht2 : REL u2 := REL_fk ht1 g2 (by decide) (by decide)
  refine g_pop dL_law_705 rfl ?_
  refine g_goto (tgt := 1230) dL_law_706 (by decide) ?_
  exact K u2 hv2 ri2 ht2
set_option maxHeartbeats 4000000 in
theorem lw_c19 {G : uk_D} {X : uk_Cx} {b L : Nat} {xs : Nat → Int32} {i : Int32} {u : uk_Mem} (hs : uk_Sep G) (hX : lw_scr G X b L xs) (h1 : vp_in (i + 1) L) (h2 : vp_in (i + 2) L) (h3 : vp_in (i + 3) L) (h4 : vp_in (i + 4) L) (hu : iv u) (hri : ri u) (ht : REL u) (K : ∀ u', iv u' → ri u' → REL u' → uk_G G X mL 12 lw_q 1230 [(0, .ref b), (1, .ref (uk_ad G 0)), (2, .ref (uk_ad G 60)), (3, .int i)] [] u') : uk_G G X mL 12 lw_q 709 [(0, .ref b), (1, .ref (uk_ad G 0)), (2, .ref (uk_ad G 60)), (3, .int i)] [] u := by
  have hts : u.1 2 1 = u.1 60 13 := ht.2.2.2.2.1.1
  have htp : cpy (u.1 3) (u.1 69) (u.1 2 1) := ht.2.2.2.2.1.2.1
  refine g_aload_n dL_law_709 rfl ?_
  refine g_aload_n dL_law_710 rfl ?_
  refine g_iload_n dL_law_711 rfl ?_
  refine g_iconst (v := 1) dL_law_712 (by decide) ?_
  refine g_iadd dL_law_713 ?_
  refine g_sld hX h1 dL_law_714 ?_
  refine g_aload_n dL_law_715 rfl ?_
  refine g_iload_n dL_law_716 rfl ?_
  refine g_iconst (v := 2) dL_law_717 (by decide) ?_
  refine g_iadd dL_law_718 ?_
  refine g_sld hX h2 dL_law_719 ?_
  refine cl_L_93 (c := 0) (As := [.int (xs (i + 1).toNatClampNeg), .int (xs (i + 2).toNatClampNeg)]) rfl (c_X6_first (G := G) hs hu (xs (i + 1).toNatClampNeg) (xs (i + 2).toNatClampNeg) 7) rfl (by decide) rfl rfl (Nat.le_of_ble_eq_true rfl) dL_law_720 (fun r1 u1 q1 => ?_)
  obtain ⟨⟨x1, rfl, t1⟩, m1⟩ := q1
  obtain ⟨hv1, g1⟩ := m1
  have rj1 : ri u1 := ri_fr hri g1 (by decide)
  have ht1 : REL u1 := REL_fr ht g1 (by decide)
  refine g_pop dL_law_723 rfl ?_
  refine g_aload_n dL_law_724 rfl ?_
  refine g_aload_n dL_law_725 rfl ?_
  refine g_iload_n dL_law_726 rfl ?_
  refine g_iconst (v := 1) dL_law_727 (by decide) ?_
  refine g_iadd dL_law_728 ?_
  refine g_sld hX h1 dL_law_729 ?_
  refine g_aload_n dL_law_730 rfl ?_
  refine g_iload_n dL_law_731 rfl ?_
  refine g_iconst (v := 2) dL_law_732 (by decide) ?_
  refine g_iadd dL_law_733 ?_
  refine g_sld hX h2 dL_law_734 ?_
  refine cl_L_96 (c := 60) (As := [.int (xs (i + 1).toNatClampNeg), .int (xs (i + 2).toNatClampNeg)]) rfl (c_X7_first (G := G) hs hv1 rj1 (xs (i + 1).toNatClampNeg) (xs (i + 2).toNatClampNeg) 8) rfl (by decide) rfl rfl (Nat.le_of_ble_eq_true rfl) dL_law_735 (fun r2 u2 q2 => ?_)
  obtain ⟨⟨x2, rfl, t2⟩, m2⟩ := q2
  obtain ⟨hv2, g2, ri2⟩ := m2
  have ht2 : REL u2 := REL_fk ht1 g2 (by decide) (by decide)
  refine g_pop dL_law_738 rfl ?_
  refine g_goto (tgt := 1230) dL_law_739 (by decide) ?_
  exact K u2 hv2 ri2 ht2
set_option maxHeartbeats 4000000 in
theorem lw_c20 {G : uk_D} {X : uk_Cx} {b L : Nat} {xs : Nat → Int32} {i : Int32} {u : uk_Mem} (hs : uk_Sep G) (hX : lw_scr G X b L xs) (h1 : vp_in (i + 1) L) (h2 : vp_in (i + 2) L) (h3 : vp_in (i + 3) L) (h4 : vp_in (i + 4) L) (hu : iv u) (hri : ri u) (ht : REL u) (K : ∀ u', iv u' → ri u' → REL u' → uk_G G X mL 12 lw_q 1230 [(0, .ref b), (1, .ref (uk_ad G 0)), (2, .ref (uk_ad G 60)), (3, .int i)] [] u') : uk_G G X mL 12 lw_q 742 [(0, .ref b), (1, .ref (uk_ad G 0)), (2, .ref (uk_ad G 60)), (3, .int i)] [] u := by
  have hts : u.1 2 1 = u.1 60 13 := ht.2.2.2.2.1.1
  have htp : cpy (u.1 3) (u.1 69) (u.1 2 1) := ht.2.2.2.2.1.2.1
  refine g_aload_n dL_law_742 rfl ?_
  refine g_aload_n dL_law_743 rfl ?_
  refine g_iload_n dL_law_744 rfl ?_
  refine g_iconst (v := 1) dL_law_745 (by decide) ?_
  refine g_iadd dL_law_746 ?_
  refine g_sld hX h1 dL_law_747 ?_
  refine cl_L_97 (c := 0) (As := [.int (xs (i + 1).toNatClampNeg)]) rfl (x_X6_loss (G := G) hs hu (xs (i + 1).toNatClampNeg) 7) rfl (by decide) rfl rfl (Nat.le_of_ble_eq_true rfl) dL_law_748 (fun r1 u1 q1 => ?_)
  obtain ⟨q1, E1⟩ := q1
  obtain ⟨⟨x1, rfl, t1⟩, m1⟩ := q1
  obtain ⟨hv1, g1⟩ := m1
  have rj1 : ri u1 := ri_fr hri g1 (by decide)
  have ht1 : REL u1 := REL_lo ht g1 (by decide) (by rw [E1.2]; exact loss6_c (by omega) (by omega)) (by rw [E1.2]; exact loss6_c (by omega) (by omega)) (by rw [E1.2]; exact loss6_c (by omega) (by omega)) (by rw [E1.2]; exact loss6_c (by omega) (by omega)) (by rw [E1.2]; exact loss6_c (by omega) (by omega)) (by rw [E1.2]; exact loss6_c (by omega) (by omega))
  refine g_aload_n dL_law_751 rfl ?_
  refine g_aload_n dL_law_752 rfl ?_
  refine g_iload_n dL_law_753 rfl ?_
  refine g_iconst (v := 1) dL_law_754 (by decide) ?_
  refine g_iadd dL_law_755 ?_
  refine g_sld hX h1 dL_law_756 ?_
  refine cl_L_100 (c := 60) (As := [.int (xs (i + 1).toNatClampNeg)]) rfl (x_X7_loss (G := G) hs hv1 rj1 (xs (i + 1).toNatClampNeg) 7) rfl (by decide) rfl rfl (Nat.le_of_ble_eq_true rfl) dL_law_757 (fun r2 u2 q2 => ?_)
  obtain ⟨q2, E2⟩ := q2
  obtain ⟨⟨x2, rfl, t2⟩, m2⟩ := q2
  obtain ⟨hv2, g2, ri2⟩ := m2
  have ht2 : REL u2 := REL_fk ht1 g2 (by decide) (by decide)
  refine g_icmp_eq (tgt := 1230) dL_law_760 (by decide) (fun c => ?_) (fun c => ?_)
  · exact K u2 hv2 ri2 ht2
  · exact absurd ((ee_v E1.1).trans ((loss_e hv1 rj1 (KR_u1 ht g1 (by decide))).trans (ee_v E2.1).symm)) c
set_option maxHeartbeats 4000000 in
theorem lw_c21 {G : uk_D} {X : uk_Cx} {b L : Nat} {xs : Nat → Int32} {i : Int32} {u : uk_Mem} (hs : uk_Sep G) (hX : lw_scr G X b L xs) (h1 : vp_in (i + 1) L) (h2 : vp_in (i + 2) L) (h3 : vp_in (i + 3) L) (h4 : vp_in (i + 4) L) (hu : iv u) (hri : ri u) (ht : REL u) (K : ∀ u', iv u' → ri u' → REL u' → uk_G G X mL 12 lw_q 1230 [(0, .ref b), (1, .ref (uk_ad G 0)), (2, .ref (uk_ad G 60)), (3, .int i)] [] u') : uk_G G X mL 12 lw_q 765 [(0, .ref b), (1, .ref (uk_ad G 0)), (2, .ref (uk_ad G 60)), (3, .int i)] [] u := by
  have hts : u.1 2 1 = u.1 60 13 := ht.2.2.2.2.1.1
  have htp : cpy (u.1 3) (u.1 69) (u.1 2 1) := ht.2.2.2.2.1.2.1
  refine g_aload_n dL_law_765 rfl ?_
  refine g_aload_n dL_law_766 rfl ?_
  refine g_iload_n dL_law_767 rfl ?_
  refine g_iconst (v := 1) dL_law_768 (by decide) ?_
  refine g_iadd dL_law_769 ?_
  refine g_sld hX h1 dL_law_770 ?_
  refine g_aload_n dL_law_771 rfl ?_
  refine g_iload_n dL_law_772 rfl ?_
  refine g_iconst (v := 2) dL_law_773 (by decide) ?_
  refine g_iadd dL_law_774 ?_
  refine g_sld hX h2 dL_law_775 ?_
  refine g_aload_n dL_law_776 rfl ?_
  refine g_iload_n dL_law_777 rfl ?_
  refine g_iconst (v := 3) dL_law_778 (by decide) ?_
  refine g_iadd dL_law_779 ?_
  refine g_sld hX h3 dL_law_780 ?_
  refine g_aload_n dL_law_781 rfl ?_
  refine g_iload_n dL_law_782 rfl ?_
  refine g_iconst (v := 4) dL_law_783 (by decide) ?_
  refine g_iadd dL_law_784 ?_
  refine g_sld hX h4 dL_law_785 ?_
  refine cl_L_101 (c := 0) (As := [.int (xs (i + 1).toNatClampNeg), .int (xs (i + 2).toNatClampNeg), .int (xs (i + 3).toNatClampNeg), .int (xs (i + 4).toNatClampNeg)]) rfl (c_X6_mean (G := G) hs hu (xs (i + 1).toNatClampNeg) (xs (i + 2).toNatClampNeg) (xs (i + 3).toNatClampNeg) (xs (i + 4).toNatClampNeg) 8) rfl (by decide) rfl rfl (Nat.le_of_ble_eq_true rfl) dL_law_786 (fun r1 u1 q1 => ?_)
  obtain ⟨⟨x1, rfl, t1⟩, m1⟩ := q1
  obtain ⟨hv1, g1⟩ := m1
  have rj1 : ri u1 := ri_fr hri g1 (by decide)
  have ht1 : REL u1 := REL_fr ht g1 (by decide)
  refine g_pop2 dL_law_789 rfl ?_
  refine g_aload_n dL_law_790 rfl ?_
  refine g_aload_n dL_law_791 rfl ?_
  refine g_iload_n dL_law_792 rfl ?_
  refine g_iconst (v := 1) dL_law_793 (by decide) ?_
  refine g_iadd dL_law_794 ?_
  refine g_sld hX h1 dL_law_795 ?_
  refine g_aload_n dL_law_796 rfl ?_
  refine g_iload_n dL_law_797 rfl ?_
  refine g_iconst (v := 2) dL_law_798 (by decide) ?_
  refine g_iadd dL_law_799 ?_
  refine g_sld hX h2 dL_law_800 ?_
  refine g_aload_n dL_law_801 rfl ?_
  refine g_iload_n dL_law_802 rfl ?_
  refine g_iconst (v := 3) dL_law_803 (by decide) ?_
  refine g_iadd dL_law_804 ?_
  refine g_sld hX h3 dL_law_805 ?_
  refine g_aload_n dL_law_806 rfl ?_
  refine g_iload_n dL_law_807 rfl ?_
  refine g_iconst (v := 4) dL_law_808 (by decide) ?_
  refine g_iadd dL_law_809 ?_
  refine g_sld hX h4 dL_law_810 ?_
  refine cl_L_105 (c := 60) (As := [.int (xs (i + 1).toNatClampNeg), .int (xs (i + 2).toNatClampNeg), .int (xs (i + 3).toNatClampNeg), .int (xs (i + 4).toNatClampNeg)]) rfl (c_X7_mean (G := G) hs hv1 rj1 (xs (i + 1).toNatClampNeg) (xs (i + 2).toNatClampNeg) (xs (i + 3).toNatClampNeg) (xs (i + 4).toNatClampNeg) 8) rfl (by decide) rfl rfl (Nat.le_of_ble_eq_true rfl) dL_law_811 (fun r2 u2 q2 => ?_)
  obtain ⟨⟨x2, rfl, t2⟩, m2⟩ := q2
  obtain ⟨hv2, g2, ri2⟩ := m2
  have ht2 : REL u2 := REL_fk ht1 g2 (by decide) (by decide)
  refine g_pop2 dL_law_814 rfl ?_
  refine g_goto (tgt := 1230) dL_law_815 (by decide) ?_
  exact K u2 hv2 ri2 ht2
set_option maxHeartbeats 4000000 in
theorem lw_c22 {G : uk_D} {X : uk_Cx} {b L : Nat} {xs : Nat → Int32} {i : Int32} {u : uk_Mem} (hs : uk_Sep G) (hX : lw_scr G X b L xs) (h1 : vp_in (i + 1) L) (h2 : vp_in (i + 2) L) (h3 : vp_in (i + 3) L) (h4 : vp_in (i + 4) L) (hu : iv u) (hri : ri u) (ht : REL u) (K : ∀ u', iv u' → ri u' → REL u' → uk_G G X mL 12 lw_q 1230 [(0, .ref b), (1, .ref (uk_ad G 0)), (2, .ref (uk_ad G 60)), (3, .int i)] [] u') : uk_G G X mL 12 lw_q 818 [(0, .ref b), (1, .ref (uk_ad G 0)), (2, .ref (uk_ad G 60)), (3, .int i)] [] u := by
  have hts : u.1 2 1 = u.1 60 13 := ht.2.2.2.2.1.1
  have htp : cpy (u.1 3) (u.1 69) (u.1 2 1) := ht.2.2.2.2.1.2.1
  refine g_aload_n dL_law_818 rfl ?_
  refine g_aload_n dL_law_819 rfl ?_
  refine g_iload_n dL_law_820 rfl ?_
  refine g_iconst (v := 1) dL_law_821 (by decide) ?_
  refine g_iadd dL_law_822 ?_
  refine g_sld hX h1 dL_law_823 ?_
  refine g_aload_n dL_law_824 rfl ?_
  refine g_iload_n dL_law_825 rfl ?_
  refine g_iconst (v := 2) dL_law_826 (by decide) ?_
  refine g_iadd dL_law_827 ?_
  refine g_sld hX h2 dL_law_828 ?_
  refine cl_L_106 (c := 0) (As := [.int (xs (i + 1).toNatClampNeg), .int (xs (i + 2).toNatClampNeg)]) rfl (x_X6_best (G := G) hs hu (xs (i + 1).toNatClampNeg) (xs (i + 2).toNatClampNeg) 1) rfl (by decide) rfl rfl (Nat.le_of_ble_eq_true rfl) dL_law_829 (fun r1 u1 q1 => ?_)
  obtain ⟨q1, E1⟩ := q1
  obtain ⟨⟨x1, rfl, t1⟩, m1⟩ := q1
  obtain ⟨hv1, g1⟩ := m1
  have rj1 : ri u1 := ri_fr hri g1 (by decide)
  have ht1 : REL u1 := REL_kp ht g1 (by rw [E1.2]; exact KP_X6_best)
  refine g_pop dL_law_832 rfl ?_
  refine g_aload_n dL_law_833 rfl ?_
  refine g_aload_n dL_law_834 rfl ?_
  refine g_iload_n dL_law_835 rfl ?_
  refine g_iconst (v := 1) dL_law_836 (by decide) ?_
  refine g_iadd dL_law_837 ?_
  refine g_sld hX h1 dL_law_838 ?_
  refine g_aload_n dL_law_839 rfl ?_
  refine g_iload_n dL_law_840 rfl ?_
  refine g_iconst (v := 2) dL_law_841 (by decide) ?_
  refine g_iadd dL_law_842 ?_
  refine g_sld hX h2 dL_law_843 ?_
  refine cl_L_109 (c := 60) (As := [.int (xs (i + 1).toNatClampNeg), .int (xs (i + 2).toNatClampNeg)]) rfl (c_X7_best (G := G) hs hv1 rj1 (xs (i + 1).toNatClampNeg) (xs (i + 2).toNatClampNeg) 6) rfl (by decide) rfl rfl (Nat.le_of_ble_eq_true rfl) dL_law_844 (fun r2 u2 q2 => ?_)
  obtain ⟨⟨x2, rfl, t2⟩, m2⟩ := q2
  obtain ⟨hv2, g2, ri2⟩ := m2
  have ht2 : REL u2 := REL_fk ht1 g2 (by decide) (by decide)
  refine g_pop dL_law_847 rfl ?_
  refine g_goto (tgt := 1230) dL_law_848 (by decide) ?_
  exact K u2 hv2 ri2 ht2
set_option maxHeartbeats 4000000 in
theorem lw_c23 {G : uk_D} {X : uk_Cx} {b L : Nat} {xs : Nat → Int32} {i : Int32} {u : uk_Mem} (hs : uk_Sep G) (hX : lw_scr G X b L xs) (h1 : vp_in (i + 1) L) (h2 : vp_in (i + 2) L) (h3 : vp_in (i + 3) L) (h4 : vp_in (i + 4) L) (hu : iv u) (hri : ri u) (ht : REL u) (K : ∀ u', iv u' → ri u' → REL u' → uk_G G X mL 12 lw_q 1230 [(0, .ref b), (1, .ref (uk_ad G 0)), (2, .ref (uk_ad G 60)), (3, .int i)] [] u') : uk_G G X mL 12 lw_q 851 [(0, .ref b), (1, .ref (uk_ad G 0)), (2, .ref (uk_ad G 60)), (3, .int i)] [] u := by
  have hts : u.1 2 1 = u.1 60 13 := ht.2.2.2.2.1.1
  have htp : cpy (u.1 3) (u.1 69) (u.1 2 1) := ht.2.2.2.2.1.2.1
  refine g_aload_n dL_law_851 rfl ?_
  refine g_aload_n dL_law_852 rfl ?_
  refine g_iload_n dL_law_853 rfl ?_
  refine g_iconst (v := 1) dL_law_854 (by decide) ?_
  refine g_iadd dL_law_855 ?_
  refine g_sld hX h1 dL_law_856 ?_
  refine g_aload_n dL_law_857 rfl ?_
  refine g_iload_n dL_law_858 rfl ?_
  refine g_iconst (v := 2) dL_law_859 (by decide) ?_
  refine g_iadd dL_law_860 ?_
  refine g_sld hX h2 dL_law_861 ?_
  refine cl_L_110 (c := 0) (As := [.int (xs (i + 1).toNatClampNeg), .int (xs (i + 2).toNatClampNeg)]) rfl (x_X6_least (G := G) hs hu (xs (i + 1).toNatClampNeg) (xs (i + 2).toNatClampNeg) 1) rfl (by decide) rfl rfl (Nat.le_of_ble_eq_true rfl) dL_law_862 (fun r1 u1 q1 => ?_)
  obtain ⟨q1, E1⟩ := q1
  obtain ⟨⟨x1, rfl, t1⟩, m1⟩ := q1
  obtain ⟨hv1, g1⟩ := m1
  have rj1 : ri u1 := ri_fr hri g1 (by decide)
  have ht1 : REL u1 := REL_kp ht g1 (by rw [E1.2]; exact KP_X6_least)
  refine g_pop dL_law_865 rfl ?_
  refine g_aload_n dL_law_866 rfl ?_
  refine g_aload_n dL_law_867 rfl ?_
  refine g_iload_n dL_law_868 rfl ?_
  refine g_iconst (v := 1) dL_law_869 (by decide) ?_
  refine g_iadd dL_law_870 ?_
  refine g_sld hX h1 dL_law_871 ?_
  refine g_aload_n dL_law_872 rfl ?_
  refine g_iload_n dL_law_873 rfl ?_
  refine g_iconst (v := 2) dL_law_874 (by decide) ?_
  refine g_iadd dL_law_875 ?_
  refine g_sld hX h2 dL_law_876 ?_
  refine cl_L_113 (c := 60) (As := [.int (xs (i + 1).toNatClampNeg), .int (xs (i + 2).toNatClampNeg)]) rfl (c_X7_least (G := G) hs hv1 rj1 (xs (i + 1).toNatClampNeg) (xs (i + 2).toNatClampNeg) 6) rfl (by decide) rfl rfl (Nat.le_of_ble_eq_true rfl) dL_law_877 (fun r2 u2 q2 => ?_)
  obtain ⟨⟨x2, rfl, t2⟩, m2⟩ := q2
  obtain ⟨hv2, g2, ri2⟩ := m2
  have ht2 : REL u2 := REL_fk ht1 g2 (by decide) (by decide)
  refine g_pop dL_law_880 rfl ?_
  refine g_goto (tgt := 1230) dL_law_881 (by decide) ?_
  exact K u2 hv2 ri2 ht2
set_option maxHeartbeats 4000000 in
theorem lw_c24 {G : uk_D} {X : uk_Cx} {b L : Nat} {xs : Nat → Int32} {i : Int32} {u : uk_Mem} (hs : uk_Sep G) (hX : lw_scr G X b L xs) (h1 : vp_in (i + 1) L) (h2 : vp_in (i + 2) L) (h3 : vp_in (i + 3) L) (h4 : vp_in (i + 4) L) (hu : iv u) (hri : ri u) (ht : REL u) (K : ∀ u', iv u' → ri u' → REL u' → uk_G G X mL 12 lw_q 1230 [(0, .ref b), (1, .ref (uk_ad G 0)), (2, .ref (uk_ad G 60)), (3, .int i)] [] u') : uk_G G X mL 12 lw_q 884 [(0, .ref b), (1, .ref (uk_ad G 0)), (2, .ref (uk_ad G 60)), (3, .int i)] [] u := by
  have hts : u.1 2 1 = u.1 60 13 := ht.2.2.2.2.1.1
  have htp : cpy (u.1 3) (u.1 69) (u.1 2 1) := ht.2.2.2.2.1.2.1
  refine g_aload_n dL_law_884 rfl ?_
  refine g_aload_n dL_law_885 rfl ?_
  refine g_iload_n dL_law_886 rfl ?_
  refine g_iconst (v := 1) dL_law_887 (by decide) ?_
  refine g_iadd dL_law_888 ?_
  refine g_sld hX h1 dL_law_889 ?_
  refine cl_L_114 (c := 0) (As := [.int (xs (i + 1).toNatClampNeg)]) rfl (x_X6_see (G := G) hs hu (xs (i + 1).toNatClampNeg) 9) rfl (by decide) rfl rfl (Nat.le_of_ble_eq_true rfl) dL_law_890 (fun r1 u1 q1 => ?_)
  obtain ⟨q1, E1⟩ := q1
  obtain ⟨⟨x1, rfl, t1⟩, m1⟩ := q1
  obtain ⟨hv1, g1⟩ := m1
  have rj1 : ri u1 := ri_fr hri g1 (by decide)
  have K1 : KR u u1 13 61 0 := KR_u1 ht g1 (by decide)
  refine g_pop dL_law_893 rfl ?_
  refine g_aload_n dL_law_894 rfl ?_
  refine g_aload_n dL_law_895 rfl ?_
  refine g_iload_n dL_law_896 rfl ?_
  refine g_iconst (v := 1) dL_law_897 (by decide) ?_
  refine g_iadd dL_law_898 ?_
  refine g_sld hX h1 dL_law_899 ?_
  refine cl_L_117 (c := 60) (As := [.int (xs (i + 1).toNatClampNeg)]) rfl (x_X7_see (G := G) hs hv1 rj1 (xs (i + 1).toNatClampNeg) 8) rfl (by decide) rfl rfl (Nat.le_of_ble_eq_true rfl) dL_law_900 (fun r2 u2 q2 => ?_)
  obtain ⟨q2, E2⟩ := q2
  obtain ⟨⟨x2, rfl, t2⟩, m2⟩ := q2
  obtain ⟨hv2, g2, ri2⟩ := m2
  have A := see_e (x := (xs (i + 1).toNatClampNeg)) hv1 K1
  have A2 : KR u1 u2 13 61 0 := by
    have z := A.2
    rw [← E1.2, ← E2.2] at z
    exact z
  have ht2 : REL u2 := REL_kit ht hu g1 g2 (by decide) (fun j hj => by rw [E2.2]; exact see_o hv1 hj) A2
  refine g_pop dL_law_903 rfl ?_
  refine g_goto (tgt := 1230) dL_law_904 (by decide) ?_
  exact K u2 hv2 ri2 ht2
set_option maxHeartbeats 4000000 in
theorem lw_c25 {G : uk_D} {X : uk_Cx} {b L : Nat} {xs : Nat → Int32} {i : Int32} {u : uk_Mem} (hs : uk_Sep G) (hX : lw_scr G X b L xs) (h1 : vp_in (i + 1) L) (h2 : vp_in (i + 2) L) (h3 : vp_in (i + 3) L) (h4 : vp_in (i + 4) L) (hu : iv u) (hri : ri u) (ht : REL u) (K : ∀ u', iv u' → ri u' → REL u' → uk_G G X mL 12 lw_q 1230 [(0, .ref b), (1, .ref (uk_ad G 0)), (2, .ref (uk_ad G 60)), (3, .int i)] [] u') : uk_G G X mL 12 lw_q 907 [(0, .ref b), (1, .ref (uk_ad G 0)), (2, .ref (uk_ad G 60)), (3, .int i)] [] u := by
  have hts : u.1 2 1 = u.1 60 13 := ht.2.2.2.2.1.1
  have htp : cpy (u.1 3) (u.1 69) (u.1 2 1) := ht.2.2.2.2.1.2.1
  refine g_aload_n dL_law_907 rfl ?_
  refine g_aload_n dL_law_908 rfl ?_
  refine g_iload_n dL_law_909 rfl ?_
  refine g_iconst (v := 1) dL_law_910 (by decide) ?_
  refine g_iadd dL_law_911 ?_
  refine g_sld hX h1 dL_law_912 ?_
  refine cl_L_118 (c := 0) (As := [.int (xs (i + 1).toNatClampNeg)]) rfl (x_X6_forget (G := G) hs hu (xs (i + 1).toNatClampNeg) 10) rfl (by decide) rfl rfl (Nat.le_of_ble_eq_true rfl) dL_law_913 (fun r1 u1 q1 => ?_)
  obtain ⟨q1, E1⟩ := q1
  obtain ⟨⟨x1, rfl, t1⟩, m1⟩ := q1
  obtain ⟨hv1, g1⟩ := m1
  have rj1 : ri u1 := ri_fr hri g1 (by decide)
  have K1 : KR u u1 13 61 0 := KR_u1 ht g1 (by decide)
  refine g_pop dL_law_916 rfl ?_
  refine g_aload_n dL_law_917 rfl ?_
  refine g_aload_n dL_law_918 rfl ?_
  refine g_iload_n dL_law_919 rfl ?_
  refine g_iconst (v := 1) dL_law_920 (by decide) ?_
  refine g_iadd dL_law_921 ?_
  refine g_sld hX h1 dL_law_922 ?_
  refine cl_L_121 (c := 60) (As := [.int (xs (i + 1).toNatClampNeg)]) rfl (x_X7_forget (G := G) hs hv1 rj1 (xs (i + 1).toNatClampNeg) 9) rfl (by decide) rfl rfl (Nat.le_of_ble_eq_true rfl) dL_law_923 (fun r2 u2 q2 => ?_)
  obtain ⟨q2, E2⟩ := q2
  obtain ⟨⟨x2, rfl, t2⟩, m2⟩ := q2
  obtain ⟨hv2, g2, ri2⟩ := m2
  have A := forget_e (n := (xs (i + 1).toNatClampNeg)) hv1 K1
  have A2 : KR u1 u2 13 61 0 := by
    have z := A.2
    rw [← E1.2, ← E2.2] at z
    exact z
  have ht2 : REL u2 := REL_kit ht hu g1 g2 (by decide) (fun j hj => by rw [E2.2]; exact forget_o hj) A2
  refine g_pop dL_law_926 rfl ?_
  refine g_goto (tgt := 1230) dL_law_927 (by decide) ?_
  exact K u2 hv2 ri2 ht2
set_option maxHeartbeats 4000000 in
theorem lw_c26 {G : uk_D} {X : uk_Cx} {b L : Nat} {xs : Nat → Int32} {i : Int32} {u : uk_Mem} (hs : uk_Sep G) (hX : lw_scr G X b L xs) (h1 : vp_in (i + 1) L) (h2 : vp_in (i + 2) L) (h3 : vp_in (i + 3) L) (h4 : vp_in (i + 4) L) (hu : iv u) (hri : ri u) (ht : REL u) (K : ∀ u', iv u' → ri u' → REL u' → uk_G G X mL 12 lw_q 1230 [(0, .ref b), (1, .ref (uk_ad G 0)), (2, .ref (uk_ad G 60)), (3, .int i)] [] u') : uk_G G X mL 12 lw_q 930 [(0, .ref b), (1, .ref (uk_ad G 0)), (2, .ref (uk_ad G 60)), (3, .int i)] [] u := by
  have hts : u.1 2 1 = u.1 60 13 := ht.2.2.2.2.1.1
  have htp : cpy (u.1 3) (u.1 69) (u.1 2 1) := ht.2.2.2.2.1.2.1
  refine g_aload_n dL_law_930 rfl ?_
  refine cl_L_122 (c := 0) (As := []) rfl (c_X6_fits (G := G) hs hu  7) rfl (by decide) rfl rfl (Nat.le_of_ble_eq_true rfl) dL_law_931 (fun r1 u1 q1 => ?_)
  obtain ⟨⟨x1, rfl, t1⟩, m1⟩ := q1
  obtain ⟨hv1, g1⟩ := m1
  have rj1 : ri u1 := ri_fr hri g1 (by decide)
  have ht1 : REL u1 := REL_fr ht g1 (by decide)
  refine g_pop dL_law_934 rfl ?_
  refine g_aload_n dL_law_935 rfl ?_
  refine cl_L_125 (c := 60) (As := []) rfl (c_X7_fits (G := G) hs hv1 rj1  7) rfl (by decide) rfl rfl (Nat.le_of_ble_eq_true rfl) dL_law_936 (fun r2 u2 q2 => ?_)
  obtain ⟨⟨x2, rfl, t2⟩, m2⟩ := q2
  obtain ⟨hv2, g2, ri2⟩ := m2
  have ht2 : REL u2 := REL_fk ht1 g2 (by decide) (by decide)
  refine g_pop dL_law_939 rfl ?_
  refine g_goto (tgt := 1230) dL_law_940 (by decide) ?_
  exact K u2 hv2 ri2 ht2
set_option maxHeartbeats 4000000 in
theorem lw_c27 {G : uk_D} {X : uk_Cx} {b L : Nat} {xs : Nat → Int32} {i : Int32} {u : uk_Mem} (hs : uk_Sep G) (hX : lw_scr G X b L xs) (h1 : vp_in (i + 1) L) (h2 : vp_in (i + 2) L) (h3 : vp_in (i + 3) L) (h4 : vp_in (i + 4) L) (hu : iv u) (hri : ri u) (ht : REL u) (K : ∀ u', iv u' → ri u' → REL u' → uk_G G X mL 12 lw_q 1230 [(0, .ref b), (1, .ref (uk_ad G 0)), (2, .ref (uk_ad G 60)), (3, .int i)] [] u') : uk_G G X mL 12 lw_q 943 [(0, .ref b), (1, .ref (uk_ad G 0)), (2, .ref (uk_ad G 60)), (3, .int i)] [] u := by
  have hts : u.1 2 1 = u.1 60 13 := ht.2.2.2.2.1.1
  have htp : cpy (u.1 3) (u.1 69) (u.1 2 1) := ht.2.2.2.2.1.2.1
  refine g_aload_n dL_law_943 rfl ?_
  refine g_aload_n dL_law_944 rfl ?_
  refine g_iload_n dL_law_945 rfl ?_
  refine g_iconst (v := 1) dL_law_946 (by decide) ?_
  refine g_iadd dL_law_947 ?_
  refine g_sld hX h1 dL_law_948 ?_
  refine cl_L_126 (c := 0) (As := [.int (xs (i + 1).toNatClampNeg)]) rfl (c_X6_pairs_k (G := G) hs hu (xs (i + 1).toNatClampNeg) 6) rfl (by decide) rfl rfl (Nat.le_of_ble_eq_true rfl) dL_law_949 (fun r1 u1 q1 => ?_)
  obtain ⟨⟨x1, rfl, t1⟩, m1⟩ := q1
  obtain ⟨hv1, g1, k1_0, k1_1, k1_2, k1_3, k1_4, k1_5⟩ := m1
  have rj1 : ri u1 := ri_fr hri g1 (by decide)
  have ht1 : REL u1 := REL_lo ht g1 (by decide) k1_0 k1_1 k1_2 k1_3 k1_4 k1_5
  refine g_pop dL_law_952 rfl ?_
  refine g_aload_n dL_law_953 rfl ?_
  refine g_aload_n dL_law_954 rfl ?_
  refine g_iload_n dL_law_955 rfl ?_
  refine g_iconst (v := 1) dL_law_956 (by decide) ?_
  refine g_iadd dL_law_957 ?_
  refine g_sld hX h1 dL_law_958 ?_
  refine cl_L_129 (c := 60) (As := [.int (xs (i + 1).toNatClampNeg)]) rfl (c_X7_pairs (G := G) hs hv1 rj1 (xs (i + 1).toNatClampNeg) 6) rfl (by decide) rfl rfl (Nat.le_of_ble_eq_true rfl) dL_law_959 (fun r2 u2 q2 => ?_)
  obtain ⟨⟨x2, rfl, t2⟩, m2⟩ := q2
  obtain ⟨hv2, g2, ri2⟩ := m2
  have ht2 : REL u2 := REL_fk ht1 g2 (by decide) (by decide)
  refine g_pop dL_law_962 rfl ?_
  refine g_goto (tgt := 1230) dL_law_963 (by decide) ?_
  exact K u2 hv2 ri2 ht2
set_option maxHeartbeats 4000000 in
theorem lw_c28 {G : uk_D} {X : uk_Cx} {b L : Nat} {xs : Nat → Int32} {i : Int32} {u : uk_Mem} (hs : uk_Sep G) (hX : lw_scr G X b L xs) (h1 : vp_in (i + 1) L) (h2 : vp_in (i + 2) L) (h3 : vp_in (i + 3) L) (h4 : vp_in (i + 4) L) (hu : iv u) (hri : ri u) (ht : REL u) (K : ∀ u', iv u' → ri u' → REL u' → uk_G G X mL 12 lw_q 1230 [(0, .ref b), (1, .ref (uk_ad G 0)), (2, .ref (uk_ad G 60)), (3, .int i)] [] u') : uk_G G X mL 12 lw_q 966 [(0, .ref b), (1, .ref (uk_ad G 0)), (2, .ref (uk_ad G 60)), (3, .int i)] [] u := by
  have hts : u.1 2 1 = u.1 60 13 := ht.2.2.2.2.1.1
  have htp : cpy (u.1 3) (u.1 69) (u.1 2 1) := ht.2.2.2.2.1.2.1
  refine g_aload_n dL_law_966 rfl ?_
  refine g_aload_n dL_law_967 rfl ?_
  refine g_iload_n dL_law_968 rfl ?_
  refine g_iconst (v := 1) dL_law_969 (by decide) ?_
  refine g_iadd dL_law_970 ?_
  refine g_sld hX h1 dL_law_971 ?_
  refine g_aload_n dL_law_972 rfl ?_
  refine g_iload_n dL_law_973 rfl ?_
  refine g_iconst (v := 2) dL_law_974 (by decide) ?_
  refine g_iadd dL_law_975 ?_
  refine g_sld hX h2 dL_law_976 ?_
  refine g_aload_n dL_law_977 rfl ?_
  refine g_iload_n dL_law_978 rfl ?_
  refine g_iconst (v := 3) dL_law_979 (by decide) ?_
  refine g_iadd dL_law_980 ?_
  refine g_sld hX h3 dL_law_981 ?_
  refine cl_L_130 (c := 0) (As := [.int (xs (i + 1).toNatClampNeg), .int (xs (i + 2).toNatClampNeg), .int (xs (i + 3).toNatClampNeg)]) rfl (c_X6_drift (G := G) hs hu (xs (i + 1).toNatClampNeg) (xs (i + 2).toNatClampNeg) (xs (i + 3).toNatClampNeg) 7) rfl (by decide) rfl rfl (Nat.le_of_ble_eq_true rfl) dL_law_982 (fun r1 u1 q1 => ?_)
  obtain ⟨⟨x1, rfl, t1⟩, m1⟩ := q1
  obtain ⟨hv1, g1⟩ := m1
  have rj1 : ri u1 := ri_fr hri g1 (by decide)
  have ht1 : REL u1 := REL_fr ht g1 (by decide)
  refine g_pop dL_law_985 rfl ?_
  refine g_aload_n dL_law_986 rfl ?_
  refine g_aload_n dL_law_987 rfl ?_
  refine g_iload_n dL_law_988 rfl ?_
  refine g_iconst (v := 1) dL_law_989 (by decide) ?_
  refine g_iadd dL_law_990 ?_
  refine g_sld hX h1 dL_law_991 ?_
  refine g_aload_n dL_law_992 rfl ?_
  refine g_iload_n dL_law_993 rfl ?_
  refine g_iconst (v := 2) dL_law_994 (by decide) ?_
  refine g_iadd dL_law_995 ?_
  refine g_sld hX h2 dL_law_996 ?_
  refine g_aload_n dL_law_997 rfl ?_
  refine g_iload_n dL_law_998 rfl ?_
  refine g_iconst (v := 3) dL_law_999 (by decide) ?_
  refine g_iadd dL_law_1000 ?_
  refine g_sld hX h3 dL_law_1001 ?_
  refine cl_L_133 (c := 60) (As := [.int (xs (i + 1).toNatClampNeg), .int (xs (i + 2).toNatClampNeg), .int (xs (i + 3).toNatClampNeg)]) rfl (c_X7_drift (G := G) hs hv1 rj1 (xs (i + 1).toNatClampNeg) (xs (i + 2).toNatClampNeg) (xs (i + 3).toNatClampNeg) 7) rfl (by decide) rfl rfl (Nat.le_of_ble_eq_true rfl) dL_law_1002 (fun r2 u2 q2 => ?_)
  obtain ⟨⟨x2, rfl, t2⟩, m2⟩ := q2
  obtain ⟨hv2, g2, ri2⟩ := m2
  have ht2 : REL u2 := REL_fk ht1 g2 (by decide) (by decide)
  refine g_pop dL_law_1005 rfl ?_
  refine g_goto (tgt := 1230) dL_law_1006 (by decide) ?_
  exact K u2 hv2 ri2 ht2
set_option maxHeartbeats 4000000 in
theorem lw_c29 {G : uk_D} {X : uk_Cx} {b L : Nat} {xs : Nat → Int32} {i : Int32} {u : uk_Mem} (hs : uk_Sep G) (hX : lw_scr G X b L xs) (h1 : vp_in (i + 1) L) (h2 : vp_in (i + 2) L) (h3 : vp_in (i + 3) L) (h4 : vp_in (i + 4) L) (hu : iv u) (hri : ri u) (ht : REL u) (K : ∀ u', iv u' → ri u' → REL u' → uk_G G X mL 12 lw_q 1230 [(0, .ref b), (1, .ref (uk_ad G 0)), (2, .ref (uk_ad G 60)), (3, .int i)] [] u') : uk_G G X mL 12 lw_q 1009 [(0, .ref b), (1, .ref (uk_ad G 0)), (2, .ref (uk_ad G 60)), (3, .int i)] [] u := by
  have hts : u.1 2 1 = u.1 60 13 := ht.2.2.2.2.1.1
  have htp : cpy (u.1 3) (u.1 69) (u.1 2 1) := ht.2.2.2.2.1.2.1
  refine g_aload_n dL_law_1009 rfl ?_
  refine g_aload_n dL_law_1010 rfl ?_
  refine g_iload_n dL_law_1011 rfl ?_
  refine g_iconst (v := 1) dL_law_1012 (by decide) ?_
  refine g_iadd dL_law_1013 ?_
  refine g_sld hX h1 dL_law_1014 ?_
  refine cl_L_134 (c := 0) (As := [.int (xs (i + 1).toNatClampNeg)]) rfl (x_X6_keep (G := G) hs hu (xs (i + 1).toNatClampNeg) 9) rfl (by decide) rfl rfl (Nat.le_of_ble_eq_true rfl) dL_law_1015 (fun r1 u1 q1 => ?_)
  obtain ⟨q1, E1⟩ := q1
  obtain ⟨⟨x1, rfl, t1⟩, m1⟩ := q1
  obtain ⟨hv1, g1⟩ := m1
  have rj1 : ri u1 := ri_fr hri g1 (by decide)
  refine g_pop dL_law_1018 rfl ?_
  refine g_aload_n dL_law_1019 rfl ?_
  refine g_aload_n dL_law_1020 rfl ?_
  refine g_iload_n dL_law_1021 rfl ?_
  refine g_iconst (v := 1) dL_law_1022 (by decide) ?_
  refine g_iadd dL_law_1023 ?_
  refine g_sld hX h1 dL_law_1024 ?_
  refine cl_L_137 (c := 60) (As := [.int (xs (i + 1).toNatClampNeg)]) rfl (x_X7_keep (G := G) hs hv1 rj1 (xs (i + 1).toNatClampNeg) 9) rfl (by decide) rfl rfl (Nat.le_of_ble_eq_true rfl) dL_law_1025 (fun r2 u2 q2 => ?_)
  obtain ⟨q2, E2⟩ := q2
  obtain ⟨⟨x2, rfl, t2⟩, m2⟩ := q2
  obtain ⟨hv2, g2, ri2⟩ := m2
  have A := keep_R ht hu E1.2 E2.2
  refine g_pop dL_law_1028 rfl ?_
  refine g_goto (tgt := 1230) dL_law_1029 (by decide) ?_
  exact K u2 hv2 ri2 A.2
set_option maxHeartbeats 4000000 in
theorem lw_c30 {G : uk_D} {X : uk_Cx} {b L : Nat} {xs : Nat → Int32} {i : Int32} {u : uk_Mem} (hs : uk_Sep G) (hX : lw_scr G X b L xs) (h1 : vp_in (i + 1) L) (h2 : vp_in (i + 2) L) (h3 : vp_in (i + 3) L) (h4 : vp_in (i + 4) L) (hu : iv u) (hri : ri u) (ht : REL u) (K : ∀ u', iv u' → ri u' → REL u' → uk_G G X mL 12 lw_q 1230 [(0, .ref b), (1, .ref (uk_ad G 0)), (2, .ref (uk_ad G 60)), (3, .int i)] [] u') : uk_G G X mL 12 lw_q 1032 [(0, .ref b), (1, .ref (uk_ad G 0)), (2, .ref (uk_ad G 60)), (3, .int i)] [] u := by
  have hts : u.1 2 1 = u.1 60 13 := ht.2.2.2.2.1.1
  have htp : cpy (u.1 3) (u.1 69) (u.1 2 1) := ht.2.2.2.2.1.2.1
  refine g_aload_n dL_law_1032 rfl ?_
  refine g_aload_n dL_law_1033 rfl ?_
  refine g_iload_n dL_law_1034 rfl ?_
  refine g_iconst (v := 1) dL_law_1035 (by decide) ?_
  refine g_iadd dL_law_1036 ?_
  refine g_sld hX h1 dL_law_1037 ?_
  refine cl_L_138 (c := 0) (As := [.int (xs (i + 1).toNatClampNeg)]) rfl (x_X6_back (G := G) hs hu (xs (i + 1).toNatClampNeg) 9) rfl (by decide) rfl rfl (Nat.le_of_ble_eq_true rfl) dL_law_1038 (fun r1 u1 q1 => ?_)
  obtain ⟨q1, E1⟩ := q1
  obtain ⟨⟨x1, rfl, t1⟩, m1⟩ := q1
  obtain ⟨hv1, g1⟩ := m1
  have rj1 : ri u1 := ri_fr hri g1 (by decide)
  refine g_pop dL_law_1041 rfl ?_
  refine g_aload_n dL_law_1042 rfl ?_
  refine g_aload_n dL_law_1043 rfl ?_
  refine g_iload_n dL_law_1044 rfl ?_
  refine g_iconst (v := 1) dL_law_1045 (by decide) ?_
  refine g_iadd dL_law_1046 ?_
  refine g_sld hX h1 dL_law_1047 ?_
  refine cl_L_141 (c := 60) (As := [.int (xs (i + 1).toNatClampNeg)]) rfl (x_X7_back (G := G) hs hv1 rj1 (xs (i + 1).toNatClampNeg) 9) rfl (by decide) rfl rfl (Nat.le_of_ble_eq_true rfl) dL_law_1048 (fun r2 u2 q2 => ?_)
  obtain ⟨q2, E2⟩ := q2
  obtain ⟨⟨x2, rfl, t2⟩, m2⟩ := q2
  obtain ⟨hv2, g2, ri2⟩ := m2
  have A := back_R ht hu E1.2 E2.2
  refine g_pop dL_law_1051 rfl ?_
  refine g_goto (tgt := 1230) dL_law_1052 (by decide) ?_
  exact K u2 hv2 ri2 A.2
set_option maxHeartbeats 4000000 in
theorem lw_c31 {G : uk_D} {X : uk_Cx} {b L : Nat} {xs : Nat → Int32} {i : Int32} {u : uk_Mem} (hs : uk_Sep G) (hX : lw_scr G X b L xs) (h1 : vp_in (i + 1) L) (h2 : vp_in (i + 2) L) (h3 : vp_in (i + 3) L) (h4 : vp_in (i + 4) L) (hu : iv u) (hri : ri u) (ht : REL u) (K : ∀ u', iv u' → ri u' → REL u' → uk_G G X mL 12 lw_q 1230 [(0, .ref b), (1, .ref (uk_ad G 0)), (2, .ref (uk_ad G 60)), (3, .int i)] [] u') : uk_G G X mL 12 lw_q 1055 [(0, .ref b), (1, .ref (uk_ad G 0)), (2, .ref (uk_ad G 60)), (3, .int i)] [] u := by
  have hts : u.1 2 1 = u.1 60 13 := ht.2.2.2.2.1.1
  have htp : cpy (u.1 3) (u.1 69) (u.1 2 1) := ht.2.2.2.2.1.2.1
  refine g_aload_n dL_law_1055 rfl ?_
  refine g_aload_n dL_law_1056 rfl ?_
  refine g_iload_n dL_law_1057 rfl ?_
  refine g_iconst (v := 1) dL_law_1058 (by decide) ?_
  refine g_iadd dL_law_1059 ?_
  refine g_sld hX h1 dL_law_1060 ?_
  refine g_aload_n dL_law_1061 rfl ?_
  refine g_iload_n dL_law_1062 rfl ?_
  refine g_iconst (v := 2) dL_law_1063 (by decide) ?_
  refine g_iadd dL_law_1064 ?_
  refine g_sld hX h2 dL_law_1065 ?_
  refine g_aload_n dL_law_1066 rfl ?_
  refine g_iload_n dL_law_1067 rfl ?_
  refine g_iconst (v := 3) dL_law_1068 (by decide) ?_
  refine g_iadd dL_law_1069 ?_
  refine g_sld hX h3 dL_law_1070 ?_
  refine cl_L_142 (c := 0) (As := [.int (xs (i + 1).toNatClampNeg), .int (xs (i + 2).toNatClampNeg), .int (xs (i + 3).toNatClampNeg)]) rfl (x_X6_sheet (G := G) hs hu (xs (i + 1).toNatClampNeg) (xs (i + 2).toNatClampNeg) (xs (i + 3).toNatClampNeg) 9) rfl (by decide) rfl rfl (Nat.le_of_ble_eq_true rfl) dL_law_1071 (fun r1 u1 q1 => ?_)
  obtain ⟨q1, E1⟩ := q1
  obtain ⟨⟨x1, rfl, t1⟩, m1⟩ := q1
  obtain ⟨hv1, g1⟩ := m1
  have rj1 : ri u1 := ri_fr hri g1 (by decide)
  refine g_pop dL_law_1074 rfl ?_
  refine g_aload_n dL_law_1075 rfl ?_
  refine g_aload_n dL_law_1076 rfl ?_
  refine g_iload_n dL_law_1077 rfl ?_
  refine g_iconst (v := 1) dL_law_1078 (by decide) ?_
  refine g_iadd dL_law_1079 ?_
  refine g_sld hX h1 dL_law_1080 ?_
  refine g_aload_n dL_law_1081 rfl ?_
  refine g_iload_n dL_law_1082 rfl ?_
  refine g_iconst (v := 2) dL_law_1083 (by decide) ?_
  refine g_iadd dL_law_1084 ?_
  refine g_sld hX h2 dL_law_1085 ?_
  refine g_aload_n dL_law_1086 rfl ?_
  refine g_iload_n dL_law_1087 rfl ?_
  refine g_iconst (v := 3) dL_law_1088 (by decide) ?_
  refine g_iadd dL_law_1089 ?_
  refine g_sld hX h3 dL_law_1090 ?_
  refine cl_L_145 (c := 60) (As := [.int (xs (i + 1).toNatClampNeg), .int (xs (i + 2).toNatClampNeg), .int (xs (i + 3).toNatClampNeg)]) rfl (x_X7_sheet (G := G) hs hv1 (xs (i + 1).toNatClampNeg) (xs (i + 2).toNatClampNeg) (xs (i + 3).toNatClampNeg) 8) rfl (by decide) rfl rfl (Nat.le_of_ble_eq_true rfl) dL_law_1091 (fun r2 u2 q2 => ?_)
  obtain ⟨q2, E2⟩ := q2
  obtain ⟨⟨x2, rfl, t2⟩, m2⟩ := q2
  obtain ⟨hv2, g2⟩ := m2
  have rj2 : ri u2 := ri_fk rj1 g2 (by decide) (by decide) (by decide) (by decide) (by decide)
  have A := sheet_R ht E1.2 E2.2
  refine g_pop dL_law_1094 rfl ?_
  refine g_goto (tgt := 1230) dL_law_1095 (by decide) ?_
  exact K u2 hv2 rj2 A.2
set_option maxHeartbeats 4000000 in
theorem lw_c32 {G : uk_D} {X : uk_Cx} {b L : Nat} {xs : Nat → Int32} {i : Int32} {u : uk_Mem} (hs : uk_Sep G) (hX : lw_scr G X b L xs) (h1 : vp_in (i + 1) L) (h2 : vp_in (i + 2) L) (h3 : vp_in (i + 3) L) (h4 : vp_in (i + 4) L) (hu : iv u) (hri : ri u) (ht : REL u) (K : ∀ u', iv u' → ri u' → REL u' → uk_G G X mL 12 lw_q 1230 [(0, .ref b), (1, .ref (uk_ad G 0)), (2, .ref (uk_ad G 60)), (3, .int i)] [] u') : uk_G G X mL 12 lw_q 1098 [(0, .ref b), (1, .ref (uk_ad G 0)), (2, .ref (uk_ad G 60)), (3, .int i)] [] u := by
  have hts : u.1 2 1 = u.1 60 13 := ht.2.2.2.2.1.1
  have htp : cpy (u.1 3) (u.1 69) (u.1 2 1) := ht.2.2.2.2.1.2.1
  refine g_aload_n dL_law_1098 rfl ?_
  refine g_aload_n dL_law_1099 rfl ?_
  refine g_iload_n dL_law_1100 rfl ?_
  refine g_iconst (v := 1) dL_law_1101 (by decide) ?_
  refine g_iadd dL_law_1102 ?_
  refine g_sld hX h1 dL_law_1103 ?_
  refine g_aload_n dL_law_1104 rfl ?_
  refine g_iload_n dL_law_1105 rfl ?_
  refine g_iconst (v := 2) dL_law_1106 (by decide) ?_
  refine g_iadd dL_law_1107 ?_
  refine g_sld hX h2 dL_law_1108 ?_
  refine g_aload_n dL_law_1109 rfl ?_
  refine g_iload_n dL_law_1110 rfl ?_
  refine g_iconst (v := 3) dL_law_1111 (by decide) ?_
  refine g_iadd dL_law_1112 ?_
  refine g_sld hX h3 dL_law_1113 ?_
  refine cl_L_146 (c := 0) (As := [.int (xs (i + 1).toNatClampNeg), .int (xs (i + 2).toNatClampNeg), .int (xs (i + 3).toNatClampNeg)]) rfl (x_X6_lay (G := G) hs hu (xs (i + 1).toNatClampNeg) (xs (i + 2).toNatClampNeg) (xs (i + 3).toNatClampNeg) 8) rfl (by decide) rfl rfl (Nat.le_of_ble_eq_true rfl) dL_law_1114 (fun r1 u1 q1 => ?_)
  obtain ⟨q1, E1⟩ := q1
  obtain ⟨⟨x1, rfl, t1⟩, m1⟩ := q1
  obtain ⟨hv1, g1⟩ := m1
  have rj1 : ri u1 := ri_fr hri g1 (by decide)
  refine g_pop dL_law_1117 rfl ?_
  refine g_aload_n dL_law_1118 rfl ?_
  refine g_aload_n dL_law_1119 rfl ?_
  refine g_iload_n dL_law_1120 rfl ?_
  refine g_iconst (v := 1) dL_law_1121 (by decide) ?_
  refine g_iadd dL_law_1122 ?_
  refine g_sld hX h1 dL_law_1123 ?_
  refine g_aload_n dL_law_1124 rfl ?_
  refine g_iload_n dL_law_1125 rfl ?_
  refine g_iconst (v := 2) dL_law_1126 (by decide) ?_
  refine g_iadd dL_law_1127 ?_
  refine g_sld hX h2 dL_law_1128 ?_
  refine g_aload_n dL_law_1129 rfl ?_
  refine g_iload_n dL_law_1130 rfl ?_
  refine g_iconst (v := 3) dL_law_1131 (by decide) ?_
  refine g_iadd dL_law_1132 ?_
  refine g_sld hX h3 dL_law_1133 ?_
  refine cl_L_149 (c := 60) (As := [.int (xs (i + 1).toNatClampNeg), .int (xs (i + 2).toNatClampNeg), .int (xs (i + 3).toNatClampNeg)]) rfl (x_X7_lay (G := G) hs hv1 (xs (i + 1).toNatClampNeg) (xs (i + 2).toNatClampNeg) (xs (i + 3).toNatClampNeg) 8) rfl (by decide) rfl rfl (Nat.le_of_ble_eq_true rfl) dL_law_1134 (fun r2 u2 q2 => ?_)
  obtain ⟨q2, E2⟩ := q2
  obtain ⟨⟨x2, rfl, t2⟩, m2⟩ := q2
  obtain ⟨hv2, g2⟩ := m2
  have rj2 : ri u2 := ri_fk rj1 g2 (by decide) (by decide) (by decide) (by decide) (by decide)
  have A := lay_R ht hu E1.2 E2.2
  refine g_pop dL_law_1137 rfl ?_
  refine g_goto (tgt := 1230) dL_law_1138 (by decide) ?_
  exact K u2 hv2 rj2 A.2
set_option maxHeartbeats 4000000 in
theorem lw_c33 {G : uk_D} {X : uk_Cx} {b L : Nat} {xs : Nat → Int32} {i : Int32} {u : uk_Mem} (hs : uk_Sep G) (hX : lw_scr G X b L xs) (h1 : vp_in (i + 1) L) (h2 : vp_in (i + 2) L) (h3 : vp_in (i + 3) L) (h4 : vp_in (i + 4) L) (hu : iv u) (hri : ri u) (ht : REL u) (K : ∀ u', iv u' → ri u' → REL u' → uk_G G X mL 12 lw_q 1230 [(0, .ref b), (1, .ref (uk_ad G 0)), (2, .ref (uk_ad G 60)), (3, .int i)] [] u') : uk_G G X mL 12 lw_q 1141 [(0, .ref b), (1, .ref (uk_ad G 0)), (2, .ref (uk_ad G 60)), (3, .int i)] [] u := by
  have hts : u.1 2 1 = u.1 60 13 := ht.2.2.2.2.1.1
  have htp : cpy (u.1 3) (u.1 69) (u.1 2 1) := ht.2.2.2.2.1.2.1
  refine g_aload_n dL_law_1141 rfl ?_
  refine g_aload_n dL_law_1142 rfl ?_
  refine g_iload_n dL_law_1143 rfl ?_
  refine g_iconst (v := 1) dL_law_1144 (by decide) ?_
  refine g_iadd dL_law_1145 ?_
  refine g_sld hX h1 dL_law_1146 ?_
  refine g_aload_n dL_law_1147 rfl ?_
  refine g_iload_n dL_law_1148 rfl ?_
  refine g_iconst (v := 2) dL_law_1149 (by decide) ?_
  refine g_iadd dL_law_1150 ?_
  refine g_sld hX h2 dL_law_1151 ?_
  refine g_aload_n dL_law_1152 rfl ?_
  refine g_iload_n dL_law_1153 rfl ?_
  refine g_iconst (v := 3) dL_law_1154 (by decide) ?_
  refine g_iadd dL_law_1155 ?_
  refine g_sld hX h3 dL_law_1156 ?_
  refine g_aload_n dL_law_1157 rfl ?_
  refine g_iload_n dL_law_1158 rfl ?_
  refine g_iconst (v := 4) dL_law_1159 (by decide) ?_
  refine g_iadd dL_law_1160 ?_
  refine g_sld hX h4 dL_law_1161 ?_
  refine cl_L_150 (c := 0) (As := [.int (xs (i + 1).toNatClampNeg), .int (xs (i + 2).toNatClampNeg), .int (xs (i + 3).toNatClampNeg), .int (xs (i + 4).toNatClampNeg)]) rfl (x_X6_read (G := G) hs hu (xs (i + 1).toNatClampNeg) (xs (i + 2).toNatClampNeg) (xs (i + 3).toNatClampNeg) (xs (i + 4).toNatClampNeg) 6) rfl (by decide) rfl rfl (Nat.le_of_ble_eq_true rfl) dL_law_1162 (fun r1 u1 q1 => ?_)
  obtain ⟨q1, E1⟩ := q1
  obtain ⟨⟨x1, rfl, t1⟩, m1⟩ := q1
  obtain ⟨hv1, g1, k1_0⟩ := m1
  have rj1 : ri u1 := ri_fr hri g1 (by decide)
  refine g_pop dL_law_1165 rfl ?_
  refine g_aload_n dL_law_1166 rfl ?_
  refine g_aload_n dL_law_1167 rfl ?_
  refine g_iload_n dL_law_1168 rfl ?_
  refine g_iconst (v := 1) dL_law_1169 (by decide) ?_
  refine g_iadd dL_law_1170 ?_
  refine g_sld hX h1 dL_law_1171 ?_
  refine g_aload_n dL_law_1172 rfl ?_
  refine g_iload_n dL_law_1173 rfl ?_
  refine g_iconst (v := 2) dL_law_1174 (by decide) ?_
  refine g_iadd dL_law_1175 ?_
  refine g_sld hX h2 dL_law_1176 ?_
  refine g_aload_n dL_law_1177 rfl ?_
  refine g_iload_n dL_law_1178 rfl ?_
  refine g_iconst (v := 3) dL_law_1179 (by decide) ?_
  refine g_iadd dL_law_1180 ?_
  refine g_sld hX h3 dL_law_1181 ?_
  refine g_aload_n dL_law_1182 rfl ?_
  refine g_iload_n dL_law_1183 rfl ?_
  refine g_iconst (v := 4) dL_law_1184 (by decide) ?_
  refine g_iadd dL_law_1185 ?_
  refine g_sld hX h4 dL_law_1186 ?_
  refine cl_L_154 (c := 60) (As := [.int (xs (i + 1).toNatClampNeg), .int (xs (i + 2).toNatClampNeg), .int (xs (i + 3).toNatClampNeg), .int (xs (i + 4).toNatClampNeg)]) rfl (x_X7_read (G := G) hs hv1 rj1 (xs (i + 1).toNatClampNeg) (xs (i + 2).toNatClampNeg) (xs (i + 3).toNatClampNeg) (xs (i + 4).toNatClampNeg) 6) rfl (by decide) rfl rfl (Nat.le_of_ble_eq_true rfl) dL_law_1187 (fun r2 u2 q2 => ?_)
  obtain ⟨q2, E2⟩ := q2
  obtain ⟨⟨x2, rfl, t2⟩, m2⟩ := q2
  obtain ⟨hv2, g2, ri2⟩ := m2
  have A := read_R ht hu hri E1.2 E2.2 g1 g2 hv1
  refine g_pop dL_law_1190 rfl ?_
  refine g_goto (tgt := 1230) dL_law_1191 (by decide) ?_
  exact K u2 hv2 ri2 A.2
set_option maxHeartbeats 4000000 in
theorem lw_c34 {G : uk_D} {X : uk_Cx} {b L : Nat} {xs : Nat → Int32} {i : Int32} {u : uk_Mem} (hs : uk_Sep G) (hX : lw_scr G X b L xs) (h1 : vp_in (i + 1) L) (h2 : vp_in (i + 2) L) (h3 : vp_in (i + 3) L) (h4 : vp_in (i + 4) L) (hu : iv u) (hri : ri u) (ht : REL u) (K : ∀ u', iv u' → ri u' → REL u' → uk_G G X mL 12 lw_q 1230 [(0, .ref b), (1, .ref (uk_ad G 0)), (2, .ref (uk_ad G 60)), (3, .int i)] [] u') : uk_G G X mL 12 lw_q 1194 [(0, .ref b), (1, .ref (uk_ad G 0)), (2, .ref (uk_ad G 60)), (3, .int i)] [] u := by
  have hts : u.1 2 1 = u.1 60 13 := ht.2.2.2.2.1.1
  have htp : cpy (u.1 3) (u.1 69) (u.1 2 1) := ht.2.2.2.2.1.2.1
  refine g_aload_n dL_law_1194 rfl ?_
  refine cl_L_155 (c := 0) (As := []) rfl (x_X6_torn (G := G) hs hu  10) rfl (by decide) rfl rfl (Nat.le_of_ble_eq_true rfl) dL_law_1195 (fun r1 u1 q1 => ?_)
  obtain ⟨q1, E1⟩ := q1
  obtain ⟨⟨x1, rfl, t1⟩, m1⟩ := q1
  rw [m1]
  refine g_pop dL_law_1198 rfl ?_
  refine g_aload_n dL_law_1199 rfl ?_
  refine cl_L_158 (c := 60) (As := []) rfl (x_X7_torn (G := G) hs hu  10) rfl (by decide) rfl rfl (Nat.le_of_ble_eq_true rfl) dL_law_1200 (fun r2 u2 q2 => ?_)
  obtain ⟨q2, E2⟩ := q2
  obtain ⟨⟨x2, rfl, t2⟩, m2⟩ := q2
  rw [m2]
  refine g_pop dL_law_1203 rfl ?_
  refine g_goto (tgt := 1230) dL_law_1204 (by decide) ?_
  exact K u hu hri ht
set_option maxHeartbeats 4000000 in
theorem lw_c35 {G : uk_D} {X : uk_Cx} {b L : Nat} {xs : Nat → Int32} {i : Int32} {u : uk_Mem} (hs : uk_Sep G) (hX : lw_scr G X b L xs) (h1 : vp_in (i + 1) L) (h2 : vp_in (i + 2) L) (h3 : vp_in (i + 3) L) (h4 : vp_in (i + 4) L) (hu : iv u) (hri : ri u) (ht : REL u) (K : ∀ u', iv u' → ri u' → REL u' → uk_G G X mL 12 lw_q 1230 [(0, .ref b), (1, .ref (uk_ad G 0)), (2, .ref (uk_ad G 60)), (3, .int i)] [] u') : uk_G G X mL 12 lw_q 1207 [(0, .ref b), (1, .ref (uk_ad G 0)), (2, .ref (uk_ad G 60)), (3, .int i)] [] u := by
  have hts : u.1 2 1 = u.1 60 13 := ht.2.2.2.2.1.1
  have htp : cpy (u.1 3) (u.1 69) (u.1 2 1) := ht.2.2.2.2.1.2.1
  refine g_aload_n dL_law_1207 rfl ?_
  refine g_aload_n dL_law_1208 rfl ?_
  refine g_iload_n dL_law_1209 rfl ?_
  refine g_iconst (v := 1) dL_law_1210 (by decide) ?_
  refine g_iadd dL_law_1211 ?_
  refine g_sld hX h1 dL_law_1212 ?_
  refine cl_L_159 (c := 0) (As := [.int (xs (i + 1).toNatClampNeg)]) rfl (x_X6_count (G := G) hs hu (xs (i + 1).toNatClampNeg) 9) rfl (by decide) rfl rfl (Nat.le_of_ble_eq_true rfl) dL_law_1213 (fun r1 u1 q1 => ?_)
  obtain ⟨q1, E1⟩ := q1
  obtain ⟨⟨x1, rfl, t1⟩, m1⟩ := q1
  rw [m1]
  refine g_pop dL_law_1216 rfl ?_
  refine g_aload_n dL_law_1217 rfl ?_
  refine g_aload_n dL_law_1218 rfl ?_
  refine g_iload_n dL_law_1219 rfl ?_
  refine g_iconst (v := 1) dL_law_1220 (by decide) ?_
  refine g_iadd dL_law_1221 ?_
  refine g_sld hX h1 dL_law_1222 ?_
  refine cl_L_162 (c := 60) (As := [.int (xs (i + 1).toNatClampNeg)]) rfl (x_X7_count (G := G) hs hu hri (xs (i + 1).toNatClampNeg) 9) rfl (by decide) rfl rfl (Nat.le_of_ble_eq_true rfl) dL_law_1223 (fun r2 u2 q2 => ?_)
  obtain ⟨q2, E2⟩ := q2
  obtain ⟨⟨x2, rfl, t2⟩, m2⟩ := q2
  obtain ⟨hv2, g2, ri2⟩ := m2
  have ht2 : REL u2 := REL_fk ht g2 (by decide) (by decide)
  refine g_pop dL_law_1226 rfl ?_
  refine g_goto (tgt := 1230) dL_law_1227 (by decide) ?_
  exact K u2 hv2 ri2 ht2
set_option maxHeartbeats 4000000 in
theorem lw_loop {G : uk_D} {X : uk_Cx} {b L : Nat} {xs : Nat → Int32} (hs : uk_Sep G) (hX : lw_scr G X b L xs) (hL : L ≤ 2560) : ∀ i : Int32, 0 ≤ i → i ≤ 2565 → ∀ u, iv u → ri u → REL u → uk_G G X mL 12 lw_q 18 [(0, .ref b), (1, .ref (uk_ad G 0)), (2, .ref (uk_ad G 60)), (3, .int i)] [] u := by
  refine uk_ups 2565 ?_
  intro i a0 a1 ih u hu hri ht
  refine g_iload_n dL_law_18 rfl ?_
  refine g_aload_n dL_law_19 rfl ?_
  refine g_scl hX dL_law_20 ?_
  refine g_iconst (v := 5) dL_law_21 (by decide) ?_
  refine g_isub dL_law_22 ?_
  refine g_topi (fun y ey => ?_)
  have b0 : 0 ≤ nI L := nI_pos' (by omega)
  have b1 : nI L ≤ 2560 := nI_le (a := L) (b := 2560) hL (by omega)
  have e1 : y = nI L - 5 := ey
  clear ey
  generalize hl : nI L = l at *
  refine g_icmp_gt (tgt := 1236) dL_law_23 (by decide) (fun c => ?_) (fun c => ?_)
  · refine g_iconst (v := 1) dL_law_1236 (by decide) ?_
    exact g_iret (ty := .boolean) dL_law_1237 rfl rfl rfl
  · have v0 : vp_in i L := lw_vin a0 (by rw [hl]; lia) (by omega)
    have v1 : vp_in (i + 1) L := lw_vin (by lia) (by rw [hl]; lia) (by omega)
    have v2 : vp_in (i + 2) L := lw_vin (by lia) (by rw [hl]; lia) (by omega)
    have v3 : vp_in (i + 3) L := lw_vin (by lia) (by rw [hl]; lia) (by omega)
    have v4 : vp_in (i + 4) L := lw_vin (by lia) (by rw [hl]; lia) (by omega)
    have K : ∀ u', iv u' → ri u' → REL u' → uk_G G X mL 12 lw_q 1230 [(0, .ref b), (1, .ref (uk_ad G 0)), (2, .ref (uk_ad G 60)), (3, .int i)] [] u' := by
      intro u' k1 k2 k3
      refine g_iinc (v := i + 5) dL_law_1230 rfl rfl (by decide) ?_
      refine g_goto (tgt := 18) dL_law_1233 (by decide) ?_
      refine g_pick (lv' := [(0, .ref b), (1, .ref (uk_ad G 0)), (2, .ref (uk_ad G 60)), (3, .int (i + 5))]) [0, 1, 2, 3] rfl ?_
      exact ih (i + 5) (by lia) (by lia) u' k1 k2 k3
    refine g_aload_n dL_law_26 rfl ?_
    refine g_iload_n dL_law_27 rfl ?_
    refine g_sld hX v0 dL_law_28 ?_
    refine g_bipush (v := 63) dL_law_29 (by decide) ?_
    refine g_iand dL_law_31 ?_
    refine g_topi (fun z ez => ?_)
    clear ez
    by_cases c0 : z < 0 ∨ 35 < z
    · refine g_tabOut (tgt := 1230) dL_law_32 (uk_swo 0 35 rfl rfl c0) (by decide) ?_
      exact K u hu hri ht
    · obtain ⟨j, hj, rfl⟩ := nI_of2 (x := z) (M := 35) (n := 35) rfl (fun q => c0 (Or.inl q)) (by lia)
      rcases (show j = 0 ∨ j = 1 ∨ j = 2 ∨ j = 3 ∨ j = 4 ∨ j = 5 ∨ j = 6 ∨ j = 7 ∨ j = 8 ∨ j = 9 ∨ j = 10 ∨ j = 11 ∨ j = 12 ∨ j = 13 ∨ j = 14 ∨ j = 15 ∨ j = 16 ∨ j = 17 ∨ j = 18 ∨ j = 19 ∨ j = 20 ∨ j = 21 ∨ j = 22 ∨ j = 23 ∨ j = 24 ∨ j = 25 ∨ j = 26 ∨ j = 27 ∨ j = 28 ∨ j = 29 ∨ j = 30 ∨ j = 31 ∨ j = 32 ∨ j = 33 ∨ j = 34 ∨ j = 35 by omega) with rfl | rfl | rfl | rfl | rfl | rfl | rfl | rfl | rfl | rfl | rfl | rfl | rfl | rfl | rfl | rfl | rfl | rfl | rfl | rfl | rfl | rfl | rfl | rfl | rfl | rfl | rfl | rfl | rfl | rfl | rfl | rfl | rfl | rfl | rfl | rfl
      · refine g_tabIn (off := 160) (tgt := 192) dL_law_32 (by decide) (by decide) rfl (by decide) ?_
        exact lw_c0 hs hX v1 v2 v3 v4 hu hri ht K
      · refine g_tabIn (off := 183) (tgt := 215) dL_law_32 (by decide) (by decide) rfl (by decide) ?_
        exact lw_c1 hs hX v1 v2 v3 v4 hu hri ht K
      · refine g_tabIn (off := 206) (tgt := 238) dL_law_32 (by decide) (by decide) rfl (by decide) ?_
        exact lw_c2 hs hX v1 v2 v3 v4 hu hri ht K
      · refine g_tabIn (off := 219) (tgt := 251) dL_law_32 (by decide) (by decide) rfl (by decide) ?_
        exact lw_c3 hs hX v1 v2 v3 v4 hu hri ht K
      · refine g_tabIn (off := 232) (tgt := 264) dL_law_32 (by decide) (by decide) rfl (by decide) ?_
        exact lw_c4 hs hX v1 v2 v3 v4 hu hri ht K
      · refine g_tabIn (off := 255) (tgt := 287) dL_law_32 (by decide) (by decide) rfl (by decide) ?_
        exact lw_c5 hs hX v1 v2 v3 v4 hu hri ht K
      · refine g_tabIn (off := 288) (tgt := 320) dL_law_32 (by decide) (by decide) rfl (by decide) ?_
        exact lw_c6 hs hX v1 v2 v3 v4 hu hri ht K
      · refine g_tabIn (off := 321) (tgt := 353) dL_law_32 (by decide) (by decide) rfl (by decide) ?_
        exact lw_c7 hs hX v1 v2 v3 v4 hu hri ht K
      · refine g_tabIn (off := 354) (tgt := 386) dL_law_32 (by decide) (by decide) rfl (by decide) ?_
        exact lw_c8 hs hX v1 v2 v3 v4 hu hri ht K
      · refine g_tabIn (off := 387) (tgt := 419) dL_law_32 (by decide) (by decide) rfl (by decide) ?_
        exact lw_c9 hs hX v1 v2 v3 v4 hu hri ht K
      · refine g_tabIn (off := 420) (tgt := 452) dL_law_32 (by decide) (by decide) rfl (by decide) ?_
        exact lw_c10 hs hX v1 v2 v3 v4 hu hri ht K
      · refine g_tabIn (off := 443) (tgt := 475) dL_law_32 (by decide) (by decide) rfl (by decide) ?_
        exact lw_c11 hs hX v1 v2 v3 v4 hu hri ht K
      · refine g_tabIn (off := 466) (tgt := 498) dL_law_32 (by decide) (by decide) rfl (by decide) ?_
        exact lw_c12 hs hX v1 v2 v3 v4 hu hri ht K
      · refine g_tabIn (off := 489) (tgt := 521) dL_law_32 (by decide) (by decide) rfl (by decide) ?_
        exact lw_c13 hs hX v1 v2 v3 v4 hu hri ht K
      · refine g_tabIn (off := 512) (tgt := 544) dL_law_32 (by decide) (by decide) rfl (by decide) ?_
        exact lw_c14 hs hX v1 v2 v3 v4 hu hri ht K
      · refine g_tabIn (off := 545) (tgt := 577) dL_law_32 (by decide) (by decide) rfl (by decide) ?_
        exact lw_c15 hs hX v1 v2 v3 v4 hu hri ht K
      · refine g_tabIn (off := 568) (tgt := 600) dL_law_32 (by decide) (by decide) rfl (by decide) ?_
        exact lw_c16 hs hX v1 v2 v3 v4 hu hri ht K
      · refine g_tabIn (off := 601) (tgt := 633) dL_law_32 (by decide) (by decide) rfl (by decide) ?_
        exact lw_c17 hs hX v1 v2 v3 v4 hu hri ht K
      · refine g_tabIn (off := 634) (tgt := 666) dL_law_32 (by decide) (by decide) rfl (by decide) ?_
        exact lw_c18 hs hX v1 v2 v3 v4 hu hri ht K
      · refine g_tabIn (off := 677) (tgt := 709) dL_law_32 (by decide) (by decide) rfl (by decide) ?_
        exact lw_c19 hs hX v1 v2 v3 v4 hu hri ht K
      · refine g_tabIn (off := 710) (tgt := 742) dL_law_32 (by decide) (by decide) rfl (by decide) ?_
        exact lw_c20 hs hX v1 v2 v3 v4 hu hri ht K
      · refine g_tabIn (off := 733) (tgt := 765) dL_law_32 (by decide) (by decide) rfl (by decide) ?_
        exact lw_c21 hs hX v1 v2 v3 v4 hu hri ht K
      · refine g_tabIn (off := 786) (tgt := 818) dL_law_32 (by decide) (by decide) rfl (by decide) ?_
        exact lw_c22 hs hX v1 v2 v3 v4 hu hri ht K
      · refine g_tabIn (off := 819) (tgt := 851) dL_law_32 (by decide) (by decide) rfl (by decide) ?_
        exact lw_c23 hs hX v1 v2 v3 v4 hu hri ht K
      · refine g_tabIn (off := 852) (tgt := 884) dL_law_32 (by decide) (by decide) rfl (by decide) ?_
        exact lw_c24 hs hX v1 v2 v3 v4 hu hri ht K
      · refine g_tabIn (off := 875) (tgt := 907) dL_law_32 (by decide) (by decide) rfl (by decide) ?_
        exact lw_c25 hs hX v1 v2 v3 v4 hu hri ht K
      · refine g_tabIn (off := 898) (tgt := 930) dL_law_32 (by decide) (by decide) rfl (by decide) ?_
        exact lw_c26 hs hX v1 v2 v3 v4 hu hri ht K
      · refine g_tabIn (off := 911) (tgt := 943) dL_law_32 (by decide) (by decide) rfl (by decide) ?_
        exact lw_c27 hs hX v1 v2 v3 v4 hu hri ht K
      · refine g_tabIn (off := 934) (tgt := 966) dL_law_32 (by decide) (by decide) rfl (by decide) ?_
        exact lw_c28 hs hX v1 v2 v3 v4 hu hri ht K
      · refine g_tabIn (off := 977) (tgt := 1009) dL_law_32 (by decide) (by decide) rfl (by decide) ?_
        exact lw_c29 hs hX v1 v2 v3 v4 hu hri ht K
      · refine g_tabIn (off := 1000) (tgt := 1032) dL_law_32 (by decide) (by decide) rfl (by decide) ?_
        exact lw_c30 hs hX v1 v2 v3 v4 hu hri ht K
      · refine g_tabIn (off := 1023) (tgt := 1055) dL_law_32 (by decide) (by decide) rfl (by decide) ?_
        exact lw_c31 hs hX v1 v2 v3 v4 hu hri ht K
      · refine g_tabIn (off := 1066) (tgt := 1098) dL_law_32 (by decide) (by decide) rfl (by decide) ?_
        exact lw_c32 hs hX v1 v2 v3 v4 hu hri ht K
      · refine g_tabIn (off := 1109) (tgt := 1141) dL_law_32 (by decide) (by decide) rfl (by decide) ?_
        exact lw_c33 hs hX v1 v2 v3 v4 hu hri ht K
      · refine g_tabIn (off := 1162) (tgt := 1194) dL_law_32 (by decide) (by decide) rfl (by decide) ?_
        exact lw_c34 hs hX v1 v2 v3 v4 hu hri ht K
      · refine g_tabIn (off := 1175) (tgt := 1207) dL_law_32 (by decide) (by decide) rfl (by decide) ?_
        exact lw_c35 hs hX v1 v2 v3 v4 hu hri ht K
