/-! how often a thing lies in a row -/
def cn (b : Nat) : List Nat → Nat
  | [] => 0
  | x :: l => (if x = b then 1 else 0) + cn b l
theorem cn_0 {b : Nat} {l : List Nat} : cn b l = 0 ↔ b ∉ l := by
  induction l with
  | nil => simp [cn]
  | cons x l ih =>
    simp only [cn, List.mem_cons, not_or]
    by_cases e : x = b
    · rw [if_pos e]
      constructor
      · intro z; omega
      · intro z; exact absurd e.symm z.1
    · rw [if_neg e, Nat.zero_add, ih]
      constructor
      · intro z; exact ⟨fun w => e w.symm, z⟩
      · intro z; exact z.2
theorem drop_c {l : List Nat} {p : Nat} (h : p < l.length) : l.drop p = l.getD p 0 :: l.drop (p + 1) := by
  rw [List.getD_eq_getElem?_getD, List.getElem?_eq_getElem h]
  exact List.drop_eq_getElem_cons h
theorem ci_l {v : uk_Mem} {l : List Nat} {b : Nat} (r1 : v.1 60 22 = nI l.length) (r2 : ∀ i, i < l.length → v.1 71 i = nI (l.getD i 0)) (hl : l.length ≤ 1000) (h8 : ∀ y, y ∈ l → y < 8) (hb : b < 8) : ∀ (K p a : Nat), l.length < p + K → p ≤ l.length → l_X7_countIn_4 v (nI b) K (nI p) (nI a) = nI (a + cn b (l.drop p)) := by
  intro K
  induction K with
  | zero => intro p a h1 h2; omega
  | succ K ih =>
    intro p a h1 h2
    rw [l_X7_countIn_4]
    dsimp only
    rw [r1]
    by_cases e : p = l.length
    · rw [if_pos (by rw [e]; exact Int32.le_refl _), e, List.drop_length]
      rfl
    · have hp : p < l.length := by omega
      rw [if_neg (nI_ge hp (by omega)), nI_clamp (by omega), r2 p hp, drop_c hp, nI_1]
      have fl0 : ∀ m : uk_Mem, e_X7_flag m 0 = 0 := fun m => if_pos rfl
      have fl1 : ∀ m : uk_Mem, e_X7_flag m 1 = 1 := fun m => if_neg (by decide)
      rw [fl0, fl1, nI_1, show nI a + 0 = nI a by grind]
      have hy := h8 _ (mem_getD hp)
      by_cases q : l.getD p 0 = b
      · rw [if_pos (by rw [q]), ih (p + 1) (a + 1) (by omega) (by omega)]
        simp only [cn]
        rw [if_pos q, Nat.add_assoc]
      · rw [if_neg (fun z => q ((nI_eq (by omega) (by omega)).mp z)), ih (p + 1) a (by omega) (by omega)]
        simp only [cn]
        rw [if_neg q, Nat.zero_add]
theorem ci_e {v : uk_Mem} {N : Nat} {l : List Nat} {h : Nat → Int32} {b : Nat} (rl : RLs v N l h) (hl : l.length ≤ 1000) (h8 : ∀ y, y ∈ l → y < 8) (hb : b < 8) : e_X7_countIn v (nI b) = nI (cn b l) := by
  have := ci_l rl.1 rl.2.1 hl h8 hb ee_K 0 0 (by unfold ee_K; omega) (by omega)
  rw [List.drop_zero, Nat.zero_add] at this
  exact this
/-! how they begin -/
theorem start_l {m : Int32} : ∀ (K i : Nat) (w : uk_Mem), 8 < i + K → i ≤ 8 → ∃ w' : uk_Mem, l_X1_start_17 m K (nI i) w = e_X1_putWaiting w' m ∧ (∀ c, ¬ c = 43 → ¬ c = 44 → w'.1 c = w.1 c) ∧ (∀ j, w'.1 43 j = if i ≤ j ∧ j < 8 then -4 else w.1 43 j) ∧ ∀ j, w'.1 44 j = if i ≤ j ∧ j < 8 then 0 else w.1 44 j := by
  intro K
  induction K with
  | zero => intro i w h1 h2; omega
  | succ K ih =>
    intro i w h1 h2
    rw [l_X1_start_17]
    by_cases e : i = 8
    · subst e
      rw [if_pos (show (8 : Int32) ≤ nI 8 from by decide)]
      exact ⟨w, rfl, fun _ _ _ => rfl, fun j => by rw [if_neg (by omega)], fun j => by rw [if_neg (by omega)]⟩
    · rw [if_neg (show ¬ (8 : Int32) ≤ nI i from nI_ge (b := 8) (by omega) (by omega)), nI_clamp (by omega), nI_1]
      dsimp only
      obtain ⟨w', a, b, c, d⟩ := ih (i + 1) (uk_up (uk_up w 43 i (-4)) 44 i 0) (by omega) (by omega)
      refine ⟨w', a, fun q h1 h2 => (b q h1 h2).trans (by rw [uk_up_oc h2, uk_up_oc h1]), fun j => ?_, fun j => ?_⟩
      · rw [c j, uk_up_oc (by decide), uk_up_at]
        by_cases q : j = i
        · rw [if_neg (by omega), if_pos ⟨rfl, q⟩, if_pos (by omega)]
        · by_cases q2 : i + 1 ≤ j ∧ j < 8
          · rw [if_pos q2, if_pos (by omega)]
          · rw [if_neg q2, if_neg (fun z => q z.2), if_neg (by omega)]
      · rw [d j, uk_up_at, uk_up_oc (by decide)]
        by_cases q : j = i
        · rw [if_neg (by omega), if_pos ⟨rfl, q⟩, if_pos (by omega)]
        · by_cases q2 : i + 1 ≤ j ∧ j < 8
          · rw [if_pos q2, if_pos (by omega)]
          · rw [if_neg q2, if_neg (fun z => q z.2), if_neg (by omega)]
theorem start_e {u : uk_Mem} {m : Nat} (hm : m < 8) : MLs (e_X1_start u (nI m)) [] [m] (fun _ => 0) 0 ∧ (∀ c, ¬ (41 ≤ c ∧ c ≤ 45) → (e_X1_start u (nI m)).1 c = u.1 c) ∧ ∀ j, j < 8 → (e_X1_start u (nI m)).1 43 j = if j = m then 0 else -4 := by
  unfold e_X1_start
  dsimp only
  obtain ⟨w, a, b, c, d⟩ := start_l (m := nI m) ee_K 0 (uk_up (uk_up (uk_up u 41 1 0) 41 2 0) 41 6 0) (by unfold ee_K; omega) (by omega)
  rw [show (0 : Int32) = nI 0 from rfl] at a ⊢
  rw [a]
  have e41 : w.1 41 = (uk_up (uk_up (uk_up u 41 1 0) 41 2 0) 41 6 0).1 41 := b 41 (by decide) (by decide)
  have wm : MLs w [] [] (fun _ => 0) 0 := by
    refine ⟨?_, fun i hi => by simp at hi, ?_, fun i hi => by simp at hi, ?_, fun j hj => by rw [d j, if_pos ⟨by omega, hj⟩]⟩
    · rw [e41, uk_up_at, if_neg (by decide), uk_up_at, if_neg (by decide), uk_up_at, if_pos ⟨rfl, rfl⟩]
      rfl
    · rw [e41, uk_up_at, if_pos ⟨rfl, rfl⟩]
      rfl
    · rw [e41, uk_up_at, if_neg (by decide), uk_up_at, if_pos ⟨rfl, rfl⟩]
      rfl
  obtain ⟨p1, p2, p3⟩ := pw_e (x := m) wm (by simp) hm
  refine ⟨p1, fun q hq => ?_, fun j hj => ?_⟩
  · rw [p2 q (by omega) (by omega) (by omega), b q (by omega) (by omega), uk_up_oc (by omega), uk_up_oc (by omega), uk_up_oc (by omega)]
  · have cm : w.1 43 m = -4 := by rw [c m, if_pos ⟨by omega, hm⟩]
    have cj : w.1 43 j = -4 := by rw [c j, if_pos ⟨by omega, hj⟩]
    rw [p3]
    unfold ftu
    rw [cm, cj]
    by_cases e : j = m
    · rw [if_pos ⟨e, rfl⟩, if_pos e]
    · rw [if_neg (fun z => e z.1), if_neg e]
theorem lays_l {m : Int32} {N : Nat} (n8 : N ≤ 8) : ∀ (K i : Nat) (w : uk_Mem), N < i + K → i ≤ N → w.1 60 3 = nI N → (∀ j, (l_X7_lays_6 m K (nI i) w).1 71 j = if j = 0 then m else w.1 71 j) ∧ (∀ j, (l_X7_lays_6 m K (nI i) w).1 60 j = if j = 22 then 1 else w.1 60 j) ∧ (∀ j, (l_X7_lays_6 m K (nI i) w).1 62 j = if i + 8 ≤ j ∧ j < N + 8 then 0 else w.1 62 j) ∧ ∀ c, ¬ c = 60 → ¬ c = 62 → ¬ c = 71 → (l_X7_lays_6 m K (nI i) w).1 c = w.1 c := by
  intro K
  induction K with
  | zero => intro i w h1 h2; omega
  | succ K ih =>
    intro i w h1 h2 h3
    rw [l_X7_lays_6]
    dsimp only
    rw [h3]
    by_cases e : i = N
    · subst e
      rw [if_pos (Int32.le_refl _), show (0 : Int32).toNatClampNeg = 0 from rfl]
      refine ⟨fun j => ?_, fun j => ?_, fun j => ?_, fun c a1 a2 a3 => ?_⟩
      · rw [uk_up_oc (by decide), uk_up_at]
        simp
      · rw [uk_up_at, uk_up_oc (by decide)]
        simp
      · rw [uk_up_oc (by decide), uk_up_oc (by decide), if_neg (by omega)]
      · rw [uk_up_oc a1, uk_up_oc a3]
    · rw [if_neg (nI_ge (by omega) (by omega)), n8' (by omega), nI_1]
      obtain ⟨a, b, c, d⟩ := ih (i + 1) (uk_up w 62 (i + 8) 0) (by omega) (by omega) (by rw [uk_up_oc (by decide)]; exact h3)
      refine ⟨fun j => by rw [a j, uk_up_oc (by decide)], fun j => by rw [b j, uk_up_oc (by decide)], fun j => ?_, fun q h1 h2 h3 => by rw [d q h1 h2 h3, uk_up_oc h2]⟩
      rw [c j, uk_up_at]
      by_cases q : j = i + 8
      · rw [if_neg (by omega), if_pos ⟨rfl, q⟩, if_pos (by omega)]
      · by_cases q2 : i + 1 + 8 ≤ j ∧ j < N + 8
        · rw [if_pos q2, if_pos (by omega)]
        · rw [if_neg q2, if_neg (fun z => q z.2), if_neg (by omega)]
theorem nn {a : Int32} (h : 0 ≤ a) : a = nI a.toNatClampNeg := by
  obtain ⟨j, hj, rfl⟩ := nI_of (x := a) (by lia)
  rw [nI_clamp hj]
/-- what the kitchen says of its stuffs -/
def kdv (v : uk_Mem) : Nat → Int32 := fun x => v.1 61 (x + 32)
def pav (v : uk_Mem) : Nat → Nat := fun x => (v.1 64 x).toNatClampNeg
def pbv (v : uk_Mem) : Nat → Nat := fun x => (v.1 65 x).toNatClampNeg
theorem mk_e {u v : uk_Mem} {N : Nat} (n8 : N ≤ 8) (hN : v.1 60 3 = nI N) (hri : ri v) (hK : KR u v 13 61 0) : MK N (kdv v) (pav v) (pbv v) ∧ CK u N (kdv v) (pav v) (pbv v) ∧ ∀ x, x < N → ¬ kdv v x = 4 → v.1 64 x = nI (pav v x) ∧ v.1 65 x = nI (pbv v x) := by
  have hr := hri.1
  have key : ∀ x, x < N → ¬ kdv v x = 4 → (0 ≤ v.1 64 x ∧ v.1 64 x < nI x ∧ 0 ≤ v.1 65 x ∧ v.1 65 x < nI x) := fun x hx hk => by
    have := hr (nI x) (nI_pos' (by omega)) (by rw [hN]; exact nI_lt hx (by omega)) (nI_le (a := x) (b := 7) (by omega) (by omega))
    rw [n32 (by omega), nI_clamp (by omega)] at this
    exact this.resolve_left hk
  have par : ∀ x, x < N → ¬ kdv v x = 4 → v.1 64 x = nI (pav v x) ∧ v.1 65 x = nI (pbv v x) := fun x hx hk => ⟨nn (key x hx hk).1, nn (key x hx hk).2.2.1⟩
  refine ⟨⟨n8, fun x hx => ?_⟩, fun x hx => ?_, par⟩
  · by_cases hk : kdv v x = 4
    · exact Or.inl hk
    · obtain ⟨a0, a1, b0, b1⟩ := key x hx hk
      have ca := uk_cll a0 a1
      have cb := uk_cll b0 b1
      rw [nI_clamp (by omega)] at ca cb
      exact Or.inr ⟨ca, cb⟩
  · obtain ⟨j1, -, -, -, -, j6⟩ := hK.2.2.2.2.1 x (by rw [hN, nI_clamp (by omega)]; exact hx)
    refine ⟨j1, fun hk => ?_⟩
    have p := par x hx hk
    exact ⟨(j6 hk).1.trans p.1, (j6 hk).2.trans p.2⟩
/-- the reference's row at first -/
theorem lays_e {v : uk_Mem} {N m : Nat} (n8 : N ≤ 8) (hN : v.1 60 3 = nI N) (par : ∀ x, x < N → ¬ kdv v x = 4 → v.1 64 x = nI (pav v x) ∧ v.1 65 x = nI (pbv v x)) : RKs (e_X7_lays v (nI m)) N (kdv v) (pav v) (pbv v) ∧ RLs (e_X7_lays v (nI m)) N [m] (fun _ => 0) ∧ (∀ c, ¬ c = 60 → ¬ c = 62 → ¬ c = 71 → (e_X7_lays v (nI m)).1 c = v.1 c) ∧ ∀ j, ¬ j = 22 → (e_X7_lays v (nI m)).1 60 j = v.1 60 j := by
  have s60 : (e_X7_starts v).1 60 = v.1 60 := starts_c (by decide)
  obtain ⟨a, b, c, d⟩ := lays_l (m := nI m) n8 ee_K 0 (e_X7_starts v) (by unfold ee_K; omega) (by omega) (by rw [s60]; exact hN)
  have e : e_X7_lays v (nI m) = l_X7_lays_6 (nI m) ee_K (nI 0) (e_X7_starts v) := rfl
  rw [e]
  refine ⟨fun x hx => ?_, ⟨?_, fun i hi => ?_, fun j hj => ?_⟩, fun q h1 h2 h3 => by rw [d q h1 h2 h3, starts_c h2], fun j hj => by rw [b j, if_neg hj, s60]⟩
  · rw [c, if_neg (by omega), starts_j (by omega), d 64 (by decide) (by decide) (by decide), d 65 (by decide) (by decide) (by decide), starts_c (by decide), starts_c (by decide)]
    exact ⟨rfl, par x hx⟩
  · rw [b, if_pos rfl]
    rfl
  · simp only [List.length_singleton] at hi
    rw [a, if_pos (by omega), show i = 0 by omega]
    rfl
  · rw [c, if_pos (by omega)]
theorem GD_1 {N m : Nat} {kd : Nat → Int32} (n8 : N ≤ 8) (hm : m < N) : GD N kd [] [m] 0 := by
  have p : 2 ^ m ≤ 2 ^ 7 := Nat.pow_le_pow_right (by omega) (by omega)
  have q : (2 : Nat) ^ 7 = 128 := rfl
  refine ⟨fun y hy => ?_, fun y hy => by simp at hy, ?_, ?_, fun i hi => ?_⟩
  · simp only [List.nil_append, List.mem_singleton] at hy
    omega
  · simp only [List.nil_append, po2]
    omega
  · simp only [pof]
    omega
  · simp only [List.length_singleton] at hi ⊢
    rw [show i = 0 by omega, if_pos rfl, List.getD_cons_zero]
    omega
/-- both mills leave the same row -/
theorem mills_e {u v : uk_Mem} {N m n n7 : Nat} (hn : (n7 = n ∧ n ≤ 127) ∨ (n = 127 ∧ n7 = 128)) (n8 : N ≤ 8) (hN : v.1 60 3 = nI N) (hri : ri v) (hK : KR u v 13 61 0) (hm : m < N) : ∃ (R : List Nat) (T : Nat) (h : Nat → Int32), FN (e_X1_grind u (nI m) (nI n)) R T ∧ RLs (e_X7_mills v (nI m) (nI n7)).2 N R h ∧ (e_X7_mills v (nI m) (nI n7)).1 = nI T ∧ (∀ y, y ∈ R → y < N) ∧ R.length ≤ 128 ∧ T ≤ 127 ∧ (∀ c, ¬ c = 60 → ¬ c = 62 → ¬ c = 71 → (e_X7_mills v (nI m) (nI n7)).2.1 c = v.1 c) ∧ (∀ j, ¬ j = 22 → (e_X7_mills v (nI m) (nI n7)).2.1 60 j = v.1 60 j) ∧ ∀ c, ¬ (41 ≤ c ∧ c ≤ 45) → (e_X1_grind u (nI m) (nI n)).1 c = u.1 c := by
  obtain ⟨mk, ck, par⟩ := mk_e n8 hN hri hK
  obtain ⟨s1, s2, s3⟩ := start_e (u := u) (m := m) (by omega)
  obtain ⟨l1, l2, l3, l4⟩ := lays_e (m := m) n8 hN par
  obtain ⟨R, T, h, c1, c2, c3, c4, c5, c6, c7, c8, c9⟩ := mill_l mk hn ee_K [] [m] (fun _ => 0) 0 ee_K (e_X1_start u (nI m)) (e_X7_lays v (nI m)) (by unfold ee_K; omega) (by unfold ee_K; omega) (by omega) (GD_1 n8 hm) (CK_cg ck (s2 14 (by omega)) (s2 15 (by omega)) (s2 16 (by omega))) l1 s1 l2
  exact ⟨R, T, h, c1, c2, c3, c4, c5, c6, fun c h1 h2 h3 => (c7 c h1 h2 h3).trans (l3 c h1 h2 h3), fun j hj => (c8 j hj).trans (l4 j hj), fun c hc => (c9 c hc).trans (s2 c hc)⟩
theorem mills_h {u v : uk_Mem} {N m : Nat} (n8 : N ≤ 8) (hN : v.1 60 3 = nI N) (hri : ri v) (hK : KR u v 13 61 0) (hm : m < N) : ∃ (R : List Nat) (T : Nat) (h : Nat → Int32), FN (e_X1_grind u (nI m) 127) R T ∧ RLs (h_X7_mills v (nI m)).2 N R h ∧ (h_X7_mills v (nI m)).1 = nI T ∧ (∀ y, y ∈ R → y < N) ∧ R.length ≤ 128 ∧ T ≤ 127 ∧ (∀ c, ¬ c = 60 → ¬ c = 62 → ¬ c = 71 → (h_X7_mills v (nI m)).2.1 c = v.1 c) ∧ (∀ j, ¬ j = 22 → (h_X7_mills v (nI m)).2.1 60 j = v.1 60 j) ∧ ∀ c, ¬ (41 ≤ c ∧ c ≤ 45) → (e_X1_grind u (nI m) 127).1 c = u.1 c := by
  have q := mills_e (n := 127) (n7 := 128) (Or.inr ⟨rfl, rfl⟩) n8 hN hri hK hm
  rw [show nI 127 = (127 : Int32) by decide, show nI 128 = (128 : Int32) by decide] at q
  rw [h_X7_mills_eq]
  exact q
theorem NN {v : uk_Mem} (hv : iv v) : ∃ N : Nat, N ≤ 8 ∧ v.1 60 3 = nI N := by
  have hn : 0 ≤ v.1 60 3 ∧ v.1 60 3 ≤ 8 := iv_at hv 60 3 rfl
  obtain ⟨j, hj, e⟩ := nI_of2 (x := v.1 60 3) (M := 8) (n := 8) rfl (by lia) hn.2
  exact ⟨j, hj, e⟩