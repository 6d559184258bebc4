/-! the mill: lists of things, what lies (D), what waits (W, the first one first) -/
def po2 : List Nat → Nat
  | [] => 0
  | x :: l => 2 ^ x + po2 l
def pof : List Nat → Nat
  | [] => 0
  | x :: l => (2 ^ x - 1) + pof l
theorem po2_app (a b : List Nat) : po2 (a ++ b) = po2 a + po2 b := by
  induction a with
  | nil => simp [po2]
  | cons x a ih => simp only [List.cons_append, po2, ih]; omega
theorem po2_len (l : List Nat) : l.length ≤ po2 l := by
  induction l with
  | nil => simp [po2]
  | cons x l ih =>
    have := Nat.two_pow_pos x
    simp only [List.length_cons, po2]
    omega
theorem pow_ab {a b x : Nat} (ha : a < x) (hb : b < x) : 2 ^ a + 2 ^ b ≤ 2 ^ x := by
  have h1 : 2 ^ a ≤ 2 ^ (x - 1) := Nat.pow_le_pow_right (by omega) (by omega)
  have h2 : 2 ^ b ≤ 2 ^ (x - 1) := Nat.pow_le_pow_right (by omega) (by omega)
  have h3 : 2 ^ x = 2 ^ (x - 1) * 2 := by rw [← Nat.pow_succ, Nat.succ_eq_add_one, Nat.sub_add_cancel (by omega)]
  omega
theorem pow_a {a x : Nat} (ha : a < x) : 2 ^ a + 1 ≤ 2 ^ x := by
  have h1 : 2 ^ a ≤ 2 ^ (x - 1) := Nat.pow_le_pow_right (by omega) (by omega)
  have h3 : 2 ^ x = 2 ^ (x - 1) * 2 := by rw [← Nat.pow_succ, Nat.succ_eq_add_one, Nat.sub_add_cancel (by omega)]
  have := Nat.two_pow_pos (x - 1)
  omega
def MK (N : Nat) (kd : Nat → Int32) (pA pB : Nat → Nat) : Prop := N ≤ 8 ∧ ∀ x, x < N → kd x = 4 ∨ (pA x < x ∧ pB x < x)
abbrev un (kd : Nat → Int32) (x : Nat) : Prop := kd x = 4 ∨ kd x = 2
abbrev gv (kd h : Nat → Int32) (x : Nat) : Prop := kd x = 0 ∨ (kd x = 3 ∧ h x = 1)
def fl (kd h : Nat → Int32) (x : Nat) : Nat → Int32 := fun j => if j = x ∧ kd x = 3 then 1 - h x else h j
def pas (kd : Nat → Int32) (pA pB : Nat → Nat) (h : Nat → Int32) (x : Nat) : List Nat := if gv kd h x then [pA x, pB x] else [pA x]
/-- how deep it can wait -/
def SK (W : List Nat) : Prop := ∀ i, i < W.length → W.getD i 0 + (W.length - i) ≤ (if i = 0 then 8 else 7)
theorem SK_len {W : List Nat} (h : SK W) : W.length ≤ 8 := by
  rcases Nat.eq_zero_or_pos W.length with z | z
  · omega
  · have := h 0 z
    rw [if_pos rfl] at this
    omega
theorem SK_tl {x : Nat} {W : List Nat} (h : SK (x :: W)) : SK W := fun i hi => by
  have := h (i + 1) (by simp only [List.length_cons]; omega)
  rw [List.getD_cons_succ, List.length_cons, if_neg (by omega)] at this
  split <;> omega
theorem SK_1 {a x : Nat} {W : List Nat} (h : SK (x :: W)) (ha : a < x) : SK (a :: W) := fun i hi => by
  rw [List.length_cons] at hi ⊢
  have := h i (by simp only [List.length_cons]; omega)
  rw [List.length_cons] at this
  rcases i with _ | i
  · rw [List.getD_cons_zero] at this ⊢
    rw [if_pos rfl] at this ⊢
    omega
  · rw [List.getD_cons_succ] at this ⊢
    rw [if_neg (by omega)] at this ⊢
    exact this
theorem SK_2 {a b x : Nat} {W : List Nat} (h : SK (x :: W)) (ha : a < x) (hb : b < x) : SK (a :: b :: W) := fun i hi => by
  have h0 := h 0 (by simp only [List.length_cons]; omega)
  rw [List.getD_cons_zero, if_pos rfl, List.length_cons] at h0
  simp only [List.length_cons] at hi ⊢
  rcases i with _ | i
  · rw [List.getD_cons_zero, if_pos rfl]
    omega
  · rw [List.getD_cons_succ, if_neg (by omega)]
    rcases i with _ | i
    · rw [List.getD_cons_zero]
      omega
    · rw [List.getD_cons_succ]
      have := h (i + 1) (by simp only [List.length_cons]; omega)
      rw [List.getD_cons_succ, List.length_cons, if_neg (by omega)] at this
      omega
/-- a good state of the mill -/
def GD (N : Nat) (kd : Nat → Int32) (D W : List Nat) (t : Nat) : Prop := (∀ y, y ∈ D ++ W → y < N) ∧ (∀ y, y ∈ D → un kd y) ∧ po2 (D ++ W) ≤ 128 ∧ t + pof W ≤ 127 ∧ SK W
theorem GD_lie {N : Nat} {kd : Nat → Int32} {D W : List Nat} {x t : Nat} (g : GD N kd D (x :: W) t) (hu : un kd x) : GD N kd (D ++ [x]) W t := by
  obtain ⟨g1, g2, g3, g4, g5⟩ := g
  refine ⟨fun y hy => g1 y (by simpa [List.append_assoc] using hy), fun y hy => ?_, ?_, ?_, SK_tl g5⟩
  · rcases List.mem_append.mp hy with q | q
    · exact g2 y q
    · rw [List.mem_singleton.mp q]
      exact hu
  · rw [List.append_assoc]
    exact g3
  · simp only [pof] at g4
    omega
theorem GD_turn {N : Nat} {kd : Nat → Int32} {pA pB : Nat → Nat} {h : Nat → Int32} {D W : List Nat} {x t : Nat} (mk : MK N kd pA pB) (g : GD N kd D (x :: W) t) (hu : ¬ un kd x) : GD N kd D (pas kd pA pB h x ++ W) (t + 1) := by
  obtain ⟨g1, g2, g3, g4, g5⟩ := g
  have hx : x < N := g1 x (by simp)
  obtain ⟨ha, hb⟩ := (mk.2 x hx).resolve_left (fun z => hu (Or.inl z))
  have p1 := pow_a ha
  have p2 := pow_ab ha hb
  have q1 := Nat.two_pow_pos (pA x)
  have q2 := Nat.two_pow_pos (pB x)
  rw [po2_app, po2] at g3
  simp only [pof] at g4
  unfold pas
  by_cases z : gv kd h x
  · rw [if_pos z]
    refine ⟨fun y hy => ?_, g2, ?_, ?_, SK_2 g5 ha hb⟩
    · simp only [List.cons_append, List.nil_append, List.mem_append, List.mem_cons] at hy
      rcases hy with q | rfl | rfl | q
      · exact g1 y (by simp [q])
      · omega
      · omega
      · exact g1 y (by simp [q])
    · simp only [List.cons_append, List.nil_append]
      rw [po2_app, po2, po2]
      omega
    · simp only [List.cons_append, List.nil_append, pof]
      omega
  · rw [if_neg z]
    refine ⟨fun y hy => ?_, g2, ?_, ?_, SK_1 g5 ha⟩
    · simp only [List.cons_append, List.nil_append, List.mem_append, List.mem_cons] at hy
      rcases hy with q | rfl | q
      · exact g1 y (by simp [q])
      · omega
      · exact g1 y (by simp [q])
    · simp only [List.cons_append, List.nil_append]
      rw [po2_app, po2]
      omega
    · simp only [List.cons_append, List.nil_append, pof]
      omega
theorem GD_len {N : Nat} {kd : Nat → Int32} {D W : List Nat} {t : Nat} (g : GD N kd D W t) : D.length + W.length ≤ 128 := by
  have := po2_len (D ++ W)
  rw [List.length_append] at this
  exact Nat.le_trans this g.2.2.1
/-- where no turn is left but what lies at 0 waits -/
theorem GD_0 {N : Nat} {kd : Nat → Int32} {pA pB : Nat → Nat} {D W : List Nat} {t : Nat} (mk : MK N kd pA pB) (g : GD N kd D W t) (ht : 127 ≤ t) : ∀ y, y ∈ D ++ W → un kd y := by
  intro y hy
  rcases List.mem_append.mp hy with q | q
  · exact g.2.1 y q
  · have hz : pof W = 0 := by have := g.2.2.2.1; omega
    have key : ∀ l : List Nat, pof l = 0 → ∀ y, y ∈ l → y = 0 := by
      intro l
      induction l with
      | nil => intro _ y hy; simp at hy
      | cons a l ih =>
        intro hl y hy
        simp only [pof] at hl
        rcases List.mem_cons.mp hy with rfl | hy
        · rcases Nat.eq_zero_or_pos y with z | z
          · exact z
          · have := pow_a (a := 0) z
            omega
        · exact ih (by omega) y hy
    have := key W hz y q
    subst this
    rcases mk.2 0 (g.1 0 hy) with z | z
    · exact Or.inl z
    · omega
/-! the class's side -/
def CK (u : uk_Mem) (N : Nat) (kd : Nat → Int32) (pA pB : Nat → Nat) : Prop := ∀ x, x < N → u.1 14 x = kd x ∧ (¬ kd x = 4 → u.1 15 x = nI (pA x) ∧ u.1 16 x = nI (pB x))
def MLs (u : uk_Mem) (D W : List Nat) (h : Nat → Int32) (t : Nat) : Prop := u.1 41 1 = nI D.length ∧ (∀ i, i < D.length → u.1 42 i = nI (D.getD i 0)) ∧ u.1 41 6 = nI W.length ∧ (∀ i, i < W.length → u.1 45 (W.length - 1 - i) = nI (W.getD i 0)) ∧ u.1 41 2 = nI t ∧ ∀ j, j < 8 → u.1 44 j = h j
theorem CK_cg {u u' : uk_Mem} {N : Nat} {kd : Nat → Int32} {pA pB : Nat → Nat} (h : CK u N kd pA pB) (e4 : u'.1 14 = u.1 14) (e5 : u'.1 15 = u.1 15) (e6 : u'.1 16 = u.1 16) : CK u' N kd pA pB := fun x hx => by
  rw [e4, e5, e6]
  exact h x hx
theorem tw_e {u : uk_Mem} {D W : List Nat} {h : Nat → Int32} {x t : Nat} (m : MLs u D (x :: W) h t) (hl : W.length ≤ 100) : (e_X1_takeWaiting u).1 = nI x ∧ MLs (e_X1_takeWaiting u).2 D W h t ∧ (∀ c, ¬ c = 41 → (e_X1_takeWaiting u).2.1 c = u.1 c) := by
  obtain ⟨m1, m2, m3, m4, m5, m6⟩ := m
  have e3 : u.1 41 6 - 1 = nI W.length := by rw [m3, List.length_cons]; exact nI_pred _
  have hc : (nI W.length).toNatClampNeg = W.length := nI_clamp (by omega)
  unfold e_X1_takeWaiting
  dsimp only
  have e6 : (uk_up u 41 6 (nI W.length)).1 41 6 = nI W.length := by rw [uk_up_at, if_pos ⟨rfl, rfl⟩]
  rw [e3, e6, hc]
  refine ⟨?_, ⟨?_, ?_, ?_, ?_, ?_, ?_⟩, fun c hc => uk_up_oc hc⟩
  · rw [uk_up_oc (by decide)]
    have := m4 0 (by simp)
    rw [List.getD_cons_zero, List.length_cons, show W.length + 1 - 1 - 0 = W.length by omega] at this
    exact this
  · rw [uk_up_at, if_neg (by decide)]
    exact m1
  · rw [uk_up_oc (by decide)]
    exact m2
  · rw [uk_up_at, if_pos ⟨rfl, rfl⟩]
  · intro i hi
    rw [uk_up_oc (by decide)]
    have := m4 (i + 1) (by simp only [List.length_cons]; omega)
    rw [List.getD_cons_succ, List.length_cons, show W.length + 1 - 1 - (i + 1) = W.length - 1 - i by omega] at this
    exact this
  · rw [uk_up_at, if_neg (by decide)]
    exact m5
  · rw [uk_up_oc (by decide)]
    exact m6
theorem getD_app1 {D : List Nat} {x i : Nat} (hi : i < D.length + 1) : (D ++ [x]).getD i 0 = if i = D.length then x else D.getD i 0 := by
  by_cases e : i = D.length
  · rw [if_pos e, List.getD_eq_getElem?_getD, List.getElem?_append_right (by omega), e]
    simp
  · rw [if_neg e, List.getD_eq_getElem?_getD, List.getD_eq_getElem?_getD, List.getElem?_append_left (by omega)]
theorem ld_e {u : uk_Mem} {D W : List Nat} {h : Nat → Int32} {x t : Nat} (m : MLs u D W h t) (hl : D.length < 128) : MLs (e_X1_lieDown u (nI x)) (D ++ [x]) W h t ∧ (∀ c, ¬ c = 41 → ¬ c = 42 → (e_X1_lieDown u (nI x)).1 c = u.1 c) := by
  obtain ⟨m1, m2, m3, m4, m5, m6⟩ := m
  have hc : (nI D.length).toNatClampNeg = D.length := nI_clamp (by omega)
  have hg : ¬ (128 : Int32) ≤ nI D.length := by
    rw [show (128 : Int32) = nI 128 from rfl, nI_leI (by omega) (by omega)]
    omega
  unfold e_X1_lieDown
  dsimp only
  rw [m1, if_neg hg, hc]
  have e41 : (uk_up u 42 D.length (nI x)).1 41 1 = nI D.length := by rw [uk_up_oc (by decide)]; exact m1
  rw [e41]
  refine ⟨⟨?_, ?_, ?_, ?_, ?_, ?_⟩, fun c h1 h2 => by rw [uk_up_oc h1, uk_up_oc h2]⟩
  · rw [uk_up_at, if_pos ⟨rfl, rfl⟩, List.length_append]
    exact nI_1 _
  · intro i hi
    rw [List.length_append, List.length_singleton] at hi
    rw [uk_up_oc (by decide), uk_up_at, getD_app1 hi]
    by_cases e : i = D.length
    · rw [if_pos ⟨rfl, e⟩, if_pos e]
    · rw [if_neg (fun z => e z.2), if_neg e]
      exact m2 i (by omega)
  · rw [uk_up_at, if_neg (by decide), uk_up_oc (by decide)]
    exact m3
  · rw [uk_up_oc (by decide), uk_up_oc (by decide)]
    exact m4
  · rw [uk_up_at, if_neg (by decide), uk_up_oc (by decide)]
    exact m5
  · rw [uk_up_oc (by decide), uk_up_oc (by decide)]
    exact m6
/-- when a thing came first -/
def ftu (f : Nat → Int32) (x t : Nat) : Nat → Int32 := fun j => if j = x ∧ f x = -4 then nI t else f j
theorem pw_e {u : uk_Mem} {D W : List Nat} {h : Nat → Int32} {x t : Nat} (m : MLs u D W h t) (hl : W.length < 9) (hx : x < 8) : MLs (e_X1_putWaiting u (nI x)) D (x :: W) h t ∧ (∀ c, ¬ c = 41 → ¬ c = 43 → ¬ c = 45 → (e_X1_putWaiting u (nI x)).1 c = u.1 c) ∧ (e_X1_putWaiting u (nI x)).1 43 = ftu (u.1 43) x t := by
  obtain ⟨m1, m2, m3, m4, m5, m6⟩ := m
  have hc : (nI W.length).toNatClampNeg = W.length := nI_clamp (by omega)
  have hcx : (nI x).toNatClampNeg = x := nI_clamp (by omega)
  have hg : ¬ (9 : Int32) ≤ nI W.length := by
    rw [show (9 : Int32) = nI 9 from rfl, nI_leI (by omega) (by omega)]
    omega
  unfold e_X1_putWaiting
  dsimp only
  rw [m3, if_neg hg, hc, hcx]
  have e6 : (uk_up u 45 W.length (nI x)).1 41 6 = nI W.length := by rw [uk_up_oc (by decide)]; exact m3
  rw [e6, nI_1]
  generalize hw : uk_up (uk_up u 45 W.length (nI x)) 41 6 (nI (W.length + 1)) = w
  have w43 : w.1 43 = u.1 43 := by rw [← hw, uk_up_oc (by decide), uk_up_oc (by decide)]
  have w2 : w.1 41 2 = nI t := by rw [← hw, uk_up_at, if_neg (by decide), uk_up_oc (by decide)]; exact m5
  have wo : ∀ c, ¬ c = 41 → ¬ c = 45 → w.1 c = u.1 c := fun c h1 h2 => by rw [← hw, uk_up_oc h1, uk_up_oc h2]
  have wm : MLs w D (x :: W) h t := by
    refine ⟨?_, ?_, ?_, ?_, w2, ?_⟩
    · rw [← hw, uk_up_at, if_neg (by decide), uk_up_oc (by decide)]
      exact m1
    · rw [wo 42 (by decide) (by decide)]
      exact m2
    · rw [← hw, uk_up_at, if_pos ⟨rfl, rfl⟩, List.length_cons]
    · intro i hi
      rw [List.length_cons] at hi ⊢
      rw [← hw, uk_up_oc (by decide), uk_up_at]
      rcases i with _ | i
      · rw [if_pos ⟨rfl, by omega⟩, List.getD_cons_zero]
      · rw [if_neg (by omega), List.getD_cons_succ, show W.length + 1 - 1 - (i + 1) = W.length - 1 - i by omega]
        exact m4 i (by omega)
    · rw [wo 44 (by decide) (by decide)]
      exact m6
  rw [w43, w2]
  by_cases q : u.1 43 x = -4
  · rw [if_pos q]
    refine ⟨?_, fun c h1 h2 h3 => by rw [uk_up_oc h2, wo c h1 h3], ?_⟩
    · obtain ⟨a1, a2, a3, a4, a5, a6⟩ := wm
      exact ⟨by rw [uk_up_oc (by decide)]; exact a1, by rw [uk_up_oc (by decide)]; exact a2, by rw [uk_up_oc (by decide)]; exact a3, by rw [uk_up_oc (by decide)]; exact a4, by rw [uk_up_oc (by decide)]; exact a5, by rw [uk_up_oc (by decide)]; exact a6⟩
    · funext j
      rw [uk_up_at, w43]
      unfold ftu
      by_cases e : j = x
      · rw [if_pos ⟨rfl, e⟩, if_pos ⟨e, q⟩]
      · rw [if_neg (fun z => e z.2), if_neg (fun z => e z.1)]
  · rw [if_neg q]
    refine ⟨wm, fun c h1 h2 h3 => wo c h1 h3, ?_⟩
    funext j
    rw [w43]
    unfold ftu
    rw [if_neg (fun z => q z.2)]
/-- the first turns of all things, when these have come -/
def ftl (f : Nat → Int32) : List Nat → Nat → Nat → Int32
  | [], _ => f
  | x :: l, t => ftu (ftl f l t) x t
theorem gb_e {u : uk_Mem} {kd h : Nat → Int32} {x : Nat} : (e_X0_givesB u (kd x) (h x) = 0) ↔ ¬ gv kd h x := by
  unfold e_X0_givesB gv
  by_cases a : kd x = 0
  · simp [a]
  · by_cases b : kd x = 3
    · by_cases c : h x = 1
      · simp [a, b, c]
      · simp [a, b, c]
    · simp [a, b]
theorem pt_e {u : uk_Mem} {N : Nat} {kd : Nat → Int32} {pA pB : Nat → Nat} {D W : List Nat} {h : Nat → Int32} {x t : Nat} (mk : MK N kd pA pB) (ck : CK u N kd pA pB) (m : MLs u D W h t) (hx : x < N) (hu : ¬ un kd x) (hl : W.length ≤ 7) : MLs (e_X1_part u (nI x) (kd x)) D (pas kd pA pB h x ++ W) (fl kd h x) (t + 1) ∧ (∀ c, ¬ c = 41 → ¬ c = 43 → ¬ c = 44 → ¬ c = 45 → (e_X1_part u (nI x) (kd x)).1 c = u.1 c) ∧ (e_X1_part u (nI x) (kd x)).1 43 = ftl (u.1 43) (pas kd pA pB h x) (t + 1) := by
  obtain ⟨ha, hb⟩ := (mk.2 x hx).resolve_left (fun z => hu (Or.inl z))
  have n8 := mk.1
  have hcx : (nI x).toNatClampNeg = x := nI_clamp (by omega)
  obtain ⟨c1, c2⟩ := ck x hx
  obtain ⟨cA, cB⟩ := c2 (fun z => hu (Or.inl z))
  obtain ⟨m1, m2, m3, m4, m5, m6⟩ := m
  unfold e_X1_part
  dsimp only
  rw [m5, nI_1, hcx]
  generalize hw : uk_up u 41 2 (nI (t + 1)) = w
  have wo : ∀ c, ¬ c = 41 → w.1 c = u.1 c := fun c h1 => by rw [← hw, uk_up_oc h1]
  have wm : MLs w D W h (t + 1) := ⟨by rw [← hw, uk_up_at, if_neg (by decide)]; exact m1, by rw [wo 42 (by decide)]; exact m2, by rw [← hw, uk_up_at, if_neg (by decide)]; exact m3, by rw [wo 45 (by decide)]; exact m4, by rw [← hw, uk_up_at, if_pos ⟨rfl, rfl⟩], by rw [wo 44 (by decide)]; exact m6⟩
  rw [wo 44 (by decide), m6 x (by omega), wo 15 (by decide), wo 16 (by decide), cA, cB]
  -- the half goes over, or not
  have half : ∀ (y : uk_Mem) (Z : List Nat), MLs y D Z h (t + 1) → MLs (if kd x = 3 then uk_up y 44 x (1 - y.1 44 x) else y) D Z (fl kd h x) (t + 1) ∧ (∀ c, ¬ c = 44 → (if kd x = 3 then uk_up y 44 x (1 - y.1 44 x) else y).1 c = y.1 c) := fun y Z hy => by
    obtain ⟨a1, a2, a3, a4, a5, a6⟩ := hy
    by_cases k3 : kd x = 3
    · rw [if_pos k3]
      refine ⟨⟨by rw [uk_up_oc (by decide)]; exact a1, by rw [uk_up_oc (by decide)]; exact a2, by rw [uk_up_oc (by decide)]; exact a3, by rw [uk_up_oc (by decide)]; exact a4, by rw [uk_up_oc (by decide)]; exact a5, fun j hj => ?_⟩, fun c hc => uk_up_oc hc⟩
      rw [uk_up_at]
      unfold fl
      by_cases e : j = x
      · rw [if_pos ⟨rfl, e⟩, if_pos ⟨e, k3⟩, a6 x (by omega)]
      · rw [if_neg (fun z => e z.2), if_neg (fun z => e z.1)]
        exact a6 j hj
    · rw [if_neg k3]
      refine ⟨⟨a1, a2, a3, a4, a5, fun j hj => ?_⟩, fun c _ => rfl⟩
      unfold fl
      rw [if_neg (fun z => k3 z.2)]
      exact a6 j hj
  by_cases z : gv kd h x
  · rw [if_neg (fun q => gb_e.mp q z)]
    obtain ⟨b1, b2, b3⟩ := pw_e (x := pB x) wm (by omega) (by omega)
    have e15 : (e_X1_putWaiting w (nI (pB x))).1 15 x = nI (pA x) := by rw [b2 15 (by decide) (by decide) (by decide), wo 15 (by decide)]; exact cA
    rw [e15]
    obtain ⟨d1, d2, d3⟩ := pw_e (x := pA x) b1 (by simp only [List.length_cons]; omega) (by omega)
    obtain ⟨f1, f2⟩ := half _ _ d1
    have ep : pas kd pA pB h x = [pA x, pB x] := if_pos z
    rw [ep]
    refine ⟨f1, fun c h1 h2 h3 h4 => by rw [f2 c h3, d2 c h1 h2 h4, b2 c h1 h2 h4, wo c h1], ?_⟩
    rw [f2 43 (by decide), d3, b3, wo 43 (by decide)]
    rfl
  · rw [if_pos (gb_e.mpr z)]
    obtain ⟨d1, d2, d3⟩ := pw_e (x := pA x) wm (by omega) (by omega)
    obtain ⟨f1, f2⟩ := half _ _ d1
    have ep : pas kd pA pB h x = [pA x] := if_neg z
    rw [ep]
    refine ⟨f1, fun c h1 h2 h3 h4 => by rw [f2 c h3, d2 c h1 h2 h4, wo c h1], ?_⟩
    rw [f2 43 (by decide), d3, wo 43 (by decide)]
    rfl
/-- what waits lies down -/
def FN (u : uk_Mem) (R : List Nat) (T : Nat) : Prop := u.1 41 1 = nI R.length ∧ (∀ i, i < R.length → u.1 42 i = nI (R.getD i 0)) ∧ u.1 41 2 = nI T
theorem app_l : ∀ (W : List Nat) (K : Nat) (u : uk_Mem) (D : List Nat) (h : Nat → Int32) (t : Nat) (n : Nat), W.length < K → D.length + W.length ≤ 128 → u.1 41 1 = nI D.length → (∀ i, i < D.length → u.1 42 i = nI (D.getD i 0)) → (∀ i, i < W.length → u.1 45 (W.length - 1 - i) = nI (W.getD i 0)) → u.1 41 2 = nI t → FN (l_X1_grind_90 K (nI W.length - 1) u) (D ++ W) t ∧ ∀ c, ¬ c = 41 → ¬ c = 42 → (l_X1_grind_90 K (nI W.length - 1) u).1 c = u.1 c := by
  intro W
  induction W with
  | nil =>
    intro K u D h t n hK hl m1 m2 m4 m5
    obtain ⟨K, rfl⟩ : ∃ k, K = k + 1 := ⟨K - 1, by simp only [List.length_nil] at hK; omega⟩
    rw [l_X1_grind_90, if_pos (show nI ([] : List Nat).length - 1 < 0 by decide), List.append_nil]
    exact ⟨⟨m1, m2, m5⟩, fun c _ _ => rfl⟩
  | cons x W ih =>
    intro K u D h t n hK hl m1 m2 m4 m5
    simp only [List.length_cons] at hK hl
    obtain ⟨K, rfl⟩ : ∃ k, K = k + 1 := ⟨K - 1, by omega⟩
    have ep : nI (x :: W).length - 1 = nI W.length := by rw [List.length_cons]; exact nI_pred _
    have hc : (nI W.length).toNatClampNeg = W.length := nI_clamp (by omega)
    rw [ep, l_X1_grind_90, if_neg (nI_pos (by omega)), hc]
    dsimp only
    have h0 := m4 0 (by simp)
    rw [List.getD_cons_zero, List.length_cons, show W.length + 1 - 1 - 0 = W.length by omega] at h0
    rw [h0]
    have mm : MLs u D [] (u.1 44) t → True := fun _ => trivial
    -- lie down, by hand: the waiting row isn't in order any more
    have hcD : (nI D.length).toNatClampNeg = D.length := nI_clamp (by omega)
    have hg : ¬ (128 : Int32) ≤ nI D.length := by
      rw [show (128 : Int32) = nI 128 from rfl, nI_leI (by omega) (by omega)]
      omega
    have el : e_X1_lieDown u (nI x) = uk_up (uk_up u 42 D.length (nI x)) 41 1 (nI (D.length + 1)) := by
      unfold e_X1_lieDown
      dsimp only
      rw [m1, if_neg hg, hcD]
      have e41 : (uk_up u 42 D.length (nI x)).1 41 1 = nI D.length := by rw [uk_up_oc (by decide)]; exact m1
      rw [e41, nI_1]
    rw [el]
    obtain ⟨a, b⟩ := ih K (uk_up (uk_up u 42 D.length (nI x)) 41 1 (nI (D.length + 1))) (D ++ [x]) h t n (by omega) (by simp only [List.length_append, List.length_singleton]; omega) (by rw [uk_up_at, if_pos ⟨rfl, rfl⟩, List.length_append]; rfl) (by
      intro i hi
      rw [List.length_append, List.length_singleton] at hi
      rw [uk_up_oc (by decide), uk_up_at, getD_app1 hi]
      by_cases e : i = D.length
      · rw [if_pos ⟨rfl, e⟩, if_pos e]
      · rw [if_neg (fun z => e z.2), if_neg e]
        exact m2 i (by omega)) (by
      intro i hi
      rw [uk_up_oc (by decide), uk_up_oc (by decide)]
      have := m4 (i + 1) (by simp only [List.length_cons]; omega)
      rw [List.getD_cons_succ, List.length_cons, show W.length + 1 - 1 - (i + 1) = W.length - 1 - i by omega] at this
      exact this) (by rw [uk_up_at, if_neg (by decide), uk_up_oc (by decide)]; exact m5)
    rw [List.append_assoc] at a
    exact ⟨a, fun c h1 h2 => by rw [b c h1 h2, uk_up_oc h1, uk_up_oc h2]⟩
theorem g90_1 : ∀ (K : Nat) (i : Int32) (u : uk_Mem), l_X1_grind_90_1 K i u = l_X1_grind_90 K i u := by
  intro K
  induction K with
  | zero => intro i u; rfl
  | succ K ih =>
    intro i u
    rw [l_X1_grind_90_1, l_X1_grind_90]
    split
    · rfl
    · exact ih _ _
theorem g90_2 : ∀ (K : Nat) (i : Int32) (u : uk_Mem), l_X1_grind_90_2 K i u = l_X1_grind_90 K i u := by
  intro K
  induction K with
  | zero => intro i u; rfl
  | succ K ih =>
    intro i u
    rw [l_X1_grind_90_2, l_X1_grind_90]
    split
    · rfl
    · exact ih _ _
theorem gD_l {a b : List Nat} {i : Nat} (h : i < a.length) : (a ++ b).getD i 0 = a.getD i 0 := by
  rw [List.getD_eq_getElem?_getD, List.getD_eq_getElem?_getD, List.getElem?_append_left h]
theorem gD_r {a b : List Nat} {i : Nat} (h : a.length ≤ i) : (a ++ b).getD i 0 = b.getD (i - a.length) 0 := by
  rw [List.getD_eq_getElem?_getD, List.getD_eq_getElem?_getD, List.getElem?_append_right h]
