/-! both fit together in the same way -/
def PIV (N S : Nat) (u v : uk_Mem) : Prop := v.1 60 3 = nI N ∧ ri v ∧ KR u v 13 61 0 ∧ v.1 61 42 = nI S ∧ PRo v 61 0
theorem t_eq {a b c : Int32} : (0 + a - b - c = 0) ↔ (0 - a + b + c = 0) := by
  constructor
  · intro h
    grind
  · intro h
    grind
theorem fit_e {u v : uk_Mem} {N S m n : Nat} (n8 : N ≤ 8) (s8 : S ≤ 8) (h : PIV N S u v) (hm : m < N) (hn : n < N) : (e_X6_fitTogether u (nI m) (nI n)).1 = (e_X7_fitTogether v (nI m) (nI n)).1 ∧ PIV N S (e_X6_fitTogether u (nI m) (nI n)).2 (e_X7_fitTogether v (nI m) (nI n)).2 := by
  obtain ⟨hN, hri, hK, hS, hP⟩ := h
  have g0 : ∀ i, i < S → v.1 61 (i + 43) = nI (v.1 61 (i + 43)).toNatClampNeg ∧ (v.1 61 (i + 43)).toNatClampNeg < N := fun i hi => by
    have := hP.2 i (by rw [show v.1 61 (0 + 42) = nI S from hS, nI_clamp (by omega)]; exact hi)
    rw [show i + (0 + 43) = i + 43 by omega, hN] at this
    refine ⟨nn this.1, ?_⟩
    have z := uk_cll this.1 this.2
    rwa [nI_clamp (by omega)] at z
  have g6 : ∀ i, i < S → u.1 21 i = v.1 61 (i + 43) := fun i hi => hK.2.2.2.2.2 i (by rw [show v.1 61 (0 + 42) = nI S from hS, nI_clamp (by omega)]; exact hi)
  -- the class's first two loops
  obtain ⟨w1, a1, a2, a3⟩ := zero6 (a := nI m) (b := nI n) ee_K 0 u (by unfold ee_K; omega) (by omega)
  obtain ⟨w2, b1, b2, b3⟩ := see6 (a := nI m) (b := nI n) (g := fun i => (v.1 61 (i + 43)).toNatClampNeg) s8 S 0 ee_K w1 (by omega) (by unfold ee_K; omega) (by rw [a2 13 (by decide)]; exact hK.2.1.trans hS) (fun i hi => by
    rw [a2 21 (by decide), g6 i hi]
    exact ⟨(g0 i hi).1, by have := (g0 i hi).2; omega⟩)
  -- the reference's
  obtain ⟨x1, c1, c2, c3⟩ := zero7 (m := nI m) (n := nI n) ee_K 0 v (by unfold ee_K; omega) (by omega)
  obtain ⟨x2, d1, d2, d3⟩ := see7 (m := nI m) (n := nI n) (g := fun i => (v.1 61 (i + 43)).toNatClampNeg) s8 S 0 ee_K x1 (by omega) (by unfold ee_K; omega) (by rw [c2 61 (by decide)]; exact hS) (fun i hi => by
    rw [c2 61 (by decide)]
    exact ⟨(g0 i hi).1, by have := (g0 i hi).2; omega⟩)
  have hL : ∀ y, y ∈ sl (fun i => (v.1 61 (i + 43)).toNatClampNeg) 0 S → y < N := sl_lt S 0 (fun i hi => (g0 i (by omega)).2)
  generalize sl (fun i => (v.1 61 (i + 43)).toNatClampNeg) 0 S = L at *
  have E6 : e_X6_fitTogether u (nI m) (nI n) = tl6 w2 (nI m) (nI n) := a1.trans b1
  have E7 : e_X7_fitTogether v (nI m) (nI n) = l_X7_fitTogether_69 (nI n) ee_K 0 (h_X7_mills x2 (nI m)).2 := c1.trans d1
  have wo : ∀ c, ¬ c = 58 → w2.1 c = u.1 c := fun c hc => (b2 c hc).trans (a2 c hc)
  have xo : ∀ c, ¬ c = 73 → x2.1 c = v.1 c := fun c hc => (d2 c hc).trans (c2 c hc)
  have w58 : ∀ j, j < 8 → w2.1 58 j = 0 + nI (cn j L) := fun j hj => by rw [b3 j, a3 j, if_pos ⟨Nat.zero_le _, hj⟩]
  have x73 : ∀ j, j < 8 → x2.1 73 j = 0 - nI (cn j L) := fun j hj => by rw [d3 j, c3 j, if_pos ⟨Nat.zero_le _, hj⟩]
  -- the first row
  have hN2 : x2.1 60 3 = nI N := by rw [xo 60 (by decide)]; exact hN
  have hri2 : ri x2 := ri_kp hri (by rw [xo 60 (by decide)]) (xo 61 (by decide)) (xo 63 (by decide)) (xo 64 (by decide)) (xo 65 (by decide))
  have hK2 : KR w2 x2 13 61 0 := KR_cg hK (fun d q1 q2 => wo d (by omega)) (by rw [xo 60 (by decide)]) (xo 61 (by decide)) (xo 64 (by decide)) (xo 65 (by decide))
  obtain ⟨R1, T1, h1, f1, r1, -, rN1, rl1, -, o1, p1, q1⟩ := mills_h n8 hN2 hri2 hK2 hm
  have f1 : FN (e_X1_grind w2 (nI m) 127) R1 T1 := f1
  have r1 : RLs (h_X7_mills x2 (nI m)).2 N R1 h1 := r1
  have o1 : ∀ c, ¬ c = 60 → ¬ c = 62 → ¬ c = 71 → (h_X7_mills x2 (nI m)).2.1 c = x2.1 c := o1
  have p1 : ∀ j, ¬ j = 22 → (h_X7_mills x2 (nI m)).2.1 60 j = x2.1 60 j := p1
  have q1 : ∀ c, ¬ (41 ≤ c ∧ c ≤ 45) → (e_X1_grind w2 (nI m) 127).1 c = w2.1 c := q1
  unfold tl6 at E6
  generalize e_X1_grind w2 (nI m) 127 = u3 at *
  generalize (h_X7_mills x2 (nI m)).2 = v3 at *
  have m81 : ∀ y, y ∈ R1 → y < 8 := fun y hy => by have := rN1 y hy; omega
  obtain ⟨k1, k2⟩ := takeF f1 rl1 m81
  obtain ⟨x4, l1, l2, l3⟩ := add7 (n := nI n) n8 rl1 m81 ee_K 0 v3 (by unfold ee_K; omega) (by omega) ((p1 3 (by decide)).trans hN2) r1
  generalize e_X1_takeFrom u3 = u4 at *
  -- the second row
  have c4 : ∀ c, c < 41 → u4.1 c = u.1 c := fun c hc => (k1 c (by omega)).trans ((q1 c (by omega)).trans (wo c (by omega)))
  have v4 : ∀ c, ¬ c = 60 → ¬ c = 62 → ¬ c = 71 → ¬ c = 73 → x4.1 c = v.1 c := fun c i1 i2 i3 i4 => (l2 c i4).trans ((o1 c i1 i2 i3).trans (xo c i4))
  have v43 : ∀ j, ¬ j = 22 → x4.1 60 j = v.1 60 j := fun j hj => by rw [l2 60 (by decide), p1 j hj, xo 60 (by decide)]
  have hN4 : x4.1 60 3 = nI N := (v43 3 (by decide)).trans hN
  have s61 := v4 61 (by decide) (by decide) (by decide) (by decide)
  have s63 := v4 63 (by decide) (by decide) (by decide) (by decide)
  have s64 := v4 64 (by decide) (by decide) (by decide) (by decide)
  have s65 := v4 65 (by decide) (by decide) (by decide) (by decide)
  have hri4 : ri x4 := ri_kp hri (v43 3 (by decide)) s61 s63 s64 s65
  have hK4 : KR u4 x4 13 61 0 := KR_cg hK (fun d i1 i2 => c4 d (by omega)) (v43 3 (by decide)) s61 s64 s65
  obtain ⟨R2, T2, h2, f2, r2, -, rN2, rl2, -, o2, p2, q2⟩ := mills_h n8 hN4 hri4 hK4 hn
  have f2 : FN (e_X1_grind u4 (nI n) 127) R2 T2 := f2
  have r2 : RLs (h_X7_mills x4 (nI n)).2 N R2 h2 := r2
  have o2 : ∀ c, ¬ c = 60 → ¬ c = 62 → ¬ c = 71 → (h_X7_mills x4 (nI n)).2.1 c = x4.1 c := o2
  have p2 : ∀ j, ¬ j = 22 → (h_X7_mills x4 (nI n)).2.1 60 j = x4.1 60 j := p2
  have q2 : ∀ c, ¬ (41 ≤ c ∧ c ≤ 45) → (e_X1_grind u4 (nI n) 127).1 c = u4.1 c := q2
  have E7 := E7.trans l1
  generalize e_X1_grind u4 (nI n) 127 = u5 at *
  generalize (h_X7_mills x4 (nI n)).2 = v5 at *
  have m82 : ∀ y, y ∈ R2 → y < 8 := fun y hy => by have := rN2 y hy; omega
  obtain ⟨k3, k4⟩ := takeF f2 rl2 m82
  generalize e_X1_takeFrom u5 = u6 at *
  have hN5 : v5.1 60 3 = nI N := (p2 3 (by decide)).trans hN4
  obtain ⟨y1, y2⟩ := z6 (u := u6) ee_K 0 (by unfold ee_K; omega) (by omega)
  obtain ⟨y3, -, y4⟩ := z7 n8 rl2 m82 hN5 r2 ee_K 0 1 (by unfold ee_K; omega) (by omega)
  have y4 := y4 rfl
  have e0 : nI 0 = 0 := rfl
  rw [e0] at y1 y2 y3 y4
  have t6 : ∀ j, j < 8 → u6.1 58 j = 0 + nI (cn j L) - nI (cn j R1) - nI (cn j R2) := fun j hj => by rw [k4 j, q2 58 (by omega), k2 j, q1 58 (by omega), w58 j hj]
  have t7 : ∀ j, j < N → v5.1 73 j = 0 - nI (cn j L) + nI (cn j R1) := fun j hj => by rw [o2 73 (by decide) (by decide) (by decide), l3 j, if_pos ⟨Nat.zero_le _, hj⟩, o1 73 (by decide) (by decide) (by decide), x73 j (by omega)]
  have tz : ∀ j, N ≤ j → j < 8 → u6.1 58 j = 0 := fun j j1 j2 => by
    rw [t6 j j2, cn_0.mpr (fun z => by have := hL j z; omega), cn_0.mpr (fun z => by have := rN1 j z; omega), cn_0.mpr (fun z => by have := rN2 j z; omega)]
    decide
  have tt : ∀ j, j < N → (u6.1 58 j = 0 ↔ v5.1 73 j + nI (cn j R2) = 0) := fun j hj => by
    rw [t6 j (by omega), t7 j hj]
    exact t_eq
  have u6o : ∀ c, c < 41 → u6.1 c = u.1 c := fun c hc => (k3 c (by omega)).trans ((q2 c (by omega)).trans (c4 c hc))
  have v5o : ∀ c, ¬ c = 60 → ¬ c = 62 → ¬ c = 71 → ¬ c = 73 → v5.1 c = v.1 c := fun c i1 i2 i3 i4 => (o2 c i1 i2 i3).trans (v4 c i1 i2 i3 i4)
  have v53 : v5.1 60 3 = v.1 60 3 := (p2 3 (by decide)).trans (v43 3 (by decide))
  have z61 := v5o 61 (by decide) (by decide) (by decide) (by decide)
  rw [E6, E7]
  refine ⟨?_, ?_⟩
  · rcases y2 with ⟨y2, y2'⟩ | ⟨y2, j, j1, j2, j3⟩
    · rcases y4 with ⟨y4, y4'⟩ | ⟨y4, i, i1, i2, i3⟩
      · rw [y2, y4]
      · exact absurd ((tt i i2).mp (y2' i (by omega) (by omega))) i3
    · rcases y4 with ⟨y4, y4'⟩ | ⟨y4, i, i1, i2, i3⟩
      · exfalso
        by_cases q : j < N
        · exact j3 ((tt j q).mpr (y4' j (by omega) q))
        · exact j3 (tz j (by omega) j2)
      · rw [y2, y4]
  · rw [y1, y3]
    exact ⟨hN5, ri_kp hri v53 z61 (v5o 63 (by decide) (by decide) (by decide) (by decide)) (v5o 64 (by decide) (by decide) (by decide) (by decide)) (v5o 65 (by decide) (by decide) (by decide) (by decide)), KR_cg hK (fun d i1 i2 => u6o d (by omega)) v53 z61 (v5o 64 (by decide) (by decide) (by decide) (by decide)) (v5o 65 (by decide) (by decide) (by decide) (by decide)), by rw [z61]; exact hS, PRo_c hP z61 v53⟩
theorem pr_in {N S i : Nat} (n8 : N ≤ 8) (s8 : S ≤ 8) (hi : i < N) {C6 C7 : Int32 → Int32 → Int32 → uk_Mem → Int32 × uk_Mem} (hC : ∀ (a b : Int32) (u v : uk_Mem), PIV N S u v → (C6 (nI (i + 1)) a b u).1 = (C7 (nI (i + 1)) a b v).1) : ∀ (K k : Nat) (a b : Int32) (u v : uk_Mem), N < k + K → k ≤ N → PIV N S u v → (l_X6_pairs_33 (nI i) C6 K (nI k) a b u).1 = (l_X7_pairs_30 (nI i) C7 K (nI k) a b v).1 := by
  intro K
  induction K with
  | zero => intro k a b u v h1 h2; omega
  | succ K ih =>
    intro k a b u v h1 h2 h
    have k0 : u.1 13 0 = nI N := h.2.2.1.1.trans h.1
    rw [l_X6_pairs_33, l_X7_pairs_30]
    dsimp only
    rw [k0, h.1, nI_1]
    by_cases e : k = N
    · rw [if_pos (by rw [e]; exact Int32.le_refl _), if_pos (by rw [e]; exact Int32.le_refl _)]
      exact hC a b u v h
    · have hk : k < N := by omega
      rw [if_neg (nI_ge hk (by omega)), if_neg (nI_ge hk (by omega)), nI_1]
      obtain ⟨A, B⟩ := fit_e n8 s8 h hi hk
      rw [A]
      by_cases z : (e_X7_fitTogether v (nI i) (nI k)).1 = 0
      · rw [if_pos z, if_pos z]
        exact ih (k + 1) a b _ _ (by omega) (by omega) B
      · rw [if_neg z, if_neg z]
        by_cases y : a = 0
        · rw [if_pos y, if_pos y]
          exact ih (k + 1) _ _ _ _ (by omega) (by omega) B
        · rw [if_neg y, if_neg y]
          exact ih (k + 1) _ _ _ _ (by omega) (by omega) B
theorem pr_out {N S : Nat} (n8 : N ≤ 8) (s8 : S ≤ 8) {w : Int32} : ∀ (K i : Nat) (a b : Int32) (u v : uk_Mem), N < i + K → i ≤ N → PIV N S u v → (l_X6_pairs_17 w K (nI i) a b u).1 = (l_X7_pairs_17 w K (nI i) a b v).1 := by
  intro K
  induction K with
  | zero => intro i a b u v h1 h2; omega
  | succ K ih =>
    intro i a b u v h1 h2 h
    have k0 : u.1 13 0 = nI N := h.2.2.1.1.trans h.1
    rw [l_X6_pairs_17, l_X7_pairs_17]
    rw [k0, h.1]
    by_cases e : i = N
    · have cN : nI N ≤ nI i := by rw [e]; exact Int32.le_refl _
      rw [if_pos cN, if_pos cN]
      by_cases y : w = 0
      · rw [if_pos y, if_pos y]
      · rw [if_neg y, if_neg y]
    · have hi : i < N := by omega
      rw [if_neg (nI_ge hi (by omega)), if_neg (nI_ge hi (by omega))]
      exact pr_in n8 s8 hi (fun a b u v h => ih (i + 1) a b u v (by omega) (by omega) h) ee_K i a b u v (by unfold ee_K; omega) (by omega) h
theorem pairs_e {u v : uk_Mem} {w : Int32} (hv : iv v) (hri : ri v) (hK : KR u v 13 61 0) (hP : PRo v 61 0) : (e_X6_pairs u w).1 = (e_X7_pairs v w).1 := by
  obtain ⟨N, n8, hN⟩ := NN hv
  have s := sg_42 hv (c := 61) (by unfold uk_is51; decide)
  obtain ⟨S, s8, hS⟩ := nI_of2 (x := v.1 61 42) (M := 8) (n := 8) rfl (by lia) s.2
  have fl : e_X6_isFlag u w = e_X7_isPart v w := by
    unfold e_X6_isFlag e_X7_isPart e_X7_in
    dsimp only
    grind
  unfold e_X6_pairs e_X7_pairs
  dsimp only
  rw [fl]
  by_cases q : e_X7_isPart v w = 0
  · rw [if_pos q, if_pos q]
  · rw [if_neg q, if_neg q]
    exact pr_out n8 s8 ee_K 0 0 (-4) u v (by unfold ee_K; omega) (by omega) ⟨hN, hri, hK, hS, hP⟩
