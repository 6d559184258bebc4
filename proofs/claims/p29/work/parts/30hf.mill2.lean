/-! the reference's side -/
def RKs (v : uk_Mem) (N : Nat) (kd : Nat → Int32) (pA pB : Nat → Nat) : Prop := ∀ x, x < N → v.1 62 (x + 32) = kd x ∧ (¬ kd x = 4 → v.1 64 x = nI (pA x) ∧ v.1 65 x = nI (pB x))
def RLs (v : uk_Mem) (N : Nat) (l : List Nat) (h : Nat → Int32) : Prop := v.1 60 22 = nI l.length ∧ (∀ i, i < l.length → v.1 71 i = nI (l.getD i 0)) ∧ ∀ j, j < N → v.1 62 (j + 8) = h j
theorem n32 {x : Nat} (h : x < 8) : ((32 : Int32) + nI x).toNatClampNeg = x + 32 := by
  have := ix_32 (m := nI x) (nI_pos' (by omega)) (nI_le (a := x) (b := 7) (by omega) (by omega))
  rw [this, nI_clamp (by omega)]
theorem n8' {x : Nat} (h : x < 8) : ((8 : Int32) + nI x).toNatClampNeg = x + 8 := by
  have := ix_8 (m := nI x) (nI_pos' (by omega)) (nI_le (a := x) (b := 7) (by omega) (by omega))
  rw [this, nI_clamp (by omega)]
/-- the next thing that comes apart -/
theorem nt_some {v : uk_Mem} {N : Nat} {kd : Nat → Int32} {pA pB : Nat → Nat} {l : List Nat} {d : Nat} (n8 : N ≤ 8) (rk : RKs v N kd pA pB) (r1 : v.1 60 22 = nI l.length) (r2 : ∀ i, i < l.length → v.1 71 i = nI (l.getD i 0)) (hN : ∀ i, i < l.length → l.getD i 0 < N) (hl : l.length ≤ 1000) (hd : d < l.length) (hu : ∀ q, q < d → un kd (l.getD q 0)) (hx : ¬ un kd (l.getD d 0)) : ∀ (K p : Nat), l.length < p + K → p ≤ d → l_X7_nextThing_2 v K (nI p) = nI d := by
  intro K
  induction K with
  | zero => intro p h1 h2; omega
  | succ K ih =>
    intro p h1 h2
    rw [l_X7_nextThing_2]
    dsimp only
    rw [r1, if_neg (nI_ge (a := p) (b := l.length) (by omega) (by omega)), nI_clamp (by omega), r2 p (by omega), n32 (by have := hN p (by omega); omega), (rk _ (hN p (by omega))).1, nI_1]
    by_cases e : p = d
    · subst e
      rw [if_neg (fun z => hx (Or.inl z)), if_neg (fun z => hx (Or.inr z))]
    · rcases hu p (by omega) with z | z
      · rw [if_pos z]
        exact ih (p + 1) (by omega) (by omega)
      · rw [z, if_neg (by decide), if_pos rfl]
        exact ih (p + 1) (by omega) (by omega)
theorem nt_none {v : uk_Mem} {N : Nat} {kd : Nat → Int32} {pA pB : Nat → Nat} {l : List Nat} (n8 : N ≤ 8) (rk : RKs v N kd pA pB) (r1 : v.1 60 22 = nI l.length) (r2 : ∀ i, i < l.length → v.1 71 i = nI (l.getD i 0)) (hN : ∀ i, i < l.length → l.getD i 0 < N) (hl : l.length ≤ 1000) (hu : ∀ q, q < l.length → un kd (l.getD q 0)) : ∀ (K p : Nat), l.length < p + K → p ≤ l.length → l_X7_nextThing_2 v K (nI p) = -4 := by
  intro K
  induction K with
  | zero => intro p h1 h2; omega
  | succ K ih =>
    intro p h1 h2
    rw [l_X7_nextThing_2]
    dsimp only
    rw [r1]
    by_cases e : p = l.length
    · rw [if_pos (by rw [e]; exact Int32.le_refl _)]
    · rw [if_neg (nI_ge (a := p) (b := l.length) (by omega) (by omega)), nI_clamp (by omega), r2 p (by omega), n32 (by have := hN p (by omega); omega), (rk _ (hN p (by omega))).1, nI_1]
      rcases hu p (by omega) with z | z
      · rw [if_pos z]
        exact ih (p + 1) (by omega) (by omega)
      · rw [z, if_neg (by decide), if_pos rfl]
        exact ih (p + 1) (by omega) (by omega)
theorem mem_getD {l : List Nat} {i : Nat} (h : i < l.length) : l.getD i 0 ∈ l := by
  rw [List.getD_eq_getElem?_getD, List.getElem?_eq_getElem h]
  exact List.getElem_mem h
theorem gs_e {v : uk_Mem} {N : Nat} {kd h : Nat → Int32} {pA pB : Nat → Nat} {x : Nat} (n8 : N ≤ 8) (rk : RKs v N kd pA pB) (rh : ∀ j, j < N → v.1 62 (j + 8) = h j) (hx : x < N) : (e_X7_givesSecond v (nI x) = 0) ↔ ¬ gv kd h x := by
  unfold e_X7_givesSecond gv
  dsimp only
  rw [n32 (by omega), n8' (by omega), (rk x hx).1, rh x hx]
  by_cases a : kd x = 0
  · simp [a]
  · by_cases b : kd x = 3
    · by_cases c : h x = 1
      · simp [a, b, c]
      · simp [a, b, c]
    · simp [a, b]
/-- the row makes room -/
theorem sh_l {d x : Nat} (hd : d + 1 < 1000) (hx : x < 8) : ∀ (K i : Nat) (m : uk_Mem), i < d + 1 + K → d + 1 ≤ i → i ≤ 1000 → ∃ w : uk_Mem, l_X7_turns1_45 (nI d) (nI x) K (nI i) m = l_X7_turns1_45 (nI d) (nI x) 1 (nI (d + 1)) w ∧ (∀ c, ¬ c = 71 → w.1 c = m.1 c) ∧ ∀ j, w.1 71 j = if d + 2 ≤ j ∧ j ≤ i then m.1 71 (j - 1) else m.1 71 j := by
  intro K
  induction K with
  | zero => intro i m h1 h2; omega
  | succ K ih =>
    intro i m h1 h2 h3
    by_cases q : i = d + 1
    · subst q
      refine ⟨m, ?_, fun _ _ => rfl, fun j => ?_⟩
      · have c : nI (d + 1) ≤ nI d + 1 := by rw [nI_1]; exact Int32.le_refl _
        rw [l_X7_turns1_45, l_X7_turns1_45]
        dsimp only
        rw [if_pos c, if_pos c]
      · rw [if_neg (by omega)]
    · obtain ⟨i, rfl⟩ : ∃ k, i = k + 1 := ⟨i - 1, by omega⟩
      have c : ¬ nI (i + 1) ≤ nI d + 1 := by
        rw [nI_1, nI_leI (by omega) (by omega)]
        omega
      obtain ⟨w, a, b, e⟩ := ih i (uk_up m 71 (i + 1) (m.1 71 i)) (by omega) (by omega) (by omega)
      refine ⟨w, ?_, fun c hc => (b c hc).trans (uk_up_oc hc), fun j => ?_⟩
      · rw [← a, l_X7_turns1_45]
        dsimp only
        rw [if_neg c, nI_pred, nI_clamp (n := i) (by omega), nI_clamp (n := i + 1) (by omega)]
      · rw [e j]
        simp only [uk_up_at, true_and]
        by_cases j1 : j = i + 1
        · rw [if_neg (by omega), if_pos j1, if_pos (by omega), j1]
          rfl
        · by_cases j2 : d + 2 ≤ j ∧ j ≤ i
          · rw [if_pos j2, if_neg (by omega), if_pos (by omega)]
          · rw [if_neg j2, if_neg j1, if_neg (by omega)]
theorem getD_mid {D W : List Nat} {i : Nat} {Z : List Nat} : (D ++ (Z ++ W)).getD i 0 = if i < D.length then D.getD i 0 else if i < D.length + Z.length then Z.getD (i - D.length) 0 else W.getD (i - D.length - Z.length) 0 := by
  by_cases h1 : i < D.length
  · rw [if_pos h1, gD_l h1]
  · rw [if_neg h1, gD_r (by omega)]
    by_cases h2 : i < D.length + Z.length
    · rw [if_pos h2, gD_l (by omega)]
    · rw [if_neg h2, gD_r (by omega)]
/-- a turn -/
theorem t1_e {v : uk_Mem} {N : Nat} {kd h : Nat → Int32} {pA pB : Nat → Nat} {D W : List Nat} {x : Nat} (mk : MK N kd pA pB) (rk : RKs v N kd pA pB) (rl : RLs v N (D ++ x :: W) h) (hN : ∀ y, y ∈ D ++ x :: W → y < N) (hl : (D ++ x :: W).length ≤ 200) (hD : ∀ y, y ∈ D → un kd y) (hx : ¬ un kd x) : (e_X7_turns1 v).1 = 1 ∧ RLs (e_X7_turns1 v).2 N (D ++ (pas kd pA pB h x ++ W)) (fl kd h x) ∧ RKs (e_X7_turns1 v).2 N kd pA pB ∧ (∀ c, ¬ c = 60 → ¬ c = 62 → ¬ c = 71 → (e_X7_turns1 v).2.1 c = v.1 c) ∧ (∀ j, ¬ j = 22 → (e_X7_turns1 v).2.1 60 j = v.1 60 j) := by
  obtain ⟨r1, r2, r3⟩ := rl
  have n8 := mk.1
  have xN : x < N := hN x (by simp)
  obtain ⟨ha, hb⟩ := (mk.2 x xN).resolve_left (fun z => hx (Or.inl z))
  obtain ⟨k1, k2⟩ := rk x xN
  obtain ⟨kA, kB⟩ := k2 (fun z => hx (Or.inl z))
  have hlen : (D ++ x :: W).length = D.length + W.length + 1 := by simp only [List.length_append, List.length_cons]; omega
  have hg0 : (D ++ x :: W).getD D.length 0 = x := by
    rw [gD_r (by omega), Nat.sub_self, List.getD_cons_zero]
  have hnt : e_X7_nextThing v = nI D.length := by
    refine nt_some n8 rk r1 r2 (fun i hi => hN _ (mem_getD hi)) (by omega) (by omega) (fun q hq => ?_) (by rw [hg0]; exact hx) ee_K 0 ?_ (by omega)
    · rw [gD_l hq]
      exact hD _ (mem_getD hq)
    · unfold ee_K
      omega
  have hcd : (nI D.length).toNatClampNeg = D.length := nI_clamp (by omega)
  have hcx : (nI x).toNatClampNeg = x := nI_clamp (by omega)
  have hrx : v.1 71 D.length = nI x := by rw [r2 D.length (by omega), hg0]
  unfold e_X7_turns1
  dsimp only
  rw [hnt, if_neg (show ¬ nI D.length = -4 from fun z => absurd (nI_pos' (n := D.length) (by omega)) (by rw [z]; decide)), hcd, hrx, hcx, kA]
  generalize hw : uk_up v 71 D.length (nI (pA x)) = w
  have wo : ∀ c, ¬ c = 71 → w.1 c = v.1 c := fun c hc => by rw [← hw, uk_up_oc hc]
  have w71 : ∀ j, w.1 71 j = if j = D.length then nI (pA x) else v.1 71 j := fun j => by
    rw [← hw, uk_up_at]
    simp
  have rkw : RKs w N kd pA pB := fun y hy => by
    rw [wo 62 (by decide), wo 64 (by decide), wo 65 (by decide)]
    exact rk y hy
  have rhw : ∀ j, j < N → w.1 62 (j + 8) = h j := fun j hj => by
    rw [wo 62 (by decide)]
    exact r3 j hj
  -- the half goes over, or not
  have half : ∀ (y : uk_Mem) (z : Int32), (∀ j, y.1 62 j = v.1 62 j) → z = (if kd x = 3 then 1 - h x else h x) → (∀ j, j < N → (uk_up y 62 (x + 8) z).1 62 (j + 8) = fl kd h x j) ∧ (∀ j, (uk_up y 62 (x + 8) z).1 62 (j + 32) = v.1 62 (j + 32)) ∧ (∀ c, ¬ c = 62 → (uk_up y 62 (x + 8) z).1 c = y.1 c) := fun y z hy hz => by
    refine ⟨fun j hj => ?_, fun j => ?_, fun c hc => uk_up_oc hc⟩
    · rw [uk_up_at]
      unfold fl
      by_cases e : j = x
      · rw [if_pos ⟨rfl, by omega⟩, hz]
        by_cases k3 : kd x = 3
        · rw [if_pos k3, if_pos ⟨e, k3⟩]
        · rw [if_neg k3, if_neg (fun w => k3 w.2), e]
      · rw [if_neg (by omega), if_neg (fun w => e w.1), hy]
        exact r3 j hj
    · rw [uk_up_at, if_neg (by omega), hy]
  rw [n8' (by omega), n32 (by omega)]
  by_cases z : gv kd h x
  · have hz : ¬ e_X7_givesSecond w (nI x) = 0 := fun q => (gs_e n8 rkw rhw xN).mp q z
    rw [if_neg hz, wo 60 (by decide), r1, hlen]
    have ep : pas kd pA pB h x = [pA x, pB x] := if_pos z
    obtain ⟨s, s1, s2, s3⟩ := sh_l (d := D.length) (x := x) (by omega) (by omega) ee_K (D.length + W.length + 1) w (by unfold ee_K; omega) (by omega) (by omega)
    have c : nI (D.length + 1) ≤ nI D.length + 1 := by rw [nI_1]; exact Int32.le_refl _
    have s4 : l_X7_turns1_45 (nI D.length) (nI x) 1 (nI (D.length + 1)) s = (1, uk_up (uk_up (uk_up s 71 (D.length + 1) (nI (pB x))) 60 22 (nI (D.length + W.length + 2))) 62 (x + 8) (if kd x = 3 then 1 - h x else h x)) := by
      rw [l_X7_turns1_45]
      dsimp only
      rw [if_pos c, nI_1, nI_clamp (n := D.length + 1) (by omega), hcx, s2 65 (by decide), wo 65 (by decide), kB]
      have e22 : (uk_up s 71 (D.length + 1) (nI (pB x))).1 60 22 = nI (D.length + W.length + 1) := by rw [uk_up_oc (by decide), s2 60 (by decide), wo 60 (by decide), r1, hlen]
      rw [e22, nI_1, n8' (by omega), n32 (by omega)]
      have e62 : ∀ j, (uk_up (uk_up s 71 (D.length + 1) (nI (pB x))) 60 22 (nI (D.length + W.length + 1 + 1))).1 62 j = v.1 62 j := fun j => by rw [uk_up_oc (by decide), uk_up_oc (by decide), s2 62 (by decide), wo 62 (by decide)]
      rw [e62, e62, k1, r3 x xN]
      by_cases k3 : kd x = 3
      · rw [if_pos k3, if_pos k3]
      · rw [if_neg k3, if_neg k3]
    rw [s1, s4]
    dsimp only
    generalize hy : uk_up (uk_up s 71 (D.length + 1) (nI (pB x))) 60 22 (nI (D.length + W.length + 2)) = y
    have y62 : ∀ j, y.1 62 j = v.1 62 j := fun j => by rw [← hy, uk_up_oc (by decide), uk_up_oc (by decide), s2 62 (by decide), wo 62 (by decide)]
    have yo : ∀ c, ¬ c = 60 → ¬ c = 71 → y.1 c = v.1 c := fun c h1 h2 => by rw [← hy, uk_up_oc h1, uk_up_oc h2, s2 c h2, wo c h2]
    obtain ⟨f1, f2, f3⟩ := half y (if kd x = 3 then 1 - h x else h x) y62 rfl
    rw [ep]
    refine ⟨rfl, ⟨?_, fun i hi => ?_, f1⟩, fun q hq => ?_, fun c h1 h2 h3 => by rw [f3 c h2, yo c h1 h3], fun j hj => ?_⟩
    · rw [f3 60 (by decide), ← hy, uk_up_at, if_pos ⟨rfl, rfl⟩]
      simp only [List.length_append, List.length_cons, List.length_nil]
      exact congrArg nI (by omega)
    · simp only [List.length_append, List.length_cons, List.length_nil] at hi
      rw [f3 71 (by decide), ← hy, uk_up_oc (by decide), uk_up_at, s3 i, w71, w71, getD_mid]
      simp only [List.length_cons, List.length_nil]
      by_cases i1 : i < D.length
      · rw [if_neg (by omega), if_neg (by omega), if_neg (by omega), if_pos i1, r2 i (by omega), gD_l i1]
      · rw [if_neg i1]
        by_cases i2 : i = D.length
        · rw [if_neg (by omega), if_neg (by omega), if_pos i2, if_pos (by omega), i2, Nat.sub_self]
          rfl
        · by_cases i3 : i = D.length + 1
          · rw [if_pos ⟨trivial, i3⟩, if_pos (by omega), i3, show D.length + 1 - D.length = 1 by omega]
            rfl
          · rw [if_neg (by omega), if_pos (by omega), if_neg (by omega), if_neg (by omega), r2 (i - 1) (by omega), gD_r (by omega)]
            obtain ⟨k, rfl⟩ : ∃ k, i = D.length + 2 + k := ⟨i - D.length - 2, by omega⟩
            rw [show D.length + 2 + k - 1 - D.length = k + 1 by omega, List.getD_cons_succ, show D.length + 2 + k - D.length - (0 + 1 + 1) = k by omega]
    · rw [f2, f3 64 (by decide), f3 65 (by decide), yo 64 (by decide) (by decide), yo 65 (by decide) (by decide)]
      exact rk q hq
    · rw [f3 60 (by decide), ← hy, uk_up_at, if_neg (fun w => hj w.2), uk_up_oc (by decide), s2 60 (by decide), wo 60 (by decide)]
  · have hz := (gs_e n8 rkw rhw xN).mpr z
    rw [if_pos hz, wo 62 (by decide), k1, r3 x xN]
    have ep : pas kd pA pB h x = [pA x] := if_neg z
    have e : (if kd x = 3 then ((1 : Int32), uk_up w 62 (x + 8) (1 - h x)) else (1, uk_up w 62 (x + 8) (h x))) = (1, uk_up w 62 (x + 8) (if kd x = 3 then 1 - h x else h x)) := by
      by_cases k3 : kd x = 3
      · rw [if_pos k3, if_pos k3]
      · rw [if_neg k3, if_neg k3]
    rw [e]
    dsimp only
    obtain ⟨f1, f2, f3⟩ := half w (if kd x = 3 then 1 - h x else h x) (fun j => by rw [wo 62 (by decide)]) rfl
    rw [ep]
    refine ⟨rfl, ⟨?_, fun i hi => ?_, f1⟩, fun q hq => ?_, fun c h1 h2 h3 => by rw [f3 c h2, wo c h3], fun j hj => ?_⟩
    · rw [f3 60 (by decide), wo 60 (by decide), r1, hlen]
      simp only [List.length_append, List.length_cons, List.length_nil]
      exact congrArg nI (by omega)
    · simp only [List.length_append, List.length_cons, List.length_nil] at hi
      rw [f3 71 (by decide), w71, getD_mid]
      simp only [List.length_cons, List.length_nil]
      by_cases i1 : i < D.length
      · rw [if_pos i1, if_neg (by omega), r2 i (by omega), gD_l i1]
      · rw [if_neg i1]
        by_cases i2 : i = D.length
        · rw [if_pos i2, if_pos (by omega), i2, Nat.sub_self]
          rfl
        · rw [if_neg i2, if_neg (by omega), r2 i (by omega), gD_r (by omega)]
          obtain ⟨k, rfl⟩ : ∃ k, i = D.length + 1 + k := ⟨i - D.length - 1, by omega⟩
          rw [show D.length + 1 + k - D.length = k + 1 by omega, List.getD_cons_succ, show k + 1 - (0 + 1) = k by omega]
    · rw [f2, f3 64 (by decide), f3 65 (by decide), wo 64 (by decide), wo 65 (by decide)]
      exact rk q hq
    · rw [f3 60 (by decide), wo 60 (by decide)]
theorem t1_0 {v : uk_Mem} {N : Nat} {kd h : Nat → Int32} {pA pB : Nat → Nat} {l : List Nat} (n8 : N ≤ 8) (rk : RKs v N kd pA pB) (rl : RLs v N l h) (hN : ∀ y, y ∈ l → y < N) (hl : l.length ≤ 200) (hD : ∀ y, y ∈ l → un kd y) : e_X7_turns1 v = (0, v) := by
  have hnt : e_X7_nextThing v = -4 := nt_none n8 rk rl.1 rl.2.1 (fun i hi => hN _ (mem_getD hi)) (by omega) (fun q hq => hD _ (mem_getD hq)) ee_K 0 (by unfold ee_K; omega) (by omega)
  unfold e_X7_turns1
  dsimp only
  rw [hnt, if_pos rfl]
/-! both together -/
theorem mill_l {N : Nat} {kd : Nat → Int32} {pA pB : Nat → Nat} (mk : MK N kd pA pB) {n n7 : Nat} (hn : (n7 = n ∧ n ≤ 127) ∨ (n = 127 ∧ n7 = 128)) : ∀ (K : Nat) (D W : List Nat) (h : Nat → Int32) (t K7 : Nat) (u v : uk_Mem), 255 < t + D.length + K → n7 < t + K7 → t ≤ n → GD N kd D W t → CK u N kd pA pB → RKs v N kd pA pB → MLs u D W h t → RLs v N (D ++ W) h → ∃ (R : List Nat) (T : Nat) (h' : Nat → Int32), FN (l_X1_grind_8 (nI n) K (nI (t + D.length)) u) R T ∧ RLs (l_X7_mills_7 (nI n7) K7 (nI t) v).2 N R h' ∧ (l_X7_mills_7 (nI n7) K7 (nI t) v).1 = nI T ∧ (∀ y, y ∈ R → y < N) ∧ R.length ≤ 128 ∧ T ≤ 127 ∧ (∀ c, ¬ c = 60 → ¬ c = 62 → ¬ c = 71 → (l_X7_mills_7 (nI n7) K7 (nI t) v).2.1 c = v.1 c) ∧ (∀ j, ¬ j = 22 → (l_X7_mills_7 (nI n7) K7 (nI t) v).2.1 60 j = v.1 60 j) ∧ ∀ c, ¬ (41 ≤ c ∧ c ≤ 45) → (l_X1_grind_8 (nI n) K (nI (t + D.length)) u).1 c = u.1 c := by
  intro K
  induction K with
  | zero =>
    intro D W h t K7 u v hK hK7 ht g
    have := GD_len g
    have := g.2.2.2.1
    exfalso
    omega
  | succ K ih =>
    intro D W h t K7 u v hK hK7 ht g ck rk m rl
    have gl := GD_len g
    have gt := g.2.2.2.1
    have sk := SK_len g.2.2.2.2
    have n8 := mk.1
    obtain ⟨K7, rfl⟩ : ∃ k, K7 = k + 1 := ⟨K7 - 1, by omega⟩
    have hll : (D ++ W).length ≤ 200 := by rw [List.length_append]; omega
    obtain ⟨m1, m2, m3, m4, m5, m6⟩ := id m
    -- it ends here: the row is D ++ W
    have fin : (n7 ≤ t ∨ ∀ y, y ∈ D ++ W → un kd y) → l_X7_mills_7 (nI n7) (K7 + 1) (nI t) v = (nI t, v) := fun q => by
      rw [l_X7_mills_7]
      by_cases c : n7 ≤ t
      · rw [if_pos (nI_le c (by omega))]
      · rw [if_neg (nI_ge (by omega) (by omega))]
        dsimp only
        rw [t1_0 n8 rk rl g.1 hll (q.resolve_left c), if_pos rfl]
    have lie := app_l W ee_K u D h t 0 (by unfold ee_K; omega) (by omega) m1 m2 m4 m5
    have done : (n7 ≤ t ∨ ∀ y, y ∈ D ++ W → un kd y) → ∃ (R : List Nat) (T : Nat) (h' : Nat → Int32), FN (l_X1_grind_90 ee_K (nI W.length - 1) u) R T ∧ RLs (l_X7_mills_7 (nI n7) (K7 + 1) (nI t) v).2 N R h' ∧ (l_X7_mills_7 (nI n7) (K7 + 1) (nI t) v).1 = nI T ∧ (∀ y, y ∈ R → y < N) ∧ R.length ≤ 128 ∧ T ≤ 127 ∧ (∀ c, ¬ c = 60 → ¬ c = 62 → ¬ c = 71 → (l_X7_mills_7 (nI n7) (K7 + 1) (nI t) v).2.1 c = v.1 c) ∧ (∀ j, ¬ j = 22 → (l_X7_mills_7 (nI n7) (K7 + 1) (nI t) v).2.1 60 j = v.1 60 j) ∧ ∀ c, ¬ (41 ≤ c ∧ c ≤ 45) → (l_X1_grind_90 ee_K (nI W.length - 1) u).1 c = u.1 c := fun q => by
      rw [fin q]
      exact ⟨D ++ W, t, h, lie.1, rl, rfl, g.1, by rw [List.length_append]; omega, by omega, fun _ _ _ _ => rfl, fun _ _ => rfl, fun c hc => lie.2 c (by omega) (by omega)⟩
    rw [l_X1_grind_8]
    dsimp only
    rw [m3, m5]
    by_cases s : 255 ≤ t + D.length
    · rw [if_pos (show (255 : Int32) ≤ nI (t + D.length) from nI_le (a := 255) s (by omega))]
      refine done (Or.inr (fun y hy => ?_))
      have : W = [] := List.eq_nil_of_length_eq_zero (by omega)
      rw [this, List.append_nil] at hy
      exact g.2.1 y hy
    · rw [if_neg (show ¬ (255 : Int32) ≤ nI (t + D.length) from nI_ge (b := 255) (by omega) (by omega))]
      by_cases c : n ≤ t
      · rw [if_pos (nI_le c (by omega)), g90_1]
        refine done ?_
        rcases hn with ⟨e, -⟩ | ⟨e, -⟩
        · exact Or.inl (by omega)
        · exact Or.inr (GD_0 mk g (by omega))
      · rw [if_neg (nI_ge (by omega) (by omega))]
        cases W with
        | nil =>
          rw [if_pos (show nI ([] : List Nat).length ≤ 0 from by decide), g90_2]
          refine done (Or.inr (fun y hy => ?_))
          rw [List.append_nil] at hy
          exact g.2.1 y hy
        | cons x W =>
          simp only [List.length_cons] at gl sk
          rw [if_neg (show ¬ nI (x :: W).length ≤ 0 from nI_nle (by simp) (by simp only [List.length_cons]; omega))]
          obtain ⟨a1, a2, a3⟩ := tw_e m (by omega)
          have xN : x < N := g.1 x (by simp)
          have ck' : CK (e_X1_takeWaiting u).2 N kd pA pB := CK_cg ck (a3 14 (by decide)) (a3 15 (by decide)) (a3 16 (by decide))
          rw [a1, nI_clamp (n := x) (by omega), (ck' x xN).1, nI_1]
          by_cases hu : un kd x
          · -- it lies down
            obtain ⟨b1, b2⟩ := ld_e (x := x) a2 (by omega)
            have gl2 := GD_lie g hu
            have e1 : (if kd x = 4 then l_X1_grind_8 (nI n) K (nI (t + D.length + 1)) (e_X1_lieDown (e_X1_takeWaiting u).2 (nI x)) else if kd x = 2 then l_X1_grind_8 (nI n) K (nI (t + D.length + 1)) (e_X1_lieDown (e_X1_takeWaiting u).2 (nI x)) else l_X1_grind_8 (nI n) K (nI (t + D.length + 1)) (e_X1_part (e_X1_takeWaiting u).2 (nI x) (kd x))) = l_X1_grind_8 (nI n) K (nI (t + (D ++ [x]).length)) (e_X1_lieDown (e_X1_takeWaiting u).2 (nI x)) := by
              rw [List.length_append, List.length_singleton]
              rcases hu with z | z
              · rw [if_pos z]
                rfl
              · rw [if_neg (by rw [z]; decide), if_pos z]
                rfl
            rw [e1]
            obtain ⟨R, T, h', c1, c2, c3, c4, c5, c6, c7, c8, c9⟩ := ih (D ++ [x]) W h t (K7 + 1) (e_X1_lieDown (e_X1_takeWaiting u).2 (nI x)) v (by simp only [List.length_append, List.length_singleton]; omega) hK7 ht gl2 (CK_cg ck' (b2 14 (by decide) (by decide)) (b2 15 (by decide) (by decide)) (b2 16 (by decide) (by decide))) rk b1 (by rw [List.append_assoc]; exact rl)
            exact ⟨R, T, h', c1, c2, c3, c4, c5, c6, c7, c8, fun c hc => by rw [c9 c hc, b2 c (by omega) (by omega), a3 c (by omega)]⟩
          · -- it comes apart
            obtain ⟨b1, b2, b3⟩ := pt_e mk ck' a2 xN hu (by omega)
            have g2 := GD_turn (h := h) mk g hu
            rw [if_neg (fun z => hu (Or.inl z)), if_neg (fun z => hu (Or.inr z))]
            obtain ⟨d1, d2, d3, d4, d5⟩ := t1_e mk rk rl g.1 hll g.2.1 hu
            have e7 : l_X7_mills_7 (nI n7) (K7 + 1) (nI t) v = l_X7_mills_7 (nI n7) K7 (nI (t + 1)) (e_X7_turns1 v).2 := by
              rw [l_X7_mills_7, if_neg (nI_ge (by omega) (by omega))]
              dsimp only
              rw [d1, if_neg one0, nI_1]
            rw [e7, show t + D.length + 1 = t + 1 + D.length by omega]
            obtain ⟨R, T, h', c1, c2, c3, c4, c5, c6, c7, c8, c9⟩ := ih D (pas kd pA pB h x ++ W) (fl kd h x) (t + 1) K7 (e_X1_part (e_X1_takeWaiting u).2 (nI x) (kd x)) (e_X7_turns1 v).2 (by omega) (by omega) (by omega) g2 (CK_cg ck' (b2 14 (by decide) (by decide) (by decide) (by decide)) (b2 15 (by decide) (by decide) (by decide) (by decide)) (b2 16 (by decide) (by decide) (by decide) (by decide))) d3 b1 d2
            exact ⟨R, T, h', c1, c2, c3, c4, c5, c6, fun c h1 h2 h3 => (c7 c h1 h2 h3).trans (d4 c h1 h2 h3), fun j hj => (c8 j hj).trans (d5 j hj), fun c hc => by rw [c9 c hc, b2 c (by omega) (by omega) (by omega) (by omega), a3 c (by omega)]⟩
