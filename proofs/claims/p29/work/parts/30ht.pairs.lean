/-! pairs: what two rows have together -/
def sl (g : Nat → Nat) : Nat → Nat → List Nat
  | _, 0 => []
  | p, k + 1 => g p :: sl g (p + 1) k
theorem sl_lt {g : Nat → Nat} {N : Nat} : ∀ (k p : Nat), (∀ i, i < p + k → g i < N) → ∀ y, y ∈ sl g p k → y < N := by
  intro k
  induction k with
  | zero => intro p h y hy; exact absurd hy List.not_mem_nil
  | succ k ih =>
    intro p h y hy
    rcases List.mem_cons.mp hy with e | e
    · rw [e]
      exact h p (by omega)
    · exact ih (p + 1) (fun i hi => h i (by omega)) y e
theorem cn_c {b x : Nat} {l : List Nat} : cn b (x :: l) = (if x = b then 1 else 0) + cn b l := rfl
theorem i_aa {x a b : Int32} : x + a + b = x + (a + b) := by grind
theorem i_ss {x a b : Int32} : x - a - b = x - (a + b) := by grind
abbrev tl6 (u : uk_Mem) (a b : Int32) : Int32 × uk_Mem := l_X6_fitTogether_110 (e_X1_takeFrom (e_X1_grind (e_X1_takeFrom (e_X1_grind u a 127)) b 127)) ee_K 0
theorem see6 {a b : Int32} {g : Nat → Nat} {S : Nat} (s8 : S ≤ 8) : ∀ (k p K : Nat) (u : uk_Mem), p + k = S → k < K → u.1 13 9 = nI S → (∀ i, i < S → u.1 21 i = nI (g i) ∧ g i < 8) → ∃ w : uk_Mem, l_X6_fitTogether_23 a b K (nI p) u = tl6 w a b ∧ (∀ c, ¬ c = 58 → w.1 c = u.1 c) ∧ ∀ j, w.1 58 j = u.1 58 j + nI (cn j (sl g p k)) := by
  intro k
  induction k with
  | zero =>
    intro p K u hp hK h9 hg
    obtain ⟨K', rfl⟩ : ∃ K', K = K' + 1 := ⟨K - 1, by omega⟩
    rw [l_X6_fitTogether_23]
    dsimp only
    rw [h9, if_pos (by rw [show p = S by omega]; exact Int32.le_refl _)]
    exact ⟨u, rfl, fun _ _ => rfl, fun j => (Int32.add_zero _).symm⟩
  | succ k ih =>
    intro p K u hp hK h9 hg
    obtain ⟨K', rfl⟩ : ∃ K', K = K' + 1 := ⟨K - 1, by omega⟩
    obtain ⟨g1, g2⟩ := hg p (by omega)
    rw [l_X6_fitTogether_23]
    dsimp only
    rw [h9, if_neg (nI_ge (show p < S by omega) (by omega)), nI_clamp (show p < 2147483648 by omega), g1, nI_clamp (show g p < 2147483648 by omega), nI_1]
    have e13 : (uk_up u 58 (g p) (u.1 58 (g p) + 1)).1 13 = u.1 13 := uk_up_oc (by decide)
    have e21 : (uk_up u 58 (g p) (u.1 58 (g p) + 1)).1 21 = u.1 21 := uk_up_oc (by decide)
    obtain ⟨w, e1, e2, e3⟩ := ih (p + 1) K' (uk_up u 58 (g p) (u.1 58 (g p) + 1)) (by omega) (by omega) (by rw [e13]; exact h9) (fun i hi => by rw [e21]; exact hg i hi)
    refine ⟨w, e1, fun c hc => (e2 c hc).trans (uk_up_oc hc), fun j => ?_⟩
    rw [e3 j, uk_up_at, show sl g p (k + 1) = g p :: sl g (p + 1) k from rfl, cn_c]
    by_cases q : j = g p
    · rw [if_pos ⟨rfl, q⟩, if_pos q.symm, ← nI_add, q]
      exact i_aa
    · rw [if_neg (fun z => q z.2), if_neg (fun z => q z.symm), Nat.zero_add]
theorem zero6 {a b : Int32} : ∀ (K i : Nat) (u : uk_Mem), 8 < i + K → i ≤ 8 → ∃ w : uk_Mem, l_X6_fitTogether_2 a b K (nI i) u = l_X6_fitTogether_23 a b ee_K 0 w ∧ (∀ c, ¬ c = 58 → w.1 c = u.1 c) ∧ ∀ j, w.1 58 j = if i ≤ j ∧ j < 8 then 0 else u.1 58 j := by
  intro K
  induction K with
  | zero => intro i u h1 h2; omega
  | succ K ih =>
    intro i u h1 h2
    rw [l_X6_fitTogether_2]
    by_cases e : i = 8
    · subst e
      rw [if_pos (show (8 : Int32) ≤ nI 8 from by decide)]
      exact ⟨u, rfl, fun _ _ => rfl, fun j => by rw [if_neg (by omega)]⟩
    · rw [if_neg (show ¬ (8 : Int32) ≤ nI i from nI_ge (b := 8) (by omega) (by omega)), nI_clamp (by omega), nI_1]
      dsimp only
      obtain ⟨w, a, b, c⟩ := ih (i + 1) (uk_up u 58 i 0) (by omega) (by omega)
      refine ⟨w, a, fun d hd => (b d hd).trans (uk_up_oc hd), fun j => ?_⟩
      rw [c j, uk_up_at]
      by_cases q : j = i
      · rw [if_neg (by omega), if_pos ⟨rfl, q⟩, if_pos (by omega)]
      · by_cases q2 : i + 1 ≤ j ∧ j < 8
        · rw [if_pos q2, if_pos (by omega)]
        · rw [if_neg q2, if_neg (fun z => q z.2), if_neg (by omega)]
theorem take6 {R : List Nat} (hl : R.length ≤ 128) (h8 : ∀ y, y ∈ R → y < 8) : ∀ (K p : Nat) (u : uk_Mem), R.length < p + K → p ≤ R.length → u.1 41 1 = nI R.length → (∀ i, i < R.length → u.1 42 i = nI (R.getD i 0)) → (∀ c, ¬ c = 58 → (l_X1_takeFrom_2 K (nI p) u).1 c = u.1 c) ∧ ∀ j, (l_X1_takeFrom_2 K (nI p) u).1 58 j = u.1 58 j - nI (cn j (R.drop p)) := by
  intro K
  induction K with
  | zero => intro p u h1 h2; omega
  | succ K ih =>
    intro p u h1 h2 r1 r2
    rw [l_X1_takeFrom_2]
    dsimp only
    rw [r1]
    by_cases e : p = R.length
    · rw [if_pos (by rw [e]; exact Int32.le_refl _), e, List.drop_length]
      exact ⟨fun _ _ => rfl, fun j => (Int32.sub_zero _).symm⟩
    · have hp : p < R.length := by omega
      have hy := h8 _ (mem_getD hp)
      rw [if_neg (nI_ge hp (by omega)), nI_clamp (show p < 2147483648 by omega), r2 p hp, drop_c hp, nI_clamp (show R.getD p 0 < 2147483648 by omega), nI_1]
      have e41 : (uk_up u 58 (R.getD p 0) (u.1 58 (R.getD p 0) - 1)).1 41 = u.1 41 := uk_up_oc (by decide)
      have e42 : (uk_up u 58 (R.getD p 0) (u.1 58 (R.getD p 0) - 1)).1 42 = u.1 42 := uk_up_oc (by decide)
      obtain ⟨a, b⟩ := ih (p + 1) (uk_up u 58 (R.getD p 0) (u.1 58 (R.getD p 0) - 1)) (by omega) (by omega) (by rw [e41]; exact r1) (fun i hi => by rw [e42]; exact r2 i hi)
      refine ⟨fun c hc => (a c hc).trans (uk_up_oc hc), fun j => ?_⟩
      rw [b j, uk_up_at, cn_c]
      by_cases q : j = R.getD p 0
      · rw [if_pos ⟨rfl, q⟩, if_pos q.symm, ← nI_add, q]
        exact i_ss
      · rw [if_neg (fun z => q z.2), if_neg (fun z => q z.symm), Nat.zero_add]
theorem takeF {u : uk_Mem} {R : List Nat} {T : Nat} (f : FN u R T) (hl : R.length ≤ 128) (h8 : ∀ y, y ∈ R → y < 8) : (∀ c, ¬ c = 58 → (e_X1_takeFrom u).1 c = u.1 c) ∧ ∀ j, (e_X1_takeFrom u).1 58 j = u.1 58 j - nI (cn j R) := take6 hl h8 ee_K 0 u (by unfold ee_K; omega) (by omega) f.1 f.2.1
theorem z6 {u : uk_Mem} : ∀ (K i : Nat), 8 < i + K → i ≤ 8 → (l_X6_fitTogether_110 u K (nI i)).2 = u ∧ (((l_X6_fitTogether_110 u K (nI i)).1 = 1 ∧ ∀ j, i ≤ j → j < 8 → u.1 58 j = 0) ∨ ((l_X6_fitTogether_110 u K (nI i)).1 = 0 ∧ ∃ j, i ≤ j ∧ j < 8 ∧ ¬ u.1 58 j = 0)) := by
  intro K
  induction K with
  | zero => intro i h1 h2; omega
  | succ K ih =>
    intro i h1 h2
    rw [l_X6_fitTogether_110]
    by_cases e : i = 8
    · subst e
      rw [if_pos (show (8 : Int32) ≤ nI 8 from by decide)]
      exact ⟨rfl, Or.inl ⟨rfl, fun j j1 j2 => absurd j2 (by omega)⟩⟩
    · rw [if_neg (show ¬ (8 : Int32) ≤ nI i from nI_ge (b := 8) (by omega) (by omega)), nI_clamp (by omega), nI_1]
      dsimp only
      by_cases q : u.1 58 i = 0
      · rw [if_pos q]
        obtain ⟨a, b⟩ := ih (i + 1) (by omega) (by omega)
        refine ⟨a, ?_⟩
        rcases b with ⟨b1, b2⟩ | ⟨b1, j, j1, j2, j3⟩
        · refine Or.inl ⟨b1, fun j j1 j2 => ?_⟩
          by_cases z : j = i
          · rw [z]
            exact q
          · exact b2 j (by omega) j2
        · exact Or.inr ⟨b1, j, by omega, j2, j3⟩
      · rw [if_neg q]
        exact ⟨rfl, Or.inr ⟨rfl, i, by omega, by omega, q⟩⟩
theorem zero7 {m n : Int32} : ∀ (K i : Nat) (u : uk_Mem), 8 < i + K → i ≤ 8 → ∃ w : uk_Mem, l_X7_fitTogether_2 m n K (nI i) u = l_X7_fitTogether_23 m n ee_K 0 w ∧ (∀ c, ¬ c = 73 → w.1 c = u.1 c) ∧ ∀ j, w.1 73 j = if i ≤ j ∧ j < 8 then 0 else u.1 73 j := by
  intro K
  induction K with
  | zero => intro i u h1 h2; omega
  | succ K ih =>
    intro i u h1 h2
    rw [l_X7_fitTogether_2]
    by_cases e : i = 8
    · subst e
      rw [if_pos (show (8 : Int32) ≤ nI 8 from by decide)]
      exact ⟨u, rfl, fun _ _ => rfl, fun j => by rw [if_neg (by omega)]⟩
    · rw [if_neg (show ¬ (8 : Int32) ≤ nI i from nI_ge (b := 8) (by omega) (by omega)), nI_clamp (by omega), nI_1]
      dsimp only
      obtain ⟨w, a, b, c⟩ := ih (i + 1) (uk_up u 73 i 0) (by omega) (by omega)
      refine ⟨w, a, fun d hd => (b d hd).trans (uk_up_oc hd), fun j => ?_⟩
      rw [c j, uk_up_at]
      by_cases q : j = i
      · rw [if_neg (by omega), if_pos ⟨rfl, q⟩, if_pos (by omega)]
      · by_cases q2 : i + 1 ≤ j ∧ j < 8
        · rw [if_pos q2, if_pos (by omega)]
        · rw [if_neg q2, if_neg (fun z => q z.2), if_neg (by omega)]
theorem see7 {m n : Int32} {g : Nat → Nat} {S : Nat} (s8 : S ≤ 8) : ∀ (k p K : Nat) (u : uk_Mem), p + k = S → k < K → u.1 61 42 = nI S → (∀ i, i < S → u.1 61 (i + 43) = nI (g i) ∧ g i < 8) → ∃ w : uk_Mem, l_X7_fitTogether_23 m n K (nI p) u = l_X7_fitTogether_69 n ee_K 0 (h_X7_mills w m).2 ∧ (∀ c, ¬ c = 73 → w.1 c = u.1 c) ∧ ∀ j, w.1 73 j = u.1 73 j - nI (cn j (sl g p k)) := by
  have e42 : (42 : Int32).toNatClampNeg = 42 := rfl
  intro k
  induction k with
  | zero =>
    intro p K u hp hK h9 hg
    obtain ⟨K', rfl⟩ : ∃ K', K = K' + 1 := ⟨K - 1, by omega⟩
    rw [l_X7_fitTogether_23]
    dsimp only
    rw [e42, h9, if_pos (by rw [show p = S by omega]; exact Int32.le_refl _)]
    exact ⟨u, rfl, fun _ _ => rfl, fun j => (Int32.sub_zero _).symm⟩
  | succ k ih =>
    intro p K u hp hK h9 hg
    obtain ⟨K', rfl⟩ : ∃ K', K = K' + 1 := ⟨K - 1, by omega⟩
    obtain ⟨g1, g2⟩ := hg p (by omega)
    have e43 : ((43 : Int32) + nI p).toNatClampNeg = p + 43 := by
      rw [show (43 : Int32) = nI 43 from rfl, nI_add, nI_clamp (by omega)]
      omega
    rw [l_X7_fitTogether_23]
    dsimp only
    rw [e42, h9, if_neg (nI_ge (show p < S by omega) (by omega)), e43, g1, nI_clamp (show g p < 2147483648 by omega), nI_1]
    have e61 : (uk_up u 73 (g p) (u.1 73 (g p) - 1)).1 61 = u.1 61 := uk_up_oc (by decide)
    obtain ⟨w, e1, e2, e3⟩ := ih (p + 1) K' (uk_up u 73 (g p) (u.1 73 (g p) - 1)) (by omega) (by omega) (by rw [e61]; exact h9) (fun i hi => by rw [e61]; exact hg i hi)
    refine ⟨w, e1, fun c hc => (e2 c hc).trans (uk_up_oc hc), fun j => ?_⟩
    rw [e3 j, uk_up_at, show sl g p (k + 1) = g p :: sl g (p + 1) k from rfl, cn_c]
    by_cases q : j = g p
    · rw [if_pos ⟨rfl, q⟩, if_pos q.symm, ← nI_add, q]
      exact i_ss
    · rw [if_neg (fun z => q z.2), if_neg (fun z => q z.symm), Nat.zero_add]
theorem RLs_cg {v v' : uk_Mem} {N : Nat} {l : List Nat} {h : Nat → Int32} (r : RLs v N l h) (e0 : v'.1 60 22 = v.1 60 22) (e1 : v'.1 71 = v.1 71) (e2 : v'.1 62 = v.1 62) : RLs v' N l h := by
  unfold RLs
  rw [e0, e1, e2]
  exact r
theorem add7 {n : Int32} {N : Nat} {R : List Nat} {h : Nat → Int32} (n8 : N ≤ 8) (hl : R.length ≤ 128) (h8 : ∀ y, y ∈ R → y < 8) : ∀ (K p : Nat) (v : uk_Mem), N < p + K → p ≤ N → v.1 60 3 = nI N → RLs v N R h → ∃ w : uk_Mem, l_X7_fitTogether_69 n K (nI p) v = l_X7_fitTogether_111 (h_X7_mills w n).2 ee_K 0 1 ∧ (∀ c, ¬ c = 73 → w.1 c = v.1 c) ∧ ∀ j, w.1 73 j = if p ≤ j ∧ j < N then v.1 73 j + nI (cn j R) else v.1 73 j := by
  intro K
  induction K with
  | zero => intro p v h1 h2; omega
  | succ K ih =>
    intro p v h1 h2 hN r
    rw [l_X7_fitTogether_69]
    dsimp only
    rw [hN]
    by_cases e : p = N
    · rw [if_pos (by rw [e]; exact Int32.le_refl _)]
      exact ⟨v, rfl, fun _ _ => rfl, fun j => by rw [if_neg (by omega)]⟩
    · have hp : p < N := by omega
      rw [if_neg (nI_ge hp (by omega)), nI_clamp (show p < 2147483648 by omega), ci_e r (by omega) h8 (show p < 8 by omega), nI_1]
      have o : ∀ c, ¬ c = 73 → (uk_up v 73 p (v.1 73 p + nI (cn p R))).1 c = v.1 c := fun c hc => uk_up_oc hc
      obtain ⟨w, a, b, c⟩ := ih (p + 1) (uk_up v 73 p (v.1 73 p + nI (cn p R))) (by omega) (by omega) (by rw [o 60 (by decide)]; exact hN) (RLs_cg r (by rw [o 60 (by decide)]) (o 71 (by decide)) (o 62 (by decide)))
      refine ⟨w, a, fun d hd => (b d hd).trans (o d hd), fun j => ?_⟩
      rw [c j]
      by_cases q : j = p
      · rw [uk_up_at, if_neg (show ¬ (p + 1 ≤ j ∧ j < N) by omega), if_pos ⟨rfl, q⟩, if_pos (show p ≤ j ∧ j < N by omega), q]
      · rw [show (uk_up v 73 p (v.1 73 p + nI (cn p R))).1 73 j = v.1 73 j by rw [uk_up_at, if_neg (fun z => q z.2)]]
        by_cases q2 : p + 1 ≤ j ∧ j < N
        · rw [if_pos q2, if_pos (show p ≤ j ∧ j < N by omega)]
        · rw [if_neg q2, if_neg (show ¬ (p ≤ j ∧ j < N) by omega)]
theorem z7 {v : uk_Mem} {N : Nat} {R : List Nat} {h : Nat → Int32} (n8 : N ≤ 8) (hl : R.length ≤ 128) (h8 : ∀ y, y ∈ R → y < 8) (hN : v.1 60 3 = nI N) (r : RLs v N R h) : ∀ (K i : Nat) (w : Int32), N < i + K → i ≤ N → (l_X7_fitTogether_111 v K (nI i) w).2 = v ∧ (w = 0 → (l_X7_fitTogether_111 v K (nI i) w).1 = 0) ∧ (w = 1 → (((l_X7_fitTogether_111 v K (nI i) w).1 = 1 ∧ ∀ j, i ≤ j → j < N → v.1 73 j + nI (cn j R) = 0) ∨ ((l_X7_fitTogether_111 v K (nI i) w).1 = 0 ∧ ∃ j, i ≤ j ∧ j < N ∧ ¬ v.1 73 j + nI (cn j R) = 0))) := by
  intro K
  induction K with
  | zero => intro i w h1 h2; omega
  | succ K ih =>
    intro i w h1 h2
    rw [l_X7_fitTogether_111]
    dsimp only
    rw [hN]
    by_cases e : i = N
    · rw [if_pos (by rw [e]; exact Int32.le_refl _)]
      exact ⟨rfl, fun z => z, fun z => Or.inl ⟨z, fun j j1 j2 => absurd j2 (by omega)⟩⟩
    · have hi : i < N := by omega
      rw [if_neg (nI_ge hi (by omega)), nI_clamp (show i < 2147483648 by omega), ci_e r (by omega) h8 (show i < 8 by omega), nI_1]
      by_cases w0 : w = 0
      · rw [if_pos w0]
        obtain ⟨a, b, c⟩ := ih (i + 1) 0 (by omega) (by omega)
        exact ⟨a, fun _ => b rfl, fun z => absurd (w0.symm.trans z) (by decide)⟩
      · rw [if_neg w0]
        by_cases q : v.1 73 i + nI (cn i R) = 0
        · rw [if_pos q]
          obtain ⟨a, b, c⟩ := ih (i + 1) 1 (by omega) (by omega)
          refine ⟨a, fun z => absurd z w0, fun _ => ?_⟩
          rcases c rfl with ⟨b1, b2⟩ | ⟨b1, j, j1, j2, j3⟩
          · refine Or.inl ⟨b1, fun j j1 j2 => ?_⟩
            by_cases z : j = i
            · rw [z]
              exact q
            · exact b2 j (by omega) j2
          · exact Or.inr ⟨b1, j, by omega, j2, j3⟩
        · rw [if_neg q]
          obtain ⟨a, b, c⟩ := ih (i + 1) 0 (by omega) (by omega)
          exact ⟨a, fun z => absurd z w0, fun _ => Or.inr ⟨b rfl, i, by omega, hi, q⟩⟩
