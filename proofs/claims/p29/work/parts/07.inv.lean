/-! ranges of the locations, frames, loops -/
def uk_rngs : List (List (Nat × Int32 × Int32)) := [[(999, (-2147483648), 2147483647)], [(999, (-2147483648), 2147483647)], [(1, (-2147483648), 2147483647), (2, 0, 160), (3, 0, 160), (4, (-2147483648), 2147483647), (5, 0, 160), (999, (-2147483648), 2147483647)], [(999, (-2147483648), 2147483647)], [(1, 0, 8), (2, (-2147483648), 2147483647), (3, (-2147483648), 2147483647), (4, (-2147483648), 2147483647), (5, (-2147483648), 2147483647), (6, (-2147483648), 2147483647), (7, (-2147483648), 2147483647), (8, (-2147483648), 2147483647), (9, (-2147483648), 2147483647), (10, 0, 8), (999, (-2147483648), 2147483647)], [(999, (-2147483648), 2147483647)], [(999, 0, 7)], [(999, 0, 7)], [(999, (-2147483648), 2147483647)], [(999, (-2147483648), 2147483647)], [(999, (-2147483648), 2147483647)], [(999, (-2147483648), 2147483647)], [(999, 0, 7)], [(1, 0, 8), (2, (-2147483648), 2147483647), (3, (-2147483648), 2147483647), (4, (-2147483648), 2147483647), (5, (-2147483648), 2147483647), (6, (-2147483648), 2147483647), (7, (-2147483648), 2147483647), (8, (-2147483648), 2147483647), (9, (-2147483648), 2147483647), (10, 0, 8), (999, (-2147483648), 2147483647)], [(999, (-2147483648), 2147483647)], [(999, 0, 7)], [(999, 0, 7)], [(999, (-2147483648), 2147483647)], [(999, (-2147483648), 2147483647)], [(999, (-2147483648), 2147483647)], [(999, (-2147483648), 2147483647)], [(999, 0, 7)], [(1, 0, 8), (2, (-2147483648), 2147483647), (3, (-2147483648), 2147483647), (4, (-2147483648), 2147483647), (5, (-2147483648), 2147483647), (6, (-2147483648), 2147483647), (7, (-2147483648), 2147483647), (8, (-2147483648), 2147483647), (9, (-2147483648), 2147483647), (10, 0, 8), (999, (-2147483648), 2147483647)], [(999, (-2147483648), 2147483647)], [(999, 0, 7)], [(999, 0, 7)], [(999, (-2147483648), 2147483647)], [(999, (-2147483648), 2147483647)], [(999, (-2147483648), 2147483647)], [(999, (-2147483648), 2147483647)], [(999, 0, 7)], [(1, 0, 8), (2, (-2147483648), 2147483647), (3, (-2147483648), 2147483647), (4, (-2147483648), 2147483647), (5, (-2147483648), 2147483647), (6, (-2147483648), 2147483647), (7, (-2147483648), 2147483647), (8, (-2147483648), 2147483647), (9, (-2147483648), 2147483647), (10, 0, 8), (999, (-2147483648), 2147483647)], [(999, (-2147483648), 2147483647)], [(999, 0, 7)], [(999, 0, 7)], [(999, (-2147483648), 2147483647)], [(999, (-2147483648), 2147483647)], [(999, (-2147483648), 2147483647)], [(999, (-2147483648), 2147483647)], [(999, 0, 7)], [(999, 0, 1)], [(1, (-2147483648), 2147483647), (2, 0, 128), (3, (-2147483648), 2147483647), (4, (-2147483648), 2147483647), (5, (-2147483648), 2147483647), (6, (-2147483648), 2147483647), (7, 0, 9), (999, (-2147483648), 2147483647)], [(999, 0, 7)], [(999, (-2147483648), 2147483647)], [(999, (-2147483648), 2147483647)], [(999, 0, 7)], [(1, (-2147483648), 2147483647), (2, (-2147483648), 2147483647), (3, 0, 4), (999, (-2147483648), 2147483647)], [(999, (-2147483648), 2147483647)], [(999, (-2147483648), 2147483647)], [(999, (-2147483648), 2147483647)], [(999, (-2147483648), 2147483647)], [(999, 0, 40)], [(999, (-2147483648), 2147483647)], [(999, (-2147483648), 2147483647)], [(999, (-2147483648), 2147483647)], [(999, (-2147483648), 2147483647)], [(999, (-2147483648), 2147483647)], [(999, (-2147483648), 2147483647)], [(999, (-2147483648), 2147483647)], [(999, (-2147483648), 2147483647)], [(1, (-2147483648), 2147483647), (2, (-2147483648), 2147483647), (3, (-2147483648), 2147483647), (4, 0, 8), (5, (-2147483648), 2147483647), (6, (-2147483648), 2147483647), (7, (-2147483648), 2147483647), (8, 0, 8), (9, (-2147483648), 2147483647), (10, (-2147483648), 2147483647), (11, (-2147483648), 2147483647), (12, (-2147483648), 2147483647), (13, (-2147483648), 2147483647), (14, 0, 160), (15, 0, 160), (16, 0, 160), (17, (-2147483648), 2147483647), (18, (-2147483648), 2147483647), (19, 0, 6), (20, (-2147483648), 2147483647), (21, (-2147483648), 2147483647), (22, (-2147483648), 2147483647), (23, 0, 255), (999, (-2147483648), 2147483647)], [(8, 0, 40), (42, (-2147483648), 2147483647), (43, 0, 8), (51, 0, 7), (59, 0, 40), (93, (-2147483648), 2147483647), (94, 0, 8), (102, 0, 7), (110, 0, 40), (144, (-2147483648), 2147483647), (145, 0, 8), (153, 0, 7), (999, (-2147483648), 2147483647)], [(8, 0, 40), (42, (-2147483648), 2147483647), (43, 0, 8), (51, 0, 7), (999, (-2147483648), 2147483647)], [(999, 0, 1)], [(999, (-4), 7)], [(999, (-4), 7)], [(8, 0, 40), (42, (-2147483648), 2147483647), (43, 0, 8), (51, 0, 7), (999, (-2147483648), 2147483647)], [(999, (-4), 7)], [(999, (-4), 7)], [(999, 0, 127)], [(999, (-2147483648), 2147483647)], [(999, 0, 7)], [(999, (-2147483648), 2147483647)], [(999, (-2147483648), 2147483647)], [(999, (-2147483648), 2147483647)], [(999, 0, 40)], [(999, (-2147483648), 2147483647)], [(8, 0, 40), (42, (-2147483648), 2147483647), (43, 0, 8), (51, 0, 7), (999, (-2147483648), 2147483647)]]
def uk_pick : List (Nat × Int32 × Int32) → Nat → Int32 × Int32
  | [], _ => (-2147483648, 2147483647)
  | (b, r) :: l, i => match Nat.blt i b with
    | true => r
    | false => uk_pick l i
def uk_rg (c i : Nat) : Int32 × Int32 := uk_pick (uk_rngs.getD c []) i
/-- every int is in its range -/
def iv (u : uk_Mem) : Prop := ∀ c i, (uk_rg c i).1 ≤ u.1 c i ∧ u.1 c i ≤ (uk_rg c i).2
theorem iv_at {u : uk_Mem} (h : iv u) (c i : Nat) {lo hi : Int32} (e : uk_rg c i = (lo, hi)) : lo ≤ u.1 c i ∧ u.1 c i ≤ hi := by
  have := h c i
  rw [e] at this
  exact this
theorem iv_up {u : uk_Mem} (h : iv u) {c i : Nat} {x lo hi : Int32} (e : uk_rg c i = (lo, hi)) (h1 : lo ≤ x) (h2 : x ≤ hi) : iv (uk_up u c i x) := by
  intro b j
  rw [uk_up_at]
  split
  · rename_i q
    rw [q.1, q.2, e]
    exact ⟨h1, h2⟩
  · exact h b j
theorem iv_upL {u : uk_Mem} (h : iv u) {c i : Nat} {x : Int64} : iv (uk_upL u c i x) := h
theorem uk_mn (x : Int32) : -2147483648 ≤ x := by
  have := Int32.minValue_le x
  exact this
theorem uk_mx (x : Int32) : x ≤ 2147483647 := by
  have := Int32.le_maxValue x
  exact this
theorem iv_upF {u : uk_Mem} (h : iv u) {c i : Nat} {x : Int32} (e : uk_rg c i = (-2147483648, 2147483647)) : iv (uk_up u c i x) := iv_up h e (uk_mn x) (uk_mx x)
def fr (a b : Nat) (u u' : uk_Mem) : Prop := (∀ c, (c < a ∨ b ≤ c) → u'.1 c = u.1 c) ∧ ∀ c, (c < a ∨ b ≤ c) → u'.2 c = u.2 c
theorem fr_rf {a b : Nat} {u : uk_Mem} : fr a b u u := ⟨fun _ _ => rfl, fun _ _ => rfl⟩
theorem fr_up {a b c i : Nat} {x : Int32} {u u' : uk_Mem} (h : fr a b u u') (h1 : a ≤ c) (h2 : c < b) : fr a b u (uk_up u' c i x) := ⟨fun e he => by
  rw [← h.1 e he]
  unfold uk_up
  dsimp only
  rw [if_neg (by omega)], h.2⟩
theorem fr_upL {a b c i : Nat} {x : Int64} {u u' : uk_Mem} (h : fr a b u u') (h1 : a ≤ c) (h2 : c < b) : fr a b u (uk_upL u' c i x) := ⟨h.1, fun e he => by
  rw [← h.2 e he]
  unfold uk_upL
  dsimp only
  rw [if_neg (by omega)]⟩
theorem fr_tr {a b a' b' : Nat} {u u' u'' : uk_Mem} (h : fr a b u u') (h' : fr a' b' u' u'') (h1 : a ≤ a') (h2 : b' ≤ b) : fr a b u u'' := ⟨fun c hc => (h'.1 c (by omega)).trans (h.1 c hc), fun c hc => (h'.2 c (by omega)).trans (h.2 c hc)⟩
theorem fr_at {a b c i : Nat} {u u' : uk_Mem} (h : fr a b u u') (hc : c < a ∨ b ≤ c) : u'.1 c i = u.1 c i := by rw [h.1 c hc]
theorem uk_vin {i : Int32} {n : Nat} (N : Int32) (hN : N.toInt = (n : Int)) (h0 : 0 ≤ i) (h1 : i < N) : vp_in i n := by
  rw [vp_in_iff]
  have a := Int32.le_iff_toInt_le.mp h0
  have b := Int32.lt_iff_toInt_lt.mp h1
  rw [hN] at b
  exact ⟨a, b⟩
theorem uk_cl {i : Int32} {n : Nat} (h : vp_in i n) : i.toNatClampNeg < n := Nat.not_le.mp fun q => h (Or.inr q)
/-- a counter goes up to B -/
theorem uk_upl {P : Int32 → Prop} (B : Int32) (h : ∀ i, 0 ≤ i → i ≤ B → (i < B → P (i + 1)) → P i) : ∀ i, 0 ≤ i → i ≤ B → P i := by
  have key : ∀ (n : Nat) (i : Int32), 0 ≤ i → i ≤ B → (B.toInt - i.toInt).toNat ≤ n → P i := by
    intro n
    induction n with
    | zero =>
      intro i h0 h1 h2
      refine h i h0 h1 (fun q => ?_)
      have := Int32.lt_iff_toInt_lt.mp q
      omega
    | succ n ih =>
      intro i h0 h1 h2
      refine h i h0 h1 (fun q => ih (i + 1) (by grind) (by grind) ?_)
      have a := Int32.lt_iff_toInt_lt.mp q
      have b := Int32.le_iff_toInt_le.mp h0
      have c : (i + 1).toInt = i.toInt + 1 := by
        have e : (1 : Int32).toInt = 1 := rfl
        have m : B.toInt < 2147483648 := Int32.toInt_lt B
        have z : (0 : Int32).toInt = 0 := rfl
        rw [Int32.toInt_add, e]
        exact Int.bmod_eq_of_le (by omega) (by omega)
      omega
  exact fun i h0 h1 => key _ i h0 h1 (Nat.le_refl _)
/-- a counter goes down to -1 -/
theorem uk_dnl {P : Int32 → Prop} (h : ∀ i, -1 ≤ i → (0 ≤ i → P (i - 1)) → P i) : ∀ i, -1 ≤ i → P i := by
  have key : ∀ (n : Nat) (i : Int32), -1 ≤ i → (i.toInt + 1).toNat ≤ n → P i := by
    intro n
    induction n with
    | zero =>
      intro i h0 h2
      refine h i h0 (fun q => ?_)
      have := Int32.le_iff_toInt_le.mp q
      have z : (0 : Int32).toInt = 0 := rfl
      omega
    | succ n ih =>
      intro i h0 h2
      refine h i h0 (fun q => ih (i - 1) (by grind) ?_)
      have b := Int32.le_iff_toInt_le.mp q
      have z : (0 : Int32).toInt = 0 := rfl
      have c : (i - 1).toInt = i.toInt - 1 := by
        have e : (1 : Int32).toInt = 1 := rfl
        have m : i.toInt < 2147483648 := Int32.toInt_lt i
        rw [Int32.toInt_sub, e]
        exact Int.bmod_eq_of_le (by omega) (by omega)
      omega
  exact fun i h0 => key _ i h0 (Nat.le_refl _)
theorem uk_pick1 {lo hi : Int32} (i : Nat) (h : i < 999) : uk_pick [(999, lo, hi)] i = (lo, hi) := by
  have : Nat.blt i 999 = true := by
    rw [Nat.blt_eq]
    exact h
  unfold uk_pick
  rw [this]
/-- a kitchen's cells -/
def uk_isK (k : Nat) : Prop := k = 4 ∨ k = 13 ∨ k = 22 ∨ k = 31
theorem kk_0 {k : Nat} (h : uk_isK k) : uk_kind k = 0 := by rcases h with rfl | rfl | rfl | rfl <;> rfl
theorem kk_1 {k : Nat} (h : uk_isK k) : uk_kind (k + 1) = 8 := by rcases h with rfl | rfl | rfl | rfl <;> rfl
theorem kl_1 {k : Nat} (h : uk_isK k) : uk_len (k + 1) = 8 := by rcases h with rfl | rfl | rfl | rfl <;> rfl
theorem ka_1 {k : Nat} (h : uk_isK k) (i : Nat) (hi : i < 999) : uk_rg (k + 1) i = ((-2147483648), 2147483647) := by rcases h with rfl | rfl | rfl | rfl <;> exact uk_pick1 i hi
theorem kk_2 {k : Nat} (h : uk_isK k) : uk_kind (k + 2) = 8 := by rcases h with rfl | rfl | rfl | rfl <;> rfl
theorem kl_2 {k : Nat} (h : uk_isK k) : uk_len (k + 2) = 8 := by rcases h with rfl | rfl | rfl | rfl <;> rfl
theorem ka_2 {k : Nat} (h : uk_isK k) (i : Nat) (hi : i < 999) : uk_rg (k + 2) i = (0, 7) := by rcases h with rfl | rfl | rfl | rfl <;> exact uk_pick1 i hi
theorem kk_3 {k : Nat} (h : uk_isK k) : uk_kind (k + 3) = 8 := by rcases h with rfl | rfl | rfl | rfl <;> rfl
theorem kl_3 {k : Nat} (h : uk_isK k) : uk_len (k + 3) = 8 := by rcases h with rfl | rfl | rfl | rfl <;> rfl
theorem ka_3 {k : Nat} (h : uk_isK k) (i : Nat) (hi : i < 999) : uk_rg (k + 3) i = (0, 7) := by rcases h with rfl | rfl | rfl | rfl <;> exact uk_pick1 i hi
theorem kk_4 {k : Nat} (h : uk_isK k) : uk_kind (k + 4) = 8 := by rcases h with rfl | rfl | rfl | rfl <;> rfl
theorem kl_4 {k : Nat} (h : uk_isK k) : uk_len (k + 4) = 8 := by rcases h with rfl | rfl | rfl | rfl <;> rfl
theorem ka_4 {k : Nat} (h : uk_isK k) (i : Nat) (hi : i < 999) : uk_rg (k + 4) i = ((-2147483648), 2147483647) := by rcases h with rfl | rfl | rfl | rfl <;> exact uk_pick1 i hi
theorem kk_5 {k : Nat} (h : uk_isK k) : uk_kind (k + 5) = 8 := by rcases h with rfl | rfl | rfl | rfl <;> rfl
theorem kl_5 {k : Nat} (h : uk_isK k) : uk_len (k + 5) = 8 := by rcases h with rfl | rfl | rfl | rfl <;> rfl
theorem ka_5 {k : Nat} (h : uk_isK k) (i : Nat) (hi : i < 999) : uk_rg (k + 5) i = ((-2147483648), 2147483647) := by rcases h with rfl | rfl | rfl | rfl <;> exact uk_pick1 i hi
theorem kk_6 {k : Nat} (h : uk_isK k) : uk_kind (k + 6) = 8 := by rcases h with rfl | rfl | rfl | rfl <;> rfl
theorem kl_6 {k : Nat} (h : uk_isK k) : uk_len (k + 6) = 8 := by rcases h with rfl | rfl | rfl | rfl <;> rfl
theorem ka_6 {k : Nat} (h : uk_isK k) (i : Nat) (hi : i < 999) : uk_rg (k + 6) i = ((-2147483648), 2147483647) := by rcases h with rfl | rfl | rfl | rfl <;> exact uk_pick1 i hi
theorem kk_7 {k : Nat} (h : uk_isK k) : uk_kind (k + 7) = 8 := by rcases h with rfl | rfl | rfl | rfl <;> rfl
theorem kl_7 {k : Nat} (h : uk_isK k) : uk_len (k + 7) = 8 := by rcases h with rfl | rfl | rfl | rfl <;> rfl
theorem ka_7 {k : Nat} (h : uk_isK k) (i : Nat) (hi : i < 999) : uk_rg (k + 7) i = ((-2147483648), 2147483647) := by rcases h with rfl | rfl | rfl | rfl <;> exact uk_pick1 i hi
theorem kk_8 {k : Nat} (h : uk_isK k) : uk_kind (k + 8) = 8 := by rcases h with rfl | rfl | rfl | rfl <;> rfl
theorem kl_8 {k : Nat} (h : uk_isK k) : uk_len (k + 8) = 8 := by rcases h with rfl | rfl | rfl | rfl <;> rfl
theorem ka_8 {k : Nat} (h : uk_isK k) (i : Nat) (hi : i < 999) : uk_rg (k + 8) i = (0, 7) := by rcases h with rfl | rfl | rfl | rfl <;> exact uk_pick1 i hi
theorem kr_0 {k : Nat} (h : uk_isK k) : uk_rg k 0 = (0, 8) := by rcases h with rfl | rfl | rfl | rfl <;> rfl
theorem kr_9 {k : Nat} (h : uk_isK k) : uk_rg k 9 = (0, 8) := by rcases h with rfl | rfl | rfl | rfl <;> rfl
theorem kr_10 {k : Nat} (h : uk_isK k) : uk_rg k 10 = (-2147483648, 2147483647) := by rcases h with rfl | rfl | rfl | rfl <;> rfl
theorem kr_11 {k : Nat} (h : uk_isK k) : uk_rg k 11 = (-2147483648, 2147483647) := by rcases h with rfl | rfl | rfl | rfl <;> rfl
theorem uk_isK4 : uk_isK 4 := Or.inl rfl
theorem uk_isK13 : uk_isK 13 := Or.inr (Or.inl rfl)
theorem uk_isK22 : uk_isK 22 := Or.inr (Or.inr (Or.inl rfl))
theorem uk_isK31 : uk_isK 31 := Or.inr (Or.inr (Or.inr rfl))
section UKN
variable {G : uk_D} {X : uk_Cx} {M : uk_M} {d : Nat} {Q : Option Value → uk_Mem → Prop} {pc : Nat} {lv : List (Nat × Value)} {st : List Value} {u : uk_Mem}
theorem g_topi {x : Int32} (k : ∀ y : Int32, y = x → uk_G G X M d Q pc lv (.int y :: st) u) : uk_G G X M d Q pc lv (.int x :: st) u := k x rfl
theorem g_topl {x : Int64} (k : ∀ y : Int64, y = x → uk_G G X M d Q pc lv (.long y :: st) u) : uk_G G X M d Q pc lv (.long x :: st) u := k x rfl
theorem g_mem (k : ∀ v : uk_Mem, v = u → uk_G G X M d Q pc lv st v) : uk_G G X M d Q pc lv st u := k u rfl
end UKN
