/-! ranges of the locations, frames, loops -/
def uk_rngs : List (List (Nat × Int32 × Int32)) := [[(999, (-2147483648), 2147483647)], [(999, (-2147483648), 2147483647)], [(1, (-2147483648), 2147483647), (2, 0, 160), (3, 0, 160), (4, (-2147483648), 2147483647), (5, 0, 160), (999, (-2147483648), 2147483647)], [(999, (-2147483648), 2147483647)], [(1, 0, 8), (2, (-2147483648), 2147483647), (3, (-2147483648), 2147483647), (4, (-2147483648), 2147483647), (5, (-2147483648), 2147483647), (6, (-2147483648), 2147483647), (7, (-2147483648), 2147483647), (8, (-2147483648), 2147483647), (9, (-2147483648), 2147483647), (10, 0, 8), (999, (-2147483648), 2147483647)], [(999, (-2147483648), 2147483647)], [(999, 0, 7)], [(999, 0, 7)], [(999, (-2147483648), 2147483647)], [(999, (-2147483648), 2147483647)], [(999, (-2147483648), 2147483647)], [(999, (-2147483648), 2147483647)], [(999, 0, 7)], [(1, 0, 8), (2, (-2147483648), 2147483647), (3, (-2147483648), 2147483647), (4, (-2147483648), 2147483647), (5, (-2147483648), 2147483647), (6, (-2147483648), 2147483647), (7, (-2147483648), 2147483647), (8, (-2147483648), 2147483647), (9, (-2147483648), 2147483647), (10, 0, 8), (999, (-2147483648), 2147483647)], [(999, (-2147483648), 2147483647)], [(999, 0, 7)], [(999, 0, 7)], [(999, (-2147483648), 2147483647)], [(999, (-2147483648), 2147483647)], [(999, (-2147483648), 2147483647)], [(999, (-2147483648), 2147483647)], [(999, 0, 7)], [(1, 0, 8), (2, (-2147483648), 2147483647), (3, (-2147483648), 2147483647), (4, (-2147483648), 2147483647), (5, (-2147483648), 2147483647), (6, (-2147483648), 2147483647), (7, (-2147483648), 2147483647), (8, (-2147483648), 2147483647), (9, (-2147483648), 2147483647), (10, 0, 8), (999, (-2147483648), 2147483647)], [(999, (-2147483648), 2147483647)], [(999, 0, 7)], [(999, 0, 7)], [(999, (-2147483648), 2147483647)], [(999, (-2147483648), 2147483647)], [(999, (-2147483648), 2147483647)], [(999, (-2147483648), 2147483647)], [(999, 0, 7)], [(1, 0, 8), (2, (-2147483648), 2147483647), (3, (-2147483648), 2147483647), (4, (-2147483648), 2147483647), (5, (-2147483648), 2147483647), (6, (-2147483648), 2147483647), (7, (-2147483648), 2147483647), (8, (-2147483648), 2147483647), (9, (-2147483648), 2147483647), (10, 0, 8), (999, (-2147483648), 2147483647)], [(999, (-2147483648), 2147483647)], [(999, 0, 7)], [(999, 0, 7)], [(999, (-2147483648), 2147483647)], [(999, (-2147483648), 2147483647)], [(999, (-2147483648), 2147483647)], [(999, (-2147483648), 2147483647)], [(999, 0, 7)], [(999, 0, 1)], [(1, (-2147483648), 2147483647), (2, 0, 128), (3, (-2147483648), 2147483647), (4, (-2147483648), 2147483647), (5, (-2147483648), 2147483647), (6, (-2147483648), 2147483647), (7, 0, 9), (999, (-2147483648), 2147483647)], [(999, 0, 7)], [(999, (-2147483648), 2147483647)], [(999, (-2147483648), 2147483647)], [(999, 0, 7)], [(1, (-2147483648), 2147483647), (2, (-2147483648), 2147483647), (3, 0, 4), (999, (-2147483648), 2147483647)], [(999, (-2147483648), 2147483647)], [(999, (-2147483648), 2147483647)], [(999, (-2147483648), 2147483647)], [(999, (-2147483648), 2147483647)], [(999, 0, 40)], [(999, (-2147483648), 2147483647)], [(999, (-2147483648), 2147483647)], [(999, (-2147483648), 2147483647)], [(999, (-2147483648), 2147483647)], [(999, (-2147483648), 2147483647)], [(999, (-2147483648), 2147483647)], [(999, (-2147483648), 2147483647)], [(999, (-2147483648), 2147483647)], [(1, (-2147483648), 2147483647), (2, (-2147483648), 2147483647), (3, (-2147483648), 2147483647), (4, 0, 8), (5, (-2147483648), 2147483647), (6, (-2147483648), 2147483647), (7, (-2147483648), 2147483647), (8, 0, 8), (9, (-2147483648), 2147483647), (10, (-2147483648), 2147483647), (11, (-2147483648), 2147483647), (12, (-2147483648), 2147483647), (13, (-2147483648), 2147483647), (14, 0, 160), (15, 0, 160), (16, 0, 160), (17, (-2147483648), 2147483647), (18, (-2147483648), 2147483647), (19, 0, 6), (20, (-2147483648), 2147483647), (21, (-2147483648), 2147483647), (22, (-2147483648), 2147483647), (23, 0, 255), (999, (-2147483648), 2147483647)], [(8, 0, 40), (42, (-2147483648), 2147483647), (43, 0, 8), (51, 0, 7), (59, 0, 40), (93, (-2147483648), 2147483647), (94, 0, 8), (102, 0, 7), (110, 0, 40), (144, (-2147483648), 2147483647), (145, 0, 8), (153, 0, 7), (999, (-2147483648), 2147483647)], [(8, 0, 40), (42, (-2147483648), 2147483647), (43, 0, 8), (51, 0, 7), (999, (-2147483648), 2147483647)], [(999, 0, 1)], [(999, (-4), 7)], [(999, (-4), 7)], [(8, 0, 40), (42, (-2147483648), 2147483647), (43, 0, 8), (51, 0, 7), (999, (-2147483648), 2147483647)], [(999, (-4), 7)], [(999, (-4), 7)], [(999, 0, 127)], [(999, (-2147483648), 2147483647)], [(999, 0, 7)], [(999, (-2147483648), 2147483647)], [(999, (-2147483648), 2147483647)], [(999, (-2147483648), 2147483647)], [(999, 0, 40)], [(999, (-2147483648), 2147483647)], [(8, 0, 40), (42, (-2147483648), 2147483647), (43, 0, 8), (51, 0, 7), (999, (-2147483648), 2147483647)]]
def uk_pick : List (Nat × Int32 × Int32) → Nat → Int32 × Int32
  | [], _ => (-2147483648, 2147483647)
  | (b, r) :: l, i => match Nat.blt i b with
    | true => r
    | false => uk_pick l i
def uk_rg (c i : Nat) : Int32 × Int32 := uk_pick (uk_rngs.getD c []) i
/-- every int is in its range -/
def iv (u : uk_Mem) : Prop := ∀ c i, (uk_rg c i).1 ≤ u.1 c i ∧ u.1 c i ≤ (uk_rg c i).2
theorem iv_at {u : uk_Mem} (h : iv u) (c i : Nat) {lo hi : Int32} (e : uk_rg c i = (lo, hi)) : lo ≤ u.1 c i ∧ u.1 c i ≤ hi := by
  have := h c i
  rw [e] at this
  exact this
theorem iv_up {u : uk_Mem} (h : iv u) {c i : Nat} {x lo hi : Int32} (e : uk_rg c i = (lo, hi)) (h1 : lo ≤ x) (h2 : x ≤ hi) : iv (uk_up u c i x) := by
  intro b j
  rw [uk_up_at]
  split
  · rename_i q
    rw [q.1, q.2, e]
    exact ⟨h1, h2⟩
  · exact h b j
theorem iv_upL {u : uk_Mem} (h : iv u) {c i : Nat} {x : Int64} : iv (uk_upL u c i x) := h
theorem uk_mn (x : Int32) : -2147483648 ≤ x := by
  have := Int32.minValue_le x
  exact this
theorem uk_mx (x : Int32) : x ≤ 2147483647 := by
  have := Int32.le_maxValue x
  exact this
theorem iv_upF {u : uk_Mem} (h : iv u) {c i : Nat} {x : Int32} (e : uk_rg c i = (-2147483648, 2147483647)) : iv (uk_up u c i x) := iv_up h e (uk_mn x) (uk_mx x)
def fr (a b : Nat) (u u' : uk_Mem) : Prop := (∀ c, (c < a ∨ b ≤ c) → u'.1 c = u.1 c) ∧ ∀ c, (c < a ∨ b ≤ c) → u'.2 c = u.2 c
theorem fr_rf {a b : Nat} {u : uk_Mem} : fr a b u u := ⟨fun _ _ => rfl, fun _ _ => rfl⟩
theorem fr_up {a b c i : Nat} {x : Int32} {u u' : uk_Mem} (h : fr a b u u') (h1 : a ≤ c) (h2 : c < b) : fr a b u (uk_up u' c i x) := ⟨fun e he => by
  rw [← h.1 e he]
  unfold uk_up
  dsimp only
  rw [if_neg (by omega)], h.2⟩
theorem fr_upL {a b c i : Nat} {x : Int64} {u u' : uk_Mem} (h : fr a b u u') (h1 : a ≤ c) (h2 : c < b) : fr a b u (uk_upL u' c i x) := ⟨h.1, fun e he => by
  rw [← h.2 e he]
  unfold uk_upL
  dsimp only
  rw [if_neg (by omega)]⟩
theorem fr_tr {a b a' b' : Nat} {u u' u'' : uk_Mem} (h : fr a b u u') (h' : fr a' b' u' u'') (h1 : a ≤ a') (h2 : b' ≤ b) : fr a b u u'' := ⟨fun c hc => (h'.1 c (by omega)).trans (h.1 c hc), fun c hc => (h'.2 c (by omega)).trans (h.2 c hc)⟩
theorem fr_at {a b c i : Nat} {u u' : uk_Mem} (h : fr a b u u') (hc : c < a ∨ b ≤ c) : u'.1 c i = u.1 c i := by rw [h.1 c hc]
theorem uk_vin {i : Int32} {n : Nat} (N : Int32) (hN : N.toInt = (n : Int)) (h0 : 0 ≤ i) (h1 : i < N) : vp_in i n := by
  rw [vp_in_iff]
  have a := Int32.le_iff_toInt_le.mp h0
  have b := Int32.lt_iff_toInt_lt.mp h1
  rw [hN] at b
  exact ⟨a, b⟩
theorem uk_cl {i : Int32} {n : Nat} (h : vp_in i n) : i.toNatClampNeg < n := Nat.not_le.mp fun q => h (Or.inr q)
/-- a counter goes up to B -/
theorem uk_upl {P : Int32 → Prop} (B : Int32) (h : ∀ i, 0 ≤ i → i ≤ B → (i < B → P (i + 1)) → P i) : ∀ i, 0 ≤ i → i ≤ B → P i := by
  have key : ∀ (n : Nat) (i : Int32), 0 ≤ i → i ≤ B → (B.toInt - i.toInt).toNat ≤ n → P i := by
    intro n
    induction n with
    | zero =>
      intro i h0 h1 h2
      refine h i h0 h1 (fun q => ?_)
      have := Int32.lt_iff_toInt_lt.mp q
      omega
    | succ n ih =>
      intro i h0 h1 h2
      refine h i h0 h1 (fun q => ih (i + 1) (by grind) (by grind) ?_)
      have a := Int32.lt_iff_toInt_lt.mp q
      have b := Int32.le_iff_toInt_le.mp h0
      have c : (i + 1).toInt = i.toInt + 1 := by
        have e : (1 : Int32).toInt = 1 := rfl
        have m : B.toInt < 2147483648 := Int32.toInt_lt B
        have z : (0 : Int32).toInt = 0 := rfl
        rw [Int32.toInt_add, e]
        exact Int.bmod_eq_of_le (by omega) (by omega)
      omega
  exact fun i h0 h1 => key _ i h0 h1 (Nat.le_refl _)
/-- a counter goes down to -1 -/
theorem uk_dnl {P : Int32 → Prop} (h : ∀ i, -1 ≤ i → (0 ≤ i → P (i - 1)) → P i) : ∀ i, -1 ≤ i → P i := by
  have key : ∀ (n : Nat) (i : Int32), -1 ≤ i → (i.toInt + 1).toNat ≤ n → P i := by
    intro n
    induction n with
    | zero =>
      intro i h0 h2
      refine h i h0 (fun q => ?_)
      have := Int32.le_iff_toInt_le.mp q
      have z : (0 : Int32).toInt = 0 := rfl
      omega
    | succ n ih =>
      intro i h0 h2
      refine h i h0 (fun q => ih (i - 1) (by grind) ?_)
      have b := Int32.le_iff_toInt_le.mp q
      have z : (0 : Int32).toInt = 0 := rfl
      have c : (i - 1).toInt = i.toInt - 1 := by
        have e : (1 : Int32).toInt = 1 := rfl
        have m : i.toInt < 2147483648 := Int32.toInt_lt i
        rw [Int32.toInt_sub, e]
        exact Int.bmod_eq_of_le (by omega) (by omega)
      omega
  exact fun i h0 => key _ i h0 (Nat.le_refl _)
theorem uk_pick1 {lo hi : Int32} (i : Nat) (h : i < 999) : uk_pick [(999, lo, hi)] i = (lo, hi) := by
  have : Nat.blt i 999 = true := by
    rw [Nat.blt_eq]
    exact h
  unfold uk_pick
  rw [this]
/-- a kitchen's cells -/
def uk_isK (k : Nat) : Prop := k = 4 ∨ k = 13 ∨ k = 22 ∨ k = 31
theorem kk_0 {k : Nat} (h : uk_isK k) : uk_kind k = 0 := by rcases h with rfl | rfl | rfl | rfl <;> rfl
theorem kk_1 {k : Nat} (h : uk_isK k) : uk_kind (k + 1) = 8 := by rcases h with rfl | rfl | rfl | rfl <;> rfl
theorem kl_1 {k : Nat} (h : uk_isK k) : uk_len (k + 1) = 8 := by rcases h with rfl | rfl | rfl | rfl <;> rfl
theorem ka_1 {k : Nat} (h : uk_isK k) (i : Nat) (hi : i < 999) : uk_rg (k + 1) i = ((-2147483648), 2147483647) := by rcases h with rfl | rfl | rfl | rfl <;> exact uk_pick1 i hi
theorem kk_2 {k : Nat} (h : uk_isK k) : uk_kind (k + 2) = 8 := by rcases h with rfl | rfl | rfl | rfl <;> rfl
theorem kl_2 {k : Nat} (h : uk_isK k) : uk_len (k + 2) = 8 := by rcases h with rfl | rfl | rfl | rfl <;> rfl
theorem ka_2 {k : Nat} (h : uk_isK k) (i : Nat) (hi : i < 999) : uk_rg (k + 2) i = (0, 7) := by rcases h with rfl | rfl | rfl | rfl <;> exact uk_pick1 i hi
theorem kk_3 {k : Nat} (h : uk_isK k) : uk_kind (k + 3) = 8 := by rcases h with rfl | rfl | rfl | rfl <;> rfl
theorem kl_3 {k : Nat} (h : uk_isK k) : uk_len (k + 3) = 8 := by rcases h with rfl | rfl | rfl | rfl <;> rfl
theorem ka_3 {k : Nat} (h : uk_isK k) (i : Nat) (hi : i < 999) : uk_rg (k + 3) i = (0, 7) := by rcases h with rfl | rfl | rfl | rfl <;> exact uk_pick1 i hi
theorem kk_4 {k : Nat} (h : uk_isK k) : uk_kind (k + 4) = 8 := by rcases h with rfl | rfl | rfl | rfl <;> rfl
theorem kl_4 {k : Nat} (h : uk_isK k) : uk_len (k + 4) = 8 := by rcases h with rfl | rfl | rfl | rfl <;> rfl
theorem ka_4 {k : Nat} (h : uk_isK k) (i : Nat) (hi : i < 999) : uk_rg (k + 4) i = ((-2147483648), 2147483647) := by rcases h with rfl | rfl | rfl | rfl <;> exact uk_pick1 i hi
theorem kk_5 {k : Nat} (h : uk_isK k) : uk_kind (k + 5) = 8 := by rcases h with rfl | rfl | rfl | rfl <;> rfl
theorem kl_5 {k : Nat} (h : uk_isK k) : uk_len (k + 5) = 8 := by rcases h with rfl | rfl | rfl | rfl <;> rfl
theorem ka_5 {k : Nat} (h : uk_isK k) (i : Nat) (hi : i < 999) : uk_rg (k + 5) i = ((-2147483648), 2147483647) := by rcases h with rfl | rfl | rfl | rfl <;> exact uk_pick1 i hi
theorem kk_6 {k : Nat} (h : uk_isK k) : uk_kind (k + 6) = 8 := by rcases h with rfl | rfl | rfl | rfl <;> rfl
theorem kl_6 {k : Nat} (h : uk_isK k) : uk_len (k + 6) = 8 := by rcases h with rfl | rfl | rfl | rfl <;> rfl
theorem ka_6 {k : Nat} (h : uk_isK k) (i : Nat) (hi : i < 999) : uk_rg (k + 6) i = ((-2147483648), 2147483647) := by rcases h with rfl | rfl | rfl | rfl <;> exact uk_pick1 i hi
theorem kk_7 {k : Nat} (h : uk_isK k) : uk_kind (k + 7) = 8 := by rcases h with rfl | rfl | rfl | rfl <;> rfl
theorem kl_7 {k : Nat} (h : uk_isK k) : uk_len (k + 7) = 8 := by rcases h with rfl | rfl | rfl | rfl <;> rfl
theorem ka_7 {k : Nat} (h : uk_isK k) (i : Nat) (hi : i < 999) : uk_rg (k + 7) i = ((-2147483648), 2147483647) := by rcases h with rfl | rfl | rfl | rfl <;> exact uk_pick1 i hi
theorem kk_8 {k : Nat} (h : uk_isK k) : uk_kind (k + 8) = 8 := by rcases h with rfl | rfl | rfl | rfl <;> rfl
theorem kl_8 {k : Nat} (h : uk_isK k) : uk_len (k + 8) = 8 := by rcases h with rfl | rfl | rfl | rfl <;> rfl
theorem ka_8 {k : Nat} (h : uk_isK k) (i : Nat) (hi : i < 999) : uk_rg (k + 8) i = (0, 7) := by rcases h with rfl | rfl | rfl | rfl <;> exact uk_pick1 i hi
theorem kr_0 {k : Nat} (h : uk_isK k) : uk_rg k 0 = (0, 8) := by rcases h with rfl | rfl | rfl | rfl <;> rfl
theorem kr_9 {k : Nat} (h : uk_isK k) : uk_rg k 9 = (0, 8) := by rcases h with rfl | rfl | rfl | rfl <;> rfl
theorem kr_10 {k : Nat} (h : uk_isK k) : uk_rg k 10 = (-2147483648, 2147483647) := by rcases h with rfl | rfl | rfl | rfl <;> rfl
theorem kr_11 {k : Nat} (h : uk_isK k) : uk_rg k 11 = (-2147483648, 2147483647) := by rcases h with rfl | rfl | rfl | rfl <;> rfl
theorem uk_isK4 : uk_isK 4 := Or.inl rfl
theorem uk_isK13 : uk_isK 13 := Or.inr (Or.inl rfl)
theorem uk_isK22 : uk_isK 22 := Or.inr (Or.inr (Or.inl rfl))
theorem uk_isK31 : uk_isK 31 := Or.inr (Or.inr (Or.inr rfl))
section UKN
variable {G : uk_D} {X : uk_Cx} {M : uk_M} {d : Nat} {Q : Option Value → uk_Mem → Prop} {pc : Nat} {lv : List (Nat × Value)} {st : List Value} {u : uk_Mem}
theorem g_topi {x : Int32} (k : ∀ y : Int32, y = x → uk_G G X M d Q pc lv (.int y :: st) u) : uk_G G X M d Q pc lv (.int x :: st) u := k x rfl
theorem g_topl {x : Int64} (k : ∀ y : Int64, y = x → uk_G G X M d Q pc lv (.long y :: st) u) : uk_G G X M d Q pc lv (.long x :: st) u := k x rfl
theorem g_mem (k : ∀ v : uk_Mem, v = u → uk_G G X M d Q pc lv st v) : uk_G G X M d Q pc lv st u := k u rfl
end UKN
theorem uk_m1 (x : Int32) : x + Int32.ofInt (-1) = x - 1 := by
  rw [Int32.sub_eq_add_neg]
  rfl
theorem uk_nb {x : Int32} (h : x = 0 ∨ x = 1) : narrow .boolean (.int x) = .int x := by
  rcases h with rfl | rfl <;> rfl
theorem uk_swo {x : Int32} (lo hi : Int32) {L H : Int} (hl : lo.toInt = L) (hh : hi.toInt = H) (h : x < lo ∨ hi < x) : x.toInt < L ∨ H < x.toInt := by
  rw [← hl, ← hh]
  exact h.imp Int32.lt_iff_toInt_lt.mp Int32.lt_iff_toInt_lt.mp
theorem uk_M1 : Cond.methodLink RX0 93 Lib.Math.max.name ∈ uk_w := uk_wI (List.mem_of_getElem? (i := 616) (by decide +kernel)) rfl
theorem uk_M2 : Cond.static Lib.Math.max.name ∈ uk_w := uk_wI (List.mem_of_getElem? (i := 617) (by decide +kernel)) rfl
theorem uk_M3 : Cond.initialized "java/lang/Math" ∈ uk_w := uk_wI (List.mem_of_getElem? (i := 13) (by decide +kernel)) rfl
theorem uk_M4 : Cond.code Lib.Math.max.name Lib.Math.max.code 2 (some .int) ∈ uk_w := uk_wI (List.mem_of_getElem? (i := 618) (by decide +kernel)) rfl
theorem uk_A1 : Cond.methodLink RX0 88 Lib.Math.abs.name ∈ uk_w := uk_wI (List.mem_of_getElem? (i := 613) (by decide +kernel)) rfl
theorem uk_A2 : Cond.static Lib.Math.abs.name ∈ uk_w := uk_wI (List.mem_of_getElem? (i := 614) (by decide +kernel)) rfl
theorem uk_A4 : Cond.code Lib.Math.abs.name Lib.Math.abs.code 1 (some .int) ∈ uk_w := uk_wI (List.mem_of_getElem? (i := 615) (by decide +kernel)) rfl
section UKX
variable {G : uk_D} {X : uk_Cx} {M : uk_M} {d : Nat} {Q : Option Value → uk_Mem → Prop} {pc : Nat} {lv lv' : List (Nat × Value)} {st : List Value} {u : uk_Mem}
theorem g_pick (ks : List Nat) (e : lv_pick lv ks = lv') (k : uk_G G X M d Q pc lv' st u) : uk_G G X M d Q pc lv st u := fun hO ls H locs hl hP hS => k hO ls H locs (lv_sub hl ks e) hP hS
theorem g_mmax {x y : Int32} (hM : M.1.cls = RX0) (hn : 1 ≤ d) (hc : (st.map fun v => v.category).sum ≤ 8) (hd : decode M.2.1 pc = .ok (.invokestatic 93, 3)) (k : uk_G G X M d Q (pc + 3) lv (.int (if x < y then y else x) :: st) u) : uk_G G X M d Q pc lv (.int y :: .int x :: st) u := fun hO ls H locs hl hP hS => by
  obtain ⟨r1, r2, r3, r4⟩ := hO.2.2.2.2.2.2.2.2.1
  have hw := hO.2.2.2.2.1
  exact va_mmax hO.1 hO.2.1 (hO.2.2.1.trans hl.1.symm) hO.2.2.2.1 (by rw [hM]; exact hw _ uk_M1) (hw _ uk_M2) (hw _ uk_M3) (hw _ uk_M4) (by omega) (by omega) r3 r4 hd (k hO ls H locs hl hP hS)
theorem g_mabs {x : Int32} (hM : M.1.cls = RX0) (hn : 1 ≤ d) (hc : (st.map fun v => v.category).sum ≤ 8) (hd : decode M.2.1 pc = .ok (.invokestatic 88, 3)) (k : uk_G G X M d Q (pc + 3) lv (.int (if 0 ≤ x then x else 0 - x) :: st) u) : uk_G G X M d Q pc lv (.int x :: st) u := fun hO ls H locs hl hP hS => by
  obtain ⟨r1, r2, r3, r4⟩ := hO.2.2.2.2.2.2.2.2.1
  have hw := hO.2.2.2.2.1
  exact va_mabs hO.1 hO.2.1 (hO.2.2.1.trans hl.1.symm) hO.2.2.2.1 (by rw [hM]; exact hw _ uk_A1) (hw _ uk_A2) (hw _ uk_M3) (hw _ uk_A4) (by omega) (by omega) r3 r4 hd (k hO ls H locs hl hP hS)
theorem g_lookup {dflt : Int} {ps : Array (Int × Int)} {len : Nat} {x : Int32} {off : Int} {tgt : Nat} (hd : decode M.2.1 pc = .ok (.lookupswitch dflt ps, len)) (hp : (ps.toList.zip (ps.toList.drop 1)).all (fun (a, next) => a.1 < next.1) = true) (ho : Op.lookupswitch.offset ps.toList dflt x.toInt = off) (ht : (pc : Int) + off = (tgt : Int)) (k : uk_G G X M d Q tgt lv st u) : uk_G G X M d Q pc lv (.int x :: st) u := fun hO ls H locs hl hP hS => lv_lookup hO.1 hO.2.1 hd hp ho ht (k hO ls H locs hl hP hS)
end UKX
theorem ks_kind {i : Nat} (h : i < 4) : uk_kind (52 + 1 + i) = 8 := by
  rcases (show i = 0 ∨ i = 1 ∨ i = 2 ∨ i = 3 by omega) with rfl | rfl | rfl | rfl <;> rfl
theorem ks_len {i : Nat} (h : i < 4) : uk_len (52 + 1 + i) = 40 := by
  rcases (show i = 0 ∨ i = 1 ∨ i = 2 ∨ i = 3 by omega) with rfl | rfl | rfl | rfl <;> rfl
theorem ks_rg {i : Nat} (h : i < 4) (j : Nat) (hj : j < 999) : uk_rg (52 + 1 + i) j = (-2147483648, 2147483647) := by
  rcases (show i = 0 ∨ i = 1 ∨ i = 2 ∨ i = 3 by omega) with rfl | rfl | rfl | rfl <;> exact uk_pick1 j hj
abbrev q_X6_stuffOf (u : uk_Mem) (g : Int32) (r : Option Value) (u' : uk_Mem) : Prop := (∃ x : Int32, r = some (.int x) ∧ ((g < 10 ∧ x = g) ∨ (10 ≤ g ∧ x = g - 10))) ∧ (u' = u)
set_option maxHeartbeats 4000000 in
set_option maxRecDepth 20000 in
theorem c_X6_stuffOf {G : uk_D} (hs : uk_Sep G) {u : uk_Mem} (hu : iv u) (g : Int32) (d : Nat) : uk_Meth G d mX6_stuffOf [.int g] u (q_X6_stuffOf u g) := by
  refine uk_Meth.of hs (by decide) (Nat.le_of_ble_eq_true rfl) (fun X => ?_)
  refine g_iload_n dX6_stuffOf_0 rfl ?_
  refine g_bipush (v := 10) dX6_stuffOf_1 (by decide) ?_
  refine g_icmp_lt (tgt := 13) dX6_stuffOf_3 (by decide) (fun c1 => ?_) (fun c1 => ?_)
  · refine g_iload_n dX6_stuffOf_13 rfl ?_
    exact g_iret (ty := .int) dX6_stuffOf_14 rfl rfl ⟨⟨_, rfl, by first | trivial | lia | grind⟩, rfl⟩
  · refine g_iload_n dX6_stuffOf_6 rfl ?_
    refine g_bipush (v := 10) dX6_stuffOf_7 (by decide) ?_
    refine g_isub dX6_stuffOf_9 ?_
    refine g_topi (fun x2 ex2 => ?_)
    refine g_goto (tgt := 14) dX6_stuffOf_10 (by decide) ?_
    exact g_iret (ty := .int) dX6_stuffOf_14 rfl rfl ⟨⟨_, rfl, by first | trivial | lia | grind⟩, rfl⟩
abbrev q_X0_hasStuff (u : uk_Mem) (kb : Nat) (m : Int32) (r : Option Value) (u' : uk_Mem) : Prop := (∃ x : Int32, r = some (.int x) ∧ (x = 0 ∨ x = 1) ∧ (¬ x = 0 → 0 ≤ m ∧ m < u.1 kb 0 ∧ m ≤ 7) ∧ (x = 0 → True)) ∧ (u' = u)
set_option maxHeartbeats 4000000 in
set_option maxRecDepth 20000 in
theorem c_X0_hasStuff {G : uk_D} (hs : uk_Sep G) {u : uk_Mem} (hu : iv u) {kb : Nat} (hkb : uk_isK kb) (m : Int32) (d : Nat) : uk_Meth G d mX0_hasStuff [.ref (uk_ad G kb), .int m] u (q_X0_hasStuff u kb m) := by
  refine uk_Meth.of hs (by decide) (Nat.le_of_ble_eq_true rfl) (fun X => ?_)
  refine g_iload_n dX0_hasStuff_0 rfl ?_
  refine g_if_lt (tgt := 16) dX0_hasStuff_1 (by decide) (fun c1 => ?_) (fun c1 => ?_)
  · refine g_iconst (v := 0) dX0_hasStuff_16 (by decide) ?_
    exact g_iret (ty := .boolean) dX0_hasStuff_17 rfl rfl ⟨⟨0, rfl, Or.inl rfl, fun q => absurd rfl q, fun _ => by first | trivial | lia | grind⟩, rfl⟩
  · refine g_iload_n dX0_hasStuff_4 rfl ?_
    refine g_aload_n dX0_hasStuff_5 rfl ?_
    refine f_X0_9 rfl (kk_0 hkb) dX0_hasStuff_6 ?_
    refine g_topi (fun x2 ex2 => ?_)
    have rx2 : 0 ≤ x2 ∧ x2 ≤ 8 := by rw [ex2]; exact iv_at hu _ _ (kr_0 hkb)
    have s3 : u.1 kb 0 = x2 := ex2.symm
    refine g_icmp_ge (tgt := 16) dX0_hasStuff_9 (by decide) (fun c4 => ?_) (fun c4 => ?_)
    · refine g_iconst (v := 0) dX0_hasStuff_16 (by decide) ?_
      exact g_iret (ty := .boolean) dX0_hasStuff_17 rfl rfl ⟨⟨0, rfl, Or.inl rfl, fun q => absurd rfl q, fun _ => by first | trivial | lia | grind⟩, rfl⟩
    · refine g_iconst (v := 1) dX0_hasStuff_12 (by decide) ?_
      refine g_goto (tgt := 17) dX0_hasStuff_13 (by decide) ?_
      exact g_iret (ty := .boolean) dX0_hasStuff_17 rfl rfl ⟨⟨1, rfl, Or.inr rfl, fun _ => by first | trivial | lia | grind, fun q => absurd q (by decide)⟩, rfl⟩
abbrev q_X0_isMade (u : uk_Mem) (kb : Nat) (m : Int32) (r : Option Value) (u' : uk_Mem) : Prop := (∃ x : Int32, r = some (.int x) ∧ (x = 0 ∨ x = 1) ∧ (¬ x = 0 → True) ∧ (x = 0 → True)) ∧ (u' = u)
set_option maxHeartbeats 4000000 in
set_option maxRecDepth 20000 in
theorem c_X0_isMade {G : uk_D} (hs : uk_Sep G) {u : uk_Mem} (hu : iv u) {kb : Nat} (hkb : uk_isK kb) (m : Int32) (p0 : 0 ≤ m) (p1 : m ≤ 7) (d : Nat) : uk_Meth G d mX0_isMade [.ref (uk_ad G kb), .int m] u (q_X0_isMade u kb m) := by
  refine uk_Meth.of hs (by decide) (Nat.le_of_ble_eq_true rfl) (fun X => ?_)
  refine g_aload_n dX0_isMade_0 rfl ?_
  refine f_X0_15 rfl (kk_0 hkb) dX0_isMade_1 ?_
  refine g_iload_n dX0_isMade_4 rfl ?_
  have v1 : vp_in m 8 := uk_vin 8 rfl (by first | decide | lia | grind) (by first | decide | lia | grind)
  refine g_iald (kk_1 hkb) (kl_1 hkb) v1 dX0_isMade_5 ?_
  refine g_topi (fun x2 ex2 => ?_)
  refine g_iconst (v := 4) dX0_isMade_6 (by decide) ?_
  refine g_icmp_eq (tgt := 14) dX0_isMade_7 (by decide) (fun c3 => ?_) (fun c3 => ?_)
  · refine g_iconst (v := 0) dX0_isMade_14 (by decide) ?_
    exact g_iret (ty := .boolean) dX0_isMade_15 rfl rfl ⟨⟨0, rfl, Or.inl rfl, fun q => absurd rfl q, fun _ => by first | trivial | lia | grind⟩, rfl⟩
  · refine g_iconst (v := 1) dX0_isMade_10 (by decide) ?_
    refine g_goto (tgt := 15) dX0_isMade_11 (by decide) ?_
    exact g_iret (ty := .boolean) dX0_isMade_15 rfl rfl ⟨⟨1, rfl, Or.inr rfl, fun _ => by first | trivial | lia | grind, fun q => absurd q (by decide)⟩, rfl⟩
abbrev q_X0_givesB (u : uk_Mem) (k : Int32) (h : Int32) (r : Option Value) (u' : uk_Mem) : Prop := (∃ x : Int32, r = some (.int x) ∧ (x = 0 ∨ x = 1) ∧ (¬ x = 0 → True) ∧ (x = 0 → True)) ∧ (u' = u)
set_option maxHeartbeats 4000000 in
set_option maxRecDepth 20000 in
theorem c_X0_givesB {G : uk_D} (hs : uk_Sep G) {u : uk_Mem} (hu : iv u) (k : Int32) (h : Int32) (d : Nat) : uk_Meth G d mX0_givesB [.int k, .int h] u (q_X0_givesB u k h) := by
  refine uk_Meth.of hs (by decide) (Nat.le_of_ble_eq_true rfl) (fun X => ?_)
  refine g_iload_n dX0_givesB_0 rfl ?_
  refine g_if_eq (tgt := 14) dX0_givesB_1 (by decide) (fun c1 => ?_) (fun c1 => ?_)
  · refine g_iconst (v := 1) dX0_givesB_14 (by decide) ?_
    refine g_goto (tgt := 19) dX0_givesB_15 (by decide) ?_
    exact g_iret (ty := .boolean) dX0_givesB_19 rfl rfl ⟨⟨1, rfl, Or.inr rfl, fun _ => by first | trivial | lia | grind, fun q => absurd q (by decide)⟩, rfl⟩
  · refine g_iload_n dX0_givesB_4 rfl ?_
    refine g_iconst (v := 3) dX0_givesB_5 (by decide) ?_
    refine g_icmp_ne (tgt := 18) dX0_givesB_6 (by decide) (fun c2 => ?_) (fun c2 => ?_)
    · refine g_iconst (v := 0) dX0_givesB_18 (by decide) ?_
      exact g_iret (ty := .boolean) dX0_givesB_19 rfl rfl ⟨⟨0, rfl, Or.inl rfl, fun q => absurd rfl q, fun _ => by first | trivial | lia | grind⟩, rfl⟩
    · refine g_iload_n dX0_givesB_9 rfl ?_
      refine g_iconst (v := 1) dX0_givesB_10 (by decide) ?_
      refine g_icmp_ne (tgt := 18) dX0_givesB_11 (by decide) (fun c3 => ?_) (fun c3 => ?_)
      · refine g_iconst (v := 0) dX0_givesB_18 (by decide) ?_
        exact g_iret (ty := .boolean) dX0_givesB_19 rfl rfl ⟨⟨0, rfl, Or.inl rfl, fun q => absurd rfl q, fun _ => by first | trivial | lia | grind⟩, rfl⟩
      · refine g_iconst (v := 1) dX0_givesB_14 (by decide) ?_
        refine g_goto (tgt := 19) dX0_givesB_15 (by decide) ?_
        exact g_iret (ty := .boolean) dX0_givesB_19 rfl rfl ⟨⟨1, rfl, Or.inr rfl, fun _ => by first | trivial | lia | grind, fun q => absurd q (by decide)⟩, rfl⟩
abbrev q_X0_isCookable (u : uk_Mem) (kb : Nat) (m : Int32) (r : Option Value) (u' : uk_Mem) : Prop := (∃ x : Int32, r = some (.int x) ∧ (x = 0 ∨ x = 1) ∧ (¬ x = 0 → True) ∧ (x = 0 → True)) ∧ (u' = u)
set_option maxHeartbeats 4000000 in
set_option maxRecDepth 20000 in
theorem c_X0_isCookable {G : uk_D} (hs : uk_Sep G) {u : uk_Mem} (hu : iv u) {kb : Nat} (hkb : uk_isK kb) (m : Int32) (p0 : 0 ≤ m) (p1 : m ≤ 7) (d : Nat) : uk_Meth G d mX0_isCookable [.ref (uk_ad G kb), .int m] u (q_X0_isCookable u kb m) := by
  refine uk_Meth.of hs (by decide) (Nat.le_of_ble_eq_true rfl) (fun X => ?_)
  refine g_aload_n dX0_isCookable_0 rfl ?_
  refine f_X0_19 rfl (kk_0 hkb) dX0_isCookable_1 ?_
  refine g_iload_n dX0_isCookable_4 rfl ?_
  have v1 : vp_in m 8 := uk_vin 8 rfl (by first | decide | lia | grind) (by first | decide | lia | grind)
  refine g_iald (kk_2 hkb) (kl_2 hkb) v1 dX0_isCookable_5 ?_
  refine g_topi (fun x2 ex2 => ?_)
  have bx2 := uk_cl v1
  have rx2 : 0 ≤ x2 ∧ x2 ≤ 7 := by rw [ex2]; exact iv_at hu _ _ (ka_2 hkb _ (by omega))
  refine g_istore_n dX0_isCookable_6 (by decide) ?_
  refine g_pick (lv' := [(0, .ref (uk_ad G kb)), (1, .int m), (2, .int x2)]) [0, 1, 2] rfl ?_
  refine g_aload_n dX0_isCookable_7 rfl ?_
  refine f_X0_22 rfl (kk_0 hkb) dX0_isCookable_8 ?_
  refine g_iload_n dX0_isCookable_11 rfl ?_
  have v3 : vp_in m 8 := uk_vin 8 rfl (by first | decide | lia | grind) (by first | decide | lia | grind)
  refine g_iald (kk_3 hkb) (kl_3 hkb) v3 dX0_isCookable_12 ?_
  refine g_topi (fun x4 ex4 => ?_)
  have bx4 := uk_cl v3
  have rx4 : 0 ≤ x4 ∧ x4 ≤ 7 := by rw [ex4]; exact iv_at hu _ _ (ka_3 hkb _ (by omega))
  refine g_istore_n dX0_isCookable_13 (by decide) ?_
  refine g_pick (lv' := [(0, .ref (uk_ad G kb)), (1, .int m), (2, .int x2), (3, .int x4)]) [0, 1, 2, 3] rfl ?_
  refine g_iload_n dX0_isCookable_14 rfl ?_
  refine g_iload_n dX0_isCookable_15 rfl ?_
  refine g_icmp_ne (tgt := 23) dX0_isCookable_16 (by decide) (fun c5 => ?_) (fun c5 => ?_)
  · refine g_iconst (v := 1) dX0_isCookable_23 (by decide) ?_
    refine g_istore dX0_isCookable_24 (by decide) ?_
    refine g_pick (lv' := [(0, .ref (uk_ad G kb)), (1, .int m), (2, .int x2), (3, .int x4), (4, .int 1)]) [0, 1, 2, 3, 4] rfl ?_
    refine g_aload_n dX0_isCookable_26 rfl ?_
    refine f_X0_31 rfl (kk_0 hkb) dX0_isCookable_27 ?_
    refine g_iload_n dX0_isCookable_30 rfl ?_
    have v6 : vp_in m 8 := uk_vin 8 rfl (by first | decide | lia | grind) (by first | decide | lia | grind)
    refine g_iald (kk_6 hkb) (kl_6 hkb) v6 dX0_isCookable_31 ?_
    refine g_topi (fun x7 ex7 => ?_)
    refine g_bipush (v := 40) dX0_isCookable_32 (by decide) ?_
    refine g_icmp_ge (tgt := 62) dX0_isCookable_34 (by decide) (fun c8 => ?_) (fun c8 => ?_)
    · refine g_iconst (v := 0) dX0_isCookable_62 (by decide) ?_
      exact g_iret (ty := .boolean) dX0_isCookable_63 rfl rfl ⟨⟨0, rfl, Or.inl rfl, fun q => absurd rfl q, fun _ => by first | trivial | lia | grind⟩, rfl⟩
    · refine g_aload_n dX0_isCookable_37 rfl ?_
      refine f_X0_31 rfl (kk_0 hkb) dX0_isCookable_38 ?_
      refine g_iload_n dX0_isCookable_41 rfl ?_
      have v9 : vp_in x2 8 := uk_vin 8 rfl (by first | decide | lia | grind) (by first | decide | lia | grind)
      refine g_iald (kk_6 hkb) (kl_6 hkb) v9 dX0_isCookable_42 ?_
      refine g_topi (fun x10 ex10 => ?_)
      refine g_iconst (v := 1) dX0_isCookable_43 (by decide) ?_
      refine g_icmp_lt (tgt := 62) dX0_isCookable_44 (by decide) (fun c11 => ?_) (fun c11 => ?_)
      · refine g_iconst (v := 0) dX0_isCookable_62 (by decide) ?_
        exact g_iret (ty := .boolean) dX0_isCookable_63 rfl rfl ⟨⟨0, rfl, Or.inl rfl, fun q => absurd rfl q, fun _ => by first | trivial | lia | grind⟩, rfl⟩
      · refine g_aload_n dX0_isCookable_47 rfl ?_
        refine f_X0_31 rfl (kk_0 hkb) dX0_isCookable_48 ?_
        refine g_iload_n dX0_isCookable_51 rfl ?_
        have v12 : vp_in x4 8 := uk_vin 8 rfl (by first | decide | lia | grind) (by first | decide | lia | grind)
        refine g_iald (kk_6 hkb) (kl_6 hkb) v12 dX0_isCookable_52 ?_
        refine g_topi (fun x13 ex13 => ?_)
        refine g_iload dX0_isCookable_53 rfl ?_
        refine g_icmp_lt (tgt := 62) dX0_isCookable_55 (by decide) (fun c14 => ?_) (fun c14 => ?_)
        · refine g_iconst (v := 0) dX0_isCookable_62 (by decide) ?_
          exact g_iret (ty := .boolean) dX0_isCookable_63 rfl rfl ⟨⟨0, rfl, Or.inl rfl, fun q => absurd rfl q, fun _ => by first | trivial | lia | grind⟩, rfl⟩
        · refine g_iconst (v := 1) dX0_isCookable_58 (by decide) ?_
          refine g_goto (tgt := 63) dX0_isCookable_59 (by decide) ?_
          exact g_iret (ty := .boolean) dX0_isCookable_63 rfl rfl ⟨⟨1, rfl, Or.inr rfl, fun _ => by first | trivial | lia | grind, fun q => absurd q (by decide)⟩, rfl⟩
  · refine g_iconst (v := 2) dX0_isCookable_19 (by decide) ?_
    refine g_goto (tgt := 24) dX0_isCookable_20 (by decide) ?_
    refine g_istore dX0_isCookable_24 (by decide) ?_
    refine g_pick (lv' := [(0, .ref (uk_ad G kb)), (1, .int m), (2, .int x2), (3, .int x4), (4, .int 2)]) [0, 1, 2, 3, 4] rfl ?_
    refine g_aload_n dX0_isCookable_26 rfl ?_
    refine f_X0_31 rfl (kk_0 hkb) dX0_isCookable_27 ?_
    refine g_iload_n dX0_isCookable_30 rfl ?_
    have v15 : vp_in m 8 := uk_vin 8 rfl (by first | decide | lia | grind) (by first | decide | lia | grind)
    refine g_iald (kk_6 hkb) (kl_6 hkb) v15 dX0_isCookable_31 ?_
    refine g_topi (fun x16 ex16 => ?_)
    refine g_bipush (v := 40) dX0_isCookable_32 (by decide) ?_
    refine g_icmp_ge (tgt := 62) dX0_isCookable_34 (by decide) (fun c17 => ?_) (fun c17 => ?_)
    · refine g_iconst (v := 0) dX0_isCookable_62 (by decide) ?_
      exact g_iret (ty := .boolean) dX0_isCookable_63 rfl rfl ⟨⟨0, rfl, Or.inl rfl, fun q => absurd rfl q, fun _ => by first | trivial | lia | grind⟩, rfl⟩
    · refine g_aload_n dX0_isCookable_37 rfl ?_
      refine f_X0_31 rfl (kk_0 hkb) dX0_isCookable_38 ?_
      refine g_iload_n dX0_isCookable_41 rfl ?_
      have v18 : vp_in x2 8 := uk_vin 8 rfl (by first | decide | lia | grind) (by first | decide | lia | grind)
      refine g_iald (kk_6 hkb) (kl_6 hkb) v18 dX0_isCookable_42 ?_
      refine g_topi (fun x19 ex19 => ?_)
      refine g_iconst (v := 1) dX0_isCookable_43 (by decide) ?_
      refine g_icmp_lt (tgt := 62) dX0_isCookable_44 (by decide) (fun c20 => ?_) (fun c20 => ?_)
      · refine g_iconst (v := 0) dX0_isCookable_62 (by decide) ?_
        exact g_iret (ty := .boolean) dX0_isCookable_63 rfl rfl ⟨⟨0, rfl, Or.inl rfl, fun q => absurd rfl q, fun _ => by first | trivial | lia | grind⟩, rfl⟩
      · refine g_aload_n dX0_isCookable_47 rfl ?_
        refine f_X0_31 rfl (kk_0 hkb) dX0_isCookable_48 ?_
        refine g_iload_n dX0_isCookable_51 rfl ?_
        have v21 : vp_in x4 8 := uk_vin 8 rfl (by first | decide | lia | grind) (by first | decide | lia | grind)
        refine g_iald (kk_6 hkb) (kl_6 hkb) v21 dX0_isCookable_52 ?_
        refine g_topi (fun x22 ex22 => ?_)
        refine g_iload dX0_isCookable_53 rfl ?_
        refine g_icmp_lt (tgt := 62) dX0_isCookable_55 (by decide) (fun c23 => ?_) (fun c23 => ?_)
        · refine g_iconst (v := 0) dX0_isCookable_62 (by decide) ?_
          exact g_iret (ty := .boolean) dX0_isCookable_63 rfl rfl ⟨⟨0, rfl, Or.inl rfl, fun q => absurd rfl q, fun _ => by first | trivial | lia | grind⟩, rfl⟩
        · refine g_iconst (v := 1) dX0_isCookable_58 (by decide) ?_
          refine g_goto (tgt := 63) dX0_isCookable_59 (by decide) ?_
          exact g_iret (ty := .boolean) dX0_isCookable_63 rfl rfl ⟨⟨1, rfl, Or.inr rfl, fun _ => by first | trivial | lia | grind, fun q => absurd q (by decide)⟩, rfl⟩
abbrev q_X0_isTurnable (u : uk_Mem) (kb : Nat) (m : Int32) (r : Option Value) (u' : uk_Mem) : Prop := (∃ x : Int32, r = some (.int x) ∧ (x = 0 ∨ x = 1) ∧ (¬ x = 0 → True) ∧ (x = 0 → True)) ∧ (u' = u)
set_option maxHeartbeats 4000000 in
set_option maxRecDepth 20000 in
theorem c_X0_isTurnable {G : uk_D} (hs : uk_Sep G) {u : uk_Mem} (hu : iv u) {kb : Nat} (hkb : uk_isK kb) (m : Int32) (p0 : 0 ≤ m) (p1 : m ≤ 7) (d : Nat) : uk_Meth G (d + 1) mX0_isTurnable [.ref (uk_ad G kb), .int m] u (q_X0_isTurnable u kb m) := by
  refine uk_Meth.of hs (by decide) (Nat.le_of_ble_eq_true rfl) (fun X => ?_)
  refine g_aload_n dX0_isTurnable_0 rfl ?_
  refine f_X0_15 rfl (kk_0 hkb) dX0_isTurnable_1 ?_
  refine g_iload_n dX0_isTurnable_4 rfl ?_
  have v1 : vp_in m 8 := uk_vin 8 rfl (by first | decide | lia | grind) (by first | decide | lia | grind)
  refine g_iald (kk_1 hkb) (kl_1 hkb) v1 dX0_isTurnable_5 ?_
  refine g_topi (fun x2 ex2 => ?_)
  refine g_iconst (v := 2) dX0_isTurnable_6 (by decide) ?_
  refine g_icmp_eq (tgt := 19) dX0_isTurnable_7 (by decide) (fun c3 => ?_) (fun c3 => ?_)
  · refine g_iconst (v := 0) dX0_isTurnable_19 (by decide) ?_
    exact g_iret (ty := .boolean) dX0_isTurnable_20 rfl rfl ⟨⟨0, rfl, Or.inl rfl, fun q => absurd rfl q, fun _ => by first | trivial | lia | grind⟩, rfl⟩
  · refine g_aload_n dX0_isTurnable_10 rfl ?_
    refine f_X0_31 rfl (kk_0 hkb) dX0_isTurnable_11 ?_
    refine g_iload_n dX0_isTurnable_14 rfl ?_
    have v4 : vp_in m 8 := uk_vin 8 rfl (by first | decide | lia | grind) (by first | decide | lia | grind)
    refine g_iald (kk_6 hkb) (kl_6 hkb) v4 dX0_isTurnable_15 ?_
    refine g_topi (fun x5 ex5 => ?_)
    refine g_if_ne (tgt := 21) dX0_isTurnable_16 (by decide) (fun c6 => ?_) (fun c6 => ?_)
    · refine g_aload_n dX0_isTurnable_21 rfl ?_
      refine f_X0_19 rfl (kk_0 hkb) dX0_isTurnable_22 ?_
      refine g_iload_n dX0_isTurnable_25 rfl ?_
      have v7 : vp_in m 8 := uk_vin 8 rfl (by first | decide | lia | grind) (by first | decide | lia | grind)
      refine g_iald (kk_2 hkb) (kl_2 hkb) v7 dX0_isTurnable_26 ?_
      refine g_topi (fun x8 ex8 => ?_)
      have bx8 := uk_cl v7
      have rx8 : 0 ≤ x8 ∧ x8 ≤ 7 := by rw [ex8]; exact iv_at hu _ _ (ka_2 hkb _ (by omega))
      refine g_istore_n dX0_isTurnable_27 (by decide) ?_
      refine g_pick (lv' := [(0, .ref (uk_ad G kb)), (1, .int m), (2, .int x8)]) [0, 1, 2] rfl ?_
      refine g_aload_n dX0_isTurnable_28 rfl ?_
      refine f_X0_22 rfl (kk_0 hkb) dX0_isTurnable_29 ?_
      refine g_iload_n dX0_isTurnable_32 rfl ?_
      have v9 : vp_in m 8 := uk_vin 8 rfl (by first | decide | lia | grind) (by first | decide | lia | grind)
      refine g_iald (kk_3 hkb) (kl_3 hkb) v9 dX0_isTurnable_33 ?_
      refine g_topi (fun x10 ex10 => ?_)
      have bx10 := uk_cl v9
      have rx10 : 0 ≤ x10 ∧ x10 ≤ 7 := by rw [ex10]; exact iv_at hu _ _ (ka_3 hkb _ (by omega))
      refine g_istore_n dX0_isTurnable_34 (by decide) ?_
      refine g_pick (lv' := [(0, .ref (uk_ad G kb)), (1, .int m), (2, .int x8), (3, .int x10)]) [0, 1, 2, 3] rfl ?_
      refine g_aload_n dX0_isTurnable_35 rfl ?_
      refine f_X0_15 rfl (kk_0 hkb) dX0_isTurnable_36 ?_
      refine g_iload_n dX0_isTurnable_39 rfl ?_
      have v11 : vp_in m 8 := uk_vin 8 rfl (by first | decide | lia | grind) (by first | decide | lia | grind)
      refine g_iald (kk_1 hkb) (kl_1 hkb) v11 dX0_isTurnable_40 ?_
      refine g_topi (fun x12 ex12 => ?_)
      refine g_aload_n dX0_isTurnable_41 rfl ?_
      refine f_X0_34 rfl (kk_0 hkb) dX0_isTurnable_42 ?_
      refine g_iload_n dX0_isTurnable_45 rfl ?_
      have v13 : vp_in m 8 := uk_vin 8 rfl (by first | decide | lia | grind) (by first | decide | lia | grind)
      refine g_iald (kk_7 hkb) (kl_7 hkb) v13 dX0_isTurnable_46 ?_
      refine g_topi (fun x14 ex14 => ?_)
      refine cl_X0_70 (As := [.int x12, .int x14]) rfl (c_X0_givesB (G := G) hs hu  x12 x14  (d)) rfl (by omega) rfl (Nat.le_of_ble_eq_true rfl) dX0_isTurnable_47 (fun r15 u16 q17 => ?_)
      obtain ⟨⟨x18, rfl, tx18, nx18, zx18⟩, mq17⟩ := q17
      rw [mq17]
      refine g_if_ne (tgt := 70) dX0_isTurnable_50 (by decide) (fun c19 => ?_) (fun c19 => ?_)
      · have zc19 := nx18 c19
        refine g_iload_n dX0_isTurnable_70 rfl ?_
        refine g_iload_n dX0_isTurnable_71 rfl ?_
        refine g_icmp_ne (tgt := 79) dX0_isTurnable_72 (by decide) (fun c20 => ?_) (fun c20 => ?_)
        · refine g_iconst (v := 1) dX0_isTurnable_79 (by decide) ?_
          refine g_istore dX0_isTurnable_80 (by decide) ?_
          refine g_pick (lv' := [(0, .ref (uk_ad G kb)), (1, .int m), (2, .int x8), (3, .int x10), (4, .int 1)]) [0, 1, 2, 3, 4] rfl ?_
          refine g_aload_n dX0_isTurnable_82 rfl ?_
          refine f_X0_31 rfl (kk_0 hkb) dX0_isTurnable_83 ?_
          refine g_iload_n dX0_isTurnable_86 rfl ?_
          have v21 : vp_in x8 8 := uk_vin 8 rfl (by first | decide | lia | grind) (by first | decide | lia | grind)
          refine g_iald (kk_6 hkb) (kl_6 hkb) v21 dX0_isTurnable_87 ?_
          refine g_topi (fun x22 ex22 => ?_)
          refine g_bipush (v := 40) dX0_isTurnable_88 (by decide) ?_
          refine g_icmp_ge (tgt := 111) dX0_isTurnable_90 (by decide) (fun c23 => ?_) (fun c23 => ?_)
          · refine g_iconst (v := 0) dX0_isTurnable_111 (by decide) ?_
            exact g_iret (ty := .boolean) dX0_isTurnable_112 rfl rfl ⟨⟨0, rfl, Or.inl rfl, fun q => absurd rfl q, fun _ => by first | trivial | lia | grind⟩, rfl⟩
          · refine g_aload_n dX0_isTurnable_93 rfl ?_
            refine f_X0_31 rfl (kk_0 hkb) dX0_isTurnable_94 ?_
            refine g_iload_n dX0_isTurnable_97 rfl ?_
            have v24 : vp_in x10 8 := uk_vin 8 rfl (by first | decide | lia | grind) (by first | decide | lia | grind)
            refine g_iald (kk_6 hkb) (kl_6 hkb) v24 dX0_isTurnable_98 ?_
            refine g_topi (fun x25 ex25 => ?_)
            refine g_iload dX0_isTurnable_99 rfl ?_
            refine g_iadd dX0_isTurnable_101 ?_
            refine g_topi (fun x26 ex26 => ?_)
            refine g_bipush (v := 40) dX0_isTurnable_102 (by decide) ?_
            refine g_icmp_gt (tgt := 111) dX0_isTurnable_104 (by decide) (fun c27 => ?_) (fun c27 => ?_)
            · refine g_iconst (v := 0) dX0_isTurnable_111 (by decide) ?_
              exact g_iret (ty := .boolean) dX0_isTurnable_112 rfl rfl ⟨⟨0, rfl, Or.inl rfl, fun q => absurd rfl q, fun _ => by first | trivial | lia | grind⟩, rfl⟩
            · refine g_iconst (v := 1) dX0_isTurnable_107 (by decide) ?_
              refine g_goto (tgt := 112) dX0_isTurnable_108 (by decide) ?_
              exact g_iret (ty := .boolean) dX0_isTurnable_112 rfl rfl ⟨⟨1, rfl, Or.inr rfl, fun _ => by first | trivial | lia | grind, fun q => absurd q (by decide)⟩, rfl⟩
        · refine g_iconst (v := 2) dX0_isTurnable_75 (by decide) ?_
          refine g_goto (tgt := 80) dX0_isTurnable_76 (by decide) ?_
          refine g_istore dX0_isTurnable_80 (by decide) ?_
          refine g_pick (lv' := [(0, .ref (uk_ad G kb)), (1, .int m), (2, .int x8), (3, .int x10), (4, .int 2)]) [0, 1, 2, 3, 4] rfl ?_
          refine g_aload_n dX0_isTurnable_82 rfl ?_
          refine f_X0_31 rfl (kk_0 hkb) dX0_isTurnable_83 ?_
          refine g_iload_n dX0_isTurnable_86 rfl ?_
          have v28 : vp_in x8 8 := uk_vin 8 rfl (by first | decide | lia | grind) (by first | decide | lia | grind)
          refine g_iald (kk_6 hkb) (kl_6 hkb) v28 dX0_isTurnable_87 ?_
          refine g_topi (fun x29 ex29 => ?_)
          refine g_bipush (v := 40) dX0_isTurnable_88 (by decide) ?_
          refine g_icmp_ge (tgt := 111) dX0_isTurnable_90 (by decide) (fun c30 => ?_) (fun c30 => ?_)
          · refine g_iconst (v := 0) dX0_isTurnable_111 (by decide) ?_
            exact g_iret (ty := .boolean) dX0_isTurnable_112 rfl rfl ⟨⟨0, rfl, Or.inl rfl, fun q => absurd rfl q, fun _ => by first | trivial | lia | grind⟩, rfl⟩
          · refine g_aload_n dX0_isTurnable_93 rfl ?_
            refine f_X0_31 rfl (kk_0 hkb) dX0_isTurnable_94 ?_
            refine g_iload_n dX0_isTurnable_97 rfl ?_
            have v31 : vp_in x10 8 := uk_vin 8 rfl (by first | decide | lia | grind) (by first | decide | lia | grind)
            refine g_iald (kk_6 hkb) (kl_6 hkb) v31 dX0_isTurnable_98 ?_
            refine g_topi (fun x32 ex32 => ?_)
            refine g_iload dX0_isTurnable_99 rfl ?_
            refine g_iadd dX0_isTurnable_101 ?_
            refine g_topi (fun x33 ex33 => ?_)
            refine g_bipush (v := 40) dX0_isTurnable_102 (by decide) ?_
            refine g_icmp_gt (tgt := 111) dX0_isTurnable_104 (by decide) (fun c34 => ?_) (fun c34 => ?_)
            · refine g_iconst (v := 0) dX0_isTurnable_111 (by decide) ?_
              exact g_iret (ty := .boolean) dX0_isTurnable_112 rfl rfl ⟨⟨0, rfl, Or.inl rfl, fun q => absurd rfl q, fun _ => by first | trivial | lia | grind⟩, rfl⟩
            · refine g_iconst (v := 1) dX0_isTurnable_107 (by decide) ?_
              refine g_goto (tgt := 112) dX0_isTurnable_108 (by decide) ?_
              exact g_iret (ty := .boolean) dX0_isTurnable_112 rfl rfl ⟨⟨1, rfl, Or.inr rfl, fun _ => by first | trivial | lia | grind, fun q => absurd q (by decide)⟩, rfl⟩
      · have zc19 := zx18 c19
        refine g_aload_n dX0_isTurnable_53 rfl ?_
        refine f_X0_31 rfl (kk_0 hkb) dX0_isTurnable_54 ?_
        refine g_iload_n dX0_isTurnable_57 rfl ?_
        have v35 : vp_in x8 8 := uk_vin 8 rfl (by first | decide | lia | grind) (by first | decide | lia | grind)
        refine g_iald (kk_6 hkb) (kl_6 hkb) v35 dX0_isTurnable_58 ?_
        refine g_topi (fun x36 ex36 => ?_)
        refine g_bipush (v := 40) dX0_isTurnable_59 (by decide) ?_
        refine g_icmp_ge (tgt := 68) dX0_isTurnable_61 (by decide) (fun c37 => ?_) (fun c37 => ?_)
        · refine g_iconst (v := 0) dX0_isTurnable_68 (by decide) ?_
          exact g_iret (ty := .boolean) dX0_isTurnable_69 rfl rfl ⟨⟨0, rfl, Or.inl rfl, fun q => absurd rfl q, fun _ => by first | trivial | lia | grind⟩, rfl⟩
        · refine g_iconst (v := 1) dX0_isTurnable_64 (by decide) ?_
          refine g_goto (tgt := 69) dX0_isTurnable_65 (by decide) ?_
          exact g_iret (ty := .boolean) dX0_isTurnable_69 rfl rfl ⟨⟨1, rfl, Or.inr rfl, fun _ => by first | trivial | lia | grind, fun q => absurd q (by decide)⟩, rfl⟩
    · refine g_iconst (v := 0) dX0_isTurnable_19 (by decide) ?_
      exact g_iret (ty := .boolean) dX0_isTurnable_20 rfl rfl ⟨⟨0, rfl, Or.inl rfl, fun q => absurd rfl q, fun _ => by first | trivial | lia | grind⟩, rfl⟩
abbrev q_X0_hasDoing (u : uk_Mem) (kb : Nat) (g : Int32) (r : Option Value) (u' : uk_Mem) : Prop := (∃ x : Int32, r = some (.int x) ∧ (x = 0 ∨ x = 1) ∧ (¬ x = 0 → (0 ≤ g ∧ g ≤ 7) ∨ (10 ≤ g ∧ g ≤ 17)) ∧ (x = 0 → True)) ∧ (u' = u)
abbrev q_X0_isAble (u : uk_Mem) (kb : Nat) (g : Int32) (r : Option Value) (u' : uk_Mem) : Prop := (∃ x : Int32, r = some (.int x) ∧ (x = 0 ∨ x = 1) ∧ (¬ x = 0 → (0 ≤ g ∧ g ≤ 7) ∨ (10 ≤ g ∧ g ≤ 17)) ∧ (x = 0 → True)) ∧ (u' = u)
set_option maxHeartbeats 4000000 in
set_option maxRecDepth 20000 in
theorem c_X0_isAble {G : uk_D} (hs : uk_Sep G) {u : uk_Mem} (hu : iv u) {kb : Nat} (hkb : uk_isK kb) (g : Int32) (d : Nat) : uk_Meth G (d + 2) mX0_isAble [.ref (uk_ad G kb), .int g] u (q_X0_isAble u kb g) := by
  refine uk_Meth.of hs (by decide) (Nat.le_of_ble_eq_true rfl) (fun X => ?_)
  refine g_iload_n dX0_isAble_0 rfl ?_
  refine cl_X0_53 (As := [.int g]) rfl (c_X6_stuffOf (G := G) hs hu  g  (d + 1)) rfl (by omega) rfl (Nat.le_of_ble_eq_true rfl) dX0_isAble_1 (fun r1 u2 q3 => ?_)
  obtain ⟨⟨x4, rfl, tx4⟩, mq3⟩ := q3
  rw [mq3]
  refine g_istore_n dX0_isAble_4 (by decide) ?_
  refine g_pick (lv' := [(0, .ref (uk_ad G kb)), (1, .int g), (2, .int x4)]) [0, 1, 2] rfl ?_
  refine g_iload_n dX0_isAble_5 rfl ?_
  refine g_if_lt (tgt := 25) dX0_isAble_6 (by decide) (fun c5 => ?_) (fun c5 => ?_)
  · refine g_iconst (v := 0) dX0_isAble_25 (by decide) ?_
    exact g_iret (ty := .boolean) dX0_isAble_26 rfl rfl ⟨⟨0, rfl, Or.inl rfl, fun q => absurd rfl q, fun _ => by first | trivial | lia | grind⟩, rfl⟩
  · refine g_aload_n dX0_isAble_9 rfl ?_
    refine g_iload_n dX0_isAble_10 rfl ?_
    refine cl_X0_57 (c := kb) (As := [.int x4]) rfl (c_X0_hasStuff (G := G) hs hu hkb x4  (d + 1)) rfl (by omega) (kk_0 hkb) rfl (Nat.le_of_ble_eq_true rfl) dX0_isAble_11 (fun r6 u7 q8 => ?_)
    obtain ⟨⟨x9, rfl, tx9, nx9, zx9⟩, mq8⟩ := q8
    rw [mq8]
    refine g_if_eq (tgt := 25) dX0_isAble_14 (by decide) (fun c10 => ?_) (fun c10 => ?_)
    · have zc10 := zx9 c10
      refine g_iconst (v := 0) dX0_isAble_25 (by decide) ?_
      exact g_iret (ty := .boolean) dX0_isAble_26 rfl rfl ⟨⟨0, rfl, Or.inl rfl, fun q => absurd rfl q, fun _ => by first | trivial | lia | grind⟩, rfl⟩
    · have zc10 := nx9 c10
      refine g_aload_n dX0_isAble_17 rfl ?_
      refine g_iload_n dX0_isAble_18 rfl ?_
      refine cl_X0_61 (c := kb) (As := [.int x4]) rfl (c_X0_isMade (G := G) hs hu hkb x4 (by first | trivial | decide | lia | grind) (by first | trivial | decide | lia | grind) (d + 1)) rfl (by omega) (kk_0 hkb) rfl (Nat.le_of_ble_eq_true rfl) dX0_isAble_19 (fun r11 u12 q13 => ?_)
      obtain ⟨⟨x14, rfl, tx14, nx14, zx14⟩, mq13⟩ := q13
      rw [mq13]
      refine g_if_ne (tgt := 27) dX0_isAble_22 (by decide) (fun c15 => ?_) (fun c15 => ?_)
      · have zc15 := nx14 c15
        refine g_iload_n dX0_isAble_27 rfl ?_
        refine g_bipush (v := 10) dX0_isAble_28 (by decide) ?_
        refine g_icmp_lt (tgt := 41) dX0_isAble_30 (by decide) (fun c16 => ?_) (fun c16 => ?_)
        · refine g_aload_n dX0_isAble_41 rfl ?_
          refine g_iload_n dX0_isAble_42 rfl ?_
          refine cl_X0_67 (c := kb) (As := [.int x4]) rfl (c_X0_isCookable (G := G) hs hu hkb x4 (by first | trivial | decide | lia | grind) (by first | trivial | decide | lia | grind) (d + 1)) rfl (by omega) (kk_0 hkb) rfl (Nat.le_of_ble_eq_true rfl) dX0_isAble_43 (fun r17 u18 q19 => ?_)
          obtain ⟨⟨x20, rfl, tx20, nx20, zx20⟩, mq19⟩ := q19
          rw [mq19]
          exact g_iret (ty := .boolean) dX0_isAble_46 rfl (uk_nb tx20) ⟨⟨_, rfl, tx20, fun q => by first | trivial | (have := nx20 q; first | exact this | grind), fun q => by first | trivial | (have := zx20 q; first | exact this | grind)⟩, rfl⟩
        · refine g_aload_n dX0_isAble_33 rfl ?_
          refine g_iload_n dX0_isAble_34 rfl ?_
          refine cl_X0_64 (c := kb) (As := [.int x4]) rfl (c_X0_isTurnable (G := G) hs hu hkb x4 (by first | trivial | decide | lia | grind) (by first | trivial | decide | lia | grind) (d)) rfl (by omega) (kk_0 hkb) rfl (Nat.le_of_ble_eq_true rfl) dX0_isAble_35 (fun r21 u22 q23 => ?_)
          obtain ⟨⟨x24, rfl, tx24, nx24, zx24⟩, mq23⟩ := q23
          rw [mq23]
          refine g_goto (tgt := 46) dX0_isAble_38 (by decide) ?_
          exact g_iret (ty := .boolean) dX0_isAble_46 rfl (uk_nb tx24) ⟨⟨_, rfl, tx24, fun q => by first | trivial | (have := nx24 q; first | exact this | grind), fun q => by first | trivial | (have := zx24 q; first | exact this | grind)⟩, rfl⟩
      · have zc15 := zx14 c15
        refine g_iconst (v := 0) dX0_isAble_25 (by decide) ?_
        exact g_iret (ty := .boolean) dX0_isAble_26 rfl rfl ⟨⟨0, rfl, Or.inl rfl, fun q => absurd rfl q, fun _ => by first | trivial | lia | grind⟩, rfl⟩
abbrev q_X0_rawBits (u : uk_Mem) (kb : Nat) (r : Option Value) (u' : uk_Mem) : Prop := (∃ x : Int32, r = some (.int x) ∧ True) ∧ (u' = u)
abbrev q_X0_thereBits (u : uk_Mem) (kb : Nat) (r : Option Value) (u' : uk_Mem) : Prop := (∃ x : Int32, r = some (.int x) ∧ True) ∧ (u' = u)
abbrev q_X0_things (u : uk_Mem) (kb : Nat) (r : Option Value) (u' : uk_Mem) : Prop := (∃ x : Int32, r = some (.int x) ∧ True) ∧ (u' = u)
set_option maxHeartbeats 4000000 in
set_option maxRecDepth 20000 in
theorem c_X0_things {G : uk_D} (hs : uk_Sep G) {u : uk_Mem} (hu : iv u) {kb : Nat} (hkb : uk_isK kb) (d : Nat) : uk_Meth G d mX0_things [.ref (uk_ad G kb)] u (q_X0_things u kb) := by
  refine uk_Meth.of hs (by decide) (Nat.le_of_ble_eq_true rfl) (fun X => ?_)
  refine g_iconst (v := 0) dX0_things_0 (by decide) ?_
  refine g_istore_n dX0_things_1 (by decide) ?_
  refine g_pick (lv' := [(0, .ref (uk_ad G kb)), (1, .int 0)]) [0, 1] rfl ?_
  refine g_iconst (v := 0) dX0_things_2 (by decide) ?_
  refine g_istore_n dX0_things_3 (by decide) ?_
  refine g_pick (lv' := [(0, .ref (uk_ad G kb)), (1, .int 0), (2, .int 0)]) [0, 1, 2] rfl ?_
  have L4_0 : ∀ i3 : Int32, 0 ≤ i3 → i3 ≤ 8 → ∀ (w2 : Int32), uk_G G X mX0_things d (q_X0_things u kb) 4 [(0, .ref (uk_ad G kb)), (1, .int w2), (2, .int i3)] [] u := by
    refine uk_upl 8 ?_
    intro i3 ai3 bi3 ihi3 w2
    refine g_iload_n dX0_things_4 rfl ?_
    refine g_aload_n dX0_things_5 rfl ?_
    refine f_X0_9 rfl (kk_0 hkb) dX0_things_6 ?_
    refine g_topi (fun x4 ex4 => ?_)
    have rx4 : 0 ≤ x4 ∧ x4 ≤ 8 := by rw [ex4]; exact iv_at hu _ _ (kr_0 hkb)
    have s5 : u.1 kb 0 = x4 := ex4.symm
    refine g_icmp_ge (tgt := 27) dX0_things_9 (by decide) (fun c6 => ?_) (fun c6 => ?_)
    · refine g_iload_n dX0_things_27 rfl ?_
      exact g_iret (ty := .int) dX0_things_28 rfl rfl ⟨⟨_, rfl, by first | trivial | lia | grind⟩, rfl⟩
    · refine g_iload_n dX0_things_12 rfl ?_
      refine g_aload_n dX0_things_13 rfl ?_
      refine f_X0_31 rfl (kk_0 hkb) dX0_things_14 ?_
      refine g_iload_n dX0_things_17 rfl ?_
      have v7 : vp_in i3 8 := uk_vin 8 rfl (by first | decide | lia | grind) (by first | decide | lia | grind)
      refine g_iald (kk_6 hkb) (kl_6 hkb) v7 dX0_things_18 ?_
      refine g_topi (fun x8 ex8 => ?_)
      refine g_iadd dX0_things_19 ?_
      refine g_topi (fun x9 ex9 => ?_)
      refine g_istore_n dX0_things_20 (by decide) ?_
      refine g_pick (lv' := [(0, .ref (uk_ad G kb)), (1, .int x9), (2, .int i3)]) [0, 1, 2] rfl ?_
      refine g_iinc (v := i3 + 1) dX0_things_21 rfl rfl (by decide) ?_
      refine g_pick (lv' := [(0, .ref (uk_ad G kb)), (1, .int x9), (2, .int (i3 + 1))]) [0, 1, 2] rfl ?_
      refine g_goto (tgt := 4) dX0_things_24 (by decide) ?_
      refine g_pick (lv' := [(0, .ref (uk_ad G kb)), (1, .int x9), (2, .int (i3 + 1))]) [0, 1, 2] rfl ?_
      exact ihi3 (by first | lia | grind) x9 
  refine g_pick (lv' := [(0, .ref (uk_ad G kb)), (1, .int 0), (2, .int 0)]) [0, 1, 2] rfl ?_
  exact L4_0 0 (by first | decide | lia | grind) (by first | decide | lia | grind) 0 
abbrev q_X0_allFeeds (u : uk_Mem) (kb : Nat) (r : Option Value) (u' : uk_Mem) : Prop := (∃ x : Int32, r = some (.int x) ∧ True) ∧ (u' = u)
abbrev q_X0_gainOf (u : uk_Mem) (kb : Nat) (g : Int32) (r : Option Value) (u' : uk_Mem) : Prop := (∃ x : Int32, r = some (.int x) ∧ True) ∧ (u' = u)
abbrev q_X0_gainBound (u : uk_Mem) (kb : Nat) (r : Option Value) (u' : uk_Mem) : Prop := (∃ x : Int32, r = some (.int x) ∧ True) ∧ (u' = u)
abbrev q_X0_brings (u : uk_Mem) (kb : Nat) (g : Int32) (b : Int32) (r : Option Value) (u' : uk_Mem) : Prop := (∃ x : Int32, r = some (.int x) ∧ (x = 0 ∨ x = 1) ∧ (¬ x = 0 → True) ∧ (x = 0 → True)) ∧ (u' = u)
abbrev q_X0_flipHalf (u : uk_Mem) (kb : Nat) (m : Int32) (r : Option Value) (u' : uk_Mem) : Prop := (r = none) ∧ (iv u' ∧ fr kb (kb + 9) u u')
set_option maxHeartbeats 4000000 in
set_option maxRecDepth 20000 in
theorem c_X0_flipHalf {G : uk_D} (hs : uk_Sep G) {u : uk_Mem} (hu : iv u) {kb : Nat} (hkb : uk_isK kb) (m : Int32) (p0 : 0 ≤ m) (p1 : m ≤ 7) (d : Nat) : uk_Meth G d mX0_flipHalf [.ref (uk_ad G kb), .int m] u (q_X0_flipHalf u kb m) := by
  refine uk_Meth.of hs (by decide) (Nat.le_of_ble_eq_true rfl) (fun X => ?_)
  have f0 : fr kb (kb + 9) u u := fr_rf
  refine g_aload_n dX0_flipHalf_0 rfl ?_
  refine f_X0_15 rfl (kk_0 hkb) dX0_flipHalf_1 ?_
  refine g_iload_n dX0_flipHalf_4 rfl ?_
  have v1 : vp_in m 8 := uk_vin 8 rfl (by first | decide | lia | grind) (by first | decide | lia | grind)
  refine g_iald (kk_1 hkb) (kl_1 hkb) v1 dX0_flipHalf_5 ?_
  refine g_topi (fun x2 ex2 => ?_)
  refine g_iconst (v := 3) dX0_flipHalf_6 (by decide) ?_
  refine g_icmp_ne (tgt := 24) dX0_flipHalf_7 (by decide) (fun c3 => ?_) (fun c3 => ?_)
  · exact g_vret dX0_flipHalf_24 rfl ⟨rfl, hu, f0⟩
  · refine g_aload_n dX0_flipHalf_10 rfl ?_
    refine f_X0_34 rfl (kk_0 hkb) dX0_flipHalf_11 ?_
    refine g_iload_n dX0_flipHalf_14 rfl ?_
    refine g_iconst (v := 1) dX0_flipHalf_15 (by decide) ?_
    refine g_aload_n dX0_flipHalf_16 rfl ?_
    refine f_X0_34 rfl (kk_0 hkb) dX0_flipHalf_17 ?_
    refine g_iload_n dX0_flipHalf_20 rfl ?_
    have v4 : vp_in m 8 := uk_vin 8 rfl (by first | decide | lia | grind) (by first | decide | lia | grind)
    refine g_iald (kk_7 hkb) (kl_7 hkb) v4 dX0_flipHalf_21 ?_
    refine g_topi (fun x5 ex5 => ?_)
    refine g_isub dX0_flipHalf_22 ?_
    refine g_topi (fun x6 ex6 => ?_)
    have v7 : vp_in m 8 := uk_vin 8 rfl (by first | decide | lia | grind) (by first | decide | lia | grind)
    have b8 := uk_cl v7
    refine g_iast (kk_7 hkb) (kl_7 hkb) v7 dX0_flipHalf_23 ?_
    refine g_mem (fun u9 eu9 => ?_)
    have hu9 : iv u9 := by rw [eu9]; exact iv_upF hu (ka_7 hkb _ (by omega))
    have fu9 : fr kb (kb + 9) u u9 := by rw [eu9]; exact fr_up f0 (by omega) (by omega)
    exact g_vret dX0_flipHalf_24 rfl ⟨rfl, hu9, fu9⟩
abbrev q_X0_moveCooked (u : uk_Mem) (kb : Nat) (m : Int32) (t : Int32) (r : Option Value) (u' : uk_Mem) : Prop := (r = none) ∧ (iv u' ∧ fr kb (kb + 9) u u')
set_option maxHeartbeats 4000000 in
set_option maxRecDepth 20000 in
theorem c_X0_moveCooked {G : uk_D} (hs : uk_Sep G) {u : uk_Mem} (hu : iv u) {kb : Nat} (hkb : uk_isK kb) (m : Int32) (t : Int32) (p0 : 0 ≤ m) (p1 : m ≤ 7) (d : Nat) : uk_Meth G d mX0_moveCooked [.ref (uk_ad G kb), .int m, .int t] u (q_X0_moveCooked u kb m t) := by
  refine uk_Meth.of hs (by decide) (Nat.le_of_ble_eq_true rfl) (fun X => ?_)
  have f0 : fr kb (kb + 9) u u := fr_rf
  refine g_aload_n dX0_moveCooked_0 rfl ?_
  refine f_X0_31 rfl (kk_0 hkb) dX0_moveCooked_1 ?_
  refine g_aload_n dX0_moveCooked_4 rfl ?_
  refine f_X0_19 rfl (kk_0 hkb) dX0_moveCooked_5 ?_
  refine g_iload_n dX0_moveCooked_8 rfl ?_
  have v1 : vp_in m 8 := uk_vin 8 rfl (by first | decide | lia | grind) (by first | decide | lia | grind)
  refine g_iald (kk_2 hkb) (kl_2 hkb) v1 dX0_moveCooked_9 ?_
  refine g_topi (fun x2 ex2 => ?_)
  have bx2 := uk_cl v1
  have rx2 : 0 ≤ x2 ∧ x2 ≤ 7 := by rw [ex2]; exact iv_at hu _ _ (ka_2 hkb _ (by omega))
  refine g_dup2 dX0_moveCooked_10 rfl rfl ?_
  have v3 : vp_in x2 8 := uk_vin 8 rfl (by first | decide | lia | grind) (by first | decide | lia | grind)
  refine g_iald (kk_6 hkb) (kl_6 hkb) v3 dX0_moveCooked_11 ?_
  refine g_topi (fun x4 ex4 => ?_)
  refine g_iload_n dX0_moveCooked_12 rfl ?_
  refine g_isub dX0_moveCooked_13 ?_
  refine g_topi (fun x5 ex5 => ?_)
  have v6 : vp_in x2 8 := uk_vin 8 rfl (by first | decide | lia | grind) (by first | decide | lia | grind)
  have b7 := uk_cl v6
  refine g_iast (kk_6 hkb) (kl_6 hkb) v6 dX0_moveCooked_14 ?_
  refine g_mem (fun u8 eu8 => ?_)
  have hu8 : iv u8 := by rw [eu8]; exact iv_upF hu (ka_6 hkb _ (by omega))
  have fu8 : fr kb (kb + 9) u u8 := by rw [eu8]; exact fr_up f0 (by omega) (by omega)
  refine g_aload_n dX0_moveCooked_15 rfl ?_
  refine f_X0_31 rfl (kk_0 hkb) dX0_moveCooked_16 ?_
  refine g_aload_n dX0_moveCooked_19 rfl ?_
  refine f_X0_22 rfl (kk_0 hkb) dX0_moveCooked_20 ?_
  refine g_iload_n dX0_moveCooked_23 rfl ?_
  have v9 : vp_in m 8 := uk_vin 8 rfl (by first | decide | lia | grind) (by first | decide | lia | grind)
  refine g_iald (kk_3 hkb) (kl_3 hkb) v9 dX0_moveCooked_24 ?_
  refine g_topi (fun x10 ex10 => ?_)
  have bx10 := uk_cl v9
  have rx10 : 0 ≤ x10 ∧ x10 ≤ 7 := by rw [ex10]; exact iv_at hu8 _ _ (ka_3 hkb _ (by omega))
  refine g_dup2 dX0_moveCooked_25 rfl rfl ?_
  have v11 : vp_in x10 8 := uk_vin 8 rfl (by first | decide | lia | grind) (by first | decide | lia | grind)
  refine g_iald (kk_6 hkb) (kl_6 hkb) v11 dX0_moveCooked_26 ?_
  refine g_topi (fun x12 ex12 => ?_)
  refine g_iload_n dX0_moveCooked_27 rfl ?_
  refine g_isub dX0_moveCooked_28 ?_
  refine g_topi (fun x13 ex13 => ?_)
  have v14 : vp_in x10 8 := uk_vin 8 rfl (by first | decide | lia | grind) (by first | decide | lia | grind)
  have b15 := uk_cl v14
  refine g_iast (kk_6 hkb) (kl_6 hkb) v14 dX0_moveCooked_29 ?_
  refine g_mem (fun u16 eu16 => ?_)
  have hu16 : iv u16 := by rw [eu16]; exact iv_upF hu8 (ka_6 hkb _ (by omega))
  have fu16 : fr kb (kb + 9) u u16 := by rw [eu16]; exact fr_up fu8 (by omega) (by omega)
  refine g_aload_n dX0_moveCooked_30 rfl ?_
  refine f_X0_31 rfl (kk_0 hkb) dX0_moveCooked_31 ?_
  refine g_iload_n dX0_moveCooked_34 rfl ?_
  refine g_dup2 dX0_moveCooked_35 rfl rfl ?_
  have v17 : vp_in m 8 := uk_vin 8 rfl (by first | decide | lia | grind) (by first | decide | lia | grind)
  refine g_iald (kk_6 hkb) (kl_6 hkb) v17 dX0_moveCooked_36 ?_
  refine g_topi (fun x18 ex18 => ?_)
  refine g_iload_n dX0_moveCooked_37 rfl ?_
  refine g_iadd dX0_moveCooked_38 ?_
  refine g_topi (fun x19 ex19 => ?_)
  have v20 : vp_in m 8 := uk_vin 8 rfl (by first | decide | lia | grind) (by first | decide | lia | grind)
  have b21 := uk_cl v20
  refine g_iast (kk_6 hkb) (kl_6 hkb) v20 dX0_moveCooked_39 ?_
  refine g_mem (fun u22 eu22 => ?_)
  have hu22 : iv u22 := by rw [eu22]; exact iv_upF hu16 (ka_6 hkb _ (by omega))
  have fu22 : fr kb (kb + 9) u u22 := by rw [eu22]; exact fr_up fu16 (by omega) (by omega)
  exact g_vret dX0_moveCooked_40 rfl ⟨rfl, hu22, fu22⟩
abbrev q_X0_moveTurned (u : uk_Mem) (kb : Nat) (m : Int32) (t : Int32) (r : Option Value) (u' : uk_Mem) : Prop := (r = none) ∧ (iv u' ∧ fr kb (kb + 9) u u')
set_option maxHeartbeats 4000000 in
set_option maxRecDepth 20000 in
theorem c_X0_moveTurned {G : uk_D} (hs : uk_Sep G) {u : uk_Mem} (hu : iv u) {kb : Nat} (hkb : uk_isK kb) (m : Int32) (t : Int32) (p0 : 0 ≤ m) (p1 : m ≤ 7) (d : Nat) : uk_Meth G (d + 1) mX0_moveTurned [.ref (uk_ad G kb), .int m, .int t] u (q_X0_moveTurned u kb m t) := by
  refine uk_Meth.of hs (by decide) (Nat.le_of_ble_eq_true rfl) (fun X => ?_)
  have f0 : fr kb (kb + 9) u u := fr_rf
  refine g_aload_n dX0_moveTurned_0 rfl ?_
  refine f_X0_31 rfl (kk_0 hkb) dX0_moveTurned_1 ?_
  refine g_iload_n dX0_moveTurned_4 rfl ?_
  refine g_dup2 dX0_moveTurned_5 rfl rfl ?_
  have v1 : vp_in m 8 := uk_vin 8 rfl (by first | decide | lia | grind) (by first | decide | lia | grind)
  refine g_iald (kk_6 hkb) (kl_6 hkb) v1 dX0_moveTurned_6 ?_
  refine g_topi (fun x2 ex2 => ?_)
  refine g_iload_n dX0_moveTurned_7 rfl ?_
  refine g_isub dX0_moveTurned_8 ?_
  refine g_topi (fun x3 ex3 => ?_)
  have v4 : vp_in m 8 := uk_vin 8 rfl (by first | decide | lia | grind) (by first | decide | lia | grind)
  have b5 := uk_cl v4
  refine g_iast (kk_6 hkb) (kl_6 hkb) v4 dX0_moveTurned_9 ?_
  refine g_mem (fun u6 eu6 => ?_)
  have hu6 : iv u6 := by rw [eu6]; exact iv_upF hu (ka_6 hkb _ (by omega))
  have fu6 : fr kb (kb + 9) u u6 := by rw [eu6]; exact fr_up f0 (by omega) (by omega)
  refine g_aload_n dX0_moveTurned_10 rfl ?_
  refine f_X0_31 rfl (kk_0 hkb) dX0_moveTurned_11 ?_
  refine g_aload_n dX0_moveTurned_14 rfl ?_
  refine f_X0_19 rfl (kk_0 hkb) dX0_moveTurned_15 ?_
  refine g_iload_n dX0_moveTurned_18 rfl ?_
  have v7 : vp_in m 8 := uk_vin 8 rfl (by first | decide | lia | grind) (by first | decide | lia | grind)
  refine g_iald (kk_2 hkb) (kl_2 hkb) v7 dX0_moveTurned_19 ?_
  refine g_topi (fun x8 ex8 => ?_)
  have bx8 := uk_cl v7
  have rx8 : 0 ≤ x8 ∧ x8 ≤ 7 := by rw [ex8]; exact iv_at hu6 _ _ (ka_2 hkb _ (by omega))
  refine g_dup2 dX0_moveTurned_20 rfl rfl ?_
  have v9 : vp_in x8 8 := uk_vin 8 rfl (by first | decide | lia | grind) (by first | decide | lia | grind)
  refine g_iald (kk_6 hkb) (kl_6 hkb) v9 dX0_moveTurned_21 ?_
  refine g_topi (fun x10 ex10 => ?_)
  refine g_iload_n dX0_moveTurned_22 rfl ?_
  refine g_iadd dX0_moveTurned_23 ?_
  refine g_topi (fun x11 ex11 => ?_)
  have v12 : vp_in x8 8 := uk_vin 8 rfl (by first | decide | lia | grind) (by first | decide | lia | grind)
  have b13 := uk_cl v12
  refine g_iast (kk_6 hkb) (kl_6 hkb) v12 dX0_moveTurned_24 ?_
  refine g_mem (fun u14 eu14 => ?_)
  have hu14 : iv u14 := by rw [eu14]; exact iv_upF hu6 (ka_6 hkb _ (by omega))
  have fu14 : fr kb (kb + 9) u u14 := by rw [eu14]; exact fr_up fu6 (by omega) (by omega)
  refine g_aload_n dX0_moveTurned_25 rfl ?_
  refine f_X0_15 rfl (kk_0 hkb) dX0_moveTurned_26 ?_
  refine g_iload_n dX0_moveTurned_29 rfl ?_
  have v15 : vp_in m 8 := uk_vin 8 rfl (by first | decide | lia | grind) (by first | decide | lia | grind)
  refine g_iald (kk_1 hkb) (kl_1 hkb) v15 dX0_moveTurned_30 ?_
  refine g_topi (fun x16 ex16 => ?_)
  refine g_aload_n dX0_moveTurned_31 rfl ?_
  refine f_X0_34 rfl (kk_0 hkb) dX0_moveTurned_32 ?_
  refine g_iload_n dX0_moveTurned_35 rfl ?_
  have v17 : vp_in m 8 := uk_vin 8 rfl (by first | decide | lia | grind) (by first | decide | lia | grind)
  refine g_iald (kk_7 hkb) (kl_7 hkb) v17 dX0_moveTurned_36 ?_
  refine g_topi (fun x18 ex18 => ?_)
  refine cl_X0_70 (As := [.int x16, .int x18]) rfl (c_X0_givesB (G := G) hs hu14  x16 x18  (d)) rfl (by omega) rfl (Nat.le_of_ble_eq_true rfl) dX0_moveTurned_37 (fun r19 u20 q21 => ?_)
  obtain ⟨⟨x22, rfl, tx22, nx22, zx22⟩, mq21⟩ := q21
  rw [mq21]
  refine g_if_eq (tgt := 58) dX0_moveTurned_40 (by decide) (fun c23 => ?_) (fun c23 => ?_)
  · have zc23 := zx22 c23
    exact g_vret dX0_moveTurned_58 rfl ⟨rfl, hu14, fu14⟩
  · have zc23 := nx22 c23
    refine g_aload_n dX0_moveTurned_43 rfl ?_
    refine f_X0_31 rfl (kk_0 hkb) dX0_moveTurned_44 ?_
    refine g_aload_n dX0_moveTurned_47 rfl ?_
    refine f_X0_22 rfl (kk_0 hkb) dX0_moveTurned_48 ?_
    refine g_iload_n dX0_moveTurned_51 rfl ?_
    have v24 : vp_in m 8 := uk_vin 8 rfl (by first | decide | lia | grind) (by first | decide | lia | grind)
    refine g_iald (kk_3 hkb) (kl_3 hkb) v24 dX0_moveTurned_52 ?_
    refine g_topi (fun x25 ex25 => ?_)
    have bx25 := uk_cl v24
    have rx25 : 0 ≤ x25 ∧ x25 ≤ 7 := by rw [ex25]; exact iv_at hu14 _ _ (ka_3 hkb _ (by omega))
    refine g_dup2 dX0_moveTurned_53 rfl rfl ?_
    have v26 : vp_in x25 8 := uk_vin 8 rfl (by first | decide | lia | grind) (by first | decide | lia | grind)
    refine g_iald (kk_6 hkb) (kl_6 hkb) v26 dX0_moveTurned_54 ?_
    refine g_topi (fun x27 ex27 => ?_)
    refine g_iload_n dX0_moveTurned_55 rfl ?_
    refine g_iadd dX0_moveTurned_56 ?_
    refine g_topi (fun x28 ex28 => ?_)
    have v29 : vp_in x25 8 := uk_vin 8 rfl (by first | decide | lia | grind) (by first | decide | lia | grind)
    have b30 := uk_cl v29
    refine g_iast (kk_6 hkb) (kl_6 hkb) v29 dX0_moveTurned_57 ?_
    refine g_mem (fun u31 eu31 => ?_)
    have hu31 : iv u31 := by rw [eu31]; exact iv_upF hu14 (ka_6 hkb _ (by omega))
    have fu31 : fr kb (kb + 9) u u31 := by rw [eu31]; exact fr_up fu14 (by omega) (by omega)
    exact g_vret dX0_moveTurned_58 rfl ⟨rfl, hu31, fu31⟩
abbrev q_X0_perform (u : uk_Mem) (kb : Nat) (g : Int32) (r : Option Value) (u' : uk_Mem) : Prop := (r = none) ∧ (iv u' ∧ fr kb (kb + 9) u u')
set_option maxHeartbeats 4000000 in
set_option maxRecDepth 20000 in
theorem c_X0_perform {G : uk_D} (hs : uk_Sep G) {u : uk_Mem} (hu : iv u) {kb : Nat} (hkb : uk_isK kb) (g : Int32) (p0 : (0 ≤ g ∧ g ≤ 7) ∨ (10 ≤ g ∧ g ≤ 17)) (d : Nat) : uk_Meth G (d + 2) mX0_perform [.ref (uk_ad G kb), .int g] u (q_X0_perform u kb g) := by
  refine uk_Meth.of hs (by decide) (Nat.le_of_ble_eq_true rfl) (fun X => ?_)
  have f0 : fr kb (kb + 9) u u := fr_rf
  refine g_iload_n dX0_perform_0 rfl ?_
  refine cl_X0_53 (As := [.int g]) rfl (c_X6_stuffOf (G := G) hs hu  g  (d + 1)) rfl (by omega) rfl (Nat.le_of_ble_eq_true rfl) dX0_perform_1 (fun r1 u2 q3 => ?_)
  obtain ⟨⟨x4, rfl, tx4⟩, mq3⟩ := q3
  rw [mq3]
  refine g_istore_n dX0_perform_4 (by decide) ?_
  refine g_pick (lv' := [(0, .ref (uk_ad G kb)), (1, .int g), (2, .int x4)]) [0, 1, 2] rfl ?_
  refine g_iload_n dX0_perform_5 rfl ?_
  refine g_bipush (v := 10) dX0_perform_6 (by decide) ?_
  refine g_icmp_lt (tgt := 25) dX0_perform_8 (by decide) (fun c5 => ?_) (fun c5 => ?_)
  · refine g_aload_n dX0_perform_25 rfl ?_
    refine g_iload_n dX0_perform_26 rfl ?_
    refine g_iconst (v := 1) dX0_perform_27 (by decide) ?_
    refine cl_X0_82 (c := kb) (As := [.int x4, .int 1]) rfl (c_X0_moveCooked (G := G) hs hu hkb x4 1 (by first | trivial | decide | lia | grind) (by first | trivial | decide | lia | grind) (d + 1)) rfl (by omega) (kk_0 hkb) rfl (Nat.le_of_ble_eq_true rfl) dX0_perform_28 (fun r6 u7 q8 => ?_)
    obtain ⟨rfl, mq8⟩ := q8
    obtain ⟨hu7, gu7⟩ := mq8
    have fu7 : fr kb (kb + 9) u u7 := fr_tr f0 gu7 (by omega) (by omega)
    refine g_aload_n dX0_perform_31 rfl ?_
    refine g_dup dX0_perform_32 rfl ?_
    refine f_X0_46 rfl (kk_0 hkb) dX0_perform_33 ?_
    refine g_topi (fun x9 ex9 => ?_)
    have s10 : u7.1 kb 11 = x9 := ex9.symm
    refine g_iconst (v := 1) dX0_perform_36 (by decide) ?_
    refine g_iadd dX0_perform_37 ?_
    refine g_topi (fun x11 ex11 => ?_)
    refine p_X0_46 rfl (kk_0 hkb) dX0_perform_38 ?_
    refine g_mem (fun u12 eu12 => ?_)
    have hu12 : iv u12 := by rw [eu12]; exact iv_upF hu7 (kr_11 hkb)
    have fu12 : fr kb (kb + 9) u u12 := by rw [eu12]; exact fr_up fu7 (by omega) (by omega)
    have s13 : u12.1 kb 11 = x11 := by rw [eu12, uk_up_at]; exact if_pos ⟨rfl, rfl⟩
    exact g_vret dX0_perform_41 rfl ⟨rfl, hu12, fu12⟩
  · refine g_aload_n dX0_perform_11 rfl ?_
    refine g_iload_n dX0_perform_12 rfl ?_
    refine g_iconst (v := 1) dX0_perform_13 (by decide) ?_
    refine cl_X0_74 (c := kb) (As := [.int x4, .int 1]) rfl (c_X0_moveTurned (G := G) hs hu hkb x4 1 (by first | trivial | decide | lia | grind) (by first | trivial | decide | lia | grind) (d)) rfl (by omega) (kk_0 hkb) rfl (Nat.le_of_ble_eq_true rfl) dX0_perform_14 (fun r14 u15 q16 => ?_)
    obtain ⟨rfl, mq16⟩ := q16
    obtain ⟨hu15, gu15⟩ := mq16
    have fu15 : fr kb (kb + 9) u u15 := fr_tr f0 gu15 (by omega) (by omega)
    refine g_aload_n dX0_perform_17 rfl ?_
    refine g_iload_n dX0_perform_18 rfl ?_
    refine cl_X0_78 (c := kb) (As := [.int x4]) rfl (c_X0_flipHalf (G := G) hs hu15 hkb x4 (by first | trivial | decide | lia | grind) (by first | trivial | decide | lia | grind) (d + 1)) rfl (by omega) (kk_0 hkb) rfl (Nat.le_of_ble_eq_true rfl) dX0_perform_19 (fun r17 u18 q19 => ?_)
    obtain ⟨rfl, mq19⟩ := q19
    obtain ⟨hu18, gu18⟩ := mq19
    have fu18 : fr kb (kb + 9) u u18 := fr_tr fu15 gu18 (by omega) (by omega)
    refine g_goto (tgt := 31) dX0_perform_22 (by decide) ?_
    refine g_aload_n dX0_perform_31 rfl ?_
    refine g_dup dX0_perform_32 rfl ?_
    refine f_X0_46 rfl (kk_0 hkb) dX0_perform_33 ?_
    refine g_topi (fun x20 ex20 => ?_)
    have s21 : u18.1 kb 11 = x20 := ex20.symm
    refine g_iconst (v := 1) dX0_perform_36 (by decide) ?_
    refine g_iadd dX0_perform_37 ?_
    refine g_topi (fun x22 ex22 => ?_)
    refine p_X0_46 rfl (kk_0 hkb) dX0_perform_38 ?_
    refine g_mem (fun u23 eu23 => ?_)
    have hu23 : iv u23 := by rw [eu23]; exact iv_upF hu18 (kr_11 hkb)
    have fu23 : fr kb (kb + 9) u u23 := by rw [eu23]; exact fr_up fu18 (by omega) (by omega)
    have s24 : u23.1 kb 11 = x22 := by rw [eu23, uk_up_at]; exact if_pos ⟨rfl, rfl⟩
    exact g_vret dX0_perform_41 rfl ⟨rfl, hu23, fu23⟩
abbrev q_X0_undo (u : uk_Mem) (kb : Nat) (g : Int32) (r : Option Value) (u' : uk_Mem) : Prop := (r = none) ∧ (iv u' ∧ fr kb (kb + 9) u u')
abbrev q_X0_clear (u : uk_Mem) (kb : Nat) (r : Option Value) (u' : uk_Mem) : Prop := (r = none) ∧ (iv u' ∧ fr kb (kb + 9) u u' ∧ u'.1 kb 0 = 0)
abbrev q_X0_copyFrom (u : uk_Mem) (kb : Nat) (kc : Nat) (r : Option Value) (u' : uk_Mem) : Prop := (r = none) ∧ (iv u' ∧ fr kb (kb + 9) u u')
set_option maxHeartbeats 4000000 in
set_option maxRecDepth 20000 in
theorem c_X0_copyFrom {G : uk_D} (hs : uk_Sep G) {u : uk_Mem} (hu : iv u) {kb : Nat} (hkb : uk_isK kb) {kc : Nat} (hkc : uk_isK kc) (d : Nat) : uk_Meth G d mX0_copyFrom [.ref (uk_ad G kb), .ref (uk_ad G kc)] u (q_X0_copyFrom u kb kc) := by
  refine uk_Meth.of hs (by decide) (Nat.le_of_ble_eq_true rfl) (fun X => ?_)
  have f0 : fr kb (kb + 9) u u := fr_rf
  refine g_aload_n dX0_copyFrom_0 rfl ?_
  refine g_aload_n dX0_copyFrom_1 rfl ?_
  refine f_X0_9 rfl (kk_0 hkc) dX0_copyFrom_2 ?_
  refine g_topi (fun x1 ex1 => ?_)
  have rx1 : 0 ≤ x1 ∧ x1 ≤ 8 := by rw [ex1]; exact iv_at hu _ _ (kr_0 hkc)
  have s2 : u.1 kc 0 = x1 := ex1.symm
  refine p_X0_9 rfl (kk_0 hkb) dX0_copyFrom_5 ?_
  refine g_mem (fun u3 eu3 => ?_)
  have hu3 : iv u3 := by rw [eu3]; exact iv_up hu (kr_0 hkb) (by first | lia | grind) (by first | lia | grind)
  have fu3 : fr kb (kb + 9) u u3 := by rw [eu3]; exact fr_up f0 (by omega) (by omega)
  have s4 : u3.1 kb 0 = x1 := by rw [eu3, uk_up_at]; exact if_pos ⟨rfl, rfl⟩
  refine g_aload_n dX0_copyFrom_8 rfl ?_
  refine g_aload_n dX0_copyFrom_9 rfl ?_
  refine f_X0_40 rfl (kk_0 hkc) dX0_copyFrom_10 ?_
  refine g_topi (fun x5 ex5 => ?_)
  have rx5 : 0 ≤ x5 ∧ x5 ≤ 8 := by rw [ex5]; exact iv_at hu3 _ _ (kr_9 hkc)
  have s6 : u3.1 kc 9 = x5 := ex5.symm
  refine p_X0_40 rfl (kk_0 hkb) dX0_copyFrom_13 ?_
  refine g_mem (fun u7 eu7 => ?_)
  have hu7 : iv u7 := by rw [eu7]; exact iv_up hu3 (kr_9 hkb) (by first | lia | grind) (by first | lia | grind)
  have fu7 : fr kb (kb + 9) u u7 := by rw [eu7]; exact fr_up fu3 (by omega) (by omega)
  have s8 : u7.1 kb 9 = x5 := by rw [eu7, uk_up_at]; exact if_pos ⟨rfl, rfl⟩
  refine g_aload_n dX0_copyFrom_16 rfl ?_
  refine g_aload_n dX0_copyFrom_17 rfl ?_
  refine f_X0_43 rfl (kk_0 hkc) dX0_copyFrom_18 ?_
  refine g_topi (fun x9 ex9 => ?_)
  have s10 : u7.1 kc 10 = x9 := ex9.symm
  refine p_X0_43 rfl (kk_0 hkb) dX0_copyFrom_21 ?_
  refine g_mem (fun u11 eu11 => ?_)
  have hu11 : iv u11 := by rw [eu11]; exact iv_upF hu7 (kr_10 hkb)
  have fu11 : fr kb (kb + 9) u u11 := by rw [eu11]; exact fr_up fu7 (by omega) (by omega)
  have s12 : u11.1 kb 10 = x9 := by rw [eu11, uk_up_at]; exact if_pos ⟨rfl, rfl⟩
  refine g_aload_n dX0_copyFrom_24 rfl ?_
  refine g_aload_n dX0_copyFrom_25 rfl ?_
  refine f_X0_46 rfl (kk_0 hkc) dX0_copyFrom_26 ?_
  refine g_topi (fun x13 ex13 => ?_)
  have s14 : u11.1 kc 11 = x13 := ex13.symm
  refine p_X0_46 rfl (kk_0 hkb) dX0_copyFrom_29 ?_
  refine g_mem (fun u15 eu15 => ?_)
  have hu15 : iv u15 := by rw [eu15]; exact iv_upF hu11 (kr_11 hkb)
  have fu15 : fr kb (kb + 9) u u15 := by rw [eu15]; exact fr_up fu11 (by omega) (by omega)
  have s16 : u15.1 kb 11 = x13 := by rw [eu15, uk_up_at]; exact if_pos ⟨rfl, rfl⟩
  refine g_iconst (v := 0) dX0_copyFrom_32 (by decide) ?_
  refine g_istore_n dX0_copyFrom_33 (by decide) ?_
  refine g_pick (lv' := [(0, .ref (uk_ad G kb)), (1, .ref (uk_ad G kc)), (2, .int 0)]) [0, 1, 2] rfl ?_
  have L34_16 : ∀ i18 : Int32, 0 ≤ i18 → i18 ≤ 8 → ∀ (u19 : uk_Mem), iv u19 → fr kb (kb + 9) u u19 → uk_G G X mX0_copyFrom d (q_X0_copyFrom u kb kc) 34 [(0, .ref (uk_ad G kb)), (1, .ref (uk_ad G kc)), (2, .int i18)] [] u19 := by
    refine uk_upl 8 ?_
    intro i18 ai18 bi18 ihi18  u19 hu19 fu19
    refine g_iload_n dX0_copyFrom_34 rfl ?_
    refine g_bipush (v := 8) dX0_copyFrom_35 (by decide) ?_
    refine g_icmp_ge (tgt := 130) dX0_copyFrom_37 (by decide) (fun c20 => ?_) (fun c20 => ?_)
    · refine g_iconst (v := 0) dX0_copyFrom_130 (by decide) ?_
      refine g_istore_n dX0_copyFrom_131 (by decide) ?_
      refine g_pick (lv' := [(0, .ref (uk_ad G kb)), (1, .ref (uk_ad G kc)), (2, .int 0)]) [0, 1, 2] rfl ?_
      have L132_20 : ∀ i22 : Int32, 0 ≤ i22 → i22 ≤ 8 → ∀ (u23 : uk_Mem), iv u23 → fr kb (kb + 9) u u23 → uk_G G X mX0_copyFrom d (q_X0_copyFrom u kb kc) 132 [(0, .ref (uk_ad G kb)), (1, .ref (uk_ad G kc)), (2, .int i22)] [] u23 := by
        refine uk_upl 8 ?_
        intro i22 ai22 bi22 ihi22  u23 hu23 fu23
        refine g_iload_n dX0_copyFrom_132 rfl ?_
        refine g_bipush (v := 8) dX0_copyFrom_133 (by decide) ?_
        refine g_icmp_ge (tgt := 156) dX0_copyFrom_135 (by decide) (fun c24 => ?_) (fun c24 => ?_)
        · exact g_vret dX0_copyFrom_156 rfl ⟨rfl, hu23, fu23⟩
        · refine g_aload_n dX0_copyFrom_138 rfl ?_
          refine f_X0_37 rfl (kk_0 hkb) dX0_copyFrom_139 ?_
          refine g_iload_n dX0_copyFrom_142 rfl ?_
          refine g_aload_n dX0_copyFrom_143 rfl ?_
          refine f_X0_37 rfl (kk_0 hkc) dX0_copyFrom_144 ?_
          refine g_iload_n dX0_copyFrom_147 rfl ?_
          have v25 : vp_in i22 8 := uk_vin 8 rfl (by first | decide | lia | grind) (by first | decide | lia | grind)
          refine g_iald (kk_8 hkc) (kl_8 hkc) v25 dX0_copyFrom_148 ?_
          refine g_topi (fun x26 ex26 => ?_)
          have bx26 := uk_cl v25
          have rx26 : 0 ≤ x26 ∧ x26 ≤ 7 := by rw [ex26]; exact iv_at hu23 _ _ (ka_8 hkc _ (by omega))
          have v27 : vp_in i22 8 := uk_vin 8 rfl (by first | decide | lia | grind) (by first | decide | lia | grind)
          have b28 := uk_cl v27
          refine g_iast (kk_8 hkb) (kl_8 hkb) v27 dX0_copyFrom_149 ?_
          refine g_mem (fun u29 eu29 => ?_)
          have hu29 : iv u29 := by rw [eu29]; exact iv_up hu23 (ka_8 hkb _ (by omega)) (by first | lia | grind) (by first | lia | grind)
          have fu29 : fr kb (kb + 9) u u29 := by rw [eu29]; exact fr_up fu23 (by omega) (by omega)
          refine g_iinc (v := i22 + 1) dX0_copyFrom_150 rfl rfl (by decide) ?_
          refine g_pick (lv' := [(0, .ref (uk_ad G kb)), (1, .ref (uk_ad G kc)), (2, .int (i22 + 1))]) [0, 1, 2] rfl ?_
          refine g_goto (tgt := 132) dX0_copyFrom_153 (by decide) ?_
          refine g_pick (lv' := [(0, .ref (uk_ad G kb)), (1, .ref (uk_ad G kc)), (2, .int (i22 + 1))]) [0, 1, 2] rfl ?_
          exact ihi22 (by first | lia | grind)  u29 hu29 fu29 
      refine g_pick (lv' := [(0, .ref (uk_ad G kb)), (1, .ref (uk_ad G kc)), (2, .int 0)]) [0, 1, 2] rfl ?_
      exact L132_20 0 (by first | decide | lia | grind) (by first | decide | lia | grind)  u19 hu19 fu19 
    · refine g_aload_n dX0_copyFrom_40 rfl ?_
      refine f_X0_15 rfl (kk_0 hkb) dX0_copyFrom_41 ?_
      refine g_iload_n dX0_copyFrom_44 rfl ?_
      refine g_aload_n dX0_copyFrom_45 rfl ?_
      refine f_X0_15 rfl (kk_0 hkc) dX0_copyFrom_46 ?_
      refine g_iload_n dX0_copyFrom_49 rfl ?_
      have v30 : vp_in i18 8 := uk_vin 8 rfl (by first | decide | lia | grind) (by first | decide | lia | grind)
      refine g_iald (kk_1 hkc) (kl_1 hkc) v30 dX0_copyFrom_50 ?_
      refine g_topi (fun x31 ex31 => ?_)
      have v32 : vp_in i18 8 := uk_vin 8 rfl (by first | decide | lia | grind) (by first | decide | lia | grind)
      have b33 := uk_cl v32
      refine g_iast (kk_1 hkb) (kl_1 hkb) v32 dX0_copyFrom_51 ?_
      refine g_mem (fun u34 eu34 => ?_)
      have hu34 : iv u34 := by rw [eu34]; exact iv_upF hu19 (ka_1 hkb _ (by omega))
      have fu34 : fr kb (kb + 9) u u34 := by rw [eu34]; exact fr_up fu19 (by omega) (by omega)
      refine g_aload_n dX0_copyFrom_52 rfl ?_
      refine f_X0_19 rfl (kk_0 hkb) dX0_copyFrom_53 ?_
      refine g_iload_n dX0_copyFrom_56 rfl ?_
      refine g_aload_n dX0_copyFrom_57 rfl ?_
      refine f_X0_19 rfl (kk_0 hkc) dX0_copyFrom_58 ?_
      refine g_iload_n dX0_copyFrom_61 rfl ?_
      have v35 : vp_in i18 8 := uk_vin 8 rfl (by first | decide | lia | grind) (by first | decide | lia | grind)
      refine g_iald (kk_2 hkc) (kl_2 hkc) v35 dX0_copyFrom_62 ?_
      refine g_topi (fun x36 ex36 => ?_)
      have bx36 := uk_cl v35
      have rx36 : 0 ≤ x36 ∧ x36 ≤ 7 := by rw [ex36]; exact iv_at hu34 _ _ (ka_2 hkc _ (by omega))
      have v37 : vp_in i18 8 := uk_vin 8 rfl (by first | decide | lia | grind) (by first | decide | lia | grind)
      have b38 := uk_cl v37
      refine g_iast (kk_2 hkb) (kl_2 hkb) v37 dX0_copyFrom_63 ?_
      refine g_mem (fun u39 eu39 => ?_)
      have hu39 : iv u39 := by rw [eu39]; exact iv_up hu34 (ka_2 hkb _ (by omega)) (by first | lia | grind) (by first | lia | grind)
      have fu39 : fr kb (kb + 9) u u39 := by rw [eu39]; exact fr_up fu34 (by omega) (by omega)
      refine g_aload_n dX0_copyFrom_64 rfl ?_
      refine f_X0_22 rfl (kk_0 hkb) dX0_copyFrom_65 ?_
      refine g_iload_n dX0_copyFrom_68 rfl ?_
      refine g_aload_n dX0_copyFrom_69 rfl ?_
      refine f_X0_22 rfl (kk_0 hkc) dX0_copyFrom_70 ?_
      refine g_iload_n dX0_copyFrom_73 rfl ?_
      have v40 : vp_in i18 8 := uk_vin 8 rfl (by first | decide | lia | grind) (by first | decide | lia | grind)
      refine g_iald (kk_3 hkc) (kl_3 hkc) v40 dX0_copyFrom_74 ?_
      refine g_topi (fun x41 ex41 => ?_)
      have bx41 := uk_cl v40
      have rx41 : 0 ≤ x41 ∧ x41 ≤ 7 := by rw [ex41]; exact iv_at hu39 _ _ (ka_3 hkc _ (by omega))
      have v42 : vp_in i18 8 := uk_vin 8 rfl (by first | decide | lia | grind) (by first | decide | lia | grind)
      have b43 := uk_cl v42
      refine g_iast (kk_3 hkb) (kl_3 hkb) v42 dX0_copyFrom_75 ?_
      refine g_mem (fun u44 eu44 => ?_)
      have hu44 : iv u44 := by rw [eu44]; exact iv_up hu39 (ka_3 hkb _ (by omega)) (by first | lia | grind) (by first | lia | grind)
      have fu44 : fr kb (kb + 9) u u44 := by rw [eu44]; exact fr_up fu39 (by omega) (by omega)
      refine g_aload_n dX0_copyFrom_76 rfl ?_
      refine f_X0_25 rfl (kk_0 hkb) dX0_copyFrom_77 ?_
      refine g_iload_n dX0_copyFrom_80 rfl ?_
      refine g_aload_n dX0_copyFrom_81 rfl ?_
      refine f_X0_25 rfl (kk_0 hkc) dX0_copyFrom_82 ?_
      refine g_iload_n dX0_copyFrom_85 rfl ?_
      have v45 : vp_in i18 8 := uk_vin 8 rfl (by first | decide | lia | grind) (by first | decide | lia | grind)
      refine g_iald (kk_4 hkc) (kl_4 hkc) v45 dX0_copyFrom_86 ?_
      refine g_topi (fun x46 ex46 => ?_)
      have v47 : vp_in i18 8 := uk_vin 8 rfl (by first | decide | lia | grind) (by first | decide | lia | grind)
      have b48 := uk_cl v47
      refine g_iast (kk_4 hkb) (kl_4 hkb) v47 dX0_copyFrom_87 ?_
      refine g_mem (fun u49 eu49 => ?_)
      have hu49 : iv u49 := by rw [eu49]; exact iv_upF hu44 (ka_4 hkb _ (by omega))
      have fu49 : fr kb (kb + 9) u u49 := by rw [eu49]; exact fr_up fu44 (by omega) (by omega)
      refine g_aload_n dX0_copyFrom_88 rfl ?_
      refine f_X0_28 rfl (kk_0 hkb) dX0_copyFrom_89 ?_
      refine g_iload_n dX0_copyFrom_92 rfl ?_
      refine g_aload_n dX0_copyFrom_93 rfl ?_
      refine f_X0_28 rfl (kk_0 hkc) dX0_copyFrom_94 ?_
      refine g_iload_n dX0_copyFrom_97 rfl ?_
      have v50 : vp_in i18 8 := uk_vin 8 rfl (by first | decide | lia | grind) (by first | decide | lia | grind)
      refine g_iald (kk_5 hkc) (kl_5 hkc) v50 dX0_copyFrom_98 ?_
      refine g_topi (fun x51 ex51 => ?_)
      have v52 : vp_in i18 8 := uk_vin 8 rfl (by first | decide | lia | grind) (by first | decide | lia | grind)
      have b53 := uk_cl v52
      refine g_iast (kk_5 hkb) (kl_5 hkb) v52 dX0_copyFrom_99 ?_
      refine g_mem (fun u54 eu54 => ?_)
      have hu54 : iv u54 := by rw [eu54]; exact iv_upF hu49 (ka_5 hkb _ (by omega))
      have fu54 : fr kb (kb + 9) u u54 := by rw [eu54]; exact fr_up fu49 (by omega) (by omega)
      refine g_aload_n dX0_copyFrom_100 rfl ?_
      refine f_X0_31 rfl (kk_0 hkb) dX0_copyFrom_101 ?_
      refine g_iload_n dX0_copyFrom_104 rfl ?_
      refine g_aload_n dX0_copyFrom_105 rfl ?_
      refine f_X0_31 rfl (kk_0 hkc) dX0_copyFrom_106 ?_
      refine g_iload_n dX0_copyFrom_109 rfl ?_
      have v55 : vp_in i18 8 := uk_vin 8 rfl (by first | decide | lia | grind) (by first | decide | lia | grind)
      refine g_iald (kk_6 hkc) (kl_6 hkc) v55 dX0_copyFrom_110 ?_
      refine g_topi (fun x56 ex56 => ?_)
      have v57 : vp_in i18 8 := uk_vin 8 rfl (by first | decide | lia | grind) (by first | decide | lia | grind)
      have b58 := uk_cl v57
      refine g_iast (kk_6 hkb) (kl_6 hkb) v57 dX0_copyFrom_111 ?_
      refine g_mem (fun u59 eu59 => ?_)
      have hu59 : iv u59 := by rw [eu59]; exact iv_upF hu54 (ka_6 hkb _ (by omega))
      have fu59 : fr kb (kb + 9) u u59 := by rw [eu59]; exact fr_up fu54 (by omega) (by omega)
      refine g_aload_n dX0_copyFrom_112 rfl ?_
      refine f_X0_34 rfl (kk_0 hkb) dX0_copyFrom_113 ?_
      refine g_iload_n dX0_copyFrom_116 rfl ?_
      refine g_aload_n dX0_copyFrom_117 rfl ?_
      refine f_X0_34 rfl (kk_0 hkc) dX0_copyFrom_118 ?_
      refine g_iload_n dX0_copyFrom_121 rfl ?_
      have v60 : vp_in i18 8 := uk_vin 8 rfl (by first | decide | lia | grind) (by first | decide | lia | grind)
      refine g_iald (kk_7 hkc) (kl_7 hkc) v60 dX0_copyFrom_122 ?_
      refine g_topi (fun x61 ex61 => ?_)
      have v62 : vp_in i18 8 := uk_vin 8 rfl (by first | decide | lia | grind) (by first | decide | lia | grind)
      have b63 := uk_cl v62
      refine g_iast (kk_7 hkb) (kl_7 hkb) v62 dX0_copyFrom_123 ?_
      refine g_mem (fun u64 eu64 => ?_)
      have hu64 : iv u64 := by rw [eu64]; exact iv_upF hu59 (ka_7 hkb _ (by omega))
      have fu64 : fr kb (kb + 9) u u64 := by rw [eu64]; exact fr_up fu59 (by omega) (by omega)
      refine g_iinc (v := i18 + 1) dX0_copyFrom_124 rfl rfl (by decide) ?_
      refine g_pick (lv' := [(0, .ref (uk_ad G kb)), (1, .ref (uk_ad G kc)), (2, .int (i18 + 1))]) [0, 1, 2] rfl ?_
      refine g_goto (tgt := 34) dX0_copyFrom_127 (by decide) ?_
      refine g_pick (lv' := [(0, .ref (uk_ad G kb)), (1, .ref (uk_ad G kc)), (2, .int (i18 + 1))]) [0, 1, 2] rfl ?_
      exact ihi18 (by first | lia | grind)  u64 hu64 fu64 
  refine g_pick (lv' := [(0, .ref (uk_ad G kb)), (1, .ref (uk_ad G kc)), (2, .int 0)]) [0, 1, 2] rfl ?_
  exact L34_16 0 (by first | decide | lia | grind) (by first | decide | lia | grind)  u15 hu15 fu15 
abbrev q_X0_addMade (u : uk_Mem) (kb : Nat) (k : Int32) (a : Int32) (b : Int32) (f : Int32) (r : Option Value) (u' : uk_Mem) : Prop := (r = none) ∧ (iv u' ∧ fr kb (kb + 9) u u' ∧ u'.1 kb 0 = u.1 kb 0 + 1)
abbrev q_X0_addRaw (u : uk_Mem) (kb : Nat) (q : Int32) (f : Int32) (r : Option Value) (u' : uk_Mem) : Prop := (r = none) ∧ (iv u' ∧ fr kb (kb + 9) u u')
abbrev q_X0_startNeed (u : uk_Mem) (m : Int32) (w : Int32) (r : Option Value) (u' : uk_Mem) : Prop := (r = none) ∧ (iv u' ∧ fr 57 58 u u')
set_option maxHeartbeats 4000000 in
set_option maxRecDepth 20000 in
theorem c_X0_startNeed {G : uk_D} (hs : uk_Sep G) {u : uk_Mem} (hu : iv u) (m : Int32) (w : Int32) (d : Nat) : uk_Meth G d mX0_startNeed [.int m, .int w, .ref (uk_ad G 57)] u (q_X0_startNeed u m w) := by
  refine uk_Meth.of hs (by decide) (Nat.le_of_ble_eq_true rfl) (fun X => ?_)
  have f0 : fr 57 58 u u := fr_rf
  refine g_iconst (v := 0) dX0_startNeed_0 (by decide) ?_
  refine g_istore_n dX0_startNeed_1 (by decide) ?_
  refine g_pick (lv' := [(0, .int m), (1, .int w), (2, .ref (uk_ad G 57)), (3, .int 0)]) [0, 1, 2, 3] rfl ?_
  have L2_0 : ∀ i2 : Int32, 0 ≤ i2 → i2 ≤ 8 → ∀ (u3 : uk_Mem), iv u3 → fr 57 58 u u3 → uk_G G X mX0_startNeed d (q_X0_startNeed u m w) 2 [(0, .int m), (1, .int w), (2, .ref (uk_ad G 57)), (3, .int i2)] [] u3 := by
    refine uk_upl 8 ?_
    intro i2 ai2 bi2 ihi2  u3 hu3 fu3
    refine g_iload_n dX0_startNeed_2 rfl ?_
    refine g_bipush (v := 8) dX0_startNeed_3 (by decide) ?_
    refine g_icmp_ge (tgt := 27) dX0_startNeed_5 (by decide) (fun c4 => ?_) (fun c4 => ?_)
    · exact g_vret dX0_startNeed_27 rfl ⟨rfl, hu3, fu3⟩
    · refine g_aload_n dX0_startNeed_8 rfl ?_
      refine g_iload_n dX0_startNeed_9 rfl ?_
      refine g_iload_n dX0_startNeed_10 rfl ?_
      refine g_iload_n dX0_startNeed_11 rfl ?_
      refine g_icmp_ne (tgt := 19) dX0_startNeed_12 (by decide) (fun c5 => ?_) (fun c5 => ?_)
      · refine g_iconst (v := 0) dX0_startNeed_19 (by decide) ?_
        have v6 : vp_in i2 8 := uk_vin 8 rfl (by first | decide | lia | grind) (by first | decide | lia | grind)
        have b7 := uk_cl v6
        refine g_iast rfl rfl v6 dX0_startNeed_20 ?_
        refine g_mem (fun u8 eu8 => ?_)
        have hu8 : iv u8 := by rw [eu8]; exact iv_upF hu3 (uk_pick1 _ (by omega))
        have fu8 : fr 57 58 u u8 := by rw [eu8]; exact fr_up fu3 (by omega) (by omega)
        refine g_iinc (v := i2 + 1) dX0_startNeed_21 rfl rfl (by decide) ?_
        refine g_pick (lv' := [(0, .int m), (1, .int w), (2, .ref (uk_ad G 57)), (3, .int (i2 + 1))]) [0, 1, 2, 3] rfl ?_
        refine g_goto (tgt := 2) dX0_startNeed_24 (by decide) ?_
        refine g_pick (lv' := [(0, .int m), (1, .int w), (2, .ref (uk_ad G 57)), (3, .int (i2 + 1))]) [0, 1, 2, 3] rfl ?_
        exact ihi2 (by first | lia | grind)  u8 hu8 fu8 
      · refine g_iload_n dX0_startNeed_15 rfl ?_
        refine g_goto (tgt := 20) dX0_startNeed_16 (by decide) ?_
        have v9 : vp_in i2 8 := uk_vin 8 rfl (by first | decide | lia | grind) (by first | decide | lia | grind)
        have b10 := uk_cl v9
        refine g_iast rfl rfl v9 dX0_startNeed_20 ?_
        refine g_mem (fun u11 eu11 => ?_)
        have hu11 : iv u11 := by rw [eu11]; exact iv_upF hu3 (uk_pick1 _ (by omega))
        have fu11 : fr 57 58 u u11 := by rw [eu11]; exact fr_up fu3 (by omega) (by omega)
        refine g_iinc (v := i2 + 1) dX0_startNeed_21 rfl rfl (by decide) ?_
        refine g_pick (lv' := [(0, .int m), (1, .int w), (2, .ref (uk_ad G 57)), (3, .int (i2 + 1))]) [0, 1, 2, 3] rfl ?_
        refine g_goto (tgt := 2) dX0_startNeed_24 (by decide) ?_
        refine g_pick (lv' := [(0, .int m), (1, .int w), (2, .ref (uk_ad G 57)), (3, .int (i2 + 1))]) [0, 1, 2, 3] rfl ?_
        exact ihi2 (by first | lia | grind)  u11 hu11 fu11 
  refine g_pick (lv' := [(0, .int m), (1, .int w), (2, .ref (uk_ad G 57)), (3, .int 0)]) [0, 1, 2, 3] rfl ?_
  exact L2_0 0 (by first | decide | lia | grind) (by first | decide | lia | grind)  u hu f0 
abbrev q_X0_rawNeed (u : uk_Mem) (kb : Nat) (m : Int32) (r : Option Value) (u' : uk_Mem) : Prop := (r = none) ∧ (iv u' ∧ fr 57 58 u u')
set_option maxHeartbeats 4000000 in
set_option maxRecDepth 20000 in
theorem c_X0_rawNeed {G : uk_D} (hs : uk_Sep G) {u : uk_Mem} (hu : iv u) {kb : Nat} (hkb : uk_isK kb) (m : Int32) (p0 : 0 ≤ m) (p1 : m ≤ 7) (d : Nat) : uk_Meth G (d + 1) mX0_rawNeed [.ref (uk_ad G kb), .int m, .ref (uk_ad G 57)] u (q_X0_rawNeed u kb m) := by
  refine uk_Meth.of hs (by decide) (Nat.le_of_ble_eq_true rfl) (fun X => ?_)
  have f0 : fr 57 58 u u := fr_rf
  refine g_iload_n dX0_rawNeed_0 rfl ?_
  refine g_iconst (v := 1) dX0_rawNeed_1 (by decide) ?_
  refine g_aload_n dX0_rawNeed_2 rfl ?_
  refine cl_X0_97 (As := [.int m, .int 1, .ref (uk_ad G 57)]) rfl (c_X0_startNeed (G := G) hs hu  m 1  (d)) rfl (by omega) rfl (Nat.le_of_ble_eq_true rfl) dX0_rawNeed_3 (fun r1 u2 q3 => ?_)
  obtain ⟨rfl, mq3⟩ := q3
  obtain ⟨hu2, gu2⟩ := mq3
  have fu2 : fr 57 58 u u2 := fr_tr f0 gu2 (by omega) (by omega)
  refine g_iload_n dX0_rawNeed_6 rfl ?_
  refine g_istore_n dX0_rawNeed_7 (by decide) ?_
  refine g_pick (lv' := [(0, .ref (uk_ad G kb)), (1, .int m), (2, .ref (uk_ad G 57)), (3, .int m)]) [0, 1, 2, 3] rfl ?_
  have L8_3 : ∀ i5 : Int32, -1 ≤ i5 → ∀ (u6 : uk_Mem), iv u6 → fr 57 58 u u6 → i5 ≤ 7 → uk_G G X mX0_rawNeed (d + 1) (q_X0_rawNeed u kb m) 8 [(0, .ref (uk_ad G kb)), (1, .int m), (2, .ref (uk_ad G 57)), (3, .int i5)] [] u6 := by
    refine uk_dnl ?_
    intro i5 ai5 ihi5  u6 hu6 fu6 ji50
    refine g_iload_n dX0_rawNeed_8 rfl ?_
    refine g_if_lt (tgt := 54) dX0_rawNeed_9 (by decide) (fun c7 => ?_) (fun c7 => ?_)
    · exact g_vret dX0_rawNeed_54 rfl ⟨rfl, hu6, fu6⟩
    · refine g_aload_n dX0_rawNeed_12 rfl ?_
      refine g_iload_n dX0_rawNeed_13 rfl ?_
      refine cl_X0_61 (c := kb) (As := [.int i5]) rfl (c_X0_isMade (G := G) hs hu6 hkb i5 (by first | trivial | decide | lia | grind) (by first | trivial | decide | lia | grind) (d)) rfl (by omega) (kk_0 hkb) rfl (Nat.le_of_ble_eq_true rfl) dX0_rawNeed_14 (fun r8 u9 q10 => ?_)
      obtain ⟨⟨x11, rfl, tx11, nx11, zx11⟩, mq10⟩ := q10
      rw [mq10]
      refine g_if_eq (tgt := 48) dX0_rawNeed_17 (by decide) (fun c12 => ?_) (fun c12 => ?_)
      · have zc12 := zx11 c12
        refine g_iinc (v := i5 - 1) dX0_rawNeed_48 rfl (uk_m1 _) (by decide) ?_
        refine g_pick (lv' := [(0, .ref (uk_ad G kb)), (1, .int m), (2, .ref (uk_ad G 57)), (3, .int (i5 - 1))]) [0, 1, 2, 3] rfl ?_
        refine g_goto (tgt := 8) dX0_rawNeed_51 (by decide) ?_
        refine g_pick (lv' := [(0, .ref (uk_ad G kb)), (1, .int m), (2, .ref (uk_ad G 57)), (3, .int (i5 - 1))]) [0, 1, 2, 3] rfl ?_
        exact ihi5 (by first | lia | grind)  u6 hu6 fu6 (by first | trivial | lia | grind)
      · have zc12 := nx11 c12
        refine g_aload_n dX0_rawNeed_20 rfl ?_
        refine g_aload_n dX0_rawNeed_21 rfl ?_
        refine f_X0_19 rfl (kk_0 hkb) dX0_rawNeed_22 ?_
        refine g_iload_n dX0_rawNeed_25 rfl ?_
        have v13 : vp_in i5 8 := uk_vin 8 rfl (by first | decide | lia | grind) (by first | decide | lia | grind)
        refine g_iald (kk_2 hkb) (kl_2 hkb) v13 dX0_rawNeed_26 ?_
        refine g_topi (fun x14 ex14 => ?_)
        have bx14 := uk_cl v13
        have rx14 : 0 ≤ x14 ∧ x14 ≤ 7 := by rw [ex14]; exact iv_at hu6 _ _ (ka_2 hkb _ (by omega))
        refine g_dup2 dX0_rawNeed_27 rfl rfl ?_
        have v15 : vp_in x14 8 := uk_vin 8 rfl (by first | decide | lia | grind) (by first | decide | lia | grind)
        refine g_iald rfl rfl v15 dX0_rawNeed_28 ?_
        refine g_topi (fun x16 ex16 => ?_)
        refine g_aload_n dX0_rawNeed_29 rfl ?_
        refine g_iload_n dX0_rawNeed_30 rfl ?_
        have v17 : vp_in i5 8 := uk_vin 8 rfl (by first | decide | lia | grind) (by first | decide | lia | grind)
        refine g_iald rfl rfl v17 dX0_rawNeed_31 ?_
        refine g_topi (fun x18 ex18 => ?_)
        refine g_iadd dX0_rawNeed_32 ?_
        refine g_topi (fun x19 ex19 => ?_)
        have v20 : vp_in x14 8 := uk_vin 8 rfl (by first | decide | lia | grind) (by first | decide | lia | grind)
        have b21 := uk_cl v20
        refine g_iast rfl rfl v20 dX0_rawNeed_33 ?_
        refine g_mem (fun u22 eu22 => ?_)
        have hu22 : iv u22 := by rw [eu22]; exact iv_upF hu6 (uk_pick1 _ (by omega))
        have fu22 : fr 57 58 u u22 := by rw [eu22]; exact fr_up fu6 (by omega) (by omega)
        refine g_aload_n dX0_rawNeed_34 rfl ?_
        refine g_aload_n dX0_rawNeed_35 rfl ?_
        refine f_X0_22 rfl (kk_0 hkb) dX0_rawNeed_36 ?_
        refine g_iload_n dX0_rawNeed_39 rfl ?_
        have v23 : vp_in i5 8 := uk_vin 8 rfl (by first | decide | lia | grind) (by first | decide | lia | grind)
        refine g_iald (kk_3 hkb) (kl_3 hkb) v23 dX0_rawNeed_40 ?_
        refine g_topi (fun x24 ex24 => ?_)
        have bx24 := uk_cl v23
        have rx24 : 0 ≤ x24 ∧ x24 ≤ 7 := by rw [ex24]; exact iv_at hu22 _ _ (ka_3 hkb _ (by omega))
        refine g_dup2 dX0_rawNeed_41 rfl rfl ?_
        have v25 : vp_in x24 8 := uk_vin 8 rfl (by first | decide | lia | grind) (by first | decide | lia | grind)
        refine g_iald rfl rfl v25 dX0_rawNeed_42 ?_
        refine g_topi (fun x26 ex26 => ?_)
        refine g_aload_n dX0_rawNeed_43 rfl ?_
        refine g_iload_n dX0_rawNeed_44 rfl ?_
        have v27 : vp_in i5 8 := uk_vin 8 rfl (by first | decide | lia | grind) (by first | decide | lia | grind)
        refine g_iald rfl rfl v27 dX0_rawNeed_45 ?_
        refine g_topi (fun x28 ex28 => ?_)
        refine g_iadd dX0_rawNeed_46 ?_
        refine g_topi (fun x29 ex29 => ?_)
        have v30 : vp_in x24 8 := uk_vin 8 rfl (by first | decide | lia | grind) (by first | decide | lia | grind)
        have b31 := uk_cl v30
        refine g_iast rfl rfl v30 dX0_rawNeed_47 ?_
        refine g_mem (fun u32 eu32 => ?_)
        have hu32 : iv u32 := by rw [eu32]; exact iv_upF hu22 (uk_pick1 _ (by omega))
        have fu32 : fr 57 58 u u32 := by rw [eu32]; exact fr_up fu22 (by omega) (by omega)
        refine g_iinc (v := i5 - 1) dX0_rawNeed_48 rfl (uk_m1 _) (by decide) ?_
        refine g_pick (lv' := [(0, .ref (uk_ad G kb)), (1, .int m), (2, .ref (uk_ad G 57)), (3, .int (i5 - 1))]) [0, 1, 2, 3] rfl ?_
        refine g_goto (tgt := 8) dX0_rawNeed_51 (by decide) ?_
        refine g_pick (lv' := [(0, .ref (uk_ad G kb)), (1, .int m), (2, .ref (uk_ad G 57)), (3, .int (i5 - 1))]) [0, 1, 2, 3] rfl ?_
        exact ihi5 (by first | lia | grind)  u32 hu32 fu32 (by first | trivial | lia | grind)
  refine g_pick (lv' := [(0, .ref (uk_ad G kb)), (1, .int m), (2, .ref (uk_ad G 57)), (3, .int m)]) [0, 1, 2, 3] rfl ?_
  exact L8_3 m (by first | decide | lia | grind)  u2 hu2 fu2 (by first | trivial | lia | grind)
abbrev q_X0_isEnoughFor (u : uk_Mem) (kb : Nat) (m : Int32) (w : Int32) (r : Option Value) (u' : uk_Mem) : Prop := (∃ x : Int32, r = some (.int x) ∧ (x = 0 ∨ x = 1) ∧ (¬ x = 0 → True) ∧ (x = 0 → True)) ∧ (iv u' ∧ fr 57 58 u u')
set_option maxHeartbeats 4000000 in
set_option maxRecDepth 20000 in
theorem c_X0_isEnoughFor {G : uk_D} (hs : uk_Sep G) {u : uk_Mem} (hu : iv u) {kb : Nat} (hkb : uk_isK kb) (m : Int32) (w : Int32) (p0 : 0 ≤ m) (p1 : m ≤ 7) (d : Nat) : uk_Meth G (d + 1) mX0_isEnoughFor [.ref (uk_ad G kb), .int m, .int w, .ref (uk_ad G 57)] u (q_X0_isEnoughFor u kb m w) := by
  refine uk_Meth.of hs (by decide) (Nat.le_of_ble_eq_true rfl) (fun X => ?_)
  have f0 : fr 57 58 u u := fr_rf
  refine g_iload_n dX0_isEnoughFor_0 rfl ?_
  refine g_iload_n dX0_isEnoughFor_1 rfl ?_
  refine g_aload_n dX0_isEnoughFor_2 rfl ?_
  refine cl_X0_97 (As := [.int m, .int w, .ref (uk_ad G 57)]) rfl (c_X0_startNeed (G := G) hs hu  m w  (d)) rfl (by omega) rfl (Nat.le_of_ble_eq_true rfl) dX0_isEnoughFor_3 (fun r1 u2 q3 => ?_)
  obtain ⟨rfl, mq3⟩ := q3
  obtain ⟨hu2, gu2⟩ := mq3
  have fu2 : fr 57 58 u u2 := fr_tr f0 gu2 (by omega) (by omega)
  refine g_iload_n dX0_isEnoughFor_6 rfl ?_
  refine g_istore dX0_isEnoughFor_7 (by decide) ?_
  refine g_pick (lv' := [(0, .ref (uk_ad G kb)), (1, .int m), (2, .int w), (3, .ref (uk_ad G 57)), (4, .int m)]) [0, 1, 2, 3, 4] rfl ?_
  have L9_3 : ∀ i5 : Int32, -1 ≤ i5 → ∀ (u6 : uk_Mem), iv u6 → fr 57 58 u u6 → i5 ≤ 7 → uk_G G X mX0_isEnoughFor (d + 1) (q_X0_isEnoughFor u kb m w) 9 [(0, .ref (uk_ad G kb)), (1, .int m), (2, .int w), (3, .ref (uk_ad G 57)), (4, .int i5)] [] u6 := by
    refine uk_dnl ?_
    intro i5 ai5 ihi5  u6 hu6 fu6 ji50
    refine g_iload dX0_isEnoughFor_9 rfl ?_
    refine g_if_lt (tgt := 88) dX0_isEnoughFor_11 (by decide) (fun c7 => ?_) (fun c7 => ?_)
    · refine g_iconst (v := 1) dX0_isEnoughFor_88 (by decide) ?_
      exact g_iret (ty := .boolean) dX0_isEnoughFor_89 rfl rfl ⟨⟨1, rfl, Or.inr rfl, fun _ => by first | trivial | lia | grind, fun q => absurd q (by decide)⟩, hu6, fu6⟩
    · refine g_iload dX0_isEnoughFor_14 rfl ?_
      refine g_iload_n dX0_isEnoughFor_16 rfl ?_
      refine g_icmp_ne (tgt := 24) dX0_isEnoughFor_17 (by decide) (fun c8 => ?_) (fun c8 => ?_)
      · refine g_aload_n dX0_isEnoughFor_24 rfl ?_
        refine g_iload dX0_isEnoughFor_25 rfl ?_
        have v9 : vp_in i5 8 := uk_vin 8 rfl (by first | decide | lia | grind) (by first | decide | lia | grind)
        refine g_iald rfl rfl v9 dX0_isEnoughFor_27 ?_
        refine g_topi (fun x10 ex10 => ?_)
        refine g_aload_n dX0_isEnoughFor_28 rfl ?_
        refine f_X0_31 rfl (kk_0 hkb) dX0_isEnoughFor_29 ?_
        refine g_iload dX0_isEnoughFor_32 rfl ?_
        have v11 : vp_in i5 8 := uk_vin 8 rfl (by first | decide | lia | grind) (by first | decide | lia | grind)
        refine g_iald (kk_6 hkb) (kl_6 hkb) v11 dX0_isEnoughFor_34 ?_
        refine g_topi (fun x12 ex12 => ?_)
        refine g_isub dX0_isEnoughFor_35 ?_
        refine g_topi (fun x13 ex13 => ?_)
        refine g_istore dX0_isEnoughFor_36 (by decide) ?_
        refine g_pick (lv' := [(0, .ref (uk_ad G kb)), (1, .int m), (2, .int w), (3, .ref (uk_ad G 57)), (4, .int i5), (5, .int x13)]) [0, 1, 2, 3, 4, 5] rfl ?_
        refine g_iload dX0_isEnoughFor_38 rfl ?_
        refine g_if_le (tgt := 82) dX0_isEnoughFor_40 (by decide) (fun c14 => ?_) (fun c14 => ?_)
        · refine g_iinc (v := i5 - 1) dX0_isEnoughFor_82 rfl (uk_m1 _) (by decide) ?_
          refine g_pick (lv' := [(0, .ref (uk_ad G kb)), (1, .int m), (2, .int w), (3, .ref (uk_ad G 57)), (4, .int (i5 - 1)), (5, .int x13)]) [0, 1, 2, 3, 4, 5] rfl ?_
          refine g_goto (tgt := 9) dX0_isEnoughFor_85 (by decide) ?_
          refine g_pick (lv' := [(0, .ref (uk_ad G kb)), (1, .int m), (2, .int w), (3, .ref (uk_ad G 57)), (4, .int (i5 - 1))]) [0, 1, 2, 3, 4] rfl ?_
          exact ihi5 (by first | lia | grind)  u6 hu6 fu6 (by first | trivial | lia | grind)
        · refine g_aload_n dX0_isEnoughFor_43 rfl ?_
          refine g_iload dX0_isEnoughFor_44 rfl ?_
          refine cl_X0_61 (c := kb) (As := [.int i5]) rfl (c_X0_isMade (G := G) hs hu6 hkb i5 (by first | trivial | decide | lia | grind) (by first | trivial | decide | lia | grind) (d)) rfl (by omega) (kk_0 hkb) rfl (Nat.le_of_ble_eq_true rfl) dX0_isEnoughFor_46 (fun r15 u16 q17 => ?_)
          obtain ⟨⟨x18, rfl, tx18, nx18, zx18⟩, mq17⟩ := q17
          rw [mq17]
          refine g_if_ne (tgt := 54) dX0_isEnoughFor_49 (by decide) (fun c19 => ?_) (fun c19 => ?_)
          · have zc19 := nx18 c19
            refine g_aload_n dX0_isEnoughFor_54 rfl ?_
            refine g_aload_n dX0_isEnoughFor_55 rfl ?_
            refine f_X0_19 rfl (kk_0 hkb) dX0_isEnoughFor_56 ?_
            refine g_iload dX0_isEnoughFor_59 rfl ?_
            have v20 : vp_in i5 8 := uk_vin 8 rfl (by first | decide | lia | grind) (by first | decide | lia | grind)
            refine g_iald (kk_2 hkb) (kl_2 hkb) v20 dX0_isEnoughFor_61 ?_
            refine g_topi (fun x21 ex21 => ?_)
            have bx21 := uk_cl v20
            have rx21 : 0 ≤ x21 ∧ x21 ≤ 7 := by rw [ex21]; exact iv_at hu6 _ _ (ka_2 hkb _ (by omega))
            refine g_dup2 dX0_isEnoughFor_62 rfl rfl ?_
            have v22 : vp_in x21 8 := uk_vin 8 rfl (by first | decide | lia | grind) (by first | decide | lia | grind)
            refine g_iald rfl rfl v22 dX0_isEnoughFor_63 ?_
            refine g_topi (fun x23 ex23 => ?_)
            refine g_iload dX0_isEnoughFor_64 rfl ?_
            refine g_iadd dX0_isEnoughFor_66 ?_
            refine g_topi (fun x24 ex24 => ?_)
            have v25 : vp_in x21 8 := uk_vin 8 rfl (by first | decide | lia | grind) (by first | decide | lia | grind)
            have b26 := uk_cl v25
            refine g_iast rfl rfl v25 dX0_isEnoughFor_67 ?_
            refine g_mem (fun u27 eu27 => ?_)
            have hu27 : iv u27 := by rw [eu27]; exact iv_upF hu6 (uk_pick1 _ (by omega))
            have fu27 : fr 57 58 u u27 := by rw [eu27]; exact fr_up fu6 (by omega) (by omega)
            refine g_aload_n dX0_isEnoughFor_68 rfl ?_
            refine g_aload_n dX0_isEnoughFor_69 rfl ?_
            refine f_X0_22 rfl (kk_0 hkb) dX0_isEnoughFor_70 ?_
            refine g_iload dX0_isEnoughFor_73 rfl ?_
            have v28 : vp_in i5 8 := uk_vin 8 rfl (by first | decide | lia | grind) (by first | decide | lia | grind)
            refine g_iald (kk_3 hkb) (kl_3 hkb) v28 dX0_isEnoughFor_75 ?_
            refine g_topi (fun x29 ex29 => ?_)
            have bx29 := uk_cl v28
            have rx29 : 0 ≤ x29 ∧ x29 ≤ 7 := by rw [ex29]; exact iv_at hu27 _ _ (ka_3 hkb _ (by omega))
            refine g_dup2 dX0_isEnoughFor_76 rfl rfl ?_
            have v30 : vp_in x29 8 := uk_vin 8 rfl (by first | decide | lia | grind) (by first | decide | lia | grind)
            refine g_iald rfl rfl v30 dX0_isEnoughFor_77 ?_
            refine g_topi (fun x31 ex31 => ?_)
            refine g_iload dX0_isEnoughFor_78 rfl ?_
            refine g_iadd dX0_isEnoughFor_80 ?_
            refine g_topi (fun x32 ex32 => ?_)
            have v33 : vp_in x29 8 := uk_vin 8 rfl (by first | decide | lia | grind) (by first | decide | lia | grind)
            have b34 := uk_cl v33
            refine g_iast rfl rfl v33 dX0_isEnoughFor_81 ?_
            refine g_mem (fun u35 eu35 => ?_)
            have hu35 : iv u35 := by rw [eu35]; exact iv_upF hu27 (uk_pick1 _ (by omega))
            have fu35 : fr 57 58 u u35 := by rw [eu35]; exact fr_up fu27 (by omega) (by omega)
            refine g_iinc (v := i5 - 1) dX0_isEnoughFor_82 rfl (uk_m1 _) (by decide) ?_
            refine g_pick (lv' := [(0, .ref (uk_ad G kb)), (1, .int m), (2, .int w), (3, .ref (uk_ad G 57)), (4, .int (i5 - 1)), (5, .int x13)]) [0, 1, 2, 3, 4, 5] rfl ?_
            refine g_goto (tgt := 9) dX0_isEnoughFor_85 (by decide) ?_
            refine g_pick (lv' := [(0, .ref (uk_ad G kb)), (1, .int m), (2, .int w), (3, .ref (uk_ad G 57)), (4, .int (i5 - 1))]) [0, 1, 2, 3, 4] rfl ?_
            exact ihi5 (by first | lia | grind)  u35 hu35 fu35 (by first | trivial | lia | grind)
          · have zc19 := zx18 c19
            refine g_iconst (v := 0) dX0_isEnoughFor_52 (by decide) ?_
            exact g_iret (ty := .boolean) dX0_isEnoughFor_53 rfl rfl ⟨⟨0, rfl, Or.inl rfl, fun q => absurd rfl q, fun _ => by first | trivial | lia | grind⟩, hu6, fu6⟩
      · refine g_iload_n dX0_isEnoughFor_20 rfl ?_
        refine g_goto (tgt := 36) dX0_isEnoughFor_21 (by decide) ?_
        refine g_istore dX0_isEnoughFor_36 (by decide) ?_
        refine g_pick (lv' := [(0, .ref (uk_ad G kb)), (1, .int m), (2, .int w), (3, .ref (uk_ad G 57)), (4, .int i5), (5, .int w)]) [0, 1, 2, 3, 4, 5] rfl ?_
        refine g_iload dX0_isEnoughFor_38 rfl ?_
        refine g_if_le (tgt := 82) dX0_isEnoughFor_40 (by decide) (fun c36 => ?_) (fun c36 => ?_)
        · refine g_iinc (v := i5 - 1) dX0_isEnoughFor_82 rfl (uk_m1 _) (by decide) ?_
          refine g_pick (lv' := [(0, .ref (uk_ad G kb)), (1, .int m), (2, .int w), (3, .ref (uk_ad G 57)), (4, .int (i5 - 1)), (5, .int w)]) [0, 1, 2, 3, 4, 5] rfl ?_
          refine g_goto (tgt := 9) dX0_isEnoughFor_85 (by decide) ?_
          refine g_pick (lv' := [(0, .ref (uk_ad G kb)), (1, .int m), (2, .int w), (3, .ref (uk_ad G 57)), (4, .int (i5 - 1))]) [0, 1, 2, 3, 4] rfl ?_
          exact ihi5 (by first | lia | grind)  u6 hu6 fu6 (by first | trivial | lia | grind)
        · refine g_aload_n dX0_isEnoughFor_43 rfl ?_
          refine g_iload dX0_isEnoughFor_44 rfl ?_
          refine cl_X0_61 (c := kb) (As := [.int i5]) rfl (c_X0_isMade (G := G) hs hu6 hkb i5 (by first | trivial | decide | lia | grind) (by first | trivial | decide | lia | grind) (d)) rfl (by omega) (kk_0 hkb) rfl (Nat.le_of_ble_eq_true rfl) dX0_isEnoughFor_46 (fun r37 u38 q39 => ?_)
          obtain ⟨⟨x40, rfl, tx40, nx40, zx40⟩, mq39⟩ := q39
          rw [mq39]
          refine g_if_ne (tgt := 54) dX0_isEnoughFor_49 (by decide) (fun c41 => ?_) (fun c41 => ?_)
          · have zc41 := nx40 c41
            refine g_aload_n dX0_isEnoughFor_54 rfl ?_
            refine g_aload_n dX0_isEnoughFor_55 rfl ?_
            refine f_X0_19 rfl (kk_0 hkb) dX0_isEnoughFor_56 ?_
            refine g_iload dX0_isEnoughFor_59 rfl ?_
            have v42 : vp_in i5 8 := uk_vin 8 rfl (by first | decide | lia | grind) (by first | decide | lia | grind)
            refine g_iald (kk_2 hkb) (kl_2 hkb) v42 dX0_isEnoughFor_61 ?_
            refine g_topi (fun x43 ex43 => ?_)
            have bx43 := uk_cl v42
            have rx43 : 0 ≤ x43 ∧ x43 ≤ 7 := by rw [ex43]; exact iv_at hu6 _ _ (ka_2 hkb _ (by omega))
            refine g_dup2 dX0_isEnoughFor_62 rfl rfl ?_
            have v44 : vp_in x43 8 := uk_vin 8 rfl (by first | decide | lia | grind) (by first | decide | lia | grind)
            refine g_iald rfl rfl v44 dX0_isEnoughFor_63 ?_
            refine g_topi (fun x45 ex45 => ?_)
            refine g_iload dX0_isEnoughFor_64 rfl ?_
            refine g_iadd dX0_isEnoughFor_66 ?_
            refine g_topi (fun x46 ex46 => ?_)
            have v47 : vp_in x43 8 := uk_vin 8 rfl (by first | decide | lia | grind) (by first | decide | lia | grind)
            have b48 := uk_cl v47
            refine g_iast rfl rfl v47 dX0_isEnoughFor_67 ?_
            refine g_mem (fun u49 eu49 => ?_)
            have hu49 : iv u49 := by rw [eu49]; exact iv_upF hu6 (uk_pick1 _ (by omega))
            have fu49 : fr 57 58 u u49 := by rw [eu49]; exact fr_up fu6 (by omega) (by omega)
            refine g_aload_n dX0_isEnoughFor_68 rfl ?_
            refine g_aload_n dX0_isEnoughFor_69 rfl ?_
            refine f_X0_22 rfl (kk_0 hkb) dX0_isEnoughFor_70 ?_
            refine g_iload dX0_isEnoughFor_73 rfl ?_
            have v50 : vp_in i5 8 := uk_vin 8 rfl (by first | decide | lia | grind) (by first | decide | lia | grind)
            refine g_iald (kk_3 hkb) (kl_3 hkb) v50 dX0_isEnoughFor_75 ?_
            refine g_topi (fun x51 ex51 => ?_)
            have bx51 := uk_cl v50
            have rx51 : 0 ≤ x51 ∧ x51 ≤ 7 := by rw [ex51]; exact iv_at hu49 _ _ (ka_3 hkb _ (by omega))
            refine g_dup2 dX0_isEnoughFor_76 rfl rfl ?_
            have v52 : vp_in x51 8 := uk_vin 8 rfl (by first | decide | lia | grind) (by first | decide | lia | grind)
            refine g_iald rfl rfl v52 dX0_isEnoughFor_77 ?_
            refine g_topi (fun x53 ex53 => ?_)
            refine g_iload dX0_isEnoughFor_78 rfl ?_
            refine g_iadd dX0_isEnoughFor_80 ?_
            refine g_topi (fun x54 ex54 => ?_)
            have v55 : vp_in x51 8 := uk_vin 8 rfl (by first | decide | lia | grind) (by first | decide | lia | grind)
            have b56 := uk_cl v55
            refine g_iast rfl rfl v55 dX0_isEnoughFor_81 ?_
            refine g_mem (fun u57 eu57 => ?_)
            have hu57 : iv u57 := by rw [eu57]; exact iv_upF hu49 (uk_pick1 _ (by omega))
            have fu57 : fr 57 58 u u57 := by rw [eu57]; exact fr_up fu49 (by omega) (by omega)
            refine g_iinc (v := i5 - 1) dX0_isEnoughFor_82 rfl (uk_m1 _) (by decide) ?_
            refine g_pick (lv' := [(0, .ref (uk_ad G kb)), (1, .int m), (2, .int w), (3, .ref (uk_ad G 57)), (4, .int (i5 - 1)), (5, .int w)]) [0, 1, 2, 3, 4, 5] rfl ?_
            refine g_goto (tgt := 9) dX0_isEnoughFor_85 (by decide) ?_
            refine g_pick (lv' := [(0, .ref (uk_ad G kb)), (1, .int m), (2, .int w), (3, .ref (uk_ad G 57)), (4, .int (i5 - 1))]) [0, 1, 2, 3, 4] rfl ?_
            exact ihi5 (by first | lia | grind)  u57 hu57 fu57 (by first | trivial | lia | grind)
          · have zc41 := zx40 c41
            refine g_iconst (v := 0) dX0_isEnoughFor_52 (by decide) ?_
            exact g_iret (ty := .boolean) dX0_isEnoughFor_53 rfl rfl ⟨⟨0, rfl, Or.inl rfl, fun q => absurd rfl q, fun _ => by first | trivial | lia | grind⟩, hu6, fu6⟩
  refine g_pick (lv' := [(0, .ref (uk_ad G kb)), (1, .int m), (2, .int w), (3, .ref (uk_ad G 57)), (4, .int m)]) [0, 1, 2, 3, 4] rfl ?_
  exact L9_3 m (by first | decide | lia | grind)  u2 hu2 fu2 (by first | trivial | lia | grind)
abbrev q_X0_rawCost (u : uk_Mem) (kb : Nat) (m : Int32) (r : Option Value) (u' : uk_Mem) : Prop := (∃ x : Int32, r = some (.int x) ∧ True) ∧ (iv u' ∧ fr 57 58 u u')
set_option maxHeartbeats 4000000 in
set_option maxRecDepth 20000 in
theorem c_X0_rawCost {G : uk_D} (hs : uk_Sep G) {u : uk_Mem} (hu : iv u) {kb : Nat} (hkb : uk_isK kb) (m : Int32) (p0 : 0 ≤ m) (p1 : m ≤ 7) (d : Nat) : uk_Meth G (d + 2) mX0_rawCost [.ref (uk_ad G kb), .int m, .ref (uk_ad G 57)] u (q_X0_rawCost u kb m) := by
  refine uk_Meth.of hs (by decide) (Nat.le_of_ble_eq_true rfl) (fun X => ?_)
  have f0 : fr 57 58 u u := fr_rf
  refine g_aload_n dX0_rawCost_0 rfl ?_
  refine g_iload_n dX0_rawCost_1 rfl ?_
  refine g_aload_n dX0_rawCost_2 rfl ?_
  refine cl_X0_101 (c := kb) (As := [.int m, .ref (uk_ad G 57)]) rfl (c_X0_rawNeed (G := G) hs hu hkb m (by first | trivial | decide | lia | grind) (by first | trivial | decide | lia | grind) (d)) rfl (by omega) (kk_0 hkb) rfl (Nat.le_of_ble_eq_true rfl) dX0_rawCost_3 (fun r1 u2 q3 => ?_)
  obtain ⟨rfl, mq3⟩ := q3
  obtain ⟨hu2, gu2⟩ := mq3
  have fu2 : fr 57 58 u u2 := fr_tr f0 gu2 (by omega) (by omega)
  refine g_iconst (v := 0) dX0_rawCost_6 (by decide) ?_
  refine g_istore_n dX0_rawCost_7 (by decide) ?_
  refine g_pick (lv' := [(0, .ref (uk_ad G kb)), (1, .int m), (2, .ref (uk_ad G 57)), (3, .int 0)]) [0, 1, 2, 3] rfl ?_
  refine g_iconst (v := 0) dX0_rawCost_8 (by decide) ?_
  refine g_istore dX0_rawCost_9 (by decide) ?_
  refine g_pick (lv' := [(0, .ref (uk_ad G kb)), (1, .int m), (2, .ref (uk_ad G 57)), (3, .int 0), (4, .int 0)]) [0, 1, 2, 3, 4] rfl ?_
  have L11_3 : ∀ i6 : Int32, 0 ≤ i6 → i6 ≤ 8 → ∀ (w5 : Int32), uk_G G X mX0_rawCost (d + 2) (q_X0_rawCost u kb m) 11 [(0, .ref (uk_ad G kb)), (1, .int m), (2, .ref (uk_ad G 57)), (3, .int w5), (4, .int i6)] [] u2 := by
    refine uk_upl 8 ?_
    intro i6 ai6 bi6 ihi6 w5
    refine g_iload dX0_rawCost_11 rfl ?_
    refine g_iload_n dX0_rawCost_13 rfl ?_
    refine g_icmp_gt (tgt := 51) dX0_rawCost_14 (by decide) (fun c7 => ?_) (fun c7 => ?_)
    · refine g_iload_n dX0_rawCost_51 rfl ?_
      exact g_iret (ty := .int) dX0_rawCost_52 rfl rfl ⟨⟨_, rfl, by first | trivial | lia | grind⟩, hu2, fu2⟩
    · refine g_iload_n dX0_rawCost_17 rfl ?_
      refine g_aload_n dX0_rawCost_18 rfl ?_
      refine g_iload dX0_rawCost_19 rfl ?_
      refine cl_X0_61 (c := kb) (As := [.int i6]) rfl (c_X0_isMade (G := G) hs hu2 hkb i6 (by first | trivial | decide | lia | grind) (by first | trivial | decide | lia | grind) (d + 1)) rfl (by omega) (kk_0 hkb) rfl (Nat.le_of_ble_eq_true rfl) dX0_rawCost_21 (fun r8 u9 q10 => ?_)
      obtain ⟨⟨x11, rfl, tx11, nx11, zx11⟩, mq10⟩ := q10
      rw [mq10]
      refine g_if_eq (tgt := 31) dX0_rawCost_24 (by decide) (fun c12 => ?_) (fun c12 => ?_)
      · have zc12 := zx11 c12
        refine g_aload_n dX0_rawCost_31 rfl ?_
        refine g_iload dX0_rawCost_32 rfl ?_
        have v13 : vp_in i6 8 := uk_vin 8 rfl (by first | decide | lia | grind) (by first | decide | lia | grind)
        refine g_iald rfl rfl v13 dX0_rawCost_34 ?_
        refine g_topi (fun x14 ex14 => ?_)
        refine g_aload_n dX0_rawCost_35 rfl ?_
        refine f_X0_28 rfl (kk_0 hkb) dX0_rawCost_36 ?_
        refine g_iload dX0_rawCost_39 rfl ?_
        have v15 : vp_in i6 8 := uk_vin 8 rfl (by first | decide | lia | grind) (by first | decide | lia | grind)
        refine g_iald (kk_5 hkb) (kl_5 hkb) v15 dX0_rawCost_41 ?_
        refine g_topi (fun x16 ex16 => ?_)
        refine g_imul dX0_rawCost_42 ?_
        refine g_topi (fun x17 ex17 => ?_)
        refine g_iadd dX0_rawCost_43 ?_
        refine g_topi (fun x18 ex18 => ?_)
        refine g_istore_n dX0_rawCost_44 (by decide) ?_
        refine g_pick (lv' := [(0, .ref (uk_ad G kb)), (1, .int m), (2, .ref (uk_ad G 57)), (3, .int x18), (4, .int i6)]) [0, 1, 2, 3, 4] rfl ?_
        refine g_iinc (v := i6 + 1) dX0_rawCost_45 rfl rfl (by decide) ?_
        refine g_pick (lv' := [(0, .ref (uk_ad G kb)), (1, .int m), (2, .ref (uk_ad G 57)), (3, .int x18), (4, .int (i6 + 1))]) [0, 1, 2, 3, 4] rfl ?_
        refine g_goto (tgt := 11) dX0_rawCost_48 (by decide) ?_
        refine g_pick (lv' := [(0, .ref (uk_ad G kb)), (1, .int m), (2, .ref (uk_ad G 57)), (3, .int x18), (4, .int (i6 + 1))]) [0, 1, 2, 3, 4] rfl ?_
        exact ihi6 (by first | lia | grind) x18 
      · have zc12 := nx11 c12
        refine g_iconst (v := 0) dX0_rawCost_27 (by decide) ?_
        refine g_goto (tgt := 43) dX0_rawCost_28 (by decide) ?_
        refine g_iadd dX0_rawCost_43 ?_
        refine g_topi (fun x19 ex19 => ?_)
        refine g_istore_n dX0_rawCost_44 (by decide) ?_
        refine g_pick (lv' := [(0, .ref (uk_ad G kb)), (1, .int m), (2, .ref (uk_ad G 57)), (3, .int x19), (4, .int i6)]) [0, 1, 2, 3, 4] rfl ?_
        refine g_iinc (v := i6 + 1) dX0_rawCost_45 rfl rfl (by decide) ?_
        refine g_pick (lv' := [(0, .ref (uk_ad G kb)), (1, .int m), (2, .ref (uk_ad G 57)), (3, .int x19), (4, .int (i6 + 1))]) [0, 1, 2, 3, 4] rfl ?_
        refine g_goto (tgt := 11) dX0_rawCost_48 (by decide) ?_
        refine g_pick (lv' := [(0, .ref (uk_ad G kb)), (1, .int m), (2, .ref (uk_ad G 57)), (3, .int x19), (4, .int (i6 + 1))]) [0, 1, 2, 3, 4] rfl ?_
        exact ihi6 (by first | lia | grind) x19 
  refine g_pick (lv' := [(0, .ref (uk_ad G kb)), (1, .int m), (2, .ref (uk_ad G 57)), (3, .int 0), (4, .int 0)]) [0, 1, 2, 3, 4] rfl ?_
  exact L11_3 0 (by first | decide | lia | grind) (by first | decide | lia | grind) 0 
abbrev q_X1_putWaiting (u : uk_Mem) (t : Int32) (r : Option Value) (u' : uk_Mem) : Prop := (r = none) ∧ (iv u' ∧ fr 41 46 u u')
set_option maxHeartbeats 4000000 in
set_option maxRecDepth 20000 in
theorem c_X1_putWaiting {G : uk_D} (hs : uk_Sep G) {u : uk_Mem} (hu : iv u) (t : Int32) (p0 : 0 ≤ t) (p1 : t ≤ 7) (d : Nat) : uk_Meth G d mX1_putWaiting [.ref (uk_ad G 41), .int t] u (q_X1_putWaiting u t) := by
  refine uk_Meth.of hs (by decide) (Nat.le_of_ble_eq_true rfl) (fun X => ?_)
  have f0 : fr 41 46 u u := fr_rf
  refine g_aload_n dX1_putWaiting_0 rfl ?_
  refine f_X1_31 rfl rfl dX1_putWaiting_1 ?_
  refine g_topi (fun x1 ex1 => ?_)
  have rx1 : 0 ≤ x1 ∧ x1 ≤ 9 := by rw [ex1]; exact iv_at hu _ _ rfl
  have s2 : u.1 41 6 = x1 := ex1.symm
  refine g_aload_n dX1_putWaiting_4 rfl ?_
  refine f_X1_28 rfl rfl dX1_putWaiting_5 ?_
  refine g_alen8 (v := 9) rfl rfl rfl dX1_putWaiting_8 ?_
  refine g_icmp_ge (tgt := 32) dX1_putWaiting_9 (by decide) (fun c3 => ?_) (fun c3 => ?_)
  · refine g_aload_n dX1_putWaiting_32 rfl ?_
    refine f_X1_22 rfl rfl dX1_putWaiting_33 ?_
    refine g_iload_n dX1_putWaiting_36 rfl ?_
    have v4 : vp_in t 8 := uk_vin 8 rfl (by first | decide | lia | grind) (by first | decide | lia | grind)
    refine g_iald rfl rfl v4 dX1_putWaiting_37 ?_
    refine g_topi (fun x5 ex5 => ?_)
    refine g_bipush (v := (-4)) dX1_putWaiting_38 (by decide) ?_
    refine g_icmp_ne (tgt := 53) dX1_putWaiting_40 (by decide) (fun c6 => ?_) (fun c6 => ?_)
    · exact g_vret dX1_putWaiting_53 rfl ⟨rfl, hu, f0⟩
    · refine g_aload_n dX1_putWaiting_43 rfl ?_
      refine f_X1_22 rfl rfl dX1_putWaiting_44 ?_
      refine g_iload_n dX1_putWaiting_47 rfl ?_
      refine g_aload_n dX1_putWaiting_48 rfl ?_
      refine f_X1_19 rfl rfl dX1_putWaiting_49 ?_
      refine g_topi (fun x7 ex7 => ?_)
      have s8 : u.1 41 2 = x7 := ex7.symm
      have v9 : vp_in t 8 := uk_vin 8 rfl (by first | decide | lia | grind) (by first | decide | lia | grind)
      have b10 := uk_cl v9
      refine g_iast rfl rfl v9 dX1_putWaiting_52 ?_
      refine g_mem (fun u11 eu11 => ?_)
      have hu11 : iv u11 := by rw [eu11]; exact iv_upF hu (uk_pick1 _ (by omega))
      have fu11 : fr 41 46 u u11 := by rw [eu11]; exact fr_up f0 (by omega) (by omega)
      exact g_vret dX1_putWaiting_53 rfl ⟨rfl, hu11, fu11⟩
  · refine g_aload_n dX1_putWaiting_12 rfl ?_
    refine f_X1_28 rfl rfl dX1_putWaiting_13 ?_
    refine g_aload_n dX1_putWaiting_16 rfl ?_
    refine f_X1_31 rfl rfl dX1_putWaiting_17 ?_
    refine g_topi (fun x12 ex12 => ?_)
    have rx12 : 0 ≤ x12 ∧ x12 ≤ 9 := by rw [ex12]; exact iv_at hu _ _ rfl
    have qx12 : x12 = x1 := by rw [ex12]; exact s2
    refine g_iload_n dX1_putWaiting_20 rfl ?_
    have v13 : vp_in x12 9 := uk_vin 9 rfl (by first | decide | lia | grind) (by first | decide | lia | grind)
    have b14 := uk_cl v13
    refine g_iast rfl rfl v13 dX1_putWaiting_21 ?_
    refine g_mem (fun u15 eu15 => ?_)
    have hu15 : iv u15 := by rw [eu15]; exact iv_up hu (uk_pick1 _ (by omega)) (by first | lia | grind) (by first | lia | grind)
    have fu15 : fr 41 46 u u15 := by rw [eu15]; exact fr_up f0 (by omega) (by omega)
    refine g_aload_n dX1_putWaiting_22 rfl ?_
    refine g_dup dX1_putWaiting_23 rfl ?_
    refine f_X1_31 rfl rfl dX1_putWaiting_24 ?_
    refine g_topi (fun x16 ex16 => ?_)
    have rx16 : 0 ≤ x16 ∧ x16 ≤ 9 := by rw [ex16]; exact iv_at hu15 _ _ rfl
    have qx16 : x16 = x1 := by rw [ex16]; simp [eu15, uk_up_at, s2]
    refine g_iconst (v := 1) dX1_putWaiting_27 (by decide) ?_
    refine g_iadd dX1_putWaiting_28 ?_
    refine g_topi (fun x17 ex17 => ?_)
    refine p_X1_31 rfl rfl dX1_putWaiting_29 ?_
    refine g_mem (fun u18 eu18 => ?_)
    have hu18 : iv u18 := by rw [eu18]; exact iv_up hu15 rfl (by first | lia | grind) (by first | lia | grind)
    have fu18 : fr 41 46 u u18 := by rw [eu18]; exact fr_up fu15 (by omega) (by omega)
    have s19 : u18.1 41 6 = x17 := by rw [eu18, uk_up_at]; exact if_pos ⟨rfl, rfl⟩
    refine g_aload_n dX1_putWaiting_32 rfl ?_
    refine f_X1_22 rfl rfl dX1_putWaiting_33 ?_
    refine g_iload_n dX1_putWaiting_36 rfl ?_
    have v20 : vp_in t 8 := uk_vin 8 rfl (by first | decide | lia | grind) (by first | decide | lia | grind)
    refine g_iald rfl rfl v20 dX1_putWaiting_37 ?_
    refine g_topi (fun x21 ex21 => ?_)
    refine g_bipush (v := (-4)) dX1_putWaiting_38 (by decide) ?_
    refine g_icmp_ne (tgt := 53) dX1_putWaiting_40 (by decide) (fun c22 => ?_) (fun c22 => ?_)
    · exact g_vret dX1_putWaiting_53 rfl ⟨rfl, hu18, fu18⟩
    · refine g_aload_n dX1_putWaiting_43 rfl ?_
      refine f_X1_22 rfl rfl dX1_putWaiting_44 ?_
      refine g_iload_n dX1_putWaiting_47 rfl ?_
      refine g_aload_n dX1_putWaiting_48 rfl ?_
      refine f_X1_19 rfl rfl dX1_putWaiting_49 ?_
      refine g_topi (fun x23 ex23 => ?_)
      have s24 : u18.1 41 2 = x23 := ex23.symm
      have v25 : vp_in t 8 := uk_vin 8 rfl (by first | decide | lia | grind) (by first | decide | lia | grind)
      have b26 := uk_cl v25
      refine g_iast rfl rfl v25 dX1_putWaiting_52 ?_
      refine g_mem (fun u27 eu27 => ?_)
      have hu27 : iv u27 := by rw [eu27]; exact iv_upF hu18 (uk_pick1 _ (by omega))
      have fu27 : fr 41 46 u u27 := by rw [eu27]; exact fr_up fu18 (by omega) (by omega)
      exact g_vret dX1_putWaiting_53 rfl ⟨rfl, hu27, fu27⟩
abbrev q_X1_takeWaiting (u : uk_Mem)  (r : Option Value) (u' : uk_Mem) : Prop := (∃ x : Int32, r = some (.int x) ∧ 0 ≤ x ∧ x ≤ 7) ∧ (iv u' ∧ fr 41 46 u u')
set_option maxHeartbeats 4000000 in
set_option maxRecDepth 20000 in
theorem c_X1_takeWaiting {G : uk_D} (hs : uk_Sep G) {u : uk_Mem} (hu : iv u) (p0 : 1 ≤ u.1 41 6) (d : Nat) : uk_Meth G d mX1_takeWaiting [.ref (uk_ad G 41)] u (q_X1_takeWaiting u) := by
  refine uk_Meth.of hs (by decide) (Nat.le_of_ble_eq_true rfl) (fun X => ?_)
  have f0 : fr 41 46 u u := fr_rf
  refine g_aload_n dX1_takeWaiting_0 rfl ?_
  refine g_dup dX1_takeWaiting_1 rfl ?_
  refine f_X1_31 rfl rfl dX1_takeWaiting_2 ?_
  refine g_topi (fun x1 ex1 => ?_)
  have rx1 : 0 ≤ x1 ∧ x1 ≤ 9 := by rw [ex1]; exact iv_at hu _ _ rfl
  have s2 : u.1 41 6 = x1 := ex1.symm
  refine g_iconst (v := 1) dX1_takeWaiting_5 (by decide) ?_
  refine g_isub dX1_takeWaiting_6 ?_
  refine g_topi (fun x3 ex3 => ?_)
  refine p_X1_31 rfl rfl dX1_takeWaiting_7 ?_
  refine g_mem (fun u4 eu4 => ?_)
  have hu4 : iv u4 := by rw [eu4]; exact iv_up hu rfl (by first | lia | grind) (by first | lia | grind)
  have fu4 : fr 41 46 u u4 := by rw [eu4]; exact fr_up f0 (by omega) (by omega)
  have s5 : u4.1 41 6 = x3 := by rw [eu4, uk_up_at]; exact if_pos ⟨rfl, rfl⟩
  refine g_aload_n dX1_takeWaiting_10 rfl ?_
  refine f_X1_28 rfl rfl dX1_takeWaiting_11 ?_
  refine g_aload_n dX1_takeWaiting_14 rfl ?_
  refine f_X1_31 rfl rfl dX1_takeWaiting_15 ?_
  refine g_topi (fun x6 ex6 => ?_)
  have rx6 : 0 ≤ x6 ∧ x6 ≤ 9 := by rw [ex6]; exact iv_at hu4 _ _ rfl
  have qx6 : x6 = x3 := by rw [ex6]; exact s5
  have v7 : vp_in x6 9 := uk_vin 9 rfl (by first | decide | lia | grind) (by first | decide | lia | grind)
  refine g_iald rfl rfl v7 dX1_takeWaiting_18 ?_
  refine g_topi (fun x8 ex8 => ?_)
  have bx8 := uk_cl v7
  have rx8 : 0 ≤ x8 ∧ x8 ≤ 7 := by rw [ex8]; exact iv_at hu4 _ _ (uk_pick1 _ (by omega))
  exact g_iret (ty := .int) dX1_takeWaiting_19 rfl rfl ⟨⟨_, rfl, by first | trivial | lia | grind⟩, hu4, fu4⟩
abbrev q_X1_lieDown (u : uk_Mem) (t : Int32) (r : Option Value) (u' : uk_Mem) : Prop := (r = none) ∧ (iv u' ∧ fr 41 46 u u')
set_option maxHeartbeats 4000000 in
set_option maxRecDepth 20000 in
theorem c_X1_lieDown {G : uk_D} (hs : uk_Sep G) {u : uk_Mem} (hu : iv u) (t : Int32) (p0 : 0 ≤ t) (p1 : t ≤ 7) (d : Nat) : uk_Meth G d mX1_lieDown [.ref (uk_ad G 41), .int t] u (q_X1_lieDown u t) := by
  refine uk_Meth.of hs (by decide) (Nat.le_of_ble_eq_true rfl) (fun X => ?_)
  have f0 : fr 41 46 u u := fr_rf
  refine g_aload_n dX1_lieDown_0 rfl ?_
  refine f_X1_15 rfl rfl dX1_lieDown_1 ?_
  refine g_topi (fun x1 ex1 => ?_)
  have rx1 : 0 ≤ x1 ∧ x1 ≤ 128 := by rw [ex1]; exact iv_at hu _ _ rfl
  have s2 : u.1 41 1 = x1 := ex1.symm
  refine g_sipush (v := 128) dX1_lieDown_4 (by decide) ?_
  refine g_icmp_ge (tgt := 30) dX1_lieDown_7 (by decide) (fun c3 => ?_) (fun c3 => ?_)
  · exact g_vret dX1_lieDown_30 rfl ⟨rfl, hu, f0⟩
  · refine g_aload_n dX1_lieDown_10 rfl ?_
    refine f_X1_9 rfl rfl dX1_lieDown_11 ?_
    refine g_aload_n dX1_lieDown_14 rfl ?_
    refine f_X1_15 rfl rfl dX1_lieDown_15 ?_
    refine g_topi (fun x4 ex4 => ?_)
    have rx4 : 0 ≤ x4 ∧ x4 ≤ 128 := by rw [ex4]; exact iv_at hu _ _ rfl
    have qx4 : x4 = x1 := by rw [ex4]; exact s2
    refine g_iload_n dX1_lieDown_18 rfl ?_
    have v5 : vp_in x4 128 := uk_vin 128 rfl (by first | decide | lia | grind) (by first | decide | lia | grind)
    have b6 := uk_cl v5
    refine g_iast rfl rfl v5 dX1_lieDown_19 ?_
    refine g_mem (fun u7 eu7 => ?_)
    have hu7 : iv u7 := by rw [eu7]; exact iv_up hu (uk_pick1 _ (by omega)) (by first | lia | grind) (by first | lia | grind)
    have fu7 : fr 41 46 u u7 := by rw [eu7]; exact fr_up f0 (by omega) (by omega)
    refine g_aload_n dX1_lieDown_20 rfl ?_
    refine g_dup dX1_lieDown_21 rfl ?_
    refine f_X1_15 rfl rfl dX1_lieDown_22 ?_
    refine g_topi (fun x8 ex8 => ?_)
    have rx8 : 0 ≤ x8 ∧ x8 ≤ 128 := by rw [ex8]; exact iv_at hu7 _ _ rfl
    have qx8 : x8 = x1 := by rw [ex8]; simp [eu7, uk_up_at, s2]
    refine g_iconst (v := 1) dX1_lieDown_25 (by decide) ?_
    refine g_iadd dX1_lieDown_26 ?_
    refine g_topi (fun x9 ex9 => ?_)
    refine p_X1_15 rfl rfl dX1_lieDown_27 ?_
    refine g_mem (fun u10 eu10 => ?_)
    have hu10 : iv u10 := by rw [eu10]; exact iv_up hu7 rfl (by first | lia | grind) (by first | lia | grind)
    have fu10 : fr 41 46 u u10 := by rw [eu10]; exact fr_up fu7 (by omega) (by omega)
    have s11 : u10.1 41 1 = x9 := by rw [eu10, uk_up_at]; exact if_pos ⟨rfl, rfl⟩
    exact g_vret dX1_lieDown_30 rfl ⟨rfl, hu10, fu10⟩
abbrev q_X1_start (u : uk_Mem) (m : Int32) (r : Option Value) (u' : uk_Mem) : Prop := (r = none) ∧ (iv u' ∧ fr 41 46 u u')
set_option maxHeartbeats 4000000 in
set_option maxRecDepth 20000 in
theorem c_X1_start {G : uk_D} (hs : uk_Sep G) {u : uk_Mem} (hu : iv u) (m : Int32) (p0 : 0 ≤ m) (p1 : m ≤ 7) (d : Nat) : uk_Meth G (d + 1) mX1_start [.ref (uk_ad G 41), .int m] u (q_X1_start u m) := by
  refine uk_Meth.of hs (by decide) (Nat.le_of_ble_eq_true rfl) (fun X => ?_)
  have f0 : fr 41 46 u u := fr_rf
  refine g_aload_n dX1_start_0 rfl ?_
  refine g_iconst (v := 0) dX1_start_1 (by decide) ?_
  refine p_X1_15 rfl rfl dX1_start_2 ?_
  refine g_mem (fun u1 eu1 => ?_)
  have hu1 : iv u1 := by rw [eu1]; exact iv_up hu rfl (by first | lia | grind) (by first | lia | grind)
  have fu1 : fr 41 46 u u1 := by rw [eu1]; exact fr_up f0 (by omega) (by omega)
  have s2 : u1.1 41 1 = 0 := by rw [eu1, uk_up_at]; exact if_pos ⟨rfl, rfl⟩
  refine g_aload_n dX1_start_5 rfl ?_
  refine g_iconst (v := 0) dX1_start_6 (by decide) ?_
  refine p_X1_19 rfl rfl dX1_start_7 ?_
  refine g_mem (fun u3 eu3 => ?_)
  have hu3 : iv u3 := by rw [eu3]; exact iv_upF hu1 rfl
  have fu3 : fr 41 46 u u3 := by rw [eu3]; exact fr_up fu1 (by omega) (by omega)
  have s4 : u3.1 41 2 = 0 := by rw [eu3, uk_up_at]; exact if_pos ⟨rfl, rfl⟩
  refine g_aload_n dX1_start_10 rfl ?_
  refine g_iconst (v := 0) dX1_start_11 (by decide) ?_
  refine p_X1_31 rfl rfl dX1_start_12 ?_
  refine g_mem (fun u5 eu5 => ?_)
  have hu5 : iv u5 := by rw [eu5]; exact iv_up hu3 rfl (by first | lia | grind) (by first | lia | grind)
  have fu5 : fr 41 46 u u5 := by rw [eu5]; exact fr_up fu3 (by omega) (by omega)
  have s6 : u5.1 41 6 = 0 := by rw [eu5, uk_up_at]; exact if_pos ⟨rfl, rfl⟩
  refine g_iconst (v := 0) dX1_start_15 (by decide) ?_
  refine g_istore_n dX1_start_16 (by decide) ?_
  refine g_pick (lv' := [(0, .ref (uk_ad G 41)), (1, .int m), (2, .int 0)]) [0, 1, 2] rfl ?_
  have L17_6 : ∀ i8 : Int32, 0 ≤ i8 → i8 ≤ 8 → ∀ (u9 : uk_Mem), iv u9 → fr 41 46 u u9 → uk_G G X mX1_start (d + 1) (q_X1_start u m) 17 [(0, .ref (uk_ad G 41)), (1, .int m), (2, .int i8)] [] u9 := by
    refine uk_upl 8 ?_
    intro i8 ai8 bi8 ihi8  u9 hu9 fu9
    refine g_iload_n dX1_start_17 rfl ?_
    refine g_bipush (v := 8) dX1_start_18 (by decide) ?_
    refine g_icmp_ge (tgt := 44) dX1_start_20 (by decide) (fun c10 => ?_) (fun c10 => ?_)
    · refine g_aload_n dX1_start_44 rfl ?_
      refine g_iload_n dX1_start_45 rfl ?_
      refine cl_X1_54 (c := 41) (As := [.int m]) rfl (c_X1_putWaiting (G := G) hs hu9  m (by first | trivial | decide | lia | grind) (by first | trivial | decide | lia | grind) (d)) rfl (by omega) rfl rfl (Nat.le_of_ble_eq_true rfl) dX1_start_46 (fun r11 u12 q13 => ?_)
      obtain ⟨rfl, mq13⟩ := q13
      obtain ⟨hu12, gu12⟩ := mq13
      have fu12 : fr 41 46 u u12 := fr_tr fu9 gu12 (by omega) (by omega)
      exact g_vret dX1_start_49 rfl ⟨rfl, hu12, fu12⟩
    · refine g_aload_n dX1_start_23 rfl ?_
      refine f_X1_22 rfl rfl dX1_start_24 ?_
      refine g_iload_n dX1_start_27 rfl ?_
      refine g_bipush (v := (-4)) dX1_start_28 (by decide) ?_
      have v14 : vp_in i8 8 := uk_vin 8 rfl (by first | decide | lia | grind) (by first | decide | lia | grind)
      have b15 := uk_cl v14
      refine g_iast rfl rfl v14 dX1_start_30 ?_
      refine g_mem (fun u16 eu16 => ?_)
      have hu16 : iv u16 := by rw [eu16]; exact iv_upF hu9 (uk_pick1 _ (by omega))
      have fu16 : fr 41 46 u u16 := by rw [eu16]; exact fr_up fu9 (by omega) (by omega)
      refine g_aload_n dX1_start_31 rfl ?_
      refine f_X1_25 rfl rfl dX1_start_32 ?_
      refine g_iload_n dX1_start_35 rfl ?_
      refine g_iconst (v := 0) dX1_start_36 (by decide) ?_
      have v17 : vp_in i8 8 := uk_vin 8 rfl (by first | decide | lia | grind) (by first | decide | lia | grind)
      have b18 := uk_cl v17
      refine g_iast rfl rfl v17 dX1_start_37 ?_
      refine g_mem (fun u19 eu19 => ?_)
      have hu19 : iv u19 := by rw [eu19]; exact iv_upF hu16 (uk_pick1 _ (by omega))
      have fu19 : fr 41 46 u u19 := by rw [eu19]; exact fr_up fu16 (by omega) (by omega)
      refine g_iinc (v := i8 + 1) dX1_start_38 rfl rfl (by decide) ?_
      refine g_pick (lv' := [(0, .ref (uk_ad G 41)), (1, .int m), (2, .int (i8 + 1))]) [0, 1, 2] rfl ?_
      refine g_goto (tgt := 17) dX1_start_41 (by decide) ?_
      refine g_pick (lv' := [(0, .ref (uk_ad G 41)), (1, .int m), (2, .int (i8 + 1))]) [0, 1, 2] rfl ?_
      exact ihi8 (by first | lia | grind)  u19 hu19 fu19 
  refine g_pick (lv' := [(0, .ref (uk_ad G 41)), (1, .int m), (2, .int 0)]) [0, 1, 2] rfl ?_
  exact L17_6 0 (by first | decide | lia | grind) (by first | decide | lia | grind)  u5 hu5 fu5 
abbrev q_X1_part (u : uk_Mem) (t : Int32) (k : Int32) (r : Option Value) (u' : uk_Mem) : Prop := (r = none) ∧ (iv u' ∧ fr 41 46 u u')
set_option maxHeartbeats 4000000 in
set_option maxRecDepth 20000 in
theorem c_X1_part {G : uk_D} (hs : uk_Sep G) {u : uk_Mem} (hu : iv u) (t : Int32) (k : Int32) (p0 : 0 ≤ t) (p1 : t ≤ 7) (d : Nat) : uk_Meth G (d + 1) mX1_part [.ref (uk_ad G 41), .ref (uk_ad G 13), .int t, .int k] u (q_X1_part u t k) := by
  refine uk_Meth.of hs (by decide) (Nat.le_of_ble_eq_true rfl) (fun X => ?_)
  have f0 : fr 41 46 u u := fr_rf
  refine g_aload_n dX1_part_0 rfl ?_
  refine g_dup dX1_part_1 rfl ?_
  refine f_X1_19 rfl rfl dX1_part_2 ?_
  refine g_topi (fun x1 ex1 => ?_)
  have s2 : u.1 41 2 = x1 := ex1.symm
  refine g_iconst (v := 1) dX1_part_5 (by decide) ?_
  refine g_iadd dX1_part_6 ?_
  refine g_topi (fun x3 ex3 => ?_)
  refine p_X1_19 rfl rfl dX1_part_7 ?_
  refine g_mem (fun u4 eu4 => ?_)
  have hu4 : iv u4 := by rw [eu4]; exact iv_upF hu rfl
  have fu4 : fr 41 46 u u4 := by rw [eu4]; exact fr_up f0 (by omega) (by omega)
  have s5 : u4.1 41 2 = x3 := by rw [eu4, uk_up_at]; exact if_pos ⟨rfl, rfl⟩
  refine g_iload_n dX1_part_10 rfl ?_
  refine g_aload_n dX1_part_11 rfl ?_
  refine f_X1_25 rfl rfl dX1_part_12 ?_
  refine g_iload_n dX1_part_15 rfl ?_
  have v6 : vp_in t 8 := uk_vin 8 rfl (by first | decide | lia | grind) (by first | decide | lia | grind)
  refine g_iald rfl rfl v6 dX1_part_16 ?_
  refine g_topi (fun x7 ex7 => ?_)
  refine cl_X1_57 (As := [.int k, .int x7]) rfl (c_X0_givesB (G := G) hs hu4  k x7  (d)) rfl (by omega) rfl (Nat.le_of_ble_eq_true rfl) dX1_part_17 (fun r8 u9 q10 => ?_)
  obtain ⟨⟨x11, rfl, tx11, nx11, zx11⟩, mq10⟩ := q10
  rw [mq10]
  refine g_if_eq (tgt := 33) dX1_part_20 (by decide) (fun c12 => ?_) (fun c12 => ?_)
  · have zc12 := zx11 c12
    refine g_aload_n dX1_part_33 rfl ?_
    refine g_aload_n dX1_part_34 rfl ?_
    refine f_X1_64 rfl rfl dX1_part_35 ?_
    refine g_iload_n dX1_part_38 rfl ?_
    have v13 : vp_in t 8 := uk_vin 8 rfl (by first | decide | lia | grind) (by first | decide | lia | grind)
    refine g_iald rfl rfl v13 dX1_part_39 ?_
    refine g_topi (fun x14 ex14 => ?_)
    have bx14 := uk_cl v13
    have rx14 : 0 ≤ x14 ∧ x14 ≤ 7 := by rw [ex14]; exact iv_at hu4 _ _ (uk_pick1 _ (by omega))
    refine cl_X1_54 (c := 41) (As := [.int x14]) rfl (c_X1_putWaiting (G := G) hs hu4  x14 (by first | trivial | decide | lia | grind) (by first | trivial | decide | lia | grind) (d)) rfl (by omega) rfl rfl (Nat.le_of_ble_eq_true rfl) dX1_part_40 (fun r15 u16 q17 => ?_)
    obtain ⟨rfl, mq17⟩ := q17
    obtain ⟨hu16, gu16⟩ := mq17
    have fu16 : fr 41 46 u u16 := fr_tr fu4 gu16 (by omega) (by omega)
    refine g_iload_n dX1_part_43 rfl ?_
    refine g_iconst (v := 3) dX1_part_44 (by decide) ?_
    refine g_icmp_ne (tgt := 62) dX1_part_45 (by decide) (fun c18 => ?_) (fun c18 => ?_)
    · exact g_vret dX1_part_62 rfl ⟨rfl, hu16, fu16⟩
    · refine g_aload_n dX1_part_48 rfl ?_
      refine f_X1_25 rfl rfl dX1_part_49 ?_
      refine g_iload_n dX1_part_52 rfl ?_
      refine g_iconst (v := 1) dX1_part_53 (by decide) ?_
      refine g_aload_n dX1_part_54 rfl ?_
      refine f_X1_25 rfl rfl dX1_part_55 ?_
      refine g_iload_n dX1_part_58 rfl ?_
      have v19 : vp_in t 8 := uk_vin 8 rfl (by first | decide | lia | grind) (by first | decide | lia | grind)
      refine g_iald rfl rfl v19 dX1_part_59 ?_
      refine g_topi (fun x20 ex20 => ?_)
      refine g_isub dX1_part_60 ?_
      refine g_topi (fun x21 ex21 => ?_)
      have v22 : vp_in t 8 := uk_vin 8 rfl (by first | decide | lia | grind) (by first | decide | lia | grind)
      have b23 := uk_cl v22
      refine g_iast rfl rfl v22 dX1_part_61 ?_
      refine g_mem (fun u24 eu24 => ?_)
      have hu24 : iv u24 := by rw [eu24]; exact iv_upF hu16 (uk_pick1 _ (by omega))
      have fu24 : fr 41 46 u u24 := by rw [eu24]; exact fr_up fu16 (by omega) (by omega)
      exact g_vret dX1_part_62 rfl ⟨rfl, hu24, fu24⟩
  · have zc12 := nx11 c12
    refine g_aload_n dX1_part_23 rfl ?_
    refine g_aload_n dX1_part_24 rfl ?_
    refine f_X1_61 rfl rfl dX1_part_25 ?_
    refine g_iload_n dX1_part_28 rfl ?_
    have v25 : vp_in t 8 := uk_vin 8 rfl (by first | decide | lia | grind) (by first | decide | lia | grind)
    refine g_iald rfl rfl v25 dX1_part_29 ?_
    refine g_topi (fun x26 ex26 => ?_)
    have bx26 := uk_cl v25
    have rx26 : 0 ≤ x26 ∧ x26 ≤ 7 := by rw [ex26]; exact iv_at hu4 _ _ (uk_pick1 _ (by omega))
    refine cl_X1_54 (c := 41) (As := [.int x26]) rfl (c_X1_putWaiting (G := G) hs hu4  x26 (by first | trivial | decide | lia | grind) (by first | trivial | decide | lia | grind) (d)) rfl (by omega) rfl rfl (Nat.le_of_ble_eq_true rfl) dX1_part_30 (fun r27 u28 q29 => ?_)
    obtain ⟨rfl, mq29⟩ := q29
    obtain ⟨hu28, gu28⟩ := mq29
    have fu28 : fr 41 46 u u28 := fr_tr fu4 gu28 (by omega) (by omega)
    refine g_aload_n dX1_part_33 rfl ?_
    refine g_aload_n dX1_part_34 rfl ?_
    refine f_X1_64 rfl rfl dX1_part_35 ?_
    refine g_iload_n dX1_part_38 rfl ?_
    have v30 : vp_in t 8 := uk_vin 8 rfl (by first | decide | lia | grind) (by first | decide | lia | grind)
    refine g_iald rfl rfl v30 dX1_part_39 ?_
    refine g_topi (fun x31 ex31 => ?_)
    have bx31 := uk_cl v30
    have rx31 : 0 ≤ x31 ∧ x31 ≤ 7 := by rw [ex31]; exact iv_at hu28 _ _ (uk_pick1 _ (by omega))
    refine cl_X1_54 (c := 41) (As := [.int x31]) rfl (c_X1_putWaiting (G := G) hs hu28  x31 (by first | trivial | decide | lia | grind) (by first | trivial | decide | lia | grind) (d)) rfl (by omega) rfl rfl (Nat.le_of_ble_eq_true rfl) dX1_part_40 (fun r32 u33 q34 => ?_)
    obtain ⟨rfl, mq34⟩ := q34
    obtain ⟨hu33, gu33⟩ := mq34
    have fu33 : fr 41 46 u u33 := fr_tr fu28 gu33 (by omega) (by omega)
    refine g_iload_n dX1_part_43 rfl ?_
    refine g_iconst (v := 3) dX1_part_44 (by decide) ?_
    refine g_icmp_ne (tgt := 62) dX1_part_45 (by decide) (fun c35 => ?_) (fun c35 => ?_)
    · exact g_vret dX1_part_62 rfl ⟨rfl, hu33, fu33⟩
    · refine g_aload_n dX1_part_48 rfl ?_
      refine f_X1_25 rfl rfl dX1_part_49 ?_
      refine g_iload_n dX1_part_52 rfl ?_
      refine g_iconst (v := 1) dX1_part_53 (by decide) ?_
      refine g_aload_n dX1_part_54 rfl ?_
      refine f_X1_25 rfl rfl dX1_part_55 ?_
      refine g_iload_n dX1_part_58 rfl ?_
      have v36 : vp_in t 8 := uk_vin 8 rfl (by first | decide | lia | grind) (by first | decide | lia | grind)
      refine g_iald rfl rfl v36 dX1_part_59 ?_
      refine g_topi (fun x37 ex37 => ?_)
      refine g_isub dX1_part_60 ?_
      refine g_topi (fun x38 ex38 => ?_)
      have v39 : vp_in t 8 := uk_vin 8 rfl (by first | decide | lia | grind) (by first | decide | lia | grind)
      have b40 := uk_cl v39
      refine g_iast rfl rfl v39 dX1_part_61 ?_
      refine g_mem (fun u41 eu41 => ?_)
      have hu41 : iv u41 := by rw [eu41]; exact iv_upF hu33 (uk_pick1 _ (by omega))
      have fu41 : fr 41 46 u u41 := by rw [eu41]; exact fr_up fu33 (by omega) (by omega)
      exact g_vret dX1_part_62 rfl ⟨rfl, hu41, fu41⟩
abbrev q_X1_grind (u : uk_Mem) (m : Int32) (n : Int32) (r : Option Value) (u' : uk_Mem) : Prop := (r = none) ∧ (iv u' ∧ fr 41 46 u u')
set_option maxHeartbeats 4000000 in
set_option maxRecDepth 20000 in
theorem c_X1_grind {G : uk_D} (hs : uk_Sep G) {u : uk_Mem} (hu : iv u) (m : Int32) (n : Int32) (p0 : 0 ≤ m) (p1 : m ≤ 7) (d : Nat) : uk_Meth G (d + 2) mX1_grind [.ref (uk_ad G 41), .ref (uk_ad G 13), .int m, .int n] u (q_X1_grind u m n) := by
  refine uk_Meth.of hs (by decide) (Nat.le_of_ble_eq_true rfl) (fun X => ?_)
  have f0 : fr 41 46 u u := fr_rf
  refine g_aload_n dX1_grind_0 rfl ?_
  refine g_iload_n dX1_grind_1 rfl ?_
  refine cl_X1_34 (c := 41) (As := [.int m]) rfl (c_X1_start (G := G) hs hu  m (by first | trivial | decide | lia | grind) (by first | trivial | decide | lia | grind) (d)) rfl (by omega) rfl rfl (Nat.le_of_ble_eq_true rfl) dX1_grind_2 (fun r1 u2 q3 => ?_)
  obtain ⟨rfl, mq3⟩ := q3
  obtain ⟨hu2, gu2⟩ := mq3
  have fu2 : fr 41 46 u u2 := fr_tr f0 gu2 (by omega) (by omega)
  refine g_iconst (v := 0) dX1_grind_5 (by decide) ?_
  refine g_istore dX1_grind_6 (by decide) ?_
  refine g_pick (lv' := [(0, .ref (uk_ad G 41)), (1, .ref (uk_ad G 13)), (2, .int m), (3, .int n), (4, .int 0)]) [0, 1, 2, 3, 4] rfl ?_
  have L8_3 : ∀ i5 : Int32, 0 ≤ i5 → i5 ≤ 255 → ∀ (u6 : uk_Mem), iv u6 → fr 41 46 u u6 → uk_G G X mX1_grind (d + 2) (q_X1_grind u m n) 8 [(0, .ref (uk_ad G 41)), (1, .ref (uk_ad G 13)), (2, .int m), (3, .int n), (4, .int i5)] [] u6 := by
    refine uk_upl 255 ?_
    intro i5 ai5 bi5 ihi5  u6 hu6 fu6
    refine g_iload dX1_grind_8 rfl ?_
    refine g_sipush (v := 255) dX1_grind_10 (by decide) ?_
    refine g_icmp_ge (tgt := 82) dX1_grind_13 (by decide) (fun c7 => ?_) (fun c7 => ?_)
    · refine g_aload_n dX1_grind_82 rfl ?_
      refine f_X1_31 rfl rfl dX1_grind_83 ?_
      refine g_topi (fun x8 ex8 => ?_)
      have rx8 : 0 ≤ x8 ∧ x8 ≤ 9 := by rw [ex8]; exact iv_at hu6 _ _ rfl
      have s9 : u6.1 41 6 = x8 := ex8.symm
      refine g_iconst (v := 1) dX1_grind_86 (by decide) ?_
      refine g_isub dX1_grind_87 ?_
      refine g_topi (fun x10 ex10 => ?_)
      refine g_istore dX1_grind_88 (by decide) ?_
      refine g_pick (lv' := [(0, .ref (uk_ad G 41)), (1, .ref (uk_ad G 13)), (2, .int m), (3, .int n), (4, .int x10)]) [0, 1, 2, 3, 4] rfl ?_
      have L90_10 : ∀ i12 : Int32, -1 ≤ i12 → ∀ (u13 : uk_Mem), iv u13 → fr 41 46 u u13 → i12 ≤ 8 → uk_G G X mX1_grind (d + 2) (q_X1_grind u m n) 90 [(0, .ref (uk_ad G 41)), (1, .ref (uk_ad G 13)), (2, .int m), (3, .int n), (4, .int i12)] [] u13 := by
        refine uk_dnl ?_
        intro i12 ai12 ihi12  u13 hu13 fu13 ji120
        refine g_iload dX1_grind_90 rfl ?_
        refine g_if_lt (tgt := 112) dX1_grind_92 (by decide) (fun c14 => ?_) (fun c14 => ?_)
        · exact g_vret dX1_grind_112 rfl ⟨rfl, hu13, fu13⟩
        · refine g_aload_n dX1_grind_95 rfl ?_
          refine g_aload_n dX1_grind_96 rfl ?_
          refine f_X1_28 rfl rfl dX1_grind_97 ?_
          refine g_iload dX1_grind_100 rfl ?_
          have v15 : vp_in i12 9 := uk_vin 9 rfl (by first | decide | lia | grind) (by first | decide | lia | grind)
          refine g_iald rfl rfl v15 dX1_grind_102 ?_
          refine g_topi (fun x16 ex16 => ?_)
          have bx16 := uk_cl v15
          have rx16 : 0 ≤ x16 ∧ x16 ≤ 7 := by rw [ex16]; exact iv_at hu13 _ _ (uk_pick1 _ (by omega))
          refine cl_X1_47 (c := 41) (As := [.int x16]) rfl (c_X1_lieDown (G := G) hs hu13  x16 (by first | trivial | decide | lia | grind) (by first | trivial | decide | lia | grind) (d + 1)) rfl (by omega) rfl rfl (Nat.le_of_ble_eq_true rfl) dX1_grind_103 (fun r17 u18 q19 => ?_)
          obtain ⟨rfl, mq19⟩ := q19
          obtain ⟨hu18, gu18⟩ := mq19
          have fu18 : fr 41 46 u u18 := fr_tr fu13 gu18 (by omega) (by omega)
          refine g_iinc (v := i12 - 1) dX1_grind_106 rfl (uk_m1 _) (by decide) ?_
          refine g_pick (lv' := [(0, .ref (uk_ad G 41)), (1, .ref (uk_ad G 13)), (2, .int m), (3, .int n), (4, .int (i12 - 1))]) [0, 1, 2, 3, 4] rfl ?_
          refine g_goto (tgt := 90) dX1_grind_109 (by decide) ?_
          refine g_pick (lv' := [(0, .ref (uk_ad G 41)), (1, .ref (uk_ad G 13)), (2, .int m), (3, .int n), (4, .int (i12 - 1))]) [0, 1, 2, 3, 4] rfl ?_
          exact ihi12 (by first | lia | grind)  u18 hu18 fu18 (by first | trivial | lia | grind)
      refine g_pick (lv' := [(0, .ref (uk_ad G 41)), (1, .ref (uk_ad G 13)), (2, .int m), (3, .int n), (4, .int x10)]) [0, 1, 2, 3, 4] rfl ?_
      exact L90_10 x10 (by first | decide | lia | grind)  u6 hu6 fu6 (by first | trivial | lia | grind)
    · refine g_aload_n dX1_grind_16 rfl ?_
      refine f_X1_19 rfl rfl dX1_grind_17 ?_
      refine g_topi (fun x20 ex20 => ?_)
      have s21 : u6.1 41 2 = x20 := ex20.symm
      refine g_iload_n dX1_grind_20 rfl ?_
      refine g_icmp_ge (tgt := 82) dX1_grind_21 (by decide) (fun c22 => ?_) (fun c22 => ?_)
      · refine g_aload_n dX1_grind_82 rfl ?_
        refine f_X1_31 rfl rfl dX1_grind_83 ?_
        refine g_topi (fun x23 ex23 => ?_)
        have rx23 : 0 ≤ x23 ∧ x23 ≤ 9 := by rw [ex23]; exact iv_at hu6 _ _ rfl
        have s24 : u6.1 41 6 = x23 := ex23.symm
        refine g_iconst (v := 1) dX1_grind_86 (by decide) ?_
        refine g_isub dX1_grind_87 ?_
        refine g_topi (fun x25 ex25 => ?_)
        refine g_istore dX1_grind_88 (by decide) ?_
        refine g_pick (lv' := [(0, .ref (uk_ad G 41)), (1, .ref (uk_ad G 13)), (2, .int m), (3, .int n), (4, .int x25)]) [0, 1, 2, 3, 4] rfl ?_
        have L90_25 : ∀ i27 : Int32, -1 ≤ i27 → ∀ (u28 : uk_Mem), iv u28 → fr 41 46 u u28 → i27 ≤ 8 → uk_G G X mX1_grind (d + 2) (q_X1_grind u m n) 90 [(0, .ref (uk_ad G 41)), (1, .ref (uk_ad G 13)), (2, .int m), (3, .int n), (4, .int i27)] [] u28 := by
          refine uk_dnl ?_
          intro i27 ai27 ihi27  u28 hu28 fu28 ji270
          refine g_iload dX1_grind_90 rfl ?_
          refine g_if_lt (tgt := 112) dX1_grind_92 (by decide) (fun c29 => ?_) (fun c29 => ?_)
          · exact g_vret dX1_grind_112 rfl ⟨rfl, hu28, fu28⟩
          · refine g_aload_n dX1_grind_95 rfl ?_
            refine g_aload_n dX1_grind_96 rfl ?_
            refine f_X1_28 rfl rfl dX1_grind_97 ?_
            refine g_iload dX1_grind_100 rfl ?_
            have v30 : vp_in i27 9 := uk_vin 9 rfl (by first | decide | lia | grind) (by first | decide | lia | grind)
            refine g_iald rfl rfl v30 dX1_grind_102 ?_
            refine g_topi (fun x31 ex31 => ?_)
            have bx31 := uk_cl v30
            have rx31 : 0 ≤ x31 ∧ x31 ≤ 7 := by rw [ex31]; exact iv_at hu28 _ _ (uk_pick1 _ (by omega))
            refine cl_X1_47 (c := 41) (As := [.int x31]) rfl (c_X1_lieDown (G := G) hs hu28  x31 (by first | trivial | decide | lia | grind) (by first | trivial | decide | lia | grind) (d + 1)) rfl (by omega) rfl rfl (Nat.le_of_ble_eq_true rfl) dX1_grind_103 (fun r32 u33 q34 => ?_)
            obtain ⟨rfl, mq34⟩ := q34
            obtain ⟨hu33, gu33⟩ := mq34
            have fu33 : fr 41 46 u u33 := fr_tr fu28 gu33 (by omega) (by omega)
            refine g_iinc (v := i27 - 1) dX1_grind_106 rfl (uk_m1 _) (by decide) ?_
            refine g_pick (lv' := [(0, .ref (uk_ad G 41)), (1, .ref (uk_ad G 13)), (2, .int m), (3, .int n), (4, .int (i27 - 1))]) [0, 1, 2, 3, 4] rfl ?_
            refine g_goto (tgt := 90) dX1_grind_109 (by decide) ?_
            refine g_pick (lv' := [(0, .ref (uk_ad G 41)), (1, .ref (uk_ad G 13)), (2, .int m), (3, .int n), (4, .int (i27 - 1))]) [0, 1, 2, 3, 4] rfl ?_
            exact ihi27 (by first | lia | grind)  u33 hu33 fu33 (by first | trivial | lia | grind)
        refine g_pick (lv' := [(0, .ref (uk_ad G 41)), (1, .ref (uk_ad G 13)), (2, .int m), (3, .int n), (4, .int x25)]) [0, 1, 2, 3, 4] rfl ?_
        exact L90_25 x25 (by first | decide | lia | grind)  u6 hu6 fu6 (by first | trivial | lia | grind)
      · refine g_aload_n dX1_grind_24 rfl ?_
        refine f_X1_31 rfl rfl dX1_grind_25 ?_
        refine g_topi (fun x35 ex35 => ?_)
        have rx35 : 0 ≤ x35 ∧ x35 ≤ 9 := by rw [ex35]; exact iv_at hu6 _ _ rfl
        have s36 : u6.1 41 6 = x35 := ex35.symm
        refine g_if_le (tgt := 82) dX1_grind_28 (by decide) (fun c37 => ?_) (fun c37 => ?_)
        · refine g_aload_n dX1_grind_82 rfl ?_
          refine f_X1_31 rfl rfl dX1_grind_83 ?_
          refine g_topi (fun x38 ex38 => ?_)
          have rx38 : 0 ≤ x38 ∧ x38 ≤ 9 := by rw [ex38]; exact iv_at hu6 _ _ rfl
          have qx38 : x38 = x35 := by rw [ex38]; exact s36
          refine g_iconst (v := 1) dX1_grind_86 (by decide) ?_
          refine g_isub dX1_grind_87 ?_
          refine g_topi (fun x39 ex39 => ?_)
          refine g_istore dX1_grind_88 (by decide) ?_
          refine g_pick (lv' := [(0, .ref (uk_ad G 41)), (1, .ref (uk_ad G 13)), (2, .int m), (3, .int n), (4, .int x39)]) [0, 1, 2, 3, 4] rfl ?_
          have L90_39 : ∀ i41 : Int32, -1 ≤ i41 → ∀ (u42 : uk_Mem), iv u42 → fr 41 46 u u42 → i41 ≤ 8 → uk_G G X mX1_grind (d + 2) (q_X1_grind u m n) 90 [(0, .ref (uk_ad G 41)), (1, .ref (uk_ad G 13)), (2, .int m), (3, .int n), (4, .int i41)] [] u42 := by
            refine uk_dnl ?_
            intro i41 ai41 ihi41  u42 hu42 fu42 ji410
            refine g_iload dX1_grind_90 rfl ?_
            refine g_if_lt (tgt := 112) dX1_grind_92 (by decide) (fun c43 => ?_) (fun c43 => ?_)
            · exact g_vret dX1_grind_112 rfl ⟨rfl, hu42, fu42⟩
            · refine g_aload_n dX1_grind_95 rfl ?_
              refine g_aload_n dX1_grind_96 rfl ?_
              refine f_X1_28 rfl rfl dX1_grind_97 ?_
              refine g_iload dX1_grind_100 rfl ?_
              have v44 : vp_in i41 9 := uk_vin 9 rfl (by first | decide | lia | grind) (by first | decide | lia | grind)
              refine g_iald rfl rfl v44 dX1_grind_102 ?_
              refine g_topi (fun x45 ex45 => ?_)
              have bx45 := uk_cl v44
              have rx45 : 0 ≤ x45 ∧ x45 ≤ 7 := by rw [ex45]; exact iv_at hu42 _ _ (uk_pick1 _ (by omega))
              refine cl_X1_47 (c := 41) (As := [.int x45]) rfl (c_X1_lieDown (G := G) hs hu42  x45 (by first | trivial | decide | lia | grind) (by first | trivial | decide | lia | grind) (d + 1)) rfl (by omega) rfl rfl (Nat.le_of_ble_eq_true rfl) dX1_grind_103 (fun r46 u47 q48 => ?_)
              obtain ⟨rfl, mq48⟩ := q48
              obtain ⟨hu47, gu47⟩ := mq48
              have fu47 : fr 41 46 u u47 := fr_tr fu42 gu47 (by omega) (by omega)
              refine g_iinc (v := i41 - 1) dX1_grind_106 rfl (uk_m1 _) (by decide) ?_
              refine g_pick (lv' := [(0, .ref (uk_ad G 41)), (1, .ref (uk_ad G 13)), (2, .int m), (3, .int n), (4, .int (i41 - 1))]) [0, 1, 2, 3, 4] rfl ?_
              refine g_goto (tgt := 90) dX1_grind_109 (by decide) ?_
              refine g_pick (lv' := [(0, .ref (uk_ad G 41)), (1, .ref (uk_ad G 13)), (2, .int m), (3, .int n), (4, .int (i41 - 1))]) [0, 1, 2, 3, 4] rfl ?_
              exact ihi41 (by first | lia | grind)  u47 hu47 fu47 (by first | trivial | lia | grind)
          refine g_pick (lv' := [(0, .ref (uk_ad G 41)), (1, .ref (uk_ad G 13)), (2, .int m), (3, .int n), (4, .int x39)]) [0, 1, 2, 3, 4] rfl ?_
          exact L90_39 x39 (by first | decide | lia | grind)  u6 hu6 fu6 (by first | trivial | lia | grind)
        · refine g_aload_n dX1_grind_31 rfl ?_
          refine cl_X1_38 (c := 41) (As := []) rfl (c_X1_takeWaiting (G := G) hs hu6   (by first | trivial | decide | lia | grind) (d + 1)) rfl (by omega) rfl rfl (Nat.le_of_ble_eq_true rfl) dX1_grind_32 (fun r49 u50 q51 => ?_)
          obtain ⟨⟨x52, rfl, tx52⟩, mq51⟩ := q51
          obtain ⟨hu50, gu50⟩ := mq51
          have fu50 : fr 41 46 u u50 := fr_tr fu6 gu50 (by omega) (by omega)
          refine g_istore dX1_grind_35 (by decide) ?_
          refine g_pick (lv' := [(0, .ref (uk_ad G 41)), (1, .ref (uk_ad G 13)), (2, .int m), (3, .int n), (4, .int i5), (5, .int x52)]) [0, 1, 2, 3, 4, 5] rfl ?_
          refine g_aload_n dX1_grind_37 rfl ?_
          refine f_X1_42 rfl rfl dX1_grind_38 ?_
          refine g_iload dX1_grind_41 rfl ?_
          have v53 : vp_in x52 8 := uk_vin 8 rfl (by first | decide | lia | grind) (by first | decide | lia | grind)
          refine g_iald rfl rfl v53 dX1_grind_43 ?_
          refine g_topi (fun x54 ex54 => ?_)
          refine g_istore dX1_grind_44 (by decide) ?_
          refine g_pick (lv' := [(0, .ref (uk_ad G 41)), (1, .ref (uk_ad G 13)), (2, .int m), (3, .int n), (4, .int i5), (5, .int x52), (6, .int x54)]) [0, 1, 2, 3, 4, 5, 6] rfl ?_
          refine g_iload dX1_grind_46 rfl ?_
          refine g_iconst (v := 4) dX1_grind_48 (by decide) ?_
          refine g_icmp_eq (tgt := 58) dX1_grind_49 (by decide) (fun c55 => ?_) (fun c55 => ?_)
          · refine g_aload_n dX1_grind_58 rfl ?_
            refine g_iload dX1_grind_59 rfl ?_
            refine cl_X1_47 (c := 41) (As := [.int x52]) rfl (c_X1_lieDown (G := G) hs hu50  x52 (by first | trivial | decide | lia | grind) (by first | trivial | decide | lia | grind) (d + 1)) rfl (by omega) rfl rfl (Nat.le_of_ble_eq_true rfl) dX1_grind_61 (fun r56 u57 q58 => ?_)
            obtain ⟨rfl, mq58⟩ := q58
            obtain ⟨hu57, gu57⟩ := mq58
            have fu57 : fr 41 46 u u57 := fr_tr fu50 gu57 (by omega) (by omega)
            refine g_goto (tgt := 76) dX1_grind_64 (by decide) ?_
            refine g_iinc (v := i5 + 1) dX1_grind_76 rfl rfl (by decide) ?_
            refine g_pick (lv' := [(0, .ref (uk_ad G 41)), (1, .ref (uk_ad G 13)), (2, .int m), (3, .int n), (4, .int (i5 + 1)), (5, .int x52), (6, .int x54)]) [0, 1, 2, 3, 4, 5, 6] rfl ?_
            refine g_goto (tgt := 8) dX1_grind_79 (by decide) ?_
            refine g_pick (lv' := [(0, .ref (uk_ad G 41)), (1, .ref (uk_ad G 13)), (2, .int m), (3, .int n), (4, .int (i5 + 1))]) [0, 1, 2, 3, 4] rfl ?_
            exact ihi5 (by first | lia | grind)  u57 hu57 fu57 
          · refine g_iload dX1_grind_52 rfl ?_
            refine g_iconst (v := 2) dX1_grind_54 (by decide) ?_
            refine g_icmp_ne (tgt := 67) dX1_grind_55 (by decide) (fun c59 => ?_) (fun c59 => ?_)
            · refine g_aload_n dX1_grind_67 rfl ?_
              refine g_aload_n dX1_grind_68 rfl ?_
              refine g_iload dX1_grind_69 rfl ?_
              refine g_iload dX1_grind_71 rfl ?_
              refine cl_X1_50 (c := 41) (As := [.ref (uk_ad G 13), .int x52, .int x54]) rfl (c_X1_part (G := G) hs hu50  x52 x54 (by first | trivial | decide | lia | grind) (by first | trivial | decide | lia | grind) (d)) rfl (by omega) rfl rfl (Nat.le_of_ble_eq_true rfl) dX1_grind_73 (fun r60 u61 q62 => ?_)
              obtain ⟨rfl, mq62⟩ := q62
              obtain ⟨hu61, gu61⟩ := mq62
              have fu61 : fr 41 46 u u61 := fr_tr fu50 gu61 (by omega) (by omega)
              refine g_iinc (v := i5 + 1) dX1_grind_76 rfl rfl (by decide) ?_
              refine g_pick (lv' := [(0, .ref (uk_ad G 41)), (1, .ref (uk_ad G 13)), (2, .int m), (3, .int n), (4, .int (i5 + 1)), (5, .int x52), (6, .int x54)]) [0, 1, 2, 3, 4, 5, 6] rfl ?_
              refine g_goto (tgt := 8) dX1_grind_79 (by decide) ?_
              refine g_pick (lv' := [(0, .ref (uk_ad G 41)), (1, .ref (uk_ad G 13)), (2, .int m), (3, .int n), (4, .int (i5 + 1))]) [0, 1, 2, 3, 4] rfl ?_
              exact ihi5 (by first | lia | grind)  u61 hu61 fu61 
            · refine g_aload_n dX1_grind_58 rfl ?_
              refine g_iload dX1_grind_59 rfl ?_
              refine cl_X1_47 (c := 41) (As := [.int x52]) rfl (c_X1_lieDown (G := G) hs hu50  x52 (by first | trivial | decide | lia | grind) (by first | trivial | decide | lia | grind) (d + 1)) rfl (by omega) rfl rfl (Nat.le_of_ble_eq_true rfl) dX1_grind_61 (fun r63 u64 q65 => ?_)
              obtain ⟨rfl, mq65⟩ := q65
              obtain ⟨hu64, gu64⟩ := mq65
              have fu64 : fr 41 46 u u64 := fr_tr fu50 gu64 (by omega) (by omega)
              refine g_goto (tgt := 76) dX1_grind_64 (by decide) ?_
              refine g_iinc (v := i5 + 1) dX1_grind_76 rfl rfl (by decide) ?_
              refine g_pick (lv' := [(0, .ref (uk_ad G 41)), (1, .ref (uk_ad G 13)), (2, .int m), (3, .int n), (4, .int (i5 + 1)), (5, .int x52), (6, .int x54)]) [0, 1, 2, 3, 4, 5, 6] rfl ?_
              refine g_goto (tgt := 8) dX1_grind_79 (by decide) ?_
              refine g_pick (lv' := [(0, .ref (uk_ad G 41)), (1, .ref (uk_ad G 13)), (2, .int m), (3, .int n), (4, .int (i5 + 1))]) [0, 1, 2, 3, 4] rfl ?_
              exact ihi5 (by first | lia | grind)  u64 hu64 fu64 
  refine g_pick (lv' := [(0, .ref (uk_ad G 41)), (1, .ref (uk_ad G 13)), (2, .int m), (3, .int n), (4, .int 0)]) [0, 1, 2, 3, 4] rfl ?_
  exact L8_3 0 (by first | decide | lia | grind) (by first | decide | lia | grind)  u2 hu2 fu2 
abbrev q_X1_howManyOf (u : uk_Mem) (b : Int32) (r : Option Value) (u' : uk_Mem) : Prop := (∃ x : Int32, r = some (.int x) ∧ True) ∧ (u' = u)
set_option maxHeartbeats 4000000 in
set_option maxRecDepth 20000 in
theorem c_X1_howManyOf {G : uk_D} (hs : uk_Sep G) {u : uk_Mem} (hu : iv u) (b : Int32) (d : Nat) : uk_Meth G d mX1_howManyOf [.ref (uk_ad G 41), .int b] u (q_X1_howManyOf u b) := by
  refine uk_Meth.of hs (by decide) (Nat.le_of_ble_eq_true rfl) (fun X => ?_)
  refine g_iconst (v := 0) dX1_howManyOf_0 (by decide) ?_
  refine g_istore_n dX1_howManyOf_1 (by decide) ?_
  refine g_pick (lv' := [(0, .ref (uk_ad G 41)), (1, .int b), (2, .int 0)]) [0, 1, 2] rfl ?_
  refine g_iconst (v := 0) dX1_howManyOf_2 (by decide) ?_
  refine g_istore_n dX1_howManyOf_3 (by decide) ?_
  refine g_pick (lv' := [(0, .ref (uk_ad G 41)), (1, .int b), (2, .int 0), (3, .int 0)]) [0, 1, 2, 3] rfl ?_
  have L4_0 : ∀ i3 : Int32, 0 ≤ i3 → i3 ≤ 128 → ∀ (w2 : Int32), uk_G G X mX1_howManyOf d (q_X1_howManyOf u b) 4 [(0, .ref (uk_ad G 41)), (1, .int b), (2, .int w2), (3, .int i3)] [] u := by
    refine uk_upl 128 ?_
    intro i3 ai3 bi3 ihi3 w2
    refine g_iload_n dX1_howManyOf_4 rfl ?_
    refine g_aload_n dX1_howManyOf_5 rfl ?_
    refine f_X1_15 rfl rfl dX1_howManyOf_6 ?_
    refine g_topi (fun x4 ex4 => ?_)
    have rx4 : 0 ≤ x4 ∧ x4 ≤ 128 := by rw [ex4]; exact iv_at hu _ _ rfl
    have s5 : u.1 41 1 = x4 := ex4.symm
    refine g_icmp_ge (tgt := 36) dX1_howManyOf_9 (by decide) (fun c6 => ?_) (fun c6 => ?_)
    · refine g_iload_n dX1_howManyOf_36 rfl ?_
      exact g_iret (ty := .int) dX1_howManyOf_37 rfl rfl ⟨⟨_, rfl, by first | trivial | lia | grind⟩, rfl⟩
    · refine g_iload_n dX1_howManyOf_12 rfl ?_
      refine g_aload_n dX1_howManyOf_13 rfl ?_
      refine f_X1_9 rfl rfl dX1_howManyOf_14 ?_
      refine g_iload_n dX1_howManyOf_17 rfl ?_
      have v7 : vp_in i3 128 := uk_vin 128 rfl (by first | decide | lia | grind) (by first | decide | lia | grind)
      refine g_iald rfl rfl v7 dX1_howManyOf_18 ?_
      refine g_topi (fun x8 ex8 => ?_)
      have bx8 := uk_cl v7
      have rx8 : 0 ≤ x8 ∧ x8 ≤ 7 := by rw [ex8]; exact iv_at hu _ _ (uk_pick1 _ (by omega))
      refine g_iload_n dX1_howManyOf_19 rfl ?_
      refine g_icmp_ne (tgt := 27) dX1_howManyOf_20 (by decide) (fun c9 => ?_) (fun c9 => ?_)
      · refine g_iconst (v := 0) dX1_howManyOf_27 (by decide) ?_
        refine g_iadd dX1_howManyOf_28 ?_
        refine g_topi (fun x10 ex10 => ?_)
        refine g_istore_n dX1_howManyOf_29 (by decide) ?_
        refine g_pick (lv' := [(0, .ref (uk_ad G 41)), (1, .int b), (2, .int x10), (3, .int i3)]) [0, 1, 2, 3] rfl ?_
        refine g_iinc (v := i3 + 1) dX1_howManyOf_30 rfl rfl (by decide) ?_
        refine g_pick (lv' := [(0, .ref (uk_ad G 41)), (1, .int b), (2, .int x10), (3, .int (i3 + 1))]) [0, 1, 2, 3] rfl ?_
        refine g_goto (tgt := 4) dX1_howManyOf_33 (by decide) ?_
        refine g_pick (lv' := [(0, .ref (uk_ad G 41)), (1, .int b), (2, .int x10), (3, .int (i3 + 1))]) [0, 1, 2, 3] rfl ?_
        exact ihi3 (by first | lia | grind) x10 
      · refine g_iconst (v := 1) dX1_howManyOf_23 (by decide) ?_
        refine g_goto (tgt := 28) dX1_howManyOf_24 (by decide) ?_
        refine g_iadd dX1_howManyOf_28 ?_
        refine g_topi (fun x11 ex11 => ?_)
        refine g_istore_n dX1_howManyOf_29 (by decide) ?_
        refine g_pick (lv' := [(0, .ref (uk_ad G 41)), (1, .int b), (2, .int x11), (3, .int i3)]) [0, 1, 2, 3] rfl ?_
        refine g_iinc (v := i3 + 1) dX1_howManyOf_30 rfl rfl (by decide) ?_
        refine g_pick (lv' := [(0, .ref (uk_ad G 41)), (1, .int b), (2, .int x11), (3, .int (i3 + 1))]) [0, 1, 2, 3] rfl ?_
        refine g_goto (tgt := 4) dX1_howManyOf_33 (by decide) ?_
        refine g_pick (lv' := [(0, .ref (uk_ad G 41)), (1, .int b), (2, .int x11), (3, .int (i3 + 1))]) [0, 1, 2, 3] rfl ?_
        exact ihi3 (by first | lia | grind) x11 
  refine g_pick (lv' := [(0, .ref (uk_ad G 41)), (1, .int b), (2, .int 0), (3, .int 0)]) [0, 1, 2, 3] rfl ?_
  exact L4_0 0 (by first | decide | lia | grind) (by first | decide | lia | grind) 0 
abbrev q_X1_beginsWith (u : uk_Mem) (n : Int32) (r : Option Value) (u' : uk_Mem) : Prop := (∃ x : Int32, r = some (.int x) ∧ (x = 0 ∨ x = 1) ∧ (¬ x = 0 → True) ∧ (x = 0 → True)) ∧ (u' = u)
set_option maxHeartbeats 4000000 in
set_option maxRecDepth 20000 in
theorem c_X1_beginsWith {G : uk_D} (hs : uk_Sep G) {u : uk_Mem} (hu : iv u) (n : Int32) (p0 : 0 ≤ n) (p1 : n ≤ 8) (d : Nat) : uk_Meth G d mX1_beginsWith [.ref (uk_ad G 41), .ref (uk_ad G 21), .int n] u (q_X1_beginsWith u n) := by
  refine uk_Meth.of hs (by decide) (Nat.le_of_ble_eq_true rfl) (fun X => ?_)
  refine g_iload_n dX1_beginsWith_0 rfl ?_
  refine g_aload_n dX1_beginsWith_1 rfl ?_
  refine f_X1_15 rfl rfl dX1_beginsWith_2 ?_
  refine g_topi (fun x1 ex1 => ?_)
  have rx1 : 0 ≤ x1 ∧ x1 ≤ 128 := by rw [ex1]; exact iv_at hu _ _ rfl
  have s2 : u.1 41 1 = x1 := ex1.symm
  refine g_icmp_le (tgt := 10) dX1_beginsWith_5 (by decide) (fun c3 => ?_) (fun c3 => ?_)
  · refine g_iconst (v := 0) dX1_beginsWith_10 (by decide) ?_
    refine g_istore_n dX1_beginsWith_11 (by decide) ?_
    refine g_pick (lv' := [(0, .ref (uk_ad G 41)), (1, .ref (uk_ad G 21)), (2, .int n), (3, .int 0)]) [0, 1, 2, 3] rfl ?_
    have L12_3 : ∀ i5 : Int32, 0 ≤ i5 → i5 ≤ 8 → uk_G G X mX1_beginsWith d (q_X1_beginsWith u n) 12 [(0, .ref (uk_ad G 41)), (1, .ref (uk_ad G 21)), (2, .int n), (3, .int i5)] [] u := by
      refine uk_upl 8 ?_
      intro i5 ai5 bi5 ihi5 
      refine g_iload_n dX1_beginsWith_12 rfl ?_
      refine g_iload_n dX1_beginsWith_13 rfl ?_
      refine g_icmp_ge (tgt := 37) dX1_beginsWith_14 (by decide) (fun c6 => ?_) (fun c6 => ?_)
      · refine g_iconst (v := 1) dX1_beginsWith_37 (by decide) ?_
        exact g_iret (ty := .boolean) dX1_beginsWith_38 rfl rfl ⟨⟨1, rfl, Or.inr rfl, fun _ => by first | trivial | lia | grind, fun q => absurd q (by decide)⟩, rfl⟩
      · refine g_aload_n dX1_beginsWith_17 rfl ?_
        refine f_X1_9 rfl rfl dX1_beginsWith_18 ?_
        refine g_iload_n dX1_beginsWith_21 rfl ?_
        have v7 : vp_in i5 128 := uk_vin 128 rfl (by first | decide | lia | grind) (by first | decide | lia | grind)
        refine g_iald rfl rfl v7 dX1_beginsWith_22 ?_
        refine g_topi (fun x8 ex8 => ?_)
        have bx8 := uk_cl v7
        have rx8 : 0 ≤ x8 ∧ x8 ≤ 7 := by rw [ex8]; exact iv_at hu _ _ (uk_pick1 _ (by omega))
        refine g_aload_n dX1_beginsWith_23 rfl ?_
        refine g_iload_n dX1_beginsWith_24 rfl ?_
        have v9 : vp_in i5 8 := uk_vin 8 rfl (by first | decide | lia | grind) (by first | decide | lia | grind)
        refine g_iald rfl rfl v9 dX1_beginsWith_25 ?_
        refine g_topi (fun x10 ex10 => ?_)
        have bx10 := uk_cl v9
        have rx10 : 0 ≤ x10 ∧ x10 ≤ 7 := by rw [ex10]; exact iv_at hu _ _ (uk_pick1 _ (by omega))
        refine g_icmp_eq (tgt := 31) dX1_beginsWith_26 (by decide) (fun c11 => ?_) (fun c11 => ?_)
        · refine g_iinc (v := i5 + 1) dX1_beginsWith_31 rfl rfl (by decide) ?_
          refine g_pick (lv' := [(0, .ref (uk_ad G 41)), (1, .ref (uk_ad G 21)), (2, .int n), (3, .int (i5 + 1))]) [0, 1, 2, 3] rfl ?_
          refine g_goto (tgt := 12) dX1_beginsWith_34 (by decide) ?_
          refine g_pick (lv' := [(0, .ref (uk_ad G 41)), (1, .ref (uk_ad G 21)), (2, .int n), (3, .int (i5 + 1))]) [0, 1, 2, 3] rfl ?_
          exact ihi5 (by first | lia | grind)  
        · refine g_iconst (v := 0) dX1_beginsWith_29 (by decide) ?_
          exact g_iret (ty := .boolean) dX1_beginsWith_30 rfl rfl ⟨⟨0, rfl, Or.inl rfl, fun q => absurd rfl q, fun _ => by first | trivial | lia | grind⟩, rfl⟩
    refine g_pick (lv' := [(0, .ref (uk_ad G 41)), (1, .ref (uk_ad G 21)), (2, .int n), (3, .int 0)]) [0, 1, 2, 3] rfl ?_
    exact L12_3 0 (by first | decide | lia | grind) (by first | decide | lia | grind)  
  · refine g_iconst (v := 0) dX1_beginsWith_8 (by decide) ?_
    exact g_iret (ty := .boolean) dX1_beginsWith_9 rfl rfl ⟨⟨0, rfl, Or.inl rfl, fun q => absurd rfl q, fun _ => by first | trivial | lia | grind⟩, rfl⟩
abbrev q_X1_takeFrom (u : uk_Mem)  (r : Option Value) (u' : uk_Mem) : Prop := (r = none) ∧ (iv u' ∧ fr 58 59 u u')
set_option maxHeartbeats 4000000 in
set_option maxRecDepth 20000 in
theorem c_X1_takeFrom {G : uk_D} (hs : uk_Sep G) {u : uk_Mem} (hu : iv u)  (d : Nat) : uk_Meth G d mX1_takeFrom [.ref (uk_ad G 41), .ref (uk_ad G 58)] u (q_X1_takeFrom u) := by
  refine uk_Meth.of hs (by decide) (Nat.le_of_ble_eq_true rfl) (fun X => ?_)
  have f0 : fr 58 59 u u := fr_rf
  refine g_iconst (v := 0) dX1_takeFrom_0 (by decide) ?_
  refine g_istore_n dX1_takeFrom_1 (by decide) ?_
  refine g_pick (lv' := [(0, .ref (uk_ad G 41)), (1, .ref (uk_ad G 58)), (2, .int 0)]) [0, 1, 2] rfl ?_
  have L2_0 : ∀ i2 : Int32, 0 ≤ i2 → i2 ≤ 128 → ∀ (u3 : uk_Mem), iv u3 → fr 58 59 u u3 → uk_G G X mX1_takeFrom d (q_X1_takeFrom u) 2 [(0, .ref (uk_ad G 41)), (1, .ref (uk_ad G 58)), (2, .int i2)] [] u3 := by
    refine uk_upl 128 ?_
    intro i2 ai2 bi2 ihi2  u3 hu3 fu3
    refine g_iload_n dX1_takeFrom_2 rfl ?_
    refine g_aload_n dX1_takeFrom_3 rfl ?_
    refine f_X1_15 rfl rfl dX1_takeFrom_4 ?_
    refine g_topi (fun x4 ex4 => ?_)
    have rx4 : 0 ≤ x4 ∧ x4 ≤ 128 := by rw [ex4]; exact iv_at hu3 _ _ rfl
    have s5 : u3.1 41 1 = x4 := ex4.symm
    refine g_icmp_ge (tgt := 28) dX1_takeFrom_7 (by decide) (fun c6 => ?_) (fun c6 => ?_)
    · exact g_vret dX1_takeFrom_28 rfl ⟨rfl, hu3, fu3⟩
    · refine g_aload_n dX1_takeFrom_10 rfl ?_
      refine g_aload_n dX1_takeFrom_11 rfl ?_
      refine f_X1_9 rfl rfl dX1_takeFrom_12 ?_
      refine g_iload_n dX1_takeFrom_15 rfl ?_
      have v7 : vp_in i2 128 := uk_vin 128 rfl (by first | decide | lia | grind) (by first | decide | lia | grind)
      refine g_iald rfl rfl v7 dX1_takeFrom_16 ?_
      refine g_topi (fun x8 ex8 => ?_)
      have bx8 := uk_cl v7
      have rx8 : 0 ≤ x8 ∧ x8 ≤ 7 := by rw [ex8]; exact iv_at hu3 _ _ (uk_pick1 _ (by omega))
      refine g_dup2 dX1_takeFrom_17 rfl rfl ?_
      have v9 : vp_in x8 8 := uk_vin 8 rfl (by first | decide | lia | grind) (by first | decide | lia | grind)
      refine g_iald rfl rfl v9 dX1_takeFrom_18 ?_
      refine g_topi (fun x10 ex10 => ?_)
      refine g_iconst (v := 1) dX1_takeFrom_19 (by decide) ?_
      refine g_isub dX1_takeFrom_20 ?_
      refine g_topi (fun x11 ex11 => ?_)
      have v12 : vp_in x8 8 := uk_vin 8 rfl (by first | decide | lia | grind) (by first | decide | lia | grind)
      have b13 := uk_cl v12
      refine g_iast rfl rfl v12 dX1_takeFrom_21 ?_
      refine g_mem (fun u14 eu14 => ?_)
      have hu14 : iv u14 := by rw [eu14]; exact iv_upF hu3 (uk_pick1 _ (by omega))
      have fu14 : fr 58 59 u u14 := by rw [eu14]; exact fr_up fu3 (by omega) (by omega)
      refine g_iinc (v := i2 + 1) dX1_takeFrom_22 rfl rfl (by decide) ?_
      refine g_pick (lv' := [(0, .ref (uk_ad G 41)), (1, .ref (uk_ad G 58)), (2, .int (i2 + 1))]) [0, 1, 2] rfl ?_
      refine g_goto (tgt := 2) dX1_takeFrom_25 (by decide) ?_
      refine g_pick (lv' := [(0, .ref (uk_ad G 41)), (1, .ref (uk_ad G 58)), (2, .int (i2 + 1))]) [0, 1, 2] rfl ?_
      exact ihi2 (by first | lia | grind)  u14 hu14 fu14 
  refine g_pick (lv' := [(0, .ref (uk_ad G 41)), (1, .ref (uk_ad G 58)), (2, .int 0)]) [0, 1, 2] rfl ?_
  exact L2_0 0 (by first | decide | lia | grind) (by first | decide | lia | grind)  u hu f0 
abbrev q_X3_isNothing (u : uk_Mem) (k : Int32) (r : Option Value) (u' : uk_Mem) : Prop := (∃ x : Int32, r = some (.int x) ∧ (x = 0 ∨ x = 1) ∧ (¬ x = 0 → True) ∧ (x = 0 → True)) ∧ (u' = u)
abbrev q_X3_faultAt (u : uk_Mem) (k : Int32) (i : Int32) (r : Option Value) (u' : uk_Mem) : Prop := (∃ x : Int32, r = some (.int x) ∧ (x = 0 → 0 ≤ i ∧ i < 40)) ∧ (u' = u)
abbrev q_X3_faultAs (u : uk_Mem) (k : Int32) (l : Int32) (i : Int32) (r : Option Value) (u' : uk_Mem) : Prop := (∃ x : Int32, r = some (.int x) ∧ (x = 0 → 0 ≤ i ∧ i < 40)) ∧ (u' = u)
abbrev q_X3_renew (u : uk_Mem) (k : Int32) (l : Int32) (n : Int32) (r : Option Value) (u' : uk_Mem) : Prop := (r = none) ∧ (iv u' ∧ fr 49 57 u u')
abbrev q_X3_put (u : uk_Mem) (k : Int32) (i : Int32) (v : Int32) (r : Option Value) (u' : uk_Mem) : Prop := (r = none) ∧ (iv u' ∧ fr 49 57 u u')
abbrev q_X2_doingAt (u : uk_Mem) (i : Int32) (r : Option Value) (u' : uk_Mem) : Prop := (∃ x : Int32, r = some (.int x) ∧ True) ∧ (u' = u)
abbrev q_X2_keepPath (u : uk_Mem) (n : Int32) (s : Int32) (r : Option Value) (u' : uk_Mem) : Prop := (r = none) ∧ (iv u' ∧ fr 46 49 u u')
abbrev q_X2_tryRicher_0 (u : uk_Mem) (n : Int32) (g : Int32) (s : Int32) (r : Option Value) (u' : uk_Mem) : Prop := (r = none) ∧ (iv u' ∧ fr 13 49 u u')
abbrev q_X2_tryRicher_1 (u : uk_Mem) (n : Int32) (g : Int32) (s : Int32) (r : Option Value) (u' : uk_Mem) : Prop := (r = none) ∧ (iv u' ∧ fr 13 49 u u')
abbrev q_X2_tryRicher_2 (u : uk_Mem) (n : Int32) (g : Int32) (s : Int32) (r : Option Value) (u' : uk_Mem) : Prop := (r = none) ∧ (iv u' ∧ fr 13 49 u u')
abbrev q_X2_tryRicher_3 (u : uk_Mem) (n : Int32) (g : Int32) (s : Int32) (r : Option Value) (u' : uk_Mem) : Prop := (r = none) ∧ (iv u' ∧ fr 13 49 u u')
abbrev q_X2_tryRicher_4 (u : uk_Mem) (n : Int32) (g : Int32) (s : Int32) (r : Option Value) (u' : uk_Mem) : Prop := (r = none) ∧ (iv u' ∧ fr 13 49 u u')
abbrev q_X2_tryRicher (u : uk_Mem) (n : Int32) (g : Int32) (s : Int32) (r : Option Value) (u' : uk_Mem) : Prop := (r = none) ∧ (iv u' ∧ fr 13 49 u u')
abbrev q_X2_tryReaching_0 (u : uk_Mem) (m : Int32) (n : Int32) (g : Int32) (r : Option Value) (u' : uk_Mem) : Prop := (∃ x : Int32, r = some (.int x) ∧ (x = 0 ∨ x = 1) ∧ (¬ x = 0 → True) ∧ (x = 0 → True)) ∧ (iv u' ∧ fr 13 49 u u')
abbrev q_X2_tryReaching_1 (u : uk_Mem) (m : Int32) (n : Int32) (g : Int32) (r : Option Value) (u' : uk_Mem) : Prop := (∃ x : Int32, r = some (.int x) ∧ (x = 0 ∨ x = 1) ∧ (¬ x = 0 → True) ∧ (x = 0 → True)) ∧ (iv u' ∧ fr 13 49 u u')
abbrev q_X2_tryReaching_2 (u : uk_Mem) (m : Int32) (n : Int32) (g : Int32) (r : Option Value) (u' : uk_Mem) : Prop := (∃ x : Int32, r = some (.int x) ∧ (x = 0 ∨ x = 1) ∧ (¬ x = 0 → True) ∧ (x = 0 → True)) ∧ (iv u' ∧ fr 13 49 u u')
abbrev q_X2_tryReaching_3 (u : uk_Mem) (m : Int32) (n : Int32) (g : Int32) (r : Option Value) (u' : uk_Mem) : Prop := (∃ x : Int32, r = some (.int x) ∧ (x = 0 ∨ x = 1) ∧ (¬ x = 0 → True) ∧ (x = 0 → True)) ∧ (iv u' ∧ fr 13 49 u u')
abbrev q_X2_tryReaching_4 (u : uk_Mem) (m : Int32) (n : Int32) (g : Int32) (r : Option Value) (u' : uk_Mem) : Prop := (∃ x : Int32, r = some (.int x) ∧ (x = 0 ∨ x = 1) ∧ (¬ x = 0 → True) ∧ (x = 0 → True)) ∧ (iv u' ∧ fr 13 49 u u')
abbrev q_X2_tryReaching (u : uk_Mem) (m : Int32) (n : Int32) (g : Int32) (r : Option Value) (u' : uk_Mem) : Prop := (∃ x : Int32, r = some (.int x) ∧ (x = 0 ∨ x = 1) ∧ (¬ x = 0 → True) ∧ (x = 0 → True)) ∧ (iv u' ∧ fr 13 49 u u')
abbrev q_X2_findRichest (u : uk_Mem) (n : Int32) (r : Option Value) (u' : uk_Mem) : Prop := (r = none) ∧ (iv u' ∧ fr 13 49 u u')
abbrev q_X2_findFewest (u : uk_Mem) (m : Int32) (r : Option Value) (u' : uk_Mem) : Prop := (∃ x : Int32, r = some (.int x) ∧ (x = 0 ∨ x = 1) ∧ (¬ x = 0 → True) ∧ (x = 0 → True)) ∧ (iv u' ∧ fr 13 49 u u')