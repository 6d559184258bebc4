/-! ranges of the locations, frames, loops -/
def uk_rngs : List (List (Nat × Int32 × Int32)) := [[(999, (-2147483648), 2147483647)], [(999, (-2147483648), 2147483647)], [(1, (-2147483648), 2147483647), (2, 0, 160), (3, 0, 160), (4, (-2147483648), 2147483647), (5, 0, 160), (999, (-2147483648), 2147483647)], [(999, (-2147483648), 2147483647)], [(1, 0, 8), (2, (-2147483648), 2147483647), (3, (-2147483648), 2147483647), (4, (-2147483648), 2147483647), (5, (-2147483648), 2147483647), (6, (-2147483648), 2147483647), (7, (-2147483648), 2147483647), (8, (-2147483648), 2147483647), (9, (-2147483648), 2147483647), (10, 0, 8), (999, (-2147483648), 2147483647)], [(999, (-2147483648), 2147483647)], [(999, 0, 7)], [(999, 0, 7)], [(999, (-2147483648), 2147483647)], [(999, (-2147483648), 2147483647)], [(999, (-2147483648), 2147483647)], [(999, (-2147483648), 2147483647)], [(999, 0, 7)], [(1, 0, 8), (2, (-2147483648), 2147483647), (3, (-2147483648), 2147483647), (4, (-2147483648), 2147483647), (5, (-2147483648), 2147483647), (6, (-2147483648), 2147483647), (7, (-2147483648), 2147483647), (8, (-2147483648), 2147483647), (9, (-2147483648), 2147483647), (10, 0, 8), (999, (-2147483648), 2147483647)], [(999, (-2147483648), 2147483647)], [(999, 0, 7)], [(999, 0, 7)], [(999, (-2147483648), 2147483647)], [(999, (-2147483648), 2147483647)], [(999, (-2147483648), 2147483647)], [(999, (-2147483648), 2147483647)], [(999, 0, 7)], [(1, 0, 8), (2, (-2147483648), 2147483647), (3, (-2147483648), 2147483647), (4, (-2147483648), 2147483647), (5, (-2147483648), 2147483647), (6, (-2147483648), 2147483647), (7, (-2147483648), 2147483647), (8, (-2147483648), 2147483647), (9, (-2147483648), 2147483647), (10, 0, 8), (999, (-2147483648), 2147483647)], [(999, (-2147483648), 2147483647)], [(999, 0, 7)], [(999, 0, 7)], [(999, (-2147483648), 2147483647)], [(999, (-2147483648), 2147483647)], [(999, (-2147483648), 2147483647)], [(999, (-2147483648), 2147483647)], [(999, 0, 7)], [(1, 0, 8), (2, (-2147483648), 2147483647), (3, (-2147483648), 2147483647), (4, (-2147483648), 2147483647), (5, (-2147483648), 2147483647), (6, (-2147483648), 2147483647), (7, (-2147483648), 2147483647), (8, (-2147483648), 2147483647), (9, (-2147483648), 2147483647), (10, 0, 8), (999, (-2147483648), 2147483647)], [(999, (-2147483648), 2147483647)], [(999, 0, 7)], [(999, 0, 7)], [(999, (-2147483648), 2147483647)], [(999, (-2147483648), 2147483647)], [(999, (-2147483648), 2147483647)], [(999, (-2147483648), 2147483647)], [(999, 0, 7)], [(999, 0, 1)], [(1, (-2147483648), 2147483647), (2, 0, 128), (3, (-2147483648), 2147483647), (4, (-2147483648), 2147483647), (5, (-2147483648), 2147483647), (6, (-2147483648), 2147483647), (7, 0, 9), (999, (-2147483648), 2147483647)], [(999, 0, 7)], [(999, (-2147483648), 2147483647)], [(999, (-2147483648), 2147483647)], [(999, 0, 7)], [(1, (-2147483648), 2147483647), (2, (-2147483648), 2147483647), (3, 0, 4), (999, (-2147483648), 2147483647)], [(999, (-2147483648), 2147483647)], [(999, (-2147483648), 2147483647)], [(999, (-2147483648), 2147483647)], [(999, (-2147483648), 2147483647)], [(999, 0, 40)], [(999, (-2147483648), 2147483647)], [(999, (-2147483648), 2147483647)], [(999, (-2147483648), 2147483647)], [(999, (-2147483648), 2147483647)], [(999, (-2147483648), 2147483647)], [(999, (-2147483648), 2147483647)], [(999, (-2147483648), 2147483647)], [(999, (-2147483648), 2147483647)], [(1, (-2147483648), 2147483647), (2, (-2147483648), 2147483647), (3, (-2147483648), 2147483647), (4, 0, 8), (5, (-2147483648), 2147483647), (6, (-2147483648), 2147483647), (7, (-2147483648), 2147483647), (8, 0, 8), (9, (-2147483648), 2147483647), (10, (-2147483648), 2147483647), (11, (-2147483648), 2147483647), (12, (-2147483648), 2147483647), (13, (-2147483648), 2147483647), (14, 0, 160), (15, 0, 160), (16, 0, 160), (17, (-2147483648), 2147483647), (18, (-2147483648), 2147483647), (19, 0, 6), (20, (-2147483648), 2147483647), (21, (-2147483648), 2147483647), (22, (-2147483648), 2147483647), (23, 0, 255), (999, (-2147483648), 2147483647)], [(8, 0, 40), (42, (-2147483648), 2147483647), (43, 0, 8), (51, 0, 7), (59, 0, 40), (93, (-2147483648), 2147483647), (94, 0, 8), (102, 0, 7), (110, 0, 40), (144, (-2147483648), 2147483647), (145, 0, 8), (153, 0, 7), (999, (-2147483648), 2147483647)], [(8, 0, 40), (42, (-2147483648), 2147483647), (43, 0, 8), (51, 0, 7), (999, (-2147483648), 2147483647)], [(999, 0, 1)], [(999, (-4), 7)], [(999, (-4), 7)], [(8, 0, 40), (42, (-2147483648), 2147483647), (43, 0, 8), (51, 0, 7), (999, (-2147483648), 2147483647)], [(999, (-4), 7)], [(999, (-4), 7)], [(999, 0, 127)], [(999, (-2147483648), 2147483647)], [(999, 0, 7)], [(999, (-2147483648), 2147483647)], [(999, (-2147483648), 2147483647)], [(999, (-2147483648), 2147483647)], [(999, 0, 40)], [(999, (-2147483648), 2147483647)], [(8, 0, 40), (42, (-2147483648), 2147483647), (43, 0, 8), (51, 0, 7), (999, (-2147483648), 2147483647)]]
def uk_pick : List (Nat × Int32 × Int32) → Nat → Int32 × Int32
  | [], _ => (-2147483648, 2147483647)
  | (b, r) :: l, i => match Nat.blt i b with
    | true => r
    | false => uk_pick l i
def uk_rg (c i : Nat) : Int32 × Int32 := uk_pick (uk_rngs.getD c []) i
/-- every int is in its range -/
def iv (u : uk_Mem) : Prop := ∀ c i, (uk_rg c i).1 ≤ u.1 c i ∧ u.1 c i ≤ (uk_rg c i).2
theorem iv_at {u : uk_Mem} (h : iv u) (c i : Nat) {lo hi : Int32} (e : uk_rg c i = (lo, hi)) : lo ≤ u.1 c i ∧ u.1 c i ≤ hi := by
  have := h c i
  rw [e] at this
  exact this
theorem iv_up {u : uk_Mem} (h : iv u) {c i : Nat} {x lo hi : Int32} (e : uk_rg c i = (lo, hi)) (h1 : lo ≤ x) (h2 : x ≤ hi) : iv (uk_up u c i x) := by
  intro b j
  rw [uk_up_at]
  split
  · rename_i q
    rw [q.1, q.2, e]
    exact ⟨h1, h2⟩
  · exact h b j
theorem iv_upL {u : uk_Mem} (h : iv u) {c i : Nat} {x : Int64} : iv (uk_upL u c i x) := h
theorem uk_mn (x : Int32) : -2147483648 ≤ x := by
  have := Int32.minValue_le x
  exact this
theorem uk_mx (x : Int32) : x ≤ 2147483647 := by
  have := Int32.le_maxValue x
  exact this
theorem iv_upF {u : uk_Mem} (h : iv u) {c i : Nat} {x : Int32} (e : uk_rg c i = (-2147483648, 2147483647)) : iv (uk_up u c i x) := iv_up h e (uk_mn x) (uk_mx x)
def fr (a b : Nat) (u u' : uk_Mem) : Prop := (∀ c, (c < a ∨ b ≤ c) → u'.1 c = u.1 c) ∧ ∀ c, (c < a ∨ b ≤ c) → u'.2 c = u.2 c
theorem fr_rf {a b : Nat} {u : uk_Mem} : fr a b u u := ⟨fun _ _ => rfl, fun _ _ => rfl⟩
theorem fr_up {a b c i : Nat} {x : Int32} {u u' : uk_Mem} (h : fr a b u u') (h1 : a ≤ c) (h2 : c < b) : fr a b u (uk_up u' c i x) := ⟨fun e he => by
  rw [← h.1 e he]
  unfold uk_up
  dsimp only
  rw [if_neg (by omega)], h.2⟩
theorem fr_upL {a b c i : Nat} {x : Int64} {u u' : uk_Mem} (h : fr a b u u') (h1 : a ≤ c) (h2 : c < b) : fr a b u (uk_upL u' c i x) := ⟨h.1, fun e he => by
  rw [← h.2 e he]
  unfold uk_upL
  dsimp only
  rw [if_neg (by omega)]⟩
theorem fr_tr {a b a' b' : Nat} {u u' u'' : uk_Mem} (h : fr a b u u') (h' : fr a' b' u' u'') (h1 : a ≤ a') (h2 : b' ≤ b) : fr a b u u'' := ⟨fun c hc => (h'.1 c (by omega)).trans (h.1 c hc), fun c hc => (h'.2 c (by omega)).trans (h.2 c hc)⟩
theorem fr_at {a b c i : Nat} {u u' : uk_Mem} (h : fr a b u u') (hc : c < a ∨ b ≤ c) : u'.1 c i = u.1 c i := by rw [h.1 c hc]
theorem uk_vin {i : Int32} {n : Nat} (N : Int32) (hN : N.toInt = (n : Int)) (h0 : 0 ≤ i) (h1 : i < N) : vp_in i n := by
  rw [vp_in_iff]
  have a := Int32.le_iff_toInt_le.mp h0
  have b := Int32.lt_iff_toInt_lt.mp h1
  rw [hN] at b
  exact ⟨a, b⟩
theorem uk_cl {i : Int32} {n : Nat} (h : vp_in i n) : i.toNatClampNeg < n := Nat.not_le.mp fun q => h (Or.inr q)
/-- a counter goes up to B -/
theorem uk_upl {P : Int32 → Prop} (B : Int32) (h : ∀ i, 0 ≤ i → i ≤ B → (i < B → P (i + 1)) → P i) : ∀ i, 0 ≤ i → i ≤ B → P i := by
  have key : ∀ (n : Nat) (i : Int32), 0 ≤ i → i ≤ B → (B.toInt - i.toInt).toNat ≤ n → P i := by
    intro n
    induction n with
    | zero =>
      intro i h0 h1 h2
      refine h i h0 h1 (fun q => ?_)
      have := Int32.lt_iff_toInt_lt.mp q
      omega
    | succ n ih =>
      intro i h0 h1 h2
      refine h i h0 h1 (fun q => ih (i + 1) (by grind) (by grind) ?_)
      have a := Int32.lt_iff_toInt_lt.mp q
      have b := Int32.le_iff_toInt_le.mp h0
      have c : (i + 1).toInt = i.toInt + 1 := by
        have e : (1 : Int32).toInt = 1 := rfl
        have m : B.toInt < 2147483648 := Int32.toInt_lt B
        have z : (0 : Int32).toInt = 0 := rfl
        rw [Int32.toInt_add, e]
        exact Int.bmod_eq_of_le (by omega) (by omega)
      omega
  exact fun i h0 h1 => key _ i h0 h1 (Nat.le_refl _)
/-- a counter goes down to -1 -/
theorem uk_dnl {P : Int32 → Prop} (h : ∀ i, -1 ≤ i → (0 ≤ i → P (i - 1)) → P i) : ∀ i, -1 ≤ i → P i := by
  have key : ∀ (n : Nat) (i : Int32), -1 ≤ i → (i.toInt + 1).toNat ≤ n → P i := by
    intro n
    induction n with
    | zero =>
      intro i h0 h2
      refine h i h0 (fun q => ?_)
      have := Int32.le_iff_toInt_le.mp q
      have z : (0 : Int32).toInt = 0 := rfl
      omega
    | succ n ih =>
      intro i h0 h2
      refine h i h0 (fun q => ih (i - 1) (by grind) ?_)
      have b := Int32.le_iff_toInt_le.mp q
      have z : (0 : Int32).toInt = 0 := rfl
      have c : (i - 1).toInt = i.toInt - 1 := by
        have e : (1 : Int32).toInt = 1 := rfl
        have m : i.toInt < 2147483648 := Int32.toInt_lt i
        rw [Int32.toInt_sub, e]
        exact Int.bmod_eq_of_le (by omega) (by omega)
      omega
  exact fun i h0 => key _ i h0 (Nat.le_refl _)
theorem uk_pick1 {lo hi : Int32} (i : Nat) (h : i < 999) : uk_pick [(999, lo, hi)] i = (lo, hi) := by
  have : Nat.blt i 999 = true := by
    rw [Nat.blt_eq]
    exact h
  unfold uk_pick
  rw [this]
/-- a kitchen's cells -/
def uk_isK (k : Nat) : Prop := k = 4 ∨ k = 13 ∨ k = 22 ∨ k = 31
theorem kk_0 {k : Nat} (h : uk_isK k) : uk_kind k = 0 := by rcases h with rfl | rfl | rfl | rfl <;> rfl
theorem kk_1 {k : Nat} (h : uk_isK k) : uk_kind (k + 1) = 8 := by rcases h with rfl | rfl | rfl | rfl <;> rfl
theorem kl_1 {k : Nat} (h : uk_isK k) : uk_len (k + 1) = 8 := by rcases h with rfl | rfl | rfl | rfl <;> rfl
theorem ka_1 {k : Nat} (h : uk_isK k) (i : Nat) (hi : i < 999) : uk_rg (k + 1) i = ((-2147483648), 2147483647) := by rcases h with rfl | rfl | rfl | rfl <;> exact uk_pick1 i hi
theorem kk_2 {k : Nat} (h : uk_isK k) : uk_kind (k + 2) = 8 := by rcases h with rfl | rfl | rfl | rfl <;> rfl
theorem kl_2 {k : Nat} (h : uk_isK k) : uk_len (k + 2) = 8 := by rcases h with rfl | rfl | rfl | rfl <;> rfl
theorem ka_2 {k : Nat} (h : uk_isK k) (i : Nat) (hi : i < 999) : uk_rg (k + 2) i = (0, 7) := by rcases h with rfl | rfl | rfl | rfl <;> exact uk_pick1 i hi
theorem kk_3 {k : Nat} (h : uk_isK k) : uk_kind (k + 3) = 8 := by rcases h with rfl | rfl | rfl | rfl <;> rfl
theorem kl_3 {k : Nat} (h : uk_isK k) : uk_len (k + 3) = 8 := by rcases h with rfl | rfl | rfl | rfl <;> rfl
theorem ka_3 {k : Nat} (h : uk_isK k) (i : Nat) (hi : i < 999) : uk_rg (k + 3) i = (0, 7) := by rcases h with rfl | rfl | rfl | rfl <;> exact uk_pick1 i hi
theorem kk_4 {k : Nat} (h : uk_isK k) : uk_kind (k + 4) = 8 := by rcases h with rfl | rfl | rfl | rfl <;> rfl
theorem kl_4 {k : Nat} (h : uk_isK k) : uk_len (k + 4) = 8 := by rcases h with rfl | rfl | rfl | rfl <;> rfl
theorem ka_4 {k : Nat} (h : uk_isK k) (i : Nat) (hi : i < 999) : uk_rg (k + 4) i = ((-2147483648), 2147483647) := by rcases h with rfl | rfl | rfl | rfl <;> exact uk_pick1 i hi
theorem kk_5 {k : Nat} (h : uk_isK k) : uk_kind (k + 5) = 8 := by rcases h with rfl | rfl | rfl | rfl <;> rfl
theorem kl_5 {k : Nat} (h : uk_isK k) : uk_len (k + 5) = 8 := by rcases h with rfl | rfl | rfl | rfl <;> rfl
theorem ka_5 {k : Nat} (h : uk_isK k) (i : Nat) (hi : i < 999) : uk_rg (k + 5) i = ((-2147483648), 2147483647) := by rcases h with rfl | rfl | rfl | rfl <;> exact uk_pick1 i hi
theorem kk_6 {k : Nat} (h : uk_isK k) : uk_kind (k + 6) = 8 := by rcases h with rfl | rfl | rfl | rfl <;> rfl
theorem kl_6 {k : Nat} (h : uk_isK k) : uk_len (k + 6) = 8 := by rcases h with rfl | rfl | rfl | rfl <;> rfl
theorem ka_6 {k : Nat} (h : uk_isK k) (i : Nat) (hi : i < 999) : uk_rg (k + 6) i = ((-2147483648), 2147483647) := by rcases h with rfl | rfl | rfl | rfl <;> exact uk_pick1 i hi
theorem kk_7 {k : Nat} (h : uk_isK k) : uk_kind (k + 7) = 8 := by rcases h with rfl | rfl | rfl | rfl <;> rfl
theorem kl_7 {k : Nat} (h : uk_isK k) : uk_len (k + 7) = 8 := by rcases h with rfl | rfl | rfl | rfl <;> rfl
theorem ka_7 {k : Nat} (h : uk_isK k) (i : Nat) (hi : i < 999) : uk_rg (k + 7) i = ((-2147483648), 2147483647) := by rcases h with rfl | rfl | rfl | rfl <;> exact uk_pick1 i hi
theorem kk_8 {k : Nat} (h : uk_isK k) : uk_kind (k + 8) = 8 := by rcases h with rfl | rfl | rfl | rfl <;> rfl
theorem kl_8 {k : Nat} (h : uk_isK k) : uk_len (k + 8) = 8 := by rcases h with rfl | rfl | rfl | rfl <;> rfl
theorem ka_8 {k : Nat} (h : uk_isK k) (i : Nat) (hi : i < 999) : uk_rg (k + 8) i = (0, 7) := by rcases h with rfl | rfl | rfl | rfl <;> exact uk_pick1 i hi
theorem kr_0 {k : Nat} (h : uk_isK k) : uk_rg k 0 = (0, 8) := by rcases h with rfl | rfl | rfl | rfl <;> rfl
theorem kr_9 {k : Nat} (h : uk_isK k) : uk_rg k 9 = (0, 8) := by rcases h with rfl | rfl | rfl | rfl <;> rfl
theorem kr_10 {k : Nat} (h : uk_isK k) : uk_rg k 10 = (-2147483648, 2147483647) := by rcases h with rfl | rfl | rfl | rfl <;> rfl
theorem kr_11 {k : Nat} (h : uk_isK k) : uk_rg k 11 = (-2147483648, 2147483647) := by rcases h with rfl | rfl | rfl | rfl <;> rfl
theorem uk_isK4 : uk_isK 4 := Or.inl rfl
theorem uk_isK13 : uk_isK 13 := Or.inr (Or.inl rfl)
theorem uk_isK22 : uk_isK 22 := Or.inr (Or.inr (Or.inl rfl))
theorem uk_isK31 : uk_isK 31 := Or.inr (Or.inr (Or.inr rfl))
section UKN
variable {G : uk_D} {X : uk_Cx} {M : uk_M} {d : Nat} {Q : Option Value → uk_Mem → Prop} {pc : Nat} {lv : List (Nat × Value)} {st : List Value} {u : uk_Mem}
theorem g_topi {x : Int32} (k : ∀ y : Int32, y = x → uk_G G X M d Q pc lv (.int y :: st) u) : uk_G G X M d Q pc lv (.int x :: st) u := k x rfl
theorem g_topl {x : Int64} (k : ∀ y : Int64, y = x → uk_G G X M d Q pc lv (.long y :: st) u) : uk_G G X M d Q pc lv (.long x :: st) u := k x rfl
theorem g_mem (k : ∀ v : uk_Mem, v = u → uk_G G X M d Q pc lv st v) : uk_G G X M d Q pc lv st u := k u rfl
end UKN
theorem uk_m1 (x : Int32) : x + Int32.ofInt (-1) = x - 1 := by
  rw [Int32.sub_eq_add_neg]
  rfl
theorem uk_nb {x : Int32} (h : x = 0 ∨ x = 1) : narrow .boolean (.int x) = .int x := by
  rcases h with rfl | rfl <;> rfl
theorem uk_swo {x : Int32} (lo hi : Int32) {L H : Int} (hl : lo.toInt = L) (hh : hi.toInt = H) (h : x < lo ∨ hi < x) : x.toInt < L ∨ H < x.toInt := by
  rw [← hl, ← hh]
  exact h.imp Int32.lt_iff_toInt_lt.mp Int32.lt_iff_toInt_lt.mp
theorem uk_M1 : Cond.methodLink RX0 93 Lib.Math.max.name ∈ uk_w := uk_wI (List.mem_of_getElem? (i := 616) (by decide +kernel)) rfl
theorem uk_M2 : Cond.static Lib.Math.max.name ∈ uk_w := uk_wI (List.mem_of_getElem? (i := 617) (by decide +kernel)) rfl
theorem uk_M3 : Cond.initialized "java/lang/Math" ∈ uk_w := uk_wI (List.mem_of_getElem? (i := 13) (by decide +kernel)) rfl
theorem uk_M4 : Cond.code Lib.Math.max.name Lib.Math.max.code 2 (some .int) ∈ uk_w := uk_wI (List.mem_of_getElem? (i := 618) (by decide +kernel)) rfl
theorem uk_A1 : Cond.methodLink RX0 88 Lib.Math.abs.name ∈ uk_w := uk_wI (List.mem_of_getElem? (i := 613) (by decide +kernel)) rfl
theorem uk_A2 : Cond.static Lib.Math.abs.name ∈ uk_w := uk_wI (List.mem_of_getElem? (i := 614) (by decide +kernel)) rfl
theorem uk_A4 : Cond.code Lib.Math.abs.name Lib.Math.abs.code 1 (some .int) ∈ uk_w := uk_wI (List.mem_of_getElem? (i := 615) (by decide +kernel)) rfl
section UKX
variable {G : uk_D} {X : uk_Cx} {M : uk_M} {d : Nat} {Q : Option Value → uk_Mem → Prop} {pc : Nat} {lv lv' : List (Nat × Value)} {st : List Value} {u : uk_Mem}
theorem g_pick (ks : List Nat) (e : lv_pick lv ks = lv') (k : uk_G G X M d Q pc lv' st u) : uk_G G X M d Q pc lv st u := fun hO ls H locs hl hP hS => k hO ls H locs (lv_sub hl ks e) hP hS
theorem g_mmax {x y : Int32} (hM : M.1.cls = RX0) (hn : 1 ≤ d) (hc : (st.map fun v => v.category).sum ≤ 8) (hd : decode M.2.1 pc = .ok (.invokestatic 93, 3)) (k : uk_G G X M d Q (pc + 3) lv (.int (if x < y then y else x) :: st) u) : uk_G G X M d Q pc lv (.int y :: .int x :: st) u := fun hO ls H locs hl hP hS => by
  obtain ⟨r1, r2, r3, r4⟩ := hO.2.2.2.2.2.2.2.2.1
  have hw := hO.2.2.2.2.1
  exact va_mmax hO.1 hO.2.1 (hO.2.2.1.trans hl.1.symm) hO.2.2.2.1 (by rw [hM]; exact hw _ uk_M1) (hw _ uk_M2) (hw _ uk_M3) (hw _ uk_M4) (by omega) (by omega) r3 r4 hd (k hO ls H locs hl hP hS)
theorem g_mabs {x : Int32} (hM : M.1.cls = RX0) (hn : 1 ≤ d) (hc : (st.map fun v => v.category).sum ≤ 8) (hd : decode M.2.1 pc = .ok (.invokestatic 88, 3)) (k : uk_G G X M d Q (pc + 3) lv (.int (if 0 ≤ x then x else 0 - x) :: st) u) : uk_G G X M d Q pc lv (.int x :: st) u := fun hO ls H locs hl hP hS => by
  obtain ⟨r1, r2, r3, r4⟩ := hO.2.2.2.2.2.2.2.2.1
  have hw := hO.2.2.2.2.1
  exact va_mabs hO.1 hO.2.1 (hO.2.2.1.trans hl.1.symm) hO.2.2.2.1 (by rw [hM]; exact hw _ uk_A1) (hw _ uk_A2) (hw _ uk_M3) (hw _ uk_A4) (by omega) (by omega) r3 r4 hd (k hO ls H locs hl hP hS)
theorem g_lookup {dflt : Int} {ps : Array (Int × Int)} {len : Nat} {x : Int32} {off : Int} {tgt : Nat} (hd : decode M.2.1 pc = .ok (.lookupswitch dflt ps, len)) (hp : (ps.toList.zip (ps.toList.drop 1)).all (fun (a, next) => a.1 < next.1) = true) (ho : Op.lookupswitch.offset ps.toList dflt x.toInt = off) (ht : (pc : Int) + off = (tgt : Int)) (k : uk_G G X M d Q tgt lv st u) : uk_G G X M d Q pc lv (.int x :: st) u := fun hO ls H locs hl hP hS => lv_lookup hO.1 hO.2.1 hd hp ho ht (k hO ls H locs hl hP hS)
end UKX
theorem ks_kind {i : Nat} (h : i < 4) : uk_kind (52 + 1 + i) = 8 := by
  rcases (show i = 0 ∨ i = 1 ∨ i = 2 ∨ i = 3 by omega) with rfl | rfl | rfl | rfl <;> rfl
theorem ks_len {i : Nat} (h : i < 4) : uk_len (52 + 1 + i) = 40 := by
  rcases (show i = 0 ∨ i = 1 ∨ i = 2 ∨ i = 3 by omega) with rfl | rfl | rfl | rfl <;> rfl
theorem ks_rg {i : Nat} (h : i < 4) (j : Nat) (hj : j < 999) : uk_rg (52 + 1 + i) j = (-2147483648, 2147483647) := by
  rcases (show i = 0 ∨ i = 1 ∨ i = 2 ∨ i = 3 by omega) with rfl | rfl | rfl | rfl <;> exact uk_pick1 j hj
abbrev q_X6_stuffOf (u : uk_Mem) (g : Int32) (r : Option Value) (u' : uk_Mem) : Prop := (∃ x : Int32, r = some (.int x) ∧ ((g < 10 ∧ x = g) ∨ (10 ≤ g ∧ x = g - 10))) ∧ (u' = u)
abbrev q_X0_hasStuff (u : uk_Mem) (kb : Nat) (m : Int32) (r : Option Value) (u' : uk_Mem) : Prop := (∃ x : Int32, r = some (.int x) ∧ (x = 0 ∨ x = 1) ∧ (¬ x = 0 → 0 ≤ m ∧ m < u.1 kb 0 ∧ m ≤ 7) ∧ (x = 0 → True)) ∧ (u' = u)
set_option maxHeartbeats 4000000 in
set_option maxRecDepth 20000 in
theorem c_X0_hasStuff {G : uk_D} (hs : uk_Sep G) {u : uk_Mem} (hu : iv u) {kb : Nat} (hkb : uk_isK kb) (m : Int32) (d : Nat) : uk_Meth G d mX0_hasStuff [.ref (uk_ad G kb), .int m] u (q_X0_hasStuff u kb m) := by
  refine uk_Meth.of hs (by decide) (Nat.le_of_ble_eq_true rfl) (fun X => ?_)
  refine g_iload_n dX0_hasStuff_0 rfl ?_
  refine g_if_lt (tgt := 16) dX0_hasStuff_1 (by decide) (fun c1 => ?_) (fun c1 => ?_)
  · refine g_iconst (v := 0) dX0_hasStuff_16 (by decide) ?_
    exact g_iret (ty := .boolean) dX0_hasStuff_17 rfl rfl ⟨⟨0, rfl, Or.inl rfl, fun q => absurd rfl q, fun _ => by first | trivial | lia | grind⟩, rfl⟩
  · refine g_iload_n dX0_hasStuff_4 rfl ?_
    refine g_aload_n dX0_hasStuff_5 rfl ?_
    refine f_X0_9 rfl (kk_0 hkb) dX0_hasStuff_6 ?_
    refine g_topi (fun x2 ex2 => ?_)
    have rx2 : 0 ≤ x2 ∧ x2 ≤ 8 := by rw [ex2]; exact iv_at hu _ _ (kr_0 hkb)
    have s3 : u.1 kb 0 = x2 := ex2.symm
    refine g_icmp_ge (tgt := 16) dX0_hasStuff_9 (by decide) (fun c4 => ?_) (fun c4 => ?_)
    · refine g_iconst (v := 0) dX0_hasStuff_16 (by decide) ?_
      exact g_iret (ty := .boolean) dX0_hasStuff_17 rfl rfl ⟨⟨0, rfl, Or.inl rfl, fun q => absurd rfl q, fun _ => by first | trivial | lia | grind⟩, rfl⟩
    · refine g_iconst (v := 1) dX0_hasStuff_12 (by decide) ?_
      refine g_goto (tgt := 17) dX0_hasStuff_13 (by decide) ?_
      exact g_iret (ty := .boolean) dX0_hasStuff_17 rfl rfl ⟨⟨1, rfl, Or.inr rfl, fun _ => by first | trivial | lia | grind, fun q => absurd q (by decide)⟩, rfl⟩
abbrev q_X0_isMade (u : uk_Mem) (kb : Nat) (m : Int32) (r : Option Value) (u' : uk_Mem) : Prop := (∃ x : Int32, r = some (.int x) ∧ (x = 0 ∨ x = 1) ∧ (¬ x = 0 → True) ∧ (x = 0 → True)) ∧ (u' = u)
set_option maxHeartbeats 4000000 in
set_option maxRecDepth 20000 in
theorem c_X0_isMade {G : uk_D} (hs : uk_Sep G) {u : uk_Mem} (hu : iv u) {kb : Nat} (hkb : uk_isK kb) (m : Int32) (p0 : 0 ≤ m) (p1 : m ≤ 7) (d : Nat) : uk_Meth G d mX0_isMade [.ref (uk_ad G kb), .int m] u (q_X0_isMade u kb m) := by
  refine uk_Meth.of hs (by decide) (Nat.le_of_ble_eq_true rfl) (fun X => ?_)
  refine g_aload_n dX0_isMade_0 rfl ?_
  refine f_X0_15 rfl (kk_0 hkb) dX0_isMade_1 ?_
  refine g_iload_n dX0_isMade_4 rfl ?_
  have v1 : vp_in m 8 := uk_vin 8 rfl (by first | decide | lia | grind) (by first | decide | lia | grind)
  refine g_iald (kk_1 hkb) (kl_1 hkb) v1 dX0_isMade_5 ?_
  refine g_topi (fun x2 ex2 => ?_)
  refine g_iconst (v := 4) dX0_isMade_6 (by decide) ?_
  refine g_icmp_eq (tgt := 14) dX0_isMade_7 (by decide) (fun c3 => ?_) (fun c3 => ?_)
  · refine g_iconst (v := 0) dX0_isMade_14 (by decide) ?_
    exact g_iret (ty := .boolean) dX0_isMade_15 rfl rfl ⟨⟨0, rfl, Or.inl rfl, fun q => absurd rfl q, fun _ => by first | trivial | lia | grind⟩, rfl⟩
  · refine g_iconst (v := 1) dX0_isMade_10 (by decide) ?_
    refine g_goto (tgt := 15) dX0_isMade_11 (by decide) ?_
    exact g_iret (ty := .boolean) dX0_isMade_15 rfl rfl ⟨⟨1, rfl, Or.inr rfl, fun _ => by first | trivial | lia | grind, fun q => absurd q (by decide)⟩, rfl⟩
abbrev q_X0_givesB (u : uk_Mem) (k : Int32) (h : Int32) (r : Option Value) (u' : uk_Mem) : Prop := (∃ x : Int32, r = some (.int x) ∧ (x = 0 ∨ x = 1) ∧ (¬ x = 0 → True) ∧ (x = 0 → True)) ∧ (u' = u)
set_option maxHeartbeats 4000000 in
set_option maxRecDepth 20000 in
theorem c_X0_givesB {G : uk_D} (hs : uk_Sep G) {u : uk_Mem} (hu : iv u) (k : Int32) (h : Int32) (d : Nat) : uk_Meth G d mX0_givesB [.int k, .int h] u (q_X0_givesB u k h) := by
  refine uk_Meth.of hs (by decide) (Nat.le_of_ble_eq_true rfl) (fun X => ?_)
  refine g_iload_n dX0_givesB_0 rfl ?_
  refine g_if_eq (tgt := 14) dX0_givesB_1 (by decide) (fun c1 => ?_) (fun c1 => ?_)
  · refine g_iconst (v := 1) dX0_givesB_14 (by decide) ?_
    refine g_goto (tgt := 19) dX0_givesB_15 (by decide) ?_
    exact g_iret (ty := .boolean) dX0_givesB_19 rfl rfl ⟨⟨1, rfl, Or.inr rfl, fun _ => by first | trivial | lia | grind, fun q => absurd q (by decide)⟩, rfl⟩
  · refine g_iload_n dX0_givesB_4 rfl ?_
    refine g_iconst (v := 3) dX0_givesB_5 (by decide) ?_
    refine g_icmp_ne (tgt := 18) dX0_givesB_6 (by decide) (fun c2 => ?_) (fun c2 => ?_)
    · refine g_iconst (v := 0) dX0_givesB_18 (by decide) ?_
      exact g_iret (ty := .boolean) dX0_givesB_19 rfl rfl ⟨⟨0, rfl, Or.inl rfl, fun q => absurd rfl q, fun _ => by first | trivial | lia | grind⟩, rfl⟩
    · refine g_iload_n dX0_givesB_9 rfl ?_
      refine g_iconst (v := 1) dX0_givesB_10 (by decide) ?_
      refine g_icmp_ne (tgt := 18) dX0_givesB_11 (by decide) (fun c3 => ?_) (fun c3 => ?_)
      · refine g_iconst (v := 0) dX0_givesB_18 (by decide) ?_
        exact g_iret (ty := .boolean) dX0_givesB_19 rfl rfl ⟨⟨0, rfl, Or.inl rfl, fun q => absurd rfl q, fun _ => by first | trivial | lia | grind⟩, rfl⟩
      · refine g_iconst (v := 1) dX0_givesB_14 (by decide) ?_
        refine g_goto (tgt := 19) dX0_givesB_15 (by decide) ?_
        exact g_iret (ty := .boolean) dX0_givesB_19 rfl rfl ⟨⟨1, rfl, Or.inr rfl, fun _ => by first | trivial | lia | grind, fun q => absurd q (by decide)⟩, rfl⟩
abbrev q_X0_isCookable (u : uk_Mem) (kb : Nat) (m : Int32) (r : Option Value) (u' : uk_Mem) : Prop := (∃ x : Int32, r = some (.int x) ∧ (x = 0 ∨ x = 1) ∧ (¬ x = 0 → True) ∧ (x = 0 → True)) ∧ (u' = u)
abbrev q_X0_isTurnable (u : uk_Mem) (kb : Nat) (m : Int32) (r : Option Value) (u' : uk_Mem) : Prop := (∃ x : Int32, r = some (.int x) ∧ (x = 0 ∨ x = 1) ∧ (¬ x = 0 → True) ∧ (x = 0 → True)) ∧ (u' = u)
abbrev q_X0_hasDoing (u : uk_Mem) (kb : Nat) (g : Int32) (r : Option Value) (u' : uk_Mem) : Prop := (∃ x : Int32, r = some (.int x) ∧ (x = 0 ∨ x = 1) ∧ (¬ x = 0 → (0 ≤ g ∧ g ≤ 7) ∨ (10 ≤ g ∧ g ≤ 17)) ∧ (x = 0 → True)) ∧ (u' = u)
abbrev q_X0_isAble (u : uk_Mem) (kb : Nat) (g : Int32) (r : Option Value) (u' : uk_Mem) : Prop := (∃ x : Int32, r = some (.int x) ∧ (x = 0 ∨ x = 1) ∧ (¬ x = 0 → (0 ≤ g ∧ g ≤ 7) ∨ (10 ≤ g ∧ g ≤ 17)) ∧ (x = 0 → True)) ∧ (u' = u)
abbrev q_X0_rawBits (u : uk_Mem) (kb : Nat) (r : Option Value) (u' : uk_Mem) : Prop := (∃ x : Int32, r = some (.int x) ∧ True) ∧ (u' = u)
abbrev q_X0_thereBits (u : uk_Mem) (kb : Nat) (r : Option Value) (u' : uk_Mem) : Prop := (∃ x : Int32, r = some (.int x) ∧ True) ∧ (u' = u)
abbrev q_X0_things (u : uk_Mem) (kb : Nat) (r : Option Value) (u' : uk_Mem) : Prop := (∃ x : Int32, r = some (.int x) ∧ True) ∧ (u' = u)
abbrev q_X0_allFeeds (u : uk_Mem) (kb : Nat) (r : Option Value) (u' : uk_Mem) : Prop := (∃ x : Int32, r = some (.int x) ∧ True) ∧ (u' = u)
abbrev q_X0_gainOf (u : uk_Mem) (kb : Nat) (g : Int32) (r : Option Value) (u' : uk_Mem) : Prop := (∃ x : Int32, r = some (.int x) ∧ True) ∧ (u' = u)
abbrev q_X0_gainBound (u : uk_Mem) (kb : Nat) (r : Option Value) (u' : uk_Mem) : Prop := (∃ x : Int32, r = some (.int x) ∧ True) ∧ (u' = u)
abbrev q_X0_brings (u : uk_Mem) (kb : Nat) (g : Int32) (b : Int32) (r : Option Value) (u' : uk_Mem) : Prop := (∃ x : Int32, r = some (.int x) ∧ (x = 0 ∨ x = 1) ∧ (¬ x = 0 → True) ∧ (x = 0 → True)) ∧ (u' = u)
abbrev q_X0_flipHalf (u : uk_Mem) (kb : Nat) (m : Int32) (r : Option Value) (u' : uk_Mem) : Prop := (r = none) ∧ (iv u' ∧ fr kb (kb + 9) u u')
abbrev q_X0_moveCooked (u : uk_Mem) (kb : Nat) (m : Int32) (t : Int32) (r : Option Value) (u' : uk_Mem) : Prop := (r = none) ∧ (iv u' ∧ fr kb (kb + 9) u u')
abbrev q_X0_moveTurned (u : uk_Mem) (kb : Nat) (m : Int32) (t : Int32) (r : Option Value) (u' : uk_Mem) : Prop := (r = none) ∧ (iv u' ∧ fr kb (kb + 9) u u')
abbrev q_X0_perform (u : uk_Mem) (kb : Nat) (g : Int32) (r : Option Value) (u' : uk_Mem) : Prop := (r = none) ∧ (iv u' ∧ fr kb (kb + 9) u u')
abbrev q_X0_undo (u : uk_Mem) (kb : Nat) (g : Int32) (r : Option Value) (u' : uk_Mem) : Prop := (r = none) ∧ (iv u' ∧ fr kb (kb + 9) u u')
abbrev q_X0_clear (u : uk_Mem) (kb : Nat) (r : Option Value) (u' : uk_Mem) : Prop := (r = none) ∧ (iv u' ∧ fr kb (kb + 9) u u' ∧ u'.1 kb 0 = 0)
abbrev q_X0_copyFrom (u : uk_Mem) (kb : Nat) (kc : Nat) (r : Option Value) (u' : uk_Mem) : Prop := (r = none) ∧ (iv u' ∧ fr kb (kb + 9) u u')
abbrev q_X0_addMade (u : uk_Mem) (kb : Nat) (k : Int32) (a : Int32) (b : Int32) (f : Int32) (r : Option Value) (u' : uk_Mem) : Prop := (r = none) ∧ (iv u' ∧ fr kb (kb + 9) u u' ∧ u'.1 kb 0 = u.1 kb 0 + 1)
abbrev q_X0_addRaw (u : uk_Mem) (kb : Nat) (q : Int32) (f : Int32) (r : Option Value) (u' : uk_Mem) : Prop := (r = none) ∧ (iv u' ∧ fr kb (kb + 9) u u')
abbrev q_X0_startNeed (u : uk_Mem) (m : Int32) (w : Int32) (r : Option Value) (u' : uk_Mem) : Prop := (r = none) ∧ (iv u' ∧ fr 57 58 u u')
set_option maxHeartbeats 4000000 in
set_option maxRecDepth 20000 in
theorem c_X0_startNeed {G : uk_D} (hs : uk_Sep G) {u : uk_Mem} (hu : iv u) (m : Int32) (w : Int32) (d : Nat) : uk_Meth G d mX0_startNeed [.int m, .int w, .ref (uk_ad G 57)] u (q_X0_startNeed u m w) := by
  refine uk_Meth.of hs (by decide) (Nat.le_of_ble_eq_true rfl) (fun X => ?_)
  have f0 : fr 57 58 u u := fr_rf
  refine g_iconst (v := 0) dX0_startNeed_0 (by decide) ?_
  refine g_istore_n dX0_startNeed_1 (by decide) ?_
  refine g_pick (lv' := [(0, .int m), (1, .int w), (2, .ref (uk_ad G 57)), (3, .int 0)]) [0, 1, 2, 3] rfl ?_
  have L2_0 : ∀ i2 : Int32, 0 ≤ i2 → i2 ≤ 8 → ∀ (u3 : uk_Mem), iv u3 → fr 57 58 u u3 → uk_G G X mX0_startNeed d (q_X0_startNeed u m w) 2 [(0, .int m), (1, .int w), (2, .ref (uk_ad G 57)), (3, .int i2)] [] u3 := by
    refine uk_upl 8 ?_
    intro i2 ai2 bi2 ihi2  u3 hu3 fu3
    refine g_iload_n dX0_startNeed_2 rfl ?_
    refine g_bipush (v := 8) dX0_startNeed_3 (by decide) ?_
    refine g_icmp_ge (tgt := 27) dX0_startNeed_5 (by decide) (fun c4 => ?_) (fun c4 => ?_)
    · exact g_vret dX0_startNeed_27 rfl ⟨rfl, hu3, fu3⟩
    · refine g_aload_n dX0_startNeed_8 rfl ?_
      refine g_iload_n dX0_startNeed_9 rfl ?_
      refine g_iload_n dX0_startNeed_10 rfl ?_
      refine g_iload_n dX0_startNeed_11 rfl ?_
      refine g_icmp_ne (tgt := 19) dX0_startNeed_12 (by decide) (fun c5 => ?_) (fun c5 => ?_)
      · refine g_iconst (v := 0) dX0_startNeed_19 (by decide) ?_
        have v6 : vp_in i2 8 := uk_vin 8 rfl (by first | decide | lia | grind) (by first | decide | lia | grind)
        have b7 := uk_cl v6
        refine g_iast rfl rfl v6 dX0_startNeed_20 ?_
        refine g_mem (fun u8 eu8 => ?_)
        have hu8 : iv u8 := by rw [eu8]; exact iv_upF hu3 (uk_pick1 _ (by omega))
        have fu8 : fr 57 58 u u8 := by rw [eu8]; exact fr_up fu3 (by omega) (by omega)
        refine g_iinc (v := i2 + 1) dX0_startNeed_21 rfl rfl (by decide) ?_
        refine g_pick (lv' := [(0, .int m), (1, .int w), (2, .ref (uk_ad G 57)), (3, .int (i2 + 1))]) [0, 1, 2, 3] rfl ?_
        refine g_goto (tgt := 2) dX0_startNeed_24 (by decide) ?_
        refine g_pick (lv' := [(0, .int m), (1, .int w), (2, .ref (uk_ad G 57)), (3, .int (i2 + 1))]) [0, 1, 2, 3] rfl ?_
        exact ihi2 (by first | lia | grind)  u8 hu8 fu8 
      · refine g_iload_n dX0_startNeed_15 rfl ?_
        refine g_goto (tgt := 20) dX0_startNeed_16 (by decide) ?_
        have v9 : vp_in i2 8 := uk_vin 8 rfl (by first | decide | lia | grind) (by first | decide | lia | grind)
        have b10 := uk_cl v9
        refine g_iast rfl rfl v9 dX0_startNeed_20 ?_
        refine g_mem (fun u11 eu11 => ?_)
        have hu11 : iv u11 := by rw [eu11]; exact iv_upF hu3 (uk_pick1 _ (by omega))
        have fu11 : fr 57 58 u u11 := by rw [eu11]; exact fr_up fu3 (by omega) (by omega)
        refine g_iinc (v := i2 + 1) dX0_startNeed_21 rfl rfl (by decide) ?_
        refine g_pick (lv' := [(0, .int m), (1, .int w), (2, .ref (uk_ad G 57)), (3, .int (i2 + 1))]) [0, 1, 2, 3] rfl ?_
        refine g_goto (tgt := 2) dX0_startNeed_24 (by decide) ?_
        refine g_pick (lv' := [(0, .int m), (1, .int w), (2, .ref (uk_ad G 57)), (3, .int (i2 + 1))]) [0, 1, 2, 3] rfl ?_
        exact ihi2 (by first | lia | grind)  u11 hu11 fu11 
  refine g_pick (lv' := [(0, .int m), (1, .int w), (2, .ref (uk_ad G 57)), (3, .int 0)]) [0, 1, 2, 3] rfl ?_
  exact L2_0 0 (by first | decide | lia | grind) (by first | decide | lia | grind)  u hu f0 
abbrev q_X0_rawNeed (u : uk_Mem) (kb : Nat) (m : Int32) (r : Option Value) (u' : uk_Mem) : Prop := (r = none) ∧ (iv u' ∧ fr 57 58 u u')
set_option maxHeartbeats 4000000 in
set_option maxRecDepth 20000 in
theorem c_X0_rawNeed {G : uk_D} (hs : uk_Sep G) {u : uk_Mem} (hu : iv u) {kb : Nat} (hkb : uk_isK kb) (m : Int32) (p0 : 0 ≤ m) (p1 : m ≤ 7) (d : Nat) : uk_Meth G (d + 1) mX0_rawNeed [.ref (uk_ad G kb), .int m, .ref (uk_ad G 57)] u (q_X0_rawNeed u kb m) := by
  refine uk_Meth.of hs (by decide) (Nat.le_of_ble_eq_true rfl) (fun X => ?_)
  have f0 : fr 57 58 u u := fr_rf
  refine g_iload_n dX0_rawNeed_0 rfl ?_
  refine g_iconst (v := 1) dX0_rawNeed_1 (by decide) ?_
  refine g_aload_n dX0_rawNeed_2 rfl ?_
  refine cl_X0_97 (As := [.int m, .int 1, .ref (uk_ad G 57)]) rfl (c_X0_startNeed (G := G) hs hu  m 1  (d)) rfl (by omega) rfl (Nat.le_of_ble_eq_true rfl) dX0_rawNeed_3 (fun r1 u2 q3 => ?_)
  obtain ⟨rfl, mq3⟩ := q3
  obtain ⟨hu2, gu2⟩ := mq3
  have fu2 : fr 57 58 u u2 := fr_tr f0 gu2 (by omega) (by omega)
  refine g_iload_n dX0_rawNeed_6 rfl ?_
  refine g_istore_n dX0_rawNeed_7 (by decide) ?_
  refine g_pick (lv' := [(0, .ref (uk_ad G kb)), (1, .int m), (2, .ref (uk_ad G 57)), (3, .int m)]) [0, 1, 2, 3] rfl ?_
  have L8_3 : ∀ i5 : Int32, -1 ≤ i5 → ∀ (u6 : uk_Mem), iv u6 → fr 57 58 u u6 → i5 ≤ 7 → uk_G G X mX0_rawNeed (d + 1) (q_X0_rawNeed u kb m) 8 [(0, .ref (uk_ad G kb)), (1, .int m), (2, .ref (uk_ad G 57)), (3, .int i5)] [] u6 := by
    refine uk_dnl ?_
    intro i5 ai5 ihi5  u6 hu6 fu6 ji50
    refine g_iload_n dX0_rawNeed_8 rfl ?_
    refine g_if_lt (tgt := 54) dX0_rawNeed_9 (by decide) (fun c7 => ?_) (fun c7 => ?_)
    · exact g_vret dX0_rawNeed_54 rfl ⟨rfl, hu6, fu6⟩
    · refine g_aload_n dX0_rawNeed_12 rfl ?_
      refine g_iload_n dX0_rawNeed_13 rfl ?_
      refine cl_X0_61 (c := kb) (As := [.int i5]) rfl (c_X0_isMade (G := G) hs hu6 hkb i5 (by first | trivial | decide | lia | grind) (by first | trivial | decide | lia | grind) (d)) rfl (by omega) (kk_0 hkb) rfl (Nat.le_of_ble_eq_true rfl) dX0_rawNeed_14 (fun r8 u9 q10 => ?_)
      obtain ⟨⟨x11, rfl, tx11, nx11, zx11⟩, mq10⟩ := q10
      rw [mq10]
      refine g_if_eq (tgt := 48) dX0_rawNeed_17 (by decide) (fun c12 => ?_) (fun c12 => ?_)
      · have zc12 := zx11 c12
        refine g_iinc (v := i5 - 1) dX0_rawNeed_48 rfl (uk_m1 _) (by decide) ?_
        refine g_pick (lv' := [(0, .ref (uk_ad G kb)), (1, .int m), (2, .ref (uk_ad G 57)), (3, .int (i5 - 1))]) [0, 1, 2, 3] rfl ?_
        refine g_goto (tgt := 8) dX0_rawNeed_51 (by decide) ?_
        refine g_pick (lv' := [(0, .ref (uk_ad G kb)), (1, .int m), (2, .ref (uk_ad G 57)), (3, .int (i5 - 1))]) [0, 1, 2, 3] rfl ?_
        exact ihi5 (by first | lia | grind)  u6 hu6 fu6 (by first | trivial | lia | grind)
      · have zc12 := nx11 c12
        refine g_aload_n dX0_rawNeed_20 rfl ?_
        refine g_aload_n dX0_rawNeed_21 rfl ?_
        refine f_X0_19 rfl (kk_0 hkb) dX0_rawNeed_22 ?_
        refine g_iload_n dX0_rawNeed_25 rfl ?_
        have v13 : vp_in i5 8 := uk_vin 8 rfl (by first | decide | lia | grind) (by first | decide | lia | grind)
        refine g_iald (kk_2 hkb) (kl_2 hkb) v13 dX0_rawNeed_26 ?_
        refine g_topi (fun x14 ex14 => ?_)
        have bx14 := uk_cl v13
        have rx14 : 0 ≤ x14 ∧ x14 ≤ 7 := by rw [ex14]; exact iv_at hu6 _ _ (ka_2 hkb _ (by omega))
        refine g_dup2 dX0_rawNeed_27 rfl rfl ?_
        have v15 : vp_in x14 8 := uk_vin 8 rfl (by first | decide | lia | grind) (by first | decide | lia | grind)
        refine g_iald rfl rfl v15 dX0_rawNeed_28 ?_
        refine g_topi (fun x16 ex16 => ?_)
        refine g_aload_n dX0_rawNeed_29 rfl ?_
        refine g_iload_n dX0_rawNeed_30 rfl ?_
        have v17 : vp_in i5 8 := uk_vin 8 rfl (by first | decide | lia | grind) (by first | decide | lia | grind)
        refine g_iald rfl rfl v17 dX0_rawNeed_31 ?_
        refine g_topi (fun x18 ex18 => ?_)
        refine g_iadd dX0_rawNeed_32 ?_
        refine g_topi (fun x19 ex19 => ?_)
        have v20 : vp_in x14 8 := uk_vin 8 rfl (by first | decide | lia | grind) (by first | decide | lia | grind)
        have b21 := uk_cl v20
        refine g_iast rfl rfl v20 dX0_rawNeed_33 ?_
        refine g_mem (fun u22 eu22 => ?_)
        have hu22 : iv u22 := by rw [eu22]; exact iv_upF hu6 (uk_pick1 _ (by omega))
        have fu22 : fr 57 58 u u22 := by rw [eu22]; exact fr_up fu6 (by omega) (by omega)
        refine g_aload_n dX0_rawNeed_34 rfl ?_
        refine g_aload_n dX0_rawNeed_35 rfl ?_
        refine f_X0_22 rfl (kk_0 hkb) dX0_rawNeed_36 ?_
        refine g_iload_n dX0_rawNeed_39 rfl ?_
        have v23 : vp_in i5 8 := uk_vin 8 rfl (by first | decide | lia | grind) (by first | decide | lia | grind)
        refine g_iald (kk_3 hkb) (kl_3 hkb) v23 dX0_rawNeed_40 ?_
        refine g_topi (fun x24 ex24 => ?_)
        have bx24 := uk_cl v23
        have rx24 : 0 ≤ x24 ∧ x24 ≤ 7 := by rw [ex24]; exact iv_at hu22 _ _ (ka_3 hkb _ (by omega))
        refine g_dup2 dX0_rawNeed_41 rfl rfl ?_
        have v25 : vp_in x24 8 := uk_vin 8 rfl (by first | decide | lia | grind) (by first | decide | lia | grind)
        refine g_iald rfl rfl v25 dX0_rawNeed_42 ?_
        refine g_topi (fun x26 ex26 => ?_)
        refine g_aload_n dX0_rawNeed_43 rfl ?_
        refine g_iload_n dX0_rawNeed_44 rfl ?_
        have v27 : vp_in i5 8 := uk_vin 8 rfl (by first | decide | lia | grind) (by first | decide | lia | grind)
        refine g_iald rfl rfl v27 dX0_rawNeed_45 ?_
        refine g_topi (fun x28 ex28 => ?_)
        refine g_iadd dX0_rawNeed_46 ?_
        refine g_topi (fun x29 ex29 => ?_)
        have v30 : vp_in x24 8 := uk_vin 8 rfl (by first | decide | lia | grind) (by first | decide | lia | grind)
        have b31 := uk_cl v30
        refine g_iast rfl rfl v30 dX0_rawNeed_47 ?_
        refine g_mem (fun u32 eu32 => ?_)
        have hu32 : iv u32 := by rw [eu32]; exact iv_upF hu22 (uk_pick1 _ (by omega))
        have fu32 : fr 57 58 u u32 := by rw [eu32]; exact fr_up fu22 (by omega) (by omega)
        refine g_iinc (v := i5 - 1) dX0_rawNeed_48 rfl (uk_m1 _) (by decide) ?_
        refine g_pick (lv' := [(0, .ref (uk_ad G kb)), (1, .int m), (2, .ref (uk_ad G 57)), (3, .int (i5 - 1))]) [0, 1, 2, 3] rfl ?_
        refine g_goto (tgt := 8) dX0_rawNeed_51 (by decide) ?_
        refine g_pick (lv' := [(0, .ref (uk_ad G kb)), (1, .int m), (2, .ref (uk_ad G 57)), (3, .int (i5 - 1))]) [0, 1, 2, 3] rfl ?_
        exact ihi5 (by first | lia | grind)  u32 hu32 fu32 (by first | trivial | lia | grind)
  refine g_pick (lv' := [(0, .ref (uk_ad G kb)), (1, .int m), (2, .ref (uk_ad G 57)), (3, .int m)]) [0, 1, 2, 3] rfl ?_
  exact L8_3 m (by first | decide | lia | grind)  u2 hu2 fu2 (by first | trivial | lia | grind)
abbrev q_X0_isEnoughFor (u : uk_Mem) (kb : Nat) (m : Int32) (w : Int32) (r : Option Value) (u' : uk_Mem) : Prop := (∃ x : Int32, r = some (.int x) ∧ (x = 0 ∨ x = 1) ∧ (¬ x = 0 → True) ∧ (x = 0 → True)) ∧ (iv u' ∧ fr 57 58 u u')
set_option maxHeartbeats 4000000 in
set_option maxRecDepth 20000 in
theorem c_X0_isEnoughFor {G : uk_D} (hs : uk_Sep G) {u : uk_Mem} (hu : iv u) {kb : Nat} (hkb : uk_isK kb) (m : Int32) (w : Int32) (p0 : 0 ≤ m) (p1 : m ≤ 7) (d : Nat) : uk_Meth G (d + 1) mX0_isEnoughFor [.ref (uk_ad G kb), .int m, .int w, .ref (uk_ad G 57)] u (q_X0_isEnoughFor u kb m w) := by
  refine uk_Meth.of hs (by decide) (Nat.le_of_ble_eq_true rfl) (fun X => ?_)
  have f0 : fr 57 58 u u := fr_rf
  refine g_iload_n dX0_isEnoughFor_0 rfl ?_
  refine g_iload_n dX0_isEnoughFor_1 rfl ?_
  refine g_aload_n dX0_isEnoughFor_2 rfl ?_
  refine cl_X0_97 (As := [.int m, .int w, .ref (uk_ad G 57)]) rfl (c_X0_startNeed (G := G) hs hu  m w  (d)) rfl (by omega) rfl (Nat.le_of_ble_eq_true rfl) dX0_isEnoughFor_3 (fun r1 u2 q3 => ?_)
  obtain ⟨rfl, mq3⟩ := q3
  obtain ⟨hu2, gu2⟩ := mq3
  have fu2 : fr 57 58 u u2 := fr_tr f0 gu2 (by omega) (by omega)
  refine g_iload_n dX0_isEnoughFor_6 rfl ?_
  refine g_istore dX0_isEnoughFor_7 (by decide) ?_
  refine g_pick (lv' := [(0, .ref (uk_ad G kb)), (1, .int m), (2, .int w), (3, .ref (uk_ad G 57)), (4, .int m)]) [0, 1, 2, 3, 4] rfl ?_
  have L9_3 : ∀ i5 : Int32, -1 ≤ i5 → ∀ (u6 : uk_Mem), iv u6 → fr 57 58 u u6 → i5 ≤ 7 → uk_G G X mX0_isEnoughFor (d + 1) (q_X0_isEnoughFor u kb m w) 9 [(0, .ref (uk_ad G kb)), (1, .int m), (2, .int w), (3, .ref (uk_ad G 57)), (4, .int i5)] [] u6 := by
    refine uk_dnl ?_
    intro i5 ai5 ihi5  u6 hu6 fu6 ji50
    refine g_iload dX0_isEnoughFor_9 rfl ?_
    refine g_if_lt (tgt := 88) dX0_isEnoughFor_11 (by decide) (fun c7 => ?_) (fun c7 => ?_)
    · refine g_iconst (v := 1) dX0_isEnoughFor_88 (by decide) ?_
      exact g_iret (ty := .boolean) dX0_isEnoughFor_89 rfl rfl ⟨⟨1, rfl, Or.inr rfl, fun _ => by first | trivial | lia | grind, fun q => absurd q (by decide)⟩, hu6, fu6⟩
    · refine g_iload dX0_isEnoughFor_14 rfl ?_
      refine g_iload_n dX0_isEnoughFor_16 rfl ?_
      refine g_icmp_ne (tgt := 24) dX0_isEnoughFor_17 (by decide) (fun c8 => ?_) (fun c8 => ?_)
      · refine g_aload_n dX0_isEnoughFor_24 rfl ?_
        refine g_iload dX0_isEnoughFor_25 rfl ?_
        have v9 : vp_in i5 8 := uk_vin 8 rfl (by first | decide | lia | grind) (by first | decide | lia | grind)
        refine g_iald rfl rfl v9 dX0_isEnoughFor_27 ?_
        refine g_topi (fun x10 ex10 => ?_)
        refine g_aload_n dX0_isEnoughFor_28 rfl ?_
        refine f_X0_31 rfl (kk_0 hkb) dX0_isEnoughFor_29 ?_
        refine g_iload dX0_isEnoughFor_32 rfl ?_
        have v11 : vp_in i5 8 := uk_vin 8 rfl (by first | decide | lia | grind) (by first | decide | lia | grind)
        refine g_iald (kk_6 hkb) (kl_6 hkb) v11 dX0_isEnoughFor_34 ?_
        refine g_topi (fun x12 ex12 => ?_)
        refine g_isub dX0_isEnoughFor_35 ?_
        refine g_topi (fun x13 ex13 => ?_)
        refine g_istore dX0_isEnoughFor_36 (by decide) ?_
        refine g_pick (lv' := [(0, .ref (uk_ad G kb)), (1, .int m), (2, .int w), (3, .ref (uk_ad G 57)), (4, .int i5), (5, .int x13)]) [0, 1, 2, 3, 4, 5] rfl ?_
        refine g_iload dX0_isEnoughFor_38 rfl ?_
        refine g_if_le (tgt := 82) dX0_isEnoughFor_40 (by decide) (fun c14 => ?_) (fun c14 => ?_)
        · refine g_iinc (v := i5 - 1) dX0_isEnoughFor_82 rfl (uk_m1 _) (by decide) ?_
          refine g_pick (lv' := [(0, .ref (uk_ad G kb)), (1, .int m), (2, .int w), (3, .ref (uk_ad G 57)), (4, .int (i5 - 1)), (5, .int x13)]) [0, 1, 2, 3, 4, 5] rfl ?_
          refine g_goto (tgt := 9) dX0_isEnoughFor_85 (by decide) ?_
          refine g_pick (lv' := [(0, .ref (uk_ad G kb)), (1, .int m), (2, .int w), (3, .ref (uk_ad G 57)), (4, .int (i5 - 1))]) [0, 1, 2, 3, 4] rfl ?_
          exact ihi5 (by first | lia | grind)  u6 hu6 fu6 (by first | trivial | lia | grind)
        · refine g_aload_n dX0_isEnoughFor_43 rfl ?_
          refine g_iload dX0_isEnoughFor_44 rfl ?_
          refine cl_X0_61 (c := kb) (As := [.int i5]) rfl (c_X0_isMade (G := G) hs hu6 hkb i5 (by first | trivial | decide | lia | grind) (by first | trivial | decide | lia | grind) (d)) rfl (by omega) (kk_0 hkb) rfl (Nat.le_of_ble_eq_true rfl) dX0_isEnoughFor_46 (fun r15 u16 q17 => ?_)
          obtain ⟨⟨x18, rfl, tx18, nx18, zx18⟩, mq17⟩ := q17
          rw [mq17]
          refine g_if_ne (tgt := 54) dX0_isEnoughFor_49 (by decide) (fun c19 => ?_) (fun c19 => ?_)
          · have zc19 := nx18 c19
            refine g_aload_n dX0_isEnoughFor_54 rfl ?_
            refine g_aload_n dX0_isEnoughFor_55 rfl ?_
            refine f_X0_19 rfl (kk_0 hkb) dX0_isEnoughFor_56 ?_
            refine g_iload dX0_isEnoughFor_59 rfl ?_
            have v20 : vp_in i5 8 := uk_vin 8 rfl (by first | decide | lia | grind) (by first | decide | lia | grind)
            refine g_iald (kk_2 hkb) (kl_2 hkb) v20 dX0_isEnoughFor_61 ?_
            refine g_topi (fun x21 ex21 => ?_)
            have bx21 := uk_cl v20
            have rx21 : 0 ≤ x21 ∧ x21 ≤ 7 := by rw [ex21]; exact iv_at hu6 _ _ (ka_2 hkb _ (by omega))
            refine g_dup2 dX0_isEnoughFor_62 rfl rfl ?_
            have v22 : vp_in x21 8 := uk_vin 8 rfl (by first | decide | lia | grind) (by first | decide | lia | grind)
            refine g_iald rfl rfl v22 dX0_isEnoughFor_63 ?_
            refine g_topi (fun x23 ex23 => ?_)
            refine g_iload dX0_isEnoughFor_64 rfl ?_
            refine g_iadd dX0_isEnoughFor_66 ?_
            refine g_topi (fun x24 ex24 => ?_)
            have v25 : vp_in x21 8 := uk_vin 8 rfl (by first | decide | lia | grind) (by first | decide | lia | grind)
            have b26 := uk_cl v25
            refine g_iast rfl rfl v25 dX0_isEnoughFor_67 ?_
            refine g_mem (fun u27 eu27 => ?_)
            have hu27 : iv u27 := by rw [eu27]; exact iv_upF hu6 (uk_pick1 _ (by omega))
            have fu27 : fr 57 58 u u27 := by rw [eu27]; exact fr_up fu6 (by omega) (by omega)
            refine g_aload_n dX0_isEnoughFor_68 rfl ?_
            refine g_aload_n dX0_isEnoughFor_69 rfl ?_
            refine f_X0_22 rfl (kk_0 hkb) dX0_isEnoughFor_70 ?_
            refine g_iload dX0_isEnoughFor_73 rfl ?_
            have v28 : vp_in i5 8 := uk_vin 8 rfl (by first | decide | lia | grind) (by first | decide | lia | grind)
            refine g_iald (kk_3 hkb) (kl_3 hkb) v28 dX0_isEnoughFor_75 ?_
            refine g_topi (fun x29 ex29 => ?_)
            have bx29 := uk_cl v28
            have rx29 : 0 ≤ x29 ∧ x29 ≤ 7 := by rw [ex29]; exact iv_at hu27 _ _ (ka_3 hkb _ (by omega))
            refine g_dup2 dX0_isEnoughFor_76 rfl rfl ?_
            have v30 : vp_in x29 8 := uk_vin 8 rfl (by first | decide | lia | grind) (by first | decide | lia | grind)
            refine g_iald rfl rfl v30 dX0_isEnoughFor_77 ?_
            refine g_topi (fun x31 ex31 => ?_)
            refine g_iload dX0_isEnoughFor_78 rfl ?_
            refine g_iadd dX0_isEnoughFor_80 ?_
            refine g_topi (fun x32 ex32 => ?_)
            have v33 : vp_in x29 8 := uk_vin 8 rfl (by first | decide | lia | grind) (by first | decide | lia | grind)
            have b34 := uk_cl v33
            refine g_iast rfl rfl v33 dX0_isEnoughFor_81 ?_
            refine g_mem (fun u35 eu35 => ?_)
            have hu35 : iv u35 := by rw [eu35]; exact iv_upF hu27 (uk_pick1 _ (by omega))
            have fu35 : fr 57 58 u u35 := by rw [eu35]; exact fr_up fu27 (by omega) (by omega)
            refine g_iinc (v := i5 - 1) dX0_isEnoughFor_82 rfl (uk_m1 _) (by decide) ?_
            refine g_pick (lv' := [(0, .ref (uk_ad G kb)), (1, .int m), (2, .int w), (3, .ref (uk_ad G 57)), (4, .int (i5 - 1)), (5, .int x13)]) [0, 1, 2, 3, 4, 5] rfl ?_
            refine g_goto (tgt := 9) dX0_isEnoughFor_85 (by decide) ?_
            refine g_pick (lv' := [(0, .ref (uk_ad G kb)), (1, .int m), (2, .int w), (3, .ref (uk_ad G 57)), (4, .int (i5 - 1))]) [0, 1, 2, 3, 4] rfl ?_
            exact ihi5 (by first | lia | grind)  u35 hu35 fu35 (by first | trivial | lia | grind)
          · have zc19 := zx18 c19
            refine g_iconst (v := 0) dX0_isEnoughFor_52 (by decide) ?_
            exact g_iret (ty := .boolean) dX0_isEnoughFor_53 rfl rfl ⟨⟨0, rfl, Or.inl rfl, fun q => absurd rfl q, fun _ => by first | trivial | lia | grind⟩, hu6, fu6⟩
      · refine g_iload_n dX0_isEnoughFor_20 rfl ?_
        refine g_goto (tgt := 36) dX0_isEnoughFor_21 (by decide) ?_
        refine g_istore dX0_isEnoughFor_36 (by decide) ?_
        refine g_pick (lv' := [(0, .ref (uk_ad G kb)), (1, .int m), (2, .int w), (3, .ref (uk_ad G 57)), (4, .int i5), (5, .int w)]) [0, 1, 2, 3, 4, 5] rfl ?_
        refine g_iload dX0_isEnoughFor_38 rfl ?_
        refine g_if_le (tgt := 82) dX0_isEnoughFor_40 (by decide) (fun c36 => ?_) (fun c36 => ?_)
        · refine g_iinc (v := i5 - 1) dX0_isEnoughFor_82 rfl (uk_m1 _) (by decide) ?_
          refine g_pick (lv' := [(0, .ref (uk_ad G kb)), (1, .int m), (2, .int w), (3, .ref (uk_ad G 57)), (4, .int (i5 - 1)), (5, .int w)]) [0, 1, 2, 3, 4, 5] rfl ?_
          refine g_goto (tgt := 9) dX0_isEnoughFor_85 (by decide) ?_
          refine g_pick (lv' := [(0, .ref (uk_ad G kb)), (1, .int m), (2, .int w), (3, .ref (uk_ad G 57)), (4, .int (i5 - 1))]) [0, 1, 2, 3, 4] rfl ?_
          exact ihi5 (by first | lia | grind)  u6 hu6 fu6 (by first | trivial | lia | grind)
        · refine g_aload_n dX0_isEnoughFor_43 rfl ?_
          refine g_iload dX0_isEnoughFor_44 rfl ?_
          refine cl_X0_61 (c := kb) (As := [.int i5]) rfl (c_X0_isMade (G := G) hs hu6 hkb i5 (by first | trivial | decide | lia | grind) (by first | trivial | decide | lia | grind) (d)) rfl (by omega) (kk_0 hkb) rfl (Nat.le_of_ble_eq_true rfl) dX0_isEnoughFor_46 (fun r37 u38 q39 => ?_)
          obtain ⟨⟨x40, rfl, tx40, nx40, zx40⟩, mq39⟩ := q39
          rw [mq39]
          refine g_if_ne (tgt := 54) dX0_isEnoughFor_49 (by decide) (fun c41 => ?_) (fun c41 => ?_)
          · have zc41 := nx40 c41
            refine g_aload_n dX0_isEnoughFor_54 rfl ?_
            refine g_aload_n dX0_isEnoughFor_55 rfl ?_
            refine f_X0_19 rfl (kk_0 hkb) dX0_isEnoughFor_56 ?_
            refine g_iload dX0_isEnoughFor_59 rfl ?_
            have v42 : vp_in i5 8 := uk_vin 8 rfl (by first | decide | lia | grind) (by first | decide | lia | grind)
            refine g_iald (kk_2 hkb) (kl_2 hkb) v42 dX0_isEnoughFor_61 ?_
            refine g_topi (fun x43 ex43 => ?_)
            have bx43 := uk_cl v42
            have rx43 : 0 ≤ x43 ∧ x43 ≤ 7 := by rw [ex43]; exact iv_at hu6 _ _ (ka_2 hkb _ (by omega))
            refine g_dup2 dX0_isEnoughFor_62 rfl rfl ?_
            have v44 : vp_in x43 8 := uk_vin 8 rfl (by first | decide | lia | grind) (by first | decide | lia | grind)
            refine g_iald rfl rfl v44 dX0_isEnoughFor_63 ?_
            refine g_topi (fun x45 ex45 => ?_)
            refine g_iload dX0_isEnoughFor_64 rfl ?_
            refine g_iadd dX0_isEnoughFor_66 ?_
            refine g_topi (fun x46 ex46 => ?_)
            have v47 : vp_in x43 8 := uk_vin 8 rfl (by first | decide | lia | grind) (by first | decide | lia | grind)
            have b48 := uk_cl v47
            refine g_iast rfl rfl v47 dX0_isEnoughFor_67 ?_
            refine g_mem (fun u49 eu49 => ?_)
            have hu49 : iv u49 := by rw [eu49]; exact iv_upF hu6 (uk_pick1 _ (by omega))
            have fu49 : fr 57 58 u u49 := by rw [eu49]; exact fr_up fu6 (by omega) (by omega)
            refine g_aload_n dX0_isEnoughFor_68 rfl ?_
            refine g_aload_n dX0_isEnoughFor_69 rfl ?_
            refine f_X0_22 rfl (kk_0 hkb) dX0_isEnoughFor_70 ?_
            refine g_iload dX0_isEnoughFor_73 rfl ?_
            have v50 : vp_in i5 8 := uk_vin 8 rfl (by first | decide | lia | grind) (by first | decide | lia | grind)
            refine g_iald (kk_3 hkb) (kl_3 hkb) v50 dX0_isEnoughFor_75 ?_
            refine g_topi (fun x51 ex51 => ?_)
            have bx51 := uk_cl v50
            have rx51 : 0 ≤ x51 ∧ x51 ≤ 7 := by rw [ex51]; exact iv_at hu49 _ _ (ka_3 hkb _ (by omega))
            refine g_dup2 dX0_isEnoughFor_76 rfl rfl ?_
            have v52 : vp_in x51 8 := uk_vin 8 rfl (by first | decide | lia | grind) (by first | decide | lia | grind)
            refine g_iald rfl rfl v52 dX0_isEnoughFor_77 ?_
            refine g_topi (fun x53 ex53 => ?_)
            refine g_iload dX0_isEnoughFor_78 rfl ?_
            refine g_iadd dX0_isEnoughFor_80 ?_
            refine g_topi (fun x54 ex54 => ?_)
            have v55 : vp_in x51 8 := uk_vin 8 rfl (by first | decide | lia | grind) (by first | decide | lia | grind)
            have b56 := uk_cl v55
            refine g_iast rfl rfl v55 dX0_isEnoughFor_81 ?_
            refine g_mem (fun u57 eu57 => ?_)
            have hu57 : iv u57 := by rw [eu57]; exact iv_upF hu49 (uk_pick1 _ (by omega))
            have fu57 : fr 57 58 u u57 := by rw [eu57]; exact fr_up fu49 (by omega) (by omega)
            refine g_iinc (v := i5 - 1) dX0_isEnoughFor_82 rfl (uk_m1 _) (by decide) ?_
            refine g_pick (lv' := [(0, .ref (uk_ad G kb)), (1, .int m), (2, .int w), (3, .ref (uk_ad G 57)), (4, .int (i5 - 1)), (5, .int w)]) [0, 1, 2, 3, 4, 5] rfl ?_
            refine g_goto (tgt := 9) dX0_isEnoughFor_85 (by decide) ?_
            refine g_pick (lv' := [(0, .ref (uk_ad G kb)), (1, .int m), (2, .int w), (3, .ref (uk_ad G 57)), (4, .int (i5 - 1))]) [0, 1, 2, 3, 4] rfl ?_
            exact ihi5 (by first | lia | grind)  u57 hu57 fu57 (by first | trivial | lia | grind)
          · have zc41 := zx40 c41
            refine g_iconst (v := 0) dX0_isEnoughFor_52 (by decide) ?_
            exact g_iret (ty := .boolean) dX0_isEnoughFor_53 rfl rfl ⟨⟨0, rfl, Or.inl rfl, fun q => absurd rfl q, fun _ => by first | trivial | lia | grind⟩, hu6, fu6⟩
  refine g_pick (lv' := [(0, .ref (uk_ad G kb)), (1, .int m), (2, .int w), (3, .ref (uk_ad G 57)), (4, .int m)]) [0, 1, 2, 3, 4] rfl ?_
  exact L9_3 m (by first | decide | lia | grind)  u2 hu2 fu2 (by first | trivial | lia | grind)
abbrev q_X0_rawCost (u : uk_Mem) (kb : Nat) (m : Int32) (r : Option Value) (u' : uk_Mem) : Prop := (∃ x : Int32, r = some (.int x) ∧ True) ∧ (iv u' ∧ fr 57 58 u u')
set_option maxHeartbeats 4000000 in
set_option maxRecDepth 20000 in
theorem c_X0_rawCost {G : uk_D} (hs : uk_Sep G) {u : uk_Mem} (hu : iv u) {kb : Nat} (hkb : uk_isK kb) (m : Int32) (p0 : 0 ≤ m) (p1 : m ≤ 7) (d : Nat) : uk_Meth G (d + 2) mX0_rawCost [.ref (uk_ad G kb), .int m, .ref (uk_ad G 57)] u (q_X0_rawCost u kb m) := by
  refine uk_Meth.of hs (by decide) (Nat.le_of_ble_eq_true rfl) (fun X => ?_)
  have f0 : fr 57 58 u u := fr_rf
  refine g_aload_n dX0_rawCost_0 rfl ?_
  refine g_iload_n dX0_rawCost_1 rfl ?_
  refine g_aload_n dX0_rawCost_2 rfl ?_
  refine cl_X0_101 (c := kb) (As := [.int m, .ref (uk_ad G 57)]) rfl (c_X0_rawNeed (G := G) hs hu hkb m (by first | trivial | decide | lia | grind) (by first | trivial | decide | lia | grind) (d)) rfl (by omega) (kk_0 hkb) rfl (Nat.le_of_ble_eq_true rfl) dX0_rawCost_3 (fun r1 u2 q3 => ?_)
  obtain ⟨rfl, mq3⟩ := q3
  obtain ⟨hu2, gu2⟩ := mq3
  have fu2 : fr 57 58 u u2 := fr_tr f0 gu2 (by omega) (by omega)
  refine g_iconst (v := 0) dX0_rawCost_6 (by decide) ?_
  refine g_istore_n dX0_rawCost_7 (by decide) ?_
  refine g_pick (lv' := [(0, .ref (uk_ad G kb)), (1, .int m), (2, .ref (uk_ad G 57)), (3, .int 0)]) [0, 1, 2, 3] rfl ?_
  refine g_iconst (v := 0) dX0_rawCost_8 (by decide) ?_
  refine g_istore dX0_rawCost_9 (by decide) ?_
  refine g_pick (lv' := [(0, .ref (uk_ad G kb)), (1, .int m), (2, .ref (uk_ad G 57)), (3, .int 0), (4, .int 0)]) [0, 1, 2, 3, 4] rfl ?_
  have L11_3 : ∀ i6 : Int32, 0 ≤ i6 → i6 ≤ 8 → ∀ (w5 : Int32), uk_G G X mX0_rawCost (d + 2) (q_X0_rawCost u kb m) 11 [(0, .ref (uk_ad G kb)), (1, .int m), (2, .ref (uk_ad G 57)), (3, .int w5), (4, .int i6)] [] u2 := by
    refine uk_upl 8 ?_
    intro i6 ai6 bi6 ihi6 w5
    refine g_iload dX0_rawCost_11 rfl ?_
    refine g_iload_n dX0_rawCost_13 rfl ?_
    refine g_icmp_gt (tgt := 51) dX0_rawCost_14 (by decide) (fun c7 => ?_) (fun c7 => ?_)
    · refine g_iload_n dX0_rawCost_51 rfl ?_
      exact g_iret (ty := .int) dX0_rawCost_52 rfl rfl ⟨⟨_, rfl, by first | trivial | lia | grind⟩, hu2, fu2⟩
    · refine g_iload_n dX0_rawCost_17 rfl ?_
      refine g_aload_n dX0_rawCost_18 rfl ?_
      refine g_iload dX0_rawCost_19 rfl ?_
      refine cl_X0_61 (c := kb) (As := [.int i6]) rfl (c_X0_isMade (G := G) hs hu2 hkb i6 (by first | trivial | decide | lia | grind) (by first | trivial | decide | lia | grind) (d + 1)) rfl (by omega) (kk_0 hkb) rfl (Nat.le_of_ble_eq_true rfl) dX0_rawCost_21 (fun r8 u9 q10 => ?_)
      obtain ⟨⟨x11, rfl, tx11, nx11, zx11⟩, mq10⟩ := q10
      rw [mq10]
      refine g_if_eq (tgt := 31) dX0_rawCost_24 (by decide) (fun c12 => ?_) (fun c12 => ?_)
      · have zc12 := zx11 c12
        refine g_aload_n dX0_rawCost_31 rfl ?_
        refine g_iload dX0_rawCost_32 rfl ?_
        have v13 : vp_in i6 8 := uk_vin 8 rfl (by first | decide | lia | grind) (by first | decide | lia | grind)
        refine g_iald rfl rfl v13 dX0_rawCost_34 ?_
        refine g_topi (fun x14 ex14 => ?_)
        refine g_aload_n dX0_rawCost_35 rfl ?_
        refine f_X0_28 rfl (kk_0 hkb) dX0_rawCost_36 ?_
        refine g_iload dX0_rawCost_39 rfl ?_
        have v15 : vp_in i6 8 := uk_vin 8 rfl (by first | decide | lia | grind) (by first | decide | lia | grind)
        refine g_iald (kk_5 hkb) (kl_5 hkb) v15 dX0_rawCost_41 ?_
        refine g_topi (fun x16 ex16 => ?_)
        refine g_imul dX0_rawCost_42 ?_
        refine g_topi (fun x17 ex17 => ?_)
        refine g_iadd dX0_rawCost_43 ?_
        refine g_topi (fun x18 ex18 => ?_)
        refine g_istore_n dX0_rawCost_44 (by decide) ?_
        refine g_pick (lv' := [(0, .ref (uk_ad G kb)), (1, .int m), (2, .ref (uk_ad G 57)), (3, .int x18), (4, .int i6)]) [0, 1, 2, 3, 4] rfl ?_
        refine g_iinc (v := i6 + 1) dX0_rawCost_45 rfl rfl (by decide) ?_
        refine g_pick (lv' := [(0, .ref (uk_ad G kb)), (1, .int m), (2, .ref (uk_ad G 57)), (3, .int x18), (4, .int (i6 + 1))]) [0, 1, 2, 3, 4] rfl ?_
        refine g_goto (tgt := 11) dX0_rawCost_48 (by decide) ?_
        refine g_pick (lv' := [(0, .ref (uk_ad G kb)), (1, .int m), (2, .ref (uk_ad G 57)), (3, .int x18), (4, .int (i6 + 1))]) [0, 1, 2, 3, 4] rfl ?_
        exact ihi6 (by first | lia | grind) x18 
      · have zc12 := nx11 c12
        refine g_iconst (v := 0) dX0_rawCost_27 (by decide) ?_
        refine g_goto (tgt := 43) dX0_rawCost_28 (by decide) ?_
        refine g_iadd dX0_rawCost_43 ?_
        refine g_topi (fun x19 ex19 => ?_)
        refine g_istore_n dX0_rawCost_44 (by decide) ?_
        refine g_pick (lv' := [(0, .ref (uk_ad G kb)), (1, .int m), (2, .ref (uk_ad G 57)), (3, .int x19), (4, .int i6)]) [0, 1, 2, 3, 4] rfl ?_
        refine g_iinc (v := i6 + 1) dX0_rawCost_45 rfl rfl (by decide) ?_
        refine g_pick (lv' := [(0, .ref (uk_ad G kb)), (1, .int m), (2, .ref (uk_ad G 57)), (3, .int x19), (4, .int (i6 + 1))]) [0, 1, 2, 3, 4] rfl ?_
        refine g_goto (tgt := 11) dX0_rawCost_48 (by decide) ?_
        refine g_pick (lv' := [(0, .ref (uk_ad G kb)), (1, .int m), (2, .ref (uk_ad G 57)), (3, .int x19), (4, .int (i6 + 1))]) [0, 1, 2, 3, 4] rfl ?_
        exact ihi6 (by first | lia | grind) x19 
  refine g_pick (lv' := [(0, .ref (uk_ad G kb)), (1, .int m), (2, .ref (uk_ad G 57)), (3, .int 0), (4, .int 0)]) [0, 1, 2, 3, 4] rfl ?_
  exact L11_3 0 (by first | decide | lia | grind) (by first | decide | lia | grind) 0 
abbrev q_X1_putWaiting (u : uk_Mem) (t : Int32) (r : Option Value) (u' : uk_Mem) : Prop := (r = none) ∧ (iv u' ∧ fr 41 46 u u')
set_option maxHeartbeats 4000000 in
set_option maxRecDepth 20000 in
theorem c_X1_putWaiting {G : uk_D} (hs : uk_Sep G) {u : uk_Mem} (hu : iv u) (t : Int32) (p0 : 0 ≤ t) (p1 : t ≤ 7) (d : Nat) : uk_Meth G d mX1_putWaiting [.ref (uk_ad G 41), .int t] u (q_X1_putWaiting u t) := by
  refine uk_Meth.of hs (by decide) (Nat.le_of_ble_eq_true rfl) (fun X => ?_)
  have f0 : fr 41 46 u u := fr_rf
  refine g_aload_n dX1_putWaiting_0 rfl ?_
  refine f_X1_31 rfl rfl dX1_putWaiting_1 ?_
  refine g_topi (fun x1 ex1 => ?_)
  have rx1 : 0 ≤ x1 ∧ x1 ≤ 9 := by rw [ex1]; exact iv_at hu _ _ rfl
  have s2 : u.1 41 6 = x1 := ex1.symm
  refine g_aload_n dX1_putWaiting_4 rfl ?_
  refine f_X1_28 rfl rfl dX1_putWaiting_5 ?_
  refine g_alen8 (v := 9) rfl rfl rfl dX1_putWaiting_8 ?_
  refine g_icmp_ge (tgt := 32) dX1_putWaiting_9 (by decide) (fun c3 => ?_) (fun c3 => ?_)
  · refine g_aload_n dX1_putWaiting_32 rfl ?_
    refine f_X1_22 rfl rfl dX1_putWaiting_33 ?_
    refine g_iload_n dX1_putWaiting_36 rfl ?_
    have v4 : vp_in t 8 := uk_vin 8 rfl (by first | decide | lia | grind) (by first | decide | lia | grind)
    refine g_iald rfl rfl v4 dX1_putWaiting_37 ?_
    refine g_topi (fun x5 ex5 => ?_)
    refine g_bipush (v := (-4)) dX1_putWaiting_38 (by decide) ?_
    refine g_icmp_ne (tgt := 53) dX1_putWaiting_40 (by decide) (fun c6 => ?_) (fun c6 => ?_)
    · exact g_vret dX1_putWaiting_53 rfl ⟨rfl, hu, f0⟩
    · refine g_aload_n dX1_putWaiting_43 rfl ?_
      refine f_X1_22 rfl rfl dX1_putWaiting_44 ?_
      refine g_iload_n dX1_putWaiting_47 rfl ?_
      refine g_aload_n dX1_putWaiting_48 rfl ?_
      refine f_X1_19 rfl rfl dX1_putWaiting_49 ?_
      refine g_topi (fun x7 ex7 => ?_)
      have s8 : u.1 41 2 = x7 := ex7.symm
      have v9 : vp_in t 8 := uk_vin 8 rfl (by first | decide | lia | grind) (by first | decide | lia | grind)
      have b10 := uk_cl v9
      refine g_iast rfl rfl v9 dX1_putWaiting_52 ?_
      refine g_mem (fun u11 eu11 => ?_)
      have hu11 : iv u11 := by rw [eu11]; exact iv_upF hu (uk_pick1 _ (by omega))
      have fu11 : fr 41 46 u u11 := by rw [eu11]; exact fr_up f0 (by omega) (by omega)
      exact g_vret dX1_putWaiting_53 rfl ⟨rfl, hu11, fu11⟩
  · refine g_aload_n dX1_putWaiting_12 rfl ?_
    refine f_X1_28 rfl rfl dX1_putWaiting_13 ?_
    refine g_aload_n dX1_putWaiting_16 rfl ?_
    refine f_X1_31 rfl rfl dX1_putWaiting_17 ?_
    refine g_topi (fun x12 ex12 => ?_)
    have rx12 : 0 ≤ x12 ∧ x12 ≤ 9 := by rw [ex12]; exact iv_at hu _ _ rfl
    have qx12 : x12 = x1 := by rw [ex12]; exact s2
    refine g_iload_n dX1_putWaiting_20 rfl ?_
    have v13 : vp_in x12 9 := uk_vin 9 rfl (by first | decide | lia | grind) (by first | decide | lia | grind)
    have b14 := uk_cl v13
    refine g_iast rfl rfl v13 dX1_putWaiting_21 ?_
    refine g_mem (fun u15 eu15 => ?_)
    have hu15 : iv u15 := by rw [eu15]; exact iv_up hu (uk_pick1 _ (by omega)) (by first | lia | grind) (by first | lia | grind)
    have fu15 : fr 41 46 u u15 := by rw [eu15]; exact fr_up f0 (by omega) (by omega)
    refine g_aload_n dX1_putWaiting_22 rfl ?_
    refine g_dup dX1_putWaiting_23 rfl ?_
    refine f_X1_31 rfl rfl dX1_putWaiting_24 ?_
    refine g_topi (fun x16 ex16 => ?_)
    have rx16 : 0 ≤ x16 ∧ x16 ≤ 9 := by rw [ex16]; exact iv_at hu15 _ _ rfl
    have qx16 : x16 = x1 := by rw [ex16]; simp [eu15, uk_up_at, s2]
    refine g_iconst (v := 1) dX1_putWaiting_27 (by decide) ?_
    refine g_iadd dX1_putWaiting_28 ?_
    refine g_topi (fun x17 ex17 => ?_)
    refine p_X1_31 rfl rfl dX1_putWaiting_29 ?_
    refine g_mem (fun u18 eu18 => ?_)
    have hu18 : iv u18 := by rw [eu18]; exact iv_up hu15 rfl (by first | lia | grind) (by first | lia | grind)
    have fu18 : fr 41 46 u u18 := by rw [eu18]; exact fr_up fu15 (by omega) (by omega)
    have s19 : u18.1 41 6 = x17 := by rw [eu18, uk_up_at]; exact if_pos ⟨rfl, rfl⟩
    refine g_aload_n dX1_putWaiting_32 rfl ?_
    refine f_X1_22 rfl rfl dX1_putWaiting_33 ?_
    refine g_iload_n dX1_putWaiting_36 rfl ?_
    have v20 : vp_in t 8 := uk_vin 8 rfl (by first | decide | lia | grind) (by first | decide | lia | grind)
    refine g_iald rfl rfl v20 dX1_putWaiting_37 ?_
    refine g_topi (fun x21 ex21 => ?_)
    refine g_bipush (v := (-4)) dX1_putWaiting_38 (by decide) ?_
    refine g_icmp_ne (tgt := 53) dX1_putWaiting_40 (by decide) (fun c22 => ?_) (fun c22 => ?_)
    · exact g_vret dX1_putWaiting_53 rfl ⟨rfl, hu18, fu18⟩
    · refine g_aload_n dX1_putWaiting_43 rfl ?_
      refine f_X1_22 rfl rfl dX1_putWaiting_44 ?_
      refine g_iload_n dX1_putWaiting_47 rfl ?_
      refine g_aload_n dX1_putWaiting_48 rfl ?_
      refine f_X1_19 rfl rfl dX1_putWaiting_49 ?_
      refine g_topi (fun x23 ex23 => ?_)
      have s24 : u18.1 41 2 = x23 := ex23.symm
      have v25 : vp_in t 8 := uk_vin 8 rfl (by first | decide | lia | grind) (by first | decide | lia | grind)
      have b26 := uk_cl v25
      refine g_iast rfl rfl v25 dX1_putWaiting_52 ?_
      refine g_mem (fun u27 eu27 => ?_)
      have hu27 : iv u27 := by rw [eu27]; exact iv_upF hu18 (uk_pick1 _ (by omega))
      have fu27 : fr 41 46 u u27 := by rw [eu27]; exact fr_up fu18 (by omega) (by omega)
      exact g_vret dX1_putWaiting_53 rfl ⟨rfl, hu27, fu27⟩
abbrev q_X1_takeWaiting (u : uk_Mem)  (r : Option Value) (u' : uk_Mem) : Prop := (∃ x : Int32, r = some (.int x) ∧ 0 ≤ x ∧ x ≤ 7) ∧ (iv u' ∧ fr 41 46 u u')
set_option maxHeartbeats 4000000 in
set_option maxRecDepth 20000 in
theorem c_X1_takeWaiting {G : uk_D} (hs : uk_Sep G) {u : uk_Mem} (hu : iv u) (p0 : 1 ≤ u.1 41 6) (d : Nat) : uk_Meth G d mX1_takeWaiting [.ref (uk_ad G 41)] u (q_X1_takeWaiting u) := by
  refine uk_Meth.of hs (by decide) (Nat.le_of_ble_eq_true rfl) (fun X => ?_)
  have f0 : fr 41 46 u u := fr_rf
  refine g_aload_n dX1_takeWaiting_0 rfl ?_
  refine g_dup dX1_takeWaiting_1 rfl ?_
  refine f_X1_31 rfl rfl dX1_takeWaiting_2 ?_
  refine g_topi (fun x1 ex1 => ?_)
  have rx1 : 0 ≤ x1 ∧ x1 ≤ 9 := by rw [ex1]; exact iv_at hu _ _ rfl
  have s2 : u.1 41 6 = x1 := ex1.symm
  refine g_iconst (v := 1) dX1_takeWaiting_5 (by decide) ?_
  refine g_isub dX1_takeWaiting_6 ?_
  refine g_topi (fun x3 ex3 => ?_)
  refine p_X1_31 rfl rfl dX1_takeWaiting_7 ?_
  refine g_mem (fun u4 eu4 => ?_)
  have hu4 : iv u4 := by rw [eu4]; exact iv_up hu rfl (by first | lia | grind) (by first | lia | grind)
  have fu4 : fr 41 46 u u4 := by rw [eu4]; exact fr_up f0 (by omega) (by omega)
  have s5 : u4.1 41 6 = x3 := by rw [eu4, uk_up_at]; exact if_pos ⟨rfl, rfl⟩
  refine g_aload_n dX1_takeWaiting_10 rfl ?_
  refine f_X1_28 rfl rfl dX1_takeWaiting_11 ?_
  refine g_aload_n dX1_takeWaiting_14 rfl ?_
  refine f_X1_31 rfl rfl dX1_takeWaiting_15 ?_
  refine g_topi (fun x6 ex6 => ?_)
  have rx6 : 0 ≤ x6 ∧ x6 ≤ 9 := by rw [ex6]; exact iv_at hu4 _ _ rfl
  have qx6 : x6 = x3 := by rw [ex6]; exact s5
  have v7 : vp_in x6 9 := uk_vin 9 rfl (by first | decide | lia | grind) (by first | decide | lia | grind)
  refine g_iald rfl rfl v7 dX1_takeWaiting_18 ?_
  refine g_topi (fun x8 ex8 => ?_)
  have bx8 := uk_cl v7
  have rx8 : 0 ≤ x8 ∧ x8 ≤ 7 := by rw [ex8]; exact iv_at hu4 _ _ (uk_pick1 _ (by omega))
  exact g_iret (ty := .int) dX1_takeWaiting_19 rfl rfl ⟨⟨_, rfl, by first | trivial | lia | grind⟩, hu4, fu4⟩
abbrev q_X1_lieDown (u : uk_Mem) (t : Int32) (r : Option Value) (u' : uk_Mem) : Prop := (r = none) ∧ (iv u' ∧ fr 41 46 u u')
set_option maxHeartbeats 4000000 in
set_option maxRecDepth 20000 in
theorem c_X1_lieDown {G : uk_D} (hs : uk_Sep G) {u : uk_Mem} (hu : iv u) (t : Int32) (p0 : 0 ≤ t) (p1 : t ≤ 7) (d : Nat) : uk_Meth G d mX1_lieDown [.ref (uk_ad G 41), .int t] u (q_X1_lieDown u t) := by
  refine uk_Meth.of hs (by decide) (Nat.le_of_ble_eq_true rfl) (fun X => ?_)
  have f0 : fr 41 46 u u := fr_rf
  refine g_aload_n dX1_lieDown_0 rfl ?_
  refine f_X1_15 rfl rfl dX1_lieDown_1 ?_
  refine g_topi (fun x1 ex1 => ?_)
  have rx1 : 0 ≤ x1 ∧ x1 ≤ 128 := by rw [ex1]; exact iv_at hu _ _ rfl
  have s2 : u.1 41 1 = x1 := ex1.symm
  refine g_sipush (v := 128) dX1_lieDown_4 (by decide) ?_
  refine g_icmp_ge (tgt := 30) dX1_lieDown_7 (by decide) (fun c3 => ?_) (fun c3 => ?_)
  · exact g_vret dX1_lieDown_30 rfl ⟨rfl, hu, f0⟩
  · refine g_aload_n dX1_lieDown_10 rfl ?_
    refine f_X1_9 rfl rfl dX1_lieDown_11 ?_
    refine g_aload_n dX1_lieDown_14 rfl ?_
    refine f_X1_15 rfl rfl dX1_lieDown_15 ?_
    refine g_topi (fun x4 ex4 => ?_)
    have rx4 : 0 ≤ x4 ∧ x4 ≤ 128 := by rw [ex4]; exact iv_at hu _ _ rfl
    have qx4 : x4 = x1 := by rw [ex4]; exact s2
    refine g_iload_n dX1_lieDown_18 rfl ?_
    have v5 : vp_in x4 128 := uk_vin 128 rfl (by first | decide | lia | grind) (by first | decide | lia | grind)
    have b6 := uk_cl v5
    refine g_iast rfl rfl v5 dX1_lieDown_19 ?_
    refine g_mem (fun u7 eu7 => ?_)
    have hu7 : iv u7 := by rw [eu7]; exact iv_up hu (uk_pick1 _ (by omega)) (by first | lia | grind) (by first | lia | grind)
    have fu7 : fr 41 46 u u7 := by rw [eu7]; exact fr_up f0 (by omega) (by omega)
    refine g_aload_n dX1_lieDown_20 rfl ?_
    refine g_dup dX1_lieDown_21 rfl ?_
    refine f_X1_15 rfl rfl dX1_lieDown_22 ?_
    refine g_topi (fun x8 ex8 => ?_)
    have rx8 : 0 ≤ x8 ∧ x8 ≤ 128 := by rw [ex8]; exact iv_at hu7 _ _ rfl
    have qx8 : x8 = x1 := by rw [ex8]; simp [eu7, uk_up_at, s2]
    refine g_iconst (v := 1) dX1_lieDown_25 (by decide) ?_
    refine g_iadd dX1_lieDown_26 ?_
    refine g_topi (fun x9 ex9 => ?_)
    refine p_X1_15 rfl rfl dX1_lieDown_27 ?_
    refine g_mem (fun u10 eu10 => ?_)
    have hu10 : iv u10 := by rw [eu10]; exact iv_up hu7 rfl (by first | lia | grind) (by first | lia | grind)
    have fu10 : fr 41 46 u u10 := by rw [eu10]; exact fr_up fu7 (by omega) (by omega)
    have s11 : u10.1 41 1 = x9 := by rw [eu10, uk_up_at]; exact if_pos ⟨rfl, rfl⟩
    exact g_vret dX1_lieDown_30 rfl ⟨rfl, hu10, fu10⟩
abbrev q_X1_start (u : uk_Mem) (m : Int32) (r : Option Value) (u' : uk_Mem) : Prop := (r = none) ∧ (iv u' ∧ fr 41 46 u u')
set_option maxHeartbeats 4000000 in
set_option maxRecDepth 20000 in
theorem c_X1_start {G : uk_D} (hs : uk_Sep G) {u : uk_Mem} (hu : iv u) (m : Int32) (p0 : 0 ≤ m) (p1 : m ≤ 7) (d : Nat) : uk_Meth G (d + 1) mX1_start [.ref (uk_ad G 41), .int m] u (q_X1_start u m) := by
  refine uk_Meth.of hs (by decide) (Nat.le_of_ble_eq_true rfl) (fun X => ?_)
  have f0 : fr 41 46 u u := fr_rf
  refine g_aload_n dX1_start_0 rfl ?_
  refine g_iconst (v := 0) dX1_start_1 (by decide) ?_
  refine p_X1_15 rfl rfl dX1_start_2 ?_
  refine g_mem (fun u1 eu1 => ?_)
  have hu1 : iv u1 := by rw [eu1]; exact iv_up hu rfl (by first | lia | grind) (by first | lia | grind)
  have fu1 : fr 41 46 u u1 := by rw [eu1]; exact fr_up f0 (by omega) (by omega)
  have s2 : u1.1 41 1 = 0 := by rw [eu1, uk_up_at]; exact if_pos ⟨rfl, rfl⟩
  refine g_aload_n dX1_start_5 rfl ?_
  refine g_iconst (v := 0) dX1_start_6 (by decide) ?_
  refine p_X1_19 rfl rfl dX1_start_7 ?_
  refine g_mem (fun u3 eu3 => ?_)
  have hu3 : iv u3 := by rw [eu3]; exact iv_upF hu1 rfl
  have fu3 : fr 41 46 u u3 := by rw [eu3]; exact fr_up fu1 (by omega) (by omega)
  have s4 : u3.1 41 2 = 0 := by rw [eu3, uk_up_at]; exact if_pos ⟨rfl, rfl⟩
  refine g_aload_n dX1_start_10 rfl ?_
  refine g_iconst (v := 0) dX1_start_11 (by decide) ?_
  refine p_X1_31 rfl rfl dX1_start_12 ?_
  refine g_mem (fun u5 eu5 => ?_)
  have hu5 : iv u5 := by rw [eu5]; exact iv_up hu3 rfl (by first | lia | grind) (by first | lia | grind)
  have fu5 : fr 41 46 u u5 := by rw [eu5]; exact fr_up fu3 (by omega) (by omega)
  have s6 : u5.1 41 6 = 0 := by rw [eu5, uk_up_at]; exact if_pos ⟨rfl, rfl⟩
  refine g_iconst (v := 0) dX1_start_15 (by decide) ?_
  refine g_istore_n dX1_start_16 (by decide) ?_
  refine g_pick (lv' := [(0, .ref (uk_ad G 41)), (1, .int m), (2, .int 0)]) [0, 1, 2] rfl ?_
  have L17_6 : ∀ i8 : Int32, 0 ≤ i8 → i8 ≤ 8 → ∀ (u9 : uk_Mem), iv u9 → fr 41 46 u u9 → uk_G G X mX1_start (d + 1) (q_X1_start u m) 17 [(0, .ref (uk_ad G 41)), (1, .int m), (2, .int i8)] [] u9 := by
    refine uk_upl 8 ?_
    intro i8 ai8 bi8 ihi8  u9 hu9 fu9
    refine g_iload_n dX1_start_17 rfl ?_
    refine g_bipush (v := 8) dX1_start_18 (by decide) ?_
    refine g_icmp_ge (tgt := 44) dX1_start_20 (by decide) (fun c10 => ?_) (fun c10 => ?_)
    · refine g_aload_n dX1_start_44 rfl ?_
      refine g_iload_n dX1_start_45 rfl ?_
      refine cl_X1_54 (c := 41) (As := [.int m]) rfl (c_X1_putWaiting (G := G) hs hu9  m (by first | trivial | decide | lia | grind) (by first | trivial | decide | lia | grind) (d)) rfl (by omega) rfl rfl (Nat.le_of_ble_eq_true rfl) dX1_start_46 (fun r11 u12 q13 => ?_)
      obtain ⟨rfl, mq13⟩ := q13
      obtain ⟨hu12, gu12⟩ := mq13
      have fu12 : fr 41 46 u u12 := fr_tr fu9 gu12 (by omega) (by omega)
      exact g_vret dX1_start_49 rfl ⟨rfl, hu12, fu12⟩
    · refine g_aload_n dX1_start_23 rfl ?_
      refine f_X1_22 rfl rfl dX1_start_24 ?_
      refine g_iload_n dX1_start_27 rfl ?_
      refine g_bipush (v := (-4)) dX1_start_28 (by decide) ?_
      have v14 : vp_in i8 8 := uk_vin 8 rfl (by first | decide | lia | grind) (by first | decide | lia | grind)
      have b15 := uk_cl v14
      refine g_iast rfl rfl v14 dX1_start_30 ?_
      refine g_mem (fun u16 eu16 => ?_)
      have hu16 : iv u16 := by rw [eu16]; exact iv_upF hu9 (uk_pick1 _ (by omega))
      have fu16 : fr 41 46 u u16 := by rw [eu16]; exact fr_up fu9 (by omega) (by omega)
      refine g_aload_n dX1_start_31 rfl ?_
      refine f_X1_25 rfl rfl dX1_start_32 ?_
      refine g_iload_n dX1_start_35 rfl ?_
      refine g_iconst (v := 0) dX1_start_36 (by decide) ?_
      have v17 : vp_in i8 8 := uk_vin 8 rfl (by first | decide | lia | grind) (by first | decide | lia | grind)
      have b18 := uk_cl v17
      refine g_iast rfl rfl v17 dX1_start_37 ?_
      refine g_mem (fun u19 eu19 => ?_)
      have hu19 : iv u19 := by rw [eu19]; exact iv_upF hu16 (uk_pick1 _ (by omega))
      have fu19 : fr 41 46 u u19 := by rw [eu19]; exact fr_up fu16 (by omega) (by omega)
      refine g_iinc (v := i8 + 1) dX1_start_38 rfl rfl (by decide) ?_
      refine g_pick (lv' := [(0, .ref (uk_ad G 41)), (1, .int m), (2, .int (i8 + 1))]) [0, 1, 2] rfl ?_
      refine g_goto (tgt := 17) dX1_start_41 (by decide) ?_
      refine g_pick (lv' := [(0, .ref (uk_ad G 41)), (1, .int m), (2, .int (i8 + 1))]) [0, 1, 2] rfl ?_
      exact ihi8 (by first | lia | grind)  u19 hu19 fu19 
  refine g_pick (lv' := [(0, .ref (uk_ad G 41)), (1, .int m), (2, .int 0)]) [0, 1, 2] rfl ?_
  exact L17_6 0 (by first | decide | lia | grind) (by first | decide | lia | grind)  u5 hu5 fu5 
abbrev q_X1_part (u : uk_Mem) (t : Int32) (k : Int32) (r : Option Value) (u' : uk_Mem) : Prop := (r = none) ∧ (iv u' ∧ fr 41 46 u u')
set_option maxHeartbeats 4000000 in
set_option maxRecDepth 20000 in
theorem c_X1_part {G : uk_D} (hs : uk_Sep G) {u : uk_Mem} (hu : iv u) (t : Int32) (k : Int32) (p0 : 0 ≤ t) (p1 : t ≤ 7) (d : Nat) : uk_Meth G (d + 1) mX1_part [.ref (uk_ad G 41), .ref (uk_ad G 13), .int t, .int k] u (q_X1_part u t k) := by
  refine uk_Meth.of hs (by decide) (Nat.le_of_ble_eq_true rfl) (fun X => ?_)
  have f0 : fr 41 46 u u := fr_rf
  refine g_aload_n dX1_part_0 rfl ?_
  refine g_dup dX1_part_1 rfl ?_
  refine f_X1_19 rfl rfl dX1_part_2 ?_
  refine g_topi (fun x1 ex1 => ?_)
  have s2 : u.1 41 2 = x1 := ex1.symm
  refine g_iconst (v := 1) dX1_part_5 (by decide) ?_
  refine g_iadd dX1_part_6 ?_
  refine g_topi (fun x3 ex3 => ?_)
  refine p_X1_19 rfl rfl dX1_part_7 ?_
  refine g_mem (fun u4 eu4 => ?_)
  have hu4 : iv u4 := by rw [eu4]; exact iv_upF hu rfl
  have fu4 : fr 41 46 u u4 := by rw [eu4]; exact fr_up f0 (by omega) (by omega)
  have s5 : u4.1 41 2 = x3 := by rw [eu4, uk_up_at]; exact if_pos ⟨rfl, rfl⟩
  refine g_iload_n dX1_part_10 rfl ?_
  refine g_aload_n dX1_part_11 rfl ?_
  refine f_X1_25 rfl rfl dX1_part_12 ?_
  refine g_iload_n dX1_part_15 rfl ?_
  have v6 : vp_in t 8 := uk_vin 8 rfl (by first | decide | lia | grind) (by first | decide | lia | grind)
  refine g_iald rfl rfl v6 dX1_part_16 ?_
  refine g_topi (fun x7 ex7 => ?_)
  refine cl_X1_57 (As := [.int k, .int x7]) rfl (c_X0_givesB (G := G) hs hu4  k x7  (d)) rfl (by omega) rfl (Nat.le_of_ble_eq_true rfl) dX1_part_17 (fun r8 u9 q10 => ?_)
  obtain ⟨⟨x11, rfl, tx11, nx11, zx11⟩, mq10⟩ := q10
  rw [mq10]
  refine g_if_eq (tgt := 33) dX1_part_20 (by decide) (fun c12 => ?_) (fun c12 => ?_)
  · have zc12 := zx11 c12
    refine g_aload_n dX1_part_33 rfl ?_
    refine g_aload_n dX1_part_34 rfl ?_
    refine f_X1_64 rfl rfl dX1_part_35 ?_
    refine g_iload_n dX1_part_38 rfl ?_
    have v13 : vp_in t 8 := uk_vin 8 rfl (by first | decide | lia | grind) (by first | decide | lia | grind)
    refine g_iald rfl rfl v13 dX1_part_39 ?_
    refine g_topi (fun x14 ex14 => ?_)
    have bx14 := uk_cl v13
    have rx14 : 0 ≤ x14 ∧ x14 ≤ 7 := by rw [ex14]; exact iv_at hu4 _ _ (uk_pick1 _ (by omega))
    refine cl_X1_54 (c := 41) (As := [.int x14]) rfl (c_X1_putWaiting (G := G) hs hu4  x14 (by first | trivial | decide | lia | grind) (by first | trivial | decide | lia | grind) (d)) rfl (by omega) rfl rfl (Nat.le_of_ble_eq_true rfl) dX1_part_40 (fun r15 u16 q17 => ?_)
    obtain ⟨rfl, mq17⟩ := q17
    obtain ⟨hu16, gu16⟩ := mq17
    have fu16 : fr 41 46 u u16 := fr_tr fu4 gu16 (by omega) (by omega)
    refine g_iload_n dX1_part_43 rfl ?_
    refine g_iconst (v := 3) dX1_part_44 (by decide) ?_
    refine g_icmp_ne (tgt := 62) dX1_part_45 (by decide) (fun c18 => ?_) (fun c18 => ?_)
    · exact g_vret dX1_part_62 rfl ⟨rfl, hu16, fu16⟩
    · refine g_aload_n dX1_part_48 rfl ?_
      refine f_X1_25 rfl rfl dX1_part_49 ?_
      refine g_iload_n dX1_part_52 rfl ?_
      refine g_iconst (v := 1) dX1_part_53 (by decide) ?_
      refine g_aload_n dX1_part_54 rfl ?_
      refine f_X1_25 rfl rfl dX1_part_55 ?_
      refine g_iload_n dX1_part_58 rfl ?_
      have v19 : vp_in t 8 := uk_vin 8 rfl (by first | decide | lia | grind) (by first | decide | lia | grind)
      refine g_iald rfl rfl v19 dX1_part_59 ?_
      refine g_topi (fun x20 ex20 => ?_)
      refine g_isub dX1_part_60 ?_
      refine g_topi (fun x21 ex21 => ?_)
      have v22 : vp_in t 8 := uk_vin 8 rfl (by first | decide | lia | grind) (by first | decide | lia | grind)
      have b23 := uk_cl v22
      refine g_iast rfl rfl v22 dX1_part_61 ?_
      refine g_mem (fun u24 eu24 => ?_)
      have hu24 : iv u24 := by rw [eu24]; exact iv_upF hu16 (uk_pick1 _ (by omega))
      have fu24 : fr 41 46 u u24 := by rw [eu24]; exact fr_up fu16 (by omega) (by omega)
      exact g_vret dX1_part_62 rfl ⟨rfl, hu24, fu24⟩
  · have zc12 := nx11 c12
    refine g_aload_n dX1_part_23 rfl ?_
    refine g_aload_n dX1_part_24 rfl ?_
    refine f_X1_61 rfl rfl dX1_part_25 ?_
    refine g_iload_n dX1_part_28 rfl ?_
    have v25 : vp_in t 8 := uk_vin 8 rfl (by first | decide | lia | grind) (by first | decide | lia | grind)
    refine g_iald rfl rfl v25 dX1_part_29 ?_
    refine g_topi (fun x26 ex26 => ?_)
    have bx26 := uk_cl v25
    have rx26 : 0 ≤ x26 ∧ x26 ≤ 7 := by rw [ex26]; exact iv_at hu4 _ _ (uk_pick1 _ (by omega))
    refine cl_X1_54 (c := 41) (As := [.int x26]) rfl (c_X1_putWaiting (G := G) hs hu4  x26 (by first | trivial | decide | lia | grind) (by first | trivial | decide | lia | grind) (d)) rfl (by omega) rfl rfl (Nat.le_of_ble_eq_true rfl) dX1_part_30 (fun r27 u28 q29 => ?_)
    obtain ⟨rfl, mq29⟩ := q29
    obtain ⟨hu28, gu28⟩ := mq29
    have fu28 : fr 41 46 u u28 := fr_tr fu4 gu28 (by omega) (by omega)
    refine g_aload_n dX1_part_33 rfl ?_
    refine g_aload_n dX1_part_34 rfl ?_
    refine f_X1_64 rfl rfl dX1_part_35 ?_
    refine g_iload_n dX1_part_38 rfl ?_
    have v30 : vp_in t 8 := uk_vin 8 rfl (by first | decide | lia | grind) (by first | decide | lia | grind)
    refine g_iald rfl rfl v30 dX1_part_39 ?_
    refine g_topi (fun x31 ex31 => ?_)
    have bx31 := uk_cl v30
    have rx31 : 0 ≤ x31 ∧ x31 ≤ 7 := by rw [ex31]; exact iv_at hu28 _ _ (uk_pick1 _ (by omega))
    refine cl_X1_54 (c := 41) (As := [.int x31]) rfl (c_X1_putWaiting (G := G) hs hu28  x31 (by first | trivial | decide | lia | grind) (by first | trivial | decide | lia | grind) (d)) rfl (by omega) rfl rfl (Nat.le_of_ble_eq_true rfl) dX1_part_40 (fun r32 u33 q34 => ?_)
    obtain ⟨rfl, mq34⟩ := q34
    obtain ⟨hu33, gu33⟩ := mq34
    have fu33 : fr 41 46 u u33 := fr_tr fu28 gu33 (by omega) (by omega)
    refine g_iload_n dX1_part_43 rfl ?_
    refine g_iconst (v := 3) dX1_part_44 (by decide) ?_
    refine g_icmp_ne (tgt := 62) dX1_part_45 (by decide) (fun c35 => ?_) (fun c35 => ?_)
    · exact g_vret dX1_part_62 rfl ⟨rfl, hu33, fu33⟩
    · refine g_aload_n dX1_part_48 rfl ?_
      refine f_X1_25 rfl rfl dX1_part_49 ?_
      refine g_iload_n dX1_part_52 rfl ?_
      refine g_iconst (v := 1) dX1_part_53 (by decide) ?_
      refine g_aload_n dX1_part_54 rfl ?_
      refine f_X1_25 rfl rfl dX1_part_55 ?_
      refine g_iload_n dX1_part_58 rfl ?_
      have v36 : vp_in t 8 := uk_vin 8 rfl (by first | decide | lia | grind) (by first | decide | lia | grind)
      refine g_iald rfl rfl v36 dX1_part_59 ?_
      refine g_topi (fun x37 ex37 => ?_)
      refine g_isub dX1_part_60 ?_
      refine g_topi (fun x38 ex38 => ?_)
      have v39 : vp_in t 8 := uk_vin 8 rfl (by first | decide | lia | grind) (by first | decide | lia | grind)
      have b40 := uk_cl v39
      refine g_iast rfl rfl v39 dX1_part_61 ?_
      refine g_mem (fun u41 eu41 => ?_)
      have hu41 : iv u41 := by rw [eu41]; exact iv_upF hu33 (uk_pick1 _ (by omega))
      have fu41 : fr 41 46 u u41 := by rw [eu41]; exact fr_up fu33 (by omega) (by omega)
      exact g_vret dX1_part_62 rfl ⟨rfl, hu41, fu41⟩
abbrev q_X1_grind (u : uk_Mem) (m : Int32) (n : Int32) (r : Option Value) (u' : uk_Mem) : Prop := (r = none) ∧ (iv u' ∧ fr 41 46 u u')
set_option maxHeartbeats 4000000 in
set_option maxRecDepth 20000 in
theorem c_X1_grind {G : uk_D} (hs : uk_Sep G) {u : uk_Mem} (hu : iv u) (m : Int32) (n : Int32) (p0 : 0 ≤ m) (p1 : m ≤ 7) (d : Nat) : uk_Meth G (d + 2) mX1_grind [.ref (uk_ad G 41), .ref (uk_ad G 13), .int m, .int n] u (q_X1_grind u m n) := by
  refine uk_Meth.of hs (by decide) (Nat.le_of_ble_eq_true rfl) (fun X => ?_)
  have f0 : fr 41 46 u u := fr_rf
  refine g_aload_n dX1_grind_0 rfl ?_
  refine g_iload_n dX1_grind_1 rfl ?_
  refine cl_X1_34 (c := 41) (As := [.int m]) rfl (c_X1_start (G := G) hs hu  m (by first | trivial | decide | lia | grind) (by first | trivial | decide | lia | grind) (d)) rfl (by omega) rfl rfl (Nat.le_of_ble_eq_true rfl) dX1_grind_2 (fun r1 u2 q3 => ?_)
  obtain ⟨rfl, mq3⟩ := q3
  obtain ⟨hu2, gu2⟩ := mq3
  have fu2 : fr 41 46 u u2 := fr_tr f0 gu2 (by omega) (by omega)
  refine g_iconst (v := 0) dX1_grind_5 (by decide) ?_
  refine g_istore dX1_grind_6 (by decide) ?_
  refine g_pick (lv' := [(0, .ref (uk_ad G 41)), (1, .ref (uk_ad G 13)), (2, .int m), (3, .int n), (4, .int 0)]) [0, 1, 2, 3, 4] rfl ?_
  have L8_3 : ∀ i5 : Int32, 0 ≤ i5 → i5 ≤ 255 → ∀ (u6 : uk_Mem), iv u6 → fr 41 46 u u6 → uk_G G X mX1_grind (d + 2) (q_X1_grind u m n) 8 [(0, .ref (uk_ad G 41)), (1, .ref (uk_ad G 13)), (2, .int m), (3, .int n), (4, .int i5)] [] u6 := by
    refine uk_upl 255 ?_
    intro i5 ai5 bi5 ihi5  u6 hu6 fu6
    refine g_iload dX1_grind_8 rfl ?_
    refine g_sipush (v := 255) dX1_grind_10 (by decide) ?_
    refine g_icmp_ge (tgt := 82) dX1_grind_13 (by decide) (fun c7 => ?_) (fun c7 => ?_)
    · refine g_aload_n dX1_grind_82 rfl ?_
      refine f_X1_31 rfl rfl dX1_grind_83 ?_
      refine g_topi (fun x8 ex8 => ?_)
      have rx8 : 0 ≤ x8 ∧ x8 ≤ 9 := by rw [ex8]; exact iv_at hu6 _ _ rfl
      have s9 : u6.1 41 6 = x8 := ex8.symm
      refine g_iconst (v := 1) dX1_grind_86 (by decide) ?_
      refine g_isub dX1_grind_87 ?_
      refine g_topi (fun x10 ex10 => ?_)
      refine g_istore dX1_grind_88 (by decide) ?_
      refine g_pick (lv' := [(0, .ref (uk_ad G 41)), (1, .ref (uk_ad G 13)), (2, .int m), (3, .int n), (4, .int x10)]) [0, 1, 2, 3, 4] rfl ?_
      have L90_10 : ∀ i12 : Int32, -1 ≤ i12 → ∀ (u13 : uk_Mem), iv u13 → fr 41 46 u u13 → i12 ≤ 8 → uk_G G X mX1_grind (d + 2) (q_X1_grind u m n) 90 [(0, .ref (uk_ad G 41)), (1, .ref (uk_ad G 13)), (2, .int m), (3, .int n), (4, .int i12)] [] u13 := by
        refine uk_dnl ?_
        intro i12 ai12 ihi12  u13 hu13 fu13 ji120
        refine g_iload dX1_grind_90 rfl ?_
        refine g_if_lt (tgt := 112) dX1_grind_92 (by decide) (fun c14 => ?_) (fun c14 => ?_)
        · exact g_vret dX1_grind_112 rfl ⟨rfl, hu13, fu13⟩
        · refine g_aload_n dX1_grind_95 rfl ?_
          refine g_aload_n dX1_grind_96 rfl ?_
          refine f_X1_28 rfl rfl dX1_grind_97 ?_
          refine g_iload dX1_grind_100 rfl ?_
          have v15 : vp_in i12 9 := uk_vin 9 rfl (by first | decide | lia | grind) (by first | decide | lia | grind)
          refine g_iald rfl rfl v15 dX1_grind_102 ?_
          refine g_topi (fun x16 ex16 => ?_)
          have bx16 := uk_cl v15
          have rx16 : 0 ≤ x16 ∧ x16 ≤ 7 := by rw [ex16]; exact iv_at hu13 _ _ (uk_pick1 _ (by omega))
          refine cl_X1_47 (c := 41) (As := [.int x16]) rfl (c_X1_lieDown (G := G) hs hu13  x16 (by first | trivial | decide | lia | grind) (by first | trivial | decide | lia | grind) (d + 1)) rfl (by omega) rfl rfl (Nat.le_of_ble_eq_true rfl) dX1_grind_103 (fun r17 u18 q19 => ?_)
          obtain ⟨rfl, mq19⟩ := q19
          obtain ⟨hu18, gu18⟩ := mq19
          have fu18 : fr 41 46 u u18 := fr_tr fu13 gu18 (by omega) (by omega)
          refine g_iinc (v := i12 - 1) dX1_grind_106 rfl (uk_m1 _) (by decide) ?_
          refine g_pick (lv' := [(0, .ref (uk_ad G 41)), (1, .ref (uk_ad G 13)), (2, .int m), (3, .int n), (4, .int (i12 - 1))]) [0, 1, 2, 3, 4] rfl ?_
          refine g_goto (tgt := 90) dX1_grind_109 (by decide) ?_
          refine g_pick (lv' := [(0, .ref (uk_ad G 41)), (1, .ref (uk_ad G 13)), (2, .int m), (3, .int n), (4, .int (i12 - 1))]) [0, 1, 2, 3, 4] rfl ?_
          exact ihi12 (by first | lia | grind)  u18 hu18 fu18 (by first | trivial | lia | grind)
      refine g_pick (lv' := [(0, .ref (uk_ad G 41)), (1, .ref (uk_ad G 13)), (2, .int m), (3, .int n), (4, .int x10)]) [0, 1, 2, 3, 4] rfl ?_
      exact L90_10 x10 (by first | decide | lia | grind)  u6 hu6 fu6 (by first | trivial | lia | grind)
    · refine g_aload_n dX1_grind_16 rfl ?_
      refine f_X1_19 rfl rfl dX1_grind_17 ?_
      refine g_topi (fun x20 ex20 => ?_)
      have s21 : u6.1 41 2 = x20 := ex20.symm
      refine g_iload_n dX1_grind_20 rfl ?_
      refine g_icmp_ge (tgt := 82) dX1_grind_21 (by decide) (fun c22 => ?_) (fun c22 => ?_)
      · refine g_aload_n dX1_grind_82 rfl ?_
        refine f_X1_31 rfl rfl dX1_grind_83 ?_
        refine g_topi (fun x23 ex23 => ?_)
        have rx23 : 0 ≤ x23 ∧ x23 ≤ 9 := by rw [ex23]; exact iv_at hu6 _ _ rfl
        have s24 : u6.1 41 6 = x23 := ex23.symm
        refine g_iconst (v := 1) dX1_grind_86 (by decide) ?_
        refine g_isub dX1_grind_87 ?_
        refine g_topi (fun x25 ex25 => ?_)
        refine g_istore dX1_grind_88 (by decide) ?_
        refine g_pick (lv' := [(0, .ref (uk_ad G 41)), (1, .ref (uk_ad G 13)), (2, .int m), (3, .int n), (4, .int x25)]) [0, 1, 2, 3, 4] rfl ?_
        have L90_25 : ∀ i27 : Int32, -1 ≤ i27 → ∀ (u28 : uk_Mem), iv u28 → fr 41 46 u u28 → i27 ≤ 8 → uk_G G X mX1_grind (d + 2) (q_X1_grind u m n) 90 [(0, .ref (uk_ad G 41)), (1, .ref (uk_ad G 13)), (2, .int m), (3, .int n), (4, .int i27)] [] u28 := by
          refine uk_dnl ?_
          intro i27 ai27 ihi27  u28 hu28 fu28 ji270
          refine g_iload dX1_grind_90 rfl ?_
          refine g_if_lt (tgt := 112) dX1_grind_92 (by decide) (fun c29 => ?_) (fun c29 => ?_)
          · exact g_vret dX1_grind_112 rfl ⟨rfl, hu28, fu28⟩
          · refine g_aload_n dX1_grind_95 rfl ?_
            refine g_aload_n dX1_grind_96 rfl ?_
            refine f_X1_28 rfl rfl dX1_grind_97 ?_
            refine g_iload dX1_grind_100 rfl ?_
            have v30 : vp_in i27 9 := uk_vin 9 rfl (by first | decide | lia | grind) (by first | decide | lia | grind)
            refine g_iald rfl rfl v30 dX1_grind_102 ?_
            refine g_topi (fun x31 ex31 => ?_)
            have bx31 := uk_cl v30
            have rx31 : 0 ≤ x31 ∧ x31 ≤ 7 := by rw [ex31]; exact iv_at hu28 _ _ (uk_pick1 _ (by omega))
            refine cl_X1_47 (c := 41) (As := [.int x31]) rfl (c_X1_lieDown (G := G) hs hu28  x31 (by first | trivial | decide | lia | grind) (by first | trivial | decide | lia | grind) (d + 1)) rfl (by omega) rfl rfl (Nat.le_of_ble_eq_true rfl) dX1_grind_103 (fun r32 u33 q34 => ?_)
            obtain ⟨rfl, mq34⟩ := q34
            obtain ⟨hu33, gu33⟩ := mq34
            have fu33 : fr 41 46 u u33 := fr_tr fu28 gu33 (by omega) (by omega)
            refine g_iinc (v := i27 - 1) dX1_grind_106 rfl (uk_m1 _) (by decide) ?_
            refine g_pick (lv' := [(0, .ref (uk_ad G 41)), (1, .ref (uk_ad G 13)), (2, .int m), (3, .int n), (4, .int (i27 - 1))]) [0, 1, 2, 3, 4] rfl ?_
            refine g_goto (tgt := 90) dX1_grind_109 (by decide) ?_
            refine g_pick (lv' := [(0, .ref (uk_ad G 41)), (1, .ref (uk_ad G 13)), (2, .int m), (3, .int n), (4, .int (i27 - 1))]) [0, 1, 2, 3, 4] rfl ?_
            exact ihi27 (by first | lia | grind)  u33 hu33 fu33 (by first | trivial | lia | grind)
        refine g_pick (lv' := [(0, .ref (uk_ad G 41)), (1, .ref (uk_ad G 13)), (2, .int m), (3, .int n), (4, .int x25)]) [0, 1, 2, 3, 4] rfl ?_
        exact L90_25 x25 (by first | decide | lia | grind)  u6 hu6 fu6 (by first | trivial | lia | grind)
      · refine g_aload_n dX1_grind_24 rfl ?_
        refine f_X1_31 rfl rfl dX1_grind_25 ?_
        refine g_topi (fun x35 ex35 => ?_)
        have rx35 : 0 ≤ x35 ∧ x35 ≤ 9 := by rw [ex35]; exact iv_at hu6 _ _ rfl
        have s36 : u6.1 41 6 = x35 := ex35.symm
        refine g_if_le (tgt := 82) dX1_grind_28 (by decide) (fun c37 => ?_) (fun c37 => ?_)
        · refine g_aload_n dX1_grind_82 rfl ?_
          refine f_X1_31 rfl rfl dX1_grind_83 ?_
          refine g_topi (fun x38 ex38 => ?_)
          have rx38 : 0 ≤ x38 ∧ x38 ≤ 9 := by rw [ex38]; exact iv_at hu6 _ _ rfl
          have qx38 : x38 = x35 := by rw [ex38]; exact s36
          refine g_iconst (v := 1) dX1_grind_86 (by decide) ?_
          refine g_isub dX1_grind_87 ?_
          refine g_topi (fun x39 ex39 => ?_)
          refine g_istore dX1_grind_88 (by decide) ?_
          refine g_pick (lv' := [(0, .ref (uk_ad G 41)), (1, .ref (uk_ad G 13)), (2, .int m), (3, .int n), (4, .int x39)]) [0, 1, 2, 3, 4] rfl ?_
          have L90_39 : ∀ i41 : Int32, -1 ≤ i41 → ∀ (u42 : uk_Mem), iv u42 → fr 41 46 u u42 → i41 ≤ 8 → uk_G G X mX1_grind (d + 2) (q_X1_grind u m n) 90 [(0, .ref (uk_ad G 41)), (1, .ref (uk_ad G 13)), (2, .int m), (3, .int n), (4, .int i41)] [] u42 := by
            refine uk_dnl ?_
            intro i41 ai41 ihi41  u42 hu42 fu42 ji410
            refine g_iload dX1_grind_90 rfl ?_
            refine g_if_lt (tgt := 112) dX1_grind_92 (by decide) (fun c43 => ?_) (fun c43 => ?_)
            · exact g_vret dX1_grind_112 rfl ⟨rfl, hu42, fu42⟩
            · refine g_aload_n dX1_grind_95 rfl ?_
              refine g_aload_n dX1_grind_96 rfl ?_
              refine f_X1_28 rfl rfl dX1_grind_97 ?_
              refine g_iload dX1_grind_100 rfl ?_
              have v44 : vp_in i41 9 := uk_vin 9 rfl (by first | decide | lia | grind) (by first | decide | lia | grind)
              refine g_iald rfl rfl v44 dX1_grind_102 ?_
              refine g_topi (fun x45 ex45 => ?_)
              have bx45 := uk_cl v44
              have rx45 : 0 ≤ x45 ∧ x45 ≤ 7 := by rw [ex45]; exact iv_at hu42 _ _ (uk_pick1 _ (by omega))
              refine cl_X1_47 (c := 41) (As := [.int x45]) rfl (c_X1_lieDown (G := G) hs hu42  x45 (by first | trivial | decide | lia | grind) (by first | trivial | decide | lia | grind) (d + 1)) rfl (by omega) rfl rfl (Nat.le_of_ble_eq_true rfl) dX1_grind_103 (fun r46 u47 q48 => ?_)
              obtain ⟨rfl, mq48⟩ := q48
              obtain ⟨hu47, gu47⟩ := mq48
              have fu47 : fr 41 46 u u47 := fr_tr fu42 gu47 (by omega) (by omega)
              refine g_iinc (v := i41 - 1) dX1_grind_106 rfl (uk_m1 _) (by decide) ?_
              refine g_pick (lv' := [(0, .ref (uk_ad G 41)), (1, .ref (uk_ad G 13)), (2, .int m), (3, .int n), (4, .int (i41 - 1))]) [0, 1, 2, 3, 4] rfl ?_
              refine g_goto (tgt := 90) dX1_grind_109 (by decide) ?_
              refine g_pick (lv' := [(0, .ref (uk_ad G 41)), (1, .ref (uk_ad G 13)), (2, .int m), (3, .int n), (4, .int (i41 - 1))]) [0, 1, 2, 3, 4] rfl ?_
              exact ihi41 (by first | lia | grind)  u47 hu47 fu47 (by first | trivial | lia | grind)
          refine g_pick (lv' := [(0, .ref (uk_ad G 41)), (1, .ref (uk_ad G 13)), (2, .int m), (3, .int n), (4, .int x39)]) [0, 1, 2, 3, 4] rfl ?_
          exact L90_39 x39 (by first | decide | lia | grind)  u6 hu6 fu6 (by first | trivial | lia | grind)
        · refine g_aload_n dX1_grind_31 rfl ?_
          refine cl_X1_38 (c := 41) (As := []) rfl (c_X1_takeWaiting (G := G) hs hu6   (by first | trivial | decide | lia | grind) (d + 1)) rfl (by omega) rfl rfl (Nat.le_of_ble_eq_true rfl) dX1_grind_32 (fun r49 u50 q51 => ?_)
          obtain ⟨⟨x52, rfl, tx52⟩, mq51⟩ := q51
          obtain ⟨hu50, gu50⟩ := mq51
          have fu50 : fr 41 46 u u50 := fr_tr fu6 gu50 (by omega) (by omega)
          refine g_istore dX1_grind_35 (by decide) ?_
          refine g_pick (lv' := [(0, .ref (uk_ad G 41)), (1, .ref (uk_ad G 13)), (2, .int m), (3, .int n), (4, .int i5), (5, .int x52)]) [0, 1, 2, 3, 4, 5] rfl ?_
          refine g_aload_n dX1_grind_37 rfl ?_
          refine f_X1_42 rfl rfl dX1_grind_38 ?_
          refine g_iload dX1_grind_41 rfl ?_
          have v53 : vp_in x52 8 := uk_vin 8 rfl (by first | decide | lia | grind) (by first | decide | lia | grind)
          refine g_iald rfl rfl v53 dX1_grind_43 ?_
          refine g_topi (fun x54 ex54 => ?_)
          refine g_istore dX1_grind_44 (by decide) ?_
          refine g_pick (lv' := [(0, .ref (uk_ad G 41)), (1, .ref (uk_ad G 13)), (2, .int m), (3, .int n), (4, .int i5), (5, .int x52), (6, .int x54)]) [0, 1, 2, 3, 4, 5, 6] rfl ?_
          refine g_iload dX1_grind_46 rfl ?_
          refine g_iconst (v := 4) dX1_grind_48 (by decide) ?_
          refine g_icmp_eq (tgt := 58) dX1_grind_49 (by decide) (fun c55 => ?_) (fun c55 => ?_)
          · refine g_aload_n dX1_grind_58 rfl ?_
            refine g_iload dX1_grind_59 rfl ?_
            refine cl_X1_47 (c := 41) (As := [.int x52]) rfl (c_X1_lieDown (G := G) hs hu50  x52 (by first | trivial | decide | lia | grind) (by first | trivial | decide | lia | grind) (d + 1)) rfl (by omega) rfl rfl (Nat.le_of_ble_eq_true rfl) dX1_grind_61 (fun r56 u57 q58 => ?_)
            obtain ⟨rfl, mq58⟩ := q58
            obtain ⟨hu57, gu57⟩ := mq58
            have fu57 : fr 41 46 u u57 := fr_tr fu50 gu57 (by omega) (by omega)
            refine g_goto (tgt := 76) dX1_grind_64 (by decide) ?_
            refine g_iinc (v := i5 + 1) dX1_grind_76 rfl rfl (by decide) ?_
            refine g_pick (lv' := [(0, .ref (uk_ad G 41)), (1, .ref (uk_ad G 13)), (2, .int m), (3, .int n), (4, .int (i5 + 1)), (5, .int x52), (6, .int x54)]) [0, 1, 2, 3, 4, 5, 6] rfl ?_
            refine g_goto (tgt := 8) dX1_grind_79 (by decide) ?_
            refine g_pick (lv' := [(0, .ref (uk_ad G 41)), (1, .ref (uk_ad G 13)), (2, .int m), (3, .int n), (4, .int (i5 + 1))]) [0, 1, 2, 3, 4] rfl ?_
            exact ihi5 (by first | lia | grind)  u57 hu57 fu57 
          · refine g_iload dX1_grind_52 rfl ?_
            refine g_iconst (v := 2) dX1_grind_54 (by decide) ?_
            refine g_icmp_ne (tgt := 67) dX1_grind_55 (by decide) (fun c59 => ?_) (fun c59 => ?_)
            · refine g_aload_n dX1_grind_67 rfl ?_
              refine g_aload_n dX1_grind_68 rfl ?_
              refine g_iload dX1_grind_69 rfl ?_
              refine g_iload dX1_grind_71 rfl ?_
              refine cl_X1_50 (c := 41) (As := [.ref (uk_ad G 13), .int x52, .int x54]) rfl (c_X1_part (G := G) hs hu50  x52 x54 (by first | trivial | decide | lia | grind) (by first | trivial | decide | lia | grind) (d)) rfl (by omega) rfl rfl (Nat.le_of_ble_eq_true rfl) dX1_grind_73 (fun r60 u61 q62 => ?_)
              obtain ⟨rfl, mq62⟩ := q62
              obtain ⟨hu61, gu61⟩ := mq62
              have fu61 : fr 41 46 u u61 := fr_tr fu50 gu61 (by omega) (by omega)
              refine g_iinc (v := i5 + 1) dX1_grind_76 rfl rfl (by decide) ?_
              refine g_pick (lv' := [(0, .ref (uk_ad G 41)), (1, .ref (uk_ad G 13)), (2, .int m), (3, .int n), (4, .int (i5 + 1)), (5, .int x52), (6, .int x54)]) [0, 1, 2, 3, 4, 5, 6] rfl ?_
              refine g_goto (tgt := 8) dX1_grind_79 (by decide) ?_
              refine g_pick (lv' := [(0, .ref (uk_ad G 41)), (1, .ref (uk_ad G 13)), (2, .int m), (3, .int n), (4, .int (i5 + 1))]) [0, 1, 2, 3, 4] rfl ?_
              exact ihi5 (by first | lia | grind)  u61 hu61 fu61 
            · refine g_aload_n dX1_grind_58 rfl ?_
              refine g_iload dX1_grind_59 rfl ?_
              refine cl_X1_47 (c := 41) (As := [.int x52]) rfl (c_X1_lieDown (G := G) hs hu50  x52 (by first | trivial | decide | lia | grind) (by first | trivial | decide | lia | grind) (d + 1)) rfl (by omega) rfl rfl (Nat.le_of_ble_eq_true rfl) dX1_grind_61 (fun r63 u64 q65 => ?_)
              obtain ⟨rfl, mq65⟩ := q65
              obtain ⟨hu64, gu64⟩ := mq65
              have fu64 : fr 41 46 u u64 := fr_tr fu50 gu64 (by omega) (by omega)
              refine g_goto (tgt := 76) dX1_grind_64 (by decide) ?_
              refine g_iinc (v := i5 + 1) dX1_grind_76 rfl rfl (by decide) ?_
              refine g_pick (lv' := [(0, .ref (uk_ad G 41)), (1, .ref (uk_ad G 13)), (2, .int m), (3, .int n), (4, .int (i5 + 1)), (5, .int x52), (6, .int x54)]) [0, 1, 2, 3, 4, 5, 6] rfl ?_
              refine g_goto (tgt := 8) dX1_grind_79 (by decide) ?_
              refine g_pick (lv' := [(0, .ref (uk_ad G 41)), (1, .ref (uk_ad G 13)), (2, .int m), (3, .int n), (4, .int (i5 + 1))]) [0, 1, 2, 3, 4] rfl ?_
              exact ihi5 (by first | lia | grind)  u64 hu64 fu64 
  refine g_pick (lv' := [(0, .ref (uk_ad G 41)), (1, .ref (uk_ad G 13)), (2, .int m), (3, .int n), (4, .int 0)]) [0, 1, 2, 3, 4] rfl ?_
  exact L8_3 0 (by first | decide | lia | grind) (by first | decide | lia | grind)  u2 hu2 fu2 
abbrev q_X1_howManyOf (u : uk_Mem) (b : Int32) (r : Option Value) (u' : uk_Mem) : Prop := (∃ x : Int32, r = some (.int x) ∧ True) ∧ (u' = u)
set_option maxHeartbeats 4000000 in
set_option maxRecDepth 20000 in
theorem c_X1_howManyOf {G : uk_D} (hs : uk_Sep G) {u : uk_Mem} (hu : iv u) (b : Int32) (d : Nat) : uk_Meth G d mX1_howManyOf [.ref (uk_ad G 41), .int b] u (q_X1_howManyOf u b) := by
  refine uk_Meth.of hs (by decide) (Nat.le_of_ble_eq_true rfl) (fun X => ?_)
  refine g_iconst (v := 0) dX1_howManyOf_0 (by decide) ?_
  refine g_istore_n dX1_howManyOf_1 (by decide) ?_
  refine g_pick (lv' := [(0, .ref (uk_ad G 41)), (1, .int b), (2, .int 0)]) [0, 1, 2] rfl ?_
  refine g_iconst (v := 0) dX1_howManyOf_2 (by decide) ?_
  refine g_istore_n dX1_howManyOf_3 (by decide) ?_
  refine g_pick (lv' := [(0, .ref (uk_ad G 41)), (1, .int b), (2, .int 0), (3, .int 0)]) [0, 1, 2, 3] rfl ?_
  have L4_0 : ∀ i3 : Int32, 0 ≤ i3 → i3 ≤ 128 → ∀ (w2 : Int32), uk_G G X mX1_howManyOf d (q_X1_howManyOf u b) 4 [(0, .ref (uk_ad G 41)), (1, .int b), (2, .int w2), (3, .int i3)] [] u := by
    refine uk_upl 128 ?_
    intro i3 ai3 bi3 ihi3 w2
    refine g_iload_n dX1_howManyOf_4 rfl ?_
    refine g_aload_n dX1_howManyOf_5 rfl ?_
    refine f_X1_15 rfl rfl dX1_howManyOf_6 ?_
    refine g_topi (fun x4 ex4 => ?_)
    have rx4 : 0 ≤ x4 ∧ x4 ≤ 128 := by rw [ex4]; exact iv_at hu _ _ rfl
    have s5 : u.1 41 1 = x4 := ex4.symm
    refine g_icmp_ge (tgt := 36) dX1_howManyOf_9 (by decide) (fun c6 => ?_) (fun c6 => ?_)
    · refine g_iload_n dX1_howManyOf_36 rfl ?_
      exact g_iret (ty := .int) dX1_howManyOf_37 rfl rfl ⟨⟨_, rfl, by first | trivial | lia | grind⟩, rfl⟩
    · refine g_iload_n dX1_howManyOf_12 rfl ?_
      refine g_aload_n dX1_howManyOf_13 rfl ?_
      refine f_X1_9 rfl rfl dX1_howManyOf_14 ?_
      refine g_iload_n dX1_howManyOf_17 rfl ?_
      have v7 : vp_in i3 128 := uk_vin 128 rfl (by first | decide | lia | grind) (by first | decide | lia | grind)
      refine g_iald rfl rfl v7 dX1_howManyOf_18 ?_
      refine g_topi (fun x8 ex8 => ?_)
      have bx8 := uk_cl v7
      have rx8 : 0 ≤ x8 ∧ x8 ≤ 7 := by rw [ex8]; exact iv_at hu _ _ (uk_pick1 _ (by omega))
      refine g_iload_n dX1_howManyOf_19 rfl ?_
      refine g_icmp_ne (tgt := 27) dX1_howManyOf_20 (by decide) (fun c9 => ?_) (fun c9 => ?_)
      · refine g_iconst (v := 0) dX1_howManyOf_27 (by decide) ?_
        refine g_iadd dX1_howManyOf_28 ?_
        refine g_topi (fun x10 ex10 => ?_)
        refine g_istore_n dX1_howManyOf_29 (by decide) ?_
        refine g_pick (lv' := [(0, .ref (uk_ad G 41)), (1, .int b), (2, .int x10), (3, .int i3)]) [0, 1, 2, 3] rfl ?_
        refine g_iinc (v := i3 + 1) dX1_howManyOf_30 rfl rfl (by decide) ?_
        refine g_pick (lv' := [(0, .ref (uk_ad G 41)), (1, .int b), (2, .int x10), (3, .int (i3 + 1))]) [0, 1, 2, 3] rfl ?_
        refine g_goto (tgt := 4) dX1_howManyOf_33 (by decide) ?_
        refine g_pick (lv' := [(0, .ref (uk_ad G 41)), (1, .int b), (2, .int x10), (3, .int (i3 + 1))]) [0, 1, 2, 3] rfl ?_
        exact ihi3 (by first | lia | grind) x10 
      · refine g_iconst (v := 1) dX1_howManyOf_23 (by decide) ?_
        refine g_goto (tgt := 28) dX1_howManyOf_24 (by decide) ?_
        refine g_iadd dX1_howManyOf_28 ?_
        refine g_topi (fun x11 ex11 => ?_)
        refine g_istore_n dX1_howManyOf_29 (by decide) ?_
        refine g_pick (lv' := [(0, .ref (uk_ad G 41)), (1, .int b), (2, .int x11), (3, .int i3)]) [0, 1, 2, 3] rfl ?_
        refine g_iinc (v := i3 + 1) dX1_howManyOf_30 rfl rfl (by decide) ?_
        refine g_pick (lv' := [(0, .ref (uk_ad G 41)), (1, .int b), (2, .int x11), (3, .int (i3 + 1))]) [0, 1, 2, 3] rfl ?_
        refine g_goto (tgt := 4) dX1_howManyOf_33 (by decide) ?_
        refine g_pick (lv' := [(0, .ref (uk_ad G 41)), (1, .int b), (2, .int x11), (3, .int (i3 + 1))]) [0, 1, 2, 3] rfl ?_
        exact ihi3 (by first | lia | grind) x11 
  refine g_pick (lv' := [(0, .ref (uk_ad G 41)), (1, .int b), (2, .int 0), (3, .int 0)]) [0, 1, 2, 3] rfl ?_
  exact L4_0 0 (by first | decide | lia | grind) (by first | decide | lia | grind) 0 
abbrev q_X1_beginsWith (u : uk_Mem) (n : Int32) (r : Option Value) (u' : uk_Mem) : Prop := (∃ x : Int32, r = some (.int x) ∧ (x = 0 ∨ x = 1) ∧ (¬ x = 0 → True) ∧ (x = 0 → True)) ∧ (u' = u)
set_option maxHeartbeats 4000000 in
set_option maxRecDepth 20000 in
theorem c_X1_beginsWith {G : uk_D} (hs : uk_Sep G) {u : uk_Mem} (hu : iv u) (n : Int32) (p0 : 0 ≤ n) (p1 : n ≤ 8) (d : Nat) : uk_Meth G d mX1_beginsWith [.ref (uk_ad G 41), .ref (uk_ad G 21), .int n] u (q_X1_beginsWith u n) := by
  refine uk_Meth.of hs (by decide) (Nat.le_of_ble_eq_true rfl) (fun X => ?_)
  refine g_iload_n dX1_beginsWith_0 rfl ?_
  refine g_aload_n dX1_beginsWith_1 rfl ?_
  refine f_X1_15 rfl rfl dX1_beginsWith_2 ?_
  refine g_topi (fun x1 ex1 => ?_)
  have rx1 : 0 ≤ x1 ∧ x1 ≤ 128 := by rw [ex1]; exact iv_at hu _ _ rfl
  have s2 : u.1 41 1 = x1 := ex1.symm
  refine g_icmp_le (tgt := 10) dX1_beginsWith_5 (by decide) (fun c3 => ?_) (fun c3 => ?_)
  · refine g_iconst (v := 0) dX1_beginsWith_10 (by decide) ?_
    refine g_istore_n dX1_beginsWith_11 (by decide) ?_
    refine g_pick (lv' := [(0, .ref (uk_ad G 41)), (1, .ref (uk_ad G 21)), (2, .int n), (3, .int 0)]) [0, 1, 2, 3] rfl ?_
    have L12_3 : ∀ i5 : Int32, 0 ≤ i5 → i5 ≤ 8 → uk_G G X mX1_beginsWith d (q_X1_beginsWith u n) 12 [(0, .ref (uk_ad G 41)), (1, .ref (uk_ad G 21)), (2, .int n), (3, .int i5)] [] u := by
      refine uk_upl 8 ?_
      intro i5 ai5 bi5 ihi5 
      refine g_iload_n dX1_beginsWith_12 rfl ?_
      refine g_iload_n dX1_beginsWith_13 rfl ?_
      refine g_icmp_ge (tgt := 37) dX1_beginsWith_14 (by decide) (fun c6 => ?_) (fun c6 => ?_)
      · refine g_iconst (v := 1) dX1_beginsWith_37 (by decide) ?_
        exact g_iret (ty := .boolean) dX1_beginsWith_38 rfl rfl ⟨⟨1, rfl, Or.inr rfl, fun _ => by first | trivial | lia | grind, fun q => absurd q (by decide)⟩, rfl⟩
      · refine g_aload_n dX1_beginsWith_17 rfl ?_
        refine f_X1_9 rfl rfl dX1_beginsWith_18 ?_
        refine g_iload_n dX1_beginsWith_21 rfl ?_
        have v7 : vp_in i5 128 := uk_vin 128 rfl (by first | decide | lia | grind) (by first | decide | lia | grind)
        refine g_iald rfl rfl v7 dX1_beginsWith_22 ?_
        refine g_topi (fun x8 ex8 => ?_)
        have bx8 := uk_cl v7
        have rx8 : 0 ≤ x8 ∧ x8 ≤ 7 := by rw [ex8]; exact iv_at hu _ _ (uk_pick1 _ (by omega))
        refine g_aload_n dX1_beginsWith_23 rfl ?_
        refine g_iload_n dX1_beginsWith_24 rfl ?_
        have v9 : vp_in i5 8 := uk_vin 8 rfl (by first | decide | lia | grind) (by first | decide | lia | grind)
        refine g_iald rfl rfl v9 dX1_beginsWith_25 ?_
        refine g_topi (fun x10 ex10 => ?_)
        have bx10 := uk_cl v9
        have rx10 : 0 ≤ x10 ∧ x10 ≤ 7 := by rw [ex10]; exact iv_at hu _ _ (uk_pick1 _ (by omega))
        refine g_icmp_eq (tgt := 31) dX1_beginsWith_26 (by decide) (fun c11 => ?_) (fun c11 => ?_)
        · refine g_iinc (v := i5 + 1) dX1_beginsWith_31 rfl rfl (by decide) ?_
          refine g_pick (lv' := [(0, .ref (uk_ad G 41)), (1, .ref (uk_ad G 21)), (2, .int n), (3, .int (i5 + 1))]) [0, 1, 2, 3] rfl ?_
          refine g_goto (tgt := 12) dX1_beginsWith_34 (by decide) ?_
          refine g_pick (lv' := [(0, .ref (uk_ad G 41)), (1, .ref (uk_ad G 21)), (2, .int n), (3, .int (i5 + 1))]) [0, 1, 2, 3] rfl ?_
          exact ihi5 (by first | lia | grind)  
        · refine g_iconst (v := 0) dX1_beginsWith_29 (by decide) ?_
          exact g_iret (ty := .boolean) dX1_beginsWith_30 rfl rfl ⟨⟨0, rfl, Or.inl rfl, fun q => absurd rfl q, fun _ => by first | trivial | lia | grind⟩, rfl⟩
    refine g_pick (lv' := [(0, .ref (uk_ad G 41)), (1, .ref (uk_ad G 21)), (2, .int n), (3, .int 0)]) [0, 1, 2, 3] rfl ?_
    exact L12_3 0 (by first | decide | lia | grind) (by first | decide | lia | grind)  
  · refine g_iconst (v := 0) dX1_beginsWith_8 (by decide) ?_
    exact g_iret (ty := .boolean) dX1_beginsWith_9 rfl rfl ⟨⟨0, rfl, Or.inl rfl, fun q => absurd rfl q, fun _ => by first | trivial | lia | grind⟩, rfl⟩
abbrev q_X1_takeFrom (u : uk_Mem)  (r : Option Value) (u' : uk_Mem) : Prop := (r = none) ∧ (iv u' ∧ fr 58 59 u u')
set_option maxHeartbeats 4000000 in
set_option maxRecDepth 20000 in
theorem c_X1_takeFrom {G : uk_D} (hs : uk_Sep G) {u : uk_Mem} (hu : iv u)  (d : Nat) : uk_Meth G d mX1_takeFrom [.ref (uk_ad G 41), .ref (uk_ad G 58)] u (q_X1_takeFrom u) := by
  refine uk_Meth.of hs (by decide) (Nat.le_of_ble_eq_true rfl) (fun X => ?_)
  have f0 : fr 58 59 u u := fr_rf
  refine g_iconst (v := 0) dX1_takeFrom_0 (by decide) ?_
  refine g_istore_n dX1_takeFrom_1 (by decide) ?_
  refine g_pick (lv' := [(0, .ref (uk_ad G 41)), (1, .ref (uk_ad G 58)), (2, .int 0)]) [0, 1, 2] rfl ?_
  have L2_0 : ∀ i2 : Int32, 0 ≤ i2 → i2 ≤ 128 → ∀ (u3 : uk_Mem), iv u3 → fr 58 59 u u3 → uk_G G X mX1_takeFrom d (q_X1_takeFrom u) 2 [(0, .ref (uk_ad G 41)), (1, .ref (uk_ad G 58)), (2, .int i2)] [] u3 := by
    refine uk_upl 128 ?_
    intro i2 ai2 bi2 ihi2  u3 hu3 fu3
    refine g_iload_n dX1_takeFrom_2 rfl ?_
    refine g_aload_n dX1_takeFrom_3 rfl ?_
    refine f_X1_15 rfl rfl dX1_takeFrom_4 ?_
    refine g_topi (fun x4 ex4 => ?_)
    have rx4 : 0 ≤ x4 ∧ x4 ≤ 128 := by rw [ex4]; exact iv_at hu3 _ _ rfl
    have s5 : u3.1 41 1 = x4 := ex4.symm
    refine g_icmp_ge (tgt := 28) dX1_takeFrom_7 (by decide) (fun c6 => ?_) (fun c6 => ?_)
    · exact g_vret dX1_takeFrom_28 rfl ⟨rfl, hu3, fu3⟩
    · refine g_aload_n dX1_takeFrom_10 rfl ?_
      refine g_aload_n dX1_takeFrom_11 rfl ?_
      refine f_X1_9 rfl rfl dX1_takeFrom_12 ?_
      refine g_iload_n dX1_takeFrom_15 rfl ?_
      have v7 : vp_in i2 128 := uk_vin 128 rfl (by first | decide | lia | grind) (by first | decide | lia | grind)
      refine g_iald rfl rfl v7 dX1_takeFrom_16 ?_
      refine g_topi (fun x8 ex8 => ?_)
      have bx8 := uk_cl v7
      have rx8 : 0 ≤ x8 ∧ x8 ≤ 7 := by rw [ex8]; exact iv_at hu3 _ _ (uk_pick1 _ (by omega))
      refine g_dup2 dX1_takeFrom_17 rfl rfl ?_
      have v9 : vp_in x8 8 := uk_vin 8 rfl (by first | decide | lia | grind) (by first | decide | lia | grind)
      refine g_iald rfl rfl v9 dX1_takeFrom_18 ?_
      refine g_topi (fun x10 ex10 => ?_)
      refine g_iconst (v := 1) dX1_takeFrom_19 (by decide) ?_
      refine g_isub dX1_takeFrom_20 ?_
      refine g_topi (fun x11 ex11 => ?_)
      have v12 : vp_in x8 8 := uk_vin 8 rfl (by first | decide | lia | grind) (by first | decide | lia | grind)
      have b13 := uk_cl v12
      refine g_iast rfl rfl v12 dX1_takeFrom_21 ?_
      refine g_mem (fun u14 eu14 => ?_)
      have hu14 : iv u14 := by rw [eu14]; exact iv_upF hu3 (uk_pick1 _ (by omega))
      have fu14 : fr 58 59 u u14 := by rw [eu14]; exact fr_up fu3 (by omega) (by omega)
      refine g_iinc (v := i2 + 1) dX1_takeFrom_22 rfl rfl (by decide) ?_
      refine g_pick (lv' := [(0, .ref (uk_ad G 41)), (1, .ref (uk_ad G 58)), (2, .int (i2 + 1))]) [0, 1, 2] rfl ?_
      refine g_goto (tgt := 2) dX1_takeFrom_25 (by decide) ?_
      refine g_pick (lv' := [(0, .ref (uk_ad G 41)), (1, .ref (uk_ad G 58)), (2, .int (i2 + 1))]) [0, 1, 2] rfl ?_
      exact ihi2 (by first | lia | grind)  u14 hu14 fu14 
  refine g_pick (lv' := [(0, .ref (uk_ad G 41)), (1, .ref (uk_ad G 58)), (2, .int 0)]) [0, 1, 2] rfl ?_
  exact L2_0 0 (by first | decide | lia | grind) (by first | decide | lia | grind)  u hu f0 
abbrev q_X3_isNothing (u : uk_Mem) (k : Int32) (r : Option Value) (u' : uk_Mem) : Prop := (∃ x : Int32, r = some (.int x) ∧ (x = 0 ∨ x = 1) ∧ (¬ x = 0 → True) ∧ (x = 0 → True)) ∧ (u' = u)
abbrev q_X3_faultAt (u : uk_Mem) (k : Int32) (i : Int32) (r : Option Value) (u' : uk_Mem) : Prop := (∃ x : Int32, r = some (.int x) ∧ (x = 0 → 0 ≤ i ∧ i < 40)) ∧ (u' = u)
abbrev q_X3_faultAs (u : uk_Mem) (k : Int32) (l : Int32) (i : Int32) (r : Option Value) (u' : uk_Mem) : Prop := (∃ x : Int32, r = some (.int x) ∧ (x = 0 → 0 ≤ i ∧ i < 40)) ∧ (u' = u)
abbrev q_X3_renew (u : uk_Mem) (k : Int32) (l : Int32) (n : Int32) (r : Option Value) (u' : uk_Mem) : Prop := (r = none) ∧ (iv u' ∧ fr 49 57 u u')
abbrev q_X3_put (u : uk_Mem) (k : Int32) (i : Int32) (v : Int32) (r : Option Value) (u' : uk_Mem) : Prop := (r = none) ∧ (iv u' ∧ fr 49 57 u u')
abbrev q_X2_doingAt (u : uk_Mem) (i : Int32) (r : Option Value) (u' : uk_Mem) : Prop := (∃ x : Int32, r = some (.int x) ∧ True) ∧ (u' = u)
abbrev q_X2_keepPath (u : uk_Mem) (n : Int32) (s : Int32) (r : Option Value) (u' : uk_Mem) : Prop := (r = none) ∧ (iv u' ∧ fr 46 49 u u')
abbrev q_X2_tryRicher_0 (u : uk_Mem) (n : Int32) (g : Int32) (s : Int32) (r : Option Value) (u' : uk_Mem) : Prop := (r = none) ∧ (iv u' ∧ fr 13 49 u u')
abbrev q_X2_tryRicher_1 (u : uk_Mem) (n : Int32) (g : Int32) (s : Int32) (r : Option Value) (u' : uk_Mem) : Prop := (r = none) ∧ (iv u' ∧ fr 13 49 u u')
abbrev q_X2_tryRicher_2 (u : uk_Mem) (n : Int32) (g : Int32) (s : Int32) (r : Option Value) (u' : uk_Mem) : Prop := (r = none) ∧ (iv u' ∧ fr 13 49 u u')
abbrev q_X2_tryRicher_3 (u : uk_Mem) (n : Int32) (g : Int32) (s : Int32) (r : Option Value) (u' : uk_Mem) : Prop := (r = none) ∧ (iv u' ∧ fr 13 49 u u')
abbrev q_X2_tryRicher_4 (u : uk_Mem) (n : Int32) (g : Int32) (s : Int32) (r : Option Value) (u' : uk_Mem) : Prop := (r = none) ∧ (iv u' ∧ fr 13 49 u u')
abbrev q_X2_tryRicher (u : uk_Mem) (n : Int32) (g : Int32) (s : Int32) (r : Option Value) (u' : uk_Mem) : Prop := (r = none) ∧ (iv u' ∧ fr 13 49 u u')
abbrev q_X2_tryReaching_0 (u : uk_Mem) (m : Int32) (n : Int32) (g : Int32) (r : Option Value) (u' : uk_Mem) : Prop := (∃ x : Int32, r = some (.int x) ∧ (x = 0 ∨ x = 1) ∧ (¬ x = 0 → True) ∧ (x = 0 → True)) ∧ (iv u' ∧ fr 13 49 u u')
abbrev q_X2_tryReaching_1 (u : uk_Mem) (m : Int32) (n : Int32) (g : Int32) (r : Option Value) (u' : uk_Mem) : Prop := (∃ x : Int32, r = some (.int x) ∧ (x = 0 ∨ x = 1) ∧ (¬ x = 0 → True) ∧ (x = 0 → True)) ∧ (iv u' ∧ fr 13 49 u u')
abbrev q_X2_tryReaching_2 (u : uk_Mem) (m : Int32) (n : Int32) (g : Int32) (r : Option Value) (u' : uk_Mem) : Prop := (∃ x : Int32, r = some (.int x) ∧ (x = 0 ∨ x = 1) ∧ (¬ x = 0 → True) ∧ (x = 0 → True)) ∧ (iv u' ∧ fr 13 49 u u')
abbrev q_X2_tryReaching_3 (u : uk_Mem) (m : Int32) (n : Int32) (g : Int32) (r : Option Value) (u' : uk_Mem) : Prop := (∃ x : Int32, r = some (.int x) ∧ (x = 0 ∨ x = 1) ∧ (¬ x = 0 → True) ∧ (x = 0 → True)) ∧ (iv u' ∧ fr 13 49 u u')
abbrev q_X2_tryReaching_4 (u : uk_Mem) (m : Int32) (n : Int32) (g : Int32) (r : Option Value) (u' : uk_Mem) : Prop := (∃ x : Int32, r = some (.int x) ∧ (x = 0 ∨ x = 1) ∧ (¬ x = 0 → True) ∧ (x = 0 → True)) ∧ (iv u' ∧ fr 13 49 u u')
abbrev q_X2_tryReaching (u : uk_Mem) (m : Int32) (n : Int32) (g : Int32) (r : Option Value) (u' : uk_Mem) : Prop := (∃ x : Int32, r = some (.int x) ∧ (x = 0 ∨ x = 1) ∧ (¬ x = 0 → True) ∧ (x = 0 → True)) ∧ (iv u' ∧ fr 13 49 u u')
abbrev q_X2_findRichest (u : uk_Mem) (n : Int32) (r : Option Value) (u' : uk_Mem) : Prop := (r = none) ∧ (iv u' ∧ fr 13 49 u u')
abbrev q_X2_findFewest (u : uk_Mem) (m : Int32) (r : Option Value) (u' : uk_Mem) : Prop := (∃ x : Int32, r = some (.int x) ∧ (x = 0 ∨ x = 1) ∧ (¬ x = 0 → True) ∧ (x = 0 → True)) ∧ (iv u' ∧ fr 13 49 u u')
abbrev mJ0_length : uk_M := (yJ0_length_8abf5, cJ0_length_8abf5, 1, some .int)
abbrev mJ0_charAt : uk_M := (yJ0_charAt_5068e, cJ0_charAt_5068e, 2, some .char)
abbrev mJ0_coder : uk_M := (yJ0_coder_7d493, cJ0_coder_7d493, 1, some .byte)
abbrev mJ0_isLatin1 : uk_M := (yJ0_isLatin1_aae02, cJ0_isLatin1_aae02, 1, some .boolean)
abbrev mJ0_checkIndex : uk_M := (yJ0_checkIndex_df160, cJ0_checkIndex_df160, 2, none)
abbrev mJ1_charAt : uk_M := (yJ1_charAt_3b067, cJ1_charAt_3b067, 2, some .char)
abbrev mJ3_checkIndex : uk_M := (yJ3_checkIndex_8e157, cJ3_checkIndex_8e157, 3, some .int)
theorem uk_JV : Cond.fieldLink RJ0 9 "java/lang/String" "value" "[B" ∈ uk_w := uk_wI (List.mem_of_getElem? (i := 1182) (by decide +kernel)) rfl
theorem uk_JC : Cond.fieldLink RJ0 15 "java/lang/String" "coder" "B" ∈ uk_w := uk_wI (List.mem_of_getElem? (i := 1183) (by decide +kernel)) rfl
theorem uk_JS : Cond.fieldLink RJ0 38 "java/lang/String" "COMPACT_STRINGS" "Z" ∈ uk_w := uk_wI (List.mem_of_getElem? (i := 320) (by decide +kernel)) rfl
theorem uk_JF : Cond.fieldLink RJ0 1053 "jdk/internal/util/Preconditions" "SIOOBE_FORMATTER" "Ljava/util/function/BiFunction;" ∈ uk_w := uk_wI (List.mem_of_getElem? (i := 336) (by decide +kernel)) rfl
theorem uk_JI0 : Cond.initialized RJ0 ∈ uk_w := uk_wI (List.mem_of_getElem? (i := 9) (by decide +kernel)) rfl
theorem uk_JI1 : Cond.initialized RJ1 ∈ uk_w := uk_wI (List.mem_of_getElem? (i := 10) (by decide +kernel)) rfl
theorem uk_JI3 : Cond.initialized RJ3 ∈ uk_w := uk_wI (List.mem_of_getElem? (i := 11) (by decide +kernel)) rfl
theorem uk_JL335 : Cond.methodLink RJ0 335 mJ0_coder.1 ∈ uk_w := uk_wI (List.mem_of_getElem? (i := 316) (by decide +kernel)) rfl
theorem uk_JL1059 : Cond.methodLink RJ0 1059 mJ3_checkIndex.1 ∈ uk_w := uk_wI (List.mem_of_getElem? (i := 338) (by decide +kernel)) rfl
theorem uk_JL9 : Cond.methodLink RJ1 9 mJ0_checkIndex.1 ∈ uk_w := uk_wI (List.mem_of_getElem? (i := 333) (by decide +kernel)) rfl
theorem uk_JL492 : Cond.methodLink RJ0 492 mJ0_isLatin1.1 ∈ uk_w := uk_wI (List.mem_of_getElem? (i := 326) (by decide +kernel)) rfl
theorem uk_JL495 : Cond.methodLink RJ0 495 mJ1_charAt.1 ∈ uk_w := uk_wI (List.mem_of_getElem? (i := 330) (by decide +kernel)) rfl
theorem uk_JL35 : Cond.methodLink RX4 35 mJ0_length.1 ∈ uk_w := uk_wI (List.mem_of_getElem? (i := 312) (by decide +kernel)) rfl
theorem uk_JL41 : Cond.methodLink RX4 41 mJ0_charAt.1 ∈ uk_w := uk_wI (List.mem_of_getElem? (i := 322) (by decide +kernel)) rfl
theorem uk_JIcoder : Cond.instanceMethod mJ0_coder.1 ∈ uk_w := uk_wI (List.mem_of_getElem? (i := 317) (by decide +kernel)) rfl
theorem uk_JScoder : Cond.selects RJ0 mJ0_coder.1 mJ0_coder.1 ∈ uk_w := uk_wI (List.mem_of_getElem? (i := 318) (by decide +kernel)) rfl
theorem uk_JKcoder : Cond.code mJ0_coder.1 mJ0_coder.2.1 mJ0_coder.2.2.1 mJ0_coder.2.2.2 ∈ uk_w := uk_wI (List.mem_of_getElem? (i := 319) (by decide +kernel)) rfl
theorem uk_JIlatin : Cond.instanceMethod mJ0_isLatin1.1 ∈ uk_w := uk_wI (List.mem_of_getElem? (i := 327) (by decide +kernel)) rfl
theorem uk_JSlatin : Cond.selects RJ0 mJ0_isLatin1.1 mJ0_isLatin1.1 ∈ uk_w := uk_wI (List.mem_of_getElem? (i := 328) (by decide +kernel)) rfl
theorem uk_JKlatin : Cond.code mJ0_isLatin1.1 mJ0_isLatin1.2.1 mJ0_isLatin1.2.2.1 mJ0_isLatin1.2.2.2 ∈ uk_w := uk_wI (List.mem_of_getElem? (i := 329) (by decide +kernel)) rfl
theorem uk_JIlen : Cond.instanceMethod mJ0_length.1 ∈ uk_w := uk_wI (List.mem_of_getElem? (i := 313) (by decide +kernel)) rfl
theorem uk_JSlen : Cond.selects RJ0 mJ0_length.1 mJ0_length.1 ∈ uk_w := uk_wI (List.mem_of_getElem? (i := 314) (by decide +kernel)) rfl
theorem uk_JKlen : Cond.code mJ0_length.1 mJ0_length.2.1 mJ0_length.2.2.1 mJ0_length.2.2.2 ∈ uk_w := uk_wI (List.mem_of_getElem? (i := 315) (by decide +kernel)) rfl
theorem uk_JIchar : Cond.instanceMethod mJ0_charAt.1 ∈ uk_w := uk_wI (List.mem_of_getElem? (i := 323) (by decide +kernel)) rfl
theorem uk_JSchar : Cond.selects RJ0 mJ0_charAt.1 mJ0_charAt.1 ∈ uk_w := uk_wI (List.mem_of_getElem? (i := 324) (by decide +kernel)) rfl
theorem uk_JKchar : Cond.code mJ0_charAt.1 mJ0_charAt.2.1 mJ0_charAt.2.2.1 mJ0_charAt.2.2.2 ∈ uk_w := uk_wI (List.mem_of_getElem? (i := 325) (by decide +kernel)) rfl
theorem uk_JTpre : Cond.static mJ3_checkIndex.1 ∈ uk_w := uk_wI (List.mem_of_getElem? (i := 339) (by decide +kernel)) rfl
theorem uk_JKpre : Cond.code mJ3_checkIndex.1 mJ3_checkIndex.2.1 mJ3_checkIndex.2.2.1 mJ3_checkIndex.2.2.2 ∈ uk_w := uk_wI (List.mem_of_getElem? (i := 340) (by decide +kernel)) rfl
theorem uk_JTcheck : Cond.static mJ0_checkIndex.1 ∈ uk_w := uk_wI (List.mem_of_getElem? (i := 334) (by decide +kernel)) rfl
theorem uk_JKcheck : Cond.code mJ0_checkIndex.1 mJ0_checkIndex.2.1 mJ0_checkIndex.2.2.1 mJ0_checkIndex.2.2.2 ∈ uk_w := uk_wI (List.mem_of_getElem? (i := 335) (by decide +kernel)) rfl
theorem uk_JTchar1 : Cond.static mJ1_charAt.1 ∈ uk_w := uk_wI (List.mem_of_getElem? (i := 331) (by decide +kernel)) rfl
theorem uk_JKchar1 : Cond.code mJ1_charAt.1 mJ1_charAt.2.1 mJ1_charAt.2.2.1 mJ1_charAt.2.2.2 ∈ uk_w := uk_wI (List.mem_of_getElem? (i := 332) (by decide +kernel)) rfl
section UKS
variable {G : uk_D} {X : uk_Cx} {M : uk_M} {d : Nat} {Q : Option Value → uk_Mem → Prop} {pc : Nat} {lv : List (Nat × Value)} {st stk : List Value} {u : uk_Mem}
theorem g_ldcS {j ix : Nat} (hj : j < 6) (hx : uk_sIx.getD j 0 = ix) (hM : M.1.cls = "UncookMill$TextReader") (hd : decode M.2.1 pc = .ok (.ldc ix, 2)) (K : uk_G G X M d Q (pc + 2) lv (.ref (uk_ad G (100 + j)) :: st) u) : uk_G G X M d Q pc lv st u := fun hO ls H locs hl hP hS => by
  have hz := hO.2.2.2.2.2.2.1.2.2.2.2 j hj
  rw [hx] at hz
  exact va_ldcS hO.1 hO.2.1 (by rw [← hM]; exact hO.2.2.2.1) hz hd (K hO ls H locs hl hP hS)
theorem g_strval {j : Nat} (hj : j < 6) (hM : M.1.cls = RJ0) (hd : decode M.2.1 pc = .ok (.getfield 9, 3)) (K : uk_G G X M d Q (pc + 3) lv (.ref (uk_ad G (200 + j)) :: st) u) : uk_G G X M d Q pc lv (.ref (uk_ad G (100 + j)) :: st) u := fun hO ls H locs hl hP hS =>
  vk_getf hO.1 hO.2.1 (hO.2.2.2.2.2.2.1.2.1.1 j hj).2.2.1 hS hO.2.2.2.1 (by rw [hM]; exact hO.2.2.2.2.1 _ uk_JV) (fun _ h => h) hd (K hO ls H locs hl hP hS)
theorem g_strcoder {j : Nat} (hj : j < 6) (hM : M.1.cls = RJ0) (hd : decode M.2.1 pc = .ok (.getfield 15, 3)) (K : uk_G G X M d Q (pc + 3) lv (.int 0 :: st) u) : uk_G G X M d Q pc lv (.ref (uk_ad G (100 + j)) :: st) u := fun hO ls H locs hl hP hS =>
  vk_getf hO.1 hO.2.1 (hO.2.2.2.2.2.2.1.2.1.1 j hj).2.1 hS hO.2.2.2.1 (by rw [hM]; exact hO.2.2.2.2.1 _ uk_JC) (fun _ h => h) hd (K hO ls H locs hl hP hS)
theorem g_compact (hM : M.1.cls = RJ0) (hd : decode M.2.1 pc = .ok (.getstatic 38, 3)) (K : uk_G G X M d Q (pc + 3) lv (.int 1 :: st) u) : uk_G G X M d Q pc lv st u := fun hO ls H locs hl hP hS =>
  va_gets hO.1 hO.2.1 hO.2.2.2.2.2.2.1.2.2.1 hS hO.2.2.2.1 (by rw [hM]; exact hO.2.2.2.2.1 _ uk_JS) (fun _ h => h) hd (K hO ls H locs hl hP hS)
theorem g_sioobe (hM : M.1.cls = RJ0) (hd : decode M.2.1 pc = .ok (.getstatic 1053, 3)) (K : ∀ v : Value, (v = .null ∨ ∃ t, v = .ref t) → uk_G G X M d Q (pc + 3) lv (v :: st) u) : uk_G G X M d Q pc lv st u := fun hO ls H locs hl hP hS => by
  rcases hO.2.2.2.2.2.2.1.2.2.2.1 with hz | ⟨t, hz⟩
  · exact va_gets hO.1 hO.2.1 hz hS hO.2.2.2.1 (by rw [hM]; exact hO.2.2.2.2.1 _ uk_JF) (fun _ h => h) hd (K _ (Or.inl rfl) hO ls H locs hl hP hS)
  · exact va_gets hO.1 hO.2.1 hz hS hO.2.2.2.1 (by rw [hM]; exact hO.2.2.2.2.1 _ uk_JF) (fun _ h => h) hd (K _ (Or.inr ⟨t, rfl⟩) hO ls H locs hl hP hS)
theorem g_tlen {j : Nat} {v : Int32} (hj : j < 6) (hv : Int32.ofNat (uk_sLen.getD j 0) = v) (hd : decode M.2.1 pc = .ok (.arraylength, 1)) (K : uk_G G X M d Q (pc + 1) lv (.int v :: st) u) : uk_G G X M d Q pc lv (.ref (uk_ad G (200 + j)) :: st) u := fun hO ls H locs hl hP hS =>
  va_tlen hO.1 hO.2.1 (hO.2.2.2.2.2.2.1.2.1.1 j hj).2.2.2 hS hv hd (K hO ls H locs hl hP hS)
theorem g_tb {j : Nat} {i : Int32} (hj : j < 6) (hi : vp_in i (uk_sLen.getD j 0)) (hd : decode M.2.1 pc = .ok (.baload, 1)) (K : uk_G G X M d Q (pc + 1) lv (.int ((uk_sByt.getD j []).getD i.toNatClampNeg 0) :: st) u) : uk_G G X M d Q pc lv (.int i :: .ref (uk_ad G (200 + j)) :: st) u := fun hO ls H locs hl hP hS =>
  va_tb hO.1 hO.2.1 (hO.2.2.2.2.2.2.1.2.1.1 j hj).2.2.2 hS hi rfl hd (K hO ls H locs hl hP hS)
theorem g_i2c {x : Int32} (hd : decode M.2.1 pc = .ok (.i2c, 1)) (k : uk_G G X M d Q (pc + 1) lv (.int (x.toUInt32 % 65536).toInt32 :: st) u) : uk_G G X M d Q pc lv (.int x :: st) u := fun hO ls H locs hl hP hS => lv_i2c hO.1 hO.2.1 hd rfl (k hO ls H locs hl hP hS)
/-- a text's own method -/
theorem g_callT {M' : uk_M} {d' idx j nA : Nat} {As : List Value} {Q' : Option Value → uk_Mem → Prop} (hj : j < 6) (hC : M'.1.cls = RJ0) (hy : M'.1.cls ≠ "java/lang/invoke/MethodHandle" ∧ M'.1.cls ≠ "java/lang/invoke/VarHandle" ∧ (parseMethodDescriptor M'.1.desc).map (fun d => d.parameters.length) = some nA) (hn : M'.2.2.1 ≤ 21)
    (w1 : Cond.methodLink M.1.cls idx M'.1 ∈ uk_w) (w2 : Cond.instanceMethod M'.1 ∈ uk_w) (w3 : Cond.selects RJ0 M'.1 M'.1 ∈ uk_w) (w4 : Cond.initialized RJ0 ∈ uk_w) (w5 : Cond.code M'.1 M'.2.1 M'.2.2.1 M'.2.2.2 ∈ uk_w)
    (hA : As.length = nA) (hm : uk_Meth G d' M' (.ref (uk_ad G (100 + j)) :: As) u Q') (hdd : d' + 1 ≤ d) (hst : stk = As.reverse ++ .ref (uk_ad G (100 + j)) :: st) (hc : (st.map fun v => v.category).sum ≤ 8) (hd : decode M.2.1 pc = .ok (.invokevirtual idx, 3))
    (K : ∀ (r : Option Value) (u' : uk_Mem), Q' r u' → uk_G G X M d Q (pc + 3) lv (r.toList ++ st) u') : uk_G G X M d Q pc lv stk u := fun hO ls H locs hl hP hS => by
  have hw := hO.2.2.2.2.1
  have w4' : Cond.initialized M'.1.cls ∈ uk_w := by rw [hC]; exact w4
  exact uk_after (Q' := Q') hO hl hS (a := (Value.ref (uk_ad G (100 + j)) :: As).toArray) (va_runV (As := As) (rest := st) (Ts := uk_w) (C := RJ0) ⟨hO.1, hO.2.1, hO.2.2.1, hO.2.2.2.1, hw⟩ hm ⟨callB_of nA hw (uk_goodIn w5) rfl rfl rfl (hw _ w4') (hw _ w1) hy (uk_room hO hdd hn), hw _ w2, hw _ w3⟩ ⟨uk_blind, vk_recv (adK := fun i => uk_ad G (100 + i)) (adV := fun i => uk_ad G (200 + i)) (i := j) hO.2.2.2.2.2.2.1.2.1 hj hS, uk_pre hO hP hS⟩ rfl hA hl.1 hst (lv_room hc) hd ⟨hO.2.2.2.2.2.2.2.2.1.2.2.1, hO.2.2.2.2.2.2.2.2.1.2.2.2⟩) K
end UKS
theorem cj_coder {G : uk_D} (hs : uk_Sep G) {u : uk_Mem} {j : Nat} (hj : j < 6) (d : Nat) : uk_Meth G d mJ0_coder [.ref (uk_ad G (100 + j))] u (fun r u' => r = some (.int 0) ∧ u' = u) := by
  refine uk_Meth.of hs (by decide) (Nat.le_of_ble_eq_true rfl) (fun X => ?_)
  refine g_compact rfl dJ0_coder_7d493_0 ?_
  refine g_if_eq (tgt := 13) dJ0_coder_7d493_3 (by decide) (fun c => absurd c (by decide)) (fun c => ?_)
  refine g_aload_n dJ0_coder_7d493_6 rfl ?_
  refine g_strcoder hj rfl dJ0_coder_7d493_7 ?_
  refine g_goto (tgt := 14) dJ0_coder_7d493_10 (by decide) ?_
  exact g_iret (ty := .byte) dJ0_coder_7d493_14 rfl rfl ⟨rfl, rfl⟩
theorem cj_isLatin1 {G : uk_D} (hs : uk_Sep G) {u : uk_Mem} {j : Nat} (hj : j < 6) (d : Nat) : uk_Meth G d mJ0_isLatin1 [.ref (uk_ad G (100 + j))] u (fun r u' => r = some (.int 1) ∧ u' = u) := by
  refine uk_Meth.of hs (by decide) (Nat.le_of_ble_eq_true rfl) (fun X => ?_)
  refine g_compact rfl dJ0_isLatin1_aae02_0 ?_
  refine g_if_eq (tgt := 17) dJ0_isLatin1_aae02_3 (by decide) (fun c => absurd c (by decide)) (fun c => ?_)
  refine g_aload_n dJ0_isLatin1_aae02_6 rfl ?_
  refine g_strcoder hj rfl dJ0_isLatin1_aae02_7 ?_
  refine g_if_ne (tgt := 17) dJ0_isLatin1_aae02_10 (by decide) (fun c => absurd rfl c) (fun c => ?_)
  refine g_iconst (v := 1) dJ0_isLatin1_aae02_13 (by decide) ?_
  refine g_goto (tgt := 18) dJ0_isLatin1_aae02_14 (by decide) ?_
  exact g_iret (ty := .boolean) dJ0_isLatin1_aae02_18 rfl rfl ⟨rfl, rfl⟩
theorem cj_length {G : uk_D} (hs : uk_Sep G) {u : uk_Mem} {j : Nat} (hj : j < 6) (d : Nat) : uk_Meth G (d + 1) mJ0_length [.ref (uk_ad G (100 + j))] u (fun r u' => r = some (.int (Int32.ofNat (uk_sLen.getD j 0))) ∧ u' = u) := by
  refine uk_Meth.of hs (by decide) (Nat.le_of_ble_eq_true rfl) (fun X => ?_)
  refine g_aload_n dJ0_length_8abf5_0 rfl ?_
  refine g_strval hj rfl dJ0_length_8abf5_1 ?_
  refine g_tlen hj rfl dJ0_length_8abf5_4 ?_
  refine g_aload_n dJ0_length_8abf5_5 rfl ?_
  refine g_callT (M' := mJ0_coder) (As := []) (nA := 0) hj rfl ⟨by decide +kernel, by decide +kernel, by decide +kernel⟩ (by decide) uk_JL335 uk_JIcoder uk_JScoder uk_JI0 uk_JKcoder rfl (cj_coder hs hj d) (by omega) rfl (Nat.le_of_ble_eq_true rfl) dJ0_length_8abf5_6 (fun r v q => ?_)
  obtain ⟨rfl, q2⟩ := q
  rw [q2]
  refine g_ishr dJ0_length_8abf5_9 (fun z ez => ?_)
  rw [sb_shr0] at ez
  exact g_iret (ty := .int) dJ0_length_8abf5_10 rfl rfl ⟨by rw [ez], rfl⟩
theorem cj_pre {G : uk_D} (hs : uk_Sep G) {u : uk_Mem} {i n : Int32} {v : Value} (hv : v = .null ∨ ∃ t, v = .ref t) (h0 : 0 ≤ i) (h1 : i < n) (d : Nat) : uk_Meth G d mJ3_checkIndex [.int i, .int n, v] u (fun r u' => r = some (.int i) ∧ u' = u) := by
  have hl : (lg_sl [.int i, .int n, v]).length ≤ 3 := by
    rcases hv with rfl | ⟨t, rfl⟩ <;> exact Nat.le_of_ble_eq_true rfl
  have key : ∀ (lv : List (Nat × Value)), uk_lk lv 0 = some (.int i) → uk_lk lv 1 = some (.int n) → ∀ X : uk_Cx, uk_G G X mJ3_checkIndex d (fun r u' => r = some (.int i) ∧ u' = u) 0 lv [] u := by
    intro lv l0 l1 X
    refine g_iload_n dJ3_checkIndex_8e157_0 l0 ?_
    refine g_if_lt (tgt := 9) dJ3_checkIndex_8e157_1 (by decide) (fun c => absurd h0 (by grind)) (fun c => ?_)
    refine g_iload_n dJ3_checkIndex_8e157_4 l0 ?_
    refine g_iload_n dJ3_checkIndex_8e157_5 l1 ?_
    refine g_icmp_lt (tgt := 16) dJ3_checkIndex_8e157_6 (by decide) (fun c => ?_) (fun c => absurd h1 c)
    refine g_iload_n dJ3_checkIndex_8e157_16 l0 ?_
    exact g_iret (ty := .int) dJ3_checkIndex_8e157_17 rfl rfl ⟨rfl, rfl⟩
  refine uk_Meth.of hs (by decide) hl (fun X => ?_)
  rcases hv with rfl | ⟨t, rfl⟩ <;> exact key _ rfl rfl X
theorem cj_check {G : uk_D} (hs : uk_Sep G) {u : uk_Mem} {i n : Int32} (h0 : 0 ≤ i) (h1 : i < n) (d : Nat) : uk_Meth G (d + 1) mJ0_checkIndex [.int i, .int n] u (fun r u' => r = none ∧ u' = u) := by
  refine uk_Meth.of hs (by decide) (Nat.le_of_ble_eq_true rfl) (fun X => ?_)
  refine g_iload_n dJ0_checkIndex_df160_0 rfl ?_
  refine g_iload_n dJ0_checkIndex_df160_1 rfl ?_
  refine g_sioobe rfl dJ0_checkIndex_df160_2 (fun v hv => ?_)
  refine g_callS (M' := mJ3_checkIndex) (nA := 3) (As := [.int i, .int n, v]) ⟨by decide +kernel, by decide +kernel, by decide +kernel⟩ (by decide) uk_JL1059 uk_JTpre uk_JI3 uk_JKpre rfl (cj_pre hs hv h0 h1 d) (by omega) rfl (Nat.le_of_ble_eq_true rfl) dJ0_checkIndex_df160_5 (fun r w q => ?_)
  obtain ⟨rfl, q2⟩ := q
  rw [q2]
  refine g_pop dJ0_checkIndex_df160_8 rfl ?_
  exact g_vret dJ0_checkIndex_df160_9 rfl ⟨rfl, rfl⟩
theorem uk_slen {j : Nat} (hj : j < 6) : (Int32.ofNat (uk_sLen.getD j 0)).toInt = ((uk_sLen.getD j 0 : Nat) : Int) ∧ (Int32.ofNat (uk_sLen.getD j 0) = 3 ∨ Int32.ofNat (uk_sLen.getD j 0) = 4) := by
  rcases (show j = 0 ∨ j = 1 ∨ j = 2 ∨ j = 3 ∨ j = 4 ∨ j = 5 by omega) with rfl | rfl | rfl | rfl | rfl | rfl <;> exact ⟨rfl, by decide⟩
theorem cj_charAt1 {G : uk_D} (hs : uk_Sep G) {u : uk_Mem} {j : Nat} {i : Int32} (hj : j < 6) (h0 : 0 ≤ i) (h1 : i < Int32.ofNat (uk_sLen.getD j 0)) (d : Nat) : uk_Meth G (d + 2) mJ1_charAt [.ref (uk_ad G (200 + j)), .int i] u (fun r u' => r = some (.int (((((uk_sByt.getD j []).getD i.toNatClampNeg 0) &&& 255).toUInt32 % 65536).toInt32)) ∧ u' = u) := by
  refine uk_Meth.of hs (by decide) (Nat.le_of_ble_eq_true rfl) (fun X => ?_)
  refine g_iload_n dJ1_charAt_3b067_0 rfl ?_
  refine g_aload_n dJ1_charAt_3b067_1 rfl ?_
  refine g_tlen hj rfl dJ1_charAt_3b067_2 ?_
  refine g_callS (M' := mJ0_checkIndex) (nA := 2) (As := [.int i, .int (Int32.ofNat (uk_sLen.getD j 0))]) ⟨by decide +kernel, by decide +kernel, by decide +kernel⟩ (by decide) uk_JL9 uk_JTcheck uk_JI0 uk_JKcheck rfl (cj_check hs h0 h1 d) (by omega) rfl (Nat.le_of_ble_eq_true rfl) dJ1_charAt_3b067_3 (fun r w q => ?_)
  obtain ⟨rfl, q2⟩ := q
  rw [q2]
  refine g_aload_n dJ1_charAt_3b067_6 rfl ?_
  refine g_iload_n dJ1_charAt_3b067_7 rfl ?_
  refine g_tb hj (uk_vin _ (uk_slen hj).1 h0 h1) dJ1_charAt_3b067_8 ?_
  refine g_sipush (v := 255) dJ1_charAt_3b067_9 (by decide) ?_
  refine g_iand dJ1_charAt_3b067_12 ?_
  refine g_i2c dJ1_charAt_3b067_13 ?_
  exact g_iret (ty := .char) dJ1_charAt_3b067_14 rfl (pk_nc _) ⟨rfl, rfl⟩
theorem cj_charAt {G : uk_D} (hs : uk_Sep G) {u : uk_Mem} {j : Nat} {i : Int32} (hj : j < 6) (h0 : 0 ≤ i) (h1 : i < Int32.ofNat (uk_sLen.getD j 0)) (d : Nat) : uk_Meth G (d + 3) mJ0_charAt [.ref (uk_ad G (100 + j)), .int i] u (fun r u' => r = some (.int (((((uk_sByt.getD j []).getD i.toNatClampNeg 0) &&& 255).toUInt32 % 65536).toInt32)) ∧ u' = u) := by
  refine uk_Meth.of hs (by decide) (Nat.le_of_ble_eq_true rfl) (fun X => ?_)
  refine g_aload_n dJ0_charAt_5068e_0 rfl ?_
  refine g_callT (M' := mJ0_isLatin1) (As := []) (nA := 0) hj rfl ⟨by decide +kernel, by decide +kernel, by decide +kernel⟩ (by decide) uk_JL492 uk_JIlatin uk_JSlatin uk_JI0 uk_JKlatin rfl (cj_isLatin1 hs hj (d + 2)) (by omega) rfl (Nat.le_of_ble_eq_true rfl) dJ0_charAt_5068e_1 (fun r v q => ?_)
  obtain ⟨rfl, q2⟩ := q
  rw [q2]
  refine g_if_eq (tgt := 16) dJ0_charAt_5068e_4 (by decide) (fun c => absurd c (by decide)) (fun c => ?_)
  refine g_aload_n dJ0_charAt_5068e_7 rfl ?_
  refine g_strval hj rfl dJ0_charAt_5068e_8 ?_
  refine g_iload_n dJ0_charAt_5068e_11 rfl ?_
  refine g_callS (M' := mJ1_charAt) (nA := 2) (As := [.ref (uk_ad G (200 + j)), .int i]) ⟨by decide +kernel, by decide +kernel, by decide +kernel⟩ (by decide) uk_JL495 uk_JTchar1 uk_JI1 uk_JKchar1 rfl (cj_charAt1 hs hj h0 h1 d) (by omega) rfl (Nat.le_of_ble_eq_true rfl) dJ0_charAt_5068e_12 (fun r v q => ?_)
  obtain ⟨rfl, q3⟩ := q
  rw [q3]
  exact g_iret (ty := .char) dJ0_charAt_5068e_15 rfl (pk_nc _) ⟨rfl, rfl⟩
section UKT
variable {G : uk_D} {X : uk_Cx} {M : uk_M} {d : Nat} {Q : Option Value → uk_Mem → Prop} {pc : Nat} {lv : List (Nat × Value)} {st : List Value} {u : uk_Mem}
theorem g_slen {j : Nat} (hs : uk_Sep G) (hj : j < 6) (hM : M.1.cls = RX4) (hdd : 2 ≤ d) (hc : (st.map fun v => v.category).sum ≤ 8) (hd : decode M.2.1 pc = .ok (.invokevirtual 35, 3)) (K : uk_G G X M d Q (pc + 3) lv (.int (Int32.ofNat (uk_sLen.getD j 0)) :: st) u) : uk_G G X M d Q pc lv (.ref (uk_ad G (100 + j)) :: st) u :=
  g_callT (M' := mJ0_length) (As := []) (nA := 0) hj rfl ⟨by decide +kernel, by decide +kernel, by decide +kernel⟩ (by decide) (by rw [hM]; exact uk_JL35) uk_JIlen uk_JSlen uk_JI0 uk_JKlen rfl (cj_length hs hj 0) (by omega) rfl hc hd (fun r v q => by
    obtain ⟨rfl, q2⟩ := q
    rw [q2]
    exact K)
theorem g_schar {j : Nat} {i : Int32} (hs : uk_Sep G) (hj : j < 6) (h0 : 0 ≤ i) (h1 : i < Int32.ofNat (uk_sLen.getD j 0)) (hM : M.1.cls = RX4) (hdd : 4 ≤ d) (hc : (st.map fun v => v.category).sum ≤ 8) (hd : decode M.2.1 pc = .ok (.invokevirtual 41, 3)) (K : uk_G G X M d Q (pc + 3) lv (.int (((((uk_sByt.getD j []).getD i.toNatClampNeg 0) &&& 255).toUInt32 % 65536).toInt32) :: st) u) : uk_G G X M d Q pc lv (.int i :: .ref (uk_ad G (100 + j)) :: st) u :=
  g_callT (M' := mJ0_charAt) (As := [.int i]) (nA := 1) hj rfl ⟨by decide +kernel, by decide +kernel, by decide +kernel⟩ (by decide) (by rw [hM]; exact uk_JL41) uk_JIchar uk_JSchar uk_JI0 uk_JKchar rfl (cj_charAt hs hj h0 h1 0) (by omega) rfl hc hd (fun r v q => by
    obtain ⟨rfl, q2⟩ := q
    rw [q2]
    exact K)
end UKT
