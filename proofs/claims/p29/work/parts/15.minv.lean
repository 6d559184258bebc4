/-! the reference: ranges in pieces, frames by lists of cells, what raw and made stuffs are -/
def frl (l : List Nat) (u u' : uk_Mem) : Prop := ∀ c, c ∉ l → u'.1 c = u.1 c ∧ u'.2 c = u.2 c
theorem frl_rf {l : List Nat} {u : uk_Mem} : frl l u u := fun _ _ => ⟨rfl, rfl⟩
theorem frl_up {l : List Nat} {c i : Nat} {x : Int32} {u u' : uk_Mem} (h : frl l u u') (hc : c ∈ l) : frl l u (uk_up u' c i x) := fun b hb => by
  have hn : ¬ b = c := fun q => hb (q ▸ hc)
  refine ⟨?_, (h b hb).2⟩
  rw [← (h b hb).1]
  unfold uk_up
  dsimp only
  rw [if_neg hn]
theorem frl_upL {l : List Nat} {c i : Nat} {x : Int64} {u u' : uk_Mem} (h : frl l u u') (hc : c ∈ l) : frl l u (uk_upL u' c i x) := fun b hb => by
  have hn : ¬ b = c := fun q => hb (q ▸ hc)
  refine ⟨(h b hb).1, ?_⟩
  rw [← (h b hb).2]
  unfold uk_upL
  dsimp only
  rw [if_neg hn]
theorem frl_tr {l l' : List Nat} {u u' u'' : uk_Mem} (h : frl l u u') (h' : frl l' u' u'') (hs : ∀ c ∈ l', c ∈ l) : frl l u u'' := fun c hc => by
  have hc' : c ∉ l' := fun q => hc (hs c q)
  exact ⟨(h' c hc').1.trans (h c hc).1, (h' c hc').2.trans (h c hc).2⟩
theorem frl_at {l : List Nat} {c i : Nat} {u u' : uk_Mem} (h : frl l u u') (hc : c ∉ l) : u'.1 c i = u.1 c i := by rw [(h c hc).1]
theorem uk_cln {i : Int32} (n : Nat) (N : Int32) (hN : N.toInt = (n : Int)) (h0 : 0 ≤ i) (h1 : i ≤ N) : i.toNatClampNeg ≤ n := by
  have a := Int32.le_iff_toInt_le.mp h1
  have b := Int32.le_iff_toInt_le.mp h0
  have z : (0 : Int32).toInt = 0 := rfl
  rw [hN] at a
  have : i.toNatClampNeg = i.toInt.toNat := rfl
  omega
theorem uk_cge {i : Int32} (n : Nat) (N : Int32) (hN : N.toInt = (n : Int)) (h1 : N ≤ i) : n ≤ i.toNatClampNeg := by
  have a := Int32.le_iff_toInt_le.mp h1
  rw [hN] at a
  have : i.toNatClampNeg = i.toInt.toNat := rfl
  omega
theorem uk_cinj {i j : Int32} (hi : 0 ≤ i) (hj : 0 ≤ j) (h : i.toNatClampNeg = j.toNatClampNeg) : i = j := by
  have a := Int32.le_iff_toInt_le.mp hi
  have b := Int32.le_iff_toInt_le.mp hj
  have z : (0 : Int32).toInt = 0 := rfl
  have e1 : i.toNatClampNeg = i.toInt.toNat := rfl
  have e2 : j.toNatClampNeg = j.toInt.toNat := rfl
  apply Int32.toInt_inj.mp
  omega
/-- the four rows of 51: which cells -/
def uk_is51 (c : Nat) : Prop := c = 61 ∨ c = 62 ∨ c = 66 ∨ c = 77
theorem sg_t1 : ∀ n, n < 8 → uk_rg 61 n = (0, 40) := by decide
theorem sg_t3 : ∀ n, n < 8 → uk_rg 61 (43 + n) = (0, 7) := by decide
theorem sg_t4 : ∀ n, n < 34 → uk_rg 61 (8 + n) = (-2147483648, 2147483647) := by decide
theorem sg_t5 : ∀ n, n < 51 → uk_rg 62 n = uk_rg 61 n := by decide
theorem sg_t6 : ∀ n, n < 51 → uk_rg 66 n = uk_rg 61 n := by decide
theorem sg_t7 : ∀ n, n < 51 → uk_rg 77 n = uk_rg 61 n := by decide
theorem sg_t8 : ∀ n, n < 51 → uk_rg 61 (51 + n) = uk_rg 61 n := by decide
theorem sg_t9 : ∀ n, n < 51 → uk_rg 61 (102 + n) = uk_rg 61 n := by decide
theorem sg_tab (n : Nat) (h : n < 51) : (n < 8 → uk_rg 61 n = (0, 40)) ∧ (n = 42 → uk_rg 61 n = (0, 8)) ∧ (43 ≤ n → uk_rg 61 n = (0, 7)) ∧ (8 ≤ n → n < 42 → uk_rg 61 n = (-2147483648, 2147483647)) ∧ uk_rg 62 n = uk_rg 61 n ∧ uk_rg 66 n = uk_rg 61 n ∧ uk_rg 77 n = uk_rg 61 n ∧ uk_rg 61 (51 + n) = uk_rg 61 n ∧ uk_rg 61 (102 + n) = uk_rg 61 n := by
  refine ⟨sg_t1 n, fun q => by rw [q]; rfl, fun q => ?_, fun q q2 => ?_, sg_t5 n h, sg_t6 n h, sg_t7 n h, sg_t8 n h, sg_t9 n h⟩
  · have := sg_t3 (n - 43) (by omega)
    rwa [show 43 + (n - 43) = n by omega] at this
  · have := sg_t4 (n - 8) (by omega)
    rwa [show 8 + (n - 8) = n by omega] at this
theorem sg_eq {c n : Nat} (hc : uk_is51 c) (hn : n < 51) : uk_rg c n = uk_rg 61 n := by
  obtain ⟨-, -, -, -, h1, h2, h3, -⟩ := sg_tab n hn
  rcases hc with rfl | rfl | rfl | rfl
  · rfl
  · exact h1
  · exact h2
  · exact h3
theorem sg_0 {u : uk_Mem} (h : iv u) {c : Nat} (hc : uk_is51 c) {i : Int32} (h0 : 0 ≤ i) (h1 : i ≤ 7) : 0 ≤ u.1 c i.toNatClampNeg ∧ u.1 c i.toNatClampNeg ≤ 40 := by
  have hl := uk_cln 7 7 rfl h0 h1
  exact iv_at h c _ ((sg_eq hc (by omega)).trans ((sg_tab _ (by omega)).1 (by omega)))
theorem sg_42 {u : uk_Mem} (h : iv u) {c : Nat} (hc : uk_is51 c) : 0 ≤ u.1 c 42 ∧ u.1 c 42 ≤ 8 := iv_at h c 42 ((sg_eq hc (by omega)).trans ((sg_tab _ (by omega)).2.1 rfl))
theorem sg_43 {u : uk_Mem} (h : iv u) {c : Nat} (hc : uk_is51 c) {i : Int32} (h0 : 43 ≤ i) (h1 : i ≤ 50) : 0 ≤ u.1 c i.toNatClampNeg ∧ u.1 c i.toNatClampNeg ≤ 7 := by
  have hl := uk_cln 50 50 rfl (by grind) h1
  have hg := uk_cge 43 43 rfl h0
  exact iv_at h c _ ((sg_eq hc (by omega)).trans ((sg_tab _ (by omega)).2.2.1 (by omega)))
theorem iv_st {u : uk_Mem} (h : iv u) {c : Nat} (hc : uk_is51 c) {i x : Int32} (h0 : 0 ≤ i) (h1 : i ≤ 50) (ha : i ≤ 7 → 0 ≤ x ∧ x ≤ 40) (hb : i = 42 → 0 ≤ x ∧ x ≤ 8) (hd : 43 ≤ i → 0 ≤ x ∧ x ≤ 7) : iv (uk_up u c i.toNatClampNeg x) := by
  have hl := uk_cln 50 50 rfl h0 h1
  have hn : i.toNatClampNeg < 51 := by omega
  obtain ⟨t1, t2, t3, t4, -⟩ := sg_tab _ hn
  by_cases q1 : i ≤ 7
  · have := uk_cln 7 7 rfl h0 q1
    exact iv_up h ((sg_eq hc hn).trans (t1 (by omega))) (ha q1).1 (ha q1).2
  · have g1 := uk_cge 8 8 rfl (show (8 : Int32) ≤ i by grind)
    by_cases q2 : i = 42
    · exact iv_up h ((sg_eq hc hn).trans (t2 (by rw [q2]; rfl))) (hb q2).1 (hb q2).2
    · by_cases q3 : 43 ≤ i
      · have g3 := uk_cge 43 43 rfl q3
        exact iv_up h ((sg_eq hc hn).trans (t3 g3)) (hd q3).1 (hd q3).2
      · have g4 := uk_cln 41 41 rfl h0 (show i ≤ 41 by grind)
        exact iv_upF h ((sg_eq hc hn).trans (t4 g1 (by omega)))
/-- a number goes from one row of 51 to the same place of another -/
theorem iv_cp {u v : uk_Mem} (h : iv v) (hu : iv u) {c c' : Nat} (hc : uk_is51 c) (hc' : uk_is51 c') {i : Nat} {x : Int32} (hi : i < 51) (hx : x = u.1 c i) : iv (uk_up v c' i x) := by
  have := hu c i
  rw [sg_eq hc hi] at this
  rw [← hx] at this
  exact iv_up h (lo := (uk_rg 61 i).1) (hi := (uk_rg 61 i).2) (sg_eq hc' hi) this.1 this.2
/-- made stuffs have parts below them -/
def rk (n : Int32) (K A B : Nat → Int32) (o : Int32) : Prop := ∀ m : Int32, 0 ≤ m → m < n → m ≤ 7 → K (o + m).toNatClampNeg = 4 ∨ (0 ≤ A m.toNatClampNeg ∧ A m.toNatClampNeg < m ∧ 0 ≤ B m.toNatClampNeg ∧ B m.toNatClampNeg < m)
def ri (u : uk_Mem) : Prop := rk (u.1 60 3) (u.1 61) (u.1 64) (u.1 65) 32 ∧ (u.1 63 0 = 0 ∨ rk (u.1 60 3) (u.1 61) (u.1 64) (u.1 65) 83) ∧ (u.1 63 1 = 0 ∨ rk (u.1 60 3) (u.1 61) (u.1 64) (u.1 65) 134)
/-- the row 'at' has the same kinds -/
def ra (u : uk_Mem) : Prop := rk (u.1 60 3) (u.1 62) (u.1 64) (u.1 65) 32
theorem ri_kp {u u' : uk_Mem} (h : ri u) (h0 : u'.1 60 3 = u.1 60 3) (h1 : u'.1 61 = u.1 61) (h3 : u'.1 63 = u.1 63) (h4 : u'.1 64 = u.1 64) (h5 : u'.1 65 = u.1 65) : ri u' := by
  unfold ri
  rw [h0, h1, h3, h4, h5]
  exact h
theorem ra_kp {u u' : uk_Mem} (h : ra u) (h0 : u'.1 60 3 = u.1 60 3) (h1 : u'.1 62 = u.1 62) (h4 : u'.1 64 = u.1 64) (h5 : u'.1 65 = u.1 65) : ra u' := by
  unfold ra
  rw [h0, h1, h4, h5]
  exact h
theorem rk_eq {n o o' : Int32} {K K' A B : Nat → Int32} (h : rk n K A B o) (he : ∀ m : Int32, 0 ≤ m → m ≤ 7 → K' (o' + m).toNatClampNeg = K (o + m).toNatClampNeg) : rk n K' A B o' := fun m h0 h1 h2 => by
  rw [he m h0 h2]
  exact h m h0 h1 h2
/-- which cells may change, and which slots of the reference's own cell may not -/
def fk (l ks : List Nat) (u u' : uk_Mem) : Prop := frl l u u' ∧ ∀ k ∈ ks, u'.1 60 k = u.1 60 k
theorem fk_rf {l ks : List Nat} {u : uk_Mem} : fk l ks u u := ⟨frl_rf, fun _ _ => rfl⟩
theorem fk_up {l ks : List Nat} {c i : Nat} {x : Int32} {u u' : uk_Mem} (h : fk l ks u u') (hc : c ∈ l) (hi : c = 60 → i ∉ ks) : fk l ks u (uk_up u' c i x) := ⟨frl_up h.1 hc, fun k hk => by
  have hq : ¬ (60 = c ∧ k = i) := fun q => hi q.1.symm (q.2 ▸ hk)
  rw [uk_up_at, if_neg hq]
  exact h.2 k hk⟩
theorem fk_upL {l ks : List Nat} {c i : Nat} {x : Int64} {u u' : uk_Mem} (h : fk l ks u u') (hc : c ∈ l) : fk l ks u (uk_upL u' c i x) := ⟨frl_upL h.1 hc, h.2⟩
theorem fk_tr {l ks l' ks' : List Nat} {u u' u'' : uk_Mem} (h : fk l ks u u') (h' : fk l' ks' u' u'') (hs : ∀ c ∈ l', c ∈ l) (hk : 60 ∉ l' ∨ ∀ k ∈ ks, k ∈ ks') : fk l ks u u'' := ⟨frl_tr h.1 h'.1 hs, fun k q => by
  rw [← h.2 k q]
  rcases hk with hk | hk
  · rw [(h'.1 60 hk).1]
  · exact h'.2 k (hk k q)⟩
theorem fk_at {l ks : List Nat} {c i : Nat} {u u' : uk_Mem} (h : fk l ks u u') (hc : c ∉ l ∨ (c = 60 ∧ i ∈ ks)) : u'.1 c i = u.1 c i := by
  rcases hc with hc | ⟨rfl, hc⟩
  · exact frl_at h.1 hc
  · exact h.2 i hc
theorem fk_c {l ks : List Nat} {c : Nat} {u u' : uk_Mem} (h : fk l ks u u') (hc : c ∉ l) : u'.1 c = u.1 c := (h.1 c hc).1
theorem ri_fk {l ks : List Nat} {u u' : uk_Mem} (h : ri u) (f : fk l ks u u') (h0 : 60 ∉ l ∨ (60 = 60 ∧ 3 ∈ ks)) (h1 : 61 ∉ l) (h3 : 63 ∉ l) (h4 : 64 ∉ l) (h5 : 65 ∉ l) : ri u' := ri_kp h (fk_at f h0) (fk_c f h1) (fk_c f h3) (fk_c f h4) (fk_c f h5)
theorem ra_fk {l ks : List Nat} {u u' : uk_Mem} (h : ra u) (f : fk l ks u u') (h0 : 60 ∉ l ∨ (60 = 60 ∧ 3 ∈ ks)) (h1 : 62 ∉ l) (h4 : 64 ∉ l) (h5 : 65 ∉ l) : ra u' := ra_kp h (fk_at f h0) (fk_c f h1) (fk_c f h4) (fk_c f h5)
theorem ri_1 {c i : Nat} {x : Int32} {u : uk_Mem} (h : ri u) (hc : c ≠ 61 ∧ c ≠ 63 ∧ c ≠ 64 ∧ c ≠ 65) (h3 : c = 60 → i ≠ 3) : ri (uk_up u c i x) := by
  refine ri_kp h ?_ ?_ ?_ ?_ ?_
  · rw [uk_up_at, if_neg (fun q => h3 q.1.symm q.2.symm)]
  · simp [uk_up, hc.1.symm]
  · simp [uk_up, hc.2.1.symm]
  · simp [uk_up, hc.2.2.1.symm]
  · simp [uk_up, hc.2.2.2.symm]
theorem ra_1 {c i : Nat} {x : Int32} {u : uk_Mem} (h : ra u) (hc : c ≠ 62 ∧ c ≠ 64 ∧ c ≠ 65) (h3 : c = 60 → i ≠ 3) : ra (uk_up u c i x) := by
  refine ra_kp h ?_ ?_ ?_ ?_
  · rw [uk_up_at, if_neg (fun q => h3 q.1.symm q.2.symm)]
  · simp [uk_up, hc.1.symm]
  · simp [uk_up, hc.2.1.symm]
  · simp [uk_up, hc.2.2.symm]
/-- a number of st, not a kind: the kinds stay -/
theorem rk_up {n o : Int32} {K A B : Nat → Int32} {i x : Int32} (h : rk n K A B o) (hi : 0 ≤ i) (ho : 0 ≤ o ∧ o ≤ 200) (hn : ∀ m : Int32, 0 ≤ m → m ≤ 7 → ¬ o + m = i) : rk n (upd K i.toNatClampNeg x) A B o := fun m h0 h1 h2 => by
  have : ¬ (o + m).toNatClampNeg = i.toNatClampNeg := fun q => hn m h0 h2 (uk_cinj (by grind) hi q)
  unfold upd
  rw [if_neg this]
  exact h m h0 h1 h2
theorem ri_st {u : uk_Mem} (h : ri u) {i x : Int32} (h0 : 0 ≤ i) (h1 : i ≤ 31 ∨ (40 ≤ i ∧ i ≤ 50)) : ri (uk_up u 61 i.toNatClampNeg x) := by
  have e : ∀ c, ¬ c = 61 → (uk_up u 61 i.toNatClampNeg x).1 c = u.1 c := fun c hc => by simp [uk_up, hc]
  have e1 : (uk_up u 61 i.toNatClampNeg x).1 61 = upd (u.1 61) i.toNatClampNeg x := uk_up_self 61 _ x
  unfold ri
  rw [e 60 (by decide), e 63 (by decide), e 64 (by decide), e 65 (by decide), e1]
  exact ⟨rk_up h.1 h0 (by decide) (by grind), h.2.1.imp_right fun q => rk_up q h0 (by decide) (by grind), h.2.2.imp_right fun q => rk_up q h0 (by decide) (by grind)⟩
theorem ra_at {u : uk_Mem} (h : ra u) {i x : Int32} (h0 : 0 ≤ i) (h1 : i ≤ 31 ∨ (40 ≤ i ∧ i ≤ 50)) : ra (uk_up u 62 i.toNatClampNeg x) := by
  have e : ∀ c, ¬ c = 62 → (uk_up u 62 i.toNatClampNeg x).1 c = u.1 c := fun c hc => by simp [uk_up, hc]
  have e1 : (uk_up u 62 i.toNatClampNeg x).1 62 = upd (u.1 62) i.toNatClampNeg x := uk_up_self 62 _ x
  unfold ra
  rw [e 60 (by decide), e 64 (by decide), e 65 (by decide), e1]
  exact rk_up h h0 (by decide) (by grind)
/-- a made stuff changes its kind -/
theorem ri_kind {u : uk_Mem} (h : ri u) {m i x : Int32} (h0 : 0 ≤ m) (h1 : m ≤ 7) (h2 : m < u.1 60 3) (hi : i = 32 + m) (hk : ¬ u.1 61 (32 + m).toNatClampNeg = 4) : ri (uk_up u 61 i.toNatClampNeg x) := by
  have e : ∀ c, ¬ c = 61 → (uk_up u 61 i.toNatClampNeg x).1 c = u.1 c := fun c hc => by simp [uk_up, hc]
  have e1 : (uk_up u 61 i.toNatClampNeg x).1 61 = upd (u.1 61) i.toNatClampNeg x := uk_up_self 61 _ x
  unfold ri
  rw [e 60 (by decide), e 63 (by decide), e 64 (by decide), e 65 (by decide), e1]
  refine ⟨fun m' g0 g1 g2 => ?_, h.2.1.imp_right fun q => rk_up q (by grind) (by decide) (by grind), h.2.2.imp_right fun q => rk_up q (by grind) (by decide) (by grind)⟩
  by_cases q : m' = m
  · subst q
    exact Or.inr ((h.1 m' g0 g1 g2).resolve_left hk)
  · have : ¬ (32 + m').toNatClampNeg = i.toNatClampNeg := fun z => q (by have := uk_cinj (by grind) (by grind) z; grind)
    unfold upd
    rw [if_neg this]
    exact h.1 m' g0 g1 g2
theorem uk_up_oc {u : uk_Mem} {b c i : Nat} {x : Int32} (h : b ≠ c) : (uk_up u c i x).1 b = u.1 b := by simp [uk_up, h]
theorem uk_ups {P : Int32 → Prop} (B : Int32) (h : ∀ i, 0 ≤ i → i ≤ B → (∀ j, i < j → j ≤ B → P j) → P i) : ∀ i, 0 ≤ i → i ≤ B → P i := by
  have key : ∀ (n : Nat) (i : Int32), 0 ≤ i → i ≤ B → (B.toInt - i.toInt).toNat ≤ n → P i := by
    intro n
    induction n with
    | zero =>
      intro i h0 h1 h2
      refine h i h0 h1 (fun j q q2 => ?_)
      have a := Int32.lt_iff_toInt_lt.mp q
      have b := Int32.le_iff_toInt_le.mp q2
      omega
    | succ n ih =>
      intro i h0 h1 h2
      refine h i h0 h1 (fun j q q2 => ih j (by grind) q2 ?_)
      have a := Int32.lt_iff_toInt_lt.mp q
      have b := Int32.le_iff_toInt_le.mp q2
      omega
  exact fun i h0 h1 => key _ i h0 h1 (Nat.le_refl _)
theorem uk_q {a b : Int32} : a.toInt64 < b.toInt64 ↔ a < b := by
  rw [Int64.lt_iff_toInt_lt, Int32.lt_iff_toInt_lt, Int32.toInt_toInt64, Int32.toInt_toInt64]
abbrev q_X7_in (u : uk_Mem) (v lo hi : Int32) (r : Option Value) (u' : uk_Mem) : Prop := (∃ x : Int32, r = some (.int x) ∧ (x = 0 ∨ x = 1) ∧ (¬ x = 0 → lo ≤ v ∧ v ≤ hi) ∧ (x = 0 → v < lo ∨ hi < v)) ∧ (u' = u)
theorem c_X7_in {G : uk_D} (hs : uk_Sep G) {u : uk_Mem} (hu : iv u) (v lo hi : Int32) (d : Nat) : uk_Meth G d mX7_in [.long (Int32.toInt64 v), .long (Int32.toInt64 lo), .long (Int32.toInt64 hi)] u (q_X7_in u v lo hi) := by
  refine uk_Meth.of hs (by decide) (Nat.le_of_ble_eq_true rfl) (fun X => ?_)
  refine g_lload_n dX7_in_0 rfl ?_
  refine g_lload_n dX7_in_1 rfl ?_
  refine g_lcmp dX7_in_2 ?_
  refine g_if_lt (tgt := 17) dX7_in_3 (by decide) (fun c => ?_) (fun c => ?_)
  · refine g_iconst (v := 0) dX7_in_17 (by decide) ?_
    rw [lg_cmp_lt, uk_q] at c
    exact g_iret (ty := .boolean) dX7_in_18 rfl rfl ⟨⟨0, rfl, Or.inl rfl, fun q => absurd rfl q, fun _ => Or.inl c⟩, rfl⟩
  · refine g_lload_n dX7_in_6 rfl ?_
    refine g_lload dX7_in_7 rfl ?_
    refine g_lcmp dX7_in_9 ?_
    rw [lg_cmp_lt, uk_q] at c
    refine g_if_gt (tgt := 17) dX7_in_10 (by decide) (fun c2 => ?_) (fun c2 => ?_)
    · refine g_iconst (v := 0) dX7_in_17 (by decide) ?_
      rw [lg_cmp_gt, uk_q] at c2
      exact g_iret (ty := .boolean) dX7_in_18 rfl rfl ⟨⟨0, rfl, Or.inl rfl, fun q => absurd rfl q, fun _ => Or.inr c2⟩, rfl⟩
    · rw [lg_cmp_gt, uk_q] at c2
      refine g_iconst (v := 1) dX7_in_13 (by decide) ?_
      refine g_goto (tgt := 18) dX7_in_14 (by decide) ?_
      exact g_iret (ty := .boolean) dX7_in_18 rfl rfl ⟨⟨1, rfl, Or.inr rfl, fun _ => by grind, fun q => absurd q (by decide)⟩, rfl⟩
