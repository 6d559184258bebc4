/-! doings read from a sheet -/
theorem does6_c {u : uk_Mem} {g : Int32} {d : Nat} (h : d < 13 ∨ 22 ≤ d) : (e_X6_does u g).2.1 d = u.1 d := by
  unfold e_X6_does
  dsimp only
  split
  · rfl
  · split
    · rfl
    · dsimp only
      by_cases q : g < 10
      · exact funext fun j => by rw [pf_lo q, if_neg (by omega), mc_c (by omega)]
      · exact funext fun j => by rw [pf_hi q, if_neg (by omega), fh_c (by omega), mt_c (by omega)]
/-- a sheet on both sides -/
def S1 (u v : uk_Mem) (k : Nat) : Prop := ((u.1 50 k = -1 ∧ v.1 74 k = -4) ∨ (u.1 50 k = v.1 74 k ∧ 0 ≤ u.1 50 k ∧ u.1 50 k ≤ 2)) ∧ u.1 51 k = v.1 75 k ∧ ∀ i, i < 40 → u.1 (53 + k) i = v.1 76 (i + 40 * k)
/-- what both have while they read -/
def RDI (u v : uk_Mem) (k : Nat) : Prop := iv v ∧ ri v ∧ KR u v 13 61 0 ∧ KR u v 4 77 0 ∧ S1 u v k ∧ (0 ≤ v.1 75 k ∧ v.1 75 k ≤ 40) ∧ v.1 77 42 ≤ 8 ∧ 0 ≤ v.1 77 42
theorem RDI_does {u v : uk_Mem} {k : Nat} {g : Int32} (hk : k < 4) (h : RDI u v k) : (e_X6_does u g).1 = (e_X7_does v g).1 ∧ RDI (e_X6_does u g).2 (e_X7_does v g).2 k := by
  obtain ⟨hv, hri, K, K4, ⟨s1, s2, s3⟩, z, y1, y2⟩ := h
  obtain ⟨a, b⟩ := does_e (g := g) hv hri K
  obtain ⟨c1, c2⟩ := iv_does (g := g) hv hri
  have o : ∀ d, ¬ d = 61 → ¬ d = 62 → (e_X7_does v g).2.1 d = v.1 d := fun d h1 h2 => does_c h1 h2
  refine ⟨a, c1, c2, b, KR_cg K4 (fun d d1 d2 => does6_c (by omega)) (by rw [o 60 (by omega) (by omega)]) (o 77 (by omega) (by omega)) (o 64 (by omega) (by omega)) (o 65 (by omega) (by omega)), ⟨?_, ?_, fun i hi => ?_⟩, ?_, ?_, ?_⟩
  · rw [does6_c (by omega), o 74 (by omega) (by omega)]
    exact s1
  · rw [does6_c (by omega), o 75 (by omega) (by omega)]
    exact s2
  · rw [does6_c (by omega), o 76 (by omega) (by omega)]
    exact s3 i hi
  · rw [o 75 (by omega) (by omega)]
    exact z
  · rw [o 77 (by omega) (by omega)]
    exact y1
  · rw [o 77 (by omega) (by omega)]
    exact y2
/-- the row is put back -/
theorem back_l {t : Int32} : ∀ (K : Nat) (i : Int32) (m : uk_Mem), ee_F 51 i K → 0 ≤ i → i ≤ 51 → (l_X7_read_167 t K i m).1 = -20 - t ∧ (∀ c, ¬ c = 61 → (l_X7_read_167 t K i m).2.1 c = m.1 c) ∧ ∀ j, (l_X7_read_167 t K i m).2.1 61 j = if i.toNatClampNeg ≤ j ∧ j < 51 then m.1 77 j else m.1 61 j := by
  intro K
  induction K with
  | zero =>
    intro i m f h0 h1
    obtain ⟨j, hj⟩ := ee_Fp h1 f
    omega
  | succ K ih =>
    intro i m f h0 h1
    rw [l_X7_read_167]
    by_cases q : (51 : Int32) ≤ i
    · rw [if_pos q]
      have := uk_cge 51 51 rfl q
      refine ⟨rfl, fun _ _ => rfl, fun j => ?_⟩
      rw [if_neg (by omega)]
    · rw [if_neg q]
      dsimp only
      have hc := uk_c1 h0 (by lia)
      have hl := uk_cln 50 50 rfl h0 (by lia)
      obtain ⟨a, b, c⟩ := ih (i + 1) (uk_up m 61 i.toNatClampNeg (m.1 77 i.toNatClampNeg)) (ee_Fs f (by lia)) (by lia) (by lia)
      refine ⟨a, fun d hd => (b d hd).trans (uk_up_oc hd), fun j => ?_⟩
      rw [c j, hc, uk_up_oc (by decide), uk_up_at]
      generalize i.toNatClampNeg = k at *
      grind
/-- what a read leaves, against what it began with -/
def RDO (u v u' v' : uk_Mem) : Prop := KR u' v' 13 61 0 ∧ (∀ d, ¬ d = 0 → (d < 4 ∨ 22 ≤ d) → u'.1 d = u.1 d) ∧ (∀ j, ¬ j = 14 → u'.1 0 j = u.1 0 j) ∧ (∀ j, 51 ≤ j → v'.1 61 j = v.1 61 j) ∧ (u.1 0 14 = v.1 60 28 → u'.1 0 14 = v'.1 60 28)
theorem lg_a {a b : Int64} : lg_cmp a b < 0 ↔ a < b := lg_cmp_lt a b
theorem i64_add {f i : Int32} (h0 : 0 ≤ i) (h1 : i ≤ 20) : (f.toInt64 + i.toInt64).toInt = f.toInt + i.toInt := by
  have a := Int32.toInt_lt f
  have b := Int32.le_toInt f
  have c := Int32.toInt_lt i
  have d := Int32.le_toInt i
  rw [Int64.toInt_add, Int32.toInt_toInt64, Int32.toInt_toInt64]
  exact Int.bmod_eq_of_le (by omega) (by omega)
/-- the place that is read, by ints and by longs -/
theorem pl_lt {f i s : Int32} (h0 : 0 ≤ i) (h1 : i ≤ 20) (s0 : 0 ≤ s) (s40 : s ≤ 40) : ((f.toInt64 + i.toInt64 < 0) ∨ ¬ (f.toInt64 + i.toInt64 < s.toInt64)) ↔ (f + i < 0 ∨ ¬ f + i < s) := by
  have e := i64_add (f := f) h0 h1
  have a := Int32.toInt_lt f
  have b := Int32.le_toInt f
  have c := Int32.le_iff_toInt_le.mp h0
  have d := Int32.le_iff_toInt_le.mp h1
  have s1 := Int32.le_iff_toInt_le.mp s0
  have s2 := Int32.le_iff_toInt_le.mp s40
  have z : (0 : Int32).toInt = 0 := rfl
  have z64 : (0 : Int64).toInt = 0 := rfl
  have z20 : (20 : Int32).toInt = 20 := rfl
  have z40 : (40 : Int32).toInt = 40 := rfl
  rw [Int64.lt_iff_toInt_lt, Int64.lt_iff_toInt_lt, Int32.lt_iff_toInt_lt, Int32.lt_iff_toInt_lt, e, Int32.toInt_toInt64, z64, z, Int32.toInt_add]
  rw [z] at c s1
  rw [z20] at d
  rw [z40] at s2
  by_cases q : f.toInt + i.toInt < 2147483648
  · rw [Int.bmod_eq_of_le (by omega) (by omega)]
  · have hb : (f.toInt + i.toInt).bmod (2 ^ 32) = f.toInt + i.toInt - 4294967296 := by
      have hm : (f.toInt + i.toInt) % ((2 ^ 32 : Nat) : Int) = f.toInt + i.toInt := Int.emod_eq_of_lt (by omega) (by omega)
      unfold Int.bmod
      dsimp only
      rw [hm, if_neg (by omega)]
      omega
    rw [hb]
    omega
theorem read_l {n f k l : Int32} (hk : 0 ≤ k ∧ k ≤ 3) (hl : 0 ≤ l ∧ l ≤ 2) (n0 : 0 ≤ n) (n20 : n ≤ 20) : ∀ (K : Nat) (i : Int32) (u v : uk_Mem), ee_F n i K → 0 ≤ i → i ≤ n → RDI u v k.toNatClampNeg → (l_X6_read_42 n f k l K i u).1 = (l_X7_read_62 n f k l K i 0 i v).1 ∧ RDO u v (l_X6_read_42 n f k l K i u).2 (l_X7_read_62 n f k l K i 0 i v).2 := by
  have c3 := uk_cln 3 3 rfl hk.1 hk.2
  intro K
  induction K with
  | zero =>
    intro i u v F h0 h1
    obtain ⟨j, hj⟩ := ee_Fp h1 F
    omega
  | succ K ih =>
    intro i u v F h0 h1 h
    have hh := h
    obtain ⟨hv, hri, KK, K4, ⟨s1, s2, s3⟩, z, y1, y2⟩ := hh
    rw [l_X6_read_42, l_X7_read_62]
    dsimp only
    -- both stop with the same fault
    have stop : ∀ r : Int32, RDO u v (uk_up u 0 14 r) (uk_up v 60 28 r) := fun r => by
      refine ⟨KR_cg KK (fun d d1 d2 => uk_up_oc (by omega)) (by rw [uk_up_at, if_neg (by decide)]) (uk_up_oc (by decide)) (uk_up_oc (by decide)) (uk_up_oc (by decide)), fun d d1 d2 => uk_up_oc d1, fun j hj => by rw [uk_up_at, if_neg (fun w => hj w.2)], fun j hj => by rw [uk_up_oc (by decide)], fun _ => ?_⟩
      rw [uk_up_at, if_pos ⟨rfl, rfl⟩, uk_up_at, if_pos ⟨rfl, rfl⟩]
    by_cases q : n ≤ i
    · rw [if_pos q, if_pos q]
      exact ⟨(show n = i by lia), stop 0⟩
    · rw [if_neg q, if_neg q, if_pos rfl]
      have F' := ee_Fs F (show i < i + 1 by lia)
      -- the reference goes on once more, and stops
      have go : ∀ r : Int32, ¬ r = 0 → l_X7_read_62 n f k l K (i + 1) r i v = (i, uk_up v 60 28 r) := fun r hr => by
        obtain ⟨K', rfl⟩ := ee_Fp (show i + 1 ≤ n by lia) F'
        rw [l_X7_read_62]
        by_cases w : n ≤ i + 1
        · rw [if_pos w]
        · rw [if_neg w, if_neg hr]
      have fin : ∀ r : Int32, ¬ r = 0 → (i, uk_up u 0 14 r).1 = (l_X7_read_62 n f k l K (i + 1) r i v).1 ∧ RDO u v (i, uk_up u 0 14 r).2 (l_X7_read_62 n f k l K (i + 1) r i v).2 := fun r hr => by
        rw [go r hr]
        exact ⟨rfl, stop r⟩
      unfold e_X3_faultAs e_X3_faultAt e_X3_isNothing
      dsimp only
      by_cases p : u.1 50 k.toNatClampNeg = -1
      · have p4 : v.1 74 k.toNatClampNeg = -4 := by
          rcases s1 with w | w
          · exact w.2
          · exfalso
            have := w.2.1
            rw [p] at this
            exact absurd this (by decide)
        simp only [if_pos p, if_pos p4, if_neg one0]
        exact fin 1 (by decide)
      · have s1 := s1.resolve_left (fun w => p w.1)
        have p4 : ¬ v.1 74 k.toNatClampNeg = -4 := fun w => by
          have := s1.2.1
          rw [s1.1, w] at this
          exact absurd this (by decide)
        simp only [if_neg p, if_neg p4, if_true]
        rw [s1.1]
        by_cases e : v.1 74 k.toNatClampNeg = l
        · rw [if_pos e, if_pos e]
          have pe := pl_lt (f := f) (i := i) (s := v.1 75 k.toNatClampNeg) h0 (by lia) z.1 z.2
          rw [s2]
          by_cases g : f + i < 0 ∨ ¬ f + i < v.1 75 k.toNatClampNeg
          · have x2 : (if f + i < 0 then (2 : Int32) else if f + i < v.1 75 k.toNatClampNeg then 0 else 2) = 2 := by
              by_cases g1 : f + i < 0
              · rw [if_pos g1]
              · rw [if_neg g1, if_neg (g.resolve_left g1)]
            rw [x2, if_neg (by decide)]
            have g' := pe.mpr g
            by_cases g1 : f.toInt64 + i.toInt64 < 0
            · rw [if_pos (lg_a.mpr g1)]
              exact fin 2 (by decide)
            · rw [if_neg (fun w => g1 (lg_a.mp w)), if_neg (fun w => (g'.resolve_left g1) (lg_a.mp w))]
              exact fin 2 (by decide)
          · have g1 : ¬ f + i < 0 := fun w => g (Or.inl w)
            have g2 : f + i < v.1 75 k.toNatClampNeg := Classical.byContradiction fun w => g (Or.inr w)
            have g' : ¬ (f.toInt64 + i.toInt64 < 0 ∨ ¬ f.toInt64 + i.toInt64 < (v.1 75 k.toNatClampNeg).toInt64) := fun w => g (pe.mp w)
            have g3 : ¬ f.toInt64 + i.toInt64 < 0 := fun w => g' (Or.inl w)
            have g4 : f.toInt64 + i.toInt64 < (v.1 75 k.toNatClampNeg).toInt64 := Classical.byContradiction fun w => g' (Or.inr w)
            rw [if_neg g1, if_pos g2, if_pos rfl, if_neg (fun w => g3 (lg_a.mp w)), if_pos (lg_a.mpr g4), Int32.add_assoc, ix_40 hk.1 hk.2 (by lia) (by lia)]
            have p39 : f + i ≤ 39 := by lia
            have c39 := uk_cln 39 39 rfl (show 0 ≤ f + i by lia) p39
            have hcell : u.1 (52 + 1 + k.toNatClampNeg) (f + i).toNatClampNeg = v.1 76 ((f + i).toNatClampNeg + 40 * k.toNatClampNeg) := by
              rw [show 52 + 1 + k.toNatClampNeg = 53 + k.toNatClampNeg by omega]
              exact s3 _ (by omega)
            rw [hcell]
            generalize v.1 76 ((f + i).toNatClampNeg + 40 * k.toNatClampNeg) = cell
            obtain ⟨a, R⟩ := RDI_does (g := cell) (by omega) h
            have fr1 : ∀ d, (d < 13 ∨ 22 ≤ d) → (e_X6_does u cell).2.1 d = u.1 d := fun d hd => does6_c hd
            have fr2 : ∀ d, ¬ d = 61 → ¬ d = 62 → (e_X7_does v cell).2.1 d = v.1 d := fun d d1 d2 => does_c d1 d2
            rw [a]
            by_cases x : 0 ≤ (e_X7_does v cell).1
            · rw [if_pos x, if_pos x]
              obtain ⟨b1, B1, B2, B3, B4, B5⟩ := ih (i + 1) (e_X6_does u cell).2 (e_X7_does v cell).2 F' (by lia) (by lia) R
              refine ⟨b1, B1, fun d d1 d2 => (B2 d d1 d2).trans (fr1 d (by omega)), fun j hj => (B3 j hj).trans (by rw [fr1 0 (by omega)]), fun j hj => (B4 j hj).trans (does_o hj), fun w => B5 ?_⟩
              rw [fr1 0 (by omega), fr2 60 (by omega) (by omega)]
              exact w
            · rw [if_neg x, if_neg x]
              obtain ⟨hv', hri', KK', K4', -, -, y1', y2'⟩ := R
              have hn' : 0 ≤ (e_X7_does v cell).2.1 60 3 ∧ (e_X7_does v cell).2.1 60 3 ≤ 8 := iv_at hv' 60 3 rfl
              obtain ⟨l1, l2, l3⟩ := back_l (t := i) ee_K 0 (e_X7_does v cell).2 (ee_F0 _ _) (by decide) (by decide)
              have d134 : Dj 13 4 := Dj_of uk_isK13 uk_isK4 (by decide)
              refine ⟨l1.symm, ?_, fun d d1 d2 => ?_, fun j hj => ?_, fun j hj => ?_, fun w => ?_⟩
              · refine KR_row (KR_copy d134 K4' (uk_cln 8 8 rfl hn'.1 hn'.2) (uk_cln 8 8 rfl y2' y1')) hn'.2 y1' (by rw [l2 60 (by omega)]) (fun j hj => ?_) (l2 64 (by omega)) (l2 65 (by omega))
                rw [Nat.add_zero, l3 j, if_pos ⟨Nat.zero_le _, hj⟩]
              · rw [cf_o d134 (by omega)]
                exact fr1 d (by omega)
              · rw [cf_o d134 (by omega), fr1 0 (by omega)]
              · rw [l3 j, if_neg (by omega)]
                exact does_o hj
              · rw [cf_o d134 (by omega), fr1 0 (by omega), l2 60 (by omega), fr2 60 (by omega) (by omega)]
                exact w
        · rw [if_neg e, if_neg e, if_neg (by decide)]
          exact fin 3 (by decide)
/-- the row is kept aside -/
theorem had_l {n f k l : Int32} : ∀ (K : Nat) (i : Int32) (m : uk_Mem), ee_F 51 i K → 0 ≤ i → i ≤ 51 → ∃ w : uk_Mem, l_X7_read_26 n f k l K i m = l_X7_read_62 n f k l ee_K 0 0 0 w ∧ (∀ c, ¬ c = 77 → w.1 c = m.1 c) ∧ ∀ j, w.1 77 j = if i.toNatClampNeg ≤ j ∧ j < 51 then m.1 61 j else m.1 77 j := by
  intro K
  induction K with
  | zero =>
    intro i m f h0 h1
    obtain ⟨j, hj⟩ := ee_Fp h1 f
    omega
  | succ K ih =>
    intro i m F h0 h1
    rw [l_X7_read_26]
    by_cases q : (51 : Int32) ≤ i
    · rw [if_pos q]
      have := uk_cge 51 51 rfl q
      refine ⟨m, rfl, fun _ _ => rfl, fun j => ?_⟩
      rw [if_neg (by omega)]
    · rw [if_neg q]
      dsimp only
      have hc := uk_c1 h0 (by lia)
      have hl := uk_cln 50 50 rfl h0 (by lia)
      obtain ⟨w, a, b, c⟩ := ih (i + 1) (uk_up m 77 i.toNatClampNeg (m.1 61 i.toNatClampNeg)) (ee_Fs F (by lia)) (by lia) (by lia)
      refine ⟨w, a, fun d hd => (b d hd).trans (uk_up_oc hd), fun j => ?_⟩
      rw [c j, hc, uk_up_oc (by decide), uk_up_at]
      generalize i.toNatClampNeg = k at *
      grind
theorem read_R {u u1 u2 : uk_Mem} {k l f n : Int32} (h : REL u) (hu : iv u) (hri : ri u) (e1 : u1 = (e_X6_read u k l f n).2) (e2 : u2 = (e_X7_read u1 k l f n).2) (F1 : fr 0 22 u u1) (F2 : fk [60, 61, 62, 77] [3, 7, 10, 11, 13, 14, 15, 16, 17, 18, 19, 22] u1 u2) (hv1 : iv u1) : (e_X6_read u k l f n).1 = (e_X7_read u1 k l f n).1 ∧ REL u2 := by
  have hn : 0 ≤ u.1 60 3 ∧ u.1 60 3 ≤ 8 := iv_at hu 60 3 rfl
  have n8 := uk_cln 8 8 rfl hn.1 hn.2
  have s0 := iv_42 hu (T := 0) (by omega)
  have s8 := uk_cln 8 8 rfl s0.1 s0.2
  have hh := h
  obtain ⟨K0, ⟨i0, i1⟩, K1, K2, ⟨t1, t2, t3, t4⟩, sh⟩ := hh
  have c22 : ∀ d, 22 ≤ d → u1.1 d = u.1 d := fun d hd => F1.1 d (Or.inr hd)
  unfold e_X6_read at e1 ⊢
  unfold e_X7_read at e2 ⊢
  dsimp only at e1 e2 ⊢
  rw [sheet6, lane6] at e1 ⊢
  rw [isSheet_e (u := u)] at e2 ⊢
  by_cases hk : 0 ≤ k ∧ k ≤ 3
  · by_cases hl : 0 ≤ l ∧ l ≤ 2
    · have h4 : 0 ≤ k ∧ k ≤ 3 ∧ 0 ≤ l ∧ l ≤ 2 := ⟨hk.1, hk.2, hl.1, hl.2⟩
      simp only [if_pos hk, if_pos hl, if_pos h4, if_neg one0] at e1 e2 ⊢
      by_cases hn2 : 0 ≤ n ∧ n ≤ 20
      · rw [if_neg (show ¬ n < 0 by lia), if_pos hn2.2] at e1 ⊢
        rw [show e_X7_in u1 n 0 20 = 1 from if_pos hn2, if_neg one0] at e2 ⊢
        have c3 := uk_cln 3 3 rfl hk.1 hk.2
        obtain ⟨w, a, b, c⟩ := had_l (n := n) (f := f) (k := k) (l := l) ee_K 0 u1 (ee_F0 _ _) (by decide) (by decide)
        have z0 : (0 : Int32).toNatClampNeg = 0 := rfl
        rw [z0] at c
        rw [a] at e2 ⊢
        have d413 : Dj 4 13 := Dj_of uk_isK4 uk_isK13 (by decide)
        have w60 : w.1 60 = u.1 60 := (b 60 (by omega)).trans (c22 60 (by omega))
        have w61 : w.1 61 = u.1 61 := (b 61 (by omega)).trans (c22 61 (by omega))
        have w64 : w.1 64 = u.1 64 := (b 64 (by omega)).trans (c22 64 (by omega))
        have w65 : w.1 65 = u.1 65 := (b 65 (by omega)).trans (c22 65 (by omega))
        have w63 : w.1 63 = u.1 63 := (b 63 (by omega)).trans (c22 63 (by omega))
        have w77 : ∀ j, j < 51 → w.1 77 j = u.1 61 j := fun j hj => by
          rw [c j, if_pos ⟨Nat.zero_le _, hj⟩, c22 61 (by omega)]
        have ivw : iv w := fun d i => by
          by_cases hd : d = 77
          · subst hd
            by_cases hi : i < 51
            · rw [w77 i hi, sg_t7 i hi]
              exact hu 61 i
            · rw [c i, if_neg (by omega)]
              exact hv1 77 i
          · rw [b d hd]
            exact hv1 d i
        have riw : ri w := ri_kp hri (by rw [w60]) w61 w63 w64 w65
        have KA : KR (e_X0_copyFrom u 4 13) w 13 61 0 := KR_cg K0 (fun d d1 d2 => cf_o d413 (by omega)) (by rw [w60]) w61 w64 w65
        have KB : KR (e_X0_copyFrom u 4 13) w 4 77 0 := KR_row (KR_copy d413 K0 n8 s8) hn.2 s0.2 (by rw [w60]) (fun j hj => w77 j hj) w64 w65
        have hz : 0 ≤ u.1 75 k.toNatClampNeg ∧ u.1 75 k.toNatClampNeg ≤ 40 := by
          rcases (show k.toNatClampNeg = 0 ∨ k.toNatClampNeg = 1 ∨ k.toNatClampNeg = 2 ∨ k.toNatClampNeg = 3 by omega) with q | q | q | q <;> (rw [q]; exact iv_at hu 75 _ rfl)
        have R0 : RDI (e_X0_copyFrom u 4 13) w k.toNatClampNeg := by
          refine ⟨ivw, riw, KA, KB, ?_, ?_, ?_, ?_⟩
          · obtain ⟨s1, s2, s3⟩ := sh k.toNatClampNeg (by omega)
            refine ⟨?_, ?_, fun i hi => ?_⟩
            · rw [cf_o d413 (by omega), b 74 (by omega), c22 74 (by omega)]
              exact s1
            · rw [cf_o d413 (by omega), b 75 (by omega), c22 75 (by omega)]
              exact s2
            · rw [cf_o d413 (by omega), b 76 (by omega), c22 76 (by omega)]
              exact s3 i hi
          · rw [b 75 (by omega), c22 75 (by omega)]
            exact hz
          · rw [w77 42 (by omega)]
            exact s0.2
          · rw [w77 42 (by omega)]
            exact s0.1
        obtain ⟨A, B1, B2, B3, B4, B5⟩ := read_l (f := f) (n := n) hk hl hn2.1 hn2.2 ee_K 0 (e_X0_copyFrom u 4 13) w (ee_F0 _ _) (by decide) hn2.1 R0
        rw [← e1] at B1 B2 B3 B5
        rw [← e2] at B1 B4 B5
        refine ⟨A, ?_⟩
        have x1 : ∀ d, ¬ d = 0 → (d < 4 ∨ 22 ≤ d) → u1.1 d = u.1 d := fun d d1 d2 => (B2 d d1 d2).trans (cf_o d413 (by omega))
        have x2 : ∀ d, ¬ d = 0 → (d < 4 ∨ 22 ≤ d) → d ∉ [60, 61, 62, 77] → u2.1 d = u.1 d := fun d d1 d2 d3 => (fk_c F2 d3).trans (x1 d d1 d2)
        have o13 : u2.1 0 13 = u.1 0 13 := by
          rw [fk_c F2 (by decide), B3 13 (by decide), cf_o d413 (by omega)]
        have o60 : ∀ j, j ∈ [3, 13, 18] → u2.1 60 j = u.1 60 j := fun j hj => by
          rw [F2.2 j ((show ∀ j, j ∈ [3, 13, 18] → j ∈ [3, 7, 10, 11, 13, 14, 15, 16, 17, 18, 19, 22] by decide) j hj), c22 60 (by omega)]
        have o64 : u2.1 64 = u.1 64 := x2 64 (by omega) (by omega) (by decide)
        have o65 : u2.1 65 = u.1 65 := x2 65 (by omega) (by omega) (by decide)
        have o61 : ∀ j, 51 ≤ j → u2.1 61 j = u.1 61 j := fun j hj => (B4 j hj).trans (by rw [w61])
        refine ⟨KR_cg B1 (fun d d1 d2 => fk_c F2 ((show ∀ d, d < 22 → 13 ≤ d → d ∉ [60, 61, 62, 77] by decide) d (by omega) d1)) rfl rfl rfl rfl, ⟨by rw [x2 40 (by omega) (by omega) (by decide), x2 63 (by omega) (by omega) (by decide)]; exact i0, by rw [x2 40 (by omega) (by omega) (by decide), x2 63 (by omega) (by omega) (by decide)]; exact i1⟩, fun q => ?_, fun q => ?_, ⟨by rw [x2 2 (by omega) (by omega) (by decide), o60 13 (by decide)]; exact t1, by rw [x2 3 (by omega) (by omega) (by decide), x2 69 (by omega) (by omega) (by decide), x2 2 (by omega) (by omega) (by decide)]; exact t2, by rw [o13, o60 18 (by decide)]; exact t3, ?_⟩, fun j hj => ?_⟩
        · rw [x2 63 (by omega) (by omega) (by decide)] at q
          exact KR_cp (K1 q) hn.2 (iv_42 hu (by omega)).2 (fun d d1 d2 => x2 d (by omega) (by omega) ((show ∀ d, d < 60 → d ∉ [60, 61, 62, 77] by decide) d (by omega))) (o60 3 (by decide)) (fun j hj => o61 _ (by omega)) o64 o65
        · rw [x2 63 (by omega) (by omega) (by decide)] at q
          exact KR_cp (K2 q) hn.2 (iv_42 hu (by omega)).2 (fun d d1 d2 => x2 d (by omega) (by omega) ((show ∀ d, d < 60 → d ∉ [60, 61, 62, 77] by decide) d (by omega))) (o60 3 (by decide)) (fun j hj => o61 _ (by omega)) o64 o65
        · rw [fk_c F2 (by decide)]
          refine B5 ?_
          rw [cf_o d413 (by omega), w60]
          exact t4
        · rw [x2 50 (by omega) (by omega) (by decide), x2 51 (by omega) (by omega) (by decide), x2 74 (by omega) (by omega) (by decide), x2 75 (by omega) (by omega) (by decide), x2 76 (by omega) (by omega) (by decide), x2 (53 + j) (by omega) (by omega) ((show ∀ d, d < 60 → d ∉ [60, 61, 62, 77] by decide) _ (by omega))]
          exact sh j hj
      · rw [show e_X7_in u1 n 0 20 = 0 from if_neg hn2, if_pos rfl] at e2 ⊢
        by_cases q : n < 0
        · rw [if_pos q] at e1 ⊢
          rw [e2, e1]
          exact ⟨by trivial, h⟩
        · rw [if_neg q, if_neg (by lia)] at e1 ⊢
          rw [e2, e1]
          exact ⟨by trivial, h⟩
    · have h4 : ¬ (0 ≤ k ∧ k ≤ 3 ∧ 0 ≤ l ∧ l ≤ 2) := fun z => hl ⟨z.2.2.1, z.2.2.2⟩
      simp only [if_pos hk, if_neg hl, if_neg h4, if_neg one0, if_true] at e1 e2 ⊢
      rw [e2, e1]
      exact ⟨by trivial, h⟩
  · have h4 : ¬ (0 ≤ k ∧ k ≤ 3 ∧ 0 ≤ l ∧ l ≤ 2) := fun z => hk ⟨z.1, z.2.1⟩
    simp only [if_neg hk, if_neg h4, if_true] at e1 e2 ⊢
    rw [e2, e1]
    exact ⟨by trivial, h⟩
