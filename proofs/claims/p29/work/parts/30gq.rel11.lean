/-! sheets -/
theorem ix_40a : ∀ a, a < 4 → ∀ b, b < 40 → ((40 : Int32) * nI a + nI b).toNatClampNeg = b + 40 * a := by decide +kernel
theorem ix_40 {k i : Int32} (k0 : 0 ≤ k) (k3 : k ≤ 3) (i0 : 0 ≤ i) (i39 : i ≤ 39) : ((40 : Int32) * k + i).toNatClampNeg = i.toNatClampNeg + 40 * k.toNatClampNeg := by
  obtain ⟨a, ha, rfl⟩ := nI_of2 (x := k) (M := 3) (n := 3) rfl (by grind) k3
  obtain ⟨b, hb, rfl⟩ := nI_of2 (x := i) (M := 39) (n := 39) rfl (by grind) i39
  rw [ix_40a a (by omega) b (by omega), nI_clamp (n := a) (by omega), nI_clamp (n := b) (by omega)]
theorem renew_l {k : Int32} : ∀ (K : Nat) (i : Int32) (m : uk_Mem), ee_F 40 i K → 0 ≤ i → i ≤ 40 → (∀ c, ¬ c = 53 + k.toNatClampNeg → (l_X3_renew_17 k K i m).1 c = m.1 c) ∧ ∀ j, (l_X3_renew_17 k K i m).1 (53 + k.toNatClampNeg) j = if i.toNatClampNeg ≤ j ∧ j < 40 then 0 else m.1 (53 + k.toNatClampNeg) j := by
  intro K
  induction K with
  | zero =>
    intro i m f h0 h1
    obtain ⟨j, hj⟩ := ee_Fp h1 f
    omega
  | succ K ih =>
    intro i m f h0 h1
    rw [l_X3_renew_17]
    by_cases q : (40 : Int32) ≤ i
    · rw [if_pos q]
      have := uk_cge 40 40 rfl q
      refine ⟨fun _ _ => rfl, fun j => ?_⟩
      rw [if_neg (by omega)]
    · rw [if_neg q]
      dsimp only
      have hc := uk_c1 h0 (by lia)
      have hl := uk_cln 39 39 rfl h0 (by lia)
      obtain ⟨a, c⟩ := ih (i + 1) (uk_up m (52 + 1 + k.toNatClampNeg) i.toNatClampNeg 0) (ee_Fs f (by lia)) (by lia) (by lia)
      refine ⟨fun d hd => (a d hd).trans (uk_up_oc (by omega)), fun j => ?_⟩
      rw [c j, hc, show 52 + 1 + k.toNatClampNeg = 53 + k.toNatClampNeg by omega, uk_up_at]
      generalize i.toNatClampNeg = n at *
      grind
theorem sheet_l {k : Int32} (k0 : 0 ≤ k) (k3 : k ≤ 3) : ∀ (K : Nat) (i : Int32) (m : uk_Mem), ee_F 40 i K → 0 ≤ i → i ≤ 40 → (l_X7_sheet_40 k K i m).1 = 1 ∧ (∀ c, ¬ c = 76 → (l_X7_sheet_40 k K i m).2.1 c = m.1 c) ∧ ∀ j, (l_X7_sheet_40 k K i m).2.1 76 j = if i.toNatClampNeg + 40 * k.toNatClampNeg ≤ j ∧ j < 40 + 40 * k.toNatClampNeg then 0 else m.1 76 j := by
  intro K
  induction K with
  | zero =>
    intro i m f h0 h1
    obtain ⟨j, hj⟩ := ee_Fp h1 f
    omega
  | succ K ih =>
    intro i m f h0 h1
    rw [l_X7_sheet_40]
    by_cases q : (40 : Int32) ≤ i
    · rw [if_pos q]
      have := uk_cge 40 40 rfl q
      refine ⟨rfl, fun _ _ => rfl, fun j => ?_⟩
      rw [if_neg (by omega)]
    · rw [if_neg q]
      dsimp only
      have hc := uk_c1 h0 (by lia)
      have hl := uk_cln 39 39 rfl h0 (by lia)
      rw [ix_40 k0 k3 h0 (by lia)]
      obtain ⟨a, b, c⟩ := ih (i + 1) (uk_up m 76 (i.toNatClampNeg + 40 * k.toNatClampNeg) 0) (ee_Fs f (by lia)) (by lia) (by lia)
      refine ⟨a, fun d hd => (b d hd).trans (uk_up_oc hd), fun j => ?_⟩
      rw [c j, hc, uk_up_at]
      generalize i.toNatClampNeg = n at *
      generalize k.toNatClampNeg = kk at *
      by_cases e : j = n + 40 * kk
      · rw [if_neg (by omega), if_pos ⟨rfl, e⟩, if_pos (by omega)]
      · by_cases e2 : n + 1 + 40 * kk ≤ j ∧ j < 40 + 40 * kk
        · rw [if_pos e2, if_pos (by omega)]
        · rw [if_neg e2, if_neg (fun z => e z.2), if_neg (by omega)]
theorem isSheet_e {u v : uk_Mem} {k l : Int32} : e_X7_isSheet v k l = if 0 ≤ k ∧ k ≤ 3 ∧ 0 ≤ l ∧ l ≤ 2 then 1 else 0 := by
  unfold e_X7_isSheet e_X7_in
  dsimp only
  grind
theorem sheet6 {u : uk_Mem} {k : Int32} : e_X6_isSheet u k = if 0 ≤ k ∧ k ≤ 3 then 1 else 0 := by
  unfold e_X6_isSheet
  grind
theorem lane6 {u : uk_Mem} {l : Int32} : e_X6_isLane u l = if 0 ≤ l ∧ l ≤ 2 then 1 else 0 := by
  unfold e_X6_isLane
  grind
/-- a REL whose sheets alone are another's -/
theorem REL_sh {u u' : uk_Mem} (h : REL u) (hc : ∀ c, ¬ (50 ≤ c ∧ c ≤ 56) → ¬ (74 ≤ c ∧ c ≤ 76) → u'.1 c = u.1 c) (sh : SHR u') : REL u' := by
  obtain ⟨k, ⟨i0, i1⟩, im0, im1, ⟨t1, t2, t3, t4⟩, -⟩ := h
  refine ⟨KR_cg k (fun d a b => hc d (by omega) (by omega)) (by rw [hc 60 (by omega) (by omega)]) (hc 61 (by omega) (by omega)) (hc 64 (by omega) (by omega)) (hc 65 (by omega) (by omega)), ⟨by rw [hc 40 (by omega) (by omega), hc 63 (by omega) (by omega)]; exact i0, by rw [hc 40 (by omega) (by omega), hc 63 (by omega) (by omega)]; exact i1⟩, fun q => ?_, fun q => ?_, ⟨by rw [hc 2 (by omega) (by omega), hc 60 (by omega) (by omega)]; exact t1, by rw [hc 3 (by omega) (by omega), hc 69 (by omega) (by omega), hc 2 (by omega) (by omega)]; exact t2, by rw [hc 0 (by omega) (by omega), hc 60 (by omega) (by omega)]; exact t3, by rw [hc 0 (by omega) (by omega), hc 60 (by omega) (by omega)]; exact t4⟩, sh⟩
  · rw [hc 63 (by omega) (by omega)] at q
    exact KR_cg (im0 q) (fun d a b => hc d (by omega) (by omega)) (by rw [hc 60 (by omega) (by omega)]) (hc 61 (by omega) (by omega)) (hc 64 (by omega) (by omega)) (hc 65 (by omega) (by omega))
  · rw [hc 63 (by omega) (by omega)] at q
    exact KR_cg (im1 q) (fun d a b => hc d (by omega) (by omega)) (by rw [hc 60 (by omega) (by omega)]) (hc 61 (by omega) (by omega)) (hc 64 (by omega) (by omega)) (hc 65 (by omega) (by omega))
theorem sheet_R {u u1 u2 : uk_Mem} {k l n : Int32} (h : REL u) (e1 : u1 = (e_X6_sheet u k l n).2) (e2 : u2 = (e_X7_sheet u1 k l n).2) : (e_X6_sheet u k l n).1 = (e_X7_sheet u1 k l n).1 ∧ REL u2 := by
  have sh := h.2.2.2.2.2
  unfold e_X6_sheet at e1 ⊢
  unfold e_X7_sheet at e2 ⊢
  dsimp only at e1 e2 ⊢
  rw [sheet6, lane6] at e1 ⊢
  rw [isSheet_e (u := u)] at e2 ⊢
  by_cases hk : 0 ≤ k ∧ k ≤ 3
  · by_cases hl : 0 ≤ l ∧ l ≤ 2
    · have h4 : 0 ≤ k ∧ k ≤ 3 ∧ 0 ≤ l ∧ l ≤ 2 := ⟨hk.1, hk.2, hl.1, hl.2⟩
      simp only [if_pos hk, if_pos hl, if_pos h4, if_neg one0] at e1 e2 ⊢
      by_cases hn : n ≤ 40
      · simp only [if_pos hn] at e1 e2 ⊢
        by_cases h0 : 0 ≤ n
        · simp only [if_pos h0] at e1 e2 ⊢
          have c3 := uk_cln 3 3 rfl hk.1 hk.2
          obtain ⟨a1, a2⟩ := renew_l (k := k) ee_K 0 (uk_up (uk_up u 50 k.toNatClampNeg l) 51 k.toNatClampNeg n) (ee_F0 _ _) (by decide) (by decide)
          have E1 : u1 = l_X3_renew_17 k ee_K 0 (uk_up (uk_up u 50 k.toNatClampNeg l) 51 k.toNatClampNeg n) := e1
          rw [← E1] at a1 a2
          obtain ⟨b0, b1, b2⟩ := sheet_l hk.1 hk.2 ee_K 0 (uk_up (uk_up u1 74 k.toNatClampNeg l) 75 k.toNatClampNeg n) (ee_F0 _ _) (by decide) (by decide)
          rw [← e2] at b1 b2
          have z0 : (0 : Int32).toNatClampNeg = 0 := rfl
          rw [z0] at a2 b2
          refine ⟨b0.symm, REL_sh h (fun c h1 h2 => ?_) (fun j hj => ?_)⟩
          · rw [b1 c (by omega), uk_up_oc (by omega), uk_up_oc (by omega), a1 c (by omega), uk_up_oc (by omega), uk_up_oc (by omega)]
          · obtain ⟨s1, s2, s3⟩ := sh j hj
            have e50 : u2.1 50 j = if j = k.toNatClampNeg then l else u.1 50 j := by
              rw [b1 _ (by omega), uk_up_oc (by decide), uk_up_oc (by decide), a1 _ (by omega), uk_up_oc (by decide), uk_up_at]
              simp
            have e51 : u2.1 51 j = if j = k.toNatClampNeg then n else u.1 51 j := by
              rw [b1 _ (by omega), uk_up_oc (by decide), uk_up_oc (by decide), a1 _ (by omega), uk_up_at, uk_up_oc (by decide)]
              simp
            have e74 : u2.1 74 j = if j = k.toNatClampNeg then l else u.1 74 j := by
              rw [b1 _ (by omega), uk_up_oc (by decide), uk_up_at, a1 _ (by omega), uk_up_oc (by decide), uk_up_oc (by decide)]
              simp
            have e75 : u2.1 75 j = if j = k.toNatClampNeg then n else u.1 75 j := by
              rw [b1 _ (by omega), uk_up_at, uk_up_oc (by decide), a1 _ (by omega), uk_up_oc (by decide), uk_up_oc (by decide)]
              simp
            have e76 : ∀ i, u2.1 76 i = if 0 + 40 * k.toNatClampNeg ≤ i ∧ i < 40 + 40 * k.toNatClampNeg then 0 else u.1 76 i := fun i => by
              rw [b2 i, uk_up_oc (by decide), uk_up_oc (by decide), a1 _ (by omega), uk_up_oc (by decide), uk_up_oc (by decide)]
            rw [e50, e51, e74, e75]
            by_cases q : j = k.toNatClampNeg
            · rw [if_pos q, if_pos q, if_pos q, if_pos q]
              refine ⟨Or.inr ⟨rfl, hl⟩, rfl, fun i hi => ?_⟩
              rw [b1 _ (by omega), uk_up_oc (by omega), uk_up_oc (by omega), q, a2 i, if_pos ⟨by omega, hi⟩, e76, if_pos (by omega)]
            · rw [if_neg q, if_neg q, if_neg q, if_neg q]
              refine ⟨s1, s2, fun i hi => ?_⟩
              rw [b1 _ (by omega), uk_up_oc (by omega), uk_up_oc (by omega), a1 _ (by omega), uk_up_oc (by omega), uk_up_oc (by omega), e76, if_neg (by omega)]
              exact s3 i hi
        · simp only [if_neg h0] at e1 e2 ⊢
          rw [e2, e1]
          exact ⟨by trivial, h⟩
      · simp only [if_neg hn] at e1 e2 ⊢
        rw [e2, e1]
        exact ⟨by trivial, h⟩
    · have h4 : ¬ (0 ≤ k ∧ k ≤ 3 ∧ 0 ≤ l ∧ l ≤ 2) := fun z => hl ⟨z.2.2.1, z.2.2.2⟩
      simp only [if_pos hk, if_neg hl, if_neg h4, if_neg one0, if_true] at e1 e2 ⊢
      rw [e2, e1]
      exact ⟨by trivial, h⟩
  · have h4 : ¬ (0 ≤ k ∧ k ≤ 3 ∧ 0 ≤ l ∧ l ≤ 2) := fun z => hk ⟨z.1, z.2.1⟩
    simp only [if_neg hk, if_neg h4, if_true] at e1 e2 ⊢
    rw [e2, e1]
    exact ⟨by trivial, h⟩
/-- a number is laid on both sides -/
theorem SHR_put {u u1 u2 : uk_Mem} {k i x : Int32} (h : REL u) (hk : 0 ≤ k ∧ k ≤ 3) (hi : 0 ≤ i ∧ i ≤ 39) (e1 : u1 = uk_up u (52 + 1 + k.toNatClampNeg) i.toNatClampNeg x) (e2 : u2 = uk_up u1 76 ((40 : Int32) * k + i).toNatClampNeg x) : REL u2 := by
  have sh := h.2.2.2.2.2
  have c3 := uk_cln 3 3 rfl hk.1 hk.2
  have c39 := uk_cln 39 39 rfl hi.1 hi.2
  rw [ix_40 hk.1 hk.2 hi.1 hi.2] at e2
  have c : ∀ d, ¬ d = 76 → ¬ d = 53 + k.toNatClampNeg → u2.1 d = u.1 d := fun d h1 h2 => by rw [e2, uk_up_oc h1, e1, uk_up_oc (by omega)]
  refine REL_sh h (fun d h1 h2 => c d (by omega) (by omega)) (fun j hj => ?_)
  obtain ⟨s1, s2, s3⟩ := sh j hj
  rw [c 50 (by omega) (by omega), c 51 (by omega) (by omega), c 74 (by omega) (by omega), c 75 (by omega) (by omega)]
  refine ⟨s1, s2, fun i' hi' => ?_⟩
  have e76 : ∀ m, u2.1 76 m = if m = i.toNatClampNeg + 40 * k.toNatClampNeg then x else u.1 76 m := fun m => by
    rw [e2, uk_up_at, e1, uk_up_oc (by omega)]
    simp
  rw [e76]
  by_cases q : j = k.toNatClampNeg
  · have e53 : u2.1 (53 + j) i' = if i' = i.toNatClampNeg then x else u.1 (53 + j) i' := by
      rw [e2, uk_up_oc (by omega), e1, uk_up_at, q]
      simp
    rw [e53]
    by_cases q2 : i' = i.toNatClampNeg
    · rw [if_pos q2, if_pos (by omega)]
    · rw [if_neg q2, if_neg (by omega)]
      exact s3 i' hi'
  · rw [c _ (by omega) (by omega), if_neg (by omega)]
    exact s3 i' hi'
theorem lay_R {u u1 u2 : uk_Mem} {k i x : Int32} (h : REL u) (hu : iv u) (e1 : u1 = (e_X6_lay u k i x).2) (e2 : u2 = (e_X7_lay u1 k i x).2) : (e_X6_lay u k i x).1 = (e_X7_lay u1 k i x).1 ∧ REL u2 := by
  have sh := h.2.2.2.2.2
  unfold e_X6_lay at e1 ⊢
  unfold e_X7_lay at e2 ⊢
  dsimp only at e1 e2 ⊢
  rw [sheet6] at e1 ⊢
  rw [isSheet_e (u := u)] at e2 ⊢
  by_cases hk : 0 ≤ k ∧ k ≤ 3
  · have h4 : 0 ≤ k ∧ k ≤ 3 ∧ (0 : Int32) ≤ 0 ∧ (0 : Int32) ≤ 2 := ⟨hk.1, hk.2, by decide, by decide⟩
    have c3 := uk_cln 3 3 rfl hk.1 hk.2
    obtain ⟨s1, s2, s3⟩ := sh k.toNatClampNeg (by omega)
    have hz : 0 ≤ u.1 51 k.toNatClampNeg ∧ u.1 51 k.toNatClampNeg ≤ 40 := by
      rcases (show k.toNatClampNeg = 0 ∨ k.toNatClampNeg = 1 ∨ k.toNatClampNeg = 2 ∨ k.toNatClampNeg = 3 by omega) with q | q | q | q <;> (rw [q]; exact iv_at hu 51 _ rfl)
    simp only [if_pos hk, if_pos h4, if_neg one0] at e1 e2 ⊢
    unfold e_X3_faultAt e_X3_isNothing at e1 ⊢
    dsimp only at e1 ⊢
    unfold e_X7_in at e2 ⊢
    by_cases q : u.1 50 k.toNatClampNeg = -1
    · have q4 : u.1 74 k.toNatClampNeg = -4 := by
        rcases s1 with z | z
        · exact z.2
        · exfalso
          have := z.2.1
          rw [q] at this
          exact absurd this (by decide)
      simp only [if_pos q, if_neg one0] at e1 ⊢
      have e1 : u1 = u := e1
      rw [e1] at e2 ⊢
      rw [if_pos q4] at e2 ⊢
      rw [e2]
      exact ⟨by trivial, h⟩
    · have s1 := s1.resolve_left (fun z => q z.1)
      have q4 : ¬ u.1 74 k.toNatClampNeg = -4 := fun z => by
        have := s1.2.1
        rw [s1.1, z] at this
        exact absurd this (by decide)
      simp only [if_neg q, if_true] at e1 ⊢
      by_cases hi : 0 ≤ i ∧ i < u.1 51 k.toNatClampNeg
      · rw [if_neg (show ¬ i < 0 by lia), if_pos hi.2, if_pos rfl] at e1 ⊢
        have o74 : u1.1 74 = u.1 74 := by
          rw [e1]
          unfold e_X3_put
          dsimp only
          split
          · exact uk_up_oc (by omega)
          · split <;> exact uk_up_oc (by omega)
        have o75 : u1.1 75 = u.1 75 := by
          rw [e1]
          unfold e_X3_put
          dsimp only
          split
          · exact uk_up_oc (by omega)
          · split <;> exact uk_up_oc (by omega)
        rw [o74, o75, if_neg q4] at e2 ⊢
        rw [← s2, if_pos (show 0 ≤ i ∧ i ≤ u.1 51 k.toNatClampNeg - 1 from ⟨hi.1, by lia⟩), if_neg one0] at e2 ⊢
        unfold e_X3_put at e1
        dsimp only at e1
        rw [s1.1] at e1
        by_cases z0 : u.1 74 k.toNatClampNeg = 0
        · rw [if_pos z0] at e1 e2 ⊢
          exact ⟨rfl, SHR_put h hk ⟨hi.1, by lia⟩ e1 e2⟩
        · rw [if_neg z0] at e1 e2 ⊢
          by_cases z1 : u.1 74 k.toNatClampNeg = 1
          · rw [if_pos z1] at e1 e2 ⊢
            exact ⟨rfl, SHR_put h hk ⟨hi.1, by lia⟩ e1 e2⟩
          · rw [if_neg z1] at e1 e2 ⊢
            exact ⟨rfl, SHR_put h hk ⟨hi.1, by lia⟩ e1 e2⟩
      · have hf : (if i < 0 then (2 : Int32) else if i < u.1 51 k.toNatClampNeg then 0 else 2) = 2 := by
          by_cases q1 : i < 0
          · rw [if_pos q1]
          · rw [if_neg q1, if_neg (by lia)]
        rw [hf, if_neg (by decide)] at e1 ⊢
        have e1 : u1 = u := e1
        rw [e1] at e2 ⊢
        rw [if_neg q4, ← s2, if_neg (show ¬ (0 ≤ i ∧ i ≤ u.1 51 k.toNatClampNeg - 1) from fun z => hi ⟨z.1, by have := z.2; lia⟩), if_pos rfl] at e2 ⊢
        rw [e2]
        exact ⟨by trivial, h⟩
  · have h4 : ¬ (0 ≤ k ∧ k ≤ 3 ∧ (0 : Int32) ≤ 0 ∧ (0 : Int32) ≤ 2) := fun z => hk ⟨z.1, z.2.1⟩
    simp only [if_neg hk, if_neg h4, if_true] at e1 e2 ⊢
    rw [e2, e1]
    exact ⟨by trivial, h⟩
