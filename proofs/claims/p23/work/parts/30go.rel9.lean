/-! answers: rule, stuff, can, count -/
theorem sh0a : ∀ j, j < 8 → (0 : Int32) <<< (nI j &&& 31) = 0 := by decide +kernel
theorem sh0 {i : Int32} (h0 : 0 ≤ i) (h7 : i ≤ 7) : (0 : Int32) <<< (i &&& 31) = 0 := by
  obtain ⟨j, hj, rfl⟩ := nI_of2 (x := i) (M := 7) (n := 7) rfl (by grind) h7
  exact sh0a j (by omega)
theorem or0 {x : Int32} : x ||| 0 = x := by
  apply Int32.toBitVec_inj.mp
  rw [Int32.toBitVec_or]
  simp
theorem raw_e {u v : uk_Mem} {i : Int32} (h0 : 0 ≤ i) (h7 : i ≤ 7) (h : u.1 14 i.toNatClampNeg = v.1 61 (i.toNatClampNeg + 32)) : (e_X0_isMade u 13 i = 0 ∧ e_X7_isRaw v i = 1) ∨ (e_X0_isMade u 13 i = 1 ∧ e_X7_isRaw v i = 0) := by
  unfold e_X0_isMade e_X7_isRaw
  dsimp only
  rw [ix_32 h0 h7, show u.1 (13 + 1) i.toNatClampNeg = u.1 14 i.toNatClampNeg from rfl, h]
  by_cases q : v.1 61 (i.toNatClampNeg + 32) = 4
  · rw [if_pos q]
    simp [q]
  · rw [if_neg q]
    simp [q]
theorem rule_l {u v : uk_Mem} {w : Int32} (hK : KR u v 13 61 0) (hn : 0 ≤ v.1 60 3 ∧ v.1 60 3 ≤ 8) : ∀ (K : Nat) (i r t : Int32), ee_F (v.1 60 3) i K → 0 ≤ i → i ≤ v.1 60 3 → l_X7_rule_7 v w K i r t = if w = 0 then u.1 13 0 else if w = 1 then u.1 13 10 else if w = 2 then u.1 13 11 else if w = 3 then l_X0_rawBits_4 u 13 K i r else if w = 4 then l_X0_thereBits_4 u 13 K i t else -1 := by
  intro K
  induction K with
  | zero =>
    intro i r t f h0 h1
    obtain ⟨j, hj⟩ := ee_Fp h1 f
    omega
  | succ K ih =>
    intro i r t f h0 h1
    have k0 : u.1 13 0 = v.1 60 3 := hK.1
    have k10 : u.1 13 10 = v.1 61 40 := hK.2.2.1
    have k11 : u.1 13 11 = v.1 61 41 := hK.2.2.2.1
    rw [l_X7_rule_7, l_X0_rawBits_4, l_X0_thereBits_4]
    dsimp only
    by_cases q : v.1 60 3 ≤ i
    · rw [if_pos q, k0, k10, k11, if_pos q, if_pos q]
      rfl
    · have i7 : i ≤ 7 := by lia
      have hj := hK.2.2.2.2.1 i.toNatClampNeg (uk_cll h0 (by lia))
      have hs := sh0 h0 i7
      have j3 : u.1 (13 + 6) i.toNatClampNeg = v.1 61 i.toNatClampNeg := hj.2.2.1
      rw [if_neg q, k0, if_neg q, if_neg q, ix_0, j3]
      have fl0 : ∀ m : uk_Mem, e_X7_flag m 0 = 0 := fun m => if_pos rfl
      have fl1 : ∀ m : uk_Mem, e_X7_flag m 1 = 1 := fun m => if_neg (by decide)
      have step : ∀ r' t', l_X7_rule_7 v w K (i + 1) r' t' = if w = 0 then v.1 60 3 else if w = 1 then u.1 13 10 else if w = 2 then u.1 13 11 else if w = 3 then l_X0_rawBits_4 u 13 K (i + 1) r' else if w = 4 then l_X0_thereBits_4 u 13 K (i + 1) t' else -1 := fun r' t' => by
        rw [ih (i + 1) r' t' (ee_Fs f (by lia)) (by lia) (by lia), k0]
      rw [fl0, fl1, hs, or0]
      rcases raw_e (u := u) (v := v) h0 i7 hj.1 with ⟨m1, m2⟩ | ⟨m1, m2⟩
      · rw [m1, m2, fl1, if_pos rfl]
        by_cases z : v.1 61 i.toNatClampNeg ≤ 0
        · rw [if_pos z, if_pos z, step]
        · rw [if_neg z, if_neg z, step]
      · rw [m1, m2, fl0, hs, or0, if_neg (c := (1 : Int32) = 0) (by decide)]
        by_cases z : v.1 61 i.toNatClampNeg ≤ 0
        · rw [if_pos z, if_pos z, step]
        · rw [if_neg z, if_neg z, step]
theorem rule_e {u v : uk_Mem} {w : Int32} (hv : iv v) (hK : KR u v 13 61 0) : e_X6_rule u w = e_X7_rule v w := by
  have hn : 0 ≤ v.1 60 3 ∧ v.1 60 3 ≤ 8 := iv_at hv 60 3 rfl
  unfold e_X7_rule
  rw [rule_l hK hn ee_K 0 0 0 (ee_F0 _ _) (by decide) hn.1]
  rfl
theorem stuff_e {u v : uk_Mem} {m w : Int32} (hv : iv v) (hK : KR u v 13 61 0) : e_X6_stuff u m w = e_X7_stuff v m w := by
  have hn : 0 ≤ v.1 60 3 ∧ v.1 60 3 ≤ 8 := iv_at hv 60 3 rfl
  unfold e_X6_stuff e_X7_stuff
  dsimp only
  rw [hasStuff_e hK.1 hn]
  by_cases h1 : e_X7_isStuff v m = 0
  · rw [if_pos h1, if_pos h1]
  · rw [if_neg h1, if_neg h1]
    have hm := isStuff_n hn h1
    have m7 : m ≤ 7 := by lia
    obtain ⟨j1, j2, j3, j4, j5, j6⟩ := hK.2.2.2.2.1 m.toNatClampNeg (uk_cll hm.1 hm.2)
    simp only [Nat.zero_add, Nat.add_zero, Nat.reduceAdd] at j1 j2 j3 j4 j5 j6
    rw [ix_32 hm.1 m7, ix_16 hm.1 m7, ix_24 hm.1 m7, ix_8 hm.1 m7, ix_0, j1, j2, j3, j4]
    rcases raw_e (u := u) (v := v) hm.1 m7 j1 with ⟨m1, m2⟩ | ⟨m1, m2⟩
    · have hk : v.1 61 (m.toNatClampNeg + 32) = 4 := by
        unfold e_X7_isRaw at m2
        dsimp only at m2
        rw [ix_32 hm.1 m7] at m2
        exact Classical.byContradiction fun q => by rw [if_neg q] at m2; exact absurd m2 (by decide)
      obtain ⟨p1, p2, p3⟩ := j5 hk
      rw [m1, m2, p1, p2, p3]
      simp
    · have hk : ¬ v.1 61 (m.toNatClampNeg + 32) = 4 := fun q => by
        unfold e_X7_isRaw at m2
        dsimp only at m2
        rw [ix_32 hm.1 m7, if_pos q] at m2
        exact absurd m2 (by decide)
      obtain ⟨p2, p3⟩ := j6 hk
      rw [m1, m2, p2, p3]
      simp
theorem flag_e {m : uk_Mem} {x : Int32} : e_X7_flag m x = if x = 0 then 0 else 1 := rfl
theorem part_e {u v : uk_Mem} {w : Int32} : e_X6_isFlag u w = e_X7_isPart v w := by
  unfold e_X6_isFlag e_X7_isPart e_X7_in
  dsimp only
  grind
theorem can_l {u v : uk_Mem} {w : Int32} (hw : w = 0 ∨ w = 1) (hv : iv v) (hra : ra v) (hK : KR u v 13 62 0) : ∀ (K : Nat) (i a : Int32), ee_F (v.1 60 3) i K → 0 ≤ i → i ≤ v.1 60 3 → l_X7_can_17 v w K i a = (l_X6_can_13 u w K i a, v) := by
  have hn : 0 ≤ v.1 60 3 ∧ v.1 60 3 ≤ 8 := iv_at hv 60 3 rfl
  intro K
  induction K with
  | zero =>
    intro i r f h0 h1
    obtain ⟨j, hj⟩ := ee_Fp h1 f
    omega
  | succ K ih =>
    intro i a f h0 h1
    have k0 : u.1 13 0 = v.1 60 3 := hK.1
    rw [l_X7_can_17, l_X6_can_13]
    dsimp only
    rw [k0]
    by_cases q : v.1 60 3 ≤ i
    · rw [if_pos q, if_pos q]
    · have i7 : i ≤ 7 := by lia
      have ha := able_e hv hra hK (g := w * 10 + i)
      have hd : ¬ e_X7_isDoing v (w * 10 + i) = 0 := by
        rw [isDoing_e hn]
        rcases hw with rfl | rfl
        · rw [show (0 : Int32) * 10 + i = i by grind, if_pos (Or.inl ⟨h0, by lia⟩)]
          decide
        · rw [show (1 : Int32) * 10 + i = 10 + i by grind, if_pos (Or.inr ⟨by lia, by lia⟩)]
          decide
      rw [if_neg hd] at ha
      rw [if_neg q, if_neg q, ha, show (10 : Int32) * w = w * 10 from Int32.mul_comm _ _, flag_e]
      by_cases z : e_X7_canDo v (w * 10 + i) = 0
      · rw [if_pos z, if_pos z, sh0 h0 i7, or0]
        exact ih (i + 1) a (ee_Fs f (by lia)) (by lia) (by lia)
      · rw [if_neg z, if_neg z]
        exact ih (i + 1) _ (ee_Fs f (by lia)) (by lia) (by lia)
theorem KR_st {u v : uk_Mem} (hv : iv v) (hK : KR u v 13 61 0) : KR u (e_X7_starts v) 13 62 0 := KR_row hK (iv_at hv 60 3 rfl).2 (sg_42 hv (c := 61) (by unfold uk_is51; decide)).2 (by rw [starts_c (by decide)]) (fun j hj => starts_j hj) (starts_c (by decide)) (starts_c (by decide))
theorem can_e {u v : uk_Mem} {w : Int32} (hv : iv v) (hri : ri v) (hK : KR u v 13 61 0) : e_X6_can u w = (e_X7_can v w).1 := by
  have hn : 0 ≤ v.1 60 3 ∧ v.1 60 3 ≤ 8 := iv_at hv 60 3 rfl
  have n60 : (e_X7_starts v).1 60 3 = v.1 60 3 := by rw [starts_c (by decide)]
  unfold e_X6_can e_X7_can
  dsimp only
  rw [part_e (v := v)]
  by_cases h : e_X7_isPart v w = 0
  · rw [if_pos h, if_pos h]
  · rw [if_neg h, if_neg h]
    have hw : w = 0 ∨ w = 1 := by
      unfold e_X7_isPart e_X7_in at h
      dsimp only at h
      grind
    rw [can_l hw (iv_starts hv) (ra_starts hri) (KR_st hv hK) ee_K 0 0 (ee_F0 _ _) (by decide) (by rw [n60]; exact hn.1)]
theorem things_l {u v : uk_Mem} {b : Nat} (hK : KR u v b 62 0) (hn : 0 ≤ v.1 60 3 ∧ v.1 60 3 ≤ 8) : ∀ (K : Nat) (i a : Int32), ee_F (v.1 60 3) i K → 0 ≤ i → i ≤ v.1 60 3 → l_X0_things_4 u b K i a = l_X7_allOf_4 v 0 K i a := by
  intro K
  induction K with
  | zero =>
    intro i r f h0 h1
    obtain ⟨j, hj⟩ := ee_Fp h1 f
    omega
  | succ K ih =>
    intro i a f h0 h1
    have k0 : u.1 b 0 = v.1 60 3 := hK.1
    rw [l_X7_allOf_4, l_X0_things_4]
    dsimp only
    rw [k0, ix_0]
    by_cases q : v.1 60 3 ≤ i
    · rw [if_pos q, if_pos q]
    · have j3 : u.1 (b + 6) i.toNatClampNeg = v.1 62 i.toNatClampNeg := (hK.2.2.2.2.1 i.toNatClampNeg (uk_cll h0 (by lia))).2.2.1
      rw [if_neg q, if_neg q, if_pos rfl, j3, Int32.mul_one]
      exact ih (i + 1) _ (ee_Fs f (by lia)) (by lia) (by lia)
theorem feeds_l {u v : uk_Mem} {b : Nat} (hK : KR u v b 62 0) (hn : 0 ≤ v.1 60 3 ∧ v.1 60 3 ≤ 8) : ∀ (K : Nat) (i a : Int32), ee_F (v.1 60 3) i K → 0 ≤ i → i ≤ v.1 60 3 → l_X0_allFeeds_4 u b K i a = l_X7_allOf_4 v 16 K i a := by
  intro K
  induction K with
  | zero =>
    intro i r f h0 h1
    obtain ⟨j, hj⟩ := ee_Fp h1 f
    omega
  | succ K ih =>
    intro i a f h0 h1
    have k0 : u.1 b 0 = v.1 60 3 := hK.1
    rw [l_X7_allOf_4, l_X0_allFeeds_4]
    dsimp only
    rw [k0, ix_0]
    by_cases q : v.1 60 3 ≤ i
    · rw [if_pos q, if_pos q]
    · have hj := hK.2.2.2.2.1 i.toNatClampNeg (uk_cll h0 (by lia))
      have j3 : u.1 (b + 6) i.toNatClampNeg = v.1 62 i.toNatClampNeg := hj.2.2.1
      have j2 : u.1 (b + 4) i.toNatClampNeg = v.1 62 (i.toNatClampNeg + 16) := hj.2.1
      rw [if_neg q, if_neg q, if_neg (by decide), j3, j2, ix_16 h0 (by lia)]
      exact ih (i + 1) _ (ee_Fs f (by lia)) (by lia) (by lia)
theorem count_e {u v : uk_Mem} {w : Int32} (hv : iv v) (hK : KR u v 13 61 0) (h40 : u.1 40 0 = v.1 63 0 ∧ u.1 40 1 = v.1 63 1) (ht : u.1 2 1 = v.1 60 13) (hs : ((u.1 50 0 = -1 ∧ v.1 74 0 = -4) ∨ (u.1 50 0 = v.1 74 0 ∧ 0 ≤ u.1 50 0 ∧ u.1 50 0 ≤ 2)) ∧ u.1 51 0 = v.1 75 0) : e_X6_count u w = (e_X7_count v w).1 := by
  have hn : 0 ≤ v.1 60 3 ∧ v.1 60 3 ≤ 8 := iv_at hv 60 3 rfl
  have n60 : (e_X7_starts v).1 60 3 = v.1 60 3 := by rw [starts_c (by decide)]
  have hn7 : 0 ≤ (e_X7_starts v).1 60 3 ∧ (e_X7_starts v).1 60 3 ≤ 8 := by rw [n60]; exact hn
  have K7 := KR_st hv hK
  have z0 : (0 : Int32).toNatClampNeg = 0 := rfl
  have z1 : (1 : Int32).toNatClampNeg = 1 := rfl
  have z42 : (42 : Int32).toNatClampNeg = 42 := rfl
  unfold e_X6_count e_X7_count e_X0_things e_X0_allFeeds e_X7_allOf
  dsimp only
  rw [things_l K7 hn7 ee_K 0 0 (ee_F0 _ _) (by decide) hn7.1, feeds_l K7 hn7 ee_K 0 0 (ee_F0 _ _) (by decide) hn7.1]
  by_cases w0 : w = 0
  · rw [if_pos w0, if_pos w0]
  · rw [if_neg w0, if_neg w0]
    by_cases w1 : w = 1
    · rw [if_pos w1, if_pos w1]
    · rw [if_neg w1, if_neg w1]
      by_cases w2 : w = 2
      · rw [if_pos w2, if_pos w2, z42, starts_c (by decide)]
        exact hK.2.1
      · rw [if_neg w2, if_neg w2]
        by_cases w3 : w = 3
        · rw [if_pos w3, if_pos w3, z0, z1, starts_c (c := 63) (by decide), h40.1, h40.2, flag_e, flag_e]
          generalize v.1 63 0 = a
          generalize v.1 63 1 = b
          by_cases a0 : a = 0
          · by_cases b0 : b = 0
            · simp only [if_pos a0, if_pos b0]
            · simp only [if_pos a0, if_neg b0]
          · by_cases b0 : b = 0
            · simp only [if_neg a0, if_pos b0]
            · simp only [if_neg a0, if_neg b0]
        · rw [if_neg w3, if_neg w3]
          by_cases w4 : w = 4
          · rw [if_pos w4, if_pos w4, starts_c (c := 60) (by decide)]
            exact ht
          · rw [if_neg w4, if_neg w4]
            by_cases w5 : w = 5
            · rw [if_pos w5, if_pos w5, z0, starts_c (c := 74) (by decide), starts_c (c := 75) (by decide), hs.2]
              unfold e_X3_isNothing
              dsimp only
              rw [z0]
              rcases hs.1 with ⟨a, b⟩ | ⟨a, b, c⟩
              · rw [if_pos a, if_pos b, if_neg (by decide)]
              · rw [← a, if_neg (c := u.1 50 0 = -1) (by lia), if_pos rfl, if_neg (by lia)]
            · rw [if_neg w5, if_neg w5]
