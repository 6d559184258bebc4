/-! images -/
def relS : List Nat := [3, 50, 51, 53, 54, 55, 56, 64, 65, 69, 74, 75, 76]
theorem REL_mk {u u' : uk_Mem} (h : REL u) (hc : ∀ c, c ∈ relS → u'.1 c = u.1 c) (h1 : u'.1 0 13 = u.1 0 13) (h2 : u'.1 0 14 = u.1 0 14) (h3 : u'.1 2 1 = u.1 2 1) (h5 : u'.1 60 13 = u.1 60 13) (h6 : u'.1 60 18 = u.1 60 18) (h7 : u'.1 60 28 = u.1 60 28) (K0 : KR u' u' 13 61 0) (I : u'.1 40 0 = u'.1 63 0 ∧ u'.1 40 1 = u'.1 63 1) (K1 : ¬ u'.1 63 0 = 0 → KR u' u' 22 61 51) (K2 : ¬ u'.1 63 1 = 0 → KR u' u' 31 61 102) : REL u' := by
  obtain ⟨-, -, -, -, ⟨t1, t2, t3, t4⟩, sh⟩ := h
  refine ⟨K0, I, K1, K2, ⟨by rw [h3, h5]; exact t1, by rw [hc 3 (by decide), hc 69 (by decide), h3]; exact t2, by rw [h1, h6]; exact t3, by rw [h2, h7]; exact t4⟩, fun k hk => ?_⟩
  have h53 : u'.1 (53 + k) = u.1 (53 + k) := hc _ (by rcases (show k = 0 ∨ k = 1 ∨ k = 2 ∨ k = 3 by omega) with rfl | rfl | rfl | rfl <;> decide)
  rw [hc 50 (by decide), hc 51 (by decide), hc 74 (by decide), hc 75 (by decide), hc 76 (by decide), h53]
  exact sh k hk
theorem iv_42 {u : uk_Mem} (hu : iv u) {T : Nat} (hT : T = 0 ∨ T = 51 ∨ T = 102) : 0 ≤ u.1 61 (T + 42) ∧ u.1 61 (T + 42) ≤ 8 := by
  rcases hT with rfl | rfl | rfl
  · exact iv_at hu 61 (0 + 42) rfl
  · exact iv_at hu 61 (51 + 42) rfl
  · exact iv_at hu 61 (102 + 42) rfl
/-- a row of the reference is copied to another, a kitchen to another -/
theorem KR_cp {u v u' v' : uk_Mem} {b c o c' o' : Nat} (h : KR u v b c o) (hn : v.1 60 3 ≤ 8) (hs : v.1 c (o + 42) ≤ 8) (hu : ∀ d, b ≤ d → d ≤ b + 8 → u'.1 d = u.1 d) (h60 : v'.1 60 3 = v.1 60 3) (hc : ∀ j, j < 51 → v'.1 c' (j + o') = v.1 c (j + o)) (h64 : v'.1 64 = v.1 64) (h65 : v'.1 65 = v.1 65) : KR u' v' b c' o' := KR_cg (KR_row h hn hs h60 hc h64 h65) hu rfl rfl rfl rfl
theorem tI_0 : (0 : Int32).toInt = ((0 : Nat) : Int) := rfl
theorem tI_51 : (51 : Int32).toInt = ((51 : Nat) : Int) := rfl
theorem tI_102 : (102 : Int32).toInt = ((102 : Nat) : Int) := rfl
theorem im1 {u : uk_Mem} {k : Int32} (h : 0 ≤ k ∧ k ≤ 1) : e_X6_isImage u k = 1 := by
  unfold e_X6_isImage
  rw [if_neg (by lia), if_neg (by lia)]
theorem keep6 {u : uk_Mem} {k : Int32} {b : Nat} (h : 0 ≤ k ∧ k ≤ 1) (hb : (if k = 0 then 22 else 31) = b) : e_X6_keep u k = (if u.1 40 k.toNatClampNeg = 0 then 0 else 1, uk_up (e_X0_copyFrom u b 13) 40 k.toNatClampNeg 1) := by
  unfold e_X6_keep
  dsimp only
  rw [im1 h, if_neg one0, hb]
  by_cases q : u.1 40 k.toNatClampNeg = 0
  · rw [if_pos q, if_pos q]
  · rw [if_neg q, if_neg q]
theorem keep7 {v : uk_Mem} {k t : Int32} (h : 0 ≤ k ∧ k ≤ 1) (ht : 51 * (k + 1) = t) : e_X7_keep v k = (if v.1 63 k.toNatClampNeg = 0 then 0 else 1, e_X7_copies (uk_up v 63 k.toNatClampNeg 1) t 0) := by
  unfold e_X7_keep
  dsimp only
  rw [show e_X7_in v k 0 1 = 1 from if_pos h, if_neg one0, ht, flag_e]
theorem back6 {u : uk_Mem} {k : Int32} {b : Nat} (h : 0 ≤ k ∧ k ≤ 1) (hb : (if k = 0 then 22 else 31) = b) : e_X6_back u k = if u.1 40 k.toNatClampNeg = 0 then (-2, u) else ((e_X0_copyFrom u 13 b).1 13 10, e_X0_copyFrom u 13 b) := by
  unfold e_X6_back
  dsimp only
  rw [im1 h, if_neg one0, hb]
theorem back7 {v : uk_Mem} {k t : Int32} (h : 0 ≤ k ∧ k ≤ 1) (ht : 51 * (k + 1) = t) : e_X7_back v k = if v.1 63 k.toNatClampNeg = 0 then (-2, v) else ((e_X7_copies v 0 t).1 61 40, e_X7_copies v 0 t) := by
  unfold e_X7_back
  dsimp only
  rw [show e_X7_in v k 0 1 = 1 from if_pos h, if_neg one0, ht, show (40 : Int32).toNatClampNeg = 40 from rfl]
theorem keep_R {u u1 u2 : uk_Mem} {k : Int32} (h : REL u) (hu : iv u) (e1 : u1 = (e_X6_keep u k).2) (e2 : u2 = (e_X7_keep u1 k).2) : (e_X6_keep u k).1 = (e_X7_keep u1 k).1 ∧ REL u2 := by
  have hn : 0 ≤ u.1 60 3 ∧ u.1 60 3 ≤ 8 := iv_at hu 60 3 rfl
  have n8 := uk_cln 8 8 rfl hn.1 hn.2
  have s0 := iv_42 hu (T := 0) (by omega)
  have s8 := uk_cln 8 8 rfl s0.1 s0.2
  obtain ⟨K0, ⟨i0, i1⟩, K1, K2, T, sh⟩ := h
  have h : REL u := ⟨K0, ⟨i0, i1⟩, K1, K2, T, sh⟩
  have z0 : (0 : Int32).toNatClampNeg = 0 := rfl
  have z1 : (1 : Int32).toNatClampNeg = 1 := rfl
  by_cases k0 : k = 0
  · subst k0
    have d22 : Dj 22 13 := Dj_of uk_isK22 uk_isK13 (by decide)
    have B1 := keep6 (u := u) (k := 0) (b := 22) ⟨by decide, by decide⟩ rfl
    have B2 := keep7 (v := u1) (k := 0) (t := 51) ⟨by decide, by decide⟩ (by decide)
    rw [z0] at B1 B2
    have E1 : u1 = uk_up (e_X0_copyFrom u 22 13) 40 0 1 := by rw [e1, B1]
    have E2 : u2 = e_X7_copies (uk_up u1 63 0 1) 51 0 := by rw [e2, B2]
    have A : (e_X6_keep u 0).1 = (e_X7_keep u1 0).1 := by
      rw [B1, B2]
      dsimp only
      rw [E1, uk_up_oc (b := 63) (by decide), cf_o d22 (by omega), i0]
    have c1 : ∀ d, (d < 22 ∨ 31 ≤ d) → ¬ d = 40 → ¬ d = 63 → ¬ d = 61 → u2.1 d = u.1 d := fun d h1 h2 h3 h4 => by
      rw [E2, cp_c tI_51 tI_0 (by omega) (by omega) (by omega) h4, uk_up_oc h3, E1, uk_up_oc h2, cf_o d22 (by omega)]
    have c22 : ∀ d, 22 ≤ d → d ≤ 30 → u2.1 d = (e_X0_copyFrom u 22 13).1 d := fun d h1 h2 => by
      rw [E2, cp_c tI_51 tI_0 (by omega) (by omega) (by omega) (by omega), uk_up_oc (by omega), E1, uk_up_oc (by omega)]
    have r0 : ∀ j, j < 51 → u2.1 61 j = u.1 61 j := fun j hj => by
      rw [E2, cp_o tI_51 tI_0 (by omega) (by omega) (by omega) (by omega), uk_up_oc (by decide), E1, uk_up_oc (by decide), cf_o d22 (by omega)]
    have r1 : ∀ j, j < 51 → u2.1 61 (j + 51) = u.1 61 j := fun j hj => by
      rw [E2, cp_j tI_51 tI_0 (by omega) (by omega) (by omega) hj, uk_up_oc (by decide), E1, uk_up_oc (by decide), cf_o d22 (by omega)]
      rfl
    have r2 : ∀ j, 102 ≤ j → u2.1 61 j = u.1 61 j := fun j hj => by
      rw [E2, cp_o tI_51 tI_0 (by omega) (by omega) (by omega) (by omega), uk_up_oc (by decide), E1, uk_up_oc (by decide), cf_o d22 (by omega)]
    have e40 : ∀ j, u2.1 40 j = if j = 0 then 1 else u.1 40 j := fun j => by
      rw [E2, cp_c tI_51 tI_0 (by omega) (by omega) (by omega) (by decide), uk_up_oc (by decide), E1, uk_up_at, cf_o d22 (by omega)]
      simp
    have e63 : ∀ j, u2.1 63 j = if j = 0 then 1 else u.1 63 j := fun j => by
      rw [E2, cp_c tI_51 tI_0 (by omega) (by omega) (by omega) (by decide), uk_up_at, E1, uk_up_oc (by decide), cf_o d22 (by omega)]
      simp
    have o60 : u2.1 60 = u.1 60 := c1 60 (by omega) (by omega) (by omega) (by omega)
    have o64 : u2.1 64 = u.1 64 := c1 64 (by omega) (by omega) (by omega) (by omega)
    have o65 : u2.1 65 = u.1 65 := c1 65 (by omega) (by omega) (by omega) (by omega)
    refine ⟨A, REL_mk h (fun c hc => c1 c ?_ ?_ ?_ ?_) (by rw [c1 0 (by omega) (by omega) (by omega) (by omega)]) (by rw [c1 0 (by omega) (by omega) (by omega) (by omega)]) (by rw [c1 2 (by omega) (by omega) (by omega) (by omega)]) (by rw [o60]) (by rw [o60]) (by rw [o60]) ?_ ⟨by rw [e40, e63, if_pos rfl, if_pos rfl], by rw [e40, e63, if_neg (by decide), if_neg (by decide)]; exact i1⟩ (fun _ => ?_) (fun q => ?_)⟩
    · exact (show ∀ c, c ∈ relS → c < 22 ∨ 31 ≤ c by decide) c hc
    · exact (show ∀ c, c ∈ relS → ¬ c = 40 by decide) c hc
    · exact (show ∀ c, c ∈ relS → ¬ c = 63 by decide) c hc
    · exact (show ∀ c, c ∈ relS → ¬ c = 61 by decide) c hc
    · exact KR_cp K0 hn.2 s0.2 (fun d d1 d2 => c1 d (by omega) (by omega) (by omega) (by omega)) (by rw [o60]) (fun j hj => r0 j hj) o64 o65
    · exact KR_cp (KR_copy d22 K0 n8 s8) hn.2 s0.2 (fun d d1 d2 => c22 d (by omega) (by omega)) (by rw [o60]) (fun j hj => r1 j hj) o64 o65
    · rw [e63, if_neg (by decide)] at q
      exact KR_cp (K2 q) hn.2 (iv_42 hu (by omega)).2 (fun d d1 d2 => c1 d (by omega) (by omega) (by omega) (by omega)) (by rw [o60]) (fun j hj => r2 _ (by omega)) o64 o65
  · by_cases k1 : k = 1
    · subst k1
      have d31 : Dj 31 13 := Dj_of uk_isK31 uk_isK13 (by decide)
      have B1 := keep6 (u := u) (k := 1) (b := 31) ⟨by decide, by decide⟩ rfl
      have B2 := keep7 (v := u1) (k := 1) (t := 102) ⟨by decide, by decide⟩ (by decide)
      rw [z1] at B1 B2
      have E1 : u1 = uk_up (e_X0_copyFrom u 31 13) 40 1 1 := by rw [e1, B1]
      have E2 : u2 = e_X7_copies (uk_up u1 63 1 1) 102 0 := by rw [e2, B2]
      have A : (e_X6_keep u 1).1 = (e_X7_keep u1 1).1 := by
        rw [B1, B2]
        dsimp only
        rw [E1, uk_up_oc (b := 63) (by decide), cf_o d31 (by omega), i1]
      have c1 : ∀ d, (d < 31 ∨ 40 ≤ d) → ¬ d = 40 → ¬ d = 63 → ¬ d = 61 → u2.1 d = u.1 d := fun d h1 h2 h3 h4 => by
        rw [E2, cp_c tI_102 tI_0 (by omega) (by omega) (by omega) h4, uk_up_oc h3, E1, uk_up_oc h2, cf_o d31 (by omega)]
      have c31 : ∀ d, 31 ≤ d → d ≤ 39 → u2.1 d = (e_X0_copyFrom u 31 13).1 d := fun d h1 h2 => by
        rw [E2, cp_c tI_102 tI_0 (by omega) (by omega) (by omega) (by omega), uk_up_oc (by omega), E1, uk_up_oc (by omega)]
      have r0 : ∀ j, j < 102 → u2.1 61 j = u.1 61 j := fun j hj => by
        rw [E2, cp_o tI_102 tI_0 (by omega) (by omega) (by omega) (by omega), uk_up_oc (by decide), E1, uk_up_oc (by decide), cf_o d31 (by omega)]
      have r2 : ∀ j, j < 51 → u2.1 61 (j + 102) = u.1 61 j := fun j hj => by
        rw [E2, cp_j tI_102 tI_0 (by omega) (by omega) (by omega) hj, uk_up_oc (by decide), E1, uk_up_oc (by decide), cf_o d31 (by omega)]
        rfl
      have e40 : ∀ j, u2.1 40 j = if j = 1 then 1 else u.1 40 j := fun j => by
        rw [E2, cp_c tI_102 tI_0 (by omega) (by omega) (by omega) (by decide), uk_up_oc (by decide), E1, uk_up_at, cf_o d31 (by omega)]
        simp
      have e63 : ∀ j, u2.1 63 j = if j = 1 then 1 else u.1 63 j := fun j => by
        rw [E2, cp_c tI_102 tI_0 (by omega) (by omega) (by omega) (by decide), uk_up_at, E1, uk_up_oc (by decide), cf_o d31 (by omega)]
        simp
      have o60 : u2.1 60 = u.1 60 := c1 60 (by omega) (by omega) (by omega) (by omega)
      have o64 : u2.1 64 = u.1 64 := c1 64 (by omega) (by omega) (by omega) (by omega)
      have o65 : u2.1 65 = u.1 65 := c1 65 (by omega) (by omega) (by omega) (by omega)
      refine ⟨A, REL_mk h (fun c hc => c1 c ?_ ?_ ?_ ?_) (by rw [c1 0 (by omega) (by omega) (by omega) (by omega)]) (by rw [c1 0 (by omega) (by omega) (by omega) (by omega)]) (by rw [c1 2 (by omega) (by omega) (by omega) (by omega)]) (by rw [o60]) (by rw [o60]) (by rw [o60]) ?_ ⟨by rw [e40, e63, if_neg (by decide), if_neg (by decide)]; exact i0, by rw [e40, e63, if_pos rfl, if_pos rfl]⟩ (fun q => ?_) (fun _ => ?_)⟩
      · exact (show ∀ c, c ∈ relS → c < 31 ∨ 40 ≤ c by decide) c hc
      · exact (show ∀ c, c ∈ relS → ¬ c = 40 by decide) c hc
      · exact (show ∀ c, c ∈ relS → ¬ c = 63 by decide) c hc
      · exact (show ∀ c, c ∈ relS → ¬ c = 61 by decide) c hc
      · exact KR_cp K0 hn.2 s0.2 (fun d d1 d2 => c1 d (by omega) (by omega) (by omega) (by omega)) (by rw [o60]) (fun j hj => r0 _ (by omega)) o64 o65
      · rw [e63, if_neg (by decide)] at q
        exact KR_cp (K1 q) hn.2 (iv_42 hu (by omega)).2 (fun d d1 d2 => c1 d (by omega) (by omega) (by omega) (by omega)) (by rw [o60]) (fun j hj => r0 _ (by omega)) o64 o65
      · exact KR_cp (KR_copy d31 K0 n8 s8) hn.2 s0.2 (fun d d1 d2 => c31 d (by omega) (by omega)) (by rw [o60]) (fun j hj => r2 j hj) o64 o65
    · have hi : e_X6_isImage u k = 0 := by
        unfold e_X6_isImage
        by_cases q : k < 0
        · rw [if_pos q]
        · rw [if_neg q, if_pos (by lia)]
      have a1 : e_X6_keep u k = (-1, u) := by
        unfold e_X6_keep
        dsimp only
        rw [hi, if_pos rfl]
      have h7 : e_X7_in u1 k 0 1 = 0 := if_neg (fun q => by have := q.1; have := q.2; lia)
      have a2 : e_X7_keep u1 k = (-1, u1) := by
        unfold e_X7_keep
        dsimp only
        rw [h7, if_pos rfl]
      rw [a1] at e1 ⊢
      rw [a2] at e2 ⊢
      rw [e2, e1]
      exact ⟨rfl, h⟩
theorem back_R {u u1 u2 : uk_Mem} {k : Int32} (h : REL u) (hu : iv u) (e1 : u1 = (e_X6_back u k).2) (e2 : u2 = (e_X7_back u1 k).2) : (e_X6_back u k).1 = (e_X7_back u1 k).1 ∧ REL u2 := by
  have hn : 0 ≤ u.1 60 3 ∧ u.1 60 3 ≤ 8 := iv_at hu 60 3 rfl
  have n8 := uk_cln 8 8 rfl hn.1 hn.2
  obtain ⟨K0, ⟨i0, i1⟩, K1, K2, T, sh⟩ := h
  have h : REL u := ⟨K0, ⟨i0, i1⟩, K1, K2, T, sh⟩
  have z0 : (0 : Int32).toNatClampNeg = 0 := rfl
  have z1 : (1 : Int32).toNatClampNeg = 1 := rfl
  -- what both do, for an image whose cells begin at b and whose row begins at R
  have key : ∀ (b R : Nat) (r : Int32), ((b = 22 ∧ R = 51) ∨ (b = 31 ∧ R = 102)) → r.toInt = (R : Int) → uk_isK b → KR u u b 61 R → u1 = e_X0_copyFrom u 13 b → u2 = e_X7_copies u1 0 r → u1.1 13 10 = u2.1 61 40 ∧ REL u2 := by
    intro b R r hb hr hib KI E1 E2
    have d13 : Dj 13 b := Dj_of uk_isK13 hib (by omega)
    have s := iv_42 hu (T := R) (by omega)
    have s8 := uk_cln 8 8 rfl s.1 s.2
    have c1 : ∀ d, (d < 13 ∨ 22 ≤ d) → ¬ d = 61 → u2.1 d = u.1 d := fun d h1 h4 => by
      rw [E2, cp_c tI_0 hr (by omega) (by omega) (by omega) h4, E1, cf_o d13 (by omega)]
    have c13 : ∀ d, 13 ≤ d → d ≤ 21 → u2.1 d = (e_X0_copyFrom u 13 b).1 d := fun d h1 h2 => by
      rw [E2, cp_c tI_0 hr (by omega) (by omega) (by omega) (by omega), E1]
    have r0 : ∀ j, j < 51 → u2.1 61 (j + 0) = u.1 61 (j + R) := fun j hj => by
      rw [E2, cp_j tI_0 hr (by omega) (by omega) (by omega) hj, E1, cf_o d13 (by omega)]
    have r1 : ∀ j, 51 ≤ j → u2.1 61 j = u.1 61 j := fun j hj => by
      rw [E2, cp_o tI_0 hr (by omega) (by omega) (by omega) (by omega), E1, cf_o d13 (by omega)]
    have o60 : u2.1 60 = u.1 60 := c1 60 (by omega) (by omega)
    have o64 : u2.1 64 = u.1 64 := c1 64 (by omega) (by omega)
    have o65 : u2.1 65 = u.1 65 := c1 65 (by omega) (by omega)
    have KK : KR u2 u2 13 61 0 := KR_cp (KR_copy d13 KI n8 s8) hn.2 s.2 (fun d d1 d2 => c13 d (by omega) (by omega)) (by rw [o60]) r0 o64 o65
    refine ⟨?_, REL_mk h (fun c hc => c1 c ((show ∀ c, c ∈ relS → c < 13 ∨ 22 ≤ c by decide) c hc) ((show ∀ c, c ∈ relS → ¬ c = 61 by decide) c hc)) (by rw [c1 0 (by omega) (by omega)]) (by rw [c1 0 (by omega) (by omega)]) (by rw [c1 2 (by omega) (by omega)]) (by rw [o60]) (by rw [o60]) (by rw [o60]) KK ⟨by rw [c1 40 (by omega) (by omega), c1 63 (by omega) (by omega)]; exact i0, by rw [c1 40 (by omega) (by omega), c1 63 (by omega) (by omega)]; exact i1⟩ (fun q => ?_) (fun q => ?_)⟩
    · have := KK.2.2.1
      rw [c13 13 (by omega) (by omega), ← E1] at this
      exact this
    · rw [c1 63 (by omega) (by omega)] at q
      exact KR_cp (K1 q) hn.2 (iv_42 hu (by omega)).2 (fun d d1 d2 => c1 d (by omega) (by omega)) (by rw [o60]) (fun j hj => r1 _ (by omega)) o64 o65
    · rw [c1 63 (by omega) (by omega)] at q
      exact KR_cp (K2 q) hn.2 (iv_42 hu (by omega)).2 (fun d d1 d2 => c1 d (by omega) (by omega)) (by rw [o60]) (fun j hj => r1 _ (by omega)) o64 o65
  by_cases k0 : k = 0
  · subst k0
    have a1 := back6 (u := u) (k := 0) (b := 22) ⟨by decide, by decide⟩ rfl
    have a2 := back7 (v := u1) (k := 0) (t := 51) ⟨by decide, by decide⟩ (by decide)
    rw [z0] at a1 a2
    by_cases q : u.1 40 0 = 0
    · rw [if_pos q] at a1
      rw [a1] at e1 ⊢
      have e1 : u1 = u := e1
      rw [e1, ← i0, if_pos q] at a2
      rw [e1, a2] at e2 ⊢
      rw [e2]
      exact ⟨rfl, h⟩
    · rw [if_neg q] at a1
      rw [a1] at e1 ⊢
      have o63 : u1.1 63 0 = u.1 63 0 := by
        rw [e1]
        rw [cf_o (Dj_of uk_isK13 uk_isK22 (by decide)) (by omega)]
      rw [o63, ← i0, if_neg q] at a2
      rw [a2] at e2 ⊢
      have := key 22 51 51 (by omega) tI_51 uk_isK22 (K1 (by rw [← i0]; exact q)) e1 e2
      refine ⟨?_, this.2⟩
      dsimp only at e1 e2 ⊢
      rw [← e1, ← e2]
      exact this.1
  · by_cases k1 : k = 1
    · subst k1
      have a1 := back6 (u := u) (k := 1) (b := 31) ⟨by decide, by decide⟩ rfl
      have a2 := back7 (v := u1) (k := 1) (t := 102) ⟨by decide, by decide⟩ (by decide)
      rw [z1] at a1 a2
      by_cases q : u.1 40 1 = 0
      · rw [if_pos q] at a1
        rw [a1] at e1 ⊢
        have e1 : u1 = u := e1
        rw [e1, ← i1, if_pos q] at a2
        rw [e1, a2] at e2 ⊢
        rw [e2]
        exact ⟨rfl, h⟩
      · rw [if_neg q] at a1
        rw [a1] at e1 ⊢
        have o63 : u1.1 63 1 = u.1 63 1 := by
          rw [e1]
          rw [cf_o (Dj_of uk_isK13 uk_isK31 (by decide)) (by omega)]
        rw [o63, ← i1, if_neg q] at a2
        rw [a2] at e2 ⊢
        have := key 31 102 102 (by omega) tI_102 uk_isK31 (K2 (by rw [← i1]; exact q)) e1 e2
        refine ⟨?_, this.2⟩
        dsimp only at e1 e2 ⊢
        rw [← e1, ← e2]
        exact this.1
    · have hi : e_X6_isImage u k = 0 := by
        unfold e_X6_isImage
        by_cases q : k < 0
        · rw [if_pos q]
        · rw [if_neg q, if_pos (by lia)]
      have a1 : e_X6_back u k = (-1, u) := by
        unfold e_X6_back
        dsimp only
        rw [hi, if_pos rfl]
      have h7 : e_X7_in u1 k 0 1 = 0 := if_neg (fun q => by have := q.1; have := q.2; lia)
      have a2 : e_X7_back u1 k = (-1, u1) := by
        unfold e_X7_back
        dsimp only
        rw [h7, if_pos rfl]
      rw [a1] at e1 ⊢
      rw [a2] at e2 ⊢
      rw [e2, e1]
      exact ⟨rfl, h⟩
