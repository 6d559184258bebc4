/-! the law: what each call leaves of REL -/
def relA : List Nat := 0 :: 2 :: relC
theorem REL_fr {u u' : uk_Mem} {a b : Nat} (h : REL u) (f : fr a b u u') (ha : ∀ c, c ∈ (60 :: relA) → c < a ∨ b ≤ c) : REL u' := by
  have e : ∀ c, c ∈ (60 :: relA) → u'.1 c = u.1 c := fun c hc => f.1 c (ha c hc)
  have e0 := e 0 (by decide)
  have e2 := e 2 (by decide)
  have e60 := e 60 (by decide)
  exact REL_cg h (fun c hc => e c (List.mem_cons_of_mem _ (List.mem_cons_of_mem _ (List.mem_cons_of_mem _ hc)))) (by rw [e0]) (by rw [e0]) (by rw [e2]) (by rw [e60]) (by rw [e60]) (by rw [e60]) (by rw [e60])
theorem REL_fk {u u' : uk_Mem} {l ks : List Nat} (h : REL u) (f : fk l ks u u') (hl : ∀ c, c ∈ relA → c ∉ l) (hk : ∀ j, j ∈ [3, 13, 18, 28] → 60 ∉ l ∨ (60 = 60 ∧ j ∈ ks)) : REL u' := by
  have e : ∀ c, c ∈ relA → u'.1 c = u.1 c := fun c hc => fk_c f (hl c hc)
  have e0 := e 0 (by decide)
  have e2 := e 2 (by decide)
  exact REL_cg h (fun c hc => e c (List.mem_cons_of_mem _ (List.mem_cons_of_mem _ hc))) (by rw [e0]) (by rw [e0]) (by rw [e2]) (fk_at f (hk 3 (by decide))) (fk_at f (hk 13 (by decide))) (fk_at f (hk 18 (by decide))) (fk_at f (hk 28 (by decide)))
theorem REL_lo {u u' : uk_Mem} {b : Nat} (h : REL u) (f : fr 41 b u u') (hb : b ≤ 59) (e0 : u'.1 50 = u.1 50) (e1 : u'.1 51 = u.1 51) (e3 : u'.1 53 = u.1 53) (e4 : u'.1 54 = u.1 54) (e5 : u'.1 55 = u.1 55) (e6 : u'.1 56 = u.1 56) : REL u' := by
  have e : ∀ c, c < 41 ∨ 59 ≤ c → u'.1 c = u.1 c := fun c hc => f.1 c (by omega)
  refine REL_cg h (fun c hc => ?_) (by rw [e 0 (by omega)]) (by rw [e 0 (by omega)]) (by rw [e 2 (by omega)]) (by rw [e 60 (by omega)]) (by rw [e 60 (by omega)]) (by rw [e 60 (by omega)]) (by rw [e 60 (by omega)])
  rcases (show ∀ c, c ∈ relC → (c < 41 ∨ 59 ≤ c) ∨ c = 50 ∨ c = 51 ∨ c = 53 ∨ c = 54 ∨ c = 55 ∨ c = 56 by decide) c hc with q | rfl | rfl | rfl | rfl | rfl | rfl
  · exact e c q
  · exact e0
  · exact e1
  · exact e3
  · exact e4
  · exact e5
  · exact e6
theorem REL_kp {u u' : uk_Mem} (h : REL u) (f : fr 13 49 u u') (k : KP u u') : REL u' := by
  have e : ∀ c, c < 13 ∨ 49 ≤ c → u'.1 c = u.1 c := fun c hc => f.1 c hc
  refine REL_cg h (fun c hc => ?_) (by rw [e 0 (by omega)]) (by rw [e 0 (by omega)]) (by rw [e 2 (by omega)]) (by rw [e 60 (by omega)]) (by rw [e 60 (by omega)]) (by rw [e 60 (by omega)]) (by rw [e 60 (by omega)])
  rcases (show ∀ c, c ∈ relC → (c < 13 ∨ 49 ≤ c) ∨ (13 ≤ c ∧ c ≤ 45) by decide) c hc with q | q
  · exact e c q
  · exact k c q.1 q.2
theorem KR_u1 {u u1 : uk_Mem} {a b : Nat} (h : REL u) (f : fr a b u u1) (hb : b ≤ 60) : KR u u1 13 61 0 := KR_cg h.1 (fun _ _ _ => rfl) (by rw [f.1 60 (by omega)]) (f.1 61 (by omega)) (f.1 64 (by omega)) (f.1 65 (by omega))
theorem REL_kit {u u1 u2 : uk_Mem} {l : List Nat} (h : REL u) (hu : iv u) (f1 : fr 13 22 u u1) (f2 : fk l [] u1 u2) (hl : ∀ c, c ∈ l → c = 61 ∨ c = 62) (o : ∀ j, 51 ≤ j → u2.1 61 j = u1.1 61 j) (K : KR u1 u2 13 61 0) : REL u2 := by
  have hn : 0 ≤ u.1 60 3 ∧ u.1 60 3 ≤ 8 := iv_at hu 60 3 rfl
  obtain ⟨-, ⟨i0, i1⟩, K1, K2, -, -⟩ := id h
  have e2 : ∀ c, ¬ c = 61 → ¬ c = 62 → u2.1 c = u1.1 c := fun c h1 h2 => fk_c f2 (fun q => (hl c q).elim h1 h2)
  have e : ∀ c, (c < 13 ∨ 22 ≤ c) → ¬ c = 61 → ¬ c = 62 → u2.1 c = u.1 c := fun c h0 h1 h2 => (e2 c h1 h2).trans (f1.1 c h0)
  have o60 : u2.1 60 = u.1 60 := e 60 (by omega) (by omega) (by omega)
  have o61 : ∀ j, 51 ≤ j → u2.1 61 j = u.1 61 j := fun j hj => (o j hj).trans (by rw [f1.1 61 (by omega)])
  have o64 := e 64 (by omega) (by omega) (by omega)
  have o65 := e 65 (by omega) (by omega) (by omega)
  refine REL_mk h (fun c hc => ?_) (by rw [e 0 (by omega) (by omega) (by omega)]) (by rw [e 0 (by omega) (by omega) (by omega)]) (by rw [e 2 (by omega) (by omega) (by omega)]) (by rw [o60]) (by rw [o60]) (by rw [o60]) (KR_cg K (fun d d1 d2 => e2 d (by omega) (by omega)) rfl rfl rfl rfl) ⟨by rw [e 40 (by omega) (by omega) (by omega), e 63 (by omega) (by omega) (by omega)]; exact i0, by rw [e 40 (by omega) (by omega) (by omega), e 63 (by omega) (by omega) (by omega)]; exact i1⟩ (fun q => ?_) (fun q => ?_)
  · have := (show ∀ c, c ∈ relS → (c < 13 ∨ 22 ≤ c) ∧ ¬ c = 61 ∧ ¬ c = 62 by decide) c hc
    exact e c this.1 this.2.1 this.2.2
  · rw [e 63 (by omega) (by omega) (by omega)] at q
    exact KR_cp (K1 q) hn.2 (iv_42 hu (by omega)).2 (fun d d1 d2 => e d (by omega) (by omega) (by omega)) (by rw [o60]) (fun j hj => o61 _ (by omega)) o64 o65
  · rw [e 63 (by omega) (by omega) (by omega)] at q
    exact KR_cp (K2 q) hn.2 (iv_42 hu (by omega)).2 (fun d d1 d2 => e d (by omega) (by omega) (by omega)) (by rw [o60]) (fun j hj => o61 _ (by omega)) o64 o65
/-- the tapes alone -/
theorem REL_tp {u u' : uk_Mem} (h : REL u) (hc : ∀ c, ¬ c = 2 → ¬ c = 3 → ¬ c = 60 → ¬ c = 69 → u'.1 c = u.1 c) (h4 : u'.1 60 3 = u.1 60 3) (h6 : u'.1 60 18 = u.1 60 18) (h7 : u'.1 60 28 = u.1 60 28) (t1 : u'.1 2 1 = u'.1 60 13) (t2 : cpy (u'.1 3) (u'.1 69) (u'.1 2 1)) : REL u' := by
  obtain ⟨k, ⟨i0, i1⟩, im0, im1, ⟨-, -, t3, t4⟩, sh⟩ := h
  have e : ∀ c, ¬ c = 2 → ¬ c = 3 → ¬ c = 60 → ¬ c = 69 → u'.1 c = u.1 c := hc
  refine ⟨KR_cg k (fun d a b => e d (by omega) (by omega) (by omega) (by omega)) h4 (e 61 (by omega) (by omega) (by omega) (by omega)) (e 64 (by omega) (by omega) (by omega) (by omega)) (e 65 (by omega) (by omega) (by omega) (by omega)), ⟨by rw [e 40 (by omega) (by omega) (by omega) (by omega), e 63 (by omega) (by omega) (by omega) (by omega)]; exact i0, by rw [e 40 (by omega) (by omega) (by omega) (by omega), e 63 (by omega) (by omega) (by omega) (by omega)]; exact i1⟩, fun q => ?_, fun q => ?_, ⟨t1, t2, by rw [e 0 (by omega) (by omega) (by omega) (by omega), h6]; exact t3, by rw [e 0 (by omega) (by omega) (by omega) (by omega), h7]; exact t4⟩, fun j hj => ?_⟩
  · rw [e 63 (by omega) (by omega) (by omega) (by omega)] at q
    exact KR_cg (im0 q) (fun d a b => e d (by omega) (by omega) (by omega) (by omega)) h4 (e 61 (by omega) (by omega) (by omega) (by omega)) (e 64 (by omega) (by omega) (by omega) (by omega)) (e 65 (by omega) (by omega) (by omega) (by omega))
  · rw [e 63 (by omega) (by omega) (by omega) (by omega)] at q
    exact KR_cg (im1 q) (fun d a b => e d (by omega) (by omega) (by omega) (by omega)) h4 (e 61 (by omega) (by omega) (by omega) (by omega)) (e 64 (by omega) (by omega) (by omega) (by omega)) (e 65 (by omega) (by omega) (by omega) (by omega))
  · rw [e 50 (by omega) (by omega) (by omega) (by omega), e 51 (by omega) (by omega) (by omega) (by omega), e 74 (by omega) (by omega) (by omega) (by omega), e 75 (by omega) (by omega) (by omega) (by omega), e 76 (by omega) (by omega) (by omega) (by omega), e (53 + j) (by omega) (by omega) (by omega) (by omega)]
    exact sh j hj
/-- the text -/
theorem REL_tx {u u1 u2 : uk_Mem} {f : Nat → Int32} {n : Int32} (h : REL u) (hu : iv u) (hv2 : iv u2) (F1 : fr 0 41 u u1) (F2 : fk [60, 61, 63, 64, 65, 66, 67, 68] [22, 28] u1 u2) (a1 : u1.1 2 1 = 0) (a2 : u1.1 0 13 = (pRes f n).1.1) (a3 : (pRes f n).1.1 = 0 → TXI f n u1 2) (a4 : ¬ (pRes f n).1.1 = 0 → ∀ d, 13 ≤ d → d ≤ 40 → u1.1 d = u.1 d) (a5 : u1.1 0 14 = u.1 0 14) (b1 : u2.1 60 13 = 0) (b2 : u2.1 60 18 = (pRes f n).1.1) (b3 : (pRes f n).1.1 = 0 → RwG (u2.1 60 3) (u2.1 61) (u2.1 64) (u2.1 65) (wIt f n (pRes f n).2.toNatClampNeg) ∧ u2.1 60 3 = (pIt f n (pRes f n).2.toNatClampNeg).2.2.2.1 ∧ u2.1 63 0 = 0 ∧ u2.1 63 1 = 0) (b4 : ¬ (pRes f n).1.1 = 0 → u2.1 61 = u1.1 61 ∧ u2.1 63 = u1.1 63 ∧ u2.1 64 = u1.1 64 ∧ u2.1 65 = u1.1 65 ∧ u2.1 60 3 = u1.1 60 3) : REL u2 := by
  obtain ⟨k, ⟨i0, i1⟩, im0, im1, ⟨-, -, t3, t4⟩, sh⟩ := h
  have o1 : ∀ c, 41 ≤ c → u1.1 c = u.1 c := fun c hc => F1.1 c (Or.inr hc)
  have o2 : ∀ c, c < 60 → u2.1 c = u1.1 c := fun c hc => fk_c F2 ((show ∀ c, c < 60 → c ∉ [60, 61, 63, 64, 65, 66, 67, 68] by decide) c hc)
  have o3 : ∀ c, 69 ≤ c → u2.1 c = u.1 c := fun c hc => (fk_c F2 (by simp only [List.mem_cons, List.not_mem_nil, or_false]; omega)).trans (o1 c (by omega))
  have T : u2.1 2 1 = u2.1 60 13 ∧ cpy (u2.1 3) (u2.1 69) (u2.1 2 1) ∧ u2.1 0 13 = u2.1 60 18 ∧ u2.1 0 14 = u2.1 60 28 := by
    refine ⟨by rw [o2 2 (by omega), a1, b1], by rw [o2 2 (by omega), a1]; exact cpy_0, by rw [o2 0 (by omega), a2, b2], ?_⟩
    rw [o2 0 (by omega), a5, F2.2 28 (by decide), o1 60 (by omega)]
    exact t4
  have S : SHR u2 := fun j hj => by
    rw [o2 50 (by omega), o2 51 (by omega), o2 (53 + j) (by omega), o1 50 (by omega), o1 51 (by omega), o1 (53 + j) (by omega), o3 74 (by omega), o3 75 (by omega), o3 76 (by omega)]
    exact sh j hj
  by_cases z : (pRes f n).1.1 = 0
  · obtain ⟨c1, c2, c3⟩ := a3 z
    obtain ⟨d1, d2, d3, d4⟩ := b3 z
    have hn : 0 ≤ u2.1 60 3 ∧ u2.1 60 3 ≤ 8 := iv_at hv2 60 3 rfl
    have n8 := uk_cln 8 8 rfl hn.1 hn.2
    have K : KR u2 u2 13 61 0 := KR_text (KW_cg c1 (fun c h1 h2 => o2 c (by omega))) d1 (by rw [o2 13 (by omega), c2, d2]) n8
    have z2 : (2 : Int32).toNatClampNeg = 2 := rfl
    rw [z2] at c3
    exact ⟨K, ⟨by rw [o2 40 (by omega), c3 0 (by omega), d3], by rw [o2 40 (by omega), c3 1 (by omega), d4]⟩, fun q => absurd d3 q, fun q => absurd d4 q, T, S⟩
  · obtain ⟨d1, d2, d3, d4, d5⟩ := b4 z
    have a4 := a4 z
    have k3 : u2.1 60 3 = u.1 60 3 := d5.trans (by rw [o1 60 (by omega)])
    have k61 : u2.1 61 = u.1 61 := d1.trans (o1 61 (by omega))
    have k64 : u2.1 64 = u.1 64 := d3.trans (o1 64 (by omega))
    have k65 : u2.1 65 = u.1 65 := d4.trans (o1 65 (by omega))
    have k63 : u2.1 63 = u.1 63 := d2.trans (o1 63 (by omega))
    have kk : ∀ d, 13 ≤ d → d ≤ 40 → u2.1 d = u.1 d := fun d h1 h2 => (o2 d (by omega)).trans (a4 d h1 h2)
    refine ⟨KR_cg k (fun d h1 h2 => kk d h1 (by omega)) k3 k61 k64 k65, ⟨by rw [kk 40 (by omega) (by omega), k63]; exact i0, by rw [kk 40 (by omega) (by omega), k63]; exact i1⟩, fun q => ?_, fun q => ?_, T, S⟩
    · rw [k63] at q
      exact KR_cg (im0 q) (fun d h1 h2 => kk d (by omega) (by omega)) k3 k61 k64 k65
    · rw [k63] at q
      exact KR_cg (im1 q) (fun d h1 h2 => kk d (by omega) (by omega)) k3 k61 k64 k65
/-- at first -/
theorem REL_0 {u : uk_Mem} {l ks : List Nat} (F : fk l ks u_0 u) (hl : ∀ c, c ∈ [0, 2, 3, 13, 40, 50, 51, 53, 54, 55, 56, 69, 75, 76] → c ∉ l) (hk : ∀ j, j ∈ [13, 18, 28] → 60 ∉ l ∨ (60 = 60 ∧ j ∈ ks)) (h3 : u.1 60 3 = 0) (h61 : ∀ j, j < 51 → u.1 61 j = 0) (h630 : u.1 63 0 = 0) (h631 : u.1 63 1 = 0) (h74 : ∀ j, j < 4 → u.1 74 j = -4) : REL u := by
  have e : ∀ c, c ∈ [0, 2, 3, 13, 40, 50, 51, 53, 54, 55, 56, 69, 75, 76] → u.1 c = u_0.1 c := fun c hc => fk_c F (hl c hc)
  have z : ∀ c j, ¬ c = 50 → u_0.1 c j = 0 := fun c j hc => by
    unfold u_0
    rw [uk_up_oc hc, uk_up_oc hc, uk_up_oc hc, uk_up_oc hc]
    rfl
  have o : ∀ c j, c ∈ [0, 2, 3, 13, 40, 51, 53, 54, 55, 56, 69, 75, 76] → u.1 c j = 0 := fun c j hc => by
    have := (show ∀ c, c ∈ [0, 2, 3, 13, 40, 51, 53, 54, 55, 56, 69, 75, 76] → c ∈ [0, 2, 3, 13, 40, 50, 51, 53, 54, 55, 56, 69, 75, 76] ∧ ¬ c = 50 by decide) c hc
    rw [e c this.1]
    exact z c j this.2
  have k0 : ∀ j, j ∈ [13, 18, 28] → u.1 60 j = 0 := fun j hj => (fk_at F (hk j hj)).trans (z 60 j (by omega))
  have z0 : (0 : Int32).toNatClampNeg = 0 := rfl
  refine ⟨⟨by rw [o 13 0 (by decide), h3], by rw [o 13 9 (by decide), h61 _ (by omega)], by rw [o 13 10 (by decide), h61 _ (by omega)], by rw [o 13 11 (by decide), h61 _ (by omega)], fun j hj => ?_, fun j hj => ?_⟩, ⟨by rw [o 40 0 (by decide), h630], by rw [o 40 1 (by decide), h631]⟩, fun q => absurd h630 q, fun q => absurd h631 q, ⟨by rw [o 2 1 (by decide), k0 13 (by decide)], by rw [o 2 1 (by decide)]; exact cpy_0, by rw [o 0 13 (by decide), k0 18 (by decide)], by rw [o 0 14 (by decide), k0 28 (by decide)]⟩, fun j hj => ?_⟩
  · rw [h3, z0] at hj
    exact absurd hj (Nat.not_lt_zero _)
  · rw [h61 _ (by omega), z0] at hj
    exact absurd hj (Nat.not_lt_zero _)
  · refine ⟨Or.inl ⟨?_, h74 j hj⟩, by rw [o 51 j (by decide), o 75 j (by decide)], fun i hi => ?_⟩
    · rw [e 50 (by decide)]
      rcases (show j = 0 ∨ j = 1 ∨ j = 2 ∨ j = 3 by omega) with rfl | rfl | rfl | rfl <;> rfl
    · rw [o 76 _ (by decide)]
      rcases (show j = 0 ∨ j = 1 ∨ j = 2 ∨ j = 3 by omega) with rfl | rfl | rfl | rfl <;> exact o _ i (by decide)
