/-! what lies behind the first 51 stays; class and reference side by side: all that they keep -/
theorem bec_o {v : uk_Mem} {k x : Int32} {j : Nat} (h0 : 0 ≤ k) (hk : k ≤ 50) (h : 51 ≤ j) : (e_X7_becomes v k x).2.1 61 j = v.1 61 j := by
  unfold e_X7_becomes
  dsimp only
  have := uk_cln 50 50 rfl h0 hk
  rw [uk_up_at, if_neg (by omega)]
theorem fill_o {v : uk_Mem} {m n : Int32} {j : Nat} (hn : 0 ≤ v.1 60 3 ∧ v.1 60 3 ≤ 8) (h : 51 ≤ j) : (e_X7_fill v m n).2.1 61 j = v.1 61 j := by
  unfold e_X7_fill
  dsimp only
  by_cases h1 : e_X7_isStuff v m = 0
  · rw [if_pos h1]
  · have hm := isStuff_n hn h1
    rw [if_neg h1]
    split
    · rfl
    · exact bec_o (by lia) (by lia) h
theorem feeds_o {v : uk_Mem} {m n : Int32} {j : Nat} (hn : 0 ≤ v.1 60 3 ∧ v.1 60 3 ≤ 8) (h : 51 ≤ j) : (e_X7_feeds v m n).2.1 61 j = v.1 61 j := by
  unfold e_X7_feeds
  dsimp only
  by_cases h1 : e_X7_isStuff v m = 0
  · rw [if_pos h1]
  · have hm := isStuff_n hn h1
    rw [if_neg h1]
    split
    · rfl
    · exact bec_o (by lia) (by lia) h
theorem price_o {v : uk_Mem} {m n : Int32} {j : Nat} (hn : 0 ≤ v.1 60 3 ∧ v.1 60 3 ≤ 8) (h : 51 ≤ j) : (e_X7_price v m n).2.1 61 j = v.1 61 j := by
  unfold e_X7_price
  dsimp only
  by_cases h1 : e_X7_isStuff v m = 0
  · rw [if_pos h1]
  · have hm := isStuff_n hn h1
    rw [if_neg h1]
    split
    · rfl
    · split
      · rfl
      · exact bec_o (by lia) (by lia) h
theorem kind_o {v : uk_Mem} {m n : Int32} {j : Nat} (hn : 0 ≤ v.1 60 3 ∧ v.1 60 3 ≤ 8) (h : 51 ≤ j) : (e_X7_kind v m n).2.1 61 j = v.1 61 j := by
  unfold e_X7_kind
  dsimp only
  by_cases h1 : e_X7_isStuff v m = 0
  · rw [if_pos h1]
  · have hm := isStuff_n hn h1
    rw [if_neg h1]
    split
    · rfl
    · split
      · exact bec_o (by lia) (by lia) h
      · rfl
theorem eat_o {v : uk_Mem} {m : Int32} {j : Nat} (hn : 0 ≤ v.1 60 3 ∧ v.1 60 3 ≤ 8) (h : 51 ≤ j) : (e_X7_eat v m).2.1 61 j = v.1 61 j := by
  unfold e_X7_eat
  dsimp only
  by_cases h1 : e_X7_isStuff v m = 0
  · rw [if_pos h1]
  · have hm := isStuff_n hn h1
    have := uk_cln 7 7 rfl hm.1 (by lia)
    rw [if_neg h1, ix_0]
    split
    · rfl
    · rw [show (40 : Int32).toNatClampNeg = 40 from rfl]
      dsimp only
      rw [uk_up_at, if_neg (by omega), uk_up_at, if_neg (by omega)]
theorem see_o {v : uk_Mem} {x : Int32} {j : Nat} (hv : iv v) (h : 51 ≤ j) : (e_X7_see v x).2.1 61 j = v.1 61 j := by
  have s := sg_42 hv (c := 61) (by unfold uk_is51; decide)
  unfold e_X7_see
  dsimp only
  rw [show (42 : Int32).toNatClampNeg = 42 from rfl]
  by_cases h1 : e_X7_isStuff v x = 0
  · rw [if_pos h1]
  · rw [if_neg h1]
    by_cases h2 : v.1 61 42 = 8
    · rw [if_pos h2]
    · have := uk_cln 7 7 rfl s.1 (by lia)
      rw [if_neg h2, ix_43 s.1 (by lia)]
      dsimp only
      rw [uk_up_at, if_neg (by omega), uk_up_at, if_neg (by omega)]
theorem forget_o {v : uk_Mem} {n : Int32} {j : Nat} (h : 51 ≤ j) : (e_X7_forget v n).2.1 61 j = v.1 61 j := by
  unfold e_X7_forget
  dsimp only
  split
  · rfl
  · exact bec_o (by decide) (by decide) h
theorem does_o {v : uk_Mem} {g : Int32} {j : Nat} (h : 51 ≤ j) : (e_X7_does v g).2.1 61 j = v.1 61 j := by
  unfold e_X7_does
  dsimp only
  split
  · rfl
  · split
    · rw [starts_c (by decide)]
    · dsimp only
      rw [ends_o h, doIt_c (by decide), starts_c (by decide)]
/-- lanes, sizes, cells of the sheets -/
def SHR (u : uk_Mem) : Prop := ∀ k, k < 4 → ((u.1 50 k = -1 ∧ u.1 74 k = -4) ∨ (u.1 50 k = u.1 74 k ∧ 0 ≤ u.1 50 k ∧ u.1 50 k ≤ 2)) ∧ u.1 51 k = u.1 75 k ∧ ∀ i, i < 40 → u.1 (53 + k) i = u.1 76 (i + 40 * k)
def REL (u : uk_Mem) : Prop := KR u u 13 61 0 ∧ (u.1 40 0 = u.1 63 0 ∧ u.1 40 1 = u.1 63 1) ∧ (¬ u.1 63 0 = 0 → KR u u 22 61 51) ∧ (¬ u.1 63 1 = 0 → KR u u 31 61 102) ∧ (u.1 2 1 = u.1 60 13 ∧ cpy (u.1 3) (u.1 69) (u.1 2 1) ∧ u.1 0 13 = u.1 60 18 ∧ u.1 0 14 = u.1 60 28) ∧ SHR u
/-- the cells that it speaks of -/
def relC : List Nat := [3, 13, 14, 15, 16, 17, 18, 19, 20, 21, 22, 23, 24, 25, 26, 27, 28, 29, 30, 31, 32, 33, 34, 35, 36, 37, 38, 39, 40, 50, 51, 53, 54, 55, 56, 61, 63, 64, 65, 69, 74, 75, 76]
theorem relC_k {d : Nat} (h : 13 ≤ d) (h2 : d ≤ 40) : d ∈ relC := by
  have : ∀ d, d < 41 → 13 ≤ d → d ∈ relC := by decide
  exact this d (by omega) h
theorem REL_cg {u u' : uk_Mem} (h : REL u) (hc : ∀ c, c ∈ relC → u'.1 c = u.1 c) (h1 : u'.1 0 13 = u.1 0 13) (h2 : u'.1 0 14 = u.1 0 14) (h3 : u'.1 2 1 = u.1 2 1) (h4 : u'.1 60 3 = u.1 60 3) (h5 : u'.1 60 13 = u.1 60 13) (h6 : u'.1 60 18 = u.1 60 18) (h7 : u'.1 60 28 = u.1 60 28) : REL u' := by
  obtain ⟨k, ⟨i0, i1⟩, im0, im1, ⟨t1, t2, t3, t4⟩, sh⟩ := h
  refine ⟨KR_cg k (fun d a b => hc d (relC_k a (by omega))) h4 (hc 61 (by decide)) (hc 64 (by decide)) (hc 65 (by decide)), ⟨by rw [hc 40 (by decide), hc 63 (by decide)]; exact i0, by rw [hc 40 (by decide), hc 63 (by decide)]; exact i1⟩, fun q => ?_, fun q => ?_, ⟨by rw [h3, h5]; exact t1, by rw [hc 3 (by decide), hc 69 (by decide), h3]; exact t2, by rw [h1, h6]; exact t3, by rw [h2, h7]; exact t4⟩, fun k hk => ?_⟩
  · rw [hc 63 (by decide)] at q
    exact KR_cg (im0 q) (fun d a b => hc d (relC_k (by omega) (by omega))) h4 (hc 61 (by decide)) (hc 64 (by decide)) (hc 65 (by decide))
  · rw [hc 63 (by decide)] at q
    exact KR_cg (im1 q) (fun d a b => hc d (relC_k (by omega) (by omega))) h4 (hc 61 (by decide)) (hc 64 (by decide)) (hc 65 (by decide))
  · have h53 : u'.1 (53 + k) = u.1 (53 + k) := hc _ (by rcases (show k = 0 ∨ k = 1 ∨ k = 2 ∨ k = 3 by omega) with rfl | rfl | rfl | rfl <;> decide)
    rw [hc 50 (by decide), hc 51 (by decide), hc 74 (by decide), hc 75 (by decide), hc 76 (by decide), h53]
    exact sh k hk
