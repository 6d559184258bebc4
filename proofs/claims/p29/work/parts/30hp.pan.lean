/-! of a row of the reference: a kind is 0 to 4, what was seen is a stuff -/
def PRo (u : uk_Mem) (c o : Nat) : Prop := (∀ j, j < 8 → j < (u.1 60 3).toNatClampNeg → 0 ≤ u.1 c (j + (o + 32)) ∧ u.1 c (j + (o + 32)) ≤ 4) ∧ ∀ i, i < (u.1 c (o + 42)).toNatClampNeg → 0 ≤ u.1 c (i + (o + 43)) ∧ u.1 c (i + (o + 43)) < u.1 60 3
def PR (u : uk_Mem) : Prop := PRo u 61 0 ∧ (¬ u.1 63 0 = 0 → PRo u 61 51) ∧ (¬ u.1 63 1 = 0 → PRo u 61 102)
theorem PRo_row {u v : uk_Mem} {c o c' o' : Nat} (h : PRo u c o) (s : 0 ≤ u.1 c (o + 42) ∧ u.1 c (o + 42) ≤ 8) (e : ∀ j, j < 51 → v.1 c' (j + o') = u.1 c (j + o)) (e3 : v.1 60 3 = u.1 60 3) : PRo v c' o' := by
  refine ⟨fun j hj hk => ?_, fun i hi => ?_⟩
  · have e32 := e (j + 32) (by omega)
    rw [show j + 32 + o' = j + (o' + 32) by omega, show j + 32 + o = j + (o + 32) by omega] at e32
    rw [e3] at hk
    rw [e32]
    exact h.1 j hj hk
  have l := uk_cln 8 8 rfl s.1 s.2
  have e42 := e 42 (by omega)
  rw [Nat.add_comm 42 o', Nat.add_comm 42 o] at e42
  rw [e42] at hi
  have e43 := e (i + 43) (by omega)
  rw [show i + 43 + o' = i + (o' + 43) by omega, show i + 43 + o = i + (o + 43) by omega] at e43
  rw [e43, e3]
  exact h.2 i hi
theorem PRo_c {u v : uk_Mem} {c o : Nat} (h : PRo u c o) (e : v.1 c = u.1 c) (e3 : v.1 60 3 = u.1 60 3) : PRo v c o := by
  unfold PRo
  rw [e, e3]
  exact h
theorem PR_c {u v : uk_Mem} (h : PR u) (e : v.1 61 = u.1 61) (e6 : v.1 63 = u.1 63) (e3 : v.1 60 3 = u.1 60 3) : PR v := by
  unfold PR PRo
  rw [e, e3, e6]
  exact h
theorem PR_fr {u v : uk_Mem} {a b : Nat} (h : PR u) (f : fr a b u v) (hb : b ≤ 60) : PR v := PR_c h (f.1 61 (by omega)) (f.1 63 (by omega)) (by rw [f.1 60 (by omega)])
theorem PR_fk {u v : uk_Mem} {l ks : List Nat} (h : PR u) (f : fk l ks u v) (h1 : 61 ∉ l) (h2 : 63 ∉ l) (h3 : 60 ∉ l ∨ (60 = 60 ∧ 3 ∈ ks)) : PR v := PR_c h (fk_c f h1) (fk_c f h2) (fk_at f h3)
theorem PR_kit {u u1 u2 : uk_Mem} {l : List Nat} (h : PR u) (hu : iv u) (f1 : fr 13 22 u u1) (f2 : fk l [] u1 u2) (hl : ∀ c, c ∈ l → c = 61 ∨ c = 62) (o : ∀ j, 51 ≤ j → u2.1 61 j = u1.1 61 j) (K : PRo u1 61 0 → PRo u2 61 0) : PR u2 := by
  have h1 : PR u1 := PR_fr h f1 (by omega)
  have n60 : 60 ∉ l := fun q => by have := hl 60 q; omega
  have n63 : 63 ∉ l := fun q => by have := hl 63 q; omega
  have e3 : u2.1 60 3 = u1.1 60 3 := by rw [fk_c f2 n60]
  have e6 : u2.1 63 = u1.1 63 := fk_c f2 n63
  have s : ∀ T, T = 0 ∨ T = 51 ∨ T = 102 → 0 ≤ u1.1 61 (T + 42) ∧ u1.1 61 (T + 42) ≤ 8 := fun T hT => by
    rw [f1.1 61 (by omega)]
    exact iv_42 hu hT
  refine ⟨K h1.1, fun q => ?_, fun q => ?_⟩
  · rw [e6] at q
    exact PRo_row (h1.2.1 q) (s 51 (by omega)) (fun j hj => o _ (by omega)) e3
  · rw [e6] at q
    exact PRo_row (h1.2.2 q) (s 102 (by omega)) (fun j hj => o _ (by omega)) e3
theorem PRo_up {v : uk_Mem} {k : Nat} {x : Int32} {c : Nat} (hc : ¬ c = 60) (h : PRo v c 0) (h1 : 32 ≤ k → k < 40 → 0 ≤ x ∧ x ≤ 4) (h2 : k < 42) : PRo (uk_up v c k x) c 0 := by
  have e3 : (uk_up v c k x).1 60 3 = v.1 60 3 := by rw [uk_up_oc (by omega)]
  refine ⟨fun j hj hk => ?_, fun i hi => ?_⟩
  · rw [e3] at hk
    rw [uk_up_at]
    by_cases q : j + (0 + 32) = k
    · rw [if_pos ⟨rfl, q⟩]
      exact h1 (by omega) (by omega)
    · rw [if_neg (fun z => q z.2)]
      exact h.1 j hj hk
  · rw [uk_up_at, if_neg (by omega)] at hi
    rw [uk_up_at, if_neg (by omega), e3]
    exact h.2 i hi
theorem bec_P {v : uk_Mem} {k x : Int32} (h : PRo v 61 0) (h0 : 0 ≤ k) (hk : k ≤ 41) (h1 : 32 ≤ k → k ≤ 39 → 0 ≤ x ∧ x ≤ 4) : PRo (e_X7_becomes v k x).2 61 0 := by
  have l := uk_cln 41 41 rfl h0 hk
  unfold e_X7_becomes
  dsimp only
  have a := Int32.le_iff_toInt_le.mp h0
  have z : (0 : Int32).toInt = 0 := rfl
  have y : (32 : Int32).toInt = 32 := rfl
  have y2 : (39 : Int32).toInt = 39 := rfl
  have e : k.toNatClampNeg = k.toInt.toNat := rfl
  refine PRo_up (by decide) h (fun q1 q2 => h1 ?_ ?_) (by omega)
  · rw [Int32.le_iff_toInt_le]
    omega
  · rw [Int32.le_iff_toInt_le]
    omega
theorem fill_P {v : uk_Mem} {m n : Int32} (hn : 0 ≤ v.1 60 3 ∧ v.1 60 3 ≤ 8) (h : PRo v 61 0) : PRo (e_X7_fill v m n).2 61 0 := by
  unfold e_X7_fill
  dsimp only
  by_cases h1 : e_X7_isStuff v m = 0
  · rw [if_pos h1]
    exact h
  · have hm := isStuff_n hn h1
    rw [if_neg h1]
    split
    · exact h
    · exact bec_P h (by lia) (by lia) (fun q _ => absurd q (by lia))
theorem feeds_P {v : uk_Mem} {m n : Int32} (hn : 0 ≤ v.1 60 3 ∧ v.1 60 3 ≤ 8) (h : PRo v 61 0) : PRo (e_X7_feeds v m n).2 61 0 := by
  unfold e_X7_feeds
  dsimp only
  by_cases h1 : e_X7_isStuff v m = 0
  · rw [if_pos h1]
    exact h
  · have hm := isStuff_n hn h1
    rw [if_neg h1]
    split
    · exact h
    · exact bec_P h (by lia) (by lia) (fun q _ => absurd q (by lia))
theorem price_P {v : uk_Mem} {m n : Int32} (hn : 0 ≤ v.1 60 3 ∧ v.1 60 3 ≤ 8) (h : PRo v 61 0) : PRo (e_X7_price v m n).2 61 0 := by
  unfold e_X7_price
  dsimp only
  by_cases h1 : e_X7_isStuff v m = 0
  · rw [if_pos h1]
    exact h
  · have hm := isStuff_n hn h1
    rw [if_neg h1]
    split
    · exact h
    · split
      · exact h
      · exact bec_P h (by lia) (by lia) (fun q _ => absurd q (by lia))
theorem kind_P {v : uk_Mem} {m n : Int32} (hn : 0 ≤ v.1 60 3 ∧ v.1 60 3 ≤ 8) (h : PRo v 61 0) : PRo (e_X7_kind v m n).2 61 0 := by
  unfold e_X7_kind
  dsimp only
  by_cases h1 : e_X7_isStuff v m = 0
  · rw [if_pos h1]
    exact h
  · have hm := isStuff_n hn h1
    rw [if_neg h1]
    by_cases h2 : e_X7_in v n 0 3 = 0
    · rw [if_pos h2]
      exact h
    · rw [if_neg h2]
      have hb : 0 ≤ n ∧ n ≤ 3 := by
        unfold e_X7_in at h2
        exact Classical.byContradiction fun q => h2 (if_neg q)
      split
      · exact bec_P h (by lia) (by lia) (fun _ _ => ⟨hb.1, by lia⟩)
      · exact h
theorem eat_P {v : uk_Mem} {m : Int32} (hn : 0 ≤ v.1 60 3 ∧ v.1 60 3 ≤ 8) (h : PRo v 61 0) : PRo (e_X7_eat v m).2 61 0 := by
  unfold e_X7_eat
  dsimp only
  by_cases h1 : e_X7_isStuff v m = 0
  · rw [if_pos h1]
    exact h
  · have hm := isStuff_n hn h1
    have l := uk_cln 7 7 rfl hm.1 (by lia)
    rw [if_neg h1, ix_0]
    by_cases h2 : v.1 61 m.toNatClampNeg = 0
    · rw [if_pos h2]
      exact h
    · rw [if_neg h2, show (40 : Int32).toNatClampNeg = 40 from rfl]
      exact PRo_up (by decide) (PRo_up (by decide) h (fun q _ => absurd q (by omega)) (by omega)) (fun _ q => absurd q (by omega)) (by omega)
theorem forget_P {v : uk_Mem} {n : Int32} (s : 0 ≤ v.1 61 42 ∧ v.1 61 42 ≤ 8) (h : PRo v 61 0) : PRo (e_X7_forget v n).2 61 0 := by
  unfold e_X7_forget
  dsimp only
  rw [show (42 : Int32).toNatClampNeg = 42 from rfl]
  by_cases h1 : e_X7_in v n 0 (v.1 61 42) = 0
  · rw [if_pos h1]
    exact h
  · rw [if_neg h1]
    have hb : 0 ≤ n ∧ n ≤ v.1 61 42 := by
      unfold e_X7_in at h1
      exact Classical.byContradiction fun q => h1 (if_neg q)
    unfold e_X7_becomes
    dsimp only
    rw [show (42 : Int32).toNatClampNeg = 42 from rfl]
    have e3 : (uk_up v 61 42 n).1 60 3 = v.1 60 3 := by rw [uk_up_oc (by decide)]
    have l := uk_cmo hb.1 hb.2
    refine ⟨fun j hj hk => ?_, fun i hi => ?_⟩
    · rw [e3] at hk
      rw [uk_up_at, if_neg (by omega)]
      exact h.1 j hj hk
    · rw [uk_up_at, if_pos ⟨rfl, rfl⟩] at hi
      rw [uk_up_at, if_neg (by omega), e3]
      exact h.2 i (show i < (v.1 61 (0 + 42)).toNatClampNeg by rw [Nat.zero_add]; omega)
theorem see_P {v : uk_Mem} {x : Int32} (hv : iv v) (h : PRo v 61 0) : PRo (e_X7_see v x).2 61 0 := by
  have hn : 0 ≤ v.1 60 3 ∧ v.1 60 3 ≤ 8 := iv_at hv 60 3 rfl
  have s := sg_42 hv (c := 61) (by unfold uk_is51; decide)
  unfold e_X7_see
  dsimp only
  rw [show (42 : Int32).toNatClampNeg = 42 from rfl]
  by_cases h1 : e_X7_isStuff v x = 0
  · rw [if_pos h1]
    exact h
  · have hm := isStuff_n hn h1
    rw [if_neg h1]
    by_cases h2 : v.1 61 42 = 8
    · rw [if_pos h2]
      exact h
    · have l := uk_cln 7 7 rfl s.1 (by lia)
      rw [if_neg h2, ix_43 s.1 (by lia)]
      have hc := uk_c1 s.1 (show v.1 61 42 ≤ 1000000 by lia)
      have w42 : (uk_up v 61 ((v.1 61 42).toNatClampNeg + 43) x).1 61 42 = v.1 61 42 := by rw [uk_up_at, if_neg (by omega)]
      rw [w42]
      have e3 : (uk_up (uk_up v 61 ((v.1 61 42).toNatClampNeg + 43) x) 61 42 (v.1 61 42 + 1)).1 60 3 = v.1 60 3 := by rw [uk_up_oc (by decide), uk_up_oc (by decide)]
      refine ⟨fun j hj hk => ?_, fun i hi => ?_⟩
      · rw [e3] at hk
        rw [uk_up_at, if_neg (by omega), uk_up_at, if_neg (by omega)]
        exact h.1 j hj hk
      · rw [uk_up_at, if_pos ⟨rfl, rfl⟩, hc] at hi
        rw [e3, uk_up_at, if_neg (by omega), uk_up_at]
        by_cases q : i = (v.1 61 42).toNatClampNeg
        · rw [if_pos ⟨rfl, by omega⟩]
          exact hm
        · rw [if_neg (by omega)]
          exact h.2 i (show i < (v.1 61 (0 + 42)).toNatClampNeg by rw [Nat.zero_add]; omega)
