/-! the text's rows, pure: what each line puts where (1 kind, 2 A, 3 B, 4 feeds, 5 price, 6 how many) -/
abbrev PW : Type := Nat → Nat → Int32
def wAdd (W : PW) (m : Nat) (k a b f p : Int32) : PW := fun r j => if j = m ∧ ¬ r = 6 then (if r = 1 then k else if r = 2 then a else if r = 3 then b else if r = 4 then f else p) else W r j
def wPut (W : PW) (m : Nat) (n : Int32) : PW := fun r j => if r = 6 ∧ j = m then n else W r j
noncomputable def wStf (f : Nat → Int32) (n : Int32) (a : PS) (k m : Int32) (W : PW) : PW :=
  if k = 4 then wAdd W m.toNatClampNeg 4 0 0 (pTake f n (pTake f n a 2 9).1 2 9).2 (pTake f n a 2 9).2
  else wAdd W m.toNatClampNeg k (pTake f n a 2 (m - 1)).2 (pTake f n (pTake f n a 2 (m - 1)).1 2 (m - 1)).2 (pTake f n (pTake f n (pTake f n a 2 (m - 1)).1 2 (m - 1)).1 2 9).2 0
noncomputable def wHav (f : Nat → Int32) (n : Int32) (a : PS) (W : PW) : PW := wPut W (pTake f n a 2 7).2.toNatClampNeg (pTake f n (pTwice (pTake f n a 2 7).1 (pTake f n a 2 7).2 (tk f n a.2.2.2.2).1) 2 40).2
noncomputable def wLine (f : Nat → Int32) (n : Int32) (a : PS) (W : PW) : PW :=
  if pl f (tk f n a.2.2.2.2).2.1 (tk f n a.2.2.2.2).1 (tk f n a.2.2.2.2).2.2.2 = 5 then wHav f n (0, a.2.1, a.2.2.1, a.2.2.2.1, (tk f n a.2.2.2.2).2.2.2) W
  else wStf f n (0, a.2.1, a.2.2.1, a.2.2.2.1, (tk f n a.2.2.2.2).2.2.2) (pl f (tk f n a.2.2.2.2).2.1 (tk f n a.2.2.2.2).1 (tk f n a.2.2.2.2).2.2.2) a.2.2.2.1 W
theorem wLine_H {f : Nat → Int32} {n k : Int32} {a : PS} {W : PW} (hp : pl f (tk f n a.2.2.2.2).2.1 (tk f n a.2.2.2.2).1 (tk f n a.2.2.2.2).2.2.2 = k) (h5 : k = 5) : wLine f n a W = wHav f n (0, a.2.1, a.2.2.1, a.2.2.2.1, (tk f n a.2.2.2.2).2.2.2) W := by
  unfold wLine
  rw [hp, if_pos h5]
theorem wLine_S {f : Nat → Int32} {n k : Int32} {a : PS} {W : PW} (hp : pl f (tk f n a.2.2.2.2).2.1 (tk f n a.2.2.2.2).1 (tk f n a.2.2.2.2).2.2.2 = k) (h5 : ¬ k = 5) : wLine f n a W = wStf f n (0, a.2.1, a.2.2.1, a.2.2.2.1, (tk f n a.2.2.2.2).2.2.2) k a.2.2.2.1 W := by
  unfold wLine
  rw [hp, if_neg h5]
/-- behind so many lines -/
noncomputable def pIt (f : Nat → Int32) (n : Int32) : Nat → PS
  | 0 => p_0
  | k + 1 => pLine f n (pIt f n k)
noncomputable def wIt (f : Nat → Int32) (n : Int32) : Nat → PW
  | 0 => fun _ _ => 0
  | k + 1 => wLine f n (pIt f n k) (wIt f n k)
/-- a kitchen of the class has these rows, and nothing else was done in it -/
def KW (u : uk_Mem) (b : Nat) (W : PW) : Prop := (∀ j, j < 8 → u.1 (b + 6) j = W 6 j) ∧ (∀ r, 1 ≤ r → r ≤ 5 → ∀ j, j < (u.1 b 0).toNatClampNeg → u.1 (b + r) j = W r j) ∧ (∀ j, j < 8 → u.1 (b + 7) j = 0) ∧ u.1 b 9 = 0 ∧ u.1 b 10 = 0 ∧ u.1 b 11 = 0
abbrev Sw (u : uk_Mem) (W : PW) : Prop := KW u 4 W
theorem KW_cg {u u' : uk_Mem} {b : Nat} {W : PW} (h : KW u b W) (e : ∀ c, b ≤ c → c ≤ b + 8 → u'.1 c = u.1 c) : KW u' b W := by
  obtain ⟨h1, h2, h3, h4, h5, h6⟩ := h
  have e0 := e b (by omega) (by omega)
  refine ⟨fun j hj => by rw [e (b + 6) (by omega) (by omega)]; exact h1 j hj, fun r r1 r5 j hj => ?_, fun j hj => by rw [e (b + 7) (by omega) (by omega)]; exact h3 j hj, by rw [e0]; exact h4, by rw [e0]; exact h5, by rw [e0]; exact h6⟩
  rw [e0] at hj
  rw [e (b + r) (by omega) (by omega)]
  exact h2 r r1 r5 j hj
theorem Sw_fr {u u' : uk_Mem} {W : PW} {a b : Nat} (h : Sw u W) (f : fr a b u u') (hb : b ≤ 4) : Sw u' W := KW_cg h (fun c h1 h2 => f.1 c (by omega))
theorem am_r {u : uk_Mem} {kb : Nat} {k a b f : Int32} {j : Nat} : (e_X0_addMade u kb k a b f).1 kb 0 = u.1 kb 0 + 1 ∧ (e_X0_addMade u kb k a b f).1 (kb + 6) j = u.1 (kb + 6) j ∧ (e_X0_addMade u kb k a b f).1 (kb + 1) j = (if j = (u.1 kb 0).toNatClampNeg then k else u.1 (kb + 1) j) ∧ (e_X0_addMade u kb k a b f).1 (kb + 2) j = (if j = (u.1 kb 0).toNatClampNeg then a else u.1 (kb + 2) j) ∧ (e_X0_addMade u kb k a b f).1 (kb + 3) j = (if j = (u.1 kb 0).toNatClampNeg then b else u.1 (kb + 3) j) ∧ (e_X0_addMade u kb k a b f).1 (kb + 4) j = (if j = (u.1 kb 0).toNatClampNeg then f else u.1 (kb + 4) j) ∧ (e_X0_addMade u kb k a b f).1 (kb + 5) j = (if j = (u.1 kb 0).toNatClampNeg then 0 else u.1 (kb + 5) j) := by
  unfold e_X0_addMade
  dsimp only
  have e : ∀ (v : uk_Mem) (a n : Nat) (x : Int32), 1 ≤ a → (uk_up v (kb + a) n x).1 kb = v.1 kb := fun v a n x h => uk_up_oc (by omega)
  simp only [uk_up_at]
  simp
theorem am_o {u : uk_Mem} {kb : Nat} {k a b f : Int32} : (∀ j, (e_X0_addMade u kb k a b f).1 (kb + 7) j = u.1 (kb + 7) j) ∧ ∀ j, ¬ j = 0 → (e_X0_addMade u kb k a b f).1 kb j = u.1 kb j := by
  unfold e_X0_addMade
  dsimp only
  refine ⟨fun j => ?_, fun j hj => ?_⟩
  · rw [uk_up_oc (by omega), uk_up_oc (by omega), uk_up_oc (by omega), uk_up_oc (by omega), uk_up_oc (by omega), uk_up_oc (by omega)]
  · rw [uk_up_at, if_neg (fun z => hj z.2), uk_up_oc (by omega), uk_up_oc (by omega), uk_up_oc (by omega), uk_up_oc (by omega), uk_up_oc (by omega)]
theorem ar_r {u : uk_Mem} {kb : Nat} {q f : Int32} {j : Nat} : (e_X0_addRaw u kb q f).1 kb 0 = u.1 kb 0 + 1 ∧ (e_X0_addRaw u kb q f).1 (kb + 6) j = u.1 (kb + 6) j ∧ (e_X0_addRaw u kb q f).1 (kb + 1) j = (if j = (u.1 kb 0).toNatClampNeg then 4 else u.1 (kb + 1) j) ∧ (e_X0_addRaw u kb q f).1 (kb + 2) j = (if j = (u.1 kb 0).toNatClampNeg then 0 else u.1 (kb + 2) j) ∧ (e_X0_addRaw u kb q f).1 (kb + 3) j = (if j = (u.1 kb 0).toNatClampNeg then 0 else u.1 (kb + 3) j) ∧ (e_X0_addRaw u kb q f).1 (kb + 4) j = (if j = (u.1 kb 0).toNatClampNeg then f else u.1 (kb + 4) j) ∧ (e_X0_addRaw u kb q f).1 (kb + 5) j = (if j = (u.1 kb 0).toNatClampNeg then q else u.1 (kb + 5) j) := by
  obtain ⟨a0, a6, a1, a2, a3, a4, a5⟩ := am_r (u := u) (kb := kb) (k := 4) (a := 0) (b := 0) (f := f) (j := j)
  unfold e_X0_addRaw
  dsimp only
  rw [a0, show u.1 kb 0 + 1 - 1 = u.1 kb 0 by grind]
  rw [uk_up_oc (b := kb) (by omega), uk_up_oc (b := kb + 6) (by omega), uk_up_oc (b := kb + 1) (by omega), uk_up_oc (b := kb + 2) (by omega), uk_up_oc (b := kb + 3) (by omega), uk_up_oc (b := kb + 4) (by omega), uk_up_at]
  refine ⟨a0, a6, a1, a2, a3, a4, ?_⟩
  by_cases e : j = (u.1 kb 0).toNatClampNeg
  · rw [if_pos ⟨rfl, e⟩, if_pos e]
  · rw [if_neg (fun z => e z.2), a5, if_neg e, if_neg e]
theorem ar_o {u : uk_Mem} {kb : Nat} {q f : Int32} : (∀ j, (e_X0_addRaw u kb q f).1 (kb + 7) j = u.1 (kb + 7) j) ∧ ∀ j, ¬ j = 0 → (e_X0_addRaw u kb q f).1 kb j = u.1 kb j := by
  unfold e_X0_addRaw
  dsimp only
  refine ⟨fun j => ?_, fun j hj => ?_⟩
  · rw [uk_up_oc (by omega)]
    exact am_o.1 j
  · rw [uk_up_oc (by omega)]
    exact am_o.2 j hj
theorem KW_add {u u' : uk_Mem} {b : Nat} {W : PW} {k x y f p : Int32} (h : KW u b W) (h0 : 0 ≤ u.1 b 0) (h7 : u.1 b 0 ≤ 7) (hr : ∀ j, u'.1 b 0 = u.1 b 0 + 1 ∧ u'.1 (b + 6) j = u.1 (b + 6) j ∧ u'.1 (b + 1) j = (if j = (u.1 b 0).toNatClampNeg then k else u.1 (b + 1) j) ∧ u'.1 (b + 2) j = (if j = (u.1 b 0).toNatClampNeg then x else u.1 (b + 2) j) ∧ u'.1 (b + 3) j = (if j = (u.1 b 0).toNatClampNeg then y else u.1 (b + 3) j) ∧ u'.1 (b + 4) j = (if j = (u.1 b 0).toNatClampNeg then f else u.1 (b + 4) j) ∧ u'.1 (b + 5) j = (if j = (u.1 b 0).toNatClampNeg then p else u.1 (b + 5) j)) (ho : (∀ j, u'.1 (b + 7) j = u.1 (b + 7) j) ∧ ∀ j, ¬ j = 0 → u'.1 b j = u.1 b j) : KW u' b (wAdd W (u.1 b 0).toNatClampNeg k x y f p) := by
  obtain ⟨h1, h2, h3, h4, h5, h6⟩ := h
  have e6 : ∀ j, wAdd W (u.1 b 0).toNatClampNeg k x y f p 6 j = W 6 j := fun j => if_neg (fun z => z.2 rfl)
  refine ⟨fun j hj => by rw [e6, (hr j).2.1]; exact h1 j hj, fun r r1 r5 j hj => ?_, fun j hj => by rw [ho.1 j]; exact h3 j hj, by rw [ho.2 9 (by decide)]; exact h4, by rw [ho.2 10 (by decide)]; exact h5, by rw [ho.2 11 (by decide)]; exact h6⟩
  obtain ⟨a0, a6, a1, a2, a3, a4, a5⟩ := hr j
  rw [a0, uk_c1 h0 (by lia)] at hj
  unfold wAdd
  by_cases e : j = (u.1 b 0).toNatClampNeg
  · rw [if_pos ⟨e, by omega⟩]
    rcases (show r = 1 ∨ r = 2 ∨ r = 3 ∨ r = 4 ∨ r = 5 by omega) with rfl | rfl | rfl | rfl | rfl
    · rw [a1, if_pos e, if_pos rfl]
    · rw [a2, if_pos e, if_neg (by decide), if_pos rfl]
    · rw [a3, if_pos e, if_neg (by decide), if_neg (by decide), if_pos rfl]
    · rw [a4, if_pos e, if_neg (by decide), if_neg (by decide), if_neg (by decide), if_pos rfl]
    · rw [a5, if_pos e, if_neg (by decide), if_neg (by decide), if_neg (by decide), if_neg (by decide)]
  · rw [if_neg (fun z => e z.1)]
    have h9 := h2 r r1 r5 j (by omega)
    rcases (show r = 1 ∨ r = 2 ∨ r = 3 ∨ r = 4 ∨ r = 5 by omega) with rfl | rfl | rfl | rfl | rfl
    · rw [a1, if_neg e]; exact h9
    · rw [a2, if_neg e]; exact h9
    · rw [a3, if_neg e]; exact h9
    · rw [a4, if_neg e]; exact h9
    · rw [a5, if_neg e]; exact h9
theorem Sw_raw {f : Nat → Int32} {n x y : Int32} {a : PS} {W : PW} {u u' : uk_Mem} (h : Sw u W) (hc : u.1 4 0 = a.2.2.2.1) (h0 : 0 ≤ u.1 4 0) (h7 : u.1 4 0 ≤ 7) (e : u' = e_X0_addRaw u 4 x y) (hx : x = (pTake f n a 2 9).2) (hy : y = (pTake f n (pTake f n a 2 9).1 2 9).2) : Sw u' (wStf f n a 4 a.2.2.2.1 W) := by
  have := KW_add (u' := u') (k := 4) (x := 0) (y := 0) (f := y) (p := x) h h0 h7 (fun j => by rw [e]; exact ar_r) (by rw [e]; exact ar_o)
  unfold wStf
  rw [if_pos rfl, ← hx, ← hy, ← hc]
  exact this
theorem Sw_made {f : Nat → Int32} {n k x y z v w : Int32} {a : PS} {W : PW} {u u' : uk_Mem} (h : Sw u W) (hc : u.1 4 0 = a.2.2.2.1) (h0 : 0 ≤ u.1 4 0) (h7 : u.1 4 0 ≤ 7) (hk : ¬ k = 4) (e : u' = e_X0_addMade u 4 k x y z) (hv : v = a.2.2.2.1 - 1) (hw : w = (pTake f n a 2 (a.2.2.2.1 - 1)).1.2.2.2.1 - 1) (hx : x = (pTake f n a 2 v).2) (hy : y = (pTake f n (pTake f n a 2 (a.2.2.2.1 - 1)).1 2 w).2) (hz : z = (pTake f n (pTake f n (pTake f n a 2 (a.2.2.2.1 - 1)).1 2 ((pTake f n a 2 (a.2.2.2.1 - 1)).1.2.2.2.1 - 1)).1 2 9).2) : Sw u' (wStf f n a k a.2.2.2.1 W) := by
  have := KW_add (u' := u') (k := k) (x := x) (y := y) (f := z) (p := 0) h h0 h7 (fun j => by rw [e]; exact am_r) (by rw [e]; exact am_o)
  rw [pTake_told.2] at hw hz
  rw [hv] at hx
  rw [hw] at hy
  unfold wStf
  rw [if_neg hk, ← hx, ← hy, ← hz, ← hc]
  exact this
theorem Sw_have {f : Nat → Int32} {n i v z : Int32} {a : PS} {W : PW} {u u1 u2 : uk_Mem} (h : Sw u W) (e1 : u1 = uk_up u 1 4 z) (e2 : u2 = uk_up u1 10 i.toNatClampNeg v) (hi : i = (pTake f n a 2 7).2) (hv : v = (pTake f n (pTwice (pTake f n a 2 7).1 (pTake f n a 2 7).2 (tk f n a.2.2.2.2).1) 2 40).2) : Sw u2 (wHav f n a W) := by
  obtain ⟨h1, h2, h3, h4, h5, h6⟩ := h
  unfold wHav
  rw [← hv, ← hi]
  have eo : ∀ c, 4 ≤ c → ¬ c = 10 → u2.1 c = u.1 c := fun c hc hn => by rw [e2, uk_up_oc hn, e1, uk_up_oc (by omega)]
  have e10 : ∀ j, u2.1 10 j = if j = i.toNatClampNeg then v else u.1 10 j := fun j => by
    rw [e2, uk_up_at, e1, uk_up_oc (by decide)]
    simp
  refine ⟨fun j hj => ?_, fun r r1 r5 j hj => ?_, fun j hj => by rw [eo _ (by omega) (by omega)]; exact h3 j hj, by rw [eo _ (by omega) (by omega)]; exact h4, by rw [eo _ (by omega) (by omega)]; exact h5, by rw [eo _ (by omega) (by omega)]; exact h6⟩
  · show u2.1 10 j = _
    rw [e10 j]
    unfold wPut
    by_cases q : j = i.toNatClampNeg
    · rw [if_pos q, if_pos ⟨rfl, q⟩]
    · rw [if_neg q, if_neg (fun z => q z.2)]
      exact h1 j hj
  · rw [eo 4 (by omega) (by omega)] at hj
    rw [eo _ (by omega) (by omega)]
    unfold wPut
    rw [if_neg (fun z => by have := z.1; omega)]
    exact h2 r r1 r5 j hj
/-- an empty kitchen -/
theorem cl_l {kb : Nat} : ∀ (K : Nat) (i : Int32) (w : uk_Mem), ee_F 8 i K → 0 ≤ i → i ≤ 8 → (∀ d, ¬ d = kb + 6 → ¬ d = kb + 7 → (l_X0_clear_22 kb K i w).1 d = w.1 d) ∧ (∀ j, (l_X0_clear_22 kb K i w).1 (kb + 6) j = if i.toNatClampNeg ≤ j ∧ j < 8 then 0 else w.1 (kb + 6) j) ∧ ∀ j, (l_X0_clear_22 kb K i w).1 (kb + 7) j = if i.toNatClampNeg ≤ j ∧ j < 8 then 0 else w.1 (kb + 7) j := by
  intro K
  induction K with
  | zero =>
    intro i m f h0 h1
    obtain ⟨j, hj⟩ := ee_Fp h1 f
    omega
  | succ K ih =>
    intro i m f h0 h1
    rw [l_X0_clear_22]
    by_cases q : (8 : Int32) ≤ i
    · rw [if_pos q]
      have := uk_cge 8 8 rfl q
      refine ⟨fun _ _ _ => rfl, fun j => ?_, fun j => ?_⟩
      · rw [if_neg (by omega)]
      · rw [if_neg (by omega)]
    · rw [if_neg q]
      dsimp only
      have hc := uk_c1 h0 (by lia)
      have hl := uk_cln 7 7 rfl h0 (by lia)
      obtain ⟨a, b, c⟩ := ih (i + 1) (uk_up (uk_up m (kb + 6) i.toNatClampNeg 0) (kb + 7) i.toNatClampNeg 0) (ee_Fs f (by lia)) (by lia) (by lia)
      refine ⟨fun d h1 h2 => (a d h1 h2).trans ((uk_up_oc h2).trans (uk_up_oc h1)), fun j => ?_, fun j => ?_⟩
      · rw [b j, hc, uk_up_oc (by omega), uk_up_at]
        generalize i.toNatClampNeg = k at *
        grind
      · rw [c j, hc, uk_up_at, uk_up_oc (by omega)]
        generalize i.toNatClampNeg = k at *
        grind
theorem KW_clear {u : uk_Mem} {kb : Nat} : KW (e_X0_clear u kb) kb (fun _ _ => 0) ∧ (e_X0_clear u kb).1 kb 0 = 0 := by
  unfold e_X0_clear
  dsimp only
  obtain ⟨a, b, c⟩ := cl_l (kb := kb) ee_K 0 (uk_up (uk_up (uk_up (uk_up u kb 0 0) kb 9 0) kb 10 0) kb 11 0) (ee_F0 _ _) (by decide) (by decide)
  have z : (0 : Int32).toNatClampNeg = 0 := rfl
  have a0 := a kb (by omega) (by omega)
  have e0 : (l_X0_clear_22 kb ee_K 0 (uk_up (uk_up (uk_up (uk_up u kb 0 0) kb 9 0) kb 10 0) kb 11 0)).1 kb 0 = 0 := by
    rw [a0]
    simp [uk_up_at]
  refine ⟨⟨fun j hj => ?_, fun r r1 r5 j hj => ?_, fun j hj => ?_, ?_, ?_, ?_⟩, e0⟩
  · rw [b j, if_pos ⟨by omega, hj⟩]
  · rw [e0, z] at hj
    exact absurd hj (Nat.not_lt_zero _)
  · rw [c j, if_pos ⟨by omega, hj⟩]
  · rw [a0]
    simp [uk_up_at]
  · rw [a0]
    simp [uk_up_at]
  · rw [a0]
    simp [uk_up_at]
theorem KW_copy {u : uk_Mem} {kb kc : Nat} {W : PW} (hd : Dj kb kc) (h : KW u kc W) (n8 : (u.1 kc 0).toNatClampNeg ≤ 8) : KW (e_X0_copyFrom u kb kc) kb W := by
  obtain ⟨h1, h2, h3, h4, h5, h6⟩ := h
  obtain ⟨c0, c9, c10, c11⟩ := cf_s (u := u) hd
  refine ⟨fun j hj => by rw [cf_r hd (by omega) (by omega) hj]; exact h1 j hj, fun r r1 r5 j hj => ?_, fun j hj => by rw [cf_r hd (by omega) (by omega) hj]; exact h3 j hj, c9.trans h4, c10.trans h5, c11.trans h6⟩
  rw [c0] at hj
  rw [cf_r hd r1 (by omega) (by omega)]
  exact h2 r r1 r5 j hj
/-! the reference's rows -/
def RwG (s : Int32) (A P Q : Nat → Int32) (W : PW) : Prop := (∀ j, j < 8 → A j = W 6 j) ∧ (∀ j, j < 8 → A (j + 8) = 0) ∧ A 40 = 0 ∧ A 41 = 0 ∧ A 42 = 0 ∧ ∀ j, j < s.toNatClampNeg → A (j + 32) = W 1 j ∧ A (j + 16) = W 4 j ∧ (W 1 j = 4 → A (j + 24) = W 5 j ∧ P j = -4 ∧ Q j = -4) ∧ (¬ W 1 j = 4 → P j = W 2 j ∧ Q j = W 3 j)
def Rw (u : uk_Mem) (W : PW) : Prop := RwG (u.1 60 7) (u.1 66) (u.1 67) (u.1 68) W
theorem Rw_cg {u u' : uk_Mem} {W : PW} (h : Rw u W) (e7 : u'.1 60 7 = u.1 60 7) (e66 : u'.1 66 = u.1 66) (e67 : u'.1 67 = u.1 67) (e68 : u'.1 68 = u.1 68) : Rw u' W := by
  unfold Rw
  rw [e7, e66, e67, e68]
  exact h
theorem upd_i {A : Nat → Int32} {i j : Nat} {x : Int32} : upd A i x j = if j = i then x else A j := rfl
theorem RwG_add {s : Int32} {A A' P P' Q Q' : Nat → Int32} {W : PW} {k x y f p : Int32} (h : RwG s A P Q W) (h0 : 0 ≤ s) (h7 : s ≤ 7) (ea : ∀ j, ¬ j = s.toNatClampNeg + 32 → ¬ j = s.toNatClampNeg + 16 → ¬ j = s.toNatClampNeg + 24 → A' j = A j) (e1 : A' (s.toNatClampNeg + 32) = k) (e4 : A' (s.toNatClampNeg + 16) = f) (e5 : k = 4 → A' (s.toNatClampNeg + 24) = p ∧ P' s.toNatClampNeg = -4 ∧ Q' s.toNatClampNeg = -4) (e2 : ¬ k = 4 → P' s.toNatClampNeg = x ∧ Q' s.toNatClampNeg = y) (ep : ∀ j, ¬ j = s.toNatClampNeg → P' j = P j) (eq : ∀ j, ¬ j = s.toNatClampNeg → Q' j = Q j) : RwG (s + 1) A' P' Q' (wAdd W s.toNatClampNeg k x y f p) := by
  obtain ⟨h1, h2, h3, h4, h5, h6⟩ := h
  have s7 := uk_cln 7 7 rfl h0 h7
  refine ⟨fun j hj => ?_, fun j hj => ?_, ?_, ?_, ?_, fun j hj => ?_⟩
  · rw [ea j (by omega) (by omega) (by omega), h1 j hj]
    exact (if_neg (fun z => z.2 rfl)).symm
  · rw [ea _ (by omega) (by omega) (by omega)]
    exact h2 j hj
  · rw [ea _ (by omega) (by omega) (by omega)]
    exact h3
  · rw [ea _ (by omega) (by omega) (by omega)]
    exact h4
  · rw [ea _ (by omega) (by omega) (by omega)]
    exact h5
  · rw [uk_c1 h0 (by lia)] at hj
    by_cases e : j = s.toNatClampNeg
    · have w1 : wAdd W s.toNatClampNeg k x y f p 1 j = k := by
        unfold wAdd
        rw [if_pos ⟨e, by decide⟩, if_pos rfl]
      have w2 : wAdd W s.toNatClampNeg k x y f p 2 j = x := by
        unfold wAdd
        rw [if_pos ⟨e, by decide⟩, if_neg (by decide), if_pos rfl]
      have w3 : wAdd W s.toNatClampNeg k x y f p 3 j = y := by
        unfold wAdd
        rw [if_pos ⟨e, by decide⟩, if_neg (by decide), if_neg (by decide), if_pos rfl]
      have w4 : wAdd W s.toNatClampNeg k x y f p 4 j = f := by
        unfold wAdd
        rw [if_pos ⟨e, by decide⟩, if_neg (by decide), if_neg (by decide), if_neg (by decide), if_pos rfl]
      have w5 : wAdd W s.toNatClampNeg k x y f p 5 j = p := by
        unfold wAdd
        rw [if_pos ⟨e, by decide⟩, if_neg (by decide), if_neg (by decide), if_neg (by decide), if_neg (by decide)]
      rw [w1, w2, w3, w4, w5, e]
      exact ⟨e1, e4, e5, e2⟩
    · have w : ∀ r, wAdd W s.toNatClampNeg k x y f p r j = W r j := fun r => if_neg (fun z => e z.1)
      rw [w, w, w, w, w, ea _ (by omega) (by omega) (by omega), ea _ (by omega) (by omega) (by omega), ea _ (by omega) (by omega) (by omega), ep j e, eq j e]
      exact h6 j (by omega)
theorem ix_32' {m x : Int32} (h0 : 0 ≤ m) (h7 : m ≤ 7) (e : x = 32 + m) : x.toNatClampNeg = m.toNatClampNeg + 32 := by rw [e]; exact ix_32 h0 h7
theorem ix_24' {m x : Int32} (h0 : 0 ≤ m) (h7 : m ≤ 7) (e : x = 24 + m) : x.toNatClampNeg = m.toNatClampNeg + 24 := by rw [e]; exact ix_24 h0 h7
theorem ix_16' {m x : Int32} (h0 : 0 ≤ m) (h7 : m ≤ 7) (e : x = 16 + m) : x.toNatClampNeg = m.toNatClampNeg + 16 := by rw [e]; exact ix_16 h0 h7
theorem Rw_raw {f : Nat → Int32} {n : Int32} {a : PS} {W : PW} {u u' : uk_Mem} {m k x1 x2 x3 p q : Int32} (h : Rw u W) (hm : m = u.1 60 7) (m0 : 0 ≤ m) (m7 : m ≤ 7) (hk : k = 4) (e7 : u'.1 60 7 = u.1 60 7 + 1) (e66 : u'.1 66 = upd (upd (upd (u.1 66) x1.toNatClampNeg k) x2.toNatClampNeg p) x3.toNatClampNeg q) (i1 : x1 = 32 + m) (i2 : x2 = 24 + m) (i3 : x3 = 16 + m) (e67 : u'.1 67 = upd (u.1 67) m.toNatClampNeg (-4)) (e68 : u'.1 68 = upd (u.1 68) m.toNatClampNeg (-4)) (hp : p = (pTake f n a 2 9).2) (hq : q = (pTake f n (pTake f n a 2 9).1 2 9).2) : Rw u' (wStf f n a k (u.1 60 7) W) := by
  subst hk
  subst hm
  rw [ix_32' m0 m7 i1, ix_24' m0 m7 i2, ix_16' m0 m7 i3] at e66
  unfold wStf
  rw [if_pos rfl, ← hp, ← hq]
  unfold Rw
  rw [e7]
  refine RwG_add h m0 m7 (fun j j1 j2 j3 => ?_) ?_ ?_ (fun _ => ⟨?_, ?_, ?_⟩) (fun z => absurd rfl z) (fun j hj => ?_) (fun j hj => ?_)
  · rw [e66, upd_i, if_neg j2, upd_i, if_neg j3, upd_i, if_neg j1]
  · rw [e66, upd_i, if_neg (by omega), upd_i, if_neg (by omega), upd_i, if_pos rfl]
  · rw [e66, upd_i, if_pos rfl]
  · rw [e66, upd_i, if_neg (by omega), upd_i, if_pos rfl]
  · rw [e67, upd_i, if_pos rfl]
  · rw [e68, upd_i, if_pos rfl]
  · rw [e67, upd_i, if_neg hj]
  · rw [e68, upd_i, if_neg hj]
theorem Rw_made {f : Nat → Int32} {n : Int32} {a : PS} {W : PW} {u u' : uk_Mem} {m k x1 x3 v w x y q : Int32} (h : Rw u W) (hm : m = u.1 60 7) (m0 : 0 ≤ m) (m7 : m ≤ 7) (hk : ¬ k = 4) (e7 : u'.1 60 7 = u.1 60 7 + 1) (e66 : u'.1 66 = upd (upd (u.1 66) x1.toNatClampNeg k) x3.toNatClampNeg q) (i1 : x1 = 32 + m) (i3 : x3 = 16 + m) (e67 : u'.1 67 = upd (u.1 67) m.toNatClampNeg x) (e68 : u'.1 68 = upd (u.1 68) m.toNatClampNeg y) (hv : v = u.1 60 7 - 1) (hw : w = u.1 60 7 - 1) (hx : x = (pTake f n a 2 v).2) (hy : y = (pTake f n (pTake f n a 2 v).1 2 w).2) (hq : q = (pTake f n (pTake f n (pTake f n a 2 v).1 2 w).1 2 9).2) : Rw u' (wStf f n a k (u.1 60 7) W) := by
  subst hm
  rw [hv] at hx hy hq
  rw [hw] at hy hq
  rw [ix_32' m0 m7 i1, ix_16' m0 m7 i3] at e66
  unfold wStf
  rw [if_neg hk, ← hx, ← hy, ← hq]
  unfold Rw
  rw [e7]
  refine RwG_add h m0 m7 (fun j j1 j2 j3 => ?_) ?_ ?_ (fun z => absurd z hk) (fun _ => ⟨?_, ?_⟩) (fun j hj => ?_) (fun j hj => ?_)
  · rw [e66, upd_i, if_neg j2, upd_i, if_neg j1]
  · rw [e66, upd_i, if_neg (by omega), upd_i, if_pos rfl]
  · rw [e66, upd_i, if_pos rfl]
  · rw [e67, upd_i, if_pos rfl]
  · rw [e68, upd_i, if_pos rfl]
  · rw [e67, upd_i, if_neg hj]
  · rw [e68, upd_i, if_neg hj]
theorem Rw_have {f : Nat → Int32} {n : Int32} {a : PS} {W : PW} {u u' : uk_Mem} {i m v : Int32} (h : Rw u W) (e7 : u'.1 60 7 = u.1 60 7) (e66 : u'.1 66 = upd (u.1 66) i.toNatClampNeg v) (e67 : u'.1 67 = u.1 67) (e68 : u'.1 68 = u.1 68) (hi : i = m) (m0 : 0 ≤ m) (m7 : m ≤ 7) (hm : m = (pTake f n a 2 7).2) (hv : v = (pTake f n (pTwice (pTake f n a 2 7).1 (pTake f n a 2 7).2 (tk f n a.2.2.2.2).1) 2 40).2) : Rw u' (wHav f n a W) := by
  subst hi
  have l7 := uk_cln 7 7 rfl m0 m7
  obtain ⟨h1, h2, h3, h4, h5, h6⟩ := h
  unfold wHav
  rw [← hv, ← hm]
  unfold Rw
  rw [e7, e66, e67, e68]
  refine ⟨fun j hj => ?_, fun j hj => by rw [upd_i, if_neg (by omega)]; exact h2 j hj, by rw [upd_i, if_neg (by omega)]; exact h3, by rw [upd_i, if_neg (by omega)]; exact h4, by rw [upd_i, if_neg (by omega)]; exact h5, fun j hj => ?_⟩
  · unfold wPut
    rw [upd_i]
    by_cases q : j = i.toNatClampNeg
    · rw [if_pos q, if_pos ⟨rfl, q⟩]
    · rw [if_neg q, if_neg (fun z => q z.2)]
      exact h1 j hj
  · have w : ∀ r, ¬ r = 6 → wPut W i.toNatClampNeg v r j = W r j := fun r hr => if_neg (fun z => hr z.1)
    rw [w 1 (by decide), w 2 (by decide), w 3 (by decide), w 4 (by decide), w 5 (by decide), upd_i, if_neg (by omega), upd_i, if_neg (by omega), upd_i, if_neg (by omega)]
    exact h6 j hj
/-- an empty draft -/
theorem Rw_0 {u : uk_Mem} (e7 : u.1 60 7 = 0) (e66 : ∀ j, j < 51 → u.1 66 j = 0) : Rw u (fun _ _ => 0) := by
  unfold Rw
  rw [e7]
  refine ⟨fun j hj => e66 j (by omega), fun j hj => e66 _ (by omega), e66 _ (by omega), e66 _ (by omega), e66 _ (by omega), fun j hj => ?_⟩
  exact absurd hj (by rw [show (0 : Int32).toNatClampNeg = 0 from rfl]; omega)
theorem cpy_n {A B : Nat → Int32} {k : Int32} (h : cpy A B k) {j : Nat} (hj : j < k.toNatClampNeg) (hk : k ≤ 1000) : A j = B j := by
  have hk2 : k.toNatClampNeg ≤ 1000 := by
    by_cases q : 0 ≤ k
    · exact uk_cln 1000 1000 rfl q hk
    · have : k.toInt < 0 := Int32.lt_iff_toInt_lt.mp (show k < 0 by lia)
      have e : k.toNatClampNeg = k.toInt.toNat := rfl
      omega
  have c : (nI j).toNatClampNeg = j := nI_clamp (by omega)
  have := h (nI j) (nI_pos' (by omega)) (by
    rw [Int32.lt_iff_toInt_lt]
    have e : k.toNatClampNeg = k.toInt.toNat := rfl
    have e2 : (nI j).toNatClampNeg = (nI j).toInt.toNat := rfl
    have : 0 ≤ (nI j).toInt := Int32.le_iff_toInt_le.mp (nI_pos' (show j < 2 ^ 31 by omega))
    omega)
  rwa [c] at this
/-- the draft is kept -/
theorem RwG_keep {u u' : uk_Mem} {W : PW} (h : Rw u W) (s8 : u.1 60 7 ≤ 8) (e3 : u'.1 60 3 = u.1 60 7) (c1 : cpy (u'.1 61) (u.1 66) 51) (c4 : cpy (u'.1 64) (u.1 67) (u.1 60 7)) (c5 : cpy (u'.1 65) (u.1 68) (u.1 60 7)) (s0 : 0 ≤ u.1 60 7) : RwG (u'.1 60 3) (u'.1 61) (u'.1 64) (u'.1 65) W := by
  obtain ⟨h1, h2, h3, h4, h5, h6⟩ := h
  have l8 := uk_cln 8 8 rfl s0 s8
  have e : ∀ j, j < 51 → u'.1 61 j = u.1 66 j := fun j hj => cpy_n c1 (by rw [show (51 : Int32).toNatClampNeg = 51 from rfl]; exact hj) (by decide)
  rw [e3]
  refine ⟨fun j hj => by rw [e _ (by omega)]; exact h1 j hj, fun j hj => by rw [e _ (by omega)]; exact h2 j hj, by rw [e _ (by omega)]; exact h3, by rw [e _ (by omega)]; exact h4, by rw [e _ (by omega)]; exact h5, fun j hj => ?_⟩
  rw [e _ (by omega), e _ (by omega), e _ (by omega), cpy_n c4 hj (by lia), cpy_n c5 hj (by lia)]
  exact h6 j hj
/-- the same rows on both sides -/
theorem KR_text {u : uk_Mem} {W : PW} (hk : KW u 13 W) (hr : RwG (u.1 60 3) (u.1 61) (u.1 64) (u.1 65) W) (hs : u.1 13 0 = u.1 60 3) (n8 : (u.1 60 3).toNatClampNeg ≤ 8) : KR u u 13 61 0 := by
  obtain ⟨h1, h2, h3, h4, h5, h6⟩ := hk
  obtain ⟨r1, r2, r3, r4, r5, r6⟩ := hr
  rw [hs] at h2
  refine ⟨hs, h4.trans r5.symm, h5.trans r3.symm, h6.trans r4.symm, fun j hj => ?_, fun i hi => ?_⟩
  · obtain ⟨a1, a4, a5, a2⟩ := r6 j hj
    unfold KJ
    simp only [Nat.zero_add, Nat.add_zero]
    rw [a1, a4, h2 1 (by omega) (by omega) j hj, h2 4 (by omega) (by omega) j hj, h1 j (by omega), r1 j (by omega), h3 j (by omega), r2 j (by omega), h2 5 (by omega) (by omega) j hj, h2 2 (by omega) (by omega) j hj, h2 3 (by omega) (by omega) j hj]
    exact ⟨rfl, rfl, rfl, rfl, fun z => ⟨(a5 z).1.symm, (a5 z).2⟩, fun z => ⟨(a2 z).1.symm, (a2 z).2.symm⟩⟩
  · have : u.1 61 (0 + 42) = 0 := r5
    rw [this, show (0 : Int32).toNatClampNeg = 0 from rfl] at hi
    exact absurd hi (Nat.not_lt_zero _)
/-! the loops -/
def Aw (f : Nat → Int32) (n : Int32) (u : uk_Mem) (c : Int32) : Prop := ∃ (b : PS) (W : PW), b = pIt f n c.toNatClampNeg ∧ W = wIt f n c.toNatClampNeg ∧ Sw u W ∧ Sc f n u b ∧ b.1 = 0 ∧ pLoop f n (160 - c.toNatClampNeg) b c = pLoop f n 160 p_0 0
theorem pIt_s {f : Nat → Int32} {n c : Int32} {b : PS} {W : PW} (h0 : 0 ≤ c) (h1 : c ≤ 1000) (hb : b = pIt f n c.toNatClampNeg) (hW : W = wIt f n c.toNatClampNeg) : pLine f n b = pIt f n (c + 1).toNatClampNeg ∧ wLine f n b W = wIt f n (c + 1).toNatClampNeg := by
  rw [uk_c1 h0 (by lia), hb, hW]
  exact ⟨rfl, rfl⟩
def TXI (f : Nat → Int32) (n : Int32) (u : uk_Mem) (c : Int32) : Prop := KW u 13 (wIt f n (pRes f n).2.toNatClampNeg) ∧ u.1 13 0 = (pIt f n (pRes f n).2.toNatClampNeg).2.2.2.1 ∧ ∀ j, j < c.toNatClampNeg → u.1 40 j = 0
theorem TXI_s {f : Nat → Int32} {n c : Int32} {u u' : uk_Mem} (h : TXI f n u c) (h0 : 0 ≤ c) (h1 : c ≤ 1000) (e : u' = uk_up u 40 c.toNatClampNeg 0) : TXI f n u' (c + 1) := by
  obtain ⟨a1, a2, a3⟩ := h
  refine ⟨KW_cg a1 (fun d d1 d2 => by rw [e, uk_up_oc (by omega)]), by rw [e, uk_up_oc (by decide)]; exact a2, fun j hj => ?_⟩
  rw [uk_c1 h0 (by lia)] at hj
  rw [e, uk_up_at]
  by_cases q : j = c.toNatClampNeg
  · rw [if_pos ⟨rfl, q⟩]
  · rw [if_neg (fun z => q z.2)]
    exact a3 j (by omega)
theorem TXI_0 {f : Nat → Int32} {n : Int32} {u u' : uk_Mem} (hW : Sw u (wIt f n (pRes f n).2.toNatClampNeg)) (hs : u.1 4 0 = (pIt f n (pRes f n).2.toNatClampNeg).2.2.2.1) (n8 : (u.1 4 0).toNatClampNeg ≤ 8) (e : u' = e_X0_copyFrom u 13 4) : TXI f n u' 0 := by
  have hd : Dj 13 4 := Dj_of uk_isK13 uk_isK4 (by decide)
  rw [e]
  exact ⟨KW_copy hd hW n8, (cf_s hd).1.trans hs, fun j hj => absurd hj (by rw [show (0 : Int32).toNatClampNeg = 0 from rfl]; omega)⟩
def RW (f : Nat → Int32) (n : Int32) (u : uk_Mem) (c : Int32) : Prop := u.1 60 18 = 0 → ∃ (b : PS) (W : PW), b = pIt f n c.toNatClampNeg ∧ W = wIt f n c.toNatClampNeg ∧ Rw u W ∧ b.1 = 0 ∧ Sr f n u b ∧ pLoop f n (160 - c.toNatClampNeg) b c = pLoop f n 160 p_0 0 ∧ u.1 60 7 = b.2.2.2.1 ∧ u.1 60 10 = b.2.2.1 ∧ hi9 b.2.2.1 (u.1 60 11)
