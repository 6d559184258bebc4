/-! the law -/
abbrev mL : uk_M := (x, code, 4, ret)
def lw_q : Option Value → uk_Mem → Prop := fun r _ => r = some (.int 1)
/-- the script lies where it lay, outside the system's own -/
def lw_scr (G : uk_D) (X : uk_Cx) (b L : Nat) (xs : Nat → Int32) : Prop := va_X b L xs X.2.2.2.1 X.2.2.2.1.heap ∧ b < X.2.2.2.1.heap.size ∧ ¬ G.2.2.2.2 b
section LWR
variable {G : uk_D} {X : uk_Cx} {M : uk_M} {d : Nat} {Q : Option Value → uk_Mem → Prop} {pc : Nat} {lv : List (Nat × Value)} {st : List Value} {u : uk_Mem} {b L : Nat} {xs : Nat → Int32}
theorem g_sld {i : Int32} (hX : lw_scr G X b L xs) (hi : vp_in i L) (hd : decode M.2.1 pc = .ok (.iaload, 1)) (K : uk_G G X M d Q (pc + 1) lv (.int (xs i.toNatClampNeg) :: st) u) : uk_G G X M d Q pc lv (.int i :: .ref b :: st) u := fun hO ls H locs hl hP hS => va_sld hO.1 hO.2.1 hX.1 hX.2.1 hX.2.2 hS hi hd (K hO ls H locs hl hP hS)
theorem g_scl (hX : lw_scr G X b L xs) (hd : decode M.2.1 pc = .ok (.arraylength, 1)) (K : uk_G G X M d Q (pc + 1) lv (.int (Int32.ofNat L) :: st) u) : uk_G G X M d Q pc lv (.ref b :: st) u := fun hO ls H locs hl hP hS => va_slen hO.1 hO.2.1 hX.1 hX.2.1 hX.2.2 hS hd (K hO ls H locs hl hP hS)
end LWR
section LWI
variable {G : uk_D} {A : Nat → Prop} {E : State → Prop} {X : uk_Cx} {M : uk_M} {f mc ms : Nat} {Q : va_W → Prop} {k n : Nat} {ws ws' : va_W} {pc : Nat} {lv : List (Nat × Value)} {st stk : List Value}
theorem i_istore_n {j : Fin 4} {x : Int32} (hd : decode M.2.1 pc = .ok (.istore_n j, 1)) (hn : (j : Nat) < M.2.2.1) (K : ui_G G A E X M f mc ms Q k n ws (pc + 1) (uk_set lv (j : Nat) (.int x)) st) : ui_G G A E X M f mc ms Q k n ws pc lv (.int x :: st) := fun hO ls H locs hl hP hD hS => lv_istore_n hO.1 hO.2.1 hd rfl hl hn rfl (fun ls' hl' => K hO ls' H locs (uk_has1 rfl hl') hP hD hS)
end LWI
theorem ri_fr {a b : Nat} {u u' : uk_Mem} (h : ri u) (f : fr a b u u') (hb : b ≤ 60) : ri u' := ri_kp h (fr_at f (Or.inr hb)) (f.1 61 (Or.inr (by omega))) (f.1 63 (Or.inr (by omega))) (f.1 64 (Or.inr (by omega))) (f.1 65 (Or.inr (by omega)))
theorem lw_feed {c a a' b b' x1 x2 : Int32} (h : a = b) (r : a ≤ 160) (t1 : ((c < 0 ∨ 127 < c) ∧ x1 = -1 ∧ a' = a) ∨ (0 ≤ c ∧ c ≤ 127 ∧ 160 ≤ a ∧ x1 = -3 ∧ a' = a) ∨ (0 ≤ c ∧ c ≤ 127 ∧ a < 160 ∧ x1 = a + 1 ∧ a' = a + 1)) (t2 : ((c < 0 ∨ 127 < c) ∧ x2 = -1 ∧ b' = b) ∨ (0 ≤ c ∧ c ≤ 127 ∧ b = 160 ∧ x2 = -3 ∧ b' = b) ∨ (0 ≤ c ∧ c ≤ 127 ∧ ¬ b = 160 ∧ x2 = b + 1 ∧ b' = b + 1)) : a' = b' ∧ x1 = x2 := by
  subst h
  rcases t1 with ⟨p1, rfl, rfl⟩ | ⟨p1, p2, p3, rfl, rfl⟩ | ⟨p1, p2, p3, rfl, rfl⟩ <;> rcases t2 with ⟨q1, rfl, rfl⟩ | ⟨q1, q2, q3, rfl, rfl⟩ | ⟨q1, q2, q3, rfl, rfl⟩
  · exact ⟨rfl, rfl⟩
  · exfalso; rcases p1 with p | p <;> lia
  · exfalso; rcases p1 with p | p <;> lia
  · exfalso; rcases q1 with p | p <;> lia
  · exact ⟨rfl, rfl⟩
  · exfalso; lia
  · exfalso; rcases q1 with p | p <;> lia
  · exfalso; lia
  · exact ⟨rfl, rfl⟩
theorem lw_vin {j : Int32} {L : Nat} (h0 : 0 ≤ j) (h : j < nI L) (hL : L < 2 ^ 31) : vp_in j L := by
  have := uk_cll h0 h
  rw [nI_clamp hL] at this
  rintro (q | q)
  · exact absurd h0 (by lia)
  · omega
theorem tp_feed {u u1 u2 : uk_Mem} {c x1 x2 : Int32} (h : cpy (u.1 3) (u.1 69) (u.1 2 1)) (ht : u.1 2 1 = u.1 60 13) (r0 : 0 ≤ u.1 2 1 ∧ u.1 2 1 ≤ 160) (r : u.1 2 1 ≤ 160) (t1 : (((c < 0 ∨ 127 < c) ∧ x1 = -1 ∧ u1.1 2 1 = u.1 2 1) ∨ (0 ≤ c ∧ c ≤ 127 ∧ 160 ≤ u.1 2 1 ∧ x1 = -3 ∧ u1.1 2 1 = u.1 2 1) ∨ (0 ≤ c ∧ c ≤ 127 ∧ u.1 2 1 < 160 ∧ x1 = u.1 2 1 + 1 ∧ u1.1 2 1 = u.1 2 1 + 1))) (a0 : 0 ≤ c ∧ c ≤ 127 ∧ u.1 2 1 < 160 → u1.1 3 = upd (u.1 3) (u.1 2 1).toNatClampNeg c) (a1 : ¬ (0 ≤ c ∧ c ≤ 127 ∧ u.1 2 1 < 160) → u1.1 3 = u.1 3) (t2 : (((c < 0 ∨ 127 < c) ∧ x2 = -1 ∧ u2.1 60 13 = u.1 60 13) ∨ (0 ≤ c ∧ c ≤ 127 ∧ u.1 60 13 = 160 ∧ x2 = -3 ∧ u2.1 60 13 = u.1 60 13) ∨ (0 ≤ c ∧ c ≤ 127 ∧ ¬ u.1 60 13 = 160 ∧ x2 = u.1 60 13 + 1 ∧ u2.1 60 13 = u.1 60 13 + 1))) (b0 : 0 ≤ c ∧ c ≤ 127 ∧ u1.1 60 13 < 160 → u2.1 69 = upd (u.1 69) (u1.1 60 13).toNatClampNeg c) (b1 : ¬ (0 ≤ c ∧ c ≤ 127 ∧ u1.1 60 13 < 160) → u2.1 69 = u.1 69) (e3 : u2.1 3 = u1.1 3) (e21 : u2.1 2 1 = u1.1 2 1) (e13 : u1.1 60 13 = u.1 60 13) : cpy (u2.1 3) (u2.1 69) (u2.1 2 1) := by
  rw [e3, e21]
  by_cases z : 0 ≤ c ∧ c ≤ 127 ∧ u.1 2 1 < 160
  · rw [a0 z, b0 ⟨z.1, z.2.1, by rw [e13, ← ht]; exact z.2.2⟩, e13, ← ht]
    have hs : u1.1 2 1 = u.1 2 1 + 1 := by
      rcases t1 with ⟨w, -⟩ | ⟨-, -, w, -⟩ | ⟨-, -, -, -, w⟩
      · exfalso; rcases w with w | w <;> grind
      · exfalso; grind
      · exact w
    rw [hs]
    exact cpy_2 h r0.1
  · rw [a1 z, b1 (fun w => z ⟨w.1, w.2.1, by rw [ht, ← e13]; exact w.2.2⟩)]
    have hs : u1.1 2 1 = u.1 2 1 := by
      rcases t1 with ⟨-, -, w⟩ | ⟨-, -, -, -, w⟩ | ⟨w1, w2, w3, -⟩
      · exact w
      · exact w
      · exact absurd ⟨w1, w2, w3⟩ z
    rw [hs]
    exact h
