def e_X7_doIt (u : uk_Mem) (g : Int32) : uk_Mem := if g < 10 then e_X7_doIt_a u g else e_X7_doIt_b u g
abbrev qe_X7_doIt (u : uk_Mem) (g : Int32) (r : Option Value) (u' : uk_Mem) : Prop := (q_X7_doIt u g r u') ∧ (u' = e_X7_doIt u g)
theorem x_X7_doIt {G : uk_D} (hs : uk_Sep G) {u : uk_Mem} (hu : iv u) (hra : ra u) (g : Int32) (p0 : (0 ≤ g ∧ g ≤ 7) ∨ (10 ≤ g ∧ g ≤ 17)) (p1 : (g < 10 → 0 ≤ (u.1 64 (g).toNatClampNeg) ∧ (u.1 64 (g).toNatClampNeg) < g ∧ 0 ≤ (u.1 65 (g).toNatClampNeg) ∧ (u.1 65 (g).toNatClampNeg) < g ∧ u.1 62 (g).toNatClampNeg < 40 ∧ ((u.1 64 (g).toNatClampNeg) = (u.1 65 (g).toNatClampNeg) → 2 ≤ u.1 62 (u.1 64 (g).toNatClampNeg).toNatClampNeg) ∧ (¬ (u.1 64 (g).toNatClampNeg) = (u.1 65 (g).toNatClampNeg) → 1 ≤ u.1 62 (u.1 64 (g).toNatClampNeg).toNatClampNeg ∧ 1 ≤ u.1 62 (u.1 65 (g).toNatClampNeg).toNatClampNeg))) (p2 : (10 ≤ g → 0 ≤ (u.1 64 ((g - 10)).toNatClampNeg) ∧ (u.1 64 ((g - 10)).toNatClampNeg) < (g - 10) ∧ 0 ≤ (u.1 65 ((g - 10)).toNatClampNeg) ∧ (u.1 65 ((g - 10)).toNatClampNeg) < (g - 10) ∧ 1 ≤ u.1 62 ((g - 10)).toNatClampNeg ∧ u.1 62 (u.1 64 ((g - 10)).toNatClampNeg).toNatClampNeg < 40 ∧ ((u.1 62 (32 + (g - 10)).toNatClampNeg = 0 ∨ (u.1 62 (32 + (g - 10)).toNatClampNeg = 3 ∧ u.1 62 (8 + (g - 10)).toNatClampNeg = 1)) → (u.1 64 ((g - 10)).toNatClampNeg) = (u.1 65 ((g - 10)).toNatClampNeg) → u.1 62 (u.1 64 ((g - 10)).toNatClampNeg).toNatClampNeg + 2 ≤ 40) ∧ ((u.1 62 (32 + (g - 10)).toNatClampNeg = 0 ∨ (u.1 62 (32 + (g - 10)).toNatClampNeg = 3 ∧ u.1 62 (8 + (g - 10)).toNatClampNeg = 1)) → ¬ (u.1 64 ((g - 10)).toNatClampNeg) = (u.1 65 ((g - 10)).toNatClampNeg) → u.1 62 (u.1 65 ((g - 10)).toNatClampNeg).toNatClampNeg < 40))) (d : Nat) : uk_Meth G (d + 1) mX7_doIt [.ref (uk_ad G 60), .int g] u (qe_X7_doIt u g) := by
  rcases p0 with q | q
  · obtain ⟨a0, a1, a2, a3, a4, a5, a6⟩ := p1 (by grind)
    exact uk_Meth.imp (x_X7_doIt_a hs hu hra g q.1 q.2 a0 a1 a2 a3 a4 a5 a6 d) (fun r u' h => ⟨h.1, h.2.trans (if_pos (by grind)).symm⟩)
  · obtain ⟨a0, a1, a2, a3, a4, a5, a6, a7⟩ := p2 q.1
    exact uk_Meth.imp (x_X7_doIt_b hs hu hra g q.1 q.2 a0 a1 a2 a3 a4 a5 a6 a7 d) (fun r u' h => ⟨h.1, h.2.trans (if_neg (by grind)).symm⟩)

def e_X7_isDoing (u : uk_Mem) (g : Int32) : Int32 := let x4 : Int32 := (e_X7_isStuff u g); if x4 = 0 then (let x6 : Int32 := g - (10 : Int32); let x10 : Int32 := (e_X7_isStuff u x6); if x10 = 0 then ((0 : Int32)) else ((1 : Int32))) else ((1 : Int32))
abbrev qe_X7_isDoing (u : uk_Mem) (g : Int32) (r : Option Value) (u' : uk_Mem) : Prop := (q_X7_isDoing u g r u') ∧ (r = some (.int (e_X7_isDoing u g)))
set_option maxHeartbeats 4000000 in
set_option maxRecDepth 20000 in
theorem x_X7_isDoing {G : uk_D} (hs : uk_Sep G) {u : uk_Mem} (hu : iv u) (g : Int32) (d : Nat) : uk_Meth G (d + 2) mX7_isDoing [.ref (uk_ad G 60), .int g] u (qe_X7_isDoing u g) := by
  refine uk_Meth.of hs (by decide) (Nat.le_of_ble_eq_true rfl) (fun X => ?_)
  refine g_aload_n dX7_isDoing_0 rfl ?_
  refine g_iload_n dX7_isDoing_1 rfl ?_
  refine cl_X7_163 (c := 60) (As := [.int g]) rfl (x_X7_isStuff (G := G) hs hu  g  (d)) rfl (by omega) rfl rfl (Nat.le_of_ble_eq_true rfl) dX7_isDoing_2 (fun r1 u2 q3 => ?_)
  obtain ⟨q3, Eq3⟩ := q3
  obtain ⟨⟨x4, rfl, tx4, nx4, zx4⟩, mq3⟩ := q3
  rw [mq3]
  have ex4 : x4 = (e_X7_isStuff u g) := ee_v Eq3
  refine g_if_ne (tgt := 19) dX7_isDoing_5 (by decide) (fun c5 => ?_) (fun c5 => ?_)
  · have zc5 := nx4 c5
    refine g_iconst (v := 1) dX7_isDoing_19 (by decide) ?_
    refine g_goto (tgt := 24) dX7_isDoing_20 (by decide) ?_
    exact g_iret (ty := .boolean) dX7_isDoing_24 rfl rfl ⟨⟨⟨1, rfl, Or.inr rfl, fun _ => by first | trivial | lia | grind, fun q => absurd q (by decide)⟩, rfl⟩, ee_p (by subst ex4; exact (if_neg c5).trans (rfl))⟩
  · have zc5 := zx4 c5
    refine g_aload_n dX7_isDoing_8 rfl ?_
    refine g_iload_n dX7_isDoing_9 rfl ?_
    refine g_bipush (v := 10) dX7_isDoing_10 (by decide) ?_
    refine g_isub dX7_isDoing_12 ?_
    refine g_topi (fun x6 ex6 => ?_)
    refine cl_X7_163 (c := 60) (As := [.int x6]) rfl (x_X7_isStuff (G := G) hs hu  x6  (d)) rfl (by omega) rfl rfl (Nat.le_of_ble_eq_true rfl) dX7_isDoing_13 (fun r7 u8 q9 => ?_)
    obtain ⟨q9, Eq9⟩ := q9
    obtain ⟨⟨x10, rfl, tx10, nx10, zx10⟩, mq9⟩ := q9
    rw [mq9]
    have ex10 : x10 = (e_X7_isStuff u x6) := ee_v Eq9
    refine g_if_eq (tgt := 23) dX7_isDoing_16 (by decide) (fun c11 => ?_) (fun c11 => ?_)
    · have zc11 := zx10 c11
      refine g_iconst (v := 0) dX7_isDoing_23 (by decide) ?_
      exact g_iret (ty := .boolean) dX7_isDoing_24 rfl rfl ⟨⟨⟨0, rfl, Or.inl rfl, fun q => absurd rfl q, fun _ => by first | trivial | lia | grind⟩, rfl⟩, ee_p (by subst ex10; subst ex6; subst ex4; exact (if_pos c5).trans ((if_pos c11).trans (rfl)))⟩
    · have zc11 := nx10 c11
      refine g_iconst (v := 1) dX7_isDoing_19 (by decide) ?_
      refine g_goto (tgt := 24) dX7_isDoing_20 (by decide) ?_
      exact g_iret (ty := .boolean) dX7_isDoing_24 rfl rfl ⟨⟨⟨1, rfl, Or.inr rfl, fun _ => by first | trivial | lia | grind, fun q => absurd q (by decide)⟩, rfl⟩, ee_p (by subst ex10; subst ex6; subst ex4; exact (if_pos c5).trans ((if_neg c11).trans (rfl)))⟩
