def e_X7_canDo (u : uk_Mem) (g : Int32) : Int32 := if (10 : Int32) ≤ g then (let x2 : Int32 := g - (10 : Int32); let x6 : Int32 := (e_X7_canTurn u x2); x6) else (let x10 : Int32 := (e_X7_canCook u g); x10)
abbrev qe_X7_canDo (u : uk_Mem) (g : Int32) (r : Option Value) (u' : uk_Mem) : Prop := (q_X7_canDo u g r u') ∧ (r = some (.int (e_X7_canDo u g)))
set_option maxHeartbeats 4000000 in
set_option maxRecDepth 20000 in
theorem x_X7_canDo {G : uk_D} (hs : uk_Sep G) {u : uk_Mem} (hu : iv u) (hra : ra u) (g : Int32) (p0 : ((0 ≤ g ∧ g ≤ 7 ∧ g < u.1 60 3) ∨ (10 ≤ g ∧ g ≤ 17 ∧ g - 10 < u.1 60 3))) (d : Nat) : uk_Meth G (d + 2) mX7_canDo [.ref (uk_ad G 60), .int g] u (qe_X7_canDo u g) := by
  refine uk_Meth.of hs (by decide) (Nat.le_of_ble_eq_true rfl) (fun X => ?_)
  refine g_iload_n dX7_canDo_0 rfl ?_
  refine g_bipush (v := 10) dX7_canDo_1 (by decide) ?_
  refine g_icmp_ge (tgt := 14) dX7_canDo_3 (by decide) (fun c1 => ?_) (fun c1 => ?_)
  · refine g_aload_n dX7_canDo_14 rfl ?_
    refine g_iload_n dX7_canDo_15 rfl ?_
    refine g_bipush (v := 10) dX7_canDo_16 (by decide) ?_
    refine g_isub dX7_canDo_18 ?_
    refine g_topi (fun x2 ex2 => ?_)
    refine cl_X7_160 (c := 60) (As := [.int x2]) rfl (x_X7_canTurn (G := G) hs hu hra  x2 (by first | trivial | decide | lia | grind) (by first | trivial | decide | lia | grind) (by first | trivial | decide | lia | grind) (d)) rfl (by omega) rfl rfl (Nat.le_of_ble_eq_true rfl) dX7_canDo_19 (fun r3 u4 q5 => ?_)
    obtain ⟨q5, Eq5⟩ := q5
    obtain ⟨⟨x6, rfl, tx6, nx6, zx6⟩, mq5⟩ := q5
    rw [mq5]
    have ex6 : x6 = (e_X7_canTurn u x2) := ee_v Eq5
    exact g_iret (ty := .boolean) dX7_canDo_22 rfl (uk_nb tx6) ⟨⟨⟨_, rfl, tx6, fun q => by first | trivial | (have := nx6 q; first | exact this | grind), fun q => by first | trivial | (have := zx6 q; first | exact this | grind)⟩, rfl⟩, ee_p (by subst ex6; subst ex2; exact (if_pos c1).trans (rfl))⟩
  · refine g_aload_n dX7_canDo_6 rfl ?_
    refine g_iload_n dX7_canDo_7 rfl ?_
    refine cl_X7_157 (c := 60) (As := [.int g]) rfl (x_X7_canCook (G := G) hs hu hra  g (by first | trivial | decide | lia | grind) (by first | trivial | decide | lia | grind) (by first | trivial | decide | lia | grind) (d + 1)) rfl (by omega) rfl rfl (Nat.le_of_ble_eq_true rfl) dX7_canDo_8 (fun r7 u8 q9 => ?_)
    obtain ⟨q9, Eq9⟩ := q9
    obtain ⟨⟨x10, rfl, tx10, nx10, zx10⟩, mq9⟩ := q9
    rw [mq9]
    have ex10 : x10 = (e_X7_canCook u g) := ee_v Eq9
    refine g_goto (tgt := 22) dX7_canDo_11 (by decide) ?_
    exact g_iret (ty := .boolean) dX7_canDo_22 rfl (uk_nb tx10) ⟨⟨⟨_, rfl, tx10, fun q => by first | trivial | (have := nx10 q; first | exact this | grind), fun q => by first | trivial | (have := zx10 q; first | exact this | grind)⟩, rfl⟩, ee_p (by subst ex10; exact (if_neg c1).trans (rfl))⟩
def e_X7_doIt_a (u : uk_Mem) (g : Int32) : uk_Mem := let x1 : Int32 := g - g / (10 : Int32) * (10 : Int32); let x4 : Int32 := (0 : Int32) + x1; let x6 : Int32 := u.1 62 x4.toNatClampNeg; let x7 : Int32 := x6 - (-1 : Int32); let u10 : uk_Mem := uk_up u 62 x4.toNatClampNeg x7; let x15 : Int32 := u10.1 64 x1.toNatClampNeg; let x16 : Int32 := (0 : Int32) + x15; let x18 : Int32 := u10.1 62 x16.toNatClampNeg; let x19 : Int32 := x18 + (-1 : Int32); let u22 : uk_Mem := uk_up u10 62 x16.toNatClampNeg x19; let x27 : Int32 := u22.1 65 x1.toNatClampNeg; let x28 : Int32 := (0 : Int32) + x27; let x30 : Int32 := u22.1 62 x28.toNatClampNeg; let x32 : Int32 := x30 + (-1 : Int32); let u35 : uk_Mem := uk_up u22 62 x28.toNatClampNeg x32; let x39 : Int32 := (8 : Int32) + x1; let x41 : Int32 := (8 : Int32) + x1; let x43 : Int32 := u35.1 62 x41.toNatClampNeg; let u46 : uk_Mem := uk_up u35 62 x39.toNatClampNeg x43; let x51 : Int32 := u46.1 62 (41 : Int32).toNatClampNeg; let x52 : Int32 := x51 + (1 : Int32); let u55 : uk_Mem := uk_up u46 62 (41 : Int32).toNatClampNeg x52; u55
abbrev qe_X7_doIt_a (u : uk_Mem) (g : Int32) (r : Option Value) (u' : uk_Mem) : Prop := (q_X7_doIt_a u g r u') ∧ (u' = e_X7_doIt_a u g)
