set_option maxHeartbeats 4000000 in
set_option maxRecDepth 20000 in
theorem x_X7_isStuff {G : uk_D} (hs : uk_Sep G) {u : uk_Mem} (hu : iv u) (m : Int32) (d : Nat) : uk_Meth G (d + 1) mX7_isStuff [.ref (uk_ad G 60), .int m] u (qe_X7_isStuff u m) := by
  refine uk_Meth.of hs (by decide) (Nat.le_of_ble_eq_true rfl) (fun X => ?_)
  refine g_iload_n dX7_isStuff_0 rfl ?_
  refine g_i2l dX7_isStuff_1 ?_
  refine g_lconst (v := 0) dX7_isStuff_2 (by decide) ?_
  refine g_aload_n dX7_isStuff_3 rfl ?_
  refine f_X7_79 rfl rfl dX7_isStuff_4 ?_
  refine g_topi (fun x1 ex1 => ?_)
  have rx1 : 0 ≤ x1 ∧ x1 ≤ 8 := by rw [ex1]; exact iv_at hu _ _ rfl
  have s2 : u.1 60 3 = x1 := ex1.symm
  refine g_iconst (v := 1) dX7_isStuff_7 (by decide) ?_
  refine g_isub dX7_isStuff_8 ?_
  refine g_topi (fun x3 ex3 => ?_)
  refine g_i2l dX7_isStuff_9 ?_
  refine cl_X7_84 (As := [.long m.toInt64, .long 0, .long x3.toInt64]) rfl (x_X7_in (G := G) hs hu  m 0 x3  (d)) rfl (by omega) rfl (Nat.le_of_ble_eq_true rfl) dX7_isStuff_10 (fun r4 u5 q6 => ?_)
  obtain ⟨q6, Eq6⟩ := q6
  obtain ⟨⟨x7, rfl, tx7, nx7, zx7⟩, mq6⟩ := q6
  rw [mq6]
  have ex7 : x7 = (e_X7_in u m (0 : Int32) x3) := ee_v Eq6
  exact g_iret (ty := .boolean) dX7_isStuff_13 rfl (uk_nb tx7) ⟨⟨⟨_, rfl, tx7, fun q => by first | trivial | (have := nx7 q; first | exact this | grind), fun q => by first | trivial | (have := zx7 q; first | exact this | grind)⟩, rfl⟩, ee_p (by subst ex7; subst ex3; subst ex1; exact rfl)⟩
def e_X7_isRaw (u : uk_Mem) (m : Int32) : Int32 := let x1 : Int32 := (32 : Int32) + m; let x3 : Int32 := u.1 61 x1.toNatClampNeg; if x3 = (4 : Int32) then ((1 : Int32)) else ((0 : Int32))
abbrev qe_X7_isRaw (u : uk_Mem) (m : Int32) (r : Option Value) (u' : uk_Mem) : Prop := (q_X7_isRaw u m r u') ∧ (r = some (.int (e_X7_isRaw u m)))
set_option maxHeartbeats 4000000 in
set_option maxRecDepth 20000 in
theorem x_X7_isRaw {G : uk_D} (hs : uk_Sep G) {u : uk_Mem} (hu : iv u) (m : Int32) (p0 : 0 ≤ m) (p1 : m ≤ 7) (d : Nat) : uk_Meth G d mX7_isRaw [.ref (uk_ad G 60), .int m] u (qe_X7_isRaw u m) := by
  refine uk_Meth.of hs (by decide) (Nat.le_of_ble_eq_true rfl) (fun X => ?_)
  refine g_aload_n dX7_isRaw_0 rfl ?_
  refine f_X7_7 rfl rfl dX7_isRaw_1 ?_
  refine g_bipush (v := 32) dX7_isRaw_4 (by decide) ?_
  refine g_iload_n dX7_isRaw_6 rfl ?_
  refine g_iadd dX7_isRaw_7 ?_
  refine g_topi (fun x1 ex1 => ?_)
  have v2 : vp_in x1 153 := uk_vin 153 rfl (by first | decide | lia | grind) (by first | decide | lia | grind)
  refine g_iald rfl rfl v2 dX7_isRaw_8 ?_
  refine g_topi (fun x3 ex3 => ?_)
  have bx3 := uk_cl v2
  refine g_iconst (v := 4) dX7_isRaw_9 (by decide) ?_
  refine g_icmp_ne (tgt := 17) dX7_isRaw_10 (by decide) (fun c4 => ?_) (fun c4 => ?_)
  · refine g_iconst (v := 0) dX7_isRaw_17 (by decide) ?_
    exact g_iret (ty := .boolean) dX7_isRaw_18 rfl rfl ⟨⟨⟨0, rfl, Or.inl rfl, fun q => absurd rfl q, fun _ => by first | trivial | lia | grind⟩, rfl⟩, ee_p (by subst ex3; subst ex1; exact (if_neg c4).trans (rfl))⟩
  · refine g_iconst (v := 1) dX7_isRaw_13 (by decide) ?_
    refine g_goto (tgt := 18) dX7_isRaw_14 (by decide) ?_
    exact g_iret (ty := .boolean) dX7_isRaw_18 rfl rfl ⟨⟨⟨1, rfl, Or.inr rfl, fun _ => by first | trivial | lia | grind, fun q => absurd q (by decide)⟩, rfl⟩, ee_p (by subst ex3; subst ex1; exact (if_pos c4).trans (rfl))⟩
def e_X7_isPart (u : uk_Mem) (w : Int32) : Int32 := let x4 : Int32 := (e_X7_in u w (0 : Int32) (1 : Int32)); x4
abbrev qe_X7_isPart (u : uk_Mem) (w : Int32) (r : Option Value) (u' : uk_Mem) : Prop := (q_X7_isPart u w r u') ∧ (r = some (.int (e_X7_isPart u w)))
set_option maxHeartbeats 4000000 in
set_option maxRecDepth 20000 in
theorem x_X7_isPart {G : uk_D} (hs : uk_Sep G) {u : uk_Mem} (hu : iv u) (w : Int32) (d : Nat) : uk_Meth G (d + 1) mX7_isPart [.int w] u (qe_X7_isPart u w) := by
  refine uk_Meth.of hs (by decide) (Nat.le_of_ble_eq_true rfl) (fun X => ?_)
  refine g_iload_n dX7_isPart_0 rfl ?_
  refine g_i2l dX7_isPart_1 ?_
  refine g_lconst (v := 0) dX7_isPart_2 (by decide) ?_
  refine g_lconst (v := 1) dX7_isPart_3 (by decide) ?_
  refine cl_X7_84 (As := [.long w.toInt64, .long 0, .long 1]) rfl (x_X7_in (G := G) hs hu  w 0 1  (d)) rfl (by omega) rfl (Nat.le_of_ble_eq_true rfl) dX7_isPart_4 (fun r1 u2 q3 => ?_)
  obtain ⟨q3, Eq3⟩ := q3
  obtain ⟨⟨x4, rfl, tx4, nx4, zx4⟩, mq3⟩ := q3
  rw [mq3]
  have ex4 : x4 = (e_X7_in u w (0 : Int32) (1 : Int32)) := ee_v Eq3
  exact g_iret (ty := .boolean) dX7_isPart_7 rfl (uk_nb tx4) ⟨⟨⟨_, rfl, tx4, fun q => by first | trivial | (have := nx4 q; first | exact this | grind), fun q => by first | trivial | (have := zx4 q; first | exact this | grind)⟩, rfl⟩, ee_p (by subst ex4; exact rfl)⟩
