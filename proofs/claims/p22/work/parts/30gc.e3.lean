def e_X7_in (u : uk_Mem) (v lo hi : Int32) : Int32 := if lo ≤ v ∧ v ≤ hi then 1 else 0
abbrev qe_X7_in (u : uk_Mem) (v lo hi : Int32) (r : Option Value) (u' : uk_Mem) : Prop := (q_X7_in u v lo hi r u') ∧ (r = some (.int (e_X7_in u v lo hi)))
theorem x_X7_in {G : uk_D} (hs : uk_Sep G) {u : uk_Mem} (hu : iv u) (v lo hi : Int32) (d : Nat) : uk_Meth G d mX7_in [.long (Int32.toInt64 v), .long (Int32.toInt64 lo), .long (Int32.toInt64 hi)] u (qe_X7_in u v lo hi) := by
  refine uk_Meth.imp (c_X7_in hs hu v lo hi d) (fun r u' h => ⟨h, ?_⟩)
  obtain ⟨⟨x, rfl, t, n, z⟩, -⟩ := h
  unfold e_X7_in
  by_cases q : lo ≤ v ∧ v ≤ hi
  · rw [if_pos q]
    rcases t with rfl | rfl
    · exfalso
      have := z rfl
      grind
    · rfl
  · rw [if_neg q]
    rcases t with rfl | rfl
    · rfl
    · exact absurd (n (by decide)) q

def e_X7_flag (u : uk_Mem) (b : Int32) : Int32 := if b = 0 then ((0 : Int32)) else ((1 : Int32))
abbrev qe_X7_flag (u : uk_Mem) (b : Int32) (r : Option Value) (u' : uk_Mem) : Prop := (q_X7_flag u b r u') ∧ (r = some (.int (e_X7_flag u b)))
set_option maxHeartbeats 4000000 in
set_option maxRecDepth 20000 in
theorem x_X7_flag {G : uk_D} (hs : uk_Sep G) {u : uk_Mem} (hu : iv u) (b : Int32) (d : Nat) : uk_Meth G d mX7_flag [.int b] u (qe_X7_flag u b) := by
  refine uk_Meth.of hs (by decide) (Nat.le_of_ble_eq_true rfl) (fun X => ?_)
  refine g_iload_n dX7_flag_0 rfl ?_
  refine g_if_eq (tgt := 8) dX7_flag_1 (by decide) (fun c1 => ?_) (fun c1 => ?_)
  · refine g_iconst (v := 0) dX7_flag_8 (by decide) ?_
    exact g_iret (ty := .int) dX7_flag_9 rfl rfl ⟨⟨⟨_, rfl, by first | trivial | lia | grind⟩, rfl⟩, ee_p (by exact (if_pos c1).trans (rfl))⟩
  · refine g_iconst (v := 1) dX7_flag_4 (by decide) ?_
    refine g_goto (tgt := 9) dX7_flag_5 (by decide) ?_
    exact g_iret (ty := .int) dX7_flag_9 rfl rfl ⟨⟨⟨_, rfl, by first | trivial | lia | grind⟩, rfl⟩, ee_p (by exact (if_neg c1).trans (rfl))⟩
def l_X7_starts_2 : Nat → Int32 → uk_Mem → uk_Mem
  | 0, _, u3 => u3
  | K9 + 1, i2, u3 => if (51 : Int32) ≤ i2 then (u3) else (let x6 : Int32 := u3.1 61 i2.toNatClampNeg; let u9 : uk_Mem := uk_up u3 62 i2.toNatClampNeg x6; l_X7_starts_2  K9 (i2 + 1) u9)
def e_X7_starts (u : uk_Mem) : uk_Mem := l_X7_starts_2  ee_K (0 : Int32) u
abbrev qe_X7_starts (u : uk_Mem)  (r : Option Value) (u' : uk_Mem) : Prop := (q_X7_starts u r u') ∧ (u' = e_X7_starts u)
set_option maxHeartbeats 4000000 in
set_option maxRecDepth 20000 in
theorem x_X7_starts {G : uk_D} (hs : uk_Sep G) {u : uk_Mem} (hu : iv u) (hri : ri u)  (d : Nat) : uk_Meth G d mX7_starts [.ref (uk_ad G 60)] u (qe_X7_starts u) := by
  refine uk_Meth.of hs (by decide) (Nat.le_of_ble_eq_true rfl) (fun X => ?_)
  have f0 : fk [62] [] u u := fk_rf
  refine g_iconst (v := 0) dX7_starts_0 (by decide) ?_
  refine g_istore_n dX7_starts_1 (by decide) ?_
  refine g_pick (lv' := [(0, .ref (uk_ad G 60)), (1, .int 0)]) [0, 1] rfl ?_
  have L2_0 : ∀ i2 : Int32, 0 ≤ i2 → i2 ≤ 51 → ∀ (u3 : uk_Mem), iv u3 → fk [62] [] u u3 → cpy (u3.1 62) (u.1 61) i2 → (∃ ki2 : Nat, ee_F 51 i2 ki2 ∧ e_X7_starts u = l_X7_starts_2  ki2 i2 u3) → uk_G G X mX7_starts d (qe_X7_starts u) 2 [(0, .ref (uk_ad G 60)), (1, .int i2)] [] u3 := by
    refine uk_upl 51 ?_
    intro i2 ai2 bi2 ihi2  u3 hu3 fu3 ji20 jEi2
    obtain ⟨ki2, fki2, hki2⟩ := jEi2
    obtain ⟨ki2, rfl⟩ := ee_Fp (by first | assumption | lia | grind) fki2
    have wu3_60_3 : u3.1 60 3 = u.1 60 3 := fk_at fu3 (by decide)
    refine g_iload_n dX7_starts_2 rfl ?_
    refine g_bipush (v := 51) dX7_starts_3 (by decide) ?_
    refine g_icmp_ge (tgt := 26) dX7_starts_5 (by decide) (fun c4 => ?_) (fun c4 => ?_)
    · exact g_vret dX7_starts_26 rfl ⟨⟨rfl, hu3, fu3, (ra_of hri (fk_at fu3 (by decide)) (fk_c fu3 (by decide)) (fk_c fu3 (by decide)) (cpy_le ji20 (by lia))), (cpy_le ji20 (by lia))⟩, (by exact hki2.trans ((if_pos c4).trans (rfl)) : e_X7_starts u = u3).symm⟩
    · refine g_aload_n dX7_starts_8 rfl ?_
      refine f_X7_13 rfl rfl dX7_starts_9 ?_
      refine g_iload_n dX7_starts_12 rfl ?_
      refine g_aload_n dX7_starts_13 rfl ?_
      refine f_X7_7 rfl rfl dX7_starts_14 ?_
      refine g_iload_n dX7_starts_17 rfl ?_
      have v5 : vp_in i2 153 := uk_vin 153 rfl (by first | decide | lia | grind) (by first | decide | lia | grind)
      refine g_iald rfl rfl v5 dX7_starts_18 ?_
      refine g_topi (fun x6 ex6 => ?_)
      have bx6 := uk_cl v5
      have v7 : vp_in i2 51 := uk_vin 51 rfl (by first | decide | lia | grind) (by first | decide | lia | grind)
      have b8 := uk_cl v7
      refine g_iast rfl rfl v7 dX7_starts_19 ?_
      refine g_mem (fun u9 eu9 => ?_)
      have hu9 : iv u9 := by rw [eu9]; exact iv_cp hu3 hu3 (by unfold uk_is51; decide) (by unfold uk_is51; decide) (by omega) ex6
      have fu9 : fk [62] [] u u9 := by rw [eu9]; exact fk_up fu3 (by decide) (fun q => absurd q (by decide))
      refine g_iinc (v := i2 + 1) dX7_starts_20 rfl rfl (by decide) ?_
      refine g_pick (lv' := [(0, .ref (uk_ad G 60)), (1, .int (i2 + 1))]) [0, 1] rfl ?_
      refine g_goto (tgt := 2) dX7_starts_23 (by decide) ?_
      refine g_pick (lv' := [(0, .ref (uk_ad G 60)), (1, .int (i2 + 1))]) [0, 1] rfl ?_
      exact ihi2 (by first | lia | grind)  u9 hu9 fu9 (by rw [eu9, uk_up_self]; exact cpy_up ji20 (by lia) (ex6.trans (congrFun (fk_c fu3 (by decide)) _))) ⟨ki2, ee_Fs fki2 (by first | assumption | lia | grind), by subst eu9; subst ex6; exact hki2.trans ((if_neg c4).trans (rfl))⟩
  refine g_pick (lv' := [(0, .ref (uk_ad G 60)), (1, .int 0)]) [0, 1] rfl ?_
  exact L2_0 0 (by first | decide | lia | grind) (by first | decide | lia | grind)  u hu f0 cpy_0 ⟨ee_K, ee_F0 _ _, by exact rfl⟩
def l_X7_ends_2 : Nat → Int32 → uk_Mem → uk_Mem
  | 0, _, u3 => u3
  | K9 + 1, i2, u3 => if (51 : Int32) ≤ i2 then (u3) else (let x6 : Int32 := u3.1 62 i2.toNatClampNeg; let u9 : uk_Mem := uk_up u3 61 i2.toNatClampNeg x6; l_X7_ends_2  K9 (i2 + 1) u9)
def e_X7_ends (u : uk_Mem) : uk_Mem := l_X7_ends_2  ee_K (0 : Int32) u
abbrev qe_X7_ends (u : uk_Mem)  (r : Option Value) (u' : uk_Mem) : Prop := (q_X7_ends u r u') ∧ (u' = e_X7_ends u)
set_option maxHeartbeats 4000000 in
set_option maxRecDepth 20000 in
theorem x_X7_ends {G : uk_D} (hs : uk_Sep G) {u : uk_Mem} (hu : iv u) (hri : ri u) (hra : ra u)  (d : Nat) : uk_Meth G d mX7_ends [.ref (uk_ad G 60)] u (qe_X7_ends u) := by
  refine uk_Meth.of hs (by decide) (Nat.le_of_ble_eq_true rfl) (fun X => ?_)
  have f0 : fk [61] [] u u := fk_rf
  refine g_iconst (v := 0) dX7_ends_0 (by decide) ?_
  refine g_istore_n dX7_ends_1 (by decide) ?_
  refine g_pick (lv' := [(0, .ref (uk_ad G 60)), (1, .int 0)]) [0, 1] rfl ?_
  have L2_0 : ∀ i2 : Int32, 0 ≤ i2 → i2 ≤ 51 → ∀ (u3 : uk_Mem), iv u3 → fk [61] [] u u3 → cpy (u3.1 61) (u.1 62) i2 → cpx (u3.1 61) (u.1 61) → (∃ ki2 : Nat, ee_F 51 i2 ki2 ∧ e_X7_ends u = l_X7_ends_2  ki2 i2 u3) → uk_G G X mX7_ends d (qe_X7_ends u) 2 [(0, .ref (uk_ad G 60)), (1, .int i2)] [] u3 := by
    refine uk_upl 51 ?_
    intro i2 ai2 bi2 ihi2  u3 hu3 fu3 ji20 ji21 jEi2
    obtain ⟨ki2, fki2, hki2⟩ := jEi2
    obtain ⟨ki2, rfl⟩ := ee_Fp (by first | assumption | lia | grind) fki2
    have wu3_60_3 : u3.1 60 3 = u.1 60 3 := fk_at fu3 (by decide)
    refine g_iload_n dX7_ends_2 rfl ?_
    refine g_bipush (v := 51) dX7_ends_3 (by decide) ?_
    refine g_icmp_ge (tgt := 26) dX7_ends_5 (by decide) (fun c4 => ?_) (fun c4 => ?_)
    · exact g_vret dX7_ends_26 rfl ⟨⟨rfl, hu3, fu3, (ri_of hri hra (fk_at fu3 (by decide)) (fk_c fu3 (by decide)) (fk_c fu3 (by decide)) (fk_c fu3 (by decide)) (cpy_le ji20 (by lia)) ji21)⟩, (by exact hki2.trans ((if_pos c4).trans (rfl)) : e_X7_ends u = u3).symm⟩
    · refine g_aload_n dX7_ends_8 rfl ?_
      refine f_X7_7 rfl rfl dX7_ends_9 ?_
      refine g_iload_n dX7_ends_12 rfl ?_
      refine g_aload_n dX7_ends_13 rfl ?_
      refine f_X7_13 rfl rfl dX7_ends_14 ?_
      refine g_iload_n dX7_ends_17 rfl ?_
      have v5 : vp_in i2 51 := uk_vin 51 rfl (by first | decide | lia | grind) (by first | decide | lia | grind)
      refine g_iald rfl rfl v5 dX7_ends_18 ?_
      refine g_topi (fun x6 ex6 => ?_)
      have bx6 := uk_cl v5
      have v7 : vp_in i2 153 := uk_vin 153 rfl (by first | decide | lia | grind) (by first | decide | lia | grind)
      have b8 := uk_cl v7
      refine g_iast rfl rfl v7 dX7_ends_19 ?_
      refine g_mem (fun u9 eu9 => ?_)
      have hu9 : iv u9 := by rw [eu9]; exact iv_cp hu3 hu3 (by unfold uk_is51; decide) (by unfold uk_is51; decide) (by omega) ex6
      have fu9 : fk [61] [] u u9 := by rw [eu9]; exact fk_up fu3 (by decide) (fun q => absurd q (by decide))
      refine g_iinc (v := i2 + 1) dX7_ends_20 rfl rfl (by decide) ?_
      refine g_pick (lv' := [(0, .ref (uk_ad G 60)), (1, .int (i2 + 1))]) [0, 1] rfl ?_
      refine g_goto (tgt := 2) dX7_ends_23 (by decide) ?_
      refine g_pick (lv' := [(0, .ref (uk_ad G 60)), (1, .int (i2 + 1))]) [0, 1] rfl ?_
      exact ihi2 (by first | lia | grind)  u9 hu9 fu9 (by rw [eu9, uk_up_self]; exact cpy_up ji20 (by lia) (ex6.trans (congrFun (fk_c fu3 (by decide)) _))) (by rw [eu9, uk_up_self]; exact cpx_up ji21 (by lia) (by lia)) ⟨ki2, ee_Fs fki2 (by first | assumption | lia | grind), by subst eu9; subst ex6; exact hki2.trans ((if_neg c4).trans (rfl))⟩
  refine g_pick (lv' := [(0, .ref (uk_ad G 60)), (1, .int 0)]) [0, 1] rfl ?_
  exact L2_0 0 (by first | decide | lia | grind) (by first | decide | lia | grind)  u hu f0 cpy_0 cpx_rf ⟨ee_K, ee_F0 _ _, by exact rfl⟩
def e_X7_isStuff (u : uk_Mem) (m : Int32) : Int32 := let x1 : Int32 := u.1 60 3; let x3 : Int32 := x1 - (1 : Int32); let x7 : Int32 := (e_X7_in u m (0 : Int32) x3); x7
abbrev qe_X7_isStuff (u : uk_Mem) (m : Int32) (r : Option Value) (u' : uk_Mem) : Prop := (q_X7_isStuff u m r u') ∧ (r = some (.int (e_X7_isStuff u m)))
set_option maxHeartbeats 4000000 in
set_option maxRecDepth 20000 in
theorem x_X7_isStuff {G : uk_D} (hs : uk_Sep G) {u : uk_Mem} (hu : iv u) (m : Int32) (d : Nat) : uk_Meth G (d + 1) mX7_isStuff [.ref (uk_ad G 60), .int m] u (qe_X7_isStuff u m) := by
  refine uk_Meth.of hs (by decide) (Nat.le_of_ble_eq_true rfl) (fun X => ?_)
  refine g_iload_n dX7_isStuff_0 rfl ?_
  refine g_i2l dX7_isStuff_1 ?_
  refine g_lconst (v := 0) dX7_isStuff_2 (by decide) ?_
  refine g_aload_n dX7_isStuff_3 rfl ?_
  refine f_X7_79 rfl rfl dX7_isStuff_4 ?_
  refine g_topi (fun x1 ex1 => ?_)
  have rx1 : 0 ≤ x1 ∧ x1 ≤ 8 := by rw [ex1]; exact iv_at hu _ _ rfl
  have s2 : u.1 60 3 = x1 := ex1.symm
  refine g_iconst (v := 1) dX7_isStuff_7 (by decide) ?_
  refine g_isub dX7_isStuff_8 ?_
  refine g_topi (fun x3 ex3 => ?_)
  refine g_i2l dX7_isStuff_9 ?_
  refine cl_X7_84 (As := [.long m.toInt64, .long 0, .long x3.toInt64]) rfl (x_X7_in (G := G) hs hu  m 0 x3  (d)) rfl (by omega) rfl (Nat.le_of_ble_eq_true rfl) dX7_isStuff_10 (fun r4 u5 q6 => ?_)
  obtain ⟨q6, Eq6⟩ := q6
  obtain ⟨⟨x7, rfl, tx7, nx7, zx7⟩, mq6⟩ := q6
  rw [mq6]
  have ex7 : x7 = (e_X7_in u m (0 : Int32) x3) := ee_v Eq6
  exact g_iret (ty := .boolean) dX7_isStuff_13 rfl (uk_nb tx7) ⟨⟨⟨_, rfl, tx7, fun q => by first | trivial | (have := nx7 q; first | exact this | grind), fun q => by first | trivial | (have := zx7 q; first | exact this | grind)⟩, rfl⟩, ee_p (by subst ex7; subst ex3; subst ex1; exact rfl)⟩
def e_X7_isRaw (u : uk_Mem) (m : Int32) : Int32 := let x1 : Int32 := (32 : Int32) + m; let x3 : Int32 := u.1 61 x1.toNatClampNeg; if x3 = (4 : Int32) then ((1 : Int32)) else ((0 : Int32))
abbrev qe_X7_isRaw (u : uk_Mem) (m : Int32) (r : Option Value) (u' : uk_Mem) : Prop := (q_X7_isRaw u m r u') ∧ (r = some (.int (e_X7_isRaw u m)))
set_option maxHeartbeats 4000000 in
set_option maxRecDepth 20000 in
theorem x_X7_isRaw {G : uk_D} (hs : uk_Sep G) {u : uk_Mem} (hu : iv u) (m : Int32) (p0 : 0 ≤ m) (p1 : m ≤ 7) (d : Nat) : uk_Meth G d mX7_isRaw [.ref (uk_ad G 60), .int m] u (qe_X7_isRaw u m) := by
  refine uk_Meth.of hs (by decide) (Nat.le_of_ble_eq_true rfl) (fun X => ?_)
  refine g_aload_n dX7_isRaw_0 rfl ?_
  refine f_X7_7 rfl rfl dX7_isRaw_1 ?_
  refine g_bipush (v := 32) dX7_isRaw_4 (by decide) ?_
  refine g_iload_n dX7_isRaw_6 rfl ?_
  refine g_iadd dX7_isRaw_7 ?_
  refine g_topi (fun x1 ex1 => ?_)
  have v2 : vp_in x1 153 := uk_vin 153 rfl (by first | decide | lia | grind) (by first | decide | lia | grind)
  refine g_iald rfl rfl v2 dX7_isRaw_8 ?_
  refine g_topi (fun x3 ex3 => ?_)
  have bx3 := uk_cl v2
  refine g_iconst (v := 4) dX7_isRaw_9 (by decide) ?_
  refine g_icmp_ne (tgt := 17) dX7_isRaw_10 (by decide) (fun c4 => ?_) (fun c4 => ?_)
  · refine g_iconst (v := 0) dX7_isRaw_17 (by decide) ?_
    exact g_iret (ty := .boolean) dX7_isRaw_18 rfl rfl ⟨⟨⟨0, rfl, Or.inl rfl, fun q => absurd rfl q, fun _ => by first | trivial | lia | grind⟩, rfl⟩, ee_p (by subst ex3; subst ex1; exact (if_neg c4).trans (rfl))⟩
  · refine g_iconst (v := 1) dX7_isRaw_13 (by decide) ?_
    refine g_goto (tgt := 18) dX7_isRaw_14 (by decide) ?_
    exact g_iret (ty := .boolean) dX7_isRaw_18 rfl rfl ⟨⟨⟨1, rfl, Or.inr rfl, fun _ => by first | trivial | lia | grind, fun q => absurd q (by decide)⟩, rfl⟩, ee_p (by subst ex3; subst ex1; exact (if_pos c4).trans (rfl))⟩
def e_X7_isPart (u : uk_Mem) (w : Int32) : Int32 := let x4 : Int32 := (e_X7_in u w (0 : Int32) (1 : Int32)); x4
abbrev qe_X7_isPart (u : uk_Mem) (w : Int32) (r : Option Value) (u' : uk_Mem) : Prop := (q_X7_isPart u w r u') ∧ (r = some (.int (e_X7_isPart u w)))
set_option maxHeartbeats 4000000 in
set_option maxRecDepth 20000 in
theorem x_X7_isPart {G : uk_D} (hs : uk_Sep G) {u : uk_Mem} (hu : iv u) (w : Int32) (d : Nat) : uk_Meth G (d + 1) mX7_isPart [.int w] u (qe_X7_isPart u w) := by
  refine uk_Meth.of hs (by decide) (Nat.le_of_ble_eq_true rfl) (fun X => ?_)
  refine g_iload_n dX7_isPart_0 rfl ?_
  refine g_i2l dX7_isPart_1 ?_
  refine g_lconst (v := 0) dX7_isPart_2 (by decide) ?_
  refine g_lconst (v := 1) dX7_isPart_3 (by decide) ?_
  refine cl_X7_84 (As := [.long w.toInt64, .long 0, .long 1]) rfl (x_X7_in (G := G) hs hu  w 0 1  (d)) rfl (by omega) rfl (Nat.le_of_ble_eq_true rfl) dX7_isPart_4 (fun r1 u2 q3 => ?_)
  obtain ⟨q3, Eq3⟩ := q3
  obtain ⟨⟨x4, rfl, tx4, nx4, zx4⟩, mq3⟩ := q3
  rw [mq3]
  have ex4 : x4 = (e_X7_in u w (0 : Int32) (1 : Int32)) := ee_v Eq3
  exact g_iret (ty := .boolean) dX7_isPart_7 rfl (uk_nb tx4) ⟨⟨⟨_, rfl, tx4, fun q => by first | trivial | (have := nx4 q; first | exact this | grind), fun q => by first | trivial | (have := zx4 q; first | exact this | grind)⟩, rfl⟩, ee_p (by subst ex4; exact rfl)⟩
def e_X7_givesSecond (u : uk_Mem) (m : Int32) : Int32 := let x1 : Int32 := (32 : Int32) + m; let x3 : Int32 := u.1 62 x1.toNatClampNeg; if x3 = 0 then ((1 : Int32)) else (let x5 : Int32 := (32 : Int32) + m; let x7 : Int32 := u.1 62 x5.toNatClampNeg; if x7 = (3 : Int32) then (let x9 : Int32 := (8 : Int32) + m; let x11 : Int32 := u.1 62 x9.toNatClampNeg; if x11 = (1 : Int32) then ((1 : Int32)) else ((0 : Int32))) else ((0 : Int32)))
abbrev qe_X7_givesSecond (u : uk_Mem) (m : Int32) (r : Option Value) (u' : uk_Mem) : Prop := (q_X7_givesSecond u m r u') ∧ (r = some (.int (e_X7_givesSecond u m)))
set_option maxHeartbeats 4000000 in
set_option maxRecDepth 20000 in
theorem x_X7_givesSecond {G : uk_D} (hs : uk_Sep G) {u : uk_Mem} (hu : iv u) (m : Int32) (p0 : 0 ≤ m) (p1 : m ≤ 7) (d : Nat) : uk_Meth G d mX7_givesSecond [.ref (uk_ad G 60), .int m] u (qe_X7_givesSecond u m) := by
  refine uk_Meth.of hs (by decide) (Nat.le_of_ble_eq_true rfl) (fun X => ?_)
  refine g_aload_n dX7_givesSecond_0 rfl ?_
  refine f_X7_13 rfl rfl dX7_givesSecond_1 ?_
  refine g_bipush (v := 32) dX7_givesSecond_4 (by decide) ?_
  refine g_iload_n dX7_givesSecond_6 rfl ?_
  refine g_iadd dX7_givesSecond_7 ?_
  refine g_topi (fun x1 ex1 => ?_)
  have v2 : vp_in x1 51 := uk_vin 51 rfl (by first | decide | lia | grind) (by first | decide | lia | grind)
  refine g_iald rfl rfl v2 dX7_givesSecond_8 ?_
  refine g_topi (fun x3 ex3 => ?_)
  have bx3 := uk_cl v2
  refine g_if_eq (tgt := 38) dX7_givesSecond_9 (by decide) (fun c4 => ?_) (fun c4 => ?_)
  · refine g_iconst (v := 1) dX7_givesSecond_38 (by decide) ?_
    refine g_goto (tgt := 43) dX7_givesSecond_39 (by decide) ?_
    exact g_iret (ty := .boolean) dX7_givesSecond_43 rfl rfl ⟨⟨⟨1, rfl, Or.inr rfl, fun _ => by first | trivial | lia | grind, fun q => absurd q (by decide)⟩, rfl⟩, ee_p (by subst ex3; subst ex1; exact (if_pos c4).trans (rfl))⟩
  · refine g_aload_n dX7_givesSecond_12 rfl ?_
    refine f_X7_13 rfl rfl dX7_givesSecond_13 ?_
    refine g_bipush (v := 32) dX7_givesSecond_16 (by decide) ?_
    refine g_iload_n dX7_givesSecond_18 rfl ?_
    refine g_iadd dX7_givesSecond_19 ?_
    refine g_topi (fun x5 ex5 => ?_)
    have v6 : vp_in x5 51 := uk_vin 51 rfl (by first | decide | lia | grind) (by first | decide | lia | grind)
    refine g_iald rfl rfl v6 dX7_givesSecond_20 ?_
    refine g_topi (fun x7 ex7 => ?_)
    have bx7 := uk_cl v6
    refine g_iconst (v := 3) dX7_givesSecond_21 (by decide) ?_
    refine g_icmp_ne (tgt := 42) dX7_givesSecond_22 (by decide) (fun c8 => ?_) (fun c8 => ?_)
    · refine g_iconst (v := 0) dX7_givesSecond_42 (by decide) ?_
      exact g_iret (ty := .boolean) dX7_givesSecond_43 rfl rfl ⟨⟨⟨0, rfl, Or.inl rfl, fun q => absurd rfl q, fun _ => by first | trivial | lia | grind⟩, rfl⟩, ee_p (by subst ex7; subst ex5; subst ex3; subst ex1; exact (if_neg c4).trans ((if_neg c8).trans (rfl)))⟩
    · refine g_aload_n dX7_givesSecond_25 rfl ?_
      refine f_X7_13 rfl rfl dX7_givesSecond_26 ?_
      refine g_bipush (v := 8) dX7_givesSecond_29 (by decide) ?_
      refine g_iload_n dX7_givesSecond_31 rfl ?_
      refine g_iadd dX7_givesSecond_32 ?_
      refine g_topi (fun x9 ex9 => ?_)
      have v10 : vp_in x9 51 := uk_vin 51 rfl (by first | decide | lia | grind) (by first | decide | lia | grind)
      refine g_iald rfl rfl v10 dX7_givesSecond_33 ?_
      refine g_topi (fun x11 ex11 => ?_)
      have bx11 := uk_cl v10
      refine g_iconst (v := 1) dX7_givesSecond_34 (by decide) ?_
      refine g_icmp_ne (tgt := 42) dX7_givesSecond_35 (by decide) (fun c12 => ?_) (fun c12 => ?_)
      · refine g_iconst (v := 0) dX7_givesSecond_42 (by decide) ?_
        exact g_iret (ty := .boolean) dX7_givesSecond_43 rfl rfl ⟨⟨⟨0, rfl, Or.inl rfl, fun q => absurd rfl q, fun _ => by first | trivial | lia | grind⟩, rfl⟩, ee_p (by subst ex11; subst ex9; subst ex7; subst ex5; subst ex3; subst ex1; exact (if_neg c4).trans ((if_pos c8).trans ((if_neg c12).trans (rfl))))⟩
      · refine g_iconst (v := 1) dX7_givesSecond_38 (by decide) ?_
        refine g_goto (tgt := 43) dX7_givesSecond_39 (by decide) ?_
        exact g_iret (ty := .boolean) dX7_givesSecond_43 rfl rfl ⟨⟨⟨1, rfl, Or.inr rfl, fun _ => by first | trivial | lia | grind, fun q => absurd q (by decide)⟩, rfl⟩, ee_p (by subst ex11; subst ex9; subst ex7; subst ex5; subst ex3; subst ex1; exact (if_neg c4).trans ((if_pos c8).trans ((if_pos c12).trans (rfl))))⟩
def e_X7_canCook (u : uk_Mem) (m : Int32) : Int32 := let x1 : Int32 := (32 : Int32) + m; let x3 : Int32 := u.1 62 x1.toNatClampNeg; if x3 = (4 : Int32) then ((0 : Int32)) else (let x5 : Int32 := (0 : Int32) + m; let x7 : Int32 := u.1 62 x5.toNatClampNeg; if x7 = (40 : Int32) then ((0 : Int32)) else (let x10 : Int32 := u.1 64 m.toNatClampNeg; let x12 : Int32 := u.1 65 m.toNatClampNeg; if x10 = x12 then (let x22 : Int32 := (0 : Int32) + x10; let x24 : Int32 := u.1 62 x22.toNatClampNeg; if x24 ≤ (1 : Int32) then ((0 : Int32)) else ((1 : Int32))) else (let x14 : Int32 := (0 : Int32) + x10; let x16 : Int32 := u.1 62 x14.toNatClampNeg; if x16 ≤ 0 then ((0 : Int32)) else (let x18 : Int32 := (0 : Int32) + x12; let x20 : Int32 := u.1 62 x18.toNatClampNeg; if x20 ≤ 0 then ((0 : Int32)) else ((1 : Int32))))))
abbrev qe_X7_canCook (u : uk_Mem) (m : Int32) (r : Option Value) (u' : uk_Mem) : Prop := (q_X7_canCook u m r u') ∧ (r = some (.int (e_X7_canCook u m)))
set_option maxHeartbeats 4000000 in
set_option maxRecDepth 20000 in
theorem x_X7_canCook {G : uk_D} (hs : uk_Sep G) {u : uk_Mem} (hu : iv u) (hra : ra u) (m : Int32) (p0 : 0 ≤ m) (p1 : m < u.1 60 3) (p2 : m ≤ 7) (d : Nat) : uk_Meth G d mX7_canCook [.ref (uk_ad G 60), .int m] u (qe_X7_canCook u m) := by
  refine uk_Meth.of hs (by decide) (Nat.le_of_ble_eq_true rfl) (fun X => ?_)
  have hk : u.1 62 (32 + m).toNatClampNeg = 4 ∨ (0 ≤ u.1 64 m.toNatClampNeg ∧ u.1 64 m.toNatClampNeg < m ∧ 0 ≤ u.1 65 m.toNatClampNeg ∧ u.1 65 m.toNatClampNeg < m) := hra m p0 p1 p2
  refine g_aload_n dX7_canCook_0 rfl ?_
  refine f_X7_13 rfl rfl dX7_canCook_1 ?_
  refine g_bipush (v := 32) dX7_canCook_4 (by decide) ?_
  refine g_iload_n dX7_canCook_6 rfl ?_
  refine g_iadd dX7_canCook_7 ?_
  refine g_topi (fun x1 ex1 => ?_)
  have v2 : vp_in x1 51 := uk_vin 51 rfl (by first | decide | lia | grind) (by first | decide | lia | grind)
  refine g_iald rfl rfl v2 dX7_canCook_8 ?_
  refine g_topi (fun x3 ex3 => ?_)
  have bx3 := uk_cl v2
  refine g_iconst (v := 4) dX7_canCook_9 (by decide) ?_
  refine g_icmp_eq (tgt := 26) dX7_canCook_10 (by decide) (fun c4 => ?_) (fun c4 => ?_)
  · refine g_iconst (v := 0) dX7_canCook_26 (by decide) ?_
    exact g_iret (ty := .boolean) dX7_canCook_27 rfl rfl ⟨⟨⟨0, rfl, Or.inl rfl, fun q => absurd rfl q, fun _ => by first | trivial | lia | grind⟩, rfl⟩, ee_p (by subst ex3; subst ex1; exact (if_pos c4).trans (rfl))⟩
  · refine g_aload_n dX7_canCook_13 rfl ?_
    refine f_X7_13 rfl rfl dX7_canCook_14 ?_
    refine g_iconst (v := 0) dX7_canCook_17 (by decide) ?_
    refine g_iload_n dX7_canCook_18 rfl ?_
    refine g_iadd dX7_canCook_19 ?_
    refine g_topi (fun x5 ex5 => ?_)
    have ox5 : x5 = m := by rw [ex5, Int32.zero_add]
    have v6 : vp_in x5 51 := uk_vin 51 rfl (by first | decide | lia | grind) (by first | decide | lia | grind)
    refine g_iald rfl rfl v6 dX7_canCook_20 ?_
    refine g_topi (fun x7 ex7 => ?_)
    have bx7 := uk_cl v6
    have rx7 : 0 ≤ x7 ∧ x7 ≤ 40 := by rw [ex7]; exact sg_0 hu (by unfold uk_is51; decide) (by first | lia | grind) (by first | lia | grind)
    refine g_bipush (v := 40) dX7_canCook_21 (by decide) ?_
    refine g_icmp_ne (tgt := 28) dX7_canCook_23 (by decide) (fun c8 => ?_) (fun c8 => ?_)
    · refine g_aload_n dX7_canCook_28 rfl ?_
      refine f_X7_20 rfl rfl dX7_canCook_29 ?_
      refine g_iload_n dX7_canCook_32 rfl ?_
      have v9 : vp_in m 8 := uk_vin 8 rfl (by first | decide | lia | grind) (by first | decide | lia | grind)
      refine g_iald rfl rfl v9 dX7_canCook_33 ?_
      refine g_topi (fun x10 ex10 => ?_)
      have bx10 := uk_cl v9
      have rx10 : (-4) ≤ x10 ∧ x10 ≤ 7 := by rw [ex10]; exact iv_at hu _ _ (uk_pick1 _ (by omega))
      have hp := hk.resolve_left (by grind)
      refine g_istore_n dX7_canCook_34 (by decide) ?_
      refine g_pick (lv' := [(0, .ref (uk_ad G 60)), (1, .int m), (2, .int x10)]) [0, 1, 2] rfl ?_
      refine g_aload_n dX7_canCook_35 rfl ?_
      refine f_X7_23 rfl rfl dX7_canCook_36 ?_
      refine g_iload_n dX7_canCook_39 rfl ?_
      have v11 : vp_in m 8 := uk_vin 8 rfl (by first | decide | lia | grind) (by first | decide | lia | grind)
      refine g_iald rfl rfl v11 dX7_canCook_40 ?_
      refine g_topi (fun x12 ex12 => ?_)
      have bx12 := uk_cl v11
      have rx12 : (-4) ≤ x12 ∧ x12 ≤ 7 := by rw [ex12]; exact iv_at hu _ _ (uk_pick1 _ (by omega))
      refine g_istore_n dX7_canCook_41 (by decide) ?_
      refine g_pick (lv' := [(0, .ref (uk_ad G 60)), (1, .int m), (2, .int x10), (3, .int x12)]) [0, 1, 2, 3] rfl ?_
      refine g_iload_n dX7_canCook_42 rfl ?_
      refine g_iload_n dX7_canCook_43 rfl ?_
      refine g_icmp_ne (tgt := 67) dX7_canCook_44 (by decide) (fun c13 => ?_) (fun c13 => ?_)
      · refine g_aload_n dX7_canCook_67 rfl ?_
        refine f_X7_13 rfl rfl dX7_canCook_68 ?_
        refine g_iconst (v := 0) dX7_canCook_71 (by decide) ?_
        refine g_iload_n dX7_canCook_72 rfl ?_
        refine g_iadd dX7_canCook_73 ?_
        refine g_topi (fun x14 ex14 => ?_)
        have ox14 : x14 = x10 := by rw [ex14, Int32.zero_add]
        have v15 : vp_in x14 51 := uk_vin 51 rfl (by first | decide | lia | grind) (by first | decide | lia | grind)
        refine g_iald rfl rfl v15 dX7_canCook_74 ?_
        refine g_topi (fun x16 ex16 => ?_)
        have bx16 := uk_cl v15
        have rx16 : 0 ≤ x16 ∧ x16 ≤ 40 := by rw [ex16]; exact sg_0 hu (by unfold uk_is51; decide) (by first | lia | grind) (by first | lia | grind)
        refine g_if_le (tgt := 93) dX7_canCook_75 (by decide) (fun c17 => ?_) (fun c17 => ?_)
        · refine g_iconst (v := 0) dX7_canCook_93 (by decide) ?_
          exact g_iret (ty := .boolean) dX7_canCook_94 rfl rfl ⟨⟨⟨0, rfl, Or.inl rfl, fun q => absurd rfl q, fun _ => by first | trivial | lia | grind⟩, rfl⟩, ee_p (by subst ex16; subst ex14; subst ex12; subst ex10; subst ex7; subst ex5; subst ex3; subst ex1; exact (if_neg c4).trans ((if_neg c8).trans ((if_neg c13).trans ((if_pos c17).trans (rfl)))))⟩
        · refine g_aload_n dX7_canCook_78 rfl ?_
          refine f_X7_13 rfl rfl dX7_canCook_79 ?_
          refine g_iconst (v := 0) dX7_canCook_82 (by decide) ?_
          refine g_iload_n dX7_canCook_83 rfl ?_
          refine g_iadd dX7_canCook_84 ?_
          refine g_topi (fun x18 ex18 => ?_)
          have ox18 : x18 = x12 := by rw [ex18, Int32.zero_add]
          have v19 : vp_in x18 51 := uk_vin 51 rfl (by first | decide | lia | grind) (by first | decide | lia | grind)
          refine g_iald rfl rfl v19 dX7_canCook_85 ?_
          refine g_topi (fun x20 ex20 => ?_)
          have bx20 := uk_cl v19
          have rx20 : 0 ≤ x20 ∧ x20 ≤ 40 := by rw [ex20]; exact sg_0 hu (by unfold uk_is51; decide) (by first | lia | grind) (by first | lia | grind)
          refine g_if_le (tgt := 93) dX7_canCook_86 (by decide) (fun c21 => ?_) (fun c21 => ?_)
          · refine g_iconst (v := 0) dX7_canCook_93 (by decide) ?_
            exact g_iret (ty := .boolean) dX7_canCook_94 rfl rfl ⟨⟨⟨0, rfl, Or.inl rfl, fun q => absurd rfl q, fun _ => by first | trivial | lia | grind⟩, rfl⟩, ee_p (by subst ex20; subst ex18; subst ex16; subst ex14; subst ex12; subst ex10; subst ex7; subst ex5; subst ex3; subst ex1; exact (if_neg c4).trans ((if_neg c8).trans ((if_neg c13).trans ((if_neg c17).trans ((if_pos c21).trans (rfl))))))⟩
          · refine g_iconst (v := 1) dX7_canCook_89 (by decide) ?_
            refine g_goto (tgt := 94) dX7_canCook_90 (by decide) ?_
            exact g_iret (ty := .boolean) dX7_canCook_94 rfl rfl ⟨⟨⟨1, rfl, Or.inr rfl, fun _ => ⟨hp.1, hp.2.1, hp.2.2.1, hp.2.2.2, by grind, fun q => by grind, fun q => by grind⟩, fun q => absurd q (by decide)⟩, rfl⟩, ee_p (by subst ex20; subst ex18; subst ex16; subst ex14; subst ex12; subst ex10; subst ex7; subst ex5; subst ex3; subst ex1; exact (if_neg c4).trans ((if_neg c8).trans ((if_neg c13).trans ((if_neg c17).trans ((if_neg c21).trans (rfl))))))⟩
      · refine g_aload_n dX7_canCook_47 rfl ?_
        refine f_X7_13 rfl rfl dX7_canCook_48 ?_
        refine g_iconst (v := 0) dX7_canCook_51 (by decide) ?_
        refine g_iload_n dX7_canCook_52 rfl ?_
        refine g_iadd dX7_canCook_53 ?_
        refine g_topi (fun x22 ex22 => ?_)
        have ox22 : x22 = x10 := by rw [ex22, Int32.zero_add]
        have v23 : vp_in x22 51 := uk_vin 51 rfl (by first | decide | lia | grind) (by first | decide | lia | grind)
        refine g_iald rfl rfl v23 dX7_canCook_54 ?_
        refine g_topi (fun x24 ex24 => ?_)
        have bx24 := uk_cl v23
        have rx24 : 0 ≤ x24 ∧ x24 ≤ 40 := by rw [ex24]; exact sg_0 hu (by unfold uk_is51; decide) (by first | lia | grind) (by first | lia | grind)
        refine g_iconst (v := 1) dX7_canCook_55 (by decide) ?_
        refine g_icmp_le (tgt := 63) dX7_canCook_56 (by decide) (fun c25 => ?_) (fun c25 => ?_)
        · refine g_iconst (v := 0) dX7_canCook_63 (by decide) ?_
          refine g_goto (tgt := 94) dX7_canCook_64 (by decide) ?_
          exact g_iret (ty := .boolean) dX7_canCook_94 rfl rfl ⟨⟨⟨0, rfl, Or.inl rfl, fun q => absurd rfl q, fun _ => by first | trivial | lia | grind⟩, rfl⟩, ee_p (by subst ex24; subst ex22; subst ex12; subst ex10; subst ex7; subst ex5; subst ex3; subst ex1; exact (if_neg c4).trans ((if_neg c8).trans ((if_pos c13).trans ((if_pos c25).trans (rfl)))))⟩
        · refine g_iconst (v := 1) dX7_canCook_59 (by decide) ?_
          refine g_goto (tgt := 94) dX7_canCook_60 (by decide) ?_
          exact g_iret (ty := .boolean) dX7_canCook_94 rfl rfl ⟨⟨⟨1, rfl, Or.inr rfl, fun _ => ⟨hp.1, hp.2.1, hp.2.2.1, hp.2.2.2, by grind, fun q => by grind, fun q => by grind⟩, fun q => absurd q (by decide)⟩, rfl⟩, ee_p (by subst ex24; subst ex22; subst ex12; subst ex10; subst ex7; subst ex5; subst ex3; subst ex1; exact (if_neg c4).trans ((if_neg c8).trans ((if_pos c13).trans ((if_neg c25).trans (rfl)))))⟩
    · refine g_iconst (v := 0) dX7_canCook_26 (by decide) ?_
      exact g_iret (ty := .boolean) dX7_canCook_27 rfl rfl ⟨⟨⟨0, rfl, Or.inl rfl, fun q => absurd rfl q, fun _ => by first | trivial | lia | grind⟩, rfl⟩, ee_p (by subst ex7; subst ex5; subst ex3; subst ex1; exact (if_neg c4).trans ((if_pos c8).trans (rfl)))⟩
def e_X7_canTurn (u : uk_Mem) (m : Int32) : Int32 := let x1 : Int32 := (32 : Int32) + m; let x3 : Int32 := u.1 62 x1.toNatClampNeg; if x3 = (4 : Int32) then ((0 : Int32)) else (let x5 : Int32 := (32 : Int32) + m; let x7 : Int32 := u.1 62 x5.toNatClampNeg; if x7 = (2 : Int32) then ((0 : Int32)) else (let x9 : Int32 := (0 : Int32) + m; let x11 : Int32 := u.1 62 x9.toNatClampNeg; if x11 = 0 then ((0 : Int32)) else (let x14 : Int32 := u.1 64 m.toNatClampNeg; let x16 : Int32 := u.1 65 m.toNatClampNeg; let x20 : Int32 := (e_X7_givesSecond u m); if x20 = 0 then (let x22 : Int32 := (0 : Int32) + x14; let x24 : Int32 := u.1 62 x22.toNatClampNeg; let x25 : Int32 := x24 + (1 : Int32); if (40 : Int32) < x25 then ((0 : Int32)) else (let x30 : Int32 := (e_X7_givesSecond u m); if x30 = 0 then ((1 : Int32)) else (if x14 = x16 then ((1 : Int32)) else (let x33 : Int32 := (0 : Int32) + x16; let x35 : Int32 := u.1 62 x33.toNatClampNeg; if (40 : Int32) ≤ x35 then ((0 : Int32)) else ((1 : Int32)))))) else (if x14 = x16 then (let x53 : Int32 := (0 : Int32) + x14; let x55 : Int32 := u.1 62 x53.toNatClampNeg; let x56 : Int32 := x55 + (2 : Int32); if (40 : Int32) < x56 then ((0 : Int32)) else (let x61 : Int32 := (e_X7_givesSecond u m); if x61 = 0 then ((1 : Int32)) else (if x14 = x16 then ((1 : Int32)) else (let x64 : Int32 := (0 : Int32) + x16; let x66 : Int32 := u.1 62 x64.toNatClampNeg; if (40 : Int32) ≤ x66 then ((0 : Int32)) else ((1 : Int32)))))) else (let x38 : Int32 := (0 : Int32) + x14; let x40 : Int32 := u.1 62 x38.toNatClampNeg; let x41 : Int32 := x40 + (1 : Int32); if (40 : Int32) < x41 then ((0 : Int32)) else (let x46 : Int32 := (e_X7_givesSecond u m); if x46 = 0 then ((1 : Int32)) else (if x14 = x16 then ((1 : Int32)) else (let x49 : Int32 := (0 : Int32) + x16; let x51 : Int32 := u.1 62 x49.toNatClampNeg; if (40 : Int32) ≤ x51 then ((0 : Int32)) else ((1 : Int32))))))))))
abbrev qe_X7_canTurn (u : uk_Mem) (m : Int32) (r : Option Value) (u' : uk_Mem) : Prop := (q_X7_canTurn u m r u') ∧ (r = some (.int (e_X7_canTurn u m)))
set_option maxHeartbeats 4000000 in
set_option maxRecDepth 20000 in
theorem x_X7_canTurn {G : uk_D} (hs : uk_Sep G) {u : uk_Mem} (hu : iv u) (hra : ra u) (m : Int32) (p0 : 0 ≤ m) (p1 : m < u.1 60 3) (p2 : m ≤ 7) (d : Nat) : uk_Meth G (d + 1) mX7_canTurn [.ref (uk_ad G 60), .int m] u (qe_X7_canTurn u m) := by
  refine uk_Meth.of hs (by decide) (Nat.le_of_ble_eq_true rfl) (fun X => ?_)
  have hk : u.1 62 (32 + m).toNatClampNeg = 4 ∨ (0 ≤ u.1 64 m.toNatClampNeg ∧ u.1 64 m.toNatClampNeg < m ∧ 0 ≤ u.1 65 m.toNatClampNeg ∧ u.1 65 m.toNatClampNeg < m) := hra m p0 p1 p2
  refine g_aload_n dX7_canTurn_0 rfl ?_
  refine f_X7_13 rfl rfl dX7_canTurn_1 ?_
  refine g_bipush (v := 32) dX7_canTurn_4 (by decide) ?_
  refine g_iload_n dX7_canTurn_6 rfl ?_
  refine g_iadd dX7_canTurn_7 ?_
  refine g_topi (fun x1 ex1 => ?_)
  have v2 : vp_in x1 51 := uk_vin 51 rfl (by first | decide | lia | grind) (by first | decide | lia | grind)
  refine g_iald rfl rfl v2 dX7_canTurn_8 ?_
  refine g_topi (fun x3 ex3 => ?_)
  have bx3 := uk_cl v2
  refine g_iconst (v := 4) dX7_canTurn_9 (by decide) ?_
  refine g_icmp_eq (tgt := 37) dX7_canTurn_10 (by decide) (fun c4 => ?_) (fun c4 => ?_)
  · refine g_iconst (v := 0) dX7_canTurn_37 (by decide) ?_
    exact g_iret (ty := .boolean) dX7_canTurn_38 rfl rfl ⟨⟨⟨0, rfl, Or.inl rfl, fun q => absurd rfl q, fun _ => by first | trivial | lia | grind⟩, rfl⟩, ee_p (by subst ex3; subst ex1; exact (if_pos c4).trans (rfl))⟩
  · refine g_aload_n dX7_canTurn_13 rfl ?_
    refine f_X7_13 rfl rfl dX7_canTurn_14 ?_
    refine g_bipush (v := 32) dX7_canTurn_17 (by decide) ?_
    refine g_iload_n dX7_canTurn_19 rfl ?_
    refine g_iadd dX7_canTurn_20 ?_
    refine g_topi (fun x5 ex5 => ?_)
    have v6 : vp_in x5 51 := uk_vin 51 rfl (by first | decide | lia | grind) (by first | decide | lia | grind)
    refine g_iald rfl rfl v6 dX7_canTurn_21 ?_
    refine g_topi (fun x7 ex7 => ?_)
    have bx7 := uk_cl v6
    refine g_iconst (v := 2) dX7_canTurn_22 (by decide) ?_
    refine g_icmp_eq (tgt := 37) dX7_canTurn_23 (by decide) (fun c8 => ?_) (fun c8 => ?_)
    · refine g_iconst (v := 0) dX7_canTurn_37 (by decide) ?_
      exact g_iret (ty := .boolean) dX7_canTurn_38 rfl rfl ⟨⟨⟨0, rfl, Or.inl rfl, fun q => absurd rfl q, fun _ => by first | trivial | lia | grind⟩, rfl⟩, ee_p (by subst ex7; subst ex5; subst ex3; subst ex1; exact (if_neg c4).trans ((if_pos c8).trans (rfl)))⟩
    · refine g_aload_n dX7_canTurn_26 rfl ?_
      refine f_X7_13 rfl rfl dX7_canTurn_27 ?_
      refine g_iconst (v := 0) dX7_canTurn_30 (by decide) ?_
      refine g_iload_n dX7_canTurn_31 rfl ?_
      refine g_iadd dX7_canTurn_32 ?_
      refine g_topi (fun x9 ex9 => ?_)
      have ox9 : x9 = m := by rw [ex9, Int32.zero_add]
      have v10 : vp_in x9 51 := uk_vin 51 rfl (by first | decide | lia | grind) (by first | decide | lia | grind)
      refine g_iald rfl rfl v10 dX7_canTurn_33 ?_
      refine g_topi (fun x11 ex11 => ?_)
      have bx11 := uk_cl v10
      have rx11 : 0 ≤ x11 ∧ x11 ≤ 40 := by rw [ex11]; exact sg_0 hu (by unfold uk_is51; decide) (by first | lia | grind) (by first | lia | grind)
      refine g_if_ne (tgt := 39) dX7_canTurn_34 (by decide) (fun c12 => ?_) (fun c12 => ?_)
      · refine g_aload_n dX7_canTurn_39 rfl ?_
        refine f_X7_20 rfl rfl dX7_canTurn_40 ?_
        refine g_iload_n dX7_canTurn_43 rfl ?_
        have v13 : vp_in m 8 := uk_vin 8 rfl (by first | decide | lia | grind) (by first | decide | lia | grind)
        refine g_iald rfl rfl v13 dX7_canTurn_44 ?_
        refine g_topi (fun x14 ex14 => ?_)
        have bx14 := uk_cl v13
        have rx14 : (-4) ≤ x14 ∧ x14 ≤ 7 := by rw [ex14]; exact iv_at hu _ _ (uk_pick1 _ (by omega))
        have hp := hk.resolve_left (by grind)
        refine g_istore_n dX7_canTurn_45 (by decide) ?_
        refine g_pick (lv' := [(0, .ref (uk_ad G 60)), (1, .int m), (2, .int x14)]) [0, 1, 2] rfl ?_
        refine g_aload_n dX7_canTurn_46 rfl ?_
        refine f_X7_23 rfl rfl dX7_canTurn_47 ?_
        refine g_iload_n dX7_canTurn_50 rfl ?_
        have v15 : vp_in m 8 := uk_vin 8 rfl (by first | decide | lia | grind) (by first | decide | lia | grind)
        refine g_iald rfl rfl v15 dX7_canTurn_51 ?_
        refine g_topi (fun x16 ex16 => ?_)
        have bx16 := uk_cl v15
        have rx16 : (-4) ≤ x16 ∧ x16 ≤ 7 := by rw [ex16]; exact iv_at hu _ _ (uk_pick1 _ (by omega))
        refine g_istore_n dX7_canTurn_52 (by decide) ?_
        refine g_pick (lv' := [(0, .ref (uk_ad G 60)), (1, .int m), (2, .int x14), (3, .int x16)]) [0, 1, 2, 3] rfl ?_
        refine g_aload_n dX7_canTurn_53 rfl ?_
        refine g_iload_n dX7_canTurn_54 rfl ?_
        refine cl_X7_153 (c := 60) (As := [.int m]) rfl (x_X7_givesSecond (G := G) hs hu  m (by first | trivial | decide | lia | grind) (by first | trivial | decide | lia | grind) (d)) rfl (by omega) rfl rfl (Nat.le_of_ble_eq_true rfl) dX7_canTurn_55 (fun r17 u18 q19 => ?_)
        obtain ⟨q19, Eq19⟩ := q19
        obtain ⟨⟨x20, rfl, tx20, nx20, zx20⟩, mq19⟩ := q19
        rw [mq19]
        have ex20 : x20 = (e_X7_givesSecond u m) := ee_v Eq19
        refine g_if_eq (tgt := 70) dX7_canTurn_58 (by decide) (fun c21 => ?_) (fun c21 => ?_)
        · have zc21 := zx20 c21
          refine g_iconst (v := 1) dX7_canTurn_70 (by decide) ?_
          refine g_istore dX7_canTurn_71 (by decide) ?_
          refine g_pick (lv' := [(0, .ref (uk_ad G 60)), (1, .int m), (2, .int x14), (3, .int x16), (4, .int 1)]) [0, 1, 2, 3, 4] rfl ?_
          refine g_aload_n dX7_canTurn_73 rfl ?_
          refine f_X7_13 rfl rfl dX7_canTurn_74 ?_
          refine g_iconst (v := 0) dX7_canTurn_77 (by decide) ?_
          refine g_iload_n dX7_canTurn_78 rfl ?_
          refine g_iadd dX7_canTurn_79 ?_
          refine g_topi (fun x22 ex22 => ?_)
          have ox22 : x22 = x14 := by rw [ex22, Int32.zero_add]
          have v23 : vp_in x22 51 := uk_vin 51 rfl (by first | decide | lia | grind) (by first | decide | lia | grind)
          refine g_iald rfl rfl v23 dX7_canTurn_80 ?_
          refine g_topi (fun x24 ex24 => ?_)
          have bx24 := uk_cl v23
          have rx24 : 0 ≤ x24 ∧ x24 ≤ 40 := by rw [ex24]; exact sg_0 hu (by unfold uk_is51; decide) (by first | lia | grind) (by first | lia | grind)
          refine g_iload dX7_canTurn_81 rfl ?_
          refine g_iadd dX7_canTurn_83 ?_
          refine g_topi (fun x25 ex25 => ?_)
          refine g_bipush (v := 40) dX7_canTurn_84 (by decide) ?_
          refine g_icmp_gt (tgt := 119) dX7_canTurn_86 (by decide) (fun c26 => ?_) (fun c26 => ?_)
          · refine g_iconst (v := 0) dX7_canTurn_119 (by decide) ?_
            exact g_iret (ty := .boolean) dX7_canTurn_120 rfl rfl ⟨⟨⟨0, rfl, Or.inl rfl, fun q => absurd rfl q, fun _ => by first | trivial | lia | grind⟩, rfl⟩, ee_p (by subst ex25; subst ex24; subst ex22; subst ex20; subst ex16; subst ex14; subst ex11; subst ex9; subst ex7; subst ex5; subst ex3; subst ex1; exact (if_neg c4).trans ((if_neg c8).trans ((if_neg c12).trans ((if_pos c21).trans ((if_pos c26).trans (rfl))))))⟩
          · refine g_aload_n dX7_canTurn_89 rfl ?_
            refine g_iload_n dX7_canTurn_90 rfl ?_
            refine cl_X7_153 (c := 60) (As := [.int m]) rfl (x_X7_givesSecond (G := G) hs hu  m (by first | trivial | decide | lia | grind) (by first | trivial | decide | lia | grind) (d)) rfl (by omega) rfl rfl (Nat.le_of_ble_eq_true rfl) dX7_canTurn_91 (fun r27 u28 q29 => ?_)
            obtain ⟨q29, Eq29⟩ := q29
            obtain ⟨⟨x30, rfl, tx30, nx30, zx30⟩, mq29⟩ := q29
            rw [mq29]
            have ex30 : x30 = (e_X7_givesSecond u m) := ee_v Eq29
            refine g_if_eq (tgt := 115) dX7_canTurn_94 (by decide) (fun c31 => ?_) (fun c31 => ?_)
            · have zc31 := zx30 c31
              refine g_iconst (v := 1) dX7_canTurn_115 (by decide) ?_
              refine g_goto (tgt := 120) dX7_canTurn_116 (by decide) ?_
              exact g_iret (ty := .boolean) dX7_canTurn_120 rfl rfl ⟨⟨⟨1, rfl, Or.inr rfl, fun _ => ⟨hp.1, hp.2.1, hp.2.2.1, hp.2.2.2, by grind, by grind, fun q q2 => by grind, fun q q2 => by grind⟩, fun q => absurd q (by decide)⟩, rfl⟩, ee_p (by subst ex30; subst ex25; subst ex24; subst ex22; subst ex20; subst ex16; subst ex14; subst ex11; subst ex9; subst ex7; subst ex5; subst ex3; subst ex1; exact (if_neg c4).trans ((if_neg c8).trans ((if_neg c12).trans ((if_pos c21).trans ((if_neg c26).trans ((if_pos c31).trans (rfl)))))))⟩
            · have zc31 := nx30 c31
              refine g_iload_n dX7_canTurn_97 rfl ?_
              refine g_iload_n dX7_canTurn_98 rfl ?_
              refine g_icmp_eq (tgt := 115) dX7_canTurn_99 (by decide) (fun c32 => ?_) (fun c32 => ?_)
              · refine g_iconst (v := 1) dX7_canTurn_115 (by decide) ?_
                refine g_goto (tgt := 120) dX7_canTurn_116 (by decide) ?_
                exact g_iret (ty := .boolean) dX7_canTurn_120 rfl rfl ⟨⟨⟨1, rfl, Or.inr rfl, fun _ => ⟨hp.1, hp.2.1, hp.2.2.1, hp.2.2.2, by grind, by grind, fun q q2 => by grind, fun q q2 => by grind⟩, fun q => absurd q (by decide)⟩, rfl⟩, ee_p (by subst ex30; subst ex25; subst ex24; subst ex22; subst ex20; subst ex16; subst ex14; subst ex11; subst ex9; subst ex7; subst ex5; subst ex3; subst ex1; exact (if_neg c4).trans ((if_neg c8).trans ((if_neg c12).trans ((if_pos c21).trans ((if_neg c26).trans ((if_neg c31).trans ((if_pos c32).trans (rfl))))))))⟩
              · refine g_aload_n dX7_canTurn_102 rfl ?_
                refine f_X7_13 rfl rfl dX7_canTurn_103 ?_
                refine g_iconst (v := 0) dX7_canTurn_106 (by decide) ?_
                refine g_iload_n dX7_canTurn_107 rfl ?_
                refine g_iadd dX7_canTurn_108 ?_
                refine g_topi (fun x33 ex33 => ?_)
                have ox33 : x33 = x16 := by rw [ex33, Int32.zero_add]
                have v34 : vp_in x33 51 := uk_vin 51 rfl (by first | decide | lia | grind) (by first | decide | lia | grind)
                refine g_iald rfl rfl v34 dX7_canTurn_109 ?_
                refine g_topi (fun x35 ex35 => ?_)
                have bx35 := uk_cl v34
                have rx35 : 0 ≤ x35 ∧ x35 ≤ 40 := by rw [ex35]; exact sg_0 hu (by unfold uk_is51; decide) (by first | lia | grind) (by first | lia | grind)
                refine g_bipush (v := 40) dX7_canTurn_110 (by decide) ?_
                refine g_icmp_ge (tgt := 119) dX7_canTurn_112 (by decide) (fun c36 => ?_) (fun c36 => ?_)
                · refine g_iconst (v := 0) dX7_canTurn_119 (by decide) ?_
                  exact g_iret (ty := .boolean) dX7_canTurn_120 rfl rfl ⟨⟨⟨0, rfl, Or.inl rfl, fun q => absurd rfl q, fun _ => by first | trivial | lia | grind⟩, rfl⟩, ee_p (by subst ex35; subst ex33; subst ex30; subst ex25; subst ex24; subst ex22; subst ex20; subst ex16; subst ex14; subst ex11; subst ex9; subst ex7; subst ex5; subst ex3; subst ex1; exact (if_neg c4).trans ((if_neg c8).trans ((if_neg c12).trans ((if_pos c21).trans ((if_neg c26).trans ((if_neg c31).trans ((if_neg c32).trans ((if_pos c36).trans (rfl)))))))))⟩
                · refine g_iconst (v := 1) dX7_canTurn_115 (by decide) ?_
                  refine g_goto (tgt := 120) dX7_canTurn_116 (by decide) ?_
                  exact g_iret (ty := .boolean) dX7_canTurn_120 rfl rfl ⟨⟨⟨1, rfl, Or.inr rfl, fun _ => ⟨hp.1, hp.2.1, hp.2.2.1, hp.2.2.2, by grind, by grind, fun q q2 => by grind, fun q q2 => by grind⟩, fun q => absurd q (by decide)⟩, rfl⟩, ee_p (by subst ex35; subst ex33; subst ex30; subst ex25; subst ex24; subst ex22; subst ex20; subst ex16; subst ex14; subst ex11; subst ex9; subst ex7; subst ex5; subst ex3; subst ex1; exact (if_neg c4).trans ((if_neg c8).trans ((if_neg c12).trans ((if_pos c21).trans ((if_neg c26).trans ((if_neg c31).trans ((if_neg c32).trans ((if_neg c36).trans (rfl)))))))))⟩
        · have zc21 := nx20 c21
          refine g_iload_n dX7_canTurn_61 rfl ?_
          refine g_iload_n dX7_canTurn_62 rfl ?_
          refine g_icmp_ne (tgt := 70) dX7_canTurn_63 (by decide) (fun c37 => ?_) (fun c37 => ?_)
          · refine g_iconst (v := 1) dX7_canTurn_70 (by decide) ?_
            refine g_istore dX7_canTurn_71 (by decide) ?_
            refine g_pick (lv' := [(0, .ref (uk_ad G 60)), (1, .int m), (2, .int x14), (3, .int x16), (4, .int 1)]) [0, 1, 2, 3, 4] rfl ?_
            refine g_aload_n dX7_canTurn_73 rfl ?_
            refine f_X7_13 rfl rfl dX7_canTurn_74 ?_
            refine g_iconst (v := 0) dX7_canTurn_77 (by decide) ?_
            refine g_iload_n dX7_canTurn_78 rfl ?_
            refine g_iadd dX7_canTurn_79 ?_
            refine g_topi (fun x38 ex38 => ?_)
            have ox38 : x38 = x14 := by rw [ex38, Int32.zero_add]
            have v39 : vp_in x38 51 := uk_vin 51 rfl (by first | decide | lia | grind) (by first | decide | lia | grind)
            refine g_iald rfl rfl v39 dX7_canTurn_80 ?_
            refine g_topi (fun x40 ex40 => ?_)
            have bx40 := uk_cl v39
            have rx40 : 0 ≤ x40 ∧ x40 ≤ 40 := by rw [ex40]; exact sg_0 hu (by unfold uk_is51; decide) (by first | lia | grind) (by first | lia | grind)
            refine g_iload dX7_canTurn_81 rfl ?_
            refine g_iadd dX7_canTurn_83 ?_
            refine g_topi (fun x41 ex41 => ?_)
            refine g_bipush (v := 40) dX7_canTurn_84 (by decide) ?_
            refine g_icmp_gt (tgt := 119) dX7_canTurn_86 (by decide) (fun c42 => ?_) (fun c42 => ?_)
            · refine g_iconst (v := 0) dX7_canTurn_119 (by decide) ?_
              exact g_iret (ty := .boolean) dX7_canTurn_120 rfl rfl ⟨⟨⟨0, rfl, Or.inl rfl, fun q => absurd rfl q, fun _ => by first | trivial | lia | grind⟩, rfl⟩, ee_p (by subst ex41; subst ex40; subst ex38; subst ex20; subst ex16; subst ex14; subst ex11; subst ex9; subst ex7; subst ex5; subst ex3; subst ex1; exact (if_neg c4).trans ((if_neg c8).trans ((if_neg c12).trans ((if_neg c21).trans ((if_neg c37).trans ((if_pos c42).trans (rfl)))))))⟩
            · refine g_aload_n dX7_canTurn_89 rfl ?_
              refine g_iload_n dX7_canTurn_90 rfl ?_
              refine cl_X7_153 (c := 60) (As := [.int m]) rfl (x_X7_givesSecond (G := G) hs hu  m (by first | trivial | decide | lia | grind) (by first | trivial | decide | lia | grind) (d)) rfl (by omega) rfl rfl (Nat.le_of_ble_eq_true rfl) dX7_canTurn_91 (fun r43 u44 q45 => ?_)
              obtain ⟨q45, Eq45⟩ := q45
              obtain ⟨⟨x46, rfl, tx46, nx46, zx46⟩, mq45⟩ := q45
              rw [mq45]
              have ex46 : x46 = (e_X7_givesSecond u m) := ee_v Eq45
              refine g_if_eq (tgt := 115) dX7_canTurn_94 (by decide) (fun c47 => ?_) (fun c47 => ?_)
              · have zc47 := zx46 c47
                refine g_iconst (v := 1) dX7_canTurn_115 (by decide) ?_
                refine g_goto (tgt := 120) dX7_canTurn_116 (by decide) ?_
                exact g_iret (ty := .boolean) dX7_canTurn_120 rfl rfl ⟨⟨⟨1, rfl, Or.inr rfl, fun _ => ⟨hp.1, hp.2.1, hp.2.2.1, hp.2.2.2, by grind, by grind, fun q q2 => by grind, fun q q2 => by grind⟩, fun q => absurd q (by decide)⟩, rfl⟩, ee_p (by subst ex46; subst ex41; subst ex40; subst ex38; subst ex20; subst ex16; subst ex14; subst ex11; subst ex9; subst ex7; subst ex5; subst ex3; subst ex1; exact (if_neg c4).trans ((if_neg c8).trans ((if_neg c12).trans ((if_neg c21).trans ((if_neg c37).trans ((if_neg c42).trans ((if_pos c47).trans (rfl))))))))⟩
              · have zc47 := nx46 c47
                refine g_iload_n dX7_canTurn_97 rfl ?_
                refine g_iload_n dX7_canTurn_98 rfl ?_
                refine g_icmp_eq (tgt := 115) dX7_canTurn_99 (by decide) (fun c48 => ?_) (fun c48 => ?_)
                · refine g_iconst (v := 1) dX7_canTurn_115 (by decide) ?_
                  refine g_goto (tgt := 120) dX7_canTurn_116 (by decide) ?_
                  exact g_iret (ty := .boolean) dX7_canTurn_120 rfl rfl ⟨⟨⟨1, rfl, Or.inr rfl, fun _ => ⟨hp.1, hp.2.1, hp.2.2.1, hp.2.2.2, by grind, by grind, fun q q2 => by grind, fun q q2 => by grind⟩, fun q => absurd q (by decide)⟩, rfl⟩, ee_p (by subst ex46; subst ex41; subst ex40; subst ex38; subst ex20; subst ex16; subst ex14; subst ex11; subst ex9; subst ex7; subst ex5; subst ex3; subst ex1; exact (if_neg c4).trans ((if_neg c8).trans ((if_neg c12).trans ((if_neg c21).trans ((if_neg c37).trans ((if_neg c42).trans ((if_neg c47).trans ((if_pos c48).trans (rfl)))))))))⟩
                · refine g_aload_n dX7_canTurn_102 rfl ?_
                  refine f_X7_13 rfl rfl dX7_canTurn_103 ?_
                  refine g_iconst (v := 0) dX7_canTurn_106 (by decide) ?_
                  refine g_iload_n dX7_canTurn_107 rfl ?_
                  refine g_iadd dX7_canTurn_108 ?_
                  refine g_topi (fun x49 ex49 => ?_)
                  have ox49 : x49 = x16 := by rw [ex49, Int32.zero_add]
                  have v50 : vp_in x49 51 := uk_vin 51 rfl (by first | decide | lia | grind) (by first | decide | lia | grind)
                  refine g_iald rfl rfl v50 dX7_canTurn_109 ?_
                  refine g_topi (fun x51 ex51 => ?_)
                  have bx51 := uk_cl v50
                  have rx51 : 0 ≤ x51 ∧ x51 ≤ 40 := by rw [ex51]; exact sg_0 hu (by unfold uk_is51; decide) (by first | lia | grind) (by first | lia | grind)
                  refine g_bipush (v := 40) dX7_canTurn_110 (by decide) ?_
                  refine g_icmp_ge (tgt := 119) dX7_canTurn_112 (by decide) (fun c52 => ?_) (fun c52 => ?_)
                  · refine g_iconst (v := 0) dX7_canTurn_119 (by decide) ?_
                    exact g_iret (ty := .boolean) dX7_canTurn_120 rfl rfl ⟨⟨⟨0, rfl, Or.inl rfl, fun q => absurd rfl q, fun _ => by first | trivial | lia | grind⟩, rfl⟩, ee_p (by subst ex51; subst ex49; subst ex46; subst ex41; subst ex40; subst ex38; subst ex20; subst ex16; subst ex14; subst ex11; subst ex9; subst ex7; subst ex5; subst ex3; subst ex1; exact (if_neg c4).trans ((if_neg c8).trans ((if_neg c12).trans ((if_neg c21).trans ((if_neg c37).trans ((if_neg c42).trans ((if_neg c47).trans ((if_neg c48).trans ((if_pos c52).trans (rfl))))))))))⟩
                  · refine g_iconst (v := 1) dX7_canTurn_115 (by decide) ?_
                    refine g_goto (tgt := 120) dX7_canTurn_116 (by decide) ?_
                    exact g_iret (ty := .boolean) dX7_canTurn_120 rfl rfl ⟨⟨⟨1, rfl, Or.inr rfl, fun _ => ⟨hp.1, hp.2.1, hp.2.2.1, hp.2.2.2, by grind, by grind, fun q q2 => by grind, fun q q2 => by grind⟩, fun q => absurd q (by decide)⟩, rfl⟩, ee_p (by subst ex51; subst ex49; subst ex46; subst ex41; subst ex40; subst ex38; subst ex20; subst ex16; subst ex14; subst ex11; subst ex9; subst ex7; subst ex5; subst ex3; subst ex1; exact (if_neg c4).trans ((if_neg c8).trans ((if_neg c12).trans ((if_neg c21).trans ((if_neg c37).trans ((if_neg c42).trans ((if_neg c47).trans ((if_neg c48).trans ((if_neg c52).trans (rfl))))))))))⟩
          · refine g_iconst (v := 2) dX7_canTurn_66 (by decide) ?_
            refine g_goto (tgt := 71) dX7_canTurn_67 (by decide) ?_
            refine g_istore dX7_canTurn_71 (by decide) ?_
            refine g_pick (lv' := [(0, .ref (uk_ad G 60)), (1, .int m), (2, .int x14), (3, .int x16), (4, .int 2)]) [0, 1, 2, 3, 4] rfl ?_
            refine g_aload_n dX7_canTurn_73 rfl ?_
            refine f_X7_13 rfl rfl dX7_canTurn_74 ?_
            refine g_iconst (v := 0) dX7_canTurn_77 (by decide) ?_
            refine g_iload_n dX7_canTurn_78 rfl ?_
            refine g_iadd dX7_canTurn_79 ?_
            refine g_topi (fun x53 ex53 => ?_)
            have ox53 : x53 = x14 := by rw [ex53, Int32.zero_add]
            have v54 : vp_in x53 51 := uk_vin 51 rfl (by first | decide | lia | grind) (by first | decide | lia | grind)
            refine g_iald rfl rfl v54 dX7_canTurn_80 ?_
            refine g_topi (fun x55 ex55 => ?_)
            have bx55 := uk_cl v54
            have rx55 : 0 ≤ x55 ∧ x55 ≤ 40 := by rw [ex55]; exact sg_0 hu (by unfold uk_is51; decide) (by first | lia | grind) (by first | lia | grind)
            refine g_iload dX7_canTurn_81 rfl ?_
            refine g_iadd dX7_canTurn_83 ?_
            refine g_topi (fun x56 ex56 => ?_)
            refine g_bipush (v := 40) dX7_canTurn_84 (by decide) ?_
            refine g_icmp_gt (tgt := 119) dX7_canTurn_86 (by decide) (fun c57 => ?_) (fun c57 => ?_)
            · refine g_iconst (v := 0) dX7_canTurn_119 (by decide) ?_
              exact g_iret (ty := .boolean) dX7_canTurn_120 rfl rfl ⟨⟨⟨0, rfl, Or.inl rfl, fun q => absurd rfl q, fun _ => by first | trivial | lia | grind⟩, rfl⟩, ee_p (by subst ex56; subst ex55; subst ex53; subst ex20; subst ex16; subst ex14; subst ex11; subst ex9; subst ex7; subst ex5; subst ex3; subst ex1; exact (if_neg c4).trans ((if_neg c8).trans ((if_neg c12).trans ((if_neg c21).trans ((if_pos c37).trans ((if_pos c57).trans (rfl)))))))⟩
            · refine g_aload_n dX7_canTurn_89 rfl ?_
              refine g_iload_n dX7_canTurn_90 rfl ?_
              refine cl_X7_153 (c := 60) (As := [.int m]) rfl (x_X7_givesSecond (G := G) hs hu  m (by first | trivial | decide | lia | grind) (by first | trivial | decide | lia | grind) (d)) rfl (by omega) rfl rfl (Nat.le_of_ble_eq_true rfl) dX7_canTurn_91 (fun r58 u59 q60 => ?_)
              obtain ⟨q60, Eq60⟩ := q60
              obtain ⟨⟨x61, rfl, tx61, nx61, zx61⟩, mq60⟩ := q60
              rw [mq60]
              have ex61 : x61 = (e_X7_givesSecond u m) := ee_v Eq60
              refine g_if_eq (tgt := 115) dX7_canTurn_94 (by decide) (fun c62 => ?_) (fun c62 => ?_)
              · have zc62 := zx61 c62
                refine g_iconst (v := 1) dX7_canTurn_115 (by decide) ?_
                refine g_goto (tgt := 120) dX7_canTurn_116 (by decide) ?_
                exact g_iret (ty := .boolean) dX7_canTurn_120 rfl rfl ⟨⟨⟨1, rfl, Or.inr rfl, fun _ => ⟨hp.1, hp.2.1, hp.2.2.1, hp.2.2.2, by grind, by grind, fun q q2 => by grind, fun q q2 => by grind⟩, fun q => absurd q (by decide)⟩, rfl⟩, ee_p (by subst ex61; subst ex56; subst ex55; subst ex53; subst ex20; subst ex16; subst ex14; subst ex11; subst ex9; subst ex7; subst ex5; subst ex3; subst ex1; exact (if_neg c4).trans ((if_neg c8).trans ((if_neg c12).trans ((if_neg c21).trans ((if_pos c37).trans ((if_neg c57).trans ((if_pos c62).trans (rfl))))))))⟩
              · have zc62 := nx61 c62
                refine g_iload_n dX7_canTurn_97 rfl ?_
                refine g_iload_n dX7_canTurn_98 rfl ?_
                refine g_icmp_eq (tgt := 115) dX7_canTurn_99 (by decide) (fun c63 => ?_) (fun c63 => ?_)
                · refine g_iconst (v := 1) dX7_canTurn_115 (by decide) ?_
                  refine g_goto (tgt := 120) dX7_canTurn_116 (by decide) ?_
                  exact g_iret (ty := .boolean) dX7_canTurn_120 rfl rfl ⟨⟨⟨1, rfl, Or.inr rfl, fun _ => ⟨hp.1, hp.2.1, hp.2.2.1, hp.2.2.2, by grind, by grind, fun q q2 => by grind, fun q q2 => by grind⟩, fun q => absurd q (by decide)⟩, rfl⟩, ee_p (by subst ex61; subst ex56; subst ex55; subst ex53; subst ex20; subst ex16; subst ex14; subst ex11; subst ex9; subst ex7; subst ex5; subst ex3; subst ex1; exact (if_neg c4).trans ((if_neg c8).trans ((if_neg c12).trans ((if_neg c21).trans ((if_pos c37).trans ((if_neg c57).trans ((if_neg c62).trans ((if_pos c63).trans (rfl)))))))))⟩
                · refine g_aload_n dX7_canTurn_102 rfl ?_
                  refine f_X7_13 rfl rfl dX7_canTurn_103 ?_
                  refine g_iconst (v := 0) dX7_canTurn_106 (by decide) ?_
                  refine g_iload_n dX7_canTurn_107 rfl ?_
                  refine g_iadd dX7_canTurn_108 ?_
                  refine g_topi (fun x64 ex64 => ?_)
                  have ox64 : x64 = x16 := by rw [ex64, Int32.zero_add]
                  have v65 : vp_in x64 51 := uk_vin 51 rfl (by first | decide | lia | grind) (by first | decide | lia | grind)
                  refine g_iald rfl rfl v65 dX7_canTurn_109 ?_
                  refine g_topi (fun x66 ex66 => ?_)
                  have bx66 := uk_cl v65
                  have rx66 : 0 ≤ x66 ∧ x66 ≤ 40 := by rw [ex66]; exact sg_0 hu (by unfold uk_is51; decide) (by first | lia | grind) (by first | lia | grind)
                  refine g_bipush (v := 40) dX7_canTurn_110 (by decide) ?_
                  refine g_icmp_ge (tgt := 119) dX7_canTurn_112 (by decide) (fun c67 => ?_) (fun c67 => ?_)
                  · refine g_iconst (v := 0) dX7_canTurn_119 (by decide) ?_
                    exact g_iret (ty := .boolean) dX7_canTurn_120 rfl rfl ⟨⟨⟨0, rfl, Or.inl rfl, fun q => absurd rfl q, fun _ => by first | trivial | lia | grind⟩, rfl⟩, ee_p (by subst ex66; subst ex64; subst ex61; subst ex56; subst ex55; subst ex53; subst ex20; subst ex16; subst ex14; subst ex11; subst ex9; subst ex7; subst ex5; subst ex3; subst ex1; exact (if_neg c4).trans ((if_neg c8).trans ((if_neg c12).trans ((if_neg c21).trans ((if_pos c37).trans ((if_neg c57).trans ((if_neg c62).trans ((if_neg c63).trans ((if_pos c67).trans (rfl))))))))))⟩
                  · refine g_iconst (v := 1) dX7_canTurn_115 (by decide) ?_
                    refine g_goto (tgt := 120) dX7_canTurn_116 (by decide) ?_
                    exact g_iret (ty := .boolean) dX7_canTurn_120 rfl rfl ⟨⟨⟨1, rfl, Or.inr rfl, fun _ => ⟨hp.1, hp.2.1, hp.2.2.1, hp.2.2.2, by grind, by grind, fun q q2 => by grind, fun q q2 => by grind⟩, fun q => absurd q (by decide)⟩, rfl⟩, ee_p (by subst ex66; subst ex64; subst ex61; subst ex56; subst ex55; subst ex53; subst ex20; subst ex16; subst ex14; subst ex11; subst ex9; subst ex7; subst ex5; subst ex3; subst ex1; exact (if_neg c4).trans ((if_neg c8).trans ((if_neg c12).trans ((if_neg c21).trans ((if_pos c37).trans ((if_neg c57).trans ((if_neg c62).trans ((if_neg c63).trans ((if_neg c67).trans (rfl))))))))))⟩
      · refine g_iconst (v := 0) dX7_canTurn_37 (by decide) ?_
        exact g_iret (ty := .boolean) dX7_canTurn_38 rfl rfl ⟨⟨⟨0, rfl, Or.inl rfl, fun q => absurd rfl q, fun _ => by first | trivial | lia | grind⟩, rfl⟩, ee_p (by subst ex11; subst ex9; subst ex7; subst ex5; subst ex3; subst ex1; exact (if_neg c4).trans ((if_neg c8).trans ((if_pos c12).trans (rfl))))⟩
def e_X7_canDo (u : uk_Mem) (g : Int32) : Int32 := if (10 : Int32) ≤ g then (let x2 : Int32 := g - (10 : Int32); let x6 : Int32 := (e_X7_canTurn u x2); x6) else (let x10 : Int32 := (e_X7_canCook u g); x10)
abbrev qe_X7_canDo (u : uk_Mem) (g : Int32) (r : Option Value) (u' : uk_Mem) : Prop := (q_X7_canDo u g r u') ∧ (r = some (.int (e_X7_canDo u g)))
set_option maxHeartbeats 4000000 in
set_option maxRecDepth 20000 in
theorem x_X7_canDo {G : uk_D} (hs : uk_Sep G) {u : uk_Mem} (hu : iv u) (hra : ra u) (g : Int32) (p0 : ((0 ≤ g ∧ g ≤ 7 ∧ g < u.1 60 3) ∨ (10 ≤ g ∧ g ≤ 17 ∧ g - 10 < u.1 60 3))) (d : Nat) : uk_Meth G (d + 2) mX7_canDo [.ref (uk_ad G 60), .int g] u (qe_X7_canDo u g) := by
  refine uk_Meth.of hs (by decide) (Nat.le_of_ble_eq_true rfl) (fun X => ?_)
  refine g_iload_n dX7_canDo_0 rfl ?_
  refine g_bipush (v := 10) dX7_canDo_1 (by decide) ?_
  refine g_icmp_ge (tgt := 14) dX7_canDo_3 (by decide) (fun c1 => ?_) (fun c1 => ?_)
  · refine g_aload_n dX7_canDo_14 rfl ?_
    refine g_iload_n dX7_canDo_15 rfl ?_
    refine g_bipush (v := 10) dX7_canDo_16 (by decide) ?_
    refine g_isub dX7_canDo_18 ?_
    refine g_topi (fun x2 ex2 => ?_)
    refine cl_X7_160 (c := 60) (As := [.int x2]) rfl (x_X7_canTurn (G := G) hs hu hra  x2 (by first | trivial | decide | lia | grind) (by first | trivial | decide | lia | grind) (by first | trivial | decide | lia | grind) (d)) rfl (by omega) rfl rfl (Nat.le_of_ble_eq_true rfl) dX7_canDo_19 (fun r3 u4 q5 => ?_)
    obtain ⟨q5, Eq5⟩ := q5
    obtain ⟨⟨x6, rfl, tx6, nx6, zx6⟩, mq5⟩ := q5
    rw [mq5]
    have ex6 : x6 = (e_X7_canTurn u x2) := ee_v Eq5
    exact g_iret (ty := .boolean) dX7_canDo_22 rfl (uk_nb tx6) ⟨⟨⟨_, rfl, tx6, fun q => by first | trivial | (have := nx6 q; first | exact this | grind), fun q => by first | trivial | (have := zx6 q; first | exact this | grind)⟩, rfl⟩, ee_p (by subst ex6; subst ex2; exact (if_pos c1).trans (rfl))⟩
  · refine g_aload_n dX7_canDo_6 rfl ?_
    refine g_iload_n dX7_canDo_7 rfl ?_
    refine cl_X7_157 (c := 60) (As := [.int g]) rfl (x_X7_canCook (G := G) hs hu hra  g (by first | trivial | decide | lia | grind) (by first | trivial | decide | lia | grind) (by first | trivial | decide | lia | grind) (d + 1)) rfl (by omega) rfl rfl (Nat.le_of_ble_eq_true rfl) dX7_canDo_8 (fun r7 u8 q9 => ?_)
    obtain ⟨q9, Eq9⟩ := q9
    obtain ⟨⟨x10, rfl, tx10, nx10, zx10⟩, mq9⟩ := q9
    rw [mq9]
    have ex10 : x10 = (e_X7_canCook u g) := ee_v Eq9
    refine g_goto (tgt := 22) dX7_canDo_11 (by decide) ?_
    exact g_iret (ty := .boolean) dX7_canDo_22 rfl (uk_nb tx10) ⟨⟨⟨_, rfl, tx10, fun q => by first | trivial | (have := nx10 q; first | exact this | grind), fun q => by first | trivial | (have := zx10 q; first | exact this | grind)⟩, rfl⟩, ee_p (by subst ex10; exact (if_neg c1).trans (rfl))⟩
def e_X7_doIt_a (u : uk_Mem) (g : Int32) : uk_Mem := let x1 : Int32 := g - g / (10 : Int32) * (10 : Int32); let x4 : Int32 := (0 : Int32) + x1; let x6 : Int32 := u.1 62 x4.toNatClampNeg; let x7 : Int32 := x6 - (-1 : Int32); let u10 : uk_Mem := uk_up u 62 x4.toNatClampNeg x7; let x15 : Int32 := u10.1 64 x1.toNatClampNeg; let x16 : Int32 := (0 : Int32) + x15; let x18 : Int32 := u10.1 62 x16.toNatClampNeg; let x19 : Int32 := x18 + (-1 : Int32); let u22 : uk_Mem := uk_up u10 62 x16.toNatClampNeg x19; let x27 : Int32 := u22.1 65 x1.toNatClampNeg; let x28 : Int32 := (0 : Int32) + x27; let x30 : Int32 := u22.1 62 x28.toNatClampNeg; let x32 : Int32 := x30 + (-1 : Int32); let u35 : uk_Mem := uk_up u22 62 x28.toNatClampNeg x32; let x39 : Int32 := (8 : Int32) + x1; let x41 : Int32 := (8 : Int32) + x1; let x43 : Int32 := u35.1 62 x41.toNatClampNeg; let u46 : uk_Mem := uk_up u35 62 x39.toNatClampNeg x43; let x51 : Int32 := u46.1 62 (41 : Int32).toNatClampNeg; let x52 : Int32 := x51 + (1 : Int32); let u55 : uk_Mem := uk_up u46 62 (41 : Int32).toNatClampNeg x52; u55
abbrev qe_X7_doIt_a (u : uk_Mem) (g : Int32) (r : Option Value) (u' : uk_Mem) : Prop := (q_X7_doIt_a u g r u') ∧ (u' = e_X7_doIt_a u g)
set_option maxHeartbeats 4000000 in
set_option maxRecDepth 20000 in
theorem x_X7_doIt_a {G : uk_D} (hs : uk_Sep G) {u : uk_Mem} (hu : iv u) (hra : ra u) (g : Int32) (p0 : 0 ≤ g) (p1 : g ≤ 7) (p2 : 0 ≤ (u.1 64 (g).toNatClampNeg)) (p3 : (u.1 64 (g).toNatClampNeg) < g) (p4 : 0 ≤ (u.1 65 (g).toNatClampNeg)) (p5 : (u.1 65 (g).toNatClampNeg) < g) (p6 : u.1 62 (g).toNatClampNeg < 40) (p7 : ((u.1 64 (g).toNatClampNeg) = (u.1 65 (g).toNatClampNeg) → 2 ≤ u.1 62 (u.1 64 (g).toNatClampNeg).toNatClampNeg)) (p8 : (¬ (u.1 64 (g).toNatClampNeg) = (u.1 65 (g).toNatClampNeg) → 1 ≤ u.1 62 (u.1 64 (g).toNatClampNeg).toNatClampNeg ∧ 1 ≤ u.1 62 (u.1 65 (g).toNatClampNeg).toNatClampNeg)) (d : Nat) : uk_Meth G (d + 1) mX7_doIt [.ref (uk_ad G 60), .int g] u (qe_X7_doIt_a u g) := by
  refine uk_Meth.of hs (by decide) (Nat.le_of_ble_eq_true rfl) (fun X => ?_)
  have f0 : fk [62] [] u u := fk_rf
  have C62 : u.1 62 = u.1 62 := rfl
  have C64 : u.1 64 = u.1 64 := rfl
  have C65 : u.1 65 = u.1 65 := rfl
  obtain ⟨pA, hpA⟩ : ∃ a, u.1 64 (g).toNatClampNeg = a := ⟨_, rfl⟩
  obtain ⟨pB, hpB⟩ : ∃ a, u.1 65 (g).toNatClampNeg = a := ⟨_, rfl⟩
  obtain ⟨cA, hcA⟩ : ∃ a, u.1 62 pA.toNatClampNeg = a := ⟨_, rfl⟩
  obtain ⟨cB, hcB⟩ : ∃ a, u.1 62 pB.toNatClampNeg = a := ⟨_, rfl⟩
  obtain ⟨cM, hcM⟩ : ∃ a, u.1 62 (g).toNatClampNeg = a := ⟨_, rfl⟩
  simp only [hpA, hpB, hcA, hcB, hcM] at p2 p3 p4 p5 p6 p7 p8
  have rA := sg_0 hu (c := 62) (by unfold uk_is51; decide) (i := pA) (by lia) (by lia)
  rw [hcA] at rA
  have rB := sg_0 hu (c := 62) (by unfold uk_is51; decide) (i := pB) (by lia) (by lia)
  rw [hcB] at rB
  have rM := sg_0 hu (c := 62) (by unfold uk_is51; decide) (i := g) (by lia) (by lia)
  rw [hcM] at rM
  have hAB : pA = pB → cA = cB := fun q => by rw [← hcA, ← hcB, q]
  have c1 : 1 ≤ cA := by
    by_cases q : pA = pB
    · have := p7 q
      lia
    · exact (p8 q).1
  refine g_iload_n dX7_doIt_0 rfl ?_
  refine g_bipush (v := 10) dX7_doIt_1 (by decide) ?_
  refine g_irem dX7_doIt_3 (by first | decide | lia | grind) ?_
  refine g_topi (fun x1 ex1 => ?_)
  have nx1 : x1 = g := (uk_r10 ex1).1 (by lia) (by lia); replace ex1 : ee_W _ _ := ex1
  refine g_istore_n dX7_doIt_4 (by decide) ?_
  refine g_pick (lv' := [(0, .ref (uk_ad G 60)), (1, .int g), (2, .int x1)]) [0, 1, 2] rfl ?_
  refine g_iload_n dX7_doIt_5 rfl ?_
  refine g_bipush (v := 10) dX7_doIt_6 (by decide) ?_
  refine g_icmp_ge (tgt := 15) dX7_doIt_8 (by decide) (fun c2 => ?_) (fun c2 => ?_)
  · exact absurd c2 (by lia)
  · refine g_iconst (v := (-1)) dX7_doIt_11 (by decide) ?_
    refine g_goto (tgt := 16) dX7_doIt_12 (by decide) ?_
    refine g_istore_n dX7_doIt_16 (by decide) ?_
    refine g_pick (lv' := [(0, .ref (uk_ad G 60)), (1, .int g), (2, .int x1), (3, .int (-1))]) [0, 1, 2, 3] rfl ?_
    refine g_iload_n dX7_doIt_17 rfl ?_
    refine g_bipush (v := 10) dX7_doIt_18 (by decide) ?_
    refine g_icmp_lt (tgt := 31) dX7_doIt_20 (by decide) (fun c3 => ?_) (fun c3 => ?_)
    · refine g_iconst (v := 1) dX7_doIt_31 (by decide) ?_
      refine g_goto (tgt := 36) dX7_doIt_32 (by decide) ?_
      refine g_istore dX7_doIt_36 (by decide) ?_
      refine g_pick (lv' := [(0, .ref (uk_ad G 60)), (1, .int g), (2, .int x1), (3, .int (-1)), (4, .int 1)]) [0, 1, 2, 3, 4] rfl ?_
      refine g_aload_n dX7_doIt_38 rfl ?_
      refine f_X7_13 rfl rfl dX7_doIt_39 ?_
      refine g_iconst (v := 0) dX7_doIt_42 (by decide) ?_
      refine g_iload_n dX7_doIt_43 rfl ?_
      refine g_iadd dX7_doIt_44 ?_
      refine g_topi (fun x4 ex4 => ?_)
      have ox4 : x4 = x1 := by rw [ex4, Int32.zero_add]
      refine g_dup2 dX7_doIt_45 rfl rfl ?_
      have v5 : vp_in x4 51 := uk_vin 51 rfl (by first | decide | lia | grind) (by first | decide | lia | grind)
      refine g_iald rfl rfl v5 dX7_doIt_46 ?_
      refine g_topi (fun x6 ex6 => ?_)
      have bx6 := uk_cl v5
      have rx6 : 0 ≤ x6 ∧ x6 ≤ 40 := by rw [ex6]; exact sg_0 hu (by unfold uk_is51; decide) (by first | lia | grind) (by first | lia | grind)
      have px6 : x6 = (u.1 62) (x4 : Int32).toNatClampNeg := ex6.trans (congrFun C62 _)
      have yx6 : x6 = cM := by rw [px6, show (x4 : Int32) = g by lia]; exact hcM
      refine g_iload_n dX7_doIt_47 rfl ?_
      refine g_isub dX7_doIt_48 ?_
      refine g_topi (fun x7 ex7 => ?_)
      have v8 : vp_in x4 51 := uk_vin 51 rfl (by first | decide | lia | grind) (by first | decide | lia | grind)
      have b9 := uk_cl v8
      refine g_iast rfl rfl v8 dX7_doIt_49 ?_
      refine g_mem (fun u10 eu10 => ?_)
      have hu10 : iv u10 := by rw [eu10]; exact iv_st hu (by unfold uk_is51; decide) (by lia) (by lia) (fun _ => dl_1 ex7 yx6 rM.1 p6) (fun q => absurd q (by lia)) (fun q => absurd q (by lia))
      have fu10 : fk [62] [] u u10 := by rw [eu10]; exact fk_up f0 (by decide) (fun q => absurd q (by decide))
      have rau10 : ra u10 := by rw [eu10]; exact ra_at hra (by first | decide | lia | grind) (by first | decide | lia | grind)
      have C11 : u10.1 62 = (upd (u.1 62) (x4 : Int32).toNatClampNeg x7) := by rw [eu10, uk_up_self, C62]
      have C12 : u10.1 64 = u.1 64 := by rw [eu10]; exact (uk_up_oc (by decide)).trans C64
      have C13 : u10.1 65 = u.1 65 := by rw [eu10]; exact (uk_up_oc (by decide)).trans C65
      refine g_aload_n dX7_doIt_50 rfl ?_
      refine f_X7_13 rfl rfl dX7_doIt_51 ?_
      refine g_iconst (v := 0) dX7_doIt_54 (by decide) ?_
      refine g_aload_n dX7_doIt_55 rfl ?_
      refine f_X7_20 rfl rfl dX7_doIt_56 ?_
      refine g_iload_n dX7_doIt_59 rfl ?_
      have v14 : vp_in x1 8 := uk_vin 8 rfl (by first | decide | lia | grind) (by first | decide | lia | grind)
      refine g_iald rfl rfl v14 dX7_doIt_60 ?_
      refine g_topi (fun x15 ex15 => ?_)
      have bx15 := uk_cl v14
      have rx15 : (-4) ≤ x15 ∧ x15 ≤ 7 := by rw [ex15]; exact iv_at hu10 _ _ (uk_pick1 _ (by omega))
      have px15 : x15 = (u.1 64) (x1 : Int32).toNatClampNeg := ex15.trans (congrFun C12 _)
      have yx15 : x15 = pA := by rw [px15, show (x1 : Int32) = g by lia]; exact hpA
      refine g_iadd dX7_doIt_61 ?_
      refine g_topi (fun x16 ex16 => ?_)
      have ox16 : x16 = x15 := by rw [ex16, Int32.zero_add]
      refine g_dup2 dX7_doIt_62 rfl rfl ?_
      have v17 : vp_in x16 51 := uk_vin 51 rfl (by first | decide | lia | grind) (by first | decide | lia | grind)
      refine g_iald rfl rfl v17 dX7_doIt_63 ?_
      refine g_topi (fun x18 ex18 => ?_)
      have bx18 := uk_cl v17
      have rx18 : 0 ≤ x18 ∧ x18 ≤ 40 := by rw [ex18]; exact sg_0 hu10 (by unfold uk_is51; decide) (by first | lia | grind) (by first | lia | grind)
      have px18 : x18 = ((upd (u.1 62) (x4 : Int32).toNatClampNeg x7)) (x16 : Int32).toNatClampNeg := ex18.trans (congrFun C11 _)
      have lx18 : x18 = u.1 62 (x16 : Int32).toNatClampNeg := by rw [px18]; exact upd_ne (by lia) (by lia) (by lia)
      have yx18 : x18 = cA := by rw [lx18, show (x16 : Int32) = pA by lia]; exact hcA
      refine g_iload_n dX7_doIt_64 rfl ?_
      refine g_iadd dX7_doIt_65 ?_
      refine g_topi (fun x19 ex19 => ?_)
      have v20 : vp_in x16 51 := uk_vin 51 rfl (by first | decide | lia | grind) (by first | decide | lia | grind)
      have b21 := uk_cl v20
      refine g_iast rfl rfl v20 dX7_doIt_66 ?_
      refine g_mem (fun u22 eu22 => ?_)
      have hu22 : iv u22 := by rw [eu22]; exact iv_st hu10 (by unfold uk_is51; decide) (by lia) (by lia) (fun _ => dl_3 ex19 yx18 c1 rA.2) (fun q => absurd q (by lia)) (fun q => absurd q (by lia))
      have fu22 : fk [62] [] u u22 := by rw [eu22]; exact fk_up fu10 (by decide) (fun q => absurd q (by decide))
      have rau22 : ra u22 := by rw [eu22]; exact ra_at rau10 (by first | decide | lia | grind) (by first | decide | lia | grind)
      have C23 : u22.1 62 = (upd ((upd (u.1 62) (x4 : Int32).toNatClampNeg x7)) (x16 : Int32).toNatClampNeg x19) := by rw [eu22, uk_up_self, C11]
      have C24 : u22.1 64 = u.1 64 := by rw [eu22]; exact (uk_up_oc (by decide)).trans C12
      have C25 : u22.1 65 = u.1 65 := by rw [eu22]; exact (uk_up_oc (by decide)).trans C13
      refine g_aload_n dX7_doIt_67 rfl ?_
      refine f_X7_13 rfl rfl dX7_doIt_68 ?_
      refine g_iconst (v := 0) dX7_doIt_71 (by decide) ?_
      refine g_aload_n dX7_doIt_72 rfl ?_
      refine f_X7_23 rfl rfl dX7_doIt_73 ?_
      refine g_iload_n dX7_doIt_76 rfl ?_
      have v26 : vp_in x1 8 := uk_vin 8 rfl (by first | decide | lia | grind) (by first | decide | lia | grind)
      refine g_iald rfl rfl v26 dX7_doIt_77 ?_
      refine g_topi (fun x27 ex27 => ?_)
      have bx27 := uk_cl v26
      have rx27 : (-4) ≤ x27 ∧ x27 ≤ 7 := by rw [ex27]; exact iv_at hu22 _ _ (uk_pick1 _ (by omega))
      have px27 : x27 = (u.1 65) (x1 : Int32).toNatClampNeg := ex27.trans (congrFun C25 _)
      have yx27 : x27 = pB := by rw [px27, show (x1 : Int32) = g by lia]; exact hpB
      refine g_iadd dX7_doIt_78 ?_
      refine g_topi (fun x28 ex28 => ?_)
      have ox28 : x28 = x27 := by rw [ex28, Int32.zero_add]
      refine g_dup2 dX7_doIt_79 rfl rfl ?_
      have v29 : vp_in x28 51 := uk_vin 51 rfl (by first | decide | lia | grind) (by first | decide | lia | grind)
      refine g_iald rfl rfl v29 dX7_doIt_80 ?_
      refine g_topi (fun x30 ex30 => ?_)
      have bx30 := uk_cl v29
      have rx30 : 0 ≤ x30 ∧ x30 ≤ 40 := by rw [ex30]; exact sg_0 hu22 (by unfold uk_is51; decide) (by first | lia | grind) (by first | lia | grind)
      have px30 : x30 = ((upd ((upd (u.1 62) (x4 : Int32).toNatClampNeg x7)) (x16 : Int32).toNatClampNeg x19)) (x28 : Int32).toNatClampNeg := ex30.trans (congrFun C23 _)
      have lx30 : (x28 = x16 → x30 = x19) ∧ (¬ x28 = x16 → x30 = u.1 62 (x28 : Int32).toNatClampNeg) := ⟨fun q => by rw [px30]; exact upd_at q, fun q => by rw [px30, upd_ne (by lia) (by lia) q]; exact upd_ne (by lia) (by lia) (by lia)⟩
      have yx30 : (pB = pA → x30 = x19) ∧ (¬ pB = pA → x30 = cB) := ⟨fun q => lx30.1 (by lia), fun q => by rw [lx30.2 (by lia), show (x28 : Int32) = pB by lia]; exact hcB⟩
      refine g_iload dX7_doIt_81 rfl ?_
      refine g_if_eq (tgt := 90) dX7_doIt_83 (by decide) (fun c31 => ?_) (fun c31 => ?_)
      · exact absurd c31 (by decide)
      · refine g_iload_n dX7_doIt_86 rfl ?_
        refine g_goto (tgt := 91) dX7_doIt_87 (by decide) ?_
        refine g_iadd dX7_doIt_91 ?_
        refine g_topi (fun x32 ex32 => ?_)
        have v33 : vp_in x28 51 := uk_vin 51 rfl (by first | decide | lia | grind) (by first | decide | lia | grind)
        have b34 := uk_cl v33
        refine g_iast rfl rfl v33 dX7_doIt_92 ?_
        refine g_mem (fun u35 eu35 => ?_)
        have hu35 : iv u35 := by rw [eu35]; exact iv_st hu22 (by unfold uk_is51; decide) (by lia) (by lia) (fun _ => dl_5 ex32 yx30 ex19 yx18 p7 p8 rA.2 rB.2) (fun q => absurd q (by lia)) (fun q => absurd q (by lia))
        have fu35 : fk [62] [] u u35 := by rw [eu35]; exact fk_up fu22 (by decide) (fun q => absurd q (by decide))
        have rau35 : ra u35 := by rw [eu35]; exact ra_at rau22 (by first | decide | lia | grind) (by first | decide | lia | grind)
        have C36 : u35.1 62 = (upd ((upd ((upd (u.1 62) (x4 : Int32).toNatClampNeg x7)) (x16 : Int32).toNatClampNeg x19)) (x28 : Int32).toNatClampNeg x32) := by rw [eu35, uk_up_self, C23]
        have C37 : u35.1 64 = u.1 64 := by rw [eu35]; exact (uk_up_oc (by decide)).trans C24
        have C38 : u35.1 65 = u.1 65 := by rw [eu35]; exact (uk_up_oc (by decide)).trans C25
        refine g_aload_n dX7_doIt_93 rfl ?_
        refine f_X7_13 rfl rfl dX7_doIt_94 ?_
        refine g_bipush (v := 8) dX7_doIt_97 (by decide) ?_
        refine g_iload_n dX7_doIt_99 rfl ?_
        refine g_iadd dX7_doIt_100 ?_
        refine g_topi (fun x39 ex39 => ?_)
        refine g_iload_n dX7_doIt_101 rfl ?_
        refine g_bipush (v := 10) dX7_doIt_102 (by decide) ?_
        refine g_icmp_lt (tgt := 134) dX7_doIt_104 (by decide) (fun c40 => ?_) (fun c40 => ?_)
        · refine g_aload_n dX7_doIt_134 rfl ?_
          refine f_X7_13 rfl rfl dX7_doIt_135 ?_
          refine g_bipush (v := 8) dX7_doIt_138 (by decide) ?_
          refine g_iload_n dX7_doIt_140 rfl ?_
          refine g_iadd dX7_doIt_141 ?_
          refine g_topi (fun x41 ex41 => ?_)
          have v42 : vp_in x41 51 := uk_vin 51 rfl (by first | decide | lia | grind) (by first | decide | lia | grind)
          refine g_iald rfl rfl v42 dX7_doIt_142 ?_
          refine g_topi (fun x43 ex43 => ?_)
          have bx43 := uk_cl v42
          have px43 : x43 = ((upd ((upd ((upd (u.1 62) (x4 : Int32).toNatClampNeg x7)) (x16 : Int32).toNatClampNeg x19)) (x28 : Int32).toNatClampNeg x32)) (x41 : Int32).toNatClampNeg := ex43.trans (congrFun C36 _)
          have v44 : vp_in x39 51 := uk_vin 51 rfl (by first | decide | lia | grind) (by first | decide | lia | grind)
          have b45 := uk_cl v44
          refine g_iast rfl rfl v44 dX7_doIt_143 ?_
          refine g_mem (fun u46 eu46 => ?_)
          have hu46 : iv u46 := by rw [eu46]; exact iv_st hu35 (by unfold uk_is51; decide) (by first | decide | lia | grind) (by first | decide | lia | grind) (fun q => by first | decide | lia | grind) (fun q => by first | decide | lia | grind) (fun q => by first | decide | lia | grind)
          have fu46 : fk [62] [] u u46 := by rw [eu46]; exact fk_up fu35 (by decide) (fun q => absurd q (by decide))
          have rau46 : ra u46 := by rw [eu46]; exact ra_at rau35 (by first | decide | lia | grind) (by first | decide | lia | grind)
          have C47 : u46.1 62 = (upd ((upd ((upd ((upd (u.1 62) (x4 : Int32).toNatClampNeg x7)) (x16 : Int32).toNatClampNeg x19)) (x28 : Int32).toNatClampNeg x32)) (x39 : Int32).toNatClampNeg x43) := by rw [eu46, uk_up_self, C36]
          have C48 : u46.1 64 = u.1 64 := by rw [eu46]; exact (uk_up_oc (by decide)).trans C37
          have C49 : u46.1 65 = u.1 65 := by rw [eu46]; exact (uk_up_oc (by decide)).trans C38
          refine g_aload_n dX7_doIt_144 rfl ?_
          refine f_X7_13 rfl rfl dX7_doIt_145 ?_
          refine g_bipush (v := 41) dX7_doIt_148 (by decide) ?_
          refine g_dup2 dX7_doIt_150 rfl rfl ?_
          have v50 : vp_in 41 51 := uk_vin 51 rfl (by first | decide | lia | grind) (by first | decide | lia | grind)
          refine g_iald rfl rfl v50 dX7_doIt_151 ?_
          refine g_topi (fun x51 ex51 => ?_)
          have bx51 := uk_cl v50
          have px51 : x51 = ((upd ((upd ((upd ((upd (u.1 62) (x4 : Int32).toNatClampNeg x7)) (x16 : Int32).toNatClampNeg x19)) (x28 : Int32).toNatClampNeg x32)) (x39 : Int32).toNatClampNeg x43)) (41 : Int32).toNatClampNeg := ex51.trans (congrFun C47 _)
          refine g_iconst (v := 1) dX7_doIt_152 (by decide) ?_
          refine g_iadd dX7_doIt_153 ?_
          refine g_topi (fun x52 ex52 => ?_)
          have v53 : vp_in 41 51 := uk_vin 51 rfl (by first | decide | lia | grind) (by first | decide | lia | grind)
          have b54 := uk_cl v53
          refine g_iast rfl rfl v53 dX7_doIt_154 ?_
          refine g_mem (fun u55 eu55 => ?_)
          have hu55 : iv u55 := by rw [eu55]; exact iv_st hu46 (by unfold uk_is51; decide) (by first | decide | lia | grind) (by first | decide | lia | grind) (fun q => by first | decide | lia | grind) (fun q => by first | decide | lia | grind) (fun q => by first | decide | lia | grind)
          have fu55 : fk [62] [] u u55 := by rw [eu55]; exact fk_up fu46 (by decide) (fun q => absurd q (by decide))
          have rau55 : ra u55 := by rw [eu55]; exact ra_at rau46 (by first | decide | lia | grind) (by first | decide | lia | grind)
          have C56 : u55.1 62 = (upd ((upd ((upd ((upd ((upd (u.1 62) (x4 : Int32).toNatClampNeg x7)) (x16 : Int32).toNatClampNeg x19)) (x28 : Int32).toNatClampNeg x32)) (x39 : Int32).toNatClampNeg x43)) (41 : Int32).toNatClampNeg x52) := by rw [eu55, uk_up_self, C47]
          have C57 : u55.1 64 = u.1 64 := by rw [eu55]; exact (uk_up_oc (by decide)).trans C48
          have C58 : u55.1 65 = u.1 65 := by rw [eu55]; exact (uk_up_oc (by decide)).trans C49
          exact g_vret dX7_doIt_155 rfl ⟨⟨rfl, hu55, fu55, rau55⟩, (by subst eu55; subst ex52; subst ex51; subst eu46; subst ex43; subst ex41; subst ex39; subst eu35; subst ex32; subst ex30; subst ex28; subst ex27; subst eu22; subst ex19; subst ex18; subst ex16; subst ex15; subst eu10; subst ex7; subst ex6; subst ex4; unfold ee_W at ex1; subst ex1; exact rfl : e_X7_doIt_a u g = u55).symm⟩
        · exact absurd c40 (by lia)
    · exact absurd c3 (by lia)
def e_X7_doIt_b (u : uk_Mem) (g : Int32) : uk_Mem := let x1 : Int32 := g - g / (10 : Int32) * (10 : Int32); let x7 : Int32 := (e_X7_givesSecond u x1); if x7 = 0 then (let x9 : Int32 := (0 : Int32) + x1; let x11 : Int32 := u.1 62 x9.toNatClampNeg; let x12 : Int32 := x11 - (1 : Int32); let u15 : uk_Mem := uk_up u 62 x9.toNatClampNeg x12; let x20 : Int32 := u15.1 64 x1.toNatClampNeg; let x21 : Int32 := (0 : Int32) + x20; let x23 : Int32 := u15.1 62 x21.toNatClampNeg; let x24 : Int32 := x23 + (1 : Int32); let u27 : uk_Mem := uk_up u15 62 x21.toNatClampNeg x24; let x32 : Int32 := u27.1 65 x1.toNatClampNeg; let x33 : Int32 := (0 : Int32) + x32; let x35 : Int32 := u27.1 62 x33.toNatClampNeg; let x37 : Int32 := x35 + (0 : Int32); let u40 : uk_Mem := uk_up u27 62 x33.toNatClampNeg x37; let x44 : Int32 := (8 : Int32) + x1; let x46 : Int32 := (32 : Int32) + x1; let x48 : Int32 := u40.1 62 x46.toNatClampNeg; if x48 = (3 : Int32) then (let x68 : Int32 := (8 : Int32) + x1; let x70 : Int32 := u40.1 62 x68.toNatClampNeg; let x71 : Int32 := (1 : Int32) - x70; let u74 : uk_Mem := uk_up u40 62 x44.toNatClampNeg x71; let x79 : Int32 := u74.1 62 (41 : Int32).toNatClampNeg; let x80 : Int32 := x79 + (1 : Int32); let u83 : uk_Mem := uk_up u74 62 (41 : Int32).toNatClampNeg x80; u83) else (let x50 : Int32 := (8 : Int32) + x1; let x52 : Int32 := u40.1 62 x50.toNatClampNeg; let u55 : uk_Mem := uk_up u40 62 x44.toNatClampNeg x52; let x60 : Int32 := u55.1 62 (41 : Int32).toNatClampNeg; let x61 : Int32 := x60 + (1 : Int32); let u64 : uk_Mem := uk_up u55 62 (41 : Int32).toNatClampNeg x61; u64)) else (let x87 : Int32 := (0 : Int32) + x1; let x89 : Int32 := u.1 62 x87.toNatClampNeg; let x90 : Int32 := x89 - (1 : Int32); let u93 : uk_Mem := uk_up u 62 x87.toNatClampNeg x90; let x98 : Int32 := u93.1 64 x1.toNatClampNeg; let x99 : Int32 := (0 : Int32) + x98; let x101 : Int32 := u93.1 62 x99.toNatClampNeg; let x102 : Int32 := x101 + (1 : Int32); let u105 : uk_Mem := uk_up u93 62 x99.toNatClampNeg x102; let x110 : Int32 := u105.1 65 x1.toNatClampNeg; let x111 : Int32 := (0 : Int32) + x110; let x113 : Int32 := u105.1 62 x111.toNatClampNeg; let x115 : Int32 := x113 + (1 : Int32); let u118 : uk_Mem := uk_up u105 62 x111.toNatClampNeg x115; let x122 : Int32 := (8 : Int32) + x1; let x124 : Int32 := (32 : Int32) + x1; let x126 : Int32 := u118.1 62 x124.toNatClampNeg; if x126 = (3 : Int32) then (let x146 : Int32 := (8 : Int32) + x1; let x148 : Int32 := u118.1 62 x146.toNatClampNeg; let x149 : Int32 := (1 : Int32) - x148; let u152 : uk_Mem := uk_up u118 62 x122.toNatClampNeg x149; let x157 : Int32 := u152.1 62 (41 : Int32).toNatClampNeg; let x158 : Int32 := x157 + (1 : Int32); let u161 : uk_Mem := uk_up u152 62 (41 : Int32).toNatClampNeg x158; u161) else (let x128 : Int32 := (8 : Int32) + x1; let x130 : Int32 := u118.1 62 x128.toNatClampNeg; let u133 : uk_Mem := uk_up u118 62 x122.toNatClampNeg x130; let x138 : Int32 := u133.1 62 (41 : Int32).toNatClampNeg; let x139 : Int32 := x138 + (1 : Int32); let u142 : uk_Mem := uk_up u133 62 (41 : Int32).toNatClampNeg x139; u142))
abbrev qe_X7_doIt_b (u : uk_Mem) (g : Int32) (r : Option Value) (u' : uk_Mem) : Prop := (q_X7_doIt_b u g r u') ∧ (u' = e_X7_doIt_b u g)
set_option maxHeartbeats 4000000 in
set_option maxRecDepth 20000 in
theorem x_X7_doIt_b {G : uk_D} (hs : uk_Sep G) {u : uk_Mem} (hu : iv u) (hra : ra u) (g : Int32) (p0 : 10 ≤ g) (p1 : g ≤ 17) (p2 : 0 ≤ (u.1 64 ((g - 10)).toNatClampNeg)) (p3 : (u.1 64 ((g - 10)).toNatClampNeg) < (g - 10)) (p4 : 0 ≤ (u.1 65 ((g - 10)).toNatClampNeg)) (p5 : (u.1 65 ((g - 10)).toNatClampNeg) < (g - 10)) (p6 : 1 ≤ u.1 62 ((g - 10)).toNatClampNeg) (p7 : u.1 62 (u.1 64 ((g - 10)).toNatClampNeg).toNatClampNeg < 40) (p8 : ((u.1 62 (32 + (g - 10)).toNatClampNeg = 0 ∨ (u.1 62 (32 + (g - 10)).toNatClampNeg = 3 ∧ u.1 62 (8 + (g - 10)).toNatClampNeg = 1)) → (u.1 64 ((g - 10)).toNatClampNeg) = (u.1 65 ((g - 10)).toNatClampNeg) → u.1 62 (u.1 64 ((g - 10)).toNatClampNeg).toNatClampNeg + 2 ≤ 40)) (p9 : ((u.1 62 (32 + (g - 10)).toNatClampNeg = 0 ∨ (u.1 62 (32 + (g - 10)).toNatClampNeg = 3 ∧ u.1 62 (8 + (g - 10)).toNatClampNeg = 1)) → ¬ (u.1 64 ((g - 10)).toNatClampNeg) = (u.1 65 ((g - 10)).toNatClampNeg) → u.1 62 (u.1 65 ((g - 10)).toNatClampNeg).toNatClampNeg < 40)) (d : Nat) : uk_Meth G (d + 1) mX7_doIt [.ref (uk_ad G 60), .int g] u (qe_X7_doIt_b u g) := by
  refine uk_Meth.of hs (by decide) (Nat.le_of_ble_eq_true rfl) (fun X => ?_)
  have f0 : fk [62] [] u u := fk_rf
  have C62 : u.1 62 = u.1 62 := rfl
  have C64 : u.1 64 = u.1 64 := rfl
  have C65 : u.1 65 = u.1 65 := rfl
  obtain ⟨pA, hpA⟩ : ∃ a, u.1 64 ((g - 10)).toNatClampNeg = a := ⟨_, rfl⟩
  obtain ⟨pB, hpB⟩ : ∃ a, u.1 65 ((g - 10)).toNatClampNeg = a := ⟨_, rfl⟩
  obtain ⟨cA, hcA⟩ : ∃ a, u.1 62 pA.toNatClampNeg = a := ⟨_, rfl⟩
  obtain ⟨cB, hcB⟩ : ∃ a, u.1 62 pB.toNatClampNeg = a := ⟨_, rfl⟩
  obtain ⟨cM, hcM⟩ : ∃ a, u.1 62 ((g - 10)).toNatClampNeg = a := ⟨_, rfl⟩
  simp only [hpA, hpB, hcA, hcB, hcM] at p2 p3 p4 p5 p6 p7 p8 p9
  have rA := sg_0 hu (c := 62) (by unfold uk_is51; decide) (i := pA) (by lia) (by lia)
  rw [hcA] at rA
  have rB := sg_0 hu (c := 62) (by unfold uk_is51; decide) (i := pB) (by lia) (by lia)
  rw [hcB] at rB
  have rM := sg_0 hu (c := 62) (by unfold uk_is51; decide) (i := (g - 10)) (by lia) (by lia)
  rw [hcM] at rM
  have hAB : pA = pB → cA = cB := fun q => by rw [← hcA, ← hcB, q]
  refine g_iload_n dX7_doIt_0 rfl ?_
  refine g_bipush (v := 10) dX7_doIt_1 (by decide) ?_
  refine g_irem dX7_doIt_3 (by first | decide | lia | grind) ?_
  refine g_topi (fun x1 ex1 => ?_)
  have nx1 : x1 = (g - 10) := (uk_r10 ex1).2 (by lia) (by lia); replace ex1 : ee_W _ _ := ex1
  refine g_istore_n dX7_doIt_4 (by decide) ?_
  refine g_pick (lv' := [(0, .ref (uk_ad G 60)), (1, .int g), (2, .int x1)]) [0, 1, 2] rfl ?_
  refine g_iload_n dX7_doIt_5 rfl ?_
  refine g_bipush (v := 10) dX7_doIt_6 (by decide) ?_
  refine g_icmp_ge (tgt := 15) dX7_doIt_8 (by decide) (fun c2 => ?_) (fun c2 => ?_)
  · refine g_iconst (v := 1) dX7_doIt_15 (by decide) ?_
    refine g_istore_n dX7_doIt_16 (by decide) ?_
    refine g_pick (lv' := [(0, .ref (uk_ad G 60)), (1, .int g), (2, .int x1), (3, .int 1)]) [0, 1, 2, 3] rfl ?_
    refine g_iload_n dX7_doIt_17 rfl ?_
    refine g_bipush (v := 10) dX7_doIt_18 (by decide) ?_
    refine g_icmp_lt (tgt := 31) dX7_doIt_20 (by decide) (fun c3 => ?_) (fun c3 => ?_)
    · exact absurd c3 (by lia)
    · refine g_aload_n dX7_doIt_23 rfl ?_
      refine g_iload_n dX7_doIt_24 rfl ?_
      refine cl_X7_153 (c := 60) (As := [.int x1]) rfl (x_X7_givesSecond (G := G) hs hu  x1 (by first | trivial | decide | lia | grind) (by first | trivial | decide | lia | grind) (d)) rfl (by omega) rfl rfl (Nat.le_of_ble_eq_true rfl) dX7_doIt_25 (fun r4 u5 q6 => ?_)
      obtain ⟨q6, Eq6⟩ := q6
      obtain ⟨⟨x7, rfl, tx7, nx7, zx7⟩, mq6⟩ := q6
      rw [mq6]
      have ex7 : x7 = (e_X7_givesSecond u x1) := ee_v Eq6
      refine g_if_eq (tgt := 35) dX7_doIt_28 (by decide) (fun c8 => ?_) (fun c8 => ?_)
      · have zc8 := zx7 c8
        refine g_iconst (v := 0) dX7_doIt_35 (by decide) ?_
        refine g_istore dX7_doIt_36 (by decide) ?_
        refine g_pick (lv' := [(0, .ref (uk_ad G 60)), (1, .int g), (2, .int x1), (3, .int 1), (4, .int 0)]) [0, 1, 2, 3, 4] rfl ?_
        refine g_aload_n dX7_doIt_38 rfl ?_
        refine f_X7_13 rfl rfl dX7_doIt_39 ?_
        refine g_iconst (v := 0) dX7_doIt_42 (by decide) ?_
        refine g_iload_n dX7_doIt_43 rfl ?_
        refine g_iadd dX7_doIt_44 ?_
        refine g_topi (fun x9 ex9 => ?_)
        have ox9 : x9 = x1 := by rw [ex9, Int32.zero_add]
        refine g_dup2 dX7_doIt_45 rfl rfl ?_
        have v10 : vp_in x9 51 := uk_vin 51 rfl (by first | decide | lia | grind) (by first | decide | lia | grind)
        refine g_iald rfl rfl v10 dX7_doIt_46 ?_
        refine g_topi (fun x11 ex11 => ?_)
        have bx11 := uk_cl v10
        have rx11 : 0 ≤ x11 ∧ x11 ≤ 40 := by rw [ex11]; exact sg_0 hu (by unfold uk_is51; decide) (by first | lia | grind) (by first | lia | grind)
        have px11 : x11 = (u.1 62) (x9 : Int32).toNatClampNeg := ex11.trans (congrFun C62 _)
        have yx11 : x11 = cM := by rw [px11, show (x9 : Int32) = (g - 10) by lia]; exact hcM
        refine g_iload_n dX7_doIt_47 rfl ?_
        refine g_isub dX7_doIt_48 ?_
        refine g_topi (fun x12 ex12 => ?_)
        have v13 : vp_in x9 51 := uk_vin 51 rfl (by first | decide | lia | grind) (by first | decide | lia | grind)
        have b14 := uk_cl v13
        refine g_iast rfl rfl v13 dX7_doIt_49 ?_
        refine g_mem (fun u15 eu15 => ?_)
        have hu15 : iv u15 := by rw [eu15]; exact iv_st hu (by unfold uk_is51; decide) (by lia) (by lia) (fun _ => dl_2 ex12 yx11 p6 rM.2) (fun q => absurd q (by lia)) (fun q => absurd q (by lia))
        have fu15 : fk [62] [] u u15 := by rw [eu15]; exact fk_up f0 (by decide) (fun q => absurd q (by decide))
        have rau15 : ra u15 := by rw [eu15]; exact ra_at hra (by first | decide | lia | grind) (by first | decide | lia | grind)
        have C16 : u15.1 62 = (upd (u.1 62) (x9 : Int32).toNatClampNeg x12) := by rw [eu15, uk_up_self, C62]
        have C17 : u15.1 64 = u.1 64 := by rw [eu15]; exact (uk_up_oc (by decide)).trans C64
        have C18 : u15.1 65 = u.1 65 := by rw [eu15]; exact (uk_up_oc (by decide)).trans C65
        refine g_aload_n dX7_doIt_50 rfl ?_
        refine f_X7_13 rfl rfl dX7_doIt_51 ?_
        refine g_iconst (v := 0) dX7_doIt_54 (by decide) ?_
        refine g_aload_n dX7_doIt_55 rfl ?_
        refine f_X7_20 rfl rfl dX7_doIt_56 ?_
        refine g_iload_n dX7_doIt_59 rfl ?_
        have v19 : vp_in x1 8 := uk_vin 8 rfl (by first | decide | lia | grind) (by first | decide | lia | grind)
        refine g_iald rfl rfl v19 dX7_doIt_60 ?_
        refine g_topi (fun x20 ex20 => ?_)
        have bx20 := uk_cl v19
        have rx20 : (-4) ≤ x20 ∧ x20 ≤ 7 := by rw [ex20]; exact iv_at hu15 _ _ (uk_pick1 _ (by omega))
        have px20 : x20 = (u.1 64) (x1 : Int32).toNatClampNeg := ex20.trans (congrFun C17 _)
        have yx20 : x20 = pA := by rw [px20, show (x1 : Int32) = (g - 10) by lia]; exact hpA
        refine g_iadd dX7_doIt_61 ?_
        refine g_topi (fun x21 ex21 => ?_)
        have ox21 : x21 = x20 := by rw [ex21, Int32.zero_add]
        refine g_dup2 dX7_doIt_62 rfl rfl ?_
        have v22 : vp_in x21 51 := uk_vin 51 rfl (by first | decide | lia | grind) (by first | decide | lia | grind)
        refine g_iald rfl rfl v22 dX7_doIt_63 ?_
        refine g_topi (fun x23 ex23 => ?_)
        have bx23 := uk_cl v22
        have rx23 : 0 ≤ x23 ∧ x23 ≤ 40 := by rw [ex23]; exact sg_0 hu15 (by unfold uk_is51; decide) (by first | lia | grind) (by first | lia | grind)
        have px23 : x23 = ((upd (u.1 62) (x9 : Int32).toNatClampNeg x12)) (x21 : Int32).toNatClampNeg := ex23.trans (congrFun C16 _)
        have lx23 : x23 = u.1 62 (x21 : Int32).toNatClampNeg := by rw [px23]; exact upd_ne (by lia) (by lia) (by lia)
        have yx23 : x23 = cA := by rw [lx23, show (x21 : Int32) = pA by lia]; exact hcA
        refine g_iload_n dX7_doIt_64 rfl ?_
        refine g_iadd dX7_doIt_65 ?_
        refine g_topi (fun x24 ex24 => ?_)
        have v25 : vp_in x21 51 := uk_vin 51 rfl (by first | decide | lia | grind) (by first | decide | lia | grind)
        have b26 := uk_cl v25
        refine g_iast rfl rfl v25 dX7_doIt_66 ?_
        refine g_mem (fun u27 eu27 => ?_)
        have hu27 : iv u27 := by rw [eu27]; exact iv_st hu15 (by unfold uk_is51; decide) (by lia) (by lia) (fun _ => dl_4 ex24 yx23 rA.1 p7) (fun q => absurd q (by lia)) (fun q => absurd q (by lia))
        have fu27 : fk [62] [] u u27 := by rw [eu27]; exact fk_up fu15 (by decide) (fun q => absurd q (by decide))
        have rau27 : ra u27 := by rw [eu27]; exact ra_at rau15 (by first | decide | lia | grind) (by first | decide | lia | grind)
        have C28 : u27.1 62 = (upd ((upd (u.1 62) (x9 : Int32).toNatClampNeg x12)) (x21 : Int32).toNatClampNeg x24) := by rw [eu27, uk_up_self, C16]
        have C29 : u27.1 64 = u.1 64 := by rw [eu27]; exact (uk_up_oc (by decide)).trans C17
        have C30 : u27.1 65 = u.1 65 := by rw [eu27]; exact (uk_up_oc (by decide)).trans C18
        refine g_aload_n dX7_doIt_67 rfl ?_
        refine f_X7_13 rfl rfl dX7_doIt_68 ?_
        refine g_iconst (v := 0) dX7_doIt_71 (by decide) ?_
        refine g_aload_n dX7_doIt_72 rfl ?_
        refine f_X7_23 rfl rfl dX7_doIt_73 ?_
        refine g_iload_n dX7_doIt_76 rfl ?_
        have v31 : vp_in x1 8 := uk_vin 8 rfl (by first | decide | lia | grind) (by first | decide | lia | grind)
        refine g_iald rfl rfl v31 dX7_doIt_77 ?_
        refine g_topi (fun x32 ex32 => ?_)
        have bx32 := uk_cl v31
        have rx32 : (-4) ≤ x32 ∧ x32 ≤ 7 := by rw [ex32]; exact iv_at hu27 _ _ (uk_pick1 _ (by omega))
        have px32 : x32 = (u.1 65) (x1 : Int32).toNatClampNeg := ex32.trans (congrFun C30 _)
        have yx32 : x32 = pB := by rw [px32, show (x1 : Int32) = (g - 10) by lia]; exact hpB
        refine g_iadd dX7_doIt_78 ?_
        refine g_topi (fun x33 ex33 => ?_)
        have ox33 : x33 = x32 := by rw [ex33, Int32.zero_add]
        refine g_dup2 dX7_doIt_79 rfl rfl ?_
        have v34 : vp_in x33 51 := uk_vin 51 rfl (by first | decide | lia | grind) (by first | decide | lia | grind)
        refine g_iald rfl rfl v34 dX7_doIt_80 ?_
        refine g_topi (fun x35 ex35 => ?_)
        have bx35 := uk_cl v34
        have rx35 : 0 ≤ x35 ∧ x35 ≤ 40 := by rw [ex35]; exact sg_0 hu27 (by unfold uk_is51; decide) (by first | lia | grind) (by first | lia | grind)
        have px35 : x35 = ((upd ((upd (u.1 62) (x9 : Int32).toNatClampNeg x12)) (x21 : Int32).toNatClampNeg x24)) (x33 : Int32).toNatClampNeg := ex35.trans (congrFun C28 _)
        have lx35 : (x33 = x21 → x35 = x24) ∧ (¬ x33 = x21 → x35 = u.1 62 (x33 : Int32).toNatClampNeg) := ⟨fun q => by rw [px35]; exact upd_at q, fun q => by rw [px35, upd_ne (by lia) (by lia) q]; exact upd_ne (by lia) (by lia) (by lia)⟩
        have yx35 : (pB = pA → x35 = x24) ∧ (¬ pB = pA → x35 = cB) := ⟨fun q => lx35.1 (by lia), fun q => by rw [lx35.2 (by lia), show (x33 : Int32) = pB by lia]; exact hcB⟩
        refine g_iload dX7_doIt_81 rfl ?_
        refine g_if_eq (tgt := 90) dX7_doIt_83 (by decide) (fun c36 => ?_) (fun c36 => ?_)
        · refine g_iconst (v := 0) dX7_doIt_90 (by decide) ?_
          refine g_iadd dX7_doIt_91 ?_
          refine g_topi (fun x37 ex37 => ?_)
          have v38 : vp_in x33 51 := uk_vin 51 rfl (by first | decide | lia | grind) (by first | decide | lia | grind)
          have b39 := uk_cl v38
          refine g_iast rfl rfl v38 dX7_doIt_92 ?_
          refine g_mem (fun u40 eu40 => ?_)
          have hu40 : iv u40 := by rw [eu40]; exact iv_st hu27 (by unfold uk_is51; decide) (by lia) (by lia) (fun _ => dl_7 ex37 yx35 ex24 yx23 ⟨rA.1, p7⟩ rB) (fun q => absurd q (by lia)) (fun q => absurd q (by lia))
          have fu40 : fk [62] [] u u40 := by rw [eu40]; exact fk_up fu27 (by decide) (fun q => absurd q (by decide))
          have rau40 : ra u40 := by rw [eu40]; exact ra_at rau27 (by first | decide | lia | grind) (by first | decide | lia | grind)
          have C41 : u40.1 62 = (upd ((upd ((upd (u.1 62) (x9 : Int32).toNatClampNeg x12)) (x21 : Int32).toNatClampNeg x24)) (x33 : Int32).toNatClampNeg x37) := by rw [eu40, uk_up_self, C28]
          have C42 : u40.1 64 = u.1 64 := by rw [eu40]; exact (uk_up_oc (by decide)).trans C29
          have C43 : u40.1 65 = u.1 65 := by rw [eu40]; exact (uk_up_oc (by decide)).trans C30
          refine g_aload_n dX7_doIt_93 rfl ?_
          refine f_X7_13 rfl rfl dX7_doIt_94 ?_
          refine g_bipush (v := 8) dX7_doIt_97 (by decide) ?_
          refine g_iload_n dX7_doIt_99 rfl ?_
          refine g_iadd dX7_doIt_100 ?_
          refine g_topi (fun x44 ex44 => ?_)
          refine g_iload_n dX7_doIt_101 rfl ?_
          refine g_bipush (v := 10) dX7_doIt_102 (by decide) ?_
          refine g_icmp_lt (tgt := 134) dX7_doIt_104 (by decide) (fun c45 => ?_) (fun c45 => ?_)
          · exact absurd c45 (by lia)
          · refine g_aload_n dX7_doIt_107 rfl ?_
            refine f_X7_13 rfl rfl dX7_doIt_108 ?_
            refine g_bipush (v := 32) dX7_doIt_111 (by decide) ?_
            refine g_iload_n dX7_doIt_113 rfl ?_
            refine g_iadd dX7_doIt_114 ?_
            refine g_topi (fun x46 ex46 => ?_)
            have v47 : vp_in x46 51 := uk_vin 51 rfl (by first | decide | lia | grind) (by first | decide | lia | grind)
            refine g_iald rfl rfl v47 dX7_doIt_115 ?_
            refine g_topi (fun x48 ex48 => ?_)
            have bx48 := uk_cl v47
            have px48 : x48 = ((upd ((upd ((upd (u.1 62) (x9 : Int32).toNatClampNeg x12)) (x21 : Int32).toNatClampNeg x24)) (x33 : Int32).toNatClampNeg x37)) (x46 : Int32).toNatClampNeg := ex48.trans (congrFun C41 _)
            refine g_iconst (v := 3) dX7_doIt_116 (by decide) ?_
            refine g_icmp_ne (tgt := 134) dX7_doIt_117 (by decide) (fun c49 => ?_) (fun c49 => ?_)
            · refine g_aload_n dX7_doIt_134 rfl ?_
              refine f_X7_13 rfl rfl dX7_doIt_135 ?_
              refine g_bipush (v := 8) dX7_doIt_138 (by decide) ?_
              refine g_iload_n dX7_doIt_140 rfl ?_
              refine g_iadd dX7_doIt_141 ?_
              refine g_topi (fun x50 ex50 => ?_)
              have v51 : vp_in x50 51 := uk_vin 51 rfl (by first | decide | lia | grind) (by first | decide | lia | grind)
              refine g_iald rfl rfl v51 dX7_doIt_142 ?_
              refine g_topi (fun x52 ex52 => ?_)
              have bx52 := uk_cl v51
              have px52 : x52 = ((upd ((upd ((upd (u.1 62) (x9 : Int32).toNatClampNeg x12)) (x21 : Int32).toNatClampNeg x24)) (x33 : Int32).toNatClampNeg x37)) (x50 : Int32).toNatClampNeg := ex52.trans (congrFun C41 _)
              have v53 : vp_in x44 51 := uk_vin 51 rfl (by first | decide | lia | grind) (by first | decide | lia | grind)
              have b54 := uk_cl v53
              refine g_iast rfl rfl v53 dX7_doIt_143 ?_
              refine g_mem (fun u55 eu55 => ?_)
              have hu55 : iv u55 := by rw [eu55]; exact iv_st hu40 (by unfold uk_is51; decide) (by first | decide | lia | grind) (by first | decide | lia | grind) (fun q => by first | decide | lia | grind) (fun q => by first | decide | lia | grind) (fun q => by first | decide | lia | grind)
              have fu55 : fk [62] [] u u55 := by rw [eu55]; exact fk_up fu40 (by decide) (fun q => absurd q (by decide))
              have rau55 : ra u55 := by rw [eu55]; exact ra_at rau40 (by first | decide | lia | grind) (by first | decide | lia | grind)
              have C56 : u55.1 62 = (upd ((upd ((upd ((upd (u.1 62) (x9 : Int32).toNatClampNeg x12)) (x21 : Int32).toNatClampNeg x24)) (x33 : Int32).toNatClampNeg x37)) (x44 : Int32).toNatClampNeg x52) := by rw [eu55, uk_up_self, C41]
              have C57 : u55.1 64 = u.1 64 := by rw [eu55]; exact (uk_up_oc (by decide)).trans C42
              have C58 : u55.1 65 = u.1 65 := by rw [eu55]; exact (uk_up_oc (by decide)).trans C43
              refine g_aload_n dX7_doIt_144 rfl ?_
              refine f_X7_13 rfl rfl dX7_doIt_145 ?_
              refine g_bipush (v := 41) dX7_doIt_148 (by decide) ?_
              refine g_dup2 dX7_doIt_150 rfl rfl ?_
              have v59 : vp_in 41 51 := uk_vin 51 rfl (by first | decide | lia | grind) (by first | decide | lia | grind)
              refine g_iald rfl rfl v59 dX7_doIt_151 ?_
              refine g_topi (fun x60 ex60 => ?_)
              have bx60 := uk_cl v59
              have px60 : x60 = ((upd ((upd ((upd ((upd (u.1 62) (x9 : Int32).toNatClampNeg x12)) (x21 : Int32).toNatClampNeg x24)) (x33 : Int32).toNatClampNeg x37)) (x44 : Int32).toNatClampNeg x52)) (41 : Int32).toNatClampNeg := ex60.trans (congrFun C56 _)
              refine g_iconst (v := 1) dX7_doIt_152 (by decide) ?_
              refine g_iadd dX7_doIt_153 ?_
              refine g_topi (fun x61 ex61 => ?_)
              have v62 : vp_in 41 51 := uk_vin 51 rfl (by first | decide | lia | grind) (by first | decide | lia | grind)
              have b63 := uk_cl v62
              refine g_iast rfl rfl v62 dX7_doIt_154 ?_
              refine g_mem (fun u64 eu64 => ?_)
              have hu64 : iv u64 := by rw [eu64]; exact iv_st hu55 (by unfold uk_is51; decide) (by first | decide | lia | grind) (by first | decide | lia | grind) (fun q => by first | decide | lia | grind) (fun q => by first | decide | lia | grind) (fun q => by first | decide | lia | grind)
              have fu64 : fk [62] [] u u64 := by rw [eu64]; exact fk_up fu55 (by decide) (fun q => absurd q (by decide))
              have rau64 : ra u64 := by rw [eu64]; exact ra_at rau55 (by first | decide | lia | grind) (by first | decide | lia | grind)
              have C65 : u64.1 62 = (upd ((upd ((upd ((upd ((upd (u.1 62) (x9 : Int32).toNatClampNeg x12)) (x21 : Int32).toNatClampNeg x24)) (x33 : Int32).toNatClampNeg x37)) (x44 : Int32).toNatClampNeg x52)) (41 : Int32).toNatClampNeg x61) := by rw [eu64, uk_up_self, C56]
              have C66 : u64.1 64 = u.1 64 := by rw [eu64]; exact (uk_up_oc (by decide)).trans C57
              have C67 : u64.1 65 = u.1 65 := by rw [eu64]; exact (uk_up_oc (by decide)).trans C58
              exact g_vret dX7_doIt_155 rfl ⟨⟨rfl, hu64, fu64, rau64⟩, (by subst eu64; subst ex61; subst ex60; subst eu55; subst ex52; subst ex50; subst ex48; subst ex46; subst ex44; subst eu40; subst ex37; subst ex35; subst ex33; subst ex32; subst eu27; subst ex24; subst ex23; subst ex21; subst ex20; subst eu15; subst ex12; subst ex11; subst ex9; subst ex7; unfold ee_W at ex1; subst ex1; exact (if_pos c8).trans ((if_neg c49).trans (rfl)) : e_X7_doIt_b u g = u64).symm⟩
            · refine g_iconst (v := 1) dX7_doIt_120 (by decide) ?_
              refine g_aload_n dX7_doIt_121 rfl ?_
              refine f_X7_13 rfl rfl dX7_doIt_122 ?_
              refine g_bipush (v := 8) dX7_doIt_125 (by decide) ?_
              refine g_iload_n dX7_doIt_127 rfl ?_
              refine g_iadd dX7_doIt_128 ?_
              refine g_topi (fun x68 ex68 => ?_)
              have v69 : vp_in x68 51 := uk_vin 51 rfl (by first | decide | lia | grind) (by first | decide | lia | grind)
              refine g_iald rfl rfl v69 dX7_doIt_129 ?_
              refine g_topi (fun x70 ex70 => ?_)
              have bx70 := uk_cl v69
              have px70 : x70 = ((upd ((upd ((upd (u.1 62) (x9 : Int32).toNatClampNeg x12)) (x21 : Int32).toNatClampNeg x24)) (x33 : Int32).toNatClampNeg x37)) (x68 : Int32).toNatClampNeg := ex70.trans (congrFun C41 _)
              refine g_isub dX7_doIt_130 ?_
              refine g_topi (fun x71 ex71 => ?_)
              refine g_goto (tgt := 143) dX7_doIt_131 (by decide) ?_
              have v72 : vp_in x44 51 := uk_vin 51 rfl (by first | decide | lia | grind) (by first | decide | lia | grind)
              have b73 := uk_cl v72
              refine g_iast rfl rfl v72 dX7_doIt_143 ?_
              refine g_mem (fun u74 eu74 => ?_)
              have hu74 : iv u74 := by rw [eu74]; exact iv_st hu40 (by unfold uk_is51; decide) (by first | decide | lia | grind) (by first | decide | lia | grind) (fun q => by first | decide | lia | grind) (fun q => by first | decide | lia | grind) (fun q => by first | decide | lia | grind)
              have fu74 : fk [62] [] u u74 := by rw [eu74]; exact fk_up fu40 (by decide) (fun q => absurd q (by decide))
              have rau74 : ra u74 := by rw [eu74]; exact ra_at rau40 (by first | decide | lia | grind) (by first | decide | lia | grind)
              have C75 : u74.1 62 = (upd ((upd ((upd ((upd (u.1 62) (x9 : Int32).toNatClampNeg x12)) (x21 : Int32).toNatClampNeg x24)) (x33 : Int32).toNatClampNeg x37)) (x44 : Int32).toNatClampNeg x71) := by rw [eu74, uk_up_self, C41]
              have C76 : u74.1 64 = u.1 64 := by rw [eu74]; exact (uk_up_oc (by decide)).trans C42
              have C77 : u74.1 65 = u.1 65 := by rw [eu74]; exact (uk_up_oc (by decide)).trans C43
              refine g_aload_n dX7_doIt_144 rfl ?_
              refine f_X7_13 rfl rfl dX7_doIt_145 ?_
              refine g_bipush (v := 41) dX7_doIt_148 (by decide) ?_
              refine g_dup2 dX7_doIt_150 rfl rfl ?_
              have v78 : vp_in 41 51 := uk_vin 51 rfl (by first | decide | lia | grind) (by first | decide | lia | grind)
              refine g_iald rfl rfl v78 dX7_doIt_151 ?_
              refine g_topi (fun x79 ex79 => ?_)
              have bx79 := uk_cl v78
              have px79 : x79 = ((upd ((upd ((upd ((upd (u.1 62) (x9 : Int32).toNatClampNeg x12)) (x21 : Int32).toNatClampNeg x24)) (x33 : Int32).toNatClampNeg x37)) (x44 : Int32).toNatClampNeg x71)) (41 : Int32).toNatClampNeg := ex79.trans (congrFun C75 _)
              refine g_iconst (v := 1) dX7_doIt_152 (by decide) ?_
              refine g_iadd dX7_doIt_153 ?_
              refine g_topi (fun x80 ex80 => ?_)
              have v81 : vp_in 41 51 := uk_vin 51 rfl (by first | decide | lia | grind) (by first | decide | lia | grind)
              have b82 := uk_cl v81
              refine g_iast rfl rfl v81 dX7_doIt_154 ?_
              refine g_mem (fun u83 eu83 => ?_)
              have hu83 : iv u83 := by rw [eu83]; exact iv_st hu74 (by unfold uk_is51; decide) (by first | decide | lia | grind) (by first | decide | lia | grind) (fun q => by first | decide | lia | grind) (fun q => by first | decide | lia | grind) (fun q => by first | decide | lia | grind)
              have fu83 : fk [62] [] u u83 := by rw [eu83]; exact fk_up fu74 (by decide) (fun q => absurd q (by decide))
              have rau83 : ra u83 := by rw [eu83]; exact ra_at rau74 (by first | decide | lia | grind) (by first | decide | lia | grind)
              have C84 : u83.1 62 = (upd ((upd ((upd ((upd ((upd (u.1 62) (x9 : Int32).toNatClampNeg x12)) (x21 : Int32).toNatClampNeg x24)) (x33 : Int32).toNatClampNeg x37)) (x44 : Int32).toNatClampNeg x71)) (41 : Int32).toNatClampNeg x80) := by rw [eu83, uk_up_self, C75]
              have C85 : u83.1 64 = u.1 64 := by rw [eu83]; exact (uk_up_oc (by decide)).trans C76
              have C86 : u83.1 65 = u.1 65 := by rw [eu83]; exact (uk_up_oc (by decide)).trans C77
              exact g_vret dX7_doIt_155 rfl ⟨⟨rfl, hu83, fu83, rau83⟩, (by subst eu83; subst ex80; subst ex79; subst eu74; subst ex71; subst ex70; subst ex68; subst ex48; subst ex46; subst ex44; subst eu40; subst ex37; subst ex35; subst ex33; subst ex32; subst eu27; subst ex24; subst ex23; subst ex21; subst ex20; subst eu15; subst ex12; subst ex11; subst ex9; subst ex7; unfold ee_W at ex1; subst ex1; exact (if_pos c8).trans ((if_pos c49).trans (rfl)) : e_X7_doIt_b u g = u83).symm⟩
        · exact absurd c36 (by decide)
      · have zc8 := nx7 c8
        refine g_iconst (v := 1) dX7_doIt_31 (by decide) ?_
        refine g_goto (tgt := 36) dX7_doIt_32 (by decide) ?_
        refine g_istore dX7_doIt_36 (by decide) ?_
        refine g_pick (lv' := [(0, .ref (uk_ad G 60)), (1, .int g), (2, .int x1), (3, .int 1), (4, .int 1)]) [0, 1, 2, 3, 4] rfl ?_
        refine g_aload_n dX7_doIt_38 rfl ?_
        refine f_X7_13 rfl rfl dX7_doIt_39 ?_
        refine g_iconst (v := 0) dX7_doIt_42 (by decide) ?_
        refine g_iload_n dX7_doIt_43 rfl ?_
        refine g_iadd dX7_doIt_44 ?_
        refine g_topi (fun x87 ex87 => ?_)
        have ox87 : x87 = x1 := by rw [ex87, Int32.zero_add]
        refine g_dup2 dX7_doIt_45 rfl rfl ?_
        have v88 : vp_in x87 51 := uk_vin 51 rfl (by first | decide | lia | grind) (by first | decide | lia | grind)
        refine g_iald rfl rfl v88 dX7_doIt_46 ?_
        refine g_topi (fun x89 ex89 => ?_)
        have bx89 := uk_cl v88
        have rx89 : 0 ≤ x89 ∧ x89 ≤ 40 := by rw [ex89]; exact sg_0 hu (by unfold uk_is51; decide) (by first | lia | grind) (by first | lia | grind)
        have px89 : x89 = (u.1 62) (x87 : Int32).toNatClampNeg := ex89.trans (congrFun C62 _)
        have yx89 : x89 = cM := by rw [px89, show (x87 : Int32) = (g - 10) by lia]; exact hcM
        refine g_iload_n dX7_doIt_47 rfl ?_
        refine g_isub dX7_doIt_48 ?_
        refine g_topi (fun x90 ex90 => ?_)
        have v91 : vp_in x87 51 := uk_vin 51 rfl (by first | decide | lia | grind) (by first | decide | lia | grind)
        have b92 := uk_cl v91
        refine g_iast rfl rfl v91 dX7_doIt_49 ?_
        refine g_mem (fun u93 eu93 => ?_)
        have hu93 : iv u93 := by rw [eu93]; exact iv_st hu (by unfold uk_is51; decide) (by lia) (by lia) (fun _ => dl_2 ex90 yx89 p6 rM.2) (fun q => absurd q (by lia)) (fun q => absurd q (by lia))
        have fu93 : fk [62] [] u u93 := by rw [eu93]; exact fk_up f0 (by decide) (fun q => absurd q (by decide))
        have rau93 : ra u93 := by rw [eu93]; exact ra_at hra (by first | decide | lia | grind) (by first | decide | lia | grind)
        have C94 : u93.1 62 = (upd (u.1 62) (x87 : Int32).toNatClampNeg x90) := by rw [eu93, uk_up_self, C62]
        have C95 : u93.1 64 = u.1 64 := by rw [eu93]; exact (uk_up_oc (by decide)).trans C64
        have C96 : u93.1 65 = u.1 65 := by rw [eu93]; exact (uk_up_oc (by decide)).trans C65
        refine g_aload_n dX7_doIt_50 rfl ?_
        refine f_X7_13 rfl rfl dX7_doIt_51 ?_
        refine g_iconst (v := 0) dX7_doIt_54 (by decide) ?_
        refine g_aload_n dX7_doIt_55 rfl ?_
        refine f_X7_20 rfl rfl dX7_doIt_56 ?_
        refine g_iload_n dX7_doIt_59 rfl ?_
        have v97 : vp_in x1 8 := uk_vin 8 rfl (by first | decide | lia | grind) (by first | decide | lia | grind)
        refine g_iald rfl rfl v97 dX7_doIt_60 ?_
        refine g_topi (fun x98 ex98 => ?_)
        have bx98 := uk_cl v97
        have rx98 : (-4) ≤ x98 ∧ x98 ≤ 7 := by rw [ex98]; exact iv_at hu93 _ _ (uk_pick1 _ (by omega))
        have px98 : x98 = (u.1 64) (x1 : Int32).toNatClampNeg := ex98.trans (congrFun C95 _)
        have yx98 : x98 = pA := by rw [px98, show (x1 : Int32) = (g - 10) by lia]; exact hpA
        refine g_iadd dX7_doIt_61 ?_
        refine g_topi (fun x99 ex99 => ?_)
        have ox99 : x99 = x98 := by rw [ex99, Int32.zero_add]
        refine g_dup2 dX7_doIt_62 rfl rfl ?_
        have v100 : vp_in x99 51 := uk_vin 51 rfl (by first | decide | lia | grind) (by first | decide | lia | grind)
        refine g_iald rfl rfl v100 dX7_doIt_63 ?_
        refine g_topi (fun x101 ex101 => ?_)
        have bx101 := uk_cl v100
        have rx101 : 0 ≤ x101 ∧ x101 ≤ 40 := by rw [ex101]; exact sg_0 hu93 (by unfold uk_is51; decide) (by first | lia | grind) (by first | lia | grind)
        have px101 : x101 = ((upd (u.1 62) (x87 : Int32).toNatClampNeg x90)) (x99 : Int32).toNatClampNeg := ex101.trans (congrFun C94 _)
        have lx101 : x101 = u.1 62 (x99 : Int32).toNatClampNeg := by rw [px101]; exact upd_ne (by lia) (by lia) (by lia)
        have yx101 : x101 = cA := by rw [lx101, show (x99 : Int32) = pA by lia]; exact hcA
        refine g_iload_n dX7_doIt_64 rfl ?_
        refine g_iadd dX7_doIt_65 ?_
        refine g_topi (fun x102 ex102 => ?_)
        have v103 : vp_in x99 51 := uk_vin 51 rfl (by first | decide | lia | grind) (by first | decide | lia | grind)
        have b104 := uk_cl v103
        refine g_iast rfl rfl v103 dX7_doIt_66 ?_
        refine g_mem (fun u105 eu105 => ?_)
        have hu105 : iv u105 := by rw [eu105]; exact iv_st hu93 (by unfold uk_is51; decide) (by lia) (by lia) (fun _ => dl_4 ex102 yx101 rA.1 p7) (fun q => absurd q (by lia)) (fun q => absurd q (by lia))
        have fu105 : fk [62] [] u u105 := by rw [eu105]; exact fk_up fu93 (by decide) (fun q => absurd q (by decide))
        have rau105 : ra u105 := by rw [eu105]; exact ra_at rau93 (by first | decide | lia | grind) (by first | decide | lia | grind)
        have C106 : u105.1 62 = (upd ((upd (u.1 62) (x87 : Int32).toNatClampNeg x90)) (x99 : Int32).toNatClampNeg x102) := by rw [eu105, uk_up_self, C94]
        have C107 : u105.1 64 = u.1 64 := by rw [eu105]; exact (uk_up_oc (by decide)).trans C95
        have C108 : u105.1 65 = u.1 65 := by rw [eu105]; exact (uk_up_oc (by decide)).trans C96
        refine g_aload_n dX7_doIt_67 rfl ?_
        refine f_X7_13 rfl rfl dX7_doIt_68 ?_
        refine g_iconst (v := 0) dX7_doIt_71 (by decide) ?_
        refine g_aload_n dX7_doIt_72 rfl ?_
        refine f_X7_23 rfl rfl dX7_doIt_73 ?_
        refine g_iload_n dX7_doIt_76 rfl ?_
        have v109 : vp_in x1 8 := uk_vin 8 rfl (by first | decide | lia | grind) (by first | decide | lia | grind)
        refine g_iald rfl rfl v109 dX7_doIt_77 ?_
        refine g_topi (fun x110 ex110 => ?_)
        have bx110 := uk_cl v109
        have rx110 : (-4) ≤ x110 ∧ x110 ≤ 7 := by rw [ex110]; exact iv_at hu105 _ _ (uk_pick1 _ (by omega))
        have px110 : x110 = (u.1 65) (x1 : Int32).toNatClampNeg := ex110.trans (congrFun C108 _)
        have yx110 : x110 = pB := by rw [px110, show (x1 : Int32) = (g - 10) by lia]; exact hpB
        refine g_iadd dX7_doIt_78 ?_
        refine g_topi (fun x111 ex111 => ?_)
        have ox111 : x111 = x110 := by rw [ex111, Int32.zero_add]
        refine g_dup2 dX7_doIt_79 rfl rfl ?_
        have v112 : vp_in x111 51 := uk_vin 51 rfl (by first | decide | lia | grind) (by first | decide | lia | grind)
        refine g_iald rfl rfl v112 dX7_doIt_80 ?_
        refine g_topi (fun x113 ex113 => ?_)
        have bx113 := uk_cl v112
        have rx113 : 0 ≤ x113 ∧ x113 ≤ 40 := by rw [ex113]; exact sg_0 hu105 (by unfold uk_is51; decide) (by first | lia | grind) (by first | lia | grind)
        have px113 : x113 = ((upd ((upd (u.1 62) (x87 : Int32).toNatClampNeg x90)) (x99 : Int32).toNatClampNeg x102)) (x111 : Int32).toNatClampNeg := ex113.trans (congrFun C106 _)
        have lx113 : (x111 = x99 → x113 = x102) ∧ (¬ x111 = x99 → x113 = u.1 62 (x111 : Int32).toNatClampNeg) := ⟨fun q => by rw [px113]; exact upd_at q, fun q => by rw [px113, upd_ne (by lia) (by lia) q]; exact upd_ne (by lia) (by lia) (by lia)⟩
        have yx113 : (pB = pA → x113 = x102) ∧ (¬ pB = pA → x113 = cB) := ⟨fun q => lx113.1 (by lia), fun q => by rw [lx113.2 (by lia), show (x111 : Int32) = pB by lia]; exact hcB⟩
        refine g_iload dX7_doIt_81 rfl ?_
        refine g_if_eq (tgt := 90) dX7_doIt_83 (by decide) (fun c114 => ?_) (fun c114 => ?_)
        · exact absurd c114 (by decide)
        · refine g_iload_n dX7_doIt_86 rfl ?_
          refine g_goto (tgt := 91) dX7_doIt_87 (by decide) ?_
          refine g_iadd dX7_doIt_91 ?_
          refine g_topi (fun x115 ex115 => ?_)
          have v116 : vp_in x111 51 := uk_vin 51 rfl (by first | decide | lia | grind) (by first | decide | lia | grind)
          have b117 := uk_cl v116
          refine g_iast rfl rfl v116 dX7_doIt_92 ?_
          refine g_mem (fun u118 eu118 => ?_)
          have hu118 : iv u118 := by rw [eu118]; exact iv_st hu105 (by unfold uk_is51; decide) (by lia) (by lia) (fun _ => dl_6 ex115 yx113 ex102 yx101 (p8 (by rw [← nx1]; assumption)) (p9 (by rw [← nx1]; assumption)) ⟨rA.1, p7⟩ rB.1) (fun q => absurd q (by lia)) (fun q => absurd q (by lia))
          have fu118 : fk [62] [] u u118 := by rw [eu118]; exact fk_up fu105 (by decide) (fun q => absurd q (by decide))
          have rau118 : ra u118 := by rw [eu118]; exact ra_at rau105 (by first | decide | lia | grind) (by first | decide | lia | grind)
          have C119 : u118.1 62 = (upd ((upd ((upd (u.1 62) (x87 : Int32).toNatClampNeg x90)) (x99 : Int32).toNatClampNeg x102)) (x111 : Int32).toNatClampNeg x115) := by rw [eu118, uk_up_self, C106]
          have C120 : u118.1 64 = u.1 64 := by rw [eu118]; exact (uk_up_oc (by decide)).trans C107
          have C121 : u118.1 65 = u.1 65 := by rw [eu118]; exact (uk_up_oc (by decide)).trans C108
          refine g_aload_n dX7_doIt_93 rfl ?_
          refine f_X7_13 rfl rfl dX7_doIt_94 ?_
          refine g_bipush (v := 8) dX7_doIt_97 (by decide) ?_
          refine g_iload_n dX7_doIt_99 rfl ?_
          refine g_iadd dX7_doIt_100 ?_
          refine g_topi (fun x122 ex122 => ?_)
          refine g_iload_n dX7_doIt_101 rfl ?_
          refine g_bipush (v := 10) dX7_doIt_102 (by decide) ?_
          refine g_icmp_lt (tgt := 134) dX7_doIt_104 (by decide) (fun c123 => ?_) (fun c123 => ?_)
          · exact absurd c123 (by lia)
          · refine g_aload_n dX7_doIt_107 rfl ?_
            refine f_X7_13 rfl rfl dX7_doIt_108 ?_
            refine g_bipush (v := 32) dX7_doIt_111 (by decide) ?_
            refine g_iload_n dX7_doIt_113 rfl ?_
            refine g_iadd dX7_doIt_114 ?_
            refine g_topi (fun x124 ex124 => ?_)
            have v125 : vp_in x124 51 := uk_vin 51 rfl (by first | decide | lia | grind) (by first | decide | lia | grind)
            refine g_iald rfl rfl v125 dX7_doIt_115 ?_
            refine g_topi (fun x126 ex126 => ?_)
            have bx126 := uk_cl v125
            have px126 : x126 = ((upd ((upd ((upd (u.1 62) (x87 : Int32).toNatClampNeg x90)) (x99 : Int32).toNatClampNeg x102)) (x111 : Int32).toNatClampNeg x115)) (x124 : Int32).toNatClampNeg := ex126.trans (congrFun C119 _)
            refine g_iconst (v := 3) dX7_doIt_116 (by decide) ?_
            refine g_icmp_ne (tgt := 134) dX7_doIt_117 (by decide) (fun c127 => ?_) (fun c127 => ?_)
            · refine g_aload_n dX7_doIt_134 rfl ?_
              refine f_X7_13 rfl rfl dX7_doIt_135 ?_
              refine g_bipush (v := 8) dX7_doIt_138 (by decide) ?_
              refine g_iload_n dX7_doIt_140 rfl ?_
              refine g_iadd dX7_doIt_141 ?_
              refine g_topi (fun x128 ex128 => ?_)
              have v129 : vp_in x128 51 := uk_vin 51 rfl (by first | decide | lia | grind) (by first | decide | lia | grind)
              refine g_iald rfl rfl v129 dX7_doIt_142 ?_
              refine g_topi (fun x130 ex130 => ?_)
              have bx130 := uk_cl v129
              have px130 : x130 = ((upd ((upd ((upd (u.1 62) (x87 : Int32).toNatClampNeg x90)) (x99 : Int32).toNatClampNeg x102)) (x111 : Int32).toNatClampNeg x115)) (x128 : Int32).toNatClampNeg := ex130.trans (congrFun C119 _)
              have v131 : vp_in x122 51 := uk_vin 51 rfl (by first | decide | lia | grind) (by first | decide | lia | grind)
              have b132 := uk_cl v131
              refine g_iast rfl rfl v131 dX7_doIt_143 ?_
              refine g_mem (fun u133 eu133 => ?_)
              have hu133 : iv u133 := by rw [eu133]; exact iv_st hu118 (by unfold uk_is51; decide) (by first | decide | lia | grind) (by first | decide | lia | grind) (fun q => by first | decide | lia | grind) (fun q => by first | decide | lia | grind) (fun q => by first | decide | lia | grind)
              have fu133 : fk [62] [] u u133 := by rw [eu133]; exact fk_up fu118 (by decide) (fun q => absurd q (by decide))
              have rau133 : ra u133 := by rw [eu133]; exact ra_at rau118 (by first | decide | lia | grind) (by first | decide | lia | grind)
              have C134 : u133.1 62 = (upd ((upd ((upd ((upd (u.1 62) (x87 : Int32).toNatClampNeg x90)) (x99 : Int32).toNatClampNeg x102)) (x111 : Int32).toNatClampNeg x115)) (x122 : Int32).toNatClampNeg x130) := by rw [eu133, uk_up_self, C119]
              have C135 : u133.1 64 = u.1 64 := by rw [eu133]; exact (uk_up_oc (by decide)).trans C120
              have C136 : u133.1 65 = u.1 65 := by rw [eu133]; exact (uk_up_oc (by decide)).trans C121
              refine g_aload_n dX7_doIt_144 rfl ?_
              refine f_X7_13 rfl rfl dX7_doIt_145 ?_
              refine g_bipush (v := 41) dX7_doIt_148 (by decide) ?_
              refine g_dup2 dX7_doIt_150 rfl rfl ?_
              have v137 : vp_in 41 51 := uk_vin 51 rfl (by first | decide | lia | grind) (by first | decide | lia | grind)
              refine g_iald rfl rfl v137 dX7_doIt_151 ?_
              refine g_topi (fun x138 ex138 => ?_)
              have bx138 := uk_cl v137
              have px138 : x138 = ((upd ((upd ((upd ((upd (u.1 62) (x87 : Int32).toNatClampNeg x90)) (x99 : Int32).toNatClampNeg x102)) (x111 : Int32).toNatClampNeg x115)) (x122 : Int32).toNatClampNeg x130)) (41 : Int32).toNatClampNeg := ex138.trans (congrFun C134 _)
              refine g_iconst (v := 1) dX7_doIt_152 (by decide) ?_
              refine g_iadd dX7_doIt_153 ?_
              refine g_topi (fun x139 ex139 => ?_)
              have v140 : vp_in 41 51 := uk_vin 51 rfl (by first | decide | lia | grind) (by first | decide | lia | grind)
              have b141 := uk_cl v140
              refine g_iast rfl rfl v140 dX7_doIt_154 ?_
              refine g_mem (fun u142 eu142 => ?_)
              have hu142 : iv u142 := by rw [eu142]; exact iv_st hu133 (by unfold uk_is51; decide) (by first | decide | lia | grind) (by first | decide | lia | grind) (fun q => by first | decide | lia | grind) (fun q => by first | decide | lia | grind) (fun q => by first | decide | lia | grind)
              have fu142 : fk [62] [] u u142 := by rw [eu142]; exact fk_up fu133 (by decide) (fun q => absurd q (by decide))
              have rau142 : ra u142 := by rw [eu142]; exact ra_at rau133 (by first | decide | lia | grind) (by first | decide | lia | grind)
              have C143 : u142.1 62 = (upd ((upd ((upd ((upd ((upd (u.1 62) (x87 : Int32).toNatClampNeg x90)) (x99 : Int32).toNatClampNeg x102)) (x111 : Int32).toNatClampNeg x115)) (x122 : Int32).toNatClampNeg x130)) (41 : Int32).toNatClampNeg x139) := by rw [eu142, uk_up_self, C134]
              have C144 : u142.1 64 = u.1 64 := by rw [eu142]; exact (uk_up_oc (by decide)).trans C135
              have C145 : u142.1 65 = u.1 65 := by rw [eu142]; exact (uk_up_oc (by decide)).trans C136
              exact g_vret dX7_doIt_155 rfl ⟨⟨rfl, hu142, fu142, rau142⟩, (by subst eu142; subst ex139; subst ex138; subst eu133; subst ex130; subst ex128; subst ex126; subst ex124; subst ex122; subst eu118; subst ex115; subst ex113; subst ex111; subst ex110; subst eu105; subst ex102; subst ex101; subst ex99; subst ex98; subst eu93; subst ex90; subst ex89; subst ex87; subst ex7; unfold ee_W at ex1; subst ex1; exact (if_neg c8).trans ((if_neg c127).trans (rfl)) : e_X7_doIt_b u g = u142).symm⟩
            · refine g_iconst (v := 1) dX7_doIt_120 (by decide) ?_
              refine g_aload_n dX7_doIt_121 rfl ?_
              refine f_X7_13 rfl rfl dX7_doIt_122 ?_
              refine g_bipush (v := 8) dX7_doIt_125 (by decide) ?_
              refine g_iload_n dX7_doIt_127 rfl ?_
              refine g_iadd dX7_doIt_128 ?_
              refine g_topi (fun x146 ex146 => ?_)
              have v147 : vp_in x146 51 := uk_vin 51 rfl (by first | decide | lia | grind) (by first | decide | lia | grind)
              refine g_iald rfl rfl v147 dX7_doIt_129 ?_
              refine g_topi (fun x148 ex148 => ?_)
              have bx148 := uk_cl v147
              have px148 : x148 = ((upd ((upd ((upd (u.1 62) (x87 : Int32).toNatClampNeg x90)) (x99 : Int32).toNatClampNeg x102)) (x111 : Int32).toNatClampNeg x115)) (x146 : Int32).toNatClampNeg := ex148.trans (congrFun C119 _)
              refine g_isub dX7_doIt_130 ?_
              refine g_topi (fun x149 ex149 => ?_)
              refine g_goto (tgt := 143) dX7_doIt_131 (by decide) ?_
              have v150 : vp_in x122 51 := uk_vin 51 rfl (by first | decide | lia | grind) (by first | decide | lia | grind)
              have b151 := uk_cl v150
              refine g_iast rfl rfl v150 dX7_doIt_143 ?_
              refine g_mem (fun u152 eu152 => ?_)
              have hu152 : iv u152 := by rw [eu152]; exact iv_st hu118 (by unfold uk_is51; decide) (by first | decide | lia | grind) (by first | decide | lia | grind) (fun q => by first | decide | lia | grind) (fun q => by first | decide | lia | grind) (fun q => by first | decide | lia | grind)
              have fu152 : fk [62] [] u u152 := by rw [eu152]; exact fk_up fu118 (by decide) (fun q => absurd q (by decide))
              have rau152 : ra u152 := by rw [eu152]; exact ra_at rau118 (by first | decide | lia | grind) (by first | decide | lia | grind)
              have C153 : u152.1 62 = (upd ((upd ((upd ((upd (u.1 62) (x87 : Int32).toNatClampNeg x90)) (x99 : Int32).toNatClampNeg x102)) (x111 : Int32).toNatClampNeg x115)) (x122 : Int32).toNatClampNeg x149) := by rw [eu152, uk_up_self, C119]
              have C154 : u152.1 64 = u.1 64 := by rw [eu152]; exact (uk_up_oc (by decide)).trans C120
              have C155 : u152.1 65 = u.1 65 := by rw [eu152]; exact (uk_up_oc (by decide)).trans C121
              refine g_aload_n dX7_doIt_144 rfl ?_
              refine f_X7_13 rfl rfl dX7_doIt_145 ?_
              refine g_bipush (v := 41) dX7_doIt_148 (by decide) ?_
              refine g_dup2 dX7_doIt_150 rfl rfl ?_
              have v156 : vp_in 41 51 := uk_vin 51 rfl (by first | decide | lia | grind) (by first | decide | lia | grind)
              refine g_iald rfl rfl v156 dX7_doIt_151 ?_
              refine g_topi (fun x157 ex157 => ?_)
              have bx157 := uk_cl v156
              have px157 : x157 = ((upd ((upd ((upd ((upd (u.1 62) (x87 : Int32).toNatClampNeg x90)) (x99 : Int32).toNatClampNeg x102)) (x111 : Int32).toNatClampNeg x115)) (x122 : Int32).toNatClampNeg x149)) (41 : Int32).toNatClampNeg := ex157.trans (congrFun C153 _)
              refine g_iconst (v := 1) dX7_doIt_152 (by decide) ?_
              refine g_iadd dX7_doIt_153 ?_
              refine g_topi (fun x158 ex158 => ?_)
              have v159 : vp_in 41 51 := uk_vin 51 rfl (by first | decide | lia | grind) (by first | decide | lia | grind)
              have b160 := uk_cl v159
              refine g_iast rfl rfl v159 dX7_doIt_154 ?_
              refine g_mem (fun u161 eu161 => ?_)
              have hu161 : iv u161 := by rw [eu161]; exact iv_st hu152 (by unfold uk_is51; decide) (by first | decide | lia | grind) (by first | decide | lia | grind) (fun q => by first | decide | lia | grind) (fun q => by first | decide | lia | grind) (fun q => by first | decide | lia | grind)
              have fu161 : fk [62] [] u u161 := by rw [eu161]; exact fk_up fu152 (by decide) (fun q => absurd q (by decide))
              have rau161 : ra u161 := by rw [eu161]; exact ra_at rau152 (by first | decide | lia | grind) (by first | decide | lia | grind)
              have C162 : u161.1 62 = (upd ((upd ((upd ((upd ((upd (u.1 62) (x87 : Int32).toNatClampNeg x90)) (x99 : Int32).toNatClampNeg x102)) (x111 : Int32).toNatClampNeg x115)) (x122 : Int32).toNatClampNeg x149)) (41 : Int32).toNatClampNeg x158) := by rw [eu161, uk_up_self, C153]
              have C163 : u161.1 64 = u.1 64 := by rw [eu161]; exact (uk_up_oc (by decide)).trans C154
              have C164 : u161.1 65 = u.1 65 := by rw [eu161]; exact (uk_up_oc (by decide)).trans C155
              exact g_vret dX7_doIt_155 rfl ⟨⟨rfl, hu161, fu161, rau161⟩, (by subst eu161; subst ex158; subst ex157; subst eu152; subst ex149; subst ex148; subst ex146; subst ex126; subst ex124; subst ex122; subst eu118; subst ex115; subst ex113; subst ex111; subst ex110; subst eu105; subst ex102; subst ex101; subst ex99; subst ex98; subst eu93; subst ex90; subst ex89; subst ex87; subst ex7; unfold ee_W at ex1; subst ex1; exact (if_neg c8).trans ((if_pos c127).trans (rfl)) : e_X7_doIt_b u g = u161).symm⟩
  · exact absurd c2 (by lia)
def e_X7_doIt (u : uk_Mem) (g : Int32) : uk_Mem := if g < 10 then e_X7_doIt_a u g else e_X7_doIt_b u g
abbrev qe_X7_doIt (u : uk_Mem) (g : Int32) (r : Option Value) (u' : uk_Mem) : Prop := (q_X7_doIt u g r u') ∧ (u' = e_X7_doIt u g)
theorem x_X7_doIt {G : uk_D} (hs : uk_Sep G) {u : uk_Mem} (hu : iv u) (hra : ra u) (g : Int32) (p0 : (0 ≤ g ∧ g ≤ 7) ∨ (10 ≤ g ∧ g ≤ 17)) (p1 : (g < 10 → 0 ≤ (u.1 64 (g).toNatClampNeg) ∧ (u.1 64 (g).toNatClampNeg) < g ∧ 0 ≤ (u.1 65 (g).toNatClampNeg) ∧ (u.1 65 (g).toNatClampNeg) < g ∧ u.1 62 (g).toNatClampNeg < 40 ∧ ((u.1 64 (g).toNatClampNeg) = (u.1 65 (g).toNatClampNeg) → 2 ≤ u.1 62 (u.1 64 (g).toNatClampNeg).toNatClampNeg) ∧ (¬ (u.1 64 (g).toNatClampNeg) = (u.1 65 (g).toNatClampNeg) → 1 ≤ u.1 62 (u.1 64 (g).toNatClampNeg).toNatClampNeg ∧ 1 ≤ u.1 62 (u.1 65 (g).toNatClampNeg).toNatClampNeg))) (p2 : (10 ≤ g → 0 ≤ (u.1 64 ((g - 10)).toNatClampNeg) ∧ (u.1 64 ((g - 10)).toNatClampNeg) < (g - 10) ∧ 0 ≤ (u.1 65 ((g - 10)).toNatClampNeg) ∧ (u.1 65 ((g - 10)).toNatClampNeg) < (g - 10) ∧ 1 ≤ u.1 62 ((g - 10)).toNatClampNeg ∧ u.1 62 (u.1 64 ((g - 10)).toNatClampNeg).toNatClampNeg < 40 ∧ ((u.1 62 (32 + (g - 10)).toNatClampNeg = 0 ∨ (u.1 62 (32 + (g - 10)).toNatClampNeg = 3 ∧ u.1 62 (8 + (g - 10)).toNatClampNeg = 1)) → (u.1 64 ((g - 10)).toNatClampNeg) = (u.1 65 ((g - 10)).toNatClampNeg) → u.1 62 (u.1 64 ((g - 10)).toNatClampNeg).toNatClampNeg + 2 ≤ 40) ∧ ((u.1 62 (32 + (g - 10)).toNatClampNeg = 0 ∨ (u.1 62 (32 + (g - 10)).toNatClampNeg = 3 ∧ u.1 62 (8 + (g - 10)).toNatClampNeg = 1)) → ¬ (u.1 64 ((g - 10)).toNatClampNeg) = (u.1 65 ((g - 10)).toNatClampNeg) → u.1 62 (u.1 65 ((g - 10)).toNatClampNeg).toNatClampNeg < 40))) (d : Nat) : uk_Meth G (d + 1) mX7_doIt [.ref (uk_ad G 60), .int g] u (qe_X7_doIt u g) := by
  rcases p0 with q | q
  · obtain ⟨a0, a1, a2, a3, a4, a5, a6⟩ := p1 (by grind)
    exact uk_Meth.imp (x_X7_doIt_a hs hu hra g q.1 q.2 a0 a1 a2 a3 a4 a5 a6 d) (fun r u' h => ⟨h.1, h.2.trans (if_pos (by grind)).symm⟩)
  · obtain ⟨a0, a1, a2, a3, a4, a5, a6, a7⟩ := p2 q.1
    exact uk_Meth.imp (x_X7_doIt_b hs hu hra g q.1 q.2 a0 a1 a2 a3 a4 a5 a6 a7 d) (fun r u' h => ⟨h.1, h.2.trans (if_neg (by grind)).symm⟩)

def e_X7_isDoing (u : uk_Mem) (g : Int32) : Int32 := let x4 : Int32 := (e_X7_isStuff u g); if x4 = 0 then (let x6 : Int32 := g - (10 : Int32); let x10 : Int32 := (e_X7_isStuff u x6); if x10 = 0 then ((0 : Int32)) else ((1 : Int32))) else ((1 : Int32))
abbrev qe_X7_isDoing (u : uk_Mem) (g : Int32) (r : Option Value) (u' : uk_Mem) : Prop := (q_X7_isDoing u g r u') ∧ (r = some (.int (e_X7_isDoing u g)))
set_option maxHeartbeats 4000000 in
set_option maxRecDepth 20000 in
theorem x_X7_isDoing {G : uk_D} (hs : uk_Sep G) {u : uk_Mem} (hu : iv u) (g : Int32) (d : Nat) : uk_Meth G (d + 2) mX7_isDoing [.ref (uk_ad G 60), .int g] u (qe_X7_isDoing u g) := by
  refine uk_Meth.of hs (by decide) (Nat.le_of_ble_eq_true rfl) (fun X => ?_)
  refine g_aload_n dX7_isDoing_0 rfl ?_
  refine g_iload_n dX7_isDoing_1 rfl ?_
  refine cl_X7_163 (c := 60) (As := [.int g]) rfl (x_X7_isStuff (G := G) hs hu  g  (d)) rfl (by omega) rfl rfl (Nat.le_of_ble_eq_true rfl) dX7_isDoing_2 (fun r1 u2 q3 => ?_)
  obtain ⟨q3, Eq3⟩ := q3
  obtain ⟨⟨x4, rfl, tx4, nx4, zx4⟩, mq3⟩ := q3
  rw [mq3]
  have ex4 : x4 = (e_X7_isStuff u g) := ee_v Eq3
  refine g_if_ne (tgt := 19) dX7_isDoing_5 (by decide) (fun c5 => ?_) (fun c5 => ?_)
  · have zc5 := nx4 c5
    refine g_iconst (v := 1) dX7_isDoing_19 (by decide) ?_
    refine g_goto (tgt := 24) dX7_isDoing_20 (by decide) ?_
    exact g_iret (ty := .boolean) dX7_isDoing_24 rfl rfl ⟨⟨⟨1, rfl, Or.inr rfl, fun _ => by first | trivial | lia | grind, fun q => absurd q (by decide)⟩, rfl⟩, ee_p (by subst ex4; exact (if_neg c5).trans (rfl))⟩
  · have zc5 := zx4 c5
    refine g_aload_n dX7_isDoing_8 rfl ?_
    refine g_iload_n dX7_isDoing_9 rfl ?_
    refine g_bipush (v := 10) dX7_isDoing_10 (by decide) ?_
    refine g_isub dX7_isDoing_12 ?_
    refine g_topi (fun x6 ex6 => ?_)
    refine cl_X7_163 (c := 60) (As := [.int x6]) rfl (x_X7_isStuff (G := G) hs hu  x6  (d)) rfl (by omega) rfl rfl (Nat.le_of_ble_eq_true rfl) dX7_isDoing_13 (fun r7 u8 q9 => ?_)
    obtain ⟨q9, Eq9⟩ := q9
    obtain ⟨⟨x10, rfl, tx10, nx10, zx10⟩, mq9⟩ := q9
    rw [mq9]
    have ex10 : x10 = (e_X7_isStuff u x6) := ee_v Eq9
    refine g_if_eq (tgt := 23) dX7_isDoing_16 (by decide) (fun c11 => ?_) (fun c11 => ?_)
    · have zc11 := zx10 c11
      refine g_iconst (v := 0) dX7_isDoing_23 (by decide) ?_
      exact g_iret (ty := .boolean) dX7_isDoing_24 rfl rfl ⟨⟨⟨0, rfl, Or.inl rfl, fun q => absurd rfl q, fun _ => by first | trivial | lia | grind⟩, rfl⟩, ee_p (by subst ex10; subst ex6; subst ex4; exact (if_pos c5).trans ((if_pos c11).trans (rfl)))⟩
    · have zc11 := nx10 c11
      refine g_iconst (v := 1) dX7_isDoing_19 (by decide) ?_
      refine g_goto (tgt := 24) dX7_isDoing_20 (by decide) ?_
      exact g_iret (ty := .boolean) dX7_isDoing_24 rfl rfl ⟨⟨⟨1, rfl, Or.inr rfl, fun _ => by first | trivial | lia | grind, fun q => absurd q (by decide)⟩, rfl⟩, ee_p (by subst ex10; subst ex6; subst ex4; exact (if_pos c5).trans ((if_neg c11).trans (rfl)))⟩
def l_X7_allOf_4 (u : uk_Mem) (w : Int32) : Nat → Int32 → Int32 → Int32
  | 0, _, _ => 0
  | K9 + 1, i3, w2 => let x4 : Int32 := u.1 60 3; if x4 ≤ i3 then (w2) else (let x7 : Int32 := (0 : Int32) + i3; let x9 : Int32 := u.1 62 x7.toNatClampNeg; if w = 0 then (let x16 : Int32 := x9 * (1 : Int32); let x17 : Int32 := w2 + x16; l_X7_allOf_4 u w K9 (i3 + 1) x17) else (let x11 : Int32 := w + i3; let x13 : Int32 := u.1 62 x11.toNatClampNeg; let x14 : Int32 := x9 * x13; let x15 : Int32 := w2 + x14; l_X7_allOf_4 u w K9 (i3 + 1) x15))
def e_X7_allOf (u : uk_Mem) (w : Int32) : Int32 := l_X7_allOf_4 u w ee_K (0 : Int32) (0 : Int32)
abbrev qe_X7_allOf (u : uk_Mem) (w : Int32) (r : Option Value) (u' : uk_Mem) : Prop := (q_X7_allOf u w r u') ∧ (r = some (.int (e_X7_allOf u w)))
set_option maxHeartbeats 4000000 in
set_option maxRecDepth 20000 in
theorem x_X7_allOf {G : uk_D} (hs : uk_Sep G) {u : uk_Mem} (hu : iv u) (w : Int32) (p0 : w = 0 ∨ w = 16) (d : Nat) : uk_Meth G d mX7_allOf [.ref (uk_ad G 60), .int w] u (qe_X7_allOf u w) := by
  refine uk_Meth.of hs (by decide) (Nat.le_of_ble_eq_true rfl) (fun X => ?_)
  refine g_iconst (v := 0) dX7_allOf_0 (by decide) ?_
  refine g_istore_n dX7_allOf_1 (by decide) ?_
  refine g_pick (lv' := [(0, .ref (uk_ad G 60)), (1, .int w), (2, .int 0)]) [0, 1, 2] rfl ?_
  refine g_iconst (v := 0) dX7_allOf_2 (by decide) ?_
  refine g_istore_n dX7_allOf_3 (by decide) ?_
  refine g_pick (lv' := [(0, .ref (uk_ad G 60)), (1, .int w), (2, .int 0), (3, .int 0)]) [0, 1, 2, 3] rfl ?_
  have L4_0 : ∀ i3 : Int32, 0 ≤ i3 → i3 ≤ 8 → ∀ (w2 : Int32), (∃ ki3 : Nat, ee_F 8 i3 ki3 ∧ e_X7_allOf u w = l_X7_allOf_4 u w ki3 i3 w2) → uk_G G X mX7_allOf d (qe_X7_allOf u w) 4 [(0, .ref (uk_ad G 60)), (1, .int w), (2, .int w2), (3, .int i3)] [] u := by
    refine uk_upl 8 ?_
    intro i3 ai3 bi3 ihi3 w2 jEi3
    obtain ⟨ki3, fki3, hki3⟩ := jEi3
    obtain ⟨ki3, rfl⟩ := ee_Fp (by first | assumption | lia | grind) fki3
    refine g_iload_n dX7_allOf_4 rfl ?_
    refine g_aload_n dX7_allOf_5 rfl ?_
    refine f_X7_79 rfl rfl dX7_allOf_6 ?_
    refine g_topi (fun x4 ex4 => ?_)
    have rx4 : 0 ≤ x4 ∧ x4 ≤ 8 := by rw [ex4]; exact iv_at hu _ _ rfl
    have s5 : u.1 60 3 = x4 := ex4.symm
    refine g_icmp_ge (tgt := 46) dX7_allOf_9 (by decide) (fun c6 => ?_) (fun c6 => ?_)
    · refine g_iload_n dX7_allOf_46 rfl ?_
      exact g_iret (ty := .int) dX7_allOf_47 rfl rfl ⟨⟨⟨_, rfl, by first | trivial | lia | grind⟩, rfl⟩, ee_p (by subst ex4; exact hki3.trans ((if_pos c6).trans (rfl)))⟩
    · refine g_iload_n dX7_allOf_12 rfl ?_
      refine g_aload_n dX7_allOf_13 rfl ?_
      refine f_X7_13 rfl rfl dX7_allOf_14 ?_
      refine g_iconst (v := 0) dX7_allOf_17 (by decide) ?_
      refine g_iload_n dX7_allOf_18 rfl ?_
      refine g_iadd dX7_allOf_19 ?_
      refine g_topi (fun x7 ex7 => ?_)
      have ox7 : x7 = i3 := by rw [ex7, Int32.zero_add]
      have v8 : vp_in x7 51 := uk_vin 51 rfl (by first | decide | lia | grind) (by first | decide | lia | grind)
      refine g_iald rfl rfl v8 dX7_allOf_20 ?_
      refine g_topi (fun x9 ex9 => ?_)
      have bx9 := uk_cl v8
      have rx9 : 0 ≤ x9 ∧ x9 ≤ 40 := by rw [ex9]; exact sg_0 hu (by unfold uk_is51; decide) (by first | lia | grind) (by first | lia | grind)
      refine g_iload_n dX7_allOf_21 rfl ?_
      refine g_if_ne (tgt := 29) dX7_allOf_22 (by decide) (fun c10 => ?_) (fun c10 => ?_)
      · refine g_aload_n dX7_allOf_29 rfl ?_
        refine f_X7_13 rfl rfl dX7_allOf_30 ?_
        refine g_iload_n dX7_allOf_33 rfl ?_
        refine g_iload_n dX7_allOf_34 rfl ?_
        refine g_iadd dX7_allOf_35 ?_
        refine g_topi (fun x11 ex11 => ?_)
        have v12 : vp_in x11 51 := uk_vin 51 rfl (by first | decide | lia | grind) (by first | decide | lia | grind)
        refine g_iald rfl rfl v12 dX7_allOf_36 ?_
        refine g_topi (fun x13 ex13 => ?_)
        have bx13 := uk_cl v12
        refine g_imul dX7_allOf_37 ?_
        refine g_topi (fun x14 ex14 => ?_)
        refine g_iadd dX7_allOf_38 ?_
        refine g_topi (fun x15 ex15 => ?_)
        refine g_istore_n dX7_allOf_39 (by decide) ?_
        refine g_pick (lv' := [(0, .ref (uk_ad G 60)), (1, .int w), (2, .int x15), (3, .int i3)]) [0, 1, 2, 3] rfl ?_
        refine g_iinc (v := i3 + 1) dX7_allOf_40 rfl rfl (by decide) ?_
        refine g_pick (lv' := [(0, .ref (uk_ad G 60)), (1, .int w), (2, .int x15), (3, .int (i3 + 1))]) [0, 1, 2, 3] rfl ?_
        refine g_goto (tgt := 4) dX7_allOf_43 (by decide) ?_
        refine g_pick (lv' := [(0, .ref (uk_ad G 60)), (1, .int w), (2, .int x15), (3, .int (i3 + 1))]) [0, 1, 2, 3] rfl ?_
        exact ihi3 (by first | lia | grind) x15  ⟨ki3, ee_Fs fki3 (by first | assumption | lia | grind), by subst ex15; subst ex14; subst ex13; subst ex11; subst ex9; subst ex7; subst ex4; exact hki3.trans ((if_neg c6).trans ((if_neg c10).trans (rfl)))⟩
      · refine g_iconst (v := 1) dX7_allOf_25 (by decide) ?_
        refine g_goto (tgt := 37) dX7_allOf_26 (by decide) ?_
        refine g_imul dX7_allOf_37 ?_
        refine g_topi (fun x16 ex16 => ?_)
        refine g_iadd dX7_allOf_38 ?_
        refine g_topi (fun x17 ex17 => ?_)
        refine g_istore_n dX7_allOf_39 (by decide) ?_
        refine g_pick (lv' := [(0, .ref (uk_ad G 60)), (1, .int w), (2, .int x17), (3, .int i3)]) [0, 1, 2, 3] rfl ?_
        refine g_iinc (v := i3 + 1) dX7_allOf_40 rfl rfl (by decide) ?_
        refine g_pick (lv' := [(0, .ref (uk_ad G 60)), (1, .int w), (2, .int x17), (3, .int (i3 + 1))]) [0, 1, 2, 3] rfl ?_
        refine g_goto (tgt := 4) dX7_allOf_43 (by decide) ?_
        refine g_pick (lv' := [(0, .ref (uk_ad G 60)), (1, .int w), (2, .int x17), (3, .int (i3 + 1))]) [0, 1, 2, 3] rfl ?_
        exact ihi3 (by first | lia | grind) x17  ⟨ki3, ee_Fs fki3 (by first | assumption | lia | grind), by subst ex17; subst ex16; subst ex9; subst ex7; subst ex4; exact hki3.trans ((if_neg c6).trans ((if_pos c10).trans (rfl)))⟩
  refine g_pick (lv' := [(0, .ref (uk_ad G 60)), (1, .int w), (2, .int 0), (3, .int 0)]) [0, 1, 2, 3] rfl ?_
  exact L4_0 0 (by first | decide | lia | grind) (by first | decide | lia | grind) 0  ⟨ee_K, ee_F0 _ _, by exact rfl⟩
def e_X7_becomes (u : uk_Mem) (k : Int32) (v : Int32) : Int32 × uk_Mem := let x2 : Int32 := u.1 61 k.toNatClampNeg; let u5 : uk_Mem := uk_up u 61 k.toNatClampNeg v; (x2, u5)
abbrev qe_X7_becomes (u : uk_Mem) (k : Int32) (v : Int32) (r : Option Value) (u' : uk_Mem) : Prop := (q_X7_becomes u k v r u') ∧ (r = some (.int (e_X7_becomes u k v).1) ∧ u' = (e_X7_becomes u k v).2)
set_option maxHeartbeats 4000000 in
set_option maxRecDepth 20000 in
theorem x_X7_becomes {G : uk_D} (hs : uk_Sep G) {u : uk_Mem} (hu : iv u) (k : Int32) (v : Int32) (p0 : 0 ≤ k) (p1 : k ≤ 42) (p2 : (k ≤ 7 → 0 ≤ v ∧ v ≤ 40)) (p3 : (k = 42 → 0 ≤ v ∧ v ≤ 8)) (d : Nat) : uk_Meth G d mX7_becomes [.ref (uk_ad G 60), .int k, .int v] u (qe_X7_becomes u k v) := by
  refine uk_Meth.of hs (by decide) (Nat.le_of_ble_eq_true rfl) (fun X => ?_)
  have f0 : fk [61] [] u u := fk_rf
  refine g_aload_n dX7_becomes_0 rfl ?_
  refine f_X7_7 rfl rfl dX7_becomes_1 ?_
  refine g_iload_n dX7_becomes_4 rfl ?_
  have v1 : vp_in k 153 := uk_vin 153 rfl (by first | decide | lia | grind) (by first | decide | lia | grind)
  refine g_iald rfl rfl v1 dX7_becomes_5 ?_
  refine g_topi (fun x2 ex2 => ?_)
  have bx2 := uk_cl v1
  refine g_istore_n dX7_becomes_6 (by decide) ?_
  refine g_pick (lv' := [(0, .ref (uk_ad G 60)), (1, .int k), (2, .int v), (3, .int x2)]) [0, 1, 2, 3] rfl ?_
  refine g_aload_n dX7_becomes_7 rfl ?_
  refine f_X7_7 rfl rfl dX7_becomes_8 ?_
  refine g_iload_n dX7_becomes_11 rfl ?_
  refine g_iload_n dX7_becomes_12 rfl ?_
  have v3 : vp_in k 153 := uk_vin 153 rfl (by first | decide | lia | grind) (by first | decide | lia | grind)
  have b4 := uk_cl v3
  refine g_iast rfl rfl v3 dX7_becomes_13 ?_
  refine g_mem (fun u5 eu5 => ?_)
  have hu5 : iv u5 := by rw [eu5]; exact iv_st hu (by unfold uk_is51; decide) (by first | decide | lia | grind) (by first | decide | lia | grind) (fun q => by first | decide | lia | grind) (fun q => by first | decide | lia | grind) (fun q => by first | decide | lia | grind)
  have fu5 : fk [61] [] u u5 := by rw [eu5]; exact fk_up f0 (by decide) (fun q => absurd q (by decide))
  refine g_iload_n dX7_becomes_14 rfl ?_
  exact g_iret (ty := .int) dX7_becomes_15 rfl rfl ⟨⟨⟨_, rfl, by first | trivial | lia | grind⟩, hu5, fu5, (by first | assumption | grind)⟩, ee_i (by subst eu5; subst ex2; exact rfl)⟩
def e_X7_does (u : uk_Mem) (g : Int32) : Int32 × uk_Mem := let x4 : Int32 := (e_X7_isDoing u g); if x4 = 0 then (((-1 : Int32), u)) else (let u7 : uk_Mem := e_X7_starts u; let x12 : Int32 := (e_X7_canDo u7 g); if x12 = 0 then (((-2 : Int32), u7)) else (let u15 : uk_Mem := e_X7_doIt u7 g; let u18 : uk_Mem := e_X7_ends u15; let x20 : Int32 := g - g / (10 : Int32) * (10 : Int32); let x21 : Int32 := (0 : Int32) + x20; let x23 : Int32 := u18.1 61 x21.toNatClampNeg; (x23, u18)))
abbrev qe_X7_does (u : uk_Mem) (g : Int32) (r : Option Value) (u' : uk_Mem) : Prop := (q_X7_does u g r u') ∧ (r = some (.int (e_X7_does u g).1) ∧ u' = (e_X7_does u g).2)
set_option maxHeartbeats 4000000 in
set_option maxRecDepth 20000 in
theorem x_X7_does {G : uk_D} (hs : uk_Sep G) {u : uk_Mem} (hu : iv u) (hri : ri u) (g : Int32) (d : Nat) : uk_Meth G (d + 3) mX7_does [.ref (uk_ad G 60), .int g] u (qe_X7_does u g) := by
  refine uk_Meth.of hs (by decide) (Nat.le_of_ble_eq_true rfl) (fun X => ?_)
  have f0 : fk [61, 62] [] u u := fk_rf
  refine g_aload_n dX7_does_0 rfl ?_
  refine g_iload_n dX7_does_1 rfl ?_
  refine cl_X7_182 (c := 60) (As := [.int g]) rfl (x_X7_isDoing (G := G) hs hu  g  (d)) rfl (by omega) rfl rfl (Nat.le_of_ble_eq_true rfl) dX7_does_2 (fun r1 u2 q3 => ?_)
  obtain ⟨q3, Eq3⟩ := q3
  obtain ⟨⟨x4, rfl, tx4, nx4, zx4⟩, mq3⟩ := q3
  rw [mq3]
  have ex4 : x4 = (e_X7_isDoing u g) := ee_v Eq3
  refine g_if_ne (tgt := 10) dX7_does_5 (by decide) (fun c5 => ?_) (fun c5 => ?_)
  · have zc5 := nx4 c5
    refine g_aload_n dX7_does_10 rfl ?_
    refine cl_X7_185 (c := 60) (As := []) rfl (x_X7_starts (G := G) hs hu hri    (d + 2)) rfl (by omega) rfl rfl (Nat.le_of_ble_eq_true rfl) dX7_does_11 (fun r6 u7 q8 => ?_)
    obtain ⟨q8, Eq8⟩ := q8
    obtain ⟨rfl, mq8⟩ := q8
    obtain ⟨hu7, gu7, rau7, ku70⟩ := mq8
    have fu7 : fk [61, 62] [] u u7 := fk_tr f0 gu7 (by decide) (by decide)
    have riu7 : ri u7 := ri_fk hri gu7 (by decide) (by decide) (by decide) (by decide) (by decide)
    have wu7_60_3 : u7.1 60 3 = u.1 60 3 := fk_at gu7 (by decide)
    have eu7 : u7 = e_X7_starts u := Eq8
    refine g_aload_n dX7_does_14 rfl ?_
    refine g_iload_n dX7_does_15 rfl ?_
    refine cl_X7_188 (c := 60) (As := [.int g]) rfl (x_X7_canDo (G := G) hs hu7 rau7  g (by first | trivial | decide | lia | grind) (d)) rfl (by omega) rfl rfl (Nat.le_of_ble_eq_true rfl) dX7_does_16 (fun r9 u10 q11 => ?_)
    obtain ⟨q11, Eq11⟩ := q11
    obtain ⟨⟨x12, rfl, tx12, nx12, zx12⟩, mq11⟩ := q11
    rw [mq11]
    have ex12 : x12 = (e_X7_canDo u7 g) := ee_v Eq11
    refine g_if_ne (tgt := 25) dX7_does_19 (by decide) (fun c13 => ?_) (fun c13 => ?_)
    · have zc13 := nx12 c13
      refine g_aload_n dX7_does_25 rfl ?_
      refine g_iload_n dX7_does_26 rfl ?_
      refine cl_X7_191 (c := 60) (As := [.int g]) rfl (x_X7_doIt (G := G) hs hu7 rau7  g (by first | trivial | decide | lia | grind) (by first | trivial | decide | lia | grind) (by first | trivial | decide | lia | grind) (d + 1)) rfl (by omega) rfl rfl (Nat.le_of_ble_eq_true rfl) dX7_does_27 (fun r14 u15 q16 => ?_)
      obtain ⟨q16, Eq16⟩ := q16
      obtain ⟨rfl, mq16⟩ := q16
      obtain ⟨hu15, gu15, rau15⟩ := mq16
      have fu15 : fk [61, 62] [] u u15 := fk_tr fu7 gu15 (by decide) (by decide)
      have riu15 : ri u15 := ri_fk riu7 gu15 (by decide) (by decide) (by decide) (by decide) (by decide)
      have wu15_60_3 : u15.1 60 3 = u7.1 60 3 := fk_at gu15 (by decide)
      have eu15 : u15 = e_X7_doIt u7 g := Eq16
      refine g_aload_n dX7_does_30 rfl ?_
      refine cl_X7_194 (c := 60) (As := []) rfl (x_X7_ends (G := G) hs hu15 riu15 rau15    (d + 2)) rfl (by omega) rfl rfl (Nat.le_of_ble_eq_true rfl) dX7_does_31 (fun r17 u18 q19 => ?_)
      obtain ⟨q19, Eq19⟩ := q19
      obtain ⟨rfl, mq19⟩ := q19
      obtain ⟨hu18, gu18, riu18⟩ := mq19
      have fu18 : fk [61, 62] [] u u18 := fk_tr fu15 gu18 (by decide) (by decide)
      have rau18 : ra u18 := ra_fk rau15 gu18 (by decide) (by decide) (by decide) (by decide)
      have wu18_60_3 : u18.1 60 3 = u15.1 60 3 := fk_at gu18 (by decide)
      have eu18 : u18 = e_X7_ends u15 := Eq19
      refine g_aload_n dX7_does_34 rfl ?_
      refine f_X7_7 rfl rfl dX7_does_35 ?_
      refine g_iconst (v := 0) dX7_does_38 (by decide) ?_
      refine g_iload_n dX7_does_39 rfl ?_
      refine g_bipush (v := 10) dX7_does_40 (by decide) ?_
      refine g_irem dX7_does_42 (by first | decide | lia | grind) ?_
      refine g_topi (fun x20 ex20 => ?_)
      have nx20 := uk_r10 ex20
      refine g_iadd dX7_does_43 ?_
      refine g_topi (fun x21 ex21 => ?_)
      have ox21 : x21 = x20 := by rw [ex21, Int32.zero_add]
      have v22 : vp_in x21 153 := uk_vin 153 rfl (by first | decide | lia | grind) (by first | decide | lia | grind)
      refine g_iald rfl rfl v22 dX7_does_44 ?_
      refine g_topi (fun x23 ex23 => ?_)
      have bx23 := uk_cl v22
      have rx23 : 0 ≤ x23 ∧ x23 ≤ 40 := by rw [ex23]; exact sg_0 hu18 (by unfold uk_is51; decide) (by first | lia | grind) (by first | lia | grind)
      exact g_iret (ty := .int) dX7_does_45 rfl rfl ⟨⟨⟨_, rfl, by first | trivial | lia | grind⟩, hu18, fu18, riu18⟩, ee_i (by subst ex23; subst ex21; subst ex20; subst eu18; subst eu15; subst ex12; subst eu7; subst ex4; exact (if_neg c5).trans ((if_neg c13).trans (rfl)))⟩
    · have zc13 := zx12 c13
      refine g_bipush (v := (-2)) dX7_does_22 (by decide) ?_
      exact g_iret (ty := .int) dX7_does_24 rfl rfl ⟨⟨⟨_, rfl, by first | trivial | lia | grind⟩, hu7, fu7, riu7⟩, ee_i (by subst ex12; subst eu7; subst ex4; exact (if_neg c5).trans ((if_pos c13).trans (rfl)))⟩
  · have zc5 := zx4 c5
    refine g_iconst (v := (-1)) dX7_does_8 (by decide) ?_
    exact g_iret (ty := .int) dX7_does_9 rfl rfl ⟨⟨⟨_, rfl, by first | trivial | lia | grind⟩, hu, f0, hri⟩, ee_i (by subst ex4; exact (if_pos c5).trans (rfl))⟩
/-! class and reference side by side, pure: copies, what can be done, what is done -/
theorem ix_0 {m : Int32} : ((0 : Int32) + m).toNatClampNeg = m.toNatClampNeg := by rw [Int32.zero_add]
theorem ix_c {C m : Int32} {c : Nat} (hC : C.toInt = (c : Int)) (hc : c ≤ 100) (h0 : 0 ≤ m) (h7 : m ≤ 100) : (C + m).toNatClampNeg = m.toNatClampNeg + c := by
  have a := Int32.le_iff_toInt_le.mp h0
  have b := Int32.le_iff_toInt_le.mp h7
  have z : (0 : Int32).toInt = 0 := rfl
  have y : (100 : Int32).toInt = 100 := rfl
  have e : (C + m).toInt = C.toInt + m.toInt := by
    rw [Int32.toInt_add]
    exact Int.bmod_eq_of_le (by omega) (by omega)
  show (C + m).toInt.toNat = m.toInt.toNat + c
  omega
theorem ix_8 {m : Int32} (h0 : 0 ≤ m) (h7 : m ≤ 7) : ((8 : Int32) + m).toNatClampNeg = m.toNatClampNeg + 8 := ix_c rfl (by omega) h0 (by lia)
theorem ix_16 {m : Int32} (h0 : 0 ≤ m) (h7 : m ≤ 7) : ((16 : Int32) + m).toNatClampNeg = m.toNatClampNeg + 16 := ix_c rfl (by omega) h0 (by lia)
theorem ix_24 {m : Int32} (h0 : 0 ≤ m) (h7 : m ≤ 7) : ((24 : Int32) + m).toNatClampNeg = m.toNatClampNeg + 24 := ix_c rfl (by omega) h0 (by lia)
theorem ix_32 {m : Int32} (h0 : 0 ≤ m) (h7 : m ≤ 7) : ((32 : Int32) + m).toNatClampNeg = m.toNatClampNeg + 32 := ix_c rfl (by omega) h0 (by lia)
theorem ix_43 {m : Int32} (h0 : 0 ≤ m) (h7 : m ≤ 7) : ((43 : Int32) + m).toNatClampNeg = m.toNatClampNeg + 43 := ix_c rfl (by omega) h0 (by lia)
theorem starts_l : ∀ (K : Nat) (i : Int32) (m : uk_Mem), ee_F 51 i K → 0 ≤ i → i ≤ 51 → (∀ c, ¬ c = 62 → (l_X7_starts_2 K i m).1 c = m.1 c) ∧ (l_X7_starts_2 K i m).2 = m.2 ∧ ∀ j, (l_X7_starts_2 K i m).1 62 j = if i.toNatClampNeg ≤ j ∧ j < 51 then m.1 61 j else m.1 62 j := by
  intro K
  induction K with
  | zero =>
    intro i m f h0 h1
    obtain ⟨j, hj⟩ := ee_Fp h1 f
    omega
  | succ K ih =>
    intro i m f h0 h1
    rw [l_X7_starts_2]
    by_cases q : (51 : Int32) ≤ i
    · rw [if_pos q]
      have := uk_cge 51 51 rfl q
      refine ⟨fun _ _ => rfl, rfl, fun j => ?_⟩
      rw [if_neg (by omega)]
    · rw [if_neg q]
      dsimp only
      have hc := uk_c1 h0 (by lia)
      have hl := uk_cln 50 50 rfl h0 (by lia)
      obtain ⟨a, b, c⟩ := ih (i + 1) (uk_up m 62 i.toNatClampNeg (m.1 61 i.toNatClampNeg)) (ee_Fs f (by lia)) (by lia) (by lia)
      refine ⟨fun d hd => (a d hd).trans (uk_up_oc hd), b, fun j => ?_⟩
      rw [c j, hc, uk_up_oc (by decide), uk_up_at]
      generalize i.toNatClampNeg = k at *
      grind
theorem ends_l : ∀ (K : Nat) (i : Int32) (m : uk_Mem), ee_F 51 i K → 0 ≤ i → i ≤ 51 → (∀ c, ¬ c = 61 → (l_X7_ends_2 K i m).1 c = m.1 c) ∧ (l_X7_ends_2 K i m).2 = m.2 ∧ ∀ j, (l_X7_ends_2 K i m).1 61 j = if i.toNatClampNeg ≤ j ∧ j < 51 then m.1 62 j else m.1 61 j := by
  intro K
  induction K with
  | zero =>
    intro i m f h0 h1
    obtain ⟨j, hj⟩ := ee_Fp h1 f
    omega
  | succ K ih =>
    intro i m f h0 h1
    rw [l_X7_ends_2]
    by_cases q : (51 : Int32) ≤ i
    · rw [if_pos q]
      have := uk_cge 51 51 rfl q
      refine ⟨fun _ _ => rfl, rfl, fun j => ?_⟩
      rw [if_neg (by omega)]
    · rw [if_neg q]
      dsimp only
      have hc := uk_c1 h0 (by lia)
      have hl := uk_cln 50 50 rfl h0 (by lia)
      obtain ⟨a, b, c⟩ := ih (i + 1) (uk_up m 61 i.toNatClampNeg (m.1 62 i.toNatClampNeg)) (ee_Fs f (by lia)) (by lia) (by lia)
      refine ⟨fun d hd => (a d hd).trans (uk_up_oc hd), b, fun j => ?_⟩
      rw [c j, hc, uk_up_oc (by decide), uk_up_at]
      generalize i.toNatClampNeg = k at *
      grind
theorem starts_c {u : uk_Mem} {c : Nat} (h : ¬ c = 62) : (e_X7_starts u).1 c = u.1 c := (starts_l ee_K 0 u (ee_F0 _ _) (by decide) (by decide)).1 c h
theorem starts_j {u : uk_Mem} {j : Nat} (h : j < 51) : (e_X7_starts u).1 62 j = u.1 61 j := ((starts_l ee_K 0 u (ee_F0 _ _) (by decide) (by decide)).2.2 j).trans (if_pos ⟨Nat.zero_le _, h⟩)
theorem ends_c {u : uk_Mem} {c : Nat} (h : ¬ c = 61) : (e_X7_ends u).1 c = u.1 c := (ends_l ee_K 0 u (ee_F0 _ _) (by decide) (by decide)).1 c h
theorem ends_j {u : uk_Mem} {j : Nat} (h : j < 51) : (e_X7_ends u).1 61 j = u.1 62 j := ((ends_l ee_K 0 u (ee_F0 _ _) (by decide) (by decide)).2.2 j).trans (if_pos ⟨Nat.zero_le _, h⟩)
theorem ends_o {u : uk_Mem} {j : Nat} (h : 51 ≤ j) : (e_X7_ends u).1 61 j = u.1 61 j := ((ends_l ee_K 0 u (ee_F0 _ _) (by decide) (by decide)).2.2 j).trans (if_neg (by omega))
/-- a stuff of a kitchen of the class (its cells from b on) and of a row of the reference (cell c, from o on) -/
def KJ (u v : uk_Mem) (b c o j : Nat) : Prop := u.1 (b + 1) j = v.1 c (j + (o + 32)) ∧ u.1 (b + 4) j = v.1 c (j + (o + 16)) ∧ u.1 (b + 6) j = v.1 c (j + o) ∧ u.1 (b + 7) j = v.1 c (j + (o + 8)) ∧ (v.1 c (j + (o + 32)) = 4 → u.1 (b + 5) j = v.1 c (j + (o + 24)) ∧ v.1 64 j = -4 ∧ v.1 65 j = -4) ∧ (¬ v.1 c (j + (o + 32)) = 4 → u.1 (b + 2) j = v.1 64 j ∧ u.1 (b + 3) j = v.1 65 j)
def KR (u v : uk_Mem) (b c o : Nat) : Prop := u.1 b 0 = v.1 60 3 ∧ u.1 b 9 = v.1 c (o + 42) ∧ u.1 b 10 = v.1 c (o + 40) ∧ u.1 b 11 = v.1 c (o + 41) ∧ (∀ j : Nat, j < (v.1 60 3).toNatClampNeg → KJ u v b c o j) ∧ ∀ i : Nat, i < (v.1 c (o + 42)).toNatClampNeg → u.1 (b + 8) i = v.1 c (i + (o + 43))
/-- other memories with the same cells -/
theorem KR_cg {u v u' v' : uk_Mem} {b c o : Nat} (h : KR u v b c o) (hu : ∀ d, b ≤ d → d ≤ b + 8 → u'.1 d = u.1 d) (h60 : v'.1 60 3 = v.1 60 3) (hc : v'.1 c = v.1 c) (h64 : v'.1 64 = v.1 64) (h65 : v'.1 65 = v.1 65) : KR u' v' b c o := by
  obtain ⟨k0, k9, k10, k11, kj, ks⟩ := h
  have hb := hu b (by omega) (by omega)
  refine ⟨by rw [hb, h60]; exact k0, by rw [hb, hc]; exact k9, by rw [hb, hc]; exact k10, by rw [hb, hc]; exact k11, fun j hj => ?_, fun i hi => ?_⟩
  · rw [h60] at hj
    unfold KJ
    rw [hu (b + 1) (by omega) (by omega), hu (b + 2) (by omega) (by omega), hu (b + 3) (by omega) (by omega), hu (b + 4) (by omega) (by omega), hu (b + 5) (by omega) (by omega), hu (b + 6) (by omega) (by omega), hu (b + 7) (by omega) (by omega), hc, h64, h65]
    exact kj j hj
  · rw [hc] at hi ⊢
    rw [hu (b + 8) (by omega) (by omega)]
    exact ks i hi
/-- the same 51 numbers in another row -/
theorem KR_row {u v v' : uk_Mem} {b c o c' o' : Nat} (h : KR u v b c o) (hn : v.1 60 3 ≤ 8) (hs : v.1 c (o + 42) ≤ 8) (h60 : v'.1 60 3 = v.1 60 3) (hc : ∀ j, j < 51 → v'.1 c' (j + o') = v.1 c (j + o)) (h64 : v'.1 64 = v.1 64) (h65 : v'.1 65 = v.1 65) : KR u v' b c' o' := by
  obtain ⟨k0, k9, k10, k11, kj, ks⟩ := h
  have hr : ∀ a j, j + a < 51 → v'.1 c' (j + (o' + a)) = v.1 c (j + (o + a)) := fun a j ha => by
    have := hc (j + a) ha
    rwa [show j + a + o' = j + (o' + a) by omega, show j + a + o = j + (o + a) by omega] at this
  have hf : ∀ a, a < 51 → v'.1 c' (o' + a) = v.1 c (o + a) := fun a ha => by
    have := hr a 0 (by omega)
    rwa [Nat.zero_add, Nat.zero_add] at this
  have n8 : (v.1 60 3).toNatClampNeg ≤ 8 := by
    by_cases q : 0 ≤ v.1 60 3
    · exact uk_cln 8 8 rfl q hn
    · have : (v.1 60 3).toInt < 0 := by
        have := Int32.lt_iff_toInt_lt.mp (show v.1 60 3 < 0 by lia)
        exact this
      have e : (v.1 60 3).toNatClampNeg = (v.1 60 3).toInt.toNat := rfl
      omega
  have s8 : (v.1 c (o + 42)).toNatClampNeg ≤ 8 := by
    by_cases q : 0 ≤ v.1 c (o + 42)
    · exact uk_cln 8 8 rfl q hs
    · have : (v.1 c (o + 42)).toInt < 0 := by
        have := Int32.lt_iff_toInt_lt.mp (show v.1 c (o + 42) < 0 by lia)
        exact this
      have e : (v.1 c (o + 42)).toNatClampNeg = (v.1 c (o + 42)).toInt.toNat := rfl
      omega
  refine ⟨by rw [h60]; exact k0, by rw [hf 42 (by omega)]; exact k9, by rw [hf 40 (by omega)]; exact k10, by rw [hf 41 (by omega)]; exact k11, fun j hj => ?_, fun i hi => ?_⟩
  · rw [h60] at hj
    unfold KJ
    rw [hr 32 j (by omega), hr 16 j (by omega), hc j (by omega), hr 8 j (by omega), hr 24 j (by omega), h64, h65]
    exact kj j hj
  · rw [hf 42 (by omega)] at hi
    rw [hr 43 i (by omega)]
    exact ks i hi
theorem one0 : ¬ (1 : Int32) = 0 := by decide
theorem lp_n {x n : Int32} (hn : 0 ≤ n ∧ n ≤ 8) : x ≤ n - 1 ↔ x < n := by
  constructor
  · intro h
    lia
  · intro h
    lia
theorem lp_g {g n : Int32} (hn : n ≤ 8) : (0 ≤ g - 10 ∧ g - 10 < n) ↔ (10 ≤ g ∧ g - 10 < n) := by
  constructor
  · intro h
    have h7 : g - 10 < 8 := by lia
    exact ⟨by lia, h.2⟩
  · intro h
    exact ⟨by lia, h.2⟩
theorem isDoing_e {v : uk_Mem} {g : Int32} (hn : 0 ≤ v.1 60 3 ∧ v.1 60 3 ≤ 8) : e_X7_isDoing v g = if (0 ≤ g ∧ g < v.1 60 3) ∨ (10 ≤ g ∧ g - 10 < v.1 60 3) then 1 else 0 := by
  unfold e_X7_isDoing e_X7_isStuff e_X7_in
  dsimp only
  simp only [lp_n hn, lp_g hn.2]
  generalize v.1 60 3 = n at *
  by_cases h1 : 0 ≤ g ∧ g < n
  · simp only [if_pos h1, if_neg one0, if_pos (Or.inl (b := 10 ≤ g ∧ g - 10 < n) h1)]
  · by_cases h2 : 10 ≤ g ∧ g - 10 < n
    · simp only [if_neg h1, if_pos h2, if_neg one0, if_pos (Or.inr (a := 0 ≤ g ∧ g < n) h2)]
      simp
    · have h3 : ¬ ((0 ≤ g ∧ g < n) ∨ (10 ≤ g ∧ g - 10 < n)) := fun z => z.elim h1 h2
      simp only [if_neg h1, if_neg h2, if_neg h3]
      simp
/-- what the mill's rows need of two parts -/
theorem cook_e {u v : uk_Mem} {b : Nat} {m : Int32} (hv : iv v) (hra : ra v) (hK : KR u v b 62 0) (h0 : 0 ≤ m) (hm : m < v.1 60 3) : (if e_X0_isMade u b m = 0 then 0 else e_X0_isCookable u b m) = e_X7_canCook v m := by
  obtain ⟨-, -, -, -, kj, -⟩ := hK
  have hn : 0 ≤ v.1 60 3 ∧ v.1 60 3 ≤ 8 := iv_at hv 60 3 rfl
  have h7 : m ≤ 7 := by lia
  obtain ⟨j1, -, j3, -, -, j6⟩ := kj m.toNatClampNeg (uk_cll h0 hm)
  have hr := hra m h0 hm h7
  have pm := sg_0 hv (c := 62) (by unfold uk_is51; decide) h0 h7
  unfold e_X0_isMade e_X0_isCookable e_X7_canCook
  dsimp only
  rw [ix_32 h0 h7] at hr ⊢
  simp only [ix_0]
  rw [j1, j3]
  by_cases hk : v.1 62 (m.toNatClampNeg + 32) = 4
  · simp [hk]
  · obtain ⟨a0, a1, b0, b1⟩ := hr.resolve_left hk
    rw [(j6 hk).1, (j6 hk).2]
    generalize v.1 64 m.toNatClampNeg = A at *
    generalize v.1 65 m.toNatClampNeg = B at *
    have ja := (kj A.toNatClampNeg (uk_cll a0 (by lia))).2.2.1
    have jb := (kj B.toNatClampNeg (uk_cll b0 (by lia))).2.2.1
    have pa := sg_0 hv (c := 62) (by unfold uk_is51; decide) a0 (by lia)
    have pb := sg_0 hv (c := 62) (by unfold uk_is51; decide) b0 (by lia)
    rw [ja, jb]
    simp only [Nat.add_zero, hk, if_false]
    generalize v.1 62 m.toNatClampNeg = x at *
    by_cases hab : A = B
    · subst hab
      generalize v.1 62 A.toNatClampNeg = y at *
      grind
    · generalize v.1 62 A.toNatClampNeg = y at *
      generalize v.1 62 B.toNatClampNeg = z at *
      grind
theorem givesB_e {u v : uk_Mem} {m : Int32} (h0 : 0 ≤ m) (h7 : m ≤ 7) : e_X0_givesB u (v.1 62 (m.toNatClampNeg + 32)) (v.1 62 (m.toNatClampNeg + 8)) = e_X7_givesSecond v m := by
  unfold e_X0_givesB e_X7_givesSecond
  dsimp only
  rw [ix_32 h0 h7, ix_8 h0 h7]
theorem turn_e {u v : uk_Mem} {b : Nat} {m : Int32} (hv : iv v) (hra : ra v) (hK : KR u v b 62 0) (h0 : 0 ≤ m) (hm : m < v.1 60 3) : (if e_X0_isMade u b m = 0 then 0 else e_X0_isTurnable u b m) = e_X7_canTurn v m := by
  obtain ⟨-, -, -, -, kj, -⟩ := hK
  have hn : 0 ≤ v.1 60 3 ∧ v.1 60 3 ≤ 8 := iv_at hv 60 3 rfl
  have h7 : m ≤ 7 := by lia
  obtain ⟨j1, -, j3, j4, -, j6⟩ := kj m.toNatClampNeg (uk_cll h0 hm)
  have hr := hra m h0 hm h7
  have pm := sg_0 hv (c := 62) (by unfold uk_is51; decide) h0 h7
  unfold e_X0_isMade e_X0_isTurnable e_X7_canTurn
  dsimp only
  rw [ix_32 h0 h7] at hr ⊢
  simp only [ix_0]
  rw [j1, j3, j4]
  by_cases hk : v.1 62 (m.toNatClampNeg + 32) = 4
  · simp [hk]
  · obtain ⟨a0, a1, b0, b1⟩ := hr.resolve_left hk
    rw [(j6 hk).1, (j6 hk).2]
    simp only [Nat.zero_add]
    rw [givesB_e h0 h7]
    generalize e_X7_givesSecond v m = s at *
    generalize v.1 64 m.toNatClampNeg = A at *
    generalize v.1 65 m.toNatClampNeg = B at *
    have ja := (kj A.toNatClampNeg (uk_cll a0 (by lia))).2.2.1
    have jb := (kj B.toNatClampNeg (uk_cll b0 (by lia))).2.2.1
    have pa := sg_0 hv (c := 62) (by unfold uk_is51; decide) a0 (by lia)
    have pb := sg_0 hv (c := 62) (by unfold uk_is51; decide) b0 (by lia)
    rw [ja, jb]
    simp only [Nat.add_zero, hk, if_false]
    generalize v.1 62 (m.toNatClampNeg + 32) = k at *
    generalize v.1 62 m.toNatClampNeg = x at *
    by_cases k2 : k = 2
    · simp only [if_pos k2]
      simp
    · simp only [if_neg k2]
      by_cases x0 : x = 0
      · simp only [if_pos x0]
        simp
      · simp only [if_neg x0, if_neg one0]
        by_cases hab : A = B
        · subst hab
          generalize v.1 62 A.toNatClampNeg = y at *
          simp only [if_true]
          clear j1 j3 j4 j6 ja jb kj hra hv hr
          by_cases s0 : s = 0
          · simp only [if_pos s0]
            by_cases y4 : 40 ≤ y
            · rw [if_pos y4, if_pos (by lia)]
            · rw [if_neg y4, if_neg (by lia)]
          · simp only [if_neg s0]
            by_cases y4 : 40 < y + 2
            · simp only [if_pos y4]
              simp
            · rw [if_neg y4, if_neg (by lia)]
        · generalize v.1 62 A.toNatClampNeg = y at *
          generalize v.1 62 B.toNatClampNeg = z at *
          simp only [if_neg hab]
          clear j1 j3 j4 j6 ja jb kj hra hv hr
          by_cases s0 : s = 0
          · simp only [if_pos s0]
            by_cases y4 : 40 ≤ y
            · rw [if_pos y4, if_pos (by lia)]
            · rw [if_neg y4, if_neg (by lia)]
          · simp only [if_neg s0]
            by_cases y4 : 40 ≤ y
            · rw [if_pos y4, if_pos (by lia)]
            · rw [if_neg y4, if_neg (show ¬ 40 < y + 1 by lia)]
              by_cases z4 : 40 ≤ z
              · rw [if_pos z4, if_pos (by lia)]
              · rw [if_neg z4, if_neg (by lia)]
theorem able_e {u v : uk_Mem} {b : Nat} {g : Int32} (hv : iv v) (hra : ra v) (hK : KR u v b 62 0) : e_X0_isAble u b g = if e_X7_isDoing v g = 0 then 0 else e_X7_canDo v g := by
  have hn : 0 ≤ v.1 60 3 ∧ v.1 60 3 ≤ 8 := iv_at hv 60 3 rfl
  rw [isDoing_e hn]
  have k0 := hK.1
  unfold e_X0_isAble e_X0_hasStuff e_X6_stuffOf e_X7_canDo
  dsimp only
  rw [k0]
  by_cases h1 : 0 ≤ g ∧ g < v.1 60 3
  · have c := cook_e hv hra hK h1.1 h1.2
    have g0 : ¬ g < 0 := by lia
    have g1 : g < 10 := by lia
    have g2 : ¬ v.1 60 3 ≤ g := by lia
    have g3 : ¬ 10 ≤ g := by lia
    simp only [if_neg g0, if_pos g1, if_neg g2, if_neg g3, if_pos (Or.inl (b := 10 ≤ g ∧ g - 10 < v.1 60 3) h1), if_neg one0]
    exact c
  · by_cases h2 : 10 ≤ g ∧ g - 10 < v.1 60 3
    · have c := turn_e hv hra hK (m := g - 10) (by lia) h2.2
      have g0 : ¬ g < 0 := by lia
      have g1 : ¬ g < 10 := by lia
      have g4 : ¬ g - 10 < 0 := by lia
      have g2 : ¬ v.1 60 3 ≤ g - 10 := by lia
      simp only [if_neg g0, if_neg g1, if_neg g2, if_neg g4, if_pos h2.1, if_pos (Or.inr (a := 0 ≤ g ∧ g < v.1 60 3) h2), if_neg one0]
      exact c
    · rw [if_neg (show ¬ ((0 ≤ g ∧ g < v.1 60 3) ∨ (10 ≤ g ∧ g - 10 < v.1 60 3)) from fun z => z.elim h1 h2), if_pos (show (0 : Int32) = 0 from rfl)]
      by_cases g0 : g < 0
      · rw [if_pos g0]
      · rw [if_neg g0]
        by_cases g1 : g < 10
        · have g2 : v.1 60 3 ≤ g := by lia
          simp only [if_pos g1, if_neg g0, if_pos g2]
          simp
        · have g4 : ¬ g - 10 < 0 := by lia
          have g2 : v.1 60 3 ≤ g - 10 := by lia
          simp only [if_neg g1, if_neg g4, if_pos g2]
          simp
