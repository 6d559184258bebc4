def e_X7_in (u : uk_Mem) (v lo hi : Int32) : Int32 := if lo ≤ v ∧ v ≤ hi then 1 else 0
abbrev qe_X7_in (u : uk_Mem) (v lo hi : Int32) (r : Option Value) (u' : uk_Mem) : Prop := (q_X7_in u v lo hi r u') ∧ (r = some (.int (e_X7_in u v lo hi)))
theorem x_X7_in {G : uk_D} (hs : uk_Sep G) {u : uk_Mem} (hu : iv u) (v lo hi : Int32) (d : Nat) : uk_Meth G d mX7_in [.long (Int32.toInt64 v), .long (Int32.toInt64 lo), .long (Int32.toInt64 hi)] u (qe_X7_in u v lo hi) := by
  refine uk_Meth.imp (c_X7_in hs hu v lo hi d) (fun r u' h => ⟨h, ?_⟩)
  obtain ⟨⟨x, rfl, t, n, z⟩, -⟩ := h
  unfold e_X7_in
  by_cases q : lo ≤ v ∧ v ≤ hi
  · rw [if_pos q]
    rcases t with rfl | rfl
    · exfalso
      have := z rfl
      grind
    · rfl
  · rw [if_neg q]
    rcases t with rfl | rfl
    · rfl
    · exact absurd (n (by decide)) q

def e_X7_flag (u : uk_Mem) (b : Int32) : Int32 := if b = 0 then ((0 : Int32)) else ((1 : Int32))
abbrev qe_X7_flag (u : uk_Mem) (b : Int32) (r : Option Value) (u' : uk_Mem) : Prop := (q_X7_flag u b r u') ∧ (r = some (.int (e_X7_flag u b)))
set_option maxHeartbeats 4000000 in
set_option maxRecDepth 20000 in
theorem x_X7_flag {G : uk_D} (hs : uk_Sep G) {u : uk_Mem} (hu : iv u) (b : Int32) (d : Nat) : uk_Meth G d mX7_flag [.int b] u (qe_X7_flag u b) := by
  refine uk_Meth.of hs (by decide) (Nat.le_of_ble_eq_true rfl) (fun X => ?_)
  refine g_iload_n dX7_flag_0 rfl ?_
  refine g_if_eq (tgt := 8) dX7_flag_1 (by decide) (fun c1 => ?_) (fun c1 => ?_)
  · refine g_iconst (v := 0) dX7_flag_8 (by decide) ?_
    exact g_iret (ty := .int) dX7_flag_9 rfl rfl ⟨⟨⟨_, rfl, by first | trivial | lia | grind⟩, rfl⟩, ee_p (by exact (if_pos c1).trans (rfl))⟩
  · refine g_iconst (v := 1) dX7_flag_4 (by decide) ?_
    refine g_goto (tgt := 9) dX7_flag_5 (by decide) ?_
    exact g_iret (ty := .int) dX7_flag_9 rfl rfl ⟨⟨⟨_, rfl, by first | trivial | lia | grind⟩, rfl⟩, ee_p (by exact (if_neg c1).trans (rfl))⟩
def l_X7_starts_2 : Nat → Int32 → uk_Mem → uk_Mem
  | 0, _, u3 => u3
  | K9 + 1, i2, u3 => if (51 : Int32) ≤ i2 then (u3) else (let x6 : Int32 := u3.1 61 i2.toNatClampNeg; let u9 : uk_Mem := uk_up u3 62 i2.toNatClampNeg x6; l_X7_starts_2  K9 (i2 + 1) u9)
def e_X7_starts (u : uk_Mem) : uk_Mem := l_X7_starts_2  ee_K (0 : Int32) u
abbrev qe_X7_starts (u : uk_Mem)  (r : Option Value) (u' : uk_Mem) : Prop := (q_X7_starts u r u') ∧ (u' = e_X7_starts u)
set_option maxHeartbeats 4000000 in
set_option maxRecDepth 20000 in
theorem x_X7_starts {G : uk_D} (hs : uk_Sep G) {u : uk_Mem} (hu : iv u) (hri : ri u)  (d : Nat) : uk_Meth G d mX7_starts [.ref (uk_ad G 60)] u (qe_X7_starts u) := by
  refine uk_Meth.of hs (by decide) (Nat.le_of_ble_eq_true rfl) (fun X => ?_)
  have f0 : fk [62] [] u u := fk_rf
  refine g_iconst (v := 0) dX7_starts_0 (by decide) ?_
  refine g_istore_n dX7_starts_1 (by decide) ?_
  refine g_pick (lv' := [(0, .ref (uk_ad G 60)), (1, .int 0)]) [0, 1] rfl ?_
  have L2_0 : ∀ i2 : Int32, 0 ≤ i2 → i2 ≤ 51 → ∀ (u3 : uk_Mem), iv u3 → fk [62] [] u u3 → cpy (u3.1 62) (u.1 61) i2 → (∃ ki2 : Nat, ee_F 51 i2 ki2 ∧ e_X7_starts u = l_X7_starts_2  ki2 i2 u3) → uk_G G X mX7_starts d (qe_X7_starts u) 2 [(0, .ref (uk_ad G 60)), (1, .int i2)] [] u3 := by
    refine uk_upl 51 ?_
    intro i2 ai2 bi2 ihi2  u3 hu3 fu3 ji20 jEi2
    obtain ⟨ki2, fki2, hki2⟩ := jEi2
    obtain ⟨ki2, rfl⟩ := ee_Fp (by first | assumption | lia | grind) fki2
    have wu3_60_3 : u3.1 60 3 = u.1 60 3 := fk_at fu3 (by decide)
    refine g_iload_n dX7_starts_2 rfl ?_
    refine g_bipush (v := 51) dX7_starts_3 (by decide) ?_
    refine g_icmp_ge (tgt := 26) dX7_starts_5 (by decide) (fun c4 => ?_) (fun c4 => ?_)
    · exact g_vret dX7_starts_26 rfl ⟨⟨rfl, hu3, fu3, (ra_of hri (fk_at fu3 (by decide)) (fk_c fu3 (by decide)) (fk_c fu3 (by decide)) (cpy_le ji20 (by lia))), (cpy_le ji20 (by lia))⟩, (by exact hki2.trans ((if_pos c4).trans (rfl)) : e_X7_starts u = u3).symm⟩
    · refine g_aload_n dX7_starts_8 rfl ?_
      refine f_X7_13 rfl rfl dX7_starts_9 ?_
      refine g_iload_n dX7_starts_12 rfl ?_
      refine g_aload_n dX7_starts_13 rfl ?_
      refine f_X7_7 rfl rfl dX7_starts_14 ?_
      refine g_iload_n dX7_starts_17 rfl ?_
      have v5 : vp_in i2 153 := uk_vin 153 rfl (by first | decide | lia | grind) (by first | decide | lia | grind)
      refine g_iald rfl rfl v5 dX7_starts_18 ?_
      refine g_topi (fun x6 ex6 => ?_)
      have bx6 := uk_cl v5
      have v7 : vp_in i2 51 := uk_vin 51 rfl (by first | decide | lia | grind) (by first | decide | lia | grind)
      have b8 := uk_cl v7
      refine g_iast rfl rfl v7 dX7_starts_19 ?_
      refine g_mem (fun u9 eu9 => ?_)
      have hu9 : iv u9 := by rw [eu9]; exact iv_cp hu3 hu3 (by unfold uk_is51; decide) (by unfold uk_is51; decide) (by omega) ex6
      have fu9 : fk [62] [] u u9 := by rw [eu9]; exact fk_up fu3 (by decide) (fun q => absurd q (by decide))
      refine g_iinc (v := i2 + 1) dX7_starts_20 rfl rfl (by decide) ?_
      refine g_pick (lv' := [(0, .ref (uk_ad G 60)), (1, .int (i2 + 1))]) [0, 1] rfl ?_
      refine g_goto (tgt := 2) dX7_starts_23 (by decide) ?_
      refine g_pick (lv' := [(0, .ref (uk_ad G 60)), (1, .int (i2 + 1))]) [0, 1] rfl ?_
      exact ihi2 (by first | lia | grind)  u9 hu9 fu9 (by rw [eu9, uk_up_self]; exact cpy_up ji20 (by lia) (ex6.trans (congrFun (fk_c fu3 (by decide)) _))) ⟨ki2, ee_Fs fki2 (by first | assumption | lia | grind), by subst eu9; subst ex6; exact hki2.trans ((if_neg c4).trans (rfl))⟩
  refine g_pick (lv' := [(0, .ref (uk_ad G 60)), (1, .int 0)]) [0, 1] rfl ?_
  exact L2_0 0 (by first | decide | lia | grind) (by first | decide | lia | grind)  u hu f0 cpy_0 ⟨ee_K, ee_F0 _ _, by exact rfl⟩
def l_X7_ends_2 : Nat → Int32 → uk_Mem → uk_Mem
  | 0, _, u3 => u3
  | K9 + 1, i2, u3 => if (51 : Int32) ≤ i2 then (u3) else (let x6 : Int32 := u3.1 62 i2.toNatClampNeg; let u9 : uk_Mem := uk_up u3 61 i2.toNatClampNeg x6; l_X7_ends_2  K9 (i2 + 1) u9)
def e_X7_ends (u : uk_Mem) : uk_Mem := l_X7_ends_2  ee_K (0 : Int32) u
abbrev qe_X7_ends (u : uk_Mem)  (r : Option Value) (u' : uk_Mem) : Prop := (q_X7_ends u r u') ∧ (u' = e_X7_ends u)
set_option maxHeartbeats 4000000 in
set_option maxRecDepth 20000 in
theorem x_X7_ends {G : uk_D} (hs : uk_Sep G) {u : uk_Mem} (hu : iv u) (hri : ri u) (hra : ra u)  (d : Nat) : uk_Meth G d mX7_ends [.ref (uk_ad G 60)] u (qe_X7_ends u) := by
  refine uk_Meth.of hs (by decide) (Nat.le_of_ble_eq_true rfl) (fun X => ?_)
  have f0 : fk [61] [] u u := fk_rf
  refine g_iconst (v := 0) dX7_ends_0 (by decide) ?_
  refine g_istore_n dX7_ends_1 (by decide) ?_
  refine g_pick (lv' := [(0, .ref (uk_ad G 60)), (1, .int 0)]) [0, 1] rfl ?_
  have L2_0 : ∀ i2 : Int32, 0 ≤ i2 → i2 ≤ 51 → ∀ (u3 : uk_Mem), iv u3 → fk [61] [] u u3 → cpy (u3.1 61) (u.1 62) i2 → cpx (u3.1 61) (u.1 61) → (∃ ki2 : Nat, ee_F 51 i2 ki2 ∧ e_X7_ends u = l_X7_ends_2  ki2 i2 u3) → uk_G G X mX7_ends d (qe_X7_ends u) 2 [(0, .ref (uk_ad G 60)), (1, .int i2)] [] u3 := by
    refine uk_upl 51 ?_
    intro i2 ai2 bi2 ihi2  u3 hu3 fu3 ji20 ji21 jEi2
    obtain ⟨ki2, fki2, hki2⟩ := jEi2
    obtain ⟨ki2, rfl⟩ := ee_Fp (by first | assumption | lia | grind) fki2
    have wu3_60_3 : u3.1 60 3 = u.1 60 3 := fk_at fu3 (by decide)
    refine g_iload_n dX7_ends_2 rfl ?_
    refine g_bipush (v := 51) dX7_ends_3 (by decide) ?_
    refine g_icmp_ge (tgt := 26) dX7_ends_5 (by decide) (fun c4 => ?_) (fun c4 => ?_)
    · exact g_vret dX7_ends_26 rfl ⟨⟨rfl, hu3, fu3, (ri_of hri hra (fk_at fu3 (by decide)) (fk_c fu3 (by decide)) (fk_c fu3 (by decide)) (fk_c fu3 (by decide)) (cpy_le ji20 (by lia)) ji21)⟩, (by exact hki2.trans ((if_pos c4).trans (rfl)) : e_X7_ends u = u3).symm⟩
    · refine g_aload_n dX7_ends_8 rfl ?_
      refine f_X7_7 rfl rfl dX7_ends_9 ?_
      refine g_iload_n dX7_ends_12 rfl ?_
      refine g_aload_n dX7_ends_13 rfl ?_
      refine f_X7_13 rfl rfl dX7_ends_14 ?_
      refine g_iload_n dX7_ends_17 rfl ?_
      have v5 : vp_in i2 51 := uk_vin 51 rfl (by first | decide | lia | grind) (by first | decide | lia | grind)
      refine g_iald rfl rfl v5 dX7_ends_18 ?_
      refine g_topi (fun x6 ex6 => ?_)
      have bx6 := uk_cl v5
      have v7 : vp_in i2 153 := uk_vin 153 rfl (by first | decide | lia | grind) (by first | decide | lia | grind)
      have b8 := uk_cl v7
      refine g_iast rfl rfl v7 dX7_ends_19 ?_
      refine g_mem (fun u9 eu9 => ?_)
      have hu9 : iv u9 := by rw [eu9]; exact iv_cp hu3 hu3 (by unfold uk_is51; decide) (by unfold uk_is51; decide) (by omega) ex6
      have fu9 : fk [61] [] u u9 := by rw [eu9]; exact fk_up fu3 (by decide) (fun q => absurd q (by decide))
      refine g_iinc (v := i2 + 1) dX7_ends_20 rfl rfl (by decide) ?_
      refine g_pick (lv' := [(0, .ref (uk_ad G 60)), (1, .int (i2 + 1))]) [0, 1] rfl ?_
      refine g_goto (tgt := 2) dX7_ends_23 (by decide) ?_
      refine g_pick (lv' := [(0, .ref (uk_ad G 60)), (1, .int (i2 + 1))]) [0, 1] rfl ?_
      exact ihi2 (by first | lia | grind)  u9 hu9 fu9 (by rw [eu9, uk_up_self]; exact cpy_up ji20 (by lia) (ex6.trans (congrFun (fk_c fu3 (by decide)) _))) (by rw [eu9, uk_up_self]; exact cpx_up ji21 (by lia) (by lia)) ⟨ki2, ee_Fs fki2 (by first | assumption | lia | grind), by subst eu9; subst ex6; exact hki2.trans ((if_neg c4).trans (rfl))⟩
  refine g_pick (lv' := [(0, .ref (uk_ad G 60)), (1, .int 0)]) [0, 1] rfl ?_
  exact L2_0 0 (by first | decide | lia | grind) (by first | decide | lia | grind)  u hu f0 cpy_0 cpx_rf ⟨ee_K, ee_F0 _ _, by exact rfl⟩
def e_X7_isStuff (u : uk_Mem) (m : Int32) : Int32 := let x1 : Int32 := u.1 60 3; let x3 : Int32 := x1 - (1 : Int32); let x7 : Int32 := (e_X7_in u m (0 : Int32) x3); x7
abbrev qe_X7_isStuff (u : uk_Mem) (m : Int32) (r : Option Value) (u' : uk_Mem) : Prop := (q_X7_isStuff u m r u') ∧ (r = some (.int (e_X7_isStuff u m)))
set_option maxHeartbeats 4000000 in
set_option maxRecDepth 20000 in
theorem x_X7_isStuff {G : uk_D} (hs : uk_Sep G) {u : uk_Mem} (hu : iv u) (m : Int32) (d : Nat) : uk_Meth G (d + 1) mX7_isStuff [.ref (uk_ad G 60), .int m] u (qe_X7_isStuff u m) := by
  refine uk_Meth.of hs (by decide) (Nat.le_of_ble_eq_true rfl) (fun X => ?_)
  refine g_iload_n dX7_isStuff_0 rfl ?_
  refine g_i2l dX7_isStuff_1 ?_
  refine g_lconst (v := 0) dX7_isStuff_2 (by decide) ?_
  refine g_aload_n dX7_isStuff_3 rfl ?_
  refine f_X7_79 rfl rfl dX7_isStuff_4 ?_
  refine g_topi (fun x1 ex1 => ?_)
  have rx1 : 0 ≤ x1 ∧ x1 ≤ 8 := by rw [ex1]; exact iv_at hu _ _ rfl
  have s2 : u.1 60 3 = x1 := ex1.symm
  refine g_iconst (v := 1) dX7_isStuff_7 (by decide) ?_
  refine g_isub dX7_isStuff_8 ?_
  refine g_topi (fun x3 ex3 => ?_)
  refine g_i2l dX7_isStuff_9 ?_
  refine cl_X7_84 (As := [.long m.toInt64, .long 0, .long x3.toInt64]) rfl (x_X7_in (G := G) hs hu  m 0 x3  (d)) rfl (by omega) rfl (Nat.le_of_ble_eq_true rfl) dX7_isStuff_10 (fun r4 u5 q6 => ?_)
  obtain ⟨q6, Eq6⟩ := q6
  obtain ⟨⟨x7, rfl, tx7, nx7, zx7⟩, mq6⟩ := q6
  rw [mq6]
  have ex7 : x7 = (e_X7_in u m (0 : Int32) x3) := ee_v Eq6
  exact g_iret (ty := .boolean) dX7_isStuff_13 rfl (uk_nb tx7) ⟨⟨⟨_, rfl, tx7, fun q => by first | trivial | (have := nx7 q; first | exact this | grind), fun q => by first | trivial | (have := zx7 q; first | exact this | grind)⟩, rfl⟩, ee_p (by subst ex7; subst ex3; subst ex1; exact rfl)⟩
def e_X7_isRaw (u : uk_Mem) (m : Int32) : Int32 := let x1 : Int32 := (32 : Int32) + m; let x3 : Int32 := u.1 61 x1.toNatClampNeg; if x3 = (4 : Int32) then ((1 : Int32)) else ((0 : Int32))
abbrev qe_X7_isRaw (u : uk_Mem) (m : Int32) (r : Option Value) (u' : uk_Mem) : Prop := (q_X7_isRaw u m r u') ∧ (r = some (.int (e_X7_isRaw u m)))
set_option maxHeartbeats 4000000 in
set_option maxRecDepth 20000 in
theorem x_X7_isRaw {G : uk_D} (hs : uk_Sep G) {u : uk_Mem} (hu : iv u) (m : Int32) (p0 : 0 ≤ m) (p1 : m ≤ 7) (d : Nat) : uk_Meth G d mX7_isRaw [.ref (uk_ad G 60), .int m] u (qe_X7_isRaw u m) := by
  refine uk_Meth.of hs (by decide) (Nat.le_of_ble_eq_true rfl) (fun X => ?_)
  refine g_aload_n dX7_isRaw_0 rfl ?_
  refine f_X7_7 rfl rfl dX7_isRaw_1 ?_
  refine g_bipush (v := 32) dX7_isRaw_4 (by decide) ?_
  refine g_iload_n dX7_isRaw_6 rfl ?_
  refine g_iadd dX7_isRaw_7 ?_
  refine g_topi (fun x1 ex1 => ?_)
  have v2 : vp_in x1 153 := uk_vin 153 rfl (by first | decide | lia | grind) (by first | decide | lia | grind)
  refine g_iald rfl rfl v2 dX7_isRaw_8 ?_
  refine g_topi (fun x3 ex3 => ?_)
  have bx3 := uk_cl v2
  refine g_iconst (v := 4) dX7_isRaw_9 (by decide) ?_
  refine g_icmp_ne (tgt := 17) dX7_isRaw_10 (by decide) (fun c4 => ?_) (fun c4 => ?_)
  · refine g_iconst (v := 0) dX7_isRaw_17 (by decide) ?_
    exact g_iret (ty := .boolean) dX7_isRaw_18 rfl rfl ⟨⟨⟨0, rfl, Or.inl rfl, fun q => absurd rfl q, fun _ => by first | trivial | lia | grind⟩, rfl⟩, ee_p (by subst ex3; subst ex1; exact (if_neg c4).trans (rfl))⟩
  · refine g_iconst (v := 1) dX7_isRaw_13 (by decide) ?_
    refine g_goto (tgt := 18) dX7_isRaw_14 (by decide) ?_
    exact g_iret (ty := .boolean) dX7_isRaw_18 rfl rfl ⟨⟨⟨1, rfl, Or.inr rfl, fun _ => by first | trivial | lia | grind, fun q => absurd q (by decide)⟩, rfl⟩, ee_p (by subst ex3; subst ex1; exact (if_pos c4).trans (rfl))⟩
def e_X7_isPart (u : uk_Mem) (w : Int32) : Int32 := let x4 : Int32 := (e_X7_in u w (0 : Int32) (1 : Int32)); x4
abbrev qe_X7_isPart (u : uk_Mem) (w : Int32) (r : Option Value) (u' : uk_Mem) : Prop := (q_X7_isPart u w r u') ∧ (r = some (.int (e_X7_isPart u w)))
set_option maxHeartbeats 4000000 in
set_option maxRecDepth 20000 in
theorem x_X7_isPart {G : uk_D} (hs : uk_Sep G) {u : uk_Mem} (hu : iv u) (w : Int32) (d : Nat) : uk_Meth G (d + 1) mX7_isPart [.int w] u (qe_X7_isPart u w) := by
  refine uk_Meth.of hs (by decide) (Nat.le_of_ble_eq_true rfl) (fun X => ?_)
  refine g_iload_n dX7_isPart_0 rfl ?_
  refine g_i2l dX7_isPart_1 ?_
  refine g_lconst (v := 0) dX7_isPart_2 (by decide) ?_
  refine g_lconst (v := 1) dX7_isPart_3 (by decide) ?_
  refine cl_X7_84 (As := [.long w.toInt64, .long 0, .long 1]) rfl (x_X7_in (G := G) hs hu  w 0 1  (d)) rfl (by omega) rfl (Nat.le_of_ble_eq_true rfl) dX7_isPart_4 (fun r1 u2 q3 => ?_)
  obtain ⟨q3, Eq3⟩ := q3
  obtain ⟨⟨x4, rfl, tx4, nx4, zx4⟩, mq3⟩ := q3
  rw [mq3]
  have ex4 : x4 = (e_X7_in u w (0 : Int32) (1 : Int32)) := ee_v Eq3
  exact g_iret (ty := .boolean) dX7_isPart_7 rfl (uk_nb tx4) ⟨⟨⟨_, rfl, tx4, fun q => by first | trivial | (have := nx4 q; first | exact this | grind), fun q => by first | trivial | (have := zx4 q; first | exact this | grind)⟩, rfl⟩, ee_p (by subst ex4; exact rfl)⟩
def e_X7_givesSecond (u : uk_Mem) (m : Int32) : Int32 := let x1 : Int32 := (32 : Int32) + m; let x3 : Int32 := u.1 62 x1.toNatClampNeg; if x3 = 0 then ((1 : Int32)) else (let x5 : Int32 := (32 : Int32) + m; let x7 : Int32 := u.1 62 x5.toNatClampNeg; if x7 = (3 : Int32) then (let x9 : Int32 := (8 : Int32) + m; let x11 : Int32 := u.1 62 x9.toNatClampNeg; if x11 = (1 : Int32) then ((1 : Int32)) else ((0 : Int32))) else ((0 : Int32)))
abbrev qe_X7_givesSecond (u : uk_Mem) (m : Int32) (r : Option Value) (u' : uk_Mem) : Prop := (q_X7_givesSecond u m r u') ∧ (r = some (.int (e_X7_givesSecond u m)))
set_option maxHeartbeats 4000000 in
set_option maxRecDepth 20000 in
theorem x_X7_givesSecond {G : uk_D} (hs : uk_Sep G) {u : uk_Mem} (hu : iv u) (m : Int32) (p0 : 0 ≤ m) (p1 : m ≤ 7) (d : Nat) : uk_Meth G d mX7_givesSecond [.ref (uk_ad G 60), .int m] u (qe_X7_givesSecond u m) := by
  refine uk_Meth.of hs (by decide) (Nat.le_of_ble_eq_true rfl) (fun X => ?_)
  refine g_aload_n dX7_givesSecond_0 rfl ?_
  refine f_X7_13 rfl rfl dX7_givesSecond_1 ?_
  refine g_bipush (v := 32) dX7_givesSecond_4 (by decide) ?_
  refine g_iload_n dX7_givesSecond_6 rfl ?_
  refine g_iadd dX7_givesSecond_7 ?_
  refine g_topi (fun x1 ex1 => ?_)
  have v2 : vp_in x1 51 := uk_vin 51 rfl (by first | decide | lia | grind) (by first | decide | lia | grind)
  refine g_iald rfl rfl v2 dX7_givesSecond_8 ?_
  refine g_topi (fun x3 ex3 => ?_)
  have bx3 := uk_cl v2
  refine g_if_eq (tgt := 38) dX7_givesSecond_9 (by decide) (fun c4 => ?_) (fun c4 => ?_)
  · refine g_iconst (v := 1) dX7_givesSecond_38 (by decide) ?_
    refine g_goto (tgt := 43) dX7_givesSecond_39 (by decide) ?_
    exact g_iret (ty := .boolean) dX7_givesSecond_43 rfl rfl ⟨⟨⟨1, rfl, Or.inr rfl, fun _ => by first | trivial | lia | grind, fun q => absurd q (by decide)⟩, rfl⟩, ee_p (by subst ex3; subst ex1; exact (if_pos c4).trans (rfl))⟩
  · refine g_aload_n dX7_givesSecond_12 rfl ?_
    refine f_X7_13 rfl rfl dX7_givesSecond_13 ?_
    refine g_bipush (v := 32) dX7_givesSecond_16 (by decide) ?_
    refine g_iload_n dX7_givesSecond_18 rfl ?_
    refine g_iadd dX7_givesSecond_19 ?_
    refine g_topi (fun x5 ex5 => ?_)
    have v6 : vp_in x5 51 := uk_vin 51 rfl (by first | decide | lia | grind) (by first | decide | lia | grind)
    refine g_iald rfl rfl v6 dX7_givesSecond_20 ?_
    refine g_topi (fun x7 ex7 => ?_)
    have bx7 := uk_cl v6
    refine g_iconst (v := 3) dX7_givesSecond_21 (by decide) ?_
    refine g_icmp_ne (tgt := 42) dX7_givesSecond_22 (by decide) (fun c8 => ?_) (fun c8 => ?_)
    · refine g_iconst (v := 0) dX7_givesSecond_42 (by decide) ?_
      exact g_iret (ty := .boolean) dX7_givesSecond_43 rfl rfl ⟨⟨⟨0, rfl, Or.inl rfl, fun q => absurd rfl q, fun _ => by first | trivial | lia | grind⟩, rfl⟩, ee_p (by subst ex7; subst ex5; subst ex3; subst ex1; exact (if_neg c4).trans ((if_neg c8).trans (rfl)))⟩
    · refine g_aload_n dX7_givesSecond_25 rfl ?_
      refine f_X7_13 rfl rfl dX7_givesSecond_26 ?_
      refine g_bipush (v := 8) dX7_givesSecond_29 (by decide) ?_
      refine g_iload_n dX7_givesSecond_31 rfl ?_
      refine g_iadd dX7_givesSecond_32 ?_
      refine g_topi (fun x9 ex9 => ?_)
      have v10 : vp_in x9 51 := uk_vin 51 rfl (by first | decide | lia | grind) (by first | decide | lia | grind)
      refine g_iald rfl rfl v10 dX7_givesSecond_33 ?_
      refine g_topi (fun x11 ex11 => ?_)
      have bx11 := uk_cl v10
      refine g_iconst (v := 1) dX7_givesSecond_34 (by decide) ?_
      refine g_icmp_ne (tgt := 42) dX7_givesSecond_35 (by decide) (fun c12 => ?_) (fun c12 => ?_)
      · refine g_iconst (v := 0) dX7_givesSecond_42 (by decide) ?_
        exact g_iret (ty := .boolean) dX7_givesSecond_43 rfl rfl ⟨⟨⟨0, rfl, Or.inl rfl, fun q => absurd rfl q, fun _ => by first | trivial | lia | grind⟩, rfl⟩, ee_p (by subst ex11; subst ex9; subst ex7; subst ex5; subst ex3; subst ex1; exact (if_neg c4).trans ((if_pos c8).trans ((if_neg c12).trans (rfl))))⟩
      · refine g_iconst (v := 1) dX7_givesSecond_38 (by decide) ?_
        refine g_goto (tgt := 43) dX7_givesSecond_39 (by decide) ?_
        exact g_iret (ty := .boolean) dX7_givesSecond_43 rfl rfl ⟨⟨⟨1, rfl, Or.inr rfl, fun _ => by first | trivial | lia | grind, fun q => absurd q (by decide)⟩, rfl⟩, ee_p (by subst ex11; subst ex9; subst ex7; subst ex5; subst ex3; subst ex1; exact (if_neg c4).trans ((if_pos c8).trans ((if_pos c12).trans (rfl))))⟩
def e_X7_canCook (u : uk_Mem) (m : Int32) : Int32 := let x1 : Int32 := (32 : Int32) + m; let x3 : Int32 := u.1 62 x1.toNatClampNeg; if x3 = (4 : Int32) then ((0 : Int32)) else (let x5 : Int32 := (0 : Int32) + m; let x7 : Int32 := u.1 62 x5.toNatClampNeg; if x7 = (40 : Int32) then ((0 : Int32)) else (let x10 : Int32 := u.1 64 m.toNatClampNeg; let x12 : Int32 := u.1 65 m.toNatClampNeg; if x10 = x12 then (let x22 : Int32 := (0 : Int32) + x10; let x24 : Int32 := u.1 62 x22.toNatClampNeg; if x24 ≤ (1 : Int32) then ((0 : Int32)) else ((1 : Int32))) else (let x14 : Int32 := (0 : Int32) + x10; let x16 : Int32 := u.1 62 x14.toNatClampNeg; if x16 ≤ 0 then ((0 : Int32)) else (let x18 : Int32 := (0 : Int32) + x12; let x20 : Int32 := u.1 62 x18.toNatClampNeg; if x20 ≤ 0 then ((0 : Int32)) else ((1 : Int32))))))
abbrev qe_X7_canCook (u : uk_Mem) (m : Int32) (r : Option Value) (u' : uk_Mem) : Prop := (q_X7_canCook u m r u') ∧ (r = some (.int (e_X7_canCook u m)))
set_option maxHeartbeats 4000000 in
set_option maxRecDepth 20000 in
theorem x_X7_canCook {G : uk_D} (hs : uk_Sep G) {u : uk_Mem} (hu : iv u) (hra : ra u) (m : Int32) (p0 : 0 ≤ m) (p1 : m < u.1 60 3) (p2 : m ≤ 7) (d : Nat) : uk_Meth G d mX7_canCook [.ref (uk_ad G 60), .int m] u (qe_X7_canCook u m) := by
  refine uk_Meth.of hs (by decide) (Nat.le_of_ble_eq_true rfl) (fun X => ?_)
  have hk : u.1 62 (32 + m).toNatClampNeg = 4 ∨ (0 ≤ u.1 64 m.toNatClampNeg ∧ u.1 64 m.toNatClampNeg < m ∧ 0 ≤ u.1 65 m.toNatClampNeg ∧ u.1 65 m.toNatClampNeg < m) := hra m p0 p1 p2
  refine g_aload_n dX7_canCook_0 rfl ?_
  refine f_X7_13 rfl rfl dX7_canCook_1 ?_
  refine g_bipush (v := 32) dX7_canCook_4 (by decide) ?_
  refine g_iload_n dX7_canCook_6 rfl ?_
  refine g_iadd dX7_canCook_7 ?_
  refine g_topi (fun x1 ex1 => ?_)
  have v2 : vp_in x1 51 := uk_vin 51 rfl (by first | decide | lia | grind) (by first | decide | lia | grind)
  refine g_iald rfl rfl v2 dX7_canCook_8 ?_
  refine g_topi (fun x3 ex3 => ?_)
  have bx3 := uk_cl v2
  refine g_iconst (v := 4) dX7_canCook_9 (by decide) ?_
  refine g_icmp_eq (tgt := 26) dX7_canCook_10 (by decide) (fun c4 => ?_) (fun c4 => ?_)
  · refine g_iconst (v := 0) dX7_canCook_26 (by decide) ?_
    exact g_iret (ty := .boolean) dX7_canCook_27 rfl rfl ⟨⟨⟨0, rfl, Or.inl rfl, fun q => absurd rfl q, fun _ => by first | trivial | lia | grind⟩, rfl⟩, ee_p (by subst ex3; subst ex1; exact (if_pos c4).trans (rfl))⟩
  · refine g_aload_n dX7_canCook_13 rfl ?_
    refine f_X7_13 rfl rfl dX7_canCook_14 ?_
    refine g_iconst (v := 0) dX7_canCook_17 (by decide) ?_
    refine g_iload_n dX7_canCook_18 rfl ?_
    refine g_iadd dX7_canCook_19 ?_
    refine g_topi (fun x5 ex5 => ?_)
    have ox5 : x5 = m := by rw [ex5, Int32.zero_add]
    have v6 : vp_in x5 51 := uk_vin 51 rfl (by first | decide | lia | grind) (by first | decide | lia | grind)
    refine g_iald rfl rfl v6 dX7_canCook_20 ?_
    refine g_topi (fun x7 ex7 => ?_)
    have bx7 := uk_cl v6
    have rx7 : 0 ≤ x7 ∧ x7 ≤ 40 := by rw [ex7]; exact sg_0 hu (by unfold uk_is51; decide) (by first | lia | grind) (by first | lia | grind)
    refine g_bipush (v := 40) dX7_canCook_21 (by decide) ?_
    refine g_icmp_ne (tgt := 28) dX7_canCook_23 (by decide) (fun c8 => ?_) (fun c8 => ?_)
    · refine g_aload_n dX7_canCook_28 rfl ?_
      refine f_X7_20 rfl rfl dX7_canCook_29 ?_
      refine g_iload_n dX7_canCook_32 rfl ?_
      have v9 : vp_in m 8 := uk_vin 8 rfl (by first | decide | lia | grind) (by first | decide | lia | grind)
      refine g_iald rfl rfl v9 dX7_canCook_33 ?_
      refine g_topi (fun x10 ex10 => ?_)
      have bx10 := uk_cl v9
      have rx10 : (-4) ≤ x10 ∧ x10 ≤ 7 := by rw [ex10]; exact iv_at hu _ _ (uk_pick1 _ (by omega))
      have hp := hk.resolve_left (by grind)
      refine g_istore_n dX7_canCook_34 (by decide) ?_
      refine g_pick (lv' := [(0, .ref (uk_ad G 60)), (1, .int m), (2, .int x10)]) [0, 1, 2] rfl ?_
      refine g_aload_n dX7_canCook_35 rfl ?_
      refine f_X7_23 rfl rfl dX7_canCook_36 ?_
      refine g_iload_n dX7_canCook_39 rfl ?_
      have v11 : vp_in m 8 := uk_vin 8 rfl (by first | decide | lia | grind) (by first | decide | lia | grind)
      refine g_iald rfl rfl v11 dX7_canCook_40 ?_
      refine g_topi (fun x12 ex12 => ?_)
      have bx12 := uk_cl v11
      have rx12 : (-4) ≤ x12 ∧ x12 ≤ 7 := by rw [ex12]; exact iv_at hu _ _ (uk_pick1 _ (by omega))
      refine g_istore_n dX7_canCook_41 (by decide) ?_
      refine g_pick (lv' := [(0, .ref (uk_ad G 60)), (1, .int m), (2, .int x10), (3, .int x12)]) [0, 1, 2, 3] rfl ?_
      refine g_iload_n dX7_canCook_42 rfl ?_
      refine g_iload_n dX7_canCook_43 rfl ?_
      refine g_icmp_ne (tgt := 67) dX7_canCook_44 (by decide) (fun c13 => ?_) (fun c13 => ?_)
      · refine g_aload_n dX7_canCook_67 rfl ?_
        refine f_X7_13 rfl rfl dX7_canCook_68 ?_
        refine g_iconst (v := 0) dX7_canCook_71 (by decide) ?_
        refine g_iload_n dX7_canCook_72 rfl ?_
        refine g_iadd dX7_canCook_73 ?_
        refine g_topi (fun x14 ex14 => ?_)
        have ox14 : x14 = x10 := by rw [ex14, Int32.zero_add]
        have v15 : vp_in x14 51 := uk_vin 51 rfl (by first | decide | lia | grind) (by first | decide | lia | grind)
        refine g_iald rfl rfl v15 dX7_canCook_74 ?_
        refine g_topi (fun x16 ex16 => ?_)
        have bx16 := uk_cl v15
        have rx16 : 0 ≤ x16 ∧ x16 ≤ 40 := by rw [ex16]; exact sg_0 hu (by unfold uk_is51; decide) (by first | lia | grind) (by first | lia | grind)
        refine g_if_le (tgt := 93) dX7_canCook_75 (by decide) (fun c17 => ?_) (fun c17 => ?_)
        · refine g_iconst (v := 0) dX7_canCook_93 (by decide) ?_
          exact g_iret (ty := .boolean) dX7_canCook_94 rfl rfl ⟨⟨⟨0, rfl, Or.inl rfl, fun q => absurd rfl q, fun _ => by first | trivial | lia | grind⟩, rfl⟩, ee_p (by subst ex16; subst ex14; subst ex12; subst ex10; subst ex7; subst ex5; subst ex3; subst ex1; exact (if_neg c4).trans ((if_neg c8).trans ((if_neg c13).trans ((if_pos c17).trans (rfl)))))⟩
        · refine g_aload_n dX7_canCook_78 rfl ?_
          refine f_X7_13 rfl rfl dX7_canCook_79 ?_
          refine g_iconst (v := 0) dX7_canCook_82 (by decide) ?_
          refine g_iload_n dX7_canCook_83 rfl ?_
          refine g_iadd dX7_canCook_84 ?_
          refine g_topi (fun x18 ex18 => ?_)
          have ox18 : x18 = x12 := by rw [ex18, Int32.zero_add]
          have v19 : vp_in x18 51 := uk_vin 51 rfl (by first | decide | lia | grind) (by first | decide | lia | grind)
          refine g_iald rfl rfl v19 dX7_canCook_85 ?_
          refine g_topi (fun x20 ex20 => ?_)
          have bx20 := uk_cl v19
          have rx20 : 0 ≤ x20 ∧ x20 ≤ 40 := by rw [ex20]; exact sg_0 hu (by unfold uk_is51; decide) (by first | lia | grind) (by first | lia | grind)
          refine g_if_le (tgt := 93) dX7_canCook_86 (by decide) (fun c21 => ?_) (fun c21 => ?_)
          · refine g_iconst (v := 0) dX7_canCook_93 (by decide) ?_
            exact g_iret (ty := .boolean) dX7_canCook_94 rfl rfl ⟨⟨⟨0, rfl, Or.inl rfl, fun q => absurd rfl q, fun _ => by first | trivial | lia | grind⟩, rfl⟩, ee_p (by subst ex20; subst ex18; subst ex16; subst ex14; subst ex12; subst ex10; subst ex7; subst ex5; subst ex3; subst ex1; exact (if_neg c4).trans ((if_neg c8).trans ((if_neg c13).trans ((if_neg c17).trans ((if_pos c21).trans (rfl))))))⟩
          · refine g_iconst (v := 1) dX7_canCook_89 (by decide) ?_
            refine g_goto (tgt := 94) dX7_canCook_90 (by decide) ?_
            exact g_iret (ty := .boolean) dX7_canCook_94 rfl rfl ⟨⟨⟨1, rfl, Or.inr rfl, fun _ => ⟨hp.1, hp.2.1, hp.2.2.1, hp.2.2.2, by grind, fun q => by grind, fun q => by grind⟩, fun q => absurd q (by decide)⟩, rfl⟩, ee_p (by subst ex20; subst ex18; subst ex16; subst ex14; subst ex12; subst ex10; subst ex7; subst ex5; subst ex3; subst ex1; exact (if_neg c4).trans ((if_neg c8).trans ((if_neg c13).trans ((if_neg c17).trans ((if_neg c21).trans (rfl))))))⟩
      · refine g_aload_n dX7_canCook_47 rfl ?_
        refine f_X7_13 rfl rfl dX7_canCook_48 ?_
        refine g_iconst (v := 0) dX7_canCook_51 (by decide) ?_
        refine g_iload_n dX7_canCook_52 rfl ?_
        refine g_iadd dX7_canCook_53 ?_
        refine g_topi (fun x22 ex22 => ?_)
        have ox22 : x22 = x10 := by rw [ex22, Int32.zero_add]
        have v23 : vp_in x22 51 := uk_vin 51 rfl (by first | decide | lia | grind) (by first | decide | lia | grind)
        refine g_iald rfl rfl v23 dX7_canCook_54 ?_
        refine g_topi (fun x24 ex24 => ?_)
        have bx24 := uk_cl v23
        have rx24 : 0 ≤ x24 ∧ x24 ≤ 40 := by rw [ex24]; exact sg_0 hu (by unfold uk_is51; decide) (by first | lia | grind) (by first | lia | grind)
        refine g_iconst (v := 1) dX7_canCook_55 (by decide) ?_
        refine g_icmp_le (tgt := 63) dX7_canCook_56 (by decide) (fun c25 => ?_) (fun c25 => ?_)
        · refine g_iconst (v := 0) dX7_canCook_63 (by decide) ?_
          refine g_goto (tgt := 94) dX7_canCook_64 (by decide) ?_
          exact g_iret (ty := .boolean) dX7_canCook_94 rfl rfl ⟨⟨⟨0, rfl, Or.inl rfl, fun q => absurd rfl q, fun _ => by first | trivial | lia | grind⟩, rfl⟩, ee_p (by subst ex24; subst ex22; subst ex12; subst ex10; subst ex7; subst ex5; subst ex3; subst ex1; exact (if_neg c4).trans ((if_neg c8).trans ((if_pos c13).trans ((if_pos c25).trans (rfl)))))⟩
        · refine g_iconst (v := 1) dX7_canCook_59 (by decide) ?_
          refine g_goto (tgt := 94) dX7_canCook_60 (by decide) ?_
          exact g_iret (ty := .boolean) dX7_canCook_94 rfl rfl ⟨⟨⟨1, rfl, Or.inr rfl, fun _ => ⟨hp.1, hp.2.1, hp.2.2.1, hp.2.2.2, by grind, fun q => by grind, fun q => by grind⟩, fun q => absurd q (by decide)⟩, rfl⟩, ee_p (by subst ex24; subst ex22; subst ex12; subst ex10; subst ex7; subst ex5; subst ex3; subst ex1; exact (if_neg c4).trans ((if_neg c8).trans ((if_pos c13).trans ((if_neg c25).trans (rfl)))))⟩
    · refine g_iconst (v := 0) dX7_canCook_26 (by decide) ?_
      exact g_iret (ty := .boolean) dX7_canCook_27 rfl rfl ⟨⟨⟨0, rfl, Or.inl rfl, fun q => absurd rfl q, fun _ => by first | trivial | lia | grind⟩, rfl⟩, ee_p (by subst ex7; subst ex5; subst ex3; subst ex1; exact (if_neg c4).trans ((if_pos c8).trans (rfl)))⟩
def e_X7_canTurn (u : uk_Mem) (m : Int32) : Int32 := let x1 : Int32 := (32 : Int32) + m; let x3 : Int32 := u.1 62 x1.toNatClampNeg; if x3 = (4 : Int32) then ((0 : Int32)) else (let x5 : Int32 := (32 : Int32) + m; let x7 : Int32 := u.1 62 x5.toNatClampNeg; if x7 = (2 : Int32) then ((0 : Int32)) else (let x9 : Int32 := (0 : Int32) + m; let x11 : Int32 := u.1 62 x9.toNatClampNeg; if x11 = 0 then ((0 : Int32)) else (let x14 : Int32 := u.1 64 m.toNatClampNeg; let x16 : Int32 := u.1 65 m.toNatClampNeg; let x20 : Int32 := (e_X7_givesSecond u m); if x20 = 0 then (let x22 : Int32 := (0 : Int32) + x14; let x24 : Int32 := u.1 62 x22.toNatClampNeg; let x25 : Int32 := x24 + (1 : Int32); if (40 : Int32) < x25 then ((0 : Int32)) else (let x30 : Int32 := (e_X7_givesSecond u m); if x30 = 0 then ((1 : Int32)) else (if x14 = x16 then ((1 : Int32)) else (let x33 : Int32 := (0 : Int32) + x16; let x35 : Int32 := u.1 62 x33.toNatClampNeg; if (40 : Int32) ≤ x35 then ((0 : Int32)) else ((1 : Int32)))))) else (if x14 = x16 then (let x53 : Int32 := (0 : Int32) + x14; let x55 : Int32 := u.1 62 x53.toNatClampNeg; let x56 : Int32 := x55 + (2 : Int32); if (40 : Int32) < x56 then ((0 : Int32)) else (let x61 : Int32 := (e_X7_givesSecond u m); if x61 = 0 then ((1 : Int32)) else (if x14 = x16 then ((1 : Int32)) else (let x64 : Int32 := (0 : Int32) + x16; let x66 : Int32 := u.1 62 x64.toNatClampNeg; if (40 : Int32) ≤ x66 then ((0 : Int32)) else ((1 : Int32)))))) else (let x38 : Int32 := (0 : Int32) + x14; let x40 : Int32 := u.1 62 x38.toNatClampNeg; let x41 : Int32 := x40 + (1 : Int32); if (40 : Int32) < x41 then ((0 : Int32)) else (let x46 : Int32 := (e_X7_givesSecond u m); if x46 = 0 then ((1 : Int32)) else (if x14 = x16 then ((1 : Int32)) else (let x49 : Int32 := (0 : Int32) + x16; let x51 : Int32 := u.1 62 x49.toNatClampNeg; if (40 : Int32) ≤ x51 then ((0 : Int32)) else ((1 : Int32))))))))))
abbrev qe_X7_canTurn (u : uk_Mem) (m : Int32) (r : Option Value) (u' : uk_Mem) : Prop := (q_X7_canTurn u m r u') ∧ (r = some (.int (e_X7_canTurn u m)))
set_option maxHeartbeats 4000000 in
set_option maxRecDepth 20000 in
theorem x_X7_canTurn {G : uk_D} (hs : uk_Sep G) {u : uk_Mem} (hu : iv u) (hra : ra u) (m : Int32) (p0 : 0 ≤ m) (p1 : m < u.1 60 3) (p2 : m ≤ 7) (d : Nat) : uk_Meth G (d + 1) mX7_canTurn [.ref (uk_ad G 60), .int m] u (qe_X7_canTurn u m) := by
  refine uk_Meth.of hs (by decide) (Nat.le_of_ble_eq_true rfl) (fun X => ?_)
  have hk : u.1 62 (32 + m).toNatClampNeg = 4 ∨ (0 ≤ u.1 64 m.toNatClampNeg ∧ u.1 64 m.toNatClampNeg < m ∧ 0 ≤ u.1 65 m.toNatClampNeg ∧ u.1 65 m.toNatClampNeg < m) := hra m p0 p1 p2
  refine g_aload_n dX7_canTurn_0 rfl ?_
  refine f_X7_13 rfl rfl dX7_canTurn_1 ?_
  refine g_bipush (v := 32) dX7_canTurn_4 (by decide) ?_
  refine g_iload_n dX7_canTurn_6 rfl ?_
  refine g_iadd dX7_canTurn_7 ?_
  refine g_topi (fun x1 ex1 => ?_)
  have v2 : vp_in x1 51 := uk_vin 51 rfl (by first | decide | lia | grind) (by first | decide | lia | grind)
  refine g_iald rfl rfl v2 dX7_canTurn_8 ?_
  refine g_topi (fun x3 ex3 => ?_)
  have bx3 := uk_cl v2
  refine g_iconst (v := 4) dX7_canTurn_9 (by decide) ?_
  refine g_icmp_eq (tgt := 37) dX7_canTurn_10 (by decide) (fun c4 => ?_) (fun c4 => ?_)
  · refine g_iconst (v := 0) dX7_canTurn_37 (by decide) ?_
    exact g_iret (ty := .boolean) dX7_canTurn_38 rfl rfl ⟨⟨⟨0, rfl, Or.inl rfl, fun q => absurd rfl q, fun _ => by first | trivial | lia | grind⟩, rfl⟩, ee_p (by subst ex3; subst ex1; exact (if_pos c4).trans (rfl))⟩
  · refine g_aload_n dX7_canTurn_13 rfl ?_
    refine f_X7_13 rfl rfl dX7_canTurn_14 ?_
    refine g_bipush (v := 32) dX7_canTurn_17 (by decide) ?_
    refine g_iload_n dX7_canTurn_19 rfl ?_
    refine g_iadd dX7_canTurn_20 ?_
    refine g_topi (fun x5 ex5 => ?_)
    have v6 : vp_in x5 51 := uk_vin 51 rfl (by first | decide | lia | grind) (by first | decide | lia | grind)
    refine g_iald rfl rfl v6 dX7_canTurn_21 ?_
    refine g_topi (fun x7 ex7 => ?_)
    have bx7 := uk_cl v6
    refine g_iconst (v := 2) dX7_canTurn_22 (by decide) ?_
    refine g_icmp_eq (tgt := 37) dX7_canTurn_23 (by decide) (fun c8 => ?_) (fun c8 => ?_)
    · refine g_iconst (v := 0) dX7_canTurn_37 (by decide) ?_
      exact g_iret (ty := .boolean) dX7_canTurn_38 rfl rfl ⟨⟨⟨0, rfl, Or.inl rfl, fun q => absurd rfl q, fun _ => by first | trivial | lia | grind⟩, rfl⟩, ee_p (by subst ex7; subst ex5; subst ex3; subst ex1; exact (if_neg c4).trans ((if_pos c8).trans (rfl)))⟩
    · refine g_aload_n dX7_canTurn_26 rfl ?_
      refine f_X7_13 rfl rfl dX7_canTurn_27 ?_
      refine g_iconst (v := 0) dX7_canTurn_30 (by decide) ?_
      refine g_iload_n dX7_canTurn_31 rfl ?_
      refine g_iadd dX7_canTurn_32 ?_
      refine g_topi (fun x9 ex9 => ?_)
      have ox9 : x9 = m := by rw [ex9, Int32.zero_add]
      have v10 : vp_in x9 51 := uk_vin 51 rfl (by first | decide | lia | grind) (by first | decide | lia | grind)
      refine g_iald rfl rfl v10 dX7_canTurn_33 ?_
      refine g_topi (fun x11 ex11 => ?_)
      have bx11 := uk_cl v10
      have rx11 : 0 ≤ x11 ∧ x11 ≤ 40 := by rw [ex11]; exact sg_0 hu (by unfold uk_is51; decide) (by first | lia | grind) (by first | lia | grind)
      refine g_if_ne (tgt := 39) dX7_canTurn_34 (by decide) (fun c12 => ?_) (fun c12 => ?_)
      · refine g_aload_n dX7_canTurn_39 rfl ?_
        refine f_X7_20 rfl rfl dX7_canTurn_40 ?_
        refine g_iload_n dX7_canTurn_43 rfl ?_
        have v13 : vp_in m 8 := uk_vin 8 rfl (by first | decide | lia | grind) (by first | decide | lia | grind)
        refine g_iald rfl rfl v13 dX7_canTurn_44 ?_
        refine g_topi (fun x14 ex14 => ?_)
        have bx14 := uk_cl v13
        have rx14 : (-4) ≤ x14 ∧ x14 ≤ 7 := by rw [ex14]; exact iv_at hu _ _ (uk_pick1 _ (by omega))
        have hp := hk.resolve_left (by grind)
        refine g_istore_n dX7_canTurn_45 (by decide) ?_
        refine g_pick (lv' := [(0, .ref (uk_ad G 60)), (1, .int m), (2, .int x14)]) [0, 1, 2] rfl ?_
        refine g_aload_n dX7_canTurn_46 rfl ?_
        refine f_X7_23 rfl rfl dX7_canTurn_47 ?_
        refine g_iload_n dX7_canTurn_50 rfl ?_
        have v15 : vp_in m 8 := uk_vin 8 rfl (by first | decide | lia | grind) (by first | decide | lia | grind)
        refine g_iald rfl rfl v15 dX7_canTurn_51 ?_
        refine g_topi (fun x16 ex16 => ?_)
        have bx16 := uk_cl v15
        have rx16 : (-4) ≤ x16 ∧ x16 ≤ 7 := by rw [ex16]; exact iv_at hu _ _ (uk_pick1 _ (by omega))
        refine g_istore_n dX7_canTurn_52 (by decide) ?_
        refine g_pick (lv' := [(0, .ref (uk_ad G 60)), (1, .int m), (2, .int x14), (3, .int x16)]) [0, 1, 2, 3] rfl ?_
        refine g_aload_n dX7_canTurn_53 rfl ?_
        refine g_iload_n dX7_canTurn_54 rfl ?_
        refine cl_X7_153 (c := 60) (As := [.int m]) rfl (x_X7_givesSecond (G := G) hs hu  m (by first | trivial | decide | lia | grind) (by first | trivial | decide | lia | grind) (d)) rfl (by omega) rfl rfl (Nat.le_of_ble_eq_true rfl) dX7_canTurn_55 (fun r17 u18 q19 => ?_)
        obtain ⟨q19, Eq19⟩ := q19
        obtain ⟨⟨x20, rfl, tx20, nx20, zx20⟩, mq19⟩ := q19
        rw [mq19]
        have ex20 : x20 = (e_X7_givesSecond u m) := ee_v Eq19
        refine g_if_eq (tgt := 70) dX7_canTurn_58 (by decide) (fun c21 => ?_) (fun c21 => ?_)
        · have zc21 := zx20 c21
          refine g_iconst (v := 1) dX7_canTurn_70 (by decide) ?_
          refine g_istore dX7_canTurn_71 (by decide) ?_
          refine g_pick (lv' := [(0, .ref (uk_ad G 60)), (1, .int m), (2, .int x14), (3, .int x16), (4, .int 1)]) [0, 1, 2, 3, 4] rfl ?_
          refine g_aload_n dX7_canTurn_73 rfl ?_
          refine f_X7_13 rfl rfl dX7_canTurn_74 ?_
          refine g_iconst (v := 0) dX7_canTurn_77 (by decide) ?_
          refine g_iload_n dX7_canTurn_78 rfl ?_
          refine g_iadd dX7_canTurn_79 ?_
          refine g_topi (fun x22 ex22 => ?_)
          have ox22 : x22 = x14 := by rw [ex22, Int32.zero_add]
          have v23 : vp_in x22 51 := uk_vin 51 rfl (by first | decide | lia | grind) (by first | decide | lia | grind)
          refine g_iald rfl rfl v23 dX7_canTurn_80 ?_
          refine g_topi (fun x24 ex24 => ?_)
          have bx24 := uk_cl v23
          have rx24 : 0 ≤ x24 ∧ x24 ≤ 40 := by rw [ex24]; exact sg_0 hu (by unfold uk_is51; decide) (by first | lia | grind) (by first | lia | grind)
          refine g_iload dX7_canTurn_81 rfl ?_
          refine g_iadd dX7_canTurn_83 ?_
          refine g_topi (fun x25 ex25 => ?_)
          refine g_bipush (v := 40) dX7_canTurn_84 (by decide) ?_
          refine g_icmp_gt (tgt := 119) dX7_canTurn_86 (by decide) (fun c26 => ?_) (fun c26 => ?_)
          · refine g_iconst (v := 0) dX7_canTurn_119 (by decide) ?_
            exact g_iret (ty := .boolean) dX7_canTurn_120 rfl rfl ⟨⟨⟨0, rfl, Or.inl rfl, fun q => absurd rfl q, fun _ => by first | trivial | lia | grind⟩, rfl⟩, ee_p (by subst ex25; subst ex24; subst ex22; subst ex20; subst ex16; subst ex14; subst ex11; subst ex9; subst ex7; subst ex5; subst ex3; subst ex1; exact (if_neg c4).trans ((if_neg c8).trans ((if_neg c12).trans ((if_pos c21).trans ((if_pos c26).trans (rfl))))))⟩
          · refine g_aload_n dX7_canTurn_89 rfl ?_
            refine g_iload_n dX7_canTurn_90 rfl ?_
            refine cl_X7_153 (c := 60) (As := [.int m]) rfl (x_X7_givesSecond (G := G) hs hu  m (by first | trivial | decide | lia | grind) (by first | trivial | decide | lia | grind) (d)) rfl (by omega) rfl rfl (Nat.le_of_ble_eq_true rfl) dX7_canTurn_91 (fun r27 u28 q29 => ?_)
            obtain ⟨q29, Eq29⟩ := q29
            obtain ⟨⟨x30, rfl, tx30, nx30, zx30⟩, mq29⟩ := q29
            rw [mq29]
            have ex30 : x30 = (e_X7_givesSecond u m) := ee_v Eq29
            refine g_if_eq (tgt := 115) dX7_canTurn_94 (by decide) (fun c31 => ?_) (fun c31 => ?_)
            · have zc31 := zx30 c31
              refine g_iconst (v := 1) dX7_canTurn_115 (by decide) ?_
              refine g_goto (tgt := 120) dX7_canTurn_116 (by decide) ?_
              exact g_iret (ty := .boolean) dX7_canTurn_120 rfl rfl ⟨⟨⟨1, rfl, Or.inr rfl, fun _ => ⟨hp.1, hp.2.1, hp.2.2.1, hp.2.2.2, by grind, by grind, fun q q2 => by grind, fun q q2 => by grind⟩, fun q => absurd q (by decide)⟩, rfl⟩, ee_p (by subst ex30; subst ex25; subst ex24; subst ex22; subst ex20; subst ex16; subst ex14; subst ex11; subst ex9; subst ex7; subst ex5; subst ex3; subst ex1; exact (if_neg c4).trans ((if_neg c8).trans ((if_neg c12).trans ((if_pos c21).trans ((if_neg c26).trans ((if_pos c31).trans (rfl)))))))⟩
            · have zc31 := nx30 c31
              refine g_iload_n dX7_canTurn_97 rfl ?_
              refine g_iload_n dX7_canTurn_98 rfl ?_
              refine g_icmp_eq (tgt := 115) dX7_canTurn_99 (by decide) (fun c32 => ?_) (fun c32 => ?_)
              · refine g_iconst (v := 1) dX7_canTurn_115 (by decide) ?_
                refine g_goto (tgt := 120) dX7_canTurn_116 (by decide) ?_
                exact g_iret (ty := .boolean) dX7_canTurn_120 rfl rfl ⟨⟨⟨1, rfl, Or.inr rfl, fun _ => ⟨hp.1, hp.2.1, hp.2.2.1, hp.2.2.2, by grind, by grind, fun q q2 => by grind, fun q q2 => by grind⟩, fun q => absurd q (by decide)⟩, rfl⟩, ee_p (by subst ex30; subst ex25; subst ex24; subst ex22; subst ex20; subst ex16; subst ex14; subst ex11; subst ex9; subst ex7; subst ex5; subst ex3; subst ex1; exact (if_neg c4).trans ((if_neg c8).trans ((if_neg c12).trans ((if_pos c21).trans ((if_neg c26).trans ((if_neg c31).trans ((if_pos c32).trans (rfl))))))))⟩
              · refine g_aload_n dX7_canTurn_102 rfl ?_
                refine f_X7_13 rfl rfl dX7_canTurn_103 ?_
                refine g_iconst (v := 0) dX7_canTurn_106 (by decide) ?_
                refine g_iload_n dX7_canTurn_107 rfl ?_
                refine g_iadd dX7_canTurn_108 ?_
                refine g_topi (fun x33 ex33 => ?_)
                have ox33 : x33 = x16 := by rw [ex33, Int32.zero_add]
                have v34 : vp_in x33 51 := uk_vin 51 rfl (by first | decide | lia | grind) (by first | decide | lia | grind)
                refine g_iald rfl rfl v34 dX7_canTurn_109 ?_
                refine g_topi (fun x35 ex35 => ?_)
                have bx35 := uk_cl v34
                have rx35 : 0 ≤ x35 ∧ x35 ≤ 40 := by rw [ex35]; exact sg_0 hu (by unfold uk_is51; decide) (by first | lia | grind) (by first | lia | grind)
                refine g_bipush (v := 40) dX7_canTurn_110 (by decide) ?_
                refine g_icmp_ge (tgt := 119) dX7_canTurn_112 (by decide) (fun c36 => ?_) (fun c36 => ?_)
                · refine g_iconst (v := 0) dX7_canTurn_119 (by decide) ?_
                  exact g_iret (ty := .boolean) dX7_canTurn_120 rfl rfl ⟨⟨⟨0, rfl, Or.inl rfl, fun q => absurd rfl q, fun _ => by first | trivial | lia | grind⟩, rfl⟩, ee_p (by subst ex35; subst ex33; subst ex30; subst ex25; subst ex24; subst ex22; subst ex20; subst ex16; subst ex14; subst ex11; subst ex9; subst ex7; subst ex5; subst ex3; subst ex1; exact (if_neg c4).trans ((if_neg c8).trans ((if_neg c12).trans ((if_pos c21).trans ((if_neg c26).trans ((if_neg c31).trans ((if_neg c32).trans ((if_pos c36).trans (rfl)))))))))⟩
                · refine g_iconst (v := 1) dX7_canTurn_115 (by decide) ?_
                  refine g_goto (tgt := 120) dX7_canTurn_116 (by decide) ?_
                  exact g_iret (ty := .boolean) dX7_canTurn_120 rfl rfl ⟨⟨⟨1, rfl, Or.inr rfl, fun _ => ⟨hp.1, hp.2.1, hp.2.2.1, hp.2.2.2, by grind, by grind, fun q q2 => by grind, fun q q2 => by grind⟩, fun q => absurd q (by decide)⟩, rfl⟩, ee_p (by subst ex35; subst ex33; subst ex30; subst ex25; subst ex24; subst ex22; subst ex20; subst ex16; subst ex14; subst ex11; subst ex9; subst ex7; subst ex5; subst ex3; subst ex1; exact (if_neg c4).trans ((if_neg c8).trans ((if_neg c12).trans ((if_pos c21).trans ((if_neg c26).trans ((if_neg c31).trans ((if_neg c32).trans ((if_neg c36).trans (rfl)))))))))⟩
        · have zc21 := nx20 c21
          refine g_iload_n dX7_canTurn_61 rfl ?_
          refine g_iload_n dX7_canTurn_62 rfl ?_
          refine g_icmp_ne (tgt := 70) dX7_canTurn_63 (by decide) (fun c37 => ?_) (fun c37 => ?_)
          · refine g_iconst (v := 1) dX7_canTurn_70 (by decide) ?_
            refine g_istore dX7_canTurn_71 (by decide) ?_
            refine g_pick (lv' := [(0, .ref (uk_ad G 60)), (1, .int m), (2, .int x14), (3, .int x16), (4, .int 1)]) [0, 1, 2, 3, 4] rfl ?_
            refine g_aload_n dX7_canTurn_73 rfl ?_
            refine f_X7_13 rfl rfl dX7_canTurn_74 ?_
            refine g_iconst (v := 0) dX7_canTurn_77 (by decide) ?_
            refine g_iload_n dX7_canTurn_78 rfl ?_
            refine g_iadd dX7_canTurn_79 ?_
            refine g_topi (fun x38 ex38 => ?_)
            have ox38 : x38 = x14 := by rw [ex38, Int32.zero_add]
            have v39 : vp_in x38 51 := uk_vin 51 rfl (by first | decide | lia | grind) (by first | decide | lia | grind)
            refine g_iald rfl rfl v39 dX7_canTurn_80 ?_
            refine g_topi (fun x40 ex40 => ?_)
            have bx40 := uk_cl v39
            have rx40 : 0 ≤ x40 ∧ x40 ≤ 40 := by rw [ex40]; exact sg_0 hu (by unfold uk_is51; decide) (by first | lia | grind) (by first | lia | grind)
            refine g_iload dX7_canTurn_81 rfl ?_
            refine g_iadd dX7_canTurn_83 ?_
            refine g_topi (fun x41 ex41 => ?_)
            refine g_bipush (v := 40) dX7_canTurn_84 (by decide) ?_
            refine g_icmp_gt (tgt := 119) dX7_canTurn_86 (by decide) (fun c42 => ?_) (fun c42 => ?_)
            · refine g_iconst (v := 0) dX7_canTurn_119 (by decide) ?_
              exact g_iret (ty := .boolean) dX7_canTurn_120 rfl rfl ⟨⟨⟨0, rfl, Or.inl rfl, fun q => absurd rfl q, fun _ => by first | trivial | lia | grind⟩, rfl⟩, ee_p (by subst ex41; subst ex40; subst ex38; subst ex20; subst ex16; subst ex14; subst ex11; subst ex9; subst ex7; subst ex5; subst ex3; subst ex1; exact (if_neg c4).trans ((if_neg c8).trans ((if_neg c12).trans ((if_neg c21).trans ((if_neg c37).trans ((if_pos c42).trans (rfl)))))))⟩
            · refine g_aload_n dX7_canTurn_89 rfl ?_
              refine g_iload_n dX7_canTurn_90 rfl ?_
              refine cl_X7_153 (c := 60) (As := [.int m]) rfl (x_X7_givesSecond (G := G) hs hu  m (by first | trivial | decide | lia | grind) (by first | trivial | decide | lia | grind) (d)) rfl (by omega) rfl rfl (Nat.le_of_ble_eq_true rfl) dX7_canTurn_91 (fun r43 u44 q45 => ?_)
              obtain ⟨q45, Eq45⟩ := q45
              obtain ⟨⟨x46, rfl, tx46, nx46, zx46⟩, mq45⟩ := q45
              rw [mq45]
              have ex46 : x46 = (e_X7_givesSecond u m) := ee_v Eq45
              refine g_if_eq (tgt := 115) dX7_canTurn_94 (by decide) (fun c47 => ?_) (fun c47 => ?_)
              · have zc47 := zx46 c47
                refine g_iconst (v := 1) dX7_canTurn_115 (by decide) ?_
                refine g_goto (tgt := 120) dX7_canTurn_116 (by decide) ?_
                exact g_iret (ty := .boolean) dX7_canTurn_120 rfl rfl ⟨⟨⟨1, rfl, Or.inr rfl, fun _ => ⟨hp.1, hp.2.1, hp.2.2.1, hp.2.2.2, by grind, by grind, fun q q2 => by grind, fun q q2 => by grind⟩, fun q => absurd q (by decide)⟩, rfl⟩, ee_p (by subst ex46; subst ex41; subst ex40; subst ex38; subst ex20; subst ex16; subst ex14; subst ex11; subst ex9; subst ex7; subst ex5; subst ex3; subst ex1; exact (if_neg c4).trans ((if_neg c8).trans ((if_neg c12).trans ((if_neg c21).trans ((if_neg c37).trans ((if_neg c42).trans ((if_pos c47).trans (rfl))))))))⟩
              · have zc47 := nx46 c47
                refine g_iload_n dX7_canTurn_97 rfl ?_
                refine g_iload_n dX7_canTurn_98 rfl ?_
                refine g_icmp_eq (tgt := 115) dX7_canTurn_99 (by decide) (fun c48 => ?_) (fun c48 => ?_)
                · refine g_iconst (v := 1) dX7_canTurn_115 (by decide) ?_
                  refine g_goto (tgt := 120) dX7_canTurn_116 (by decide) ?_
                  exact g_iret (ty := .boolean) dX7_canTurn_120 rfl rfl ⟨⟨⟨1, rfl, Or.inr rfl, fun _ => ⟨hp.1, hp.2.1, hp.2.2.1, hp.2.2.2, by grind, by grind, fun q q2 => by grind, fun q q2 => by grind⟩, fun q => absurd q (by decide)⟩, rfl⟩, ee_p (by subst ex46; subst ex41; subst ex40; subst ex38; subst ex20; subst ex16; subst ex14; subst ex11; subst ex9; subst ex7; subst ex5; subst ex3; subst ex1; exact (if_neg c4).trans ((if_neg c8).trans ((if_neg c12).trans ((if_neg c21).trans ((if_neg c37).trans ((if_neg c42).trans ((if_neg c47).trans ((if_pos c48).trans (rfl)))))))))⟩
                · refine g_aload_n dX7_canTurn_102 rfl ?_
                  refine f_X7_13 rfl rfl dX7_canTurn_103 ?_
                  refine g_iconst (v := 0) dX7_canTurn_106 (by decide) ?_
                  refine g_iload_n dX7_canTurn_107 rfl ?_
                  refine g_iadd dX7_canTurn_108 ?_
                  refine g_topi (fun x49 ex49 => ?_)
                  have ox49 : x49 = x16 := by rw [ex49, Int32.zero_add]
                  have v50 : vp_in x49 51 := uk_vin 51 rfl (by first | decide | lia | grind) (by first | decide | lia | grind)
                  refine g_iald rfl rfl v50 dX7_canTurn_109 ?_
                  refine g_topi (fun x51 ex51 => ?_)
                  have bx51 := uk_cl v50
                  have rx51 : 0 ≤ x51 ∧ x51 ≤ 40 := by rw [ex51]; exact sg_0 hu (by unfold uk_is51; decide) (by first | lia | grind) (by first | lia | grind)
                  refine g_bipush (v := 40) dX7_canTurn_110 (by decide) ?_
                  refine g_icmp_ge (tgt := 119) dX7_canTurn_112 (by decide) (fun c52 => ?_) (fun c52 => ?_)
                  · refine g_iconst (v := 0) dX7_canTurn_119 (by decide) ?_
                    exact g_iret (ty := .boolean) dX7_canTurn_120 rfl rfl ⟨⟨⟨0, rfl, Or.inl rfl, fun q => absurd rfl q, fun _ => by first | trivial | lia | grind⟩, rfl⟩, ee_p (by subst ex51; subst ex49; subst ex46; subst ex41; subst ex40; subst ex38; subst ex20; subst ex16; subst ex14; subst ex11; subst ex9; subst ex7; subst ex5; subst ex3; subst ex1; exact (if_neg c4).trans ((if_neg c8).trans ((if_neg c12).trans ((if_neg c21).trans ((if_neg c37).trans ((if_neg c42).trans ((if_neg c47).trans ((if_neg c48).trans ((if_pos c52).trans (rfl))))))))))⟩
                  · refine g_iconst (v := 1) dX7_canTurn_115 (by decide) ?_
                    refine g_goto (tgt := 120) dX7_canTurn_116 (by decide) ?_
                    exact g_iret (ty := .boolean) dX7_canTurn_120 rfl rfl ⟨⟨⟨1, rfl, Or.inr rfl, fun _ => ⟨hp.1, hp.2.1, hp.2.2.1, hp.2.2.2, by grind, by grind, fun q q2 => by grind, fun q q2 => by grind⟩, fun q => absurd q (by decide)⟩, rfl⟩, ee_p (by subst ex51; subst ex49; subst ex46; subst ex41; subst ex40; subst ex38; subst ex20; subst ex16; subst ex14; subst ex11; subst ex9; subst ex7; subst ex5; subst ex3; subst ex1; exact (if_neg c4).trans ((if_neg c8).trans ((if_neg c12).trans ((if_neg c21).trans ((if_neg c37).trans ((if_neg c42).trans ((if_neg c47).trans ((if_neg c48).trans ((if_neg c52).trans (rfl))))))))))⟩
          · refine g_iconst (v := 2) dX7_canTurn_66 (by decide) ?_
            refine g_goto (tgt := 71) dX7_canTurn_67 (by decide) ?_
            refine g_istore dX7_canTurn_71 (by decide) ?_
            refine g_pick (lv' := [(0, .ref (uk_ad G 60)), (1, .int m), (2, .int x14), (3, .int x16), (4, .int 2)]) [0, 1, 2, 3, 4] rfl ?_
            refine g_aload_n dX7_canTurn_73 rfl ?_
            refine f_X7_13 rfl rfl dX7_canTurn_74 ?_
            refine g_iconst (v := 0) dX7_canTurn_77 (by decide) ?_
            refine g_iload_n dX7_canTurn_78 rfl ?_
            refine g_iadd dX7_canTurn_79 ?_
            refine g_topi (fun x53 ex53 => ?_)
            have ox53 : x53 = x14 := by rw [ex53, Int32.zero_add]
            have v54 : vp_in x53 51 := uk_vin 51 rfl (by first | decide | lia | grind) (by first | decide | lia | grind)
            refine g_iald rfl rfl v54 dX7_canTurn_80 ?_
            refine g_topi (fun x55 ex55 => ?_)
            have bx55 := uk_cl v54
            have rx55 : 0 ≤ x55 ∧ x55 ≤ 40 := by rw [ex55]; exact sg_0 hu (by unfold uk_is51; decide) (by first | lia | grind) (by first | lia | grind)
            refine g_iload dX7_canTurn_81 rfl ?_
            refine g_iadd dX7_canTurn_83 ?_
            refine g_topi (fun x56 ex56 => ?_)
            refine g_bipush (v := 40) dX7_canTurn_84 (by decide) ?_
            refine g_icmp_gt (tgt := 119) dX7_canTurn_86 (by decide) (fun c57 => ?_) (fun c57 => ?_)
            · refine g_iconst (v := 0) dX7_canTurn_119 (by decide) ?_
              exact g_iret (ty := .boolean) dX7_canTurn_120 rfl rfl ⟨⟨⟨0, rfl, Or.inl rfl, fun q => absurd rfl q, fun _ => by first | trivial | lia | grind⟩, rfl⟩, ee_p (by subst ex56; subst ex55; subst ex53; subst ex20; subst ex16; subst ex14; subst ex11; subst ex9; subst ex7; subst ex5; subst ex3; subst ex1; exact (if_neg c4).trans ((if_neg c8).trans ((if_neg c12).trans ((if_neg c21).trans ((if_pos c37).trans ((if_pos c57).trans (rfl)))))))⟩
            · refine g_aload_n dX7_canTurn_89 rfl ?_
              refine g_iload_n dX7_canTurn_90 rfl ?_
              refine cl_X7_153 (c := 60) (As := [.int m]) rfl (x_X7_givesSecond (G := G) hs hu  m (by first | trivial | decide | lia | grind) (by first | trivial | decide | lia | grind) (d)) rfl (by omega) rfl rfl (Nat.le_of_ble_eq_true rfl) dX7_canTurn_91 (fun r58 u59 q60 => ?_)
              obtain ⟨q60, Eq60⟩ := q60
              obtain ⟨⟨x61, rfl, tx61, nx61, zx61⟩, mq60⟩ := q60
              rw [mq60]
              have ex61 : x61 = (e_X7_givesSecond u m) := ee_v Eq60
              refine g_if_eq (tgt := 115) dX7_canTurn_94 (by decide) (fun c62 => ?_) (fun c62 => ?_)
              · have zc62 := zx61 c62
                refine g_iconst (v := 1) dX7_canTurn_115 (by decide) ?_
                refine g_goto (tgt := 120) dX7_canTurn_116 (by decide) ?_
                exact g_iret (ty := .boolean) dX7_canTurn_120 rfl rfl ⟨⟨⟨1, rfl, Or.inr rfl, fun _ => ⟨hp.1, hp.2.1, hp.2.2.1, hp.2.2.2, by grind, by grind, fun q q2 => by grind, fun q q2 => by grind⟩, fun q => absurd q (by decide)⟩, rfl⟩, ee_p (by subst ex61; subst ex56; subst ex55; subst ex53; subst ex20; subst ex16; subst ex14; subst ex11; subst ex9; subst ex7; subst ex5; subst ex3; subst ex1; exact (if_neg c4).trans ((if_neg c8).trans ((if_neg c12).trans ((if_neg c21).trans ((if_pos c37).trans ((if_neg c57).trans ((if_pos c62).trans (rfl))))))))⟩
              · have zc62 := nx61 c62
                refine g_iload_n dX7_canTurn_97 rfl ?_
                refine g_iload_n dX7_canTurn_98 rfl ?_
                refine g_icmp_eq (tgt := 115) dX7_canTurn_99 (by decide) (fun c63 => ?_) (fun c63 => ?_)
                · refine g_iconst (v := 1) dX7_canTurn_115 (by decide) ?_
                  refine g_goto (tgt := 120) dX7_canTurn_116 (by decide) ?_
                  exact g_iret (ty := .boolean) dX7_canTurn_120 rfl rfl ⟨⟨⟨1, rfl, Or.inr rfl, fun _ => ⟨hp.1, hp.2.1, hp.2.2.1, hp.2.2.2, by grind, by grind, fun q q2 => by grind, fun q q2 => by grind⟩, fun q => absurd q (by decide)⟩, rfl⟩, ee_p (by subst ex61; subst ex56; subst ex55; subst ex53; subst ex20; subst ex16; subst ex14; subst ex11; subst ex9; subst ex7; subst ex5; subst ex3; subst ex1; exact (if_neg c4).trans ((if_neg c8).trans ((if_neg c12).trans ((if_neg c21).trans ((if_pos c37).trans ((if_neg c57).trans ((if_neg c62).trans ((if_pos c63).trans (rfl)))))))))⟩
                · refine g_aload_n dX7_canTurn_102 rfl ?_
                  refine f_X7_13 rfl rfl dX7_canTurn_103 ?_
                  refine g_iconst (v := 0) dX7_canTurn_106 (by decide) ?_
                  refine g_iload_n dX7_canTurn_107 rfl ?_
                  refine g_iadd dX7_canTurn_108 ?_
                  refine g_topi (fun x64 ex64 => ?_)
                  have ox64 : x64 = x16 := by rw [ex64, Int32.zero_add]
                  have v65 : vp_in x64 51 := uk_vin 51 rfl (by first | decide | lia | grind) (by first | decide | lia | grind)
                  refine g_iald rfl rfl v65 dX7_canTurn_109 ?_
                  refine g_topi (fun x66 ex66 => ?_)
                  have bx66 := uk_cl v65
                  have rx66 : 0 ≤ x66 ∧ x66 ≤ 40 := by rw [ex66]; exact sg_0 hu (by unfold uk_is51; decide) (by first | lia | grind) (by first | lia | grind)
                  refine g_bipush (v := 40) dX7_canTurn_110 (by decide) ?_
                  refine g_icmp_ge (tgt := 119) dX7_canTurn_112 (by decide) (fun c67 => ?_) (fun c67 => ?_)
                  · refine g_iconst (v := 0) dX7_canTurn_119 (by decide) ?_
                    exact g_iret (ty := .boolean) dX7_canTurn_120 rfl rfl ⟨⟨⟨0, rfl, Or.inl rfl, fun q => absurd rfl q, fun _ => by first | trivial | lia | grind⟩, rfl⟩, ee_p (by subst ex66; subst ex64; subst ex61; subst ex56; subst ex55; subst ex53; subst ex20; subst ex16; subst ex14; subst ex11; subst ex9; subst ex7; subst ex5; subst ex3; subst ex1; exact (if_neg c4).trans ((if_neg c8).trans ((if_neg c12).trans ((if_neg c21).trans ((if_pos c37).trans ((if_neg c57).trans ((if_neg c62).trans ((if_neg c63).trans ((if_pos c67).trans (rfl))))))))))⟩
                  · refine g_iconst (v := 1) dX7_canTurn_115 (by decide) ?_
                    refine g_goto (tgt := 120) dX7_canTurn_116 (by decide) ?_
                    exact g_iret (ty := .boolean) dX7_canTurn_120 rfl rfl ⟨⟨⟨1, rfl, Or.inr rfl, fun _ => ⟨hp.1, hp.2.1, hp.2.2.1, hp.2.2.2, by grind, by grind, fun q q2 => by grind, fun q q2 => by grind⟩, fun q => absurd q (by decide)⟩, rfl⟩, ee_p (by subst ex66; subst ex64; subst ex61; subst ex56; subst ex55; subst ex53; subst ex20; subst ex16; subst ex14; subst ex11; subst ex9; subst ex7; subst ex5; subst ex3; subst ex1; exact (if_neg c4).trans ((if_neg c8).trans ((if_neg c12).trans ((if_neg c21).trans ((if_pos c37).trans ((if_neg c57).trans ((if_neg c62).trans ((if_neg c63).trans ((if_neg c67).trans (rfl))))))))))⟩
      · refine g_iconst (v := 0) dX7_canTurn_37 (by decide) ?_
        exact g_iret (ty := .boolean) dX7_canTurn_38 rfl rfl ⟨⟨⟨0, rfl, Or.inl rfl, fun q => absurd rfl q, fun _ => by first | trivial | lia | grind⟩, rfl⟩, ee_p (by subst ex11; subst ex9; subst ex7; subst ex5; subst ex3; subst ex1; exact (if_neg c4).trans ((if_neg c8).trans ((if_pos c12).trans (rfl))))⟩
