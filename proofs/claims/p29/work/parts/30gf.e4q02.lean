def l_X7_copies_2 (t : Int32) (o : Int32) : Nat → Int32 → uk_Mem → uk_Mem
  | 0, _, u3 => u3
  | K9 + 1, i2, u3 => if (51 : Int32) ≤ i2 then (u3) else (let x5 : Int32 := t + i2; let x6 : Int32 := o + i2; let x8 : Int32 := u3.1 61 x6.toNatClampNeg; let u11 : uk_Mem := uk_up u3 61 x5.toNatClampNeg x8; l_X7_copies_2 t o K9 (i2 + 1) u11)
def e_X7_copies (u : uk_Mem) (t : Int32) (o : Int32) : uk_Mem := l_X7_copies_2 t o ee_K (0 : Int32) u
abbrev qe_X7_copies (u : uk_Mem) (t : Int32) (o : Int32) (r : Option Value) (u' : uk_Mem) : Prop := (q_X7_copies u t o r u') ∧ (u' = e_X7_copies u t o)
set_option maxHeartbeats 4000000 in
set_option maxRecDepth 20000 in
theorem x_X7_copies {G : uk_D} (hs : uk_Sep G) {u : uk_Mem} (hu : iv u) (t : Int32) (o : Int32) (p0 : t = 0 ∨ t = 51 ∨ t = 102) (p1 : o = 0 ∨ o = 51 ∨ o = 102) (p2 : ¬ t = o) (d : Nat) : uk_Meth G d mX7_copies [.ref (uk_ad G 60), .int t, .int o] u (qe_X7_copies u t o) := by
  refine uk_Meth.of hs (by decide) (Nat.le_of_ble_eq_true rfl) (fun X => ?_)
  have f0 : fk [61] [] u u := fk_rf
  refine g_iconst (v := 0) dX7_copies_0 (by decide) ?_
  refine g_istore_n dX7_copies_1 (by decide) ?_
  refine g_pick (lv' := [(0, .ref (uk_ad G 60)), (1, .int t), (2, .int o), (3, .int 0)]) [0, 1, 2, 3] rfl ?_
  have L2_0 : ∀ i2 : Int32, 0 ≤ i2 → i2 ≤ 51 → ∀ (u3 : uk_Mem), iv u3 → fk [61] [] u u3 → cpi (u3.1 61) (u.1 61) t o i2 → (∃ ki2 : Nat, ee_F 51 i2 ki2 ∧ e_X7_copies u t o = l_X7_copies_2 t o ki2 i2 u3) → uk_G G X mX7_copies d (qe_X7_copies u t o) 2 [(0, .ref (uk_ad G 60)), (1, .int t), (2, .int o), (3, .int i2)] [] u3 := by
    refine uk_upl 51 ?_
    intro i2 ai2 bi2 ihi2  u3 hu3 fu3 ji20 jEi2
    obtain ⟨ki2, fki2, hki2⟩ := jEi2
    obtain ⟨ki2, rfl⟩ := ee_Fp (by first | assumption | lia | grind) fki2
    refine g_iload_n dX7_copies_2 rfl ?_
    refine g_bipush (v := 51) dX7_copies_3 (by decide) ?_
    refine g_icmp_ge (tgt := 30) dX7_copies_5 (by decide) (fun c4 => ?_) (fun c4 => ?_)
    · exact g_vret dX7_copies_30 rfl ⟨⟨rfl, hu3, fu3, (by rw [show (51 : Int32) = i2 by lia]; exact ji20)⟩, (by exact hki2.trans ((if_pos c4).trans (rfl)) : e_X7_copies u t o = u3).symm⟩
    · refine g_aload_n dX7_copies_8 rfl ?_
      refine f_X7_7 rfl rfl dX7_copies_9 ?_
      refine g_iload_n dX7_copies_12 rfl ?_
      refine g_iload_n dX7_copies_13 rfl ?_
      refine g_iadd dX7_copies_14 ?_
      refine g_topi (fun x5 ex5 => ?_)
      refine g_aload_n dX7_copies_15 rfl ?_
      refine f_X7_7 rfl rfl dX7_copies_16 ?_
      refine g_iload_n dX7_copies_19 rfl ?_
      refine g_iload_n dX7_copies_20 rfl ?_
      refine g_iadd dX7_copies_21 ?_
      refine g_topi (fun x6 ex6 => ?_)
      have v7 : vp_in x6 153 := uk_vin 153 rfl (by first | decide | lia | grind) (by first | decide | lia | grind)
      refine g_iald rfl rfl v7 dX7_copies_22 ?_
      refine g_topi (fun x8 ex8 => ?_)
      have bx8 := uk_cl v7
      have v9 : vp_in x5 153 := uk_vin 153 rfl (by first | decide | lia | grind) (by first | decide | lia | grind)
      have b10 := uk_cl v9
      refine g_iast rfl rfl v9 dX7_copies_23 ?_
      refine g_mem (fun u11 eu11 => ?_)
      have hu11 : iv u11 := by rw [eu11]; exact iv_img hu3 hu3 p0 p1 (by lia) (by lia) ex5 ex6 ex8
      have fu11 : fk [61] [] u u11 := by rw [eu11]; exact fk_up fu3 (by decide) (fun q => absurd q (by decide))
      refine g_iinc (v := i2 + 1) dX7_copies_24 rfl rfl (by decide) ?_
      refine g_pick (lv' := [(0, .ref (uk_ad G 60)), (1, .int t), (2, .int o), (3, .int (i2 + 1))]) [0, 1, 2, 3] rfl ?_
      refine g_goto (tgt := 2) dX7_copies_27 (by decide) ?_
      refine g_pick (lv' := [(0, .ref (uk_ad G 60)), (1, .int t), (2, .int o), (3, .int (i2 + 1))]) [0, 1, 2, 3] rfl ?_
      exact ihi2 (by first | lia | grind)  u11 hu11 fu11 (by rw [eu11, uk_up_self]; exact cpi_up ji20 (by lia) (by lia) (by grind) (by grind) (by grind) (by grind) ex5 (by grind) (by rw [ex8, ex6])) ⟨ki2, ee_Fs fki2 (by first | assumption | lia | grind), by subst eu11; subst ex8; subst ex6; subst ex5; exact hki2.trans ((if_neg c4).trans (rfl))⟩
  refine g_pick (lv' := [(0, .ref (uk_ad G 60)), (1, .int t), (2, .int o), (3, .int 0)]) [0, 1, 2, 3] rfl ?_
  exact L2_0 0 (by first | decide | lia | grind) (by first | decide | lia | grind)  u hu f0 (cpi_0 (by grind) (by grind)) ⟨ee_K, ee_F0 _ _, by exact rfl⟩
def e_X7_keep (u : uk_Mem) (k : Int32) : Int32 × uk_Mem := let x4 : Int32 := (e_X7_in u k (0 : Int32) (1 : Int32)); if x4 = 0 then (((-1 : Int32), u)) else (let x7 : Int32 := u.1 63 k.toNatClampNeg; let x11 : Int32 := (e_X7_flag u x7); let u14 : uk_Mem := uk_up u 63 k.toNatClampNeg (1 : Int32); let x17 : Int32 := k + (1 : Int32); let x18 : Int32 := (51 : Int32) * x17; let u20 : uk_Mem := e_X7_copies u14 x18 (0 : Int32); (x11, u20))
abbrev qe_X7_keep (u : uk_Mem) (k : Int32) (r : Option Value) (u' : uk_Mem) : Prop := (q_X7_keep u k r u') ∧ (r = some (.int (e_X7_keep u k).1) ∧ u' = (e_X7_keep u k).2)
set_option maxHeartbeats 4000000 in
set_option maxRecDepth 20000 in
theorem x_X7_keep {G : uk_D} (hs : uk_Sep G) {u : uk_Mem} (hu : iv u) (hri : ri u) (k : Int32) (d : Nat) : uk_Meth G (d + 1) mX7_keep [.ref (uk_ad G 60), .int k] u (qe_X7_keep u k) := by
  refine uk_Meth.of hs (by decide) (Nat.le_of_ble_eq_true rfl) (fun X => ?_)
  have f0 : fk [61, 63] [] u u := fk_rf
  have C61 : u.1 61 = u.1 61 := rfl
  have C63 : u.1 63 = u.1 63 := rfl
  refine g_iload_n dX7_keep_0 rfl ?_
  refine g_i2l dX7_keep_1 ?_
  refine g_lconst (v := 0) dX7_keep_2 (by decide) ?_
  refine g_lconst (v := 1) dX7_keep_3 (by decide) ?_
  refine cl_X7_84 (As := [.long k.toInt64, .long 0, .long 1]) rfl (x_X7_in (G := G) hs hu  k 0 1  (d)) rfl (by omega) rfl (Nat.le_of_ble_eq_true rfl) dX7_keep_4 (fun r1 u2 q3 => ?_)
  obtain ⟨q3, Eq3⟩ := q3
  obtain ⟨⟨x4, rfl, tx4, nx4, zx4⟩, mq3⟩ := q3
  rw [mq3]
  have ex4 : x4 = (e_X7_in u k (0 : Int32) (1 : Int32)) := ee_v Eq3
  refine g_if_ne (tgt := 12) dX7_keep_7 (by decide) (fun c5 => ?_) (fun c5 => ?_)
  · have zc5 := nx4 c5
    refine g_aload_n dX7_keep_12 rfl ?_
    refine f_X7_16 rfl rfl dX7_keep_13 ?_
    refine g_iload_n dX7_keep_16 rfl ?_
    have v6 : vp_in k 2 := uk_vin 2 rfl (by first | decide | lia | grind) (by first | decide | lia | grind)
    refine g_zald rfl rfl v6 dX7_keep_17 ?_
    refine g_topi (fun x7 ex7 => ?_)
    have bx7 := uk_cl v6
    have rx7 : 0 ≤ x7 ∧ x7 ≤ 1 := by rw [ex7]; exact iv_at hu _ _ (uk_pick1 _ (by omega))
    have px7 : x7 = (u.1 63) (k : Int32).toNatClampNeg := ex7.trans (congrFun C63 _)
    refine cl_X7_169 (As := [.int x7]) rfl (x_X7_flag (G := G) hs hu  x7  (d)) rfl (by omega) rfl (Nat.le_of_ble_eq_true rfl) dX7_keep_18 (fun r8 u9 q10 => ?_)
    obtain ⟨q10, Eq10⟩ := q10
    obtain ⟨⟨x11, rfl, tx11⟩, mq10⟩ := q10
    rw [mq10]
    have ex11 : x11 = (e_X7_flag u x7) := ee_v Eq10
    refine g_istore_n dX7_keep_21 (by decide) ?_
    refine g_pick (lv' := [(0, .ref (uk_ad G 60)), (1, .int k), (2, .int x11)]) [0, 1, 2] rfl ?_
    refine g_aload_n dX7_keep_22 rfl ?_
    refine f_X7_16 rfl rfl dX7_keep_23 ?_
    refine g_iload_n dX7_keep_26 rfl ?_
    refine g_iconst (v := 1) dX7_keep_27 (by decide) ?_
    have v12 : vp_in k 2 := uk_vin 2 rfl (by first | decide | lia | grind) (by first | decide | lia | grind)
    have b13 := uk_cl v12
    refine g_zast rfl rfl v12 dX7_keep_28 ?_
    rw [show vp_nar .boolean 1 = 1 from rfl]
    refine g_mem (fun u14 eu14 => ?_)
    have hu14 : iv u14 := by rw [eu14]; exact iv_up hu (uk_pick1 _ (by omega)) (by first | lia | grind) (by first | lia | grind)
    have fu14 : fk [61, 63] [] u u14 := by rw [eu14]; exact fk_up f0 (by decide) (fun q => absurd q (by decide))
    have C15 : u14.1 61 = u.1 61 := by rw [eu14]; exact (uk_up_oc (by decide)).trans C61
    have C16 : u14.1 63 = (upd (u.1 63) (k : Int32).toNatClampNeg 1) := by rw [eu14, uk_up_self, C63]
    refine g_aload_n dX7_keep_29 rfl ?_
    refine g_bipush (v := 51) dX7_keep_30 (by decide) ?_
    refine g_iload_n dX7_keep_32 rfl ?_
    refine g_iconst (v := 1) dX7_keep_33 (by decide) ?_
    refine g_iadd dX7_keep_34 ?_
    refine g_topi (fun x17 ex17 => ?_)
    refine g_imul dX7_keep_35 ?_
    refine g_topi (fun x18 ex18 => ?_)
    have nx18 : (k = 0 ∧ x18 = 51) ∨ (k = 1 ∧ x18 = 102) := (show k = 0 ∨ k = 1 by lia).imp (fun q => ⟨q, by rw [ex18, ex17, q]; decide⟩) (fun q => ⟨q, by rw [ex18, ex17, q]; decide⟩)
    refine g_iconst (v := 0) dX7_keep_36 (by decide) ?_
    refine cl_X7_267 (c := 60) (As := [.int x18, .int 0]) rfl (x_X7_copies (G := G) hs hu14  x18 0 (by first | trivial | decide | lia | grind) (by first | trivial | decide | lia | grind) (by first | trivial | decide | lia | grind) (d)) rfl (by omega) rfl rfl (Nat.le_of_ble_eq_true rfl) dX7_keep_37 (fun r19 u20 q21 => ?_)
    obtain ⟨q21, Eq21⟩ := q21
    obtain ⟨rfl, mq21⟩ := q21
    obtain ⟨hu20, gu20, ku200⟩ := mq21
    have fu20 : fk [61, 63] [] u u20 := fk_tr fu14 gu20 (by decide) (by decide)
    have C22 : u20.1 63 = (upd (u.1 63) (k : Int32).toNatClampNeg 1) := (fk_c gu20 (by decide)).trans C16
    have wu20_60_3 : u20.1 60 3 = u14.1 60 3 := fk_at gu20 (by decide)
    have eu20 : u20 = e_X7_copies u14 x18 (0 : Int32) := Eq21
    refine g_iload_n dX7_keep_40 rfl ?_
    exact g_iret (ty := .int) dX7_keep_41 rfl rfl ⟨⟨⟨_, rfl, by first | trivial | lia | grind⟩, hu20, fu20, (ri_keep hri nx18 (fk_at fu20 (by decide)) C22 (fk_c fu20 (by decide)) (fk_c fu20 (by decide)) (by have := ku200; rw [C15] at this; exact this))⟩, ee_i (by subst eu20; subst ex18; subst ex17; subst eu14; subst ex11; subst ex7; subst ex4; exact (if_neg c5).trans (rfl))⟩
  · have zc5 := zx4 c5
    refine g_iconst (v := (-1)) dX7_keep_10 (by decide) ?_
    exact g_iret (ty := .int) dX7_keep_11 rfl rfl ⟨⟨⟨_, rfl, by first | trivial | lia | grind⟩, hu, f0, hri⟩, ee_i (by subst ex4; exact (if_pos c5).trans (rfl))⟩
def e_X7_back (u : uk_Mem) (k : Int32) : Int32 × uk_Mem := let x4 : Int32 := (e_X7_in u k (0 : Int32) (1 : Int32)); if x4 = 0 then (((-1 : Int32), u)) else (let x7 : Int32 := u.1 63 k.toNatClampNeg; if x7 = 0 then (((-2 : Int32), u)) else (let x9 : Int32 := k + (1 : Int32); let x10 : Int32 := (51 : Int32) * x9; let u12 : uk_Mem := e_X7_copies u (0 : Int32) x10; let x15 : Int32 := u12.1 61 (40 : Int32).toNatClampNeg; (x15, u12)))
abbrev qe_X7_back (u : uk_Mem) (k : Int32) (r : Option Value) (u' : uk_Mem) : Prop := (q_X7_back u k r u') ∧ (r = some (.int (e_X7_back u k).1) ∧ u' = (e_X7_back u k).2)
set_option maxHeartbeats 4000000 in
set_option maxRecDepth 20000 in
theorem x_X7_back {G : uk_D} (hs : uk_Sep G) {u : uk_Mem} (hu : iv u) (hri : ri u) (k : Int32) (d : Nat) : uk_Meth G (d + 1) mX7_back [.ref (uk_ad G 60), .int k] u (qe_X7_back u k) := by
  refine uk_Meth.of hs (by decide) (Nat.le_of_ble_eq_true rfl) (fun X => ?_)
  have f0 : fk [61] [] u u := fk_rf
  refine g_iload_n dX7_back_0 rfl ?_
  refine g_i2l dX7_back_1 ?_
  refine g_lconst (v := 0) dX7_back_2 (by decide) ?_
  refine g_lconst (v := 1) dX7_back_3 (by decide) ?_
  refine cl_X7_84 (As := [.long k.toInt64, .long 0, .long 1]) rfl (x_X7_in (G := G) hs hu  k 0 1  (d)) rfl (by omega) rfl (Nat.le_of_ble_eq_true rfl) dX7_back_4 (fun r1 u2 q3 => ?_)
  obtain ⟨q3, Eq3⟩ := q3
  obtain ⟨⟨x4, rfl, tx4, nx4, zx4⟩, mq3⟩ := q3
  rw [mq3]
  have ex4 : x4 = (e_X7_in u k (0 : Int32) (1 : Int32)) := ee_v Eq3
  refine g_if_ne (tgt := 12) dX7_back_7 (by decide) (fun c5 => ?_) (fun c5 => ?_)
  · have zc5 := nx4 c5
    refine g_aload_n dX7_back_12 rfl ?_
    refine f_X7_16 rfl rfl dX7_back_13 ?_
    refine g_iload_n dX7_back_16 rfl ?_
    have v6 : vp_in k 2 := uk_vin 2 rfl (by first | decide | lia | grind) (by first | decide | lia | grind)
    refine g_zald rfl rfl v6 dX7_back_17 ?_
    refine g_topi (fun x7 ex7 => ?_)
    have bx7 := uk_cl v6
    have rx7 : 0 ≤ x7 ∧ x7 ≤ 1 := by rw [ex7]; exact iv_at hu _ _ (uk_pick1 _ (by omega))
    refine g_if_ne (tgt := 24) dX7_back_18 (by decide) (fun c8 => ?_) (fun c8 => ?_)
    · refine g_aload_n dX7_back_24 rfl ?_
      refine g_iconst (v := 0) dX7_back_25 (by decide) ?_
      refine g_bipush (v := 51) dX7_back_26 (by decide) ?_
      refine g_iload_n dX7_back_28 rfl ?_
      refine g_iconst (v := 1) dX7_back_29 (by decide) ?_
      refine g_iadd dX7_back_30 ?_
      refine g_topi (fun x9 ex9 => ?_)
      refine g_imul dX7_back_31 ?_
      refine g_topi (fun x10 ex10 => ?_)
      have nx10 : (k = 0 ∧ x10 = 51) ∨ (k = 1 ∧ x10 = 102) := (show k = 0 ∨ k = 1 by lia).imp (fun q => ⟨q, by rw [ex10, ex9, q]; decide⟩) (fun q => ⟨q, by rw [ex10, ex9, q]; decide⟩)
      refine cl_X7_267 (c := 60) (As := [.int 0, .int x10]) rfl (x_X7_copies (G := G) hs hu  0 x10 (by first | trivial | decide | lia | grind) (by first | trivial | decide | lia | grind) (by first | trivial | decide | lia | grind) (d)) rfl (by omega) rfl rfl (Nat.le_of_ble_eq_true rfl) dX7_back_32 (fun r11 u12 q13 => ?_)
      obtain ⟨q13, Eq13⟩ := q13
      obtain ⟨rfl, mq13⟩ := q13
      obtain ⟨hu12, gu12, ku120⟩ := mq13
      have fu12 : fk [61] [] u u12 := fk_tr f0 gu12 (by decide) (by decide)
      have wu12_60_3 : u12.1 60 3 = u.1 60 3 := fk_at gu12 (by decide)
      have eu12 : u12 = e_X7_copies u (0 : Int32) x10 := Eq13
      refine g_aload_n dX7_back_35 rfl ?_
      refine f_X7_7 rfl rfl dX7_back_36 ?_
      refine g_bipush (v := 40) dX7_back_39 (by decide) ?_
      have v14 : vp_in 40 153 := uk_vin 153 rfl (by first | decide | lia | grind) (by first | decide | lia | grind)
      refine g_iald rfl rfl v14 dX7_back_41 ?_
      refine g_topi (fun x15 ex15 => ?_)
      have bx15 := uk_cl v14
      exact g_iret (ty := .int) dX7_back_42 rfl rfl ⟨⟨⟨_, rfl, by first | trivial | lia | grind⟩, hu12, fu12, (ri_back hri nx10 (by rw [← ex7]; assumption) (fk_at fu12 (by decide)) (fk_c fu12 (by decide)) (fk_c fu12 (by decide)) (fk_c fu12 (by decide)) ku120)⟩, ee_i (by subst ex15; subst eu12; subst ex10; subst ex9; subst ex7; subst ex4; exact (if_neg c5).trans ((if_neg c8).trans (rfl)))⟩
    · refine g_bipush (v := (-2)) dX7_back_21 (by decide) ?_
      exact g_iret (ty := .int) dX7_back_23 rfl rfl ⟨⟨⟨_, rfl, by first | trivial | lia | grind⟩, hu, f0, hri⟩, ee_i (by subst ex7; subst ex4; exact (if_neg c5).trans ((if_pos c8).trans (rfl)))⟩
  · have zc5 := zx4 c5
    refine g_iconst (v := (-1)) dX7_back_10 (by decide) ?_
    exact g_iret (ty := .int) dX7_back_11 rfl rfl ⟨⟨⟨_, rfl, by first | trivial | lia | grind⟩, hu, f0, hri⟩, ee_i (by subst ex4; exact (if_pos c5).trans (rfl))⟩
def l_X7_read_167 (i18 : Int32) : Nat → Int32 → uk_Mem → Int32 × uk_Mem
  | 0, _, u51 => (0, u51)
  | K9 + 1, i50, u51 => if (51 : Int32) ≤ i50 then (let x53 : Int32 := (-20 : Int32) - i18; (x53, u51)) else (let x55 : Int32 := u51.1 77 i50.toNatClampNeg; let u58 : uk_Mem := uk_up u51 61 i50.toNatClampNeg x55; l_X7_read_167 i18 K9 (i50 + 1) u58)
def l_X7_read_62 (n : Int32) (f : Int32) (k : Int32) (l : Int32) : Nat → Int32 → Int32 → Int32 → uk_Mem → Int32 × uk_Mem
  | 0, _, _, _, u19 => (0, u19)
  | K9 + 1, i18, w16, w17, u19 => if n ≤ i18 then (let u21 : uk_Mem := uk_up u19 60 28 w16; (w17, u21)) else (if w16 = 0 then (let y26 : Int64 := (f.toInt64) + (i18.toInt64); let x28 : Int32 := u19.1 74 k.toNatClampNeg; if x28 = (-4 : Int32) then (l_X7_read_62 n f k l K9 (i18 + 1) (1 : Int32) w17 u19) else (let x31 : Int32 := u19.1 74 k.toNatClampNeg; if x31 = l then (if (lg_cmp y26 0) < 0 then (l_X7_read_62 n f k l K9 (i18 + 1) (2 : Int32) w17 u19) else (let x36 : Int32 := u19.1 75 k.toNatClampNeg; if (lg_cmp y26 x36.toInt64) < 0 then (let x39 : Int32 := (40 : Int32) * k; let x40 : Int32 := x39 + f; let x41 : Int32 := x40 + i18; let x43 : Int32 := u19.1 76 x41.toNatClampNeg; let x47 : Int32 := (e_X7_does u19 x43).1; let u45 : uk_Mem := (e_X7_does u19 x43).2; if 0 ≤ x47 then (l_X7_read_62 n f k l K9 (i18 + 1) (0 : Int32) (w17 + 1) u45) else (l_X7_read_167 i18 ee_K (0 : Int32) u45)) else (l_X7_read_62 n f k l K9 (i18 + 1) (2 : Int32) w17 u19))) else (l_X7_read_62 n f k l K9 (i18 + 1) (3 : Int32) w17 u19))) else (let u24 : uk_Mem := uk_up u19 60 28 w16; (w17, u24)))
def l_X7_read_26 (n : Int32) (f : Int32) (k : Int32) (l : Int32) : Nat → Int32 → uk_Mem → Int32 × uk_Mem
  | 0, _, u13 => (0, u13)
  | K9 + 1, i12, u13 => if (51 : Int32) ≤ i12 then (l_X7_read_62 n f k l ee_K (0 : Int32) (0 : Int32) (0 : Int32) u13) else (let x63 : Int32 := u13.1 61 i12.toNatClampNeg; let u66 : uk_Mem := uk_up u13 77 i12.toNatClampNeg x63; l_X7_read_26 n f k l K9 (i12 + 1) u66)
def e_X7_read (u : uk_Mem) (k : Int32) (l : Int32) (f : Int32) (n : Int32) : Int32 × uk_Mem := let x4 : Int32 := (e_X7_isSheet u k l); if x4 = 0 then (((-1 : Int32), u)) else (let x9 : Int32 := (e_X7_in u n (0 : Int32) (20 : Int32)); if x9 = 0 then (((-1 : Int32), u)) else (l_X7_read_26 n f k l ee_K (0 : Int32) u))
abbrev qe_X7_read (u : uk_Mem) (k : Int32) (l : Int32) (f : Int32) (n : Int32) (r : Option Value) (u' : uk_Mem) : Prop := (q_X7_read u k l f n r u') ∧ (r = some (.int (e_X7_read u k l f n).1) ∧ u' = (e_X7_read u k l f n).2)
set_option maxHeartbeats 4000000 in
set_option maxRecDepth 20000 in
theorem x_X7_read {G : uk_D} (hs : uk_Sep G) {u : uk_Mem} (hu : iv u) (hri : ri u) (k : Int32) (l : Int32) (f : Int32) (n : Int32) (d : Nat) : uk_Meth G (d + 4) mX7_read [.ref (uk_ad G 60), .int k, .int l, .int f, .int n] u (qe_X7_read u k l f n) := by
  refine uk_Meth.of hs (by decide) (Nat.le_of_ble_eq_true rfl) (fun X => ?_)
  have f0 : fk [60, 61, 62, 77] [3, 7, 10, 11, 13, 14, 15, 16, 17, 18, 19, 22] u u := fk_rf
  refine g_iload_n dX7_read_0 rfl ?_
  refine g_iload_n dX7_read_1 rfl ?_
  refine cl_X7_273 (As := [.int k, .int l]) rfl (x_X7_isSheet (G := G) hs hu  k l  (d + 2)) rfl (by omega) rfl (Nat.le_of_ble_eq_true rfl) dX7_read_2 (fun r1 u2 q3 => ?_)
  obtain ⟨q3, Eq3⟩ := q3
  obtain ⟨⟨x4, rfl, tx4, nx4, zx4⟩, mq3⟩ := q3
  rw [mq3]
  have ex4 : x4 = (e_X7_isSheet u k l) := ee_v Eq3
  refine g_if_eq (tgt := 21) dX7_read_5 (by decide) (fun c5 => ?_) (fun c5 => ?_)
  · have zc5 := zx4 c5
    refine g_iconst (v := (-1)) dX7_read_21 (by decide) ?_
    exact g_iret (ty := .int) dX7_read_22 rfl rfl ⟨⟨⟨_, rfl, by first | trivial | lia | grind⟩, hu, f0, hri⟩, ee_i (by subst ex4; exact (if_pos c5).trans (rfl))⟩
  · have zc5 := nx4 c5
    refine g_iload dX7_read_8 rfl ?_
    refine g_i2l dX7_read_10 ?_
    refine g_lconst (v := 0) dX7_read_11 (by decide) ?_
    refine g_ldc2 (v := 20) k_X7_276 dX7_read_12 ?_
    refine cl_X7_84 (As := [.long n.toInt64, .long 0, .long 20]) rfl (x_X7_in (G := G) hs hu  n 0 20  (d + 3)) rfl (by omega) rfl (Nat.le_of_ble_eq_true rfl) dX7_read_15 (fun r6 u7 q8 => ?_)
    obtain ⟨q8, Eq8⟩ := q8
    obtain ⟨⟨x9, rfl, tx9, nx9, zx9⟩, mq8⟩ := q8
    rw [mq8]
    have ex9 : x9 = (e_X7_in u n (0 : Int32) (20 : Int32)) := ee_v Eq8
    refine g_if_ne (tgt := 23) dX7_read_18 (by decide) (fun c10 => ?_) (fun c10 => ?_)
    · have zc10 := nx9 c10
      refine g_iconst (v := 0) dX7_read_23 (by decide) ?_
      refine g_istore dX7_read_24 (by decide) ?_
      refine g_pick (lv' := [(0, .ref (uk_ad G 60)), (1, .int k), (2, .int l), (3, .int f), (4, .int n), (5, .int 0)]) [0, 1, 2, 3, 4, 5] rfl ?_
      have L26_10 : ∀ i12 : Int32, 0 ≤ i12 → i12 ≤ 51 → ∀ (u13 : uk_Mem), iv u13 → fk [60, 61, 62, 77] [3, 7, 10, 11, 13, 14, 15, 16, 17, 18, 19, 22] u u13 → ri u13 → cpy (u13.1 77) (u.1 61) i12 → u13.1 61 = u.1 61 → (∃ ki12 : Nat, ee_F 51 i12 ki12 ∧ e_X7_read u k l f n = l_X7_read_26 n f k l ki12 i12 u13) → uk_G G X mX7_read (d + 4) (qe_X7_read u k l f n) 26 [(0, .ref (uk_ad G 60)), (1, .int k), (2, .int l), (3, .int f), (4, .int n), (5, .int i12)] [] u13 := by
        refine uk_upl 51 ?_
        intro i12 ai12 bi12 ihi12  u13 hu13 fu13 riu13 ji120 ji121 jEi12
        obtain ⟨ki12, fki12, hki12⟩ := jEi12
        obtain ⟨ki12, rfl⟩ := ee_Fp (by first | assumption | lia | grind) fki12
        have wu13_60_3 : u13.1 60 3 = u.1 60 3 := fk_at fu13 (by decide)
        refine g_iload dX7_read_26 rfl ?_
        refine g_bipush (v := 51) dX7_read_28 (by decide) ?_
        refine g_icmp_ge (tgt := 53) dX7_read_30 (by decide) (fun c14 => ?_) (fun c14 => ?_)
        · have rhX : rh u13 := rh_of hri (fk_at fu13 (by decide)) (fk_c fu13 (by decide)) (fk_c fu13 (by decide)) (cpy_le ji120 (by lia))
          refine g_iconst (v := 0) dX7_read_53 (by decide) ?_
          refine g_istore dX7_read_54 (by decide) ?_
          refine g_pick (lv' := [(0, .ref (uk_ad G 60)), (1, .int k), (2, .int l), (3, .int f), (4, .int n), (5, .int 0)]) [0, 1, 2, 3, 4, 5] rfl ?_
          refine g_iconst (v := 0) dX7_read_56 (by decide) ?_
          refine g_istore dX7_read_57 (by decide) ?_
          refine g_pick (lv' := [(0, .ref (uk_ad G 60)), (1, .int k), (2, .int l), (3, .int f), (4, .int n), (5, .int 0), (6, .int 0)]) [0, 1, 2, 3, 4, 5, 6] rfl ?_
          refine g_iconst (v := 0) dX7_read_59 (by decide) ?_
          refine g_istore dX7_read_60 (by decide) ?_
          refine g_pick (lv' := [(0, .ref (uk_ad G 60)), (1, .int k), (2, .int l), (3, .int f), (4, .int n), (5, .int 0), (6, .int 0), (7, .int 0)]) [0, 1, 2, 3, 4, 5, 6, 7] rfl ?_
          have L62_14 : ∀ i18 : Int32, 0 ≤ i18 → i18 ≤ 20 → ∀ (w16 : Int32) (w17 : Int32) (u19 : uk_Mem), iv u19 → fk [60, 61, 62, 77] [3, 7, 10, 11, 13, 14, 15, 16, 17, 18, 19, 22] u u19 → ri u19 → rh u19 → (∃ ki18 : Nat, ee_F 20 i18 ki18 ∧ e_X7_read u k l f n = l_X7_read_62 n f k l ki18 i18 w16 w17 u19) → uk_G G X mX7_read (d + 4) (qe_X7_read u k l f n) 62 [(0, .ref (uk_ad G 60)), (1, .int k), (2, .int l), (3, .int f), (4, .int n), (5, .int w16), (6, .int w17), (7, .int i18)] [] u19 := by
            refine uk_upl 20 ?_
            intro i18 ai18 bi18 ihi18 w16 w17 u19 hu19 fu19 riu19 rhu19 jEi18
            obtain ⟨ki18, fki18, hki18⟩ := jEi18
            obtain ⟨ki18, rfl⟩ := ee_Fp (by first | assumption | lia | grind) fki18
            have wu19_60_3 : u19.1 60 3 = u.1 60 3 := fk_at fu19 (by decide)
            refine g_iload dX7_read_62 rfl ?_
            refine g_iload dX7_read_64 rfl ?_
            refine g_icmp_ge (tgt := 209) dX7_read_66 (by decide) (fun c20 => ?_) (fun c20 => ?_)
            · refine g_aload_n dX7_read_209 rfl ?_
              refine g_iload dX7_read_210 rfl ?_
              refine p_X7_281 rfl rfl dX7_read_212 ?_
              refine g_mem (fun u21 eu21 => ?_)
              have hu21 : iv u21 := by rw [eu21]; exact iv_upF hu19 rfl
              have fu21 : fk [60, 61, 62, 77] [3, 7, 10, 11, 13, 14, 15, 16, 17, 18, 19, 22] u u21 := by rw [eu21]; exact fk_up fu19 (by decide) (fun _ => by decide)
              have riu21 : ri u21 := by rw [eu21]; exact ri_1 riu19 (by decide) (fun _ => by decide)
              have rhu21 : rh u21 := by rw [eu21]; exact rh_1 rhu19 (by decide) (fun _ => by decide)
              have s22 : u21.1 60 28 = w16 := by rw [eu21, uk_up_at]; exact if_pos ⟨rfl, rfl⟩
              refine g_iload dX7_read_215 rfl ?_
              exact g_iret (ty := .int) dX7_read_217 rfl rfl ⟨⟨⟨_, rfl, by first | trivial | lia | grind⟩, hu21, fu21, riu21⟩, ee_i (by subst eu21; exact hki18.trans ((if_pos c20).trans (rfl)))⟩
            · refine g_iload dX7_read_69 rfl ?_
              refine g_if_ne (tgt := 209) dX7_read_71 (by decide) (fun c23 => ?_) (fun c23 => ?_)
              · refine g_aload_n dX7_read_209 rfl ?_
                refine g_iload dX7_read_210 rfl ?_
                refine p_X7_281 rfl rfl dX7_read_212 ?_
                refine g_mem (fun u24 eu24 => ?_)
                have hu24 : iv u24 := by rw [eu24]; exact iv_upF hu19 rfl
                have fu24 : fk [60, 61, 62, 77] [3, 7, 10, 11, 13, 14, 15, 16, 17, 18, 19, 22] u u24 := by rw [eu24]; exact fk_up fu19 (by decide) (fun _ => by decide)
                have riu24 : ri u24 := by rw [eu24]; exact ri_1 riu19 (by decide) (fun _ => by decide)
                have rhu24 : rh u24 := by rw [eu24]; exact rh_1 rhu19 (by decide) (fun _ => by decide)
                have s25 : u24.1 60 28 = w16 := by rw [eu24, uk_up_at]; exact if_pos ⟨rfl, rfl⟩
                refine g_iload dX7_read_215 rfl ?_
                exact g_iret (ty := .int) dX7_read_217 rfl rfl ⟨⟨⟨_, rfl, by first | trivial | lia | grind⟩, hu24, fu24, riu24⟩, ee_i (by subst eu24; exact hki18.trans ((if_neg c20).trans ((if_neg c23).trans (rfl))))⟩
              · refine g_iload_n dX7_read_74 rfl ?_
                refine g_i2l dX7_read_75 ?_
                refine g_iload dX7_read_76 rfl ?_
                refine g_i2l dX7_read_78 ?_
                refine g_ladd dX7_read_79 ?_
                refine g_topl (fun y26 ey26 => ?_)
                refine g_lstore dX7_read_80 (by decide) ?_
                refine g_pick (lv' := [(0, .ref (uk_ad G 60)), (1, .int k), (2, .int l), (3, .int f), (4, .int n), (5, .int w16), (6, .int w17), (7, .int i18), (8, .long y26)]) [0, 1, 2, 3, 4, 5, 6, 7, 8] rfl ?_
                refine g_aload_n dX7_read_82 rfl ?_
                refine f_X7_51 rfl rfl dX7_read_83 ?_
                refine g_iload_n dX7_read_86 rfl ?_
                have v27 : vp_in k 4 := uk_vin 4 rfl (by first | decide | lia | grind) (by first | decide | lia | grind)
                refine g_iald rfl rfl v27 dX7_read_87 ?_
                refine g_topi (fun x28 ex28 => ?_)
                refine g_bipush (v := (-4)) dX7_read_88 (by decide) ?_
                refine g_icmp_ne (tgt := 97) dX7_read_90 (by decide) (fun c29 => ?_) (fun c29 => ?_)
                · refine g_aload_n dX7_read_97 rfl ?_
                  refine f_X7_51 rfl rfl dX7_read_98 ?_
                  refine g_iload_n dX7_read_101 rfl ?_
                  have v30 : vp_in k 4 := uk_vin 4 rfl (by first | decide | lia | grind) (by first | decide | lia | grind)
                  refine g_iald rfl rfl v30 dX7_read_102 ?_
                  refine g_topi (fun x31 ex31 => ?_)
                  refine g_iload_n dX7_read_103 rfl ?_
                  refine g_icmp_eq (tgt := 111) dX7_read_104 (by decide) (fun c32 => ?_) (fun c32 => ?_)
                  · refine g_lload dX7_read_111 rfl ?_
                    refine g_lconst (v := 0) dX7_read_113 (by decide) ?_
                    refine g_lcmp dX7_read_114 ?_
                    refine g_if_lt (tgt := 131) dX7_read_115 (by decide) (fun c33 => ?_) (fun c33 => ?_)
                    · refine g_iconst (v := 2) dX7_read_131 (by decide) ?_
                      refine g_goto (tgt := 136) dX7_read_132 (by decide) ?_
                      refine g_istore dX7_read_136 (by decide) ?_
                      refine g_pick (lv' := [(0, .ref (uk_ad G 60)), (1, .int k), (2, .int l), (3, .int f), (4, .int n), (5, .int 2), (6, .int w17), (7, .int i18), (8, .long y26)]) [0, 1, 2, 3, 4, 5, 6, 7, 8] rfl ?_
                      refine g_iload dX7_read_138 rfl ?_
                      refine g_if_ne (tgt := 203) dX7_read_140 (by decide) (fun c34 => ?_) (fun c34 => ?_)
                      · refine g_iinc (v := i18 + 1) dX7_read_203 rfl rfl (by decide) ?_
                        refine g_pick (lv' := [(0, .ref (uk_ad G 60)), (1, .int k), (2, .int l), (3, .int f), (4, .int n), (5, .int 2), (6, .int w17), (7, .int (i18 + 1)), (8, .long y26)]) [0, 1, 2, 3, 4, 5, 6, 7, 8] rfl ?_
                        refine g_goto (tgt := 62) dX7_read_206 (by decide) ?_
                        refine g_pick (lv' := [(0, .ref (uk_ad G 60)), (1, .int k), (2, .int l), (3, .int f), (4, .int n), (5, .int 2), (6, .int w17), (7, .int (i18 + 1))]) [0, 1, 2, 3, 4, 5, 6, 7] rfl ?_
                        exact ihi18 (by first | lia | grind) 2 w17 u19 hu19 fu19 riu19 rhu19  ⟨ki18, ee_Fs fki18 (by first | assumption | lia | grind), by subst ex31; subst ex28; subst ey26; exact hki18.trans ((if_neg c20).trans ((if_pos c23).trans ((if_neg c29).trans ((if_pos c32).trans ((if_pos c33).trans (rfl))))))⟩
                      · exact absurd c34 (by decide)
                    · refine g_lload dX7_read_118 rfl ?_
                      refine g_aload_n dX7_read_120 rfl ?_
                      refine f_X7_54 rfl rfl dX7_read_121 ?_
                      refine g_iload_n dX7_read_124 rfl ?_
                      have v35 : vp_in k 4 := uk_vin 4 rfl (by first | decide | lia | grind) (by first | decide | lia | grind)
                      refine g_iald rfl rfl v35 dX7_read_125 ?_
                      refine g_topi (fun x36 ex36 => ?_)
                      have bx36 := uk_cl v35
                      have rx36 : 0 ≤ x36 ∧ x36 ≤ 40 := by rw [ex36]; exact iv_at hu19 _ _ (uk_pick1 _ (by omega))
                      refine g_i2l dX7_read_126 ?_
                      refine g_lcmp dX7_read_127 ?_
                      refine g_if_lt (tgt := 135) dX7_read_128 (by decide) (fun c37 => ?_) (fun c37 => ?_)
                      · refine g_iconst (v := 0) dX7_read_135 (by decide) ?_
                        refine g_istore dX7_read_136 (by decide) ?_
                        refine g_pick (lv' := [(0, .ref (uk_ad G 60)), (1, .int k), (2, .int l), (3, .int f), (4, .int n), (5, .int 0), (6, .int w17), (7, .int i18), (8, .long y26)]) [0, 1, 2, 3, 4, 5, 6, 7, 8] rfl ?_
                        refine g_iload dX7_read_138 rfl ?_
                        refine g_if_ne (tgt := 203) dX7_read_140 (by decide) (fun c38 => ?_) (fun c38 => ?_)
                        · exact absurd c38 (by decide)
                        · refine g_aload_n dX7_read_143 rfl ?_
                          refine g_aload_n dX7_read_144 rfl ?_
                          refine f_X7_57 rfl rfl dX7_read_145 ?_
                          refine g_bipush (v := 40) dX7_read_148 (by decide) ?_
                          refine g_iload_n dX7_read_150 rfl ?_
                          refine g_imul dX7_read_151 ?_
                          refine g_topi (fun x39 ex39 => ?_)
                          refine g_iload_n dX7_read_152 rfl ?_
                          refine g_iadd dX7_read_153 ?_
                          refine g_topi (fun x40 ex40 => ?_)
                          refine g_iload dX7_read_154 rfl ?_
                          refine g_iadd dX7_read_156 ?_
                          refine g_topi (fun x41 ex41 => ?_)
                          have hixx41 := rd_ix (k := k) (f := f) (i := i18) (s := x36) (by lia) (by lia) (by lia) (by lia) (by lia) ey26 (by assumption) (by assumption) ex39 ex40 ex41
                          have v42 : vp_in x41 160 := uk_vin 160 rfl (by first | decide | lia | grind) (by first | decide | lia | grind)
                          refine g_iald rfl rfl v42 dX7_read_157 ?_
                          refine g_topi (fun x43 ex43 => ?_)
                          refine cl_X7_278 (c := 60) (As := [.int x43]) rfl (x_X7_does (G := G) hs hu19 riu19  x43  (d)) rfl (by omega) rfl rfl (Nat.le_of_ble_eq_true rfl) dX7_read_158 (fun r44 u45 q46 => ?_)
                          obtain ⟨q46, Eq46⟩ := q46
                          obtain ⟨⟨x47, rfl, tx47⟩, mq46⟩ := q46
                          obtain ⟨hu45, gu45, riu45⟩ := mq46
                          have fu45 : fk [60, 61, 62, 77] [3, 7, 10, 11, 13, 14, 15, 16, 17, 18, 19, 22] u u45 := fk_tr fu19 gu45 (by decide) (by decide)
                          have rhu45 : rh u45 := rh_fk rhu19 gu45 (by decide) (by decide) (by decide) (by decide)
                          have wu45_60_3 : u45.1 60 3 = u19.1 60 3 := fk_at gu45 (by decide)
                          have ex47 : x47 = (e_X7_does u19 x43).1 := ee_v Eq46.1
                          have eu45 : u45 = (e_X7_does u19 x43).2 := Eq46.2
                          refine g_if_ge (tgt := 200) dX7_read_161 (by decide) (fun c48 => ?_) (fun c48 => ?_)
                          · refine g_iinc (v := w17 + 1) dX7_read_200 rfl rfl (by decide) ?_
                            refine g_pick (lv' := [(0, .ref (uk_ad G 60)), (1, .int k), (2, .int l), (3, .int f), (4, .int n), (5, .int 0), (6, .int (w17 + 1)), (7, .int i18), (8, .long y26)]) [0, 1, 2, 3, 4, 5, 6, 7, 8] rfl ?_
                            refine g_iinc (v := i18 + 1) dX7_read_203 rfl rfl (by decide) ?_
                            refine g_pick (lv' := [(0, .ref (uk_ad G 60)), (1, .int k), (2, .int l), (3, .int f), (4, .int n), (5, .int 0), (6, .int (w17 + 1)), (7, .int (i18 + 1)), (8, .long y26)]) [0, 1, 2, 3, 4, 5, 6, 7, 8] rfl ?_
                            refine g_goto (tgt := 62) dX7_read_206 (by decide) ?_
                            refine g_pick (lv' := [(0, .ref (uk_ad G 60)), (1, .int k), (2, .int l), (3, .int f), (4, .int n), (5, .int 0), (6, .int (w17 + 1)), (7, .int (i18 + 1))]) [0, 1, 2, 3, 4, 5, 6, 7] rfl ?_
                            exact ihi18 (by first | lia | grind) 0 (w17 + 1) u45 hu45 fu45 riu45 rhu45  ⟨ki18, ee_Fs fki18 (by first | assumption | lia | grind), by subst eu45; subst ex47; subst ex43; subst ex41; subst ex40; subst ex39; subst ex36; subst ex31; subst ex28; subst ey26; exact hki18.trans ((if_neg c20).trans ((if_pos c23).trans ((if_neg c29).trans ((if_pos c32).trans ((if_neg c33).trans ((if_pos c37).trans ((if_pos c48).trans (rfl))))))))⟩
                          · refine g_iconst (v := 0) dX7_read_164 (by decide) ?_
                            refine g_istore dX7_read_165 (by decide) ?_
                            refine g_pick (lv' := [(0, .ref (uk_ad G 60)), (1, .int k), (2, .int l), (3, .int f), (4, .int n), (5, .int 0), (6, .int w17), (7, .int i18), (8, .long y26), (10, .int 0)]) [0, 1, 2, 3, 4, 5, 6, 7, 8, 9] rfl ?_
                            have L167_48 : ∀ i50 : Int32, 0 ≤ i50 → i50 ≤ 51 → ∀ (u51 : uk_Mem), iv u51 → fk [60, 61, 62, 77] [3, 7, 10, 11, 13, 14, 15, 16, 17, 18, 19, 22] u u51 → cpy (u51.1 61) (u45.1 77) i50 → cpx (u51.1 61) (u45.1 61) → u51.1 77 = u45.1 77 → (∃ ki50 : Nat, ee_F 51 i50 ki50 ∧ e_X7_read u k l f n = l_X7_read_167 i18 ki50 i50 u51) → uk_G G X mX7_read (d + 4) (qe_X7_read u k l f n) 167 [(0, .ref (uk_ad G 60)), (1, .int k), (2, .int l), (3, .int f), (4, .int n), (5, .int 0), (6, .int w17), (7, .int i18), (10, .int i50)] [] u51 := by
                              refine uk_upl 51 ?_
                              intro i50 ai50 bi50 ihi50  u51 hu51 fu51 ji500 ji501 ji502 jEi50
                              obtain ⟨ki50, fki50, hki50⟩ := jEi50
                              obtain ⟨ki50, rfl⟩ := ee_Fp (by first | assumption | lia | grind) fki50
                              have wu51_60_3 : u51.1 60 3 = u.1 60 3 := fk_at fu51 (by decide)
                              refine g_iload dX7_read_167 rfl ?_
                              refine g_bipush (v := 51) dX7_read_169 (by decide) ?_
                              refine g_icmp_ge (tgt := 194) dX7_read_171 (by decide) (fun c52 => ?_) (fun c52 => ?_)
                              · refine g_bipush (v := (-20)) dX7_read_194 (by decide) ?_
                                refine g_iload dX7_read_196 rfl ?_
                                refine g_isub dX7_read_198 ?_
                                refine g_topi (fun x53 ex53 => ?_)
                                exact g_iret (ty := .int) dX7_read_199 rfl rfl ⟨⟨⟨_, rfl, by first | trivial | lia | grind⟩, hu51, fu51, (ri_ofh riu45 rhu45 ((fk_at fu51 (by decide)).trans (fk_at fu45 (by decide)).symm) ((fk_c fu51 (by decide)).trans (fk_c fu45 (by decide)).symm) ((fk_c fu51 (by decide)).trans (fk_c fu45 (by decide)).symm) ((fk_c fu51 (by decide)).trans (fk_c fu45 (by decide)).symm) (cpy_le ji500 (by lia)) ji501)⟩, ee_i (by subst ex53; exact hki50.trans ((if_pos c52).trans (rfl)))⟩
                              · refine g_aload_n dX7_read_174 rfl ?_
                                refine f_X7_7 rfl rfl dX7_read_175 ?_
                                refine g_iload dX7_read_178 rfl ?_
                                refine g_aload_n dX7_read_180 rfl ?_
                                refine f_X7_60 rfl rfl dX7_read_181 ?_
                                refine g_iload dX7_read_184 rfl ?_
                                have v54 : vp_in i50 51 := uk_vin 51 rfl (by first | decide | lia | grind) (by first | decide | lia | grind)
                                refine g_iald rfl rfl v54 dX7_read_186 ?_
                                refine g_topi (fun x55 ex55 => ?_)
                                have bx55 := uk_cl v54
                                have v56 : vp_in i50 153 := uk_vin 153 rfl (by first | decide | lia | grind) (by first | decide | lia | grind)
                                have b57 := uk_cl v56
                                refine g_iast rfl rfl v56 dX7_read_187 ?_
                                refine g_mem (fun u58 eu58 => ?_)
                                have hu58 : iv u58 := by rw [eu58]; exact iv_cp hu51 hu51 (by unfold uk_is51; decide) (by unfold uk_is51; decide) (by omega) ex55
                                have fu58 : fk [60, 61, 62, 77] [3, 7, 10, 11, 13, 14, 15, 16, 17, 18, 19, 22] u u58 := by rw [eu58]; exact fk_up fu51 (by decide) (fun q => absurd q (by decide))
                                refine g_iinc (v := i50 + 1) dX7_read_188 rfl rfl (by decide) ?_
                                refine g_pick (lv' := [(0, .ref (uk_ad G 60)), (1, .int k), (2, .int l), (3, .int f), (4, .int n), (5, .int 0), (6, .int w17), (7, .int i18), (10, .int (i50 + 1))]) [0, 1, 2, 3, 4, 5, 6, 7, 8] rfl ?_
                                refine g_goto (tgt := 167) dX7_read_191 (by decide) ?_
                                refine g_pick (lv' := [(0, .ref (uk_ad G 60)), (1, .int k), (2, .int l), (3, .int f), (4, .int n), (5, .int 0), (6, .int w17), (7, .int i18), (10, .int (i50 + 1))]) [0, 1, 2, 3, 4, 5, 6, 7, 8] rfl ?_
                                exact ihi50 (by first | lia | grind)  u58 hu58 fu58 (by rw [eu58, uk_up_self]; exact cpy_up ji500 (by lia) (ex55.trans (congrFun ji502 _))) (by rw [eu58, uk_up_self]; exact cpx_up ji501 (by lia) (by lia)) (by rw [eu58, uk_up_oc (by decide)]; exact ji502) ⟨ki50, ee_Fs fki50 (by first | assumption | lia | grind), by subst eu58; subst ex55; exact hki50.trans ((if_neg c52).trans (rfl))⟩
                            refine g_pick (lv' := [(0, .ref (uk_ad G 60)), (1, .int k), (2, .int l), (3, .int f), (4, .int n), (5, .int 0), (6, .int w17), (7, .int i18), (10, .int 0)]) [0, 1, 2, 3, 4, 5, 6, 7, 9] rfl ?_
                            exact L167_48 0 (by first | decide | lia | grind) (by first | decide | lia | grind)  u45 hu45 fu45 cpy_0 cpx_rf rfl ⟨ee_K, ee_F0 _ _, by subst eu45; subst ex47; subst ex43; subst ex41; subst ex40; subst ex39; subst ex36; subst ex31; subst ex28; subst ey26; exact hki18.trans ((if_neg c20).trans ((if_pos c23).trans ((if_neg c29).trans ((if_pos c32).trans ((if_neg c33).trans ((if_pos c37).trans ((if_neg c48).trans (rfl))))))))⟩
                      · refine g_iconst (v := 2) dX7_read_131 (by decide) ?_
                        refine g_goto (tgt := 136) dX7_read_132 (by decide) ?_
                        refine g_istore dX7_read_136 (by decide) ?_
                        refine g_pick (lv' := [(0, .ref (uk_ad G 60)), (1, .int k), (2, .int l), (3, .int f), (4, .int n), (5, .int 2), (6, .int w17), (7, .int i18), (8, .long y26)]) [0, 1, 2, 3, 4, 5, 6, 7, 8] rfl ?_
                        refine g_iload dX7_read_138 rfl ?_
                        refine g_if_ne (tgt := 203) dX7_read_140 (by decide) (fun c59 => ?_) (fun c59 => ?_)
                        · refine g_iinc (v := i18 + 1) dX7_read_203 rfl rfl (by decide) ?_
                          refine g_pick (lv' := [(0, .ref (uk_ad G 60)), (1, .int k), (2, .int l), (3, .int f), (4, .int n), (5, .int 2), (6, .int w17), (7, .int (i18 + 1)), (8, .long y26)]) [0, 1, 2, 3, 4, 5, 6, 7, 8] rfl ?_
                          refine g_goto (tgt := 62) dX7_read_206 (by decide) ?_
                          refine g_pick (lv' := [(0, .ref (uk_ad G 60)), (1, .int k), (2, .int l), (3, .int f), (4, .int n), (5, .int 2), (6, .int w17), (7, .int (i18 + 1))]) [0, 1, 2, 3, 4, 5, 6, 7] rfl ?_
                          exact ihi18 (by first | lia | grind) 2 w17 u19 hu19 fu19 riu19 rhu19  ⟨ki18, ee_Fs fki18 (by first | assumption | lia | grind), by subst ex36; subst ex31; subst ex28; subst ey26; exact hki18.trans ((if_neg c20).trans ((if_pos c23).trans ((if_neg c29).trans ((if_pos c32).trans ((if_neg c33).trans ((if_neg c37).trans (rfl)))))))⟩
                        · exact absurd c59 (by decide)
                  · refine g_iconst (v := 3) dX7_read_107 (by decide) ?_
                    refine g_goto (tgt := 136) dX7_read_108 (by decide) ?_
                    refine g_istore dX7_read_136 (by decide) ?_
                    refine g_pick (lv' := [(0, .ref (uk_ad G 60)), (1, .int k), (2, .int l), (3, .int f), (4, .int n), (5, .int 3), (6, .int w17), (7, .int i18), (8, .long y26)]) [0, 1, 2, 3, 4, 5, 6, 7, 8] rfl ?_
                    refine g_iload dX7_read_138 rfl ?_
                    refine g_if_ne (tgt := 203) dX7_read_140 (by decide) (fun c60 => ?_) (fun c60 => ?_)
                    · refine g_iinc (v := i18 + 1) dX7_read_203 rfl rfl (by decide) ?_
                      refine g_pick (lv' := [(0, .ref (uk_ad G 60)), (1, .int k), (2, .int l), (3, .int f), (4, .int n), (5, .int 3), (6, .int w17), (7, .int (i18 + 1)), (8, .long y26)]) [0, 1, 2, 3, 4, 5, 6, 7, 8] rfl ?_
                      refine g_goto (tgt := 62) dX7_read_206 (by decide) ?_
                      refine g_pick (lv' := [(0, .ref (uk_ad G 60)), (1, .int k), (2, .int l), (3, .int f), (4, .int n), (5, .int 3), (6, .int w17), (7, .int (i18 + 1))]) [0, 1, 2, 3, 4, 5, 6, 7] rfl ?_
                      exact ihi18 (by first | lia | grind) 3 w17 u19 hu19 fu19 riu19 rhu19  ⟨ki18, ee_Fs fki18 (by first | assumption | lia | grind), by subst ex31; subst ex28; subst ey26; exact hki18.trans ((if_neg c20).trans ((if_pos c23).trans ((if_neg c29).trans ((if_neg c32).trans (rfl)))))⟩
                    · exact absurd c60 (by decide)
                · refine g_iconst (v := 1) dX7_read_93 (by decide) ?_
                  refine g_goto (tgt := 136) dX7_read_94 (by decide) ?_
                  refine g_istore dX7_read_136 (by decide) ?_
                  refine g_pick (lv' := [(0, .ref (uk_ad G 60)), (1, .int k), (2, .int l), (3, .int f), (4, .int n), (5, .int 1), (6, .int w17), (7, .int i18), (8, .long y26)]) [0, 1, 2, 3, 4, 5, 6, 7, 8] rfl ?_
                  refine g_iload dX7_read_138 rfl ?_
                  refine g_if_ne (tgt := 203) dX7_read_140 (by decide) (fun c61 => ?_) (fun c61 => ?_)
                  · refine g_iinc (v := i18 + 1) dX7_read_203 rfl rfl (by decide) ?_
                    refine g_pick (lv' := [(0, .ref (uk_ad G 60)), (1, .int k), (2, .int l), (3, .int f), (4, .int n), (5, .int 1), (6, .int w17), (7, .int (i18 + 1)), (8, .long y26)]) [0, 1, 2, 3, 4, 5, 6, 7, 8] rfl ?_
                    refine g_goto (tgt := 62) dX7_read_206 (by decide) ?_
                    refine g_pick (lv' := [(0, .ref (uk_ad G 60)), (1, .int k), (2, .int l), (3, .int f), (4, .int n), (5, .int 1), (6, .int w17), (7, .int (i18 + 1))]) [0, 1, 2, 3, 4, 5, 6, 7] rfl ?_
                    exact ihi18 (by first | lia | grind) 1 w17 u19 hu19 fu19 riu19 rhu19  ⟨ki18, ee_Fs fki18 (by first | assumption | lia | grind), by subst ex28; subst ey26; exact hki18.trans ((if_neg c20).trans ((if_pos c23).trans ((if_pos c29).trans (rfl))))⟩
                  · exact absurd c61 (by decide)
          refine g_pick (lv' := [(0, .ref (uk_ad G 60)), (1, .int k), (2, .int l), (3, .int f), (4, .int n), (5, .int 0), (6, .int 0), (7, .int 0)]) [0, 1, 2, 3, 4, 5, 6, 7] rfl ?_
          exact L62_14 0 (by first | decide | lia | grind) (by first | decide | lia | grind) 0 0 u13 hu13 fu13 riu13 rhX  ⟨ee_K, ee_F0 _ _, by exact hki12.trans ((if_pos c14).trans (rfl))⟩
        · refine g_aload_n dX7_read_33 rfl ?_
          refine f_X7_60 rfl rfl dX7_read_34 ?_
          refine g_iload dX7_read_37 rfl ?_
          refine g_aload_n dX7_read_39 rfl ?_
          refine f_X7_7 rfl rfl dX7_read_40 ?_
          refine g_iload dX7_read_43 rfl ?_
          have v62 : vp_in i12 153 := uk_vin 153 rfl (by first | decide | lia | grind) (by first | decide | lia | grind)
          refine g_iald rfl rfl v62 dX7_read_45 ?_
          refine g_topi (fun x63 ex63 => ?_)
          have bx63 := uk_cl v62
          have v64 : vp_in i12 51 := uk_vin 51 rfl (by first | decide | lia | grind) (by first | decide | lia | grind)
          have b65 := uk_cl v64
          refine g_iast rfl rfl v64 dX7_read_46 ?_
          refine g_mem (fun u66 eu66 => ?_)
          have hu66 : iv u66 := by rw [eu66]; exact iv_cp hu13 hu13 (by unfold uk_is51; decide) (by unfold uk_is51; decide) (by omega) ex63
          have fu66 : fk [60, 61, 62, 77] [3, 7, 10, 11, 13, 14, 15, 16, 17, 18, 19, 22] u u66 := by rw [eu66]; exact fk_up fu13 (by decide) (fun q => absurd q (by decide))
          have riu66 : ri u66 := by rw [eu66]; exact ri_1 riu13 (by decide) (fun q => absurd q (by decide))
          refine g_iinc (v := i12 + 1) dX7_read_47 rfl rfl (by decide) ?_
          refine g_pick (lv' := [(0, .ref (uk_ad G 60)), (1, .int k), (2, .int l), (3, .int f), (4, .int n), (5, .int (i12 + 1))]) [0, 1, 2, 3, 4, 5] rfl ?_
          refine g_goto (tgt := 26) dX7_read_50 (by decide) ?_
          refine g_pick (lv' := [(0, .ref (uk_ad G 60)), (1, .int k), (2, .int l), (3, .int f), (4, .int n), (5, .int (i12 + 1))]) [0, 1, 2, 3, 4, 5] rfl ?_
          exact ihi12 (by first | lia | grind)  u66 hu66 fu66 riu66 (by rw [eu66, uk_up_self]; exact cpy_up ji120 (by lia) (ex63.trans (congrFun ji121 _))) (by rw [eu66, uk_up_oc (by decide)]; exact ji121) ⟨ki12, ee_Fs fki12 (by first | assumption | lia | grind), by subst eu66; subst ex63; exact hki12.trans ((if_neg c14).trans (rfl))⟩
      refine g_pick (lv' := [(0, .ref (uk_ad G 60)), (1, .int k), (2, .int l), (3, .int f), (4, .int n), (5, .int 0)]) [0, 1, 2, 3, 4, 5] rfl ?_
      exact L26_10 0 (by first | decide | lia | grind) (by first | decide | lia | grind)  u hu f0 hri cpy_0 rfl ⟨ee_K, ee_F0 _ _, by subst ex9; subst ex4; exact (if_neg c5).trans ((if_neg c10).trans (rfl))⟩
    · have zc10 := zx9 c10
      refine g_iconst (v := (-1)) dX7_read_21 (by decide) ?_
      exact g_iret (ty := .int) dX7_read_22 rfl rfl ⟨⟨⟨_, rfl, by first | trivial | lia | grind⟩, hu, f0, hri⟩, ee_i (by subst ex9; subst ex4; exact (if_neg c5).trans ((if_pos c10).trans (rfl)))⟩
