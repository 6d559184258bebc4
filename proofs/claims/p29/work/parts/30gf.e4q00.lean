def l_X7_rule_7 (u : uk_Mem) (w : Int32) : Nat → Int32 → Int32 → Int32 → Int32
  | 0, _, _, _ => 0
  | K9 + 1, i4, w2, w3 => let x5 : Int32 := u.1 60 3; if x5 ≤ i4 then (if w = 0 then (let x9 : Int32 := u.1 60 3; x9) else (if w = 1 then (let x12 : Int32 := u.1 61 (40 : Int32).toNatClampNeg; x12) else (if w = 2 then (let x15 : Int32 := u.1 61 (41 : Int32).toNatClampNeg; x15) else (if w = 3 then (w2) else (if w = 4 then (w3) else ((-1 : Int32))))))) else (let x21 : Int32 := (e_X7_isRaw u i4); let x25 : Int32 := (e_X7_flag u x21); let x26 : Int32 := x25 <<< (i4 &&& 31); let x27 : Int32 := w2 ||| x26; let x28 : Int32 := (0 : Int32) + i4; let x30 : Int32 := u.1 61 x28.toNatClampNeg; if x30 ≤ 0 then (let x35 : Int32 := (e_X7_flag u (0 : Int32)); let x36 : Int32 := x35 <<< (i4 &&& 31); let x37 : Int32 := w3 ||| x36; l_X7_rule_7 u w K9 (i4 + 1) x27 x37) else (let x41 : Int32 := (e_X7_flag u (1 : Int32)); let x42 : Int32 := x41 <<< (i4 &&& 31); let x43 : Int32 := w3 ||| x42; l_X7_rule_7 u w K9 (i4 + 1) x27 x43))
def e_X7_rule (u : uk_Mem) (w : Int32) : Int32 := l_X7_rule_7 u w ee_K (0 : Int32) (0 : Int32) (0 : Int32)
abbrev qe_X7_rule (u : uk_Mem) (w : Int32) (r : Option Value) (u' : uk_Mem) : Prop := (q_X7_rule u w r u') ∧ (r = some (.int (e_X7_rule u w)))
set_option maxHeartbeats 4000000 in
set_option maxRecDepth 20000 in
theorem x_X7_rule {G : uk_D} (hs : uk_Sep G) {u : uk_Mem} (hu : iv u) (w : Int32) (d : Nat) : uk_Meth G (d + 1) mX7_rule [.ref (uk_ad G 60), .int w] u (qe_X7_rule u w) := by
  refine uk_Meth.of hs (by decide) (Nat.le_of_ble_eq_true rfl) (fun X => ?_)
  refine g_iconst (v := 0) dX7_rule_0 (by decide) ?_
  refine g_istore_n dX7_rule_1 (by decide) ?_
  refine g_pick (lv' := [(0, .ref (uk_ad G 60)), (1, .int w), (2, .int 0)]) [0, 1, 2] rfl ?_
  refine g_iconst (v := 0) dX7_rule_2 (by decide) ?_
  refine g_istore_n dX7_rule_3 (by decide) ?_
  refine g_pick (lv' := [(0, .ref (uk_ad G 60)), (1, .int w), (2, .int 0), (3, .int 0)]) [0, 1, 2, 3] rfl ?_
  refine g_iconst (v := 0) dX7_rule_4 (by decide) ?_
  refine g_istore dX7_rule_5 (by decide) ?_
  refine g_pick (lv' := [(0, .ref (uk_ad G 60)), (1, .int w), (2, .int 0), (3, .int 0), (4, .int 0)]) [0, 1, 2, 3, 4] rfl ?_
  have L7_0 : ∀ i4 : Int32, 0 ≤ i4 → i4 ≤ 8 → ∀ (w2 : Int32) (w3 : Int32), (∃ ki4 : Nat, ee_F 8 i4 ki4 ∧ e_X7_rule u w = l_X7_rule_7 u w ki4 i4 w2 w3) → uk_G G X mX7_rule (d + 1) (qe_X7_rule u w) 7 [(0, .ref (uk_ad G 60)), (1, .int w), (2, .int w2), (3, .int w3), (4, .int i4)] [] u := by
    refine uk_upl 8 ?_
    intro i4 ai4 bi4 ihi4 w2 w3 jEi4
    obtain ⟨ki4, fki4, hki4⟩ := jEi4
    obtain ⟨ki4, rfl⟩ := ee_Fp (by first | assumption | lia | grind) fki4
    refine g_iload dX7_rule_7 rfl ?_
    refine g_aload_n dX7_rule_9 rfl ?_
    refine f_X7_79 rfl rfl dX7_rule_10 ?_
    refine g_topi (fun x5 ex5 => ?_)
    have rx5 : 0 ≤ x5 ∧ x5 ≤ 8 := by rw [ex5]; exact iv_at hu _ _ rfl
    have s6 : u.1 60 3 = x5 := ex5.symm
    refine g_icmp_ge (tgt := 63) dX7_rule_13 (by decide) (fun c7 => ?_) (fun c7 => ?_)
    · refine g_iload_n dX7_rule_63 rfl ?_
      by_cases c8 : w = 0
      · refine g_tabIn (off := (36)) (tgt := 100) dX7_rule_64 (by rw [c8]; decide) (by rw [c8]; decide) (by rw [c8]; rfl) (by decide) ?_
        refine g_aload_n dX7_rule_100 rfl ?_
        refine f_X7_79 rfl rfl dX7_rule_101 ?_
        refine g_topi (fun x9 ex9 => ?_)
        have rx9 : 0 ≤ x9 ∧ x9 ≤ 8 := by rw [ex9]; exact iv_at hu _ _ rfl
        have qx9 : x9 = x5 := by rw [ex9]; exact s6
        exact g_iret (ty := .int) dX7_rule_104 rfl rfl ⟨⟨⟨_, rfl, by first | trivial | lia | grind⟩, rfl⟩, ee_p (by subst ex9; subst ex5; exact hki4.trans ((if_pos c7).trans ((if_pos c8).trans (rfl))))⟩
      by_cases c10 : w = 1
      · refine g_tabIn (off := (41)) (tgt := 105) dX7_rule_64 (by rw [c10]; decide) (by rw [c10]; decide) (by rw [c10]; rfl) (by decide) ?_
        refine g_aload_n dX7_rule_105 rfl ?_
        refine f_X7_7 rfl rfl dX7_rule_106 ?_
        refine g_bipush (v := 40) dX7_rule_109 (by decide) ?_
        have v11 : vp_in 40 153 := uk_vin 153 rfl (by first | decide | lia | grind) (by first | decide | lia | grind)
        refine g_iald rfl rfl v11 dX7_rule_111 ?_
        refine g_topi (fun x12 ex12 => ?_)
        have bx12 := uk_cl v11
        exact g_iret (ty := .int) dX7_rule_112 rfl rfl ⟨⟨⟨_, rfl, by first | trivial | lia | grind⟩, rfl⟩, ee_p (by subst ex12; subst ex5; exact hki4.trans ((if_pos c7).trans ((if_neg c8).trans ((if_pos c10).trans (rfl)))))⟩
      by_cases c13 : w = 2
      · refine g_tabIn (off := (49)) (tgt := 113) dX7_rule_64 (by rw [c13]; decide) (by rw [c13]; decide) (by rw [c13]; rfl) (by decide) ?_
        refine g_aload_n dX7_rule_113 rfl ?_
        refine f_X7_7 rfl rfl dX7_rule_114 ?_
        refine g_bipush (v := 41) dX7_rule_117 (by decide) ?_
        have v14 : vp_in 41 153 := uk_vin 153 rfl (by first | decide | lia | grind) (by first | decide | lia | grind)
        refine g_iald rfl rfl v14 dX7_rule_119 ?_
        refine g_topi (fun x15 ex15 => ?_)
        have bx15 := uk_cl v14
        exact g_iret (ty := .int) dX7_rule_120 rfl rfl ⟨⟨⟨_, rfl, by first | trivial | lia | grind⟩, rfl⟩, ee_p (by subst ex15; subst ex5; exact hki4.trans ((if_pos c7).trans ((if_neg c8).trans ((if_neg c10).trans ((if_pos c13).trans (rfl))))))⟩
      by_cases c16 : w = 3
      · refine g_tabIn (off := (57)) (tgt := 121) dX7_rule_64 (by rw [c16]; decide) (by rw [c16]; decide) (by rw [c16]; rfl) (by decide) ?_
        refine g_iload_n dX7_rule_121 rfl ?_
        exact g_iret (ty := .int) dX7_rule_122 rfl rfl ⟨⟨⟨_, rfl, by first | trivial | lia | grind⟩, rfl⟩, ee_p (by subst ex5; exact hki4.trans ((if_pos c7).trans ((if_neg c8).trans ((if_neg c10).trans ((if_neg c13).trans ((if_pos c16).trans (rfl)))))))⟩
      by_cases c17 : w = 4
      · refine g_tabIn (off := (59)) (tgt := 123) dX7_rule_64 (by rw [c17]; decide) (by rw [c17]; decide) (by rw [c17]; rfl) (by decide) ?_
        refine g_iload_n dX7_rule_123 rfl ?_
        exact g_iret (ty := .int) dX7_rule_124 rfl rfl ⟨⟨⟨_, rfl, by first | trivial | lia | grind⟩, rfl⟩, ee_p (by subst ex5; exact hki4.trans ((if_pos c7).trans ((if_neg c8).trans ((if_neg c10).trans ((if_neg c13).trans ((if_neg c16).trans ((if_pos c17).trans (rfl))))))))⟩
      refine g_tabOut (tgt := 125) dX7_rule_64 (uk_swo 0 4 rfl rfl (by first | lia | grind)) (by decide) ?_
      refine g_iconst (v := (-1)) dX7_rule_125 (by decide) ?_
      exact g_iret (ty := .int) dX7_rule_126 rfl rfl ⟨⟨⟨_, rfl, by first | trivial | lia | grind⟩, rfl⟩, ee_p (by subst ex5; exact hki4.trans ((if_pos c7).trans ((if_neg c8).trans ((if_neg c10).trans ((if_neg c13).trans ((if_neg c16).trans ((if_neg c17).trans (rfl))))))))⟩
    · refine g_iload_n dX7_rule_16 rfl ?_
      refine g_aload_n dX7_rule_17 rfl ?_
      refine g_iload dX7_rule_18 rfl ?_
      refine cl_X7_166 (c := 60) (As := [.int i4]) rfl (x_X7_isRaw (G := G) hs hu  i4 (by first | trivial | decide | lia | grind) (by first | trivial | decide | lia | grind) (d)) rfl (by omega) rfl rfl (Nat.le_of_ble_eq_true rfl) dX7_rule_20 (fun r18 u19 q20 => ?_)
      obtain ⟨q20, Eq20⟩ := q20
      obtain ⟨⟨x21, rfl, tx21, nx21, zx21⟩, mq20⟩ := q20
      rw [mq20]
      have ex21 : x21 = (e_X7_isRaw u i4) := ee_v Eq20
      refine cl_X7_169 (As := [.int x21]) rfl (x_X7_flag (G := G) hs hu  x21  (d)) rfl (by omega) rfl (Nat.le_of_ble_eq_true rfl) dX7_rule_23 (fun r22 u23 q24 => ?_)
      obtain ⟨q24, Eq24⟩ := q24
      obtain ⟨⟨x25, rfl, tx25⟩, mq24⟩ := q24
      rw [mq24]
      have ex25 : x25 = (e_X7_flag u x21) := ee_v Eq24
      refine g_iload dX7_rule_26 rfl ?_
      refine g_ishl dX7_rule_28 (fun x26 ex26 => ?_)
      refine g_ior dX7_rule_29 ?_
      refine g_topi (fun x27 ex27 => ?_)
      refine g_istore_n dX7_rule_30 (by decide) ?_
      refine g_pick (lv' := [(0, .ref (uk_ad G 60)), (1, .int w), (2, .int x27), (3, .int w3), (4, .int i4)]) [0, 1, 2, 3, 4] rfl ?_
      refine g_iload_n dX7_rule_31 rfl ?_
      refine g_aload_n dX7_rule_32 rfl ?_
      refine f_X7_7 rfl rfl dX7_rule_33 ?_
      refine g_iconst (v := 0) dX7_rule_36 (by decide) ?_
      refine g_iload dX7_rule_37 rfl ?_
      refine g_iadd dX7_rule_39 ?_
      refine g_topi (fun x28 ex28 => ?_)
      have ox28 : x28 = i4 := by rw [ex28, Int32.zero_add]
      have v29 : vp_in x28 153 := uk_vin 153 rfl (by first | decide | lia | grind) (by first | decide | lia | grind)
      refine g_iald rfl rfl v29 dX7_rule_40 ?_
      refine g_topi (fun x30 ex30 => ?_)
      have bx30 := uk_cl v29
      have rx30 : 0 ≤ x30 ∧ x30 ≤ 40 := by rw [ex30]; exact sg_0 hu (by unfold uk_is51; decide) (by first | lia | grind) (by first | lia | grind)
      refine g_if_le (tgt := 48) dX7_rule_41 (by decide) (fun c31 => ?_) (fun c31 => ?_)
      · refine g_iconst (v := 0) dX7_rule_48 (by decide) ?_
        refine cl_X7_169 (As := [.int 0]) rfl (x_X7_flag (G := G) hs hu  0  (d)) rfl (by omega) rfl (Nat.le_of_ble_eq_true rfl) dX7_rule_49 (fun r32 u33 q34 => ?_)
        obtain ⟨q34, Eq34⟩ := q34
        obtain ⟨⟨x35, rfl, tx35⟩, mq34⟩ := q34
        rw [mq34]
        have ex35 : x35 = (e_X7_flag u (0 : Int32)) := ee_v Eq34
        refine g_iload dX7_rule_52 rfl ?_
        refine g_ishl dX7_rule_54 (fun x36 ex36 => ?_)
        refine g_ior dX7_rule_55 ?_
        refine g_topi (fun x37 ex37 => ?_)
        refine g_istore_n dX7_rule_56 (by decide) ?_
        refine g_pick (lv' := [(0, .ref (uk_ad G 60)), (1, .int w), (2, .int x27), (3, .int x37), (4, .int i4)]) [0, 1, 2, 3, 4] rfl ?_
        refine g_iinc (v := i4 + 1) dX7_rule_57 rfl rfl (by decide) ?_
        refine g_pick (lv' := [(0, .ref (uk_ad G 60)), (1, .int w), (2, .int x27), (3, .int x37), (4, .int (i4 + 1))]) [0, 1, 2, 3, 4] rfl ?_
        refine g_goto (tgt := 7) dX7_rule_60 (by decide) ?_
        refine g_pick (lv' := [(0, .ref (uk_ad G 60)), (1, .int w), (2, .int x27), (3, .int x37), (4, .int (i4 + 1))]) [0, 1, 2, 3, 4] rfl ?_
        exact ihi4 (by first | lia | grind) x27 x37  ⟨ki4, ee_Fs fki4 (by first | assumption | lia | grind), by subst ex37; subst ex36; subst ex35; subst ex30; subst ex28; subst ex27; subst ex26; subst ex25; subst ex21; subst ex5; exact hki4.trans ((if_neg c7).trans ((if_pos c31).trans (rfl)))⟩
      · refine g_iconst (v := 1) dX7_rule_44 (by decide) ?_
        refine g_goto (tgt := 49) dX7_rule_45 (by decide) ?_
        refine cl_X7_169 (As := [.int 1]) rfl (x_X7_flag (G := G) hs hu  1  (d)) rfl (by omega) rfl (Nat.le_of_ble_eq_true rfl) dX7_rule_49 (fun r38 u39 q40 => ?_)
        obtain ⟨q40, Eq40⟩ := q40
        obtain ⟨⟨x41, rfl, tx41⟩, mq40⟩ := q40
        rw [mq40]
        have ex41 : x41 = (e_X7_flag u (1 : Int32)) := ee_v Eq40
        refine g_iload dX7_rule_52 rfl ?_
        refine g_ishl dX7_rule_54 (fun x42 ex42 => ?_)
        refine g_ior dX7_rule_55 ?_
        refine g_topi (fun x43 ex43 => ?_)
        refine g_istore_n dX7_rule_56 (by decide) ?_
        refine g_pick (lv' := [(0, .ref (uk_ad G 60)), (1, .int w), (2, .int x27), (3, .int x43), (4, .int i4)]) [0, 1, 2, 3, 4] rfl ?_
        refine g_iinc (v := i4 + 1) dX7_rule_57 rfl rfl (by decide) ?_
        refine g_pick (lv' := [(0, .ref (uk_ad G 60)), (1, .int w), (2, .int x27), (3, .int x43), (4, .int (i4 + 1))]) [0, 1, 2, 3, 4] rfl ?_
        refine g_goto (tgt := 7) dX7_rule_60 (by decide) ?_
        refine g_pick (lv' := [(0, .ref (uk_ad G 60)), (1, .int w), (2, .int x27), (3, .int x43), (4, .int (i4 + 1))]) [0, 1, 2, 3, 4] rfl ?_
        exact ihi4 (by first | lia | grind) x27 x43  ⟨ki4, ee_Fs fki4 (by first | assumption | lia | grind), by subst ex43; subst ex42; subst ex41; subst ex30; subst ex28; subst ex27; subst ex26; subst ex25; subst ex21; subst ex5; exact hki4.trans ((if_neg c7).trans ((if_neg c31).trans (rfl)))⟩
  refine g_pick (lv' := [(0, .ref (uk_ad G 60)), (1, .int w), (2, .int 0), (3, .int 0), (4, .int 0)]) [0, 1, 2, 3, 4] rfl ?_
  exact L7_0 0 (by first | decide | lia | grind) (by first | decide | lia | grind) 0 0  ⟨ee_K, ee_F0 _ _, by exact rfl⟩
def e_X7_stuff (u : uk_Mem) (m : Int32) (w : Int32) : Int32 := let x4 : Int32 := (e_X7_isStuff u m); if x4 = 0 then ((-1 : Int32)) else (if w = 0 then (let x7 : Int32 := (32 : Int32) + m; let x9 : Int32 := u.1 61 x7.toNatClampNeg; x9) else (if w = 1 then (let x12 : Int32 := u.1 64 m.toNatClampNeg; x12) else (if w = 2 then (let x15 : Int32 := u.1 65 m.toNatClampNeg; x15) else (if w = 3 then (let x17 : Int32 := (16 : Int32) + m; let x19 : Int32 := u.1 61 x17.toNatClampNeg; x19) else (if w = 4 then (let x24 : Int32 := (e_X7_isRaw u m); if x24 = 0 then ((-4 : Int32)) else (let x26 : Int32 := (24 : Int32) + m; let x28 : Int32 := u.1 61 x26.toNatClampNeg; x28)) else (if w = 5 then (let x30 : Int32 := (8 : Int32) + m; let x32 : Int32 := u.1 61 x30.toNatClampNeg; x32) else (if w = 6 then (let x34 : Int32 := (0 : Int32) + m; let x36 : Int32 := u.1 61 x34.toNatClampNeg; x36) else ((-1 : Int32)))))))))
abbrev qe_X7_stuff (u : uk_Mem) (m : Int32) (w : Int32) (r : Option Value) (u' : uk_Mem) : Prop := (q_X7_stuff u m w r u') ∧ (r = some (.int (e_X7_stuff u m w)))
set_option maxHeartbeats 4000000 in
set_option maxRecDepth 20000 in
theorem x_X7_stuff {G : uk_D} (hs : uk_Sep G) {u : uk_Mem} (hu : iv u) (m : Int32) (w : Int32) (d : Nat) : uk_Meth G (d + 2) mX7_stuff [.ref (uk_ad G 60), .int m, .int w] u (qe_X7_stuff u m w) := by
  refine uk_Meth.of hs (by decide) (Nat.le_of_ble_eq_true rfl) (fun X => ?_)
  refine g_aload_n dX7_stuff_0 rfl ?_
  refine g_iload_n dX7_stuff_1 rfl ?_
  refine cl_X7_163 (c := 60) (As := [.int m]) rfl (x_X7_isStuff (G := G) hs hu  m  (d)) rfl (by omega) rfl rfl (Nat.le_of_ble_eq_true rfl) dX7_stuff_2 (fun r1 u2 q3 => ?_)
  obtain ⟨q3, Eq3⟩ := q3
  obtain ⟨⟨x4, rfl, tx4, nx4, zx4⟩, mq3⟩ := q3
  rw [mq3]
  have ex4 : x4 = (e_X7_isStuff u m) := ee_v Eq3
  refine g_if_ne (tgt := 10) dX7_stuff_5 (by decide) (fun c5 => ?_) (fun c5 => ?_)
  · have zc5 := nx4 c5
    refine g_iload_n dX7_stuff_10 rfl ?_
    by_cases c6 : w = 0
    · refine g_tabIn (off := (41)) (tgt := 52) dX7_stuff_11 (by rw [c6]; decide) (by rw [c6]; decide) (by rw [c6]; rfl) (by decide) ?_
      refine g_aload_n dX7_stuff_52 rfl ?_
      refine f_X7_7 rfl rfl dX7_stuff_53 ?_
      refine g_bipush (v := 32) dX7_stuff_56 (by decide) ?_
      refine g_iload_n dX7_stuff_58 rfl ?_
      refine g_iadd dX7_stuff_59 ?_
      refine g_topi (fun x7 ex7 => ?_)
      have v8 : vp_in x7 153 := uk_vin 153 rfl (by first | decide | lia | grind) (by first | decide | lia | grind)
      refine g_iald rfl rfl v8 dX7_stuff_60 ?_
      refine g_topi (fun x9 ex9 => ?_)
      have bx9 := uk_cl v8
      exact g_iret (ty := .int) dX7_stuff_61 rfl rfl ⟨⟨⟨_, rfl, by first | trivial | lia | grind⟩, rfl⟩, ee_p (by subst ex9; subst ex7; subst ex4; exact (if_neg c5).trans ((if_pos c6).trans (rfl)))⟩
    by_cases c10 : w = 1
    · refine g_tabIn (off := (51)) (tgt := 62) dX7_stuff_11 (by rw [c10]; decide) (by rw [c10]; decide) (by rw [c10]; rfl) (by decide) ?_
      refine g_aload_n dX7_stuff_62 rfl ?_
      refine f_X7_20 rfl rfl dX7_stuff_63 ?_
      refine g_iload_n dX7_stuff_66 rfl ?_
      have v11 : vp_in m 8 := uk_vin 8 rfl (by first | decide | lia | grind) (by first | decide | lia | grind)
      refine g_iald rfl rfl v11 dX7_stuff_67 ?_
      refine g_topi (fun x12 ex12 => ?_)
      have bx12 := uk_cl v11
      have rx12 : (-4) ≤ x12 ∧ x12 ≤ 7 := by rw [ex12]; exact iv_at hu _ _ (uk_pick1 _ (by omega))
      exact g_iret (ty := .int) dX7_stuff_68 rfl rfl ⟨⟨⟨_, rfl, by first | trivial | lia | grind⟩, rfl⟩, ee_p (by subst ex12; subst ex4; exact (if_neg c5).trans ((if_neg c6).trans ((if_pos c10).trans (rfl))))⟩
    by_cases c13 : w = 2
    · refine g_tabIn (off := (58)) (tgt := 69) dX7_stuff_11 (by rw [c13]; decide) (by rw [c13]; decide) (by rw [c13]; rfl) (by decide) ?_
      refine g_aload_n dX7_stuff_69 rfl ?_
      refine f_X7_23 rfl rfl dX7_stuff_70 ?_
      refine g_iload_n dX7_stuff_73 rfl ?_
      have v14 : vp_in m 8 := uk_vin 8 rfl (by first | decide | lia | grind) (by first | decide | lia | grind)
      refine g_iald rfl rfl v14 dX7_stuff_74 ?_
      refine g_topi (fun x15 ex15 => ?_)
      have bx15 := uk_cl v14
      have rx15 : (-4) ≤ x15 ∧ x15 ≤ 7 := by rw [ex15]; exact iv_at hu _ _ (uk_pick1 _ (by omega))
      exact g_iret (ty := .int) dX7_stuff_75 rfl rfl ⟨⟨⟨_, rfl, by first | trivial | lia | grind⟩, rfl⟩, ee_p (by subst ex15; subst ex4; exact (if_neg c5).trans ((if_neg c6).trans ((if_neg c10).trans ((if_pos c13).trans (rfl)))))⟩
    by_cases c16 : w = 3
    · refine g_tabIn (off := (65)) (tgt := 76) dX7_stuff_11 (by rw [c16]; decide) (by rw [c16]; decide) (by rw [c16]; rfl) (by decide) ?_
      refine g_aload_n dX7_stuff_76 rfl ?_
      refine f_X7_7 rfl rfl dX7_stuff_77 ?_
      refine g_bipush (v := 16) dX7_stuff_80 (by decide) ?_
      refine g_iload_n dX7_stuff_82 rfl ?_
      refine g_iadd dX7_stuff_83 ?_
      refine g_topi (fun x17 ex17 => ?_)
      have v18 : vp_in x17 153 := uk_vin 153 rfl (by first | decide | lia | grind) (by first | decide | lia | grind)
      refine g_iald rfl rfl v18 dX7_stuff_84 ?_
      refine g_topi (fun x19 ex19 => ?_)
      have bx19 := uk_cl v18
      exact g_iret (ty := .int) dX7_stuff_85 rfl rfl ⟨⟨⟨_, rfl, by first | trivial | lia | grind⟩, rfl⟩, ee_p (by subst ex19; subst ex17; subst ex4; exact (if_neg c5).trans ((if_neg c6).trans ((if_neg c10).trans ((if_neg c13).trans ((if_pos c16).trans (rfl))))))⟩
    by_cases c20 : w = 4
    · refine g_tabIn (off := (75)) (tgt := 86) dX7_stuff_11 (by rw [c20]; decide) (by rw [c20]; decide) (by rw [c20]; rfl) (by decide) ?_
      refine g_aload_n dX7_stuff_86 rfl ?_
      refine g_iload_n dX7_stuff_87 rfl ?_
      refine cl_X7_166 (c := 60) (As := [.int m]) rfl (x_X7_isRaw (G := G) hs hu  m (by first | trivial | decide | lia | grind) (by first | trivial | decide | lia | grind) (d + 1)) rfl (by omega) rfl rfl (Nat.le_of_ble_eq_true rfl) dX7_stuff_88 (fun r21 u22 q23 => ?_)
      obtain ⟨q23, Eq23⟩ := q23
      obtain ⟨⟨x24, rfl, tx24, nx24, zx24⟩, mq23⟩ := q23
      rw [mq23]
      have ex24 : x24 = (e_X7_isRaw u m) := ee_v Eq23
      refine g_if_eq (tgt := 106) dX7_stuff_91 (by decide) (fun c25 => ?_) (fun c25 => ?_)
      · have zc25 := zx24 c25
        refine g_bipush (v := (-4)) dX7_stuff_106 (by decide) ?_
        exact g_iret (ty := .int) dX7_stuff_108 rfl rfl ⟨⟨⟨_, rfl, by first | trivial | lia | grind⟩, rfl⟩, ee_p (by subst ex24; subst ex4; exact (if_neg c5).trans ((if_neg c6).trans ((if_neg c10).trans ((if_neg c13).trans ((if_neg c16).trans ((if_pos c20).trans ((if_pos c25).trans (rfl))))))))⟩
      · have zc25 := nx24 c25
        refine g_aload_n dX7_stuff_94 rfl ?_
        refine f_X7_7 rfl rfl dX7_stuff_95 ?_
        refine g_bipush (v := 24) dX7_stuff_98 (by decide) ?_
        refine g_iload_n dX7_stuff_100 rfl ?_
        refine g_iadd dX7_stuff_101 ?_
        refine g_topi (fun x26 ex26 => ?_)
        have v27 : vp_in x26 153 := uk_vin 153 rfl (by first | decide | lia | grind) (by first | decide | lia | grind)
        refine g_iald rfl rfl v27 dX7_stuff_102 ?_
        refine g_topi (fun x28 ex28 => ?_)
        have bx28 := uk_cl v27
        refine g_goto (tgt := 108) dX7_stuff_103 (by decide) ?_
        exact g_iret (ty := .int) dX7_stuff_108 rfl rfl ⟨⟨⟨_, rfl, by first | trivial | lia | grind⟩, rfl⟩, ee_p (by subst ex28; subst ex26; subst ex24; subst ex4; exact (if_neg c5).trans ((if_neg c6).trans ((if_neg c10).trans ((if_neg c13).trans ((if_neg c16).trans ((if_pos c20).trans ((if_neg c25).trans (rfl))))))))⟩
    by_cases c29 : w = 5
    · refine g_tabIn (off := (98)) (tgt := 109) dX7_stuff_11 (by rw [c29]; decide) (by rw [c29]; decide) (by rw [c29]; rfl) (by decide) ?_
      refine g_aload_n dX7_stuff_109 rfl ?_
      refine f_X7_7 rfl rfl dX7_stuff_110 ?_
      refine g_bipush (v := 8) dX7_stuff_113 (by decide) ?_
      refine g_iload_n dX7_stuff_115 rfl ?_
      refine g_iadd dX7_stuff_116 ?_
      refine g_topi (fun x30 ex30 => ?_)
      have v31 : vp_in x30 153 := uk_vin 153 rfl (by first | decide | lia | grind) (by first | decide | lia | grind)
      refine g_iald rfl rfl v31 dX7_stuff_117 ?_
      refine g_topi (fun x32 ex32 => ?_)
      have bx32 := uk_cl v31
      exact g_iret (ty := .int) dX7_stuff_118 rfl rfl ⟨⟨⟨_, rfl, by first | trivial | lia | grind⟩, rfl⟩, ee_p (by subst ex32; subst ex30; subst ex4; exact (if_neg c5).trans ((if_neg c6).trans ((if_neg c10).trans ((if_neg c13).trans ((if_neg c16).trans ((if_neg c20).trans ((if_pos c29).trans (rfl))))))))⟩
    by_cases c33 : w = 6
    · refine g_tabIn (off := (108)) (tgt := 119) dX7_stuff_11 (by rw [c33]; decide) (by rw [c33]; decide) (by rw [c33]; rfl) (by decide) ?_
      refine g_aload_n dX7_stuff_119 rfl ?_
      refine f_X7_7 rfl rfl dX7_stuff_120 ?_
      refine g_iconst (v := 0) dX7_stuff_123 (by decide) ?_
      refine g_iload_n dX7_stuff_124 rfl ?_
      refine g_iadd dX7_stuff_125 ?_
      refine g_topi (fun x34 ex34 => ?_)
      have ox34 : x34 = m := by rw [ex34, Int32.zero_add]
      have v35 : vp_in x34 153 := uk_vin 153 rfl (by first | decide | lia | grind) (by first | decide | lia | grind)
      refine g_iald rfl rfl v35 dX7_stuff_126 ?_
      refine g_topi (fun x36 ex36 => ?_)
      have bx36 := uk_cl v35
      have rx36 : 0 ≤ x36 ∧ x36 ≤ 40 := by rw [ex36]; exact sg_0 hu (by unfold uk_is51; decide) (by first | lia | grind) (by first | lia | grind)
      exact g_iret (ty := .int) dX7_stuff_127 rfl rfl ⟨⟨⟨_, rfl, by first | trivial | lia | grind⟩, rfl⟩, ee_p (by subst ex36; subst ex34; subst ex4; exact (if_neg c5).trans ((if_neg c6).trans ((if_neg c10).trans ((if_neg c13).trans ((if_neg c16).trans ((if_neg c20).trans ((if_neg c29).trans ((if_pos c33).trans (rfl)))))))))⟩
    refine g_tabOut (tgt := 128) dX7_stuff_11 (uk_swo 0 6 rfl rfl (by first | lia | grind)) (by decide) ?_
    refine g_iconst (v := (-1)) dX7_stuff_128 (by decide) ?_
    exact g_iret (ty := .int) dX7_stuff_129 rfl rfl ⟨⟨⟨_, rfl, by first | trivial | lia | grind⟩, rfl⟩, ee_p (by subst ex4; exact (if_neg c5).trans ((if_neg c6).trans ((if_neg c10).trans ((if_neg c13).trans ((if_neg c16).trans ((if_neg c20).trans ((if_neg c29).trans ((if_neg c33).trans (rfl)))))))))⟩
  · have zc5 := zx4 c5
    refine g_iconst (v := (-1)) dX7_stuff_8 (by decide) ?_
    exact g_iret (ty := .int) dX7_stuff_9 rfl rfl ⟨⟨⟨_, rfl, by first | trivial | lia | grind⟩, rfl⟩, ee_p (by subst ex4; exact (if_pos c5).trans (rfl))⟩
def e_X7_fill (u : uk_Mem) (m : Int32) (n : Int32) : Int32 × uk_Mem := let x4 : Int32 := (e_X7_isStuff u m); if x4 = 0 then (((-1 : Int32), u)) else (let x9 : Int32 := (e_X7_in u n (0 : Int32) (40 : Int32)); if x9 = 0 then (((-1 : Int32), u)) else (let x11 : Int32 := (0 : Int32) + m; let x15 : Int32 := (e_X7_becomes u x11 n).1; let u13 : uk_Mem := (e_X7_becomes u x11 n).2; (x15, u13)))
abbrev qe_X7_fill (u : uk_Mem) (m : Int32) (n : Int32) (r : Option Value) (u' : uk_Mem) : Prop := (q_X7_fill u m n r u') ∧ (r = some (.int (e_X7_fill u m n).1) ∧ u' = (e_X7_fill u m n).2)
set_option maxHeartbeats 4000000 in
set_option maxRecDepth 20000 in
theorem x_X7_fill {G : uk_D} (hs : uk_Sep G) {u : uk_Mem} (hu : iv u) (hri : ri u) (m : Int32) (n : Int32) (d : Nat) : uk_Meth G (d + 2) mX7_fill [.ref (uk_ad G 60), .int m, .int n] u (qe_X7_fill u m n) := by
  refine uk_Meth.of hs (by decide) (Nat.le_of_ble_eq_true rfl) (fun X => ?_)
  have f0 : fk [61] [] u u := fk_rf
  refine g_aload_n dX7_fill_0 rfl ?_
  refine g_iload_n dX7_fill_1 rfl ?_
  refine cl_X7_163 (c := 60) (As := [.int m]) rfl (x_X7_isStuff (G := G) hs hu  m  (d)) rfl (by omega) rfl rfl (Nat.le_of_ble_eq_true rfl) dX7_fill_2 (fun r1 u2 q3 => ?_)
  obtain ⟨q3, Eq3⟩ := q3
  obtain ⟨⟨x4, rfl, tx4, nx4, zx4⟩, mq3⟩ := q3
  rw [mq3]
  have ex4 : x4 = (e_X7_isStuff u m) := ee_v Eq3
  refine g_if_eq (tgt := 31) dX7_fill_5 (by decide) (fun c5 => ?_) (fun c5 => ?_)
  · have zc5 := zx4 c5
    refine g_iconst (v := (-1)) dX7_fill_31 (by decide) ?_
    exact g_iret (ty := .int) dX7_fill_32 rfl rfl ⟨⟨⟨_, rfl, by first | trivial | lia | grind⟩, hu, f0, hri⟩, ee_i (by subst ex4; exact (if_pos c5).trans (rfl))⟩
  · have zc5 := nx4 c5
    refine g_iload_n dX7_fill_8 rfl ?_
    refine g_i2l dX7_fill_9 ?_
    refine g_lconst (v := 0) dX7_fill_10 (by decide) ?_
    refine g_ldc2 (v := 40) k_X7_173 dX7_fill_11 ?_
    refine cl_X7_84 (As := [.long n.toInt64, .long 0, .long 40]) rfl (x_X7_in (G := G) hs hu  n 0 40  (d + 1)) rfl (by omega) rfl (Nat.le_of_ble_eq_true rfl) dX7_fill_14 (fun r6 u7 q8 => ?_)
    obtain ⟨q8, Eq8⟩ := q8
    obtain ⟨⟨x9, rfl, tx9, nx9, zx9⟩, mq8⟩ := q8
    rw [mq8]
    have ex9 : x9 = (e_X7_in u n (0 : Int32) (40 : Int32)) := ee_v Eq8
    refine g_if_eq (tgt := 31) dX7_fill_17 (by decide) (fun c10 => ?_) (fun c10 => ?_)
    · have zc10 := zx9 c10
      refine g_iconst (v := (-1)) dX7_fill_31 (by decide) ?_
      exact g_iret (ty := .int) dX7_fill_32 rfl rfl ⟨⟨⟨_, rfl, by first | trivial | lia | grind⟩, hu, f0, hri⟩, ee_i (by subst ex9; subst ex4; exact (if_neg c5).trans ((if_pos c10).trans (rfl)))⟩
    · have zc10 := nx9 c10
      refine g_aload_n dX7_fill_20 rfl ?_
      refine g_iconst (v := 0) dX7_fill_21 (by decide) ?_
      refine g_iload_n dX7_fill_22 rfl ?_
      refine g_iadd dX7_fill_23 ?_
      refine g_topi (fun x11 ex11 => ?_)
      have ox11 : x11 = m := by rw [ex11, Int32.zero_add]
      refine g_iload_n dX7_fill_24 rfl ?_
      refine cl_X7_175 (c := 60) (As := [.int x11, .int n]) rfl (x_X7_becomes (G := G) hs hu  x11 n (by first | trivial | decide | lia | grind) (by first | trivial | decide | lia | grind) (by first | trivial | decide | lia | grind) (by first | trivial | decide | lia | grind) (d + 1)) rfl (by omega) rfl rfl (Nat.le_of_ble_eq_true rfl) dX7_fill_25 (fun r12 u13 q14 => ?_)
      obtain ⟨q14, Eq14⟩ := q14
      obtain ⟨⟨x15, rfl, tx15⟩, mq14⟩ := q14
      obtain ⟨hu13, gu13, xu13⟩ := mq14
      have fu13 : fk [61] [] u u13 := fk_tr f0 gu13 (by decide) (by decide)
      have riu13 : ri u13 := by rw [xu13]; exact ri_st hri (by first | lia | grind) (by first | lia | grind)
      have wu13_60_3 : u13.1 60 3 = u.1 60 3 := fk_at gu13 (by decide)
      have ex15 : x15 = (e_X7_becomes u x11 n).1 := ee_v Eq14.1
      have eu13 : u13 = (e_X7_becomes u x11 n).2 := Eq14.2
      refine g_goto (tgt := 32) dX7_fill_28 (by decide) ?_
      exact g_iret (ty := .int) dX7_fill_32 rfl rfl ⟨⟨⟨_, rfl, by first | trivial | lia | grind⟩, hu13, fu13, riu13⟩, ee_i (by subst eu13; subst ex15; subst ex11; subst ex9; subst ex4; exact (if_neg c5).trans ((if_neg c10).trans (rfl)))⟩
def e_X7_feeds (u : uk_Mem) (m : Int32) (v : Int32) : Int32 × uk_Mem := let x4 : Int32 := (e_X7_isStuff u m); if x4 = 0 then (((-1 : Int32), u)) else (let x9 : Int32 := (e_X7_in u v (0 : Int32) (9 : Int32)); if x9 = 0 then (((-1 : Int32), u)) else (let x11 : Int32 := (16 : Int32) + m; let x15 : Int32 := (e_X7_becomes u x11 v).1; let u13 : uk_Mem := (e_X7_becomes u x11 v).2; (x15, u13)))
abbrev qe_X7_feeds (u : uk_Mem) (m : Int32) (v : Int32) (r : Option Value) (u' : uk_Mem) : Prop := (q_X7_feeds u m v r u') ∧ (r = some (.int (e_X7_feeds u m v).1) ∧ u' = (e_X7_feeds u m v).2)
set_option maxHeartbeats 4000000 in
set_option maxRecDepth 20000 in
theorem x_X7_feeds {G : uk_D} (hs : uk_Sep G) {u : uk_Mem} (hu : iv u) (hri : ri u) (m : Int32) (v : Int32) (d : Nat) : uk_Meth G (d + 2) mX7_feeds [.ref (uk_ad G 60), .int m, .int v] u (qe_X7_feeds u m v) := by
  refine uk_Meth.of hs (by decide) (Nat.le_of_ble_eq_true rfl) (fun X => ?_)
  have f0 : fk [61] [] u u := fk_rf
  refine g_aload_n dX7_feeds_0 rfl ?_
  refine g_iload_n dX7_feeds_1 rfl ?_
  refine cl_X7_163 (c := 60) (As := [.int m]) rfl (x_X7_isStuff (G := G) hs hu  m  (d)) rfl (by omega) rfl rfl (Nat.le_of_ble_eq_true rfl) dX7_feeds_2 (fun r1 u2 q3 => ?_)
  obtain ⟨q3, Eq3⟩ := q3
  obtain ⟨⟨x4, rfl, tx4, nx4, zx4⟩, mq3⟩ := q3
  rw [mq3]
  have ex4 : x4 = (e_X7_isStuff u m) := ee_v Eq3
  refine g_if_eq (tgt := 32) dX7_feeds_5 (by decide) (fun c5 => ?_) (fun c5 => ?_)
  · have zc5 := zx4 c5
    refine g_iconst (v := (-1)) dX7_feeds_32 (by decide) ?_
    exact g_iret (ty := .int) dX7_feeds_33 rfl rfl ⟨⟨⟨_, rfl, by first | trivial | lia | grind⟩, hu, f0, hri⟩, ee_i (by subst ex4; exact (if_pos c5).trans (rfl))⟩
  · have zc5 := nx4 c5
    refine g_iload_n dX7_feeds_8 rfl ?_
    refine g_i2l dX7_feeds_9 ?_
    refine g_lconst (v := 0) dX7_feeds_10 (by decide) ?_
    refine g_ldc2 (v := 9) k_X7_178 dX7_feeds_11 ?_
    refine cl_X7_84 (As := [.long v.toInt64, .long 0, .long 9]) rfl (x_X7_in (G := G) hs hu  v 0 9  (d + 1)) rfl (by omega) rfl (Nat.le_of_ble_eq_true rfl) dX7_feeds_14 (fun r6 u7 q8 => ?_)
    obtain ⟨q8, Eq8⟩ := q8
    obtain ⟨⟨x9, rfl, tx9, nx9, zx9⟩, mq8⟩ := q8
    rw [mq8]
    have ex9 : x9 = (e_X7_in u v (0 : Int32) (9 : Int32)) := ee_v Eq8
    refine g_if_eq (tgt := 32) dX7_feeds_17 (by decide) (fun c10 => ?_) (fun c10 => ?_)
    · have zc10 := zx9 c10
      refine g_iconst (v := (-1)) dX7_feeds_32 (by decide) ?_
      exact g_iret (ty := .int) dX7_feeds_33 rfl rfl ⟨⟨⟨_, rfl, by first | trivial | lia | grind⟩, hu, f0, hri⟩, ee_i (by subst ex9; subst ex4; exact (if_neg c5).trans ((if_pos c10).trans (rfl)))⟩
    · have zc10 := nx9 c10
      refine g_aload_n dX7_feeds_20 rfl ?_
      refine g_bipush (v := 16) dX7_feeds_21 (by decide) ?_
      refine g_iload_n dX7_feeds_23 rfl ?_
      refine g_iadd dX7_feeds_24 ?_
      refine g_topi (fun x11 ex11 => ?_)
      refine g_iload_n dX7_feeds_25 rfl ?_
      refine cl_X7_175 (c := 60) (As := [.int x11, .int v]) rfl (x_X7_becomes (G := G) hs hu  x11 v (by first | trivial | decide | lia | grind) (by first | trivial | decide | lia | grind) (by first | trivial | decide | lia | grind) (by first | trivial | decide | lia | grind) (d + 1)) rfl (by omega) rfl rfl (Nat.le_of_ble_eq_true rfl) dX7_feeds_26 (fun r12 u13 q14 => ?_)
      obtain ⟨q14, Eq14⟩ := q14
      obtain ⟨⟨x15, rfl, tx15⟩, mq14⟩ := q14
      obtain ⟨hu13, gu13, xu13⟩ := mq14
      have fu13 : fk [61] [] u u13 := fk_tr f0 gu13 (by decide) (by decide)
      have riu13 : ri u13 := by rw [xu13]; exact ri_st hri (by first | lia | grind) (by first | lia | grind)
      have wu13_60_3 : u13.1 60 3 = u.1 60 3 := fk_at gu13 (by decide)
      have ex15 : x15 = (e_X7_becomes u x11 v).1 := ee_v Eq14.1
      have eu13 : u13 = (e_X7_becomes u x11 v).2 := Eq14.2
      refine g_goto (tgt := 33) dX7_feeds_29 (by decide) ?_
      exact g_iret (ty := .int) dX7_feeds_33 rfl rfl ⟨⟨⟨_, rfl, by first | trivial | lia | grind⟩, hu13, fu13, riu13⟩, ee_i (by subst eu13; subst ex15; subst ex11; subst ex9; subst ex4; exact (if_neg c5).trans ((if_neg c10).trans (rfl)))⟩
def e_X7_price (u : uk_Mem) (m : Int32) (v : Int32) : Int32 × uk_Mem := let x4 : Int32 := (e_X7_isStuff u m); if x4 = 0 then (((-1 : Int32), u)) else (let x9 : Int32 := (e_X7_in u v (0 : Int32) (9 : Int32)); if x9 = 0 then (((-1 : Int32), u)) else (let x14 : Int32 := (e_X7_isRaw u m); if x14 = 0 then (((-2 : Int32), u)) else (let x16 : Int32 := (24 : Int32) + m; let x20 : Int32 := (e_X7_becomes u x16 v).1; let u18 : uk_Mem := (e_X7_becomes u x16 v).2; (x20, u18))))
abbrev qe_X7_price (u : uk_Mem) (m : Int32) (v : Int32) (r : Option Value) (u' : uk_Mem) : Prop := (q_X7_price u m v r u') ∧ (r = some (.int (e_X7_price u m v).1) ∧ u' = (e_X7_price u m v).2)
set_option maxHeartbeats 4000000 in
set_option maxRecDepth 20000 in
theorem x_X7_price {G : uk_D} (hs : uk_Sep G) {u : uk_Mem} (hu : iv u) (hri : ri u) (m : Int32) (v : Int32) (d : Nat) : uk_Meth G (d + 2) mX7_price [.ref (uk_ad G 60), .int m, .int v] u (qe_X7_price u m v) := by
  refine uk_Meth.of hs (by decide) (Nat.le_of_ble_eq_true rfl) (fun X => ?_)
  have f0 : fk [61] [] u u := fk_rf
  refine g_aload_n dX7_price_0 rfl ?_
  refine g_iload_n dX7_price_1 rfl ?_
  refine cl_X7_163 (c := 60) (As := [.int m]) rfl (x_X7_isStuff (G := G) hs hu  m  (d)) rfl (by omega) rfl rfl (Nat.le_of_ble_eq_true rfl) dX7_price_2 (fun r1 u2 q3 => ?_)
  obtain ⟨q3, Eq3⟩ := q3
  obtain ⟨⟨x4, rfl, tx4, nx4, zx4⟩, mq3⟩ := q3
  rw [mq3]
  have ex4 : x4 = (e_X7_isStuff u m) := ee_v Eq3
  refine g_if_eq (tgt := 20) dX7_price_5 (by decide) (fun c5 => ?_) (fun c5 => ?_)
  · have zc5 := zx4 c5
    refine g_iconst (v := (-1)) dX7_price_20 (by decide) ?_
    exact g_iret (ty := .int) dX7_price_21 rfl rfl ⟨⟨⟨_, rfl, by first | trivial | lia | grind⟩, hu, f0, hri⟩, ee_i (by subst ex4; exact (if_pos c5).trans (rfl))⟩
  · have zc5 := nx4 c5
    refine g_iload_n dX7_price_8 rfl ?_
    refine g_i2l dX7_price_9 ?_
    refine g_lconst (v := 0) dX7_price_10 (by decide) ?_
    refine g_ldc2 (v := 9) k_X7_178 dX7_price_11 ?_
    refine cl_X7_84 (As := [.long v.toInt64, .long 0, .long 9]) rfl (x_X7_in (G := G) hs hu  v 0 9  (d + 1)) rfl (by omega) rfl (Nat.le_of_ble_eq_true rfl) dX7_price_14 (fun r6 u7 q8 => ?_)
    obtain ⟨q8, Eq8⟩ := q8
    obtain ⟨⟨x9, rfl, tx9, nx9, zx9⟩, mq8⟩ := q8
    rw [mq8]
    have ex9 : x9 = (e_X7_in u v (0 : Int32) (9 : Int32)) := ee_v Eq8
    refine g_if_ne (tgt := 22) dX7_price_17 (by decide) (fun c10 => ?_) (fun c10 => ?_)
    · have zc10 := nx9 c10
      refine g_aload_n dX7_price_22 rfl ?_
      refine g_iload_n dX7_price_23 rfl ?_
      refine cl_X7_166 (c := 60) (As := [.int m]) rfl (x_X7_isRaw (G := G) hs hu  m (by first | trivial | decide | lia | grind) (by first | trivial | decide | lia | grind) (d + 1)) rfl (by omega) rfl rfl (Nat.le_of_ble_eq_true rfl) dX7_price_24 (fun r11 u12 q13 => ?_)
      obtain ⟨q13, Eq13⟩ := q13
      obtain ⟨⟨x14, rfl, tx14, nx14, zx14⟩, mq13⟩ := q13
      rw [mq13]
      have ex14 : x14 = (e_X7_isRaw u m) := ee_v Eq13
      refine g_if_eq (tgt := 42) dX7_price_27 (by decide) (fun c15 => ?_) (fun c15 => ?_)
      · have zc15 := zx14 c15
        refine g_bipush (v := (-2)) dX7_price_42 (by decide) ?_
        exact g_iret (ty := .int) dX7_price_44 rfl rfl ⟨⟨⟨_, rfl, by first | trivial | lia | grind⟩, hu, f0, hri⟩, ee_i (by subst ex14; subst ex9; subst ex4; exact (if_neg c5).trans ((if_neg c10).trans ((if_pos c15).trans (rfl))))⟩
      · have zc15 := nx14 c15
        refine g_aload_n dX7_price_30 rfl ?_
        refine g_bipush (v := 24) dX7_price_31 (by decide) ?_
        refine g_iload_n dX7_price_33 rfl ?_
        refine g_iadd dX7_price_34 ?_
        refine g_topi (fun x16 ex16 => ?_)
        refine g_iload_n dX7_price_35 rfl ?_
        refine cl_X7_175 (c := 60) (As := [.int x16, .int v]) rfl (x_X7_becomes (G := G) hs hu  x16 v (by first | trivial | decide | lia | grind) (by first | trivial | decide | lia | grind) (by first | trivial | decide | lia | grind) (by first | trivial | decide | lia | grind) (d + 1)) rfl (by omega) rfl rfl (Nat.le_of_ble_eq_true rfl) dX7_price_36 (fun r17 u18 q19 => ?_)
        obtain ⟨q19, Eq19⟩ := q19
        obtain ⟨⟨x20, rfl, tx20⟩, mq19⟩ := q19
        obtain ⟨hu18, gu18, xu18⟩ := mq19
        have fu18 : fk [61] [] u u18 := fk_tr f0 gu18 (by decide) (by decide)
        have riu18 : ri u18 := by rw [xu18]; exact ri_st hri (by first | lia | grind) (by first | lia | grind)
        have wu18_60_3 : u18.1 60 3 = u.1 60 3 := fk_at gu18 (by decide)
        have ex20 : x20 = (e_X7_becomes u x16 v).1 := ee_v Eq19.1
        have eu18 : u18 = (e_X7_becomes u x16 v).2 := Eq19.2
        refine g_goto (tgt := 44) dX7_price_39 (by decide) ?_
        exact g_iret (ty := .int) dX7_price_44 rfl rfl ⟨⟨⟨_, rfl, by first | trivial | lia | grind⟩, hu18, fu18, riu18⟩, ee_i (by subst eu18; subst ex20; subst ex16; subst ex14; subst ex9; subst ex4; exact (if_neg c5).trans ((if_neg c10).trans ((if_neg c15).trans (rfl))))⟩
    · have zc10 := zx9 c10
      refine g_iconst (v := (-1)) dX7_price_20 (by decide) ?_
      exact g_iret (ty := .int) dX7_price_21 rfl rfl ⟨⟨⟨_, rfl, by first | trivial | lia | grind⟩, hu, f0, hri⟩, ee_i (by subst ex9; subst ex4; exact (if_neg c5).trans ((if_pos c10).trans (rfl)))⟩
def e_X7_kind (u : uk_Mem) (m : Int32) (k : Int32) : Int32 × uk_Mem := let x4 : Int32 := (e_X7_isStuff u m); if x4 = 0 then (((-1 : Int32), u)) else (let x9 : Int32 := (e_X7_in u k (0 : Int32) (3 : Int32)); if x9 = 0 then (((-1 : Int32), u)) else (let x14 : Int32 := (e_X7_isRaw u m); if x14 = 0 then (let x16 : Int32 := (32 : Int32) + m; let x20 : Int32 := (e_X7_becomes u x16 k).1; let u18 : uk_Mem := (e_X7_becomes u x16 k).2; (x20, u18)) else (((-2 : Int32), u))))
abbrev qe_X7_kind (u : uk_Mem) (m : Int32) (k : Int32) (r : Option Value) (u' : uk_Mem) : Prop := (q_X7_kind u m k r u') ∧ (r = some (.int (e_X7_kind u m k).1) ∧ u' = (e_X7_kind u m k).2)
set_option maxHeartbeats 4000000 in
set_option maxRecDepth 20000 in
theorem x_X7_kind {G : uk_D} (hs : uk_Sep G) {u : uk_Mem} (hu : iv u) (hri : ri u) (m : Int32) (k : Int32) (d : Nat) : uk_Meth G (d + 2) mX7_kind [.ref (uk_ad G 60), .int m, .int k] u (qe_X7_kind u m k) := by
  refine uk_Meth.of hs (by decide) (Nat.le_of_ble_eq_true rfl) (fun X => ?_)
  have f0 : fk [61] [] u u := fk_rf
  refine g_aload_n dX7_kind_0 rfl ?_
  refine g_iload_n dX7_kind_1 rfl ?_
  refine cl_X7_163 (c := 60) (As := [.int m]) rfl (x_X7_isStuff (G := G) hs hu  m  (d)) rfl (by omega) rfl rfl (Nat.le_of_ble_eq_true rfl) dX7_kind_2 (fun r1 u2 q3 => ?_)
  obtain ⟨q3, Eq3⟩ := q3
  obtain ⟨⟨x4, rfl, tx4, nx4, zx4⟩, mq3⟩ := q3
  rw [mq3]
  have ex4 : x4 = (e_X7_isStuff u m) := ee_v Eq3
  refine g_if_eq (tgt := 20) dX7_kind_5 (by decide) (fun c5 => ?_) (fun c5 => ?_)
  · have zc5 := zx4 c5
    refine g_iconst (v := (-1)) dX7_kind_20 (by decide) ?_
    exact g_iret (ty := .int) dX7_kind_21 rfl rfl ⟨⟨⟨_, rfl, by first | trivial | lia | grind⟩, hu, f0, hri⟩, ee_i (by subst ex4; exact (if_pos c5).trans (rfl))⟩
  · have zc5 := nx4 c5
    refine g_iload_n dX7_kind_8 rfl ?_
    refine g_i2l dX7_kind_9 ?_
    refine g_lconst (v := 0) dX7_kind_10 (by decide) ?_
    refine g_ldc2 (v := 3) k_X7_180 dX7_kind_11 ?_
    refine cl_X7_84 (As := [.long k.toInt64, .long 0, .long 3]) rfl (x_X7_in (G := G) hs hu  k 0 3  (d + 1)) rfl (by omega) rfl (Nat.le_of_ble_eq_true rfl) dX7_kind_14 (fun r6 u7 q8 => ?_)
    obtain ⟨q8, Eq8⟩ := q8
    obtain ⟨⟨x9, rfl, tx9, nx9, zx9⟩, mq8⟩ := q8
    rw [mq8]
    have ex9 : x9 = (e_X7_in u k (0 : Int32) (3 : Int32)) := ee_v Eq8
    refine g_if_ne (tgt := 22) dX7_kind_17 (by decide) (fun c10 => ?_) (fun c10 => ?_)
    · have zc10 := nx9 c10
      refine g_aload_n dX7_kind_22 rfl ?_
      refine g_iload_n dX7_kind_23 rfl ?_
      refine cl_X7_166 (c := 60) (As := [.int m]) rfl (x_X7_isRaw (G := G) hs hu  m (by first | trivial | decide | lia | grind) (by first | trivial | decide | lia | grind) (d + 1)) rfl (by omega) rfl rfl (Nat.le_of_ble_eq_true rfl) dX7_kind_24 (fun r11 u12 q13 => ?_)
      obtain ⟨q13, Eq13⟩ := q13
      obtain ⟨⟨x14, rfl, tx14, nx14, zx14⟩, mq13⟩ := q13
      rw [mq13]
      have ex14 : x14 = (e_X7_isRaw u m) := ee_v Eq13
      refine g_if_eq (tgt := 35) dX7_kind_27 (by decide) (fun c15 => ?_) (fun c15 => ?_)
      · have zc15 := zx14 c15
        refine g_aload_n dX7_kind_35 rfl ?_
        refine g_bipush (v := 32) dX7_kind_36 (by decide) ?_
        refine g_iload_n dX7_kind_38 rfl ?_
        refine g_iadd dX7_kind_39 ?_
        refine g_topi (fun x16 ex16 => ?_)
        refine g_iload_n dX7_kind_40 rfl ?_
        refine cl_X7_175 (c := 60) (As := [.int x16, .int k]) rfl (x_X7_becomes (G := G) hs hu  x16 k (by first | trivial | decide | lia | grind) (by first | trivial | decide | lia | grind) (by first | trivial | decide | lia | grind) (by first | trivial | decide | lia | grind) (d + 1)) rfl (by omega) rfl rfl (Nat.le_of_ble_eq_true rfl) dX7_kind_41 (fun r17 u18 q19 => ?_)
        obtain ⟨q19, Eq19⟩ := q19
        obtain ⟨⟨x20, rfl, tx20⟩, mq19⟩ := q19
        obtain ⟨hu18, gu18, xu18⟩ := mq19
        have fu18 : fk [61] [] u u18 := fk_tr f0 gu18 (by decide) (by decide)
        have riu18 : ri u18 := by rw [xu18]; exact ri_kind hri (m := m) (by grind) (by grind) (by grind) (by grind) (by assumption)
        have wu18_60_3 : u18.1 60 3 = u.1 60 3 := fk_at gu18 (by decide)
        have ex20 : x20 = (e_X7_becomes u x16 k).1 := ee_v Eq19.1
        have eu18 : u18 = (e_X7_becomes u x16 k).2 := Eq19.2
        exact g_iret (ty := .int) dX7_kind_44 rfl rfl ⟨⟨⟨_, rfl, by first | trivial | lia | grind⟩, hu18, fu18, riu18⟩, ee_i (by subst eu18; subst ex20; subst ex16; subst ex14; subst ex9; subst ex4; exact (if_neg c5).trans ((if_neg c10).trans ((if_pos c15).trans (rfl))))⟩
      · have zc15 := nx14 c15
        refine g_bipush (v := (-2)) dX7_kind_30 (by decide) ?_
        refine g_goto (tgt := 44) dX7_kind_32 (by decide) ?_
        exact g_iret (ty := .int) dX7_kind_44 rfl rfl ⟨⟨⟨_, rfl, by first | trivial | lia | grind⟩, hu, f0, hri⟩, ee_i (by subst ex14; subst ex9; subst ex4; exact (if_neg c5).trans ((if_neg c10).trans ((if_neg c15).trans (rfl))))⟩
    · have zc10 := zx9 c10
      refine g_iconst (v := (-1)) dX7_kind_20 (by decide) ?_
      exact g_iret (ty := .int) dX7_kind_21 rfl rfl ⟨⟨⟨_, rfl, by first | trivial | lia | grind⟩, hu, f0, hri⟩, ee_i (by subst ex9; subst ex4; exact (if_neg c5).trans ((if_pos c10).trans (rfl)))⟩
def e_X7_eat (u : uk_Mem) (m : Int32) : Int32 × uk_Mem := let x4 : Int32 := (e_X7_isStuff u m); if x4 = 0 then (((-1 : Int32), u)) else (let x6 : Int32 := (0 : Int32) + m; let x8 : Int32 := u.1 61 x6.toNatClampNeg; if x8 = 0 then (((-2 : Int32), u)) else (let x10 : Int32 := (0 : Int32) + m; let x12 : Int32 := u.1 61 x10.toNatClampNeg; let x13 : Int32 := x12 - (1 : Int32); let u16 : uk_Mem := uk_up u 61 x10.toNatClampNeg x13; let x18 : Int32 := u16.1 61 (40 : Int32).toNatClampNeg; let x19 : Int32 := (16 : Int32) + m; let x21 : Int32 := u16.1 61 x19.toNatClampNeg; let x22 : Int32 := x18 + x21; let u25 : uk_Mem := uk_up u16 61 (40 : Int32).toNatClampNeg x22; let x27 : Int32 := u25.1 61 (40 : Int32).toNatClampNeg; (x27, u25)))
abbrev qe_X7_eat (u : uk_Mem) (m : Int32) (r : Option Value) (u' : uk_Mem) : Prop := (q_X7_eat u m r u') ∧ (r = some (.int (e_X7_eat u m).1) ∧ u' = (e_X7_eat u m).2)
set_option maxHeartbeats 4000000 in
set_option maxRecDepth 20000 in
theorem x_X7_eat {G : uk_D} (hs : uk_Sep G) {u : uk_Mem} (hu : iv u) (hri : ri u) (m : Int32) (d : Nat) : uk_Meth G (d + 2) mX7_eat [.ref (uk_ad G 60), .int m] u (qe_X7_eat u m) := by
  refine uk_Meth.of hs (by decide) (Nat.le_of_ble_eq_true rfl) (fun X => ?_)
  have f0 : fk [61] [] u u := fk_rf
  refine g_aload_n dX7_eat_0 rfl ?_
  refine g_iload_n dX7_eat_1 rfl ?_
  refine cl_X7_163 (c := 60) (As := [.int m]) rfl (x_X7_isStuff (G := G) hs hu  m  (d)) rfl (by omega) rfl rfl (Nat.le_of_ble_eq_true rfl) dX7_eat_2 (fun r1 u2 q3 => ?_)
  obtain ⟨q3, Eq3⟩ := q3
  obtain ⟨⟨x4, rfl, tx4, nx4, zx4⟩, mq3⟩ := q3
  rw [mq3]
  have ex4 : x4 = (e_X7_isStuff u m) := ee_v Eq3
  refine g_if_ne (tgt := 10) dX7_eat_5 (by decide) (fun c5 => ?_) (fun c5 => ?_)
  · have zc5 := nx4 c5
    refine g_aload_n dX7_eat_10 rfl ?_
    refine f_X7_7 rfl rfl dX7_eat_11 ?_
    refine g_iconst (v := 0) dX7_eat_14 (by decide) ?_
    refine g_iload_n dX7_eat_15 rfl ?_
    refine g_iadd dX7_eat_16 ?_
    refine g_topi (fun x6 ex6 => ?_)
    have ox6 : x6 = m := by rw [ex6, Int32.zero_add]
    have v7 : vp_in x6 153 := uk_vin 153 rfl (by first | decide | lia | grind) (by first | decide | lia | grind)
    refine g_iald rfl rfl v7 dX7_eat_17 ?_
    refine g_topi (fun x8 ex8 => ?_)
    have bx8 := uk_cl v7
    have rx8 : 0 ≤ x8 ∧ x8 ≤ 40 := by rw [ex8]; exact sg_0 hu (by unfold uk_is51; decide) (by first | lia | grind) (by first | lia | grind)
    refine g_if_ne (tgt := 24) dX7_eat_18 (by decide) (fun c9 => ?_) (fun c9 => ?_)
    · refine g_aload_n dX7_eat_24 rfl ?_
      refine f_X7_7 rfl rfl dX7_eat_25 ?_
      refine g_iconst (v := 0) dX7_eat_28 (by decide) ?_
      refine g_iload_n dX7_eat_29 rfl ?_
      refine g_iadd dX7_eat_30 ?_
      refine g_topi (fun x10 ex10 => ?_)
      have ox10 : x10 = m := by rw [ex10, Int32.zero_add]
      refine g_dup2 dX7_eat_31 rfl rfl ?_
      have v11 : vp_in x10 153 := uk_vin 153 rfl (by first | decide | lia | grind) (by first | decide | lia | grind)
      refine g_iald rfl rfl v11 dX7_eat_32 ?_
      refine g_topi (fun x12 ex12 => ?_)
      have bx12 := uk_cl v11
      have rx12 : 0 ≤ x12 ∧ x12 ≤ 40 := by rw [ex12]; exact sg_0 hu (by unfold uk_is51; decide) (by first | lia | grind) (by first | lia | grind)
      refine g_iconst (v := 1) dX7_eat_33 (by decide) ?_
      refine g_isub dX7_eat_34 ?_
      refine g_topi (fun x13 ex13 => ?_)
      have v14 : vp_in x10 153 := uk_vin 153 rfl (by first | decide | lia | grind) (by first | decide | lia | grind)
      have b15 := uk_cl v14
      refine g_iast rfl rfl v14 dX7_eat_35 ?_
      refine g_mem (fun u16 eu16 => ?_)
      have hu16 : iv u16 := by rw [eu16]; exact iv_st hu (by unfold uk_is51; decide) (by first | decide | lia | grind) (by first | decide | lia | grind) (fun q => by first | decide | lia | grind) (fun q => by first | decide | lia | grind) (fun q => by first | decide | lia | grind)
      have fu16 : fk [61] [] u u16 := by rw [eu16]; exact fk_up f0 (by decide) (fun q => absurd q (by decide))
      have riu16 : ri u16 := by rw [eu16]; exact ri_st hri (by first | decide | lia | grind) (by first | decide | lia | grind)
      refine g_aload_n dX7_eat_36 rfl ?_
      refine f_X7_7 rfl rfl dX7_eat_37 ?_
      refine g_bipush (v := 40) dX7_eat_40 (by decide) ?_
      refine g_dup2 dX7_eat_42 rfl rfl ?_
      have v17 : vp_in 40 153 := uk_vin 153 rfl (by first | decide | lia | grind) (by first | decide | lia | grind)
      refine g_iald rfl rfl v17 dX7_eat_43 ?_
      refine g_topi (fun x18 ex18 => ?_)
      have bx18 := uk_cl v17
      refine g_aload_n dX7_eat_44 rfl ?_
      refine f_X7_7 rfl rfl dX7_eat_45 ?_
      refine g_bipush (v := 16) dX7_eat_48 (by decide) ?_
      refine g_iload_n dX7_eat_50 rfl ?_
      refine g_iadd dX7_eat_51 ?_
      refine g_topi (fun x19 ex19 => ?_)
      have v20 : vp_in x19 153 := uk_vin 153 rfl (by first | decide | lia | grind) (by first | decide | lia | grind)
      refine g_iald rfl rfl v20 dX7_eat_52 ?_
      refine g_topi (fun x21 ex21 => ?_)
      have bx21 := uk_cl v20
      refine g_iadd dX7_eat_53 ?_
      refine g_topi (fun x22 ex22 => ?_)
      have v23 : vp_in 40 153 := uk_vin 153 rfl (by first | decide | lia | grind) (by first | decide | lia | grind)
      have b24 := uk_cl v23
      refine g_iast rfl rfl v23 dX7_eat_54 ?_
      refine g_mem (fun u25 eu25 => ?_)
      have hu25 : iv u25 := by rw [eu25]; exact iv_st hu16 (by unfold uk_is51; decide) (by first | decide | lia | grind) (by first | decide | lia | grind) (fun q => by first | decide | lia | grind) (fun q => by first | decide | lia | grind) (fun q => by first | decide | lia | grind)
      have fu25 : fk [61] [] u u25 := by rw [eu25]; exact fk_up fu16 (by decide) (fun q => absurd q (by decide))
      have riu25 : ri u25 := by rw [eu25]; exact ri_st riu16 (by first | decide | lia | grind) (by first | decide | lia | grind)
      refine g_aload_n dX7_eat_55 rfl ?_
      refine f_X7_7 rfl rfl dX7_eat_56 ?_
      refine g_bipush (v := 40) dX7_eat_59 (by decide) ?_
      have v26 : vp_in 40 153 := uk_vin 153 rfl (by first | decide | lia | grind) (by first | decide | lia | grind)
      refine g_iald rfl rfl v26 dX7_eat_61 ?_
      refine g_topi (fun x27 ex27 => ?_)
      have bx27 := uk_cl v26
      exact g_iret (ty := .int) dX7_eat_62 rfl rfl ⟨⟨⟨_, rfl, by first | trivial | lia | grind⟩, hu25, fu25, riu25⟩, ee_i (by subst ex27; subst eu25; subst ex22; subst ex21; subst ex19; subst ex18; subst eu16; subst ex13; subst ex12; subst ex10; subst ex8; subst ex6; subst ex4; exact (if_neg c5).trans ((if_neg c9).trans (rfl)))⟩
    · refine g_bipush (v := (-2)) dX7_eat_21 (by decide) ?_
      exact g_iret (ty := .int) dX7_eat_23 rfl rfl ⟨⟨⟨_, rfl, by first | trivial | lia | grind⟩, hu, f0, hri⟩, ee_i (by subst ex8; subst ex6; subst ex4; exact (if_neg c5).trans ((if_pos c9).trans (rfl)))⟩
  · have zc5 := zx4 c5
    refine g_iconst (v := (-1)) dX7_eat_8 (by decide) ?_
    exact g_iret (ty := .int) dX7_eat_9 rfl rfl ⟨⟨⟨_, rfl, by first | trivial | lia | grind⟩, hu, f0, hri⟩, ee_i (by subst ex4; exact (if_pos c5).trans (rfl))⟩
