def l_X1_takeFrom_2 : Nat → Int32 → uk_Mem → uk_Mem
  | 0, _, u3 => u3
  | K9 + 1, i2, u3 => let x4 : Int32 := u3.1 41 1; if x4 ≤ i2 then (u3) else (let x8 : Int32 := u3.1 42 i2.toNatClampNeg; let x10 : Int32 := u3.1 58 x8.toNatClampNeg; let x11 : Int32 := x10 - (1 : Int32); let u14 : uk_Mem := uk_up u3 58 x8.toNatClampNeg x11; l_X1_takeFrom_2  K9 (i2 + 1) u14)
def e_X1_takeFrom (u : uk_Mem) : uk_Mem := l_X1_takeFrom_2  ee_K (0 : Int32) u
abbrev qe_X1_takeFrom (u : uk_Mem)  (r : Option Value) (u' : uk_Mem) : Prop := (q_X1_takeFrom u r u') ∧ (u' = e_X1_takeFrom u)
set_option maxHeartbeats 4000000 in
set_option maxRecDepth 20000 in
theorem x_X1_takeFrom {G : uk_D} (hs : uk_Sep G) {u : uk_Mem} (hu : iv u)  (d : Nat) : uk_Meth G d mX1_takeFrom [.ref (uk_ad G 41), .ref (uk_ad G 58)] u (qe_X1_takeFrom u) := by
  refine uk_Meth.of hs (by decide) (Nat.le_of_ble_eq_true rfl) (fun X => ?_)
  have f0 : fr 58 59 u u := fr_rf
  refine g_iconst (v := 0) dX1_takeFrom_0 (by decide) ?_
  refine g_istore_n dX1_takeFrom_1 (by decide) ?_
  refine g_pick (lv' := [(0, .ref (uk_ad G 41)), (1, .ref (uk_ad G 58)), (2, .int 0)]) [0, 1, 2] rfl ?_
  have L2_0 : ∀ i2 : Int32, 0 ≤ i2 → i2 ≤ 128 → ∀ (u3 : uk_Mem), iv u3 → fr 58 59 u u3 → (∃ ki2 : Nat, ee_F 128 i2 ki2 ∧ e_X1_takeFrom u = l_X1_takeFrom_2  ki2 i2 u3) → uk_G G X mX1_takeFrom d (qe_X1_takeFrom u) 2 [(0, .ref (uk_ad G 41)), (1, .ref (uk_ad G 58)), (2, .int i2)] [] u3 := by
    refine uk_upl 128 ?_
    intro i2 ai2 bi2 ihi2  u3 hu3 fu3 jEi2
    obtain ⟨ki2, fki2, hki2⟩ := jEi2
    obtain ⟨ki2, rfl⟩ := ee_Fp (by first | assumption | lia | grind) fki2
    refine g_iload_n dX1_takeFrom_2 rfl ?_
    refine g_aload_n dX1_takeFrom_3 rfl ?_
    refine f_X1_15 rfl rfl dX1_takeFrom_4 ?_
    refine g_topi (fun x4 ex4 => ?_)
    have rx4 : 0 ≤ x4 ∧ x4 ≤ 128 := by rw [ex4]; exact iv_at hu3 _ _ rfl
    have s5 : u3.1 41 1 = x4 := ex4.symm
    refine g_icmp_ge (tgt := 28) dX1_takeFrom_7 (by decide) (fun c6 => ?_) (fun c6 => ?_)
    · exact g_vret dX1_takeFrom_28 rfl ⟨⟨rfl, hu3, fu3⟩, (by subst ex4; exact hki2.trans ((if_pos c6).trans (rfl)) : e_X1_takeFrom u = u3).symm⟩
    · refine g_aload_n dX1_takeFrom_10 rfl ?_
      refine g_aload_n dX1_takeFrom_11 rfl ?_
      refine f_X1_9 rfl rfl dX1_takeFrom_12 ?_
      refine g_iload_n dX1_takeFrom_15 rfl ?_
      have v7 : vp_in i2 128 := uk_vin 128 rfl (by first | decide | lia | grind) (by first | decide | lia | grind)
      refine g_iald rfl rfl v7 dX1_takeFrom_16 ?_
      refine g_topi (fun x8 ex8 => ?_)
      have bx8 := uk_cl v7
      have rx8 : 0 ≤ x8 ∧ x8 ≤ 7 := by rw [ex8]; exact iv_at hu3 _ _ (uk_pick1 _ (by omega))
      refine g_dup2 dX1_takeFrom_17 rfl rfl ?_
      have v9 : vp_in x8 8 := uk_vin 8 rfl (by first | decide | lia | grind) (by first | decide | lia | grind)
      refine g_iald rfl rfl v9 dX1_takeFrom_18 ?_
      refine g_topi (fun x10 ex10 => ?_)
      refine g_iconst (v := 1) dX1_takeFrom_19 (by decide) ?_
      refine g_isub dX1_takeFrom_20 ?_
      refine g_topi (fun x11 ex11 => ?_)
      have v12 : vp_in x8 8 := uk_vin 8 rfl (by first | decide | lia | grind) (by first | decide | lia | grind)
      have b13 := uk_cl v12
      refine g_iast rfl rfl v12 dX1_takeFrom_21 ?_
      refine g_mem (fun u14 eu14 => ?_)
      have hu14 : iv u14 := by rw [eu14]; exact iv_upF hu3 (uk_pick1 _ (by omega))
      have fu14 : fr 58 59 u u14 := by rw [eu14]; exact fr_up fu3 (by omega) (by omega)
      refine g_iinc (v := i2 + 1) dX1_takeFrom_22 rfl rfl (by decide) ?_
      refine g_pick (lv' := [(0, .ref (uk_ad G 41)), (1, .ref (uk_ad G 58)), (2, .int (i2 + 1))]) [0, 1, 2] rfl ?_
      refine g_goto (tgt := 2) dX1_takeFrom_25 (by decide) ?_
      refine g_pick (lv' := [(0, .ref (uk_ad G 41)), (1, .ref (uk_ad G 58)), (2, .int (i2 + 1))]) [0, 1, 2] rfl ?_
      exact ihi2 (by first | lia | grind)  u14 hu14 fu14  ⟨ki2, ee_Fs fki2 (by first | assumption | lia | grind), by subst eu14; subst ex11; subst ex10; subst ex8; subst ex4; exact hki2.trans ((if_neg c6).trans (rfl))⟩
  refine g_pick (lv' := [(0, .ref (uk_ad G 41)), (1, .ref (uk_ad G 58)), (2, .int 0)]) [0, 1, 2] rfl ?_
  exact L2_0 0 (by first | decide | lia | grind) (by first | decide | lia | grind)  u hu f0  ⟨ee_K, ee_F0 _ _, by exact rfl⟩
def l_X6_fitTogether_110 (u24 : uk_Mem) : Nat → Int32 → Int32 × uk_Mem
  | 0, _ => (0, u24)
  | K9 + 1, i28 => if (8 : Int32) ≤ i28 then (((1 : Int32), u24)) else (let x31 : Int32 := u24.1 58 i28.toNatClampNeg; if x31 = 0 then (l_X6_fitTogether_110 u24 K9 (i28 + 1)) else (((0 : Int32), u24)))
def l_X6_fitTogether_23 (a : Int32) (b : Int32) : Nat → Int32 → uk_Mem → Int32 × uk_Mem
  | 0, _, u7 => (0, u7)
  | K9 + 1, i6, u7 => let x8 : Int32 := u7.1 13 9; if x8 ≤ i6 then (let u12 : uk_Mem := e_X1_grind u7 a (127 : Int32); let u16 : uk_Mem := e_X1_takeFrom u12; let u20 : uk_Mem := e_X1_grind u16 b (127 : Int32); let u24 : uk_Mem := e_X1_takeFrom u20; l_X6_fitTogether_110 u24 ee_K (0 : Int32)) else (let x34 : Int32 := u7.1 21 i6.toNatClampNeg; let x36 : Int32 := u7.1 58 x34.toNatClampNeg; let x37 : Int32 := x36 + (1 : Int32); let u40 : uk_Mem := uk_up u7 58 x34.toNatClampNeg x37; l_X6_fitTogether_23 a b K9 (i6 + 1) u40)
def l_X6_fitTogether_2 (a : Int32) (b : Int32) : Nat → Int32 → uk_Mem → Int32 × uk_Mem
  | 0, _, u3 => (0, u3)
  | K9 + 1, i2, u3 => if (8 : Int32) ≤ i2 then (l_X6_fitTogether_23 a b ee_K (0 : Int32) u3) else (let u43 : uk_Mem := uk_up u3 58 i2.toNatClampNeg (0 : Int32); l_X6_fitTogether_2 a b K9 (i2 + 1) u43)
def e_X6_fitTogether (u : uk_Mem) (a : Int32) (b : Int32) : Int32 × uk_Mem := l_X6_fitTogether_2 a b ee_K (0 : Int32) u
abbrev qe_X6_fitTogether (u : uk_Mem) (a : Int32) (b : Int32) (r : Option Value) (u' : uk_Mem) : Prop := (q_X6_fitTogether u a b r u') ∧ (r = some (.int (e_X6_fitTogether u a b).1) ∧ u' = (e_X6_fitTogether u a b).2)
set_option maxHeartbeats 4000000 in
set_option maxRecDepth 20000 in
theorem x_X6_fitTogether {G : uk_D} (hs : uk_Sep G) {u : uk_Mem} (hu : iv u) (a : Int32) (b : Int32) (p0 : 0 ≤ a) (p1 : a ≤ 7) (p2 : 0 ≤ b) (p3 : b ≤ 7) (d : Nat) : uk_Meth G (d + 3) mX6_fitTogether [.ref (uk_ad G 0), .int a, .int b] u (qe_X6_fitTogether u a b) := by
  refine uk_Meth.of hs (by decide) (Nat.le_of_ble_eq_true rfl) (fun X => ?_)
  have f0 : fr 41 59 u u := fr_rf
  refine g_iconst (v := 0) dX6_fitTogether_0 (by decide) ?_
  refine g_istore_n dX6_fitTogether_1 (by decide) ?_
  refine g_pick (lv' := [(0, .ref (uk_ad G 0)), (1, .int a), (2, .int b), (3, .int 0)]) [0, 1, 2, 3] rfl ?_
  have L2_0 : ∀ i2 : Int32, 0 ≤ i2 → i2 ≤ 8 → ∀ (u3 : uk_Mem), iv u3 → fr 41 59 u u3 → (∃ ki2 : Nat, ee_F 8 i2 ki2 ∧ e_X6_fitTogether u a b = l_X6_fitTogether_2 a b ki2 i2 u3) → uk_G G X mX6_fitTogether (d + 3) (qe_X6_fitTogether u a b) 2 [(0, .ref (uk_ad G 0)), (1, .int a), (2, .int b), (3, .int i2)] [] u3 := by
    refine uk_upl 8 ?_
    intro i2 ai2 bi2 ihi2  u3 hu3 fu3 jEi2
    obtain ⟨ki2, fki2, hki2⟩ := jEi2
    obtain ⟨ki2, rfl⟩ := ee_Fp (by first | assumption | lia | grind) fki2
    refine g_iload_n dX6_fitTogether_2 rfl ?_
    refine g_bipush (v := 8) dX6_fitTogether_3 (by decide) ?_
    refine g_icmp_ge (tgt := 21) dX6_fitTogether_5 (by decide) (fun c4 => ?_) (fun c4 => ?_)
    · refine g_iconst (v := 0) dX6_fitTogether_21 (by decide) ?_
      refine g_istore_n dX6_fitTogether_22 (by decide) ?_
      refine g_pick (lv' := [(0, .ref (uk_ad G 0)), (1, .int a), (2, .int b), (3, .int 0)]) [0, 1, 2, 3] rfl ?_
      have L23_4 : ∀ i6 : Int32, 0 ≤ i6 → i6 ≤ 8 → ∀ (u7 : uk_Mem), iv u7 → fr 41 59 u u7 → (∃ ki6 : Nat, ee_F 8 i6 ki6 ∧ e_X6_fitTogether u a b = l_X6_fitTogether_23 a b ki6 i6 u7) → uk_G G X mX6_fitTogether (d + 3) (qe_X6_fitTogether u a b) 23 [(0, .ref (uk_ad G 0)), (1, .int a), (2, .int b), (3, .int i6)] [] u7 := by
        refine uk_upl 8 ?_
        intro i6 ai6 bi6 ihi6  u7 hu7 fu7 jEi6
        obtain ⟨ki6, fki6, hki6⟩ := jEi6
        obtain ⟨ki6, rfl⟩ := ee_Fp (by first | assumption | lia | grind) fki6
        refine g_iload_n dX6_fitTogether_23 rfl ?_
        refine g_aload_n dX6_fitTogether_24 rfl ?_
        refine f_X6_10 rfl rfl dX6_fitTogether_25 ?_
        refine f_X6_223 rfl rfl dX6_fitTogether_28 ?_
        refine g_topi (fun x8 ex8 => ?_)
        have rx8 : 0 ≤ x8 ∧ x8 ≤ 8 := by rw [ex8]; exact iv_at hu7 _ _ rfl
        have s9 : u7.1 13 9 = x8 := ex8.symm
        refine g_icmp_ge (tgt := 58) dX6_fitTogether_31 (by decide) (fun c10 => ?_) (fun c10 => ?_)
        · refine g_aload_n dX6_fitTogether_58 rfl ?_
          refine f_X6_48 rfl rfl dX6_fitTogether_59 ?_
          refine g_aload_n dX6_fitTogether_62 rfl ?_
          refine f_X6_10 rfl rfl dX6_fitTogether_63 ?_
          refine g_iload_n dX6_fitTogether_66 rfl ?_
          refine g_bipush (v := 127) dX6_fitTogether_67 (by decide) ?_
          refine cl_X6_177 (c := 41) (As := [.ref (uk_ad G 13), .int a, .int 127]) rfl (x_X1_grind (G := G) hs hu7  a 127 (by first | trivial | decide | lia | grind) (by first | trivial | decide | lia | grind) (d)) rfl (by omega) rfl rfl (Nat.le_of_ble_eq_true rfl) dX6_fitTogether_69 (fun r11 u12 q13 => ?_)
          obtain ⟨q13, Eq13⟩ := q13
          obtain ⟨rfl, mq13⟩ := q13
          obtain ⟨hu12, gu12⟩ := mq13
          have fu12 : fr 41 59 u u12 := fr_tr fu7 gu12 (by omega) (by omega)
          have s14 : u12.1 13 9 = x8 := (fr_at gu12 (by omega)).trans s9
          have eu12 : u12 = e_X1_grind u7 a (127 : Int32) := Eq13
          refine g_aload_n dX6_fitTogether_72 rfl ?_
          refine f_X6_48 rfl rfl dX6_fitTogether_73 ?_
          refine g_aload_n dX6_fitTogether_76 rfl ?_
          refine f_X6_70 rfl rfl dX6_fitTogether_77 ?_
          refine cl_X6_290 (c := 41) (As := [.ref (uk_ad G 58)]) rfl (x_X1_takeFrom (G := G) hs hu12    (d + 2)) rfl (by omega) rfl rfl (Nat.le_of_ble_eq_true rfl) dX6_fitTogether_80 (fun r15 u16 q17 => ?_)
          obtain ⟨q17, Eq17⟩ := q17
          obtain ⟨rfl, mq17⟩ := q17
          obtain ⟨hu16, gu16⟩ := mq17
          have fu16 : fr 41 59 u u16 := fr_tr fu12 gu16 (by omega) (by omega)
          have s18 : u16.1 13 9 = x8 := (fr_at gu16 (by omega)).trans s14
          have eu16 : u16 = e_X1_takeFrom u12 := Eq17
          refine g_aload_n dX6_fitTogether_83 rfl ?_
          refine f_X6_48 rfl rfl dX6_fitTogether_84 ?_
          refine g_aload_n dX6_fitTogether_87 rfl ?_
          refine f_X6_10 rfl rfl dX6_fitTogether_88 ?_
          refine g_iload_n dX6_fitTogether_91 rfl ?_
          refine g_bipush (v := 127) dX6_fitTogether_92 (by decide) ?_
          refine cl_X6_177 (c := 41) (As := [.ref (uk_ad G 13), .int b, .int 127]) rfl (x_X1_grind (G := G) hs hu16  b 127 (by first | trivial | decide | lia | grind) (by first | trivial | decide | lia | grind) (d)) rfl (by omega) rfl rfl (Nat.le_of_ble_eq_true rfl) dX6_fitTogether_94 (fun r19 u20 q21 => ?_)
          obtain ⟨q21, Eq21⟩ := q21
          obtain ⟨rfl, mq21⟩ := q21
          obtain ⟨hu20, gu20⟩ := mq21
          have fu20 : fr 41 59 u u20 := fr_tr fu16 gu20 (by omega) (by omega)
          have s22 : u20.1 13 9 = x8 := (fr_at gu20 (by omega)).trans s18
          have eu20 : u20 = e_X1_grind u16 b (127 : Int32) := Eq21
          refine g_aload_n dX6_fitTogether_97 rfl ?_
          refine f_X6_48 rfl rfl dX6_fitTogether_98 ?_
          refine g_aload_n dX6_fitTogether_101 rfl ?_
          refine f_X6_70 rfl rfl dX6_fitTogether_102 ?_
          refine cl_X6_290 (c := 41) (As := [.ref (uk_ad G 58)]) rfl (x_X1_takeFrom (G := G) hs hu20    (d + 2)) rfl (by omega) rfl rfl (Nat.le_of_ble_eq_true rfl) dX6_fitTogether_105 (fun r23 u24 q25 => ?_)
          obtain ⟨q25, Eq25⟩ := q25
          obtain ⟨rfl, mq25⟩ := q25
          obtain ⟨hu24, gu24⟩ := mq25
          have fu24 : fr 41 59 u u24 := fr_tr fu20 gu24 (by omega) (by omega)
          have s26 : u24.1 13 9 = x8 := (fr_at gu24 (by omega)).trans s22
          have eu24 : u24 = e_X1_takeFrom u20 := Eq25
          refine g_iconst (v := 0) dX6_fitTogether_108 (by decide) ?_
          refine g_istore_n dX6_fitTogether_109 (by decide) ?_
          refine g_pick (lv' := [(0, .ref (uk_ad G 0)), (1, .int a), (2, .int b), (3, .int 0)]) [0, 1, 2, 3] rfl ?_
          have L110_26 : ∀ i28 : Int32, 0 ≤ i28 → i28 ≤ 8 → (∃ ki28 : Nat, ee_F 8 i28 ki28 ∧ e_X6_fitTogether u a b = l_X6_fitTogether_110 u24 ki28 i28) → uk_G G X mX6_fitTogether (d + 3) (qe_X6_fitTogether u a b) 110 [(0, .ref (uk_ad G 0)), (1, .int a), (2, .int b), (3, .int i28)] [] u24 := by
            refine uk_upl 8 ?_
            intro i28 ai28 bi28 ihi28  jEi28
            obtain ⟨ki28, fki28, hki28⟩ := jEi28
            obtain ⟨ki28, rfl⟩ := ee_Fp (by first | assumption | lia | grind) fki28
            refine g_iload_n dX6_fitTogether_110 rfl ?_
            refine g_bipush (v := 8) dX6_fitTogether_111 (by decide) ?_
            refine g_icmp_ge (tgt := 133) dX6_fitTogether_113 (by decide) (fun c29 => ?_) (fun c29 => ?_)
            · refine g_iconst (v := 1) dX6_fitTogether_133 (by decide) ?_
              exact g_iret (ty := .boolean) dX6_fitTogether_134 rfl rfl ⟨⟨⟨1, rfl, Or.inr rfl, fun _ => by first | trivial | lia | grind, fun q => absurd q (by decide)⟩, hu24, fu24⟩, ee_i (by exact hki28.trans ((if_pos c29).trans (rfl)))⟩
            · refine g_aload_n dX6_fitTogether_116 rfl ?_
              refine f_X6_70 rfl rfl dX6_fitTogether_117 ?_
              refine g_iload_n dX6_fitTogether_120 rfl ?_
              have v30 : vp_in i28 8 := uk_vin 8 rfl (by first | decide | lia | grind) (by first | decide | lia | grind)
              refine g_iald rfl rfl v30 dX6_fitTogether_121 ?_
              refine g_topi (fun x31 ex31 => ?_)
              refine g_if_eq (tgt := 127) dX6_fitTogether_122 (by decide) (fun c32 => ?_) (fun c32 => ?_)
              · refine g_iinc (v := i28 + 1) dX6_fitTogether_127 rfl rfl (by decide) ?_
                refine g_pick (lv' := [(0, .ref (uk_ad G 0)), (1, .int a), (2, .int b), (3, .int (i28 + 1))]) [0, 1, 2, 3] rfl ?_
                refine g_goto (tgt := 110) dX6_fitTogether_130 (by decide) ?_
                refine g_pick (lv' := [(0, .ref (uk_ad G 0)), (1, .int a), (2, .int b), (3, .int (i28 + 1))]) [0, 1, 2, 3] rfl ?_
                exact ihi28 (by first | lia | grind)   ⟨ki28, ee_Fs fki28 (by first | assumption | lia | grind), by subst ex31; exact hki28.trans ((if_neg c29).trans ((if_pos c32).trans (rfl)))⟩
              · refine g_iconst (v := 0) dX6_fitTogether_125 (by decide) ?_
                exact g_iret (ty := .boolean) dX6_fitTogether_126 rfl rfl ⟨⟨⟨0, rfl, Or.inl rfl, fun q => absurd rfl q, fun _ => by first | trivial | lia | grind⟩, hu24, fu24⟩, ee_i (by subst ex31; exact hki28.trans ((if_neg c29).trans ((if_neg c32).trans (rfl))))⟩
          refine g_pick (lv' := [(0, .ref (uk_ad G 0)), (1, .int a), (2, .int b), (3, .int 0)]) [0, 1, 2, 3] rfl ?_
          exact L110_26 0 (by first | decide | lia | grind) (by first | decide | lia | grind)   ⟨ee_K, ee_F0 _ _, by subst eu24; subst eu20; subst eu16; subst eu12; subst ex8; exact hki6.trans ((if_pos c10).trans (rfl))⟩
        · refine g_aload_n dX6_fitTogether_34 rfl ?_
          refine f_X6_70 rfl rfl dX6_fitTogether_35 ?_
          refine g_aload_n dX6_fitTogether_38 rfl ?_
          refine f_X6_10 rfl rfl dX6_fitTogether_39 ?_
          refine f_X6_226 rfl rfl dX6_fitTogether_42 ?_
          refine g_iload_n dX6_fitTogether_45 rfl ?_
          have v33 : vp_in i6 8 := uk_vin 8 rfl (by first | decide | lia | grind) (by first | decide | lia | grind)
          refine g_iald rfl rfl v33 dX6_fitTogether_46 ?_
          refine g_topi (fun x34 ex34 => ?_)
          have bx34 := uk_cl v33
          have rx34 : 0 ≤ x34 ∧ x34 ≤ 7 := by rw [ex34]; exact iv_at hu7 _ _ (uk_pick1 _ (by omega))
          refine g_dup2 dX6_fitTogether_47 rfl rfl ?_
          have v35 : vp_in x34 8 := uk_vin 8 rfl (by first | decide | lia | grind) (by first | decide | lia | grind)
          refine g_iald rfl rfl v35 dX6_fitTogether_48 ?_
          refine g_topi (fun x36 ex36 => ?_)
          refine g_iconst (v := 1) dX6_fitTogether_49 (by decide) ?_
          refine g_iadd dX6_fitTogether_50 ?_
          refine g_topi (fun x37 ex37 => ?_)
          have v38 : vp_in x34 8 := uk_vin 8 rfl (by first | decide | lia | grind) (by first | decide | lia | grind)
          have b39 := uk_cl v38
          refine g_iast rfl rfl v38 dX6_fitTogether_51 ?_
          refine g_mem (fun u40 eu40 => ?_)
          have hu40 : iv u40 := by rw [eu40]; exact iv_upF hu7 (uk_pick1 _ (by omega))
          have fu40 : fr 41 59 u u40 := by rw [eu40]; exact fr_up fu7 (by omega) (by omega)
          refine g_iinc (v := i6 + 1) dX6_fitTogether_52 rfl rfl (by decide) ?_
          refine g_pick (lv' := [(0, .ref (uk_ad G 0)), (1, .int a), (2, .int b), (3, .int (i6 + 1))]) [0, 1, 2, 3] rfl ?_
          refine g_goto (tgt := 23) dX6_fitTogether_55 (by decide) ?_
          refine g_pick (lv' := [(0, .ref (uk_ad G 0)), (1, .int a), (2, .int b), (3, .int (i6 + 1))]) [0, 1, 2, 3] rfl ?_
          exact ihi6 (by first | lia | grind)  u40 hu40 fu40  ⟨ki6, ee_Fs fki6 (by first | assumption | lia | grind), by subst eu40; subst ex37; subst ex36; subst ex34; subst ex8; exact hki6.trans ((if_neg c10).trans (rfl))⟩
      refine g_pick (lv' := [(0, .ref (uk_ad G 0)), (1, .int a), (2, .int b), (3, .int 0)]) [0, 1, 2, 3] rfl ?_
      exact L23_4 0 (by first | decide | lia | grind) (by first | decide | lia | grind)  u3 hu3 fu3  ⟨ee_K, ee_F0 _ _, by exact hki2.trans ((if_pos c4).trans (rfl))⟩
    · refine g_aload_n dX6_fitTogether_8 rfl ?_
      refine f_X6_70 rfl rfl dX6_fitTogether_9 ?_
      refine g_iload_n dX6_fitTogether_12 rfl ?_
      refine g_iconst (v := 0) dX6_fitTogether_13 (by decide) ?_
      have v41 : vp_in i2 8 := uk_vin 8 rfl (by first | decide | lia | grind) (by first | decide | lia | grind)
      have b42 := uk_cl v41
      refine g_iast rfl rfl v41 dX6_fitTogether_14 ?_
      refine g_mem (fun u43 eu43 => ?_)
      have hu43 : iv u43 := by rw [eu43]; exact iv_upF hu3 (uk_pick1 _ (by omega))
      have fu43 : fr 41 59 u u43 := by rw [eu43]; exact fr_up fu3 (by omega) (by omega)
      refine g_iinc (v := i2 + 1) dX6_fitTogether_15 rfl rfl (by decide) ?_
      refine g_pick (lv' := [(0, .ref (uk_ad G 0)), (1, .int a), (2, .int b), (3, .int (i2 + 1))]) [0, 1, 2, 3] rfl ?_
      refine g_goto (tgt := 2) dX6_fitTogether_18 (by decide) ?_
      refine g_pick (lv' := [(0, .ref (uk_ad G 0)), (1, .int a), (2, .int b), (3, .int (i2 + 1))]) [0, 1, 2, 3] rfl ?_
      exact ihi2 (by first | lia | grind)  u43 hu43 fu43  ⟨ki2, ee_Fs fki2 (by first | assumption | lia | grind), by subst eu43; exact hki2.trans ((if_neg c4).trans (rfl))⟩
  refine g_pick (lv' := [(0, .ref (uk_ad G 0)), (1, .int a), (2, .int b), (3, .int 0)]) [0, 1, 2, 3] rfl ?_
  exact L2_0 0 (by first | decide | lia | grind) (by first | decide | lia | grind)  u hu f0  ⟨ee_K, ee_F0 _ _, by exact rfl⟩
def l_X6_pairs_33 (i9 : Int32) (C_l_X6_pairs_17 : Int32 → Int32 → Int32 → uk_Mem → Int32 × uk_Mem) : Nat → Int32 → Int32 → Int32 → uk_Mem → Int32 × uk_Mem
  | 0, _, _, _, u19 => (0, u19)
  | K9 + 1, i18, w16, w17, u19 => let x20 : Int32 := u19.1 13 0; if x20 ≤ i18 then (C_l_X6_pairs_17 (i9 + 1) w16 w17 u19) else (let x26 : Int32 := (e_X6_fitTogether u19 i9 i18).1; let u24 : uk_Mem := (e_X6_fitTogether u19 i9 i18).2; if x26 = 0 then (l_X6_pairs_33 i9 C_l_X6_pairs_17 K9 (i18 + 1) w16 w17 u24) else (if w16 = 0 then (let x30 : Int32 := (10 : Int32) * i9; let x31 : Int32 := x30 + i18; l_X6_pairs_33 i9 C_l_X6_pairs_17 K9 (i18 + 1) (w16 + 1) x31 u24) else (l_X6_pairs_33 i9 C_l_X6_pairs_17 K9 (i18 + 1) (w16 + 1) w17 u24)))
def l_X6_pairs_17 (w : Int32) : Nat → Int32 → Int32 → Int32 → uk_Mem → Int32 × uk_Mem
  | 0, _, _, _, u10 => (0, u10)
  | K9 + 1, i9, w7, w8, u10 => let x11 : Int32 := u10.1 13 0; if x11 ≤ i9 then (if w = 0 then ((w7, u10)) else ((w8, u10))) else (l_X6_pairs_33 i9 (l_X6_pairs_17 w K9) ee_K i9 w7 w8 u10)
def e_X6_pairs (u : uk_Mem) (w : Int32) : Int32 × uk_Mem := let x4 : Int32 := (e_X6_isFlag u w); if x4 = 0 then (((-1 : Int32), u)) else (l_X6_pairs_17 w ee_K (0 : Int32) (0 : Int32) (-4 : Int32) u)
abbrev qe_X6_pairs (u : uk_Mem) (w : Int32) (r : Option Value) (u' : uk_Mem) : Prop := (q_X6_pairs u w r u') ∧ (r = some (.int (e_X6_pairs u w).1) ∧ u' = (e_X6_pairs u w).2)
set_option maxHeartbeats 4000000 in
set_option maxRecDepth 20000 in
theorem x_X6_pairs {G : uk_D} (hs : uk_Sep G) {u : uk_Mem} (hu : iv u) (w : Int32) (d : Nat) : uk_Meth G (d + 4) mX6_pairs [.ref (uk_ad G 0), .int w] u (qe_X6_pairs u w) := by
  refine uk_Meth.of hs (by decide) (Nat.le_of_ble_eq_true rfl) (fun X => ?_)
  have f0 : fr 41 59 u u := fr_rf
  refine g_iload_n dX6_pairs_0 rfl ?_
  refine cl_X6_162 (As := [.int w]) rfl (x_X6_isFlag (G := G) hs hu  w  (d + 3)) rfl (by omega) rfl (Nat.le_of_ble_eq_true rfl) dX6_pairs_1 (fun r1 u2 q3 => ?_)
  obtain ⟨q3, Eq3⟩ := q3
  obtain ⟨⟨x4, rfl, tx4, nx4, zx4⟩, mq3⟩ := q3
  rw [mq3]
  have ex4 : x4 = (e_X6_isFlag u w) := ee_v Eq3
  refine g_if_ne (tgt := 9) dX6_pairs_4 (by decide) (fun c5 => ?_) (fun c5 => ?_)
  · have zc5 := nx4 c5
    refine g_iconst (v := 0) dX6_pairs_9 (by decide) ?_
    refine g_istore_n dX6_pairs_10 (by decide) ?_
    refine g_pick (lv' := [(0, .ref (uk_ad G 0)), (1, .int w), (2, .int 0)]) [0, 1, 2] rfl ?_
    refine g_bipush (v := (-4)) dX6_pairs_11 (by decide) ?_
    refine g_istore_n dX6_pairs_13 (by decide) ?_
    refine g_pick (lv' := [(0, .ref (uk_ad G 0)), (1, .int w), (2, .int 0), (3, .int (-4))]) [0, 1, 2, 3] rfl ?_
    refine g_iconst (v := 0) dX6_pairs_14 (by decide) ?_
    refine g_istore dX6_pairs_15 (by decide) ?_
    refine g_pick (lv' := [(0, .ref (uk_ad G 0)), (1, .int w), (2, .int 0), (3, .int (-4)), (4, .int 0)]) [0, 1, 2, 3, 4] rfl ?_
    have L17_5 : ∀ i9 : Int32, 0 ≤ i9 → i9 ≤ 8 → ∀ (w7 : Int32) (w8 : Int32) (u10 : uk_Mem), iv u10 → fr 41 59 u u10 → (∃ ki9 : Nat, ee_F 8 i9 ki9 ∧ e_X6_pairs u w = l_X6_pairs_17 w ki9 i9 w7 w8 u10) → uk_G G X mX6_pairs (d + 4) (qe_X6_pairs u w) 17 [(0, .ref (uk_ad G 0)), (1, .int w), (2, .int w7), (3, .int w8), (4, .int i9)] [] u10 := by
      refine uk_upl 8 ?_
      intro i9 ai9 bi9 ihi9 w7 w8 u10 hu10 fu10 jEi9
      obtain ⟨ki9, fki9, hki9⟩ := jEi9
      obtain ⟨ki9, rfl⟩ := ee_Fp (by first | assumption | lia | grind) fki9
      refine g_iload dX6_pairs_17 rfl ?_
      refine g_aload_n dX6_pairs_19 rfl ?_
      refine f_X6_10 rfl rfl dX6_pairs_20 ?_
      refine f_X6_105 rfl rfl dX6_pairs_23 ?_
      refine g_topi (fun x11 ex11 => ?_)
      have rx11 : 0 ≤ x11 ∧ x11 ≤ 8 := by rw [ex11]; exact iv_at hu10 _ _ rfl
      have s12 : u10.1 13 0 = x11 := ex11.symm
      refine g_icmp_ge (tgt := 88) dX6_pairs_26 (by decide) (fun c13 => ?_) (fun c13 => ?_)
      · refine g_iload_n dX6_pairs_88 rfl ?_
        refine g_if_ne (tgt := 96) dX6_pairs_89 (by decide) (fun c14 => ?_) (fun c14 => ?_)
        · refine g_iload_n dX6_pairs_96 rfl ?_
          exact g_iret (ty := .int) dX6_pairs_97 rfl rfl ⟨⟨⟨_, rfl, by first | trivial | lia | grind⟩, hu10, fu10⟩, ee_i (by subst ex11; exact hki9.trans ((if_pos c13).trans ((if_neg c14).trans (rfl))))⟩
        · refine g_iload_n dX6_pairs_92 rfl ?_
          refine g_goto (tgt := 97) dX6_pairs_93 (by decide) ?_
          exact g_iret (ty := .int) dX6_pairs_97 rfl rfl ⟨⟨⟨_, rfl, by first | trivial | lia | grind⟩, hu10, fu10⟩, ee_i (by subst ex11; exact hki9.trans ((if_pos c13).trans ((if_pos c14).trans (rfl))))⟩
      · refine g_iload dX6_pairs_29 rfl ?_
        refine g_istore dX6_pairs_31 (by decide) ?_
        refine g_pick (lv' := [(0, .ref (uk_ad G 0)), (1, .int w), (2, .int w7), (3, .int w8), (4, .int i9), (5, .int i9)]) [0, 1, 2, 3, 4, 5] rfl ?_
        have L33_14 : ∀ i18 : Int32, 0 ≤ i18 → i18 ≤ 8 → ∀ (w16 : Int32) (w17 : Int32) (u19 : uk_Mem), iv u19 → fr 41 59 u u19 → (∃ ki18 : Nat, ee_F 8 i18 ki18 ∧ e_X6_pairs u w = l_X6_pairs_33 i9 (l_X6_pairs_17 w ki9) ki18 i18 w16 w17 u19) → uk_G G X mX6_pairs (d + 4) (qe_X6_pairs u w) 33 [(0, .ref (uk_ad G 0)), (1, .int w), (2, .int w16), (3, .int w17), (4, .int i9), (5, .int i18)] [] u19 := by
          refine uk_upl 8 ?_
          intro i18 ai18 bi18 ihi18 w16 w17 u19 hu19 fu19 jEi18
          obtain ⟨ki18, fki18, hki18⟩ := jEi18
          obtain ⟨ki18, rfl⟩ := ee_Fp (by first | assumption | lia | grind) fki18
          refine g_iload dX6_pairs_33 rfl ?_
          refine g_aload_n dX6_pairs_35 rfl ?_
          refine f_X6_10 rfl rfl dX6_pairs_36 ?_
          refine f_X6_105 rfl rfl dX6_pairs_39 ?_
          refine g_topi (fun x20 ex20 => ?_)
          have rx20 : 0 ≤ x20 ∧ x20 ≤ 8 := by rw [ex20]; exact iv_at hu19 _ _ rfl
          have s21 : u19.1 13 0 = x20 := ex20.symm
          refine g_icmp_ge (tgt := 82) dX6_pairs_42 (by decide) (fun c22 => ?_) (fun c22 => ?_)
          · refine g_iinc (v := i9 + 1) dX6_pairs_82 rfl rfl (by decide) ?_
            refine g_pick (lv' := [(0, .ref (uk_ad G 0)), (1, .int w), (2, .int w16), (3, .int w17), (4, .int (i9 + 1)), (5, .int i18)]) [0, 1, 2, 3, 4, 5] rfl ?_
            refine g_goto (tgt := 17) dX6_pairs_85 (by decide) ?_
            refine g_pick (lv' := [(0, .ref (uk_ad G 0)), (1, .int w), (2, .int w16), (3, .int w17), (4, .int (i9 + 1))]) [0, 1, 2, 3, 4] rfl ?_
            exact ihi9 (by first | lia | grind) w16 w17 u19 hu19 fu19  ⟨ki9, ee_Fs fki9 (by first | assumption | lia | grind), by subst ex20; exact hki18.trans ((if_pos c22).trans (rfl))⟩
          · refine g_aload_n dX6_pairs_45 rfl ?_
            refine g_iload dX6_pairs_46 rfl ?_
            refine g_iload dX6_pairs_48 rfl ?_
            refine cl_X6_233 (c := 0) (As := [.int i9, .int i18]) rfl (x_X6_fitTogether (G := G) hs hu19  i9 i18 (by first | trivial | decide | lia | grind) (by first | trivial | decide | lia | grind) (by first | trivial | decide | lia | grind) (by first | trivial | decide | lia | grind) (d)) rfl (by omega) rfl rfl (Nat.le_of_ble_eq_true rfl) dX6_pairs_50 (fun r23 u24 q25 => ?_)
            obtain ⟨q25, Eq25⟩ := q25
            obtain ⟨⟨x26, rfl, tx26, nx26, zx26⟩, mq25⟩ := q25
            obtain ⟨hu24, gu24⟩ := mq25
            have fu24 : fr 41 59 u u24 := fr_tr fu19 gu24 (by omega) (by omega)
            have s27 : u24.1 13 0 = x20 := (fr_at gu24 (by omega)).trans s21
            have ex26 : x26 = (e_X6_fitTogether u19 i9 i18).1 := ee_v Eq25.1
            have eu24 : u24 = (e_X6_fitTogether u19 i9 i18).2 := Eq25.2
            refine g_if_eq (tgt := 76) dX6_pairs_53 (by decide) (fun c28 => ?_) (fun c28 => ?_)
            · have zc28 := zx26 c28
              refine g_iinc (v := i18 + 1) dX6_pairs_76 rfl rfl (by decide) ?_
              refine g_pick (lv' := [(0, .ref (uk_ad G 0)), (1, .int w), (2, .int w16), (3, .int w17), (4, .int i9), (5, .int (i18 + 1))]) [0, 1, 2, 3, 4, 5] rfl ?_
              refine g_goto (tgt := 33) dX6_pairs_79 (by decide) ?_
              refine g_pick (lv' := [(0, .ref (uk_ad G 0)), (1, .int w), (2, .int w16), (3, .int w17), (4, .int i9), (5, .int (i18 + 1))]) [0, 1, 2, 3, 4, 5] rfl ?_
              exact ihi18 (by first | lia | grind) w16 w17 u24 hu24 fu24  ⟨ki18, ee_Fs fki18 (by first | assumption | lia | grind), by subst eu24; subst ex26; subst ex20; exact hki18.trans ((if_neg c22).trans ((if_pos c28).trans (rfl)))⟩
            · have zc28 := nx26 c28
              refine g_iload_n dX6_pairs_56 rfl ?_
              refine g_if_ne (tgt := 71) dX6_pairs_57 (by decide) (fun c29 => ?_) (fun c29 => ?_)
              · refine g_iload_n dX6_pairs_71 rfl ?_
                refine g_istore_n dX6_pairs_72 (by decide) ?_
                refine g_pick (lv' := [(0, .ref (uk_ad G 0)), (1, .int w), (2, .int w16), (3, .int w17), (4, .int i9), (5, .int i18)]) [0, 1, 2, 3, 4, 5] rfl ?_
                refine g_iinc (v := w16 + 1) dX6_pairs_73 rfl rfl (by decide) ?_
                refine g_pick (lv' := [(0, .ref (uk_ad G 0)), (1, .int w), (2, .int (w16 + 1)), (3, .int w17), (4, .int i9), (5, .int i18)]) [0, 1, 2, 3, 4, 5] rfl ?_
                refine g_iinc (v := i18 + 1) dX6_pairs_76 rfl rfl (by decide) ?_
                refine g_pick (lv' := [(0, .ref (uk_ad G 0)), (1, .int w), (2, .int (w16 + 1)), (3, .int w17), (4, .int i9), (5, .int (i18 + 1))]) [0, 1, 2, 3, 4, 5] rfl ?_
                refine g_goto (tgt := 33) dX6_pairs_79 (by decide) ?_
                refine g_pick (lv' := [(0, .ref (uk_ad G 0)), (1, .int w), (2, .int (w16 + 1)), (3, .int w17), (4, .int i9), (5, .int (i18 + 1))]) [0, 1, 2, 3, 4, 5] rfl ?_
                exact ihi18 (by first | lia | grind) (w16 + 1) w17 u24 hu24 fu24  ⟨ki18, ee_Fs fki18 (by first | assumption | lia | grind), by subst eu24; subst ex26; subst ex20; exact hki18.trans ((if_neg c22).trans ((if_neg c28).trans ((if_neg c29).trans (rfl))))⟩
              · refine g_bipush (v := 10) dX6_pairs_60 (by decide) ?_
                refine g_iload dX6_pairs_62 rfl ?_
                refine g_imul dX6_pairs_64 ?_
                refine g_topi (fun x30 ex30 => ?_)
                refine g_iload dX6_pairs_65 rfl ?_
                refine g_iadd dX6_pairs_67 ?_
                refine g_topi (fun x31 ex31 => ?_)
                refine g_goto (tgt := 72) dX6_pairs_68 (by decide) ?_
                refine g_istore_n dX6_pairs_72 (by decide) ?_
                refine g_pick (lv' := [(0, .ref (uk_ad G 0)), (1, .int w), (2, .int w16), (3, .int x31), (4, .int i9), (5, .int i18)]) [0, 1, 2, 3, 4, 5] rfl ?_
                refine g_iinc (v := w16 + 1) dX6_pairs_73 rfl rfl (by decide) ?_
                refine g_pick (lv' := [(0, .ref (uk_ad G 0)), (1, .int w), (2, .int (w16 + 1)), (3, .int x31), (4, .int i9), (5, .int i18)]) [0, 1, 2, 3, 4, 5] rfl ?_
                refine g_iinc (v := i18 + 1) dX6_pairs_76 rfl rfl (by decide) ?_
                refine g_pick (lv' := [(0, .ref (uk_ad G 0)), (1, .int w), (2, .int (w16 + 1)), (3, .int x31), (4, .int i9), (5, .int (i18 + 1))]) [0, 1, 2, 3, 4, 5] rfl ?_
                refine g_goto (tgt := 33) dX6_pairs_79 (by decide) ?_
                refine g_pick (lv' := [(0, .ref (uk_ad G 0)), (1, .int w), (2, .int (w16 + 1)), (3, .int x31), (4, .int i9), (5, .int (i18 + 1))]) [0, 1, 2, 3, 4, 5] rfl ?_
                exact ihi18 (by first | lia | grind) (w16 + 1) x31 u24 hu24 fu24  ⟨ki18, ee_Fs fki18 (by first | assumption | lia | grind), by subst ex31; subst ex30; subst eu24; subst ex26; subst ex20; exact hki18.trans ((if_neg c22).trans ((if_neg c28).trans ((if_pos c29).trans (rfl))))⟩
        refine g_pick (lv' := [(0, .ref (uk_ad G 0)), (1, .int w), (2, .int w7), (3, .int w8), (4, .int i9), (5, .int i9)]) [0, 1, 2, 3, 4, 5] rfl ?_
        exact L33_14 i9 (by first | decide | lia | grind) (by first | decide | lia | grind) w7 w8 u10 hu10 fu10  ⟨ee_K, ee_F0 _ _, by subst ex11; exact hki9.trans ((if_neg c13).trans (rfl))⟩
    refine g_pick (lv' := [(0, .ref (uk_ad G 0)), (1, .int w), (2, .int 0), (3, .int (-4)), (4, .int 0)]) [0, 1, 2, 3, 4] rfl ?_
    exact L17_5 0 (by first | decide | lia | grind) (by first | decide | lia | grind) 0 (-4) u hu f0  ⟨ee_K, ee_F0 _ _, by subst ex4; exact (if_neg c5).trans (rfl)⟩
  · have zc5 := zx4 c5
    refine g_iconst (v := (-1)) dX6_pairs_7 (by decide) ?_
    exact g_iret (ty := .int) dX6_pairs_8 rfl rfl ⟨⟨⟨_, rfl, by first | trivial | lia | grind⟩, hu, f0⟩, ee_i (by subst ex4; exact (if_pos c5).trans (rfl))⟩
noncomputable def l_X7_fitTogether_111 (u22 : uk_Mem) : Nat → Int32 → Int32 → Int32 × uk_Mem
  | 0, _, _ => (0, u22)
  | K9 + 1, i28, w27 => let x29 : Int32 := u22.1 60 3; if x29 ≤ i28 then ((w27, u22)) else (if w27 = 0 then (l_X7_fitTogether_111 u22 K9 (i28 + 1) (0 : Int32)) else (let x33 : Int32 := u22.1 73 i28.toNatClampNeg; let x37 : Int32 := (e_X7_countIn u22 i28); let x38 : Int32 := x33 + x37; if x38 = 0 then (l_X7_fitTogether_111 u22 K9 (i28 + 1) (1 : Int32)) else (l_X7_fitTogether_111 u22 K9 (i28 + 1) (0 : Int32))))
noncomputable def l_X7_fitTogether_69 (n : Int32) : Nat → Int32 → uk_Mem → Int32 × uk_Mem
  | 0, _, u17 => (0, u17)
  | K9 + 1, i16, u17 => let x18 : Int32 := u17.1 60 3; if x18 ≤ i16 then (let x24 : Int32 := (h_X7_mills u17 n).1; let u22 : uk_Mem := (h_X7_mills u17 n).2; l_X7_fitTogether_111 u22 ee_K (0 : Int32) (1 : Int32)) else (let x41 : Int32 := u17.1 73 i16.toNatClampNeg; let x45 : Int32 := (e_X7_countIn u17 i16); let x46 : Int32 := x41 + x45; let u49 : uk_Mem := uk_up u17 73 i16.toNatClampNeg x46; l_X7_fitTogether_69 n K9 (i16 + 1) u49)
noncomputable def l_X7_fitTogether_23 (m : Int32) (n : Int32) : Nat → Int32 → uk_Mem → Int32 × uk_Mem
  | 0, _, u7 => (0, u7)
  | K9 + 1, i6, u7 => let x9 : Int32 := u7.1 61 (42 : Int32).toNatClampNeg; if x9 ≤ i6 then (let x14 : Int32 := (h_X7_mills u7 m).1; let u12 : uk_Mem := (h_X7_mills u7 m).2; l_X7_fitTogether_69 n ee_K (0 : Int32) u12) else (let x50 : Int32 := (43 : Int32) + i6; let x52 : Int32 := u7.1 61 x50.toNatClampNeg; let x54 : Int32 := u7.1 73 x52.toNatClampNeg; let x55 : Int32 := x54 - (1 : Int32); let u58 : uk_Mem := uk_up u7 73 x52.toNatClampNeg x55; l_X7_fitTogether_23 m n K9 (i6 + 1) u58)
noncomputable def l_X7_fitTogether_2 (m : Int32) (n : Int32) : Nat → Int32 → uk_Mem → Int32 × uk_Mem
  | 0, _, u3 => (0, u3)
  | K9 + 1, i2, u3 => if (8 : Int32) ≤ i2 then (l_X7_fitTogether_23 m n ee_K (0 : Int32) u3) else (let u61 : uk_Mem := uk_up u3 73 i2.toNatClampNeg (0 : Int32); l_X7_fitTogether_2 m n K9 (i2 + 1) u61)
noncomputable def e_X7_fitTogether (u : uk_Mem) (m : Int32) (n : Int32) : Int32 × uk_Mem := l_X7_fitTogether_2 m n ee_K (0 : Int32) u
abbrev qe_X7_fitTogether (u : uk_Mem) (m : Int32) (n : Int32) (r : Option Value) (u' : uk_Mem) : Prop := (q_X7_fitTogether u m n r u') ∧ (r = some (.int (e_X7_fitTogether u m n).1) ∧ u' = (e_X7_fitTogether u m n).2)
set_option maxHeartbeats 4000000 in
set_option maxRecDepth 20000 in
theorem x_X7_fitTogether {G : uk_D} (hs : uk_Sep G) {u : uk_Mem} (hu : iv u) (hri : ri u) (m : Int32) (n : Int32) (p0 : 0 ≤ m) (p1 : m < u.1 60 3) (p2 : m ≤ 7) (p3 : 0 ≤ n) (p4 : n < u.1 60 3) (p5 : n ≤ 7) (d : Nat) : uk_Meth G (d + 3) mX7_fitTogether [.ref (uk_ad G 60), .int m, .int n] u (qe_X7_fitTogether u m n) := by
  refine uk_Meth.of hs (by decide) (Nat.le_of_ble_eq_true rfl) (fun X => ?_)
  have f0 : fk [60, 62, 71, 73] [3, 7, 10, 11, 13, 14, 15, 16, 17, 18, 19, 28] u u := fk_rf
  refine g_iconst (v := 0) dX7_fitTogether_0 (by decide) ?_
  refine g_istore_n dX7_fitTogether_1 (by decide) ?_
  refine g_pick (lv' := [(0, .ref (uk_ad G 60)), (1, .int m), (2, .int n), (3, .int 0)]) [0, 1, 2, 3] rfl ?_
  have L2_0 : ∀ i2 : Int32, 0 ≤ i2 → i2 ≤ 8 → ∀ (u3 : uk_Mem), iv u3 → fk [60, 62, 71, 73] [3, 7, 10, 11, 13, 14, 15, 16, 17, 18, 19, 28] u u3 → ri u3 → (∃ ki2 : Nat, ee_F 8 i2 ki2 ∧ e_X7_fitTogether u m n = l_X7_fitTogether_2 m n ki2 i2 u3) → uk_G G X mX7_fitTogether (d + 3) (qe_X7_fitTogether u m n) 2 [(0, .ref (uk_ad G 60)), (1, .int m), (2, .int n), (3, .int i2)] [] u3 := by
    refine uk_upl 8 ?_
    intro i2 ai2 bi2 ihi2  u3 hu3 fu3 riu3 jEi2
    obtain ⟨ki2, fki2, hki2⟩ := jEi2
    obtain ⟨ki2, rfl⟩ := ee_Fp (by first | assumption | lia | grind) fki2
    have wu3_60_3 : u3.1 60 3 = u.1 60 3 := fk_at fu3 (by decide)
    refine g_iload_n dX7_fitTogether_2 rfl ?_
    refine g_bipush (v := 8) dX7_fitTogether_3 (by decide) ?_
    refine g_icmp_ge (tgt := 21) dX7_fitTogether_5 (by decide) (fun c4 => ?_) (fun c4 => ?_)
    · refine g_iconst (v := 0) dX7_fitTogether_21 (by decide) ?_
      refine g_istore_n dX7_fitTogether_22 (by decide) ?_
      refine g_pick (lv' := [(0, .ref (uk_ad G 60)), (1, .int m), (2, .int n), (3, .int 0)]) [0, 1, 2, 3] rfl ?_
      have L23_4 : ∀ i6 : Int32, 0 ≤ i6 → i6 ≤ 8 → ∀ (u7 : uk_Mem), iv u7 → fk [60, 62, 71, 73] [3, 7, 10, 11, 13, 14, 15, 16, 17, 18, 19, 28] u u7 → ri u7 → (∃ ki6 : Nat, ee_F 8 i6 ki6 ∧ e_X7_fitTogether u m n = l_X7_fitTogether_23 m n ki6 i6 u7) → uk_G G X mX7_fitTogether (d + 3) (qe_X7_fitTogether u m n) 23 [(0, .ref (uk_ad G 60)), (1, .int m), (2, .int n), (3, .int i6)] [] u7 := by
        refine uk_upl 8 ?_
        intro i6 ai6 bi6 ihi6  u7 hu7 fu7 riu7 jEi6
        obtain ⟨ki6, fki6, hki6⟩ := jEi6
        obtain ⟨ki6, rfl⟩ := ee_Fp (by first | assumption | lia | grind) fki6
        have wu7_60_3 : u7.1 60 3 = u.1 60 3 := fk_at fu7 (by decide)
        refine g_iload_n dX7_fitTogether_23 rfl ?_
        refine g_aload_n dX7_fitTogether_24 rfl ?_
        refine f_X7_7 rfl rfl dX7_fitTogether_25 ?_
        refine g_bipush (v := 42) dX7_fitTogether_28 (by decide) ?_
        have v8 : vp_in 42 153 := uk_vin 153 rfl (by first | decide | lia | grind) (by first | decide | lia | grind)
        refine g_iald rfl rfl v8 dX7_fitTogether_30 ?_
        refine g_topi (fun x9 ex9 => ?_)
        have bx9 := uk_cl v8
        have rx9 : 0 ≤ x9 ∧ x9 ≤ 8 := by rw [ex9]; exact sg_42 hu7 (by unfold uk_is51; decide)
        refine g_icmp_ge (tgt := 58) dX7_fitTogether_31 (by decide) (fun c10 => ?_) (fun c10 => ?_)
        · refine g_aload_n dX7_fitTogether_58 rfl ?_
          refine g_iload_n dX7_fitTogether_59 rfl ?_
          refine g_sipush (v := 128) dX7_fitTogether_60 (by decide) ?_
          refine cl_X7_220 (c := 60) (As := [.int m, .int 128]) rfl (x_X7_mills_h (G := G) hs hu7 riu7  m (by first | trivial | decide | lia | grind) (by first | trivial | decide | lia | grind) (by first | trivial | decide | lia | grind) (by first | trivial | decide | lia | grind) (d)) rfl (by omega) rfl rfl (Nat.le_of_ble_eq_true rfl) dX7_fitTogether_63 (fun r11 u12 q13 => ?_)
          obtain ⟨q13, Eq13⟩ := q13
          obtain ⟨⟨x14, rfl, tx14⟩, mq13⟩ := q13
          obtain ⟨hu12, gu12, riu12, rau12, rpu12⟩ := mq13
          have fu12 : fk [60, 62, 71, 73] [3, 7, 10, 11, 13, 14, 15, 16, 17, 18, 19, 28] u u12 := fk_tr fu7 gu12 (by decide) (by decide)
          have wu12_60_3 : u12.1 60 3 = u7.1 60 3 := fk_at gu12 (by decide)
          have ex14 : x14 = (h_X7_mills u7 m).1 := ee_v Eq13.1
          have eu12 : u12 = (h_X7_mills u7 m).2 := Eq13.2
          refine g_pop dX7_fitTogether_66 rfl ?_
          refine g_iconst (v := 0) dX7_fitTogether_67 (by decide) ?_
          refine g_istore_n dX7_fitTogether_68 (by decide) ?_
          refine g_pick (lv' := [(0, .ref (uk_ad G 60)), (1, .int m), (2, .int n), (3, .int 0)]) [0, 1, 2, 3] rfl ?_
          have L69_14 : ∀ i16 : Int32, 0 ≤ i16 → i16 ≤ 8 → ∀ (u17 : uk_Mem), iv u17 → fk [60, 62, 71, 73] [3, 7, 10, 11, 13, 14, 15, 16, 17, 18, 19, 28] u u17 → ri u17 → (∃ ki16 : Nat, ee_F 8 i16 ki16 ∧ e_X7_fitTogether u m n = l_X7_fitTogether_69 n ki16 i16 u17) → uk_G G X mX7_fitTogether (d + 3) (qe_X7_fitTogether u m n) 69 [(0, .ref (uk_ad G 60)), (1, .int m), (2, .int n), (3, .int i16)] [] u17 := by
            refine uk_upl 8 ?_
            intro i16 ai16 bi16 ihi16  u17 hu17 fu17 riu17 jEi16
            obtain ⟨ki16, fki16, hki16⟩ := jEi16
            obtain ⟨ki16, rfl⟩ := ee_Fp (by first | assumption | lia | grind) fki16
            have wu17_60_3 : u17.1 60 3 = u.1 60 3 := fk_at fu17 (by decide)
            refine g_iload_n dX7_fitTogether_69 rfl ?_
            refine g_aload_n dX7_fitTogether_70 rfl ?_
            refine f_X7_79 rfl rfl dX7_fitTogether_71 ?_
            refine g_topi (fun x18 ex18 => ?_)
            have rx18 : 0 ≤ x18 ∧ x18 ≤ 8 := by rw [ex18]; exact iv_at hu17 _ _ rfl
            have s19 : u17.1 60 3 = x18 := ex18.symm
            refine g_icmp_ge (tgt := 97) dX7_fitTogether_74 (by decide) (fun c20 => ?_) (fun c20 => ?_)
            · refine g_aload_n dX7_fitTogether_97 rfl ?_
              refine g_iload_n dX7_fitTogether_98 rfl ?_
              refine g_sipush (v := 128) dX7_fitTogether_99 (by decide) ?_
              refine cl_X7_220 (c := 60) (As := [.int n, .int 128]) rfl (x_X7_mills_h (G := G) hs hu17 riu17  n (by first | trivial | decide | lia | grind) (by first | trivial | decide | lia | grind) (by first | trivial | decide | lia | grind) (by first | trivial | decide | lia | grind) (d)) rfl (by omega) rfl rfl (Nat.le_of_ble_eq_true rfl) dX7_fitTogether_102 (fun r21 u22 q23 => ?_)
              obtain ⟨q23, Eq23⟩ := q23
              obtain ⟨⟨x24, rfl, tx24⟩, mq23⟩ := q23
              obtain ⟨hu22, gu22, riu22, rau22, rpu22⟩ := mq23
              have fu22 : fk [60, 62, 71, 73] [3, 7, 10, 11, 13, 14, 15, 16, 17, 18, 19, 28] u u22 := fk_tr fu17 gu22 (by decide) (by decide)
              have wu22_60_3 : u22.1 60 3 = u17.1 60 3 := fk_at gu22 (by decide)
              have s25 : u22.1 60 3 = x18 := (fk_at gu22 (by decide)).trans s19
              have ex24 : x24 = (h_X7_mills u17 n).1 := ee_v Eq23.1
              have eu22 : u22 = (h_X7_mills u17 n).2 := Eq23.2
              refine g_pop dX7_fitTogether_105 rfl ?_
              refine g_iconst (v := 1) dX7_fitTogether_106 (by decide) ?_
              refine g_istore_n dX7_fitTogether_107 (by decide) ?_
              refine g_pick (lv' := [(0, .ref (uk_ad G 60)), (1, .int m), (2, .int n), (3, .int 1)]) [0, 1, 2, 3] rfl ?_
              refine g_iconst (v := 0) dX7_fitTogether_108 (by decide) ?_
              refine g_istore dX7_fitTogether_109 (by decide) ?_
              refine g_pick (lv' := [(0, .ref (uk_ad G 60)), (1, .int m), (2, .int n), (3, .int 1), (4, .int 0)]) [0, 1, 2, 3, 4] rfl ?_
              have L111_25 : ∀ i28 : Int32, 0 ≤ i28 → i28 ≤ 8 → ∀ (w27 : Int32), w27 = 0 ∨ w27 = 1 → (∃ ki28 : Nat, ee_F 8 i28 ki28 ∧ e_X7_fitTogether u m n = l_X7_fitTogether_111 u22 ki28 i28 w27) → uk_G G X mX7_fitTogether (d + 3) (qe_X7_fitTogether u m n) 111 [(0, .ref (uk_ad G 60)), (1, .int m), (2, .int n), (3, .int w27), (4, .int i28)] [] u22 := by
                refine uk_upl 8 ?_
                intro i28 ai28 bi28 ihi28 w27 ji280 jEi28
                obtain ⟨ki28, fki28, hki28⟩ := jEi28
                obtain ⟨ki28, rfl⟩ := ee_Fp (by first | assumption | lia | grind) fki28
                refine g_iload dX7_fitTogether_111 rfl ?_
                refine g_aload_n dX7_fitTogether_113 rfl ?_
                refine f_X7_79 rfl rfl dX7_fitTogether_114 ?_
                refine g_topi (fun x29 ex29 => ?_)
                have rx29 : 0 ≤ x29 ∧ x29 ≤ 8 := by rw [ex29]; exact iv_at hu22 _ _ rfl
                have qx29 : x29 = x18 := by rw [ex29]; exact s25
                refine g_icmp_ge (tgt := 153) dX7_fitTogether_117 (by decide) (fun c30 => ?_) (fun c30 => ?_)
                · refine g_iload_n dX7_fitTogether_153 rfl ?_
                  exact g_iret (ty := .boolean) dX7_fitTogether_154 rfl (uk_nb ji280) ⟨⟨⟨_, rfl, ji280, fun q => by first | trivial | (have := (fun _ => trivial) q; first | exact this | grind), fun q => by first | trivial | (have := (fun _ => trivial) q; first | exact this | grind)⟩, hu22, fu22, riu22⟩, ee_i (by subst ex29; exact hki28.trans ((if_pos c30).trans (rfl)))⟩
                · refine g_iload_n dX7_fitTogether_120 rfl ?_
                  refine g_if_eq (tgt := 145) dX7_fitTogether_121 (by decide) (fun c31 => ?_) (fun c31 => ?_)
                  · refine g_iconst (v := 0) dX7_fitTogether_145 (by decide) ?_
                    refine g_istore_n dX7_fitTogether_146 (by decide) ?_
                    refine g_pick (lv' := [(0, .ref (uk_ad G 60)), (1, .int m), (2, .int n), (3, .int 0), (4, .int i28)]) [0, 1, 2, 3, 4] rfl ?_
                    refine g_iinc (v := i28 + 1) dX7_fitTogether_147 rfl rfl (by decide) ?_
                    refine g_pick (lv' := [(0, .ref (uk_ad G 60)), (1, .int m), (2, .int n), (3, .int 0), (4, .int (i28 + 1))]) [0, 1, 2, 3, 4] rfl ?_
                    refine g_goto (tgt := 111) dX7_fitTogether_150 (by decide) ?_
                    refine g_pick (lv' := [(0, .ref (uk_ad G 60)), (1, .int m), (2, .int n), (3, .int 0), (4, .int (i28 + 1))]) [0, 1, 2, 3, 4] rfl ?_
                    exact ihi28 (by first | lia | grind) 0 (by first | trivial | lia | grind) ⟨ki28, ee_Fs fki28 (by first | assumption | lia | grind), by subst ex29; exact hki28.trans ((if_neg c30).trans ((if_pos c31).trans (rfl)))⟩
                  · refine g_aload_n dX7_fitTogether_124 rfl ?_
                    refine f_X7_48 rfl rfl dX7_fitTogether_125 ?_
                    refine g_iload dX7_fitTogether_128 rfl ?_
                    have v32 : vp_in i28 8 := uk_vin 8 rfl (by first | decide | lia | grind) (by first | decide | lia | grind)
                    refine g_iald rfl rfl v32 dX7_fitTogether_130 ?_
                    refine g_topi (fun x33 ex33 => ?_)
                    refine g_aload_n dX7_fitTogether_131 rfl ?_
                    refine g_iload dX7_fitTogether_132 rfl ?_
                    refine cl_X7_223 (c := 60) (As := [.int i28]) rfl (x_X7_countIn (G := G) hs hu22  i28  (d + 1)) rfl (by omega) rfl rfl (Nat.le_of_ble_eq_true rfl) dX7_fitTogether_134 (fun r34 u35 q36 => ?_)
                    obtain ⟨q36, Eq36⟩ := q36
                    obtain ⟨⟨x37, rfl, tx37⟩, mq36⟩ := q36
                    rw [mq36]
                    have ex37 : x37 = (e_X7_countIn u22 i28) := ee_v Eq36
                    refine g_iadd dX7_fitTogether_137 ?_
                    refine g_topi (fun x38 ex38 => ?_)
                    refine g_if_ne (tgt := 145) dX7_fitTogether_138 (by decide) (fun c39 => ?_) (fun c39 => ?_)
                    · refine g_iconst (v := 0) dX7_fitTogether_145 (by decide) ?_
                      refine g_istore_n dX7_fitTogether_146 (by decide) ?_
                      refine g_pick (lv' := [(0, .ref (uk_ad G 60)), (1, .int m), (2, .int n), (3, .int 0), (4, .int i28)]) [0, 1, 2, 3, 4] rfl ?_
                      refine g_iinc (v := i28 + 1) dX7_fitTogether_147 rfl rfl (by decide) ?_
                      refine g_pick (lv' := [(0, .ref (uk_ad G 60)), (1, .int m), (2, .int n), (3, .int 0), (4, .int (i28 + 1))]) [0, 1, 2, 3, 4] rfl ?_
                      refine g_goto (tgt := 111) dX7_fitTogether_150 (by decide) ?_
                      refine g_pick (lv' := [(0, .ref (uk_ad G 60)), (1, .int m), (2, .int n), (3, .int 0), (4, .int (i28 + 1))]) [0, 1, 2, 3, 4] rfl ?_
                      exact ihi28 (by first | lia | grind) 0 (by first | trivial | lia | grind) ⟨ki28, ee_Fs fki28 (by first | assumption | lia | grind), by subst ex38; subst ex37; subst ex33; subst ex29; exact hki28.trans ((if_neg c30).trans ((if_neg c31).trans ((if_neg c39).trans (rfl))))⟩
                    · refine g_iconst (v := 1) dX7_fitTogether_141 (by decide) ?_
                      refine g_goto (tgt := 146) dX7_fitTogether_142 (by decide) ?_
                      refine g_istore_n dX7_fitTogether_146 (by decide) ?_
                      refine g_pick (lv' := [(0, .ref (uk_ad G 60)), (1, .int m), (2, .int n), (3, .int 1), (4, .int i28)]) [0, 1, 2, 3, 4] rfl ?_
                      refine g_iinc (v := i28 + 1) dX7_fitTogether_147 rfl rfl (by decide) ?_
                      refine g_pick (lv' := [(0, .ref (uk_ad G 60)), (1, .int m), (2, .int n), (3, .int 1), (4, .int (i28 + 1))]) [0, 1, 2, 3, 4] rfl ?_
                      refine g_goto (tgt := 111) dX7_fitTogether_150 (by decide) ?_
                      refine g_pick (lv' := [(0, .ref (uk_ad G 60)), (1, .int m), (2, .int n), (3, .int 1), (4, .int (i28 + 1))]) [0, 1, 2, 3, 4] rfl ?_
                      exact ihi28 (by first | lia | grind) 1 (by first | trivial | lia | grind) ⟨ki28, ee_Fs fki28 (by first | assumption | lia | grind), by subst ex38; subst ex37; subst ex33; subst ex29; exact hki28.trans ((if_neg c30).trans ((if_neg c31).trans ((if_pos c39).trans (rfl))))⟩
              refine g_pick (lv' := [(0, .ref (uk_ad G 60)), (1, .int m), (2, .int n), (3, .int 1), (4, .int 0)]) [0, 1, 2, 3, 4] rfl ?_
              exact L111_25 0 (by first | decide | lia | grind) (by first | decide | lia | grind) 1 (by first | trivial | lia | grind) ⟨ee_K, ee_F0 _ _, by subst eu22; subst ex24; subst ex18; exact hki16.trans ((if_pos c20).trans (rfl))⟩
            · refine g_aload_n dX7_fitTogether_77 rfl ?_
              refine f_X7_48 rfl rfl dX7_fitTogether_78 ?_
              refine g_iload_n dX7_fitTogether_81 rfl ?_
              refine g_dup2 dX7_fitTogether_82 rfl rfl ?_
              have v40 : vp_in i16 8 := uk_vin 8 rfl (by first | decide | lia | grind) (by first | decide | lia | grind)
              refine g_iald rfl rfl v40 dX7_fitTogether_83 ?_
              refine g_topi (fun x41 ex41 => ?_)
              refine g_aload_n dX7_fitTogether_84 rfl ?_
              refine g_iload_n dX7_fitTogether_85 rfl ?_
              refine cl_X7_223 (c := 60) (As := [.int i16]) rfl (x_X7_countIn (G := G) hs hu17  i16  (d + 1)) rfl (by omega) rfl rfl (Nat.le_of_ble_eq_true rfl) dX7_fitTogether_86 (fun r42 u43 q44 => ?_)
              obtain ⟨q44, Eq44⟩ := q44
              obtain ⟨⟨x45, rfl, tx45⟩, mq44⟩ := q44
              rw [mq44]
              have ex45 : x45 = (e_X7_countIn u17 i16) := ee_v Eq44
              refine g_iadd dX7_fitTogether_89 ?_
              refine g_topi (fun x46 ex46 => ?_)
              have v47 : vp_in i16 8 := uk_vin 8 rfl (by first | decide | lia | grind) (by first | decide | lia | grind)
              have b48 := uk_cl v47
              refine g_iast rfl rfl v47 dX7_fitTogether_90 ?_
              refine g_mem (fun u49 eu49 => ?_)
              have hu49 : iv u49 := by rw [eu49]; exact iv_upF hu17 (uk_pick1 _ (by omega))
              have fu49 : fk [60, 62, 71, 73] [3, 7, 10, 11, 13, 14, 15, 16, 17, 18, 19, 28] u u49 := by rw [eu49]; exact fk_up fu17 (by decide) (fun q => absurd q (by decide))
              have riu49 : ri u49 := by rw [eu49]; exact ri_1 riu17 (by decide) (fun q => absurd q (by decide))
              refine g_iinc (v := i16 + 1) dX7_fitTogether_91 rfl rfl (by decide) ?_
              refine g_pick (lv' := [(0, .ref (uk_ad G 60)), (1, .int m), (2, .int n), (3, .int (i16 + 1))]) [0, 1, 2, 3] rfl ?_
              refine g_goto (tgt := 69) dX7_fitTogether_94 (by decide) ?_
              refine g_pick (lv' := [(0, .ref (uk_ad G 60)), (1, .int m), (2, .int n), (3, .int (i16 + 1))]) [0, 1, 2, 3] rfl ?_
              exact ihi16 (by first | lia | grind)  u49 hu49 fu49 riu49  ⟨ki16, ee_Fs fki16 (by first | assumption | lia | grind), by subst eu49; subst ex46; subst ex45; subst ex41; subst ex18; exact hki16.trans ((if_neg c20).trans (rfl))⟩
          refine g_pick (lv' := [(0, .ref (uk_ad G 60)), (1, .int m), (2, .int n), (3, .int 0)]) [0, 1, 2, 3] rfl ?_
          exact L69_14 0 (by first | decide | lia | grind) (by first | decide | lia | grind)  u12 hu12 fu12 riu12  ⟨ee_K, ee_F0 _ _, by subst eu12; subst ex14; subst ex9; exact hki6.trans ((if_pos c10).trans (rfl))⟩
        · refine g_aload_n dX7_fitTogether_34 rfl ?_
          refine f_X7_48 rfl rfl dX7_fitTogether_35 ?_
          refine g_aload_n dX7_fitTogether_38 rfl ?_
          refine f_X7_7 rfl rfl dX7_fitTogether_39 ?_
          refine g_bipush (v := 43) dX7_fitTogether_42 (by decide) ?_
          refine g_iload_n dX7_fitTogether_44 rfl ?_
          refine g_iadd dX7_fitTogether_45 ?_
          refine g_topi (fun x50 ex50 => ?_)
          have v51 : vp_in x50 153 := uk_vin 153 rfl (by first | decide | lia | grind) (by first | decide | lia | grind)
          refine g_iald rfl rfl v51 dX7_fitTogether_46 ?_
          refine g_topi (fun x52 ex52 => ?_)
          have bx52 := uk_cl v51
          have rx52 : 0 ≤ x52 ∧ x52 ≤ 7 := by rw [ex52]; exact sg_43 hu7 (by unfold uk_is51; decide) (by first | lia | grind) (by first | lia | grind)
          refine g_dup2 dX7_fitTogether_47 rfl rfl ?_
          have v53 : vp_in x52 8 := uk_vin 8 rfl (by first | decide | lia | grind) (by first | decide | lia | grind)
          refine g_iald rfl rfl v53 dX7_fitTogether_48 ?_
          refine g_topi (fun x54 ex54 => ?_)
          refine g_iconst (v := 1) dX7_fitTogether_49 (by decide) ?_
          refine g_isub dX7_fitTogether_50 ?_
          refine g_topi (fun x55 ex55 => ?_)
          have v56 : vp_in x52 8 := uk_vin 8 rfl (by first | decide | lia | grind) (by first | decide | lia | grind)
          have b57 := uk_cl v56
          refine g_iast rfl rfl v56 dX7_fitTogether_51 ?_
          refine g_mem (fun u58 eu58 => ?_)
          have hu58 : iv u58 := by rw [eu58]; exact iv_upF hu7 (uk_pick1 _ (by omega))
          have fu58 : fk [60, 62, 71, 73] [3, 7, 10, 11, 13, 14, 15, 16, 17, 18, 19, 28] u u58 := by rw [eu58]; exact fk_up fu7 (by decide) (fun q => absurd q (by decide))
          have riu58 : ri u58 := by rw [eu58]; exact ri_1 riu7 (by decide) (fun q => absurd q (by decide))
          refine g_iinc (v := i6 + 1) dX7_fitTogether_52 rfl rfl (by decide) ?_
          refine g_pick (lv' := [(0, .ref (uk_ad G 60)), (1, .int m), (2, .int n), (3, .int (i6 + 1))]) [0, 1, 2, 3] rfl ?_
          refine g_goto (tgt := 23) dX7_fitTogether_55 (by decide) ?_
          refine g_pick (lv' := [(0, .ref (uk_ad G 60)), (1, .int m), (2, .int n), (3, .int (i6 + 1))]) [0, 1, 2, 3] rfl ?_
          exact ihi6 (by first | lia | grind)  u58 hu58 fu58 riu58  ⟨ki6, ee_Fs fki6 (by first | assumption | lia | grind), by subst eu58; subst ex55; subst ex54; subst ex52; subst ex50; subst ex9; exact hki6.trans ((if_neg c10).trans (rfl))⟩
      refine g_pick (lv' := [(0, .ref (uk_ad G 60)), (1, .int m), (2, .int n), (3, .int 0)]) [0, 1, 2, 3] rfl ?_
      exact L23_4 0 (by first | decide | lia | grind) (by first | decide | lia | grind)  u3 hu3 fu3 riu3  ⟨ee_K, ee_F0 _ _, by exact hki2.trans ((if_pos c4).trans (rfl))⟩
    · refine g_aload_n dX7_fitTogether_8 rfl ?_
      refine f_X7_48 rfl rfl dX7_fitTogether_9 ?_
      refine g_iload_n dX7_fitTogether_12 rfl ?_
      refine g_iconst (v := 0) dX7_fitTogether_13 (by decide) ?_
      have v59 : vp_in i2 8 := uk_vin 8 rfl (by first | decide | lia | grind) (by first | decide | lia | grind)
      have b60 := uk_cl v59
      refine g_iast rfl rfl v59 dX7_fitTogether_14 ?_
      refine g_mem (fun u61 eu61 => ?_)
      have hu61 : iv u61 := by rw [eu61]; exact iv_upF hu3 (uk_pick1 _ (by omega))
      have fu61 : fk [60, 62, 71, 73] [3, 7, 10, 11, 13, 14, 15, 16, 17, 18, 19, 28] u u61 := by rw [eu61]; exact fk_up fu3 (by decide) (fun q => absurd q (by decide))
      have riu61 : ri u61 := by rw [eu61]; exact ri_1 riu3 (by decide) (fun q => absurd q (by decide))
      refine g_iinc (v := i2 + 1) dX7_fitTogether_15 rfl rfl (by decide) ?_
      refine g_pick (lv' := [(0, .ref (uk_ad G 60)), (1, .int m), (2, .int n), (3, .int (i2 + 1))]) [0, 1, 2, 3] rfl ?_
      refine g_goto (tgt := 2) dX7_fitTogether_18 (by decide) ?_
      refine g_pick (lv' := [(0, .ref (uk_ad G 60)), (1, .int m), (2, .int n), (3, .int (i2 + 1))]) [0, 1, 2, 3] rfl ?_
      exact ihi2 (by first | lia | grind)  u61 hu61 fu61 riu61  ⟨ki2, ee_Fs fki2 (by first | assumption | lia | grind), by subst eu61; exact hki2.trans ((if_neg c4).trans (rfl))⟩
  refine g_pick (lv' := [(0, .ref (uk_ad G 60)), (1, .int m), (2, .int n), (3, .int 0)]) [0, 1, 2, 3] rfl ?_
  exact L2_0 0 (by first | decide | lia | grind) (by first | decide | lia | grind)  u hu f0 hri  ⟨ee_K, ee_F0 _ _, by exact rfl⟩
