abbrev q_X6_loss_k (u : uk_Mem) (m : Int32) (r : Option Value) (u' : uk_Mem) : Prop := (∃ x : Int32, r = some (.int x) ∧ True) ∧ (iv u' ∧ fr 41 58 u u' ∧ u'.1 50 = u.1 50 ∧ u'.1 51 = u.1 51 ∧ u'.1 53 = u.1 53 ∧ u'.1 54 = u.1 54 ∧ u'.1 55 = u.1 55 ∧ u'.1 56 = u.1 56)
set_option maxHeartbeats 4000000 in
set_option maxRecDepth 20000 in
theorem c_X6_loss_k {G : uk_D} (hs : uk_Sep G) {u : uk_Mem} (hu : iv u) (m : Int32) (d : Nat) : uk_Meth G (d + 3) mX6_loss [.ref (uk_ad G 0), .int m] u (q_X6_loss_k u m) := by
  refine uk_Meth.of hs (by decide) (Nat.le_of_ble_eq_true rfl) (fun X => ?_)
  have f0 : fr 41 58 u u := fr_rf
  have C50 : u.1 50 = u.1 50 := rfl
  have C51 : u.1 51 = u.1 51 := rfl
  have C53 : u.1 53 = u.1 53 := rfl
  have C54 : u.1 54 = u.1 54 := rfl
  have C55 : u.1 55 = u.1 55 := rfl
  have C56 : u.1 56 = u.1 56 := rfl
  refine g_aload_n dX6_loss_0 rfl ?_
  refine f_X6_10 rfl rfl dX6_loss_1 ?_
  refine g_iload_n dX6_loss_4 rfl ?_
  refine cl_X6_118 (c := 13) (As := [.int m]) rfl (c_X0_hasStuff (G := G) hs hu uk_isK13 m  (d + 2)) rfl (by omega) rfl rfl (Nat.le_of_ble_eq_true rfl) dX6_loss_5 (fun r1 u2 q3 => ?_)
  obtain ⟨⟨x4, rfl, tx4, nx4, zx4⟩, mq3⟩ := q3
  rw [mq3]
  refine g_if_ne (tgt := 13) dX6_loss_8 (by decide) (fun c5 => ?_) (fun c5 => ?_)
  · have zc5 := nx4 c5
    refine g_aload_n dX6_loss_13 rfl ?_
    refine f_X6_48 rfl rfl dX6_loss_14 ?_
    refine g_aload_n dX6_loss_17 rfl ?_
    refine f_X6_10 rfl rfl dX6_loss_18 ?_
    refine g_iload_n dX6_loss_21 rfl ?_
    refine g_bipush (v := 127) dX6_loss_22 (by decide) ?_
    refine cl_X6_177 (c := 41) (As := [.ref (uk_ad G 13), .int m, .int 127]) rfl (c_X1_grind (G := G) hs hu  m 127 (by first | trivial | decide | lia | grind) (by first | trivial | decide | lia | grind) (d)) rfl (by omega) rfl rfl (Nat.le_of_ble_eq_true rfl) dX6_loss_24 (fun r6 u7 q8 => ?_)
    obtain ⟨rfl, mq8⟩ := q8
    obtain ⟨hu7, gu7⟩ := mq8
    have fu7 : fr 41 58 u u7 := fr_tr f0 gu7 (by omega) (by omega)
    have C9 : u7.1 50 = u.1 50 := (gu7.1 50 (by omega)).trans C50
    have C10 : u7.1 51 = u.1 51 := (gu7.1 51 (by omega)).trans C51
    have C11 : u7.1 53 = u.1 53 := (gu7.1 53 (by omega)).trans C53
    have C12 : u7.1 54 = u.1 54 := (gu7.1 54 (by omega)).trans C54
    have C13 : u7.1 55 = u.1 55 := (gu7.1 55 (by omega)).trans C55
    have C14 : u7.1 56 = u.1 56 := (gu7.1 56 (by omega)).trans C56
    refine g_iconst (v := 0) dX6_loss_27 (by decide) ?_
    refine g_istore_n dX6_loss_28 (by decide) ?_
    refine g_iconst (v := 0) dX6_loss_29 (by decide) ?_
    refine g_istore_n dX6_loss_30 (by decide) ?_
    have L31_14 : ∀ i17 : Int32, 0 ≤ i17 → i17 ≤ 128 → ∀ (w16 : Int32), uk_G G X mX6_loss (d + 3) (q_X6_loss_k u m) 31 [(0, .ref (uk_ad G 0)), (1, .int m), (2, .int w16), (3, .int i17)] [] u7 := by
      refine uk_upl 128 ?_
      intro i17 ai17 bi17 ihi17 w16
      refine g_iload_n dX6_loss_31 rfl ?_
      refine g_aload_n dX6_loss_32 rfl ?_
      refine f_X6_48 rfl rfl dX6_loss_33 ?_
      refine f_X6_184 rfl rfl dX6_loss_36 ?_
      refine g_topi (fun x18 ex18 => ?_)
      have rx18 : 0 ≤ x18 ∧ x18 ≤ 128 := by rw [ex18]; exact iv_at hu7 _ _ rfl
      have s19 : u7.1 41 1 = x18 := ex18.symm
      refine g_icmp_ge (tgt := 88) dX6_loss_39 (by decide) (fun c20 => ?_) (fun c20 => ?_)
      · refine g_aload_n dX6_loss_88 rfl ?_
        refine f_X6_10 rfl rfl dX6_loss_89 ?_
        refine g_iload_n dX6_loss_92 rfl ?_
        refine g_aload_n dX6_loss_93 rfl ?_
        refine f_X6_66 rfl rfl dX6_loss_94 ?_
        refine cl_X6_173 (c := 13) (As := [.int m, .ref (uk_ad G 57)]) rfl (c_X0_rawCost (G := G) hs hu7 uk_isK13 m (by first | trivial | decide | lia | grind) (by first | trivial | decide | lia | grind) (d)) rfl (by omega) rfl rfl (Nat.le_of_ble_eq_true rfl) dX6_loss_97 (fun r21 u22 q23 => ?_)
        obtain ⟨⟨x24, rfl, tx24⟩, mq23⟩ := q23
        obtain ⟨hu22, gu22⟩ := mq23
        have fu22 : fr 41 58 u u22 := fr_tr fu7 gu22 (by omega) (by omega)
        have C25 : u22.1 50 = u.1 50 := (gu22.1 50 (by omega)).trans C9
        have C26 : u22.1 51 = u.1 51 := (gu22.1 51 (by omega)).trans C10
        have C27 : u22.1 53 = u.1 53 := (gu22.1 53 (by omega)).trans C11
        have C28 : u22.1 54 = u.1 54 := (gu22.1 54 (by omega)).trans C12
        have C29 : u22.1 55 = u.1 55 := (gu22.1 55 (by omega)).trans C13
        have C30 : u22.1 56 = u.1 56 := (gu22.1 56 (by omega)).trans C14
        have s31 : u22.1 41 1 = x18 := (fr_at gu22 (by omega)).trans s19
        refine g_iload_n dX6_loss_100 rfl ?_
        refine g_isub dX6_loss_101 ?_
        refine g_topi (fun x32 ex32 => ?_)
        exact g_iret (ty := .int) dX6_loss_102 rfl rfl ⟨⟨_, rfl, by first | trivial | lia | grind⟩, hu22, fu22, C25, C26, C27, C28, C29, C30⟩
      · refine g_aload_n dX6_loss_42 rfl ?_
        refine f_X6_48 rfl rfl dX6_loss_43 ?_
        refine f_X6_185 rfl rfl dX6_loss_46 ?_
        refine g_iload_n dX6_loss_49 rfl ?_
        have v33 : vp_in i17 128 := uk_vin 128 rfl (by first | decide | lia | grind) (by first | decide | lia | grind)
        refine g_iald rfl rfl v33 dX6_loss_50 ?_
        refine g_topi (fun x34 ex34 => ?_)
        have bx34 := uk_cl v33
        have rx34 : 0 ≤ x34 ∧ x34 ≤ 7 := by rw [ex34]; exact iv_at hu7 _ _ (uk_pick1 _ (by omega))
        refine g_istore dX6_loss_51 (by decide) ?_
        refine g_iload_n dX6_loss_53 rfl ?_
        refine g_aload_n dX6_loss_54 rfl ?_
        refine f_X6_10 rfl rfl dX6_loss_55 ?_
        refine g_iload dX6_loss_58 rfl ?_
        refine cl_X6_122 (c := 13) (As := [.int x34]) rfl (c_X0_isMade (G := G) hs hu7 uk_isK13 x34 (by first | trivial | decide | lia | grind) (by first | trivial | decide | lia | grind) (d + 2)) rfl (by omega) rfl rfl (Nat.le_of_ble_eq_true rfl) dX6_loss_60 (fun r35 u36 q37 => ?_)
        obtain ⟨⟨x38, rfl, tx38, nx38, zx38⟩, mq37⟩ := q37
        rw [mq37]
        refine g_if_eq (tgt := 70) dX6_loss_63 (by decide) (fun c39 => ?_) (fun c39 => ?_)
        · have zc39 := zx38 c39
          refine g_aload_n dX6_loss_70 rfl ?_
          refine f_X6_10 rfl rfl dX6_loss_71 ?_
          refine f_X6_137 rfl rfl dX6_loss_74 ?_
          refine g_iload dX6_loss_77 rfl ?_
          have v40 : vp_in x34 8 := uk_vin 8 rfl (by first | decide | lia | grind) (by first | decide | lia | grind)
          refine g_iald rfl rfl v40 dX6_loss_79 ?_
          refine g_topi (fun x41 ex41 => ?_)
          refine g_iadd dX6_loss_80 ?_
          refine g_topi (fun x42 ex42 => ?_)
          refine g_istore_n dX6_loss_81 (by decide) ?_
          refine g_iinc (v := i17 + 1) dX6_loss_82 rfl rfl (by decide) ?_
          refine g_goto (tgt := 31) dX6_loss_85 (by decide) ?_
          refine g_pick (lv' := [(0, .ref (uk_ad G 0)), (1, .int m), (2, .int x42), (3, .int (i17 + 1))]) [0, 1, 2, 3] rfl ?_
          exact ihi17 (by first | lia | grind) x42 
        · have zc39 := nx38 c39
          refine g_iconst (v := 0) dX6_loss_66 (by decide) ?_
          refine g_goto (tgt := 80) dX6_loss_67 (by decide) ?_
          refine g_iadd dX6_loss_80 ?_
          refine g_topi (fun x43 ex43 => ?_)
          refine g_istore_n dX6_loss_81 (by decide) ?_
          refine g_iinc (v := i17 + 1) dX6_loss_82 rfl rfl (by decide) ?_
          refine g_goto (tgt := 31) dX6_loss_85 (by decide) ?_
          refine g_pick (lv' := [(0, .ref (uk_ad G 0)), (1, .int m), (2, .int x43), (3, .int (i17 + 1))]) [0, 1, 2, 3] rfl ?_
          exact ihi17 (by first | lia | grind) x43 
    refine g_pick (lv' := [(0, .ref (uk_ad G 0)), (1, .int m), (2, .int 0), (3, .int 0)]) [0, 1, 2, 3] rfl ?_
    exact L31_14 0 (by first | decide | lia | grind) (by first | decide | lia | grind) 0 
  · have zc5 := zx4 c5
    refine g_iconst (v := (-1)) dX6_loss_11 (by decide) ?_
    exact g_iret (ty := .int) dX6_loss_12 rfl rfl ⟨⟨_, rfl, by first | trivial | lia | grind⟩, hu, f0, C50, C51, C53, C54, C55, C56⟩
abbrev q_X6_fitTogether_k (u : uk_Mem) (a : Int32) (b : Int32) (r : Option Value) (u' : uk_Mem) : Prop := (∃ x : Int32, r = some (.int x) ∧ (x = 0 ∨ x = 1) ∧ (¬ x = 0 → True) ∧ (x = 0 → True)) ∧ (iv u' ∧ fr 41 59 u u' ∧ u'.1 50 = u.1 50 ∧ u'.1 51 = u.1 51 ∧ u'.1 53 = u.1 53 ∧ u'.1 54 = u.1 54 ∧ u'.1 55 = u.1 55 ∧ u'.1 56 = u.1 56)
set_option maxHeartbeats 4000000 in
set_option maxRecDepth 20000 in
theorem c_X6_fitTogether_k {G : uk_D} (hs : uk_Sep G) {u : uk_Mem} (hu : iv u) (a : Int32) (b : Int32) (p0 : 0 ≤ a) (p1 : a ≤ 7) (p2 : 0 ≤ b) (p3 : b ≤ 7) (d : Nat) : uk_Meth G (d + 3) mX6_fitTogether [.ref (uk_ad G 0), .int a, .int b] u (q_X6_fitTogether_k u a b) := by
  refine uk_Meth.of hs (by decide) (Nat.le_of_ble_eq_true rfl) (fun X => ?_)
  have f0 : fr 41 59 u u := fr_rf
  have C50 : u.1 50 = u.1 50 := rfl
  have C51 : u.1 51 = u.1 51 := rfl
  have C53 : u.1 53 = u.1 53 := rfl
  have C54 : u.1 54 = u.1 54 := rfl
  have C55 : u.1 55 = u.1 55 := rfl
  have C56 : u.1 56 = u.1 56 := rfl
  refine g_iconst (v := 0) dX6_fitTogether_0 (by decide) ?_
  refine g_istore_n dX6_fitTogether_1 (by decide) ?_
  have L2_0 : ∀ i2 : Int32, 0 ≤ i2 → i2 ≤ 8 → ∀ (u3 : uk_Mem), iv u3 → fr 41 59 u u3 → u3.1 50 = u.1 50 → u3.1 51 = u.1 51 → u3.1 53 = u.1 53 → u3.1 54 = u.1 54 → u3.1 55 = u.1 55 → u3.1 56 = u.1 56 → uk_G G X mX6_fitTogether (d + 3) (q_X6_fitTogether_k u a b) 2 [(0, .ref (uk_ad G 0)), (1, .int a), (2, .int b), (3, .int i2)] [] u3 := by
    refine uk_upl 8 ?_
    intro i2 ai2 bi2 ihi2  u3 hu3 fu3 ji20 ji21 ji22 ji23 ji24 ji25
    have C50_u3 : u3.1 50 = u3.1 50 := rfl
    have C51_u3 : u3.1 51 = u3.1 51 := rfl
    have C53_u3 : u3.1 53 = u3.1 53 := rfl
    have C54_u3 : u3.1 54 = u3.1 54 := rfl
    have C55_u3 : u3.1 55 = u3.1 55 := rfl
    have C56_u3 : u3.1 56 = u3.1 56 := rfl
    refine g_iload_n dX6_fitTogether_2 rfl ?_
    refine g_bipush (v := 8) dX6_fitTogether_3 (by decide) ?_
    refine g_icmp_ge (tgt := 21) dX6_fitTogether_5 (by decide) (fun c4 => ?_) (fun c4 => ?_)
    · refine g_iconst (v := 0) dX6_fitTogether_21 (by decide) ?_
      refine g_istore_n dX6_fitTogether_22 (by decide) ?_
      have L23_4 : ∀ i6 : Int32, 0 ≤ i6 → i6 ≤ 8 → ∀ (u7 : uk_Mem), iv u7 → fr 41 59 u u7 → u7.1 50 = u.1 50 → u7.1 51 = u.1 51 → u7.1 53 = u.1 53 → u7.1 54 = u.1 54 → u7.1 55 = u.1 55 → u7.1 56 = u.1 56 → uk_G G X mX6_fitTogether (d + 3) (q_X6_fitTogether_k u a b) 23 [(0, .ref (uk_ad G 0)), (1, .int a), (2, .int b), (3, .int i6)] [] u7 := by
        refine uk_upl 8 ?_
        intro i6 ai6 bi6 ihi6  u7 hu7 fu7 ji60 ji61 ji62 ji63 ji64 ji65
        have C50_u7 : u7.1 50 = u7.1 50 := rfl
        have C51_u7 : u7.1 51 = u7.1 51 := rfl
        have C53_u7 : u7.1 53 = u7.1 53 := rfl
        have C54_u7 : u7.1 54 = u7.1 54 := rfl
        have C55_u7 : u7.1 55 = u7.1 55 := rfl
        have C56_u7 : u7.1 56 = u7.1 56 := rfl
        refine g_iload_n dX6_fitTogether_23 rfl ?_
        refine g_aload_n dX6_fitTogether_24 rfl ?_
        refine f_X6_10 rfl rfl dX6_fitTogether_25 ?_
        refine f_X6_223 rfl rfl dX6_fitTogether_28 ?_
        refine g_topi (fun x8 ex8 => ?_)
        have rx8 : 0 ≤ x8 ∧ x8 ≤ 8 := by rw [ex8]; exact iv_at hu7 _ _ rfl
        have s9 : u7.1 13 9 = x8 := ex8.symm
        refine g_icmp_ge (tgt := 58) dX6_fitTogether_31 (by decide) (fun c10 => ?_) (fun c10 => ?_)
        · refine g_aload_n dX6_fitTogether_58 rfl ?_
          refine f_X6_48 rfl rfl dX6_fitTogether_59 ?_
          refine g_aload_n dX6_fitTogether_62 rfl ?_
          refine f_X6_10 rfl rfl dX6_fitTogether_63 ?_
          refine g_iload_n dX6_fitTogether_66 rfl ?_
          refine g_bipush (v := 127) dX6_fitTogether_67 (by decide) ?_
          refine cl_X6_177 (c := 41) (As := [.ref (uk_ad G 13), .int a, .int 127]) rfl (c_X1_grind (G := G) hs hu7  a 127 (by first | trivial | decide | lia | grind) (by first | trivial | decide | lia | grind) (d)) rfl (by omega) rfl rfl (Nat.le_of_ble_eq_true rfl) dX6_fitTogether_69 (fun r11 u12 q13 => ?_)
          obtain ⟨rfl, mq13⟩ := q13
          obtain ⟨hu12, gu12⟩ := mq13
          have fu12 : fr 41 59 u u12 := fr_tr fu7 gu12 (by omega) (by omega)
          have C14 : u12.1 50 = u7.1 50 := (gu12.1 50 (by omega)).trans C50_u7
          have C15 : u12.1 51 = u7.1 51 := (gu12.1 51 (by omega)).trans C51_u7
          have C16 : u12.1 53 = u7.1 53 := (gu12.1 53 (by omega)).trans C53_u7
          have C17 : u12.1 54 = u7.1 54 := (gu12.1 54 (by omega)).trans C54_u7
          have C18 : u12.1 55 = u7.1 55 := (gu12.1 55 (by omega)).trans C55_u7
          have C19 : u12.1 56 = u7.1 56 := (gu12.1 56 (by omega)).trans C56_u7
          have s20 : u12.1 13 9 = x8 := (fr_at gu12 (by omega)).trans s9
          refine g_aload_n dX6_fitTogether_72 rfl ?_
          refine f_X6_48 rfl rfl dX6_fitTogether_73 ?_
          refine g_aload_n dX6_fitTogether_76 rfl ?_
          refine f_X6_70 rfl rfl dX6_fitTogether_77 ?_
          refine cl_X6_290 (c := 41) (As := [.ref (uk_ad G 58)]) rfl (c_X1_takeFrom (G := G) hs hu12    (d + 2)) rfl (by omega) rfl rfl (Nat.le_of_ble_eq_true rfl) dX6_fitTogether_80 (fun r21 u22 q23 => ?_)
          obtain ⟨rfl, mq23⟩ := q23
          obtain ⟨hu22, gu22⟩ := mq23
          have fu22 : fr 41 59 u u22 := fr_tr fu12 gu22 (by omega) (by omega)
          have C24 : u22.1 50 = u7.1 50 := (gu22.1 50 (by omega)).trans C14
          have C25 : u22.1 51 = u7.1 51 := (gu22.1 51 (by omega)).trans C15
          have C26 : u22.1 53 = u7.1 53 := (gu22.1 53 (by omega)).trans C16
          have C27 : u22.1 54 = u7.1 54 := (gu22.1 54 (by omega)).trans C17
          have C28 : u22.1 55 = u7.1 55 := (gu22.1 55 (by omega)).trans C18
          have C29 : u22.1 56 = u7.1 56 := (gu22.1 56 (by omega)).trans C19
          have s30 : u22.1 13 9 = x8 := (fr_at gu22 (by omega)).trans s20
          refine g_aload_n dX6_fitTogether_83 rfl ?_
          refine f_X6_48 rfl rfl dX6_fitTogether_84 ?_
          refine g_aload_n dX6_fitTogether_87 rfl ?_
          refine f_X6_10 rfl rfl dX6_fitTogether_88 ?_
          refine g_iload_n dX6_fitTogether_91 rfl ?_
          refine g_bipush (v := 127) dX6_fitTogether_92 (by decide) ?_
          refine cl_X6_177 (c := 41) (As := [.ref (uk_ad G 13), .int b, .int 127]) rfl (c_X1_grind (G := G) hs hu22  b 127 (by first | trivial | decide | lia | grind) (by first | trivial | decide | lia | grind) (d)) rfl (by omega) rfl rfl (Nat.le_of_ble_eq_true rfl) dX6_fitTogether_94 (fun r31 u32 q33 => ?_)
          obtain ⟨rfl, mq33⟩ := q33
          obtain ⟨hu32, gu32⟩ := mq33
          have fu32 : fr 41 59 u u32 := fr_tr fu22 gu32 (by omega) (by omega)
          have C34 : u32.1 50 = u7.1 50 := (gu32.1 50 (by omega)).trans C24
          have C35 : u32.1 51 = u7.1 51 := (gu32.1 51 (by omega)).trans C25
          have C36 : u32.1 53 = u7.1 53 := (gu32.1 53 (by omega)).trans C26
          have C37 : u32.1 54 = u7.1 54 := (gu32.1 54 (by omega)).trans C27
          have C38 : u32.1 55 = u7.1 55 := (gu32.1 55 (by omega)).trans C28
          have C39 : u32.1 56 = u7.1 56 := (gu32.1 56 (by omega)).trans C29
          have s40 : u32.1 13 9 = x8 := (fr_at gu32 (by omega)).trans s30
          refine g_aload_n dX6_fitTogether_97 rfl ?_
          refine f_X6_48 rfl rfl dX6_fitTogether_98 ?_
          refine g_aload_n dX6_fitTogether_101 rfl ?_
          refine f_X6_70 rfl rfl dX6_fitTogether_102 ?_
          refine cl_X6_290 (c := 41) (As := [.ref (uk_ad G 58)]) rfl (c_X1_takeFrom (G := G) hs hu32    (d + 2)) rfl (by omega) rfl rfl (Nat.le_of_ble_eq_true rfl) dX6_fitTogether_105 (fun r41 u42 q43 => ?_)
          obtain ⟨rfl, mq43⟩ := q43
          obtain ⟨hu42, gu42⟩ := mq43
          have fu42 : fr 41 59 u u42 := fr_tr fu32 gu42 (by omega) (by omega)
          have C44 : u42.1 50 = u7.1 50 := (gu42.1 50 (by omega)).trans C34
          have C45 : u42.1 51 = u7.1 51 := (gu42.1 51 (by omega)).trans C35
          have C46 : u42.1 53 = u7.1 53 := (gu42.1 53 (by omega)).trans C36
          have C47 : u42.1 54 = u7.1 54 := (gu42.1 54 (by omega)).trans C37
          have C48 : u42.1 55 = u7.1 55 := (gu42.1 55 (by omega)).trans C38
          have C49 : u42.1 56 = u7.1 56 := (gu42.1 56 (by omega)).trans C39
          have s50 : u42.1 13 9 = x8 := (fr_at gu42 (by omega)).trans s40
          refine g_iconst (v := 0) dX6_fitTogether_108 (by decide) ?_
          refine g_istore_n dX6_fitTogether_109 (by decide) ?_
          have L110_50 : ∀ i52 : Int32, 0 ≤ i52 → i52 ≤ 8 → uk_G G X mX6_fitTogether (d + 3) (q_X6_fitTogether_k u a b) 110 [(0, .ref (uk_ad G 0)), (1, .int a), (2, .int b), (3, .int i52)] [] u42 := by
            refine uk_upl 8 ?_
            intro i52 ai52 bi52 ihi52 
            refine g_iload_n dX6_fitTogether_110 rfl ?_
            refine g_bipush (v := 8) dX6_fitTogether_111 (by decide) ?_
            refine g_icmp_ge (tgt := 133) dX6_fitTogether_113 (by decide) (fun c53 => ?_) (fun c53 => ?_)
            · refine g_iconst (v := 1) dX6_fitTogether_133 (by decide) ?_
              exact g_iret (ty := .boolean) dX6_fitTogether_134 rfl rfl ⟨⟨1, rfl, Or.inr rfl, fun _ => by first | trivial | lia | grind, fun q => absurd q (by decide)⟩, hu42, fu42, (C44.trans ji60), (C45.trans ji61), (C46.trans ji62), (C47.trans ji63), (C48.trans ji64), (C49.trans ji65)⟩
            · refine g_aload_n dX6_fitTogether_116 rfl ?_
              refine f_X6_70 rfl rfl dX6_fitTogether_117 ?_
              refine g_iload_n dX6_fitTogether_120 rfl ?_
              have v54 : vp_in i52 8 := uk_vin 8 rfl (by first | decide | lia | grind) (by first | decide | lia | grind)
              refine g_iald rfl rfl v54 dX6_fitTogether_121 ?_
              refine g_topi (fun x55 ex55 => ?_)
              refine g_if_eq (tgt := 127) dX6_fitTogether_122 (by decide) (fun c56 => ?_) (fun c56 => ?_)
              · refine g_iinc (v := i52 + 1) dX6_fitTogether_127 rfl rfl (by decide) ?_
                refine g_goto (tgt := 110) dX6_fitTogether_130 (by decide) ?_
                refine g_pick (lv' := [(0, .ref (uk_ad G 0)), (1, .int a), (2, .int b), (3, .int (i52 + 1))]) [0, 1, 2, 3] rfl ?_
                exact ihi52 (by first | lia | grind)  
              · refine g_iconst (v := 0) dX6_fitTogether_125 (by decide) ?_
                exact g_iret (ty := .boolean) dX6_fitTogether_126 rfl rfl ⟨⟨0, rfl, Or.inl rfl, fun q => absurd rfl q, fun _ => by first | trivial | lia | grind⟩, hu42, fu42, (C44.trans ji60), (C45.trans ji61), (C46.trans ji62), (C47.trans ji63), (C48.trans ji64), (C49.trans ji65)⟩
          refine g_pick (lv' := [(0, .ref (uk_ad G 0)), (1, .int a), (2, .int b), (3, .int 0)]) [0, 1, 2, 3] rfl ?_
          exact L110_50 0 (by first | decide | lia | grind) (by first | decide | lia | grind)  
        · refine g_aload_n dX6_fitTogether_34 rfl ?_
          refine f_X6_70 rfl rfl dX6_fitTogether_35 ?_
          refine g_aload_n dX6_fitTogether_38 rfl ?_
          refine f_X6_10 rfl rfl dX6_fitTogether_39 ?_
          refine f_X6_226 rfl rfl dX6_fitTogether_42 ?_
          refine g_iload_n dX6_fitTogether_45 rfl ?_
          have v57 : vp_in i6 8 := uk_vin 8 rfl (by first | decide | lia | grind) (by first | decide | lia | grind)
          refine g_iald rfl rfl v57 dX6_fitTogether_46 ?_
          refine g_topi (fun x58 ex58 => ?_)
          have bx58 := uk_cl v57
          have rx58 : 0 ≤ x58 ∧ x58 ≤ 7 := by rw [ex58]; exact iv_at hu7 _ _ (uk_pick1 _ (by omega))
          refine g_dup2 dX6_fitTogether_47 rfl rfl ?_
          have v59 : vp_in x58 8 := uk_vin 8 rfl (by first | decide | lia | grind) (by first | decide | lia | grind)
          refine g_iald rfl rfl v59 dX6_fitTogether_48 ?_
          refine g_topi (fun x60 ex60 => ?_)
          refine g_iconst (v := 1) dX6_fitTogether_49 (by decide) ?_
          refine g_iadd dX6_fitTogether_50 ?_
          refine g_topi (fun x61 ex61 => ?_)
          have v62 : vp_in x58 8 := uk_vin 8 rfl (by first | decide | lia | grind) (by first | decide | lia | grind)
          have b63 := uk_cl v62
          refine g_iast rfl rfl v62 dX6_fitTogether_51 ?_
          refine g_mem (fun u64 eu64 => ?_)
          have hu64 : iv u64 := by rw [eu64]; exact iv_upF hu7 (uk_pick1 _ (by omega))
          have fu64 : fr 41 59 u u64 := by rw [eu64]; exact fr_up fu7 (by omega) (by omega)
          have C65 : u64.1 50 = u7.1 50 := by rw [eu64]; exact (uk_up_oc (by decide)).trans C50_u7
          have C66 : u64.1 51 = u7.1 51 := by rw [eu64]; exact (uk_up_oc (by decide)).trans C51_u7
          have C67 : u64.1 53 = u7.1 53 := by rw [eu64]; exact (uk_up_oc (by decide)).trans C53_u7
          have C68 : u64.1 54 = u7.1 54 := by rw [eu64]; exact (uk_up_oc (by decide)).trans C54_u7
          have C69 : u64.1 55 = u7.1 55 := by rw [eu64]; exact (uk_up_oc (by decide)).trans C55_u7
          have C70 : u64.1 56 = u7.1 56 := by rw [eu64]; exact (uk_up_oc (by decide)).trans C56_u7
          refine g_iinc (v := i6 + 1) dX6_fitTogether_52 rfl rfl (by decide) ?_
          refine g_goto (tgt := 23) dX6_fitTogether_55 (by decide) ?_
          refine g_pick (lv' := [(0, .ref (uk_ad G 0)), (1, .int a), (2, .int b), (3, .int (i6 + 1))]) [0, 1, 2, 3] rfl ?_
          exact ihi6 (by first | lia | grind)  u64 hu64 fu64 (C65.trans ji60) (C66.trans ji61) (C67.trans ji62) (C68.trans ji63) (C69.trans ji64) (C70.trans ji65)
      refine g_pick (lv' := [(0, .ref (uk_ad G 0)), (1, .int a), (2, .int b), (3, .int 0)]) [0, 1, 2, 3] rfl ?_
      exact L23_4 0 (by first | decide | lia | grind) (by first | decide | lia | grind)  u3 hu3 fu3 (C50_u3.trans ji20) (C51_u3.trans ji21) (C53_u3.trans ji22) (C54_u3.trans ji23) (C55_u3.trans ji24) (C56_u3.trans ji25)
    · refine g_aload_n dX6_fitTogether_8 rfl ?_
      refine f_X6_70 rfl rfl dX6_fitTogether_9 ?_
      refine g_iload_n dX6_fitTogether_12 rfl ?_
      refine g_iconst (v := 0) dX6_fitTogether_13 (by decide) ?_
      have v71 : vp_in i2 8 := uk_vin 8 rfl (by first | decide | lia | grind) (by first | decide | lia | grind)
      have b72 := uk_cl v71
      refine g_iast rfl rfl v71 dX6_fitTogether_14 ?_
      refine g_mem (fun u73 eu73 => ?_)
      have hu73 : iv u73 := by rw [eu73]; exact iv_upF hu3 (uk_pick1 _ (by omega))
      have fu73 : fr 41 59 u u73 := by rw [eu73]; exact fr_up fu3 (by omega) (by omega)
      have C74 : u73.1 50 = u3.1 50 := by rw [eu73]; exact (uk_up_oc (by decide)).trans C50_u3
      have C75 : u73.1 51 = u3.1 51 := by rw [eu73]; exact (uk_up_oc (by decide)).trans C51_u3
      have C76 : u73.1 53 = u3.1 53 := by rw [eu73]; exact (uk_up_oc (by decide)).trans C53_u3
      have C77 : u73.1 54 = u3.1 54 := by rw [eu73]; exact (uk_up_oc (by decide)).trans C54_u3
      have C78 : u73.1 55 = u3.1 55 := by rw [eu73]; exact (uk_up_oc (by decide)).trans C55_u3
      have C79 : u73.1 56 = u3.1 56 := by rw [eu73]; exact (uk_up_oc (by decide)).trans C56_u3
      refine g_iinc (v := i2 + 1) dX6_fitTogether_15 rfl rfl (by decide) ?_
      refine g_goto (tgt := 2) dX6_fitTogether_18 (by decide) ?_
      refine g_pick (lv' := [(0, .ref (uk_ad G 0)), (1, .int a), (2, .int b), (3, .int (i2 + 1))]) [0, 1, 2, 3] rfl ?_
      exact ihi2 (by first | lia | grind)  u73 hu73 fu73 (C74.trans ji20) (C75.trans ji21) (C76.trans ji22) (C77.trans ji23) (C78.trans ji24) (C79.trans ji25)
  refine g_pick (lv' := [(0, .ref (uk_ad G 0)), (1, .int a), (2, .int b), (3, .int 0)]) [0, 1, 2, 3] rfl ?_
  exact L2_0 0 (by first | decide | lia | grind) (by first | decide | lia | grind)  u hu f0 C50 C51 C53 C54 C55 C56
abbrev q_X6_pairs_k (u : uk_Mem) (w : Int32) (r : Option Value) (u' : uk_Mem) : Prop := (∃ x : Int32, r = some (.int x) ∧ True) ∧ (iv u' ∧ fr 41 59 u u' ∧ u'.1 50 = u.1 50 ∧ u'.1 51 = u.1 51 ∧ u'.1 53 = u.1 53 ∧ u'.1 54 = u.1 54 ∧ u'.1 55 = u.1 55 ∧ u'.1 56 = u.1 56)
set_option maxHeartbeats 4000000 in
set_option maxRecDepth 20000 in
theorem c_X6_pairs_k {G : uk_D} (hs : uk_Sep G) {u : uk_Mem} (hu : iv u) (w : Int32) (d : Nat) : uk_Meth G (d + 4) mX6_pairs [.ref (uk_ad G 0), .int w] u (q_X6_pairs_k u w) := by
  refine uk_Meth.of hs (by decide) (Nat.le_of_ble_eq_true rfl) (fun X => ?_)
  have f0 : fr 41 59 u u := fr_rf
  have C50 : u.1 50 = u.1 50 := rfl
  have C51 : u.1 51 = u.1 51 := rfl
  have C53 : u.1 53 = u.1 53 := rfl
  have C54 : u.1 54 = u.1 54 := rfl
  have C55 : u.1 55 = u.1 55 := rfl
  have C56 : u.1 56 = u.1 56 := rfl
  refine g_iload_n dX6_pairs_0 rfl ?_
  refine cl_X6_162 (As := [.int w]) rfl (c_X6_isFlag (G := G) hs hu  w  (d + 3)) rfl (by omega) rfl (Nat.le_of_ble_eq_true rfl) dX6_pairs_1 (fun r1 u2 q3 => ?_)
  obtain ⟨⟨x4, rfl, tx4, nx4, zx4⟩, mq3⟩ := q3
  rw [mq3]
  refine g_if_ne (tgt := 9) dX6_pairs_4 (by decide) (fun c5 => ?_) (fun c5 => ?_)
  · have zc5 := nx4 c5
    refine g_iconst (v := 0) dX6_pairs_9 (by decide) ?_
    refine g_istore_n dX6_pairs_10 (by decide) ?_
    refine g_bipush (v := (-4)) dX6_pairs_11 (by decide) ?_
    refine g_istore_n dX6_pairs_13 (by decide) ?_
    refine g_iconst (v := 0) dX6_pairs_14 (by decide) ?_
    refine g_istore dX6_pairs_15 (by decide) ?_
    have L17_5 : ∀ i9 : Int32, 0 ≤ i9 → i9 ≤ 8 → ∀ (w7 : Int32) (w8 : Int32) (u10 : uk_Mem), iv u10 → fr 41 59 u u10 → u10.1 50 = u.1 50 → u10.1 51 = u.1 51 → u10.1 53 = u.1 53 → u10.1 54 = u.1 54 → u10.1 55 = u.1 55 → u10.1 56 = u.1 56 → uk_G G X mX6_pairs (d + 4) (q_X6_pairs_k u w) 17 [(0, .ref (uk_ad G 0)), (1, .int w), (2, .int w7), (3, .int w8), (4, .int i9)] [] u10 := by
      refine uk_upl 8 ?_
      intro i9 ai9 bi9 ihi9 w7 w8 u10 hu10 fu10 ji90 ji91 ji92 ji93 ji94 ji95
      have C50_u10 : u10.1 50 = u10.1 50 := rfl
      have C51_u10 : u10.1 51 = u10.1 51 := rfl
      have C53_u10 : u10.1 53 = u10.1 53 := rfl
      have C54_u10 : u10.1 54 = u10.1 54 := rfl
      have C55_u10 : u10.1 55 = u10.1 55 := rfl
      have C56_u10 : u10.1 56 = u10.1 56 := rfl
      refine g_iload dX6_pairs_17 rfl ?_
      refine g_aload_n dX6_pairs_19 rfl ?_
      refine f_X6_10 rfl rfl dX6_pairs_20 ?_
      refine f_X6_105 rfl rfl dX6_pairs_23 ?_
      refine g_topi (fun x11 ex11 => ?_)
      have rx11 : 0 ≤ x11 ∧ x11 ≤ 8 := by rw [ex11]; exact iv_at hu10 _ _ rfl
      have s12 : u10.1 13 0 = x11 := ex11.symm
      refine g_icmp_ge (tgt := 88) dX6_pairs_26 (by decide) (fun c13 => ?_) (fun c13 => ?_)
      · refine g_iload_n dX6_pairs_88 rfl ?_
        refine g_if_ne (tgt := 96) dX6_pairs_89 (by decide) (fun c14 => ?_) (fun c14 => ?_)
        · refine g_iload_n dX6_pairs_96 rfl ?_
          exact g_iret (ty := .int) dX6_pairs_97 rfl rfl ⟨⟨_, rfl, by first | trivial | lia | grind⟩, hu10, fu10, (C50_u10.trans ji90), (C51_u10.trans ji91), (C53_u10.trans ji92), (C54_u10.trans ji93), (C55_u10.trans ji94), (C56_u10.trans ji95)⟩
        · refine g_iload_n dX6_pairs_92 rfl ?_
          refine g_goto (tgt := 97) dX6_pairs_93 (by decide) ?_
          exact g_iret (ty := .int) dX6_pairs_97 rfl rfl ⟨⟨_, rfl, by first | trivial | lia | grind⟩, hu10, fu10, (C50_u10.trans ji90), (C51_u10.trans ji91), (C53_u10.trans ji92), (C54_u10.trans ji93), (C55_u10.trans ji94), (C56_u10.trans ji95)⟩
      · refine g_iload dX6_pairs_29 rfl ?_
        refine g_istore dX6_pairs_31 (by decide) ?_
        have L33_14 : ∀ i18 : Int32, 0 ≤ i18 → i18 ≤ 8 → ∀ (w16 : Int32) (w17 : Int32) (u19 : uk_Mem), iv u19 → fr 41 59 u u19 → u19.1 50 = u.1 50 → u19.1 51 = u.1 51 → u19.1 53 = u.1 53 → u19.1 54 = u.1 54 → u19.1 55 = u.1 55 → u19.1 56 = u.1 56 → uk_G G X mX6_pairs (d + 4) (q_X6_pairs_k u w) 33 [(0, .ref (uk_ad G 0)), (1, .int w), (2, .int w16), (3, .int w17), (4, .int i9), (5, .int i18)] [] u19 := by
          refine uk_upl 8 ?_
          intro i18 ai18 bi18 ihi18 w16 w17 u19 hu19 fu19 ji180 ji181 ji182 ji183 ji184 ji185
          have C50_u19 : u19.1 50 = u19.1 50 := rfl
          have C51_u19 : u19.1 51 = u19.1 51 := rfl
          have C53_u19 : u19.1 53 = u19.1 53 := rfl
          have C54_u19 : u19.1 54 = u19.1 54 := rfl
          have C55_u19 : u19.1 55 = u19.1 55 := rfl
          have C56_u19 : u19.1 56 = u19.1 56 := rfl
          refine g_iload dX6_pairs_33 rfl ?_
          refine g_aload_n dX6_pairs_35 rfl ?_
          refine f_X6_10 rfl rfl dX6_pairs_36 ?_
          refine f_X6_105 rfl rfl dX6_pairs_39 ?_
          refine g_topi (fun x20 ex20 => ?_)
          have rx20 : 0 ≤ x20 ∧ x20 ≤ 8 := by rw [ex20]; exact iv_at hu19 _ _ rfl
          have s21 : u19.1 13 0 = x20 := ex20.symm
          refine g_icmp_ge (tgt := 82) dX6_pairs_42 (by decide) (fun c22 => ?_) (fun c22 => ?_)
          · refine g_iinc (v := i9 + 1) dX6_pairs_82 rfl rfl (by decide) ?_
            refine g_goto (tgt := 17) dX6_pairs_85 (by decide) ?_
            refine g_pick (lv' := [(0, .ref (uk_ad G 0)), (1, .int w), (2, .int w16), (3, .int w17), (4, .int (i9 + 1))]) [0, 1, 2, 3, 4] rfl ?_
            exact ihi9 (by first | lia | grind) w16 w17 u19 hu19 fu19 (C50_u19.trans ji180) (C51_u19.trans ji181) (C53_u19.trans ji182) (C54_u19.trans ji183) (C55_u19.trans ji184) (C56_u19.trans ji185)
          · refine g_aload_n dX6_pairs_45 rfl ?_
            refine g_iload dX6_pairs_46 rfl ?_
            refine g_iload dX6_pairs_48 rfl ?_
            refine cl_X6_233 (c := 0) (As := [.int i9, .int i18]) rfl (c_X6_fitTogether_k (G := G) hs hu19  i9 i18 (by first | trivial | decide | lia | grind) (by first | trivial | decide | lia | grind) (by first | trivial | decide | lia | grind) (by first | trivial | decide | lia | grind) (d)) rfl (by omega) rfl rfl (Nat.le_of_ble_eq_true rfl) dX6_pairs_50 (fun r23 u24 q25 => ?_)
            obtain ⟨⟨x26, rfl, tx26, nx26, zx26⟩, mq25⟩ := q25
            obtain ⟨hu24, gu24, ku240, ku241, ku242, ku243, ku244, ku245⟩ := mq25
            have fu24 : fr 41 59 u u24 := fr_tr fu19 gu24 (by omega) (by omega)
            have C27 : u24.1 50 = u19.1 50 := ku240.trans C50_u19
            have C28 : u24.1 51 = u19.1 51 := ku241.trans C51_u19
            have C29 : u24.1 53 = u19.1 53 := ku242.trans C53_u19
            have C30 : u24.1 54 = u19.1 54 := ku243.trans C54_u19
            have C31 : u24.1 55 = u19.1 55 := ku244.trans C55_u19
            have C32 : u24.1 56 = u19.1 56 := ku245.trans C56_u19
            have s33 : u24.1 13 0 = x20 := (fr_at gu24 (by omega)).trans s21
            refine g_if_eq (tgt := 76) dX6_pairs_53 (by decide) (fun c34 => ?_) (fun c34 => ?_)
            · have zc34 := zx26 c34
              refine g_iinc (v := i18 + 1) dX6_pairs_76 rfl rfl (by decide) ?_
              refine g_goto (tgt := 33) dX6_pairs_79 (by decide) ?_
              refine g_pick (lv' := [(0, .ref (uk_ad G 0)), (1, .int w), (2, .int w16), (3, .int w17), (4, .int i9), (5, .int (i18 + 1))]) [0, 1, 2, 3, 4, 5] rfl ?_
              exact ihi18 (by first | lia | grind) w16 w17 u24 hu24 fu24 (C27.trans ji180) (C28.trans ji181) (C29.trans ji182) (C30.trans ji183) (C31.trans ji184) (C32.trans ji185)
            · have zc34 := nx26 c34
              refine g_iload_n dX6_pairs_56 rfl ?_
              refine g_if_ne (tgt := 71) dX6_pairs_57 (by decide) (fun c35 => ?_) (fun c35 => ?_)
              · refine g_iload_n dX6_pairs_71 rfl ?_
                refine g_istore_n dX6_pairs_72 (by decide) ?_
                refine g_iinc (v := w16 + 1) dX6_pairs_73 rfl rfl (by decide) ?_
                refine g_iinc (v := i18 + 1) dX6_pairs_76 rfl rfl (by decide) ?_
                refine g_goto (tgt := 33) dX6_pairs_79 (by decide) ?_
                refine g_pick (lv' := [(0, .ref (uk_ad G 0)), (1, .int w), (2, .int (w16 + 1)), (3, .int w17), (4, .int i9), (5, .int (i18 + 1))]) [0, 1, 2, 3, 4, 5] rfl ?_
                exact ihi18 (by first | lia | grind) (w16 + 1) w17 u24 hu24 fu24 (C27.trans ji180) (C28.trans ji181) (C29.trans ji182) (C30.trans ji183) (C31.trans ji184) (C32.trans ji185)
              · refine g_bipush (v := 10) dX6_pairs_60 (by decide) ?_
                refine g_iload dX6_pairs_62 rfl ?_
                refine g_imul dX6_pairs_64 ?_
                refine g_topi (fun x36 ex36 => ?_)
                refine g_iload dX6_pairs_65 rfl ?_
                refine g_iadd dX6_pairs_67 ?_
                refine g_topi (fun x37 ex37 => ?_)
                refine g_goto (tgt := 72) dX6_pairs_68 (by decide) ?_
                refine g_istore_n dX6_pairs_72 (by decide) ?_
                refine g_iinc (v := w16 + 1) dX6_pairs_73 rfl rfl (by decide) ?_
                refine g_iinc (v := i18 + 1) dX6_pairs_76 rfl rfl (by decide) ?_
                refine g_goto (tgt := 33) dX6_pairs_79 (by decide) ?_
                refine g_pick (lv' := [(0, .ref (uk_ad G 0)), (1, .int w), (2, .int (w16 + 1)), (3, .int x37), (4, .int i9), (5, .int (i18 + 1))]) [0, 1, 2, 3, 4, 5] rfl ?_
                exact ihi18 (by first | lia | grind) (w16 + 1) x37 u24 hu24 fu24 (C27.trans ji180) (C28.trans ji181) (C29.trans ji182) (C30.trans ji183) (C31.trans ji184) (C32.trans ji185)
        refine g_pick (lv' := [(0, .ref (uk_ad G 0)), (1, .int w), (2, .int w7), (3, .int w8), (4, .int i9), (5, .int i9)]) [0, 1, 2, 3, 4, 5] rfl ?_
        exact L33_14 i9 (by first | decide | lia | grind) (by first | decide | lia | grind) w7 w8 u10 hu10 fu10 (C50_u10.trans ji90) (C51_u10.trans ji91) (C53_u10.trans ji92) (C54_u10.trans ji93) (C55_u10.trans ji94) (C56_u10.trans ji95)
    refine g_pick (lv' := [(0, .ref (uk_ad G 0)), (1, .int w), (2, .int 0), (3, .int (-4)), (4, .int 0)]) [0, 1, 2, 3, 4] rfl ?_
    exact L17_5 0 (by first | decide | lia | grind) (by first | decide | lia | grind) 0 (-4) u hu f0 C50 C51 C53 C54 C55 C56
  · have zc5 := zx4 c5
    refine g_iconst (v := (-1)) dX6_pairs_7 (by decide) ?_
    exact g_iret (ty := .int) dX6_pairs_8 rfl rfl ⟨⟨_, rfl, by first | trivial | lia | grind⟩, hu, f0, C50, C51, C53, C54, C55, C56⟩
