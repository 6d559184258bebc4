abbrev q_X6_loss_k (u : uk_Mem) (m : Int32) (r : Option Value) (u' : uk_Mem) : Prop := (∃ x : Int32, r = some (.int x) ∧ True) ∧ (iv u' ∧ fr 41 58 u u' ∧ u'.1 50 = u.1 50 ∧ u'.1 51 = u.1 51 ∧ u'.1 53 = u.1 53 ∧ u'.1 54 = u.1 54 ∧ u'.1 55 = u.1 55 ∧ u'.1 56 = u.1 56)
set_option maxHeartbeats 4000000 in
set_option maxRecDepth 20000 in
theorem c_X6_loss_k {G : uk_D} (hs : uk_Sep G) {u : uk_Mem} (hu : iv u) (m : Int32) (d : Nat) : uk_Meth G (d + 3) mX6_loss [.ref (uk_ad G 0), .int m] u (q_X6_loss_k u m) := by
  refine uk_Meth.of hs (by decide) (Nat.le_of_ble_eq_true rfl) (fun X => ?_)
  have f0 : fr 41 58 u u := fr_rf
  have C50 : u.1 50 = u.1 50 := rfl
  have C51 : u.1 51 = u.1 51 := rfl
  have C53 : u.1 53 = u.1 53 := rfl
  have C54 : u.1 54 = u.1 54 := rfl
  have C55 : u.1 55 = u.1 55 := rfl
  have C56 : u.1 56 = u.1 56 := rfl
  refine g_aload_n dX6_loss_0 rfl ?_
  refine f_X6_10 rfl rfl dX6_loss_1 ?_
  refine g_iload_n dX6_loss_4 rfl ?_
  refine cl_X6_118 (c := 13) (As := [.int m]) rfl (c_X0_hasStuff (G := G) hs hu uk_isK13 m  (d + 2)) rfl (by omega) rfl rfl (Nat.le_of_ble_eq_true rfl) dX6_loss_5 (fun r1 u2 q3 => ?_)
  obtain ⟨⟨x4, rfl, tx4, nx4, zx4⟩, mq3⟩ := q3
  rw [mq3]
  refine g_if_ne (tgt := 13) dX6_loss_8 (by decide) (fun c5 => ?_) (fun c5 => ?_)
  · have zc5 := nx4 c5
    refine g_aload_n dX6_loss_13 rfl ?_
    refine f_X6_48 rfl rfl dX6_loss_14 ?_
    refine g_aload_n dX6_loss_17 rfl ?_
    refine f_X6_10 rfl rfl dX6_loss_18 ?_
    refine g_iload_n dX6_loss_21 rfl ?_
    refine g_bipush (v := 127) dX6_loss_22 (by decide) ?_
    refine cl_X6_177 (c := 41) (As := [.ref (uk_ad G 13), .int m, .int 127]) rfl (c_X1_grind (G := G) hs hu  m 127 (by first | trivial | decide | lia | grind) (by first | trivial | decide | lia | grind) (d)) rfl (by omega) rfl rfl (Nat.le_of_ble_eq_true rfl) dX6_loss_24 (fun r6 u7 q8 => ?_)
    obtain ⟨rfl, mq8⟩ := q8
    obtain ⟨hu7, gu7⟩ := mq8
    have fu7 : fr 41 58 u u7 := fr_tr f0 gu7 (by omega) (by omega)
    have C9 : u7.1 50 = u.1 50 := (gu7.1 50 (by omega)).trans C50
    have C10 : u7.1 51 = u.1 51 := (gu7.1 51 (by omega)).trans C51
    have C11 : u7.1 53 = u.1 53 := (gu7.1 53 (by omega)).trans C53
    have C12 : u7.1 54 = u.1 54 := (gu7.1 54 (by omega)).trans C54
    have C13 : u7.1 55 = u.1 55 := (gu7.1 55 (by omega)).trans C55
    have C14 : u7.1 56 = u.1 56 := (gu7.1 56 (by omega)).trans C56
    refine g_iconst (v := 0) dX6_loss_27 (by decide) ?_
    refine g_istore_n dX6_loss_28 (by decide) ?_
    refine g_pick (lv' := [(0, .ref (uk_ad G 0)), (1, .int m), (2, .int 0)]) [0, 1, 2] rfl ?_
    refine g_iconst (v := 0) dX6_loss_29 (by decide) ?_
    refine g_istore_n dX6_loss_30 (by decide) ?_
    refine g_pick (lv' := [(0, .ref (uk_ad G 0)), (1, .int m), (2, .int 0), (3, .int 0)]) [0, 1, 2, 3] rfl ?_
    have L31_14 : ∀ i17 : Int32, 0 ≤ i17 → i17 ≤ 128 → ∀ (w16 : Int32), uk_G G X mX6_loss (d + 3) (q_X6_loss_k u m) 31 [(0, .ref (uk_ad G 0)), (1, .int m), (2, .int w16), (3, .int i17)] [] u7 := by
      refine uk_upl 128 ?_
      intro i17 ai17 bi17 ihi17 w16
      refine g_iload_n dX6_loss_31 rfl ?_
      refine g_aload_n dX6_loss_32 rfl ?_
      refine f_X6_48 rfl rfl dX6_loss_33 ?_
      refine f_X6_184 rfl rfl dX6_loss_36 ?_
      refine g_topi (fun x18 ex18 => ?_)
      have rx18 : 0 ≤ x18 ∧ x18 ≤ 128 := by rw [ex18]; exact iv_at hu7 _ _ rfl
      have s19 : u7.1 41 1 = x18 := ex18.symm
      refine g_icmp_ge (tgt := 88) dX6_loss_39 (by decide) (fun c20 => ?_) (fun c20 => ?_)
      · refine g_aload_n dX6_loss_88 rfl ?_
        refine f_X6_10 rfl rfl dX6_loss_89 ?_
        refine g_iload_n dX6_loss_92 rfl ?_
        refine g_aload_n dX6_loss_93 rfl ?_
        refine f_X6_66 rfl rfl dX6_loss_94 ?_
        refine cl_X6_173 (c := 13) (As := [.int m, .ref (uk_ad G 57)]) rfl (c_X0_rawCost (G := G) hs hu7 uk_isK13 m (by first | trivial | decide | lia | grind) (by first | trivial | decide | lia | grind) (d)) rfl (by omega) rfl rfl (Nat.le_of_ble_eq_true rfl) dX6_loss_97 (fun r21 u22 q23 => ?_)
        obtain ⟨⟨x24, rfl, tx24⟩, mq23⟩ := q23
        obtain ⟨hu22, gu22⟩ := mq23
        have fu22 : fr 41 58 u u22 := fr_tr fu7 gu22 (by omega) (by omega)
        have C25 : u22.1 50 = u.1 50 := (gu22.1 50 (by omega)).trans C9
        have C26 : u22.1 51 = u.1 51 := (gu22.1 51 (by omega)).trans C10
        have C27 : u22.1 53 = u.1 53 := (gu22.1 53 (by omega)).trans C11
        have C28 : u22.1 54 = u.1 54 := (gu22.1 54 (by omega)).trans C12
        have C29 : u22.1 55 = u.1 55 := (gu22.1 55 (by omega)).trans C13
        have C30 : u22.1 56 = u.1 56 := (gu22.1 56 (by omega)).trans C14
        have s31 : u22.1 41 1 = x18 := (fr_at gu22 (by omega)).trans s19
        refine g_iload_n dX6_loss_100 rfl ?_
        refine g_isub dX6_loss_101 ?_
        refine g_topi (fun x32 ex32 => ?_)
        exact g_iret (ty := .int) dX6_loss_102 rfl rfl ⟨⟨_, rfl, by first | trivial | lia | grind⟩, hu22, fu22, C25, C26, C27, C28, C29, C30⟩
      · refine g_aload_n dX6_loss_42 rfl ?_
        refine f_X6_48 rfl rfl dX6_loss_43 ?_
        refine f_X6_185 rfl rfl dX6_loss_46 ?_
        refine g_iload_n dX6_loss_49 rfl ?_
        have v33 : vp_in i17 128 := uk_vin 128 rfl (by first | decide | lia | grind) (by first | decide | lia | grind)
        refine g_iald rfl rfl v33 dX6_loss_50 ?_
        refine g_topi (fun x34 ex34 => ?_)
        have bx34 := uk_cl v33
        have rx34 : 0 ≤ x34 ∧ x34 ≤ 7 := by rw [ex34]; exact iv_at hu7 _ _ (uk_pick1 _ (by omega))
        refine g_istore dX6_loss_51 (by decide) ?_
        refine g_pick (lv' := [(0, .ref (uk_ad G 0)), (1, .int m), (2, .int w16), (3, .int i17), (4, .int x34)]) [0, 1, 2, 3, 4] rfl ?_
        refine g_iload_n dX6_loss_53 rfl ?_
        refine g_aload_n dX6_loss_54 rfl ?_
        refine f_X6_10 rfl rfl dX6_loss_55 ?_
        refine g_iload dX6_loss_58 rfl ?_
        refine cl_X6_122 (c := 13) (As := [.int x34]) rfl (c_X0_isMade (G := G) hs hu7 uk_isK13 x34 (by first | trivial | decide | lia | grind) (by first | trivial | decide | lia | grind) (d + 2)) rfl (by omega) rfl rfl (Nat.le_of_ble_eq_true rfl) dX6_loss_60 (fun r35 u36 q37 => ?_)
        obtain ⟨⟨x38, rfl, tx38, nx38, zx38⟩, mq37⟩ := q37
        rw [mq37]
        refine g_if_eq (tgt := 70) dX6_loss_63 (by decide) (fun c39 => ?_) (fun c39 => ?_)
        · have zc39 := zx38 c39
          refine g_aload_n dX6_loss_70 rfl ?_
          refine f_X6_10 rfl rfl dX6_loss_71 ?_
          refine f_X6_137 rfl rfl dX6_loss_74 ?_
          refine g_iload dX6_loss_77 rfl ?_
          have v40 : vp_in x34 8 := uk_vin 8 rfl (by first | decide | lia | grind) (by first | decide | lia | grind)
          refine g_iald rfl rfl v40 dX6_loss_79 ?_
          refine g_topi (fun x41 ex41 => ?_)
          refine g_iadd dX6_loss_80 ?_
          refine g_topi (fun x42 ex42 => ?_)
          refine g_istore_n dX6_loss_81 (by decide) ?_
          refine g_pick (lv' := [(0, .ref (uk_ad G 0)), (1, .int m), (2, .int x42), (3, .int i17), (4, .int x34)]) [0, 1, 2, 3, 4] rfl ?_
          refine g_iinc (v := i17 + 1) dX6_loss_82 rfl rfl (by decide) ?_
          refine g_pick (lv' := [(0, .ref (uk_ad G 0)), (1, .int m), (2, .int x42), (3, .int (i17 + 1)), (4, .int x34)]) [0, 1, 2, 3, 4] rfl ?_
          refine g_goto (tgt := 31) dX6_loss_85 (by decide) ?_
          refine g_pick (lv' := [(0, .ref (uk_ad G 0)), (1, .int m), (2, .int x42), (3, .int (i17 + 1))]) [0, 1, 2, 3] rfl ?_
          exact ihi17 (by first | lia | grind) x42 
        · have zc39 := nx38 c39
          refine g_iconst (v := 0) dX6_loss_66 (by decide) ?_
          refine g_goto (tgt := 80) dX6_loss_67 (by decide) ?_
          refine g_iadd dX6_loss_80 ?_
          refine g_topi (fun x43 ex43 => ?_)
          refine g_istore_n dX6_loss_81 (by decide) ?_
          refine g_pick (lv' := [(0, .ref (uk_ad G 0)), (1, .int m), (2, .int x43), (3, .int i17), (4, .int x34)]) [0, 1, 2, 3, 4] rfl ?_
          refine g_iinc (v := i17 + 1) dX6_loss_82 rfl rfl (by decide) ?_
          refine g_pick (lv' := [(0, .ref (uk_ad G 0)), (1, .int m), (2, .int x43), (3, .int (i17 + 1)), (4, .int x34)]) [0, 1, 2, 3, 4] rfl ?_
          refine g_goto (tgt := 31) dX6_loss_85 (by decide) ?_
          refine g_pick (lv' := [(0, .ref (uk_ad G 0)), (1, .int m), (2, .int x43), (3, .int (i17 + 1))]) [0, 1, 2, 3] rfl ?_
          exact ihi17 (by first | lia | grind) x43 
    refine g_pick (lv' := [(0, .ref (uk_ad G 0)), (1, .int m), (2, .int 0), (3, .int 0)]) [0, 1, 2, 3] rfl ?_
    exact L31_14 0 (by first | decide | lia | grind) (by first | decide | lia | grind) 0 
  · have zc5 := zx4 c5
    refine g_iconst (v := (-1)) dX6_loss_11 (by decide) ?_
    exact g_iret (ty := .int) dX6_loss_12 rfl rfl ⟨⟨_, rfl, by first | trivial | lia | grind⟩, hu, f0, C50, C51, C53, C54, C55, C56⟩