abbrev q_X4_isNamed (u : uk_Mem) (sj : Nat) (r : Option Value) (u' : uk_Mem) : Prop := (∃ x : Int32, r = some (.int x) ∧ (x = 0 ∨ x = 1) ∧ (¬ x = 0 → True) ∧ (x = 0 → True)) ∧ (u' = u)
set_option maxHeartbeats 4000000 in
set_option maxRecDepth 20000 in
theorem c_X4_isNamed {G : uk_D} (hs : uk_Sep G) {u : uk_Mem} (hu : iv u) {sj : Nat} (hsj : sj < 6) (d : Nat) : uk_Meth G (d + 4) mX4_isNamed [.ref (uk_ad G 2), .ref (uk_ad G (100 + sj))] u (q_X4_isNamed u sj) := by
  refine uk_Meth.of hs (by decide) (Nat.le_of_ble_eq_true rfl) (fun X => ?_)
  have sl := (uk_slen hsj).2
  refine g_aload_n dX4_isNamed_0 rfl ?_
  refine f_X4_22 rfl rfl dX4_isNamed_1 ?_
  refine g_topi (fun x1 ex1 => ?_)
  have s2 : u.1 2 3 = x1 := ex1.symm
  refine g_iconst (v := 1) dX4_isNamed_4 (by decide) ?_
  refine g_icmp_ne (tgt := 24) dX4_isNamed_5 (by decide) (fun c3 => ?_) (fun c3 => ?_)
  · refine g_iconst (v := 0) dX4_isNamed_24 (by decide) ?_
    exact g_iret (ty := .boolean) dX4_isNamed_25 rfl rfl ⟨⟨0, rfl, Or.inl rfl, fun q => absurd rfl q, fun _ => by first | trivial | lia | grind⟩, rfl⟩
  · refine g_aload_n dX4_isNamed_8 rfl ?_
    refine f_X4_19 rfl rfl dX4_isNamed_9 ?_
    refine g_topi (fun x4 ex4 => ?_)
    have rx4 : 0 ≤ x4 ∧ x4 ≤ 160 := by rw [ex4]; exact iv_at hu _ _ rfl
    have s5 : u.1 2 2 = x4 := ex4.symm
    refine g_aload_n dX4_isNamed_12 rfl ?_
    refine f_X4_25 rfl rfl dX4_isNamed_13 ?_
    refine g_topi (fun x6 ex6 => ?_)
    have rx6 : 0 ≤ x6 ∧ x6 ≤ 160 := by rw [ex6]; exact iv_at hu _ _ rfl
    have s7 : u.1 2 4 = x6 := ex6.symm
    refine g_isub dX4_isNamed_16 ?_
    refine g_topi (fun x8 ex8 => ?_)
    refine g_aload_n dX4_isNamed_17 rfl ?_
    refine g_slen hs hsj rfl (by omega) (Nat.le_of_ble_eq_true rfl) dX4_isNamed_18 ?_
    refine g_topi (fun x9 ex9 => ?_)
    refine g_icmp_eq (tgt := 26) dX4_isNamed_21 (by decide) (fun c10 => ?_) (fun c10 => ?_)
    · refine g_iconst (v := 0) dX4_isNamed_26 (by decide) ?_
      refine g_istore_n dX4_isNamed_27 (by decide) ?_
      have L28_10 : ∀ i12 : Int32, 0 ≤ i12 → i12 ≤ 4 → uk_G G X mX4_isNamed (d + 4) (q_X4_isNamed u sj) 28 [(0, .ref (uk_ad G 2)), (1, .ref (uk_ad G (100 + sj))), (2, .int i12)] [] u := by
        refine uk_upl 4 ?_
        intro i12 ai12 bi12 ihi12 
        refine g_iload_n dX4_isNamed_28 rfl ?_
        refine g_aload_n dX4_isNamed_29 rfl ?_
        refine g_slen hs hsj rfl (by omega) (Nat.le_of_ble_eq_true rfl) dX4_isNamed_30 ?_
        refine g_topi (fun x13 ex13 => ?_)
        refine g_icmp_ge (tgt := 63) dX4_isNamed_33 (by decide) (fun c14 => ?_) (fun c14 => ?_)
        · refine g_iconst (v := 1) dX4_isNamed_63 (by decide) ?_
          exact g_iret (ty := .boolean) dX4_isNamed_64 rfl rfl ⟨⟨1, rfl, Or.inr rfl, fun _ => by first | trivial | lia | grind, fun q => absurd q (by decide)⟩, rfl⟩
        · refine g_aload_n dX4_isNamed_36 rfl ?_
          refine f_X4_9 rfl rfl dX4_isNamed_37 ?_
          refine g_aload_n dX4_isNamed_40 rfl ?_
          refine f_X4_25 rfl rfl dX4_isNamed_41 ?_
          refine g_topi (fun x15 ex15 => ?_)
          have rx15 : 0 ≤ x15 ∧ x15 ≤ 160 := by rw [ex15]; exact iv_at hu _ _ rfl
          have qx15 : x15 = x6 := by rw [ex15]; exact s7
          refine g_iload_n dX4_isNamed_44 rfl ?_
          refine g_iadd dX4_isNamed_45 ?_
          refine g_topi (fun x16 ex16 => ?_)
          have v17 : vp_in x16 160 := uk_vin 160 rfl (by first | decide | lia | grind) (by first | decide | lia | grind)
          refine g_bald rfl rfl v17 dX4_isNamed_46 ?_
          refine g_topi (fun x18 ex18 => ?_)
          refine g_aload_n dX4_isNamed_47 rfl ?_
          refine g_iload_n dX4_isNamed_48 rfl ?_
          refine g_schar hs hsj (by first | lia | grind) (by first | lia | grind) rfl (by omega) (Nat.le_of_ble_eq_true rfl) dX4_isNamed_49 ?_
          refine g_topi (fun x19 ex19 => ?_)
          refine g_icmp_eq (tgt := 57) dX4_isNamed_52 (by decide) (fun c20 => ?_) (fun c20 => ?_)
          · refine g_iinc (v := i12 + 1) dX4_isNamed_57 rfl rfl (by decide) ?_
            refine g_goto (tgt := 28) dX4_isNamed_60 (by decide) ?_
            refine g_pick (lv' := [(0, .ref (uk_ad G 2)), (1, .ref (uk_ad G (100 + sj))), (2, .int (i12 + 1))]) [0, 1, 2] rfl ?_
            exact ihi12 (by first | lia | grind)  
          · refine g_iconst (v := 0) dX4_isNamed_55 (by decide) ?_
            exact g_iret (ty := .boolean) dX4_isNamed_56 rfl rfl ⟨⟨0, rfl, Or.inl rfl, fun q => absurd rfl q, fun _ => by first | trivial | lia | grind⟩, rfl⟩
      refine g_pick (lv' := [(0, .ref (uk_ad G 2)), (1, .ref (uk_ad G (100 + sj))), (2, .int 0)]) [0, 1, 2] rfl ?_
      exact L28_10 0 (by first | decide | lia | grind) (by first | decide | lia | grind)  
    · refine g_iconst (v := 0) dX4_isNamed_24 (by decide) ?_
      exact g_iret (ty := .boolean) dX4_isNamed_25 rfl rfl ⟨⟨0, rfl, Or.inl rfl, fun q => absurd rfl q, fun _ => by first | trivial | lia | grind⟩, rfl⟩
abbrev q_X5_refuse (u : uk_Mem) (k : Int32) (a : Int32) (r : Option Value) (u' : uk_Mem) : Prop := (r = none) ∧ (iv u' ∧ fr 1 2 u u' ∧ u'.1 1 2 = k)
set_option maxHeartbeats 4000000 in
set_option maxRecDepth 20000 in
theorem c_X5_refuse {G : uk_D} (hs : uk_Sep G) {u : uk_Mem} (hu : iv u) (k : Int32) (a : Int32) (d : Nat) : uk_Meth G d mX5_refuse [.ref (uk_ad G 1), .int k, .int a] u (q_X5_refuse u k a) := by
  refine uk_Meth.of hs (by decide) (Nat.le_of_ble_eq_true rfl) (fun X => ?_)
  have f0 : fr 1 2 u u := fr_rf
  refine g_aload_n dX5_refuse_0 rfl ?_
  refine g_iload_n dX5_refuse_1 rfl ?_
  refine p_X5_9 rfl rfl dX5_refuse_2 ?_
  refine g_mem (fun u1 eu1 => ?_)
  have hu1 : iv u1 := by rw [eu1]; exact iv_upF hu rfl
  have fu1 : fr 1 2 u u1 := by rw [eu1]; exact fr_up f0 (by omega) (by omega)
  have s2 : u1.1 1 2 = k := by rw [eu1, uk_up_at]; exact if_pos ⟨rfl, rfl⟩
  refine g_aload_n dX5_refuse_5 rfl ?_
  refine g_iload_n dX5_refuse_6 rfl ?_
  refine p_X5_15 rfl rfl dX5_refuse_7 ?_
  refine g_mem (fun u3 eu3 => ?_)
  have hu3 : iv u3 := by rw [eu3]; exact iv_upF hu1 rfl
  have fu3 : fr 1 2 u u3 := by rw [eu3]; exact fr_up fu1 (by omega) (by omega)
  have s4 : u3.1 1 3 = a := by rw [eu3, uk_up_at]; exact if_pos ⟨rfl, rfl⟩
  exact g_vret dX5_refuse_10 rfl ⟨rfl, hu3, fu3, (by grind [uk_up_at])⟩
abbrev q_X5_take (u : uk_Mem) (w : Int32) (n : Int32) (r : Option Value) (u' : uk_Mem) : Prop := (∃ x : Int32, r = some (.int x) ∧ (w = 2 → 0 ≤ x ∧ x ≤ 99 ∧ (u'.1 1 2 = 0 → x ≤ n))) ∧ (iv u' ∧ fr 1 3 u u' ∧ u'.1 2 1 = u.1 2 1 ∧ (u'.1 1 2 = 0 → u.1 1 2 = 0))
set_option maxHeartbeats 4000000 in
set_option maxRecDepth 20000 in
theorem c_X5_take {G : uk_D} (hs : uk_Sep G) {u : uk_Mem} (hu : iv u) (w : Int32) (n : Int32) (d : Nat) : uk_Meth G (d + 2) mX5_take [.ref (uk_ad G 1), .int w, .int n] u (q_X5_take u w n) := by
  refine uk_Meth.of hs (by decide) (Nat.le_of_ble_eq_true rfl) (fun X => ?_)
  have f0 : fr 1 3 u u := fr_rf
  refine g_aload_n dX5_take_0 rfl ?_
  refine f_X5_9 rfl rfl dX5_take_1 ?_
  refine g_topi (fun x1 ex1 => ?_)
  have s2 : u.1 1 2 = x1 := ex1.symm
  refine g_if_eq (tgt := 9) dX5_take_4 (by decide) (fun c3 => ?_) (fun c3 => ?_)
  · refine g_aload_n dX5_take_9 rfl ?_
    refine f_X5_21 rfl rfl dX5_take_10 ?_
    refine cl_X5_51 (c := 2) (As := []) rfl (c_X4_readToken (G := G) hs hu    (d)) rfl (by omega) rfl rfl (Nat.le_of_ble_eq_true rfl) dX5_take_13 (fun r4 u5 q6 => ?_)
    obtain ⟨rfl, mq6⟩ := q6
    obtain ⟨hu5, gu5, ku50, ku51⟩ := mq6
    have fu5 : fr 1 3 u u5 := fr_tr f0 gu5 (by omega) (by omega)
    have wu5_4_0 : u5.1 4 0 = u.1 4 0 := fr_at gu5 (by omega)
    have wu5_1_2 : u5.1 1 2 = u.1 1 2 := fr_at gu5 (by omega)
    have s7 : u5.1 1 2 = x1 := (fr_at gu5 (by omega)).trans s2
    refine g_aload_n dX5_take_16 rfl ?_
    refine f_X5_21 rfl rfl dX5_take_17 ?_
    refine f_X5_54 rfl rfl dX5_take_20 ?_
    refine g_topi (fun x8 ex8 => ?_)
    have s9 : u5.1 2 3 = x8 := ex8.symm
    refine g_iconst (v := 4) dX5_take_23 (by decide) ?_
    refine g_icmp_ne (tgt := 42) dX5_take_24 (by decide) (fun c10 => ?_) (fun c10 => ?_)
    · refine g_aload_n dX5_take_42 rfl ?_
      refine f_X5_21 rfl rfl dX5_take_43 ?_
      refine f_X5_54 rfl rfl dX5_take_46 ?_
      refine g_topi (fun x11 ex11 => ?_)
      have qx11 : x11 = x8 := by rw [ex11]; exact s9
      refine g_iload_n dX5_take_49 rfl ?_
      refine g_icmp_eq (tgt := 68) dX5_take_50 (by decide) (fun c12 => ?_) (fun c12 => ?_)
      · refine g_aload_n dX5_take_68 rfl ?_
        refine f_X5_21 rfl rfl dX5_take_69 ?_
        refine f_X5_105 rfl rfl dX5_take_72 ?_
        refine g_topi (fun x13 ex13 => ?_)
        have s14 : u5.1 2 5 = x13 := ex13.symm
        refine g_iload_n dX5_take_75 rfl ?_
        refine g_icmp_le (tgt := 91) dX5_take_76 (by decide) (fun c15 => ?_) (fun c15 => ?_)
        · refine g_aload_n dX5_take_91 rfl ?_
          refine f_X5_9 rfl rfl dX5_take_92 ?_
          refine g_topi (fun x16 ex16 => ?_)
          have qx16 : x16 = x1 := by rw [ex16]; exact s7
          refine g_if_ne (tgt := 108) dX5_take_95 (by decide) (fun c17 => ?_) (fun c17 => ?_)
          · refine g_iconst (v := 0) dX5_take_108 (by decide) ?_
            exact g_iret (ty := .int) dX5_take_109 rfl rfl ⟨⟨_, rfl, by first | trivial | lia | grind⟩, hu5, fu5, (by first | rfl | grind | grind [uk_up_at]), (by first | rfl | grind | grind [uk_up_at])⟩
          · refine g_aload_n dX5_take_98 rfl ?_
            refine f_X5_21 rfl rfl dX5_take_99 ?_
            refine f_X5_105 rfl rfl dX5_take_102 ?_
            refine g_topi (fun x18 ex18 => ?_)
            have qx18 : x18 = x13 := by rw [ex18]; exact s14
            refine g_goto (tgt := 109) dX5_take_105 (by decide) ?_
            exact g_iret (ty := .int) dX5_take_109 rfl rfl ⟨⟨_, rfl, by first | trivial | lia | grind⟩, hu5, fu5, (by first | rfl | grind | grind [uk_up_at]), (by first | rfl | grind | grind [uk_up_at])⟩
        · refine g_aload_n dX5_take_79 rfl ?_
          refine g_iconst (v := 3) dX5_take_80 (by decide) ?_
          refine g_aload_n dX5_take_81 rfl ?_
          refine f_X5_21 rfl rfl dX5_take_82 ?_
          refine f_X5_61 rfl rfl dX5_take_85 ?_
          refine g_topi (fun x19 ex19 => ?_)
          have rx19 : 0 ≤ x19 ∧ x19 ≤ 160 := by rw [ex19]; exact iv_at hu5 _ _ rfl
          have s20 : u5.1 2 4 = x19 := ex19.symm
          refine cl_X5_47 (c := 1) (As := [.int 3, .int x19]) rfl (c_X5_refuse (G := G) hs hu5  3 x19  (d + 1)) rfl (by omega) rfl rfl (Nat.le_of_ble_eq_true rfl) dX5_take_88 (fun r21 u22 q23 => ?_)
          obtain ⟨rfl, mq23⟩ := q23
          obtain ⟨hu22, gu22, ku220⟩ := mq23
          have fu22 : fr 1 3 u u22 := fr_tr fu5 gu22 (by omega) (by omega)
          have wu22_2_1 : u22.1 2 1 = u5.1 2 1 := fr_at gu22 (by omega)
          have wu22_4_0 : u22.1 4 0 = u5.1 4 0 := fr_at gu22 (by omega)
          have s24 : u22.1 2 3 = x8 := (fr_at gu22 (by omega)).trans s9
          have s25 : u22.1 2 5 = x13 := (fr_at gu22 (by omega)).trans s14
          have s26 : u22.1 2 4 = x19 := (fr_at gu22 (by omega)).trans s20
          refine g_aload_n dX5_take_91 rfl ?_
          refine f_X5_9 rfl rfl dX5_take_92 ?_
          refine g_topi (fun x27 ex27 => ?_)
          have s28 : u22.1 1 2 = x27 := ex27.symm
          refine g_if_ne (tgt := 108) dX5_take_95 (by decide) (fun c29 => ?_) (fun c29 => ?_)
          · refine g_iconst (v := 0) dX5_take_108 (by decide) ?_
            exact g_iret (ty := .int) dX5_take_109 rfl rfl ⟨⟨_, rfl, by first | trivial | lia | grind⟩, hu22, fu22, (by first | rfl | grind | grind [uk_up_at]), (by first | rfl | grind | grind [uk_up_at])⟩
          · refine g_aload_n dX5_take_98 rfl ?_
            refine f_X5_21 rfl rfl dX5_take_99 ?_
            refine f_X5_105 rfl rfl dX5_take_102 ?_
            refine g_topi (fun x30 ex30 => ?_)
            have qx30 : x30 = x13 := by rw [ex30]; exact s25
            refine g_goto (tgt := 109) dX5_take_105 (by decide) ?_
            exact g_iret (ty := .int) dX5_take_109 rfl rfl ⟨⟨_, rfl, by first | trivial | lia | grind⟩, hu22, fu22, (by first | rfl | grind | grind [uk_up_at]), (by first | rfl | grind | grind [uk_up_at])⟩
      · refine g_aload_n dX5_take_53 rfl ?_
        refine g_iconst (v := 2) dX5_take_54 (by decide) ?_
        refine g_aload_n dX5_take_55 rfl ?_
        refine f_X5_21 rfl rfl dX5_take_56 ?_
        refine f_X5_61 rfl rfl dX5_take_59 ?_
        refine g_topi (fun x31 ex31 => ?_)
        have rx31 : 0 ≤ x31 ∧ x31 ≤ 160 := by rw [ex31]; exact iv_at hu5 _ _ rfl
        have s32 : u5.1 2 4 = x31 := ex31.symm
        refine cl_X5_47 (c := 1) (As := [.int 2, .int x31]) rfl (c_X5_refuse (G := G) hs hu5  2 x31  (d + 1)) rfl (by omega) rfl rfl (Nat.le_of_ble_eq_true rfl) dX5_take_62 (fun r33 u34 q35 => ?_)
        obtain ⟨rfl, mq35⟩ := q35
        obtain ⟨hu34, gu34, ku340⟩ := mq35
        have fu34 : fr 1 3 u u34 := fr_tr fu5 gu34 (by omega) (by omega)
        have wu34_2_1 : u34.1 2 1 = u5.1 2 1 := fr_at gu34 (by omega)
        have wu34_4_0 : u34.1 4 0 = u5.1 4 0 := fr_at gu34 (by omega)
        have s36 : u34.1 2 3 = x8 := (fr_at gu34 (by omega)).trans s9
        have s37 : u34.1 2 4 = x31 := (fr_at gu34 (by omega)).trans s32
        refine g_goto (tgt := 91) dX5_take_65 (by decide) ?_
        refine g_aload_n dX5_take_91 rfl ?_
        refine f_X5_9 rfl rfl dX5_take_92 ?_
        refine g_topi (fun x38 ex38 => ?_)
        have s39 : u34.1 1 2 = x38 := ex38.symm
        refine g_if_ne (tgt := 108) dX5_take_95 (by decide) (fun c40 => ?_) (fun c40 => ?_)
        · refine g_iconst (v := 0) dX5_take_108 (by decide) ?_
          exact g_iret (ty := .int) dX5_take_109 rfl rfl ⟨⟨_, rfl, by first | trivial | lia | grind⟩, hu34, fu34, (by first | rfl | grind | grind [uk_up_at]), (by first | rfl | grind | grind [uk_up_at])⟩
        · refine g_aload_n dX5_take_98 rfl ?_
          refine f_X5_21 rfl rfl dX5_take_99 ?_
          refine f_X5_105 rfl rfl dX5_take_102 ?_
          refine g_topi (fun x41 ex41 => ?_)
          have s42 : u34.1 2 5 = x41 := ex41.symm
          refine g_goto (tgt := 109) dX5_take_105 (by decide) ?_
          exact g_iret (ty := .int) dX5_take_109 rfl rfl ⟨⟨_, rfl, by first | trivial | lia | grind⟩, hu34, fu34, (by first | rfl | grind | grind [uk_up_at]), (by first | rfl | grind | grind [uk_up_at])⟩
    · refine g_aload_n dX5_take_27 rfl ?_
      refine g_iconst (v := 1) dX5_take_28 (by decide) ?_
      refine g_aload_n dX5_take_29 rfl ?_
      refine f_X5_21 rfl rfl dX5_take_30 ?_
      refine f_X5_61 rfl rfl dX5_take_33 ?_
      refine g_topi (fun x43 ex43 => ?_)
      have rx43 : 0 ≤ x43 ∧ x43 ≤ 160 := by rw [ex43]; exact iv_at hu5 _ _ rfl
      have s44 : u5.1 2 4 = x43 := ex43.symm
      refine cl_X5_47 (c := 1) (As := [.int 1, .int x43]) rfl (c_X5_refuse (G := G) hs hu5  1 x43  (d + 1)) rfl (by omega) rfl rfl (Nat.le_of_ble_eq_true rfl) dX5_take_36 (fun r45 u46 q47 => ?_)
      obtain ⟨rfl, mq47⟩ := q47
      obtain ⟨hu46, gu46, ku460⟩ := mq47
      have fu46 : fr 1 3 u u46 := fr_tr fu5 gu46 (by omega) (by omega)
      have wu46_2_1 : u46.1 2 1 = u5.1 2 1 := fr_at gu46 (by omega)
      have wu46_4_0 : u46.1 4 0 = u5.1 4 0 := fr_at gu46 (by omega)
      have s48 : u46.1 2 3 = x8 := (fr_at gu46 (by omega)).trans s9
      have s49 : u46.1 2 4 = x43 := (fr_at gu46 (by omega)).trans s44
      refine g_goto (tgt := 91) dX5_take_39 (by decide) ?_
      refine g_aload_n dX5_take_91 rfl ?_
      refine f_X5_9 rfl rfl dX5_take_92 ?_
      refine g_topi (fun x50 ex50 => ?_)
      have s51 : u46.1 1 2 = x50 := ex50.symm
      refine g_if_ne (tgt := 108) dX5_take_95 (by decide) (fun c52 => ?_) (fun c52 => ?_)
      · refine g_iconst (v := 0) dX5_take_108 (by decide) ?_
        exact g_iret (ty := .int) dX5_take_109 rfl rfl ⟨⟨_, rfl, by first | trivial | lia | grind⟩, hu46, fu46, (by first | rfl | grind | grind [uk_up_at]), (by first | rfl | grind | grind [uk_up_at])⟩
      · refine g_aload_n dX5_take_98 rfl ?_
        refine f_X5_21 rfl rfl dX5_take_99 ?_
        refine f_X5_105 rfl rfl dX5_take_102 ?_
        refine g_topi (fun x53 ex53 => ?_)
        have s54 : u46.1 2 5 = x53 := ex53.symm
        refine g_goto (tgt := 109) dX5_take_105 (by decide) ?_
        exact g_iret (ty := .int) dX5_take_109 rfl rfl ⟨⟨_, rfl, by first | trivial | lia | grind⟩, hu46, fu46, (by first | rfl | grind | grind [uk_up_at]), (by first | rfl | grind | grind [uk_up_at])⟩
  · refine g_iconst (v := 0) dX5_take_7 (by decide) ?_
    exact g_iret (ty := .int) dX5_take_8 rfl rfl ⟨⟨_, rfl, by first | trivial | lia | grind⟩, hu, f0, (by first | rfl | grind | grind [uk_up_at]), (by first | rfl | grind | grind [uk_up_at])⟩
abbrev q_X5_readRaw (u : uk_Mem)  (r : Option Value) (u' : uk_Mem) : Prop := (r = none) ∧ (iv u' ∧ fr 1 13 u u' ∧ u'.1 2 1 = u.1 2 1)
set_option maxHeartbeats 4000000 in
set_option maxRecDepth 20000 in
theorem c_X5_readRaw {G : uk_D} (hs : uk_Sep G) {u : uk_Mem} (hu : iv u) (p0 : u.1 4 0 ≤ 7) (d : Nat) : uk_Meth G (d + 3) mX5_readRaw [.ref (uk_ad G 1)] u (q_X5_readRaw u) := by
  refine uk_Meth.of hs (by decide) (Nat.le_of_ble_eq_true rfl) (fun X => ?_)
  have f0 : fr 1 13 u u := fr_rf
  refine g_aload_n dX5_readRaw_0 rfl ?_
  refine g_iconst (v := 2) dX5_readRaw_1 (by decide) ?_
  refine g_bipush (v := 9) dX5_readRaw_2 (by decide) ?_
  refine cl_X5_90 (c := 1) (As := [.int 2, .int 9]) rfl (c_X5_take (G := G) hs hu  2 9  (d)) rfl (by omega) rfl rfl (Nat.le_of_ble_eq_true rfl) dX5_readRaw_4 (fun r1 u2 q3 => ?_)
  obtain ⟨⟨x4, rfl, tx4⟩, mq3⟩ := q3
  obtain ⟨hu2, gu2, ku20, ku21⟩ := mq3
  have fu2 : fr 1 13 u u2 := fr_tr f0 gu2 (by omega) (by omega)
  have wu2_4_0 : u2.1 4 0 = u.1 4 0 := fr_at gu2 (by omega)
  refine g_istore_n dX5_readRaw_7 (by decide) ?_
  refine g_aload_n dX5_readRaw_8 rfl ?_
  refine g_iconst (v := 2) dX5_readRaw_9 (by decide) ?_
  refine g_bipush (v := 9) dX5_readRaw_10 (by decide) ?_
  refine cl_X5_90 (c := 1) (As := [.int 2, .int 9]) rfl (c_X5_take (G := G) hs hu2  2 9  (d)) rfl (by omega) rfl rfl (Nat.le_of_ble_eq_true rfl) dX5_readRaw_12 (fun r5 u6 q7 => ?_)
  obtain ⟨⟨x8, rfl, tx8⟩, mq7⟩ := q7
  obtain ⟨hu6, gu6, ku60, ku61⟩ := mq7
  have fu6 : fr 1 13 u u6 := fr_tr fu2 gu6 (by omega) (by omega)
  have wu6_4_0 : u6.1 4 0 = u2.1 4 0 := fr_at gu6 (by omega)
  refine g_istore_n dX5_readRaw_15 (by decide) ?_
  refine g_aload_n dX5_readRaw_16 rfl ?_
  refine g_iconst (v := 3) dX5_readRaw_17 (by decide) ?_
  refine g_iconst (v := 0) dX5_readRaw_18 (by decide) ?_
  refine cl_X5_90 (c := 1) (As := [.int 3, .int 0]) rfl (c_X5_take (G := G) hs hu6  3 0  (d)) rfl (by omega) rfl rfl (Nat.le_of_ble_eq_true rfl) dX5_readRaw_19 (fun r9 u10 q11 => ?_)
  obtain ⟨⟨x12, rfl, tx12⟩, mq11⟩ := q11
  obtain ⟨hu10, gu10, ku100, ku101⟩ := mq11
  have fu10 : fr 1 13 u u10 := fr_tr fu6 gu10 (by omega) (by omega)
  have wu10_4_0 : u10.1 4 0 = u6.1 4 0 := fr_at gu10 (by omega)
  refine g_pop dX5_readRaw_22 rfl ?_
  refine g_aload_n dX5_readRaw_23 rfl ?_
  refine f_X5_9 rfl rfl dX5_readRaw_24 ?_
  refine g_topi (fun x13 ex13 => ?_)
  have s14 : u10.1 1 2 = x13 := ex13.symm
  refine g_if_ne (tgt := 39) dX5_readRaw_27 (by decide) (fun c15 => ?_) (fun c15 => ?_)
  · exact g_vret dX5_readRaw_39 rfl ⟨rfl, hu10, fu10, (by first | rfl | grind | grind [uk_up_at])⟩
  · refine g_aload_n dX5_readRaw_30 rfl ?_
    refine f_X5_25 rfl rfl dX5_readRaw_31 ?_
    refine g_iload_n dX5_readRaw_34 rfl ?_
    refine g_iload_n dX5_readRaw_35 rfl ?_
    refine cl_X5_94 (c := 4) (As := [.int x4, .int x8]) rfl (c_X0_addRaw (G := G) hs hu10 uk_isK4 x4 x8 (by first | trivial | decide | lia | grind) (d + 1)) rfl (by omega) rfl rfl (Nat.le_of_ble_eq_true rfl) dX5_readRaw_36 (fun r16 u17 q18 => ?_)
    obtain ⟨rfl, mq18⟩ := q18
    obtain ⟨hu17, gu17⟩ := mq18
    have fu17 : fr 1 13 u u17 := fr_tr fu10 gu17 (by omega) (by omega)
    have wu17_2_1 : u17.1 2 1 = u10.1 2 1 := fr_at gu17 (by omega)
    have wu17_1_2 : u17.1 1 2 = u10.1 1 2 := fr_at gu17 (by omega)
    have s19 : u17.1 1 2 = x13 := (fr_at gu17 (by omega)).trans s14
    exact g_vret dX5_readRaw_39 rfl ⟨rfl, hu17, fu17, (by first | rfl | grind | grind [uk_up_at])⟩
abbrev q_X5_readMade (u : uk_Mem) (k : Int32) (r : Option Value) (u' : uk_Mem) : Prop := (r = none) ∧ (iv u' ∧ fr 1 13 u u' ∧ u'.1 2 1 = u.1 2 1)
set_option maxHeartbeats 4000000 in
set_option maxRecDepth 20000 in
theorem c_X5_readMade {G : uk_D} (hs : uk_Sep G) {u : uk_Mem} (hu : iv u) (k : Int32) (p0 : u.1 4 0 ≤ 7) (d : Nat) : uk_Meth G (d + 3) mX5_readMade [.ref (uk_ad G 1), .int k] u (q_X5_readMade u k) := by
  refine uk_Meth.of hs (by decide) (Nat.le_of_ble_eq_true rfl) (fun X => ?_)
  have f0 : fr 1 13 u u := fr_rf
  refine g_aload_n dX5_readMade_0 rfl ?_
  refine g_iconst (v := 2) dX5_readMade_1 (by decide) ?_
  refine g_aload_n dX5_readMade_2 rfl ?_
  refine f_X5_25 rfl rfl dX5_readMade_3 ?_
  refine f_X5_43 rfl rfl dX5_readMade_6 ?_
  refine g_topi (fun x1 ex1 => ?_)
  have rx1 : 0 ≤ x1 ∧ x1 ≤ 8 := by rw [ex1]; exact iv_at hu _ _ rfl
  have s2 : u.1 4 0 = x1 := ex1.symm
  refine g_iconst (v := 1) dX5_readMade_9 (by decide) ?_
  refine g_isub dX5_readMade_10 ?_
  refine g_topi (fun x3 ex3 => ?_)
  refine cl_X5_90 (c := 1) (As := [.int 2, .int x3]) rfl (c_X5_take (G := G) hs hu  2 x3  (d)) rfl (by omega) rfl rfl (Nat.le_of_ble_eq_true rfl) dX5_readMade_11 (fun r4 u5 q6 => ?_)
  obtain ⟨⟨x7, rfl, tx7⟩, mq6⟩ := q6
  obtain ⟨hu5, gu5, ku50, ku51⟩ := mq6
  have fu5 : fr 1 13 u u5 := fr_tr f0 gu5 (by omega) (by omega)
  have wu5_4_0 : u5.1 4 0 = u.1 4 0 := fr_at gu5 (by omega)
  have s8 : u5.1 4 0 = x1 := (fr_at gu5 (by omega)).trans s2
  refine g_istore_n dX5_readMade_14 (by decide) ?_
  refine g_aload_n dX5_readMade_15 rfl ?_
  refine g_iconst (v := 2) dX5_readMade_16 (by decide) ?_
  refine g_aload_n dX5_readMade_17 rfl ?_
  refine f_X5_25 rfl rfl dX5_readMade_18 ?_
  refine f_X5_43 rfl rfl dX5_readMade_21 ?_
  refine g_topi (fun x9 ex9 => ?_)
  have rx9 : 0 ≤ x9 ∧ x9 ≤ 8 := by rw [ex9]; exact iv_at hu5 _ _ rfl
  have qx9 : x9 = x1 := by rw [ex9]; exact s8
  refine g_iconst (v := 1) dX5_readMade_24 (by decide) ?_
  refine g_isub dX5_readMade_25 ?_
  refine g_topi (fun x10 ex10 => ?_)
  refine cl_X5_90 (c := 1) (As := [.int 2, .int x10]) rfl (c_X5_take (G := G) hs hu5  2 x10  (d)) rfl (by omega) rfl rfl (Nat.le_of_ble_eq_true rfl) dX5_readMade_26 (fun r11 u12 q13 => ?_)
  obtain ⟨⟨x14, rfl, tx14⟩, mq13⟩ := q13
  obtain ⟨hu12, gu12, ku120, ku121⟩ := mq13
  have fu12 : fr 1 13 u u12 := fr_tr fu5 gu12 (by omega) (by omega)
  have wu12_4_0 : u12.1 4 0 = u5.1 4 0 := fr_at gu12 (by omega)
  have s15 : u12.1 4 0 = x1 := (fr_at gu12 (by omega)).trans s8
  refine g_istore_n dX5_readMade_29 (by decide) ?_
  refine g_aload_n dX5_readMade_30 rfl ?_
  refine g_iconst (v := 2) dX5_readMade_31 (by decide) ?_
  refine g_bipush (v := 9) dX5_readMade_32 (by decide) ?_
  refine cl_X5_90 (c := 1) (As := [.int 2, .int 9]) rfl (c_X5_take (G := G) hs hu12  2 9  (d)) rfl (by omega) rfl rfl (Nat.le_of_ble_eq_true rfl) dX5_readMade_34 (fun r16 u17 q18 => ?_)
  obtain ⟨⟨x19, rfl, tx19⟩, mq18⟩ := q18
  obtain ⟨hu17, gu17, ku170, ku171⟩ := mq18
  have fu17 : fr 1 13 u u17 := fr_tr fu12 gu17 (by omega) (by omega)
  have wu17_4_0 : u17.1 4 0 = u12.1 4 0 := fr_at gu17 (by omega)
  have s20 : u17.1 4 0 = x1 := (fr_at gu17 (by omega)).trans s15
  refine g_istore dX5_readMade_37 (by decide) ?_
  refine g_aload_n dX5_readMade_39 rfl ?_
  refine g_iconst (v := 3) dX5_readMade_40 (by decide) ?_
  refine g_iconst (v := 0) dX5_readMade_41 (by decide) ?_
  refine cl_X5_90 (c := 1) (As := [.int 3, .int 0]) rfl (c_X5_take (G := G) hs hu17  3 0  (d)) rfl (by omega) rfl rfl (Nat.le_of_ble_eq_true rfl) dX5_readMade_42 (fun r21 u22 q23 => ?_)
  obtain ⟨⟨x24, rfl, tx24⟩, mq23⟩ := q23
  obtain ⟨hu22, gu22, ku220, ku221⟩ := mq23
  have fu22 : fr 1 13 u u22 := fr_tr fu17 gu22 (by omega) (by omega)
  have wu22_4_0 : u22.1 4 0 = u17.1 4 0 := fr_at gu22 (by omega)
  have s25 : u22.1 4 0 = x1 := (fr_at gu22 (by omega)).trans s20
  refine g_pop dX5_readMade_45 rfl ?_
  refine g_aload_n dX5_readMade_46 rfl ?_
  refine f_X5_9 rfl rfl dX5_readMade_47 ?_
  refine g_topi (fun x26 ex26 => ?_)
  have s27 : u22.1 1 2 = x26 := ex26.symm
  refine g_if_ne (tgt := 65) dX5_readMade_50 (by decide) (fun c28 => ?_) (fun c28 => ?_)
  · exact g_vret dX5_readMade_65 rfl ⟨rfl, hu22, fu22, (by first | rfl | grind | grind [uk_up_at])⟩
  · refine g_aload_n dX5_readMade_53 rfl ?_
    refine f_X5_25 rfl rfl dX5_readMade_54 ?_
    refine g_iload_n dX5_readMade_57 rfl ?_
    refine g_iload_n dX5_readMade_58 rfl ?_
    refine g_iload_n dX5_readMade_59 rfl ?_
    refine g_iload dX5_readMade_60 rfl ?_
    refine cl_X5_97 (c := 4) (As := [.int k, .int x7, .int x14, .int x19]) rfl (c_X0_addMade (G := G) hs hu22 uk_isK4 k x7 x14 x19 (by first | trivial | decide | lia | grind) (by first | trivial | decide | lia | grind) (by first | trivial | decide | lia | grind) (by first | trivial | decide | lia | grind) (by first | trivial | decide | lia | grind) (d + 2)) rfl (by omega) rfl rfl (Nat.le_of_ble_eq_true rfl) dX5_readMade_62 (fun r29 u30 q31 => ?_)
    obtain ⟨rfl, mq31⟩ := q31
    obtain ⟨hu30, gu30, ku300⟩ := mq31
    have fu30 : fr 1 13 u u30 := fr_tr fu22 gu30 (by omega) (by omega)
    have wu30_2_1 : u30.1 2 1 = u22.1 2 1 := fr_at gu30 (by omega)
    have wu30_1_2 : u30.1 1 2 = u22.1 1 2 := fr_at gu30 (by omega)
    have s32 : u30.1 1 2 = x26 := (fr_at gu30 (by omega)).trans s27
    exact g_vret dX5_readMade_65 rfl ⟨rfl, hu30, fu30, (by first | rfl | grind | grind [uk_up_at])⟩
abbrev q_X5_readHave (u : uk_Mem)  (r : Option Value) (u' : uk_Mem) : Prop := (r = none) ∧ (iv u' ∧ fr 1 13 u u' ∧ u'.1 2 1 = u.1 2 1)
set_option maxHeartbeats 4000000 in
set_option maxRecDepth 20000 in
theorem c_X5_readHave {G : uk_D} (hs : uk_Sep G) {u : uk_Mem} (hu : iv u)  (d : Nat) : uk_Meth G (d + 3) mX5_readHave [.ref (uk_ad G 1)] u (q_X5_readHave u) := by
  refine uk_Meth.of hs (by decide) (Nat.le_of_ble_eq_true rfl) (fun X => ?_)
  have f0 : fr 1 13 u u := fr_rf
  refine g_aload_n dX5_readHave_0 rfl ?_
  refine g_iconst (v := 2) dX5_readHave_1 (by decide) ?_
  refine g_bipush (v := 7) dX5_readHave_2 (by decide) ?_
  refine cl_X5_90 (c := 1) (As := [.int 2, .int 7]) rfl (c_X5_take (G := G) hs hu  2 7  (d)) rfl (by omega) rfl rfl (Nat.le_of_ble_eq_true rfl) dX5_readHave_4 (fun r1 u2 q3 => ?_)
  obtain ⟨⟨x4, rfl, tx4⟩, mq3⟩ := q3
  obtain ⟨hu2, gu2, ku20, ku21⟩ := mq3
  have fu2 : fr 1 13 u u2 := fr_tr f0 gu2 (by omega) (by omega)
  have wu2_4_0 : u2.1 4 0 = u.1 4 0 := fr_at gu2 (by omega)
  refine g_istore_n dX5_readHave_7 (by decide) ?_
  refine g_aload_n dX5_readHave_8 rfl ?_
  refine f_X5_9 rfl rfl dX5_readHave_9 ?_
  refine g_topi (fun x5 ex5 => ?_)
  have s6 : u2.1 1 2 = x5 := ex5.symm
  refine g_if_ne (tgt := 39) dX5_readHave_12 (by decide) (fun c7 => ?_) (fun c7 => ?_)
  · refine g_aload_n dX5_readHave_39 rfl ?_
    refine g_iconst (v := 2) dX5_readHave_40 (by decide) ?_
    refine g_bipush (v := 40) dX5_readHave_41 (by decide) ?_
    refine cl_X5_90 (c := 1) (As := [.int 2, .int 40]) rfl (c_X5_take (G := G) hs hu2  2 40  (d)) rfl (by omega) rfl rfl (Nat.le_of_ble_eq_true rfl) dX5_readHave_43 (fun r8 u9 q10 => ?_)
    obtain ⟨⟨x11, rfl, tx11⟩, mq10⟩ := q10
    obtain ⟨hu9, gu9, ku90, ku91⟩ := mq10
    have fu9 : fr 1 13 u u9 := fr_tr fu2 gu9 (by omega) (by omega)
    have wu9_4_0 : u9.1 4 0 = u2.1 4 0 := fr_at gu9 (by omega)
    refine g_istore_n dX5_readHave_46 (by decide) ?_
    refine g_aload_n dX5_readHave_47 rfl ?_
    refine g_iconst (v := 3) dX5_readHave_48 (by decide) ?_
    refine g_iconst (v := 0) dX5_readHave_49 (by decide) ?_
    refine cl_X5_90 (c := 1) (As := [.int 3, .int 0]) rfl (c_X5_take (G := G) hs hu9  3 0  (d)) rfl (by omega) rfl rfl (Nat.le_of_ble_eq_true rfl) dX5_readHave_50 (fun r12 u13 q14 => ?_)
    obtain ⟨⟨x15, rfl, tx15⟩, mq14⟩ := q14
    obtain ⟨hu13, gu13, ku130, ku131⟩ := mq14
    have fu13 : fr 1 13 u u13 := fr_tr fu9 gu13 (by omega) (by omega)
    have wu13_4_0 : u13.1 4 0 = u9.1 4 0 := fr_at gu13 (by omega)
    refine g_pop dX5_readHave_53 rfl ?_
    refine g_aload_n dX5_readHave_54 rfl ?_
    refine f_X5_9 rfl rfl dX5_readHave_55 ?_
    refine g_topi (fun x16 ex16 => ?_)
    have s17 : u13.1 1 2 = x16 := ex16.symm
    refine g_if_ne (tgt := 83) dX5_readHave_58 (by decide) (fun c18 => ?_) (fun c18 => ?_)
    · exact g_vret dX5_readHave_83 rfl ⟨rfl, hu13, fu13, (by first | rfl | grind | grind [uk_up_at])⟩
    · refine g_aload_n dX5_readHave_61 rfl ?_
      refine g_dup dX5_readHave_62 rfl ?_
      refine f_X5_18 rfl rfl dX5_readHave_63 ?_
      refine g_topi (fun x19 ex19 => ?_)
      have s20 : u13.1 1 4 = x19 := ex19.symm
      refine g_iconst (v := 1) dX5_readHave_66 (by decide) ?_
      refine g_iload_n dX5_readHave_67 rfl ?_
      refine g_ishl dX5_readHave_68 (fun x21 ex21 => ?_)
      refine g_ior dX5_readHave_69 ?_
      refine g_topi (fun x22 ex22 => ?_)
      refine p_X5_18 rfl rfl dX5_readHave_70 ?_
      refine g_mem (fun u23 eu23 => ?_)
      have hu23 : iv u23 := by rw [eu23]; exact iv_upF hu13 rfl
      have fu23 : fr 1 13 u u23 := by rw [eu23]; exact fr_up fu13 (by omega) (by omega)
      have s24 : u23.1 1 4 = x22 := by rw [eu23, uk_up_at]; exact if_pos ⟨rfl, rfl⟩
      refine g_aload_n dX5_readHave_73 rfl ?_
      refine f_X5_25 rfl rfl dX5_readHave_74 ?_
      refine f_X5_101 rfl rfl dX5_readHave_77 ?_
      refine g_iload_n dX5_readHave_80 rfl ?_
      refine g_iload_n dX5_readHave_81 rfl ?_
      have v25 : vp_in x4 8 := uk_vin 8 rfl (by first | decide | lia | grind) (by first | decide | lia | grind)
      have b26 := uk_cl v25
      refine g_iast rfl rfl v25 dX5_readHave_82 ?_
      refine g_mem (fun u27 eu27 => ?_)
      have hu27 : iv u27 := by rw [eu27]; exact iv_upF hu23 (uk_pick1 _ (by omega))
      have fu27 : fr 1 13 u u27 := by rw [eu27]; exact fr_up fu23 (by omega) (by omega)
      exact g_vret dX5_readHave_83 rfl ⟨rfl, hu27, fu27, (by first | rfl | grind | grind [uk_up_at])⟩
  · refine g_aload_n dX5_readHave_15 rfl ?_
    refine f_X5_18 rfl rfl dX5_readHave_16 ?_
    refine g_topi (fun x28 ex28 => ?_)
    have s29 : u2.1 1 4 = x28 := ex28.symm
    refine g_iload_n dX5_readHave_19 rfl ?_
    refine g_ishr dX5_readHave_20 (fun x30 ex30 => ?_)
    refine g_iconst (v := 1) dX5_readHave_21 (by decide) ?_
    refine g_iand dX5_readHave_22 ?_
    refine g_topi (fun x31 ex31 => ?_)
    refine g_iconst (v := 1) dX5_readHave_23 (by decide) ?_
    refine g_icmp_ne (tgt := 39) dX5_readHave_24 (by decide) (fun c32 => ?_) (fun c32 => ?_)
    · refine g_aload_n dX5_readHave_39 rfl ?_
      refine g_iconst (v := 2) dX5_readHave_40 (by decide) ?_
      refine g_bipush (v := 40) dX5_readHave_41 (by decide) ?_
      refine cl_X5_90 (c := 1) (As := [.int 2, .int 40]) rfl (c_X5_take (G := G) hs hu2  2 40  (d)) rfl (by omega) rfl rfl (Nat.le_of_ble_eq_true rfl) dX5_readHave_43 (fun r33 u34 q35 => ?_)
      obtain ⟨⟨x36, rfl, tx36⟩, mq35⟩ := q35
      obtain ⟨hu34, gu34, ku340, ku341⟩ := mq35
      have fu34 : fr 1 13 u u34 := fr_tr fu2 gu34 (by omega) (by omega)
      have wu34_4_0 : u34.1 4 0 = u2.1 4 0 := fr_at gu34 (by omega)
      refine g_istore_n dX5_readHave_46 (by decide) ?_
      refine g_aload_n dX5_readHave_47 rfl ?_
      refine g_iconst (v := 3) dX5_readHave_48 (by decide) ?_
      refine g_iconst (v := 0) dX5_readHave_49 (by decide) ?_
      refine cl_X5_90 (c := 1) (As := [.int 3, .int 0]) rfl (c_X5_take (G := G) hs hu34  3 0  (d)) rfl (by omega) rfl rfl (Nat.le_of_ble_eq_true rfl) dX5_readHave_50 (fun r37 u38 q39 => ?_)
      obtain ⟨⟨x40, rfl, tx40⟩, mq39⟩ := q39
      obtain ⟨hu38, gu38, ku380, ku381⟩ := mq39
      have fu38 : fr 1 13 u u38 := fr_tr fu34 gu38 (by omega) (by omega)
      have wu38_4_0 : u38.1 4 0 = u34.1 4 0 := fr_at gu38 (by omega)
      refine g_pop dX5_readHave_53 rfl ?_
      refine g_aload_n dX5_readHave_54 rfl ?_
      refine f_X5_9 rfl rfl dX5_readHave_55 ?_
      refine g_topi (fun x41 ex41 => ?_)
      have s42 : u38.1 1 2 = x41 := ex41.symm
      refine g_if_ne (tgt := 83) dX5_readHave_58 (by decide) (fun c43 => ?_) (fun c43 => ?_)
      · exact g_vret dX5_readHave_83 rfl ⟨rfl, hu38, fu38, (by first | rfl | grind | grind [uk_up_at])⟩
      · refine g_aload_n dX5_readHave_61 rfl ?_
        refine g_dup dX5_readHave_62 rfl ?_
        refine f_X5_18 rfl rfl dX5_readHave_63 ?_
        refine g_topi (fun x44 ex44 => ?_)
        have s45 : u38.1 1 4 = x44 := ex44.symm
        refine g_iconst (v := 1) dX5_readHave_66 (by decide) ?_
        refine g_iload_n dX5_readHave_67 rfl ?_
        refine g_ishl dX5_readHave_68 (fun x46 ex46 => ?_)
        refine g_ior dX5_readHave_69 ?_
        refine g_topi (fun x47 ex47 => ?_)
        refine p_X5_18 rfl rfl dX5_readHave_70 ?_
        refine g_mem (fun u48 eu48 => ?_)
        have hu48 : iv u48 := by rw [eu48]; exact iv_upF hu38 rfl
        have fu48 : fr 1 13 u u48 := by rw [eu48]; exact fr_up fu38 (by omega) (by omega)
        have s49 : u48.1 1 4 = x47 := by rw [eu48, uk_up_at]; exact if_pos ⟨rfl, rfl⟩
        refine g_aload_n dX5_readHave_73 rfl ?_
        refine f_X5_25 rfl rfl dX5_readHave_74 ?_
        refine f_X5_101 rfl rfl dX5_readHave_77 ?_
        refine g_iload_n dX5_readHave_80 rfl ?_
        refine g_iload_n dX5_readHave_81 rfl ?_
        have v50 : vp_in x4 8 := uk_vin 8 rfl (by first | decide | lia | grind) (by first | decide | lia | grind)
        have b51 := uk_cl v50
        refine g_iast rfl rfl v50 dX5_readHave_82 ?_
        refine g_mem (fun u52 eu52 => ?_)
        have hu52 : iv u52 := by rw [eu52]; exact iv_upF hu48 (uk_pick1 _ (by omega))
        have fu52 : fr 1 13 u u52 := by rw [eu52]; exact fr_up fu48 (by omega) (by omega)
        exact g_vret dX5_readHave_83 rfl ⟨rfl, hu52, fu52, (by first | rfl | grind | grind [uk_up_at])⟩
    · refine g_aload_n dX5_readHave_27 rfl ?_
      refine g_iconst (v := 4) dX5_readHave_28 (by decide) ?_
      refine g_aload_n dX5_readHave_29 rfl ?_
      refine f_X5_21 rfl rfl dX5_readHave_30 ?_
      refine f_X5_61 rfl rfl dX5_readHave_33 ?_
      refine g_topi (fun x53 ex53 => ?_)
      have rx53 : 0 ≤ x53 ∧ x53 ≤ 160 := by rw [ex53]; exact iv_at hu2 _ _ rfl
      have s54 : u2.1 2 4 = x53 := ex53.symm
      refine cl_X5_47 (c := 1) (As := [.int 4, .int x53]) rfl (c_X5_refuse (G := G) hs hu2  4 x53  (d + 2)) rfl (by omega) rfl rfl (Nat.le_of_ble_eq_true rfl) dX5_readHave_36 (fun r55 u56 q57 => ?_)
      obtain ⟨rfl, mq57⟩ := q57
      obtain ⟨hu56, gu56, ku560⟩ := mq57
      have fu56 : fr 1 13 u u56 := fr_tr fu2 gu56 (by omega) (by omega)
      have wu56_2_1 : u56.1 2 1 = u2.1 2 1 := fr_at gu56 (by omega)
      have wu56_4_0 : u56.1 4 0 = u2.1 4 0 := fr_at gu56 (by omega)
      have s58 : u56.1 2 4 = x53 := (fr_at gu56 (by omega)).trans s54
      refine g_aload_n dX5_readHave_39 rfl ?_
      refine g_iconst (v := 2) dX5_readHave_40 (by decide) ?_
      refine g_bipush (v := 40) dX5_readHave_41 (by decide) ?_
      refine cl_X5_90 (c := 1) (As := [.int 2, .int 40]) rfl (c_X5_take (G := G) hs hu56  2 40  (d)) rfl (by omega) rfl rfl (Nat.le_of_ble_eq_true rfl) dX5_readHave_43 (fun r59 u60 q61 => ?_)
      obtain ⟨⟨x62, rfl, tx62⟩, mq61⟩ := q61
      obtain ⟨hu60, gu60, ku600, ku601⟩ := mq61
      have fu60 : fr 1 13 u u60 := fr_tr fu56 gu60 (by omega) (by omega)
      have wu60_4_0 : u60.1 4 0 = u56.1 4 0 := fr_at gu60 (by omega)
      refine g_istore_n dX5_readHave_46 (by decide) ?_
      refine g_aload_n dX5_readHave_47 rfl ?_
      refine g_iconst (v := 3) dX5_readHave_48 (by decide) ?_
      refine g_iconst (v := 0) dX5_readHave_49 (by decide) ?_
      refine cl_X5_90 (c := 1) (As := [.int 3, .int 0]) rfl (c_X5_take (G := G) hs hu60  3 0  (d)) rfl (by omega) rfl rfl (Nat.le_of_ble_eq_true rfl) dX5_readHave_50 (fun r63 u64 q65 => ?_)
      obtain ⟨⟨x66, rfl, tx66⟩, mq65⟩ := q65
      obtain ⟨hu64, gu64, ku640, ku641⟩ := mq65
      have fu64 : fr 1 13 u u64 := fr_tr fu60 gu64 (by omega) (by omega)
      have wu64_4_0 : u64.1 4 0 = u60.1 4 0 := fr_at gu64 (by omega)
      refine g_pop dX5_readHave_53 rfl ?_
      refine g_aload_n dX5_readHave_54 rfl ?_
      refine f_X5_9 rfl rfl dX5_readHave_55 ?_
      refine g_topi (fun x67 ex67 => ?_)
      have s68 : u64.1 1 2 = x67 := ex67.symm
      refine g_if_ne (tgt := 83) dX5_readHave_58 (by decide) (fun c69 => ?_) (fun c69 => ?_)
      · exact g_vret dX5_readHave_83 rfl ⟨rfl, hu64, fu64, (by first | rfl | grind | grind [uk_up_at])⟩
      · refine g_aload_n dX5_readHave_61 rfl ?_
        refine g_dup dX5_readHave_62 rfl ?_
        refine f_X5_18 rfl rfl dX5_readHave_63 ?_
        refine g_topi (fun x70 ex70 => ?_)
        have s71 : u64.1 1 4 = x70 := ex70.symm
        refine g_iconst (v := 1) dX5_readHave_66 (by decide) ?_
        refine g_iload_n dX5_readHave_67 rfl ?_
        refine g_ishl dX5_readHave_68 (fun x72 ex72 => ?_)
        refine g_ior dX5_readHave_69 ?_
        refine g_topi (fun x73 ex73 => ?_)
        refine p_X5_18 rfl rfl dX5_readHave_70 ?_
        refine g_mem (fun u74 eu74 => ?_)
        have hu74 : iv u74 := by rw [eu74]; exact iv_upF hu64 rfl
        have fu74 : fr 1 13 u u74 := by rw [eu74]; exact fr_up fu64 (by omega) (by omega)
        have s75 : u74.1 1 4 = x73 := by rw [eu74, uk_up_at]; exact if_pos ⟨rfl, rfl⟩
        refine g_aload_n dX5_readHave_73 rfl ?_
        refine f_X5_25 rfl rfl dX5_readHave_74 ?_
        refine f_X5_101 rfl rfl dX5_readHave_77 ?_
        refine g_iload_n dX5_readHave_80 rfl ?_
        refine g_iload_n dX5_readHave_81 rfl ?_
        have v76 : vp_in x4 8 := uk_vin 8 rfl (by first | decide | lia | grind) (by first | decide | lia | grind)
        have b77 := uk_cl v76
        refine g_iast rfl rfl v76 dX5_readHave_82 ?_
        refine g_mem (fun u78 eu78 => ?_)
        have hu78 : iv u78 := by rw [eu78]; exact iv_upF hu74 (uk_pick1 _ (by omega))
        have fu78 : fr 1 13 u u78 := by rw [eu78]; exact fr_up fu74 (by omega) (by omega)
        exact g_vret dX5_readHave_83 rfl ⟨rfl, hu78, fu78, (by first | rfl | grind | grind [uk_up_at])⟩
abbrev q_X5_lineNamed (u : uk_Mem)  (r : Option Value) (u' : uk_Mem) : Prop := (∃ x : Int32, r = some (.int x) ∧ True) ∧ (u' = u)
set_option maxHeartbeats 4000000 in
set_option maxRecDepth 20000 in
theorem c_X5_lineNamed {G : uk_D} (hs : uk_Sep G) {u : uk_Mem} (hu : iv u)  (d : Nat) : uk_Meth G (d + 5) mX5_lineNamed [.ref (uk_ad G 1)] u (q_X5_lineNamed u) := by
  refine uk_Meth.of hs (by decide) (Nat.le_of_ble_eq_true rfl) (fun X => ?_)
  refine g_aload_n dX5_lineNamed_0 rfl ?_
  refine f_X5_21 rfl rfl dX5_lineNamed_1 ?_
  refine g_ldcS (j := 0) (by decide) rfl rfl dX5_lineNamed_4 ?_
  refine cl_X5_76 (c := 2) (As := [.ref (uk_ad G (100 + 0))]) rfl (c_X4_isNamed (G := G) hs hu  (sj := 0) (by omega)   (d)) rfl (by omega) rfl rfl (Nat.le_of_ble_eq_true rfl) dX5_lineNamed_6 (fun r1 u2 q3 => ?_)
  obtain ⟨⟨x4, rfl, tx4, nx4, zx4⟩, mq3⟩ := q3
  rw [mq3]
  refine g_if_eq (tgt := 14) dX5_lineNamed_9 (by decide) (fun c5 => ?_) (fun c5 => ?_)
  · have zc5 := zx4 c5
    refine g_aload_n dX5_lineNamed_14 rfl ?_
    refine f_X5_21 rfl rfl dX5_lineNamed_15 ?_
    refine g_ldcS (j := 1) (by decide) rfl rfl dX5_lineNamed_18 ?_
    refine cl_X5_76 (c := 2) (As := [.ref (uk_ad G (100 + 1))]) rfl (c_X4_isNamed (G := G) hs hu  (sj := 1) (by omega)   (d)) rfl (by omega) rfl rfl (Nat.le_of_ble_eq_true rfl) dX5_lineNamed_20 (fun r6 u7 q8 => ?_)
    obtain ⟨⟨x9, rfl, tx9, nx9, zx9⟩, mq8⟩ := q8
    rw [mq8]
    refine g_if_eq (tgt := 28) dX5_lineNamed_23 (by decide) (fun c10 => ?_) (fun c10 => ?_)
    · have zc10 := zx9 c10
      refine g_aload_n dX5_lineNamed_28 rfl ?_
      refine f_X5_21 rfl rfl dX5_lineNamed_29 ?_
      refine g_ldcS (j := 2) (by decide) rfl rfl dX5_lineNamed_32 ?_
      refine cl_X5_76 (c := 2) (As := [.ref (uk_ad G (100 + 2))]) rfl (c_X4_isNamed (G := G) hs hu  (sj := 2) (by omega)   (d)) rfl (by omega) rfl rfl (Nat.le_of_ble_eq_true rfl) dX5_lineNamed_34 (fun r11 u12 q13 => ?_)
      obtain ⟨⟨x14, rfl, tx14, nx14, zx14⟩, mq13⟩ := q13
      rw [mq13]
      refine g_if_eq (tgt := 42) dX5_lineNamed_37 (by decide) (fun c15 => ?_) (fun c15 => ?_)
      · have zc15 := zx14 c15
        refine g_aload_n dX5_lineNamed_42 rfl ?_
        refine f_X5_21 rfl rfl dX5_lineNamed_43 ?_
        refine g_ldcS (j := 3) (by decide) rfl rfl dX5_lineNamed_46 ?_
        refine cl_X5_76 (c := 2) (As := [.ref (uk_ad G (100 + 3))]) rfl (c_X4_isNamed (G := G) hs hu  (sj := 3) (by omega)   (d)) rfl (by omega) rfl rfl (Nat.le_of_ble_eq_true rfl) dX5_lineNamed_48 (fun r16 u17 q18 => ?_)
        obtain ⟨⟨x19, rfl, tx19, nx19, zx19⟩, mq18⟩ := q18
        rw [mq18]
        refine g_if_eq (tgt := 56) dX5_lineNamed_51 (by decide) (fun c20 => ?_) (fun c20 => ?_)
        · have zc20 := zx19 c20
          refine g_aload_n dX5_lineNamed_56 rfl ?_
          refine f_X5_21 rfl rfl dX5_lineNamed_57 ?_
          refine g_ldcS (j := 4) (by decide) rfl rfl dX5_lineNamed_60 ?_
          refine cl_X5_76 (c := 2) (As := [.ref (uk_ad G (100 + 4))]) rfl (c_X4_isNamed (G := G) hs hu  (sj := 4) (by omega)   (d)) rfl (by omega) rfl rfl (Nat.le_of_ble_eq_true rfl) dX5_lineNamed_62 (fun r21 u22 q23 => ?_)
          obtain ⟨⟨x24, rfl, tx24, nx24, zx24⟩, mq23⟩ := q23
          rw [mq23]
          refine g_if_eq (tgt := 70) dX5_lineNamed_65 (by decide) (fun c25 => ?_) (fun c25 => ?_)
          · have zc25 := zx24 c25
            refine g_aload_n dX5_lineNamed_70 rfl ?_
            refine f_X5_21 rfl rfl dX5_lineNamed_71 ?_
            refine g_ldcS (j := 5) (by decide) rfl rfl dX5_lineNamed_74 ?_
            refine cl_X5_76 (c := 2) (As := [.ref (uk_ad G (100 + 5))]) rfl (c_X4_isNamed (G := G) hs hu  (sj := 5) (by omega)   (d)) rfl (by omega) rfl rfl (Nat.le_of_ble_eq_true rfl) dX5_lineNamed_76 (fun r26 u27 q28 => ?_)
            obtain ⟨⟨x29, rfl, tx29, nx29, zx29⟩, mq28⟩ := q28
            rw [mq28]
            refine g_if_eq (tgt := 86) dX5_lineNamed_79 (by decide) (fun c30 => ?_) (fun c30 => ?_)
            · have zc30 := zx29 c30
              refine g_iconst (v := (-1)) dX5_lineNamed_86 (by decide) ?_
              exact g_iret (ty := .int) dX5_lineNamed_87 rfl rfl ⟨⟨_, rfl, by first | trivial | lia | grind⟩, rfl⟩
            · have zc30 := nx29 c30
              refine g_iconst (v := 5) dX5_lineNamed_82 (by decide) ?_
              refine g_goto (tgt := 87) dX5_lineNamed_83 (by decide) ?_
              exact g_iret (ty := .int) dX5_lineNamed_87 rfl rfl ⟨⟨_, rfl, by first | trivial | lia | grind⟩, rfl⟩
          · have zc25 := nx24 c25
            refine g_iconst (v := 3) dX5_lineNamed_68 (by decide) ?_
            exact g_iret (ty := .int) dX5_lineNamed_69 rfl rfl ⟨⟨_, rfl, by first | trivial | lia | grind⟩, rfl⟩
        · have zc20 := nx19 c20
          refine g_iconst (v := 2) dX5_lineNamed_54 (by decide) ?_
          exact g_iret (ty := .int) dX5_lineNamed_55 rfl rfl ⟨⟨_, rfl, by first | trivial | lia | grind⟩, rfl⟩
      · have zc15 := nx14 c15
        refine g_iconst (v := 1) dX5_lineNamed_40 (by decide) ?_
        exact g_iret (ty := .int) dX5_lineNamed_41 rfl rfl ⟨⟨_, rfl, by first | trivial | lia | grind⟩, rfl⟩
    · have zc10 := nx9 c10
      refine g_iconst (v := 0) dX5_lineNamed_26 (by decide) ?_
      exact g_iret (ty := .int) dX5_lineNamed_27 rfl rfl ⟨⟨_, rfl, by first | trivial | lia | grind⟩, rfl⟩
  · have zc5 := nx4 c5
    refine g_iconst (v := 4) dX5_lineNamed_12 (by decide) ?_
    exact g_iret (ty := .int) dX5_lineNamed_13 rfl rfl ⟨⟨_, rfl, by first | trivial | lia | grind⟩, rfl⟩
abbrev q_X5_readLine (u : uk_Mem)  (r : Option Value) (u' : uk_Mem) : Prop := (∃ x : Int32, r = some (.int x) ∧ (x = 0 ∨ x = 1) ∧ (¬ x = 0 → True) ∧ (x = 0 → True)) ∧ (iv u' ∧ fr 1 13 u u' ∧ u'.1 2 1 = u.1 2 1)
set_option maxHeartbeats 4000000 in
set_option maxRecDepth 20000 in
theorem c_X5_readLine {G : uk_D} (hs : uk_Sep G) {u : uk_Mem} (hu : iv u)  (d : Nat) : uk_Meth G (d + 6) mX5_readLine [.ref (uk_ad G 1)] u (q_X5_readLine u) := by
  refine uk_Meth.of hs (by decide) (Nat.le_of_ble_eq_true rfl) (fun X => ?_)
  have f0 : fr 1 13 u u := fr_rf
  refine g_aload_n dX5_readLine_0 rfl ?_
  refine f_X5_21 rfl rfl dX5_readLine_1 ?_
  refine cl_X5_51 (c := 2) (As := []) rfl (c_X4_readToken (G := G) hs hu    (d + 4)) rfl (by omega) rfl rfl (Nat.le_of_ble_eq_true rfl) dX5_readLine_4 (fun r1 u2 q3 => ?_)
  obtain ⟨rfl, mq3⟩ := q3
  obtain ⟨hu2, gu2, ku20, ku21⟩ := mq3
  have fu2 : fr 1 13 u u2 := fr_tr f0 gu2 (by omega) (by omega)
  have wu2_4_0 : u2.1 4 0 = u.1 4 0 := fr_at gu2 (by omega)
  have wu2_1_2 : u2.1 1 2 = u.1 1 2 := fr_at gu2 (by omega)
  refine g_aload_n dX5_readLine_7 rfl ?_
  refine f_X5_21 rfl rfl dX5_readLine_8 ?_
  refine f_X5_54 rfl rfl dX5_readLine_11 ?_
  refine g_topi (fun x4 ex4 => ?_)
  have s5 : u2.1 2 3 = x4 := ex4.symm
  refine g_if_ne (tgt := 19) dX5_readLine_14 (by decide) (fun c6 => ?_) (fun c6 => ?_)
  · refine g_aload_n dX5_readLine_19 rfl ?_
    refine cl_X5_57 (c := 1) (As := []) rfl (c_X5_lineNamed (G := G) hs hu2    (d)) rfl (by omega) rfl rfl (Nat.le_of_ble_eq_true rfl) dX5_readLine_20 (fun r7 u8 q9 => ?_)
    obtain ⟨⟨x10, rfl, tx10⟩, mq9⟩ := q9
    rw [mq9]
    refine g_istore_n dX5_readLine_23 (by decide) ?_
    refine g_aload_n dX5_readLine_24 rfl ?_
    refine f_X5_21 rfl rfl dX5_readLine_25 ?_
    refine f_X5_54 rfl rfl dX5_readLine_28 ?_
    refine g_topi (fun x11 ex11 => ?_)
    have qx11 : x11 = x4 := by rw [ex11]; exact s5
    refine g_iconst (v := 4) dX5_readLine_31 (by decide) ?_
    refine g_icmp_ne (tgt := 50) dX5_readLine_32 (by decide) (fun c12 => ?_) (fun c12 => ?_)
    · refine g_iload_n dX5_readLine_50 rfl ?_
      refine g_iconst (v := (-1)) dX5_readLine_51 (by decide) ?_
      refine g_icmp_ne (tgt := 70) dX5_readLine_52 (by decide) (fun c13 => ?_) (fun c13 => ?_)
      · refine g_iload_n dX5_readLine_70 rfl ?_
        refine g_iconst (v := 5) dX5_readLine_71 (by decide) ?_
        refine g_icmp_ne (tgt := 82) dX5_readLine_72 (by decide) (fun c14 => ?_) (fun c14 => ?_)
        · refine g_aload_n dX5_readLine_82 rfl ?_
          refine f_X5_25 rfl rfl dX5_readLine_83 ?_
          refine f_X5_43 rfl rfl dX5_readLine_86 ?_
          refine g_topi (fun x15 ex15 => ?_)
          have rx15 : 0 ≤ x15 ∧ x15 ≤ 8 := by rw [ex15]; exact iv_at hu2 _ _ rfl
          have s16 : u2.1 4 0 = x15 := ex15.symm
          refine g_bipush (v := 8) dX5_readLine_89 (by decide) ?_
          refine g_icmp_lt (tgt := 109) dX5_readLine_91 (by decide) (fun c17 => ?_) (fun c17 => ?_)
          · refine g_iload_n dX5_readLine_109 rfl ?_
            refine g_iconst (v := 4) dX5_readLine_110 (by decide) ?_
            refine g_icmp_ne (tgt := 121) dX5_readLine_111 (by decide) (fun c18 => ?_) (fun c18 => ?_)
            · refine g_aload_n dX5_readLine_121 rfl ?_
              refine g_iload_n dX5_readLine_122 rfl ?_
              refine cl_X5_70 (c := 1) (As := [.int x10]) rfl (c_X5_readMade (G := G) hs hu2  x10 (by first | trivial | decide | lia | grind) (d + 2)) rfl (by omega) rfl rfl (Nat.le_of_ble_eq_true rfl) dX5_readLine_123 (fun r19 u20 q21 => ?_)
              obtain ⟨rfl, mq21⟩ := q21
              obtain ⟨hu20, gu20, ku200⟩ := mq21
              have fu20 : fr 1 13 u u20 := fr_tr fu2 gu20 (by omega) (by omega)
              refine g_aload_n dX5_readLine_126 rfl ?_
              refine f_X5_9 rfl rfl dX5_readLine_127 ?_
              refine g_topi (fun x22 ex22 => ?_)
              have s23 : u20.1 1 2 = x22 := ex22.symm
              refine g_if_ne (tgt := 137) dX5_readLine_130 (by decide) (fun c24 => ?_) (fun c24 => ?_)
              · refine g_iconst (v := 0) dX5_readLine_137 (by decide) ?_
                exact g_iret (ty := .boolean) dX5_readLine_138 rfl rfl ⟨⟨0, rfl, Or.inl rfl, fun q => absurd rfl q, fun _ => by first | trivial | lia | grind⟩, hu20, fu20, (by first | rfl | grind | grind [uk_up_at])⟩
              · refine g_iconst (v := 1) dX5_readLine_133 (by decide) ?_
                refine g_goto (tgt := 138) dX5_readLine_134 (by decide) ?_
                exact g_iret (ty := .boolean) dX5_readLine_138 rfl rfl ⟨⟨1, rfl, Or.inr rfl, fun _ => by first | trivial | lia | grind, fun q => absurd q (by decide)⟩, hu20, fu20, (by first | rfl | grind | grind [uk_up_at])⟩
            · refine g_aload_n dX5_readLine_114 rfl ?_
              refine cl_X5_67 (c := 1) (As := []) rfl (c_X5_readRaw (G := G) hs hu2   (by first | trivial | decide | lia | grind) (d + 2)) rfl (by omega) rfl rfl (Nat.le_of_ble_eq_true rfl) dX5_readLine_115 (fun r25 u26 q27 => ?_)
              obtain ⟨rfl, mq27⟩ := q27
              obtain ⟨hu26, gu26, ku260⟩ := mq27
              have fu26 : fr 1 13 u u26 := fr_tr fu2 gu26 (by omega) (by omega)
              refine g_goto (tgt := 126) dX5_readLine_118 (by decide) ?_
              refine g_aload_n dX5_readLine_126 rfl ?_
              refine f_X5_9 rfl rfl dX5_readLine_127 ?_
              refine g_topi (fun x28 ex28 => ?_)
              have s29 : u26.1 1 2 = x28 := ex28.symm
              refine g_if_ne (tgt := 137) dX5_readLine_130 (by decide) (fun c30 => ?_) (fun c30 => ?_)
              · refine g_iconst (v := 0) dX5_readLine_137 (by decide) ?_
                exact g_iret (ty := .boolean) dX5_readLine_138 rfl rfl ⟨⟨0, rfl, Or.inl rfl, fun q => absurd rfl q, fun _ => by first | trivial | lia | grind⟩, hu26, fu26, (by first | rfl | grind | grind [uk_up_at])⟩
              · refine g_iconst (v := 1) dX5_readLine_133 (by decide) ?_
                refine g_goto (tgt := 138) dX5_readLine_134 (by decide) ?_
                exact g_iret (ty := .boolean) dX5_readLine_138 rfl rfl ⟨⟨1, rfl, Or.inr rfl, fun _ => by first | trivial | lia | grind, fun q => absurd q (by decide)⟩, hu26, fu26, (by first | rfl | grind | grind [uk_up_at])⟩
          · refine g_aload_n dX5_readLine_94 rfl ?_
            refine g_iconst (v := 5) dX5_readLine_95 (by decide) ?_
            refine g_aload_n dX5_readLine_96 rfl ?_
            refine f_X5_21 rfl rfl dX5_readLine_97 ?_
            refine f_X5_61 rfl rfl dX5_readLine_100 ?_
            refine g_topi (fun x31 ex31 => ?_)
            have rx31 : 0 ≤ x31 ∧ x31 ≤ 160 := by rw [ex31]; exact iv_at hu2 _ _ rfl
            have s32 : u2.1 2 4 = x31 := ex31.symm
            refine cl_X5_47 (c := 1) (As := [.int 5, .int x31]) rfl (c_X5_refuse (G := G) hs hu2  5 x31  (d + 5)) rfl (by omega) rfl rfl (Nat.le_of_ble_eq_true rfl) dX5_readLine_103 (fun r33 u34 q35 => ?_)
            obtain ⟨rfl, mq35⟩ := q35
            obtain ⟨hu34, gu34, ku340⟩ := mq35
            have fu34 : fr 1 13 u u34 := fr_tr fu2 gu34 (by omega) (by omega)
            have wu34_2_1 : u34.1 2 1 = u2.1 2 1 := fr_at gu34 (by omega)
            have wu34_4_0 : u34.1 4 0 = u2.1 4 0 := fr_at gu34 (by omega)
            have s36 : u34.1 2 3 = x4 := (fr_at gu34 (by omega)).trans s5
            have s37 : u34.1 4 0 = x15 := (fr_at gu34 (by omega)).trans s16
            have s38 : u34.1 2 4 = x31 := (fr_at gu34 (by omega)).trans s32
            refine g_goto (tgt := 126) dX5_readLine_106 (by decide) ?_
            refine g_aload_n dX5_readLine_126 rfl ?_
            refine f_X5_9 rfl rfl dX5_readLine_127 ?_
            refine g_topi (fun x39 ex39 => ?_)
            have s40 : u34.1 1 2 = x39 := ex39.symm
            refine g_if_ne (tgt := 137) dX5_readLine_130 (by decide) (fun c41 => ?_) (fun c41 => ?_)
            · refine g_iconst (v := 0) dX5_readLine_137 (by decide) ?_
              exact g_iret (ty := .boolean) dX5_readLine_138 rfl rfl ⟨⟨0, rfl, Or.inl rfl, fun q => absurd rfl q, fun _ => by first | trivial | lia | grind⟩, hu34, fu34, (by first | rfl | grind | grind [uk_up_at])⟩
            · refine g_iconst (v := 1) dX5_readLine_133 (by decide) ?_
              refine g_goto (tgt := 138) dX5_readLine_134 (by decide) ?_
              exact g_iret (ty := .boolean) dX5_readLine_138 rfl rfl ⟨⟨1, rfl, Or.inr rfl, fun _ => by first | trivial | lia | grind, fun q => absurd q (by decide)⟩, hu34, fu34, (by first | rfl | grind | grind [uk_up_at])⟩
        · refine g_aload_n dX5_readLine_75 rfl ?_
          refine cl_X5_64 (c := 1) (As := []) rfl (c_X5_readHave (G := G) hs hu2    (d + 2)) rfl (by omega) rfl rfl (Nat.le_of_ble_eq_true rfl) dX5_readLine_76 (fun r42 u43 q44 => ?_)
          obtain ⟨rfl, mq44⟩ := q44
          obtain ⟨hu43, gu43, ku430⟩ := mq44
          have fu43 : fr 1 13 u u43 := fr_tr fu2 gu43 (by omega) (by omega)
          refine g_goto (tgt := 126) dX5_readLine_79 (by decide) ?_
          refine g_aload_n dX5_readLine_126 rfl ?_
          refine f_X5_9 rfl rfl dX5_readLine_127 ?_
          refine g_topi (fun x45 ex45 => ?_)
          have s46 : u43.1 1 2 = x45 := ex45.symm
          refine g_if_ne (tgt := 137) dX5_readLine_130 (by decide) (fun c47 => ?_) (fun c47 => ?_)
          · refine g_iconst (v := 0) dX5_readLine_137 (by decide) ?_
            exact g_iret (ty := .boolean) dX5_readLine_138 rfl rfl ⟨⟨0, rfl, Or.inl rfl, fun q => absurd rfl q, fun _ => by first | trivial | lia | grind⟩, hu43, fu43, (by first | rfl | grind | grind [uk_up_at])⟩
          · refine g_iconst (v := 1) dX5_readLine_133 (by decide) ?_
            refine g_goto (tgt := 138) dX5_readLine_134 (by decide) ?_
            exact g_iret (ty := .boolean) dX5_readLine_138 rfl rfl ⟨⟨1, rfl, Or.inr rfl, fun _ => by first | trivial | lia | grind, fun q => absurd q (by decide)⟩, hu43, fu43, (by first | rfl | grind | grind [uk_up_at])⟩
      · refine g_aload_n dX5_readLine_55 rfl ?_
        refine g_iconst (v := 2) dX5_readLine_56 (by decide) ?_
        refine g_aload_n dX5_readLine_57 rfl ?_
        refine f_X5_21 rfl rfl dX5_readLine_58 ?_
        refine f_X5_61 rfl rfl dX5_readLine_61 ?_
        refine g_topi (fun x48 ex48 => ?_)
        have rx48 : 0 ≤ x48 ∧ x48 ≤ 160 := by rw [ex48]; exact iv_at hu2 _ _ rfl
        have s49 : u2.1 2 4 = x48 := ex48.symm
        refine cl_X5_47 (c := 1) (As := [.int 2, .int x48]) rfl (c_X5_refuse (G := G) hs hu2  2 x48  (d + 5)) rfl (by omega) rfl rfl (Nat.le_of_ble_eq_true rfl) dX5_readLine_64 (fun r50 u51 q52 => ?_)
        obtain ⟨rfl, mq52⟩ := q52
        obtain ⟨hu51, gu51, ku510⟩ := mq52
        have fu51 : fr 1 13 u u51 := fr_tr fu2 gu51 (by omega) (by omega)
        have wu51_2_1 : u51.1 2 1 = u2.1 2 1 := fr_at gu51 (by omega)
        have wu51_4_0 : u51.1 4 0 = u2.1 4 0 := fr_at gu51 (by omega)
        have s53 : u51.1 2 3 = x4 := (fr_at gu51 (by omega)).trans s5
        have s54 : u51.1 2 4 = x48 := (fr_at gu51 (by omega)).trans s49
        refine g_goto (tgt := 126) dX5_readLine_67 (by decide) ?_
        refine g_aload_n dX5_readLine_126 rfl ?_
        refine f_X5_9 rfl rfl dX5_readLine_127 ?_
        refine g_topi (fun x55 ex55 => ?_)
        have s56 : u51.1 1 2 = x55 := ex55.symm
        refine g_if_ne (tgt := 137) dX5_readLine_130 (by decide) (fun c57 => ?_) (fun c57 => ?_)
        · refine g_iconst (v := 0) dX5_readLine_137 (by decide) ?_
          exact g_iret (ty := .boolean) dX5_readLine_138 rfl rfl ⟨⟨0, rfl, Or.inl rfl, fun q => absurd rfl q, fun _ => by first | trivial | lia | grind⟩, hu51, fu51, (by first | rfl | grind | grind [uk_up_at])⟩
        · refine g_iconst (v := 1) dX5_readLine_133 (by decide) ?_
          refine g_goto (tgt := 138) dX5_readLine_134 (by decide) ?_
          exact g_iret (ty := .boolean) dX5_readLine_138 rfl rfl ⟨⟨1, rfl, Or.inr rfl, fun _ => by first | trivial | lia | grind, fun q => absurd q (by decide)⟩, hu51, fu51, (by first | rfl | grind | grind [uk_up_at])⟩
    · refine g_aload_n dX5_readLine_35 rfl ?_
      refine g_iconst (v := 1) dX5_readLine_36 (by decide) ?_
      refine g_aload_n dX5_readLine_37 rfl ?_
      refine f_X5_21 rfl rfl dX5_readLine_38 ?_
      refine f_X5_61 rfl rfl dX5_readLine_41 ?_
      refine g_topi (fun x58 ex58 => ?_)
      have rx58 : 0 ≤ x58 ∧ x58 ≤ 160 := by rw [ex58]; exact iv_at hu2 _ _ rfl
      have s59 : u2.1 2 4 = x58 := ex58.symm
      refine cl_X5_47 (c := 1) (As := [.int 1, .int x58]) rfl (c_X5_refuse (G := G) hs hu2  1 x58  (d + 5)) rfl (by omega) rfl rfl (Nat.le_of_ble_eq_true rfl) dX5_readLine_44 (fun r60 u61 q62 => ?_)
      obtain ⟨rfl, mq62⟩ := q62
      obtain ⟨hu61, gu61, ku610⟩ := mq62
      have fu61 : fr 1 13 u u61 := fr_tr fu2 gu61 (by omega) (by omega)
      have wu61_2_1 : u61.1 2 1 = u2.1 2 1 := fr_at gu61 (by omega)
      have wu61_4_0 : u61.1 4 0 = u2.1 4 0 := fr_at gu61 (by omega)
      have s63 : u61.1 2 3 = x4 := (fr_at gu61 (by omega)).trans s5
      have s64 : u61.1 2 4 = x58 := (fr_at gu61 (by omega)).trans s59
      refine g_goto (tgt := 126) dX5_readLine_47 (by decide) ?_
      refine g_aload_n dX5_readLine_126 rfl ?_
      refine f_X5_9 rfl rfl dX5_readLine_127 ?_
      refine g_topi (fun x65 ex65 => ?_)
      have s66 : u61.1 1 2 = x65 := ex65.symm
      refine g_if_ne (tgt := 137) dX5_readLine_130 (by decide) (fun c67 => ?_) (fun c67 => ?_)
      · refine g_iconst (v := 0) dX5_readLine_137 (by decide) ?_
        exact g_iret (ty := .boolean) dX5_readLine_138 rfl rfl ⟨⟨0, rfl, Or.inl rfl, fun q => absurd rfl q, fun _ => by first | trivial | lia | grind⟩, hu61, fu61, (by first | rfl | grind | grind [uk_up_at])⟩
      · refine g_iconst (v := 1) dX5_readLine_133 (by decide) ?_
        refine g_goto (tgt := 138) dX5_readLine_134 (by decide) ?_
        exact g_iret (ty := .boolean) dX5_readLine_138 rfl rfl ⟨⟨1, rfl, Or.inr rfl, fun _ => by first | trivial | lia | grind, fun q => absurd q (by decide)⟩, hu61, fu61, (by first | rfl | grind | grind [uk_up_at])⟩
  · refine g_iconst (v := 0) dX5_readLine_17 (by decide) ?_
    exact g_iret (ty := .boolean) dX5_readLine_18 rfl rfl ⟨⟨0, rfl, Or.inl rfl, fun q => absurd rfl q, fun _ => by first | trivial | lia | grind⟩, hu2, fu2, (by first | rfl | grind | grind [uk_up_at])⟩
abbrev q_X5_readAll (u : uk_Mem)  (r : Option Value) (u' : uk_Mem) : Prop := (∃ x : Int32, r = some (.int x) ∧ True) ∧ (iv u' ∧ fr 1 13 u u' ∧ u'.1 2 1 = u.1 2 1)
set_option maxHeartbeats 4000000 in
set_option maxRecDepth 20000 in
theorem c_X5_readAll {G : uk_D} (hs : uk_Sep G) {u : uk_Mem} (hu : iv u)  (d : Nat) : uk_Meth G (d + 7) mX5_readAll [.ref (uk_ad G 1)] u (q_X5_readAll u) := by
  refine uk_Meth.of hs (by decide) (Nat.le_of_ble_eq_true rfl) (fun X => ?_)
  have f0 : fr 1 13 u u := fr_rf
  refine g_aload_n dX5_readAll_0 rfl ?_
  refine f_X5_25 rfl rfl dX5_readAll_1 ?_
  refine cl_X5_29 (c := 4) (As := []) rfl (c_X0_clear (G := G) hs hu uk_isK4   (d + 6)) rfl (by omega) rfl rfl (Nat.le_of_ble_eq_true rfl) dX5_readAll_4 (fun r1 u2 q3 => ?_)
  obtain ⟨rfl, mq3⟩ := q3
  obtain ⟨hu2, gu2, ku20⟩ := mq3
  have fu2 : fr 1 13 u u2 := fr_tr f0 gu2 (by omega) (by omega)
  have wu2_2_1 : u2.1 2 1 = u.1 2 1 := fr_at gu2 (by omega)
  have wu2_1_2 : u2.1 1 2 = u.1 1 2 := fr_at gu2 (by omega)
  refine g_aload_n dX5_readAll_7 rfl ?_
  refine f_X5_21 rfl rfl dX5_readAll_8 ?_
  refine cl_X5_34 (c := 2) (As := []) rfl (c_X4_rewind (G := G) hs hu2    (d + 6)) rfl (by omega) rfl rfl (Nat.le_of_ble_eq_true rfl) dX5_readAll_11 (fun r4 u5 q6 => ?_)
  obtain ⟨rfl, mq6⟩ := q6
  obtain ⟨hu5, gu5, ku50⟩ := mq6
  have fu5 : fr 1 13 u u5 := fr_tr fu2 gu5 (by omega) (by omega)
  have wu5_4_0 : u5.1 4 0 = u2.1 4 0 := fr_at gu5 (by omega)
  have wu5_1_2 : u5.1 1 2 = u2.1 1 2 := fr_at gu5 (by omega)
  refine g_aload_n dX5_readAll_14 rfl ?_
  refine g_iconst (v := 0) dX5_readAll_15 (by decide) ?_
  refine p_X5_9 rfl rfl dX5_readAll_16 ?_
  refine g_mem (fun u7 eu7 => ?_)
  have hu7 : iv u7 := by rw [eu7]; exact iv_upF hu5 rfl
  have fu7 : fr 1 13 u u7 := by rw [eu7]; exact fr_up fu5 (by omega) (by omega)
  have s8 : u7.1 1 2 = 0 := by rw [eu7, uk_up_at]; exact if_pos ⟨rfl, rfl⟩
  refine g_aload_n dX5_readAll_19 rfl ?_
  refine g_iconst (v := 0) dX5_readAll_20 (by decide) ?_
  refine p_X5_15 rfl rfl dX5_readAll_21 ?_
  refine g_mem (fun u9 eu9 => ?_)
  have hu9 : iv u9 := by rw [eu9]; exact iv_upF hu7 rfl
  have fu9 : fr 1 13 u u9 := by rw [eu9]; exact fr_up fu7 (by omega) (by omega)
  have s10 : u9.1 1 3 = 0 := by rw [eu9, uk_up_at]; exact if_pos ⟨rfl, rfl⟩
  refine g_aload_n dX5_readAll_24 rfl ?_
  refine g_iconst (v := 0) dX5_readAll_25 (by decide) ?_
  refine p_X5_18 rfl rfl dX5_readAll_26 ?_
  refine g_mem (fun u11 eu11 => ?_)
  have hu11 : iv u11 := by rw [eu11]; exact iv_upF hu9 rfl
  have fu11 : fr 1 13 u u11 := by rw [eu11]; exact fr_up fu9 (by omega) (by omega)
  have s12 : u11.1 1 4 = 0 := by rw [eu11, uk_up_at]; exact if_pos ⟨rfl, rfl⟩
  refine g_iconst (v := 0) dX5_readAll_29 (by decide) ?_
  refine g_istore_n dX5_readAll_30 (by decide) ?_
  have L31_12 : ∀ i14 : Int32, 0 ≤ i14 → i14 ≤ 160 → ∀ (u15 : uk_Mem), iv u15 → fr 1 13 u u15 → u15.1 2 1 = u.1 2 1 → uk_G G X mX5_readAll (d + 7) (q_X5_readAll u) 31 [(0, .ref (uk_ad G 1)), (1, .int i14)] [] u15 := by
    refine uk_upl 160 ?_
    intro i14 ai14 bi14 ihi14  u15 hu15 fu15 ji140
    refine g_iload_n dX5_readAll_31 rfl ?_
    refine g_sipush (v := 160) dX5_readAll_32 (by decide) ?_
    refine g_icmp_ge (tgt := 51) dX5_readAll_35 (by decide) (fun c16 => ?_) (fun c16 => ?_)
    · refine g_aload_n dX5_readAll_51 rfl ?_
      refine f_X5_9 rfl rfl dX5_readAll_52 ?_
      refine g_topi (fun x17 ex17 => ?_)
      have s18 : u15.1 1 2 = x17 := ex17.symm
      refine g_if_ne (tgt := 86) dX5_readAll_55 (by decide) (fun c19 => ?_) (fun c19 => ?_)
      · refine g_iload_n dX5_readAll_86 rfl ?_
        exact g_iret (ty := .int) dX5_readAll_87 rfl rfl ⟨⟨_, rfl, by first | trivial | lia | grind⟩, hu15, fu15, (by first | rfl | grind | grind [uk_up_at])⟩
      · refine g_aload_n dX5_readAll_58 rfl ?_
        refine f_X5_18 rfl rfl dX5_readAll_59 ?_
        refine g_topi (fun x20 ex20 => ?_)
        have s21 : u15.1 1 4 = x20 := ex20.symm
        refine g_aload_n dX5_readAll_62 rfl ?_
        refine f_X5_25 rfl rfl dX5_readAll_63 ?_
        refine f_X5_43 rfl rfl dX5_readAll_66 ?_
        refine g_topi (fun x22 ex22 => ?_)
        have rx22 : 0 ≤ x22 ∧ x22 ≤ 8 := by rw [ex22]; exact iv_at hu15 _ _ rfl
        have s23 : u15.1 4 0 = x22 := ex22.symm
        refine g_ishr dX5_readAll_69 (fun x24 ex24 => ?_)
        refine g_if_eq (tgt := 86) dX5_readAll_70 (by decide) (fun c25 => ?_) (fun c25 => ?_)
        · refine g_iload_n dX5_readAll_86 rfl ?_
          exact g_iret (ty := .int) dX5_readAll_87 rfl rfl ⟨⟨_, rfl, by first | trivial | lia | grind⟩, hu15, fu15, (by first | rfl | grind | grind [uk_up_at])⟩
        · refine g_aload_n dX5_readAll_73 rfl ?_
          refine g_bipush (v := 6) dX5_readAll_74 (by decide) ?_
          refine g_aload_n dX5_readAll_76 rfl ?_
          refine f_X5_21 rfl rfl dX5_readAll_77 ?_
          refine f_X5_46 rfl rfl dX5_readAll_80 ?_
          refine g_topi (fun x26 ex26 => ?_)
          have rx26 : 0 ≤ x26 ∧ x26 ≤ 160 := by rw [ex26]; exact iv_at hu15 _ _ rfl
          have s27 : u15.1 2 1 = x26 := ex26.symm
          refine cl_X5_47 (c := 1) (As := [.int 6, .int x26]) rfl (c_X5_refuse (G := G) hs hu15  6 x26  (d + 6)) rfl (by omega) rfl rfl (Nat.le_of_ble_eq_true rfl) dX5_readAll_83 (fun r28 u29 q30 => ?_)
          obtain ⟨rfl, mq30⟩ := q30
          obtain ⟨hu29, gu29, ku290⟩ := mq30
          have fu29 : fr 1 13 u u29 := fr_tr fu15 gu29 (by omega) (by omega)
          have wu29_2_1 : u29.1 2 1 = u15.1 2 1 := fr_at gu29 (by omega)
          have wu29_4_0 : u29.1 4 0 = u15.1 4 0 := fr_at gu29 (by omega)
          have s31 : u29.1 4 0 = x22 := (fr_at gu29 (by omega)).trans s23
          have s32 : u29.1 2 1 = x26 := (fr_at gu29 (by omega)).trans s27
          refine g_iload_n dX5_readAll_86 rfl ?_
          exact g_iret (ty := .int) dX5_readAll_87 rfl rfl ⟨⟨_, rfl, by first | trivial | lia | grind⟩, hu29, fu29, (by first | rfl | grind | grind [uk_up_at])⟩
    · refine g_aload_n dX5_readAll_38 rfl ?_
      refine cl_X5_39 (c := 1) (As := []) rfl (c_X5_readLine (G := G) hs hu15    (d)) rfl (by omega) rfl rfl (Nat.le_of_ble_eq_true rfl) dX5_readAll_39 (fun r33 u34 q35 => ?_)
      obtain ⟨⟨x36, rfl, tx36, nx36, zx36⟩, mq35⟩ := q35
      obtain ⟨hu34, gu34, ku340⟩ := mq35
      have fu34 : fr 1 13 u u34 := fr_tr fu15 gu34 (by omega) (by omega)
      refine g_if_eq (tgt := 51) dX5_readAll_42 (by decide) (fun c37 => ?_) (fun c37 => ?_)
      · have zc37 := zx36 c37
        refine g_aload_n dX5_readAll_51 rfl ?_
        refine f_X5_9 rfl rfl dX5_readAll_52 ?_
        refine g_topi (fun x38 ex38 => ?_)
        have s39 : u34.1 1 2 = x38 := ex38.symm
        refine g_if_ne (tgt := 86) dX5_readAll_55 (by decide) (fun c40 => ?_) (fun c40 => ?_)
        · refine g_iload_n dX5_readAll_86 rfl ?_
          exact g_iret (ty := .int) dX5_readAll_87 rfl rfl ⟨⟨_, rfl, by first | trivial | lia | grind⟩, hu34, fu34, (by first | rfl | grind | grind [uk_up_at])⟩
        · refine g_aload_n dX5_readAll_58 rfl ?_
          refine f_X5_18 rfl rfl dX5_readAll_59 ?_
          refine g_topi (fun x41 ex41 => ?_)
          have s42 : u34.1 1 4 = x41 := ex41.symm
          refine g_aload_n dX5_readAll_62 rfl ?_
          refine f_X5_25 rfl rfl dX5_readAll_63 ?_
          refine f_X5_43 rfl rfl dX5_readAll_66 ?_
          refine g_topi (fun x43 ex43 => ?_)
          have rx43 : 0 ≤ x43 ∧ x43 ≤ 8 := by rw [ex43]; exact iv_at hu34 _ _ rfl
          have s44 : u34.1 4 0 = x43 := ex43.symm
          refine g_ishr dX5_readAll_69 (fun x45 ex45 => ?_)
          refine g_if_eq (tgt := 86) dX5_readAll_70 (by decide) (fun c46 => ?_) (fun c46 => ?_)
          · refine g_iload_n dX5_readAll_86 rfl ?_
            exact g_iret (ty := .int) dX5_readAll_87 rfl rfl ⟨⟨_, rfl, by first | trivial | lia | grind⟩, hu34, fu34, (by first | rfl | grind | grind [uk_up_at])⟩
          · refine g_aload_n dX5_readAll_73 rfl ?_
            refine g_bipush (v := 6) dX5_readAll_74 (by decide) ?_
            refine g_aload_n dX5_readAll_76 rfl ?_
            refine f_X5_21 rfl rfl dX5_readAll_77 ?_
            refine f_X5_46 rfl rfl dX5_readAll_80 ?_
            refine g_topi (fun x47 ex47 => ?_)
            have rx47 : 0 ≤ x47 ∧ x47 ≤ 160 := by rw [ex47]; exact iv_at hu34 _ _ rfl
            have s48 : u34.1 2 1 = x47 := ex47.symm
            refine cl_X5_47 (c := 1) (As := [.int 6, .int x47]) rfl (c_X5_refuse (G := G) hs hu34  6 x47  (d + 6)) rfl (by omega) rfl rfl (Nat.le_of_ble_eq_true rfl) dX5_readAll_83 (fun r49 u50 q51 => ?_)
            obtain ⟨rfl, mq51⟩ := q51
            obtain ⟨hu50, gu50, ku500⟩ := mq51
            have fu50 : fr 1 13 u u50 := fr_tr fu34 gu50 (by omega) (by omega)
            have wu50_2_1 : u50.1 2 1 = u34.1 2 1 := fr_at gu50 (by omega)
            have wu50_4_0 : u50.1 4 0 = u34.1 4 0 := fr_at gu50 (by omega)
            have s52 : u50.1 4 0 = x43 := (fr_at gu50 (by omega)).trans s44
            have s53 : u50.1 2 1 = x47 := (fr_at gu50 (by omega)).trans s48
            refine g_iload_n dX5_readAll_86 rfl ?_
            exact g_iret (ty := .int) dX5_readAll_87 rfl rfl ⟨⟨_, rfl, by first | trivial | lia | grind⟩, hu50, fu50, (by first | rfl | grind | grind [uk_up_at])⟩
      · have zc37 := nx36 c37
        refine g_iinc (v := i14 + 1) dX5_readAll_45 rfl rfl (by decide) ?_
        refine g_goto (tgt := 31) dX5_readAll_48 (by decide) ?_
        refine g_pick (lv' := [(0, .ref (uk_ad G 1)), (1, .int (i14 + 1))]) [0, 1] rfl ?_
        exact ihi14 (by first | lia | grind)  u34 hu34 fu34 (by first | trivial | lia | grind | grind [uk_up_at] | (simp [uk_up_at, ji140]; done) | (simp [uk_up_at]; grind))
  refine g_pick (lv' := [(0, .ref (uk_ad G 1)), (1, .int 0)]) [0, 1] rfl ?_
  exact L31_12 0 (by first | decide | lia | grind) (by first | decide | lia | grind)  u11 hu11 fu11 (by first | trivial | lia | grind | grind [uk_up_at] | (simp [eu7, eu9, eu11, uk_up_at, s8, s10, s12]; done) | (simp [eu7, eu9, eu11, uk_up_at]; grind))
