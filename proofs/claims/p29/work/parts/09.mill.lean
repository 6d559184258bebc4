abbrev q_X1_putWaiting (u : uk_Mem) (t : Int32) (r : Option Value) (u' : uk_Mem) : Prop := (r = none) ∧ (iv u' ∧ fr 41 46 u u')
set_option maxHeartbeats 4000000 in
set_option maxRecDepth 20000 in
theorem c_X1_putWaiting {G : uk_D} (hs : uk_Sep G) {u : uk_Mem} (hu : iv u) (t : Int32) (p0 : 0 ≤ t) (p1 : t ≤ 7) (d : Nat) : uk_Meth G d mX1_putWaiting [.ref (uk_ad G 41), .int t] u (q_X1_putWaiting u t) := by
  refine uk_Meth.of hs (by decide) (Nat.le_of_ble_eq_true rfl) (fun X => ?_)
  have f0 : fr 41 46 u u := fr_rf
  refine g_aload_n dX1_putWaiting_0 rfl ?_
  refine f_X1_31 rfl rfl dX1_putWaiting_1 ?_
  refine g_topi (fun x1 ex1 => ?_)
  have rx1 : 0 ≤ x1 ∧ x1 ≤ 9 := by rw [ex1]; exact iv_at hu _ _ rfl
  have s2 : u.1 41 6 = x1 := ex1.symm
  refine g_aload_n dX1_putWaiting_4 rfl ?_
  refine f_X1_28 rfl rfl dX1_putWaiting_5 ?_
  refine g_alen8 (v := 9) rfl rfl rfl dX1_putWaiting_8 ?_
  refine g_icmp_ge (tgt := 32) dX1_putWaiting_9 (by decide) (fun c3 => ?_) (fun c3 => ?_)
  · refine g_aload_n dX1_putWaiting_32 rfl ?_
    refine f_X1_22 rfl rfl dX1_putWaiting_33 ?_
    refine g_iload_n dX1_putWaiting_36 rfl ?_
    have v4 : vp_in t 8 := uk_vin 8 rfl (by first | decide | lia | grind) (by first | decide | lia | grind)
    refine g_iald rfl rfl v4 dX1_putWaiting_37 ?_
    refine g_topi (fun x5 ex5 => ?_)
    refine g_bipush (v := (-4)) dX1_putWaiting_38 (by decide) ?_
    refine g_icmp_ne (tgt := 53) dX1_putWaiting_40 (by decide) (fun c6 => ?_) (fun c6 => ?_)
    · exact g_vret dX1_putWaiting_53 rfl ⟨rfl, hu, f0⟩
    · refine g_aload_n dX1_putWaiting_43 rfl ?_
      refine f_X1_22 rfl rfl dX1_putWaiting_44 ?_
      refine g_iload_n dX1_putWaiting_47 rfl ?_
      refine g_aload_n dX1_putWaiting_48 rfl ?_
      refine f_X1_19 rfl rfl dX1_putWaiting_49 ?_
      refine g_topi (fun x7 ex7 => ?_)
      have s8 : u.1 41 2 = x7 := ex7.symm
      have v9 : vp_in t 8 := uk_vin 8 rfl (by first | decide | lia | grind) (by first | decide | lia | grind)
      have b10 := uk_cl v9
      refine g_iast rfl rfl v9 dX1_putWaiting_52 ?_
      refine g_mem (fun u11 eu11 => ?_)
      have hu11 : iv u11 := by rw [eu11]; exact iv_upF hu (uk_pick1 _ (by omega))
      have fu11 : fr 41 46 u u11 := by rw [eu11]; exact fr_up f0 (by omega) (by omega)
      exact g_vret dX1_putWaiting_53 rfl ⟨rfl, hu11, fu11⟩
  · refine g_aload_n dX1_putWaiting_12 rfl ?_
    refine f_X1_28 rfl rfl dX1_putWaiting_13 ?_
    refine g_aload_n dX1_putWaiting_16 rfl ?_
    refine f_X1_31 rfl rfl dX1_putWaiting_17 ?_
    refine g_topi (fun x12 ex12 => ?_)
    have rx12 : 0 ≤ x12 ∧ x12 ≤ 9 := by rw [ex12]; exact iv_at hu _ _ rfl
    have qx12 : x12 = x1 := by rw [ex12]; exact s2
    refine g_iload_n dX1_putWaiting_20 rfl ?_
    have v13 : vp_in x12 9 := uk_vin 9 rfl (by first | decide | lia | grind) (by first | decide | lia | grind)
    have b14 := uk_cl v13
    refine g_iast rfl rfl v13 dX1_putWaiting_21 ?_
    refine g_mem (fun u15 eu15 => ?_)
    have hu15 : iv u15 := by rw [eu15]; exact iv_up hu (uk_pick1 _ (by omega)) (by first | lia | grind) (by first | lia | grind)
    have fu15 : fr 41 46 u u15 := by rw [eu15]; exact fr_up f0 (by omega) (by omega)
    refine g_aload_n dX1_putWaiting_22 rfl ?_
    refine g_dup dX1_putWaiting_23 rfl ?_
    refine f_X1_31 rfl rfl dX1_putWaiting_24 ?_
    refine g_topi (fun x16 ex16 => ?_)
    have rx16 : 0 ≤ x16 ∧ x16 ≤ 9 := by rw [ex16]; exact iv_at hu15 _ _ rfl
    have qx16 : x16 = x1 := by rw [ex16]; simp [eu15, uk_up_at, s2]
    refine g_iconst (v := 1) dX1_putWaiting_27 (by decide) ?_
    refine g_iadd dX1_putWaiting_28 ?_
    refine g_topi (fun x17 ex17 => ?_)
    refine p_X1_31 rfl rfl dX1_putWaiting_29 ?_
    refine g_mem (fun u18 eu18 => ?_)
    have hu18 : iv u18 := by rw [eu18]; exact iv_up hu15 rfl (by first | lia | grind) (by first | lia | grind)
    have fu18 : fr 41 46 u u18 := by rw [eu18]; exact fr_up fu15 (by omega) (by omega)
    have s19 : u18.1 41 6 = x17 := by rw [eu18, uk_up_at]; exact if_pos ⟨rfl, rfl⟩
    refine g_aload_n dX1_putWaiting_32 rfl ?_
    refine f_X1_22 rfl rfl dX1_putWaiting_33 ?_
    refine g_iload_n dX1_putWaiting_36 rfl ?_
    have v20 : vp_in t 8 := uk_vin 8 rfl (by first | decide | lia | grind) (by first | decide | lia | grind)
    refine g_iald rfl rfl v20 dX1_putWaiting_37 ?_
    refine g_topi (fun x21 ex21 => ?_)
    refine g_bipush (v := (-4)) dX1_putWaiting_38 (by decide) ?_
    refine g_icmp_ne (tgt := 53) dX1_putWaiting_40 (by decide) (fun c22 => ?_) (fun c22 => ?_)
    · exact g_vret dX1_putWaiting_53 rfl ⟨rfl, hu18, fu18⟩
    · refine g_aload_n dX1_putWaiting_43 rfl ?_
      refine f_X1_22 rfl rfl dX1_putWaiting_44 ?_
      refine g_iload_n dX1_putWaiting_47 rfl ?_
      refine g_aload_n dX1_putWaiting_48 rfl ?_
      refine f_X1_19 rfl rfl dX1_putWaiting_49 ?_
      refine g_topi (fun x23 ex23 => ?_)
      have s24 : u18.1 41 2 = x23 := ex23.symm
      have v25 : vp_in t 8 := uk_vin 8 rfl (by first | decide | lia | grind) (by first | decide | lia | grind)
      have b26 := uk_cl v25
      refine g_iast rfl rfl v25 dX1_putWaiting_52 ?_
      refine g_mem (fun u27 eu27 => ?_)
      have hu27 : iv u27 := by rw [eu27]; exact iv_upF hu18 (uk_pick1 _ (by omega))
      have fu27 : fr 41 46 u u27 := by rw [eu27]; exact fr_up fu18 (by omega) (by omega)
      exact g_vret dX1_putWaiting_53 rfl ⟨rfl, hu27, fu27⟩
abbrev q_X1_takeWaiting (u : uk_Mem)  (r : Option Value) (u' : uk_Mem) : Prop := (∃ x : Int32, r = some (.int x) ∧ 0 ≤ x ∧ x ≤ 7) ∧ (iv u' ∧ fr 41 46 u u')
set_option maxHeartbeats 4000000 in
set_option maxRecDepth 20000 in
theorem c_X1_takeWaiting {G : uk_D} (hs : uk_Sep G) {u : uk_Mem} (hu : iv u) (p0 : 1 ≤ u.1 41 6) (d : Nat) : uk_Meth G d mX1_takeWaiting [.ref (uk_ad G 41)] u (q_X1_takeWaiting u) := by
  refine uk_Meth.of hs (by decide) (Nat.le_of_ble_eq_true rfl) (fun X => ?_)
  have f0 : fr 41 46 u u := fr_rf
  refine g_aload_n dX1_takeWaiting_0 rfl ?_
  refine g_dup dX1_takeWaiting_1 rfl ?_
  refine f_X1_31 rfl rfl dX1_takeWaiting_2 ?_
  refine g_topi (fun x1 ex1 => ?_)
  have rx1 : 0 ≤ x1 ∧ x1 ≤ 9 := by rw [ex1]; exact iv_at hu _ _ rfl
  have s2 : u.1 41 6 = x1 := ex1.symm
  refine g_iconst (v := 1) dX1_takeWaiting_5 (by decide) ?_
  refine g_isub dX1_takeWaiting_6 ?_
  refine g_topi (fun x3 ex3 => ?_)
  refine p_X1_31 rfl rfl dX1_takeWaiting_7 ?_
  refine g_mem (fun u4 eu4 => ?_)
  have hu4 : iv u4 := by rw [eu4]; exact iv_up hu rfl (by first | lia | grind) (by first | lia | grind)
  have fu4 : fr 41 46 u u4 := by rw [eu4]; exact fr_up f0 (by omega) (by omega)
  have s5 : u4.1 41 6 = x3 := by rw [eu4, uk_up_at]; exact if_pos ⟨rfl, rfl⟩
  refine g_aload_n dX1_takeWaiting_10 rfl ?_
  refine f_X1_28 rfl rfl dX1_takeWaiting_11 ?_
  refine g_aload_n dX1_takeWaiting_14 rfl ?_
  refine f_X1_31 rfl rfl dX1_takeWaiting_15 ?_
  refine g_topi (fun x6 ex6 => ?_)
  have rx6 : 0 ≤ x6 ∧ x6 ≤ 9 := by rw [ex6]; exact iv_at hu4 _ _ rfl
  have qx6 : x6 = x3 := by rw [ex6]; exact s5
  have v7 : vp_in x6 9 := uk_vin 9 rfl (by first | decide | lia | grind) (by first | decide | lia | grind)
  refine g_iald rfl rfl v7 dX1_takeWaiting_18 ?_
  refine g_topi (fun x8 ex8 => ?_)
  have bx8 := uk_cl v7
  have rx8 : 0 ≤ x8 ∧ x8 ≤ 7 := by rw [ex8]; exact iv_at hu4 _ _ (uk_pick1 _ (by omega))
  exact g_iret (ty := .int) dX1_takeWaiting_19 rfl rfl ⟨⟨_, rfl, by first | trivial | lia | grind⟩, hu4, fu4⟩
abbrev q_X1_lieDown (u : uk_Mem) (t : Int32) (r : Option Value) (u' : uk_Mem) : Prop := (r = none) ∧ (iv u' ∧ fr 41 46 u u')
set_option maxHeartbeats 4000000 in
set_option maxRecDepth 20000 in
theorem c_X1_lieDown {G : uk_D} (hs : uk_Sep G) {u : uk_Mem} (hu : iv u) (t : Int32) (p0 : 0 ≤ t) (p1 : t ≤ 7) (d : Nat) : uk_Meth G d mX1_lieDown [.ref (uk_ad G 41), .int t] u (q_X1_lieDown u t) := by
  refine uk_Meth.of hs (by decide) (Nat.le_of_ble_eq_true rfl) (fun X => ?_)
  have f0 : fr 41 46 u u := fr_rf
  refine g_aload_n dX1_lieDown_0 rfl ?_
  refine f_X1_15 rfl rfl dX1_lieDown_1 ?_
  refine g_topi (fun x1 ex1 => ?_)
  have rx1 : 0 ≤ x1 ∧ x1 ≤ 128 := by rw [ex1]; exact iv_at hu _ _ rfl
  have s2 : u.1 41 1 = x1 := ex1.symm
  refine g_sipush (v := 128) dX1_lieDown_4 (by decide) ?_
  refine g_icmp_ge (tgt := 30) dX1_lieDown_7 (by decide) (fun c3 => ?_) (fun c3 => ?_)
  · exact g_vret dX1_lieDown_30 rfl ⟨rfl, hu, f0⟩
  · refine g_aload_n dX1_lieDown_10 rfl ?_
    refine f_X1_9 rfl rfl dX1_lieDown_11 ?_
    refine g_aload_n dX1_lieDown_14 rfl ?_
    refine f_X1_15 rfl rfl dX1_lieDown_15 ?_
    refine g_topi (fun x4 ex4 => ?_)
    have rx4 : 0 ≤ x4 ∧ x4 ≤ 128 := by rw [ex4]; exact iv_at hu _ _ rfl
    have qx4 : x4 = x1 := by rw [ex4]; exact s2
    refine g_iload_n dX1_lieDown_18 rfl ?_
    have v5 : vp_in x4 128 := uk_vin 128 rfl (by first | decide | lia | grind) (by first | decide | lia | grind)
    have b6 := uk_cl v5
    refine g_iast rfl rfl v5 dX1_lieDown_19 ?_
    refine g_mem (fun u7 eu7 => ?_)
    have hu7 : iv u7 := by rw [eu7]; exact iv_up hu (uk_pick1 _ (by omega)) (by first | lia | grind) (by first | lia | grind)
    have fu7 : fr 41 46 u u7 := by rw [eu7]; exact fr_up f0 (by omega) (by omega)
    refine g_aload_n dX1_lieDown_20 rfl ?_
    refine g_dup dX1_lieDown_21 rfl ?_
    refine f_X1_15 rfl rfl dX1_lieDown_22 ?_
    refine g_topi (fun x8 ex8 => ?_)
    have rx8 : 0 ≤ x8 ∧ x8 ≤ 128 := by rw [ex8]; exact iv_at hu7 _ _ rfl
    have qx8 : x8 = x1 := by rw [ex8]; simp [eu7, uk_up_at, s2]
    refine g_iconst (v := 1) dX1_lieDown_25 (by decide) ?_
    refine g_iadd dX1_lieDown_26 ?_
    refine g_topi (fun x9 ex9 => ?_)
    refine p_X1_15 rfl rfl dX1_lieDown_27 ?_
    refine g_mem (fun u10 eu10 => ?_)
    have hu10 : iv u10 := by rw [eu10]; exact iv_up hu7 rfl (by first | lia | grind) (by first | lia | grind)
    have fu10 : fr 41 46 u u10 := by rw [eu10]; exact fr_up fu7 (by omega) (by omega)
    have s11 : u10.1 41 1 = x9 := by rw [eu10, uk_up_at]; exact if_pos ⟨rfl, rfl⟩
    exact g_vret dX1_lieDown_30 rfl ⟨rfl, hu10, fu10⟩
abbrev q_X1_start (u : uk_Mem) (m : Int32) (r : Option Value) (u' : uk_Mem) : Prop := (r = none) ∧ (iv u' ∧ fr 41 46 u u')
set_option maxHeartbeats 4000000 in
set_option maxRecDepth 20000 in
theorem c_X1_start {G : uk_D} (hs : uk_Sep G) {u : uk_Mem} (hu : iv u) (m : Int32) (p0 : 0 ≤ m) (p1 : m ≤ 7) (d : Nat) : uk_Meth G (d + 1) mX1_start [.ref (uk_ad G 41), .int m] u (q_X1_start u m) := by
  refine uk_Meth.of hs (by decide) (Nat.le_of_ble_eq_true rfl) (fun X => ?_)
  have f0 : fr 41 46 u u := fr_rf
  refine g_aload_n dX1_start_0 rfl ?_
  refine g_iconst (v := 0) dX1_start_1 (by decide) ?_
  refine p_X1_15 rfl rfl dX1_start_2 ?_
  refine g_mem (fun u1 eu1 => ?_)
  have hu1 : iv u1 := by rw [eu1]; exact iv_up hu rfl (by first | lia | grind) (by first | lia | grind)
  have fu1 : fr 41 46 u u1 := by rw [eu1]; exact fr_up f0 (by omega) (by omega)
  have s2 : u1.1 41 1 = 0 := by rw [eu1, uk_up_at]; exact if_pos ⟨rfl, rfl⟩
  refine g_aload_n dX1_start_5 rfl ?_
  refine g_iconst (v := 0) dX1_start_6 (by decide) ?_
  refine p_X1_19 rfl rfl dX1_start_7 ?_
  refine g_mem (fun u3 eu3 => ?_)
  have hu3 : iv u3 := by rw [eu3]; exact iv_upF hu1 rfl
  have fu3 : fr 41 46 u u3 := by rw [eu3]; exact fr_up fu1 (by omega) (by omega)
  have s4 : u3.1 41 2 = 0 := by rw [eu3, uk_up_at]; exact if_pos ⟨rfl, rfl⟩
  refine g_aload_n dX1_start_10 rfl ?_
  refine g_iconst (v := 0) dX1_start_11 (by decide) ?_
  refine p_X1_31 rfl rfl dX1_start_12 ?_
  refine g_mem (fun u5 eu5 => ?_)
  have hu5 : iv u5 := by rw [eu5]; exact iv_up hu3 rfl (by first | lia | grind) (by first | lia | grind)
  have fu5 : fr 41 46 u u5 := by rw [eu5]; exact fr_up fu3 (by omega) (by omega)
  have s6 : u5.1 41 6 = 0 := by rw [eu5, uk_up_at]; exact if_pos ⟨rfl, rfl⟩
  refine g_iconst (v := 0) dX1_start_15 (by decide) ?_
  refine g_istore_n dX1_start_16 (by decide) ?_
  refine g_pick (lv' := [(0, .ref (uk_ad G 41)), (1, .int m), (2, .int 0)]) [0, 1, 2] rfl ?_
  have L17_6 : ∀ i8 : Int32, 0 ≤ i8 → i8 ≤ 8 → ∀ (u9 : uk_Mem), iv u9 → fr 41 46 u u9 → uk_G G X mX1_start (d + 1) (q_X1_start u m) 17 [(0, .ref (uk_ad G 41)), (1, .int m), (2, .int i8)] [] u9 := by
    refine uk_upl 8 ?_
    intro i8 ai8 bi8 ihi8  u9 hu9 fu9
    refine g_iload_n dX1_start_17 rfl ?_
    refine g_bipush (v := 8) dX1_start_18 (by decide) ?_
    refine g_icmp_ge (tgt := 44) dX1_start_20 (by decide) (fun c10 => ?_) (fun c10 => ?_)
    · refine g_aload_n dX1_start_44 rfl ?_
      refine g_iload_n dX1_start_45 rfl ?_
      refine cl_X1_54 (c := 41) (As := [.int m]) rfl (c_X1_putWaiting (G := G) hs hu9  m (by first | trivial | decide | lia | grind) (by first | trivial | decide | lia | grind) (d)) rfl (by omega) rfl rfl (Nat.le_of_ble_eq_true rfl) dX1_start_46 (fun r11 u12 q13 => ?_)
      obtain ⟨rfl, mq13⟩ := q13
      obtain ⟨hu12, gu12⟩ := mq13
      have fu12 : fr 41 46 u u12 := fr_tr fu9 gu12 (by omega) (by omega)
      exact g_vret dX1_start_49 rfl ⟨rfl, hu12, fu12⟩
    · refine g_aload_n dX1_start_23 rfl ?_
      refine f_X1_22 rfl rfl dX1_start_24 ?_
      refine g_iload_n dX1_start_27 rfl ?_
      refine g_bipush (v := (-4)) dX1_start_28 (by decide) ?_
      have v14 : vp_in i8 8 := uk_vin 8 rfl (by first | decide | lia | grind) (by first | decide | lia | grind)
      have b15 := uk_cl v14
      refine g_iast rfl rfl v14 dX1_start_30 ?_
      refine g_mem (fun u16 eu16 => ?_)
      have hu16 : iv u16 := by rw [eu16]; exact iv_upF hu9 (uk_pick1 _ (by omega))
      have fu16 : fr 41 46 u u16 := by rw [eu16]; exact fr_up fu9 (by omega) (by omega)
      refine g_aload_n dX1_start_31 rfl ?_
      refine f_X1_25 rfl rfl dX1_start_32 ?_
      refine g_iload_n dX1_start_35 rfl ?_
      refine g_iconst (v := 0) dX1_start_36 (by decide) ?_
      have v17 : vp_in i8 8 := uk_vin 8 rfl (by first | decide | lia | grind) (by first | decide | lia | grind)
      have b18 := uk_cl v17
      refine g_iast rfl rfl v17 dX1_start_37 ?_
      refine g_mem (fun u19 eu19 => ?_)
      have hu19 : iv u19 := by rw [eu19]; exact iv_upF hu16 (uk_pick1 _ (by omega))
      have fu19 : fr 41 46 u u19 := by rw [eu19]; exact fr_up fu16 (by omega) (by omega)
      refine g_iinc (v := i8 + 1) dX1_start_38 rfl rfl (by decide) ?_
      refine g_pick (lv' := [(0, .ref (uk_ad G 41)), (1, .int m), (2, .int (i8 + 1))]) [0, 1, 2] rfl ?_
      refine g_goto (tgt := 17) dX1_start_41 (by decide) ?_
      refine g_pick (lv' := [(0, .ref (uk_ad G 41)), (1, .int m), (2, .int (i8 + 1))]) [0, 1, 2] rfl ?_
      exact ihi8 (by first | lia | grind)  u19 hu19 fu19 
  refine g_pick (lv' := [(0, .ref (uk_ad G 41)), (1, .int m), (2, .int 0)]) [0, 1, 2] rfl ?_
  exact L17_6 0 (by first | decide | lia | grind) (by first | decide | lia | grind)  u5 hu5 fu5 
abbrev q_X1_part (u : uk_Mem) (t : Int32) (k : Int32) (r : Option Value) (u' : uk_Mem) : Prop := (r = none) ∧ (iv u' ∧ fr 41 46 u u')
set_option maxHeartbeats 4000000 in
set_option maxRecDepth 20000 in
theorem c_X1_part {G : uk_D} (hs : uk_Sep G) {u : uk_Mem} (hu : iv u) (t : Int32) (k : Int32) (p0 : 0 ≤ t) (p1 : t ≤ 7) (d : Nat) : uk_Meth G (d + 1) mX1_part [.ref (uk_ad G 41), .ref (uk_ad G 13), .int t, .int k] u (q_X1_part u t k) := by
  refine uk_Meth.of hs (by decide) (Nat.le_of_ble_eq_true rfl) (fun X => ?_)
  have f0 : fr 41 46 u u := fr_rf
  refine g_aload_n dX1_part_0 rfl ?_
  refine g_dup dX1_part_1 rfl ?_
  refine f_X1_19 rfl rfl dX1_part_2 ?_
  refine g_topi (fun x1 ex1 => ?_)
  have s2 : u.1 41 2 = x1 := ex1.symm
  refine g_iconst (v := 1) dX1_part_5 (by decide) ?_
  refine g_iadd dX1_part_6 ?_
  refine g_topi (fun x3 ex3 => ?_)
  refine p_X1_19 rfl rfl dX1_part_7 ?_
  refine g_mem (fun u4 eu4 => ?_)
  have hu4 : iv u4 := by rw [eu4]; exact iv_upF hu rfl
  have fu4 : fr 41 46 u u4 := by rw [eu4]; exact fr_up f0 (by omega) (by omega)
  have s5 : u4.1 41 2 = x3 := by rw [eu4, uk_up_at]; exact if_pos ⟨rfl, rfl⟩
  refine g_iload_n dX1_part_10 rfl ?_
  refine g_aload_n dX1_part_11 rfl ?_
  refine f_X1_25 rfl rfl dX1_part_12 ?_
  refine g_iload_n dX1_part_15 rfl ?_
  have v6 : vp_in t 8 := uk_vin 8 rfl (by first | decide | lia | grind) (by first | decide | lia | grind)
  refine g_iald rfl rfl v6 dX1_part_16 ?_
  refine g_topi (fun x7 ex7 => ?_)
  refine cl_X1_57 (As := [.int k, .int x7]) rfl (c_X0_givesB (G := G) hs hu4  k x7  (d)) rfl (by omega) rfl (Nat.le_of_ble_eq_true rfl) dX1_part_17 (fun r8 u9 q10 => ?_)
  obtain ⟨⟨x11, rfl, tx11, nx11, zx11⟩, mq10⟩ := q10
  rw [mq10]
  refine g_if_eq (tgt := 33) dX1_part_20 (by decide) (fun c12 => ?_) (fun c12 => ?_)
  · have zc12 := zx11 c12
    refine g_aload_n dX1_part_33 rfl ?_
    refine g_aload_n dX1_part_34 rfl ?_
    refine f_X1_64 rfl rfl dX1_part_35 ?_
    refine g_iload_n dX1_part_38 rfl ?_
    have v13 : vp_in t 8 := uk_vin 8 rfl (by first | decide | lia | grind) (by first | decide | lia | grind)
    refine g_iald rfl rfl v13 dX1_part_39 ?_
    refine g_topi (fun x14 ex14 => ?_)
    have bx14 := uk_cl v13
    have rx14 : 0 ≤ x14 ∧ x14 ≤ 7 := by rw [ex14]; exact iv_at hu4 _ _ (uk_pick1 _ (by omega))
    refine cl_X1_54 (c := 41) (As := [.int x14]) rfl (c_X1_putWaiting (G := G) hs hu4  x14 (by first | trivial | decide | lia | grind) (by first | trivial | decide | lia | grind) (d)) rfl (by omega) rfl rfl (Nat.le_of_ble_eq_true rfl) dX1_part_40 (fun r15 u16 q17 => ?_)
    obtain ⟨rfl, mq17⟩ := q17
    obtain ⟨hu16, gu16⟩ := mq17
    have fu16 : fr 41 46 u u16 := fr_tr fu4 gu16 (by omega) (by omega)
    refine g_iload_n dX1_part_43 rfl ?_
    refine g_iconst (v := 3) dX1_part_44 (by decide) ?_
    refine g_icmp_ne (tgt := 62) dX1_part_45 (by decide) (fun c18 => ?_) (fun c18 => ?_)
    · exact g_vret dX1_part_62 rfl ⟨rfl, hu16, fu16⟩
    · refine g_aload_n dX1_part_48 rfl ?_
      refine f_X1_25 rfl rfl dX1_part_49 ?_
      refine g_iload_n dX1_part_52 rfl ?_
      refine g_iconst (v := 1) dX1_part_53 (by decide) ?_
      refine g_aload_n dX1_part_54 rfl ?_
      refine f_X1_25 rfl rfl dX1_part_55 ?_
      refine g_iload_n dX1_part_58 rfl ?_
      have v19 : vp_in t 8 := uk_vin 8 rfl (by first | decide | lia | grind) (by first | decide | lia | grind)
      refine g_iald rfl rfl v19 dX1_part_59 ?_
      refine g_topi (fun x20 ex20 => ?_)
      refine g_isub dX1_part_60 ?_
      refine g_topi (fun x21 ex21 => ?_)
      have v22 : vp_in t 8 := uk_vin 8 rfl (by first | decide | lia | grind) (by first | decide | lia | grind)
      have b23 := uk_cl v22
      refine g_iast rfl rfl v22 dX1_part_61 ?_
      refine g_mem (fun u24 eu24 => ?_)
      have hu24 : iv u24 := by rw [eu24]; exact iv_upF hu16 (uk_pick1 _ (by omega))
      have fu24 : fr 41 46 u u24 := by rw [eu24]; exact fr_up fu16 (by omega) (by omega)
      exact g_vret dX1_part_62 rfl ⟨rfl, hu24, fu24⟩
  · have zc12 := nx11 c12
    refine g_aload_n dX1_part_23 rfl ?_
    refine g_aload_n dX1_part_24 rfl ?_
    refine f_X1_61 rfl rfl dX1_part_25 ?_
    refine g_iload_n dX1_part_28 rfl ?_
    have v25 : vp_in t 8 := uk_vin 8 rfl (by first | decide | lia | grind) (by first | decide | lia | grind)
    refine g_iald rfl rfl v25 dX1_part_29 ?_
    refine g_topi (fun x26 ex26 => ?_)
    have bx26 := uk_cl v25
    have rx26 : 0 ≤ x26 ∧ x26 ≤ 7 := by rw [ex26]; exact iv_at hu4 _ _ (uk_pick1 _ (by omega))
    refine cl_X1_54 (c := 41) (As := [.int x26]) rfl (c_X1_putWaiting (G := G) hs hu4  x26 (by first | trivial | decide | lia | grind) (by first | trivial | decide | lia | grind) (d)) rfl (by omega) rfl rfl (Nat.le_of_ble_eq_true rfl) dX1_part_30 (fun r27 u28 q29 => ?_)
    obtain ⟨rfl, mq29⟩ := q29
    obtain ⟨hu28, gu28⟩ := mq29
    have fu28 : fr 41 46 u u28 := fr_tr fu4 gu28 (by omega) (by omega)
    refine g_aload_n dX1_part_33 rfl ?_
    refine g_aload_n dX1_part_34 rfl ?_
    refine f_X1_64 rfl rfl dX1_part_35 ?_
    refine g_iload_n dX1_part_38 rfl ?_
    have v30 : vp_in t 8 := uk_vin 8 rfl (by first | decide | lia | grind) (by first | decide | lia | grind)
    refine g_iald rfl rfl v30 dX1_part_39 ?_
    refine g_topi (fun x31 ex31 => ?_)
    have bx31 := uk_cl v30
    have rx31 : 0 ≤ x31 ∧ x31 ≤ 7 := by rw [ex31]; exact iv_at hu28 _ _ (uk_pick1 _ (by omega))
    refine cl_X1_54 (c := 41) (As := [.int x31]) rfl (c_X1_putWaiting (G := G) hs hu28  x31 (by first | trivial | decide | lia | grind) (by first | trivial | decide | lia | grind) (d)) rfl (by omega) rfl rfl (Nat.le_of_ble_eq_true rfl) dX1_part_40 (fun r32 u33 q34 => ?_)
    obtain ⟨rfl, mq34⟩ := q34
    obtain ⟨hu33, gu33⟩ := mq34
    have fu33 : fr 41 46 u u33 := fr_tr fu28 gu33 (by omega) (by omega)
    refine g_iload_n dX1_part_43 rfl ?_
    refine g_iconst (v := 3) dX1_part_44 (by decide) ?_
    refine g_icmp_ne (tgt := 62) dX1_part_45 (by decide) (fun c35 => ?_) (fun c35 => ?_)
    · exact g_vret dX1_part_62 rfl ⟨rfl, hu33, fu33⟩
    · refine g_aload_n dX1_part_48 rfl ?_
      refine f_X1_25 rfl rfl dX1_part_49 ?_
      refine g_iload_n dX1_part_52 rfl ?_
      refine g_iconst (v := 1) dX1_part_53 (by decide) ?_
      refine g_aload_n dX1_part_54 rfl ?_
      refine f_X1_25 rfl rfl dX1_part_55 ?_
      refine g_iload_n dX1_part_58 rfl ?_
      have v36 : vp_in t 8 := uk_vin 8 rfl (by first | decide | lia | grind) (by first | decide | lia | grind)
      refine g_iald rfl rfl v36 dX1_part_59 ?_
      refine g_topi (fun x37 ex37 => ?_)
      refine g_isub dX1_part_60 ?_
      refine g_topi (fun x38 ex38 => ?_)
      have v39 : vp_in t 8 := uk_vin 8 rfl (by first | decide | lia | grind) (by first | decide | lia | grind)
      have b40 := uk_cl v39
      refine g_iast rfl rfl v39 dX1_part_61 ?_
      refine g_mem (fun u41 eu41 => ?_)
      have hu41 : iv u41 := by rw [eu41]; exact iv_upF hu33 (uk_pick1 _ (by omega))
      have fu41 : fr 41 46 u u41 := by rw [eu41]; exact fr_up fu33 (by omega) (by omega)
      exact g_vret dX1_part_62 rfl ⟨rfl, hu41, fu41⟩
abbrev q_X1_grind (u : uk_Mem) (m : Int32) (n : Int32) (r : Option Value) (u' : uk_Mem) : Prop := (r = none) ∧ (iv u' ∧ fr 41 46 u u')
set_option maxHeartbeats 4000000 in
set_option maxRecDepth 20000 in
theorem c_X1_grind {G : uk_D} (hs : uk_Sep G) {u : uk_Mem} (hu : iv u) (m : Int32) (n : Int32) (p0 : 0 ≤ m) (p1 : m ≤ 7) (d : Nat) : uk_Meth G (d + 2) mX1_grind [.ref (uk_ad G 41), .ref (uk_ad G 13), .int m, .int n] u (q_X1_grind u m n) := by
  refine uk_Meth.of hs (by decide) (Nat.le_of_ble_eq_true rfl) (fun X => ?_)
  have f0 : fr 41 46 u u := fr_rf
  refine g_aload_n dX1_grind_0 rfl ?_
  refine g_iload_n dX1_grind_1 rfl ?_
  refine cl_X1_34 (c := 41) (As := [.int m]) rfl (c_X1_start (G := G) hs hu  m (by first | trivial | decide | lia | grind) (by first | trivial | decide | lia | grind) (d)) rfl (by omega) rfl rfl (Nat.le_of_ble_eq_true rfl) dX1_grind_2 (fun r1 u2 q3 => ?_)
  obtain ⟨rfl, mq3⟩ := q3
  obtain ⟨hu2, gu2⟩ := mq3
  have fu2 : fr 41 46 u u2 := fr_tr f0 gu2 (by omega) (by omega)
  refine g_iconst (v := 0) dX1_grind_5 (by decide) ?_
  refine g_istore dX1_grind_6 (by decide) ?_
  refine g_pick (lv' := [(0, .ref (uk_ad G 41)), (1, .ref (uk_ad G 13)), (2, .int m), (3, .int n), (4, .int 0)]) [0, 1, 2, 3, 4] rfl ?_
  have L8_3 : ∀ i5 : Int32, 0 ≤ i5 → i5 ≤ 255 → ∀ (u6 : uk_Mem), iv u6 → fr 41 46 u u6 → uk_G G X mX1_grind (d + 2) (q_X1_grind u m n) 8 [(0, .ref (uk_ad G 41)), (1, .ref (uk_ad G 13)), (2, .int m), (3, .int n), (4, .int i5)] [] u6 := by
    refine uk_upl 255 ?_
    intro i5 ai5 bi5 ihi5  u6 hu6 fu6
    refine g_iload dX1_grind_8 rfl ?_
    refine g_sipush (v := 255) dX1_grind_10 (by decide) ?_
    refine g_icmp_ge (tgt := 82) dX1_grind_13 (by decide) (fun c7 => ?_) (fun c7 => ?_)
    · refine g_aload_n dX1_grind_82 rfl ?_
      refine f_X1_31 rfl rfl dX1_grind_83 ?_
      refine g_topi (fun x8 ex8 => ?_)
      have rx8 : 0 ≤ x8 ∧ x8 ≤ 9 := by rw [ex8]; exact iv_at hu6 _ _ rfl
      have s9 : u6.1 41 6 = x8 := ex8.symm
      refine g_iconst (v := 1) dX1_grind_86 (by decide) ?_
      refine g_isub dX1_grind_87 ?_
      refine g_topi (fun x10 ex10 => ?_)
      refine g_istore dX1_grind_88 (by decide) ?_
      refine g_pick (lv' := [(0, .ref (uk_ad G 41)), (1, .ref (uk_ad G 13)), (2, .int m), (3, .int n), (4, .int x10)]) [0, 1, 2, 3, 4] rfl ?_
      have L90_10 : ∀ i12 : Int32, -1 ≤ i12 → ∀ (u13 : uk_Mem), iv u13 → fr 41 46 u u13 → i12 ≤ 8 → uk_G G X mX1_grind (d + 2) (q_X1_grind u m n) 90 [(0, .ref (uk_ad G 41)), (1, .ref (uk_ad G 13)), (2, .int m), (3, .int n), (4, .int i12)] [] u13 := by
        refine uk_dnl ?_
        intro i12 ai12 ihi12  u13 hu13 fu13 ji120
        refine g_iload dX1_grind_90 rfl ?_
        refine g_if_lt (tgt := 112) dX1_grind_92 (by decide) (fun c14 => ?_) (fun c14 => ?_)
        · exact g_vret dX1_grind_112 rfl ⟨rfl, hu13, fu13⟩
        · refine g_aload_n dX1_grind_95 rfl ?_
          refine g_aload_n dX1_grind_96 rfl ?_
          refine f_X1_28 rfl rfl dX1_grind_97 ?_
          refine g_iload dX1_grind_100 rfl ?_
          have v15 : vp_in i12 9 := uk_vin 9 rfl (by first | decide | lia | grind) (by first | decide | lia | grind)
          refine g_iald rfl rfl v15 dX1_grind_102 ?_
          refine g_topi (fun x16 ex16 => ?_)
          have bx16 := uk_cl v15
          have rx16 : 0 ≤ x16 ∧ x16 ≤ 7 := by rw [ex16]; exact iv_at hu13 _ _ (uk_pick1 _ (by omega))
          refine cl_X1_47 (c := 41) (As := [.int x16]) rfl (c_X1_lieDown (G := G) hs hu13  x16 (by first | trivial | decide | lia | grind) (by first | trivial | decide | lia | grind) (d + 1)) rfl (by omega) rfl rfl (Nat.le_of_ble_eq_true rfl) dX1_grind_103 (fun r17 u18 q19 => ?_)
          obtain ⟨rfl, mq19⟩ := q19
          obtain ⟨hu18, gu18⟩ := mq19
          have fu18 : fr 41 46 u u18 := fr_tr fu13 gu18 (by omega) (by omega)
          refine g_iinc (v := i12 - 1) dX1_grind_106 rfl (uk_m1 _) (by decide) ?_
          refine g_pick (lv' := [(0, .ref (uk_ad G 41)), (1, .ref (uk_ad G 13)), (2, .int m), (3, .int n), (4, .int (i12 - 1))]) [0, 1, 2, 3, 4] rfl ?_
          refine g_goto (tgt := 90) dX1_grind_109 (by decide) ?_
          refine g_pick (lv' := [(0, .ref (uk_ad G 41)), (1, .ref (uk_ad G 13)), (2, .int m), (3, .int n), (4, .int (i12 - 1))]) [0, 1, 2, 3, 4] rfl ?_
          exact ihi12 (by first | lia | grind)  u18 hu18 fu18 (by first | trivial | lia | grind)
      refine g_pick (lv' := [(0, .ref (uk_ad G 41)), (1, .ref (uk_ad G 13)), (2, .int m), (3, .int n), (4, .int x10)]) [0, 1, 2, 3, 4] rfl ?_
      exact L90_10 x10 (by first | decide | lia | grind)  u6 hu6 fu6 (by first | trivial | lia | grind)
    · refine g_aload_n dX1_grind_16 rfl ?_
      refine f_X1_19 rfl rfl dX1_grind_17 ?_
      refine g_topi (fun x20 ex20 => ?_)
      have s21 : u6.1 41 2 = x20 := ex20.symm
      refine g_iload_n dX1_grind_20 rfl ?_
      refine g_icmp_ge (tgt := 82) dX1_grind_21 (by decide) (fun c22 => ?_) (fun c22 => ?_)
      · refine g_aload_n dX1_grind_82 rfl ?_
        refine f_X1_31 rfl rfl dX1_grind_83 ?_
        refine g_topi (fun x23 ex23 => ?_)
        have rx23 : 0 ≤ x23 ∧ x23 ≤ 9 := by rw [ex23]; exact iv_at hu6 _ _ rfl
        have s24 : u6.1 41 6 = x23 := ex23.symm
        refine g_iconst (v := 1) dX1_grind_86 (by decide) ?_
        refine g_isub dX1_grind_87 ?_
        refine g_topi (fun x25 ex25 => ?_)
        refine g_istore dX1_grind_88 (by decide) ?_
        refine g_pick (lv' := [(0, .ref (uk_ad G 41)), (1, .ref (uk_ad G 13)), (2, .int m), (3, .int n), (4, .int x25)]) [0, 1, 2, 3, 4] rfl ?_
        have L90_25 : ∀ i27 : Int32, -1 ≤ i27 → ∀ (u28 : uk_Mem), iv u28 → fr 41 46 u u28 → i27 ≤ 8 → uk_G G X mX1_grind (d + 2) (q_X1_grind u m n) 90 [(0, .ref (uk_ad G 41)), (1, .ref (uk_ad G 13)), (2, .int m), (3, .int n), (4, .int i27)] [] u28 := by
          refine uk_dnl ?_
          intro i27 ai27 ihi27  u28 hu28 fu28 ji270
          refine g_iload dX1_grind_90 rfl ?_
          refine g_if_lt (tgt := 112) dX1_grind_92 (by decide) (fun c29 => ?_) (fun c29 => ?_)
          · exact g_vret dX1_grind_112 rfl ⟨rfl, hu28, fu28⟩
          · refine g_aload_n dX1_grind_95 rfl ?_
            refine g_aload_n dX1_grind_96 rfl ?_
            refine f_X1_28 rfl rfl dX1_grind_97 ?_
            refine g_iload dX1_grind_100 rfl ?_
            have v30 : vp_in i27 9 := uk_vin 9 rfl (by first | decide | lia | grind) (by first | decide | lia | grind)
            refine g_iald rfl rfl v30 dX1_grind_102 ?_
            refine g_topi (fun x31 ex31 => ?_)
            have bx31 := uk_cl v30
            have rx31 : 0 ≤ x31 ∧ x31 ≤ 7 := by rw [ex31]; exact iv_at hu28 _ _ (uk_pick1 _ (by omega))
            refine cl_X1_47 (c := 41) (As := [.int x31]) rfl (c_X1_lieDown (G := G) hs hu28  x31 (by first | trivial | decide | lia | grind) (by first | trivial | decide | lia | grind) (d + 1)) rfl (by omega) rfl rfl (Nat.le_of_ble_eq_true rfl) dX1_grind_103 (fun r32 u33 q34 => ?_)
            obtain ⟨rfl, mq34⟩ := q34
            obtain ⟨hu33, gu33⟩ := mq34
            have fu33 : fr 41 46 u u33 := fr_tr fu28 gu33 (by omega) (by omega)
            refine g_iinc (v := i27 - 1) dX1_grind_106 rfl (uk_m1 _) (by decide) ?_
            refine g_pick (lv' := [(0, .ref (uk_ad G 41)), (1, .ref (uk_ad G 13)), (2, .int m), (3, .int n), (4, .int (i27 - 1))]) [0, 1, 2, 3, 4] rfl ?_
            refine g_goto (tgt := 90) dX1_grind_109 (by decide) ?_
            refine g_pick (lv' := [(0, .ref (uk_ad G 41)), (1, .ref (uk_ad G 13)), (2, .int m), (3, .int n), (4, .int (i27 - 1))]) [0, 1, 2, 3, 4] rfl ?_
            exact ihi27 (by first | lia | grind)  u33 hu33 fu33 (by first | trivial | lia | grind)
        refine g_pick (lv' := [(0, .ref (uk_ad G 41)), (1, .ref (uk_ad G 13)), (2, .int m), (3, .int n), (4, .int x25)]) [0, 1, 2, 3, 4] rfl ?_
        exact L90_25 x25 (by first | decide | lia | grind)  u6 hu6 fu6 (by first | trivial | lia | grind)
      · refine g_aload_n dX1_grind_24 rfl ?_
        refine f_X1_31 rfl rfl dX1_grind_25 ?_
        refine g_topi (fun x35 ex35 => ?_)
        have rx35 : 0 ≤ x35 ∧ x35 ≤ 9 := by rw [ex35]; exact iv_at hu6 _ _ rfl
        have s36 : u6.1 41 6 = x35 := ex35.symm
        refine g_if_le (tgt := 82) dX1_grind_28 (by decide) (fun c37 => ?_) (fun c37 => ?_)
        · refine g_aload_n dX1_grind_82 rfl ?_
          refine f_X1_31 rfl rfl dX1_grind_83 ?_
          refine g_topi (fun x38 ex38 => ?_)
          have rx38 : 0 ≤ x38 ∧ x38 ≤ 9 := by rw [ex38]; exact iv_at hu6 _ _ rfl
          have qx38 : x38 = x35 := by rw [ex38]; exact s36
          refine g_iconst (v := 1) dX1_grind_86 (by decide) ?_
          refine g_isub dX1_grind_87 ?_
          refine g_topi (fun x39 ex39 => ?_)
          refine g_istore dX1_grind_88 (by decide) ?_
          refine g_pick (lv' := [(0, .ref (uk_ad G 41)), (1, .ref (uk_ad G 13)), (2, .int m), (3, .int n), (4, .int x39)]) [0, 1, 2, 3, 4] rfl ?_
          have L90_39 : ∀ i41 : Int32, -1 ≤ i41 → ∀ (u42 : uk_Mem), iv u42 → fr 41 46 u u42 → i41 ≤ 8 → uk_G G X mX1_grind (d + 2) (q_X1_grind u m n) 90 [(0, .ref (uk_ad G 41)), (1, .ref (uk_ad G 13)), (2, .int m), (3, .int n), (4, .int i41)] [] u42 := by
            refine uk_dnl ?_
            intro i41 ai41 ihi41  u42 hu42 fu42 ji410
            refine g_iload dX1_grind_90 rfl ?_
            refine g_if_lt (tgt := 112) dX1_grind_92 (by decide) (fun c43 => ?_) (fun c43 => ?_)
            · exact g_vret dX1_grind_112 rfl ⟨rfl, hu42, fu42⟩
            · refine g_aload_n dX1_grind_95 rfl ?_
              refine g_aload_n dX1_grind_96 rfl ?_
              refine f_X1_28 rfl rfl dX1_grind_97 ?_
              refine g_iload dX1_grind_100 rfl ?_
              have v44 : vp_in i41 9 := uk_vin 9 rfl (by first | decide | lia | grind) (by first | decide | lia | grind)
              refine g_iald rfl rfl v44 dX1_grind_102 ?_
              refine g_topi (fun x45 ex45 => ?_)
              have bx45 := uk_cl v44
              have rx45 : 0 ≤ x45 ∧ x45 ≤ 7 := by rw [ex45]; exact iv_at hu42 _ _ (uk_pick1 _ (by omega))
              refine cl_X1_47 (c := 41) (As := [.int x45]) rfl (c_X1_lieDown (G := G) hs hu42  x45 (by first | trivial | decide | lia | grind) (by first | trivial | decide | lia | grind) (d + 1)) rfl (by omega) rfl rfl (Nat.le_of_ble_eq_true rfl) dX1_grind_103 (fun r46 u47 q48 => ?_)
              obtain ⟨rfl, mq48⟩ := q48
              obtain ⟨hu47, gu47⟩ := mq48
              have fu47 : fr 41 46 u u47 := fr_tr fu42 gu47 (by omega) (by omega)
              refine g_iinc (v := i41 - 1) dX1_grind_106 rfl (uk_m1 _) (by decide) ?_
              refine g_pick (lv' := [(0, .ref (uk_ad G 41)), (1, .ref (uk_ad G 13)), (2, .int m), (3, .int n), (4, .int (i41 - 1))]) [0, 1, 2, 3, 4] rfl ?_
              refine g_goto (tgt := 90) dX1_grind_109 (by decide) ?_
              refine g_pick (lv' := [(0, .ref (uk_ad G 41)), (1, .ref (uk_ad G 13)), (2, .int m), (3, .int n), (4, .int (i41 - 1))]) [0, 1, 2, 3, 4] rfl ?_
              exact ihi41 (by first | lia | grind)  u47 hu47 fu47 (by first | trivial | lia | grind)
          refine g_pick (lv' := [(0, .ref (uk_ad G 41)), (1, .ref (uk_ad G 13)), (2, .int m), (3, .int n), (4, .int x39)]) [0, 1, 2, 3, 4] rfl ?_
          exact L90_39 x39 (by first | decide | lia | grind)  u6 hu6 fu6 (by first | trivial | lia | grind)
        · refine g_aload_n dX1_grind_31 rfl ?_
          refine cl_X1_38 (c := 41) (As := []) rfl (c_X1_takeWaiting (G := G) hs hu6   (by first | trivial | decide | lia | grind) (d + 1)) rfl (by omega) rfl rfl (Nat.le_of_ble_eq_true rfl) dX1_grind_32 (fun r49 u50 q51 => ?_)
          obtain ⟨⟨x52, rfl, tx52⟩, mq51⟩ := q51
          obtain ⟨hu50, gu50⟩ := mq51
          have fu50 : fr 41 46 u u50 := fr_tr fu6 gu50 (by omega) (by omega)
          refine g_istore dX1_grind_35 (by decide) ?_
          refine g_pick (lv' := [(0, .ref (uk_ad G 41)), (1, .ref (uk_ad G 13)), (2, .int m), (3, .int n), (4, .int i5), (5, .int x52)]) [0, 1, 2, 3, 4, 5] rfl ?_
          refine g_aload_n dX1_grind_37 rfl ?_
          refine f_X1_42 rfl rfl dX1_grind_38 ?_
          refine g_iload dX1_grind_41 rfl ?_
          have v53 : vp_in x52 8 := uk_vin 8 rfl (by first | decide | lia | grind) (by first | decide | lia | grind)
          refine g_iald rfl rfl v53 dX1_grind_43 ?_
          refine g_topi (fun x54 ex54 => ?_)
          refine g_istore dX1_grind_44 (by decide) ?_
          refine g_pick (lv' := [(0, .ref (uk_ad G 41)), (1, .ref (uk_ad G 13)), (2, .int m), (3, .int n), (4, .int i5), (5, .int x52), (6, .int x54)]) [0, 1, 2, 3, 4, 5, 6] rfl ?_
          refine g_iload dX1_grind_46 rfl ?_
          refine g_iconst (v := 4) dX1_grind_48 (by decide) ?_
          refine g_icmp_eq (tgt := 58) dX1_grind_49 (by decide) (fun c55 => ?_) (fun c55 => ?_)
          · refine g_aload_n dX1_grind_58 rfl ?_
            refine g_iload dX1_grind_59 rfl ?_
            refine cl_X1_47 (c := 41) (As := [.int x52]) rfl (c_X1_lieDown (G := G) hs hu50  x52 (by first | trivial | decide | lia | grind) (by first | trivial | decide | lia | grind) (d + 1)) rfl (by omega) rfl rfl (Nat.le_of_ble_eq_true rfl) dX1_grind_61 (fun r56 u57 q58 => ?_)
            obtain ⟨rfl, mq58⟩ := q58
            obtain ⟨hu57, gu57⟩ := mq58
            have fu57 : fr 41 46 u u57 := fr_tr fu50 gu57 (by omega) (by omega)
            refine g_goto (tgt := 76) dX1_grind_64 (by decide) ?_
            refine g_iinc (v := i5 + 1) dX1_grind_76 rfl rfl (by decide) ?_
            refine g_pick (lv' := [(0, .ref (uk_ad G 41)), (1, .ref (uk_ad G 13)), (2, .int m), (3, .int n), (4, .int (i5 + 1)), (5, .int x52), (6, .int x54)]) [0, 1, 2, 3, 4, 5, 6] rfl ?_
            refine g_goto (tgt := 8) dX1_grind_79 (by decide) ?_
            refine g_pick (lv' := [(0, .ref (uk_ad G 41)), (1, .ref (uk_ad G 13)), (2, .int m), (3, .int n), (4, .int (i5 + 1))]) [0, 1, 2, 3, 4] rfl ?_
            exact ihi5 (by first | lia | grind)  u57 hu57 fu57 
          · refine g_iload dX1_grind_52 rfl ?_
            refine g_iconst (v := 2) dX1_grind_54 (by decide) ?_
            refine g_icmp_ne (tgt := 67) dX1_grind_55 (by decide) (fun c59 => ?_) (fun c59 => ?_)
            · refine g_aload_n dX1_grind_67 rfl ?_
              refine g_aload_n dX1_grind_68 rfl ?_
              refine g_iload dX1_grind_69 rfl ?_
              refine g_iload dX1_grind_71 rfl ?_
              refine cl_X1_50 (c := 41) (As := [.ref (uk_ad G 13), .int x52, .int x54]) rfl (c_X1_part (G := G) hs hu50  x52 x54 (by first | trivial | decide | lia | grind) (by first | trivial | decide | lia | grind) (d)) rfl (by omega) rfl rfl (Nat.le_of_ble_eq_true rfl) dX1_grind_73 (fun r60 u61 q62 => ?_)
              obtain ⟨rfl, mq62⟩ := q62
              obtain ⟨hu61, gu61⟩ := mq62
              have fu61 : fr 41 46 u u61 := fr_tr fu50 gu61 (by omega) (by omega)
              refine g_iinc (v := i5 + 1) dX1_grind_76 rfl rfl (by decide) ?_
              refine g_pick (lv' := [(0, .ref (uk_ad G 41)), (1, .ref (uk_ad G 13)), (2, .int m), (3, .int n), (4, .int (i5 + 1)), (5, .int x52), (6, .int x54)]) [0, 1, 2, 3, 4, 5, 6] rfl ?_
              refine g_goto (tgt := 8) dX1_grind_79 (by decide) ?_
              refine g_pick (lv' := [(0, .ref (uk_ad G 41)), (1, .ref (uk_ad G 13)), (2, .int m), (3, .int n), (4, .int (i5 + 1))]) [0, 1, 2, 3, 4] rfl ?_
              exact ihi5 (by first | lia | grind)  u61 hu61 fu61 
            · refine g_aload_n dX1_grind_58 rfl ?_
              refine g_iload dX1_grind_59 rfl ?_
              refine cl_X1_47 (c := 41) (As := [.int x52]) rfl (c_X1_lieDown (G := G) hs hu50  x52 (by first | trivial | decide | lia | grind) (by first | trivial | decide | lia | grind) (d + 1)) rfl (by omega) rfl rfl (Nat.le_of_ble_eq_true rfl) dX1_grind_61 (fun r63 u64 q65 => ?_)
              obtain ⟨rfl, mq65⟩ := q65
              obtain ⟨hu64, gu64⟩ := mq65
              have fu64 : fr 41 46 u u64 := fr_tr fu50 gu64 (by omega) (by omega)
              refine g_goto (tgt := 76) dX1_grind_64 (by decide) ?_
              refine g_iinc (v := i5 + 1) dX1_grind_76 rfl rfl (by decide) ?_
              refine g_pick (lv' := [(0, .ref (uk_ad G 41)), (1, .ref (uk_ad G 13)), (2, .int m), (3, .int n), (4, .int (i5 + 1)), (5, .int x52), (6, .int x54)]) [0, 1, 2, 3, 4, 5, 6] rfl ?_
              refine g_goto (tgt := 8) dX1_grind_79 (by decide) ?_
              refine g_pick (lv' := [(0, .ref (uk_ad G 41)), (1, .ref (uk_ad G 13)), (2, .int m), (3, .int n), (4, .int (i5 + 1))]) [0, 1, 2, 3, 4] rfl ?_
              exact ihi5 (by first | lia | grind)  u64 hu64 fu64 
  refine g_pick (lv' := [(0, .ref (uk_ad G 41)), (1, .ref (uk_ad G 13)), (2, .int m), (3, .int n), (4, .int 0)]) [0, 1, 2, 3, 4] rfl ?_
  exact L8_3 0 (by first | decide | lia | grind) (by first | decide | lia | grind)  u2 hu2 fu2 
abbrev q_X1_howManyOf (u : uk_Mem) (b : Int32) (r : Option Value) (u' : uk_Mem) : Prop := (∃ x : Int32, r = some (.int x) ∧ True) ∧ (u' = u)
set_option maxHeartbeats 4000000 in
set_option maxRecDepth 20000 in
theorem c_X1_howManyOf {G : uk_D} (hs : uk_Sep G) {u : uk_Mem} (hu : iv u) (b : Int32) (d : Nat) : uk_Meth G d mX1_howManyOf [.ref (uk_ad G 41), .int b] u (q_X1_howManyOf u b) := by
  refine uk_Meth.of hs (by decide) (Nat.le_of_ble_eq_true rfl) (fun X => ?_)
  refine g_iconst (v := 0) dX1_howManyOf_0 (by decide) ?_
  refine g_istore_n dX1_howManyOf_1 (by decide) ?_
  refine g_pick (lv' := [(0, .ref (uk_ad G 41)), (1, .int b), (2, .int 0)]) [0, 1, 2] rfl ?_
  refine g_iconst (v := 0) dX1_howManyOf_2 (by decide) ?_
  refine g_istore_n dX1_howManyOf_3 (by decide) ?_
  refine g_pick (lv' := [(0, .ref (uk_ad G 41)), (1, .int b), (2, .int 0), (3, .int 0)]) [0, 1, 2, 3] rfl ?_
  have L4_0 : ∀ i3 : Int32, 0 ≤ i3 → i3 ≤ 128 → ∀ (w2 : Int32), uk_G G X mX1_howManyOf d (q_X1_howManyOf u b) 4 [(0, .ref (uk_ad G 41)), (1, .int b), (2, .int w2), (3, .int i3)] [] u := by
    refine uk_upl 128 ?_
    intro i3 ai3 bi3 ihi3 w2
    refine g_iload_n dX1_howManyOf_4 rfl ?_
    refine g_aload_n dX1_howManyOf_5 rfl ?_
    refine f_X1_15 rfl rfl dX1_howManyOf_6 ?_
    refine g_topi (fun x4 ex4 => ?_)
    have rx4 : 0 ≤ x4 ∧ x4 ≤ 128 := by rw [ex4]; exact iv_at hu _ _ rfl
    have s5 : u.1 41 1 = x4 := ex4.symm
    refine g_icmp_ge (tgt := 36) dX1_howManyOf_9 (by decide) (fun c6 => ?_) (fun c6 => ?_)
    · refine g_iload_n dX1_howManyOf_36 rfl ?_
      exact g_iret (ty := .int) dX1_howManyOf_37 rfl rfl ⟨⟨_, rfl, by first | trivial | lia | grind⟩, rfl⟩
    · refine g_iload_n dX1_howManyOf_12 rfl ?_
      refine g_aload_n dX1_howManyOf_13 rfl ?_
      refine f_X1_9 rfl rfl dX1_howManyOf_14 ?_
      refine g_iload_n dX1_howManyOf_17 rfl ?_
      have v7 : vp_in i3 128 := uk_vin 128 rfl (by first | decide | lia | grind) (by first | decide | lia | grind)
      refine g_iald rfl rfl v7 dX1_howManyOf_18 ?_
      refine g_topi (fun x8 ex8 => ?_)
      have bx8 := uk_cl v7
      have rx8 : 0 ≤ x8 ∧ x8 ≤ 7 := by rw [ex8]; exact iv_at hu _ _ (uk_pick1 _ (by omega))
      refine g_iload_n dX1_howManyOf_19 rfl ?_
      refine g_icmp_ne (tgt := 27) dX1_howManyOf_20 (by decide) (fun c9 => ?_) (fun c9 => ?_)
      · refine g_iconst (v := 0) dX1_howManyOf_27 (by decide) ?_
        refine g_iadd dX1_howManyOf_28 ?_
        refine g_topi (fun x10 ex10 => ?_)
        refine g_istore_n dX1_howManyOf_29 (by decide) ?_
        refine g_pick (lv' := [(0, .ref (uk_ad G 41)), (1, .int b), (2, .int x10), (3, .int i3)]) [0, 1, 2, 3] rfl ?_
        refine g_iinc (v := i3 + 1) dX1_howManyOf_30 rfl rfl (by decide) ?_
        refine g_pick (lv' := [(0, .ref (uk_ad G 41)), (1, .int b), (2, .int x10), (3, .int (i3 + 1))]) [0, 1, 2, 3] rfl ?_
        refine g_goto (tgt := 4) dX1_howManyOf_33 (by decide) ?_
        refine g_pick (lv' := [(0, .ref (uk_ad G 41)), (1, .int b), (2, .int x10), (3, .int (i3 + 1))]) [0, 1, 2, 3] rfl ?_
        exact ihi3 (by first | lia | grind) x10 
      · refine g_iconst (v := 1) dX1_howManyOf_23 (by decide) ?_
        refine g_goto (tgt := 28) dX1_howManyOf_24 (by decide) ?_
        refine g_iadd dX1_howManyOf_28 ?_
        refine g_topi (fun x11 ex11 => ?_)
        refine g_istore_n dX1_howManyOf_29 (by decide) ?_
        refine g_pick (lv' := [(0, .ref (uk_ad G 41)), (1, .int b), (2, .int x11), (3, .int i3)]) [0, 1, 2, 3] rfl ?_
        refine g_iinc (v := i3 + 1) dX1_howManyOf_30 rfl rfl (by decide) ?_
        refine g_pick (lv' := [(0, .ref (uk_ad G 41)), (1, .int b), (2, .int x11), (3, .int (i3 + 1))]) [0, 1, 2, 3] rfl ?_
        refine g_goto (tgt := 4) dX1_howManyOf_33 (by decide) ?_
        refine g_pick (lv' := [(0, .ref (uk_ad G 41)), (1, .int b), (2, .int x11), (3, .int (i3 + 1))]) [0, 1, 2, 3] rfl ?_
        exact ihi3 (by first | lia | grind) x11 
  refine g_pick (lv' := [(0, .ref (uk_ad G 41)), (1, .int b), (2, .int 0), (3, .int 0)]) [0, 1, 2, 3] rfl ?_
  exact L4_0 0 (by first | decide | lia | grind) (by first | decide | lia | grind) 0 
abbrev q_X1_beginsWith (u : uk_Mem) (n : Int32) (r : Option Value) (u' : uk_Mem) : Prop := (∃ x : Int32, r = some (.int x) ∧ (x = 0 ∨ x = 1) ∧ (¬ x = 0 → True) ∧ (x = 0 → True)) ∧ (u' = u)
set_option maxHeartbeats 4000000 in
set_option maxRecDepth 20000 in
theorem c_X1_beginsWith {G : uk_D} (hs : uk_Sep G) {u : uk_Mem} (hu : iv u) (n : Int32) (p0 : 0 ≤ n) (p1 : n ≤ 8) (d : Nat) : uk_Meth G d mX1_beginsWith [.ref (uk_ad G 41), .ref (uk_ad G 21), .int n] u (q_X1_beginsWith u n) := by
  refine uk_Meth.of hs (by decide) (Nat.le_of_ble_eq_true rfl) (fun X => ?_)
  refine g_iload_n dX1_beginsWith_0 rfl ?_
  refine g_aload_n dX1_beginsWith_1 rfl ?_
  refine f_X1_15 rfl rfl dX1_beginsWith_2 ?_
  refine g_topi (fun x1 ex1 => ?_)
  have rx1 : 0 ≤ x1 ∧ x1 ≤ 128 := by rw [ex1]; exact iv_at hu _ _ rfl
  have s2 : u.1 41 1 = x1 := ex1.symm
  refine g_icmp_le (tgt := 10) dX1_beginsWith_5 (by decide) (fun c3 => ?_) (fun c3 => ?_)
  · refine g_iconst (v := 0) dX1_beginsWith_10 (by decide) ?_
    refine g_istore_n dX1_beginsWith_11 (by decide) ?_
    refine g_pick (lv' := [(0, .ref (uk_ad G 41)), (1, .ref (uk_ad G 21)), (2, .int n), (3, .int 0)]) [0, 1, 2, 3] rfl ?_
    have L12_3 : ∀ i5 : Int32, 0 ≤ i5 → i5 ≤ 8 → uk_G G X mX1_beginsWith d (q_X1_beginsWith u n) 12 [(0, .ref (uk_ad G 41)), (1, .ref (uk_ad G 21)), (2, .int n), (3, .int i5)] [] u := by
      refine uk_upl 8 ?_
      intro i5 ai5 bi5 ihi5 
      refine g_iload_n dX1_beginsWith_12 rfl ?_
      refine g_iload_n dX1_beginsWith_13 rfl ?_
      refine g_icmp_ge (tgt := 37) dX1_beginsWith_14 (by decide) (fun c6 => ?_) (fun c6 => ?_)
      · refine g_iconst (v := 1) dX1_beginsWith_37 (by decide) ?_
        exact g_iret (ty := .boolean) dX1_beginsWith_38 rfl rfl ⟨⟨1, rfl, Or.inr rfl, fun _ => by first | trivial | lia | grind, fun q => absurd q (by decide)⟩, rfl⟩
      · refine g_aload_n dX1_beginsWith_17 rfl ?_
        refine f_X1_9 rfl rfl dX1_beginsWith_18 ?_
        refine g_iload_n dX1_beginsWith_21 rfl ?_
        have v7 : vp_in i5 128 := uk_vin 128 rfl (by first | decide | lia | grind) (by first | decide | lia | grind)
        refine g_iald rfl rfl v7 dX1_beginsWith_22 ?_
        refine g_topi (fun x8 ex8 => ?_)
        have bx8 := uk_cl v7
        have rx8 : 0 ≤ x8 ∧ x8 ≤ 7 := by rw [ex8]; exact iv_at hu _ _ (uk_pick1 _ (by omega))
        refine g_aload_n dX1_beginsWith_23 rfl ?_
        refine g_iload_n dX1_beginsWith_24 rfl ?_
        have v9 : vp_in i5 8 := uk_vin 8 rfl (by first | decide | lia | grind) (by first | decide | lia | grind)
        refine g_iald rfl rfl v9 dX1_beginsWith_25 ?_
        refine g_topi (fun x10 ex10 => ?_)
        have bx10 := uk_cl v9
        have rx10 : 0 ≤ x10 ∧ x10 ≤ 7 := by rw [ex10]; exact iv_at hu _ _ (uk_pick1 _ (by omega))
        refine g_icmp_eq (tgt := 31) dX1_beginsWith_26 (by decide) (fun c11 => ?_) (fun c11 => ?_)
        · refine g_iinc (v := i5 + 1) dX1_beginsWith_31 rfl rfl (by decide) ?_
          refine g_pick (lv' := [(0, .ref (uk_ad G 41)), (1, .ref (uk_ad G 21)), (2, .int n), (3, .int (i5 + 1))]) [0, 1, 2, 3] rfl ?_
          refine g_goto (tgt := 12) dX1_beginsWith_34 (by decide) ?_
          refine g_pick (lv' := [(0, .ref (uk_ad G 41)), (1, .ref (uk_ad G 21)), (2, .int n), (3, .int (i5 + 1))]) [0, 1, 2, 3] rfl ?_
          exact ihi5 (by first | lia | grind)  
        · refine g_iconst (v := 0) dX1_beginsWith_29 (by decide) ?_
          exact g_iret (ty := .boolean) dX1_beginsWith_30 rfl rfl ⟨⟨0, rfl, Or.inl rfl, fun q => absurd rfl q, fun _ => by first | trivial | lia | grind⟩, rfl⟩
    refine g_pick (lv' := [(0, .ref (uk_ad G 41)), (1, .ref (uk_ad G 21)), (2, .int n), (3, .int 0)]) [0, 1, 2, 3] rfl ?_
    exact L12_3 0 (by first | decide | lia | grind) (by first | decide | lia | grind)  
  · refine g_iconst (v := 0) dX1_beginsWith_8 (by decide) ?_
    exact g_iret (ty := .boolean) dX1_beginsWith_9 rfl rfl ⟨⟨0, rfl, Or.inl rfl, fun q => absurd rfl q, fun _ => by first | trivial | lia | grind⟩, rfl⟩
abbrev q_X1_takeFrom (u : uk_Mem)  (r : Option Value) (u' : uk_Mem) : Prop := (r = none) ∧ (iv u' ∧ fr 58 59 u u')
abbrev q_X3_isNothing (u : uk_Mem) (k : Int32) (r : Option Value) (u' : uk_Mem) : Prop := (∃ x : Int32, r = some (.int x) ∧ (x = 0 ∨ x = 1) ∧ (¬ x = 0 → True) ∧ (x = 0 → True)) ∧ (u' = u)
abbrev q_X3_faultAt (u : uk_Mem) (k : Int32) (i : Int32) (r : Option Value) (u' : uk_Mem) : Prop := (∃ x : Int32, r = some (.int x) ∧ (x = 0 → 0 ≤ i ∧ i < 40)) ∧ (u' = u)
abbrev q_X3_faultAs (u : uk_Mem) (k : Int32) (l : Int32) (i : Int32) (r : Option Value) (u' : uk_Mem) : Prop := (∃ x : Int32, r = some (.int x) ∧ (x = 0 → 0 ≤ i ∧ i < 40)) ∧ (u' = u)
abbrev q_X3_renew (u : uk_Mem) (k : Int32) (l : Int32) (n : Int32) (r : Option Value) (u' : uk_Mem) : Prop := (r = none) ∧ (iv u' ∧ fr 49 57 u u')
abbrev q_X3_put (u : uk_Mem) (k : Int32) (i : Int32) (v : Int32) (r : Option Value) (u' : uk_Mem) : Prop := (r = none) ∧ (iv u' ∧ fr 49 57 u u')