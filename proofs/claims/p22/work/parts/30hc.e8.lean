def e_X1_putWaiting (u : uk_Mem) (t : Int32) : uk_Mem := let x1 : Int32 := u.1 41 6; if (9 : Int32) ≤ x1 then (let x5 : Int32 := u.1 43 t.toNatClampNeg; if x5 = (-4 : Int32) then (let x7 : Int32 := u.1 41 2; let u11 : uk_Mem := uk_up u 43 t.toNatClampNeg x7; u11) else (u)) else (let x12 : Int32 := u.1 41 6; let u15 : uk_Mem := uk_up u 45 x12.toNatClampNeg t; let x16 : Int32 := u15.1 41 6; let x17 : Int32 := x16 + (1 : Int32); let u18 : uk_Mem := uk_up u15 41 6 x17; let x21 : Int32 := u18.1 43 t.toNatClampNeg; if x21 = (-4 : Int32) then (let x23 : Int32 := u18.1 41 2; let u27 : uk_Mem := uk_up u18 43 t.toNatClampNeg x23; u27) else (u18))
abbrev qe_X1_putWaiting (u : uk_Mem) (t : Int32) (r : Option Value) (u' : uk_Mem) : Prop := (q_X1_putWaiting u t r u') ∧ (u' = e_X1_putWaiting u t)
set_option maxHeartbeats 4000000 in
set_option maxRecDepth 20000 in
theorem x_X1_putWaiting {G : uk_D} (hs : uk_Sep G) {u : uk_Mem} (hu : iv u) (t : Int32) (p0 : 0 ≤ t) (p1 : t ≤ 7) (d : Nat) : uk_Meth G d mX1_putWaiting [.ref (uk_ad G 41), .int t] u (qe_X1_putWaiting u t) := by
  refine uk_Meth.of hs (by decide) (Nat.le_of_ble_eq_true rfl) (fun X => ?_)
  have f0 : fr 41 46 u u := fr_rf
  refine g_aload_n dX1_putWaiting_0 rfl ?_
  refine f_X1_31 rfl rfl dX1_putWaiting_1 ?_
  refine g_topi (fun x1 ex1 => ?_)
  have rx1 : 0 ≤ x1 ∧ x1 ≤ 9 := by rw [ex1]; exact iv_at hu _ _ rfl
  have s2 : u.1 41 6 = x1 := ex1.symm
  refine g_aload_n dX1_putWaiting_4 rfl ?_
  refine f_X1_28 rfl rfl dX1_putWaiting_5 ?_
  refine g_alen8 (v := 9) rfl rfl rfl dX1_putWaiting_8 ?_
  refine g_icmp_ge (tgt := 32) dX1_putWaiting_9 (by decide) (fun c3 => ?_) (fun c3 => ?_)
  · refine g_aload_n dX1_putWaiting_32 rfl ?_
    refine f_X1_22 rfl rfl dX1_putWaiting_33 ?_
    refine g_iload_n dX1_putWaiting_36 rfl ?_
    have v4 : vp_in t 8 := uk_vin 8 rfl (by first | decide | lia | grind) (by first | decide | lia | grind)
    refine g_iald rfl rfl v4 dX1_putWaiting_37 ?_
    refine g_topi (fun x5 ex5 => ?_)
    refine g_bipush (v := (-4)) dX1_putWaiting_38 (by decide) ?_
    refine g_icmp_ne (tgt := 53) dX1_putWaiting_40 (by decide) (fun c6 => ?_) (fun c6 => ?_)
    · exact g_vret dX1_putWaiting_53 rfl ⟨⟨rfl, hu, f0⟩, (by subst ex5; subst ex1; exact (if_pos c3).trans ((if_neg c6).trans (rfl)) : e_X1_putWaiting u t = u).symm⟩
    · refine g_aload_n dX1_putWaiting_43 rfl ?_
      refine f_X1_22 rfl rfl dX1_putWaiting_44 ?_
      refine g_iload_n dX1_putWaiting_47 rfl ?_
      refine g_aload_n dX1_putWaiting_48 rfl ?_
      refine f_X1_19 rfl rfl dX1_putWaiting_49 ?_
      refine g_topi (fun x7 ex7 => ?_)
      have s8 : u.1 41 2 = x7 := ex7.symm
      have v9 : vp_in t 8 := uk_vin 8 rfl (by first | decide | lia | grind) (by first | decide | lia | grind)
      have b10 := uk_cl v9
      refine g_iast rfl rfl v9 dX1_putWaiting_52 ?_
      refine g_mem (fun u11 eu11 => ?_)
      have hu11 : iv u11 := by rw [eu11]; exact iv_upF hu (uk_pick1 _ (by omega))
      have fu11 : fr 41 46 u u11 := by rw [eu11]; exact fr_up f0 (by omega) (by omega)
      exact g_vret dX1_putWaiting_53 rfl ⟨⟨rfl, hu11, fu11⟩, (by subst eu11; subst ex7; subst ex5; subst ex1; exact (if_pos c3).trans ((if_pos c6).trans (rfl)) : e_X1_putWaiting u t = u11).symm⟩
  · refine g_aload_n dX1_putWaiting_12 rfl ?_
    refine f_X1_28 rfl rfl dX1_putWaiting_13 ?_
    refine g_aload_n dX1_putWaiting_16 rfl ?_
    refine f_X1_31 rfl rfl dX1_putWaiting_17 ?_
    refine g_topi (fun x12 ex12 => ?_)
    have rx12 : 0 ≤ x12 ∧ x12 ≤ 9 := by rw [ex12]; exact iv_at hu _ _ rfl
    have qx12 : x12 = x1 := by rw [ex12]; exact s2
    refine g_iload_n dX1_putWaiting_20 rfl ?_
    have v13 : vp_in x12 9 := uk_vin 9 rfl (by first | decide | lia | grind) (by first | decide | lia | grind)
    have b14 := uk_cl v13
    refine g_iast rfl rfl v13 dX1_putWaiting_21 ?_
    refine g_mem (fun u15 eu15 => ?_)
    have hu15 : iv u15 := by rw [eu15]; exact iv_up hu (uk_pick1 _ (by omega)) (by first | lia | grind) (by first | lia | grind)
    have fu15 : fr 41 46 u u15 := by rw [eu15]; exact fr_up f0 (by omega) (by omega)
    refine g_aload_n dX1_putWaiting_22 rfl ?_
    refine g_dup dX1_putWaiting_23 rfl ?_
    refine f_X1_31 rfl rfl dX1_putWaiting_24 ?_
    refine g_topi (fun x16 ex16 => ?_)
    have rx16 : 0 ≤ x16 ∧ x16 ≤ 9 := by rw [ex16]; exact iv_at hu15 _ _ rfl
    have qx16 : x16 = x1 := by rw [ex16]; simp [eu15, uk_up_at, s2]
    refine g_iconst (v := 1) dX1_putWaiting_27 (by decide) ?_
    refine g_iadd dX1_putWaiting_28 ?_
    refine g_topi (fun x17 ex17 => ?_)
    refine p_X1_31 rfl rfl dX1_putWaiting_29 ?_
    refine g_mem (fun u18 eu18 => ?_)
    have hu18 : iv u18 := by rw [eu18]; exact iv_up hu15 rfl (by first | lia | grind) (by first | lia | grind)
    have fu18 : fr 41 46 u u18 := by rw [eu18]; exact fr_up fu15 (by omega) (by omega)
    have s19 : u18.1 41 6 = x17 := by rw [eu18, uk_up_at]; exact if_pos ⟨rfl, rfl⟩
    refine g_aload_n dX1_putWaiting_32 rfl ?_
    refine f_X1_22 rfl rfl dX1_putWaiting_33 ?_
    refine g_iload_n dX1_putWaiting_36 rfl ?_
    have v20 : vp_in t 8 := uk_vin 8 rfl (by first | decide | lia | grind) (by first | decide | lia | grind)
    refine g_iald rfl rfl v20 dX1_putWaiting_37 ?_
    refine g_topi (fun x21 ex21 => ?_)
    refine g_bipush (v := (-4)) dX1_putWaiting_38 (by decide) ?_
    refine g_icmp_ne (tgt := 53) dX1_putWaiting_40 (by decide) (fun c22 => ?_) (fun c22 => ?_)
    · exact g_vret dX1_putWaiting_53 rfl ⟨⟨rfl, hu18, fu18⟩, (by subst ex21; subst eu18; subst ex17; subst ex16; subst eu15; subst ex12; subst ex1; exact (if_neg c3).trans ((if_neg c22).trans (rfl)) : e_X1_putWaiting u t = u18).symm⟩
    · refine g_aload_n dX1_putWaiting_43 rfl ?_
      refine f_X1_22 rfl rfl dX1_putWaiting_44 ?_
      refine g_iload_n dX1_putWaiting_47 rfl ?_
      refine g_aload_n dX1_putWaiting_48 rfl ?_
      refine f_X1_19 rfl rfl dX1_putWaiting_49 ?_
      refine g_topi (fun x23 ex23 => ?_)
      have s24 : u18.1 41 2 = x23 := ex23.symm
      have v25 : vp_in t 8 := uk_vin 8 rfl (by first | decide | lia | grind) (by first | decide | lia | grind)
      have b26 := uk_cl v25
      refine g_iast rfl rfl v25 dX1_putWaiting_52 ?_
      refine g_mem (fun u27 eu27 => ?_)
      have hu27 : iv u27 := by rw [eu27]; exact iv_upF hu18 (uk_pick1 _ (by omega))
      have fu27 : fr 41 46 u u27 := by rw [eu27]; exact fr_up fu18 (by omega) (by omega)
      exact g_vret dX1_putWaiting_53 rfl ⟨⟨rfl, hu27, fu27⟩, (by subst eu27; subst ex23; subst ex21; subst eu18; subst ex17; subst ex16; subst eu15; subst ex12; subst ex1; exact (if_neg c3).trans ((if_pos c22).trans (rfl)) : e_X1_putWaiting u t = u27).symm⟩
def l_X1_start_17 (m : Int32) : Nat → Int32 → uk_Mem → uk_Mem
  | 0, _, u9 => u9
  | K9 + 1, i8, u9 => if (8 : Int32) ≤ i8 then (let u12 : uk_Mem := e_X1_putWaiting u9 m; u12) else (let u16 : uk_Mem := uk_up u9 43 i8.toNatClampNeg (-4 : Int32); let u19 : uk_Mem := uk_up u16 44 i8.toNatClampNeg (0 : Int32); l_X1_start_17 m K9 (i8 + 1) u19)
def e_X1_start (u : uk_Mem) (m : Int32) : uk_Mem := let u1 : uk_Mem := uk_up u 41 1 (0 : Int32); let u3 : uk_Mem := uk_up u1 41 2 (0 : Int32); let u5 : uk_Mem := uk_up u3 41 6 (0 : Int32); l_X1_start_17 m ee_K (0 : Int32) u5
abbrev qe_X1_start (u : uk_Mem) (m : Int32) (r : Option Value) (u' : uk_Mem) : Prop := (q_X1_start u m r u') ∧ (u' = e_X1_start u m)
set_option maxHeartbeats 4000000 in
set_option maxRecDepth 20000 in
theorem x_X1_start {G : uk_D} (hs : uk_Sep G) {u : uk_Mem} (hu : iv u) (m : Int32) (p0 : 0 ≤ m) (p1 : m ≤ 7) (d : Nat) : uk_Meth G (d + 1) mX1_start [.ref (uk_ad G 41), .int m] u (qe_X1_start u m) := by
  refine uk_Meth.of hs (by decide) (Nat.le_of_ble_eq_true rfl) (fun X => ?_)
  have f0 : fr 41 46 u u := fr_rf
  refine g_aload_n dX1_start_0 rfl ?_
  refine g_iconst (v := 0) dX1_start_1 (by decide) ?_
  refine p_X1_15 rfl rfl dX1_start_2 ?_
  refine g_mem (fun u1 eu1 => ?_)
  have hu1 : iv u1 := by rw [eu1]; exact iv_up hu rfl (by first | lia | grind) (by first | lia | grind)
  have fu1 : fr 41 46 u u1 := by rw [eu1]; exact fr_up f0 (by omega) (by omega)
  have s2 : u1.1 41 1 = 0 := by rw [eu1, uk_up_at]; exact if_pos ⟨rfl, rfl⟩
  refine g_aload_n dX1_start_5 rfl ?_
  refine g_iconst (v := 0) dX1_start_6 (by decide) ?_
  refine p_X1_19 rfl rfl dX1_start_7 ?_
  refine g_mem (fun u3 eu3 => ?_)
  have hu3 : iv u3 := by rw [eu3]; exact iv_upF hu1 rfl
  have fu3 : fr 41 46 u u3 := by rw [eu3]; exact fr_up fu1 (by omega) (by omega)
  have s4 : u3.1 41 2 = 0 := by rw [eu3, uk_up_at]; exact if_pos ⟨rfl, rfl⟩
  refine g_aload_n dX1_start_10 rfl ?_
  refine g_iconst (v := 0) dX1_start_11 (by decide) ?_
  refine p_X1_31 rfl rfl dX1_start_12 ?_
  refine g_mem (fun u5 eu5 => ?_)
  have hu5 : iv u5 := by rw [eu5]; exact iv_up hu3 rfl (by first | lia | grind) (by first | lia | grind)
  have fu5 : fr 41 46 u u5 := by rw [eu5]; exact fr_up fu3 (by omega) (by omega)
  have s6 : u5.1 41 6 = 0 := by rw [eu5, uk_up_at]; exact if_pos ⟨rfl, rfl⟩
  refine g_iconst (v := 0) dX1_start_15 (by decide) ?_
  refine g_istore_n dX1_start_16 (by decide) ?_
  refine g_pick (lv' := [(0, .ref (uk_ad G 41)), (1, .int m), (2, .int 0)]) [0, 1, 2] rfl ?_
  have L17_6 : ∀ i8 : Int32, 0 ≤ i8 → i8 ≤ 8 → ∀ (u9 : uk_Mem), iv u9 → fr 41 46 u u9 → (∃ ki8 : Nat, ee_F 8 i8 ki8 ∧ e_X1_start u m = l_X1_start_17 m ki8 i8 u9) → uk_G G X mX1_start (d + 1) (qe_X1_start u m) 17 [(0, .ref (uk_ad G 41)), (1, .int m), (2, .int i8)] [] u9 := by
    refine uk_upl 8 ?_
    intro i8 ai8 bi8 ihi8  u9 hu9 fu9 jEi8
    obtain ⟨ki8, fki8, hki8⟩ := jEi8
    obtain ⟨ki8, rfl⟩ := ee_Fp (by first | assumption | lia | grind) fki8
    refine g_iload_n dX1_start_17 rfl ?_
    refine g_bipush (v := 8) dX1_start_18 (by decide) ?_
    refine g_icmp_ge (tgt := 44) dX1_start_20 (by decide) (fun c10 => ?_) (fun c10 => ?_)
    · refine g_aload_n dX1_start_44 rfl ?_
      refine g_iload_n dX1_start_45 rfl ?_
      refine cl_X1_54 (c := 41) (As := [.int m]) rfl (x_X1_putWaiting (G := G) hs hu9  m (by first | trivial | decide | lia | grind) (by first | trivial | decide | lia | grind) (d)) rfl (by omega) rfl rfl (Nat.le_of_ble_eq_true rfl) dX1_start_46 (fun r11 u12 q13 => ?_)
      obtain ⟨q13, Eq13⟩ := q13
      obtain ⟨rfl, mq13⟩ := q13
      obtain ⟨hu12, gu12⟩ := mq13
      have fu12 : fr 41 46 u u12 := fr_tr fu9 gu12 (by omega) (by omega)
      have eu12 : u12 = e_X1_putWaiting u9 m := Eq13
      exact g_vret dX1_start_49 rfl ⟨⟨rfl, hu12, fu12⟩, (by subst eu12; exact hki8.trans ((if_pos c10).trans (rfl)) : e_X1_start u m = u12).symm⟩
    · refine g_aload_n dX1_start_23 rfl ?_
      refine f_X1_22 rfl rfl dX1_start_24 ?_
      refine g_iload_n dX1_start_27 rfl ?_
      refine g_bipush (v := (-4)) dX1_start_28 (by decide) ?_
      have v14 : vp_in i8 8 := uk_vin 8 rfl (by first | decide | lia | grind) (by first | decide | lia | grind)
      have b15 := uk_cl v14
      refine g_iast rfl rfl v14 dX1_start_30 ?_
      refine g_mem (fun u16 eu16 => ?_)
      have hu16 : iv u16 := by rw [eu16]; exact iv_upF hu9 (uk_pick1 _ (by omega))
      have fu16 : fr 41 46 u u16 := by rw [eu16]; exact fr_up fu9 (by omega) (by omega)
      refine g_aload_n dX1_start_31 rfl ?_
      refine f_X1_25 rfl rfl dX1_start_32 ?_
      refine g_iload_n dX1_start_35 rfl ?_
      refine g_iconst (v := 0) dX1_start_36 (by decide) ?_
      have v17 : vp_in i8 8 := uk_vin 8 rfl (by first | decide | lia | grind) (by first | decide | lia | grind)
      have b18 := uk_cl v17
      refine g_iast rfl rfl v17 dX1_start_37 ?_
      refine g_mem (fun u19 eu19 => ?_)
      have hu19 : iv u19 := by rw [eu19]; exact iv_upF hu16 (uk_pick1 _ (by omega))
      have fu19 : fr 41 46 u u19 := by rw [eu19]; exact fr_up fu16 (by omega) (by omega)
      refine g_iinc (v := i8 + 1) dX1_start_38 rfl rfl (by decide) ?_
      refine g_pick (lv' := [(0, .ref (uk_ad G 41)), (1, .int m), (2, .int (i8 + 1))]) [0, 1, 2] rfl ?_
      refine g_goto (tgt := 17) dX1_start_41 (by decide) ?_
      refine g_pick (lv' := [(0, .ref (uk_ad G 41)), (1, .int m), (2, .int (i8 + 1))]) [0, 1, 2] rfl ?_
      exact ihi8 (by first | lia | grind)  u19 hu19 fu19  ⟨ki8, ee_Fs fki8 (by first | assumption | lia | grind), by subst eu19; subst eu16; exact hki8.trans ((if_neg c10).trans (rfl))⟩
  refine g_pick (lv' := [(0, .ref (uk_ad G 41)), (1, .int m), (2, .int 0)]) [0, 1, 2] rfl ?_
  exact L17_6 0 (by first | decide | lia | grind) (by first | decide | lia | grind)  u5 hu5 fu5  ⟨ee_K, ee_F0 _ _, by subst eu5; subst eu3; subst eu1; exact rfl⟩
def e_X1_takeWaiting (u : uk_Mem) : Int32 × uk_Mem := let x1 : Int32 := u.1 41 6; let x3 : Int32 := x1 - (1 : Int32); let u4 : uk_Mem := uk_up u 41 6 x3; let x6 : Int32 := u4.1 41 6; let x8 : Int32 := u4.1 45 x6.toNatClampNeg; (x8, u4)
abbrev qe_X1_takeWaiting (u : uk_Mem)  (r : Option Value) (u' : uk_Mem) : Prop := (q_X1_takeWaiting u r u') ∧ (r = some (.int (e_X1_takeWaiting u).1) ∧ u' = (e_X1_takeWaiting u).2)
set_option maxHeartbeats 4000000 in
set_option maxRecDepth 20000 in
theorem x_X1_takeWaiting {G : uk_D} (hs : uk_Sep G) {u : uk_Mem} (hu : iv u) (p0 : 1 ≤ u.1 41 6) (d : Nat) : uk_Meth G d mX1_takeWaiting [.ref (uk_ad G 41)] u (qe_X1_takeWaiting u) := by
  refine uk_Meth.of hs (by decide) (Nat.le_of_ble_eq_true rfl) (fun X => ?_)
  have f0 : fr 41 46 u u := fr_rf
  refine g_aload_n dX1_takeWaiting_0 rfl ?_
  refine g_dup dX1_takeWaiting_1 rfl ?_
  refine f_X1_31 rfl rfl dX1_takeWaiting_2 ?_
  refine g_topi (fun x1 ex1 => ?_)
  have rx1 : 0 ≤ x1 ∧ x1 ≤ 9 := by rw [ex1]; exact iv_at hu _ _ rfl
  have s2 : u.1 41 6 = x1 := ex1.symm
  refine g_iconst (v := 1) dX1_takeWaiting_5 (by decide) ?_
  refine g_isub dX1_takeWaiting_6 ?_
  refine g_topi (fun x3 ex3 => ?_)
  refine p_X1_31 rfl rfl dX1_takeWaiting_7 ?_
  refine g_mem (fun u4 eu4 => ?_)
  have hu4 : iv u4 := by rw [eu4]; exact iv_up hu rfl (by first | lia | grind) (by first | lia | grind)
  have fu4 : fr 41 46 u u4 := by rw [eu4]; exact fr_up f0 (by omega) (by omega)
  have s5 : u4.1 41 6 = x3 := by rw [eu4, uk_up_at]; exact if_pos ⟨rfl, rfl⟩
  refine g_aload_n dX1_takeWaiting_10 rfl ?_
  refine f_X1_28 rfl rfl dX1_takeWaiting_11 ?_
  refine g_aload_n dX1_takeWaiting_14 rfl ?_
  refine f_X1_31 rfl rfl dX1_takeWaiting_15 ?_
  refine g_topi (fun x6 ex6 => ?_)
  have rx6 : 0 ≤ x6 ∧ x6 ≤ 9 := by rw [ex6]; exact iv_at hu4 _ _ rfl
  have qx6 : x6 = x3 := by rw [ex6]; exact s5
  have v7 : vp_in x6 9 := uk_vin 9 rfl (by first | decide | lia | grind) (by first | decide | lia | grind)
  refine g_iald rfl rfl v7 dX1_takeWaiting_18 ?_
  refine g_topi (fun x8 ex8 => ?_)
  have bx8 := uk_cl v7
  have rx8 : 0 ≤ x8 ∧ x8 ≤ 7 := by rw [ex8]; exact iv_at hu4 _ _ (uk_pick1 _ (by omega))
  exact g_iret (ty := .int) dX1_takeWaiting_19 rfl rfl ⟨⟨⟨_, rfl, by first | trivial | lia | grind⟩, hu4, fu4⟩, ee_i (by subst ex8; subst ex6; subst eu4; subst ex3; subst ex1; exact rfl)⟩
def e_X1_lieDown (u : uk_Mem) (t : Int32) : uk_Mem := let x1 : Int32 := u.1 41 1; if (128 : Int32) ≤ x1 then (u) else (let x4 : Int32 := u.1 41 1; let u7 : uk_Mem := uk_up u 42 x4.toNatClampNeg t; let x8 : Int32 := u7.1 41 1; let x9 : Int32 := x8 + (1 : Int32); let u10 : uk_Mem := uk_up u7 41 1 x9; u10)
abbrev qe_X1_lieDown (u : uk_Mem) (t : Int32) (r : Option Value) (u' : uk_Mem) : Prop := (q_X1_lieDown u t r u') ∧ (u' = e_X1_lieDown u t)
set_option maxHeartbeats 4000000 in
set_option maxRecDepth 20000 in
theorem x_X1_lieDown {G : uk_D} (hs : uk_Sep G) {u : uk_Mem} (hu : iv u) (t : Int32) (p0 : 0 ≤ t) (p1 : t ≤ 7) (d : Nat) : uk_Meth G d mX1_lieDown [.ref (uk_ad G 41), .int t] u (qe_X1_lieDown u t) := by
  refine uk_Meth.of hs (by decide) (Nat.le_of_ble_eq_true rfl) (fun X => ?_)
  have f0 : fr 41 46 u u := fr_rf
  refine g_aload_n dX1_lieDown_0 rfl ?_
  refine f_X1_15 rfl rfl dX1_lieDown_1 ?_
  refine g_topi (fun x1 ex1 => ?_)
  have rx1 : 0 ≤ x1 ∧ x1 ≤ 128 := by rw [ex1]; exact iv_at hu _ _ rfl
  have s2 : u.1 41 1 = x1 := ex1.symm
  refine g_sipush (v := 128) dX1_lieDown_4 (by decide) ?_
  refine g_icmp_ge (tgt := 30) dX1_lieDown_7 (by decide) (fun c3 => ?_) (fun c3 => ?_)
  · exact g_vret dX1_lieDown_30 rfl ⟨⟨rfl, hu, f0⟩, (by subst ex1; exact (if_pos c3).trans (rfl) : e_X1_lieDown u t = u).symm⟩
  · refine g_aload_n dX1_lieDown_10 rfl ?_
    refine f_X1_9 rfl rfl dX1_lieDown_11 ?_
    refine g_aload_n dX1_lieDown_14 rfl ?_
    refine f_X1_15 rfl rfl dX1_lieDown_15 ?_
    refine g_topi (fun x4 ex4 => ?_)
    have rx4 : 0 ≤ x4 ∧ x4 ≤ 128 := by rw [ex4]; exact iv_at hu _ _ rfl
    have qx4 : x4 = x1 := by rw [ex4]; exact s2
    refine g_iload_n dX1_lieDown_18 rfl ?_
    have v5 : vp_in x4 128 := uk_vin 128 rfl (by first | decide | lia | grind) (by first | decide | lia | grind)
    have b6 := uk_cl v5
    refine g_iast rfl rfl v5 dX1_lieDown_19 ?_
    refine g_mem (fun u7 eu7 => ?_)
    have hu7 : iv u7 := by rw [eu7]; exact iv_up hu (uk_pick1 _ (by omega)) (by first | lia | grind) (by first | lia | grind)
    have fu7 : fr 41 46 u u7 := by rw [eu7]; exact fr_up f0 (by omega) (by omega)
    refine g_aload_n dX1_lieDown_20 rfl ?_
    refine g_dup dX1_lieDown_21 rfl ?_
    refine f_X1_15 rfl rfl dX1_lieDown_22 ?_
    refine g_topi (fun x8 ex8 => ?_)
    have rx8 : 0 ≤ x8 ∧ x8 ≤ 128 := by rw [ex8]; exact iv_at hu7 _ _ rfl
    have qx8 : x8 = x1 := by rw [ex8]; simp [eu7, uk_up_at, s2]
    refine g_iconst (v := 1) dX1_lieDown_25 (by decide) ?_
    refine g_iadd dX1_lieDown_26 ?_
    refine g_topi (fun x9 ex9 => ?_)
    refine p_X1_15 rfl rfl dX1_lieDown_27 ?_
    refine g_mem (fun u10 eu10 => ?_)
    have hu10 : iv u10 := by rw [eu10]; exact iv_up hu7 rfl (by first | lia | grind) (by first | lia | grind)
    have fu10 : fr 41 46 u u10 := by rw [eu10]; exact fr_up fu7 (by omega) (by omega)
    have s11 : u10.1 41 1 = x9 := by rw [eu10, uk_up_at]; exact if_pos ⟨rfl, rfl⟩
    exact g_vret dX1_lieDown_30 rfl ⟨⟨rfl, hu10, fu10⟩, (by subst eu10; subst ex9; subst ex8; subst eu7; subst ex4; subst ex1; exact (if_neg c3).trans (rfl) : e_X1_lieDown u t = u10).symm⟩
def e_X1_part (u : uk_Mem) (t : Int32) (k : Int32) : uk_Mem := let x1 : Int32 := u.1 41 2; let x3 : Int32 := x1 + (1 : Int32); let u4 : uk_Mem := uk_up u 41 2 x3; let x7 : Int32 := u4.1 44 t.toNatClampNeg; let x11 : Int32 := (e_X0_givesB u4 k x7); if x11 = 0 then (let x14 : Int32 := u4.1 15 t.toNatClampNeg; let u16 : uk_Mem := e_X1_putWaiting u4 x14; if k = (3 : Int32) then (let x20 : Int32 := u16.1 44 t.toNatClampNeg; let x21 : Int32 := (1 : Int32) - x20; let u24 : uk_Mem := uk_up u16 44 t.toNatClampNeg x21; u24) else (u16)) else (let x26 : Int32 := u4.1 16 t.toNatClampNeg; let u28 : uk_Mem := e_X1_putWaiting u4 x26; let x31 : Int32 := u28.1 15 t.toNatClampNeg; let u33 : uk_Mem := e_X1_putWaiting u28 x31; if k = (3 : Int32) then (let x37 : Int32 := u33.1 44 t.toNatClampNeg; let x38 : Int32 := (1 : Int32) - x37; let u41 : uk_Mem := uk_up u33 44 t.toNatClampNeg x38; u41) else (u33))
abbrev qe_X1_part (u : uk_Mem) (t : Int32) (k : Int32) (r : Option Value) (u' : uk_Mem) : Prop := (q_X1_part u t k r u') ∧ (u' = e_X1_part u t k)
set_option maxHeartbeats 4000000 in
set_option maxRecDepth 20000 in
theorem x_X1_part {G : uk_D} (hs : uk_Sep G) {u : uk_Mem} (hu : iv u) (t : Int32) (k : Int32) (p0 : 0 ≤ t) (p1 : t ≤ 7) (d : Nat) : uk_Meth G (d + 1) mX1_part [.ref (uk_ad G 41), .ref (uk_ad G 13), .int t, .int k] u (qe_X1_part u t k) := by
  refine uk_Meth.of hs (by decide) (Nat.le_of_ble_eq_true rfl) (fun X => ?_)
  have f0 : fr 41 46 u u := fr_rf
  refine g_aload_n dX1_part_0 rfl ?_
  refine g_dup dX1_part_1 rfl ?_
  refine f_X1_19 rfl rfl dX1_part_2 ?_
  refine g_topi (fun x1 ex1 => ?_)
  have s2 : u.1 41 2 = x1 := ex1.symm
  refine g_iconst (v := 1) dX1_part_5 (by decide) ?_
  refine g_iadd dX1_part_6 ?_
  refine g_topi (fun x3 ex3 => ?_)
  refine p_X1_19 rfl rfl dX1_part_7 ?_
  refine g_mem (fun u4 eu4 => ?_)
  have hu4 : iv u4 := by rw [eu4]; exact iv_upF hu rfl
  have fu4 : fr 41 46 u u4 := by rw [eu4]; exact fr_up f0 (by omega) (by omega)
  have s5 : u4.1 41 2 = x3 := by rw [eu4, uk_up_at]; exact if_pos ⟨rfl, rfl⟩
  refine g_iload_n dX1_part_10 rfl ?_
  refine g_aload_n dX1_part_11 rfl ?_
  refine f_X1_25 rfl rfl dX1_part_12 ?_
  refine g_iload_n dX1_part_15 rfl ?_
  have v6 : vp_in t 8 := uk_vin 8 rfl (by first | decide | lia | grind) (by first | decide | lia | grind)
  refine g_iald rfl rfl v6 dX1_part_16 ?_
  refine g_topi (fun x7 ex7 => ?_)
  refine cl_X1_57 (As := [.int k, .int x7]) rfl (x_X0_givesB (G := G) hs hu4  k x7  (d)) rfl (by omega) rfl (Nat.le_of_ble_eq_true rfl) dX1_part_17 (fun r8 u9 q10 => ?_)
  obtain ⟨q10, Eq10⟩ := q10
  obtain ⟨⟨x11, rfl, tx11, nx11, zx11⟩, mq10⟩ := q10
  rw [mq10]
  have ex11 : x11 = (e_X0_givesB u4 k x7) := ee_v Eq10
  refine g_if_eq (tgt := 33) dX1_part_20 (by decide) (fun c12 => ?_) (fun c12 => ?_)
  · have zc12 := zx11 c12
    refine g_aload_n dX1_part_33 rfl ?_
    refine g_aload_n dX1_part_34 rfl ?_
    refine f_X1_64 rfl rfl dX1_part_35 ?_
    refine g_iload_n dX1_part_38 rfl ?_
    have v13 : vp_in t 8 := uk_vin 8 rfl (by first | decide | lia | grind) (by first | decide | lia | grind)
    refine g_iald rfl rfl v13 dX1_part_39 ?_
    refine g_topi (fun x14 ex14 => ?_)
    have bx14 := uk_cl v13
    have rx14 : 0 ≤ x14 ∧ x14 ≤ 7 := by rw [ex14]; exact iv_at hu4 _ _ (uk_pick1 _ (by omega))
    refine cl_X1_54 (c := 41) (As := [.int x14]) rfl (x_X1_putWaiting (G := G) hs hu4  x14 (by first | trivial | decide | lia | grind) (by first | trivial | decide | lia | grind) (d)) rfl (by omega) rfl rfl (Nat.le_of_ble_eq_true rfl) dX1_part_40 (fun r15 u16 q17 => ?_)
    obtain ⟨q17, Eq17⟩ := q17
    obtain ⟨rfl, mq17⟩ := q17
    obtain ⟨hu16, gu16⟩ := mq17
    have fu16 : fr 41 46 u u16 := fr_tr fu4 gu16 (by omega) (by omega)
    have eu16 : u16 = e_X1_putWaiting u4 x14 := Eq17
    refine g_iload_n dX1_part_43 rfl ?_
    refine g_iconst (v := 3) dX1_part_44 (by decide) ?_
    refine g_icmp_ne (tgt := 62) dX1_part_45 (by decide) (fun c18 => ?_) (fun c18 => ?_)
    · exact g_vret dX1_part_62 rfl ⟨⟨rfl, hu16, fu16⟩, (by subst eu16; subst ex14; subst ex11; subst ex7; subst eu4; subst ex3; subst ex1; exact (if_pos c12).trans ((if_neg c18).trans (rfl)) : e_X1_part u t k = u16).symm⟩
    · refine g_aload_n dX1_part_48 rfl ?_
      refine f_X1_25 rfl rfl dX1_part_49 ?_
      refine g_iload_n dX1_part_52 rfl ?_
      refine g_iconst (v := 1) dX1_part_53 (by decide) ?_
      refine g_aload_n dX1_part_54 rfl ?_
      refine f_X1_25 rfl rfl dX1_part_55 ?_
      refine g_iload_n dX1_part_58 rfl ?_
      have v19 : vp_in t 8 := uk_vin 8 rfl (by first | decide | lia | grind) (by first | decide | lia | grind)
      refine g_iald rfl rfl v19 dX1_part_59 ?_
      refine g_topi (fun x20 ex20 => ?_)
      refine g_isub dX1_part_60 ?_
      refine g_topi (fun x21 ex21 => ?_)
      have v22 : vp_in t 8 := uk_vin 8 rfl (by first | decide | lia | grind) (by first | decide | lia | grind)
      have b23 := uk_cl v22
      refine g_iast rfl rfl v22 dX1_part_61 ?_
      refine g_mem (fun u24 eu24 => ?_)
      have hu24 : iv u24 := by rw [eu24]; exact iv_upF hu16 (uk_pick1 _ (by omega))
      have fu24 : fr 41 46 u u24 := by rw [eu24]; exact fr_up fu16 (by omega) (by omega)
      exact g_vret dX1_part_62 rfl ⟨⟨rfl, hu24, fu24⟩, (by subst eu24; subst ex21; subst ex20; subst eu16; subst ex14; subst ex11; subst ex7; subst eu4; subst ex3; subst ex1; exact (if_pos c12).trans ((if_pos c18).trans (rfl)) : e_X1_part u t k = u24).symm⟩
  · have zc12 := nx11 c12
    refine g_aload_n dX1_part_23 rfl ?_
    refine g_aload_n dX1_part_24 rfl ?_
    refine f_X1_61 rfl rfl dX1_part_25 ?_
    refine g_iload_n dX1_part_28 rfl ?_
    have v25 : vp_in t 8 := uk_vin 8 rfl (by first | decide | lia | grind) (by first | decide | lia | grind)
    refine g_iald rfl rfl v25 dX1_part_29 ?_
    refine g_topi (fun x26 ex26 => ?_)
    have bx26 := uk_cl v25
    have rx26 : 0 ≤ x26 ∧ x26 ≤ 7 := by rw [ex26]; exact iv_at hu4 _ _ (uk_pick1 _ (by omega))
    refine cl_X1_54 (c := 41) (As := [.int x26]) rfl (x_X1_putWaiting (G := G) hs hu4  x26 (by first | trivial | decide | lia | grind) (by first | trivial | decide | lia | grind) (d)) rfl (by omega) rfl rfl (Nat.le_of_ble_eq_true rfl) dX1_part_30 (fun r27 u28 q29 => ?_)
    obtain ⟨q29, Eq29⟩ := q29
    obtain ⟨rfl, mq29⟩ := q29
    obtain ⟨hu28, gu28⟩ := mq29
    have fu28 : fr 41 46 u u28 := fr_tr fu4 gu28 (by omega) (by omega)
    have eu28 : u28 = e_X1_putWaiting u4 x26 := Eq29
    refine g_aload_n dX1_part_33 rfl ?_
    refine g_aload_n dX1_part_34 rfl ?_
    refine f_X1_64 rfl rfl dX1_part_35 ?_
    refine g_iload_n dX1_part_38 rfl ?_
    have v30 : vp_in t 8 := uk_vin 8 rfl (by first | decide | lia | grind) (by first | decide | lia | grind)
    refine g_iald rfl rfl v30 dX1_part_39 ?_
    refine g_topi (fun x31 ex31 => ?_)
    have bx31 := uk_cl v30
    have rx31 : 0 ≤ x31 ∧ x31 ≤ 7 := by rw [ex31]; exact iv_at hu28 _ _ (uk_pick1 _ (by omega))
    refine cl_X1_54 (c := 41) (As := [.int x31]) rfl (x_X1_putWaiting (G := G) hs hu28  x31 (by first | trivial | decide | lia | grind) (by first | trivial | decide | lia | grind) (d)) rfl (by omega) rfl rfl (Nat.le_of_ble_eq_true rfl) dX1_part_40 (fun r32 u33 q34 => ?_)
    obtain ⟨q34, Eq34⟩ := q34
    obtain ⟨rfl, mq34⟩ := q34
    obtain ⟨hu33, gu33⟩ := mq34
    have fu33 : fr 41 46 u u33 := fr_tr fu28 gu33 (by omega) (by omega)
    have eu33 : u33 = e_X1_putWaiting u28 x31 := Eq34
    refine g_iload_n dX1_part_43 rfl ?_
    refine g_iconst (v := 3) dX1_part_44 (by decide) ?_
    refine g_icmp_ne (tgt := 62) dX1_part_45 (by decide) (fun c35 => ?_) (fun c35 => ?_)
    · exact g_vret dX1_part_62 rfl ⟨⟨rfl, hu33, fu33⟩, (by subst eu33; subst ex31; subst eu28; subst ex26; subst ex11; subst ex7; subst eu4; subst ex3; subst ex1; exact (if_neg c12).trans ((if_neg c35).trans (rfl)) : e_X1_part u t k = u33).symm⟩
    · refine g_aload_n dX1_part_48 rfl ?_
      refine f_X1_25 rfl rfl dX1_part_49 ?_
      refine g_iload_n dX1_part_52 rfl ?_
      refine g_iconst (v := 1) dX1_part_53 (by decide) ?_
      refine g_aload_n dX1_part_54 rfl ?_
      refine f_X1_25 rfl rfl dX1_part_55 ?_
      refine g_iload_n dX1_part_58 rfl ?_
      have v36 : vp_in t 8 := uk_vin 8 rfl (by first | decide | lia | grind) (by first | decide | lia | grind)
      refine g_iald rfl rfl v36 dX1_part_59 ?_
      refine g_topi (fun x37 ex37 => ?_)
      refine g_isub dX1_part_60 ?_
      refine g_topi (fun x38 ex38 => ?_)
      have v39 : vp_in t 8 := uk_vin 8 rfl (by first | decide | lia | grind) (by first | decide | lia | grind)
      have b40 := uk_cl v39
      refine g_iast rfl rfl v39 dX1_part_61 ?_
      refine g_mem (fun u41 eu41 => ?_)
      have hu41 : iv u41 := by rw [eu41]; exact iv_upF hu33 (uk_pick1 _ (by omega))
      have fu41 : fr 41 46 u u41 := by rw [eu41]; exact fr_up fu33 (by omega) (by omega)
      exact g_vret dX1_part_62 rfl ⟨⟨rfl, hu41, fu41⟩, (by subst eu41; subst ex38; subst ex37; subst eu33; subst ex31; subst eu28; subst ex26; subst ex11; subst ex7; subst eu4; subst ex3; subst ex1; exact (if_neg c12).trans ((if_pos c35).trans (rfl)) : e_X1_part u t k = u41).symm⟩
def l_X1_grind_90 : Nat → Int32 → uk_Mem → uk_Mem
  | 0, _, u13 => u13
  | K9 + 1, i12, u13 => if i12 < 0 then (u13) else (let x16 : Int32 := u13.1 45 i12.toNatClampNeg; let u18 : uk_Mem := e_X1_lieDown u13 x16; l_X1_grind_90  K9 (i12 - 1) u18)
def l_X1_grind_90_1 : Nat → Int32 → uk_Mem → uk_Mem
  | 0, _, u28 => u28
  | K9 + 1, i27, u28 => if i27 < 0 then (u28) else (let x31 : Int32 := u28.1 45 i27.toNatClampNeg; let u33 : uk_Mem := e_X1_lieDown u28 x31; l_X1_grind_90_1  K9 (i27 - 1) u33)
def l_X1_grind_90_2 : Nat → Int32 → uk_Mem → uk_Mem
  | 0, _, u42 => u42
  | K9 + 1, i41, u42 => if i41 < 0 then (u42) else (let x45 : Int32 := u42.1 45 i41.toNatClampNeg; let u47 : uk_Mem := e_X1_lieDown u42 x45; l_X1_grind_90_2  K9 (i41 - 1) u47)
def l_X1_grind_8 (n : Int32) : Nat → Int32 → uk_Mem → uk_Mem
  | 0, _, u6 => u6
  | K9 + 1, i5, u6 => if (255 : Int32) ≤ i5 then (let x8 : Int32 := u6.1 41 6; let x10 : Int32 := x8 - (1 : Int32); l_X1_grind_90  ee_K x10 u6) else (let x20 : Int32 := u6.1 41 2; if n ≤ x20 then (let x23 : Int32 := u6.1 41 6; let x25 : Int32 := x23 - (1 : Int32); l_X1_grind_90_1  ee_K x25 u6) else (let x35 : Int32 := u6.1 41 6; if x35 ≤ 0 then (let x38 : Int32 := u6.1 41 6; let x39 : Int32 := x38 - (1 : Int32); l_X1_grind_90_2  ee_K x39 u6) else (let x52 : Int32 := (e_X1_takeWaiting u6).1; let u50 : uk_Mem := (e_X1_takeWaiting u6).2; let x54 : Int32 := u50.1 14 x52.toNatClampNeg; if x54 = (4 : Int32) then (let u57 : uk_Mem := e_X1_lieDown u50 x52; l_X1_grind_8 n K9 (i5 + 1) u57) else (if x54 = (2 : Int32) then (let u64 : uk_Mem := e_X1_lieDown u50 x52; l_X1_grind_8 n K9 (i5 + 1) u64) else (let u61 : uk_Mem := e_X1_part u50 x52 x54; l_X1_grind_8 n K9 (i5 + 1) u61)))))
def e_X1_grind (u : uk_Mem) (m : Int32) (n : Int32) : uk_Mem := let u2 : uk_Mem := e_X1_start u m; l_X1_grind_8 n ee_K (0 : Int32) u2
abbrev qe_X1_grind (u : uk_Mem) (m : Int32) (n : Int32) (r : Option Value) (u' : uk_Mem) : Prop := (q_X1_grind u m n r u') ∧ (u' = e_X1_grind u m n)
set_option maxHeartbeats 4000000 in
set_option maxRecDepth 20000 in
theorem x_X1_grind {G : uk_D} (hs : uk_Sep G) {u : uk_Mem} (hu : iv u) (m : Int32) (n : Int32) (p0 : 0 ≤ m) (p1 : m ≤ 7) (d : Nat) : uk_Meth G (d + 2) mX1_grind [.ref (uk_ad G 41), .ref (uk_ad G 13), .int m, .int n] u (qe_X1_grind u m n) := by
  refine uk_Meth.of hs (by decide) (Nat.le_of_ble_eq_true rfl) (fun X => ?_)
  have f0 : fr 41 46 u u := fr_rf
  refine g_aload_n dX1_grind_0 rfl ?_
  refine g_iload_n dX1_grind_1 rfl ?_
  refine cl_X1_34 (c := 41) (As := [.int m]) rfl (x_X1_start (G := G) hs hu  m (by first | trivial | decide | lia | grind) (by first | trivial | decide | lia | grind) (d)) rfl (by omega) rfl rfl (Nat.le_of_ble_eq_true rfl) dX1_grind_2 (fun r1 u2 q3 => ?_)
  obtain ⟨q3, Eq3⟩ := q3
  obtain ⟨rfl, mq3⟩ := q3
  obtain ⟨hu2, gu2⟩ := mq3
  have fu2 : fr 41 46 u u2 := fr_tr f0 gu2 (by omega) (by omega)
  have eu2 : u2 = e_X1_start u m := Eq3
  refine g_iconst (v := 0) dX1_grind_5 (by decide) ?_
  refine g_istore dX1_grind_6 (by decide) ?_
  refine g_pick (lv' := [(0, .ref (uk_ad G 41)), (1, .ref (uk_ad G 13)), (2, .int m), (3, .int n), (4, .int 0)]) [0, 1, 2, 3, 4] rfl ?_
  have L8_3 : ∀ i5 : Int32, 0 ≤ i5 → i5 ≤ 255 → ∀ (u6 : uk_Mem), iv u6 → fr 41 46 u u6 → (∃ ki5 : Nat, ee_F 255 i5 ki5 ∧ e_X1_grind u m n = l_X1_grind_8 n ki5 i5 u6) → uk_G G X mX1_grind (d + 2) (qe_X1_grind u m n) 8 [(0, .ref (uk_ad G 41)), (1, .ref (uk_ad G 13)), (2, .int m), (3, .int n), (4, .int i5)] [] u6 := by
    refine uk_upl 255 ?_
    intro i5 ai5 bi5 ihi5  u6 hu6 fu6 jEi5
    obtain ⟨ki5, fki5, hki5⟩ := jEi5
    obtain ⟨ki5, rfl⟩ := ee_Fp (by first | assumption | lia | grind) fki5
    refine g_iload dX1_grind_8 rfl ?_
    refine g_sipush (v := 255) dX1_grind_10 (by decide) ?_
    refine g_icmp_ge (tgt := 82) dX1_grind_13 (by decide) (fun c7 => ?_) (fun c7 => ?_)
    · refine g_aload_n dX1_grind_82 rfl ?_
      refine f_X1_31 rfl rfl dX1_grind_83 ?_
      refine g_topi (fun x8 ex8 => ?_)
      have rx8 : 0 ≤ x8 ∧ x8 ≤ 9 := by rw [ex8]; exact iv_at hu6 _ _ rfl
      have s9 : u6.1 41 6 = x8 := ex8.symm
      refine g_iconst (v := 1) dX1_grind_86 (by decide) ?_
      refine g_isub dX1_grind_87 ?_
      refine g_topi (fun x10 ex10 => ?_)
      refine g_istore dX1_grind_88 (by decide) ?_
      refine g_pick (lv' := [(0, .ref (uk_ad G 41)), (1, .ref (uk_ad G 13)), (2, .int m), (3, .int n), (4, .int x10)]) [0, 1, 2, 3, 4] rfl ?_
      have L90_10 : ∀ i12 : Int32, -1 ≤ i12 → ∀ (u13 : uk_Mem), iv u13 → fr 41 46 u u13 → i12 ≤ 8 → (∃ ki12 : Nat, ee_D i12 ki12 ∧ e_X1_grind u m n = l_X1_grind_90  ki12 i12 u13) → uk_G G X mX1_grind (d + 2) (qe_X1_grind u m n) 90 [(0, .ref (uk_ad G 41)), (1, .ref (uk_ad G 13)), (2, .int m), (3, .int n), (4, .int i12)] [] u13 := by
        refine uk_dnl ?_
        intro i12 ai12 ihi12  u13 hu13 fu13 ji120 jEi12
        obtain ⟨ki12, fki12, hki12⟩ := jEi12
        obtain ⟨ki12, rfl⟩ := ee_Dp (by first | assumption | lia | grind) fki12
        refine g_iload dX1_grind_90 rfl ?_
        refine g_if_lt (tgt := 112) dX1_grind_92 (by decide) (fun c14 => ?_) (fun c14 => ?_)
        · exact g_vret dX1_grind_112 rfl ⟨⟨rfl, hu13, fu13⟩, (by exact hki12.trans ((if_pos c14).trans (rfl)) : e_X1_grind u m n = u13).symm⟩
        · refine g_aload_n dX1_grind_95 rfl ?_
          refine g_aload_n dX1_grind_96 rfl ?_
          refine f_X1_28 rfl rfl dX1_grind_97 ?_
          refine g_iload dX1_grind_100 rfl ?_
          have v15 : vp_in i12 9 := uk_vin 9 rfl (by first | decide | lia | grind) (by first | decide | lia | grind)
          refine g_iald rfl rfl v15 dX1_grind_102 ?_
          refine g_topi (fun x16 ex16 => ?_)
          have bx16 := uk_cl v15
          have rx16 : 0 ≤ x16 ∧ x16 ≤ 7 := by rw [ex16]; exact iv_at hu13 _ _ (uk_pick1 _ (by omega))
          refine cl_X1_47 (c := 41) (As := [.int x16]) rfl (x_X1_lieDown (G := G) hs hu13  x16 (by first | trivial | decide | lia | grind) (by first | trivial | decide | lia | grind) (d + 1)) rfl (by omega) rfl rfl (Nat.le_of_ble_eq_true rfl) dX1_grind_103 (fun r17 u18 q19 => ?_)
          obtain ⟨q19, Eq19⟩ := q19
          obtain ⟨rfl, mq19⟩ := q19
          obtain ⟨hu18, gu18⟩ := mq19
          have fu18 : fr 41 46 u u18 := fr_tr fu13 gu18 (by omega) (by omega)
          have eu18 : u18 = e_X1_lieDown u13 x16 := Eq19
          refine g_iinc (v := i12 - 1) dX1_grind_106 rfl (uk_m1 _) (by decide) ?_
          refine g_pick (lv' := [(0, .ref (uk_ad G 41)), (1, .ref (uk_ad G 13)), (2, .int m), (3, .int n), (4, .int (i12 - 1))]) [0, 1, 2, 3, 4] rfl ?_
          refine g_goto (tgt := 90) dX1_grind_109 (by decide) ?_
          refine g_pick (lv' := [(0, .ref (uk_ad G 41)), (1, .ref (uk_ad G 13)), (2, .int m), (3, .int n), (4, .int (i12 - 1))]) [0, 1, 2, 3, 4] rfl ?_
          exact ihi12 (by first | lia | grind)  u18 hu18 fu18 (by first | trivial | lia | grind) ⟨ki12, ee_Ds fki12 (by first | assumption | lia | grind), by subst eu18; subst ex16; exact hki12.trans ((if_neg c14).trans (rfl))⟩
      refine g_pick (lv' := [(0, .ref (uk_ad G 41)), (1, .ref (uk_ad G 13)), (2, .int m), (3, .int n), (4, .int x10)]) [0, 1, 2, 3, 4] rfl ?_
      exact L90_10 x10 (by first | decide | lia | grind)  u6 hu6 fu6 (by first | trivial | lia | grind) ⟨ee_K, ee_D0 _, by subst ex10; subst ex8; exact hki5.trans ((if_pos c7).trans (rfl))⟩
    · refine g_aload_n dX1_grind_16 rfl ?_
      refine f_X1_19 rfl rfl dX1_grind_17 ?_
      refine g_topi (fun x20 ex20 => ?_)
      have s21 : u6.1 41 2 = x20 := ex20.symm
      refine g_iload_n dX1_grind_20 rfl ?_
      refine g_icmp_ge (tgt := 82) dX1_grind_21 (by decide) (fun c22 => ?_) (fun c22 => ?_)
      · refine g_aload_n dX1_grind_82 rfl ?_
        refine f_X1_31 rfl rfl dX1_grind_83 ?_
        refine g_topi (fun x23 ex23 => ?_)
        have rx23 : 0 ≤ x23 ∧ x23 ≤ 9 := by rw [ex23]; exact iv_at hu6 _ _ rfl
        have s24 : u6.1 41 6 = x23 := ex23.symm
        refine g_iconst (v := 1) dX1_grind_86 (by decide) ?_
        refine g_isub dX1_grind_87 ?_
        refine g_topi (fun x25 ex25 => ?_)
        refine g_istore dX1_grind_88 (by decide) ?_
        refine g_pick (lv' := [(0, .ref (uk_ad G 41)), (1, .ref (uk_ad G 13)), (2, .int m), (3, .int n), (4, .int x25)]) [0, 1, 2, 3, 4] rfl ?_
        have L90_25 : ∀ i27 : Int32, -1 ≤ i27 → ∀ (u28 : uk_Mem), iv u28 → fr 41 46 u u28 → i27 ≤ 8 → (∃ ki27 : Nat, ee_D i27 ki27 ∧ e_X1_grind u m n = l_X1_grind_90_1  ki27 i27 u28) → uk_G G X mX1_grind (d + 2) (qe_X1_grind u m n) 90 [(0, .ref (uk_ad G 41)), (1, .ref (uk_ad G 13)), (2, .int m), (3, .int n), (4, .int i27)] [] u28 := by
          refine uk_dnl ?_
          intro i27 ai27 ihi27  u28 hu28 fu28 ji270 jEi27
          obtain ⟨ki27, fki27, hki27⟩ := jEi27
          obtain ⟨ki27, rfl⟩ := ee_Dp (by first | assumption | lia | grind) fki27
          refine g_iload dX1_grind_90 rfl ?_
          refine g_if_lt (tgt := 112) dX1_grind_92 (by decide) (fun c29 => ?_) (fun c29 => ?_)
          · exact g_vret dX1_grind_112 rfl ⟨⟨rfl, hu28, fu28⟩, (by exact hki27.trans ((if_pos c29).trans (rfl)) : e_X1_grind u m n = u28).symm⟩
          · refine g_aload_n dX1_grind_95 rfl ?_
            refine g_aload_n dX1_grind_96 rfl ?_
            refine f_X1_28 rfl rfl dX1_grind_97 ?_
            refine g_iload dX1_grind_100 rfl ?_
            have v30 : vp_in i27 9 := uk_vin 9 rfl (by first | decide | lia | grind) (by first | decide | lia | grind)
            refine g_iald rfl rfl v30 dX1_grind_102 ?_
            refine g_topi (fun x31 ex31 => ?_)
            have bx31 := uk_cl v30
            have rx31 : 0 ≤ x31 ∧ x31 ≤ 7 := by rw [ex31]; exact iv_at hu28 _ _ (uk_pick1 _ (by omega))
            refine cl_X1_47 (c := 41) (As := [.int x31]) rfl (x_X1_lieDown (G := G) hs hu28  x31 (by first | trivial | decide | lia | grind) (by first | trivial | decide | lia | grind) (d + 1)) rfl (by omega) rfl rfl (Nat.le_of_ble_eq_true rfl) dX1_grind_103 (fun r32 u33 q34 => ?_)
            obtain ⟨q34, Eq34⟩ := q34
            obtain ⟨rfl, mq34⟩ := q34
            obtain ⟨hu33, gu33⟩ := mq34
            have fu33 : fr 41 46 u u33 := fr_tr fu28 gu33 (by omega) (by omega)
            have eu33 : u33 = e_X1_lieDown u28 x31 := Eq34
            refine g_iinc (v := i27 - 1) dX1_grind_106 rfl (uk_m1 _) (by decide) ?_
            refine g_pick (lv' := [(0, .ref (uk_ad G 41)), (1, .ref (uk_ad G 13)), (2, .int m), (3, .int n), (4, .int (i27 - 1))]) [0, 1, 2, 3, 4] rfl ?_
            refine g_goto (tgt := 90) dX1_grind_109 (by decide) ?_
            refine g_pick (lv' := [(0, .ref (uk_ad G 41)), (1, .ref (uk_ad G 13)), (2, .int m), (3, .int n), (4, .int (i27 - 1))]) [0, 1, 2, 3, 4] rfl ?_
            exact ihi27 (by first | lia | grind)  u33 hu33 fu33 (by first | trivial | lia | grind) ⟨ki27, ee_Ds fki27 (by first | assumption | lia | grind), by subst eu33; subst ex31; exact hki27.trans ((if_neg c29).trans (rfl))⟩
        refine g_pick (lv' := [(0, .ref (uk_ad G 41)), (1, .ref (uk_ad G 13)), (2, .int m), (3, .int n), (4, .int x25)]) [0, 1, 2, 3, 4] rfl ?_
        exact L90_25 x25 (by first | decide | lia | grind)  u6 hu6 fu6 (by first | trivial | lia | grind) ⟨ee_K, ee_D0 _, by subst ex25; subst ex23; subst ex20; exact hki5.trans ((if_neg c7).trans ((if_pos c22).trans (rfl)))⟩
      · refine g_aload_n dX1_grind_24 rfl ?_
        refine f_X1_31 rfl rfl dX1_grind_25 ?_
        refine g_topi (fun x35 ex35 => ?_)
        have rx35 : 0 ≤ x35 ∧ x35 ≤ 9 := by rw [ex35]; exact iv_at hu6 _ _ rfl
        have s36 : u6.1 41 6 = x35 := ex35.symm
        refine g_if_le (tgt := 82) dX1_grind_28 (by decide) (fun c37 => ?_) (fun c37 => ?_)
        · refine g_aload_n dX1_grind_82 rfl ?_
          refine f_X1_31 rfl rfl dX1_grind_83 ?_
          refine g_topi (fun x38 ex38 => ?_)
          have rx38 : 0 ≤ x38 ∧ x38 ≤ 9 := by rw [ex38]; exact iv_at hu6 _ _ rfl
          have qx38 : x38 = x35 := by rw [ex38]; exact s36
          refine g_iconst (v := 1) dX1_grind_86 (by decide) ?_
          refine g_isub dX1_grind_87 ?_
          refine g_topi (fun x39 ex39 => ?_)
          refine g_istore dX1_grind_88 (by decide) ?_
          refine g_pick (lv' := [(0, .ref (uk_ad G 41)), (1, .ref (uk_ad G 13)), (2, .int m), (3, .int n), (4, .int x39)]) [0, 1, 2, 3, 4] rfl ?_
          have L90_39 : ∀ i41 : Int32, -1 ≤ i41 → ∀ (u42 : uk_Mem), iv u42 → fr 41 46 u u42 → i41 ≤ 8 → (∃ ki41 : Nat, ee_D i41 ki41 ∧ e_X1_grind u m n = l_X1_grind_90_2  ki41 i41 u42) → uk_G G X mX1_grind (d + 2) (qe_X1_grind u m n) 90 [(0, .ref (uk_ad G 41)), (1, .ref (uk_ad G 13)), (2, .int m), (3, .int n), (4, .int i41)] [] u42 := by
            refine uk_dnl ?_
            intro i41 ai41 ihi41  u42 hu42 fu42 ji410 jEi41
            obtain ⟨ki41, fki41, hki41⟩ := jEi41
            obtain ⟨ki41, rfl⟩ := ee_Dp (by first | assumption | lia | grind) fki41
            refine g_iload dX1_grind_90 rfl ?_
            refine g_if_lt (tgt := 112) dX1_grind_92 (by decide) (fun c43 => ?_) (fun c43 => ?_)
            · exact g_vret dX1_grind_112 rfl ⟨⟨rfl, hu42, fu42⟩, (by exact hki41.trans ((if_pos c43).trans (rfl)) : e_X1_grind u m n = u42).symm⟩
            · refine g_aload_n dX1_grind_95 rfl ?_
              refine g_aload_n dX1_grind_96 rfl ?_
              refine f_X1_28 rfl rfl dX1_grind_97 ?_
              refine g_iload dX1_grind_100 rfl ?_
              have v44 : vp_in i41 9 := uk_vin 9 rfl (by first | decide | lia | grind) (by first | decide | lia | grind)
              refine g_iald rfl rfl v44 dX1_grind_102 ?_
              refine g_topi (fun x45 ex45 => ?_)
              have bx45 := uk_cl v44
              have rx45 : 0 ≤ x45 ∧ x45 ≤ 7 := by rw [ex45]; exact iv_at hu42 _ _ (uk_pick1 _ (by omega))
              refine cl_X1_47 (c := 41) (As := [.int x45]) rfl (x_X1_lieDown (G := G) hs hu42  x45 (by first | trivial | decide | lia | grind) (by first | trivial | decide | lia | grind) (d + 1)) rfl (by omega) rfl rfl (Nat.le_of_ble_eq_true rfl) dX1_grind_103 (fun r46 u47 q48 => ?_)
              obtain ⟨q48, Eq48⟩ := q48
              obtain ⟨rfl, mq48⟩ := q48
              obtain ⟨hu47, gu47⟩ := mq48
              have fu47 : fr 41 46 u u47 := fr_tr fu42 gu47 (by omega) (by omega)
              have eu47 : u47 = e_X1_lieDown u42 x45 := Eq48
              refine g_iinc (v := i41 - 1) dX1_grind_106 rfl (uk_m1 _) (by decide) ?_
              refine g_pick (lv' := [(0, .ref (uk_ad G 41)), (1, .ref (uk_ad G 13)), (2, .int m), (3, .int n), (4, .int (i41 - 1))]) [0, 1, 2, 3, 4] rfl ?_
              refine g_goto (tgt := 90) dX1_grind_109 (by decide) ?_
              refine g_pick (lv' := [(0, .ref (uk_ad G 41)), (1, .ref (uk_ad G 13)), (2, .int m), (3, .int n), (4, .int (i41 - 1))]) [0, 1, 2, 3, 4] rfl ?_
              exact ihi41 (by first | lia | grind)  u47 hu47 fu47 (by first | trivial | lia | grind) ⟨ki41, ee_Ds fki41 (by first | assumption | lia | grind), by subst eu47; subst ex45; exact hki41.trans ((if_neg c43).trans (rfl))⟩
          refine g_pick (lv' := [(0, .ref (uk_ad G 41)), (1, .ref (uk_ad G 13)), (2, .int m), (3, .int n), (4, .int x39)]) [0, 1, 2, 3, 4] rfl ?_
          exact L90_39 x39 (by first | decide | lia | grind)  u6 hu6 fu6 (by first | trivial | lia | grind) ⟨ee_K, ee_D0 _, by subst ex39; subst ex38; subst ex35; subst ex20; exact hki5.trans ((if_neg c7).trans ((if_neg c22).trans ((if_pos c37).trans (rfl))))⟩
        · refine g_aload_n dX1_grind_31 rfl ?_
          refine cl_X1_38 (c := 41) (As := []) rfl (x_X1_takeWaiting (G := G) hs hu6   (by first | trivial | decide | lia | grind) (d + 1)) rfl (by omega) rfl rfl (Nat.le_of_ble_eq_true rfl) dX1_grind_32 (fun r49 u50 q51 => ?_)
          obtain ⟨q51, Eq51⟩ := q51
          obtain ⟨⟨x52, rfl, tx52⟩, mq51⟩ := q51
          obtain ⟨hu50, gu50⟩ := mq51
          have fu50 : fr 41 46 u u50 := fr_tr fu6 gu50 (by omega) (by omega)
          have ex52 : x52 = (e_X1_takeWaiting u6).1 := ee_v Eq51.1
          have eu50 : u50 = (e_X1_takeWaiting u6).2 := Eq51.2
          refine g_istore dX1_grind_35 (by decide) ?_
          refine g_pick (lv' := [(0, .ref (uk_ad G 41)), (1, .ref (uk_ad G 13)), (2, .int m), (3, .int n), (4, .int i5), (5, .int x52)]) [0, 1, 2, 3, 4, 5] rfl ?_
          refine g_aload_n dX1_grind_37 rfl ?_
          refine f_X1_42 rfl rfl dX1_grind_38 ?_
          refine g_iload dX1_grind_41 rfl ?_
          have v53 : vp_in x52 8 := uk_vin 8 rfl (by first | decide | lia | grind) (by first | decide | lia | grind)
          refine g_iald rfl rfl v53 dX1_grind_43 ?_
          refine g_topi (fun x54 ex54 => ?_)
          refine g_istore dX1_grind_44 (by decide) ?_
          refine g_pick (lv' := [(0, .ref (uk_ad G 41)), (1, .ref (uk_ad G 13)), (2, .int m), (3, .int n), (4, .int i5), (5, .int x52), (6, .int x54)]) [0, 1, 2, 3, 4, 5, 6] rfl ?_
          refine g_iload dX1_grind_46 rfl ?_
          refine g_iconst (v := 4) dX1_grind_48 (by decide) ?_
          refine g_icmp_eq (tgt := 58) dX1_grind_49 (by decide) (fun c55 => ?_) (fun c55 => ?_)
          · refine g_aload_n dX1_grind_58 rfl ?_
            refine g_iload dX1_grind_59 rfl ?_
            refine cl_X1_47 (c := 41) (As := [.int x52]) rfl (x_X1_lieDown (G := G) hs hu50  x52 (by first | trivial | decide | lia | grind) (by first | trivial | decide | lia | grind) (d + 1)) rfl (by omega) rfl rfl (Nat.le_of_ble_eq_true rfl) dX1_grind_61 (fun r56 u57 q58 => ?_)
            obtain ⟨q58, Eq58⟩ := q58
            obtain ⟨rfl, mq58⟩ := q58
            obtain ⟨hu57, gu57⟩ := mq58
            have fu57 : fr 41 46 u u57 := fr_tr fu50 gu57 (by omega) (by omega)
            have eu57 : u57 = e_X1_lieDown u50 x52 := Eq58
            refine g_goto (tgt := 76) dX1_grind_64 (by decide) ?_
            refine g_iinc (v := i5 + 1) dX1_grind_76 rfl rfl (by decide) ?_
            refine g_pick (lv' := [(0, .ref (uk_ad G 41)), (1, .ref (uk_ad G 13)), (2, .int m), (3, .int n), (4, .int (i5 + 1)), (5, .int x52), (6, .int x54)]) [0, 1, 2, 3, 4, 5, 6] rfl ?_
            refine g_goto (tgt := 8) dX1_grind_79 (by decide) ?_
            refine g_pick (lv' := [(0, .ref (uk_ad G 41)), (1, .ref (uk_ad G 13)), (2, .int m), (3, .int n), (4, .int (i5 + 1))]) [0, 1, 2, 3, 4] rfl ?_
            exact ihi5 (by first | lia | grind)  u57 hu57 fu57  ⟨ki5, ee_Fs fki5 (by first | assumption | lia | grind), by subst eu57; subst ex54; subst eu50; subst ex52; subst ex35; subst ex20; exact hki5.trans ((if_neg c7).trans ((if_neg c22).trans ((if_neg c37).trans ((if_pos c55).trans (rfl)))))⟩
          · refine g_iload dX1_grind_52 rfl ?_
            refine g_iconst (v := 2) dX1_grind_54 (by decide) ?_
            refine g_icmp_ne (tgt := 67) dX1_grind_55 (by decide) (fun c59 => ?_) (fun c59 => ?_)
            · refine g_aload_n dX1_grind_67 rfl ?_
              refine g_aload_n dX1_grind_68 rfl ?_
              refine g_iload dX1_grind_69 rfl ?_
              refine g_iload dX1_grind_71 rfl ?_
              refine cl_X1_50 (c := 41) (As := [.ref (uk_ad G 13), .int x52, .int x54]) rfl (x_X1_part (G := G) hs hu50  x52 x54 (by first | trivial | decide | lia | grind) (by first | trivial | decide | lia | grind) (d)) rfl (by omega) rfl rfl (Nat.le_of_ble_eq_true rfl) dX1_grind_73 (fun r60 u61 q62 => ?_)
              obtain ⟨q62, Eq62⟩ := q62
              obtain ⟨rfl, mq62⟩ := q62
              obtain ⟨hu61, gu61⟩ := mq62
              have fu61 : fr 41 46 u u61 := fr_tr fu50 gu61 (by omega) (by omega)
              have eu61 : u61 = e_X1_part u50 x52 x54 := Eq62
              refine g_iinc (v := i5 + 1) dX1_grind_76 rfl rfl (by decide) ?_
              refine g_pick (lv' := [(0, .ref (uk_ad G 41)), (1, .ref (uk_ad G 13)), (2, .int m), (3, .int n), (4, .int (i5 + 1)), (5, .int x52), (6, .int x54)]) [0, 1, 2, 3, 4, 5, 6] rfl ?_
              refine g_goto (tgt := 8) dX1_grind_79 (by decide) ?_
              refine g_pick (lv' := [(0, .ref (uk_ad G 41)), (1, .ref (uk_ad G 13)), (2, .int m), (3, .int n), (4, .int (i5 + 1))]) [0, 1, 2, 3, 4] rfl ?_
              exact ihi5 (by first | lia | grind)  u61 hu61 fu61  ⟨ki5, ee_Fs fki5 (by first | assumption | lia | grind), by subst eu61; subst ex54; subst eu50; subst ex52; subst ex35; subst ex20; exact hki5.trans ((if_neg c7).trans ((if_neg c22).trans ((if_neg c37).trans ((if_neg c55).trans ((if_neg c59).trans (rfl))))))⟩
            · refine g_aload_n dX1_grind_58 rfl ?_
              refine g_iload dX1_grind_59 rfl ?_
              refine cl_X1_47 (c := 41) (As := [.int x52]) rfl (x_X1_lieDown (G := G) hs hu50  x52 (by first | trivial | decide | lia | grind) (by first | trivial | decide | lia | grind) (d + 1)) rfl (by omega) rfl rfl (Nat.le_of_ble_eq_true rfl) dX1_grind_61 (fun r63 u64 q65 => ?_)
              obtain ⟨q65, Eq65⟩ := q65
              obtain ⟨rfl, mq65⟩ := q65
              obtain ⟨hu64, gu64⟩ := mq65
              have fu64 : fr 41 46 u u64 := fr_tr fu50 gu64 (by omega) (by omega)
              have eu64 : u64 = e_X1_lieDown u50 x52 := Eq65
              refine g_goto (tgt := 76) dX1_grind_64 (by decide) ?_
              refine g_iinc (v := i5 + 1) dX1_grind_76 rfl rfl (by decide) ?_
              refine g_pick (lv' := [(0, .ref (uk_ad G 41)), (1, .ref (uk_ad G 13)), (2, .int m), (3, .int n), (4, .int (i5 + 1)), (5, .int x52), (6, .int x54)]) [0, 1, 2, 3, 4, 5, 6] rfl ?_
              refine g_goto (tgt := 8) dX1_grind_79 (by decide) ?_
              refine g_pick (lv' := [(0, .ref (uk_ad G 41)), (1, .ref (uk_ad G 13)), (2, .int m), (3, .int n), (4, .int (i5 + 1))]) [0, 1, 2, 3, 4] rfl ?_
              exact ihi5 (by first | lia | grind)  u64 hu64 fu64  ⟨ki5, ee_Fs fki5 (by first | assumption | lia | grind), by subst eu64; subst ex54; subst eu50; subst ex52; subst ex35; subst ex20; exact hki5.trans ((if_neg c7).trans ((if_neg c22).trans ((if_neg c37).trans ((if_neg c55).trans ((if_pos c59).trans (rfl))))))⟩
  refine g_pick (lv' := [(0, .ref (uk_ad G 41)), (1, .ref (uk_ad G 13)), (2, .int m), (3, .int n), (4, .int 0)]) [0, 1, 2, 3, 4] rfl ?_
  exact L8_3 0 (by first | decide | lia | grind) (by first | decide | lia | grind)  u2 hu2 fu2  ⟨ee_K, ee_F0 _ _, by subst eu2; exact rfl⟩
def l_X7_lays_6 (m : Int32) : Nat → Int32 → uk_Mem → uk_Mem
  | 0, _, u9 => u9
  | K9 + 1, i8, u9 => let x11 : Int32 := u9.1 60 3; if x11 ≤ i8 then (let u16 : uk_Mem := uk_up u9 71 (0 : Int32).toNatClampNeg m; let u19 : uk_Mem := uk_up u16 60 22 (1 : Int32); u19) else (let x22 : Int32 := (8 : Int32) + i8; let u25 : uk_Mem := uk_up u9 62 x22.toNatClampNeg (0 : Int32); l_X7_lays_6 m K9 (i8 + 1) u25)
def e_X7_lays (u : uk_Mem) (m : Int32) : uk_Mem := let u3 : uk_Mem := e_X7_starts u; l_X7_lays_6 m ee_K (0 : Int32) u3
abbrev qe_X7_lays (u : uk_Mem) (m : Int32) (r : Option Value) (u' : uk_Mem) : Prop := (q_X7_lays u m r u') ∧ (u' = e_X7_lays u m)
set_option maxHeartbeats 4000000 in
set_option maxRecDepth 20000 in
theorem x_X7_lays {G : uk_D} (hs : uk_Sep G) {u : uk_Mem} (hu : iv u) (hri : ri u) (m : Int32) (p0 : 0 ≤ m) (p1 : m < u.1 60 3) (p2 : m ≤ 7) (d : Nat) : uk_Meth G (d + 1) mX7_lays [.ref (uk_ad G 60), .int m] u (qe_X7_lays u m) := by
  refine uk_Meth.of hs (by decide) (Nat.le_of_ble_eq_true rfl) (fun X => ?_)
  have f0 : fk [60, 62, 71] [3, 7, 10, 11, 13, 14, 15, 16, 17, 18, 19, 28] u u := fk_rf
  have C71 : u.1 71 = u.1 71 := rfl
  obtain ⟨t1, Tt1⟩ : ∃ t, u.1 60 22 = t := ⟨_, rfl⟩
  refine g_aload_n dX7_lays_0 rfl ?_
  refine cl_X7_185 (c := 60) (As := []) rfl (x_X7_starts (G := G) hs hu hri    (d)) rfl (by omega) rfl rfl (Nat.le_of_ble_eq_true rfl) dX7_lays_1 (fun r2 u3 q4 => ?_)
  obtain ⟨q4, Eq4⟩ := q4
  obtain ⟨rfl, mq4⟩ := q4
  obtain ⟨hu3, gu3, rau3, ku30⟩ := mq4
  have fu3 : fk [60, 62, 71] [3, 7, 10, 11, 13, 14, 15, 16, 17, 18, 19, 28] u u3 := fk_tr f0 gu3 (by decide) (by decide)
  have riu3 : ri u3 := ri_fk hri gu3 (by decide) (by decide) (by decide) (by decide) (by decide)
  have T5 : u3.1 60 22 = t1 := (fk_at gu3 (by decide)).trans Tt1
  have C6 : u3.1 71 = u.1 71 := (fk_c gu3 (by decide)).trans C71
  have wu3_60_3 : u3.1 60 3 = u.1 60 3 := fk_at gu3 (by decide)
  have eu3 : u3 = e_X7_starts u := Eq4
  refine g_iconst (v := 0) dX7_lays_4 (by decide) ?_
  refine g_istore_n dX7_lays_5 (by decide) ?_
  refine g_pick (lv' := [(0, .ref (uk_ad G 60)), (1, .int m), (2, .int 0)]) [0, 1, 2] rfl ?_
  have L6_6 : ∀ i8 : Int32, 0 ≤ i8 → i8 ≤ 8 → ∀ (u9 : uk_Mem), iv u9 → fk [60, 62, 71] [3, 7, 10, 11, 13, 14, 15, 16, 17, 18, 19, 28] u u9 → ri u9 → ra u9 → (∃ ki8 : Nat, ee_F 8 i8 ki8 ∧ e_X7_lays u m = l_X7_lays_6 m ki8 i8 u9) → uk_G G X mX7_lays (d + 1) (qe_X7_lays u m) 6 [(0, .ref (uk_ad G 60)), (1, .int m), (2, .int i8)] [] u9 := by
    refine uk_upl 8 ?_
    intro i8 ai8 bi8 ihi8  u9 hu9 fu9 riu9 rau9 jEi8
    obtain ⟨ki8, fki8, hki8⟩ := jEi8
    obtain ⟨ki8, rfl⟩ := ee_Fp (by first | assumption | lia | grind) fki8
    have C71_u9 : u9.1 71 = u9.1 71 := rfl
    obtain ⟨t10, Tt10⟩ : ∃ t, u9.1 60 22 = t := ⟨_, rfl⟩
    have Rt10 : 0 ≤ t10 ∧ t10 ≤ 255 := by rw [← Tt10]; exact iv_at hu9 _ _ rfl
    have wu9_60_3 : u9.1 60 3 = u.1 60 3 := fk_at fu9 (by decide)
    refine g_iload_n dX7_lays_6 rfl ?_
    refine g_aload_n dX7_lays_7 rfl ?_
    refine f_X7_79 rfl rfl dX7_lays_8 ?_
    refine g_topi (fun x11 ex11 => ?_)
    have rx11 : 0 ≤ x11 ∧ x11 ≤ 8 := by rw [ex11]; exact iv_at hu9 _ _ rfl
    have s12 : u9.1 60 3 = x11 := ex11.symm
    refine g_icmp_ge (tgt := 30) dX7_lays_11 (by decide) (fun c13 => ?_) (fun c13 => ?_)
    · refine g_aload_n dX7_lays_30 rfl ?_
      refine f_X7_41 rfl rfl dX7_lays_31 ?_
      refine g_iconst (v := 0) dX7_lays_34 (by decide) ?_
      refine g_iload_n dX7_lays_35 rfl ?_
      have v14 : vp_in 0 256 := uk_vin 256 rfl (by first | decide | lia | grind) (by first | decide | lia | grind)
      have b15 := uk_cl v14
      refine g_iast rfl rfl v14 dX7_lays_36 ?_
      refine g_mem (fun u16 eu16 => ?_)
      have hu16 : iv u16 := by rw [eu16]; exact iv_up hu9 (uk_pick1 _ (by omega)) (by first | lia | grind) (by first | lia | grind)
      have fu16 : fk [60, 62, 71] [3, 7, 10, 11, 13, 14, 15, 16, 17, 18, 19, 28] u u16 := by rw [eu16]; exact fk_up fu9 (by decide) (fun q => absurd q (by decide))
      have riu16 : ri u16 := by rw [eu16]; exact ri_1 riu9 (by decide) (fun q => absurd q (by decide))
      have rau16 : ra u16 := by rw [eu16]; exact ra_1 rau9 (by decide) (fun q => absurd q (by decide))
      have T17 : u16.1 60 22 = t10 := by rw [eu16]; exact (congrFun (uk_up_oc (by decide)) _).trans Tt10
      have C18 : u16.1 71 = (upd (u9.1 71) (0 : Int32).toNatClampNeg m) := by rw [eu16, uk_up_self, C71_u9]
      refine g_aload_n dX7_lays_37 rfl ?_
      refine g_iconst (v := 1) dX7_lays_38 (by decide) ?_
      refine p_X7_207 rfl rfl dX7_lays_39 ?_
      refine g_mem (fun u19 eu19 => ?_)
      have hu19 : iv u19 := by rw [eu19]; exact iv_up hu16 rfl (by first | lia | grind) (by first | lia | grind)
      have fu19 : fk [60, 62, 71] [3, 7, 10, 11, 13, 14, 15, 16, 17, 18, 19, 28] u u19 := by rw [eu19]; exact fk_up fu16 (by decide) (fun _ => by decide)
      have riu19 : ri u19 := by rw [eu19]; exact ri_1 riu16 (by decide) (fun _ => by decide)
      have rau19 : ra u19 := by rw [eu19]; exact ra_1 rau16 (by decide) (fun _ => by decide)
      have C20 : u19.1 71 = (upd (u9.1 71) (0 : Int32).toNatClampNeg m) := by rw [eu19]; exact (uk_up_oc (by decide)).trans C18
      have s21 : u19.1 60 22 = 1 := by rw [eu19, uk_up_at]; exact if_pos ⟨rfl, rfl⟩
      exact g_vret dX7_lays_42 rfl ⟨⟨rfl, hu19, fu19, riu19, rau19, (rp_lay C20 (s21.trans rfl) (fk_at fu19 (by decide)) p0 p2 p1)⟩, (by subst eu19; subst eu16; subst ex11; exact hki8.trans ((if_pos c13).trans (rfl)) : e_X7_lays u m = u19).symm⟩
    · refine g_aload_n dX7_lays_14 rfl ?_
      refine f_X7_13 rfl rfl dX7_lays_15 ?_
      refine g_bipush (v := 8) dX7_lays_18 (by decide) ?_
      refine g_iload_n dX7_lays_20 rfl ?_
      refine g_iadd dX7_lays_21 ?_
      refine g_topi (fun x22 ex22 => ?_)
      refine g_iconst (v := 0) dX7_lays_22 (by decide) ?_
      have v23 : vp_in x22 51 := uk_vin 51 rfl (by first | decide | lia | grind) (by first | decide | lia | grind)
      have b24 := uk_cl v23
      refine g_iast rfl rfl v23 dX7_lays_23 ?_
      refine g_mem (fun u25 eu25 => ?_)
      have hu25 : iv u25 := by rw [eu25]; exact iv_st hu9 (by unfold uk_is51; decide) (by first | decide | lia | grind) (by first | decide | lia | grind) (fun q => by first | decide | lia | grind) (fun q => by first | decide | lia | grind) (fun q => by first | decide | lia | grind)
      have fu25 : fk [60, 62, 71] [3, 7, 10, 11, 13, 14, 15, 16, 17, 18, 19, 28] u u25 := by rw [eu25]; exact fk_up fu9 (by decide) (fun q => absurd q (by decide))
      have riu25 : ri u25 := by rw [eu25]; exact ri_1 riu9 (by decide) (fun q => absurd q (by decide))
      have rau25 : ra u25 := by rw [eu25]; exact ra_at rau9 (by first | decide | lia | grind) (by first | decide | lia | grind)
      have T26 : u25.1 60 22 = t10 := by rw [eu25]; exact (congrFun (uk_up_oc (by decide)) _).trans Tt10
      have C27 : u25.1 71 = u9.1 71 := by rw [eu25]; exact (uk_up_oc (by decide)).trans C71_u9
      refine g_iinc (v := i8 + 1) dX7_lays_24 rfl rfl (by decide) ?_
      refine g_pick (lv' := [(0, .ref (uk_ad G 60)), (1, .int m), (2, .int (i8 + 1))]) [0, 1, 2] rfl ?_
      refine g_goto (tgt := 6) dX7_lays_27 (by decide) ?_
      refine g_pick (lv' := [(0, .ref (uk_ad G 60)), (1, .int m), (2, .int (i8 + 1))]) [0, 1, 2] rfl ?_
      exact ihi8 (by first | lia | grind)  u25 hu25 fu25 riu25 rau25  ⟨ki8, ee_Fs fki8 (by first | assumption | lia | grind), by subst eu25; subst ex22; subst ex11; exact hki8.trans ((if_neg c13).trans (rfl))⟩
  refine g_pick (lv' := [(0, .ref (uk_ad G 60)), (1, .int m), (2, .int 0)]) [0, 1, 2] rfl ?_
  exact L6_6 0 (by first | decide | lia | grind) (by first | decide | lia | grind)  u3 hu3 fu3 riu3 rau3  ⟨ee_K, ee_F0 _ _, by subst eu3; exact rfl⟩
def l_X7_nextThing_2 (u : uk_Mem) : Nat → Int32 → Int32
  | 0, _ => 0
  | K9 + 1, i2 => let x3 : Int32 := u.1 60 22; if x3 ≤ i2 then ((-4 : Int32)) else (let x7 : Int32 := u.1 71 i2.toNatClampNeg; let x8 : Int32 := (32 : Int32) + x7; let x10 : Int32 := u.1 62 x8.toNatClampNeg; if x10 = (4 : Int32) then (l_X7_nextThing_2 u K9 (i2 + 1)) else (if x10 = (2 : Int32) then (l_X7_nextThing_2 u K9 (i2 + 1)) else (i2)))
def e_X7_nextThing (u : uk_Mem) : Int32 := l_X7_nextThing_2 u ee_K (0 : Int32)
abbrev qe_X7_nextThing (u : uk_Mem)  (r : Option Value) (u' : uk_Mem) : Prop := (q_X7_nextThing u r u') ∧ (r = some (.int (e_X7_nextThing u)))
set_option maxHeartbeats 4000000 in
set_option maxRecDepth 20000 in
theorem x_X7_nextThing {G : uk_D} (hs : uk_Sep G) {u : uk_Mem} (hu : iv u)  (d : Nat) : uk_Meth G d mX7_nextThing [.ref (uk_ad G 60)] u (qe_X7_nextThing u) := by
  refine uk_Meth.of hs (by decide) (Nat.le_of_ble_eq_true rfl) (fun X => ?_)
  refine g_iconst (v := 0) dX7_nextThing_0 (by decide) ?_
  refine g_istore_n dX7_nextThing_1 (by decide) ?_
  refine g_pick (lv' := [(0, .ref (uk_ad G 60)), (1, .int 0)]) [0, 1] rfl ?_
  have L2_0 : ∀ i2 : Int32, 0 ≤ i2 → i2 ≤ 255 → (∃ ki2 : Nat, ee_F 255 i2 ki2 ∧ e_X7_nextThing u = l_X7_nextThing_2 u ki2 i2) → uk_G G X mX7_nextThing d (qe_X7_nextThing u) 2 [(0, .ref (uk_ad G 60)), (1, .int i2)] [] u := by
    refine uk_upl 255 ?_
    intro i2 ai2 bi2 ihi2  jEi2
    obtain ⟨ki2, fki2, hki2⟩ := jEi2
    obtain ⟨ki2, rfl⟩ := ee_Fp (by first | assumption | lia | grind) fki2
    refine g_iload_n dX7_nextThing_2 rfl ?_
    refine g_aload_n dX7_nextThing_3 rfl ?_
    refine f_X7_207 rfl rfl dX7_nextThing_4 ?_
    refine g_topi (fun x3 ex3 => ?_)
    have rx3 : 0 ≤ x3 ∧ x3 ≤ 255 := by rw [ex3]; exact iv_at hu _ _ rfl
    have s4 : u.1 60 22 = x3 := ex3.symm
    refine g_icmp_ge (tgt := 43) dX7_nextThing_7 (by decide) (fun c5 => ?_) (fun c5 => ?_)
    · refine g_bipush (v := (-4)) dX7_nextThing_43 (by decide) ?_
      exact g_iret (ty := .int) dX7_nextThing_45 rfl rfl ⟨⟨⟨_, rfl, by first | trivial | lia | grind⟩, rfl⟩, ee_p (by subst ex3; exact hki2.trans ((if_pos c5).trans (rfl)))⟩
    · refine g_aload_n dX7_nextThing_10 rfl ?_
      refine f_X7_13 rfl rfl dX7_nextThing_11 ?_
      refine g_bipush (v := 32) dX7_nextThing_14 (by decide) ?_
      refine g_aload_n dX7_nextThing_16 rfl ?_
      refine f_X7_41 rfl rfl dX7_nextThing_17 ?_
      refine g_iload_n dX7_nextThing_20 rfl ?_
      have v6 : vp_in i2 256 := uk_vin 256 rfl (by first | decide | lia | grind) (by first | decide | lia | grind)
      refine g_iald rfl rfl v6 dX7_nextThing_21 ?_
      refine g_topi (fun x7 ex7 => ?_)
      have bx7 := uk_cl v6
      have rx7 : 0 ≤ x7 ∧ x7 ≤ 7 := by rw [ex7]; exact iv_at hu _ _ (uk_pick1 _ (by omega))
      refine g_iadd dX7_nextThing_22 ?_
      refine g_topi (fun x8 ex8 => ?_)
      have v9 : vp_in x8 51 := uk_vin 51 rfl (by first | decide | lia | grind) (by first | decide | lia | grind)
      refine g_iald rfl rfl v9 dX7_nextThing_23 ?_
      refine g_topi (fun x10 ex10 => ?_)
      have bx10 := uk_cl v9
      refine g_istore_n dX7_nextThing_24 (by decide) ?_
      refine g_pick (lv' := [(0, .ref (uk_ad G 60)), (1, .int i2), (2, .int x10)]) [0, 1, 2] rfl ?_
      refine g_iload_n dX7_nextThing_25 rfl ?_
      refine g_iconst (v := 4) dX7_nextThing_26 (by decide) ?_
      refine g_icmp_eq (tgt := 37) dX7_nextThing_27 (by decide) (fun c11 => ?_) (fun c11 => ?_)
      · refine g_iinc (v := i2 + 1) dX7_nextThing_37 rfl rfl (by decide) ?_
        refine g_pick (lv' := [(0, .ref (uk_ad G 60)), (1, .int (i2 + 1)), (2, .int x10)]) [0, 1, 2] rfl ?_
        refine g_goto (tgt := 2) dX7_nextThing_40 (by decide) ?_
        refine g_pick (lv' := [(0, .ref (uk_ad G 60)), (1, .int (i2 + 1))]) [0, 1] rfl ?_
        exact ihi2 (by first | lia | grind)   ⟨ki2, ee_Fs fki2 (by first | assumption | lia | grind), by subst ex10; subst ex8; subst ex7; subst ex3; exact hki2.trans ((if_neg c5).trans ((if_pos c11).trans (rfl)))⟩
      · refine g_iload_n dX7_nextThing_30 rfl ?_
        refine g_iconst (v := 2) dX7_nextThing_31 (by decide) ?_
        refine g_icmp_eq (tgt := 37) dX7_nextThing_32 (by decide) (fun c12 => ?_) (fun c12 => ?_)
        · refine g_iinc (v := i2 + 1) dX7_nextThing_37 rfl rfl (by decide) ?_
          refine g_pick (lv' := [(0, .ref (uk_ad G 60)), (1, .int (i2 + 1)), (2, .int x10)]) [0, 1, 2] rfl ?_
          refine g_goto (tgt := 2) dX7_nextThing_40 (by decide) ?_
          refine g_pick (lv' := [(0, .ref (uk_ad G 60)), (1, .int (i2 + 1))]) [0, 1] rfl ?_
          exact ihi2 (by first | lia | grind)   ⟨ki2, ee_Fs fki2 (by first | assumption | lia | grind), by subst ex10; subst ex8; subst ex7; subst ex3; exact hki2.trans ((if_neg c5).trans ((if_neg c11).trans ((if_pos c12).trans (rfl))))⟩
        · refine g_iload_n dX7_nextThing_35 rfl ?_
          exact g_iret (ty := .int) dX7_nextThing_36 rfl rfl ⟨⟨⟨_, rfl, by first | trivial | lia | grind⟩, rfl⟩, ee_p (by subst ex10; subst ex8; subst ex7; subst ex3; exact hki2.trans ((if_neg c5).trans ((if_neg c11).trans ((if_neg c12).trans (rfl)))))⟩
  refine g_pick (lv' := [(0, .ref (uk_ad G 60)), (1, .int 0)]) [0, 1] rfl ?_
  exact L2_0 0 (by first | decide | lia | grind) (by first | decide | lia | grind)   ⟨ee_K, ee_F0 _ _, by exact rfl⟩
def l_X7_turns1_45 (x5 : Int32) (x8 : Int32) : Nat → Int32 → uk_Mem → Int32 × uk_Mem
  | 0, _, u46 => (0, u46)
  | K9 + 1, i45, u46 => let x48 : Int32 := x5 + (1 : Int32); if i45 ≤ x48 then (let x50 : Int32 := x5 + (1 : Int32); let x52 : Int32 := u46.1 65 x8.toNatClampNeg; let u55 : uk_Mem := uk_up u46 71 x50.toNatClampNeg x52; let x58 : Int32 := u55.1 60 22; let x59 : Int32 := x58 + (1 : Int32); let u60 : uk_Mem := uk_up u55 60 22 x59; let x63 : Int32 := (8 : Int32) + x8; let x64 : Int32 := (32 : Int32) + x8; let x66 : Int32 := u60.1 62 x64.toNatClampNeg; if x66 = (3 : Int32) then (let x76 : Int32 := (8 : Int32) + x8; let x78 : Int32 := u60.1 62 x76.toNatClampNeg; let x79 : Int32 := (1 : Int32) - x78; let u82 : uk_Mem := uk_up u60 62 x63.toNatClampNeg x79; ((1 : Int32), u82)) else (let x68 : Int32 := (8 : Int32) + x8; let x70 : Int32 := u60.1 62 x68.toNatClampNeg; let u73 : uk_Mem := uk_up u60 62 x63.toNatClampNeg x70; ((1 : Int32), u73))) else (let x85 : Int32 := i45 - (1 : Int32); let x87 : Int32 := u46.1 71 x85.toNatClampNeg; let u90 : uk_Mem := uk_up u46 71 i45.toNatClampNeg x87; l_X7_turns1_45 x5 x8 K9 (i45 - 1) u90)
def e_X7_turns1 (u : uk_Mem) : Int32 × uk_Mem := let x5 : Int32 := (e_X7_nextThing u); if x5 = (-4 : Int32) then (((0 : Int32), u)) else (let x8 : Int32 := u.1 71 x5.toNatClampNeg; let x10 : Int32 := u.1 64 x8.toNatClampNeg; let u13 : uk_Mem := uk_up u 71 x5.toNatClampNeg x10; let x19 : Int32 := (e_X7_givesSecond u13 x8); if x19 = 0 then (let x21 : Int32 := (8 : Int32) + x8; let x22 : Int32 := (32 : Int32) + x8; let x24 : Int32 := u13.1 62 x22.toNatClampNeg; if x24 = (3 : Int32) then (let x34 : Int32 := (8 : Int32) + x8; let x36 : Int32 := u13.1 62 x34.toNatClampNeg; let x37 : Int32 := (1 : Int32) - x36; let u40 : uk_Mem := uk_up u13 62 x21.toNatClampNeg x37; ((1 : Int32), u40)) else (let x26 : Int32 := (8 : Int32) + x8; let x28 : Int32 := u13.1 62 x26.toNatClampNeg; let u31 : uk_Mem := uk_up u13 62 x21.toNatClampNeg x28; ((1 : Int32), u31))) else (let x43 : Int32 := u13.1 60 22; l_X7_turns1_45 x5 x8 ee_K x43 u13))
abbrev qe_X7_turns1 (u : uk_Mem)  (r : Option Value) (u' : uk_Mem) : Prop := (q_X7_turns1 u r u') ∧ (r = some (.int (e_X7_turns1 u).1) ∧ u' = (e_X7_turns1 u).2)
set_option maxHeartbeats 4000000 in
set_option maxRecDepth 20000 in
theorem x_X7_turns1 {G : uk_D} (hs : uk_Sep G) {u : uk_Mem} (hu : iv u) (hri : ri u) (hra : ra u) (hrp : rp u)  (d : Nat) : uk_Meth G (d + 1) mX7_turns1 [.ref (uk_ad G 60)] u (qe_X7_turns1 u) := by
  refine uk_Meth.of hs (by decide) (Nat.le_of_ble_eq_true rfl) (fun X => ?_)
  have f0 : fk [60, 62, 71] [3, 7, 10, 11, 13, 14, 15, 16, 17, 18, 19, 28] u u := fk_rf
  have C71 : u.1 71 = u.1 71 := rfl
  obtain ⟨t1, Tt1⟩ : ∃ t, u.1 60 22 = t := ⟨_, rfl⟩
  refine g_aload_n dX7_turns1_0 rfl ?_
  refine cl_X7_210 (c := 60) (As := []) rfl (x_X7_nextThing (G := G) hs hu    (d)) rfl (by omega) rfl rfl (Nat.le_of_ble_eq_true rfl) dX7_turns1_1 (fun r2 u3 q4 => ?_)
  obtain ⟨q4, Eq4⟩ := q4
  obtain ⟨⟨x5, rfl, tx5⟩, mq4⟩ := q4
  rw [mq4]
  have ex5 : x5 = (e_X7_nextThing u) := ee_v Eq4
  refine g_istore_n dX7_turns1_4 (by decide) ?_
  refine g_pick (lv' := [(0, .ref (uk_ad G 60)), (1, .int x5)]) [0, 1] rfl ?_
  refine g_iload_n dX7_turns1_5 rfl ?_
  refine g_bipush (v := (-4)) dX7_turns1_6 (by decide) ?_
  refine g_icmp_ne (tgt := 13) dX7_turns1_8 (by decide) (fun c6 => ?_) (fun c6 => ?_)
  · have R22 : 0 ≤ u.1 60 22 ∧ u.1 60 22 ≤ 255 := iv_at hu 60 22 rfl
    obtain ⟨hx0, hx1, hx2⟩ := tx5.resolve_left (by assumption)
    refine g_aload_n dX7_turns1_13 rfl ?_
    refine f_X7_41 rfl rfl dX7_turns1_14 ?_
    refine g_iload_n dX7_turns1_17 rfl ?_
    have v7 : vp_in x5 256 := uk_vin 256 rfl (by first | decide | lia | grind) (by first | decide | lia | grind)
    refine g_iald rfl rfl v7 dX7_turns1_18 ?_
    refine g_topi (fun x8 ex8 => ?_)
    have bx8 := uk_cl v7
    have rx8 : 0 ≤ x8 ∧ x8 ≤ 7 := by rw [ex8]; exact iv_at hu _ _ (uk_pick1 _ (by omega))
    have px8 : x8 = (u.1 71) (x5 : Int32).toNatClampNeg := ex8.trans (congrFun C71 _)
    have hmx8 : x8 < u.1 60 3 := by rw [ex8]; exact hrp.1 _ (uk_cll (by lia) (by lia))
    have hkx8 := (hra x8 (by lia) hmx8 (by lia)).resolve_left (by rw [px8]; exact hx2)
    refine g_istore_n dX7_turns1_19 (by decide) ?_
    refine g_pick (lv' := [(0, .ref (uk_ad G 60)), (1, .int x5), (2, .int x8)]) [0, 1, 2] rfl ?_
    refine g_aload_n dX7_turns1_20 rfl ?_
    refine f_X7_41 rfl rfl dX7_turns1_21 ?_
    refine g_iload_n dX7_turns1_24 rfl ?_
    refine g_aload_n dX7_turns1_25 rfl ?_
    refine f_X7_20 rfl rfl dX7_turns1_26 ?_
    refine g_iload_n dX7_turns1_29 rfl ?_
    have v9 : vp_in x8 8 := uk_vin 8 rfl (by first | decide | lia | grind) (by first | decide | lia | grind)
    refine g_iald rfl rfl v9 dX7_turns1_30 ?_
    refine g_topi (fun x10 ex10 => ?_)
    have bx10 := uk_cl v9
    have rx10 : (-4) ≤ x10 ∧ x10 ≤ 7 := by rw [ex10]; exact iv_at hu _ _ (uk_pick1 _ (by omega))
    have hax10 : 0 ≤ x10 ∧ x10 < x8 := by rw [ex10]; exact ⟨hkx8.1, hkx8.2.1⟩
    have v11 : vp_in x5 256 := uk_vin 256 rfl (by first | decide | lia | grind) (by first | decide | lia | grind)
    have b12 := uk_cl v11
    refine g_iast rfl rfl v11 dX7_turns1_31 ?_
    refine g_mem (fun u13 eu13 => ?_)
    have hu13 : iv u13 := by rw [eu13]; exact iv_up hu (uk_pick1 _ (by omega)) (by first | lia | grind) (by first | lia | grind)
    have fu13 : fk [60, 62, 71] [3, 7, 10, 11, 13, 14, 15, 16, 17, 18, 19, 28] u u13 := by rw [eu13]; exact fk_up f0 (by decide) (fun q => absurd q (by decide))
    have riu13 : ri u13 := by rw [eu13]; exact ri_1 hri (by decide) (fun q => absurd q (by decide))
    have rau13 : ra u13 := by rw [eu13]; exact ra_1 hra (by decide) (fun q => absurd q (by decide))
    have T14 : u13.1 60 22 = t1 := by rw [eu13]; exact (congrFun (uk_up_oc (by decide)) _).trans Tt1
    have C15 : u13.1 71 = (upd (u.1 71) (x5 : Int32).toNatClampNeg x10) := by rw [eu13, uk_up_self, C71]
    refine g_aload_n dX7_turns1_32 rfl ?_
    refine g_iload_n dX7_turns1_33 rfl ?_
    refine cl_X7_153 (c := 60) (As := [.int x8]) rfl (x_X7_givesSecond (G := G) hs hu13  x8 (by first | trivial | decide | lia | grind) (by first | trivial | decide | lia | grind) (d)) rfl (by omega) rfl rfl (Nat.le_of_ble_eq_true rfl) dX7_turns1_34 (fun r16 u17 q18 => ?_)
    obtain ⟨q18, Eq18⟩ := q18
    obtain ⟨⟨x19, rfl, tx19, nx19, zx19⟩, mq18⟩ := q18
    rw [mq18]
    have ex19 : x19 = (e_X7_givesSecond u13 x8) := ee_v Eq18
    refine g_if_eq (tgt := 96) dX7_turns1_37 (by decide) (fun c20 => ?_) (fun c20 => ?_)
    · have zc20 := zx19 c20
      refine g_aload_n dX7_turns1_96 rfl ?_
      refine f_X7_13 rfl rfl dX7_turns1_97 ?_
      refine g_bipush (v := 8) dX7_turns1_100 (by decide) ?_
      refine g_iload_n dX7_turns1_102 rfl ?_
      refine g_iadd dX7_turns1_103 ?_
      refine g_topi (fun x21 ex21 => ?_)
      refine g_aload_n dX7_turns1_104 rfl ?_
      refine f_X7_13 rfl rfl dX7_turns1_105 ?_
      refine g_bipush (v := 32) dX7_turns1_108 (by decide) ?_
      refine g_iload_n dX7_turns1_110 rfl ?_
      refine g_iadd dX7_turns1_111 ?_
      refine g_topi (fun x22 ex22 => ?_)
      have v23 : vp_in x22 51 := uk_vin 51 rfl (by first | decide | lia | grind) (by first | decide | lia | grind)
      refine g_iald rfl rfl v23 dX7_turns1_112 ?_
      refine g_topi (fun x24 ex24 => ?_)
      have bx24 := uk_cl v23
      refine g_iconst (v := 3) dX7_turns1_113 (by decide) ?_
      refine g_icmp_ne (tgt := 131) dX7_turns1_114 (by decide) (fun c25 => ?_) (fun c25 => ?_)
      · refine g_aload_n dX7_turns1_131 rfl ?_
        refine f_X7_13 rfl rfl dX7_turns1_132 ?_
        refine g_bipush (v := 8) dX7_turns1_135 (by decide) ?_
        refine g_iload_n dX7_turns1_137 rfl ?_
        refine g_iadd dX7_turns1_138 ?_
        refine g_topi (fun x26 ex26 => ?_)
        have v27 : vp_in x26 51 := uk_vin 51 rfl (by first | decide | lia | grind) (by first | decide | lia | grind)
        refine g_iald rfl rfl v27 dX7_turns1_139 ?_
        refine g_topi (fun x28 ex28 => ?_)
        have bx28 := uk_cl v27
        have v29 : vp_in x21 51 := uk_vin 51 rfl (by first | decide | lia | grind) (by first | decide | lia | grind)
        have b30 := uk_cl v29
        refine g_iast rfl rfl v29 dX7_turns1_140 ?_
        refine g_mem (fun u31 eu31 => ?_)
        have hu31 : iv u31 := by rw [eu31]; exact iv_st hu13 (by unfold uk_is51; decide) (by first | decide | lia | grind) (by first | decide | lia | grind) (fun q => by first | decide | lia | grind) (fun q => by first | decide | lia | grind) (fun q => by first | decide | lia | grind)
        have fu31 : fk [60, 62, 71] [3, 7, 10, 11, 13, 14, 15, 16, 17, 18, 19, 28] u u31 := by rw [eu31]; exact fk_up fu13 (by decide) (fun q => absurd q (by decide))
        have riu31 : ri u31 := by rw [eu31]; exact ri_1 riu13 (by decide) (fun q => absurd q (by decide))
        have rau31 : ra u31 := by rw [eu31]; exact ra_at rau13 (by first | decide | lia | grind) (by first | decide | lia | grind)
        have T32 : u31.1 60 22 = t1 := by rw [eu31]; exact (congrFun (uk_up_oc (by decide)) _).trans T14
        have C33 : u31.1 71 = (upd (u.1 71) (x5 : Int32).toNatClampNeg x10) := by rw [eu31]; exact (uk_up_oc (by decide)).trans C15
        refine g_iconst (v := 1) dX7_turns1_141 (by decide) ?_
        exact g_iret (ty := .boolean) dX7_turns1_142 rfl rfl ⟨⟨⟨1, rfl, Or.inr rfl, fun _ => (tn_1 hrp (i := x5) (m := x8) (a := x10) (by lia) (by lia) ex8.symm hax10.1 hax10.2 C33 (T32.trans (by first | assumption | grind)) (fk_at fu31 (by decide))).2, fun q => absurd q (by decide)⟩, hu31, fu31, riu31, rau31, (tn_1 hrp (i := x5) (m := x8) (a := x10) (by lia) (by lia) ex8.symm hax10.1 hax10.2 C33 (T32.trans (by first | assumption | grind)) (fk_at fu31 (by decide))).1⟩, ee_i (by subst eu31; subst ex28; subst ex26; subst ex24; subst ex22; subst ex21; subst ex19; subst eu13; subst ex10; subst ex8; subst ex5; exact (if_neg c6).trans ((if_pos c20).trans ((if_neg c25).trans (rfl))))⟩
      · refine g_iconst (v := 1) dX7_turns1_117 (by decide) ?_
        refine g_aload_n dX7_turns1_118 rfl ?_
        refine f_X7_13 rfl rfl dX7_turns1_119 ?_
        refine g_bipush (v := 8) dX7_turns1_122 (by decide) ?_
        refine g_iload_n dX7_turns1_124 rfl ?_
        refine g_iadd dX7_turns1_125 ?_
        refine g_topi (fun x34 ex34 => ?_)
        have v35 : vp_in x34 51 := uk_vin 51 rfl (by first | decide | lia | grind) (by first | decide | lia | grind)
        refine g_iald rfl rfl v35 dX7_turns1_126 ?_
        refine g_topi (fun x36 ex36 => ?_)
        have bx36 := uk_cl v35
        refine g_isub dX7_turns1_127 ?_
        refine g_topi (fun x37 ex37 => ?_)
        refine g_goto (tgt := 140) dX7_turns1_128 (by decide) ?_
        have v38 : vp_in x21 51 := uk_vin 51 rfl (by first | decide | lia | grind) (by first | decide | lia | grind)
        have b39 := uk_cl v38
        refine g_iast rfl rfl v38 dX7_turns1_140 ?_
        refine g_mem (fun u40 eu40 => ?_)
        have hu40 : iv u40 := by rw [eu40]; exact iv_st hu13 (by unfold uk_is51; decide) (by first | decide | lia | grind) (by first | decide | lia | grind) (fun q => by first | decide | lia | grind) (fun q => by first | decide | lia | grind) (fun q => by first | decide | lia | grind)
        have fu40 : fk [60, 62, 71] [3, 7, 10, 11, 13, 14, 15, 16, 17, 18, 19, 28] u u40 := by rw [eu40]; exact fk_up fu13 (by decide) (fun q => absurd q (by decide))
        have riu40 : ri u40 := by rw [eu40]; exact ri_1 riu13 (by decide) (fun q => absurd q (by decide))
        have rau40 : ra u40 := by rw [eu40]; exact ra_at rau13 (by first | decide | lia | grind) (by first | decide | lia | grind)
        have T41 : u40.1 60 22 = t1 := by rw [eu40]; exact (congrFun (uk_up_oc (by decide)) _).trans T14
        have C42 : u40.1 71 = (upd (u.1 71) (x5 : Int32).toNatClampNeg x10) := by rw [eu40]; exact (uk_up_oc (by decide)).trans C15
        refine g_iconst (v := 1) dX7_turns1_141 (by decide) ?_
        exact g_iret (ty := .boolean) dX7_turns1_142 rfl rfl ⟨⟨⟨1, rfl, Or.inr rfl, fun _ => (tn_1 hrp (i := x5) (m := x8) (a := x10) (by lia) (by lia) ex8.symm hax10.1 hax10.2 C42 (T41.trans (by first | assumption | grind)) (fk_at fu40 (by decide))).2, fun q => absurd q (by decide)⟩, hu40, fu40, riu40, rau40, (tn_1 hrp (i := x5) (m := x8) (a := x10) (by lia) (by lia) ex8.symm hax10.1 hax10.2 C42 (T41.trans (by first | assumption | grind)) (fk_at fu40 (by decide))).1⟩, ee_i (by subst eu40; subst ex37; subst ex36; subst ex34; subst ex24; subst ex22; subst ex21; subst ex19; subst eu13; subst ex10; subst ex8; subst ex5; exact (if_neg c6).trans ((if_pos c20).trans ((if_pos c25).trans (rfl))))⟩
    · have zc20 := nx19 c20
      refine g_aload_n dX7_turns1_40 rfl ?_
      refine f_X7_207 rfl rfl dX7_turns1_41 ?_
      refine g_topi (fun x43 ex43 => ?_)
      have rx43 : 0 ≤ x43 ∧ x43 ≤ 255 := by rw [ex43]; exact iv_at hu13 _ _ rfl
      have qx43 : x43 = t1 := ex43.trans T14
      refine g_istore_n dX7_turns1_44 (by decide) ?_
      refine g_pick (lv' := [(0, .ref (uk_ad G 60)), (1, .int x5), (2, .int x8), (3, .int x43)]) [0, 1, 2, 3] rfl ?_
      have L45_43 : ∀ i45 : Int32, -1 ≤ i45 → ∀ (u46 : uk_Mem), iv u46 → fk [60, 62, 71] [3, 7, 10, 11, 13, 14, 15, 16, 17, 18, 19, 28] u u46 → ri u46 → ra u46 → i45 ≤ u.1 60 22 → x5 + 1 ≤ i45 → u46.1 71 = sh (upd (u.1 71) x5.toNatClampNeg x10) (u.1 60 22).toNatClampNeg i45.toNatClampNeg → u46.1 60 22 = u.1 60 22 → (∃ ki45 : Nat, ee_D i45 ki45 ∧ e_X7_turns1 u = l_X7_turns1_45 x5 x8 ki45 i45 u46) → uk_G G X mX7_turns1 (d + 1) (qe_X7_turns1 u) 45 [(0, .ref (uk_ad G 60)), (1, .int x5), (2, .int x8), (3, .int i45)] [] u46 := by
        refine uk_dnl ?_
        intro i45 ai45 ihi45  u46 hu46 fu46 riu46 rau46 ji450 ji451 ji452 ji453 jEi45
        obtain ⟨ki45, fki45, hki45⟩ := jEi45
        obtain ⟨ki45, rfl⟩ := ee_Dp (by first | assumption | lia | grind) fki45
        have C71_u46 : u46.1 71 = u46.1 71 := rfl
        obtain ⟨t47, Tt47⟩ : ∃ t, u46.1 60 22 = t := ⟨_, rfl⟩
        have Rt47 : 0 ≤ t47 ∧ t47 ≤ 255 := by rw [← Tt47]; exact iv_at hu46 _ _ rfl
        have wu46_60_3 : u46.1 60 3 = u.1 60 3 := fk_at fu46 (by decide)
        refine g_iload_n dX7_turns1_45 rfl ?_
        refine g_iload_n dX7_turns1_46 rfl ?_
        refine g_iconst (v := 1) dX7_turns1_47 (by decide) ?_
        refine g_iadd dX7_turns1_48 ?_
        refine g_topi (fun x48 ex48 => ?_)
        refine g_icmp_le (tgt := 72) dX7_turns1_49 (by decide) (fun c49 => ?_) (fun c49 => ?_)
        · have hc1 : i45 = x5 + 1 := by first | lia | grind
          refine g_aload_n dX7_turns1_72 rfl ?_
          refine f_X7_41 rfl rfl dX7_turns1_73 ?_
          refine g_iload_n dX7_turns1_76 rfl ?_
          refine g_iconst (v := 1) dX7_turns1_77 (by decide) ?_
          refine g_iadd dX7_turns1_78 ?_
          refine g_topi (fun x50 ex50 => ?_)
          refine g_aload_n dX7_turns1_79 rfl ?_
          refine f_X7_23 rfl rfl dX7_turns1_80 ?_
          refine g_iload_n dX7_turns1_83 rfl ?_
          have v51 : vp_in x8 8 := uk_vin 8 rfl (by first | decide | lia | grind) (by first | decide | lia | grind)
          refine g_iald rfl rfl v51 dX7_turns1_84 ?_
          refine g_topi (fun x52 ex52 => ?_)
          have bx52 := uk_cl v51
          have rx52 : (-4) ≤ x52 ∧ x52 ≤ 7 := by rw [ex52]; exact iv_at hu46 _ _ (uk_pick1 _ (by omega))
          have hbx52 : 0 ≤ x52 ∧ x52 < x8 := by rw [ex52, fk_c fu46 (by decide)]; exact ⟨hkx8.2.2.1, hkx8.2.2.2⟩
          have v53 : vp_in x50 256 := uk_vin 256 rfl (by first | decide | lia | grind) (by first | decide | lia | grind)
          have b54 := uk_cl v53
          refine g_iast rfl rfl v53 dX7_turns1_85 ?_
          refine g_mem (fun u55 eu55 => ?_)
          have hu55 : iv u55 := by rw [eu55]; exact iv_up hu46 (uk_pick1 _ (by omega)) (by first | lia | grind) (by first | lia | grind)
          have fu55 : fk [60, 62, 71] [3, 7, 10, 11, 13, 14, 15, 16, 17, 18, 19, 28] u u55 := by rw [eu55]; exact fk_up fu46 (by decide) (fun q => absurd q (by decide))
          have riu55 : ri u55 := by rw [eu55]; exact ri_1 riu46 (by decide) (fun q => absurd q (by decide))
          have rau55 : ra u55 := by rw [eu55]; exact ra_1 rau46 (by decide) (fun q => absurd q (by decide))
          have T56 : u55.1 60 22 = t47 := by rw [eu55]; exact (congrFun (uk_up_oc (by decide)) _).trans Tt47
          have C57 : u55.1 71 = (upd (u46.1 71) (x50 : Int32).toNatClampNeg x52) := by rw [eu55, uk_up_self, C71_u46]
          refine g_aload_n dX7_turns1_86 rfl ?_
          refine g_dup dX7_turns1_87 rfl ?_
          refine f_X7_207 rfl rfl dX7_turns1_88 ?_
          refine g_topi (fun x58 ex58 => ?_)
          have rx58 : 0 ≤ x58 ∧ x58 ≤ 255 := by rw [ex58]; exact iv_at hu55 _ _ rfl
          have qx58 : x58 = t47 := ex58.trans T56
          refine g_iconst (v := 1) dX7_turns1_91 (by decide) ?_
          refine g_iadd dX7_turns1_92 ?_
          refine g_topi (fun x59 ex59 => ?_)
          refine p_X7_207 rfl rfl dX7_turns1_93 ?_
          refine g_mem (fun u60 eu60 => ?_)
          have hu60 : iv u60 := by rw [eu60]; exact iv_up hu55 rfl (by have := tn_n hrp (i := x5) (m := x8) (a := x10) (b := x52) (by lia) (by lia) ex8.symm hax10.1 hax10.2 hbx52.1 hbx52.2; first | lia | grind) (by have := tn_n hrp (i := x5) (m := x8) (a := x10) (b := x52) (by lia) (by lia) ex8.symm hax10.1 hax10.2 hbx52.1 hbx52.2; first | lia | grind)
          have fu60 : fk [60, 62, 71] [3, 7, 10, 11, 13, 14, 15, 16, 17, 18, 19, 28] u u60 := by rw [eu60]; exact fk_up fu55 (by decide) (fun _ => by decide)
          have riu60 : ri u60 := by rw [eu60]; exact ri_1 riu55 (by decide) (fun _ => by decide)
          have rau60 : ra u60 := by rw [eu60]; exact ra_1 rau55 (by decide) (fun _ => by decide)
          have C61 : u60.1 71 = (upd (u46.1 71) (x50 : Int32).toNatClampNeg x52) := by rw [eu60]; exact (uk_up_oc (by decide)).trans C57
          have s62 : u60.1 60 22 = x59 := by rw [eu60, uk_up_at]; exact if_pos ⟨rfl, rfl⟩
          refine g_aload_n dX7_turns1_96 rfl ?_
          refine f_X7_13 rfl rfl dX7_turns1_97 ?_
          refine g_bipush (v := 8) dX7_turns1_100 (by decide) ?_
          refine g_iload_n dX7_turns1_102 rfl ?_
          refine g_iadd dX7_turns1_103 ?_
          refine g_topi (fun x63 ex63 => ?_)
          refine g_aload_n dX7_turns1_104 rfl ?_
          refine f_X7_13 rfl rfl dX7_turns1_105 ?_
          refine g_bipush (v := 32) dX7_turns1_108 (by decide) ?_
          refine g_iload_n dX7_turns1_110 rfl ?_
          refine g_iadd dX7_turns1_111 ?_
          refine g_topi (fun x64 ex64 => ?_)
          have v65 : vp_in x64 51 := uk_vin 51 rfl (by first | decide | lia | grind) (by first | decide | lia | grind)
          refine g_iald rfl rfl v65 dX7_turns1_112 ?_
          refine g_topi (fun x66 ex66 => ?_)
          have bx66 := uk_cl v65
          refine g_iconst (v := 3) dX7_turns1_113 (by decide) ?_
          refine g_icmp_ne (tgt := 131) dX7_turns1_114 (by decide) (fun c67 => ?_) (fun c67 => ?_)
          · refine g_aload_n dX7_turns1_131 rfl ?_
            refine f_X7_13 rfl rfl dX7_turns1_132 ?_
            refine g_bipush (v := 8) dX7_turns1_135 (by decide) ?_
            refine g_iload_n dX7_turns1_137 rfl ?_
            refine g_iadd dX7_turns1_138 ?_
            refine g_topi (fun x68 ex68 => ?_)
            have v69 : vp_in x68 51 := uk_vin 51 rfl (by first | decide | lia | grind) (by first | decide | lia | grind)
            refine g_iald rfl rfl v69 dX7_turns1_139 ?_
            refine g_topi (fun x70 ex70 => ?_)
            have bx70 := uk_cl v69
            have v71 : vp_in x63 51 := uk_vin 51 rfl (by first | decide | lia | grind) (by first | decide | lia | grind)
            have b72 := uk_cl v71
            refine g_iast rfl rfl v71 dX7_turns1_140 ?_
            refine g_mem (fun u73 eu73 => ?_)
            have hu73 : iv u73 := by rw [eu73]; exact iv_st hu60 (by unfold uk_is51; decide) (by first | decide | lia | grind) (by first | decide | lia | grind) (fun q => by first | decide | lia | grind) (fun q => by first | decide | lia | grind) (fun q => by first | decide | lia | grind)
            have fu73 : fk [60, 62, 71] [3, 7, 10, 11, 13, 14, 15, 16, 17, 18, 19, 28] u u73 := by rw [eu73]; exact fk_up fu60 (by decide) (fun q => absurd q (by decide))
            have riu73 : ri u73 := by rw [eu73]; exact ri_1 riu60 (by decide) (fun q => absurd q (by decide))
            have rau73 : ra u73 := by rw [eu73]; exact ra_at rau60 (by first | decide | lia | grind) (by first | decide | lia | grind)
            have T74 : u73.1 60 22 = x59 := by rw [eu73]; exact (congrFun (uk_up_oc (by decide)) _).trans s62
            have C75 : u73.1 71 = (upd (u46.1 71) (x50 : Int32).toNatClampNeg x52) := by rw [eu73]; exact (uk_up_oc (by decide)).trans C61
            refine g_iconst (v := 1) dX7_turns1_141 (by decide) ?_
            exact g_iret (ty := .boolean) dX7_turns1_142 rfl rfl ⟨⟨⟨1, rfl, Or.inr rfl, fun _ => (tn_2 hrp (i := x5) (m := x8) (a := x10) (b := x52) (by lia) (by lia) ex8.symm hax10.1 hax10.2 hbx52.1 hbx52.2 (C75.trans (by rw [ji452, hc1, ex50])) (T74.trans (by first | assumption | grind)) (fk_at fu73 (by decide))).2, fun q => absurd q (by decide)⟩, hu73, fu73, riu73, rau73, (tn_2 hrp (i := x5) (m := x8) (a := x10) (b := x52) (by lia) (by lia) ex8.symm hax10.1 hax10.2 hbx52.1 hbx52.2 (C75.trans (by rw [ji452, hc1, ex50])) (T74.trans (by first | assumption | grind)) (fk_at fu73 (by decide))).1⟩, ee_i (by subst eu73; subst ex70; subst ex68; subst ex66; subst ex64; subst ex63; subst eu60; subst ex59; subst ex58; subst eu55; subst ex52; subst ex50; subst ex48; exact hki45.trans ((if_pos c49).trans ((if_neg c67).trans (rfl))))⟩
          · refine g_iconst (v := 1) dX7_turns1_117 (by decide) ?_
            refine g_aload_n dX7_turns1_118 rfl ?_
            refine f_X7_13 rfl rfl dX7_turns1_119 ?_
            refine g_bipush (v := 8) dX7_turns1_122 (by decide) ?_
            refine g_iload_n dX7_turns1_124 rfl ?_
            refine g_iadd dX7_turns1_125 ?_
            refine g_topi (fun x76 ex76 => ?_)
            have v77 : vp_in x76 51 := uk_vin 51 rfl (by first | decide | lia | grind) (by first | decide | lia | grind)
            refine g_iald rfl rfl v77 dX7_turns1_126 ?_
            refine g_topi (fun x78 ex78 => ?_)
            have bx78 := uk_cl v77
            refine g_isub dX7_turns1_127 ?_
            refine g_topi (fun x79 ex79 => ?_)
            refine g_goto (tgt := 140) dX7_turns1_128 (by decide) ?_
            have v80 : vp_in x63 51 := uk_vin 51 rfl (by first | decide | lia | grind) (by first | decide | lia | grind)
            have b81 := uk_cl v80
            refine g_iast rfl rfl v80 dX7_turns1_140 ?_
            refine g_mem (fun u82 eu82 => ?_)
            have hu82 : iv u82 := by rw [eu82]; exact iv_st hu60 (by unfold uk_is51; decide) (by first | decide | lia | grind) (by first | decide | lia | grind) (fun q => by first | decide | lia | grind) (fun q => by first | decide | lia | grind) (fun q => by first | decide | lia | grind)
            have fu82 : fk [60, 62, 71] [3, 7, 10, 11, 13, 14, 15, 16, 17, 18, 19, 28] u u82 := by rw [eu82]; exact fk_up fu60 (by decide) (fun q => absurd q (by decide))
            have riu82 : ri u82 := by rw [eu82]; exact ri_1 riu60 (by decide) (fun q => absurd q (by decide))
            have rau82 : ra u82 := by rw [eu82]; exact ra_at rau60 (by first | decide | lia | grind) (by first | decide | lia | grind)
            have T83 : u82.1 60 22 = x59 := by rw [eu82]; exact (congrFun (uk_up_oc (by decide)) _).trans s62
            have C84 : u82.1 71 = (upd (u46.1 71) (x50 : Int32).toNatClampNeg x52) := by rw [eu82]; exact (uk_up_oc (by decide)).trans C61
            refine g_iconst (v := 1) dX7_turns1_141 (by decide) ?_
            exact g_iret (ty := .boolean) dX7_turns1_142 rfl rfl ⟨⟨⟨1, rfl, Or.inr rfl, fun _ => (tn_2 hrp (i := x5) (m := x8) (a := x10) (b := x52) (by lia) (by lia) ex8.symm hax10.1 hax10.2 hbx52.1 hbx52.2 (C84.trans (by rw [ji452, hc1, ex50])) (T83.trans (by first | assumption | grind)) (fk_at fu82 (by decide))).2, fun q => absurd q (by decide)⟩, hu82, fu82, riu82, rau82, (tn_2 hrp (i := x5) (m := x8) (a := x10) (b := x52) (by lia) (by lia) ex8.symm hax10.1 hax10.2 hbx52.1 hbx52.2 (C84.trans (by rw [ji452, hc1, ex50])) (T83.trans (by first | assumption | grind)) (fk_at fu82 (by decide))).1⟩, ee_i (by subst eu82; subst ex79; subst ex78; subst ex76; subst ex66; subst ex64; subst ex63; subst eu60; subst ex59; subst ex58; subst eu55; subst ex52; subst ex50; subst ex48; exact hki45.trans ((if_pos c49).trans ((if_pos c67).trans (rfl))))⟩
        · refine g_aload_n dX7_turns1_52 rfl ?_
          refine f_X7_41 rfl rfl dX7_turns1_53 ?_
          refine g_iload_n dX7_turns1_56 rfl ?_
          refine g_aload_n dX7_turns1_57 rfl ?_
          refine f_X7_41 rfl rfl dX7_turns1_58 ?_
          refine g_iload_n dX7_turns1_61 rfl ?_
          refine g_iconst (v := 1) dX7_turns1_62 (by decide) ?_
          refine g_isub dX7_turns1_63 ?_
          refine g_topi (fun x85 ex85 => ?_)
          have v86 : vp_in x85 256 := uk_vin 256 rfl (by first | decide | lia | grind) (by first | decide | lia | grind)
          refine g_iald rfl rfl v86 dX7_turns1_64 ?_
          refine g_topi (fun x87 ex87 => ?_)
          have bx87 := uk_cl v86
          have rx87 : 0 ≤ x87 ∧ x87 ≤ 7 := by rw [ex87]; exact iv_at hu46 _ _ (uk_pick1 _ (by omega))
          have px87 : x87 = (u46.1 71) (x85 : Int32).toNatClampNeg := ex87.trans (congrFun C71_u46 _)
          have v88 : vp_in i45 256 := uk_vin 256 rfl (by first | decide | lia | grind) (by first | decide | lia | grind)
          have b89 := uk_cl v88
          refine g_iast rfl rfl v88 dX7_turns1_65 ?_
          refine g_mem (fun u90 eu90 => ?_)
          have hu90 : iv u90 := by rw [eu90]; exact iv_up hu46 (uk_pick1 _ (by omega)) (by first | lia | grind) (by first | lia | grind)
          have fu90 : fk [60, 62, 71] [3, 7, 10, 11, 13, 14, 15, 16, 17, 18, 19, 28] u u90 := by rw [eu90]; exact fk_up fu46 (by decide) (fun q => absurd q (by decide))
          have riu90 : ri u90 := by rw [eu90]; exact ri_1 riu46 (by decide) (fun q => absurd q (by decide))
          have rau90 : ra u90 := by rw [eu90]; exact ra_1 rau46 (by decide) (fun q => absurd q (by decide))
          have T91 : u90.1 60 22 = t47 := by rw [eu90]; exact (congrFun (uk_up_oc (by decide)) _).trans Tt47
          have C92 : u90.1 71 = (upd (u46.1 71) (i45 : Int32).toNatClampNeg x87) := by rw [eu90, uk_up_self, C71_u46]
          refine g_iinc (v := i45 - 1) dX7_turns1_66 rfl (uk_m1 _) (by decide) ?_
          refine g_pick (lv' := [(0, .ref (uk_ad G 60)), (1, .int x5), (2, .int x8), (3, .int (i45 - 1))]) [0, 1, 2, 3] rfl ?_
          refine g_goto (tgt := 45) dX7_turns1_69 (by decide) ?_
          refine g_pick (lv' := [(0, .ref (uk_ad G 60)), (1, .int x5), (2, .int x8), (3, .int (i45 - 1))]) [0, 1, 2, 3] rfl ?_
          exact ihi45 (by first | lia | grind)  u90 hu90 fu90 riu90 rau90 (by first | lia | grind) (by first | lia | grind) (by rw [C92, px87, ex85, uk_s1 (by lia), ji452]; exact sh_s (by have := uk_cge 1 1 rfl (show (1 : Int32) ≤ i45 by lia); exact this) (uk_cmo (by lia) ji450)) (T91.trans (by first | assumption | grind)) ⟨ki45, ee_Ds fki45 (by first | assumption | lia | grind), by subst eu90; subst ex87; subst ex85; subst ex48; exact hki45.trans ((if_neg c49).trans (rfl))⟩
      refine g_pick (lv' := [(0, .ref (uk_ad G 60)), (1, .int x5), (2, .int x8), (3, .int x43)]) [0, 1, 2, 3] rfl ?_
      exact L45_43 x43 (by first | decide | lia | grind)  u13 hu13 fu13 riu13 rau13 (by first | lia | grind) (by first | lia | grind) (C15.trans (by rw [show x43 = u.1 60 22 by first | assumption | grind]; exact (sh_0 _ _).symm)) (T14.trans (by first | assumption | grind)) ⟨ee_K, ee_D0 _, by subst ex43; subst ex19; subst eu13; subst ex10; subst ex8; subst ex5; exact (if_neg c6).trans ((if_neg c20).trans (rfl))⟩
  · refine g_iconst (v := 0) dX7_turns1_11 (by decide) ?_
    exact g_iret (ty := .boolean) dX7_turns1_12 rfl rfl ⟨⟨⟨0, rfl, Or.inl rfl, fun q => absurd rfl q, fun _ => by first | trivial | lia | grind⟩, hu, f0, hri, hra, hrp⟩, ee_i (by subst ex5; exact (if_pos c6).trans (rfl))⟩
def l_X7_mills_7 (n : Int32) : Nat → Int32 → uk_Mem → Int32 × uk_Mem
  | 0, _, u6 => (0, u6)
  | K9 + 1, i5, u6 => if n ≤ i5 then ((i5, u6)) else (let x11 : Int32 := (e_X7_turns1 u6).1; let u9 : uk_Mem := (e_X7_turns1 u6).2; if x11 = 0 then ((i5, u9)) else (l_X7_mills_7 n K9 (i5 + 1) u9))
def e_X7_mills (u : uk_Mem) (m : Int32) (n : Int32) : Int32 × uk_Mem := let u2 : uk_Mem := e_X7_lays u m; l_X7_mills_7 n ee_K (0 : Int32) u2
abbrev qe_X7_mills (u : uk_Mem) (m : Int32) (n : Int32) (r : Option Value) (u' : uk_Mem) : Prop := (q_X7_mills u m n r u') ∧ (r = some (.int (e_X7_mills u m n).1) ∧ u' = (e_X7_mills u m n).2)
set_option maxHeartbeats 4000000 in
set_option maxRecDepth 20000 in
theorem x_X7_mills {G : uk_D} (hs : uk_Sep G) {u : uk_Mem} (hu : iv u) (hri : ri u) (m : Int32) (n : Int32) (p0 : 0 ≤ m) (p1 : m < u.1 60 3) (p2 : m ≤ 7) (p3 : n ≤ 128) (d : Nat) : uk_Meth G (d + 2) mX7_mills [.ref (uk_ad G 60), .int m, .int n] u (qe_X7_mills u m n) := by
  refine uk_Meth.of hs (by decide) (Nat.le_of_ble_eq_true rfl) (fun X => ?_)
  have f0 : fk [60, 62, 71] [3, 7, 10, 11, 13, 14, 15, 16, 17, 18, 19, 28] u u := fk_rf
  refine g_iconst (v := 0) dX7_mills_0 (by decide) ?_
  refine g_istore_n dX7_mills_1 (by decide) ?_
  refine g_pick (lv' := [(0, .ref (uk_ad G 60)), (1, .int m), (2, .int n), (3, .int 0)]) [0, 1, 2, 3] rfl ?_
  refine g_aload_n dX7_mills_2 rfl ?_
  refine g_iload_n dX7_mills_3 rfl ?_
  refine cl_X7_213 (c := 60) (As := [.int m]) rfl (x_X7_lays (G := G) hs hu hri  m (by first | trivial | decide | lia | grind) (by first | trivial | decide | lia | grind) (by first | trivial | decide | lia | grind) (d)) rfl (by omega) rfl rfl (Nat.le_of_ble_eq_true rfl) dX7_mills_4 (fun r1 u2 q3 => ?_)
  obtain ⟨q3, Eq3⟩ := q3
  obtain ⟨rfl, mq3⟩ := q3
  obtain ⟨hu2, gu2, riu2, rau2, rpu2⟩ := mq3
  have fu2 : fk [60, 62, 71] [3, 7, 10, 11, 13, 14, 15, 16, 17, 18, 19, 28] u u2 := fk_tr f0 gu2 (by decide) (by decide)
  have wu2_60_3 : u2.1 60 3 = u.1 60 3 := fk_at gu2 (by decide)
  have eu2 : u2 = e_X7_lays u m := Eq3
  have L7_3 : ∀ i5 : Int32, 0 ≤ i5 → i5 ≤ 128 → ∀ (u6 : uk_Mem), iv u6 → fk [60, 62, 71] [3, 7, 10, 11, 13, 14, 15, 16, 17, 18, 19, 28] u u6 → ri u6 → ra u6 → rp u6 → (∃ ki5 : Nat, ee_F 128 i5 ki5 ∧ e_X7_mills u m n = l_X7_mills_7 n ki5 i5 u6) → uk_G G X mX7_mills (d + 2) (qe_X7_mills u m n) 7 [(0, .ref (uk_ad G 60)), (1, .int m), (2, .int n), (3, .int i5)] [] u6 := by
    refine uk_upl 128 ?_
    intro i5 ai5 bi5 ihi5  u6 hu6 fu6 riu6 rau6 rpu6 jEi5
    obtain ⟨ki5, fki5, hki5⟩ := jEi5
    obtain ⟨ki5, rfl⟩ := ee_Fp (by first | assumption | lia | grind) fki5
    have wu6_60_3 : u6.1 60 3 = u.1 60 3 := fk_at fu6 (by decide)
    refine g_iload_n dX7_mills_7 rfl ?_
    refine g_iload_n dX7_mills_8 rfl ?_
    refine g_icmp_ge (tgt := 25) dX7_mills_9 (by decide) (fun c7 => ?_) (fun c7 => ?_)
    · refine g_iload_n dX7_mills_25 rfl ?_
      exact g_iret (ty := .int) dX7_mills_26 rfl rfl ⟨⟨⟨_, rfl, by first | trivial | lia | grind⟩, hu6, fu6, riu6, rau6, rpu6⟩, ee_i (by exact hki5.trans ((if_pos c7).trans (rfl)))⟩
    · refine g_aload_n dX7_mills_12 rfl ?_
      refine cl_X7_216 (c := 60) (As := []) rfl (x_X7_turns1 (G := G) hs hu6 riu6 rau6 rpu6    (d)) rfl (by omega) rfl rfl (Nat.le_of_ble_eq_true rfl) dX7_mills_13 (fun r8 u9 q10 => ?_)
      obtain ⟨q10, Eq10⟩ := q10
      obtain ⟨⟨x11, rfl, tx11, nx11, zx11⟩, mq10⟩ := q10
      obtain ⟨hu9, gu9, riu9, rau9, rpu9⟩ := mq10
      have fu9 : fk [60, 62, 71] [3, 7, 10, 11, 13, 14, 15, 16, 17, 18, 19, 28] u u9 := fk_tr fu6 gu9 (by decide) (by decide)
      have wu9_60_3 : u9.1 60 3 = u6.1 60 3 := fk_at gu9 (by decide)
      have ex11 : x11 = (e_X7_turns1 u6).1 := ee_v Eq10.1
      have eu9 : u9 = (e_X7_turns1 u6).2 := Eq10.2
      refine g_if_eq (tgt := 25) dX7_mills_16 (by decide) (fun c12 => ?_) (fun c12 => ?_)
      · have zc12 := zx11 c12
        refine g_iload_n dX7_mills_25 rfl ?_
        exact g_iret (ty := .int) dX7_mills_26 rfl rfl ⟨⟨⟨_, rfl, by first | trivial | lia | grind⟩, hu9, fu9, riu9, rau9, rpu9⟩, ee_i (by subst eu9; subst ex11; exact hki5.trans ((if_neg c7).trans ((if_pos c12).trans (rfl))))⟩
      · have zc12 := nx11 c12
        refine g_iinc (v := i5 + 1) dX7_mills_19 rfl rfl (by decide) ?_
        refine g_pick (lv' := [(0, .ref (uk_ad G 60)), (1, .int m), (2, .int n), (3, .int (i5 + 1))]) [0, 1, 2, 3] rfl ?_
        refine g_goto (tgt := 7) dX7_mills_22 (by decide) ?_
        refine g_pick (lv' := [(0, .ref (uk_ad G 60)), (1, .int m), (2, .int n), (3, .int (i5 + 1))]) [0, 1, 2, 3] rfl ?_
        exact ihi5 (by first | lia | grind)  u9 hu9 fu9 riu9 rau9 rpu9  ⟨ki5, ee_Fs fki5 (by first | assumption | lia | grind), by subst eu9; subst ex11; exact hki5.trans ((if_neg c7).trans ((if_neg c12).trans (rfl)))⟩
  refine g_pick (lv' := [(0, .ref (uk_ad G 60)), (1, .int m), (2, .int n), (3, .int 0)]) [0, 1, 2, 3] rfl ?_
  exact L7_3 0 (by first | decide | lia | grind) (by first | decide | lia | grind)  u2 hu2 fu2 riu2 rau2 rpu2  ⟨ee_K, ee_F0 _ _, by subst eu2; exact rfl⟩
noncomputable def h_X7_mills (u : uk_Mem) (m : Int32) : Int32 × uk_Mem := Classical.choose (⟨_, rfl⟩ : ∃ p, p = e_X7_mills u m 128)
theorem h_X7_mills_eq (u : uk_Mem) (m : Int32) : h_X7_mills u m = e_X7_mills u m 128 := Classical.choose_spec (⟨_, rfl⟩ : ∃ p, p = e_X7_mills u m 128)
theorem x_X7_mills_h {G : uk_D} (hs : uk_Sep G) {u : uk_Mem} (hu : iv u) (hri : ri u) (m : Int32) (p0 : 0 ≤ m) (p1 : m < u.1 60 3) (p2 : m ≤ 7) (p3 : (128 : Int32) ≤ 128) (d : Nat) : uk_Meth G (d + 2) mX7_mills [.ref (uk_ad G 60), .int m, .int 128] u (fun r u' => q_X7_mills u m 128 r u' ∧ (r = some (.int (h_X7_mills u m).1) ∧ u' = (h_X7_mills u m).2)) := by
  rw [h_X7_mills_eq]
  exact x_X7_mills hs hu hri m 128 p0 p1 p2 p3 d
/-! the mill: lists of things, what lies (D), what waits (W, the first one first) -/
def po2 : List Nat → Nat
  | [] => 0
  | x :: l => 2 ^ x + po2 l
def pof : List Nat → Nat
  | [] => 0
  | x :: l => (2 ^ x - 1) + pof l
theorem po2_app (a b : List Nat) : po2 (a ++ b) = po2 a + po2 b := by
  induction a with
  | nil => simp [po2]
  | cons x a ih => simp only [List.cons_append, po2, ih]; omega
theorem po2_len (l : List Nat) : l.length ≤ po2 l := by
  induction l with
  | nil => simp [po2]
  | cons x l ih =>
    have := Nat.two_pow_pos x
    simp only [List.length_cons, po2]
    omega
theorem pow_ab {a b x : Nat} (ha : a < x) (hb : b < x) : 2 ^ a + 2 ^ b ≤ 2 ^ x := by
  have h1 : 2 ^ a ≤ 2 ^ (x - 1) := Nat.pow_le_pow_right (by omega) (by omega)
  have h2 : 2 ^ b ≤ 2 ^ (x - 1) := Nat.pow_le_pow_right (by omega) (by omega)
  have h3 : 2 ^ x = 2 ^ (x - 1) * 2 := by rw [← Nat.pow_succ, Nat.succ_eq_add_one, Nat.sub_add_cancel (by omega)]
  omega
theorem pow_a {a x : Nat} (ha : a < x) : 2 ^ a + 1 ≤ 2 ^ x := by
  have h1 : 2 ^ a ≤ 2 ^ (x - 1) := Nat.pow_le_pow_right (by omega) (by omega)
  have h3 : 2 ^ x = 2 ^ (x - 1) * 2 := by rw [← Nat.pow_succ, Nat.succ_eq_add_one, Nat.sub_add_cancel (by omega)]
  have := Nat.two_pow_pos (x - 1)
  omega
def MK (N : Nat) (kd : Nat → Int32) (pA pB : Nat → Nat) : Prop := N ≤ 8 ∧ ∀ x, x < N → kd x = 4 ∨ (pA x < x ∧ pB x < x)
abbrev un (kd : Nat → Int32) (x : Nat) : Prop := kd x = 4 ∨ kd x = 2
abbrev gv (kd h : Nat → Int32) (x : Nat) : Prop := kd x = 0 ∨ (kd x = 3 ∧ h x = 1)
def fl (kd h : Nat → Int32) (x : Nat) : Nat → Int32 := fun j => if j = x ∧ kd x = 3 then 1 - h x else h j
def pas (kd : Nat → Int32) (pA pB : Nat → Nat) (h : Nat → Int32) (x : Nat) : List Nat := if gv kd h x then [pA x, pB x] else [pA x]
/-- how deep it can wait -/
def SK (W : List Nat) : Prop := ∀ i, i < W.length → W.getD i 0 + (W.length - i) ≤ (if i = 0 then 8 else 7)
theorem SK_len {W : List Nat} (h : SK W) : W.length ≤ 8 := by
  rcases Nat.eq_zero_or_pos W.length with z | z
  · omega
  · have := h 0 z
    rw [if_pos rfl] at this
    omega
theorem SK_tl {x : Nat} {W : List Nat} (h : SK (x :: W)) : SK W := fun i hi => by
  have := h (i + 1) (by simp only [List.length_cons]; omega)
  rw [List.getD_cons_succ, List.length_cons, if_neg (by omega)] at this
  split <;> omega
theorem SK_1 {a x : Nat} {W : List Nat} (h : SK (x :: W)) (ha : a < x) : SK (a :: W) := fun i hi => by
  rw [List.length_cons] at hi ⊢
  have := h i (by simp only [List.length_cons]; omega)
  rw [List.length_cons] at this
  rcases i with _ | i
  · rw [List.getD_cons_zero] at this ⊢
    rw [if_pos rfl] at this ⊢
    omega
  · rw [List.getD_cons_succ] at this ⊢
    rw [if_neg (by omega)] at this ⊢
    exact this
theorem SK_2 {a b x : Nat} {W : List Nat} (h : SK (x :: W)) (ha : a < x) (hb : b < x) : SK (a :: b :: W) := fun i hi => by
  have h0 := h 0 (by simp only [List.length_cons]; omega)
  rw [List.getD_cons_zero, if_pos rfl, List.length_cons] at h0
  simp only [List.length_cons] at hi ⊢
  rcases i with _ | i
  · rw [List.getD_cons_zero, if_pos rfl]
    omega
  · rw [List.getD_cons_succ, if_neg (by omega)]
    rcases i with _ | i
    · rw [List.getD_cons_zero]
      omega
    · rw [List.getD_cons_succ]
      have := h (i + 1) (by simp only [List.length_cons]; omega)
      rw [List.getD_cons_succ, List.length_cons, if_neg (by omega)] at this
      omega
/-- a good state of the mill -/
def GD (N : Nat) (kd : Nat → Int32) (D W : List Nat) (t : Nat) : Prop := (∀ y, y ∈ D ++ W → y < N) ∧ (∀ y, y ∈ D → un kd y) ∧ po2 (D ++ W) ≤ 128 ∧ t + pof W ≤ 127 ∧ SK W
theorem GD_lie {N : Nat} {kd : Nat → Int32} {D W : List Nat} {x t : Nat} (g : GD N kd D (x :: W) t) (hu : un kd x) : GD N kd (D ++ [x]) W t := by
  obtain ⟨g1, g2, g3, g4, g5⟩ := g
  refine ⟨fun y hy => g1 y (by simpa [List.append_assoc] using hy), fun y hy => ?_, ?_, ?_, SK_tl g5⟩
  · rcases List.mem_append.mp hy with q | q
    · exact g2 y q
    · rw [List.mem_singleton.mp q]
      exact hu
  · rw [List.append_assoc]
    exact g3
  · simp only [pof] at g4
    omega
theorem GD_turn {N : Nat} {kd : Nat → Int32} {pA pB : Nat → Nat} {h : Nat → Int32} {D W : List Nat} {x t : Nat} (mk : MK N kd pA pB) (g : GD N kd D (x :: W) t) (hu : ¬ un kd x) : GD N kd D (pas kd pA pB h x ++ W) (t + 1) := by
  obtain ⟨g1, g2, g3, g4, g5⟩ := g
  have hx : x < N := g1 x (by simp)
  obtain ⟨ha, hb⟩ := (mk.2 x hx).resolve_left (fun z => hu (Or.inl z))
  have p1 := pow_a ha
  have p2 := pow_ab ha hb
  have q1 := Nat.two_pow_pos (pA x)
  have q2 := Nat.two_pow_pos (pB x)
  rw [po2_app, po2] at g3
  simp only [pof] at g4
  unfold pas
  by_cases z : gv kd h x
  · rw [if_pos z]
    refine ⟨fun y hy => ?_, g2, ?_, ?_, SK_2 g5 ha hb⟩
    · simp only [List.cons_append, List.nil_append, List.mem_append, List.mem_cons] at hy
      rcases hy with q | rfl | rfl | q
      · exact g1 y (by simp [q])
      · omega
      · omega
      · exact g1 y (by simp [q])
    · simp only [List.cons_append, List.nil_append]
      rw [po2_app, po2, po2]
      omega
    · simp only [List.cons_append, List.nil_append, pof]
      omega
  · rw [if_neg z]
    refine ⟨fun y hy => ?_, g2, ?_, ?_, SK_1 g5 ha⟩
    · simp only [List.cons_append, List.nil_append, List.mem_append, List.mem_cons] at hy
      rcases hy with q | rfl | q
      · exact g1 y (by simp [q])
      · omega
      · exact g1 y (by simp [q])
    · simp only [List.cons_append, List.nil_append]
      rw [po2_app, po2]
      omega
    · simp only [List.cons_append, List.nil_append, pof]
      omega
theorem GD_len {N : Nat} {kd : Nat → Int32} {D W : List Nat} {t : Nat} (g : GD N kd D W t) : D.length + W.length ≤ 128 := by
  have := po2_len (D ++ W)
  rw [List.length_append] at this
  exact Nat.le_trans this g.2.2.1
/-- where no turn is left but what lies at 0 waits -/
theorem GD_0 {N : Nat} {kd : Nat → Int32} {pA pB : Nat → Nat} {D W : List Nat} {t : Nat} (mk : MK N kd pA pB) (g : GD N kd D W t) (ht : 127 ≤ t) : ∀ y, y ∈ D ++ W → un kd y := by
  intro y hy
  rcases List.mem_append.mp hy with q | q
  · exact g.2.1 y q
  · have hz : pof W = 0 := by have := g.2.2.2.1; omega
    have key : ∀ l : List Nat, pof l = 0 → ∀ y, y ∈ l → y = 0 := by
      intro l
      induction l with
      | nil => intro _ y hy; simp at hy
      | cons a l ih =>
        intro hl y hy
        simp only [pof] at hl
        rcases List.mem_cons.mp hy with rfl | hy
        · rcases Nat.eq_zero_or_pos y with z | z
          · exact z
          · have := pow_a (a := 0) z
            omega
        · exact ih (by omega) y hy
    have := key W hz y q
    subst this
    rcases mk.2 0 (g.1 0 hy) with z | z
    · exact Or.inl z
    · omega
/-! the class's side -/
def CK (u : uk_Mem) (N : Nat) (kd : Nat → Int32) (pA pB : Nat → Nat) : Prop := ∀ x, x < N → u.1 14 x = kd x ∧ (¬ kd x = 4 → u.1 15 x = nI (pA x) ∧ u.1 16 x = nI (pB x))
def MLs (u : uk_Mem) (D W : List Nat) (h : Nat → Int32) (t : Nat) : Prop := u.1 41 1 = nI D.length ∧ (∀ i, i < D.length → u.1 42 i = nI (D.getD i 0)) ∧ u.1 41 6 = nI W.length ∧ (∀ i, i < W.length → u.1 45 (W.length - 1 - i) = nI (W.getD i 0)) ∧ u.1 41 2 = nI t ∧ ∀ j, j < 8 → u.1 44 j = h j
theorem CK_cg {u u' : uk_Mem} {N : Nat} {kd : Nat → Int32} {pA pB : Nat → Nat} (h : CK u N kd pA pB) (e4 : u'.1 14 = u.1 14) (e5 : u'.1 15 = u.1 15) (e6 : u'.1 16 = u.1 16) : CK u' N kd pA pB := fun x hx => by
  rw [e4, e5, e6]
  exact h x hx
theorem tw_e {u : uk_Mem} {D W : List Nat} {h : Nat → Int32} {x t : Nat} (m : MLs u D (x :: W) h t) (hl : W.length ≤ 100) : (e_X1_takeWaiting u).1 = nI x ∧ MLs (e_X1_takeWaiting u).2 D W h t ∧ (∀ c, ¬ c = 41 → (e_X1_takeWaiting u).2.1 c = u.1 c) := by
  obtain ⟨m1, m2, m3, m4, m5, m6⟩ := m
  have e3 : u.1 41 6 - 1 = nI W.length := by rw [m3, List.length_cons]; exact nI_pred _
  have hc : (nI W.length).toNatClampNeg = W.length := nI_clamp (by omega)
  unfold e_X1_takeWaiting
  dsimp only
  have e6 : (uk_up u 41 6 (nI W.length)).1 41 6 = nI W.length := by rw [uk_up_at, if_pos ⟨rfl, rfl⟩]
  rw [e3, e6, hc]
  refine ⟨?_, ⟨?_, ?_, ?_, ?_, ?_, ?_⟩, fun c hc => uk_up_oc hc⟩
  · rw [uk_up_oc (by decide)]
    have := m4 0 (by simp)
    rw [List.getD_cons_zero, List.length_cons, show W.length + 1 - 1 - 0 = W.length by omega] at this
    exact this
  · rw [uk_up_at, if_neg (by decide)]
    exact m1
  · rw [uk_up_oc (by decide)]
    exact m2
  · rw [uk_up_at, if_pos ⟨rfl, rfl⟩]
  · intro i hi
    rw [uk_up_oc (by decide)]
    have := m4 (i + 1) (by simp only [List.length_cons]; omega)
    rw [List.getD_cons_succ, List.length_cons, show W.length + 1 - 1 - (i + 1) = W.length - 1 - i by omega] at this
    exact this
  · rw [uk_up_at, if_neg (by decide)]
    exact m5
  · rw [uk_up_oc (by decide)]
    exact m6
theorem getD_app1 {D : List Nat} {x i : Nat} (hi : i < D.length + 1) : (D ++ [x]).getD i 0 = if i = D.length then x else D.getD i 0 := by
  by_cases e : i = D.length
  · rw [if_pos e, List.getD_eq_getElem?_getD, List.getElem?_append_right (by omega), e]
    simp
  · rw [if_neg e, List.getD_eq_getElem?_getD, List.getD_eq_getElem?_getD, List.getElem?_append_left (by omega)]
theorem ld_e {u : uk_Mem} {D W : List Nat} {h : Nat → Int32} {x t : Nat} (m : MLs u D W h t) (hl : D.length < 128) : MLs (e_X1_lieDown u (nI x)) (D ++ [x]) W h t ∧ (∀ c, ¬ c = 41 → ¬ c = 42 → (e_X1_lieDown u (nI x)).1 c = u.1 c) := by
  obtain ⟨m1, m2, m3, m4, m5, m6⟩ := m
  have hc : (nI D.length).toNatClampNeg = D.length := nI_clamp (by omega)
  have hg : ¬ (128 : Int32) ≤ nI D.length := by
    rw [show (128 : Int32) = nI 128 from rfl, nI_leI (by omega) (by omega)]
    omega
  unfold e_X1_lieDown
  dsimp only
  rw [m1, if_neg hg, hc]
  have e41 : (uk_up u 42 D.length (nI x)).1 41 1 = nI D.length := by rw [uk_up_oc (by decide)]; exact m1
  rw [e41]
  refine ⟨⟨?_, ?_, ?_, ?_, ?_, ?_⟩, fun c h1 h2 => by rw [uk_up_oc h1, uk_up_oc h2]⟩
  · rw [uk_up_at, if_pos ⟨rfl, rfl⟩, List.length_append]
    exact nI_1 _
  · intro i hi
    rw [List.length_append, List.length_singleton] at hi
    rw [uk_up_oc (by decide), uk_up_at, getD_app1 hi]
    by_cases e : i = D.length
    · rw [if_pos ⟨rfl, e⟩, if_pos e]
    · rw [if_neg (fun z => e z.2), if_neg e]
      exact m2 i (by omega)
  · rw [uk_up_at, if_neg (by decide), uk_up_oc (by decide)]
    exact m3
  · rw [uk_up_oc (by decide), uk_up_oc (by decide)]
    exact m4
  · rw [uk_up_at, if_neg (by decide), uk_up_oc (by decide)]
    exact m5
  · rw [uk_up_oc (by decide), uk_up_oc (by decide)]
    exact m6
/-- when a thing came first -/
def ftu (f : Nat → Int32) (x t : Nat) : Nat → Int32 := fun j => if j = x ∧ f x = -4 then nI t else f j
theorem pw_e {u : uk_Mem} {D W : List Nat} {h : Nat → Int32} {x t : Nat} (m : MLs u D W h t) (hl : W.length < 9) (hx : x < 8) : MLs (e_X1_putWaiting u (nI x)) D (x :: W) h t ∧ (∀ c, ¬ c = 41 → ¬ c = 43 → ¬ c = 45 → (e_X1_putWaiting u (nI x)).1 c = u.1 c) ∧ (e_X1_putWaiting u (nI x)).1 43 = ftu (u.1 43) x t := by
  obtain ⟨m1, m2, m3, m4, m5, m6⟩ := m
  have hc : (nI W.length).toNatClampNeg = W.length := nI_clamp (by omega)
  have hcx : (nI x).toNatClampNeg = x := nI_clamp (by omega)
  have hg : ¬ (9 : Int32) ≤ nI W.length := by
    rw [show (9 : Int32) = nI 9 from rfl, nI_leI (by omega) (by omega)]
    omega
  unfold e_X1_putWaiting
  dsimp only
  rw [m3, if_neg hg, hc, hcx]
  have e6 : (uk_up u 45 W.length (nI x)).1 41 6 = nI W.length := by rw [uk_up_oc (by decide)]; exact m3
  rw [e6, nI_1]
  generalize hw : uk_up (uk_up u 45 W.length (nI x)) 41 6 (nI (W.length + 1)) = w
  have w43 : w.1 43 = u.1 43 := by rw [← hw, uk_up_oc (by decide), uk_up_oc (by decide)]
  have w2 : w.1 41 2 = nI t := by rw [← hw, uk_up_at, if_neg (by decide), uk_up_oc (by decide)]; exact m5
  have wo : ∀ c, ¬ c = 41 → ¬ c = 45 → w.1 c = u.1 c := fun c h1 h2 => by rw [← hw, uk_up_oc h1, uk_up_oc h2]
  have wm : MLs w D (x :: W) h t := by
    refine ⟨?_, ?_, ?_, ?_, w2, ?_⟩
    · rw [← hw, uk_up_at, if_neg (by decide), uk_up_oc (by decide)]
      exact m1
    · rw [wo 42 (by decide) (by decide)]
      exact m2
    · rw [← hw, uk_up_at, if_pos ⟨rfl, rfl⟩, List.length_cons]
    · intro i hi
      rw [List.length_cons] at hi ⊢
      rw [← hw, uk_up_oc (by decide), uk_up_at]
      rcases i with _ | i
      · rw [if_pos ⟨rfl, by omega⟩, List.getD_cons_zero]
      · rw [if_neg (by omega), List.getD_cons_succ, show W.length + 1 - 1 - (i + 1) = W.length - 1 - i by omega]
        exact m4 i (by omega)
    · rw [wo 44 (by decide) (by decide)]
      exact m6
  rw [w43, w2]
  by_cases q : u.1 43 x = -4
  · rw [if_pos q]
    refine ⟨?_, fun c h1 h2 h3 => by rw [uk_up_oc h2, wo c h1 h3], ?_⟩
    · obtain ⟨a1, a2, a3, a4, a5, a6⟩ := wm
      exact ⟨by rw [uk_up_oc (by decide)]; exact a1, by rw [uk_up_oc (by decide)]; exact a2, by rw [uk_up_oc (by decide)]; exact a3, by rw [uk_up_oc (by decide)]; exact a4, by rw [uk_up_oc (by decide)]; exact a5, by rw [uk_up_oc (by decide)]; exact a6⟩
    · funext j
      rw [uk_up_at, w43]
      unfold ftu
      by_cases e : j = x
      · rw [if_pos ⟨rfl, e⟩, if_pos ⟨e, q⟩]
      · rw [if_neg (fun z => e z.2), if_neg (fun z => e z.1)]
  · rw [if_neg q]
    refine ⟨wm, fun c h1 h2 h3 => wo c h1 h3, ?_⟩
    funext j
    rw [w43]
    unfold ftu
    rw [if_neg (fun z => q z.2)]
/-- the first turns of all things, when these have come -/
def ftl (f : Nat → Int32) : List Nat → Nat → Nat → Int32
  | [], _ => f
  | x :: l, t => ftu (ftl f l t) x t
theorem gb_e {u : uk_Mem} {kd h : Nat → Int32} {x : Nat} : (e_X0_givesB u (kd x) (h x) = 0) ↔ ¬ gv kd h x := by
  unfold e_X0_givesB gv
  by_cases a : kd x = 0
  · simp [a]
  · by_cases b : kd x = 3
    · by_cases c : h x = 1
      · simp [a, b, c]
      · simp [a, b, c]
    · simp [a, b]
theorem pt_e {u : uk_Mem} {N : Nat} {kd : Nat → Int32} {pA pB : Nat → Nat} {D W : List Nat} {h : Nat → Int32} {x t : Nat} (mk : MK N kd pA pB) (ck : CK u N kd pA pB) (m : MLs u D W h t) (hx : x < N) (hu : ¬ un kd x) (hl : W.length ≤ 7) : MLs (e_X1_part u (nI x) (kd x)) D (pas kd pA pB h x ++ W) (fl kd h x) (t + 1) ∧ (∀ c, ¬ c = 41 → ¬ c = 43 → ¬ c = 44 → ¬ c = 45 → (e_X1_part u (nI x) (kd x)).1 c = u.1 c) ∧ (e_X1_part u (nI x) (kd x)).1 43 = ftl (u.1 43) (pas kd pA pB h x) (t + 1) := by
  obtain ⟨ha, hb⟩ := (mk.2 x hx).resolve_left (fun z => hu (Or.inl z))
  have n8 := mk.1
  have hcx : (nI x).toNatClampNeg = x := nI_clamp (by omega)
  obtain ⟨c1, c2⟩ := ck x hx
  obtain ⟨cA, cB⟩ := c2 (fun z => hu (Or.inl z))
  obtain ⟨m1, m2, m3, m4, m5, m6⟩ := m
  unfold e_X1_part
  dsimp only
  rw [m5, nI_1, hcx]
  generalize hw : uk_up u 41 2 (nI (t + 1)) = w
  have wo : ∀ c, ¬ c = 41 → w.1 c = u.1 c := fun c h1 => by rw [← hw, uk_up_oc h1]
  have wm : MLs w D W h (t + 1) := ⟨by rw [← hw, uk_up_at, if_neg (by decide)]; exact m1, by rw [wo 42 (by decide)]; exact m2, by rw [← hw, uk_up_at, if_neg (by decide)]; exact m3, by rw [wo 45 (by decide)]; exact m4, by rw [← hw, uk_up_at, if_pos ⟨rfl, rfl⟩], by rw [wo 44 (by decide)]; exact m6⟩
  rw [wo 44 (by decide), m6 x (by omega), wo 15 (by decide), wo 16 (by decide), cA, cB]
  -- the half goes over, or not
  have half : ∀ (y : uk_Mem) (Z : List Nat), MLs y D Z h (t + 1) → MLs (if kd x = 3 then uk_up y 44 x (1 - y.1 44 x) else y) D Z (fl kd h x) (t + 1) ∧ (∀ c, ¬ c = 44 → (if kd x = 3 then uk_up y 44 x (1 - y.1 44 x) else y).1 c = y.1 c) := fun y Z hy => by
    obtain ⟨a1, a2, a3, a4, a5, a6⟩ := hy
    by_cases k3 : kd x = 3
    · rw [if_pos k3]
      refine ⟨⟨by rw [uk_up_oc (by decide)]; exact a1, by rw [uk_up_oc (by decide)]; exact a2, by rw [uk_up_oc (by decide)]; exact a3, by rw [uk_up_oc (by decide)]; exact a4, by rw [uk_up_oc (by decide)]; exact a5, fun j hj => ?_⟩, fun c hc => uk_up_oc hc⟩
      rw [uk_up_at]
      unfold fl
      by_cases e : j = x
      · rw [if_pos ⟨rfl, e⟩, if_pos ⟨e, k3⟩, a6 x (by omega)]
      · rw [if_neg (fun z => e z.2), if_neg (fun z => e z.1)]
        exact a6 j hj
    · rw [if_neg k3]
      refine ⟨⟨a1, a2, a3, a4, a5, fun j hj => ?_⟩, fun c _ => rfl⟩
      unfold fl
      rw [if_neg (fun z => k3 z.2)]
      exact a6 j hj
  by_cases z : gv kd h x
  · rw [if_neg (fun q => gb_e.mp q z)]
    obtain ⟨b1, b2, b3⟩ := pw_e (x := pB x) wm (by omega) (by omega)
    have e15 : (e_X1_putWaiting w (nI (pB x))).1 15 x = nI (pA x) := by rw [b2 15 (by decide) (by decide) (by decide), wo 15 (by decide)]; exact cA
    rw [e15]
    obtain ⟨d1, d2, d3⟩ := pw_e (x := pA x) b1 (by simp only [List.length_cons]; omega) (by omega)
    obtain ⟨f1, f2⟩ := half _ _ d1
    have ep : pas kd pA pB h x = [pA x, pB x] := if_pos z
    rw [ep]
    refine ⟨f1, fun c h1 h2 h3 h4 => by rw [f2 c h3, d2 c h1 h2 h4, b2 c h1 h2 h4, wo c h1], ?_⟩
    rw [f2 43 (by decide), d3, b3, wo 43 (by decide)]
    rfl
  · rw [if_pos (gb_e.mpr z)]
    obtain ⟨d1, d2, d3⟩ := pw_e (x := pA x) wm (by omega) (by omega)
    obtain ⟨f1, f2⟩ := half _ _ d1
    have ep : pas kd pA pB h x = [pA x] := if_neg z
    rw [ep]
    refine ⟨f1, fun c h1 h2 h3 h4 => by rw [f2 c h3, d2 c h1 h2 h4, wo c h1], ?_⟩
    rw [f2 43 (by decide), d3, wo 43 (by decide)]
    rfl
/-- what waits lies down -/
def FN (u : uk_Mem) (R : List Nat) (T : Nat) : Prop := u.1 41 1 = nI R.length ∧ (∀ i, i < R.length → u.1 42 i = nI (R.getD i 0)) ∧ u.1 41 2 = nI T
theorem app_l : ∀ (W : List Nat) (K : Nat) (u : uk_Mem) (D : List Nat) (h : Nat → Int32) (t : Nat) (n : Nat), W.length < K → D.length + W.length ≤ 128 → u.1 41 1 = nI D.length → (∀ i, i < D.length → u.1 42 i = nI (D.getD i 0)) → (∀ i, i < W.length → u.1 45 (W.length - 1 - i) = nI (W.getD i 0)) → u.1 41 2 = nI t → FN (l_X1_grind_90 K (nI W.length - 1) u) (D ++ W) t ∧ ∀ c, ¬ c = 41 → ¬ c = 42 → (l_X1_grind_90 K (nI W.length - 1) u).1 c = u.1 c := by
  intro W
  induction W with
  | nil =>
    intro K u D h t n hK hl m1 m2 m4 m5
    obtain ⟨K, rfl⟩ : ∃ k, K = k + 1 := ⟨K - 1, by simp only [List.length_nil] at hK; omega⟩
    rw [l_X1_grind_90, if_pos (show nI ([] : List Nat).length - 1 < 0 by decide), List.append_nil]
    exact ⟨⟨m1, m2, m5⟩, fun c _ _ => rfl⟩
  | cons x W ih =>
    intro K u D h t n hK hl m1 m2 m4 m5
    simp only [List.length_cons] at hK hl
    obtain ⟨K, rfl⟩ : ∃ k, K = k + 1 := ⟨K - 1, by omega⟩
    have ep : nI (x :: W).length - 1 = nI W.length := by rw [List.length_cons]; exact nI_pred _
    have hc : (nI W.length).toNatClampNeg = W.length := nI_clamp (by omega)
    rw [ep, l_X1_grind_90, if_neg (nI_pos (by omega)), hc]
    dsimp only
    have h0 := m4 0 (by simp)
    rw [List.getD_cons_zero, List.length_cons, show W.length + 1 - 1 - 0 = W.length by omega] at h0
    rw [h0]
    have mm : MLs u D [] (u.1 44) t → True := fun _ => trivial
    -- lie down, by hand: the waiting row isn't in order any more
    have hcD : (nI D.length).toNatClampNeg = D.length := nI_clamp (by omega)
    have hg : ¬ (128 : Int32) ≤ nI D.length := by
      rw [show (128 : Int32) = nI 128 from rfl, nI_leI (by omega) (by omega)]
      omega
    have el : e_X1_lieDown u (nI x) = uk_up (uk_up u 42 D.length (nI x)) 41 1 (nI (D.length + 1)) := by
      unfold e_X1_lieDown
      dsimp only
      rw [m1, if_neg hg, hcD]
      have e41 : (uk_up u 42 D.length (nI x)).1 41 1 = nI D.length := by rw [uk_up_oc (by decide)]; exact m1
      rw [e41, nI_1]
    rw [el]
    obtain ⟨a, b⟩ := ih K (uk_up (uk_up u 42 D.length (nI x)) 41 1 (nI (D.length + 1))) (D ++ [x]) h t n (by omega) (by simp only [List.length_append, List.length_singleton]; omega) (by rw [uk_up_at, if_pos ⟨rfl, rfl⟩, List.length_append]; rfl) (by
      intro i hi
      rw [List.length_append, List.length_singleton] at hi
      rw [uk_up_oc (by decide), uk_up_at, getD_app1 hi]
      by_cases e : i = D.length
      · rw [if_pos ⟨rfl, e⟩, if_pos e]
      · rw [if_neg (fun z => e z.2), if_neg e]
        exact m2 i (by omega)) (by
      intro i hi
      rw [uk_up_oc (by decide), uk_up_oc (by decide)]
      have := m4 (i + 1) (by simp only [List.length_cons]; omega)
      rw [List.getD_cons_succ, List.length_cons, show W.length + 1 - 1 - (i + 1) = W.length - 1 - i by omega] at this
      exact this) (by rw [uk_up_at, if_neg (by decide), uk_up_oc (by decide)]; exact m5)
    rw [List.append_assoc] at a
    exact ⟨a, fun c h1 h2 => by rw [b c h1 h2, uk_up_oc h1, uk_up_oc h2]⟩
theorem g90_1 : ∀ (K : Nat) (i : Int32) (u : uk_Mem), l_X1_grind_90_1 K i u = l_X1_grind_90 K i u := by
  intro K
  induction K with
  | zero => intro i u; rfl
  | succ K ih =>
    intro i u
    rw [l_X1_grind_90_1, l_X1_grind_90]
    split
    · rfl
    · exact ih _ _
theorem g90_2 : ∀ (K : Nat) (i : Int32) (u : uk_Mem), l_X1_grind_90_2 K i u = l_X1_grind_90 K i u := by
  intro K
  induction K with
  | zero => intro i u; rfl
  | succ K ih =>
    intro i u
    rw [l_X1_grind_90_2, l_X1_grind_90]
    split
    · rfl
    · exact ih _ _
theorem gD_l {a b : List Nat} {i : Nat} (h : i < a.length) : (a ++ b).getD i 0 = a.getD i 0 := by
  rw [List.getD_eq_getElem?_getD, List.getD_eq_getElem?_getD, List.getElem?_append_left h]
theorem gD_r {a b : List Nat} {i : Nat} (h : a.length ≤ i) : (a ++ b).getD i 0 = b.getD (i - a.length) 0 := by
  rw [List.getD_eq_getElem?_getD, List.getD_eq_getElem?_getD, List.getElem?_append_right h]
/-! the reference's side -/
def RKs (v : uk_Mem) (N : Nat) (kd : Nat → Int32) (pA pB : Nat → Nat) : Prop := ∀ x, x < N → v.1 62 (x + 32) = kd x ∧ (¬ kd x = 4 → v.1 64 x = nI (pA x) ∧ v.1 65 x = nI (pB x))
def RLs (v : uk_Mem) (N : Nat) (l : List Nat) (h : Nat → Int32) : Prop := v.1 60 22 = nI l.length ∧ (∀ i, i < l.length → v.1 71 i = nI (l.getD i 0)) ∧ ∀ j, j < N → v.1 62 (j + 8) = h j
theorem n32 {x : Nat} (h : x < 8) : ((32 : Int32) + nI x).toNatClampNeg = x + 32 := by
  have := ix_32 (m := nI x) (nI_pos' (by omega)) (nI_le (a := x) (b := 7) (by omega) (by omega))
  rw [this, nI_clamp (by omega)]
theorem n8' {x : Nat} (h : x < 8) : ((8 : Int32) + nI x).toNatClampNeg = x + 8 := by
  have := ix_8 (m := nI x) (nI_pos' (by omega)) (nI_le (a := x) (b := 7) (by omega) (by omega))
  rw [this, nI_clamp (by omega)]
/-- the next thing that comes apart -/
theorem nt_some {v : uk_Mem} {N : Nat} {kd : Nat → Int32} {pA pB : Nat → Nat} {l : List Nat} {d : Nat} (n8 : N ≤ 8) (rk : RKs v N kd pA pB) (r1 : v.1 60 22 = nI l.length) (r2 : ∀ i, i < l.length → v.1 71 i = nI (l.getD i 0)) (hN : ∀ i, i < l.length → l.getD i 0 < N) (hl : l.length ≤ 1000) (hd : d < l.length) (hu : ∀ q, q < d → un kd (l.getD q 0)) (hx : ¬ un kd (l.getD d 0)) : ∀ (K p : Nat), l.length < p + K → p ≤ d → l_X7_nextThing_2 v K (nI p) = nI d := by
  intro K
  induction K with
  | zero => intro p h1 h2; omega
  | succ K ih =>
    intro p h1 h2
    rw [l_X7_nextThing_2]
    dsimp only
    rw [r1, if_neg (nI_ge (a := p) (b := l.length) (by omega) (by omega)), nI_clamp (by omega), r2 p (by omega), n32 (by have := hN p (by omega); omega), (rk _ (hN p (by omega))).1, nI_1]
    by_cases e : p = d
    · subst e
      rw [if_neg (fun z => hx (Or.inl z)), if_neg (fun z => hx (Or.inr z))]
    · rcases hu p (by omega) with z | z
      · rw [if_pos z]
        exact ih (p + 1) (by omega) (by omega)
      · rw [z, if_neg (by decide), if_pos rfl]
        exact ih (p + 1) (by omega) (by omega)
theorem nt_none {v : uk_Mem} {N : Nat} {kd : Nat → Int32} {pA pB : Nat → Nat} {l : List Nat} (n8 : N ≤ 8) (rk : RKs v N kd pA pB) (r1 : v.1 60 22 = nI l.length) (r2 : ∀ i, i < l.length → v.1 71 i = nI (l.getD i 0)) (hN : ∀ i, i < l.length → l.getD i 0 < N) (hl : l.length ≤ 1000) (hu : ∀ q, q < l.length → un kd (l.getD q 0)) : ∀ (K p : Nat), l.length < p + K → p ≤ l.length → l_X7_nextThing_2 v K (nI p) = -4 := by
  intro K
  induction K with
  | zero => intro p h1 h2; omega
  | succ K ih =>
    intro p h1 h2
    rw [l_X7_nextThing_2]
    dsimp only
    rw [r1]
    by_cases e : p = l.length
    · rw [if_pos (by rw [e]; exact Int32.le_refl _)]
    · rw [if_neg (nI_ge (a := p) (b := l.length) (by omega) (by omega)), nI_clamp (by omega), r2 p (by omega), n32 (by have := hN p (by omega); omega), (rk _ (hN p (by omega))).1, nI_1]
      rcases hu p (by omega) with z | z
      · rw [if_pos z]
        exact ih (p + 1) (by omega) (by omega)
      · rw [z, if_neg (by decide), if_pos rfl]
        exact ih (p + 1) (by omega) (by omega)
theorem mem_getD {l : List Nat} {i : Nat} (h : i < l.length) : l.getD i 0 ∈ l := by
  rw [List.getD_eq_getElem?_getD, List.getElem?_eq_getElem h]
  exact List.getElem_mem h
theorem gs_e {v : uk_Mem} {N : Nat} {kd h : Nat → Int32} {pA pB : Nat → Nat} {x : Nat} (n8 : N ≤ 8) (rk : RKs v N kd pA pB) (rh : ∀ j, j < N → v.1 62 (j + 8) = h j) (hx : x < N) : (e_X7_givesSecond v (nI x) = 0) ↔ ¬ gv kd h x := by
  unfold e_X7_givesSecond gv
  dsimp only
  rw [n32 (by omega), n8' (by omega), (rk x hx).1, rh x hx]
  by_cases a : kd x = 0
  · simp [a]
  · by_cases b : kd x = 3
    · by_cases c : h x = 1
      · simp [a, b, c]
      · simp [a, b, c]
    · simp [a, b]
/-- the row makes room -/
theorem sh_l {d x : Nat} (hd : d + 1 < 1000) (hx : x < 8) : ∀ (K i : Nat) (m : uk_Mem), i < d + 1 + K → d + 1 ≤ i → i ≤ 1000 → ∃ w : uk_Mem, l_X7_turns1_45 (nI d) (nI x) K (nI i) m = l_X7_turns1_45 (nI d) (nI x) 1 (nI (d + 1)) w ∧ (∀ c, ¬ c = 71 → w.1 c = m.1 c) ∧ ∀ j, w.1 71 j = if d + 2 ≤ j ∧ j ≤ i then m.1 71 (j - 1) else m.1 71 j := by
  intro K
  induction K with
  | zero => intro i m h1 h2; omega
  | succ K ih =>
    intro i m h1 h2 h3
    by_cases q : i = d + 1
    · subst q
      refine ⟨m, ?_, fun _ _ => rfl, fun j => ?_⟩
      · have c : nI (d + 1) ≤ nI d + 1 := by rw [nI_1]; exact Int32.le_refl _
        rw [l_X7_turns1_45, l_X7_turns1_45]
        dsimp only
        rw [if_pos c, if_pos c]
      · rw [if_neg (by omega)]
    · obtain ⟨i, rfl⟩ : ∃ k, i = k + 1 := ⟨i - 1, by omega⟩
      have c : ¬ nI (i + 1) ≤ nI d + 1 := by
        rw [nI_1, nI_leI (by omega) (by omega)]
        omega
      obtain ⟨w, a, b, e⟩ := ih i (uk_up m 71 (i + 1) (m.1 71 i)) (by omega) (by omega) (by omega)
      refine ⟨w, ?_, fun c hc => (b c hc).trans (uk_up_oc hc), fun j => ?_⟩
      · rw [← a, l_X7_turns1_45]
        dsimp only
        rw [if_neg c, nI_pred, nI_clamp (n := i) (by omega), nI_clamp (n := i + 1) (by omega)]
      · rw [e j]
        simp only [uk_up_at, true_and]
        by_cases j1 : j = i + 1
        · rw [if_neg (by omega), if_pos j1, if_pos (by omega), j1]
          rfl
        · by_cases j2 : d + 2 ≤ j ∧ j ≤ i
          · rw [if_pos j2, if_neg (by omega), if_pos (by omega)]
          · rw [if_neg j2, if_neg j1, if_neg (by omega)]
theorem getD_mid {D W : List Nat} {i : Nat} {Z : List Nat} : (D ++ (Z ++ W)).getD i 0 = if i < D.length then D.getD i 0 else if i < D.length + Z.length then Z.getD (i - D.length) 0 else W.getD (i - D.length - Z.length) 0 := by
  by_cases h1 : i < D.length
  · rw [if_pos h1, gD_l h1]
  · rw [if_neg h1, gD_r (by omega)]
    by_cases h2 : i < D.length + Z.length
    · rw [if_pos h2, gD_l (by omega)]
    · rw [if_neg h2, gD_r (by omega)]
/-- a turn -/
theorem t1_e {v : uk_Mem} {N : Nat} {kd h : Nat → Int32} {pA pB : Nat → Nat} {D W : List Nat} {x : Nat} (mk : MK N kd pA pB) (rk : RKs v N kd pA pB) (rl : RLs v N (D ++ x :: W) h) (hN : ∀ y, y ∈ D ++ x :: W → y < N) (hl : (D ++ x :: W).length ≤ 200) (hD : ∀ y, y ∈ D → un kd y) (hx : ¬ un kd x) : (e_X7_turns1 v).1 = 1 ∧ RLs (e_X7_turns1 v).2 N (D ++ (pas kd pA pB h x ++ W)) (fl kd h x) ∧ RKs (e_X7_turns1 v).2 N kd pA pB ∧ (∀ c, ¬ c = 60 → ¬ c = 62 → ¬ c = 71 → (e_X7_turns1 v).2.1 c = v.1 c) ∧ (∀ j, ¬ j = 22 → (e_X7_turns1 v).2.1 60 j = v.1 60 j) := by
  obtain ⟨r1, r2, r3⟩ := rl
  have n8 := mk.1
  have xN : x < N := hN x (by simp)
  obtain ⟨ha, hb⟩ := (mk.2 x xN).resolve_left (fun z => hx (Or.inl z))
  obtain ⟨k1, k2⟩ := rk x xN
  obtain ⟨kA, kB⟩ := k2 (fun z => hx (Or.inl z))
  have hlen : (D ++ x :: W).length = D.length + W.length + 1 := by simp only [List.length_append, List.length_cons]; omega
  have hg0 : (D ++ x :: W).getD D.length 0 = x := by
    rw [gD_r (by omega), Nat.sub_self, List.getD_cons_zero]
  have hnt : e_X7_nextThing v = nI D.length := by
    refine nt_some n8 rk r1 r2 (fun i hi => hN _ (mem_getD hi)) (by omega) (by omega) (fun q hq => ?_) (by rw [hg0]; exact hx) ee_K 0 ?_ (by omega)
    · rw [gD_l hq]
      exact hD _ (mem_getD hq)
    · unfold ee_K
      omega
  have hcd : (nI D.length).toNatClampNeg = D.length := nI_clamp (by omega)
  have hcx : (nI x).toNatClampNeg = x := nI_clamp (by omega)
  have hrx : v.1 71 D.length = nI x := by rw [r2 D.length (by omega), hg0]
  unfold e_X7_turns1
  dsimp only
  rw [hnt, if_neg (show ¬ nI D.length = -4 from fun z => absurd (nI_pos' (n := D.length) (by omega)) (by rw [z]; decide)), hcd, hrx, hcx, kA]
  generalize hw : uk_up v 71 D.length (nI (pA x)) = w
  have wo : ∀ c, ¬ c = 71 → w.1 c = v.1 c := fun c hc => by rw [← hw, uk_up_oc hc]
  have w71 : ∀ j, w.1 71 j = if j = D.length then nI (pA x) else v.1 71 j := fun j => by
    rw [← hw, uk_up_at]
    simp
  have rkw : RKs w N kd pA pB := fun y hy => by
    rw [wo 62 (by decide), wo 64 (by decide), wo 65 (by decide)]
    exact rk y hy
  have rhw : ∀ j, j < N → w.1 62 (j + 8) = h j := fun j hj => by
    rw [wo 62 (by decide)]
    exact r3 j hj
  -- the half goes over, or not
  have half : ∀ (y : uk_Mem) (z : Int32), (∀ j, y.1 62 j = v.1 62 j) → z = (if kd x = 3 then 1 - h x else h x) → (∀ j, j < N → (uk_up y 62 (x + 8) z).1 62 (j + 8) = fl kd h x j) ∧ (∀ j, (uk_up y 62 (x + 8) z).1 62 (j + 32) = v.1 62 (j + 32)) ∧ (∀ c, ¬ c = 62 → (uk_up y 62 (x + 8) z).1 c = y.1 c) := fun y z hy hz => by
    refine ⟨fun j hj => ?_, fun j => ?_, fun c hc => uk_up_oc hc⟩
    · rw [uk_up_at]
      unfold fl
      by_cases e : j = x
      · rw [if_pos ⟨rfl, by omega⟩, hz]
        by_cases k3 : kd x = 3
        · rw [if_pos k3, if_pos ⟨e, k3⟩]
        · rw [if_neg k3, if_neg (fun w => k3 w.2), e]
      · rw [if_neg (by omega), if_neg (fun w => e w.1), hy]
        exact r3 j hj
    · rw [uk_up_at, if_neg (by omega), hy]
  rw [n8' (by omega), n32 (by omega)]
  by_cases z : gv kd h x
  · have hz : ¬ e_X7_givesSecond w (nI x) = 0 := fun q => (gs_e n8 rkw rhw xN).mp q z
    rw [if_neg hz, wo 60 (by decide), r1, hlen]
    have ep : pas kd pA pB h x = [pA x, pB x] := if_pos z
    obtain ⟨s, s1, s2, s3⟩ := sh_l (d := D.length) (x := x) (by omega) (by omega) ee_K (D.length + W.length + 1) w (by unfold ee_K; omega) (by omega) (by omega)
    have c : nI (D.length + 1) ≤ nI D.length + 1 := by rw [nI_1]; exact Int32.le_refl _
    have s4 : l_X7_turns1_45 (nI D.length) (nI x) 1 (nI (D.length + 1)) s = (1, uk_up (uk_up (uk_up s 71 (D.length + 1) (nI (pB x))) 60 22 (nI (D.length + W.length + 2))) 62 (x + 8) (if kd x = 3 then 1 - h x else h x)) := by
      rw [l_X7_turns1_45]
      dsimp only
      rw [if_pos c, nI_1, nI_clamp (n := D.length + 1) (by omega), hcx, s2 65 (by decide), wo 65 (by decide), kB]
      have e22 : (uk_up s 71 (D.length + 1) (nI (pB x))).1 60 22 = nI (D.length + W.length + 1) := by rw [uk_up_oc (by decide), s2 60 (by decide), wo 60 (by decide), r1, hlen]
      rw [e22, nI_1, n8' (by omega), n32 (by omega)]
      have e62 : ∀ j, (uk_up (uk_up s 71 (D.length + 1) (nI (pB x))) 60 22 (nI (D.length + W.length + 1 + 1))).1 62 j = v.1 62 j := fun j => by rw [uk_up_oc (by decide), uk_up_oc (by decide), s2 62 (by decide), wo 62 (by decide)]
      rw [e62, e62, k1, r3 x xN]
      by_cases k3 : kd x = 3
      · rw [if_pos k3, if_pos k3]
      · rw [if_neg k3, if_neg k3]
    rw [s1, s4]
    dsimp only
    generalize hy : uk_up (uk_up s 71 (D.length + 1) (nI (pB x))) 60 22 (nI (D.length + W.length + 2)) = y
    have y62 : ∀ j, y.1 62 j = v.1 62 j := fun j => by rw [← hy, uk_up_oc (by decide), uk_up_oc (by decide), s2 62 (by decide), wo 62 (by decide)]
    have yo : ∀ c, ¬ c = 60 → ¬ c = 71 → y.1 c = v.1 c := fun c h1 h2 => by rw [← hy, uk_up_oc h1, uk_up_oc h2, s2 c h2, wo c h2]
    obtain ⟨f1, f2, f3⟩ := half y (if kd x = 3 then 1 - h x else h x) y62 rfl
    rw [ep]
    refine ⟨rfl, ⟨?_, fun i hi => ?_, f1⟩, fun q hq => ?_, fun c h1 h2 h3 => by rw [f3 c h2, yo c h1 h3], fun j hj => ?_⟩
    · rw [f3 60 (by decide), ← hy, uk_up_at, if_pos ⟨rfl, rfl⟩]
      simp only [List.length_append, List.length_cons, List.length_nil]
      exact congrArg nI (by omega)
    · simp only [List.length_append, List.length_cons, List.length_nil] at hi
      rw [f3 71 (by decide), ← hy, uk_up_oc (by decide), uk_up_at, s3 i, w71, w71, getD_mid]
      simp only [List.length_cons, List.length_nil]
      by_cases i1 : i < D.length
      · rw [if_neg (by omega), if_neg (by omega), if_neg (by omega), if_pos i1, r2 i (by omega), gD_l i1]
      · rw [if_neg i1]
        by_cases i2 : i = D.length
        · rw [if_neg (by omega), if_neg (by omega), if_pos i2, if_pos (by omega), i2, Nat.sub_self]
          rfl
        · by_cases i3 : i = D.length + 1
          · rw [if_pos ⟨trivial, i3⟩, if_pos (by omega), i3, show D.length + 1 - D.length = 1 by omega]
            rfl
          · rw [if_neg (by omega), if_pos (by omega), if_neg (by omega), if_neg (by omega), r2 (i - 1) (by omega), gD_r (by omega)]
            obtain ⟨k, rfl⟩ : ∃ k, i = D.length + 2 + k := ⟨i - D.length - 2, by omega⟩
            rw [show D.length + 2 + k - 1 - D.length = k + 1 by omega, List.getD_cons_succ, show D.length + 2 + k - D.length - (0 + 1 + 1) = k by omega]
    · rw [f2, f3 64 (by decide), f3 65 (by decide), yo 64 (by decide) (by decide), yo 65 (by decide) (by decide)]
      exact rk q hq
    · rw [f3 60 (by decide), ← hy, uk_up_at, if_neg (fun w => hj w.2), uk_up_oc (by decide), s2 60 (by decide), wo 60 (by decide)]
  · have hz := (gs_e n8 rkw rhw xN).mpr z
    rw [if_pos hz, wo 62 (by decide), k1, r3 x xN]
    have ep : pas kd pA pB h x = [pA x] := if_neg z
    have e : (if kd x = 3 then ((1 : Int32), uk_up w 62 (x + 8) (1 - h x)) else (1, uk_up w 62 (x + 8) (h x))) = (1, uk_up w 62 (x + 8) (if kd x = 3 then 1 - h x else h x)) := by
      by_cases k3 : kd x = 3
      · rw [if_pos k3, if_pos k3]
      · rw [if_neg k3, if_neg k3]
    rw [e]
    dsimp only
    obtain ⟨f1, f2, f3⟩ := half w (if kd x = 3 then 1 - h x else h x) (fun j => by rw [wo 62 (by decide)]) rfl
    rw [ep]
    refine ⟨rfl, ⟨?_, fun i hi => ?_, f1⟩, fun q hq => ?_, fun c h1 h2 h3 => by rw [f3 c h2, wo c h3], fun j hj => ?_⟩
    · rw [f3 60 (by decide), wo 60 (by decide), r1, hlen]
      simp only [List.length_append, List.length_cons, List.length_nil]
      exact congrArg nI (by omega)
    · simp only [List.length_append, List.length_cons, List.length_nil] at hi
      rw [f3 71 (by decide), w71, getD_mid]
      simp only [List.length_cons, List.length_nil]
      by_cases i1 : i < D.length
      · rw [if_pos i1, if_neg (by omega), r2 i (by omega), gD_l i1]
      · rw [if_neg i1]
        by_cases i2 : i = D.length
        · rw [if_pos i2, if_pos (by omega), i2, Nat.sub_self]
          rfl
        · rw [if_neg i2, if_neg (by omega), r2 i (by omega), gD_r (by omega)]
          obtain ⟨k, rfl⟩ : ∃ k, i = D.length + 1 + k := ⟨i - D.length - 1, by omega⟩
          rw [show D.length + 1 + k - D.length = k + 1 by omega, List.getD_cons_succ, show k + 1 - (0 + 1) = k by omega]
    · rw [f2, f3 64 (by decide), f3 65 (by decide), wo 64 (by decide), wo 65 (by decide)]
      exact rk q hq
    · rw [f3 60 (by decide), wo 60 (by decide)]
theorem t1_0 {v : uk_Mem} {N : Nat} {kd h : Nat → Int32} {pA pB : Nat → Nat} {l : List Nat} (n8 : N ≤ 8) (rk : RKs v N kd pA pB) (rl : RLs v N l h) (hN : ∀ y, y ∈ l → y < N) (hl : l.length ≤ 200) (hD : ∀ y, y ∈ l → un kd y) : e_X7_turns1 v = (0, v) := by
  have hnt : e_X7_nextThing v = -4 := nt_none n8 rk rl.1 rl.2.1 (fun i hi => hN _ (mem_getD hi)) (by omega) (fun q hq => hD _ (mem_getD hq)) ee_K 0 (by unfold ee_K; omega) (by omega)
  unfold e_X7_turns1
  dsimp only
  rw [hnt, if_pos rfl]
/-! both together -/
theorem mill_l {N : Nat} {kd : Nat → Int32} {pA pB : Nat → Nat} (mk : MK N kd pA pB) {n n7 : Nat} (hn : (n7 = n ∧ n ≤ 127) ∨ (n = 127 ∧ n7 = 128)) : ∀ (K : Nat) (D W : List Nat) (h : Nat → Int32) (t K7 : Nat) (u v : uk_Mem), 255 < t + D.length + K → n7 < t + K7 → t ≤ n → GD N kd D W t → CK u N kd pA pB → RKs v N kd pA pB → MLs u D W h t → RLs v N (D ++ W) h → ∃ (R : List Nat) (T : Nat) (h' : Nat → Int32), FN (l_X1_grind_8 (nI n) K (nI (t + D.length)) u) R T ∧ RLs (l_X7_mills_7 (nI n7) K7 (nI t) v).2 N R h' ∧ (l_X7_mills_7 (nI n7) K7 (nI t) v).1 = nI T ∧ (∀ y, y ∈ R → y < N) ∧ R.length ≤ 128 ∧ T ≤ 127 ∧ (∀ c, ¬ c = 60 → ¬ c = 62 → ¬ c = 71 → (l_X7_mills_7 (nI n7) K7 (nI t) v).2.1 c = v.1 c) ∧ (∀ j, ¬ j = 22 → (l_X7_mills_7 (nI n7) K7 (nI t) v).2.1 60 j = v.1 60 j) ∧ ∀ c, ¬ (41 ≤ c ∧ c ≤ 45) → (l_X1_grind_8 (nI n) K (nI (t + D.length)) u).1 c = u.1 c := by
  intro K
  induction K with
  | zero =>
    intro D W h t K7 u v hK hK7 ht g
    have := GD_len g
    have := g.2.2.2.1
    exfalso
    omega
  | succ K ih =>
    intro D W h t K7 u v hK hK7 ht g ck rk m rl
    have gl := GD_len g
    have gt := g.2.2.2.1
    have sk := SK_len g.2.2.2.2
    have n8 := mk.1
    obtain ⟨K7, rfl⟩ : ∃ k, K7 = k + 1 := ⟨K7 - 1, by omega⟩
    have hll : (D ++ W).length ≤ 200 := by rw [List.length_append]; omega
    obtain ⟨m1, m2, m3, m4, m5, m6⟩ := id m
    -- it ends here: the row is D ++ W
    have fin : (n7 ≤ t ∨ ∀ y, y ∈ D ++ W → un kd y) → l_X7_mills_7 (nI n7) (K7 + 1) (nI t) v = (nI t, v) := fun q => by
      rw [l_X7_mills_7]
      by_cases c : n7 ≤ t
      · rw [if_pos (nI_le c (by omega))]
      · rw [if_neg (nI_ge (by omega) (by omega))]
        dsimp only
        rw [t1_0 n8 rk rl g.1 hll (q.resolve_left c), if_pos rfl]
    have lie := app_l W ee_K u D h t 0 (by unfold ee_K; omega) (by omega) m1 m2 m4 m5
    have done : (n7 ≤ t ∨ ∀ y, y ∈ D ++ W → un kd y) → ∃ (R : List Nat) (T : Nat) (h' : Nat → Int32), FN (l_X1_grind_90 ee_K (nI W.length - 1) u) R T ∧ RLs (l_X7_mills_7 (nI n7) (K7 + 1) (nI t) v).2 N R h' ∧ (l_X7_mills_7 (nI n7) (K7 + 1) (nI t) v).1 = nI T ∧ (∀ y, y ∈ R → y < N) ∧ R.length ≤ 128 ∧ T ≤ 127 ∧ (∀ c, ¬ c = 60 → ¬ c = 62 → ¬ c = 71 → (l_X7_mills_7 (nI n7) (K7 + 1) (nI t) v).2.1 c = v.1 c) ∧ (∀ j, ¬ j = 22 → (l_X7_mills_7 (nI n7) (K7 + 1) (nI t) v).2.1 60 j = v.1 60 j) ∧ ∀ c, ¬ (41 ≤ c ∧ c ≤ 45) → (l_X1_grind_90 ee_K (nI W.length - 1) u).1 c = u.1 c := fun q => by
      rw [fin q]
      exact ⟨D ++ W, t, h, lie.1, rl, rfl, g.1, by rw [List.length_append]; omega, by omega, fun _ _ _ _ => rfl, fun _ _ => rfl, fun c hc => lie.2 c (by omega) (by omega)⟩
    rw [l_X1_grind_8]
    dsimp only
    rw [m3, m5]
    by_cases s : 255 ≤ t + D.length
    · rw [if_pos (show (255 : Int32) ≤ nI (t + D.length) from nI_le (a := 255) s (by omega))]
      refine done (Or.inr (fun y hy => ?_))
      have : W = [] := List.eq_nil_of_length_eq_zero (by omega)
      rw [this, List.append_nil] at hy
      exact g.2.1 y hy
    · rw [if_neg (show ¬ (255 : Int32) ≤ nI (t + D.length) from nI_ge (b := 255) (by omega) (by omega))]
      by_cases c : n ≤ t
      · rw [if_pos (nI_le c (by omega)), g90_1]
        refine done ?_
        rcases hn with ⟨e, -⟩ | ⟨e, -⟩
        · exact Or.inl (by omega)
        · exact Or.inr (GD_0 mk g (by omega))
      · rw [if_neg (nI_ge (by omega) (by omega))]
        cases W with
        | nil =>
          rw [if_pos (show nI ([] : List Nat).length ≤ 0 from by decide), g90_2]
          refine done (Or.inr (fun y hy => ?_))
          rw [List.append_nil] at hy
          exact g.2.1 y hy
        | cons x W =>
          simp only [List.length_cons] at gl sk
          rw [if_neg (show ¬ nI (x :: W).length ≤ 0 from nI_nle (by simp) (by simp only [List.length_cons]; omega))]
          obtain ⟨a1, a2, a3⟩ := tw_e m (by omega)
          have xN : x < N := g.1 x (by simp)
          have ck' : CK (e_X1_takeWaiting u).2 N kd pA pB := CK_cg ck (a3 14 (by decide)) (a3 15 (by decide)) (a3 16 (by decide))
          rw [a1, nI_clamp (n := x) (by omega), (ck' x xN).1, nI_1]
          by_cases hu : un kd x
          · -- it lies down
            obtain ⟨b1, b2⟩ := ld_e (x := x) a2 (by omega)
            have gl2 := GD_lie g hu
            have e1 : (if kd x = 4 then l_X1_grind_8 (nI n) K (nI (t + D.length + 1)) (e_X1_lieDown (e_X1_takeWaiting u).2 (nI x)) else if kd x = 2 then l_X1_grind_8 (nI n) K (nI (t + D.length + 1)) (e_X1_lieDown (e_X1_takeWaiting u).2 (nI x)) else l_X1_grind_8 (nI n) K (nI (t + D.length + 1)) (e_X1_part (e_X1_takeWaiting u).2 (nI x) (kd x))) = l_X1_grind_8 (nI n) K (nI (t + (D ++ [x]).length)) (e_X1_lieDown (e_X1_takeWaiting u).2 (nI x)) := by
              rw [List.length_append, List.length_singleton]
              rcases hu with z | z
              · rw [if_pos z]
                rfl
              · rw [if_neg (by rw [z]; decide), if_pos z]
                rfl
            rw [e1]
            obtain ⟨R, T, h', c1, c2, c3, c4, c5, c6, c7, c8, c9⟩ := ih (D ++ [x]) W h t (K7 + 1) (e_X1_lieDown (e_X1_takeWaiting u).2 (nI x)) v (by simp only [List.length_append, List.length_singleton]; omega) hK7 ht gl2 (CK_cg ck' (b2 14 (by decide) (by decide)) (b2 15 (by decide) (by decide)) (b2 16 (by decide) (by decide))) rk b1 (by rw [List.append_assoc]; exact rl)
            exact ⟨R, T, h', c1, c2, c3, c4, c5, c6, c7, c8, fun c hc => by rw [c9 c hc, b2 c (by omega) (by omega), a3 c (by omega)]⟩
          · -- it comes apart
            obtain ⟨b1, b2, b3⟩ := pt_e mk ck' a2 xN hu (by omega)
            have g2 := GD_turn (h := h) mk g hu
            rw [if_neg (fun z => hu (Or.inl z)), if_neg (fun z => hu (Or.inr z))]
            obtain ⟨d1, d2, d3, d4, d5⟩ := t1_e mk rk rl g.1 hll g.2.1 hu
            have e7 : l_X7_mills_7 (nI n7) (K7 + 1) (nI t) v = l_X7_mills_7 (nI n7) K7 (nI (t + 1)) (e_X7_turns1 v).2 := by
              rw [l_X7_mills_7, if_neg (nI_ge (by omega) (by omega))]
              dsimp only
              rw [d1, if_neg one0, nI_1]
            rw [e7, show t + D.length + 1 = t + 1 + D.length by omega]
            obtain ⟨R, T, h', c1, c2, c3, c4, c5, c6, c7, c8, c9⟩ := ih D (pas kd pA pB h x ++ W) (fl kd h x) (t + 1) K7 (e_X1_part (e_X1_takeWaiting u).2 (nI x) (kd x)) (e_X7_turns1 v).2 (by omega) (by omega) (by omega) g2 (CK_cg ck' (b2 14 (by decide) (by decide) (by decide) (by decide)) (b2 15 (by decide) (by decide) (by decide) (by decide)) (b2 16 (by decide) (by decide) (by decide) (by decide))) d3 b1 d2
            exact ⟨R, T, h', c1, c2, c3, c4, c5, c6, fun c h1 h2 h3 => (c7 c h1 h2 h3).trans (d4 c h1 h2 h3), fun j hj => (c8 j hj).trans (d5 j hj), fun c hc => by rw [c9 c hc, b2 c (by omega) (by omega) (by omega) (by omega), a3 c (by omega)]⟩
/-! how often a thing lies in a row -/
/-! how they begin -/
theorem start_l {m : Int32} : ∀ (K i : Nat) (w : uk_Mem), 8 < i + K → i ≤ 8 → ∃ w' : uk_Mem, l_X1_start_17 m K (nI i) w = e_X1_putWaiting w' m ∧ (∀ c, ¬ c = 43 → ¬ c = 44 → w'.1 c = w.1 c) ∧ (∀ j, w'.1 43 j = if i ≤ j ∧ j < 8 then -4 else w.1 43 j) ∧ ∀ j, w'.1 44 j = if i ≤ j ∧ j < 8 then 0 else w.1 44 j := by
  intro K
  induction K with
  | zero => intro i w h1 h2; omega
  | succ K ih =>
    intro i w h1 h2
    rw [l_X1_start_17]
    by_cases e : i = 8
    · subst e
      rw [if_pos (show (8 : Int32) ≤ nI 8 from by decide)]
      exact ⟨w, rfl, fun _ _ _ => rfl, fun j => by rw [if_neg (by omega)], fun j => by rw [if_neg (by omega)]⟩
    · rw [if_neg (show ¬ (8 : Int32) ≤ nI i from nI_ge (b := 8) (by omega) (by omega)), nI_clamp (by omega), nI_1]
      dsimp only
      obtain ⟨w', a, b, c, d⟩ := ih (i + 1) (uk_up (uk_up w 43 i (-4)) 44 i 0) (by omega) (by omega)
      refine ⟨w', a, fun q h1 h2 => (b q h1 h2).trans (by rw [uk_up_oc h2, uk_up_oc h1]), fun j => ?_, fun j => ?_⟩
      · rw [c j, uk_up_oc (by decide), uk_up_at]
        by_cases q : j = i
        · rw [if_neg (by omega), if_pos ⟨rfl, q⟩, if_pos (by omega)]
        · by_cases q2 : i + 1 ≤ j ∧ j < 8
          · rw [if_pos q2, if_pos (by omega)]
          · rw [if_neg q2, if_neg (fun z => q z.2), if_neg (by omega)]
      · rw [d j, uk_up_at, uk_up_oc (by decide)]
        by_cases q : j = i
        · rw [if_neg (by omega), if_pos ⟨rfl, q⟩, if_pos (by omega)]
        · by_cases q2 : i + 1 ≤ j ∧ j < 8
          · rw [if_pos q2, if_pos (by omega)]
          · rw [if_neg q2, if_neg (fun z => q z.2), if_neg (by omega)]
theorem start_e {u : uk_Mem} {m : Nat} (hm : m < 8) : MLs (e_X1_start u (nI m)) [] [m] (fun _ => 0) 0 ∧ (∀ c, ¬ (41 ≤ c ∧ c ≤ 45) → (e_X1_start u (nI m)).1 c = u.1 c) ∧ ∀ j, j < 8 → (e_X1_start u (nI m)).1 43 j = if j = m then 0 else -4 := by
  unfold e_X1_start
  dsimp only
  obtain ⟨w, a, b, c, d⟩ := start_l (m := nI m) ee_K 0 (uk_up (uk_up (uk_up u 41 1 0) 41 2 0) 41 6 0) (by unfold ee_K; omega) (by omega)
  rw [show (0 : Int32) = nI 0 from rfl] at a ⊢
  rw [a]
  have e41 : w.1 41 = (uk_up (uk_up (uk_up u 41 1 0) 41 2 0) 41 6 0).1 41 := b 41 (by decide) (by decide)
  have wm : MLs w [] [] (fun _ => 0) 0 := by
    refine ⟨?_, fun i hi => by simp at hi, ?_, fun i hi => by simp at hi, ?_, fun j hj => by rw [d j, if_pos ⟨by omega, hj⟩]⟩
    · rw [e41, uk_up_at, if_neg (by decide), uk_up_at, if_neg (by decide), uk_up_at, if_pos ⟨rfl, rfl⟩]
      rfl
    · rw [e41, uk_up_at, if_pos ⟨rfl, rfl⟩]
      rfl
    · rw [e41, uk_up_at, if_neg (by decide), uk_up_at, if_pos ⟨rfl, rfl⟩]
      rfl
  obtain ⟨p1, p2, p3⟩ := pw_e (x := m) wm (by simp) hm
  refine ⟨p1, fun q hq => ?_, fun j hj => ?_⟩
  · rw [p2 q (by omega) (by omega) (by omega), b q (by omega) (by omega), uk_up_oc (by omega), uk_up_oc (by omega), uk_up_oc (by omega)]
  · have cm : w.1 43 m = -4 := by rw [c m, if_pos ⟨by omega, hm⟩]
    have cj : w.1 43 j = -4 := by rw [c j, if_pos ⟨by omega, hj⟩]
    rw [p3]
    unfold ftu
    rw [cm, cj]
    by_cases e : j = m
    · rw [if_pos ⟨e, rfl⟩, if_pos e]
    · rw [if_neg (fun z => e z.1), if_neg e]
theorem lays_l {m : Int32} {N : Nat} (n8 : N ≤ 8) : ∀ (K i : Nat) (w : uk_Mem), N < i + K → i ≤ N → w.1 60 3 = nI N → (∀ j, (l_X7_lays_6 m K (nI i) w).1 71 j = if j = 0 then m else w.1 71 j) ∧ (∀ j, (l_X7_lays_6 m K (nI i) w).1 60 j = if j = 22 then 1 else w.1 60 j) ∧ (∀ j, (l_X7_lays_6 m K (nI i) w).1 62 j = if i + 8 ≤ j ∧ j < N + 8 then 0 else w.1 62 j) ∧ ∀ c, ¬ c = 60 → ¬ c = 62 → ¬ c = 71 → (l_X7_lays_6 m K (nI i) w).1 c = w.1 c := by
  intro K
  induction K with
  | zero => intro i w h1 h2; omega
  | succ K ih =>
    intro i w h1 h2 h3
    rw [l_X7_lays_6]
    dsimp only
    rw [h3]
    by_cases e : i = N
    · subst e
      rw [if_pos (Int32.le_refl _), show (0 : Int32).toNatClampNeg = 0 from rfl]
      refine ⟨fun j => ?_, fun j => ?_, fun j => ?_, fun c a1 a2 a3 => ?_⟩
      · rw [uk_up_oc (by decide), uk_up_at]
        simp
      · rw [uk_up_at, uk_up_oc (by decide)]
        simp
      · rw [uk_up_oc (by decide), uk_up_oc (by decide), if_neg (by omega)]
      · rw [uk_up_oc a1, uk_up_oc a3]
    · rw [if_neg (nI_ge (by omega) (by omega)), n8' (by omega), nI_1]
      obtain ⟨a, b, c, d⟩ := ih (i + 1) (uk_up w 62 (i + 8) 0) (by omega) (by omega) (by rw [uk_up_oc (by decide)]; exact h3)
      refine ⟨fun j => by rw [a j, uk_up_oc (by decide)], fun j => by rw [b j, uk_up_oc (by decide)], fun j => ?_, fun q h1 h2 h3 => by rw [d q h1 h2 h3, uk_up_oc h2]⟩
      rw [c j, uk_up_at]
      by_cases q : j = i + 8
      · rw [if_neg (by omega), if_pos ⟨rfl, q⟩, if_pos (by omega)]
      · by_cases q2 : i + 1 + 8 ≤ j ∧ j < N + 8
        · rw [if_pos q2, if_pos (by omega)]
        · rw [if_neg q2, if_neg (fun z => q z.2), if_neg (by omega)]
theorem nn {a : Int32} (h : 0 ≤ a) : a = nI a.toNatClampNeg := by
  obtain ⟨j, hj, rfl⟩ := nI_of (x := a) (by lia)
  rw [nI_clamp hj]
/-- what the kitchen says of its stuffs -/
def kdv (v : uk_Mem) : Nat → Int32 := fun x => v.1 61 (x + 32)
def pav (v : uk_Mem) : Nat → Nat := fun x => (v.1 64 x).toNatClampNeg
def pbv (v : uk_Mem) : Nat → Nat := fun x => (v.1 65 x).toNatClampNeg
theorem mk_e {u v : uk_Mem} {N : Nat} (n8 : N ≤ 8) (hN : v.1 60 3 = nI N) (hri : ri v) (hK : KR u v 13 61 0) : MK N (kdv v) (pav v) (pbv v) ∧ CK u N (kdv v) (pav v) (pbv v) ∧ ∀ x, x < N → ¬ kdv v x = 4 → v.1 64 x = nI (pav v x) ∧ v.1 65 x = nI (pbv v x) := by
  have hr := hri.1
  have key : ∀ x, x < N → ¬ kdv v x = 4 → (0 ≤ v.1 64 x ∧ v.1 64 x < nI x ∧ 0 ≤ v.1 65 x ∧ v.1 65 x < nI x) := fun x hx hk => by
    have := hr (nI x) (nI_pos' (by omega)) (by rw [hN]; exact nI_lt hx (by omega)) (nI_le (a := x) (b := 7) (by omega) (by omega))
    rw [n32 (by omega), nI_clamp (by omega)] at this
    exact this.resolve_left hk
  have par : ∀ x, x < N → ¬ kdv v x = 4 → v.1 64 x = nI (pav v x) ∧ v.1 65 x = nI (pbv v x) := fun x hx hk => ⟨nn (key x hx hk).1, nn (key x hx hk).2.2.1⟩
  refine ⟨⟨n8, fun x hx => ?_⟩, fun x hx => ?_, par⟩
  · by_cases hk : kdv v x = 4
    · exact Or.inl hk
    · obtain ⟨a0, a1, b0, b1⟩ := key x hx hk
      have ca := uk_cll a0 a1
      have cb := uk_cll b0 b1
      rw [nI_clamp (by omega)] at ca cb
      exact Or.inr ⟨ca, cb⟩
  · obtain ⟨j1, -, -, -, -, j6⟩ := hK.2.2.2.2.1 x (by rw [hN, nI_clamp (by omega)]; exact hx)
    refine ⟨j1, fun hk => ?_⟩
    have p := par x hx hk
    exact ⟨(j6 hk).1.trans p.1, (j6 hk).2.trans p.2⟩
/-- the reference's row at first -/
theorem lays_e {v : uk_Mem} {N m : Nat} (n8 : N ≤ 8) (hN : v.1 60 3 = nI N) (par : ∀ x, x < N → ¬ kdv v x = 4 → v.1 64 x = nI (pav v x) ∧ v.1 65 x = nI (pbv v x)) : RKs (e_X7_lays v (nI m)) N (kdv v) (pav v) (pbv v) ∧ RLs (e_X7_lays v (nI m)) N [m] (fun _ => 0) ∧ (∀ c, ¬ c = 60 → ¬ c = 62 → ¬ c = 71 → (e_X7_lays v (nI m)).1 c = v.1 c) ∧ ∀ j, ¬ j = 22 → (e_X7_lays v (nI m)).1 60 j = v.1 60 j := by
  have s60 : (e_X7_starts v).1 60 = v.1 60 := starts_c (by decide)
  obtain ⟨a, b, c, d⟩ := lays_l (m := nI m) n8 ee_K 0 (e_X7_starts v) (by unfold ee_K; omega) (by omega) (by rw [s60]; exact hN)
  have e : e_X7_lays v (nI m) = l_X7_lays_6 (nI m) ee_K (nI 0) (e_X7_starts v) := rfl
  rw [e]
  refine ⟨fun x hx => ?_, ⟨?_, fun i hi => ?_, fun j hj => ?_⟩, fun q h1 h2 h3 => by rw [d q h1 h2 h3, starts_c h2], fun j hj => by rw [b j, if_neg hj, s60]⟩
  · rw [c, if_neg (by omega), starts_j (by omega), d 64 (by decide) (by decide) (by decide), d 65 (by decide) (by decide) (by decide), starts_c (by decide), starts_c (by decide)]
    exact ⟨rfl, par x hx⟩
  · rw [b, if_pos rfl]
    rfl
  · simp only [List.length_singleton] at hi
    rw [a, if_pos (by omega), show i = 0 by omega]
    rfl
  · rw [c, if_pos (by omega)]
theorem GD_1 {N m : Nat} {kd : Nat → Int32} (n8 : N ≤ 8) (hm : m < N) : GD N kd [] [m] 0 := by
  have p : 2 ^ m ≤ 2 ^ 7 := Nat.pow_le_pow_right (by omega) (by omega)
  have q : (2 : Nat) ^ 7 = 128 := rfl
  refine ⟨fun y hy => ?_, fun y hy => by simp at hy, ?_, ?_, fun i hi => ?_⟩
  · simp only [List.nil_append, List.mem_singleton] at hy
    omega
  · simp only [List.nil_append, po2]
    omega
  · simp only [pof]
    omega
  · simp only [List.length_singleton] at hi ⊢
    rw [show i = 0 by omega, if_pos rfl, List.getD_cons_zero]
    omega
/-- both mills leave the same row -/
theorem mills_e {u v : uk_Mem} {N m n n7 : Nat} (hn : (n7 = n ∧ n ≤ 127) ∨ (n = 127 ∧ n7 = 128)) (n8 : N ≤ 8) (hN : v.1 60 3 = nI N) (hri : ri v) (hK : KR u v 13 61 0) (hm : m < N) : ∃ (R : List Nat) (T : Nat) (h : Nat → Int32), FN (e_X1_grind u (nI m) (nI n)) R T ∧ RLs (e_X7_mills v (nI m) (nI n7)).2 N R h ∧ (e_X7_mills v (nI m) (nI n7)).1 = nI T ∧ (∀ y, y ∈ R → y < N) ∧ R.length ≤ 128 ∧ T ≤ 127 ∧ (∀ c, ¬ c = 60 → ¬ c = 62 → ¬ c = 71 → (e_X7_mills v (nI m) (nI n7)).2.1 c = v.1 c) ∧ (∀ j, ¬ j = 22 → (e_X7_mills v (nI m) (nI n7)).2.1 60 j = v.1 60 j) ∧ ∀ c, ¬ (41 ≤ c ∧ c ≤ 45) → (e_X1_grind u (nI m) (nI n)).1 c = u.1 c := by
  obtain ⟨mk, ck, par⟩ := mk_e n8 hN hri hK
  obtain ⟨s1, s2, s3⟩ := start_e (u := u) (m := m) (by omega)
  obtain ⟨l1, l2, l3, l4⟩ := lays_e (m := m) n8 hN par
  obtain ⟨R, T, h, c1, c2, c3, c4, c5, c6, c7, c8, c9⟩ := mill_l mk hn ee_K [] [m] (fun _ => 0) 0 ee_K (e_X1_start u (nI m)) (e_X7_lays v (nI m)) (by unfold ee_K; omega) (by unfold ee_K; omega) (by omega) (GD_1 n8 hm) (CK_cg ck (s2 14 (by omega)) (s2 15 (by omega)) (s2 16 (by omega))) l1 s1 l2
  exact ⟨R, T, h, c1, c2, c3, c4, c5, c6, fun c h1 h2 h3 => (c7 c h1 h2 h3).trans (l3 c h1 h2 h3), fun j hj => (c8 j hj).trans (l4 j hj), fun c hc => (c9 c hc).trans (s2 c hc)⟩
theorem mills_h {u v : uk_Mem} {N m : Nat} (n8 : N ≤ 8) (hN : v.1 60 3 = nI N) (hri : ri v) (hK : KR u v 13 61 0) (hm : m < N) : ∃ (R : List Nat) (T : Nat) (h : Nat → Int32), FN (e_X1_grind u (nI m) 127) R T ∧ RLs (h_X7_mills v (nI m)).2 N R h ∧ (h_X7_mills v (nI m)).1 = nI T ∧ (∀ y, y ∈ R → y < N) ∧ R.length ≤ 128 ∧ T ≤ 127 ∧ (∀ c, ¬ c = 60 → ¬ c = 62 → ¬ c = 71 → (h_X7_mills v (nI m)).2.1 c = v.1 c) ∧ (∀ j, ¬ j = 22 → (h_X7_mills v (nI m)).2.1 60 j = v.1 60 j) ∧ ∀ c, ¬ (41 ≤ c ∧ c ≤ 45) → (e_X1_grind u (nI m) 127).1 c = u.1 c := by
  have q := mills_e (n := 127) (n7 := 128) (Or.inr ⟨rfl, rfl⟩) n8 hN hri hK hm
  rw [show nI 127 = (127 : Int32) by decide, show nI 128 = (128 : Int32) by decide] at q
  rw [h_X7_mills_eq]
  exact q
theorem NN {v : uk_Mem} (hv : iv v) : ∃ N : Nat, N ≤ 8 ∧ v.1 60 3 = nI N := by
  have hn : 0 ≤ v.1 60 3 ∧ v.1 60 3 ≤ 8 := iv_at hv 60 3 rfl
  obtain ⟨j, hj, e⟩ := nI_of2 (x := v.1 60 3) (M := 8) (n := 8) rfl (by lia) hn.2
  exact ⟨j, hj, e⟩
theorem st_n {v : uk_Mem} {N : Nat} {m : Int32} (hv : iv v) (n8 : N ≤ 8) (hN : v.1 60 3 = nI N) (h : ¬ e_X7_isStuff v m = 0) : ∃ k, k < N ∧ m = nI k := by
  have hm := isStuff_n (iv_at hv 60 3 rfl) h
  rw [hN] at hm
  obtain ⟨k, hk, rfl⟩ := nI_of (x := m) (by lia)
  exact ⟨k, (nI_ltI hk (by omega)).mp hm.2, rfl⟩
def l_X6_loss_31 (u7 : uk_Mem) (m : Int32) : Nat → Int32 → Int32 → Int32 × uk_Mem
  | 0, _, _ => (0, u7)
  | K9 + 1, i11, w10 => let x12 : Int32 := u7.1 41 1; if x12 ≤ i11 then (let x18 : Int32 := (e_X0_rawCost u7 13 m).1; let u16 : uk_Mem := (e_X0_rawCost u7 13 m).2; let x20 : Int32 := x18 - w10; (x20, u16)) else (let x22 : Int32 := u7.1 42 i11.toNatClampNeg; let x26 : Int32 := (e_X0_isMade u7 13 x22); if x26 = 0 then (let x29 : Int32 := u7.1 18 x22.toNatClampNeg; let x30 : Int32 := w10 + x29; l_X6_loss_31 u7 m K9 (i11 + 1) x30) else (let x31 : Int32 := w10 + (0 : Int32); l_X6_loss_31 u7 m K9 (i11 + 1) x31))
def e_X6_loss (u : uk_Mem) (m : Int32) : Int32 × uk_Mem := let x4 : Int32 := (e_X0_hasStuff u 13 m); if x4 = 0 then (((-1 : Int32), u)) else (let u7 : uk_Mem := e_X1_grind u m (127 : Int32); l_X6_loss_31 u7 m ee_K (0 : Int32) (0 : Int32))
abbrev qe_X6_loss (u : uk_Mem) (m : Int32) (r : Option Value) (u' : uk_Mem) : Prop := (q_X6_loss u m r u') ∧ (r = some (.int (e_X6_loss u m).1) ∧ u' = (e_X6_loss u m).2)
set_option maxHeartbeats 4000000 in
set_option maxRecDepth 20000 in
theorem x_X6_loss {G : uk_D} (hs : uk_Sep G) {u : uk_Mem} (hu : iv u) (m : Int32) (d : Nat) : uk_Meth G (d + 3) mX6_loss [.ref (uk_ad G 0), .int m] u (qe_X6_loss u m) := by
  refine uk_Meth.of hs (by decide) (Nat.le_of_ble_eq_true rfl) (fun X => ?_)
  have f0 : fr 41 58 u u := fr_rf
  refine g_aload_n dX6_loss_0 rfl ?_
  refine f_X6_10 rfl rfl dX6_loss_1 ?_
  refine g_iload_n dX6_loss_4 rfl ?_
  refine cl_X6_118 (c := 13) (As := [.int m]) rfl (x_X0_hasStuff (G := G) hs hu uk_isK13 m  (d + 2)) rfl (by omega) rfl rfl (Nat.le_of_ble_eq_true rfl) dX6_loss_5 (fun r1 u2 q3 => ?_)
  obtain ⟨q3, Eq3⟩ := q3
  obtain ⟨⟨x4, rfl, tx4, nx4, zx4⟩, mq3⟩ := q3
  rw [mq3]
  have ex4 : x4 = (e_X0_hasStuff u 13 m) := ee_v Eq3
  refine g_if_ne (tgt := 13) dX6_loss_8 (by decide) (fun c5 => ?_) (fun c5 => ?_)
  · have zc5 := nx4 c5
    refine g_aload_n dX6_loss_13 rfl ?_
    refine f_X6_48 rfl rfl dX6_loss_14 ?_
    refine g_aload_n dX6_loss_17 rfl ?_
    refine f_X6_10 rfl rfl dX6_loss_18 ?_
    refine g_iload_n dX6_loss_21 rfl ?_
    refine g_bipush (v := 127) dX6_loss_22 (by decide) ?_
    refine cl_X6_177 (c := 41) (As := [.ref (uk_ad G 13), .int m, .int 127]) rfl (x_X1_grind (G := G) hs hu  m 127 (by first | trivial | decide | lia | grind) (by first | trivial | decide | lia | grind) (d)) rfl (by omega) rfl rfl (Nat.le_of_ble_eq_true rfl) dX6_loss_24 (fun r6 u7 q8 => ?_)
    obtain ⟨q8, Eq8⟩ := q8
    obtain ⟨rfl, mq8⟩ := q8
    obtain ⟨hu7, gu7⟩ := mq8
    have fu7 : fr 41 58 u u7 := fr_tr f0 gu7 (by omega) (by omega)
    have eu7 : u7 = e_X1_grind u m (127 : Int32) := Eq8
    refine g_iconst (v := 0) dX6_loss_27 (by decide) ?_
    refine g_istore_n dX6_loss_28 (by decide) ?_
    refine g_pick (lv' := [(0, .ref (uk_ad G 0)), (1, .int m), (2, .int 0)]) [0, 1, 2] rfl ?_
    refine g_iconst (v := 0) dX6_loss_29 (by decide) ?_
    refine g_istore_n dX6_loss_30 (by decide) ?_
    refine g_pick (lv' := [(0, .ref (uk_ad G 0)), (1, .int m), (2, .int 0), (3, .int 0)]) [0, 1, 2, 3] rfl ?_
    have L31_8 : ∀ i11 : Int32, 0 ≤ i11 → i11 ≤ 128 → ∀ (w10 : Int32), (∃ ki11 : Nat, ee_F 128 i11 ki11 ∧ e_X6_loss u m = l_X6_loss_31 u7 m ki11 i11 w10) → uk_G G X mX6_loss (d + 3) (qe_X6_loss u m) 31 [(0, .ref (uk_ad G 0)), (1, .int m), (2, .int w10), (3, .int i11)] [] u7 := by
      refine uk_upl 128 ?_
      intro i11 ai11 bi11 ihi11 w10 jEi11
      obtain ⟨ki11, fki11, hki11⟩ := jEi11
      obtain ⟨ki11, rfl⟩ := ee_Fp (by first | assumption | lia | grind) fki11
      refine g_iload_n dX6_loss_31 rfl ?_
      refine g_aload_n dX6_loss_32 rfl ?_
      refine f_X6_48 rfl rfl dX6_loss_33 ?_
      refine f_X6_184 rfl rfl dX6_loss_36 ?_
      refine g_topi (fun x12 ex12 => ?_)
      have rx12 : 0 ≤ x12 ∧ x12 ≤ 128 := by rw [ex12]; exact iv_at hu7 _ _ rfl
      have s13 : u7.1 41 1 = x12 := ex12.symm
      refine g_icmp_ge (tgt := 88) dX6_loss_39 (by decide) (fun c14 => ?_) (fun c14 => ?_)
      · refine g_aload_n dX6_loss_88 rfl ?_
        refine f_X6_10 rfl rfl dX6_loss_89 ?_
        refine g_iload_n dX6_loss_92 rfl ?_
        refine g_aload_n dX6_loss_93 rfl ?_
        refine f_X6_66 rfl rfl dX6_loss_94 ?_
        refine cl_X6_173 (c := 13) (As := [.int m, .ref (uk_ad G 57)]) rfl (x_X0_rawCost (G := G) hs hu7 uk_isK13 m (by first | trivial | decide | lia | grind) (by first | trivial | decide | lia | grind) (d)) rfl (by omega) rfl rfl (Nat.le_of_ble_eq_true rfl) dX6_loss_97 (fun r15 u16 q17 => ?_)
        obtain ⟨q17, Eq17⟩ := q17
        obtain ⟨⟨x18, rfl, tx18⟩, mq17⟩ := q17
        obtain ⟨hu16, gu16⟩ := mq17
        have fu16 : fr 41 58 u u16 := fr_tr fu7 gu16 (by omega) (by omega)
        have s19 : u16.1 41 1 = x12 := (fr_at gu16 (by omega)).trans s13
        have ex18 : x18 = (e_X0_rawCost u7 13 m).1 := ee_v Eq17.1
        have eu16 : u16 = (e_X0_rawCost u7 13 m).2 := Eq17.2
        refine g_iload_n dX6_loss_100 rfl ?_
        refine g_isub dX6_loss_101 ?_
        refine g_topi (fun x20 ex20 => ?_)
        exact g_iret (ty := .int) dX6_loss_102 rfl rfl ⟨⟨⟨_, rfl, by first | trivial | lia | grind⟩, hu16, fu16⟩, ee_i (by subst ex20; subst eu16; subst ex18; subst ex12; exact hki11.trans ((if_pos c14).trans (rfl)))⟩
      · refine g_aload_n dX6_loss_42 rfl ?_
        refine f_X6_48 rfl rfl dX6_loss_43 ?_
        refine f_X6_185 rfl rfl dX6_loss_46 ?_
        refine g_iload_n dX6_loss_49 rfl ?_
        have v21 : vp_in i11 128 := uk_vin 128 rfl (by first | decide | lia | grind) (by first | decide | lia | grind)
        refine g_iald rfl rfl v21 dX6_loss_50 ?_
        refine g_topi (fun x22 ex22 => ?_)
        have bx22 := uk_cl v21
        have rx22 : 0 ≤ x22 ∧ x22 ≤ 7 := by rw [ex22]; exact iv_at hu7 _ _ (uk_pick1 _ (by omega))
        refine g_istore dX6_loss_51 (by decide) ?_
        refine g_pick (lv' := [(0, .ref (uk_ad G 0)), (1, .int m), (2, .int w10), (3, .int i11), (4, .int x22)]) [0, 1, 2, 3, 4] rfl ?_
        refine g_iload_n dX6_loss_53 rfl ?_
        refine g_aload_n dX6_loss_54 rfl ?_
        refine f_X6_10 rfl rfl dX6_loss_55 ?_
        refine g_iload dX6_loss_58 rfl ?_
        refine cl_X6_122 (c := 13) (As := [.int x22]) rfl (x_X0_isMade (G := G) hs hu7 uk_isK13 x22 (by first | trivial | decide | lia | grind) (by first | trivial | decide | lia | grind) (d + 2)) rfl (by omega) rfl rfl (Nat.le_of_ble_eq_true rfl) dX6_loss_60 (fun r23 u24 q25 => ?_)
        obtain ⟨q25, Eq25⟩ := q25
        obtain ⟨⟨x26, rfl, tx26, nx26, zx26⟩, mq25⟩ := q25
        rw [mq25]
        have ex26 : x26 = (e_X0_isMade u7 13 x22) := ee_v Eq25
        refine g_if_eq (tgt := 70) dX6_loss_63 (by decide) (fun c27 => ?_) (fun c27 => ?_)
        · have zc27 := zx26 c27
          refine g_aload_n dX6_loss_70 rfl ?_
          refine f_X6_10 rfl rfl dX6_loss_71 ?_
          refine f_X6_137 rfl rfl dX6_loss_74 ?_
          refine g_iload dX6_loss_77 rfl ?_
          have v28 : vp_in x22 8 := uk_vin 8 rfl (by first | decide | lia | grind) (by first | decide | lia | grind)
          refine g_iald rfl rfl v28 dX6_loss_79 ?_
          refine g_topi (fun x29 ex29 => ?_)
          refine g_iadd dX6_loss_80 ?_
          refine g_topi (fun x30 ex30 => ?_)
          refine g_istore_n dX6_loss_81 (by decide) ?_
          refine g_pick (lv' := [(0, .ref (uk_ad G 0)), (1, .int m), (2, .int x30), (3, .int i11), (4, .int x22)]) [0, 1, 2, 3, 4] rfl ?_
          refine g_iinc (v := i11 + 1) dX6_loss_82 rfl rfl (by decide) ?_
          refine g_pick (lv' := [(0, .ref (uk_ad G 0)), (1, .int m), (2, .int x30), (3, .int (i11 + 1)), (4, .int x22)]) [0, 1, 2, 3, 4] rfl ?_
          refine g_goto (tgt := 31) dX6_loss_85 (by decide) ?_
          refine g_pick (lv' := [(0, .ref (uk_ad G 0)), (1, .int m), (2, .int x30), (3, .int (i11 + 1))]) [0, 1, 2, 3] rfl ?_
          exact ihi11 (by first | lia | grind) x30  ⟨ki11, ee_Fs fki11 (by first | assumption | lia | grind), by subst ex30; subst ex29; subst ex26; subst ex22; subst ex12; exact hki11.trans ((if_neg c14).trans ((if_pos c27).trans (rfl)))⟩
        · have zc27 := nx26 c27
          refine g_iconst (v := 0) dX6_loss_66 (by decide) ?_
          refine g_goto (tgt := 80) dX6_loss_67 (by decide) ?_
          refine g_iadd dX6_loss_80 ?_
          refine g_topi (fun x31 ex31 => ?_)
          refine g_istore_n dX6_loss_81 (by decide) ?_
          refine g_pick (lv' := [(0, .ref (uk_ad G 0)), (1, .int m), (2, .int x31), (3, .int i11), (4, .int x22)]) [0, 1, 2, 3, 4] rfl ?_
          refine g_iinc (v := i11 + 1) dX6_loss_82 rfl rfl (by decide) ?_
          refine g_pick (lv' := [(0, .ref (uk_ad G 0)), (1, .int m), (2, .int x31), (3, .int (i11 + 1)), (4, .int x22)]) [0, 1, 2, 3, 4] rfl ?_
          refine g_goto (tgt := 31) dX6_loss_85 (by decide) ?_
          refine g_pick (lv' := [(0, .ref (uk_ad G 0)), (1, .int m), (2, .int x31), (3, .int (i11 + 1))]) [0, 1, 2, 3] rfl ?_
          exact ihi11 (by first | lia | grind) x31  ⟨ki11, ee_Fs fki11 (by first | assumption | lia | grind), by subst ex31; subst ex26; subst ex22; subst ex12; exact hki11.trans ((if_neg c14).trans ((if_neg c27).trans (rfl)))⟩
    refine g_pick (lv' := [(0, .ref (uk_ad G 0)), (1, .int m), (2, .int 0), (3, .int 0)]) [0, 1, 2, 3] rfl ?_
    exact L31_8 0 (by first | decide | lia | grind) (by first | decide | lia | grind) 0  ⟨ee_K, ee_F0 _ _, by subst eu7; subst ex4; exact (if_neg c5).trans (rfl)⟩
  · have zc5 := zx4 c5
    refine g_iconst (v := (-1)) dX6_loss_11 (by decide) ?_
    exact g_iret (ty := .int) dX6_loss_12 rfl rfl ⟨⟨⟨_, rfl, by first | trivial | lia | grind⟩, hu, f0⟩, ee_i (by subst ex4; exact (if_pos c5).trans (rfl))⟩
noncomputable def l_X7_loss_27 (u11 : uk_Mem) : Nat → Int32 → Int32 → Int32 × uk_Mem
  | 0, _, _ => (0, u11)
  | K9 + 1, i16, w15 => let x17 : Int32 := u11.1 60 22; if x17 ≤ i16 then ((w15, u11)) else (let x21 : Int32 := u11.1 71 i16.toNatClampNeg; let x25 : Int32 := (e_X7_isRaw u11 x21); if x25 = 0 then (let x27 : Int32 := w15 - (0 : Int32); l_X7_loss_27 u11 K9 (i16 + 1) x27) else (let x29 : Int32 := u11.1 71 i16.toNatClampNeg; let x30 : Int32 := (24 : Int32) + x29; let x32 : Int32 := u11.1 61 x30.toNatClampNeg; let x33 : Int32 := w15 - x32; l_X7_loss_27 u11 K9 (i16 + 1) x33))
noncomputable def e_X7_loss (u : uk_Mem) (m : Int32) : Int32 × uk_Mem := let x4 : Int32 := (e_X7_isStuff u m); if x4 = 0 then (((-1 : Int32), u)) else (let x9 : Int32 := (e_X7_cost u m).1; let u7 : uk_Mem := (e_X7_cost u m).2; let x13 : Int32 := (h_X7_mills u7 m).1; let u11 : uk_Mem := (h_X7_mills u7 m).2; l_X7_loss_27 u11 ee_K (0 : Int32) x9)
abbrev qe_X7_loss (u : uk_Mem) (m : Int32) (r : Option Value) (u' : uk_Mem) : Prop := (q_X7_loss u m r u') ∧ (r = some (.int (e_X7_loss u m).1) ∧ u' = (e_X7_loss u m).2)
set_option maxHeartbeats 4000000 in
set_option maxRecDepth 20000 in
theorem x_X7_loss {G : uk_D} (hs : uk_Sep G) {u : uk_Mem} (hu : iv u) (hri : ri u) (m : Int32) (d : Nat) : uk_Meth G (d + 3) mX7_loss [.ref (uk_ad G 60), .int m] u (qe_X7_loss u m) := by
  refine uk_Meth.of hs (by decide) (Nat.le_of_ble_eq_true rfl) (fun X => ?_)
  have f0 : fk [60, 62, 70, 71] [3, 7, 10, 11, 13, 14, 15, 16, 17, 18, 19, 28] u u := fk_rf
  refine g_aload_n dX7_loss_0 rfl ?_
  refine g_iload_n dX7_loss_1 rfl ?_
  refine cl_X7_163 (c := 60) (As := [.int m]) rfl (x_X7_isStuff (G := G) hs hu  m  (d + 1)) rfl (by omega) rfl rfl (Nat.le_of_ble_eq_true rfl) dX7_loss_2 (fun r1 u2 q3 => ?_)
  obtain ⟨q3, Eq3⟩ := q3
  obtain ⟨⟨x4, rfl, tx4, nx4, zx4⟩, mq3⟩ := q3
  rw [mq3]
  have ex4 : x4 = (e_X7_isStuff u m) := ee_v Eq3
  refine g_if_ne (tgt := 10) dX7_loss_5 (by decide) (fun c5 => ?_) (fun c5 => ?_)
  · have zc5 := nx4 c5
    refine g_aload_n dX7_loss_10 rfl ?_
    refine g_iload_n dX7_loss_11 rfl ?_
    refine cl_X7_226 (c := 60) (As := [.int m]) rfl (x_X7_cost (G := G) hs hu hri  m  (d)) rfl (by omega) rfl rfl (Nat.le_of_ble_eq_true rfl) dX7_loss_12 (fun r6 u7 q8 => ?_)
    obtain ⟨q8, Eq8⟩ := q8
    obtain ⟨⟨x9, rfl, tx9⟩, mq8⟩ := q8
    obtain ⟨hu7, gu7, riu7⟩ := mq8
    have fu7 : fk [60, 62, 70, 71] [3, 7, 10, 11, 13, 14, 15, 16, 17, 18, 19, 28] u u7 := fk_tr f0 gu7 (by decide) (by decide)
    have wu7_60_3 : u7.1 60 3 = u.1 60 3 := fk_at gu7 (by decide)
    have ex9 : x9 = (e_X7_cost u m).1 := ee_v Eq8.1
    have eu7 : u7 = (e_X7_cost u m).2 := Eq8.2
    refine g_istore_n dX7_loss_15 (by decide) ?_
    refine g_pick (lv' := [(0, .ref (uk_ad G 60)), (1, .int m), (2, .int x9)]) [0, 1, 2] rfl ?_
    refine g_aload_n dX7_loss_16 rfl ?_
    refine g_iload_n dX7_loss_17 rfl ?_
    refine g_sipush (v := 128) dX7_loss_18 (by decide) ?_
    refine cl_X7_220 (c := 60) (As := [.int m, .int 128]) rfl (x_X7_mills_h (G := G) hs hu7 riu7  m (by first | trivial | decide | lia | grind) (by first | trivial | decide | lia | grind) (by first | trivial | decide | lia | grind) (by first | trivial | decide | lia | grind) (d)) rfl (by omega) rfl rfl (Nat.le_of_ble_eq_true rfl) dX7_loss_21 (fun r10 u11 q12 => ?_)
    obtain ⟨q12, Eq12⟩ := q12
    obtain ⟨⟨x13, rfl, tx13⟩, mq12⟩ := q12
    obtain ⟨hu11, gu11, riu11, rau11, rpu11⟩ := mq12
    have fu11 : fk [60, 62, 70, 71] [3, 7, 10, 11, 13, 14, 15, 16, 17, 18, 19, 28] u u11 := fk_tr fu7 gu11 (by decide) (by decide)
    have wu11_60_3 : u11.1 60 3 = u7.1 60 3 := fk_at gu11 (by decide)
    have ex13 : x13 = (h_X7_mills u7 m).1 := ee_v Eq12.1
    have eu11 : u11 = (h_X7_mills u7 m).2 := Eq12.2
    refine g_pop dX7_loss_24 rfl ?_
    refine g_iconst (v := 0) dX7_loss_25 (by decide) ?_
    refine g_istore_n dX7_loss_26 (by decide) ?_
    refine g_pick (lv' := [(0, .ref (uk_ad G 60)), (1, .int m), (2, .int x9), (3, .int 0)]) [0, 1, 2, 3] rfl ?_
    have L27_13 : ∀ i16 : Int32, 0 ≤ i16 → i16 ≤ 255 → ∀ (w15 : Int32), (∃ ki16 : Nat, ee_F 255 i16 ki16 ∧ e_X7_loss u m = l_X7_loss_27 u11 ki16 i16 w15) → uk_G G X mX7_loss (d + 3) (qe_X7_loss u m) 27 [(0, .ref (uk_ad G 60)), (1, .int m), (2, .int w15), (3, .int i16)] [] u11 := by
      refine uk_upl 255 ?_
      intro i16 ai16 bi16 ihi16 w15 jEi16
      obtain ⟨ki16, fki16, hki16⟩ := jEi16
      obtain ⟨ki16, rfl⟩ := ee_Fp (by first | assumption | lia | grind) fki16
      refine g_iload_n dX7_loss_27 rfl ?_
      refine g_aload_n dX7_loss_28 rfl ?_
      refine f_X7_207 rfl rfl dX7_loss_29 ?_
      refine g_topi (fun x17 ex17 => ?_)
      have rx17 : 0 ≤ x17 ∧ x17 ≤ 255 := by rw [ex17]; exact iv_at hu11 _ _ rfl
      have s18 : u11.1 60 22 = x17 := ex17.symm
      refine g_icmp_ge (tgt := 75) dX7_loss_32 (by decide) (fun c19 => ?_) (fun c19 => ?_)
      · refine g_iload_n dX7_loss_75 rfl ?_
        exact g_iret (ty := .int) dX7_loss_76 rfl rfl ⟨⟨⟨_, rfl, by first | trivial | lia | grind⟩, hu11, fu11, riu11⟩, ee_i (by subst ex17; exact hki16.trans ((if_pos c19).trans (rfl)))⟩
      · refine g_iload_n dX7_loss_35 rfl ?_
        refine g_aload_n dX7_loss_36 rfl ?_
        refine g_aload_n dX7_loss_37 rfl ?_
        refine f_X7_41 rfl rfl dX7_loss_38 ?_
        refine g_iload_n dX7_loss_41 rfl ?_
        have v20 : vp_in i16 256 := uk_vin 256 rfl (by first | decide | lia | grind) (by first | decide | lia | grind)
        refine g_iald rfl rfl v20 dX7_loss_42 ?_
        refine g_topi (fun x21 ex21 => ?_)
        have bx21 := uk_cl v20
        have rx21 : 0 ≤ x21 ∧ x21 ≤ 7 := by rw [ex21]; exact iv_at hu11 _ _ (uk_pick1 _ (by omega))
        refine cl_X7_166 (c := 60) (As := [.int x21]) rfl (x_X7_isRaw (G := G) hs hu11  x21 (by first | trivial | decide | lia | grind) (by first | trivial | decide | lia | grind) (d + 2)) rfl (by omega) rfl rfl (Nat.le_of_ble_eq_true rfl) dX7_loss_43 (fun r22 u23 q24 => ?_)
        obtain ⟨q24, Eq24⟩ := q24
        obtain ⟨⟨x25, rfl, tx25, nx25, zx25⟩, mq24⟩ := q24
        rw [mq24]
        have ex25 : x25 = (e_X7_isRaw u11 x21) := ee_v Eq24
        refine g_if_eq (tgt := 66) dX7_loss_46 (by decide) (fun c26 => ?_) (fun c26 => ?_)
        · have zc26 := zx25 c26
          refine g_iconst (v := 0) dX7_loss_66 (by decide) ?_
          refine g_isub dX7_loss_67 ?_
          refine g_topi (fun x27 ex27 => ?_)
          refine g_istore_n dX7_loss_68 (by decide) ?_
          refine g_pick (lv' := [(0, .ref (uk_ad G 60)), (1, .int m), (2, .int x27), (3, .int i16)]) [0, 1, 2, 3] rfl ?_
          refine g_iinc (v := i16 + 1) dX7_loss_69 rfl rfl (by decide) ?_
          refine g_pick (lv' := [(0, .ref (uk_ad G 60)), (1, .int m), (2, .int x27), (3, .int (i16 + 1))]) [0, 1, 2, 3] rfl ?_
          refine g_goto (tgt := 27) dX7_loss_72 (by decide) ?_
          refine g_pick (lv' := [(0, .ref (uk_ad G 60)), (1, .int m), (2, .int x27), (3, .int (i16 + 1))]) [0, 1, 2, 3] rfl ?_
          exact ihi16 (by first | lia | grind) x27  ⟨ki16, ee_Fs fki16 (by first | assumption | lia | grind), by subst ex27; subst ex25; subst ex21; subst ex17; exact hki16.trans ((if_neg c19).trans ((if_pos c26).trans (rfl)))⟩
        · have zc26 := nx25 c26
          refine g_aload_n dX7_loss_49 rfl ?_
          refine f_X7_7 rfl rfl dX7_loss_50 ?_
          refine g_bipush (v := 24) dX7_loss_53 (by decide) ?_
          refine g_aload_n dX7_loss_55 rfl ?_
          refine f_X7_41 rfl rfl dX7_loss_56 ?_
          refine g_iload_n dX7_loss_59 rfl ?_
          have v28 : vp_in i16 256 := uk_vin 256 rfl (by first | decide | lia | grind) (by first | decide | lia | grind)
          refine g_iald rfl rfl v28 dX7_loss_60 ?_
          refine g_topi (fun x29 ex29 => ?_)
          have bx29 := uk_cl v28
          have rx29 : 0 ≤ x29 ∧ x29 ≤ 7 := by rw [ex29]; exact iv_at hu11 _ _ (uk_pick1 _ (by omega))
          refine g_iadd dX7_loss_61 ?_
          refine g_topi (fun x30 ex30 => ?_)
          have v31 : vp_in x30 153 := uk_vin 153 rfl (by first | decide | lia | grind) (by first | decide | lia | grind)
          refine g_iald rfl rfl v31 dX7_loss_62 ?_
          refine g_topi (fun x32 ex32 => ?_)
          have bx32 := uk_cl v31
          refine g_goto (tgt := 67) dX7_loss_63 (by decide) ?_
          refine g_isub dX7_loss_67 ?_
          refine g_topi (fun x33 ex33 => ?_)
          refine g_istore_n dX7_loss_68 (by decide) ?_
          refine g_pick (lv' := [(0, .ref (uk_ad G 60)), (1, .int m), (2, .int x33), (3, .int i16)]) [0, 1, 2, 3] rfl ?_
          refine g_iinc (v := i16 + 1) dX7_loss_69 rfl rfl (by decide) ?_
          refine g_pick (lv' := [(0, .ref (uk_ad G 60)), (1, .int m), (2, .int x33), (3, .int (i16 + 1))]) [0, 1, 2, 3] rfl ?_
          refine g_goto (tgt := 27) dX7_loss_72 (by decide) ?_
          refine g_pick (lv' := [(0, .ref (uk_ad G 60)), (1, .int m), (2, .int x33), (3, .int (i16 + 1))]) [0, 1, 2, 3] rfl ?_
          exact ihi16 (by first | lia | grind) x33  ⟨ki16, ee_Fs fki16 (by first | assumption | lia | grind), by subst ex33; subst ex32; subst ex30; subst ex29; subst ex25; subst ex21; subst ex17; exact hki16.trans ((if_neg c19).trans ((if_neg c26).trans (rfl)))⟩
    refine g_pick (lv' := [(0, .ref (uk_ad G 60)), (1, .int m), (2, .int x9), (3, .int 0)]) [0, 1, 2, 3] rfl ?_
    exact L27_13 0 (by first | decide | lia | grind) (by first | decide | lia | grind) x9  ⟨ee_K, ee_F0 _ _, by subst eu11; subst ex13; subst eu7; subst ex9; subst ex4; exact (if_neg c5).trans (rfl)⟩
  · have zc5 := zx4 c5
    refine g_iconst (v := (-1)) dX7_loss_8 (by decide) ?_
    exact g_iret (ty := .int) dX7_loss_9 rfl rfl ⟨⟨⟨_, rfl, by first | trivial | lia | grind⟩, hu, f0, hri⟩, ee_i (by subst ex4; exact (if_pos c5).trans (rfl))⟩
