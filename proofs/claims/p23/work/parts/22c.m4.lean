abbrev q_X7_does (u : uk_Mem) (g : Int32) (r : Option Value) (u' : uk_Mem) : Prop := (∃ x : Int32, r = some (.int x) ∧ True) ∧ (iv u' ∧ fk [61, 62] [] u u' ∧ ri u')
set_option maxHeartbeats 4000000 in
set_option maxRecDepth 20000 in
theorem c_X7_does {G : uk_D} (hs : uk_Sep G) {u : uk_Mem} (hu : iv u) (hri : ri u) (g : Int32) (d : Nat) : uk_Meth G (d + 3) mX7_does [.ref (uk_ad G 60), .int g] u (q_X7_does u g) := by
  refine uk_Meth.of hs (by decide) (Nat.le_of_ble_eq_true rfl) (fun X => ?_)
  have f0 : fk [61, 62] [] u u := fk_rf
  refine g_aload_n dX7_does_0 rfl ?_
  refine g_iload_n dX7_does_1 rfl ?_
  refine cl_X7_182 (c := 60) (As := [.int g]) rfl (c_X7_isDoing (G := G) hs hu  g  (d)) rfl (by omega) rfl rfl (Nat.le_of_ble_eq_true rfl) dX7_does_2 (fun r1 u2 q3 => ?_)
  obtain ⟨⟨x4, rfl, tx4, nx4, zx4⟩, mq3⟩ := q3
  rw [mq3]
  refine g_if_ne (tgt := 10) dX7_does_5 (by decide) (fun c5 => ?_) (fun c5 => ?_)
  · have zc5 := nx4 c5
    refine g_aload_n dX7_does_10 rfl ?_
    refine cl_X7_185 (c := 60) (As := []) rfl (c_X7_starts (G := G) hs hu hri    (d + 2)) rfl (by omega) rfl rfl (Nat.le_of_ble_eq_true rfl) dX7_does_11 (fun r6 u7 q8 => ?_)
    obtain ⟨rfl, mq8⟩ := q8
    obtain ⟨hu7, gu7, rau7, ku70⟩ := mq8
    have fu7 : fk [61, 62] [] u u7 := fk_tr f0 gu7 (by decide) (by decide)
    have riu7 : ri u7 := ri_fk hri gu7 (by decide) (by decide) (by decide) (by decide) (by decide)
    have wu7_60_3 : u7.1 60 3 = u.1 60 3 := fk_at gu7 (by decide)
    refine g_aload_n dX7_does_14 rfl ?_
    refine g_iload_n dX7_does_15 rfl ?_
    refine cl_X7_188 (c := 60) (As := [.int g]) rfl (c_X7_canDo (G := G) hs hu7 rau7  g (by first | trivial | decide | lia | grind) (d)) rfl (by omega) rfl rfl (Nat.le_of_ble_eq_true rfl) dX7_does_16 (fun r9 u10 q11 => ?_)
    obtain ⟨⟨x12, rfl, tx12, nx12, zx12⟩, mq11⟩ := q11
    rw [mq11]
    refine g_if_ne (tgt := 25) dX7_does_19 (by decide) (fun c13 => ?_) (fun c13 => ?_)
    · have zc13 := nx12 c13
      refine g_aload_n dX7_does_25 rfl ?_
      refine g_iload_n dX7_does_26 rfl ?_
      refine cl_X7_191 (c := 60) (As := [.int g]) rfl (c_X7_doIt (G := G) hs hu7 rau7  g (by first | trivial | decide | lia | grind) (by first | trivial | decide | lia | grind) (by first | trivial | decide | lia | grind) (d + 1)) rfl (by omega) rfl rfl (Nat.le_of_ble_eq_true rfl) dX7_does_27 (fun r14 u15 q16 => ?_)
      obtain ⟨rfl, mq16⟩ := q16
      obtain ⟨hu15, gu15, rau15⟩ := mq16
      have fu15 : fk [61, 62] [] u u15 := fk_tr fu7 gu15 (by decide) (by decide)
      have riu15 : ri u15 := ri_fk riu7 gu15 (by decide) (by decide) (by decide) (by decide) (by decide)
      have wu15_60_3 : u15.1 60 3 = u7.1 60 3 := fk_at gu15 (by decide)
      refine g_aload_n dX7_does_30 rfl ?_
      refine cl_X7_194 (c := 60) (As := []) rfl (c_X7_ends (G := G) hs hu15 riu15 rau15    (d + 2)) rfl (by omega) rfl rfl (Nat.le_of_ble_eq_true rfl) dX7_does_31 (fun r17 u18 q19 => ?_)
      obtain ⟨rfl, mq19⟩ := q19
      obtain ⟨hu18, gu18, riu18⟩ := mq19
      have fu18 : fk [61, 62] [] u u18 := fk_tr fu15 gu18 (by decide) (by decide)
      have rau18 : ra u18 := ra_fk rau15 gu18 (by decide) (by decide) (by decide) (by decide)
      have wu18_60_3 : u18.1 60 3 = u15.1 60 3 := fk_at gu18 (by decide)
      refine g_aload_n dX7_does_34 rfl ?_
      refine f_X7_7 rfl rfl dX7_does_35 ?_
      refine g_iconst (v := 0) dX7_does_38 (by decide) ?_
      refine g_iload_n dX7_does_39 rfl ?_
      refine g_bipush (v := 10) dX7_does_40 (by decide) ?_
      refine g_irem dX7_does_42 (by first | decide | lia | grind) ?_
      refine g_topi (fun x20 ex20 => ?_)
      have nx20 := uk_r10 ex20
      refine g_iadd dX7_does_43 ?_
      refine g_topi (fun x21 ex21 => ?_)
      have ox21 : x21 = x20 := by rw [ex21, Int32.zero_add]
      have v22 : vp_in x21 153 := uk_vin 153 rfl (by first | decide | lia | grind) (by first | decide | lia | grind)
      refine g_iald rfl rfl v22 dX7_does_44 ?_
      refine g_topi (fun x23 ex23 => ?_)
      have bx23 := uk_cl v22
      have rx23 : 0 ≤ x23 ∧ x23 ≤ 40 := by rw [ex23]; exact sg_0 hu18 (by unfold uk_is51; decide) (by first | lia | grind) (by first | lia | grind)
      exact g_iret (ty := .int) dX7_does_45 rfl rfl ⟨⟨_, rfl, by first | trivial | lia | grind⟩, hu18, fu18, riu18⟩
    · have zc13 := zx12 c13
      refine g_bipush (v := (-2)) dX7_does_22 (by decide) ?_
      exact g_iret (ty := .int) dX7_does_24 rfl rfl ⟨⟨_, rfl, by first | trivial | lia | grind⟩, hu7, fu7, riu7⟩
  · have zc5 := zx4 c5
    refine g_iconst (v := (-1)) dX7_does_8 (by decide) ?_
    exact g_iret (ty := .int) dX7_does_9 rfl rfl ⟨⟨_, rfl, by first | trivial | lia | grind⟩, hu, f0, hri⟩
abbrev q_X7_eat (u : uk_Mem) (m : Int32) (r : Option Value) (u' : uk_Mem) : Prop := (∃ x : Int32, r = some (.int x) ∧ True) ∧ (iv u' ∧ fk [61] [] u u' ∧ ri u')
set_option maxHeartbeats 4000000 in
set_option maxRecDepth 20000 in
theorem c_X7_eat {G : uk_D} (hs : uk_Sep G) {u : uk_Mem} (hu : iv u) (hri : ri u) (m : Int32) (d : Nat) : uk_Meth G (d + 2) mX7_eat [.ref (uk_ad G 60), .int m] u (q_X7_eat u m) := by
  refine uk_Meth.of hs (by decide) (Nat.le_of_ble_eq_true rfl) (fun X => ?_)
  have f0 : fk [61] [] u u := fk_rf
  refine g_aload_n dX7_eat_0 rfl ?_
  refine g_iload_n dX7_eat_1 rfl ?_
  refine cl_X7_163 (c := 60) (As := [.int m]) rfl (c_X7_isStuff (G := G) hs hu  m  (d)) rfl (by omega) rfl rfl (Nat.le_of_ble_eq_true rfl) dX7_eat_2 (fun r1 u2 q3 => ?_)
  obtain ⟨⟨x4, rfl, tx4, nx4, zx4⟩, mq3⟩ := q3
  rw [mq3]
  refine g_if_ne (tgt := 10) dX7_eat_5 (by decide) (fun c5 => ?_) (fun c5 => ?_)
  · have zc5 := nx4 c5
    refine g_aload_n dX7_eat_10 rfl ?_
    refine f_X7_7 rfl rfl dX7_eat_11 ?_
    refine g_iconst (v := 0) dX7_eat_14 (by decide) ?_
    refine g_iload_n dX7_eat_15 rfl ?_
    refine g_iadd dX7_eat_16 ?_
    refine g_topi (fun x6 ex6 => ?_)
    have ox6 : x6 = m := by rw [ex6, Int32.zero_add]
    have v7 : vp_in x6 153 := uk_vin 153 rfl (by first | decide | lia | grind) (by first | decide | lia | grind)
    refine g_iald rfl rfl v7 dX7_eat_17 ?_
    refine g_topi (fun x8 ex8 => ?_)
    have bx8 := uk_cl v7
    have rx8 : 0 ≤ x8 ∧ x8 ≤ 40 := by rw [ex8]; exact sg_0 hu (by unfold uk_is51; decide) (by first | lia | grind) (by first | lia | grind)
    refine g_if_ne (tgt := 24) dX7_eat_18 (by decide) (fun c9 => ?_) (fun c9 => ?_)
    · refine g_aload_n dX7_eat_24 rfl ?_
      refine f_X7_7 rfl rfl dX7_eat_25 ?_
      refine g_iconst (v := 0) dX7_eat_28 (by decide) ?_
      refine g_iload_n dX7_eat_29 rfl ?_
      refine g_iadd dX7_eat_30 ?_
      refine g_topi (fun x10 ex10 => ?_)
      have ox10 : x10 = m := by rw [ex10, Int32.zero_add]
      refine g_dup2 dX7_eat_31 rfl rfl ?_
      have v11 : vp_in x10 153 := uk_vin 153 rfl (by first | decide | lia | grind) (by first | decide | lia | grind)
      refine g_iald rfl rfl v11 dX7_eat_32 ?_
      refine g_topi (fun x12 ex12 => ?_)
      have bx12 := uk_cl v11
      have rx12 : 0 ≤ x12 ∧ x12 ≤ 40 := by rw [ex12]; exact sg_0 hu (by unfold uk_is51; decide) (by first | lia | grind) (by first | lia | grind)
      refine g_iconst (v := 1) dX7_eat_33 (by decide) ?_
      refine g_isub dX7_eat_34 ?_
      refine g_topi (fun x13 ex13 => ?_)
      have v14 : vp_in x10 153 := uk_vin 153 rfl (by first | decide | lia | grind) (by first | decide | lia | grind)
      have b15 := uk_cl v14
      refine g_iast rfl rfl v14 dX7_eat_35 ?_
      refine g_mem (fun u16 eu16 => ?_)
      have hu16 : iv u16 := by rw [eu16]; exact iv_st hu (by unfold uk_is51; decide) (by first | decide | lia | grind) (by first | decide | lia | grind) (fun q => by first | decide | lia | grind) (fun q => by first | decide | lia | grind) (fun q => by first | decide | lia | grind)
      have fu16 : fk [61] [] u u16 := by rw [eu16]; exact fk_up f0 (by decide) (fun q => absurd q (by decide))
      have riu16 : ri u16 := by rw [eu16]; exact ri_st hri (by first | decide | lia | grind) (by first | decide | lia | grind)
      refine g_aload_n dX7_eat_36 rfl ?_
      refine f_X7_7 rfl rfl dX7_eat_37 ?_
      refine g_bipush (v := 40) dX7_eat_40 (by decide) ?_
      refine g_dup2 dX7_eat_42 rfl rfl ?_
      have v17 : vp_in 40 153 := uk_vin 153 rfl (by first | decide | lia | grind) (by first | decide | lia | grind)
      refine g_iald rfl rfl v17 dX7_eat_43 ?_
      refine g_topi (fun x18 ex18 => ?_)
      have bx18 := uk_cl v17
      refine g_aload_n dX7_eat_44 rfl ?_
      refine f_X7_7 rfl rfl dX7_eat_45 ?_
      refine g_bipush (v := 16) dX7_eat_48 (by decide) ?_
      refine g_iload_n dX7_eat_50 rfl ?_
      refine g_iadd dX7_eat_51 ?_
      refine g_topi (fun x19 ex19 => ?_)
      have v20 : vp_in x19 153 := uk_vin 153 rfl (by first | decide | lia | grind) (by first | decide | lia | grind)
      refine g_iald rfl rfl v20 dX7_eat_52 ?_
      refine g_topi (fun x21 ex21 => ?_)
      have bx21 := uk_cl v20
      refine g_iadd dX7_eat_53 ?_
      refine g_topi (fun x22 ex22 => ?_)
      have v23 : vp_in 40 153 := uk_vin 153 rfl (by first | decide | lia | grind) (by first | decide | lia | grind)
      have b24 := uk_cl v23
      refine g_iast rfl rfl v23 dX7_eat_54 ?_
      refine g_mem (fun u25 eu25 => ?_)
      have hu25 : iv u25 := by rw [eu25]; exact iv_st hu16 (by unfold uk_is51; decide) (by first | decide | lia | grind) (by first | decide | lia | grind) (fun q => by first | decide | lia | grind) (fun q => by first | decide | lia | grind) (fun q => by first | decide | lia | grind)
      have fu25 : fk [61] [] u u25 := by rw [eu25]; exact fk_up fu16 (by decide) (fun q => absurd q (by decide))
      have riu25 : ri u25 := by rw [eu25]; exact ri_st riu16 (by first | decide | lia | grind) (by first | decide | lia | grind)
      refine g_aload_n dX7_eat_55 rfl ?_
      refine f_X7_7 rfl rfl dX7_eat_56 ?_
      refine g_bipush (v := 40) dX7_eat_59 (by decide) ?_
      have v26 : vp_in 40 153 := uk_vin 153 rfl (by first | decide | lia | grind) (by first | decide | lia | grind)
      refine g_iald rfl rfl v26 dX7_eat_61 ?_
      refine g_topi (fun x27 ex27 => ?_)
      have bx27 := uk_cl v26
      exact g_iret (ty := .int) dX7_eat_62 rfl rfl ⟨⟨_, rfl, by first | trivial | lia | grind⟩, hu25, fu25, riu25⟩
    · refine g_bipush (v := (-2)) dX7_eat_21 (by decide) ?_
      exact g_iret (ty := .int) dX7_eat_23 rfl rfl ⟨⟨_, rfl, by first | trivial | lia | grind⟩, hu, f0, hri⟩
  · have zc5 := zx4 c5
    refine g_iconst (v := (-1)) dX7_eat_8 (by decide) ?_
    exact g_iret (ty := .int) dX7_eat_9 rfl rfl ⟨⟨_, rfl, by first | trivial | lia | grind⟩, hu, f0, hri⟩
abbrev q_X7_can (u : uk_Mem) (w : Int32) (r : Option Value) (u' : uk_Mem) : Prop := (∃ x : Int32, r = some (.int x) ∧ True) ∧ (iv u' ∧ fk [62] [] u u' ∧ ri u')
set_option maxHeartbeats 4000000 in
set_option maxRecDepth 20000 in
theorem c_X7_can {G : uk_D} (hs : uk_Sep G) {u : uk_Mem} (hu : iv u) (hri : ri u) (w : Int32) (d : Nat) : uk_Meth G (d + 3) mX7_can [.ref (uk_ad G 60), .int w] u (q_X7_can u w) := by
  refine uk_Meth.of hs (by decide) (Nat.le_of_ble_eq_true rfl) (fun X => ?_)
  have f0 : fk [62] [] u u := fk_rf
  refine g_iload_n dX7_can_0 rfl ?_
  refine cl_X7_197 (As := [.int w]) rfl (c_X7_isPart (G := G) hs hu  w  (d + 1)) rfl (by omega) rfl (Nat.le_of_ble_eq_true rfl) dX7_can_1 (fun r1 u2 q3 => ?_)
  obtain ⟨⟨x4, rfl, tx4, nx4, zx4⟩, mq3⟩ := q3
  rw [mq3]
  refine g_if_ne (tgt := 9) dX7_can_4 (by decide) (fun c5 => ?_) (fun c5 => ?_)
  · have zc5 := nx4 c5
    refine g_iconst (v := 0) dX7_can_9 (by decide) ?_
    refine g_istore_n dX7_can_10 (by decide) ?_
    refine g_aload_n dX7_can_11 rfl ?_
    refine cl_X7_185 (c := 60) (As := []) rfl (c_X7_starts (G := G) hs hu hri    (d + 2)) rfl (by omega) rfl rfl (Nat.le_of_ble_eq_true rfl) dX7_can_12 (fun r6 u7 q8 => ?_)
    obtain ⟨rfl, mq8⟩ := q8
    obtain ⟨hu7, gu7, rau7, ku70⟩ := mq8
    have fu7 : fk [62] [] u u7 := fk_tr f0 gu7 (by decide) (by decide)
    have riu7 : ri u7 := ri_fk hri gu7 (by decide) (by decide) (by decide) (by decide) (by decide)
    have wu7_60_3 : u7.1 60 3 = u.1 60 3 := fk_at gu7 (by decide)
    refine g_iconst (v := 0) dX7_can_15 (by decide) ?_
    refine g_istore_n dX7_can_16 (by decide) ?_
    have L17_8 : ∀ i11 : Int32, 0 ≤ i11 → i11 ≤ 8 → ∀ (w10 : Int32), uk_G G X mX7_can (d + 3) (q_X7_can u w) 17 [(0, .ref (uk_ad G 60)), (1, .int w), (2, .int w10), (3, .int i11)] [] u7 := by
      refine uk_upl 8 ?_
      intro i11 ai11 bi11 ihi11 w10
      refine g_iload_n dX7_can_17 rfl ?_
      refine g_aload_n dX7_can_18 rfl ?_
      refine f_X7_79 rfl rfl dX7_can_19 ?_
      refine g_topi (fun x12 ex12 => ?_)
      have rx12 : 0 ≤ x12 ∧ x12 ≤ 8 := by rw [ex12]; exact iv_at hu7 _ _ rfl
      have s13 : u7.1 60 3 = x12 := ex12.symm
      refine g_icmp_ge (tgt := 49) dX7_can_22 (by decide) (fun c14 => ?_) (fun c14 => ?_)
      · refine g_iload_n dX7_can_49 rfl ?_
        exact g_iret (ty := .int) dX7_can_50 rfl rfl ⟨⟨_, rfl, by first | trivial | lia | grind⟩, hu7, fu7, riu7⟩
      · refine g_iload_n dX7_can_25 rfl ?_
        refine g_aload_n dX7_can_26 rfl ?_
        refine g_bipush (v := 10) dX7_can_27 (by decide) ?_
        refine g_iload_n dX7_can_29 rfl ?_
        refine g_imul dX7_can_30 ?_
        refine g_topi (fun x15 ex15 => ?_)
        refine g_iload_n dX7_can_31 rfl ?_
        refine g_iadd dX7_can_32 ?_
        refine g_topi (fun x16 ex16 => ?_)
        refine cl_X7_188 (c := 60) (As := [.int x16]) rfl (c_X7_canDo (G := G) hs hu7 rau7  x16 (by first | trivial | decide | lia | grind) (d)) rfl (by omega) rfl rfl (Nat.le_of_ble_eq_true rfl) dX7_can_33 (fun r17 u18 q19 => ?_)
        obtain ⟨⟨x20, rfl, tx20, nx20, zx20⟩, mq19⟩ := q19
        rw [mq19]
        refine cl_X7_169 (As := [.int x20]) rfl (c_X7_flag (G := G) hs hu7  x20  (d + 2)) rfl (by omega) rfl (Nat.le_of_ble_eq_true rfl) dX7_can_36 (fun r21 u22 q23 => ?_)
        obtain ⟨⟨x24, rfl, tx24⟩, mq23⟩ := q23
        rw [mq23]
        refine g_iload_n dX7_can_39 rfl ?_
        refine g_ishl dX7_can_40 (fun x25 ex25 => ?_)
        refine g_ior dX7_can_41 ?_
        refine g_topi (fun x26 ex26 => ?_)
        refine g_istore_n dX7_can_42 (by decide) ?_
        refine g_iinc (v := i11 + 1) dX7_can_43 rfl rfl (by decide) ?_
        refine g_goto (tgt := 17) dX7_can_46 (by decide) ?_
        refine g_pick (lv' := [(0, .ref (uk_ad G 60)), (1, .int w), (2, .int x26), (3, .int (i11 + 1))]) [0, 1, 2, 3] rfl ?_
        exact ihi11 (by first | lia | grind) x26 
    refine g_pick (lv' := [(0, .ref (uk_ad G 60)), (1, .int w), (2, .int 0), (3, .int 0)]) [0, 1, 2, 3] rfl ?_
    exact L17_8 0 (by first | decide | lia | grind) (by first | decide | lia | grind) 0 
  · have zc5 := zx4 c5
    refine g_iconst (v := (-1)) dX7_can_7 (by decide) ?_
    exact g_iret (ty := .int) dX7_can_8 rfl rfl ⟨⟨_, rfl, by first | trivial | lia | grind⟩, hu, f0, hri⟩
