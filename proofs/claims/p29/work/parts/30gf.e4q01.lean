def l_X7_can_17 (u7 : uk_Mem) (w : Int32) : Nat → Int32 → Int32 → Int32 × uk_Mem
  | 0, _, _ => (0, u7)
  | K9 + 1, i11, w10 => let x12 : Int32 := u7.1 60 3; if x12 ≤ i11 then ((w10, u7)) else (let x15 : Int32 := (10 : Int32) * w; let x16 : Int32 := x15 + i11; let x20 : Int32 := (e_X7_canDo u7 x16); let x24 : Int32 := (e_X7_flag u7 x20); let x25 : Int32 := x24 <<< (i11 &&& 31); let x26 : Int32 := w10 ||| x25; l_X7_can_17 u7 w K9 (i11 + 1) x26)
def e_X7_can (u : uk_Mem) (w : Int32) : Int32 × uk_Mem := let x4 : Int32 := (e_X7_isPart u w); if x4 = 0 then (((-1 : Int32), u)) else (let u7 : uk_Mem := e_X7_starts u; l_X7_can_17 u7 w ee_K (0 : Int32) (0 : Int32))
abbrev qe_X7_can (u : uk_Mem) (w : Int32) (r : Option Value) (u' : uk_Mem) : Prop := (q_X7_can u w r u') ∧ (r = some (.int (e_X7_can u w).1) ∧ u' = (e_X7_can u w).2)
set_option maxHeartbeats 4000000 in
set_option maxRecDepth 20000 in
theorem x_X7_can {G : uk_D} (hs : uk_Sep G) {u : uk_Mem} (hu : iv u) (hri : ri u) (w : Int32) (d : Nat) : uk_Meth G (d + 3) mX7_can [.ref (uk_ad G 60), .int w] u (qe_X7_can u w) := by
  refine uk_Meth.of hs (by decide) (Nat.le_of_ble_eq_true rfl) (fun X => ?_)
  have f0 : fk [62] [] u u := fk_rf
  refine g_iload_n dX7_can_0 rfl ?_
  refine cl_X7_197 (As := [.int w]) rfl (x_X7_isPart (G := G) hs hu  w  (d + 1)) rfl (by omega) rfl (Nat.le_of_ble_eq_true rfl) dX7_can_1 (fun r1 u2 q3 => ?_)
  obtain ⟨q3, Eq3⟩ := q3
  obtain ⟨⟨x4, rfl, tx4, nx4, zx4⟩, mq3⟩ := q3
  rw [mq3]
  have ex4 : x4 = (e_X7_isPart u w) := ee_v Eq3
  refine g_if_ne (tgt := 9) dX7_can_4 (by decide) (fun c5 => ?_) (fun c5 => ?_)
  · have zc5 := nx4 c5
    refine g_iconst (v := 0) dX7_can_9 (by decide) ?_
    refine g_istore_n dX7_can_10 (by decide) ?_
    refine g_pick (lv' := [(0, .ref (uk_ad G 60)), (1, .int w), (2, .int 0)]) [0, 1, 2] rfl ?_
    refine g_aload_n dX7_can_11 rfl ?_
    refine cl_X7_185 (c := 60) (As := []) rfl (x_X7_starts (G := G) hs hu hri    (d + 2)) rfl (by omega) rfl rfl (Nat.le_of_ble_eq_true rfl) dX7_can_12 (fun r6 u7 q8 => ?_)
    obtain ⟨q8, Eq8⟩ := q8
    obtain ⟨rfl, mq8⟩ := q8
    obtain ⟨hu7, gu7, rau7, ku70⟩ := mq8
    have fu7 : fk [62] [] u u7 := fk_tr f0 gu7 (by decide) (by decide)
    have riu7 : ri u7 := ri_fk hri gu7 (by decide) (by decide) (by decide) (by decide) (by decide)
    have wu7_60_3 : u7.1 60 3 = u.1 60 3 := fk_at gu7 (by decide)
    have eu7 : u7 = e_X7_starts u := Eq8
    refine g_iconst (v := 0) dX7_can_15 (by decide) ?_
    refine g_istore_n dX7_can_16 (by decide) ?_
    refine g_pick (lv' := [(0, .ref (uk_ad G 60)), (1, .int w), (2, .int 0), (3, .int 0)]) [0, 1, 2, 3] rfl ?_
    have L17_8 : ∀ i11 : Int32, 0 ≤ i11 → i11 ≤ 8 → ∀ (w10 : Int32), (∃ ki11 : Nat, ee_F 8 i11 ki11 ∧ e_X7_can u w = l_X7_can_17 u7 w ki11 i11 w10) → uk_G G X mX7_can (d + 3) (qe_X7_can u w) 17 [(0, .ref (uk_ad G 60)), (1, .int w), (2, .int w10), (3, .int i11)] [] u7 := by
      refine uk_upl 8 ?_
      intro i11 ai11 bi11 ihi11 w10 jEi11
      obtain ⟨ki11, fki11, hki11⟩ := jEi11
      obtain ⟨ki11, rfl⟩ := ee_Fp (by first | assumption | lia | grind) fki11
      refine g_iload_n dX7_can_17 rfl ?_
      refine g_aload_n dX7_can_18 rfl ?_
      refine f_X7_79 rfl rfl dX7_can_19 ?_
      refine g_topi (fun x12 ex12 => ?_)
      have rx12 : 0 ≤ x12 ∧ x12 ≤ 8 := by rw [ex12]; exact iv_at hu7 _ _ rfl
      have s13 : u7.1 60 3 = x12 := ex12.symm
      refine g_icmp_ge (tgt := 49) dX7_can_22 (by decide) (fun c14 => ?_) (fun c14 => ?_)
      · refine g_iload_n dX7_can_49 rfl ?_
        exact g_iret (ty := .int) dX7_can_50 rfl rfl ⟨⟨⟨_, rfl, by first | trivial | lia | grind⟩, hu7, fu7, riu7⟩, ee_i (by subst ex12; exact hki11.trans ((if_pos c14).trans (rfl)))⟩
      · refine g_iload_n dX7_can_25 rfl ?_
        refine g_aload_n dX7_can_26 rfl ?_
        refine g_bipush (v := 10) dX7_can_27 (by decide) ?_
        refine g_iload_n dX7_can_29 rfl ?_
        refine g_imul dX7_can_30 ?_
        refine g_topi (fun x15 ex15 => ?_)
        refine g_iload_n dX7_can_31 rfl ?_
        refine g_iadd dX7_can_32 ?_
        refine g_topi (fun x16 ex16 => ?_)
        refine cl_X7_188 (c := 60) (As := [.int x16]) rfl (x_X7_canDo (G := G) hs hu7 rau7  x16 (by first | trivial | decide | lia | grind) (d)) rfl (by omega) rfl rfl (Nat.le_of_ble_eq_true rfl) dX7_can_33 (fun r17 u18 q19 => ?_)
        obtain ⟨q19, Eq19⟩ := q19
        obtain ⟨⟨x20, rfl, tx20, nx20, zx20⟩, mq19⟩ := q19
        rw [mq19]
        have ex20 : x20 = (e_X7_canDo u7 x16) := ee_v Eq19
        refine cl_X7_169 (As := [.int x20]) rfl (x_X7_flag (G := G) hs hu7  x20  (d + 2)) rfl (by omega) rfl (Nat.le_of_ble_eq_true rfl) dX7_can_36 (fun r21 u22 q23 => ?_)
        obtain ⟨q23, Eq23⟩ := q23
        obtain ⟨⟨x24, rfl, tx24⟩, mq23⟩ := q23
        rw [mq23]
        have ex24 : x24 = (e_X7_flag u7 x20) := ee_v Eq23
        refine g_iload_n dX7_can_39 rfl ?_
        refine g_ishl dX7_can_40 (fun x25 ex25 => ?_)
        refine g_ior dX7_can_41 ?_
        refine g_topi (fun x26 ex26 => ?_)
        refine g_istore_n dX7_can_42 (by decide) ?_
        refine g_pick (lv' := [(0, .ref (uk_ad G 60)), (1, .int w), (2, .int x26), (3, .int i11)]) [0, 1, 2, 3] rfl ?_
        refine g_iinc (v := i11 + 1) dX7_can_43 rfl rfl (by decide) ?_
        refine g_pick (lv' := [(0, .ref (uk_ad G 60)), (1, .int w), (2, .int x26), (3, .int (i11 + 1))]) [0, 1, 2, 3] rfl ?_
        refine g_goto (tgt := 17) dX7_can_46 (by decide) ?_
        refine g_pick (lv' := [(0, .ref (uk_ad G 60)), (1, .int w), (2, .int x26), (3, .int (i11 + 1))]) [0, 1, 2, 3] rfl ?_
        exact ihi11 (by first | lia | grind) x26  ⟨ki11, ee_Fs fki11 (by first | assumption | lia | grind), by subst ex26; subst ex25; subst ex24; subst ex20; subst ex16; subst ex15; subst ex12; exact hki11.trans ((if_neg c14).trans (rfl))⟩
    refine g_pick (lv' := [(0, .ref (uk_ad G 60)), (1, .int w), (2, .int 0), (3, .int 0)]) [0, 1, 2, 3] rfl ?_
    exact L17_8 0 (by first | decide | lia | grind) (by first | decide | lia | grind) 0  ⟨ee_K, ee_F0 _ _, by subst eu7; subst ex4; exact (if_neg c5).trans (rfl)⟩
  · have zc5 := zx4 c5
    refine g_iconst (v := (-1)) dX7_can_7 (by decide) ?_
    exact g_iret (ty := .int) dX7_can_8 rfl rfl ⟨⟨⟨_, rfl, by first | trivial | lia | grind⟩, hu, f0, hri⟩, ee_i (by subst ex4; exact (if_pos c5).trans (rfl))⟩
def e_X7_isSheet (u : uk_Mem) (k : Int32) (l : Int32) : Int32 := let x4 : Int32 := (e_X7_in u k (0 : Int32) (3 : Int32)); if x4 = 0 then ((0 : Int32)) else (let x9 : Int32 := (e_X7_in u l (0 : Int32) (2 : Int32)); if x9 = 0 then ((0 : Int32)) else ((1 : Int32)))
abbrev qe_X7_isSheet (u : uk_Mem) (k : Int32) (l : Int32) (r : Option Value) (u' : uk_Mem) : Prop := (q_X7_isSheet u k l r u') ∧ (r = some (.int (e_X7_isSheet u k l)))
set_option maxHeartbeats 4000000 in
set_option maxRecDepth 20000 in
theorem x_X7_isSheet {G : uk_D} (hs : uk_Sep G) {u : uk_Mem} (hu : iv u) (k : Int32) (l : Int32) (d : Nat) : uk_Meth G (d + 1) mX7_isSheet [.int k, .int l] u (qe_X7_isSheet u k l) := by
  refine uk_Meth.of hs (by decide) (Nat.le_of_ble_eq_true rfl) (fun X => ?_)
  refine g_iload_n dX7_isSheet_0 rfl ?_
  refine g_i2l dX7_isSheet_1 ?_
  refine g_lconst (v := 0) dX7_isSheet_2 (by decide) ?_
  refine g_ldc2 (v := 3) k_X7_180 dX7_isSheet_3 ?_
  refine cl_X7_84 (As := [.long k.toInt64, .long 0, .long 3]) rfl (x_X7_in (G := G) hs hu  k 0 3  (d)) rfl (by omega) rfl (Nat.le_of_ble_eq_true rfl) dX7_isSheet_6 (fun r1 u2 q3 => ?_)
  obtain ⟨q3, Eq3⟩ := q3
  obtain ⟨⟨x4, rfl, tx4, nx4, zx4⟩, mq3⟩ := q3
  rw [mq3]
  have ex4 : x4 = (e_X7_in u k (0 : Int32) (3 : Int32)) := ee_v Eq3
  refine g_if_eq (tgt := 28) dX7_isSheet_9 (by decide) (fun c5 => ?_) (fun c5 => ?_)
  · have zc5 := zx4 c5
    refine g_iconst (v := 0) dX7_isSheet_28 (by decide) ?_
    exact g_iret (ty := .boolean) dX7_isSheet_29 rfl rfl ⟨⟨⟨0, rfl, Or.inl rfl, fun q => absurd rfl q, fun _ => by first | trivial | lia | grind⟩, rfl⟩, ee_p (by subst ex4; exact (if_pos c5).trans (rfl))⟩
  · have zc5 := nx4 c5
    refine g_iload_n dX7_isSheet_12 rfl ?_
    refine g_i2l dX7_isSheet_13 ?_
    refine g_lconst (v := 0) dX7_isSheet_14 (by decide) ?_
    refine g_ldc2 (v := 2) k_X7_271 dX7_isSheet_15 ?_
    refine cl_X7_84 (As := [.long l.toInt64, .long 0, .long 2]) rfl (x_X7_in (G := G) hs hu  l 0 2  (d)) rfl (by omega) rfl (Nat.le_of_ble_eq_true rfl) dX7_isSheet_18 (fun r6 u7 q8 => ?_)
    obtain ⟨q8, Eq8⟩ := q8
    obtain ⟨⟨x9, rfl, tx9, nx9, zx9⟩, mq8⟩ := q8
    rw [mq8]
    have ex9 : x9 = (e_X7_in u l (0 : Int32) (2 : Int32)) := ee_v Eq8
    refine g_if_eq (tgt := 28) dX7_isSheet_21 (by decide) (fun c10 => ?_) (fun c10 => ?_)
    · have zc10 := zx9 c10
      refine g_iconst (v := 0) dX7_isSheet_28 (by decide) ?_
      exact g_iret (ty := .boolean) dX7_isSheet_29 rfl rfl ⟨⟨⟨0, rfl, Or.inl rfl, fun q => absurd rfl q, fun _ => by first | trivial | lia | grind⟩, rfl⟩, ee_p (by subst ex9; subst ex4; exact (if_neg c5).trans ((if_pos c10).trans (rfl)))⟩
    · have zc10 := nx9 c10
      refine g_iconst (v := 1) dX7_isSheet_24 (by decide) ?_
      refine g_goto (tgt := 29) dX7_isSheet_25 (by decide) ?_
      exact g_iret (ty := .boolean) dX7_isSheet_29 rfl rfl ⟨⟨⟨1, rfl, Or.inr rfl, fun _ => by first | trivial | lia | grind, fun q => absurd q (by decide)⟩, rfl⟩, ee_p (by subst ex9; subst ex4; exact (if_neg c5).trans ((if_neg c10).trans (rfl)))⟩
def l_X7_sheet_40 (k : Int32) : Nat → Int32 → uk_Mem → Int32 × uk_Mem
  | 0, _, u16 => (0, u16)
  | K9 + 1, i15, u16 => if (40 : Int32) ≤ i15 then (((1 : Int32), u16)) else (let x18 : Int32 := (40 : Int32) * k; let x19 : Int32 := x18 + i15; let u22 : uk_Mem := uk_up u16 76 x19.toNatClampNeg (0 : Int32); l_X7_sheet_40 k K9 (i15 + 1) u22)
def e_X7_sheet (u : uk_Mem) (k : Int32) (l : Int32) (n : Int32) : Int32 × uk_Mem := let x4 : Int32 := (e_X7_isSheet u k l); if x4 = 0 then (((-1 : Int32), u)) else (if n ≤ (40 : Int32) then (if 0 ≤ n then (let u10 : uk_Mem := uk_up u 74 k.toNatClampNeg l; let u13 : uk_Mem := uk_up u10 75 k.toNatClampNeg n; l_X7_sheet_40 k ee_K (0 : Int32) u13) else (((-14 : Int32), u))) else (((-1 : Int32), u)))
abbrev qe_X7_sheet (u : uk_Mem) (k : Int32) (l : Int32) (n : Int32) (r : Option Value) (u' : uk_Mem) : Prop := (q_X7_sheet u k l n r u') ∧ (r = some (.int (e_X7_sheet u k l n).1) ∧ u' = (e_X7_sheet u k l n).2)
set_option maxHeartbeats 4000000 in
set_option maxRecDepth 20000 in
theorem x_X7_sheet {G : uk_D} (hs : uk_Sep G) {u : uk_Mem} (hu : iv u) (k : Int32) (l : Int32) (n : Int32) (d : Nat) : uk_Meth G (d + 2) mX7_sheet [.ref (uk_ad G 60), .int k, .int l, .int n] u (qe_X7_sheet u k l n) := by
  refine uk_Meth.of hs (by decide) (Nat.le_of_ble_eq_true rfl) (fun X => ?_)
  have f0 : fk [74, 75, 76] [] u u := fk_rf
  refine g_iload_n dX7_sheet_0 rfl ?_
  refine g_iload_n dX7_sheet_1 rfl ?_
  refine cl_X7_273 (As := [.int k, .int l]) rfl (x_X7_isSheet (G := G) hs hu  k l  (d)) rfl (by omega) rfl (Nat.le_of_ble_eq_true rfl) dX7_sheet_2 (fun r1 u2 q3 => ?_)
  obtain ⟨q3, Eq3⟩ := q3
  obtain ⟨⟨x4, rfl, tx4, nx4, zx4⟩, mq3⟩ := q3
  rw [mq3]
  have ex4 : x4 = (e_X7_isSheet u k l) := ee_v Eq3
  refine g_if_eq (tgt := 14) dX7_sheet_5 (by decide) (fun c5 => ?_) (fun c5 => ?_)
  · have zc5 := zx4 c5
    refine g_iconst (v := (-1)) dX7_sheet_14 (by decide) ?_
    exact g_iret (ty := .int) dX7_sheet_15 rfl rfl ⟨⟨⟨_, rfl, by first | trivial | lia | grind⟩, hu, f0⟩, ee_i (by subst ex4; exact (if_pos c5).trans (rfl))⟩
  · have zc5 := nx4 c5
    refine g_iload_n dX7_sheet_8 rfl ?_
    refine g_bipush (v := 40) dX7_sheet_9 (by decide) ?_
    refine g_icmp_le (tgt := 16) dX7_sheet_11 (by decide) (fun c6 => ?_) (fun c6 => ?_)
    · refine g_iload_n dX7_sheet_16 rfl ?_
      refine g_if_ge (tgt := 23) dX7_sheet_17 (by decide) (fun c7 => ?_) (fun c7 => ?_)
      · refine g_aload_n dX7_sheet_23 rfl ?_
        refine f_X7_51 rfl rfl dX7_sheet_24 ?_
        refine g_iload_n dX7_sheet_27 rfl ?_
        refine g_iload_n dX7_sheet_28 rfl ?_
        have v8 : vp_in k 4 := uk_vin 4 rfl (by first | decide | lia | grind) (by first | decide | lia | grind)
        have b9 := uk_cl v8
        refine g_iast rfl rfl v8 dX7_sheet_29 ?_
        refine g_mem (fun u10 eu10 => ?_)
        have hu10 : iv u10 := by rw [eu10]; exact iv_upF hu (uk_pick1 _ (by omega))
        have fu10 : fk [74, 75, 76] [] u u10 := by rw [eu10]; exact fk_up f0 (by decide) (fun q => absurd q (by decide))
        refine g_aload_n dX7_sheet_30 rfl ?_
        refine f_X7_54 rfl rfl dX7_sheet_31 ?_
        refine g_iload_n dX7_sheet_34 rfl ?_
        refine g_iload_n dX7_sheet_35 rfl ?_
        have v11 : vp_in k 4 := uk_vin 4 rfl (by first | decide | lia | grind) (by first | decide | lia | grind)
        have b12 := uk_cl v11
        refine g_iast rfl rfl v11 dX7_sheet_36 ?_
        refine g_mem (fun u13 eu13 => ?_)
        have hu13 : iv u13 := by rw [eu13]; exact iv_up hu10 (uk_pick1 _ (by omega)) (by first | lia | grind) (by first | lia | grind)
        have fu13 : fk [74, 75, 76] [] u u13 := by rw [eu13]; exact fk_up fu10 (by decide) (fun q => absurd q (by decide))
        refine g_iconst (v := 0) dX7_sheet_37 (by decide) ?_
        refine g_istore dX7_sheet_38 (by decide) ?_
        refine g_pick (lv' := [(0, .ref (uk_ad G 60)), (1, .int k), (2, .int l), (3, .int n), (4, .int 0)]) [0, 1, 2, 3, 4] rfl ?_
        have L40_13 : ∀ i15 : Int32, 0 ≤ i15 → i15 ≤ 40 → ∀ (u16 : uk_Mem), iv u16 → fk [74, 75, 76] [] u u16 → (∃ ki15 : Nat, ee_F 40 i15 ki15 ∧ e_X7_sheet u k l n = l_X7_sheet_40 k ki15 i15 u16) → uk_G G X mX7_sheet (d + 2) (qe_X7_sheet u k l n) 40 [(0, .ref (uk_ad G 60)), (1, .int k), (2, .int l), (3, .int n), (4, .int i15)] [] u16 := by
          refine uk_upl 40 ?_
          intro i15 ai15 bi15 ihi15  u16 hu16 fu16 jEi15
          obtain ⟨ki15, fki15, hki15⟩ := jEi15
          obtain ⟨ki15, rfl⟩ := ee_Fp (by first | assumption | lia | grind) fki15
          refine g_iload dX7_sheet_40 rfl ?_
          refine g_bipush (v := 40) dX7_sheet_42 (by decide) ?_
          refine g_icmp_ge (tgt := 66) dX7_sheet_44 (by decide) (fun c17 => ?_) (fun c17 => ?_)
          · refine g_iconst (v := 1) dX7_sheet_66 (by decide) ?_
            exact g_iret (ty := .int) dX7_sheet_67 rfl rfl ⟨⟨⟨_, rfl, by first | trivial | lia | grind⟩, hu16, fu16⟩, ee_i (by exact hki15.trans ((if_pos c17).trans (rfl)))⟩
          · refine g_aload_n dX7_sheet_47 rfl ?_
            refine f_X7_57 rfl rfl dX7_sheet_48 ?_
            refine g_bipush (v := 40) dX7_sheet_51 (by decide) ?_
            refine g_iload_n dX7_sheet_53 rfl ?_
            refine g_imul dX7_sheet_54 ?_
            refine g_topi (fun x18 ex18 => ?_)
            refine g_iload dX7_sheet_55 rfl ?_
            refine g_iadd dX7_sheet_57 ?_
            refine g_topi (fun x19 ex19 => ?_)
            refine g_iconst (v := 0) dX7_sheet_58 (by decide) ?_
            have v20 : vp_in x19 160 := uk_vin 160 rfl (by first | decide | lia | grind) (by first | decide | lia | grind)
            have b21 := uk_cl v20
            refine g_iast rfl rfl v20 dX7_sheet_59 ?_
            refine g_mem (fun u22 eu22 => ?_)
            have hu22 : iv u22 := by rw [eu22]; exact iv_upF hu16 (uk_pick1 _ (by omega))
            have fu22 : fk [74, 75, 76] [] u u22 := by rw [eu22]; exact fk_up fu16 (by decide) (fun q => absurd q (by decide))
            refine g_iinc (v := i15 + 1) dX7_sheet_60 rfl rfl (by decide) ?_
            refine g_pick (lv' := [(0, .ref (uk_ad G 60)), (1, .int k), (2, .int l), (3, .int n), (4, .int (i15 + 1))]) [0, 1, 2, 3, 4] rfl ?_
            refine g_goto (tgt := 40) dX7_sheet_63 (by decide) ?_
            refine g_pick (lv' := [(0, .ref (uk_ad G 60)), (1, .int k), (2, .int l), (3, .int n), (4, .int (i15 + 1))]) [0, 1, 2, 3, 4] rfl ?_
            exact ihi15 (by first | lia | grind)  u22 hu22 fu22  ⟨ki15, ee_Fs fki15 (by first | assumption | lia | grind), by subst eu22; subst ex19; subst ex18; exact hki15.trans ((if_neg c17).trans (rfl))⟩
        refine g_pick (lv' := [(0, .ref (uk_ad G 60)), (1, .int k), (2, .int l), (3, .int n), (4, .int 0)]) [0, 1, 2, 3, 4] rfl ?_
        exact L40_13 0 (by first | decide | lia | grind) (by first | decide | lia | grind)  u13 hu13 fu13  ⟨ee_K, ee_F0 _ _, by subst eu13; subst eu10; subst ex4; exact (if_neg c5).trans ((if_pos c6).trans ((if_pos c7).trans (rfl)))⟩
      · refine g_bipush (v := (-14)) dX7_sheet_20 (by decide) ?_
        exact g_iret (ty := .int) dX7_sheet_22 rfl rfl ⟨⟨⟨_, rfl, by first | trivial | lia | grind⟩, hu, f0⟩, ee_i (by subst ex4; exact (if_neg c5).trans ((if_pos c6).trans ((if_neg c7).trans (rfl))))⟩
    · refine g_iconst (v := (-1)) dX7_sheet_14 (by decide) ?_
      exact g_iret (ty := .int) dX7_sheet_15 rfl rfl ⟨⟨⟨_, rfl, by first | trivial | lia | grind⟩, hu, f0⟩, ee_i (by subst ex4; exact (if_neg c5).trans ((if_neg c6).trans (rfl)))⟩
def e_X7_lay (u : uk_Mem) (k : Int32) (i : Int32) (v : Int32) : Int32 × uk_Mem := let x4 : Int32 := (e_X7_isSheet u k (0 : Int32)); if x4 = 0 then (((-1 : Int32), u)) else (let x7 : Int32 := u.1 74 k.toNatClampNeg; if x7 = (-4 : Int32) then (((-11 : Int32), u)) else (let x10 : Int32 := u.1 75 k.toNatClampNeg; let x11 : Int32 := x10 - (1 : Int32); let x15 : Int32 := (e_X7_in u i (0 : Int32) x11); if x15 = 0 then (((-12 : Int32), u)) else (let x17 : Int32 := (40 : Int32) * k; let x18 : Int32 := x17 + i; let x20 : Int32 := u.1 74 k.toNatClampNeg; if x20 = 0 then (let x32 : Int32 := v.toInt8.toInt32; let u35 : uk_Mem := uk_up u 76 x18.toNatClampNeg x32; ((1 : Int32), u35)) else (let x23 : Int32 := u.1 74 k.toNatClampNeg; if x23 = (1 : Int32) then (let x28 : Int32 := v.toInt16.toInt32; let u31 : uk_Mem := uk_up u 76 x18.toNatClampNeg x28; ((1 : Int32), u31)) else (let u27 : uk_Mem := uk_up u 76 x18.toNatClampNeg v; ((1 : Int32), u27))))))
abbrev qe_X7_lay (u : uk_Mem) (k : Int32) (i : Int32) (v : Int32) (r : Option Value) (u' : uk_Mem) : Prop := (q_X7_lay u k i v r u') ∧ (r = some (.int (e_X7_lay u k i v).1) ∧ u' = (e_X7_lay u k i v).2)
set_option maxHeartbeats 4000000 in
set_option maxRecDepth 20000 in
theorem x_X7_lay {G : uk_D} (hs : uk_Sep G) {u : uk_Mem} (hu : iv u) (k : Int32) (i : Int32) (v : Int32) (d : Nat) : uk_Meth G (d + 2) mX7_lay [.ref (uk_ad G 60), .int k, .int i, .int v] u (qe_X7_lay u k i v) := by
  refine uk_Meth.of hs (by decide) (Nat.le_of_ble_eq_true rfl) (fun X => ?_)
  have f0 : fk [76] [] u u := fk_rf
  refine g_iload_n dX7_lay_0 rfl ?_
  refine g_iconst (v := 0) dX7_lay_1 (by decide) ?_
  refine cl_X7_273 (As := [.int k, .int 0]) rfl (x_X7_isSheet (G := G) hs hu  k 0  (d)) rfl (by omega) rfl (Nat.le_of_ble_eq_true rfl) dX7_lay_2 (fun r1 u2 q3 => ?_)
  obtain ⟨q3, Eq3⟩ := q3
  obtain ⟨⟨x4, rfl, tx4, nx4, zx4⟩, mq3⟩ := q3
  rw [mq3]
  have ex4 : x4 = (e_X7_isSheet u k (0 : Int32)) := ee_v Eq3
  refine g_if_ne (tgt := 10) dX7_lay_5 (by decide) (fun c5 => ?_) (fun c5 => ?_)
  · have zc5 := nx4 c5
    refine g_aload_n dX7_lay_10 rfl ?_
    refine f_X7_51 rfl rfl dX7_lay_11 ?_
    refine g_iload_n dX7_lay_14 rfl ?_
    have v6 : vp_in k 4 := uk_vin 4 rfl (by first | decide | lia | grind) (by first | decide | lia | grind)
    refine g_iald rfl rfl v6 dX7_lay_15 ?_
    refine g_topi (fun x7 ex7 => ?_)
    refine g_bipush (v := (-4)) dX7_lay_16 (by decide) ?_
    refine g_icmp_ne (tgt := 24) dX7_lay_18 (by decide) (fun c8 => ?_) (fun c8 => ?_)
    · refine g_iload_n dX7_lay_24 rfl ?_
      refine g_i2l dX7_lay_25 ?_
      refine g_lconst (v := 0) dX7_lay_26 (by decide) ?_
      refine g_aload_n dX7_lay_27 rfl ?_
      refine f_X7_54 rfl rfl dX7_lay_28 ?_
      refine g_iload_n dX7_lay_31 rfl ?_
      have v9 : vp_in k 4 := uk_vin 4 rfl (by first | decide | lia | grind) (by first | decide | lia | grind)
      refine g_iald rfl rfl v9 dX7_lay_32 ?_
      refine g_topi (fun x10 ex10 => ?_)
      have bx10 := uk_cl v9
      have rx10 : 0 ≤ x10 ∧ x10 ≤ 40 := by rw [ex10]; exact iv_at hu _ _ (uk_pick1 _ (by omega))
      refine g_iconst (v := 1) dX7_lay_33 (by decide) ?_
      refine g_isub dX7_lay_34 ?_
      refine g_topi (fun x11 ex11 => ?_)
      refine g_i2l dX7_lay_35 ?_
      refine cl_X7_84 (As := [.long i.toInt64, .long 0, .long x11.toInt64]) rfl (x_X7_in (G := G) hs hu  i 0 x11  (d + 1)) rfl (by omega) rfl (Nat.le_of_ble_eq_true rfl) dX7_lay_36 (fun r12 u13 q14 => ?_)
      obtain ⟨q14, Eq14⟩ := q14
      obtain ⟨⟨x15, rfl, tx15, nx15, zx15⟩, mq14⟩ := q14
      rw [mq14]
      have ex15 : x15 = (e_X7_in u i (0 : Int32) x11) := ee_v Eq14
      refine g_if_ne (tgt := 45) dX7_lay_39 (by decide) (fun c16 => ?_) (fun c16 => ?_)
      · have zc16 := nx15 c16
        refine g_aload_n dX7_lay_45 rfl ?_
        refine f_X7_57 rfl rfl dX7_lay_46 ?_
        refine g_bipush (v := 40) dX7_lay_49 (by decide) ?_
        refine g_iload_n dX7_lay_51 rfl ?_
        refine g_imul dX7_lay_52 ?_
        refine g_topi (fun x17 ex17 => ?_)
        refine g_iload_n dX7_lay_53 rfl ?_
        refine g_iadd dX7_lay_54 ?_
        refine g_topi (fun x18 ex18 => ?_)
        refine g_aload_n dX7_lay_55 rfl ?_
        refine f_X7_51 rfl rfl dX7_lay_56 ?_
        refine g_iload_n dX7_lay_59 rfl ?_
        have v19 : vp_in k 4 := uk_vin 4 rfl (by first | decide | lia | grind) (by first | decide | lia | grind)
        refine g_iald rfl rfl v19 dX7_lay_60 ?_
        refine g_topi (fun x20 ex20 => ?_)
        refine g_if_ne (tgt := 69) dX7_lay_61 (by decide) (fun c21 => ?_) (fun c21 => ?_)
        · refine g_aload_n dX7_lay_69 rfl ?_
          refine f_X7_51 rfl rfl dX7_lay_70 ?_
          refine g_iload_n dX7_lay_73 rfl ?_
          have v22 : vp_in k 4 := uk_vin 4 rfl (by first | decide | lia | grind) (by first | decide | lia | grind)
          refine g_iald rfl rfl v22 dX7_lay_74 ?_
          refine g_topi (fun x23 ex23 => ?_)
          refine g_iconst (v := 1) dX7_lay_75 (by decide) ?_
          refine g_icmp_ne (tgt := 84) dX7_lay_76 (by decide) (fun c24 => ?_) (fun c24 => ?_)
          · refine g_iload_n dX7_lay_84 rfl ?_
            have v25 : vp_in x18 160 := uk_vin 160 rfl (by first | decide | lia | grind) (by first | decide | lia | grind)
            have b26 := uk_cl v25
            refine g_iast rfl rfl v25 dX7_lay_85 ?_
            refine g_mem (fun u27 eu27 => ?_)
            have hu27 : iv u27 := by rw [eu27]; exact iv_upF hu (uk_pick1 _ (by omega))
            have fu27 : fk [76] [] u u27 := by rw [eu27]; exact fk_up f0 (by decide) (fun q => absurd q (by decide))
            refine g_iconst (v := 1) dX7_lay_86 (by decide) ?_
            exact g_iret (ty := .int) dX7_lay_87 rfl rfl ⟨⟨⟨_, rfl, by first | trivial | lia | grind⟩, hu27, fu27⟩, ee_i (by subst eu27; subst ex23; subst ex20; subst ex18; subst ex17; subst ex15; subst ex11; subst ex10; subst ex7; subst ex4; exact (if_neg c5).trans ((if_neg c8).trans ((if_neg c16).trans ((if_neg c21).trans ((if_neg c24).trans (rfl))))))⟩
          · refine g_iload_n dX7_lay_79 rfl ?_
            refine g_i2s dX7_lay_80 ?_
            refine g_topi (fun x28 ex28 => ?_)
            refine g_goto (tgt := 85) dX7_lay_81 (by decide) ?_
            have v29 : vp_in x18 160 := uk_vin 160 rfl (by first | decide | lia | grind) (by first | decide | lia | grind)
            have b30 := uk_cl v29
            refine g_iast rfl rfl v29 dX7_lay_85 ?_
            refine g_mem (fun u31 eu31 => ?_)
            have hu31 : iv u31 := by rw [eu31]; exact iv_upF hu (uk_pick1 _ (by omega))
            have fu31 : fk [76] [] u u31 := by rw [eu31]; exact fk_up f0 (by decide) (fun q => absurd q (by decide))
            refine g_iconst (v := 1) dX7_lay_86 (by decide) ?_
            exact g_iret (ty := .int) dX7_lay_87 rfl rfl ⟨⟨⟨_, rfl, by first | trivial | lia | grind⟩, hu31, fu31⟩, ee_i (by subst eu31; subst ex28; subst ex23; subst ex20; subst ex18; subst ex17; subst ex15; subst ex11; subst ex10; subst ex7; subst ex4; exact (if_neg c5).trans ((if_neg c8).trans ((if_neg c16).trans ((if_neg c21).trans ((if_pos c24).trans (rfl))))))⟩
        · refine g_iload_n dX7_lay_64 rfl ?_
          refine g_i2b dX7_lay_65 ?_
          refine g_topi (fun x32 ex32 => ?_)
          refine g_goto (tgt := 85) dX7_lay_66 (by decide) ?_
          have v33 : vp_in x18 160 := uk_vin 160 rfl (by first | decide | lia | grind) (by first | decide | lia | grind)
          have b34 := uk_cl v33
          refine g_iast rfl rfl v33 dX7_lay_85 ?_
          refine g_mem (fun u35 eu35 => ?_)
          have hu35 : iv u35 := by rw [eu35]; exact iv_upF hu (uk_pick1 _ (by omega))
          have fu35 : fk [76] [] u u35 := by rw [eu35]; exact fk_up f0 (by decide) (fun q => absurd q (by decide))
          refine g_iconst (v := 1) dX7_lay_86 (by decide) ?_
          exact g_iret (ty := .int) dX7_lay_87 rfl rfl ⟨⟨⟨_, rfl, by first | trivial | lia | grind⟩, hu35, fu35⟩, ee_i (by subst eu35; subst ex32; subst ex20; subst ex18; subst ex17; subst ex15; subst ex11; subst ex10; subst ex7; subst ex4; exact (if_neg c5).trans ((if_neg c8).trans ((if_neg c16).trans ((if_pos c21).trans (rfl)))))⟩
      · have zc16 := zx15 c16
        refine g_bipush (v := (-12)) dX7_lay_42 (by decide) ?_
        exact g_iret (ty := .int) dX7_lay_44 rfl rfl ⟨⟨⟨_, rfl, by first | trivial | lia | grind⟩, hu, f0⟩, ee_i (by subst ex15; subst ex11; subst ex10; subst ex7; subst ex4; exact (if_neg c5).trans ((if_neg c8).trans ((if_pos c16).trans (rfl))))⟩
    · refine g_bipush (v := (-11)) dX7_lay_21 (by decide) ?_
      exact g_iret (ty := .int) dX7_lay_23 rfl rfl ⟨⟨⟨_, rfl, by first | trivial | lia | grind⟩, hu, f0⟩, ee_i (by subst ex7; subst ex4; exact (if_neg c5).trans ((if_pos c8).trans (rfl)))⟩
  · have zc5 := zx4 c5
    refine g_iconst (v := (-1)) dX7_lay_8 (by decide) ?_
    exact g_iret (ty := .int) dX7_lay_9 rfl rfl ⟨⟨⟨_, rfl, by first | trivial | lia | grind⟩, hu, f0⟩, ee_i (by subst ex4; exact (if_pos c5).trans (rfl))⟩
def e_X7_see (u : uk_Mem) (b : Int32) : Int32 × uk_Mem := let x4 : Int32 := (e_X7_isStuff u b); if x4 = 0 then (((-1 : Int32), u)) else (let x7 : Int32 := u.1 61 (42 : Int32).toNatClampNeg; if x7 = (8 : Int32) then (((-3 : Int32), u)) else (let x10 : Int32 := u.1 61 (42 : Int32).toNatClampNeg; let x11 : Int32 := (43 : Int32) + x10; let u14 : uk_Mem := uk_up u 61 x11.toNatClampNeg b; let x17 : Int32 := u14.1 61 (42 : Int32).toNatClampNeg; let x18 : Int32 := x17 + (1 : Int32); let u21 : uk_Mem := uk_up u14 61 (42 : Int32).toNatClampNeg x18; let x24 : Int32 := u21.1 61 (42 : Int32).toNatClampNeg; (x24, u21)))
abbrev qe_X7_see (u : uk_Mem) (b : Int32) (r : Option Value) (u' : uk_Mem) : Prop := (q_X7_see u b r u') ∧ (r = some (.int (e_X7_see u b).1) ∧ u' = (e_X7_see u b).2)
set_option maxHeartbeats 4000000 in
set_option maxRecDepth 20000 in
theorem x_X7_see {G : uk_D} (hs : uk_Sep G) {u : uk_Mem} (hu : iv u) (hri : ri u) (b : Int32) (d : Nat) : uk_Meth G (d + 2) mX7_see [.ref (uk_ad G 60), .int b] u (qe_X7_see u b) := by
  refine uk_Meth.of hs (by decide) (Nat.le_of_ble_eq_true rfl) (fun X => ?_)
  have f0 : fk [61] [] u u := fk_rf
  have C61 : u.1 61 = u.1 61 := rfl
  refine g_aload_n dX7_see_0 rfl ?_
  refine g_iload_n dX7_see_1 rfl ?_
  refine cl_X7_163 (c := 60) (As := [.int b]) rfl (x_X7_isStuff (G := G) hs hu  b  (d)) rfl (by omega) rfl rfl (Nat.le_of_ble_eq_true rfl) dX7_see_2 (fun r1 u2 q3 => ?_)
  obtain ⟨q3, Eq3⟩ := q3
  obtain ⟨⟨x4, rfl, tx4, nx4, zx4⟩, mq3⟩ := q3
  rw [mq3]
  have ex4 : x4 = (e_X7_isStuff u b) := ee_v Eq3
  refine g_if_ne (tgt := 10) dX7_see_5 (by decide) (fun c5 => ?_) (fun c5 => ?_)
  · have zc5 := nx4 c5
    refine g_aload_n dX7_see_10 rfl ?_
    refine f_X7_7 rfl rfl dX7_see_11 ?_
    refine g_bipush (v := 42) dX7_see_14 (by decide) ?_
    have v6 : vp_in 42 153 := uk_vin 153 rfl (by first | decide | lia | grind) (by first | decide | lia | grind)
    refine g_iald rfl rfl v6 dX7_see_16 ?_
    refine g_topi (fun x7 ex7 => ?_)
    have bx7 := uk_cl v6
    have rx7 : 0 ≤ x7 ∧ x7 ≤ 8 := by rw [ex7]; exact sg_42 hu (by unfold uk_is51; decide)
    have px7 : x7 = (u.1 61) (42 : Int32).toNatClampNeg := ex7.trans (congrFun C61 _)
    refine g_bipush (v := 8) dX7_see_17 (by decide) ?_
    refine g_icmp_ne (tgt := 25) dX7_see_19 (by decide) (fun c8 => ?_) (fun c8 => ?_)
    · refine g_aload_n dX7_see_25 rfl ?_
      refine f_X7_7 rfl rfl dX7_see_26 ?_
      refine g_bipush (v := 43) dX7_see_29 (by decide) ?_
      refine g_aload_n dX7_see_31 rfl ?_
      refine f_X7_7 rfl rfl dX7_see_32 ?_
      refine g_bipush (v := 42) dX7_see_35 (by decide) ?_
      have v9 : vp_in 42 153 := uk_vin 153 rfl (by first | decide | lia | grind) (by first | decide | lia | grind)
      refine g_iald rfl rfl v9 dX7_see_37 ?_
      refine g_topi (fun x10 ex10 => ?_)
      have bx10 := uk_cl v9
      have rx10 : 0 ≤ x10 ∧ x10 ≤ 8 := by rw [ex10]; exact sg_42 hu (by unfold uk_is51; decide)
      have px10 : x10 = (u.1 61) (42 : Int32).toNatClampNeg := ex10.trans (congrFun C61 _)
      refine g_iadd dX7_see_38 ?_
      refine g_topi (fun x11 ex11 => ?_)
      refine g_iload_n dX7_see_39 rfl ?_
      have v12 : vp_in x11 153 := uk_vin 153 rfl (by first | decide | lia | grind) (by first | decide | lia | grind)
      have b13 := uk_cl v12
      refine g_iast rfl rfl v12 dX7_see_40 ?_
      refine g_mem (fun u14 eu14 => ?_)
      have hu14 : iv u14 := by rw [eu14]; exact iv_st hu (by unfold uk_is51; decide) (by first | decide | lia | grind) (by first | decide | lia | grind) (fun q => by first | decide | lia | grind) (fun q => by first | decide | lia | grind) (fun q => by first | decide | lia | grind)
      have fu14 : fk [61] [] u u14 := by rw [eu14]; exact fk_up f0 (by decide) (fun q => absurd q (by decide))
      have riu14 : ri u14 := by rw [eu14]; exact ri_st hri (by first | decide | lia | grind) (by first | decide | lia | grind)
      have C15 : u14.1 61 = (upd (u.1 61) (x11 : Int32).toNatClampNeg b) := by rw [eu14, uk_up_self, C61]
      refine g_aload_n dX7_see_41 rfl ?_
      refine f_X7_7 rfl rfl dX7_see_42 ?_
      refine g_bipush (v := 42) dX7_see_45 (by decide) ?_
      refine g_dup2 dX7_see_47 rfl rfl ?_
      have v16 : vp_in 42 153 := uk_vin 153 rfl (by first | decide | lia | grind) (by first | decide | lia | grind)
      refine g_iald rfl rfl v16 dX7_see_48 ?_
      refine g_topi (fun x17 ex17 => ?_)
      have bx17 := uk_cl v16
      have rx17 : 0 ≤ x17 ∧ x17 ≤ 8 := by rw [ex17]; exact sg_42 hu14 (by unfold uk_is51; decide)
      have px17 : x17 = ((upd (u.1 61) (x11 : Int32).toNatClampNeg b)) (42 : Int32).toNatClampNeg := ex17.trans (congrFun C15 _)
      have yx17 : x17 = x7 := by rw [px17, ex7]; exact upd_ne (by decide) (by lia) (by lia)
      refine g_iconst (v := 1) dX7_see_49 (by decide) ?_
      refine g_iadd dX7_see_50 ?_
      refine g_topi (fun x18 ex18 => ?_)
      have v19 : vp_in 42 153 := uk_vin 153 rfl (by first | decide | lia | grind) (by first | decide | lia | grind)
      have b20 := uk_cl v19
      refine g_iast rfl rfl v19 dX7_see_51 ?_
      refine g_mem (fun u21 eu21 => ?_)
      have hu21 : iv u21 := by rw [eu21]; exact iv_st hu14 (by unfold uk_is51; decide) (by first | decide | lia | grind) (by first | decide | lia | grind) (fun q => by first | decide | lia | grind) (fun q => by first | decide | lia | grind) (fun q => by first | decide | lia | grind)
      have fu21 : fk [61] [] u u21 := by rw [eu21]; exact fk_up fu14 (by decide) (fun q => absurd q (by decide))
      have riu21 : ri u21 := by rw [eu21]; exact ri_st riu14 (by first | decide | lia | grind) (by first | decide | lia | grind)
      have C22 : u21.1 61 = (upd ((upd (u.1 61) (x11 : Int32).toNatClampNeg b)) (42 : Int32).toNatClampNeg x18) := by rw [eu21, uk_up_self, C15]
      refine g_aload_n dX7_see_52 rfl ?_
      refine f_X7_7 rfl rfl dX7_see_53 ?_
      refine g_bipush (v := 42) dX7_see_56 (by decide) ?_
      have v23 : vp_in 42 153 := uk_vin 153 rfl (by first | decide | lia | grind) (by first | decide | lia | grind)
      refine g_iald rfl rfl v23 dX7_see_58 ?_
      refine g_topi (fun x24 ex24 => ?_)
      have bx24 := uk_cl v23
      have rx24 : 0 ≤ x24 ∧ x24 ≤ 8 := by rw [ex24]; exact sg_42 hu21 (by unfold uk_is51; decide)
      have px24 : x24 = ((upd ((upd (u.1 61) (x11 : Int32).toNatClampNeg b)) (42 : Int32).toNatClampNeg x18)) (42 : Int32).toNatClampNeg := ex24.trans (congrFun C22 _)
      exact g_iret (ty := .int) dX7_see_59 rfl rfl ⟨⟨⟨_, rfl, by first | trivial | lia | grind⟩, hu21, fu21, riu21⟩, ee_i (by subst ex24; subst eu21; subst ex18; subst ex17; subst eu14; subst ex11; subst ex10; subst ex7; subst ex4; exact (if_neg c5).trans ((if_neg c8).trans (rfl)))⟩
    · refine g_bipush (v := (-3)) dX7_see_22 (by decide) ?_
      exact g_iret (ty := .int) dX7_see_24 rfl rfl ⟨⟨⟨_, rfl, by first | trivial | lia | grind⟩, hu, f0, hri⟩, ee_i (by subst ex7; subst ex4; exact (if_neg c5).trans ((if_pos c8).trans (rfl)))⟩
  · have zc5 := zx4 c5
    refine g_iconst (v := (-1)) dX7_see_8 (by decide) ?_
    exact g_iret (ty := .int) dX7_see_9 rfl rfl ⟨⟨⟨_, rfl, by first | trivial | lia | grind⟩, hu, f0, hri⟩, ee_i (by subst ex4; exact (if_pos c5).trans (rfl))⟩
def e_X7_forget (u : uk_Mem) (n : Int32) : Int32 × uk_Mem := let x2 : Int32 := u.1 61 (42 : Int32).toNatClampNeg; let x6 : Int32 := (e_X7_in u n (0 : Int32) x2); if x6 = 0 then (((-1 : Int32), u)) else (let x11 : Int32 := (e_X7_becomes u (42 : Int32) n).1; let u9 : uk_Mem := (e_X7_becomes u (42 : Int32) n).2; (x11, u9))
abbrev qe_X7_forget (u : uk_Mem) (n : Int32) (r : Option Value) (u' : uk_Mem) : Prop := (q_X7_forget u n r u') ∧ (r = some (.int (e_X7_forget u n).1) ∧ u' = (e_X7_forget u n).2)
set_option maxHeartbeats 4000000 in
set_option maxRecDepth 20000 in
theorem x_X7_forget {G : uk_D} (hs : uk_Sep G) {u : uk_Mem} (hu : iv u) (hri : ri u) (n : Int32) (d : Nat) : uk_Meth G (d + 1) mX7_forget [.ref (uk_ad G 60), .int n] u (qe_X7_forget u n) := by
  refine uk_Meth.of hs (by decide) (Nat.le_of_ble_eq_true rfl) (fun X => ?_)
  have f0 : fk [61] [] u u := fk_rf
  refine g_iload_n dX7_forget_0 rfl ?_
  refine g_i2l dX7_forget_1 ?_
  refine g_lconst (v := 0) dX7_forget_2 (by decide) ?_
  refine g_aload_n dX7_forget_3 rfl ?_
  refine f_X7_7 rfl rfl dX7_forget_4 ?_
  refine g_bipush (v := 42) dX7_forget_7 (by decide) ?_
  have v1 : vp_in 42 153 := uk_vin 153 rfl (by first | decide | lia | grind) (by first | decide | lia | grind)
  refine g_iald rfl rfl v1 dX7_forget_9 ?_
  refine g_topi (fun x2 ex2 => ?_)
  have bx2 := uk_cl v1
  have rx2 : 0 ≤ x2 ∧ x2 ≤ 8 := by rw [ex2]; exact sg_42 hu (by unfold uk_is51; decide)
  refine g_i2l dX7_forget_10 ?_
  refine cl_X7_84 (As := [.long n.toInt64, .long 0, .long x2.toInt64]) rfl (x_X7_in (G := G) hs hu  n 0 x2  (d)) rfl (by omega) rfl (Nat.le_of_ble_eq_true rfl) dX7_forget_11 (fun r3 u4 q5 => ?_)
  obtain ⟨q5, Eq5⟩ := q5
  obtain ⟨⟨x6, rfl, tx6, nx6, zx6⟩, mq5⟩ := q5
  rw [mq5]
  have ex6 : x6 = (e_X7_in u n (0 : Int32) x2) := ee_v Eq5
  refine g_if_eq (tgt := 27) dX7_forget_14 (by decide) (fun c7 => ?_) (fun c7 => ?_)
  · have zc7 := zx6 c7
    refine g_iconst (v := (-1)) dX7_forget_27 (by decide) ?_
    exact g_iret (ty := .int) dX7_forget_28 rfl rfl ⟨⟨⟨_, rfl, by first | trivial | lia | grind⟩, hu, f0, hri⟩, ee_i (by subst ex6; subst ex2; exact (if_pos c7).trans (rfl))⟩
  · have zc7 := nx6 c7
    refine g_aload_n dX7_forget_17 rfl ?_
    refine g_bipush (v := 42) dX7_forget_18 (by decide) ?_
    refine g_iload_n dX7_forget_20 rfl ?_
    refine cl_X7_175 (c := 60) (As := [.int 42, .int n]) rfl (x_X7_becomes (G := G) hs hu  42 n (by first | trivial | decide | lia | grind) (by first | trivial | decide | lia | grind) (by first | trivial | decide | lia | grind) (by first | trivial | decide | lia | grind) (d)) rfl (by omega) rfl rfl (Nat.le_of_ble_eq_true rfl) dX7_forget_21 (fun r8 u9 q10 => ?_)
    obtain ⟨q10, Eq10⟩ := q10
    obtain ⟨⟨x11, rfl, tx11⟩, mq10⟩ := q10
    obtain ⟨hu9, gu9, xu9⟩ := mq10
    have fu9 : fk [61] [] u u9 := fk_tr f0 gu9 (by decide) (by decide)
    have riu9 : ri u9 := by rw [xu9]; exact ri_st hri (by first | lia | grind) (by first | lia | grind)
    have wu9_60_3 : u9.1 60 3 = u.1 60 3 := fk_at gu9 (by decide)
    have ex11 : x11 = (e_X7_becomes u (42 : Int32) n).1 := ee_v Eq10.1
    have eu9 : u9 = (e_X7_becomes u (42 : Int32) n).2 := Eq10.2
    refine g_goto (tgt := 28) dX7_forget_24 (by decide) ?_
    exact g_iret (ty := .int) dX7_forget_28 rfl rfl ⟨⟨⟨_, rfl, by first | trivial | lia | grind⟩, hu9, fu9, riu9⟩, ee_i (by subst eu9; subst ex11; subst ex6; subst ex2; exact (if_neg c7).trans (rfl))⟩
def e_X7_count (u : uk_Mem) (w : Int32) : Int32 × uk_Mem := let u2 : uk_Mem := e_X7_starts u; if w = 0 then (let x8 : Int32 := (e_X7_allOf u2 (0 : Int32)); (x8, u2)) else (if w = 1 then (let x13 : Int32 := (e_X7_allOf u2 (16 : Int32)); (x13, u2)) else (if w = 2 then (let x16 : Int32 := u2.1 61 (42 : Int32).toNatClampNeg; (x16, u2)) else (if w = 3 then (let x19 : Int32 := u2.1 63 (0 : Int32).toNatClampNeg; let x23 : Int32 := (e_X7_flag u2 x19); let x25 : Int32 := u2.1 63 (1 : Int32).toNatClampNeg; let x29 : Int32 := (e_X7_flag u2 x25); let x30 : Int32 := x23 + x29; (x30, u2)) else (if w = 4 then (let x32 : Int32 := u2.1 60 13; (x32, u2)) else (if w = 5 then (let x36 : Int32 := u2.1 74 (0 : Int32).toNatClampNeg; if x36 = (-4 : Int32) then (((-4 : Int32), u2)) else (let x39 : Int32 := u2.1 75 (0 : Int32).toNatClampNeg; (x39, u2))) else (((-1 : Int32), u2)))))))
abbrev qe_X7_count (u : uk_Mem) (w : Int32) (r : Option Value) (u' : uk_Mem) : Prop := (q_X7_count u w r u') ∧ (r = some (.int (e_X7_count u w).1) ∧ u' = (e_X7_count u w).2)
set_option maxHeartbeats 4000000 in
set_option maxRecDepth 20000 in
theorem x_X7_count {G : uk_D} (hs : uk_Sep G) {u : uk_Mem} (hu : iv u) (hri : ri u) (w : Int32) (d : Nat) : uk_Meth G (d + 1) mX7_count [.ref (uk_ad G 60), .int w] u (qe_X7_count u w) := by
  refine uk_Meth.of hs (by decide) (Nat.le_of_ble_eq_true rfl) (fun X => ?_)
  have f0 : fk [62] [] u u := fk_rf
  refine g_aload_n dX7_count_0 rfl ?_
  refine cl_X7_185 (c := 60) (As := []) rfl (x_X7_starts (G := G) hs hu hri    (d)) rfl (by omega) rfl rfl (Nat.le_of_ble_eq_true rfl) dX7_count_1 (fun r1 u2 q3 => ?_)
  obtain ⟨q3, Eq3⟩ := q3
  obtain ⟨rfl, mq3⟩ := q3
  obtain ⟨hu2, gu2, rau2, ku20⟩ := mq3
  have fu2 : fk [62] [] u u2 := fk_tr f0 gu2 (by decide) (by decide)
  have riu2 : ri u2 := ri_fk hri gu2 (by decide) (by decide) (by decide) (by decide) (by decide)
  have wu2_60_3 : u2.1 60 3 = u.1 60 3 := fk_at gu2 (by decide)
  have eu2 : u2 = e_X7_starts u := Eq3
  refine g_iload_n dX7_count_4 rfl ?_
  by_cases c4 : w = 0
  · refine g_tabIn (off := (39)) (tgt := 44) dX7_count_5 (by rw [c4]; decide) (by rw [c4]; decide) (by rw [c4]; rfl) (by decide) ?_
    refine g_aload_n dX7_count_44 rfl ?_
    refine g_iconst (v := 0) dX7_count_45 (by decide) ?_
    refine cl_X7_258 (c := 60) (As := [.int 0]) rfl (x_X7_allOf (G := G) hs hu2  0 (by first | trivial | decide | lia | grind) (d)) rfl (by omega) rfl rfl (Nat.le_of_ble_eq_true rfl) dX7_count_46 (fun r5 u6 q7 => ?_)
    obtain ⟨q7, Eq7⟩ := q7
    obtain ⟨⟨x8, rfl, tx8⟩, mq7⟩ := q7
    rw [mq7]
    have ex8 : x8 = (e_X7_allOf u2 (0 : Int32)) := ee_v Eq7
    exact g_iret (ty := .int) dX7_count_49 rfl rfl ⟨⟨⟨_, rfl, by first | trivial | lia | grind⟩, hu2, fu2, riu2⟩, ee_i (by subst ex8; subst eu2; exact (if_pos c4).trans (rfl))⟩
  by_cases c9 : w = 1
  · refine g_tabIn (off := (45)) (tgt := 50) dX7_count_5 (by rw [c9]; decide) (by rw [c9]; decide) (by rw [c9]; rfl) (by decide) ?_
    refine g_aload_n dX7_count_50 rfl ?_
    refine g_bipush (v := 16) dX7_count_51 (by decide) ?_
    refine cl_X7_258 (c := 60) (As := [.int 16]) rfl (x_X7_allOf (G := G) hs hu2  16 (by first | trivial | decide | lia | grind) (d)) rfl (by omega) rfl rfl (Nat.le_of_ble_eq_true rfl) dX7_count_53 (fun r10 u11 q12 => ?_)
    obtain ⟨q12, Eq12⟩ := q12
    obtain ⟨⟨x13, rfl, tx13⟩, mq12⟩ := q12
    rw [mq12]
    have ex13 : x13 = (e_X7_allOf u2 (16 : Int32)) := ee_v Eq12
    exact g_iret (ty := .int) dX7_count_56 rfl rfl ⟨⟨⟨_, rfl, by first | trivial | lia | grind⟩, hu2, fu2, riu2⟩, ee_i (by subst ex13; subst eu2; exact (if_neg c4).trans ((if_pos c9).trans (rfl)))⟩
  by_cases c14 : w = 2
  · refine g_tabIn (off := (52)) (tgt := 57) dX7_count_5 (by rw [c14]; decide) (by rw [c14]; decide) (by rw [c14]; rfl) (by decide) ?_
    refine g_aload_n dX7_count_57 rfl ?_
    refine f_X7_7 rfl rfl dX7_count_58 ?_
    refine g_bipush (v := 42) dX7_count_61 (by decide) ?_
    have v15 : vp_in 42 153 := uk_vin 153 rfl (by first | decide | lia | grind) (by first | decide | lia | grind)
    refine g_iald rfl rfl v15 dX7_count_63 ?_
    refine g_topi (fun x16 ex16 => ?_)
    have bx16 := uk_cl v15
    have rx16 : 0 ≤ x16 ∧ x16 ≤ 8 := by rw [ex16]; exact sg_42 hu2 (by unfold uk_is51; decide)
    exact g_iret (ty := .int) dX7_count_64 rfl rfl ⟨⟨⟨_, rfl, by first | trivial | lia | grind⟩, hu2, fu2, riu2⟩, ee_i (by subst ex16; subst eu2; exact (if_neg c4).trans ((if_neg c9).trans ((if_pos c14).trans (rfl))))⟩
  by_cases c17 : w = 3
  · refine g_tabIn (off := (60)) (tgt := 65) dX7_count_5 (by rw [c17]; decide) (by rw [c17]; decide) (by rw [c17]; rfl) (by decide) ?_
    refine g_aload_n dX7_count_65 rfl ?_
    refine f_X7_16 rfl rfl dX7_count_66 ?_
    refine g_iconst (v := 0) dX7_count_69 (by decide) ?_
    have v18 : vp_in 0 2 := uk_vin 2 rfl (by first | decide | lia | grind) (by first | decide | lia | grind)
    refine g_zald rfl rfl v18 dX7_count_70 ?_
    refine g_topi (fun x19 ex19 => ?_)
    have bx19 := uk_cl v18
    have rx19 : 0 ≤ x19 ∧ x19 ≤ 1 := by rw [ex19]; exact iv_at hu2 _ _ (uk_pick1 _ (by omega))
    refine cl_X7_169 (As := [.int x19]) rfl (x_X7_flag (G := G) hs hu2  x19  (d)) rfl (by omega) rfl (Nat.le_of_ble_eq_true rfl) dX7_count_71 (fun r20 u21 q22 => ?_)
    obtain ⟨q22, Eq22⟩ := q22
    obtain ⟨⟨x23, rfl, tx23⟩, mq22⟩ := q22
    rw [mq22]
    have ex23 : x23 = (e_X7_flag u2 x19) := ee_v Eq22
    refine g_aload_n dX7_count_74 rfl ?_
    refine f_X7_16 rfl rfl dX7_count_75 ?_
    refine g_iconst (v := 1) dX7_count_78 (by decide) ?_
    have v24 : vp_in 1 2 := uk_vin 2 rfl (by first | decide | lia | grind) (by first | decide | lia | grind)
    refine g_zald rfl rfl v24 dX7_count_79 ?_
    refine g_topi (fun x25 ex25 => ?_)
    have bx25 := uk_cl v24
    have rx25 : 0 ≤ x25 ∧ x25 ≤ 1 := by rw [ex25]; exact iv_at hu2 _ _ (uk_pick1 _ (by omega))
    refine cl_X7_169 (As := [.int x25]) rfl (x_X7_flag (G := G) hs hu2  x25  (d)) rfl (by omega) rfl (Nat.le_of_ble_eq_true rfl) dX7_count_80 (fun r26 u27 q28 => ?_)
    obtain ⟨q28, Eq28⟩ := q28
    obtain ⟨⟨x29, rfl, tx29⟩, mq28⟩ := q28
    rw [mq28]
    have ex29 : x29 = (e_X7_flag u2 x25) := ee_v Eq28
    refine g_iadd dX7_count_83 ?_
    refine g_topi (fun x30 ex30 => ?_)
    exact g_iret (ty := .int) dX7_count_84 rfl rfl ⟨⟨⟨_, rfl, by first | trivial | lia | grind⟩, hu2, fu2, riu2⟩, ee_i (by subst ex30; subst ex29; subst ex25; subst ex23; subst ex19; subst eu2; exact (if_neg c4).trans ((if_neg c9).trans ((if_neg c14).trans ((if_pos c17).trans (rfl)))))⟩
  by_cases c31 : w = 4
  · refine g_tabIn (off := (80)) (tgt := 85) dX7_count_5 (by rw [c31]; decide) (by rw [c31]; decide) (by rw [c31]; rfl) (by decide) ?_
    refine g_aload_n dX7_count_85 rfl ?_
    refine f_X7_88 rfl rfl dX7_count_86 ?_
    refine g_topi (fun x32 ex32 => ?_)
    have rx32 : 0 ≤ x32 ∧ x32 ≤ 160 := by rw [ex32]; exact iv_at hu2 _ _ rfl
    have s33 : u2.1 60 13 = x32 := ex32.symm
    exact g_iret (ty := .int) dX7_count_89 rfl rfl ⟨⟨⟨_, rfl, by first | trivial | lia | grind⟩, hu2, fu2, riu2⟩, ee_i (by subst ex32; subst eu2; exact (if_neg c4).trans ((if_neg c9).trans ((if_neg c14).trans ((if_neg c17).trans ((if_pos c31).trans (rfl))))))⟩
  by_cases c34 : w = 5
  · refine g_tabIn (off := (85)) (tgt := 90) dX7_count_5 (by rw [c34]; decide) (by rw [c34]; decide) (by rw [c34]; rfl) (by decide) ?_
    refine g_aload_n dX7_count_90 rfl ?_
    refine f_X7_51 rfl rfl dX7_count_91 ?_
    refine g_iconst (v := 0) dX7_count_94 (by decide) ?_
    have v35 : vp_in 0 4 := uk_vin 4 rfl (by first | decide | lia | grind) (by first | decide | lia | grind)
    refine g_iald rfl rfl v35 dX7_count_95 ?_
    refine g_topi (fun x36 ex36 => ?_)
    refine g_bipush (v := (-4)) dX7_count_96 (by decide) ?_
    refine g_icmp_ne (tgt := 106) dX7_count_98 (by decide) (fun c37 => ?_) (fun c37 => ?_)
    · refine g_aload_n dX7_count_106 rfl ?_
      refine f_X7_54 rfl rfl dX7_count_107 ?_
      refine g_iconst (v := 0) dX7_count_110 (by decide) ?_
      have v38 : vp_in 0 4 := uk_vin 4 rfl (by first | decide | lia | grind) (by first | decide | lia | grind)
      refine g_iald rfl rfl v38 dX7_count_111 ?_
      refine g_topi (fun x39 ex39 => ?_)
      have bx39 := uk_cl v38
      have rx39 : 0 ≤ x39 ∧ x39 ≤ 40 := by rw [ex39]; exact iv_at hu2 _ _ (uk_pick1 _ (by omega))
      exact g_iret (ty := .int) dX7_count_112 rfl rfl ⟨⟨⟨_, rfl, by first | trivial | lia | grind⟩, hu2, fu2, riu2⟩, ee_i (by subst ex39; subst ex36; subst eu2; exact (if_neg c4).trans ((if_neg c9).trans ((if_neg c14).trans ((if_neg c17).trans ((if_neg c31).trans ((if_pos c34).trans ((if_neg c37).trans (rfl))))))))⟩
    · refine g_bipush (v := (-4)) dX7_count_101 (by decide) ?_
      refine g_goto (tgt := 112) dX7_count_103 (by decide) ?_
      exact g_iret (ty := .int) dX7_count_112 rfl rfl ⟨⟨⟨_, rfl, by first | trivial | lia | grind⟩, hu2, fu2, riu2⟩, ee_i (by subst ex36; subst eu2; exact (if_neg c4).trans ((if_neg c9).trans ((if_neg c14).trans ((if_neg c17).trans ((if_neg c31).trans ((if_pos c34).trans ((if_pos c37).trans (rfl))))))))⟩
  refine g_tabOut (tgt := 113) dX7_count_5 (uk_swo 0 5 rfl rfl (by first | lia | grind)) (by decide) ?_
  refine g_iconst (v := (-1)) dX7_count_113 (by decide) ?_
  exact g_iret (ty := .int) dX7_count_114 rfl rfl ⟨⟨⟨_, rfl, by first | trivial | lia | grind⟩, hu2, fu2, riu2⟩, ee_i (by subst eu2; exact (if_neg c4).trans ((if_neg c9).trans ((if_neg c14).trans ((if_neg c17).trans ((if_neg c31).trans ((if_neg c34).trans (rfl)))))))⟩
