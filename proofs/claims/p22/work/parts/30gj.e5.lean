def e_X0_gainOf (u : uk_Mem) (kb : Nat) (g : Int32) : Int32 := let x4 : Int32 := (e_X6_stuffOf u g); let x6 : Int32 := u.1 (kb + 2) x4.toNatClampNeg; let x8 : Int32 := u.1 (kb + 4) x6.toNatClampNeg; let x10 : Int32 := u.1 (kb + 3) x4.toNatClampNeg; let x12 : Int32 := u.1 (kb + 4) x10.toNatClampNeg; if (10 : Int32) ≤ g then (let x15 : Int32 := u.1 (kb + 1) x4.toNatClampNeg; let x17 : Int32 := u.1 (kb + 7) x4.toNatClampNeg; let x21 : Int32 := (e_X0_givesB u x15 x17); if x21 = 0 then (let x23 : Int32 := x8 + (0 : Int32); let x25 : Int32 := u.1 (kb + 4) x4.toNatClampNeg; let x26 : Int32 := x23 - x25; x26) else (let x27 : Int32 := x8 + x12; let x29 : Int32 := u.1 (kb + 4) x4.toNatClampNeg; let x30 : Int32 := x27 - x29; x30)) else (let x32 : Int32 := u.1 (kb + 4) x4.toNatClampNeg; let x33 : Int32 := x32 - x8; let x34 : Int32 := x33 - x12; x34)
abbrev qe_X0_gainOf (u : uk_Mem) (kb : Nat) (g : Int32) (r : Option Value) (u' : uk_Mem) : Prop := (q_X0_gainOf u kb g r u') ∧ (r = some (.int (e_X0_gainOf u kb g)))
set_option maxHeartbeats 4000000 in
set_option maxRecDepth 20000 in
theorem x_X0_gainOf {G : uk_D} (hs : uk_Sep G) {u : uk_Mem} (hu : iv u) {kb : Nat} (hkb : uk_isK kb) (g : Int32) (p0 : (0 ≤ g ∧ g ≤ 7) ∨ (10 ≤ g ∧ g ≤ 17)) (d : Nat) : uk_Meth G (d + 1) mX0_gainOf [.ref (uk_ad G kb), .int g] u (qe_X0_gainOf u kb g) := by
  refine uk_Meth.of hs (by decide) (Nat.le_of_ble_eq_true rfl) (fun X => ?_)
  refine g_iload_n dX0_gainOf_0 rfl ?_
  refine cl_X0_53 (As := [.int g]) rfl (x_X6_stuffOf (G := G) hs hu  g  (d)) rfl (by omega) rfl (Nat.le_of_ble_eq_true rfl) dX0_gainOf_1 (fun r1 u2 q3 => ?_)
  obtain ⟨q3, Eq3⟩ := q3
  obtain ⟨⟨x4, rfl, tx4⟩, mq3⟩ := q3
  rw [mq3]
  have ex4 : x4 = (e_X6_stuffOf u g) := ee_v Eq3
  refine g_istore_n dX0_gainOf_4 (by decide) ?_
  refine g_pick (lv' := [(0, .ref (uk_ad G kb)), (1, .int g), (2, .int x4)]) [0, 1, 2] rfl ?_
  refine g_aload_n dX0_gainOf_5 rfl ?_
  refine f_X0_25 rfl (kk_0 hkb) dX0_gainOf_6 ?_
  refine g_aload_n dX0_gainOf_9 rfl ?_
  refine f_X0_19 rfl (kk_0 hkb) dX0_gainOf_10 ?_
  refine g_iload_n dX0_gainOf_13 rfl ?_
  have v5 : vp_in x4 8 := uk_vin 8 rfl (by first | decide | lia | grind) (by first | decide | lia | grind)
  refine g_iald (kk_2 hkb) (kl_2 hkb) v5 dX0_gainOf_14 ?_
  refine g_topi (fun x6 ex6 => ?_)
  have bx6 := uk_cl v5
  have rx6 : 0 ≤ x6 ∧ x6 ≤ 7 := by rw [ex6]; exact iv_at hu _ _ (ka_2 hkb _ (by omega))
  have v7 : vp_in x6 8 := uk_vin 8 rfl (by first | decide | lia | grind) (by first | decide | lia | grind)
  refine g_iald (kk_4 hkb) (kl_4 hkb) v7 dX0_gainOf_15 ?_
  refine g_topi (fun x8 ex8 => ?_)
  refine g_istore_n dX0_gainOf_16 (by decide) ?_
  refine g_pick (lv' := [(0, .ref (uk_ad G kb)), (1, .int g), (2, .int x4), (3, .int x8)]) [0, 1, 2, 3] rfl ?_
  refine g_aload_n dX0_gainOf_17 rfl ?_
  refine f_X0_25 rfl (kk_0 hkb) dX0_gainOf_18 ?_
  refine g_aload_n dX0_gainOf_21 rfl ?_
  refine f_X0_22 rfl (kk_0 hkb) dX0_gainOf_22 ?_
  refine g_iload_n dX0_gainOf_25 rfl ?_
  have v9 : vp_in x4 8 := uk_vin 8 rfl (by first | decide | lia | grind) (by first | decide | lia | grind)
  refine g_iald (kk_3 hkb) (kl_3 hkb) v9 dX0_gainOf_26 ?_
  refine g_topi (fun x10 ex10 => ?_)
  have bx10 := uk_cl v9
  have rx10 : 0 ≤ x10 ∧ x10 ≤ 7 := by rw [ex10]; exact iv_at hu _ _ (ka_3 hkb _ (by omega))
  have v11 : vp_in x10 8 := uk_vin 8 rfl (by first | decide | lia | grind) (by first | decide | lia | grind)
  refine g_iald (kk_4 hkb) (kl_4 hkb) v11 dX0_gainOf_27 ?_
  refine g_topi (fun x12 ex12 => ?_)
  refine g_istore dX0_gainOf_28 (by decide) ?_
  refine g_pick (lv' := [(0, .ref (uk_ad G kb)), (1, .int g), (2, .int x4), (3, .int x8), (4, .int x12)]) [0, 1, 2, 3, 4] rfl ?_
  refine g_iload_n dX0_gainOf_30 rfl ?_
  refine g_bipush (v := 10) dX0_gainOf_31 (by decide) ?_
  refine g_icmp_ge (tgt := 48) dX0_gainOf_33 (by decide) (fun c13 => ?_) (fun c13 => ?_)
  · refine g_iload_n dX0_gainOf_48 rfl ?_
    refine g_aload_n dX0_gainOf_49 rfl ?_
    refine f_X0_15 rfl (kk_0 hkb) dX0_gainOf_50 ?_
    refine g_iload_n dX0_gainOf_53 rfl ?_
    have v14 : vp_in x4 8 := uk_vin 8 rfl (by first | decide | lia | grind) (by first | decide | lia | grind)
    refine g_iald (kk_1 hkb) (kl_1 hkb) v14 dX0_gainOf_54 ?_
    refine g_topi (fun x15 ex15 => ?_)
    refine g_aload_n dX0_gainOf_55 rfl ?_
    refine f_X0_34 rfl (kk_0 hkb) dX0_gainOf_56 ?_
    refine g_iload_n dX0_gainOf_59 rfl ?_
    have v16 : vp_in x4 8 := uk_vin 8 rfl (by first | decide | lia | grind) (by first | decide | lia | grind)
    refine g_iald (kk_7 hkb) (kl_7 hkb) v16 dX0_gainOf_60 ?_
    refine g_topi (fun x17 ex17 => ?_)
    refine cl_X0_70 (As := [.int x15, .int x17]) rfl (x_X0_givesB (G := G) hs hu  x15 x17  (d)) rfl (by omega) rfl (Nat.le_of_ble_eq_true rfl) dX0_gainOf_61 (fun r18 u19 q20 => ?_)
    obtain ⟨q20, Eq20⟩ := q20
    obtain ⟨⟨x21, rfl, tx21, nx21, zx21⟩, mq20⟩ := q20
    rw [mq20]
    have ex21 : x21 = (e_X0_givesB u x15 x17) := ee_v Eq20
    refine g_if_eq (tgt := 72) dX0_gainOf_64 (by decide) (fun c22 => ?_) (fun c22 => ?_)
    · have zc22 := zx21 c22
      refine g_iconst (v := 0) dX0_gainOf_72 (by decide) ?_
      refine g_iadd dX0_gainOf_73 ?_
      refine g_topi (fun x23 ex23 => ?_)
      refine g_aload_n dX0_gainOf_74 rfl ?_
      refine f_X0_25 rfl (kk_0 hkb) dX0_gainOf_75 ?_
      refine g_iload_n dX0_gainOf_78 rfl ?_
      have v24 : vp_in x4 8 := uk_vin 8 rfl (by first | decide | lia | grind) (by first | decide | lia | grind)
      refine g_iald (kk_4 hkb) (kl_4 hkb) v24 dX0_gainOf_79 ?_
      refine g_topi (fun x25 ex25 => ?_)
      refine g_isub dX0_gainOf_80 ?_
      refine g_topi (fun x26 ex26 => ?_)
      exact g_iret (ty := .int) dX0_gainOf_81 rfl rfl ⟨⟨⟨_, rfl, by first | trivial | lia | grind⟩, rfl⟩, ee_p (by subst ex26; subst ex25; subst ex23; subst ex21; subst ex17; subst ex15; subst ex12; subst ex10; subst ex8; subst ex6; subst ex4; exact (if_pos c13).trans ((if_pos c22).trans (rfl)))⟩
    · have zc22 := nx21 c22
      refine g_iload dX0_gainOf_67 rfl ?_
      refine g_goto (tgt := 73) dX0_gainOf_69 (by decide) ?_
      refine g_iadd dX0_gainOf_73 ?_
      refine g_topi (fun x27 ex27 => ?_)
      refine g_aload_n dX0_gainOf_74 rfl ?_
      refine f_X0_25 rfl (kk_0 hkb) dX0_gainOf_75 ?_
      refine g_iload_n dX0_gainOf_78 rfl ?_
      have v28 : vp_in x4 8 := uk_vin 8 rfl (by first | decide | lia | grind) (by first | decide | lia | grind)
      refine g_iald (kk_4 hkb) (kl_4 hkb) v28 dX0_gainOf_79 ?_
      refine g_topi (fun x29 ex29 => ?_)
      refine g_isub dX0_gainOf_80 ?_
      refine g_topi (fun x30 ex30 => ?_)
      exact g_iret (ty := .int) dX0_gainOf_81 rfl rfl ⟨⟨⟨_, rfl, by first | trivial | lia | grind⟩, rfl⟩, ee_p (by subst ex30; subst ex29; subst ex27; subst ex21; subst ex17; subst ex15; subst ex12; subst ex10; subst ex8; subst ex6; subst ex4; exact (if_pos c13).trans ((if_neg c22).trans (rfl)))⟩
  · refine g_aload_n dX0_gainOf_36 rfl ?_
    refine f_X0_25 rfl (kk_0 hkb) dX0_gainOf_37 ?_
    refine g_iload_n dX0_gainOf_40 rfl ?_
    have v31 : vp_in x4 8 := uk_vin 8 rfl (by first | decide | lia | grind) (by first | decide | lia | grind)
    refine g_iald (kk_4 hkb) (kl_4 hkb) v31 dX0_gainOf_41 ?_
    refine g_topi (fun x32 ex32 => ?_)
    refine g_iload_n dX0_gainOf_42 rfl ?_
    refine g_isub dX0_gainOf_43 ?_
    refine g_topi (fun x33 ex33 => ?_)
    refine g_iload dX0_gainOf_44 rfl ?_
    refine g_isub dX0_gainOf_46 ?_
    refine g_topi (fun x34 ex34 => ?_)
    exact g_iret (ty := .int) dX0_gainOf_47 rfl rfl ⟨⟨⟨_, rfl, by first | trivial | lia | grind⟩, rfl⟩, ee_p (by subst ex34; subst ex33; subst ex32; subst ex12; subst ex10; subst ex8; subst ex6; subst ex4; exact (if_neg c13).trans (rfl))⟩
def l_X0_gainBound_4 (u : uk_Mem) (kb : Nat) : Nat → Int32 → Int32 → Int32
  | 0, _, _ => 0
  | K9 + 1, i3, w2 => let x4 : Int32 := u.1 kb 0; if x4 ≤ i3 then (w2) else (let x10 : Int32 := (e_X0_isMade u kb i3); if x10 = 0 then (l_X0_gainBound_4 u kb K9 (i3 + 1) w2) else (let x15 : Int32 := (e_X0_gainOf u kb i3); let x16 : Int32 := if 0 ≤ x15 then x15 else 0 - x15; let x17 : Int32 := if w2 < x16 then x16 else w2; l_X0_gainBound_4 u kb K9 (i3 + 1) x17))
def e_X0_gainBound (u : uk_Mem) (kb : Nat) : Int32 := l_X0_gainBound_4 u kb ee_K (0 : Int32) (0 : Int32)
abbrev qe_X0_gainBound (u : uk_Mem) (kb : Nat) (r : Option Value) (u' : uk_Mem) : Prop := (q_X0_gainBound u kb r u') ∧ (r = some (.int (e_X0_gainBound u kb)))
set_option maxHeartbeats 4000000 in
set_option maxRecDepth 20000 in
theorem x_X0_gainBound {G : uk_D} (hs : uk_Sep G) {u : uk_Mem} (hu : iv u) {kb : Nat} (hkb : uk_isK kb) (d : Nat) : uk_Meth G (d + 2) mX0_gainBound [.ref (uk_ad G kb)] u (qe_X0_gainBound u kb) := by
  refine uk_Meth.of hs (by decide) (Nat.le_of_ble_eq_true rfl) (fun X => ?_)
  refine g_iconst (v := 0) dX0_gainBound_0 (by decide) ?_
  refine g_istore_n dX0_gainBound_1 (by decide) ?_
  refine g_pick (lv' := [(0, .ref (uk_ad G kb)), (1, .int 0)]) [0, 1] rfl ?_
  refine g_iconst (v := 0) dX0_gainBound_2 (by decide) ?_
  refine g_istore_n dX0_gainBound_3 (by decide) ?_
  refine g_pick (lv' := [(0, .ref (uk_ad G kb)), (1, .int 0), (2, .int 0)]) [0, 1, 2] rfl ?_
  have L4_0 : ∀ i3 : Int32, 0 ≤ i3 → i3 ≤ 8 → ∀ (w2 : Int32), (∃ ki3 : Nat, ee_F 8 i3 ki3 ∧ e_X0_gainBound u kb = l_X0_gainBound_4 u kb ki3 i3 w2) → uk_G G X mX0_gainBound (d + 2) (qe_X0_gainBound u kb) 4 [(0, .ref (uk_ad G kb)), (1, .int w2), (2, .int i3)] [] u := by
    refine uk_upl 8 ?_
    intro i3 ai3 bi3 ihi3 w2 jEi3
    obtain ⟨ki3, fki3, hki3⟩ := jEi3
    obtain ⟨ki3, rfl⟩ := ee_Fp (by first | assumption | lia | grind) fki3
    refine g_iload_n dX0_gainBound_4 rfl ?_
    refine g_aload_n dX0_gainBound_5 rfl ?_
    refine f_X0_9 rfl (kk_0 hkb) dX0_gainBound_6 ?_
    refine g_topi (fun x4 ex4 => ?_)
    have rx4 : 0 ≤ x4 ∧ x4 ≤ 8 := by rw [ex4]; exact iv_at hu _ _ (kr_0 hkb)
    have s5 : u.1 kb 0 = x4 := ex4.symm
    refine g_icmp_ge (tgt := 39) dX0_gainBound_9 (by decide) (fun c6 => ?_) (fun c6 => ?_)
    · refine g_iload_n dX0_gainBound_39 rfl ?_
      exact g_iret (ty := .int) dX0_gainBound_40 rfl rfl ⟨⟨⟨_, rfl, by first | trivial | lia | grind⟩, rfl⟩, ee_p (by subst ex4; exact hki3.trans ((if_pos c6).trans (rfl)))⟩
    · refine g_aload_n dX0_gainBound_12 rfl ?_
      refine g_iload_n dX0_gainBound_13 rfl ?_
      refine cl_X0_61 (c := kb) (As := [.int i3]) rfl (x_X0_isMade (G := G) hs hu hkb i3 (by first | trivial | decide | lia | grind) (by first | trivial | decide | lia | grind) (d + 1)) rfl (by omega) (kk_0 hkb) rfl (Nat.le_of_ble_eq_true rfl) dX0_gainBound_14 (fun r7 u8 q9 => ?_)
      obtain ⟨q9, Eq9⟩ := q9
      obtain ⟨⟨x10, rfl, tx10, nx10, zx10⟩, mq9⟩ := q9
      rw [mq9]
      have ex10 : x10 = (e_X0_isMade u kb i3) := ee_v Eq9
      refine g_if_eq (tgt := 33) dX0_gainBound_17 (by decide) (fun c11 => ?_) (fun c11 => ?_)
      · have zc11 := zx10 c11
        refine g_iinc (v := i3 + 1) dX0_gainBound_33 rfl rfl (by decide) ?_
        refine g_pick (lv' := [(0, .ref (uk_ad G kb)), (1, .int w2), (2, .int (i3 + 1))]) [0, 1, 2] rfl ?_
        refine g_goto (tgt := 4) dX0_gainBound_36 (by decide) ?_
        refine g_pick (lv' := [(0, .ref (uk_ad G kb)), (1, .int w2), (2, .int (i3 + 1))]) [0, 1, 2] rfl ?_
        exact ihi3 (by first | lia | grind) w2  ⟨ki3, ee_Fs fki3 (by first | assumption | lia | grind), by subst ex10; subst ex4; exact hki3.trans ((if_neg c6).trans ((if_pos c11).trans (rfl)))⟩
      · have zc11 := nx10 c11
        refine g_iload_n dX0_gainBound_20 rfl ?_
        refine g_aload_n dX0_gainBound_21 rfl ?_
        refine g_iload_n dX0_gainBound_22 rfl ?_
        refine cl_X0_85 (c := kb) (As := [.int i3]) rfl (x_X0_gainOf (G := G) hs hu hkb i3 (by first | trivial | decide | lia | grind) (d)) rfl (by omega) (kk_0 hkb) rfl (Nat.le_of_ble_eq_true rfl) dX0_gainBound_23 (fun r12 u13 q14 => ?_)
        obtain ⟨q14, Eq14⟩ := q14
        obtain ⟨⟨x15, rfl, tx15⟩, mq14⟩ := q14
        rw [mq14]
        have ex15 : x15 = (e_X0_gainOf u kb i3) := ee_v Eq14
        refine g_mabs rfl (by omega) (Nat.le_of_ble_eq_true rfl) dX0_gainBound_26 ?_
        refine g_topi (fun x16 ex16 => ?_)
        refine g_mmax rfl (by omega) (Nat.le_of_ble_eq_true rfl) dX0_gainBound_29 ?_
        refine g_topi (fun x17 ex17 => ?_)
        refine g_istore_n dX0_gainBound_32 (by decide) ?_
        refine g_pick (lv' := [(0, .ref (uk_ad G kb)), (1, .int x17), (2, .int i3)]) [0, 1, 2] rfl ?_
        refine g_iinc (v := i3 + 1) dX0_gainBound_33 rfl rfl (by decide) ?_
        refine g_pick (lv' := [(0, .ref (uk_ad G kb)), (1, .int x17), (2, .int (i3 + 1))]) [0, 1, 2] rfl ?_
        refine g_goto (tgt := 4) dX0_gainBound_36 (by decide) ?_
        refine g_pick (lv' := [(0, .ref (uk_ad G kb)), (1, .int x17), (2, .int (i3 + 1))]) [0, 1, 2] rfl ?_
        exact ihi3 (by first | lia | grind) x17  ⟨ki3, ee_Fs fki3 (by first | assumption | lia | grind), by subst ex17; subst ex16; subst ex15; subst ex10; subst ex4; exact hki3.trans ((if_neg c6).trans ((if_neg c11).trans (rfl)))⟩
  refine g_pick (lv' := [(0, .ref (uk_ad G kb)), (1, .int 0), (2, .int 0)]) [0, 1, 2] rfl ?_
  exact L4_0 0 (by first | decide | lia | grind) (by first | decide | lia | grind) 0  ⟨ee_K, ee_F0 _ _, by exact rfl⟩
def e_X0_brings (u : uk_Mem) (kb : Nat) (g : Int32) (b : Int32) : Int32 := let x4 : Int32 := (e_X6_stuffOf u g); if (10 : Int32) ≤ g then (let x7 : Int32 := u.1 (kb + 2) x4.toNatClampNeg; if x7 = b then ((1 : Int32)) else (let x10 : Int32 := u.1 (kb + 3) x4.toNatClampNeg; if x10 = b then ((1 : Int32)) else ((0 : Int32)))) else (if x4 = b then ((1 : Int32)) else ((0 : Int32)))
abbrev qe_X0_brings (u : uk_Mem) (kb : Nat) (g : Int32) (b : Int32) (r : Option Value) (u' : uk_Mem) : Prop := (q_X0_brings u kb g b r u') ∧ (r = some (.int (e_X0_brings u kb g b)))
set_option maxHeartbeats 4000000 in
set_option maxRecDepth 20000 in
theorem x_X0_brings {G : uk_D} (hs : uk_Sep G) {u : uk_Mem} (hu : iv u) {kb : Nat} (hkb : uk_isK kb) (g : Int32) (b : Int32) (p0 : (0 ≤ g ∧ g ≤ 7) ∨ (10 ≤ g ∧ g ≤ 17)) (d : Nat) : uk_Meth G (d + 1) mX0_brings [.ref (uk_ad G kb), .int g, .int b] u (qe_X0_brings u kb g b) := by
  refine uk_Meth.of hs (by decide) (Nat.le_of_ble_eq_true rfl) (fun X => ?_)
  refine g_iload_n dX0_brings_0 rfl ?_
  refine cl_X0_53 (As := [.int g]) rfl (x_X6_stuffOf (G := G) hs hu  g  (d)) rfl (by omega) rfl (Nat.le_of_ble_eq_true rfl) dX0_brings_1 (fun r1 u2 q3 => ?_)
  obtain ⟨q3, Eq3⟩ := q3
  obtain ⟨⟨x4, rfl, tx4⟩, mq3⟩ := q3
  rw [mq3]
  have ex4 : x4 = (e_X6_stuffOf u g) := ee_v Eq3
  refine g_istore_n dX0_brings_4 (by decide) ?_
  refine g_pick (lv' := [(0, .ref (uk_ad G kb)), (1, .int g), (2, .int b), (3, .int x4)]) [0, 1, 2, 3] rfl ?_
  refine g_iload_n dX0_brings_5 rfl ?_
  refine g_bipush (v := 10) dX0_brings_6 (by decide) ?_
  refine g_icmp_ge (tgt := 24) dX0_brings_8 (by decide) (fun c5 => ?_) (fun c5 => ?_)
  · refine g_aload_n dX0_brings_24 rfl ?_
    refine f_X0_19 rfl (kk_0 hkb) dX0_brings_25 ?_
    refine g_iload_n dX0_brings_28 rfl ?_
    have v6 : vp_in x4 8 := uk_vin 8 rfl (by first | decide | lia | grind) (by first | decide | lia | grind)
    refine g_iald (kk_2 hkb) (kl_2 hkb) v6 dX0_brings_29 ?_
    refine g_topi (fun x7 ex7 => ?_)
    have bx7 := uk_cl v6
    have rx7 : 0 ≤ x7 ∧ x7 ≤ 7 := by rw [ex7]; exact iv_at hu _ _ (ka_2 hkb _ (by omega))
    refine g_iload_n dX0_brings_30 rfl ?_
    refine g_icmp_eq (tgt := 44) dX0_brings_31 (by decide) (fun c8 => ?_) (fun c8 => ?_)
    · refine g_iconst (v := 1) dX0_brings_44 (by decide) ?_
      refine g_goto (tgt := 49) dX0_brings_45 (by decide) ?_
      exact g_iret (ty := .boolean) dX0_brings_49 rfl rfl ⟨⟨⟨1, rfl, Or.inr rfl, fun _ => by first | trivial | lia | grind, fun q => absurd q (by decide)⟩, rfl⟩, ee_p (by subst ex7; subst ex4; exact (if_pos c5).trans ((if_pos c8).trans (rfl)))⟩
    · refine g_aload_n dX0_brings_34 rfl ?_
      refine f_X0_22 rfl (kk_0 hkb) dX0_brings_35 ?_
      refine g_iload_n dX0_brings_38 rfl ?_
      have v9 : vp_in x4 8 := uk_vin 8 rfl (by first | decide | lia | grind) (by first | decide | lia | grind)
      refine g_iald (kk_3 hkb) (kl_3 hkb) v9 dX0_brings_39 ?_
      refine g_topi (fun x10 ex10 => ?_)
      have bx10 := uk_cl v9
      have rx10 : 0 ≤ x10 ∧ x10 ≤ 7 := by rw [ex10]; exact iv_at hu _ _ (ka_3 hkb _ (by omega))
      refine g_iload_n dX0_brings_40 rfl ?_
      refine g_icmp_ne (tgt := 48) dX0_brings_41 (by decide) (fun c11 => ?_) (fun c11 => ?_)
      · refine g_iconst (v := 0) dX0_brings_48 (by decide) ?_
        exact g_iret (ty := .boolean) dX0_brings_49 rfl rfl ⟨⟨⟨0, rfl, Or.inl rfl, fun q => absurd rfl q, fun _ => by first | trivial | lia | grind⟩, rfl⟩, ee_p (by subst ex10; subst ex7; subst ex4; exact (if_pos c5).trans ((if_neg c8).trans ((if_neg c11).trans (rfl))))⟩
      · refine g_iconst (v := 1) dX0_brings_44 (by decide) ?_
        refine g_goto (tgt := 49) dX0_brings_45 (by decide) ?_
        exact g_iret (ty := .boolean) dX0_brings_49 rfl rfl ⟨⟨⟨1, rfl, Or.inr rfl, fun _ => by first | trivial | lia | grind, fun q => absurd q (by decide)⟩, rfl⟩, ee_p (by subst ex10; subst ex7; subst ex4; exact (if_pos c5).trans ((if_neg c8).trans ((if_pos c11).trans (rfl))))⟩
  · refine g_iload_n dX0_brings_11 rfl ?_
    refine g_iload_n dX0_brings_12 rfl ?_
    refine g_icmp_ne (tgt := 20) dX0_brings_13 (by decide) (fun c12 => ?_) (fun c12 => ?_)
    · refine g_iconst (v := 0) dX0_brings_20 (by decide) ?_
      refine g_goto (tgt := 49) dX0_brings_21 (by decide) ?_
      exact g_iret (ty := .boolean) dX0_brings_49 rfl rfl ⟨⟨⟨0, rfl, Or.inl rfl, fun q => absurd rfl q, fun _ => by first | trivial | lia | grind⟩, rfl⟩, ee_p (by subst ex4; exact (if_neg c5).trans ((if_neg c12).trans (rfl)))⟩
    · refine g_iconst (v := 1) dX0_brings_16 (by decide) ?_
      refine g_goto (tgt := 49) dX0_brings_17 (by decide) ?_
      exact g_iret (ty := .boolean) dX0_brings_49 rfl rfl ⟨⟨⟨1, rfl, Or.inr rfl, fun _ => by first | trivial | lia | grind, fun q => absurd q (by decide)⟩, rfl⟩, ee_p (by subst ex4; exact (if_neg c5).trans ((if_pos c12).trans (rfl)))⟩
def e_X2_doingAt (u : uk_Mem) (i : Int32) : Int32 := if i < 0 then ((-4 : Int32)) else (let x2 : Int32 := u.1 46 2; if x2 ≤ i then ((-4 : Int32)) else (let x6 : Int32 := u.1 48 i.toNatClampNeg; x6))
abbrev qe_X2_doingAt (u : uk_Mem) (i : Int32) (r : Option Value) (u' : uk_Mem) : Prop := (q_X2_doingAt u i r u') ∧ (r = some (.int (e_X2_doingAt u i)))
set_option maxHeartbeats 4000000 in
set_option maxRecDepth 20000 in
theorem x_X2_doingAt {G : uk_D} (hs : uk_Sep G) {u : uk_Mem} (hu : iv u) (i : Int32) (d : Nat) : uk_Meth G d mX2_doingAt [.ref (uk_ad G 46), .int i] u (qe_X2_doingAt u i) := by
  refine uk_Meth.of hs (by decide) (Nat.le_of_ble_eq_true rfl) (fun X => ?_)
  refine g_iload_n dX2_doingAt_0 rfl ?_
  refine g_if_lt (tgt := 21) dX2_doingAt_1 (by decide) (fun c1 => ?_) (fun c1 => ?_)
  · refine g_bipush (v := (-4)) dX2_doingAt_21 (by decide) ?_
    exact g_iret (ty := .int) dX2_doingAt_23 rfl rfl ⟨⟨⟨_, rfl, by first | trivial | lia | grind⟩, rfl⟩, ee_p (by exact (if_pos c1).trans (rfl))⟩
  · refine g_iload_n dX2_doingAt_4 rfl ?_
    refine g_aload_n dX2_doingAt_5 rfl ?_
    refine f_X2_18 rfl rfl dX2_doingAt_6 ?_
    refine g_topi (fun x2 ex2 => ?_)
    have rx2 : 0 ≤ x2 ∧ x2 ≤ 4 := by rw [ex2]; exact iv_at hu _ _ rfl
    have s3 : u.1 46 2 = x2 := ex2.symm
    refine g_icmp_ge (tgt := 21) dX2_doingAt_9 (by decide) (fun c4 => ?_) (fun c4 => ?_)
    · refine g_bipush (v := (-4)) dX2_doingAt_21 (by decide) ?_
      exact g_iret (ty := .int) dX2_doingAt_23 rfl rfl ⟨⟨⟨_, rfl, by first | trivial | lia | grind⟩, rfl⟩, ee_p (by subst ex2; exact (if_neg c1).trans ((if_pos c4).trans (rfl)))⟩
    · refine g_aload_n dX2_doingAt_12 rfl ?_
      refine f_X2_15 rfl rfl dX2_doingAt_13 ?_
      refine g_iload_n dX2_doingAt_16 rfl ?_
      have v5 : vp_in i 4 := uk_vin 4 rfl (by first | decide | lia | grind) (by first | decide | lia | grind)
      refine g_iald rfl rfl v5 dX2_doingAt_17 ?_
      refine g_topi (fun x6 ex6 => ?_)
      refine g_goto (tgt := 23) dX2_doingAt_18 (by decide) ?_
      exact g_iret (ty := .int) dX2_doingAt_23 rfl rfl ⟨⟨⟨_, rfl, by first | trivial | lia | grind⟩, rfl⟩, ee_p (by subst ex6; subst ex2; exact (if_neg c1).trans ((if_neg c4).trans (rfl)))⟩
def l_X2_keepPath_12 (n : Int32) : Nat → Int32 → uk_Mem → uk_Mem
  | 0, _, u7 => u7
  | K9 + 1, i6, u7 => if n ≤ i6 then (u7) else (let x10 : Int32 := u7.1 47 i6.toNatClampNeg; let u13 : uk_Mem := uk_up u7 48 i6.toNatClampNeg x10; l_X2_keepPath_12 n K9 (i6 + 1) u13)
def e_X2_keepPath (u : uk_Mem) (n : Int32) (s : Int32) : uk_Mem := let u1 : uk_Mem := uk_up u 46 3 s; let u3 : uk_Mem := uk_up u1 46 2 n; l_X2_keepPath_12 n ee_K (0 : Int32) u3
abbrev qe_X2_keepPath (u : uk_Mem) (n : Int32) (s : Int32) (r : Option Value) (u' : uk_Mem) : Prop := (q_X2_keepPath u n s r u') ∧ (u' = e_X2_keepPath u n s)
set_option maxHeartbeats 4000000 in
set_option maxRecDepth 20000 in
theorem x_X2_keepPath {G : uk_D} (hs : uk_Sep G) {u : uk_Mem} (hu : iv u) (n : Int32) (s : Int32) (p0 : 0 ≤ n) (p1 : n ≤ 4) (d : Nat) : uk_Meth G d mX2_keepPath [.ref (uk_ad G 46), .int n, .int s] u (qe_X2_keepPath u n s) := by
  refine uk_Meth.of hs (by decide) (Nat.le_of_ble_eq_true rfl) (fun X => ?_)
  have f0 : fr 46 49 u u := fr_rf
  refine g_aload_n dX2_keepPath_0 rfl ?_
  refine g_iload_n dX2_keepPath_1 rfl ?_
  refine p_X2_22 rfl rfl dX2_keepPath_2 ?_
  refine g_mem (fun u1 eu1 => ?_)
  have hu1 : iv u1 := by rw [eu1]; exact iv_upF hu rfl
  have fu1 : fr 46 49 u u1 := by rw [eu1]; exact fr_up f0 (by omega) (by omega)
  have s2 : u1.1 46 3 = s := by rw [eu1, uk_up_at]; exact if_pos ⟨rfl, rfl⟩
  refine g_aload_n dX2_keepPath_5 rfl ?_
  refine g_iload_n dX2_keepPath_6 rfl ?_
  refine p_X2_18 rfl rfl dX2_keepPath_7 ?_
  refine g_mem (fun u3 eu3 => ?_)
  have hu3 : iv u3 := by rw [eu3]; exact iv_up hu1 rfl (by first | lia | grind) (by first | lia | grind)
  have fu3 : fr 46 49 u u3 := by rw [eu3]; exact fr_up fu1 (by omega) (by omega)
  have s4 : u3.1 46 2 = n := by rw [eu3, uk_up_at]; exact if_pos ⟨rfl, rfl⟩
  refine g_iconst (v := 0) dX2_keepPath_10 (by decide) ?_
  refine g_istore_n dX2_keepPath_11 (by decide) ?_
  refine g_pick (lv' := [(0, .ref (uk_ad G 46)), (1, .int n), (2, .int s), (3, .int 0)]) [0, 1, 2, 3] rfl ?_
  have L12_4 : ∀ i6 : Int32, 0 ≤ i6 → i6 ≤ 4 → ∀ (u7 : uk_Mem), iv u7 → fr 46 49 u u7 → (∃ ki6 : Nat, ee_F 4 i6 ki6 ∧ e_X2_keepPath u n s = l_X2_keepPath_12 n ki6 i6 u7) → uk_G G X mX2_keepPath d (qe_X2_keepPath u n s) 12 [(0, .ref (uk_ad G 46)), (1, .int n), (2, .int s), (3, .int i6)] [] u7 := by
    refine uk_upl 4 ?_
    intro i6 ai6 bi6 ihi6  u7 hu7 fu7 jEi6
    obtain ⟨ki6, fki6, hki6⟩ := jEi6
    obtain ⟨ki6, rfl⟩ := ee_Fp (by first | assumption | lia | grind) fki6
    refine g_iload_n dX2_keepPath_12 rfl ?_
    refine g_iload_n dX2_keepPath_13 rfl ?_
    refine g_icmp_ge (tgt := 35) dX2_keepPath_14 (by decide) (fun c8 => ?_) (fun c8 => ?_)
    · exact g_vret dX2_keepPath_35 rfl ⟨⟨rfl, hu7, fu7⟩, (by exact hki6.trans ((if_pos c8).trans (rfl)) : e_X2_keepPath u n s = u7).symm⟩
    · refine g_aload_n dX2_keepPath_17 rfl ?_
      refine f_X2_15 rfl rfl dX2_keepPath_18 ?_
      refine g_iload_n dX2_keepPath_21 rfl ?_
      refine g_aload_n dX2_keepPath_22 rfl ?_
      refine f_X2_9 rfl rfl dX2_keepPath_23 ?_
      refine g_iload_n dX2_keepPath_26 rfl ?_
      have v9 : vp_in i6 4 := uk_vin 4 rfl (by first | decide | lia | grind) (by first | decide | lia | grind)
      refine g_iald rfl rfl v9 dX2_keepPath_27 ?_
      refine g_topi (fun x10 ex10 => ?_)
      have v11 : vp_in i6 4 := uk_vin 4 rfl (by first | decide | lia | grind) (by first | decide | lia | grind)
      have b12 := uk_cl v11
      refine g_iast rfl rfl v11 dX2_keepPath_28 ?_
      refine g_mem (fun u13 eu13 => ?_)
      have hu13 : iv u13 := by rw [eu13]; exact iv_upF hu7 (uk_pick1 _ (by omega))
      have fu13 : fr 46 49 u u13 := by rw [eu13]; exact fr_up fu7 (by omega) (by omega)
      refine g_iinc (v := i6 + 1) dX2_keepPath_29 rfl rfl (by decide) ?_
      refine g_pick (lv' := [(0, .ref (uk_ad G 46)), (1, .int n), (2, .int s), (3, .int (i6 + 1))]) [0, 1, 2, 3] rfl ?_
      refine g_goto (tgt := 12) dX2_keepPath_32 (by decide) ?_
      refine g_pick (lv' := [(0, .ref (uk_ad G 46)), (1, .int n), (2, .int s), (3, .int (i6 + 1))]) [0, 1, 2, 3] rfl ?_
      exact ihi6 (by first | lia | grind)  u13 hu13 fu13  ⟨ki6, ee_Fs fki6 (by first | assumption | lia | grind), by subst eu13; subst ex10; exact hki6.trans ((if_neg c8).trans (rfl))⟩
  refine g_pick (lv' := [(0, .ref (uk_ad G 46)), (1, .int n), (2, .int s), (3, .int 0)]) [0, 1, 2, 3] rfl ?_
  exact L12_4 0 (by first | decide | lia | grind) (by first | decide | lia | grind)  u3 hu3 fu3  ⟨ee_K, ee_F0 _ _, by subst eu3; subst eu1; exact rfl⟩
def e_X2_tryRicher_0 (u : uk_Mem) (n : Int32) (g : Int32) (s : Int32) : uk_Mem := let u3 : uk_Mem := e_X2_keepPath u n s; u3
abbrev qe_X2_tryRicher_0 (u : uk_Mem) (n : Int32) (g : Int32) (s : Int32) (r : Option Value) (u' : uk_Mem) : Prop := (q_X2_tryRicher_0 u n g s r u') ∧ (u' = e_X2_tryRicher_0 u n g s)
set_option maxHeartbeats 4000000 in
set_option maxRecDepth 20000 in
theorem x_X2_tryRicher_0 {G : uk_D} (hs : uk_Sep G) {u : uk_Mem} (hu : iv u) (n : Int32) (g : Int32) (s : Int32) (p0 : 0 ≤ g) (p1 : g ≤ 4) (p2 : n ≤ 4) (p3 : g = n) (d : Nat) : uk_Meth G (d + 3) mX2_tryRicher [.ref (uk_ad G 46), .ref (uk_ad G 13), .int n, .int g, .int s] u (qe_X2_tryRicher_0 u n g s) := by
  refine uk_Meth.of hs (by decide) (Nat.le_of_ble_eq_true rfl) (fun X => ?_)
  have f0 : fr 13 49 u u := fr_rf
  refine g_iload_n dX2_tryRicher_0 rfl ?_
  refine g_iload_n dX2_tryRicher_1 rfl ?_
  refine g_icmp_lt (tgt := 13) dX2_tryRicher_2 (by decide) (fun c1 => ?_) (fun c1 => ?_)
  · exfalso; grind
  · refine g_aload_n dX2_tryRicher_5 rfl ?_
    refine g_iload_n dX2_tryRicher_6 rfl ?_
    refine g_iload dX2_tryRicher_7 rfl ?_
    refine cl_X2_40 (c := 46) (As := [.int n, .int s]) rfl (x_X2_keepPath (G := G) hs hu  n s (by first | trivial | decide | lia | grind) (by first | trivial | decide | lia | grind) (d + 2)) rfl (by omega) rfl rfl (Nat.le_of_ble_eq_true rfl) dX2_tryRicher_9 (fun r2 u3 q4 => ?_)
    obtain ⟨q4, Eq4⟩ := q4
    obtain ⟨rfl, mq4⟩ := q4
    obtain ⟨hu3, gu3⟩ := mq4
    have fu3 : fr 13 49 u u3 := fr_tr f0 gu3 (by omega) (by omega)
    have eu3 : u3 = e_X2_keepPath u n s := Eq4
    exact g_vret dX2_tryRicher_12 rfl ⟨⟨rfl, hu3, fu3⟩, (by subst eu3; exact rfl : e_X2_tryRicher_0 u n g s = u3).symm⟩
def l_X2_tryRicher_1_28 (s : Int32) (x6 : Int32) (g : Int32) (n : Int32) : Nat → Int32 → uk_Mem → uk_Mem
  | 0, _, u9 => u9
  | K9 + 1, i8, u9 => let x10 : Int32 := u9.1 13 0; let x12 : Int32 := (10 : Int32) + x10; if x12 ≤ i8 then (u9) else (let x17 : Int32 := (e_X0_isAble u9 13 i8); if x17 = 0 then (l_X2_tryRicher_1_28 s x6 g n K9 (i8 + 1) u9) else (let x22 : Int32 := (e_X0_gainOf u9 13 i8); let x23 : Int32 := s + x22; let x24 : Int32 := x23 + x6; let x25 : Int32 := u9.1 46 3; if x24 ≤ x25 then (l_X2_tryRicher_1_28 s x6 g n K9 (i8 + 1) u9) else (let u30 : uk_Mem := uk_up u9 47 g.toNatClampNeg i8; let u32 : uk_Mem := e_X0_perform u30 13 i8; let x35 : Int32 := g + (1 : Int32); let u37 : uk_Mem := e_X2_tryRicher_0 u32 n x35 x23; let u40 : uk_Mem := e_X0_undo u37 13 i8; l_X2_tryRicher_1_28 s x6 g n K9 (i8 + 1) u40)))
def e_X2_tryRicher_1 (u : uk_Mem) (n : Int32) (g : Int32) (s : Int32) : uk_Mem := if g < n then (let x2 : Int32 := n - g; let x3 : Int32 := x2 - (1 : Int32); let x4 : Int32 := u.1 46 4; let x6 : Int32 := x3 * x4; l_X2_tryRicher_1_28 s x6 g n ee_K (0 : Int32) u) else (let u43 : uk_Mem := e_X2_keepPath u n s; u43)
abbrev qe_X2_tryRicher_1 (u : uk_Mem) (n : Int32) (g : Int32) (s : Int32) (r : Option Value) (u' : uk_Mem) : Prop := (q_X2_tryRicher_1 u n g s r u') ∧ (u' = e_X2_tryRicher_1 u n g s)
set_option maxHeartbeats 4000000 in
set_option maxRecDepth 20000 in
theorem x_X2_tryRicher_1 {G : uk_D} (hs : uk_Sep G) {u : uk_Mem} (hu : iv u) (n : Int32) (g : Int32) (s : Int32) (p0 : 0 ≤ g) (p1 : g ≤ 4) (p2 : n ≤ 4) (p3 : g + 1 = n) (d : Nat) : uk_Meth G (d + 4) mX2_tryRicher [.ref (uk_ad G 46), .ref (uk_ad G 13), .int n, .int g, .int s] u (qe_X2_tryRicher_1 u n g s) := by
  refine uk_Meth.of hs (by decide) (Nat.le_of_ble_eq_true rfl) (fun X => ?_)
  have f0 : fr 13 49 u u := fr_rf
  refine g_iload_n dX2_tryRicher_0 rfl ?_
  refine g_iload_n dX2_tryRicher_1 rfl ?_
  refine g_icmp_lt (tgt := 13) dX2_tryRicher_2 (by decide) (fun c1 => ?_) (fun c1 => ?_)
  · refine g_iload_n dX2_tryRicher_13 rfl ?_
    refine g_iload_n dX2_tryRicher_14 rfl ?_
    refine g_isub dX2_tryRicher_15 ?_
    refine g_topi (fun x2 ex2 => ?_)
    refine g_iconst (v := 1) dX2_tryRicher_16 (by decide) ?_
    refine g_isub dX2_tryRicher_17 ?_
    refine g_topi (fun x3 ex3 => ?_)
    refine g_aload_n dX2_tryRicher_18 rfl ?_
    refine f_X2_25 rfl rfl dX2_tryRicher_19 ?_
    refine g_topi (fun x4 ex4 => ?_)
    have s5 : u.1 46 4 = x4 := ex4.symm
    refine g_imul dX2_tryRicher_22 ?_
    refine g_topi (fun x6 ex6 => ?_)
    refine g_istore dX2_tryRicher_23 (by decide) ?_
    refine g_pick (lv' := [(0, .ref (uk_ad G 46)), (1, .ref (uk_ad G 13)), (2, .int n), (3, .int g), (4, .int s), (5, .int x6)]) [0, 1, 2, 3, 4, 5] rfl ?_
    refine g_iconst (v := 0) dX2_tryRicher_25 (by decide) ?_
    refine g_istore dX2_tryRicher_26 (by decide) ?_
    refine g_pick (lv' := [(0, .ref (uk_ad G 46)), (1, .ref (uk_ad G 13)), (2, .int n), (3, .int g), (4, .int s), (5, .int x6), (6, .int 0)]) [0, 1, 2, 3, 4, 5, 6] rfl ?_
    have L28_6 : ∀ i8 : Int32, 0 ≤ i8 → i8 ≤ 18 → ∀ (u9 : uk_Mem), iv u9 → fr 13 49 u u9 → (∃ ki8 : Nat, ee_F 18 i8 ki8 ∧ e_X2_tryRicher_1 u n g s = l_X2_tryRicher_1_28 s x6 g n ki8 i8 u9) → uk_G G X mX2_tryRicher (d + 4) (qe_X2_tryRicher_1 u n g s) 28 [(0, .ref (uk_ad G 46)), (1, .ref (uk_ad G 13)), (2, .int n), (3, .int g), (4, .int s), (5, .int x6), (6, .int i8)] [] u9 := by
      refine uk_upl 18 ?_
      intro i8 ai8 bi8 ihi8  u9 hu9 fu9 jEi8
      obtain ⟨ki8, fki8, hki8⟩ := jEi8
      obtain ⟨ki8, rfl⟩ := ee_Fp (by first | assumption | lia | grind) fki8
      refine g_iload dX2_tryRicher_28 rfl ?_
      refine g_bipush (v := 10) dX2_tryRicher_30 (by decide) ?_
      refine g_aload_n dX2_tryRicher_32 rfl ?_
      refine f_X2_44 rfl rfl dX2_tryRicher_33 ?_
      refine g_topi (fun x10 ex10 => ?_)
      have rx10 : 0 ≤ x10 ∧ x10 ≤ 8 := by rw [ex10]; exact iv_at hu9 _ _ rfl
      have s11 : u9.1 13 0 = x10 := ex10.symm
      refine g_iadd dX2_tryRicher_36 ?_
      refine g_topi (fun x12 ex12 => ?_)
      refine g_icmp_ge (tgt := 112) dX2_tryRicher_37 (by decide) (fun c13 => ?_) (fun c13 => ?_)
      · exact g_vret dX2_tryRicher_112 rfl ⟨⟨rfl, hu9, fu9⟩, (by subst ex12; subst ex10; exact hki8.trans ((if_pos c13).trans (rfl)) : e_X2_tryRicher_1 u n g s = u9).symm⟩
      · refine g_aload_n dX2_tryRicher_40 rfl ?_
        refine g_iload dX2_tryRicher_41 rfl ?_
        refine cl_X2_45 (c := 13) (As := [.int i8]) rfl (x_X0_isAble (G := G) hs hu9 uk_isK13 i8  (d + 1)) rfl (by omega) rfl rfl (Nat.le_of_ble_eq_true rfl) dX2_tryRicher_43 (fun r14 u15 q16 => ?_)
        obtain ⟨q16, Eq16⟩ := q16
        obtain ⟨⟨x17, rfl, tx17, nx17, zx17⟩, mq16⟩ := q16
        rw [mq16]
        have ex17 : x17 = (e_X0_isAble u9 13 i8) := ee_v Eq16
        refine g_if_ne (tgt := 52) dX2_tryRicher_46 (by decide) (fun c18 => ?_) (fun c18 => ?_)
        · have zc18 := nx17 c18
          refine g_iload dX2_tryRicher_52 rfl ?_
          refine g_aload_n dX2_tryRicher_54 rfl ?_
          refine g_iload dX2_tryRicher_55 rfl ?_
          refine cl_X2_49 (c := 13) (As := [.int i8]) rfl (x_X0_gainOf (G := G) hs hu9 uk_isK13 i8 (by first | trivial | decide | lia | grind) (d + 2)) rfl (by omega) rfl rfl (Nat.le_of_ble_eq_true rfl) dX2_tryRicher_57 (fun r19 u20 q21 => ?_)
          obtain ⟨q21, Eq21⟩ := q21
          obtain ⟨⟨x22, rfl, tx22⟩, mq21⟩ := q21
          rw [mq21]
          have ex22 : x22 = (e_X0_gainOf u9 13 i8) := ee_v Eq21
          refine g_iadd dX2_tryRicher_60 ?_
          refine g_topi (fun x23 ex23 => ?_)
          refine g_istore dX2_tryRicher_61 (by decide) ?_
          refine g_pick (lv' := [(0, .ref (uk_ad G 46)), (1, .ref (uk_ad G 13)), (2, .int n), (3, .int g), (4, .int s), (5, .int x6), (6, .int i8), (7, .int x23)]) [0, 1, 2, 3, 4, 5, 6, 7] rfl ?_
          refine g_iload dX2_tryRicher_63 rfl ?_
          refine g_iload dX2_tryRicher_65 rfl ?_
          refine g_iadd dX2_tryRicher_67 ?_
          refine g_topi (fun x24 ex24 => ?_)
          refine g_aload_n dX2_tryRicher_68 rfl ?_
          refine f_X2_22 rfl rfl dX2_tryRicher_69 ?_
          refine g_topi (fun x25 ex25 => ?_)
          have s26 : u9.1 46 3 = x25 := ex25.symm
          refine g_icmp_le (tgt := 106) dX2_tryRicher_72 (by decide) (fun c27 => ?_) (fun c27 => ?_)
          · refine g_iinc (v := i8 + 1) dX2_tryRicher_106 rfl rfl (by decide) ?_
            refine g_pick (lv' := [(0, .ref (uk_ad G 46)), (1, .ref (uk_ad G 13)), (2, .int n), (3, .int g), (4, .int s), (5, .int x6), (6, .int (i8 + 1)), (7, .int x23)]) [0, 1, 2, 3, 4, 5, 6, 7] rfl ?_
            refine g_goto (tgt := 28) dX2_tryRicher_109 (by decide) ?_
            refine g_pick (lv' := [(0, .ref (uk_ad G 46)), (1, .ref (uk_ad G 13)), (2, .int n), (3, .int g), (4, .int s), (5, .int x6), (6, .int (i8 + 1))]) [0, 1, 2, 3, 4, 5, 6] rfl ?_
            exact ihi8 (by first | lia | grind)  u9 hu9 fu9  ⟨ki8, ee_Fs fki8 (by first | assumption | lia | grind), by subst ex25; subst ex24; subst ex23; subst ex22; subst ex17; subst ex12; subst ex10; exact hki8.trans ((if_neg c13).trans ((if_neg c18).trans ((if_pos c27).trans (rfl))))⟩
          · refine g_aload_n dX2_tryRicher_75 rfl ?_
            refine f_X2_9 rfl rfl dX2_tryRicher_76 ?_
            refine g_iload_n dX2_tryRicher_79 rfl ?_
            refine g_iload dX2_tryRicher_80 rfl ?_
            have v28 : vp_in g 4 := uk_vin 4 rfl (by first | decide | lia | grind) (by first | decide | lia | grind)
            have b29 := uk_cl v28
            refine g_iast rfl rfl v28 dX2_tryRicher_82 ?_
            refine g_mem (fun u30 eu30 => ?_)
            have hu30 : iv u30 := by rw [eu30]; exact iv_upF hu9 (uk_pick1 _ (by omega))
            have fu30 : fr 13 49 u u30 := by rw [eu30]; exact fr_up fu9 (by omega) (by omega)
            refine g_aload_n dX2_tryRicher_83 rfl ?_
            refine g_iload dX2_tryRicher_84 rfl ?_
            refine cl_X2_53 (c := 13) (As := [.int i8]) rfl (x_X0_perform (G := G) hs hu30 uk_isK13 i8 (by first | trivial | decide | lia | grind) (d + 1)) rfl (by omega) rfl rfl (Nat.le_of_ble_eq_true rfl) dX2_tryRicher_86 (fun r31 u32 q33 => ?_)
            obtain ⟨q33, Eq33⟩ := q33
            obtain ⟨rfl, mq33⟩ := q33
            obtain ⟨hu32, gu32⟩ := mq33
            have fu32 : fr 13 49 u u32 := fr_tr fu30 gu32 (by omega) (by omega)
            have s34 : u32.1 46 3 = x25 := (fr_at gu32 (by omega)).trans (by simp [eu30, uk_up_at, s26] : u30.1 46 3 = x25)
            have eu32 : u32 = e_X0_perform u30 13 i8 := Eq33
            refine g_aload_n dX2_tryRicher_89 rfl ?_
            refine g_aload_n dX2_tryRicher_90 rfl ?_
            refine g_iload_n dX2_tryRicher_91 rfl ?_
            refine g_iload_n dX2_tryRicher_92 rfl ?_
            refine g_iconst (v := 1) dX2_tryRicher_93 (by decide) ?_
            refine g_iadd dX2_tryRicher_94 ?_
            refine g_topi (fun x35 ex35 => ?_)
            refine g_iload dX2_tryRicher_95 rfl ?_
            refine cl_X2_36 (c := 46) (As := [.ref (uk_ad G 13), .int n, .int x35, .int x23]) rfl (x_X2_tryRicher_0 (G := G) hs hu32  n x35 x23 (by first | trivial | decide | lia | grind) (by first | trivial | decide | lia | grind) (by first | trivial | decide | lia | grind) (by first | trivial | decide | lia | grind) (d)) rfl (by omega) rfl rfl (Nat.le_of_ble_eq_true rfl) dX2_tryRicher_97 (fun r36 u37 q38 => ?_)
            obtain ⟨q38, Eq38⟩ := q38
            obtain ⟨rfl, mq38⟩ := q38
            obtain ⟨hu37, gu37⟩ := mq38
            have fu37 : fr 13 49 u u37 := fr_tr fu32 gu37 (by omega) (by omega)
            have eu37 : u37 = e_X2_tryRicher_0 u32 n x35 x23 := Eq38
            refine g_aload_n dX2_tryRicher_100 rfl ?_
            refine g_iload dX2_tryRicher_101 rfl ?_
            refine cl_X2_57 (c := 13) (As := [.int i8]) rfl (x_X0_undo (G := G) hs hu37 uk_isK13 i8 (by first | trivial | decide | lia | grind) (d + 1)) rfl (by omega) rfl rfl (Nat.le_of_ble_eq_true rfl) dX2_tryRicher_103 (fun r39 u40 q41 => ?_)
            obtain ⟨q41, Eq41⟩ := q41
            obtain ⟨rfl, mq41⟩ := q41
            obtain ⟨hu40, gu40⟩ := mq41
            have fu40 : fr 13 49 u u40 := fr_tr fu37 gu40 (by omega) (by omega)
            have eu40 : u40 = e_X0_undo u37 13 i8 := Eq41
            refine g_iinc (v := i8 + 1) dX2_tryRicher_106 rfl rfl (by decide) ?_
            refine g_pick (lv' := [(0, .ref (uk_ad G 46)), (1, .ref (uk_ad G 13)), (2, .int n), (3, .int g), (4, .int s), (5, .int x6), (6, .int (i8 + 1)), (7, .int x23)]) [0, 1, 2, 3, 4, 5, 6, 7] rfl ?_
            refine g_goto (tgt := 28) dX2_tryRicher_109 (by decide) ?_
            refine g_pick (lv' := [(0, .ref (uk_ad G 46)), (1, .ref (uk_ad G 13)), (2, .int n), (3, .int g), (4, .int s), (5, .int x6), (6, .int (i8 + 1))]) [0, 1, 2, 3, 4, 5, 6] rfl ?_
            exact ihi8 (by first | lia | grind)  u40 hu40 fu40  ⟨ki8, ee_Fs fki8 (by first | assumption | lia | grind), by subst eu40; subst eu37; subst ex35; subst eu32; subst eu30; subst ex25; subst ex24; subst ex23; subst ex22; subst ex17; subst ex12; subst ex10; exact hki8.trans ((if_neg c13).trans ((if_neg c18).trans ((if_neg c27).trans (rfl))))⟩
        · have zc18 := zx17 c18
          refine g_goto (tgt := 106) dX2_tryRicher_49 (by decide) ?_
          refine g_iinc (v := i8 + 1) dX2_tryRicher_106 rfl rfl (by decide) ?_
          refine g_pick (lv' := [(0, .ref (uk_ad G 46)), (1, .ref (uk_ad G 13)), (2, .int n), (3, .int g), (4, .int s), (5, .int x6), (6, .int (i8 + 1))]) [0, 1, 2, 3, 4, 5, 6] rfl ?_
          refine g_goto (tgt := 28) dX2_tryRicher_109 (by decide) ?_
          refine g_pick (lv' := [(0, .ref (uk_ad G 46)), (1, .ref (uk_ad G 13)), (2, .int n), (3, .int g), (4, .int s), (5, .int x6), (6, .int (i8 + 1))]) [0, 1, 2, 3, 4, 5, 6] rfl ?_
          exact ihi8 (by first | lia | grind)  u9 hu9 fu9  ⟨ki8, ee_Fs fki8 (by first | assumption | lia | grind), by subst ex17; subst ex12; subst ex10; exact hki8.trans ((if_neg c13).trans ((if_pos c18).trans (rfl)))⟩
    refine g_pick (lv' := [(0, .ref (uk_ad G 46)), (1, .ref (uk_ad G 13)), (2, .int n), (3, .int g), (4, .int s), (5, .int x6), (6, .int 0)]) [0, 1, 2, 3, 4, 5, 6] rfl ?_
    exact L28_6 0 (by first | decide | lia | grind) (by first | decide | lia | grind)  u hu f0  ⟨ee_K, ee_F0 _ _, by subst ex6; subst ex4; subst ex3; subst ex2; exact (if_pos c1).trans (rfl)⟩
  · refine g_aload_n dX2_tryRicher_5 rfl ?_
    refine g_iload_n dX2_tryRicher_6 rfl ?_
    refine g_iload dX2_tryRicher_7 rfl ?_
    refine cl_X2_40 (c := 46) (As := [.int n, .int s]) rfl (x_X2_keepPath (G := G) hs hu  n s (by first | trivial | decide | lia | grind) (by first | trivial | decide | lia | grind) (d + 3)) rfl (by omega) rfl rfl (Nat.le_of_ble_eq_true rfl) dX2_tryRicher_9 (fun r42 u43 q44 => ?_)
    obtain ⟨q44, Eq44⟩ := q44
    obtain ⟨rfl, mq44⟩ := q44
    obtain ⟨hu43, gu43⟩ := mq44
    have fu43 : fr 13 49 u u43 := fr_tr f0 gu43 (by omega) (by omega)
    have eu43 : u43 = e_X2_keepPath u n s := Eq44
    exact g_vret dX2_tryRicher_12 rfl ⟨⟨rfl, hu43, fu43⟩, (by subst eu43; exact (if_neg c1).trans (rfl) : e_X2_tryRicher_1 u n g s = u43).symm⟩
def l_X2_tryRicher_2_28 (s : Int32) (x6 : Int32) (g : Int32) (n : Int32) : Nat → Int32 → uk_Mem → uk_Mem
  | 0, _, u9 => u9
  | K9 + 1, i8, u9 => let x10 : Int32 := u9.1 13 0; let x12 : Int32 := (10 : Int32) + x10; if x12 ≤ i8 then (u9) else (let x17 : Int32 := (e_X0_isAble u9 13 i8); if x17 = 0 then (l_X2_tryRicher_2_28 s x6 g n K9 (i8 + 1) u9) else (let x22 : Int32 := (e_X0_gainOf u9 13 i8); let x23 : Int32 := s + x22; let x24 : Int32 := x23 + x6; let x25 : Int32 := u9.1 46 3; if x24 ≤ x25 then (l_X2_tryRicher_2_28 s x6 g n K9 (i8 + 1) u9) else (let u30 : uk_Mem := uk_up u9 47 g.toNatClampNeg i8; let u32 : uk_Mem := e_X0_perform u30 13 i8; let x35 : Int32 := g + (1 : Int32); let u37 : uk_Mem := e_X2_tryRicher_1 u32 n x35 x23; let u40 : uk_Mem := e_X0_undo u37 13 i8; l_X2_tryRicher_2_28 s x6 g n K9 (i8 + 1) u40)))
def e_X2_tryRicher_2 (u : uk_Mem) (n : Int32) (g : Int32) (s : Int32) : uk_Mem := if g < n then (let x2 : Int32 := n - g; let x3 : Int32 := x2 - (1 : Int32); let x4 : Int32 := u.1 46 4; let x6 : Int32 := x3 * x4; l_X2_tryRicher_2_28 s x6 g n ee_K (0 : Int32) u) else (let u43 : uk_Mem := e_X2_keepPath u n s; u43)
abbrev qe_X2_tryRicher_2 (u : uk_Mem) (n : Int32) (g : Int32) (s : Int32) (r : Option Value) (u' : uk_Mem) : Prop := (q_X2_tryRicher_2 u n g s r u') ∧ (u' = e_X2_tryRicher_2 u n g s)
set_option maxHeartbeats 4000000 in
set_option maxRecDepth 20000 in
theorem x_X2_tryRicher_2 {G : uk_D} (hs : uk_Sep G) {u : uk_Mem} (hu : iv u) (n : Int32) (g : Int32) (s : Int32) (p0 : 0 ≤ g) (p1 : g ≤ 4) (p2 : n ≤ 4) (p3 : g + 2 = n) (d : Nat) : uk_Meth G (d + 5) mX2_tryRicher [.ref (uk_ad G 46), .ref (uk_ad G 13), .int n, .int g, .int s] u (qe_X2_tryRicher_2 u n g s) := by
  refine uk_Meth.of hs (by decide) (Nat.le_of_ble_eq_true rfl) (fun X => ?_)
  have f0 : fr 13 49 u u := fr_rf
  refine g_iload_n dX2_tryRicher_0 rfl ?_
  refine g_iload_n dX2_tryRicher_1 rfl ?_
  refine g_icmp_lt (tgt := 13) dX2_tryRicher_2 (by decide) (fun c1 => ?_) (fun c1 => ?_)
  · refine g_iload_n dX2_tryRicher_13 rfl ?_
    refine g_iload_n dX2_tryRicher_14 rfl ?_
    refine g_isub dX2_tryRicher_15 ?_
    refine g_topi (fun x2 ex2 => ?_)
    refine g_iconst (v := 1) dX2_tryRicher_16 (by decide) ?_
    refine g_isub dX2_tryRicher_17 ?_
    refine g_topi (fun x3 ex3 => ?_)
    refine g_aload_n dX2_tryRicher_18 rfl ?_
    refine f_X2_25 rfl rfl dX2_tryRicher_19 ?_
    refine g_topi (fun x4 ex4 => ?_)
    have s5 : u.1 46 4 = x4 := ex4.symm
    refine g_imul dX2_tryRicher_22 ?_
    refine g_topi (fun x6 ex6 => ?_)
    refine g_istore dX2_tryRicher_23 (by decide) ?_
    refine g_pick (lv' := [(0, .ref (uk_ad G 46)), (1, .ref (uk_ad G 13)), (2, .int n), (3, .int g), (4, .int s), (5, .int x6)]) [0, 1, 2, 3, 4, 5] rfl ?_
    refine g_iconst (v := 0) dX2_tryRicher_25 (by decide) ?_
    refine g_istore dX2_tryRicher_26 (by decide) ?_
    refine g_pick (lv' := [(0, .ref (uk_ad G 46)), (1, .ref (uk_ad G 13)), (2, .int n), (3, .int g), (4, .int s), (5, .int x6), (6, .int 0)]) [0, 1, 2, 3, 4, 5, 6] rfl ?_
    have L28_6 : ∀ i8 : Int32, 0 ≤ i8 → i8 ≤ 18 → ∀ (u9 : uk_Mem), iv u9 → fr 13 49 u u9 → (∃ ki8 : Nat, ee_F 18 i8 ki8 ∧ e_X2_tryRicher_2 u n g s = l_X2_tryRicher_2_28 s x6 g n ki8 i8 u9) → uk_G G X mX2_tryRicher (d + 5) (qe_X2_tryRicher_2 u n g s) 28 [(0, .ref (uk_ad G 46)), (1, .ref (uk_ad G 13)), (2, .int n), (3, .int g), (4, .int s), (5, .int x6), (6, .int i8)] [] u9 := by
      refine uk_upl 18 ?_
      intro i8 ai8 bi8 ihi8  u9 hu9 fu9 jEi8
      obtain ⟨ki8, fki8, hki8⟩ := jEi8
      obtain ⟨ki8, rfl⟩ := ee_Fp (by first | assumption | lia | grind) fki8
      refine g_iload dX2_tryRicher_28 rfl ?_
      refine g_bipush (v := 10) dX2_tryRicher_30 (by decide) ?_
      refine g_aload_n dX2_tryRicher_32 rfl ?_
      refine f_X2_44 rfl rfl dX2_tryRicher_33 ?_
      refine g_topi (fun x10 ex10 => ?_)
      have rx10 : 0 ≤ x10 ∧ x10 ≤ 8 := by rw [ex10]; exact iv_at hu9 _ _ rfl
      have s11 : u9.1 13 0 = x10 := ex10.symm
      refine g_iadd dX2_tryRicher_36 ?_
      refine g_topi (fun x12 ex12 => ?_)
      refine g_icmp_ge (tgt := 112) dX2_tryRicher_37 (by decide) (fun c13 => ?_) (fun c13 => ?_)
      · exact g_vret dX2_tryRicher_112 rfl ⟨⟨rfl, hu9, fu9⟩, (by subst ex12; subst ex10; exact hki8.trans ((if_pos c13).trans (rfl)) : e_X2_tryRicher_2 u n g s = u9).symm⟩
      · refine g_aload_n dX2_tryRicher_40 rfl ?_
        refine g_iload dX2_tryRicher_41 rfl ?_
        refine cl_X2_45 (c := 13) (As := [.int i8]) rfl (x_X0_isAble (G := G) hs hu9 uk_isK13 i8  (d + 2)) rfl (by omega) rfl rfl (Nat.le_of_ble_eq_true rfl) dX2_tryRicher_43 (fun r14 u15 q16 => ?_)
        obtain ⟨q16, Eq16⟩ := q16
        obtain ⟨⟨x17, rfl, tx17, nx17, zx17⟩, mq16⟩ := q16
        rw [mq16]
        have ex17 : x17 = (e_X0_isAble u9 13 i8) := ee_v Eq16
        refine g_if_ne (tgt := 52) dX2_tryRicher_46 (by decide) (fun c18 => ?_) (fun c18 => ?_)
        · have zc18 := nx17 c18
          refine g_iload dX2_tryRicher_52 rfl ?_
          refine g_aload_n dX2_tryRicher_54 rfl ?_
          refine g_iload dX2_tryRicher_55 rfl ?_
          refine cl_X2_49 (c := 13) (As := [.int i8]) rfl (x_X0_gainOf (G := G) hs hu9 uk_isK13 i8 (by first | trivial | decide | lia | grind) (d + 3)) rfl (by omega) rfl rfl (Nat.le_of_ble_eq_true rfl) dX2_tryRicher_57 (fun r19 u20 q21 => ?_)
          obtain ⟨q21, Eq21⟩ := q21
          obtain ⟨⟨x22, rfl, tx22⟩, mq21⟩ := q21
          rw [mq21]
          have ex22 : x22 = (e_X0_gainOf u9 13 i8) := ee_v Eq21
          refine g_iadd dX2_tryRicher_60 ?_
          refine g_topi (fun x23 ex23 => ?_)
          refine g_istore dX2_tryRicher_61 (by decide) ?_
          refine g_pick (lv' := [(0, .ref (uk_ad G 46)), (1, .ref (uk_ad G 13)), (2, .int n), (3, .int g), (4, .int s), (5, .int x6), (6, .int i8), (7, .int x23)]) [0, 1, 2, 3, 4, 5, 6, 7] rfl ?_
          refine g_iload dX2_tryRicher_63 rfl ?_
          refine g_iload dX2_tryRicher_65 rfl ?_
          refine g_iadd dX2_tryRicher_67 ?_
          refine g_topi (fun x24 ex24 => ?_)
          refine g_aload_n dX2_tryRicher_68 rfl ?_
          refine f_X2_22 rfl rfl dX2_tryRicher_69 ?_
          refine g_topi (fun x25 ex25 => ?_)
          have s26 : u9.1 46 3 = x25 := ex25.symm
          refine g_icmp_le (tgt := 106) dX2_tryRicher_72 (by decide) (fun c27 => ?_) (fun c27 => ?_)
          · refine g_iinc (v := i8 + 1) dX2_tryRicher_106 rfl rfl (by decide) ?_
            refine g_pick (lv' := [(0, .ref (uk_ad G 46)), (1, .ref (uk_ad G 13)), (2, .int n), (3, .int g), (4, .int s), (5, .int x6), (6, .int (i8 + 1)), (7, .int x23)]) [0, 1, 2, 3, 4, 5, 6, 7] rfl ?_
            refine g_goto (tgt := 28) dX2_tryRicher_109 (by decide) ?_
            refine g_pick (lv' := [(0, .ref (uk_ad G 46)), (1, .ref (uk_ad G 13)), (2, .int n), (3, .int g), (4, .int s), (5, .int x6), (6, .int (i8 + 1))]) [0, 1, 2, 3, 4, 5, 6] rfl ?_
            exact ihi8 (by first | lia | grind)  u9 hu9 fu9  ⟨ki8, ee_Fs fki8 (by first | assumption | lia | grind), by subst ex25; subst ex24; subst ex23; subst ex22; subst ex17; subst ex12; subst ex10; exact hki8.trans ((if_neg c13).trans ((if_neg c18).trans ((if_pos c27).trans (rfl))))⟩
          · refine g_aload_n dX2_tryRicher_75 rfl ?_
            refine f_X2_9 rfl rfl dX2_tryRicher_76 ?_
            refine g_iload_n dX2_tryRicher_79 rfl ?_
            refine g_iload dX2_tryRicher_80 rfl ?_
            have v28 : vp_in g 4 := uk_vin 4 rfl (by first | decide | lia | grind) (by first | decide | lia | grind)
            have b29 := uk_cl v28
            refine g_iast rfl rfl v28 dX2_tryRicher_82 ?_
            refine g_mem (fun u30 eu30 => ?_)
            have hu30 : iv u30 := by rw [eu30]; exact iv_upF hu9 (uk_pick1 _ (by omega))
            have fu30 : fr 13 49 u u30 := by rw [eu30]; exact fr_up fu9 (by omega) (by omega)
            refine g_aload_n dX2_tryRicher_83 rfl ?_
            refine g_iload dX2_tryRicher_84 rfl ?_
            refine cl_X2_53 (c := 13) (As := [.int i8]) rfl (x_X0_perform (G := G) hs hu30 uk_isK13 i8 (by first | trivial | decide | lia | grind) (d + 2)) rfl (by omega) rfl rfl (Nat.le_of_ble_eq_true rfl) dX2_tryRicher_86 (fun r31 u32 q33 => ?_)
            obtain ⟨q33, Eq33⟩ := q33
            obtain ⟨rfl, mq33⟩ := q33
            obtain ⟨hu32, gu32⟩ := mq33
            have fu32 : fr 13 49 u u32 := fr_tr fu30 gu32 (by omega) (by omega)
            have s34 : u32.1 46 3 = x25 := (fr_at gu32 (by omega)).trans (by simp [eu30, uk_up_at, s26] : u30.1 46 3 = x25)
            have eu32 : u32 = e_X0_perform u30 13 i8 := Eq33
            refine g_aload_n dX2_tryRicher_89 rfl ?_
            refine g_aload_n dX2_tryRicher_90 rfl ?_
            refine g_iload_n dX2_tryRicher_91 rfl ?_
            refine g_iload_n dX2_tryRicher_92 rfl ?_
            refine g_iconst (v := 1) dX2_tryRicher_93 (by decide) ?_
            refine g_iadd dX2_tryRicher_94 ?_
            refine g_topi (fun x35 ex35 => ?_)
            refine g_iload dX2_tryRicher_95 rfl ?_
            refine cl_X2_36 (c := 46) (As := [.ref (uk_ad G 13), .int n, .int x35, .int x23]) rfl (x_X2_tryRicher_1 (G := G) hs hu32  n x35 x23 (by first | trivial | decide | lia | grind) (by first | trivial | decide | lia | grind) (by first | trivial | decide | lia | grind) (by first | trivial | decide | lia | grind) (d)) rfl (by omega) rfl rfl (Nat.le_of_ble_eq_true rfl) dX2_tryRicher_97 (fun r36 u37 q38 => ?_)
            obtain ⟨q38, Eq38⟩ := q38
            obtain ⟨rfl, mq38⟩ := q38
            obtain ⟨hu37, gu37⟩ := mq38
            have fu37 : fr 13 49 u u37 := fr_tr fu32 gu37 (by omega) (by omega)
            have eu37 : u37 = e_X2_tryRicher_1 u32 n x35 x23 := Eq38
            refine g_aload_n dX2_tryRicher_100 rfl ?_
            refine g_iload dX2_tryRicher_101 rfl ?_
            refine cl_X2_57 (c := 13) (As := [.int i8]) rfl (x_X0_undo (G := G) hs hu37 uk_isK13 i8 (by first | trivial | decide | lia | grind) (d + 2)) rfl (by omega) rfl rfl (Nat.le_of_ble_eq_true rfl) dX2_tryRicher_103 (fun r39 u40 q41 => ?_)
            obtain ⟨q41, Eq41⟩ := q41
            obtain ⟨rfl, mq41⟩ := q41
            obtain ⟨hu40, gu40⟩ := mq41
            have fu40 : fr 13 49 u u40 := fr_tr fu37 gu40 (by omega) (by omega)
            have eu40 : u40 = e_X0_undo u37 13 i8 := Eq41
            refine g_iinc (v := i8 + 1) dX2_tryRicher_106 rfl rfl (by decide) ?_
            refine g_pick (lv' := [(0, .ref (uk_ad G 46)), (1, .ref (uk_ad G 13)), (2, .int n), (3, .int g), (4, .int s), (5, .int x6), (6, .int (i8 + 1)), (7, .int x23)]) [0, 1, 2, 3, 4, 5, 6, 7] rfl ?_
            refine g_goto (tgt := 28) dX2_tryRicher_109 (by decide) ?_
            refine g_pick (lv' := [(0, .ref (uk_ad G 46)), (1, .ref (uk_ad G 13)), (2, .int n), (3, .int g), (4, .int s), (5, .int x6), (6, .int (i8 + 1))]) [0, 1, 2, 3, 4, 5, 6] rfl ?_
            exact ihi8 (by first | lia | grind)  u40 hu40 fu40  ⟨ki8, ee_Fs fki8 (by first | assumption | lia | grind), by subst eu40; subst eu37; subst ex35; subst eu32; subst eu30; subst ex25; subst ex24; subst ex23; subst ex22; subst ex17; subst ex12; subst ex10; exact hki8.trans ((if_neg c13).trans ((if_neg c18).trans ((if_neg c27).trans (rfl))))⟩
        · have zc18 := zx17 c18
          refine g_goto (tgt := 106) dX2_tryRicher_49 (by decide) ?_
          refine g_iinc (v := i8 + 1) dX2_tryRicher_106 rfl rfl (by decide) ?_
          refine g_pick (lv' := [(0, .ref (uk_ad G 46)), (1, .ref (uk_ad G 13)), (2, .int n), (3, .int g), (4, .int s), (5, .int x6), (6, .int (i8 + 1))]) [0, 1, 2, 3, 4, 5, 6] rfl ?_
          refine g_goto (tgt := 28) dX2_tryRicher_109 (by decide) ?_
          refine g_pick (lv' := [(0, .ref (uk_ad G 46)), (1, .ref (uk_ad G 13)), (2, .int n), (3, .int g), (4, .int s), (5, .int x6), (6, .int (i8 + 1))]) [0, 1, 2, 3, 4, 5, 6] rfl ?_
          exact ihi8 (by first | lia | grind)  u9 hu9 fu9  ⟨ki8, ee_Fs fki8 (by first | assumption | lia | grind), by subst ex17; subst ex12; subst ex10; exact hki8.trans ((if_neg c13).trans ((if_pos c18).trans (rfl)))⟩
    refine g_pick (lv' := [(0, .ref (uk_ad G 46)), (1, .ref (uk_ad G 13)), (2, .int n), (3, .int g), (4, .int s), (5, .int x6), (6, .int 0)]) [0, 1, 2, 3, 4, 5, 6] rfl ?_
    exact L28_6 0 (by first | decide | lia | grind) (by first | decide | lia | grind)  u hu f0  ⟨ee_K, ee_F0 _ _, by subst ex6; subst ex4; subst ex3; subst ex2; exact (if_pos c1).trans (rfl)⟩
  · refine g_aload_n dX2_tryRicher_5 rfl ?_
    refine g_iload_n dX2_tryRicher_6 rfl ?_
    refine g_iload dX2_tryRicher_7 rfl ?_
    refine cl_X2_40 (c := 46) (As := [.int n, .int s]) rfl (x_X2_keepPath (G := G) hs hu  n s (by first | trivial | decide | lia | grind) (by first | trivial | decide | lia | grind) (d + 4)) rfl (by omega) rfl rfl (Nat.le_of_ble_eq_true rfl) dX2_tryRicher_9 (fun r42 u43 q44 => ?_)
    obtain ⟨q44, Eq44⟩ := q44
    obtain ⟨rfl, mq44⟩ := q44
    obtain ⟨hu43, gu43⟩ := mq44
    have fu43 : fr 13 49 u u43 := fr_tr f0 gu43 (by omega) (by omega)
    have eu43 : u43 = e_X2_keepPath u n s := Eq44
    exact g_vret dX2_tryRicher_12 rfl ⟨⟨rfl, hu43, fu43⟩, (by subst eu43; exact (if_neg c1).trans (rfl) : e_X2_tryRicher_2 u n g s = u43).symm⟩
def l_X2_tryRicher_3_28 (s : Int32) (x6 : Int32) (g : Int32) (n : Int32) : Nat → Int32 → uk_Mem → uk_Mem
  | 0, _, u9 => u9
  | K9 + 1, i8, u9 => let x10 : Int32 := u9.1 13 0; let x12 : Int32 := (10 : Int32) + x10; if x12 ≤ i8 then (u9) else (let x17 : Int32 := (e_X0_isAble u9 13 i8); if x17 = 0 then (l_X2_tryRicher_3_28 s x6 g n K9 (i8 + 1) u9) else (let x22 : Int32 := (e_X0_gainOf u9 13 i8); let x23 : Int32 := s + x22; let x24 : Int32 := x23 + x6; let x25 : Int32 := u9.1 46 3; if x24 ≤ x25 then (l_X2_tryRicher_3_28 s x6 g n K9 (i8 + 1) u9) else (let u30 : uk_Mem := uk_up u9 47 g.toNatClampNeg i8; let u32 : uk_Mem := e_X0_perform u30 13 i8; let x35 : Int32 := g + (1 : Int32); let u37 : uk_Mem := e_X2_tryRicher_2 u32 n x35 x23; let u40 : uk_Mem := e_X0_undo u37 13 i8; l_X2_tryRicher_3_28 s x6 g n K9 (i8 + 1) u40)))
def e_X2_tryRicher_3 (u : uk_Mem) (n : Int32) (g : Int32) (s : Int32) : uk_Mem := if g < n then (let x2 : Int32 := n - g; let x3 : Int32 := x2 - (1 : Int32); let x4 : Int32 := u.1 46 4; let x6 : Int32 := x3 * x4; l_X2_tryRicher_3_28 s x6 g n ee_K (0 : Int32) u) else (let u43 : uk_Mem := e_X2_keepPath u n s; u43)
abbrev qe_X2_tryRicher_3 (u : uk_Mem) (n : Int32) (g : Int32) (s : Int32) (r : Option Value) (u' : uk_Mem) : Prop := (q_X2_tryRicher_3 u n g s r u') ∧ (u' = e_X2_tryRicher_3 u n g s)
set_option maxHeartbeats 4000000 in
set_option maxRecDepth 20000 in
theorem x_X2_tryRicher_3 {G : uk_D} (hs : uk_Sep G) {u : uk_Mem} (hu : iv u) (n : Int32) (g : Int32) (s : Int32) (p0 : 0 ≤ g) (p1 : g ≤ 4) (p2 : n ≤ 4) (p3 : g + 3 = n) (d : Nat) : uk_Meth G (d + 6) mX2_tryRicher [.ref (uk_ad G 46), .ref (uk_ad G 13), .int n, .int g, .int s] u (qe_X2_tryRicher_3 u n g s) := by
  refine uk_Meth.of hs (by decide) (Nat.le_of_ble_eq_true rfl) (fun X => ?_)
  have f0 : fr 13 49 u u := fr_rf
  refine g_iload_n dX2_tryRicher_0 rfl ?_
  refine g_iload_n dX2_tryRicher_1 rfl ?_
  refine g_icmp_lt (tgt := 13) dX2_tryRicher_2 (by decide) (fun c1 => ?_) (fun c1 => ?_)
  · refine g_iload_n dX2_tryRicher_13 rfl ?_
    refine g_iload_n dX2_tryRicher_14 rfl ?_
    refine g_isub dX2_tryRicher_15 ?_
    refine g_topi (fun x2 ex2 => ?_)
    refine g_iconst (v := 1) dX2_tryRicher_16 (by decide) ?_
    refine g_isub dX2_tryRicher_17 ?_
    refine g_topi (fun x3 ex3 => ?_)
    refine g_aload_n dX2_tryRicher_18 rfl ?_
    refine f_X2_25 rfl rfl dX2_tryRicher_19 ?_
    refine g_topi (fun x4 ex4 => ?_)
    have s5 : u.1 46 4 = x4 := ex4.symm
    refine g_imul dX2_tryRicher_22 ?_
    refine g_topi (fun x6 ex6 => ?_)
    refine g_istore dX2_tryRicher_23 (by decide) ?_
    refine g_pick (lv' := [(0, .ref (uk_ad G 46)), (1, .ref (uk_ad G 13)), (2, .int n), (3, .int g), (4, .int s), (5, .int x6)]) [0, 1, 2, 3, 4, 5] rfl ?_
    refine g_iconst (v := 0) dX2_tryRicher_25 (by decide) ?_
    refine g_istore dX2_tryRicher_26 (by decide) ?_
    refine g_pick (lv' := [(0, .ref (uk_ad G 46)), (1, .ref (uk_ad G 13)), (2, .int n), (3, .int g), (4, .int s), (5, .int x6), (6, .int 0)]) [0, 1, 2, 3, 4, 5, 6] rfl ?_
    have L28_6 : ∀ i8 : Int32, 0 ≤ i8 → i8 ≤ 18 → ∀ (u9 : uk_Mem), iv u9 → fr 13 49 u u9 → (∃ ki8 : Nat, ee_F 18 i8 ki8 ∧ e_X2_tryRicher_3 u n g s = l_X2_tryRicher_3_28 s x6 g n ki8 i8 u9) → uk_G G X mX2_tryRicher (d + 6) (qe_X2_tryRicher_3 u n g s) 28 [(0, .ref (uk_ad G 46)), (1, .ref (uk_ad G 13)), (2, .int n), (3, .int g), (4, .int s), (5, .int x6), (6, .int i8)] [] u9 := by
      refine uk_upl 18 ?_
      intro i8 ai8 bi8 ihi8  u9 hu9 fu9 jEi8
      obtain ⟨ki8, fki8, hki8⟩ := jEi8
      obtain ⟨ki8, rfl⟩ := ee_Fp (by first | assumption | lia | grind) fki8
      refine g_iload dX2_tryRicher_28 rfl ?_
      refine g_bipush (v := 10) dX2_tryRicher_30 (by decide) ?_
      refine g_aload_n dX2_tryRicher_32 rfl ?_
      refine f_X2_44 rfl rfl dX2_tryRicher_33 ?_
      refine g_topi (fun x10 ex10 => ?_)
      have rx10 : 0 ≤ x10 ∧ x10 ≤ 8 := by rw [ex10]; exact iv_at hu9 _ _ rfl
      have s11 : u9.1 13 0 = x10 := ex10.symm
      refine g_iadd dX2_tryRicher_36 ?_
      refine g_topi (fun x12 ex12 => ?_)
      refine g_icmp_ge (tgt := 112) dX2_tryRicher_37 (by decide) (fun c13 => ?_) (fun c13 => ?_)
      · exact g_vret dX2_tryRicher_112 rfl ⟨⟨rfl, hu9, fu9⟩, (by subst ex12; subst ex10; exact hki8.trans ((if_pos c13).trans (rfl)) : e_X2_tryRicher_3 u n g s = u9).symm⟩
      · refine g_aload_n dX2_tryRicher_40 rfl ?_
        refine g_iload dX2_tryRicher_41 rfl ?_
        refine cl_X2_45 (c := 13) (As := [.int i8]) rfl (x_X0_isAble (G := G) hs hu9 uk_isK13 i8  (d + 3)) rfl (by omega) rfl rfl (Nat.le_of_ble_eq_true rfl) dX2_tryRicher_43 (fun r14 u15 q16 => ?_)
        obtain ⟨q16, Eq16⟩ := q16
        obtain ⟨⟨x17, rfl, tx17, nx17, zx17⟩, mq16⟩ := q16
        rw [mq16]
        have ex17 : x17 = (e_X0_isAble u9 13 i8) := ee_v Eq16
        refine g_if_ne (tgt := 52) dX2_tryRicher_46 (by decide) (fun c18 => ?_) (fun c18 => ?_)
        · have zc18 := nx17 c18
          refine g_iload dX2_tryRicher_52 rfl ?_
          refine g_aload_n dX2_tryRicher_54 rfl ?_
          refine g_iload dX2_tryRicher_55 rfl ?_
          refine cl_X2_49 (c := 13) (As := [.int i8]) rfl (x_X0_gainOf (G := G) hs hu9 uk_isK13 i8 (by first | trivial | decide | lia | grind) (d + 4)) rfl (by omega) rfl rfl (Nat.le_of_ble_eq_true rfl) dX2_tryRicher_57 (fun r19 u20 q21 => ?_)
          obtain ⟨q21, Eq21⟩ := q21
          obtain ⟨⟨x22, rfl, tx22⟩, mq21⟩ := q21
          rw [mq21]
          have ex22 : x22 = (e_X0_gainOf u9 13 i8) := ee_v Eq21
          refine g_iadd dX2_tryRicher_60 ?_
          refine g_topi (fun x23 ex23 => ?_)
          refine g_istore dX2_tryRicher_61 (by decide) ?_
          refine g_pick (lv' := [(0, .ref (uk_ad G 46)), (1, .ref (uk_ad G 13)), (2, .int n), (3, .int g), (4, .int s), (5, .int x6), (6, .int i8), (7, .int x23)]) [0, 1, 2, 3, 4, 5, 6, 7] rfl ?_
          refine g_iload dX2_tryRicher_63 rfl ?_
          refine g_iload dX2_tryRicher_65 rfl ?_
          refine g_iadd dX2_tryRicher_67 ?_
          refine g_topi (fun x24 ex24 => ?_)
          refine g_aload_n dX2_tryRicher_68 rfl ?_
          refine f_X2_22 rfl rfl dX2_tryRicher_69 ?_
          refine g_topi (fun x25 ex25 => ?_)
          have s26 : u9.1 46 3 = x25 := ex25.symm
          refine g_icmp_le (tgt := 106) dX2_tryRicher_72 (by decide) (fun c27 => ?_) (fun c27 => ?_)
          · refine g_iinc (v := i8 + 1) dX2_tryRicher_106 rfl rfl (by decide) ?_
            refine g_pick (lv' := [(0, .ref (uk_ad G 46)), (1, .ref (uk_ad G 13)), (2, .int n), (3, .int g), (4, .int s), (5, .int x6), (6, .int (i8 + 1)), (7, .int x23)]) [0, 1, 2, 3, 4, 5, 6, 7] rfl ?_
            refine g_goto (tgt := 28) dX2_tryRicher_109 (by decide) ?_
            refine g_pick (lv' := [(0, .ref (uk_ad G 46)), (1, .ref (uk_ad G 13)), (2, .int n), (3, .int g), (4, .int s), (5, .int x6), (6, .int (i8 + 1))]) [0, 1, 2, 3, 4, 5, 6] rfl ?_
            exact ihi8 (by first | lia | grind)  u9 hu9 fu9  ⟨ki8, ee_Fs fki8 (by first | assumption | lia | grind), by subst ex25; subst ex24; subst ex23; subst ex22; subst ex17; subst ex12; subst ex10; exact hki8.trans ((if_neg c13).trans ((if_neg c18).trans ((if_pos c27).trans (rfl))))⟩
          · refine g_aload_n dX2_tryRicher_75 rfl ?_
            refine f_X2_9 rfl rfl dX2_tryRicher_76 ?_
            refine g_iload_n dX2_tryRicher_79 rfl ?_
            refine g_iload dX2_tryRicher_80 rfl ?_
            have v28 : vp_in g 4 := uk_vin 4 rfl (by first | decide | lia | grind) (by first | decide | lia | grind)
            have b29 := uk_cl v28
            refine g_iast rfl rfl v28 dX2_tryRicher_82 ?_
            refine g_mem (fun u30 eu30 => ?_)
            have hu30 : iv u30 := by rw [eu30]; exact iv_upF hu9 (uk_pick1 _ (by omega))
            have fu30 : fr 13 49 u u30 := by rw [eu30]; exact fr_up fu9 (by omega) (by omega)
            refine g_aload_n dX2_tryRicher_83 rfl ?_
            refine g_iload dX2_tryRicher_84 rfl ?_
            refine cl_X2_53 (c := 13) (As := [.int i8]) rfl (x_X0_perform (G := G) hs hu30 uk_isK13 i8 (by first | trivial | decide | lia | grind) (d + 3)) rfl (by omega) rfl rfl (Nat.le_of_ble_eq_true rfl) dX2_tryRicher_86 (fun r31 u32 q33 => ?_)
            obtain ⟨q33, Eq33⟩ := q33
            obtain ⟨rfl, mq33⟩ := q33
            obtain ⟨hu32, gu32⟩ := mq33
            have fu32 : fr 13 49 u u32 := fr_tr fu30 gu32 (by omega) (by omega)
            have s34 : u32.1 46 3 = x25 := (fr_at gu32 (by omega)).trans (by simp [eu30, uk_up_at, s26] : u30.1 46 3 = x25)
            have eu32 : u32 = e_X0_perform u30 13 i8 := Eq33
            refine g_aload_n dX2_tryRicher_89 rfl ?_
            refine g_aload_n dX2_tryRicher_90 rfl ?_
            refine g_iload_n dX2_tryRicher_91 rfl ?_
            refine g_iload_n dX2_tryRicher_92 rfl ?_
            refine g_iconst (v := 1) dX2_tryRicher_93 (by decide) ?_
            refine g_iadd dX2_tryRicher_94 ?_
            refine g_topi (fun x35 ex35 => ?_)
            refine g_iload dX2_tryRicher_95 rfl ?_
            refine cl_X2_36 (c := 46) (As := [.ref (uk_ad G 13), .int n, .int x35, .int x23]) rfl (x_X2_tryRicher_2 (G := G) hs hu32  n x35 x23 (by first | trivial | decide | lia | grind) (by first | trivial | decide | lia | grind) (by first | trivial | decide | lia | grind) (by first | trivial | decide | lia | grind) (d)) rfl (by omega) rfl rfl (Nat.le_of_ble_eq_true rfl) dX2_tryRicher_97 (fun r36 u37 q38 => ?_)
            obtain ⟨q38, Eq38⟩ := q38
            obtain ⟨rfl, mq38⟩ := q38
            obtain ⟨hu37, gu37⟩ := mq38
            have fu37 : fr 13 49 u u37 := fr_tr fu32 gu37 (by omega) (by omega)
            have eu37 : u37 = e_X2_tryRicher_2 u32 n x35 x23 := Eq38
            refine g_aload_n dX2_tryRicher_100 rfl ?_
            refine g_iload dX2_tryRicher_101 rfl ?_
            refine cl_X2_57 (c := 13) (As := [.int i8]) rfl (x_X0_undo (G := G) hs hu37 uk_isK13 i8 (by first | trivial | decide | lia | grind) (d + 3)) rfl (by omega) rfl rfl (Nat.le_of_ble_eq_true rfl) dX2_tryRicher_103 (fun r39 u40 q41 => ?_)
            obtain ⟨q41, Eq41⟩ := q41
            obtain ⟨rfl, mq41⟩ := q41
            obtain ⟨hu40, gu40⟩ := mq41
            have fu40 : fr 13 49 u u40 := fr_tr fu37 gu40 (by omega) (by omega)
            have eu40 : u40 = e_X0_undo u37 13 i8 := Eq41
            refine g_iinc (v := i8 + 1) dX2_tryRicher_106 rfl rfl (by decide) ?_
            refine g_pick (lv' := [(0, .ref (uk_ad G 46)), (1, .ref (uk_ad G 13)), (2, .int n), (3, .int g), (4, .int s), (5, .int x6), (6, .int (i8 + 1)), (7, .int x23)]) [0, 1, 2, 3, 4, 5, 6, 7] rfl ?_
            refine g_goto (tgt := 28) dX2_tryRicher_109 (by decide) ?_
            refine g_pick (lv' := [(0, .ref (uk_ad G 46)), (1, .ref (uk_ad G 13)), (2, .int n), (3, .int g), (4, .int s), (5, .int x6), (6, .int (i8 + 1))]) [0, 1, 2, 3, 4, 5, 6] rfl ?_
            exact ihi8 (by first | lia | grind)  u40 hu40 fu40  ⟨ki8, ee_Fs fki8 (by first | assumption | lia | grind), by subst eu40; subst eu37; subst ex35; subst eu32; subst eu30; subst ex25; subst ex24; subst ex23; subst ex22; subst ex17; subst ex12; subst ex10; exact hki8.trans ((if_neg c13).trans ((if_neg c18).trans ((if_neg c27).trans (rfl))))⟩
        · have zc18 := zx17 c18
          refine g_goto (tgt := 106) dX2_tryRicher_49 (by decide) ?_
          refine g_iinc (v := i8 + 1) dX2_tryRicher_106 rfl rfl (by decide) ?_
          refine g_pick (lv' := [(0, .ref (uk_ad G 46)), (1, .ref (uk_ad G 13)), (2, .int n), (3, .int g), (4, .int s), (5, .int x6), (6, .int (i8 + 1))]) [0, 1, 2, 3, 4, 5, 6] rfl ?_
          refine g_goto (tgt := 28) dX2_tryRicher_109 (by decide) ?_
          refine g_pick (lv' := [(0, .ref (uk_ad G 46)), (1, .ref (uk_ad G 13)), (2, .int n), (3, .int g), (4, .int s), (5, .int x6), (6, .int (i8 + 1))]) [0, 1, 2, 3, 4, 5, 6] rfl ?_
          exact ihi8 (by first | lia | grind)  u9 hu9 fu9  ⟨ki8, ee_Fs fki8 (by first | assumption | lia | grind), by subst ex17; subst ex12; subst ex10; exact hki8.trans ((if_neg c13).trans ((if_pos c18).trans (rfl)))⟩
    refine g_pick (lv' := [(0, .ref (uk_ad G 46)), (1, .ref (uk_ad G 13)), (2, .int n), (3, .int g), (4, .int s), (5, .int x6), (6, .int 0)]) [0, 1, 2, 3, 4, 5, 6] rfl ?_
    exact L28_6 0 (by first | decide | lia | grind) (by first | decide | lia | grind)  u hu f0  ⟨ee_K, ee_F0 _ _, by subst ex6; subst ex4; subst ex3; subst ex2; exact (if_pos c1).trans (rfl)⟩
  · refine g_aload_n dX2_tryRicher_5 rfl ?_
    refine g_iload_n dX2_tryRicher_6 rfl ?_
    refine g_iload dX2_tryRicher_7 rfl ?_
    refine cl_X2_40 (c := 46) (As := [.int n, .int s]) rfl (x_X2_keepPath (G := G) hs hu  n s (by first | trivial | decide | lia | grind) (by first | trivial | decide | lia | grind) (d + 5)) rfl (by omega) rfl rfl (Nat.le_of_ble_eq_true rfl) dX2_tryRicher_9 (fun r42 u43 q44 => ?_)
    obtain ⟨q44, Eq44⟩ := q44
    obtain ⟨rfl, mq44⟩ := q44
    obtain ⟨hu43, gu43⟩ := mq44
    have fu43 : fr 13 49 u u43 := fr_tr f0 gu43 (by omega) (by omega)
    have eu43 : u43 = e_X2_keepPath u n s := Eq44
    exact g_vret dX2_tryRicher_12 rfl ⟨⟨rfl, hu43, fu43⟩, (by subst eu43; exact (if_neg c1).trans (rfl) : e_X2_tryRicher_3 u n g s = u43).symm⟩
def l_X2_tryRicher_4_28 (s : Int32) (x6 : Int32) (g : Int32) (n : Int32) : Nat → Int32 → uk_Mem → uk_Mem
  | 0, _, u9 => u9
  | K9 + 1, i8, u9 => let x10 : Int32 := u9.1 13 0; let x12 : Int32 := (10 : Int32) + x10; if x12 ≤ i8 then (u9) else (let x17 : Int32 := (e_X0_isAble u9 13 i8); if x17 = 0 then (l_X2_tryRicher_4_28 s x6 g n K9 (i8 + 1) u9) else (let x22 : Int32 := (e_X0_gainOf u9 13 i8); let x23 : Int32 := s + x22; let x24 : Int32 := x23 + x6; let x25 : Int32 := u9.1 46 3; if x24 ≤ x25 then (l_X2_tryRicher_4_28 s x6 g n K9 (i8 + 1) u9) else (let u30 : uk_Mem := uk_up u9 47 g.toNatClampNeg i8; let u32 : uk_Mem := e_X0_perform u30 13 i8; let x35 : Int32 := g + (1 : Int32); let u37 : uk_Mem := e_X2_tryRicher_3 u32 n x35 x23; let u40 : uk_Mem := e_X0_undo u37 13 i8; l_X2_tryRicher_4_28 s x6 g n K9 (i8 + 1) u40)))
def e_X2_tryRicher_4 (u : uk_Mem) (n : Int32) (g : Int32) (s : Int32) : uk_Mem := if g < n then (let x2 : Int32 := n - g; let x3 : Int32 := x2 - (1 : Int32); let x4 : Int32 := u.1 46 4; let x6 : Int32 := x3 * x4; l_X2_tryRicher_4_28 s x6 g n ee_K (0 : Int32) u) else (let u43 : uk_Mem := e_X2_keepPath u n s; u43)
abbrev qe_X2_tryRicher_4 (u : uk_Mem) (n : Int32) (g : Int32) (s : Int32) (r : Option Value) (u' : uk_Mem) : Prop := (q_X2_tryRicher_4 u n g s r u') ∧ (u' = e_X2_tryRicher_4 u n g s)
set_option maxHeartbeats 4000000 in
set_option maxRecDepth 20000 in
theorem x_X2_tryRicher_4 {G : uk_D} (hs : uk_Sep G) {u : uk_Mem} (hu : iv u) (n : Int32) (g : Int32) (s : Int32) (p0 : 0 ≤ g) (p1 : g ≤ 4) (p2 : n ≤ 4) (p3 : g + 4 = n) (d : Nat) : uk_Meth G (d + 7) mX2_tryRicher [.ref (uk_ad G 46), .ref (uk_ad G 13), .int n, .int g, .int s] u (qe_X2_tryRicher_4 u n g s) := by
  refine uk_Meth.of hs (by decide) (Nat.le_of_ble_eq_true rfl) (fun X => ?_)
  have f0 : fr 13 49 u u := fr_rf
  refine g_iload_n dX2_tryRicher_0 rfl ?_
  refine g_iload_n dX2_tryRicher_1 rfl ?_
  refine g_icmp_lt (tgt := 13) dX2_tryRicher_2 (by decide) (fun c1 => ?_) (fun c1 => ?_)
  · refine g_iload_n dX2_tryRicher_13 rfl ?_
    refine g_iload_n dX2_tryRicher_14 rfl ?_
    refine g_isub dX2_tryRicher_15 ?_
    refine g_topi (fun x2 ex2 => ?_)
    refine g_iconst (v := 1) dX2_tryRicher_16 (by decide) ?_
    refine g_isub dX2_tryRicher_17 ?_
    refine g_topi (fun x3 ex3 => ?_)
    refine g_aload_n dX2_tryRicher_18 rfl ?_
    refine f_X2_25 rfl rfl dX2_tryRicher_19 ?_
    refine g_topi (fun x4 ex4 => ?_)
    have s5 : u.1 46 4 = x4 := ex4.symm
    refine g_imul dX2_tryRicher_22 ?_
    refine g_topi (fun x6 ex6 => ?_)
    refine g_istore dX2_tryRicher_23 (by decide) ?_
    refine g_pick (lv' := [(0, .ref (uk_ad G 46)), (1, .ref (uk_ad G 13)), (2, .int n), (3, .int g), (4, .int s), (5, .int x6)]) [0, 1, 2, 3, 4, 5] rfl ?_
    refine g_iconst (v := 0) dX2_tryRicher_25 (by decide) ?_
    refine g_istore dX2_tryRicher_26 (by decide) ?_
    refine g_pick (lv' := [(0, .ref (uk_ad G 46)), (1, .ref (uk_ad G 13)), (2, .int n), (3, .int g), (4, .int s), (5, .int x6), (6, .int 0)]) [0, 1, 2, 3, 4, 5, 6] rfl ?_
    have L28_6 : ∀ i8 : Int32, 0 ≤ i8 → i8 ≤ 18 → ∀ (u9 : uk_Mem), iv u9 → fr 13 49 u u9 → (∃ ki8 : Nat, ee_F 18 i8 ki8 ∧ e_X2_tryRicher_4 u n g s = l_X2_tryRicher_4_28 s x6 g n ki8 i8 u9) → uk_G G X mX2_tryRicher (d + 7) (qe_X2_tryRicher_4 u n g s) 28 [(0, .ref (uk_ad G 46)), (1, .ref (uk_ad G 13)), (2, .int n), (3, .int g), (4, .int s), (5, .int x6), (6, .int i8)] [] u9 := by
      refine uk_upl 18 ?_
      intro i8 ai8 bi8 ihi8  u9 hu9 fu9 jEi8
      obtain ⟨ki8, fki8, hki8⟩ := jEi8
      obtain ⟨ki8, rfl⟩ := ee_Fp (by first | assumption | lia | grind) fki8
      refine g_iload dX2_tryRicher_28 rfl ?_
      refine g_bipush (v := 10) dX2_tryRicher_30 (by decide) ?_
      refine g_aload_n dX2_tryRicher_32 rfl ?_
      refine f_X2_44 rfl rfl dX2_tryRicher_33 ?_
      refine g_topi (fun x10 ex10 => ?_)
      have rx10 : 0 ≤ x10 ∧ x10 ≤ 8 := by rw [ex10]; exact iv_at hu9 _ _ rfl
      have s11 : u9.1 13 0 = x10 := ex10.symm
      refine g_iadd dX2_tryRicher_36 ?_
      refine g_topi (fun x12 ex12 => ?_)
      refine g_icmp_ge (tgt := 112) dX2_tryRicher_37 (by decide) (fun c13 => ?_) (fun c13 => ?_)
      · exact g_vret dX2_tryRicher_112 rfl ⟨⟨rfl, hu9, fu9⟩, (by subst ex12; subst ex10; exact hki8.trans ((if_pos c13).trans (rfl)) : e_X2_tryRicher_4 u n g s = u9).symm⟩
      · refine g_aload_n dX2_tryRicher_40 rfl ?_
        refine g_iload dX2_tryRicher_41 rfl ?_
        refine cl_X2_45 (c := 13) (As := [.int i8]) rfl (x_X0_isAble (G := G) hs hu9 uk_isK13 i8  (d + 4)) rfl (by omega) rfl rfl (Nat.le_of_ble_eq_true rfl) dX2_tryRicher_43 (fun r14 u15 q16 => ?_)
        obtain ⟨q16, Eq16⟩ := q16
        obtain ⟨⟨x17, rfl, tx17, nx17, zx17⟩, mq16⟩ := q16
        rw [mq16]
        have ex17 : x17 = (e_X0_isAble u9 13 i8) := ee_v Eq16
        refine g_if_ne (tgt := 52) dX2_tryRicher_46 (by decide) (fun c18 => ?_) (fun c18 => ?_)
        · have zc18 := nx17 c18
          refine g_iload dX2_tryRicher_52 rfl ?_
          refine g_aload_n dX2_tryRicher_54 rfl ?_
          refine g_iload dX2_tryRicher_55 rfl ?_
          refine cl_X2_49 (c := 13) (As := [.int i8]) rfl (x_X0_gainOf (G := G) hs hu9 uk_isK13 i8 (by first | trivial | decide | lia | grind) (d + 5)) rfl (by omega) rfl rfl (Nat.le_of_ble_eq_true rfl) dX2_tryRicher_57 (fun r19 u20 q21 => ?_)
          obtain ⟨q21, Eq21⟩ := q21
          obtain ⟨⟨x22, rfl, tx22⟩, mq21⟩ := q21
          rw [mq21]
          have ex22 : x22 = (e_X0_gainOf u9 13 i8) := ee_v Eq21
          refine g_iadd dX2_tryRicher_60 ?_
          refine g_topi (fun x23 ex23 => ?_)
          refine g_istore dX2_tryRicher_61 (by decide) ?_
          refine g_pick (lv' := [(0, .ref (uk_ad G 46)), (1, .ref (uk_ad G 13)), (2, .int n), (3, .int g), (4, .int s), (5, .int x6), (6, .int i8), (7, .int x23)]) [0, 1, 2, 3, 4, 5, 6, 7] rfl ?_
          refine g_iload dX2_tryRicher_63 rfl ?_
          refine g_iload dX2_tryRicher_65 rfl ?_
          refine g_iadd dX2_tryRicher_67 ?_
          refine g_topi (fun x24 ex24 => ?_)
          refine g_aload_n dX2_tryRicher_68 rfl ?_
          refine f_X2_22 rfl rfl dX2_tryRicher_69 ?_
          refine g_topi (fun x25 ex25 => ?_)
          have s26 : u9.1 46 3 = x25 := ex25.symm
          refine g_icmp_le (tgt := 106) dX2_tryRicher_72 (by decide) (fun c27 => ?_) (fun c27 => ?_)
          · refine g_iinc (v := i8 + 1) dX2_tryRicher_106 rfl rfl (by decide) ?_
            refine g_pick (lv' := [(0, .ref (uk_ad G 46)), (1, .ref (uk_ad G 13)), (2, .int n), (3, .int g), (4, .int s), (5, .int x6), (6, .int (i8 + 1)), (7, .int x23)]) [0, 1, 2, 3, 4, 5, 6, 7] rfl ?_
            refine g_goto (tgt := 28) dX2_tryRicher_109 (by decide) ?_
            refine g_pick (lv' := [(0, .ref (uk_ad G 46)), (1, .ref (uk_ad G 13)), (2, .int n), (3, .int g), (4, .int s), (5, .int x6), (6, .int (i8 + 1))]) [0, 1, 2, 3, 4, 5, 6] rfl ?_
            exact ihi8 (by first | lia | grind)  u9 hu9 fu9  ⟨ki8, ee_Fs fki8 (by first | assumption | lia | grind), by subst ex25; subst ex24; subst ex23; subst ex22; subst ex17; subst ex12; subst ex10; exact hki8.trans ((if_neg c13).trans ((if_neg c18).trans ((if_pos c27).trans (rfl))))⟩
          · refine g_aload_n dX2_tryRicher_75 rfl ?_
            refine f_X2_9 rfl rfl dX2_tryRicher_76 ?_
            refine g_iload_n dX2_tryRicher_79 rfl ?_
            refine g_iload dX2_tryRicher_80 rfl ?_
            have v28 : vp_in g 4 := uk_vin 4 rfl (by first | decide | lia | grind) (by first | decide | lia | grind)
            have b29 := uk_cl v28
            refine g_iast rfl rfl v28 dX2_tryRicher_82 ?_
            refine g_mem (fun u30 eu30 => ?_)
            have hu30 : iv u30 := by rw [eu30]; exact iv_upF hu9 (uk_pick1 _ (by omega))
            have fu30 : fr 13 49 u u30 := by rw [eu30]; exact fr_up fu9 (by omega) (by omega)
            refine g_aload_n dX2_tryRicher_83 rfl ?_
            refine g_iload dX2_tryRicher_84 rfl ?_
            refine cl_X2_53 (c := 13) (As := [.int i8]) rfl (x_X0_perform (G := G) hs hu30 uk_isK13 i8 (by first | trivial | decide | lia | grind) (d + 4)) rfl (by omega) rfl rfl (Nat.le_of_ble_eq_true rfl) dX2_tryRicher_86 (fun r31 u32 q33 => ?_)
            obtain ⟨q33, Eq33⟩ := q33
            obtain ⟨rfl, mq33⟩ := q33
            obtain ⟨hu32, gu32⟩ := mq33
            have fu32 : fr 13 49 u u32 := fr_tr fu30 gu32 (by omega) (by omega)
            have s34 : u32.1 46 3 = x25 := (fr_at gu32 (by omega)).trans (by simp [eu30, uk_up_at, s26] : u30.1 46 3 = x25)
            have eu32 : u32 = e_X0_perform u30 13 i8 := Eq33
            refine g_aload_n dX2_tryRicher_89 rfl ?_
            refine g_aload_n dX2_tryRicher_90 rfl ?_
            refine g_iload_n dX2_tryRicher_91 rfl ?_
            refine g_iload_n dX2_tryRicher_92 rfl ?_
            refine g_iconst (v := 1) dX2_tryRicher_93 (by decide) ?_
            refine g_iadd dX2_tryRicher_94 ?_
            refine g_topi (fun x35 ex35 => ?_)
            refine g_iload dX2_tryRicher_95 rfl ?_
            refine cl_X2_36 (c := 46) (As := [.ref (uk_ad G 13), .int n, .int x35, .int x23]) rfl (x_X2_tryRicher_3 (G := G) hs hu32  n x35 x23 (by first | trivial | decide | lia | grind) (by first | trivial | decide | lia | grind) (by first | trivial | decide | lia | grind) (by first | trivial | decide | lia | grind) (d)) rfl (by omega) rfl rfl (Nat.le_of_ble_eq_true rfl) dX2_tryRicher_97 (fun r36 u37 q38 => ?_)
            obtain ⟨q38, Eq38⟩ := q38
            obtain ⟨rfl, mq38⟩ := q38
            obtain ⟨hu37, gu37⟩ := mq38
            have fu37 : fr 13 49 u u37 := fr_tr fu32 gu37 (by omega) (by omega)
            have eu37 : u37 = e_X2_tryRicher_3 u32 n x35 x23 := Eq38
            refine g_aload_n dX2_tryRicher_100 rfl ?_
            refine g_iload dX2_tryRicher_101 rfl ?_
            refine cl_X2_57 (c := 13) (As := [.int i8]) rfl (x_X0_undo (G := G) hs hu37 uk_isK13 i8 (by first | trivial | decide | lia | grind) (d + 4)) rfl (by omega) rfl rfl (Nat.le_of_ble_eq_true rfl) dX2_tryRicher_103 (fun r39 u40 q41 => ?_)
            obtain ⟨q41, Eq41⟩ := q41
            obtain ⟨rfl, mq41⟩ := q41
            obtain ⟨hu40, gu40⟩ := mq41
            have fu40 : fr 13 49 u u40 := fr_tr fu37 gu40 (by omega) (by omega)
            have eu40 : u40 = e_X0_undo u37 13 i8 := Eq41
            refine g_iinc (v := i8 + 1) dX2_tryRicher_106 rfl rfl (by decide) ?_
            refine g_pick (lv' := [(0, .ref (uk_ad G 46)), (1, .ref (uk_ad G 13)), (2, .int n), (3, .int g), (4, .int s), (5, .int x6), (6, .int (i8 + 1)), (7, .int x23)]) [0, 1, 2, 3, 4, 5, 6, 7] rfl ?_
            refine g_goto (tgt := 28) dX2_tryRicher_109 (by decide) ?_
            refine g_pick (lv' := [(0, .ref (uk_ad G 46)), (1, .ref (uk_ad G 13)), (2, .int n), (3, .int g), (4, .int s), (5, .int x6), (6, .int (i8 + 1))]) [0, 1, 2, 3, 4, 5, 6] rfl ?_
            exact ihi8 (by first | lia | grind)  u40 hu40 fu40  ⟨ki8, ee_Fs fki8 (by first | assumption | lia | grind), by subst eu40; subst eu37; subst ex35; subst eu32; subst eu30; subst ex25; subst ex24; subst ex23; subst ex22; subst ex17; subst ex12; subst ex10; exact hki8.trans ((if_neg c13).trans ((if_neg c18).trans ((if_neg c27).trans (rfl))))⟩
        · have zc18 := zx17 c18
          refine g_goto (tgt := 106) dX2_tryRicher_49 (by decide) ?_
          refine g_iinc (v := i8 + 1) dX2_tryRicher_106 rfl rfl (by decide) ?_
          refine g_pick (lv' := [(0, .ref (uk_ad G 46)), (1, .ref (uk_ad G 13)), (2, .int n), (3, .int g), (4, .int s), (5, .int x6), (6, .int (i8 + 1))]) [0, 1, 2, 3, 4, 5, 6] rfl ?_
          refine g_goto (tgt := 28) dX2_tryRicher_109 (by decide) ?_
          refine g_pick (lv' := [(0, .ref (uk_ad G 46)), (1, .ref (uk_ad G 13)), (2, .int n), (3, .int g), (4, .int s), (5, .int x6), (6, .int (i8 + 1))]) [0, 1, 2, 3, 4, 5, 6] rfl ?_
          exact ihi8 (by first | lia | grind)  u9 hu9 fu9  ⟨ki8, ee_Fs fki8 (by first | assumption | lia | grind), by subst ex17; subst ex12; subst ex10; exact hki8.trans ((if_neg c13).trans ((if_pos c18).trans (rfl)))⟩
    refine g_pick (lv' := [(0, .ref (uk_ad G 46)), (1, .ref (uk_ad G 13)), (2, .int n), (3, .int g), (4, .int s), (5, .int x6), (6, .int 0)]) [0, 1, 2, 3, 4, 5, 6] rfl ?_
    exact L28_6 0 (by first | decide | lia | grind) (by first | decide | lia | grind)  u hu f0  ⟨ee_K, ee_F0 _ _, by subst ex6; subst ex4; subst ex3; subst ex2; exact (if_pos c1).trans (rfl)⟩
  · refine g_aload_n dX2_tryRicher_5 rfl ?_
    refine g_iload_n dX2_tryRicher_6 rfl ?_
    refine g_iload dX2_tryRicher_7 rfl ?_
    refine cl_X2_40 (c := 46) (As := [.int n, .int s]) rfl (x_X2_keepPath (G := G) hs hu  n s (by first | trivial | decide | lia | grind) (by first | trivial | decide | lia | grind) (d + 6)) rfl (by omega) rfl rfl (Nat.le_of_ble_eq_true rfl) dX2_tryRicher_9 (fun r42 u43 q44 => ?_)
    obtain ⟨q44, Eq44⟩ := q44
    obtain ⟨rfl, mq44⟩ := q44
    obtain ⟨hu43, gu43⟩ := mq44
    have fu43 : fr 13 49 u u43 := fr_tr f0 gu43 (by omega) (by omega)
    have eu43 : u43 = e_X2_keepPath u n s := Eq44
    exact g_vret dX2_tryRicher_12 rfl ⟨⟨rfl, hu43, fu43⟩, (by subst eu43; exact (if_neg c1).trans (rfl) : e_X2_tryRicher_4 u n g s = u43).symm⟩
def e_X2_tryRicher (u : uk_Mem) (n : Int32) (g : Int32) (s : Int32) : uk_Mem := if g = n then e_X2_tryRicher_0 u n g s else if g + 1 = n then e_X2_tryRicher_1 u n g s else if g + 2 = n then e_X2_tryRicher_2 u n g s else if g + 3 = n then e_X2_tryRicher_3 u n g s else e_X2_tryRicher_4 u n g s
abbrev qe_X2_tryRicher (u : uk_Mem) (n : Int32) (g : Int32) (s : Int32) (r : Option Value) (u' : uk_Mem) : Prop := (q_X2_tryRicher u n g s r u') ∧ (u' = e_X2_tryRicher u n g s)
theorem x_X2_tryRicher {G : uk_D} (hs : uk_Sep G) {u : uk_Mem} (hu : iv u) (n : Int32) (g : Int32) (s : Int32) (p0 : 0 ≤ g) (p1 : g ≤ n) (p2 : n ≤ 4) (d : Nat) : uk_Meth G (d + 7) mX2_tryRicher [.ref (uk_ad G 46), .ref (uk_ad G 13), .int n, .int g, .int s] u (qe_X2_tryRicher u n g s) := by
  have hc : g = n ∨ g + 1 = n ∨ g + 2 = n ∨ g + 3 = n ∨ g + 4 = n := by grind
  rcases hc with q | q | q | q | q
  · have e : e_X2_tryRicher u n g s = e_X2_tryRicher_0 u n g s := by
      unfold e_X2_tryRicher
      rw [if_pos q]
    exact uk_Meth.imp (x_X2_tryRicher_0 hs hu n g s p0 (by grind) p2 q (d + 4)) (fun r u' h => ⟨h.1, by rw [e]; exact h.2⟩)
  · have e : e_X2_tryRicher u n g s = e_X2_tryRicher_1 u n g s := by
      unfold e_X2_tryRicher
      rw [if_neg (by grind)]
      rw [if_pos q]
    exact uk_Meth.imp (x_X2_tryRicher_1 hs hu n g s p0 (by grind) p2 q (d + 3)) (fun r u' h => ⟨h.1, by rw [e]; exact h.2⟩)
  · have e : e_X2_tryRicher u n g s = e_X2_tryRicher_2 u n g s := by
      unfold e_X2_tryRicher
      rw [if_neg (by grind)]
      rw [if_neg (by grind)]
      rw [if_pos q]
    exact uk_Meth.imp (x_X2_tryRicher_2 hs hu n g s p0 (by grind) p2 q (d + 2)) (fun r u' h => ⟨h.1, by rw [e]; exact h.2⟩)
  · have e : e_X2_tryRicher u n g s = e_X2_tryRicher_3 u n g s := by
      unfold e_X2_tryRicher
      rw [if_neg (by grind)]
      rw [if_neg (by grind)]
      rw [if_neg (by grind)]
      rw [if_pos q]
    exact uk_Meth.imp (x_X2_tryRicher_3 hs hu n g s p0 (by grind) p2 q (d + 1)) (fun r u' h => ⟨h.1, by rw [e]; exact h.2⟩)
  · have e : e_X2_tryRicher u n g s = e_X2_tryRicher_4 u n g s := by
      unfold e_X2_tryRicher
      rw [if_neg (by grind)]
      rw [if_neg (by grind)]
      rw [if_neg (by grind)]
      rw [if_neg (by grind)]
    exact uk_Meth.imp (x_X2_tryRicher_4 hs hu n g s p0 (by grind) p2 q (d + 0)) (fun r u' h => ⟨h.1, by rw [e]; exact h.2⟩)
def e_X2_tryReaching_0 (u : uk_Mem) (m : Int32) (n : Int32) (g : Int32) : Int32 × uk_Mem := let x3 : Int32 := u.1 19 m.toNatClampNeg; if x3 ≤ 0 then (((0 : Int32), u)) else (((1 : Int32), u))
abbrev qe_X2_tryReaching_0 (u : uk_Mem) (m : Int32) (n : Int32) (g : Int32) (r : Option Value) (u' : uk_Mem) : Prop := (q_X2_tryReaching_0 u m n g r u') ∧ (r = some (.int (e_X2_tryReaching_0 u m n g).1) ∧ u' = (e_X2_tryReaching_0 u m n g).2)
set_option maxHeartbeats 4000000 in
set_option maxRecDepth 20000 in
theorem x_X2_tryReaching_0 {G : uk_D} (hs : uk_Sep G) {u : uk_Mem} (hu : iv u) (m : Int32) (n : Int32) (g : Int32) (p0 : 0 ≤ m) (p1 : m ≤ 7) (p2 : 0 ≤ g) (p3 : g ≤ 4) (p4 : n ≤ 4) (p5 : g = n) (d : Nat) : uk_Meth G (d + 3) mX2_tryReaching [.ref (uk_ad G 46), .ref (uk_ad G 13), .int m, .int n, .int g] u (qe_X2_tryReaching_0 u m n g) := by
  refine uk_Meth.of hs (by decide) (Nat.le_of_ble_eq_true rfl) (fun X => ?_)
  have f0 : fr 13 49 u u := fr_rf
  refine g_iload dX2_tryReaching_0 rfl ?_
  refine g_iload_n dX2_tryReaching_2 rfl ?_
  refine g_icmp_lt (tgt := 21) dX2_tryReaching_3 (by decide) (fun c1 => ?_) (fun c1 => ?_)
  · exfalso; grind
  · refine g_aload_n dX2_tryReaching_6 rfl ?_
    refine f_X2_64 rfl rfl dX2_tryReaching_7 ?_
    refine g_iload_n dX2_tryReaching_10 rfl ?_
    have v2 : vp_in m 8 := uk_vin 8 rfl (by first | decide | lia | grind) (by first | decide | lia | grind)
    refine g_iald rfl rfl v2 dX2_tryReaching_11 ?_
    refine g_topi (fun x3 ex3 => ?_)
    refine g_if_le (tgt := 19) dX2_tryReaching_12 (by decide) (fun c4 => ?_) (fun c4 => ?_)
    · refine g_iconst (v := 0) dX2_tryReaching_19 (by decide) ?_
      exact g_iret (ty := .boolean) dX2_tryReaching_20 rfl rfl ⟨⟨⟨0, rfl, Or.inl rfl, fun q => absurd rfl q, fun _ => by first | trivial | lia | grind⟩, hu, f0⟩, ee_i (by subst ex3; exact (if_pos c4).trans (rfl))⟩
    · refine g_iconst (v := 1) dX2_tryReaching_15 (by decide) ?_
      refine g_goto (tgt := 20) dX2_tryReaching_16 (by decide) ?_
      exact g_iret (ty := .boolean) dX2_tryReaching_20 rfl rfl ⟨⟨⟨1, rfl, Or.inr rfl, fun _ => by first | trivial | lia | grind, fun q => absurd q (by decide)⟩, hu, f0⟩, ee_i (by subst ex3; exact (if_neg c4).trans (rfl))⟩
def l_X2_tryReaching_1_39 (g : Int32) (m : Int32) (n : Int32) : Nat → Int32 → uk_Mem → Int32 × uk_Mem
  | 0, _, u6 => (0, u6)
  | K9 + 1, i5, u6 => let x7 : Int32 := u6.1 13 0; let x9 : Int32 := (10 : Int32) + x7; if x9 ≤ i5 then (((0 : Int32), u6)) else (let x14 : Int32 := (e_X0_isAble u6 13 i5); if x14 = 0 then (l_X2_tryReaching_1_39 g m n K9 (i5 + 1) u6) else (let u19 : uk_Mem := uk_up u6 47 g.toNatClampNeg i5; let u21 : uk_Mem := e_X0_perform u19 13 i5; let x23 : Int32 := g + (1 : Int32); let x27 : Int32 := (e_X2_tryReaching_0 u21 m n x23).1; let u25 : uk_Mem := (e_X2_tryReaching_0 u21 m n x23).2; let u29 : uk_Mem := e_X0_undo u25 13 i5; if x27 = 0 then (l_X2_tryReaching_1_39 g m n K9 (i5 + 1) u29) else (((1 : Int32), u29))))
def l_X2_tryReaching_1_39_1 (m : Int32) (g : Int32) (n : Int32) : Nat → Int32 → uk_Mem → Int32 × uk_Mem
  | 0, _, u34 => (0, u34)
  | K9 + 1, i33, u34 => let x35 : Int32 := u34.1 13 0; let x37 : Int32 := (10 : Int32) + x35; if x37 ≤ i33 then (((0 : Int32), u34)) else (let x42 : Int32 := (e_X0_isAble u34 13 i33); if x42 = 0 then (l_X2_tryReaching_1_39_1 m g n K9 (i33 + 1) u34) else (let x48 : Int32 := (e_X0_brings u34 13 i33 m); if x48 = 0 then (l_X2_tryReaching_1_39_1 m g n K9 (i33 + 1) u34) else (let u52 : uk_Mem := uk_up u34 47 g.toNatClampNeg i33; let u54 : uk_Mem := e_X0_perform u52 13 i33; let x56 : Int32 := g + (1 : Int32); let x60 : Int32 := (e_X2_tryReaching_0 u54 m n x56).1; let u58 : uk_Mem := (e_X2_tryReaching_0 u54 m n x56).2; let u62 : uk_Mem := e_X0_undo u58 13 i33; if x60 = 0 then (l_X2_tryReaching_1_39_1 m g n K9 (i33 + 1) u62) else (((1 : Int32), u62)))))
def e_X2_tryReaching_1 (u : uk_Mem) (m : Int32) (n : Int32) (g : Int32) : Int32 × uk_Mem := if g < n then (let x2 : Int32 := g + (1 : Int32); if x2 = n then (l_X2_tryReaching_1_39_1 m g n ee_K (0 : Int32) u) else (l_X2_tryReaching_1_39 g m n ee_K (0 : Int32) u)) else (let x66 : Int32 := u.1 19 m.toNatClampNeg; if x66 ≤ 0 then (((0 : Int32), u)) else (((1 : Int32), u)))
abbrev qe_X2_tryReaching_1 (u : uk_Mem) (m : Int32) (n : Int32) (g : Int32) (r : Option Value) (u' : uk_Mem) : Prop := (q_X2_tryReaching_1 u m n g r u') ∧ (r = some (.int (e_X2_tryReaching_1 u m n g).1) ∧ u' = (e_X2_tryReaching_1 u m n g).2)
set_option maxHeartbeats 4000000 in
set_option maxRecDepth 20000 in
theorem x_X2_tryReaching_1 {G : uk_D} (hs : uk_Sep G) {u : uk_Mem} (hu : iv u) (m : Int32) (n : Int32) (g : Int32) (p0 : 0 ≤ m) (p1 : m ≤ 7) (p2 : 0 ≤ g) (p3 : g ≤ 4) (p4 : n ≤ 4) (p5 : g + 1 = n) (d : Nat) : uk_Meth G (d + 4) mX2_tryReaching [.ref (uk_ad G 46), .ref (uk_ad G 13), .int m, .int n, .int g] u (qe_X2_tryReaching_1 u m n g) := by
  refine uk_Meth.of hs (by decide) (Nat.le_of_ble_eq_true rfl) (fun X => ?_)
  have f0 : fr 13 49 u u := fr_rf
  refine g_iload dX2_tryReaching_0 rfl ?_
  refine g_iload_n dX2_tryReaching_2 rfl ?_
  refine g_icmp_lt (tgt := 21) dX2_tryReaching_3 (by decide) (fun c1 => ?_) (fun c1 => ?_)
  · refine g_iload dX2_tryReaching_21 rfl ?_
    refine g_iconst (v := 1) dX2_tryReaching_23 (by decide) ?_
    refine g_iadd dX2_tryReaching_24 ?_
    refine g_topi (fun x2 ex2 => ?_)
    refine g_iload_n dX2_tryReaching_25 rfl ?_
    refine g_icmp_ne (tgt := 33) dX2_tryReaching_26 (by decide) (fun c3 => ?_) (fun c3 => ?_)
    · refine g_iconst (v := 0) dX2_tryReaching_33 (by decide) ?_
      refine g_istore dX2_tryReaching_34 (by decide) ?_
      refine g_pick (lv' := [(0, .ref (uk_ad G 46)), (1, .ref (uk_ad G 13)), (2, .int m), (3, .int n), (4, .int g), (5, .int 0)]) [0, 1, 2, 3, 4, 5] rfl ?_
      refine g_iconst (v := 0) dX2_tryReaching_36 (by decide) ?_
      refine g_istore dX2_tryReaching_37 (by decide) ?_
      refine g_pick (lv' := [(0, .ref (uk_ad G 46)), (1, .ref (uk_ad G 13)), (2, .int m), (3, .int n), (4, .int g), (5, .int 0), (6, .int 0)]) [0, 1, 2, 3, 4, 5, 6] rfl ?_
      have L39_3 : ∀ i5 : Int32, 0 ≤ i5 → i5 ≤ 18 → ∀ (u6 : uk_Mem), iv u6 → fr 13 49 u u6 → (∃ ki5 : Nat, ee_F 18 i5 ki5 ∧ e_X2_tryReaching_1 u m n g = l_X2_tryReaching_1_39 g m n ki5 i5 u6) → uk_G G X mX2_tryReaching (d + 4) (qe_X2_tryReaching_1 u m n g) 39 [(0, .ref (uk_ad G 46)), (1, .ref (uk_ad G 13)), (2, .int m), (3, .int n), (4, .int g), (5, .int 0), (6, .int i5)] [] u6 := by
        refine uk_upl 18 ?_
        intro i5 ai5 bi5 ihi5  u6 hu6 fu6 jEi5
        obtain ⟨ki5, fki5, hki5⟩ := jEi5
        obtain ⟨ki5, rfl⟩ := ee_Fp (by first | assumption | lia | grind) fki5
        refine g_iload dX2_tryReaching_39 rfl ?_
        refine g_bipush (v := 10) dX2_tryReaching_41 (by decide) ?_
        refine g_aload_n dX2_tryReaching_43 rfl ?_
        refine f_X2_44 rfl rfl dX2_tryReaching_44 ?_
        refine g_topi (fun x7 ex7 => ?_)
        have rx7 : 0 ≤ x7 ∧ x7 ≤ 8 := by rw [ex7]; exact iv_at hu6 _ _ rfl
        have s8 : u6.1 13 0 = x7 := ex7.symm
        refine g_iadd dX2_tryReaching_47 ?_
        refine g_topi (fun x9 ex9 => ?_)
        refine g_icmp_ge (tgt := 125) dX2_tryReaching_48 (by decide) (fun c10 => ?_) (fun c10 => ?_)
        · refine g_iconst (v := 0) dX2_tryReaching_125 (by decide) ?_
          exact g_iret (ty := .boolean) dX2_tryReaching_126 rfl rfl ⟨⟨⟨0, rfl, Or.inl rfl, fun q => absurd rfl q, fun _ => by first | trivial | lia | grind⟩, hu6, fu6⟩, ee_i (by subst ex9; subst ex7; exact hki5.trans ((if_pos c10).trans (rfl)))⟩
        · refine g_aload_n dX2_tryReaching_51 rfl ?_
          refine g_iload dX2_tryReaching_52 rfl ?_
          refine cl_X2_45 (c := 13) (As := [.int i5]) rfl (x_X0_isAble (G := G) hs hu6 uk_isK13 i5  (d + 1)) rfl (by omega) rfl rfl (Nat.le_of_ble_eq_true rfl) dX2_tryReaching_54 (fun r11 u12 q13 => ?_)
          obtain ⟨q13, Eq13⟩ := q13
          obtain ⟨⟨x14, rfl, tx14, nx14, zx14⟩, mq13⟩ := q13
          rw [mq13]
          have ex14 : x14 = (e_X0_isAble u6 13 i5) := ee_v Eq13
          refine g_if_eq (tgt := 119) dX2_tryReaching_57 (by decide) (fun c15 => ?_) (fun c15 => ?_)
          · have zc15 := zx14 c15
            refine g_iinc (v := i5 + 1) dX2_tryReaching_119 rfl rfl (by decide) ?_
            refine g_pick (lv' := [(0, .ref (uk_ad G 46)), (1, .ref (uk_ad G 13)), (2, .int m), (3, .int n), (4, .int g), (5, .int 0), (6, .int (i5 + 1))]) [0, 1, 2, 3, 4, 5, 6] rfl ?_
            refine g_goto (tgt := 39) dX2_tryReaching_122 (by decide) ?_
            refine g_pick (lv' := [(0, .ref (uk_ad G 46)), (1, .ref (uk_ad G 13)), (2, .int m), (3, .int n), (4, .int g), (5, .int 0), (6, .int (i5 + 1))]) [0, 1, 2, 3, 4, 5, 6] rfl ?_
            exact ihi5 (by first | lia | grind)  u6 hu6 fu6  ⟨ki5, ee_Fs fki5 (by first | assumption | lia | grind), by subst ex14; subst ex9; subst ex7; exact hki5.trans ((if_neg c10).trans ((if_pos c15).trans (rfl)))⟩
          · have zc15 := nx14 c15
            refine g_iload dX2_tryReaching_60 rfl ?_
            refine g_if_eq (tgt := 78) dX2_tryReaching_62 (by decide) (fun c16 => ?_) (fun c16 => ?_)
            · refine g_aload_n dX2_tryReaching_78 rfl ?_
              refine f_X2_9 rfl rfl dX2_tryReaching_79 ?_
              refine g_iload dX2_tryReaching_82 rfl ?_
              refine g_iload dX2_tryReaching_84 rfl ?_
              have v17 : vp_in g 4 := uk_vin 4 rfl (by first | decide | lia | grind) (by first | decide | lia | grind)
              have b18 := uk_cl v17
              refine g_iast rfl rfl v17 dX2_tryReaching_86 ?_
              refine g_mem (fun u19 eu19 => ?_)
              have hu19 : iv u19 := by rw [eu19]; exact iv_upF hu6 (uk_pick1 _ (by omega))
              have fu19 : fr 13 49 u u19 := by rw [eu19]; exact fr_up fu6 (by omega) (by omega)
              refine g_aload_n dX2_tryReaching_87 rfl ?_
              refine g_iload dX2_tryReaching_88 rfl ?_
              refine cl_X2_53 (c := 13) (As := [.int i5]) rfl (x_X0_perform (G := G) hs hu19 uk_isK13 i5 (by first | trivial | decide | lia | grind) (d + 1)) rfl (by omega) rfl rfl (Nat.le_of_ble_eq_true rfl) dX2_tryReaching_90 (fun r20 u21 q22 => ?_)
              obtain ⟨q22, Eq22⟩ := q22
              obtain ⟨rfl, mq22⟩ := q22
              obtain ⟨hu21, gu21⟩ := mq22
              have fu21 : fr 13 49 u u21 := fr_tr fu19 gu21 (by omega) (by omega)
              have eu21 : u21 = e_X0_perform u19 13 i5 := Eq22
              refine g_aload_n dX2_tryReaching_93 rfl ?_
              refine g_aload_n dX2_tryReaching_94 rfl ?_
              refine g_iload_n dX2_tryReaching_95 rfl ?_
              refine g_iload_n dX2_tryReaching_96 rfl ?_
              refine g_iload dX2_tryReaching_97 rfl ?_
              refine g_iconst (v := 1) dX2_tryReaching_99 (by decide) ?_
              refine g_iadd dX2_tryReaching_100 ?_
              refine g_topi (fun x23 ex23 => ?_)
              refine cl_X2_60 (c := 46) (As := [.ref (uk_ad G 13), .int m, .int n, .int x23]) rfl (x_X2_tryReaching_0 (G := G) hs hu21  m n x23 (by first | trivial | decide | lia | grind) (by first | trivial | decide | lia | grind) (by first | trivial | decide | lia | grind) (by first | trivial | decide | lia | grind) (by first | trivial | decide | lia | grind) (by first | trivial | decide | lia | grind) (d)) rfl (by omega) rfl rfl (Nat.le_of_ble_eq_true rfl) dX2_tryReaching_101 (fun r24 u25 q26 => ?_)
              obtain ⟨q26, Eq26⟩ := q26
              obtain ⟨⟨x27, rfl, tx27, nx27, zx27⟩, mq26⟩ := q26
              obtain ⟨hu25, gu25⟩ := mq26
              have fu25 : fr 13 49 u u25 := fr_tr fu21 gu25 (by omega) (by omega)
              have ex27 : x27 = (e_X2_tryReaching_0 u21 m n x23).1 := ee_v Eq26.1
              have eu25 : u25 = (e_X2_tryReaching_0 u21 m n x23).2 := Eq26.2
              refine g_istore dX2_tryReaching_104 (by decide) ?_
              refine g_pick (lv' := [(0, .ref (uk_ad G 46)), (1, .ref (uk_ad G 13)), (2, .int m), (3, .int n), (4, .int g), (5, .int 0), (6, .int i5), (7, .int x27)]) [0, 1, 2, 3, 4, 5, 6, 7] rfl ?_
              refine g_aload_n dX2_tryReaching_106 rfl ?_
              refine g_iload dX2_tryReaching_107 rfl ?_
              refine cl_X2_57 (c := 13) (As := [.int i5]) rfl (x_X0_undo (G := G) hs hu25 uk_isK13 i5 (by first | trivial | decide | lia | grind) (d + 1)) rfl (by omega) rfl rfl (Nat.le_of_ble_eq_true rfl) dX2_tryReaching_109 (fun r28 u29 q30 => ?_)
              obtain ⟨q30, Eq30⟩ := q30
              obtain ⟨rfl, mq30⟩ := q30
              obtain ⟨hu29, gu29⟩ := mq30
              have fu29 : fr 13 49 u u29 := fr_tr fu25 gu29 (by omega) (by omega)
              have eu29 : u29 = e_X0_undo u25 13 i5 := Eq30
              refine g_iload dX2_tryReaching_112 rfl ?_
              refine g_if_eq (tgt := 119) dX2_tryReaching_114 (by decide) (fun c31 => ?_) (fun c31 => ?_)
              · have zc31 := zx27 c31
                refine g_iinc (v := i5 + 1) dX2_tryReaching_119 rfl rfl (by decide) ?_
                refine g_pick (lv' := [(0, .ref (uk_ad G 46)), (1, .ref (uk_ad G 13)), (2, .int m), (3, .int n), (4, .int g), (5, .int 0), (6, .int (i5 + 1)), (7, .int x27)]) [0, 1, 2, 3, 4, 5, 6, 7] rfl ?_
                refine g_goto (tgt := 39) dX2_tryReaching_122 (by decide) ?_
                refine g_pick (lv' := [(0, .ref (uk_ad G 46)), (1, .ref (uk_ad G 13)), (2, .int m), (3, .int n), (4, .int g), (5, .int 0), (6, .int (i5 + 1))]) [0, 1, 2, 3, 4, 5, 6] rfl ?_
                exact ihi5 (by first | lia | grind)  u29 hu29 fu29  ⟨ki5, ee_Fs fki5 (by first | assumption | lia | grind), by subst eu29; subst eu25; subst ex27; subst ex23; subst eu21; subst eu19; subst ex14; subst ex9; subst ex7; exact hki5.trans ((if_neg c10).trans ((if_neg c15).trans ((if_pos c31).trans (rfl))))⟩
              · have zc31 := nx27 c31
                refine g_iconst (v := 1) dX2_tryReaching_117 (by decide) ?_
                exact g_iret (ty := .boolean) dX2_tryReaching_118 rfl rfl ⟨⟨⟨1, rfl, Or.inr rfl, fun _ => by first | trivial | lia | grind, fun q => absurd q (by decide)⟩, hu29, fu29⟩, ee_i (by subst eu29; subst eu25; subst ex27; subst ex23; subst eu21; subst eu19; subst ex14; subst ex9; subst ex7; exact hki5.trans ((if_neg c10).trans ((if_neg c15).trans ((if_neg c31).trans (rfl)))))⟩
            · exact absurd c16 (by decide)
      refine g_pick (lv' := [(0, .ref (uk_ad G 46)), (1, .ref (uk_ad G 13)), (2, .int m), (3, .int n), (4, .int g), (5, .int 0), (6, .int 0)]) [0, 1, 2, 3, 4, 5, 6] rfl ?_
      exact L39_3 0 (by first | decide | lia | grind) (by first | decide | lia | grind)  u hu f0  ⟨ee_K, ee_F0 _ _, by subst ex2; exact (if_pos c1).trans ((if_neg c3).trans (rfl))⟩
    · refine g_iconst (v := 1) dX2_tryReaching_29 (by decide) ?_
      refine g_goto (tgt := 34) dX2_tryReaching_30 (by decide) ?_
      refine g_istore dX2_tryReaching_34 (by decide) ?_
      refine g_pick (lv' := [(0, .ref (uk_ad G 46)), (1, .ref (uk_ad G 13)), (2, .int m), (3, .int n), (4, .int g), (5, .int 1)]) [0, 1, 2, 3, 4, 5] rfl ?_
      refine g_iconst (v := 0) dX2_tryReaching_36 (by decide) ?_
      refine g_istore dX2_tryReaching_37 (by decide) ?_
      refine g_pick (lv' := [(0, .ref (uk_ad G 46)), (1, .ref (uk_ad G 13)), (2, .int m), (3, .int n), (4, .int g), (5, .int 1), (6, .int 0)]) [0, 1, 2, 3, 4, 5, 6] rfl ?_
      have L39_31 : ∀ i33 : Int32, 0 ≤ i33 → i33 ≤ 18 → ∀ (u34 : uk_Mem), iv u34 → fr 13 49 u u34 → (∃ ki33 : Nat, ee_F 18 i33 ki33 ∧ e_X2_tryReaching_1 u m n g = l_X2_tryReaching_1_39_1 m g n ki33 i33 u34) → uk_G G X mX2_tryReaching (d + 4) (qe_X2_tryReaching_1 u m n g) 39 [(0, .ref (uk_ad G 46)), (1, .ref (uk_ad G 13)), (2, .int m), (3, .int n), (4, .int g), (5, .int 1), (6, .int i33)] [] u34 := by
        refine uk_upl 18 ?_
        intro i33 ai33 bi33 ihi33  u34 hu34 fu34 jEi33
        obtain ⟨ki33, fki33, hki33⟩ := jEi33
        obtain ⟨ki33, rfl⟩ := ee_Fp (by first | assumption | lia | grind) fki33
        refine g_iload dX2_tryReaching_39 rfl ?_
        refine g_bipush (v := 10) dX2_tryReaching_41 (by decide) ?_
        refine g_aload_n dX2_tryReaching_43 rfl ?_
        refine f_X2_44 rfl rfl dX2_tryReaching_44 ?_
        refine g_topi (fun x35 ex35 => ?_)
        have rx35 : 0 ≤ x35 ∧ x35 ≤ 8 := by rw [ex35]; exact iv_at hu34 _ _ rfl
        have s36 : u34.1 13 0 = x35 := ex35.symm
        refine g_iadd dX2_tryReaching_47 ?_
        refine g_topi (fun x37 ex37 => ?_)
        refine g_icmp_ge (tgt := 125) dX2_tryReaching_48 (by decide) (fun c38 => ?_) (fun c38 => ?_)
        · refine g_iconst (v := 0) dX2_tryReaching_125 (by decide) ?_
          exact g_iret (ty := .boolean) dX2_tryReaching_126 rfl rfl ⟨⟨⟨0, rfl, Or.inl rfl, fun q => absurd rfl q, fun _ => by first | trivial | lia | grind⟩, hu34, fu34⟩, ee_i (by subst ex37; subst ex35; exact hki33.trans ((if_pos c38).trans (rfl)))⟩
        · refine g_aload_n dX2_tryReaching_51 rfl ?_
          refine g_iload dX2_tryReaching_52 rfl ?_
          refine cl_X2_45 (c := 13) (As := [.int i33]) rfl (x_X0_isAble (G := G) hs hu34 uk_isK13 i33  (d + 1)) rfl (by omega) rfl rfl (Nat.le_of_ble_eq_true rfl) dX2_tryReaching_54 (fun r39 u40 q41 => ?_)
          obtain ⟨q41, Eq41⟩ := q41
          obtain ⟨⟨x42, rfl, tx42, nx42, zx42⟩, mq41⟩ := q41
          rw [mq41]
          have ex42 : x42 = (e_X0_isAble u34 13 i33) := ee_v Eq41
          refine g_if_eq (tgt := 119) dX2_tryReaching_57 (by decide) (fun c43 => ?_) (fun c43 => ?_)
          · have zc43 := zx42 c43
            refine g_iinc (v := i33 + 1) dX2_tryReaching_119 rfl rfl (by decide) ?_
            refine g_pick (lv' := [(0, .ref (uk_ad G 46)), (1, .ref (uk_ad G 13)), (2, .int m), (3, .int n), (4, .int g), (5, .int 1), (6, .int (i33 + 1))]) [0, 1, 2, 3, 4, 5, 6] rfl ?_
            refine g_goto (tgt := 39) dX2_tryReaching_122 (by decide) ?_
            refine g_pick (lv' := [(0, .ref (uk_ad G 46)), (1, .ref (uk_ad G 13)), (2, .int m), (3, .int n), (4, .int g), (5, .int 1), (6, .int (i33 + 1))]) [0, 1, 2, 3, 4, 5, 6] rfl ?_
            exact ihi33 (by first | lia | grind)  u34 hu34 fu34  ⟨ki33, ee_Fs fki33 (by first | assumption | lia | grind), by subst ex42; subst ex37; subst ex35; exact hki33.trans ((if_neg c38).trans ((if_pos c43).trans (rfl)))⟩
          · have zc43 := nx42 c43
            refine g_iload dX2_tryReaching_60 rfl ?_
            refine g_if_eq (tgt := 78) dX2_tryReaching_62 (by decide) (fun c44 => ?_) (fun c44 => ?_)
            · exact absurd c44 (by decide)
            · refine g_aload_n dX2_tryReaching_65 rfl ?_
              refine g_iload dX2_tryReaching_66 rfl ?_
              refine g_iload_n dX2_tryReaching_68 rfl ?_
              refine cl_X2_67 (c := 13) (As := [.int i33, .int m]) rfl (x_X0_brings (G := G) hs hu34 uk_isK13 i33 m (by first | trivial | decide | lia | grind) (d + 2)) rfl (by omega) rfl rfl (Nat.le_of_ble_eq_true rfl) dX2_tryReaching_69 (fun r45 u46 q47 => ?_)
              obtain ⟨q47, Eq47⟩ := q47
              obtain ⟨⟨x48, rfl, tx48, nx48, zx48⟩, mq47⟩ := q47
              rw [mq47]
              have ex48 : x48 = (e_X0_brings u34 13 i33 m) := ee_v Eq47
              refine g_if_ne (tgt := 78) dX2_tryReaching_72 (by decide) (fun c49 => ?_) (fun c49 => ?_)
              · have zc49 := nx48 c49
                refine g_aload_n dX2_tryReaching_78 rfl ?_
                refine f_X2_9 rfl rfl dX2_tryReaching_79 ?_
                refine g_iload dX2_tryReaching_82 rfl ?_
                refine g_iload dX2_tryReaching_84 rfl ?_
                have v50 : vp_in g 4 := uk_vin 4 rfl (by first | decide | lia | grind) (by first | decide | lia | grind)
                have b51 := uk_cl v50
                refine g_iast rfl rfl v50 dX2_tryReaching_86 ?_
                refine g_mem (fun u52 eu52 => ?_)
                have hu52 : iv u52 := by rw [eu52]; exact iv_upF hu34 (uk_pick1 _ (by omega))
                have fu52 : fr 13 49 u u52 := by rw [eu52]; exact fr_up fu34 (by omega) (by omega)
                refine g_aload_n dX2_tryReaching_87 rfl ?_
                refine g_iload dX2_tryReaching_88 rfl ?_
                refine cl_X2_53 (c := 13) (As := [.int i33]) rfl (x_X0_perform (G := G) hs hu52 uk_isK13 i33 (by first | trivial | decide | lia | grind) (d + 1)) rfl (by omega) rfl rfl (Nat.le_of_ble_eq_true rfl) dX2_tryReaching_90 (fun r53 u54 q55 => ?_)
                obtain ⟨q55, Eq55⟩ := q55
                obtain ⟨rfl, mq55⟩ := q55
                obtain ⟨hu54, gu54⟩ := mq55
                have fu54 : fr 13 49 u u54 := fr_tr fu52 gu54 (by omega) (by omega)
                have eu54 : u54 = e_X0_perform u52 13 i33 := Eq55
                refine g_aload_n dX2_tryReaching_93 rfl ?_
                refine g_aload_n dX2_tryReaching_94 rfl ?_
                refine g_iload_n dX2_tryReaching_95 rfl ?_
                refine g_iload_n dX2_tryReaching_96 rfl ?_
                refine g_iload dX2_tryReaching_97 rfl ?_
                refine g_iconst (v := 1) dX2_tryReaching_99 (by decide) ?_
                refine g_iadd dX2_tryReaching_100 ?_
                refine g_topi (fun x56 ex56 => ?_)
                refine cl_X2_60 (c := 46) (As := [.ref (uk_ad G 13), .int m, .int n, .int x56]) rfl (x_X2_tryReaching_0 (G := G) hs hu54  m n x56 (by first | trivial | decide | lia | grind) (by first | trivial | decide | lia | grind) (by first | trivial | decide | lia | grind) (by first | trivial | decide | lia | grind) (by first | trivial | decide | lia | grind) (by first | trivial | decide | lia | grind) (d)) rfl (by omega) rfl rfl (Nat.le_of_ble_eq_true rfl) dX2_tryReaching_101 (fun r57 u58 q59 => ?_)
                obtain ⟨q59, Eq59⟩ := q59
                obtain ⟨⟨x60, rfl, tx60, nx60, zx60⟩, mq59⟩ := q59
                obtain ⟨hu58, gu58⟩ := mq59
                have fu58 : fr 13 49 u u58 := fr_tr fu54 gu58 (by omega) (by omega)
                have ex60 : x60 = (e_X2_tryReaching_0 u54 m n x56).1 := ee_v Eq59.1
                have eu58 : u58 = (e_X2_tryReaching_0 u54 m n x56).2 := Eq59.2
                refine g_istore dX2_tryReaching_104 (by decide) ?_
                refine g_pick (lv' := [(0, .ref (uk_ad G 46)), (1, .ref (uk_ad G 13)), (2, .int m), (3, .int n), (4, .int g), (5, .int 1), (6, .int i33), (7, .int x60)]) [0, 1, 2, 3, 4, 5, 6, 7] rfl ?_
                refine g_aload_n dX2_tryReaching_106 rfl ?_
                refine g_iload dX2_tryReaching_107 rfl ?_
                refine cl_X2_57 (c := 13) (As := [.int i33]) rfl (x_X0_undo (G := G) hs hu58 uk_isK13 i33 (by first | trivial | decide | lia | grind) (d + 1)) rfl (by omega) rfl rfl (Nat.le_of_ble_eq_true rfl) dX2_tryReaching_109 (fun r61 u62 q63 => ?_)
                obtain ⟨q63, Eq63⟩ := q63
                obtain ⟨rfl, mq63⟩ := q63
                obtain ⟨hu62, gu62⟩ := mq63
                have fu62 : fr 13 49 u u62 := fr_tr fu58 gu62 (by omega) (by omega)
                have eu62 : u62 = e_X0_undo u58 13 i33 := Eq63
                refine g_iload dX2_tryReaching_112 rfl ?_
                refine g_if_eq (tgt := 119) dX2_tryReaching_114 (by decide) (fun c64 => ?_) (fun c64 => ?_)
                · have zc64 := zx60 c64
                  refine g_iinc (v := i33 + 1) dX2_tryReaching_119 rfl rfl (by decide) ?_
                  refine g_pick (lv' := [(0, .ref (uk_ad G 46)), (1, .ref (uk_ad G 13)), (2, .int m), (3, .int n), (4, .int g), (5, .int 1), (6, .int (i33 + 1)), (7, .int x60)]) [0, 1, 2, 3, 4, 5, 6, 7] rfl ?_
                  refine g_goto (tgt := 39) dX2_tryReaching_122 (by decide) ?_
                  refine g_pick (lv' := [(0, .ref (uk_ad G 46)), (1, .ref (uk_ad G 13)), (2, .int m), (3, .int n), (4, .int g), (5, .int 1), (6, .int (i33 + 1))]) [0, 1, 2, 3, 4, 5, 6] rfl ?_
                  exact ihi33 (by first | lia | grind)  u62 hu62 fu62  ⟨ki33, ee_Fs fki33 (by first | assumption | lia | grind), by subst eu62; subst eu58; subst ex60; subst ex56; subst eu54; subst eu52; subst ex48; subst ex42; subst ex37; subst ex35; exact hki33.trans ((if_neg c38).trans ((if_neg c43).trans ((if_neg c49).trans ((if_pos c64).trans (rfl)))))⟩
                · have zc64 := nx60 c64
                  refine g_iconst (v := 1) dX2_tryReaching_117 (by decide) ?_
                  exact g_iret (ty := .boolean) dX2_tryReaching_118 rfl rfl ⟨⟨⟨1, rfl, Or.inr rfl, fun _ => by first | trivial | lia | grind, fun q => absurd q (by decide)⟩, hu62, fu62⟩, ee_i (by subst eu62; subst eu58; subst ex60; subst ex56; subst eu54; subst eu52; subst ex48; subst ex42; subst ex37; subst ex35; exact hki33.trans ((if_neg c38).trans ((if_neg c43).trans ((if_neg c49).trans ((if_neg c64).trans (rfl))))))⟩
              · have zc49 := zx48 c49
                refine g_goto (tgt := 119) dX2_tryReaching_75 (by decide) ?_
                refine g_iinc (v := i33 + 1) dX2_tryReaching_119 rfl rfl (by decide) ?_
                refine g_pick (lv' := [(0, .ref (uk_ad G 46)), (1, .ref (uk_ad G 13)), (2, .int m), (3, .int n), (4, .int g), (5, .int 1), (6, .int (i33 + 1))]) [0, 1, 2, 3, 4, 5, 6] rfl ?_
                refine g_goto (tgt := 39) dX2_tryReaching_122 (by decide) ?_
                refine g_pick (lv' := [(0, .ref (uk_ad G 46)), (1, .ref (uk_ad G 13)), (2, .int m), (3, .int n), (4, .int g), (5, .int 1), (6, .int (i33 + 1))]) [0, 1, 2, 3, 4, 5, 6] rfl ?_
                exact ihi33 (by first | lia | grind)  u34 hu34 fu34  ⟨ki33, ee_Fs fki33 (by first | assumption | lia | grind), by subst ex48; subst ex42; subst ex37; subst ex35; exact hki33.trans ((if_neg c38).trans ((if_neg c43).trans ((if_pos c49).trans (rfl))))⟩
      refine g_pick (lv' := [(0, .ref (uk_ad G 46)), (1, .ref (uk_ad G 13)), (2, .int m), (3, .int n), (4, .int g), (5, .int 1), (6, .int 0)]) [0, 1, 2, 3, 4, 5, 6] rfl ?_
      exact L39_31 0 (by first | decide | lia | grind) (by first | decide | lia | grind)  u hu f0  ⟨ee_K, ee_F0 _ _, by subst ex2; exact (if_pos c1).trans ((if_pos c3).trans (rfl))⟩
  · refine g_aload_n dX2_tryReaching_6 rfl ?_
    refine f_X2_64 rfl rfl dX2_tryReaching_7 ?_
    refine g_iload_n dX2_tryReaching_10 rfl ?_
    have v65 : vp_in m 8 := uk_vin 8 rfl (by first | decide | lia | grind) (by first | decide | lia | grind)
    refine g_iald rfl rfl v65 dX2_tryReaching_11 ?_
    refine g_topi (fun x66 ex66 => ?_)
    refine g_if_le (tgt := 19) dX2_tryReaching_12 (by decide) (fun c67 => ?_) (fun c67 => ?_)
    · refine g_iconst (v := 0) dX2_tryReaching_19 (by decide) ?_
      exact g_iret (ty := .boolean) dX2_tryReaching_20 rfl rfl ⟨⟨⟨0, rfl, Or.inl rfl, fun q => absurd rfl q, fun _ => by first | trivial | lia | grind⟩, hu, f0⟩, ee_i (by subst ex66; exact (if_neg c1).trans ((if_pos c67).trans (rfl)))⟩
    · refine g_iconst (v := 1) dX2_tryReaching_15 (by decide) ?_
      refine g_goto (tgt := 20) dX2_tryReaching_16 (by decide) ?_
      exact g_iret (ty := .boolean) dX2_tryReaching_20 rfl rfl ⟨⟨⟨1, rfl, Or.inr rfl, fun _ => by first | trivial | lia | grind, fun q => absurd q (by decide)⟩, hu, f0⟩, ee_i (by subst ex66; exact (if_neg c1).trans ((if_neg c67).trans (rfl)))⟩
def l_X2_tryReaching_2_39 (g : Int32) (m : Int32) (n : Int32) : Nat → Int32 → uk_Mem → Int32 × uk_Mem
  | 0, _, u6 => (0, u6)
  | K9 + 1, i5, u6 => let x7 : Int32 := u6.1 13 0; let x9 : Int32 := (10 : Int32) + x7; if x9 ≤ i5 then (((0 : Int32), u6)) else (let x14 : Int32 := (e_X0_isAble u6 13 i5); if x14 = 0 then (l_X2_tryReaching_2_39 g m n K9 (i5 + 1) u6) else (let u19 : uk_Mem := uk_up u6 47 g.toNatClampNeg i5; let u21 : uk_Mem := e_X0_perform u19 13 i5; let x23 : Int32 := g + (1 : Int32); let x27 : Int32 := (e_X2_tryReaching_1 u21 m n x23).1; let u25 : uk_Mem := (e_X2_tryReaching_1 u21 m n x23).2; let u29 : uk_Mem := e_X0_undo u25 13 i5; if x27 = 0 then (l_X2_tryReaching_2_39 g m n K9 (i5 + 1) u29) else (((1 : Int32), u29))))
def l_X2_tryReaching_2_39_1 (m : Int32) (g : Int32) (n : Int32) : Nat → Int32 → uk_Mem → Int32 × uk_Mem
  | 0, _, u34 => (0, u34)
  | K9 + 1, i33, u34 => let x35 : Int32 := u34.1 13 0; let x37 : Int32 := (10 : Int32) + x35; if x37 ≤ i33 then (((0 : Int32), u34)) else (let x42 : Int32 := (e_X0_isAble u34 13 i33); if x42 = 0 then (l_X2_tryReaching_2_39_1 m g n K9 (i33 + 1) u34) else (let x48 : Int32 := (e_X0_brings u34 13 i33 m); if x48 = 0 then (l_X2_tryReaching_2_39_1 m g n K9 (i33 + 1) u34) else (let u52 : uk_Mem := uk_up u34 47 g.toNatClampNeg i33; let u54 : uk_Mem := e_X0_perform u52 13 i33; let x56 : Int32 := g + (1 : Int32); let x60 : Int32 := (e_X2_tryReaching_1 u54 m n x56).1; let u58 : uk_Mem := (e_X2_tryReaching_1 u54 m n x56).2; let u62 : uk_Mem := e_X0_undo u58 13 i33; if x60 = 0 then (l_X2_tryReaching_2_39_1 m g n K9 (i33 + 1) u62) else (((1 : Int32), u62)))))
def e_X2_tryReaching_2 (u : uk_Mem) (m : Int32) (n : Int32) (g : Int32) : Int32 × uk_Mem := if g < n then (let x2 : Int32 := g + (1 : Int32); if x2 = n then (l_X2_tryReaching_2_39_1 m g n ee_K (0 : Int32) u) else (l_X2_tryReaching_2_39 g m n ee_K (0 : Int32) u)) else (let x66 : Int32 := u.1 19 m.toNatClampNeg; if x66 ≤ 0 then (((0 : Int32), u)) else (((1 : Int32), u)))
abbrev qe_X2_tryReaching_2 (u : uk_Mem) (m : Int32) (n : Int32) (g : Int32) (r : Option Value) (u' : uk_Mem) : Prop := (q_X2_tryReaching_2 u m n g r u') ∧ (r = some (.int (e_X2_tryReaching_2 u m n g).1) ∧ u' = (e_X2_tryReaching_2 u m n g).2)
set_option maxHeartbeats 4000000 in
set_option maxRecDepth 20000 in
theorem x_X2_tryReaching_2 {G : uk_D} (hs : uk_Sep G) {u : uk_Mem} (hu : iv u) (m : Int32) (n : Int32) (g : Int32) (p0 : 0 ≤ m) (p1 : m ≤ 7) (p2 : 0 ≤ g) (p3 : g ≤ 4) (p4 : n ≤ 4) (p5 : g + 2 = n) (d : Nat) : uk_Meth G (d + 5) mX2_tryReaching [.ref (uk_ad G 46), .ref (uk_ad G 13), .int m, .int n, .int g] u (qe_X2_tryReaching_2 u m n g) := by
  refine uk_Meth.of hs (by decide) (Nat.le_of_ble_eq_true rfl) (fun X => ?_)
  have f0 : fr 13 49 u u := fr_rf
  refine g_iload dX2_tryReaching_0 rfl ?_
  refine g_iload_n dX2_tryReaching_2 rfl ?_
  refine g_icmp_lt (tgt := 21) dX2_tryReaching_3 (by decide) (fun c1 => ?_) (fun c1 => ?_)
  · refine g_iload dX2_tryReaching_21 rfl ?_
    refine g_iconst (v := 1) dX2_tryReaching_23 (by decide) ?_
    refine g_iadd dX2_tryReaching_24 ?_
    refine g_topi (fun x2 ex2 => ?_)
    refine g_iload_n dX2_tryReaching_25 rfl ?_
    refine g_icmp_ne (tgt := 33) dX2_tryReaching_26 (by decide) (fun c3 => ?_) (fun c3 => ?_)
    · refine g_iconst (v := 0) dX2_tryReaching_33 (by decide) ?_
      refine g_istore dX2_tryReaching_34 (by decide) ?_
      refine g_pick (lv' := [(0, .ref (uk_ad G 46)), (1, .ref (uk_ad G 13)), (2, .int m), (3, .int n), (4, .int g), (5, .int 0)]) [0, 1, 2, 3, 4, 5] rfl ?_
      refine g_iconst (v := 0) dX2_tryReaching_36 (by decide) ?_
      refine g_istore dX2_tryReaching_37 (by decide) ?_
      refine g_pick (lv' := [(0, .ref (uk_ad G 46)), (1, .ref (uk_ad G 13)), (2, .int m), (3, .int n), (4, .int g), (5, .int 0), (6, .int 0)]) [0, 1, 2, 3, 4, 5, 6] rfl ?_
      have L39_3 : ∀ i5 : Int32, 0 ≤ i5 → i5 ≤ 18 → ∀ (u6 : uk_Mem), iv u6 → fr 13 49 u u6 → (∃ ki5 : Nat, ee_F 18 i5 ki5 ∧ e_X2_tryReaching_2 u m n g = l_X2_tryReaching_2_39 g m n ki5 i5 u6) → uk_G G X mX2_tryReaching (d + 5) (qe_X2_tryReaching_2 u m n g) 39 [(0, .ref (uk_ad G 46)), (1, .ref (uk_ad G 13)), (2, .int m), (3, .int n), (4, .int g), (5, .int 0), (6, .int i5)] [] u6 := by
        refine uk_upl 18 ?_
        intro i5 ai5 bi5 ihi5  u6 hu6 fu6 jEi5
        obtain ⟨ki5, fki5, hki5⟩ := jEi5
        obtain ⟨ki5, rfl⟩ := ee_Fp (by first | assumption | lia | grind) fki5
        refine g_iload dX2_tryReaching_39 rfl ?_
        refine g_bipush (v := 10) dX2_tryReaching_41 (by decide) ?_
        refine g_aload_n dX2_tryReaching_43 rfl ?_
        refine f_X2_44 rfl rfl dX2_tryReaching_44 ?_
        refine g_topi (fun x7 ex7 => ?_)
        have rx7 : 0 ≤ x7 ∧ x7 ≤ 8 := by rw [ex7]; exact iv_at hu6 _ _ rfl
        have s8 : u6.1 13 0 = x7 := ex7.symm
        refine g_iadd dX2_tryReaching_47 ?_
        refine g_topi (fun x9 ex9 => ?_)
        refine g_icmp_ge (tgt := 125) dX2_tryReaching_48 (by decide) (fun c10 => ?_) (fun c10 => ?_)
        · refine g_iconst (v := 0) dX2_tryReaching_125 (by decide) ?_
          exact g_iret (ty := .boolean) dX2_tryReaching_126 rfl rfl ⟨⟨⟨0, rfl, Or.inl rfl, fun q => absurd rfl q, fun _ => by first | trivial | lia | grind⟩, hu6, fu6⟩, ee_i (by subst ex9; subst ex7; exact hki5.trans ((if_pos c10).trans (rfl)))⟩
        · refine g_aload_n dX2_tryReaching_51 rfl ?_
          refine g_iload dX2_tryReaching_52 rfl ?_
          refine cl_X2_45 (c := 13) (As := [.int i5]) rfl (x_X0_isAble (G := G) hs hu6 uk_isK13 i5  (d + 2)) rfl (by omega) rfl rfl (Nat.le_of_ble_eq_true rfl) dX2_tryReaching_54 (fun r11 u12 q13 => ?_)
          obtain ⟨q13, Eq13⟩ := q13
          obtain ⟨⟨x14, rfl, tx14, nx14, zx14⟩, mq13⟩ := q13
          rw [mq13]
          have ex14 : x14 = (e_X0_isAble u6 13 i5) := ee_v Eq13
          refine g_if_eq (tgt := 119) dX2_tryReaching_57 (by decide) (fun c15 => ?_) (fun c15 => ?_)
          · have zc15 := zx14 c15
            refine g_iinc (v := i5 + 1) dX2_tryReaching_119 rfl rfl (by decide) ?_
            refine g_pick (lv' := [(0, .ref (uk_ad G 46)), (1, .ref (uk_ad G 13)), (2, .int m), (3, .int n), (4, .int g), (5, .int 0), (6, .int (i5 + 1))]) [0, 1, 2, 3, 4, 5, 6] rfl ?_
            refine g_goto (tgt := 39) dX2_tryReaching_122 (by decide) ?_
            refine g_pick (lv' := [(0, .ref (uk_ad G 46)), (1, .ref (uk_ad G 13)), (2, .int m), (3, .int n), (4, .int g), (5, .int 0), (6, .int (i5 + 1))]) [0, 1, 2, 3, 4, 5, 6] rfl ?_
            exact ihi5 (by first | lia | grind)  u6 hu6 fu6  ⟨ki5, ee_Fs fki5 (by first | assumption | lia | grind), by subst ex14; subst ex9; subst ex7; exact hki5.trans ((if_neg c10).trans ((if_pos c15).trans (rfl)))⟩
          · have zc15 := nx14 c15
            refine g_iload dX2_tryReaching_60 rfl ?_
            refine g_if_eq (tgt := 78) dX2_tryReaching_62 (by decide) (fun c16 => ?_) (fun c16 => ?_)
            · refine g_aload_n dX2_tryReaching_78 rfl ?_
              refine f_X2_9 rfl rfl dX2_tryReaching_79 ?_
              refine g_iload dX2_tryReaching_82 rfl ?_
              refine g_iload dX2_tryReaching_84 rfl ?_
              have v17 : vp_in g 4 := uk_vin 4 rfl (by first | decide | lia | grind) (by first | decide | lia | grind)
              have b18 := uk_cl v17
              refine g_iast rfl rfl v17 dX2_tryReaching_86 ?_
              refine g_mem (fun u19 eu19 => ?_)
              have hu19 : iv u19 := by rw [eu19]; exact iv_upF hu6 (uk_pick1 _ (by omega))
              have fu19 : fr 13 49 u u19 := by rw [eu19]; exact fr_up fu6 (by omega) (by omega)
              refine g_aload_n dX2_tryReaching_87 rfl ?_
              refine g_iload dX2_tryReaching_88 rfl ?_
              refine cl_X2_53 (c := 13) (As := [.int i5]) rfl (x_X0_perform (G := G) hs hu19 uk_isK13 i5 (by first | trivial | decide | lia | grind) (d + 2)) rfl (by omega) rfl rfl (Nat.le_of_ble_eq_true rfl) dX2_tryReaching_90 (fun r20 u21 q22 => ?_)
              obtain ⟨q22, Eq22⟩ := q22
              obtain ⟨rfl, mq22⟩ := q22
              obtain ⟨hu21, gu21⟩ := mq22
              have fu21 : fr 13 49 u u21 := fr_tr fu19 gu21 (by omega) (by omega)
              have eu21 : u21 = e_X0_perform u19 13 i5 := Eq22
              refine g_aload_n dX2_tryReaching_93 rfl ?_
              refine g_aload_n dX2_tryReaching_94 rfl ?_
              refine g_iload_n dX2_tryReaching_95 rfl ?_
              refine g_iload_n dX2_tryReaching_96 rfl ?_
              refine g_iload dX2_tryReaching_97 rfl ?_
              refine g_iconst (v := 1) dX2_tryReaching_99 (by decide) ?_
              refine g_iadd dX2_tryReaching_100 ?_
              refine g_topi (fun x23 ex23 => ?_)
              refine cl_X2_60 (c := 46) (As := [.ref (uk_ad G 13), .int m, .int n, .int x23]) rfl (x_X2_tryReaching_1 (G := G) hs hu21  m n x23 (by first | trivial | decide | lia | grind) (by first | trivial | decide | lia | grind) (by first | trivial | decide | lia | grind) (by first | trivial | decide | lia | grind) (by first | trivial | decide | lia | grind) (by first | trivial | decide | lia | grind) (d)) rfl (by omega) rfl rfl (Nat.le_of_ble_eq_true rfl) dX2_tryReaching_101 (fun r24 u25 q26 => ?_)
              obtain ⟨q26, Eq26⟩ := q26
              obtain ⟨⟨x27, rfl, tx27, nx27, zx27⟩, mq26⟩ := q26
              obtain ⟨hu25, gu25⟩ := mq26
              have fu25 : fr 13 49 u u25 := fr_tr fu21 gu25 (by omega) (by omega)
              have ex27 : x27 = (e_X2_tryReaching_1 u21 m n x23).1 := ee_v Eq26.1
              have eu25 : u25 = (e_X2_tryReaching_1 u21 m n x23).2 := Eq26.2
              refine g_istore dX2_tryReaching_104 (by decide) ?_
              refine g_pick (lv' := [(0, .ref (uk_ad G 46)), (1, .ref (uk_ad G 13)), (2, .int m), (3, .int n), (4, .int g), (5, .int 0), (6, .int i5), (7, .int x27)]) [0, 1, 2, 3, 4, 5, 6, 7] rfl ?_
              refine g_aload_n dX2_tryReaching_106 rfl ?_
              refine g_iload dX2_tryReaching_107 rfl ?_
              refine cl_X2_57 (c := 13) (As := [.int i5]) rfl (x_X0_undo (G := G) hs hu25 uk_isK13 i5 (by first | trivial | decide | lia | grind) (d + 2)) rfl (by omega) rfl rfl (Nat.le_of_ble_eq_true rfl) dX2_tryReaching_109 (fun r28 u29 q30 => ?_)
              obtain ⟨q30, Eq30⟩ := q30
              obtain ⟨rfl, mq30⟩ := q30
              obtain ⟨hu29, gu29⟩ := mq30
              have fu29 : fr 13 49 u u29 := fr_tr fu25 gu29 (by omega) (by omega)
              have eu29 : u29 = e_X0_undo u25 13 i5 := Eq30
              refine g_iload dX2_tryReaching_112 rfl ?_
              refine g_if_eq (tgt := 119) dX2_tryReaching_114 (by decide) (fun c31 => ?_) (fun c31 => ?_)
              · have zc31 := zx27 c31
                refine g_iinc (v := i5 + 1) dX2_tryReaching_119 rfl rfl (by decide) ?_
                refine g_pick (lv' := [(0, .ref (uk_ad G 46)), (1, .ref (uk_ad G 13)), (2, .int m), (3, .int n), (4, .int g), (5, .int 0), (6, .int (i5 + 1)), (7, .int x27)]) [0, 1, 2, 3, 4, 5, 6, 7] rfl ?_
                refine g_goto (tgt := 39) dX2_tryReaching_122 (by decide) ?_
                refine g_pick (lv' := [(0, .ref (uk_ad G 46)), (1, .ref (uk_ad G 13)), (2, .int m), (3, .int n), (4, .int g), (5, .int 0), (6, .int (i5 + 1))]) [0, 1, 2, 3, 4, 5, 6] rfl ?_
                exact ihi5 (by first | lia | grind)  u29 hu29 fu29  ⟨ki5, ee_Fs fki5 (by first | assumption | lia | grind), by subst eu29; subst eu25; subst ex27; subst ex23; subst eu21; subst eu19; subst ex14; subst ex9; subst ex7; exact hki5.trans ((if_neg c10).trans ((if_neg c15).trans ((if_pos c31).trans (rfl))))⟩
              · have zc31 := nx27 c31
                refine g_iconst (v := 1) dX2_tryReaching_117 (by decide) ?_
                exact g_iret (ty := .boolean) dX2_tryReaching_118 rfl rfl ⟨⟨⟨1, rfl, Or.inr rfl, fun _ => by first | trivial | lia | grind, fun q => absurd q (by decide)⟩, hu29, fu29⟩, ee_i (by subst eu29; subst eu25; subst ex27; subst ex23; subst eu21; subst eu19; subst ex14; subst ex9; subst ex7; exact hki5.trans ((if_neg c10).trans ((if_neg c15).trans ((if_neg c31).trans (rfl)))))⟩
            · exact absurd c16 (by decide)
      refine g_pick (lv' := [(0, .ref (uk_ad G 46)), (1, .ref (uk_ad G 13)), (2, .int m), (3, .int n), (4, .int g), (5, .int 0), (6, .int 0)]) [0, 1, 2, 3, 4, 5, 6] rfl ?_
      exact L39_3 0 (by first | decide | lia | grind) (by first | decide | lia | grind)  u hu f0  ⟨ee_K, ee_F0 _ _, by subst ex2; exact (if_pos c1).trans ((if_neg c3).trans (rfl))⟩
    · refine g_iconst (v := 1) dX2_tryReaching_29 (by decide) ?_
      refine g_goto (tgt := 34) dX2_tryReaching_30 (by decide) ?_
      refine g_istore dX2_tryReaching_34 (by decide) ?_
      refine g_pick (lv' := [(0, .ref (uk_ad G 46)), (1, .ref (uk_ad G 13)), (2, .int m), (3, .int n), (4, .int g), (5, .int 1)]) [0, 1, 2, 3, 4, 5] rfl ?_
      refine g_iconst (v := 0) dX2_tryReaching_36 (by decide) ?_
      refine g_istore dX2_tryReaching_37 (by decide) ?_
      refine g_pick (lv' := [(0, .ref (uk_ad G 46)), (1, .ref (uk_ad G 13)), (2, .int m), (3, .int n), (4, .int g), (5, .int 1), (6, .int 0)]) [0, 1, 2, 3, 4, 5, 6] rfl ?_
      have L39_31 : ∀ i33 : Int32, 0 ≤ i33 → i33 ≤ 18 → ∀ (u34 : uk_Mem), iv u34 → fr 13 49 u u34 → (∃ ki33 : Nat, ee_F 18 i33 ki33 ∧ e_X2_tryReaching_2 u m n g = l_X2_tryReaching_2_39_1 m g n ki33 i33 u34) → uk_G G X mX2_tryReaching (d + 5) (qe_X2_tryReaching_2 u m n g) 39 [(0, .ref (uk_ad G 46)), (1, .ref (uk_ad G 13)), (2, .int m), (3, .int n), (4, .int g), (5, .int 1), (6, .int i33)] [] u34 := by
        refine uk_upl 18 ?_
        intro i33 ai33 bi33 ihi33  u34 hu34 fu34 jEi33
        obtain ⟨ki33, fki33, hki33⟩ := jEi33
        obtain ⟨ki33, rfl⟩ := ee_Fp (by first | assumption | lia | grind) fki33
        refine g_iload dX2_tryReaching_39 rfl ?_
        refine g_bipush (v := 10) dX2_tryReaching_41 (by decide) ?_
        refine g_aload_n dX2_tryReaching_43 rfl ?_
        refine f_X2_44 rfl rfl dX2_tryReaching_44 ?_
        refine g_topi (fun x35 ex35 => ?_)
        have rx35 : 0 ≤ x35 ∧ x35 ≤ 8 := by rw [ex35]; exact iv_at hu34 _ _ rfl
        have s36 : u34.1 13 0 = x35 := ex35.symm
        refine g_iadd dX2_tryReaching_47 ?_
        refine g_topi (fun x37 ex37 => ?_)
        refine g_icmp_ge (tgt := 125) dX2_tryReaching_48 (by decide) (fun c38 => ?_) (fun c38 => ?_)
        · refine g_iconst (v := 0) dX2_tryReaching_125 (by decide) ?_
          exact g_iret (ty := .boolean) dX2_tryReaching_126 rfl rfl ⟨⟨⟨0, rfl, Or.inl rfl, fun q => absurd rfl q, fun _ => by first | trivial | lia | grind⟩, hu34, fu34⟩, ee_i (by subst ex37; subst ex35; exact hki33.trans ((if_pos c38).trans (rfl)))⟩
        · refine g_aload_n dX2_tryReaching_51 rfl ?_
          refine g_iload dX2_tryReaching_52 rfl ?_
          refine cl_X2_45 (c := 13) (As := [.int i33]) rfl (x_X0_isAble (G := G) hs hu34 uk_isK13 i33  (d + 2)) rfl (by omega) rfl rfl (Nat.le_of_ble_eq_true rfl) dX2_tryReaching_54 (fun r39 u40 q41 => ?_)
          obtain ⟨q41, Eq41⟩ := q41
          obtain ⟨⟨x42, rfl, tx42, nx42, zx42⟩, mq41⟩ := q41
          rw [mq41]
          have ex42 : x42 = (e_X0_isAble u34 13 i33) := ee_v Eq41
          refine g_if_eq (tgt := 119) dX2_tryReaching_57 (by decide) (fun c43 => ?_) (fun c43 => ?_)
          · have zc43 := zx42 c43
            refine g_iinc (v := i33 + 1) dX2_tryReaching_119 rfl rfl (by decide) ?_
            refine g_pick (lv' := [(0, .ref (uk_ad G 46)), (1, .ref (uk_ad G 13)), (2, .int m), (3, .int n), (4, .int g), (5, .int 1), (6, .int (i33 + 1))]) [0, 1, 2, 3, 4, 5, 6] rfl ?_
            refine g_goto (tgt := 39) dX2_tryReaching_122 (by decide) ?_
            refine g_pick (lv' := [(0, .ref (uk_ad G 46)), (1, .ref (uk_ad G 13)), (2, .int m), (3, .int n), (4, .int g), (5, .int 1), (6, .int (i33 + 1))]) [0, 1, 2, 3, 4, 5, 6] rfl ?_
            exact ihi33 (by first | lia | grind)  u34 hu34 fu34  ⟨ki33, ee_Fs fki33 (by first | assumption | lia | grind), by subst ex42; subst ex37; subst ex35; exact hki33.trans ((if_neg c38).trans ((if_pos c43).trans (rfl)))⟩
          · have zc43 := nx42 c43
            refine g_iload dX2_tryReaching_60 rfl ?_
            refine g_if_eq (tgt := 78) dX2_tryReaching_62 (by decide) (fun c44 => ?_) (fun c44 => ?_)
            · exact absurd c44 (by decide)
            · refine g_aload_n dX2_tryReaching_65 rfl ?_
              refine g_iload dX2_tryReaching_66 rfl ?_
              refine g_iload_n dX2_tryReaching_68 rfl ?_
              refine cl_X2_67 (c := 13) (As := [.int i33, .int m]) rfl (x_X0_brings (G := G) hs hu34 uk_isK13 i33 m (by first | trivial | decide | lia | grind) (d + 3)) rfl (by omega) rfl rfl (Nat.le_of_ble_eq_true rfl) dX2_tryReaching_69 (fun r45 u46 q47 => ?_)
              obtain ⟨q47, Eq47⟩ := q47
              obtain ⟨⟨x48, rfl, tx48, nx48, zx48⟩, mq47⟩ := q47
              rw [mq47]
              have ex48 : x48 = (e_X0_brings u34 13 i33 m) := ee_v Eq47
              refine g_if_ne (tgt := 78) dX2_tryReaching_72 (by decide) (fun c49 => ?_) (fun c49 => ?_)
              · have zc49 := nx48 c49
                refine g_aload_n dX2_tryReaching_78 rfl ?_
                refine f_X2_9 rfl rfl dX2_tryReaching_79 ?_
                refine g_iload dX2_tryReaching_82 rfl ?_
                refine g_iload dX2_tryReaching_84 rfl ?_
                have v50 : vp_in g 4 := uk_vin 4 rfl (by first | decide | lia | grind) (by first | decide | lia | grind)
                have b51 := uk_cl v50
                refine g_iast rfl rfl v50 dX2_tryReaching_86 ?_
                refine g_mem (fun u52 eu52 => ?_)
                have hu52 : iv u52 := by rw [eu52]; exact iv_upF hu34 (uk_pick1 _ (by omega))
                have fu52 : fr 13 49 u u52 := by rw [eu52]; exact fr_up fu34 (by omega) (by omega)
                refine g_aload_n dX2_tryReaching_87 rfl ?_
                refine g_iload dX2_tryReaching_88 rfl ?_
                refine cl_X2_53 (c := 13) (As := [.int i33]) rfl (x_X0_perform (G := G) hs hu52 uk_isK13 i33 (by first | trivial | decide | lia | grind) (d + 2)) rfl (by omega) rfl rfl (Nat.le_of_ble_eq_true rfl) dX2_tryReaching_90 (fun r53 u54 q55 => ?_)
                obtain ⟨q55, Eq55⟩ := q55
                obtain ⟨rfl, mq55⟩ := q55
                obtain ⟨hu54, gu54⟩ := mq55
                have fu54 : fr 13 49 u u54 := fr_tr fu52 gu54 (by omega) (by omega)
                have eu54 : u54 = e_X0_perform u52 13 i33 := Eq55
                refine g_aload_n dX2_tryReaching_93 rfl ?_
                refine g_aload_n dX2_tryReaching_94 rfl ?_
                refine g_iload_n dX2_tryReaching_95 rfl ?_
                refine g_iload_n dX2_tryReaching_96 rfl ?_
                refine g_iload dX2_tryReaching_97 rfl ?_
                refine g_iconst (v := 1) dX2_tryReaching_99 (by decide) ?_
                refine g_iadd dX2_tryReaching_100 ?_
                refine g_topi (fun x56 ex56 => ?_)
                refine cl_X2_60 (c := 46) (As := [.ref (uk_ad G 13), .int m, .int n, .int x56]) rfl (x_X2_tryReaching_1 (G := G) hs hu54  m n x56 (by first | trivial | decide | lia | grind) (by first | trivial | decide | lia | grind) (by first | trivial | decide | lia | grind) (by first | trivial | decide | lia | grind) (by first | trivial | decide | lia | grind) (by first | trivial | decide | lia | grind) (d)) rfl (by omega) rfl rfl (Nat.le_of_ble_eq_true rfl) dX2_tryReaching_101 (fun r57 u58 q59 => ?_)
                obtain ⟨q59, Eq59⟩ := q59
                obtain ⟨⟨x60, rfl, tx60, nx60, zx60⟩, mq59⟩ := q59
                obtain ⟨hu58, gu58⟩ := mq59
                have fu58 : fr 13 49 u u58 := fr_tr fu54 gu58 (by omega) (by omega)
                have ex60 : x60 = (e_X2_tryReaching_1 u54 m n x56).1 := ee_v Eq59.1
                have eu58 : u58 = (e_X2_tryReaching_1 u54 m n x56).2 := Eq59.2
                refine g_istore dX2_tryReaching_104 (by decide) ?_
                refine g_pick (lv' := [(0, .ref (uk_ad G 46)), (1, .ref (uk_ad G 13)), (2, .int m), (3, .int n), (4, .int g), (5, .int 1), (6, .int i33), (7, .int x60)]) [0, 1, 2, 3, 4, 5, 6, 7] rfl ?_
                refine g_aload_n dX2_tryReaching_106 rfl ?_
                refine g_iload dX2_tryReaching_107 rfl ?_
                refine cl_X2_57 (c := 13) (As := [.int i33]) rfl (x_X0_undo (G := G) hs hu58 uk_isK13 i33 (by first | trivial | decide | lia | grind) (d + 2)) rfl (by omega) rfl rfl (Nat.le_of_ble_eq_true rfl) dX2_tryReaching_109 (fun r61 u62 q63 => ?_)
                obtain ⟨q63, Eq63⟩ := q63
                obtain ⟨rfl, mq63⟩ := q63
                obtain ⟨hu62, gu62⟩ := mq63
                have fu62 : fr 13 49 u u62 := fr_tr fu58 gu62 (by omega) (by omega)
                have eu62 : u62 = e_X0_undo u58 13 i33 := Eq63
                refine g_iload dX2_tryReaching_112 rfl ?_
                refine g_if_eq (tgt := 119) dX2_tryReaching_114 (by decide) (fun c64 => ?_) (fun c64 => ?_)
                · have zc64 := zx60 c64
                  refine g_iinc (v := i33 + 1) dX2_tryReaching_119 rfl rfl (by decide) ?_
                  refine g_pick (lv' := [(0, .ref (uk_ad G 46)), (1, .ref (uk_ad G 13)), (2, .int m), (3, .int n), (4, .int g), (5, .int 1), (6, .int (i33 + 1)), (7, .int x60)]) [0, 1, 2, 3, 4, 5, 6, 7] rfl ?_
                  refine g_goto (tgt := 39) dX2_tryReaching_122 (by decide) ?_
                  refine g_pick (lv' := [(0, .ref (uk_ad G 46)), (1, .ref (uk_ad G 13)), (2, .int m), (3, .int n), (4, .int g), (5, .int 1), (6, .int (i33 + 1))]) [0, 1, 2, 3, 4, 5, 6] rfl ?_
                  exact ihi33 (by first | lia | grind)  u62 hu62 fu62  ⟨ki33, ee_Fs fki33 (by first | assumption | lia | grind), by subst eu62; subst eu58; subst ex60; subst ex56; subst eu54; subst eu52; subst ex48; subst ex42; subst ex37; subst ex35; exact hki33.trans ((if_neg c38).trans ((if_neg c43).trans ((if_neg c49).trans ((if_pos c64).trans (rfl)))))⟩
                · have zc64 := nx60 c64
                  refine g_iconst (v := 1) dX2_tryReaching_117 (by decide) ?_
                  exact g_iret (ty := .boolean) dX2_tryReaching_118 rfl rfl ⟨⟨⟨1, rfl, Or.inr rfl, fun _ => by first | trivial | lia | grind, fun q => absurd q (by decide)⟩, hu62, fu62⟩, ee_i (by subst eu62; subst eu58; subst ex60; subst ex56; subst eu54; subst eu52; subst ex48; subst ex42; subst ex37; subst ex35; exact hki33.trans ((if_neg c38).trans ((if_neg c43).trans ((if_neg c49).trans ((if_neg c64).trans (rfl))))))⟩
              · have zc49 := zx48 c49
                refine g_goto (tgt := 119) dX2_tryReaching_75 (by decide) ?_
                refine g_iinc (v := i33 + 1) dX2_tryReaching_119 rfl rfl (by decide) ?_
                refine g_pick (lv' := [(0, .ref (uk_ad G 46)), (1, .ref (uk_ad G 13)), (2, .int m), (3, .int n), (4, .int g), (5, .int 1), (6, .int (i33 + 1))]) [0, 1, 2, 3, 4, 5, 6] rfl ?_
                refine g_goto (tgt := 39) dX2_tryReaching_122 (by decide) ?_
                refine g_pick (lv' := [(0, .ref (uk_ad G 46)), (1, .ref (uk_ad G 13)), (2, .int m), (3, .int n), (4, .int g), (5, .int 1), (6, .int (i33 + 1))]) [0, 1, 2, 3, 4, 5, 6] rfl ?_
                exact ihi33 (by first | lia | grind)  u34 hu34 fu34  ⟨ki33, ee_Fs fki33 (by first | assumption | lia | grind), by subst ex48; subst ex42; subst ex37; subst ex35; exact hki33.trans ((if_neg c38).trans ((if_neg c43).trans ((if_pos c49).trans (rfl))))⟩
      refine g_pick (lv' := [(0, .ref (uk_ad G 46)), (1, .ref (uk_ad G 13)), (2, .int m), (3, .int n), (4, .int g), (5, .int 1), (6, .int 0)]) [0, 1, 2, 3, 4, 5, 6] rfl ?_
      exact L39_31 0 (by first | decide | lia | grind) (by first | decide | lia | grind)  u hu f0  ⟨ee_K, ee_F0 _ _, by subst ex2; exact (if_pos c1).trans ((if_pos c3).trans (rfl))⟩
  · refine g_aload_n dX2_tryReaching_6 rfl ?_
    refine f_X2_64 rfl rfl dX2_tryReaching_7 ?_
    refine g_iload_n dX2_tryReaching_10 rfl ?_
    have v65 : vp_in m 8 := uk_vin 8 rfl (by first | decide | lia | grind) (by first | decide | lia | grind)
    refine g_iald rfl rfl v65 dX2_tryReaching_11 ?_
    refine g_topi (fun x66 ex66 => ?_)
    refine g_if_le (tgt := 19) dX2_tryReaching_12 (by decide) (fun c67 => ?_) (fun c67 => ?_)
    · refine g_iconst (v := 0) dX2_tryReaching_19 (by decide) ?_
      exact g_iret (ty := .boolean) dX2_tryReaching_20 rfl rfl ⟨⟨⟨0, rfl, Or.inl rfl, fun q => absurd rfl q, fun _ => by first | trivial | lia | grind⟩, hu, f0⟩, ee_i (by subst ex66; exact (if_neg c1).trans ((if_pos c67).trans (rfl)))⟩
    · refine g_iconst (v := 1) dX2_tryReaching_15 (by decide) ?_
      refine g_goto (tgt := 20) dX2_tryReaching_16 (by decide) ?_
      exact g_iret (ty := .boolean) dX2_tryReaching_20 rfl rfl ⟨⟨⟨1, rfl, Or.inr rfl, fun _ => by first | trivial | lia | grind, fun q => absurd q (by decide)⟩, hu, f0⟩, ee_i (by subst ex66; exact (if_neg c1).trans ((if_neg c67).trans (rfl)))⟩
def l_X2_tryReaching_3_39 (g : Int32) (m : Int32) (n : Int32) : Nat → Int32 → uk_Mem → Int32 × uk_Mem
  | 0, _, u6 => (0, u6)
  | K9 + 1, i5, u6 => let x7 : Int32 := u6.1 13 0; let x9 : Int32 := (10 : Int32) + x7; if x9 ≤ i5 then (((0 : Int32), u6)) else (let x14 : Int32 := (e_X0_isAble u6 13 i5); if x14 = 0 then (l_X2_tryReaching_3_39 g m n K9 (i5 + 1) u6) else (let u19 : uk_Mem := uk_up u6 47 g.toNatClampNeg i5; let u21 : uk_Mem := e_X0_perform u19 13 i5; let x23 : Int32 := g + (1 : Int32); let x27 : Int32 := (e_X2_tryReaching_2 u21 m n x23).1; let u25 : uk_Mem := (e_X2_tryReaching_2 u21 m n x23).2; let u29 : uk_Mem := e_X0_undo u25 13 i5; if x27 = 0 then (l_X2_tryReaching_3_39 g m n K9 (i5 + 1) u29) else (((1 : Int32), u29))))
def l_X2_tryReaching_3_39_1 (m : Int32) (g : Int32) (n : Int32) : Nat → Int32 → uk_Mem → Int32 × uk_Mem
  | 0, _, u34 => (0, u34)
  | K9 + 1, i33, u34 => let x35 : Int32 := u34.1 13 0; let x37 : Int32 := (10 : Int32) + x35; if x37 ≤ i33 then (((0 : Int32), u34)) else (let x42 : Int32 := (e_X0_isAble u34 13 i33); if x42 = 0 then (l_X2_tryReaching_3_39_1 m g n K9 (i33 + 1) u34) else (let x48 : Int32 := (e_X0_brings u34 13 i33 m); if x48 = 0 then (l_X2_tryReaching_3_39_1 m g n K9 (i33 + 1) u34) else (let u52 : uk_Mem := uk_up u34 47 g.toNatClampNeg i33; let u54 : uk_Mem := e_X0_perform u52 13 i33; let x56 : Int32 := g + (1 : Int32); let x60 : Int32 := (e_X2_tryReaching_2 u54 m n x56).1; let u58 : uk_Mem := (e_X2_tryReaching_2 u54 m n x56).2; let u62 : uk_Mem := e_X0_undo u58 13 i33; if x60 = 0 then (l_X2_tryReaching_3_39_1 m g n K9 (i33 + 1) u62) else (((1 : Int32), u62)))))
def e_X2_tryReaching_3 (u : uk_Mem) (m : Int32) (n : Int32) (g : Int32) : Int32 × uk_Mem := if g < n then (let x2 : Int32 := g + (1 : Int32); if x2 = n then (l_X2_tryReaching_3_39_1 m g n ee_K (0 : Int32) u) else (l_X2_tryReaching_3_39 g m n ee_K (0 : Int32) u)) else (let x66 : Int32 := u.1 19 m.toNatClampNeg; if x66 ≤ 0 then (((0 : Int32), u)) else (((1 : Int32), u)))
abbrev qe_X2_tryReaching_3 (u : uk_Mem) (m : Int32) (n : Int32) (g : Int32) (r : Option Value) (u' : uk_Mem) : Prop := (q_X2_tryReaching_3 u m n g r u') ∧ (r = some (.int (e_X2_tryReaching_3 u m n g).1) ∧ u' = (e_X2_tryReaching_3 u m n g).2)
set_option maxHeartbeats 4000000 in
set_option maxRecDepth 20000 in
theorem x_X2_tryReaching_3 {G : uk_D} (hs : uk_Sep G) {u : uk_Mem} (hu : iv u) (m : Int32) (n : Int32) (g : Int32) (p0 : 0 ≤ m) (p1 : m ≤ 7) (p2 : 0 ≤ g) (p3 : g ≤ 4) (p4 : n ≤ 4) (p5 : g + 3 = n) (d : Nat) : uk_Meth G (d + 6) mX2_tryReaching [.ref (uk_ad G 46), .ref (uk_ad G 13), .int m, .int n, .int g] u (qe_X2_tryReaching_3 u m n g) := by
  refine uk_Meth.of hs (by decide) (Nat.le_of_ble_eq_true rfl) (fun X => ?_)
  have f0 : fr 13 49 u u := fr_rf
  refine g_iload dX2_tryReaching_0 rfl ?_
  refine g_iload_n dX2_tryReaching_2 rfl ?_
  refine g_icmp_lt (tgt := 21) dX2_tryReaching_3 (by decide) (fun c1 => ?_) (fun c1 => ?_)
  · refine g_iload dX2_tryReaching_21 rfl ?_
    refine g_iconst (v := 1) dX2_tryReaching_23 (by decide) ?_
    refine g_iadd dX2_tryReaching_24 ?_
    refine g_topi (fun x2 ex2 => ?_)
    refine g_iload_n dX2_tryReaching_25 rfl ?_
    refine g_icmp_ne (tgt := 33) dX2_tryReaching_26 (by decide) (fun c3 => ?_) (fun c3 => ?_)
    · refine g_iconst (v := 0) dX2_tryReaching_33 (by decide) ?_
      refine g_istore dX2_tryReaching_34 (by decide) ?_
      refine g_pick (lv' := [(0, .ref (uk_ad G 46)), (1, .ref (uk_ad G 13)), (2, .int m), (3, .int n), (4, .int g), (5, .int 0)]) [0, 1, 2, 3, 4, 5] rfl ?_
      refine g_iconst (v := 0) dX2_tryReaching_36 (by decide) ?_
      refine g_istore dX2_tryReaching_37 (by decide) ?_
      refine g_pick (lv' := [(0, .ref (uk_ad G 46)), (1, .ref (uk_ad G 13)), (2, .int m), (3, .int n), (4, .int g), (5, .int 0), (6, .int 0)]) [0, 1, 2, 3, 4, 5, 6] rfl ?_
      have L39_3 : ∀ i5 : Int32, 0 ≤ i5 → i5 ≤ 18 → ∀ (u6 : uk_Mem), iv u6 → fr 13 49 u u6 → (∃ ki5 : Nat, ee_F 18 i5 ki5 ∧ e_X2_tryReaching_3 u m n g = l_X2_tryReaching_3_39 g m n ki5 i5 u6) → uk_G G X mX2_tryReaching (d + 6) (qe_X2_tryReaching_3 u m n g) 39 [(0, .ref (uk_ad G 46)), (1, .ref (uk_ad G 13)), (2, .int m), (3, .int n), (4, .int g), (5, .int 0), (6, .int i5)] [] u6 := by
        refine uk_upl 18 ?_
        intro i5 ai5 bi5 ihi5  u6 hu6 fu6 jEi5
        obtain ⟨ki5, fki5, hki5⟩ := jEi5
        obtain ⟨ki5, rfl⟩ := ee_Fp (by first | assumption | lia | grind) fki5
        refine g_iload dX2_tryReaching_39 rfl ?_
        refine g_bipush (v := 10) dX2_tryReaching_41 (by decide) ?_
        refine g_aload_n dX2_tryReaching_43 rfl ?_
        refine f_X2_44 rfl rfl dX2_tryReaching_44 ?_
        refine g_topi (fun x7 ex7 => ?_)
        have rx7 : 0 ≤ x7 ∧ x7 ≤ 8 := by rw [ex7]; exact iv_at hu6 _ _ rfl
        have s8 : u6.1 13 0 = x7 := ex7.symm
        refine g_iadd dX2_tryReaching_47 ?_
        refine g_topi (fun x9 ex9 => ?_)
        refine g_icmp_ge (tgt := 125) dX2_tryReaching_48 (by decide) (fun c10 => ?_) (fun c10 => ?_)
        · refine g_iconst (v := 0) dX2_tryReaching_125 (by decide) ?_
          exact g_iret (ty := .boolean) dX2_tryReaching_126 rfl rfl ⟨⟨⟨0, rfl, Or.inl rfl, fun q => absurd rfl q, fun _ => by first | trivial | lia | grind⟩, hu6, fu6⟩, ee_i (by subst ex9; subst ex7; exact hki5.trans ((if_pos c10).trans (rfl)))⟩
        · refine g_aload_n dX2_tryReaching_51 rfl ?_
          refine g_iload dX2_tryReaching_52 rfl ?_
          refine cl_X2_45 (c := 13) (As := [.int i5]) rfl (x_X0_isAble (G := G) hs hu6 uk_isK13 i5  (d + 3)) rfl (by omega) rfl rfl (Nat.le_of_ble_eq_true rfl) dX2_tryReaching_54 (fun r11 u12 q13 => ?_)
          obtain ⟨q13, Eq13⟩ := q13
          obtain ⟨⟨x14, rfl, tx14, nx14, zx14⟩, mq13⟩ := q13
          rw [mq13]
          have ex14 : x14 = (e_X0_isAble u6 13 i5) := ee_v Eq13
          refine g_if_eq (tgt := 119) dX2_tryReaching_57 (by decide) (fun c15 => ?_) (fun c15 => ?_)
          · have zc15 := zx14 c15
            refine g_iinc (v := i5 + 1) dX2_tryReaching_119 rfl rfl (by decide) ?_
            refine g_pick (lv' := [(0, .ref (uk_ad G 46)), (1, .ref (uk_ad G 13)), (2, .int m), (3, .int n), (4, .int g), (5, .int 0), (6, .int (i5 + 1))]) [0, 1, 2, 3, 4, 5, 6] rfl ?_
            refine g_goto (tgt := 39) dX2_tryReaching_122 (by decide) ?_
            refine g_pick (lv' := [(0, .ref (uk_ad G 46)), (1, .ref (uk_ad G 13)), (2, .int m), (3, .int n), (4, .int g), (5, .int 0), (6, .int (i5 + 1))]) [0, 1, 2, 3, 4, 5, 6] rfl ?_
            exact ihi5 (by first | lia | grind)  u6 hu6 fu6  ⟨ki5, ee_Fs fki5 (by first | assumption | lia | grind), by subst ex14; subst ex9; subst ex7; exact hki5.trans ((if_neg c10).trans ((if_pos c15).trans (rfl)))⟩
          · have zc15 := nx14 c15
            refine g_iload dX2_tryReaching_60 rfl ?_
            refine g_if_eq (tgt := 78) dX2_tryReaching_62 (by decide) (fun c16 => ?_) (fun c16 => ?_)
            · refine g_aload_n dX2_tryReaching_78 rfl ?_
              refine f_X2_9 rfl rfl dX2_tryReaching_79 ?_
              refine g_iload dX2_tryReaching_82 rfl ?_
              refine g_iload dX2_tryReaching_84 rfl ?_
              have v17 : vp_in g 4 := uk_vin 4 rfl (by first | decide | lia | grind) (by first | decide | lia | grind)
              have b18 := uk_cl v17
              refine g_iast rfl rfl v17 dX2_tryReaching_86 ?_
              refine g_mem (fun u19 eu19 => ?_)
              have hu19 : iv u19 := by rw [eu19]; exact iv_upF hu6 (uk_pick1 _ (by omega))
              have fu19 : fr 13 49 u u19 := by rw [eu19]; exact fr_up fu6 (by omega) (by omega)
              refine g_aload_n dX2_tryReaching_87 rfl ?_
              refine g_iload dX2_tryReaching_88 rfl ?_
              refine cl_X2_53 (c := 13) (As := [.int i5]) rfl (x_X0_perform (G := G) hs hu19 uk_isK13 i5 (by first | trivial | decide | lia | grind) (d + 3)) rfl (by omega) rfl rfl (Nat.le_of_ble_eq_true rfl) dX2_tryReaching_90 (fun r20 u21 q22 => ?_)
              obtain ⟨q22, Eq22⟩ := q22
              obtain ⟨rfl, mq22⟩ := q22
              obtain ⟨hu21, gu21⟩ := mq22
              have fu21 : fr 13 49 u u21 := fr_tr fu19 gu21 (by omega) (by omega)
              have eu21 : u21 = e_X0_perform u19 13 i5 := Eq22
              refine g_aload_n dX2_tryReaching_93 rfl ?_
              refine g_aload_n dX2_tryReaching_94 rfl ?_
              refine g_iload_n dX2_tryReaching_95 rfl ?_
              refine g_iload_n dX2_tryReaching_96 rfl ?_
              refine g_iload dX2_tryReaching_97 rfl ?_
              refine g_iconst (v := 1) dX2_tryReaching_99 (by decide) ?_
              refine g_iadd dX2_tryReaching_100 ?_
              refine g_topi (fun x23 ex23 => ?_)
              refine cl_X2_60 (c := 46) (As := [.ref (uk_ad G 13), .int m, .int n, .int x23]) rfl (x_X2_tryReaching_2 (G := G) hs hu21  m n x23 (by first | trivial | decide | lia | grind) (by first | trivial | decide | lia | grind) (by first | trivial | decide | lia | grind) (by first | trivial | decide | lia | grind) (by first | trivial | decide | lia | grind) (by first | trivial | decide | lia | grind) (d)) rfl (by omega) rfl rfl (Nat.le_of_ble_eq_true rfl) dX2_tryReaching_101 (fun r24 u25 q26 => ?_)
              obtain ⟨q26, Eq26⟩ := q26
              obtain ⟨⟨x27, rfl, tx27, nx27, zx27⟩, mq26⟩ := q26
              obtain ⟨hu25, gu25⟩ := mq26
              have fu25 : fr 13 49 u u25 := fr_tr fu21 gu25 (by omega) (by omega)
              have ex27 : x27 = (e_X2_tryReaching_2 u21 m n x23).1 := ee_v Eq26.1
              have eu25 : u25 = (e_X2_tryReaching_2 u21 m n x23).2 := Eq26.2
              refine g_istore dX2_tryReaching_104 (by decide) ?_
              refine g_pick (lv' := [(0, .ref (uk_ad G 46)), (1, .ref (uk_ad G 13)), (2, .int m), (3, .int n), (4, .int g), (5, .int 0), (6, .int i5), (7, .int x27)]) [0, 1, 2, 3, 4, 5, 6, 7] rfl ?_
              refine g_aload_n dX2_tryReaching_106 rfl ?_
              refine g_iload dX2_tryReaching_107 rfl ?_
              refine cl_X2_57 (c := 13) (As := [.int i5]) rfl (x_X0_undo (G := G) hs hu25 uk_isK13 i5 (by first | trivial | decide | lia | grind) (d + 3)) rfl (by omega) rfl rfl (Nat.le_of_ble_eq_true rfl) dX2_tryReaching_109 (fun r28 u29 q30 => ?_)
              obtain ⟨q30, Eq30⟩ := q30
              obtain ⟨rfl, mq30⟩ := q30
              obtain ⟨hu29, gu29⟩ := mq30
              have fu29 : fr 13 49 u u29 := fr_tr fu25 gu29 (by omega) (by omega)
              have eu29 : u29 = e_X0_undo u25 13 i5 := Eq30
              refine g_iload dX2_tryReaching_112 rfl ?_
              refine g_if_eq (tgt := 119) dX2_tryReaching_114 (by decide) (fun c31 => ?_) (fun c31 => ?_)
              · have zc31 := zx27 c31
                refine g_iinc (v := i5 + 1) dX2_tryReaching_119 rfl rfl (by decide) ?_
                refine g_pick (lv' := [(0, .ref (uk_ad G 46)), (1, .ref (uk_ad G 13)), (2, .int m), (3, .int n), (4, .int g), (5, .int 0), (6, .int (i5 + 1)), (7, .int x27)]) [0, 1, 2, 3, 4, 5, 6, 7] rfl ?_
                refine g_goto (tgt := 39) dX2_tryReaching_122 (by decide) ?_
                refine g_pick (lv' := [(0, .ref (uk_ad G 46)), (1, .ref (uk_ad G 13)), (2, .int m), (3, .int n), (4, .int g), (5, .int 0), (6, .int (i5 + 1))]) [0, 1, 2, 3, 4, 5, 6] rfl ?_
                exact ihi5 (by first | lia | grind)  u29 hu29 fu29  ⟨ki5, ee_Fs fki5 (by first | assumption | lia | grind), by subst eu29; subst eu25; subst ex27; subst ex23; subst eu21; subst eu19; subst ex14; subst ex9; subst ex7; exact hki5.trans ((if_neg c10).trans ((if_neg c15).trans ((if_pos c31).trans (rfl))))⟩
              · have zc31 := nx27 c31
                refine g_iconst (v := 1) dX2_tryReaching_117 (by decide) ?_
                exact g_iret (ty := .boolean) dX2_tryReaching_118 rfl rfl ⟨⟨⟨1, rfl, Or.inr rfl, fun _ => by first | trivial | lia | grind, fun q => absurd q (by decide)⟩, hu29, fu29⟩, ee_i (by subst eu29; subst eu25; subst ex27; subst ex23; subst eu21; subst eu19; subst ex14; subst ex9; subst ex7; exact hki5.trans ((if_neg c10).trans ((if_neg c15).trans ((if_neg c31).trans (rfl)))))⟩
            · exact absurd c16 (by decide)
      refine g_pick (lv' := [(0, .ref (uk_ad G 46)), (1, .ref (uk_ad G 13)), (2, .int m), (3, .int n), (4, .int g), (5, .int 0), (6, .int 0)]) [0, 1, 2, 3, 4, 5, 6] rfl ?_
      exact L39_3 0 (by first | decide | lia | grind) (by first | decide | lia | grind)  u hu f0  ⟨ee_K, ee_F0 _ _, by subst ex2; exact (if_pos c1).trans ((if_neg c3).trans (rfl))⟩
    · refine g_iconst (v := 1) dX2_tryReaching_29 (by decide) ?_
      refine g_goto (tgt := 34) dX2_tryReaching_30 (by decide) ?_
      refine g_istore dX2_tryReaching_34 (by decide) ?_
      refine g_pick (lv' := [(0, .ref (uk_ad G 46)), (1, .ref (uk_ad G 13)), (2, .int m), (3, .int n), (4, .int g), (5, .int 1)]) [0, 1, 2, 3, 4, 5] rfl ?_
      refine g_iconst (v := 0) dX2_tryReaching_36 (by decide) ?_
      refine g_istore dX2_tryReaching_37 (by decide) ?_
      refine g_pick (lv' := [(0, .ref (uk_ad G 46)), (1, .ref (uk_ad G 13)), (2, .int m), (3, .int n), (4, .int g), (5, .int 1), (6, .int 0)]) [0, 1, 2, 3, 4, 5, 6] rfl ?_
      have L39_31 : ∀ i33 : Int32, 0 ≤ i33 → i33 ≤ 18 → ∀ (u34 : uk_Mem), iv u34 → fr 13 49 u u34 → (∃ ki33 : Nat, ee_F 18 i33 ki33 ∧ e_X2_tryReaching_3 u m n g = l_X2_tryReaching_3_39_1 m g n ki33 i33 u34) → uk_G G X mX2_tryReaching (d + 6) (qe_X2_tryReaching_3 u m n g) 39 [(0, .ref (uk_ad G 46)), (1, .ref (uk_ad G 13)), (2, .int m), (3, .int n), (4, .int g), (5, .int 1), (6, .int i33)] [] u34 := by
        refine uk_upl 18 ?_
        intro i33 ai33 bi33 ihi33  u34 hu34 fu34 jEi33
        obtain ⟨ki33, fki33, hki33⟩ := jEi33
        obtain ⟨ki33, rfl⟩ := ee_Fp (by first | assumption | lia | grind) fki33
        refine g_iload dX2_tryReaching_39 rfl ?_
        refine g_bipush (v := 10) dX2_tryReaching_41 (by decide) ?_
        refine g_aload_n dX2_tryReaching_43 rfl ?_
        refine f_X2_44 rfl rfl dX2_tryReaching_44 ?_
        refine g_topi (fun x35 ex35 => ?_)
        have rx35 : 0 ≤ x35 ∧ x35 ≤ 8 := by rw [ex35]; exact iv_at hu34 _ _ rfl
        have s36 : u34.1 13 0 = x35 := ex35.symm
        refine g_iadd dX2_tryReaching_47 ?_
        refine g_topi (fun x37 ex37 => ?_)
        refine g_icmp_ge (tgt := 125) dX2_tryReaching_48 (by decide) (fun c38 => ?_) (fun c38 => ?_)
        · refine g_iconst (v := 0) dX2_tryReaching_125 (by decide) ?_
          exact g_iret (ty := .boolean) dX2_tryReaching_126 rfl rfl ⟨⟨⟨0, rfl, Or.inl rfl, fun q => absurd rfl q, fun _ => by first | trivial | lia | grind⟩, hu34, fu34⟩, ee_i (by subst ex37; subst ex35; exact hki33.trans ((if_pos c38).trans (rfl)))⟩
        · refine g_aload_n dX2_tryReaching_51 rfl ?_
          refine g_iload dX2_tryReaching_52 rfl ?_
          refine cl_X2_45 (c := 13) (As := [.int i33]) rfl (x_X0_isAble (G := G) hs hu34 uk_isK13 i33  (d + 3)) rfl (by omega) rfl rfl (Nat.le_of_ble_eq_true rfl) dX2_tryReaching_54 (fun r39 u40 q41 => ?_)
          obtain ⟨q41, Eq41⟩ := q41
          obtain ⟨⟨x42, rfl, tx42, nx42, zx42⟩, mq41⟩ := q41
          rw [mq41]
          have ex42 : x42 = (e_X0_isAble u34 13 i33) := ee_v Eq41
          refine g_if_eq (tgt := 119) dX2_tryReaching_57 (by decide) (fun c43 => ?_) (fun c43 => ?_)
          · have zc43 := zx42 c43
            refine g_iinc (v := i33 + 1) dX2_tryReaching_119 rfl rfl (by decide) ?_
            refine g_pick (lv' := [(0, .ref (uk_ad G 46)), (1, .ref (uk_ad G 13)), (2, .int m), (3, .int n), (4, .int g), (5, .int 1), (6, .int (i33 + 1))]) [0, 1, 2, 3, 4, 5, 6] rfl ?_
            refine g_goto (tgt := 39) dX2_tryReaching_122 (by decide) ?_
            refine g_pick (lv' := [(0, .ref (uk_ad G 46)), (1, .ref (uk_ad G 13)), (2, .int m), (3, .int n), (4, .int g), (5, .int 1), (6, .int (i33 + 1))]) [0, 1, 2, 3, 4, 5, 6] rfl ?_
            exact ihi33 (by first | lia | grind)  u34 hu34 fu34  ⟨ki33, ee_Fs fki33 (by first | assumption | lia | grind), by subst ex42; subst ex37; subst ex35; exact hki33.trans ((if_neg c38).trans ((if_pos c43).trans (rfl)))⟩
          · have zc43 := nx42 c43
            refine g_iload dX2_tryReaching_60 rfl ?_
            refine g_if_eq (tgt := 78) dX2_tryReaching_62 (by decide) (fun c44 => ?_) (fun c44 => ?_)
            · exact absurd c44 (by decide)
            · refine g_aload_n dX2_tryReaching_65 rfl ?_
              refine g_iload dX2_tryReaching_66 rfl ?_
              refine g_iload_n dX2_tryReaching_68 rfl ?_
              refine cl_X2_67 (c := 13) (As := [.int i33, .int m]) rfl (x_X0_brings (G := G) hs hu34 uk_isK13 i33 m (by first | trivial | decide | lia | grind) (d + 4)) rfl (by omega) rfl rfl (Nat.le_of_ble_eq_true rfl) dX2_tryReaching_69 (fun r45 u46 q47 => ?_)
              obtain ⟨q47, Eq47⟩ := q47
              obtain ⟨⟨x48, rfl, tx48, nx48, zx48⟩, mq47⟩ := q47
              rw [mq47]
              have ex48 : x48 = (e_X0_brings u34 13 i33 m) := ee_v Eq47
              refine g_if_ne (tgt := 78) dX2_tryReaching_72 (by decide) (fun c49 => ?_) (fun c49 => ?_)
              · have zc49 := nx48 c49
                refine g_aload_n dX2_tryReaching_78 rfl ?_
                refine f_X2_9 rfl rfl dX2_tryReaching_79 ?_
                refine g_iload dX2_tryReaching_82 rfl ?_
                refine g_iload dX2_tryReaching_84 rfl ?_
                have v50 : vp_in g 4 := uk_vin 4 rfl (by first | decide | lia | grind) (by first | decide | lia | grind)
                have b51 := uk_cl v50
                refine g_iast rfl rfl v50 dX2_tryReaching_86 ?_
                refine g_mem (fun u52 eu52 => ?_)
                have hu52 : iv u52 := by rw [eu52]; exact iv_upF hu34 (uk_pick1 _ (by omega))
                have fu52 : fr 13 49 u u52 := by rw [eu52]; exact fr_up fu34 (by omega) (by omega)
                refine g_aload_n dX2_tryReaching_87 rfl ?_
                refine g_iload dX2_tryReaching_88 rfl ?_
                refine cl_X2_53 (c := 13) (As := [.int i33]) rfl (x_X0_perform (G := G) hs hu52 uk_isK13 i33 (by first | trivial | decide | lia | grind) (d + 3)) rfl (by omega) rfl rfl (Nat.le_of_ble_eq_true rfl) dX2_tryReaching_90 (fun r53 u54 q55 => ?_)
                obtain ⟨q55, Eq55⟩ := q55
                obtain ⟨rfl, mq55⟩ := q55
                obtain ⟨hu54, gu54⟩ := mq55
                have fu54 : fr 13 49 u u54 := fr_tr fu52 gu54 (by omega) (by omega)
                have eu54 : u54 = e_X0_perform u52 13 i33 := Eq55
                refine g_aload_n dX2_tryReaching_93 rfl ?_
                refine g_aload_n dX2_tryReaching_94 rfl ?_
                refine g_iload_n dX2_tryReaching_95 rfl ?_
                refine g_iload_n dX2_tryReaching_96 rfl ?_
                refine g_iload dX2_tryReaching_97 rfl ?_
                refine g_iconst (v := 1) dX2_tryReaching_99 (by decide) ?_
                refine g_iadd dX2_tryReaching_100 ?_
                refine g_topi (fun x56 ex56 => ?_)
                refine cl_X2_60 (c := 46) (As := [.ref (uk_ad G 13), .int m, .int n, .int x56]) rfl (x_X2_tryReaching_2 (G := G) hs hu54  m n x56 (by first | trivial | decide | lia | grind) (by first | trivial | decide | lia | grind) (by first | trivial | decide | lia | grind) (by first | trivial | decide | lia | grind) (by first | trivial | decide | lia | grind) (by first | trivial | decide | lia | grind) (d)) rfl (by omega) rfl rfl (Nat.le_of_ble_eq_true rfl) dX2_tryReaching_101 (fun r57 u58 q59 => ?_)
                obtain ⟨q59, Eq59⟩ := q59
                obtain ⟨⟨x60, rfl, tx60, nx60, zx60⟩, mq59⟩ := q59
                obtain ⟨hu58, gu58⟩ := mq59
                have fu58 : fr 13 49 u u58 := fr_tr fu54 gu58 (by omega) (by omega)
                have ex60 : x60 = (e_X2_tryReaching_2 u54 m n x56).1 := ee_v Eq59.1
                have eu58 : u58 = (e_X2_tryReaching_2 u54 m n x56).2 := Eq59.2
                refine g_istore dX2_tryReaching_104 (by decide) ?_
                refine g_pick (lv' := [(0, .ref (uk_ad G 46)), (1, .ref (uk_ad G 13)), (2, .int m), (3, .int n), (4, .int g), (5, .int 1), (6, .int i33), (7, .int x60)]) [0, 1, 2, 3, 4, 5, 6, 7] rfl ?_
                refine g_aload_n dX2_tryReaching_106 rfl ?_
                refine g_iload dX2_tryReaching_107 rfl ?_
                refine cl_X2_57 (c := 13) (As := [.int i33]) rfl (x_X0_undo (G := G) hs hu58 uk_isK13 i33 (by first | trivial | decide | lia | grind) (d + 3)) rfl (by omega) rfl rfl (Nat.le_of_ble_eq_true rfl) dX2_tryReaching_109 (fun r61 u62 q63 => ?_)
                obtain ⟨q63, Eq63⟩ := q63
                obtain ⟨rfl, mq63⟩ := q63
                obtain ⟨hu62, gu62⟩ := mq63
                have fu62 : fr 13 49 u u62 := fr_tr fu58 gu62 (by omega) (by omega)
                have eu62 : u62 = e_X0_undo u58 13 i33 := Eq63
                refine g_iload dX2_tryReaching_112 rfl ?_
                refine g_if_eq (tgt := 119) dX2_tryReaching_114 (by decide) (fun c64 => ?_) (fun c64 => ?_)
                · have zc64 := zx60 c64
                  refine g_iinc (v := i33 + 1) dX2_tryReaching_119 rfl rfl (by decide) ?_
                  refine g_pick (lv' := [(0, .ref (uk_ad G 46)), (1, .ref (uk_ad G 13)), (2, .int m), (3, .int n), (4, .int g), (5, .int 1), (6, .int (i33 + 1)), (7, .int x60)]) [0, 1, 2, 3, 4, 5, 6, 7] rfl ?_
                  refine g_goto (tgt := 39) dX2_tryReaching_122 (by decide) ?_
                  refine g_pick (lv' := [(0, .ref (uk_ad G 46)), (1, .ref (uk_ad G 13)), (2, .int m), (3, .int n), (4, .int g), (5, .int 1), (6, .int (i33 + 1))]) [0, 1, 2, 3, 4, 5, 6] rfl ?_
                  exact ihi33 (by first | lia | grind)  u62 hu62 fu62  ⟨ki33, ee_Fs fki33 (by first | assumption | lia | grind), by subst eu62; subst eu58; subst ex60; subst ex56; subst eu54; subst eu52; subst ex48; subst ex42; subst ex37; subst ex35; exact hki33.trans ((if_neg c38).trans ((if_neg c43).trans ((if_neg c49).trans ((if_pos c64).trans (rfl)))))⟩
                · have zc64 := nx60 c64
                  refine g_iconst (v := 1) dX2_tryReaching_117 (by decide) ?_
                  exact g_iret (ty := .boolean) dX2_tryReaching_118 rfl rfl ⟨⟨⟨1, rfl, Or.inr rfl, fun _ => by first | trivial | lia | grind, fun q => absurd q (by decide)⟩, hu62, fu62⟩, ee_i (by subst eu62; subst eu58; subst ex60; subst ex56; subst eu54; subst eu52; subst ex48; subst ex42; subst ex37; subst ex35; exact hki33.trans ((if_neg c38).trans ((if_neg c43).trans ((if_neg c49).trans ((if_neg c64).trans (rfl))))))⟩
              · have zc49 := zx48 c49
                refine g_goto (tgt := 119) dX2_tryReaching_75 (by decide) ?_
                refine g_iinc (v := i33 + 1) dX2_tryReaching_119 rfl rfl (by decide) ?_
                refine g_pick (lv' := [(0, .ref (uk_ad G 46)), (1, .ref (uk_ad G 13)), (2, .int m), (3, .int n), (4, .int g), (5, .int 1), (6, .int (i33 + 1))]) [0, 1, 2, 3, 4, 5, 6] rfl ?_
                refine g_goto (tgt := 39) dX2_tryReaching_122 (by decide) ?_
                refine g_pick (lv' := [(0, .ref (uk_ad G 46)), (1, .ref (uk_ad G 13)), (2, .int m), (3, .int n), (4, .int g), (5, .int 1), (6, .int (i33 + 1))]) [0, 1, 2, 3, 4, 5, 6] rfl ?_
                exact ihi33 (by first | lia | grind)  u34 hu34 fu34  ⟨ki33, ee_Fs fki33 (by first | assumption | lia | grind), by subst ex48; subst ex42; subst ex37; subst ex35; exact hki33.trans ((if_neg c38).trans ((if_neg c43).trans ((if_pos c49).trans (rfl))))⟩
      refine g_pick (lv' := [(0, .ref (uk_ad G 46)), (1, .ref (uk_ad G 13)), (2, .int m), (3, .int n), (4, .int g), (5, .int 1), (6, .int 0)]) [0, 1, 2, 3, 4, 5, 6] rfl ?_
      exact L39_31 0 (by first | decide | lia | grind) (by first | decide | lia | grind)  u hu f0  ⟨ee_K, ee_F0 _ _, by subst ex2; exact (if_pos c1).trans ((if_pos c3).trans (rfl))⟩
  · refine g_aload_n dX2_tryReaching_6 rfl ?_
    refine f_X2_64 rfl rfl dX2_tryReaching_7 ?_
    refine g_iload_n dX2_tryReaching_10 rfl ?_
    have v65 : vp_in m 8 := uk_vin 8 rfl (by first | decide | lia | grind) (by first | decide | lia | grind)
    refine g_iald rfl rfl v65 dX2_tryReaching_11 ?_
    refine g_topi (fun x66 ex66 => ?_)
    refine g_if_le (tgt := 19) dX2_tryReaching_12 (by decide) (fun c67 => ?_) (fun c67 => ?_)
    · refine g_iconst (v := 0) dX2_tryReaching_19 (by decide) ?_
      exact g_iret (ty := .boolean) dX2_tryReaching_20 rfl rfl ⟨⟨⟨0, rfl, Or.inl rfl, fun q => absurd rfl q, fun _ => by first | trivial | lia | grind⟩, hu, f0⟩, ee_i (by subst ex66; exact (if_neg c1).trans ((if_pos c67).trans (rfl)))⟩
    · refine g_iconst (v := 1) dX2_tryReaching_15 (by decide) ?_
      refine g_goto (tgt := 20) dX2_tryReaching_16 (by decide) ?_
      exact g_iret (ty := .boolean) dX2_tryReaching_20 rfl rfl ⟨⟨⟨1, rfl, Or.inr rfl, fun _ => by first | trivial | lia | grind, fun q => absurd q (by decide)⟩, hu, f0⟩, ee_i (by subst ex66; exact (if_neg c1).trans ((if_neg c67).trans (rfl)))⟩
def l_X2_tryReaching_4_39 (g : Int32) (m : Int32) (n : Int32) : Nat → Int32 → uk_Mem → Int32 × uk_Mem
  | 0, _, u6 => (0, u6)
  | K9 + 1, i5, u6 => let x7 : Int32 := u6.1 13 0; let x9 : Int32 := (10 : Int32) + x7; if x9 ≤ i5 then (((0 : Int32), u6)) else (let x14 : Int32 := (e_X0_isAble u6 13 i5); if x14 = 0 then (l_X2_tryReaching_4_39 g m n K9 (i5 + 1) u6) else (let u19 : uk_Mem := uk_up u6 47 g.toNatClampNeg i5; let u21 : uk_Mem := e_X0_perform u19 13 i5; let x23 : Int32 := g + (1 : Int32); let x27 : Int32 := (e_X2_tryReaching_3 u21 m n x23).1; let u25 : uk_Mem := (e_X2_tryReaching_3 u21 m n x23).2; let u29 : uk_Mem := e_X0_undo u25 13 i5; if x27 = 0 then (l_X2_tryReaching_4_39 g m n K9 (i5 + 1) u29) else (((1 : Int32), u29))))
def l_X2_tryReaching_4_39_1 (m : Int32) (g : Int32) (n : Int32) : Nat → Int32 → uk_Mem → Int32 × uk_Mem
  | 0, _, u34 => (0, u34)
  | K9 + 1, i33, u34 => let x35 : Int32 := u34.1 13 0; let x37 : Int32 := (10 : Int32) + x35; if x37 ≤ i33 then (((0 : Int32), u34)) else (let x42 : Int32 := (e_X0_isAble u34 13 i33); if x42 = 0 then (l_X2_tryReaching_4_39_1 m g n K9 (i33 + 1) u34) else (let x48 : Int32 := (e_X0_brings u34 13 i33 m); if x48 = 0 then (l_X2_tryReaching_4_39_1 m g n K9 (i33 + 1) u34) else (let u52 : uk_Mem := uk_up u34 47 g.toNatClampNeg i33; let u54 : uk_Mem := e_X0_perform u52 13 i33; let x56 : Int32 := g + (1 : Int32); let x60 : Int32 := (e_X2_tryReaching_3 u54 m n x56).1; let u58 : uk_Mem := (e_X2_tryReaching_3 u54 m n x56).2; let u62 : uk_Mem := e_X0_undo u58 13 i33; if x60 = 0 then (l_X2_tryReaching_4_39_1 m g n K9 (i33 + 1) u62) else (((1 : Int32), u62)))))
def e_X2_tryReaching_4 (u : uk_Mem) (m : Int32) (n : Int32) (g : Int32) : Int32 × uk_Mem := if g < n then (let x2 : Int32 := g + (1 : Int32); if x2 = n then (l_X2_tryReaching_4_39_1 m g n ee_K (0 : Int32) u) else (l_X2_tryReaching_4_39 g m n ee_K (0 : Int32) u)) else (let x66 : Int32 := u.1 19 m.toNatClampNeg; if x66 ≤ 0 then (((0 : Int32), u)) else (((1 : Int32), u)))
abbrev qe_X2_tryReaching_4 (u : uk_Mem) (m : Int32) (n : Int32) (g : Int32) (r : Option Value) (u' : uk_Mem) : Prop := (q_X2_tryReaching_4 u m n g r u') ∧ (r = some (.int (e_X2_tryReaching_4 u m n g).1) ∧ u' = (e_X2_tryReaching_4 u m n g).2)
set_option maxHeartbeats 4000000 in
set_option maxRecDepth 20000 in
theorem x_X2_tryReaching_4 {G : uk_D} (hs : uk_Sep G) {u : uk_Mem} (hu : iv u) (m : Int32) (n : Int32) (g : Int32) (p0 : 0 ≤ m) (p1 : m ≤ 7) (p2 : 0 ≤ g) (p3 : g ≤ 4) (p4 : n ≤ 4) (p5 : g + 4 = n) (d : Nat) : uk_Meth G (d + 7) mX2_tryReaching [.ref (uk_ad G 46), .ref (uk_ad G 13), .int m, .int n, .int g] u (qe_X2_tryReaching_4 u m n g) := by
  refine uk_Meth.of hs (by decide) (Nat.le_of_ble_eq_true rfl) (fun X => ?_)
  have f0 : fr 13 49 u u := fr_rf
  refine g_iload dX2_tryReaching_0 rfl ?_
  refine g_iload_n dX2_tryReaching_2 rfl ?_
  refine g_icmp_lt (tgt := 21) dX2_tryReaching_3 (by decide) (fun c1 => ?_) (fun c1 => ?_)
  · refine g_iload dX2_tryReaching_21 rfl ?_
    refine g_iconst (v := 1) dX2_tryReaching_23 (by decide) ?_
    refine g_iadd dX2_tryReaching_24 ?_
    refine g_topi (fun x2 ex2 => ?_)
    refine g_iload_n dX2_tryReaching_25 rfl ?_
    refine g_icmp_ne (tgt := 33) dX2_tryReaching_26 (by decide) (fun c3 => ?_) (fun c3 => ?_)
    · refine g_iconst (v := 0) dX2_tryReaching_33 (by decide) ?_
      refine g_istore dX2_tryReaching_34 (by decide) ?_
      refine g_pick (lv' := [(0, .ref (uk_ad G 46)), (1, .ref (uk_ad G 13)), (2, .int m), (3, .int n), (4, .int g), (5, .int 0)]) [0, 1, 2, 3, 4, 5] rfl ?_
      refine g_iconst (v := 0) dX2_tryReaching_36 (by decide) ?_
      refine g_istore dX2_tryReaching_37 (by decide) ?_
      refine g_pick (lv' := [(0, .ref (uk_ad G 46)), (1, .ref (uk_ad G 13)), (2, .int m), (3, .int n), (4, .int g), (5, .int 0), (6, .int 0)]) [0, 1, 2, 3, 4, 5, 6] rfl ?_
      have L39_3 : ∀ i5 : Int32, 0 ≤ i5 → i5 ≤ 18 → ∀ (u6 : uk_Mem), iv u6 → fr 13 49 u u6 → (∃ ki5 : Nat, ee_F 18 i5 ki5 ∧ e_X2_tryReaching_4 u m n g = l_X2_tryReaching_4_39 g m n ki5 i5 u6) → uk_G G X mX2_tryReaching (d + 7) (qe_X2_tryReaching_4 u m n g) 39 [(0, .ref (uk_ad G 46)), (1, .ref (uk_ad G 13)), (2, .int m), (3, .int n), (4, .int g), (5, .int 0), (6, .int i5)] [] u6 := by
        refine uk_upl 18 ?_
        intro i5 ai5 bi5 ihi5  u6 hu6 fu6 jEi5
        obtain ⟨ki5, fki5, hki5⟩ := jEi5
        obtain ⟨ki5, rfl⟩ := ee_Fp (by first | assumption | lia | grind) fki5
        refine g_iload dX2_tryReaching_39 rfl ?_
        refine g_bipush (v := 10) dX2_tryReaching_41 (by decide) ?_
        refine g_aload_n dX2_tryReaching_43 rfl ?_
        refine f_X2_44 rfl rfl dX2_tryReaching_44 ?_
        refine g_topi (fun x7 ex7 => ?_)
        have rx7 : 0 ≤ x7 ∧ x7 ≤ 8 := by rw [ex7]; exact iv_at hu6 _ _ rfl
        have s8 : u6.1 13 0 = x7 := ex7.symm
        refine g_iadd dX2_tryReaching_47 ?_
        refine g_topi (fun x9 ex9 => ?_)
        refine g_icmp_ge (tgt := 125) dX2_tryReaching_48 (by decide) (fun c10 => ?_) (fun c10 => ?_)
        · refine g_iconst (v := 0) dX2_tryReaching_125 (by decide) ?_
          exact g_iret (ty := .boolean) dX2_tryReaching_126 rfl rfl ⟨⟨⟨0, rfl, Or.inl rfl, fun q => absurd rfl q, fun _ => by first | trivial | lia | grind⟩, hu6, fu6⟩, ee_i (by subst ex9; subst ex7; exact hki5.trans ((if_pos c10).trans (rfl)))⟩
        · refine g_aload_n dX2_tryReaching_51 rfl ?_
          refine g_iload dX2_tryReaching_52 rfl ?_
          refine cl_X2_45 (c := 13) (As := [.int i5]) rfl (x_X0_isAble (G := G) hs hu6 uk_isK13 i5  (d + 4)) rfl (by omega) rfl rfl (Nat.le_of_ble_eq_true rfl) dX2_tryReaching_54 (fun r11 u12 q13 => ?_)
          obtain ⟨q13, Eq13⟩ := q13
          obtain ⟨⟨x14, rfl, tx14, nx14, zx14⟩, mq13⟩ := q13
          rw [mq13]
          have ex14 : x14 = (e_X0_isAble u6 13 i5) := ee_v Eq13
          refine g_if_eq (tgt := 119) dX2_tryReaching_57 (by decide) (fun c15 => ?_) (fun c15 => ?_)
          · have zc15 := zx14 c15
            refine g_iinc (v := i5 + 1) dX2_tryReaching_119 rfl rfl (by decide) ?_
            refine g_pick (lv' := [(0, .ref (uk_ad G 46)), (1, .ref (uk_ad G 13)), (2, .int m), (3, .int n), (4, .int g), (5, .int 0), (6, .int (i5 + 1))]) [0, 1, 2, 3, 4, 5, 6] rfl ?_
            refine g_goto (tgt := 39) dX2_tryReaching_122 (by decide) ?_
            refine g_pick (lv' := [(0, .ref (uk_ad G 46)), (1, .ref (uk_ad G 13)), (2, .int m), (3, .int n), (4, .int g), (5, .int 0), (6, .int (i5 + 1))]) [0, 1, 2, 3, 4, 5, 6] rfl ?_
            exact ihi5 (by first | lia | grind)  u6 hu6 fu6  ⟨ki5, ee_Fs fki5 (by first | assumption | lia | grind), by subst ex14; subst ex9; subst ex7; exact hki5.trans ((if_neg c10).trans ((if_pos c15).trans (rfl)))⟩
          · have zc15 := nx14 c15
            refine g_iload dX2_tryReaching_60 rfl ?_
            refine g_if_eq (tgt := 78) dX2_tryReaching_62 (by decide) (fun c16 => ?_) (fun c16 => ?_)
            · refine g_aload_n dX2_tryReaching_78 rfl ?_
              refine f_X2_9 rfl rfl dX2_tryReaching_79 ?_
              refine g_iload dX2_tryReaching_82 rfl ?_
              refine g_iload dX2_tryReaching_84 rfl ?_
              have v17 : vp_in g 4 := uk_vin 4 rfl (by first | decide | lia | grind) (by first | decide | lia | grind)
              have b18 := uk_cl v17
              refine g_iast rfl rfl v17 dX2_tryReaching_86 ?_
              refine g_mem (fun u19 eu19 => ?_)
              have hu19 : iv u19 := by rw [eu19]; exact iv_upF hu6 (uk_pick1 _ (by omega))
              have fu19 : fr 13 49 u u19 := by rw [eu19]; exact fr_up fu6 (by omega) (by omega)
              refine g_aload_n dX2_tryReaching_87 rfl ?_
              refine g_iload dX2_tryReaching_88 rfl ?_
              refine cl_X2_53 (c := 13) (As := [.int i5]) rfl (x_X0_perform (G := G) hs hu19 uk_isK13 i5 (by first | trivial | decide | lia | grind) (d + 4)) rfl (by omega) rfl rfl (Nat.le_of_ble_eq_true rfl) dX2_tryReaching_90 (fun r20 u21 q22 => ?_)
              obtain ⟨q22, Eq22⟩ := q22
              obtain ⟨rfl, mq22⟩ := q22
              obtain ⟨hu21, gu21⟩ := mq22
              have fu21 : fr 13 49 u u21 := fr_tr fu19 gu21 (by omega) (by omega)
              have eu21 : u21 = e_X0_perform u19 13 i5 := Eq22
              refine g_aload_n dX2_tryReaching_93 rfl ?_
              refine g_aload_n dX2_tryReaching_94 rfl ?_
              refine g_iload_n dX2_tryReaching_95 rfl ?_
              refine g_iload_n dX2_tryReaching_96 rfl ?_
              refine g_iload dX2_tryReaching_97 rfl ?_
              refine g_iconst (v := 1) dX2_tryReaching_99 (by decide) ?_
              refine g_iadd dX2_tryReaching_100 ?_
              refine g_topi (fun x23 ex23 => ?_)
              refine cl_X2_60 (c := 46) (As := [.ref (uk_ad G 13), .int m, .int n, .int x23]) rfl (x_X2_tryReaching_3 (G := G) hs hu21  m n x23 (by first | trivial | decide | lia | grind) (by first | trivial | decide | lia | grind) (by first | trivial | decide | lia | grind) (by first | trivial | decide | lia | grind) (by first | trivial | decide | lia | grind) (by first | trivial | decide | lia | grind) (d)) rfl (by omega) rfl rfl (Nat.le_of_ble_eq_true rfl) dX2_tryReaching_101 (fun r24 u25 q26 => ?_)
              obtain ⟨q26, Eq26⟩ := q26
              obtain ⟨⟨x27, rfl, tx27, nx27, zx27⟩, mq26⟩ := q26
              obtain ⟨hu25, gu25⟩ := mq26
              have fu25 : fr 13 49 u u25 := fr_tr fu21 gu25 (by omega) (by omega)
              have ex27 : x27 = (e_X2_tryReaching_3 u21 m n x23).1 := ee_v Eq26.1
              have eu25 : u25 = (e_X2_tryReaching_3 u21 m n x23).2 := Eq26.2
              refine g_istore dX2_tryReaching_104 (by decide) ?_
              refine g_pick (lv' := [(0, .ref (uk_ad G 46)), (1, .ref (uk_ad G 13)), (2, .int m), (3, .int n), (4, .int g), (5, .int 0), (6, .int i5), (7, .int x27)]) [0, 1, 2, 3, 4, 5, 6, 7] rfl ?_
              refine g_aload_n dX2_tryReaching_106 rfl ?_
              refine g_iload dX2_tryReaching_107 rfl ?_
              refine cl_X2_57 (c := 13) (As := [.int i5]) rfl (x_X0_undo (G := G) hs hu25 uk_isK13 i5 (by first | trivial | decide | lia | grind) (d + 4)) rfl (by omega) rfl rfl (Nat.le_of_ble_eq_true rfl) dX2_tryReaching_109 (fun r28 u29 q30 => ?_)
              obtain ⟨q30, Eq30⟩ := q30
              obtain ⟨rfl, mq30⟩ := q30
              obtain ⟨hu29, gu29⟩ := mq30
              have fu29 : fr 13 49 u u29 := fr_tr fu25 gu29 (by omega) (by omega)
              have eu29 : u29 = e_X0_undo u25 13 i5 := Eq30
              refine g_iload dX2_tryReaching_112 rfl ?_
              refine g_if_eq (tgt := 119) dX2_tryReaching_114 (by decide) (fun c31 => ?_) (fun c31 => ?_)
              · have zc31 := zx27 c31
                refine g_iinc (v := i5 + 1) dX2_tryReaching_119 rfl rfl (by decide) ?_
                refine g_pick (lv' := [(0, .ref (uk_ad G 46)), (1, .ref (uk_ad G 13)), (2, .int m), (3, .int n), (4, .int g), (5, .int 0), (6, .int (i5 + 1)), (7, .int x27)]) [0, 1, 2, 3, 4, 5, 6, 7] rfl ?_
                refine g_goto (tgt := 39) dX2_tryReaching_122 (by decide) ?_
                refine g_pick (lv' := [(0, .ref (uk_ad G 46)), (1, .ref (uk_ad G 13)), (2, .int m), (3, .int n), (4, .int g), (5, .int 0), (6, .int (i5 + 1))]) [0, 1, 2, 3, 4, 5, 6] rfl ?_
                exact ihi5 (by first | lia | grind)  u29 hu29 fu29  ⟨ki5, ee_Fs fki5 (by first | assumption | lia | grind), by subst eu29; subst eu25; subst ex27; subst ex23; subst eu21; subst eu19; subst ex14; subst ex9; subst ex7; exact hki5.trans ((if_neg c10).trans ((if_neg c15).trans ((if_pos c31).trans (rfl))))⟩
              · have zc31 := nx27 c31
                refine g_iconst (v := 1) dX2_tryReaching_117 (by decide) ?_
                exact g_iret (ty := .boolean) dX2_tryReaching_118 rfl rfl ⟨⟨⟨1, rfl, Or.inr rfl, fun _ => by first | trivial | lia | grind, fun q => absurd q (by decide)⟩, hu29, fu29⟩, ee_i (by subst eu29; subst eu25; subst ex27; subst ex23; subst eu21; subst eu19; subst ex14; subst ex9; subst ex7; exact hki5.trans ((if_neg c10).trans ((if_neg c15).trans ((if_neg c31).trans (rfl)))))⟩
            · exact absurd c16 (by decide)
      refine g_pick (lv' := [(0, .ref (uk_ad G 46)), (1, .ref (uk_ad G 13)), (2, .int m), (3, .int n), (4, .int g), (5, .int 0), (6, .int 0)]) [0, 1, 2, 3, 4, 5, 6] rfl ?_
      exact L39_3 0 (by first | decide | lia | grind) (by first | decide | lia | grind)  u hu f0  ⟨ee_K, ee_F0 _ _, by subst ex2; exact (if_pos c1).trans ((if_neg c3).trans (rfl))⟩
    · refine g_iconst (v := 1) dX2_tryReaching_29 (by decide) ?_
      refine g_goto (tgt := 34) dX2_tryReaching_30 (by decide) ?_
      refine g_istore dX2_tryReaching_34 (by decide) ?_
      refine g_pick (lv' := [(0, .ref (uk_ad G 46)), (1, .ref (uk_ad G 13)), (2, .int m), (3, .int n), (4, .int g), (5, .int 1)]) [0, 1, 2, 3, 4, 5] rfl ?_
      refine g_iconst (v := 0) dX2_tryReaching_36 (by decide) ?_
      refine g_istore dX2_tryReaching_37 (by decide) ?_
      refine g_pick (lv' := [(0, .ref (uk_ad G 46)), (1, .ref (uk_ad G 13)), (2, .int m), (3, .int n), (4, .int g), (5, .int 1), (6, .int 0)]) [0, 1, 2, 3, 4, 5, 6] rfl ?_
      have L39_31 : ∀ i33 : Int32, 0 ≤ i33 → i33 ≤ 18 → ∀ (u34 : uk_Mem), iv u34 → fr 13 49 u u34 → (∃ ki33 : Nat, ee_F 18 i33 ki33 ∧ e_X2_tryReaching_4 u m n g = l_X2_tryReaching_4_39_1 m g n ki33 i33 u34) → uk_G G X mX2_tryReaching (d + 7) (qe_X2_tryReaching_4 u m n g) 39 [(0, .ref (uk_ad G 46)), (1, .ref (uk_ad G 13)), (2, .int m), (3, .int n), (4, .int g), (5, .int 1), (6, .int i33)] [] u34 := by
        refine uk_upl 18 ?_
        intro i33 ai33 bi33 ihi33  u34 hu34 fu34 jEi33
        obtain ⟨ki33, fki33, hki33⟩ := jEi33
        obtain ⟨ki33, rfl⟩ := ee_Fp (by first | assumption | lia | grind) fki33
        refine g_iload dX2_tryReaching_39 rfl ?_
        refine g_bipush (v := 10) dX2_tryReaching_41 (by decide) ?_
        refine g_aload_n dX2_tryReaching_43 rfl ?_
        refine f_X2_44 rfl rfl dX2_tryReaching_44 ?_
        refine g_topi (fun x35 ex35 => ?_)
        have rx35 : 0 ≤ x35 ∧ x35 ≤ 8 := by rw [ex35]; exact iv_at hu34 _ _ rfl
        have s36 : u34.1 13 0 = x35 := ex35.symm
        refine g_iadd dX2_tryReaching_47 ?_
        refine g_topi (fun x37 ex37 => ?_)
        refine g_icmp_ge (tgt := 125) dX2_tryReaching_48 (by decide) (fun c38 => ?_) (fun c38 => ?_)
        · refine g_iconst (v := 0) dX2_tryReaching_125 (by decide) ?_
          exact g_iret (ty := .boolean) dX2_tryReaching_126 rfl rfl ⟨⟨⟨0, rfl, Or.inl rfl, fun q => absurd rfl q, fun _ => by first | trivial | lia | grind⟩, hu34, fu34⟩, ee_i (by subst ex37; subst ex35; exact hki33.trans ((if_pos c38).trans (rfl)))⟩
        · refine g_aload_n dX2_tryReaching_51 rfl ?_
          refine g_iload dX2_tryReaching_52 rfl ?_
          refine cl_X2_45 (c := 13) (As := [.int i33]) rfl (x_X0_isAble (G := G) hs hu34 uk_isK13 i33  (d + 4)) rfl (by omega) rfl rfl (Nat.le_of_ble_eq_true rfl) dX2_tryReaching_54 (fun r39 u40 q41 => ?_)
          obtain ⟨q41, Eq41⟩ := q41
          obtain ⟨⟨x42, rfl, tx42, nx42, zx42⟩, mq41⟩ := q41
          rw [mq41]
          have ex42 : x42 = (e_X0_isAble u34 13 i33) := ee_v Eq41
          refine g_if_eq (tgt := 119) dX2_tryReaching_57 (by decide) (fun c43 => ?_) (fun c43 => ?_)
          · have zc43 := zx42 c43
            refine g_iinc (v := i33 + 1) dX2_tryReaching_119 rfl rfl (by decide) ?_
            refine g_pick (lv' := [(0, .ref (uk_ad G 46)), (1, .ref (uk_ad G 13)), (2, .int m), (3, .int n), (4, .int g), (5, .int 1), (6, .int (i33 + 1))]) [0, 1, 2, 3, 4, 5, 6] rfl ?_
            refine g_goto (tgt := 39) dX2_tryReaching_122 (by decide) ?_
            refine g_pick (lv' := [(0, .ref (uk_ad G 46)), (1, .ref (uk_ad G 13)), (2, .int m), (3, .int n), (4, .int g), (5, .int 1), (6, .int (i33 + 1))]) [0, 1, 2, 3, 4, 5, 6] rfl ?_
            exact ihi33 (by first | lia | grind)  u34 hu34 fu34  ⟨ki33, ee_Fs fki33 (by first | assumption | lia | grind), by subst ex42; subst ex37; subst ex35; exact hki33.trans ((if_neg c38).trans ((if_pos c43).trans (rfl)))⟩
          · have zc43 := nx42 c43
            refine g_iload dX2_tryReaching_60 rfl ?_
            refine g_if_eq (tgt := 78) dX2_tryReaching_62 (by decide) (fun c44 => ?_) (fun c44 => ?_)
            · exact absurd c44 (by decide)
            · refine g_aload_n dX2_tryReaching_65 rfl ?_
              refine g_iload dX2_tryReaching_66 rfl ?_
              refine g_iload_n dX2_tryReaching_68 rfl ?_
              refine cl_X2_67 (c := 13) (As := [.int i33, .int m]) rfl (x_X0_brings (G := G) hs hu34 uk_isK13 i33 m (by first | trivial | decide | lia | grind) (d + 5)) rfl (by omega) rfl rfl (Nat.le_of_ble_eq_true rfl) dX2_tryReaching_69 (fun r45 u46 q47 => ?_)
              obtain ⟨q47, Eq47⟩ := q47
              obtain ⟨⟨x48, rfl, tx48, nx48, zx48⟩, mq47⟩ := q47
              rw [mq47]
              have ex48 : x48 = (e_X0_brings u34 13 i33 m) := ee_v Eq47
              refine g_if_ne (tgt := 78) dX2_tryReaching_72 (by decide) (fun c49 => ?_) (fun c49 => ?_)
              · have zc49 := nx48 c49
                refine g_aload_n dX2_tryReaching_78 rfl ?_
                refine f_X2_9 rfl rfl dX2_tryReaching_79 ?_
                refine g_iload dX2_tryReaching_82 rfl ?_
                refine g_iload dX2_tryReaching_84 rfl ?_
                have v50 : vp_in g 4 := uk_vin 4 rfl (by first | decide | lia | grind) (by first | decide | lia | grind)
                have b51 := uk_cl v50
                refine g_iast rfl rfl v50 dX2_tryReaching_86 ?_
                refine g_mem (fun u52 eu52 => ?_)
                have hu52 : iv u52 := by rw [eu52]; exact iv_upF hu34 (uk_pick1 _ (by omega))
                have fu52 : fr 13 49 u u52 := by rw [eu52]; exact fr_up fu34 (by omega) (by omega)
                refine g_aload_n dX2_tryReaching_87 rfl ?_
                refine g_iload dX2_tryReaching_88 rfl ?_
                refine cl_X2_53 (c := 13) (As := [.int i33]) rfl (x_X0_perform (G := G) hs hu52 uk_isK13 i33 (by first | trivial | decide | lia | grind) (d + 4)) rfl (by omega) rfl rfl (Nat.le_of_ble_eq_true rfl) dX2_tryReaching_90 (fun r53 u54 q55 => ?_)
                obtain ⟨q55, Eq55⟩ := q55
                obtain ⟨rfl, mq55⟩ := q55
                obtain ⟨hu54, gu54⟩ := mq55
                have fu54 : fr 13 49 u u54 := fr_tr fu52 gu54 (by omega) (by omega)
                have eu54 : u54 = e_X0_perform u52 13 i33 := Eq55
                refine g_aload_n dX2_tryReaching_93 rfl ?_
                refine g_aload_n dX2_tryReaching_94 rfl ?_
                refine g_iload_n dX2_tryReaching_95 rfl ?_
                refine g_iload_n dX2_tryReaching_96 rfl ?_
                refine g_iload dX2_tryReaching_97 rfl ?_
                refine g_iconst (v := 1) dX2_tryReaching_99 (by decide) ?_
                refine g_iadd dX2_tryReaching_100 ?_
                refine g_topi (fun x56 ex56 => ?_)
                refine cl_X2_60 (c := 46) (As := [.ref (uk_ad G 13), .int m, .int n, .int x56]) rfl (x_X2_tryReaching_3 (G := G) hs hu54  m n x56 (by first | trivial | decide | lia | grind) (by first | trivial | decide | lia | grind) (by first | trivial | decide | lia | grind) (by first | trivial | decide | lia | grind) (by first | trivial | decide | lia | grind) (by first | trivial | decide | lia | grind) (d)) rfl (by omega) rfl rfl (Nat.le_of_ble_eq_true rfl) dX2_tryReaching_101 (fun r57 u58 q59 => ?_)
                obtain ⟨q59, Eq59⟩ := q59
                obtain ⟨⟨x60, rfl, tx60, nx60, zx60⟩, mq59⟩ := q59
                obtain ⟨hu58, gu58⟩ := mq59
                have fu58 : fr 13 49 u u58 := fr_tr fu54 gu58 (by omega) (by omega)
                have ex60 : x60 = (e_X2_tryReaching_3 u54 m n x56).1 := ee_v Eq59.1
                have eu58 : u58 = (e_X2_tryReaching_3 u54 m n x56).2 := Eq59.2
                refine g_istore dX2_tryReaching_104 (by decide) ?_
                refine g_pick (lv' := [(0, .ref (uk_ad G 46)), (1, .ref (uk_ad G 13)), (2, .int m), (3, .int n), (4, .int g), (5, .int 1), (6, .int i33), (7, .int x60)]) [0, 1, 2, 3, 4, 5, 6, 7] rfl ?_
                refine g_aload_n dX2_tryReaching_106 rfl ?_
                refine g_iload dX2_tryReaching_107 rfl ?_
                refine cl_X2_57 (c := 13) (As := [.int i33]) rfl (x_X0_undo (G := G) hs hu58 uk_isK13 i33 (by first | trivial | decide | lia | grind) (d + 4)) rfl (by omega) rfl rfl (Nat.le_of_ble_eq_true rfl) dX2_tryReaching_109 (fun r61 u62 q63 => ?_)
                obtain ⟨q63, Eq63⟩ := q63
                obtain ⟨rfl, mq63⟩ := q63
                obtain ⟨hu62, gu62⟩ := mq63
                have fu62 : fr 13 49 u u62 := fr_tr fu58 gu62 (by omega) (by omega)
                have eu62 : u62 = e_X0_undo u58 13 i33 := Eq63
                refine g_iload dX2_tryReaching_112 rfl ?_
                refine g_if_eq (tgt := 119) dX2_tryReaching_114 (by decide) (fun c64 => ?_) (fun c64 => ?_)
                · have zc64 := zx60 c64
                  refine g_iinc (v := i33 + 1) dX2_tryReaching_119 rfl rfl (by decide) ?_
                  refine g_pick (lv' := [(0, .ref (uk_ad G 46)), (1, .ref (uk_ad G 13)), (2, .int m), (3, .int n), (4, .int g), (5, .int 1), (6, .int (i33 + 1)), (7, .int x60)]) [0, 1, 2, 3, 4, 5, 6, 7] rfl ?_
                  refine g_goto (tgt := 39) dX2_tryReaching_122 (by decide) ?_
                  refine g_pick (lv' := [(0, .ref (uk_ad G 46)), (1, .ref (uk_ad G 13)), (2, .int m), (3, .int n), (4, .int g), (5, .int 1), (6, .int (i33 + 1))]) [0, 1, 2, 3, 4, 5, 6] rfl ?_
                  exact ihi33 (by first | lia | grind)  u62 hu62 fu62  ⟨ki33, ee_Fs fki33 (by first | assumption | lia | grind), by subst eu62; subst eu58; subst ex60; subst ex56; subst eu54; subst eu52; subst ex48; subst ex42; subst ex37; subst ex35; exact hki33.trans ((if_neg c38).trans ((if_neg c43).trans ((if_neg c49).trans ((if_pos c64).trans (rfl)))))⟩
                · have zc64 := nx60 c64
                  refine g_iconst (v := 1) dX2_tryReaching_117 (by decide) ?_
                  exact g_iret (ty := .boolean) dX2_tryReaching_118 rfl rfl ⟨⟨⟨1, rfl, Or.inr rfl, fun _ => by first | trivial | lia | grind, fun q => absurd q (by decide)⟩, hu62, fu62⟩, ee_i (by subst eu62; subst eu58; subst ex60; subst ex56; subst eu54; subst eu52; subst ex48; subst ex42; subst ex37; subst ex35; exact hki33.trans ((if_neg c38).trans ((if_neg c43).trans ((if_neg c49).trans ((if_neg c64).trans (rfl))))))⟩
              · have zc49 := zx48 c49
                refine g_goto (tgt := 119) dX2_tryReaching_75 (by decide) ?_
                refine g_iinc (v := i33 + 1) dX2_tryReaching_119 rfl rfl (by decide) ?_
                refine g_pick (lv' := [(0, .ref (uk_ad G 46)), (1, .ref (uk_ad G 13)), (2, .int m), (3, .int n), (4, .int g), (5, .int 1), (6, .int (i33 + 1))]) [0, 1, 2, 3, 4, 5, 6] rfl ?_
                refine g_goto (tgt := 39) dX2_tryReaching_122 (by decide) ?_
                refine g_pick (lv' := [(0, .ref (uk_ad G 46)), (1, .ref (uk_ad G 13)), (2, .int m), (3, .int n), (4, .int g), (5, .int 1), (6, .int (i33 + 1))]) [0, 1, 2, 3, 4, 5, 6] rfl ?_
                exact ihi33 (by first | lia | grind)  u34 hu34 fu34  ⟨ki33, ee_Fs fki33 (by first | assumption | lia | grind), by subst ex48; subst ex42; subst ex37; subst ex35; exact hki33.trans ((if_neg c38).trans ((if_neg c43).trans ((if_pos c49).trans (rfl))))⟩
      refine g_pick (lv' := [(0, .ref (uk_ad G 46)), (1, .ref (uk_ad G 13)), (2, .int m), (3, .int n), (4, .int g), (5, .int 1), (6, .int 0)]) [0, 1, 2, 3, 4, 5, 6] rfl ?_
      exact L39_31 0 (by first | decide | lia | grind) (by first | decide | lia | grind)  u hu f0  ⟨ee_K, ee_F0 _ _, by subst ex2; exact (if_pos c1).trans ((if_pos c3).trans (rfl))⟩
  · refine g_aload_n dX2_tryReaching_6 rfl ?_
    refine f_X2_64 rfl rfl dX2_tryReaching_7 ?_
    refine g_iload_n dX2_tryReaching_10 rfl ?_
    have v65 : vp_in m 8 := uk_vin 8 rfl (by first | decide | lia | grind) (by first | decide | lia | grind)
    refine g_iald rfl rfl v65 dX2_tryReaching_11 ?_
    refine g_topi (fun x66 ex66 => ?_)
    refine g_if_le (tgt := 19) dX2_tryReaching_12 (by decide) (fun c67 => ?_) (fun c67 => ?_)
    · refine g_iconst (v := 0) dX2_tryReaching_19 (by decide) ?_
      exact g_iret (ty := .boolean) dX2_tryReaching_20 rfl rfl ⟨⟨⟨0, rfl, Or.inl rfl, fun q => absurd rfl q, fun _ => by first | trivial | lia | grind⟩, hu, f0⟩, ee_i (by subst ex66; exact (if_neg c1).trans ((if_pos c67).trans (rfl)))⟩
    · refine g_iconst (v := 1) dX2_tryReaching_15 (by decide) ?_
      refine g_goto (tgt := 20) dX2_tryReaching_16 (by decide) ?_
      exact g_iret (ty := .boolean) dX2_tryReaching_20 rfl rfl ⟨⟨⟨1, rfl, Or.inr rfl, fun _ => by first | trivial | lia | grind, fun q => absurd q (by decide)⟩, hu, f0⟩, ee_i (by subst ex66; exact (if_neg c1).trans ((if_neg c67).trans (rfl)))⟩
def e_X2_tryReaching (u : uk_Mem) (m : Int32) (n : Int32) (g : Int32) : Int32 × uk_Mem := if g = n then e_X2_tryReaching_0 u m n g else if g + 1 = n then e_X2_tryReaching_1 u m n g else if g + 2 = n then e_X2_tryReaching_2 u m n g else if g + 3 = n then e_X2_tryReaching_3 u m n g else e_X2_tryReaching_4 u m n g
abbrev qe_X2_tryReaching (u : uk_Mem) (m : Int32) (n : Int32) (g : Int32) (r : Option Value) (u' : uk_Mem) : Prop := (q_X2_tryReaching u m n g r u') ∧ (r = some (.int (e_X2_tryReaching u m n g).1) ∧ u' = (e_X2_tryReaching u m n g).2)
theorem x_X2_tryReaching {G : uk_D} (hs : uk_Sep G) {u : uk_Mem} (hu : iv u) (m : Int32) (n : Int32) (g : Int32) (p0 : 0 ≤ m) (p1 : m ≤ 7) (p2 : 0 ≤ g) (p3 : g ≤ n) (p4 : n ≤ 4) (d : Nat) : uk_Meth G (d + 7) mX2_tryReaching [.ref (uk_ad G 46), .ref (uk_ad G 13), .int m, .int n, .int g] u (qe_X2_tryReaching u m n g) := by
  have hc : g = n ∨ g + 1 = n ∨ g + 2 = n ∨ g + 3 = n ∨ g + 4 = n := by grind
  rcases hc with q | q | q | q | q
  · have e : e_X2_tryReaching u m n g = e_X2_tryReaching_0 u m n g := by
      unfold e_X2_tryReaching
      rw [if_pos q]
    exact uk_Meth.imp (x_X2_tryReaching_0 hs hu m n g p0 p1 p2 (by grind) p4 q (d + 4)) (fun r u' h => ⟨h.1, by rw [e]; exact h.2⟩)
  · have e : e_X2_tryReaching u m n g = e_X2_tryReaching_1 u m n g := by
      unfold e_X2_tryReaching
      rw [if_neg (by grind)]
      rw [if_pos q]
    exact uk_Meth.imp (x_X2_tryReaching_1 hs hu m n g p0 p1 p2 (by grind) p4 q (d + 3)) (fun r u' h => ⟨h.1, by rw [e]; exact h.2⟩)
  · have e : e_X2_tryReaching u m n g = e_X2_tryReaching_2 u m n g := by
      unfold e_X2_tryReaching
      rw [if_neg (by grind)]
      rw [if_neg (by grind)]
      rw [if_pos q]
    exact uk_Meth.imp (x_X2_tryReaching_2 hs hu m n g p0 p1 p2 (by grind) p4 q (d + 2)) (fun r u' h => ⟨h.1, by rw [e]; exact h.2⟩)
  · have e : e_X2_tryReaching u m n g = e_X2_tryReaching_3 u m n g := by
      unfold e_X2_tryReaching
      rw [if_neg (by grind)]
      rw [if_neg (by grind)]
      rw [if_neg (by grind)]
      rw [if_pos q]
    exact uk_Meth.imp (x_X2_tryReaching_3 hs hu m n g p0 p1 p2 (by grind) p4 q (d + 1)) (fun r u' h => ⟨h.1, by rw [e]; exact h.2⟩)
  · have e : e_X2_tryReaching u m n g = e_X2_tryReaching_4 u m n g := by
      unfold e_X2_tryReaching
      rw [if_neg (by grind)]
      rw [if_neg (by grind)]
      rw [if_neg (by grind)]
      rw [if_neg (by grind)]
    exact uk_Meth.imp (x_X2_tryReaching_4 hs hu m n g p0 p1 p2 (by grind) p4 q (d + 0)) (fun r u' h => ⟨h.1, by rw [e]; exact h.2⟩)
def l_X2_findRichest_29 (n : Int32) (x15 : Int32) : Nat → Int32 → uk_Mem → uk_Mem
  | 0, _, u18 => u18
  | K9 + 1, i17, u18 => if n < i17 then (u18) else (let u21 : uk_Mem := e_X2_tryRicher u18 i17 (0 : Int32) x15; l_X2_findRichest_29 n x15 K9 (i17 + 1) u21)
def e_X2_findRichest (u : uk_Mem) (n : Int32) : uk_Mem := let u1 : uk_Mem := uk_up u 46 2 (0 : Int32); let x6 : Int32 := (e_X0_allFeeds u1 13); let u7 : uk_Mem := uk_up u1 46 3 x6; let x12 : Int32 := (e_X0_gainBound u7 13); let u13 : uk_Mem := uk_up u7 46 4 x12; let x15 : Int32 := u13.1 46 3; l_X2_findRichest_29 n x15 ee_K (1 : Int32) u13
abbrev qe_X2_findRichest (u : uk_Mem) (n : Int32) (r : Option Value) (u' : uk_Mem) : Prop := (q_X2_findRichest u n r u') ∧ (u' = e_X2_findRichest u n)
set_option maxHeartbeats 4000000 in
set_option maxRecDepth 20000 in
theorem x_X2_findRichest {G : uk_D} (hs : uk_Sep G) {u : uk_Mem} (hu : iv u) (n : Int32) (p0 : 0 ≤ n) (p1 : n ≤ 4) (d : Nat) : uk_Meth G (d + 8) mX2_findRichest [.ref (uk_ad G 46), .ref (uk_ad G 13), .int n] u (qe_X2_findRichest u n) := by
  refine uk_Meth.of hs (by decide) (Nat.le_of_ble_eq_true rfl) (fun X => ?_)
  have f0 : fr 13 49 u u := fr_rf
  refine g_aload_n dX2_findRichest_0 rfl ?_
  refine g_iconst (v := 0) dX2_findRichest_1 (by decide) ?_
  refine p_X2_18 rfl rfl dX2_findRichest_2 ?_
  refine g_mem (fun u1 eu1 => ?_)
  have hu1 : iv u1 := by rw [eu1]; exact iv_up hu rfl (by first | lia | grind) (by first | lia | grind)
  have fu1 : fr 13 49 u u1 := by rw [eu1]; exact fr_up f0 (by omega) (by omega)
  have s2 : u1.1 46 2 = 0 := by rw [eu1, uk_up_at]; exact if_pos ⟨rfl, rfl⟩
  refine g_aload_n dX2_findRichest_5 rfl ?_
  refine g_aload_n dX2_findRichest_6 rfl ?_
  refine cl_X2_28 (c := 13) (As := []) rfl (x_X0_allFeeds (G := G) hs hu1 uk_isK13   (d + 7)) rfl (by omega) rfl rfl (Nat.le_of_ble_eq_true rfl) dX2_findRichest_7 (fun r3 u4 q5 => ?_)
  obtain ⟨q5, Eq5⟩ := q5
  obtain ⟨⟨x6, rfl, tx6⟩, mq5⟩ := q5
  rw [mq5]
  have ex6 : x6 = (e_X0_allFeeds u1 13) := ee_v Eq5
  refine p_X2_22 rfl rfl dX2_findRichest_10 ?_
  refine g_mem (fun u7 eu7 => ?_)
  have hu7 : iv u7 := by rw [eu7]; exact iv_upF hu1 rfl
  have fu7 : fr 13 49 u u7 := by rw [eu7]; exact fr_up fu1 (by omega) (by omega)
  have s8 : u7.1 46 3 = x6 := by rw [eu7, uk_up_at]; exact if_pos ⟨rfl, rfl⟩
  refine g_aload_n dX2_findRichest_13 rfl ?_
  refine g_aload_n dX2_findRichest_14 rfl ?_
  refine cl_X2_34 (c := 13) (As := []) rfl (x_X0_gainBound (G := G) hs hu7 uk_isK13   (d + 5)) rfl (by omega) rfl rfl (Nat.le_of_ble_eq_true rfl) dX2_findRichest_15 (fun r9 u10 q11 => ?_)
  obtain ⟨q11, Eq11⟩ := q11
  obtain ⟨⟨x12, rfl, tx12⟩, mq11⟩ := q11
  rw [mq11]
  have ex12 : x12 = (e_X0_gainBound u7 13) := ee_v Eq11
  refine p_X2_25 rfl rfl dX2_findRichest_18 ?_
  refine g_mem (fun u13 eu13 => ?_)
  have hu13 : iv u13 := by rw [eu13]; exact iv_upF hu7 rfl
  have fu13 : fr 13 49 u u13 := by rw [eu13]; exact fr_up fu7 (by omega) (by omega)
  have s14 : u13.1 46 4 = x12 := by rw [eu13, uk_up_at]; exact if_pos ⟨rfl, rfl⟩
  refine g_aload_n dX2_findRichest_21 rfl ?_
  refine f_X2_22 rfl rfl dX2_findRichest_22 ?_
  refine g_topi (fun x15 ex15 => ?_)
  have qx15 : x15 = x6 := by rw [ex15]; simp [eu13, uk_up_at, s8]
  refine g_istore_n dX2_findRichest_25 (by decide) ?_
  refine g_pick (lv' := [(0, .ref (uk_ad G 46)), (1, .ref (uk_ad G 13)), (2, .int n), (3, .int x15)]) [0, 1, 2, 3] rfl ?_
  refine g_iconst (v := 1) dX2_findRichest_26 (by decide) ?_
  refine g_istore dX2_findRichest_27 (by decide) ?_
  refine g_pick (lv' := [(0, .ref (uk_ad G 46)), (1, .ref (uk_ad G 13)), (2, .int n), (3, .int x15), (4, .int 1)]) [0, 1, 2, 3, 4] rfl ?_
  have L29_15 : ∀ i17 : Int32, 0 ≤ i17 → i17 ≤ 5 → ∀ (u18 : uk_Mem), iv u18 → fr 13 49 u u18 → 1 ≤ i17 → (∃ ki17 : Nat, ee_F 5 i17 ki17 ∧ e_X2_findRichest u n = l_X2_findRichest_29 n x15 ki17 i17 u18) → uk_G G X mX2_findRichest (d + 8) (qe_X2_findRichest u n) 29 [(0, .ref (uk_ad G 46)), (1, .ref (uk_ad G 13)), (2, .int n), (3, .int x15), (4, .int i17)] [] u18 := by
    refine uk_upl 5 ?_
    intro i17 ai17 bi17 ihi17  u18 hu18 fu18 ji170 jEi17
    obtain ⟨ki17, fki17, hki17⟩ := jEi17
    obtain ⟨ki17, rfl⟩ := ee_Fp (by first | assumption | lia | grind) fki17
    refine g_iload dX2_findRichest_29 rfl ?_
    refine g_iload_n dX2_findRichest_31 rfl ?_
    refine g_icmp_gt (tgt := 50) dX2_findRichest_32 (by decide) (fun c19 => ?_) (fun c19 => ?_)
    · exact g_vret dX2_findRichest_50 rfl ⟨⟨rfl, hu18, fu18⟩, (by exact hki17.trans ((if_pos c19).trans (rfl)) : e_X2_findRichest u n = u18).symm⟩
    · refine g_aload_n dX2_findRichest_35 rfl ?_
      refine g_aload_n dX2_findRichest_36 rfl ?_
      refine g_iload dX2_findRichest_37 rfl ?_
      refine g_iconst (v := 0) dX2_findRichest_39 (by decide) ?_
      refine g_iload_n dX2_findRichest_40 rfl ?_
      refine cl_X2_36 (c := 46) (As := [.ref (uk_ad G 13), .int i17, .int 0, .int x15]) rfl (x_X2_tryRicher (G := G) hs hu18  i17 0 x15 (by first | trivial | decide | lia | grind) (by first | trivial | decide | lia | grind) (by first | trivial | decide | lia | grind) (d)) rfl (by omega) rfl rfl (Nat.le_of_ble_eq_true rfl) dX2_findRichest_41 (fun r20 u21 q22 => ?_)
      obtain ⟨q22, Eq22⟩ := q22
      obtain ⟨rfl, mq22⟩ := q22
      obtain ⟨hu21, gu21⟩ := mq22
      have fu21 : fr 13 49 u u21 := fr_tr fu18 gu21 (by omega) (by omega)
      have eu21 : u21 = e_X2_tryRicher u18 i17 (0 : Int32) x15 := Eq22
      refine g_iinc (v := i17 + 1) dX2_findRichest_44 rfl rfl (by decide) ?_
      refine g_pick (lv' := [(0, .ref (uk_ad G 46)), (1, .ref (uk_ad G 13)), (2, .int n), (3, .int x15), (4, .int (i17 + 1))]) [0, 1, 2, 3, 4] rfl ?_
      refine g_goto (tgt := 29) dX2_findRichest_47 (by decide) ?_
      refine g_pick (lv' := [(0, .ref (uk_ad G 46)), (1, .ref (uk_ad G 13)), (2, .int n), (3, .int x15), (4, .int (i17 + 1))]) [0, 1, 2, 3, 4] rfl ?_
      exact ihi17 (by first | lia | grind)  u21 hu21 fu21 (by first | trivial | lia | grind) ⟨ki17, ee_Fs fki17 (by first | assumption | lia | grind), by subst eu21; exact hki17.trans ((if_neg c19).trans (rfl))⟩
  refine g_pick (lv' := [(0, .ref (uk_ad G 46)), (1, .ref (uk_ad G 13)), (2, .int n), (3, .int x15), (4, .int 1)]) [0, 1, 2, 3, 4] rfl ?_
  exact L29_15 1 (by first | decide | lia | grind) (by first | decide | lia | grind)  u13 hu13 fu13 (by first | trivial | lia | grind) ⟨ee_K, ee_F0 _ _, by subst ex15; subst eu13; subst ex12; subst eu7; subst ex6; subst eu1; exact rfl⟩
def l_X2_findFewest_2 (m : Int32) : Nat → Int32 → uk_Mem → Int32 × uk_Mem
  | 0, _, u3 => (0, u3)
  | K9 + 1, i2, u3 => if (4 : Int32) < i2 then (((0 : Int32), u3)) else (let x8 : Int32 := (e_X2_tryReaching u3 m i2 (0 : Int32)).1; let u6 : uk_Mem := (e_X2_tryReaching u3 m i2 (0 : Int32)).2; if x8 = 0 then (l_X2_findFewest_2 m K9 (i2 + 1) u6) else (let u11 : uk_Mem := e_X2_keepPath u6 i2 (0 : Int32); ((1 : Int32), u11)))
def e_X2_findFewest (u : uk_Mem) (m : Int32) : Int32 × uk_Mem := l_X2_findFewest_2 m ee_K (0 : Int32) u
abbrev qe_X2_findFewest (u : uk_Mem) (m : Int32) (r : Option Value) (u' : uk_Mem) : Prop := (q_X2_findFewest u m r u') ∧ (r = some (.int (e_X2_findFewest u m).1) ∧ u' = (e_X2_findFewest u m).2)
set_option maxHeartbeats 4000000 in
set_option maxRecDepth 20000 in
theorem x_X2_findFewest {G : uk_D} (hs : uk_Sep G) {u : uk_Mem} (hu : iv u) (m : Int32) (p0 : 0 ≤ m) (p1 : m ≤ 7) (d : Nat) : uk_Meth G (d + 8) mX2_findFewest [.ref (uk_ad G 46), .ref (uk_ad G 13), .int m] u (qe_X2_findFewest u m) := by
  refine uk_Meth.of hs (by decide) (Nat.le_of_ble_eq_true rfl) (fun X => ?_)
  have f0 : fr 13 49 u u := fr_rf
  refine g_iconst (v := 0) dX2_findFewest_0 (by decide) ?_
  refine g_istore_n dX2_findFewest_1 (by decide) ?_
  refine g_pick (lv' := [(0, .ref (uk_ad G 46)), (1, .ref (uk_ad G 13)), (2, .int m), (3, .int 0)]) [0, 1, 2, 3] rfl ?_
  have L2_0 : ∀ i2 : Int32, 0 ≤ i2 → i2 ≤ 5 → ∀ (u3 : uk_Mem), iv u3 → fr 13 49 u u3 → (∃ ki2 : Nat, ee_F 5 i2 ki2 ∧ e_X2_findFewest u m = l_X2_findFewest_2 m ki2 i2 u3) → uk_G G X mX2_findFewest (d + 8) (qe_X2_findFewest u m) 2 [(0, .ref (uk_ad G 46)), (1, .ref (uk_ad G 13)), (2, .int m), (3, .int i2)] [] u3 := by
    refine uk_upl 5 ?_
    intro i2 ai2 bi2 ihi2  u3 hu3 fu3 jEi2
    obtain ⟨ki2, fki2, hki2⟩ := jEi2
    obtain ⟨ki2, rfl⟩ := ee_Fp (by first | assumption | lia | grind) fki2
    refine g_iload_n dX2_findFewest_2 rfl ?_
    refine g_iconst (v := 4) dX2_findFewest_3 (by decide) ?_
    refine g_icmp_gt (tgt := 32) dX2_findFewest_4 (by decide) (fun c4 => ?_) (fun c4 => ?_)
    · refine g_iconst (v := 0) dX2_findFewest_32 (by decide) ?_
      exact g_iret (ty := .boolean) dX2_findFewest_33 rfl rfl ⟨⟨⟨0, rfl, Or.inl rfl, fun q => absurd rfl q, fun _ => by first | trivial | lia | grind⟩, hu3, fu3⟩, ee_i (by exact hki2.trans ((if_pos c4).trans (rfl)))⟩
    · refine g_aload_n dX2_findFewest_7 rfl ?_
      refine g_aload_n dX2_findFewest_8 rfl ?_
      refine g_iload_n dX2_findFewest_9 rfl ?_
      refine g_iload_n dX2_findFewest_10 rfl ?_
      refine g_iconst (v := 0) dX2_findFewest_11 (by decide) ?_
      refine cl_X2_60 (c := 46) (As := [.ref (uk_ad G 13), .int m, .int i2, .int 0]) rfl (x_X2_tryReaching (G := G) hs hu3  m i2 0 (by first | trivial | decide | lia | grind) (by first | trivial | decide | lia | grind) (by first | trivial | decide | lia | grind) (by first | trivial | decide | lia | grind) (by first | trivial | decide | lia | grind) (d)) rfl (by omega) rfl rfl (Nat.le_of_ble_eq_true rfl) dX2_findFewest_12 (fun r5 u6 q7 => ?_)
      obtain ⟨q7, Eq7⟩ := q7
      obtain ⟨⟨x8, rfl, tx8, nx8, zx8⟩, mq7⟩ := q7
      obtain ⟨hu6, gu6⟩ := mq7
      have fu6 : fr 13 49 u u6 := fr_tr fu3 gu6 (by omega) (by omega)
      have ex8 : x8 = (e_X2_tryReaching u3 m i2 (0 : Int32)).1 := ee_v Eq7.1
      have eu6 : u6 = (e_X2_tryReaching u3 m i2 (0 : Int32)).2 := Eq7.2
      refine g_if_eq (tgt := 26) dX2_findFewest_15 (by decide) (fun c9 => ?_) (fun c9 => ?_)
      · have zc9 := zx8 c9
        refine g_iinc (v := i2 + 1) dX2_findFewest_26 rfl rfl (by decide) ?_
        refine g_pick (lv' := [(0, .ref (uk_ad G 46)), (1, .ref (uk_ad G 13)), (2, .int m), (3, .int (i2 + 1))]) [0, 1, 2, 3] rfl ?_
        refine g_goto (tgt := 2) dX2_findFewest_29 (by decide) ?_
        refine g_pick (lv' := [(0, .ref (uk_ad G 46)), (1, .ref (uk_ad G 13)), (2, .int m), (3, .int (i2 + 1))]) [0, 1, 2, 3] rfl ?_
        exact ihi2 (by first | lia | grind)  u6 hu6 fu6  ⟨ki2, ee_Fs fki2 (by first | assumption | lia | grind), by subst eu6; subst ex8; exact hki2.trans ((if_neg c4).trans ((if_pos c9).trans (rfl)))⟩
      · have zc9 := nx8 c9
        refine g_aload_n dX2_findFewest_18 rfl ?_
        refine g_iload_n dX2_findFewest_19 rfl ?_
        refine g_iconst (v := 0) dX2_findFewest_20 (by decide) ?_
        refine cl_X2_40 (c := 46) (As := [.int i2, .int 0]) rfl (x_X2_keepPath (G := G) hs hu6  i2 0 (by first | trivial | decide | lia | grind) (by first | trivial | decide | lia | grind) (d + 7)) rfl (by omega) rfl rfl (Nat.le_of_ble_eq_true rfl) dX2_findFewest_21 (fun r10 u11 q12 => ?_)
        obtain ⟨q12, Eq12⟩ := q12
        obtain ⟨rfl, mq12⟩ := q12
        obtain ⟨hu11, gu11⟩ := mq12
        have fu11 : fr 13 49 u u11 := fr_tr fu6 gu11 (by omega) (by omega)
        have eu11 : u11 = e_X2_keepPath u6 i2 (0 : Int32) := Eq12
        refine g_iconst (v := 1) dX2_findFewest_24 (by decide) ?_
        exact g_iret (ty := .boolean) dX2_findFewest_25 rfl rfl ⟨⟨⟨1, rfl, Or.inr rfl, fun _ => by first | trivial | lia | grind, fun q => absurd q (by decide)⟩, hu11, fu11⟩, ee_i (by subst eu11; subst eu6; subst ex8; exact hki2.trans ((if_neg c4).trans ((if_neg c9).trans (rfl))))⟩
  refine g_pick (lv' := [(0, .ref (uk_ad G 46)), (1, .ref (uk_ad G 13)), (2, .int m), (3, .int 0)]) [0, 1, 2, 3] rfl ?_
  exact L2_0 0 (by first | decide | lia | grind) (by first | decide | lia | grind)  u hu f0  ⟨ee_K, ee_F0 _ _, by exact rfl⟩
def e_X6_best (u : uk_Mem) (k : Int32) (w : Int32) : Int32 × uk_Mem := if k < 0 then (((-1 : Int32), u)) else (if (4 : Int32) < k then (((-1 : Int32), u)) else (if w = 0 then (let u5 : uk_Mem := e_X2_findRichest u k; if w = 0 then (let x16 : Int32 := u5.1 46 3; (x16, u5)) else (if w = (1 : Int32) then (let x14 : Int32 := u5.1 46 2; (x14, u5)) else (let x9 : Int32 := w - (10 : Int32); let x13 : Int32 := (e_X2_doingAt u5 x9); (x13, u5)))) else (if w = (1 : Int32) then (let u20 : uk_Mem := e_X2_findRichest u k; if w = 0 then (let x31 : Int32 := u20.1 46 3; (x31, u20)) else (if w = (1 : Int32) then (let x29 : Int32 := u20.1 46 2; (x29, u20)) else (let x24 : Int32 := w - (10 : Int32); let x28 : Int32 := (e_X2_doingAt u20 x24); (x28, u20)))) else (if (10 : Int32) ≤ w then (let u35 : uk_Mem := e_X2_findRichest u k; if w = 0 then (let x46 : Int32 := u35.1 46 3; (x46, u35)) else (if w = (1 : Int32) then (let x44 : Int32 := u35.1 46 2; (x44, u35)) else (let x39 : Int32 := w - (10 : Int32); let x43 : Int32 := (e_X2_doingAt u35 x39); (x43, u35)))) else (((-1 : Int32), u))))))
abbrev qe_X6_best (u : uk_Mem) (k : Int32) (w : Int32) (r : Option Value) (u' : uk_Mem) : Prop := (q_X6_best u k w r u') ∧ (r = some (.int (e_X6_best u k w).1) ∧ u' = (e_X6_best u k w).2)
set_option maxHeartbeats 4000000 in
set_option maxRecDepth 20000 in
theorem x_X6_best {G : uk_D} (hs : uk_Sep G) {u : uk_Mem} (hu : iv u) (k : Int32) (w : Int32) (d : Nat) : uk_Meth G (d + 9) mX6_best [.ref (uk_ad G 0), .int k, .int w] u (qe_X6_best u k w) := by
  refine uk_Meth.of hs (by decide) (Nat.le_of_ble_eq_true rfl) (fun X => ?_)
  have f0 : fr 13 49 u u := fr_rf
  refine g_iload_n dX6_best_0 rfl ?_
  refine g_if_lt (tgt := 24) dX6_best_1 (by decide) (fun c1 => ?_) (fun c1 => ?_)
  · refine g_iconst (v := (-1)) dX6_best_24 (by decide) ?_
    exact g_iret (ty := .int) dX6_best_25 rfl rfl ⟨⟨⟨_, rfl, by first | trivial | lia | grind⟩, hu, f0⟩, ee_i (by exact (if_pos c1).trans (rfl))⟩
  · refine g_iload_n dX6_best_4 rfl ?_
    refine g_iconst (v := 4) dX6_best_5 (by decide) ?_
    refine g_icmp_gt (tgt := 24) dX6_best_6 (by decide) (fun c2 => ?_) (fun c2 => ?_)
    · refine g_iconst (v := (-1)) dX6_best_24 (by decide) ?_
      exact g_iret (ty := .int) dX6_best_25 rfl rfl ⟨⟨⟨_, rfl, by first | trivial | lia | grind⟩, hu, f0⟩, ee_i (by exact (if_neg c1).trans ((if_pos c2).trans (rfl)))⟩
    · refine g_iload_n dX6_best_9 rfl ?_
      refine g_if_eq (tgt := 26) dX6_best_10 (by decide) (fun c3 => ?_) (fun c3 => ?_)
      · refine g_aload_n dX6_best_26 rfl ?_
        refine f_X6_55 rfl rfl dX6_best_27 ?_
        refine g_aload_n dX6_best_30 rfl ?_
        refine f_X6_10 rfl rfl dX6_best_31 ?_
        refine g_iload_n dX6_best_34 rfl ?_
        refine cl_X6_208 (c := 46) (As := [.ref (uk_ad G 13), .int k]) rfl (x_X2_findRichest (G := G) hs hu  k (by first | trivial | decide | lia | grind) (by first | trivial | decide | lia | grind) (d)) rfl (by omega) rfl rfl (Nat.le_of_ble_eq_true rfl) dX6_best_35 (fun r4 u5 q6 => ?_)
        obtain ⟨q6, Eq6⟩ := q6
        obtain ⟨rfl, mq6⟩ := q6
        obtain ⟨hu5, gu5⟩ := mq6
        have fu5 : fr 13 49 u u5 := fr_tr f0 gu5 (by omega) (by omega)
        have eu5 : u5 = e_X2_findRichest u k := Eq6
        refine g_iload_n dX6_best_38 rfl ?_
        refine g_if_ne (tgt := 50) dX6_best_39 (by decide) (fun c7 => ?_) (fun c7 => ?_)
        · refine g_iload_n dX6_best_50 rfl ?_
          refine g_iconst (v := 1) dX6_best_51 (by decide) ?_
          refine g_icmp_ne (tgt := 65) dX6_best_52 (by decide) (fun c8 => ?_) (fun c8 => ?_)
          · refine g_aload_n dX6_best_65 rfl ?_
            refine f_X6_55 rfl rfl dX6_best_66 ?_
            refine g_iload_n dX6_best_69 rfl ?_
            refine g_bipush (v := 10) dX6_best_70 (by decide) ?_
            refine g_isub dX6_best_72 ?_
            refine g_topi (fun x9 ex9 => ?_)
            refine cl_X6_216 (c := 46) (As := [.int x9]) rfl (x_X2_doingAt (G := G) hs hu5  x9  (d + 8)) rfl (by omega) rfl rfl (Nat.le_of_ble_eq_true rfl) dX6_best_73 (fun r10 u11 q12 => ?_)
            obtain ⟨q12, Eq12⟩ := q12
            obtain ⟨⟨x13, rfl, tx13⟩, mq12⟩ := q12
            rw [mq12]
            have ex13 : x13 = (e_X2_doingAt u5 x9) := ee_v Eq12
            exact g_iret (ty := .int) dX6_best_76 rfl rfl ⟨⟨⟨_, rfl, by first | trivial | lia | grind⟩, hu5, fu5⟩, ee_i (by subst ex13; subst ex9; subst eu5; exact (if_neg c1).trans ((if_neg c2).trans ((if_pos c3).trans ((if_neg c7).trans ((if_neg c8).trans (rfl))))))⟩
          · refine g_aload_n dX6_best_55 rfl ?_
            refine f_X6_55 rfl rfl dX6_best_56 ?_
            refine f_X6_215 rfl rfl dX6_best_59 ?_
            refine g_topi (fun x14 ex14 => ?_)
            have rx14 : 0 ≤ x14 ∧ x14 ≤ 4 := by rw [ex14]; exact iv_at hu5 _ _ rfl
            have s15 : u5.1 46 2 = x14 := ex14.symm
            refine g_goto (tgt := 76) dX6_best_62 (by decide) ?_
            exact g_iret (ty := .int) dX6_best_76 rfl rfl ⟨⟨⟨_, rfl, by first | trivial | lia | grind⟩, hu5, fu5⟩, ee_i (by subst ex14; subst eu5; exact (if_neg c1).trans ((if_neg c2).trans ((if_pos c3).trans ((if_neg c7).trans ((if_pos c8).trans (rfl))))))⟩
        · refine g_aload_n dX6_best_42 rfl ?_
          refine f_X6_55 rfl rfl dX6_best_43 ?_
          refine f_X6_212 rfl rfl dX6_best_46 ?_
          refine g_topi (fun x16 ex16 => ?_)
          have s17 : u5.1 46 3 = x16 := ex16.symm
          exact g_iret (ty := .int) dX6_best_49 rfl rfl ⟨⟨⟨_, rfl, by first | trivial | lia | grind⟩, hu5, fu5⟩, ee_i (by subst ex16; subst eu5; exact (if_neg c1).trans ((if_neg c2).trans ((if_pos c3).trans ((if_pos c7).trans (rfl)))))⟩
      · refine g_iload_n dX6_best_13 rfl ?_
        refine g_iconst (v := 1) dX6_best_14 (by decide) ?_
        refine g_icmp_eq (tgt := 26) dX6_best_15 (by decide) (fun c18 => ?_) (fun c18 => ?_)
        · refine g_aload_n dX6_best_26 rfl ?_
          refine f_X6_55 rfl rfl dX6_best_27 ?_
          refine g_aload_n dX6_best_30 rfl ?_
          refine f_X6_10 rfl rfl dX6_best_31 ?_
          refine g_iload_n dX6_best_34 rfl ?_
          refine cl_X6_208 (c := 46) (As := [.ref (uk_ad G 13), .int k]) rfl (x_X2_findRichest (G := G) hs hu  k (by first | trivial | decide | lia | grind) (by first | trivial | decide | lia | grind) (d)) rfl (by omega) rfl rfl (Nat.le_of_ble_eq_true rfl) dX6_best_35 (fun r19 u20 q21 => ?_)
          obtain ⟨q21, Eq21⟩ := q21
          obtain ⟨rfl, mq21⟩ := q21
          obtain ⟨hu20, gu20⟩ := mq21
          have fu20 : fr 13 49 u u20 := fr_tr f0 gu20 (by omega) (by omega)
          have eu20 : u20 = e_X2_findRichest u k := Eq21
          refine g_iload_n dX6_best_38 rfl ?_
          refine g_if_ne (tgt := 50) dX6_best_39 (by decide) (fun c22 => ?_) (fun c22 => ?_)
          · refine g_iload_n dX6_best_50 rfl ?_
            refine g_iconst (v := 1) dX6_best_51 (by decide) ?_
            refine g_icmp_ne (tgt := 65) dX6_best_52 (by decide) (fun c23 => ?_) (fun c23 => ?_)
            · refine g_aload_n dX6_best_65 rfl ?_
              refine f_X6_55 rfl rfl dX6_best_66 ?_
              refine g_iload_n dX6_best_69 rfl ?_
              refine g_bipush (v := 10) dX6_best_70 (by decide) ?_
              refine g_isub dX6_best_72 ?_
              refine g_topi (fun x24 ex24 => ?_)
              refine cl_X6_216 (c := 46) (As := [.int x24]) rfl (x_X2_doingAt (G := G) hs hu20  x24  (d + 8)) rfl (by omega) rfl rfl (Nat.le_of_ble_eq_true rfl) dX6_best_73 (fun r25 u26 q27 => ?_)
              obtain ⟨q27, Eq27⟩ := q27
              obtain ⟨⟨x28, rfl, tx28⟩, mq27⟩ := q27
              rw [mq27]
              have ex28 : x28 = (e_X2_doingAt u20 x24) := ee_v Eq27
              exact g_iret (ty := .int) dX6_best_76 rfl rfl ⟨⟨⟨_, rfl, by first | trivial | lia | grind⟩, hu20, fu20⟩, ee_i (by subst ex28; subst ex24; subst eu20; exact (if_neg c1).trans ((if_neg c2).trans ((if_neg c3).trans ((if_pos c18).trans ((if_neg c22).trans ((if_neg c23).trans (rfl)))))))⟩
            · refine g_aload_n dX6_best_55 rfl ?_
              refine f_X6_55 rfl rfl dX6_best_56 ?_
              refine f_X6_215 rfl rfl dX6_best_59 ?_
              refine g_topi (fun x29 ex29 => ?_)
              have rx29 : 0 ≤ x29 ∧ x29 ≤ 4 := by rw [ex29]; exact iv_at hu20 _ _ rfl
              have s30 : u20.1 46 2 = x29 := ex29.symm
              refine g_goto (tgt := 76) dX6_best_62 (by decide) ?_
              exact g_iret (ty := .int) dX6_best_76 rfl rfl ⟨⟨⟨_, rfl, by first | trivial | lia | grind⟩, hu20, fu20⟩, ee_i (by subst ex29; subst eu20; exact (if_neg c1).trans ((if_neg c2).trans ((if_neg c3).trans ((if_pos c18).trans ((if_neg c22).trans ((if_pos c23).trans (rfl)))))))⟩
          · refine g_aload_n dX6_best_42 rfl ?_
            refine f_X6_55 rfl rfl dX6_best_43 ?_
            refine f_X6_212 rfl rfl dX6_best_46 ?_
            refine g_topi (fun x31 ex31 => ?_)
            have s32 : u20.1 46 3 = x31 := ex31.symm
            exact g_iret (ty := .int) dX6_best_49 rfl rfl ⟨⟨⟨_, rfl, by first | trivial | lia | grind⟩, hu20, fu20⟩, ee_i (by subst ex31; subst eu20; exact (if_neg c1).trans ((if_neg c2).trans ((if_neg c3).trans ((if_pos c18).trans ((if_pos c22).trans (rfl))))))⟩
        · refine g_iload_n dX6_best_18 rfl ?_
          refine g_bipush (v := 10) dX6_best_19 (by decide) ?_
          refine g_icmp_ge (tgt := 26) dX6_best_21 (by decide) (fun c33 => ?_) (fun c33 => ?_)
          · refine g_aload_n dX6_best_26 rfl ?_
            refine f_X6_55 rfl rfl dX6_best_27 ?_
            refine g_aload_n dX6_best_30 rfl ?_
            refine f_X6_10 rfl rfl dX6_best_31 ?_
            refine g_iload_n dX6_best_34 rfl ?_
            refine cl_X6_208 (c := 46) (As := [.ref (uk_ad G 13), .int k]) rfl (x_X2_findRichest (G := G) hs hu  k (by first | trivial | decide | lia | grind) (by first | trivial | decide | lia | grind) (d)) rfl (by omega) rfl rfl (Nat.le_of_ble_eq_true rfl) dX6_best_35 (fun r34 u35 q36 => ?_)
            obtain ⟨q36, Eq36⟩ := q36
            obtain ⟨rfl, mq36⟩ := q36
            obtain ⟨hu35, gu35⟩ := mq36
            have fu35 : fr 13 49 u u35 := fr_tr f0 gu35 (by omega) (by omega)
            have eu35 : u35 = e_X2_findRichest u k := Eq36
            refine g_iload_n dX6_best_38 rfl ?_
            refine g_if_ne (tgt := 50) dX6_best_39 (by decide) (fun c37 => ?_) (fun c37 => ?_)
            · refine g_iload_n dX6_best_50 rfl ?_
              refine g_iconst (v := 1) dX6_best_51 (by decide) ?_
              refine g_icmp_ne (tgt := 65) dX6_best_52 (by decide) (fun c38 => ?_) (fun c38 => ?_)
              · refine g_aload_n dX6_best_65 rfl ?_
                refine f_X6_55 rfl rfl dX6_best_66 ?_
                refine g_iload_n dX6_best_69 rfl ?_
                refine g_bipush (v := 10) dX6_best_70 (by decide) ?_
                refine g_isub dX6_best_72 ?_
                refine g_topi (fun x39 ex39 => ?_)
                refine cl_X6_216 (c := 46) (As := [.int x39]) rfl (x_X2_doingAt (G := G) hs hu35  x39  (d + 8)) rfl (by omega) rfl rfl (Nat.le_of_ble_eq_true rfl) dX6_best_73 (fun r40 u41 q42 => ?_)
                obtain ⟨q42, Eq42⟩ := q42
                obtain ⟨⟨x43, rfl, tx43⟩, mq42⟩ := q42
                rw [mq42]
                have ex43 : x43 = (e_X2_doingAt u35 x39) := ee_v Eq42
                exact g_iret (ty := .int) dX6_best_76 rfl rfl ⟨⟨⟨_, rfl, by first | trivial | lia | grind⟩, hu35, fu35⟩, ee_i (by subst ex43; subst ex39; subst eu35; exact (if_neg c1).trans ((if_neg c2).trans ((if_neg c3).trans ((if_neg c18).trans ((if_pos c33).trans ((if_neg c37).trans ((if_neg c38).trans (rfl))))))))⟩
              · refine g_aload_n dX6_best_55 rfl ?_
                refine f_X6_55 rfl rfl dX6_best_56 ?_
                refine f_X6_215 rfl rfl dX6_best_59 ?_
                refine g_topi (fun x44 ex44 => ?_)
                have rx44 : 0 ≤ x44 ∧ x44 ≤ 4 := by rw [ex44]; exact iv_at hu35 _ _ rfl
                have s45 : u35.1 46 2 = x44 := ex44.symm
                refine g_goto (tgt := 76) dX6_best_62 (by decide) ?_
                exact g_iret (ty := .int) dX6_best_76 rfl rfl ⟨⟨⟨_, rfl, by first | trivial | lia | grind⟩, hu35, fu35⟩, ee_i (by subst ex44; subst eu35; exact (if_neg c1).trans ((if_neg c2).trans ((if_neg c3).trans ((if_neg c18).trans ((if_pos c33).trans ((if_neg c37).trans ((if_pos c38).trans (rfl))))))))⟩
            · refine g_aload_n dX6_best_42 rfl ?_
              refine f_X6_55 rfl rfl dX6_best_43 ?_
              refine f_X6_212 rfl rfl dX6_best_46 ?_
              refine g_topi (fun x46 ex46 => ?_)
              have s47 : u35.1 46 3 = x46 := ex46.symm
              exact g_iret (ty := .int) dX6_best_49 rfl rfl ⟨⟨⟨_, rfl, by first | trivial | lia | grind⟩, hu35, fu35⟩, ee_i (by subst ex46; subst eu35; exact (if_neg c1).trans ((if_neg c2).trans ((if_neg c3).trans ((if_neg c18).trans ((if_pos c33).trans ((if_pos c37).trans (rfl)))))))⟩
          · refine g_iconst (v := (-1)) dX6_best_24 (by decide) ?_
            exact g_iret (ty := .int) dX6_best_25 rfl rfl ⟨⟨⟨_, rfl, by first | trivial | lia | grind⟩, hu, f0⟩, ee_i (by exact (if_neg c1).trans ((if_neg c2).trans ((if_neg c3).trans ((if_neg c18).trans ((if_neg c33).trans (rfl))))))⟩
def e_X6_least (u : uk_Mem) (m : Int32) (w : Int32) : Int32 × uk_Mem := let x4 : Int32 := (e_X0_hasStuff u 13 m); if x4 = 0 then (((-1 : Int32), u)) else (if w = 0 then (let x10 : Int32 := (e_X2_findFewest u m).1; let u8 : uk_Mem := (e_X2_findFewest u m).2; if x10 = 0 then (((-4 : Int32), u8)) else (if w = 0 then (let x18 : Int32 := u8.1 46 2; (x18, u8)) else (let x13 : Int32 := w - (10 : Int32); let x17 : Int32 := (e_X2_doingAt u8 x13); (x17, u8)))) else (if (10 : Int32) ≤ w then (let x24 : Int32 := (e_X2_findFewest u m).1; let u22 : uk_Mem := (e_X2_findFewest u m).2; if x24 = 0 then (((-4 : Int32), u22)) else (if w = 0 then (let x32 : Int32 := u22.1 46 2; (x32, u22)) else (let x27 : Int32 := w - (10 : Int32); let x31 : Int32 := (e_X2_doingAt u22 x27); (x31, u22)))) else (((-1 : Int32), u))))
abbrev qe_X6_least (u : uk_Mem) (m : Int32) (w : Int32) (r : Option Value) (u' : uk_Mem) : Prop := (q_X6_least u m w r u') ∧ (r = some (.int (e_X6_least u m w).1) ∧ u' = (e_X6_least u m w).2)
set_option maxHeartbeats 4000000 in
set_option maxRecDepth 20000 in
theorem x_X6_least {G : uk_D} (hs : uk_Sep G) {u : uk_Mem} (hu : iv u) (m : Int32) (w : Int32) (d : Nat) : uk_Meth G (d + 9) mX6_least [.ref (uk_ad G 0), .int m, .int w] u (qe_X6_least u m w) := by
  refine uk_Meth.of hs (by decide) (Nat.le_of_ble_eq_true rfl) (fun X => ?_)
  have f0 : fr 13 49 u u := fr_rf
  refine g_aload_n dX6_least_0 rfl ?_
  refine f_X6_10 rfl rfl dX6_least_1 ?_
  refine g_iload_n dX6_least_4 rfl ?_
  refine cl_X6_118 (c := 13) (As := [.int m]) rfl (x_X0_hasStuff (G := G) hs hu uk_isK13 m  (d + 8)) rfl (by omega) rfl rfl (Nat.le_of_ble_eq_true rfl) dX6_least_5 (fun r1 u2 q3 => ?_)
  obtain ⟨q3, Eq3⟩ := q3
  obtain ⟨⟨x4, rfl, tx4, nx4, zx4⟩, mq3⟩ := q3
  rw [mq3]
  have ex4 : x4 = (e_X0_hasStuff u 13 m) := ee_v Eq3
  refine g_if_eq (tgt := 21) dX6_least_8 (by decide) (fun c5 => ?_) (fun c5 => ?_)
  · have zc5 := zx4 c5
    refine g_iconst (v := (-1)) dX6_least_21 (by decide) ?_
    exact g_iret (ty := .int) dX6_least_22 rfl rfl ⟨⟨⟨_, rfl, by first | trivial | lia | grind⟩, hu, f0⟩, ee_i (by subst ex4; exact (if_pos c5).trans (rfl))⟩
  · have zc5 := nx4 c5
    refine g_iload_n dX6_least_11 rfl ?_
    refine g_if_eq (tgt := 23) dX6_least_12 (by decide) (fun c6 => ?_) (fun c6 => ?_)
    · refine g_aload_n dX6_least_23 rfl ?_
      refine f_X6_55 rfl rfl dX6_least_24 ?_
      refine g_aload_n dX6_least_27 rfl ?_
      refine f_X6_10 rfl rfl dX6_least_28 ?_
      refine g_iload_n dX6_least_31 rfl ?_
      refine cl_X6_219 (c := 46) (As := [.ref (uk_ad G 13), .int m]) rfl (x_X2_findFewest (G := G) hs hu  m (by first | trivial | decide | lia | grind) (by first | trivial | decide | lia | grind) (d)) rfl (by omega) rfl rfl (Nat.le_of_ble_eq_true rfl) dX6_least_32 (fun r7 u8 q9 => ?_)
      obtain ⟨q9, Eq9⟩ := q9
      obtain ⟨⟨x10, rfl, tx10, nx10, zx10⟩, mq9⟩ := q9
      obtain ⟨hu8, gu8⟩ := mq9
      have fu8 : fr 13 49 u u8 := fr_tr f0 gu8 (by omega) (by omega)
      have ex10 : x10 = (e_X2_findFewest u m).1 := ee_v Eq9.1
      have eu8 : u8 = (e_X2_findFewest u m).2 := Eq9.2
      refine g_if_ne (tgt := 41) dX6_least_35 (by decide) (fun c11 => ?_) (fun c11 => ?_)
      · have zc11 := nx10 c11
        refine g_iload_n dX6_least_41 rfl ?_
        refine g_if_ne (tgt := 55) dX6_least_42 (by decide) (fun c12 => ?_) (fun c12 => ?_)
        · refine g_aload_n dX6_least_55 rfl ?_
          refine f_X6_55 rfl rfl dX6_least_56 ?_
          refine g_iload_n dX6_least_59 rfl ?_
          refine g_bipush (v := 10) dX6_least_60 (by decide) ?_
          refine g_isub dX6_least_62 ?_
          refine g_topi (fun x13 ex13 => ?_)
          refine cl_X6_216 (c := 46) (As := [.int x13]) rfl (x_X2_doingAt (G := G) hs hu8  x13  (d + 8)) rfl (by omega) rfl rfl (Nat.le_of_ble_eq_true rfl) dX6_least_63 (fun r14 u15 q16 => ?_)
          obtain ⟨q16, Eq16⟩ := q16
          obtain ⟨⟨x17, rfl, tx17⟩, mq16⟩ := q16
          rw [mq16]
          have ex17 : x17 = (e_X2_doingAt u8 x13) := ee_v Eq16
          exact g_iret (ty := .int) dX6_least_66 rfl rfl ⟨⟨⟨_, rfl, by first | trivial | lia | grind⟩, hu8, fu8⟩, ee_i (by subst ex17; subst ex13; subst eu8; subst ex10; subst ex4; exact (if_neg c5).trans ((if_pos c6).trans ((if_neg c11).trans ((if_neg c12).trans (rfl)))))⟩
        · refine g_aload_n dX6_least_45 rfl ?_
          refine f_X6_55 rfl rfl dX6_least_46 ?_
          refine f_X6_215 rfl rfl dX6_least_49 ?_
          refine g_topi (fun x18 ex18 => ?_)
          have rx18 : 0 ≤ x18 ∧ x18 ≤ 4 := by rw [ex18]; exact iv_at hu8 _ _ rfl
          have s19 : u8.1 46 2 = x18 := ex18.symm
          refine g_goto (tgt := 66) dX6_least_52 (by decide) ?_
          exact g_iret (ty := .int) dX6_least_66 rfl rfl ⟨⟨⟨_, rfl, by first | trivial | lia | grind⟩, hu8, fu8⟩, ee_i (by subst ex18; subst eu8; subst ex10; subst ex4; exact (if_neg c5).trans ((if_pos c6).trans ((if_neg c11).trans ((if_pos c12).trans (rfl)))))⟩
      · have zc11 := zx10 c11
        refine g_bipush (v := (-4)) dX6_least_38 (by decide) ?_
        exact g_iret (ty := .int) dX6_least_40 rfl rfl ⟨⟨⟨_, rfl, by first | trivial | lia | grind⟩, hu8, fu8⟩, ee_i (by subst eu8; subst ex10; subst ex4; exact (if_neg c5).trans ((if_pos c6).trans ((if_pos c11).trans (rfl))))⟩
    · refine g_iload_n dX6_least_15 rfl ?_
      refine g_bipush (v := 10) dX6_least_16 (by decide) ?_
      refine g_icmp_ge (tgt := 23) dX6_least_18 (by decide) (fun c20 => ?_) (fun c20 => ?_)
      · refine g_aload_n dX6_least_23 rfl ?_
        refine f_X6_55 rfl rfl dX6_least_24 ?_
        refine g_aload_n dX6_least_27 rfl ?_
        refine f_X6_10 rfl rfl dX6_least_28 ?_
        refine g_iload_n dX6_least_31 rfl ?_
        refine cl_X6_219 (c := 46) (As := [.ref (uk_ad G 13), .int m]) rfl (x_X2_findFewest (G := G) hs hu  m (by first | trivial | decide | lia | grind) (by first | trivial | decide | lia | grind) (d)) rfl (by omega) rfl rfl (Nat.le_of_ble_eq_true rfl) dX6_least_32 (fun r21 u22 q23 => ?_)
        obtain ⟨q23, Eq23⟩ := q23
        obtain ⟨⟨x24, rfl, tx24, nx24, zx24⟩, mq23⟩ := q23
        obtain ⟨hu22, gu22⟩ := mq23
        have fu22 : fr 13 49 u u22 := fr_tr f0 gu22 (by omega) (by omega)
        have ex24 : x24 = (e_X2_findFewest u m).1 := ee_v Eq23.1
        have eu22 : u22 = (e_X2_findFewest u m).2 := Eq23.2
        refine g_if_ne (tgt := 41) dX6_least_35 (by decide) (fun c25 => ?_) (fun c25 => ?_)
        · have zc25 := nx24 c25
          refine g_iload_n dX6_least_41 rfl ?_
          refine g_if_ne (tgt := 55) dX6_least_42 (by decide) (fun c26 => ?_) (fun c26 => ?_)
          · refine g_aload_n dX6_least_55 rfl ?_
            refine f_X6_55 rfl rfl dX6_least_56 ?_
            refine g_iload_n dX6_least_59 rfl ?_
            refine g_bipush (v := 10) dX6_least_60 (by decide) ?_
            refine g_isub dX6_least_62 ?_
            refine g_topi (fun x27 ex27 => ?_)
            refine cl_X6_216 (c := 46) (As := [.int x27]) rfl (x_X2_doingAt (G := G) hs hu22  x27  (d + 8)) rfl (by omega) rfl rfl (Nat.le_of_ble_eq_true rfl) dX6_least_63 (fun r28 u29 q30 => ?_)
            obtain ⟨q30, Eq30⟩ := q30
            obtain ⟨⟨x31, rfl, tx31⟩, mq30⟩ := q30
            rw [mq30]
            have ex31 : x31 = (e_X2_doingAt u22 x27) := ee_v Eq30
            exact g_iret (ty := .int) dX6_least_66 rfl rfl ⟨⟨⟨_, rfl, by first | trivial | lia | grind⟩, hu22, fu22⟩, ee_i (by subst ex31; subst ex27; subst eu22; subst ex24; subst ex4; exact (if_neg c5).trans ((if_neg c6).trans ((if_pos c20).trans ((if_neg c25).trans ((if_neg c26).trans (rfl))))))⟩
          · refine g_aload_n dX6_least_45 rfl ?_
            refine f_X6_55 rfl rfl dX6_least_46 ?_
            refine f_X6_215 rfl rfl dX6_least_49 ?_
            refine g_topi (fun x32 ex32 => ?_)
            have rx32 : 0 ≤ x32 ∧ x32 ≤ 4 := by rw [ex32]; exact iv_at hu22 _ _ rfl
            have s33 : u22.1 46 2 = x32 := ex32.symm
            refine g_goto (tgt := 66) dX6_least_52 (by decide) ?_
            exact g_iret (ty := .int) dX6_least_66 rfl rfl ⟨⟨⟨_, rfl, by first | trivial | lia | grind⟩, hu22, fu22⟩, ee_i (by subst ex32; subst eu22; subst ex24; subst ex4; exact (if_neg c5).trans ((if_neg c6).trans ((if_pos c20).trans ((if_neg c25).trans ((if_pos c26).trans (rfl))))))⟩
        · have zc25 := zx24 c25
          refine g_bipush (v := (-4)) dX6_least_38 (by decide) ?_
          exact g_iret (ty := .int) dX6_least_40 rfl rfl ⟨⟨⟨_, rfl, by first | trivial | lia | grind⟩, hu22, fu22⟩, ee_i (by subst eu22; subst ex24; subst ex4; exact (if_neg c5).trans ((if_neg c6).trans ((if_pos c20).trans ((if_pos c25).trans (rfl)))))⟩
      · refine g_iconst (v := (-1)) dX6_least_21 (by decide) ?_
        exact g_iret (ty := .int) dX6_least_22 rfl rfl ⟨⟨⟨_, rfl, by first | trivial | lia | grind⟩, hu, f0⟩, ee_i (by subst ex4; exact (if_neg c5).trans ((if_neg c6).trans ((if_neg c20).trans (rfl))))⟩
