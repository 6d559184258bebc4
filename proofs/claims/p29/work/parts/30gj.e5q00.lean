def e_X0_gainOf (u : uk_Mem) (kb : Nat) (g : Int32) : Int32 := let x4 : Int32 := (e_X6_stuffOf u g); let x6 : Int32 := u.1 (kb + 2) x4.toNatClampNeg; let x8 : Int32 := u.1 (kb + 4) x6.toNatClampNeg; let x10 : Int32 := u.1 (kb + 3) x4.toNatClampNeg; let x12 : Int32 := u.1 (kb + 4) x10.toNatClampNeg; if (10 : Int32) ≤ g then (let x15 : Int32 := u.1 (kb + 1) x4.toNatClampNeg; let x17 : Int32 := u.1 (kb + 7) x4.toNatClampNeg; let x21 : Int32 := (e_X0_givesB u x15 x17); if x21 = 0 then (let x23 : Int32 := x8 + (0 : Int32); let x25 : Int32 := u.1 (kb + 4) x4.toNatClampNeg; let x26 : Int32 := x23 - x25; x26) else (let x27 : Int32 := x8 + x12; let x29 : Int32 := u.1 (kb + 4) x4.toNatClampNeg; let x30 : Int32 := x27 - x29; x30)) else (let x32 : Int32 := u.1 (kb + 4) x4.toNatClampNeg; let x33 : Int32 := x32 - x8; let x34 : Int32 := x33 - x12; x34)
abbrev qe_X0_gainOf (u : uk_Mem) (kb : Nat) (g : Int32) (r : Option Value) (u' : uk_Mem) : Prop := (q_X0_gainOf u kb g r u') ∧ (r = some (.int (e_X0_gainOf u kb g)))
set_option maxHeartbeats 4000000 in
set_option maxRecDepth 20000 in
theorem x_X0_gainOf {G : uk_D} (hs : uk_Sep G) {u : uk_Mem} (hu : iv u) {kb : Nat} (hkb : uk_isK kb) (g : Int32) (p0 : (0 ≤ g ∧ g ≤ 7) ∨ (10 ≤ g ∧ g ≤ 17)) (d : Nat) : uk_Meth G (d + 1) mX0_gainOf [.ref (uk_ad G kb), .int g] u (qe_X0_gainOf u kb g) := by
  refine uk_Meth.of hs (by decide) (Nat.le_of_ble_eq_true rfl) (fun X => ?_)
  refine g_iload_n dX0_gainOf_0 rfl ?_
  refine cl_X0_53 (As := [.int g]) rfl (x_X6_stuffOf (G := G) hs hu  g  (d)) rfl (by omega) rfl (Nat.le_of_ble_eq_true rfl) dX0_gainOf_1 (fun r1 u2 q3 => ?_)
  obtain ⟨q3, Eq3⟩ := q3
  obtain ⟨⟨x4, rfl, tx4⟩, mq3⟩ := q3
  rw [mq3]
  have ex4 : x4 = (e_X6_stuffOf u g) := ee_v Eq3
  refine g_istore_n dX0_gainOf_4 (by decide) ?_
  refine g_pick (lv' := [(0, .ref (uk_ad G kb)), (1, .int g), (2, .int x4)]) [0, 1, 2] rfl ?_
  refine g_aload_n dX0_gainOf_5 rfl ?_
  refine f_X0_25 rfl (kk_0 hkb) dX0_gainOf_6 ?_
  refine g_aload_n dX0_gainOf_9 rfl ?_
  refine f_X0_19 rfl (kk_0 hkb) dX0_gainOf_10 ?_
  refine g_iload_n dX0_gainOf_13 rfl ?_
  have v5 : vp_in x4 8 := uk_vin 8 rfl (by first | decide | lia | grind) (by first | decide | lia | grind)
  refine g_iald (kk_2 hkb) (kl_2 hkb) v5 dX0_gainOf_14 ?_
  refine g_topi (fun x6 ex6 => ?_)
  have bx6 := uk_cl v5
  have rx6 : 0 ≤ x6 ∧ x6 ≤ 7 := by rw [ex6]; exact iv_at hu _ _ (ka_2 hkb _ (by omega))
  have v7 : vp_in x6 8 := uk_vin 8 rfl (by first | decide | lia | grind) (by first | decide | lia | grind)
  refine g_iald (kk_4 hkb) (kl_4 hkb) v7 dX0_gainOf_15 ?_
  refine g_topi (fun x8 ex8 => ?_)
  refine g_istore_n dX0_gainOf_16 (by decide) ?_
  refine g_pick (lv' := [(0, .ref (uk_ad G kb)), (1, .int g), (2, .int x4), (3, .int x8)]) [0, 1, 2, 3] rfl ?_
  refine g_aload_n dX0_gainOf_17 rfl ?_
  refine f_X0_25 rfl (kk_0 hkb) dX0_gainOf_18 ?_
  refine g_aload_n dX0_gainOf_21 rfl ?_
  refine f_X0_22 rfl (kk_0 hkb) dX0_gainOf_22 ?_
  refine g_iload_n dX0_gainOf_25 rfl ?_
  have v9 : vp_in x4 8 := uk_vin 8 rfl (by first | decide | lia | grind) (by first | decide | lia | grind)
  refine g_iald (kk_3 hkb) (kl_3 hkb) v9 dX0_gainOf_26 ?_
  refine g_topi (fun x10 ex10 => ?_)
  have bx10 := uk_cl v9
  have rx10 : 0 ≤ x10 ∧ x10 ≤ 7 := by rw [ex10]; exact iv_at hu _ _ (ka_3 hkb _ (by omega))
  have v11 : vp_in x10 8 := uk_vin 8 rfl (by first | decide | lia | grind) (by first | decide | lia | grind)
  refine g_iald (kk_4 hkb) (kl_4 hkb) v11 dX0_gainOf_27 ?_
  refine g_topi (fun x12 ex12 => ?_)
  refine g_istore dX0_gainOf_28 (by decide) ?_
  refine g_pick (lv' := [(0, .ref (uk_ad G kb)), (1, .int g), (2, .int x4), (3, .int x8), (4, .int x12)]) [0, 1, 2, 3, 4] rfl ?_
  refine g_iload_n dX0_gainOf_30 rfl ?_
  refine g_bipush (v := 10) dX0_gainOf_31 (by decide) ?_
  refine g_icmp_ge (tgt := 48) dX0_gainOf_33 (by decide) (fun c13 => ?_) (fun c13 => ?_)
  · refine g_iload_n dX0_gainOf_48 rfl ?_
    refine g_aload_n dX0_gainOf_49 rfl ?_
    refine f_X0_15 rfl (kk_0 hkb) dX0_gainOf_50 ?_
    refine g_iload_n dX0_gainOf_53 rfl ?_
    have v14 : vp_in x4 8 := uk_vin 8 rfl (by first | decide | lia | grind) (by first | decide | lia | grind)
    refine g_iald (kk_1 hkb) (kl_1 hkb) v14 dX0_gainOf_54 ?_
    refine g_topi (fun x15 ex15 => ?_)
    refine g_aload_n dX0_gainOf_55 rfl ?_
    refine f_X0_34 rfl (kk_0 hkb) dX0_gainOf_56 ?_
    refine g_iload_n dX0_gainOf_59 rfl ?_
    have v16 : vp_in x4 8 := uk_vin 8 rfl (by first | decide | lia | grind) (by first | decide | lia | grind)
    refine g_iald (kk_7 hkb) (kl_7 hkb) v16 dX0_gainOf_60 ?_
    refine g_topi (fun x17 ex17 => ?_)
    refine cl_X0_70 (As := [.int x15, .int x17]) rfl (x_X0_givesB (G := G) hs hu  x15 x17  (d)) rfl (by omega) rfl (Nat.le_of_ble_eq_true rfl) dX0_gainOf_61 (fun r18 u19 q20 => ?_)
    obtain ⟨q20, Eq20⟩ := q20
    obtain ⟨⟨x21, rfl, tx21, nx21, zx21⟩, mq20⟩ := q20
    rw [mq20]
    have ex21 : x21 = (e_X0_givesB u x15 x17) := ee_v Eq20
    refine g_if_eq (tgt := 72) dX0_gainOf_64 (by decide) (fun c22 => ?_) (fun c22 => ?_)
    · have zc22 := zx21 c22
      refine g_iconst (v := 0) dX0_gainOf_72 (by decide) ?_
      refine g_iadd dX0_gainOf_73 ?_
      refine g_topi (fun x23 ex23 => ?_)
      refine g_aload_n dX0_gainOf_74 rfl ?_
      refine f_X0_25 rfl (kk_0 hkb) dX0_gainOf_75 ?_
      refine g_iload_n dX0_gainOf_78 rfl ?_
      have v24 : vp_in x4 8 := uk_vin 8 rfl (by first | decide | lia | grind) (by first | decide | lia | grind)
      refine g_iald (kk_4 hkb) (kl_4 hkb) v24 dX0_gainOf_79 ?_
      refine g_topi (fun x25 ex25 => ?_)
      refine g_isub dX0_gainOf_80 ?_
      refine g_topi (fun x26 ex26 => ?_)
      exact g_iret (ty := .int) dX0_gainOf_81 rfl rfl ⟨⟨⟨_, rfl, by first | trivial | lia | grind⟩, rfl⟩, ee_p (by subst ex26; subst ex25; subst ex23; subst ex21; subst ex17; subst ex15; subst ex12; subst ex10; subst ex8; subst ex6; subst ex4; exact (if_pos c13).trans ((if_pos c22).trans (rfl)))⟩
    · have zc22 := nx21 c22
      refine g_iload dX0_gainOf_67 rfl ?_
      refine g_goto (tgt := 73) dX0_gainOf_69 (by decide) ?_
      refine g_iadd dX0_gainOf_73 ?_
      refine g_topi (fun x27 ex27 => ?_)
      refine g_aload_n dX0_gainOf_74 rfl ?_
      refine f_X0_25 rfl (kk_0 hkb) dX0_gainOf_75 ?_
      refine g_iload_n dX0_gainOf_78 rfl ?_
      have v28 : vp_in x4 8 := uk_vin 8 rfl (by first | decide | lia | grind) (by first | decide | lia | grind)
      refine g_iald (kk_4 hkb) (kl_4 hkb) v28 dX0_gainOf_79 ?_
      refine g_topi (fun x29 ex29 => ?_)
      refine g_isub dX0_gainOf_80 ?_
      refine g_topi (fun x30 ex30 => ?_)
      exact g_iret (ty := .int) dX0_gainOf_81 rfl rfl ⟨⟨⟨_, rfl, by first | trivial | lia | grind⟩, rfl⟩, ee_p (by subst ex30; subst ex29; subst ex27; subst ex21; subst ex17; subst ex15; subst ex12; subst ex10; subst ex8; subst ex6; subst ex4; exact (if_pos c13).trans ((if_neg c22).trans (rfl)))⟩
  · refine g_aload_n dX0_gainOf_36 rfl ?_
    refine f_X0_25 rfl (kk_0 hkb) dX0_gainOf_37 ?_
    refine g_iload_n dX0_gainOf_40 rfl ?_
    have v31 : vp_in x4 8 := uk_vin 8 rfl (by first | decide | lia | grind) (by first | decide | lia | grind)
    refine g_iald (kk_4 hkb) (kl_4 hkb) v31 dX0_gainOf_41 ?_
    refine g_topi (fun x32 ex32 => ?_)
    refine g_iload_n dX0_gainOf_42 rfl ?_
    refine g_isub dX0_gainOf_43 ?_
    refine g_topi (fun x33 ex33 => ?_)
    refine g_iload dX0_gainOf_44 rfl ?_
    refine g_isub dX0_gainOf_46 ?_
    refine g_topi (fun x34 ex34 => ?_)
    exact g_iret (ty := .int) dX0_gainOf_47 rfl rfl ⟨⟨⟨_, rfl, by first | trivial | lia | grind⟩, rfl⟩, ee_p (by subst ex34; subst ex33; subst ex32; subst ex12; subst ex10; subst ex8; subst ex6; subst ex4; exact (if_neg c13).trans (rfl))⟩
def l_X0_gainBound_4 (u : uk_Mem) (kb : Nat) : Nat → Int32 → Int32 → Int32
  | 0, _, _ => 0
  | K9 + 1, i3, w2 => let x4 : Int32 := u.1 kb 0; if x4 ≤ i3 then (w2) else (let x10 : Int32 := (e_X0_isMade u kb i3); if x10 = 0 then (l_X0_gainBound_4 u kb K9 (i3 + 1) w2) else (let x15 : Int32 := (e_X0_gainOf u kb i3); let x16 : Int32 := if 0 ≤ x15 then x15 else 0 - x15; let x17 : Int32 := if w2 < x16 then x16 else w2; l_X0_gainBound_4 u kb K9 (i3 + 1) x17))
def e_X0_gainBound (u : uk_Mem) (kb : Nat) : Int32 := l_X0_gainBound_4 u kb ee_K (0 : Int32) (0 : Int32)
abbrev qe_X0_gainBound (u : uk_Mem) (kb : Nat) (r : Option Value) (u' : uk_Mem) : Prop := (q_X0_gainBound u kb r u') ∧ (r = some (.int (e_X0_gainBound u kb)))
set_option maxHeartbeats 4000000 in
set_option maxRecDepth 20000 in
theorem x_X0_gainBound {G : uk_D} (hs : uk_Sep G) {u : uk_Mem} (hu : iv u) {kb : Nat} (hkb : uk_isK kb) (d : Nat) : uk_Meth G (d + 2) mX0_gainBound [.ref (uk_ad G kb)] u (qe_X0_gainBound u kb) := by
  refine uk_Meth.of hs (by decide) (Nat.le_of_ble_eq_true rfl) (fun X => ?_)
  refine g_iconst (v := 0) dX0_gainBound_0 (by decide) ?_
  refine g_istore_n dX0_gainBound_1 (by decide) ?_
  refine g_pick (lv' := [(0, .ref (uk_ad G kb)), (1, .int 0)]) [0, 1] rfl ?_
  refine g_iconst (v := 0) dX0_gainBound_2 (by decide) ?_
  refine g_istore_n dX0_gainBound_3 (by decide) ?_
  refine g_pick (lv' := [(0, .ref (uk_ad G kb)), (1, .int 0), (2, .int 0)]) [0, 1, 2] rfl ?_
  have L4_0 : ∀ i3 : Int32, 0 ≤ i3 → i3 ≤ 8 → ∀ (w2 : Int32), (∃ ki3 : Nat, ee_F 8 i3 ki3 ∧ e_X0_gainBound u kb = l_X0_gainBound_4 u kb ki3 i3 w2) → uk_G G X mX0_gainBound (d + 2) (qe_X0_gainBound u kb) 4 [(0, .ref (uk_ad G kb)), (1, .int w2), (2, .int i3)] [] u := by
    refine uk_upl 8 ?_
    intro i3 ai3 bi3 ihi3 w2 jEi3
    obtain ⟨ki3, fki3, hki3⟩ := jEi3
    obtain ⟨ki3, rfl⟩ := ee_Fp (by first | assumption | lia | grind) fki3
    refine g_iload_n dX0_gainBound_4 rfl ?_
    refine g_aload_n dX0_gainBound_5 rfl ?_
    refine f_X0_9 rfl (kk_0 hkb) dX0_gainBound_6 ?_
    refine g_topi (fun x4 ex4 => ?_)
    have rx4 : 0 ≤ x4 ∧ x4 ≤ 8 := by rw [ex4]; exact iv_at hu _ _ (kr_0 hkb)
    have s5 : u.1 kb 0 = x4 := ex4.symm
    refine g_icmp_ge (tgt := 39) dX0_gainBound_9 (by decide) (fun c6 => ?_) (fun c6 => ?_)
    · refine g_iload_n dX0_gainBound_39 rfl ?_
      exact g_iret (ty := .int) dX0_gainBound_40 rfl rfl ⟨⟨⟨_, rfl, by first | trivial | lia | grind⟩, rfl⟩, ee_p (by subst ex4; exact hki3.trans ((if_pos c6).trans (rfl)))⟩
    · refine g_aload_n dX0_gainBound_12 rfl ?_
      refine g_iload_n dX0_gainBound_13 rfl ?_
      refine cl_X0_61 (c := kb) (As := [.int i3]) rfl (x_X0_isMade (G := G) hs hu hkb i3 (by first | trivial | decide | lia | grind) (by first | trivial | decide | lia | grind) (d + 1)) rfl (by omega) (kk_0 hkb) rfl (Nat.le_of_ble_eq_true rfl) dX0_gainBound_14 (fun r7 u8 q9 => ?_)
      obtain ⟨q9, Eq9⟩ := q9
      obtain ⟨⟨x10, rfl, tx10, nx10, zx10⟩, mq9⟩ := q9
      rw [mq9]
      have ex10 : x10 = (e_X0_isMade u kb i3) := ee_v Eq9
      refine g_if_eq (tgt := 33) dX0_gainBound_17 (by decide) (fun c11 => ?_) (fun c11 => ?_)
      · have zc11 := zx10 c11
        refine g_iinc (v := i3 + 1) dX0_gainBound_33 rfl rfl (by decide) ?_
        refine g_pick (lv' := [(0, .ref (uk_ad G kb)), (1, .int w2), (2, .int (i3 + 1))]) [0, 1, 2] rfl ?_
        refine g_goto (tgt := 4) dX0_gainBound_36 (by decide) ?_
        refine g_pick (lv' := [(0, .ref (uk_ad G kb)), (1, .int w2), (2, .int (i3 + 1))]) [0, 1, 2] rfl ?_
        exact ihi3 (by first | lia | grind) w2  ⟨ki3, ee_Fs fki3 (by first | assumption | lia | grind), by subst ex10; subst ex4; exact hki3.trans ((if_neg c6).trans ((if_pos c11).trans (rfl)))⟩
      · have zc11 := nx10 c11
        refine g_iload_n dX0_gainBound_20 rfl ?_
        refine g_aload_n dX0_gainBound_21 rfl ?_
        refine g_iload_n dX0_gainBound_22 rfl ?_
        refine cl_X0_85 (c := kb) (As := [.int i3]) rfl (x_X0_gainOf (G := G) hs hu hkb i3 (by first | trivial | decide | lia | grind) (d)) rfl (by omega) (kk_0 hkb) rfl (Nat.le_of_ble_eq_true rfl) dX0_gainBound_23 (fun r12 u13 q14 => ?_)
        obtain ⟨q14, Eq14⟩ := q14
        obtain ⟨⟨x15, rfl, tx15⟩, mq14⟩ := q14
        rw [mq14]
        have ex15 : x15 = (e_X0_gainOf u kb i3) := ee_v Eq14
        refine g_mabs rfl (by omega) (Nat.le_of_ble_eq_true rfl) dX0_gainBound_26 ?_
        refine g_topi (fun x16 ex16 => ?_)
        refine g_mmax rfl (by omega) (Nat.le_of_ble_eq_true rfl) dX0_gainBound_29 ?_
        refine g_topi (fun x17 ex17 => ?_)
        refine g_istore_n dX0_gainBound_32 (by decide) ?_
        refine g_pick (lv' := [(0, .ref (uk_ad G kb)), (1, .int x17), (2, .int i3)]) [0, 1, 2] rfl ?_
        refine g_iinc (v := i3 + 1) dX0_gainBound_33 rfl rfl (by decide) ?_
        refine g_pick (lv' := [(0, .ref (uk_ad G kb)), (1, .int x17), (2, .int (i3 + 1))]) [0, 1, 2] rfl ?_
        refine g_goto (tgt := 4) dX0_gainBound_36 (by decide) ?_
        refine g_pick (lv' := [(0, .ref (uk_ad G kb)), (1, .int x17), (2, .int (i3 + 1))]) [0, 1, 2] rfl ?_
        exact ihi3 (by first | lia | grind) x17  ⟨ki3, ee_Fs fki3 (by first | assumption | lia | grind), by subst ex17; subst ex16; subst ex15; subst ex10; subst ex4; exact hki3.trans ((if_neg c6).trans ((if_neg c11).trans (rfl)))⟩
  refine g_pick (lv' := [(0, .ref (uk_ad G kb)), (1, .int 0), (2, .int 0)]) [0, 1, 2] rfl ?_
  exact L4_0 0 (by first | decide | lia | grind) (by first | decide | lia | grind) 0  ⟨ee_K, ee_F0 _ _, by exact rfl⟩
def e_X0_brings (u : uk_Mem) (kb : Nat) (g : Int32) (b : Int32) : Int32 := let x4 : Int32 := (e_X6_stuffOf u g); if (10 : Int32) ≤ g then (let x7 : Int32 := u.1 (kb + 2) x4.toNatClampNeg; if x7 = b then ((1 : Int32)) else (let x10 : Int32 := u.1 (kb + 3) x4.toNatClampNeg; if x10 = b then ((1 : Int32)) else ((0 : Int32)))) else (if x4 = b then ((1 : Int32)) else ((0 : Int32)))
abbrev qe_X0_brings (u : uk_Mem) (kb : Nat) (g : Int32) (b : Int32) (r : Option Value) (u' : uk_Mem) : Prop := (q_X0_brings u kb g b r u') ∧ (r = some (.int (e_X0_brings u kb g b)))
set_option maxHeartbeats 4000000 in
set_option maxRecDepth 20000 in
theorem x_X0_brings {G : uk_D} (hs : uk_Sep G) {u : uk_Mem} (hu : iv u) {kb : Nat} (hkb : uk_isK kb) (g : Int32) (b : Int32) (p0 : (0 ≤ g ∧ g ≤ 7) ∨ (10 ≤ g ∧ g ≤ 17)) (d : Nat) : uk_Meth G (d + 1) mX0_brings [.ref (uk_ad G kb), .int g, .int b] u (qe_X0_brings u kb g b) := by
  refine uk_Meth.of hs (by decide) (Nat.le_of_ble_eq_true rfl) (fun X => ?_)
  refine g_iload_n dX0_brings_0 rfl ?_
  refine cl_X0_53 (As := [.int g]) rfl (x_X6_stuffOf (G := G) hs hu  g  (d)) rfl (by omega) rfl (Nat.le_of_ble_eq_true rfl) dX0_brings_1 (fun r1 u2 q3 => ?_)
  obtain ⟨q3, Eq3⟩ := q3
  obtain ⟨⟨x4, rfl, tx4⟩, mq3⟩ := q3
  rw [mq3]
  have ex4 : x4 = (e_X6_stuffOf u g) := ee_v Eq3
  refine g_istore_n dX0_brings_4 (by decide) ?_
  refine g_pick (lv' := [(0, .ref (uk_ad G kb)), (1, .int g), (2, .int b), (3, .int x4)]) [0, 1, 2, 3] rfl ?_
  refine g_iload_n dX0_brings_5 rfl ?_
  refine g_bipush (v := 10) dX0_brings_6 (by decide) ?_
  refine g_icmp_ge (tgt := 24) dX0_brings_8 (by decide) (fun c5 => ?_) (fun c5 => ?_)
  · refine g_aload_n dX0_brings_24 rfl ?_
    refine f_X0_19 rfl (kk_0 hkb) dX0_brings_25 ?_
    refine g_iload_n dX0_brings_28 rfl ?_
    have v6 : vp_in x4 8 := uk_vin 8 rfl (by first | decide | lia | grind) (by first | decide | lia | grind)
    refine g_iald (kk_2 hkb) (kl_2 hkb) v6 dX0_brings_29 ?_
    refine g_topi (fun x7 ex7 => ?_)
    have bx7 := uk_cl v6
    have rx7 : 0 ≤ x7 ∧ x7 ≤ 7 := by rw [ex7]; exact iv_at hu _ _ (ka_2 hkb _ (by omega))
    refine g_iload_n dX0_brings_30 rfl ?_
    refine g_icmp_eq (tgt := 44) dX0_brings_31 (by decide) (fun c8 => ?_) (fun c8 => ?_)
    · refine g_iconst (v := 1) dX0_brings_44 (by decide) ?_
      refine g_goto (tgt := 49) dX0_brings_45 (by decide) ?_
      exact g_iret (ty := .boolean) dX0_brings_49 rfl rfl ⟨⟨⟨1, rfl, Or.inr rfl, fun _ => by first | trivial | lia | grind, fun q => absurd q (by decide)⟩, rfl⟩, ee_p (by subst ex7; subst ex4; exact (if_pos c5).trans ((if_pos c8).trans (rfl)))⟩
    · refine g_aload_n dX0_brings_34 rfl ?_
      refine f_X0_22 rfl (kk_0 hkb) dX0_brings_35 ?_
      refine g_iload_n dX0_brings_38 rfl ?_
      have v9 : vp_in x4 8 := uk_vin 8 rfl (by first | decide | lia | grind) (by first | decide | lia | grind)
      refine g_iald (kk_3 hkb) (kl_3 hkb) v9 dX0_brings_39 ?_
      refine g_topi (fun x10 ex10 => ?_)
      have bx10 := uk_cl v9
      have rx10 : 0 ≤ x10 ∧ x10 ≤ 7 := by rw [ex10]; exact iv_at hu _ _ (ka_3 hkb _ (by omega))
      refine g_iload_n dX0_brings_40 rfl ?_
      refine g_icmp_ne (tgt := 48) dX0_brings_41 (by decide) (fun c11 => ?_) (fun c11 => ?_)
      · refine g_iconst (v := 0) dX0_brings_48 (by decide) ?_
        exact g_iret (ty := .boolean) dX0_brings_49 rfl rfl ⟨⟨⟨0, rfl, Or.inl rfl, fun q => absurd rfl q, fun _ => by first | trivial | lia | grind⟩, rfl⟩, ee_p (by subst ex10; subst ex7; subst ex4; exact (if_pos c5).trans ((if_neg c8).trans ((if_neg c11).trans (rfl))))⟩
      · refine g_iconst (v := 1) dX0_brings_44 (by decide) ?_
        refine g_goto (tgt := 49) dX0_brings_45 (by decide) ?_
        exact g_iret (ty := .boolean) dX0_brings_49 rfl rfl ⟨⟨⟨1, rfl, Or.inr rfl, fun _ => by first | trivial | lia | grind, fun q => absurd q (by decide)⟩, rfl⟩, ee_p (by subst ex10; subst ex7; subst ex4; exact (if_pos c5).trans ((if_neg c8).trans ((if_pos c11).trans (rfl))))⟩
  · refine g_iload_n dX0_brings_11 rfl ?_
    refine g_iload_n dX0_brings_12 rfl ?_
    refine g_icmp_ne (tgt := 20) dX0_brings_13 (by decide) (fun c12 => ?_) (fun c12 => ?_)
    · refine g_iconst (v := 0) dX0_brings_20 (by decide) ?_
      refine g_goto (tgt := 49) dX0_brings_21 (by decide) ?_
      exact g_iret (ty := .boolean) dX0_brings_49 rfl rfl ⟨⟨⟨0, rfl, Or.inl rfl, fun q => absurd rfl q, fun _ => by first | trivial | lia | grind⟩, rfl⟩, ee_p (by subst ex4; exact (if_neg c5).trans ((if_neg c12).trans (rfl)))⟩
    · refine g_iconst (v := 1) dX0_brings_16 (by decide) ?_
      refine g_goto (tgt := 49) dX0_brings_17 (by decide) ?_
      exact g_iret (ty := .boolean) dX0_brings_49 rfl rfl ⟨⟨⟨1, rfl, Or.inr rfl, fun _ => by first | trivial | lia | grind, fun q => absurd q (by decide)⟩, rfl⟩, ee_p (by subst ex4; exact (if_neg c5).trans ((if_pos c12).trans (rfl)))⟩
def e_X2_doingAt (u : uk_Mem) (i : Int32) : Int32 := if i < 0 then ((-4 : Int32)) else (let x2 : Int32 := u.1 46 2; if x2 ≤ i then ((-4 : Int32)) else (let x6 : Int32 := u.1 48 i.toNatClampNeg; x6))
abbrev qe_X2_doingAt (u : uk_Mem) (i : Int32) (r : Option Value) (u' : uk_Mem) : Prop := (q_X2_doingAt u i r u') ∧ (r = some (.int (e_X2_doingAt u i)))
set_option maxHeartbeats 4000000 in
set_option maxRecDepth 20000 in
theorem x_X2_doingAt {G : uk_D} (hs : uk_Sep G) {u : uk_Mem} (hu : iv u) (i : Int32) (d : Nat) : uk_Meth G d mX2_doingAt [.ref (uk_ad G 46), .int i] u (qe_X2_doingAt u i) := by
  refine uk_Meth.of hs (by decide) (Nat.le_of_ble_eq_true rfl) (fun X => ?_)
  refine g_iload_n dX2_doingAt_0 rfl ?_
  refine g_if_lt (tgt := 21) dX2_doingAt_1 (by decide) (fun c1 => ?_) (fun c1 => ?_)
  · refine g_bipush (v := (-4)) dX2_doingAt_21 (by decide) ?_
    exact g_iret (ty := .int) dX2_doingAt_23 rfl rfl ⟨⟨⟨_, rfl, by first | trivial | lia | grind⟩, rfl⟩, ee_p (by exact (if_pos c1).trans (rfl))⟩
  · refine g_iload_n dX2_doingAt_4 rfl ?_
    refine g_aload_n dX2_doingAt_5 rfl ?_
    refine f_X2_18 rfl rfl dX2_doingAt_6 ?_
    refine g_topi (fun x2 ex2 => ?_)
    have rx2 : 0 ≤ x2 ∧ x2 ≤ 4 := by rw [ex2]; exact iv_at hu _ _ rfl
    have s3 : u.1 46 2 = x2 := ex2.symm
    refine g_icmp_ge (tgt := 21) dX2_doingAt_9 (by decide) (fun c4 => ?_) (fun c4 => ?_)
    · refine g_bipush (v := (-4)) dX2_doingAt_21 (by decide) ?_
      exact g_iret (ty := .int) dX2_doingAt_23 rfl rfl ⟨⟨⟨_, rfl, by first | trivial | lia | grind⟩, rfl⟩, ee_p (by subst ex2; exact (if_neg c1).trans ((if_pos c4).trans (rfl)))⟩
    · refine g_aload_n dX2_doingAt_12 rfl ?_
      refine f_X2_15 rfl rfl dX2_doingAt_13 ?_
      refine g_iload_n dX2_doingAt_16 rfl ?_
      have v5 : vp_in i 4 := uk_vin 4 rfl (by first | decide | lia | grind) (by first | decide | lia | grind)
      refine g_iald rfl rfl v5 dX2_doingAt_17 ?_
      refine g_topi (fun x6 ex6 => ?_)
      refine g_goto (tgt := 23) dX2_doingAt_18 (by decide) ?_
      exact g_iret (ty := .int) dX2_doingAt_23 rfl rfl ⟨⟨⟨_, rfl, by first | trivial | lia | grind⟩, rfl⟩, ee_p (by subst ex6; subst ex2; exact (if_neg c1).trans ((if_neg c4).trans (rfl)))⟩
def l_X2_keepPath_12 (n : Int32) : Nat → Int32 → uk_Mem → uk_Mem
  | 0, _, u7 => u7
  | K9 + 1, i6, u7 => if n ≤ i6 then (u7) else (let x10 : Int32 := u7.1 47 i6.toNatClampNeg; let u13 : uk_Mem := uk_up u7 48 i6.toNatClampNeg x10; l_X2_keepPath_12 n K9 (i6 + 1) u13)
def e_X2_keepPath (u : uk_Mem) (n : Int32) (s : Int32) : uk_Mem := let u1 : uk_Mem := uk_up u 46 3 s; let u3 : uk_Mem := uk_up u1 46 2 n; l_X2_keepPath_12 n ee_K (0 : Int32) u3
abbrev qe_X2_keepPath (u : uk_Mem) (n : Int32) (s : Int32) (r : Option Value) (u' : uk_Mem) : Prop := (q_X2_keepPath u n s r u') ∧ (u' = e_X2_keepPath u n s)
set_option maxHeartbeats 4000000 in
set_option maxRecDepth 20000 in
theorem x_X2_keepPath {G : uk_D} (hs : uk_Sep G) {u : uk_Mem} (hu : iv u) (n : Int32) (s : Int32) (p0 : 0 ≤ n) (p1 : n ≤ 4) (d : Nat) : uk_Meth G d mX2_keepPath [.ref (uk_ad G 46), .int n, .int s] u (qe_X2_keepPath u n s) := by
  refine uk_Meth.of hs (by decide) (Nat.le_of_ble_eq_true rfl) (fun X => ?_)
  have f0 : fr 46 49 u u := fr_rf
  refine g_aload_n dX2_keepPath_0 rfl ?_
  refine g_iload_n dX2_keepPath_1 rfl ?_
  refine p_X2_22 rfl rfl dX2_keepPath_2 ?_
  refine g_mem (fun u1 eu1 => ?_)
  have hu1 : iv u1 := by rw [eu1]; exact iv_upF hu rfl
  have fu1 : fr 46 49 u u1 := by rw [eu1]; exact fr_up f0 (by omega) (by omega)
  have s2 : u1.1 46 3 = s := by rw [eu1, uk_up_at]; exact if_pos ⟨rfl, rfl⟩
  refine g_aload_n dX2_keepPath_5 rfl ?_
  refine g_iload_n dX2_keepPath_6 rfl ?_
  refine p_X2_18 rfl rfl dX2_keepPath_7 ?_
  refine g_mem (fun u3 eu3 => ?_)
  have hu3 : iv u3 := by rw [eu3]; exact iv_up hu1 rfl (by first | lia | grind) (by first | lia | grind)
  have fu3 : fr 46 49 u u3 := by rw [eu3]; exact fr_up fu1 (by omega) (by omega)
  have s4 : u3.1 46 2 = n := by rw [eu3, uk_up_at]; exact if_pos ⟨rfl, rfl⟩
  refine g_iconst (v := 0) dX2_keepPath_10 (by decide) ?_
  refine g_istore_n dX2_keepPath_11 (by decide) ?_
  refine g_pick (lv' := [(0, .ref (uk_ad G 46)), (1, .int n), (2, .int s), (3, .int 0)]) [0, 1, 2, 3] rfl ?_
  have L12_4 : ∀ i6 : Int32, 0 ≤ i6 → i6 ≤ 4 → ∀ (u7 : uk_Mem), iv u7 → fr 46 49 u u7 → (∃ ki6 : Nat, ee_F 4 i6 ki6 ∧ e_X2_keepPath u n s = l_X2_keepPath_12 n ki6 i6 u7) → uk_G G X mX2_keepPath d (qe_X2_keepPath u n s) 12 [(0, .ref (uk_ad G 46)), (1, .int n), (2, .int s), (3, .int i6)] [] u7 := by
    refine uk_upl 4 ?_
    intro i6 ai6 bi6 ihi6  u7 hu7 fu7 jEi6
    obtain ⟨ki6, fki6, hki6⟩ := jEi6
    obtain ⟨ki6, rfl⟩ := ee_Fp (by first | assumption | lia | grind) fki6
    refine g_iload_n dX2_keepPath_12 rfl ?_
    refine g_iload_n dX2_keepPath_13 rfl ?_
    refine g_icmp_ge (tgt := 35) dX2_keepPath_14 (by decide) (fun c8 => ?_) (fun c8 => ?_)
    · exact g_vret dX2_keepPath_35 rfl ⟨⟨rfl, hu7, fu7⟩, (by exact hki6.trans ((if_pos c8).trans (rfl)) : e_X2_keepPath u n s = u7).symm⟩
    · refine g_aload_n dX2_keepPath_17 rfl ?_
      refine f_X2_15 rfl rfl dX2_keepPath_18 ?_
      refine g_iload_n dX2_keepPath_21 rfl ?_
      refine g_aload_n dX2_keepPath_22 rfl ?_
      refine f_X2_9 rfl rfl dX2_keepPath_23 ?_
      refine g_iload_n dX2_keepPath_26 rfl ?_
      have v9 : vp_in i6 4 := uk_vin 4 rfl (by first | decide | lia | grind) (by first | decide | lia | grind)
      refine g_iald rfl rfl v9 dX2_keepPath_27 ?_
      refine g_topi (fun x10 ex10 => ?_)
      have v11 : vp_in i6 4 := uk_vin 4 rfl (by first | decide | lia | grind) (by first | decide | lia | grind)
      have b12 := uk_cl v11
      refine g_iast rfl rfl v11 dX2_keepPath_28 ?_
      refine g_mem (fun u13 eu13 => ?_)
      have hu13 : iv u13 := by rw [eu13]; exact iv_upF hu7 (uk_pick1 _ (by omega))
      have fu13 : fr 46 49 u u13 := by rw [eu13]; exact fr_up fu7 (by omega) (by omega)
      refine g_iinc (v := i6 + 1) dX2_keepPath_29 rfl rfl (by decide) ?_
      refine g_pick (lv' := [(0, .ref (uk_ad G 46)), (1, .int n), (2, .int s), (3, .int (i6 + 1))]) [0, 1, 2, 3] rfl ?_
      refine g_goto (tgt := 12) dX2_keepPath_32 (by decide) ?_
      refine g_pick (lv' := [(0, .ref (uk_ad G 46)), (1, .int n), (2, .int s), (3, .int (i6 + 1))]) [0, 1, 2, 3] rfl ?_
      exact ihi6 (by first | lia | grind)  u13 hu13 fu13  ⟨ki6, ee_Fs fki6 (by first | assumption | lia | grind), by subst eu13; subst ex10; exact hki6.trans ((if_neg c8).trans (rfl))⟩
  refine g_pick (lv' := [(0, .ref (uk_ad G 46)), (1, .int n), (2, .int s), (3, .int 0)]) [0, 1, 2, 3] rfl ?_
  exact L12_4 0 (by first | decide | lia | grind) (by first | decide | lia | grind)  u3 hu3 fu3  ⟨ee_K, ee_F0 _ _, by subst eu3; subst eu1; exact rfl⟩
def e_X2_tryRicher_0 (u : uk_Mem) (n : Int32) (g : Int32) (s : Int32) : uk_Mem := let u3 : uk_Mem := e_X2_keepPath u n s; u3
abbrev qe_X2_tryRicher_0 (u : uk_Mem) (n : Int32) (g : Int32) (s : Int32) (r : Option Value) (u' : uk_Mem) : Prop := (q_X2_tryRicher_0 u n g s r u') ∧ (u' = e_X2_tryRicher_0 u n g s)
set_option maxHeartbeats 4000000 in
set_option maxRecDepth 20000 in
theorem x_X2_tryRicher_0 {G : uk_D} (hs : uk_Sep G) {u : uk_Mem} (hu : iv u) (n : Int32) (g : Int32) (s : Int32) (p0 : 0 ≤ g) (p1 : g ≤ 4) (p2 : n ≤ 4) (p3 : g = n) (d : Nat) : uk_Meth G (d + 3) mX2_tryRicher [.ref (uk_ad G 46), .ref (uk_ad G 13), .int n, .int g, .int s] u (qe_X2_tryRicher_0 u n g s) := by
  refine uk_Meth.of hs (by decide) (Nat.le_of_ble_eq_true rfl) (fun X => ?_)
  have f0 : fr 13 49 u u := fr_rf
  refine g_iload_n dX2_tryRicher_0 rfl ?_
  refine g_iload_n dX2_tryRicher_1 rfl ?_
  refine g_icmp_lt (tgt := 13) dX2_tryRicher_2 (by decide) (fun c1 => ?_) (fun c1 => ?_)
  · exfalso; grind
  · refine g_aload_n dX2_tryRicher_5 rfl ?_
    refine g_iload_n dX2_tryRicher_6 rfl ?_
    refine g_iload dX2_tryRicher_7 rfl ?_
    refine cl_X2_40 (c := 46) (As := [.int n, .int s]) rfl (x_X2_keepPath (G := G) hs hu  n s (by first | trivial | decide | lia | grind) (by first | trivial | decide | lia | grind) (d + 2)) rfl (by omega) rfl rfl (Nat.le_of_ble_eq_true rfl) dX2_tryRicher_9 (fun r2 u3 q4 => ?_)
    obtain ⟨q4, Eq4⟩ := q4
    obtain ⟨rfl, mq4⟩ := q4
    obtain ⟨hu3, gu3⟩ := mq4
    have fu3 : fr 13 49 u u3 := fr_tr f0 gu3 (by omega) (by omega)
    have eu3 : u3 = e_X2_keepPath u n s := Eq4
    exact g_vret dX2_tryRicher_12 rfl ⟨⟨rfl, hu3, fu3⟩, (by subst eu3; exact rfl : e_X2_tryRicher_0 u n g s = u3).symm⟩
def l_X2_tryRicher_1_28 (s : Int32) (x6 : Int32) (g : Int32) (n : Int32) : Nat → Int32 → uk_Mem → uk_Mem
  | 0, _, u9 => u9
  | K9 + 1, i8, u9 => let x10 : Int32 := u9.1 13 0; let x12 : Int32 := (10 : Int32) + x10; if x12 ≤ i8 then (u9) else (let x17 : Int32 := (e_X0_isAble u9 13 i8); if x17 = 0 then (l_X2_tryRicher_1_28 s x6 g n K9 (i8 + 1) u9) else (let x22 : Int32 := (e_X0_gainOf u9 13 i8); let x23 : Int32 := s + x22; let x24 : Int32 := x23 + x6; let x25 : Int32 := u9.1 46 3; if x24 ≤ x25 then (l_X2_tryRicher_1_28 s x6 g n K9 (i8 + 1) u9) else (let u30 : uk_Mem := uk_up u9 47 g.toNatClampNeg i8; let u32 : uk_Mem := e_X0_perform u30 13 i8; let x35 : Int32 := g + (1 : Int32); let u37 : uk_Mem := e_X2_tryRicher_0 u32 n x35 x23; let u40 : uk_Mem := e_X0_undo u37 13 i8; l_X2_tryRicher_1_28 s x6 g n K9 (i8 + 1) u40)))
def e_X2_tryRicher_1 (u : uk_Mem) (n : Int32) (g : Int32) (s : Int32) : uk_Mem := if g < n then (let x2 : Int32 := n - g; let x3 : Int32 := x2 - (1 : Int32); let x4 : Int32 := u.1 46 4; let x6 : Int32 := x3 * x4; l_X2_tryRicher_1_28 s x6 g n ee_K (0 : Int32) u) else (let u43 : uk_Mem := e_X2_keepPath u n s; u43)
abbrev qe_X2_tryRicher_1 (u : uk_Mem) (n : Int32) (g : Int32) (s : Int32) (r : Option Value) (u' : uk_Mem) : Prop := (q_X2_tryRicher_1 u n g s r u') ∧ (u' = e_X2_tryRicher_1 u n g s)
set_option maxHeartbeats 4000000 in
set_option maxRecDepth 20000 in
theorem x_X2_tryRicher_1 {G : uk_D} (hs : uk_Sep G) {u : uk_Mem} (hu : iv u) (n : Int32) (g : Int32) (s : Int32) (p0 : 0 ≤ g) (p1 : g ≤ 4) (p2 : n ≤ 4) (p3 : g + 1 = n) (d : Nat) : uk_Meth G (d + 4) mX2_tryRicher [.ref (uk_ad G 46), .ref (uk_ad G 13), .int n, .int g, .int s] u (qe_X2_tryRicher_1 u n g s) := by
  refine uk_Meth.of hs (by decide) (Nat.le_of_ble_eq_true rfl) (fun X => ?_)
  have f0 : fr 13 49 u u := fr_rf
  refine g_iload_n dX2_tryRicher_0 rfl ?_
  refine g_iload_n dX2_tryRicher_1 rfl ?_
  refine g_icmp_lt (tgt := 13) dX2_tryRicher_2 (by decide) (fun c1 => ?_) (fun c1 => ?_)
  · refine g_iload_n dX2_tryRicher_13 rfl ?_
    refine g_iload_n dX2_tryRicher_14 rfl ?_
    refine g_isub dX2_tryRicher_15 ?_
    refine g_topi (fun x2 ex2 => ?_)
    refine g_iconst (v := 1) dX2_tryRicher_16 (by decide) ?_
    refine g_isub dX2_tryRicher_17 ?_
    refine g_topi (fun x3 ex3 => ?_)
    refine g_aload_n dX2_tryRicher_18 rfl ?_
    refine f_X2_25 rfl rfl dX2_tryRicher_19 ?_
    refine g_topi (fun x4 ex4 => ?_)
    have s5 : u.1 46 4 = x4 := ex4.symm
    refine g_imul dX2_tryRicher_22 ?_
    refine g_topi (fun x6 ex6 => ?_)
    refine g_istore dX2_tryRicher_23 (by decide) ?_
    refine g_pick (lv' := [(0, .ref (uk_ad G 46)), (1, .ref (uk_ad G 13)), (2, .int n), (3, .int g), (4, .int s), (5, .int x6)]) [0, 1, 2, 3, 4, 5] rfl ?_
    refine g_iconst (v := 0) dX2_tryRicher_25 (by decide) ?_
    refine g_istore dX2_tryRicher_26 (by decide) ?_
    refine g_pick (lv' := [(0, .ref (uk_ad G 46)), (1, .ref (uk_ad G 13)), (2, .int n), (3, .int g), (4, .int s), (5, .int x6), (6, .int 0)]) [0, 1, 2, 3, 4, 5, 6] rfl ?_
    have L28_6 : ∀ i8 : Int32, 0 ≤ i8 → i8 ≤ 18 → ∀ (u9 : uk_Mem), iv u9 → fr 13 49 u u9 → (∃ ki8 : Nat, ee_F 18 i8 ki8 ∧ e_X2_tryRicher_1 u n g s = l_X2_tryRicher_1_28 s x6 g n ki8 i8 u9) → uk_G G X mX2_tryRicher (d + 4) (qe_X2_tryRicher_1 u n g s) 28 [(0, .ref (uk_ad G 46)), (1, .ref (uk_ad G 13)), (2, .int n), (3, .int g), (4, .int s), (5, .int x6), (6, .int i8)] [] u9 := by
      refine uk_upl 18 ?_
      intro i8 ai8 bi8 ihi8  u9 hu9 fu9 jEi8
      obtain ⟨ki8, fki8, hki8⟩ := jEi8
      obtain ⟨ki8, rfl⟩ := ee_Fp (by first | assumption | lia | grind) fki8
      refine g_iload dX2_tryRicher_28 rfl ?_
      refine g_bipush (v := 10) dX2_tryRicher_30 (by decide) ?_
      refine g_aload_n dX2_tryRicher_32 rfl ?_
      refine f_X2_44 rfl rfl dX2_tryRicher_33 ?_
      refine g_topi (fun x10 ex10 => ?_)
      have rx10 : 0 ≤ x10 ∧ x10 ≤ 8 := by rw [ex10]; exact iv_at hu9 _ _ rfl
      have s11 : u9.1 13 0 = x10 := ex10.symm
      refine g_iadd dX2_tryRicher_36 ?_
      refine g_topi (fun x12 ex12 => ?_)
      refine g_icmp_ge (tgt := 112) dX2_tryRicher_37 (by decide) (fun c13 => ?_) (fun c13 => ?_)
      · exact g_vret dX2_tryRicher_112 rfl ⟨⟨rfl, hu9, fu9⟩, (by subst ex12; subst ex10; exact hki8.trans ((if_pos c13).trans (rfl)) : e_X2_tryRicher_1 u n g s = u9).symm⟩
      · refine g_aload_n dX2_tryRicher_40 rfl ?_
        refine g_iload dX2_tryRicher_41 rfl ?_
        refine cl_X2_45 (c := 13) (As := [.int i8]) rfl (x_X0_isAble (G := G) hs hu9 uk_isK13 i8  (d + 1)) rfl (by omega) rfl rfl (Nat.le_of_ble_eq_true rfl) dX2_tryRicher_43 (fun r14 u15 q16 => ?_)
        obtain ⟨q16, Eq16⟩ := q16
        obtain ⟨⟨x17, rfl, tx17, nx17, zx17⟩, mq16⟩ := q16
        rw [mq16]
        have ex17 : x17 = (e_X0_isAble u9 13 i8) := ee_v Eq16
        refine g_if_ne (tgt := 52) dX2_tryRicher_46 (by decide) (fun c18 => ?_) (fun c18 => ?_)
        · have zc18 := nx17 c18
          refine g_iload dX2_tryRicher_52 rfl ?_
          refine g_aload_n dX2_tryRicher_54 rfl ?_
          refine g_iload dX2_tryRicher_55 rfl ?_
          refine cl_X2_49 (c := 13) (As := [.int i8]) rfl (x_X0_gainOf (G := G) hs hu9 uk_isK13 i8 (by first | trivial | decide | lia | grind) (d + 2)) rfl (by omega) rfl rfl (Nat.le_of_ble_eq_true rfl) dX2_tryRicher_57 (fun r19 u20 q21 => ?_)
          obtain ⟨q21, Eq21⟩ := q21
          obtain ⟨⟨x22, rfl, tx22⟩, mq21⟩ := q21
          rw [mq21]
          have ex22 : x22 = (e_X0_gainOf u9 13 i8) := ee_v Eq21
          refine g_iadd dX2_tryRicher_60 ?_
          refine g_topi (fun x23 ex23 => ?_)
          refine g_istore dX2_tryRicher_61 (by decide) ?_
          refine g_pick (lv' := [(0, .ref (uk_ad G 46)), (1, .ref (uk_ad G 13)), (2, .int n), (3, .int g), (4, .int s), (5, .int x6), (6, .int i8), (7, .int x23)]) [0, 1, 2, 3, 4, 5, 6, 7] rfl ?_
          refine g_iload dX2_tryRicher_63 rfl ?_
          refine g_iload dX2_tryRicher_65 rfl ?_
          refine g_iadd dX2_tryRicher_67 ?_
          refine g_topi (fun x24 ex24 => ?_)
          refine g_aload_n dX2_tryRicher_68 rfl ?_
          refine f_X2_22 rfl rfl dX2_tryRicher_69 ?_
          refine g_topi (fun x25 ex25 => ?_)
          have s26 : u9.1 46 3 = x25 := ex25.symm
          refine g_icmp_le (tgt := 106) dX2_tryRicher_72 (by decide) (fun c27 => ?_) (fun c27 => ?_)
          · refine g_iinc (v := i8 + 1) dX2_tryRicher_106 rfl rfl (by decide) ?_
            refine g_pick (lv' := [(0, .ref (uk_ad G 46)), (1, .ref (uk_ad G 13)), (2, .int n), (3, .int g), (4, .int s), (5, .int x6), (6, .int (i8 + 1)), (7, .int x23)]) [0, 1, 2, 3, 4, 5, 6, 7] rfl ?_
            refine g_goto (tgt := 28) dX2_tryRicher_109 (by decide) ?_
            refine g_pick (lv' := [(0, .ref (uk_ad G 46)), (1, .ref (uk_ad G 13)), (2, .int n), (3, .int g), (4, .int s), (5, .int x6), (6, .int (i8 + 1))]) [0, 1, 2, 3, 4, 5, 6] rfl ?_
            exact ihi8 (by first | lia | grind)  u9 hu9 fu9  ⟨ki8, ee_Fs fki8 (by first | assumption | lia | grind), by subst ex25; subst ex24; subst ex23; subst ex22; subst ex17; subst ex12; subst ex10; exact hki8.trans ((if_neg c13).trans ((if_neg c18).trans ((if_pos c27).trans (rfl))))⟩
          · refine g_aload_n dX2_tryRicher_75 rfl ?_
            refine f_X2_9 rfl rfl dX2_tryRicher_76 ?_
            refine g_iload_n dX2_tryRicher_79 rfl ?_
            refine g_iload dX2_tryRicher_80 rfl ?_
            have v28 : vp_in g 4 := uk_vin 4 rfl (by first | decide | lia | grind) (by first | decide | lia | grind)
            have b29 := uk_cl v28
            refine g_iast rfl rfl v28 dX2_tryRicher_82 ?_
            refine g_mem (fun u30 eu30 => ?_)
            have hu30 : iv u30 := by rw [eu30]; exact iv_upF hu9 (uk_pick1 _ (by omega))
            have fu30 : fr 13 49 u u30 := by rw [eu30]; exact fr_up fu9 (by omega) (by omega)
            refine g_aload_n dX2_tryRicher_83 rfl ?_
            refine g_iload dX2_tryRicher_84 rfl ?_
            refine cl_X2_53 (c := 13) (As := [.int i8]) rfl (x_X0_perform (G := G) hs hu30 uk_isK13 i8 (by first | trivial | decide | lia | grind) (d + 1)) rfl (by omega) rfl rfl (Nat.le_of_ble_eq_true rfl) dX2_tryRicher_86 (fun r31 u32 q33 => ?_)
            obtain ⟨q33, Eq33⟩ := q33
            obtain ⟨rfl, mq33⟩ := q33
            obtain ⟨hu32, gu32⟩ := mq33
            have fu32 : fr 13 49 u u32 := fr_tr fu30 gu32 (by omega) (by omega)
            have s34 : u32.1 46 3 = x25 := (fr_at gu32 (by omega)).trans (by simp [eu30, uk_up_at, s26] : u30.1 46 3 = x25)
            have eu32 : u32 = e_X0_perform u30 13 i8 := Eq33
            refine g_aload_n dX2_tryRicher_89 rfl ?_
            refine g_aload_n dX2_tryRicher_90 rfl ?_
            refine g_iload_n dX2_tryRicher_91 rfl ?_
            refine g_iload_n dX2_tryRicher_92 rfl ?_
            refine g_iconst (v := 1) dX2_tryRicher_93 (by decide) ?_
            refine g_iadd dX2_tryRicher_94 ?_
            refine g_topi (fun x35 ex35 => ?_)
            refine g_iload dX2_tryRicher_95 rfl ?_
            refine cl_X2_36 (c := 46) (As := [.ref (uk_ad G 13), .int n, .int x35, .int x23]) rfl (x_X2_tryRicher_0 (G := G) hs hu32  n x35 x23 (by first | trivial | decide | lia | grind) (by first | trivial | decide | lia | grind) (by first | trivial | decide | lia | grind) (by first | trivial | decide | lia | grind) (d)) rfl (by omega) rfl rfl (Nat.le_of_ble_eq_true rfl) dX2_tryRicher_97 (fun r36 u37 q38 => ?_)
            obtain ⟨q38, Eq38⟩ := q38
            obtain ⟨rfl, mq38⟩ := q38
            obtain ⟨hu37, gu37⟩ := mq38
            have fu37 : fr 13 49 u u37 := fr_tr fu32 gu37 (by omega) (by omega)
            have eu37 : u37 = e_X2_tryRicher_0 u32 n x35 x23 := Eq38
            refine g_aload_n dX2_tryRicher_100 rfl ?_
            refine g_iload dX2_tryRicher_101 rfl ?_
            refine cl_X2_57 (c := 13) (As := [.int i8]) rfl (x_X0_undo (G := G) hs hu37 uk_isK13 i8 (by first | trivial | decide | lia | grind) (d + 1)) rfl (by omega) rfl rfl (Nat.le_of_ble_eq_true rfl) dX2_tryRicher_103 (fun r39 u40 q41 => ?_)
            obtain ⟨q41, Eq41⟩ := q41
            obtain ⟨rfl, mq41⟩ := q41
            obtain ⟨hu40, gu40⟩ := mq41
            have fu40 : fr 13 49 u u40 := fr_tr fu37 gu40 (by omega) (by omega)
            have eu40 : u40 = e_X0_undo u37 13 i8 := Eq41
            refine g_iinc (v := i8 + 1) dX2_tryRicher_106 rfl rfl (by decide) ?_
            refine g_pick (lv' := [(0, .ref (uk_ad G 46)), (1, .ref (uk_ad G 13)), (2, .int n), (3, .int g), (4, .int s), (5, .int x6), (6, .int (i8 + 1)), (7, .int x23)]) [0, 1, 2, 3, 4, 5, 6, 7] rfl ?_
            refine g_goto (tgt := 28) dX2_tryRicher_109 (by decide) ?_
            refine g_pick (lv' := [(0, .ref (uk_ad G 46)), (1, .ref (uk_ad G 13)), (2, .int n), (3, .int g), (4, .int s), (5, .int x6), (6, .int (i8 + 1))]) [0, 1, 2, 3, 4, 5, 6] rfl ?_
            exact ihi8 (by first | lia | grind)  u40 hu40 fu40  ⟨ki8, ee_Fs fki8 (by first | assumption | lia | grind), by subst eu40; subst eu37; subst ex35; subst eu32; subst eu30; subst ex25; subst ex24; subst ex23; subst ex22; subst ex17; subst ex12; subst ex10; exact hki8.trans ((if_neg c13).trans ((if_neg c18).trans ((if_neg c27).trans (rfl))))⟩
        · have zc18 := zx17 c18
          refine g_goto (tgt := 106) dX2_tryRicher_49 (by decide) ?_
          refine g_iinc (v := i8 + 1) dX2_tryRicher_106 rfl rfl (by decide) ?_
          refine g_pick (lv' := [(0, .ref (uk_ad G 46)), (1, .ref (uk_ad G 13)), (2, .int n), (3, .int g), (4, .int s), (5, .int x6), (6, .int (i8 + 1))]) [0, 1, 2, 3, 4, 5, 6] rfl ?_
          refine g_goto (tgt := 28) dX2_tryRicher_109 (by decide) ?_
          refine g_pick (lv' := [(0, .ref (uk_ad G 46)), (1, .ref (uk_ad G 13)), (2, .int n), (3, .int g), (4, .int s), (5, .int x6), (6, .int (i8 + 1))]) [0, 1, 2, 3, 4, 5, 6] rfl ?_
          exact ihi8 (by first | lia | grind)  u9 hu9 fu9  ⟨ki8, ee_Fs fki8 (by first | assumption | lia | grind), by subst ex17; subst ex12; subst ex10; exact hki8.trans ((if_neg c13).trans ((if_pos c18).trans (rfl)))⟩
    refine g_pick (lv' := [(0, .ref (uk_ad G 46)), (1, .ref (uk_ad G 13)), (2, .int n), (3, .int g), (4, .int s), (5, .int x6), (6, .int 0)]) [0, 1, 2, 3, 4, 5, 6] rfl ?_
    exact L28_6 0 (by first | decide | lia | grind) (by first | decide | lia | grind)  u hu f0  ⟨ee_K, ee_F0 _ _, by subst ex6; subst ex4; subst ex3; subst ex2; exact (if_pos c1).trans (rfl)⟩
  · refine g_aload_n dX2_tryRicher_5 rfl ?_
    refine g_iload_n dX2_tryRicher_6 rfl ?_
    refine g_iload dX2_tryRicher_7 rfl ?_
    refine cl_X2_40 (c := 46) (As := [.int n, .int s]) rfl (x_X2_keepPath (G := G) hs hu  n s (by first | trivial | decide | lia | grind) (by first | trivial | decide | lia | grind) (d + 3)) rfl (by omega) rfl rfl (Nat.le_of_ble_eq_true rfl) dX2_tryRicher_9 (fun r42 u43 q44 => ?_)
    obtain ⟨q44, Eq44⟩ := q44
    obtain ⟨rfl, mq44⟩ := q44
    obtain ⟨hu43, gu43⟩ := mq44
    have fu43 : fr 13 49 u u43 := fr_tr f0 gu43 (by omega) (by omega)
    have eu43 : u43 = e_X2_keepPath u n s := Eq44
    exact g_vret dX2_tryRicher_12 rfl ⟨⟨rfl, hu43, fu43⟩, (by subst eu43; exact (if_neg c1).trans (rfl) : e_X2_tryRicher_1 u n g s = u43).symm⟩
def l_X2_tryRicher_2_28 (s : Int32) (x6 : Int32) (g : Int32) (n : Int32) : Nat → Int32 → uk_Mem → uk_Mem
  | 0, _, u9 => u9
  | K9 + 1, i8, u9 => let x10 : Int32 := u9.1 13 0; let x12 : Int32 := (10 : Int32) + x10; if x12 ≤ i8 then (u9) else (let x17 : Int32 := (e_X0_isAble u9 13 i8); if x17 = 0 then (l_X2_tryRicher_2_28 s x6 g n K9 (i8 + 1) u9) else (let x22 : Int32 := (e_X0_gainOf u9 13 i8); let x23 : Int32 := s + x22; let x24 : Int32 := x23 + x6; let x25 : Int32 := u9.1 46 3; if x24 ≤ x25 then (l_X2_tryRicher_2_28 s x6 g n K9 (i8 + 1) u9) else (let u30 : uk_Mem := uk_up u9 47 g.toNatClampNeg i8; let u32 : uk_Mem := e_X0_perform u30 13 i8; let x35 : Int32 := g + (1 : Int32); let u37 : uk_Mem := e_X2_tryRicher_1 u32 n x35 x23; let u40 : uk_Mem := e_X0_undo u37 13 i8; l_X2_tryRicher_2_28 s x6 g n K9 (i8 + 1) u40)))
def e_X2_tryRicher_2 (u : uk_Mem) (n : Int32) (g : Int32) (s : Int32) : uk_Mem := if g < n then (let x2 : Int32 := n - g; let x3 : Int32 := x2 - (1 : Int32); let x4 : Int32 := u.1 46 4; let x6 : Int32 := x3 * x4; l_X2_tryRicher_2_28 s x6 g n ee_K (0 : Int32) u) else (let u43 : uk_Mem := e_X2_keepPath u n s; u43)
abbrev qe_X2_tryRicher_2 (u : uk_Mem) (n : Int32) (g : Int32) (s : Int32) (r : Option Value) (u' : uk_Mem) : Prop := (q_X2_tryRicher_2 u n g s r u') ∧ (u' = e_X2_tryRicher_2 u n g s)
set_option maxHeartbeats 4000000 in
set_option maxRecDepth 20000 in
theorem x_X2_tryRicher_2 {G : uk_D} (hs : uk_Sep G) {u : uk_Mem} (hu : iv u) (n : Int32) (g : Int32) (s : Int32) (p0 : 0 ≤ g) (p1 : g ≤ 4) (p2 : n ≤ 4) (p3 : g + 2 = n) (d : Nat) : uk_Meth G (d + 5) mX2_tryRicher [.ref (uk_ad G 46), .ref (uk_ad G 13), .int n, .int g, .int s] u (qe_X2_tryRicher_2 u n g s) := by
  refine uk_Meth.of hs (by decide) (Nat.le_of_ble_eq_true rfl) (fun X => ?_)
  have f0 : fr 13 49 u u := fr_rf
  refine g_iload_n dX2_tryRicher_0 rfl ?_
  refine g_iload_n dX2_tryRicher_1 rfl ?_
  refine g_icmp_lt (tgt := 13) dX2_tryRicher_2 (by decide) (fun c1 => ?_) (fun c1 => ?_)
  · refine g_iload_n dX2_tryRicher_13 rfl ?_
    refine g_iload_n dX2_tryRicher_14 rfl ?_
    refine g_isub dX2_tryRicher_15 ?_
    refine g_topi (fun x2 ex2 => ?_)
    refine g_iconst (v := 1) dX2_tryRicher_16 (by decide) ?_
    refine g_isub dX2_tryRicher_17 ?_
    refine g_topi (fun x3 ex3 => ?_)
    refine g_aload_n dX2_tryRicher_18 rfl ?_
    refine f_X2_25 rfl rfl dX2_tryRicher_19 ?_
    refine g_topi (fun x4 ex4 => ?_)
    have s5 : u.1 46 4 = x4 := ex4.symm
    refine g_imul dX2_tryRicher_22 ?_
    refine g_topi (fun x6 ex6 => ?_)
    refine g_istore dX2_tryRicher_23 (by decide) ?_
    refine g_pick (lv' := [(0, .ref (uk_ad G 46)), (1, .ref (uk_ad G 13)), (2, .int n), (3, .int g), (4, .int s), (5, .int x6)]) [0, 1, 2, 3, 4, 5] rfl ?_
    refine g_iconst (v := 0) dX2_tryRicher_25 (by decide) ?_
    refine g_istore dX2_tryRicher_26 (by decide) ?_
    refine g_pick (lv' := [(0, .ref (uk_ad G 46)), (1, .ref (uk_ad G 13)), (2, .int n), (3, .int g), (4, .int s), (5, .int x6), (6, .int 0)]) [0, 1, 2, 3, 4, 5, 6] rfl ?_
    have L28_6 : ∀ i8 : Int32, 0 ≤ i8 → i8 ≤ 18 → ∀ (u9 : uk_Mem), iv u9 → fr 13 49 u u9 → (∃ ki8 : Nat, ee_F 18 i8 ki8 ∧ e_X2_tryRicher_2 u n g s = l_X2_tryRicher_2_28 s x6 g n ki8 i8 u9) → uk_G G X mX2_tryRicher (d + 5) (qe_X2_tryRicher_2 u n g s) 28 [(0, .ref (uk_ad G 46)), (1, .ref (uk_ad G 13)), (2, .int n), (3, .int g), (4, .int s), (5, .int x6), (6, .int i8)] [] u9 := by
      refine uk_upl 18 ?_
      intro i8 ai8 bi8 ihi8  u9 hu9 fu9 jEi8
      obtain ⟨ki8, fki8, hki8⟩ := jEi8
      obtain ⟨ki8, rfl⟩ := ee_Fp (by first | assumption | lia | grind) fki8
      refine g_iload dX2_tryRicher_28 rfl ?_
      refine g_bipush (v := 10) dX2_tryRicher_30 (by decide) ?_
      refine g_aload_n dX2_tryRicher_32 rfl ?_
      refine f_X2_44 rfl rfl dX2_tryRicher_33 ?_
      refine g_topi (fun x10 ex10 => ?_)
      have rx10 : 0 ≤ x10 ∧ x10 ≤ 8 := by rw [ex10]; exact iv_at hu9 _ _ rfl
      have s11 : u9.1 13 0 = x10 := ex10.symm
      refine g_iadd dX2_tryRicher_36 ?_
      refine g_topi (fun x12 ex12 => ?_)
      refine g_icmp_ge (tgt := 112) dX2_tryRicher_37 (by decide) (fun c13 => ?_) (fun c13 => ?_)
      · exact g_vret dX2_tryRicher_112 rfl ⟨⟨rfl, hu9, fu9⟩, (by subst ex12; subst ex10; exact hki8.trans ((if_pos c13).trans (rfl)) : e_X2_tryRicher_2 u n g s = u9).symm⟩
      · refine g_aload_n dX2_tryRicher_40 rfl ?_
        refine g_iload dX2_tryRicher_41 rfl ?_
        refine cl_X2_45 (c := 13) (As := [.int i8]) rfl (x_X0_isAble (G := G) hs hu9 uk_isK13 i8  (d + 2)) rfl (by omega) rfl rfl (Nat.le_of_ble_eq_true rfl) dX2_tryRicher_43 (fun r14 u15 q16 => ?_)
        obtain ⟨q16, Eq16⟩ := q16
        obtain ⟨⟨x17, rfl, tx17, nx17, zx17⟩, mq16⟩ := q16
        rw [mq16]
        have ex17 : x17 = (e_X0_isAble u9 13 i8) := ee_v Eq16
        refine g_if_ne (tgt := 52) dX2_tryRicher_46 (by decide) (fun c18 => ?_) (fun c18 => ?_)
        · have zc18 := nx17 c18
          refine g_iload dX2_tryRicher_52 rfl ?_
          refine g_aload_n dX2_tryRicher_54 rfl ?_
          refine g_iload dX2_tryRicher_55 rfl ?_
          refine cl_X2_49 (c := 13) (As := [.int i8]) rfl (x_X0_gainOf (G := G) hs hu9 uk_isK13 i8 (by first | trivial | decide | lia | grind) (d + 3)) rfl (by omega) rfl rfl (Nat.le_of_ble_eq_true rfl) dX2_tryRicher_57 (fun r19 u20 q21 => ?_)
          obtain ⟨q21, Eq21⟩ := q21
          obtain ⟨⟨x22, rfl, tx22⟩, mq21⟩ := q21
          rw [mq21]
          have ex22 : x22 = (e_X0_gainOf u9 13 i8) := ee_v Eq21
          refine g_iadd dX2_tryRicher_60 ?_
          refine g_topi (fun x23 ex23 => ?_)
          refine g_istore dX2_tryRicher_61 (by decide) ?_
          refine g_pick (lv' := [(0, .ref (uk_ad G 46)), (1, .ref (uk_ad G 13)), (2, .int n), (3, .int g), (4, .int s), (5, .int x6), (6, .int i8), (7, .int x23)]) [0, 1, 2, 3, 4, 5, 6, 7] rfl ?_
          refine g_iload dX2_tryRicher_63 rfl ?_
          refine g_iload dX2_tryRicher_65 rfl ?_
          refine g_iadd dX2_tryRicher_67 ?_
          refine g_topi (fun x24 ex24 => ?_)
          refine g_aload_n dX2_tryRicher_68 rfl ?_
          refine f_X2_22 rfl rfl dX2_tryRicher_69 ?_
          refine g_topi (fun x25 ex25 => ?_)
          have s26 : u9.1 46 3 = x25 := ex25.symm
          refine g_icmp_le (tgt := 106) dX2_tryRicher_72 (by decide) (fun c27 => ?_) (fun c27 => ?_)
          · refine g_iinc (v := i8 + 1) dX2_tryRicher_106 rfl rfl (by decide) ?_
            refine g_pick (lv' := [(0, .ref (uk_ad G 46)), (1, .ref (uk_ad G 13)), (2, .int n), (3, .int g), (4, .int s), (5, .int x6), (6, .int (i8 + 1)), (7, .int x23)]) [0, 1, 2, 3, 4, 5, 6, 7] rfl ?_
            refine g_goto (tgt := 28) dX2_tryRicher_109 (by decide) ?_
            refine g_pick (lv' := [(0, .ref (uk_ad G 46)), (1, .ref (uk_ad G 13)), (2, .int n), (3, .int g), (4, .int s), (5, .int x6), (6, .int (i8 + 1))]) [0, 1, 2, 3, 4, 5, 6] rfl ?_
            exact ihi8 (by first | lia | grind)  u9 hu9 fu9  ⟨ki8, ee_Fs fki8 (by first | assumption | lia | grind), by subst ex25; subst ex24; subst ex23; subst ex22; subst ex17; subst ex12; subst ex10; exact hki8.trans ((if_neg c13).trans ((if_neg c18).trans ((if_pos c27).trans (rfl))))⟩
          · refine g_aload_n dX2_tryRicher_75 rfl ?_
            refine f_X2_9 rfl rfl dX2_tryRicher_76 ?_
            refine g_iload_n dX2_tryRicher_79 rfl ?_
            refine g_iload dX2_tryRicher_80 rfl ?_
            have v28 : vp_in g 4 := uk_vin 4 rfl (by first | decide | lia | grind) (by first | decide | lia | grind)
            have b29 := uk_cl v28
            refine g_iast rfl rfl v28 dX2_tryRicher_82 ?_
            refine g_mem (fun u30 eu30 => ?_)
            have hu30 : iv u30 := by rw [eu30]; exact iv_upF hu9 (uk_pick1 _ (by omega))
            have fu30 : fr 13 49 u u30 := by rw [eu30]; exact fr_up fu9 (by omega) (by omega)
            refine g_aload_n dX2_tryRicher_83 rfl ?_
            refine g_iload dX2_tryRicher_84 rfl ?_
            refine cl_X2_53 (c := 13) (As := [.int i8]) rfl (x_X0_perform (G := G) hs hu30 uk_isK13 i8 (by first | trivial | decide | lia | grind) (d + 2)) rfl (by omega) rfl rfl (Nat.le_of_ble_eq_true rfl) dX2_tryRicher_86 (fun r31 u32 q33 => ?_)
            obtain ⟨q33, Eq33⟩ := q33
            obtain ⟨rfl, mq33⟩ := q33
            obtain ⟨hu32, gu32⟩ := mq33
            have fu32 : fr 13 49 u u32 := fr_tr fu30 gu32 (by omega) (by omega)
            have s34 : u32.1 46 3 = x25 := (fr_at gu32 (by omega)).trans (by simp [eu30, uk_up_at, s26] : u30.1 46 3 = x25)
            have eu32 : u32 = e_X0_perform u30 13 i8 := Eq33
            refine g_aload_n dX2_tryRicher_89 rfl ?_
            refine g_aload_n dX2_tryRicher_90 rfl ?_
            refine g_iload_n dX2_tryRicher_91 rfl ?_
            refine g_iload_n dX2_tryRicher_92 rfl ?_
            refine g_iconst (v := 1) dX2_tryRicher_93 (by decide) ?_
            refine g_iadd dX2_tryRicher_94 ?_
            refine g_topi (fun x35 ex35 => ?_)
            refine g_iload dX2_tryRicher_95 rfl ?_
            refine cl_X2_36 (c := 46) (As := [.ref (uk_ad G 13), .int n, .int x35, .int x23]) rfl (x_X2_tryRicher_1 (G := G) hs hu32  n x35 x23 (by first | trivial | decide | lia | grind) (by first | trivial | decide | lia | grind) (by first | trivial | decide | lia | grind) (by first | trivial | decide | lia | grind) (d)) rfl (by omega) rfl rfl (Nat.le_of_ble_eq_true rfl) dX2_tryRicher_97 (fun r36 u37 q38 => ?_)
            obtain ⟨q38, Eq38⟩ := q38
            obtain ⟨rfl, mq38⟩ := q38
            obtain ⟨hu37, gu37⟩ := mq38
            have fu37 : fr 13 49 u u37 := fr_tr fu32 gu37 (by omega) (by omega)
            have eu37 : u37 = e_X2_tryRicher_1 u32 n x35 x23 := Eq38
            refine g_aload_n dX2_tryRicher_100 rfl ?_
            refine g_iload dX2_tryRicher_101 rfl ?_
            refine cl_X2_57 (c := 13) (As := [.int i8]) rfl (x_X0_undo (G := G) hs hu37 uk_isK13 i8 (by first | trivial | decide | lia | grind) (d + 2)) rfl (by omega) rfl rfl (Nat.le_of_ble_eq_true rfl) dX2_tryRicher_103 (fun r39 u40 q41 => ?_)
            obtain ⟨q41, Eq41⟩ := q41
            obtain ⟨rfl, mq41⟩ := q41
            obtain ⟨hu40, gu40⟩ := mq41
            have fu40 : fr 13 49 u u40 := fr_tr fu37 gu40 (by omega) (by omega)
            have eu40 : u40 = e_X0_undo u37 13 i8 := Eq41
            refine g_iinc (v := i8 + 1) dX2_tryRicher_106 rfl rfl (by decide) ?_
            refine g_pick (lv' := [(0, .ref (uk_ad G 46)), (1, .ref (uk_ad G 13)), (2, .int n), (3, .int g), (4, .int s), (5, .int x6), (6, .int (i8 + 1)), (7, .int x23)]) [0, 1, 2, 3, 4, 5, 6, 7] rfl ?_
            refine g_goto (tgt := 28) dX2_tryRicher_109 (by decide) ?_
            refine g_pick (lv' := [(0, .ref (uk_ad G 46)), (1, .ref (uk_ad G 13)), (2, .int n), (3, .int g), (4, .int s), (5, .int x6), (6, .int (i8 + 1))]) [0, 1, 2, 3, 4, 5, 6] rfl ?_
            exact ihi8 (by first | lia | grind)  u40 hu40 fu40  ⟨ki8, ee_Fs fki8 (by first | assumption | lia | grind), by subst eu40; subst eu37; subst ex35; subst eu32; subst eu30; subst ex25; subst ex24; subst ex23; subst ex22; subst ex17; subst ex12; subst ex10; exact hki8.trans ((if_neg c13).trans ((if_neg c18).trans ((if_neg c27).trans (rfl))))⟩
        · have zc18 := zx17 c18
          refine g_goto (tgt := 106) dX2_tryRicher_49 (by decide) ?_
          refine g_iinc (v := i8 + 1) dX2_tryRicher_106 rfl rfl (by decide) ?_
          refine g_pick (lv' := [(0, .ref (uk_ad G 46)), (1, .ref (uk_ad G 13)), (2, .int n), (3, .int g), (4, .int s), (5, .int x6), (6, .int (i8 + 1))]) [0, 1, 2, 3, 4, 5, 6] rfl ?_
          refine g_goto (tgt := 28) dX2_tryRicher_109 (by decide) ?_
          refine g_pick (lv' := [(0, .ref (uk_ad G 46)), (1, .ref (uk_ad G 13)), (2, .int n), (3, .int g), (4, .int s), (5, .int x6), (6, .int (i8 + 1))]) [0, 1, 2, 3, 4, 5, 6] rfl ?_
          exact ihi8 (by first | lia | grind)  u9 hu9 fu9  ⟨ki8, ee_Fs fki8 (by first | assumption | lia | grind), by subst ex17; subst ex12; subst ex10; exact hki8.trans ((if_neg c13).trans ((if_pos c18).trans (rfl)))⟩
    refine g_pick (lv' := [(0, .ref (uk_ad G 46)), (1, .ref (uk_ad G 13)), (2, .int n), (3, .int g), (4, .int s), (5, .int x6), (6, .int 0)]) [0, 1, 2, 3, 4, 5, 6] rfl ?_
    exact L28_6 0 (by first | decide | lia | grind) (by first | decide | lia | grind)  u hu f0  ⟨ee_K, ee_F0 _ _, by subst ex6; subst ex4; subst ex3; subst ex2; exact (if_pos c1).trans (rfl)⟩
  · refine g_aload_n dX2_tryRicher_5 rfl ?_
    refine g_iload_n dX2_tryRicher_6 rfl ?_
    refine g_iload dX2_tryRicher_7 rfl ?_
    refine cl_X2_40 (c := 46) (As := [.int n, .int s]) rfl (x_X2_keepPath (G := G) hs hu  n s (by first | trivial | decide | lia | grind) (by first | trivial | decide | lia | grind) (d + 4)) rfl (by omega) rfl rfl (Nat.le_of_ble_eq_true rfl) dX2_tryRicher_9 (fun r42 u43 q44 => ?_)
    obtain ⟨q44, Eq44⟩ := q44
    obtain ⟨rfl, mq44⟩ := q44
    obtain ⟨hu43, gu43⟩ := mq44
    have fu43 : fr 13 49 u u43 := fr_tr f0 gu43 (by omega) (by omega)
    have eu43 : u43 = e_X2_keepPath u n s := Eq44
    exact g_vret dX2_tryRicher_12 rfl ⟨⟨rfl, hu43, fu43⟩, (by subst eu43; exact (if_neg c1).trans (rfl) : e_X2_tryRicher_2 u n g s = u43).symm⟩
