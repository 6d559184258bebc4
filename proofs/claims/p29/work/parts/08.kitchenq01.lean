abbrev q_X0_perform (u : uk_Mem) (kb : Nat) (g : Int32) (r : Option Value) (u' : uk_Mem) : Prop := (r = none) ∧ (iv u' ∧ fr kb (kb + 9) u u')
set_option maxHeartbeats 4000000 in
set_option maxRecDepth 20000 in
theorem c_X0_perform {G : uk_D} (hs : uk_Sep G) {u : uk_Mem} (hu : iv u) {kb : Nat} (hkb : uk_isK kb) (g : Int32) (p0 : (0 ≤ g ∧ g ≤ 7) ∨ (10 ≤ g ∧ g ≤ 17)) (d : Nat) : uk_Meth G (d + 2) mX0_perform [.ref (uk_ad G kb), .int g] u (q_X0_perform u kb g) := by
  refine uk_Meth.of hs (by decide) (Nat.le_of_ble_eq_true rfl) (fun X => ?_)
  have f0 : fr kb (kb + 9) u u := fr_rf
  refine g_iload_n dX0_perform_0 rfl ?_
  refine cl_X0_53 (As := [.int g]) rfl (c_X6_stuffOf (G := G) hs hu  g  (d + 1)) rfl (by omega) rfl (Nat.le_of_ble_eq_true rfl) dX0_perform_1 (fun r1 u2 q3 => ?_)
  obtain ⟨⟨x4, rfl, tx4⟩, mq3⟩ := q3
  rw [mq3]
  refine g_istore_n dX0_perform_4 (by decide) ?_
  refine g_pick (lv' := [(0, .ref (uk_ad G kb)), (1, .int g), (2, .int x4)]) [0, 1, 2] rfl ?_
  refine g_iload_n dX0_perform_5 rfl ?_
  refine g_bipush (v := 10) dX0_perform_6 (by decide) ?_
  refine g_icmp_lt (tgt := 25) dX0_perform_8 (by decide) (fun c5 => ?_) (fun c5 => ?_)
  · refine g_aload_n dX0_perform_25 rfl ?_
    refine g_iload_n dX0_perform_26 rfl ?_
    refine g_iconst (v := 1) dX0_perform_27 (by decide) ?_
    refine cl_X0_82 (c := kb) (As := [.int x4, .int 1]) rfl (c_X0_moveCooked (G := G) hs hu hkb x4 1 (by first | trivial | decide | lia | grind) (by first | trivial | decide | lia | grind) (d + 1)) rfl (by omega) (kk_0 hkb) rfl (Nat.le_of_ble_eq_true rfl) dX0_perform_28 (fun r6 u7 q8 => ?_)
    obtain ⟨rfl, mq8⟩ := q8
    obtain ⟨hu7, gu7⟩ := mq8
    have fu7 : fr kb (kb + 9) u u7 := fr_tr f0 gu7 (by omega) (by omega)
    refine g_aload_n dX0_perform_31 rfl ?_
    refine g_dup dX0_perform_32 rfl ?_
    refine f_X0_46 rfl (kk_0 hkb) dX0_perform_33 ?_
    refine g_topi (fun x9 ex9 => ?_)
    have s10 : u7.1 kb 11 = x9 := ex9.symm
    refine g_iconst (v := 1) dX0_perform_36 (by decide) ?_
    refine g_iadd dX0_perform_37 ?_
    refine g_topi (fun x11 ex11 => ?_)
    refine p_X0_46 rfl (kk_0 hkb) dX0_perform_38 ?_
    refine g_mem (fun u12 eu12 => ?_)
    have hu12 : iv u12 := by rw [eu12]; exact iv_upF hu7 (kr_11 hkb)
    have fu12 : fr kb (kb + 9) u u12 := by rw [eu12]; exact fr_up fu7 (by omega) (by omega)
    have s13 : u12.1 kb 11 = x11 := by rw [eu12, uk_up_at]; exact if_pos ⟨rfl, rfl⟩
    exact g_vret dX0_perform_41 rfl ⟨rfl, hu12, fu12⟩
  · refine g_aload_n dX0_perform_11 rfl ?_
    refine g_iload_n dX0_perform_12 rfl ?_
    refine g_iconst (v := 1) dX0_perform_13 (by decide) ?_
    refine cl_X0_74 (c := kb) (As := [.int x4, .int 1]) rfl (c_X0_moveTurned (G := G) hs hu hkb x4 1 (by first | trivial | decide | lia | grind) (by first | trivial | decide | lia | grind) (d)) rfl (by omega) (kk_0 hkb) rfl (Nat.le_of_ble_eq_true rfl) dX0_perform_14 (fun r14 u15 q16 => ?_)
    obtain ⟨rfl, mq16⟩ := q16
    obtain ⟨hu15, gu15⟩ := mq16
    have fu15 : fr kb (kb + 9) u u15 := fr_tr f0 gu15 (by omega) (by omega)
    refine g_aload_n dX0_perform_17 rfl ?_
    refine g_iload_n dX0_perform_18 rfl ?_
    refine cl_X0_78 (c := kb) (As := [.int x4]) rfl (c_X0_flipHalf (G := G) hs hu15 hkb x4 (by first | trivial | decide | lia | grind) (by first | trivial | decide | lia | grind) (d + 1)) rfl (by omega) (kk_0 hkb) rfl (Nat.le_of_ble_eq_true rfl) dX0_perform_19 (fun r17 u18 q19 => ?_)
    obtain ⟨rfl, mq19⟩ := q19
    obtain ⟨hu18, gu18⟩ := mq19
    have fu18 : fr kb (kb + 9) u u18 := fr_tr fu15 gu18 (by omega) (by omega)
    refine g_goto (tgt := 31) dX0_perform_22 (by decide) ?_
    refine g_aload_n dX0_perform_31 rfl ?_
    refine g_dup dX0_perform_32 rfl ?_
    refine f_X0_46 rfl (kk_0 hkb) dX0_perform_33 ?_
    refine g_topi (fun x20 ex20 => ?_)
    have s21 : u18.1 kb 11 = x20 := ex20.symm
    refine g_iconst (v := 1) dX0_perform_36 (by decide) ?_
    refine g_iadd dX0_perform_37 ?_
    refine g_topi (fun x22 ex22 => ?_)
    refine p_X0_46 rfl (kk_0 hkb) dX0_perform_38 ?_
    refine g_mem (fun u23 eu23 => ?_)
    have hu23 : iv u23 := by rw [eu23]; exact iv_upF hu18 (kr_11 hkb)
    have fu23 : fr kb (kb + 9) u u23 := by rw [eu23]; exact fr_up fu18 (by omega) (by omega)
    have s24 : u23.1 kb 11 = x22 := by rw [eu23, uk_up_at]; exact if_pos ⟨rfl, rfl⟩
    exact g_vret dX0_perform_41 rfl ⟨rfl, hu23, fu23⟩
abbrev q_X0_undo (u : uk_Mem) (kb : Nat) (g : Int32) (r : Option Value) (u' : uk_Mem) : Prop := (r = none) ∧ (iv u' ∧ fr kb (kb + 9) u u')
abbrev q_X0_clear (u : uk_Mem) (kb : Nat) (r : Option Value) (u' : uk_Mem) : Prop := (r = none) ∧ (iv u' ∧ fr kb (kb + 9) u u' ∧ u'.1 kb 0 = 0)
abbrev q_X0_copyFrom (u : uk_Mem) (kb : Nat) (kc : Nat) (r : Option Value) (u' : uk_Mem) : Prop := (r = none) ∧ (iv u' ∧ fr kb (kb + 9) u u')
set_option maxHeartbeats 4000000 in
set_option maxRecDepth 20000 in
theorem c_X0_copyFrom {G : uk_D} (hs : uk_Sep G) {u : uk_Mem} (hu : iv u) {kb : Nat} (hkb : uk_isK kb) {kc : Nat} (hkc : uk_isK kc) (d : Nat) : uk_Meth G d mX0_copyFrom [.ref (uk_ad G kb), .ref (uk_ad G kc)] u (q_X0_copyFrom u kb kc) := by
  refine uk_Meth.of hs (by decide) (Nat.le_of_ble_eq_true rfl) (fun X => ?_)
  have f0 : fr kb (kb + 9) u u := fr_rf
  refine g_aload_n dX0_copyFrom_0 rfl ?_
  refine g_aload_n dX0_copyFrom_1 rfl ?_
  refine f_X0_9 rfl (kk_0 hkc) dX0_copyFrom_2 ?_
  refine g_topi (fun x1 ex1 => ?_)
  have rx1 : 0 ≤ x1 ∧ x1 ≤ 8 := by rw [ex1]; exact iv_at hu _ _ (kr_0 hkc)
  have s2 : u.1 kc 0 = x1 := ex1.symm
  refine p_X0_9 rfl (kk_0 hkb) dX0_copyFrom_5 ?_
  refine g_mem (fun u3 eu3 => ?_)
  have hu3 : iv u3 := by rw [eu3]; exact iv_up hu (kr_0 hkb) (by first | lia | grind) (by first | lia | grind)
  have fu3 : fr kb (kb + 9) u u3 := by rw [eu3]; exact fr_up f0 (by omega) (by omega)
  have s4 : u3.1 kb 0 = x1 := by rw [eu3, uk_up_at]; exact if_pos ⟨rfl, rfl⟩
  refine g_aload_n dX0_copyFrom_8 rfl ?_
  refine g_aload_n dX0_copyFrom_9 rfl ?_
  refine f_X0_40 rfl (kk_0 hkc) dX0_copyFrom_10 ?_
  refine g_topi (fun x5 ex5 => ?_)
  have rx5 : 0 ≤ x5 ∧ x5 ≤ 8 := by rw [ex5]; exact iv_at hu3 _ _ (kr_9 hkc)
  have s6 : u3.1 kc 9 = x5 := ex5.symm
  refine p_X0_40 rfl (kk_0 hkb) dX0_copyFrom_13 ?_
  refine g_mem (fun u7 eu7 => ?_)
  have hu7 : iv u7 := by rw [eu7]; exact iv_up hu3 (kr_9 hkb) (by first | lia | grind) (by first | lia | grind)
  have fu7 : fr kb (kb + 9) u u7 := by rw [eu7]; exact fr_up fu3 (by omega) (by omega)
  have s8 : u7.1 kb 9 = x5 := by rw [eu7, uk_up_at]; exact if_pos ⟨rfl, rfl⟩
  refine g_aload_n dX0_copyFrom_16 rfl ?_
  refine g_aload_n dX0_copyFrom_17 rfl ?_
  refine f_X0_43 rfl (kk_0 hkc) dX0_copyFrom_18 ?_
  refine g_topi (fun x9 ex9 => ?_)
  have s10 : u7.1 kc 10 = x9 := ex9.symm
  refine p_X0_43 rfl (kk_0 hkb) dX0_copyFrom_21 ?_
  refine g_mem (fun u11 eu11 => ?_)
  have hu11 : iv u11 := by rw [eu11]; exact iv_upF hu7 (kr_10 hkb)
  have fu11 : fr kb (kb + 9) u u11 := by rw [eu11]; exact fr_up fu7 (by omega) (by omega)
  have s12 : u11.1 kb 10 = x9 := by rw [eu11, uk_up_at]; exact if_pos ⟨rfl, rfl⟩
  refine g_aload_n dX0_copyFrom_24 rfl ?_
  refine g_aload_n dX0_copyFrom_25 rfl ?_
  refine f_X0_46 rfl (kk_0 hkc) dX0_copyFrom_26 ?_
  refine g_topi (fun x13 ex13 => ?_)
  have s14 : u11.1 kc 11 = x13 := ex13.symm
  refine p_X0_46 rfl (kk_0 hkb) dX0_copyFrom_29 ?_
  refine g_mem (fun u15 eu15 => ?_)
  have hu15 : iv u15 := by rw [eu15]; exact iv_upF hu11 (kr_11 hkb)
  have fu15 : fr kb (kb + 9) u u15 := by rw [eu15]; exact fr_up fu11 (by omega) (by omega)
  have s16 : u15.1 kb 11 = x13 := by rw [eu15, uk_up_at]; exact if_pos ⟨rfl, rfl⟩
  refine g_iconst (v := 0) dX0_copyFrom_32 (by decide) ?_
  refine g_istore_n dX0_copyFrom_33 (by decide) ?_
  refine g_pick (lv' := [(0, .ref (uk_ad G kb)), (1, .ref (uk_ad G kc)), (2, .int 0)]) [0, 1, 2] rfl ?_
  have L34_16 : ∀ i18 : Int32, 0 ≤ i18 → i18 ≤ 8 → ∀ (u19 : uk_Mem), iv u19 → fr kb (kb + 9) u u19 → uk_G G X mX0_copyFrom d (q_X0_copyFrom u kb kc) 34 [(0, .ref (uk_ad G kb)), (1, .ref (uk_ad G kc)), (2, .int i18)] [] u19 := by
    refine uk_upl 8 ?_
    intro i18 ai18 bi18 ihi18  u19 hu19 fu19
    refine g_iload_n dX0_copyFrom_34 rfl ?_
    refine g_bipush (v := 8) dX0_copyFrom_35 (by decide) ?_
    refine g_icmp_ge (tgt := 130) dX0_copyFrom_37 (by decide) (fun c20 => ?_) (fun c20 => ?_)
    · refine g_iconst (v := 0) dX0_copyFrom_130 (by decide) ?_
      refine g_istore_n dX0_copyFrom_131 (by decide) ?_
      refine g_pick (lv' := [(0, .ref (uk_ad G kb)), (1, .ref (uk_ad G kc)), (2, .int 0)]) [0, 1, 2] rfl ?_
      have L132_20 : ∀ i22 : Int32, 0 ≤ i22 → i22 ≤ 8 → ∀ (u23 : uk_Mem), iv u23 → fr kb (kb + 9) u u23 → uk_G G X mX0_copyFrom d (q_X0_copyFrom u kb kc) 132 [(0, .ref (uk_ad G kb)), (1, .ref (uk_ad G kc)), (2, .int i22)] [] u23 := by
        refine uk_upl 8 ?_
        intro i22 ai22 bi22 ihi22  u23 hu23 fu23
        refine g_iload_n dX0_copyFrom_132 rfl ?_
        refine g_bipush (v := 8) dX0_copyFrom_133 (by decide) ?_
        refine g_icmp_ge (tgt := 156) dX0_copyFrom_135 (by decide) (fun c24 => ?_) (fun c24 => ?_)
        · exact g_vret dX0_copyFrom_156 rfl ⟨rfl, hu23, fu23⟩
        · refine g_aload_n dX0_copyFrom_138 rfl ?_
          refine f_X0_37 rfl (kk_0 hkb) dX0_copyFrom_139 ?_
          refine g_iload_n dX0_copyFrom_142 rfl ?_
          refine g_aload_n dX0_copyFrom_143 rfl ?_
          refine f_X0_37 rfl (kk_0 hkc) dX0_copyFrom_144 ?_
          refine g_iload_n dX0_copyFrom_147 rfl ?_
          have v25 : vp_in i22 8 := uk_vin 8 rfl (by first | decide | lia | grind) (by first | decide | lia | grind)
          refine g_iald (kk_8 hkc) (kl_8 hkc) v25 dX0_copyFrom_148 ?_
          refine g_topi (fun x26 ex26 => ?_)
          have bx26 := uk_cl v25
          have rx26 : 0 ≤ x26 ∧ x26 ≤ 7 := by rw [ex26]; exact iv_at hu23 _ _ (ka_8 hkc _ (by omega))
          have v27 : vp_in i22 8 := uk_vin 8 rfl (by first | decide | lia | grind) (by first | decide | lia | grind)
          have b28 := uk_cl v27
          refine g_iast (kk_8 hkb) (kl_8 hkb) v27 dX0_copyFrom_149 ?_
          refine g_mem (fun u29 eu29 => ?_)
          have hu29 : iv u29 := by rw [eu29]; exact iv_up hu23 (ka_8 hkb _ (by omega)) (by first | lia | grind) (by first | lia | grind)
          have fu29 : fr kb (kb + 9) u u29 := by rw [eu29]; exact fr_up fu23 (by omega) (by omega)
          refine g_iinc (v := i22 + 1) dX0_copyFrom_150 rfl rfl (by decide) ?_
          refine g_pick (lv' := [(0, .ref (uk_ad G kb)), (1, .ref (uk_ad G kc)), (2, .int (i22 + 1))]) [0, 1, 2] rfl ?_
          refine g_goto (tgt := 132) dX0_copyFrom_153 (by decide) ?_
          refine g_pick (lv' := [(0, .ref (uk_ad G kb)), (1, .ref (uk_ad G kc)), (2, .int (i22 + 1))]) [0, 1, 2] rfl ?_
          exact ihi22 (by first | lia | grind)  u29 hu29 fu29 
      refine g_pick (lv' := [(0, .ref (uk_ad G kb)), (1, .ref (uk_ad G kc)), (2, .int 0)]) [0, 1, 2] rfl ?_
      exact L132_20 0 (by first | decide | lia | grind) (by first | decide | lia | grind)  u19 hu19 fu19 
    · refine g_aload_n dX0_copyFrom_40 rfl ?_
      refine f_X0_15 rfl (kk_0 hkb) dX0_copyFrom_41 ?_
      refine g_iload_n dX0_copyFrom_44 rfl ?_
      refine g_aload_n dX0_copyFrom_45 rfl ?_
      refine f_X0_15 rfl (kk_0 hkc) dX0_copyFrom_46 ?_
      refine g_iload_n dX0_copyFrom_49 rfl ?_
      have v30 : vp_in i18 8 := uk_vin 8 rfl (by first | decide | lia | grind) (by first | decide | lia | grind)
      refine g_iald (kk_1 hkc) (kl_1 hkc) v30 dX0_copyFrom_50 ?_
      refine g_topi (fun x31 ex31 => ?_)
      have v32 : vp_in i18 8 := uk_vin 8 rfl (by first | decide | lia | grind) (by first | decide | lia | grind)
      have b33 := uk_cl v32
      refine g_iast (kk_1 hkb) (kl_1 hkb) v32 dX0_copyFrom_51 ?_
      refine g_mem (fun u34 eu34 => ?_)
      have hu34 : iv u34 := by rw [eu34]; exact iv_upF hu19 (ka_1 hkb _ (by omega))
      have fu34 : fr kb (kb + 9) u u34 := by rw [eu34]; exact fr_up fu19 (by omega) (by omega)
      refine g_aload_n dX0_copyFrom_52 rfl ?_
      refine f_X0_19 rfl (kk_0 hkb) dX0_copyFrom_53 ?_
      refine g_iload_n dX0_copyFrom_56 rfl ?_
      refine g_aload_n dX0_copyFrom_57 rfl ?_
      refine f_X0_19 rfl (kk_0 hkc) dX0_copyFrom_58 ?_
      refine g_iload_n dX0_copyFrom_61 rfl ?_
      have v35 : vp_in i18 8 := uk_vin 8 rfl (by first | decide | lia | grind) (by first | decide | lia | grind)
      refine g_iald (kk_2 hkc) (kl_2 hkc) v35 dX0_copyFrom_62 ?_
      refine g_topi (fun x36 ex36 => ?_)
      have bx36 := uk_cl v35
      have rx36 : 0 ≤ x36 ∧ x36 ≤ 7 := by rw [ex36]; exact iv_at hu34 _ _ (ka_2 hkc _ (by omega))
      have v37 : vp_in i18 8 := uk_vin 8 rfl (by first | decide | lia | grind) (by first | decide | lia | grind)
      have b38 := uk_cl v37
      refine g_iast (kk_2 hkb) (kl_2 hkb) v37 dX0_copyFrom_63 ?_
      refine g_mem (fun u39 eu39 => ?_)
      have hu39 : iv u39 := by rw [eu39]; exact iv_up hu34 (ka_2 hkb _ (by omega)) (by first | lia | grind) (by first | lia | grind)
      have fu39 : fr kb (kb + 9) u u39 := by rw [eu39]; exact fr_up fu34 (by omega) (by omega)
      refine g_aload_n dX0_copyFrom_64 rfl ?_
      refine f_X0_22 rfl (kk_0 hkb) dX0_copyFrom_65 ?_
      refine g_iload_n dX0_copyFrom_68 rfl ?_
      refine g_aload_n dX0_copyFrom_69 rfl ?_
      refine f_X0_22 rfl (kk_0 hkc) dX0_copyFrom_70 ?_
      refine g_iload_n dX0_copyFrom_73 rfl ?_
      have v40 : vp_in i18 8 := uk_vin 8 rfl (by first | decide | lia | grind) (by first | decide | lia | grind)
      refine g_iald (kk_3 hkc) (kl_3 hkc) v40 dX0_copyFrom_74 ?_
      refine g_topi (fun x41 ex41 => ?_)
      have bx41 := uk_cl v40
      have rx41 : 0 ≤ x41 ∧ x41 ≤ 7 := by rw [ex41]; exact iv_at hu39 _ _ (ka_3 hkc _ (by omega))
      have v42 : vp_in i18 8 := uk_vin 8 rfl (by first | decide | lia | grind) (by first | decide | lia | grind)
      have b43 := uk_cl v42
      refine g_iast (kk_3 hkb) (kl_3 hkb) v42 dX0_copyFrom_75 ?_
      refine g_mem (fun u44 eu44 => ?_)
      have hu44 : iv u44 := by rw [eu44]; exact iv_up hu39 (ka_3 hkb _ (by omega)) (by first | lia | grind) (by first | lia | grind)
      have fu44 : fr kb (kb + 9) u u44 := by rw [eu44]; exact fr_up fu39 (by omega) (by omega)
      refine g_aload_n dX0_copyFrom_76 rfl ?_
      refine f_X0_25 rfl (kk_0 hkb) dX0_copyFrom_77 ?_
      refine g_iload_n dX0_copyFrom_80 rfl ?_
      refine g_aload_n dX0_copyFrom_81 rfl ?_
      refine f_X0_25 rfl (kk_0 hkc) dX0_copyFrom_82 ?_
      refine g_iload_n dX0_copyFrom_85 rfl ?_
      have v45 : vp_in i18 8 := uk_vin 8 rfl (by first | decide | lia | grind) (by first | decide | lia | grind)
      refine g_iald (kk_4 hkc) (kl_4 hkc) v45 dX0_copyFrom_86 ?_
      refine g_topi (fun x46 ex46 => ?_)
      have v47 : vp_in i18 8 := uk_vin 8 rfl (by first | decide | lia | grind) (by first | decide | lia | grind)
      have b48 := uk_cl v47
      refine g_iast (kk_4 hkb) (kl_4 hkb) v47 dX0_copyFrom_87 ?_
      refine g_mem (fun u49 eu49 => ?_)
      have hu49 : iv u49 := by rw [eu49]; exact iv_upF hu44 (ka_4 hkb _ (by omega))
      have fu49 : fr kb (kb + 9) u u49 := by rw [eu49]; exact fr_up fu44 (by omega) (by omega)
      refine g_aload_n dX0_copyFrom_88 rfl ?_
      refine f_X0_28 rfl (kk_0 hkb) dX0_copyFrom_89 ?_
      refine g_iload_n dX0_copyFrom_92 rfl ?_
      refine g_aload_n dX0_copyFrom_93 rfl ?_
      refine f_X0_28 rfl (kk_0 hkc) dX0_copyFrom_94 ?_
      refine g_iload_n dX0_copyFrom_97 rfl ?_
      have v50 : vp_in i18 8 := uk_vin 8 rfl (by first | decide | lia | grind) (by first | decide | lia | grind)
      refine g_iald (kk_5 hkc) (kl_5 hkc) v50 dX0_copyFrom_98 ?_
      refine g_topi (fun x51 ex51 => ?_)
      have v52 : vp_in i18 8 := uk_vin 8 rfl (by first | decide | lia | grind) (by first | decide | lia | grind)
      have b53 := uk_cl v52
      refine g_iast (kk_5 hkb) (kl_5 hkb) v52 dX0_copyFrom_99 ?_
      refine g_mem (fun u54 eu54 => ?_)
      have hu54 : iv u54 := by rw [eu54]; exact iv_upF hu49 (ka_5 hkb _ (by omega))
      have fu54 : fr kb (kb + 9) u u54 := by rw [eu54]; exact fr_up fu49 (by omega) (by omega)
      refine g_aload_n dX0_copyFrom_100 rfl ?_
      refine f_X0_31 rfl (kk_0 hkb) dX0_copyFrom_101 ?_
      refine g_iload_n dX0_copyFrom_104 rfl ?_
      refine g_aload_n dX0_copyFrom_105 rfl ?_
      refine f_X0_31 rfl (kk_0 hkc) dX0_copyFrom_106 ?_
      refine g_iload_n dX0_copyFrom_109 rfl ?_
      have v55 : vp_in i18 8 := uk_vin 8 rfl (by first | decide | lia | grind) (by first | decide | lia | grind)
      refine g_iald (kk_6 hkc) (kl_6 hkc) v55 dX0_copyFrom_110 ?_
      refine g_topi (fun x56 ex56 => ?_)
      have v57 : vp_in i18 8 := uk_vin 8 rfl (by first | decide | lia | grind) (by first | decide | lia | grind)
      have b58 := uk_cl v57
      refine g_iast (kk_6 hkb) (kl_6 hkb) v57 dX0_copyFrom_111 ?_
      refine g_mem (fun u59 eu59 => ?_)
      have hu59 : iv u59 := by rw [eu59]; exact iv_upF hu54 (ka_6 hkb _ (by omega))
      have fu59 : fr kb (kb + 9) u u59 := by rw [eu59]; exact fr_up fu54 (by omega) (by omega)
      refine g_aload_n dX0_copyFrom_112 rfl ?_
      refine f_X0_34 rfl (kk_0 hkb) dX0_copyFrom_113 ?_
      refine g_iload_n dX0_copyFrom_116 rfl ?_
      refine g_aload_n dX0_copyFrom_117 rfl ?_
      refine f_X0_34 rfl (kk_0 hkc) dX0_copyFrom_118 ?_
      refine g_iload_n dX0_copyFrom_121 rfl ?_
      have v60 : vp_in i18 8 := uk_vin 8 rfl (by first | decide | lia | grind) (by first | decide | lia | grind)
      refine g_iald (kk_7 hkc) (kl_7 hkc) v60 dX0_copyFrom_122 ?_
      refine g_topi (fun x61 ex61 => ?_)
      have v62 : vp_in i18 8 := uk_vin 8 rfl (by first | decide | lia | grind) (by first | decide | lia | grind)
      have b63 := uk_cl v62
      refine g_iast (kk_7 hkb) (kl_7 hkb) v62 dX0_copyFrom_123 ?_
      refine g_mem (fun u64 eu64 => ?_)
      have hu64 : iv u64 := by rw [eu64]; exact iv_upF hu59 (ka_7 hkb _ (by omega))
      have fu64 : fr kb (kb + 9) u u64 := by rw [eu64]; exact fr_up fu59 (by omega) (by omega)
      refine g_iinc (v := i18 + 1) dX0_copyFrom_124 rfl rfl (by decide) ?_
      refine g_pick (lv' := [(0, .ref (uk_ad G kb)), (1, .ref (uk_ad G kc)), (2, .int (i18 + 1))]) [0, 1, 2] rfl ?_
      refine g_goto (tgt := 34) dX0_copyFrom_127 (by decide) ?_
      refine g_pick (lv' := [(0, .ref (uk_ad G kb)), (1, .ref (uk_ad G kc)), (2, .int (i18 + 1))]) [0, 1, 2] rfl ?_
      exact ihi18 (by first | lia | grind)  u64 hu64 fu64 
  refine g_pick (lv' := [(0, .ref (uk_ad G kb)), (1, .ref (uk_ad G kc)), (2, .int 0)]) [0, 1, 2] rfl ?_
  exact L34_16 0 (by first | decide | lia | grind) (by first | decide | lia | grind)  u15 hu15 fu15 
abbrev q_X0_addMade (u : uk_Mem) (kb : Nat) (k : Int32) (a : Int32) (b : Int32) (f : Int32) (r : Option Value) (u' : uk_Mem) : Prop := (r = none) ∧ (iv u' ∧ fr kb (kb + 9) u u' ∧ u'.1 kb 0 = u.1 kb 0 + 1)
abbrev q_X0_addRaw (u : uk_Mem) (kb : Nat) (q : Int32) (f : Int32) (r : Option Value) (u' : uk_Mem) : Prop := (r = none) ∧ (iv u' ∧ fr kb (kb + 9) u u')
abbrev q_X0_startNeed (u : uk_Mem) (m : Int32) (w : Int32) (r : Option Value) (u' : uk_Mem) : Prop := (r = none) ∧ (iv u' ∧ fr 57 58 u u')
set_option maxHeartbeats 4000000 in
set_option maxRecDepth 20000 in
theorem c_X0_startNeed {G : uk_D} (hs : uk_Sep G) {u : uk_Mem} (hu : iv u) (m : Int32) (w : Int32) (d : Nat) : uk_Meth G d mX0_startNeed [.int m, .int w, .ref (uk_ad G 57)] u (q_X0_startNeed u m w) := by
  refine uk_Meth.of hs (by decide) (Nat.le_of_ble_eq_true rfl) (fun X => ?_)
  have f0 : fr 57 58 u u := fr_rf
  refine g_iconst (v := 0) dX0_startNeed_0 (by decide) ?_
  refine g_istore_n dX0_startNeed_1 (by decide) ?_
  refine g_pick (lv' := [(0, .int m), (1, .int w), (2, .ref (uk_ad G 57)), (3, .int 0)]) [0, 1, 2, 3] rfl ?_
  have L2_0 : ∀ i2 : Int32, 0 ≤ i2 → i2 ≤ 8 → ∀ (u3 : uk_Mem), iv u3 → fr 57 58 u u3 → uk_G G X mX0_startNeed d (q_X0_startNeed u m w) 2 [(0, .int m), (1, .int w), (2, .ref (uk_ad G 57)), (3, .int i2)] [] u3 := by
    refine uk_upl 8 ?_
    intro i2 ai2 bi2 ihi2  u3 hu3 fu3
    refine g_iload_n dX0_startNeed_2 rfl ?_
    refine g_bipush (v := 8) dX0_startNeed_3 (by decide) ?_
    refine g_icmp_ge (tgt := 27) dX0_startNeed_5 (by decide) (fun c4 => ?_) (fun c4 => ?_)
    · exact g_vret dX0_startNeed_27 rfl ⟨rfl, hu3, fu3⟩
    · refine g_aload_n dX0_startNeed_8 rfl ?_
      refine g_iload_n dX0_startNeed_9 rfl ?_
      refine g_iload_n dX0_startNeed_10 rfl ?_
      refine g_iload_n dX0_startNeed_11 rfl ?_
      refine g_icmp_ne (tgt := 19) dX0_startNeed_12 (by decide) (fun c5 => ?_) (fun c5 => ?_)
      · refine g_iconst (v := 0) dX0_startNeed_19 (by decide) ?_
        have v6 : vp_in i2 8 := uk_vin 8 rfl (by first | decide | lia | grind) (by first | decide | lia | grind)
        have b7 := uk_cl v6
        refine g_iast rfl rfl v6 dX0_startNeed_20 ?_
        refine g_mem (fun u8 eu8 => ?_)
        have hu8 : iv u8 := by rw [eu8]; exact iv_upF hu3 (uk_pick1 _ (by omega))
        have fu8 : fr 57 58 u u8 := by rw [eu8]; exact fr_up fu3 (by omega) (by omega)
        refine g_iinc (v := i2 + 1) dX0_startNeed_21 rfl rfl (by decide) ?_
        refine g_pick (lv' := [(0, .int m), (1, .int w), (2, .ref (uk_ad G 57)), (3, .int (i2 + 1))]) [0, 1, 2, 3] rfl ?_
        refine g_goto (tgt := 2) dX0_startNeed_24 (by decide) ?_
        refine g_pick (lv' := [(0, .int m), (1, .int w), (2, .ref (uk_ad G 57)), (3, .int (i2 + 1))]) [0, 1, 2, 3] rfl ?_
        exact ihi2 (by first | lia | grind)  u8 hu8 fu8 
      · refine g_iload_n dX0_startNeed_15 rfl ?_
        refine g_goto (tgt := 20) dX0_startNeed_16 (by decide) ?_
        have v9 : vp_in i2 8 := uk_vin 8 rfl (by first | decide | lia | grind) (by first | decide | lia | grind)
        have b10 := uk_cl v9
        refine g_iast rfl rfl v9 dX0_startNeed_20 ?_
        refine g_mem (fun u11 eu11 => ?_)
        have hu11 : iv u11 := by rw [eu11]; exact iv_upF hu3 (uk_pick1 _ (by omega))
        have fu11 : fr 57 58 u u11 := by rw [eu11]; exact fr_up fu3 (by omega) (by omega)
        refine g_iinc (v := i2 + 1) dX0_startNeed_21 rfl rfl (by decide) ?_
        refine g_pick (lv' := [(0, .int m), (1, .int w), (2, .ref (uk_ad G 57)), (3, .int (i2 + 1))]) [0, 1, 2, 3] rfl ?_
        refine g_goto (tgt := 2) dX0_startNeed_24 (by decide) ?_
        refine g_pick (lv' := [(0, .int m), (1, .int w), (2, .ref (uk_ad G 57)), (3, .int (i2 + 1))]) [0, 1, 2, 3] rfl ?_
        exact ihi2 (by first | lia | grind)  u11 hu11 fu11 
  refine g_pick (lv' := [(0, .int m), (1, .int w), (2, .ref (uk_ad G 57)), (3, .int 0)]) [0, 1, 2, 3] rfl ?_
  exact L2_0 0 (by first | decide | lia | grind) (by first | decide | lia | grind)  u hu f0 
abbrev q_X0_rawNeed (u : uk_Mem) (kb : Nat) (m : Int32) (r : Option Value) (u' : uk_Mem) : Prop := (r = none) ∧ (iv u' ∧ fr 57 58 u u')
set_option maxHeartbeats 4000000 in
set_option maxRecDepth 20000 in
theorem c_X0_rawNeed {G : uk_D} (hs : uk_Sep G) {u : uk_Mem} (hu : iv u) {kb : Nat} (hkb : uk_isK kb) (m : Int32) (p0 : 0 ≤ m) (p1 : m ≤ 7) (d : Nat) : uk_Meth G (d + 1) mX0_rawNeed [.ref (uk_ad G kb), .int m, .ref (uk_ad G 57)] u (q_X0_rawNeed u kb m) := by
  refine uk_Meth.of hs (by decide) (Nat.le_of_ble_eq_true rfl) (fun X => ?_)
  have f0 : fr 57 58 u u := fr_rf
  refine g_iload_n dX0_rawNeed_0 rfl ?_
  refine g_iconst (v := 1) dX0_rawNeed_1 (by decide) ?_
  refine g_aload_n dX0_rawNeed_2 rfl ?_
  refine cl_X0_97 (As := [.int m, .int 1, .ref (uk_ad G 57)]) rfl (c_X0_startNeed (G := G) hs hu  m 1  (d)) rfl (by omega) rfl (Nat.le_of_ble_eq_true rfl) dX0_rawNeed_3 (fun r1 u2 q3 => ?_)
  obtain ⟨rfl, mq3⟩ := q3
  obtain ⟨hu2, gu2⟩ := mq3
  have fu2 : fr 57 58 u u2 := fr_tr f0 gu2 (by omega) (by omega)
  refine g_iload_n dX0_rawNeed_6 rfl ?_
  refine g_istore_n dX0_rawNeed_7 (by decide) ?_
  refine g_pick (lv' := [(0, .ref (uk_ad G kb)), (1, .int m), (2, .ref (uk_ad G 57)), (3, .int m)]) [0, 1, 2, 3] rfl ?_
  have L8_3 : ∀ i5 : Int32, -1 ≤ i5 → ∀ (u6 : uk_Mem), iv u6 → fr 57 58 u u6 → i5 ≤ 7 → uk_G G X mX0_rawNeed (d + 1) (q_X0_rawNeed u kb m) 8 [(0, .ref (uk_ad G kb)), (1, .int m), (2, .ref (uk_ad G 57)), (3, .int i5)] [] u6 := by
    refine uk_dnl ?_
    intro i5 ai5 ihi5  u6 hu6 fu6 ji50
    refine g_iload_n dX0_rawNeed_8 rfl ?_
    refine g_if_lt (tgt := 54) dX0_rawNeed_9 (by decide) (fun c7 => ?_) (fun c7 => ?_)
    · exact g_vret dX0_rawNeed_54 rfl ⟨rfl, hu6, fu6⟩
    · refine g_aload_n dX0_rawNeed_12 rfl ?_
      refine g_iload_n dX0_rawNeed_13 rfl ?_
      refine cl_X0_61 (c := kb) (As := [.int i5]) rfl (c_X0_isMade (G := G) hs hu6 hkb i5 (by first | trivial | decide | lia | grind) (by first | trivial | decide | lia | grind) (d)) rfl (by omega) (kk_0 hkb) rfl (Nat.le_of_ble_eq_true rfl) dX0_rawNeed_14 (fun r8 u9 q10 => ?_)
      obtain ⟨⟨x11, rfl, tx11, nx11, zx11⟩, mq10⟩ := q10
      rw [mq10]
      refine g_if_eq (tgt := 48) dX0_rawNeed_17 (by decide) (fun c12 => ?_) (fun c12 => ?_)
      · have zc12 := zx11 c12
        refine g_iinc (v := i5 - 1) dX0_rawNeed_48 rfl (uk_m1 _) (by decide) ?_
        refine g_pick (lv' := [(0, .ref (uk_ad G kb)), (1, .int m), (2, .ref (uk_ad G 57)), (3, .int (i5 - 1))]) [0, 1, 2, 3] rfl ?_
        refine g_goto (tgt := 8) dX0_rawNeed_51 (by decide) ?_
        refine g_pick (lv' := [(0, .ref (uk_ad G kb)), (1, .int m), (2, .ref (uk_ad G 57)), (3, .int (i5 - 1))]) [0, 1, 2, 3] rfl ?_
        exact ihi5 (by first | lia | grind)  u6 hu6 fu6 (by first | trivial | lia | grind)
      · have zc12 := nx11 c12
        refine g_aload_n dX0_rawNeed_20 rfl ?_
        refine g_aload_n dX0_rawNeed_21 rfl ?_
        refine f_X0_19 rfl (kk_0 hkb) dX0_rawNeed_22 ?_
        refine g_iload_n dX0_rawNeed_25 rfl ?_
        have v13 : vp_in i5 8 := uk_vin 8 rfl (by first | decide | lia | grind) (by first | decide | lia | grind)
        refine g_iald (kk_2 hkb) (kl_2 hkb) v13 dX0_rawNeed_26 ?_
        refine g_topi (fun x14 ex14 => ?_)
        have bx14 := uk_cl v13
        have rx14 : 0 ≤ x14 ∧ x14 ≤ 7 := by rw [ex14]; exact iv_at hu6 _ _ (ka_2 hkb _ (by omega))
        refine g_dup2 dX0_rawNeed_27 rfl rfl ?_
        have v15 : vp_in x14 8 := uk_vin 8 rfl (by first | decide | lia | grind) (by first | decide | lia | grind)
        refine g_iald rfl rfl v15 dX0_rawNeed_28 ?_
        refine g_topi (fun x16 ex16 => ?_)
        refine g_aload_n dX0_rawNeed_29 rfl ?_
        refine g_iload_n dX0_rawNeed_30 rfl ?_
        have v17 : vp_in i5 8 := uk_vin 8 rfl (by first | decide | lia | grind) (by first | decide | lia | grind)
        refine g_iald rfl rfl v17 dX0_rawNeed_31 ?_
        refine g_topi (fun x18 ex18 => ?_)
        refine g_iadd dX0_rawNeed_32 ?_
        refine g_topi (fun x19 ex19 => ?_)
        have v20 : vp_in x14 8 := uk_vin 8 rfl (by first | decide | lia | grind) (by first | decide | lia | grind)
        have b21 := uk_cl v20
        refine g_iast rfl rfl v20 dX0_rawNeed_33 ?_
        refine g_mem (fun u22 eu22 => ?_)
        have hu22 : iv u22 := by rw [eu22]; exact iv_upF hu6 (uk_pick1 _ (by omega))
        have fu22 : fr 57 58 u u22 := by rw [eu22]; exact fr_up fu6 (by omega) (by omega)
        refine g_aload_n dX0_rawNeed_34 rfl ?_
        refine g_aload_n dX0_rawNeed_35 rfl ?_
        refine f_X0_22 rfl (kk_0 hkb) dX0_rawNeed_36 ?_
        refine g_iload_n dX0_rawNeed_39 rfl ?_
        have v23 : vp_in i5 8 := uk_vin 8 rfl (by first | decide | lia | grind) (by first | decide | lia | grind)
        refine g_iald (kk_3 hkb) (kl_3 hkb) v23 dX0_rawNeed_40 ?_
        refine g_topi (fun x24 ex24 => ?_)
        have bx24 := uk_cl v23
        have rx24 : 0 ≤ x24 ∧ x24 ≤ 7 := by rw [ex24]; exact iv_at hu22 _ _ (ka_3 hkb _ (by omega))
        refine g_dup2 dX0_rawNeed_41 rfl rfl ?_
        have v25 : vp_in x24 8 := uk_vin 8 rfl (by first | decide | lia | grind) (by first | decide | lia | grind)
        refine g_iald rfl rfl v25 dX0_rawNeed_42 ?_
        refine g_topi (fun x26 ex26 => ?_)
        refine g_aload_n dX0_rawNeed_43 rfl ?_
        refine g_iload_n dX0_rawNeed_44 rfl ?_
        have v27 : vp_in i5 8 := uk_vin 8 rfl (by first | decide | lia | grind) (by first | decide | lia | grind)
        refine g_iald rfl rfl v27 dX0_rawNeed_45 ?_
        refine g_topi (fun x28 ex28 => ?_)
        refine g_iadd dX0_rawNeed_46 ?_
        refine g_topi (fun x29 ex29 => ?_)
        have v30 : vp_in x24 8 := uk_vin 8 rfl (by first | decide | lia | grind) (by first | decide | lia | grind)
        have b31 := uk_cl v30
        refine g_iast rfl rfl v30 dX0_rawNeed_47 ?_
        refine g_mem (fun u32 eu32 => ?_)
        have hu32 : iv u32 := by rw [eu32]; exact iv_upF hu22 (uk_pick1 _ (by omega))
        have fu32 : fr 57 58 u u32 := by rw [eu32]; exact fr_up fu22 (by omega) (by omega)
        refine g_iinc (v := i5 - 1) dX0_rawNeed_48 rfl (uk_m1 _) (by decide) ?_
        refine g_pick (lv' := [(0, .ref (uk_ad G kb)), (1, .int m), (2, .ref (uk_ad G 57)), (3, .int (i5 - 1))]) [0, 1, 2, 3] rfl ?_
        refine g_goto (tgt := 8) dX0_rawNeed_51 (by decide) ?_
        refine g_pick (lv' := [(0, .ref (uk_ad G kb)), (1, .int m), (2, .ref (uk_ad G 57)), (3, .int (i5 - 1))]) [0, 1, 2, 3] rfl ?_
        exact ihi5 (by first | lia | grind)  u32 hu32 fu32 (by first | trivial | lia | grind)
  refine g_pick (lv' := [(0, .ref (uk_ad G kb)), (1, .int m), (2, .ref (uk_ad G 57)), (3, .int m)]) [0, 1, 2, 3] rfl ?_
  exact L8_3 m (by first | decide | lia | grind)  u2 hu2 fu2 (by first | trivial | lia | grind)
abbrev q_X0_isEnoughFor (u : uk_Mem) (kb : Nat) (m : Int32) (w : Int32) (r : Option Value) (u' : uk_Mem) : Prop := (∃ x : Int32, r = some (.int x) ∧ (x = 0 ∨ x = 1) ∧ (¬ x = 0 → True) ∧ (x = 0 → True)) ∧ (iv u' ∧ fr 57 58 u u')
set_option maxHeartbeats 4000000 in
set_option maxRecDepth 20000 in
theorem c_X0_isEnoughFor {G : uk_D} (hs : uk_Sep G) {u : uk_Mem} (hu : iv u) {kb : Nat} (hkb : uk_isK kb) (m : Int32) (w : Int32) (p0 : 0 ≤ m) (p1 : m ≤ 7) (d : Nat) : uk_Meth G (d + 1) mX0_isEnoughFor [.ref (uk_ad G kb), .int m, .int w, .ref (uk_ad G 57)] u (q_X0_isEnoughFor u kb m w) := by
  refine uk_Meth.of hs (by decide) (Nat.le_of_ble_eq_true rfl) (fun X => ?_)
  have f0 : fr 57 58 u u := fr_rf
  refine g_iload_n dX0_isEnoughFor_0 rfl ?_
  refine g_iload_n dX0_isEnoughFor_1 rfl ?_
  refine g_aload_n dX0_isEnoughFor_2 rfl ?_
  refine cl_X0_97 (As := [.int m, .int w, .ref (uk_ad G 57)]) rfl (c_X0_startNeed (G := G) hs hu  m w  (d)) rfl (by omega) rfl (Nat.le_of_ble_eq_true rfl) dX0_isEnoughFor_3 (fun r1 u2 q3 => ?_)
  obtain ⟨rfl, mq3⟩ := q3
  obtain ⟨hu2, gu2⟩ := mq3
  have fu2 : fr 57 58 u u2 := fr_tr f0 gu2 (by omega) (by omega)
  refine g_iload_n dX0_isEnoughFor_6 rfl ?_
  refine g_istore dX0_isEnoughFor_7 (by decide) ?_
  refine g_pick (lv' := [(0, .ref (uk_ad G kb)), (1, .int m), (2, .int w), (3, .ref (uk_ad G 57)), (4, .int m)]) [0, 1, 2, 3, 4] rfl ?_
  have L9_3 : ∀ i5 : Int32, -1 ≤ i5 → ∀ (u6 : uk_Mem), iv u6 → fr 57 58 u u6 → i5 ≤ 7 → uk_G G X mX0_isEnoughFor (d + 1) (q_X0_isEnoughFor u kb m w) 9 [(0, .ref (uk_ad G kb)), (1, .int m), (2, .int w), (3, .ref (uk_ad G 57)), (4, .int i5)] [] u6 := by
    refine uk_dnl ?_
    intro i5 ai5 ihi5  u6 hu6 fu6 ji50
    refine g_iload dX0_isEnoughFor_9 rfl ?_
    refine g_if_lt (tgt := 88) dX0_isEnoughFor_11 (by decide) (fun c7 => ?_) (fun c7 => ?_)
    · refine g_iconst (v := 1) dX0_isEnoughFor_88 (by decide) ?_
      exact g_iret (ty := .boolean) dX0_isEnoughFor_89 rfl rfl ⟨⟨1, rfl, Or.inr rfl, fun _ => by first | trivial | lia | grind, fun q => absurd q (by decide)⟩, hu6, fu6⟩
    · refine g_iload dX0_isEnoughFor_14 rfl ?_
      refine g_iload_n dX0_isEnoughFor_16 rfl ?_
      refine g_icmp_ne (tgt := 24) dX0_isEnoughFor_17 (by decide) (fun c8 => ?_) (fun c8 => ?_)
      · refine g_aload_n dX0_isEnoughFor_24 rfl ?_
        refine g_iload dX0_isEnoughFor_25 rfl ?_
        have v9 : vp_in i5 8 := uk_vin 8 rfl (by first | decide | lia | grind) (by first | decide | lia | grind)
        refine g_iald rfl rfl v9 dX0_isEnoughFor_27 ?_
        refine g_topi (fun x10 ex10 => ?_)
        refine g_aload_n dX0_isEnoughFor_28 rfl ?_
        refine f_X0_31 rfl (kk_0 hkb) dX0_isEnoughFor_29 ?_
        refine g_iload dX0_isEnoughFor_32 rfl ?_
        have v11 : vp_in i5 8 := uk_vin 8 rfl (by first | decide | lia | grind) (by first | decide | lia | grind)
        refine g_iald (kk_6 hkb) (kl_6 hkb) v11 dX0_isEnoughFor_34 ?_
        refine g_topi (fun x12 ex12 => ?_)
        refine g_isub dX0_isEnoughFor_35 ?_
        refine g_topi (fun x13 ex13 => ?_)
        refine g_istore dX0_isEnoughFor_36 (by decide) ?_
        refine g_pick (lv' := [(0, .ref (uk_ad G kb)), (1, .int m), (2, .int w), (3, .ref (uk_ad G 57)), (4, .int i5), (5, .int x13)]) [0, 1, 2, 3, 4, 5] rfl ?_
        refine g_iload dX0_isEnoughFor_38 rfl ?_
        refine g_if_le (tgt := 82) dX0_isEnoughFor_40 (by decide) (fun c14 => ?_) (fun c14 => ?_)
        · refine g_iinc (v := i5 - 1) dX0_isEnoughFor_82 rfl (uk_m1 _) (by decide) ?_
          refine g_pick (lv' := [(0, .ref (uk_ad G kb)), (1, .int m), (2, .int w), (3, .ref (uk_ad G 57)), (4, .int (i5 - 1)), (5, .int x13)]) [0, 1, 2, 3, 4, 5] rfl ?_
          refine g_goto (tgt := 9) dX0_isEnoughFor_85 (by decide) ?_
          refine g_pick (lv' := [(0, .ref (uk_ad G kb)), (1, .int m), (2, .int w), (3, .ref (uk_ad G 57)), (4, .int (i5 - 1))]) [0, 1, 2, 3, 4] rfl ?_
          exact ihi5 (by first | lia | grind)  u6 hu6 fu6 (by first | trivial | lia | grind)
        · refine g_aload_n dX0_isEnoughFor_43 rfl ?_
          refine g_iload dX0_isEnoughFor_44 rfl ?_
          refine cl_X0_61 (c := kb) (As := [.int i5]) rfl (c_X0_isMade (G := G) hs hu6 hkb i5 (by first | trivial | decide | lia | grind) (by first | trivial | decide | lia | grind) (d)) rfl (by omega) (kk_0 hkb) rfl (Nat.le_of_ble_eq_true rfl) dX0_isEnoughFor_46 (fun r15 u16 q17 => ?_)
          obtain ⟨⟨x18, rfl, tx18, nx18, zx18⟩, mq17⟩ := q17
          rw [mq17]
          refine g_if_ne (tgt := 54) dX0_isEnoughFor_49 (by decide) (fun c19 => ?_) (fun c19 => ?_)
          · have zc19 := nx18 c19
            refine g_aload_n dX0_isEnoughFor_54 rfl ?_
            refine g_aload_n dX0_isEnoughFor_55 rfl ?_
            refine f_X0_19 rfl (kk_0 hkb) dX0_isEnoughFor_56 ?_
            refine g_iload dX0_isEnoughFor_59 rfl ?_
            have v20 : vp_in i5 8 := uk_vin 8 rfl (by first | decide | lia | grind) (by first | decide | lia | grind)
            refine g_iald (kk_2 hkb) (kl_2 hkb) v20 dX0_isEnoughFor_61 ?_
            refine g_topi (fun x21 ex21 => ?_)
            have bx21 := uk_cl v20
            have rx21 : 0 ≤ x21 ∧ x21 ≤ 7 := by rw [ex21]; exact iv_at hu6 _ _ (ka_2 hkb _ (by omega))
            refine g_dup2 dX0_isEnoughFor_62 rfl rfl ?_
            have v22 : vp_in x21 8 := uk_vin 8 rfl (by first | decide | lia | grind) (by first | decide | lia | grind)
            refine g_iald rfl rfl v22 dX0_isEnoughFor_63 ?_
            refine g_topi (fun x23 ex23 => ?_)
            refine g_iload dX0_isEnoughFor_64 rfl ?_
            refine g_iadd dX0_isEnoughFor_66 ?_
            refine g_topi (fun x24 ex24 => ?_)
            have v25 : vp_in x21 8 := uk_vin 8 rfl (by first | decide | lia | grind) (by first | decide | lia | grind)
            have b26 := uk_cl v25
            refine g_iast rfl rfl v25 dX0_isEnoughFor_67 ?_
            refine g_mem (fun u27 eu27 => ?_)
            have hu27 : iv u27 := by rw [eu27]; exact iv_upF hu6 (uk_pick1 _ (by omega))
            have fu27 : fr 57 58 u u27 := by rw [eu27]; exact fr_up fu6 (by omega) (by omega)
            refine g_aload_n dX0_isEnoughFor_68 rfl ?_
            refine g_aload_n dX0_isEnoughFor_69 rfl ?_
            refine f_X0_22 rfl (kk_0 hkb) dX0_isEnoughFor_70 ?_
            refine g_iload dX0_isEnoughFor_73 rfl ?_
            have v28 : vp_in i5 8 := uk_vin 8 rfl (by first | decide | lia | grind) (by first | decide | lia | grind)
            refine g_iald (kk_3 hkb) (kl_3 hkb) v28 dX0_isEnoughFor_75 ?_
            refine g_topi (fun x29 ex29 => ?_)
            have bx29 := uk_cl v28
            have rx29 : 0 ≤ x29 ∧ x29 ≤ 7 := by rw [ex29]; exact iv_at hu27 _ _ (ka_3 hkb _ (by omega))
            refine g_dup2 dX0_isEnoughFor_76 rfl rfl ?_
            have v30 : vp_in x29 8 := uk_vin 8 rfl (by first | decide | lia | grind) (by first | decide | lia | grind)
            refine g_iald rfl rfl v30 dX0_isEnoughFor_77 ?_
            refine g_topi (fun x31 ex31 => ?_)
            refine g_iload dX0_isEnoughFor_78 rfl ?_
            refine g_iadd dX0_isEnoughFor_80 ?_
            refine g_topi (fun x32 ex32 => ?_)
            have v33 : vp_in x29 8 := uk_vin 8 rfl (by first | decide | lia | grind) (by first | decide | lia | grind)
            have b34 := uk_cl v33
            refine g_iast rfl rfl v33 dX0_isEnoughFor_81 ?_
            refine g_mem (fun u35 eu35 => ?_)
            have hu35 : iv u35 := by rw [eu35]; exact iv_upF hu27 (uk_pick1 _ (by omega))
            have fu35 : fr 57 58 u u35 := by rw [eu35]; exact fr_up fu27 (by omega) (by omega)
            refine g_iinc (v := i5 - 1) dX0_isEnoughFor_82 rfl (uk_m1 _) (by decide) ?_
            refine g_pick (lv' := [(0, .ref (uk_ad G kb)), (1, .int m), (2, .int w), (3, .ref (uk_ad G 57)), (4, .int (i5 - 1)), (5, .int x13)]) [0, 1, 2, 3, 4, 5] rfl ?_
            refine g_goto (tgt := 9) dX0_isEnoughFor_85 (by decide) ?_
            refine g_pick (lv' := [(0, .ref (uk_ad G kb)), (1, .int m), (2, .int w), (3, .ref (uk_ad G 57)), (4, .int (i5 - 1))]) [0, 1, 2, 3, 4] rfl ?_
            exact ihi5 (by first | lia | grind)  u35 hu35 fu35 (by first | trivial | lia | grind)
          · have zc19 := zx18 c19
            refine g_iconst (v := 0) dX0_isEnoughFor_52 (by decide) ?_
            exact g_iret (ty := .boolean) dX0_isEnoughFor_53 rfl rfl ⟨⟨0, rfl, Or.inl rfl, fun q => absurd rfl q, fun _ => by first | trivial | lia | grind⟩, hu6, fu6⟩
      · refine g_iload_n dX0_isEnoughFor_20 rfl ?_
        refine g_goto (tgt := 36) dX0_isEnoughFor_21 (by decide) ?_
        refine g_istore dX0_isEnoughFor_36 (by decide) ?_
        refine g_pick (lv' := [(0, .ref (uk_ad G kb)), (1, .int m), (2, .int w), (3, .ref (uk_ad G 57)), (4, .int i5), (5, .int w)]) [0, 1, 2, 3, 4, 5] rfl ?_
        refine g_iload dX0_isEnoughFor_38 rfl ?_
        refine g_if_le (tgt := 82) dX0_isEnoughFor_40 (by decide) (fun c36 => ?_) (fun c36 => ?_)
        · refine g_iinc (v := i5 - 1) dX0_isEnoughFor_82 rfl (uk_m1 _) (by decide) ?_
          refine g_pick (lv' := [(0, .ref (uk_ad G kb)), (1, .int m), (2, .int w), (3, .ref (uk_ad G 57)), (4, .int (i5 - 1)), (5, .int w)]) [0, 1, 2, 3, 4, 5] rfl ?_
          refine g_goto (tgt := 9) dX0_isEnoughFor_85 (by decide) ?_
          refine g_pick (lv' := [(0, .ref (uk_ad G kb)), (1, .int m), (2, .int w), (3, .ref (uk_ad G 57)), (4, .int (i5 - 1))]) [0, 1, 2, 3, 4] rfl ?_
          exact ihi5 (by first | lia | grind)  u6 hu6 fu6 (by first | trivial | lia | grind)
        · refine g_aload_n dX0_isEnoughFor_43 rfl ?_
          refine g_iload dX0_isEnoughFor_44 rfl ?_
          refine cl_X0_61 (c := kb) (As := [.int i5]) rfl (c_X0_isMade (G := G) hs hu6 hkb i5 (by first | trivial | decide | lia | grind) (by first | trivial | decide | lia | grind) (d)) rfl (by omega) (kk_0 hkb) rfl (Nat.le_of_ble_eq_true rfl) dX0_isEnoughFor_46 (fun r37 u38 q39 => ?_)
          obtain ⟨⟨x40, rfl, tx40, nx40, zx40⟩, mq39⟩ := q39
          rw [mq39]
          refine g_if_ne (tgt := 54) dX0_isEnoughFor_49 (by decide) (fun c41 => ?_) (fun c41 => ?_)
          · have zc41 := nx40 c41
            refine g_aload_n dX0_isEnoughFor_54 rfl ?_
            refine g_aload_n dX0_isEnoughFor_55 rfl ?_
            refine f_X0_19 rfl (kk_0 hkb) dX0_isEnoughFor_56 ?_
            refine g_iload dX0_isEnoughFor_59 rfl ?_
            have v42 : vp_in i5 8 := uk_vin 8 rfl (by first | decide | lia | grind) (by first | decide | lia | grind)
            refine g_iald (kk_2 hkb) (kl_2 hkb) v42 dX0_isEnoughFor_61 ?_
            refine g_topi (fun x43 ex43 => ?_)
            have bx43 := uk_cl v42
            have rx43 : 0 ≤ x43 ∧ x43 ≤ 7 := by rw [ex43]; exact iv_at hu6 _ _ (ka_2 hkb _ (by omega))
            refine g_dup2 dX0_isEnoughFor_62 rfl rfl ?_
            have v44 : vp_in x43 8 := uk_vin 8 rfl (by first | decide | lia | grind) (by first | decide | lia | grind)
            refine g_iald rfl rfl v44 dX0_isEnoughFor_63 ?_
            refine g_topi (fun x45 ex45 => ?_)
            refine g_iload dX0_isEnoughFor_64 rfl ?_
            refine g_iadd dX0_isEnoughFor_66 ?_
            refine g_topi (fun x46 ex46 => ?_)
            have v47 : vp_in x43 8 := uk_vin 8 rfl (by first | decide | lia | grind) (by first | decide | lia | grind)
            have b48 := uk_cl v47
            refine g_iast rfl rfl v47 dX0_isEnoughFor_67 ?_
            refine g_mem (fun u49 eu49 => ?_)
            have hu49 : iv u49 := by rw [eu49]; exact iv_upF hu6 (uk_pick1 _ (by omega))
            have fu49 : fr 57 58 u u49 := by rw [eu49]; exact fr_up fu6 (by omega) (by omega)
            refine g_aload_n dX0_isEnoughFor_68 rfl ?_
            refine g_aload_n dX0_isEnoughFor_69 rfl ?_
            refine f_X0_22 rfl (kk_0 hkb) dX0_isEnoughFor_70 ?_
            refine g_iload dX0_isEnoughFor_73 rfl ?_
            have v50 : vp_in i5 8 := uk_vin 8 rfl (by first | decide | lia | grind) (by first | decide | lia | grind)
            refine g_iald (kk_3 hkb) (kl_3 hkb) v50 dX0_isEnoughFor_75 ?_
            refine g_topi (fun x51 ex51 => ?_)
            have bx51 := uk_cl v50
            have rx51 : 0 ≤ x51 ∧ x51 ≤ 7 := by rw [ex51]; exact iv_at hu49 _ _ (ka_3 hkb _ (by omega))
            refine g_dup2 dX0_isEnoughFor_76 rfl rfl ?_
            have v52 : vp_in x51 8 := uk_vin 8 rfl (by first | decide | lia | grind) (by first | decide | lia | grind)
            refine g_iald rfl rfl v52 dX0_isEnoughFor_77 ?_
            refine g_topi (fun x53 ex53 => ?_)
            refine g_iload dX0_isEnoughFor_78 rfl ?_
            refine g_iadd dX0_isEnoughFor_80 ?_
            refine g_topi (fun x54 ex54 => ?_)
            have v55 : vp_in x51 8 := uk_vin 8 rfl (by first | decide | lia | grind) (by first | decide | lia | grind)
            have b56 := uk_cl v55
            refine g_iast rfl rfl v55 dX0_isEnoughFor_81 ?_
            refine g_mem (fun u57 eu57 => ?_)
            have hu57 : iv u57 := by rw [eu57]; exact iv_upF hu49 (uk_pick1 _ (by omega))
            have fu57 : fr 57 58 u u57 := by rw [eu57]; exact fr_up fu49 (by omega) (by omega)
            refine g_iinc (v := i5 - 1) dX0_isEnoughFor_82 rfl (uk_m1 _) (by decide) ?_
            refine g_pick (lv' := [(0, .ref (uk_ad G kb)), (1, .int m), (2, .int w), (3, .ref (uk_ad G 57)), (4, .int (i5 - 1)), (5, .int w)]) [0, 1, 2, 3, 4, 5] rfl ?_
            refine g_goto (tgt := 9) dX0_isEnoughFor_85 (by decide) ?_
            refine g_pick (lv' := [(0, .ref (uk_ad G kb)), (1, .int m), (2, .int w), (3, .ref (uk_ad G 57)), (4, .int (i5 - 1))]) [0, 1, 2, 3, 4] rfl ?_
            exact ihi5 (by first | lia | grind)  u57 hu57 fu57 (by first | trivial | lia | grind)
          · have zc41 := zx40 c41
            refine g_iconst (v := 0) dX0_isEnoughFor_52 (by decide) ?_
            exact g_iret (ty := .boolean) dX0_isEnoughFor_53 rfl rfl ⟨⟨0, rfl, Or.inl rfl, fun q => absurd rfl q, fun _ => by first | trivial | lia | grind⟩, hu6, fu6⟩
  refine g_pick (lv' := [(0, .ref (uk_ad G kb)), (1, .int m), (2, .int w), (3, .ref (uk_ad G 57)), (4, .int m)]) [0, 1, 2, 3, 4] rfl ?_
  exact L9_3 m (by first | decide | lia | grind)  u2 hu2 fu2 (by first | trivial | lia | grind)
