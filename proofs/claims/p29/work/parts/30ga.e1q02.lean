def l_X0_copyFrom_132 (kc : Nat) (kb : Nat) : Nat → Int32 → uk_Mem → uk_Mem
  | 0, _, u23 => u23
  | K9 + 1, i22, u23 => if (8 : Int32) ≤ i22 then (u23) else (let x26 : Int32 := u23.1 (kc + 8) i22.toNatClampNeg; let u29 : uk_Mem := uk_up u23 (kb + 8) i22.toNatClampNeg x26; l_X0_copyFrom_132 kc kb K9 (i22 + 1) u29)
def l_X0_copyFrom_34 (kc : Nat) (kb : Nat) : Nat → Int32 → uk_Mem → uk_Mem
  | 0, _, u19 => u19
  | K9 + 1, i18, u19 => if (8 : Int32) ≤ i18 then (l_X0_copyFrom_132 kc kb ee_K (0 : Int32) u19) else (let x31 : Int32 := u19.1 (kc + 1) i18.toNatClampNeg; let u34 : uk_Mem := uk_up u19 (kb + 1) i18.toNatClampNeg x31; let x36 : Int32 := u34.1 (kc + 2) i18.toNatClampNeg; let u39 : uk_Mem := uk_up u34 (kb + 2) i18.toNatClampNeg x36; let x41 : Int32 := u39.1 (kc + 3) i18.toNatClampNeg; let u44 : uk_Mem := uk_up u39 (kb + 3) i18.toNatClampNeg x41; let x46 : Int32 := u44.1 (kc + 4) i18.toNatClampNeg; let u49 : uk_Mem := uk_up u44 (kb + 4) i18.toNatClampNeg x46; let x51 : Int32 := u49.1 (kc + 5) i18.toNatClampNeg; let u54 : uk_Mem := uk_up u49 (kb + 5) i18.toNatClampNeg x51; let x56 : Int32 := u54.1 (kc + 6) i18.toNatClampNeg; let u59 : uk_Mem := uk_up u54 (kb + 6) i18.toNatClampNeg x56; let x61 : Int32 := u59.1 (kc + 7) i18.toNatClampNeg; let u64 : uk_Mem := uk_up u59 (kb + 7) i18.toNatClampNeg x61; l_X0_copyFrom_34 kc kb K9 (i18 + 1) u64)
def e_X0_copyFrom (u : uk_Mem) (kb : Nat) (kc : Nat) : uk_Mem := let x1 : Int32 := u.1 kc 0; let u3 : uk_Mem := uk_up u kb 0 x1; let x5 : Int32 := u3.1 kc 9; let u7 : uk_Mem := uk_up u3 kb 9 x5; let x9 : Int32 := u7.1 kc 10; let u11 : uk_Mem := uk_up u7 kb 10 x9; let x13 : Int32 := u11.1 kc 11; let u15 : uk_Mem := uk_up u11 kb 11 x13; l_X0_copyFrom_34 kc kb ee_K (0 : Int32) u15
abbrev qe_X0_copyFrom (u : uk_Mem) (kb : Nat) (kc : Nat) (r : Option Value) (u' : uk_Mem) : Prop := (q_X0_copyFrom u kb kc r u') ∧ (u' = e_X0_copyFrom u kb kc)
set_option maxHeartbeats 4000000 in
set_option maxRecDepth 20000 in
theorem x_X0_copyFrom {G : uk_D} (hs : uk_Sep G) {u : uk_Mem} (hu : iv u) {kb : Nat} (hkb : uk_isK kb) {kc : Nat} (hkc : uk_isK kc) (d : Nat) : uk_Meth G d mX0_copyFrom [.ref (uk_ad G kb), .ref (uk_ad G kc)] u (qe_X0_copyFrom u kb kc) := by
  refine uk_Meth.of hs (by decide) (Nat.le_of_ble_eq_true rfl) (fun X => ?_)
  have f0 : fr kb (kb + 9) u u := fr_rf
  refine g_aload_n dX0_copyFrom_0 rfl ?_
  refine g_aload_n dX0_copyFrom_1 rfl ?_
  refine f_X0_9 rfl (kk_0 hkc) dX0_copyFrom_2 ?_
  refine g_topi (fun x1 ex1 => ?_)
  have rx1 : 0 ≤ x1 ∧ x1 ≤ 8 := by rw [ex1]; exact iv_at hu _ _ (kr_0 hkc)
  have s2 : u.1 kc 0 = x1 := ex1.symm
  refine p_X0_9 rfl (kk_0 hkb) dX0_copyFrom_5 ?_
  refine g_mem (fun u3 eu3 => ?_)
  have hu3 : iv u3 := by rw [eu3]; exact iv_up hu (kr_0 hkb) (by first | lia | grind) (by first | lia | grind)
  have fu3 : fr kb (kb + 9) u u3 := by rw [eu3]; exact fr_up f0 (by omega) (by omega)
  have s4 : u3.1 kb 0 = x1 := by rw [eu3, uk_up_at]; exact if_pos ⟨rfl, rfl⟩
  refine g_aload_n dX0_copyFrom_8 rfl ?_
  refine g_aload_n dX0_copyFrom_9 rfl ?_
  refine f_X0_40 rfl (kk_0 hkc) dX0_copyFrom_10 ?_
  refine g_topi (fun x5 ex5 => ?_)
  have rx5 : 0 ≤ x5 ∧ x5 ≤ 8 := by rw [ex5]; exact iv_at hu3 _ _ (kr_9 hkc)
  have s6 : u3.1 kc 9 = x5 := ex5.symm
  refine p_X0_40 rfl (kk_0 hkb) dX0_copyFrom_13 ?_
  refine g_mem (fun u7 eu7 => ?_)
  have hu7 : iv u7 := by rw [eu7]; exact iv_up hu3 (kr_9 hkb) (by first | lia | grind) (by first | lia | grind)
  have fu7 : fr kb (kb + 9) u u7 := by rw [eu7]; exact fr_up fu3 (by omega) (by omega)
  have s8 : u7.1 kb 9 = x5 := by rw [eu7, uk_up_at]; exact if_pos ⟨rfl, rfl⟩
  refine g_aload_n dX0_copyFrom_16 rfl ?_
  refine g_aload_n dX0_copyFrom_17 rfl ?_
  refine f_X0_43 rfl (kk_0 hkc) dX0_copyFrom_18 ?_
  refine g_topi (fun x9 ex9 => ?_)
  have s10 : u7.1 kc 10 = x9 := ex9.symm
  refine p_X0_43 rfl (kk_0 hkb) dX0_copyFrom_21 ?_
  refine g_mem (fun u11 eu11 => ?_)
  have hu11 : iv u11 := by rw [eu11]; exact iv_upF hu7 (kr_10 hkb)
  have fu11 : fr kb (kb + 9) u u11 := by rw [eu11]; exact fr_up fu7 (by omega) (by omega)
  have s12 : u11.1 kb 10 = x9 := by rw [eu11, uk_up_at]; exact if_pos ⟨rfl, rfl⟩
  refine g_aload_n dX0_copyFrom_24 rfl ?_
  refine g_aload_n dX0_copyFrom_25 rfl ?_
  refine f_X0_46 rfl (kk_0 hkc) dX0_copyFrom_26 ?_
  refine g_topi (fun x13 ex13 => ?_)
  have s14 : u11.1 kc 11 = x13 := ex13.symm
  refine p_X0_46 rfl (kk_0 hkb) dX0_copyFrom_29 ?_
  refine g_mem (fun u15 eu15 => ?_)
  have hu15 : iv u15 := by rw [eu15]; exact iv_upF hu11 (kr_11 hkb)
  have fu15 : fr kb (kb + 9) u u15 := by rw [eu15]; exact fr_up fu11 (by omega) (by omega)
  have s16 : u15.1 kb 11 = x13 := by rw [eu15, uk_up_at]; exact if_pos ⟨rfl, rfl⟩
  refine g_iconst (v := 0) dX0_copyFrom_32 (by decide) ?_
  refine g_istore_n dX0_copyFrom_33 (by decide) ?_
  refine g_pick (lv' := [(0, .ref (uk_ad G kb)), (1, .ref (uk_ad G kc)), (2, .int 0)]) [0, 1, 2] rfl ?_
  have L34_16 : ∀ i18 : Int32, 0 ≤ i18 → i18 ≤ 8 → ∀ (u19 : uk_Mem), iv u19 → fr kb (kb + 9) u u19 → (∃ ki18 : Nat, ee_F 8 i18 ki18 ∧ e_X0_copyFrom u kb kc = l_X0_copyFrom_34 kc kb ki18 i18 u19) → uk_G G X mX0_copyFrom d (qe_X0_copyFrom u kb kc) 34 [(0, .ref (uk_ad G kb)), (1, .ref (uk_ad G kc)), (2, .int i18)] [] u19 := by
    refine uk_upl 8 ?_
    intro i18 ai18 bi18 ihi18  u19 hu19 fu19 jEi18
    obtain ⟨ki18, fki18, hki18⟩ := jEi18
    obtain ⟨ki18, rfl⟩ := ee_Fp (by first | assumption | lia | grind) fki18
    refine g_iload_n dX0_copyFrom_34 rfl ?_
    refine g_bipush (v := 8) dX0_copyFrom_35 (by decide) ?_
    refine g_icmp_ge (tgt := 130) dX0_copyFrom_37 (by decide) (fun c20 => ?_) (fun c20 => ?_)
    · refine g_iconst (v := 0) dX0_copyFrom_130 (by decide) ?_
      refine g_istore_n dX0_copyFrom_131 (by decide) ?_
      refine g_pick (lv' := [(0, .ref (uk_ad G kb)), (1, .ref (uk_ad G kc)), (2, .int 0)]) [0, 1, 2] rfl ?_
      have L132_20 : ∀ i22 : Int32, 0 ≤ i22 → i22 ≤ 8 → ∀ (u23 : uk_Mem), iv u23 → fr kb (kb + 9) u u23 → (∃ ki22 : Nat, ee_F 8 i22 ki22 ∧ e_X0_copyFrom u kb kc = l_X0_copyFrom_132 kc kb ki22 i22 u23) → uk_G G X mX0_copyFrom d (qe_X0_copyFrom u kb kc) 132 [(0, .ref (uk_ad G kb)), (1, .ref (uk_ad G kc)), (2, .int i22)] [] u23 := by
        refine uk_upl 8 ?_
        intro i22 ai22 bi22 ihi22  u23 hu23 fu23 jEi22
        obtain ⟨ki22, fki22, hki22⟩ := jEi22
        obtain ⟨ki22, rfl⟩ := ee_Fp (by first | assumption | lia | grind) fki22
        refine g_iload_n dX0_copyFrom_132 rfl ?_
        refine g_bipush (v := 8) dX0_copyFrom_133 (by decide) ?_
        refine g_icmp_ge (tgt := 156) dX0_copyFrom_135 (by decide) (fun c24 => ?_) (fun c24 => ?_)
        · exact g_vret dX0_copyFrom_156 rfl ⟨⟨rfl, hu23, fu23⟩, (by exact hki22.trans ((if_pos c24).trans (rfl)) : e_X0_copyFrom u kb kc = u23).symm⟩
        · refine g_aload_n dX0_copyFrom_138 rfl ?_
          refine f_X0_37 rfl (kk_0 hkb) dX0_copyFrom_139 ?_
          refine g_iload_n dX0_copyFrom_142 rfl ?_
          refine g_aload_n dX0_copyFrom_143 rfl ?_
          refine f_X0_37 rfl (kk_0 hkc) dX0_copyFrom_144 ?_
          refine g_iload_n dX0_copyFrom_147 rfl ?_
          have v25 : vp_in i22 8 := uk_vin 8 rfl (by first | decide | lia | grind) (by first | decide | lia | grind)
          refine g_iald (kk_8 hkc) (kl_8 hkc) v25 dX0_copyFrom_148 ?_
          refine g_topi (fun x26 ex26 => ?_)
          have bx26 := uk_cl v25
          have rx26 : 0 ≤ x26 ∧ x26 ≤ 7 := by rw [ex26]; exact iv_at hu23 _ _ (ka_8 hkc _ (by omega))
          have v27 : vp_in i22 8 := uk_vin 8 rfl (by first | decide | lia | grind) (by first | decide | lia | grind)
          have b28 := uk_cl v27
          refine g_iast (kk_8 hkb) (kl_8 hkb) v27 dX0_copyFrom_149 ?_
          refine g_mem (fun u29 eu29 => ?_)
          have hu29 : iv u29 := by rw [eu29]; exact iv_up hu23 (ka_8 hkb _ (by omega)) (by first | lia | grind) (by first | lia | grind)
          have fu29 : fr kb (kb + 9) u u29 := by rw [eu29]; exact fr_up fu23 (by omega) (by omega)
          refine g_iinc (v := i22 + 1) dX0_copyFrom_150 rfl rfl (by decide) ?_
          refine g_pick (lv' := [(0, .ref (uk_ad G kb)), (1, .ref (uk_ad G kc)), (2, .int (i22 + 1))]) [0, 1, 2] rfl ?_
          refine g_goto (tgt := 132) dX0_copyFrom_153 (by decide) ?_
          refine g_pick (lv' := [(0, .ref (uk_ad G kb)), (1, .ref (uk_ad G kc)), (2, .int (i22 + 1))]) [0, 1, 2] rfl ?_
          exact ihi22 (by first | lia | grind)  u29 hu29 fu29  ⟨ki22, ee_Fs fki22 (by first | assumption | lia | grind), by subst eu29; subst ex26; exact hki22.trans ((if_neg c24).trans (rfl))⟩
      refine g_pick (lv' := [(0, .ref (uk_ad G kb)), (1, .ref (uk_ad G kc)), (2, .int 0)]) [0, 1, 2] rfl ?_
      exact L132_20 0 (by first | decide | lia | grind) (by first | decide | lia | grind)  u19 hu19 fu19  ⟨ee_K, ee_F0 _ _, by exact hki18.trans ((if_pos c20).trans (rfl))⟩
    · refine g_aload_n dX0_copyFrom_40 rfl ?_
      refine f_X0_15 rfl (kk_0 hkb) dX0_copyFrom_41 ?_
      refine g_iload_n dX0_copyFrom_44 rfl ?_
      refine g_aload_n dX0_copyFrom_45 rfl ?_
      refine f_X0_15 rfl (kk_0 hkc) dX0_copyFrom_46 ?_
      refine g_iload_n dX0_copyFrom_49 rfl ?_
      have v30 : vp_in i18 8 := uk_vin 8 rfl (by first | decide | lia | grind) (by first | decide | lia | grind)
      refine g_iald (kk_1 hkc) (kl_1 hkc) v30 dX0_copyFrom_50 ?_
      refine g_topi (fun x31 ex31 => ?_)
      have v32 : vp_in i18 8 := uk_vin 8 rfl (by first | decide | lia | grind) (by first | decide | lia | grind)
      have b33 := uk_cl v32
      refine g_iast (kk_1 hkb) (kl_1 hkb) v32 dX0_copyFrom_51 ?_
      refine g_mem (fun u34 eu34 => ?_)
      have hu34 : iv u34 := by rw [eu34]; exact iv_upF hu19 (ka_1 hkb _ (by omega))
      have fu34 : fr kb (kb + 9) u u34 := by rw [eu34]; exact fr_up fu19 (by omega) (by omega)
      refine g_aload_n dX0_copyFrom_52 rfl ?_
      refine f_X0_19 rfl (kk_0 hkb) dX0_copyFrom_53 ?_
      refine g_iload_n dX0_copyFrom_56 rfl ?_
      refine g_aload_n dX0_copyFrom_57 rfl ?_
      refine f_X0_19 rfl (kk_0 hkc) dX0_copyFrom_58 ?_
      refine g_iload_n dX0_copyFrom_61 rfl ?_
      have v35 : vp_in i18 8 := uk_vin 8 rfl (by first | decide | lia | grind) (by first | decide | lia | grind)
      refine g_iald (kk_2 hkc) (kl_2 hkc) v35 dX0_copyFrom_62 ?_
      refine g_topi (fun x36 ex36 => ?_)
      have bx36 := uk_cl v35
      have rx36 : 0 ≤ x36 ∧ x36 ≤ 7 := by rw [ex36]; exact iv_at hu34 _ _ (ka_2 hkc _ (by omega))
      have v37 : vp_in i18 8 := uk_vin 8 rfl (by first | decide | lia | grind) (by first | decide | lia | grind)
      have b38 := uk_cl v37
      refine g_iast (kk_2 hkb) (kl_2 hkb) v37 dX0_copyFrom_63 ?_
      refine g_mem (fun u39 eu39 => ?_)
      have hu39 : iv u39 := by rw [eu39]; exact iv_up hu34 (ka_2 hkb _ (by omega)) (by first | lia | grind) (by first | lia | grind)
      have fu39 : fr kb (kb + 9) u u39 := by rw [eu39]; exact fr_up fu34 (by omega) (by omega)
      refine g_aload_n dX0_copyFrom_64 rfl ?_
      refine f_X0_22 rfl (kk_0 hkb) dX0_copyFrom_65 ?_
      refine g_iload_n dX0_copyFrom_68 rfl ?_
      refine g_aload_n dX0_copyFrom_69 rfl ?_
      refine f_X0_22 rfl (kk_0 hkc) dX0_copyFrom_70 ?_
      refine g_iload_n dX0_copyFrom_73 rfl ?_
      have v40 : vp_in i18 8 := uk_vin 8 rfl (by first | decide | lia | grind) (by first | decide | lia | grind)
      refine g_iald (kk_3 hkc) (kl_3 hkc) v40 dX0_copyFrom_74 ?_
      refine g_topi (fun x41 ex41 => ?_)
      have bx41 := uk_cl v40
      have rx41 : 0 ≤ x41 ∧ x41 ≤ 7 := by rw [ex41]; exact iv_at hu39 _ _ (ka_3 hkc _ (by omega))
      have v42 : vp_in i18 8 := uk_vin 8 rfl (by first | decide | lia | grind) (by first | decide | lia | grind)
      have b43 := uk_cl v42
      refine g_iast (kk_3 hkb) (kl_3 hkb) v42 dX0_copyFrom_75 ?_
      refine g_mem (fun u44 eu44 => ?_)
      have hu44 : iv u44 := by rw [eu44]; exact iv_up hu39 (ka_3 hkb _ (by omega)) (by first | lia | grind) (by first | lia | grind)
      have fu44 : fr kb (kb + 9) u u44 := by rw [eu44]; exact fr_up fu39 (by omega) (by omega)
      refine g_aload_n dX0_copyFrom_76 rfl ?_
      refine f_X0_25 rfl (kk_0 hkb) dX0_copyFrom_77 ?_
      refine g_iload_n dX0_copyFrom_80 rfl ?_
      refine g_aload_n dX0_copyFrom_81 rfl ?_
      refine f_X0_25 rfl (kk_0 hkc) dX0_copyFrom_82 ?_
      refine g_iload_n dX0_copyFrom_85 rfl ?_
      have v45 : vp_in i18 8 := uk_vin 8 rfl (by first | decide | lia | grind) (by first | decide | lia | grind)
      refine g_iald (kk_4 hkc) (kl_4 hkc) v45 dX0_copyFrom_86 ?_
      refine g_topi (fun x46 ex46 => ?_)
      have v47 : vp_in i18 8 := uk_vin 8 rfl (by first | decide | lia | grind) (by first | decide | lia | grind)
      have b48 := uk_cl v47
      refine g_iast (kk_4 hkb) (kl_4 hkb) v47 dX0_copyFrom_87 ?_
      refine g_mem (fun u49 eu49 => ?_)
      have hu49 : iv u49 := by rw [eu49]; exact iv_upF hu44 (ka_4 hkb _ (by omega))
      have fu49 : fr kb (kb + 9) u u49 := by rw [eu49]; exact fr_up fu44 (by omega) (by omega)
      refine g_aload_n dX0_copyFrom_88 rfl ?_
      refine f_X0_28 rfl (kk_0 hkb) dX0_copyFrom_89 ?_
      refine g_iload_n dX0_copyFrom_92 rfl ?_
      refine g_aload_n dX0_copyFrom_93 rfl ?_
      refine f_X0_28 rfl (kk_0 hkc) dX0_copyFrom_94 ?_
      refine g_iload_n dX0_copyFrom_97 rfl ?_
      have v50 : vp_in i18 8 := uk_vin 8 rfl (by first | decide | lia | grind) (by first | decide | lia | grind)
      refine g_iald (kk_5 hkc) (kl_5 hkc) v50 dX0_copyFrom_98 ?_
      refine g_topi (fun x51 ex51 => ?_)
      have v52 : vp_in i18 8 := uk_vin 8 rfl (by first | decide | lia | grind) (by first | decide | lia | grind)
      have b53 := uk_cl v52
      refine g_iast (kk_5 hkb) (kl_5 hkb) v52 dX0_copyFrom_99 ?_
      refine g_mem (fun u54 eu54 => ?_)
      have hu54 : iv u54 := by rw [eu54]; exact iv_upF hu49 (ka_5 hkb _ (by omega))
      have fu54 : fr kb (kb + 9) u u54 := by rw [eu54]; exact fr_up fu49 (by omega) (by omega)
      refine g_aload_n dX0_copyFrom_100 rfl ?_
      refine f_X0_31 rfl (kk_0 hkb) dX0_copyFrom_101 ?_
      refine g_iload_n dX0_copyFrom_104 rfl ?_
      refine g_aload_n dX0_copyFrom_105 rfl ?_
      refine f_X0_31 rfl (kk_0 hkc) dX0_copyFrom_106 ?_
      refine g_iload_n dX0_copyFrom_109 rfl ?_
      have v55 : vp_in i18 8 := uk_vin 8 rfl (by first | decide | lia | grind) (by first | decide | lia | grind)
      refine g_iald (kk_6 hkc) (kl_6 hkc) v55 dX0_copyFrom_110 ?_
      refine g_topi (fun x56 ex56 => ?_)
      have v57 : vp_in i18 8 := uk_vin 8 rfl (by first | decide | lia | grind) (by first | decide | lia | grind)
      have b58 := uk_cl v57
      refine g_iast (kk_6 hkb) (kl_6 hkb) v57 dX0_copyFrom_111 ?_
      refine g_mem (fun u59 eu59 => ?_)
      have hu59 : iv u59 := by rw [eu59]; exact iv_upF hu54 (ka_6 hkb _ (by omega))
      have fu59 : fr kb (kb + 9) u u59 := by rw [eu59]; exact fr_up fu54 (by omega) (by omega)
      refine g_aload_n dX0_copyFrom_112 rfl ?_
      refine f_X0_34 rfl (kk_0 hkb) dX0_copyFrom_113 ?_
      refine g_iload_n dX0_copyFrom_116 rfl ?_
      refine g_aload_n dX0_copyFrom_117 rfl ?_
      refine f_X0_34 rfl (kk_0 hkc) dX0_copyFrom_118 ?_
      refine g_iload_n dX0_copyFrom_121 rfl ?_
      have v60 : vp_in i18 8 := uk_vin 8 rfl (by first | decide | lia | grind) (by first | decide | lia | grind)
      refine g_iald (kk_7 hkc) (kl_7 hkc) v60 dX0_copyFrom_122 ?_
      refine g_topi (fun x61 ex61 => ?_)
      have v62 : vp_in i18 8 := uk_vin 8 rfl (by first | decide | lia | grind) (by first | decide | lia | grind)
      have b63 := uk_cl v62
      refine g_iast (kk_7 hkb) (kl_7 hkb) v62 dX0_copyFrom_123 ?_
      refine g_mem (fun u64 eu64 => ?_)
      have hu64 : iv u64 := by rw [eu64]; exact iv_upF hu59 (ka_7 hkb _ (by omega))
      have fu64 : fr kb (kb + 9) u u64 := by rw [eu64]; exact fr_up fu59 (by omega) (by omega)
      refine g_iinc (v := i18 + 1) dX0_copyFrom_124 rfl rfl (by decide) ?_
      refine g_pick (lv' := [(0, .ref (uk_ad G kb)), (1, .ref (uk_ad G kc)), (2, .int (i18 + 1))]) [0, 1, 2] rfl ?_
      refine g_goto (tgt := 34) dX0_copyFrom_127 (by decide) ?_
      refine g_pick (lv' := [(0, .ref (uk_ad G kb)), (1, .ref (uk_ad G kc)), (2, .int (i18 + 1))]) [0, 1, 2] rfl ?_
      exact ihi18 (by first | lia | grind)  u64 hu64 fu64  ⟨ki18, ee_Fs fki18 (by first | assumption | lia | grind), by subst eu64; subst ex61; subst eu59; subst ex56; subst eu54; subst ex51; subst eu49; subst ex46; subst eu44; subst ex41; subst eu39; subst ex36; subst eu34; subst ex31; exact hki18.trans ((if_neg c20).trans (rfl))⟩
  refine g_pick (lv' := [(0, .ref (uk_ad G kb)), (1, .ref (uk_ad G kc)), (2, .int 0)]) [0, 1, 2] rfl ?_
  exact L34_16 0 (by first | decide | lia | grind) (by first | decide | lia | grind)  u15 hu15 fu15  ⟨ee_K, ee_F0 _ _, by subst eu15; subst ex13; subst eu11; subst ex9; subst eu7; subst ex5; subst eu3; subst ex1; exact rfl⟩
def e_X0_addMade (u : uk_Mem) (kb : Nat) (k : Int32) (a : Int32) (b : Int32) (f : Int32) : uk_Mem := let x1 : Int32 := u.1 kb 0; let u5 : uk_Mem := uk_up u (kb + 1) x1.toNatClampNeg k; let x6 : Int32 := u5.1 kb 0; let u9 : uk_Mem := uk_up u5 (kb + 2) x6.toNatClampNeg a; let x10 : Int32 := u9.1 kb 0; let u13 : uk_Mem := uk_up u9 (kb + 3) x10.toNatClampNeg b; let x14 : Int32 := u13.1 kb 0; let u17 : uk_Mem := uk_up u13 (kb + 4) x14.toNatClampNeg f; let x18 : Int32 := u17.1 kb 0; let u21 : uk_Mem := uk_up u17 (kb + 5) x18.toNatClampNeg (0 : Int32); let x22 : Int32 := u21.1 kb 0; let x23 : Int32 := x22 + (1 : Int32); let u24 : uk_Mem := uk_up u21 kb 0 x23; u24
abbrev qe_X0_addMade (u : uk_Mem) (kb : Nat) (k : Int32) (a : Int32) (b : Int32) (f : Int32) (r : Option Value) (u' : uk_Mem) : Prop := (q_X0_addMade u kb k a b f r u') ∧ (u' = e_X0_addMade u kb k a b f)
set_option maxHeartbeats 4000000 in
set_option maxRecDepth 20000 in
theorem x_X0_addMade {G : uk_D} (hs : uk_Sep G) {u : uk_Mem} (hu : iv u) {kb : Nat} (hkb : uk_isK kb) (k : Int32) (a : Int32) (b : Int32) (f : Int32) (p0 : u.1 kb 0 ≤ 7) (p1 : 0 ≤ a) (p2 : a ≤ 7) (p3 : 0 ≤ b) (p4 : b ≤ 7) (d : Nat) : uk_Meth G d mX0_addMade [.ref (uk_ad G kb), .int k, .int a, .int b, .int f] u (qe_X0_addMade u kb k a b f) := by
  refine uk_Meth.of hs (by decide) (Nat.le_of_ble_eq_true rfl) (fun X => ?_)
  have f0 : fr kb (kb + 9) u u := fr_rf
  refine g_aload_n dX0_addMade_0 rfl ?_
  refine f_X0_15 rfl (kk_0 hkb) dX0_addMade_1 ?_
  refine g_aload_n dX0_addMade_4 rfl ?_
  refine f_X0_9 rfl (kk_0 hkb) dX0_addMade_5 ?_
  refine g_topi (fun x1 ex1 => ?_)
  have rx1 : 0 ≤ x1 ∧ x1 ≤ 8 := by rw [ex1]; exact iv_at hu _ _ (kr_0 hkb)
  have s2 : u.1 kb 0 = x1 := ex1.symm
  refine g_iload_n dX0_addMade_8 rfl ?_
  have v3 : vp_in x1 8 := uk_vin 8 rfl (by first | decide | lia | grind) (by first | decide | lia | grind)
  have b4 := uk_cl v3
  refine g_iast (kk_1 hkb) (kl_1 hkb) v3 dX0_addMade_9 ?_
  refine g_mem (fun u5 eu5 => ?_)
  have hu5 : iv u5 := by rw [eu5]; exact iv_upF hu (ka_1 hkb _ (by omega))
  have fu5 : fr kb (kb + 9) u u5 := by rw [eu5]; exact fr_up f0 (by omega) (by omega)
  refine g_aload_n dX0_addMade_10 rfl ?_
  refine f_X0_19 rfl (kk_0 hkb) dX0_addMade_11 ?_
  refine g_aload_n dX0_addMade_14 rfl ?_
  refine f_X0_9 rfl (kk_0 hkb) dX0_addMade_15 ?_
  refine g_topi (fun x6 ex6 => ?_)
  have rx6 : 0 ≤ x6 ∧ x6 ≤ 8 := by rw [ex6]; exact iv_at hu5 _ _ (kr_0 hkb)
  have qx6 : x6 = x1 := by rw [ex6]; simp [eu5, uk_up_at, s2]
  refine g_iload_n dX0_addMade_18 rfl ?_
  have v7 : vp_in x6 8 := uk_vin 8 rfl (by first | decide | lia | grind) (by first | decide | lia | grind)
  have b8 := uk_cl v7
  refine g_iast (kk_2 hkb) (kl_2 hkb) v7 dX0_addMade_19 ?_
  refine g_mem (fun u9 eu9 => ?_)
  have hu9 : iv u9 := by rw [eu9]; exact iv_up hu5 (ka_2 hkb _ (by omega)) (by first | lia | grind) (by first | lia | grind)
  have fu9 : fr kb (kb + 9) u u9 := by rw [eu9]; exact fr_up fu5 (by omega) (by omega)
  refine g_aload_n dX0_addMade_20 rfl ?_
  refine f_X0_22 rfl (kk_0 hkb) dX0_addMade_21 ?_
  refine g_aload_n dX0_addMade_24 rfl ?_
  refine f_X0_9 rfl (kk_0 hkb) dX0_addMade_25 ?_
  refine g_topi (fun x10 ex10 => ?_)
  have rx10 : 0 ≤ x10 ∧ x10 ≤ 8 := by rw [ex10]; exact iv_at hu9 _ _ (kr_0 hkb)
  have qx10 : x10 = x1 := by rw [ex10]; simp [eu9, eu5, uk_up_at, s2]
  refine g_iload_n dX0_addMade_28 rfl ?_
  have v11 : vp_in x10 8 := uk_vin 8 rfl (by first | decide | lia | grind) (by first | decide | lia | grind)
  have b12 := uk_cl v11
  refine g_iast (kk_3 hkb) (kl_3 hkb) v11 dX0_addMade_29 ?_
  refine g_mem (fun u13 eu13 => ?_)
  have hu13 : iv u13 := by rw [eu13]; exact iv_up hu9 (ka_3 hkb _ (by omega)) (by first | lia | grind) (by first | lia | grind)
  have fu13 : fr kb (kb + 9) u u13 := by rw [eu13]; exact fr_up fu9 (by omega) (by omega)
  refine g_aload_n dX0_addMade_30 rfl ?_
  refine f_X0_25 rfl (kk_0 hkb) dX0_addMade_31 ?_
  refine g_aload_n dX0_addMade_34 rfl ?_
  refine f_X0_9 rfl (kk_0 hkb) dX0_addMade_35 ?_
  refine g_topi (fun x14 ex14 => ?_)
  have rx14 : 0 ≤ x14 ∧ x14 ≤ 8 := by rw [ex14]; exact iv_at hu13 _ _ (kr_0 hkb)
  have qx14 : x14 = x1 := by rw [ex14]; simp [eu13, eu9, eu5, uk_up_at, s2]
  refine g_iload dX0_addMade_38 rfl ?_
  have v15 : vp_in x14 8 := uk_vin 8 rfl (by first | decide | lia | grind) (by first | decide | lia | grind)
  have b16 := uk_cl v15
  refine g_iast (kk_4 hkb) (kl_4 hkb) v15 dX0_addMade_40 ?_
  refine g_mem (fun u17 eu17 => ?_)
  have hu17 : iv u17 := by rw [eu17]; exact iv_upF hu13 (ka_4 hkb _ (by omega))
  have fu17 : fr kb (kb + 9) u u17 := by rw [eu17]; exact fr_up fu13 (by omega) (by omega)
  refine g_aload_n dX0_addMade_41 rfl ?_
  refine f_X0_28 rfl (kk_0 hkb) dX0_addMade_42 ?_
  refine g_aload_n dX0_addMade_45 rfl ?_
  refine f_X0_9 rfl (kk_0 hkb) dX0_addMade_46 ?_
  refine g_topi (fun x18 ex18 => ?_)
  have rx18 : 0 ≤ x18 ∧ x18 ≤ 8 := by rw [ex18]; exact iv_at hu17 _ _ (kr_0 hkb)
  have qx18 : x18 = x1 := by rw [ex18]; simp [eu17, eu13, eu9, eu5, uk_up_at, s2]
  refine g_iconst (v := 0) dX0_addMade_49 (by decide) ?_
  have v19 : vp_in x18 8 := uk_vin 8 rfl (by first | decide | lia | grind) (by first | decide | lia | grind)
  have b20 := uk_cl v19
  refine g_iast (kk_5 hkb) (kl_5 hkb) v19 dX0_addMade_50 ?_
  refine g_mem (fun u21 eu21 => ?_)
  have hu21 : iv u21 := by rw [eu21]; exact iv_upF hu17 (ka_5 hkb _ (by omega))
  have fu21 : fr kb (kb + 9) u u21 := by rw [eu21]; exact fr_up fu17 (by omega) (by omega)
  refine g_aload_n dX0_addMade_51 rfl ?_
  refine g_dup dX0_addMade_52 rfl ?_
  refine f_X0_9 rfl (kk_0 hkb) dX0_addMade_53 ?_
  refine g_topi (fun x22 ex22 => ?_)
  have rx22 : 0 ≤ x22 ∧ x22 ≤ 8 := by rw [ex22]; exact iv_at hu21 _ _ (kr_0 hkb)
  have qx22 : x22 = x1 := by rw [ex22]; simp [eu21, eu17, eu13, eu9, eu5, uk_up_at, s2]
  refine g_iconst (v := 1) dX0_addMade_56 (by decide) ?_
  refine g_iadd dX0_addMade_57 ?_
  refine g_topi (fun x23 ex23 => ?_)
  refine p_X0_9 rfl (kk_0 hkb) dX0_addMade_58 ?_
  refine g_mem (fun u24 eu24 => ?_)
  have hu24 : iv u24 := by rw [eu24]; exact iv_up hu21 (kr_0 hkb) (by first | lia | grind) (by first | lia | grind)
  have fu24 : fr kb (kb + 9) u u24 := by rw [eu24]; exact fr_up fu21 (by omega) (by omega)
  have s25 : u24.1 kb 0 = x23 := by rw [eu24, uk_up_at]; exact if_pos ⟨rfl, rfl⟩
  exact g_vret dX0_addMade_61 rfl ⟨⟨rfl, hu24, fu24, (by first | rfl | grind | grind [uk_up_at])⟩, (by subst eu24; subst ex23; subst ex22; subst eu21; subst ex18; subst eu17; subst ex14; subst eu13; subst ex10; subst eu9; subst ex6; subst eu5; subst ex1; exact rfl : e_X0_addMade u kb k a b f = u24).symm⟩
def e_X0_addRaw (u : uk_Mem) (kb : Nat) (q : Int32) (f : Int32) : uk_Mem := let u2 : uk_Mem := e_X0_addMade u kb (4 : Int32) (0 : Int32) (0 : Int32) f; let x4 : Int32 := u2.1 kb 0; let x6 : Int32 := x4 - (1 : Int32); let u9 : uk_Mem := uk_up u2 (kb + 5) x6.toNatClampNeg q; u9
abbrev qe_X0_addRaw (u : uk_Mem) (kb : Nat) (q : Int32) (f : Int32) (r : Option Value) (u' : uk_Mem) : Prop := (q_X0_addRaw u kb q f r u') ∧ (u' = e_X0_addRaw u kb q f)
set_option maxHeartbeats 4000000 in
set_option maxRecDepth 20000 in
theorem x_X0_addRaw {G : uk_D} (hs : uk_Sep G) {u : uk_Mem} (hu : iv u) {kb : Nat} (hkb : uk_isK kb) (q : Int32) (f : Int32) (p0 : u.1 kb 0 ≤ 7) (d : Nat) : uk_Meth G (d + 1) mX0_addRaw [.ref (uk_ad G kb), .int q, .int f] u (qe_X0_addRaw u kb q f) := by
  refine uk_Meth.of hs (by decide) (Nat.le_of_ble_eq_true rfl) (fun X => ?_)
  have f0 : fr kb (kb + 9) u u := fr_rf
  have z0 := iv_at hu _ _ (kr_0 hkb)
  refine g_aload_n dX0_addRaw_0 rfl ?_
  refine g_iconst (v := 4) dX0_addRaw_1 (by decide) ?_
  refine g_iconst (v := 0) dX0_addRaw_2 (by decide) ?_
  refine g_iconst (v := 0) dX0_addRaw_3 (by decide) ?_
  refine g_iload_n dX0_addRaw_4 rfl ?_
  refine cl_X0_49 (c := kb) (As := [.int 4, .int 0, .int 0, .int f]) rfl (x_X0_addMade (G := G) hs hu hkb 4 0 0 f (by first | trivial | decide | lia | grind) (by first | trivial | decide | lia | grind) (by first | trivial | decide | lia | grind) (by first | trivial | decide | lia | grind) (by first | trivial | decide | lia | grind) (d)) rfl (by omega) (kk_0 hkb) rfl (Nat.le_of_ble_eq_true rfl) dX0_addRaw_5 (fun r1 u2 q3 => ?_)
  obtain ⟨q3, Eq3⟩ := q3
  obtain ⟨rfl, mq3⟩ := q3
  obtain ⟨hu2, gu2, ku20⟩ := mq3
  have fu2 : fr kb (kb + 9) u u2 := fr_tr f0 gu2 (by omega) (by omega)
  have eu2 : u2 = e_X0_addMade u kb (4 : Int32) (0 : Int32) (0 : Int32) f := Eq3
  refine g_aload_n dX0_addRaw_8 rfl ?_
  refine f_X0_28 rfl (kk_0 hkb) dX0_addRaw_9 ?_
  refine g_aload_n dX0_addRaw_12 rfl ?_
  refine f_X0_9 rfl (kk_0 hkb) dX0_addRaw_13 ?_
  refine g_topi (fun x4 ex4 => ?_)
  have rx4 : 0 ≤ x4 ∧ x4 ≤ 8 := by rw [ex4]; exact iv_at hu2 _ _ (kr_0 hkb)
  have s5 : u2.1 kb 0 = x4 := ex4.symm
  refine g_iconst (v := 1) dX0_addRaw_16 (by decide) ?_
  refine g_isub dX0_addRaw_17 ?_
  refine g_topi (fun x6 ex6 => ?_)
  refine g_iload_n dX0_addRaw_18 rfl ?_
  have v7 : vp_in x6 8 := uk_vin 8 rfl (by first | decide | lia | grind) (by first | decide | lia | grind)
  have b8 := uk_cl v7
  refine g_iast (kk_5 hkb) (kl_5 hkb) v7 dX0_addRaw_19 ?_
  refine g_mem (fun u9 eu9 => ?_)
  have hu9 : iv u9 := by rw [eu9]; exact iv_upF hu2 (ka_5 hkb _ (by omega))
  have fu9 : fr kb (kb + 9) u u9 := by rw [eu9]; exact fr_up fu2 (by omega) (by omega)
  exact g_vret dX0_addRaw_20 rfl ⟨⟨rfl, hu9, fu9⟩, (by subst eu9; subst ex6; subst ex4; subst eu2; exact rfl : e_X0_addRaw u kb q f = u9).symm⟩

