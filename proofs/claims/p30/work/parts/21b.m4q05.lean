abbrev q_X7_findHeld (u : uk_Mem) (m : Int32) (r : Option Value) (u' : uk_Mem) : Prop := (r = none) ∧ (iv u' ∧ fk [70] [] u u' ∧ ri u')
set_option maxHeartbeats 4000000 in
set_option maxRecDepth 20000 in
theorem c_X7_findHeld {G : uk_D} (hs : uk_Sep G) {u : uk_Mem} (hu : iv u) (hri : ri u) (m : Int32) (p0 : 0 ≤ m) (p1 : m < u.1 60 3) (p2 : m ≤ 7) (d : Nat) : uk_Meth G (d + 1) mX7_findHeld [.ref (uk_ad G 60), .int m] u (q_X7_findHeld u m) := by
  refine uk_Meth.of hs (by decide) (Nat.le_of_ble_eq_true rfl) (fun X => ?_)
  have f0 : fk [70] [] u u := fk_rf
  have C61 : u.1 61 = u.1 61 := rfl
  refine g_iconst (v := 0) dX7_findHeld_0 (by decide) ?_
  refine g_istore_n dX7_findHeld_1 (by decide) ?_
  refine g_pick (lv' := [(0, .ref (uk_ad G 60)), (1, .int m), (2, .int 0)]) [0, 1, 2] rfl ?_
  have L2_0 : ∀ i2 : Int32, 0 ≤ i2 → i2 ≤ 8 → ∀ (u3 : uk_Mem), iv u3 → fk [70] [] u u3 → ri u3 → uk_G G X mX7_findHeld (d + 1) (q_X7_findHeld u m) 2 [(0, .ref (uk_ad G 60)), (1, .int m), (2, .int i2)] [] u3 := by
    refine uk_upl 8 ?_
    intro i2 ai2 bi2 ihi2  u3 hu3 fu3 riu3
    have wu3_60_3 : u3.1 60 3 = u.1 60 3 := fk_at fu3 (by decide)
    refine g_iload_n dX7_findHeld_2 rfl ?_
    refine g_aload_n dX7_findHeld_3 rfl ?_
    refine f_X7_79 rfl rfl dX7_findHeld_4 ?_
    refine g_topi (fun x4 ex4 => ?_)
    have rx4 : 0 ≤ x4 ∧ x4 ≤ 8 := by rw [ex4]; exact iv_at hu3 _ _ rfl
    have s5 : u3.1 60 3 = x4 := ex4.symm
    refine g_icmp_ge (tgt := 35) dX7_findHeld_7 (by decide) (fun c6 => ?_) (fun c6 => ?_)
    · refine g_iload_n dX7_findHeld_35 rfl ?_
      refine g_istore_n dX7_findHeld_36 (by decide) ?_
      refine g_pick (lv' := [(0, .ref (uk_ad G 60)), (1, .int m), (2, .int m)]) [0, 1, 2] rfl ?_
      have L37_6 : ∀ i8 : Int32, -1 ≤ i8 → ∀ (u9 : uk_Mem), iv u9 → fk [70] [] u u9 → ri u9 → i8 ≤ 7 → i8 < u.1 60 3 → uk_G G X mX7_findHeld (d + 1) (q_X7_findHeld u m) 37 [(0, .ref (uk_ad G 60)), (1, .int m), (2, .int i8)] [] u9 := by
        refine uk_dnl ?_
        intro i8 ai8 ihi8  u9 hu9 fu9 riu9 ji80 ji81
        have C61_u9 : u9.1 61 = u9.1 61 := rfl
        have wu9_60_3 : u9.1 60 3 = u.1 60 3 := fk_at fu9 (by decide)
        refine g_iload_n dX7_findHeld_37 rfl ?_
        refine g_if_lt (tgt := 95) dX7_findHeld_38 (by decide) (fun c10 => ?_) (fun c10 => ?_)
        · exact g_vret dX7_findHeld_95 rfl ⟨rfl, hu9, fu9, riu9⟩
        · refine g_aload_n dX7_findHeld_41 rfl ?_
          refine g_iload_n dX7_findHeld_42 rfl ?_
          refine cl_X7_166 (c := 60) (As := [.int i8]) rfl (c_X7_isRaw (G := G) hs hu9  i8 (by first | trivial | decide | lia | grind) (by first | trivial | decide | lia | grind) (d)) rfl (by omega) rfl rfl (Nat.le_of_ble_eq_true rfl) dX7_findHeld_43 (fun r11 u12 q13 => ?_)
          obtain ⟨⟨x14, rfl, tx14, nx14, zx14⟩, mq13⟩ := q13
          rw [mq13]
          refine g_if_ne (tgt := 89) dX7_findHeld_46 (by decide) (fun c15 => ?_) (fun c15 => ?_)
          · have zc15 := nx14 c15
            refine g_iinc (v := i8 - 1) dX7_findHeld_89 rfl (uk_m1 _) (by decide) ?_
            refine g_pick (lv' := [(0, .ref (uk_ad G 60)), (1, .int m), (2, .int (i8 - 1))]) [0, 1, 2] rfl ?_
            refine g_goto (tgt := 37) dX7_findHeld_92 (by decide) ?_
            refine g_pick (lv' := [(0, .ref (uk_ad G 60)), (1, .int m), (2, .int (i8 - 1))]) [0, 1, 2] rfl ?_
            exact ihi8 (by first | lia | grind)  u9 hu9 fu9 riu9 (by first | trivial | lia | grind) (by first | trivial | lia | grind)
          · have zc15 := zx14 c15
            refine g_aload_n dX7_findHeld_49 rfl ?_
            refine f_X7_38 rfl rfl dX7_findHeld_50 ?_
            refine g_aload_n dX7_findHeld_53 rfl ?_
            refine f_X7_20 rfl rfl dX7_findHeld_54 ?_
            refine g_iload_n dX7_findHeld_57 rfl ?_
            have v16 : vp_in i8 8 := uk_vin 8 rfl (by first | decide | lia | grind) (by first | decide | lia | grind)
            refine g_iald rfl rfl v16 dX7_findHeld_58 ?_
            refine g_topi (fun x17 ex17 => ?_)
            have bx17 := uk_cl v16
            have rx17 : (-4) ≤ x17 ∧ x17 ≤ 7 := by rw [ex17]; exact iv_at hu9 _ _ (uk_pick1 _ (by omega))
            have hqx17 := (riu9.1 i8 (by lia) (by rw [fk_at (c := 60) (i := 3) fu9 (by decide)]; first | lia | grind) (by lia)).resolve_left (by grind)
            have hpx17 : 0 ≤ x17 ∧ x17 < i8 := by rw [ex17]; exact ⟨hqx17.1, hqx17.2.1⟩
            refine g_dup2 dX7_findHeld_59 rfl rfl ?_
            have v18 : vp_in x17 8 := uk_vin 8 rfl (by first | decide | lia | grind) (by first | decide | lia | grind)
            refine g_iald rfl rfl v18 dX7_findHeld_60 ?_
            refine g_topi (fun x19 ex19 => ?_)
            refine g_aload_n dX7_findHeld_61 rfl ?_
            refine f_X7_38 rfl rfl dX7_findHeld_62 ?_
            refine g_iload_n dX7_findHeld_65 rfl ?_
            have v20 : vp_in i8 8 := uk_vin 8 rfl (by first | decide | lia | grind) (by first | decide | lia | grind)
            refine g_iald rfl rfl v20 dX7_findHeld_66 ?_
            refine g_topi (fun x21 ex21 => ?_)
            refine g_iadd dX7_findHeld_67 ?_
            refine g_topi (fun x22 ex22 => ?_)
            have v23 : vp_in x17 8 := uk_vin 8 rfl (by first | decide | lia | grind) (by first | decide | lia | grind)
            have b24 := uk_cl v23
            refine g_iast rfl rfl v23 dX7_findHeld_68 ?_
            refine g_mem (fun u25 eu25 => ?_)
            have hu25 : iv u25 := by rw [eu25]; exact iv_upF hu9 (uk_pick1 _ (by omega))
            have fu25 : fk [70] [] u u25 := by rw [eu25]; exact fk_up fu9 (by decide) (fun q => absurd q (by decide))
            have riu25 : ri u25 := by rw [eu25]; exact ri_1 riu9 (by decide) (fun q => absurd q (by decide))
            have C26 : u25.1 61 = u9.1 61 := by rw [eu25]; exact (uk_up_oc (by decide)).trans C61_u9
            refine g_aload_n dX7_findHeld_69 rfl ?_
            refine f_X7_38 rfl rfl dX7_findHeld_70 ?_
            refine g_aload_n dX7_findHeld_73 rfl ?_
            refine f_X7_23 rfl rfl dX7_findHeld_74 ?_
            refine g_iload_n dX7_findHeld_77 rfl ?_
            have v27 : vp_in i8 8 := uk_vin 8 rfl (by first | decide | lia | grind) (by first | decide | lia | grind)
            refine g_iald rfl rfl v27 dX7_findHeld_78 ?_
            refine g_topi (fun x28 ex28 => ?_)
            have bx28 := uk_cl v27
            have rx28 : (-4) ≤ x28 ∧ x28 ≤ 7 := by rw [ex28]; exact iv_at hu25 _ _ (uk_pick1 _ (by omega))
            have kx28 : ¬ u25.1 61 (32 + i8).toNatClampNeg = 4 := by rw [C26]; assumption
            have hqx28 := (riu25.1 i8 (by lia) (by rw [fk_at (c := 60) (i := 3) fu25 (by decide)]; first | lia | grind) (by lia)).resolve_left kx28
            have hpx28 : 0 ≤ x28 ∧ x28 < i8 := by rw [ex28]; exact ⟨hqx28.2.2.1, hqx28.2.2.2⟩
            refine g_dup2 dX7_findHeld_79 rfl rfl ?_
            have v29 : vp_in x28 8 := uk_vin 8 rfl (by first | decide | lia | grind) (by first | decide | lia | grind)
            refine g_iald rfl rfl v29 dX7_findHeld_80 ?_
            refine g_topi (fun x30 ex30 => ?_)
            refine g_aload_n dX7_findHeld_81 rfl ?_
            refine f_X7_38 rfl rfl dX7_findHeld_82 ?_
            refine g_iload_n dX7_findHeld_85 rfl ?_
            have v31 : vp_in i8 8 := uk_vin 8 rfl (by first | decide | lia | grind) (by first | decide | lia | grind)
            refine g_iald rfl rfl v31 dX7_findHeld_86 ?_
            refine g_topi (fun x32 ex32 => ?_)
            refine g_iadd dX7_findHeld_87 ?_
            refine g_topi (fun x33 ex33 => ?_)
            have v34 : vp_in x28 8 := uk_vin 8 rfl (by first | decide | lia | grind) (by first | decide | lia | grind)
            have b35 := uk_cl v34
            refine g_iast rfl rfl v34 dX7_findHeld_88 ?_
            refine g_mem (fun u36 eu36 => ?_)
            have hu36 : iv u36 := by rw [eu36]; exact iv_upF hu25 (uk_pick1 _ (by omega))
            have fu36 : fk [70] [] u u36 := by rw [eu36]; exact fk_up fu25 (by decide) (fun q => absurd q (by decide))
            have riu36 : ri u36 := by rw [eu36]; exact ri_1 riu25 (by decide) (fun q => absurd q (by decide))
            have C37 : u36.1 61 = u9.1 61 := by rw [eu36]; exact (uk_up_oc (by decide)).trans C26
            refine g_iinc (v := i8 - 1) dX7_findHeld_89 rfl (uk_m1 _) (by decide) ?_
            refine g_pick (lv' := [(0, .ref (uk_ad G 60)), (1, .int m), (2, .int (i8 - 1))]) [0, 1, 2] rfl ?_
            refine g_goto (tgt := 37) dX7_findHeld_92 (by decide) ?_
            refine g_pick (lv' := [(0, .ref (uk_ad G 60)), (1, .int m), (2, .int (i8 - 1))]) [0, 1, 2] rfl ?_
            exact ihi8 (by first | lia | grind)  u36 hu36 fu36 riu36 (by first | trivial | lia | grind) (by first | trivial | lia | grind)
      refine g_pick (lv' := [(0, .ref (uk_ad G 60)), (1, .int m), (2, .int m)]) [0, 1, 2] rfl ?_
      exact L37_6 m (by first | decide | lia | grind)  u3 hu3 fu3 riu3 (by first | trivial | lia | grind) (by first | trivial | lia | grind)
    · refine g_aload_n dX7_findHeld_10 rfl ?_
      refine f_X7_38 rfl rfl dX7_findHeld_11 ?_
      refine g_iload_n dX7_findHeld_14 rfl ?_
      refine g_iload_n dX7_findHeld_15 rfl ?_
      refine g_iload_n dX7_findHeld_16 rfl ?_
      refine g_icmp_ne (tgt := 24) dX7_findHeld_17 (by decide) (fun c38 => ?_) (fun c38 => ?_)
      · refine g_iconst (v := 0) dX7_findHeld_24 (by decide) ?_
        refine cl_X7_169 (As := [.int 0]) rfl (c_X7_flag (G := G) hs hu3  0  (d)) rfl (by omega) rfl (Nat.le_of_ble_eq_true rfl) dX7_findHeld_25 (fun r39 u40 q41 => ?_)
        obtain ⟨⟨x42, rfl, tx42⟩, mq41⟩ := q41
        rw [mq41]
        have v43 : vp_in i2 8 := uk_vin 8 rfl (by first | decide | lia | grind) (by first | decide | lia | grind)
        have b44 := uk_cl v43
        refine g_iast rfl rfl v43 dX7_findHeld_28 ?_
        refine g_mem (fun u45 eu45 => ?_)
        have hu45 : iv u45 := by rw [eu45]; exact iv_upF hu3 (uk_pick1 _ (by omega))
        have fu45 : fk [70] [] u u45 := by rw [eu45]; exact fk_up fu3 (by decide) (fun q => absurd q (by decide))
        have riu45 : ri u45 := by rw [eu45]; exact ri_1 riu3 (by decide) (fun q => absurd q (by decide))
        refine g_iinc (v := i2 + 1) dX7_findHeld_29 rfl rfl (by decide) ?_
        refine g_pick (lv' := [(0, .ref (uk_ad G 60)), (1, .int m), (2, .int (i2 + 1))]) [0, 1, 2] rfl ?_
        refine g_goto (tgt := 2) dX7_findHeld_32 (by decide) ?_
        refine g_pick (lv' := [(0, .ref (uk_ad G 60)), (1, .int m), (2, .int (i2 + 1))]) [0, 1, 2] rfl ?_
        exact ihi2 (by first | lia | grind)  u45 hu45 fu45 riu45 
      · refine g_iconst (v := 1) dX7_findHeld_20 (by decide) ?_
        refine g_goto (tgt := 25) dX7_findHeld_21 (by decide) ?_
        refine cl_X7_169 (As := [.int 1]) rfl (c_X7_flag (G := G) hs hu3  1  (d)) rfl (by omega) rfl (Nat.le_of_ble_eq_true rfl) dX7_findHeld_25 (fun r46 u47 q48 => ?_)
        obtain ⟨⟨x49, rfl, tx49⟩, mq48⟩ := q48
        rw [mq48]
        have v50 : vp_in i2 8 := uk_vin 8 rfl (by first | decide | lia | grind) (by first | decide | lia | grind)
        have b51 := uk_cl v50
        refine g_iast rfl rfl v50 dX7_findHeld_28 ?_
        refine g_mem (fun u52 eu52 => ?_)
        have hu52 : iv u52 := by rw [eu52]; exact iv_upF hu3 (uk_pick1 _ (by omega))
        have fu52 : fk [70] [] u u52 := by rw [eu52]; exact fk_up fu3 (by decide) (fun q => absurd q (by decide))
        have riu52 : ri u52 := by rw [eu52]; exact ri_1 riu3 (by decide) (fun q => absurd q (by decide))
        refine g_iinc (v := i2 + 1) dX7_findHeld_29 rfl rfl (by decide) ?_
        refine g_pick (lv' := [(0, .ref (uk_ad G 60)), (1, .int m), (2, .int (i2 + 1))]) [0, 1, 2] rfl ?_
        refine g_goto (tgt := 2) dX7_findHeld_32 (by decide) ?_
        refine g_pick (lv' := [(0, .ref (uk_ad G 60)), (1, .int m), (2, .int (i2 + 1))]) [0, 1, 2] rfl ?_
        exact ihi2 (by first | lia | grind)  u52 hu52 fu52 riu52 
  refine g_pick (lv' := [(0, .ref (uk_ad G 60)), (1, .int m), (2, .int 0)]) [0, 1, 2] rfl ?_
  exact L2_0 0 (by first | decide | lia | grind) (by first | decide | lia | grind)  u hu f0 hri 
