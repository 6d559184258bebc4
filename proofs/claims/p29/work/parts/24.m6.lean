abbrev q_X7_findHeld (u : uk_Mem) (m : Int32) (r : Option Value) (u' : uk_Mem) : Prop := (r = none) ∧ (iv u' ∧ fk [70] [] u u' ∧ ri u')
set_option maxHeartbeats 4000000 in
set_option maxRecDepth 20000 in
theorem c_X7_findHeld {G : uk_D} (hs : uk_Sep G) {u : uk_Mem} (hu : iv u) (hri : ri u) (m : Int32) (p0 : 0 ≤ m) (p1 : m < u.1 60 3) (p2 : m ≤ 7) (d : Nat) : uk_Meth G (d + 1) mX7_findHeld [.ref (uk_ad G 60), .int m] u (q_X7_findHeld u m) := by
  refine uk_Meth.of hs (by decide) (Nat.le_of_ble_eq_true rfl) (fun X => ?_)
  have f0 : fk [70] [] u u := fk_rf
  have C61 : u.1 61 = u.1 61 := rfl
  refine g_iconst (v := 0) dX7_findHeld_0 (by decide) ?_
  refine g_istore_n dX7_findHeld_1 (by decide) ?_
  refine g_pick (lv' := [(0, .ref (uk_ad G 60)), (1, .int m), (2, .int 0)]) [0, 1, 2] rfl ?_
  have L2_0 : ∀ i2 : Int32, 0 ≤ i2 → i2 ≤ 8 → ∀ (u3 : uk_Mem), iv u3 → fk [70] [] u u3 → ri u3 → uk_G G X mX7_findHeld (d + 1) (q_X7_findHeld u m) 2 [(0, .ref (uk_ad G 60)), (1, .int m), (2, .int i2)] [] u3 := by
    refine uk_upl 8 ?_
    intro i2 ai2 bi2 ihi2  u3 hu3 fu3 riu3
    have wu3_60_3 : u3.1 60 3 = u.1 60 3 := fk_at fu3 (by decide)
    refine g_iload_n dX7_findHeld_2 rfl ?_
    refine g_aload_n dX7_findHeld_3 rfl ?_
    refine f_X7_79 rfl rfl dX7_findHeld_4 ?_
    refine g_topi (fun x4 ex4 => ?_)
    have rx4 : 0 ≤ x4 ∧ x4 ≤ 8 := by rw [ex4]; exact iv_at hu3 _ _ rfl
    have s5 : u3.1 60 3 = x4 := ex4.symm
    refine g_icmp_ge (tgt := 35) dX7_findHeld_7 (by decide) (fun c6 => ?_) (fun c6 => ?_)
    · refine g_iload_n dX7_findHeld_35 rfl ?_
      refine g_istore_n dX7_findHeld_36 (by decide) ?_
      refine g_pick (lv' := [(0, .ref (uk_ad G 60)), (1, .int m), (2, .int m)]) [0, 1, 2] rfl ?_
      have L37_6 : ∀ i8 : Int32, -1 ≤ i8 → ∀ (u9 : uk_Mem), iv u9 → fk [70] [] u u9 → ri u9 → i8 ≤ 7 → i8 < u.1 60 3 → uk_G G X mX7_findHeld (d + 1) (q_X7_findHeld u m) 37 [(0, .ref (uk_ad G 60)), (1, .int m), (2, .int i8)] [] u9 := by
        refine uk_dnl ?_
        intro i8 ai8 ihi8  u9 hu9 fu9 riu9 ji80 ji81
        have C61_u9 : u9.1 61 = u9.1 61 := rfl
        have wu9_60_3 : u9.1 60 3 = u.1 60 3 := fk_at fu9 (by decide)
        refine g_iload_n dX7_findHeld_37 rfl ?_
        refine g_if_lt (tgt := 95) dX7_findHeld_38 (by decide) (fun c10 => ?_) (fun c10 => ?_)
        · exact g_vret dX7_findHeld_95 rfl ⟨rfl, hu9, fu9, riu9⟩
        · refine g_aload_n dX7_findHeld_41 rfl ?_
          refine g_iload_n dX7_findHeld_42 rfl ?_
          refine cl_X7_166 (c := 60) (As := [.int i8]) rfl (c_X7_isRaw (G := G) hs hu9  i8 (by first | trivial | decide | lia | grind) (by first | trivial | decide | lia | grind) (d)) rfl (by omega) rfl rfl (Nat.le_of_ble_eq_true rfl) dX7_findHeld_43 (fun r11 u12 q13 => ?_)
          obtain ⟨⟨x14, rfl, tx14, nx14, zx14⟩, mq13⟩ := q13
          rw [mq13]
          refine g_if_ne (tgt := 89) dX7_findHeld_46 (by decide) (fun c15 => ?_) (fun c15 => ?_)
          · have zc15 := nx14 c15
            refine g_iinc (v := i8 - 1) dX7_findHeld_89 rfl (uk_m1 _) (by decide) ?_
            refine g_pick (lv' := [(0, .ref (uk_ad G 60)), (1, .int m), (2, .int (i8 - 1))]) [0, 1, 2] rfl ?_
            refine g_goto (tgt := 37) dX7_findHeld_92 (by decide) ?_
            refine g_pick (lv' := [(0, .ref (uk_ad G 60)), (1, .int m), (2, .int (i8 - 1))]) [0, 1, 2] rfl ?_
            exact ihi8 (by first | lia | grind)  u9 hu9 fu9 riu9 (by first | trivial | lia | grind) (by first | trivial | lia | grind)
          · have zc15 := zx14 c15
            refine g_aload_n dX7_findHeld_49 rfl ?_
            refine f_X7_38 rfl rfl dX7_findHeld_50 ?_
            refine g_aload_n dX7_findHeld_53 rfl ?_
            refine f_X7_20 rfl rfl dX7_findHeld_54 ?_
            refine g_iload_n dX7_findHeld_57 rfl ?_
            have v16 : vp_in i8 8 := uk_vin 8 rfl (by first | decide | lia | grind) (by first | decide | lia | grind)
            refine g_iald rfl rfl v16 dX7_findHeld_58 ?_
            refine g_topi (fun x17 ex17 => ?_)
            have bx17 := uk_cl v16
            have rx17 : (-4) ≤ x17 ∧ x17 ≤ 7 := by rw [ex17]; exact iv_at hu9 _ _ (uk_pick1 _ (by omega))
            have hqx17 := (riu9.1 i8 (by lia) (by rw [fk_at (c := 60) (i := 3) fu9 (by decide)]; first | lia | grind) (by lia)).resolve_left (by grind)
            have hpx17 : 0 ≤ x17 ∧ x17 < i8 := by rw [ex17]; exact ⟨hqx17.1, hqx17.2.1⟩
            refine g_dup2 dX7_findHeld_59 rfl rfl ?_
            have v18 : vp_in x17 8 := uk_vin 8 rfl (by first | decide | lia | grind) (by first | decide | lia | grind)
            refine g_iald rfl rfl v18 dX7_findHeld_60 ?_
            refine g_topi (fun x19 ex19 => ?_)
            refine g_aload_n dX7_findHeld_61 rfl ?_
            refine f_X7_38 rfl rfl dX7_findHeld_62 ?_
            refine g_iload_n dX7_findHeld_65 rfl ?_
            have v20 : vp_in i8 8 := uk_vin 8 rfl (by first | decide | lia | grind) (by first | decide | lia | grind)
            refine g_iald rfl rfl v20 dX7_findHeld_66 ?_
            refine g_topi (fun x21 ex21 => ?_)
            refine g_iadd dX7_findHeld_67 ?_
            refine g_topi (fun x22 ex22 => ?_)
            have v23 : vp_in x17 8 := uk_vin 8 rfl (by first | decide | lia | grind) (by first | decide | lia | grind)
            have b24 := uk_cl v23
            refine g_iast rfl rfl v23 dX7_findHeld_68 ?_
            refine g_mem (fun u25 eu25 => ?_)
            have hu25 : iv u25 := by rw [eu25]; exact iv_upF hu9 (uk_pick1 _ (by omega))
            have fu25 : fk [70] [] u u25 := by rw [eu25]; exact fk_up fu9 (by decide) (fun q => absurd q (by decide))
            have riu25 : ri u25 := by rw [eu25]; exact ri_1 riu9 (by decide) (fun q => absurd q (by decide))
            have C26 : u25.1 61 = u9.1 61 := by rw [eu25]; exact (uk_up_oc (by decide)).trans C61_u9
            refine g_aload_n dX7_findHeld_69 rfl ?_
            refine f_X7_38 rfl rfl dX7_findHeld_70 ?_
            refine g_aload_n dX7_findHeld_73 rfl ?_
            refine f_X7_23 rfl rfl dX7_findHeld_74 ?_
            refine g_iload_n dX7_findHeld_77 rfl ?_
            have v27 : vp_in i8 8 := uk_vin 8 rfl (by first | decide | lia | grind) (by first | decide | lia | grind)
            refine g_iald rfl rfl v27 dX7_findHeld_78 ?_
            refine g_topi (fun x28 ex28 => ?_)
            have bx28 := uk_cl v27
            have rx28 : (-4) ≤ x28 ∧ x28 ≤ 7 := by rw [ex28]; exact iv_at hu25 _ _ (uk_pick1 _ (by omega))
            have kx28 : ¬ u25.1 61 (32 + i8).toNatClampNeg = 4 := by rw [C26]; assumption
            have hqx28 := (riu25.1 i8 (by lia) (by rw [fk_at (c := 60) (i := 3) fu25 (by decide)]; first | lia | grind) (by lia)).resolve_left kx28
            have hpx28 : 0 ≤ x28 ∧ x28 < i8 := by rw [ex28]; exact ⟨hqx28.2.2.1, hqx28.2.2.2⟩
            refine g_dup2 dX7_findHeld_79 rfl rfl ?_
            have v29 : vp_in x28 8 := uk_vin 8 rfl (by first | decide | lia | grind) (by first | decide | lia | grind)
            refine g_iald rfl rfl v29 dX7_findHeld_80 ?_
            refine g_topi (fun x30 ex30 => ?_)
            refine g_aload_n dX7_findHeld_81 rfl ?_
            refine f_X7_38 rfl rfl dX7_findHeld_82 ?_
            refine g_iload_n dX7_findHeld_85 rfl ?_
            have v31 : vp_in i8 8 := uk_vin 8 rfl (by first | decide | lia | grind) (by first | decide | lia | grind)
            refine g_iald rfl rfl v31 dX7_findHeld_86 ?_
            refine g_topi (fun x32 ex32 => ?_)
            refine g_iadd dX7_findHeld_87 ?_
            refine g_topi (fun x33 ex33 => ?_)
            have v34 : vp_in x28 8 := uk_vin 8 rfl (by first | decide | lia | grind) (by first | decide | lia | grind)
            have b35 := uk_cl v34
            refine g_iast rfl rfl v34 dX7_findHeld_88 ?_
            refine g_mem (fun u36 eu36 => ?_)
            have hu36 : iv u36 := by rw [eu36]; exact iv_upF hu25 (uk_pick1 _ (by omega))
            have fu36 : fk [70] [] u u36 := by rw [eu36]; exact fk_up fu25 (by decide) (fun q => absurd q (by decide))
            have riu36 : ri u36 := by rw [eu36]; exact ri_1 riu25 (by decide) (fun q => absurd q (by decide))
            have C37 : u36.1 61 = u9.1 61 := by rw [eu36]; exact (uk_up_oc (by decide)).trans C26
            refine g_iinc (v := i8 - 1) dX7_findHeld_89 rfl (uk_m1 _) (by decide) ?_
            refine g_pick (lv' := [(0, .ref (uk_ad G 60)), (1, .int m), (2, .int (i8 - 1))]) [0, 1, 2] rfl ?_
            refine g_goto (tgt := 37) dX7_findHeld_92 (by decide) ?_
            refine g_pick (lv' := [(0, .ref (uk_ad G 60)), (1, .int m), (2, .int (i8 - 1))]) [0, 1, 2] rfl ?_
            exact ihi8 (by first | lia | grind)  u36 hu36 fu36 riu36 (by first | trivial | lia | grind) (by first | trivial | lia | grind)
      refine g_pick (lv' := [(0, .ref (uk_ad G 60)), (1, .int m), (2, .int m)]) [0, 1, 2] rfl ?_
      exact L37_6 m (by first | decide | lia | grind)  u3 hu3 fu3 riu3 (by first | trivial | lia | grind) (by first | trivial | lia | grind)
    · refine g_aload_n dX7_findHeld_10 rfl ?_
      refine f_X7_38 rfl rfl dX7_findHeld_11 ?_
      refine g_iload_n dX7_findHeld_14 rfl ?_
      refine g_iload_n dX7_findHeld_15 rfl ?_
      refine g_iload_n dX7_findHeld_16 rfl ?_
      refine g_icmp_ne (tgt := 24) dX7_findHeld_17 (by decide) (fun c38 => ?_) (fun c38 => ?_)
      · refine g_iconst (v := 0) dX7_findHeld_24 (by decide) ?_
        refine cl_X7_169 (As := [.int 0]) rfl (c_X7_flag (G := G) hs hu3  0  (d)) rfl (by omega) rfl (Nat.le_of_ble_eq_true rfl) dX7_findHeld_25 (fun r39 u40 q41 => ?_)
        obtain ⟨⟨x42, rfl, tx42⟩, mq41⟩ := q41
        rw [mq41]
        have v43 : vp_in i2 8 := uk_vin 8 rfl (by first | decide | lia | grind) (by first | decide | lia | grind)
        have b44 := uk_cl v43
        refine g_iast rfl rfl v43 dX7_findHeld_28 ?_
        refine g_mem (fun u45 eu45 => ?_)
        have hu45 : iv u45 := by rw [eu45]; exact iv_upF hu3 (uk_pick1 _ (by omega))
        have fu45 : fk [70] [] u u45 := by rw [eu45]; exact fk_up fu3 (by decide) (fun q => absurd q (by decide))
        have riu45 : ri u45 := by rw [eu45]; exact ri_1 riu3 (by decide) (fun q => absurd q (by decide))
        refine g_iinc (v := i2 + 1) dX7_findHeld_29 rfl rfl (by decide) ?_
        refine g_pick (lv' := [(0, .ref (uk_ad G 60)), (1, .int m), (2, .int (i2 + 1))]) [0, 1, 2] rfl ?_
        refine g_goto (tgt := 2) dX7_findHeld_32 (by decide) ?_
        refine g_pick (lv' := [(0, .ref (uk_ad G 60)), (1, .int m), (2, .int (i2 + 1))]) [0, 1, 2] rfl ?_
        exact ihi2 (by first | lia | grind)  u45 hu45 fu45 riu45 
      · refine g_iconst (v := 1) dX7_findHeld_20 (by decide) ?_
        refine g_goto (tgt := 25) dX7_findHeld_21 (by decide) ?_
        refine cl_X7_169 (As := [.int 1]) rfl (c_X7_flag (G := G) hs hu3  1  (d)) rfl (by omega) rfl (Nat.le_of_ble_eq_true rfl) dX7_findHeld_25 (fun r46 u47 q48 => ?_)
        obtain ⟨⟨x49, rfl, tx49⟩, mq48⟩ := q48
        rw [mq48]
        have v50 : vp_in i2 8 := uk_vin 8 rfl (by first | decide | lia | grind) (by first | decide | lia | grind)
        have b51 := uk_cl v50
        refine g_iast rfl rfl v50 dX7_findHeld_28 ?_
        refine g_mem (fun u52 eu52 => ?_)
        have hu52 : iv u52 := by rw [eu52]; exact iv_upF hu3 (uk_pick1 _ (by omega))
        have fu52 : fk [70] [] u u52 := by rw [eu52]; exact fk_up fu3 (by decide) (fun q => absurd q (by decide))
        have riu52 : ri u52 := by rw [eu52]; exact ri_1 riu3 (by decide) (fun q => absurd q (by decide))
        refine g_iinc (v := i2 + 1) dX7_findHeld_29 rfl rfl (by decide) ?_
        refine g_pick (lv' := [(0, .ref (uk_ad G 60)), (1, .int m), (2, .int (i2 + 1))]) [0, 1, 2] rfl ?_
        refine g_goto (tgt := 2) dX7_findHeld_32 (by decide) ?_
        refine g_pick (lv' := [(0, .ref (uk_ad G 60)), (1, .int m), (2, .int (i2 + 1))]) [0, 1, 2] rfl ?_
        exact ihi2 (by first | lia | grind)  u52 hu52 fu52 riu52 
  refine g_pick (lv' := [(0, .ref (uk_ad G 60)), (1, .int m), (2, .int 0)]) [0, 1, 2] rfl ?_
  exact L2_0 0 (by first | decide | lia | grind) (by first | decide | lia | grind)  u hu f0 hri 
abbrev q_X7_holds (u : uk_Mem) (m : Int32) (b : Int32) (r : Option Value) (u' : uk_Mem) : Prop := (∃ x : Int32, r = some (.int x) ∧ True) ∧ (iv u' ∧ fk [70] [] u u' ∧ ri u')
set_option maxHeartbeats 4000000 in
set_option maxRecDepth 20000 in
theorem c_X7_holds {G : uk_D} (hs : uk_Sep G) {u : uk_Mem} (hu : iv u) (hri : ri u) (m : Int32) (b : Int32) (d : Nat) : uk_Meth G (d + 2) mX7_holds [.ref (uk_ad G 60), .int m, .int b] u (q_X7_holds u m b) := by
  refine uk_Meth.of hs (by decide) (Nat.le_of_ble_eq_true rfl) (fun X => ?_)
  have f0 : fk [70] [] u u := fk_rf
  refine g_aload_n dX7_holds_0 rfl ?_
  refine g_iload_n dX7_holds_1 rfl ?_
  refine cl_X7_163 (c := 60) (As := [.int m]) rfl (c_X7_isStuff (G := G) hs hu  m  (d)) rfl (by omega) rfl rfl (Nat.le_of_ble_eq_true rfl) dX7_holds_2 (fun r1 u2 q3 => ?_)
  obtain ⟨⟨x4, rfl, tx4, nx4, zx4⟩, mq3⟩ := q3
  rw [mq3]
  refine g_if_eq (tgt := 16) dX7_holds_5 (by decide) (fun c5 => ?_) (fun c5 => ?_)
  · have zc5 := zx4 c5
    refine g_iconst (v := (-1)) dX7_holds_16 (by decide) ?_
    exact g_iret (ty := .int) dX7_holds_17 rfl rfl ⟨⟨_, rfl, by first | trivial | lia | grind⟩, hu, f0, hri⟩
  · have zc5 := nx4 c5
    refine g_aload_n dX7_holds_8 rfl ?_
    refine g_iload_n dX7_holds_9 rfl ?_
    refine cl_X7_163 (c := 60) (As := [.int b]) rfl (c_X7_isStuff (G := G) hs hu  b  (d)) rfl (by omega) rfl rfl (Nat.le_of_ble_eq_true rfl) dX7_holds_10 (fun r6 u7 q8 => ?_)
    obtain ⟨⟨x9, rfl, tx9, nx9, zx9⟩, mq8⟩ := q8
    rw [mq8]
    refine g_if_ne (tgt := 18) dX7_holds_13 (by decide) (fun c10 => ?_) (fun c10 => ?_)
    · have zc10 := nx9 c10
      refine g_aload_n dX7_holds_18 rfl ?_
      refine g_iload_n dX7_holds_19 rfl ?_
      refine cl_X7_166 (c := 60) (As := [.int b]) rfl (c_X7_isRaw (G := G) hs hu  b (by first | trivial | decide | lia | grind) (by first | trivial | decide | lia | grind) (d + 1)) rfl (by omega) rfl rfl (Nat.le_of_ble_eq_true rfl) dX7_holds_20 (fun r11 u12 q13 => ?_)
      obtain ⟨⟨x14, rfl, tx14, nx14, zx14⟩, mq13⟩ := q13
      rw [mq13]
      refine g_if_ne (tgt := 29) dX7_holds_23 (by decide) (fun c15 => ?_) (fun c15 => ?_)
      · have zc15 := nx14 c15
        refine g_aload_n dX7_holds_29 rfl ?_
        refine g_iload_n dX7_holds_30 rfl ?_
        refine cl_X7_204 (c := 60) (As := [.int m]) rfl (c_X7_findHeld (G := G) hs hu hri  m (by first | trivial | decide | lia | grind) (by first | trivial | decide | lia | grind) (by first | trivial | decide | lia | grind) (d)) rfl (by omega) rfl rfl (Nat.le_of_ble_eq_true rfl) dX7_holds_31 (fun r16 u17 q18 => ?_)
        obtain ⟨rfl, mq18⟩ := q18
        obtain ⟨hu17, gu17, riu17⟩ := mq18
        have fu17 : fk [70] [] u u17 := fk_tr f0 gu17 (by decide) (by decide)
        have wu17_60_3 : u17.1 60 3 = u.1 60 3 := fk_at gu17 (by decide)
        refine g_aload_n dX7_holds_34 rfl ?_
        refine f_X7_38 rfl rfl dX7_holds_35 ?_
        refine g_iload_n dX7_holds_38 rfl ?_
        have v19 : vp_in b 8 := uk_vin 8 rfl (by first | decide | lia | grind) (by first | decide | lia | grind)
        refine g_iald rfl rfl v19 dX7_holds_39 ?_
        refine g_topi (fun x20 ex20 => ?_)
        exact g_iret (ty := .int) dX7_holds_40 rfl rfl ⟨⟨_, rfl, by first | trivial | lia | grind⟩, hu17, fu17, riu17⟩
      · have zc15 := zx14 c15
        refine g_bipush (v := (-2)) dX7_holds_26 (by decide) ?_
        exact g_iret (ty := .int) dX7_holds_28 rfl rfl ⟨⟨_, rfl, by first | trivial | lia | grind⟩, hu, f0, hri⟩
    · have zc10 := zx9 c10
      refine g_iconst (v := (-1)) dX7_holds_16 (by decide) ?_
      exact g_iret (ty := .int) dX7_holds_17 rfl rfl ⟨⟨_, rfl, by first | trivial | lia | grind⟩, hu, f0, hri⟩
abbrev q_X7_cost (u : uk_Mem) (m : Int32) (r : Option Value) (u' : uk_Mem) : Prop := (∃ x : Int32, r = some (.int x) ∧ True) ∧ (iv u' ∧ fk [70] [] u u' ∧ ri u')
set_option maxHeartbeats 4000000 in
set_option maxRecDepth 20000 in
theorem c_X7_cost {G : uk_D} (hs : uk_Sep G) {u : uk_Mem} (hu : iv u) (hri : ri u) (m : Int32) (d : Nat) : uk_Meth G (d + 2) mX7_cost [.ref (uk_ad G 60), .int m] u (q_X7_cost u m) := by
  refine uk_Meth.of hs (by decide) (Nat.le_of_ble_eq_true rfl) (fun X => ?_)
  have f0 : fk [70] [] u u := fk_rf
  refine g_aload_n dX7_cost_0 rfl ?_
  refine g_iload_n dX7_cost_1 rfl ?_
  refine cl_X7_163 (c := 60) (As := [.int m]) rfl (c_X7_isStuff (G := G) hs hu  m  (d)) rfl (by omega) rfl rfl (Nat.le_of_ble_eq_true rfl) dX7_cost_2 (fun r1 u2 q3 => ?_)
  obtain ⟨⟨x4, rfl, tx4, nx4, zx4⟩, mq3⟩ := q3
  rw [mq3]
  refine g_if_ne (tgt := 10) dX7_cost_5 (by decide) (fun c5 => ?_) (fun c5 => ?_)
  · have zc5 := nx4 c5
    refine g_iconst (v := 0) dX7_cost_10 (by decide) ?_
    refine g_istore_n dX7_cost_11 (by decide) ?_
    refine g_pick (lv' := [(0, .ref (uk_ad G 60)), (1, .int m), (2, .int 0)]) [0, 1, 2] rfl ?_
    refine g_aload_n dX7_cost_12 rfl ?_
    refine g_iload_n dX7_cost_13 rfl ?_
    refine cl_X7_204 (c := 60) (As := [.int m]) rfl (c_X7_findHeld (G := G) hs hu hri  m (by first | trivial | decide | lia | grind) (by first | trivial | decide | lia | grind) (by first | trivial | decide | lia | grind) (d)) rfl (by omega) rfl rfl (Nat.le_of_ble_eq_true rfl) dX7_cost_14 (fun r6 u7 q8 => ?_)
    obtain ⟨rfl, mq8⟩ := q8
    obtain ⟨hu7, gu7, riu7⟩ := mq8
    have fu7 : fk [70] [] u u7 := fk_tr f0 gu7 (by decide) (by decide)
    have wu7_60_3 : u7.1 60 3 = u.1 60 3 := fk_at gu7 (by decide)
    refine g_iconst (v := 0) dX7_cost_17 (by decide) ?_
    refine g_istore_n dX7_cost_18 (by decide) ?_
    refine g_pick (lv' := [(0, .ref (uk_ad G 60)), (1, .int m), (2, .int 0), (3, .int 0)]) [0, 1, 2, 3] rfl ?_
    have L19_8 : ∀ i11 : Int32, 0 ≤ i11 → i11 ≤ 8 → ∀ (w10 : Int32), uk_G G X mX7_cost (d + 2) (q_X7_cost u m) 19 [(0, .ref (uk_ad G 60)), (1, .int m), (2, .int w10), (3, .int i11)] [] u7 := by
      refine uk_upl 8 ?_
      intro i11 ai11 bi11 ihi11 w10
      refine g_iload_n dX7_cost_19 rfl ?_
      refine g_aload_n dX7_cost_20 rfl ?_
      refine f_X7_79 rfl rfl dX7_cost_21 ?_
      refine g_topi (fun x12 ex12 => ?_)
      have rx12 : 0 ≤ x12 ∧ x12 ≤ 8 := by rw [ex12]; exact iv_at hu7 _ _ rfl
      have s13 : u7.1 60 3 = x12 := ex12.symm
      refine g_icmp_ge (tgt := 64) dX7_cost_24 (by decide) (fun c14 => ?_) (fun c14 => ?_)
      · refine g_iload_n dX7_cost_64 rfl ?_
        exact g_iret (ty := .int) dX7_cost_65 rfl rfl ⟨⟨_, rfl, by first | trivial | lia | grind⟩, hu7, fu7, riu7⟩
      · refine g_iload_n dX7_cost_27 rfl ?_
        refine g_aload_n dX7_cost_28 rfl ?_
        refine g_iload_n dX7_cost_29 rfl ?_
        refine cl_X7_166 (c := 60) (As := [.int i11]) rfl (c_X7_isRaw (G := G) hs hu7  i11 (by first | trivial | decide | lia | grind) (by first | trivial | decide | lia | grind) (d + 1)) rfl (by omega) rfl rfl (Nat.le_of_ble_eq_true rfl) dX7_cost_30 (fun r15 u16 q17 => ?_)
        obtain ⟨⟨x18, rfl, tx18, nx18, zx18⟩, mq17⟩ := q17
        rw [mq17]
        refine g_if_eq (tgt := 55) dX7_cost_33 (by decide) (fun c19 => ?_) (fun c19 => ?_)
        · have zc19 := zx18 c19
          refine g_iconst (v := 0) dX7_cost_55 (by decide) ?_
          refine g_iadd dX7_cost_56 ?_
          refine g_topi (fun x20 ex20 => ?_)
          refine g_istore_n dX7_cost_57 (by decide) ?_
          refine g_pick (lv' := [(0, .ref (uk_ad G 60)), (1, .int m), (2, .int x20), (3, .int i11)]) [0, 1, 2, 3] rfl ?_
          refine g_iinc (v := i11 + 1) dX7_cost_58 rfl rfl (by decide) ?_
          refine g_pick (lv' := [(0, .ref (uk_ad G 60)), (1, .int m), (2, .int x20), (3, .int (i11 + 1))]) [0, 1, 2, 3] rfl ?_
          refine g_goto (tgt := 19) dX7_cost_61 (by decide) ?_
          refine g_pick (lv' := [(0, .ref (uk_ad G 60)), (1, .int m), (2, .int x20), (3, .int (i11 + 1))]) [0, 1, 2, 3] rfl ?_
          exact ihi11 (by first | lia | grind) x20 
        · have zc19 := nx18 c19
          refine g_aload_n dX7_cost_36 rfl ?_
          refine f_X7_38 rfl rfl dX7_cost_37 ?_
          refine g_iload_n dX7_cost_40 rfl ?_
          have v21 : vp_in i11 8 := uk_vin 8 rfl (by first | decide | lia | grind) (by first | decide | lia | grind)
          refine g_iald rfl rfl v21 dX7_cost_41 ?_
          refine g_topi (fun x22 ex22 => ?_)
          refine g_aload_n dX7_cost_42 rfl ?_
          refine f_X7_7 rfl rfl dX7_cost_43 ?_
          refine g_bipush (v := 24) dX7_cost_46 (by decide) ?_
          refine g_iload_n dX7_cost_48 rfl ?_
          refine g_iadd dX7_cost_49 ?_
          refine g_topi (fun x23 ex23 => ?_)
          have v24 : vp_in x23 153 := uk_vin 153 rfl (by first | decide | lia | grind) (by first | decide | lia | grind)
          refine g_iald rfl rfl v24 dX7_cost_50 ?_
          refine g_topi (fun x25 ex25 => ?_)
          have bx25 := uk_cl v24
          refine g_imul dX7_cost_51 ?_
          refine g_topi (fun x26 ex26 => ?_)
          refine g_goto (tgt := 56) dX7_cost_52 (by decide) ?_
          refine g_iadd dX7_cost_56 ?_
          refine g_topi (fun x27 ex27 => ?_)
          refine g_istore_n dX7_cost_57 (by decide) ?_
          refine g_pick (lv' := [(0, .ref (uk_ad G 60)), (1, .int m), (2, .int x27), (3, .int i11)]) [0, 1, 2, 3] rfl ?_
          refine g_iinc (v := i11 + 1) dX7_cost_58 rfl rfl (by decide) ?_
          refine g_pick (lv' := [(0, .ref (uk_ad G 60)), (1, .int m), (2, .int x27), (3, .int (i11 + 1))]) [0, 1, 2, 3] rfl ?_
          refine g_goto (tgt := 19) dX7_cost_61 (by decide) ?_
          refine g_pick (lv' := [(0, .ref (uk_ad G 60)), (1, .int m), (2, .int x27), (3, .int (i11 + 1))]) [0, 1, 2, 3] rfl ?_
          exact ihi11 (by first | lia | grind) x27 
    refine g_pick (lv' := [(0, .ref (uk_ad G 60)), (1, .int m), (2, .int 0), (3, .int 0)]) [0, 1, 2, 3] rfl ?_
    exact L19_8 0 (by first | decide | lia | grind) (by first | decide | lia | grind) 0 
  · have zc5 := zx4 c5
    refine g_iconst (v := (-1)) dX7_cost_8 (by decide) ?_
    exact g_iret (ty := .int) dX7_cost_9 rfl rfl ⟨⟨_, rfl, by first | trivial | lia | grind⟩, hu, f0, hri⟩
