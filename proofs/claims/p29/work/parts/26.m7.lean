abbrev q_X7_drift (u : uk_Mem) (s : Int32) (n : Int32) (w : Int32) (r : Option Value) (u' : uk_Mem) : Prop := (∃ x : Int32, r = some (.int x) ∧ True) ∧ (iv u' ∧ fk [62] [] u u' ∧ ri u')
set_option maxHeartbeats 4000000 in
set_option maxRecDepth 20000 in
theorem c_X7_drift {G : uk_D} (hs : uk_Sep G) {u : uk_Mem} (hu : iv u) (hri : ri u) (s : Int32) (n : Int32) (w : Int32) (d : Nat) : uk_Meth G (d + 3) mX7_drift [.ref (uk_ad G 60), .int s, .int n, .int w] u (q_X7_drift u s n w) := by
  refine uk_Meth.of hs (by decide) (Nat.le_of_ble_eq_true rfl) (fun X => ?_)
  have f0 : fk [62] [] u u := fk_rf
  refine g_iload_n dX7_drift_0 rfl ?_
  refine g_i2l dX7_drift_1 ?_
  refine g_lconst (v := 1) dX7_drift_2 (by decide) ?_
  refine g_ldc2 (v := 60) k_X7_264 dX7_drift_3 ?_
  refine cl_X7_84 (As := [.long n.toInt64, .long 1, .long 60]) rfl (c_X7_in (G := G) hs hu  n 1 60  (d + 2)) rfl (by omega) rfl (Nat.le_of_ble_eq_true rfl) dX7_drift_6 (fun r1 u2 q3 => ?_)
  obtain ⟨⟨x4, rfl, tx4, nx4, zx4⟩, mq3⟩ := q3
  rw [mq3]
  refine g_if_eq (tgt := 19) dX7_drift_9 (by decide) (fun c5 => ?_) (fun c5 => ?_)
  · have zc5 := zx4 c5
    refine g_iconst (v := (-1)) dX7_drift_19 (by decide) ?_
    exact g_iret (ty := .int) dX7_drift_20 rfl rfl ⟨⟨_, rfl, by first | trivial | lia | grind⟩, hu, f0, hri⟩
  · have zc5 := nx4 c5
    refine g_iload_n dX7_drift_12 rfl ?_
    refine cl_X7_197 (As := [.int w]) rfl (c_X7_isPart (G := G) hs hu  w  (d + 1)) rfl (by omega) rfl (Nat.le_of_ble_eq_true rfl) dX7_drift_13 (fun r6 u7 q8 => ?_)
    obtain ⟨⟨x9, rfl, tx9, nx9, zx9⟩, mq8⟩ := q8
    rw [mq8]
    refine g_if_ne (tgt := 21) dX7_drift_16 (by decide) (fun c10 => ?_) (fun c10 => ?_)
    · have zc10 := nx9 c10
      refine g_aload_n dX7_drift_21 rfl ?_
      refine f_X7_79 rfl rfl dX7_drift_22 ?_
      refine g_topi (fun x11 ex11 => ?_)
      have rx11 : 0 ≤ x11 ∧ x11 ≤ 8 := by rw [ex11]; exact iv_at hu _ _ rfl
      have s12 : u.1 60 3 = x11 := ex11.symm
      refine g_if_ne (tgt := 31) dX7_drift_25 (by decide) (fun c13 => ?_) (fun c13 => ?_)
      · refine g_iload_n dX7_drift_31 rfl ?_
        refine g_istore dX7_drift_32 (by decide) ?_
        refine g_pick (lv' := [(0, .ref (uk_ad G 60)), (1, .int s), (2, .int n), (3, .int w), (4, .int s)]) [0, 1, 2, 3, 4] rfl ?_
        refine g_iconst (v := 0) dX7_drift_34 (by decide) ?_
        refine g_istore dX7_drift_35 (by decide) ?_
        refine g_pick (lv' := [(0, .ref (uk_ad G 60)), (1, .int s), (2, .int n), (3, .int w), (4, .int s), (5, .int 0)]) [0, 1, 2, 3, 4, 5] rfl ?_
        refine g_aload_n dX7_drift_37 rfl ?_
        refine cl_X7_185 (c := 60) (As := []) rfl (c_X7_starts (G := G) hs hu hri    (d + 2)) rfl (by omega) rfl rfl (Nat.le_of_ble_eq_true rfl) dX7_drift_38 (fun r14 u15 q16 => ?_)
        obtain ⟨rfl, mq16⟩ := q16
        obtain ⟨hu15, gu15, rau15, ku150⟩ := mq16
        have fu15 : fk [62] [] u u15 := fk_tr f0 gu15 (by decide) (by decide)
        have riu15 : ri u15 := ri_fk hri gu15 (by decide) (by decide) (by decide) (by decide) (by decide)
        have wu15_60_3 : u15.1 60 3 = u.1 60 3 := fk_at gu15 (by decide)
        have s17 : u15.1 60 3 = x11 := (fk_at gu15 (by decide)).trans s12
        refine g_iconst (v := 0) dX7_drift_41 (by decide) ?_
        refine g_istore dX7_drift_42 (by decide) ?_
        refine g_pick (lv' := [(0, .ref (uk_ad G 60)), (1, .int s), (2, .int n), (3, .int w), (4, .int s), (5, .int 0), (6, .int 0)]) [0, 1, 2, 3, 4, 5, 6] rfl ?_
        have L44_17 : ∀ i21 : Int32, 0 ≤ i21 → i21 ≤ 60 → ∀ (w19 : Int32) (w20 : Int32) (u22 : uk_Mem), iv u22 → fk [62] [] u u22 → ri u22 → ra u22 → uk_G G X mX7_drift (d + 3) (q_X7_drift u s n w) 44 [(0, .ref (uk_ad G 60)), (1, .int s), (2, .int n), (3, .int w), (4, .int w19), (5, .int w20), (6, .int i21)] [] u22 := by
          refine uk_upl 60 ?_
          intro i21 ai21 bi21 ihi21 w19 w20 u22 hu22 fu22 riu22 rau22
          have wu22_60_3 : u22.1 60 3 = u.1 60 3 := fk_at fu22 (by decide)
          refine g_iload dX7_drift_44 rfl ?_
          refine g_iload_n dX7_drift_46 rfl ?_
          refine g_icmp_ge (tgt := 133) dX7_drift_47 (by decide) (fun c23 => ?_) (fun c23 => ?_)
          · refine g_iload_n dX7_drift_133 rfl ?_
            refine g_if_ne (tgt := 142) dX7_drift_134 (by decide) (fun c24 => ?_) (fun c24 => ?_)
            · refine g_aload_n dX7_drift_142 rfl ?_
              refine g_iconst (v := 0) dX7_drift_143 (by decide) ?_
              refine cl_X7_258 (c := 60) (As := [.int 0]) rfl (c_X7_allOf (G := G) hs hu22  0 (by first | trivial | decide | lia | grind) (d + 2)) rfl (by omega) rfl rfl (Nat.le_of_ble_eq_true rfl) dX7_drift_144 (fun r25 u26 q27 => ?_)
              obtain ⟨⟨x28, rfl, tx28⟩, mq27⟩ := q27
              rw [mq27]
              exact g_iret (ty := .int) dX7_drift_147 rfl rfl ⟨⟨_, rfl, by first | trivial | lia | grind⟩, hu22, fu22, riu22⟩
            · refine g_iload dX7_drift_137 rfl ?_
              refine g_goto (tgt := 147) dX7_drift_139 (by decide) ?_
              exact g_iret (ty := .int) dX7_drift_147 rfl rfl ⟨⟨_, rfl, by first | trivial | lia | grind⟩, hu22, fu22, riu22⟩
          · refine g_iload dX7_drift_50 rfl ?_
            refine g_ldcw (v := 1103515245) k_X7_266 dX7_drift_52 ?_
            refine g_imul dX7_drift_55 ?_
            refine g_topi (fun x29 ex29 => ?_)
            refine g_sipush (v := 12345) dX7_drift_56 (by decide) ?_
            refine g_iadd dX7_drift_59 ?_
            refine g_topi (fun x30 ex30 => ?_)
            refine g_istore dX7_drift_60 (by decide) ?_
            refine g_pick (lv' := [(0, .ref (uk_ad G 60)), (1, .int s), (2, .int n), (3, .int w), (4, .int x30), (5, .int w20), (6, .int i21)]) [0, 1, 2, 3, 4, 5, 6] rfl ?_
            refine g_iload dX7_drift_62 rfl ?_
            refine g_bipush (v := 16) dX7_drift_64 (by decide) ?_
            refine g_ishr dX7_drift_66 (fun x31 ex31 => ?_)
            refine g_sipush (v := 32767) dX7_drift_67 (by decide) ?_
            refine g_iand dX7_drift_70 ?_
            refine g_topi (fun x32 ex32 => ?_)
            have nx32 := uk_a15 ex32; clear ex32
            refine g_aload_n dX7_drift_71 rfl ?_
            refine f_X7_79 rfl rfl dX7_drift_72 ?_
            refine g_topi (fun x33 ex33 => ?_)
            have rx33 : 0 ≤ x33 ∧ x33 ≤ 8 := by rw [ex33]; exact iv_at hu22 _ _ rfl
            have s34 : u22.1 60 3 = x33 := ex33.symm
            refine g_irem dX7_drift_75 (by first | decide | lia | grind) ?_
            refine g_topi (fun x35 ex35 => ?_)
            have nx35 := uk_mod ex35 nx32.1 (by first | decide | lia | grind); clear ex35
            refine g_istore dX7_drift_76 (by decide) ?_
            refine g_pick (lv' := [(0, .ref (uk_ad G 60)), (1, .int s), (2, .int n), (3, .int w), (4, .int x30), (5, .int w20), (6, .int i21), (7, .int x35)]) [0, 1, 2, 3, 4, 5, 6, 7] rfl ?_
            refine g_iload dX7_drift_78 rfl ?_
            refine g_ldcw (v := 1103515245) k_X7_266 dX7_drift_80 ?_
            refine g_imul dX7_drift_83 ?_
            refine g_topi (fun x36 ex36 => ?_)
            refine g_sipush (v := 12345) dX7_drift_84 (by decide) ?_
            refine g_iadd dX7_drift_87 ?_
            refine g_topi (fun x37 ex37 => ?_)
            refine g_istore dX7_drift_88 (by decide) ?_
            refine g_pick (lv' := [(0, .ref (uk_ad G 60)), (1, .int s), (2, .int n), (3, .int w), (4, .int x37), (5, .int w20), (6, .int i21), (7, .int x35)]) [0, 1, 2, 3, 4, 5, 6, 7] rfl ?_
            refine g_iload dX7_drift_90 rfl ?_
            refine g_bipush (v := 10) dX7_drift_92 (by decide) ?_
            refine g_iload dX7_drift_94 rfl ?_
            refine g_bipush (v := 16) dX7_drift_96 (by decide) ?_
            refine g_ishr dX7_drift_98 (fun x38 ex38 => ?_)
            refine g_sipush (v := 32767) dX7_drift_99 (by decide) ?_
            refine g_iand dX7_drift_102 ?_
            refine g_topi (fun x39 ex39 => ?_)
            have nx39 := uk_a15 ex39; clear ex39
            refine g_iconst (v := 2) dX7_drift_103 (by decide) ?_
            refine g_irem dX7_drift_104 (by first | decide | lia | grind) ?_
            refine g_topi (fun x40 ex40 => ?_)
            have nx40 := uk_mod ex40 nx39.1 (by first | decide | lia | grind); clear ex40
            refine g_imul dX7_drift_105 ?_
            refine g_topi (fun x41 ex41 => ?_)
            refine g_iadd dX7_drift_106 ?_
            refine g_topi (fun x42 ex42 => ?_)
            refine g_istore dX7_drift_107 (by decide) ?_
            refine g_pick (lv' := [(0, .ref (uk_ad G 60)), (1, .int s), (2, .int n), (3, .int w), (4, .int x37), (5, .int w20), (6, .int i21), (7, .int x35), (8, .int x42)]) [0, 1, 2, 3, 4, 5, 6, 7, 8] rfl ?_
            refine g_aload_n dX7_drift_109 rfl ?_
            refine g_iload dX7_drift_110 rfl ?_
            refine cl_X7_188 (c := 60) (As := [.int x42]) rfl (c_X7_canDo (G := G) hs hu22 rau22  x42 (by first | trivial | decide | lia | grind) (d)) rfl (by omega) rfl rfl (Nat.le_of_ble_eq_true rfl) dX7_drift_112 (fun r43 u44 q45 => ?_)
            obtain ⟨⟨x46, rfl, tx46, nx46, zx46⟩, mq45⟩ := q45
            rw [mq45]
            refine g_if_eq (tgt := 127) dX7_drift_115 (by decide) (fun c47 => ?_) (fun c47 => ?_)
            · have zc47 := zx46 c47
              refine g_iinc (v := i21 + 1) dX7_drift_127 rfl rfl (by decide) ?_
              refine g_pick (lv' := [(0, .ref (uk_ad G 60)), (1, .int s), (2, .int n), (3, .int w), (4, .int x37), (5, .int w20), (6, .int (i21 + 1)), (7, .int x35), (8, .int x42)]) [0, 1, 2, 3, 4, 5, 6, 7, 8] rfl ?_
              refine g_goto (tgt := 44) dX7_drift_130 (by decide) ?_
              refine g_pick (lv' := [(0, .ref (uk_ad G 60)), (1, .int s), (2, .int n), (3, .int w), (4, .int x37), (5, .int w20), (6, .int (i21 + 1))]) [0, 1, 2, 3, 4, 5, 6] rfl ?_
              exact ihi21 (by first | lia | grind) x37 w20 u22 hu22 fu22 riu22 rau22 
            · have zc47 := nx46 c47
              refine g_aload_n dX7_drift_118 rfl ?_
              refine g_iload dX7_drift_119 rfl ?_
              refine cl_X7_191 (c := 60) (As := [.int x42]) rfl (c_X7_doIt (G := G) hs hu22 rau22  x42 (by first | trivial | decide | lia | grind) (by first | trivial | decide | lia | grind) (by first | trivial | decide | lia | grind) (d + 1)) rfl (by omega) rfl rfl (Nat.le_of_ble_eq_true rfl) dX7_drift_121 (fun r48 u49 q50 => ?_)
              obtain ⟨rfl, mq50⟩ := q50
              obtain ⟨hu49, gu49, rau49⟩ := mq50
              have fu49 : fk [62] [] u u49 := fk_tr fu22 gu49 (by decide) (by decide)
              have riu49 : ri u49 := ri_fk riu22 gu49 (by decide) (by decide) (by decide) (by decide) (by decide)
              have wu49_60_3 : u49.1 60 3 = u22.1 60 3 := fk_at gu49 (by decide)
              have s51 : u49.1 60 3 = x33 := (fk_at gu49 (by decide)).trans s34
              refine g_iinc (v := w20 + 1) dX7_drift_124 rfl rfl (by decide) ?_
              refine g_pick (lv' := [(0, .ref (uk_ad G 60)), (1, .int s), (2, .int n), (3, .int w), (4, .int x37), (5, .int (w20 + 1)), (6, .int i21), (7, .int x35), (8, .int x42)]) [0, 1, 2, 3, 4, 5, 6, 7, 8] rfl ?_
              refine g_iinc (v := i21 + 1) dX7_drift_127 rfl rfl (by decide) ?_
              refine g_pick (lv' := [(0, .ref (uk_ad G 60)), (1, .int s), (2, .int n), (3, .int w), (4, .int x37), (5, .int (w20 + 1)), (6, .int (i21 + 1)), (7, .int x35), (8, .int x42)]) [0, 1, 2, 3, 4, 5, 6, 7, 8] rfl ?_
              refine g_goto (tgt := 44) dX7_drift_130 (by decide) ?_
              refine g_pick (lv' := [(0, .ref (uk_ad G 60)), (1, .int s), (2, .int n), (3, .int w), (4, .int x37), (5, .int (w20 + 1)), (6, .int (i21 + 1))]) [0, 1, 2, 3, 4, 5, 6] rfl ?_
              exact ihi21 (by first | lia | grind) x37 (w20 + 1) u49 hu49 fu49 riu49 rau49 
        refine g_pick (lv' := [(0, .ref (uk_ad G 60)), (1, .int s), (2, .int n), (3, .int w), (4, .int s), (5, .int 0), (6, .int 0)]) [0, 1, 2, 3, 4, 5, 6] rfl ?_
        exact L44_17 0 (by first | decide | lia | grind) (by first | decide | lia | grind) s 0 u15 hu15 fu15 riu15 rau15 
      · refine g_bipush (v := (-2)) dX7_drift_28 (by decide) ?_
        exact g_iret (ty := .int) dX7_drift_30 rfl rfl ⟨⟨_, rfl, by first | trivial | lia | grind⟩, hu, f0, hri⟩
    · have zc10 := zx9 c10
      refine g_iconst (v := (-1)) dX7_drift_19 (by decide) ?_
      exact g_iret (ty := .int) dX7_drift_20 rfl rfl ⟨⟨_, rfl, by first | trivial | lia | grind⟩, hu, f0, hri⟩
