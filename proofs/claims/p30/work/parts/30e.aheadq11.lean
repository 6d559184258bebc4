abbrev q_X7_lineNow_s (u : uk_Mem)  (r : Option Value) (u' : uk_Mem) : Prop := (∃ x : Int32, r = some (.int x) ∧ ((¬ x = -4 → u.1 60 15 + 3 ≤ u.1 60 14) ∧ lnr (u.1 69) (u.1 60 15) (u.1 60 14) x)) ∧ (u' = u)
set_option maxHeartbeats 4000000 in
set_option maxRecDepth 20000 in
theorem c_X7_lineNow_s {G : uk_D} (hs : uk_Sep G) {u : uk_Mem} (hu : iv u) (p0 : u.1 60 14 ≤ u.1 60 13) (d : Nat) : uk_Meth G (d + 2) mX7_lineNow [.ref (uk_ad G 60)] u (q_X7_lineNow_s u) := by
  refine uk_Meth.of hs (by decide) (Nat.le_of_ble_eq_true rfl) (fun X => ?_)
  have W0 := nm3 (f := u.1 69) (s := u.1 60 15) (q := u.1 60 14) (j := 0) (by decide) (show chj 0 0 = 114 by decide) (show chj 0 1 = 97 by decide) (show chj 0 2 = 119 by decide)
  have W1 := nm3 (f := u.1 69) (s := u.1 60 15) (q := u.1 60 14) (j := 1) (by decide) (show chj 1 0 = 109 by decide) (show chj 1 1 = 105 by decide) (show chj 1 2 = 120 by decide)
  have W2 := nm4 (f := u.1 69) (s := u.1 60 15) (q := u.1 60 14) (j := 2) (by decide) (show chj 2 0 = 98 by decide) (show chj 2 1 = 111 by decide) (show chj 2 2 = 105 by decide) (show chj 2 3 = 108 by decide)
  have W3 := nm4 (f := u.1 69) (s := u.1 60 15) (q := u.1 60 14) (j := 3) (by decide) (show chj 3 0 = 98 by decide) (show chj 3 1 = 117 by decide) (show chj 3 2 = 114 by decide) (show chj 3 3 = 110 by decide)
  have W4 := nm4 (f := u.1 69) (s := u.1 60 15) (q := u.1 60 14) (j := 4) (by decide) (show chj 4 0 = 115 by decide) (show chj 4 1 = 97 by decide) (show chj 4 2 = 108 by decide) (show chj 4 3 = 116 by decide)
  have W5 := nm4 (f := u.1 69) (s := u.1 60 15) (q := u.1 60 14) (j := 5) (by decide) (show chj 5 0 = 104 by decide) (show chj 5 1 = 97 by decide) (show chj 5 2 = 118 by decide) (show chj 5 3 = 101 by decide)
  refine g_aload_n dX7_lineNow_0 rfl ?_
  refine g_iconst (v := 3) dX7_lineNow_1 (by decide) ?_
  refine g_bipush (v := 109) dX7_lineNow_2 (by decide) ?_
  refine g_bipush (v := 105) dX7_lineNow_4 (by decide) ?_
  refine g_bipush (v := 120) dX7_lineNow_6 (by decide) ?_
  refine cl_X7_107 (c := 60) (As := [.int 3, .int 109, .int 105, .int 120]) rfl (c_X7_is_s (G := G) hs hu  3 109 105 120 (by first | trivial | decide | lia | grind) (by first | trivial | decide | lia | grind) (by first | trivial | decide | lia | grind) (d)) rfl (by omega) rfl rfl (Nat.le_of_ble_eq_true rfl) dX7_lineNow_8 (fun r1 u2 q3 => ?_)
  obtain ⟨⟨x4, rfl, tx4, nx4, zx4⟩, mq3⟩ := q3
  rw [mq3]
  refine g_if_eq (tgt := 16) dX7_lineNow_11 (by decide) (fun c5 => ?_) (fun c5 => ?_)
  · have zc5 := zx4 c5
    refine g_aload_n dX7_lineNow_16 rfl ?_
    refine g_iconst (v := 4) dX7_lineNow_17 (by decide) ?_
    refine g_bipush (v := 98) dX7_lineNow_18 (by decide) ?_
    refine g_bipush (v := 111) dX7_lineNow_20 (by decide) ?_
    refine g_bipush (v := 105) dX7_lineNow_22 (by decide) ?_
    refine cl_X7_107 (c := 60) (As := [.int 4, .int 98, .int 111, .int 105]) rfl (c_X7_is_s (G := G) hs hu  4 98 111 105 (by first | trivial | decide | lia | grind) (by first | trivial | decide | lia | grind) (by first | trivial | decide | lia | grind) (d)) rfl (by omega) rfl rfl (Nat.le_of_ble_eq_true rfl) dX7_lineNow_24 (fun r6 u7 q8 => ?_)
    obtain ⟨⟨x9, rfl, tx9, nx9, zx9⟩, mq8⟩ := q8
    rw [mq8]
    refine g_if_eq (tgt := 47) dX7_lineNow_27 (by decide) (fun c10 => ?_) (fun c10 => ?_)
    · have zc10 := zx9 c10
      refine g_aload_n dX7_lineNow_47 rfl ?_
      refine g_iconst (v := 4) dX7_lineNow_48 (by decide) ?_
      refine g_bipush (v := 98) dX7_lineNow_49 (by decide) ?_
      refine g_bipush (v := 117) dX7_lineNow_51 (by decide) ?_
      refine g_bipush (v := 114) dX7_lineNow_53 (by decide) ?_
      refine cl_X7_107 (c := 60) (As := [.int 4, .int 98, .int 117, .int 114]) rfl (c_X7_is_s (G := G) hs hu  4 98 117 114 (by first | trivial | decide | lia | grind) (by first | trivial | decide | lia | grind) (by first | trivial | decide | lia | grind) (d)) rfl (by omega) rfl rfl (Nat.le_of_ble_eq_true rfl) dX7_lineNow_55 (fun r11 u12 q13 => ?_)
      obtain ⟨⟨x14, rfl, tx14, nx14, zx14⟩, mq13⟩ := q13
      rw [mq13]
      refine g_if_eq (tgt := 78) dX7_lineNow_58 (by decide) (fun c15 => ?_) (fun c15 => ?_)
      · have zc15 := zx14 c15
        refine g_aload_n dX7_lineNow_78 rfl ?_
        refine g_iconst (v := 4) dX7_lineNow_79 (by decide) ?_
        refine g_bipush (v := 115) dX7_lineNow_80 (by decide) ?_
        refine g_bipush (v := 97) dX7_lineNow_82 (by decide) ?_
        refine g_bipush (v := 108) dX7_lineNow_84 (by decide) ?_
        refine cl_X7_107 (c := 60) (As := [.int 4, .int 115, .int 97, .int 108]) rfl (c_X7_is_s (G := G) hs hu  4 115 97 108 (by first | trivial | decide | lia | grind) (by first | trivial | decide | lia | grind) (by first | trivial | decide | lia | grind) (d)) rfl (by omega) rfl rfl (Nat.le_of_ble_eq_true rfl) dX7_lineNow_86 (fun r16 u17 q18 => ?_)
        obtain ⟨⟨x19, rfl, tx19, nx19, zx19⟩, mq18⟩ := q18
        rw [mq18]
        refine g_if_eq (tgt := 109) dX7_lineNow_89 (by decide) (fun c20 => ?_) (fun c20 => ?_)
        · have zc20 := zx19 c20
          refine g_aload_n dX7_lineNow_109 rfl ?_
          refine g_iconst (v := 3) dX7_lineNow_110 (by decide) ?_
          refine g_bipush (v := 114) dX7_lineNow_111 (by decide) ?_
          refine g_bipush (v := 97) dX7_lineNow_113 (by decide) ?_
          refine g_bipush (v := 119) dX7_lineNow_115 (by decide) ?_
          refine cl_X7_107 (c := 60) (As := [.int 3, .int 114, .int 97, .int 119]) rfl (c_X7_is_s (G := G) hs hu  3 114 97 119 (by first | trivial | decide | lia | grind) (by first | trivial | decide | lia | grind) (by first | trivial | decide | lia | grind) (d)) rfl (by omega) rfl rfl (Nat.le_of_ble_eq_true rfl) dX7_lineNow_117 (fun r21 u22 q23 => ?_)
          obtain ⟨⟨x24, rfl, tx24, nx24, zx24⟩, mq23⟩ := q23
          rw [mq23]
          refine g_if_eq (tgt := 127) dX7_lineNow_120 (by decide) (fun c25 => ?_) (fun c25 => ?_)
          · have zc25 := zx24 c25
            refine g_aload_n dX7_lineNow_127 rfl ?_
            refine g_iconst (v := 4) dX7_lineNow_128 (by decide) ?_
            refine g_bipush (v := 104) dX7_lineNow_129 (by decide) ?_
            refine g_bipush (v := 97) dX7_lineNow_131 (by decide) ?_
            refine g_bipush (v := 118) dX7_lineNow_133 (by decide) ?_
            refine cl_X7_107 (c := 60) (As := [.int 4, .int 104, .int 97, .int 118]) rfl (c_X7_is_s (G := G) hs hu  4 104 97 118 (by first | trivial | decide | lia | grind) (by first | trivial | decide | lia | grind) (by first | trivial | decide | lia | grind) (d)) rfl (by omega) rfl rfl (Nat.le_of_ble_eq_true rfl) dX7_lineNow_135 (fun r26 u27 q28 => ?_)
            obtain ⟨⟨x29, rfl, tx29, nx29, zx29⟩, mq28⟩ := q28
            rw [mq28]
            refine g_if_eq (tgt := 160) dX7_lineNow_138 (by decide) (fun c30 => ?_) (fun c30 => ?_)
            · have zc30 := zx29 c30
              refine g_bipush (v := (-4)) dX7_lineNow_160 (by decide) ?_
              exact g_iret (ty := .int) dX7_lineNow_162 rfl rfl ⟨⟨_, rfl, ⟨by first | trivial | lia | grind, Or.inl ⟨rfl, Or.inr ⟨fun j hj z => by rcases (show j = 0 ∨ j = 1 ∨ j = 2 ∨ j = 3 ∨ j = 4 ∨ j = 5 by omega) with rfl | rfl | rfl | rfl | rfl | rfl <;> first | (have w := W0.mp z.2; grind) | (have w := W1.mp z.2; grind) | (have w := W2.mp z.2; grind) | (have w := W3.mp z.2; grind) | (have w := W4.mp z.2; grind) | (have w := W5.mp z.2; grind), rfl⟩⟩⟩⟩, rfl⟩
            · have zc30 := nx29 c30
              refine g_aload_n dX7_lineNow_141 rfl ?_
              refine g_aload_n dX7_lineNow_142 rfl ?_
              refine f_X7_94 rfl rfl dX7_lineNow_143 ?_
              refine g_topi (fun x31 ex31 => ?_)
              have rx31 : 0 ≤ x31 ∧ x31 ≤ 160 := by rw [ex31]; exact iv_at hu _ _ rfl
              have s32 : u.1 60 15 = x31 := ex31.symm
              refine g_iconst (v := 3) dX7_lineNow_146 (by decide) ?_
              refine g_iadd dX7_lineNow_147 ?_
              refine g_topi (fun x33 ex33 => ?_)
              refine cl_X7_103 (c := 60) (As := [.int x33]) rfl (c_X7_byteAt_s (G := G) hs hu  x33 (by first | trivial | decide | lia | grind) (d + 1)) rfl (by omega) rfl rfl (Nat.le_of_ble_eq_true rfl) dX7_lineNow_148 (fun r34 u35 q36 => ?_)
              obtain ⟨⟨x37, rfl, tx37⟩, mq36⟩ := q36
              rw [mq36]
              refine g_bipush (v := 101) dX7_lineNow_151 (by decide) ?_
              refine g_icmp_ne (tgt := 160) dX7_lineNow_153 (by decide) (fun c38 => ?_) (fun c38 => ?_)
              · refine g_bipush (v := (-4)) dX7_lineNow_160 (by decide) ?_
                exact g_iret (ty := .int) dX7_lineNow_162 rfl rfl ⟨⟨_, rfl, ⟨by first | trivial | lia | grind, Or.inl ⟨rfl, Or.inr ⟨fun j hj z => by rcases (show j = 0 ∨ j = 1 ∨ j = 2 ∨ j = 3 ∨ j = 4 ∨ j = 5 by omega) with rfl | rfl | rfl | rfl | rfl | rfl <;> first | (have w := W0.mp z.2; grind) | (have w := W1.mp z.2; grind) | (have w := W2.mp z.2; grind) | (have w := W3.mp z.2; grind) | (have w := W4.mp z.2; grind) | (have w := W5.mp z.2; grind), rfl⟩⟩⟩⟩, rfl⟩
              · refine g_iconst (v := 5) dX7_lineNow_156 (by decide) ?_
                refine g_goto (tgt := 162) dX7_lineNow_157 (by decide) ?_
                exact g_iret (ty := .int) dX7_lineNow_162 rfl rfl ⟨⟨_, rfl, ⟨by first | trivial | lia | grind, Or.inr ⟨by decide, by decide, Or.inl ⟨5, by decide, rfl, W5.mpr (by grind), rfl⟩⟩⟩⟩, rfl⟩
          · have zc25 := nx24 c25
            refine g_iconst (v := 4) dX7_lineNow_123 (by decide) ?_
            refine g_goto (tgt := 162) dX7_lineNow_124 (by decide) ?_
            exact g_iret (ty := .int) dX7_lineNow_162 rfl rfl ⟨⟨_, rfl, ⟨by first | trivial | lia | grind, Or.inr ⟨by decide, by decide, Or.inl ⟨0, by decide, rfl, W0.mpr (by grind), rfl⟩⟩⟩⟩, rfl⟩
        · have zc20 := nx19 c20
          refine g_aload_n dX7_lineNow_92 rfl ?_
          refine g_aload_n dX7_lineNow_93 rfl ?_
          refine f_X7_94 rfl rfl dX7_lineNow_94 ?_
          refine g_topi (fun x39 ex39 => ?_)
          have rx39 : 0 ≤ x39 ∧ x39 ≤ 160 := by rw [ex39]; exact iv_at hu _ _ rfl
          have s40 : u.1 60 15 = x39 := ex39.symm
          refine g_iconst (v := 3) dX7_lineNow_97 (by decide) ?_
          refine g_iadd dX7_lineNow_98 ?_
          refine g_topi (fun x41 ex41 => ?_)
          refine cl_X7_103 (c := 60) (As := [.int x41]) rfl (c_X7_byteAt_s (G := G) hs hu  x41 (by first | trivial | decide | lia | grind) (d + 1)) rfl (by omega) rfl rfl (Nat.le_of_ble_eq_true rfl) dX7_lineNow_99 (fun r42 u43 q44 => ?_)
          obtain ⟨⟨x45, rfl, tx45⟩, mq44⟩ := q44
          rw [mq44]
          refine g_bipush (v := 116) dX7_lineNow_102 (by decide) ?_
          refine g_icmp_ne (tgt := 109) dX7_lineNow_104 (by decide) (fun c46 => ?_) (fun c46 => ?_)
          · refine g_aload_n dX7_lineNow_109 rfl ?_
            refine g_iconst (v := 3) dX7_lineNow_110 (by decide) ?_
            refine g_bipush (v := 114) dX7_lineNow_111 (by decide) ?_
            refine g_bipush (v := 97) dX7_lineNow_113 (by decide) ?_
            refine g_bipush (v := 119) dX7_lineNow_115 (by decide) ?_
            refine cl_X7_107 (c := 60) (As := [.int 3, .int 114, .int 97, .int 119]) rfl (c_X7_is_s (G := G) hs hu  3 114 97 119 (by first | trivial | decide | lia | grind) (by first | trivial | decide | lia | grind) (by first | trivial | decide | lia | grind) (d)) rfl (by omega) rfl rfl (Nat.le_of_ble_eq_true rfl) dX7_lineNow_117 (fun r47 u48 q49 => ?_)
            obtain ⟨⟨x50, rfl, tx50, nx50, zx50⟩, mq49⟩ := q49
            rw [mq49]
            refine g_if_eq (tgt := 127) dX7_lineNow_120 (by decide) (fun c51 => ?_) (fun c51 => ?_)
            · have zc51 := zx50 c51
              refine g_aload_n dX7_lineNow_127 rfl ?_
              refine g_iconst (v := 4) dX7_lineNow_128 (by decide) ?_
              refine g_bipush (v := 104) dX7_lineNow_129 (by decide) ?_
              refine g_bipush (v := 97) dX7_lineNow_131 (by decide) ?_
              refine g_bipush (v := 118) dX7_lineNow_133 (by decide) ?_
              refine cl_X7_107 (c := 60) (As := [.int 4, .int 104, .int 97, .int 118]) rfl (c_X7_is_s (G := G) hs hu  4 104 97 118 (by first | trivial | decide | lia | grind) (by first | trivial | decide | lia | grind) (by first | trivial | decide | lia | grind) (d)) rfl (by omega) rfl rfl (Nat.le_of_ble_eq_true rfl) dX7_lineNow_135 (fun r52 u53 q54 => ?_)
              obtain ⟨⟨x55, rfl, tx55, nx55, zx55⟩, mq54⟩ := q54
              rw [mq54]
              refine g_if_eq (tgt := 160) dX7_lineNow_138 (by decide) (fun c56 => ?_) (fun c56 => ?_)
              · have zc56 := zx55 c56
                refine g_bipush (v := (-4)) dX7_lineNow_160 (by decide) ?_
                exact g_iret (ty := .int) dX7_lineNow_162 rfl rfl ⟨⟨_, rfl, ⟨by first | trivial | lia | grind, Or.inl ⟨rfl, Or.inr ⟨fun j hj z => by rcases (show j = 0 ∨ j = 1 ∨ j = 2 ∨ j = 3 ∨ j = 4 ∨ j = 5 by omega) with rfl | rfl | rfl | rfl | rfl | rfl <;> first | (have w := W0.mp z.2; grind) | (have w := W1.mp z.2; grind) | (have w := W2.mp z.2; grind) | (have w := W3.mp z.2; grind) | (have w := W4.mp z.2; grind) | (have w := W5.mp z.2; grind), rfl⟩⟩⟩⟩, rfl⟩
              · have zc56 := nx55 c56
                refine g_aload_n dX7_lineNow_141 rfl ?_
                refine g_aload_n dX7_lineNow_142 rfl ?_
                refine f_X7_94 rfl rfl dX7_lineNow_143 ?_
                refine g_topi (fun x57 ex57 => ?_)
                have rx57 : 0 ≤ x57 ∧ x57 ≤ 160 := by rw [ex57]; exact iv_at hu _ _ rfl
                have qx57 : x57 = x39 := by rw [ex57]; exact s40
                refine g_iconst (v := 3) dX7_lineNow_146 (by decide) ?_
                refine g_iadd dX7_lineNow_147 ?_
                refine g_topi (fun x58 ex58 => ?_)
                refine cl_X7_103 (c := 60) (As := [.int x58]) rfl (c_X7_byteAt_s (G := G) hs hu  x58 (by first | trivial | decide | lia | grind) (d + 1)) rfl (by omega) rfl rfl (Nat.le_of_ble_eq_true rfl) dX7_lineNow_148 (fun r59 u60 q61 => ?_)
                obtain ⟨⟨x62, rfl, tx62⟩, mq61⟩ := q61
                rw [mq61]
                refine g_bipush (v := 101) dX7_lineNow_151 (by decide) ?_
                refine g_icmp_ne (tgt := 160) dX7_lineNow_153 (by decide) (fun c63 => ?_) (fun c63 => ?_)
                · refine g_bipush (v := (-4)) dX7_lineNow_160 (by decide) ?_
                  exact g_iret (ty := .int) dX7_lineNow_162 rfl rfl ⟨⟨_, rfl, ⟨by first | trivial | lia | grind, Or.inl ⟨rfl, Or.inr ⟨fun j hj z => by rcases (show j = 0 ∨ j = 1 ∨ j = 2 ∨ j = 3 ∨ j = 4 ∨ j = 5 by omega) with rfl | rfl | rfl | rfl | rfl | rfl <;> first | (have w := W0.mp z.2; grind) | (have w := W1.mp z.2; grind) | (have w := W2.mp z.2; grind) | (have w := W3.mp z.2; grind) | (have w := W4.mp z.2; grind) | (have w := W5.mp z.2; grind), rfl⟩⟩⟩⟩, rfl⟩
                · refine g_iconst (v := 5) dX7_lineNow_156 (by decide) ?_
                  refine g_goto (tgt := 162) dX7_lineNow_157 (by decide) ?_
                  exact g_iret (ty := .int) dX7_lineNow_162 rfl rfl ⟨⟨_, rfl, ⟨by first | trivial | lia | grind, Or.inr ⟨by decide, by decide, Or.inl ⟨5, by decide, rfl, W5.mpr (by grind), rfl⟩⟩⟩⟩, rfl⟩
            · have zc51 := nx50 c51
              refine g_iconst (v := 4) dX7_lineNow_123 (by decide) ?_
              refine g_goto (tgt := 162) dX7_lineNow_124 (by decide) ?_
              exact g_iret (ty := .int) dX7_lineNow_162 rfl rfl ⟨⟨_, rfl, ⟨by first | trivial | lia | grind, Or.inr ⟨by decide, by decide, Or.inl ⟨0, by decide, rfl, W0.mpr (by grind), rfl⟩⟩⟩⟩, rfl⟩
          · refine g_iconst (v := 3) dX7_lineNow_107 (by decide) ?_
            exact g_iret (ty := .int) dX7_lineNow_108 rfl rfl ⟨⟨_, rfl, ⟨by first | trivial | lia | grind, Or.inr ⟨by decide, by decide, Or.inl ⟨4, by decide, rfl, W4.mpr (by grind), rfl⟩⟩⟩⟩, rfl⟩
      · have zc15 := nx14 c15
        refine g_aload_n dX7_lineNow_61 rfl ?_
        refine g_aload_n dX7_lineNow_62 rfl ?_
        refine f_X7_94 rfl rfl dX7_lineNow_63 ?_
        refine g_topi (fun x64 ex64 => ?_)
        have rx64 : 0 ≤ x64 ∧ x64 ≤ 160 := by rw [ex64]; exact iv_at hu _ _ rfl
        have s65 : u.1 60 15 = x64 := ex64.symm
        refine g_iconst (v := 3) dX7_lineNow_66 (by decide) ?_
        refine g_iadd dX7_lineNow_67 ?_
        refine g_topi (fun x66 ex66 => ?_)
        refine cl_X7_103 (c := 60) (As := [.int x66]) rfl (c_X7_byteAt_s (G := G) hs hu  x66 (by first | trivial | decide | lia | grind) (d + 1)) rfl (by omega) rfl rfl (Nat.le_of_ble_eq_true rfl) dX7_lineNow_68 (fun r67 u68 q69 => ?_)
        obtain ⟨⟨x70, rfl, tx70⟩, mq69⟩ := q69
        rw [mq69]
        refine g_bipush (v := 110) dX7_lineNow_71 (by decide) ?_
        refine g_icmp_ne (tgt := 78) dX7_lineNow_73 (by decide) (fun c71 => ?_) (fun c71 => ?_)
        · refine g_aload_n dX7_lineNow_78 rfl ?_
          refine g_iconst (v := 4) dX7_lineNow_79 (by decide) ?_
          refine g_bipush (v := 115) dX7_lineNow_80 (by decide) ?_
          refine g_bipush (v := 97) dX7_lineNow_82 (by decide) ?_
          refine g_bipush (v := 108) dX7_lineNow_84 (by decide) ?_
          refine cl_X7_107 (c := 60) (As := [.int 4, .int 115, .int 97, .int 108]) rfl (c_X7_is_s (G := G) hs hu  4 115 97 108 (by first | trivial | decide | lia | grind) (by first | trivial | decide | lia | grind) (by first | trivial | decide | lia | grind) (d)) rfl (by omega) rfl rfl (Nat.le_of_ble_eq_true rfl) dX7_lineNow_86 (fun r72 u73 q74 => ?_)
          obtain ⟨⟨x75, rfl, tx75, nx75, zx75⟩, mq74⟩ := q74
          rw [mq74]
          refine g_if_eq (tgt := 109) dX7_lineNow_89 (by decide) (fun c76 => ?_) (fun c76 => ?_)
          · have zc76 := zx75 c76
            refine g_aload_n dX7_lineNow_109 rfl ?_
            refine g_iconst (v := 3) dX7_lineNow_110 (by decide) ?_
            refine g_bipush (v := 114) dX7_lineNow_111 (by decide) ?_
            refine g_bipush (v := 97) dX7_lineNow_113 (by decide) ?_
            refine g_bipush (v := 119) dX7_lineNow_115 (by decide) ?_
            refine cl_X7_107 (c := 60) (As := [.int 3, .int 114, .int 97, .int 119]) rfl (c_X7_is_s (G := G) hs hu  3 114 97 119 (by first | trivial | decide | lia | grind) (by first | trivial | decide | lia | grind) (by first | trivial | decide | lia | grind) (d)) rfl (by omega) rfl rfl (Nat.le_of_ble_eq_true rfl) dX7_lineNow_117 (fun r77 u78 q79 => ?_)
            obtain ⟨⟨x80, rfl, tx80, nx80, zx80⟩, mq79⟩ := q79
            rw [mq79]
            refine g_if_eq (tgt := 127) dX7_lineNow_120 (by decide) (fun c81 => ?_) (fun c81 => ?_)
            · have zc81 := zx80 c81
              refine g_aload_n dX7_lineNow_127 rfl ?_
              refine g_iconst (v := 4) dX7_lineNow_128 (by decide) ?_
              refine g_bipush (v := 104) dX7_lineNow_129 (by decide) ?_
              refine g_bipush (v := 97) dX7_lineNow_131 (by decide) ?_
              refine g_bipush (v := 118) dX7_lineNow_133 (by decide) ?_
              refine cl_X7_107 (c := 60) (As := [.int 4, .int 104, .int 97, .int 118]) rfl (c_X7_is_s (G := G) hs hu  4 104 97 118 (by first | trivial | decide | lia | grind) (by first | trivial | decide | lia | grind) (by first | trivial | decide | lia | grind) (d)) rfl (by omega) rfl rfl (Nat.le_of_ble_eq_true rfl) dX7_lineNow_135 (fun r82 u83 q84 => ?_)
              obtain ⟨⟨x85, rfl, tx85, nx85, zx85⟩, mq84⟩ := q84
              rw [mq84]
              refine g_if_eq (tgt := 160) dX7_lineNow_138 (by decide) (fun c86 => ?_) (fun c86 => ?_)
              · have zc86 := zx85 c86
                refine g_bipush (v := (-4)) dX7_lineNow_160 (by decide) ?_
                exact g_iret (ty := .int) dX7_lineNow_162 rfl rfl ⟨⟨_, rfl, ⟨by first | trivial | lia | grind, Or.inl ⟨rfl, Or.inr ⟨fun j hj z => by rcases (show j = 0 ∨ j = 1 ∨ j = 2 ∨ j = 3 ∨ j = 4 ∨ j = 5 by omega) with rfl | rfl | rfl | rfl | rfl | rfl <;> first | (have w := W0.mp z.2; grind) | (have w := W1.mp z.2; grind) | (have w := W2.mp z.2; grind) | (have w := W3.mp z.2; grind) | (have w := W4.mp z.2; grind) | (have w := W5.mp z.2; grind), rfl⟩⟩⟩⟩, rfl⟩
              · have zc86 := nx85 c86
                refine g_aload_n dX7_lineNow_141 rfl ?_
                refine g_aload_n dX7_lineNow_142 rfl ?_
                refine f_X7_94 rfl rfl dX7_lineNow_143 ?_
                refine g_topi (fun x87 ex87 => ?_)
                have rx87 : 0 ≤ x87 ∧ x87 ≤ 160 := by rw [ex87]; exact iv_at hu _ _ rfl
                have qx87 : x87 = x64 := by rw [ex87]; exact s65
                refine g_iconst (v := 3) dX7_lineNow_146 (by decide) ?_
                refine g_iadd dX7_lineNow_147 ?_
                refine g_topi (fun x88 ex88 => ?_)
                refine cl_X7_103 (c := 60) (As := [.int x88]) rfl (c_X7_byteAt_s (G := G) hs hu  x88 (by first | trivial | decide | lia | grind) (d + 1)) rfl (by omega) rfl rfl (Nat.le_of_ble_eq_true rfl) dX7_lineNow_148 (fun r89 u90 q91 => ?_)
                obtain ⟨⟨x92, rfl, tx92⟩, mq91⟩ := q91
                rw [mq91]
                refine g_bipush (v := 101) dX7_lineNow_151 (by decide) ?_
                refine g_icmp_ne (tgt := 160) dX7_lineNow_153 (by decide) (fun c93 => ?_) (fun c93 => ?_)
                · refine g_bipush (v := (-4)) dX7_lineNow_160 (by decide) ?_
                  exact g_iret (ty := .int) dX7_lineNow_162 rfl rfl ⟨⟨_, rfl, ⟨by first | trivial | lia | grind, Or.inl ⟨rfl, Or.inr ⟨fun j hj z => by rcases (show j = 0 ∨ j = 1 ∨ j = 2 ∨ j = 3 ∨ j = 4 ∨ j = 5 by omega) with rfl | rfl | rfl | rfl | rfl | rfl <;> first | (have w := W0.mp z.2; grind) | (have w := W1.mp z.2; grind) | (have w := W2.mp z.2; grind) | (have w := W3.mp z.2; grind) | (have w := W4.mp z.2; grind) | (have w := W5.mp z.2; grind), rfl⟩⟩⟩⟩, rfl⟩
                · refine g_iconst (v := 5) dX7_lineNow_156 (by decide) ?_
                  refine g_goto (tgt := 162) dX7_lineNow_157 (by decide) ?_
                  exact g_iret (ty := .int) dX7_lineNow_162 rfl rfl ⟨⟨_, rfl, ⟨by first | trivial | lia | grind, Or.inr ⟨by decide, by decide, Or.inl ⟨5, by decide, rfl, W5.mpr (by grind), rfl⟩⟩⟩⟩, rfl⟩
            · have zc81 := nx80 c81
              refine g_iconst (v := 4) dX7_lineNow_123 (by decide) ?_
              refine g_goto (tgt := 162) dX7_lineNow_124 (by decide) ?_
              exact g_iret (ty := .int) dX7_lineNow_162 rfl rfl ⟨⟨_, rfl, ⟨by first | trivial | lia | grind, Or.inr ⟨by decide, by decide, Or.inl ⟨0, by decide, rfl, W0.mpr (by grind), rfl⟩⟩⟩⟩, rfl⟩
          · have zc76 := nx75 c76
            refine g_aload_n dX7_lineNow_92 rfl ?_
            refine g_aload_n dX7_lineNow_93 rfl ?_
            refine f_X7_94 rfl rfl dX7_lineNow_94 ?_
            refine g_topi (fun x94 ex94 => ?_)
            have rx94 : 0 ≤ x94 ∧ x94 ≤ 160 := by rw [ex94]; exact iv_at hu _ _ rfl
            have qx94 : x94 = x64 := by rw [ex94]; exact s65
            refine g_iconst (v := 3) dX7_lineNow_97 (by decide) ?_
            refine g_iadd dX7_lineNow_98 ?_
            refine g_topi (fun x95 ex95 => ?_)
            refine cl_X7_103 (c := 60) (As := [.int x95]) rfl (c_X7_byteAt_s (G := G) hs hu  x95 (by first | trivial | decide | lia | grind) (d + 1)) rfl (by omega) rfl rfl (Nat.le_of_ble_eq_true rfl) dX7_lineNow_99 (fun r96 u97 q98 => ?_)
            obtain ⟨⟨x99, rfl, tx99⟩, mq98⟩ := q98
            rw [mq98]
            refine g_bipush (v := 116) dX7_lineNow_102 (by decide) ?_
            refine g_icmp_ne (tgt := 109) dX7_lineNow_104 (by decide) (fun c100 => ?_) (fun c100 => ?_)
            · refine g_aload_n dX7_lineNow_109 rfl ?_
              refine g_iconst (v := 3) dX7_lineNow_110 (by decide) ?_
              refine g_bipush (v := 114) dX7_lineNow_111 (by decide) ?_
              refine g_bipush (v := 97) dX7_lineNow_113 (by decide) ?_
              refine g_bipush (v := 119) dX7_lineNow_115 (by decide) ?_
              refine cl_X7_107 (c := 60) (As := [.int 3, .int 114, .int 97, .int 119]) rfl (c_X7_is_s (G := G) hs hu  3 114 97 119 (by first | trivial | decide | lia | grind) (by first | trivial | decide | lia | grind) (by first | trivial | decide | lia | grind) (d)) rfl (by omega) rfl rfl (Nat.le_of_ble_eq_true rfl) dX7_lineNow_117 (fun r101 u102 q103 => ?_)
              obtain ⟨⟨x104, rfl, tx104, nx104, zx104⟩, mq103⟩ := q103
              rw [mq103]
              refine g_if_eq (tgt := 127) dX7_lineNow_120 (by decide) (fun c105 => ?_) (fun c105 => ?_)
              · have zc105 := zx104 c105
                refine g_aload_n dX7_lineNow_127 rfl ?_
                refine g_iconst (v := 4) dX7_lineNow_128 (by decide) ?_
                refine g_bipush (v := 104) dX7_lineNow_129 (by decide) ?_
                refine g_bipush (v := 97) dX7_lineNow_131 (by decide) ?_
                refine g_bipush (v := 118) dX7_lineNow_133 (by decide) ?_
                refine cl_X7_107 (c := 60) (As := [.int 4, .int 104, .int 97, .int 118]) rfl (c_X7_is_s (G := G) hs hu  4 104 97 118 (by first | trivial | decide | lia | grind) (by first | trivial | decide | lia | grind) (by first | trivial | decide | lia | grind) (d)) rfl (by omega) rfl rfl (Nat.le_of_ble_eq_true rfl) dX7_lineNow_135 (fun r106 u107 q108 => ?_)
                obtain ⟨⟨x109, rfl, tx109, nx109, zx109⟩, mq108⟩ := q108
                rw [mq108]
                refine g_if_eq (tgt := 160) dX7_lineNow_138 (by decide) (fun c110 => ?_) (fun c110 => ?_)
                · have zc110 := zx109 c110
                  refine g_bipush (v := (-4)) dX7_lineNow_160 (by decide) ?_
                  exact g_iret (ty := .int) dX7_lineNow_162 rfl rfl ⟨⟨_, rfl, ⟨by first | trivial | lia | grind, Or.inl ⟨rfl, Or.inr ⟨fun j hj z => by rcases (show j = 0 ∨ j = 1 ∨ j = 2 ∨ j = 3 ∨ j = 4 ∨ j = 5 by omega) with rfl | rfl | rfl | rfl | rfl | rfl <;> first | (have w := W0.mp z.2; grind) | (have w := W1.mp z.2; grind) | (have w := W2.mp z.2; grind) | (have w := W3.mp z.2; grind) | (have w := W4.mp z.2; grind) | (have w := W5.mp z.2; grind), rfl⟩⟩⟩⟩, rfl⟩
                · have zc110 := nx109 c110
                  refine g_aload_n dX7_lineNow_141 rfl ?_
                  refine g_aload_n dX7_lineNow_142 rfl ?_
                  refine f_X7_94 rfl rfl dX7_lineNow_143 ?_
                  refine g_topi (fun x111 ex111 => ?_)
                  have rx111 : 0 ≤ x111 ∧ x111 ≤ 160 := by rw [ex111]; exact iv_at hu _ _ rfl
                  have qx111 : x111 = x64 := by rw [ex111]; exact s65
                  refine g_iconst (v := 3) dX7_lineNow_146 (by decide) ?_
                  refine g_iadd dX7_lineNow_147 ?_
                  refine g_topi (fun x112 ex112 => ?_)
                  refine cl_X7_103 (c := 60) (As := [.int x112]) rfl (c_X7_byteAt_s (G := G) hs hu  x112 (by first | trivial | decide | lia | grind) (d + 1)) rfl (by omega) rfl rfl (Nat.le_of_ble_eq_true rfl) dX7_lineNow_148 (fun r113 u114 q115 => ?_)
                  obtain ⟨⟨x116, rfl, tx116⟩, mq115⟩ := q115
                  rw [mq115]
                  refine g_bipush (v := 101) dX7_lineNow_151 (by decide) ?_
                  refine g_icmp_ne (tgt := 160) dX7_lineNow_153 (by decide) (fun c117 => ?_) (fun c117 => ?_)
                  · refine g_bipush (v := (-4)) dX7_lineNow_160 (by decide) ?_
                    exact g_iret (ty := .int) dX7_lineNow_162 rfl rfl ⟨⟨_, rfl, ⟨by first | trivial | lia | grind, Or.inl ⟨rfl, Or.inr ⟨fun j hj z => by rcases (show j = 0 ∨ j = 1 ∨ j = 2 ∨ j = 3 ∨ j = 4 ∨ j = 5 by omega) with rfl | rfl | rfl | rfl | rfl | rfl <;> first | (have w := W0.mp z.2; grind) | (have w := W1.mp z.2; grind) | (have w := W2.mp z.2; grind) | (have w := W3.mp z.2; grind) | (have w := W4.mp z.2; grind) | (have w := W5.mp z.2; grind), rfl⟩⟩⟩⟩, rfl⟩
                  · refine g_iconst (v := 5) dX7_lineNow_156 (by decide) ?_
                    refine g_goto (tgt := 162) dX7_lineNow_157 (by decide) ?_
                    exact g_iret (ty := .int) dX7_lineNow_162 rfl rfl ⟨⟨_, rfl, ⟨by first | trivial | lia | grind, Or.inr ⟨by decide, by decide, Or.inl ⟨5, by decide, rfl, W5.mpr (by grind), rfl⟩⟩⟩⟩, rfl⟩
              · have zc105 := nx104 c105
                refine g_iconst (v := 4) dX7_lineNow_123 (by decide) ?_
                refine g_goto (tgt := 162) dX7_lineNow_124 (by decide) ?_
                exact g_iret (ty := .int) dX7_lineNow_162 rfl rfl ⟨⟨_, rfl, ⟨by first | trivial | lia | grind, Or.inr ⟨by decide, by decide, Or.inl ⟨0, by decide, rfl, W0.mpr (by grind), rfl⟩⟩⟩⟩, rfl⟩
            · refine g_iconst (v := 3) dX7_lineNow_107 (by decide) ?_
              exact g_iret (ty := .int) dX7_lineNow_108 rfl rfl ⟨⟨_, rfl, ⟨by first | trivial | lia | grind, Or.inr ⟨by decide, by decide, Or.inl ⟨4, by decide, rfl, W4.mpr (by grind), rfl⟩⟩⟩⟩, rfl⟩
        · refine g_iconst (v := 2) dX7_lineNow_76 (by decide) ?_
          exact g_iret (ty := .int) dX7_lineNow_77 rfl rfl ⟨⟨_, rfl, ⟨by first | trivial | lia | grind, Or.inr ⟨by decide, by decide, Or.inl ⟨3, by decide, rfl, W3.mpr (by grind), rfl⟩⟩⟩⟩, rfl⟩
    · have zc10 := nx9 c10
      refine g_aload_n dX7_lineNow_30 rfl ?_
      refine g_aload_n dX7_lineNow_31 rfl ?_
      refine f_X7_94 rfl rfl dX7_lineNow_32 ?_
      refine g_topi (fun x118 ex118 => ?_)
      have rx118 : 0 ≤ x118 ∧ x118 ≤ 160 := by rw [ex118]; exact iv_at hu _ _ rfl
      have s119 : u.1 60 15 = x118 := ex118.symm
      refine g_iconst (v := 3) dX7_lineNow_35 (by decide) ?_
      refine g_iadd dX7_lineNow_36 ?_
      refine g_topi (fun x120 ex120 => ?_)
      refine cl_X7_103 (c := 60) (As := [.int x120]) rfl (c_X7_byteAt_s (G := G) hs hu  x120 (by first | trivial | decide | lia | grind) (d + 1)) rfl (by omega) rfl rfl (Nat.le_of_ble_eq_true rfl) dX7_lineNow_37 (fun r121 u122 q123 => ?_)
      obtain ⟨⟨x124, rfl, tx124⟩, mq123⟩ := q123
      rw [mq123]
      refine g_bipush (v := 108) dX7_lineNow_40 (by decide) ?_
      refine g_icmp_ne (tgt := 47) dX7_lineNow_42 (by decide) (fun c125 => ?_) (fun c125 => ?_)
      · refine g_aload_n dX7_lineNow_47 rfl ?_
        refine g_iconst (v := 4) dX7_lineNow_48 (by decide) ?_
        refine g_bipush (v := 98) dX7_lineNow_49 (by decide) ?_
        refine g_bipush (v := 117) dX7_lineNow_51 (by decide) ?_
        refine g_bipush (v := 114) dX7_lineNow_53 (by decide) ?_
        refine cl_X7_107 (c := 60) (As := [.int 4, .int 98, .int 117, .int 114]) rfl (c_X7_is_s (G := G) hs hu  4 98 117 114 (by first | trivial | decide | lia | grind) (by first | trivial | decide | lia | grind) (by first | trivial | decide | lia | grind) (d)) rfl (by omega) rfl rfl (Nat.le_of_ble_eq_true rfl) dX7_lineNow_55 (fun r126 u127 q128 => ?_)
        obtain ⟨⟨x129, rfl, tx129, nx129, zx129⟩, mq128⟩ := q128
        rw [mq128]
        refine g_if_eq (tgt := 78) dX7_lineNow_58 (by decide) (fun c130 => ?_) (fun c130 => ?_)
        · have zc130 := zx129 c130
          refine g_aload_n dX7_lineNow_78 rfl ?_
          refine g_iconst (v := 4) dX7_lineNow_79 (by decide) ?_
          refine g_bipush (v := 115) dX7_lineNow_80 (by decide) ?_
          refine g_bipush (v := 97) dX7_lineNow_82 (by decide) ?_
          refine g_bipush (v := 108) dX7_lineNow_84 (by decide) ?_
          refine cl_X7_107 (c := 60) (As := [.int 4, .int 115, .int 97, .int 108]) rfl (c_X7_is_s (G := G) hs hu  4 115 97 108 (by first | trivial | decide | lia | grind) (by first | trivial | decide | lia | grind) (by first | trivial | decide | lia | grind) (d)) rfl (by omega) rfl rfl (Nat.le_of_ble_eq_true rfl) dX7_lineNow_86 (fun r131 u132 q133 => ?_)
          obtain ⟨⟨x134, rfl, tx134, nx134, zx134⟩, mq133⟩ := q133
          rw [mq133]
          refine g_if_eq (tgt := 109) dX7_lineNow_89 (by decide) (fun c135 => ?_) (fun c135 => ?_)
          · have zc135 := zx134 c135
            refine g_aload_n dX7_lineNow_109 rfl ?_
            refine g_iconst (v := 3) dX7_lineNow_110 (by decide) ?_
            refine g_bipush (v := 114) dX7_lineNow_111 (by decide) ?_
            refine g_bipush (v := 97) dX7_lineNow_113 (by decide) ?_
            refine g_bipush (v := 119) dX7_lineNow_115 (by decide) ?_
            refine cl_X7_107 (c := 60) (As := [.int 3, .int 114, .int 97, .int 119]) rfl (c_X7_is_s (G := G) hs hu  3 114 97 119 (by first | trivial | decide | lia | grind) (by first | trivial | decide | lia | grind) (by first | trivial | decide | lia | grind) (d)) rfl (by omega) rfl rfl (Nat.le_of_ble_eq_true rfl) dX7_lineNow_117 (fun r136 u137 q138 => ?_)
            obtain ⟨⟨x139, rfl, tx139, nx139, zx139⟩, mq138⟩ := q138
            rw [mq138]
            refine g_if_eq (tgt := 127) dX7_lineNow_120 (by decide) (fun c140 => ?_) (fun c140 => ?_)
            · have zc140 := zx139 c140
              refine g_aload_n dX7_lineNow_127 rfl ?_
              refine g_iconst (v := 4) dX7_lineNow_128 (by decide) ?_
              refine g_bipush (v := 104) dX7_lineNow_129 (by decide) ?_
              refine g_bipush (v := 97) dX7_lineNow_131 (by decide) ?_
              refine g_bipush (v := 118) dX7_lineNow_133 (by decide) ?_
              refine cl_X7_107 (c := 60) (As := [.int 4, .int 104, .int 97, .int 118]) rfl (c_X7_is_s (G := G) hs hu  4 104 97 118 (by first | trivial | decide | lia | grind) (by first | trivial | decide | lia | grind) (by first | trivial | decide | lia | grind) (d)) rfl (by omega) rfl rfl (Nat.le_of_ble_eq_true rfl) dX7_lineNow_135 (fun r141 u142 q143 => ?_)
              obtain ⟨⟨x144, rfl, tx144, nx144, zx144⟩, mq143⟩ := q143
              rw [mq143]
              refine g_if_eq (tgt := 160) dX7_lineNow_138 (by decide) (fun c145 => ?_) (fun c145 => ?_)
              · have zc145 := zx144 c145
                refine g_bipush (v := (-4)) dX7_lineNow_160 (by decide) ?_
                exact g_iret (ty := .int) dX7_lineNow_162 rfl rfl ⟨⟨_, rfl, ⟨by first | trivial | lia | grind, Or.inl ⟨rfl, Or.inr ⟨fun j hj z => by rcases (show j = 0 ∨ j = 1 ∨ j = 2 ∨ j = 3 ∨ j = 4 ∨ j = 5 by omega) with rfl | rfl | rfl | rfl | rfl | rfl <;> first | (have w := W0.mp z.2; grind) | (have w := W1.mp z.2; grind) | (have w := W2.mp z.2; grind) | (have w := W3.mp z.2; grind) | (have w := W4.mp z.2; grind) | (have w := W5.mp z.2; grind), rfl⟩⟩⟩⟩, rfl⟩
              · have zc145 := nx144 c145
                refine g_aload_n dX7_lineNow_141 rfl ?_
                refine g_aload_n dX7_lineNow_142 rfl ?_
                refine f_X7_94 rfl rfl dX7_lineNow_143 ?_
                refine g_topi (fun x146 ex146 => ?_)
                have rx146 : 0 ≤ x146 ∧ x146 ≤ 160 := by rw [ex146]; exact iv_at hu _ _ rfl
                have qx146 : x146 = x118 := by rw [ex146]; exact s119
                refine g_iconst (v := 3) dX7_lineNow_146 (by decide) ?_
                refine g_iadd dX7_lineNow_147 ?_
                refine g_topi (fun x147 ex147 => ?_)
                refine cl_X7_103 (c := 60) (As := [.int x147]) rfl (c_X7_byteAt_s (G := G) hs hu  x147 (by first | trivial | decide | lia | grind) (d + 1)) rfl (by omega) rfl rfl (Nat.le_of_ble_eq_true rfl) dX7_lineNow_148 (fun r148 u149 q150 => ?_)
                obtain ⟨⟨x151, rfl, tx151⟩, mq150⟩ := q150
                rw [mq150]
                refine g_bipush (v := 101) dX7_lineNow_151 (by decide) ?_
                refine g_icmp_ne (tgt := 160) dX7_lineNow_153 (by decide) (fun c152 => ?_) (fun c152 => ?_)
                · refine g_bipush (v := (-4)) dX7_lineNow_160 (by decide) ?_
                  exact g_iret (ty := .int) dX7_lineNow_162 rfl rfl ⟨⟨_, rfl, ⟨by first | trivial | lia | grind, Or.inl ⟨rfl, Or.inr ⟨fun j hj z => by rcases (show j = 0 ∨ j = 1 ∨ j = 2 ∨ j = 3 ∨ j = 4 ∨ j = 5 by omega) with rfl | rfl | rfl | rfl | rfl | rfl <;> first | (have w := W0.mp z.2; grind) | (have w := W1.mp z.2; grind) | (have w := W2.mp z.2; grind) | (have w := W3.mp z.2; grind) | (have w := W4.mp z.2; grind) | (have w := W5.mp z.2; grind), rfl⟩⟩⟩⟩, rfl⟩
                · refine g_iconst (v := 5) dX7_lineNow_156 (by decide) ?_
                  refine g_goto (tgt := 162) dX7_lineNow_157 (by decide) ?_
                  exact g_iret (ty := .int) dX7_lineNow_162 rfl rfl ⟨⟨_, rfl, ⟨by first | trivial | lia | grind, Or.inr ⟨by decide, by decide, Or.inl ⟨5, by decide, rfl, W5.mpr (by grind), rfl⟩⟩⟩⟩, rfl⟩
            · have zc140 := nx139 c140
              refine g_iconst (v := 4) dX7_lineNow_123 (by decide) ?_
              refine g_goto (tgt := 162) dX7_lineNow_124 (by decide) ?_
              exact g_iret (ty := .int) dX7_lineNow_162 rfl rfl ⟨⟨_, rfl, ⟨by first | trivial | lia | grind, Or.inr ⟨by decide, by decide, Or.inl ⟨0, by decide, rfl, W0.mpr (by grind), rfl⟩⟩⟩⟩, rfl⟩
          · have zc135 := nx134 c135
            refine g_aload_n dX7_lineNow_92 rfl ?_
            refine g_aload_n dX7_lineNow_93 rfl ?_
            refine f_X7_94 rfl rfl dX7_lineNow_94 ?_
            refine g_topi (fun x153 ex153 => ?_)
            have rx153 : 0 ≤ x153 ∧ x153 ≤ 160 := by rw [ex153]; exact iv_at hu _ _ rfl
            have qx153 : x153 = x118 := by rw [ex153]; exact s119
            refine g_iconst (v := 3) dX7_lineNow_97 (by decide) ?_
            refine g_iadd dX7_lineNow_98 ?_
            refine g_topi (fun x154 ex154 => ?_)
            refine cl_X7_103 (c := 60) (As := [.int x154]) rfl (c_X7_byteAt_s (G := G) hs hu  x154 (by first | trivial | decide | lia | grind) (d + 1)) rfl (by omega) rfl rfl (Nat.le_of_ble_eq_true rfl) dX7_lineNow_99 (fun r155 u156 q157 => ?_)
            obtain ⟨⟨x158, rfl, tx158⟩, mq157⟩ := q157
            rw [mq157]
            refine g_bipush (v := 116) dX7_lineNow_102 (by decide) ?_
            refine g_icmp_ne (tgt := 109) dX7_lineNow_104 (by decide) (fun c159 => ?_) (fun c159 => ?_)
            · refine g_aload_n dX7_lineNow_109 rfl ?_
              refine g_iconst (v := 3) dX7_lineNow_110 (by decide) ?_
              refine g_bipush (v := 114) dX7_lineNow_111 (by decide) ?_
              refine g_bipush (v := 97) dX7_lineNow_113 (by decide) ?_
              refine g_bipush (v := 119) dX7_lineNow_115 (by decide) ?_
              refine cl_X7_107 (c := 60) (As := [.int 3, .int 114, .int 97, .int 119]) rfl (c_X7_is_s (G := G) hs hu  3 114 97 119 (by first | trivial | decide | lia | grind) (by first | trivial | decide | lia | grind) (by first | trivial | decide | lia | grind) (d)) rfl (by omega) rfl rfl (Nat.le_of_ble_eq_true rfl) dX7_lineNow_117 (fun r160 u161 q162 => ?_)
              obtain ⟨⟨x163, rfl, tx163, nx163, zx163⟩, mq162⟩ := q162
              rw [mq162]
              refine g_if_eq (tgt := 127) dX7_lineNow_120 (by decide) (fun c164 => ?_) (fun c164 => ?_)
              · have zc164 := zx163 c164
                refine g_aload_n dX7_lineNow_127 rfl ?_
                refine g_iconst (v := 4) dX7_lineNow_128 (by decide) ?_
                refine g_bipush (v := 104) dX7_lineNow_129 (by decide) ?_
                refine g_bipush (v := 97) dX7_lineNow_131 (by decide) ?_
                refine g_bipush (v := 118) dX7_lineNow_133 (by decide) ?_
                refine cl_X7_107 (c := 60) (As := [.int 4, .int 104, .int 97, .int 118]) rfl (c_X7_is_s (G := G) hs hu  4 104 97 118 (by first | trivial | decide | lia | grind) (by first | trivial | decide | lia | grind) (by first | trivial | decide | lia | grind) (d)) rfl (by omega) rfl rfl (Nat.le_of_ble_eq_true rfl) dX7_lineNow_135 (fun r165 u166 q167 => ?_)
                obtain ⟨⟨x168, rfl, tx168, nx168, zx168⟩, mq167⟩ := q167
                rw [mq167]
                refine g_if_eq (tgt := 160) dX7_lineNow_138 (by decide) (fun c169 => ?_) (fun c169 => ?_)
                · have zc169 := zx168 c169
                  refine g_bipush (v := (-4)) dX7_lineNow_160 (by decide) ?_
                  exact g_iret (ty := .int) dX7_lineNow_162 rfl rfl ⟨⟨_, rfl, ⟨by first | trivial | lia | grind, Or.inl ⟨rfl, Or.inr ⟨fun j hj z => by rcases (show j = 0 ∨ j = 1 ∨ j = 2 ∨ j = 3 ∨ j = 4 ∨ j = 5 by omega) with rfl | rfl | rfl | rfl | rfl | rfl <;> first | (have w := W0.mp z.2; grind) | (have w := W1.mp z.2; grind) | (have w := W2.mp z.2; grind) | (have w := W3.mp z.2; grind) | (have w := W4.mp z.2; grind) | (have w := W5.mp z.2; grind), rfl⟩⟩⟩⟩, rfl⟩
                · have zc169 := nx168 c169
                  refine g_aload_n dX7_lineNow_141 rfl ?_
                  refine g_aload_n dX7_lineNow_142 rfl ?_
                  refine f_X7_94 rfl rfl dX7_lineNow_143 ?_
                  refine g_topi (fun x170 ex170 => ?_)
                  have rx170 : 0 ≤ x170 ∧ x170 ≤ 160 := by rw [ex170]; exact iv_at hu _ _ rfl
                  have qx170 : x170 = x118 := by rw [ex170]; exact s119
                  refine g_iconst (v := 3) dX7_lineNow_146 (by decide) ?_
                  refine g_iadd dX7_lineNow_147 ?_
                  refine g_topi (fun x171 ex171 => ?_)
                  refine cl_X7_103 (c := 60) (As := [.int x171]) rfl (c_X7_byteAt_s (G := G) hs hu  x171 (by first | trivial | decide | lia | grind) (d + 1)) rfl (by omega) rfl rfl (Nat.le_of_ble_eq_true rfl) dX7_lineNow_148 (fun r172 u173 q174 => ?_)
                  obtain ⟨⟨x175, rfl, tx175⟩, mq174⟩ := q174
                  rw [mq174]
                  refine g_bipush (v := 101) dX7_lineNow_151 (by decide) ?_
                  refine g_icmp_ne (tgt := 160) dX7_lineNow_153 (by decide) (fun c176 => ?_) (fun c176 => ?_)
                  · refine g_bipush (v := (-4)) dX7_lineNow_160 (by decide) ?_
                    exact g_iret (ty := .int) dX7_lineNow_162 rfl rfl ⟨⟨_, rfl, ⟨by first | trivial | lia | grind, Or.inl ⟨rfl, Or.inr ⟨fun j hj z => by rcases (show j = 0 ∨ j = 1 ∨ j = 2 ∨ j = 3 ∨ j = 4 ∨ j = 5 by omega) with rfl | rfl | rfl | rfl | rfl | rfl <;> first | (have w := W0.mp z.2; grind) | (have w := W1.mp z.2; grind) | (have w := W2.mp z.2; grind) | (have w := W3.mp z.2; grind) | (have w := W4.mp z.2; grind) | (have w := W5.mp z.2; grind), rfl⟩⟩⟩⟩, rfl⟩
                  · refine g_iconst (v := 5) dX7_lineNow_156 (by decide) ?_
                    refine g_goto (tgt := 162) dX7_lineNow_157 (by decide) ?_
                    exact g_iret (ty := .int) dX7_lineNow_162 rfl rfl ⟨⟨_, rfl, ⟨by first | trivial | lia | grind, Or.inr ⟨by decide, by decide, Or.inl ⟨5, by decide, rfl, W5.mpr (by grind), rfl⟩⟩⟩⟩, rfl⟩
              · have zc164 := nx163 c164
                refine g_iconst (v := 4) dX7_lineNow_123 (by decide) ?_
                refine g_goto (tgt := 162) dX7_lineNow_124 (by decide) ?_
                exact g_iret (ty := .int) dX7_lineNow_162 rfl rfl ⟨⟨_, rfl, ⟨by first | trivial | lia | grind, Or.inr ⟨by decide, by decide, Or.inl ⟨0, by decide, rfl, W0.mpr (by grind), rfl⟩⟩⟩⟩, rfl⟩
            · refine g_iconst (v := 3) dX7_lineNow_107 (by decide) ?_
              exact g_iret (ty := .int) dX7_lineNow_108 rfl rfl ⟨⟨_, rfl, ⟨by first | trivial | lia | grind, Or.inr ⟨by decide, by decide, Or.inl ⟨4, by decide, rfl, W4.mpr (by grind), rfl⟩⟩⟩⟩, rfl⟩
        · have zc130 := nx129 c130
          refine g_aload_n dX7_lineNow_61 rfl ?_
          refine g_aload_n dX7_lineNow_62 rfl ?_
          refine f_X7_94 rfl rfl dX7_lineNow_63 ?_
          refine g_topi (fun x177 ex177 => ?_)
          have rx177 : 0 ≤ x177 ∧ x177 ≤ 160 := by rw [ex177]; exact iv_at hu _ _ rfl
          have qx177 : x177 = x118 := by rw [ex177]; exact s119
          refine g_iconst (v := 3) dX7_lineNow_66 (by decide) ?_
          refine g_iadd dX7_lineNow_67 ?_
          refine g_topi (fun x178 ex178 => ?_)
          refine cl_X7_103 (c := 60) (As := [.int x178]) rfl (c_X7_byteAt_s (G := G) hs hu  x178 (by first | trivial | decide | lia | grind) (d + 1)) rfl (by omega) rfl rfl (Nat.le_of_ble_eq_true rfl) dX7_lineNow_68 (fun r179 u180 q181 => ?_)
          obtain ⟨⟨x182, rfl, tx182⟩, mq181⟩ := q181
          rw [mq181]
          refine g_bipush (v := 110) dX7_lineNow_71 (by decide) ?_
          refine g_icmp_ne (tgt := 78) dX7_lineNow_73 (by decide) (fun c183 => ?_) (fun c183 => ?_)
          · refine g_aload_n dX7_lineNow_78 rfl ?_
            refine g_iconst (v := 4) dX7_lineNow_79 (by decide) ?_
            refine g_bipush (v := 115) dX7_lineNow_80 (by decide) ?_
            refine g_bipush (v := 97) dX7_lineNow_82 (by decide) ?_
            refine g_bipush (v := 108) dX7_lineNow_84 (by decide) ?_
            refine cl_X7_107 (c := 60) (As := [.int 4, .int 115, .int 97, .int 108]) rfl (c_X7_is_s (G := G) hs hu  4 115 97 108 (by first | trivial | decide | lia | grind) (by first | trivial | decide | lia | grind) (by first | trivial | decide | lia | grind) (d)) rfl (by omega) rfl rfl (Nat.le_of_ble_eq_true rfl) dX7_lineNow_86 (fun r184 u185 q186 => ?_)
            obtain ⟨⟨x187, rfl, tx187, nx187, zx187⟩, mq186⟩ := q186
            rw [mq186]
            refine g_if_eq (tgt := 109) dX7_lineNow_89 (by decide) (fun c188 => ?_) (fun c188 => ?_)
            · have zc188 := zx187 c188
              refine g_aload_n dX7_lineNow_109 rfl ?_
              refine g_iconst (v := 3) dX7_lineNow_110 (by decide) ?_
              refine g_bipush (v := 114) dX7_lineNow_111 (by decide) ?_
              refine g_bipush (v := 97) dX7_lineNow_113 (by decide) ?_
              refine g_bipush (v := 119) dX7_lineNow_115 (by decide) ?_
              refine cl_X7_107 (c := 60) (As := [.int 3, .int 114, .int 97, .int 119]) rfl (c_X7_is_s (G := G) hs hu  3 114 97 119 (by first | trivial | decide | lia | grind) (by first | trivial | decide | lia | grind) (by first | trivial | decide | lia | grind) (d)) rfl (by omega) rfl rfl (Nat.le_of_ble_eq_true rfl) dX7_lineNow_117 (fun r189 u190 q191 => ?_)
              obtain ⟨⟨x192, rfl, tx192, nx192, zx192⟩, mq191⟩ := q191
              rw [mq191]
              refine g_if_eq (tgt := 127) dX7_lineNow_120 (by decide) (fun c193 => ?_) (fun c193 => ?_)
              · have zc193 := zx192 c193
                refine g_aload_n dX7_lineNow_127 rfl ?_
                refine g_iconst (v := 4) dX7_lineNow_128 (by decide) ?_
                refine g_bipush (v := 104) dX7_lineNow_129 (by decide) ?_
                refine g_bipush (v := 97) dX7_lineNow_131 (by decide) ?_
                refine g_bipush (v := 118) dX7_lineNow_133 (by decide) ?_
                refine cl_X7_107 (c := 60) (As := [.int 4, .int 104, .int 97, .int 118]) rfl (c_X7_is_s (G := G) hs hu  4 104 97 118 (by first | trivial | decide | lia | grind) (by first | trivial | decide | lia | grind) (by first | trivial | decide | lia | grind) (d)) rfl (by omega) rfl rfl (Nat.le_of_ble_eq_true rfl) dX7_lineNow_135 (fun r194 u195 q196 => ?_)
                obtain ⟨⟨x197, rfl, tx197, nx197, zx197⟩, mq196⟩ := q196
                rw [mq196]
                refine g_if_eq (tgt := 160) dX7_lineNow_138 (by decide) (fun c198 => ?_) (fun c198 => ?_)
                · have zc198 := zx197 c198
                  refine g_bipush (v := (-4)) dX7_lineNow_160 (by decide) ?_
                  exact g_iret (ty := .int) dX7_lineNow_162 rfl rfl ⟨⟨_, rfl, ⟨by first | trivial | lia | grind, Or.inl ⟨rfl, Or.inr ⟨fun j hj z => by rcases (show j = 0 ∨ j = 1 ∨ j = 2 ∨ j = 3 ∨ j = 4 ∨ j = 5 by omega) with rfl | rfl | rfl | rfl | rfl | rfl <;> first | (have w := W0.mp z.2; grind) | (have w := W1.mp z.2; grind) | (have w := W2.mp z.2; grind) | (have w := W3.mp z.2; grind) | (have w := W4.mp z.2; grind) | (have w := W5.mp z.2; grind), rfl⟩⟩⟩⟩, rfl⟩
                · have zc198 := nx197 c198
                  refine g_aload_n dX7_lineNow_141 rfl ?_
                  refine g_aload_n dX7_lineNow_142 rfl ?_
                  refine f_X7_94 rfl rfl dX7_lineNow_143 ?_
                  refine g_topi (fun x199 ex199 => ?_)
                  have rx199 : 0 ≤ x199 ∧ x199 ≤ 160 := by rw [ex199]; exact iv_at hu _ _ rfl
                  have qx199 : x199 = x118 := by rw [ex199]; exact s119
                  refine g_iconst (v := 3) dX7_lineNow_146 (by decide) ?_
                  refine g_iadd dX7_lineNow_147 ?_
                  refine g_topi (fun x200 ex200 => ?_)
                  refine cl_X7_103 (c := 60) (As := [.int x200]) rfl (c_X7_byteAt_s (G := G) hs hu  x200 (by first | trivial | decide | lia | grind) (d + 1)) rfl (by omega) rfl rfl (Nat.le_of_ble_eq_true rfl) dX7_lineNow_148 (fun r201 u202 q203 => ?_)
                  obtain ⟨⟨x204, rfl, tx204⟩, mq203⟩ := q203
                  rw [mq203]
                  refine g_bipush (v := 101) dX7_lineNow_151 (by decide) ?_
                  refine g_icmp_ne (tgt := 160) dX7_lineNow_153 (by decide) (fun c205 => ?_) (fun c205 => ?_)
                  · refine g_bipush (v := (-4)) dX7_lineNow_160 (by decide) ?_
                    exact g_iret (ty := .int) dX7_lineNow_162 rfl rfl ⟨⟨_, rfl, ⟨by first | trivial | lia | grind, Or.inl ⟨rfl, Or.inr ⟨fun j hj z => by rcases (show j = 0 ∨ j = 1 ∨ j = 2 ∨ j = 3 ∨ j = 4 ∨ j = 5 by omega) with rfl | rfl | rfl | rfl | rfl | rfl <;> first | (have w := W0.mp z.2; grind) | (have w := W1.mp z.2; grind) | (have w := W2.mp z.2; grind) | (have w := W3.mp z.2; grind) | (have w := W4.mp z.2; grind) | (have w := W5.mp z.2; grind), rfl⟩⟩⟩⟩, rfl⟩
                  · refine g_iconst (v := 5) dX7_lineNow_156 (by decide) ?_
                    refine g_goto (tgt := 162) dX7_lineNow_157 (by decide) ?_
                    exact g_iret (ty := .int) dX7_lineNow_162 rfl rfl ⟨⟨_, rfl, ⟨by first | trivial | lia | grind, Or.inr ⟨by decide, by decide, Or.inl ⟨5, by decide, rfl, W5.mpr (by grind), rfl⟩⟩⟩⟩, rfl⟩
              · have zc193 := nx192 c193
                refine g_iconst (v := 4) dX7_lineNow_123 (by decide) ?_
                refine g_goto (tgt := 162) dX7_lineNow_124 (by decide) ?_
                exact g_iret (ty := .int) dX7_lineNow_162 rfl rfl ⟨⟨_, rfl, ⟨by first | trivial | lia | grind, Or.inr ⟨by decide, by decide, Or.inl ⟨0, by decide, rfl, W0.mpr (by grind), rfl⟩⟩⟩⟩, rfl⟩
            · have zc188 := nx187 c188
              refine g_aload_n dX7_lineNow_92 rfl ?_
              refine g_aload_n dX7_lineNow_93 rfl ?_
              refine f_X7_94 rfl rfl dX7_lineNow_94 ?_
              refine g_topi (fun x206 ex206 => ?_)
              have rx206 : 0 ≤ x206 ∧ x206 ≤ 160 := by rw [ex206]; exact iv_at hu _ _ rfl
              have qx206 : x206 = x118 := by rw [ex206]; exact s119
              refine g_iconst (v := 3) dX7_lineNow_97 (by decide) ?_
              refine g_iadd dX7_lineNow_98 ?_
              refine g_topi (fun x207 ex207 => ?_)
              refine cl_X7_103 (c := 60) (As := [.int x207]) rfl (c_X7_byteAt_s (G := G) hs hu  x207 (by first | trivial | decide | lia | grind) (d + 1)) rfl (by omega) rfl rfl (Nat.le_of_ble_eq_true rfl) dX7_lineNow_99 (fun r208 u209 q210 => ?_)
              obtain ⟨⟨x211, rfl, tx211⟩, mq210⟩ := q210
              rw [mq210]
              refine g_bipush (v := 116) dX7_lineNow_102 (by decide) ?_
              refine g_icmp_ne (tgt := 109) dX7_lineNow_104 (by decide) (fun c212 => ?_) (fun c212 => ?_)
              · refine g_aload_n dX7_lineNow_109 rfl ?_
                refine g_iconst (v := 3) dX7_lineNow_110 (by decide) ?_
                refine g_bipush (v := 114) dX7_lineNow_111 (by decide) ?_
                refine g_bipush (v := 97) dX7_lineNow_113 (by decide) ?_
                refine g_bipush (v := 119) dX7_lineNow_115 (by decide) ?_
                refine cl_X7_107 (c := 60) (As := [.int 3, .int 114, .int 97, .int 119]) rfl (c_X7_is_s (G := G) hs hu  3 114 97 119 (by first | trivial | decide | lia | grind) (by first | trivial | decide | lia | grind) (by first | trivial | decide | lia | grind) (d)) rfl (by omega) rfl rfl (Nat.le_of_ble_eq_true rfl) dX7_lineNow_117 (fun r213 u214 q215 => ?_)
                obtain ⟨⟨x216, rfl, tx216, nx216, zx216⟩, mq215⟩ := q215
                rw [mq215]
                refine g_if_eq (tgt := 127) dX7_lineNow_120 (by decide) (fun c217 => ?_) (fun c217 => ?_)
                · have zc217 := zx216 c217
                  refine g_aload_n dX7_lineNow_127 rfl ?_
                  refine g_iconst (v := 4) dX7_lineNow_128 (by decide) ?_
                  refine g_bipush (v := 104) dX7_lineNow_129 (by decide) ?_
                  refine g_bipush (v := 97) dX7_lineNow_131 (by decide) ?_
                  refine g_bipush (v := 118) dX7_lineNow_133 (by decide) ?_
                  refine cl_X7_107 (c := 60) (As := [.int 4, .int 104, .int 97, .int 118]) rfl (c_X7_is_s (G := G) hs hu  4 104 97 118 (by first | trivial | decide | lia | grind) (by first | trivial | decide | lia | grind) (by first | trivial | decide | lia | grind) (d)) rfl (by omega) rfl rfl (Nat.le_of_ble_eq_true rfl) dX7_lineNow_135 (fun r218 u219 q220 => ?_)
                  obtain ⟨⟨x221, rfl, tx221, nx221, zx221⟩, mq220⟩ := q220
                  rw [mq220]
                  refine g_if_eq (tgt := 160) dX7_lineNow_138 (by decide) (fun c222 => ?_) (fun c222 => ?_)
                  · have zc222 := zx221 c222
                    refine g_bipush (v := (-4)) dX7_lineNow_160 (by decide) ?_
                    exact g_iret (ty := .int) dX7_lineNow_162 rfl rfl ⟨⟨_, rfl, ⟨by first | trivial | lia | grind, Or.inl ⟨rfl, Or.inr ⟨fun j hj z => by rcases (show j = 0 ∨ j = 1 ∨ j = 2 ∨ j = 3 ∨ j = 4 ∨ j = 5 by omega) with rfl | rfl | rfl | rfl | rfl | rfl <;> first | (have w := W0.mp z.2; grind) | (have w := W1.mp z.2; grind) | (have w := W2.mp z.2; grind) | (have w := W3.mp z.2; grind) | (have w := W4.mp z.2; grind) | (have w := W5.mp z.2; grind), rfl⟩⟩⟩⟩, rfl⟩
                  · have zc222 := nx221 c222
                    refine g_aload_n dX7_lineNow_141 rfl ?_
                    refine g_aload_n dX7_lineNow_142 rfl ?_
                    refine f_X7_94 rfl rfl dX7_lineNow_143 ?_
                    refine g_topi (fun x223 ex223 => ?_)
                    have rx223 : 0 ≤ x223 ∧ x223 ≤ 160 := by rw [ex223]; exact iv_at hu _ _ rfl
                    have qx223 : x223 = x118 := by rw [ex223]; exact s119
                    refine g_iconst (v := 3) dX7_lineNow_146 (by decide) ?_
                    refine g_iadd dX7_lineNow_147 ?_
                    refine g_topi (fun x224 ex224 => ?_)
                    refine cl_X7_103 (c := 60) (As := [.int x224]) rfl (c_X7_byteAt_s (G := G) hs hu  x224 (by first | trivial | decide | lia | grind) (d + 1)) rfl (by omega) rfl rfl (Nat.le_of_ble_eq_true rfl) dX7_lineNow_148 (fun r225 u226 q227 => ?_)
                    obtain ⟨⟨x228, rfl, tx228⟩, mq227⟩ := q227
                    rw [mq227]
                    refine g_bipush (v := 101) dX7_lineNow_151 (by decide) ?_
                    refine g_icmp_ne (tgt := 160) dX7_lineNow_153 (by decide) (fun c229 => ?_) (fun c229 => ?_)
                    · refine g_bipush (v := (-4)) dX7_lineNow_160 (by decide) ?_
                      exact g_iret (ty := .int) dX7_lineNow_162 rfl rfl ⟨⟨_, rfl, ⟨by first | trivial | lia | grind, Or.inl ⟨rfl, Or.inr ⟨fun j hj z => by rcases (show j = 0 ∨ j = 1 ∨ j = 2 ∨ j = 3 ∨ j = 4 ∨ j = 5 by omega) with rfl | rfl | rfl | rfl | rfl | rfl <;> first | (have w := W0.mp z.2; grind) | (have w := W1.mp z.2; grind) | (have w := W2.mp z.2; grind) | (have w := W3.mp z.2; grind) | (have w := W4.mp z.2; grind) | (have w := W5.mp z.2; grind), rfl⟩⟩⟩⟩, rfl⟩
                    · refine g_iconst (v := 5) dX7_lineNow_156 (by decide) ?_
                      refine g_goto (tgt := 162) dX7_lineNow_157 (by decide) ?_
                      exact g_iret (ty := .int) dX7_lineNow_162 rfl rfl ⟨⟨_, rfl, ⟨by first | trivial | lia | grind, Or.inr ⟨by decide, by decide, Or.inl ⟨5, by decide, rfl, W5.mpr (by grind), rfl⟩⟩⟩⟩, rfl⟩
                · have zc217 := nx216 c217
                  refine g_iconst (v := 4) dX7_lineNow_123 (by decide) ?_
                  refine g_goto (tgt := 162) dX7_lineNow_124 (by decide) ?_
                  exact g_iret (ty := .int) dX7_lineNow_162 rfl rfl ⟨⟨_, rfl, ⟨by first | trivial | lia | grind, Or.inr ⟨by decide, by decide, Or.inl ⟨0, by decide, rfl, W0.mpr (by grind), rfl⟩⟩⟩⟩, rfl⟩
              · refine g_iconst (v := 3) dX7_lineNow_107 (by decide) ?_
                exact g_iret (ty := .int) dX7_lineNow_108 rfl rfl ⟨⟨_, rfl, ⟨by first | trivial | lia | grind, Or.inr ⟨by decide, by decide, Or.inl ⟨4, by decide, rfl, W4.mpr (by grind), rfl⟩⟩⟩⟩, rfl⟩
          · refine g_iconst (v := 2) dX7_lineNow_76 (by decide) ?_
            exact g_iret (ty := .int) dX7_lineNow_77 rfl rfl ⟨⟨_, rfl, ⟨by first | trivial | lia | grind, Or.inr ⟨by decide, by decide, Or.inl ⟨3, by decide, rfl, W3.mpr (by grind), rfl⟩⟩⟩⟩, rfl⟩
      · refine g_iconst (v := 1) dX7_lineNow_45 (by decide) ?_
        exact g_iret (ty := .int) dX7_lineNow_46 rfl rfl ⟨⟨_, rfl, ⟨by first | trivial | lia | grind, Or.inr ⟨by decide, by decide, Or.inl ⟨2, by decide, rfl, W2.mpr (by grind), rfl⟩⟩⟩⟩, rfl⟩
  · have zc5 := nx4 c5
    refine g_iconst (v := 0) dX7_lineNow_14 (by decide) ?_
    exact g_iret (ty := .int) dX7_lineNow_15 rfl rfl ⟨⟨_, rfl, ⟨by first | trivial | lia | grind, Or.inr ⟨by decide, by decide, Or.inl ⟨1, by decide, rfl, W1.mpr (by grind), rfl⟩⟩⟩⟩, rfl⟩
