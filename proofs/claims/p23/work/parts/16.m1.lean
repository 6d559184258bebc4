abbrev q_X7_flag (u : uk_Mem) (b : Int32) (r : Option Value) (u' : uk_Mem) : Prop := (∃ x : Int32, r = some (.int x) ∧ (x = 0 ∨ x = 1)) ∧ (u' = u)
set_option maxHeartbeats 4000000 in
set_option maxRecDepth 20000 in
theorem c_X7_flag {G : uk_D} (hs : uk_Sep G) {u : uk_Mem} (hu : iv u) (b : Int32) (d : Nat) : uk_Meth G d mX7_flag [.int b] u (q_X7_flag u b) := by
  refine uk_Meth.of hs (by decide) (Nat.le_of_ble_eq_true rfl) (fun X => ?_)
  refine g_iload_n dX7_flag_0 rfl ?_
  refine g_if_eq (tgt := 8) dX7_flag_1 (by decide) (fun c1 => ?_) (fun c1 => ?_)
  · refine g_iconst (v := 0) dX7_flag_8 (by decide) ?_
    exact g_iret (ty := .int) dX7_flag_9 rfl rfl ⟨⟨_, rfl, by first | trivial | lia | grind⟩, rfl⟩
  · refine g_iconst (v := 1) dX7_flag_4 (by decide) ?_
    refine g_goto (tgt := 9) dX7_flag_5 (by decide) ?_
    exact g_iret (ty := .int) dX7_flag_9 rfl rfl ⟨⟨_, rfl, by first | trivial | lia | grind⟩, rfl⟩
abbrev q_X7_byteAt (u : uk_Mem) (p : Int32) (r : Option Value) (u' : uk_Mem) : Prop := (∃ x : Int32, r = some (.int x) ∧ ((x = -1 ∧ u.1 60 13 ≤ p) ∨ (0 ≤ x ∧ p < u.1 60 13))) ∧ (u' = u)
set_option maxHeartbeats 4000000 in
set_option maxRecDepth 20000 in
theorem c_X7_byteAt {G : uk_D} (hs : uk_Sep G) {u : uk_Mem} (hu : iv u) (p : Int32) (p0 : 0 ≤ p) (d : Nat) : uk_Meth G d mX7_byteAt [.ref (uk_ad G 60), .int p] u (q_X7_byteAt u p) := by
  refine uk_Meth.of hs (by decide) (Nat.le_of_ble_eq_true rfl) (fun X => ?_)
  refine g_iload_n dX7_byteAt_0 rfl ?_
  refine g_aload_n dX7_byteAt_1 rfl ?_
  refine f_X7_88 rfl rfl dX7_byteAt_2 ?_
  refine g_topi (fun x1 ex1 => ?_)
  have rx1 : 0 ≤ x1 ∧ x1 ≤ 160 := by rw [ex1]; exact iv_at hu _ _ rfl
  have s2 : u.1 60 13 = x1 := ex1.symm
  refine g_icmp_ge (tgt := 17) dX7_byteAt_5 (by decide) (fun c3 => ?_) (fun c3 => ?_)
  · refine g_iconst (v := (-1)) dX7_byteAt_17 (by decide) ?_
    exact g_iret (ty := .int) dX7_byteAt_18 rfl rfl ⟨⟨_, rfl, by first | trivial | lia | grind⟩, rfl⟩
  · refine g_aload_n dX7_byteAt_8 rfl ?_
    refine f_X7_35 rfl rfl dX7_byteAt_9 ?_
    refine g_iload_n dX7_byteAt_12 rfl ?_
    have v4 : vp_in p 160 := uk_vin 160 rfl (by first | decide | lia | grind) (by first | decide | lia | grind)
    refine g_iald rfl rfl v4 dX7_byteAt_13 ?_
    refine g_topi (fun x5 ex5 => ?_)
    have bx5 := uk_cl v4
    have rx5 : 0 ≤ x5 ∧ x5 ≤ 127 := by rw [ex5]; exact iv_at hu _ _ (uk_pick1 _ (by omega))
    refine g_goto (tgt := 18) dX7_byteAt_14 (by decide) ?_
    exact g_iret (ty := .int) dX7_byteAt_18 rfl rfl ⟨⟨_, rfl, by first | trivial | lia | grind⟩, rfl⟩
abbrev q_X7_is (u : uk_Mem) (n : Int32) (a : Int32) (b : Int32) (c : Int32) (r : Option Value) (u' : uk_Mem) : Prop := (∃ x : Int32, r = some (.int x) ∧ (x = 0 ∨ x = 1) ∧ (¬ x = 0 → u.1 60 14 - u.1 60 15 = n) ∧ (x = 0 → True)) ∧ (u' = u)
set_option maxHeartbeats 4000000 in
set_option maxRecDepth 20000 in
theorem c_X7_is {G : uk_D} (hs : uk_Sep G) {u : uk_Mem} (hu : iv u) (n : Int32) (a : Int32) (b : Int32) (c : Int32) (d : Nat) : uk_Meth G (d + 1) mX7_is [.ref (uk_ad G 60), .int n, .int a, .int b, .int c] u (q_X7_is u n a b c) := by
  refine uk_Meth.of hs (by decide) (Nat.le_of_ble_eq_true rfl) (fun X => ?_)
  refine g_aload_n dX7_is_0 rfl ?_
  refine f_X7_100 rfl rfl dX7_is_1 ?_
  refine g_topi (fun x1 ex1 => ?_)
  have rx1 : 0 ≤ x1 ∧ x1 ≤ 160 := by rw [ex1]; exact iv_at hu _ _ rfl
  have s2 : u.1 60 14 = x1 := ex1.symm
  refine g_aload_n dX7_is_4 rfl ?_
  refine f_X7_94 rfl rfl dX7_is_5 ?_
  refine g_topi (fun x3 ex3 => ?_)
  have rx3 : 0 ≤ x3 ∧ x3 ≤ 160 := by rw [ex3]; exact iv_at hu _ _ rfl
  have s4 : u.1 60 15 = x3 := ex3.symm
  refine g_isub dX7_is_8 ?_
  refine g_topi (fun x5 ex5 => ?_)
  refine g_iload_n dX7_is_9 rfl ?_
  refine g_icmp_ne (tgt := 58) dX7_is_10 (by decide) (fun c6 => ?_) (fun c6 => ?_)
  · refine g_iconst (v := 0) dX7_is_58 (by decide) ?_
    exact g_iret (ty := .boolean) dX7_is_59 rfl rfl ⟨⟨0, rfl, Or.inl rfl, fun q => absurd rfl q, fun _ => by first | trivial | lia | grind⟩, rfl⟩
  · refine g_aload_n dX7_is_13 rfl ?_
    refine g_aload_n dX7_is_14 rfl ?_
    refine f_X7_94 rfl rfl dX7_is_15 ?_
    refine g_topi (fun x7 ex7 => ?_)
    have rx7 : 0 ≤ x7 ∧ x7 ≤ 160 := by rw [ex7]; exact iv_at hu _ _ rfl
    have qx7 : x7 = x3 := by rw [ex7]; exact s4
    refine cl_X7_103 (c := 60) (As := [.int x7]) rfl (c_X7_byteAt (G := G) hs hu  x7 (by first | trivial | decide | lia | grind) (d)) rfl (by omega) rfl rfl (Nat.le_of_ble_eq_true rfl) dX7_is_18 (fun r8 u9 q10 => ?_)
    obtain ⟨⟨x11, rfl, tx11⟩, mq10⟩ := q10
    rw [mq10]
    refine g_iload_n dX7_is_21 rfl ?_
    refine g_icmp_ne (tgt := 58) dX7_is_22 (by decide) (fun c12 => ?_) (fun c12 => ?_)
    · refine g_iconst (v := 0) dX7_is_58 (by decide) ?_
      exact g_iret (ty := .boolean) dX7_is_59 rfl rfl ⟨⟨0, rfl, Or.inl rfl, fun q => absurd rfl q, fun _ => by first | trivial | lia | grind⟩, rfl⟩
    · refine g_aload_n dX7_is_25 rfl ?_
      refine g_aload_n dX7_is_26 rfl ?_
      refine f_X7_94 rfl rfl dX7_is_27 ?_
      refine g_topi (fun x13 ex13 => ?_)
      have rx13 : 0 ≤ x13 ∧ x13 ≤ 160 := by rw [ex13]; exact iv_at hu _ _ rfl
      have qx13 : x13 = x3 := by rw [ex13]; exact s4
      refine g_iconst (v := 1) dX7_is_30 (by decide) ?_
      refine g_iadd dX7_is_31 ?_
      refine g_topi (fun x14 ex14 => ?_)
      refine cl_X7_103 (c := 60) (As := [.int x14]) rfl (c_X7_byteAt (G := G) hs hu  x14 (by first | trivial | decide | lia | grind) (d)) rfl (by omega) rfl rfl (Nat.le_of_ble_eq_true rfl) dX7_is_32 (fun r15 u16 q17 => ?_)
      obtain ⟨⟨x18, rfl, tx18⟩, mq17⟩ := q17
      rw [mq17]
      refine g_iload_n dX7_is_35 rfl ?_
      refine g_icmp_ne (tgt := 58) dX7_is_36 (by decide) (fun c19 => ?_) (fun c19 => ?_)
      · refine g_iconst (v := 0) dX7_is_58 (by decide) ?_
        exact g_iret (ty := .boolean) dX7_is_59 rfl rfl ⟨⟨0, rfl, Or.inl rfl, fun q => absurd rfl q, fun _ => by first | trivial | lia | grind⟩, rfl⟩
      · refine g_aload_n dX7_is_39 rfl ?_
        refine g_aload_n dX7_is_40 rfl ?_
        refine f_X7_94 rfl rfl dX7_is_41 ?_
        refine g_topi (fun x20 ex20 => ?_)
        have rx20 : 0 ≤ x20 ∧ x20 ≤ 160 := by rw [ex20]; exact iv_at hu _ _ rfl
        have qx20 : x20 = x3 := by rw [ex20]; exact s4
        refine g_iconst (v := 2) dX7_is_44 (by decide) ?_
        refine g_iadd dX7_is_45 ?_
        refine g_topi (fun x21 ex21 => ?_)
        refine cl_X7_103 (c := 60) (As := [.int x21]) rfl (c_X7_byteAt (G := G) hs hu  x21 (by first | trivial | decide | lia | grind) (d)) rfl (by omega) rfl rfl (Nat.le_of_ble_eq_true rfl) dX7_is_46 (fun r22 u23 q24 => ?_)
        obtain ⟨⟨x25, rfl, tx25⟩, mq24⟩ := q24
        rw [mq24]
        refine g_iload dX7_is_49 rfl ?_
        refine g_icmp_ne (tgt := 58) dX7_is_51 (by decide) (fun c26 => ?_) (fun c26 => ?_)
        · refine g_iconst (v := 0) dX7_is_58 (by decide) ?_
          exact g_iret (ty := .boolean) dX7_is_59 rfl rfl ⟨⟨0, rfl, Or.inl rfl, fun q => absurd rfl q, fun _ => by first | trivial | lia | grind⟩, rfl⟩
        · refine g_iconst (v := 1) dX7_is_54 (by decide) ?_
          refine g_goto (tgt := 59) dX7_is_55 (by decide) ?_
          exact g_iret (ty := .boolean) dX7_is_59 rfl rfl ⟨⟨1, rfl, Or.inr rfl, fun _ => by first | trivial | lia | grind, fun q => absurd q (by decide)⟩, rfl⟩
abbrev q_X7_lineNow (u : uk_Mem)  (r : Option Value) (u' : uk_Mem) : Prop := (∃ x : Int32, r = some (.int x) ∧ (¬ x = -4 → u.1 60 15 + 3 ≤ u.1 60 14)) ∧ (u' = u)
set_option maxHeartbeats 4000000 in
set_option maxRecDepth 20000 in
theorem c_X7_lineNow {G : uk_D} (hs : uk_Sep G) {u : uk_Mem} (hu : iv u)  (d : Nat) : uk_Meth G (d + 2) mX7_lineNow [.ref (uk_ad G 60)] u (q_X7_lineNow u) := by
  refine uk_Meth.of hs (by decide) (Nat.le_of_ble_eq_true rfl) (fun X => ?_)
  refine g_aload_n dX7_lineNow_0 rfl ?_
  refine g_iconst (v := 3) dX7_lineNow_1 (by decide) ?_
  refine g_bipush (v := 109) dX7_lineNow_2 (by decide) ?_
  refine g_bipush (v := 105) dX7_lineNow_4 (by decide) ?_
  refine g_bipush (v := 120) dX7_lineNow_6 (by decide) ?_
  refine cl_X7_107 (c := 60) (As := [.int 3, .int 109, .int 105, .int 120]) rfl (c_X7_is (G := G) hs hu  3 109 105 120  (d)) rfl (by omega) rfl rfl (Nat.le_of_ble_eq_true rfl) dX7_lineNow_8 (fun r1 u2 q3 => ?_)
  obtain ⟨⟨x4, rfl, tx4, nx4, zx4⟩, mq3⟩ := q3
  rw [mq3]
  refine g_if_eq (tgt := 16) dX7_lineNow_11 (by decide) (fun c5 => ?_) (fun c5 => ?_)
  · have zc5 := zx4 c5
    refine g_aload_n dX7_lineNow_16 rfl ?_
    refine g_iconst (v := 4) dX7_lineNow_17 (by decide) ?_
    refine g_bipush (v := 98) dX7_lineNow_18 (by decide) ?_
    refine g_bipush (v := 111) dX7_lineNow_20 (by decide) ?_
    refine g_bipush (v := 105) dX7_lineNow_22 (by decide) ?_
    refine cl_X7_107 (c := 60) (As := [.int 4, .int 98, .int 111, .int 105]) rfl (c_X7_is (G := G) hs hu  4 98 111 105  (d)) rfl (by omega) rfl rfl (Nat.le_of_ble_eq_true rfl) dX7_lineNow_24 (fun r6 u7 q8 => ?_)
    obtain ⟨⟨x9, rfl, tx9, nx9, zx9⟩, mq8⟩ := q8
    rw [mq8]
    refine g_if_eq (tgt := 47) dX7_lineNow_27 (by decide) (fun c10 => ?_) (fun c10 => ?_)
    · have zc10 := zx9 c10
      refine g_aload_n dX7_lineNow_47 rfl ?_
      refine g_iconst (v := 4) dX7_lineNow_48 (by decide) ?_
      refine g_bipush (v := 98) dX7_lineNow_49 (by decide) ?_
      refine g_bipush (v := 117) dX7_lineNow_51 (by decide) ?_
      refine g_bipush (v := 114) dX7_lineNow_53 (by decide) ?_
      refine cl_X7_107 (c := 60) (As := [.int 4, .int 98, .int 117, .int 114]) rfl (c_X7_is (G := G) hs hu  4 98 117 114  (d)) rfl (by omega) rfl rfl (Nat.le_of_ble_eq_true rfl) dX7_lineNow_55 (fun r11 u12 q13 => ?_)
      obtain ⟨⟨x14, rfl, tx14, nx14, zx14⟩, mq13⟩ := q13
      rw [mq13]
      refine g_if_eq (tgt := 78) dX7_lineNow_58 (by decide) (fun c15 => ?_) (fun c15 => ?_)
      · have zc15 := zx14 c15
        refine g_aload_n dX7_lineNow_78 rfl ?_
        refine g_iconst (v := 4) dX7_lineNow_79 (by decide) ?_
        refine g_bipush (v := 115) dX7_lineNow_80 (by decide) ?_
        refine g_bipush (v := 97) dX7_lineNow_82 (by decide) ?_
        refine g_bipush (v := 108) dX7_lineNow_84 (by decide) ?_
        refine cl_X7_107 (c := 60) (As := [.int 4, .int 115, .int 97, .int 108]) rfl (c_X7_is (G := G) hs hu  4 115 97 108  (d)) rfl (by omega) rfl rfl (Nat.le_of_ble_eq_true rfl) dX7_lineNow_86 (fun r16 u17 q18 => ?_)
        obtain ⟨⟨x19, rfl, tx19, nx19, zx19⟩, mq18⟩ := q18
        rw [mq18]
        refine g_if_eq (tgt := 109) dX7_lineNow_89 (by decide) (fun c20 => ?_) (fun c20 => ?_)
        · have zc20 := zx19 c20
          refine g_aload_n dX7_lineNow_109 rfl ?_
          refine g_iconst (v := 3) dX7_lineNow_110 (by decide) ?_
          refine g_bipush (v := 114) dX7_lineNow_111 (by decide) ?_
          refine g_bipush (v := 97) dX7_lineNow_113 (by decide) ?_
          refine g_bipush (v := 119) dX7_lineNow_115 (by decide) ?_
          refine cl_X7_107 (c := 60) (As := [.int 3, .int 114, .int 97, .int 119]) rfl (c_X7_is (G := G) hs hu  3 114 97 119  (d)) rfl (by omega) rfl rfl (Nat.le_of_ble_eq_true rfl) dX7_lineNow_117 (fun r21 u22 q23 => ?_)
          obtain ⟨⟨x24, rfl, tx24, nx24, zx24⟩, mq23⟩ := q23
          rw [mq23]
          refine g_if_eq (tgt := 127) dX7_lineNow_120 (by decide) (fun c25 => ?_) (fun c25 => ?_)
          · have zc25 := zx24 c25
            refine g_aload_n dX7_lineNow_127 rfl ?_
            refine g_iconst (v := 4) dX7_lineNow_128 (by decide) ?_
            refine g_bipush (v := 104) dX7_lineNow_129 (by decide) ?_
            refine g_bipush (v := 97) dX7_lineNow_131 (by decide) ?_
            refine g_bipush (v := 118) dX7_lineNow_133 (by decide) ?_
            refine cl_X7_107 (c := 60) (As := [.int 4, .int 104, .int 97, .int 118]) rfl (c_X7_is (G := G) hs hu  4 104 97 118  (d)) rfl (by omega) rfl rfl (Nat.le_of_ble_eq_true rfl) dX7_lineNow_135 (fun r26 u27 q28 => ?_)
            obtain ⟨⟨x29, rfl, tx29, nx29, zx29⟩, mq28⟩ := q28
            rw [mq28]
            refine g_if_eq (tgt := 160) dX7_lineNow_138 (by decide) (fun c30 => ?_) (fun c30 => ?_)
            · have zc30 := zx29 c30
              refine g_bipush (v := (-4)) dX7_lineNow_160 (by decide) ?_
              exact g_iret (ty := .int) dX7_lineNow_162 rfl rfl ⟨⟨_, rfl, by first | trivial | lia | grind⟩, rfl⟩
            · have zc30 := nx29 c30
              refine g_aload_n dX7_lineNow_141 rfl ?_
              refine g_aload_n dX7_lineNow_142 rfl ?_
              refine f_X7_94 rfl rfl dX7_lineNow_143 ?_
              refine g_topi (fun x31 ex31 => ?_)
              have rx31 : 0 ≤ x31 ∧ x31 ≤ 160 := by rw [ex31]; exact iv_at hu _ _ rfl
              have s32 : u.1 60 15 = x31 := ex31.symm
              refine g_iconst (v := 3) dX7_lineNow_146 (by decide) ?_
              refine g_iadd dX7_lineNow_147 ?_
              refine g_topi (fun x33 ex33 => ?_)
              refine cl_X7_103 (c := 60) (As := [.int x33]) rfl (c_X7_byteAt (G := G) hs hu  x33 (by first | trivial | decide | lia | grind) (d + 1)) rfl (by omega) rfl rfl (Nat.le_of_ble_eq_true rfl) dX7_lineNow_148 (fun r34 u35 q36 => ?_)
              obtain ⟨⟨x37, rfl, tx37⟩, mq36⟩ := q36
              rw [mq36]
              refine g_bipush (v := 101) dX7_lineNow_151 (by decide) ?_
              refine g_icmp_ne (tgt := 160) dX7_lineNow_153 (by decide) (fun c38 => ?_) (fun c38 => ?_)
              · refine g_bipush (v := (-4)) dX7_lineNow_160 (by decide) ?_
                exact g_iret (ty := .int) dX7_lineNow_162 rfl rfl ⟨⟨_, rfl, by first | trivial | lia | grind⟩, rfl⟩
              · refine g_iconst (v := 5) dX7_lineNow_156 (by decide) ?_
                refine g_goto (tgt := 162) dX7_lineNow_157 (by decide) ?_
                exact g_iret (ty := .int) dX7_lineNow_162 rfl rfl ⟨⟨_, rfl, by first | trivial | lia | grind⟩, rfl⟩
          · have zc25 := nx24 c25
            refine g_iconst (v := 4) dX7_lineNow_123 (by decide) ?_
            refine g_goto (tgt := 162) dX7_lineNow_124 (by decide) ?_
            exact g_iret (ty := .int) dX7_lineNow_162 rfl rfl ⟨⟨_, rfl, by first | trivial | lia | grind⟩, rfl⟩
        · have zc20 := nx19 c20
          refine g_aload_n dX7_lineNow_92 rfl ?_
          refine g_aload_n dX7_lineNow_93 rfl ?_
          refine f_X7_94 rfl rfl dX7_lineNow_94 ?_
          refine g_topi (fun x39 ex39 => ?_)
          have rx39 : 0 ≤ x39 ∧ x39 ≤ 160 := by rw [ex39]; exact iv_at hu _ _ rfl
          have s40 : u.1 60 15 = x39 := ex39.symm
          refine g_iconst (v := 3) dX7_lineNow_97 (by decide) ?_
          refine g_iadd dX7_lineNow_98 ?_
          refine g_topi (fun x41 ex41 => ?_)
          refine cl_X7_103 (c := 60) (As := [.int x41]) rfl (c_X7_byteAt (G := G) hs hu  x41 (by first | trivial | decide | lia | grind) (d + 1)) rfl (by omega) rfl rfl (Nat.le_of_ble_eq_true rfl) dX7_lineNow_99 (fun r42 u43 q44 => ?_)
          obtain ⟨⟨x45, rfl, tx45⟩, mq44⟩ := q44
          rw [mq44]
          refine g_bipush (v := 116) dX7_lineNow_102 (by decide) ?_
          refine g_icmp_ne (tgt := 109) dX7_lineNow_104 (by decide) (fun c46 => ?_) (fun c46 => ?_)
          · refine g_aload_n dX7_lineNow_109 rfl ?_
            refine g_iconst (v := 3) dX7_lineNow_110 (by decide) ?_
            refine g_bipush (v := 114) dX7_lineNow_111 (by decide) ?_
            refine g_bipush (v := 97) dX7_lineNow_113 (by decide) ?_
            refine g_bipush (v := 119) dX7_lineNow_115 (by decide) ?_
            refine cl_X7_107 (c := 60) (As := [.int 3, .int 114, .int 97, .int 119]) rfl (c_X7_is (G := G) hs hu  3 114 97 119  (d)) rfl (by omega) rfl rfl (Nat.le_of_ble_eq_true rfl) dX7_lineNow_117 (fun r47 u48 q49 => ?_)
            obtain ⟨⟨x50, rfl, tx50, nx50, zx50⟩, mq49⟩ := q49
            rw [mq49]
            refine g_if_eq (tgt := 127) dX7_lineNow_120 (by decide) (fun c51 => ?_) (fun c51 => ?_)
            · have zc51 := zx50 c51
              refine g_aload_n dX7_lineNow_127 rfl ?_
              refine g_iconst (v := 4) dX7_lineNow_128 (by decide) ?_
              refine g_bipush (v := 104) dX7_lineNow_129 (by decide) ?_
              refine g_bipush (v := 97) dX7_lineNow_131 (by decide) ?_
              refine g_bipush (v := 118) dX7_lineNow_133 (by decide) ?_
              refine cl_X7_107 (c := 60) (As := [.int 4, .int 104, .int 97, .int 118]) rfl (c_X7_is (G := G) hs hu  4 104 97 118  (d)) rfl (by omega) rfl rfl (Nat.le_of_ble_eq_true rfl) dX7_lineNow_135 (fun r52 u53 q54 => ?_)
              obtain ⟨⟨x55, rfl, tx55, nx55, zx55⟩, mq54⟩ := q54
              rw [mq54]
              refine g_if_eq (tgt := 160) dX7_lineNow_138 (by decide) (fun c56 => ?_) (fun c56 => ?_)
              · have zc56 := zx55 c56
                refine g_bipush (v := (-4)) dX7_lineNow_160 (by decide) ?_
                exact g_iret (ty := .int) dX7_lineNow_162 rfl rfl ⟨⟨_, rfl, by first | trivial | lia | grind⟩, rfl⟩
              · have zc56 := nx55 c56
                refine g_aload_n dX7_lineNow_141 rfl ?_
                refine g_aload_n dX7_lineNow_142 rfl ?_
                refine f_X7_94 rfl rfl dX7_lineNow_143 ?_
                refine g_topi (fun x57 ex57 => ?_)
                have rx57 : 0 ≤ x57 ∧ x57 ≤ 160 := by rw [ex57]; exact iv_at hu _ _ rfl
                have qx57 : x57 = x39 := by rw [ex57]; exact s40
                refine g_iconst (v := 3) dX7_lineNow_146 (by decide) ?_
                refine g_iadd dX7_lineNow_147 ?_
                refine g_topi (fun x58 ex58 => ?_)
                refine cl_X7_103 (c := 60) (As := [.int x58]) rfl (c_X7_byteAt (G := G) hs hu  x58 (by first | trivial | decide | lia | grind) (d + 1)) rfl (by omega) rfl rfl (Nat.le_of_ble_eq_true rfl) dX7_lineNow_148 (fun r59 u60 q61 => ?_)
                obtain ⟨⟨x62, rfl, tx62⟩, mq61⟩ := q61
                rw [mq61]
                refine g_bipush (v := 101) dX7_lineNow_151 (by decide) ?_
                refine g_icmp_ne (tgt := 160) dX7_lineNow_153 (by decide) (fun c63 => ?_) (fun c63 => ?_)
                · refine g_bipush (v := (-4)) dX7_lineNow_160 (by decide) ?_
                  exact g_iret (ty := .int) dX7_lineNow_162 rfl rfl ⟨⟨_, rfl, by first | trivial | lia | grind⟩, rfl⟩
                · refine g_iconst (v := 5) dX7_lineNow_156 (by decide) ?_
                  refine g_goto (tgt := 162) dX7_lineNow_157 (by decide) ?_
                  exact g_iret (ty := .int) dX7_lineNow_162 rfl rfl ⟨⟨_, rfl, by first | trivial | lia | grind⟩, rfl⟩
            · have zc51 := nx50 c51
              refine g_iconst (v := 4) dX7_lineNow_123 (by decide) ?_
              refine g_goto (tgt := 162) dX7_lineNow_124 (by decide) ?_
              exact g_iret (ty := .int) dX7_lineNow_162 rfl rfl ⟨⟨_, rfl, by first | trivial | lia | grind⟩, rfl⟩
          · refine g_iconst (v := 3) dX7_lineNow_107 (by decide) ?_
            exact g_iret (ty := .int) dX7_lineNow_108 rfl rfl ⟨⟨_, rfl, by first | trivial | lia | grind⟩, rfl⟩
      · have zc15 := nx14 c15
        refine g_aload_n dX7_lineNow_61 rfl ?_
        refine g_aload_n dX7_lineNow_62 rfl ?_
        refine f_X7_94 rfl rfl dX7_lineNow_63 ?_
        refine g_topi (fun x64 ex64 => ?_)
        have rx64 : 0 ≤ x64 ∧ x64 ≤ 160 := by rw [ex64]; exact iv_at hu _ _ rfl
        have s65 : u.1 60 15 = x64 := ex64.symm
        refine g_iconst (v := 3) dX7_lineNow_66 (by decide) ?_
        refine g_iadd dX7_lineNow_67 ?_
        refine g_topi (fun x66 ex66 => ?_)
        refine cl_X7_103 (c := 60) (As := [.int x66]) rfl (c_X7_byteAt (G := G) hs hu  x66 (by first | trivial | decide | lia | grind) (d + 1)) rfl (by omega) rfl rfl (Nat.le_of_ble_eq_true rfl) dX7_lineNow_68 (fun r67 u68 q69 => ?_)
        obtain ⟨⟨x70, rfl, tx70⟩, mq69⟩ := q69
        rw [mq69]
        refine g_bipush (v := 110) dX7_lineNow_71 (by decide) ?_
        refine g_icmp_ne (tgt := 78) dX7_lineNow_73 (by decide) (fun c71 => ?_) (fun c71 => ?_)
        · refine g_aload_n dX7_lineNow_78 rfl ?_
          refine g_iconst (v := 4) dX7_lineNow_79 (by decide) ?_
          refine g_bipush (v := 115) dX7_lineNow_80 (by decide) ?_
          refine g_bipush (v := 97) dX7_lineNow_82 (by decide) ?_
          refine g_bipush (v := 108) dX7_lineNow_84 (by decide) ?_
          refine cl_X7_107 (c := 60) (As := [.int 4, .int 115, .int 97, .int 108]) rfl (c_X7_is (G := G) hs hu  4 115 97 108  (d)) rfl (by omega) rfl rfl (Nat.le_of_ble_eq_true rfl) dX7_lineNow_86 (fun r72 u73 q74 => ?_)
          obtain ⟨⟨x75, rfl, tx75, nx75, zx75⟩, mq74⟩ := q74
          rw [mq74]
          refine g_if_eq (tgt := 109) dX7_lineNow_89 (by decide) (fun c76 => ?_) (fun c76 => ?_)
          · have zc76 := zx75 c76
            refine g_aload_n dX7_lineNow_109 rfl ?_
            refine g_iconst (v := 3) dX7_lineNow_110 (by decide) ?_
            refine g_bipush (v := 114) dX7_lineNow_111 (by decide) ?_
            refine g_bipush (v := 97) dX7_lineNow_113 (by decide) ?_
            refine g_bipush (v := 119) dX7_lineNow_115 (by decide) ?_
            refine cl_X7_107 (c := 60) (As := [.int 3, .int 114, .int 97, .int 119]) rfl (c_X7_is (G := G) hs hu  3 114 97 119  (d)) rfl (by omega) rfl rfl (Nat.le_of_ble_eq_true rfl) dX7_lineNow_117 (fun r77 u78 q79 => ?_)
            obtain ⟨⟨x80, rfl, tx80, nx80, zx80⟩, mq79⟩ := q79
            rw [mq79]
            refine g_if_eq (tgt := 127) dX7_lineNow_120 (by decide) (fun c81 => ?_) (fun c81 => ?_)
            · have zc81 := zx80 c81
              refine g_aload_n dX7_lineNow_127 rfl ?_
              refine g_iconst (v := 4) dX7_lineNow_128 (by decide) ?_
              refine g_bipush (v := 104) dX7_lineNow_129 (by decide) ?_
              refine g_bipush (v := 97) dX7_lineNow_131 (by decide) ?_
              refine g_bipush (v := 118) dX7_lineNow_133 (by decide) ?_
              refine cl_X7_107 (c := 60) (As := [.int 4, .int 104, .int 97, .int 118]) rfl (c_X7_is (G := G) hs hu  4 104 97 118  (d)) rfl (by omega) rfl rfl (Nat.le_of_ble_eq_true rfl) dX7_lineNow_135 (fun r82 u83 q84 => ?_)
              obtain ⟨⟨x85, rfl, tx85, nx85, zx85⟩, mq84⟩ := q84
              rw [mq84]
              refine g_if_eq (tgt := 160) dX7_lineNow_138 (by decide) (fun c86 => ?_) (fun c86 => ?_)
              · have zc86 := zx85 c86
                refine g_bipush (v := (-4)) dX7_lineNow_160 (by decide) ?_
                exact g_iret (ty := .int) dX7_lineNow_162 rfl rfl ⟨⟨_, rfl, by first | trivial | lia | grind⟩, rfl⟩
              · have zc86 := nx85 c86
                refine g_aload_n dX7_lineNow_141 rfl ?_
                refine g_aload_n dX7_lineNow_142 rfl ?_
                refine f_X7_94 rfl rfl dX7_lineNow_143 ?_
                refine g_topi (fun x87 ex87 => ?_)
                have rx87 : 0 ≤ x87 ∧ x87 ≤ 160 := by rw [ex87]; exact iv_at hu _ _ rfl
                have qx87 : x87 = x64 := by rw [ex87]; exact s65
                refine g_iconst (v := 3) dX7_lineNow_146 (by decide) ?_
                refine g_iadd dX7_lineNow_147 ?_
                refine g_topi (fun x88 ex88 => ?_)
                refine cl_X7_103 (c := 60) (As := [.int x88]) rfl (c_X7_byteAt (G := G) hs hu  x88 (by first | trivial | decide | lia | grind) (d + 1)) rfl (by omega) rfl rfl (Nat.le_of_ble_eq_true rfl) dX7_lineNow_148 (fun r89 u90 q91 => ?_)
                obtain ⟨⟨x92, rfl, tx92⟩, mq91⟩ := q91
                rw [mq91]
                refine g_bipush (v := 101) dX7_lineNow_151 (by decide) ?_
                refine g_icmp_ne (tgt := 160) dX7_lineNow_153 (by decide) (fun c93 => ?_) (fun c93 => ?_)
                · refine g_bipush (v := (-4)) dX7_lineNow_160 (by decide) ?_
                  exact g_iret (ty := .int) dX7_lineNow_162 rfl rfl ⟨⟨_, rfl, by first | trivial | lia | grind⟩, rfl⟩
                · refine g_iconst (v := 5) dX7_lineNow_156 (by decide) ?_
                  refine g_goto (tgt := 162) dX7_lineNow_157 (by decide) ?_
                  exact g_iret (ty := .int) dX7_lineNow_162 rfl rfl ⟨⟨_, rfl, by first | trivial | lia | grind⟩, rfl⟩
            · have zc81 := nx80 c81
              refine g_iconst (v := 4) dX7_lineNow_123 (by decide) ?_
              refine g_goto (tgt := 162) dX7_lineNow_124 (by decide) ?_
              exact g_iret (ty := .int) dX7_lineNow_162 rfl rfl ⟨⟨_, rfl, by first | trivial | lia | grind⟩, rfl⟩
          · have zc76 := nx75 c76
            refine g_aload_n dX7_lineNow_92 rfl ?_
            refine g_aload_n dX7_lineNow_93 rfl ?_
            refine f_X7_94 rfl rfl dX7_lineNow_94 ?_
            refine g_topi (fun x94 ex94 => ?_)
            have rx94 : 0 ≤ x94 ∧ x94 ≤ 160 := by rw [ex94]; exact iv_at hu _ _ rfl
            have qx94 : x94 = x64 := by rw [ex94]; exact s65
            refine g_iconst (v := 3) dX7_lineNow_97 (by decide) ?_
            refine g_iadd dX7_lineNow_98 ?_
            refine g_topi (fun x95 ex95 => ?_)
            refine cl_X7_103 (c := 60) (As := [.int x95]) rfl (c_X7_byteAt (G := G) hs hu  x95 (by first | trivial | decide | lia | grind) (d + 1)) rfl (by omega) rfl rfl (Nat.le_of_ble_eq_true rfl) dX7_lineNow_99 (fun r96 u97 q98 => ?_)
            obtain ⟨⟨x99, rfl, tx99⟩, mq98⟩ := q98
            rw [mq98]
            refine g_bipush (v := 116) dX7_lineNow_102 (by decide) ?_
            refine g_icmp_ne (tgt := 109) dX7_lineNow_104 (by decide) (fun c100 => ?_) (fun c100 => ?_)
            · refine g_aload_n dX7_lineNow_109 rfl ?_
              refine g_iconst (v := 3) dX7_lineNow_110 (by decide) ?_
              refine g_bipush (v := 114) dX7_lineNow_111 (by decide) ?_
              refine g_bipush (v := 97) dX7_lineNow_113 (by decide) ?_
              refine g_bipush (v := 119) dX7_lineNow_115 (by decide) ?_
              refine cl_X7_107 (c := 60) (As := [.int 3, .int 114, .int 97, .int 119]) rfl (c_X7_is (G := G) hs hu  3 114 97 119  (d)) rfl (by omega) rfl rfl (Nat.le_of_ble_eq_true rfl) dX7_lineNow_117 (fun r101 u102 q103 => ?_)
              obtain ⟨⟨x104, rfl, tx104, nx104, zx104⟩, mq103⟩ := q103
              rw [mq103]
              refine g_if_eq (tgt := 127) dX7_lineNow_120 (by decide) (fun c105 => ?_) (fun c105 => ?_)
              · have zc105 := zx104 c105
                refine g_aload_n dX7_lineNow_127 rfl ?_
                refine g_iconst (v := 4) dX7_lineNow_128 (by decide) ?_
                refine g_bipush (v := 104) dX7_lineNow_129 (by decide) ?_
                refine g_bipush (v := 97) dX7_lineNow_131 (by decide) ?_
                refine g_bipush (v := 118) dX7_lineNow_133 (by decide) ?_
                refine cl_X7_107 (c := 60) (As := [.int 4, .int 104, .int 97, .int 118]) rfl (c_X7_is (G := G) hs hu  4 104 97 118  (d)) rfl (by omega) rfl rfl (Nat.le_of_ble_eq_true rfl) dX7_lineNow_135 (fun r106 u107 q108 => ?_)
                obtain ⟨⟨x109, rfl, tx109, nx109, zx109⟩, mq108⟩ := q108
                rw [mq108]
                refine g_if_eq (tgt := 160) dX7_lineNow_138 (by decide) (fun c110 => ?_) (fun c110 => ?_)
                · have zc110 := zx109 c110
                  refine g_bipush (v := (-4)) dX7_lineNow_160 (by decide) ?_
                  exact g_iret (ty := .int) dX7_lineNow_162 rfl rfl ⟨⟨_, rfl, by first | trivial | lia | grind⟩, rfl⟩
                · have zc110 := nx109 c110
                  refine g_aload_n dX7_lineNow_141 rfl ?_
                  refine g_aload_n dX7_lineNow_142 rfl ?_
                  refine f_X7_94 rfl rfl dX7_lineNow_143 ?_
                  refine g_topi (fun x111 ex111 => ?_)
                  have rx111 : 0 ≤ x111 ∧ x111 ≤ 160 := by rw [ex111]; exact iv_at hu _ _ rfl
                  have qx111 : x111 = x64 := by rw [ex111]; exact s65
                  refine g_iconst (v := 3) dX7_lineNow_146 (by decide) ?_
                  refine g_iadd dX7_lineNow_147 ?_
                  refine g_topi (fun x112 ex112 => ?_)
                  refine cl_X7_103 (c := 60) (As := [.int x112]) rfl (c_X7_byteAt (G := G) hs hu  x112 (by first | trivial | decide | lia | grind) (d + 1)) rfl (by omega) rfl rfl (Nat.le_of_ble_eq_true rfl) dX7_lineNow_148 (fun r113 u114 q115 => ?_)
                  obtain ⟨⟨x116, rfl, tx116⟩, mq115⟩ := q115
                  rw [mq115]
                  refine g_bipush (v := 101) dX7_lineNow_151 (by decide) ?_
                  refine g_icmp_ne (tgt := 160) dX7_lineNow_153 (by decide) (fun c117 => ?_) (fun c117 => ?_)
                  · refine g_bipush (v := (-4)) dX7_lineNow_160 (by decide) ?_
                    exact g_iret (ty := .int) dX7_lineNow_162 rfl rfl ⟨⟨_, rfl, by first | trivial | lia | grind⟩, rfl⟩
                  · refine g_iconst (v := 5) dX7_lineNow_156 (by decide) ?_
                    refine g_goto (tgt := 162) dX7_lineNow_157 (by decide) ?_
                    exact g_iret (ty := .int) dX7_lineNow_162 rfl rfl ⟨⟨_, rfl, by first | trivial | lia | grind⟩, rfl⟩
              · have zc105 := nx104 c105
                refine g_iconst (v := 4) dX7_lineNow_123 (by decide) ?_
                refine g_goto (tgt := 162) dX7_lineNow_124 (by decide) ?_
                exact g_iret (ty := .int) dX7_lineNow_162 rfl rfl ⟨⟨_, rfl, by first | trivial | lia | grind⟩, rfl⟩
            · refine g_iconst (v := 3) dX7_lineNow_107 (by decide) ?_
              exact g_iret (ty := .int) dX7_lineNow_108 rfl rfl ⟨⟨_, rfl, by first | trivial | lia | grind⟩, rfl⟩
        · refine g_iconst (v := 2) dX7_lineNow_76 (by decide) ?_
          exact g_iret (ty := .int) dX7_lineNow_77 rfl rfl ⟨⟨_, rfl, by first | trivial | lia | grind⟩, rfl⟩
    · have zc10 := nx9 c10
      refine g_aload_n dX7_lineNow_30 rfl ?_
      refine g_aload_n dX7_lineNow_31 rfl ?_
      refine f_X7_94 rfl rfl dX7_lineNow_32 ?_
      refine g_topi (fun x118 ex118 => ?_)
      have rx118 : 0 ≤ x118 ∧ x118 ≤ 160 := by rw [ex118]; exact iv_at hu _ _ rfl
      have s119 : u.1 60 15 = x118 := ex118.symm
      refine g_iconst (v := 3) dX7_lineNow_35 (by decide) ?_
      refine g_iadd dX7_lineNow_36 ?_
      refine g_topi (fun x120 ex120 => ?_)
      refine cl_X7_103 (c := 60) (As := [.int x120]) rfl (c_X7_byteAt (G := G) hs hu  x120 (by first | trivial | decide | lia | grind) (d + 1)) rfl (by omega) rfl rfl (Nat.le_of_ble_eq_true rfl) dX7_lineNow_37 (fun r121 u122 q123 => ?_)
      obtain ⟨⟨x124, rfl, tx124⟩, mq123⟩ := q123
      rw [mq123]
      refine g_bipush (v := 108) dX7_lineNow_40 (by decide) ?_
      refine g_icmp_ne (tgt := 47) dX7_lineNow_42 (by decide) (fun c125 => ?_) (fun c125 => ?_)
      · refine g_aload_n dX7_lineNow_47 rfl ?_
        refine g_iconst (v := 4) dX7_lineNow_48 (by decide) ?_
        refine g_bipush (v := 98) dX7_lineNow_49 (by decide) ?_
        refine g_bipush (v := 117) dX7_lineNow_51 (by decide) ?_
        refine g_bipush (v := 114) dX7_lineNow_53 (by decide) ?_
        refine cl_X7_107 (c := 60) (As := [.int 4, .int 98, .int 117, .int 114]) rfl (c_X7_is (G := G) hs hu  4 98 117 114  (d)) rfl (by omega) rfl rfl (Nat.le_of_ble_eq_true rfl) dX7_lineNow_55 (fun r126 u127 q128 => ?_)
        obtain ⟨⟨x129, rfl, tx129, nx129, zx129⟩, mq128⟩ := q128
        rw [mq128]
        refine g_if_eq (tgt := 78) dX7_lineNow_58 (by decide) (fun c130 => ?_) (fun c130 => ?_)
        · have zc130 := zx129 c130
          refine g_aload_n dX7_lineNow_78 rfl ?_
          refine g_iconst (v := 4) dX7_lineNow_79 (by decide) ?_
          refine g_bipush (v := 115) dX7_lineNow_80 (by decide) ?_
          refine g_bipush (v := 97) dX7_lineNow_82 (by decide) ?_
          refine g_bipush (v := 108) dX7_lineNow_84 (by decide) ?_
          refine cl_X7_107 (c := 60) (As := [.int 4, .int 115, .int 97, .int 108]) rfl (c_X7_is (G := G) hs hu  4 115 97 108  (d)) rfl (by omega) rfl rfl (Nat.le_of_ble_eq_true rfl) dX7_lineNow_86 (fun r131 u132 q133 => ?_)
          obtain ⟨⟨x134, rfl, tx134, nx134, zx134⟩, mq133⟩ := q133
          rw [mq133]
          refine g_if_eq (tgt := 109) dX7_lineNow_89 (by decide) (fun c135 => ?_) (fun c135 => ?_)
          · have zc135 := zx134 c135
            refine g_aload_n dX7_lineNow_109 rfl ?_
            refine g_iconst (v := 3) dX7_lineNow_110 (by decide) ?_
            refine g_bipush (v := 114) dX7_lineNow_111 (by decide) ?_
            refine g_bipush (v := 97) dX7_lineNow_113 (by decide) ?_
            refine g_bipush (v := 119) dX7_lineNow_115 (by decide) ?_
            refine cl_X7_107 (c := 60) (As := [.int 3, .int 114, .int 97, .int 119]) rfl (c_X7_is (G := G) hs hu  3 114 97 119  (d)) rfl (by omega) rfl rfl (Nat.le_of_ble_eq_true rfl) dX7_lineNow_117 (fun r136 u137 q138 => ?_)
            obtain ⟨⟨x139, rfl, tx139, nx139, zx139⟩, mq138⟩ := q138
            rw [mq138]
            refine g_if_eq (tgt := 127) dX7_lineNow_120 (by decide) (fun c140 => ?_) (fun c140 => ?_)
            · have zc140 := zx139 c140
              refine g_aload_n dX7_lineNow_127 rfl ?_
              refine g_iconst (v := 4) dX7_lineNow_128 (by decide) ?_
              refine g_bipush (v := 104) dX7_lineNow_129 (by decide) ?_
              refine g_bipush (v := 97) dX7_lineNow_131 (by decide) ?_
              refine g_bipush (v := 118) dX7_lineNow_133 (by decide) ?_
              refine cl_X7_107 (c := 60) (As := [.int 4, .int 104, .int 97, .int 118]) rfl (c_X7_is (G := G) hs hu  4 104 97 118  (d)) rfl (by omega) rfl rfl (Nat.le_of_ble_eq_true rfl) dX7_lineNow_135 (fun r141 u142 q143 => ?_)
              obtain ⟨⟨x144, rfl, tx144, nx144, zx144⟩, mq143⟩ := q143
              rw [mq143]
              refine g_if_eq (tgt := 160) dX7_lineNow_138 (by decide) (fun c145 => ?_) (fun c145 => ?_)
              · have zc145 := zx144 c145
                refine g_bipush (v := (-4)) dX7_lineNow_160 (by decide) ?_
                exact g_iret (ty := .int) dX7_lineNow_162 rfl rfl ⟨⟨_, rfl, by first | trivial | lia | grind⟩, rfl⟩
              · have zc145 := nx144 c145
                refine g_aload_n dX7_lineNow_141 rfl ?_
                refine g_aload_n dX7_lineNow_142 rfl ?_
                refine f_X7_94 rfl rfl dX7_lineNow_143 ?_
                refine g_topi (fun x146 ex146 => ?_)
                have rx146 : 0 ≤ x146 ∧ x146 ≤ 160 := by rw [ex146]; exact iv_at hu _ _ rfl
                have qx146 : x146 = x118 := by rw [ex146]; exact s119
                refine g_iconst (v := 3) dX7_lineNow_146 (by decide) ?_
                refine g_iadd dX7_lineNow_147 ?_
                refine g_topi (fun x147 ex147 => ?_)
                refine cl_X7_103 (c := 60) (As := [.int x147]) rfl (c_X7_byteAt (G := G) hs hu  x147 (by first | trivial | decide | lia | grind) (d + 1)) rfl (by omega) rfl rfl (Nat.le_of_ble_eq_true rfl) dX7_lineNow_148 (fun r148 u149 q150 => ?_)
                obtain ⟨⟨x151, rfl, tx151⟩, mq150⟩ := q150
                rw [mq150]
                refine g_bipush (v := 101) dX7_lineNow_151 (by decide) ?_
                refine g_icmp_ne (tgt := 160) dX7_lineNow_153 (by decide) (fun c152 => ?_) (fun c152 => ?_)
                · refine g_bipush (v := (-4)) dX7_lineNow_160 (by decide) ?_
                  exact g_iret (ty := .int) dX7_lineNow_162 rfl rfl ⟨⟨_, rfl, by first | trivial | lia | grind⟩, rfl⟩
                · refine g_iconst (v := 5) dX7_lineNow_156 (by decide) ?_
                  refine g_goto (tgt := 162) dX7_lineNow_157 (by decide) ?_
                  exact g_iret (ty := .int) dX7_lineNow_162 rfl rfl ⟨⟨_, rfl, by first | trivial | lia | grind⟩, rfl⟩
            · have zc140 := nx139 c140
              refine g_iconst (v := 4) dX7_lineNow_123 (by decide) ?_
              refine g_goto (tgt := 162) dX7_lineNow_124 (by decide) ?_
              exact g_iret (ty := .int) dX7_lineNow_162 rfl rfl ⟨⟨_, rfl, by first | trivial | lia | grind⟩, rfl⟩
          · have zc135 := nx134 c135
            refine g_aload_n dX7_lineNow_92 rfl ?_
            refine g_aload_n dX7_lineNow_93 rfl ?_
            refine f_X7_94 rfl rfl dX7_lineNow_94 ?_
            refine g_topi (fun x153 ex153 => ?_)
            have rx153 : 0 ≤ x153 ∧ x153 ≤ 160 := by rw [ex153]; exact iv_at hu _ _ rfl
            have qx153 : x153 = x118 := by rw [ex153]; exact s119
            refine g_iconst (v := 3) dX7_lineNow_97 (by decide) ?_
            refine g_iadd dX7_lineNow_98 ?_
            refine g_topi (fun x154 ex154 => ?_)
            refine cl_X7_103 (c := 60) (As := [.int x154]) rfl (c_X7_byteAt (G := G) hs hu  x154 (by first | trivial | decide | lia | grind) (d + 1)) rfl (by omega) rfl rfl (Nat.le_of_ble_eq_true rfl) dX7_lineNow_99 (fun r155 u156 q157 => ?_)
            obtain ⟨⟨x158, rfl, tx158⟩, mq157⟩ := q157
            rw [mq157]
            refine g_bipush (v := 116) dX7_lineNow_102 (by decide) ?_
            refine g_icmp_ne (tgt := 109) dX7_lineNow_104 (by decide) (fun c159 => ?_) (fun c159 => ?_)
            · refine g_aload_n dX7_lineNow_109 rfl ?_
              refine g_iconst (v := 3) dX7_lineNow_110 (by decide) ?_
              refine g_bipush (v := 114) dX7_lineNow_111 (by decide) ?_
              refine g_bipush (v := 97) dX7_lineNow_113 (by decide) ?_
              refine g_bipush (v := 119) dX7_lineNow_115 (by decide) ?_
              refine cl_X7_107 (c := 60) (As := [.int 3, .int 114, .int 97, .int 119]) rfl (c_X7_is (G := G) hs hu  3 114 97 119  (d)) rfl (by omega) rfl rfl (Nat.le_of_ble_eq_true rfl) dX7_lineNow_117 (fun r160 u161 q162 => ?_)
              obtain ⟨⟨x163, rfl, tx163, nx163, zx163⟩, mq162⟩ := q162
              rw [mq162]
              refine g_if_eq (tgt := 127) dX7_lineNow_120 (by decide) (fun c164 => ?_) (fun c164 => ?_)
              · have zc164 := zx163 c164
                refine g_aload_n dX7_lineNow_127 rfl ?_
                refine g_iconst (v := 4) dX7_lineNow_128 (by decide) ?_
                refine g_bipush (v := 104) dX7_lineNow_129 (by decide) ?_
                refine g_bipush (v := 97) dX7_lineNow_131 (by decide) ?_
                refine g_bipush (v := 118) dX7_lineNow_133 (by decide) ?_
                refine cl_X7_107 (c := 60) (As := [.int 4, .int 104, .int 97, .int 118]) rfl (c_X7_is (G := G) hs hu  4 104 97 118  (d)) rfl (by omega) rfl rfl (Nat.le_of_ble_eq_true rfl) dX7_lineNow_135 (fun r165 u166 q167 => ?_)
                obtain ⟨⟨x168, rfl, tx168, nx168, zx168⟩, mq167⟩ := q167
                rw [mq167]
                refine g_if_eq (tgt := 160) dX7_lineNow_138 (by decide) (fun c169 => ?_) (fun c169 => ?_)
                · have zc169 := zx168 c169
                  refine g_bipush (v := (-4)) dX7_lineNow_160 (by decide) ?_
                  exact g_iret (ty := .int) dX7_lineNow_162 rfl rfl ⟨⟨_, rfl, by first | trivial | lia | grind⟩, rfl⟩
                · have zc169 := nx168 c169
                  refine g_aload_n dX7_lineNow_141 rfl ?_
                  refine g_aload_n dX7_lineNow_142 rfl ?_
                  refine f_X7_94 rfl rfl dX7_lineNow_143 ?_
                  refine g_topi (fun x170 ex170 => ?_)
                  have rx170 : 0 ≤ x170 ∧ x170 ≤ 160 := by rw [ex170]; exact iv_at hu _ _ rfl
                  have qx170 : x170 = x118 := by rw [ex170]; exact s119
                  refine g_iconst (v := 3) dX7_lineNow_146 (by decide) ?_
                  refine g_iadd dX7_lineNow_147 ?_
                  refine g_topi (fun x171 ex171 => ?_)
                  refine cl_X7_103 (c := 60) (As := [.int x171]) rfl (c_X7_byteAt (G := G) hs hu  x171 (by first | trivial | decide | lia | grind) (d + 1)) rfl (by omega) rfl rfl (Nat.le_of_ble_eq_true rfl) dX7_lineNow_148 (fun r172 u173 q174 => ?_)
                  obtain ⟨⟨x175, rfl, tx175⟩, mq174⟩ := q174
                  rw [mq174]
                  refine g_bipush (v := 101) dX7_lineNow_151 (by decide) ?_
                  refine g_icmp_ne (tgt := 160) dX7_lineNow_153 (by decide) (fun c176 => ?_) (fun c176 => ?_)
                  · refine g_bipush (v := (-4)) dX7_lineNow_160 (by decide) ?_
                    exact g_iret (ty := .int) dX7_lineNow_162 rfl rfl ⟨⟨_, rfl, by first | trivial | lia | grind⟩, rfl⟩
                  · refine g_iconst (v := 5) dX7_lineNow_156 (by decide) ?_
                    refine g_goto (tgt := 162) dX7_lineNow_157 (by decide) ?_
                    exact g_iret (ty := .int) dX7_lineNow_162 rfl rfl ⟨⟨_, rfl, by first | trivial | lia | grind⟩, rfl⟩
              · have zc164 := nx163 c164
                refine g_iconst (v := 4) dX7_lineNow_123 (by decide) ?_
                refine g_goto (tgt := 162) dX7_lineNow_124 (by decide) ?_
                exact g_iret (ty := .int) dX7_lineNow_162 rfl rfl ⟨⟨_, rfl, by first | trivial | lia | grind⟩, rfl⟩
            · refine g_iconst (v := 3) dX7_lineNow_107 (by decide) ?_
              exact g_iret (ty := .int) dX7_lineNow_108 rfl rfl ⟨⟨_, rfl, by first | trivial | lia | grind⟩, rfl⟩
        · have zc130 := nx129 c130
          refine g_aload_n dX7_lineNow_61 rfl ?_
          refine g_aload_n dX7_lineNow_62 rfl ?_
          refine f_X7_94 rfl rfl dX7_lineNow_63 ?_
          refine g_topi (fun x177 ex177 => ?_)
          have rx177 : 0 ≤ x177 ∧ x177 ≤ 160 := by rw [ex177]; exact iv_at hu _ _ rfl
          have qx177 : x177 = x118 := by rw [ex177]; exact s119
          refine g_iconst (v := 3) dX7_lineNow_66 (by decide) ?_
          refine g_iadd dX7_lineNow_67 ?_
          refine g_topi (fun x178 ex178 => ?_)
          refine cl_X7_103 (c := 60) (As := [.int x178]) rfl (c_X7_byteAt (G := G) hs hu  x178 (by first | trivial | decide | lia | grind) (d + 1)) rfl (by omega) rfl rfl (Nat.le_of_ble_eq_true rfl) dX7_lineNow_68 (fun r179 u180 q181 => ?_)
          obtain ⟨⟨x182, rfl, tx182⟩, mq181⟩ := q181
          rw [mq181]
          refine g_bipush (v := 110) dX7_lineNow_71 (by decide) ?_
          refine g_icmp_ne (tgt := 78) dX7_lineNow_73 (by decide) (fun c183 => ?_) (fun c183 => ?_)
          · refine g_aload_n dX7_lineNow_78 rfl ?_
            refine g_iconst (v := 4) dX7_lineNow_79 (by decide) ?_
            refine g_bipush (v := 115) dX7_lineNow_80 (by decide) ?_
            refine g_bipush (v := 97) dX7_lineNow_82 (by decide) ?_
            refine g_bipush (v := 108) dX7_lineNow_84 (by decide) ?_
            refine cl_X7_107 (c := 60) (As := [.int 4, .int 115, .int 97, .int 108]) rfl (c_X7_is (G := G) hs hu  4 115 97 108  (d)) rfl (by omega) rfl rfl (Nat.le_of_ble_eq_true rfl) dX7_lineNow_86 (fun r184 u185 q186 => ?_)
            obtain ⟨⟨x187, rfl, tx187, nx187, zx187⟩, mq186⟩ := q186
            rw [mq186]
            refine g_if_eq (tgt := 109) dX7_lineNow_89 (by decide) (fun c188 => ?_) (fun c188 => ?_)
            · have zc188 := zx187 c188
              refine g_aload_n dX7_lineNow_109 rfl ?_
              refine g_iconst (v := 3) dX7_lineNow_110 (by decide) ?_
              refine g_bipush (v := 114) dX7_lineNow_111 (by decide) ?_
              refine g_bipush (v := 97) dX7_lineNow_113 (by decide) ?_
              refine g_bipush (v := 119) dX7_lineNow_115 (by decide) ?_
              refine cl_X7_107 (c := 60) (As := [.int 3, .int 114, .int 97, .int 119]) rfl (c_X7_is (G := G) hs hu  3 114 97 119  (d)) rfl (by omega) rfl rfl (Nat.le_of_ble_eq_true rfl) dX7_lineNow_117 (fun r189 u190 q191 => ?_)
              obtain ⟨⟨x192, rfl, tx192, nx192, zx192⟩, mq191⟩ := q191
              rw [mq191]
              refine g_if_eq (tgt := 127) dX7_lineNow_120 (by decide) (fun c193 => ?_) (fun c193 => ?_)
              · have zc193 := zx192 c193
                refine g_aload_n dX7_lineNow_127 rfl ?_
                refine g_iconst (v := 4) dX7_lineNow_128 (by decide) ?_
                refine g_bipush (v := 104) dX7_lineNow_129 (by decide) ?_
                refine g_bipush (v := 97) dX7_lineNow_131 (by decide) ?_
                refine g_bipush (v := 118) dX7_lineNow_133 (by decide) ?_
                refine cl_X7_107 (c := 60) (As := [.int 4, .int 104, .int 97, .int 118]) rfl (c_X7_is (G := G) hs hu  4 104 97 118  (d)) rfl (by omega) rfl rfl (Nat.le_of_ble_eq_true rfl) dX7_lineNow_135 (fun r194 u195 q196 => ?_)
                obtain ⟨⟨x197, rfl, tx197, nx197, zx197⟩, mq196⟩ := q196
                rw [mq196]
                refine g_if_eq (tgt := 160) dX7_lineNow_138 (by decide) (fun c198 => ?_) (fun c198 => ?_)
                · have zc198 := zx197 c198
                  refine g_bipush (v := (-4)) dX7_lineNow_160 (by decide) ?_
                  exact g_iret (ty := .int) dX7_lineNow_162 rfl rfl ⟨⟨_, rfl, by first | trivial | lia | grind⟩, rfl⟩
                · have zc198 := nx197 c198
                  refine g_aload_n dX7_lineNow_141 rfl ?_
                  refine g_aload_n dX7_lineNow_142 rfl ?_
                  refine f_X7_94 rfl rfl dX7_lineNow_143 ?_
                  refine g_topi (fun x199 ex199 => ?_)
                  have rx199 : 0 ≤ x199 ∧ x199 ≤ 160 := by rw [ex199]; exact iv_at hu _ _ rfl
                  have qx199 : x199 = x118 := by rw [ex199]; exact s119
                  refine g_iconst (v := 3) dX7_lineNow_146 (by decide) ?_
                  refine g_iadd dX7_lineNow_147 ?_
                  refine g_topi (fun x200 ex200 => ?_)
                  refine cl_X7_103 (c := 60) (As := [.int x200]) rfl (c_X7_byteAt (G := G) hs hu  x200 (by first | trivial | decide | lia | grind) (d + 1)) rfl (by omega) rfl rfl (Nat.le_of_ble_eq_true rfl) dX7_lineNow_148 (fun r201 u202 q203 => ?_)
                  obtain ⟨⟨x204, rfl, tx204⟩, mq203⟩ := q203
                  rw [mq203]
                  refine g_bipush (v := 101) dX7_lineNow_151 (by decide) ?_
                  refine g_icmp_ne (tgt := 160) dX7_lineNow_153 (by decide) (fun c205 => ?_) (fun c205 => ?_)
                  · refine g_bipush (v := (-4)) dX7_lineNow_160 (by decide) ?_
                    exact g_iret (ty := .int) dX7_lineNow_162 rfl rfl ⟨⟨_, rfl, by first | trivial | lia | grind⟩, rfl⟩
                  · refine g_iconst (v := 5) dX7_lineNow_156 (by decide) ?_
                    refine g_goto (tgt := 162) dX7_lineNow_157 (by decide) ?_
                    exact g_iret (ty := .int) dX7_lineNow_162 rfl rfl ⟨⟨_, rfl, by first | trivial | lia | grind⟩, rfl⟩
              · have zc193 := nx192 c193
                refine g_iconst (v := 4) dX7_lineNow_123 (by decide) ?_
                refine g_goto (tgt := 162) dX7_lineNow_124 (by decide) ?_
                exact g_iret (ty := .int) dX7_lineNow_162 rfl rfl ⟨⟨_, rfl, by first | trivial | lia | grind⟩, rfl⟩
            · have zc188 := nx187 c188
              refine g_aload_n dX7_lineNow_92 rfl ?_
              refine g_aload_n dX7_lineNow_93 rfl ?_
              refine f_X7_94 rfl rfl dX7_lineNow_94 ?_
              refine g_topi (fun x206 ex206 => ?_)
              have rx206 : 0 ≤ x206 ∧ x206 ≤ 160 := by rw [ex206]; exact iv_at hu _ _ rfl
              have qx206 : x206 = x118 := by rw [ex206]; exact s119
              refine g_iconst (v := 3) dX7_lineNow_97 (by decide) ?_
              refine g_iadd dX7_lineNow_98 ?_
              refine g_topi (fun x207 ex207 => ?_)
              refine cl_X7_103 (c := 60) (As := [.int x207]) rfl (c_X7_byteAt (G := G) hs hu  x207 (by first | trivial | decide | lia | grind) (d + 1)) rfl (by omega) rfl rfl (Nat.le_of_ble_eq_true rfl) dX7_lineNow_99 (fun r208 u209 q210 => ?_)
              obtain ⟨⟨x211, rfl, tx211⟩, mq210⟩ := q210
              rw [mq210]
              refine g_bipush (v := 116) dX7_lineNow_102 (by decide) ?_
              refine g_icmp_ne (tgt := 109) dX7_lineNow_104 (by decide) (fun c212 => ?_) (fun c212 => ?_)
              · refine g_aload_n dX7_lineNow_109 rfl ?_
                refine g_iconst (v := 3) dX7_lineNow_110 (by decide) ?_
                refine g_bipush (v := 114) dX7_lineNow_111 (by decide) ?_
                refine g_bipush (v := 97) dX7_lineNow_113 (by decide) ?_
                refine g_bipush (v := 119) dX7_lineNow_115 (by decide) ?_
                refine cl_X7_107 (c := 60) (As := [.int 3, .int 114, .int 97, .int 119]) rfl (c_X7_is (G := G) hs hu  3 114 97 119  (d)) rfl (by omega) rfl rfl (Nat.le_of_ble_eq_true rfl) dX7_lineNow_117 (fun r213 u214 q215 => ?_)
                obtain ⟨⟨x216, rfl, tx216, nx216, zx216⟩, mq215⟩ := q215
                rw [mq215]
                refine g_if_eq (tgt := 127) dX7_lineNow_120 (by decide) (fun c217 => ?_) (fun c217 => ?_)
                · have zc217 := zx216 c217
                  refine g_aload_n dX7_lineNow_127 rfl ?_
                  refine g_iconst (v := 4) dX7_lineNow_128 (by decide) ?_
                  refine g_bipush (v := 104) dX7_lineNow_129 (by decide) ?_
                  refine g_bipush (v := 97) dX7_lineNow_131 (by decide) ?_
                  refine g_bipush (v := 118) dX7_lineNow_133 (by decide) ?_
                  refine cl_X7_107 (c := 60) (As := [.int 4, .int 104, .int 97, .int 118]) rfl (c_X7_is (G := G) hs hu  4 104 97 118  (d)) rfl (by omega) rfl rfl (Nat.le_of_ble_eq_true rfl) dX7_lineNow_135 (fun r218 u219 q220 => ?_)
                  obtain ⟨⟨x221, rfl, tx221, nx221, zx221⟩, mq220⟩ := q220
                  rw [mq220]
                  refine g_if_eq (tgt := 160) dX7_lineNow_138 (by decide) (fun c222 => ?_) (fun c222 => ?_)
                  · have zc222 := zx221 c222
                    refine g_bipush (v := (-4)) dX7_lineNow_160 (by decide) ?_
                    exact g_iret (ty := .int) dX7_lineNow_162 rfl rfl ⟨⟨_, rfl, by first | trivial | lia | grind⟩, rfl⟩
                  · have zc222 := nx221 c222
                    refine g_aload_n dX7_lineNow_141 rfl ?_
                    refine g_aload_n dX7_lineNow_142 rfl ?_
                    refine f_X7_94 rfl rfl dX7_lineNow_143 ?_
                    refine g_topi (fun x223 ex223 => ?_)
                    have rx223 : 0 ≤ x223 ∧ x223 ≤ 160 := by rw [ex223]; exact iv_at hu _ _ rfl
                    have qx223 : x223 = x118 := by rw [ex223]; exact s119
                    refine g_iconst (v := 3) dX7_lineNow_146 (by decide) ?_
                    refine g_iadd dX7_lineNow_147 ?_
                    refine g_topi (fun x224 ex224 => ?_)
                    refine cl_X7_103 (c := 60) (As := [.int x224]) rfl (c_X7_byteAt (G := G) hs hu  x224 (by first | trivial | decide | lia | grind) (d + 1)) rfl (by omega) rfl rfl (Nat.le_of_ble_eq_true rfl) dX7_lineNow_148 (fun r225 u226 q227 => ?_)
                    obtain ⟨⟨x228, rfl, tx228⟩, mq227⟩ := q227
                    rw [mq227]
                    refine g_bipush (v := 101) dX7_lineNow_151 (by decide) ?_
                    refine g_icmp_ne (tgt := 160) dX7_lineNow_153 (by decide) (fun c229 => ?_) (fun c229 => ?_)
                    · refine g_bipush (v := (-4)) dX7_lineNow_160 (by decide) ?_
                      exact g_iret (ty := .int) dX7_lineNow_162 rfl rfl ⟨⟨_, rfl, by first | trivial | lia | grind⟩, rfl⟩
                    · refine g_iconst (v := 5) dX7_lineNow_156 (by decide) ?_
                      refine g_goto (tgt := 162) dX7_lineNow_157 (by decide) ?_
                      exact g_iret (ty := .int) dX7_lineNow_162 rfl rfl ⟨⟨_, rfl, by first | trivial | lia | grind⟩, rfl⟩
                · have zc217 := nx216 c217
                  refine g_iconst (v := 4) dX7_lineNow_123 (by decide) ?_
                  refine g_goto (tgt := 162) dX7_lineNow_124 (by decide) ?_
                  exact g_iret (ty := .int) dX7_lineNow_162 rfl rfl ⟨⟨_, rfl, by first | trivial | lia | grind⟩, rfl⟩
              · refine g_iconst (v := 3) dX7_lineNow_107 (by decide) ?_
                exact g_iret (ty := .int) dX7_lineNow_108 rfl rfl ⟨⟨_, rfl, by first | trivial | lia | grind⟩, rfl⟩
          · refine g_iconst (v := 2) dX7_lineNow_76 (by decide) ?_
            exact g_iret (ty := .int) dX7_lineNow_77 rfl rfl ⟨⟨_, rfl, by first | trivial | lia | grind⟩, rfl⟩
      · refine g_iconst (v := 1) dX7_lineNow_45 (by decide) ?_
        exact g_iret (ty := .int) dX7_lineNow_46 rfl rfl ⟨⟨_, rfl, by first | trivial | lia | grind⟩, rfl⟩
  · have zc5 := nx4 c5
    refine g_iconst (v := 0) dX7_lineNow_14 (by decide) ?_
    exact g_iret (ty := .int) dX7_lineNow_15 rfl rfl ⟨⟨_, rfl, by first | trivial | lia | grind⟩, rfl⟩
abbrev q_X7_needs (u : uk_Mem) (b : Int32) (e : Int32) (r : Option Value) (u' : uk_Mem) : Prop := (r = none) ∧ (iv u' ∧ fk [60] [3, 7, 10, 11, 13, 14, 15, 16, 17, 22, 28] u u' ∧ (u'.1 60 18 = 0 → u.1 60 18 = 0 ∧ ¬ b = 0))
set_option maxHeartbeats 4000000 in
set_option maxRecDepth 20000 in
theorem c_X7_needs {G : uk_D} (hs : uk_Sep G) {u : uk_Mem} (hu : iv u) (b : Int32) (e : Int32) (p0 : 1 ≤ e) (p1 : e ≤ 6) (d : Nat) : uk_Meth G d mX7_needs [.ref (uk_ad G 60), .int b, .int e] u (q_X7_needs u b e) := by
  refine uk_Meth.of hs (by decide) (Nat.le_of_ble_eq_true rfl) (fun X => ?_)
  have f0 : fk [60] [3, 7, 10, 11, 13, 14, 15, 16, 17, 22, 28] u u := fk_rf
  obtain ⟨t1, Tt1⟩ : ∃ t, u.1 60 18 = t := ⟨_, rfl⟩
  refine g_iload_n dX7_needs_0 rfl ?_
  refine g_if_ne (tgt := 24) dX7_needs_1 (by decide) (fun c2 => ?_) (fun c2 => ?_)
  · exact g_vret dX7_needs_24 rfl ⟨rfl, hu, f0, (by first | rfl | (rw [Tt1]; grind) | rw [Tt1])⟩
  · refine g_aload_n dX7_needs_4 rfl ?_
    refine f_X7_91 rfl rfl dX7_needs_5 ?_
    refine g_topi (fun x3 ex3 => ?_)
    have rx3 : 0 ≤ x3 ∧ x3 ≤ 6 := by rw [ex3]; exact iv_at hu _ _ rfl
    have qx3 : x3 = t1 := ex3.trans Tt1
    refine g_if_ne (tgt := 24) dX7_needs_8 (by decide) (fun c4 => ?_) (fun c4 => ?_)
    · exact g_vret dX7_needs_24 rfl ⟨rfl, hu, f0, (by first | rfl | (rw [Tt1]; grind) | rw [Tt1])⟩
    · refine g_aload_n dX7_needs_11 rfl ?_
      refine g_iload_n dX7_needs_12 rfl ?_
      refine p_X7_91 rfl rfl dX7_needs_13 ?_
      refine g_mem (fun u5 eu5 => ?_)
      have hu5 : iv u5 := by rw [eu5]; exact iv_up hu rfl (by first | lia | grind) (by first | lia | grind)
      have fu5 : fk [60] [3, 7, 10, 11, 13, 14, 15, 16, 17, 22, 28] u u5 := by rw [eu5]; exact fk_up f0 (by decide) (fun _ => by decide)
      have s6 : u5.1 60 18 = e := by rw [eu5, uk_up_at]; exact if_pos ⟨rfl, rfl⟩
      refine g_aload_n dX7_needs_16 rfl ?_
      refine g_aload_n dX7_needs_17 rfl ?_
      refine f_X7_94 rfl rfl dX7_needs_18 ?_
      refine g_topi (fun x7 ex7 => ?_)
      have rx7 : 0 ≤ x7 ∧ x7 ≤ 160 := by rw [ex7]; exact iv_at hu5 _ _ rfl
      have s8 : u5.1 60 15 = x7 := ex7.symm
      refine p_X7_97 rfl rfl dX7_needs_21 ?_
      refine g_mem (fun u9 eu9 => ?_)
      have hu9 : iv u9 := by rw [eu9]; exact iv_upF hu5 rfl
      have fu9 : fk [60] [3, 7, 10, 11, 13, 14, 15, 16, 17, 22, 28] u u9 := by rw [eu9]; exact fk_up fu5 (by decide) (fun _ => by decide)
      have s10 : u9.1 60 19 = x7 := by rw [eu9, uk_up_at]; exact if_pos ⟨rfl, rfl⟩
      have T11 : u9.1 60 18 = e := by rw [eu9, uk_up_at, if_neg (by decide)]; exact s6
      exact g_vret dX7_needs_24 rfl ⟨rfl, hu9, fu9, (by first | rfl | (rw [T11]; grind) | rw [T11])⟩
abbrev q_X7_next (u : uk_Mem)  (r : Option Value) (u' : uk_Mem) : Prop := (r = none) ∧ (iv u' ∧ fk [60] [3, 7, 10, 11, 13, 22, 28] u u' ∧ (u'.1 60 18 = 0 → u.1 60 18 = 0) ∧ u.1 60 14 ≤ u'.1 60 14 ∧ (u.1 60 18 = 0 → u.1 60 14 ≤ u'.1 60 15) ∧ (u.1 60 18 = 0 → u'.1 60 15 ≤ u'.1 60 14))
set_option maxHeartbeats 4000000 in
set_option maxRecDepth 20000 in
theorem c_X7_next {G : uk_D} (hs : uk_Sep G) {u : uk_Mem} (hu : iv u)  (d : Nat) : uk_Meth G (d + 1) mX7_next [.ref (uk_ad G 60)] u (q_X7_next u) := by
  refine uk_Meth.of hs (by decide) (Nat.le_of_ble_eq_true rfl) (fun X => ?_)
  have f0 : fk [60] [3, 7, 10, 11, 13, 22, 28] u u := fk_rf
  obtain ⟨t1, Tt1⟩ : ∃ t, u.1 60 13 = t := ⟨_, rfl⟩
  obtain ⟨t2, Tt2⟩ : ∃ t, u.1 60 14 = t := ⟨_, rfl⟩
  obtain ⟨t3, Tt3⟩ : ∃ t, u.1 60 15 = t := ⟨_, rfl⟩
  obtain ⟨t4, Tt4⟩ : ∃ t, u.1 60 16 = t := ⟨_, rfl⟩
  obtain ⟨t5, Tt5⟩ : ∃ t, u.1 60 18 = t := ⟨_, rfl⟩
  refine g_aload_n dX7_next_0 rfl ?_
  refine f_X7_91 rfl rfl dX7_next_1 ?_
  refine g_topi (fun x6 ex6 => ?_)
  have rx6 : 0 ≤ x6 ∧ x6 ≤ 6 := by rw [ex6]; exact iv_at hu _ _ rfl
  have qx6 : x6 = t5 := ex6.trans Tt5
  refine g_if_le (tgt := 8) dX7_next_4 (by decide) (fun c7 => ?_) (fun c7 => ?_)
  · have L8_7 : ∀ i9 : Int32, 0 ≤ i9 → i9 ≤ 160 → ∀ (u10 : uk_Mem), iv u10 → fk [60] [3, 7, 10, 11, 13, 22, 28] u u10 → u10.1 60 14 = i9 → u10.1 60 18 = u.1 60 18 → u.1 60 14 ≤ u10.1 60 14 → uk_G G X mX7_next (d + 1) (q_X7_next u) 8 [(0, .ref (uk_ad G 60))] [] u10 := by
      refine uk_upl 160 ?_
      intro i9 ai9 bi9 ihi9  u10 hu10 fu10 ki9 ji90 ji91
      obtain ⟨t11, Tt11⟩ : ∃ t, u10.1 60 13 = t := ⟨_, rfl⟩
      have Rt11 : 0 ≤ t11 ∧ t11 ≤ 160 := by rw [← Tt11]; exact iv_at hu10 _ _ rfl
      obtain ⟨t12, Tt12⟩ : ∃ t, u10.1 60 15 = t := ⟨_, rfl⟩
      have Rt12 : 0 ≤ t12 ∧ t12 ≤ 160 := by rw [← Tt12]; exact iv_at hu10 _ _ rfl
      obtain ⟨t13, Tt13⟩ : ∃ t, u10.1 60 16 = t := ⟨_, rfl⟩
      obtain ⟨t14, Tt14⟩ : ∃ t, u10.1 60 18 = t := ⟨_, rfl⟩
      have Rt14 : 0 ≤ t14 ∧ t14 ≤ 6 := by rw [← Tt14]; exact iv_at hu10 _ _ rfl
      refine g_aload_n dX7_next_8 rfl ?_
      refine g_aload_n dX7_next_9 rfl ?_
      refine f_X7_100 rfl rfl dX7_next_10 ?_
      refine g_topi (fun x15 ex15 => ?_)
      have rx15 : 0 ≤ x15 ∧ x15 ≤ 160 := by rw [ex15]; exact iv_at hu10 _ _ rfl
      have qx15 : x15 = i9 := ex15.trans ki9
      refine cl_X7_103 (c := 60) (As := [.int x15]) rfl (c_X7_byteAt (G := G) hs hu10  x15 (by first | trivial | decide | lia | grind) (d)) rfl (by omega) rfl rfl (Nat.le_of_ble_eq_true rfl) dX7_next_13 (fun r16 u17 q18 => ?_)
      obtain ⟨⟨x19, rfl, tx19⟩, mq18⟩ := q18
      rw [mq18]
      refine g_bipush (v := 32) dX7_next_16 (by decide) ?_
      refine g_icmp_ne (tgt := 34) dX7_next_18 (by decide) (fun c20 => ?_) (fun c20 => ?_)
      · refine g_aload_n dX7_next_34 rfl ?_
        refine g_aload_n dX7_next_35 rfl ?_
        refine f_X7_100 rfl rfl dX7_next_36 ?_
        refine g_topi (fun x21 ex21 => ?_)
        have rx21 : 0 ≤ x21 ∧ x21 ≤ 160 := by rw [ex21]; exact iv_at hu10 _ _ rfl
        have qx21 : x21 = i9 := ex21.trans ki9
        refine p_X7_94 rfl rfl dX7_next_39 ?_
        refine g_mem (fun u22 eu22 => ?_)
        have hu22 : iv u22 := by rw [eu22]; exact iv_up hu10 rfl (by first | lia | grind) (by first | lia | grind)
        have fu22 : fk [60] [3, 7, 10, 11, 13, 22, 28] u u22 := by rw [eu22]; exact fk_up fu10 (by decide) (fun _ => by decide)
        have s23 : u22.1 60 15 = x21 := by rw [eu22, uk_up_at]; exact if_pos ⟨rfl, rfl⟩
        have T24 : u22.1 60 13 = t11 := by rw [eu22, uk_up_at, if_neg (by decide)]; exact Tt11
        have T25 : u22.1 60 14 = i9 := by rw [eu22, uk_up_at, if_neg (by decide)]; exact ki9
        have T26 : u22.1 60 16 = t13 := by rw [eu22, uk_up_at, if_neg (by decide)]; exact Tt13
        have T27 : u22.1 60 18 = t14 := by rw [eu22, uk_up_at, if_neg (by decide)]; exact Tt14
        refine g_aload_n dX7_next_42 rfl ?_
        refine g_aload_n dX7_next_43 rfl ?_
        refine f_X7_100 rfl rfl dX7_next_44 ?_
        refine g_topi (fun x28 ex28 => ?_)
        have rx28 : 0 ≤ x28 ∧ x28 ≤ 160 := by rw [ex28]; exact iv_at hu22 _ _ rfl
        have qx28 : x28 = i9 := ex28.trans T25
        refine cl_X7_103 (c := 60) (As := [.int x28]) rfl (c_X7_byteAt (G := G) hs hu22  x28 (by first | trivial | decide | lia | grind) (d)) rfl (by omega) rfl rfl (Nat.le_of_ble_eq_true rfl) dX7_next_47 (fun r29 u30 q31 => ?_)
        obtain ⟨⟨x32, rfl, tx32⟩, mq31⟩ := q31
        rw [mq31]
        refine g_istore_n dX7_next_50 (by decide) ?_
        refine g_iload_n dX7_next_51 rfl ?_
        refine g_if_ge (tgt := 63) dX7_next_52 (by decide) (fun c33 => ?_) (fun c33 => ?_)
        · refine g_iload_n dX7_next_63 rfl ?_
          refine g_i2l dX7_next_64 ?_
          refine g_ldc2 (v := 97) k_X7_114 dX7_next_65 ?_
          refine g_ldc2 (v := 122) k_X7_116 dX7_next_68 ?_
          refine cl_X7_84 (As := [.long x32.toInt64, .long 97, .long 122]) rfl (c_X7_in (G := G) hs hu22  x32 97 122  (d)) rfl (by omega) rfl (Nat.le_of_ble_eq_true rfl) dX7_next_71 (fun r34 u35 q36 => ?_)
          obtain ⟨⟨x37, rfl, tx37, nx37, zx37⟩, mq36⟩ := q36
          rw [mq36]
          refine g_if_eq (tgt := 116) dX7_next_74 (by decide) (fun c38 => ?_) (fun c38 => ?_)
          · have zc38 := zx37 c38
            refine g_iload_n dX7_next_116 rfl ?_
            refine g_i2l dX7_next_117 ?_
            refine g_ldc2 (v := 48) k_X7_118 dX7_next_118 ?_
            refine g_ldc2 (v := 57) k_X7_120 dX7_next_121 ?_
            refine cl_X7_84 (As := [.long x32.toInt64, .long 48, .long 57]) rfl (c_X7_in (G := G) hs hu22  x32 48 57  (d)) rfl (by omega) rfl (Nat.le_of_ble_eq_true rfl) dX7_next_124 (fun r39 u40 q41 => ?_)
            obtain ⟨⟨x42, rfl, tx42, nx42, zx42⟩, mq41⟩ := q41
            rw [mq41]
            refine g_if_eq (tgt := 243) dX7_next_127 (by decide) (fun c43 => ?_) (fun c43 => ?_)
            · have zc43 := zx42 c43
              refine g_aload_n dX7_next_243 rfl ?_
              refine g_iconst (v := 3) dX7_next_244 (by decide) ?_
              refine p_X7_111 rfl rfl dX7_next_245 ?_
              refine g_mem (fun u44 eu44 => ?_)
              have hu44 : iv u44 := by rw [eu44]; exact iv_upF hu22 rfl
              have fu44 : fk [60] [3, 7, 10, 11, 13, 22, 28] u u44 := by rw [eu44]; exact fk_up fu22 (by decide) (fun _ => by decide)
              have s45 : u44.1 60 16 = 3 := by rw [eu44, uk_up_at]; exact if_pos ⟨rfl, rfl⟩
              have T46 : u44.1 60 13 = t11 := by rw [eu44, uk_up_at, if_neg (by decide)]; exact T24
              have T47 : u44.1 60 14 = i9 := by rw [eu44, uk_up_at, if_neg (by decide)]; exact T25
              have T48 : u44.1 60 15 = x21 := by rw [eu44, uk_up_at, if_neg (by decide)]; exact s23
              have T49 : u44.1 60 18 = t14 := by rw [eu44, uk_up_at, if_neg (by decide)]; exact T27
              refine g_aload_n dX7_next_248 rfl ?_
              refine g_iload_n dX7_next_249 rfl ?_
              refine g_bipush (v := 59) dX7_next_250 (by decide) ?_
              refine g_icmp_ne (tgt := 259) dX7_next_252 (by decide) (fun c50 => ?_) (fun c50 => ?_)
              · refine g_iconst (v := 0) dX7_next_259 (by decide) ?_
                refine g_iconst (v := 1) dX7_next_260 (by decide) ?_
                refine cl_X7_125 (c := 60) (As := [.int 0, .int 1]) rfl (c_X7_needs (G := G) hs hu44  0 1 (by first | trivial | decide | lia | grind) (by first | trivial | decide | lia | grind) (d)) rfl (by omega) rfl rfl (Nat.le_of_ble_eq_true rfl) dX7_next_261 (fun r51 u52 q53 => ?_)
                obtain ⟨rfl, mq53⟩ := q53
                obtain ⟨hu52, gu52, ku520⟩ := mq53
                have fu52 : fk [60] [3, 7, 10, 11, 13, 22, 28] u u52 := fk_tr fu44 gu52 (by decide) (by decide)
                have T54 : u52.1 60 13 = t11 := (fk_at gu52 (by decide)).trans T46
                have T55 : u52.1 60 14 = i9 := (fk_at gu52 (by decide)).trans T47
                have T56 : u52.1 60 15 = x21 := (fk_at gu52 (by decide)).trans T48
                have T57 : u52.1 60 16 = 3 := (fk_at gu52 (by decide)).trans s45
                obtain ⟨t58, Tt58⟩ : ∃ t, u52.1 60 18 = t := ⟨_, rfl⟩
                have Rt58 : 0 ≤ t58 ∧ t58 ≤ 6 := by rw [← Tt58]; exact iv_at hu52 _ _ rfl
                have s59 : u52.1 60 14 = i9 := (fk_at gu52 (by decide)).trans (by simp [eu44, eu22, uk_up_at, ki9] : u44.1 60 14 = i9)
                have s60 : u52.1 60 15 = x21 := (fk_at gu52 (by decide)).trans (by simp [eu44, uk_up_at, s23] : u44.1 60 15 = x21)
                have s61 : u52.1 60 16 = 3 := (fk_at gu52 (by decide)).trans s45
                refine g_aload_n dX7_next_264 rfl ?_
                refine g_dup dX7_next_265 rfl ?_
                refine f_X7_100 rfl rfl dX7_next_266 ?_
                refine g_topi (fun x62 ex62 => ?_)
                have rx62 : 0 ≤ x62 ∧ x62 ≤ 160 := by rw [ex62]; exact iv_at hu52 _ _ rfl
                have qx62 : x62 = i9 := ex62.trans T55
                refine g_iconst (v := 1) dX7_next_269 (by decide) ?_
                refine g_iadd dX7_next_270 ?_
                refine g_topi (fun x63 ex63 => ?_)
                refine p_X7_100 rfl rfl dX7_next_271 ?_
                refine g_mem (fun u64 eu64 => ?_)
                have hu64 : iv u64 := by rw [eu64]; exact iv_up hu52 rfl (by first | lia | grind) (by first | lia | grind)
                have fu64 : fk [60] [3, 7, 10, 11, 13, 22, 28] u u64 := by rw [eu64]; exact fk_up fu52 (by decide) (fun _ => by decide)
                have s65 : u64.1 60 14 = x63 := by rw [eu64, uk_up_at]; exact if_pos ⟨rfl, rfl⟩
                have T66 : u64.1 60 13 = t11 := by rw [eu64, uk_up_at, if_neg (by decide)]; exact T54
                have T67 : u64.1 60 15 = x21 := by rw [eu64, uk_up_at, if_neg (by decide)]; exact T56
                have T68 : u64.1 60 16 = 3 := by rw [eu64, uk_up_at, if_neg (by decide)]; exact T57
                have T69 : u64.1 60 18 = t58 := by rw [eu64, uk_up_at, if_neg (by decide)]; exact Tt58
                exact g_vret dX7_next_274 rfl ⟨rfl, hu64, fu64, (by first | rfl | (rw [T69]; grind) | rw [T69]), (by first | rfl | (rw [s65]; grind) | rw [s65]), (by first | rfl | (rw [T67]; grind) | rw [T67]), (by first | rfl | (rw [T67, s65]; grind) | rw [T67, s65])⟩
              · refine g_iconst (v := 1) dX7_next_255 (by decide) ?_
                refine g_goto (tgt := 260) dX7_next_256 (by decide) ?_
                refine g_iconst (v := 1) dX7_next_260 (by decide) ?_
                refine cl_X7_125 (c := 60) (As := [.int 1, .int 1]) rfl (c_X7_needs (G := G) hs hu44  1 1 (by first | trivial | decide | lia | grind) (by first | trivial | decide | lia | grind) (d)) rfl (by omega) rfl rfl (Nat.le_of_ble_eq_true rfl) dX7_next_261 (fun r70 u71 q72 => ?_)
                obtain ⟨rfl, mq72⟩ := q72
                obtain ⟨hu71, gu71, ku710⟩ := mq72
                have fu71 : fk [60] [3, 7, 10, 11, 13, 22, 28] u u71 := fk_tr fu44 gu71 (by decide) (by decide)
                have T73 : u71.1 60 13 = t11 := (fk_at gu71 (by decide)).trans T46
                have T74 : u71.1 60 14 = i9 := (fk_at gu71 (by decide)).trans T47
                have T75 : u71.1 60 15 = x21 := (fk_at gu71 (by decide)).trans T48
                have T76 : u71.1 60 16 = 3 := (fk_at gu71 (by decide)).trans s45
                obtain ⟨t77, Tt77⟩ : ∃ t, u71.1 60 18 = t := ⟨_, rfl⟩
                have Rt77 : 0 ≤ t77 ∧ t77 ≤ 6 := by rw [← Tt77]; exact iv_at hu71 _ _ rfl
                have s78 : u71.1 60 14 = i9 := (fk_at gu71 (by decide)).trans (by simp [eu44, eu22, uk_up_at, ki9] : u44.1 60 14 = i9)
                have s79 : u71.1 60 15 = x21 := (fk_at gu71 (by decide)).trans (by simp [eu44, uk_up_at, s23] : u44.1 60 15 = x21)
                have s80 : u71.1 60 16 = 3 := (fk_at gu71 (by decide)).trans s45
                refine g_aload_n dX7_next_264 rfl ?_
                refine g_dup dX7_next_265 rfl ?_
                refine f_X7_100 rfl rfl dX7_next_266 ?_
                refine g_topi (fun x81 ex81 => ?_)
                have rx81 : 0 ≤ x81 ∧ x81 ≤ 160 := by rw [ex81]; exact iv_at hu71 _ _ rfl
                have qx81 : x81 = i9 := ex81.trans T74
                refine g_iconst (v := 1) dX7_next_269 (by decide) ?_
                refine g_iadd dX7_next_270 ?_
                refine g_topi (fun x82 ex82 => ?_)
                refine p_X7_100 rfl rfl dX7_next_271 ?_
                refine g_mem (fun u83 eu83 => ?_)
                have hu83 : iv u83 := by rw [eu83]; exact iv_up hu71 rfl (by first | lia | grind) (by first | lia | grind)
                have fu83 : fk [60] [3, 7, 10, 11, 13, 22, 28] u u83 := by rw [eu83]; exact fk_up fu71 (by decide) (fun _ => by decide)
                have s84 : u83.1 60 14 = x82 := by rw [eu83, uk_up_at]; exact if_pos ⟨rfl, rfl⟩
                have T85 : u83.1 60 13 = t11 := by rw [eu83, uk_up_at, if_neg (by decide)]; exact T73
                have T86 : u83.1 60 15 = x21 := by rw [eu83, uk_up_at, if_neg (by decide)]; exact T75
                have T87 : u83.1 60 16 = 3 := by rw [eu83, uk_up_at, if_neg (by decide)]; exact T76
                have T88 : u83.1 60 18 = t77 := by rw [eu83, uk_up_at, if_neg (by decide)]; exact Tt77
                exact g_vret dX7_next_274 rfl ⟨rfl, hu83, fu83, (by first | rfl | (rw [T88]; grind) | rw [T88]), (by first | rfl | (rw [s84]; grind) | rw [s84]), (by first | rfl | (rw [T86]; grind) | rw [T86]), (by first | rfl | (rw [T86, s84]; grind) | rw [T86, s84])⟩
            · have zc43 := nx42 c43
              refine g_aload_n dX7_next_130 rfl ?_
              refine g_iconst (v := 2) dX7_next_131 (by decide) ?_
              refine p_X7_111 rfl rfl dX7_next_132 ?_
              refine g_mem (fun u89 eu89 => ?_)
              have hu89 : iv u89 := by rw [eu89]; exact iv_upF hu22 rfl
              have fu89 : fk [60] [3, 7, 10, 11, 13, 22, 28] u u89 := by rw [eu89]; exact fk_up fu22 (by decide) (fun _ => by decide)
              have s90 : u89.1 60 16 = 2 := by rw [eu89, uk_up_at]; exact if_pos ⟨rfl, rfl⟩
              have T91 : u89.1 60 13 = t11 := by rw [eu89, uk_up_at, if_neg (by decide)]; exact T24
              have T92 : u89.1 60 14 = i9 := by rw [eu89, uk_up_at, if_neg (by decide)]; exact T25
              have T93 : u89.1 60 15 = x21 := by rw [eu89, uk_up_at, if_neg (by decide)]; exact s23
              have T94 : u89.1 60 18 = t14 := by rw [eu89, uk_up_at, if_neg (by decide)]; exact T27
              refine g_aload_n dX7_next_135 rfl ?_
              refine g_iconst (v := 0) dX7_next_136 (by decide) ?_
              refine p_X7_122 rfl rfl dX7_next_137 ?_
              refine g_mem (fun u95 eu95 => ?_)
              have hu95 : iv u95 := by rw [eu95]; exact iv_upF hu89 rfl
              have fu95 : fk [60] [3, 7, 10, 11, 13, 22, 28] u u95 := by rw [eu95]; exact fk_up fu89 (by decide) (fun _ => by decide)
              have s96 : u95.1 60 17 = 0 := by rw [eu95, uk_up_at]; exact if_pos ⟨rfl, rfl⟩
              have T97 : u95.1 60 13 = t11 := by rw [eu95, uk_up_at, if_neg (by decide)]; exact T91
              have T98 : u95.1 60 14 = i9 := by rw [eu95, uk_up_at, if_neg (by decide)]; exact T92
              have T99 : u95.1 60 15 = x21 := by rw [eu95, uk_up_at, if_neg (by decide)]; exact T93
              have T100 : u95.1 60 16 = 2 := by rw [eu95, uk_up_at, if_neg (by decide)]; exact s90
              have T101 : u95.1 60 18 = t14 := by rw [eu95, uk_up_at, if_neg (by decide)]; exact T94
              have L140_101 : ∀ i103 : Int32, 0 ≤ i103 → i103 ≤ 160 → ∀ (u104 : uk_Mem), iv u104 → fk [60] [3, 7, 10, 11, 13, 22, 28] u u104 → u104.1 60 14 = i103 → u104.1 60 18 = u.1 60 18 → u.1 60 14 ≤ u104.1 60 14 → u.1 60 14 ≤ u104.1 60 15 → u104.1 60 15 ≤ u104.1 60 14 → uk_G G X mX7_next (d + 1) (q_X7_next u) 140 [(0, .ref (uk_ad G 60)), (1, .int x32)] [] u104 := by
                refine uk_upl 160 ?_
                intro i103 ai103 bi103 ihi103  u104 hu104 fu104 ki103 ji1030 ji1031 ji1032 ji1033
                obtain ⟨t105, Tt105⟩ : ∃ t, u104.1 60 13 = t := ⟨_, rfl⟩
                have Rt105 : 0 ≤ t105 ∧ t105 ≤ 160 := by rw [← Tt105]; exact iv_at hu104 _ _ rfl
                obtain ⟨t106, Tt106⟩ : ∃ t, u104.1 60 15 = t := ⟨_, rfl⟩
                have Rt106 : 0 ≤ t106 ∧ t106 ≤ 160 := by rw [← Tt106]; exact iv_at hu104 _ _ rfl
                obtain ⟨t107, Tt107⟩ : ∃ t, u104.1 60 16 = t := ⟨_, rfl⟩
                obtain ⟨t108, Tt108⟩ : ∃ t, u104.1 60 18 = t := ⟨_, rfl⟩
                have Rt108 : 0 ≤ t108 ∧ t108 ≤ 6 := by rw [← Tt108]; exact iv_at hu104 _ _ rfl
                refine g_aload_n dX7_next_140 rfl ?_
                refine g_aload_n dX7_next_141 rfl ?_
                refine f_X7_100 rfl rfl dX7_next_142 ?_
                refine g_topi (fun x109 ex109 => ?_)
                have rx109 : 0 ≤ x109 ∧ x109 ≤ 160 := by rw [ex109]; exact iv_at hu104 _ _ rfl
                have qx109 : x109 = i103 := ex109.trans ki103
                refine cl_X7_103 (c := 60) (As := [.int x109]) rfl (c_X7_byteAt (G := G) hs hu104  x109 (by first | trivial | decide | lia | grind) (d)) rfl (by omega) rfl rfl (Nat.le_of_ble_eq_true rfl) dX7_next_145 (fun r110 u111 q112 => ?_)
                obtain ⟨⟨x113, rfl, tx113⟩, mq112⟩ := q112
                rw [mq112]
                refine g_i2l dX7_next_148 ?_
                refine g_ldc2 (v := 48) k_X7_118 dX7_next_149 ?_
                refine g_ldc2 (v := 57) k_X7_120 dX7_next_152 ?_
                refine cl_X7_84 (As := [.long x113.toInt64, .long 48, .long 57]) rfl (c_X7_in (G := G) hs hu104  x113 48 57  (d)) rfl (by omega) rfl (Nat.le_of_ble_eq_true rfl) dX7_next_155 (fun r114 u115 q116 => ?_)
                obtain ⟨⟨x117, rfl, tx117, nx117, zx117⟩, mq116⟩ := q116
                rw [mq116]
                refine g_if_eq (tgt := 217) dX7_next_158 (by decide) (fun c118 => ?_) (fun c118 => ?_)
                · have zc118 := zx117 c118
                  refine g_aload_n dX7_next_217 rfl ?_
                  refine g_aload_n dX7_next_218 rfl ?_
                  refine f_X7_100 rfl rfl dX7_next_219 ?_
                  refine g_topi (fun x119 ex119 => ?_)
                  have rx119 : 0 ≤ x119 ∧ x119 ≤ 160 := by rw [ex119]; exact iv_at hu104 _ _ rfl
                  have qx119 : x119 = i103 := ex119.trans ki103
                  refine g_aload_n dX7_next_222 rfl ?_
                  refine f_X7_94 rfl rfl dX7_next_223 ?_
                  refine g_topi (fun x120 ex120 => ?_)
                  have rx120 : 0 ≤ x120 ∧ x120 ≤ 160 := by rw [ex120]; exact iv_at hu104 _ _ rfl
                  have qx120 : x120 = t106 := ex120.trans Tt106
                  refine g_isub dX7_next_226 ?_
                  refine g_topi (fun x121 ex121 => ?_)
                  refine g_iconst (v := 2) dX7_next_227 (by decide) ?_
                  refine g_icmp_gt (tgt := 235) dX7_next_228 (by decide) (fun c122 => ?_) (fun c122 => ?_)
                  · refine g_iconst (v := 0) dX7_next_235 (by decide) ?_
                    refine g_iconst (v := 1) dX7_next_236 (by decide) ?_
                    refine cl_X7_125 (c := 60) (As := [.int 0, .int 1]) rfl (c_X7_needs (G := G) hs hu104  0 1 (by first | trivial | decide | lia | grind) (by first | trivial | decide | lia | grind) (d)) rfl (by omega) rfl rfl (Nat.le_of_ble_eq_true rfl) dX7_next_237 (fun r123 u124 q125 => ?_)
                    obtain ⟨rfl, mq125⟩ := q125
                    obtain ⟨hu124, gu124, ku1240⟩ := mq125
                    have fu124 : fk [60] [3, 7, 10, 11, 13, 22, 28] u u124 := fk_tr fu104 gu124 (by decide) (by decide)
                    have T126 : u124.1 60 13 = t105 := (fk_at gu124 (by decide)).trans Tt105
                    have T127 : u124.1 60 14 = i103 := (fk_at gu124 (by decide)).trans ki103
                    have T128 : u124.1 60 15 = t106 := (fk_at gu124 (by decide)).trans Tt106
                    have T129 : u124.1 60 16 = t107 := (fk_at gu124 (by decide)).trans Tt107
                    obtain ⟨t130, Tt130⟩ : ∃ t, u124.1 60 18 = t := ⟨_, rfl⟩
                    have Rt130 : 0 ≤ t130 ∧ t130 ≤ 6 := by rw [← Tt130]; exact iv_at hu124 _ _ rfl
                    have s131 : u124.1 60 14 = i103 := (fk_at gu124 (by decide)).trans ki103
                    refine g_goto (tgt := 274) dX7_next_240 (by decide) ?_
                    exact g_vret dX7_next_274 rfl ⟨rfl, hu124, fu124, (by first | rfl | (rw [Tt130]; grind) | rw [Tt130]), (by first | rfl | (rw [T127]; grind) | rw [T127]), (by first | rfl | (rw [T128]; grind) | rw [T128]), (by first | rfl | (rw [T128, T127]; grind) | rw [T128, T127])⟩
                  · refine g_iconst (v := 1) dX7_next_231 (by decide) ?_
                    refine g_goto (tgt := 236) dX7_next_232 (by decide) ?_
                    refine g_iconst (v := 1) dX7_next_236 (by decide) ?_
                    refine cl_X7_125 (c := 60) (As := [.int 1, .int 1]) rfl (c_X7_needs (G := G) hs hu104  1 1 (by first | trivial | decide | lia | grind) (by first | trivial | decide | lia | grind) (d)) rfl (by omega) rfl rfl (Nat.le_of_ble_eq_true rfl) dX7_next_237 (fun r132 u133 q134 => ?_)
                    obtain ⟨rfl, mq134⟩ := q134
                    obtain ⟨hu133, gu133, ku1330⟩ := mq134
                    have fu133 : fk [60] [3, 7, 10, 11, 13, 22, 28] u u133 := fk_tr fu104 gu133 (by decide) (by decide)
                    have T135 : u133.1 60 13 = t105 := (fk_at gu133 (by decide)).trans Tt105
                    have T136 : u133.1 60 14 = i103 := (fk_at gu133 (by decide)).trans ki103
                    have T137 : u133.1 60 15 = t106 := (fk_at gu133 (by decide)).trans Tt106
                    have T138 : u133.1 60 16 = t107 := (fk_at gu133 (by decide)).trans Tt107
                    obtain ⟨t139, Tt139⟩ : ∃ t, u133.1 60 18 = t := ⟨_, rfl⟩
                    have Rt139 : 0 ≤ t139 ∧ t139 ≤ 6 := by rw [← Tt139]; exact iv_at hu133 _ _ rfl
                    have s140 : u133.1 60 14 = i103 := (fk_at gu133 (by decide)).trans ki103
                    refine g_goto (tgt := 274) dX7_next_240 (by decide) ?_
                    exact g_vret dX7_next_274 rfl ⟨rfl, hu133, fu133, (by first | rfl | (rw [Tt139]; grind) | rw [Tt139]), (by first | rfl | (rw [T136]; grind) | rw [T136]), (by first | rfl | (rw [T137]; grind) | rw [T137]), (by first | rfl | (rw [T137, T136]; grind) | rw [T137, T136])⟩
                · have zc118 := nx117 c118
                  refine g_aload_n dX7_next_161 rfl ?_
                  refine g_aload_n dX7_next_162 rfl ?_
                  refine f_X7_100 rfl rfl dX7_next_163 ?_
                  refine g_topi (fun x141 ex141 => ?_)
                  have rx141 : 0 ≤ x141 ∧ x141 ≤ 160 := by rw [ex141]; exact iv_at hu104 _ _ rfl
                  have qx141 : x141 = i103 := ex141.trans ki103
                  refine g_aload_n dX7_next_166 rfl ?_
                  refine f_X7_94 rfl rfl dX7_next_167 ?_
                  refine g_topi (fun x142 ex142 => ?_)
                  have rx142 : 0 ≤ x142 ∧ x142 ≤ 160 := by rw [ex142]; exact iv_at hu104 _ _ rfl
                  have qx142 : x142 = t106 := ex142.trans Tt106
                  refine g_isub dX7_next_170 ?_
                  refine g_topi (fun x143 ex143 => ?_)
                  refine g_iconst (v := 2) dX7_next_171 (by decide) ?_
                  refine g_icmp_ge (tgt := 197) dX7_next_172 (by decide) (fun c144 => ?_) (fun c144 => ?_)
                  · refine g_aload_n dX7_next_197 rfl ?_
                    refine f_X7_122 rfl rfl dX7_next_198 ?_
                    refine g_topi (fun x145 ex145 => ?_)
                    have s146 : u104.1 60 17 = x145 := ex145.symm
                    refine p_X7_122 rfl rfl dX7_next_201 ?_
                    refine g_mem (fun u147 eu147 => ?_)
                    have hu147 : iv u147 := by rw [eu147]; exact iv_upF hu104 rfl
                    have fu147 : fk [60] [3, 7, 10, 11, 13, 22, 28] u u147 := by rw [eu147]; exact fk_up fu104 (by decide) (fun _ => by decide)
                    have s148 : u147.1 60 17 = x145 := by rw [eu147, uk_up_at]; exact if_pos ⟨rfl, rfl⟩
                    have T149 : u147.1 60 13 = t105 := by rw [eu147, uk_up_at, if_neg (by decide)]; exact Tt105
                    have T150 : u147.1 60 14 = i103 := by rw [eu147, uk_up_at, if_neg (by decide)]; exact ki103
                    have T151 : u147.1 60 15 = t106 := by rw [eu147, uk_up_at, if_neg (by decide)]; exact Tt106
                    have T152 : u147.1 60 16 = t107 := by rw [eu147, uk_up_at, if_neg (by decide)]; exact Tt107
                    have T153 : u147.1 60 18 = t108 := by rw [eu147, uk_up_at, if_neg (by decide)]; exact Tt108
                    refine g_aload_n dX7_next_204 rfl ?_
                    refine g_dup dX7_next_205 rfl ?_
                    refine f_X7_100 rfl rfl dX7_next_206 ?_
                    refine g_topi (fun x154 ex154 => ?_)
                    have rx154 : 0 ≤ x154 ∧ x154 ≤ 160 := by rw [ex154]; exact iv_at hu147 _ _ rfl
                    have qx154 : x154 = i103 := ex154.trans T150
                    refine g_iconst (v := 1) dX7_next_209 (by decide) ?_
                    refine g_iadd dX7_next_210 ?_
                    refine g_topi (fun x155 ex155 => ?_)
                    refine p_X7_100 rfl rfl dX7_next_211 ?_
                    refine g_mem (fun u156 eu156 => ?_)
                    have hu156 : iv u156 := by rw [eu156]; exact iv_up hu147 rfl (by first | lia | grind) (by first | lia | grind)
                    have fu156 : fk [60] [3, 7, 10, 11, 13, 22, 28] u u156 := by rw [eu156]; exact fk_up fu147 (by decide) (fun _ => by decide)
                    have s157 : u156.1 60 14 = x155 := by rw [eu156, uk_up_at]; exact if_pos ⟨rfl, rfl⟩
                    have T158 : u156.1 60 13 = t105 := by rw [eu156, uk_up_at, if_neg (by decide)]; exact T149
                    have T159 : u156.1 60 15 = t106 := by rw [eu156, uk_up_at, if_neg (by decide)]; exact T151
                    have T160 : u156.1 60 16 = t107 := by rw [eu156, uk_up_at, if_neg (by decide)]; exact T152
                    have T161 : u156.1 60 18 = t108 := by rw [eu156, uk_up_at, if_neg (by decide)]; exact T153
                    refine g_goto (tgt := 140) dX7_next_214 (by decide) ?_
                    refine g_pick (lv' := [(0, .ref (uk_ad G 60)), (1, .int x32)]) [0, 1] rfl ?_
                    exact ihi103 (by first | lia | grind) u156 hu156 fu156 (s157.trans (by first | lia | grind)) (by first | rfl | (rw [T161]; grind) | rw [T161]) (by first | rfl | (rw [s157]; grind) | rw [s157]) (by first | rfl | (rw [T159]; grind) | rw [T159]) (by first | rfl | (rw [T159, s157]; grind) | rw [T159, s157])
                  · refine g_bipush (v := 10) dX7_next_175 (by decide) ?_
                    refine g_aload_n dX7_next_177 rfl ?_
                    refine f_X7_122 rfl rfl dX7_next_178 ?_
                    refine g_topi (fun x162 ex162 => ?_)
                    have s163 : u104.1 60 17 = x162 := ex162.symm
                    refine g_imul dX7_next_181 ?_
                    refine g_topi (fun x164 ex164 => ?_)
                    refine g_aload_n dX7_next_182 rfl ?_
                    refine g_aload_n dX7_next_183 rfl ?_
                    refine f_X7_100 rfl rfl dX7_next_184 ?_
                    refine g_topi (fun x165 ex165 => ?_)
                    have rx165 : 0 ≤ x165 ∧ x165 ≤ 160 := by rw [ex165]; exact iv_at hu104 _ _ rfl
                    have qx165 : x165 = i103 := ex165.trans ki103
                    refine cl_X7_103 (c := 60) (As := [.int x165]) rfl (c_X7_byteAt (G := G) hs hu104  x165 (by first | trivial | decide | lia | grind) (d)) rfl (by omega) rfl rfl (Nat.le_of_ble_eq_true rfl) dX7_next_187 (fun r166 u167 q168 => ?_)
                    obtain ⟨⟨x169, rfl, tx169⟩, mq168⟩ := q168
                    rw [mq168]
                    refine g_iadd dX7_next_190 ?_
                    refine g_topi (fun x170 ex170 => ?_)
                    refine g_bipush (v := 48) dX7_next_191 (by decide) ?_
                    refine g_isub dX7_next_193 ?_
                    refine g_topi (fun x171 ex171 => ?_)
                    refine g_goto (tgt := 201) dX7_next_194 (by decide) ?_
                    refine p_X7_122 rfl rfl dX7_next_201 ?_
                    refine g_mem (fun u172 eu172 => ?_)
                    have hu172 : iv u172 := by rw [eu172]; exact iv_upF hu104 rfl
                    have fu172 : fk [60] [3, 7, 10, 11, 13, 22, 28] u u172 := by rw [eu172]; exact fk_up fu104 (by decide) (fun _ => by decide)
                    have s173 : u172.1 60 17 = x171 := by rw [eu172, uk_up_at]; exact if_pos ⟨rfl, rfl⟩
                    have T174 : u172.1 60 13 = t105 := by rw [eu172, uk_up_at, if_neg (by decide)]; exact Tt105
                    have T175 : u172.1 60 14 = i103 := by rw [eu172, uk_up_at, if_neg (by decide)]; exact ki103
                    have T176 : u172.1 60 15 = t106 := by rw [eu172, uk_up_at, if_neg (by decide)]; exact Tt106
                    have T177 : u172.1 60 16 = t107 := by rw [eu172, uk_up_at, if_neg (by decide)]; exact Tt107
                    have T178 : u172.1 60 18 = t108 := by rw [eu172, uk_up_at, if_neg (by decide)]; exact Tt108
                    refine g_aload_n dX7_next_204 rfl ?_
                    refine g_dup dX7_next_205 rfl ?_
                    refine f_X7_100 rfl rfl dX7_next_206 ?_
                    refine g_topi (fun x179 ex179 => ?_)
                    have rx179 : 0 ≤ x179 ∧ x179 ≤ 160 := by rw [ex179]; exact iv_at hu172 _ _ rfl
                    have qx179 : x179 = i103 := ex179.trans T175
                    refine g_iconst (v := 1) dX7_next_209 (by decide) ?_
                    refine g_iadd dX7_next_210 ?_
                    refine g_topi (fun x180 ex180 => ?_)
                    refine p_X7_100 rfl rfl dX7_next_211 ?_
                    refine g_mem (fun u181 eu181 => ?_)
                    have hu181 : iv u181 := by rw [eu181]; exact iv_up hu172 rfl (by first | lia | grind) (by first | lia | grind)
                    have fu181 : fk [60] [3, 7, 10, 11, 13, 22, 28] u u181 := by rw [eu181]; exact fk_up fu172 (by decide) (fun _ => by decide)
                    have s182 : u181.1 60 14 = x180 := by rw [eu181, uk_up_at]; exact if_pos ⟨rfl, rfl⟩
                    have T183 : u181.1 60 13 = t105 := by rw [eu181, uk_up_at, if_neg (by decide)]; exact T174
                    have T184 : u181.1 60 15 = t106 := by rw [eu181, uk_up_at, if_neg (by decide)]; exact T176
                    have T185 : u181.1 60 16 = t107 := by rw [eu181, uk_up_at, if_neg (by decide)]; exact T177
                    have T186 : u181.1 60 18 = t108 := by rw [eu181, uk_up_at, if_neg (by decide)]; exact T178
                    refine g_goto (tgt := 140) dX7_next_214 (by decide) ?_
                    refine g_pick (lv' := [(0, .ref (uk_ad G 60)), (1, .int x32)]) [0, 1] rfl ?_
                    exact ihi103 (by first | lia | grind) u181 hu181 fu181 (s182.trans (by first | lia | grind)) (by first | rfl | (rw [T186]; grind) | rw [T186]) (by first | rfl | (rw [s182]; grind) | rw [s182]) (by first | rfl | (rw [T184]; grind) | rw [T184]) (by first | rfl | (rw [T184, s182]; grind) | rw [T184, s182])
              refine g_pick (lv' := [(0, .ref (uk_ad G 60)), (1, .int x32)]) [0, 1] rfl ?_
              exact L140_101 (u95.1 60 14) (iv_at hu95 _ _ rfl).1 (iv_at hu95 _ _ rfl).2  u95 hu95 fu95 rfl (by first | rfl | (rw [T101]; grind) | rw [T101]) (by first | rfl | (rw [T98]; grind) | rw [T98]) (by first | rfl | (rw [T99]; grind) | rw [T99]) (by first | rfl | (rw [T99, T98]; grind) | rw [T99, T98])
          · have zc38 := nx37 c38
            refine g_aload_n dX7_next_77 rfl ?_
            refine g_iconst (v := 1) dX7_next_78 (by decide) ?_
            refine p_X7_111 rfl rfl dX7_next_79 ?_
            refine g_mem (fun u187 eu187 => ?_)
            have hu187 : iv u187 := by rw [eu187]; exact iv_upF hu22 rfl
            have fu187 : fk [60] [3, 7, 10, 11, 13, 22, 28] u u187 := by rw [eu187]; exact fk_up fu22 (by decide) (fun _ => by decide)
            have s188 : u187.1 60 16 = 1 := by rw [eu187, uk_up_at]; exact if_pos ⟨rfl, rfl⟩
            have T189 : u187.1 60 13 = t11 := by rw [eu187, uk_up_at, if_neg (by decide)]; exact T24
            have T190 : u187.1 60 14 = i9 := by rw [eu187, uk_up_at, if_neg (by decide)]; exact T25
            have T191 : u187.1 60 15 = x21 := by rw [eu187, uk_up_at, if_neg (by decide)]; exact s23
            have T192 : u187.1 60 18 = t14 := by rw [eu187, uk_up_at, if_neg (by decide)]; exact T27
            have L82_192 : ∀ i194 : Int32, 0 ≤ i194 → i194 ≤ 160 → ∀ (u195 : uk_Mem), iv u195 → fk [60] [3, 7, 10, 11, 13, 22, 28] u u195 → u195.1 60 14 = i194 → u195.1 60 18 = u.1 60 18 → u.1 60 14 ≤ u195.1 60 14 → u.1 60 14 ≤ u195.1 60 15 → u195.1 60 15 ≤ u195.1 60 14 → uk_G G X mX7_next (d + 1) (q_X7_next u) 82 [(0, .ref (uk_ad G 60)), (1, .int x32)] [] u195 := by
              refine uk_upl 160 ?_
              intro i194 ai194 bi194 ihi194  u195 hu195 fu195 ki194 ji1940 ji1941 ji1942 ji1943
              obtain ⟨t196, Tt196⟩ : ∃ t, u195.1 60 13 = t := ⟨_, rfl⟩
              have Rt196 : 0 ≤ t196 ∧ t196 ≤ 160 := by rw [← Tt196]; exact iv_at hu195 _ _ rfl
              obtain ⟨t197, Tt197⟩ : ∃ t, u195.1 60 15 = t := ⟨_, rfl⟩
              have Rt197 : 0 ≤ t197 ∧ t197 ≤ 160 := by rw [← Tt197]; exact iv_at hu195 _ _ rfl
              obtain ⟨t198, Tt198⟩ : ∃ t, u195.1 60 16 = t := ⟨_, rfl⟩
              obtain ⟨t199, Tt199⟩ : ∃ t, u195.1 60 18 = t := ⟨_, rfl⟩
              have Rt199 : 0 ≤ t199 ∧ t199 ≤ 6 := by rw [← Tt199]; exact iv_at hu195 _ _ rfl
              refine g_aload_n dX7_next_82 rfl ?_
              refine g_aload_n dX7_next_83 rfl ?_
              refine f_X7_100 rfl rfl dX7_next_84 ?_
              refine g_topi (fun x200 ex200 => ?_)
              have rx200 : 0 ≤ x200 ∧ x200 ≤ 160 := by rw [ex200]; exact iv_at hu195 _ _ rfl
              have qx200 : x200 = i194 := ex200.trans ki194
              refine cl_X7_103 (c := 60) (As := [.int x200]) rfl (c_X7_byteAt (G := G) hs hu195  x200 (by first | trivial | decide | lia | grind) (d)) rfl (by omega) rfl rfl (Nat.le_of_ble_eq_true rfl) dX7_next_87 (fun r201 u202 q203 => ?_)
              obtain ⟨⟨x204, rfl, tx204⟩, mq203⟩ := q203
              rw [mq203]
              refine g_i2l dX7_next_90 ?_
              refine g_ldc2 (v := 97) k_X7_114 dX7_next_91 ?_
              refine g_ldc2 (v := 122) k_X7_116 dX7_next_94 ?_
              refine cl_X7_84 (As := [.long x204.toInt64, .long 97, .long 122]) rfl (c_X7_in (G := G) hs hu195  x204 97 122  (d)) rfl (by omega) rfl (Nat.le_of_ble_eq_true rfl) dX7_next_97 (fun r205 u206 q207 => ?_)
              obtain ⟨⟨x208, rfl, tx208, nx208, zx208⟩, mq207⟩ := q207
              rw [mq207]
              refine g_if_eq (tgt := 274) dX7_next_100 (by decide) (fun c209 => ?_) (fun c209 => ?_)
              · have zc209 := zx208 c209
                exact g_vret dX7_next_274 rfl ⟨rfl, hu195, fu195, (by first | rfl | (rw [Tt199]; grind) | rw [Tt199]), (by first | rfl | (rw [ki194]; grind) | rw [ki194]), (by first | rfl | (rw [Tt197]; grind) | rw [Tt197]), (by first | rfl | (rw [Tt197, ki194]; grind) | rw [Tt197, ki194])⟩
              · have zc209 := nx208 c209
                refine g_aload_n dX7_next_103 rfl ?_
                refine g_dup dX7_next_104 rfl ?_
                refine f_X7_100 rfl rfl dX7_next_105 ?_
                refine g_topi (fun x210 ex210 => ?_)
                have rx210 : 0 ≤ x210 ∧ x210 ≤ 160 := by rw [ex210]; exact iv_at hu195 _ _ rfl
                have qx210 : x210 = i194 := ex210.trans ki194
                refine g_iconst (v := 1) dX7_next_108 (by decide) ?_
                refine g_iadd dX7_next_109 ?_
                refine g_topi (fun x211 ex211 => ?_)
                refine p_X7_100 rfl rfl dX7_next_110 ?_
                refine g_mem (fun u212 eu212 => ?_)
                have hu212 : iv u212 := by rw [eu212]; exact iv_up hu195 rfl (by first | lia | grind) (by first | lia | grind)
                have fu212 : fk [60] [3, 7, 10, 11, 13, 22, 28] u u212 := by rw [eu212]; exact fk_up fu195 (by decide) (fun _ => by decide)
                have s213 : u212.1 60 14 = x211 := by rw [eu212, uk_up_at]; exact if_pos ⟨rfl, rfl⟩
                have T214 : u212.1 60 13 = t196 := by rw [eu212, uk_up_at, if_neg (by decide)]; exact Tt196
                have T215 : u212.1 60 15 = t197 := by rw [eu212, uk_up_at, if_neg (by decide)]; exact Tt197
                have T216 : u212.1 60 16 = t198 := by rw [eu212, uk_up_at, if_neg (by decide)]; exact Tt198
                have T217 : u212.1 60 18 = t199 := by rw [eu212, uk_up_at, if_neg (by decide)]; exact Tt199
                refine g_goto (tgt := 82) dX7_next_113 (by decide) ?_
                refine g_pick (lv' := [(0, .ref (uk_ad G 60)), (1, .int x32)]) [0, 1] rfl ?_
                exact ihi194 (by first | lia | grind) u212 hu212 fu212 (s213.trans (by first | lia | grind)) (by first | rfl | (rw [T217]; grind) | rw [T217]) (by first | rfl | (rw [s213]; grind) | rw [s213]) (by first | rfl | (rw [T215]; grind) | rw [T215]) (by first | rfl | (rw [T215, s213]; grind) | rw [T215, s213])
            refine g_pick (lv' := [(0, .ref (uk_ad G 60)), (1, .int x32)]) [0, 1] rfl ?_
            exact L82_192 (u187.1 60 14) (iv_at hu187 _ _ rfl).1 (iv_at hu187 _ _ rfl).2  u187 hu187 fu187 rfl (by first | rfl | (rw [T192]; grind) | rw [T192]) (by first | rfl | (rw [T190]; grind) | rw [T190]) (by first | rfl | (rw [T191]; grind) | rw [T191]) (by first | rfl | (rw [T191, T190]; grind) | rw [T191, T190])
        · refine g_aload_n dX7_next_55 rfl ?_
          refine g_iconst (v := 0) dX7_next_56 (by decide) ?_
          refine p_X7_111 rfl rfl dX7_next_57 ?_
          refine g_mem (fun u218 eu218 => ?_)
          have hu218 : iv u218 := by rw [eu218]; exact iv_upF hu22 rfl
          have fu218 : fk [60] [3, 7, 10, 11, 13, 22, 28] u u218 := by rw [eu218]; exact fk_up fu22 (by decide) (fun _ => by decide)
          have s219 : u218.1 60 16 = 0 := by rw [eu218, uk_up_at]; exact if_pos ⟨rfl, rfl⟩
          have T220 : u218.1 60 13 = t11 := by rw [eu218, uk_up_at, if_neg (by decide)]; exact T24
          have T221 : u218.1 60 14 = i9 := by rw [eu218, uk_up_at, if_neg (by decide)]; exact T25
          have T222 : u218.1 60 15 = x21 := by rw [eu218, uk_up_at, if_neg (by decide)]; exact s23
          have T223 : u218.1 60 18 = t14 := by rw [eu218, uk_up_at, if_neg (by decide)]; exact T27
          refine g_goto (tgt := 274) dX7_next_60 (by decide) ?_
          exact g_vret dX7_next_274 rfl ⟨rfl, hu218, fu218, (by first | rfl | (rw [T223]; grind) | rw [T223]), (by first | rfl | (rw [T221]; grind) | rw [T221]), (by first | rfl | (rw [T222]; grind) | rw [T222]), (by first | rfl | (rw [T222, T221]; grind) | rw [T222, T221])⟩
      · refine g_aload_n dX7_next_21 rfl ?_
        refine g_dup dX7_next_22 rfl ?_
        refine f_X7_100 rfl rfl dX7_next_23 ?_
        refine g_topi (fun x224 ex224 => ?_)
        have rx224 : 0 ≤ x224 ∧ x224 ≤ 160 := by rw [ex224]; exact iv_at hu10 _ _ rfl
        have qx224 : x224 = i9 := ex224.trans ki9
        refine g_iconst (v := 1) dX7_next_26 (by decide) ?_
        refine g_iadd dX7_next_27 ?_
        refine g_topi (fun x225 ex225 => ?_)
        refine p_X7_100 rfl rfl dX7_next_28 ?_
        refine g_mem (fun u226 eu226 => ?_)
        have hu226 : iv u226 := by rw [eu226]; exact iv_up hu10 rfl (by first | lia | grind) (by first | lia | grind)
        have fu226 : fk [60] [3, 7, 10, 11, 13, 22, 28] u u226 := by rw [eu226]; exact fk_up fu10 (by decide) (fun _ => by decide)
        have s227 : u226.1 60 14 = x225 := by rw [eu226, uk_up_at]; exact if_pos ⟨rfl, rfl⟩
        have T228 : u226.1 60 13 = t11 := by rw [eu226, uk_up_at, if_neg (by decide)]; exact Tt11
        have T229 : u226.1 60 15 = t12 := by rw [eu226, uk_up_at, if_neg (by decide)]; exact Tt12
        have T230 : u226.1 60 16 = t13 := by rw [eu226, uk_up_at, if_neg (by decide)]; exact Tt13
        have T231 : u226.1 60 18 = t14 := by rw [eu226, uk_up_at, if_neg (by decide)]; exact Tt14
        refine g_goto (tgt := 8) dX7_next_31 (by decide) ?_
        refine g_pick (lv' := [(0, .ref (uk_ad G 60))]) [0] rfl ?_
        exact ihi9 (by first | lia | grind) u226 hu226 fu226 (s227.trans (by first | lia | grind)) (by first | rfl | (rw [T231]; grind) | rw [T231]) (by first | rfl | (rw [s227]; grind) | rw [s227])
    refine g_pick (lv' := [(0, .ref (uk_ad G 60))]) [0] rfl ?_
    exact L8_7 (u.1 60 14) (iv_at hu _ _ rfl).1 (iv_at hu _ _ rfl).2  u hu f0 rfl (by first | rfl | (rw [Tt5]; grind) | rw [Tt5]) (by first | rfl | (rw [Tt2]; grind) | rw [Tt2])
  · exact g_vret dX7_next_7 rfl ⟨rfl, hu, f0, (by first | rfl | (rw [Tt5]; grind) | rw [Tt5]), (by first | rfl | (rw [Tt2]; grind) | rw [Tt2]), (by first | rfl | (rw [Tt3]; grind) | rw [Tt3]), (by first | rfl | (rw [Tt3, Tt2]; grind) | rw [Tt3, Tt2])⟩
abbrev q_X7_looked (u : uk_Mem) (lo : Int32) (hi : Int32) (r : Option Value) (u' : uk_Mem) : Prop := (∃ x : Int32, r = some (.int x) ∧ (u'.1 60 18 = 0 → lo ≤ x ∧ x ≤ hi) ∧ (x = 0 ∨ (lo ≤ x ∧ x ≤ hi))) ∧ (iv u' ∧ fk [60] [3, 7, 10, 11, 13, 14, 15, 16, 17, 22, 28] u u' ∧ (u'.1 60 18 = 0 → u.1 60 18 = 0))
set_option maxHeartbeats 4000000 in
set_option maxRecDepth 20000 in
theorem c_X7_looked {G : uk_D} (hs : uk_Sep G) {u : uk_Mem} (hu : iv u) (lo : Int32) (hi : Int32) (d : Nat) : uk_Meth G (d + 1) mX7_looked [.ref (uk_ad G 60), .int lo, .int hi] u (q_X7_looked u lo hi) := by
  refine uk_Meth.of hs (by decide) (Nat.le_of_ble_eq_true rfl) (fun X => ?_)
  have f0 : fk [60] [3, 7, 10, 11, 13, 14, 15, 16, 17, 22, 28] u u := fk_rf
  obtain ⟨t1, Tt1⟩ : ∃ t, u.1 60 17 = t := ⟨_, rfl⟩
  obtain ⟨t2, Tt2⟩ : ∃ t, u.1 60 18 = t := ⟨_, rfl⟩
  refine g_aload_n dX7_looked_0 rfl ?_
  refine f_X7_91 rfl rfl dX7_looked_1 ?_
  refine g_topi (fun x3 ex3 => ?_)
  have rx3 : 0 ≤ x3 ∧ x3 ≤ 6 := by rw [ex3]; exact iv_at hu _ _ rfl
  have qx3 : x3 = t2 := ex3.trans Tt2
  refine g_if_ne (tgt := 25) dX7_looked_4 (by decide) (fun c4 => ?_) (fun c4 => ?_)
  · refine g_aload_n dX7_looked_25 rfl ?_
    refine f_X7_91 rfl rfl dX7_looked_26 ?_
    refine g_topi (fun x5 ex5 => ?_)
    have rx5 : 0 ≤ x5 ∧ x5 ≤ 6 := by rw [ex5]; exact iv_at hu _ _ rfl
    have qx5 : x5 = t2 := ex5.trans Tt2
    refine g_if_ne (tgt := 49) dX7_looked_29 (by decide) (fun c6 => ?_) (fun c6 => ?_)
    · refine g_aload_n dX7_looked_49 rfl ?_
      refine f_X7_91 rfl rfl dX7_looked_50 ?_
      refine g_topi (fun x7 ex7 => ?_)
      have rx7 : 0 ≤ x7 ∧ x7 ≤ 6 := by rw [ex7]; exact iv_at hu _ _ rfl
      have qx7 : x7 = t2 := ex7.trans Tt2
      refine g_if_ne (tgt := 63) dX7_looked_53 (by decide) (fun c8 => ?_) (fun c8 => ?_)
      · refine g_iconst (v := 0) dX7_looked_63 (by decide) ?_
        exact g_iret (ty := .int) dX7_looked_64 rfl rfl ⟨⟨_, rfl, by first | trivial | lia | grind⟩, hu, f0, (by first | rfl | (rw [Tt2]; grind) | rw [Tt2])⟩
      · refine g_aload_n dX7_looked_56 rfl ?_
        refine f_X7_122 rfl rfl dX7_looked_57 ?_
        refine g_topi (fun x9 ex9 => ?_)
        have qx9 : x9 = t1 := ex9.trans Tt1
        refine g_goto (tgt := 64) dX7_looked_60 (by decide) ?_
        exact g_iret (ty := .int) dX7_looked_64 rfl rfl ⟨⟨_, rfl, by first | trivial | lia | grind⟩, hu, f0, (by first | rfl | (rw [Tt2]; grind) | rw [Tt2])⟩
    · refine g_aload_n dX7_looked_32 rfl ?_
      refine g_aload_n dX7_looked_33 rfl ?_
      refine f_X7_122 rfl rfl dX7_looked_34 ?_
      refine g_topi (fun x10 ex10 => ?_)
      have qx10 : x10 = t1 := ex10.trans Tt1
      refine g_i2l dX7_looked_37 ?_
      refine g_iload_n dX7_looked_38 rfl ?_
      refine g_i2l dX7_looked_39 ?_
      refine g_iload_n dX7_looked_40 rfl ?_
      refine g_i2l dX7_looked_41 ?_
      refine cl_X7_84 (As := [.long x10.toInt64, .long lo.toInt64, .long hi.toInt64]) rfl (c_X7_in (G := G) hs hu  x10 lo hi  (d)) rfl (by omega) rfl (Nat.le_of_ble_eq_true rfl) dX7_looked_42 (fun r11 u12 q13 => ?_)
      obtain ⟨⟨x14, rfl, tx14, nx14, zx14⟩, mq13⟩ := q13
      rw [mq13]
      refine g_iconst (v := 3) dX7_looked_45 (by decide) ?_
      refine cl_X7_125 (c := 60) (As := [.int x14, .int 3]) rfl (c_X7_needs (G := G) hs hu  x14 3 (by first | trivial | decide | lia | grind) (by first | trivial | decide | lia | grind) (d)) rfl (by omega) rfl rfl (Nat.le_of_ble_eq_true rfl) dX7_looked_46 (fun r15 u16 q17 => ?_)
      obtain ⟨rfl, mq17⟩ := q17
      obtain ⟨hu16, gu16, ku160⟩ := mq17
      have fu16 : fk [60] [3, 7, 10, 11, 13, 14, 15, 16, 17, 22, 28] u u16 := fk_tr f0 gu16 (by decide) (by decide)
      have T18 : u16.1 60 17 = t1 := (fk_at gu16 (by decide)).trans Tt1
      obtain ⟨t19, Tt19⟩ : ∃ t, u16.1 60 18 = t := ⟨_, rfl⟩
      have Rt19 : 0 ≤ t19 ∧ t19 ≤ 6 := by rw [← Tt19]; exact iv_at hu16 _ _ rfl
      refine g_aload_n dX7_looked_49 rfl ?_
      refine f_X7_91 rfl rfl dX7_looked_50 ?_
      refine g_topi (fun x20 ex20 => ?_)
      have rx20 : 0 ≤ x20 ∧ x20 ≤ 6 := by rw [ex20]; exact iv_at hu16 _ _ rfl
      have qx20 : x20 = t19 := ex20.trans Tt19
      refine g_if_ne (tgt := 63) dX7_looked_53 (by decide) (fun c21 => ?_) (fun c21 => ?_)
      · refine g_iconst (v := 0) dX7_looked_63 (by decide) ?_
        exact g_iret (ty := .int) dX7_looked_64 rfl rfl ⟨⟨_, rfl, by first | trivial | lia | grind⟩, hu16, fu16, (by first | rfl | (rw [Tt19]; grind) | rw [Tt19])⟩
      · refine g_aload_n dX7_looked_56 rfl ?_
        refine f_X7_122 rfl rfl dX7_looked_57 ?_
        refine g_topi (fun x22 ex22 => ?_)
        have qx22 : x22 = t1 := ex22.trans T18
        refine g_goto (tgt := 64) dX7_looked_60 (by decide) ?_
        exact g_iret (ty := .int) dX7_looked_64 rfl rfl ⟨⟨_, rfl, by first | trivial | lia | grind⟩, hu16, fu16, (by first | rfl | (rw [Tt19]; grind) | rw [Tt19])⟩
  · refine g_aload_n dX7_looked_7 rfl ?_
    refine g_aload_n dX7_looked_8 rfl ?_
    refine f_X7_111 rfl rfl dX7_looked_9 ?_
    refine g_topi (fun x23 ex23 => ?_)
    have s24 : u.1 60 16 = x23 := ex23.symm
    refine g_iconst (v := 2) dX7_looked_12 (by decide) ?_
    refine g_icmp_ne (tgt := 20) dX7_looked_13 (by decide) (fun c25 => ?_) (fun c25 => ?_)
    · refine g_iconst (v := 0) dX7_looked_20 (by decide) ?_
      refine g_iconst (v := 2) dX7_looked_21 (by decide) ?_
      refine cl_X7_125 (c := 60) (As := [.int 0, .int 2]) rfl (c_X7_needs (G := G) hs hu  0 2 (by first | trivial | decide | lia | grind) (by first | trivial | decide | lia | grind) (d)) rfl (by omega) rfl rfl (Nat.le_of_ble_eq_true rfl) dX7_looked_22 (fun r26 u27 q28 => ?_)
      obtain ⟨rfl, mq28⟩ := q28
      obtain ⟨hu27, gu27, ku270⟩ := mq28
      have fu27 : fk [60] [3, 7, 10, 11, 13, 14, 15, 16, 17, 22, 28] u u27 := fk_tr f0 gu27 (by decide) (by decide)
      have T29 : u27.1 60 17 = t1 := (fk_at gu27 (by decide)).trans Tt1
      obtain ⟨t30, Tt30⟩ : ∃ t, u27.1 60 18 = t := ⟨_, rfl⟩
      have Rt30 : 0 ≤ t30 ∧ t30 ≤ 6 := by rw [← Tt30]; exact iv_at hu27 _ _ rfl
      have s31 : u27.1 60 16 = x23 := (fk_at gu27 (by decide)).trans s24
      refine g_aload_n dX7_looked_25 rfl ?_
      refine f_X7_91 rfl rfl dX7_looked_26 ?_
      refine g_topi (fun x32 ex32 => ?_)
      have rx32 : 0 ≤ x32 ∧ x32 ≤ 6 := by rw [ex32]; exact iv_at hu27 _ _ rfl
      have qx32 : x32 = t30 := ex32.trans Tt30
      refine g_if_ne (tgt := 49) dX7_looked_29 (by decide) (fun c33 => ?_) (fun c33 => ?_)
      · refine g_aload_n dX7_looked_49 rfl ?_
        refine f_X7_91 rfl rfl dX7_looked_50 ?_
        refine g_topi (fun x34 ex34 => ?_)
        have rx34 : 0 ≤ x34 ∧ x34 ≤ 6 := by rw [ex34]; exact iv_at hu27 _ _ rfl
        have qx34 : x34 = t30 := ex34.trans Tt30
        refine g_if_ne (tgt := 63) dX7_looked_53 (by decide) (fun c35 => ?_) (fun c35 => ?_)
        · refine g_iconst (v := 0) dX7_looked_63 (by decide) ?_
          exact g_iret (ty := .int) dX7_looked_64 rfl rfl ⟨⟨_, rfl, by first | trivial | lia | grind⟩, hu27, fu27, (by first | rfl | (rw [Tt30]; grind) | rw [Tt30])⟩
        · refine g_aload_n dX7_looked_56 rfl ?_
          refine f_X7_122 rfl rfl dX7_looked_57 ?_
          refine g_topi (fun x36 ex36 => ?_)
          have qx36 : x36 = t1 := ex36.trans T29
          refine g_goto (tgt := 64) dX7_looked_60 (by decide) ?_
          exact g_iret (ty := .int) dX7_looked_64 rfl rfl ⟨⟨_, rfl, by first | trivial | lia | grind⟩, hu27, fu27, (by first | rfl | (rw [Tt30]; grind) | rw [Tt30])⟩
      · refine g_aload_n dX7_looked_32 rfl ?_
        refine g_aload_n dX7_looked_33 rfl ?_
        refine f_X7_122 rfl rfl dX7_looked_34 ?_
        refine g_topi (fun x37 ex37 => ?_)
        have qx37 : x37 = t1 := ex37.trans T29
        refine g_i2l dX7_looked_37 ?_
        refine g_iload_n dX7_looked_38 rfl ?_
        refine g_i2l dX7_looked_39 ?_
        refine g_iload_n dX7_looked_40 rfl ?_
        refine g_i2l dX7_looked_41 ?_
        refine cl_X7_84 (As := [.long x37.toInt64, .long lo.toInt64, .long hi.toInt64]) rfl (c_X7_in (G := G) hs hu27  x37 lo hi  (d)) rfl (by omega) rfl (Nat.le_of_ble_eq_true rfl) dX7_looked_42 (fun r38 u39 q40 => ?_)
        obtain ⟨⟨x41, rfl, tx41, nx41, zx41⟩, mq40⟩ := q40
        rw [mq40]
        refine g_iconst (v := 3) dX7_looked_45 (by decide) ?_
        refine cl_X7_125 (c := 60) (As := [.int x41, .int 3]) rfl (c_X7_needs (G := G) hs hu27  x41 3 (by first | trivial | decide | lia | grind) (by first | trivial | decide | lia | grind) (d)) rfl (by omega) rfl rfl (Nat.le_of_ble_eq_true rfl) dX7_looked_46 (fun r42 u43 q44 => ?_)
        obtain ⟨rfl, mq44⟩ := q44
        obtain ⟨hu43, gu43, ku430⟩ := mq44
        have fu43 : fk [60] [3, 7, 10, 11, 13, 14, 15, 16, 17, 22, 28] u u43 := fk_tr fu27 gu43 (by decide) (by decide)
        have T45 : u43.1 60 17 = t1 := (fk_at gu43 (by decide)).trans T29
        obtain ⟨t46, Tt46⟩ : ∃ t, u43.1 60 18 = t := ⟨_, rfl⟩
        have Rt46 : 0 ≤ t46 ∧ t46 ≤ 6 := by rw [← Tt46]; exact iv_at hu43 _ _ rfl
        have s47 : u43.1 60 16 = x23 := (fk_at gu43 (by decide)).trans s31
        refine g_aload_n dX7_looked_49 rfl ?_
        refine f_X7_91 rfl rfl dX7_looked_50 ?_
        refine g_topi (fun x48 ex48 => ?_)
        have rx48 : 0 ≤ x48 ∧ x48 ≤ 6 := by rw [ex48]; exact iv_at hu43 _ _ rfl
        have qx48 : x48 = t46 := ex48.trans Tt46
        refine g_if_ne (tgt := 63) dX7_looked_53 (by decide) (fun c49 => ?_) (fun c49 => ?_)
        · refine g_iconst (v := 0) dX7_looked_63 (by decide) ?_
          exact g_iret (ty := .int) dX7_looked_64 rfl rfl ⟨⟨_, rfl, by first | trivial | lia | grind⟩, hu43, fu43, (by first | rfl | (rw [Tt46]; grind) | rw [Tt46])⟩
        · refine g_aload_n dX7_looked_56 rfl ?_
          refine f_X7_122 rfl rfl dX7_looked_57 ?_
          refine g_topi (fun x50 ex50 => ?_)
          have qx50 : x50 = t1 := ex50.trans T45
          refine g_goto (tgt := 64) dX7_looked_60 (by decide) ?_
          exact g_iret (ty := .int) dX7_looked_64 rfl rfl ⟨⟨_, rfl, by first | trivial | lia | grind⟩, hu43, fu43, (by first | rfl | (rw [Tt46]; grind) | rw [Tt46])⟩
    · refine g_iconst (v := 1) dX7_looked_16 (by decide) ?_
      refine g_goto (tgt := 21) dX7_looked_17 (by decide) ?_
      refine g_iconst (v := 2) dX7_looked_21 (by decide) ?_
      refine cl_X7_125 (c := 60) (As := [.int 1, .int 2]) rfl (c_X7_needs (G := G) hs hu  1 2 (by first | trivial | decide | lia | grind) (by first | trivial | decide | lia | grind) (d)) rfl (by omega) rfl rfl (Nat.le_of_ble_eq_true rfl) dX7_looked_22 (fun r51 u52 q53 => ?_)
      obtain ⟨rfl, mq53⟩ := q53
      obtain ⟨hu52, gu52, ku520⟩ := mq53
      have fu52 : fk [60] [3, 7, 10, 11, 13, 14, 15, 16, 17, 22, 28] u u52 := fk_tr f0 gu52 (by decide) (by decide)
      have T54 : u52.1 60 17 = t1 := (fk_at gu52 (by decide)).trans Tt1
      obtain ⟨t55, Tt55⟩ : ∃ t, u52.1 60 18 = t := ⟨_, rfl⟩
      have Rt55 : 0 ≤ t55 ∧ t55 ≤ 6 := by rw [← Tt55]; exact iv_at hu52 _ _ rfl
      have s56 : u52.1 60 16 = x23 := (fk_at gu52 (by decide)).trans s24
      refine g_aload_n dX7_looked_25 rfl ?_
      refine f_X7_91 rfl rfl dX7_looked_26 ?_
      refine g_topi (fun x57 ex57 => ?_)
      have rx57 : 0 ≤ x57 ∧ x57 ≤ 6 := by rw [ex57]; exact iv_at hu52 _ _ rfl
      have qx57 : x57 = t55 := ex57.trans Tt55
      refine g_if_ne (tgt := 49) dX7_looked_29 (by decide) (fun c58 => ?_) (fun c58 => ?_)
      · refine g_aload_n dX7_looked_49 rfl ?_
        refine f_X7_91 rfl rfl dX7_looked_50 ?_
        refine g_topi (fun x59 ex59 => ?_)
        have rx59 : 0 ≤ x59 ∧ x59 ≤ 6 := by rw [ex59]; exact iv_at hu52 _ _ rfl
        have qx59 : x59 = t55 := ex59.trans Tt55
        refine g_if_ne (tgt := 63) dX7_looked_53 (by decide) (fun c60 => ?_) (fun c60 => ?_)
        · refine g_iconst (v := 0) dX7_looked_63 (by decide) ?_
          exact g_iret (ty := .int) dX7_looked_64 rfl rfl ⟨⟨_, rfl, by first | trivial | lia | grind⟩, hu52, fu52, (by first | rfl | (rw [Tt55]; grind) | rw [Tt55])⟩
        · refine g_aload_n dX7_looked_56 rfl ?_
          refine f_X7_122 rfl rfl dX7_looked_57 ?_
          refine g_topi (fun x61 ex61 => ?_)
          have qx61 : x61 = t1 := ex61.trans T54
          refine g_goto (tgt := 64) dX7_looked_60 (by decide) ?_
          exact g_iret (ty := .int) dX7_looked_64 rfl rfl ⟨⟨_, rfl, by first | trivial | lia | grind⟩, hu52, fu52, (by first | rfl | (rw [Tt55]; grind) | rw [Tt55])⟩
      · refine g_aload_n dX7_looked_32 rfl ?_
        refine g_aload_n dX7_looked_33 rfl ?_
        refine f_X7_122 rfl rfl dX7_looked_34 ?_
        refine g_topi (fun x62 ex62 => ?_)
        have qx62 : x62 = t1 := ex62.trans T54
        refine g_i2l dX7_looked_37 ?_
        refine g_iload_n dX7_looked_38 rfl ?_
        refine g_i2l dX7_looked_39 ?_
        refine g_iload_n dX7_looked_40 rfl ?_
        refine g_i2l dX7_looked_41 ?_
        refine cl_X7_84 (As := [.long x62.toInt64, .long lo.toInt64, .long hi.toInt64]) rfl (c_X7_in (G := G) hs hu52  x62 lo hi  (d)) rfl (by omega) rfl (Nat.le_of_ble_eq_true rfl) dX7_looked_42 (fun r63 u64 q65 => ?_)
        obtain ⟨⟨x66, rfl, tx66, nx66, zx66⟩, mq65⟩ := q65
        rw [mq65]
        refine g_iconst (v := 3) dX7_looked_45 (by decide) ?_
        refine cl_X7_125 (c := 60) (As := [.int x66, .int 3]) rfl (c_X7_needs (G := G) hs hu52  x66 3 (by first | trivial | decide | lia | grind) (by first | trivial | decide | lia | grind) (d)) rfl (by omega) rfl rfl (Nat.le_of_ble_eq_true rfl) dX7_looked_46 (fun r67 u68 q69 => ?_)
        obtain ⟨rfl, mq69⟩ := q69
        obtain ⟨hu68, gu68, ku680⟩ := mq69
        have fu68 : fk [60] [3, 7, 10, 11, 13, 14, 15, 16, 17, 22, 28] u u68 := fk_tr fu52 gu68 (by decide) (by decide)
        have T70 : u68.1 60 17 = t1 := (fk_at gu68 (by decide)).trans T54
        obtain ⟨t71, Tt71⟩ : ∃ t, u68.1 60 18 = t := ⟨_, rfl⟩
        have Rt71 : 0 ≤ t71 ∧ t71 ≤ 6 := by rw [← Tt71]; exact iv_at hu68 _ _ rfl
        have s72 : u68.1 60 16 = x23 := (fk_at gu68 (by decide)).trans s56
        refine g_aload_n dX7_looked_49 rfl ?_
        refine f_X7_91 rfl rfl dX7_looked_50 ?_
        refine g_topi (fun x73 ex73 => ?_)
        have rx73 : 0 ≤ x73 ∧ x73 ≤ 6 := by rw [ex73]; exact iv_at hu68 _ _ rfl
        have qx73 : x73 = t71 := ex73.trans Tt71
        refine g_if_ne (tgt := 63) dX7_looked_53 (by decide) (fun c74 => ?_) (fun c74 => ?_)
        · refine g_iconst (v := 0) dX7_looked_63 (by decide) ?_
          exact g_iret (ty := .int) dX7_looked_64 rfl rfl ⟨⟨_, rfl, by first | trivial | lia | grind⟩, hu68, fu68, (by first | rfl | (rw [Tt71]; grind) | rw [Tt71])⟩
        · refine g_aload_n dX7_looked_56 rfl ?_
          refine f_X7_122 rfl rfl dX7_looked_57 ?_
          refine g_topi (fun x75 ex75 => ?_)
          have qx75 : x75 = t1 := ex75.trans T70
          refine g_goto (tgt := 64) dX7_looked_60 (by decide) ?_
          exact g_iret (ty := .int) dX7_looked_64 rfl rfl ⟨⟨_, rfl, by first | trivial | lia | grind⟩, hu68, fu68, (by first | rfl | (rw [Tt71]; grind) | rw [Tt71])⟩
abbrev q_X7_readNumber (u : uk_Mem) (lo : Int32) (hi : Int32) (r : Option Value) (u' : uk_Mem) : Prop := (∃ x : Int32, r = some (.int x) ∧ (u'.1 60 18 = 0 → lo ≤ x ∧ x ≤ hi) ∧ (x = 0 ∨ (lo ≤ x ∧ x ≤ hi))) ∧ (iv u' ∧ fk [60] [3, 7, 10, 11, 13, 22, 28] u u' ∧ (u'.1 60 18 = 0 → u.1 60 18 = 0) ∧ (u'.1 60 18 = 0 → u.1 60 14 ≤ u'.1 60 15 ∧ u'.1 60 15 ≤ u'.1 60 14))
set_option maxHeartbeats 4000000 in
set_option maxRecDepth 20000 in
theorem c_X7_readNumber {G : uk_D} (hs : uk_Sep G) {u : uk_Mem} (hu : iv u) (lo : Int32) (hi : Int32) (d : Nat) : uk_Meth G (d + 2) mX7_readNumber [.ref (uk_ad G 60), .int lo, .int hi] u (q_X7_readNumber u lo hi) := by
  refine uk_Meth.of hs (by decide) (Nat.le_of_ble_eq_true rfl) (fun X => ?_)
  have f0 : fk [60] [3, 7, 10, 11, 13, 22, 28] u u := fk_rf
  obtain ⟨t1, Tt1⟩ : ∃ t, u.1 60 14 = t := ⟨_, rfl⟩
  obtain ⟨t2, Tt2⟩ : ∃ t, u.1 60 15 = t := ⟨_, rfl⟩
  obtain ⟨t3, Tt3⟩ : ∃ t, u.1 60 18 = t := ⟨_, rfl⟩
  refine g_aload_n dX7_readNumber_0 rfl ?_
  refine g_iload_n dX7_readNumber_1 rfl ?_
  refine g_iload_n dX7_readNumber_2 rfl ?_
  refine cl_X7_129 (c := 60) (As := [.int lo, .int hi]) rfl (c_X7_looked (G := G) hs hu  lo hi  (d)) rfl (by omega) rfl rfl (Nat.le_of_ble_eq_true rfl) dX7_readNumber_3 (fun r4 u5 q6 => ?_)
  obtain ⟨⟨x7, rfl, tx7⟩, mq6⟩ := q6
  obtain ⟨hu5, gu5, ku50⟩ := mq6
  have fu5 : fk [60] [3, 7, 10, 11, 13, 22, 28] u u5 := fk_tr f0 gu5 (by decide) (by decide)
  have T8 : u5.1 60 14 = t1 := (fk_at gu5 (by decide)).trans Tt1
  have T9 : u5.1 60 15 = t2 := (fk_at gu5 (by decide)).trans Tt2
  obtain ⟨t10, Tt10⟩ : ∃ t, u5.1 60 18 = t := ⟨_, rfl⟩
  have Rt10 : 0 ≤ t10 ∧ t10 ≤ 6 := by rw [← Tt10]; exact iv_at hu5 _ _ rfl
  refine g_istore_n dX7_readNumber_6 (by decide) ?_
  refine g_aload_n dX7_readNumber_7 rfl ?_
  refine cl_X7_133 (c := 60) (As := []) rfl (c_X7_next (G := G) hs hu5    (d)) rfl (by omega) rfl rfl (Nat.le_of_ble_eq_true rfl) dX7_readNumber_8 (fun r11 u12 q13 => ?_)
  obtain ⟨rfl, mq13⟩ := q13
  obtain ⟨hu12, gu12, ku120, ku121, ku122, ku123⟩ := mq13
  have fu12 : fk [60] [3, 7, 10, 11, 13, 22, 28] u u12 := fk_tr fu5 gu12 (by decide) (by decide)
  obtain ⟨t14, Tt14⟩ : ∃ t, u12.1 60 14 = t := ⟨_, rfl⟩
  have Rt14 : 0 ≤ t14 ∧ t14 ≤ 160 := by rw [← Tt14]; exact iv_at hu12 _ _ rfl
  obtain ⟨t15, Tt15⟩ : ∃ t, u12.1 60 15 = t := ⟨_, rfl⟩
  have Rt15 : 0 ≤ t15 ∧ t15 ≤ 160 := by rw [← Tt15]; exact iv_at hu12 _ _ rfl
  obtain ⟨t16, Tt16⟩ : ∃ t, u12.1 60 18 = t := ⟨_, rfl⟩
  have Rt16 : 0 ≤ t16 ∧ t16 ≤ 6 := by rw [← Tt16]; exact iv_at hu12 _ _ rfl
  refine g_iload_n dX7_readNumber_11 rfl ?_
  exact g_iret (ty := .int) dX7_readNumber_12 rfl rfl ⟨⟨_, rfl, by first | trivial | lia | grind⟩, hu12, fu12, (by first | rfl | (rw [Tt16]; grind) | rw [Tt16]), (by first | rfl | (rw [Tt16, Tt15, Tt14]; grind) | rw [Tt16, Tt15, Tt14])⟩
abbrev q_X7_firstDraft (u : uk_Mem)  (r : Option Value) (u' : uk_Mem) : Prop := (r = none) ∧ (iv u' ∧ fk [60, 66] [3, 13, 14, 15, 16, 17, 18, 19, 22, 28] u u' ∧ rf u' ∧ u'.1 60 7 = 0)
set_option maxHeartbeats 4000000 in
set_option maxRecDepth 20000 in
theorem c_X7_firstDraft {G : uk_D} (hs : uk_Sep G) {u : uk_Mem} (hu : iv u)  (d : Nat) : uk_Meth G d mX7_firstDraft [.ref (uk_ad G 60)] u (q_X7_firstDraft u) := by
  refine uk_Meth.of hs (by decide) (Nat.le_of_ble_eq_true rfl) (fun X => ?_)
  have f0 : fk [60, 66] [3, 13, 14, 15, 16, 17, 18, 19, 22, 28] u u := fk_rf
  refine g_iconst (v := 0) dX7_firstDraft_0 (by decide) ?_
  refine g_istore_n dX7_firstDraft_1 (by decide) ?_
  have L2_0 : ∀ i2 : Int32, 0 ≤ i2 → i2 ≤ 51 → ∀ (u3 : uk_Mem), iv u3 → fk [60, 66] [3, 13, 14, 15, 16, 17, 18, 19, 22, 28] u u3 → uk_G G X mX7_firstDraft d (q_X7_firstDraft u) 2 [(0, .ref (uk_ad G 60)), (1, .int i2)] [] u3 := by
    refine uk_upl 51 ?_
    intro i2 ai2 bi2 ihi2  u3 hu3 fu3
    refine g_iload_n dX7_firstDraft_2 rfl ?_
    refine g_bipush (v := 51) dX7_firstDraft_3 (by decide) ?_
    refine g_icmp_ge (tgt := 21) dX7_firstDraft_5 (by decide) (fun c4 => ?_) (fun c4 => ?_)
    · refine g_aload_n dX7_firstDraft_21 rfl ?_
      refine g_iconst (v := 0) dX7_firstDraft_22 (by decide) ?_
      refine p_X7_69 rfl rfl dX7_firstDraft_23 ?_
      refine g_mem (fun u5 eu5 => ?_)
      have hu5 : iv u5 := by rw [eu5]; exact iv_up hu3 rfl (by first | lia | grind) (by first | lia | grind)
      have fu5 : fk [60, 66] [3, 13, 14, 15, 16, 17, 18, 19, 22, 28] u u5 := by rw [eu5]; exact fk_up fu3 (by decide) (fun _ => by decide)
      have s6 : u5.1 60 7 = 0 := by rw [eu5, uk_up_at]; exact if_pos ⟨rfl, rfl⟩
      refine g_aload_n dX7_firstDraft_26 rfl ?_
      refine g_iconst (v := 0) dX7_firstDraft_27 (by decide) ?_
      refine p_X7_73 rfl rfl dX7_firstDraft_28 ?_
      refine g_mem (fun u7 eu7 => ?_)
      have hu7 : iv u7 := by rw [eu7]; exact iv_upF hu5 rfl
      have fu7 : fk [60, 66] [3, 13, 14, 15, 16, 17, 18, 19, 22, 28] u u7 := by rw [eu7]; exact fk_up fu5 (by decide) (fun _ => by decide)
      have s8 : u7.1 60 10 = 0 := by rw [eu7, uk_up_at]; exact if_pos ⟨rfl, rfl⟩
      refine g_aload_n dX7_firstDraft_31 rfl ?_
      refine g_bipush (v := (-4)) dX7_firstDraft_32 (by decide) ?_
      refine p_X7_76 rfl rfl dX7_firstDraft_34 ?_
      refine g_mem (fun u9 eu9 => ?_)
      have hu9 : iv u9 := by rw [eu9]; exact iv_upF hu7 rfl
      have fu9 : fk [60, 66] [3, 13, 14, 15, 16, 17, 18, 19, 22, 28] u u9 := by rw [eu9]; exact fk_up fu7 (by decide) (fun _ => by decide)
      have s10 : u9.1 60 11 = (-4) := by rw [eu9, uk_up_at]; exact if_pos ⟨rfl, rfl⟩
      exact g_vret dX7_firstDraft_37 rfl ⟨rfl, hu9, fu9, (fun _ => rd_0 (by grind [uk_up_at])), (by grind [uk_up_at])⟩
    · refine g_aload_n dX7_firstDraft_8 rfl ?_
      refine f_X7_26 rfl rfl dX7_firstDraft_9 ?_
      refine g_iload_n dX7_firstDraft_12 rfl ?_
      refine g_iconst (v := 0) dX7_firstDraft_13 (by decide) ?_
      have v11 : vp_in i2 51 := uk_vin 51 rfl (by first | decide | lia | grind) (by first | decide | lia | grind)
      have b12 := uk_cl v11
      refine g_iast rfl rfl v11 dX7_firstDraft_14 ?_
      refine g_mem (fun u13 eu13 => ?_)
      have hu13 : iv u13 := by rw [eu13]; exact iv_st hu3 (by unfold uk_is51; decide) (by first | decide | lia | grind) (by first | decide | lia | grind) (fun q => by first | decide | lia | grind) (fun q => by first | decide | lia | grind) (fun q => by first | decide | lia | grind)
      have fu13 : fk [60, 66] [3, 13, 14, 15, 16, 17, 18, 19, 22, 28] u u13 := by rw [eu13]; exact fk_up fu3 (by decide) (fun q => absurd q (by decide))
      refine g_iinc (v := i2 + 1) dX7_firstDraft_15 rfl rfl (by decide) ?_
      refine g_goto (tgt := 2) dX7_firstDraft_18 (by decide) ?_
      refine g_pick (lv' := [(0, .ref (uk_ad G 60)), (1, .int (i2 + 1))]) [0, 1] rfl ?_
      exact ihi2 (by first | lia | grind)  u13 hu13 fu13 
  refine g_pick (lv' := [(0, .ref (uk_ad G 60)), (1, .int 0)]) [0, 1] rfl ?_
  exact L2_0 0 (by first | decide | lia | grind) (by first | decide | lia | grind)  u hu f0 
abbrev q_X7_feed (u : uk_Mem) (c : Int32) (r : Option Value) (u' : uk_Mem) : Prop := (∃ x : Int32, r = some (.int x) ∧ (((c < 0 ∨ 127 < c) ∧ x = -1 ∧ u'.1 60 13 = u.1 60 13) ∨ (0 ≤ c ∧ c ≤ 127 ∧ u.1 60 13 = 160 ∧ x = -3 ∧ u'.1 60 13 = u.1 60 13) ∨ (0 ≤ c ∧ c ≤ 127 ∧ ¬ u.1 60 13 = 160 ∧ x = u.1 60 13 + 1 ∧ u'.1 60 13 = u.1 60 13 + 1))) ∧ (iv u' ∧ fk [60, 69] [3, 7, 10, 11, 14, 15, 16, 17, 18, 19, 22, 28] u u')
set_option maxHeartbeats 4000000 in
set_option maxRecDepth 20000 in
theorem c_X7_feed {G : uk_D} (hs : uk_Sep G) {u : uk_Mem} (hu : iv u) (c : Int32) (d : Nat) : uk_Meth G (d + 1) mX7_feed [.ref (uk_ad G 60), .int c] u (q_X7_feed u c) := by
  refine uk_Meth.of hs (by decide) (Nat.le_of_ble_eq_true rfl) (fun X => ?_)
  have f0 : fk [60, 69] [3, 7, 10, 11, 14, 15, 16, 17, 18, 19, 22, 28] u u := fk_rf
  refine g_iload_n dX7_feed_0 rfl ?_
  refine g_i2l dX7_feed_1 ?_
  refine g_lconst (v := 0) dX7_feed_2 (by decide) ?_
  refine g_ldc2 (v := 127) k_X7_82 dX7_feed_3 ?_
  refine cl_X7_84 (As := [.long c.toInt64, .long 0, .long 127]) rfl (c_X7_in (G := G) hs hu  c 0 127  (d)) rfl (by omega) rfl (Nat.le_of_ble_eq_true rfl) dX7_feed_6 (fun r1 u2 q3 => ?_)
  obtain ⟨⟨x4, rfl, tx4, nx4, zx4⟩, mq3⟩ := q3
  rw [mq3]
  refine g_if_ne (tgt := 14) dX7_feed_9 (by decide) (fun c5 => ?_) (fun c5 => ?_)
  · have zc5 := nx4 c5
    refine g_aload_n dX7_feed_14 rfl ?_
    refine f_X7_88 rfl rfl dX7_feed_15 ?_
    refine g_topi (fun x6 ex6 => ?_)
    have rx6 : 0 ≤ x6 ∧ x6 ≤ 160 := by rw [ex6]; exact iv_at hu _ _ rfl
    have s7 : u.1 60 13 = x6 := ex6.symm
    refine g_sipush (v := 160) dX7_feed_18 (by decide) ?_
    refine g_icmp_ne (tgt := 27) dX7_feed_21 (by decide) (fun c8 => ?_) (fun c8 => ?_)
    · refine g_aload_n dX7_feed_27 rfl ?_
      refine f_X7_35 rfl rfl dX7_feed_28 ?_
      refine g_aload_n dX7_feed_31 rfl ?_
      refine f_X7_88 rfl rfl dX7_feed_32 ?_
      refine g_topi (fun x9 ex9 => ?_)
      have rx9 : 0 ≤ x9 ∧ x9 ≤ 160 := by rw [ex9]; exact iv_at hu _ _ rfl
      have qx9 : x9 = x6 := by rw [ex9]; exact s7
      refine g_iload_n dX7_feed_35 rfl ?_
      have v10 : vp_in x9 160 := uk_vin 160 rfl (by first | decide | lia | grind) (by first | decide | lia | grind)
      have b11 := uk_cl v10
      refine g_iast rfl rfl v10 dX7_feed_36 ?_
      refine g_mem (fun u12 eu12 => ?_)
      have hu12 : iv u12 := by rw [eu12]; exact iv_up hu (uk_pick1 _ (by omega)) (by first | lia | grind) (by first | lia | grind)
      have fu12 : fk [60, 69] [3, 7, 10, 11, 14, 15, 16, 17, 18, 19, 22, 28] u u12 := by rw [eu12]; exact fk_up f0 (by decide) (fun q => absurd q (by decide))
      refine g_aload_n dX7_feed_37 rfl ?_
      refine g_dup dX7_feed_38 rfl ?_
      refine f_X7_88 rfl rfl dX7_feed_39 ?_
      refine g_topi (fun x13 ex13 => ?_)
      have rx13 : 0 ≤ x13 ∧ x13 ≤ 160 := by rw [ex13]; exact iv_at hu12 _ _ rfl
      have qx13 : x13 = x6 := by rw [ex13]; simp [eu12, uk_up_at, s7]
      refine g_iconst (v := 1) dX7_feed_42 (by decide) ?_
      refine g_iadd dX7_feed_43 ?_
      refine g_topi (fun x14 ex14 => ?_)
      refine p_X7_88 rfl rfl dX7_feed_44 ?_
      refine g_mem (fun u15 eu15 => ?_)
      have hu15 : iv u15 := by rw [eu15]; exact iv_up hu12 rfl (by first | lia | grind) (by first | lia | grind)
      have fu15 : fk [60, 69] [3, 7, 10, 11, 14, 15, 16, 17, 18, 19, 22, 28] u u15 := by rw [eu15]; exact fk_up fu12 (by decide) (fun _ => by decide)
      have s16 : u15.1 60 13 = x14 := by rw [eu15, uk_up_at]; exact if_pos ⟨rfl, rfl⟩
      refine g_aload_n dX7_feed_47 rfl ?_
      refine f_X7_88 rfl rfl dX7_feed_48 ?_
      refine g_topi (fun x17 ex17 => ?_)
      have rx17 : 0 ≤ x17 ∧ x17 ≤ 160 := by rw [ex17]; exact iv_at hu15 _ _ rfl
      have qx17 : x17 = x14 := by rw [ex17]; exact s16
      exact g_iret (ty := .int) dX7_feed_51 rfl rfl ⟨⟨_, rfl, by first | trivial | lia | grind⟩, hu15, fu15⟩
    · refine g_bipush (v := (-3)) dX7_feed_24 (by decide) ?_
      exact g_iret (ty := .int) dX7_feed_26 rfl rfl ⟨⟨_, rfl, by first | trivial | lia | grind⟩, hu, f0⟩
  · have zc5 := zx4 c5
    refine g_iconst (v := (-1)) dX7_feed_12 (by decide) ?_
    exact g_iret (ty := .int) dX7_feed_13 rfl rfl ⟨⟨_, rfl, by first | trivial | lia | grind⟩, hu, f0⟩
abbrev q_X7_end (u : uk_Mem) (n : Int32) (r : Option Value) (u' : uk_Mem) : Prop := (∃ x : Int32, r = some (.int x) ∧ (((n < 0 ∨ u.1 60 13 < n) ∧ x = -1 ∧ u'.1 60 13 = u.1 60 13) ∨ (0 ≤ n ∧ n ≤ u.1 60 13 ∧ x = u.1 60 13 ∧ u'.1 60 13 = n))) ∧ (iv u' ∧ fk [60] [3, 7, 10, 11, 14, 15, 16, 17, 18, 19, 22, 28] u u')
set_option maxHeartbeats 4000000 in
set_option maxRecDepth 20000 in
theorem c_X7_end {G : uk_D} (hs : uk_Sep G) {u : uk_Mem} (hu : iv u) (n : Int32) (d : Nat) : uk_Meth G (d + 1) mX7_end [.ref (uk_ad G 60), .int n] u (q_X7_end u n) := by
  refine uk_Meth.of hs (by decide) (Nat.le_of_ble_eq_true rfl) (fun X => ?_)
  have f0 : fk [60] [3, 7, 10, 11, 14, 15, 16, 17, 18, 19, 22, 28] u u := fk_rf
  refine g_iload_n dX7_end_0 rfl ?_
  refine g_i2l dX7_end_1 ?_
  refine g_lconst (v := 0) dX7_end_2 (by decide) ?_
  refine g_aload_n dX7_end_3 rfl ?_
  refine f_X7_88 rfl rfl dX7_end_4 ?_
  refine g_topi (fun x1 ex1 => ?_)
  have rx1 : 0 ≤ x1 ∧ x1 ≤ 160 := by rw [ex1]; exact iv_at hu _ _ rfl
  have s2 : u.1 60 13 = x1 := ex1.symm
  refine g_i2l dX7_end_7 ?_
  refine cl_X7_84 (As := [.long n.toInt64, .long 0, .long x1.toInt64]) rfl (c_X7_in (G := G) hs hu  n 0 x1  (d)) rfl (by omega) rfl (Nat.le_of_ble_eq_true rfl) dX7_end_8 (fun r3 u4 q5 => ?_)
  obtain ⟨⟨x6, rfl, tx6, nx6, zx6⟩, mq5⟩ := q5
  rw [mq5]
  refine g_if_ne (tgt := 16) dX7_end_11 (by decide) (fun c7 => ?_) (fun c7 => ?_)
  · have zc7 := nx6 c7
    refine g_aload_n dX7_end_16 rfl ?_
    refine f_X7_88 rfl rfl dX7_end_17 ?_
    refine g_topi (fun x8 ex8 => ?_)
    have rx8 : 0 ≤ x8 ∧ x8 ≤ 160 := by rw [ex8]; exact iv_at hu _ _ rfl
    have qx8 : x8 = x1 := by rw [ex8]; exact s2
    refine g_istore_n dX7_end_20 (by decide) ?_
    refine g_aload_n dX7_end_21 rfl ?_
    refine g_iload_n dX7_end_22 rfl ?_
    refine p_X7_88 rfl rfl dX7_end_23 ?_
    refine g_mem (fun u9 eu9 => ?_)
    have hu9 : iv u9 := by rw [eu9]; exact iv_up hu rfl (by first | lia | grind) (by first | lia | grind)
    have fu9 : fk [60] [3, 7, 10, 11, 14, 15, 16, 17, 18, 19, 22, 28] u u9 := by rw [eu9]; exact fk_up f0 (by decide) (fun _ => by decide)
    have s10 : u9.1 60 13 = n := by rw [eu9, uk_up_at]; exact if_pos ⟨rfl, rfl⟩
    refine g_iload_n dX7_end_26 rfl ?_
    exact g_iret (ty := .int) dX7_end_27 rfl rfl ⟨⟨_, rfl, by first | trivial | lia | grind⟩, hu9, fu9⟩
  · have zc7 := zx6 c7
    refine g_iconst (v := (-1)) dX7_end_14 (by decide) ?_
    exact g_iret (ty := .int) dX7_end_15 rfl rfl ⟨⟨_, rfl, by first | trivial | lia | grind⟩, hu, f0⟩
abbrev q_X7_fault (u : uk_Mem)  (r : Option Value) (u' : uk_Mem) : Prop := (∃ x : Int32, r = some (.int x) ∧ True) ∧ (u' = u)
set_option maxHeartbeats 4000000 in
set_option maxRecDepth 20000 in
theorem c_X7_fault {G : uk_D} (hs : uk_Sep G) {u : uk_Mem} (hu : iv u)  (d : Nat) : uk_Meth G d mX7_fault [.ref (uk_ad G 60)] u (q_X7_fault u) := by
  refine uk_Meth.of hs (by decide) (Nat.le_of_ble_eq_true rfl) (fun X => ?_)
  refine g_aload_n dX7_fault_0 rfl ?_
  refine f_X7_91 rfl rfl dX7_fault_1 ?_
  refine g_topi (fun x1 ex1 => ?_)
  have rx1 : 0 ≤ x1 ∧ x1 ≤ 6 := by rw [ex1]; exact iv_at hu _ _ rfl
  have s2 : u.1 60 18 = x1 := ex1.symm
  exact g_iret (ty := .int) dX7_fault_4 rfl rfl ⟨⟨_, rfl, by first | trivial | lia | grind⟩, rfl⟩
abbrev q_X7_torn (u : uk_Mem)  (r : Option Value) (u' : uk_Mem) : Prop := (∃ x : Int32, r = some (.int x) ∧ True) ∧ (u' = u)
set_option maxHeartbeats 4000000 in
set_option maxRecDepth 20000 in
theorem c_X7_torn {G : uk_D} (hs : uk_Sep G) {u : uk_Mem} (hu : iv u)  (d : Nat) : uk_Meth G d mX7_torn [.ref (uk_ad G 60)] u (q_X7_torn u) := by
  refine uk_Meth.of hs (by decide) (Nat.le_of_ble_eq_true rfl) (fun X => ?_)
  refine g_aload_n dX7_torn_0 rfl ?_
  refine f_X7_281 rfl rfl dX7_torn_1 ?_
  refine g_topi (fun x1 ex1 => ?_)
  have s2 : u.1 60 28 = x1 := ex1.symm
  exact g_iret (ty := .int) dX7_torn_4 rfl rfl ⟨⟨_, rfl, by first | trivial | lia | grind⟩, rfl⟩
