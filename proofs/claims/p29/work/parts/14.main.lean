abbrev q_X6_best (u : uk_Mem) (k : Int32) (w : Int32) (r : Option Value) (u' : uk_Mem) : Prop := (∃ x : Int32, r = some (.int x) ∧ True) ∧ (iv u' ∧ fr 13 49 u u')
abbrev q_X6_least (u : uk_Mem) (m : Int32) (w : Int32) (r : Option Value) (u' : uk_Mem) : Prop := (∃ x : Int32, r = some (.int x) ∧ True) ∧ (iv u' ∧ fr 13 49 u u')
abbrev q_X6_see (u : uk_Mem) (b : Int32) (r : Option Value) (u' : uk_Mem) : Prop := (∃ x : Int32, r = some (.int x) ∧ True) ∧ (iv u' ∧ fr 13 22 u u')
abbrev q_X6_forget (u : uk_Mem) (n : Int32) (r : Option Value) (u' : uk_Mem) : Prop := (∃ x : Int32, r = some (.int x) ∧ True) ∧ (iv u' ∧ fr 13 22 u u')
abbrev q_X6_fits (u : uk_Mem)  (r : Option Value) (u' : uk_Mem) : Prop := (∃ x : Int32, r = some (.int x) ∧ True) ∧ (iv u' ∧ fr 41 46 u u')
set_option maxHeartbeats 4000000 in
set_option maxRecDepth 20000 in
theorem c_X6_fits {G : uk_D} (hs : uk_Sep G) {u : uk_Mem} (hu : iv u)  (d : Nat) : uk_Meth G (d + 3) mX6_fits [.ref (uk_ad G 0)] u (q_X6_fits u) := by
  refine uk_Meth.of hs (by decide) (Nat.le_of_ble_eq_true rfl) (fun X => ?_)
  have f0 : fr 41 46 u u := fr_rf
  refine g_iconst (v := 0) dX6_fits_0 (by decide) ?_
  refine g_istore_n dX6_fits_1 (by decide) ?_
  refine g_pick (lv' := [(0, .ref (uk_ad G 0)), (1, .int 0)]) [0, 1] rfl ?_
  refine g_iconst (v := 0) dX6_fits_2 (by decide) ?_
  refine g_istore_n dX6_fits_3 (by decide) ?_
  refine g_pick (lv' := [(0, .ref (uk_ad G 0)), (1, .int 0), (2, .int 0)]) [0, 1, 2] rfl ?_
  have L4_0 : ∀ i3 : Int32, 0 ≤ i3 → i3 ≤ 8 → ∀ (w2 : Int32) (u4 : uk_Mem), iv u4 → fr 41 46 u u4 → uk_G G X mX6_fits (d + 3) (q_X6_fits u) 4 [(0, .ref (uk_ad G 0)), (1, .int w2), (2, .int i3)] [] u4 := by
    refine uk_upl 8 ?_
    intro i3 ai3 bi3 ihi3 w2 u4 hu4 fu4
    refine g_iload_n dX6_fits_4 rfl ?_
    refine g_aload_n dX6_fits_5 rfl ?_
    refine f_X6_10 rfl rfl dX6_fits_6 ?_
    refine f_X6_105 rfl rfl dX6_fits_9 ?_
    refine g_topi (fun x5 ex5 => ?_)
    have rx5 : 0 ≤ x5 ∧ x5 ≤ 8 := by rw [ex5]; exact iv_at hu4 _ _ rfl
    have s6 : u4.1 13 0 = x5 := ex5.symm
    refine g_icmp_ge (tgt := 65) dX6_fits_12 (by decide) (fun c7 => ?_) (fun c7 => ?_)
    · refine g_iload_n dX6_fits_65 rfl ?_
      exact g_iret (ty := .int) dX6_fits_66 rfl rfl ⟨⟨_, rfl, by first | trivial | lia | grind⟩, hu4, fu4⟩
    · refine g_aload_n dX6_fits_15 rfl ?_
      refine f_X6_48 rfl rfl dX6_fits_16 ?_
      refine g_aload_n dX6_fits_19 rfl ?_
      refine f_X6_10 rfl rfl dX6_fits_20 ?_
      refine g_iload_n dX6_fits_23 rfl ?_
      refine g_bipush (v := 127) dX6_fits_24 (by decide) ?_
      refine cl_X6_177 (c := 41) (As := [.ref (uk_ad G 13), .int i3, .int 127]) rfl (c_X1_grind (G := G) hs hu4  i3 127 (by first | trivial | decide | lia | grind) (by first | trivial | decide | lia | grind) (d)) rfl (by omega) rfl rfl (Nat.le_of_ble_eq_true rfl) dX6_fits_26 (fun r8 u9 q10 => ?_)
      obtain ⟨rfl, mq10⟩ := q10
      obtain ⟨hu9, gu9⟩ := mq10
      have fu9 : fr 41 46 u u9 := fr_tr fu4 gu9 (by omega) (by omega)
      have s11 : u9.1 13 0 = x5 := (fr_at gu9 (by omega)).trans s6
      refine g_aload_n dX6_fits_29 rfl ?_
      refine f_X6_48 rfl rfl dX6_fits_30 ?_
      refine g_aload_n dX6_fits_33 rfl ?_
      refine f_X6_10 rfl rfl dX6_fits_34 ?_
      refine f_X6_226 rfl rfl dX6_fits_37 ?_
      refine g_aload_n dX6_fits_40 rfl ?_
      refine f_X6_10 rfl rfl dX6_fits_41 ?_
      refine f_X6_223 rfl rfl dX6_fits_44 ?_
      refine g_topi (fun x12 ex12 => ?_)
      have rx12 : 0 ≤ x12 ∧ x12 ≤ 8 := by rw [ex12]; exact iv_at hu9 _ _ rfl
      have s13 : u9.1 13 9 = x12 := ex12.symm
      refine cl_X6_229 (c := 41) (As := [.ref (uk_ad G 21), .int x12]) rfl (c_X1_beginsWith (G := G) hs hu9  x12 (by first | trivial | decide | lia | grind) (by first | trivial | decide | lia | grind) (d + 2)) rfl (by omega) rfl rfl (Nat.le_of_ble_eq_true rfl) dX6_fits_47 (fun r14 u15 q16 => ?_)
      obtain ⟨⟨x17, rfl, tx17, nx17, zx17⟩, mq16⟩ := q16
      rw [mq16]
      refine g_if_eq (tgt := 59) dX6_fits_50 (by decide) (fun c18 => ?_) (fun c18 => ?_)
      · have zc18 := zx17 c18
        refine g_iinc (v := i3 + 1) dX6_fits_59 rfl rfl (by decide) ?_
        refine g_pick (lv' := [(0, .ref (uk_ad G 0)), (1, .int w2), (2, .int (i3 + 1))]) [0, 1, 2] rfl ?_
        refine g_goto (tgt := 4) dX6_fits_62 (by decide) ?_
        refine g_pick (lv' := [(0, .ref (uk_ad G 0)), (1, .int w2), (2, .int (i3 + 1))]) [0, 1, 2] rfl ?_
        exact ihi3 (by first | lia | grind) w2 u9 hu9 fu9 
      · have zc18 := nx17 c18
        refine g_iload_n dX6_fits_53 rfl ?_
        refine g_iconst (v := 1) dX6_fits_54 (by decide) ?_
        refine g_iload_n dX6_fits_55 rfl ?_
        refine g_ishl dX6_fits_56 (fun x19 ex19 => ?_)
        refine g_ior dX6_fits_57 ?_
        refine g_topi (fun x20 ex20 => ?_)
        refine g_istore_n dX6_fits_58 (by decide) ?_
        refine g_pick (lv' := [(0, .ref (uk_ad G 0)), (1, .int x20), (2, .int i3)]) [0, 1, 2] rfl ?_
        refine g_iinc (v := i3 + 1) dX6_fits_59 rfl rfl (by decide) ?_
        refine g_pick (lv' := [(0, .ref (uk_ad G 0)), (1, .int x20), (2, .int (i3 + 1))]) [0, 1, 2] rfl ?_
        refine g_goto (tgt := 4) dX6_fits_62 (by decide) ?_
        refine g_pick (lv' := [(0, .ref (uk_ad G 0)), (1, .int x20), (2, .int (i3 + 1))]) [0, 1, 2] rfl ?_
        exact ihi3 (by first | lia | grind) x20 u9 hu9 fu9 
  refine g_pick (lv' := [(0, .ref (uk_ad G 0)), (1, .int 0), (2, .int 0)]) [0, 1, 2] rfl ?_
  exact L4_0 0 (by first | decide | lia | grind) (by first | decide | lia | grind) 0 u hu f0 
abbrev q_X6_pairs (u : uk_Mem) (w : Int32) (r : Option Value) (u' : uk_Mem) : Prop := (∃ x : Int32, r = some (.int x) ∧ True) ∧ (iv u' ∧ fr 41 59 u u')
abbrev q_X6_drift (u : uk_Mem) (s : Int32) (n : Int32) (w : Int32) (r : Option Value) (u' : uk_Mem) : Prop := (∃ x : Int32, r = some (.int x) ∧ True) ∧ (iv u' ∧ fr 4 13 u u')
set_option maxHeartbeats 4000000 in
set_option maxRecDepth 20000 in
theorem c_X6_drift {G : uk_D} (hs : uk_Sep G) {u : uk_Mem} (hu : iv u) (s : Int32) (n : Int32) (w : Int32) (d : Nat) : uk_Meth G (d + 3) mX6_drift [.ref (uk_ad G 0), .int s, .int n, .int w] u (q_X6_drift u s n w) := by
  refine uk_Meth.of hs (by decide) (Nat.le_of_ble_eq_true rfl) (fun X => ?_)
  have f0 : fr 4 13 u u := fr_rf
  refine g_iload_n dX6_drift_0 rfl ?_
  refine g_iconst (v := 1) dX6_drift_1 (by decide) ?_
  refine g_icmp_lt (tgt := 18) dX6_drift_2 (by decide) (fun c1 => ?_) (fun c1 => ?_)
  · refine g_iconst (v := (-1)) dX6_drift_18 (by decide) ?_
    exact g_iret (ty := .int) dX6_drift_19 rfl rfl ⟨⟨_, rfl, by first | trivial | lia | grind⟩, hu, f0⟩
  · refine g_iload_n dX6_drift_5 rfl ?_
    refine g_bipush (v := 60) dX6_drift_6 (by decide) ?_
    refine g_icmp_gt (tgt := 18) dX6_drift_8 (by decide) (fun c2 => ?_) (fun c2 => ?_)
    · refine g_iconst (v := (-1)) dX6_drift_18 (by decide) ?_
      exact g_iret (ty := .int) dX6_drift_19 rfl rfl ⟨⟨_, rfl, by first | trivial | lia | grind⟩, hu, f0⟩
    · refine g_iload_n dX6_drift_11 rfl ?_
      refine cl_X6_162 (As := [.int w]) rfl (c_X6_isFlag (G := G) hs hu  w  (d + 2)) rfl (by omega) rfl (Nat.le_of_ble_eq_true rfl) dX6_drift_12 (fun r3 u4 q5 => ?_)
      obtain ⟨⟨x6, rfl, tx6, nx6, zx6⟩, mq5⟩ := q5
      rw [mq5]
      refine g_if_ne (tgt := 20) dX6_drift_15 (by decide) (fun c7 => ?_) (fun c7 => ?_)
      · have zc7 := nx6 c7
        refine g_aload_n dX6_drift_20 rfl ?_
        refine f_X6_10 rfl rfl dX6_drift_21 ?_
        refine f_X6_105 rfl rfl dX6_drift_24 ?_
        refine g_topi (fun x8 ex8 => ?_)
        have rx8 : 0 ≤ x8 ∧ x8 ≤ 8 := by rw [ex8]; exact iv_at hu _ _ rfl
        have s9 : u.1 13 0 = x8 := ex8.symm
        refine g_if_ne (tgt := 33) dX6_drift_27 (by decide) (fun c10 => ?_) (fun c10 => ?_)
        · refine g_aload_n dX6_drift_33 rfl ?_
          refine f_X6_16 rfl rfl dX6_drift_34 ?_
          refine g_aload_n dX6_drift_37 rfl ?_
          refine f_X6_10 rfl rfl dX6_drift_38 ?_
          refine cl_X6_101 (c := 4) (As := [.ref (uk_ad G 13)]) rfl (c_X0_copyFrom (G := G) hs hu uk_isK4 uk_isK13   (d + 2)) rfl (by omega) rfl rfl (Nat.le_of_ble_eq_true rfl) dX6_drift_41 (fun r11 u12 q13 => ?_)
          obtain ⟨rfl, mq13⟩ := q13
          obtain ⟨hu12, gu12⟩ := mq13
          have fu12 : fr 4 13 u u12 := fr_tr f0 gu12 (by omega) (by omega)
          have wu12_13_0 : u12.1 13 0 = u.1 13 0 := fr_at gu12 (by omega)
          have s14 : u12.1 13 0 = x8 := (fr_at gu12 (by omega)).trans s9
          refine g_iload_n dX6_drift_44 rfl ?_
          refine g_istore dX6_drift_45 (by decide) ?_
          refine g_pick (lv' := [(0, .ref (uk_ad G 0)), (1, .int s), (2, .int n), (3, .int w), (4, .int s)]) [0, 1, 2, 3, 4] rfl ?_
          refine g_iconst (v := 0) dX6_drift_47 (by decide) ?_
          refine g_istore dX6_drift_48 (by decide) ?_
          refine g_pick (lv' := [(0, .ref (uk_ad G 0)), (1, .int s), (2, .int n), (3, .int w), (4, .int s), (5, .int 0)]) [0, 1, 2, 3, 4, 5] rfl ?_
          have L50_14 : ∀ i17 : Int32, 0 ≤ i17 → i17 ≤ 60 → ∀ (w16 : Int32) (u18 : uk_Mem), iv u18 → fr 4 13 u u18 → u18.1 13 0 = u.1 13 0 → uk_G G X mX6_drift (d + 3) (q_X6_drift u s n w) 50 [(0, .ref (uk_ad G 0)), (1, .int s), (2, .int n), (3, .int w), (4, .int w16), (5, .int i17)] [] u18 := by
            refine uk_upl 60 ?_
            intro i17 ai17 bi17 ihi17 w16 u18 hu18 fu18 ji170
            refine g_iload dX6_drift_50 rfl ?_
            refine g_iload_n dX6_drift_52 rfl ?_
            refine g_icmp_ge (tgt := 135) dX6_drift_53 (by decide) (fun c19 => ?_) (fun c19 => ?_)
            · refine g_iload_n dX6_drift_135 rfl ?_
              refine g_if_ne (tgt := 157) dX6_drift_136 (by decide) (fun c20 => ?_) (fun c20 => ?_)
              · refine g_aload_n dX6_drift_157 rfl ?_
                refine f_X6_16 rfl rfl dX6_drift_158 ?_
                refine cl_X6_241 (c := 4) (As := []) rfl (c_X0_things (G := G) hs hu18 uk_isK4   (d + 2)) rfl (by omega) rfl rfl (Nat.le_of_ble_eq_true rfl) dX6_drift_161 (fun r21 u22 q23 => ?_)
                obtain ⟨⟨x24, rfl, tx24⟩, mq23⟩ := q23
                rw [mq23]
                exact g_iret (ty := .int) dX6_drift_164 rfl rfl ⟨⟨_, rfl, by first | trivial | lia | grind⟩, hu18, fu18⟩
              · refine g_aload_n dX6_drift_139 rfl ?_
                refine f_X6_16 rfl rfl dX6_drift_140 ?_
                refine f_X6_109 rfl rfl dX6_drift_143 ?_
                refine g_topi (fun x25 ex25 => ?_)
                have s26 : u18.1 4 11 = x25 := ex25.symm
                refine g_aload_n dX6_drift_146 rfl ?_
                refine f_X6_10 rfl rfl dX6_drift_147 ?_
                refine f_X6_109 rfl rfl dX6_drift_150 ?_
                refine g_topi (fun x27 ex27 => ?_)
                have s28 : u18.1 13 11 = x27 := ex27.symm
                refine g_isub dX6_drift_153 ?_
                refine g_topi (fun x29 ex29 => ?_)
                refine g_goto (tgt := 164) dX6_drift_154 (by decide) ?_
                exact g_iret (ty := .int) dX6_drift_164 rfl rfl ⟨⟨_, rfl, by first | trivial | lia | grind⟩, hu18, fu18⟩
            · refine g_iload dX6_drift_56 rfl ?_
              refine g_ldc (v := 1103515245) k_X6_237 dX6_drift_58 ?_
              refine g_imul dX6_drift_60 ?_
              refine g_topi (fun x30 ex30 => ?_)
              refine g_sipush (v := 12345) dX6_drift_61 (by decide) ?_
              refine g_iadd dX6_drift_64 ?_
              refine g_topi (fun x31 ex31 => ?_)
              refine g_istore dX6_drift_65 (by decide) ?_
              refine g_pick (lv' := [(0, .ref (uk_ad G 0)), (1, .int s), (2, .int n), (3, .int w), (4, .int x31), (5, .int i17)]) [0, 1, 2, 3, 4, 5] rfl ?_
              refine g_iload dX6_drift_67 rfl ?_
              refine cl_X6_238 (As := [.int x31]) rfl (c_X6_drawn (G := G) hs hu18  x31  (d + 2)) rfl (by omega) rfl (Nat.le_of_ble_eq_true rfl) dX6_drift_69 (fun r32 u33 q34 => ?_)
              obtain ⟨⟨x35, rfl, tx35⟩, mq34⟩ := q34
              rw [mq34]
              refine g_aload_n dX6_drift_72 rfl ?_
              refine f_X6_10 rfl rfl dX6_drift_73 ?_
              refine f_X6_105 rfl rfl dX6_drift_76 ?_
              refine g_topi (fun x36 ex36 => ?_)
              have rx36 : 0 ≤ x36 ∧ x36 ≤ 8 := by rw [ex36]; exact iv_at hu18 _ _ rfl
              have s37 : u18.1 13 0 = x36 := ex36.symm
              refine g_irem dX6_drift_79 (by first | decide | lia | grind) ?_
              refine g_topi (fun x38 ex38 => ?_)
              refine g_istore dX6_drift_80 (by decide) ?_
              refine g_pick (lv' := [(0, .ref (uk_ad G 0)), (1, .int s), (2, .int n), (3, .int w), (4, .int x31), (5, .int i17), (6, .int x38)]) [0, 1, 2, 3, 4, 5, 6] rfl ?_
              refine g_iload dX6_drift_82 rfl ?_
              refine g_ldc (v := 1103515245) k_X6_237 dX6_drift_84 ?_
              refine g_imul dX6_drift_86 ?_
              refine g_topi (fun x39 ex39 => ?_)
              refine g_sipush (v := 12345) dX6_drift_87 (by decide) ?_
              refine g_iadd dX6_drift_90 ?_
              refine g_topi (fun x40 ex40 => ?_)
              refine g_istore dX6_drift_91 (by decide) ?_
              refine g_pick (lv' := [(0, .ref (uk_ad G 0)), (1, .int s), (2, .int n), (3, .int w), (4, .int x40), (5, .int i17), (6, .int x38)]) [0, 1, 2, 3, 4, 5, 6] rfl ?_
              refine g_iload dX6_drift_93 rfl ?_
              refine cl_X6_238 (As := [.int x40]) rfl (c_X6_drawn (G := G) hs hu18  x40  (d + 2)) rfl (by omega) rfl (Nat.le_of_ble_eq_true rfl) dX6_drift_95 (fun r41 u42 q43 => ?_)
              obtain ⟨⟨x44, rfl, tx44⟩, mq43⟩ := q43
              rw [mq43]
              refine g_iconst (v := 2) dX6_drift_98 (by decide) ?_
              refine g_irem dX6_drift_99 (by first | decide | lia | grind) ?_
              refine g_topi (fun x45 ex45 => ?_)
              refine g_bipush (v := 10) dX6_drift_100 (by decide) ?_
              refine g_imul dX6_drift_102 ?_
              refine g_topi (fun x46 ex46 => ?_)
              refine g_iload dX6_drift_103 rfl ?_
              refine g_iadd dX6_drift_105 ?_
              refine g_topi (fun x47 ex47 => ?_)
              refine g_istore dX6_drift_106 (by decide) ?_
              refine g_pick (lv' := [(0, .ref (uk_ad G 0)), (1, .int s), (2, .int n), (3, .int w), (4, .int x40), (5, .int i17), (6, .int x38), (7, .int x47)]) [0, 1, 2, 3, 4, 5, 6, 7] rfl ?_
              refine g_aload_n dX6_drift_108 rfl ?_
              refine f_X6_16 rfl rfl dX6_drift_109 ?_
              refine g_iload dX6_drift_112 rfl ?_
              refine cl_X6_152 (c := 4) (As := [.int x47]) rfl (c_X0_isAble (G := G) hs hu18 uk_isK4 x47  (d)) rfl (by omega) rfl rfl (Nat.le_of_ble_eq_true rfl) dX6_drift_114 (fun r48 u49 q50 => ?_)
              obtain ⟨⟨x51, rfl, tx51, nx51, zx51⟩, mq50⟩ := q50
              rw [mq50]
              refine g_if_eq (tgt := 129) dX6_drift_117 (by decide) (fun c52 => ?_) (fun c52 => ?_)
              · have zc52 := zx51 c52
                refine g_iinc (v := i17 + 1) dX6_drift_129 rfl rfl (by decide) ?_
                refine g_pick (lv' := [(0, .ref (uk_ad G 0)), (1, .int s), (2, .int n), (3, .int w), (4, .int x40), (5, .int (i17 + 1)), (6, .int x38), (7, .int x47)]) [0, 1, 2, 3, 4, 5, 6, 7] rfl ?_
                refine g_goto (tgt := 50) dX6_drift_132 (by decide) ?_
                refine g_pick (lv' := [(0, .ref (uk_ad G 0)), (1, .int s), (2, .int n), (3, .int w), (4, .int x40), (5, .int (i17 + 1))]) [0, 1, 2, 3, 4, 5] rfl ?_
                exact ihi17 (by first | lia | grind) x40 u18 hu18 fu18 (by first | trivial | lia | grind | grind [uk_up_at] | (simp [uk_up_at, s37, ji170]; done) | (simp [uk_up_at]; grind))
              · have zc52 := nx51 c52
                refine g_aload_n dX6_drift_120 rfl ?_
                refine f_X6_16 rfl rfl dX6_drift_121 ?_
                refine g_iload dX6_drift_124 rfl ?_
                refine cl_X6_155 (c := 4) (As := [.int x47]) rfl (c_X0_perform (G := G) hs hu18 uk_isK4 x47 (by first | trivial | decide | lia | grind) (d)) rfl (by omega) rfl rfl (Nat.le_of_ble_eq_true rfl) dX6_drift_126 (fun r53 u54 q55 => ?_)
                obtain ⟨rfl, mq55⟩ := q55
                obtain ⟨hu54, gu54⟩ := mq55
                have fu54 : fr 4 13 u u54 := fr_tr fu18 gu54 (by omega) (by omega)
                have wu54_13_0 : u54.1 13 0 = u18.1 13 0 := fr_at gu54 (by omega)
                have s56 : u54.1 13 0 = x36 := (fr_at gu54 (by omega)).trans s37
                refine g_iinc (v := i17 + 1) dX6_drift_129 rfl rfl (by decide) ?_
                refine g_pick (lv' := [(0, .ref (uk_ad G 0)), (1, .int s), (2, .int n), (3, .int w), (4, .int x40), (5, .int (i17 + 1)), (6, .int x38), (7, .int x47)]) [0, 1, 2, 3, 4, 5, 6, 7] rfl ?_
                refine g_goto (tgt := 50) dX6_drift_132 (by decide) ?_
                refine g_pick (lv' := [(0, .ref (uk_ad G 0)), (1, .int s), (2, .int n), (3, .int w), (4, .int x40), (5, .int (i17 + 1))]) [0, 1, 2, 3, 4, 5] rfl ?_
                exact ihi17 (by first | lia | grind) x40 u54 hu54 fu54 (by first | trivial | lia | grind | grind [uk_up_at] | (simp [uk_up_at, s56, ji170]; done) | (simp [uk_up_at]; grind))
          refine g_pick (lv' := [(0, .ref (uk_ad G 0)), (1, .int s), (2, .int n), (3, .int w), (4, .int s), (5, .int 0)]) [0, 1, 2, 3, 4, 5] rfl ?_
          exact L50_14 0 (by first | decide | lia | grind) (by first | decide | lia | grind) s u12 hu12 fu12 (by first | trivial | lia | grind | grind [uk_up_at] | (simp [uk_up_at, s14]; done) | (simp [uk_up_at]; grind))
        · refine g_bipush (v := (-2)) dX6_drift_30 (by decide) ?_
          exact g_iret (ty := .int) dX6_drift_32 rfl rfl ⟨⟨_, rfl, by first | trivial | lia | grind⟩, hu, f0⟩
      · have zc7 := zx6 c7
        refine g_iconst (v := (-1)) dX6_drift_18 (by decide) ?_
        exact g_iret (ty := .int) dX6_drift_19 rfl rfl ⟨⟨_, rfl, by first | trivial | lia | grind⟩, hu, f0⟩
abbrev q_X6_keep (u : uk_Mem) (k : Int32) (r : Option Value) (u' : uk_Mem) : Prop := (∃ x : Int32, r = some (.int x) ∧ True) ∧ (iv u' ∧ fr 22 41 u u')
abbrev q_X6_back (u : uk_Mem) (k : Int32) (r : Option Value) (u' : uk_Mem) : Prop := (∃ x : Int32, r = some (.int x) ∧ True) ∧ (iv u' ∧ fr 13 22 u u')
abbrev q_X6_sheet (u : uk_Mem) (k : Int32) (l : Int32) (n : Int32) (r : Option Value) (u' : uk_Mem) : Prop := (∃ x : Int32, r = some (.int x) ∧ True) ∧ (iv u' ∧ fr 49 57 u u')
abbrev q_X6_lay (u : uk_Mem) (k : Int32) (i : Int32) (v : Int32) (r : Option Value) (u' : uk_Mem) : Prop := (∃ x : Int32, r = some (.int x) ∧ True) ∧ (iv u' ∧ fr 49 57 u u')
abbrev q_X6_read (u : uk_Mem) (k : Int32) (l : Int32) (f : Int32) (n : Int32) (r : Option Value) (u' : uk_Mem) : Prop := (∃ x : Int32, r = some (.int x) ∧ True) ∧ (iv u' ∧ fr 0 22 u u' ∧ u'.1 2 1 = u.1 2 1)
abbrev q_X6_torn (u : uk_Mem)  (r : Option Value) (u' : uk_Mem) : Prop := (∃ x : Int32, r = some (.int x) ∧ True) ∧ (u' = u)
abbrev q_X6_count (u : uk_Mem) (w : Int32) (r : Option Value) (u' : uk_Mem) : Prop := (∃ x : Int32, r = some (.int x) ∧ True) ∧ (u' = u)