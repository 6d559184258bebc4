abbrev q_X6_after (u : uk_Mem) (m : Int32) (n : Int32) (b : Int32) (r : Option Value) (u' : uk_Mem) : Prop := (∃ x : Int32, r = some (.int x) ∧ True) ∧ (iv u' ∧ fr 41 46 u u')
set_option maxHeartbeats 4000000 in
set_option maxRecDepth 20000 in
theorem c_X6_after {G : uk_D} (hs : uk_Sep G) {u : uk_Mem} (hu : iv u) (m : Int32) (n : Int32) (b : Int32) (d : Nat) : uk_Meth G (d + 3) mX6_after [.ref (uk_ad G 0), .int m, .int n, .int b] u (q_X6_after u m n b) := by
  refine uk_Meth.of hs (by decide) (Nat.le_of_ble_eq_true rfl) (fun X => ?_)
  have f0 : fr 41 46 u u := fr_rf
  refine g_aload_n dX6_after_0 rfl ?_
  refine f_X6_10 rfl rfl dX6_after_1 ?_
  refine g_iload_n dX6_after_4 rfl ?_
  refine cl_X6_118 (c := 13) (As := [.int m]) rfl (c_X0_hasStuff (G := G) hs hu uk_isK13 m  (d + 2)) rfl (by omega) rfl rfl (Nat.le_of_ble_eq_true rfl) dX6_after_5 (fun r1 u2 q3 => ?_)
  obtain ⟨⟨x4, rfl, tx4, nx4, zx4⟩, mq3⟩ := q3
  rw [mq3]
  refine g_if_eq (tgt := 32) dX6_after_8 (by decide) (fun c5 => ?_) (fun c5 => ?_)
  · have zc5 := zx4 c5
    refine g_iconst (v := (-1)) dX6_after_32 (by decide) ?_
    exact g_iret (ty := .int) dX6_after_33 rfl rfl ⟨⟨_, rfl, by first | trivial | lia | grind⟩, hu, f0⟩
  · have zc5 := nx4 c5
    refine g_iload_n dX6_after_11 rfl ?_
    refine g_if_lt (tgt := 32) dX6_after_12 (by decide) (fun c6 => ?_) (fun c6 => ?_)
    · refine g_iconst (v := (-1)) dX6_after_32 (by decide) ?_
      exact g_iret (ty := .int) dX6_after_33 rfl rfl ⟨⟨_, rfl, by first | trivial | lia | grind⟩, hu, f0⟩
    · refine g_iload_n dX6_after_15 rfl ?_
      refine g_bipush (v := 127) dX6_after_16 (by decide) ?_
      refine g_icmp_gt (tgt := 32) dX6_after_18 (by decide) (fun c7 => ?_) (fun c7 => ?_)
      · refine g_iconst (v := (-1)) dX6_after_32 (by decide) ?_
        exact g_iret (ty := .int) dX6_after_33 rfl rfl ⟨⟨_, rfl, by first | trivial | lia | grind⟩, hu, f0⟩
      · refine g_aload_n dX6_after_21 rfl ?_
        refine f_X6_10 rfl rfl dX6_after_22 ?_
        refine g_iload_n dX6_after_25 rfl ?_
        refine cl_X6_118 (c := 13) (As := [.int b]) rfl (c_X0_hasStuff (G := G) hs hu uk_isK13 b  (d + 2)) rfl (by omega) rfl rfl (Nat.le_of_ble_eq_true rfl) dX6_after_26 (fun r8 u9 q10 => ?_)
        obtain ⟨⟨x11, rfl, tx11, nx11, zx11⟩, mq10⟩ := q10
        rw [mq10]
        refine g_if_ne (tgt := 34) dX6_after_29 (by decide) (fun c12 => ?_) (fun c12 => ?_)
        · have zc12 := nx11 c12
          refine g_aload_n dX6_after_34 rfl ?_
          refine f_X6_48 rfl rfl dX6_after_35 ?_
          refine g_aload_n dX6_after_38 rfl ?_
          refine f_X6_10 rfl rfl dX6_after_39 ?_
          refine g_iload_n dX6_after_42 rfl ?_
          refine g_iload_n dX6_after_43 rfl ?_
          refine cl_X6_177 (c := 41) (As := [.ref (uk_ad G 13), .int m, .int n]) rfl (c_X1_grind (G := G) hs hu  m n (by first | trivial | decide | lia | grind) (by first | trivial | decide | lia | grind) (d)) rfl (by omega) rfl rfl (Nat.le_of_ble_eq_true rfl) dX6_after_44 (fun r13 u14 q15 => ?_)
          obtain ⟨rfl, mq15⟩ := q15
          obtain ⟨hu14, gu14⟩ := mq15
          have fu14 : fr 41 46 u u14 := fr_tr f0 gu14 (by omega) (by omega)
          refine g_aload_n dX6_after_47 rfl ?_
          refine f_X6_48 rfl rfl dX6_after_48 ?_
          refine g_iload_n dX6_after_51 rfl ?_
          refine cl_X6_188 (c := 41) (As := [.int b]) rfl (c_X1_howManyOf (G := G) hs hu14  b  (d + 2)) rfl (by omega) rfl rfl (Nat.le_of_ble_eq_true rfl) dX6_after_52 (fun r16 u17 q18 => ?_)
          obtain ⟨⟨x19, rfl, tx19⟩, mq18⟩ := q18
          rw [mq18]
          exact g_iret (ty := .int) dX6_after_55 rfl rfl ⟨⟨_, rfl, by first | trivial | lia | grind⟩, hu14, fu14⟩
        · have zc12 := zx11 c12
          refine g_iconst (v := (-1)) dX6_after_32 (by decide) ?_
          exact g_iret (ty := .int) dX6_after_33 rfl rfl ⟨⟨_, rfl, by first | trivial | lia | grind⟩, hu, f0⟩
abbrev q_X6_first (u : uk_Mem) (m : Int32) (b : Int32) (r : Option Value) (u' : uk_Mem) : Prop := (∃ x : Int32, r = some (.int x) ∧ True) ∧ (iv u' ∧ fr 41 46 u u')
set_option maxHeartbeats 4000000 in
set_option maxRecDepth 20000 in
theorem c_X6_first {G : uk_D} (hs : uk_Sep G) {u : uk_Mem} (hu : iv u) (m : Int32) (b : Int32) (d : Nat) : uk_Meth G (d + 3) mX6_first [.ref (uk_ad G 0), .int m, .int b] u (q_X6_first u m b) := by
  refine uk_Meth.of hs (by decide) (Nat.le_of_ble_eq_true rfl) (fun X => ?_)
  have f0 : fr 41 46 u u := fr_rf
  refine g_aload_n dX6_first_0 rfl ?_
  refine f_X6_10 rfl rfl dX6_first_1 ?_
  refine g_iload_n dX6_first_4 rfl ?_
  refine cl_X6_118 (c := 13) (As := [.int m]) rfl (c_X0_hasStuff (G := G) hs hu uk_isK13 m  (d + 2)) rfl (by omega) rfl rfl (Nat.le_of_ble_eq_true rfl) dX6_first_5 (fun r1 u2 q3 => ?_)
  obtain ⟨⟨x4, rfl, tx4, nx4, zx4⟩, mq3⟩ := q3
  rw [mq3]
  refine g_if_eq (tgt := 22) dX6_first_8 (by decide) (fun c5 => ?_) (fun c5 => ?_)
  · have zc5 := zx4 c5
    refine g_iconst (v := (-1)) dX6_first_22 (by decide) ?_
    exact g_iret (ty := .int) dX6_first_23 rfl rfl ⟨⟨_, rfl, by first | trivial | lia | grind⟩, hu, f0⟩
  · have zc5 := nx4 c5
    refine g_aload_n dX6_first_11 rfl ?_
    refine f_X6_10 rfl rfl dX6_first_12 ?_
    refine g_iload_n dX6_first_15 rfl ?_
    refine cl_X6_118 (c := 13) (As := [.int b]) rfl (c_X0_hasStuff (G := G) hs hu uk_isK13 b  (d + 2)) rfl (by omega) rfl rfl (Nat.le_of_ble_eq_true rfl) dX6_first_16 (fun r6 u7 q8 => ?_)
    obtain ⟨⟨x9, rfl, tx9, nx9, zx9⟩, mq8⟩ := q8
    rw [mq8]
    refine g_if_ne (tgt := 24) dX6_first_19 (by decide) (fun c10 => ?_) (fun c10 => ?_)
    · have zc10 := nx9 c10
      refine g_aload_n dX6_first_24 rfl ?_
      refine f_X6_48 rfl rfl dX6_first_25 ?_
      refine g_aload_n dX6_first_28 rfl ?_
      refine f_X6_10 rfl rfl dX6_first_29 ?_
      refine g_iload_n dX6_first_32 rfl ?_
      refine g_bipush (v := 127) dX6_first_33 (by decide) ?_
      refine cl_X6_177 (c := 41) (As := [.ref (uk_ad G 13), .int m, .int 127]) rfl (c_X1_grind (G := G) hs hu  m 127 (by first | trivial | decide | lia | grind) (by first | trivial | decide | lia | grind) (d)) rfl (by omega) rfl rfl (Nat.le_of_ble_eq_true rfl) dX6_first_35 (fun r11 u12 q13 => ?_)
      obtain ⟨rfl, mq13⟩ := q13
      obtain ⟨hu12, gu12⟩ := mq13
      have fu12 : fr 41 46 u u12 := fr_tr f0 gu12 (by omega) (by omega)
      refine g_aload_n dX6_first_38 rfl ?_
      refine f_X6_48 rfl rfl dX6_first_39 ?_
      refine f_X6_191 rfl rfl dX6_first_42 ?_
      refine g_iload_n dX6_first_45 rfl ?_
      have v14 : vp_in b 8 := uk_vin 8 rfl (by first | decide | lia | grind) (by first | decide | lia | grind)
      refine g_iald rfl rfl v14 dX6_first_46 ?_
      refine g_topi (fun x15 ex15 => ?_)
      exact g_iret (ty := .int) dX6_first_47 rfl rfl ⟨⟨_, rfl, by first | trivial | lia | grind⟩, hu12, fu12⟩
    · have zc10 := zx9 c10
      refine g_iconst (v := (-1)) dX6_first_22 (by decide) ?_
      exact g_iret (ty := .int) dX6_first_23 rfl rfl ⟨⟨_, rfl, by first | trivial | lia | grind⟩, hu, f0⟩
abbrev q_X6_mean (u : uk_Mem) (v : Int32) (m : Int32) (b : Int32) (w : Int32) (r : Option Value) (u' : uk_Mem) : Prop := (∃ x : Int64, r = some (.long x) ∧ True) ∧ (iv u' ∧ fr 59 60 u u')
set_option maxHeartbeats 4000000 in
set_option maxRecDepth 20000 in
theorem c_X6_mean {G : uk_D} (hs : uk_Sep G) {u : uk_Mem} (hu : iv u) (v : Int32) (m : Int32) (b : Int32) (w : Int32) (d : Nat) : uk_Meth G (d + 2) mX6_mean [.ref (uk_ad G 0), .int v, .int m, .int b, .int w] u (q_X6_mean u v m b w) := by
  refine uk_Meth.of hs (by decide) (Nat.le_of_ble_eq_true rfl) (fun X => ?_)
  have f0 : fr 59 60 u u := fr_rf
  refine g_iload_n dX6_mean_0 rfl ?_
  refine g_if_lt (tgt := 40) dX6_mean_1 (by decide) (fun c1 => ?_) (fun c1 => ?_)
  · refine g_ldc2 (v := (-1)) k_X6_194 dX6_mean_40 ?_
    exact g_lret dX6_mean_43 rfl ⟨⟨_, rfl, by first | trivial | decide | exact uk_lg0 (by assumption) | grind⟩, hu, f0⟩
  · refine g_iload_n dX6_mean_4 rfl ?_
    refine g_bipush (v := 10) dX6_mean_5 (by decide) ?_
    refine g_icmp_gt (tgt := 40) dX6_mean_7 (by decide) (fun c2 => ?_) (fun c2 => ?_)
    · refine g_ldc2 (v := (-1)) k_X6_194 dX6_mean_40 ?_
      exact g_lret dX6_mean_43 rfl ⟨⟨_, rfl, by first | trivial | decide | exact uk_lg0 (by assumption) | grind⟩, hu, f0⟩
    · refine g_aload_n dX6_mean_10 rfl ?_
      refine f_X6_10 rfl rfl dX6_mean_11 ?_
      refine g_iload_n dX6_mean_14 rfl ?_
      refine cl_X6_118 (c := 13) (As := [.int m]) rfl (c_X0_hasStuff (G := G) hs hu uk_isK13 m  (d + 1)) rfl (by omega) rfl rfl (Nat.le_of_ble_eq_true rfl) dX6_mean_15 (fun r3 u4 q5 => ?_)
      obtain ⟨⟨x6, rfl, tx6, nx6, zx6⟩, mq5⟩ := q5
      rw [mq5]
      refine g_if_eq (tgt := 40) dX6_mean_18 (by decide) (fun c7 => ?_) (fun c7 => ?_)
      · have zc7 := zx6 c7
        refine g_ldc2 (v := (-1)) k_X6_194 dX6_mean_40 ?_
        exact g_lret dX6_mean_43 rfl ⟨⟨_, rfl, by first | trivial | decide | exact uk_lg0 (by assumption) | grind⟩, hu, f0⟩
      · have zc7 := nx6 c7
        refine g_aload_n dX6_mean_21 rfl ?_
        refine f_X6_10 rfl rfl dX6_mean_22 ?_
        refine g_iload_n dX6_mean_25 rfl ?_
        refine cl_X6_118 (c := 13) (As := [.int b]) rfl (c_X0_hasStuff (G := G) hs hu uk_isK13 b  (d + 1)) rfl (by omega) rfl rfl (Nat.le_of_ble_eq_true rfl) dX6_mean_26 (fun r8 u9 q10 => ?_)
        obtain ⟨⟨x11, rfl, tx11, nx11, zx11⟩, mq10⟩ := q10
        rw [mq10]
        refine g_if_eq (tgt := 40) dX6_mean_29 (by decide) (fun c12 => ?_) (fun c12 => ?_)
        · have zc12 := zx11 c12
          refine g_ldc2 (v := (-1)) k_X6_194 dX6_mean_40 ?_
          exact g_lret dX6_mean_43 rfl ⟨⟨_, rfl, by first | trivial | decide | exact uk_lg0 (by assumption) | grind⟩, hu, f0⟩
        · have zc12 := nx11 c12
          refine g_iload dX6_mean_32 rfl ?_
          refine cl_X6_162 (As := [.int w]) rfl (c_X6_isFlag (G := G) hs hu  w  (d + 1)) rfl (by omega) rfl (Nat.le_of_ble_eq_true rfl) dX6_mean_34 (fun r13 u14 q15 => ?_)
          obtain ⟨⟨x16, rfl, tx16, nx16, zx16⟩, mq15⟩ := q15
          rw [mq15]
          refine g_if_ne (tgt := 44) dX6_mean_37 (by decide) (fun c17 => ?_) (fun c17 => ?_)
          · have zc17 := nx16 c17
            refine g_aload_n dX6_mean_44 rfl ?_
            refine f_X6_10 rfl rfl dX6_mean_45 ?_
            refine g_iload_n dX6_mean_48 rfl ?_
            refine cl_X6_122 (c := 13) (As := [.int b]) rfl (c_X0_isMade (G := G) hs hu uk_isK13 b (by first | trivial | decide | lia | grind) (by first | trivial | decide | lia | grind) (d + 1)) rfl (by omega) rfl rfl (Nat.le_of_ble_eq_true rfl) dX6_mean_49 (fun r18 u19 q20 => ?_)
            obtain ⟨⟨x21, rfl, tx21, nx21, zx21⟩, mq20⟩ := q20
            rw [mq20]
            refine g_if_eq (tgt := 59) dX6_mean_52 (by decide) (fun c22 => ?_) (fun c22 => ?_)
            · have zc22 := zx21 c22
              refine g_aload_n dX6_mean_59 rfl ?_
              refine g_iload_n dX6_mean_60 rfl ?_
              refine g_iload_n dX6_mean_61 rfl ?_
              refine g_iload_n dX6_mean_62 rfl ?_
              refine cl_X6_198 (c := 0) (As := [.int v, .int m, .int b]) rfl (c_X6_scaledMean (G := G) hs hu  v m b (by first | trivial | decide | lia | grind) (by first | trivial | decide | lia | grind) (d)) rfl (by omega) rfl rfl (Nat.le_of_ble_eq_true rfl) dX6_mean_63 (fun r23 u24 q25 => ?_)
              obtain ⟨⟨x26, rfl, tx26⟩, mq25⟩ := q25
              obtain ⟨hu24, gu24⟩ := mq25
              have fu24 : fr 59 60 u u24 := fr_tr f0 gu24 (by omega) (by omega)
              refine g_lstore dX6_mean_66 (by decide) ?_
              refine g_pick (lv' := [(0, .ref (uk_ad G 0)), (1, .int v), (2, .int m), (3, .int b), (4, .int w), (5, .long x26)]) [0, 1, 2, 3, 4, 5] rfl ?_
              refine g_lload dX6_mean_68 rfl ?_
              refine g_ldc2 (v := 10000000) k_X6_202 dX6_mean_70 ?_
              refine cl_X6_204 (As := [.long x26, .long 10000000]) rfl (c_X6_greatestCommon (G := G) hs hu24  x26 10000000  (d + 1)) rfl (by omega) rfl (Nat.le_of_ble_eq_true rfl) dX6_mean_73 (fun r27 u28 q29 => ?_)
              obtain ⟨⟨x30, rfl, tx30⟩, mq29⟩ := q29
              rw [mq29]
              refine g_lstore dX6_mean_76 (by decide) ?_
              refine g_pick (lv' := [(0, .ref (uk_ad G 0)), (1, .int v), (2, .int m), (3, .int b), (4, .int w), (5, .long x26), (7, .long x30)]) [0, 1, 2, 3, 4, 5, 6] rfl ?_
              refine g_iload dX6_mean_78 rfl ?_
              refine g_if_ne (tgt := 88) dX6_mean_80 (by decide) (fun c31 => ?_) (fun c31 => ?_)
              · refine g_ldc2 (v := 10000000) k_X6_202 dX6_mean_88 ?_
                refine g_lload dX6_mean_91 rfl ?_
                refine g_ldiv dX6_mean_93 (by first | decide | assumption | exact uk_lg0 (by assumption) | grind) ?_
                refine g_topl (fun y32 ey32 => ?_)
                exact g_lret dX6_mean_94 rfl ⟨⟨_, rfl, by first | trivial | decide | exact uk_lg0 (by assumption) | grind⟩, hu24, fu24⟩
              · refine g_lload dX6_mean_83 rfl ?_
                refine g_goto (tgt := 91) dX6_mean_85 (by decide) ?_
                refine g_lload dX6_mean_91 rfl ?_
                refine g_ldiv dX6_mean_93 (by first | decide | assumption | exact uk_lg0 (by assumption) | grind) ?_
                refine g_topl (fun y33 ey33 => ?_)
                exact g_lret dX6_mean_94 rfl ⟨⟨_, rfl, by first | trivial | decide | exact uk_lg0 (by assumption) | grind⟩, hu24, fu24⟩
            · have zc22 := nx21 c22
              refine g_ldc2 (v := (-2)) k_X6_196 dX6_mean_55 ?_
              exact g_lret dX6_mean_58 rfl ⟨⟨_, rfl, by first | trivial | decide | exact uk_lg0 (by assumption) | grind⟩, hu, f0⟩
          · have zc17 := zx16 c17
            refine g_ldc2 (v := (-1)) k_X6_194 dX6_mean_40 ?_
            exact g_lret dX6_mean_43 rfl ⟨⟨_, rfl, by first | trivial | decide | exact uk_lg0 (by assumption) | grind⟩, hu, f0⟩

