abbrev q_X7_loss (u : uk_Mem) (m : Int32) (r : Option Value) (u' : uk_Mem) : Prop := (∃ x : Int32, r = some (.int x) ∧ True) ∧ (iv u' ∧ fk [60, 62, 70, 71] [3, 7, 10, 11, 13, 14, 15, 16, 17, 18, 19, 28] u u' ∧ ri u')
set_option maxHeartbeats 4000000 in
set_option maxRecDepth 20000 in
theorem c_X7_loss {G : uk_D} (hs : uk_Sep G) {u : uk_Mem} (hu : iv u) (hri : ri u) (m : Int32) (d : Nat) : uk_Meth G (d + 3) mX7_loss [.ref (uk_ad G 60), .int m] u (q_X7_loss u m) := by
  refine uk_Meth.of hs (by decide) (Nat.le_of_ble_eq_true rfl) (fun X => ?_)
  have f0 : fk [60, 62, 70, 71] [3, 7, 10, 11, 13, 14, 15, 16, 17, 18, 19, 28] u u := fk_rf
  refine g_aload_n dX7_loss_0 rfl ?_
  refine g_iload_n dX7_loss_1 rfl ?_
  refine cl_X7_163 (c := 60) (As := [.int m]) rfl (c_X7_isStuff (G := G) hs hu  m  (d + 1)) rfl (by omega) rfl rfl (Nat.le_of_ble_eq_true rfl) dX7_loss_2 (fun r1 u2 q3 => ?_)
  obtain ⟨⟨x4, rfl, tx4, nx4, zx4⟩, mq3⟩ := q3
  rw [mq3]
  refine g_if_ne (tgt := 10) dX7_loss_5 (by decide) (fun c5 => ?_) (fun c5 => ?_)
  · have zc5 := nx4 c5
    refine g_aload_n dX7_loss_10 rfl ?_
    refine g_iload_n dX7_loss_11 rfl ?_
    refine cl_X7_226 (c := 60) (As := [.int m]) rfl (c_X7_cost (G := G) hs hu hri  m  (d)) rfl (by omega) rfl rfl (Nat.le_of_ble_eq_true rfl) dX7_loss_12 (fun r6 u7 q8 => ?_)
    obtain ⟨⟨x9, rfl, tx9⟩, mq8⟩ := q8
    obtain ⟨hu7, gu7, riu7⟩ := mq8
    have fu7 : fk [60, 62, 70, 71] [3, 7, 10, 11, 13, 14, 15, 16, 17, 18, 19, 28] u u7 := fk_tr f0 gu7 (by decide) (by decide)
    have wu7_60_3 : u7.1 60 3 = u.1 60 3 := fk_at gu7 (by decide)
    refine g_istore_n dX7_loss_15 (by decide) ?_
    refine g_pick (lv' := [(0, .ref (uk_ad G 60)), (1, .int m), (2, .int x9)]) [0, 1, 2] rfl ?_
    refine g_aload_n dX7_loss_16 rfl ?_
    refine g_iload_n dX7_loss_17 rfl ?_
    refine g_sipush (v := 128) dX7_loss_18 (by decide) ?_
    refine cl_X7_220 (c := 60) (As := [.int m, .int 128]) rfl (c_X7_mills (G := G) hs hu7 riu7  m 128 (by first | trivial | decide | lia | grind) (by first | trivial | decide | lia | grind) (by first | trivial | decide | lia | grind) (by first | trivial | decide | lia | grind) (d)) rfl (by omega) rfl rfl (Nat.le_of_ble_eq_true rfl) dX7_loss_21 (fun r10 u11 q12 => ?_)
    obtain ⟨⟨x13, rfl, tx13⟩, mq12⟩ := q12
    obtain ⟨hu11, gu11, riu11, rau11, rpu11⟩ := mq12
    have fu11 : fk [60, 62, 70, 71] [3, 7, 10, 11, 13, 14, 15, 16, 17, 18, 19, 28] u u11 := fk_tr fu7 gu11 (by decide) (by decide)
    have wu11_60_3 : u11.1 60 3 = u7.1 60 3 := fk_at gu11 (by decide)
    refine g_pop dX7_loss_24 rfl ?_
    refine g_iconst (v := 0) dX7_loss_25 (by decide) ?_
    refine g_istore_n dX7_loss_26 (by decide) ?_
    refine g_pick (lv' := [(0, .ref (uk_ad G 60)), (1, .int m), (2, .int x9), (3, .int 0)]) [0, 1, 2, 3] rfl ?_
    have L27_13 : ∀ i16 : Int32, 0 ≤ i16 → i16 ≤ 255 → ∀ (w15 : Int32), uk_G G X mX7_loss (d + 3) (q_X7_loss u m) 27 [(0, .ref (uk_ad G 60)), (1, .int m), (2, .int w15), (3, .int i16)] [] u11 := by
      refine uk_upl 255 ?_
      intro i16 ai16 bi16 ihi16 w15
      refine g_iload_n dX7_loss_27 rfl ?_
      refine g_aload_n dX7_loss_28 rfl ?_
      refine f_X7_207 rfl rfl dX7_loss_29 ?_
      refine g_topi (fun x17 ex17 => ?_)
      have rx17 : 0 ≤ x17 ∧ x17 ≤ 255 := by rw [ex17]; exact iv_at hu11 _ _ rfl
      have s18 : u11.1 60 22 = x17 := ex17.symm
      refine g_icmp_ge (tgt := 75) dX7_loss_32 (by decide) (fun c19 => ?_) (fun c19 => ?_)
      · refine g_iload_n dX7_loss_75 rfl ?_
        exact g_iret (ty := .int) dX7_loss_76 rfl rfl ⟨⟨_, rfl, by first | trivial | lia | grind⟩, hu11, fu11, riu11⟩
      · refine g_iload_n dX7_loss_35 rfl ?_
        refine g_aload_n dX7_loss_36 rfl ?_
        refine g_aload_n dX7_loss_37 rfl ?_
        refine f_X7_41 rfl rfl dX7_loss_38 ?_
        refine g_iload_n dX7_loss_41 rfl ?_
        have v20 : vp_in i16 256 := uk_vin 256 rfl (by first | decide | lia | grind) (by first | decide | lia | grind)
        refine g_iald rfl rfl v20 dX7_loss_42 ?_
        refine g_topi (fun x21 ex21 => ?_)
        have bx21 := uk_cl v20
        have rx21 : 0 ≤ x21 ∧ x21 ≤ 7 := by rw [ex21]; exact iv_at hu11 _ _ (uk_pick1 _ (by omega))
        refine cl_X7_166 (c := 60) (As := [.int x21]) rfl (c_X7_isRaw (G := G) hs hu11  x21 (by first | trivial | decide | lia | grind) (by first | trivial | decide | lia | grind) (d + 2)) rfl (by omega) rfl rfl (Nat.le_of_ble_eq_true rfl) dX7_loss_43 (fun r22 u23 q24 => ?_)
        obtain ⟨⟨x25, rfl, tx25, nx25, zx25⟩, mq24⟩ := q24
        rw [mq24]
        refine g_if_eq (tgt := 66) dX7_loss_46 (by decide) (fun c26 => ?_) (fun c26 => ?_)
        · have zc26 := zx25 c26
          refine g_iconst (v := 0) dX7_loss_66 (by decide) ?_
          refine g_isub dX7_loss_67 ?_
          refine g_topi (fun x27 ex27 => ?_)
          refine g_istore_n dX7_loss_68 (by decide) ?_
          refine g_pick (lv' := [(0, .ref (uk_ad G 60)), (1, .int m), (2, .int x27), (3, .int i16)]) [0, 1, 2, 3] rfl ?_
          refine g_iinc (v := i16 + 1) dX7_loss_69 rfl rfl (by decide) ?_
          refine g_pick (lv' := [(0, .ref (uk_ad G 60)), (1, .int m), (2, .int x27), (3, .int (i16 + 1))]) [0, 1, 2, 3] rfl ?_
          refine g_goto (tgt := 27) dX7_loss_72 (by decide) ?_
          refine g_pick (lv' := [(0, .ref (uk_ad G 60)), (1, .int m), (2, .int x27), (3, .int (i16 + 1))]) [0, 1, 2, 3] rfl ?_
          exact ihi16 (by first | lia | grind) x27 
        · have zc26 := nx25 c26
          refine g_aload_n dX7_loss_49 rfl ?_
          refine f_X7_7 rfl rfl dX7_loss_50 ?_
          refine g_bipush (v := 24) dX7_loss_53 (by decide) ?_
          refine g_aload_n dX7_loss_55 rfl ?_
          refine f_X7_41 rfl rfl dX7_loss_56 ?_
          refine g_iload_n dX7_loss_59 rfl ?_
          have v28 : vp_in i16 256 := uk_vin 256 rfl (by first | decide | lia | grind) (by first | decide | lia | grind)
          refine g_iald rfl rfl v28 dX7_loss_60 ?_
          refine g_topi (fun x29 ex29 => ?_)
          have bx29 := uk_cl v28
          have rx29 : 0 ≤ x29 ∧ x29 ≤ 7 := by rw [ex29]; exact iv_at hu11 _ _ (uk_pick1 _ (by omega))
          refine g_iadd dX7_loss_61 ?_
          refine g_topi (fun x30 ex30 => ?_)
          have v31 : vp_in x30 153 := uk_vin 153 rfl (by first | decide | lia | grind) (by first | decide | lia | grind)
          refine g_iald rfl rfl v31 dX7_loss_62 ?_
          refine g_topi (fun x32 ex32 => ?_)
          have bx32 := uk_cl v31
          refine g_goto (tgt := 67) dX7_loss_63 (by decide) ?_
          refine g_isub dX7_loss_67 ?_
          refine g_topi (fun x33 ex33 => ?_)
          refine g_istore_n dX7_loss_68 (by decide) ?_
          refine g_pick (lv' := [(0, .ref (uk_ad G 60)), (1, .int m), (2, .int x33), (3, .int i16)]) [0, 1, 2, 3] rfl ?_
          refine g_iinc (v := i16 + 1) dX7_loss_69 rfl rfl (by decide) ?_
          refine g_pick (lv' := [(0, .ref (uk_ad G 60)), (1, .int m), (2, .int x33), (3, .int (i16 + 1))]) [0, 1, 2, 3] rfl ?_
          refine g_goto (tgt := 27) dX7_loss_72 (by decide) ?_
          refine g_pick (lv' := [(0, .ref (uk_ad G 60)), (1, .int m), (2, .int x33), (3, .int (i16 + 1))]) [0, 1, 2, 3] rfl ?_
          exact ihi16 (by first | lia | grind) x33 
    refine g_pick (lv' := [(0, .ref (uk_ad G 60)), (1, .int m), (2, .int x9), (3, .int 0)]) [0, 1, 2, 3] rfl ?_
    exact L27_13 0 (by first | decide | lia | grind) (by first | decide | lia | grind) x9 
  · have zc5 := zx4 c5
    refine g_iconst (v := (-1)) dX7_loss_8 (by decide) ?_
    exact g_iret (ty := .int) dX7_loss_9 rfl rfl ⟨⟨_, rfl, by first | trivial | lia | grind⟩, hu, f0, hri⟩
abbrev q_X7_common (u : uk_Mem) (a : Int64) (b : Int64) (r : Option Value) (u' : uk_Mem) : Prop := (∃ x : Int64, r = some (.long x) ∧ ¬ x = 0) ∧ (u' = u)
theorem c_X7_common {G : uk_D} (hs : uk_Sep G) {u : uk_Mem} (hu : iv u) (a : Int64) (b : Int64) (p0 : ¬ a = 0) (d : Nat) : uk_Meth G d mX7_common [.long a, .long b] u (q_X7_common u a b) := by
  refine uk_Meth.of hs (by decide) (Nat.le_of_ble_eq_true rfl) (fun X => ?_)
  refine g_lload_n dX7_common_0 rfl ?_
  refine g_lstore dX7_common_1 (by decide) ?_
  refine g_lload_n dX7_common_3 rfl ?_
  refine g_lstore dX7_common_4 (by decide) ?_
  have key : ∀ (n : Nat) (x y : Int64), y.toInt.natAbs = n → (¬ x = 0 ∨ ¬ y = 0) → uk_G G X mX7_common d (q_X7_common u a b) 6 [(0, .long a), (2, .long b), (4, .long x), (6, .long y)] [] u := by
    intro n
    induction n using Nat.strongRecOn with
    | _ n ih =>
      intro x y hy hxy
      refine g_lload dX7_common_6 rfl ?_
      refine g_lconst (v := 0) dX7_common_8 (by decide) ?_
      refine g_lcmp dX7_common_9 ?_
      refine g_if_eq (tgt := 31) dX7_common_10 (by decide) (fun c => ?_) (fun c => ?_)
      · rw [lg_cmp_eq] at c
        refine g_lload dX7_common_31 rfl ?_
        exact g_lret dX7_common_33 rfl ⟨⟨_, rfl, hxy.resolve_right (fun q => q c)⟩, rfl⟩
      · rw [lg_cmp_eq] at c
        refine g_lload dX7_common_13 rfl ?_
        refine g_lload dX7_common_15 rfl ?_
        refine g_lrem dX7_common_17 c ?_
        refine g_topl (fun z ez => ?_)
        refine g_lstore dX7_common_18 (by decide) ?_
        refine g_lload dX7_common_20 rfl ?_
        refine g_lstore dX7_common_22 (by decide) ?_
        refine g_lload dX7_common_24 rfl ?_
        refine g_lstore dX7_common_26 (by decide) ?_
        refine g_goto (tgt := 6) dX7_common_28 (by decide) ?_
        refine g_pick (lv' := [(0, .long a), (2, .long b), (4, .long y), (6, .long z)]) [0, 1, 2, 3] rfl ?_
        exact ih _ (by rw [← hy]; exact lg_rem_lt ez c) y z rfl (Or.inl c)
  exact key _ a b rfl (Or.inl p0)

abbrev q_X7_mean (u : uk_Mem) (v : Int32) (m : Int32) (b : Int32) (w : Int32) (r : Option Value) (u' : uk_Mem) : Prop := (∃ x : Int64, r = some (.long x) ∧ True) ∧ (iv u' ∧ fk [72] [] u u' ∧ ri u')
set_option maxHeartbeats 4000000 in
set_option maxRecDepth 20000 in
theorem c_X7_mean {G : uk_D} (hs : uk_Sep G) {u : uk_Mem} (hu : iv u) (hri : ri u) (v : Int32) (m : Int32) (b : Int32) (w : Int32) (d : Nat) : uk_Meth G (d + 2) mX7_mean [.ref (uk_ad G 60), .int v, .int m, .int b, .int w] u (q_X7_mean u v m b w) := by
  refine uk_Meth.of hs (by decide) (Nat.le_of_ble_eq_true rfl) (fun X => ?_)
  have f0 : fk [72] [] u u := fk_rf
  refine g_iload_n dX7_mean_0 rfl ?_
  refine g_i2l dX7_mean_1 ?_
  refine g_lconst (v := 0) dX7_mean_2 (by decide) ?_
  refine g_ldc2 (v := 10) k_X7_229 dX7_mean_3 ?_
  refine cl_X7_84 (As := [.long v.toInt64, .long 0, .long 10]) rfl (c_X7_in (G := G) hs hu  v 0 10  (d + 1)) rfl (by omega) rfl (Nat.le_of_ble_eq_true rfl) dX7_mean_6 (fun r1 u2 q3 => ?_)
  obtain ⟨⟨x4, rfl, tx4, nx4, zx4⟩, mq3⟩ := q3
  rw [mq3]
  refine g_if_eq (tgt := 36) dX7_mean_9 (by decide) (fun c5 => ?_) (fun c5 => ?_)
  · have zc5 := zx4 c5
    refine g_ldc2 (v := (-1)) k_X7_231 dX7_mean_36 ?_
    exact g_lret dX7_mean_39 rfl ⟨⟨_, rfl, by first | trivial | decide | exact uk_lg0 (by assumption) | grind⟩, hu, f0, hri⟩
  · have zc5 := nx4 c5
    refine g_aload_n dX7_mean_12 rfl ?_
    refine g_iload_n dX7_mean_13 rfl ?_
    refine cl_X7_163 (c := 60) (As := [.int m]) rfl (c_X7_isStuff (G := G) hs hu  m  (d)) rfl (by omega) rfl rfl (Nat.le_of_ble_eq_true rfl) dX7_mean_14 (fun r6 u7 q8 => ?_)
    obtain ⟨⟨x9, rfl, tx9, nx9, zx9⟩, mq8⟩ := q8
    rw [mq8]
    refine g_if_eq (tgt := 36) dX7_mean_17 (by decide) (fun c10 => ?_) (fun c10 => ?_)
    · have zc10 := zx9 c10
      refine g_ldc2 (v := (-1)) k_X7_231 dX7_mean_36 ?_
      exact g_lret dX7_mean_39 rfl ⟨⟨_, rfl, by first | trivial | decide | exact uk_lg0 (by assumption) | grind⟩, hu, f0, hri⟩
    · have zc10 := nx9 c10
      refine g_aload_n dX7_mean_20 rfl ?_
      refine g_iload_n dX7_mean_21 rfl ?_
      refine cl_X7_163 (c := 60) (As := [.int b]) rfl (c_X7_isStuff (G := G) hs hu  b  (d)) rfl (by omega) rfl rfl (Nat.le_of_ble_eq_true rfl) dX7_mean_22 (fun r11 u12 q13 => ?_)
      obtain ⟨⟨x14, rfl, tx14, nx14, zx14⟩, mq13⟩ := q13
      rw [mq13]
      refine g_if_eq (tgt := 36) dX7_mean_25 (by decide) (fun c15 => ?_) (fun c15 => ?_)
      · have zc15 := zx14 c15
        refine g_ldc2 (v := (-1)) k_X7_231 dX7_mean_36 ?_
        exact g_lret dX7_mean_39 rfl ⟨⟨_, rfl, by first | trivial | decide | exact uk_lg0 (by assumption) | grind⟩, hu, f0, hri⟩
      · have zc15 := nx14 c15
        refine g_iload dX7_mean_28 rfl ?_
        refine cl_X7_197 (As := [.int w]) rfl (c_X7_isPart (G := G) hs hu  w  (d)) rfl (by omega) rfl (Nat.le_of_ble_eq_true rfl) dX7_mean_30 (fun r16 u17 q18 => ?_)
        obtain ⟨⟨x19, rfl, tx19, nx19, zx19⟩, mq18⟩ := q18
        rw [mq18]
        refine g_if_ne (tgt := 40) dX7_mean_33 (by decide) (fun c20 => ?_) (fun c20 => ?_)
        · have zc20 := nx19 c20
          refine g_aload_n dX7_mean_40 rfl ?_
          refine g_iload_n dX7_mean_41 rfl ?_
          refine cl_X7_166 (c := 60) (As := [.int b]) rfl (c_X7_isRaw (G := G) hs hu  b (by first | trivial | decide | lia | grind) (by first | trivial | decide | lia | grind) (d + 1)) rfl (by omega) rfl rfl (Nat.le_of_ble_eq_true rfl) dX7_mean_42 (fun r21 u22 q23 => ?_)
          obtain ⟨⟨x24, rfl, tx24, nx24, zx24⟩, mq23⟩ := q23
          rw [mq23]
          refine g_if_ne (tgt := 52) dX7_mean_45 (by decide) (fun c25 => ?_) (fun c25 => ?_)
          · have zc25 := nx24 c25
            refine g_ldc2 (v := 100000000) k_X7_235 dX7_mean_52 ?_
            refine g_lstore dX7_mean_55 (by decide) ?_
            refine g_pick (lv' := [(0, .ref (uk_ad G 60)), (1, .int v), (2, .int m), (3, .int b), (4, .int w), (5, .long 100000000)]) [0, 1, 2, 3, 4, 5] rfl ?_
            refine g_iconst (v := 0) dX7_mean_57 (by decide) ?_
            refine g_istore dX7_mean_58 (by decide) ?_
            refine g_pick (lv' := [(0, .ref (uk_ad G 60)), (1, .int v), (2, .int m), (3, .int b), (4, .int w), (5, .long 100000000), (7, .int 0)]) [0, 1, 2, 3, 4, 5, 6] rfl ?_
            have L60_25 : ∀ i27 : Int32, 0 ≤ i27 → i27 ≤ 8 → ∀ (u28 : uk_Mem), iv u28 → fk [72] [] u u28 → ri u28 → uk_G G X mX7_mean (d + 2) (q_X7_mean u v m b w) 60 [(0, .ref (uk_ad G 60)), (1, .int v), (2, .int m), (3, .int b), (4, .int w), (5, .long 100000000), (7, .int i27)] [] u28 := by
              refine uk_upl 8 ?_
              intro i27 ai27 bi27 ihi27  u28 hu28 fu28 riu28
              have wu28_60_3 : u28.1 60 3 = u.1 60 3 := fk_at fu28 (by decide)
              refine g_iload dX7_mean_60 rfl ?_
              refine g_iload_n dX7_mean_62 rfl ?_
              refine g_icmp_gt (tgt := 195) dX7_mean_63 (by decide) (fun c29 => ?_) (fun c29 => ?_)
              · refine g_lload dX7_mean_195 rfl ?_
                refine g_aload_n dX7_mean_197 rfl ?_
                refine f_X7_44 rfl rfl dX7_mean_198 ?_
                refine g_iload_n dX7_mean_201 rfl ?_
                have v30 : vp_in m 8 := uk_vin 8 rfl (by first | decide | lia | grind) (by first | decide | lia | grind)
                refine g_lald rfl rfl v30 dX7_mean_202 ?_
                refine g_topl (fun y31 ey31 => ?_)
                refine cl_X7_237 (As := [.long 100000000, .long y31]) rfl (c_X7_common (G := G) hs hu28  100000000 y31 (by first | trivial | decide | lia | grind) (d + 1)) rfl (by omega) rfl (Nat.le_of_ble_eq_true rfl) dX7_mean_203 (fun r32 u33 q34 => ?_)
                obtain ⟨⟨x35, rfl, tx35⟩, mq34⟩ := q34
                rw [mq34]
                refine g_lstore dX7_mean_206 (by decide) ?_
                refine g_pick (lv' := [(0, .ref (uk_ad G 60)), (1, .int v), (2, .int m), (3, .int b), (4, .int w), (5, .long 100000000), (7, .long x35)]) [0, 1, 2, 3, 4, 5, 6] rfl ?_
                refine g_iload dX7_mean_208 rfl ?_
                refine g_if_ne (tgt := 225) dX7_mean_210 (by decide) (fun c36 => ?_) (fun c36 => ?_)
                · refine g_lload dX7_mean_225 rfl ?_
                  refine g_lload dX7_mean_227 rfl ?_
                  refine g_ldiv dX7_mean_229 (by first | decide | assumption | exact uk_lg0 (by assumption) | grind) ?_
                  refine g_topl (fun y37 ey37 => ?_)
                  exact g_lret dX7_mean_230 rfl ⟨⟨_, rfl, by first | trivial | decide | exact uk_lg0 (by assumption) | grind⟩, hu28, fu28, riu28⟩
                · refine g_aload_n dX7_mean_213 rfl ?_
                  refine f_X7_44 rfl rfl dX7_mean_214 ?_
                  refine g_iload_n dX7_mean_217 rfl ?_
                  have v38 : vp_in m 8 := uk_vin 8 rfl (by first | decide | lia | grind) (by first | decide | lia | grind)
                  refine g_lald rfl rfl v38 dX7_mean_218 ?_
                  refine g_topl (fun y39 ey39 => ?_)
                  refine g_lload dX7_mean_219 rfl ?_
                  refine g_ldiv dX7_mean_221 (by first | decide | assumption | exact uk_lg0 (by assumption) | grind) ?_
                  refine g_topl (fun y40 ey40 => ?_)
                  refine g_goto (tgt := 230) dX7_mean_222 (by decide) ?_
                  exact g_lret dX7_mean_230 rfl ⟨⟨_, rfl, by first | trivial | decide | exact uk_lg0 (by assumption) | grind⟩, hu28, fu28, riu28⟩
              · refine g_aload_n dX7_mean_66 rfl ?_
                refine f_X7_7 rfl rfl dX7_mean_67 ?_
                refine g_bipush (v := 32) dX7_mean_70 (by decide) ?_
                refine g_iload dX7_mean_72 rfl ?_
                refine g_iadd dX7_mean_74 ?_
                refine g_topi (fun x41 ex41 => ?_)
                have v42 : vp_in x41 153 := uk_vin 153 rfl (by first | decide | lia | grind) (by first | decide | lia | grind)
                refine g_iald rfl rfl v42 dX7_mean_75 ?_
                refine g_topi (fun x43 ex43 => ?_)
                have bx43 := uk_cl v42
                refine g_istore dX7_mean_76 (by decide) ?_
                refine g_pick (lv' := [(0, .ref (uk_ad G 60)), (1, .int v), (2, .int m), (3, .int b), (4, .int w), (5, .long 100000000), (7, .int i27), (8, .int x43)]) [0, 1, 2, 3, 4, 5, 6, 7] rfl ?_
                refine g_iload dX7_mean_78 rfl ?_
                refine g_iconst (v := 4) dX7_mean_80 (by decide) ?_
                refine g_icmp_ne (tgt := 106) dX7_mean_81 (by decide) (fun c44 => ?_) (fun c44 => ?_)
                · refine g_iload dX7_mean_106 rfl ?_
                  refine g_if_ne (tgt := 126) dX7_mean_108 (by decide) (fun c45 => ?_) (fun c45 => ?_)
                  · refine g_iload dX7_mean_126 rfl ?_
                    refine g_iconst (v := 3) dX7_mean_128 (by decide) ?_
                    refine g_icmp_ne (tgt := 154) dX7_mean_129 (by decide) (fun c46 => ?_) (fun c46 => ?_)
                    · refine g_lconst (v := 0) dX7_mean_154 (by decide) ?_
                      refine g_lstore dX7_mean_155 (by decide) ?_
                      refine g_pick (lv' := [(0, .ref (uk_ad G 60)), (1, .int v), (2, .int m), (3, .int b), (4, .int w), (5, .long 100000000), (7, .int i27), (8, .int x43), (9, .long 0)]) [0, 1, 2, 3, 4, 5, 6, 7, 8] rfl ?_
                      refine g_aload_n dX7_mean_157 rfl ?_
                      refine f_X7_44 rfl rfl dX7_mean_158 ?_
                      refine g_iload dX7_mean_161 rfl ?_
                      refine g_iload dX7_mean_163 rfl ?_
                      refine g_iconst (v := 2) dX7_mean_165 (by decide) ?_
                      refine g_icmp_ne (tgt := 173) dX7_mean_166 (by decide) (fun c47 => ?_) (fun c47 => ?_)
                      · refine g_aload_n dX7_mean_173 rfl ?_
                        refine f_X7_44 rfl rfl dX7_mean_174 ?_
                        refine g_aload_n dX7_mean_177 rfl ?_
                        refine f_X7_20 rfl rfl dX7_mean_178 ?_
                        refine g_iload dX7_mean_181 rfl ?_
                        have v48 : vp_in i27 8 := uk_vin 8 rfl (by first | decide | lia | grind) (by first | decide | lia | grind)
                        refine g_iald rfl rfl v48 dX7_mean_183 ?_
                        refine g_topi (fun x49 ex49 => ?_)
                        have bx49 := uk_cl v48
                        have rx49 : (-4) ≤ x49 ∧ x49 ≤ 7 := by rw [ex49]; exact iv_at hu28 _ _ (uk_pick1 _ (by omega))
                        have hqx49 := (riu28.1 i27 (by lia) (by rw [fk_at (c := 60) (i := 3) fu28 (by decide)]; first | lia | grind) (by lia)).resolve_left (by first | assumption | grind)
                        have hpx49 : 0 ≤ x49 ∧ x49 < i27 := by rw [ex49]; exact ⟨hqx49.1, hqx49.2.1⟩
                        have v50 : vp_in x49 8 := uk_vin 8 rfl (by first | decide | lia | grind) (by first | decide | lia | grind)
                        refine g_lald rfl rfl v50 dX7_mean_184 ?_
                        refine g_topl (fun y51 ey51 => ?_)
                        refine g_lload dX7_mean_185 rfl ?_
                        refine g_ladd dX7_mean_187 ?_
                        refine g_topl (fun y52 ey52 => ?_)
                        have v53 : vp_in i27 8 := uk_vin 8 rfl (by first | decide | lia | grind) (by first | decide | lia | grind)
                        have b54 := uk_cl v53
                        refine g_last rfl rfl v53 dX7_mean_188 ?_
                        refine g_mem (fun u55 eu55 => ?_)
                        have hu55 : iv u55 := by rw [eu55]; exact iv_upL hu28
                        have fu55 : fk [72] [] u u55 := by rw [eu55]; exact fk_upL fu28 (by decide)
                        have riu55 : ri u55 := by rw [eu55]; exact riu28
                        refine g_iinc (v := i27 + 1) dX7_mean_189 rfl rfl (by decide) ?_
                        refine g_pick (lv' := [(0, .ref (uk_ad G 60)), (1, .int v), (2, .int m), (3, .int b), (4, .int w), (5, .long 100000000), (7, .int (i27 + 1)), (8, .int x43), (9, .long 0)]) [0, 1, 2, 3, 4, 5, 6, 7, 8] rfl ?_
                        refine g_goto (tgt := 60) dX7_mean_192 (by decide) ?_
                        refine g_pick (lv' := [(0, .ref (uk_ad G 60)), (1, .int v), (2, .int m), (3, .int b), (4, .int w), (5, .long 100000000), (7, .int (i27 + 1))]) [0, 1, 2, 3, 4, 5, 6] rfl ?_
                        exact ihi27 (by first | lia | grind)  u55 hu55 fu55 riu55 
                      · refine g_lconst (v := 0) dX7_mean_169 (by decide) ?_
                        refine g_goto (tgt := 188) dX7_mean_170 (by decide) ?_
                        have v56 : vp_in i27 8 := uk_vin 8 rfl (by first | decide | lia | grind) (by first | decide | lia | grind)
                        have b57 := uk_cl v56
                        refine g_last rfl rfl v56 dX7_mean_188 ?_
                        refine g_mem (fun u58 eu58 => ?_)
                        have hu58 : iv u58 := by rw [eu58]; exact iv_upL hu28
                        have fu58 : fk [72] [] u u58 := by rw [eu58]; exact fk_upL fu28 (by decide)
                        have riu58 : ri u58 := by rw [eu58]; exact riu28
                        refine g_iinc (v := i27 + 1) dX7_mean_189 rfl rfl (by decide) ?_
                        refine g_pick (lv' := [(0, .ref (uk_ad G 60)), (1, .int v), (2, .int m), (3, .int b), (4, .int w), (5, .long 100000000), (7, .int (i27 + 1)), (8, .int x43), (9, .long 0)]) [0, 1, 2, 3, 4, 5, 6, 7, 8] rfl ?_
                        refine g_goto (tgt := 60) dX7_mean_192 (by decide) ?_
                        refine g_pick (lv' := [(0, .ref (uk_ad G 60)), (1, .int v), (2, .int m), (3, .int b), (4, .int w), (5, .long 100000000), (7, .int (i27 + 1))]) [0, 1, 2, 3, 4, 5, 6] rfl ?_
                        exact ihi27 (by first | lia | grind)  u58 hu58 fu58 riu58 
                    · refine g_aload_n dX7_mean_132 rfl ?_
                      refine f_X7_44 rfl rfl dX7_mean_133 ?_
                      refine g_aload_n dX7_mean_136 rfl ?_
                      refine f_X7_23 rfl rfl dX7_mean_137 ?_
                      refine g_iload dX7_mean_140 rfl ?_
                      have v59 : vp_in i27 8 := uk_vin 8 rfl (by first | decide | lia | grind) (by first | decide | lia | grind)
                      refine g_iald rfl rfl v59 dX7_mean_142 ?_
                      refine g_topi (fun x60 ex60 => ?_)
                      have bx60 := uk_cl v59
                      have rx60 : (-4) ≤ x60 ∧ x60 ≤ 7 := by rw [ex60]; exact iv_at hu28 _ _ (uk_pick1 _ (by omega))
                      have hqx60 := (riu28.1 i27 (by lia) (by rw [fk_at (c := 60) (i := 3) fu28 (by decide)]; first | lia | grind) (by lia)).resolve_left (by first | assumption | grind)
                      have hpx60 : 0 ≤ x60 ∧ x60 < i27 := by rw [ex60]; exact ⟨hqx60.2.2.1, hqx60.2.2.2⟩
                      have v61 : vp_in x60 8 := uk_vin 8 rfl (by first | decide | lia | grind) (by first | decide | lia | grind)
                      refine g_lald rfl rfl v61 dX7_mean_143 ?_
                      refine g_topl (fun y62 ey62 => ?_)
                      refine g_ldc2 (v := 10) k_X7_229 dX7_mean_144 ?_
                      refine g_ldiv dX7_mean_147 (by first | decide | assumption | exact uk_lg0 (by assumption) | grind) ?_
                      refine g_topl (fun y63 ey63 => ?_)
                      refine g_iload_n dX7_mean_148 rfl ?_
                      refine g_i2l dX7_mean_149 ?_
                      refine g_lmul dX7_mean_150 ?_
                      refine g_topl (fun y64 ey64 => ?_)
                      refine g_goto (tgt := 155) dX7_mean_151 (by decide) ?_
                      refine g_lstore dX7_mean_155 (by decide) ?_
                      refine g_pick (lv' := [(0, .ref (uk_ad G 60)), (1, .int v), (2, .int m), (3, .int b), (4, .int w), (5, .long 100000000), (7, .int i27), (8, .int x43), (9, .long y64)]) [0, 1, 2, 3, 4, 5, 6, 7, 8] rfl ?_
                      refine g_aload_n dX7_mean_157 rfl ?_
                      refine f_X7_44 rfl rfl dX7_mean_158 ?_
                      refine g_iload dX7_mean_161 rfl ?_
                      refine g_iload dX7_mean_163 rfl ?_
                      refine g_iconst (v := 2) dX7_mean_165 (by decide) ?_
                      refine g_icmp_ne (tgt := 173) dX7_mean_166 (by decide) (fun c65 => ?_) (fun c65 => ?_)
                      · refine g_aload_n dX7_mean_173 rfl ?_
                        refine f_X7_44 rfl rfl dX7_mean_174 ?_
                        refine g_aload_n dX7_mean_177 rfl ?_
                        refine f_X7_20 rfl rfl dX7_mean_178 ?_
                        refine g_iload dX7_mean_181 rfl ?_
                        have v66 : vp_in i27 8 := uk_vin 8 rfl (by first | decide | lia | grind) (by first | decide | lia | grind)
                        refine g_iald rfl rfl v66 dX7_mean_183 ?_
                        refine g_topi (fun x67 ex67 => ?_)
                        have bx67 := uk_cl v66
                        have rx67 : (-4) ≤ x67 ∧ x67 ≤ 7 := by rw [ex67]; exact iv_at hu28 _ _ (uk_pick1 _ (by omega))
                        have hqx67 := (riu28.1 i27 (by lia) (by rw [fk_at (c := 60) (i := 3) fu28 (by decide)]; first | lia | grind) (by lia)).resolve_left (by first | assumption | grind)
                        have hpx67 : 0 ≤ x67 ∧ x67 < i27 := by rw [ex67]; exact ⟨hqx67.1, hqx67.2.1⟩
                        have v68 : vp_in x67 8 := uk_vin 8 rfl (by first | decide | lia | grind) (by first | decide | lia | grind)
                        refine g_lald rfl rfl v68 dX7_mean_184 ?_
                        refine g_topl (fun y69 ey69 => ?_)
                        refine g_lload dX7_mean_185 rfl ?_
                        refine g_ladd dX7_mean_187 ?_
                        refine g_topl (fun y70 ey70 => ?_)
                        have v71 : vp_in i27 8 := uk_vin 8 rfl (by first | decide | lia | grind) (by first | decide | lia | grind)
                        have b72 := uk_cl v71
                        refine g_last rfl rfl v71 dX7_mean_188 ?_
                        refine g_mem (fun u73 eu73 => ?_)
                        have hu73 : iv u73 := by rw [eu73]; exact iv_upL hu28
                        have fu73 : fk [72] [] u u73 := by rw [eu73]; exact fk_upL fu28 (by decide)
                        have riu73 : ri u73 := by rw [eu73]; exact riu28
                        refine g_iinc (v := i27 + 1) dX7_mean_189 rfl rfl (by decide) ?_
                        refine g_pick (lv' := [(0, .ref (uk_ad G 60)), (1, .int v), (2, .int m), (3, .int b), (4, .int w), (5, .long 100000000), (7, .int (i27 + 1)), (8, .int x43), (9, .long y64)]) [0, 1, 2, 3, 4, 5, 6, 7, 8] rfl ?_
                        refine g_goto (tgt := 60) dX7_mean_192 (by decide) ?_
                        refine g_pick (lv' := [(0, .ref (uk_ad G 60)), (1, .int v), (2, .int m), (3, .int b), (4, .int w), (5, .long 100000000), (7, .int (i27 + 1))]) [0, 1, 2, 3, 4, 5, 6] rfl ?_
                        exact ihi27 (by first | lia | grind)  u73 hu73 fu73 riu73 
                      · refine g_lconst (v := 0) dX7_mean_169 (by decide) ?_
                        refine g_goto (tgt := 188) dX7_mean_170 (by decide) ?_
                        have v74 : vp_in i27 8 := uk_vin 8 rfl (by first | decide | lia | grind) (by first | decide | lia | grind)
                        have b75 := uk_cl v74
                        refine g_last rfl rfl v74 dX7_mean_188 ?_
                        refine g_mem (fun u76 eu76 => ?_)
                        have hu76 : iv u76 := by rw [eu76]; exact iv_upL hu28
                        have fu76 : fk [72] [] u u76 := by rw [eu76]; exact fk_upL fu28 (by decide)
                        have riu76 : ri u76 := by rw [eu76]; exact riu28
                        refine g_iinc (v := i27 + 1) dX7_mean_189 rfl rfl (by decide) ?_
                        refine g_pick (lv' := [(0, .ref (uk_ad G 60)), (1, .int v), (2, .int m), (3, .int b), (4, .int w), (5, .long 100000000), (7, .int (i27 + 1)), (8, .int x43), (9, .long y64)]) [0, 1, 2, 3, 4, 5, 6, 7, 8] rfl ?_
                        refine g_goto (tgt := 60) dX7_mean_192 (by decide) ?_
                        refine g_pick (lv' := [(0, .ref (uk_ad G 60)), (1, .int v), (2, .int m), (3, .int b), (4, .int w), (5, .long 100000000), (7, .int (i27 + 1))]) [0, 1, 2, 3, 4, 5, 6] rfl ?_
                        exact ihi27 (by first | lia | grind)  u76 hu76 fu76 riu76 
                  · refine g_aload_n dX7_mean_111 rfl ?_
                    refine f_X7_44 rfl rfl dX7_mean_112 ?_
                    refine g_aload_n dX7_mean_115 rfl ?_
                    refine f_X7_23 rfl rfl dX7_mean_116 ?_
                    refine g_iload dX7_mean_119 rfl ?_
                    have v77 : vp_in i27 8 := uk_vin 8 rfl (by first | decide | lia | grind) (by first | decide | lia | grind)
                    refine g_iald rfl rfl v77 dX7_mean_121 ?_
                    refine g_topi (fun x78 ex78 => ?_)
                    have bx78 := uk_cl v77
                    have rx78 : (-4) ≤ x78 ∧ x78 ≤ 7 := by rw [ex78]; exact iv_at hu28 _ _ (uk_pick1 _ (by omega))
                    have hqx78 := (riu28.1 i27 (by lia) (by rw [fk_at (c := 60) (i := 3) fu28 (by decide)]; first | lia | grind) (by lia)).resolve_left (by first | assumption | grind)
                    have hpx78 : 0 ≤ x78 ∧ x78 < i27 := by rw [ex78]; exact ⟨hqx78.2.2.1, hqx78.2.2.2⟩
                    have v79 : vp_in x78 8 := uk_vin 8 rfl (by first | decide | lia | grind) (by first | decide | lia | grind)
                    refine g_lald rfl rfl v79 dX7_mean_122 ?_
                    refine g_topl (fun y80 ey80 => ?_)
                    refine g_goto (tgt := 155) dX7_mean_123 (by decide) ?_
                    refine g_lstore dX7_mean_155 (by decide) ?_
                    refine g_pick (lv' := [(0, .ref (uk_ad G 60)), (1, .int v), (2, .int m), (3, .int b), (4, .int w), (5, .long 100000000), (7, .int i27), (8, .int x43), (9, .long y80)]) [0, 1, 2, 3, 4, 5, 6, 7, 8] rfl ?_
                    refine g_aload_n dX7_mean_157 rfl ?_
                    refine f_X7_44 rfl rfl dX7_mean_158 ?_
                    refine g_iload dX7_mean_161 rfl ?_
                    refine g_iload dX7_mean_163 rfl ?_
                    refine g_iconst (v := 2) dX7_mean_165 (by decide) ?_
                    refine g_icmp_ne (tgt := 173) dX7_mean_166 (by decide) (fun c81 => ?_) (fun c81 => ?_)
                    · refine g_aload_n dX7_mean_173 rfl ?_
                      refine f_X7_44 rfl rfl dX7_mean_174 ?_
                      refine g_aload_n dX7_mean_177 rfl ?_
                      refine f_X7_20 rfl rfl dX7_mean_178 ?_
                      refine g_iload dX7_mean_181 rfl ?_
                      have v82 : vp_in i27 8 := uk_vin 8 rfl (by first | decide | lia | grind) (by first | decide | lia | grind)
                      refine g_iald rfl rfl v82 dX7_mean_183 ?_
                      refine g_topi (fun x83 ex83 => ?_)
                      have bx83 := uk_cl v82
                      have rx83 : (-4) ≤ x83 ∧ x83 ≤ 7 := by rw [ex83]; exact iv_at hu28 _ _ (uk_pick1 _ (by omega))
                      have hqx83 := (riu28.1 i27 (by lia) (by rw [fk_at (c := 60) (i := 3) fu28 (by decide)]; first | lia | grind) (by lia)).resolve_left (by first | assumption | grind)
                      have hpx83 : 0 ≤ x83 ∧ x83 < i27 := by rw [ex83]; exact ⟨hqx83.1, hqx83.2.1⟩
                      have v84 : vp_in x83 8 := uk_vin 8 rfl (by first | decide | lia | grind) (by first | decide | lia | grind)
                      refine g_lald rfl rfl v84 dX7_mean_184 ?_
                      refine g_topl (fun y85 ey85 => ?_)
                      refine g_lload dX7_mean_185 rfl ?_
                      refine g_ladd dX7_mean_187 ?_
                      refine g_topl (fun y86 ey86 => ?_)
                      have v87 : vp_in i27 8 := uk_vin 8 rfl (by first | decide | lia | grind) (by first | decide | lia | grind)
                      have b88 := uk_cl v87
                      refine g_last rfl rfl v87 dX7_mean_188 ?_
                      refine g_mem (fun u89 eu89 => ?_)
                      have hu89 : iv u89 := by rw [eu89]; exact iv_upL hu28
                      have fu89 : fk [72] [] u u89 := by rw [eu89]; exact fk_upL fu28 (by decide)
                      have riu89 : ri u89 := by rw [eu89]; exact riu28
                      refine g_iinc (v := i27 + 1) dX7_mean_189 rfl rfl (by decide) ?_
                      refine g_pick (lv' := [(0, .ref (uk_ad G 60)), (1, .int v), (2, .int m), (3, .int b), (4, .int w), (5, .long 100000000), (7, .int (i27 + 1)), (8, .int x43), (9, .long y80)]) [0, 1, 2, 3, 4, 5, 6, 7, 8] rfl ?_
                      refine g_goto (tgt := 60) dX7_mean_192 (by decide) ?_
                      refine g_pick (lv' := [(0, .ref (uk_ad G 60)), (1, .int v), (2, .int m), (3, .int b), (4, .int w), (5, .long 100000000), (7, .int (i27 + 1))]) [0, 1, 2, 3, 4, 5, 6] rfl ?_
                      exact ihi27 (by first | lia | grind)  u89 hu89 fu89 riu89 
                    · refine g_lconst (v := 0) dX7_mean_169 (by decide) ?_
                      refine g_goto (tgt := 188) dX7_mean_170 (by decide) ?_
                      have v90 : vp_in i27 8 := uk_vin 8 rfl (by first | decide | lia | grind) (by first | decide | lia | grind)
                      have b91 := uk_cl v90
                      refine g_last rfl rfl v90 dX7_mean_188 ?_
                      refine g_mem (fun u92 eu92 => ?_)
                      have hu92 : iv u92 := by rw [eu92]; exact iv_upL hu28
                      have fu92 : fk [72] [] u u92 := by rw [eu92]; exact fk_upL fu28 (by decide)
                      have riu92 : ri u92 := by rw [eu92]; exact riu28
                      refine g_iinc (v := i27 + 1) dX7_mean_189 rfl rfl (by decide) ?_
                      refine g_pick (lv' := [(0, .ref (uk_ad G 60)), (1, .int v), (2, .int m), (3, .int b), (4, .int w), (5, .long 100000000), (7, .int (i27 + 1)), (8, .int x43), (9, .long y80)]) [0, 1, 2, 3, 4, 5, 6, 7, 8] rfl ?_
                      refine g_goto (tgt := 60) dX7_mean_192 (by decide) ?_
                      refine g_pick (lv' := [(0, .ref (uk_ad G 60)), (1, .int v), (2, .int m), (3, .int b), (4, .int w), (5, .long 100000000), (7, .int (i27 + 1))]) [0, 1, 2, 3, 4, 5, 6] rfl ?_
                      exact ihi27 (by first | lia | grind)  u92 hu92 fu92 riu92 
                · refine g_aload_n dX7_mean_84 rfl ?_
                  refine f_X7_44 rfl rfl dX7_mean_85 ?_
                  refine g_iload dX7_mean_88 rfl ?_
                  refine g_iload dX7_mean_90 rfl ?_
                  refine g_iload_n dX7_mean_92 rfl ?_
                  refine g_icmp_ne (tgt := 101) dX7_mean_93 (by decide) (fun c93 => ?_) (fun c93 => ?_)
                  · refine g_lconst (v := 0) dX7_mean_101 (by decide) ?_
                    have v94 : vp_in i27 8 := uk_vin 8 rfl (by first | decide | lia | grind) (by first | decide | lia | grind)
                    have b95 := uk_cl v94
                    refine g_last rfl rfl v94 dX7_mean_102 ?_
                    refine g_mem (fun u96 eu96 => ?_)
                    have hu96 : iv u96 := by rw [eu96]; exact iv_upL hu28
                    have fu96 : fk [72] [] u u96 := by rw [eu96]; exact fk_upL fu28 (by decide)
                    have riu96 : ri u96 := by rw [eu96]; exact riu28
                    refine g_goto (tgt := 189) dX7_mean_103 (by decide) ?_
                    refine g_iinc (v := i27 + 1) dX7_mean_189 rfl rfl (by decide) ?_
                    refine g_pick (lv' := [(0, .ref (uk_ad G 60)), (1, .int v), (2, .int m), (3, .int b), (4, .int w), (5, .long 100000000), (7, .int (i27 + 1)), (8, .int x43)]) [0, 1, 2, 3, 4, 5, 6, 7] rfl ?_
                    refine g_goto (tgt := 60) dX7_mean_192 (by decide) ?_
                    refine g_pick (lv' := [(0, .ref (uk_ad G 60)), (1, .int v), (2, .int m), (3, .int b), (4, .int w), (5, .long 100000000), (7, .int (i27 + 1))]) [0, 1, 2, 3, 4, 5, 6] rfl ?_
                    exact ihi27 (by first | lia | grind)  u96 hu96 fu96 riu96 
                  · refine g_lload dX7_mean_96 rfl ?_
                    refine g_goto (tgt := 102) dX7_mean_98 (by decide) ?_
                    have v97 : vp_in i27 8 := uk_vin 8 rfl (by first | decide | lia | grind) (by first | decide | lia | grind)
                    have b98 := uk_cl v97
                    refine g_last rfl rfl v97 dX7_mean_102 ?_
                    refine g_mem (fun u99 eu99 => ?_)
                    have hu99 : iv u99 := by rw [eu99]; exact iv_upL hu28
                    have fu99 : fk [72] [] u u99 := by rw [eu99]; exact fk_upL fu28 (by decide)
                    have riu99 : ri u99 := by rw [eu99]; exact riu28
                    refine g_goto (tgt := 189) dX7_mean_103 (by decide) ?_
                    refine g_iinc (v := i27 + 1) dX7_mean_189 rfl rfl (by decide) ?_
                    refine g_pick (lv' := [(0, .ref (uk_ad G 60)), (1, .int v), (2, .int m), (3, .int b), (4, .int w), (5, .long 100000000), (7, .int (i27 + 1)), (8, .int x43)]) [0, 1, 2, 3, 4, 5, 6, 7] rfl ?_
                    refine g_goto (tgt := 60) dX7_mean_192 (by decide) ?_
                    refine g_pick (lv' := [(0, .ref (uk_ad G 60)), (1, .int v), (2, .int m), (3, .int b), (4, .int w), (5, .long 100000000), (7, .int (i27 + 1))]) [0, 1, 2, 3, 4, 5, 6] rfl ?_
                    exact ihi27 (by first | lia | grind)  u99 hu99 fu99 riu99 
            refine g_pick (lv' := [(0, .ref (uk_ad G 60)), (1, .int v), (2, .int m), (3, .int b), (4, .int w), (5, .long 100000000), (7, .int 0)]) [0, 1, 2, 3, 4, 5, 6] rfl ?_
            exact L60_25 0 (by first | decide | lia | grind) (by first | decide | lia | grind)  u hu f0 hri 
          · have zc25 := zx24 c25
            refine g_ldc2 (v := (-2)) k_X7_233 dX7_mean_48 ?_
            exact g_lret dX7_mean_51 rfl ⟨⟨_, rfl, by first | trivial | decide | exact uk_lg0 (by assumption) | grind⟩, hu, f0, hri⟩
        · have zc20 := zx19 c20
          refine g_ldc2 (v := (-1)) k_X7_231 dX7_mean_36 ?_
          exact g_lret dX7_mean_39 rfl ⟨⟨_, rfl, by first | trivial | decide | exact uk_lg0 (by assumption) | grind⟩, hu, f0, hri⟩
abbrev q_X7_copies (u : uk_Mem) (t : Int32) (o : Int32) (r : Option Value) (u' : uk_Mem) : Prop := (r = none) ∧ (iv u' ∧ fk [61] [] u u' ∧ cpi (u'.1 61) (u.1 61) t o 51)
abbrev q_X7_keep (u : uk_Mem) (k : Int32) (r : Option Value) (u' : uk_Mem) : Prop := (∃ x : Int32, r = some (.int x) ∧ True) ∧ (iv u' ∧ fk [61, 63] [] u u' ∧ ri u')
abbrev q_X7_back (u : uk_Mem) (k : Int32) (r : Option Value) (u' : uk_Mem) : Prop := (∃ x : Int32, r = some (.int x) ∧ True) ∧ (iv u' ∧ fk [61] [] u u' ∧ ri u')
