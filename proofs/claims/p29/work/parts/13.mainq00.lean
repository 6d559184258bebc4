theorem uk_lg0 {x : Int64} (h : ¬ lg_cmp x 0 ≤ 0) : ¬ x = 0 := fun q => h (by rw [q]; decide)
abbrev q_X6_isDigit (u : uk_Mem) (v : Int32) (r : Option Value) (u' : uk_Mem) : Prop := (∃ x : Int32, r = some (.int x) ∧ (x = 0 ∨ x = 1) ∧ (¬ x = 0 → 0 ≤ v ∧ v ≤ 9) ∧ (x = 0 → True)) ∧ (u' = u)
abbrev q_X6_isFlag (u : uk_Mem) (w : Int32) (r : Option Value) (u' : uk_Mem) : Prop := (∃ x : Int32, r = some (.int x) ∧ (x = 0 ∨ x = 1) ∧ (¬ x = 0 → w = 0 ∨ w = 1) ∧ (x = 0 → True)) ∧ (u' = u)
set_option maxHeartbeats 4000000 in
set_option maxRecDepth 20000 in
theorem c_X6_isFlag {G : uk_D} (hs : uk_Sep G) {u : uk_Mem} (hu : iv u) (w : Int32) (d : Nat) : uk_Meth G d mX6_isFlag [.int w] u (q_X6_isFlag u w) := by
  refine uk_Meth.of hs (by decide) (Nat.le_of_ble_eq_true rfl) (fun X => ?_)
  refine g_iload_n dX6_isFlag_0 rfl ?_
  refine g_if_eq (tgt := 9) dX6_isFlag_1 (by decide) (fun c1 => ?_) (fun c1 => ?_)
  · refine g_iconst (v := 1) dX6_isFlag_9 (by decide) ?_
    refine g_goto (tgt := 14) dX6_isFlag_10 (by decide) ?_
    exact g_iret (ty := .boolean) dX6_isFlag_14 rfl rfl ⟨⟨1, rfl, Or.inr rfl, fun _ => by first | trivial | lia | grind, fun q => absurd q (by decide)⟩, rfl⟩
  · refine g_iload_n dX6_isFlag_4 rfl ?_
    refine g_iconst (v := 1) dX6_isFlag_5 (by decide) ?_
    refine g_icmp_ne (tgt := 13) dX6_isFlag_6 (by decide) (fun c2 => ?_) (fun c2 => ?_)
    · refine g_iconst (v := 0) dX6_isFlag_13 (by decide) ?_
      exact g_iret (ty := .boolean) dX6_isFlag_14 rfl rfl ⟨⟨0, rfl, Or.inl rfl, fun q => absurd rfl q, fun _ => by first | trivial | lia | grind⟩, rfl⟩
    · refine g_iconst (v := 1) dX6_isFlag_9 (by decide) ?_
      refine g_goto (tgt := 14) dX6_isFlag_10 (by decide) ?_
      exact g_iret (ty := .boolean) dX6_isFlag_14 rfl rfl ⟨⟨1, rfl, Or.inr rfl, fun _ => by first | trivial | lia | grind, fun q => absurd q (by decide)⟩, rfl⟩
abbrev q_X6_isImage (u : uk_Mem) (k : Int32) (r : Option Value) (u' : uk_Mem) : Prop := (∃ x : Int32, r = some (.int x) ∧ (x = 0 ∨ x = 1) ∧ (¬ x = 0 → 0 ≤ k ∧ k ≤ 1) ∧ (x = 0 → True)) ∧ (u' = u)
abbrev q_X6_isSheet (u : uk_Mem) (k : Int32) (r : Option Value) (u' : uk_Mem) : Prop := (∃ x : Int32, r = some (.int x) ∧ (x = 0 ∨ x = 1) ∧ (¬ x = 0 → 0 ≤ k ∧ k ≤ 3) ∧ (x = 0 → True)) ∧ (u' = u)
abbrev q_X6_isLane (u : uk_Mem) (l : Int32) (r : Option Value) (u' : uk_Mem) : Prop := (∃ x : Int32, r = some (.int x) ∧ (x = 0 ∨ x = 1) ∧ (¬ x = 0 → 0 ≤ l ∧ l ≤ 2) ∧ (x = 0 → True)) ∧ (u' = u)
abbrev q_X6_drawn (u : uk_Mem) (s : Int32) (r : Option Value) (u' : uk_Mem) : Prop := (∃ x : Int32, r = some (.int x) ∧ True) ∧ (u' = u)
set_option maxHeartbeats 4000000 in
set_option maxRecDepth 20000 in
theorem c_X6_drawn {G : uk_D} (hs : uk_Sep G) {u : uk_Mem} (hu : iv u) (s : Int32) (d : Nat) : uk_Meth G d mX6_drawn [.int s] u (q_X6_drawn u s) := by
  refine uk_Meth.of hs (by decide) (Nat.le_of_ble_eq_true rfl) (fun X => ?_)
  refine g_iload_n dX6_drawn_0 rfl ?_
  refine g_bipush (v := 16) dX6_drawn_1 (by decide) ?_
  refine g_iushr dX6_drawn_3 (fun x1 ex1 => ?_)
  refine g_sipush (v := 32767) dX6_drawn_4 (by decide) ?_
  refine g_iand dX6_drawn_7 ?_
  refine g_topi (fun x2 ex2 => ?_)
  exact g_iret (ty := .int) dX6_drawn_8 rfl rfl ⟨⟨_, rfl, by first | trivial | lia | grind⟩, rfl⟩
abbrev q_X6_greatestCommon (u : uk_Mem) (a : Int64) (b : Int64) (r : Option Value) (u' : uk_Mem) : Prop := (∃ x : Int64, r = some (.long x) ∧ ¬ x = 0) ∧ (u' = u)
set_option maxHeartbeats 4000000 in
set_option maxRecDepth 20000 in
theorem c_X6_greatestCommon {G : uk_D} (hs : uk_Sep G) {u : uk_Mem} (hu : iv u) (a : Int64) (b : Int64) (d : Nat) : uk_Meth G d mX6_greatestCommon [.long a, .long b] u (q_X6_greatestCommon u a b) := by
  refine uk_Meth.of hs (by decide) (Nat.le_of_ble_eq_true rfl) (fun X => ?_)
  refine g_lload_n dX6_greatestCommon_0 rfl ?_
  refine g_lstore dX6_greatestCommon_1 (by decide) ?_
  refine g_pick (lv' := [(0, .long a), (2, .long b), (4, .long b)]) [0, 1, 2] rfl ?_
  refine g_lload_n dX6_greatestCommon_3 rfl ?_
  refine g_lstore dX6_greatestCommon_4 (by decide) ?_
  refine g_pick (lv' := [(0, .long a), (2, .long b), (4, .long b), (6, .long a)]) [0, 1, 2, 3] rfl ?_
  refine g_iconst (v := 0) dX6_greatestCommon_6 (by decide) ?_
  refine g_istore dX6_greatestCommon_7 (by decide) ?_
  refine g_pick (lv' := [(0, .long a), (2, .long b), (4, .long b), (6, .long a), (8, .int 0)]) [0, 1, 2, 3, 4] rfl ?_
  have L9_0 : ∀ i4 : Int32, 0 ≤ i4 → i4 ≤ 128 → ∀ (w2 : Int64) (w3 : Int64), uk_G G X mX6_greatestCommon d (q_X6_greatestCommon u a b) 9 [(0, .long a), (2, .long b), (4, .long w2), (6, .long w3), (8, .int i4)] [] u := by
    refine uk_upl 128 ?_
    intro i4 ai4 bi4 ihi4 w2 w3
    refine g_iload dX6_greatestCommon_9 rfl ?_
    refine g_sipush (v := 128) dX6_greatestCommon_11 (by decide) ?_
    refine g_icmp_ge (tgt := 45) dX6_greatestCommon_14 (by decide) (fun c5 => ?_) (fun c5 => ?_)
    · refine g_lload dX6_greatestCommon_45 rfl ?_
      refine g_lconst (v := 0) dX6_greatestCommon_47 (by decide) ?_
      refine g_lcmp dX6_greatestCommon_48 ?_
      refine g_if_le (tgt := 57) dX6_greatestCommon_49 (by decide) (fun c6 => ?_) (fun c6 => ?_)
      · refine g_lconst (v := 1) dX6_greatestCommon_57 (by decide) ?_
        exact g_lret dX6_greatestCommon_58 rfl ⟨⟨_, rfl, by first | trivial | decide | exact uk_lg0 (by assumption) | grind⟩, rfl⟩
      · refine g_lload dX6_greatestCommon_52 rfl ?_
        refine g_goto (tgt := 58) dX6_greatestCommon_54 (by decide) ?_
        exact g_lret dX6_greatestCommon_58 rfl ⟨⟨_, rfl, by first | trivial | decide | exact uk_lg0 (by assumption) | grind⟩, rfl⟩
    · refine g_lload dX6_greatestCommon_17 rfl ?_
      refine g_lconst (v := 0) dX6_greatestCommon_19 (by decide) ?_
      refine g_lcmp dX6_greatestCommon_20 ?_
      refine g_if_le (tgt := 45) dX6_greatestCommon_21 (by decide) (fun c7 => ?_) (fun c7 => ?_)
      · refine g_lload dX6_greatestCommon_45 rfl ?_
        refine g_lconst (v := 0) dX6_greatestCommon_47 (by decide) ?_
        refine g_lcmp dX6_greatestCommon_48 ?_
        refine g_if_le (tgt := 57) dX6_greatestCommon_49 (by decide) (fun c8 => ?_) (fun c8 => ?_)
        · refine g_lconst (v := 1) dX6_greatestCommon_57 (by decide) ?_
          exact g_lret dX6_greatestCommon_58 rfl ⟨⟨_, rfl, by first | trivial | decide | exact uk_lg0 (by assumption) | grind⟩, rfl⟩
        · refine g_lload dX6_greatestCommon_52 rfl ?_
          refine g_goto (tgt := 58) dX6_greatestCommon_54 (by decide) ?_
          exact g_lret dX6_greatestCommon_58 rfl ⟨⟨_, rfl, by first | trivial | decide | exact uk_lg0 (by assumption) | grind⟩, rfl⟩
      · refine g_lload dX6_greatestCommon_24 rfl ?_
        refine g_lload dX6_greatestCommon_26 rfl ?_
        refine g_lrem dX6_greatestCommon_28 (by first | decide | assumption | exact uk_lg0 (by assumption) | grind) ?_
        refine g_topl (fun y9 ey9 => ?_)
        refine g_lstore dX6_greatestCommon_29 (by decide) ?_
        refine g_pick (lv' := [(0, .long a), (2, .long b), (4, .long w2), (6, .long w3), (8, .int i4), (9, .long y9)]) [0, 1, 2, 3, 4, 5] rfl ?_
        refine g_lload dX6_greatestCommon_31 rfl ?_
        refine g_lstore dX6_greatestCommon_33 (by decide) ?_
        refine g_pick (lv' := [(0, .long a), (2, .long b), (4, .long w3), (6, .long w3), (8, .int i4), (9, .long y9)]) [0, 1, 2, 3, 4, 5] rfl ?_
        refine g_lload dX6_greatestCommon_35 rfl ?_
        refine g_lstore dX6_greatestCommon_37 (by decide) ?_
        refine g_pick (lv' := [(0, .long a), (2, .long b), (4, .long w3), (6, .long y9), (8, .int i4), (9, .long y9)]) [0, 1, 2, 3, 4, 5] rfl ?_
        refine g_iinc (v := i4 + 1) dX6_greatestCommon_39 rfl rfl (by decide) ?_
        refine g_pick (lv' := [(0, .long a), (2, .long b), (4, .long w3), (6, .long y9), (8, .int (i4 + 1)), (9, .long y9)]) [0, 1, 2, 3, 4, 5] rfl ?_
        refine g_goto (tgt := 9) dX6_greatestCommon_42 (by decide) ?_
        refine g_pick (lv' := [(0, .long a), (2, .long b), (4, .long w3), (6, .long y9), (8, .int (i4 + 1))]) [0, 1, 2, 3, 4] rfl ?_
        exact ihi4 (by first | lia | grind) w3 y9 
  refine g_pick (lv' := [(0, .long a), (2, .long b), (4, .long b), (6, .long a), (8, .int 0)]) [0, 1, 2, 3, 4] rfl ?_
  exact L9_0 0 (by first | decide | lia | grind) (by first | decide | lia | grind) b a 
abbrev q_X6_scaledMean (u : uk_Mem) (v : Int32) (m : Int32) (x9 : Int32) (r : Option Value) (u' : uk_Mem) : Prop := (∃ x : Int64, r = some (.long x) ∧ True) ∧ (iv u' ∧ fr 59 60 u u')
set_option maxHeartbeats 4000000 in
set_option maxRecDepth 20000 in
theorem c_X6_scaledMean {G : uk_D} (hs : uk_Sep G) {u : uk_Mem} (hu : iv u) (v : Int32) (m : Int32) (x9 : Int32) (p0 : 0 ≤ m) (p1 : m ≤ 7) (d : Nat) : uk_Meth G (d + 1) mX6_scaledMean [.ref (uk_ad G 0), .int v, .int m, .int x9] u (q_X6_scaledMean u v m x9) := by
  refine uk_Meth.of hs (by decide) (Nat.le_of_ble_eq_true rfl) (fun X => ?_)
  have f0 : fr 59 60 u u := fr_rf
  refine g_iconst (v := 0) dX6_scaledMean_0 (by decide) ?_
  refine g_istore dX6_scaledMean_1 (by decide) ?_
  refine g_pick (lv' := [(0, .ref (uk_ad G 0)), (1, .int v), (2, .int m), (3, .int x9), (4, .int 0)]) [0, 1, 2, 3, 4] rfl ?_
  have L3_0 : ∀ i2 : Int32, 0 ≤ i2 → i2 ≤ 8 → ∀ (u3 : uk_Mem), iv u3 → fr 59 60 u u3 → uk_G G X mX6_scaledMean (d + 1) (q_X6_scaledMean u v m x9) 3 [(0, .ref (uk_ad G 0)), (1, .int v), (2, .int m), (3, .int x9), (4, .int i2)] [] u3 := by
    refine uk_upl 8 ?_
    intro i2 ai2 bi2 ihi2  u3 hu3 fu3
    refine g_iload dX6_scaledMean_3 rfl ?_
    refine g_iload_n dX6_scaledMean_5 rfl ?_
    refine g_icmp_gt (tgt := 183) dX6_scaledMean_6 (by decide) (fun c4 => ?_) (fun c4 => ?_)
    · refine g_aload_n dX6_scaledMean_183 rfl ?_
      refine f_X6_73 rfl rfl dX6_scaledMean_184 ?_
      refine g_iload_n dX6_scaledMean_187 rfl ?_
      have v5 : vp_in m 8 := uk_vin 8 rfl (by first | decide | lia | grind) (by first | decide | lia | grind)
      refine g_lald rfl rfl v5 dX6_scaledMean_188 ?_
      refine g_topl (fun y6 ey6 => ?_)
      exact g_lret dX6_scaledMean_189 rfl ⟨⟨_, rfl, by first | trivial | decide | exact uk_lg0 (by assumption) | grind⟩, hu3, fu3⟩
    · refine g_aload_n dX6_scaledMean_9 rfl ?_
      refine f_X6_10 rfl rfl dX6_scaledMean_10 ?_
      refine g_iload dX6_scaledMean_13 rfl ?_
      refine cl_X6_122 (c := 13) (As := [.int i2]) rfl (c_X0_isMade (G := G) hs hu3 uk_isK13 i2 (by first | trivial | decide | lia | grind) (by first | trivial | decide | lia | grind) (d)) rfl (by omega) rfl rfl (Nat.le_of_ble_eq_true rfl) dX6_scaledMean_15 (fun r7 u8 q9 => ?_)
      obtain ⟨⟨x10, rfl, tx10, nx10, zx10⟩, mq9⟩ := q9
      rw [mq9]
      refine g_if_ne (tgt := 44) dX6_scaledMean_18 (by decide) (fun c11 => ?_) (fun c11 => ?_)
      · have zc11 := nx10 c11
        refine g_aload_n dX6_scaledMean_44 rfl ?_
        refine f_X6_73 rfl rfl dX6_scaledMean_45 ?_
        refine g_aload_n dX6_scaledMean_48 rfl ?_
        refine f_X6_10 rfl rfl dX6_scaledMean_49 ?_
        refine f_X6_128 rfl rfl dX6_scaledMean_52 ?_
        refine g_iload dX6_scaledMean_55 rfl ?_
        have v12 : vp_in i2 8 := uk_vin 8 rfl (by first | decide | lia | grind) (by first | decide | lia | grind)
        refine g_iald rfl rfl v12 dX6_scaledMean_57 ?_
        refine g_topi (fun x13 ex13 => ?_)
        have bx13 := uk_cl v12
        have rx13 : 0 ≤ x13 ∧ x13 ≤ 7 := by rw [ex13]; exact iv_at hu3 _ _ (uk_pick1 _ (by omega))
        have v14 : vp_in x13 8 := uk_vin 8 rfl (by first | decide | lia | grind) (by first | decide | lia | grind)
        refine g_lald rfl rfl v14 dX6_scaledMean_58 ?_
        refine g_topl (fun y15 ey15 => ?_)
        refine g_lstore dX6_scaledMean_59 (by decide) ?_
        refine g_pick (lv' := [(0, .ref (uk_ad G 0)), (1, .int v), (2, .int m), (3, .int x9), (4, .int i2), (5, .long y15)]) [0, 1, 2, 3, 4, 5] rfl ?_
        refine g_aload_n dX6_scaledMean_61 rfl ?_
        refine f_X6_73 rfl rfl dX6_scaledMean_62 ?_
        refine g_aload_n dX6_scaledMean_65 rfl ?_
        refine f_X6_10 rfl rfl dX6_scaledMean_66 ?_
        refine f_X6_131 rfl rfl dX6_scaledMean_69 ?_
        refine g_iload dX6_scaledMean_72 rfl ?_
        have v16 : vp_in i2 8 := uk_vin 8 rfl (by first | decide | lia | grind) (by first | decide | lia | grind)
        refine g_iald rfl rfl v16 dX6_scaledMean_74 ?_
        refine g_topi (fun x17 ex17 => ?_)
        have bx17 := uk_cl v16
        have rx17 : 0 ≤ x17 ∧ x17 ≤ 7 := by rw [ex17]; exact iv_at hu3 _ _ (uk_pick1 _ (by omega))
        have v18 : vp_in x17 8 := uk_vin 8 rfl (by first | decide | lia | grind) (by first | decide | lia | grind)
        refine g_lald rfl rfl v18 dX6_scaledMean_75 ?_
        refine g_topl (fun y19 ey19 => ?_)
        refine g_lstore dX6_scaledMean_76 (by decide) ?_
        refine g_pick (lv' := [(0, .ref (uk_ad G 0)), (1, .int v), (2, .int m), (3, .int x9), (4, .int i2), (5, .long y15), (7, .long y19)]) [0, 1, 2, 3, 4, 5, 6] rfl ?_
        refine g_aload_n dX6_scaledMean_78 rfl ?_
        refine f_X6_10 rfl rfl dX6_scaledMean_79 ?_
        refine f_X6_125 rfl rfl dX6_scaledMean_82 ?_
        refine g_iload dX6_scaledMean_85 rfl ?_
        have v20 : vp_in i2 8 := uk_vin 8 rfl (by first | decide | lia | grind) (by first | decide | lia | grind)
        refine g_iald rfl rfl v20 dX6_scaledMean_87 ?_
        refine g_topi (fun x21 ex21 => ?_)
        by_cases c22 : x21 = 0
        · refine g_tabIn (off := (32)) (tgt := 120) dX6_scaledMean_88 (by rw [c22]; decide) (by rw [c22]; decide) (by rw [c22]; rfl) (by decide) ?_
          refine g_aload_n dX6_scaledMean_120 rfl ?_
          refine f_X6_73 rfl rfl dX6_scaledMean_121 ?_
          refine g_iload dX6_scaledMean_124 rfl ?_
          refine g_lload dX6_scaledMean_126 rfl ?_
          refine g_lload dX6_scaledMean_128 rfl ?_
          refine g_ladd dX6_scaledMean_130 ?_
          refine g_topl (fun y23 ey23 => ?_)
          have v24 : vp_in i2 8 := uk_vin 8 rfl (by first | decide | lia | grind) (by first | decide | lia | grind)
          have b25 := uk_cl v24
          refine g_last rfl rfl v24 dX6_scaledMean_131 ?_
          refine g_mem (fun u26 eu26 => ?_)
          have hu26 : iv u26 := by rw [eu26]; exact iv_upL hu3
          have fu26 : fr 59 60 u u26 := by rw [eu26]; exact fr_upL fu3 (by omega) (by omega)
          refine g_goto (tgt := 177) dX6_scaledMean_132 (by decide) ?_
          refine g_iinc (v := i2 + 1) dX6_scaledMean_177 rfl rfl (by decide) ?_
          refine g_pick (lv' := [(0, .ref (uk_ad G 0)), (1, .int v), (2, .int m), (3, .int x9), (4, .int (i2 + 1)), (5, .long y15), (7, .long y19)]) [0, 1, 2, 3, 4, 5, 6] rfl ?_
          refine g_goto (tgt := 3) dX6_scaledMean_180 (by decide) ?_
          refine g_pick (lv' := [(0, .ref (uk_ad G 0)), (1, .int v), (2, .int m), (3, .int x9), (4, .int (i2 + 1))]) [0, 1, 2, 3, 4] rfl ?_
          exact ihi2 (by first | lia | grind)  u26 hu26 fu26 
        by_cases c27 : x21 = 1
        · refine g_tabIn (off := (47)) (tgt := 135) dX6_scaledMean_88 (by rw [c27]; decide) (by rw [c27]; decide) (by rw [c27]; rfl) (by decide) ?_
          refine g_aload_n dX6_scaledMean_135 rfl ?_
          refine f_X6_73 rfl rfl dX6_scaledMean_136 ?_
          refine g_iload dX6_scaledMean_139 rfl ?_
          refine g_lload dX6_scaledMean_141 rfl ?_
          have v28 : vp_in i2 8 := uk_vin 8 rfl (by first | decide | lia | grind) (by first | decide | lia | grind)
          have b29 := uk_cl v28
          refine g_last rfl rfl v28 dX6_scaledMean_143 ?_
          refine g_mem (fun u30 eu30 => ?_)
          have hu30 : iv u30 := by rw [eu30]; exact iv_upL hu3
          have fu30 : fr 59 60 u u30 := by rw [eu30]; exact fr_upL fu3 (by omega) (by omega)
          refine g_goto (tgt := 177) dX6_scaledMean_144 (by decide) ?_
          refine g_iinc (v := i2 + 1) dX6_scaledMean_177 rfl rfl (by decide) ?_
          refine g_pick (lv' := [(0, .ref (uk_ad G 0)), (1, .int v), (2, .int m), (3, .int x9), (4, .int (i2 + 1)), (5, .long y15), (7, .long y19)]) [0, 1, 2, 3, 4, 5, 6] rfl ?_
          refine g_goto (tgt := 3) dX6_scaledMean_180 (by decide) ?_
          refine g_pick (lv' := [(0, .ref (uk_ad G 0)), (1, .int v), (2, .int m), (3, .int x9), (4, .int (i2 + 1))]) [0, 1, 2, 3, 4] rfl ?_
          exact ihi2 (by first | lia | grind)  u30 hu30 fu30 
        by_cases c31 : x21 = 2
        · refine g_tabIn (off := (81)) (tgt := 169) dX6_scaledMean_88 (by rw [c31]; decide) (by rw [c31]; decide) (by rw [c31]; rfl) (by decide) ?_
          refine g_aload_n dX6_scaledMean_169 rfl ?_
          refine f_X6_73 rfl rfl dX6_scaledMean_170 ?_
          refine g_iload dX6_scaledMean_173 rfl ?_
          refine g_lconst (v := 0) dX6_scaledMean_175 (by decide) ?_
          have v32 : vp_in i2 8 := uk_vin 8 rfl (by first | decide | lia | grind) (by first | decide | lia | grind)
          have b33 := uk_cl v32
          refine g_last rfl rfl v32 dX6_scaledMean_176 ?_
          refine g_mem (fun u34 eu34 => ?_)
          have hu34 : iv u34 := by rw [eu34]; exact iv_upL hu3
          have fu34 : fr 59 60 u u34 := by rw [eu34]; exact fr_upL fu3 (by omega) (by omega)
          refine g_iinc (v := i2 + 1) dX6_scaledMean_177 rfl rfl (by decide) ?_
          refine g_pick (lv' := [(0, .ref (uk_ad G 0)), (1, .int v), (2, .int m), (3, .int x9), (4, .int (i2 + 1)), (5, .long y15), (7, .long y19)]) [0, 1, 2, 3, 4, 5, 6] rfl ?_
          refine g_goto (tgt := 3) dX6_scaledMean_180 (by decide) ?_
          refine g_pick (lv' := [(0, .ref (uk_ad G 0)), (1, .int v), (2, .int m), (3, .int x9), (4, .int (i2 + 1))]) [0, 1, 2, 3, 4] rfl ?_
          exact ihi2 (by first | lia | grind)  u34 hu34 fu34 
        by_cases c35 : x21 = 3
        · refine g_tabIn (off := (59)) (tgt := 147) dX6_scaledMean_88 (by rw [c35]; decide) (by rw [c35]; decide) (by rw [c35]; rfl) (by decide) ?_
          refine g_aload_n dX6_scaledMean_147 rfl ?_
          refine f_X6_73 rfl rfl dX6_scaledMean_148 ?_
          refine g_iload dX6_scaledMean_151 rfl ?_
          refine g_lload dX6_scaledMean_153 rfl ?_
          refine g_lload dX6_scaledMean_155 rfl ?_
          refine g_iload_n dX6_scaledMean_157 rfl ?_
          refine g_i2l dX6_scaledMean_158 ?_
          refine g_lmul dX6_scaledMean_159 ?_
          refine g_topl (fun y36 ey36 => ?_)
          refine g_ldc2 (v := 10) k_X6_288 dX6_scaledMean_160 ?_
          refine g_ldiv dX6_scaledMean_163 (by first | decide | assumption | exact uk_lg0 (by assumption) | grind) ?_
          refine g_topl (fun y37 ey37 => ?_)
          refine g_ladd dX6_scaledMean_164 ?_
          refine g_topl (fun y38 ey38 => ?_)
          have v39 : vp_in i2 8 := uk_vin 8 rfl (by first | decide | lia | grind) (by first | decide | lia | grind)
          have b40 := uk_cl v39
          refine g_last rfl rfl v39 dX6_scaledMean_165 ?_
          refine g_mem (fun u41 eu41 => ?_)
          have hu41 : iv u41 := by rw [eu41]; exact iv_upL hu3
          have fu41 : fr 59 60 u u41 := by rw [eu41]; exact fr_upL fu3 (by omega) (by omega)
          refine g_goto (tgt := 177) dX6_scaledMean_166 (by decide) ?_
          refine g_iinc (v := i2 + 1) dX6_scaledMean_177 rfl rfl (by decide) ?_
          refine g_pick (lv' := [(0, .ref (uk_ad G 0)), (1, .int v), (2, .int m), (3, .int x9), (4, .int (i2 + 1)), (5, .long y15), (7, .long y19)]) [0, 1, 2, 3, 4, 5, 6] rfl ?_
          refine g_goto (tgt := 3) dX6_scaledMean_180 (by decide) ?_
          refine g_pick (lv' := [(0, .ref (uk_ad G 0)), (1, .int v), (2, .int m), (3, .int x9), (4, .int (i2 + 1))]) [0, 1, 2, 3, 4] rfl ?_
          exact ihi2 (by first | lia | grind)  u41 hu41 fu41 
        refine g_tabOut (tgt := 169) dX6_scaledMean_88 (uk_swo 0 3 rfl rfl (by first | lia | grind)) (by decide) ?_
        refine g_aload_n dX6_scaledMean_169 rfl ?_
        refine f_X6_73 rfl rfl dX6_scaledMean_170 ?_
        refine g_iload dX6_scaledMean_173 rfl ?_
        refine g_lconst (v := 0) dX6_scaledMean_175 (by decide) ?_
        have v42 : vp_in i2 8 := uk_vin 8 rfl (by first | decide | lia | grind) (by first | decide | lia | grind)
        have b43 := uk_cl v42
        refine g_last rfl rfl v42 dX6_scaledMean_176 ?_
        refine g_mem (fun u44 eu44 => ?_)
        have hu44 : iv u44 := by rw [eu44]; exact iv_upL hu3
        have fu44 : fr 59 60 u u44 := by rw [eu44]; exact fr_upL fu3 (by omega) (by omega)
        refine g_iinc (v := i2 + 1) dX6_scaledMean_177 rfl rfl (by decide) ?_
        refine g_pick (lv' := [(0, .ref (uk_ad G 0)), (1, .int v), (2, .int m), (3, .int x9), (4, .int (i2 + 1)), (5, .long y15), (7, .long y19)]) [0, 1, 2, 3, 4, 5, 6] rfl ?_
        refine g_goto (tgt := 3) dX6_scaledMean_180 (by decide) ?_
        refine g_pick (lv' := [(0, .ref (uk_ad G 0)), (1, .int v), (2, .int m), (3, .int x9), (4, .int (i2 + 1))]) [0, 1, 2, 3, 4] rfl ?_
        exact ihi2 (by first | lia | grind)  u44 hu44 fu44 
      · have zc11 := zx10 c11
        refine g_aload_n dX6_scaledMean_21 rfl ?_
        refine f_X6_73 rfl rfl dX6_scaledMean_22 ?_
        refine g_iload dX6_scaledMean_25 rfl ?_
        refine g_iload dX6_scaledMean_27 rfl ?_
        refine g_iload_n dX6_scaledMean_29 rfl ?_
        refine g_icmp_ne (tgt := 39) dX6_scaledMean_30 (by decide) (fun c45 => ?_) (fun c45 => ?_)
        · refine g_lconst (v := 0) dX6_scaledMean_39 (by decide) ?_
          have v46 : vp_in i2 8 := uk_vin 8 rfl (by first | decide | lia | grind) (by first | decide | lia | grind)
          have b47 := uk_cl v46
          refine g_last rfl rfl v46 dX6_scaledMean_40 ?_
          refine g_mem (fun u48 eu48 => ?_)
          have hu48 : iv u48 := by rw [eu48]; exact iv_upL hu3
          have fu48 : fr 59 60 u u48 := by rw [eu48]; exact fr_upL fu3 (by omega) (by omega)
          refine g_goto (tgt := 177) dX6_scaledMean_41 (by decide) ?_
          refine g_iinc (v := i2 + 1) dX6_scaledMean_177 rfl rfl (by decide) ?_
          refine g_pick (lv' := [(0, .ref (uk_ad G 0)), (1, .int v), (2, .int m), (3, .int x9), (4, .int (i2 + 1))]) [0, 1, 2, 3, 4] rfl ?_
          refine g_goto (tgt := 3) dX6_scaledMean_180 (by decide) ?_
          refine g_pick (lv' := [(0, .ref (uk_ad G 0)), (1, .int v), (2, .int m), (3, .int x9), (4, .int (i2 + 1))]) [0, 1, 2, 3, 4] rfl ?_
          exact ihi2 (by first | lia | grind)  u48 hu48 fu48 
        · refine g_ldc2 (v := 10000000) k_X6_202 dX6_scaledMean_33 ?_
          refine g_goto (tgt := 40) dX6_scaledMean_36 (by decide) ?_
          have v49 : vp_in i2 8 := uk_vin 8 rfl (by first | decide | lia | grind) (by first | decide | lia | grind)
          have b50 := uk_cl v49
          refine g_last rfl rfl v49 dX6_scaledMean_40 ?_
          refine g_mem (fun u51 eu51 => ?_)
          have hu51 : iv u51 := by rw [eu51]; exact iv_upL hu3
          have fu51 : fr 59 60 u u51 := by rw [eu51]; exact fr_upL fu3 (by omega) (by omega)
          refine g_goto (tgt := 177) dX6_scaledMean_41 (by decide) ?_
          refine g_iinc (v := i2 + 1) dX6_scaledMean_177 rfl rfl (by decide) ?_
          refine g_pick (lv' := [(0, .ref (uk_ad G 0)), (1, .int v), (2, .int m), (3, .int x9), (4, .int (i2 + 1))]) [0, 1, 2, 3, 4] rfl ?_
          refine g_goto (tgt := 3) dX6_scaledMean_180 (by decide) ?_
          refine g_pick (lv' := [(0, .ref (uk_ad G 0)), (1, .int v), (2, .int m), (3, .int x9), (4, .int (i2 + 1))]) [0, 1, 2, 3, 4] rfl ?_
          exact ihi2 (by first | lia | grind)  u51 hu51 fu51 
  refine g_pick (lv' := [(0, .ref (uk_ad G 0)), (1, .int v), (2, .int m), (3, .int x9), (4, .int 0)]) [0, 1, 2, 3, 4] rfl ?_
  exact L3_0 0 (by first | decide | lia | grind) (by first | decide | lia | grind)  u hu f0 
abbrev q_X6_fitTogether (u : uk_Mem) (a : Int32) (b : Int32) (r : Option Value) (u' : uk_Mem) : Prop := (∃ x : Int32, r = some (.int x) ∧ (x = 0 ∨ x = 1) ∧ (¬ x = 0 → True) ∧ (x = 0 → True)) ∧ (iv u' ∧ fr 41 59 u u')
abbrev q_X6_end (u : uk_Mem) (n : Int32) (r : Option Value) (u' : uk_Mem) : Prop := (∃ x : Int32, r = some (.int x) ∧ (((n < 0 ∨ u.1 2 1 < n) ∧ x = -1 ∧ u'.1 2 1 = u.1 2 1) ∨ (0 ≤ n ∧ n ≤ u.1 2 1 ∧ x = u.1 2 1 ∧ u'.1 2 1 = n))) ∧ (iv u' ∧ fr 2 3 u u')
set_option maxHeartbeats 4000000 in
set_option maxRecDepth 20000 in
theorem c_X6_end {G : uk_D} (hs : uk_Sep G) {u : uk_Mem} (hu : iv u) (n : Int32) (d : Nat) : uk_Meth G d mX6_end [.ref (uk_ad G 0), .int n] u (q_X6_end u n) := by
  refine uk_Meth.of hs (by decide) (Nat.le_of_ble_eq_true rfl) (fun X => ?_)
  have f0 : fr 2 3 u u := fr_rf
  refine g_iload_n dX6_end_0 rfl ?_
  refine g_if_lt (tgt := 15) dX6_end_1 (by decide) (fun c1 => ?_) (fun c1 => ?_)
  · refine g_iconst (v := (-1)) dX6_end_15 (by decide) ?_
    exact g_iret (ty := .int) dX6_end_16 rfl rfl ⟨⟨_, rfl, by first | trivial | lia | grind⟩, hu, f0⟩
  · refine g_iload_n dX6_end_4 rfl ?_
    refine g_aload_n dX6_end_5 rfl ?_
    refine f_X6_22 rfl rfl dX6_end_6 ?_
    refine f_X6_84 rfl rfl dX6_end_9 ?_
    refine g_topi (fun x2 ex2 => ?_)
    have rx2 : 0 ≤ x2 ∧ x2 ≤ 160 := by rw [ex2]; exact iv_at hu _ _ rfl
    have s3 : u.1 2 1 = x2 := ex2.symm
    refine g_icmp_le (tgt := 17) dX6_end_12 (by decide) (fun c4 => ?_) (fun c4 => ?_)
    · refine g_aload_n dX6_end_17 rfl ?_
      refine f_X6_22 rfl rfl dX6_end_18 ?_
      refine f_X6_84 rfl rfl dX6_end_21 ?_
      refine g_topi (fun x5 ex5 => ?_)
      have rx5 : 0 ≤ x5 ∧ x5 ≤ 160 := by rw [ex5]; exact iv_at hu _ _ rfl
      have qx5 : x5 = x2 := by rw [ex5]; exact s3
      refine g_istore_n dX6_end_24 (by decide) ?_
      refine g_pick (lv' := [(0, .ref (uk_ad G 0)), (1, .int n), (2, .int x5)]) [0, 1, 2] rfl ?_
      refine g_aload_n dX6_end_25 rfl ?_
      refine f_X6_22 rfl rfl dX6_end_26 ?_
      refine g_iload_n dX6_end_29 rfl ?_
      refine p_X6_84 rfl rfl dX6_end_30 ?_
      refine g_mem (fun u6 eu6 => ?_)
      have hu6 : iv u6 := by rw [eu6]; exact iv_up hu rfl (by first | lia | grind) (by first | lia | grind)
      have fu6 : fr 2 3 u u6 := by rw [eu6]; exact fr_up f0 (by omega) (by omega)
      have s7 : u6.1 2 1 = n := by rw [eu6, uk_up_at]; exact if_pos ⟨rfl, rfl⟩
      refine g_iload_n dX6_end_33 rfl ?_
      exact g_iret (ty := .int) dX6_end_34 rfl rfl ⟨⟨_, rfl, by first | trivial | lia | grind⟩, hu6, fu6⟩
    · refine g_iconst (v := (-1)) dX6_end_15 (by decide) ?_
      exact g_iret (ty := .int) dX6_end_16 rfl rfl ⟨⟨_, rfl, by first | trivial | lia | grind⟩, hu, f0⟩
abbrev q_X6_rule (u : uk_Mem) (w : Int32) (r : Option Value) (u' : uk_Mem) : Prop := (∃ x : Int32, r = some (.int x) ∧ True) ∧ (u' = u)
abbrev q_X6_stuff (u : uk_Mem) (m : Int32) (w : Int32) (r : Option Value) (u' : uk_Mem) : Prop := (∃ x : Int32, r = some (.int x) ∧ True) ∧ (u' = u)
abbrev q_X6_fill (u : uk_Mem) (m : Int32) (n : Int32) (r : Option Value) (u' : uk_Mem) : Prop := (∃ x : Int32, r = some (.int x) ∧ True) ∧ (iv u' ∧ fr 13 22 u u')
abbrev q_X6_feeds (u : uk_Mem) (m : Int32) (v : Int32) (r : Option Value) (u' : uk_Mem) : Prop := (∃ x : Int32, r = some (.int x) ∧ True) ∧ (iv u' ∧ fr 13 22 u u')
abbrev q_X6_price (u : uk_Mem) (m : Int32) (v : Int32) (r : Option Value) (u' : uk_Mem) : Prop := (∃ x : Int32, r = some (.int x) ∧ True) ∧ (iv u' ∧ fr 13 22 u u')
abbrev q_X6_kind (u : uk_Mem) (m : Int32) (k : Int32) (r : Option Value) (u' : uk_Mem) : Prop := (∃ x : Int32, r = some (.int x) ∧ True) ∧ (iv u' ∧ fr 13 22 u u')
abbrev q_X6_does (u : uk_Mem) (g : Int32) (r : Option Value) (u' : uk_Mem) : Prop := (∃ x : Int32, r = some (.int x) ∧ True) ∧ (iv u' ∧ fr 13 22 u u')
abbrev q_X6_eat (u : uk_Mem) (m : Int32) (r : Option Value) (u' : uk_Mem) : Prop := (∃ x : Int32, r = some (.int x) ∧ True) ∧ (iv u' ∧ fr 13 22 u u')
abbrev q_X6_can (u : uk_Mem) (w : Int32) (r : Option Value) (u' : uk_Mem) : Prop := (∃ x : Int32, r = some (.int x) ∧ True) ∧ (u' = u)
abbrev q_X6_most (u : uk_Mem) (m : Int32) (r : Option Value) (u' : uk_Mem) : Prop := (∃ x : Int32, r = some (.int x) ∧ True) ∧ (iv u' ∧ fr 57 58 u u')
set_option maxHeartbeats 4000000 in
set_option maxRecDepth 20000 in
theorem c_X6_most {G : uk_D} (hs : uk_Sep G) {u : uk_Mem} (hu : iv u) (m : Int32) (d : Nat) : uk_Meth G (d + 2) mX6_most [.ref (uk_ad G 0), .int m] u (q_X6_most u m) := by
  refine uk_Meth.of hs (by decide) (Nat.le_of_ble_eq_true rfl) (fun X => ?_)
  have f0 : fr 57 58 u u := fr_rf
  refine g_aload_n dX6_most_0 rfl ?_
  refine f_X6_10 rfl rfl dX6_most_1 ?_
  refine g_iload_n dX6_most_4 rfl ?_
  refine cl_X6_118 (c := 13) (As := [.int m]) rfl (c_X0_hasStuff (G := G) hs hu uk_isK13 m  (d + 1)) rfl (by omega) rfl rfl (Nat.le_of_ble_eq_true rfl) dX6_most_5 (fun r1 u2 q3 => ?_)
  obtain ⟨⟨x4, rfl, tx4, nx4, zx4⟩, mq3⟩ := q3
  rw [mq3]
  refine g_if_ne (tgt := 13) dX6_most_8 (by decide) (fun c5 => ?_) (fun c5 => ?_)
  · have zc5 := nx4 c5
    refine g_aload_n dX6_most_13 rfl ?_
    refine f_X6_10 rfl rfl dX6_most_14 ?_
    refine g_iload_n dX6_most_17 rfl ?_
    refine cl_X6_122 (c := 13) (As := [.int m]) rfl (c_X0_isMade (G := G) hs hu uk_isK13 m (by first | trivial | decide | lia | grind) (by first | trivial | decide | lia | grind) (d + 1)) rfl (by omega) rfl rfl (Nat.le_of_ble_eq_true rfl) dX6_most_18 (fun r6 u7 q8 => ?_)
    obtain ⟨⟨x9, rfl, tx9, nx9, zx9⟩, mq8⟩ := q8
    rw [mq8]
    refine g_if_ne (tgt := 27) dX6_most_21 (by decide) (fun c10 => ?_) (fun c10 => ?_)
    · have zc10 := nx9 c10
      refine g_iconst (v := 0) dX6_most_27 (by decide) ?_
      refine g_istore_n dX6_most_28 (by decide) ?_
      refine g_pick (lv' := [(0, .ref (uk_ad G 0)), (1, .int m), (2, .int 0)]) [0, 1, 2] rfl ?_
      have L29_10 : ∀ i12 : Int32, 0 ≤ i12 → i12 ≤ 40 → ∀ (u13 : uk_Mem), iv u13 → fr 57 58 u u13 → uk_G G X mX6_most (d + 2) (q_X6_most u m) 29 [(0, .ref (uk_ad G 0)), (1, .int m), (2, .int i12)] [] u13 := by
        refine uk_upl 40 ?_
        intro i12 ai12 bi12 ihi12  u13 hu13 fu13
        refine g_iload_n dX6_most_29 rfl ?_
        refine g_bipush (v := 40) dX6_most_30 (by decide) ?_
        refine g_icmp_ge (tgt := 59) dX6_most_32 (by decide) (fun c14 => ?_) (fun c14 => ?_)
        · refine g_iload_n dX6_most_59 rfl ?_
          exact g_iret (ty := .int) dX6_most_60 rfl rfl ⟨⟨_, rfl, by first | trivial | lia | grind⟩, hu13, fu13⟩
        · refine g_aload_n dX6_most_35 rfl ?_
          refine f_X6_10 rfl rfl dX6_most_36 ?_
          refine g_iload_n dX6_most_39 rfl ?_
          refine g_iload_n dX6_most_40 rfl ?_
          refine g_iconst (v := 1) dX6_most_41 (by decide) ?_
          refine g_iadd dX6_most_42 ?_
          refine g_topi (fun x15 ex15 => ?_)
          refine g_aload_n dX6_most_43 rfl ?_
          refine f_X6_66 rfl rfl dX6_most_44 ?_
          refine cl_X6_165 (c := 13) (As := [.int m, .int x15, .ref (uk_ad G 57)]) rfl (c_X0_isEnoughFor (G := G) hs hu13 uk_isK13 m x15 (by first | trivial | decide | lia | grind) (by first | trivial | decide | lia | grind) (d)) rfl (by omega) rfl rfl (Nat.le_of_ble_eq_true rfl) dX6_most_47 (fun r16 u17 q18 => ?_)
          obtain ⟨⟨x19, rfl, tx19, nx19, zx19⟩, mq18⟩ := q18
          obtain ⟨hu17, gu17⟩ := mq18
          have fu17 : fr 57 58 u u17 := fr_tr fu13 gu17 (by omega) (by omega)
          refine g_if_eq (tgt := 59) dX6_most_50 (by decide) (fun c20 => ?_) (fun c20 => ?_)
          · have zc20 := zx19 c20
            refine g_iload_n dX6_most_59 rfl ?_
            exact g_iret (ty := .int) dX6_most_60 rfl rfl ⟨⟨_, rfl, by first | trivial | lia | grind⟩, hu17, fu17⟩
          · have zc20 := nx19 c20
            refine g_iinc (v := i12 + 1) dX6_most_53 rfl rfl (by decide) ?_
            refine g_pick (lv' := [(0, .ref (uk_ad G 0)), (1, .int m), (2, .int (i12 + 1))]) [0, 1, 2] rfl ?_
            refine g_goto (tgt := 29) dX6_most_56 (by decide) ?_
            refine g_pick (lv' := [(0, .ref (uk_ad G 0)), (1, .int m), (2, .int (i12 + 1))]) [0, 1, 2] rfl ?_
            exact ihi12 (by first | lia | grind)  u17 hu17 fu17 
      refine g_pick (lv' := [(0, .ref (uk_ad G 0)), (1, .int m), (2, .int 0)]) [0, 1, 2] rfl ?_
      exact L29_10 0 (by first | decide | lia | grind) (by first | decide | lia | grind)  u hu f0 
    · have zc10 := zx9 c10
      refine g_bipush (v := (-2)) dX6_most_24 (by decide) ?_
      exact g_iret (ty := .int) dX6_most_26 rfl rfl ⟨⟨_, rfl, by first | trivial | lia | grind⟩, hu, f0⟩
  · have zc5 := zx4 c5
    refine g_iconst (v := (-1)) dX6_most_11 (by decide) ?_
    exact g_iret (ty := .int) dX6_most_12 rfl rfl ⟨⟨_, rfl, by first | trivial | lia | grind⟩, hu, f0⟩
abbrev q_X6_holds (u : uk_Mem) (m : Int32) (b : Int32) (r : Option Value) (u' : uk_Mem) : Prop := (∃ x : Int32, r = some (.int x) ∧ True) ∧ (iv u' ∧ fr 57 58 u u')
set_option maxHeartbeats 4000000 in
set_option maxRecDepth 20000 in
theorem c_X6_holds {G : uk_D} (hs : uk_Sep G) {u : uk_Mem} (hu : iv u) (m : Int32) (b : Int32) (d : Nat) : uk_Meth G (d + 2) mX6_holds [.ref (uk_ad G 0), .int m, .int b] u (q_X6_holds u m b) := by
  refine uk_Meth.of hs (by decide) (Nat.le_of_ble_eq_true rfl) (fun X => ?_)
  have f0 : fr 57 58 u u := fr_rf
  refine g_aload_n dX6_holds_0 rfl ?_
  refine f_X6_10 rfl rfl dX6_holds_1 ?_
  refine g_iload_n dX6_holds_4 rfl ?_
  refine cl_X6_118 (c := 13) (As := [.int m]) rfl (c_X0_hasStuff (G := G) hs hu uk_isK13 m  (d + 1)) rfl (by omega) rfl rfl (Nat.le_of_ble_eq_true rfl) dX6_holds_5 (fun r1 u2 q3 => ?_)
  obtain ⟨⟨x4, rfl, tx4, nx4, zx4⟩, mq3⟩ := q3
  rw [mq3]
  refine g_if_eq (tgt := 22) dX6_holds_8 (by decide) (fun c5 => ?_) (fun c5 => ?_)
  · have zc5 := zx4 c5
    refine g_iconst (v := (-1)) dX6_holds_22 (by decide) ?_
    exact g_iret (ty := .int) dX6_holds_23 rfl rfl ⟨⟨_, rfl, by first | trivial | lia | grind⟩, hu, f0⟩
  · have zc5 := nx4 c5
    refine g_aload_n dX6_holds_11 rfl ?_
    refine f_X6_10 rfl rfl dX6_holds_12 ?_
    refine g_iload_n dX6_holds_15 rfl ?_
    refine cl_X6_118 (c := 13) (As := [.int b]) rfl (c_X0_hasStuff (G := G) hs hu uk_isK13 b  (d + 1)) rfl (by omega) rfl rfl (Nat.le_of_ble_eq_true rfl) dX6_holds_16 (fun r6 u7 q8 => ?_)
    obtain ⟨⟨x9, rfl, tx9, nx9, zx9⟩, mq8⟩ := q8
    rw [mq8]
    refine g_if_ne (tgt := 24) dX6_holds_19 (by decide) (fun c10 => ?_) (fun c10 => ?_)
    · have zc10 := nx9 c10
      refine g_aload_n dX6_holds_24 rfl ?_
      refine f_X6_10 rfl rfl dX6_holds_25 ?_
      refine g_iload_n dX6_holds_28 rfl ?_
      refine cl_X6_122 (c := 13) (As := [.int b]) rfl (c_X0_isMade (G := G) hs hu uk_isK13 b (by first | trivial | decide | lia | grind) (by first | trivial | decide | lia | grind) (d + 1)) rfl (by omega) rfl rfl (Nat.le_of_ble_eq_true rfl) dX6_holds_29 (fun r11 u12 q13 => ?_)
      obtain ⟨⟨x14, rfl, tx14, nx14, zx14⟩, mq13⟩ := q13
      rw [mq13]
      refine g_if_eq (tgt := 38) dX6_holds_32 (by decide) (fun c15 => ?_) (fun c15 => ?_)
      · have zc15 := zx14 c15
        refine g_aload_n dX6_holds_38 rfl ?_
        refine f_X6_10 rfl rfl dX6_holds_39 ?_
        refine g_iload_n dX6_holds_42 rfl ?_
        refine g_aload_n dX6_holds_43 rfl ?_
        refine f_X6_66 rfl rfl dX6_holds_44 ?_
        refine cl_X6_169 (c := 13) (As := [.int m, .ref (uk_ad G 57)]) rfl (c_X0_rawNeed (G := G) hs hu uk_isK13 m (by first | trivial | decide | lia | grind) (by first | trivial | decide | lia | grind) (d)) rfl (by omega) rfl rfl (Nat.le_of_ble_eq_true rfl) dX6_holds_47 (fun r16 u17 q18 => ?_)
        obtain ⟨rfl, mq18⟩ := q18
        obtain ⟨hu17, gu17⟩ := mq18
        have fu17 : fr 57 58 u u17 := fr_tr f0 gu17 (by omega) (by omega)
        refine g_aload_n dX6_holds_50 rfl ?_
        refine f_X6_66 rfl rfl dX6_holds_51 ?_
        refine g_iload_n dX6_holds_54 rfl ?_
        have v19 : vp_in b 8 := uk_vin 8 rfl (by first | decide | lia | grind) (by first | decide | lia | grind)
        refine g_iald rfl rfl v19 dX6_holds_55 ?_
        refine g_topi (fun x20 ex20 => ?_)
        exact g_iret (ty := .int) dX6_holds_56 rfl rfl ⟨⟨_, rfl, by first | trivial | lia | grind⟩, hu17, fu17⟩
      · have zc15 := nx14 c15
        refine g_bipush (v := (-2)) dX6_holds_35 (by decide) ?_
        exact g_iret (ty := .int) dX6_holds_37 rfl rfl ⟨⟨_, rfl, by first | trivial | lia | grind⟩, hu, f0⟩
    · have zc10 := zx9 c10
      refine g_iconst (v := (-1)) dX6_holds_22 (by decide) ?_
      exact g_iret (ty := .int) dX6_holds_23 rfl rfl ⟨⟨_, rfl, by first | trivial | lia | grind⟩, hu, f0⟩
abbrev q_X6_cost (u : uk_Mem) (m : Int32) (r : Option Value) (u' : uk_Mem) : Prop := (∃ x : Int32, r = some (.int x) ∧ True) ∧ (iv u' ∧ fr 57 58 u u')
set_option maxHeartbeats 4000000 in
set_option maxRecDepth 20000 in
theorem c_X6_cost {G : uk_D} (hs : uk_Sep G) {u : uk_Mem} (hu : iv u) (m : Int32) (d : Nat) : uk_Meth G (d + 3) mX6_cost [.ref (uk_ad G 0), .int m] u (q_X6_cost u m) := by
  refine uk_Meth.of hs (by decide) (Nat.le_of_ble_eq_true rfl) (fun X => ?_)
  have f0 : fr 57 58 u u := fr_rf
  refine g_aload_n dX6_cost_0 rfl ?_
  refine f_X6_10 rfl rfl dX6_cost_1 ?_
  refine g_iload_n dX6_cost_4 rfl ?_
  refine cl_X6_118 (c := 13) (As := [.int m]) rfl (c_X0_hasStuff (G := G) hs hu uk_isK13 m  (d + 2)) rfl (by omega) rfl rfl (Nat.le_of_ble_eq_true rfl) dX6_cost_5 (fun r1 u2 q3 => ?_)
  obtain ⟨⟨x4, rfl, tx4, nx4, zx4⟩, mq3⟩ := q3
  rw [mq3]
  refine g_if_eq (tgt := 26) dX6_cost_8 (by decide) (fun c5 => ?_) (fun c5 => ?_)
  · have zc5 := zx4 c5
    refine g_iconst (v := (-1)) dX6_cost_26 (by decide) ?_
    exact g_iret (ty := .int) dX6_cost_27 rfl rfl ⟨⟨_, rfl, by first | trivial | lia | grind⟩, hu, f0⟩
  · have zc5 := nx4 c5
    refine g_aload_n dX6_cost_11 rfl ?_
    refine f_X6_10 rfl rfl dX6_cost_12 ?_
    refine g_iload_n dX6_cost_15 rfl ?_
    refine g_aload_n dX6_cost_16 rfl ?_
    refine f_X6_66 rfl rfl dX6_cost_17 ?_
    refine cl_X6_173 (c := 13) (As := [.int m, .ref (uk_ad G 57)]) rfl (c_X0_rawCost (G := G) hs hu uk_isK13 m (by first | trivial | decide | lia | grind) (by first | trivial | decide | lia | grind) (d)) rfl (by omega) rfl rfl (Nat.le_of_ble_eq_true rfl) dX6_cost_20 (fun r6 u7 q8 => ?_)
    obtain ⟨⟨x9, rfl, tx9⟩, mq8⟩ := q8
    obtain ⟨hu7, gu7⟩ := mq8
    have fu7 : fr 57 58 u u7 := fr_tr f0 gu7 (by omega) (by omega)
    refine g_goto (tgt := 27) dX6_cost_23 (by decide) ?_
    exact g_iret (ty := .int) dX6_cost_27 rfl rfl ⟨⟨_, rfl, by first | trivial | lia | grind⟩, hu7, fu7⟩
abbrev q_X6_turns (u : uk_Mem) (m : Int32) (w : Int32) (r : Option Value) (u' : uk_Mem) : Prop := (∃ x : Int32, r = some (.int x) ∧ True) ∧ (iv u' ∧ fr 41 46 u u')
set_option maxHeartbeats 4000000 in
set_option maxRecDepth 20000 in
theorem c_X6_turns {G : uk_D} (hs : uk_Sep G) {u : uk_Mem} (hu : iv u) (m : Int32) (w : Int32) (d : Nat) : uk_Meth G (d + 3) mX6_turns [.ref (uk_ad G 0), .int m, .int w] u (q_X6_turns u m w) := by
  refine uk_Meth.of hs (by decide) (Nat.le_of_ble_eq_true rfl) (fun X => ?_)
  have f0 : fr 41 46 u u := fr_rf
  refine g_aload_n dX6_turns_0 rfl ?_
  refine f_X6_10 rfl rfl dX6_turns_1 ?_
  refine g_iload_n dX6_turns_4 rfl ?_
  refine cl_X6_118 (c := 13) (As := [.int m]) rfl (c_X0_hasStuff (G := G) hs hu uk_isK13 m  (d + 2)) rfl (by omega) rfl rfl (Nat.le_of_ble_eq_true rfl) dX6_turns_5 (fun r1 u2 q3 => ?_)
  obtain ⟨⟨x4, rfl, tx4, nx4, zx4⟩, mq3⟩ := q3
  rw [mq3]
  refine g_if_eq (tgt := 18) dX6_turns_8 (by decide) (fun c5 => ?_) (fun c5 => ?_)
  · have zc5 := zx4 c5
    refine g_iconst (v := (-1)) dX6_turns_18 (by decide) ?_
    exact g_iret (ty := .int) dX6_turns_19 rfl rfl ⟨⟨_, rfl, by first | trivial | lia | grind⟩, hu, f0⟩
  · have zc5 := nx4 c5
    refine g_iload_n dX6_turns_11 rfl ?_
    refine cl_X6_162 (As := [.int w]) rfl (c_X6_isFlag (G := G) hs hu  w  (d + 2)) rfl (by omega) rfl (Nat.le_of_ble_eq_true rfl) dX6_turns_12 (fun r6 u7 q8 => ?_)
    obtain ⟨⟨x9, rfl, tx9, nx9, zx9⟩, mq8⟩ := q8
    rw [mq8]
    refine g_if_ne (tgt := 20) dX6_turns_15 (by decide) (fun c10 => ?_) (fun c10 => ?_)
    · have zc10 := nx9 c10
      refine g_aload_n dX6_turns_20 rfl ?_
      refine f_X6_48 rfl rfl dX6_turns_21 ?_
      refine g_aload_n dX6_turns_24 rfl ?_
      refine f_X6_10 rfl rfl dX6_turns_25 ?_
      refine g_iload_n dX6_turns_28 rfl ?_
      refine g_bipush (v := 127) dX6_turns_29 (by decide) ?_
      refine cl_X6_177 (c := 41) (As := [.ref (uk_ad G 13), .int m, .int 127]) rfl (c_X1_grind (G := G) hs hu  m 127 (by first | trivial | decide | lia | grind) (by first | trivial | decide | lia | grind) (d)) rfl (by omega) rfl rfl (Nat.le_of_ble_eq_true rfl) dX6_turns_31 (fun r11 u12 q13 => ?_)
      obtain ⟨rfl, mq13⟩ := q13
      obtain ⟨hu12, gu12⟩ := mq13
      have fu12 : fr 41 46 u u12 := fr_tr f0 gu12 (by omega) (by omega)
      refine g_iload_n dX6_turns_34 rfl ?_
      refine g_if_ne (tgt := 48) dX6_turns_35 (by decide) (fun c14 => ?_) (fun c14 => ?_)
      · refine g_aload_n dX6_turns_48 rfl ?_
        refine f_X6_48 rfl rfl dX6_turns_49 ?_
        refine f_X6_184 rfl rfl dX6_turns_52 ?_
        refine g_topi (fun x15 ex15 => ?_)
        have rx15 : 0 ≤ x15 ∧ x15 ≤ 128 := by rw [ex15]; exact iv_at hu12 _ _ rfl
        have s16 : u12.1 41 1 = x15 := ex15.symm
        exact g_iret (ty := .int) dX6_turns_55 rfl rfl ⟨⟨_, rfl, by first | trivial | lia | grind⟩, hu12, fu12⟩
      · refine g_aload_n dX6_turns_38 rfl ?_
        refine f_X6_48 rfl rfl dX6_turns_39 ?_
        refine f_X6_181 rfl rfl dX6_turns_42 ?_
        refine g_topi (fun x17 ex17 => ?_)
        have s18 : u12.1 41 2 = x17 := ex17.symm
        refine g_goto (tgt := 55) dX6_turns_45 (by decide) ?_
        exact g_iret (ty := .int) dX6_turns_55 rfl rfl ⟨⟨_, rfl, by first | trivial | lia | grind⟩, hu12, fu12⟩
    · have zc10 := zx9 c10
      refine g_iconst (v := (-1)) dX6_turns_18 (by decide) ?_
      exact g_iret (ty := .int) dX6_turns_19 rfl rfl ⟨⟨_, rfl, by first | trivial | lia | grind⟩, hu, f0⟩
abbrev q_X6_comes (u : uk_Mem) (m : Int32) (i : Int32) (r : Option Value) (u' : uk_Mem) : Prop := (∃ x : Int32, r = some (.int x) ∧ True) ∧ (iv u' ∧ fr 41 46 u u')
set_option maxHeartbeats 4000000 in
set_option maxRecDepth 20000 in
theorem c_X6_comes {G : uk_D} (hs : uk_Sep G) {u : uk_Mem} (hu : iv u) (m : Int32) (i : Int32) (d : Nat) : uk_Meth G (d + 3) mX6_comes [.ref (uk_ad G 0), .int m, .int i] u (q_X6_comes u m i) := by
  refine uk_Meth.of hs (by decide) (Nat.le_of_ble_eq_true rfl) (fun X => ?_)
  have f0 : fr 41 46 u u := fr_rf
  refine g_aload_n dX6_comes_0 rfl ?_
  refine f_X6_10 rfl rfl dX6_comes_1 ?_
  refine g_iload_n dX6_comes_4 rfl ?_
  refine cl_X6_118 (c := 13) (As := [.int m]) rfl (c_X0_hasStuff (G := G) hs hu uk_isK13 m  (d + 2)) rfl (by omega) rfl rfl (Nat.le_of_ble_eq_true rfl) dX6_comes_5 (fun r1 u2 q3 => ?_)
  obtain ⟨⟨x4, rfl, tx4, nx4, zx4⟩, mq3⟩ := q3
  rw [mq3]
  refine g_if_eq (tgt := 15) dX6_comes_8 (by decide) (fun c5 => ?_) (fun c5 => ?_)
  · have zc5 := zx4 c5
    refine g_iconst (v := (-1)) dX6_comes_15 (by decide) ?_
    exact g_iret (ty := .int) dX6_comes_16 rfl rfl ⟨⟨_, rfl, by first | trivial | lia | grind⟩, hu, f0⟩
  · have zc5 := nx4 c5
    refine g_iload_n dX6_comes_11 rfl ?_
    refine g_if_ge (tgt := 17) dX6_comes_12 (by decide) (fun c6 => ?_) (fun c6 => ?_)
    · refine g_aload_n dX6_comes_17 rfl ?_
      refine f_X6_48 rfl rfl dX6_comes_18 ?_
      refine g_aload_n dX6_comes_21 rfl ?_
      refine f_X6_10 rfl rfl dX6_comes_22 ?_
      refine g_iload_n dX6_comes_25 rfl ?_
      refine g_bipush (v := 127) dX6_comes_26 (by decide) ?_
      refine cl_X6_177 (c := 41) (As := [.ref (uk_ad G 13), .int m, .int 127]) rfl (c_X1_grind (G := G) hs hu  m 127 (by first | trivial | decide | lia | grind) (by first | trivial | decide | lia | grind) (d)) rfl (by omega) rfl rfl (Nat.le_of_ble_eq_true rfl) dX6_comes_28 (fun r7 u8 q9 => ?_)
      obtain ⟨rfl, mq9⟩ := q9
      obtain ⟨hu8, gu8⟩ := mq9
      have fu8 : fr 41 46 u u8 := fr_tr f0 gu8 (by omega) (by omega)
      refine g_iload_n dX6_comes_31 rfl ?_
      refine g_aload_n dX6_comes_32 rfl ?_
      refine f_X6_48 rfl rfl dX6_comes_33 ?_
      refine f_X6_184 rfl rfl dX6_comes_36 ?_
      refine g_topi (fun x10 ex10 => ?_)
      have rx10 : 0 ≤ x10 ∧ x10 ≤ 128 := by rw [ex10]; exact iv_at hu8 _ _ rfl
      have s11 : u8.1 41 1 = x10 := ex10.symm
      refine g_icmp_ge (tgt := 54) dX6_comes_39 (by decide) (fun c12 => ?_) (fun c12 => ?_)
      · refine g_bipush (v := (-4)) dX6_comes_54 (by decide) ?_
        exact g_iret (ty := .int) dX6_comes_56 rfl rfl ⟨⟨_, rfl, by first | trivial | lia | grind⟩, hu8, fu8⟩
      · refine g_aload_n dX6_comes_42 rfl ?_
        refine f_X6_48 rfl rfl dX6_comes_43 ?_
        refine f_X6_185 rfl rfl dX6_comes_46 ?_
        refine g_iload_n dX6_comes_49 rfl ?_
        have v13 : vp_in i 128 := uk_vin 128 rfl (by first | decide | lia | grind) (by first | decide | lia | grind)
        refine g_iald rfl rfl v13 dX6_comes_50 ?_
        refine g_topi (fun x14 ex14 => ?_)
        have bx14 := uk_cl v13
        have rx14 : 0 ≤ x14 ∧ x14 ≤ 7 := by rw [ex14]; exact iv_at hu8 _ _ (uk_pick1 _ (by omega))
        refine g_goto (tgt := 56) dX6_comes_51 (by decide) ?_
        exact g_iret (ty := .int) dX6_comes_56 rfl rfl ⟨⟨_, rfl, by first | trivial | lia | grind⟩, hu8, fu8⟩
    · refine g_iconst (v := (-1)) dX6_comes_15 (by decide) ?_
      exact g_iret (ty := .int) dX6_comes_16 rfl rfl ⟨⟨_, rfl, by first | trivial | lia | grind⟩, hu, f0⟩
