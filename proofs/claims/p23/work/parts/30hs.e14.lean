def l_X6_greatestCommon_9 : Nat → Int32 → Int64 → Int64 → Int64
  | 0, _, _, _ => 0
  | K9 + 1, i4, w2, w3 => if (128 : Int32) ≤ i4 then (if (lg_cmp w2 0) ≤ 0 then ((1 : Int64)) else (w2)) else (if (lg_cmp w3 0) ≤ 0 then (if (lg_cmp w2 0) ≤ 0 then ((1 : Int64)) else (w2)) else (let y9 : Int64 := w2 - w2 / w3 * w3; l_X6_greatestCommon_9  K9 (i4 + 1) w3 y9))
def e_X6_greatestCommon (u : uk_Mem) (a : Int64) (b : Int64) : Int64 := l_X6_greatestCommon_9  ee_K (0 : Int32) b a
abbrev qe_X6_greatestCommon (u : uk_Mem) (a : Int64) (b : Int64) (r : Option Value) (u' : uk_Mem) : Prop := (q_X6_greatestCommon u a b r u') ∧ (r = some (.long (e_X6_greatestCommon u a b)))
set_option maxHeartbeats 4000000 in
set_option maxRecDepth 20000 in
theorem x_X6_greatestCommon {G : uk_D} (hs : uk_Sep G) {u : uk_Mem} (hu : iv u) (a : Int64) (b : Int64) (d : Nat) : uk_Meth G d mX6_greatestCommon [.long a, .long b] u (qe_X6_greatestCommon u a b) := by
  refine uk_Meth.of hs (by decide) (Nat.le_of_ble_eq_true rfl) (fun X => ?_)
  refine g_lload_n dX6_greatestCommon_0 rfl ?_
  refine g_lstore dX6_greatestCommon_1 (by decide) ?_
  refine g_pick (lv' := [(0, .long a), (2, .long b), (4, .long b)]) [0, 1, 2] rfl ?_
  refine g_lload_n dX6_greatestCommon_3 rfl ?_
  refine g_lstore dX6_greatestCommon_4 (by decide) ?_
  refine g_pick (lv' := [(0, .long a), (2, .long b), (4, .long b), (6, .long a)]) [0, 1, 2, 3] rfl ?_
  refine g_iconst (v := 0) dX6_greatestCommon_6 (by decide) ?_
  refine g_istore dX6_greatestCommon_7 (by decide) ?_
  refine g_pick (lv' := [(0, .long a), (2, .long b), (4, .long b), (6, .long a), (8, .int 0)]) [0, 1, 2, 3, 4] rfl ?_
  have L9_0 : ∀ i4 : Int32, 0 ≤ i4 → i4 ≤ 128 → ∀ (w2 : Int64) (w3 : Int64), (∃ ki4 : Nat, ee_F 128 i4 ki4 ∧ e_X6_greatestCommon u a b = l_X6_greatestCommon_9  ki4 i4 w2 w3) → uk_G G X mX6_greatestCommon d (qe_X6_greatestCommon u a b) 9 [(0, .long a), (2, .long b), (4, .long w2), (6, .long w3), (8, .int i4)] [] u := by
    refine uk_upl 128 ?_
    intro i4 ai4 bi4 ihi4 w2 w3 jEi4
    obtain ⟨ki4, fki4, hki4⟩ := jEi4
    obtain ⟨ki4, rfl⟩ := ee_Fp (by first | assumption | lia | grind) fki4
    refine g_iload dX6_greatestCommon_9 rfl ?_
    refine g_sipush (v := 128) dX6_greatestCommon_11 (by decide) ?_
    refine g_icmp_ge (tgt := 45) dX6_greatestCommon_14 (by decide) (fun c5 => ?_) (fun c5 => ?_)
    · refine g_lload dX6_greatestCommon_45 rfl ?_
      refine g_lconst (v := 0) dX6_greatestCommon_47 (by decide) ?_
      refine g_lcmp dX6_greatestCommon_48 ?_
      refine g_if_le (tgt := 57) dX6_greatestCommon_49 (by decide) (fun c6 => ?_) (fun c6 => ?_)
      · refine g_lconst (v := 1) dX6_greatestCommon_57 (by decide) ?_
        exact g_lret dX6_greatestCommon_58 rfl ⟨⟨⟨_, rfl, by first | trivial | decide | exact uk_lg0 (by assumption) | grind⟩, rfl⟩, ee_pl (by exact hki4.trans ((if_pos c5).trans ((if_pos c6).trans (rfl))))⟩
      · refine g_lload dX6_greatestCommon_52 rfl ?_
        refine g_goto (tgt := 58) dX6_greatestCommon_54 (by decide) ?_
        exact g_lret dX6_greatestCommon_58 rfl ⟨⟨⟨_, rfl, by first | trivial | decide | exact uk_lg0 (by assumption) | grind⟩, rfl⟩, ee_pl (by exact hki4.trans ((if_pos c5).trans ((if_neg c6).trans (rfl))))⟩
    · refine g_lload dX6_greatestCommon_17 rfl ?_
      refine g_lconst (v := 0) dX6_greatestCommon_19 (by decide) ?_
      refine g_lcmp dX6_greatestCommon_20 ?_
      refine g_if_le (tgt := 45) dX6_greatestCommon_21 (by decide) (fun c7 => ?_) (fun c7 => ?_)
      · refine g_lload dX6_greatestCommon_45 rfl ?_
        refine g_lconst (v := 0) dX6_greatestCommon_47 (by decide) ?_
        refine g_lcmp dX6_greatestCommon_48 ?_
        refine g_if_le (tgt := 57) dX6_greatestCommon_49 (by decide) (fun c8 => ?_) (fun c8 => ?_)
        · refine g_lconst (v := 1) dX6_greatestCommon_57 (by decide) ?_
          exact g_lret dX6_greatestCommon_58 rfl ⟨⟨⟨_, rfl, by first | trivial | decide | exact uk_lg0 (by assumption) | grind⟩, rfl⟩, ee_pl (by exact hki4.trans ((if_neg c5).trans ((if_pos c7).trans ((if_pos c8).trans (rfl)))))⟩
        · refine g_lload dX6_greatestCommon_52 rfl ?_
          refine g_goto (tgt := 58) dX6_greatestCommon_54 (by decide) ?_
          exact g_lret dX6_greatestCommon_58 rfl ⟨⟨⟨_, rfl, by first | trivial | decide | exact uk_lg0 (by assumption) | grind⟩, rfl⟩, ee_pl (by exact hki4.trans ((if_neg c5).trans ((if_pos c7).trans ((if_neg c8).trans (rfl)))))⟩
      · refine g_lload dX6_greatestCommon_24 rfl ?_
        refine g_lload dX6_greatestCommon_26 rfl ?_
        refine g_lrem dX6_greatestCommon_28 (by first | decide | assumption | exact uk_lg0 (by assumption) | grind) ?_
        refine g_topl (fun y9 ey9 => ?_)
        refine g_lstore dX6_greatestCommon_29 (by decide) ?_
        refine g_pick (lv' := [(0, .long a), (2, .long b), (4, .long w2), (6, .long w3), (8, .int i4), (9, .long y9)]) [0, 1, 2, 3, 4, 5] rfl ?_
        refine g_lload dX6_greatestCommon_31 rfl ?_
        refine g_lstore dX6_greatestCommon_33 (by decide) ?_
        refine g_pick (lv' := [(0, .long a), (2, .long b), (4, .long w3), (6, .long w3), (8, .int i4), (9, .long y9)]) [0, 1, 2, 3, 4, 5] rfl ?_
        refine g_lload dX6_greatestCommon_35 rfl ?_
        refine g_lstore dX6_greatestCommon_37 (by decide) ?_
        refine g_pick (lv' := [(0, .long a), (2, .long b), (4, .long w3), (6, .long y9), (8, .int i4), (9, .long y9)]) [0, 1, 2, 3, 4, 5] rfl ?_
        refine g_iinc (v := i4 + 1) dX6_greatestCommon_39 rfl rfl (by decide) ?_
        refine g_pick (lv' := [(0, .long a), (2, .long b), (4, .long w3), (6, .long y9), (8, .int (i4 + 1)), (9, .long y9)]) [0, 1, 2, 3, 4, 5] rfl ?_
        refine g_goto (tgt := 9) dX6_greatestCommon_42 (by decide) ?_
        refine g_pick (lv' := [(0, .long a), (2, .long b), (4, .long w3), (6, .long y9), (8, .int (i4 + 1))]) [0, 1, 2, 3, 4] rfl ?_
        exact ihi4 (by first | lia | grind) w3 y9  ⟨ki4, ee_Fs fki4 (by first | assumption | lia | grind), by subst ey9; exact hki4.trans ((if_neg c5).trans ((if_neg c7).trans (rfl)))⟩
  refine g_pick (lv' := [(0, .long a), (2, .long b), (4, .long b), (6, .long a), (8, .int 0)]) [0, 1, 2, 3, 4] rfl ?_
  exact L9_0 0 (by first | decide | lia | grind) (by first | decide | lia | grind) b a  ⟨ee_K, ee_F0 _ _, by exact rfl⟩
def l_X6_scaledMean_3 (m : Int32) (x9 : Int32) (v : Int32) : Nat → Int32 → uk_Mem → Int64 × uk_Mem
  | 0, _, u3 => (0, u3)
  | K9 + 1, i2, u3 => if m < i2 then (let y6 : Int64 := u3.2 59 m.toNatClampNeg; (y6, u3)) else (let x10 : Int32 := (e_X0_isMade u3 13 i2); if x10 = 0 then (if i2 = x9 then (let u51 : uk_Mem := uk_upL u3 59 i2.toNatClampNeg (10000000 : Int64); l_X6_scaledMean_3 m x9 v K9 (i2 + 1) u51) else (let u48 : uk_Mem := uk_upL u3 59 i2.toNatClampNeg (0 : Int64); l_X6_scaledMean_3 m x9 v K9 (i2 + 1) u48)) else (let x13 : Int32 := u3.1 15 i2.toNatClampNeg; let y15 : Int64 := u3.2 59 x13.toNatClampNeg; let x17 : Int32 := u3.1 16 i2.toNatClampNeg; let y19 : Int64 := u3.2 59 x17.toNatClampNeg; let x21 : Int32 := u3.1 14 i2.toNatClampNeg; if x21 = 0 then (let y23 : Int64 := y15 + y19; let u26 : uk_Mem := uk_upL u3 59 i2.toNatClampNeg y23; l_X6_scaledMean_3 m x9 v K9 (i2 + 1) u26) else (if x21 = 1 then (let u30 : uk_Mem := uk_upL u3 59 i2.toNatClampNeg y15; l_X6_scaledMean_3 m x9 v K9 (i2 + 1) u30) else (if x21 = 2 then (let u34 : uk_Mem := uk_upL u3 59 i2.toNatClampNeg (0 : Int64); l_X6_scaledMean_3 m x9 v K9 (i2 + 1) u34) else (if x21 = 3 then (let y36 : Int64 := y19 * (v.toInt64); let y37 : Int64 := y36 / (10 : Int64); let y38 : Int64 := y15 + y37; let u41 : uk_Mem := uk_upL u3 59 i2.toNatClampNeg y38; l_X6_scaledMean_3 m x9 v K9 (i2 + 1) u41) else (let u44 : uk_Mem := uk_upL u3 59 i2.toNatClampNeg (0 : Int64); l_X6_scaledMean_3 m x9 v K9 (i2 + 1) u44))))))
def e_X6_scaledMean (u : uk_Mem) (v : Int32) (m : Int32) (x9 : Int32) : Int64 × uk_Mem := l_X6_scaledMean_3 m x9 v ee_K (0 : Int32) u
abbrev qe_X6_scaledMean (u : uk_Mem) (v : Int32) (m : Int32) (x9 : Int32) (r : Option Value) (u' : uk_Mem) : Prop := (q_X6_scaledMean u v m x9 r u') ∧ (r = some (.long (e_X6_scaledMean u v m x9).1) ∧ u' = (e_X6_scaledMean u v m x9).2)
set_option maxHeartbeats 4000000 in
set_option maxRecDepth 20000 in
theorem x_X6_scaledMean {G : uk_D} (hs : uk_Sep G) {u : uk_Mem} (hu : iv u) (v : Int32) (m : Int32) (x9 : Int32) (p0 : 0 ≤ m) (p1 : m ≤ 7) (d : Nat) : uk_Meth G (d + 1) mX6_scaledMean [.ref (uk_ad G 0), .int v, .int m, .int x9] u (qe_X6_scaledMean u v m x9) := by
  refine uk_Meth.of hs (by decide) (Nat.le_of_ble_eq_true rfl) (fun X => ?_)
  have f0 : fr 59 60 u u := fr_rf
  refine g_iconst (v := 0) dX6_scaledMean_0 (by decide) ?_
  refine g_istore dX6_scaledMean_1 (by decide) ?_
  refine g_pick (lv' := [(0, .ref (uk_ad G 0)), (1, .int v), (2, .int m), (3, .int x9), (4, .int 0)]) [0, 1, 2, 3, 4] rfl ?_
  have L3_0 : ∀ i2 : Int32, 0 ≤ i2 → i2 ≤ 8 → ∀ (u3 : uk_Mem), iv u3 → fr 59 60 u u3 → (∃ ki2 : Nat, ee_F 8 i2 ki2 ∧ e_X6_scaledMean u v m x9 = l_X6_scaledMean_3 m x9 v ki2 i2 u3) → uk_G G X mX6_scaledMean (d + 1) (qe_X6_scaledMean u v m x9) 3 [(0, .ref (uk_ad G 0)), (1, .int v), (2, .int m), (3, .int x9), (4, .int i2)] [] u3 := by
    refine uk_upl 8 ?_
    intro i2 ai2 bi2 ihi2  u3 hu3 fu3 jEi2
    obtain ⟨ki2, fki2, hki2⟩ := jEi2
    obtain ⟨ki2, rfl⟩ := ee_Fp (by first | assumption | lia | grind) fki2
    refine g_iload dX6_scaledMean_3 rfl ?_
    refine g_iload_n dX6_scaledMean_5 rfl ?_
    refine g_icmp_gt (tgt := 183) dX6_scaledMean_6 (by decide) (fun c4 => ?_) (fun c4 => ?_)
    · refine g_aload_n dX6_scaledMean_183 rfl ?_
      refine f_X6_73 rfl rfl dX6_scaledMean_184 ?_
      refine g_iload_n dX6_scaledMean_187 rfl ?_
      have v5 : vp_in m 8 := uk_vin 8 rfl (by first | decide | lia | grind) (by first | decide | lia | grind)
      refine g_lald rfl rfl v5 dX6_scaledMean_188 ?_
      refine g_topl (fun y6 ey6 => ?_)
      exact g_lret dX6_scaledMean_189 rfl ⟨⟨⟨_, rfl, by first | trivial | decide | exact uk_lg0 (by assumption) | grind⟩, hu3, fu3⟩, ee_j (by subst ey6; exact hki2.trans ((if_pos c4).trans (rfl)))⟩
    · refine g_aload_n dX6_scaledMean_9 rfl ?_
      refine f_X6_10 rfl rfl dX6_scaledMean_10 ?_
      refine g_iload dX6_scaledMean_13 rfl ?_
      refine cl_X6_122 (c := 13) (As := [.int i2]) rfl (x_X0_isMade (G := G) hs hu3 uk_isK13 i2 (by first | trivial | decide | lia | grind) (by first | trivial | decide | lia | grind) (d)) rfl (by omega) rfl rfl (Nat.le_of_ble_eq_true rfl) dX6_scaledMean_15 (fun r7 u8 q9 => ?_)
      obtain ⟨q9, Eq9⟩ := q9
      obtain ⟨⟨x10, rfl, tx10, nx10, zx10⟩, mq9⟩ := q9
      rw [mq9]
      have ex10 : x10 = (e_X0_isMade u3 13 i2) := ee_v Eq9
      refine g_if_ne (tgt := 44) dX6_scaledMean_18 (by decide) (fun c11 => ?_) (fun c11 => ?_)
      · have zc11 := nx10 c11
        refine g_aload_n dX6_scaledMean_44 rfl ?_
        refine f_X6_73 rfl rfl dX6_scaledMean_45 ?_
        refine g_aload_n dX6_scaledMean_48 rfl ?_
        refine f_X6_10 rfl rfl dX6_scaledMean_49 ?_
        refine f_X6_128 rfl rfl dX6_scaledMean_52 ?_
        refine g_iload dX6_scaledMean_55 rfl ?_
        have v12 : vp_in i2 8 := uk_vin 8 rfl (by first | decide | lia | grind) (by first | decide | lia | grind)
        refine g_iald rfl rfl v12 dX6_scaledMean_57 ?_
        refine g_topi (fun x13 ex13 => ?_)
        have bx13 := uk_cl v12
        have rx13 : 0 ≤ x13 ∧ x13 ≤ 7 := by rw [ex13]; exact iv_at hu3 _ _ (uk_pick1 _ (by omega))
        have v14 : vp_in x13 8 := uk_vin 8 rfl (by first | decide | lia | grind) (by first | decide | lia | grind)
        refine g_lald rfl rfl v14 dX6_scaledMean_58 ?_
        refine g_topl (fun y15 ey15 => ?_)
        refine g_lstore dX6_scaledMean_59 (by decide) ?_
        refine g_pick (lv' := [(0, .ref (uk_ad G 0)), (1, .int v), (2, .int m), (3, .int x9), (4, .int i2), (5, .long y15)]) [0, 1, 2, 3, 4, 5] rfl ?_
        refine g_aload_n dX6_scaledMean_61 rfl ?_
        refine f_X6_73 rfl rfl dX6_scaledMean_62 ?_
        refine g_aload_n dX6_scaledMean_65 rfl ?_
        refine f_X6_10 rfl rfl dX6_scaledMean_66 ?_
        refine f_X6_131 rfl rfl dX6_scaledMean_69 ?_
        refine g_iload dX6_scaledMean_72 rfl ?_
        have v16 : vp_in i2 8 := uk_vin 8 rfl (by first | decide | lia | grind) (by first | decide | lia | grind)
        refine g_iald rfl rfl v16 dX6_scaledMean_74 ?_
        refine g_topi (fun x17 ex17 => ?_)
        have bx17 := uk_cl v16
        have rx17 : 0 ≤ x17 ∧ x17 ≤ 7 := by rw [ex17]; exact iv_at hu3 _ _ (uk_pick1 _ (by omega))
        have v18 : vp_in x17 8 := uk_vin 8 rfl (by first | decide | lia | grind) (by first | decide | lia | grind)
        refine g_lald rfl rfl v18 dX6_scaledMean_75 ?_
        refine g_topl (fun y19 ey19 => ?_)
        refine g_lstore dX6_scaledMean_76 (by decide) ?_
        refine g_pick (lv' := [(0, .ref (uk_ad G 0)), (1, .int v), (2, .int m), (3, .int x9), (4, .int i2), (5, .long y15), (7, .long y19)]) [0, 1, 2, 3, 4, 5, 6] rfl ?_
        refine g_aload_n dX6_scaledMean_78 rfl ?_
        refine f_X6_10 rfl rfl dX6_scaledMean_79 ?_
        refine f_X6_125 rfl rfl dX6_scaledMean_82 ?_
        refine g_iload dX6_scaledMean_85 rfl ?_
        have v20 : vp_in i2 8 := uk_vin 8 rfl (by first | decide | lia | grind) (by first | decide | lia | grind)
        refine g_iald rfl rfl v20 dX6_scaledMean_87 ?_
        refine g_topi (fun x21 ex21 => ?_)
        by_cases c22 : x21 = 0
        · refine g_tabIn (off := (32)) (tgt := 120) dX6_scaledMean_88 (by rw [c22]; decide) (by rw [c22]; decide) (by rw [c22]; rfl) (by decide) ?_
          refine g_aload_n dX6_scaledMean_120 rfl ?_
          refine f_X6_73 rfl rfl dX6_scaledMean_121 ?_
          refine g_iload dX6_scaledMean_124 rfl ?_
          refine g_lload dX6_scaledMean_126 rfl ?_
          refine g_lload dX6_scaledMean_128 rfl ?_
          refine g_ladd dX6_scaledMean_130 ?_
          refine g_topl (fun y23 ey23 => ?_)
          have v24 : vp_in i2 8 := uk_vin 8 rfl (by first | decide | lia | grind) (by first | decide | lia | grind)
          have b25 := uk_cl v24
          refine g_last rfl rfl v24 dX6_scaledMean_131 ?_
          refine g_mem (fun u26 eu26 => ?_)
          have hu26 : iv u26 := by rw [eu26]; exact iv_upL hu3
          have fu26 : fr 59 60 u u26 := by rw [eu26]; exact fr_upL fu3 (by omega) (by omega)
          refine g_goto (tgt := 177) dX6_scaledMean_132 (by decide) ?_
          refine g_iinc (v := i2 + 1) dX6_scaledMean_177 rfl rfl (by decide) ?_
          refine g_pick (lv' := [(0, .ref (uk_ad G 0)), (1, .int v), (2, .int m), (3, .int x9), (4, .int (i2 + 1)), (5, .long y15), (7, .long y19)]) [0, 1, 2, 3, 4, 5, 6] rfl ?_
          refine g_goto (tgt := 3) dX6_scaledMean_180 (by decide) ?_
          refine g_pick (lv' := [(0, .ref (uk_ad G 0)), (1, .int v), (2, .int m), (3, .int x9), (4, .int (i2 + 1))]) [0, 1, 2, 3, 4] rfl ?_
          exact ihi2 (by first | lia | grind)  u26 hu26 fu26  ⟨ki2, ee_Fs fki2 (by first | assumption | lia | grind), by subst eu26; subst ey23; subst ex21; subst ey19; subst ex17; subst ey15; subst ex13; subst ex10; exact hki2.trans ((if_neg c4).trans ((if_neg c11).trans ((if_pos c22).trans (rfl))))⟩
        by_cases c27 : x21 = 1
        · refine g_tabIn (off := (47)) (tgt := 135) dX6_scaledMean_88 (by rw [c27]; decide) (by rw [c27]; decide) (by rw [c27]; rfl) (by decide) ?_
          refine g_aload_n dX6_scaledMean_135 rfl ?_
          refine f_X6_73 rfl rfl dX6_scaledMean_136 ?_
          refine g_iload dX6_scaledMean_139 rfl ?_
          refine g_lload dX6_scaledMean_141 rfl ?_
          have v28 : vp_in i2 8 := uk_vin 8 rfl (by first | decide | lia | grind) (by first | decide | lia | grind)
          have b29 := uk_cl v28
          refine g_last rfl rfl v28 dX6_scaledMean_143 ?_
          refine g_mem (fun u30 eu30 => ?_)
          have hu30 : iv u30 := by rw [eu30]; exact iv_upL hu3
          have fu30 : fr 59 60 u u30 := by rw [eu30]; exact fr_upL fu3 (by omega) (by omega)
          refine g_goto (tgt := 177) dX6_scaledMean_144 (by decide) ?_
          refine g_iinc (v := i2 + 1) dX6_scaledMean_177 rfl rfl (by decide) ?_
          refine g_pick (lv' := [(0, .ref (uk_ad G 0)), (1, .int v), (2, .int m), (3, .int x9), (4, .int (i2 + 1)), (5, .long y15), (7, .long y19)]) [0, 1, 2, 3, 4, 5, 6] rfl ?_
          refine g_goto (tgt := 3) dX6_scaledMean_180 (by decide) ?_
          refine g_pick (lv' := [(0, .ref (uk_ad G 0)), (1, .int v), (2, .int m), (3, .int x9), (4, .int (i2 + 1))]) [0, 1, 2, 3, 4] rfl ?_
          exact ihi2 (by first | lia | grind)  u30 hu30 fu30  ⟨ki2, ee_Fs fki2 (by first | assumption | lia | grind), by subst eu30; subst ex21; subst ey19; subst ex17; subst ey15; subst ex13; subst ex10; exact hki2.trans ((if_neg c4).trans ((if_neg c11).trans ((if_neg c22).trans ((if_pos c27).trans (rfl)))))⟩
        by_cases c31 : x21 = 2
        · refine g_tabIn (off := (81)) (tgt := 169) dX6_scaledMean_88 (by rw [c31]; decide) (by rw [c31]; decide) (by rw [c31]; rfl) (by decide) ?_
          refine g_aload_n dX6_scaledMean_169 rfl ?_
          refine f_X6_73 rfl rfl dX6_scaledMean_170 ?_
          refine g_iload dX6_scaledMean_173 rfl ?_
          refine g_lconst (v := 0) dX6_scaledMean_175 (by decide) ?_
          have v32 : vp_in i2 8 := uk_vin 8 rfl (by first | decide | lia | grind) (by first | decide | lia | grind)
          have b33 := uk_cl v32
          refine g_last rfl rfl v32 dX6_scaledMean_176 ?_
          refine g_mem (fun u34 eu34 => ?_)
          have hu34 : iv u34 := by rw [eu34]; exact iv_upL hu3
          have fu34 : fr 59 60 u u34 := by rw [eu34]; exact fr_upL fu3 (by omega) (by omega)
          refine g_iinc (v := i2 + 1) dX6_scaledMean_177 rfl rfl (by decide) ?_
          refine g_pick (lv' := [(0, .ref (uk_ad G 0)), (1, .int v), (2, .int m), (3, .int x9), (4, .int (i2 + 1)), (5, .long y15), (7, .long y19)]) [0, 1, 2, 3, 4, 5, 6] rfl ?_
          refine g_goto (tgt := 3) dX6_scaledMean_180 (by decide) ?_
          refine g_pick (lv' := [(0, .ref (uk_ad G 0)), (1, .int v), (2, .int m), (3, .int x9), (4, .int (i2 + 1))]) [0, 1, 2, 3, 4] rfl ?_
          exact ihi2 (by first | lia | grind)  u34 hu34 fu34  ⟨ki2, ee_Fs fki2 (by first | assumption | lia | grind), by subst eu34; subst ex21; subst ey19; subst ex17; subst ey15; subst ex13; subst ex10; exact hki2.trans ((if_neg c4).trans ((if_neg c11).trans ((if_neg c22).trans ((if_neg c27).trans ((if_pos c31).trans (rfl))))))⟩
        by_cases c35 : x21 = 3
        · refine g_tabIn (off := (59)) (tgt := 147) dX6_scaledMean_88 (by rw [c35]; decide) (by rw [c35]; decide) (by rw [c35]; rfl) (by decide) ?_
          refine g_aload_n dX6_scaledMean_147 rfl ?_
          refine f_X6_73 rfl rfl dX6_scaledMean_148 ?_
          refine g_iload dX6_scaledMean_151 rfl ?_
          refine g_lload dX6_scaledMean_153 rfl ?_
          refine g_lload dX6_scaledMean_155 rfl ?_
          refine g_iload_n dX6_scaledMean_157 rfl ?_
          refine g_i2l dX6_scaledMean_158 ?_
          refine g_lmul dX6_scaledMean_159 ?_
          refine g_topl (fun y36 ey36 => ?_)
          refine g_ldc2 (v := 10) k_X6_288 dX6_scaledMean_160 ?_
          refine g_ldiv dX6_scaledMean_163 (by first | decide | assumption | exact uk_lg0 (by assumption) | grind) ?_
          refine g_topl (fun y37 ey37 => ?_)
          refine g_ladd dX6_scaledMean_164 ?_
          refine g_topl (fun y38 ey38 => ?_)
          have v39 : vp_in i2 8 := uk_vin 8 rfl (by first | decide | lia | grind) (by first | decide | lia | grind)
          have b40 := uk_cl v39
          refine g_last rfl rfl v39 dX6_scaledMean_165 ?_
          refine g_mem (fun u41 eu41 => ?_)
          have hu41 : iv u41 := by rw [eu41]; exact iv_upL hu3
          have fu41 : fr 59 60 u u41 := by rw [eu41]; exact fr_upL fu3 (by omega) (by omega)
          refine g_goto (tgt := 177) dX6_scaledMean_166 (by decide) ?_
          refine g_iinc (v := i2 + 1) dX6_scaledMean_177 rfl rfl (by decide) ?_
          refine g_pick (lv' := [(0, .ref (uk_ad G 0)), (1, .int v), (2, .int m), (3, .int x9), (4, .int (i2 + 1)), (5, .long y15), (7, .long y19)]) [0, 1, 2, 3, 4, 5, 6] rfl ?_
          refine g_goto (tgt := 3) dX6_scaledMean_180 (by decide) ?_
          refine g_pick (lv' := [(0, .ref (uk_ad G 0)), (1, .int v), (2, .int m), (3, .int x9), (4, .int (i2 + 1))]) [0, 1, 2, 3, 4] rfl ?_
          exact ihi2 (by first | lia | grind)  u41 hu41 fu41  ⟨ki2, ee_Fs fki2 (by first | assumption | lia | grind), by subst eu41; subst ey38; subst ey37; subst ey36; subst ex21; subst ey19; subst ex17; subst ey15; subst ex13; subst ex10; exact hki2.trans ((if_neg c4).trans ((if_neg c11).trans ((if_neg c22).trans ((if_neg c27).trans ((if_neg c31).trans ((if_pos c35).trans (rfl)))))))⟩
        refine g_tabOut (tgt := 169) dX6_scaledMean_88 (uk_swo 0 3 rfl rfl (by first | lia | grind)) (by decide) ?_
        refine g_aload_n dX6_scaledMean_169 rfl ?_
        refine f_X6_73 rfl rfl dX6_scaledMean_170 ?_
        refine g_iload dX6_scaledMean_173 rfl ?_
        refine g_lconst (v := 0) dX6_scaledMean_175 (by decide) ?_
        have v42 : vp_in i2 8 := uk_vin 8 rfl (by first | decide | lia | grind) (by first | decide | lia | grind)
        have b43 := uk_cl v42
        refine g_last rfl rfl v42 dX6_scaledMean_176 ?_
        refine g_mem (fun u44 eu44 => ?_)
        have hu44 : iv u44 := by rw [eu44]; exact iv_upL hu3
        have fu44 : fr 59 60 u u44 := by rw [eu44]; exact fr_upL fu3 (by omega) (by omega)
        refine g_iinc (v := i2 + 1) dX6_scaledMean_177 rfl rfl (by decide) ?_
        refine g_pick (lv' := [(0, .ref (uk_ad G 0)), (1, .int v), (2, .int m), (3, .int x9), (4, .int (i2 + 1)), (5, .long y15), (7, .long y19)]) [0, 1, 2, 3, 4, 5, 6] rfl ?_
        refine g_goto (tgt := 3) dX6_scaledMean_180 (by decide) ?_
        refine g_pick (lv' := [(0, .ref (uk_ad G 0)), (1, .int v), (2, .int m), (3, .int x9), (4, .int (i2 + 1))]) [0, 1, 2, 3, 4] rfl ?_
        exact ihi2 (by first | lia | grind)  u44 hu44 fu44  ⟨ki2, ee_Fs fki2 (by first | assumption | lia | grind), by subst eu44; subst ex21; subst ey19; subst ex17; subst ey15; subst ex13; subst ex10; exact hki2.trans ((if_neg c4).trans ((if_neg c11).trans ((if_neg c22).trans ((if_neg c27).trans ((if_neg c31).trans ((if_neg c35).trans (rfl)))))))⟩
      · have zc11 := zx10 c11
        refine g_aload_n dX6_scaledMean_21 rfl ?_
        refine f_X6_73 rfl rfl dX6_scaledMean_22 ?_
        refine g_iload dX6_scaledMean_25 rfl ?_
        refine g_iload dX6_scaledMean_27 rfl ?_
        refine g_iload_n dX6_scaledMean_29 rfl ?_
        refine g_icmp_ne (tgt := 39) dX6_scaledMean_30 (by decide) (fun c45 => ?_) (fun c45 => ?_)
        · refine g_lconst (v := 0) dX6_scaledMean_39 (by decide) ?_
          have v46 : vp_in i2 8 := uk_vin 8 rfl (by first | decide | lia | grind) (by first | decide | lia | grind)
          have b47 := uk_cl v46
          refine g_last rfl rfl v46 dX6_scaledMean_40 ?_
          refine g_mem (fun u48 eu48 => ?_)
          have hu48 : iv u48 := by rw [eu48]; exact iv_upL hu3
          have fu48 : fr 59 60 u u48 := by rw [eu48]; exact fr_upL fu3 (by omega) (by omega)
          refine g_goto (tgt := 177) dX6_scaledMean_41 (by decide) ?_
          refine g_iinc (v := i2 + 1) dX6_scaledMean_177 rfl rfl (by decide) ?_
          refine g_pick (lv' := [(0, .ref (uk_ad G 0)), (1, .int v), (2, .int m), (3, .int x9), (4, .int (i2 + 1))]) [0, 1, 2, 3, 4] rfl ?_
          refine g_goto (tgt := 3) dX6_scaledMean_180 (by decide) ?_
          refine g_pick (lv' := [(0, .ref (uk_ad G 0)), (1, .int v), (2, .int m), (3, .int x9), (4, .int (i2 + 1))]) [0, 1, 2, 3, 4] rfl ?_
          exact ihi2 (by first | lia | grind)  u48 hu48 fu48  ⟨ki2, ee_Fs fki2 (by first | assumption | lia | grind), by subst eu48; subst ex10; exact hki2.trans ((if_neg c4).trans ((if_pos c11).trans ((if_neg c45).trans (rfl))))⟩
        · refine g_ldc2 (v := 10000000) k_X6_202 dX6_scaledMean_33 ?_
          refine g_goto (tgt := 40) dX6_scaledMean_36 (by decide) ?_
          have v49 : vp_in i2 8 := uk_vin 8 rfl (by first | decide | lia | grind) (by first | decide | lia | grind)
          have b50 := uk_cl v49
          refine g_last rfl rfl v49 dX6_scaledMean_40 ?_
          refine g_mem (fun u51 eu51 => ?_)
          have hu51 : iv u51 := by rw [eu51]; exact iv_upL hu3
          have fu51 : fr 59 60 u u51 := by rw [eu51]; exact fr_upL fu3 (by omega) (by omega)
          refine g_goto (tgt := 177) dX6_scaledMean_41 (by decide) ?_
          refine g_iinc (v := i2 + 1) dX6_scaledMean_177 rfl rfl (by decide) ?_
          refine g_pick (lv' := [(0, .ref (uk_ad G 0)), (1, .int v), (2, .int m), (3, .int x9), (4, .int (i2 + 1))]) [0, 1, 2, 3, 4] rfl ?_
          refine g_goto (tgt := 3) dX6_scaledMean_180 (by decide) ?_
          refine g_pick (lv' := [(0, .ref (uk_ad G 0)), (1, .int v), (2, .int m), (3, .int x9), (4, .int (i2 + 1))]) [0, 1, 2, 3, 4] rfl ?_
          exact ihi2 (by first | lia | grind)  u51 hu51 fu51  ⟨ki2, ee_Fs fki2 (by first | assumption | lia | grind), by subst eu51; subst ex10; exact hki2.trans ((if_neg c4).trans ((if_pos c11).trans ((if_pos c45).trans (rfl))))⟩
  refine g_pick (lv' := [(0, .ref (uk_ad G 0)), (1, .int v), (2, .int m), (3, .int x9), (4, .int 0)]) [0, 1, 2, 3, 4] rfl ?_
  exact L3_0 0 (by first | decide | lia | grind) (by first | decide | lia | grind)  u hu f0  ⟨ee_K, ee_F0 _ _, by exact rfl⟩
def e_X6_mean (u : uk_Mem) (v : Int32) (m : Int32) (b : Int32) (w : Int32) : Int64 × uk_Mem := if v < 0 then (((-1 : Int64), u)) else (if (10 : Int32) < v then (((-1 : Int64), u)) else (let x6 : Int32 := (e_X0_hasStuff u 13 m); if x6 = 0 then (((-1 : Int64), u)) else (let x11 : Int32 := (e_X0_hasStuff u 13 b); if x11 = 0 then (((-1 : Int64), u)) else (let x16 : Int32 := (e_X6_isFlag u w); if x16 = 0 then (((-1 : Int64), u)) else (let x21 : Int32 := (e_X0_isMade u 13 b); if x21 = 0 then (let x26 : Int64 := (e_X6_scaledMean u v m b).1; let u24 : uk_Mem := (e_X6_scaledMean u v m b).2; let x30 : Int64 := (e_X6_greatestCommon u24 x26 (10000000 : Int64)); if w = 0 then (let y33 : Int64 := x26 / x30; (y33, u24)) else (let y32 : Int64 := (10000000 : Int64) / x30; (y32, u24))) else (((-2 : Int64), u)))))))
abbrev qe_X6_mean (u : uk_Mem) (v : Int32) (m : Int32) (b : Int32) (w : Int32) (r : Option Value) (u' : uk_Mem) : Prop := (q_X6_mean u v m b w r u') ∧ (r = some (.long (e_X6_mean u v m b w).1) ∧ u' = (e_X6_mean u v m b w).2)
set_option maxHeartbeats 4000000 in
set_option maxRecDepth 20000 in
theorem x_X6_mean {G : uk_D} (hs : uk_Sep G) {u : uk_Mem} (hu : iv u) (v : Int32) (m : Int32) (b : Int32) (w : Int32) (d : Nat) : uk_Meth G (d + 2) mX6_mean [.ref (uk_ad G 0), .int v, .int m, .int b, .int w] u (qe_X6_mean u v m b w) := by
  refine uk_Meth.of hs (by decide) (Nat.le_of_ble_eq_true rfl) (fun X => ?_)
  have f0 : fr 59 60 u u := fr_rf
  refine g_iload_n dX6_mean_0 rfl ?_
  refine g_if_lt (tgt := 40) dX6_mean_1 (by decide) (fun c1 => ?_) (fun c1 => ?_)
  · refine g_ldc2 (v := (-1)) k_X6_194 dX6_mean_40 ?_
    exact g_lret dX6_mean_43 rfl ⟨⟨⟨_, rfl, by first | trivial | decide | exact uk_lg0 (by assumption) | grind⟩, hu, f0⟩, ee_j (by exact (if_pos c1).trans (rfl))⟩
  · refine g_iload_n dX6_mean_4 rfl ?_
    refine g_bipush (v := 10) dX6_mean_5 (by decide) ?_
    refine g_icmp_gt (tgt := 40) dX6_mean_7 (by decide) (fun c2 => ?_) (fun c2 => ?_)
    · refine g_ldc2 (v := (-1)) k_X6_194 dX6_mean_40 ?_
      exact g_lret dX6_mean_43 rfl ⟨⟨⟨_, rfl, by first | trivial | decide | exact uk_lg0 (by assumption) | grind⟩, hu, f0⟩, ee_j (by exact (if_neg c1).trans ((if_pos c2).trans (rfl)))⟩
    · refine g_aload_n dX6_mean_10 rfl ?_
      refine f_X6_10 rfl rfl dX6_mean_11 ?_
      refine g_iload_n dX6_mean_14 rfl ?_
      refine cl_X6_118 (c := 13) (As := [.int m]) rfl (x_X0_hasStuff (G := G) hs hu uk_isK13 m  (d + 1)) rfl (by omega) rfl rfl (Nat.le_of_ble_eq_true rfl) dX6_mean_15 (fun r3 u4 q5 => ?_)
      obtain ⟨q5, Eq5⟩ := q5
      obtain ⟨⟨x6, rfl, tx6, nx6, zx6⟩, mq5⟩ := q5
      rw [mq5]
      have ex6 : x6 = (e_X0_hasStuff u 13 m) := ee_v Eq5
      refine g_if_eq (tgt := 40) dX6_mean_18 (by decide) (fun c7 => ?_) (fun c7 => ?_)
      · have zc7 := zx6 c7
        refine g_ldc2 (v := (-1)) k_X6_194 dX6_mean_40 ?_
        exact g_lret dX6_mean_43 rfl ⟨⟨⟨_, rfl, by first | trivial | decide | exact uk_lg0 (by assumption) | grind⟩, hu, f0⟩, ee_j (by subst ex6; exact (if_neg c1).trans ((if_neg c2).trans ((if_pos c7).trans (rfl))))⟩
      · have zc7 := nx6 c7
        refine g_aload_n dX6_mean_21 rfl ?_
        refine f_X6_10 rfl rfl dX6_mean_22 ?_
        refine g_iload_n dX6_mean_25 rfl ?_
        refine cl_X6_118 (c := 13) (As := [.int b]) rfl (x_X0_hasStuff (G := G) hs hu uk_isK13 b  (d + 1)) rfl (by omega) rfl rfl (Nat.le_of_ble_eq_true rfl) dX6_mean_26 (fun r8 u9 q10 => ?_)
        obtain ⟨q10, Eq10⟩ := q10
        obtain ⟨⟨x11, rfl, tx11, nx11, zx11⟩, mq10⟩ := q10
        rw [mq10]
        have ex11 : x11 = (e_X0_hasStuff u 13 b) := ee_v Eq10
        refine g_if_eq (tgt := 40) dX6_mean_29 (by decide) (fun c12 => ?_) (fun c12 => ?_)
        · have zc12 := zx11 c12
          refine g_ldc2 (v := (-1)) k_X6_194 dX6_mean_40 ?_
          exact g_lret dX6_mean_43 rfl ⟨⟨⟨_, rfl, by first | trivial | decide | exact uk_lg0 (by assumption) | grind⟩, hu, f0⟩, ee_j (by subst ex11; subst ex6; exact (if_neg c1).trans ((if_neg c2).trans ((if_neg c7).trans ((if_pos c12).trans (rfl)))))⟩
        · have zc12 := nx11 c12
          refine g_iload dX6_mean_32 rfl ?_
          refine cl_X6_162 (As := [.int w]) rfl (x_X6_isFlag (G := G) hs hu  w  (d + 1)) rfl (by omega) rfl (Nat.le_of_ble_eq_true rfl) dX6_mean_34 (fun r13 u14 q15 => ?_)
          obtain ⟨q15, Eq15⟩ := q15
          obtain ⟨⟨x16, rfl, tx16, nx16, zx16⟩, mq15⟩ := q15
          rw [mq15]
          have ex16 : x16 = (e_X6_isFlag u w) := ee_v Eq15
          refine g_if_ne (tgt := 44) dX6_mean_37 (by decide) (fun c17 => ?_) (fun c17 => ?_)
          · have zc17 := nx16 c17
            refine g_aload_n dX6_mean_44 rfl ?_
            refine f_X6_10 rfl rfl dX6_mean_45 ?_
            refine g_iload_n dX6_mean_48 rfl ?_
            refine cl_X6_122 (c := 13) (As := [.int b]) rfl (x_X0_isMade (G := G) hs hu uk_isK13 b (by first | trivial | decide | lia | grind) (by first | trivial | decide | lia | grind) (d + 1)) rfl (by omega) rfl rfl (Nat.le_of_ble_eq_true rfl) dX6_mean_49 (fun r18 u19 q20 => ?_)
            obtain ⟨q20, Eq20⟩ := q20
            obtain ⟨⟨x21, rfl, tx21, nx21, zx21⟩, mq20⟩ := q20
            rw [mq20]
            have ex21 : x21 = (e_X0_isMade u 13 b) := ee_v Eq20
            refine g_if_eq (tgt := 59) dX6_mean_52 (by decide) (fun c22 => ?_) (fun c22 => ?_)
            · have zc22 := zx21 c22
              refine g_aload_n dX6_mean_59 rfl ?_
              refine g_iload_n dX6_mean_60 rfl ?_
              refine g_iload_n dX6_mean_61 rfl ?_
              refine g_iload_n dX6_mean_62 rfl ?_
              refine cl_X6_198 (c := 0) (As := [.int v, .int m, .int b]) rfl (x_X6_scaledMean (G := G) hs hu  v m b (by first | trivial | decide | lia | grind) (by first | trivial | decide | lia | grind) (d)) rfl (by omega) rfl rfl (Nat.le_of_ble_eq_true rfl) dX6_mean_63 (fun r23 u24 q25 => ?_)
              obtain ⟨q25, Eq25⟩ := q25
              obtain ⟨⟨x26, rfl, tx26⟩, mq25⟩ := q25
              obtain ⟨hu24, gu24⟩ := mq25
              have fu24 : fr 59 60 u u24 := fr_tr f0 gu24 (by omega) (by omega)
              have ex26 : x26 = (e_X6_scaledMean u v m b).1 := ee_vl Eq25.1
              have eu24 : u24 = (e_X6_scaledMean u v m b).2 := Eq25.2
              refine g_lstore dX6_mean_66 (by decide) ?_
              refine g_pick (lv' := [(0, .ref (uk_ad G 0)), (1, .int v), (2, .int m), (3, .int b), (4, .int w), (5, .long x26)]) [0, 1, 2, 3, 4, 5] rfl ?_
              refine g_lload dX6_mean_68 rfl ?_
              refine g_ldc2 (v := 10000000) k_X6_202 dX6_mean_70 ?_
              refine cl_X6_204 (As := [.long x26, .long 10000000]) rfl (x_X6_greatestCommon (G := G) hs hu24  x26 10000000  (d + 1)) rfl (by omega) rfl (Nat.le_of_ble_eq_true rfl) dX6_mean_73 (fun r27 u28 q29 => ?_)
              obtain ⟨q29, Eq29⟩ := q29
              obtain ⟨⟨x30, rfl, tx30⟩, mq29⟩ := q29
              rw [mq29]
              have ex30 : x30 = (e_X6_greatestCommon u24 x26 (10000000 : Int64)) := ee_vl Eq29
              refine g_lstore dX6_mean_76 (by decide) ?_
              refine g_pick (lv' := [(0, .ref (uk_ad G 0)), (1, .int v), (2, .int m), (3, .int b), (4, .int w), (5, .long x26), (7, .long x30)]) [0, 1, 2, 3, 4, 5, 6] rfl ?_
              refine g_iload dX6_mean_78 rfl ?_
              refine g_if_ne (tgt := 88) dX6_mean_80 (by decide) (fun c31 => ?_) (fun c31 => ?_)
              · refine g_ldc2 (v := 10000000) k_X6_202 dX6_mean_88 ?_
                refine g_lload dX6_mean_91 rfl ?_
                refine g_ldiv dX6_mean_93 (by first | decide | assumption | exact uk_lg0 (by assumption) | grind) ?_
                refine g_topl (fun y32 ey32 => ?_)
                exact g_lret dX6_mean_94 rfl ⟨⟨⟨_, rfl, by first | trivial | decide | exact uk_lg0 (by assumption) | grind⟩, hu24, fu24⟩, ee_j (by subst ey32; subst ex30; subst eu24; subst ex26; subst ex21; subst ex16; subst ex11; subst ex6; exact (if_neg c1).trans ((if_neg c2).trans ((if_neg c7).trans ((if_neg c12).trans ((if_neg c17).trans ((if_pos c22).trans ((if_neg c31).trans (rfl))))))))⟩
              · refine g_lload dX6_mean_83 rfl ?_
                refine g_goto (tgt := 91) dX6_mean_85 (by decide) ?_
                refine g_lload dX6_mean_91 rfl ?_
                refine g_ldiv dX6_mean_93 (by first | decide | assumption | exact uk_lg0 (by assumption) | grind) ?_
                refine g_topl (fun y33 ey33 => ?_)
                exact g_lret dX6_mean_94 rfl ⟨⟨⟨_, rfl, by first | trivial | decide | exact uk_lg0 (by assumption) | grind⟩, hu24, fu24⟩, ee_j (by subst ey33; subst ex30; subst eu24; subst ex26; subst ex21; subst ex16; subst ex11; subst ex6; exact (if_neg c1).trans ((if_neg c2).trans ((if_neg c7).trans ((if_neg c12).trans ((if_neg c17).trans ((if_pos c22).trans ((if_pos c31).trans (rfl))))))))⟩
            · have zc22 := nx21 c22
              refine g_ldc2 (v := (-2)) k_X6_196 dX6_mean_55 ?_
              exact g_lret dX6_mean_58 rfl ⟨⟨⟨_, rfl, by first | trivial | decide | exact uk_lg0 (by assumption) | grind⟩, hu, f0⟩, ee_j (by subst ex21; subst ex16; subst ex11; subst ex6; exact (if_neg c1).trans ((if_neg c2).trans ((if_neg c7).trans ((if_neg c12).trans ((if_neg c17).trans ((if_neg c22).trans (rfl)))))))⟩
          · have zc17 := zx16 c17
            refine g_ldc2 (v := (-1)) k_X6_194 dX6_mean_40 ?_
            exact g_lret dX6_mean_43 rfl ⟨⟨⟨_, rfl, by first | trivial | decide | exact uk_lg0 (by assumption) | grind⟩, hu, f0⟩, ee_j (by subst ex16; subst ex11; subst ex6; exact (if_neg c1).trans ((if_neg c2).trans ((if_neg c7).trans ((if_neg c12).trans ((if_pos c17).trans (rfl))))))⟩
def l_com : Nat → Int64 → Int64 → Int64
  | 0, x, _ => x
  | K + 1, x, y => if y = 0 then x else l_com K y (x - x / y * y)
def e_X7_common (u : uk_Mem) (a b : Int64) : Int64 := l_com (b.toInt.natAbs + 1) a b
abbrev qe_X7_common (u : uk_Mem) (a b : Int64) (r : Option Value) (u' : uk_Mem) : Prop := (q_X7_common u a b r u') ∧ (r = some (.long (e_X7_common u a b)))
theorem x_X7_common {G : uk_D} (hs : uk_Sep G) {u : uk_Mem} (hu : iv u) (a : Int64) (b : Int64) (p0 : ¬ a = 0) (d : Nat) : uk_Meth G d mX7_common [.long a, .long b] u (qe_X7_common u a b) := by
  refine uk_Meth.of hs (by decide) (Nat.le_of_ble_eq_true rfl) (fun X => ?_)
  refine g_lload_n dX7_common_0 rfl ?_
  refine g_lstore dX7_common_1 (by decide) ?_
  refine g_lload_n dX7_common_3 rfl ?_
  refine g_lstore dX7_common_4 (by decide) ?_
  have key : ∀ (n : Nat) (x y : Int64) (K : Nat), y.toInt.natAbs = n → (¬ x = 0 ∨ ¬ y = 0) → n < K → l_com K x y = e_X7_common u a b → uk_G G X mX7_common d (qe_X7_common u a b) 6 [(0, .long a), (2, .long b), (4, .long x), (6, .long y)] [] u := by
    intro n
    induction n using Nat.strongRecOn with
    | _ n ih =>
      intro x y K hy hxy hK he
      obtain ⟨K', rfl⟩ : ∃ K', K = K' + 1 := ⟨K - 1, by omega⟩
      rw [l_com] at he
      refine g_lload dX7_common_6 rfl ?_
      refine g_lconst (v := 0) dX7_common_8 (by decide) ?_
      refine g_lcmp dX7_common_9 ?_
      refine g_if_eq (tgt := 31) dX7_common_10 (by decide) (fun c => ?_) (fun c => ?_)
      · rw [lg_cmp_eq] at c
        rw [if_pos c] at he
        refine g_lload dX7_common_31 rfl ?_
        exact g_lret dX7_common_33 rfl ⟨⟨⟨_, rfl, hxy.resolve_right (fun q => q c)⟩, rfl⟩, by rw [he]⟩
      · rw [lg_cmp_eq] at c
        rw [if_neg c] at he
        refine g_lload dX7_common_13 rfl ?_
        refine g_lload dX7_common_15 rfl ?_
        refine g_lrem dX7_common_17 c ?_
        refine g_topl (fun z ez => ?_)
        refine g_lstore dX7_common_18 (by decide) ?_
        refine g_lload dX7_common_20 rfl ?_
        refine g_lstore dX7_common_22 (by decide) ?_
        refine g_lload dX7_common_24 rfl ?_
        refine g_lstore dX7_common_26 (by decide) ?_
        refine g_goto (tgt := 6) dX7_common_28 (by decide) ?_
        refine g_pick (lv' := [(0, .long a), (2, .long b), (4, .long y), (6, .long z)]) [0, 1, 2, 3] rfl ?_
        have hz := lg_rem_lt ez c
        exact ih _ (by omega) y z K' rfl (Or.inl c) (by omega) (by rw [ez]; exact he)
  exact key _ a b (b.toInt.natAbs + 1) rfl (Or.inl p0) (by omega) rfl

def l_X7_mean_60 (m : Int32) (w : Int32) (b : Int32) (v : Int32) : Nat → Int32 → uk_Mem → Int64 × uk_Mem
  | 0, _, u28 => (0, u28)
  | K9 + 1, i27, u28 => if m < i27 then (let y31 : Int64 := u28.2 72 m.toNatClampNeg; let x35 : Int64 := (e_X7_common u28 (100000000 : Int64) y31); if w = 0 then (let y39 : Int64 := u28.2 72 m.toNatClampNeg; let y40 : Int64 := y39 / x35; (y40, u28)) else (let y37 : Int64 := (100000000 : Int64) / x35; (y37, u28))) else (let x41 : Int32 := (32 : Int32) + i27; let x43 : Int32 := u28.1 61 x41.toNatClampNeg; if x43 = (4 : Int32) then (if i27 = b then (let u99 : uk_Mem := uk_upL u28 72 i27.toNatClampNeg (100000000 : Int64); l_X7_mean_60 m w b v K9 (i27 + 1) u99) else (let u96 : uk_Mem := uk_upL u28 72 i27.toNatClampNeg (0 : Int64); l_X7_mean_60 m w b v K9 (i27 + 1) u96)) else (if x43 = 0 then (let x78 : Int32 := u28.1 65 i27.toNatClampNeg; let y80 : Int64 := u28.2 72 x78.toNatClampNeg; if x43 = (2 : Int32) then (let u92 : uk_Mem := uk_upL u28 72 i27.toNatClampNeg (0 : Int64); l_X7_mean_60 m w b v K9 (i27 + 1) u92) else (let x83 : Int32 := u28.1 64 i27.toNatClampNeg; let y85 : Int64 := u28.2 72 x83.toNatClampNeg; let y86 : Int64 := y85 + y80; let u89 : uk_Mem := uk_upL u28 72 i27.toNatClampNeg y86; l_X7_mean_60 m w b v K9 (i27 + 1) u89)) else (if x43 = (3 : Int32) then (let x60 : Int32 := u28.1 65 i27.toNatClampNeg; let y62 : Int64 := u28.2 72 x60.toNatClampNeg; let y63 : Int64 := y62 / (10 : Int64); let y64 : Int64 := y63 * (v.toInt64); if x43 = (2 : Int32) then (let u76 : uk_Mem := uk_upL u28 72 i27.toNatClampNeg (0 : Int64); l_X7_mean_60 m w b v K9 (i27 + 1) u76) else (let x67 : Int32 := u28.1 64 i27.toNatClampNeg; let y69 : Int64 := u28.2 72 x67.toNatClampNeg; let y70 : Int64 := y69 + y64; let u73 : uk_Mem := uk_upL u28 72 i27.toNatClampNeg y70; l_X7_mean_60 m w b v K9 (i27 + 1) u73)) else (if x43 = (2 : Int32) then (let u58 : uk_Mem := uk_upL u28 72 i27.toNatClampNeg (0 : Int64); l_X7_mean_60 m w b v K9 (i27 + 1) u58) else (let x49 : Int32 := u28.1 64 i27.toNatClampNeg; let y51 : Int64 := u28.2 72 x49.toNatClampNeg; let y52 : Int64 := y51 + (0 : Int64); let u55 : uk_Mem := uk_upL u28 72 i27.toNatClampNeg y52; l_X7_mean_60 m w b v K9 (i27 + 1) u55)))))
def e_X7_mean (u : uk_Mem) (v : Int32) (m : Int32) (b : Int32) (w : Int32) : Int64 × uk_Mem := let x4 : Int32 := (e_X7_in u v (0 : Int32) (10 : Int32)); if x4 = 0 then (((-1 : Int64), u)) else (let x9 : Int32 := (e_X7_isStuff u m); if x9 = 0 then (((-1 : Int64), u)) else (let x14 : Int32 := (e_X7_isStuff u b); if x14 = 0 then (((-1 : Int64), u)) else (let x19 : Int32 := (e_X7_isPart u w); if x19 = 0 then (((-1 : Int64), u)) else (let x24 : Int32 := (e_X7_isRaw u b); if x24 = 0 then (((-2 : Int64), u)) else (l_X7_mean_60 m w b v ee_K (0 : Int32) u)))))
abbrev qe_X7_mean (u : uk_Mem) (v : Int32) (m : Int32) (b : Int32) (w : Int32) (r : Option Value) (u' : uk_Mem) : Prop := (q_X7_mean u v m b w r u') ∧ (r = some (.long (e_X7_mean u v m b w).1) ∧ u' = (e_X7_mean u v m b w).2)
set_option maxHeartbeats 4000000 in
set_option maxRecDepth 20000 in
theorem x_X7_mean {G : uk_D} (hs : uk_Sep G) {u : uk_Mem} (hu : iv u) (hri : ri u) (v : Int32) (m : Int32) (b : Int32) (w : Int32) (d : Nat) : uk_Meth G (d + 2) mX7_mean [.ref (uk_ad G 60), .int v, .int m, .int b, .int w] u (qe_X7_mean u v m b w) := by
  refine uk_Meth.of hs (by decide) (Nat.le_of_ble_eq_true rfl) (fun X => ?_)
  have f0 : fk [72] [] u u := fk_rf
  refine g_iload_n dX7_mean_0 rfl ?_
  refine g_i2l dX7_mean_1 ?_
  refine g_lconst (v := 0) dX7_mean_2 (by decide) ?_
  refine g_ldc2 (v := 10) k_X7_229 dX7_mean_3 ?_
  refine cl_X7_84 (As := [.long v.toInt64, .long 0, .long 10]) rfl (x_X7_in (G := G) hs hu  v 0 10  (d + 1)) rfl (by omega) rfl (Nat.le_of_ble_eq_true rfl) dX7_mean_6 (fun r1 u2 q3 => ?_)
  obtain ⟨q3, Eq3⟩ := q3
  obtain ⟨⟨x4, rfl, tx4, nx4, zx4⟩, mq3⟩ := q3
  rw [mq3]
  have ex4 : x4 = (e_X7_in u v (0 : Int32) (10 : Int32)) := ee_v Eq3
  refine g_if_eq (tgt := 36) dX7_mean_9 (by decide) (fun c5 => ?_) (fun c5 => ?_)
  · have zc5 := zx4 c5
    refine g_ldc2 (v := (-1)) k_X7_231 dX7_mean_36 ?_
    exact g_lret dX7_mean_39 rfl ⟨⟨⟨_, rfl, by first | trivial | decide | exact uk_lg0 (by assumption) | grind⟩, hu, f0, hri⟩, ee_j (by subst ex4; exact (if_pos c5).trans (rfl))⟩
  · have zc5 := nx4 c5
    refine g_aload_n dX7_mean_12 rfl ?_
    refine g_iload_n dX7_mean_13 rfl ?_
    refine cl_X7_163 (c := 60) (As := [.int m]) rfl (x_X7_isStuff (G := G) hs hu  m  (d)) rfl (by omega) rfl rfl (Nat.le_of_ble_eq_true rfl) dX7_mean_14 (fun r6 u7 q8 => ?_)
    obtain ⟨q8, Eq8⟩ := q8
    obtain ⟨⟨x9, rfl, tx9, nx9, zx9⟩, mq8⟩ := q8
    rw [mq8]
    have ex9 : x9 = (e_X7_isStuff u m) := ee_v Eq8
    refine g_if_eq (tgt := 36) dX7_mean_17 (by decide) (fun c10 => ?_) (fun c10 => ?_)
    · have zc10 := zx9 c10
      refine g_ldc2 (v := (-1)) k_X7_231 dX7_mean_36 ?_
      exact g_lret dX7_mean_39 rfl ⟨⟨⟨_, rfl, by first | trivial | decide | exact uk_lg0 (by assumption) | grind⟩, hu, f0, hri⟩, ee_j (by subst ex9; subst ex4; exact (if_neg c5).trans ((if_pos c10).trans (rfl)))⟩
    · have zc10 := nx9 c10
      refine g_aload_n dX7_mean_20 rfl ?_
      refine g_iload_n dX7_mean_21 rfl ?_
      refine cl_X7_163 (c := 60) (As := [.int b]) rfl (x_X7_isStuff (G := G) hs hu  b  (d)) rfl (by omega) rfl rfl (Nat.le_of_ble_eq_true rfl) dX7_mean_22 (fun r11 u12 q13 => ?_)
      obtain ⟨q13, Eq13⟩ := q13
      obtain ⟨⟨x14, rfl, tx14, nx14, zx14⟩, mq13⟩ := q13
      rw [mq13]
      have ex14 : x14 = (e_X7_isStuff u b) := ee_v Eq13
      refine g_if_eq (tgt := 36) dX7_mean_25 (by decide) (fun c15 => ?_) (fun c15 => ?_)
      · have zc15 := zx14 c15
        refine g_ldc2 (v := (-1)) k_X7_231 dX7_mean_36 ?_
        exact g_lret dX7_mean_39 rfl ⟨⟨⟨_, rfl, by first | trivial | decide | exact uk_lg0 (by assumption) | grind⟩, hu, f0, hri⟩, ee_j (by subst ex14; subst ex9; subst ex4; exact (if_neg c5).trans ((if_neg c10).trans ((if_pos c15).trans (rfl))))⟩
      · have zc15 := nx14 c15
        refine g_iload dX7_mean_28 rfl ?_
        refine cl_X7_197 (As := [.int w]) rfl (x_X7_isPart (G := G) hs hu  w  (d)) rfl (by omega) rfl (Nat.le_of_ble_eq_true rfl) dX7_mean_30 (fun r16 u17 q18 => ?_)
        obtain ⟨q18, Eq18⟩ := q18
        obtain ⟨⟨x19, rfl, tx19, nx19, zx19⟩, mq18⟩ := q18
        rw [mq18]
        have ex19 : x19 = (e_X7_isPart u w) := ee_v Eq18
        refine g_if_ne (tgt := 40) dX7_mean_33 (by decide) (fun c20 => ?_) (fun c20 => ?_)
        · have zc20 := nx19 c20
          refine g_aload_n dX7_mean_40 rfl ?_
          refine g_iload_n dX7_mean_41 rfl ?_
          refine cl_X7_166 (c := 60) (As := [.int b]) rfl (x_X7_isRaw (G := G) hs hu  b (by first | trivial | decide | lia | grind) (by first | trivial | decide | lia | grind) (d + 1)) rfl (by omega) rfl rfl (Nat.le_of_ble_eq_true rfl) dX7_mean_42 (fun r21 u22 q23 => ?_)
          obtain ⟨q23, Eq23⟩ := q23
          obtain ⟨⟨x24, rfl, tx24, nx24, zx24⟩, mq23⟩ := q23
          rw [mq23]
          have ex24 : x24 = (e_X7_isRaw u b) := ee_v Eq23
          refine g_if_ne (tgt := 52) dX7_mean_45 (by decide) (fun c25 => ?_) (fun c25 => ?_)
          · have zc25 := nx24 c25
            refine g_ldc2 (v := 100000000) k_X7_235 dX7_mean_52 ?_
            refine g_lstore dX7_mean_55 (by decide) ?_
            refine g_pick (lv' := [(0, .ref (uk_ad G 60)), (1, .int v), (2, .int m), (3, .int b), (4, .int w), (5, .long 100000000)]) [0, 1, 2, 3, 4, 5] rfl ?_
            refine g_iconst (v := 0) dX7_mean_57 (by decide) ?_
            refine g_istore dX7_mean_58 (by decide) ?_
            refine g_pick (lv' := [(0, .ref (uk_ad G 60)), (1, .int v), (2, .int m), (3, .int b), (4, .int w), (5, .long 100000000), (7, .int 0)]) [0, 1, 2, 3, 4, 5, 6] rfl ?_
            have L60_25 : ∀ i27 : Int32, 0 ≤ i27 → i27 ≤ 8 → ∀ (u28 : uk_Mem), iv u28 → fk [72] [] u u28 → ri u28 → (∃ ki27 : Nat, ee_F 8 i27 ki27 ∧ e_X7_mean u v m b w = l_X7_mean_60 m w b v ki27 i27 u28) → uk_G G X mX7_mean (d + 2) (qe_X7_mean u v m b w) 60 [(0, .ref (uk_ad G 60)), (1, .int v), (2, .int m), (3, .int b), (4, .int w), (5, .long 100000000), (7, .int i27)] [] u28 := by
              refine uk_upl 8 ?_
              intro i27 ai27 bi27 ihi27  u28 hu28 fu28 riu28 jEi27
              obtain ⟨ki27, fki27, hki27⟩ := jEi27
              obtain ⟨ki27, rfl⟩ := ee_Fp (by first | assumption | lia | grind) fki27
              have wu28_60_3 : u28.1 60 3 = u.1 60 3 := fk_at fu28 (by decide)
              refine g_iload dX7_mean_60 rfl ?_
              refine g_iload_n dX7_mean_62 rfl ?_
              refine g_icmp_gt (tgt := 195) dX7_mean_63 (by decide) (fun c29 => ?_) (fun c29 => ?_)
              · refine g_lload dX7_mean_195 rfl ?_
                refine g_aload_n dX7_mean_197 rfl ?_
                refine f_X7_44 rfl rfl dX7_mean_198 ?_
                refine g_iload_n dX7_mean_201 rfl ?_
                have v30 : vp_in m 8 := uk_vin 8 rfl (by first | decide | lia | grind) (by first | decide | lia | grind)
                refine g_lald rfl rfl v30 dX7_mean_202 ?_
                refine g_topl (fun y31 ey31 => ?_)
                refine cl_X7_237 (As := [.long 100000000, .long y31]) rfl (x_X7_common (G := G) hs hu28  100000000 y31 (by first | trivial | decide | lia | grind) (d + 1)) rfl (by omega) rfl (Nat.le_of_ble_eq_true rfl) dX7_mean_203 (fun r32 u33 q34 => ?_)
                obtain ⟨q34, Eq34⟩ := q34
                obtain ⟨⟨x35, rfl, tx35⟩, mq34⟩ := q34
                rw [mq34]
                have ex35 : x35 = (e_X7_common u28 (100000000 : Int64) y31) := ee_vl Eq34
                refine g_lstore dX7_mean_206 (by decide) ?_
                refine g_pick (lv' := [(0, .ref (uk_ad G 60)), (1, .int v), (2, .int m), (3, .int b), (4, .int w), (5, .long 100000000), (7, .long x35)]) [0, 1, 2, 3, 4, 5, 6] rfl ?_
                refine g_iload dX7_mean_208 rfl ?_
                refine g_if_ne (tgt := 225) dX7_mean_210 (by decide) (fun c36 => ?_) (fun c36 => ?_)
                · refine g_lload dX7_mean_225 rfl ?_
                  refine g_lload dX7_mean_227 rfl ?_
                  refine g_ldiv dX7_mean_229 (by first | decide | assumption | exact uk_lg0 (by assumption) | grind) ?_
                  refine g_topl (fun y37 ey37 => ?_)
                  exact g_lret dX7_mean_230 rfl ⟨⟨⟨_, rfl, by first | trivial | decide | exact uk_lg0 (by assumption) | grind⟩, hu28, fu28, riu28⟩, ee_j (by subst ey37; subst ex35; subst ey31; exact hki27.trans ((if_pos c29).trans ((if_neg c36).trans (rfl))))⟩
                · refine g_aload_n dX7_mean_213 rfl ?_
                  refine f_X7_44 rfl rfl dX7_mean_214 ?_
                  refine g_iload_n dX7_mean_217 rfl ?_
                  have v38 : vp_in m 8 := uk_vin 8 rfl (by first | decide | lia | grind) (by first | decide | lia | grind)
                  refine g_lald rfl rfl v38 dX7_mean_218 ?_
                  refine g_topl (fun y39 ey39 => ?_)
                  refine g_lload dX7_mean_219 rfl ?_
                  refine g_ldiv dX7_mean_221 (by first | decide | assumption | exact uk_lg0 (by assumption) | grind) ?_
                  refine g_topl (fun y40 ey40 => ?_)
                  refine g_goto (tgt := 230) dX7_mean_222 (by decide) ?_
                  exact g_lret dX7_mean_230 rfl ⟨⟨⟨_, rfl, by first | trivial | decide | exact uk_lg0 (by assumption) | grind⟩, hu28, fu28, riu28⟩, ee_j (by subst ey40; subst ey39; subst ex35; subst ey31; exact hki27.trans ((if_pos c29).trans ((if_pos c36).trans (rfl))))⟩
              · refine g_aload_n dX7_mean_66 rfl ?_
                refine f_X7_7 rfl rfl dX7_mean_67 ?_
                refine g_bipush (v := 32) dX7_mean_70 (by decide) ?_
                refine g_iload dX7_mean_72 rfl ?_
                refine g_iadd dX7_mean_74 ?_
                refine g_topi (fun x41 ex41 => ?_)
                have v42 : vp_in x41 153 := uk_vin 153 rfl (by first | decide | lia | grind) (by first | decide | lia | grind)
                refine g_iald rfl rfl v42 dX7_mean_75 ?_
                refine g_topi (fun x43 ex43 => ?_)
                have bx43 := uk_cl v42
                refine g_istore dX7_mean_76 (by decide) ?_
                refine g_pick (lv' := [(0, .ref (uk_ad G 60)), (1, .int v), (2, .int m), (3, .int b), (4, .int w), (5, .long 100000000), (7, .int i27), (8, .int x43)]) [0, 1, 2, 3, 4, 5, 6, 7] rfl ?_
                refine g_iload dX7_mean_78 rfl ?_
                refine g_iconst (v := 4) dX7_mean_80 (by decide) ?_
                refine g_icmp_ne (tgt := 106) dX7_mean_81 (by decide) (fun c44 => ?_) (fun c44 => ?_)
                · refine g_iload dX7_mean_106 rfl ?_
                  refine g_if_ne (tgt := 126) dX7_mean_108 (by decide) (fun c45 => ?_) (fun c45 => ?_)
                  · refine g_iload dX7_mean_126 rfl ?_
                    refine g_iconst (v := 3) dX7_mean_128 (by decide) ?_
                    refine g_icmp_ne (tgt := 154) dX7_mean_129 (by decide) (fun c46 => ?_) (fun c46 => ?_)
                    · refine g_lconst (v := 0) dX7_mean_154 (by decide) ?_
                      refine g_lstore dX7_mean_155 (by decide) ?_
                      refine g_pick (lv' := [(0, .ref (uk_ad G 60)), (1, .int v), (2, .int m), (3, .int b), (4, .int w), (5, .long 100000000), (7, .int i27), (8, .int x43), (9, .long 0)]) [0, 1, 2, 3, 4, 5, 6, 7, 8] rfl ?_
                      refine g_aload_n dX7_mean_157 rfl ?_
                      refine f_X7_44 rfl rfl dX7_mean_158 ?_
                      refine g_iload dX7_mean_161 rfl ?_
                      refine g_iload dX7_mean_163 rfl ?_
                      refine g_iconst (v := 2) dX7_mean_165 (by decide) ?_
                      refine g_icmp_ne (tgt := 173) dX7_mean_166 (by decide) (fun c47 => ?_) (fun c47 => ?_)
                      · refine g_aload_n dX7_mean_173 rfl ?_
                        refine f_X7_44 rfl rfl dX7_mean_174 ?_
                        refine g_aload_n dX7_mean_177 rfl ?_
                        refine f_X7_20 rfl rfl dX7_mean_178 ?_
                        refine g_iload dX7_mean_181 rfl ?_
                        have v48 : vp_in i27 8 := uk_vin 8 rfl (by first | decide | lia | grind) (by first | decide | lia | grind)
                        refine g_iald rfl rfl v48 dX7_mean_183 ?_
                        refine g_topi (fun x49 ex49 => ?_)
                        have bx49 := uk_cl v48
                        have rx49 : (-4) ≤ x49 ∧ x49 ≤ 7 := by rw [ex49]; exact iv_at hu28 _ _ (uk_pick1 _ (by omega))
                        have hqx49 := (riu28.1 i27 (by lia) (by rw [fk_at (c := 60) (i := 3) fu28 (by decide)]; first | lia | grind) (by lia)).resolve_left (by first | assumption | grind)
                        have hpx49 : 0 ≤ x49 ∧ x49 < i27 := by rw [ex49]; exact ⟨hqx49.1, hqx49.2.1⟩
                        have v50 : vp_in x49 8 := uk_vin 8 rfl (by first | decide | lia | grind) (by first | decide | lia | grind)
                        refine g_lald rfl rfl v50 dX7_mean_184 ?_
                        refine g_topl (fun y51 ey51 => ?_)
                        refine g_lload dX7_mean_185 rfl ?_
                        refine g_ladd dX7_mean_187 ?_
                        refine g_topl (fun y52 ey52 => ?_)
                        have v53 : vp_in i27 8 := uk_vin 8 rfl (by first | decide | lia | grind) (by first | decide | lia | grind)
                        have b54 := uk_cl v53
                        refine g_last rfl rfl v53 dX7_mean_188 ?_
                        refine g_mem (fun u55 eu55 => ?_)
                        have hu55 : iv u55 := by rw [eu55]; exact iv_upL hu28
                        have fu55 : fk [72] [] u u55 := by rw [eu55]; exact fk_upL fu28 (by decide)
                        have riu55 : ri u55 := by rw [eu55]; exact riu28
                        refine g_iinc (v := i27 + 1) dX7_mean_189 rfl rfl (by decide) ?_
                        refine g_pick (lv' := [(0, .ref (uk_ad G 60)), (1, .int v), (2, .int m), (3, .int b), (4, .int w), (5, .long 100000000), (7, .int (i27 + 1)), (8, .int x43), (9, .long 0)]) [0, 1, 2, 3, 4, 5, 6, 7, 8] rfl ?_
                        refine g_goto (tgt := 60) dX7_mean_192 (by decide) ?_
                        refine g_pick (lv' := [(0, .ref (uk_ad G 60)), (1, .int v), (2, .int m), (3, .int b), (4, .int w), (5, .long 100000000), (7, .int (i27 + 1))]) [0, 1, 2, 3, 4, 5, 6] rfl ?_
                        exact ihi27 (by first | lia | grind)  u55 hu55 fu55 riu55  ⟨ki27, ee_Fs fki27 (by first | assumption | lia | grind), by subst eu55; subst ey52; subst ey51; subst ex49; subst ex43; subst ex41; exact hki27.trans ((if_neg c29).trans ((if_neg c44).trans ((if_neg c45).trans ((if_neg c46).trans ((if_neg c47).trans (rfl))))))⟩
                      · refine g_lconst (v := 0) dX7_mean_169 (by decide) ?_
                        refine g_goto (tgt := 188) dX7_mean_170 (by decide) ?_
                        have v56 : vp_in i27 8 := uk_vin 8 rfl (by first | decide | lia | grind) (by first | decide | lia | grind)
                        have b57 := uk_cl v56
                        refine g_last rfl rfl v56 dX7_mean_188 ?_
                        refine g_mem (fun u58 eu58 => ?_)
                        have hu58 : iv u58 := by rw [eu58]; exact iv_upL hu28
                        have fu58 : fk [72] [] u u58 := by rw [eu58]; exact fk_upL fu28 (by decide)
                        have riu58 : ri u58 := by rw [eu58]; exact riu28
                        refine g_iinc (v := i27 + 1) dX7_mean_189 rfl rfl (by decide) ?_
                        refine g_pick (lv' := [(0, .ref (uk_ad G 60)), (1, .int v), (2, .int m), (3, .int b), (4, .int w), (5, .long 100000000), (7, .int (i27 + 1)), (8, .int x43), (9, .long 0)]) [0, 1, 2, 3, 4, 5, 6, 7, 8] rfl ?_
                        refine g_goto (tgt := 60) dX7_mean_192 (by decide) ?_
                        refine g_pick (lv' := [(0, .ref (uk_ad G 60)), (1, .int v), (2, .int m), (3, .int b), (4, .int w), (5, .long 100000000), (7, .int (i27 + 1))]) [0, 1, 2, 3, 4, 5, 6] rfl ?_
                        exact ihi27 (by first | lia | grind)  u58 hu58 fu58 riu58  ⟨ki27, ee_Fs fki27 (by first | assumption | lia | grind), by subst eu58; subst ex43; subst ex41; exact hki27.trans ((if_neg c29).trans ((if_neg c44).trans ((if_neg c45).trans ((if_neg c46).trans ((if_pos c47).trans (rfl))))))⟩
                    · refine g_aload_n dX7_mean_132 rfl ?_
                      refine f_X7_44 rfl rfl dX7_mean_133 ?_
                      refine g_aload_n dX7_mean_136 rfl ?_
                      refine f_X7_23 rfl rfl dX7_mean_137 ?_
                      refine g_iload dX7_mean_140 rfl ?_
                      have v59 : vp_in i27 8 := uk_vin 8 rfl (by first | decide | lia | grind) (by first | decide | lia | grind)
                      refine g_iald rfl rfl v59 dX7_mean_142 ?_
                      refine g_topi (fun x60 ex60 => ?_)
                      have bx60 := uk_cl v59
                      have rx60 : (-4) ≤ x60 ∧ x60 ≤ 7 := by rw [ex60]; exact iv_at hu28 _ _ (uk_pick1 _ (by omega))
                      have hqx60 := (riu28.1 i27 (by lia) (by rw [fk_at (c := 60) (i := 3) fu28 (by decide)]; first | lia | grind) (by lia)).resolve_left (by first | assumption | grind)
                      have hpx60 : 0 ≤ x60 ∧ x60 < i27 := by rw [ex60]; exact ⟨hqx60.2.2.1, hqx60.2.2.2⟩
                      have v61 : vp_in x60 8 := uk_vin 8 rfl (by first | decide | lia | grind) (by first | decide | lia | grind)
                      refine g_lald rfl rfl v61 dX7_mean_143 ?_
                      refine g_topl (fun y62 ey62 => ?_)
                      refine g_ldc2 (v := 10) k_X7_229 dX7_mean_144 ?_
                      refine g_ldiv dX7_mean_147 (by first | decide | assumption | exact uk_lg0 (by assumption) | grind) ?_
                      refine g_topl (fun y63 ey63 => ?_)
                      refine g_iload_n dX7_mean_148 rfl ?_
                      refine g_i2l dX7_mean_149 ?_
                      refine g_lmul dX7_mean_150 ?_
                      refine g_topl (fun y64 ey64 => ?_)
                      refine g_goto (tgt := 155) dX7_mean_151 (by decide) ?_
                      refine g_lstore dX7_mean_155 (by decide) ?_
                      refine g_pick (lv' := [(0, .ref (uk_ad G 60)), (1, .int v), (2, .int m), (3, .int b), (4, .int w), (5, .long 100000000), (7, .int i27), (8, .int x43), (9, .long y64)]) [0, 1, 2, 3, 4, 5, 6, 7, 8] rfl ?_
                      refine g_aload_n dX7_mean_157 rfl ?_
                      refine f_X7_44 rfl rfl dX7_mean_158 ?_
                      refine g_iload dX7_mean_161 rfl ?_
                      refine g_iload dX7_mean_163 rfl ?_
                      refine g_iconst (v := 2) dX7_mean_165 (by decide) ?_
                      refine g_icmp_ne (tgt := 173) dX7_mean_166 (by decide) (fun c65 => ?_) (fun c65 => ?_)
                      · refine g_aload_n dX7_mean_173 rfl ?_
                        refine f_X7_44 rfl rfl dX7_mean_174 ?_
                        refine g_aload_n dX7_mean_177 rfl ?_
                        refine f_X7_20 rfl rfl dX7_mean_178 ?_
                        refine g_iload dX7_mean_181 rfl ?_
                        have v66 : vp_in i27 8 := uk_vin 8 rfl (by first | decide | lia | grind) (by first | decide | lia | grind)
                        refine g_iald rfl rfl v66 dX7_mean_183 ?_
                        refine g_topi (fun x67 ex67 => ?_)
                        have bx67 := uk_cl v66
                        have rx67 : (-4) ≤ x67 ∧ x67 ≤ 7 := by rw [ex67]; exact iv_at hu28 _ _ (uk_pick1 _ (by omega))
                        have hqx67 := (riu28.1 i27 (by lia) (by rw [fk_at (c := 60) (i := 3) fu28 (by decide)]; first | lia | grind) (by lia)).resolve_left (by first | assumption | grind)
                        have hpx67 : 0 ≤ x67 ∧ x67 < i27 := by rw [ex67]; exact ⟨hqx67.1, hqx67.2.1⟩
                        have v68 : vp_in x67 8 := uk_vin 8 rfl (by first | decide | lia | grind) (by first | decide | lia | grind)
                        refine g_lald rfl rfl v68 dX7_mean_184 ?_
                        refine g_topl (fun y69 ey69 => ?_)
                        refine g_lload dX7_mean_185 rfl ?_
                        refine g_ladd dX7_mean_187 ?_
                        refine g_topl (fun y70 ey70 => ?_)
                        have v71 : vp_in i27 8 := uk_vin 8 rfl (by first | decide | lia | grind) (by first | decide | lia | grind)
                        have b72 := uk_cl v71
                        refine g_last rfl rfl v71 dX7_mean_188 ?_
                        refine g_mem (fun u73 eu73 => ?_)
                        have hu73 : iv u73 := by rw [eu73]; exact iv_upL hu28
                        have fu73 : fk [72] [] u u73 := by rw [eu73]; exact fk_upL fu28 (by decide)
                        have riu73 : ri u73 := by rw [eu73]; exact riu28
                        refine g_iinc (v := i27 + 1) dX7_mean_189 rfl rfl (by decide) ?_
                        refine g_pick (lv' := [(0, .ref (uk_ad G 60)), (1, .int v), (2, .int m), (3, .int b), (4, .int w), (5, .long 100000000), (7, .int (i27 + 1)), (8, .int x43), (9, .long y64)]) [0, 1, 2, 3, 4, 5, 6, 7, 8] rfl ?_
                        refine g_goto (tgt := 60) dX7_mean_192 (by decide) ?_
                        refine g_pick (lv' := [(0, .ref (uk_ad G 60)), (1, .int v), (2, .int m), (3, .int b), (4, .int w), (5, .long 100000000), (7, .int (i27 + 1))]) [0, 1, 2, 3, 4, 5, 6] rfl ?_
                        exact ihi27 (by first | lia | grind)  u73 hu73 fu73 riu73  ⟨ki27, ee_Fs fki27 (by first | assumption | lia | grind), by subst eu73; subst ey70; subst ey69; subst ex67; subst ey64; subst ey63; subst ey62; subst ex60; subst ex43; subst ex41; exact hki27.trans ((if_neg c29).trans ((if_neg c44).trans ((if_neg c45).trans ((if_pos c46).trans ((if_neg c65).trans (rfl))))))⟩
                      · refine g_lconst (v := 0) dX7_mean_169 (by decide) ?_
                        refine g_goto (tgt := 188) dX7_mean_170 (by decide) ?_
                        have v74 : vp_in i27 8 := uk_vin 8 rfl (by first | decide | lia | grind) (by first | decide | lia | grind)
                        have b75 := uk_cl v74
                        refine g_last rfl rfl v74 dX7_mean_188 ?_
                        refine g_mem (fun u76 eu76 => ?_)
                        have hu76 : iv u76 := by rw [eu76]; exact iv_upL hu28
                        have fu76 : fk [72] [] u u76 := by rw [eu76]; exact fk_upL fu28 (by decide)
                        have riu76 : ri u76 := by rw [eu76]; exact riu28
                        refine g_iinc (v := i27 + 1) dX7_mean_189 rfl rfl (by decide) ?_
                        refine g_pick (lv' := [(0, .ref (uk_ad G 60)), (1, .int v), (2, .int m), (3, .int b), (4, .int w), (5, .long 100000000), (7, .int (i27 + 1)), (8, .int x43), (9, .long y64)]) [0, 1, 2, 3, 4, 5, 6, 7, 8] rfl ?_
                        refine g_goto (tgt := 60) dX7_mean_192 (by decide) ?_
                        refine g_pick (lv' := [(0, .ref (uk_ad G 60)), (1, .int v), (2, .int m), (3, .int b), (4, .int w), (5, .long 100000000), (7, .int (i27 + 1))]) [0, 1, 2, 3, 4, 5, 6] rfl ?_
                        exact ihi27 (by first | lia | grind)  u76 hu76 fu76 riu76  ⟨ki27, ee_Fs fki27 (by first | assumption | lia | grind), by subst eu76; subst ey64; subst ey63; subst ey62; subst ex60; subst ex43; subst ex41; exact hki27.trans ((if_neg c29).trans ((if_neg c44).trans ((if_neg c45).trans ((if_pos c46).trans ((if_pos c65).trans (rfl))))))⟩
                  · refine g_aload_n dX7_mean_111 rfl ?_
                    refine f_X7_44 rfl rfl dX7_mean_112 ?_
                    refine g_aload_n dX7_mean_115 rfl ?_
                    refine f_X7_23 rfl rfl dX7_mean_116 ?_
                    refine g_iload dX7_mean_119 rfl ?_
                    have v77 : vp_in i27 8 := uk_vin 8 rfl (by first | decide | lia | grind) (by first | decide | lia | grind)
                    refine g_iald rfl rfl v77 dX7_mean_121 ?_
                    refine g_topi (fun x78 ex78 => ?_)
                    have bx78 := uk_cl v77
                    have rx78 : (-4) ≤ x78 ∧ x78 ≤ 7 := by rw [ex78]; exact iv_at hu28 _ _ (uk_pick1 _ (by omega))
                    have hqx78 := (riu28.1 i27 (by lia) (by rw [fk_at (c := 60) (i := 3) fu28 (by decide)]; first | lia | grind) (by lia)).resolve_left (by first | assumption | grind)
                    have hpx78 : 0 ≤ x78 ∧ x78 < i27 := by rw [ex78]; exact ⟨hqx78.2.2.1, hqx78.2.2.2⟩
                    have v79 : vp_in x78 8 := uk_vin 8 rfl (by first | decide | lia | grind) (by first | decide | lia | grind)
                    refine g_lald rfl rfl v79 dX7_mean_122 ?_
                    refine g_topl (fun y80 ey80 => ?_)
                    refine g_goto (tgt := 155) dX7_mean_123 (by decide) ?_
                    refine g_lstore dX7_mean_155 (by decide) ?_
                    refine g_pick (lv' := [(0, .ref (uk_ad G 60)), (1, .int v), (2, .int m), (3, .int b), (4, .int w), (5, .long 100000000), (7, .int i27), (8, .int x43), (9, .long y80)]) [0, 1, 2, 3, 4, 5, 6, 7, 8] rfl ?_
                    refine g_aload_n dX7_mean_157 rfl ?_
                    refine f_X7_44 rfl rfl dX7_mean_158 ?_
                    refine g_iload dX7_mean_161 rfl ?_
                    refine g_iload dX7_mean_163 rfl ?_
                    refine g_iconst (v := 2) dX7_mean_165 (by decide) ?_
                    refine g_icmp_ne (tgt := 173) dX7_mean_166 (by decide) (fun c81 => ?_) (fun c81 => ?_)
                    · refine g_aload_n dX7_mean_173 rfl ?_
                      refine f_X7_44 rfl rfl dX7_mean_174 ?_
                      refine g_aload_n dX7_mean_177 rfl ?_
                      refine f_X7_20 rfl rfl dX7_mean_178 ?_
                      refine g_iload dX7_mean_181 rfl ?_
                      have v82 : vp_in i27 8 := uk_vin 8 rfl (by first | decide | lia | grind) (by first | decide | lia | grind)
                      refine g_iald rfl rfl v82 dX7_mean_183 ?_
                      refine g_topi (fun x83 ex83 => ?_)
                      have bx83 := uk_cl v82
                      have rx83 : (-4) ≤ x83 ∧ x83 ≤ 7 := by rw [ex83]; exact iv_at hu28 _ _ (uk_pick1 _ (by omega))
                      have hqx83 := (riu28.1 i27 (by lia) (by rw [fk_at (c := 60) (i := 3) fu28 (by decide)]; first | lia | grind) (by lia)).resolve_left (by first | assumption | grind)
                      have hpx83 : 0 ≤ x83 ∧ x83 < i27 := by rw [ex83]; exact ⟨hqx83.1, hqx83.2.1⟩
                      have v84 : vp_in x83 8 := uk_vin 8 rfl (by first | decide | lia | grind) (by first | decide | lia | grind)
                      refine g_lald rfl rfl v84 dX7_mean_184 ?_
                      refine g_topl (fun y85 ey85 => ?_)
                      refine g_lload dX7_mean_185 rfl ?_
                      refine g_ladd dX7_mean_187 ?_
                      refine g_topl (fun y86 ey86 => ?_)
                      have v87 : vp_in i27 8 := uk_vin 8 rfl (by first | decide | lia | grind) (by first | decide | lia | grind)
                      have b88 := uk_cl v87
                      refine g_last rfl rfl v87 dX7_mean_188 ?_
                      refine g_mem (fun u89 eu89 => ?_)
                      have hu89 : iv u89 := by rw [eu89]; exact iv_upL hu28
                      have fu89 : fk [72] [] u u89 := by rw [eu89]; exact fk_upL fu28 (by decide)
                      have riu89 : ri u89 := by rw [eu89]; exact riu28
                      refine g_iinc (v := i27 + 1) dX7_mean_189 rfl rfl (by decide) ?_
                      refine g_pick (lv' := [(0, .ref (uk_ad G 60)), (1, .int v), (2, .int m), (3, .int b), (4, .int w), (5, .long 100000000), (7, .int (i27 + 1)), (8, .int x43), (9, .long y80)]) [0, 1, 2, 3, 4, 5, 6, 7, 8] rfl ?_
                      refine g_goto (tgt := 60) dX7_mean_192 (by decide) ?_
                      refine g_pick (lv' := [(0, .ref (uk_ad G 60)), (1, .int v), (2, .int m), (3, .int b), (4, .int w), (5, .long 100000000), (7, .int (i27 + 1))]) [0, 1, 2, 3, 4, 5, 6] rfl ?_
                      exact ihi27 (by first | lia | grind)  u89 hu89 fu89 riu89  ⟨ki27, ee_Fs fki27 (by first | assumption | lia | grind), by subst eu89; subst ey86; subst ey85; subst ex83; subst ey80; subst ex78; subst ex43; subst ex41; exact hki27.trans ((if_neg c29).trans ((if_neg c44).trans ((if_pos c45).trans ((if_neg c81).trans (rfl)))))⟩
                    · refine g_lconst (v := 0) dX7_mean_169 (by decide) ?_
                      refine g_goto (tgt := 188) dX7_mean_170 (by decide) ?_
                      have v90 : vp_in i27 8 := uk_vin 8 rfl (by first | decide | lia | grind) (by first | decide | lia | grind)
                      have b91 := uk_cl v90
                      refine g_last rfl rfl v90 dX7_mean_188 ?_
                      refine g_mem (fun u92 eu92 => ?_)
                      have hu92 : iv u92 := by rw [eu92]; exact iv_upL hu28
                      have fu92 : fk [72] [] u u92 := by rw [eu92]; exact fk_upL fu28 (by decide)
                      have riu92 : ri u92 := by rw [eu92]; exact riu28
                      refine g_iinc (v := i27 + 1) dX7_mean_189 rfl rfl (by decide) ?_
                      refine g_pick (lv' := [(0, .ref (uk_ad G 60)), (1, .int v), (2, .int m), (3, .int b), (4, .int w), (5, .long 100000000), (7, .int (i27 + 1)), (8, .int x43), (9, .long y80)]) [0, 1, 2, 3, 4, 5, 6, 7, 8] rfl ?_
                      refine g_goto (tgt := 60) dX7_mean_192 (by decide) ?_
                      refine g_pick (lv' := [(0, .ref (uk_ad G 60)), (1, .int v), (2, .int m), (3, .int b), (4, .int w), (5, .long 100000000), (7, .int (i27 + 1))]) [0, 1, 2, 3, 4, 5, 6] rfl ?_
                      exact ihi27 (by first | lia | grind)  u92 hu92 fu92 riu92  ⟨ki27, ee_Fs fki27 (by first | assumption | lia | grind), by subst eu92; subst ey80; subst ex78; subst ex43; subst ex41; exact hki27.trans ((if_neg c29).trans ((if_neg c44).trans ((if_pos c45).trans ((if_pos c81).trans (rfl)))))⟩
                · refine g_aload_n dX7_mean_84 rfl ?_
                  refine f_X7_44 rfl rfl dX7_mean_85 ?_
                  refine g_iload dX7_mean_88 rfl ?_
                  refine g_iload dX7_mean_90 rfl ?_
                  refine g_iload_n dX7_mean_92 rfl ?_
                  refine g_icmp_ne (tgt := 101) dX7_mean_93 (by decide) (fun c93 => ?_) (fun c93 => ?_)
                  · refine g_lconst (v := 0) dX7_mean_101 (by decide) ?_
                    have v94 : vp_in i27 8 := uk_vin 8 rfl (by first | decide | lia | grind) (by first | decide | lia | grind)
                    have b95 := uk_cl v94
                    refine g_last rfl rfl v94 dX7_mean_102 ?_
                    refine g_mem (fun u96 eu96 => ?_)
                    have hu96 : iv u96 := by rw [eu96]; exact iv_upL hu28
                    have fu96 : fk [72] [] u u96 := by rw [eu96]; exact fk_upL fu28 (by decide)
                    have riu96 : ri u96 := by rw [eu96]; exact riu28
                    refine g_goto (tgt := 189) dX7_mean_103 (by decide) ?_
                    refine g_iinc (v := i27 + 1) dX7_mean_189 rfl rfl (by decide) ?_
                    refine g_pick (lv' := [(0, .ref (uk_ad G 60)), (1, .int v), (2, .int m), (3, .int b), (4, .int w), (5, .long 100000000), (7, .int (i27 + 1)), (8, .int x43)]) [0, 1, 2, 3, 4, 5, 6, 7] rfl ?_
                    refine g_goto (tgt := 60) dX7_mean_192 (by decide) ?_
                    refine g_pick (lv' := [(0, .ref (uk_ad G 60)), (1, .int v), (2, .int m), (3, .int b), (4, .int w), (5, .long 100000000), (7, .int (i27 + 1))]) [0, 1, 2, 3, 4, 5, 6] rfl ?_
                    exact ihi27 (by first | lia | grind)  u96 hu96 fu96 riu96  ⟨ki27, ee_Fs fki27 (by first | assumption | lia | grind), by subst eu96; subst ex43; subst ex41; exact hki27.trans ((if_neg c29).trans ((if_pos c44).trans ((if_neg c93).trans (rfl))))⟩
                  · refine g_lload dX7_mean_96 rfl ?_
                    refine g_goto (tgt := 102) dX7_mean_98 (by decide) ?_
                    have v97 : vp_in i27 8 := uk_vin 8 rfl (by first | decide | lia | grind) (by first | decide | lia | grind)
                    have b98 := uk_cl v97
                    refine g_last rfl rfl v97 dX7_mean_102 ?_
                    refine g_mem (fun u99 eu99 => ?_)
                    have hu99 : iv u99 := by rw [eu99]; exact iv_upL hu28
                    have fu99 : fk [72] [] u u99 := by rw [eu99]; exact fk_upL fu28 (by decide)
                    have riu99 : ri u99 := by rw [eu99]; exact riu28
                    refine g_goto (tgt := 189) dX7_mean_103 (by decide) ?_
                    refine g_iinc (v := i27 + 1) dX7_mean_189 rfl rfl (by decide) ?_
                    refine g_pick (lv' := [(0, .ref (uk_ad G 60)), (1, .int v), (2, .int m), (3, .int b), (4, .int w), (5, .long 100000000), (7, .int (i27 + 1)), (8, .int x43)]) [0, 1, 2, 3, 4, 5, 6, 7] rfl ?_
                    refine g_goto (tgt := 60) dX7_mean_192 (by decide) ?_
                    refine g_pick (lv' := [(0, .ref (uk_ad G 60)), (1, .int v), (2, .int m), (3, .int b), (4, .int w), (5, .long 100000000), (7, .int (i27 + 1))]) [0, 1, 2, 3, 4, 5, 6] rfl ?_
                    exact ihi27 (by first | lia | grind)  u99 hu99 fu99 riu99  ⟨ki27, ee_Fs fki27 (by first | assumption | lia | grind), by subst eu99; subst ex43; subst ex41; exact hki27.trans ((if_neg c29).trans ((if_pos c44).trans ((if_pos c93).trans (rfl))))⟩
            refine g_pick (lv' := [(0, .ref (uk_ad G 60)), (1, .int v), (2, .int m), (3, .int b), (4, .int w), (5, .long 100000000), (7, .int 0)]) [0, 1, 2, 3, 4, 5, 6] rfl ?_
            exact L60_25 0 (by first | decide | lia | grind) (by first | decide | lia | grind)  u hu f0 hri  ⟨ee_K, ee_F0 _ _, by subst ex24; subst ex19; subst ex14; subst ex9; subst ex4; exact (if_neg c5).trans ((if_neg c10).trans ((if_neg c15).trans ((if_neg c20).trans ((if_neg c25).trans (rfl)))))⟩
          · have zc25 := zx24 c25
            refine g_ldc2 (v := (-2)) k_X7_233 dX7_mean_48 ?_
            exact g_lret dX7_mean_51 rfl ⟨⟨⟨_, rfl, by first | trivial | decide | exact uk_lg0 (by assumption) | grind⟩, hu, f0, hri⟩, ee_j (by subst ex24; subst ex19; subst ex14; subst ex9; subst ex4; exact (if_neg c5).trans ((if_neg c10).trans ((if_neg c15).trans ((if_neg c20).trans ((if_pos c25).trans (rfl))))))⟩
        · have zc20 := zx19 c20
          refine g_ldc2 (v := (-1)) k_X7_231 dX7_mean_36 ?_
          exact g_lret dX7_mean_39 rfl ⟨⟨⟨_, rfl, by first | trivial | decide | exact uk_lg0 (by assumption) | grind⟩, hu, f0, hri⟩, ee_j (by subst ex19; subst ex14; subst ex9; subst ex4; exact (if_neg c5).trans ((if_neg c10).trans ((if_neg c15).trans ((if_pos c20).trans (rfl)))))⟩
