def l_X6_greatestCommon_9 : Nat → Int32 → Int64 → Int64 → Int64
  | 0, _, _, _ => 0
  | K9 + 1, i4, w2, w3 => if (128 : Int32) ≤ i4 then (if (lg_cmp w2 0) ≤ 0 then ((1 : Int64)) else (w2)) else (if (lg_cmp w3 0) ≤ 0 then (if (lg_cmp w2 0) ≤ 0 then ((1 : Int64)) else (w2)) else (let y9 : Int64 := w2 - w2 / w3 * w3; l_X6_greatestCommon_9  K9 (i4 + 1) w3 y9))
def e_X6_greatestCommon (u : uk_Mem) (a : Int64) (b : Int64) : Int64 := l_X6_greatestCommon_9  ee_K (0 : Int32) b a
abbrev qe_X6_greatestCommon (u : uk_Mem) (a : Int64) (b : Int64) (r : Option Value) (u' : uk_Mem) : Prop := (q_X6_greatestCommon u a b r u') ∧ (r = some (.long (e_X6_greatestCommon u a b)))
set_option maxHeartbeats 4000000 in
set_option maxRecDepth 20000 in
theorem x_X6_greatestCommon {G : uk_D} (hs : uk_Sep G) {u : uk_Mem} (hu : iv u) (a : Int64) (b : Int64) (d : Nat) : uk_Meth G d mX6_greatestCommon [.long a, .long b] u (qe_X6_greatestCommon u a b) := by
  refine uk_Meth.of hs (by decide) (Nat.le_of_ble_eq_true rfl) (fun X => ?_)
  refine g_lload_n dX6_greatestCommon_0 rfl ?_
  refine g_lstore dX6_greatestCommon_1 (by decide) ?_
  refine g_pick (lv' := [(0, .long a), (2, .long b), (4, .long b)]) [0, 1, 2] rfl ?_
  refine g_lload_n dX6_greatestCommon_3 rfl ?_
  refine g_lstore dX6_greatestCommon_4 (by decide) ?_
  refine g_pick (lv' := [(0, .long a), (2, .long b), (4, .long b), (6, .long a)]) [0, 1, 2, 3] rfl ?_
  refine g_iconst (v := 0) dX6_greatestCommon_6 (by decide) ?_
  refine g_istore dX6_greatestCommon_7 (by decide) ?_
  refine g_pick (lv' := [(0, .long a), (2, .long b), (4, .long b), (6, .long a), (8, .int 0)]) [0, 1, 2, 3, 4] rfl ?_
  have L9_0 : ∀ i4 : Int32, 0 ≤ i4 → i4 ≤ 128 → ∀ (w2 : Int64) (w3 : Int64), (∃ ki4 : Nat, ee_F 128 i4 ki4 ∧ e_X6_greatestCommon u a b = l_X6_greatestCommon_9  ki4 i4 w2 w3) → uk_G G X mX6_greatestCommon d (qe_X6_greatestCommon u a b) 9 [(0, .long a), (2, .long b), (4, .long w2), (6, .long w3), (8, .int i4)] [] u := by
    refine uk_upl 128 ?_
    intro i4 ai4 bi4 ihi4 w2 w3 jEi4
    obtain ⟨ki4, fki4, hki4⟩ := jEi4
    obtain ⟨ki4, rfl⟩ := ee_Fp (by first | assumption | lia | grind) fki4
    refine g_iload dX6_greatestCommon_9 rfl ?_
    refine g_sipush (v := 128) dX6_greatestCommon_11 (by decide) ?_
    refine g_icmp_ge (tgt := 45) dX6_greatestCommon_14 (by decide) (fun c5 => ?_) (fun c5 => ?_)
    · refine g_lload dX6_greatestCommon_45 rfl ?_
      refine g_lconst (v := 0) dX6_greatestCommon_47 (by decide) ?_
      refine g_lcmp dX6_greatestCommon_48 ?_
      refine g_if_le (tgt := 57) dX6_greatestCommon_49 (by decide) (fun c6 => ?_) (fun c6 => ?_)
      · refine g_lconst (v := 1) dX6_greatestCommon_57 (by decide) ?_
        exact g_lret dX6_greatestCommon_58 rfl ⟨⟨⟨_, rfl, by first | trivial | decide | exact uk_lg0 (by assumption) | grind⟩, rfl⟩, ee_pl (by exact hki4.trans ((if_pos c5).trans ((if_pos c6).trans (rfl))))⟩
      · refine g_lload dX6_greatestCommon_52 rfl ?_
        refine g_goto (tgt := 58) dX6_greatestCommon_54 (by decide) ?_
        exact g_lret dX6_greatestCommon_58 rfl ⟨⟨⟨_, rfl, by first | trivial | decide | exact uk_lg0 (by assumption) | grind⟩, rfl⟩, ee_pl (by exact hki4.trans ((if_pos c5).trans ((if_neg c6).trans (rfl))))⟩
    · refine g_lload dX6_greatestCommon_17 rfl ?_
      refine g_lconst (v := 0) dX6_greatestCommon_19 (by decide) ?_
      refine g_lcmp dX6_greatestCommon_20 ?_
      refine g_if_le (tgt := 45) dX6_greatestCommon_21 (by decide) (fun c7 => ?_) (fun c7 => ?_)
      · refine g_lload dX6_greatestCommon_45 rfl ?_
        refine g_lconst (v := 0) dX6_greatestCommon_47 (by decide) ?_
        refine g_lcmp dX6_greatestCommon_48 ?_
        refine g_if_le (tgt := 57) dX6_greatestCommon_49 (by decide) (fun c8 => ?_) (fun c8 => ?_)
        · refine g_lconst (v := 1) dX6_greatestCommon_57 (by decide) ?_
          exact g_lret dX6_greatestCommon_58 rfl ⟨⟨⟨_, rfl, by first | trivial | decide | exact uk_lg0 (by assumption) | grind⟩, rfl⟩, ee_pl (by exact hki4.trans ((if_neg c5).trans ((if_pos c7).trans ((if_pos c8).trans (rfl)))))⟩
        · refine g_lload dX6_greatestCommon_52 rfl ?_
          refine g_goto (tgt := 58) dX6_greatestCommon_54 (by decide) ?_
          exact g_lret dX6_greatestCommon_58 rfl ⟨⟨⟨_, rfl, by first | trivial | decide | exact uk_lg0 (by assumption) | grind⟩, rfl⟩, ee_pl (by exact hki4.trans ((if_neg c5).trans ((if_pos c7).trans ((if_neg c8).trans (rfl)))))⟩
      · refine g_lload dX6_greatestCommon_24 rfl ?_
        refine g_lload dX6_greatestCommon_26 rfl ?_
        refine g_lrem dX6_greatestCommon_28 (by first | decide | assumption | exact uk_lg0 (by assumption) | grind) ?_
        refine g_topl (fun y9 ey9 => ?_)
        refine g_lstore dX6_greatestCommon_29 (by decide) ?_
        refine g_pick (lv' := [(0, .long a), (2, .long b), (4, .long w2), (6, .long w3), (8, .int i4), (9, .long y9)]) [0, 1, 2, 3, 4, 5] rfl ?_
        refine g_lload dX6_greatestCommon_31 rfl ?_
        refine g_lstore dX6_greatestCommon_33 (by decide) ?_
        refine g_pick (lv' := [(0, .long a), (2, .long b), (4, .long w3), (6, .long w3), (8, .int i4), (9, .long y9)]) [0, 1, 2, 3, 4, 5] rfl ?_
        refine g_lload dX6_greatestCommon_35 rfl ?_
        refine g_lstore dX6_greatestCommon_37 (by decide) ?_
        refine g_pick (lv' := [(0, .long a), (2, .long b), (4, .long w3), (6, .long y9), (8, .int i4), (9, .long y9)]) [0, 1, 2, 3, 4, 5] rfl ?_
        refine g_iinc (v := i4 + 1) dX6_greatestCommon_39 rfl rfl (by decide) ?_
        refine g_pick (lv' := [(0, .long a), (2, .long b), (4, .long w3), (6, .long y9), (8, .int (i4 + 1)), (9, .long y9)]) [0, 1, 2, 3, 4, 5] rfl ?_
        refine g_goto (tgt := 9) dX6_greatestCommon_42 (by decide) ?_
        refine g_pick (lv' := [(0, .long a), (2, .long b), (4, .long w3), (6, .long y9), (8, .int (i4 + 1))]) [0, 1, 2, 3, 4] rfl ?_
        exact ihi4 (by first | lia | grind) w3 y9  ⟨ki4, ee_Fs fki4 (by first | assumption | lia | grind), by subst ey9; exact hki4.trans ((if_neg c5).trans ((if_neg c7).trans (rfl)))⟩
  refine g_pick (lv' := [(0, .long a), (2, .long b), (4, .long b), (6, .long a), (8, .int 0)]) [0, 1, 2, 3, 4] rfl ?_
  exact L9_0 0 (by first | decide | lia | grind) (by first | decide | lia | grind) b a  ⟨ee_K, ee_F0 _ _, by exact rfl⟩
def l_X6_scaledMean_3 (m : Int32) (x9 : Int32) (v : Int32) : Nat → Int32 → uk_Mem → Int64 × uk_Mem
  | 0, _, u3 => (0, u3)
  | K9 + 1, i2, u3 => if m < i2 then (let y6 : Int64 := u3.2 59 m.toNatClampNeg; (y6, u3)) else (let x10 : Int32 := (e_X0_isMade u3 13 i2); if x10 = 0 then (if i2 = x9 then (let u51 : uk_Mem := uk_upL u3 59 i2.toNatClampNeg (10000000 : Int64); l_X6_scaledMean_3 m x9 v K9 (i2 + 1) u51) else (let u48 : uk_Mem := uk_upL u3 59 i2.toNatClampNeg (0 : Int64); l_X6_scaledMean_3 m x9 v K9 (i2 + 1) u48)) else (let x13 : Int32 := u3.1 15 i2.toNatClampNeg; let y15 : Int64 := u3.2 59 x13.toNatClampNeg; let x17 : Int32 := u3.1 16 i2.toNatClampNeg; let y19 : Int64 := u3.2 59 x17.toNatClampNeg; let x21 : Int32 := u3.1 14 i2.toNatClampNeg; if x21 = 0 then (let y23 : Int64 := y15 + y19; let u26 : uk_Mem := uk_upL u3 59 i2.toNatClampNeg y23; l_X6_scaledMean_3 m x9 v K9 (i2 + 1) u26) else (if x21 = 1 then (let u30 : uk_Mem := uk_upL u3 59 i2.toNatClampNeg y15; l_X6_scaledMean_3 m x9 v K9 (i2 + 1) u30) else (if x21 = 2 then (let u34 : uk_Mem := uk_upL u3 59 i2.toNatClampNeg (0 : Int64); l_X6_scaledMean_3 m x9 v K9 (i2 + 1) u34) else (if x21 = 3 then (let y36 : Int64 := y19 * (v.toInt64); let y37 : Int64 := y36 / (10 : Int64); let y38 : Int64 := y15 + y37; let u41 : uk_Mem := uk_upL u3 59 i2.toNatClampNeg y38; l_X6_scaledMean_3 m x9 v K9 (i2 + 1) u41) else (let u44 : uk_Mem := uk_upL u3 59 i2.toNatClampNeg (0 : Int64); l_X6_scaledMean_3 m x9 v K9 (i2 + 1) u44))))))
def e_X6_scaledMean (u : uk_Mem) (v : Int32) (m : Int32) (x9 : Int32) : Int64 × uk_Mem := l_X6_scaledMean_3 m x9 v ee_K (0 : Int32) u
abbrev qe_X6_scaledMean (u : uk_Mem) (v : Int32) (m : Int32) (x9 : Int32) (r : Option Value) (u' : uk_Mem) : Prop := (q_X6_scaledMean u v m x9 r u') ∧ (r = some (.long (e_X6_scaledMean u v m x9).1) ∧ u' = (e_X6_scaledMean u v m x9).2)
set_option maxHeartbeats 4000000 in
set_option maxRecDepth 20000 in
theorem x_X6_scaledMean {G : uk_D} (hs : uk_Sep G) {u : uk_Mem} (hu : iv u) (v : Int32) (m : Int32) (x9 : Int32) (p0 : 0 ≤ m) (p1 : m ≤ 7) (d : Nat) : uk_Meth G (d + 1) mX6_scaledMean [.ref (uk_ad G 0), .int v, .int m, .int x9] u (qe_X6_scaledMean u v m x9) := by
  refine uk_Meth.of hs (by decide) (Nat.le_of_ble_eq_true rfl) (fun X => ?_)
  have f0 : fr 59 60 u u := fr_rf
  refine g_iconst (v := 0) dX6_scaledMean_0 (by decide) ?_
  refine g_istore dX6_scaledMean_1 (by decide) ?_
  refine g_pick (lv' := [(0, .ref (uk_ad G 0)), (1, .int v), (2, .int m), (3, .int x9), (4, .int 0)]) [0, 1, 2, 3, 4] rfl ?_
  have L3_0 : ∀ i2 : Int32, 0 ≤ i2 → i2 ≤ 8 → ∀ (u3 : uk_Mem), iv u3 → fr 59 60 u u3 → (∃ ki2 : Nat, ee_F 8 i2 ki2 ∧ e_X6_scaledMean u v m x9 = l_X6_scaledMean_3 m x9 v ki2 i2 u3) → uk_G G X mX6_scaledMean (d + 1) (qe_X6_scaledMean u v m x9) 3 [(0, .ref (uk_ad G 0)), (1, .int v), (2, .int m), (3, .int x9), (4, .int i2)] [] u3 := by
    refine uk_upl 8 ?_
    intro i2 ai2 bi2 ihi2  u3 hu3 fu3 jEi2
    obtain ⟨ki2, fki2, hki2⟩ := jEi2
    obtain ⟨ki2, rfl⟩ := ee_Fp (by first | assumption | lia | grind) fki2
    refine g_iload dX6_scaledMean_3 rfl ?_
    refine g_iload_n dX6_scaledMean_5 rfl ?_
    refine g_icmp_gt (tgt := 183) dX6_scaledMean_6 (by decide) (fun c4 => ?_) (fun c4 => ?_)
    · refine g_aload_n dX6_scaledMean_183 rfl ?_
      refine f_X6_73 rfl rfl dX6_scaledMean_184 ?_
      refine g_iload_n dX6_scaledMean_187 rfl ?_
      have v5 : vp_in m 8 := uk_vin 8 rfl (by first | decide | lia | grind) (by first | decide | lia | grind)
      refine g_lald rfl rfl v5 dX6_scaledMean_188 ?_
      refine g_topl (fun y6 ey6 => ?_)
      exact g_lret dX6_scaledMean_189 rfl ⟨⟨⟨_, rfl, by first | trivial | decide | exact uk_lg0 (by assumption) | grind⟩, hu3, fu3⟩, ee_j (by subst ey6; exact hki2.trans ((if_pos c4).trans (rfl)))⟩
    · refine g_aload_n dX6_scaledMean_9 rfl ?_
      refine f_X6_10 rfl rfl dX6_scaledMean_10 ?_
      refine g_iload dX6_scaledMean_13 rfl ?_
      refine cl_X6_122 (c := 13) (As := [.int i2]) rfl (x_X0_isMade (G := G) hs hu3 uk_isK13 i2 (by first | trivial | decide | lia | grind) (by first | trivial | decide | lia | grind) (d)) rfl (by omega) rfl rfl (Nat.le_of_ble_eq_true rfl) dX6_scaledMean_15 (fun r7 u8 q9 => ?_)
      obtain ⟨q9, Eq9⟩ := q9
      obtain ⟨⟨x10, rfl, tx10, nx10, zx10⟩, mq9⟩ := q9
      rw [mq9]
      have ex10 : x10 = (e_X0_isMade u3 13 i2) := ee_v Eq9
      refine g_if_ne (tgt := 44) dX6_scaledMean_18 (by decide) (fun c11 => ?_) (fun c11 => ?_)
      · have zc11 := nx10 c11
        refine g_aload_n dX6_scaledMean_44 rfl ?_
        refine f_X6_73 rfl rfl dX6_scaledMean_45 ?_
        refine g_aload_n dX6_scaledMean_48 rfl ?_
        refine f_X6_10 rfl rfl dX6_scaledMean_49 ?_
        refine f_X6_128 rfl rfl dX6_scaledMean_52 ?_
        refine g_iload dX6_scaledMean_55 rfl ?_
        have v12 : vp_in i2 8 := uk_vin 8 rfl (by first | decide | lia | grind) (by first | decide | lia | grind)
        refine g_iald rfl rfl v12 dX6_scaledMean_57 ?_
        refine g_topi (fun x13 ex13 => ?_)
        have bx13 := uk_cl v12
        have rx13 : 0 ≤ x13 ∧ x13 ≤ 7 := by rw [ex13]; exact iv_at hu3 _ _ (uk_pick1 _ (by omega))
        have v14 : vp_in x13 8 := uk_vin 8 rfl (by first | decide | lia | grind) (by first | decide | lia | grind)
        refine g_lald rfl rfl v14 dX6_scaledMean_58 ?_
        refine g_topl (fun y15 ey15 => ?_)
        refine g_lstore dX6_scaledMean_59 (by decide) ?_
        refine g_pick (lv' := [(0, .ref (uk_ad G 0)), (1, .int v), (2, .int m), (3, .int x9), (4, .int i2), (5, .long y15)]) [0, 1, 2, 3, 4, 5] rfl ?_
        refine g_aload_n dX6_scaledMean_61 rfl ?_
        refine f_X6_73 rfl rfl dX6_scaledMean_62 ?_
        refine g_aload_n dX6_scaledMean_65 rfl ?_
        refine f_X6_10 rfl rfl dX6_scaledMean_66 ?_
        refine f_X6_131 rfl rfl dX6_scaledMean_69 ?_
        refine g_iload dX6_scaledMean_72 rfl ?_
        have v16 : vp_in i2 8 := uk_vin 8 rfl (by first | decide | lia | grind) (by first | decide | lia | grind)
        refine g_iald rfl rfl v16 dX6_scaledMean_74 ?_
        refine g_topi (fun x17 ex17 => ?_)
        have bx17 := uk_cl v16
        have rx17 : 0 ≤ x17 ∧ x17 ≤ 7 := by rw [ex17]; exact iv_at hu3 _ _ (uk_pick1 _ (by omega))
        have v18 : vp_in x17 8 := uk_vin 8 rfl (by first | decide | lia | grind) (by first | decide | lia | grind)
        refine g_lald rfl rfl v18 dX6_scaledMean_75 ?_
        refine g_topl (fun y19 ey19 => ?_)
        refine g_lstore dX6_scaledMean_76 (by decide) ?_
        refine g_pick (lv' := [(0, .ref (uk_ad G 0)), (1, .int v), (2, .int m), (3, .int x9), (4, .int i2), (5, .long y15), (7, .long y19)]) [0, 1, 2, 3, 4, 5, 6] rfl ?_
        refine g_aload_n dX6_scaledMean_78 rfl ?_
        refine f_X6_10 rfl rfl dX6_scaledMean_79 ?_
        refine f_X6_125 rfl rfl dX6_scaledMean_82 ?_
        refine g_iload dX6_scaledMean_85 rfl ?_
        have v20 : vp_in i2 8 := uk_vin 8 rfl (by first | decide | lia | grind) (by first | decide | lia | grind)
        refine g_iald rfl rfl v20 dX6_scaledMean_87 ?_
        refine g_topi (fun x21 ex21 => ?_)
        by_cases c22 : x21 = 0
        · refine g_tabIn (off := (32)) (tgt := 120) dX6_scaledMean_88 (by rw [c22]; decide) (by rw [c22]; decide) (by rw [c22]; rfl) (by decide) ?_
          refine g_aload_n dX6_scaledMean_120 rfl ?_
          refine f_X6_73 rfl rfl dX6_scaledMean_121 ?_
          refine g_iload dX6_scaledMean_124 rfl ?_
          refine g_lload dX6_scaledMean_126 rfl ?_
          refine g_lload dX6_scaledMean_128 rfl ?_
          refine g_ladd dX6_scaledMean_130 ?_
          refine g_topl (fun y23 ey23 => ?_)
          have v24 : vp_in i2 8 := uk_vin 8 rfl (by first | decide | lia | grind) (by first | decide | lia | grind)
          have b25 := uk_cl v24
          refine g_last rfl rfl v24 dX6_scaledMean_131 ?_
          refine g_mem (fun u26 eu26 => ?_)
          have hu26 : iv u26 := by rw [eu26]; exact iv_upL hu3
          have fu26 : fr 59 60 u u26 := by rw [eu26]; exact fr_upL fu3 (by omega) (by omega)
          refine g_goto (tgt := 177) dX6_scaledMean_132 (by decide) ?_
          refine g_iinc (v := i2 + 1) dX6_scaledMean_177 rfl rfl (by decide) ?_
          refine g_pick (lv' := [(0, .ref (uk_ad G 0)), (1, .int v), (2, .int m), (3, .int x9), (4, .int (i2 + 1)), (5, .long y15), (7, .long y19)]) [0, 1, 2, 3, 4, 5, 6] rfl ?_
          refine g_goto (tgt := 3) dX6_scaledMean_180 (by decide) ?_
          refine g_pick (lv' := [(0, .ref (uk_ad G 0)), (1, .int v), (2, .int m), (3, .int x9), (4, .int (i2 + 1))]) [0, 1, 2, 3, 4] rfl ?_
          exact ihi2 (by first | lia | grind)  u26 hu26 fu26  ⟨ki2, ee_Fs fki2 (by first | assumption | lia | grind), by subst eu26; subst ey23; subst ex21; subst ey19; subst ex17; subst ey15; subst ex13; subst ex10; exact hki2.trans ((if_neg c4).trans ((if_neg c11).trans ((if_pos c22).trans (rfl))))⟩
        by_cases c27 : x21 = 1
        · refine g_tabIn (off := (47)) (tgt := 135) dX6_scaledMean_88 (by rw [c27]; decide) (by rw [c27]; decide) (by rw [c27]; rfl) (by decide) ?_
          refine g_aload_n dX6_scaledMean_135 rfl ?_
          refine f_X6_73 rfl rfl dX6_scaledMean_136 ?_
          refine g_iload dX6_scaledMean_139 rfl ?_
          refine g_lload dX6_scaledMean_141 rfl ?_
          have v28 : vp_in i2 8 := uk_vin 8 rfl (by first | decide | lia | grind) (by first | decide | lia | grind)
          have b29 := uk_cl v28
          refine g_last rfl rfl v28 dX6_scaledMean_143 ?_
          refine g_mem (fun u30 eu30 => ?_)
          have hu30 : iv u30 := by rw [eu30]; exact iv_upL hu3
          have fu30 : fr 59 60 u u30 := by rw [eu30]; exact fr_upL fu3 (by omega) (by omega)
          refine g_goto (tgt := 177) dX6_scaledMean_144 (by decide) ?_
          refine g_iinc (v := i2 + 1) dX6_scaledMean_177 rfl rfl (by decide) ?_
          refine g_pick (lv' := [(0, .ref (uk_ad G 0)), (1, .int v), (2, .int m), (3, .int x9), (4, .int (i2 + 1)), (5, .long y15), (7, .long y19)]) [0, 1, 2, 3, 4, 5, 6] rfl ?_
          refine g_goto (tgt := 3) dX6_scaledMean_180 (by decide) ?_
          refine g_pick (lv' := [(0, .ref (uk_ad G 0)), (1, .int v), (2, .int m), (3, .int x9), (4, .int (i2 + 1))]) [0, 1, 2, 3, 4] rfl ?_
          exact ihi2 (by first | lia | grind)  u30 hu30 fu30  ⟨ki2, ee_Fs fki2 (by first | assumption | lia | grind), by subst eu30; subst ex21; subst ey19; subst ex17; subst ey15; subst ex13; subst ex10; exact hki2.trans ((if_neg c4).trans ((if_neg c11).trans ((if_neg c22).trans ((if_pos c27).trans (rfl)))))⟩
        by_cases c31 : x21 = 2
        · refine g_tabIn (off := (81)) (tgt := 169) dX6_scaledMean_88 (by rw [c31]; decide) (by rw [c31]; decide) (by rw [c31]; rfl) (by decide) ?_
          refine g_aload_n dX6_scaledMean_169 rfl ?_
          refine f_X6_73 rfl rfl dX6_scaledMean_170 ?_
          refine g_iload dX6_scaledMean_173 rfl ?_
          refine g_lconst (v := 0) dX6_scaledMean_175 (by decide) ?_
          have v32 : vp_in i2 8 := uk_vin 8 rfl (by first | decide | lia | grind) (by first | decide | lia | grind)
          have b33 := uk_cl v32
          refine g_last rfl rfl v32 dX6_scaledMean_176 ?_
          refine g_mem (fun u34 eu34 => ?_)
          have hu34 : iv u34 := by rw [eu34]; exact iv_upL hu3
          have fu34 : fr 59 60 u u34 := by rw [eu34]; exact fr_upL fu3 (by omega) (by omega)
          refine g_iinc (v := i2 + 1) dX6_scaledMean_177 rfl rfl (by decide) ?_
          refine g_pick (lv' := [(0, .ref (uk_ad G 0)), (1, .int v), (2, .int m), (3, .int x9), (4, .int (i2 + 1)), (5, .long y15), (7, .long y19)]) [0, 1, 2, 3, 4, 5, 6] rfl ?_
          refine g_goto (tgt := 3) dX6_scaledMean_180 (by decide) ?_
          refine g_pick (lv' := [(0, .ref (uk_ad G 0)), (1, .int v), (2, .int m), (3, .int x9), (4, .int (i2 + 1))]) [0, 1, 2, 3, 4] rfl ?_
          exact ihi2 (by first | lia | grind)  u34 hu34 fu34  ⟨ki2, ee_Fs fki2 (by first | assumption | lia | grind), by subst eu34; subst ex21; subst ey19; subst ex17; subst ey15; subst ex13; subst ex10; exact hki2.trans ((if_neg c4).trans ((if_neg c11).trans ((if_neg c22).trans ((if_neg c27).trans ((if_pos c31).trans (rfl))))))⟩
        by_cases c35 : x21 = 3
        · refine g_tabIn (off := (59)) (tgt := 147) dX6_scaledMean_88 (by rw [c35]; decide) (by rw [c35]; decide) (by rw [c35]; rfl) (by decide) ?_
          refine g_aload_n dX6_scaledMean_147 rfl ?_
          refine f_X6_73 rfl rfl dX6_scaledMean_148 ?_
          refine g_iload dX6_scaledMean_151 rfl ?_
          refine g_lload dX6_scaledMean_153 rfl ?_
          refine g_lload dX6_scaledMean_155 rfl ?_
          refine g_iload_n dX6_scaledMean_157 rfl ?_
          refine g_i2l dX6_scaledMean_158 ?_
          refine g_lmul dX6_scaledMean_159 ?_
          refine g_topl (fun y36 ey36 => ?_)
          refine g_ldc2 (v := 10) k_X6_288 dX6_scaledMean_160 ?_
          refine g_ldiv dX6_scaledMean_163 (by first | decide | assumption | exact uk_lg0 (by assumption) | grind) ?_
          refine g_topl (fun y37 ey37 => ?_)
          refine g_ladd dX6_scaledMean_164 ?_
          refine g_topl (fun y38 ey38 => ?_)
          have v39 : vp_in i2 8 := uk_vin 8 rfl (by first | decide | lia | grind) (by first | decide | lia | grind)
          have b40 := uk_cl v39
          refine g_last rfl rfl v39 dX6_scaledMean_165 ?_
          refine g_mem (fun u41 eu41 => ?_)
          have hu41 : iv u41 := by rw [eu41]; exact iv_upL hu3
          have fu41 : fr 59 60 u u41 := by rw [eu41]; exact fr_upL fu3 (by omega) (by omega)
          refine g_goto (tgt := 177) dX6_scaledMean_166 (by decide) ?_
          refine g_iinc (v := i2 + 1) dX6_scaledMean_177 rfl rfl (by decide) ?_
          refine g_pick (lv' := [(0, .ref (uk_ad G 0)), (1, .int v), (2, .int m), (3, .int x9), (4, .int (i2 + 1)), (5, .long y15), (7, .long y19)]) [0, 1, 2, 3, 4, 5, 6] rfl ?_
          refine g_goto (tgt := 3) dX6_scaledMean_180 (by decide) ?_
          refine g_pick (lv' := [(0, .ref (uk_ad G 0)), (1, .int v), (2, .int m), (3, .int x9), (4, .int (i2 + 1))]) [0, 1, 2, 3, 4] rfl ?_
          exact ihi2 (by first | lia | grind)  u41 hu41 fu41  ⟨ki2, ee_Fs fki2 (by first | assumption | lia | grind), by subst eu41; subst ey38; subst ey37; subst ey36; subst ex21; subst ey19; subst ex17; subst ey15; subst ex13; subst ex10; exact hki2.trans ((if_neg c4).trans ((if_neg c11).trans ((if_neg c22).trans ((if_neg c27).trans ((if_neg c31).trans ((if_pos c35).trans (rfl)))))))⟩
        refine g_tabOut (tgt := 169) dX6_scaledMean_88 (uk_swo 0 3 rfl rfl (by first | lia | grind)) (by decide) ?_
        refine g_aload_n dX6_scaledMean_169 rfl ?_
        refine f_X6_73 rfl rfl dX6_scaledMean_170 ?_
        refine g_iload dX6_scaledMean_173 rfl ?_
        refine g_lconst (v := 0) dX6_scaledMean_175 (by decide) ?_
        have v42 : vp_in i2 8 := uk_vin 8 rfl (by first | decide | lia | grind) (by first | decide | lia | grind)
        have b43 := uk_cl v42
        refine g_last rfl rfl v42 dX6_scaledMean_176 ?_
        refine g_mem (fun u44 eu44 => ?_)
        have hu44 : iv u44 := by rw [eu44]; exact iv_upL hu3
        have fu44 : fr 59 60 u u44 := by rw [eu44]; exact fr_upL fu3 (by omega) (by omega)
        refine g_iinc (v := i2 + 1) dX6_scaledMean_177 rfl rfl (by decide) ?_
        refine g_pick (lv' := [(0, .ref (uk_ad G 0)), (1, .int v), (2, .int m), (3, .int x9), (4, .int (i2 + 1)), (5, .long y15), (7, .long y19)]) [0, 1, 2, 3, 4, 5, 6] rfl ?_
        refine g_goto (tgt := 3) dX6_scaledMean_180 (by decide) ?_
        refine g_pick (lv' := [(0, .ref (uk_ad G 0)), (1, .int v), (2, .int m), (3, .int x9), (4, .int (i2 + 1))]) [0, 1, 2, 3, 4] rfl ?_
        exact ihi2 (by first | lia | grind)  u44 hu44 fu44  ⟨ki2, ee_Fs fki2 (by first | assumption | lia | grind), by subst eu44; subst ex21; subst ey19; subst ex17; subst ey15; subst ex13; subst ex10; exact hki2.trans ((if_neg c4).trans ((if_neg c11).trans ((if_neg c22).trans ((if_neg c27).trans ((if_neg c31).trans ((if_neg c35).trans (rfl)))))))⟩
      · have zc11 := zx10 c11
        refine g_aload_n dX6_scaledMean_21 rfl ?_
        refine f_X6_73 rfl rfl dX6_scaledMean_22 ?_
        refine g_iload dX6_scaledMean_25 rfl ?_
        refine g_iload dX6_scaledMean_27 rfl ?_
        refine g_iload_n dX6_scaledMean_29 rfl ?_
        refine g_icmp_ne (tgt := 39) dX6_scaledMean_30 (by decide) (fun c45 => ?_) (fun c45 => ?_)
        · refine g_lconst (v := 0) dX6_scaledMean_39 (by decide) ?_
          have v46 : vp_in i2 8 := uk_vin 8 rfl (by first | decide | lia | grind) (by first | decide | lia | grind)
          have b47 := uk_cl v46
          refine g_last rfl rfl v46 dX6_scaledMean_40 ?_
          refine g_mem (fun u48 eu48 => ?_)
          have hu48 : iv u48 := by rw [eu48]; exact iv_upL hu3
          have fu48 : fr 59 60 u u48 := by rw [eu48]; exact fr_upL fu3 (by omega) (by omega)
          refine g_goto (tgt := 177) dX6_scaledMean_41 (by decide) ?_
          refine g_iinc (v := i2 + 1) dX6_scaledMean_177 rfl rfl (by decide) ?_
          refine g_pick (lv' := [(0, .ref (uk_ad G 0)), (1, .int v), (2, .int m), (3, .int x9), (4, .int (i2 + 1))]) [0, 1, 2, 3, 4] rfl ?_
          refine g_goto (tgt := 3) dX6_scaledMean_180 (by decide) ?_
          refine g_pick (lv' := [(0, .ref (uk_ad G 0)), (1, .int v), (2, .int m), (3, .int x9), (4, .int (i2 + 1))]) [0, 1, 2, 3, 4] rfl ?_
          exact ihi2 (by first | lia | grind)  u48 hu48 fu48  ⟨ki2, ee_Fs fki2 (by first | assumption | lia | grind), by subst eu48; subst ex10; exact hki2.trans ((if_neg c4).trans ((if_pos c11).trans ((if_neg c45).trans (rfl))))⟩
        · refine g_ldc2 (v := 10000000) k_X6_202 dX6_scaledMean_33 ?_
          refine g_goto (tgt := 40) dX6_scaledMean_36 (by decide) ?_
          have v49 : vp_in i2 8 := uk_vin 8 rfl (by first | decide | lia | grind) (by first | decide | lia | grind)
          have b50 := uk_cl v49
          refine g_last rfl rfl v49 dX6_scaledMean_40 ?_
          refine g_mem (fun u51 eu51 => ?_)
          have hu51 : iv u51 := by rw [eu51]; exact iv_upL hu3
          have fu51 : fr 59 60 u u51 := by rw [eu51]; exact fr_upL fu3 (by omega) (by omega)
          refine g_goto (tgt := 177) dX6_scaledMean_41 (by decide) ?_
          refine g_iinc (v := i2 + 1) dX6_scaledMean_177 rfl rfl (by decide) ?_
          refine g_pick (lv' := [(0, .ref (uk_ad G 0)), (1, .int v), (2, .int m), (3, .int x9), (4, .int (i2 + 1))]) [0, 1, 2, 3, 4] rfl ?_
          refine g_goto (tgt := 3) dX6_scaledMean_180 (by decide) ?_
          refine g_pick (lv' := [(0, .ref (uk_ad G 0)), (1, .int v), (2, .int m), (3, .int x9), (4, .int (i2 + 1))]) [0, 1, 2, 3, 4] rfl ?_
          exact ihi2 (by first | lia | grind)  u51 hu51 fu51  ⟨ki2, ee_Fs fki2 (by first | assumption | lia | grind), by subst eu51; subst ex10; exact hki2.trans ((if_neg c4).trans ((if_pos c11).trans ((if_pos c45).trans (rfl))))⟩
  refine g_pick (lv' := [(0, .ref (uk_ad G 0)), (1, .int v), (2, .int m), (3, .int x9), (4, .int 0)]) [0, 1, 2, 3, 4] rfl ?_
  exact L3_0 0 (by first | decide | lia | grind) (by first | decide | lia | grind)  u hu f0  ⟨ee_K, ee_F0 _ _, by exact rfl⟩
def e_X6_mean (u : uk_Mem) (v : Int32) (m : Int32) (b : Int32) (w : Int32) : Int64 × uk_Mem := if v < 0 then (((-1 : Int64), u)) else (if (10 : Int32) < v then (((-1 : Int64), u)) else (let x6 : Int32 := (e_X0_hasStuff u 13 m); if x6 = 0 then (((-1 : Int64), u)) else (let x11 : Int32 := (e_X0_hasStuff u 13 b); if x11 = 0 then (((-1 : Int64), u)) else (let x16 : Int32 := (e_X6_isFlag u w); if x16 = 0 then (((-1 : Int64), u)) else (let x21 : Int32 := (e_X0_isMade u 13 b); if x21 = 0 then (let x26 : Int64 := (e_X6_scaledMean u v m b).1; let u24 : uk_Mem := (e_X6_scaledMean u v m b).2; let x30 : Int64 := (e_X6_greatestCommon u24 x26 (10000000 : Int64)); if w = 0 then (let y33 : Int64 := x26 / x30; (y33, u24)) else (let y32 : Int64 := (10000000 : Int64) / x30; (y32, u24))) else (((-2 : Int64), u)))))))
abbrev qe_X6_mean (u : uk_Mem) (v : Int32) (m : Int32) (b : Int32) (w : Int32) (r : Option Value) (u' : uk_Mem) : Prop := (q_X6_mean u v m b w r u') ∧ (r = some (.long (e_X6_mean u v m b w).1) ∧ u' = (e_X6_mean u v m b w).2)
set_option maxHeartbeats 4000000 in
set_option maxRecDepth 20000 in
theorem x_X6_mean {G : uk_D} (hs : uk_Sep G) {u : uk_Mem} (hu : iv u) (v : Int32) (m : Int32) (b : Int32) (w : Int32) (d : Nat) : uk_Meth G (d + 2) mX6_mean [.ref (uk_ad G 0), .int v, .int m, .int b, .int w] u (qe_X6_mean u v m b w) := by
  refine uk_Meth.of hs (by decide) (Nat.le_of_ble_eq_true rfl) (fun X => ?_)
  have f0 : fr 59 60 u u := fr_rf
  refine g_iload_n dX6_mean_0 rfl ?_
  refine g_if_lt (tgt := 40) dX6_mean_1 (by decide) (fun c1 => ?_) (fun c1 => ?_)
  · refine g_ldc2 (v := (-1)) k_X6_194 dX6_mean_40 ?_
    exact g_lret dX6_mean_43 rfl ⟨⟨⟨_, rfl, by first | trivial | decide | exact uk_lg0 (by assumption) | grind⟩, hu, f0⟩, ee_j (by exact (if_pos c1).trans (rfl))⟩
  · refine g_iload_n dX6_mean_4 rfl ?_
    refine g_bipush (v := 10) dX6_mean_5 (by decide) ?_
    refine g_icmp_gt (tgt := 40) dX6_mean_7 (by decide) (fun c2 => ?_) (fun c2 => ?_)
    · refine g_ldc2 (v := (-1)) k_X6_194 dX6_mean_40 ?_
      exact g_lret dX6_mean_43 rfl ⟨⟨⟨_, rfl, by first | trivial | decide | exact uk_lg0 (by assumption) | grind⟩, hu, f0⟩, ee_j (by exact (if_neg c1).trans ((if_pos c2).trans (rfl)))⟩
    · refine g_aload_n dX6_mean_10 rfl ?_
      refine f_X6_10 rfl rfl dX6_mean_11 ?_
      refine g_iload_n dX6_mean_14 rfl ?_
      refine cl_X6_118 (c := 13) (As := [.int m]) rfl (x_X0_hasStuff (G := G) hs hu uk_isK13 m  (d + 1)) rfl (by omega) rfl rfl (Nat.le_of_ble_eq_true rfl) dX6_mean_15 (fun r3 u4 q5 => ?_)
      obtain ⟨q5, Eq5⟩ := q5
      obtain ⟨⟨x6, rfl, tx6, nx6, zx6⟩, mq5⟩ := q5
      rw [mq5]
      have ex6 : x6 = (e_X0_hasStuff u 13 m) := ee_v Eq5
      refine g_if_eq (tgt := 40) dX6_mean_18 (by decide) (fun c7 => ?_) (fun c7 => ?_)
      · have zc7 := zx6 c7
        refine g_ldc2 (v := (-1)) k_X6_194 dX6_mean_40 ?_
        exact g_lret dX6_mean_43 rfl ⟨⟨⟨_, rfl, by first | trivial | decide | exact uk_lg0 (by assumption) | grind⟩, hu, f0⟩, ee_j (by subst ex6; exact (if_neg c1).trans ((if_neg c2).trans ((if_pos c7).trans (rfl))))⟩
      · have zc7 := nx6 c7
        refine g_aload_n dX6_mean_21 rfl ?_
        refine f_X6_10 rfl rfl dX6_mean_22 ?_
        refine g_iload_n dX6_mean_25 rfl ?_
        refine cl_X6_118 (c := 13) (As := [.int b]) rfl (x_X0_hasStuff (G := G) hs hu uk_isK13 b  (d + 1)) rfl (by omega) rfl rfl (Nat.le_of_ble_eq_true rfl) dX6_mean_26 (fun r8 u9 q10 => ?_)
        obtain ⟨q10, Eq10⟩ := q10
        obtain ⟨⟨x11, rfl, tx11, nx11, zx11⟩, mq10⟩ := q10
        rw [mq10]
        have ex11 : x11 = (e_X0_hasStuff u 13 b) := ee_v Eq10
        refine g_if_eq (tgt := 40) dX6_mean_29 (by decide) (fun c12 => ?_) (fun c12 => ?_)
        · have zc12 := zx11 c12
          refine g_ldc2 (v := (-1)) k_X6_194 dX6_mean_40 ?_
          exact g_lret dX6_mean_43 rfl ⟨⟨⟨_, rfl, by first | trivial | decide | exact uk_lg0 (by assumption) | grind⟩, hu, f0⟩, ee_j (by subst ex11; subst ex6; exact (if_neg c1).trans ((if_neg c2).trans ((if_neg c7).trans ((if_pos c12).trans (rfl)))))⟩
        · have zc12 := nx11 c12
          refine g_iload dX6_mean_32 rfl ?_
          refine cl_X6_162 (As := [.int w]) rfl (x_X6_isFlag (G := G) hs hu  w  (d + 1)) rfl (by omega) rfl (Nat.le_of_ble_eq_true rfl) dX6_mean_34 (fun r13 u14 q15 => ?_)
          obtain ⟨q15, Eq15⟩ := q15
          obtain ⟨⟨x16, rfl, tx16, nx16, zx16⟩, mq15⟩ := q15
          rw [mq15]
          have ex16 : x16 = (e_X6_isFlag u w) := ee_v Eq15
          refine g_if_ne (tgt := 44) dX6_mean_37 (by decide) (fun c17 => ?_) (fun c17 => ?_)
          · have zc17 := nx16 c17
            refine g_aload_n dX6_mean_44 rfl ?_
            refine f_X6_10 rfl rfl dX6_mean_45 ?_
            refine g_iload_n dX6_mean_48 rfl ?_
            refine cl_X6_122 (c := 13) (As := [.int b]) rfl (x_X0_isMade (G := G) hs hu uk_isK13 b (by first | trivial | decide | lia | grind) (by first | trivial | decide | lia | grind) (d + 1)) rfl (by omega) rfl rfl (Nat.le_of_ble_eq_true rfl) dX6_mean_49 (fun r18 u19 q20 => ?_)
            obtain ⟨q20, Eq20⟩ := q20
            obtain ⟨⟨x21, rfl, tx21, nx21, zx21⟩, mq20⟩ := q20
            rw [mq20]
            have ex21 : x21 = (e_X0_isMade u 13 b) := ee_v Eq20
            refine g_if_eq (tgt := 59) dX6_mean_52 (by decide) (fun c22 => ?_) (fun c22 => ?_)
            · have zc22 := zx21 c22
              refine g_aload_n dX6_mean_59 rfl ?_
              refine g_iload_n dX6_mean_60 rfl ?_
              refine g_iload_n dX6_mean_61 rfl ?_
              refine g_iload_n dX6_mean_62 rfl ?_
              refine cl_X6_198 (c := 0) (As := [.int v, .int m, .int b]) rfl (x_X6_scaledMean (G := G) hs hu  v m b (by first | trivial | decide | lia | grind) (by first | trivial | decide | lia | grind) (d)) rfl (by omega) rfl rfl (Nat.le_of_ble_eq_true rfl) dX6_mean_63 (fun r23 u24 q25 => ?_)
              obtain ⟨q25, Eq25⟩ := q25
              obtain ⟨⟨x26, rfl, tx26⟩, mq25⟩ := q25
              obtain ⟨hu24, gu24⟩ := mq25
              have fu24 : fr 59 60 u u24 := fr_tr f0 gu24 (by omega) (by omega)
              have ex26 : x26 = (e_X6_scaledMean u v m b).1 := ee_vl Eq25.1
              have eu24 : u24 = (e_X6_scaledMean u v m b).2 := Eq25.2
              refine g_lstore dX6_mean_66 (by decide) ?_
              refine g_pick (lv' := [(0, .ref (uk_ad G 0)), (1, .int v), (2, .int m), (3, .int b), (4, .int w), (5, .long x26)]) [0, 1, 2, 3, 4, 5] rfl ?_
              refine g_lload dX6_mean_68 rfl ?_
              refine g_ldc2 (v := 10000000) k_X6_202 dX6_mean_70 ?_
              refine cl_X6_204 (As := [.long x26, .long 10000000]) rfl (x_X6_greatestCommon (G := G) hs hu24  x26 10000000  (d + 1)) rfl (by omega) rfl (Nat.le_of_ble_eq_true rfl) dX6_mean_73 (fun r27 u28 q29 => ?_)
              obtain ⟨q29, Eq29⟩ := q29
              obtain ⟨⟨x30, rfl, tx30⟩, mq29⟩ := q29
              rw [mq29]
              have ex30 : x30 = (e_X6_greatestCommon u24 x26 (10000000 : Int64)) := ee_vl Eq29
              refine g_lstore dX6_mean_76 (by decide) ?_
              refine g_pick (lv' := [(0, .ref (uk_ad G 0)), (1, .int v), (2, .int m), (3, .int b), (4, .int w), (5, .long x26), (7, .long x30)]) [0, 1, 2, 3, 4, 5, 6] rfl ?_
              refine g_iload dX6_mean_78 rfl ?_
              refine g_if_ne (tgt := 88) dX6_mean_80 (by decide) (fun c31 => ?_) (fun c31 => ?_)
              · refine g_ldc2 (v := 10000000) k_X6_202 dX6_mean_88 ?_
                refine g_lload dX6_mean_91 rfl ?_
                refine g_ldiv dX6_mean_93 (by first | decide | assumption | exact uk_lg0 (by assumption) | grind) ?_
                refine g_topl (fun y32 ey32 => ?_)
                exact g_lret dX6_mean_94 rfl ⟨⟨⟨_, rfl, by first | trivial | decide | exact uk_lg0 (by assumption) | grind⟩, hu24, fu24⟩, ee_j (by subst ey32; subst ex30; subst eu24; subst ex26; subst ex21; subst ex16; subst ex11; subst ex6; exact (if_neg c1).trans ((if_neg c2).trans ((if_neg c7).trans ((if_neg c12).trans ((if_neg c17).trans ((if_pos c22).trans ((if_neg c31).trans (rfl))))))))⟩
              · refine g_lload dX6_mean_83 rfl ?_
                refine g_goto (tgt := 91) dX6_mean_85 (by decide) ?_
                refine g_lload dX6_mean_91 rfl ?_
                refine g_ldiv dX6_mean_93 (by first | decide | assumption | exact uk_lg0 (by assumption) | grind) ?_
                refine g_topl (fun y33 ey33 => ?_)
                exact g_lret dX6_mean_94 rfl ⟨⟨⟨_, rfl, by first | trivial | decide | exact uk_lg0 (by assumption) | grind⟩, hu24, fu24⟩, ee_j (by subst ey33; subst ex30; subst eu24; subst ex26; subst ex21; subst ex16; subst ex11; subst ex6; exact (if_neg c1).trans ((if_neg c2).trans ((if_neg c7).trans ((if_neg c12).trans ((if_neg c17).trans ((if_pos c22).trans ((if_pos c31).trans (rfl))))))))⟩
            · have zc22 := nx21 c22
              refine g_ldc2 (v := (-2)) k_X6_196 dX6_mean_55 ?_
              exact g_lret dX6_mean_58 rfl ⟨⟨⟨_, rfl, by first | trivial | decide | exact uk_lg0 (by assumption) | grind⟩, hu, f0⟩, ee_j (by subst ex21; subst ex16; subst ex11; subst ex6; exact (if_neg c1).trans ((if_neg c2).trans ((if_neg c7).trans ((if_neg c12).trans ((if_neg c17).trans ((if_neg c22).trans (rfl)))))))⟩
          · have zc17 := zx16 c17
            refine g_ldc2 (v := (-1)) k_X6_194 dX6_mean_40 ?_
            exact g_lret dX6_mean_43 rfl ⟨⟨⟨_, rfl, by first | trivial | decide | exact uk_lg0 (by assumption) | grind⟩, hu, f0⟩, ee_j (by subst ex16; subst ex11; subst ex6; exact (if_neg c1).trans ((if_neg c2).trans ((if_neg c7).trans ((if_neg c12).trans ((if_pos c17).trans (rfl))))))⟩
def l_com : Nat → Int64 → Int64 → Int64
  | 0, x, _ => x
  | K + 1, x, y => if y = 0 then x else l_com K y (x - x / y * y)
def e_X7_common (u : uk_Mem) (a b : Int64) : Int64 := l_com (b.toInt.natAbs + 1) a b
abbrev qe_X7_common (u : uk_Mem) (a b : Int64) (r : Option Value) (u' : uk_Mem) : Prop := (q_X7_common u a b r u') ∧ (r = some (.long (e_X7_common u a b)))
theorem x_X7_common {G : uk_D} (hs : uk_Sep G) {u : uk_Mem} (hu : iv u) (a : Int64) (b : Int64) (p0 : ¬ a = 0) (d : Nat) : uk_Meth G d mX7_common [.long a, .long b] u (qe_X7_common u a b) := by
  refine uk_Meth.of hs (by decide) (Nat.le_of_ble_eq_true rfl) (fun X => ?_)
  refine g_lload_n dX7_common_0 rfl ?_
  refine g_lstore dX7_common_1 (by decide) ?_
  refine g_lload_n dX7_common_3 rfl ?_
  refine g_lstore dX7_common_4 (by decide) ?_
  have key : ∀ (n : Nat) (x y : Int64) (K : Nat), y.toInt.natAbs = n → (¬ x = 0 ∨ ¬ y = 0) → n < K → l_com K x y = e_X7_common u a b → uk_G G X mX7_common d (qe_X7_common u a b) 6 [(0, .long a), (2, .long b), (4, .long x), (6, .long y)] [] u := by
    intro n
    induction n using Nat.strongRecOn with
    | _ n ih =>
      intro x y K hy hxy hK he
      obtain ⟨K', rfl⟩ : ∃ K', K = K' + 1 := ⟨K - 1, by omega⟩
      rw [l_com] at he
      refine g_lload dX7_common_6 rfl ?_
      refine g_lconst (v := 0) dX7_common_8 (by decide) ?_
      refine g_lcmp dX7_common_9 ?_
      refine g_if_eq (tgt := 31) dX7_common_10 (by decide) (fun c => ?_) (fun c => ?_)
      · rw [lg_cmp_eq] at c
        rw [if_pos c] at he
        refine g_lload dX7_common_31 rfl ?_
        exact g_lret dX7_common_33 rfl ⟨⟨⟨_, rfl, hxy.resolve_right (fun q => q c)⟩, rfl⟩, by rw [he]⟩
      · rw [lg_cmp_eq] at c
        rw [if_neg c] at he
        refine g_lload dX7_common_13 rfl ?_
        refine g_lload dX7_common_15 rfl ?_
        refine g_lrem dX7_common_17 c ?_
        refine g_topl (fun z ez => ?_)
        refine g_lstore dX7_common_18 (by decide) ?_
        refine g_lload dX7_common_20 rfl ?_
        refine g_lstore dX7_common_22 (by decide) ?_
        refine g_lload dX7_common_24 rfl ?_
        refine g_lstore dX7_common_26 (by decide) ?_
        refine g_goto (tgt := 6) dX7_common_28 (by decide) ?_
        refine g_pick (lv' := [(0, .long a), (2, .long b), (4, .long y), (6, .long z)]) [0, 1, 2, 3] rfl ?_
        have hz := lg_rem_lt ez c
        exact ih _ (by omega) y z K' rfl (Or.inl c) (by omega) (by rw [ez]; exact he)
  exact key _ a b (b.toInt.natAbs + 1) rfl (Or.inl p0) (by omega) rfl

def l_X7_mean_60 (m : Int32) (w : Int32) (b : Int32) (v : Int32) : Nat → Int32 → uk_Mem → Int64 × uk_Mem
  | 0, _, u28 => (0, u28)
  | K9 + 1, i27, u28 => if m < i27 then (let y31 : Int64 := u28.2 72 m.toNatClampNeg; let x35 : Int64 := (e_X7_common u28 (100000000 : Int64) y31); if w = 0 then (let y39 : Int64 := u28.2 72 m.toNatClampNeg; let y40 : Int64 := y39 / x35; (y40, u28)) else (let y37 : Int64 := (100000000 : Int64) / x35; (y37, u28))) else (let x41 : Int32 := (32 : Int32) + i27; let x43 : Int32 := u28.1 61 x41.toNatClampNeg; if x43 = (4 : Int32) then (if i27 = b then (let u99 : uk_Mem := uk_upL u28 72 i27.toNatClampNeg (100000000 : Int64); l_X7_mean_60 m w b v K9 (i27 + 1) u99) else (let u96 : uk_Mem := uk_upL u28 72 i27.toNatClampNeg (0 : Int64); l_X7_mean_60 m w b v K9 (i27 + 1) u96)) else (if x43 = 0 then (let x78 : Int32 := u28.1 65 i27.toNatClampNeg; let y80 : Int64 := u28.2 72 x78.toNatClampNeg; if x43 = (2 : Int32) then (let u92 : uk_Mem := uk_upL u28 72 i27.toNatClampNeg (0 : Int64); l_X7_mean_60 m w b v K9 (i27 + 1) u92) else (let x83 : Int32 := u28.1 64 i27.toNatClampNeg; let y85 : Int64 := u28.2 72 x83.toNatClampNeg; let y86 : Int64 := y85 + y80; let u89 : uk_Mem := uk_upL u28 72 i27.toNatClampNeg y86; l_X7_mean_60 m w b v K9 (i27 + 1) u89)) else (if x43 = (3 : Int32) then (let x60 : Int32 := u28.1 65 i27.toNatClampNeg; let y62 : Int64 := u28.2 72 x60.toNatClampNeg; let y63 : Int64 := y62 / (10 : Int64); let y64 : Int64 := y63 * (v.toInt64); if x43 = (2 : Int32) then (let u76 : uk_Mem := uk_upL u28 72 i27.toNatClampNeg (0 : Int64); l_X7_mean_60 m w b v K9 (i27 + 1) u76) else (let x67 : Int32 := u28.1 64 i27.toNatClampNeg; let y69 : Int64 := u28.2 72 x67.toNatClampNeg; let y70 : Int64 := y69 + y64; let u73 : uk_Mem := uk_upL u28 72 i27.toNatClampNeg y70; l_X7_mean_60 m w b v K9 (i27 + 1) u73)) else (if x43 = (2 : Int32) then (let u58 : uk_Mem := uk_upL u28 72 i27.toNatClampNeg (0 : Int64); l_X7_mean_60 m w b v K9 (i27 + 1) u58) else (let x49 : Int32 := u28.1 64 i27.toNatClampNeg; let y51 : Int64 := u28.2 72 x49.toNatClampNeg; let y52 : Int64 := y51 + (0 : Int64); let u55 : uk_Mem := uk_upL u28 72 i27.toNatClampNeg y52; l_X7_mean_60 m w b v K9 (i27 + 1) u55)))))
def e_X7_mean (u : uk_Mem) (v : Int32) (m : Int32) (b : Int32) (w : Int32) : Int64 × uk_Mem := let x4 : Int32 := (e_X7_in u v (0 : Int32) (10 : Int32)); if x4 = 0 then (((-1 : Int64), u)) else (let x9 : Int32 := (e_X7_isStuff u m); if x9 = 0 then (((-1 : Int64), u)) else (let x14 : Int32 := (e_X7_isStuff u b); if x14 = 0 then (((-1 : Int64), u)) else (let x19 : Int32 := (e_X7_isPart u w); if x19 = 0 then (((-1 : Int64), u)) else (let x24 : Int32 := (e_X7_isRaw u b); if x24 = 0 then (((-2 : Int64), u)) else (l_X7_mean_60 m w b v ee_K (0 : Int32) u)))))
abbrev qe_X7_mean (u : uk_Mem) (v : Int32) (m : Int32) (b : Int32) (w : Int32) (r : Option Value) (u' : uk_Mem) : Prop := (q_X7_mean u v m b w r u') ∧ (r = some (.long (e_X7_mean u v m b w).1) ∧ u' = (e_X7_mean u v m b w).2)
set_option maxHeartbeats 4000000 in
set_option maxRecDepth 20000 in
theorem x_X7_mean {G : uk_D} (hs : uk_Sep G) {u : uk_Mem} (hu : iv u) (hri : ri u) (v : Int32) (m : Int32) (b : Int32) (w : Int32) (d : Nat) : uk_Meth G (d + 2) mX7_mean [.ref (uk_ad G 60), .int v, .int m, .int b, .int w] u (qe_X7_mean u v m b w) := by
  refine uk_Meth.of hs (by decide) (Nat.le_of_ble_eq_true rfl) (fun X => ?_)
  have f0 : fk [72] [] u u := fk_rf
  refine g_iload_n dX7_mean_0 rfl ?_
  refine g_i2l dX7_mean_1 ?_
  refine g_lconst (v := 0) dX7_mean_2 (by decide) ?_
  refine g_ldc2 (v := 10) k_X7_229 dX7_mean_3 ?_
  refine cl_X7_84 (As := [.long v.toInt64, .long 0, .long 10]) rfl (x_X7_in (G := G) hs hu  v 0 10  (d + 1)) rfl (by omega) rfl (Nat.le_of_ble_eq_true rfl) dX7_mean_6 (fun r1 u2 q3 => ?_)
  obtain ⟨q3, Eq3⟩ := q3
  obtain ⟨⟨x4, rfl, tx4, nx4, zx4⟩, mq3⟩ := q3
  rw [mq3]
  have ex4 : x4 = (e_X7_in u v (0 : Int32) (10 : Int32)) := ee_v Eq3
  refine g_if_eq (tgt := 36) dX7_mean_9 (by decide) (fun c5 => ?_) (fun c5 => ?_)
  · have zc5 := zx4 c5
    refine g_ldc2 (v := (-1)) k_X7_231 dX7_mean_36 ?_
    exact g_lret dX7_mean_39 rfl ⟨⟨⟨_, rfl, by first | trivial | decide | exact uk_lg0 (by assumption) | grind⟩, hu, f0, hri⟩, ee_j (by subst ex4; exact (if_pos c5).trans (rfl))⟩
  · have zc5 := nx4 c5
    refine g_aload_n dX7_mean_12 rfl ?_
    refine g_iload_n dX7_mean_13 rfl ?_
    refine cl_X7_163 (c := 60) (As := [.int m]) rfl (x_X7_isStuff (G := G) hs hu  m  (d)) rfl (by omega) rfl rfl (Nat.le_of_ble_eq_true rfl) dX7_mean_14 (fun r6 u7 q8 => ?_)
    obtain ⟨q8, Eq8⟩ := q8
    obtain ⟨⟨x9, rfl, tx9, nx9, zx9⟩, mq8⟩ := q8
    rw [mq8]
    have ex9 : x9 = (e_X7_isStuff u m) := ee_v Eq8
    refine g_if_eq (tgt := 36) dX7_mean_17 (by decide) (fun c10 => ?_) (fun c10 => ?_)
    · have zc10 := zx9 c10
      refine g_ldc2 (v := (-1)) k_X7_231 dX7_mean_36 ?_
      exact g_lret dX7_mean_39 rfl ⟨⟨⟨_, rfl, by first | trivial | decide | exact uk_lg0 (by assumption) | grind⟩, hu, f0, hri⟩, ee_j (by subst ex9; subst ex4; exact (if_neg c5).trans ((if_pos c10).trans (rfl)))⟩
    · have zc10 := nx9 c10
      refine g_aload_n dX7_mean_20 rfl ?_
      refine g_iload_n dX7_mean_21 rfl ?_
      refine cl_X7_163 (c := 60) (As := [.int b]) rfl (x_X7_isStuff (G := G) hs hu  b  (d)) rfl (by omega) rfl rfl (Nat.le_of_ble_eq_true rfl) dX7_mean_22 (fun r11 u12 q13 => ?_)
      obtain ⟨q13, Eq13⟩ := q13
      obtain ⟨⟨x14, rfl, tx14, nx14, zx14⟩, mq13⟩ := q13
      rw [mq13]
      have ex14 : x14 = (e_X7_isStuff u b) := ee_v Eq13
      refine g_if_eq (tgt := 36) dX7_mean_25 (by decide) (fun c15 => ?_) (fun c15 => ?_)
      · have zc15 := zx14 c15
        refine g_ldc2 (v := (-1)) k_X7_231 dX7_mean_36 ?_
        exact g_lret dX7_mean_39 rfl ⟨⟨⟨_, rfl, by first | trivial | decide | exact uk_lg0 (by assumption) | grind⟩, hu, f0, hri⟩, ee_j (by subst ex14; subst ex9; subst ex4; exact (if_neg c5).trans ((if_neg c10).trans ((if_pos c15).trans (rfl))))⟩
      · have zc15 := nx14 c15
        refine g_iload dX7_mean_28 rfl ?_
        refine cl_X7_197 (As := [.int w]) rfl (x_X7_isPart (G := G) hs hu  w  (d)) rfl (by omega) rfl (Nat.le_of_ble_eq_true rfl) dX7_mean_30 (fun r16 u17 q18 => ?_)
        obtain ⟨q18, Eq18⟩ := q18
        obtain ⟨⟨x19, rfl, tx19, nx19, zx19⟩, mq18⟩ := q18
        rw [mq18]
        have ex19 : x19 = (e_X7_isPart u w) := ee_v Eq18
        refine g_if_ne (tgt := 40) dX7_mean_33 (by decide) (fun c20 => ?_) (fun c20 => ?_)
        · have zc20 := nx19 c20
          refine g_aload_n dX7_mean_40 rfl ?_
          refine g_iload_n dX7_mean_41 rfl ?_
          refine cl_X7_166 (c := 60) (As := [.int b]) rfl (x_X7_isRaw (G := G) hs hu  b (by first | trivial | decide | lia | grind) (by first | trivial | decide | lia | grind) (d + 1)) rfl (by omega) rfl rfl (Nat.le_of_ble_eq_true rfl) dX7_mean_42 (fun r21 u22 q23 => ?_)
          obtain ⟨q23, Eq23⟩ := q23
          obtain ⟨⟨x24, rfl, tx24, nx24, zx24⟩, mq23⟩ := q23
          rw [mq23]
          have ex24 : x24 = (e_X7_isRaw u b) := ee_v Eq23
          refine g_if_ne (tgt := 52) dX7_mean_45 (by decide) (fun c25 => ?_) (fun c25 => ?_)
          · have zc25 := nx24 c25
            refine g_ldc2 (v := 100000000) k_X7_235 dX7_mean_52 ?_
            refine g_lstore dX7_mean_55 (by decide) ?_
            refine g_pick (lv' := [(0, .ref (uk_ad G 60)), (1, .int v), (2, .int m), (3, .int b), (4, .int w), (5, .long 100000000)]) [0, 1, 2, 3, 4, 5] rfl ?_
            refine g_iconst (v := 0) dX7_mean_57 (by decide) ?_
            refine g_istore dX7_mean_58 (by decide) ?_
            refine g_pick (lv' := [(0, .ref (uk_ad G 60)), (1, .int v), (2, .int m), (3, .int b), (4, .int w), (5, .long 100000000), (7, .int 0)]) [0, 1, 2, 3, 4, 5, 6] rfl ?_
            have L60_25 : ∀ i27 : Int32, 0 ≤ i27 → i27 ≤ 8 → ∀ (u28 : uk_Mem), iv u28 → fk [72] [] u u28 → ri u28 → (∃ ki27 : Nat, ee_F 8 i27 ki27 ∧ e_X7_mean u v m b w = l_X7_mean_60 m w b v ki27 i27 u28) → uk_G G X mX7_mean (d + 2) (qe_X7_mean u v m b w) 60 [(0, .ref (uk_ad G 60)), (1, .int v), (2, .int m), (3, .int b), (4, .int w), (5, .long 100000000), (7, .int i27)] [] u28 := by
              refine uk_upl 8 ?_
              intro i27 ai27 bi27 ihi27  u28 hu28 fu28 riu28 jEi27
              obtain ⟨ki27, fki27, hki27⟩ := jEi27
              obtain ⟨ki27, rfl⟩ := ee_Fp (by first | assumption | lia | grind) fki27
              have wu28_60_3 : u28.1 60 3 = u.1 60 3 := fk_at fu28 (by decide)
              refine g_iload dX7_mean_60 rfl ?_
              refine g_iload_n dX7_mean_62 rfl ?_
              refine g_icmp_gt (tgt := 195) dX7_mean_63 (by decide) (fun c29 => ?_) (fun c29 => ?_)
              · refine g_lload dX7_mean_195 rfl ?_
                refine g_aload_n dX7_mean_197 rfl ?_
                refine f_X7_44 rfl rfl dX7_mean_198 ?_
                refine g_iload_n dX7_mean_201 rfl ?_
                have v30 : vp_in m 8 := uk_vin 8 rfl (by first | decide | lia | grind) (by first | decide | lia | grind)
                refine g_lald rfl rfl v30 dX7_mean_202 ?_
                refine g_topl (fun y31 ey31 => ?_)
                refine cl_X7_237 (As := [.long 100000000, .long y31]) rfl (x_X7_common (G := G) hs hu28  100000000 y31 (by first | trivial | decide | lia | grind) (d + 1)) rfl (by omega) rfl (Nat.le_of_ble_eq_true rfl) dX7_mean_203 (fun r32 u33 q34 => ?_)
                obtain ⟨q34, Eq34⟩ := q34
                obtain ⟨⟨x35, rfl, tx35⟩, mq34⟩ := q34
                rw [mq34]
                have ex35 : x35 = (e_X7_common u28 (100000000 : Int64) y31) := ee_vl Eq34
                refine g_lstore dX7_mean_206 (by decide) ?_
                refine g_pick (lv' := [(0, .ref (uk_ad G 60)), (1, .int v), (2, .int m), (3, .int b), (4, .int w), (5, .long 100000000), (7, .long x35)]) [0, 1, 2, 3, 4, 5, 6] rfl ?_
                refine g_iload dX7_mean_208 rfl ?_
                refine g_if_ne (tgt := 225) dX7_mean_210 (by decide) (fun c36 => ?_) (fun c36 => ?_)
                · refine g_lload dX7_mean_225 rfl ?_
                  refine g_lload dX7_mean_227 rfl ?_
                  refine g_ldiv dX7_mean_229 (by first | decide | assumption | exact uk_lg0 (by assumption) | grind) ?_
                  refine g_topl (fun y37 ey37 => ?_)
                  exact g_lret dX7_mean_230 rfl ⟨⟨⟨_, rfl, by first | trivial | decide | exact uk_lg0 (by assumption) | grind⟩, hu28, fu28, riu28⟩, ee_j (by subst ey37; subst ex35; subst ey31; exact hki27.trans ((if_pos c29).trans ((if_neg c36).trans (rfl))))⟩
                · refine g_aload_n dX7_mean_213 rfl ?_
                  refine f_X7_44 rfl rfl dX7_mean_214 ?_
                  refine g_iload_n dX7_mean_217 rfl ?_
                  have v38 : vp_in m 8 := uk_vin 8 rfl (by first | decide | lia | grind) (by first | decide | lia | grind)
                  refine g_lald rfl rfl v38 dX7_mean_218 ?_
                  refine g_topl (fun y39 ey39 => ?_)
                  refine g_lload dX7_mean_219 rfl ?_
                  refine g_ldiv dX7_mean_221 (by first | decide | assumption | exact uk_lg0 (by assumption) | grind) ?_
                  refine g_topl (fun y40 ey40 => ?_)
                  refine g_goto (tgt := 230) dX7_mean_222 (by decide) ?_
                  exact g_lret dX7_mean_230 rfl ⟨⟨⟨_, rfl, by first | trivial | decide | exact uk_lg0 (by assumption) | grind⟩, hu28, fu28, riu28⟩, ee_j (by subst ey40; subst ey39; subst ex35; subst ey31; exact hki27.trans ((if_pos c29).trans ((if_pos c36).trans (rfl))))⟩
              · refine g_aload_n dX7_mean_66 rfl ?_
                refine f_X7_7 rfl rfl dX7_mean_67 ?_
                refine g_bipush (v := 32) dX7_mean_70 (by decide) ?_
                refine g_iload dX7_mean_72 rfl ?_
                refine g_iadd dX7_mean_74 ?_
                refine g_topi (fun x41 ex41 => ?_)
                have v42 : vp_in x41 153 := uk_vin 153 rfl (by first | decide | lia | grind) (by first | decide | lia | grind)
                refine g_iald rfl rfl v42 dX7_mean_75 ?_
                refine g_topi (fun x43 ex43 => ?_)
                have bx43 := uk_cl v42
                refine g_istore dX7_mean_76 (by decide) ?_
                refine g_pick (lv' := [(0, .ref (uk_ad G 60)), (1, .int v), (2, .int m), (3, .int b), (4, .int w), (5, .long 100000000), (7, .int i27), (8, .int x43)]) [0, 1, 2, 3, 4, 5, 6, 7] rfl ?_
                refine g_iload dX7_mean_78 rfl ?_
                refine g_iconst (v := 4) dX7_mean_80 (by decide) ?_
                refine g_icmp_ne (tgt := 106) dX7_mean_81 (by decide) (fun c44 => ?_) (fun c44 => ?_)
                · refine g_iload dX7_mean_106 rfl ?_
                  refine g_if_ne (tgt := 126) dX7_mean_108 (by decide) (fun c45 => ?_) (fun c45 => ?_)
                  · refine g_iload dX7_mean_126 rfl ?_
                    refine g_iconst (v := 3) dX7_mean_128 (by decide) ?_
                    refine g_icmp_ne (tgt := 154) dX7_mean_129 (by decide) (fun c46 => ?_) (fun c46 => ?_)
                    · refine g_lconst (v := 0) dX7_mean_154 (by decide) ?_
                      refine g_lstore dX7_mean_155 (by decide) ?_
                      refine g_pick (lv' := [(0, .ref (uk_ad G 60)), (1, .int v), (2, .int m), (3, .int b), (4, .int w), (5, .long 100000000), (7, .int i27), (8, .int x43), (9, .long 0)]) [0, 1, 2, 3, 4, 5, 6, 7, 8] rfl ?_
                      refine g_aload_n dX7_mean_157 rfl ?_
                      refine f_X7_44 rfl rfl dX7_mean_158 ?_
                      refine g_iload dX7_mean_161 rfl ?_
                      refine g_iload dX7_mean_163 rfl ?_
                      refine g_iconst (v := 2) dX7_mean_165 (by decide) ?_
                      refine g_icmp_ne (tgt := 173) dX7_mean_166 (by decide) (fun c47 => ?_) (fun c47 => ?_)
                      · refine g_aload_n dX7_mean_173 rfl ?_
                        refine f_X7_44 rfl rfl dX7_mean_174 ?_
                        refine g_aload_n dX7_mean_177 rfl ?_
                        refine f_X7_20 rfl rfl dX7_mean_178 ?_
                        refine g_iload dX7_mean_181 rfl ?_
                        have v48 : vp_in i27 8 := uk_vin 8 rfl (by first | decide | lia | grind) (by first | decide | lia | grind)
                        refine g_iald rfl rfl v48 dX7_mean_183 ?_
                        refine g_topi (fun x49 ex49 => ?_)
                        have bx49 := uk_cl v48
                        have rx49 : (-4) ≤ x49 ∧ x49 ≤ 7 := by rw [ex49]; exact iv_at hu28 _ _ (uk_pick1 _ (by omega))
                        have hqx49 := (riu28.1 i27 (by lia) (by rw [fk_at (c := 60) (i := 3) fu28 (by decide)]; first | lia | grind) (by lia)).resolve_left (by first | assumption | grind)
                        have hpx49 : 0 ≤ x49 ∧ x49 < i27 := by rw [ex49]; exact ⟨hqx49.1, hqx49.2.1⟩
                        have v50 : vp_in x49 8 := uk_vin 8 rfl (by first | decide | lia | grind) (by first | decide | lia | grind)
                        refine g_lald rfl rfl v50 dX7_mean_184 ?_
                        refine g_topl (fun y51 ey51 => ?_)
                        refine g_lload dX7_mean_185 rfl ?_
                        refine g_ladd dX7_mean_187 ?_
                        refine g_topl (fun y52 ey52 => ?_)
                        have v53 : vp_in i27 8 := uk_vin 8 rfl (by first | decide | lia | grind) (by first | decide | lia | grind)
                        have b54 := uk_cl v53
                        refine g_last rfl rfl v53 dX7_mean_188 ?_
                        refine g_mem (fun u55 eu55 => ?_)
                        have hu55 : iv u55 := by rw [eu55]; exact iv_upL hu28
                        have fu55 : fk [72] [] u u55 := by rw [eu55]; exact fk_upL fu28 (by decide)
                        have riu55 : ri u55 := by rw [eu55]; exact riu28
                        refine g_iinc (v := i27 + 1) dX7_mean_189 rfl rfl (by decide) ?_
                        refine g_pick (lv' := [(0, .ref (uk_ad G 60)), (1, .int v), (2, .int m), (3, .int b), (4, .int w), (5, .long 100000000), (7, .int (i27 + 1)), (8, .int x43), (9, .long 0)]) [0, 1, 2, 3, 4, 5, 6, 7, 8] rfl ?_
                        refine g_goto (tgt := 60) dX7_mean_192 (by decide) ?_
                        refine g_pick (lv' := [(0, .ref (uk_ad G 60)), (1, .int v), (2, .int m), (3, .int b), (4, .int w), (5, .long 100000000), (7, .int (i27 + 1))]) [0, 1, 2, 3, 4, 5, 6] rfl ?_
                        exact ihi27 (by first | lia | grind)  u55 hu55 fu55 riu55  ⟨ki27, ee_Fs fki27 (by first | assumption | lia | grind), by subst eu55; subst ey52; subst ey51; subst ex49; subst ex43; subst ex41; exact hki27.trans ((if_neg c29).trans ((if_neg c44).trans ((if_neg c45).trans ((if_neg c46).trans ((if_neg c47).trans (rfl))))))⟩
                      · refine g_lconst (v := 0) dX7_mean_169 (by decide) ?_
                        refine g_goto (tgt := 188) dX7_mean_170 (by decide) ?_
                        have v56 : vp_in i27 8 := uk_vin 8 rfl (by first | decide | lia | grind) (by first | decide | lia | grind)
                        have b57 := uk_cl v56
                        refine g_last rfl rfl v56 dX7_mean_188 ?_
                        refine g_mem (fun u58 eu58 => ?_)
                        have hu58 : iv u58 := by rw [eu58]; exact iv_upL hu28
                        have fu58 : fk [72] [] u u58 := by rw [eu58]; exact fk_upL fu28 (by decide)
                        have riu58 : ri u58 := by rw [eu58]; exact riu28
                        refine g_iinc (v := i27 + 1) dX7_mean_189 rfl rfl (by decide) ?_
                        refine g_pick (lv' := [(0, .ref (uk_ad G 60)), (1, .int v), (2, .int m), (3, .int b), (4, .int w), (5, .long 100000000), (7, .int (i27 + 1)), (8, .int x43), (9, .long 0)]) [0, 1, 2, 3, 4, 5, 6, 7, 8] rfl ?_
                        refine g_goto (tgt := 60) dX7_mean_192 (by decide) ?_
                        refine g_pick (lv' := [(0, .ref (uk_ad G 60)), (1, .int v), (2, .int m), (3, .int b), (4, .int w), (5, .long 100000000), (7, .int (i27 + 1))]) [0, 1, 2, 3, 4, 5, 6] rfl ?_
                        exact ihi27 (by first | lia | grind)  u58 hu58 fu58 riu58  ⟨ki27, ee_Fs fki27 (by first | assumption | lia | grind), by subst eu58; subst ex43; subst ex41; exact hki27.trans ((if_neg c29).trans ((if_neg c44).trans ((if_neg c45).trans ((if_neg c46).trans ((if_pos c47).trans (rfl))))))⟩
                    · refine g_aload_n dX7_mean_132 rfl ?_
                      refine f_X7_44 rfl rfl dX7_mean_133 ?_
                      refine g_aload_n dX7_mean_136 rfl ?_
                      refine f_X7_23 rfl rfl dX7_mean_137 ?_
                      refine g_iload dX7_mean_140 rfl ?_
                      have v59 : vp_in i27 8 := uk_vin 8 rfl (by first | decide | lia | grind) (by first | decide | lia | grind)
                      refine g_iald rfl rfl v59 dX7_mean_142 ?_
                      refine g_topi (fun x60 ex60 => ?_)
                      have bx60 := uk_cl v59
                      have rx60 : (-4) ≤ x60 ∧ x60 ≤ 7 := by rw [ex60]; exact iv_at hu28 _ _ (uk_pick1 _ (by omega))
                      have hqx60 := (riu28.1 i27 (by lia) (by rw [fk_at (c := 60) (i := 3) fu28 (by decide)]; first | lia | grind) (by lia)).resolve_left (by first | assumption | grind)
                      have hpx60 : 0 ≤ x60 ∧ x60 < i27 := by rw [ex60]; exact ⟨hqx60.2.2.1, hqx60.2.2.2⟩
                      have v61 : vp_in x60 8 := uk_vin 8 rfl (by first | decide | lia | grind) (by first | decide | lia | grind)
                      refine g_lald rfl rfl v61 dX7_mean_143 ?_
                      refine g_topl (fun y62 ey62 => ?_)
                      refine g_ldc2 (v := 10) k_X7_229 dX7_mean_144 ?_
                      refine g_ldiv dX7_mean_147 (by first | decide | assumption | exact uk_lg0 (by assumption) | grind) ?_
                      refine g_topl (fun y63 ey63 => ?_)
                      refine g_iload_n dX7_mean_148 rfl ?_
                      refine g_i2l dX7_mean_149 ?_
                      refine g_lmul dX7_mean_150 ?_
                      refine g_topl (fun y64 ey64 => ?_)
                      refine g_goto (tgt := 155) dX7_mean_151 (by decide) ?_
                      refine g_lstore dX7_mean_155 (by decide) ?_
                      refine g_pick (lv' := [(0, .ref (uk_ad G 60)), (1, .int v), (2, .int m), (3, .int b), (4, .int w), (5, .long 100000000), (7, .int i27), (8, .int x43), (9, .long y64)]) [0, 1, 2, 3, 4, 5, 6, 7, 8] rfl ?_
                      refine g_aload_n dX7_mean_157 rfl ?_
                      refine f_X7_44 rfl rfl dX7_mean_158 ?_
                      refine g_iload dX7_mean_161 rfl ?_
                      refine g_iload dX7_mean_163 rfl ?_
                      refine g_iconst (v := 2) dX7_mean_165 (by decide) ?_
                      refine g_icmp_ne (tgt := 173) dX7_mean_166 (by decide) (fun c65 => ?_) (fun c65 => ?_)
                      · refine g_aload_n dX7_mean_173 rfl ?_
                        refine f_X7_44 rfl rfl dX7_mean_174 ?_
                        refine g_aload_n dX7_mean_177 rfl ?_
                        refine f_X7_20 rfl rfl dX7_mean_178 ?_
                        refine g_iload dX7_mean_181 rfl ?_
                        have v66 : vp_in i27 8 := uk_vin 8 rfl (by first | decide | lia | grind) (by first | decide | lia | grind)
                        refine g_iald rfl rfl v66 dX7_mean_183 ?_
                        refine g_topi (fun x67 ex67 => ?_)
                        have bx67 := uk_cl v66
                        have rx67 : (-4) ≤ x67 ∧ x67 ≤ 7 := by rw [ex67]; exact iv_at hu28 _ _ (uk_pick1 _ (by omega))
                        have hqx67 := (riu28.1 i27 (by lia) (by rw [fk_at (c := 60) (i := 3) fu28 (by decide)]; first | lia | grind) (by lia)).resolve_left (by first | assumption | grind)
                        have hpx67 : 0 ≤ x67 ∧ x67 < i27 := by rw [ex67]; exact ⟨hqx67.1, hqx67.2.1⟩
                        have v68 : vp_in x67 8 := uk_vin 8 rfl (by first | decide | lia | grind) (by first | decide | lia | grind)
                        refine g_lald rfl rfl v68 dX7_mean_184 ?_
                        refine g_topl (fun y69 ey69 => ?_)
                        refine g_lload dX7_mean_185 rfl ?_
                        refine g_ladd dX7_mean_187 ?_
                        refine g_topl (fun y70 ey70 => ?_)
                        have v71 : vp_in i27 8 := uk_vin 8 rfl (by first | decide | lia | grind) (by first | decide | lia | grind)
                        have b72 := uk_cl v71
                        refine g_last rfl rfl v71 dX7_mean_188 ?_
                        refine g_mem (fun u73 eu73 => ?_)
                        have hu73 : iv u73 := by rw [eu73]; exact iv_upL hu28
                        have fu73 : fk [72] [] u u73 := by rw [eu73]; exact fk_upL fu28 (by decide)
                        have riu73 : ri u73 := by rw [eu73]; exact riu28
                        refine g_iinc (v := i27 + 1) dX7_mean_189 rfl rfl (by decide) ?_
                        refine g_pick (lv' := [(0, .ref (uk_ad G 60)), (1, .int v), (2, .int m), (3, .int b), (4, .int w), (5, .long 100000000), (7, .int (i27 + 1)), (8, .int x43), (9, .long y64)]) [0, 1, 2, 3, 4, 5, 6, 7, 8] rfl ?_
                        refine g_goto (tgt := 60) dX7_mean_192 (by decide) ?_
                        refine g_pick (lv' := [(0, .ref (uk_ad G 60)), (1, .int v), (2, .int m), (3, .int b), (4, .int w), (5, .long 100000000), (7, .int (i27 + 1))]) [0, 1, 2, 3, 4, 5, 6] rfl ?_
                        exact ihi27 (by first | lia | grind)  u73 hu73 fu73 riu73  ⟨ki27, ee_Fs fki27 (by first | assumption | lia | grind), by subst eu73; subst ey70; subst ey69; subst ex67; subst ey64; subst ey63; subst ey62; subst ex60; subst ex43; subst ex41; exact hki27.trans ((if_neg c29).trans ((if_neg c44).trans ((if_neg c45).trans ((if_pos c46).trans ((if_neg c65).trans (rfl))))))⟩
                      · refine g_lconst (v := 0) dX7_mean_169 (by decide) ?_
                        refine g_goto (tgt := 188) dX7_mean_170 (by decide) ?_
                        have v74 : vp_in i27 8 := uk_vin 8 rfl (by first | decide | lia | grind) (by first | decide | lia | grind)
                        have b75 := uk_cl v74
                        refine g_last rfl rfl v74 dX7_mean_188 ?_
                        refine g_mem (fun u76 eu76 => ?_)
                        have hu76 : iv u76 := by rw [eu76]; exact iv_upL hu28
                        have fu76 : fk [72] [] u u76 := by rw [eu76]; exact fk_upL fu28 (by decide)
                        have riu76 : ri u76 := by rw [eu76]; exact riu28
                        refine g_iinc (v := i27 + 1) dX7_mean_189 rfl rfl (by decide) ?_
                        refine g_pick (lv' := [(0, .ref (uk_ad G 60)), (1, .int v), (2, .int m), (3, .int b), (4, .int w), (5, .long 100000000), (7, .int (i27 + 1)), (8, .int x43), (9, .long y64)]) [0, 1, 2, 3, 4, 5, 6, 7, 8] rfl ?_
                        refine g_goto (tgt := 60) dX7_mean_192 (by decide) ?_
                        refine g_pick (lv' := [(0, .ref (uk_ad G 60)), (1, .int v), (2, .int m), (3, .int b), (4, .int w), (5, .long 100000000), (7, .int (i27 + 1))]) [0, 1, 2, 3, 4, 5, 6] rfl ?_
                        exact ihi27 (by first | lia | grind)  u76 hu76 fu76 riu76  ⟨ki27, ee_Fs fki27 (by first | assumption | lia | grind), by subst eu76; subst ey64; subst ey63; subst ey62; subst ex60; subst ex43; subst ex41; exact hki27.trans ((if_neg c29).trans ((if_neg c44).trans ((if_neg c45).trans ((if_pos c46).trans ((if_pos c65).trans (rfl))))))⟩
                  · refine g_aload_n dX7_mean_111 rfl ?_
                    refine f_X7_44 rfl rfl dX7_mean_112 ?_
                    refine g_aload_n dX7_mean_115 rfl ?_
                    refine f_X7_23 rfl rfl dX7_mean_116 ?_
                    refine g_iload dX7_mean_119 rfl ?_
                    have v77 : vp_in i27 8 := uk_vin 8 rfl (by first | decide | lia | grind) (by first | decide | lia | grind)
                    refine g_iald rfl rfl v77 dX7_mean_121 ?_
                    refine g_topi (fun x78 ex78 => ?_)
                    have bx78 := uk_cl v77
                    have rx78 : (-4) ≤ x78 ∧ x78 ≤ 7 := by rw [ex78]; exact iv_at hu28 _ _ (uk_pick1 _ (by omega))
                    have hqx78 := (riu28.1 i27 (by lia) (by rw [fk_at (c := 60) (i := 3) fu28 (by decide)]; first | lia | grind) (by lia)).resolve_left (by first | assumption | grind)
                    have hpx78 : 0 ≤ x78 ∧ x78 < i27 := by rw [ex78]; exact ⟨hqx78.2.2.1, hqx78.2.2.2⟩
                    have v79 : vp_in x78 8 := uk_vin 8 rfl (by first | decide | lia | grind) (by first | decide | lia | grind)
                    refine g_lald rfl rfl v79 dX7_mean_122 ?_
                    refine g_topl (fun y80 ey80 => ?_)
                    refine g_goto (tgt := 155) dX7_mean_123 (by decide) ?_
                    refine g_lstore dX7_mean_155 (by decide) ?_
                    refine g_pick (lv' := [(0, .ref (uk_ad G 60)), (1, .int v), (2, .int m), (3, .int b), (4, .int w), (5, .long 100000000), (7, .int i27), (8, .int x43), (9, .long y80)]) [0, 1, 2, 3, 4, 5, 6, 7, 8] rfl ?_
                    refine g_aload_n dX7_mean_157 rfl ?_
                    refine f_X7_44 rfl rfl dX7_mean_158 ?_
                    refine g_iload dX7_mean_161 rfl ?_
                    refine g_iload dX7_mean_163 rfl ?_
                    refine g_iconst (v := 2) dX7_mean_165 (by decide) ?_
                    refine g_icmp_ne (tgt := 173) dX7_mean_166 (by decide) (fun c81 => ?_) (fun c81 => ?_)
                    · refine g_aload_n dX7_mean_173 rfl ?_
                      refine f_X7_44 rfl rfl dX7_mean_174 ?_
                      refine g_aload_n dX7_mean_177 rfl ?_
                      refine f_X7_20 rfl rfl dX7_mean_178 ?_
                      refine g_iload dX7_mean_181 rfl ?_
                      have v82 : vp_in i27 8 := uk_vin 8 rfl (by first | decide | lia | grind) (by first | decide | lia | grind)
                      refine g_iald rfl rfl v82 dX7_mean_183 ?_
                      refine g_topi (fun x83 ex83 => ?_)
                      have bx83 := uk_cl v82
                      have rx83 : (-4) ≤ x83 ∧ x83 ≤ 7 := by rw [ex83]; exact iv_at hu28 _ _ (uk_pick1 _ (by omega))
                      have hqx83 := (riu28.1 i27 (by lia) (by rw [fk_at (c := 60) (i := 3) fu28 (by decide)]; first | lia | grind) (by lia)).resolve_left (by first | assumption | grind)
                      have hpx83 : 0 ≤ x83 ∧ x83 < i27 := by rw [ex83]; exact ⟨hqx83.1, hqx83.2.1⟩
                      have v84 : vp_in x83 8 := uk_vin 8 rfl (by first | decide | lia | grind) (by first | decide | lia | grind)
                      refine g_lald rfl rfl v84 dX7_mean_184 ?_
                      refine g_topl (fun y85 ey85 => ?_)
                      refine g_lload dX7_mean_185 rfl ?_
                      refine g_ladd dX7_mean_187 ?_
                      refine g_topl (fun y86 ey86 => ?_)
                      have v87 : vp_in i27 8 := uk_vin 8 rfl (by first | decide | lia | grind) (by first | decide | lia | grind)
                      have b88 := uk_cl v87
                      refine g_last rfl rfl v87 dX7_mean_188 ?_
                      refine g_mem (fun u89 eu89 => ?_)
                      have hu89 : iv u89 := by rw [eu89]; exact iv_upL hu28
                      have fu89 : fk [72] [] u u89 := by rw [eu89]; exact fk_upL fu28 (by decide)
                      have riu89 : ri u89 := by rw [eu89]; exact riu28
                      refine g_iinc (v := i27 + 1) dX7_mean_189 rfl rfl (by decide) ?_
                      refine g_pick (lv' := [(0, .ref (uk_ad G 60)), (1, .int v), (2, .int m), (3, .int b), (4, .int w), (5, .long 100000000), (7, .int (i27 + 1)), (8, .int x43), (9, .long y80)]) [0, 1, 2, 3, 4, 5, 6, 7, 8] rfl ?_
                      refine g_goto (tgt := 60) dX7_mean_192 (by decide) ?_
                      refine g_pick (lv' := [(0, .ref (uk_ad G 60)), (1, .int v), (2, .int m), (3, .int b), (4, .int w), (5, .long 100000000), (7, .int (i27 + 1))]) [0, 1, 2, 3, 4, 5, 6] rfl ?_
                      exact ihi27 (by first | lia | grind)  u89 hu89 fu89 riu89  ⟨ki27, ee_Fs fki27 (by first | assumption | lia | grind), by subst eu89; subst ey86; subst ey85; subst ex83; subst ey80; subst ex78; subst ex43; subst ex41; exact hki27.trans ((if_neg c29).trans ((if_neg c44).trans ((if_pos c45).trans ((if_neg c81).trans (rfl)))))⟩
                    · refine g_lconst (v := 0) dX7_mean_169 (by decide) ?_
                      refine g_goto (tgt := 188) dX7_mean_170 (by decide) ?_
                      have v90 : vp_in i27 8 := uk_vin 8 rfl (by first | decide | lia | grind) (by first | decide | lia | grind)
                      have b91 := uk_cl v90
                      refine g_last rfl rfl v90 dX7_mean_188 ?_
                      refine g_mem (fun u92 eu92 => ?_)
                      have hu92 : iv u92 := by rw [eu92]; exact iv_upL hu28
                      have fu92 : fk [72] [] u u92 := by rw [eu92]; exact fk_upL fu28 (by decide)
                      have riu92 : ri u92 := by rw [eu92]; exact riu28
                      refine g_iinc (v := i27 + 1) dX7_mean_189 rfl rfl (by decide) ?_
                      refine g_pick (lv' := [(0, .ref (uk_ad G 60)), (1, .int v), (2, .int m), (3, .int b), (4, .int w), (5, .long 100000000), (7, .int (i27 + 1)), (8, .int x43), (9, .long y80)]) [0, 1, 2, 3, 4, 5, 6, 7, 8] rfl ?_
                      refine g_goto (tgt := 60) dX7_mean_192 (by decide) ?_
                      refine g_pick (lv' := [(0, .ref (uk_ad G 60)), (1, .int v), (2, .int m), (3, .int b), (4, .int w), (5, .long 100000000), (7, .int (i27 + 1))]) [0, 1, 2, 3, 4, 5, 6] rfl ?_
                      exact ihi27 (by first | lia | grind)  u92 hu92 fu92 riu92  ⟨ki27, ee_Fs fki27 (by first | assumption | lia | grind), by subst eu92; subst ey80; subst ex78; subst ex43; subst ex41; exact hki27.trans ((if_neg c29).trans ((if_neg c44).trans ((if_pos c45).trans ((if_pos c81).trans (rfl)))))⟩
                · refine g_aload_n dX7_mean_84 rfl ?_
                  refine f_X7_44 rfl rfl dX7_mean_85 ?_
                  refine g_iload dX7_mean_88 rfl ?_
                  refine g_iload dX7_mean_90 rfl ?_
                  refine g_iload_n dX7_mean_92 rfl ?_
                  refine g_icmp_ne (tgt := 101) dX7_mean_93 (by decide) (fun c93 => ?_) (fun c93 => ?_)
                  · refine g_lconst (v := 0) dX7_mean_101 (by decide) ?_
                    have v94 : vp_in i27 8 := uk_vin 8 rfl (by first | decide | lia | grind) (by first | decide | lia | grind)
                    have b95 := uk_cl v94
                    refine g_last rfl rfl v94 dX7_mean_102 ?_
                    refine g_mem (fun u96 eu96 => ?_)
                    have hu96 : iv u96 := by rw [eu96]; exact iv_upL hu28
                    have fu96 : fk [72] [] u u96 := by rw [eu96]; exact fk_upL fu28 (by decide)
                    have riu96 : ri u96 := by rw [eu96]; exact riu28
                    refine g_goto (tgt := 189) dX7_mean_103 (by decide) ?_
                    refine g_iinc (v := i27 + 1) dX7_mean_189 rfl rfl (by decide) ?_
                    refine g_pick (lv' := [(0, .ref (uk_ad G 60)), (1, .int v), (2, .int m), (3, .int b), (4, .int w), (5, .long 100000000), (7, .int (i27 + 1)), (8, .int x43)]) [0, 1, 2, 3, 4, 5, 6, 7] rfl ?_
                    refine g_goto (tgt := 60) dX7_mean_192 (by decide) ?_
                    refine g_pick (lv' := [(0, .ref (uk_ad G 60)), (1, .int v), (2, .int m), (3, .int b), (4, .int w), (5, .long 100000000), (7, .int (i27 + 1))]) [0, 1, 2, 3, 4, 5, 6] rfl ?_
                    exact ihi27 (by first | lia | grind)  u96 hu96 fu96 riu96  ⟨ki27, ee_Fs fki27 (by first | assumption | lia | grind), by subst eu96; subst ex43; subst ex41; exact hki27.trans ((if_neg c29).trans ((if_pos c44).trans ((if_neg c93).trans (rfl))))⟩
                  · refine g_lload dX7_mean_96 rfl ?_
                    refine g_goto (tgt := 102) dX7_mean_98 (by decide) ?_
                    have v97 : vp_in i27 8 := uk_vin 8 rfl (by first | decide | lia | grind) (by first | decide | lia | grind)
                    have b98 := uk_cl v97
                    refine g_last rfl rfl v97 dX7_mean_102 ?_
                    refine g_mem (fun u99 eu99 => ?_)
                    have hu99 : iv u99 := by rw [eu99]; exact iv_upL hu28
                    have fu99 : fk [72] [] u u99 := by rw [eu99]; exact fk_upL fu28 (by decide)
                    have riu99 : ri u99 := by rw [eu99]; exact riu28
                    refine g_goto (tgt := 189) dX7_mean_103 (by decide) ?_
                    refine g_iinc (v := i27 + 1) dX7_mean_189 rfl rfl (by decide) ?_
                    refine g_pick (lv' := [(0, .ref (uk_ad G 60)), (1, .int v), (2, .int m), (3, .int b), (4, .int w), (5, .long 100000000), (7, .int (i27 + 1)), (8, .int x43)]) [0, 1, 2, 3, 4, 5, 6, 7] rfl ?_
                    refine g_goto (tgt := 60) dX7_mean_192 (by decide) ?_
                    refine g_pick (lv' := [(0, .ref (uk_ad G 60)), (1, .int v), (2, .int m), (3, .int b), (4, .int w), (5, .long 100000000), (7, .int (i27 + 1))]) [0, 1, 2, 3, 4, 5, 6] rfl ?_
                    exact ihi27 (by first | lia | grind)  u99 hu99 fu99 riu99  ⟨ki27, ee_Fs fki27 (by first | assumption | lia | grind), by subst eu99; subst ex43; subst ex41; exact hki27.trans ((if_neg c29).trans ((if_pos c44).trans ((if_pos c93).trans (rfl))))⟩
            refine g_pick (lv' := [(0, .ref (uk_ad G 60)), (1, .int v), (2, .int m), (3, .int b), (4, .int w), (5, .long 100000000), (7, .int 0)]) [0, 1, 2, 3, 4, 5, 6] rfl ?_
            exact L60_25 0 (by first | decide | lia | grind) (by first | decide | lia | grind)  u hu f0 hri  ⟨ee_K, ee_F0 _ _, by subst ex24; subst ex19; subst ex14; subst ex9; subst ex4; exact (if_neg c5).trans ((if_neg c10).trans ((if_neg c15).trans ((if_neg c20).trans ((if_neg c25).trans (rfl)))))⟩
          · have zc25 := zx24 c25
            refine g_ldc2 (v := (-2)) k_X7_233 dX7_mean_48 ?_
            exact g_lret dX7_mean_51 rfl ⟨⟨⟨_, rfl, by first | trivial | decide | exact uk_lg0 (by assumption) | grind⟩, hu, f0, hri⟩, ee_j (by subst ex24; subst ex19; subst ex14; subst ex9; subst ex4; exact (if_neg c5).trans ((if_neg c10).trans ((if_neg c15).trans ((if_neg c20).trans ((if_pos c25).trans (rfl))))))⟩
        · have zc20 := zx19 c20
          refine g_ldc2 (v := (-1)) k_X7_231 dX7_mean_36 ?_
          exact g_lret dX7_mean_39 rfl ⟨⟨⟨_, rfl, by first | trivial | decide | exact uk_lg0 (by assumption) | grind⟩, hu, f0, hri⟩, ee_j (by subst ex19; subst ex14; subst ex9; subst ex4; exact (if_neg c5).trans ((if_neg c10).trans ((if_neg c15).trans ((if_pos c20).trans (rfl)))))⟩
/-! mean: what both divide by -/
theorem rem64 {x y : Int64} (hx : 0 ≤ x.toInt) (hy : 0 < y.toInt) : (x - x / y * y).toInt = x.toInt % y.toInt := by
  have e : (x - x / y * y).toInt = (x.toInt.tmod y.toInt).bmod (2 ^ 64) := by
    rw [Int64.toInt_sub, Int64.toInt_mul, Int64.toInt_div, Int.bmod_mul_bmod, Int.sub_bmod_bmod, Int.tmod_def, Int.mul_comm y.toInt]
  have m1 : Int64.maxValue.toInt = 9223372036854775807 := rfl
  have l2 := Int64.toInt_le y
  have h1 := Int.emod_nonneg x.toInt (show ¬ y.toInt = 0 by omega)
  have h2 := Int.emod_lt_of_pos x.toInt hy
  rw [e, Int.tmod_eq_emod_of_nonneg hx, Int.bmod_eq_of_le (by omega) (by omega)]
theorem div64 {x y : Int64} (hx : 0 ≤ x.toInt) (hy : 0 < y.toInt) : (x / y).toInt = x.toInt / y.toInt := by
  have m1 : Int64.maxValue.toInt = 9223372036854775807 := rfl
  have l1 := Int64.toInt_le x
  have h1 : 0 ≤ x.toInt / y.toInt := Int.ediv_nonneg hx (by omega)
  have h2 : x.toInt / y.toInt ≤ x.toInt := Int.ediv_le_self _ hx
  rw [Int64.toInt_div, Int.tdiv_eq_ediv_of_nonneg hx, Int.bmod_eq_of_le (by omega) (by omega)]
def gcZ (a b : Int) : Int := (Nat.gcd a.toNat b.toNat : Nat)
theorem gcZ_0 {a : Int} (h : 0 ≤ a) : gcZ a 0 = a := by
  unfold gcZ
  rw [show (0 : Int).toNat = 0 from rfl, Nat.gcd_zero_right]
  omega
theorem gcZ_s {a b : Int} (ha : 0 ≤ a) (hb : 0 < b) : gcZ a b = gcZ b (a % b) := by
  unfold gcZ
  rw [Int.toNat_emod ha (by omega), Nat.gcd_comm b.toNat, ← Nat.gcd_rec, Nat.gcd_comm]
theorem com_l : ∀ (K : Nat) (x y : Int64), 0 ≤ x.toInt → 0 ≤ y.toInt → y.toInt.natAbs < K → (l_com K x y).toInt = gcZ x.toInt y.toInt := by
  intro K
  induction K with
  | zero => intro x y _ _ h; omega
  | succ K ih =>
    intro x y hx hy h
    rw [l_com]
    by_cases q : y = 0
    · rw [if_pos q, q, show (0 : Int64).toInt = 0 from rfl, gcZ_0 hx]
    · have hy0 : ¬ y.toInt = 0 := fun z => q (Int64.toInt_inj.mp z)
      have hy1 : 0 < y.toInt := by omega
      have r := rem64 hx hy1
      have h1 := Int.emod_nonneg x.toInt hy0
      have h2 := Int.emod_lt_of_pos x.toInt hy1
      rw [if_neg q, ih y _ hy (by omega) (by omega), r, gcZ_s hx hy1]
theorem common_e {u : uk_Mem} {a b : Int64} (ha : 0 ≤ a.toInt) (hb : 0 ≤ b.toInt) : (e_X7_common u a b).toInt = gcZ a.toInt b.toInt := com_l _ a b ha hb (by omega)
theorem half {h l : Int} (hl : 0 < l) (hh : l ≤ h) : 2 * (h % l) < h := by
  have h1 := Int.emod_nonneg h (show ¬ l = 0 by omega)
  have h2 := Int.emod_lt_of_pos h hl
  have h3 := Int.mul_ediv_add_emod h l
  have h4 : 1 ≤ h / l := by
    rw [Int.le_ediv_iff_mul_le hl]
    omega
  have h5 : l * 1 ≤ l * (h / l) := Int.mul_le_mul_of_nonneg_left h4 (by omega)
  omega
/-- the class goes 128 times at most: each time the product is halved -/
theorem gc_l : ∀ (K i : Nat) (h l : Int64), 128 < i + K → i ≤ 128 → 0 < h.toInt → 0 ≤ l.toInt → l.toInt ≤ h.toInt → h.toInt * l.toInt < 2 ^ (128 - i) → (l_X6_greatestCommon_9 K (nI i) h l).toInt = gcZ h.toInt l.toInt := by
  have z64 : (0 : Int64).toInt = 0 := rfl
  intro K
  induction K with
  | zero => intro i h l h1 h2; omega
  | succ K ih =>
    intro i h l h1 h2 hh hl hlh hp
    rw [l_X6_greatestCommon_9]
    dsimp only
    have hn : ¬ lg_cmp h 0 ≤ 0 := fun q => by
      have := Int64.le_iff_toInt_le.mp ((lg_cmp_le _ _).mp q)
      omega
    by_cases e : i = 128
    · have l0 : l.toInt = 0 := Classical.byContradiction fun q => by
        have h3 : 0 < h.toInt * l.toInt := Int.mul_pos hh (by omega)
        rw [e, show (128 - 128 : Nat) = 0 from rfl, Int.pow_zero] at hp
        omega
      rw [e, if_pos (show (128 : Int32) ≤ nI 128 from by decide), if_neg hn, l0, gcZ_0 (by omega)]
    · rw [if_neg (show ¬ (128 : Int32) ≤ nI i from nI_ge (b := 128) (by omega) (by omega))]
      by_cases q : lg_cmp l 0 ≤ 0
      · have l0 : l.toInt = 0 := by
          have := Int64.le_iff_toInt_le.mp ((lg_cmp_le _ _).mp q)
          omega
        rw [if_pos q, if_neg hn, l0, gcZ_0 (by omega)]
      · have l1 : 0 < l.toInt := Classical.byContradiction fun z => q ((lg_cmp_le _ _).mpr (Int64.le_iff_toInt_le.mpr (by omega)))
        have r := rem64 (x := h) (y := l) (by omega) l1
        have r1 := Int.emod_nonneg h.toInt (show ¬ l.toInt = 0 by omega)
        have r2 := Int.emod_lt_of_pos h.toInt l1
        have hf := half l1 hlh
        rw [if_neg q, nI_1, ih (i + 1) l _ (by omega) (by omega) l1 (by omega) (by omega) ?_, r, gcZ_s (by omega) l1]
        rw [r]
        have p1 : (2 : Int) ^ (128 - i) = 2 * 2 ^ (128 - (i + 1)) := by
          rw [show 128 - i = (128 - (i + 1)) + 1 by omega, Int.pow_succ, Int.mul_comm]
        rw [p1] at hp
        have p2 : l.toInt * (2 * (h.toInt % l.toInt)) ≤ l.toInt * h.toInt := Int.mul_le_mul_of_nonneg_left (by omega) (by omega)
        have p3 : l.toInt * (2 * (h.toInt % l.toInt)) = 2 * (l.toInt * (h.toInt % l.toInt)) := by rw [Int.mul_left_comm]
        have p4 : h.toInt * l.toInt = l.toInt * h.toInt := Int.mul_comm _ _
        omega
theorem gcZ_c {a b : Int} : gcZ a b = gcZ b a := by
  unfold gcZ
  rw [Nat.gcd_comm]
theorem great_e {u : uk_Mem} {a : Int64} (ha : 0 ≤ a.toInt) (ha2 : a.toInt ≤ 1280000000) : (e_X6_greatestCommon u a 10000000).toInt = gcZ a.toInt 10000000 := by
  have zb : (10000000 : Int64).toInt = 10000000 := rfl
  have b1 : (2 : Int) ^ (128 - 0) = 340282366920938463463374607431768211456 := by decide
  have b2 : (2 : Int) ^ (128 - 1) = 170141183460469231731687303715884105728 := by decide
  unfold e_X6_greatestCommon
  by_cases q : a.toInt ≤ 10000000
  · have := gc_l ee_K 0 10000000 a (by unfold ee_K; omega) (by omega) (by omega) ha (by omega) (by rw [b1, zb]; omega)
    rw [show (0 : Int32) = nI 0 from rfl, this, zb, gcZ_c]
  · have e1 : ee_K = 4294967295 + 1 := rfl
    have l1 : 0 < a.toInt := by omega
    have qn : ¬ lg_cmp a 0 ≤ 0 := fun z => by
      have := Int64.le_iff_toInt_le.mp ((lg_cmp_le _ _).mp z)
      have z64 : (0 : Int64).toInt = 0 := rfl
      omega
    have r := rem64 (x := 10000000) (y := a) (by omega) l1
    have rr : (10000000 : Int) % a.toInt = 10000000 := Int.emod_eq_of_lt (by omega) (by omega)
    rw [zb, rr] at r
    rw [e1, l_X6_greatestCommon_9]
    dsimp only
    rw [if_neg (show ¬ (128 : Int32) ≤ 0 from by decide), if_neg qn, show (0 : Int32) + 1 = nI 1 from rfl, gc_l 4294967295 1 a _ (by omega) (by omega) l1 (by omega) (by omega) (by rw [b2, r]; omega), r]
/-- ten times both, ten times what divides both -/
theorem gcZ_10 {a : Int} (h : 0 ≤ a) : gcZ 100000000 (10 * a) = 10 * gcZ a 10000000 := by
  unfold gcZ
  rw [show (100000000 : Int).toNat = 10 * 10000000 from rfl, show (10 * a).toNat = 10 * a.toNat by omega, Nat.gcd_mul_left, show (10000000 : Int).toNat = 10000000 from rfl, Nat.gcd_comm]
  omega
theorem gcZ_pos {a : Int} : 0 < gcZ a 10000000 := by
  unfold gcZ
  have : 0 < Nat.gcd a.toNat (10000000 : Int).toNat := Nat.gcd_pos_of_pos_right _ (by decide)
  omega
/-! the means: the reference's are ten times the class's -/
theorem nn2 {a : Int32} (h : 0 ≤ a) : a = nI a.toNatClampNeg := by
  obtain ⟨j, hj, rfl⟩ := nI_of (x := a) (by lia)
  rw [nI_clamp hj]
/-- what the kitchen says of its stuffs -/
def cB (k : Nat) : Int := 10000000 * 2 ^ k
def tp (k : Nat) : Int := 10 ^ (7 - k)
theorem cB_ab : ∀ k, k < 8 → ∀ a, a < k → ∀ b, b < k → cB a + cB b ≤ cB k := by decide
theorem cB_r : ∀ k, k < 8 → 10000000 ≤ cB k ∧ cB k ≤ 1280000000 := by decide
theorem tp_d : ∀ k, k < 8 → ∀ a, a < k → tp k * 10 ∣ tp a := by decide
theorem tp_e : ∀ k, k < 8 → tp k ∣ 10000000 := by decide
def MR (p : Nat) (u v : uk_Mem) : Prop := ∀ k, k < p → 0 ≤ (u.2 59 k).toInt ∧ (u.2 59 k).toInt ≤ cB k ∧ tp k ∣ (u.2 59 k).toInt ∧ (v.2 72 k).toInt = 10 * (u.2 59 k).toInt
theorem MR_up {p : Nat} {u v : uk_Mem} {X Y : Int64} (h : MR p u v) (h1 : 0 ≤ X.toInt) (h2 : X.toInt ≤ cB p) (h3 : tp p ∣ X.toInt) (h4 : Y.toInt = 10 * X.toInt) : MR (p + 1) (uk_upL u 59 p X) (uk_upL v 72 p Y) := fun k hk => by
  rw [uk_upL_at, uk_upL_at]
  by_cases e : k = p
  · rw [if_pos ⟨rfl, e⟩, if_pos ⟨rfl, e⟩, e]
    exact ⟨h1, h2, h3, h4⟩
  · rw [if_neg (fun z => e z.2), if_neg (fun z => e z.2)]
    exact h k (by omega)
theorem ad64 {x y : Int64} (x0 : 0 ≤ x.toInt) (x1 : x.toInt ≤ 1000000000000) (y0 : 0 ≤ y.toInt) (y1 : y.toInt ≤ 1000000000000) : (x + y).toInt = x.toInt + y.toInt := by
  rw [Int64.toInt_add]
  exact Int.bmod_eq_of_le (by omega) (by omega)
theorem ml64 {x y : Int64} (h0 : 0 ≤ x.toInt * y.toInt) (h1 : x.toInt * y.toInt ≤ 1000000000000) : (x * y).toInt = x.toInt * y.toInt := by
  rw [Int64.toInt_mul]
  exact Int.bmod_eq_of_le (by omega) (by omega)
abbrev fin7 (v : uk_Mem) (m w : Int32) : Int64 × uk_Mem := if w = 0 then (v.2 72 m.toNatClampNeg / e_X7_common v 100000000 (v.2 72 m.toNatClampNeg), v) else (100000000 / e_X7_common v 100000000 (v.2 72 m.toNatClampNeg), v)
theorem mean_l {u0 v0 : uk_Mem} (hv0 : iv v0) (hri : ri v0) (hK : KR u0 v0 13 61 0) (hP : PRo v0 61 0) {s m b w : Int32} (s0 : 0 ≤ s) (s10 : s ≤ 10) (m0 : 0 ≤ m) (hm : m < v0.1 60 3) : ∀ (K p : Nat) (u v : uk_Mem), m.toNatClampNeg + 1 < p + K → p ≤ m.toNatClampNeg + 1 → u.1 = u0.1 → v.1 = v0.1 → MR p u v → ∃ u' v' : uk_Mem, MR (m.toNatClampNeg + 1) u' v' ∧ u'.1 = u0.1 ∧ v'.1 = v0.1 ∧ l_X6_scaledMean_3 m b s K (nI p) u = (u'.2 59 m.toNatClampNeg, u') ∧ l_X7_mean_60 m w b s K (nI p) v = fin7 v' m w := by
  have hn : 0 ≤ v0.1 60 3 ∧ v0.1 60 3 ≤ 8 := iv_at hv0 60 3 rfl
  have lm := uk_cln 7 7 rfl m0 (by lia)
  have lmn := uk_cll m0 hm
  have sm : m = nI m.toNatClampNeg := nn2 m0
  have z32 : (0 : Int32).toInt = 0 := rfl
  have t32 : (10 : Int32).toInt = 10 := rfl
  have y0 := Int32.le_iff_toInt_le.mp s0
  have y1 := Int32.le_iff_toInt_le.mp s10
  have es : s.toInt64.toInt = s.toInt := Int32.toInt_toInt64 s
  have t64 : (10 : Int64).toInt = 10 := rfl
  intro K
  induction K with
  | zero => intro p u v h1 h2; omega
  | succ K ih =>
    intro p u v h1 h2 hu hv hM
    by_cases e : p = m.toNatClampNeg + 1
    · have lt : m < nI p := by
        rw [e]
        rw [sm]
        rw [nI_clamp (by omega)]
        exact nI_lt (by omega) (by omega)
      refine ⟨u, v, by rw [← e]; exact hM, hu, hv, ?_, ?_⟩
      · rw [l_X6_scaledMean_3, if_pos lt]
      · rw [l_X7_mean_60, if_pos lt]
    · have p7 : p ≤ 7 := by omega
      have nlt : ¬ m < nI p := by
        rw [sm]
        exact nI_nlt (by omega) (by omega)
      have i0 : 0 ≤ nI p := nI_pos' (by omega)
      have i7 : nI p ≤ 7 := nI_le (b := 7) (by omega) (by omega)
      have cp : (nI p).toNatClampNeg = p := nI_clamp (by omega)
      have kn : p < (v0.1 60 3).toNatClampNeg := by omega
      obtain ⟨j1, -, -, -, -, j6⟩ := hK.2.2.2.2.1 p kn
      have j1 : u0.1 14 p = v0.1 61 (p + 32) := by rw [show p + 32 = p + (0 + 32) by omega]; exact j1
      have c32 : ((32 : Int32) + nI p).toNatClampNeg = p + 32 := by rw [ix_32 i0 i7, cp]
      have kd := hP.1 p (by omega) kn
      rw [show p + (0 + 32) = p + 32 by omega] at kd
      have R : e_X0_isMade u 13 (nI p) = if v0.1 61 (p + 32) = 4 then 0 else 1 := by
        have q := raw_e (u := u) (v := v0) i0 i7 (by rw [cp, hu]; exact j1)
        have r7 : e_X7_isRaw v0 (nI p) = if v0.1 61 (p + 32) = 4 then 1 else 0 := by
          unfold e_X7_isRaw
          dsimp only
          rw [c32]
        rw [r7] at q
        by_cases r : v0.1 61 (p + 32) = 4
        · rw [if_pos r] at q ⊢
          rcases q with q | q
          · exact q.1
          · exact absurd q.2 one0
        · rw [if_neg r] at q ⊢
          rcases q with q | q
          · exact absurd q.2.symm one0
          · exact q.1
      have rB := cB_r p (by omega)
      have T : ∀ X Y : Int64, 0 ≤ X.toInt → X.toInt ≤ cB p → tp p ∣ X.toInt → Y.toInt = 10 * X.toInt → l_X6_scaledMean_3 m b s (K + 1) (nI p) u = l_X6_scaledMean_3 m b s K (nI (p + 1)) (uk_upL u 59 p X) → l_X7_mean_60 m w b s (K + 1) (nI p) v = l_X7_mean_60 m w b s K (nI (p + 1)) (uk_upL v 72 p Y) → ∃ u' v' : uk_Mem, MR (m.toNatClampNeg + 1) u' v' ∧ u'.1 = u0.1 ∧ v'.1 = v0.1 ∧ l_X6_scaledMean_3 m b s (K + 1) (nI p) u = (u'.2 59 m.toNatClampNeg, u') ∧ l_X7_mean_60 m w b s (K + 1) (nI p) v = fin7 v' m w := fun X Y x1 x2 x3 x4 e6 e7 => by
        obtain ⟨u', v', a1, a2, a3, a4, a5⟩ := ih (p + 1) (uk_upL u 59 p X) (uk_upL v 72 p Y) (by omega) (by omega) hu hv (MR_up hM x1 x2 x3 x4)
        exact ⟨u', v', a1, a2, a3, e6.trans a4, e7.trans a5⟩
      have d0 : tp p ∣ (0 : Int64).toInt := ⟨0, by rw [Int.mul_zero]; rfl⟩
      by_cases k4 : v0.1 61 (p + 32) = 4
      · by_cases eb : nI p = b
        · refine T 10000000 100000000 (by decide) (by rw [show (10000000 : Int64).toInt = 10000000 from rfl]; omega) (tp_e p (by omega)) (by decide) ?_ ?_
          · rw [l_X6_scaledMean_3, if_neg nlt]
            dsimp only
            rw [R, if_pos k4, if_pos rfl, if_pos eb, cp, nI_1]
          · rw [l_X7_mean_60, if_neg nlt]
            dsimp only
            rw [c32, hv, if_pos k4, if_pos eb, cp, nI_1]
        · refine T 0 0 (by decide) (by rw [show (0 : Int64).toInt = 0 from rfl]; omega) d0 (by decide) ?_ ?_
          · rw [l_X6_scaledMean_3, if_neg nlt]
            dsimp only
            rw [R, if_pos k4, if_pos rfl, if_neg eb, cp, nI_1]
          · rw [l_X7_mean_60, if_neg nlt]
            dsimp only
            rw [c32, hv, if_pos k4, if_neg eb, cp, nI_1]
      · have hr := hri.1 (nI p) i0 (by rw [show v0.1 60 3 = nI (v0.1 60 3).toNatClampNeg from nn2 hn.1]; exact nI_lt kn (by have := uk_cln 8 8 rfl hn.1 hn.2; omega)) i7
        rw [c32, cp] at hr
        obtain ⟨a0, a1, b0, b1⟩ := hr.resolve_left k4
        have la := uk_cll a0 a1
        have lb := uk_cll b0 b1
        rw [cp] at la lb
        obtain ⟨pA, pB⟩ := j6 (by rw [show p + (0 + 32) = p + 32 by omega]; exact k4)
        have pA : u0.1 15 p = v0.1 64 p := pA
        have pB : u0.1 16 p = v0.1 65 p := pB
        obtain ⟨f1, f2, f3, f4⟩ := hM (v0.1 64 p).toNatClampNeg la
        obtain ⟨g1, g2, g3, g4⟩ := hM (v0.1 65 p).toNatClampNeg lb
        have fr := cB_r (v0.1 64 p).toNatClampNeg (by omega)
        have gr := cB_r (v0.1 65 p).toNatClampNeg (by omega)
        have ab := cB_ab p (by omega) (v0.1 64 p).toNatClampNeg la (v0.1 65 p).toNatClampNeg lb
        obtain ⟨fa, fe⟩ := Int.dvd_trans (tp_d p (by omega) _ la) f3
        obtain ⟨ga, ge⟩ := Int.dvd_trans (tp_d p (by omega) _ lb) g3
        have U6 : l_X6_scaledMean_3 m b s (K + 1) (nI p) u = if v0.1 61 (p + 32) = 0 then l_X6_scaledMean_3 m b s K (nI (p + 1)) (uk_upL u 59 p (u.2 59 (v0.1 64 p).toNatClampNeg + u.2 59 (v0.1 65 p).toNatClampNeg)) else if v0.1 61 (p + 32) = 1 then l_X6_scaledMean_3 m b s K (nI (p + 1)) (uk_upL u 59 p (u.2 59 (v0.1 64 p).toNatClampNeg)) else if v0.1 61 (p + 32) = 2 then l_X6_scaledMean_3 m b s K (nI (p + 1)) (uk_upL u 59 p 0) else if v0.1 61 (p + 32) = 3 then l_X6_scaledMean_3 m b s K (nI (p + 1)) (uk_upL u 59 p (u.2 59 (v0.1 64 p).toNatClampNeg + u.2 59 (v0.1 65 p).toNatClampNeg * s.toInt64 / 10)) else l_X6_scaledMean_3 m b s K (nI (p + 1)) (uk_upL u 59 p 0) := by
          rw [l_X6_scaledMean_3, if_neg nlt]
          dsimp only
          rw [R, if_neg k4, if_neg one0, cp, hu, pA, pB, j1, nI_1]
        have U7 : l_X7_mean_60 m w b s (K + 1) (nI p) v = if v0.1 61 (p + 32) = 0 then (if v0.1 61 (p + 32) = 2 then l_X7_mean_60 m w b s K (nI (p + 1)) (uk_upL v 72 p 0) else l_X7_mean_60 m w b s K (nI (p + 1)) (uk_upL v 72 p (v.2 72 (v0.1 64 p).toNatClampNeg + v.2 72 (v0.1 65 p).toNatClampNeg))) else if v0.1 61 (p + 32) = 3 then (if v0.1 61 (p + 32) = 2 then l_X7_mean_60 m w b s K (nI (p + 1)) (uk_upL v 72 p 0) else l_X7_mean_60 m w b s K (nI (p + 1)) (uk_upL v 72 p (v.2 72 (v0.1 64 p).toNatClampNeg + v.2 72 (v0.1 65 p).toNatClampNeg / 10 * s.toInt64))) else if v0.1 61 (p + 32) = 2 then l_X7_mean_60 m w b s K (nI (p + 1)) (uk_upL v 72 p 0) else l_X7_mean_60 m w b s K (nI (p + 1)) (uk_upL v 72 p (v.2 72 (v0.1 64 p).toNatClampNeg + 0)) := by
          rw [l_X7_mean_60, if_neg nlt]
          dsimp only
          rw [c32, hv, if_neg k4, cp, nI_1]
        generalize v0.1 61 (p + 32) = k at *
        have k5 : k = 0 ∨ k = 1 ∨ k = 2 ∨ k = 3 := by
          obtain ⟨t, ht, rfl⟩ := nI_of2 (x := k) (M := 4) (n := 4) rfl (by lia) kd.2
          rcases (show t = 0 ∨ t = 1 ∨ t = 2 ∨ t = 3 ∨ t = 4 by omega) with rfl | rfl | rfl | rfl | rfl
          · exact Or.inl rfl
          · exact Or.inr (Or.inl rfl)
          · exact Or.inr (Or.inr (Or.inl rfl))
          · exact Or.inr (Or.inr (Or.inr rfl))
          · exact absurd rfl k4
        generalize u.2 59 (v0.1 64 p).toNatClampNeg = X at *
        generalize u.2 59 (v0.1 65 p).toNatClampNeg = Z at *
        generalize v.2 72 (v0.1 64 p).toNatClampNeg = X' at *
        generalize v.2 72 (v0.1 65 p).toNatClampNeg = Z' at *
        have dX : tp p ∣ X.toInt := ⟨10 * fa, by rw [fe, Int.mul_assoc]⟩
        rcases k5 with rfl | rfl | rfl | rfl
        · rw [if_pos rfl] at U6
          rw [if_pos rfl, if_neg (by decide)] at U7
          have q6 := ad64 (x := X) (y := Z) f1 (by omega) g1 (by omega)
          have q7 := ad64 (x := X') (y := Z') (by omega) (by omega) (by omega) (by omega)
          refine T _ _ (by omega) (by omega) ?_ (by omega) U6 U7
          rw [q6]
          exact Int.dvd_add dX ⟨10 * ga, by rw [ge, Int.mul_assoc]⟩
        · rw [if_neg (by decide), if_pos rfl] at U6
          rw [if_neg (by decide), if_neg (by decide), if_neg (by decide)] at U7
          have q7 := ad64 (x := X') (y := 0) (by omega) (by omega) (by decide) (by decide)
          have z64 : (0 : Int64).toInt = 0 := rfl
          exact T _ _ f1 (by omega) dX (by omega) U6 U7
        · rw [if_neg (by decide), if_neg (by decide), if_pos rfl] at U6
          rw [if_neg (by decide), if_neg (by decide), if_pos rfl] at U7
          exact T 0 0 (by decide) (by rw [show (0 : Int64).toInt = 0 from rfl]; omega) d0 (by decide) U6 U7
        · rw [if_neg (by decide), if_neg (by decide), if_neg (by decide), if_pos rfl] at U6
          rw [if_neg (by decide), if_pos rfl, if_neg (by decide)] at U7
          -- Z is ten times something
          obtain ⟨c, hc⟩ : ∃ c, Z.toInt = 10 * c := ⟨tp p * ga, by rw [ge, Int.mul_comm (tp p) 10, Int.mul_assoc]⟩
          have cg : c = tp p * ga := by
            have : 10 * c = 10 * (tp p * ga) := by rw [← hc, ge, Int.mul_comm (tp p) 10, Int.mul_assoc]
            omega
          have c0 : 0 ≤ c := by omega
          have cs0 : 0 ≤ c * s.toInt := Int.mul_nonneg c0 (by omega)
          have cs1 : c * s.toInt ≤ c * 10 := Int.mul_le_mul_of_nonneg_left (by omega) c0
          have zs : Z.toInt * s.toInt = 10 * (c * s.toInt) := by rw [hc, Int.mul_assoc]
          have m1 : (Z * s.toInt64).toInt = 10 * (c * s.toInt) := by rw [ml64 (by rw [es, zs]; omega) (by rw [es, zs]; omega), es, zs]
          have m2 : (Z * s.toInt64 / 10).toInt = c * s.toInt := by
            rw [div64 (by omega) (by rw [t64]; decide), m1, t64]
            omega
          have m3 : (Z' / 10).toInt = Z.toInt := by
            rw [div64 (by omega) (by rw [t64]; decide), t64]
            omega
          have m4 : (Z' / 10 * s.toInt64).toInt = 10 * (c * s.toInt) := by rw [ml64 (by rw [m3, es, zs]; omega) (by rw [m3, es, zs]; omega), m3, es, zs]
          have q6 := ad64 (x := X) (y := Z * s.toInt64 / 10) f1 (by omega) (by omega) (by omega)
          have q7 := ad64 (x := X') (y := Z' / 10 * s.toInt64) (by omega) (by omega) (by omega) (by omega)
          refine T _ _ (by omega) (by omega) ?_ (by omega) U6 U7
          rw [q6, m2, cg, Int.mul_assoc]
          exact Int.dvd_add dX ⟨ga * s.toInt, rfl⟩
theorem mean_e {u v : uk_Mem} {s m b w : Int32} (hv : iv v) (hri : ri v) (hK : KR u v 13 61 0) (hP : PRo v 61 0) : (e_X6_mean u s m b w).1 = (e_X7_mean v s m b w).1 := by
  have hn : 0 ≤ v.1 60 3 ∧ v.1 60 3 ≤ 8 := iv_at hv 60 3 rfl
  have fl : e_X6_isFlag u w = e_X7_isPart v w := by
    unfold e_X6_isFlag e_X7_isPart e_X7_in
    dsimp only
    grind
  unfold e_X6_mean e_X7_mean
  dsimp only
  rw [hasStuff_e hK.1 hn, hasStuff_e hK.1 hn, fl]
  by_cases hs : 0 ≤ s ∧ s ≤ 10
  · rw [if_neg (show ¬ s < 0 by lia), if_neg (show ¬ 10 < s by lia), show e_X7_in v s 0 10 = 1 from if_pos hs, if_neg one0]
    by_cases h1 : e_X7_isStuff v m = 0
    · rw [if_pos h1, if_pos h1]
    · rw [if_neg h1, if_neg h1]
      by_cases h2 : e_X7_isStuff v b = 0
      · rw [if_pos h2, if_pos h2]
      · rw [if_neg h2, if_neg h2]
        by_cases h3 : e_X7_isPart v w = 0
        · rw [if_pos h3, if_pos h3]
        · rw [if_neg h3, if_neg h3]
          have hm := isStuff_n hn h1
          have hb := isStuff_n hn h2
          have j1 := (hK.2.2.2.2.1 b.toNatClampNeg (uk_cll hb.1 hb.2)).1
          rcases raw_e (u := u) (v := v) hb.1 (by lia) j1 with ⟨m1, m2⟩ | ⟨m1, m2⟩
          · rw [m1, m2, if_pos rfl, if_neg one0]
            have lm := uk_cln 7 7 rfl hm.1 (by lia)
            obtain ⟨u', v', a1, a2, a3, a4, a5⟩ := mean_l (b := b) (w := w) hv hri hK hP hs.1 hs.2 hm.1 hm.2 ee_K 0 u v (by unfold ee_K; omega) (by omega) rfl rfl (fun k hk => absurd hk (Nat.not_lt_zero _))
            have e6 : e_X6_scaledMean u s m b = (u'.2 59 m.toNatClampNeg, u') := a4
            have a5 : l_X7_mean_60 m w b s ee_K 0 v = fin7 v' m w := a5
            rw [e6, a5]
            dsimp only
            obtain ⟨b1, b2, b3, b4⟩ := a1 m.toNatClampNeg (by omega)
            have cr := cB_r m.toNatClampNeg (by omega)
            generalize u'.2 59 m.toNatClampNeg = X at *
            unfold fin7
            generalize v'.2 72 m.toNatClampNeg = Y at *
            have g1 := great_e (u := u') (a := X) b1 (by omega)
            have g2 := common_e (u := v') (a := 100000000) (b := Y) (by decide) (by omega)
            have z8 : (100000000 : Int64).toInt = 100000000 := rfl
            have z7 : (10000000 : Int64).toInt = 10000000 := rfl
            rw [z8, b4, gcZ_10 b1, ← g1] at g2
            have gp := gcZ_pos (a := X.toInt)
            rw [← g1] at gp
            generalize e_X6_greatestCommon u' X 10000000 = G at *
            generalize e_X7_common v' 100000000 Y = H at *
            by_cases w0 : w = 0
            · rw [if_pos w0, if_pos w0]
              refine Int64.toInt_inj.mp ?_
              dsimp only
              rw [div64 b1 gp, div64 (by omega) (by omega), b4, g2, Int.mul_ediv_mul_of_pos _ _ (by decide)]
            · rw [if_neg w0, if_neg w0]
              refine Int64.toInt_inj.mp ?_
              dsimp only
              rw [div64 (by omega) gp, div64 (by omega) (by omega), z7, z8, g2, show (100000000 : Int) = 10 * 10000000 from rfl, Int.mul_ediv_mul_of_pos _ _ (by decide)]
          · rw [m1, m2, if_neg one0, if_pos rfl]
  · rw [show e_X7_in v s 0 10 = 0 from if_neg hs, if_pos rfl]
    by_cases q : s < 0
    · rw [if_pos q]
    · rw [if_neg q, if_pos (show 10 < s by lia)]
theorem iv_z : iv u_z := by
  have key : ∀ (l : List (Nat × Int32 × Int32)) (i : Nat), (l.all fun q => decide (q.2.1 ≤ 0) && decide (0 ≤ q.2.2)) = true → (uk_pick l i).1 ≤ 0 ∧ 0 ≤ (uk_pick l i).2 := by
    intro l
    induction l with
    | nil => intro i _; exact (show (-2147483648 : Int32) ≤ 0 ∧ (0 : Int32) ≤ 2147483647 by decide)
    | cons a l ih =>
      intro i h
      obtain ⟨b, r⟩ := a
      rw [List.all_cons, Bool.and_eq_true] at h
      unfold uk_pick
      split
      · have h1 := h.1
        rw [Bool.and_eq_true] at h1
        exact ⟨of_decide_eq_true h1.1, of_decide_eq_true h1.2⟩
      · exact ih i h.2
  have hall : (uk_rngs.all fun l => l.all fun q => decide (q.2.1 ≤ 0) && decide (0 ≤ q.2.2)) = true := by decide +kernel
  intro c i
  show (uk_pick (uk_rngs.getD c []) i).1 ≤ 0 ∧ 0 ≤ (uk_pick (uk_rngs.getD c []) i).2
  refine key _ i ?_
  rw [List.getD_eq_getElem?_getD]
  cases hc : uk_rngs[c]? with
  | none => rfl
  | some l => exact List.all_eq_true.mp hall l (List.mem_of_getElem? hc)
theorem iv_0 : iv u_0 := iv_upF (iv_upF (iv_upF (iv_upF iv_z rfl) rfl) rfl) rfl
theorem uk_fvs_ad {G G' : uk_D} {u : uk_Mem} {c : Nat} : ∀ (l : List (Option Nat)) (i : Nat), (∀ o ∈ l, ∀ x, o = some x → uk_ad G' (c + x) = uk_ad G (c + x)) → uk_fvs G' u c i l = uk_fvs G u c i l
  | [], i, _ => rfl
  | o :: r, i, h => by
    rw [uk_fvs, uk_fvs, uk_fvs_ad r (i + 1) (fun o ho => h o (List.mem_cons_of_mem _ ho))]
    congr 1
    cases o with
    | none => rfl
    | some x =>
      show Value.ref (uk_ad G' (c + x)) = Value.ref (uk_ad G (c + x))
      rw [h (some x) List.mem_cons_self x rfl]
theorem uk_off : ((List.range 60).all fun c => (uk_ftab (uk_kind c)).all fun o => match o with | none => true | some x => decide (c + x < 60)) = true := by decide +kernel
theorem uk_k12 : ((List.range 60).all fun c => !(uk_kind c == 12) || c == 52) = true := by decide +kernel
theorem uk_ent_ad {G G' : uk_D} {u : uk_Mem} {c : Nat} (hc : c < 60) (hk : G'.2.2.1 = G.2.2.1) (h : ∀ j, j < 60 → uk_ad G' j = uk_ad G j) : uk_ent G' u c = uk_ent G u c := by
  have ho := List.all_eq_true.mp uk_off c (List.mem_range.mpr hc)
  have h12 := List.all_eq_true.mp uk_k12 c (List.mem_range.mpr hc)
  have hf : uk_fvs G' u c 0 (uk_ftab (uk_kind c)) = uk_fvs G u c 0 (uk_ftab (uk_kind c)) := uk_fvs_ad _ 0 (fun o hm x e => by
    subst e
    have := List.all_eq_true.mp ho _ hm
    exact h _ (of_decide_eq_true this))
  unfold uk_ent
  rw [hk]
  generalize hkc : uk_kind c = k at *
  split
  · rfl
  · rfl
  · rfl
  · rfl
  · have : c = 52 := by simpa using h12
    subst this
    have e : (fun i => if i < uk_len 52 then some (uk_ad G' (52 + 1 + i)) else none) = (fun i => if i < uk_len 52 then some (uk_ad G (52 + 1 + i)) else none) := by
      funext i
      by_cases q : i < uk_len 52
      · rw [if_pos q, if_pos q, h _ (by have : uk_len 52 = 4 := rfl; omega)]
      · rw [if_neg q, if_neg q]
    rw [e]
  · rw [hf]
def ad_7 (G : uk_D) (ad : Nat → Nat) (l : List Nat) : Nat → Nat := fun c => if c < 60 then ad c else if c < 78 then l.getD (c - 60) 0 else G.2.2.2.1 c
abbrev G_7 (G : uk_D) (ad : Nat → Nat) (l : List Nat) : uk_D := (G.1, G.2.1, G.2.2.1, ad_7 G ad l, G.2.2.2.2)
theorem ad_7_lo {G : uk_D} {ad : Nat → Nat} {l : List Nat} {c : Nat} (h : c < 60) : ad_7 G ad l c = ad c := by unfold ad_7; rw [if_pos h]
theorem ad_7_hi {G : uk_D} {ad : Nat → Nat} {l : List Nat} {c : Nat} (h : 78 ≤ c) : ad_7 G ad l c = G.2.2.2.1 c := by unfold ad_7; rw [if_neg (by omega), if_neg (by omega)]
theorem uk_E_7 {G : uk_D} {ad : Nat → Nat} {l : List Nat} {U : State} (h : uk_E G U) : uk_E (G_7 G ad l) U := by
  have e1 : (fun i => uk_ad (G_7 G ad l) (100 + i)) = fun i => uk_ad G (100 + i) := by
    funext i
    exact ad_7_hi (by omega)
  have e2 : (fun i => uk_ad (G_7 G ad l) (200 + i)) = fun i => uk_ad G (200 + i) := by
    funext i
    exact ad_7_hi (by omega)
  obtain ⟨h1, h2, h3, h4⟩ := h
  refine ⟨?_, h2, h3, fun i hi => ?_⟩
  · rw [e1, e2]
    exact h1
  · rw [congrFun e1 i]
    exact h4 i hi
theorem w_78 {G : uk_D} {ad : Nat → Nat} {l : List Nat} {u : uk_Mem} : uk_ws (G_7 G ad l) u = (List.range 60).map (fun c => (ad c, uk_ent (G.1, G.2.1, G.2.2.1, ad, fun _ => True) u c)) ++ ([60, 61, 62, 63, 64, 65, 66, 67, 68, 69, 70, 71, 72, 73, 74, 75, 76, 77] : List Nat).map (fun c => (uk_ad (G_7 G ad l) c, uk_ent (G_7 G ad l) u c)) := by
  have e : List.range 78 = List.range 60 ++ ([60, 61, 62, 63, 64, 65, 66, 67, 68, 69, 70, 71, 72, 73, 74, 75, 76, 77] : List Nat) := by decide
  unfold uk_ws
  rw [e, List.map_append]
  congr 1
  refine List.map_congr_left (fun c hc => ?_)
  have hc := List.mem_range.mp hc
  rw [uk_ent_ad (G' := G_7 G ad l) (G := (G.1, G.2.1, G.2.2.1, ad, fun _ => True)) hc rfl (fun j hj => ad_7_lo hj)]
  show (ad_7 G ad l c, _) = _
  rw [ad_7_lo hc]
/-! the sheets: lanes and sizes on both sides -/
def aq (A : Nat → Int32) (v k : Int32) : Prop := ∀ j : Int32, 0 ≤ j → j < k → A j.toNatClampNeg = v
theorem aq_0 {A : Nat → Int32} {v : Int32} : aq A v 0 := fun j h0 h1 => absurd h0 (by grind)
theorem aq_up {A : Nat → Int32} {v k : Int32} (h : aq A v k) (h0 : 0 ≤ k) : aq (upd A k.toNatClampNeg v) v (k + 1) := fun j j0 j1 => by
  by_cases q : j = k
  · rw [upd_at q]
  · rw [upd_ne j0 h0 q]
    exact h j j0 (by grind)
theorem aq_le {A : Nat → Int32} {v k n : Int32} (h : aq A v k) (hn : n ≤ k) : aq A v n := fun j j0 j1 => h j j0 (by grind)
set_option maxHeartbeats 4000000 in
set_option maxRecDepth 20000 in
theorem g7_tail {G : uk_D} {X : uk_Cx} {Q : Option Value → uk_Mem → Prop} (hs : uk_Sep G) {u : uk_Mem} (hu : iv u) (d : Nat) (hQ : ∀ u', iv u' → ri u' → fk [60, 61, 63, 64, 65, 66, 74] [13, 18, 28] u u' → aq (u'.1 74) (-4) 4 → u'.1 60 3 = 0 → (∀ j, j < 51 → u'.1 61 j = 0) → u'.1 63 0 = 0 → u'.1 63 1 = 0 → Q none u') : uk_G G X mX7_init (d + 1) Q 141 [(0, .ref (uk_ad G 60))] [] u := by
  have f0 : fk [60, 61, 63, 64, 65, 66, 74] [13, 18, 28] u u := fk_rf
  refine g_iconst (v := 0) dX7_init_141 (by decide) ?_
  refine g_istore_n dX7_init_142 (by decide) ?_
  refine g_pick (lv' := [(0, .ref (uk_ad G 60)), (1, .int 0)]) [0, 1] rfl ?_
  have L143_0 : ∀ i2 : Int32, 0 ≤ i2 → i2 ≤ 4 → ∀ (u3 : uk_Mem), iv u3 → fk [60, 61, 63, 64, 65, 66, 74] [13, 18, 28] u u3 → aq (u3.1 74) (-4) i2 → uk_G G X mX7_init (d + 1) Q 143 [(0, .ref (uk_ad G 60)), (1, .int i2)] [] u3 := by
    refine uk_upl 4 ?_
    intro i2 ai2 bi2 ihi2  u3 hu3 fu3 ji20
    have C74_u3 : u3.1 74 = u3.1 74 := rfl
    refine g_iload_n dX7_init_143 rfl ?_
    refine g_iconst (v := 4) dX7_init_144 (by decide) ?_
    refine g_icmp_ge (tgt := 162) dX7_init_145 (by decide) (fun c4 => ?_) (fun c4 => ?_)
    · refine g_aload_n dX7_init_162 rfl ?_
      refine cl_X7_63 (c := 60) (As := []) rfl (c_X7_firstDraft_t (G := G) hs hu3    (d)) rfl (by omega) rfl rfl (Nat.le_of_ble_eq_true rfl) dX7_init_163 (fun r5 u6 q7 => ?_)
      obtain ⟨rfl, mq7⟩ := q7
      obtain ⟨hu6, gu6, rfu6, ku60, ku61, ku62, ku63⟩ := mq7
      have fu6 : fk [60, 61, 63, 64, 65, 66, 74] [13, 18, 28] u u6 := fk_tr fu3 gu6 (by decide) (by decide)
      have C8 : u6.1 74 = u3.1 74 := (fk_c gu6 (by decide)).trans C74_u3
      have rdX : rd u6 := rd_0 ku60
      refine g_aload_n dX7_init_166 rfl ?_
      refine cl_X7_66 (c := 60) (As := []) rfl (c_X7_keepDraft_t (G := G) hs hu6 rdX    (d)) rfl (by omega) rfl rfl (Nat.le_of_ble_eq_true rfl) dX7_init_167 (fun r9 u10 q11 => ?_)
      obtain ⟨rfl, mq11⟩ := q11
      obtain ⟨hu10, gu10, riu10, ku100, ku101, ku102, ku103, ku104, ku105⟩ := mq11
      have fu10 : fk [60, 61, 63, 64, 65, 66, 74] [13, 18, 28] u u10 := fk_tr fu6 gu10 (by decide) (by decide)
      have rdu10 : rd u10 := rd_fk rdX gu10 (by decide) (by decide) (by decide) (by decide)
      have C12 : u10.1 74 = u3.1 74 := (fk_c gu10 (by decide)).trans C8
      exact g_vret dX7_init_170 rfl (hQ _ hu10 riu10 fu10 (by rw [C12]; exact aq_le ji20 (by lia)) (ku100.trans ku60) (fun j hj => (cpy_n ku101 (by rw [show (51 : Int32).toNatClampNeg = 51 from rfl]; exact hj) (by decide)).trans (ku63 j hj)) ku104 ku105)
    · refine g_aload_n dX7_init_148 rfl ?_
      refine f_X7_51 rfl rfl dX7_init_149 ?_
      refine g_iload_n dX7_init_152 rfl ?_
      refine g_bipush (v := (-4)) dX7_init_153 (by decide) ?_
      have v13 : vp_in i2 4 := uk_vin 4 rfl (by first | decide | lia | grind) (by first | decide | lia | grind)
      have b14 := uk_cl v13
      refine g_iast rfl rfl v13 dX7_init_155 ?_
      refine g_mem (fun u15 eu15 => ?_)
      have hu15 : iv u15 := by rw [eu15]; exact iv_upF hu3 (uk_pick1 _ (by omega))
      have fu15 : fk [60, 61, 63, 64, 65, 66, 74] [13, 18, 28] u u15 := by rw [eu15]; exact fk_up fu3 (by decide) (fun q => absurd q (by decide))
      have C16 : u15.1 74 = (upd (u3.1 74) (i2 : Int32).toNatClampNeg (-4)) := by rw [eu15, uk_up_self, C74_u3]
      refine g_iinc (v := i2 + 1) dX7_init_156 rfl rfl (by decide) ?_
      refine g_pick (lv' := [(0, .ref (uk_ad G 60)), (1, .int (i2 + 1))]) [0, 1] rfl ?_
      refine g_goto (tgt := 143) dX7_init_159 (by decide) ?_
      refine g_pick (lv' := [(0, .ref (uk_ad G 60)), (1, .int (i2 + 1))]) [0, 1] rfl ?_
      exact ihi2 (by first | lia | grind)  u15 hu15 fu15 (by rw [C16]; exact aq_up ji20 (by lia))
  refine g_pick (lv' := [(0, .ref (uk_ad G 60)), (1, .int 0)]) [0, 1] rfl ?_
  exact L143_0 0 (by first | decide | lia | grind) (by first | decide | lia | grind)  u hu f0 aq_0
set_option maxHeartbeats 40000000 in
set_option maxRecDepth 40000 in
theorem c_X7_init {G : uk_D} {ad : Nat → Nat} (h0 : Nat) : ui_MethA G (uk_E G) 2 17 948 mX7_init [.ref h0] ((h0, .inr (7, [.null, .null, .null, .int 0, .null, .null, .null, .int 0, .null, .null, .int 0, .int 0, .null, .int 0, .int 0, .int 0, .int 0, .int 0, .int 0, .int 0, .null, .null, .int 0, .null, .null, .null, .null, .null, .int 0, .null])) :: w_60 G ad) (fun w => ∃ (l : List Nat) (u : uk_Mem), l.getD 0 0 = h0 ∧ w = uk_ws (G_7 G ad l) u ∧ iv u ∧ ri u ∧ RLP u) := by
  refine ui_MethA.of (by decide) (Nat.le_of_ble_eq_true rfl) (fun X => ?_)
  refine i_ws (ws' := (h0, .inr (7, [.null, .null, .null, .int 0, .null, .null, .null, .int 0, .null, .null, .int 0, .int 0, .null, .int 0, .int 0, .int 0, .int 0, .int 0, .int 0, .int 0, .null, .null, .int 0, .null, .null, .null, .null, .null, .int 0, .null])) :: (w_60 G ad ++ [])) (by rw [List.append_nil]) ?_
  refine i_aload_n dX7_init_0 rfl ?_
  refine i_obj (uk_wI (List.mem_of_getElem? (i := 764) (by decide +kernel)) rfl) dX7_init_1 (by decide) (by decide) ?_
  refine i_aload_n dX7_init_4 rfl ?_
  refine i_sipush (v := 153) dX7_init_5 (by decide) ?_
  refine i_newa (atype := .int) (ty := .int) (a0 := (153, .inl (fun _ => 0))) 0 (uk_wI (List.mem_of_getElem? (i := 84) (by decide +kernel)) rfl) rfl rfl (fun _ _ h => h) (fun _ => rfl) (by decide) rfl (by decide) (by decide) (by decide) dX7_init_8 (fun q1 => ?_)
  refine i_ws (ws' := (h0, .inr (7, [.null, .null, .null, .int 0, .null, .null, .null, .int 0, .null, .null, .int 0, .int 0, .null, .int 0, .int 0, .int 0, .int 0, .int 0, .int 0, .int 0, .null, .null, .int 0, .null, .null, .null, .null, .null, .int 0, .null])) :: (w_60 G ad ++ [(q1, .inl (G.2.2.1 8, 153, .inl (fun _ => 0)))])) (by rw [List.cons_append, List.append_assoc]; rfl) ?_
  refine i_putF (q0 := 0) (j := 0) (ty := (.array .int)) (ws' := (h0, .inr (7, [.ref q1, .null, .null, .int 0, .null, .null, .null, .int 0, .null, .null, .int 0, .int 0, .null, .int 0, .int 0, .int 0, .int 0, .int 0, .int 0, .int 0, .null, .null, .int 0, .null, .null, .null, .null, .null, .int 0, .null])) :: (w_60 G ad ++ [(q1, .inl (G.2.2.1 8, 153, .inl (fun _ => 0)))])) rfl rfl uk_in7 (by decide) tyX7_ok nmX7 rfl rfl rfl (by decide +kernel) rfl rfl (Nat.le_of_ble_eq_true rfl) (uk_wI (List.mem_of_getElem? (i := 773) (by decide +kernel)) rfl) dX7_init_10 rfl ?_
  refine i_aload_n dX7_init_13 rfl ?_
  refine i_bipush (v := 51) dX7_init_14 (by decide) ?_
  refine i_newa (atype := .int) (ty := .int) (a0 := (51, .inl (fun _ => 0))) 0 (uk_wI (List.mem_of_getElem? (i := 84) (by decide +kernel)) rfl) rfl rfl (fun _ _ h => h) (fun _ => rfl) (by decide) rfl (by decide) (by decide) (by decide) dX7_init_16 (fun q2 => ?_)
  refine i_ws (ws' := (h0, .inr (7, [.ref q1, .null, .null, .int 0, .null, .null, .null, .int 0, .null, .null, .int 0, .int 0, .null, .int 0, .int 0, .int 0, .int 0, .int 0, .int 0, .int 0, .null, .null, .int 0, .null, .null, .null, .null, .null, .int 0, .null])) :: (w_60 G ad ++ [(q1, .inl (G.2.2.1 8, 153, .inl (fun _ => 0))), (q2, .inl (G.2.2.1 8, 51, .inl (fun _ => 0)))])) (by rw [List.cons_append, List.append_assoc]; rfl) ?_
  refine i_putF (q0 := 0) (j := 1) (ty := (.array .int)) (ws' := (h0, .inr (7, [.ref q1, .ref q2, .null, .int 0, .null, .null, .null, .int 0, .null, .null, .int 0, .int 0, .null, .int 0, .int 0, .int 0, .int 0, .int 0, .int 0, .int 0, .null, .null, .int 0, .null, .null, .null, .null, .null, .int 0, .null])) :: (w_60 G ad ++ [(q1, .inl (G.2.2.1 8, 153, .inl (fun _ => 0))), (q2, .inl (G.2.2.1 8, 51, .inl (fun _ => 0)))])) rfl rfl uk_in7 (by decide) tyX7_ok nmX7 rfl rfl rfl (by decide +kernel) rfl rfl (Nat.le_of_ble_eq_true rfl) (uk_wI (List.mem_of_getElem? (i := 774) (by decide +kernel)) rfl) dX7_init_18 rfl ?_
  refine i_aload_n dX7_init_21 rfl ?_
  refine i_iconst (v := 2) dX7_init_22 (by decide) ?_
  refine i_newa (atype := .boolean) (ty := .boolean) (a0 := (2, .inl (fun _ => 0))) 2 (uk_wI (List.mem_of_getElem? (i := 172) (by decide +kernel)) rfl) rfl rfl (fun _ _ h => h) (fun _ => rfl) (by decide) rfl (by decide) (by decide) (by decide) dX7_init_23 (fun q3 => ?_)
  refine i_ws (ws' := (h0, .inr (7, [.ref q1, .ref q2, .null, .int 0, .null, .null, .null, .int 0, .null, .null, .int 0, .int 0, .null, .int 0, .int 0, .int 0, .int 0, .int 0, .int 0, .int 0, .null, .null, .int 0, .null, .null, .null, .null, .null, .int 0, .null])) :: (w_60 G ad ++ [(q1, .inl (G.2.2.1 8, 153, .inl (fun _ => 0))), (q2, .inl (G.2.2.1 8, 51, .inl (fun _ => 0))), (q3, .inl (G.2.2.1 10, 2, .inl (fun _ => 0)))])) (by rw [List.cons_append, List.append_assoc]; rfl) ?_
  refine i_putF (q0 := 0) (j := 2) (ty := (.array .boolean)) (ws' := (h0, .inr (7, [.ref q1, .ref q2, .ref q3, .int 0, .null, .null, .null, .int 0, .null, .null, .int 0, .int 0, .null, .int 0, .int 0, .int 0, .int 0, .int 0, .int 0, .int 0, .null, .null, .int 0, .null, .null, .null, .null, .null, .int 0, .null])) :: (w_60 G ad ++ [(q1, .inl (G.2.2.1 8, 153, .inl (fun _ => 0))), (q2, .inl (G.2.2.1 8, 51, .inl (fun _ => 0))), (q3, .inl (G.2.2.1 10, 2, .inl (fun _ => 0)))])) rfl rfl uk_in7 (by decide) tyX7_ok nmX7 rfl rfl rfl (by decide +kernel) rfl rfl (Nat.le_of_ble_eq_true rfl) (uk_wI (List.mem_of_getElem? (i := 775) (by decide +kernel)) rfl) dX7_init_25 rfl ?_
  refine i_aload_n dX7_init_28 rfl ?_
  refine i_bipush (v := 8) dX7_init_29 (by decide) ?_
  refine i_newa (atype := .int) (ty := .int) (a0 := (8, .inl (fun _ => 0))) 0 (uk_wI (List.mem_of_getElem? (i := 84) (by decide +kernel)) rfl) rfl rfl (fun _ _ h => h) (fun _ => rfl) (by decide) rfl (by decide) (by decide) (by decide) dX7_init_31 (fun q4 => ?_)
  refine i_ws (ws' := (h0, .inr (7, [.ref q1, .ref q2, .ref q3, .int 0, .null, .null, .null, .int 0, .null, .null, .int 0, .int 0, .null, .int 0, .int 0, .int 0, .int 0, .int 0, .int 0, .int 0, .null, .null, .int 0, .null, .null, .null, .null, .null, .int 0, .null])) :: (w_60 G ad ++ [(q1, .inl (G.2.2.1 8, 153, .inl (fun _ => 0))), (q2, .inl (G.2.2.1 8, 51, .inl (fun _ => 0))), (q3, .inl (G.2.2.1 10, 2, .inl (fun _ => 0))), (q4, .inl (G.2.2.1 8, 8, .inl (fun _ => 0)))])) (by rw [List.cons_append, List.append_assoc]; rfl) ?_
  refine i_putF (q0 := 0) (j := 4) (ty := (.array .int)) (ws' := (h0, .inr (7, [.ref q1, .ref q2, .ref q3, .int 0, .ref q4, .null, .null, .int 0, .null, .null, .int 0, .int 0, .null, .int 0, .int 0, .int 0, .int 0, .int 0, .int 0, .int 0, .null, .null, .int 0, .null, .null, .null, .null, .null, .int 0, .null])) :: (w_60 G ad ++ [(q1, .inl (G.2.2.1 8, 153, .inl (fun _ => 0))), (q2, .inl (G.2.2.1 8, 51, .inl (fun _ => 0))), (q3, .inl (G.2.2.1 10, 2, .inl (fun _ => 0))), (q4, .inl (G.2.2.1 8, 8, .inl (fun _ => 0)))])) rfl rfl uk_in7 (by decide) tyX7_ok nmX7 rfl rfl rfl (by decide +kernel) rfl rfl (Nat.le_of_ble_eq_true rfl) (uk_wI (List.mem_of_getElem? (i := 777) (by decide +kernel)) rfl) dX7_init_33 rfl ?_
  refine i_aload_n dX7_init_36 rfl ?_
  refine i_bipush (v := 8) dX7_init_37 (by decide) ?_
  refine i_newa (atype := .int) (ty := .int) (a0 := (8, .inl (fun _ => 0))) 0 (uk_wI (List.mem_of_getElem? (i := 84) (by decide +kernel)) rfl) rfl rfl (fun _ _ h => h) (fun _ => rfl) (by decide) rfl (by decide) (by decide) (by decide) dX7_init_39 (fun q5 => ?_)
  refine i_ws (ws' := (h0, .inr (7, [.ref q1, .ref q2, .ref q3, .int 0, .ref q4, .null, .null, .int 0, .null, .null, .int 0, .int 0, .null, .int 0, .int 0, .int 0, .int 0, .int 0, .int 0, .int 0, .null, .null, .int 0, .null, .null, .null, .null, .null, .int 0, .null])) :: (w_60 G ad ++ [(q1, .inl (G.2.2.1 8, 153, .inl (fun _ => 0))), (q2, .inl (G.2.2.1 8, 51, .inl (fun _ => 0))), (q3, .inl (G.2.2.1 10, 2, .inl (fun _ => 0))), (q4, .inl (G.2.2.1 8, 8, .inl (fun _ => 0))), (q5, .inl (G.2.2.1 8, 8, .inl (fun _ => 0)))])) (by rw [List.cons_append, List.append_assoc]; rfl) ?_
  refine i_putF (q0 := 0) (j := 5) (ty := (.array .int)) (ws' := (h0, .inr (7, [.ref q1, .ref q2, .ref q3, .int 0, .ref q4, .ref q5, .null, .int 0, .null, .null, .int 0, .int 0, .null, .int 0, .int 0, .int 0, .int 0, .int 0, .int 0, .int 0, .null, .null, .int 0, .null, .null, .null, .null, .null, .int 0, .null])) :: (w_60 G ad ++ [(q1, .inl (G.2.2.1 8, 153, .inl (fun _ => 0))), (q2, .inl (G.2.2.1 8, 51, .inl (fun _ => 0))), (q3, .inl (G.2.2.1 10, 2, .inl (fun _ => 0))), (q4, .inl (G.2.2.1 8, 8, .inl (fun _ => 0))), (q5, .inl (G.2.2.1 8, 8, .inl (fun _ => 0)))])) rfl rfl uk_in7 (by decide) tyX7_ok nmX7 rfl rfl rfl (by decide +kernel) rfl rfl (Nat.le_of_ble_eq_true rfl) (uk_wI (List.mem_of_getElem? (i := 778) (by decide +kernel)) rfl) dX7_init_41 rfl ?_
  refine i_aload_n dX7_init_44 rfl ?_
  refine i_bipush (v := 51) dX7_init_45 (by decide) ?_
  refine i_newa (atype := .int) (ty := .int) (a0 := (51, .inl (fun _ => 0))) 0 (uk_wI (List.mem_of_getElem? (i := 84) (by decide +kernel)) rfl) rfl rfl (fun _ _ h => h) (fun _ => rfl) (by decide) rfl (by decide) (by decide) (by decide) dX7_init_47 (fun q6 => ?_)
  refine i_ws (ws' := (h0, .inr (7, [.ref q1, .ref q2, .ref q3, .int 0, .ref q4, .ref q5, .null, .int 0, .null, .null, .int 0, .int 0, .null, .int 0, .int 0, .int 0, .int 0, .int 0, .int 0, .int 0, .null, .null, .int 0, .null, .null, .null, .null, .null, .int 0, .null])) :: (w_60 G ad ++ [(q1, .inl (G.2.2.1 8, 153, .inl (fun _ => 0))), (q2, .inl (G.2.2.1 8, 51, .inl (fun _ => 0))), (q3, .inl (G.2.2.1 10, 2, .inl (fun _ => 0))), (q4, .inl (G.2.2.1 8, 8, .inl (fun _ => 0))), (q5, .inl (G.2.2.1 8, 8, .inl (fun _ => 0))), (q6, .inl (G.2.2.1 8, 51, .inl (fun _ => 0)))])) (by rw [List.cons_append, List.append_assoc]; rfl) ?_
  refine i_putF (q0 := 0) (j := 6) (ty := (.array .int)) (ws' := (h0, .inr (7, [.ref q1, .ref q2, .ref q3, .int 0, .ref q4, .ref q5, .ref q6, .int 0, .null, .null, .int 0, .int 0, .null, .int 0, .int 0, .int 0, .int 0, .int 0, .int 0, .int 0, .null, .null, .int 0, .null, .null, .null, .null, .null, .int 0, .null])) :: (w_60 G ad ++ [(q1, .inl (G.2.2.1 8, 153, .inl (fun _ => 0))), (q2, .inl (G.2.2.1 8, 51, .inl (fun _ => 0))), (q3, .inl (G.2.2.1 10, 2, .inl (fun _ => 0))), (q4, .inl (G.2.2.1 8, 8, .inl (fun _ => 0))), (q5, .inl (G.2.2.1 8, 8, .inl (fun _ => 0))), (q6, .inl (G.2.2.1 8, 51, .inl (fun _ => 0)))])) rfl rfl uk_in7 (by decide) tyX7_ok nmX7 rfl rfl rfl (by decide +kernel) rfl rfl (Nat.le_of_ble_eq_true rfl) (uk_wI (List.mem_of_getElem? (i := 779) (by decide +kernel)) rfl) dX7_init_49 rfl ?_
  refine i_aload_n dX7_init_52 rfl ?_
  refine i_bipush (v := 8) dX7_init_53 (by decide) ?_
  refine i_newa (atype := .int) (ty := .int) (a0 := (8, .inl (fun _ => 0))) 0 (uk_wI (List.mem_of_getElem? (i := 84) (by decide +kernel)) rfl) rfl rfl (fun _ _ h => h) (fun _ => rfl) (by decide) rfl (by decide) (by decide) (by decide) dX7_init_55 (fun q7 => ?_)
  refine i_ws (ws' := (h0, .inr (7, [.ref q1, .ref q2, .ref q3, .int 0, .ref q4, .ref q5, .ref q6, .int 0, .null, .null, .int 0, .int 0, .null, .int 0, .int 0, .int 0, .int 0, .int 0, .int 0, .int 0, .null, .null, .int 0, .null, .null, .null, .null, .null, .int 0, .null])) :: (w_60 G ad ++ [(q1, .inl (G.2.2.1 8, 153, .inl (fun _ => 0))), (q2, .inl (G.2.2.1 8, 51, .inl (fun _ => 0))), (q3, .inl (G.2.2.1 10, 2, .inl (fun _ => 0))), (q4, .inl (G.2.2.1 8, 8, .inl (fun _ => 0))), (q5, .inl (G.2.2.1 8, 8, .inl (fun _ => 0))), (q6, .inl (G.2.2.1 8, 51, .inl (fun _ => 0))), (q7, .inl (G.2.2.1 8, 8, .inl (fun _ => 0)))])) (by rw [List.cons_append, List.append_assoc]; rfl) ?_
  refine i_putF (q0 := 0) (j := 8) (ty := (.array .int)) (ws' := (h0, .inr (7, [.ref q1, .ref q2, .ref q3, .int 0, .ref q4, .ref q5, .ref q6, .int 0, .ref q7, .null, .int 0, .int 0, .null, .int 0, .int 0, .int 0, .int 0, .int 0, .int 0, .int 0, .null, .null, .int 0, .null, .null, .null, .null, .null, .int 0, .null])) :: (w_60 G ad ++ [(q1, .inl (G.2.2.1 8, 153, .inl (fun _ => 0))), (q2, .inl (G.2.2.1 8, 51, .inl (fun _ => 0))), (q3, .inl (G.2.2.1 10, 2, .inl (fun _ => 0))), (q4, .inl (G.2.2.1 8, 8, .inl (fun _ => 0))), (q5, .inl (G.2.2.1 8, 8, .inl (fun _ => 0))), (q6, .inl (G.2.2.1 8, 51, .inl (fun _ => 0))), (q7, .inl (G.2.2.1 8, 8, .inl (fun _ => 0)))])) rfl rfl uk_in7 (by decide) tyX7_ok nmX7 rfl rfl rfl (by decide +kernel) rfl rfl (Nat.le_of_ble_eq_true rfl) (uk_wI (List.mem_of_getElem? (i := 781) (by decide +kernel)) rfl) dX7_init_57 rfl ?_
  refine i_aload_n dX7_init_60 rfl ?_
  refine i_bipush (v := 8) dX7_init_61 (by decide) ?_
  refine i_newa (atype := .int) (ty := .int) (a0 := (8, .inl (fun _ => 0))) 0 (uk_wI (List.mem_of_getElem? (i := 84) (by decide +kernel)) rfl) rfl rfl (fun _ _ h => h) (fun _ => rfl) (by decide) rfl (by decide) (by decide) (by decide) dX7_init_63 (fun q8 => ?_)
  refine i_ws (ws' := (h0, .inr (7, [.ref q1, .ref q2, .ref q3, .int 0, .ref q4, .ref q5, .ref q6, .int 0, .ref q7, .null, .int 0, .int 0, .null, .int 0, .int 0, .int 0, .int 0, .int 0, .int 0, .int 0, .null, .null, .int 0, .null, .null, .null, .null, .null, .int 0, .null])) :: (w_60 G ad ++ [(q1, .inl (G.2.2.1 8, 153, .inl (fun _ => 0))), (q2, .inl (G.2.2.1 8, 51, .inl (fun _ => 0))), (q3, .inl (G.2.2.1 10, 2, .inl (fun _ => 0))), (q4, .inl (G.2.2.1 8, 8, .inl (fun _ => 0))), (q5, .inl (G.2.2.1 8, 8, .inl (fun _ => 0))), (q6, .inl (G.2.2.1 8, 51, .inl (fun _ => 0))), (q7, .inl (G.2.2.1 8, 8, .inl (fun _ => 0))), (q8, .inl (G.2.2.1 8, 8, .inl (fun _ => 0)))])) (by rw [List.cons_append, List.append_assoc]; rfl) ?_
  refine i_putF (q0 := 0) (j := 9) (ty := (.array .int)) (ws' := (h0, .inr (7, [.ref q1, .ref q2, .ref q3, .int 0, .ref q4, .ref q5, .ref q6, .int 0, .ref q7, .ref q8, .int 0, .int 0, .null, .int 0, .int 0, .int 0, .int 0, .int 0, .int 0, .int 0, .null, .null, .int 0, .null, .null, .null, .null, .null, .int 0, .null])) :: (w_60 G ad ++ [(q1, .inl (G.2.2.1 8, 153, .inl (fun _ => 0))), (q2, .inl (G.2.2.1 8, 51, .inl (fun _ => 0))), (q3, .inl (G.2.2.1 10, 2, .inl (fun _ => 0))), (q4, .inl (G.2.2.1 8, 8, .inl (fun _ => 0))), (q5, .inl (G.2.2.1 8, 8, .inl (fun _ => 0))), (q6, .inl (G.2.2.1 8, 51, .inl (fun _ => 0))), (q7, .inl (G.2.2.1 8, 8, .inl (fun _ => 0))), (q8, .inl (G.2.2.1 8, 8, .inl (fun _ => 0)))])) rfl rfl uk_in7 (by decide) tyX7_ok nmX7 rfl rfl rfl (by decide +kernel) rfl rfl (Nat.le_of_ble_eq_true rfl) (uk_wI (List.mem_of_getElem? (i := 782) (by decide +kernel)) rfl) dX7_init_65 rfl ?_
  refine i_aload_n dX7_init_68 rfl ?_
  refine i_sipush (v := 160) dX7_init_69 (by decide) ?_
  refine i_newa (atype := .int) (ty := .int) (a0 := (160, .inl (fun _ => 0))) 0 (uk_wI (List.mem_of_getElem? (i := 84) (by decide +kernel)) rfl) rfl rfl (fun _ _ h => h) (fun _ => rfl) (by decide) rfl (by decide) (by decide) (by decide) dX7_init_72 (fun q9 => ?_)
  refine i_ws (ws' := (h0, .inr (7, [.ref q1, .ref q2, .ref q3, .int 0, .ref q4, .ref q5, .ref q6, .int 0, .ref q7, .ref q8, .int 0, .int 0, .null, .int 0, .int 0, .int 0, .int 0, .int 0, .int 0, .int 0, .null, .null, .int 0, .null, .null, .null, .null, .null, .int 0, .null])) :: (w_60 G ad ++ [(q1, .inl (G.2.2.1 8, 153, .inl (fun _ => 0))), (q2, .inl (G.2.2.1 8, 51, .inl (fun _ => 0))), (q3, .inl (G.2.2.1 10, 2, .inl (fun _ => 0))), (q4, .inl (G.2.2.1 8, 8, .inl (fun _ => 0))), (q5, .inl (G.2.2.1 8, 8, .inl (fun _ => 0))), (q6, .inl (G.2.2.1 8, 51, .inl (fun _ => 0))), (q7, .inl (G.2.2.1 8, 8, .inl (fun _ => 0))), (q8, .inl (G.2.2.1 8, 8, .inl (fun _ => 0))), (q9, .inl (G.2.2.1 8, 160, .inl (fun _ => 0)))])) (by rw [List.cons_append, List.append_assoc]; rfl) ?_
  refine i_putF (q0 := 0) (j := 12) (ty := (.array .int)) (ws' := (h0, .inr (7, [.ref q1, .ref q2, .ref q3, .int 0, .ref q4, .ref q5, .ref q6, .int 0, .ref q7, .ref q8, .int 0, .int 0, .ref q9, .int 0, .int 0, .int 0, .int 0, .int 0, .int 0, .int 0, .null, .null, .int 0, .null, .null, .null, .null, .null, .int 0, .null])) :: (w_60 G ad ++ [(q1, .inl (G.2.2.1 8, 153, .inl (fun _ => 0))), (q2, .inl (G.2.2.1 8, 51, .inl (fun _ => 0))), (q3, .inl (G.2.2.1 10, 2, .inl (fun _ => 0))), (q4, .inl (G.2.2.1 8, 8, .inl (fun _ => 0))), (q5, .inl (G.2.2.1 8, 8, .inl (fun _ => 0))), (q6, .inl (G.2.2.1 8, 51, .inl (fun _ => 0))), (q7, .inl (G.2.2.1 8, 8, .inl (fun _ => 0))), (q8, .inl (G.2.2.1 8, 8, .inl (fun _ => 0))), (q9, .inl (G.2.2.1 8, 160, .inl (fun _ => 0)))])) rfl rfl uk_in7 (by decide) tyX7_ok nmX7 rfl rfl rfl (by decide +kernel) rfl rfl (Nat.le_of_ble_eq_true rfl) (uk_wI (List.mem_of_getElem? (i := 785) (by decide +kernel)) rfl) dX7_init_74 rfl ?_
  refine i_aload_n dX7_init_77 rfl ?_
  refine i_bipush (v := 8) dX7_init_78 (by decide) ?_
  refine i_newa (atype := .int) (ty := .int) (a0 := (8, .inl (fun _ => 0))) 0 (uk_wI (List.mem_of_getElem? (i := 84) (by decide +kernel)) rfl) rfl rfl (fun _ _ h => h) (fun _ => rfl) (by decide) rfl (by decide) (by decide) (by decide) dX7_init_80 (fun q10 => ?_)
  refine i_ws (ws' := (h0, .inr (7, [.ref q1, .ref q2, .ref q3, .int 0, .ref q4, .ref q5, .ref q6, .int 0, .ref q7, .ref q8, .int 0, .int 0, .ref q9, .int 0, .int 0, .int 0, .int 0, .int 0, .int 0, .int 0, .null, .null, .int 0, .null, .null, .null, .null, .null, .int 0, .null])) :: (w_60 G ad ++ [(q1, .inl (G.2.2.1 8, 153, .inl (fun _ => 0))), (q2, .inl (G.2.2.1 8, 51, .inl (fun _ => 0))), (q3, .inl (G.2.2.1 10, 2, .inl (fun _ => 0))), (q4, .inl (G.2.2.1 8, 8, .inl (fun _ => 0))), (q5, .inl (G.2.2.1 8, 8, .inl (fun _ => 0))), (q6, .inl (G.2.2.1 8, 51, .inl (fun _ => 0))), (q7, .inl (G.2.2.1 8, 8, .inl (fun _ => 0))), (q8, .inl (G.2.2.1 8, 8, .inl (fun _ => 0))), (q9, .inl (G.2.2.1 8, 160, .inl (fun _ => 0))), (q10, .inl (G.2.2.1 8, 8, .inl (fun _ => 0)))])) (by rw [List.cons_append, List.append_assoc]; rfl) ?_
  refine i_putF (q0 := 0) (j := 20) (ty := (.array .int)) (ws' := (h0, .inr (7, [.ref q1, .ref q2, .ref q3, .int 0, .ref q4, .ref q5, .ref q6, .int 0, .ref q7, .ref q8, .int 0, .int 0, .ref q9, .int 0, .int 0, .int 0, .int 0, .int 0, .int 0, .int 0, .ref q10, .null, .int 0, .null, .null, .null, .null, .null, .int 0, .null])) :: (w_60 G ad ++ [(q1, .inl (G.2.2.1 8, 153, .inl (fun _ => 0))), (q2, .inl (G.2.2.1 8, 51, .inl (fun _ => 0))), (q3, .inl (G.2.2.1 10, 2, .inl (fun _ => 0))), (q4, .inl (G.2.2.1 8, 8, .inl (fun _ => 0))), (q5, .inl (G.2.2.1 8, 8, .inl (fun _ => 0))), (q6, .inl (G.2.2.1 8, 51, .inl (fun _ => 0))), (q7, .inl (G.2.2.1 8, 8, .inl (fun _ => 0))), (q8, .inl (G.2.2.1 8, 8, .inl (fun _ => 0))), (q9, .inl (G.2.2.1 8, 160, .inl (fun _ => 0))), (q10, .inl (G.2.2.1 8, 8, .inl (fun _ => 0)))])) rfl rfl uk_in7 (by decide) tyX7_ok nmX7 rfl rfl rfl (by decide +kernel) rfl rfl (Nat.le_of_ble_eq_true rfl) (uk_wI (List.mem_of_getElem? (i := 793) (by decide +kernel)) rfl) dX7_init_82 rfl ?_
  refine i_aload_n dX7_init_85 rfl ?_
  refine i_sipush (v := 256) dX7_init_86 (by decide) ?_
  refine i_newa (atype := .int) (ty := .int) (a0 := (256, .inl (fun _ => 0))) 0 (uk_wI (List.mem_of_getElem? (i := 84) (by decide +kernel)) rfl) rfl rfl (fun _ _ h => h) (fun _ => rfl) (by decide) rfl (by decide) (by decide) (by decide) dX7_init_89 (fun q11 => ?_)
  refine i_ws (ws' := (h0, .inr (7, [.ref q1, .ref q2, .ref q3, .int 0, .ref q4, .ref q5, .ref q6, .int 0, .ref q7, .ref q8, .int 0, .int 0, .ref q9, .int 0, .int 0, .int 0, .int 0, .int 0, .int 0, .int 0, .ref q10, .null, .int 0, .null, .null, .null, .null, .null, .int 0, .null])) :: (w_60 G ad ++ [(q1, .inl (G.2.2.1 8, 153, .inl (fun _ => 0))), (q2, .inl (G.2.2.1 8, 51, .inl (fun _ => 0))), (q3, .inl (G.2.2.1 10, 2, .inl (fun _ => 0))), (q4, .inl (G.2.2.1 8, 8, .inl (fun _ => 0))), (q5, .inl (G.2.2.1 8, 8, .inl (fun _ => 0))), (q6, .inl (G.2.2.1 8, 51, .inl (fun _ => 0))), (q7, .inl (G.2.2.1 8, 8, .inl (fun _ => 0))), (q8, .inl (G.2.2.1 8, 8, .inl (fun _ => 0))), (q9, .inl (G.2.2.1 8, 160, .inl (fun _ => 0))), (q10, .inl (G.2.2.1 8, 8, .inl (fun _ => 0))), (q11, .inl (G.2.2.1 8, 256, .inl (fun _ => 0)))])) (by rw [List.cons_append, List.append_assoc]; rfl) ?_
  refine i_putF (q0 := 0) (j := 21) (ty := (.array .int)) (ws' := (h0, .inr (7, [.ref q1, .ref q2, .ref q3, .int 0, .ref q4, .ref q5, .ref q6, .int 0, .ref q7, .ref q8, .int 0, .int 0, .ref q9, .int 0, .int 0, .int 0, .int 0, .int 0, .int 0, .int 0, .ref q10, .ref q11, .int 0, .null, .null, .null, .null, .null, .int 0, .null])) :: (w_60 G ad ++ [(q1, .inl (G.2.2.1 8, 153, .inl (fun _ => 0))), (q2, .inl (G.2.2.1 8, 51, .inl (fun _ => 0))), (q3, .inl (G.2.2.1 10, 2, .inl (fun _ => 0))), (q4, .inl (G.2.2.1 8, 8, .inl (fun _ => 0))), (q5, .inl (G.2.2.1 8, 8, .inl (fun _ => 0))), (q6, .inl (G.2.2.1 8, 51, .inl (fun _ => 0))), (q7, .inl (G.2.2.1 8, 8, .inl (fun _ => 0))), (q8, .inl (G.2.2.1 8, 8, .inl (fun _ => 0))), (q9, .inl (G.2.2.1 8, 160, .inl (fun _ => 0))), (q10, .inl (G.2.2.1 8, 8, .inl (fun _ => 0))), (q11, .inl (G.2.2.1 8, 256, .inl (fun _ => 0)))])) rfl rfl uk_in7 (by decide) tyX7_ok nmX7 rfl rfl rfl (by decide +kernel) rfl rfl (Nat.le_of_ble_eq_true rfl) (uk_wI (List.mem_of_getElem? (i := 794) (by decide +kernel)) rfl) dX7_init_91 rfl ?_
  refine i_aload_n dX7_init_94 rfl ?_
  refine i_bipush (v := 8) dX7_init_95 (by decide) ?_
  refine i_newa (atype := .long) (ty := .long) (a0 := (8, .inr (.inl (fun _ => 0)))) 3 (uk_wI (List.mem_of_getElem? (i := 263) (by decide +kernel)) rfl) rfl rfl (fun _ _ h => h) (fun _ => rfl) (by decide) rfl (by decide) (by decide) (by decide) dX7_init_97 (fun q12 => ?_)
  refine i_ws (ws' := (h0, .inr (7, [.ref q1, .ref q2, .ref q3, .int 0, .ref q4, .ref q5, .ref q6, .int 0, .ref q7, .ref q8, .int 0, .int 0, .ref q9, .int 0, .int 0, .int 0, .int 0, .int 0, .int 0, .int 0, .ref q10, .ref q11, .int 0, .null, .null, .null, .null, .null, .int 0, .null])) :: (w_60 G ad ++ [(q1, .inl (G.2.2.1 8, 153, .inl (fun _ => 0))), (q2, .inl (G.2.2.1 8, 51, .inl (fun _ => 0))), (q3, .inl (G.2.2.1 10, 2, .inl (fun _ => 0))), (q4, .inl (G.2.2.1 8, 8, .inl (fun _ => 0))), (q5, .inl (G.2.2.1 8, 8, .inl (fun _ => 0))), (q6, .inl (G.2.2.1 8, 51, .inl (fun _ => 0))), (q7, .inl (G.2.2.1 8, 8, .inl (fun _ => 0))), (q8, .inl (G.2.2.1 8, 8, .inl (fun _ => 0))), (q9, .inl (G.2.2.1 8, 160, .inl (fun _ => 0))), (q10, .inl (G.2.2.1 8, 8, .inl (fun _ => 0))), (q11, .inl (G.2.2.1 8, 256, .inl (fun _ => 0))), (q12, .inl (G.2.2.1 11, 8, .inr (.inl (fun _ => 0))))])) (by rw [List.cons_append, List.append_assoc]; rfl) ?_
  refine i_putF (q0 := 0) (j := 23) (ty := (.array .long)) (ws' := (h0, .inr (7, [.ref q1, .ref q2, .ref q3, .int 0, .ref q4, .ref q5, .ref q6, .int 0, .ref q7, .ref q8, .int 0, .int 0, .ref q9, .int 0, .int 0, .int 0, .int 0, .int 0, .int 0, .int 0, .ref q10, .ref q11, .int 0, .ref q12, .null, .null, .null, .null, .int 0, .null])) :: (w_60 G ad ++ [(q1, .inl (G.2.2.1 8, 153, .inl (fun _ => 0))), (q2, .inl (G.2.2.1 8, 51, .inl (fun _ => 0))), (q3, .inl (G.2.2.1 10, 2, .inl (fun _ => 0))), (q4, .inl (G.2.2.1 8, 8, .inl (fun _ => 0))), (q5, .inl (G.2.2.1 8, 8, .inl (fun _ => 0))), (q6, .inl (G.2.2.1 8, 51, .inl (fun _ => 0))), (q7, .inl (G.2.2.1 8, 8, .inl (fun _ => 0))), (q8, .inl (G.2.2.1 8, 8, .inl (fun _ => 0))), (q9, .inl (G.2.2.1 8, 160, .inl (fun _ => 0))), (q10, .inl (G.2.2.1 8, 8, .inl (fun _ => 0))), (q11, .inl (G.2.2.1 8, 256, .inl (fun _ => 0))), (q12, .inl (G.2.2.1 11, 8, .inr (.inl (fun _ => 0))))])) rfl rfl uk_in7 (by decide) tyX7_ok nmX7 rfl rfl rfl (by decide +kernel) rfl rfl (Nat.le_of_ble_eq_true rfl) (uk_wI (List.mem_of_getElem? (i := 796) (by decide +kernel)) rfl) dX7_init_99 rfl ?_
  refine i_aload_n dX7_init_102 rfl ?_
  refine i_bipush (v := 8) dX7_init_103 (by decide) ?_
  refine i_newa (atype := .int) (ty := .int) (a0 := (8, .inl (fun _ => 0))) 0 (uk_wI (List.mem_of_getElem? (i := 84) (by decide +kernel)) rfl) rfl rfl (fun _ _ h => h) (fun _ => rfl) (by decide) rfl (by decide) (by decide) (by decide) dX7_init_105 (fun q13 => ?_)
  refine i_ws (ws' := (h0, .inr (7, [.ref q1, .ref q2, .ref q3, .int 0, .ref q4, .ref q5, .ref q6, .int 0, .ref q7, .ref q8, .int 0, .int 0, .ref q9, .int 0, .int 0, .int 0, .int 0, .int 0, .int 0, .int 0, .ref q10, .ref q11, .int 0, .ref q12, .null, .null, .null, .null, .int 0, .null])) :: (w_60 G ad ++ [(q1, .inl (G.2.2.1 8, 153, .inl (fun _ => 0))), (q2, .inl (G.2.2.1 8, 51, .inl (fun _ => 0))), (q3, .inl (G.2.2.1 10, 2, .inl (fun _ => 0))), (q4, .inl (G.2.2.1 8, 8, .inl (fun _ => 0))), (q5, .inl (G.2.2.1 8, 8, .inl (fun _ => 0))), (q6, .inl (G.2.2.1 8, 51, .inl (fun _ => 0))), (q7, .inl (G.2.2.1 8, 8, .inl (fun _ => 0))), (q8, .inl (G.2.2.1 8, 8, .inl (fun _ => 0))), (q9, .inl (G.2.2.1 8, 160, .inl (fun _ => 0))), (q10, .inl (G.2.2.1 8, 8, .inl (fun _ => 0))), (q11, .inl (G.2.2.1 8, 256, .inl (fun _ => 0))), (q12, .inl (G.2.2.1 11, 8, .inr (.inl (fun _ => 0)))), (q13, .inl (G.2.2.1 8, 8, .inl (fun _ => 0)))])) (by rw [List.cons_append, List.append_assoc]; rfl) ?_
  refine i_putF (q0 := 0) (j := 24) (ty := (.array .int)) (ws' := (h0, .inr (7, [.ref q1, .ref q2, .ref q3, .int 0, .ref q4, .ref q5, .ref q6, .int 0, .ref q7, .ref q8, .int 0, .int 0, .ref q9, .int 0, .int 0, .int 0, .int 0, .int 0, .int 0, .int 0, .ref q10, .ref q11, .int 0, .ref q12, .ref q13, .null, .null, .null, .int 0, .null])) :: (w_60 G ad ++ [(q1, .inl (G.2.2.1 8, 153, .inl (fun _ => 0))), (q2, .inl (G.2.2.1 8, 51, .inl (fun _ => 0))), (q3, .inl (G.2.2.1 10, 2, .inl (fun _ => 0))), (q4, .inl (G.2.2.1 8, 8, .inl (fun _ => 0))), (q5, .inl (G.2.2.1 8, 8, .inl (fun _ => 0))), (q6, .inl (G.2.2.1 8, 51, .inl (fun _ => 0))), (q7, .inl (G.2.2.1 8, 8, .inl (fun _ => 0))), (q8, .inl (G.2.2.1 8, 8, .inl (fun _ => 0))), (q9, .inl (G.2.2.1 8, 160, .inl (fun _ => 0))), (q10, .inl (G.2.2.1 8, 8, .inl (fun _ => 0))), (q11, .inl (G.2.2.1 8, 256, .inl (fun _ => 0))), (q12, .inl (G.2.2.1 11, 8, .inr (.inl (fun _ => 0)))), (q13, .inl (G.2.2.1 8, 8, .inl (fun _ => 0)))])) rfl rfl uk_in7 (by decide) tyX7_ok nmX7 rfl rfl rfl (by decide +kernel) rfl rfl (Nat.le_of_ble_eq_true rfl) (uk_wI (List.mem_of_getElem? (i := 797) (by decide +kernel)) rfl) dX7_init_107 rfl ?_
  refine i_aload_n dX7_init_110 rfl ?_
  refine i_iconst (v := 4) dX7_init_111 (by decide) ?_
  refine i_newa (atype := .int) (ty := .int) (a0 := (4, .inl (fun _ => 0))) 0 (uk_wI (List.mem_of_getElem? (i := 84) (by decide +kernel)) rfl) rfl rfl (fun _ _ h => h) (fun _ => rfl) (by decide) rfl (by decide) (by decide) (by decide) dX7_init_112 (fun q14 => ?_)
  refine i_ws (ws' := (h0, .inr (7, [.ref q1, .ref q2, .ref q3, .int 0, .ref q4, .ref q5, .ref q6, .int 0, .ref q7, .ref q8, .int 0, .int 0, .ref q9, .int 0, .int 0, .int 0, .int 0, .int 0, .int 0, .int 0, .ref q10, .ref q11, .int 0, .ref q12, .ref q13, .null, .null, .null, .int 0, .null])) :: (w_60 G ad ++ [(q1, .inl (G.2.2.1 8, 153, .inl (fun _ => 0))), (q2, .inl (G.2.2.1 8, 51, .inl (fun _ => 0))), (q3, .inl (G.2.2.1 10, 2, .inl (fun _ => 0))), (q4, .inl (G.2.2.1 8, 8, .inl (fun _ => 0))), (q5, .inl (G.2.2.1 8, 8, .inl (fun _ => 0))), (q6, .inl (G.2.2.1 8, 51, .inl (fun _ => 0))), (q7, .inl (G.2.2.1 8, 8, .inl (fun _ => 0))), (q8, .inl (G.2.2.1 8, 8, .inl (fun _ => 0))), (q9, .inl (G.2.2.1 8, 160, .inl (fun _ => 0))), (q10, .inl (G.2.2.1 8, 8, .inl (fun _ => 0))), (q11, .inl (G.2.2.1 8, 256, .inl (fun _ => 0))), (q12, .inl (G.2.2.1 11, 8, .inr (.inl (fun _ => 0)))), (q13, .inl (G.2.2.1 8, 8, .inl (fun _ => 0))), (q14, .inl (G.2.2.1 8, 4, .inl (fun _ => 0)))])) (by rw [List.cons_append, List.append_assoc]; rfl) ?_
  refine i_putF (q0 := 0) (j := 25) (ty := (.array .int)) (ws' := (h0, .inr (7, [.ref q1, .ref q2, .ref q3, .int 0, .ref q4, .ref q5, .ref q6, .int 0, .ref q7, .ref q8, .int 0, .int 0, .ref q9, .int 0, .int 0, .int 0, .int 0, .int 0, .int 0, .int 0, .ref q10, .ref q11, .int 0, .ref q12, .ref q13, .ref q14, .null, .null, .int 0, .null])) :: (w_60 G ad ++ [(q1, .inl (G.2.2.1 8, 153, .inl (fun _ => 0))), (q2, .inl (G.2.2.1 8, 51, .inl (fun _ => 0))), (q3, .inl (G.2.2.1 10, 2, .inl (fun _ => 0))), (q4, .inl (G.2.2.1 8, 8, .inl (fun _ => 0))), (q5, .inl (G.2.2.1 8, 8, .inl (fun _ => 0))), (q6, .inl (G.2.2.1 8, 51, .inl (fun _ => 0))), (q7, .inl (G.2.2.1 8, 8, .inl (fun _ => 0))), (q8, .inl (G.2.2.1 8, 8, .inl (fun _ => 0))), (q9, .inl (G.2.2.1 8, 160, .inl (fun _ => 0))), (q10, .inl (G.2.2.1 8, 8, .inl (fun _ => 0))), (q11, .inl (G.2.2.1 8, 256, .inl (fun _ => 0))), (q12, .inl (G.2.2.1 11, 8, .inr (.inl (fun _ => 0)))), (q13, .inl (G.2.2.1 8, 8, .inl (fun _ => 0))), (q14, .inl (G.2.2.1 8, 4, .inl (fun _ => 0)))])) rfl rfl uk_in7 (by decide) tyX7_ok nmX7 rfl rfl rfl (by decide +kernel) rfl rfl (Nat.le_of_ble_eq_true rfl) (uk_wI (List.mem_of_getElem? (i := 798) (by decide +kernel)) rfl) dX7_init_114 rfl ?_
  refine i_aload_n dX7_init_117 rfl ?_
  refine i_iconst (v := 4) dX7_init_118 (by decide) ?_
  refine i_newa (atype := .int) (ty := .int) (a0 := (4, .inl (fun _ => 0))) 0 (uk_wI (List.mem_of_getElem? (i := 84) (by decide +kernel)) rfl) rfl rfl (fun _ _ h => h) (fun _ => rfl) (by decide) rfl (by decide) (by decide) (by decide) dX7_init_119 (fun q15 => ?_)
  refine i_ws (ws' := (h0, .inr (7, [.ref q1, .ref q2, .ref q3, .int 0, .ref q4, .ref q5, .ref q6, .int 0, .ref q7, .ref q8, .int 0, .int 0, .ref q9, .int 0, .int 0, .int 0, .int 0, .int 0, .int 0, .int 0, .ref q10, .ref q11, .int 0, .ref q12, .ref q13, .ref q14, .null, .null, .int 0, .null])) :: (w_60 G ad ++ [(q1, .inl (G.2.2.1 8, 153, .inl (fun _ => 0))), (q2, .inl (G.2.2.1 8, 51, .inl (fun _ => 0))), (q3, .inl (G.2.2.1 10, 2, .inl (fun _ => 0))), (q4, .inl (G.2.2.1 8, 8, .inl (fun _ => 0))), (q5, .inl (G.2.2.1 8, 8, .inl (fun _ => 0))), (q6, .inl (G.2.2.1 8, 51, .inl (fun _ => 0))), (q7, .inl (G.2.2.1 8, 8, .inl (fun _ => 0))), (q8, .inl (G.2.2.1 8, 8, .inl (fun _ => 0))), (q9, .inl (G.2.2.1 8, 160, .inl (fun _ => 0))), (q10, .inl (G.2.2.1 8, 8, .inl (fun _ => 0))), (q11, .inl (G.2.2.1 8, 256, .inl (fun _ => 0))), (q12, .inl (G.2.2.1 11, 8, .inr (.inl (fun _ => 0)))), (q13, .inl (G.2.2.1 8, 8, .inl (fun _ => 0))), (q14, .inl (G.2.2.1 8, 4, .inl (fun _ => 0))), (q15, .inl (G.2.2.1 8, 4, .inl (fun _ => 0)))])) (by rw [List.cons_append, List.append_assoc]; rfl) ?_
  refine i_putF (q0 := 0) (j := 26) (ty := (.array .int)) (ws' := (h0, .inr (7, [.ref q1, .ref q2, .ref q3, .int 0, .ref q4, .ref q5, .ref q6, .int 0, .ref q7, .ref q8, .int 0, .int 0, .ref q9, .int 0, .int 0, .int 0, .int 0, .int 0, .int 0, .int 0, .ref q10, .ref q11, .int 0, .ref q12, .ref q13, .ref q14, .ref q15, .null, .int 0, .null])) :: (w_60 G ad ++ [(q1, .inl (G.2.2.1 8, 153, .inl (fun _ => 0))), (q2, .inl (G.2.2.1 8, 51, .inl (fun _ => 0))), (q3, .inl (G.2.2.1 10, 2, .inl (fun _ => 0))), (q4, .inl (G.2.2.1 8, 8, .inl (fun _ => 0))), (q5, .inl (G.2.2.1 8, 8, .inl (fun _ => 0))), (q6, .inl (G.2.2.1 8, 51, .inl (fun _ => 0))), (q7, .inl (G.2.2.1 8, 8, .inl (fun _ => 0))), (q8, .inl (G.2.2.1 8, 8, .inl (fun _ => 0))), (q9, .inl (G.2.2.1 8, 160, .inl (fun _ => 0))), (q10, .inl (G.2.2.1 8, 8, .inl (fun _ => 0))), (q11, .inl (G.2.2.1 8, 256, .inl (fun _ => 0))), (q12, .inl (G.2.2.1 11, 8, .inr (.inl (fun _ => 0)))), (q13, .inl (G.2.2.1 8, 8, .inl (fun _ => 0))), (q14, .inl (G.2.2.1 8, 4, .inl (fun _ => 0))), (q15, .inl (G.2.2.1 8, 4, .inl (fun _ => 0)))])) rfl rfl uk_in7 (by decide) tyX7_ok nmX7 rfl rfl rfl (by decide +kernel) rfl rfl (Nat.le_of_ble_eq_true rfl) (uk_wI (List.mem_of_getElem? (i := 799) (by decide +kernel)) rfl) dX7_init_121 rfl ?_
  refine i_aload_n dX7_init_124 rfl ?_
  refine i_sipush (v := 160) dX7_init_125 (by decide) ?_
  refine i_newa (atype := .int) (ty := .int) (a0 := (160, .inl (fun _ => 0))) 0 (uk_wI (List.mem_of_getElem? (i := 84) (by decide +kernel)) rfl) rfl rfl (fun _ _ h => h) (fun _ => rfl) (by decide) rfl (by decide) (by decide) (by decide) dX7_init_128 (fun q16 => ?_)
  refine i_ws (ws' := (h0, .inr (7, [.ref q1, .ref q2, .ref q3, .int 0, .ref q4, .ref q5, .ref q6, .int 0, .ref q7, .ref q8, .int 0, .int 0, .ref q9, .int 0, .int 0, .int 0, .int 0, .int 0, .int 0, .int 0, .ref q10, .ref q11, .int 0, .ref q12, .ref q13, .ref q14, .ref q15, .null, .int 0, .null])) :: (w_60 G ad ++ [(q1, .inl (G.2.2.1 8, 153, .inl (fun _ => 0))), (q2, .inl (G.2.2.1 8, 51, .inl (fun _ => 0))), (q3, .inl (G.2.2.1 10, 2, .inl (fun _ => 0))), (q4, .inl (G.2.2.1 8, 8, .inl (fun _ => 0))), (q5, .inl (G.2.2.1 8, 8, .inl (fun _ => 0))), (q6, .inl (G.2.2.1 8, 51, .inl (fun _ => 0))), (q7, .inl (G.2.2.1 8, 8, .inl (fun _ => 0))), (q8, .inl (G.2.2.1 8, 8, .inl (fun _ => 0))), (q9, .inl (G.2.2.1 8, 160, .inl (fun _ => 0))), (q10, .inl (G.2.2.1 8, 8, .inl (fun _ => 0))), (q11, .inl (G.2.2.1 8, 256, .inl (fun _ => 0))), (q12, .inl (G.2.2.1 11, 8, .inr (.inl (fun _ => 0)))), (q13, .inl (G.2.2.1 8, 8, .inl (fun _ => 0))), (q14, .inl (G.2.2.1 8, 4, .inl (fun _ => 0))), (q15, .inl (G.2.2.1 8, 4, .inl (fun _ => 0))), (q16, .inl (G.2.2.1 8, 160, .inl (fun _ => 0)))])) (by rw [List.cons_append, List.append_assoc]; rfl) ?_
  refine i_putF (q0 := 0) (j := 27) (ty := (.array .int)) (ws' := (h0, .inr (7, [.ref q1, .ref q2, .ref q3, .int 0, .ref q4, .ref q5, .ref q6, .int 0, .ref q7, .ref q8, .int 0, .int 0, .ref q9, .int 0, .int 0, .int 0, .int 0, .int 0, .int 0, .int 0, .ref q10, .ref q11, .int 0, .ref q12, .ref q13, .ref q14, .ref q15, .ref q16, .int 0, .null])) :: (w_60 G ad ++ [(q1, .inl (G.2.2.1 8, 153, .inl (fun _ => 0))), (q2, .inl (G.2.2.1 8, 51, .inl (fun _ => 0))), (q3, .inl (G.2.2.1 10, 2, .inl (fun _ => 0))), (q4, .inl (G.2.2.1 8, 8, .inl (fun _ => 0))), (q5, .inl (G.2.2.1 8, 8, .inl (fun _ => 0))), (q6, .inl (G.2.2.1 8, 51, .inl (fun _ => 0))), (q7, .inl (G.2.2.1 8, 8, .inl (fun _ => 0))), (q8, .inl (G.2.2.1 8, 8, .inl (fun _ => 0))), (q9, .inl (G.2.2.1 8, 160, .inl (fun _ => 0))), (q10, .inl (G.2.2.1 8, 8, .inl (fun _ => 0))), (q11, .inl (G.2.2.1 8, 256, .inl (fun _ => 0))), (q12, .inl (G.2.2.1 11, 8, .inr (.inl (fun _ => 0)))), (q13, .inl (G.2.2.1 8, 8, .inl (fun _ => 0))), (q14, .inl (G.2.2.1 8, 4, .inl (fun _ => 0))), (q15, .inl (G.2.2.1 8, 4, .inl (fun _ => 0))), (q16, .inl (G.2.2.1 8, 160, .inl (fun _ => 0)))])) rfl rfl uk_in7 (by decide) tyX7_ok nmX7 rfl rfl rfl (by decide +kernel) rfl rfl (Nat.le_of_ble_eq_true rfl) (uk_wI (List.mem_of_getElem? (i := 800) (by decide +kernel)) rfl) dX7_init_130 rfl ?_
  refine i_aload_n dX7_init_133 rfl ?_
  refine i_bipush (v := 51) dX7_init_134 (by decide) ?_
  refine i_newa (atype := .int) (ty := .int) (a0 := (51, .inl (fun _ => 0))) 0 (uk_wI (List.mem_of_getElem? (i := 84) (by decide +kernel)) rfl) rfl rfl (fun _ _ h => h) (fun _ => rfl) (by decide) rfl (by decide) (by decide) (by decide) dX7_init_136 (fun q17 => ?_)
  refine i_ws (ws' := (h0, .inr (7, [.ref q1, .ref q2, .ref q3, .int 0, .ref q4, .ref q5, .ref q6, .int 0, .ref q7, .ref q8, .int 0, .int 0, .ref q9, .int 0, .int 0, .int 0, .int 0, .int 0, .int 0, .int 0, .ref q10, .ref q11, .int 0, .ref q12, .ref q13, .ref q14, .ref q15, .ref q16, .int 0, .null])) :: (w_60 G ad ++ [(q1, .inl (G.2.2.1 8, 153, .inl (fun _ => 0))), (q2, .inl (G.2.2.1 8, 51, .inl (fun _ => 0))), (q3, .inl (G.2.2.1 10, 2, .inl (fun _ => 0))), (q4, .inl (G.2.2.1 8, 8, .inl (fun _ => 0))), (q5, .inl (G.2.2.1 8, 8, .inl (fun _ => 0))), (q6, .inl (G.2.2.1 8, 51, .inl (fun _ => 0))), (q7, .inl (G.2.2.1 8, 8, .inl (fun _ => 0))), (q8, .inl (G.2.2.1 8, 8, .inl (fun _ => 0))), (q9, .inl (G.2.2.1 8, 160, .inl (fun _ => 0))), (q10, .inl (G.2.2.1 8, 8, .inl (fun _ => 0))), (q11, .inl (G.2.2.1 8, 256, .inl (fun _ => 0))), (q12, .inl (G.2.2.1 11, 8, .inr (.inl (fun _ => 0)))), (q13, .inl (G.2.2.1 8, 8, .inl (fun _ => 0))), (q14, .inl (G.2.2.1 8, 4, .inl (fun _ => 0))), (q15, .inl (G.2.2.1 8, 4, .inl (fun _ => 0))), (q16, .inl (G.2.2.1 8, 160, .inl (fun _ => 0))), (q17, .inl (G.2.2.1 8, 51, .inl (fun _ => 0)))])) (by rw [List.cons_append, List.append_assoc]; rfl) ?_
  refine i_putF (q0 := 0) (j := 29) (ty := (.array .int)) (ws' := (h0, .inr (7, [.ref q1, .ref q2, .ref q3, .int 0, .ref q4, .ref q5, .ref q6, .int 0, .ref q7, .ref q8, .int 0, .int 0, .ref q9, .int 0, .int 0, .int 0, .int 0, .int 0, .int 0, .int 0, .ref q10, .ref q11, .int 0, .ref q12, .ref q13, .ref q14, .ref q15, .ref q16, .int 0, .ref q17])) :: (w_60 G ad ++ [(q1, .inl (G.2.2.1 8, 153, .inl (fun _ => 0))), (q2, .inl (G.2.2.1 8, 51, .inl (fun _ => 0))), (q3, .inl (G.2.2.1 10, 2, .inl (fun _ => 0))), (q4, .inl (G.2.2.1 8, 8, .inl (fun _ => 0))), (q5, .inl (G.2.2.1 8, 8, .inl (fun _ => 0))), (q6, .inl (G.2.2.1 8, 51, .inl (fun _ => 0))), (q7, .inl (G.2.2.1 8, 8, .inl (fun _ => 0))), (q8, .inl (G.2.2.1 8, 8, .inl (fun _ => 0))), (q9, .inl (G.2.2.1 8, 160, .inl (fun _ => 0))), (q10, .inl (G.2.2.1 8, 8, .inl (fun _ => 0))), (q11, .inl (G.2.2.1 8, 256, .inl (fun _ => 0))), (q12, .inl (G.2.2.1 11, 8, .inr (.inl (fun _ => 0)))), (q13, .inl (G.2.2.1 8, 8, .inl (fun _ => 0))), (q14, .inl (G.2.2.1 8, 4, .inl (fun _ => 0))), (q15, .inl (G.2.2.1 8, 4, .inl (fun _ => 0))), (q16, .inl (G.2.2.1 8, 160, .inl (fun _ => 0))), (q17, .inl (G.2.2.1 8, 51, .inl (fun _ => 0)))])) rfl rfl uk_in7 (by decide) tyX7_ok nmX7 rfl rfl rfl (by decide +kernel) rfl rfl (Nat.le_of_ble_eq_true rfl) (uk_wI (List.mem_of_getElem? (i := 802) (by decide +kernel)) rfl) dX7_init_138 rfl ?_
  refine i_sub (ws' := w_60 G ad ++ [(h0, .inr (7, [.ref q1, .ref q2, .ref q3, .int 0, .ref q4, .ref q5, .ref q6, .int 0, .ref q7, .ref q8, .int 0, .int 0, .ref q9, .int 0, .int 0, .int 0, .int 0, .int 0, .int 0, .int 0, .ref q10, .ref q11, .int 0, .ref q12, .ref q13, .ref q14, .ref q15, .ref q16, .int 0, .ref q17])), (q1, .inl (G.2.2.1 8, 153, .inl (fun _ => 0))), (q2, .inl (G.2.2.1 8, 51, .inl (fun _ => 0))), (q3, .inl (G.2.2.1 10, 2, .inl (fun _ => 0))), (q4, .inl (G.2.2.1 8, 8, .inl (fun _ => 0))), (q5, .inl (G.2.2.1 8, 8, .inl (fun _ => 0))), (q6, .inl (G.2.2.1 8, 51, .inl (fun _ => 0))), (q7, .inl (G.2.2.1 8, 8, .inl (fun _ => 0))), (q8, .inl (G.2.2.1 8, 8, .inl (fun _ => 0))), (q9, .inl (G.2.2.1 8, 160, .inl (fun _ => 0))), (q10, .inl (G.2.2.1 8, 8, .inl (fun _ => 0))), (q11, .inl (G.2.2.1 8, 256, .inl (fun _ => 0))), (q12, .inl (G.2.2.1 11, 8, .inr (.inl (fun _ => 0)))), (q13, .inl (G.2.2.1 8, 8, .inl (fun _ => 0))), (q14, .inl (G.2.2.1 8, 4, .inl (fun _ => 0))), (q15, .inl (G.2.2.1 8, 4, .inl (fun _ => 0))), (q16, .inl (G.2.2.1 8, 160, .inl (fun _ => 0))), (q17, .inl (G.2.2.1 8, 51, .inl (fun _ => 0)))]) [1, 2, 3, 4, 5, 6, 7, 8, 9, 10, 11, 12, 13, 14, 15, 16, 17, 18, 19, 20, 21, 22, 23, 24, 25, 26, 27, 28, 29, 30, 31, 32, 33, 34, 35, 36, 37, 38, 39, 40, 41, 42, 43, 44, 45, 46, 47, 48, 49, 50, 51, 52, 53, 54, 55, 56, 57, 58, 59, 60, 0, 61, 62, 63, 64, 65, 66, 67, 68, 69, 70, 71, 72, 73, 74, 75, 76, 77] (by decide) rfl rfl ?_
  refine i_flat (ad := ad_7 G ad [h0, q1, q2, q3, q4, q5, q6, q7, q8, q9, q10, q11, q12, q13, q14, q15, q16, q17]) (u := u_0) (d := 1 + 1) rfl (by rw [show (G.1, G.2.1, G.2.2.1, ad_7 G ad [h0, q1, q2, q3, q4, q5, q6, q7, q8, q9, q10, q11, q12, q13, q14, q15, q16, q17], G.2.2.2.2) = G_7 G ad [h0, q1, q2, q3, q4, q5, q6, q7, q8, q9, q10, q11, q12, q13, q14, q15, q16, q17] from rfl, w_78]; rfl) (fun U h => uk_E_7 h) (by decide) (by decide) (by decide) (fun X' hs => ?_)
  exact g7_tail hs iv_0 1 (fun u' h1 h2 h3 h4 h5 h6 h7 h8 => ⟨rfl, [h0, q1, q2, q3, q4, q5, q6, q7, q8, q9, q10, q11, q12, q13, q14, q15, q16, q17], u', rfl, rfl, h1, h2, ⟨REL_0 h3 (by decide) (by decide) h5 h6 h7 h8 (fun j hj => by have := h4 (nI j) (nI_pos' (by omega)) (by rcases (show j = 0 ∨ j = 1 ∨ j = 2 ∨ j = 3 by omega) with rfl | rfl | rfl | rfl <;> decide); rwa [nI_clamp (by omega)] at this), PR_0 h6 h7 h8⟩⟩)
