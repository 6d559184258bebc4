theorem uk_cmo {i j : Int32} (h0 : 0 ≤ i) (h : i ≤ j) : i.toNatClampNeg ≤ j.toNatClampNeg := by
  have a := Int32.le_iff_toInt_le.mp h0
  have b := Int32.le_iff_toInt_le.mp h
  have z : (0 : Int32).toInt = 0 := rfl
  have e1 : i.toNatClampNeg = i.toInt.toNat := rfl
  have e2 : j.toNatClampNeg = j.toInt.toNat := rfl
  omega
theorem lg_rem_lt {x y z : Int64} (h : z = x - x / y * y) (hy : ¬ y = 0) : z.toInt.natAbs < y.toInt.natAbs := by
  have hy0 : ¬ y.toInt = 0 := fun q => hy (Int64.toInt_inj.mp q)
  have e : z.toInt = (x.toInt.tmod y.toInt).bmod (2 ^ 64) := by
    rw [h, Int64.toInt_sub, Int64.toInt_mul, Int64.toInt_div, Int.bmod_mul_bmod, Int.sub_bmod_bmod, Int.tmod_def, Int.mul_comm y.toInt]
  have hb : (x.toInt.tmod y.toInt).natAbs < y.toInt.natAbs := by
    rw [Int.natAbs_tmod]
    exact Nat.mod_lt _ (by omega)
  have l1 := Int64.le_toInt y
  have l2 := Int64.toInt_le y
  have m0 : Int64.minValue.toInt = -9223372036854775808 := rfl
  have m1 : Int64.maxValue.toInt = 9223372036854775807 := rfl
  rw [e, Int.bmod_eq_of_le (by omega) (by omega)]
  exact hb
abbrev q_X7_canHave (u : uk_Mem) (m : Int32) (n : Int32) (r : Option Value) (u' : uk_Mem) : Prop := (∃ x : Int32, r = some (.int x) ∧ (x = 0 ∨ x = 1) ∧ (¬ x = 0 → True) ∧ (x = 0 → ¬ n = 0)) ∧ (iv u' ∧ fk [70] [] u u' ∧ ri u')
set_option maxHeartbeats 4000000 in
set_option maxRecDepth 20000 in
theorem c_X7_canHave {G : uk_D} (hs : uk_Sep G) {u : uk_Mem} (hu : iv u) (hri : ri u) (m : Int32) (n : Int32) (p0 : 0 ≤ m) (p1 : m < u.1 60 3) (p2 : m ≤ 7) (d : Nat) : uk_Meth G (d + 1) mX7_canHave [.ref (uk_ad G 60), .int m, .int n] u (q_X7_canHave u m n) := by
  refine uk_Meth.of hs (by decide) (Nat.le_of_ble_eq_true rfl) (fun X => ?_)
  have f0 : fk [70] [] u u := fk_rf
  have C61 : u.1 61 = u.1 61 := rfl
  refine g_iconst (v := 0) dX7_canHave_0 (by decide) ?_
  refine g_istore_n dX7_canHave_1 (by decide) ?_
  refine g_pick (lv' := [(0, .ref (uk_ad G 60)), (1, .int m), (2, .int n), (3, .int 0)]) [0, 1, 2, 3] rfl ?_
  have L2_0 : ∀ i2 : Int32, 0 ≤ i2 → i2 ≤ 8 → ∀ (u3 : uk_Mem), iv u3 → fk [70] [] u u3 → ri u3 → az n (u3.1 70) i2 → uk_G G X mX7_canHave (d + 1) (q_X7_canHave u m n) 2 [(0, .ref (uk_ad G 60)), (1, .int m), (2, .int n), (3, .int i2)] [] u3 := by
    refine uk_upl 8 ?_
    intro i2 ai2 bi2 ihi2  u3 hu3 fu3 riu3 ji20
    have wu3_60_3 : u3.1 60 3 = u.1 60 3 := fk_at fu3 (by decide)
    refine g_iload_n dX7_canHave_2 rfl ?_
    refine g_aload_n dX7_canHave_3 rfl ?_
    refine f_X7_79 rfl rfl dX7_canHave_4 ?_
    refine g_topi (fun x4 ex4 => ?_)
    have rx4 : 0 ≤ x4 ∧ x4 ≤ 8 := by rw [ex4]; exact iv_at hu3 _ _ rfl
    have s5 : u3.1 60 3 = x4 := ex4.symm
    refine g_icmp_ge (tgt := 32) dX7_canHave_7 (by decide) (fun c6 => ?_) (fun c6 => ?_)
    · refine g_iload_n dX7_canHave_32 rfl ?_
      refine g_istore_n dX7_canHave_33 (by decide) ?_
      refine g_pick (lv' := [(0, .ref (uk_ad G 60)), (1, .int m), (2, .int n), (3, .int m)]) [0, 1, 2, 3] rfl ?_
      have L34_6 : ∀ i8 : Int32, -1 ≤ i8 → ∀ (u9 : uk_Mem), iv u9 → fk [70] [] u u9 → ri u9 → i8 ≤ 7 → i8 < u.1 60 3 → az n (u9.1 70) (u.1 60 3) → uk_G G X mX7_canHave (d + 1) (q_X7_canHave u m n) 34 [(0, .ref (uk_ad G 60)), (1, .int m), (2, .int n), (3, .int i8)] [] u9 := by
        refine uk_dnl ?_
        intro i8 ai8 ihi8  u9 hu9 fu9 riu9 ji80 ji81 ji82
        have C61_u9 : u9.1 61 = u9.1 61 := rfl
        have wu9_60_3 : u9.1 60 3 = u.1 60 3 := fk_at fu9 (by decide)
        refine g_iload_n dX7_canHave_34 rfl ?_
        refine g_if_lt (tgt := 141) dX7_canHave_35 (by decide) (fun c10 => ?_) (fun c10 => ?_)
        · refine g_iconst (v := 1) dX7_canHave_141 (by decide) ?_
          exact g_iret (ty := .boolean) dX7_canHave_142 rfl rfl ⟨⟨1, rfl, Or.inr rfl, fun _ => by first | trivial | lia | grind, fun q => absurd q (by decide)⟩, hu9, fu9, riu9⟩
        · refine g_iload_n dX7_canHave_38 rfl ?_
          refine g_iload_n dX7_canHave_39 rfl ?_
          refine g_icmp_ne (tgt := 47) dX7_canHave_40 (by decide) (fun c11 => ?_) (fun c11 => ?_)
          · refine g_aload_n dX7_canHave_47 rfl ?_
            refine f_X7_7 rfl rfl dX7_canHave_48 ?_
            refine g_iconst (v := 0) dX7_canHave_51 (by decide) ?_
            refine g_iload_n dX7_canHave_52 rfl ?_
            refine g_iadd dX7_canHave_53 ?_
            refine g_topi (fun x12 ex12 => ?_)
            have ox12 : x12 = i8 := by rw [ex12, Int32.zero_add]
            have v13 : vp_in x12 153 := uk_vin 153 rfl (by first | decide | lia | grind) (by first | decide | lia | grind)
            refine g_iald rfl rfl v13 dX7_canHave_54 ?_
            refine g_topi (fun x14 ex14 => ?_)
            have bx14 := uk_cl v13
            have rx14 : 0 ≤ x14 ∧ x14 ≤ 40 := by rw [ex14]; exact sg_0 hu9 (by unfold uk_is51; decide) (by first | lia | grind) (by first | lia | grind)
            have px14 : x14 = (u9.1 61) (x12 : Int32).toNatClampNeg := ex14.trans (congrFun C61_u9 _)
            refine g_istore dX7_canHave_55 (by decide) ?_
            refine g_pick (lv' := [(0, .ref (uk_ad G 60)), (1, .int m), (2, .int n), (3, .int i8), (4, .int x14)]) [0, 1, 2, 3, 4] rfl ?_
            refine g_aload_n dX7_canHave_57 rfl ?_
            refine f_X7_38 rfl rfl dX7_canHave_58 ?_
            refine g_iload_n dX7_canHave_61 rfl ?_
            have v15 : vp_in i8 8 := uk_vin 8 rfl (by first | decide | lia | grind) (by first | decide | lia | grind)
            refine g_iald rfl rfl v15 dX7_canHave_62 ?_
            refine g_topi (fun x16 ex16 => ?_)
            refine g_iload dX7_canHave_63 rfl ?_
            refine g_icmp_le (tgt := 80) dX7_canHave_65 (by decide) (fun c17 => ?_) (fun c17 => ?_)
            · refine g_iconst (v := 0) dX7_canHave_80 (by decide) ?_
              refine g_istore dX7_canHave_81 (by decide) ?_
              refine g_pick (lv' := [(0, .ref (uk_ad G 60)), (1, .int m), (2, .int n), (3, .int i8), (4, .int x14), (5, .int 0)]) [0, 1, 2, 3, 4, 5] rfl ?_
              refine g_iload dX7_canHave_83 rfl ?_
              refine g_if_le (tgt := 98) dX7_canHave_85 (by decide) (fun c18 => ?_) (fun c18 => ?_)
              · refine g_iload dX7_canHave_98 rfl ?_
                refine g_if_le (tgt := 135) dX7_canHave_100 (by decide) (fun c19 => ?_) (fun c19 => ?_)
                · refine g_iinc (v := i8 - 1) dX7_canHave_135 rfl (uk_m1 _) (by decide) ?_
                  refine g_pick (lv' := [(0, .ref (uk_ad G 60)), (1, .int m), (2, .int n), (3, .int (i8 - 1)), (4, .int x14), (5, .int 0)]) [0, 1, 2, 3, 4, 5] rfl ?_
                  refine g_goto (tgt := 34) dX7_canHave_138 (by decide) ?_
                  refine g_pick (lv' := [(0, .ref (uk_ad G 60)), (1, .int m), (2, .int n), (3, .int (i8 - 1))]) [0, 1, 2, 3] rfl ?_
                  exact ihi8 (by first | lia | grind)  u9 hu9 fu9 riu9 (by lia) (by lia) ji82
                · exact absurd c19 (by decide)
              · exact absurd c18 (by decide)
            · refine g_aload_n dX7_canHave_68 rfl ?_
              refine f_X7_38 rfl rfl dX7_canHave_69 ?_
              refine g_iload_n dX7_canHave_72 rfl ?_
              have v20 : vp_in i8 8 := uk_vin 8 rfl (by first | decide | lia | grind) (by first | decide | lia | grind)
              refine g_iald rfl rfl v20 dX7_canHave_73 ?_
              refine g_topi (fun x21 ex21 => ?_)
              refine g_iload dX7_canHave_74 rfl ?_
              refine g_isub dX7_canHave_76 ?_
              refine g_topi (fun x22 ex22 => ?_)
              refine g_goto (tgt := 81) dX7_canHave_77 (by decide) ?_
              refine g_istore dX7_canHave_81 (by decide) ?_
              refine g_pick (lv' := [(0, .ref (uk_ad G 60)), (1, .int m), (2, .int n), (3, .int i8), (4, .int x14), (5, .int x22)]) [0, 1, 2, 3, 4, 5] rfl ?_
              refine g_iload dX7_canHave_83 rfl ?_
              refine g_if_le (tgt := 98) dX7_canHave_85 (by decide) (fun c23 => ?_) (fun c23 => ?_)
              · refine g_iload dX7_canHave_98 rfl ?_
                refine g_if_le (tgt := 135) dX7_canHave_100 (by decide) (fun c24 => ?_) (fun c24 => ?_)
                · refine g_iinc (v := i8 - 1) dX7_canHave_135 rfl (uk_m1 _) (by decide) ?_
                  refine g_pick (lv' := [(0, .ref (uk_ad G 60)), (1, .int m), (2, .int n), (3, .int (i8 - 1)), (4, .int x14), (5, .int x22)]) [0, 1, 2, 3, 4, 5] rfl ?_
                  refine g_goto (tgt := 34) dX7_canHave_138 (by decide) ?_
                  refine g_pick (lv' := [(0, .ref (uk_ad G 60)), (1, .int m), (2, .int n), (3, .int (i8 - 1))]) [0, 1, 2, 3] rfl ?_
                  exact ihi8 (by first | lia | grind)  u9 hu9 fu9 riu9 (by lia) (by lia) ji82
                · exact absurd (show x22 ≤ 0 by assumption) (by assumption)
              · have hn0 : ¬ n = 0 := fun q => by have w0 := ji82 q i8 (by lia) (by lia); first | lia | grind
                refine g_aload_n dX7_canHave_88 rfl ?_
                refine g_iload_n dX7_canHave_89 rfl ?_
                refine cl_X7_166 (c := 60) (As := [.int i8]) rfl (c_X7_isRaw (G := G) hs hu9  i8 (by first | trivial | decide | lia | grind) (by first | trivial | decide | lia | grind) (d)) rfl (by omega) rfl rfl (Nat.le_of_ble_eq_true rfl) dX7_canHave_90 (fun r25 u26 q27 => ?_)
                obtain ⟨⟨x28, rfl, tx28, nx28, zx28⟩, mq27⟩ := q27
                rw [mq27]
                refine g_if_eq (tgt := 98) dX7_canHave_93 (by decide) (fun c29 => ?_) (fun c29 => ?_)
                · have zc29 := zx28 c29
                  refine g_iload dX7_canHave_98 rfl ?_
                  refine g_if_le (tgt := 135) dX7_canHave_100 (by decide) (fun c30 => ?_) (fun c30 => ?_)
                  · refine g_iinc (v := i8 - 1) dX7_canHave_135 rfl (uk_m1 _) (by decide) ?_
                    refine g_pick (lv' := [(0, .ref (uk_ad G 60)), (1, .int m), (2, .int n), (3, .int (i8 - 1)), (4, .int x14), (5, .int x22)]) [0, 1, 2, 3, 4, 5] rfl ?_
                    refine g_goto (tgt := 34) dX7_canHave_138 (by decide) ?_
                    refine g_pick (lv' := [(0, .ref (uk_ad G 60)), (1, .int m), (2, .int n), (3, .int (i8 - 1))]) [0, 1, 2, 3] rfl ?_
                    exact ihi8 (by first | lia | grind)  u9 hu9 fu9 riu9 (by lia) (by lia) ji82
                  · refine g_aload_n dX7_canHave_103 rfl ?_
                    refine f_X7_38 rfl rfl dX7_canHave_104 ?_
                    refine g_aload_n dX7_canHave_107 rfl ?_
                    refine f_X7_20 rfl rfl dX7_canHave_108 ?_
                    refine g_iload_n dX7_canHave_111 rfl ?_
                    have v31 : vp_in i8 8 := uk_vin 8 rfl (by first | decide | lia | grind) (by first | decide | lia | grind)
                    refine g_iald rfl rfl v31 dX7_canHave_112 ?_
                    refine g_topi (fun x32 ex32 => ?_)
                    have bx32 := uk_cl v31
                    have rx32 : (-4) ≤ x32 ∧ x32 ≤ 7 := by rw [ex32]; exact iv_at hu9 _ _ (uk_pick1 _ (by omega))
                    have hqx32 := (riu9.1 i8 (by lia) (by rw [fk_at (c := 60) (i := 3) fu9 (by decide)]; first | lia | grind) (by lia)).resolve_left (by first | assumption | grind)
                    have hpx32 : 0 ≤ x32 ∧ x32 < i8 := by rw [ex32]; exact ⟨hqx32.1, hqx32.2.1⟩
                    refine g_dup2 dX7_canHave_113 rfl rfl ?_
                    have v33 : vp_in x32 8 := uk_vin 8 rfl (by first | decide | lia | grind) (by first | decide | lia | grind)
                    refine g_iald rfl rfl v33 dX7_canHave_114 ?_
                    refine g_topi (fun x34 ex34 => ?_)
                    refine g_iload dX7_canHave_115 rfl ?_
                    refine g_iadd dX7_canHave_117 ?_
                    refine g_topi (fun x35 ex35 => ?_)
                    have v36 : vp_in x32 8 := uk_vin 8 rfl (by first | decide | lia | grind) (by first | decide | lia | grind)
                    have b37 := uk_cl v36
                    refine g_iast rfl rfl v36 dX7_canHave_118 ?_
                    refine g_mem (fun u38 eu38 => ?_)
                    have hu38 : iv u38 := by rw [eu38]; exact iv_upF hu9 (uk_pick1 _ (by omega))
                    have fu38 : fk [70] [] u u38 := by rw [eu38]; exact fk_up fu9 (by decide) (fun q => absurd q (by decide))
                    have riu38 : ri u38 := by rw [eu38]; exact ri_1 riu9 (by decide) (fun q => absurd q (by decide))
                    have C39 : u38.1 61 = u9.1 61 := by rw [eu38]; exact (uk_up_oc (by decide)).trans C61_u9
                    refine g_aload_n dX7_canHave_119 rfl ?_
                    refine f_X7_38 rfl rfl dX7_canHave_120 ?_
                    refine g_aload_n dX7_canHave_123 rfl ?_
                    refine f_X7_23 rfl rfl dX7_canHave_124 ?_
                    refine g_iload_n dX7_canHave_127 rfl ?_
                    have v40 : vp_in i8 8 := uk_vin 8 rfl (by first | decide | lia | grind) (by first | decide | lia | grind)
                    refine g_iald rfl rfl v40 dX7_canHave_128 ?_
                    refine g_topi (fun x41 ex41 => ?_)
                    have bx41 := uk_cl v40
                    have rx41 : (-4) ≤ x41 ∧ x41 ≤ 7 := by rw [ex41]; exact iv_at hu38 _ _ (uk_pick1 _ (by omega))
                    have kx41 : ¬ u38.1 61 (32 + i8).toNatClampNeg = 4 := by rw [C39]; assumption
                    have hqx41 := (riu38.1 i8 (by lia) (by rw [fk_at (c := 60) (i := 3) fu38 (by decide)]; first | lia | grind) (by lia)).resolve_left kx41
                    have hpx41 : 0 ≤ x41 ∧ x41 < i8 := by rw [ex41]; exact ⟨hqx41.2.2.1, hqx41.2.2.2⟩
                    refine g_dup2 dX7_canHave_129 rfl rfl ?_
                    have v42 : vp_in x41 8 := uk_vin 8 rfl (by first | decide | lia | grind) (by first | decide | lia | grind)
                    refine g_iald rfl rfl v42 dX7_canHave_130 ?_
                    refine g_topi (fun x43 ex43 => ?_)
                    refine g_iload dX7_canHave_131 rfl ?_
                    refine g_iadd dX7_canHave_133 ?_
                    refine g_topi (fun x44 ex44 => ?_)
                    have v45 : vp_in x41 8 := uk_vin 8 rfl (by first | decide | lia | grind) (by first | decide | lia | grind)
                    have b46 := uk_cl v45
                    refine g_iast rfl rfl v45 dX7_canHave_134 ?_
                    refine g_mem (fun u47 eu47 => ?_)
                    have hu47 : iv u47 := by rw [eu47]; exact iv_upF hu38 (uk_pick1 _ (by omega))
                    have fu47 : fk [70] [] u u47 := by rw [eu47]; exact fk_up fu38 (by decide) (fun q => absurd q (by decide))
                    have riu47 : ri u47 := by rw [eu47]; exact ri_1 riu38 (by decide) (fun q => absurd q (by decide))
                    have C48 : u47.1 61 = u9.1 61 := by rw [eu47]; exact (uk_up_oc (by decide)).trans C39
                    refine g_iinc (v := i8 - 1) dX7_canHave_135 rfl (uk_m1 _) (by decide) ?_
                    refine g_pick (lv' := [(0, .ref (uk_ad G 60)), (1, .int m), (2, .int n), (3, .int (i8 - 1)), (4, .int x14), (5, .int x22)]) [0, 1, 2, 3, 4, 5] rfl ?_
                    refine g_goto (tgt := 34) dX7_canHave_138 (by decide) ?_
                    refine g_pick (lv' := [(0, .ref (uk_ad G 60)), (1, .int m), (2, .int n), (3, .int (i8 - 1))]) [0, 1, 2, 3] rfl ?_
                    exact ihi8 (by first | lia | grind)  u47 hu47 fu47 riu47 (by lia) (by lia) (az_ne hn0)
                · have zc29 := nx28 c29
                  refine g_iconst (v := 0) dX7_canHave_96 (by decide) ?_
                  exact g_iret (ty := .boolean) dX7_canHave_97 rfl rfl ⟨⟨0, rfl, Or.inl rfl, fun q => absurd rfl q, fun _ => by first | trivial | lia | grind⟩, hu9, fu9, riu9⟩
          · refine g_iconst (v := 0) dX7_canHave_43 (by decide) ?_
            refine g_goto (tgt := 55) dX7_canHave_44 (by decide) ?_
            refine g_istore dX7_canHave_55 (by decide) ?_
            refine g_pick (lv' := [(0, .ref (uk_ad G 60)), (1, .int m), (2, .int n), (3, .int i8), (4, .int 0)]) [0, 1, 2, 3, 4] rfl ?_
            refine g_aload_n dX7_canHave_57 rfl ?_
            refine f_X7_38 rfl rfl dX7_canHave_58 ?_
            refine g_iload_n dX7_canHave_61 rfl ?_
            have v49 : vp_in i8 8 := uk_vin 8 rfl (by first | decide | lia | grind) (by first | decide | lia | grind)
            refine g_iald rfl rfl v49 dX7_canHave_62 ?_
            refine g_topi (fun x50 ex50 => ?_)
            refine g_iload dX7_canHave_63 rfl ?_
            refine g_icmp_le (tgt := 80) dX7_canHave_65 (by decide) (fun c51 => ?_) (fun c51 => ?_)
            · refine g_iconst (v := 0) dX7_canHave_80 (by decide) ?_
              refine g_istore dX7_canHave_81 (by decide) ?_
              refine g_pick (lv' := [(0, .ref (uk_ad G 60)), (1, .int m), (2, .int n), (3, .int i8), (4, .int 0), (5, .int 0)]) [0, 1, 2, 3, 4, 5] rfl ?_
              refine g_iload dX7_canHave_83 rfl ?_
              refine g_if_le (tgt := 98) dX7_canHave_85 (by decide) (fun c52 => ?_) (fun c52 => ?_)
              · refine g_iload dX7_canHave_98 rfl ?_
                refine g_if_le (tgt := 135) dX7_canHave_100 (by decide) (fun c53 => ?_) (fun c53 => ?_)
                · refine g_iinc (v := i8 - 1) dX7_canHave_135 rfl (uk_m1 _) (by decide) ?_
                  refine g_pick (lv' := [(0, .ref (uk_ad G 60)), (1, .int m), (2, .int n), (3, .int (i8 - 1)), (4, .int 0), (5, .int 0)]) [0, 1, 2, 3, 4, 5] rfl ?_
                  refine g_goto (tgt := 34) dX7_canHave_138 (by decide) ?_
                  refine g_pick (lv' := [(0, .ref (uk_ad G 60)), (1, .int m), (2, .int n), (3, .int (i8 - 1))]) [0, 1, 2, 3] rfl ?_
                  exact ihi8 (by first | lia | grind)  u9 hu9 fu9 riu9 (by lia) (by lia) ji82
                · exact absurd c53 (by decide)
              · exact absurd c52 (by decide)
            · refine g_aload_n dX7_canHave_68 rfl ?_
              refine f_X7_38 rfl rfl dX7_canHave_69 ?_
              refine g_iload_n dX7_canHave_72 rfl ?_
              have v54 : vp_in i8 8 := uk_vin 8 rfl (by first | decide | lia | grind) (by first | decide | lia | grind)
              refine g_iald rfl rfl v54 dX7_canHave_73 ?_
              refine g_topi (fun x55 ex55 => ?_)
              refine g_iload dX7_canHave_74 rfl ?_
              refine g_isub dX7_canHave_76 ?_
              refine g_topi (fun x56 ex56 => ?_)
              refine g_goto (tgt := 81) dX7_canHave_77 (by decide) ?_
              refine g_istore dX7_canHave_81 (by decide) ?_
              refine g_pick (lv' := [(0, .ref (uk_ad G 60)), (1, .int m), (2, .int n), (3, .int i8), (4, .int 0), (5, .int x56)]) [0, 1, 2, 3, 4, 5] rfl ?_
              refine g_iload dX7_canHave_83 rfl ?_
              refine g_if_le (tgt := 98) dX7_canHave_85 (by decide) (fun c57 => ?_) (fun c57 => ?_)
              · refine g_iload dX7_canHave_98 rfl ?_
                refine g_if_le (tgt := 135) dX7_canHave_100 (by decide) (fun c58 => ?_) (fun c58 => ?_)
                · refine g_iinc (v := i8 - 1) dX7_canHave_135 rfl (uk_m1 _) (by decide) ?_
                  refine g_pick (lv' := [(0, .ref (uk_ad G 60)), (1, .int m), (2, .int n), (3, .int (i8 - 1)), (4, .int 0), (5, .int x56)]) [0, 1, 2, 3, 4, 5] rfl ?_
                  refine g_goto (tgt := 34) dX7_canHave_138 (by decide) ?_
                  refine g_pick (lv' := [(0, .ref (uk_ad G 60)), (1, .int m), (2, .int n), (3, .int (i8 - 1))]) [0, 1, 2, 3] rfl ?_
                  exact ihi8 (by first | lia | grind)  u9 hu9 fu9 riu9 (by lia) (by lia) ji82
                · exact absurd (show x56 ≤ 0 by assumption) (by assumption)
              · have hn0 : ¬ n = 0 := fun q => by have w0 := ji82 q i8 (by lia) (by lia); first | lia | grind
                refine g_aload_n dX7_canHave_88 rfl ?_
                refine g_iload_n dX7_canHave_89 rfl ?_
                refine cl_X7_166 (c := 60) (As := [.int i8]) rfl (c_X7_isRaw (G := G) hs hu9  i8 (by first | trivial | decide | lia | grind) (by first | trivial | decide | lia | grind) (d)) rfl (by omega) rfl rfl (Nat.le_of_ble_eq_true rfl) dX7_canHave_90 (fun r59 u60 q61 => ?_)
                obtain ⟨⟨x62, rfl, tx62, nx62, zx62⟩, mq61⟩ := q61
                rw [mq61]
                refine g_if_eq (tgt := 98) dX7_canHave_93 (by decide) (fun c63 => ?_) (fun c63 => ?_)
                · have zc63 := zx62 c63
                  refine g_iload dX7_canHave_98 rfl ?_
                  refine g_if_le (tgt := 135) dX7_canHave_100 (by decide) (fun c64 => ?_) (fun c64 => ?_)
                  · refine g_iinc (v := i8 - 1) dX7_canHave_135 rfl (uk_m1 _) (by decide) ?_
                    refine g_pick (lv' := [(0, .ref (uk_ad G 60)), (1, .int m), (2, .int n), (3, .int (i8 - 1)), (4, .int 0), (5, .int x56)]) [0, 1, 2, 3, 4, 5] rfl ?_
                    refine g_goto (tgt := 34) dX7_canHave_138 (by decide) ?_
                    refine g_pick (lv' := [(0, .ref (uk_ad G 60)), (1, .int m), (2, .int n), (3, .int (i8 - 1))]) [0, 1, 2, 3] rfl ?_
                    exact ihi8 (by first | lia | grind)  u9 hu9 fu9 riu9 (by lia) (by lia) ji82
                  · refine g_aload_n dX7_canHave_103 rfl ?_
                    refine f_X7_38 rfl rfl dX7_canHave_104 ?_
                    refine g_aload_n dX7_canHave_107 rfl ?_
                    refine f_X7_20 rfl rfl dX7_canHave_108 ?_
                    refine g_iload_n dX7_canHave_111 rfl ?_
                    have v65 : vp_in i8 8 := uk_vin 8 rfl (by first | decide | lia | grind) (by first | decide | lia | grind)
                    refine g_iald rfl rfl v65 dX7_canHave_112 ?_
                    refine g_topi (fun x66 ex66 => ?_)
                    have bx66 := uk_cl v65
                    have rx66 : (-4) ≤ x66 ∧ x66 ≤ 7 := by rw [ex66]; exact iv_at hu9 _ _ (uk_pick1 _ (by omega))
                    have hqx66 := (riu9.1 i8 (by lia) (by rw [fk_at (c := 60) (i := 3) fu9 (by decide)]; first | lia | grind) (by lia)).resolve_left (by first | assumption | grind)
                    have hpx66 : 0 ≤ x66 ∧ x66 < i8 := by rw [ex66]; exact ⟨hqx66.1, hqx66.2.1⟩
                    refine g_dup2 dX7_canHave_113 rfl rfl ?_
                    have v67 : vp_in x66 8 := uk_vin 8 rfl (by first | decide | lia | grind) (by first | decide | lia | grind)
                    refine g_iald rfl rfl v67 dX7_canHave_114 ?_
                    refine g_topi (fun x68 ex68 => ?_)
                    refine g_iload dX7_canHave_115 rfl ?_
                    refine g_iadd dX7_canHave_117 ?_
                    refine g_topi (fun x69 ex69 => ?_)
                    have v70 : vp_in x66 8 := uk_vin 8 rfl (by first | decide | lia | grind) (by first | decide | lia | grind)
                    have b71 := uk_cl v70
                    refine g_iast rfl rfl v70 dX7_canHave_118 ?_
                    refine g_mem (fun u72 eu72 => ?_)
                    have hu72 : iv u72 := by rw [eu72]; exact iv_upF hu9 (uk_pick1 _ (by omega))
                    have fu72 : fk [70] [] u u72 := by rw [eu72]; exact fk_up fu9 (by decide) (fun q => absurd q (by decide))
                    have riu72 : ri u72 := by rw [eu72]; exact ri_1 riu9 (by decide) (fun q => absurd q (by decide))
                    have C73 : u72.1 61 = u9.1 61 := by rw [eu72]; exact (uk_up_oc (by decide)).trans C61_u9
                    refine g_aload_n dX7_canHave_119 rfl ?_
                    refine f_X7_38 rfl rfl dX7_canHave_120 ?_
                    refine g_aload_n dX7_canHave_123 rfl ?_
                    refine f_X7_23 rfl rfl dX7_canHave_124 ?_
                    refine g_iload_n dX7_canHave_127 rfl ?_
                    have v74 : vp_in i8 8 := uk_vin 8 rfl (by first | decide | lia | grind) (by first | decide | lia | grind)
                    refine g_iald rfl rfl v74 dX7_canHave_128 ?_
                    refine g_topi (fun x75 ex75 => ?_)
                    have bx75 := uk_cl v74
                    have rx75 : (-4) ≤ x75 ∧ x75 ≤ 7 := by rw [ex75]; exact iv_at hu72 _ _ (uk_pick1 _ (by omega))
                    have kx75 : ¬ u72.1 61 (32 + i8).toNatClampNeg = 4 := by rw [C73]; assumption
                    have hqx75 := (riu72.1 i8 (by lia) (by rw [fk_at (c := 60) (i := 3) fu72 (by decide)]; first | lia | grind) (by lia)).resolve_left kx75
                    have hpx75 : 0 ≤ x75 ∧ x75 < i8 := by rw [ex75]; exact ⟨hqx75.2.2.1, hqx75.2.2.2⟩
                    refine g_dup2 dX7_canHave_129 rfl rfl ?_
                    have v76 : vp_in x75 8 := uk_vin 8 rfl (by first | decide | lia | grind) (by first | decide | lia | grind)
                    refine g_iald rfl rfl v76 dX7_canHave_130 ?_
                    refine g_topi (fun x77 ex77 => ?_)
                    refine g_iload dX7_canHave_131 rfl ?_
                    refine g_iadd dX7_canHave_133 ?_
                    refine g_topi (fun x78 ex78 => ?_)
                    have v79 : vp_in x75 8 := uk_vin 8 rfl (by first | decide | lia | grind) (by first | decide | lia | grind)
                    have b80 := uk_cl v79
                    refine g_iast rfl rfl v79 dX7_canHave_134 ?_
                    refine g_mem (fun u81 eu81 => ?_)
                    have hu81 : iv u81 := by rw [eu81]; exact iv_upF hu72 (uk_pick1 _ (by omega))
                    have fu81 : fk [70] [] u u81 := by rw [eu81]; exact fk_up fu72 (by decide) (fun q => absurd q (by decide))
                    have riu81 : ri u81 := by rw [eu81]; exact ri_1 riu72 (by decide) (fun q => absurd q (by decide))
                    have C82 : u81.1 61 = u9.1 61 := by rw [eu81]; exact (uk_up_oc (by decide)).trans C73
                    refine g_iinc (v := i8 - 1) dX7_canHave_135 rfl (uk_m1 _) (by decide) ?_
                    refine g_pick (lv' := [(0, .ref (uk_ad G 60)), (1, .int m), (2, .int n), (3, .int (i8 - 1)), (4, .int 0), (5, .int x56)]) [0, 1, 2, 3, 4, 5] rfl ?_
                    refine g_goto (tgt := 34) dX7_canHave_138 (by decide) ?_
                    refine g_pick (lv' := [(0, .ref (uk_ad G 60)), (1, .int m), (2, .int n), (3, .int (i8 - 1))]) [0, 1, 2, 3] rfl ?_
                    exact ihi8 (by first | lia | grind)  u81 hu81 fu81 riu81 (by lia) (by lia) (az_ne hn0)
                · have zc63 := nx62 c63
                  refine g_iconst (v := 0) dX7_canHave_96 (by decide) ?_
                  exact g_iret (ty := .boolean) dX7_canHave_97 rfl rfl ⟨⟨0, rfl, Or.inl rfl, fun q => absurd rfl q, fun _ => by first | trivial | lia | grind⟩, hu9, fu9, riu9⟩
      refine g_pick (lv' := [(0, .ref (uk_ad G 60)), (1, .int m), (2, .int n), (3, .int m)]) [0, 1, 2, 3] rfl ?_
      exact L34_6 m (by first | decide | lia | grind)  u3 hu3 fu3 riu3 (by lia) (by lia) (az_le ji20 (by first | lia | grind))
    · refine g_aload_n dX7_canHave_10 rfl ?_
      refine f_X7_38 rfl rfl dX7_canHave_11 ?_
      refine g_iload_n dX7_canHave_14 rfl ?_
      refine g_iload_n dX7_canHave_15 rfl ?_
      refine g_iload_n dX7_canHave_16 rfl ?_
      refine g_icmp_ne (tgt := 24) dX7_canHave_17 (by decide) (fun c83 => ?_) (fun c83 => ?_)
      · refine g_iconst (v := 0) dX7_canHave_24 (by decide) ?_
        have v84 : vp_in i2 8 := uk_vin 8 rfl (by first | decide | lia | grind) (by first | decide | lia | grind)
        have b85 := uk_cl v84
        refine g_iast rfl rfl v84 dX7_canHave_25 ?_
        refine g_mem (fun u86 eu86 => ?_)
        have hu86 : iv u86 := by rw [eu86]; exact iv_upF hu3 (uk_pick1 _ (by omega))
        have fu86 : fk [70] [] u u86 := by rw [eu86]; exact fk_up fu3 (by decide) (fun q => absurd q (by decide))
        have riu86 : ri u86 := by rw [eu86]; exact ri_1 riu3 (by decide) (fun q => absurd q (by decide))
        refine g_iinc (v := i2 + 1) dX7_canHave_26 rfl rfl (by decide) ?_
        refine g_pick (lv' := [(0, .ref (uk_ad G 60)), (1, .int m), (2, .int n), (3, .int (i2 + 1))]) [0, 1, 2, 3] rfl ?_
        refine g_goto (tgt := 2) dX7_canHave_29 (by decide) ?_
        refine g_pick (lv' := [(0, .ref (uk_ad G 60)), (1, .int m), (2, .int n), (3, .int (i2 + 1))]) [0, 1, 2, 3] rfl ?_
        exact ihi2 (by first | lia | grind)  u86 hu86 fu86 riu86 (by rw [eu86, uk_up_self]; exact az_up ji20 (by lia) (fun q => by first | rfl | exact q))
      · refine g_iload_n dX7_canHave_20 rfl ?_
        refine g_goto (tgt := 25) dX7_canHave_21 (by decide) ?_
        have v87 : vp_in i2 8 := uk_vin 8 rfl (by first | decide | lia | grind) (by first | decide | lia | grind)
        have b88 := uk_cl v87
        refine g_iast rfl rfl v87 dX7_canHave_25 ?_
        refine g_mem (fun u89 eu89 => ?_)
        have hu89 : iv u89 := by rw [eu89]; exact iv_upF hu3 (uk_pick1 _ (by omega))
        have fu89 : fk [70] [] u u89 := by rw [eu89]; exact fk_up fu3 (by decide) (fun q => absurd q (by decide))
        have riu89 : ri u89 := by rw [eu89]; exact ri_1 riu3 (by decide) (fun q => absurd q (by decide))
        refine g_iinc (v := i2 + 1) dX7_canHave_26 rfl rfl (by decide) ?_
        refine g_pick (lv' := [(0, .ref (uk_ad G 60)), (1, .int m), (2, .int n), (3, .int (i2 + 1))]) [0, 1, 2, 3] rfl ?_
        refine g_goto (tgt := 2) dX7_canHave_29 (by decide) ?_
        refine g_pick (lv' := [(0, .ref (uk_ad G 60)), (1, .int m), (2, .int n), (3, .int (i2 + 1))]) [0, 1, 2, 3] rfl ?_
        exact ihi2 (by first | lia | grind)  u89 hu89 fu89 riu89 (by rw [eu89, uk_up_self]; exact az_up ji20 (by lia) (fun q => by first | rfl | exact q))
  refine g_pick (lv' := [(0, .ref (uk_ad G 60)), (1, .int m), (2, .int n), (3, .int 0)]) [0, 1, 2, 3] rfl ?_
  exact L2_0 0 (by first | decide | lia | grind) (by first | decide | lia | grind)  u hu f0 hri az_0
abbrev q_X7_most (u : uk_Mem) (m : Int32) (r : Option Value) (u' : uk_Mem) : Prop := (∃ x : Int32, r = some (.int x) ∧ True) ∧ (iv u' ∧ fk [70] [] u u' ∧ ri u')
set_option maxHeartbeats 4000000 in
set_option maxRecDepth 20000 in
theorem c_X7_most {G : uk_D} (hs : uk_Sep G) {u : uk_Mem} (hu : iv u) (hri : ri u) (m : Int32) (d : Nat) : uk_Meth G (d + 2) mX7_most [.ref (uk_ad G 60), .int m] u (q_X7_most u m) := by
  refine uk_Meth.of hs (by decide) (Nat.le_of_ble_eq_true rfl) (fun X => ?_)
  have f0 : fk [70] [] u u := fk_rf
  refine g_aload_n dX7_most_0 rfl ?_
  refine g_iload_n dX7_most_1 rfl ?_
  refine cl_X7_163 (c := 60) (As := [.int m]) rfl (c_X7_isStuff (G := G) hs hu  m  (d)) rfl (by omega) rfl rfl (Nat.le_of_ble_eq_true rfl) dX7_most_2 (fun r1 u2 q3 => ?_)
  obtain ⟨⟨x4, rfl, tx4, nx4, zx4⟩, mq3⟩ := q3
  rw [mq3]
  refine g_if_ne (tgt := 10) dX7_most_5 (by decide) (fun c5 => ?_) (fun c5 => ?_)
  · have zc5 := nx4 c5
    refine g_aload_n dX7_most_10 rfl ?_
    refine g_iload_n dX7_most_11 rfl ?_
    refine cl_X7_166 (c := 60) (As := [.int m]) rfl (c_X7_isRaw (G := G) hs hu  m (by first | trivial | decide | lia | grind) (by first | trivial | decide | lia | grind) (d + 1)) rfl (by omega) rfl rfl (Nat.le_of_ble_eq_true rfl) dX7_most_12 (fun r6 u7 q8 => ?_)
    obtain ⟨⟨x9, rfl, tx9, nx9, zx9⟩, mq8⟩ := q8
    rw [mq8]
    refine g_if_eq (tgt := 21) dX7_most_15 (by decide) (fun c10 => ?_) (fun c10 => ?_)
    · have zc10 := zx9 c10
      refine g_bipush (v := 40) dX7_most_21 (by decide) ?_
      refine g_istore_n dX7_most_23 (by decide) ?_
      refine g_pick (lv' := [(0, .ref (uk_ad G 60)), (1, .int m), (2, .int 40)]) [0, 1, 2] rfl ?_
      have L24_10 : ∀ i12 : Int32, -1 ≤ i12 → ∀ (u13 : uk_Mem), iv u13 → fk [70] [] u u13 → ri u13 → 0 ≤ i12 → uk_G G X mX7_most (d + 2) (q_X7_most u m) 24 [(0, .ref (uk_ad G 60)), (1, .int m), (2, .int i12)] [] u13 := by
        refine uk_dnl ?_
        intro i12 ai12 ihi12  u13 hu13 fu13 riu13 ji120
        have wu13_60_3 : u13.1 60 3 = u.1 60 3 := fk_at fu13 (by decide)
        refine g_aload_n dX7_most_24 rfl ?_
        refine g_iload_n dX7_most_25 rfl ?_
        refine g_iload_n dX7_most_26 rfl ?_
        refine cl_X7_200 (c := 60) (As := [.int m, .int i12]) rfl (c_X7_canHave (G := G) hs hu13 riu13  m i12 (by first | trivial | decide | lia | grind) (by first | trivial | decide | lia | grind) (by first | trivial | decide | lia | grind) (d)) rfl (by omega) rfl rfl (Nat.le_of_ble_eq_true rfl) dX7_most_27 (fun r14 u15 q16 => ?_)
        obtain ⟨⟨x17, rfl, tx17, nx17, zx17⟩, mq16⟩ := q16
        obtain ⟨hu15, gu15, riu15⟩ := mq16
        have fu15 : fk [70] [] u u15 := fk_tr fu13 gu15 (by decide) (by decide)
        have wu15_60_3 : u15.1 60 3 = u13.1 60 3 := fk_at gu15 (by decide)
        refine g_if_ne (tgt := 39) dX7_most_30 (by decide) (fun c18 => ?_) (fun c18 => ?_)
        · have zc18 := nx17 c18
          refine g_iload_n dX7_most_39 rfl ?_
          exact g_iret (ty := .int) dX7_most_40 rfl rfl ⟨⟨_, rfl, by first | trivial | lia | grind⟩, hu15, fu15, riu15⟩
        · have zc18 := zx17 c18
          refine g_iinc (v := i12 - 1) dX7_most_33 rfl (uk_m1 _) (by decide) ?_
          refine g_pick (lv' := [(0, .ref (uk_ad G 60)), (1, .int m), (2, .int (i12 - 1))]) [0, 1, 2] rfl ?_
          refine g_goto (tgt := 24) dX7_most_36 (by decide) ?_
          refine g_pick (lv' := [(0, .ref (uk_ad G 60)), (1, .int m), (2, .int (i12 - 1))]) [0, 1, 2] rfl ?_
          exact ihi12 (by first | lia | grind)  u15 hu15 fu15 riu15 (by first | trivial | lia | grind)
      refine g_pick (lv' := [(0, .ref (uk_ad G 60)), (1, .int m), (2, .int 40)]) [0, 1, 2] rfl ?_
      exact L24_10 40 (by first | decide | lia | grind)  u hu f0 hri (by first | trivial | lia | grind)
    · have zc10 := nx9 c10
      refine g_bipush (v := (-2)) dX7_most_18 (by decide) ?_
      exact g_iret (ty := .int) dX7_most_20 rfl rfl ⟨⟨_, rfl, by first | trivial | lia | grind⟩, hu, f0, hri⟩
  · have zc5 := zx4 c5
    refine g_iconst (v := (-1)) dX7_most_8 (by decide) ?_
    exact g_iret (ty := .int) dX7_most_9 rfl rfl ⟨⟨_, rfl, by first | trivial | lia | grind⟩, hu, f0, hri⟩
abbrev q_X7_lays (u : uk_Mem) (m : Int32) (r : Option Value) (u' : uk_Mem) : Prop := (r = none) ∧ (iv u' ∧ fk [60, 62, 71] [3, 7, 10, 11, 13, 14, 15, 16, 17, 18, 19, 28] u u' ∧ ri u' ∧ ra u' ∧ rp u')
set_option maxHeartbeats 4000000 in
set_option maxRecDepth 20000 in
theorem c_X7_lays {G : uk_D} (hs : uk_Sep G) {u : uk_Mem} (hu : iv u) (hri : ri u) (m : Int32) (p0 : 0 ≤ m) (p1 : m < u.1 60 3) (p2 : m ≤ 7) (d : Nat) : uk_Meth G (d + 1) mX7_lays [.ref (uk_ad G 60), .int m] u (q_X7_lays u m) := by
  refine uk_Meth.of hs (by decide) (Nat.le_of_ble_eq_true rfl) (fun X => ?_)
  have f0 : fk [60, 62, 71] [3, 7, 10, 11, 13, 14, 15, 16, 17, 18, 19, 28] u u := fk_rf
  have C71 : u.1 71 = u.1 71 := rfl
  obtain ⟨t1, Tt1⟩ : ∃ t, u.1 60 22 = t := ⟨_, rfl⟩
  refine g_aload_n dX7_lays_0 rfl ?_
  refine cl_X7_185 (c := 60) (As := []) rfl (c_X7_starts (G := G) hs hu hri    (d)) rfl (by omega) rfl rfl (Nat.le_of_ble_eq_true rfl) dX7_lays_1 (fun r2 u3 q4 => ?_)
  obtain ⟨rfl, mq4⟩ := q4
  obtain ⟨hu3, gu3, rau3, ku30⟩ := mq4
  have fu3 : fk [60, 62, 71] [3, 7, 10, 11, 13, 14, 15, 16, 17, 18, 19, 28] u u3 := fk_tr f0 gu3 (by decide) (by decide)
  have riu3 : ri u3 := ri_fk hri gu3 (by decide) (by decide) (by decide) (by decide) (by decide)
  have T5 : u3.1 60 22 = t1 := (fk_at gu3 (by decide)).trans Tt1
  have C6 : u3.1 71 = u.1 71 := (fk_c gu3 (by decide)).trans C71
  have wu3_60_3 : u3.1 60 3 = u.1 60 3 := fk_at gu3 (by decide)
  refine g_iconst (v := 0) dX7_lays_4 (by decide) ?_
  refine g_istore_n dX7_lays_5 (by decide) ?_
  refine g_pick (lv' := [(0, .ref (uk_ad G 60)), (1, .int m), (2, .int 0)]) [0, 1, 2] rfl ?_
  have L6_6 : ∀ i8 : Int32, 0 ≤ i8 → i8 ≤ 8 → ∀ (u9 : uk_Mem), iv u9 → fk [60, 62, 71] [3, 7, 10, 11, 13, 14, 15, 16, 17, 18, 19, 28] u u9 → ri u9 → ra u9 → uk_G G X mX7_lays (d + 1) (q_X7_lays u m) 6 [(0, .ref (uk_ad G 60)), (1, .int m), (2, .int i8)] [] u9 := by
    refine uk_upl 8 ?_
    intro i8 ai8 bi8 ihi8  u9 hu9 fu9 riu9 rau9
    have C71_u9 : u9.1 71 = u9.1 71 := rfl
    obtain ⟨t10, Tt10⟩ : ∃ t, u9.1 60 22 = t := ⟨_, rfl⟩
    have Rt10 : 0 ≤ t10 ∧ t10 ≤ 255 := by rw [← Tt10]; exact iv_at hu9 _ _ rfl
    have wu9_60_3 : u9.1 60 3 = u.1 60 3 := fk_at fu9 (by decide)
    refine g_iload_n dX7_lays_6 rfl ?_
    refine g_aload_n dX7_lays_7 rfl ?_
    refine f_X7_79 rfl rfl dX7_lays_8 ?_
    refine g_topi (fun x11 ex11 => ?_)
    have rx11 : 0 ≤ x11 ∧ x11 ≤ 8 := by rw [ex11]; exact iv_at hu9 _ _ rfl
    have s12 : u9.1 60 3 = x11 := ex11.symm
    refine g_icmp_ge (tgt := 30) dX7_lays_11 (by decide) (fun c13 => ?_) (fun c13 => ?_)
    · refine g_aload_n dX7_lays_30 rfl ?_
      refine f_X7_41 rfl rfl dX7_lays_31 ?_
      refine g_iconst (v := 0) dX7_lays_34 (by decide) ?_
      refine g_iload_n dX7_lays_35 rfl ?_
      have v14 : vp_in 0 256 := uk_vin 256 rfl (by first | decide | lia | grind) (by first | decide | lia | grind)
      have b15 := uk_cl v14
      refine g_iast rfl rfl v14 dX7_lays_36 ?_
      refine g_mem (fun u16 eu16 => ?_)
      have hu16 : iv u16 := by rw [eu16]; exact iv_up hu9 (uk_pick1 _ (by omega)) (by first | lia | grind) (by first | lia | grind)
      have fu16 : fk [60, 62, 71] [3, 7, 10, 11, 13, 14, 15, 16, 17, 18, 19, 28] u u16 := by rw [eu16]; exact fk_up fu9 (by decide) (fun q => absurd q (by decide))
      have riu16 : ri u16 := by rw [eu16]; exact ri_1 riu9 (by decide) (fun q => absurd q (by decide))
      have rau16 : ra u16 := by rw [eu16]; exact ra_1 rau9 (by decide) (fun q => absurd q (by decide))
      have T17 : u16.1 60 22 = t10 := by rw [eu16]; exact (congrFun (uk_up_oc (by decide)) _).trans Tt10
      have C18 : u16.1 71 = (upd (u9.1 71) (0 : Int32).toNatClampNeg m) := by rw [eu16, uk_up_self, C71_u9]
      refine g_aload_n dX7_lays_37 rfl ?_
      refine g_iconst (v := 1) dX7_lays_38 (by decide) ?_
      refine p_X7_207 rfl rfl dX7_lays_39 ?_
      refine g_mem (fun u19 eu19 => ?_)
      have hu19 : iv u19 := by rw [eu19]; exact iv_up hu16 rfl (by first | lia | grind) (by first | lia | grind)
      have fu19 : fk [60, 62, 71] [3, 7, 10, 11, 13, 14, 15, 16, 17, 18, 19, 28] u u19 := by rw [eu19]; exact fk_up fu16 (by decide) (fun _ => by decide)
      have riu19 : ri u19 := by rw [eu19]; exact ri_1 riu16 (by decide) (fun _ => by decide)
      have rau19 : ra u19 := by rw [eu19]; exact ra_1 rau16 (by decide) (fun _ => by decide)
      have C20 : u19.1 71 = (upd (u9.1 71) (0 : Int32).toNatClampNeg m) := by rw [eu19]; exact (uk_up_oc (by decide)).trans C18
      have s21 : u19.1 60 22 = 1 := by rw [eu19, uk_up_at]; exact if_pos ⟨rfl, rfl⟩
      exact g_vret dX7_lays_42 rfl ⟨rfl, hu19, fu19, riu19, rau19, (rp_lay C20 (s21.trans rfl) (fk_at fu19 (by decide)) p0 p2 p1)⟩
    · refine g_aload_n dX7_lays_14 rfl ?_
      refine f_X7_13 rfl rfl dX7_lays_15 ?_
      refine g_bipush (v := 8) dX7_lays_18 (by decide) ?_
      refine g_iload_n dX7_lays_20 rfl ?_
      refine g_iadd dX7_lays_21 ?_
      refine g_topi (fun x22 ex22 => ?_)
      refine g_iconst (v := 0) dX7_lays_22 (by decide) ?_
      have v23 : vp_in x22 51 := uk_vin 51 rfl (by first | decide | lia | grind) (by first | decide | lia | grind)
      have b24 := uk_cl v23
      refine g_iast rfl rfl v23 dX7_lays_23 ?_
      refine g_mem (fun u25 eu25 => ?_)
      have hu25 : iv u25 := by rw [eu25]; exact iv_st hu9 (by unfold uk_is51; decide) (by first | decide | lia | grind) (by first | decide | lia | grind) (fun q => by first | decide | lia | grind) (fun q => by first | decide | lia | grind) (fun q => by first | decide | lia | grind)
      have fu25 : fk [60, 62, 71] [3, 7, 10, 11, 13, 14, 15, 16, 17, 18, 19, 28] u u25 := by rw [eu25]; exact fk_up fu9 (by decide) (fun q => absurd q (by decide))
      have riu25 : ri u25 := by rw [eu25]; exact ri_1 riu9 (by decide) (fun q => absurd q (by decide))
      have rau25 : ra u25 := by rw [eu25]; exact ra_at rau9 (by first | decide | lia | grind) (by first | decide | lia | grind)
      have T26 : u25.1 60 22 = t10 := by rw [eu25]; exact (congrFun (uk_up_oc (by decide)) _).trans Tt10
      have C27 : u25.1 71 = u9.1 71 := by rw [eu25]; exact (uk_up_oc (by decide)).trans C71_u9
      refine g_iinc (v := i8 + 1) dX7_lays_24 rfl rfl (by decide) ?_
      refine g_pick (lv' := [(0, .ref (uk_ad G 60)), (1, .int m), (2, .int (i8 + 1))]) [0, 1, 2] rfl ?_
      refine g_goto (tgt := 6) dX7_lays_27 (by decide) ?_
      refine g_pick (lv' := [(0, .ref (uk_ad G 60)), (1, .int m), (2, .int (i8 + 1))]) [0, 1, 2] rfl ?_
      exact ihi8 (by first | lia | grind)  u25 hu25 fu25 riu25 rau25 
  refine g_pick (lv' := [(0, .ref (uk_ad G 60)), (1, .int m), (2, .int 0)]) [0, 1, 2] rfl ?_
  exact L6_6 0 (by first | decide | lia | grind) (by first | decide | lia | grind)  u3 hu3 fu3 riu3 rau3 
abbrev q_X7_nextThing (u : uk_Mem)  (r : Option Value) (u' : uk_Mem) : Prop := (∃ x : Int32, r = some (.int x) ∧ (x = -4 ∨ (0 ≤ x ∧ x < u.1 60 22 ∧ ¬ u.1 62 (32 + u.1 71 x.toNatClampNeg).toNatClampNeg = 4))) ∧ (u' = u)
set_option maxHeartbeats 4000000 in
set_option maxRecDepth 20000 in
theorem c_X7_nextThing {G : uk_D} (hs : uk_Sep G) {u : uk_Mem} (hu : iv u)  (d : Nat) : uk_Meth G d mX7_nextThing [.ref (uk_ad G 60)] u (q_X7_nextThing u) := by
  refine uk_Meth.of hs (by decide) (Nat.le_of_ble_eq_true rfl) (fun X => ?_)
  refine g_iconst (v := 0) dX7_nextThing_0 (by decide) ?_
  refine g_istore_n dX7_nextThing_1 (by decide) ?_
  refine g_pick (lv' := [(0, .ref (uk_ad G 60)), (1, .int 0)]) [0, 1] rfl ?_
  have L2_0 : ∀ i2 : Int32, 0 ≤ i2 → i2 ≤ 255 → uk_G G X mX7_nextThing d (q_X7_nextThing u) 2 [(0, .ref (uk_ad G 60)), (1, .int i2)] [] u := by
    refine uk_upl 255 ?_
    intro i2 ai2 bi2 ihi2 
    refine g_iload_n dX7_nextThing_2 rfl ?_
    refine g_aload_n dX7_nextThing_3 rfl ?_
    refine f_X7_207 rfl rfl dX7_nextThing_4 ?_
    refine g_topi (fun x3 ex3 => ?_)
    have rx3 : 0 ≤ x3 ∧ x3 ≤ 255 := by rw [ex3]; exact iv_at hu _ _ rfl
    have s4 : u.1 60 22 = x3 := ex3.symm
    refine g_icmp_ge (tgt := 43) dX7_nextThing_7 (by decide) (fun c5 => ?_) (fun c5 => ?_)
    · refine g_bipush (v := (-4)) dX7_nextThing_43 (by decide) ?_
      exact g_iret (ty := .int) dX7_nextThing_45 rfl rfl ⟨⟨_, rfl, by first | trivial | lia | grind⟩, rfl⟩
    · refine g_aload_n dX7_nextThing_10 rfl ?_
      refine f_X7_13 rfl rfl dX7_nextThing_11 ?_
      refine g_bipush (v := 32) dX7_nextThing_14 (by decide) ?_
      refine g_aload_n dX7_nextThing_16 rfl ?_
      refine f_X7_41 rfl rfl dX7_nextThing_17 ?_
      refine g_iload_n dX7_nextThing_20 rfl ?_
      have v6 : vp_in i2 256 := uk_vin 256 rfl (by first | decide | lia | grind) (by first | decide | lia | grind)
      refine g_iald rfl rfl v6 dX7_nextThing_21 ?_
      refine g_topi (fun x7 ex7 => ?_)
      have bx7 := uk_cl v6
      have rx7 : 0 ≤ x7 ∧ x7 ≤ 7 := by rw [ex7]; exact iv_at hu _ _ (uk_pick1 _ (by omega))
      refine g_iadd dX7_nextThing_22 ?_
      refine g_topi (fun x8 ex8 => ?_)
      have v9 : vp_in x8 51 := uk_vin 51 rfl (by first | decide | lia | grind) (by first | decide | lia | grind)
      refine g_iald rfl rfl v9 dX7_nextThing_23 ?_
      refine g_topi (fun x10 ex10 => ?_)
      have bx10 := uk_cl v9
      refine g_istore_n dX7_nextThing_24 (by decide) ?_
      refine g_pick (lv' := [(0, .ref (uk_ad G 60)), (1, .int i2), (2, .int x10)]) [0, 1, 2] rfl ?_
      refine g_iload_n dX7_nextThing_25 rfl ?_
      refine g_iconst (v := 4) dX7_nextThing_26 (by decide) ?_
      refine g_icmp_eq (tgt := 37) dX7_nextThing_27 (by decide) (fun c11 => ?_) (fun c11 => ?_)
      · refine g_iinc (v := i2 + 1) dX7_nextThing_37 rfl rfl (by decide) ?_
        refine g_pick (lv' := [(0, .ref (uk_ad G 60)), (1, .int (i2 + 1)), (2, .int x10)]) [0, 1, 2] rfl ?_
        refine g_goto (tgt := 2) dX7_nextThing_40 (by decide) ?_
        refine g_pick (lv' := [(0, .ref (uk_ad G 60)), (1, .int (i2 + 1))]) [0, 1] rfl ?_
        exact ihi2 (by first | lia | grind)  
      · refine g_iload_n dX7_nextThing_30 rfl ?_
        refine g_iconst (v := 2) dX7_nextThing_31 (by decide) ?_
        refine g_icmp_eq (tgt := 37) dX7_nextThing_32 (by decide) (fun c12 => ?_) (fun c12 => ?_)
        · refine g_iinc (v := i2 + 1) dX7_nextThing_37 rfl rfl (by decide) ?_
          refine g_pick (lv' := [(0, .ref (uk_ad G 60)), (1, .int (i2 + 1)), (2, .int x10)]) [0, 1, 2] rfl ?_
          refine g_goto (tgt := 2) dX7_nextThing_40 (by decide) ?_
          refine g_pick (lv' := [(0, .ref (uk_ad G 60)), (1, .int (i2 + 1))]) [0, 1] rfl ?_
          exact ihi2 (by first | lia | grind)  
        · refine g_iload_n dX7_nextThing_35 rfl ?_
          exact g_iret (ty := .int) dX7_nextThing_36 rfl rfl ⟨⟨_, rfl, by first | trivial | lia | grind⟩, rfl⟩
  refine g_pick (lv' := [(0, .ref (uk_ad G 60)), (1, .int 0)]) [0, 1] rfl ?_
  exact L2_0 0 (by first | decide | lia | grind) (by first | decide | lia | grind)  
abbrev q_X7_turns1 (u : uk_Mem)  (r : Option Value) (u' : uk_Mem) : Prop := (∃ x : Int32, r = some (.int x) ∧ (x = 0 ∨ x = 1) ∧ (¬ x = 0 → pot u' < pot u) ∧ (x = 0 → True)) ∧ (iv u' ∧ fk [60, 62, 71] [3, 7, 10, 11, 13, 14, 15, 16, 17, 18, 19, 28] u u' ∧ ri u' ∧ ra u' ∧ rp u')
set_option maxHeartbeats 4000000 in
set_option maxRecDepth 20000 in
theorem c_X7_turns1 {G : uk_D} (hs : uk_Sep G) {u : uk_Mem} (hu : iv u) (hri : ri u) (hra : ra u) (hrp : rp u)  (d : Nat) : uk_Meth G (d + 1) mX7_turns1 [.ref (uk_ad G 60)] u (q_X7_turns1 u) := by
  refine uk_Meth.of hs (by decide) (Nat.le_of_ble_eq_true rfl) (fun X => ?_)
  have f0 : fk [60, 62, 71] [3, 7, 10, 11, 13, 14, 15, 16, 17, 18, 19, 28] u u := fk_rf
  have C71 : u.1 71 = u.1 71 := rfl
  obtain ⟨t1, Tt1⟩ : ∃ t, u.1 60 22 = t := ⟨_, rfl⟩
  refine g_aload_n dX7_turns1_0 rfl ?_
  refine cl_X7_210 (c := 60) (As := []) rfl (c_X7_nextThing (G := G) hs hu    (d)) rfl (by omega) rfl rfl (Nat.le_of_ble_eq_true rfl) dX7_turns1_1 (fun r2 u3 q4 => ?_)
  obtain ⟨⟨x5, rfl, tx5⟩, mq4⟩ := q4
  rw [mq4]
  refine g_istore_n dX7_turns1_4 (by decide) ?_
  refine g_pick (lv' := [(0, .ref (uk_ad G 60)), (1, .int x5)]) [0, 1] rfl ?_
  refine g_iload_n dX7_turns1_5 rfl ?_
  refine g_bipush (v := (-4)) dX7_turns1_6 (by decide) ?_
  refine g_icmp_ne (tgt := 13) dX7_turns1_8 (by decide) (fun c6 => ?_) (fun c6 => ?_)
  · have R22 : 0 ≤ u.1 60 22 ∧ u.1 60 22 ≤ 255 := iv_at hu 60 22 rfl
    obtain ⟨hx0, hx1, hx2⟩ := tx5.resolve_left (by assumption)
    refine g_aload_n dX7_turns1_13 rfl ?_
    refine f_X7_41 rfl rfl dX7_turns1_14 ?_
    refine g_iload_n dX7_turns1_17 rfl ?_
    have v7 : vp_in x5 256 := uk_vin 256 rfl (by first | decide | lia | grind) (by first | decide | lia | grind)
    refine g_iald rfl rfl v7 dX7_turns1_18 ?_
    refine g_topi (fun x8 ex8 => ?_)
    have bx8 := uk_cl v7
    have rx8 : 0 ≤ x8 ∧ x8 ≤ 7 := by rw [ex8]; exact iv_at hu _ _ (uk_pick1 _ (by omega))
    have px8 : x8 = (u.1 71) (x5 : Int32).toNatClampNeg := ex8.trans (congrFun C71 _)
    have hmx8 : x8 < u.1 60 3 := by rw [ex8]; exact hrp.1 _ (uk_cll (by lia) (by lia))
    have hkx8 := (hra x8 (by lia) hmx8 (by lia)).resolve_left (by rw [px8]; exact hx2)
    refine g_istore_n dX7_turns1_19 (by decide) ?_
    refine g_pick (lv' := [(0, .ref (uk_ad G 60)), (1, .int x5), (2, .int x8)]) [0, 1, 2] rfl ?_
    refine g_aload_n dX7_turns1_20 rfl ?_
    refine f_X7_41 rfl rfl dX7_turns1_21 ?_
    refine g_iload_n dX7_turns1_24 rfl ?_
    refine g_aload_n dX7_turns1_25 rfl ?_
    refine f_X7_20 rfl rfl dX7_turns1_26 ?_
    refine g_iload_n dX7_turns1_29 rfl ?_
    have v9 : vp_in x8 8 := uk_vin 8 rfl (by first | decide | lia | grind) (by first | decide | lia | grind)
    refine g_iald rfl rfl v9 dX7_turns1_30 ?_
    refine g_topi (fun x10 ex10 => ?_)
    have bx10 := uk_cl v9
    have rx10 : (-4) ≤ x10 ∧ x10 ≤ 7 := by rw [ex10]; exact iv_at hu _ _ (uk_pick1 _ (by omega))
    have hax10 : 0 ≤ x10 ∧ x10 < x8 := by rw [ex10]; exact ⟨hkx8.1, hkx8.2.1⟩
    have v11 : vp_in x5 256 := uk_vin 256 rfl (by first | decide | lia | grind) (by first | decide | lia | grind)
    have b12 := uk_cl v11
    refine g_iast rfl rfl v11 dX7_turns1_31 ?_
    refine g_mem (fun u13 eu13 => ?_)
    have hu13 : iv u13 := by rw [eu13]; exact iv_up hu (uk_pick1 _ (by omega)) (by first | lia | grind) (by first | lia | grind)
    have fu13 : fk [60, 62, 71] [3, 7, 10, 11, 13, 14, 15, 16, 17, 18, 19, 28] u u13 := by rw [eu13]; exact fk_up f0 (by decide) (fun q => absurd q (by decide))
    have riu13 : ri u13 := by rw [eu13]; exact ri_1 hri (by decide) (fun q => absurd q (by decide))
    have rau13 : ra u13 := by rw [eu13]; exact ra_1 hra (by decide) (fun q => absurd q (by decide))
    have T14 : u13.1 60 22 = t1 := by rw [eu13]; exact (congrFun (uk_up_oc (by decide)) _).trans Tt1
    have C15 : u13.1 71 = (upd (u.1 71) (x5 : Int32).toNatClampNeg x10) := by rw [eu13, uk_up_self, C71]
    refine g_aload_n dX7_turns1_32 rfl ?_
    refine g_iload_n dX7_turns1_33 rfl ?_
    refine cl_X7_153 (c := 60) (As := [.int x8]) rfl (c_X7_givesSecond (G := G) hs hu13  x8 (by first | trivial | decide | lia | grind) (by first | trivial | decide | lia | grind) (d)) rfl (by omega) rfl rfl (Nat.le_of_ble_eq_true rfl) dX7_turns1_34 (fun r16 u17 q18 => ?_)
    obtain ⟨⟨x19, rfl, tx19, nx19, zx19⟩, mq18⟩ := q18
    rw [mq18]
    refine g_if_eq (tgt := 96) dX7_turns1_37 (by decide) (fun c20 => ?_) (fun c20 => ?_)
    · have zc20 := zx19 c20
      refine g_aload_n dX7_turns1_96 rfl ?_
      refine f_X7_13 rfl rfl dX7_turns1_97 ?_
      refine g_bipush (v := 8) dX7_turns1_100 (by decide) ?_
      refine g_iload_n dX7_turns1_102 rfl ?_
      refine g_iadd dX7_turns1_103 ?_
      refine g_topi (fun x21 ex21 => ?_)
      refine g_aload_n dX7_turns1_104 rfl ?_
      refine f_X7_13 rfl rfl dX7_turns1_105 ?_
      refine g_bipush (v := 32) dX7_turns1_108 (by decide) ?_
      refine g_iload_n dX7_turns1_110 rfl ?_
      refine g_iadd dX7_turns1_111 ?_
      refine g_topi (fun x22 ex22 => ?_)
      have v23 : vp_in x22 51 := uk_vin 51 rfl (by first | decide | lia | grind) (by first | decide | lia | grind)
      refine g_iald rfl rfl v23 dX7_turns1_112 ?_
      refine g_topi (fun x24 ex24 => ?_)
      have bx24 := uk_cl v23
      refine g_iconst (v := 3) dX7_turns1_113 (by decide) ?_
      refine g_icmp_ne (tgt := 131) dX7_turns1_114 (by decide) (fun c25 => ?_) (fun c25 => ?_)
      · refine g_aload_n dX7_turns1_131 rfl ?_
        refine f_X7_13 rfl rfl dX7_turns1_132 ?_
        refine g_bipush (v := 8) dX7_turns1_135 (by decide) ?_
        refine g_iload_n dX7_turns1_137 rfl ?_
        refine g_iadd dX7_turns1_138 ?_
        refine g_topi (fun x26 ex26 => ?_)
        have v27 : vp_in x26 51 := uk_vin 51 rfl (by first | decide | lia | grind) (by first | decide | lia | grind)
        refine g_iald rfl rfl v27 dX7_turns1_139 ?_
        refine g_topi (fun x28 ex28 => ?_)
        have bx28 := uk_cl v27
        have v29 : vp_in x21 51 := uk_vin 51 rfl (by first | decide | lia | grind) (by first | decide | lia | grind)
        have b30 := uk_cl v29
        refine g_iast rfl rfl v29 dX7_turns1_140 ?_
        refine g_mem (fun u31 eu31 => ?_)
        have hu31 : iv u31 := by rw [eu31]; exact iv_st hu13 (by unfold uk_is51; decide) (by first | decide | lia | grind) (by first | decide | lia | grind) (fun q => by first | decide | lia | grind) (fun q => by first | decide | lia | grind) (fun q => by first | decide | lia | grind)
        have fu31 : fk [60, 62, 71] [3, 7, 10, 11, 13, 14, 15, 16, 17, 18, 19, 28] u u31 := by rw [eu31]; exact fk_up fu13 (by decide) (fun q => absurd q (by decide))
        have riu31 : ri u31 := by rw [eu31]; exact ri_1 riu13 (by decide) (fun q => absurd q (by decide))
        have rau31 : ra u31 := by rw [eu31]; exact ra_at rau13 (by first | decide | lia | grind) (by first | decide | lia | grind)
        have T32 : u31.1 60 22 = t1 := by rw [eu31]; exact (congrFun (uk_up_oc (by decide)) _).trans T14
        have C33 : u31.1 71 = (upd (u.1 71) (x5 : Int32).toNatClampNeg x10) := by rw [eu31]; exact (uk_up_oc (by decide)).trans C15
        refine g_iconst (v := 1) dX7_turns1_141 (by decide) ?_
        exact g_iret (ty := .boolean) dX7_turns1_142 rfl rfl ⟨⟨1, rfl, Or.inr rfl, fun _ => (tn_1 hrp (i := x5) (m := x8) (a := x10) (by lia) (by lia) ex8.symm hax10.1 hax10.2 C33 (T32.trans (by first | assumption | grind)) (fk_at fu31 (by decide))).2, fun q => absurd q (by decide)⟩, hu31, fu31, riu31, rau31, (tn_1 hrp (i := x5) (m := x8) (a := x10) (by lia) (by lia) ex8.symm hax10.1 hax10.2 C33 (T32.trans (by first | assumption | grind)) (fk_at fu31 (by decide))).1⟩
      · refine g_iconst (v := 1) dX7_turns1_117 (by decide) ?_
        refine g_aload_n dX7_turns1_118 rfl ?_
        refine f_X7_13 rfl rfl dX7_turns1_119 ?_
        refine g_bipush (v := 8) dX7_turns1_122 (by decide) ?_
        refine g_iload_n dX7_turns1_124 rfl ?_
        refine g_iadd dX7_turns1_125 ?_
        refine g_topi (fun x34 ex34 => ?_)
        have v35 : vp_in x34 51 := uk_vin 51 rfl (by first | decide | lia | grind) (by first | decide | lia | grind)
        refine g_iald rfl rfl v35 dX7_turns1_126 ?_
        refine g_topi (fun x36 ex36 => ?_)
        have bx36 := uk_cl v35
        refine g_isub dX7_turns1_127 ?_
        refine g_topi (fun x37 ex37 => ?_)
        refine g_goto (tgt := 140) dX7_turns1_128 (by decide) ?_
        have v38 : vp_in x21 51 := uk_vin 51 rfl (by first | decide | lia | grind) (by first | decide | lia | grind)
        have b39 := uk_cl v38
        refine g_iast rfl rfl v38 dX7_turns1_140 ?_
        refine g_mem (fun u40 eu40 => ?_)
        have hu40 : iv u40 := by rw [eu40]; exact iv_st hu13 (by unfold uk_is51; decide) (by first | decide | lia | grind) (by first | decide | lia | grind) (fun q => by first | decide | lia | grind) (fun q => by first | decide | lia | grind) (fun q => by first | decide | lia | grind)
        have fu40 : fk [60, 62, 71] [3, 7, 10, 11, 13, 14, 15, 16, 17, 18, 19, 28] u u40 := by rw [eu40]; exact fk_up fu13 (by decide) (fun q => absurd q (by decide))
        have riu40 : ri u40 := by rw [eu40]; exact ri_1 riu13 (by decide) (fun q => absurd q (by decide))
        have rau40 : ra u40 := by rw [eu40]; exact ra_at rau13 (by first | decide | lia | grind) (by first | decide | lia | grind)
        have T41 : u40.1 60 22 = t1 := by rw [eu40]; exact (congrFun (uk_up_oc (by decide)) _).trans T14
        have C42 : u40.1 71 = (upd (u.1 71) (x5 : Int32).toNatClampNeg x10) := by rw [eu40]; exact (uk_up_oc (by decide)).trans C15
        refine g_iconst (v := 1) dX7_turns1_141 (by decide) ?_
        exact g_iret (ty := .boolean) dX7_turns1_142 rfl rfl ⟨⟨1, rfl, Or.inr rfl, fun _ => (tn_1 hrp (i := x5) (m := x8) (a := x10) (by lia) (by lia) ex8.symm hax10.1 hax10.2 C42 (T41.trans (by first | assumption | grind)) (fk_at fu40 (by decide))).2, fun q => absurd q (by decide)⟩, hu40, fu40, riu40, rau40, (tn_1 hrp (i := x5) (m := x8) (a := x10) (by lia) (by lia) ex8.symm hax10.1 hax10.2 C42 (T41.trans (by first | assumption | grind)) (fk_at fu40 (by decide))).1⟩
    · have zc20 := nx19 c20
      refine g_aload_n dX7_turns1_40 rfl ?_
      refine f_X7_207 rfl rfl dX7_turns1_41 ?_
      refine g_topi (fun x43 ex43 => ?_)
      have rx43 : 0 ≤ x43 ∧ x43 ≤ 255 := by rw [ex43]; exact iv_at hu13 _ _ rfl
      have qx43 : x43 = t1 := ex43.trans T14
      refine g_istore_n dX7_turns1_44 (by decide) ?_
      refine g_pick (lv' := [(0, .ref (uk_ad G 60)), (1, .int x5), (2, .int x8), (3, .int x43)]) [0, 1, 2, 3] rfl ?_
      have L45_43 : ∀ i45 : Int32, -1 ≤ i45 → ∀ (u46 : uk_Mem), iv u46 → fk [60, 62, 71] [3, 7, 10, 11, 13, 14, 15, 16, 17, 18, 19, 28] u u46 → ri u46 → ra u46 → i45 ≤ u.1 60 22 → x5 + 1 ≤ i45 → u46.1 71 = sh (upd (u.1 71) x5.toNatClampNeg x10) (u.1 60 22).toNatClampNeg i45.toNatClampNeg → u46.1 60 22 = u.1 60 22 → uk_G G X mX7_turns1 (d + 1) (q_X7_turns1 u) 45 [(0, .ref (uk_ad G 60)), (1, .int x5), (2, .int x8), (3, .int i45)] [] u46 := by
        refine uk_dnl ?_
        intro i45 ai45 ihi45  u46 hu46 fu46 riu46 rau46 ji450 ji451 ji452 ji453
        have C71_u46 : u46.1 71 = u46.1 71 := rfl
        obtain ⟨t47, Tt47⟩ : ∃ t, u46.1 60 22 = t := ⟨_, rfl⟩
        have Rt47 : 0 ≤ t47 ∧ t47 ≤ 255 := by rw [← Tt47]; exact iv_at hu46 _ _ rfl
        have wu46_60_3 : u46.1 60 3 = u.1 60 3 := fk_at fu46 (by decide)
        refine g_iload_n dX7_turns1_45 rfl ?_
        refine g_iload_n dX7_turns1_46 rfl ?_
        refine g_iconst (v := 1) dX7_turns1_47 (by decide) ?_
        refine g_iadd dX7_turns1_48 ?_
        refine g_topi (fun x48 ex48 => ?_)
        refine g_icmp_le (tgt := 72) dX7_turns1_49 (by decide) (fun c49 => ?_) (fun c49 => ?_)
        · have hc1 : i45 = x5 + 1 := by first | lia | grind
          refine g_aload_n dX7_turns1_72 rfl ?_
          refine f_X7_41 rfl rfl dX7_turns1_73 ?_
          refine g_iload_n dX7_turns1_76 rfl ?_
          refine g_iconst (v := 1) dX7_turns1_77 (by decide) ?_
          refine g_iadd dX7_turns1_78 ?_
          refine g_topi (fun x50 ex50 => ?_)
          refine g_aload_n dX7_turns1_79 rfl ?_
          refine f_X7_23 rfl rfl dX7_turns1_80 ?_
          refine g_iload_n dX7_turns1_83 rfl ?_
          have v51 : vp_in x8 8 := uk_vin 8 rfl (by first | decide | lia | grind) (by first | decide | lia | grind)
          refine g_iald rfl rfl v51 dX7_turns1_84 ?_
          refine g_topi (fun x52 ex52 => ?_)
          have bx52 := uk_cl v51
          have rx52 : (-4) ≤ x52 ∧ x52 ≤ 7 := by rw [ex52]; exact iv_at hu46 _ _ (uk_pick1 _ (by omega))
          have hbx52 : 0 ≤ x52 ∧ x52 < x8 := by rw [ex52, fk_c fu46 (by decide)]; exact ⟨hkx8.2.2.1, hkx8.2.2.2⟩
          have v53 : vp_in x50 256 := uk_vin 256 rfl (by first | decide | lia | grind) (by first | decide | lia | grind)
          have b54 := uk_cl v53
          refine g_iast rfl rfl v53 dX7_turns1_85 ?_
          refine g_mem (fun u55 eu55 => ?_)
          have hu55 : iv u55 := by rw [eu55]; exact iv_up hu46 (uk_pick1 _ (by omega)) (by first | lia | grind) (by first | lia | grind)
          have fu55 : fk [60, 62, 71] [3, 7, 10, 11, 13, 14, 15, 16, 17, 18, 19, 28] u u55 := by rw [eu55]; exact fk_up fu46 (by decide) (fun q => absurd q (by decide))
          have riu55 : ri u55 := by rw [eu55]; exact ri_1 riu46 (by decide) (fun q => absurd q (by decide))
          have rau55 : ra u55 := by rw [eu55]; exact ra_1 rau46 (by decide) (fun q => absurd q (by decide))
          have T56 : u55.1 60 22 = t47 := by rw [eu55]; exact (congrFun (uk_up_oc (by decide)) _).trans Tt47
          have C57 : u55.1 71 = (upd (u46.1 71) (x50 : Int32).toNatClampNeg x52) := by rw [eu55, uk_up_self, C71_u46]
          refine g_aload_n dX7_turns1_86 rfl ?_
          refine g_dup dX7_turns1_87 rfl ?_
          refine f_X7_207 rfl rfl dX7_turns1_88 ?_
          refine g_topi (fun x58 ex58 => ?_)
          have rx58 : 0 ≤ x58 ∧ x58 ≤ 255 := by rw [ex58]; exact iv_at hu55 _ _ rfl
          have qx58 : x58 = t47 := ex58.trans T56
          refine g_iconst (v := 1) dX7_turns1_91 (by decide) ?_
          refine g_iadd dX7_turns1_92 ?_
          refine g_topi (fun x59 ex59 => ?_)
          refine p_X7_207 rfl rfl dX7_turns1_93 ?_
          refine g_mem (fun u60 eu60 => ?_)
          have hu60 : iv u60 := by rw [eu60]; exact iv_up hu55 rfl (by have := tn_n hrp (i := x5) (m := x8) (a := x10) (b := x52) (by lia) (by lia) ex8.symm hax10.1 hax10.2 hbx52.1 hbx52.2; first | lia | grind) (by have := tn_n hrp (i := x5) (m := x8) (a := x10) (b := x52) (by lia) (by lia) ex8.symm hax10.1 hax10.2 hbx52.1 hbx52.2; first | lia | grind)
          have fu60 : fk [60, 62, 71] [3, 7, 10, 11, 13, 14, 15, 16, 17, 18, 19, 28] u u60 := by rw [eu60]; exact fk_up fu55 (by decide) (fun _ => by decide)
          have riu60 : ri u60 := by rw [eu60]; exact ri_1 riu55 (by decide) (fun _ => by decide)
          have rau60 : ra u60 := by rw [eu60]; exact ra_1 rau55 (by decide) (fun _ => by decide)
          have C61 : u60.1 71 = (upd (u46.1 71) (x50 : Int32).toNatClampNeg x52) := by rw [eu60]; exact (uk_up_oc (by decide)).trans C57
          have s62 : u60.1 60 22 = x59 := by rw [eu60, uk_up_at]; exact if_pos ⟨rfl, rfl⟩
          refine g_aload_n dX7_turns1_96 rfl ?_
          refine f_X7_13 rfl rfl dX7_turns1_97 ?_
          refine g_bipush (v := 8) dX7_turns1_100 (by decide) ?_
          refine g_iload_n dX7_turns1_102 rfl ?_
          refine g_iadd dX7_turns1_103 ?_
          refine g_topi (fun x63 ex63 => ?_)
          refine g_aload_n dX7_turns1_104 rfl ?_
          refine f_X7_13 rfl rfl dX7_turns1_105 ?_
          refine g_bipush (v := 32) dX7_turns1_108 (by decide) ?_
          refine g_iload_n dX7_turns1_110 rfl ?_
          refine g_iadd dX7_turns1_111 ?_
          refine g_topi (fun x64 ex64 => ?_)
          have v65 : vp_in x64 51 := uk_vin 51 rfl (by first | decide | lia | grind) (by first | decide | lia | grind)
          refine g_iald rfl rfl v65 dX7_turns1_112 ?_
          refine g_topi (fun x66 ex66 => ?_)
          have bx66 := uk_cl v65
          refine g_iconst (v := 3) dX7_turns1_113 (by decide) ?_
          refine g_icmp_ne (tgt := 131) dX7_turns1_114 (by decide) (fun c67 => ?_) (fun c67 => ?_)
          · refine g_aload_n dX7_turns1_131 rfl ?_
            refine f_X7_13 rfl rfl dX7_turns1_132 ?_
            refine g_bipush (v := 8) dX7_turns1_135 (by decide) ?_
            refine g_iload_n dX7_turns1_137 rfl ?_
            refine g_iadd dX7_turns1_138 ?_
            refine g_topi (fun x68 ex68 => ?_)
            have v69 : vp_in x68 51 := uk_vin 51 rfl (by first | decide | lia | grind) (by first | decide | lia | grind)
            refine g_iald rfl rfl v69 dX7_turns1_139 ?_
            refine g_topi (fun x70 ex70 => ?_)
            have bx70 := uk_cl v69
            have v71 : vp_in x63 51 := uk_vin 51 rfl (by first | decide | lia | grind) (by first | decide | lia | grind)
            have b72 := uk_cl v71
            refine g_iast rfl rfl v71 dX7_turns1_140 ?_
            refine g_mem (fun u73 eu73 => ?_)
            have hu73 : iv u73 := by rw [eu73]; exact iv_st hu60 (by unfold uk_is51; decide) (by first | decide | lia | grind) (by first | decide | lia | grind) (fun q => by first | decide | lia | grind) (fun q => by first | decide | lia | grind) (fun q => by first | decide | lia | grind)
            have fu73 : fk [60, 62, 71] [3, 7, 10, 11, 13, 14, 15, 16, 17, 18, 19, 28] u u73 := by rw [eu73]; exact fk_up fu60 (by decide) (fun q => absurd q (by decide))
            have riu73 : ri u73 := by rw [eu73]; exact ri_1 riu60 (by decide) (fun q => absurd q (by decide))
            have rau73 : ra u73 := by rw [eu73]; exact ra_at rau60 (by first | decide | lia | grind) (by first | decide | lia | grind)
            have T74 : u73.1 60 22 = x59 := by rw [eu73]; exact (congrFun (uk_up_oc (by decide)) _).trans s62
            have C75 : u73.1 71 = (upd (u46.1 71) (x50 : Int32).toNatClampNeg x52) := by rw [eu73]; exact (uk_up_oc (by decide)).trans C61
            refine g_iconst (v := 1) dX7_turns1_141 (by decide) ?_
            exact g_iret (ty := .boolean) dX7_turns1_142 rfl rfl ⟨⟨1, rfl, Or.inr rfl, fun _ => (tn_2 hrp (i := x5) (m := x8) (a := x10) (b := x52) (by lia) (by lia) ex8.symm hax10.1 hax10.2 hbx52.1 hbx52.2 (C75.trans (by rw [ji452, hc1, ex50])) (T74.trans (by first | assumption | grind)) (fk_at fu73 (by decide))).2, fun q => absurd q (by decide)⟩, hu73, fu73, riu73, rau73, (tn_2 hrp (i := x5) (m := x8) (a := x10) (b := x52) (by lia) (by lia) ex8.symm hax10.1 hax10.2 hbx52.1 hbx52.2 (C75.trans (by rw [ji452, hc1, ex50])) (T74.trans (by first | assumption | grind)) (fk_at fu73 (by decide))).1⟩
          · refine g_iconst (v := 1) dX7_turns1_117 (by decide) ?_
            refine g_aload_n dX7_turns1_118 rfl ?_
            refine f_X7_13 rfl rfl dX7_turns1_119 ?_
            refine g_bipush (v := 8) dX7_turns1_122 (by decide) ?_
            refine g_iload_n dX7_turns1_124 rfl ?_
            refine g_iadd dX7_turns1_125 ?_
            refine g_topi (fun x76 ex76 => ?_)
            have v77 : vp_in x76 51 := uk_vin 51 rfl (by first | decide | lia | grind) (by first | decide | lia | grind)
            refine g_iald rfl rfl v77 dX7_turns1_126 ?_
            refine g_topi (fun x78 ex78 => ?_)
            have bx78 := uk_cl v77
            refine g_isub dX7_turns1_127 ?_
            refine g_topi (fun x79 ex79 => ?_)
            refine g_goto (tgt := 140) dX7_turns1_128 (by decide) ?_
            have v80 : vp_in x63 51 := uk_vin 51 rfl (by first | decide | lia | grind) (by first | decide | lia | grind)
            have b81 := uk_cl v80
            refine g_iast rfl rfl v80 dX7_turns1_140 ?_
            refine g_mem (fun u82 eu82 => ?_)
            have hu82 : iv u82 := by rw [eu82]; exact iv_st hu60 (by unfold uk_is51; decide) (by first | decide | lia | grind) (by first | decide | lia | grind) (fun q => by first | decide | lia | grind) (fun q => by first | decide | lia | grind) (fun q => by first | decide | lia | grind)
            have fu82 : fk [60, 62, 71] [3, 7, 10, 11, 13, 14, 15, 16, 17, 18, 19, 28] u u82 := by rw [eu82]; exact fk_up fu60 (by decide) (fun q => absurd q (by decide))
            have riu82 : ri u82 := by rw [eu82]; exact ri_1 riu60 (by decide) (fun q => absurd q (by decide))
            have rau82 : ra u82 := by rw [eu82]; exact ra_at rau60 (by first | decide | lia | grind) (by first | decide | lia | grind)
            have T83 : u82.1 60 22 = x59 := by rw [eu82]; exact (congrFun (uk_up_oc (by decide)) _).trans s62
            have C84 : u82.1 71 = (upd (u46.1 71) (x50 : Int32).toNatClampNeg x52) := by rw [eu82]; exact (uk_up_oc (by decide)).trans C61
            refine g_iconst (v := 1) dX7_turns1_141 (by decide) ?_
            exact g_iret (ty := .boolean) dX7_turns1_142 rfl rfl ⟨⟨1, rfl, Or.inr rfl, fun _ => (tn_2 hrp (i := x5) (m := x8) (a := x10) (b := x52) (by lia) (by lia) ex8.symm hax10.1 hax10.2 hbx52.1 hbx52.2 (C84.trans (by rw [ji452, hc1, ex50])) (T83.trans (by first | assumption | grind)) (fk_at fu82 (by decide))).2, fun q => absurd q (by decide)⟩, hu82, fu82, riu82, rau82, (tn_2 hrp (i := x5) (m := x8) (a := x10) (b := x52) (by lia) (by lia) ex8.symm hax10.1 hax10.2 hbx52.1 hbx52.2 (C84.trans (by rw [ji452, hc1, ex50])) (T83.trans (by first | assumption | grind)) (fk_at fu82 (by decide))).1⟩
        · refine g_aload_n dX7_turns1_52 rfl ?_
          refine f_X7_41 rfl rfl dX7_turns1_53 ?_
          refine g_iload_n dX7_turns1_56 rfl ?_
          refine g_aload_n dX7_turns1_57 rfl ?_
          refine f_X7_41 rfl rfl dX7_turns1_58 ?_
          refine g_iload_n dX7_turns1_61 rfl ?_
          refine g_iconst (v := 1) dX7_turns1_62 (by decide) ?_
          refine g_isub dX7_turns1_63 ?_
          refine g_topi (fun x85 ex85 => ?_)
          have v86 : vp_in x85 256 := uk_vin 256 rfl (by first | decide | lia | grind) (by first | decide | lia | grind)
          refine g_iald rfl rfl v86 dX7_turns1_64 ?_
          refine g_topi (fun x87 ex87 => ?_)
          have bx87 := uk_cl v86
          have rx87 : 0 ≤ x87 ∧ x87 ≤ 7 := by rw [ex87]; exact iv_at hu46 _ _ (uk_pick1 _ (by omega))
          have px87 : x87 = (u46.1 71) (x85 : Int32).toNatClampNeg := ex87.trans (congrFun C71_u46 _)
          have v88 : vp_in i45 256 := uk_vin 256 rfl (by first | decide | lia | grind) (by first | decide | lia | grind)
          have b89 := uk_cl v88
          refine g_iast rfl rfl v88 dX7_turns1_65 ?_
          refine g_mem (fun u90 eu90 => ?_)
          have hu90 : iv u90 := by rw [eu90]; exact iv_up hu46 (uk_pick1 _ (by omega)) (by first | lia | grind) (by first | lia | grind)
          have fu90 : fk [60, 62, 71] [3, 7, 10, 11, 13, 14, 15, 16, 17, 18, 19, 28] u u90 := by rw [eu90]; exact fk_up fu46 (by decide) (fun q => absurd q (by decide))
          have riu90 : ri u90 := by rw [eu90]; exact ri_1 riu46 (by decide) (fun q => absurd q (by decide))
          have rau90 : ra u90 := by rw [eu90]; exact ra_1 rau46 (by decide) (fun q => absurd q (by decide))
          have T91 : u90.1 60 22 = t47 := by rw [eu90]; exact (congrFun (uk_up_oc (by decide)) _).trans Tt47
          have C92 : u90.1 71 = (upd (u46.1 71) (i45 : Int32).toNatClampNeg x87) := by rw [eu90, uk_up_self, C71_u46]
          refine g_iinc (v := i45 - 1) dX7_turns1_66 rfl (uk_m1 _) (by decide) ?_
          refine g_pick (lv' := [(0, .ref (uk_ad G 60)), (1, .int x5), (2, .int x8), (3, .int (i45 - 1))]) [0, 1, 2, 3] rfl ?_
          refine g_goto (tgt := 45) dX7_turns1_69 (by decide) ?_
          refine g_pick (lv' := [(0, .ref (uk_ad G 60)), (1, .int x5), (2, .int x8), (3, .int (i45 - 1))]) [0, 1, 2, 3] rfl ?_
          exact ihi45 (by first | lia | grind)  u90 hu90 fu90 riu90 rau90 (by first | lia | grind) (by first | lia | grind) (by rw [C92, px87, ex85, uk_s1 (by lia), ji452]; exact sh_s (by have := uk_cge 1 1 rfl (show (1 : Int32) ≤ i45 by lia); exact this) (uk_cmo (by lia) ji450)) (T91.trans (by first | assumption | grind))
      refine g_pick (lv' := [(0, .ref (uk_ad G 60)), (1, .int x5), (2, .int x8), (3, .int x43)]) [0, 1, 2, 3] rfl ?_
      exact L45_43 x43 (by first | decide | lia | grind)  u13 hu13 fu13 riu13 rau13 (by first | lia | grind) (by first | lia | grind) (C15.trans (by rw [show x43 = u.1 60 22 by first | assumption | grind]; exact (sh_0 _ _).symm)) (T14.trans (by first | assumption | grind))
  · refine g_iconst (v := 0) dX7_turns1_11 (by decide) ?_
    exact g_iret (ty := .boolean) dX7_turns1_12 rfl rfl ⟨⟨0, rfl, Or.inl rfl, fun q => absurd rfl q, fun _ => by first | trivial | lia | grind⟩, hu, f0, hri, hra, hrp⟩
abbrev q_X7_mills (u : uk_Mem) (m : Int32) (n : Int32) (r : Option Value) (u' : uk_Mem) : Prop := (∃ x : Int32, r = some (.int x) ∧ True) ∧ (iv u' ∧ fk [60, 62, 71] [3, 7, 10, 11, 13, 14, 15, 16, 17, 18, 19, 28] u u' ∧ ri u' ∧ ra u' ∧ rp u')
set_option maxHeartbeats 4000000 in
set_option maxRecDepth 20000 in
theorem c_X7_mills {G : uk_D} (hs : uk_Sep G) {u : uk_Mem} (hu : iv u) (hri : ri u) (m : Int32) (n : Int32) (p0 : 0 ≤ m) (p1 : m < u.1 60 3) (p2 : m ≤ 7) (p3 : n ≤ 128) (d : Nat) : uk_Meth G (d + 2) mX7_mills [.ref (uk_ad G 60), .int m, .int n] u (q_X7_mills u m n) := by
  refine uk_Meth.of hs (by decide) (Nat.le_of_ble_eq_true rfl) (fun X => ?_)
  have f0 : fk [60, 62, 71] [3, 7, 10, 11, 13, 14, 15, 16, 17, 18, 19, 28] u u := fk_rf
  refine g_iconst (v := 0) dX7_mills_0 (by decide) ?_
  refine g_istore_n dX7_mills_1 (by decide) ?_
  refine g_pick (lv' := [(0, .ref (uk_ad G 60)), (1, .int m), (2, .int n), (3, .int 0)]) [0, 1, 2, 3] rfl ?_
  refine g_aload_n dX7_mills_2 rfl ?_
  refine g_iload_n dX7_mills_3 rfl ?_
  refine cl_X7_213 (c := 60) (As := [.int m]) rfl (c_X7_lays (G := G) hs hu hri  m (by first | trivial | decide | lia | grind) (by first | trivial | decide | lia | grind) (by first | trivial | decide | lia | grind) (d)) rfl (by omega) rfl rfl (Nat.le_of_ble_eq_true rfl) dX7_mills_4 (fun r1 u2 q3 => ?_)
  obtain ⟨rfl, mq3⟩ := q3
  obtain ⟨hu2, gu2, riu2, rau2, rpu2⟩ := mq3
  have fu2 : fk [60, 62, 71] [3, 7, 10, 11, 13, 14, 15, 16, 17, 18, 19, 28] u u2 := fk_tr f0 gu2 (by decide) (by decide)
  have wu2_60_3 : u2.1 60 3 = u.1 60 3 := fk_at gu2 (by decide)
  have L7_3 : ∀ i5 : Int32, 0 ≤ i5 → i5 ≤ 128 → ∀ (u6 : uk_Mem), iv u6 → fk [60, 62, 71] [3, 7, 10, 11, 13, 14, 15, 16, 17, 18, 19, 28] u u6 → ri u6 → ra u6 → rp u6 → uk_G G X mX7_mills (d + 2) (q_X7_mills u m n) 7 [(0, .ref (uk_ad G 60)), (1, .int m), (2, .int n), (3, .int i5)] [] u6 := by
    refine uk_upl 128 ?_
    intro i5 ai5 bi5 ihi5  u6 hu6 fu6 riu6 rau6 rpu6
    have wu6_60_3 : u6.1 60 3 = u.1 60 3 := fk_at fu6 (by decide)
    refine g_iload_n dX7_mills_7 rfl ?_
    refine g_iload_n dX7_mills_8 rfl ?_
    refine g_icmp_ge (tgt := 25) dX7_mills_9 (by decide) (fun c7 => ?_) (fun c7 => ?_)
    · refine g_iload_n dX7_mills_25 rfl ?_
      exact g_iret (ty := .int) dX7_mills_26 rfl rfl ⟨⟨_, rfl, by first | trivial | lia | grind⟩, hu6, fu6, riu6, rau6, rpu6⟩
    · refine g_aload_n dX7_mills_12 rfl ?_
      refine cl_X7_216 (c := 60) (As := []) rfl (c_X7_turns1 (G := G) hs hu6 riu6 rau6 rpu6    (d)) rfl (by omega) rfl rfl (Nat.le_of_ble_eq_true rfl) dX7_mills_13 (fun r8 u9 q10 => ?_)
      obtain ⟨⟨x11, rfl, tx11, nx11, zx11⟩, mq10⟩ := q10
      obtain ⟨hu9, gu9, riu9, rau9, rpu9⟩ := mq10
      have fu9 : fk [60, 62, 71] [3, 7, 10, 11, 13, 14, 15, 16, 17, 18, 19, 28] u u9 := fk_tr fu6 gu9 (by decide) (by decide)
      have wu9_60_3 : u9.1 60 3 = u6.1 60 3 := fk_at gu9 (by decide)
      refine g_if_eq (tgt := 25) dX7_mills_16 (by decide) (fun c12 => ?_) (fun c12 => ?_)
      · have zc12 := zx11 c12
        refine g_iload_n dX7_mills_25 rfl ?_
        exact g_iret (ty := .int) dX7_mills_26 rfl rfl ⟨⟨_, rfl, by first | trivial | lia | grind⟩, hu9, fu9, riu9, rau9, rpu9⟩
      · have zc12 := nx11 c12
        refine g_iinc (v := i5 + 1) dX7_mills_19 rfl rfl (by decide) ?_
        refine g_pick (lv' := [(0, .ref (uk_ad G 60)), (1, .int m), (2, .int n), (3, .int (i5 + 1))]) [0, 1, 2, 3] rfl ?_
        refine g_goto (tgt := 7) dX7_mills_22 (by decide) ?_
        refine g_pick (lv' := [(0, .ref (uk_ad G 60)), (1, .int m), (2, .int n), (3, .int (i5 + 1))]) [0, 1, 2, 3] rfl ?_
        exact ihi5 (by first | lia | grind)  u9 hu9 fu9 riu9 rau9 rpu9 
  refine g_pick (lv' := [(0, .ref (uk_ad G 60)), (1, .int m), (2, .int n), (3, .int 0)]) [0, 1, 2, 3] rfl ?_
  exact L7_3 0 (by first | decide | lia | grind) (by first | decide | lia | grind)  u2 hu2 fu2 riu2 rau2 rpu2 
abbrev q_X7_turns (u : uk_Mem) (m : Int32) (w : Int32) (r : Option Value) (u' : uk_Mem) : Prop := (∃ x : Int32, r = some (.int x) ∧ True) ∧ (iv u' ∧ fk [60, 62, 71] [3, 7, 10, 11, 13, 14, 15, 16, 17, 18, 19, 28] u u' ∧ ri u')
set_option maxHeartbeats 4000000 in
set_option maxRecDepth 20000 in
theorem c_X7_turns {G : uk_D} (hs : uk_Sep G) {u : uk_Mem} (hu : iv u) (hri : ri u) (m : Int32) (w : Int32) (d : Nat) : uk_Meth G (d + 3) mX7_turns [.ref (uk_ad G 60), .int m, .int w] u (q_X7_turns u m w) := by
  refine uk_Meth.of hs (by decide) (Nat.le_of_ble_eq_true rfl) (fun X => ?_)
  have f0 : fk [60, 62, 71] [3, 7, 10, 11, 13, 14, 15, 16, 17, 18, 19, 28] u u := fk_rf
  refine g_aload_n dX7_turns_0 rfl ?_
  refine g_iload_n dX7_turns_1 rfl ?_
  refine cl_X7_163 (c := 60) (As := [.int m]) rfl (c_X7_isStuff (G := G) hs hu  m  (d + 1)) rfl (by omega) rfl rfl (Nat.le_of_ble_eq_true rfl) dX7_turns_2 (fun r1 u2 q3 => ?_)
  obtain ⟨⟨x4, rfl, tx4, nx4, zx4⟩, mq3⟩ := q3
  rw [mq3]
  refine g_if_eq (tgt := 15) dX7_turns_5 (by decide) (fun c5 => ?_) (fun c5 => ?_)
  · have zc5 := zx4 c5
    refine g_iconst (v := (-1)) dX7_turns_15 (by decide) ?_
    exact g_iret (ty := .int) dX7_turns_16 rfl rfl ⟨⟨_, rfl, by first | trivial | lia | grind⟩, hu, f0, hri⟩
  · have zc5 := nx4 c5
    refine g_iload_n dX7_turns_8 rfl ?_
    refine cl_X7_197 (As := [.int w]) rfl (c_X7_isPart (G := G) hs hu  w  (d + 1)) rfl (by omega) rfl (Nat.le_of_ble_eq_true rfl) dX7_turns_9 (fun r6 u7 q8 => ?_)
    obtain ⟨⟨x9, rfl, tx9, nx9, zx9⟩, mq8⟩ := q8
    rw [mq8]
    refine g_if_ne (tgt := 17) dX7_turns_12 (by decide) (fun c10 => ?_) (fun c10 => ?_)
    · have zc10 := nx9 c10
      refine g_aload_n dX7_turns_17 rfl ?_
      refine g_iload_n dX7_turns_18 rfl ?_
      refine g_sipush (v := 128) dX7_turns_19 (by decide) ?_
      refine cl_X7_220 (c := 60) (As := [.int m, .int 128]) rfl (c_X7_mills (G := G) hs hu hri  m 128 (by first | trivial | decide | lia | grind) (by first | trivial | decide | lia | grind) (by first | trivial | decide | lia | grind) (by first | trivial | decide | lia | grind) (d)) rfl (by omega) rfl rfl (Nat.le_of_ble_eq_true rfl) dX7_turns_22 (fun r11 u12 q13 => ?_)
      obtain ⟨⟨x14, rfl, tx14⟩, mq13⟩ := q13
      obtain ⟨hu12, gu12, riu12, rau12, rpu12⟩ := mq13
      have fu12 : fk [60, 62, 71] [3, 7, 10, 11, 13, 14, 15, 16, 17, 18, 19, 28] u u12 := fk_tr f0 gu12 (by decide) (by decide)
      have wu12_60_3 : u12.1 60 3 = u.1 60 3 := fk_at gu12 (by decide)
      refine g_istore_n dX7_turns_25 (by decide) ?_
      refine g_pick (lv' := [(0, .ref (uk_ad G 60)), (1, .int m), (2, .int w), (3, .int x14)]) [0, 1, 2, 3] rfl ?_
      refine g_iload_n dX7_turns_26 rfl ?_
      refine g_if_ne (tgt := 34) dX7_turns_27 (by decide) (fun c15 => ?_) (fun c15 => ?_)
      · refine g_aload_n dX7_turns_34 rfl ?_
        refine f_X7_207 rfl rfl dX7_turns_35 ?_
        refine g_topi (fun x16 ex16 => ?_)
        have rx16 : 0 ≤ x16 ∧ x16 ≤ 255 := by rw [ex16]; exact iv_at hu12 _ _ rfl
        have s17 : u12.1 60 22 = x16 := ex16.symm
        exact g_iret (ty := .int) dX7_turns_38 rfl rfl ⟨⟨_, rfl, by first | trivial | lia | grind⟩, hu12, fu12, riu12⟩
      · refine g_iload_n dX7_turns_30 rfl ?_
        refine g_goto (tgt := 38) dX7_turns_31 (by decide) ?_
        exact g_iret (ty := .int) dX7_turns_38 rfl rfl ⟨⟨_, rfl, by first | trivial | lia | grind⟩, hu12, fu12, riu12⟩
    · have zc10 := zx9 c10
      refine g_iconst (v := (-1)) dX7_turns_15 (by decide) ?_
      exact g_iret (ty := .int) dX7_turns_16 rfl rfl ⟨⟨_, rfl, by first | trivial | lia | grind⟩, hu, f0, hri⟩
abbrev q_X7_comes (u : uk_Mem) (m : Int32) (i : Int32) (r : Option Value) (u' : uk_Mem) : Prop := (∃ x : Int32, r = some (.int x) ∧ True) ∧ (iv u' ∧ fk [60, 62, 71] [3, 7, 10, 11, 13, 14, 15, 16, 17, 18, 19, 28] u u' ∧ ri u')
set_option maxHeartbeats 4000000 in
set_option maxRecDepth 20000 in
theorem c_X7_comes {G : uk_D} (hs : uk_Sep G) {u : uk_Mem} (hu : iv u) (hri : ri u) (m : Int32) (i : Int32) (d : Nat) : uk_Meth G (d + 3) mX7_comes [.ref (uk_ad G 60), .int m, .int i] u (q_X7_comes u m i) := by
  refine uk_Meth.of hs (by decide) (Nat.le_of_ble_eq_true rfl) (fun X => ?_)
  have f0 : fk [60, 62, 71] [3, 7, 10, 11, 13, 14, 15, 16, 17, 18, 19, 28] u u := fk_rf
  refine g_aload_n dX7_comes_0 rfl ?_
  refine g_iload_n dX7_comes_1 rfl ?_
  refine cl_X7_163 (c := 60) (As := [.int m]) rfl (c_X7_isStuff (G := G) hs hu  m  (d + 1)) rfl (by omega) rfl rfl (Nat.le_of_ble_eq_true rfl) dX7_comes_2 (fun r1 u2 q3 => ?_)
  obtain ⟨⟨x4, rfl, tx4, nx4, zx4⟩, mq3⟩ := q3
  rw [mq3]
  refine g_if_eq (tgt := 12) dX7_comes_5 (by decide) (fun c5 => ?_) (fun c5 => ?_)
  · have zc5 := zx4 c5
    refine g_iconst (v := (-1)) dX7_comes_12 (by decide) ?_
    exact g_iret (ty := .int) dX7_comes_13 rfl rfl ⟨⟨_, rfl, by first | trivial | lia | grind⟩, hu, f0, hri⟩
  · have zc5 := nx4 c5
    refine g_iload_n dX7_comes_8 rfl ?_
    refine g_if_ge (tgt := 14) dX7_comes_9 (by decide) (fun c6 => ?_) (fun c6 => ?_)
    · refine g_aload_n dX7_comes_14 rfl ?_
      refine g_iload_n dX7_comes_15 rfl ?_
      refine g_sipush (v := 128) dX7_comes_16 (by decide) ?_
      refine cl_X7_220 (c := 60) (As := [.int m, .int 128]) rfl (c_X7_mills (G := G) hs hu hri  m 128 (by first | trivial | decide | lia | grind) (by first | trivial | decide | lia | grind) (by first | trivial | decide | lia | grind) (by first | trivial | decide | lia | grind) (d)) rfl (by omega) rfl rfl (Nat.le_of_ble_eq_true rfl) dX7_comes_19 (fun r7 u8 q9 => ?_)
      obtain ⟨⟨x10, rfl, tx10⟩, mq9⟩ := q9
      obtain ⟨hu8, gu8, riu8, rau8, rpu8⟩ := mq9
      have fu8 : fk [60, 62, 71] [3, 7, 10, 11, 13, 14, 15, 16, 17, 18, 19, 28] u u8 := fk_tr f0 gu8 (by decide) (by decide)
      have wu8_60_3 : u8.1 60 3 = u.1 60 3 := fk_at gu8 (by decide)
      refine g_pop dX7_comes_22 rfl ?_
      refine g_iload_n dX7_comes_23 rfl ?_
      refine g_aload_n dX7_comes_24 rfl ?_
      refine f_X7_207 rfl rfl dX7_comes_25 ?_
      refine g_topi (fun x11 ex11 => ?_)
      have rx11 : 0 ≤ x11 ∧ x11 ≤ 255 := by rw [ex11]; exact iv_at hu8 _ _ rfl
      have s12 : u8.1 60 22 = x11 := ex11.symm
      refine g_icmp_ge (tgt := 40) dX7_comes_28 (by decide) (fun c13 => ?_) (fun c13 => ?_)
      · refine g_bipush (v := (-4)) dX7_comes_40 (by decide) ?_
        exact g_iret (ty := .int) dX7_comes_42 rfl rfl ⟨⟨_, rfl, by first | trivial | lia | grind⟩, hu8, fu8, riu8⟩
      · refine g_aload_n dX7_comes_31 rfl ?_
        refine f_X7_41 rfl rfl dX7_comes_32 ?_
        refine g_iload_n dX7_comes_35 rfl ?_
        have v14 : vp_in i 256 := uk_vin 256 rfl (by first | decide | lia | grind) (by first | decide | lia | grind)
        refine g_iald rfl rfl v14 dX7_comes_36 ?_
        refine g_topi (fun x15 ex15 => ?_)
        have bx15 := uk_cl v14
        have rx15 : 0 ≤ x15 ∧ x15 ≤ 7 := by rw [ex15]; exact iv_at hu8 _ _ (uk_pick1 _ (by omega))
        refine g_goto (tgt := 42) dX7_comes_37 (by decide) ?_
        exact g_iret (ty := .int) dX7_comes_42 rfl rfl ⟨⟨_, rfl, by first | trivial | lia | grind⟩, hu8, fu8, riu8⟩
    · refine g_iconst (v := (-1)) dX7_comes_12 (by decide) ?_
      exact g_iret (ty := .int) dX7_comes_13 rfl rfl ⟨⟨_, rfl, by first | trivial | lia | grind⟩, hu, f0, hri⟩
abbrev q_X7_after (u : uk_Mem) (m : Int32) (n : Int32) (b : Int32) (r : Option Value) (u' : uk_Mem) : Prop := (∃ x : Int32, r = some (.int x) ∧ True) ∧ (iv u' ∧ fk [60, 62, 71] [3, 7, 10, 11, 13, 14, 15, 16, 17, 18, 19, 28] u u' ∧ ri u')
set_option maxHeartbeats 4000000 in
set_option maxRecDepth 20000 in
theorem c_X7_after {G : uk_D} (hs : uk_Sep G) {u : uk_Mem} (hu : iv u) (hri : ri u) (m : Int32) (n : Int32) (b : Int32) (d : Nat) : uk_Meth G (d + 3) mX7_after [.ref (uk_ad G 60), .int m, .int n, .int b] u (q_X7_after u m n b) := by
  refine uk_Meth.of hs (by decide) (Nat.le_of_ble_eq_true rfl) (fun X => ?_)
  have f0 : fk [60, 62, 71] [3, 7, 10, 11, 13, 14, 15, 16, 17, 18, 19, 28] u u := fk_rf
  refine g_aload_n dX7_after_0 rfl ?_
  refine g_iload_n dX7_after_1 rfl ?_
  refine cl_X7_163 (c := 60) (As := [.int m]) rfl (c_X7_isStuff (G := G) hs hu  m  (d + 1)) rfl (by omega) rfl rfl (Nat.le_of_ble_eq_true rfl) dX7_after_2 (fun r1 u2 q3 => ?_)
  obtain ⟨⟨x4, rfl, tx4, nx4, zx4⟩, mq3⟩ := q3
  rw [mq3]
  refine g_if_eq (tgt := 28) dX7_after_5 (by decide) (fun c5 => ?_) (fun c5 => ?_)
  · have zc5 := zx4 c5
    refine g_iconst (v := (-1)) dX7_after_28 (by decide) ?_
    exact g_iret (ty := .int) dX7_after_29 rfl rfl ⟨⟨_, rfl, by first | trivial | lia | grind⟩, hu, f0, hri⟩
  · have zc5 := nx4 c5
    refine g_iload_n dX7_after_8 rfl ?_
    refine g_i2l dX7_after_9 ?_
    refine g_lconst (v := 0) dX7_after_10 (by decide) ?_
    refine g_ldc2 (v := 127) k_X7_82 dX7_after_11 ?_
    refine cl_X7_84 (As := [.long n.toInt64, .long 0, .long 127]) rfl (c_X7_in (G := G) hs hu  n 0 127  (d + 2)) rfl (by omega) rfl (Nat.le_of_ble_eq_true rfl) dX7_after_14 (fun r6 u7 q8 => ?_)
    obtain ⟨⟨x9, rfl, tx9, nx9, zx9⟩, mq8⟩ := q8
    rw [mq8]
    refine g_if_eq (tgt := 28) dX7_after_17 (by decide) (fun c10 => ?_) (fun c10 => ?_)
    · have zc10 := zx9 c10
      refine g_iconst (v := (-1)) dX7_after_28 (by decide) ?_
      exact g_iret (ty := .int) dX7_after_29 rfl rfl ⟨⟨_, rfl, by first | trivial | lia | grind⟩, hu, f0, hri⟩
    · have zc10 := nx9 c10
      refine g_aload_n dX7_after_20 rfl ?_
      refine g_iload_n dX7_after_21 rfl ?_
      refine cl_X7_163 (c := 60) (As := [.int b]) rfl (c_X7_isStuff (G := G) hs hu  b  (d + 1)) rfl (by omega) rfl rfl (Nat.le_of_ble_eq_true rfl) dX7_after_22 (fun r11 u12 q13 => ?_)
      obtain ⟨⟨x14, rfl, tx14, nx14, zx14⟩, mq13⟩ := q13
      rw [mq13]
      refine g_if_ne (tgt := 30) dX7_after_25 (by decide) (fun c15 => ?_) (fun c15 => ?_)
      · have zc15 := nx14 c15
        refine g_aload_n dX7_after_30 rfl ?_
        refine g_iload_n dX7_after_31 rfl ?_
        refine g_iload_n dX7_after_32 rfl ?_
        refine cl_X7_220 (c := 60) (As := [.int m, .int n]) rfl (c_X7_mills (G := G) hs hu hri  m n (by first | trivial | decide | lia | grind) (by first | trivial | decide | lia | grind) (by first | trivial | decide | lia | grind) (by first | trivial | decide | lia | grind) (d)) rfl (by omega) rfl rfl (Nat.le_of_ble_eq_true rfl) dX7_after_33 (fun r16 u17 q18 => ?_)
        obtain ⟨⟨x19, rfl, tx19⟩, mq18⟩ := q18
        obtain ⟨hu17, gu17, riu17, rau17, rpu17⟩ := mq18
        have fu17 : fk [60, 62, 71] [3, 7, 10, 11, 13, 14, 15, 16, 17, 18, 19, 28] u u17 := fk_tr f0 gu17 (by decide) (by decide)
        have wu17_60_3 : u17.1 60 3 = u.1 60 3 := fk_at gu17 (by decide)
        refine g_pop dX7_after_36 rfl ?_
        refine g_aload_n dX7_after_37 rfl ?_
        refine g_iload_n dX7_after_38 rfl ?_
        refine cl_X7_223 (c := 60) (As := [.int b]) rfl (c_X7_countIn (G := G) hs hu17  b  (d + 1)) rfl (by omega) rfl rfl (Nat.le_of_ble_eq_true rfl) dX7_after_39 (fun r20 u21 q22 => ?_)
        obtain ⟨⟨x23, rfl, tx23⟩, mq22⟩ := q22
        rw [mq22]
        exact g_iret (ty := .int) dX7_after_42 rfl rfl ⟨⟨_, rfl, by first | trivial | lia | grind⟩, hu17, fu17, riu17⟩
      · have zc15 := zx14 c15
        refine g_iconst (v := (-1)) dX7_after_28 (by decide) ?_
        exact g_iret (ty := .int) dX7_after_29 rfl rfl ⟨⟨_, rfl, by first | trivial | lia | grind⟩, hu, f0, hri⟩
abbrev q_X7_first (u : uk_Mem) (m : Int32) (b : Int32) (r : Option Value) (u' : uk_Mem) : Prop := (∃ x : Int32, r = some (.int x) ∧ True) ∧ (iv u' ∧ fk [60, 62, 71] [3, 7, 10, 11, 13, 14, 15, 16, 17, 18, 19, 28] u u' ∧ ri u')
set_option maxHeartbeats 4000000 in
set_option maxRecDepth 20000 in
theorem c_X7_first {G : uk_D} (hs : uk_Sep G) {u : uk_Mem} (hu : iv u) (hri : ri u) (m : Int32) (b : Int32) (d : Nat) : uk_Meth G (d + 2) mX7_first [.ref (uk_ad G 60), .int m, .int b] u (q_X7_first u m b) := by
  refine uk_Meth.of hs (by decide) (Nat.le_of_ble_eq_true rfl) (fun X => ?_)
  have f0 : fk [60, 62, 71] [3, 7, 10, 11, 13, 14, 15, 16, 17, 18, 19, 28] u u := fk_rf
  refine g_aload_n dX7_first_0 rfl ?_
  refine g_iload_n dX7_first_1 rfl ?_
  refine cl_X7_163 (c := 60) (As := [.int m]) rfl (c_X7_isStuff (G := G) hs hu  m  (d)) rfl (by omega) rfl rfl (Nat.le_of_ble_eq_true rfl) dX7_first_2 (fun r1 u2 q3 => ?_)
  obtain ⟨⟨x4, rfl, tx4, nx4, zx4⟩, mq3⟩ := q3
  rw [mq3]
  refine g_if_eq (tgt := 16) dX7_first_5 (by decide) (fun c5 => ?_) (fun c5 => ?_)
  · have zc5 := zx4 c5
    refine g_iconst (v := (-1)) dX7_first_16 (by decide) ?_
    exact g_iret (ty := .int) dX7_first_17 rfl rfl ⟨⟨_, rfl, by first | trivial | lia | grind⟩, hu, f0, hri⟩
  · have zc5 := nx4 c5
    refine g_aload_n dX7_first_8 rfl ?_
    refine g_iload_n dX7_first_9 rfl ?_
    refine cl_X7_163 (c := 60) (As := [.int b]) rfl (c_X7_isStuff (G := G) hs hu  b  (d)) rfl (by omega) rfl rfl (Nat.le_of_ble_eq_true rfl) dX7_first_10 (fun r6 u7 q8 => ?_)
    obtain ⟨⟨x9, rfl, tx9, nx9, zx9⟩, mq8⟩ := q8
    rw [mq8]
    refine g_if_ne (tgt := 18) dX7_first_13 (by decide) (fun c10 => ?_) (fun c10 => ?_)
    · have zc10 := nx9 c10
      refine g_iconst (v := 0) dX7_first_18 (by decide) ?_
      refine g_istore_n dX7_first_19 (by decide) ?_
      refine g_pick (lv' := [(0, .ref (uk_ad G 60)), (1, .int m), (2, .int b), (3, .int 0)]) [0, 1, 2, 3] rfl ?_
      refine g_aload_n dX7_first_20 rfl ?_
      refine g_iload_n dX7_first_21 rfl ?_
      refine cl_X7_213 (c := 60) (As := [.int m]) rfl (c_X7_lays (G := G) hs hu hri  m (by first | trivial | decide | lia | grind) (by first | trivial | decide | lia | grind) (by first | trivial | decide | lia | grind) (d)) rfl (by omega) rfl rfl (Nat.le_of_ble_eq_true rfl) dX7_first_22 (fun r11 u12 q13 => ?_)
      obtain ⟨rfl, mq13⟩ := q13
      obtain ⟨hu12, gu12, riu12, rau12, rpu12⟩ := mq13
      have fu12 : fk [60, 62, 71] [3, 7, 10, 11, 13, 14, 15, 16, 17, 18, 19, 28] u u12 := fk_tr f0 gu12 (by decide) (by decide)
      have wu12_60_3 : u12.1 60 3 = u.1 60 3 := fk_at gu12 (by decide)
      have L25_13 : ∀ i15 : Int32, 0 ≤ i15 → i15 ≤ 255 → ∀ (u16 : uk_Mem), iv u16 → fk [60, 62, 71] [3, 7, 10, 11, 13, 14, 15, 16, 17, 18, 19, 28] u u16 → ri u16 → ra u16 → rp u16 → i15.toNatClampNeg + pot u16 ≤ 255 → uk_G G X mX7_first (d + 2) (q_X7_first u m b) 25 [(0, .ref (uk_ad G 60)), (1, .int m), (2, .int b), (3, .int i15)] [] u16 := by
        refine uk_upl 255 ?_
        intro i15 ai15 bi15 ihi15  u16 hu16 fu16 riu16 rau16 rpu16 ji150
        have wu16_60_3 : u16.1 60 3 = u.1 60 3 := fk_at fu16 (by decide)
        refine g_aload_n dX7_first_25 rfl ?_
        refine g_iload_n dX7_first_26 rfl ?_
        refine cl_X7_223 (c := 60) (As := [.int b]) rfl (c_X7_countIn (G := G) hs hu16  b  (d)) rfl (by omega) rfl rfl (Nat.le_of_ble_eq_true rfl) dX7_first_27 (fun r17 u18 q19 => ?_)
        obtain ⟨⟨x20, rfl, tx20⟩, mq19⟩ := q19
        rw [mq19]
        refine g_if_ne (tgt := 49) dX7_first_30 (by decide) (fun c21 => ?_) (fun c21 => ?_)
        · refine g_iload_n dX7_first_49 rfl ?_
          exact g_iret (ty := .int) dX7_first_50 rfl rfl ⟨⟨_, rfl, by first | trivial | lia | grind⟩, hu16, fu16, riu16⟩
        · refine g_aload_n dX7_first_33 rfl ?_
          refine cl_X7_216 (c := 60) (As := []) rfl (c_X7_turns1 (G := G) hs hu16 riu16 rau16 rpu16    (d)) rfl (by omega) rfl rfl (Nat.le_of_ble_eq_true rfl) dX7_first_34 (fun r22 u23 q24 => ?_)
          obtain ⟨⟨x25, rfl, tx25, nx25, zx25⟩, mq24⟩ := q24
          obtain ⟨hu23, gu23, riu23, rau23, rpu23⟩ := mq24
          have fu23 : fk [60, 62, 71] [3, 7, 10, 11, 13, 14, 15, 16, 17, 18, 19, 28] u u23 := fk_tr fu16 gu23 (by decide) (by decide)
          have wu23_60_3 : u23.1 60 3 = u16.1 60 3 := fk_at gu23 (by decide)
          refine g_if_ne (tgt := 43) dX7_first_37 (by decide) (fun c26 => ?_) (fun c26 => ?_)
          · have zc26 := nx25 c26
            have hst := pt_step ai15 bi15 ji150 (by assumption)
            refine g_iinc (v := i15 + 1) dX7_first_43 rfl rfl (by decide) ?_
            refine g_pick (lv' := [(0, .ref (uk_ad G 60)), (1, .int m), (2, .int b), (3, .int (i15 + 1))]) [0, 1, 2, 3] rfl ?_
            refine g_goto (tgt := 25) dX7_first_46 (by decide) ?_
            refine g_pick (lv' := [(0, .ref (uk_ad G 60)), (1, .int m), (2, .int b), (3, .int (i15 + 1))]) [0, 1, 2, 3] rfl ?_
            exact ihi15 (by first | lia | grind)  u23 hu23 fu23 riu23 rau23 rpu23 hst.2
          · have zc26 := zx25 c26
            refine g_bipush (v := (-4)) dX7_first_40 (by decide) ?_
            exact g_iret (ty := .int) dX7_first_42 rfl rfl ⟨⟨_, rfl, by first | trivial | lia | grind⟩, hu23, fu23, riu23⟩
      refine g_pick (lv' := [(0, .ref (uk_ad G 60)), (1, .int m), (2, .int b), (3, .int 0)]) [0, 1, 2, 3] rfl ?_
      exact L25_13 0 (by first | decide | lia | grind) (by first | decide | lia | grind)  u12 hu12 fu12 riu12 rau12 rpu12 (by have := rpu12.2; simpa using this)
    · have zc10 := zx9 c10
      refine g_iconst (v := (-1)) dX7_first_16 (by decide) ?_
      exact g_iret (ty := .int) dX7_first_17 rfl rfl ⟨⟨_, rfl, by first | trivial | lia | grind⟩, hu, f0, hri⟩
abbrev q_X7_loss (u : uk_Mem) (m : Int32) (r : Option Value) (u' : uk_Mem) : Prop := (∃ x : Int32, r = some (.int x) ∧ True) ∧ (iv u' ∧ fk [60, 62, 70, 71] [3, 7, 10, 11, 13, 14, 15, 16, 17, 18, 19, 28] u u' ∧ ri u')
abbrev q_X7_common (u : uk_Mem) (a : Int64) (b : Int64) (r : Option Value) (u' : uk_Mem) : Prop := (∃ x : Int64, r = some (.long x) ∧ ¬ x = 0) ∧ (u' = u)
theorem c_X7_common {G : uk_D} (hs : uk_Sep G) {u : uk_Mem} (hu : iv u) (a : Int64) (b : Int64) (p0 : ¬ a = 0) (d : Nat) : uk_Meth G d mX7_common [.long a, .long b] u (q_X7_common u a b) := by
  refine uk_Meth.of hs (by decide) (Nat.le_of_ble_eq_true rfl) (fun X => ?_)
  refine g_lload_n dX7_common_0 rfl ?_
  refine g_lstore dX7_common_1 (by decide) ?_
  refine g_lload_n dX7_common_3 rfl ?_
  refine g_lstore dX7_common_4 (by decide) ?_
  have key : ∀ (n : Nat) (x y : Int64), y.toInt.natAbs = n → (¬ x = 0 ∨ ¬ y = 0) → uk_G G X mX7_common d (q_X7_common u a b) 6 [(0, .long a), (2, .long b), (4, .long x), (6, .long y)] [] u := by
    intro n
    induction n using Nat.strongRecOn with
    | _ n ih =>
      intro x y hy hxy
      refine g_lload dX7_common_6 rfl ?_
      refine g_lconst (v := 0) dX7_common_8 (by decide) ?_
      refine g_lcmp dX7_common_9 ?_
      refine g_if_eq (tgt := 31) dX7_common_10 (by decide) (fun c => ?_) (fun c => ?_)
      · rw [lg_cmp_eq] at c
        refine g_lload dX7_common_31 rfl ?_
        exact g_lret dX7_common_33 rfl ⟨⟨_, rfl, hxy.resolve_right (fun q => q c)⟩, rfl⟩
      · rw [lg_cmp_eq] at c
        refine g_lload dX7_common_13 rfl ?_
        refine g_lload dX7_common_15 rfl ?_
        refine g_lrem dX7_common_17 c ?_
        refine g_topl (fun z ez => ?_)
        refine g_lstore dX7_common_18 (by decide) ?_
        refine g_lload dX7_common_20 rfl ?_
        refine g_lstore dX7_common_22 (by decide) ?_
        refine g_lload dX7_common_24 rfl ?_
        refine g_lstore dX7_common_26 (by decide) ?_
        refine g_goto (tgt := 6) dX7_common_28 (by decide) ?_
        refine g_pick (lv' := [(0, .long a), (2, .long b), (4, .long y), (6, .long z)]) [0, 1, 2, 3] rfl ?_
        exact ih _ (by rw [← hy]; exact lg_rem_lt ez c) y z rfl (Or.inl c)
  exact key _ a b rfl (Or.inl p0)

abbrev q_X7_mean (u : uk_Mem) (v : Int32) (m : Int32) (b : Int32) (w : Int32) (r : Option Value) (u' : uk_Mem) : Prop := (∃ x : Int64, r = some (.long x) ∧ True) ∧ (iv u' ∧ fk [72] [] u u' ∧ ri u')
set_option maxHeartbeats 4000000 in
set_option maxRecDepth 20000 in
theorem c_X7_mean {G : uk_D} (hs : uk_Sep G) {u : uk_Mem} (hu : iv u) (hri : ri u) (v : Int32) (m : Int32) (b : Int32) (w : Int32) (d : Nat) : uk_Meth G (d + 2) mX7_mean [.ref (uk_ad G 60), .int v, .int m, .int b, .int w] u (q_X7_mean u v m b w) := by
  refine uk_Meth.of hs (by decide) (Nat.le_of_ble_eq_true rfl) (fun X => ?_)
  have f0 : fk [72] [] u u := fk_rf
  refine g_iload_n dX7_mean_0 rfl ?_
  refine g_i2l dX7_mean_1 ?_
  refine g_lconst (v := 0) dX7_mean_2 (by decide) ?_
  refine g_ldc2 (v := 10) k_X7_229 dX7_mean_3 ?_
  refine cl_X7_84 (As := [.long v.toInt64, .long 0, .long 10]) rfl (c_X7_in (G := G) hs hu  v 0 10  (d + 1)) rfl (by omega) rfl (Nat.le_of_ble_eq_true rfl) dX7_mean_6 (fun r1 u2 q3 => ?_)
  obtain ⟨⟨x4, rfl, tx4, nx4, zx4⟩, mq3⟩ := q3
  rw [mq3]
  refine g_if_eq (tgt := 36) dX7_mean_9 (by decide) (fun c5 => ?_) (fun c5 => ?_)
  · have zc5 := zx4 c5
    refine g_ldc2 (v := (-1)) k_X7_231 dX7_mean_36 ?_
    exact g_lret dX7_mean_39 rfl ⟨⟨_, rfl, by first | trivial | decide | exact uk_lg0 (by assumption) | grind⟩, hu, f0, hri⟩
  · have zc5 := nx4 c5
    refine g_aload_n dX7_mean_12 rfl ?_
    refine g_iload_n dX7_mean_13 rfl ?_
    refine cl_X7_163 (c := 60) (As := [.int m]) rfl (c_X7_isStuff (G := G) hs hu  m  (d)) rfl (by omega) rfl rfl (Nat.le_of_ble_eq_true rfl) dX7_mean_14 (fun r6 u7 q8 => ?_)
    obtain ⟨⟨x9, rfl, tx9, nx9, zx9⟩, mq8⟩ := q8
    rw [mq8]
    refine g_if_eq (tgt := 36) dX7_mean_17 (by decide) (fun c10 => ?_) (fun c10 => ?_)
    · have zc10 := zx9 c10
      refine g_ldc2 (v := (-1)) k_X7_231 dX7_mean_36 ?_
      exact g_lret dX7_mean_39 rfl ⟨⟨_, rfl, by first | trivial | decide | exact uk_lg0 (by assumption) | grind⟩, hu, f0, hri⟩
    · have zc10 := nx9 c10
      refine g_aload_n dX7_mean_20 rfl ?_
      refine g_iload_n dX7_mean_21 rfl ?_
      refine cl_X7_163 (c := 60) (As := [.int b]) rfl (c_X7_isStuff (G := G) hs hu  b  (d)) rfl (by omega) rfl rfl (Nat.le_of_ble_eq_true rfl) dX7_mean_22 (fun r11 u12 q13 => ?_)
      obtain ⟨⟨x14, rfl, tx14, nx14, zx14⟩, mq13⟩ := q13
      rw [mq13]
      refine g_if_eq (tgt := 36) dX7_mean_25 (by decide) (fun c15 => ?_) (fun c15 => ?_)
      · have zc15 := zx14 c15
        refine g_ldc2 (v := (-1)) k_X7_231 dX7_mean_36 ?_
        exact g_lret dX7_mean_39 rfl ⟨⟨_, rfl, by first | trivial | decide | exact uk_lg0 (by assumption) | grind⟩, hu, f0, hri⟩
      · have zc15 := nx14 c15
        refine g_iload dX7_mean_28 rfl ?_
        refine cl_X7_197 (As := [.int w]) rfl (c_X7_isPart (G := G) hs hu  w  (d)) rfl (by omega) rfl (Nat.le_of_ble_eq_true rfl) dX7_mean_30 (fun r16 u17 q18 => ?_)
        obtain ⟨⟨x19, rfl, tx19, nx19, zx19⟩, mq18⟩ := q18
        rw [mq18]
        refine g_if_ne (tgt := 40) dX7_mean_33 (by decide) (fun c20 => ?_) (fun c20 => ?_)
        · have zc20 := nx19 c20
          refine g_aload_n dX7_mean_40 rfl ?_
          refine g_iload_n dX7_mean_41 rfl ?_
          refine cl_X7_166 (c := 60) (As := [.int b]) rfl (c_X7_isRaw (G := G) hs hu  b (by first | trivial | decide | lia | grind) (by first | trivial | decide | lia | grind) (d + 1)) rfl (by omega) rfl rfl (Nat.le_of_ble_eq_true rfl) dX7_mean_42 (fun r21 u22 q23 => ?_)
          obtain ⟨⟨x24, rfl, tx24, nx24, zx24⟩, mq23⟩ := q23
          rw [mq23]
          refine g_if_ne (tgt := 52) dX7_mean_45 (by decide) (fun c25 => ?_) (fun c25 => ?_)
          · have zc25 := nx24 c25
            refine g_ldc2 (v := 100000000) k_X7_235 dX7_mean_52 ?_
            refine g_lstore dX7_mean_55 (by decide) ?_
            refine g_pick (lv' := [(0, .ref (uk_ad G 60)), (1, .int v), (2, .int m), (3, .int b), (4, .int w), (5, .long 100000000)]) [0, 1, 2, 3, 4, 5] rfl ?_
            refine g_iconst (v := 0) dX7_mean_57 (by decide) ?_
            refine g_istore dX7_mean_58 (by decide) ?_
            refine g_pick (lv' := [(0, .ref (uk_ad G 60)), (1, .int v), (2, .int m), (3, .int b), (4, .int w), (5, .long 100000000), (7, .int 0)]) [0, 1, 2, 3, 4, 5, 6] rfl ?_
            have L60_25 : ∀ i27 : Int32, 0 ≤ i27 → i27 ≤ 8 → ∀ (u28 : uk_Mem), iv u28 → fk [72] [] u u28 → ri u28 → uk_G G X mX7_mean (d + 2) (q_X7_mean u v m b w) 60 [(0, .ref (uk_ad G 60)), (1, .int v), (2, .int m), (3, .int b), (4, .int w), (5, .long 100000000), (7, .int i27)] [] u28 := by
              refine uk_upl 8 ?_
              intro i27 ai27 bi27 ihi27  u28 hu28 fu28 riu28
              have wu28_60_3 : u28.1 60 3 = u.1 60 3 := fk_at fu28 (by decide)
              refine g_iload dX7_mean_60 rfl ?_
              refine g_iload_n dX7_mean_62 rfl ?_
              refine g_icmp_gt (tgt := 195) dX7_mean_63 (by decide) (fun c29 => ?_) (fun c29 => ?_)
              · refine g_lload dX7_mean_195 rfl ?_
                refine g_aload_n dX7_mean_197 rfl ?_
                refine f_X7_44 rfl rfl dX7_mean_198 ?_
                refine g_iload_n dX7_mean_201 rfl ?_
                have v30 : vp_in m 8 := uk_vin 8 rfl (by first | decide | lia | grind) (by first | decide | lia | grind)
                refine g_lald rfl rfl v30 dX7_mean_202 ?_
                refine g_topl (fun y31 ey31 => ?_)
                refine cl_X7_237 (As := [.long 100000000, .long y31]) rfl (c_X7_common (G := G) hs hu28  100000000 y31 (by first | trivial | decide | lia | grind) (d + 1)) rfl (by omega) rfl (Nat.le_of_ble_eq_true rfl) dX7_mean_203 (fun r32 u33 q34 => ?_)
                obtain ⟨⟨x35, rfl, tx35⟩, mq34⟩ := q34
                rw [mq34]
                refine g_lstore dX7_mean_206 (by decide) ?_
                refine g_pick (lv' := [(0, .ref (uk_ad G 60)), (1, .int v), (2, .int m), (3, .int b), (4, .int w), (5, .long 100000000), (7, .long x35)]) [0, 1, 2, 3, 4, 5, 6] rfl ?_
                refine g_iload dX7_mean_208 rfl ?_
                refine g_if_ne (tgt := 225) dX7_mean_210 (by decide) (fun c36 => ?_) (fun c36 => ?_)
                · refine g_lload dX7_mean_225 rfl ?_
                  refine g_lload dX7_mean_227 rfl ?_
                  refine g_ldiv dX7_mean_229 (by first | decide | assumption | exact uk_lg0 (by assumption) | grind) ?_
                  refine g_topl (fun y37 ey37 => ?_)
                  exact g_lret dX7_mean_230 rfl ⟨⟨_, rfl, by first | trivial | decide | exact uk_lg0 (by assumption) | grind⟩, hu28, fu28, riu28⟩
                · refine g_aload_n dX7_mean_213 rfl ?_
                  refine f_X7_44 rfl rfl dX7_mean_214 ?_
                  refine g_iload_n dX7_mean_217 rfl ?_
                  have v38 : vp_in m 8 := uk_vin 8 rfl (by first | decide | lia | grind) (by first | decide | lia | grind)
                  refine g_lald rfl rfl v38 dX7_mean_218 ?_
                  refine g_topl (fun y39 ey39 => ?_)
                  refine g_lload dX7_mean_219 rfl ?_
                  refine g_ldiv dX7_mean_221 (by first | decide | assumption | exact uk_lg0 (by assumption) | grind) ?_
                  refine g_topl (fun y40 ey40 => ?_)
                  refine g_goto (tgt := 230) dX7_mean_222 (by decide) ?_
                  exact g_lret dX7_mean_230 rfl ⟨⟨_, rfl, by first | trivial | decide | exact uk_lg0 (by assumption) | grind⟩, hu28, fu28, riu28⟩
              · refine g_aload_n dX7_mean_66 rfl ?_
                refine f_X7_7 rfl rfl dX7_mean_67 ?_
                refine g_bipush (v := 32) dX7_mean_70 (by decide) ?_
                refine g_iload dX7_mean_72 rfl ?_
                refine g_iadd dX7_mean_74 ?_
                refine g_topi (fun x41 ex41 => ?_)
                have v42 : vp_in x41 153 := uk_vin 153 rfl (by first | decide | lia | grind) (by first | decide | lia | grind)
                refine g_iald rfl rfl v42 dX7_mean_75 ?_
                refine g_topi (fun x43 ex43 => ?_)
                have bx43 := uk_cl v42
                refine g_istore dX7_mean_76 (by decide) ?_
                refine g_pick (lv' := [(0, .ref (uk_ad G 60)), (1, .int v), (2, .int m), (3, .int b), (4, .int w), (5, .long 100000000), (7, .int i27), (8, .int x43)]) [0, 1, 2, 3, 4, 5, 6, 7] rfl ?_
                refine g_iload dX7_mean_78 rfl ?_
                refine g_iconst (v := 4) dX7_mean_80 (by decide) ?_
                refine g_icmp_ne (tgt := 106) dX7_mean_81 (by decide) (fun c44 => ?_) (fun c44 => ?_)
                · refine g_iload dX7_mean_106 rfl ?_
                  refine g_if_ne (tgt := 126) dX7_mean_108 (by decide) (fun c45 => ?_) (fun c45 => ?_)
                  · refine g_iload dX7_mean_126 rfl ?_
                    refine g_iconst (v := 3) dX7_mean_128 (by decide) ?_
                    refine g_icmp_ne (tgt := 154) dX7_mean_129 (by decide) (fun c46 => ?_) (fun c46 => ?_)
                    · refine g_lconst (v := 0) dX7_mean_154 (by decide) ?_
                      refine g_lstore dX7_mean_155 (by decide) ?_
                      refine g_pick (lv' := [(0, .ref (uk_ad G 60)), (1, .int v), (2, .int m), (3, .int b), (4, .int w), (5, .long 100000000), (7, .int i27), (8, .int x43), (9, .long 0)]) [0, 1, 2, 3, 4, 5, 6, 7, 8] rfl ?_
                      refine g_aload_n dX7_mean_157 rfl ?_
                      refine f_X7_44 rfl rfl dX7_mean_158 ?_
                      refine g_iload dX7_mean_161 rfl ?_
                      refine g_iload dX7_mean_163 rfl ?_
                      refine g_iconst (v := 2) dX7_mean_165 (by decide) ?_
                      refine g_icmp_ne (tgt := 173) dX7_mean_166 (by decide) (fun c47 => ?_) (fun c47 => ?_)
                      · refine g_aload_n dX7_mean_173 rfl ?_
                        refine f_X7_44 rfl rfl dX7_mean_174 ?_
                        refine g_aload_n dX7_mean_177 rfl ?_
                        refine f_X7_20 rfl rfl dX7_mean_178 ?_
                        refine g_iload dX7_mean_181 rfl ?_
                        have v48 : vp_in i27 8 := uk_vin 8 rfl (by first | decide | lia | grind) (by first | decide | lia | grind)
                        refine g_iald rfl rfl v48 dX7_mean_183 ?_
                        refine g_topi (fun x49 ex49 => ?_)
                        have bx49 := uk_cl v48
                        have rx49 : (-4) ≤ x49 ∧ x49 ≤ 7 := by rw [ex49]; exact iv_at hu28 _ _ (uk_pick1 _ (by omega))
                        have hqx49 := (riu28.1 i27 (by lia) (by rw [fk_at (c := 60) (i := 3) fu28 (by decide)]; first | lia | grind) (by lia)).resolve_left (by first | assumption | grind)
                        have hpx49 : 0 ≤ x49 ∧ x49 < i27 := by rw [ex49]; exact ⟨hqx49.1, hqx49.2.1⟩
                        have v50 : vp_in x49 8 := uk_vin 8 rfl (by first | decide | lia | grind) (by first | decide | lia | grind)
                        refine g_lald rfl rfl v50 dX7_mean_184 ?_
                        refine g_topl (fun y51 ey51 => ?_)
                        refine g_lload dX7_mean_185 rfl ?_
                        refine g_ladd dX7_mean_187 ?_
                        refine g_topl (fun y52 ey52 => ?_)
                        have v53 : vp_in i27 8 := uk_vin 8 rfl (by first | decide | lia | grind) (by first | decide | lia | grind)
                        have b54 := uk_cl v53
                        refine g_last rfl rfl v53 dX7_mean_188 ?_
                        refine g_mem (fun u55 eu55 => ?_)
                        have hu55 : iv u55 := by rw [eu55]; exact iv_upL hu28
                        have fu55 : fk [72] [] u u55 := by rw [eu55]; exact fk_upL fu28 (by decide)
                        have riu55 : ri u55 := by rw [eu55]; exact riu28
                        refine g_iinc (v := i27 + 1) dX7_mean_189 rfl rfl (by decide) ?_
                        refine g_pick (lv' := [(0, .ref (uk_ad G 60)), (1, .int v), (2, .int m), (3, .int b), (4, .int w), (5, .long 100000000), (7, .int (i27 + 1)), (8, .int x43), (9, .long 0)]) [0, 1, 2, 3, 4, 5, 6, 7, 8] rfl ?_
                        refine g_goto (tgt := 60) dX7_mean_192 (by decide) ?_
                        refine g_pick (lv' := [(0, .ref (uk_ad G 60)), (1, .int v), (2, .int m), (3, .int b), (4, .int w), (5, .long 100000000), (7, .int (i27 + 1))]) [0, 1, 2, 3, 4, 5, 6] rfl ?_
                        exact ihi27 (by first | lia | grind)  u55 hu55 fu55 riu55 
                      · refine g_lconst (v := 0) dX7_mean_169 (by decide) ?_
                        refine g_goto (tgt := 188) dX7_mean_170 (by decide) ?_
                        have v56 : vp_in i27 8 := uk_vin 8 rfl (by first | decide | lia | grind) (by first | decide | lia | grind)
                        have b57 := uk_cl v56
                        refine g_last rfl rfl v56 dX7_mean_188 ?_
                        refine g_mem (fun u58 eu58 => ?_)
                        have hu58 : iv u58 := by rw [eu58]; exact iv_upL hu28
                        have fu58 : fk [72] [] u u58 := by rw [eu58]; exact fk_upL fu28 (by decide)
                        have riu58 : ri u58 := by rw [eu58]; exact riu28
                        refine g_iinc (v := i27 + 1) dX7_mean_189 rfl rfl (by decide) ?_
                        refine g_pick (lv' := [(0, .ref (uk_ad G 60)), (1, .int v), (2, .int m), (3, .int b), (4, .int w), (5, .long 100000000), (7, .int (i27 + 1)), (8, .int x43), (9, .long 0)]) [0, 1, 2, 3, 4, 5, 6, 7, 8] rfl ?_
                        refine g_goto (tgt := 60) dX7_mean_192 (by decide) ?_
                        refine g_pick (lv' := [(0, .ref (uk_ad G 60)), (1, .int v), (2, .int m), (3, .int b), (4, .int w), (5, .long 100000000), (7, .int (i27 + 1))]) [0, 1, 2, 3, 4, 5, 6] rfl ?_
                        exact ihi27 (by first | lia | grind)  u58 hu58 fu58 riu58 
                    · refine g_aload_n dX7_mean_132 rfl ?_
                      refine f_X7_44 rfl rfl dX7_mean_133 ?_
                      refine g_aload_n dX7_mean_136 rfl ?_
                      refine f_X7_23 rfl rfl dX7_mean_137 ?_
                      refine g_iload dX7_mean_140 rfl ?_
                      have v59 : vp_in i27 8 := uk_vin 8 rfl (by first | decide | lia | grind) (by first | decide | lia | grind)
                      refine g_iald rfl rfl v59 dX7_mean_142 ?_
                      refine g_topi (fun x60 ex60 => ?_)
                      have bx60 := uk_cl v59
                      have rx60 : (-4) ≤ x60 ∧ x60 ≤ 7 := by rw [ex60]; exact iv_at hu28 _ _ (uk_pick1 _ (by omega))
                      have hqx60 := (riu28.1 i27 (by lia) (by rw [fk_at (c := 60) (i := 3) fu28 (by decide)]; first | lia | grind) (by lia)).resolve_left (by first | assumption | grind)
                      have hpx60 : 0 ≤ x60 ∧ x60 < i27 := by rw [ex60]; exact ⟨hqx60.2.2.1, hqx60.2.2.2⟩
                      have v61 : vp_in x60 8 := uk_vin 8 rfl (by first | decide | lia | grind) (by first | decide | lia | grind)
                      refine g_lald rfl rfl v61 dX7_mean_143 ?_
                      refine g_topl (fun y62 ey62 => ?_)
                      refine g_ldc2 (v := 10) k_X7_229 dX7_mean_144 ?_
                      refine g_ldiv dX7_mean_147 (by first | decide | assumption | exact uk_lg0 (by assumption) | grind) ?_
                      refine g_topl (fun y63 ey63 => ?_)
                      refine g_iload_n dX7_mean_148 rfl ?_
                      refine g_i2l dX7_mean_149 ?_
                      refine g_lmul dX7_mean_150 ?_
                      refine g_topl (fun y64 ey64 => ?_)
                      refine g_goto (tgt := 155) dX7_mean_151 (by decide) ?_
                      refine g_lstore dX7_mean_155 (by decide) ?_
                      refine g_pick (lv' := [(0, .ref (uk_ad G 60)), (1, .int v), (2, .int m), (3, .int b), (4, .int w), (5, .long 100000000), (7, .int i27), (8, .int x43), (9, .long y64)]) [0, 1, 2, 3, 4, 5, 6, 7, 8] rfl ?_
                      refine g_aload_n dX7_mean_157 rfl ?_
                      refine f_X7_44 rfl rfl dX7_mean_158 ?_
                      refine g_iload dX7_mean_161 rfl ?_
                      refine g_iload dX7_mean_163 rfl ?_
                      refine g_iconst (v := 2) dX7_mean_165 (by decide) ?_
                      refine g_icmp_ne (tgt := 173) dX7_mean_166 (by decide) (fun c65 => ?_) (fun c65 => ?_)
                      · refine g_aload_n dX7_mean_173 rfl ?_
                        refine f_X7_44 rfl rfl dX7_mean_174 ?_
                        refine g_aload_n dX7_mean_177 rfl ?_
                        refine f_X7_20 rfl rfl dX7_mean_178 ?_
                        refine g_iload dX7_mean_181 rfl ?_
                        have v66 : vp_in i27 8 := uk_vin 8 rfl (by first | decide | lia | grind) (by first | decide | lia | grind)
                        refine g_iald rfl rfl v66 dX7_mean_183 ?_
                        refine g_topi (fun x67 ex67 => ?_)
                        have bx67 := uk_cl v66
                        have rx67 : (-4) ≤ x67 ∧ x67 ≤ 7 := by rw [ex67]; exact iv_at hu28 _ _ (uk_pick1 _ (by omega))
                        have hqx67 := (riu28.1 i27 (by lia) (by rw [fk_at (c := 60) (i := 3) fu28 (by decide)]; first | lia | grind) (by lia)).resolve_left (by first | assumption | grind)
                        have hpx67 : 0 ≤ x67 ∧ x67 < i27 := by rw [ex67]; exact ⟨hqx67.1, hqx67.2.1⟩
                        have v68 : vp_in x67 8 := uk_vin 8 rfl (by first | decide | lia | grind) (by first | decide | lia | grind)
                        refine g_lald rfl rfl v68 dX7_mean_184 ?_
                        refine g_topl (fun y69 ey69 => ?_)
                        refine g_lload dX7_mean_185 rfl ?_
                        refine g_ladd dX7_mean_187 ?_
                        refine g_topl (fun y70 ey70 => ?_)
                        have v71 : vp_in i27 8 := uk_vin 8 rfl (by first | decide | lia | grind) (by first | decide | lia | grind)
                        have b72 := uk_cl v71
                        refine g_last rfl rfl v71 dX7_mean_188 ?_
                        refine g_mem (fun u73 eu73 => ?_)
                        have hu73 : iv u73 := by rw [eu73]; exact iv_upL hu28
                        have fu73 : fk [72] [] u u73 := by rw [eu73]; exact fk_upL fu28 (by decide)
                        have riu73 : ri u73 := by rw [eu73]; exact riu28
                        refine g_iinc (v := i27 + 1) dX7_mean_189 rfl rfl (by decide) ?_
                        refine g_pick (lv' := [(0, .ref (uk_ad G 60)), (1, .int v), (2, .int m), (3, .int b), (4, .int w), (5, .long 100000000), (7, .int (i27 + 1)), (8, .int x43), (9, .long y64)]) [0, 1, 2, 3, 4, 5, 6, 7, 8] rfl ?_
                        refine g_goto (tgt := 60) dX7_mean_192 (by decide) ?_
                        refine g_pick (lv' := [(0, .ref (uk_ad G 60)), (1, .int v), (2, .int m), (3, .int b), (4, .int w), (5, .long 100000000), (7, .int (i27 + 1))]) [0, 1, 2, 3, 4, 5, 6] rfl ?_
                        exact ihi27 (by first | lia | grind)  u73 hu73 fu73 riu73 
                      · refine g_lconst (v := 0) dX7_mean_169 (by decide) ?_
                        refine g_goto (tgt := 188) dX7_mean_170 (by decide) ?_
                        have v74 : vp_in i27 8 := uk_vin 8 rfl (by first | decide | lia | grind) (by first | decide | lia | grind)
                        have b75 := uk_cl v74
                        refine g_last rfl rfl v74 dX7_mean_188 ?_
                        refine g_mem (fun u76 eu76 => ?_)
                        have hu76 : iv u76 := by rw [eu76]; exact iv_upL hu28
                        have fu76 : fk [72] [] u u76 := by rw [eu76]; exact fk_upL fu28 (by decide)
                        have riu76 : ri u76 := by rw [eu76]; exact riu28
                        refine g_iinc (v := i27 + 1) dX7_mean_189 rfl rfl (by decide) ?_
                        refine g_pick (lv' := [(0, .ref (uk_ad G 60)), (1, .int v), (2, .int m), (3, .int b), (4, .int w), (5, .long 100000000), (7, .int (i27 + 1)), (8, .int x43), (9, .long y64)]) [0, 1, 2, 3, 4, 5, 6, 7, 8] rfl ?_
                        refine g_goto (tgt := 60) dX7_mean_192 (by decide) ?_
                        refine g_pick (lv' := [(0, .ref (uk_ad G 60)), (1, .int v), (2, .int m), (3, .int b), (4, .int w), (5, .long 100000000), (7, .int (i27 + 1))]) [0, 1, 2, 3, 4, 5, 6] rfl ?_
                        exact ihi27 (by first | lia | grind)  u76 hu76 fu76 riu76 
                  · refine g_aload_n dX7_mean_111 rfl ?_
                    refine f_X7_44 rfl rfl dX7_mean_112 ?_
                    refine g_aload_n dX7_mean_115 rfl ?_
                    refine f_X7_23 rfl rfl dX7_mean_116 ?_
                    refine g_iload dX7_mean_119 rfl ?_
                    have v77 : vp_in i27 8 := uk_vin 8 rfl (by first | decide | lia | grind) (by first | decide | lia | grind)
                    refine g_iald rfl rfl v77 dX7_mean_121 ?_
                    refine g_topi (fun x78 ex78 => ?_)
                    have bx78 := uk_cl v77
                    have rx78 : (-4) ≤ x78 ∧ x78 ≤ 7 := by rw [ex78]; exact iv_at hu28 _ _ (uk_pick1 _ (by omega))
                    have hqx78 := (riu28.1 i27 (by lia) (by rw [fk_at (c := 60) (i := 3) fu28 (by decide)]; first | lia | grind) (by lia)).resolve_left (by first | assumption | grind)
                    have hpx78 : 0 ≤ x78 ∧ x78 < i27 := by rw [ex78]; exact ⟨hqx78.2.2.1, hqx78.2.2.2⟩
                    have v79 : vp_in x78 8 := uk_vin 8 rfl (by first | decide | lia | grind) (by first | decide | lia | grind)
                    refine g_lald rfl rfl v79 dX7_mean_122 ?_
                    refine g_topl (fun y80 ey80 => ?_)
                    refine g_goto (tgt := 155) dX7_mean_123 (by decide) ?_
                    refine g_lstore dX7_mean_155 (by decide) ?_
                    refine g_pick (lv' := [(0, .ref (uk_ad G 60)), (1, .int v), (2, .int m), (3, .int b), (4, .int w), (5, .long 100000000), (7, .int i27), (8, .int x43), (9, .long y80)]) [0, 1, 2, 3, 4, 5, 6, 7, 8] rfl ?_
                    refine g_aload_n dX7_mean_157 rfl ?_
                    refine f_X7_44 rfl rfl dX7_mean_158 ?_
                    refine g_iload dX7_mean_161 rfl ?_
                    refine g_iload dX7_mean_163 rfl ?_
                    refine g_iconst (v := 2) dX7_mean_165 (by decide) ?_
                    refine g_icmp_ne (tgt := 173) dX7_mean_166 (by decide) (fun c81 => ?_) (fun c81 => ?_)
                    · refine g_aload_n dX7_mean_173 rfl ?_
                      refine f_X7_44 rfl rfl dX7_mean_174 ?_
                      refine g_aload_n dX7_mean_177 rfl ?_
                      refine f_X7_20 rfl rfl dX7_mean_178 ?_
                      refine g_iload dX7_mean_181 rfl ?_
                      have v82 : vp_in i27 8 := uk_vin 8 rfl (by first | decide | lia | grind) (by first | decide | lia | grind)
                      refine g_iald rfl rfl v82 dX7_mean_183 ?_
                      refine g_topi (fun x83 ex83 => ?_)
                      have bx83 := uk_cl v82
                      have rx83 : (-4) ≤ x83 ∧ x83 ≤ 7 := by rw [ex83]; exact iv_at hu28 _ _ (uk_pick1 _ (by omega))
                      have hqx83 := (riu28.1 i27 (by lia) (by rw [fk_at (c := 60) (i := 3) fu28 (by decide)]; first | lia | grind) (by lia)).resolve_left (by first | assumption | grind)
                      have hpx83 : 0 ≤ x83 ∧ x83 < i27 := by rw [ex83]; exact ⟨hqx83.1, hqx83.2.1⟩
                      have v84 : vp_in x83 8 := uk_vin 8 rfl (by first | decide | lia | grind) (by first | decide | lia | grind)
                      refine g_lald rfl rfl v84 dX7_mean_184 ?_
                      refine g_topl (fun y85 ey85 => ?_)
                      refine g_lload dX7_mean_185 rfl ?_
                      refine g_ladd dX7_mean_187 ?_
                      refine g_topl (fun y86 ey86 => ?_)
                      have v87 : vp_in i27 8 := uk_vin 8 rfl (by first | decide | lia | grind) (by first | decide | lia | grind)
                      have b88 := uk_cl v87
                      refine g_last rfl rfl v87 dX7_mean_188 ?_
                      refine g_mem (fun u89 eu89 => ?_)
                      have hu89 : iv u89 := by rw [eu89]; exact iv_upL hu28
                      have fu89 : fk [72] [] u u89 := by rw [eu89]; exact fk_upL fu28 (by decide)
                      have riu89 : ri u89 := by rw [eu89]; exact riu28
                      refine g_iinc (v := i27 + 1) dX7_mean_189 rfl rfl (by decide) ?_
                      refine g_pick (lv' := [(0, .ref (uk_ad G 60)), (1, .int v), (2, .int m), (3, .int b), (4, .int w), (5, .long 100000000), (7, .int (i27 + 1)), (8, .int x43), (9, .long y80)]) [0, 1, 2, 3, 4, 5, 6, 7, 8] rfl ?_
                      refine g_goto (tgt := 60) dX7_mean_192 (by decide) ?_
                      refine g_pick (lv' := [(0, .ref (uk_ad G 60)), (1, .int v), (2, .int m), (3, .int b), (4, .int w), (5, .long 100000000), (7, .int (i27 + 1))]) [0, 1, 2, 3, 4, 5, 6] rfl ?_
                      exact ihi27 (by first | lia | grind)  u89 hu89 fu89 riu89 
                    · refine g_lconst (v := 0) dX7_mean_169 (by decide) ?_
                      refine g_goto (tgt := 188) dX7_mean_170 (by decide) ?_
                      have v90 : vp_in i27 8 := uk_vin 8 rfl (by first | decide | lia | grind) (by first | decide | lia | grind)
                      have b91 := uk_cl v90
                      refine g_last rfl rfl v90 dX7_mean_188 ?_
                      refine g_mem (fun u92 eu92 => ?_)
                      have hu92 : iv u92 := by rw [eu92]; exact iv_upL hu28
                      have fu92 : fk [72] [] u u92 := by rw [eu92]; exact fk_upL fu28 (by decide)
                      have riu92 : ri u92 := by rw [eu92]; exact riu28
                      refine g_iinc (v := i27 + 1) dX7_mean_189 rfl rfl (by decide) ?_
                      refine g_pick (lv' := [(0, .ref (uk_ad G 60)), (1, .int v), (2, .int m), (3, .int b), (4, .int w), (5, .long 100000000), (7, .int (i27 + 1)), (8, .int x43), (9, .long y80)]) [0, 1, 2, 3, 4, 5, 6, 7, 8] rfl ?_
                      refine g_goto (tgt := 60) dX7_mean_192 (by decide) ?_
                      refine g_pick (lv' := [(0, .ref (uk_ad G 60)), (1, .int v), (2, .int m), (3, .int b), (4, .int w), (5, .long 100000000), (7, .int (i27 + 1))]) [0, 1, 2, 3, 4, 5, 6] rfl ?_
                      exact ihi27 (by first | lia | grind)  u92 hu92 fu92 riu92 
                · refine g_aload_n dX7_mean_84 rfl ?_
                  refine f_X7_44 rfl rfl dX7_mean_85 ?_
                  refine g_iload dX7_mean_88 rfl ?_
                  refine g_iload dX7_mean_90 rfl ?_
                  refine g_iload_n dX7_mean_92 rfl ?_
                  refine g_icmp_ne (tgt := 101) dX7_mean_93 (by decide) (fun c93 => ?_) (fun c93 => ?_)
                  · refine g_lconst (v := 0) dX7_mean_101 (by decide) ?_
                    have v94 : vp_in i27 8 := uk_vin 8 rfl (by first | decide | lia | grind) (by first | decide | lia | grind)
                    have b95 := uk_cl v94
                    refine g_last rfl rfl v94 dX7_mean_102 ?_
                    refine g_mem (fun u96 eu96 => ?_)
                    have hu96 : iv u96 := by rw [eu96]; exact iv_upL hu28
                    have fu96 : fk [72] [] u u96 := by rw [eu96]; exact fk_upL fu28 (by decide)
                    have riu96 : ri u96 := by rw [eu96]; exact riu28
                    refine g_goto (tgt := 189) dX7_mean_103 (by decide) ?_
                    refine g_iinc (v := i27 + 1) dX7_mean_189 rfl rfl (by decide) ?_
                    refine g_pick (lv' := [(0, .ref (uk_ad G 60)), (1, .int v), (2, .int m), (3, .int b), (4, .int w), (5, .long 100000000), (7, .int (i27 + 1)), (8, .int x43)]) [0, 1, 2, 3, 4, 5, 6, 7] rfl ?_
                    refine g_goto (tgt := 60) dX7_mean_192 (by decide) ?_
                    refine g_pick (lv' := [(0, .ref (uk_ad G 60)), (1, .int v), (2, .int m), (3, .int b), (4, .int w), (5, .long 100000000), (7, .int (i27 + 1))]) [0, 1, 2, 3, 4, 5, 6] rfl ?_
                    exact ihi27 (by first | lia | grind)  u96 hu96 fu96 riu96 
                  · refine g_lload dX7_mean_96 rfl ?_
                    refine g_goto (tgt := 102) dX7_mean_98 (by decide) ?_
                    have v97 : vp_in i27 8 := uk_vin 8 rfl (by first | decide | lia | grind) (by first | decide | lia | grind)
                    have b98 := uk_cl v97
                    refine g_last rfl rfl v97 dX7_mean_102 ?_
                    refine g_mem (fun u99 eu99 => ?_)
                    have hu99 : iv u99 := by rw [eu99]; exact iv_upL hu28
                    have fu99 : fk [72] [] u u99 := by rw [eu99]; exact fk_upL fu28 (by decide)
                    have riu99 : ri u99 := by rw [eu99]; exact riu28
                    refine g_goto (tgt := 189) dX7_mean_103 (by decide) ?_
                    refine g_iinc (v := i27 + 1) dX7_mean_189 rfl rfl (by decide) ?_
                    refine g_pick (lv' := [(0, .ref (uk_ad G 60)), (1, .int v), (2, .int m), (3, .int b), (4, .int w), (5, .long 100000000), (7, .int (i27 + 1)), (8, .int x43)]) [0, 1, 2, 3, 4, 5, 6, 7] rfl ?_
                    refine g_goto (tgt := 60) dX7_mean_192 (by decide) ?_
                    refine g_pick (lv' := [(0, .ref (uk_ad G 60)), (1, .int v), (2, .int m), (3, .int b), (4, .int w), (5, .long 100000000), (7, .int (i27 + 1))]) [0, 1, 2, 3, 4, 5, 6] rfl ?_
                    exact ihi27 (by first | lia | grind)  u99 hu99 fu99 riu99 
            refine g_pick (lv' := [(0, .ref (uk_ad G 60)), (1, .int v), (2, .int m), (3, .int b), (4, .int w), (5, .long 100000000), (7, .int 0)]) [0, 1, 2, 3, 4, 5, 6] rfl ?_
            exact L60_25 0 (by first | decide | lia | grind) (by first | decide | lia | grind)  u hu f0 hri 
          · have zc25 := zx24 c25
            refine g_ldc2 (v := (-2)) k_X7_233 dX7_mean_48 ?_
            exact g_lret dX7_mean_51 rfl ⟨⟨_, rfl, by first | trivial | decide | exact uk_lg0 (by assumption) | grind⟩, hu, f0, hri⟩
        · have zc20 := zx19 c20
          refine g_ldc2 (v := (-1)) k_X7_231 dX7_mean_36 ?_
          exact g_lret dX7_mean_39 rfl ⟨⟨_, rfl, by first | trivial | decide | exact uk_lg0 (by assumption) | grind⟩, hu, f0, hri⟩
abbrev q_X7_copies (u : uk_Mem) (t : Int32) (o : Int32) (r : Option Value) (u' : uk_Mem) : Prop := (r = none) ∧ (iv u' ∧ fk [61] [] u u' ∧ cpi (u'.1 61) (u.1 61) t o 51)
abbrev q_X7_keep (u : uk_Mem) (k : Int32) (r : Option Value) (u' : uk_Mem) : Prop := (∃ x : Int32, r = some (.int x) ∧ True) ∧ (iv u' ∧ fk [61, 63] [] u u' ∧ ri u')
abbrev q_X7_back (u : uk_Mem) (k : Int32) (r : Option Value) (u' : uk_Mem) : Prop := (∃ x : Int32, r = some (.int x) ∧ True) ∧ (iv u' ∧ fk [61] [] u u' ∧ ri u')
abbrev q_X7_fits (u : uk_Mem)  (r : Option Value) (u' : uk_Mem) : Prop := (∃ x : Int32, r = some (.int x) ∧ True) ∧ (iv u' ∧ fk [60, 62, 71] [3, 7, 10, 11, 13, 14, 15, 16, 17, 18, 19, 28] u u' ∧ ri u')
set_option maxHeartbeats 4000000 in
set_option maxRecDepth 20000 in
theorem c_X7_fits {G : uk_D} (hs : uk_Sep G) {u : uk_Mem} (hu : iv u) (hri : ri u)  (d : Nat) : uk_Meth G (d + 3) mX7_fits [.ref (uk_ad G 60)] u (q_X7_fits u) := by
  refine uk_Meth.of hs (by decide) (Nat.le_of_ble_eq_true rfl) (fun X => ?_)
  have f0 : fk [60, 62, 71] [3, 7, 10, 11, 13, 14, 15, 16, 17, 18, 19, 28] u u := fk_rf
  refine g_iconst (v := 0) dX7_fits_0 (by decide) ?_
  refine g_istore_n dX7_fits_1 (by decide) ?_
  refine g_pick (lv' := [(0, .ref (uk_ad G 60)), (1, .int 0)]) [0, 1] rfl ?_
  refine g_iconst (v := 0) dX7_fits_2 (by decide) ?_
  refine g_istore_n dX7_fits_3 (by decide) ?_
  refine g_pick (lv' := [(0, .ref (uk_ad G 60)), (1, .int 0), (2, .int 0)]) [0, 1, 2] rfl ?_
  have L4_0 : ∀ i3 : Int32, 0 ≤ i3 → i3 ≤ 8 → ∀ (w2 : Int32) (u4 : uk_Mem), iv u4 → fk [60, 62, 71] [3, 7, 10, 11, 13, 14, 15, 16, 17, 18, 19, 28] u u4 → ri u4 → uk_G G X mX7_fits (d + 3) (q_X7_fits u) 4 [(0, .ref (uk_ad G 60)), (1, .int w2), (2, .int i3)] [] u4 := by
    refine uk_upl 8 ?_
    intro i3 ai3 bi3 ihi3 w2 u4 hu4 fu4 riu4
    have wu4_60_3 : u4.1 60 3 = u.1 60 3 := fk_at fu4 (by decide)
    refine g_iload_n dX7_fits_4 rfl ?_
    refine g_aload_n dX7_fits_5 rfl ?_
    refine f_X7_79 rfl rfl dX7_fits_6 ?_
    refine g_topi (fun x5 ex5 => ?_)
    have rx5 : 0 ≤ x5 ∧ x5 ≤ 8 := by rw [ex5]; exact iv_at hu4 _ _ rfl
    have s6 : u4.1 60 3 = x5 := ex5.symm
    refine g_icmp_ge (tgt := 107) dX7_fits_9 (by decide) (fun c7 => ?_) (fun c7 => ?_)
    · refine g_iload_n dX7_fits_107 rfl ?_
      exact g_iret (ty := .int) dX7_fits_108 rfl rfl ⟨⟨_, rfl, by first | trivial | lia | grind⟩, hu4, fu4, riu4⟩
    · refine g_aload_n dX7_fits_12 rfl ?_
      refine g_iload_n dX7_fits_13 rfl ?_
      refine g_sipush (v := 128) dX7_fits_14 (by decide) ?_
      refine cl_X7_220 (c := 60) (As := [.int i3, .int 128]) rfl (c_X7_mills (G := G) hs hu4 riu4  i3 128 (by first | trivial | decide | lia | grind) (by first | trivial | decide | lia | grind) (by first | trivial | decide | lia | grind) (by first | trivial | decide | lia | grind) (d)) rfl (by omega) rfl rfl (Nat.le_of_ble_eq_true rfl) dX7_fits_17 (fun r8 u9 q10 => ?_)
      obtain ⟨⟨x11, rfl, tx11⟩, mq10⟩ := q10
      obtain ⟨hu9, gu9, riu9, rau9, rpu9⟩ := mq10
      have fu9 : fk [60, 62, 71] [3, 7, 10, 11, 13, 14, 15, 16, 17, 18, 19, 28] u u9 := fk_tr fu4 gu9 (by decide) (by decide)
      have wu9_60_3 : u9.1 60 3 = u4.1 60 3 := fk_at gu9 (by decide)
      have s12 : u9.1 60 3 = x5 := (fk_at gu9 (by decide)).trans s6
      refine g_pop dX7_fits_20 rfl ?_
      refine g_aload_n dX7_fits_21 rfl ?_
      refine f_X7_207 rfl rfl dX7_fits_22 ?_
      refine g_topi (fun x13 ex13 => ?_)
      have rx13 : 0 ≤ x13 ∧ x13 ≤ 255 := by rw [ex13]; exact iv_at hu9 _ _ rfl
      have s14 : u9.1 60 22 = x13 := ex13.symm
      refine g_aload_n dX7_fits_25 rfl ?_
      refine f_X7_7 rfl rfl dX7_fits_26 ?_
      refine g_bipush (v := 42) dX7_fits_29 (by decide) ?_
      have v15 : vp_in 42 153 := uk_vin 153 rfl (by first | decide | lia | grind) (by first | decide | lia | grind)
      refine g_iald rfl rfl v15 dX7_fits_31 ?_
      refine g_topi (fun x16 ex16 => ?_)
      have bx16 := uk_cl v15
      have rx16 : 0 ≤ x16 ∧ x16 ≤ 8 := by rw [ex16]; exact sg_42 hu9 (by unfold uk_is51; decide)
      refine g_icmp_lt (tgt := 39) dX7_fits_32 (by decide) (fun c17 => ?_) (fun c17 => ?_)
      · refine g_iconst (v := 0) dX7_fits_39 (by decide) ?_
        refine g_istore_n dX7_fits_40 (by decide) ?_
        refine g_pick (lv' := [(0, .ref (uk_ad G 60)), (1, .int w2), (2, .int i3), (3, .int 0)]) [0, 1, 2, 3] rfl ?_
        refine g_iconst (v := 0) dX7_fits_41 (by decide) ?_
        refine g_istore dX7_fits_42 (by decide) ?_
        refine g_pick (lv' := [(0, .ref (uk_ad G 60)), (1, .int w2), (2, .int i3), (3, .int 0), (4, .int 0)]) [0, 1, 2, 3, 4] rfl ?_
        have L44_17 : ∀ i20 : Int32, 0 ≤ i20 → i20 ≤ 8 → ∀ (w19 : Int32), w19 = 0 ∨ w19 = 1 → uk_G G X mX7_fits (d + 3) (q_X7_fits u) 44 [(0, .ref (uk_ad G 60)), (1, .int w2), (2, .int i3), (3, .int w19), (4, .int i20)] [] u9 := by
          refine uk_upl 8 ?_
          intro i20 ai20 bi20 ihi20 w19 ji200
          refine g_iload dX7_fits_44 rfl ?_
          refine g_aload_n dX7_fits_46 rfl ?_
          refine f_X7_7 rfl rfl dX7_fits_47 ?_
          refine g_bipush (v := 42) dX7_fits_50 (by decide) ?_
          have v21 : vp_in 42 153 := uk_vin 153 rfl (by first | decide | lia | grind) (by first | decide | lia | grind)
          refine g_iald rfl rfl v21 dX7_fits_52 ?_
          refine g_topi (fun x22 ex22 => ?_)
          have bx22 := uk_cl v21
          have rx22 : 0 ≤ x22 ∧ x22 ≤ 8 := by rw [ex22]; exact sg_42 hu9 (by unfold uk_is51; decide)
          refine g_icmp_ge (tgt := 92) dX7_fits_53 (by decide) (fun c23 => ?_) (fun c23 => ?_)
          · refine g_iload_n dX7_fits_92 rfl ?_
            refine g_iload_n dX7_fits_93 rfl ?_
            refine cl_X7_169 (As := [.int w19]) rfl (c_X7_flag (G := G) hs hu9  w19  (d + 2)) rfl (by omega) rfl (Nat.le_of_ble_eq_true rfl) dX7_fits_94 (fun r24 u25 q26 => ?_)
            obtain ⟨⟨x27, rfl, tx27⟩, mq26⟩ := q26
            rw [mq26]
            refine g_iload_n dX7_fits_97 rfl ?_
            refine g_ishl dX7_fits_98 (fun x28 ex28 => ?_)
            refine g_ior dX7_fits_99 ?_
            refine g_topi (fun x29 ex29 => ?_)
            refine g_istore_n dX7_fits_100 (by decide) ?_
            refine g_pick (lv' := [(0, .ref (uk_ad G 60)), (1, .int x29), (2, .int i3), (3, .int w19), (4, .int i20)]) [0, 1, 2, 3, 4] rfl ?_
            refine g_iinc (v := i3 + 1) dX7_fits_101 rfl rfl (by decide) ?_
            refine g_pick (lv' := [(0, .ref (uk_ad G 60)), (1, .int x29), (2, .int (i3 + 1)), (3, .int w19), (4, .int i20)]) [0, 1, 2, 3, 4] rfl ?_
            refine g_goto (tgt := 4) dX7_fits_104 (by decide) ?_
            refine g_pick (lv' := [(0, .ref (uk_ad G 60)), (1, .int x29), (2, .int (i3 + 1))]) [0, 1, 2] rfl ?_
            exact ihi3 (by first | lia | grind) x29 u9 hu9 fu9 riu9 
          · refine g_iload_n dX7_fits_56 rfl ?_
            refine g_if_eq (tgt := 92) dX7_fits_57 (by decide) (fun c30 => ?_) (fun c30 => ?_)
            · refine g_iload_n dX7_fits_92 rfl ?_
              refine g_iload_n dX7_fits_93 rfl ?_
              refine cl_X7_169 (As := [.int w19]) rfl (c_X7_flag (G := G) hs hu9  w19  (d + 2)) rfl (by omega) rfl (Nat.le_of_ble_eq_true rfl) dX7_fits_94 (fun r31 u32 q33 => ?_)
              obtain ⟨⟨x34, rfl, tx34⟩, mq33⟩ := q33
              rw [mq33]
              refine g_iload_n dX7_fits_97 rfl ?_
              refine g_ishl dX7_fits_98 (fun x35 ex35 => ?_)
              refine g_ior dX7_fits_99 ?_
              refine g_topi (fun x36 ex36 => ?_)
              refine g_istore_n dX7_fits_100 (by decide) ?_
              refine g_pick (lv' := [(0, .ref (uk_ad G 60)), (1, .int x36), (2, .int i3), (3, .int w19), (4, .int i20)]) [0, 1, 2, 3, 4] rfl ?_
              refine g_iinc (v := i3 + 1) dX7_fits_101 rfl rfl (by decide) ?_
              refine g_pick (lv' := [(0, .ref (uk_ad G 60)), (1, .int x36), (2, .int (i3 + 1)), (3, .int w19), (4, .int i20)]) [0, 1, 2, 3, 4] rfl ?_
              refine g_goto (tgt := 4) dX7_fits_104 (by decide) ?_
              refine g_pick (lv' := [(0, .ref (uk_ad G 60)), (1, .int x36), (2, .int (i3 + 1))]) [0, 1, 2] rfl ?_
              exact ihi3 (by first | lia | grind) x36 u9 hu9 fu9 riu9 
            · refine g_aload_n dX7_fits_60 rfl ?_
              refine f_X7_41 rfl rfl dX7_fits_61 ?_
              refine g_iload dX7_fits_64 rfl ?_
              have v37 : vp_in i20 256 := uk_vin 256 rfl (by first | decide | lia | grind) (by first | decide | lia | grind)
              refine g_iald rfl rfl v37 dX7_fits_66 ?_
              refine g_topi (fun x38 ex38 => ?_)
              have bx38 := uk_cl v37
              have rx38 : 0 ≤ x38 ∧ x38 ≤ 7 := by rw [ex38]; exact iv_at hu9 _ _ (uk_pick1 _ (by omega))
              refine g_aload_n dX7_fits_67 rfl ?_
              refine f_X7_7 rfl rfl dX7_fits_68 ?_
              refine g_bipush (v := 43) dX7_fits_71 (by decide) ?_
              refine g_iload dX7_fits_73 rfl ?_
              refine g_iadd dX7_fits_75 ?_
              refine g_topi (fun x39 ex39 => ?_)
              have v40 : vp_in x39 153 := uk_vin 153 rfl (by first | decide | lia | grind) (by first | decide | lia | grind)
              refine g_iald rfl rfl v40 dX7_fits_76 ?_
              refine g_topi (fun x41 ex41 => ?_)
              have bx41 := uk_cl v40
              have rx41 : 0 ≤ x41 ∧ x41 ≤ 7 := by rw [ex41]; exact sg_43 hu9 (by unfold uk_is51; decide) (by first | lia | grind) (by first | lia | grind)
              refine g_icmp_ne (tgt := 84) dX7_fits_77 (by decide) (fun c42 => ?_) (fun c42 => ?_)
              · refine g_iconst (v := 0) dX7_fits_84 (by decide) ?_
                refine g_istore_n dX7_fits_85 (by decide) ?_
                refine g_pick (lv' := [(0, .ref (uk_ad G 60)), (1, .int w2), (2, .int i3), (3, .int 0), (4, .int i20)]) [0, 1, 2, 3, 4] rfl ?_
                refine g_iinc (v := i20 + 1) dX7_fits_86 rfl rfl (by decide) ?_
                refine g_pick (lv' := [(0, .ref (uk_ad G 60)), (1, .int w2), (2, .int i3), (3, .int 0), (4, .int (i20 + 1))]) [0, 1, 2, 3, 4] rfl ?_
                refine g_goto (tgt := 44) dX7_fits_89 (by decide) ?_
                refine g_pick (lv' := [(0, .ref (uk_ad G 60)), (1, .int w2), (2, .int i3), (3, .int 0), (4, .int (i20 + 1))]) [0, 1, 2, 3, 4] rfl ?_
                exact ihi20 (by first | lia | grind) 0 (by first | trivial | lia | grind)
              · refine g_iconst (v := 1) dX7_fits_80 (by decide) ?_
                refine g_goto (tgt := 85) dX7_fits_81 (by decide) ?_
                refine g_istore_n dX7_fits_85 (by decide) ?_
                refine g_pick (lv' := [(0, .ref (uk_ad G 60)), (1, .int w2), (2, .int i3), (3, .int 1), (4, .int i20)]) [0, 1, 2, 3, 4] rfl ?_
                refine g_iinc (v := i20 + 1) dX7_fits_86 rfl rfl (by decide) ?_
                refine g_pick (lv' := [(0, .ref (uk_ad G 60)), (1, .int w2), (2, .int i3), (3, .int 1), (4, .int (i20 + 1))]) [0, 1, 2, 3, 4] rfl ?_
                refine g_goto (tgt := 44) dX7_fits_89 (by decide) ?_
                refine g_pick (lv' := [(0, .ref (uk_ad G 60)), (1, .int w2), (2, .int i3), (3, .int 1), (4, .int (i20 + 1))]) [0, 1, 2, 3, 4] rfl ?_
                exact ihi20 (by first | lia | grind) 1 (by first | trivial | lia | grind)
        refine g_pick (lv' := [(0, .ref (uk_ad G 60)), (1, .int w2), (2, .int i3), (3, .int 0), (4, .int 0)]) [0, 1, 2, 3, 4] rfl ?_
        exact L44_17 0 (by first | decide | lia | grind) (by first | decide | lia | grind) 0 (by first | trivial | lia | grind)
      · refine g_iconst (v := 1) dX7_fits_35 (by decide) ?_
        refine g_goto (tgt := 40) dX7_fits_36 (by decide) ?_
        refine g_istore_n dX7_fits_40 (by decide) ?_
        refine g_pick (lv' := [(0, .ref (uk_ad G 60)), (1, .int w2), (2, .int i3), (3, .int 1)]) [0, 1, 2, 3] rfl ?_
        refine g_iconst (v := 0) dX7_fits_41 (by decide) ?_
        refine g_istore dX7_fits_42 (by decide) ?_
        refine g_pick (lv' := [(0, .ref (uk_ad G 60)), (1, .int w2), (2, .int i3), (3, .int 1), (4, .int 0)]) [0, 1, 2, 3, 4] rfl ?_
        have L44_42 : ∀ i45 : Int32, 0 ≤ i45 → i45 ≤ 8 → ∀ (w44 : Int32), w44 = 0 ∨ w44 = 1 → uk_G G X mX7_fits (d + 3) (q_X7_fits u) 44 [(0, .ref (uk_ad G 60)), (1, .int w2), (2, .int i3), (3, .int w44), (4, .int i45)] [] u9 := by
          refine uk_upl 8 ?_
          intro i45 ai45 bi45 ihi45 w44 ji450
          refine g_iload dX7_fits_44 rfl ?_
          refine g_aload_n dX7_fits_46 rfl ?_
          refine f_X7_7 rfl rfl dX7_fits_47 ?_
          refine g_bipush (v := 42) dX7_fits_50 (by decide) ?_
          have v46 : vp_in 42 153 := uk_vin 153 rfl (by first | decide | lia | grind) (by first | decide | lia | grind)
          refine g_iald rfl rfl v46 dX7_fits_52 ?_
          refine g_topi (fun x47 ex47 => ?_)
          have bx47 := uk_cl v46
          have rx47 : 0 ≤ x47 ∧ x47 ≤ 8 := by rw [ex47]; exact sg_42 hu9 (by unfold uk_is51; decide)
          refine g_icmp_ge (tgt := 92) dX7_fits_53 (by decide) (fun c48 => ?_) (fun c48 => ?_)
          · refine g_iload_n dX7_fits_92 rfl ?_
            refine g_iload_n dX7_fits_93 rfl ?_
            refine cl_X7_169 (As := [.int w44]) rfl (c_X7_flag (G := G) hs hu9  w44  (d + 2)) rfl (by omega) rfl (Nat.le_of_ble_eq_true rfl) dX7_fits_94 (fun r49 u50 q51 => ?_)
            obtain ⟨⟨x52, rfl, tx52⟩, mq51⟩ := q51
            rw [mq51]
            refine g_iload_n dX7_fits_97 rfl ?_
            refine g_ishl dX7_fits_98 (fun x53 ex53 => ?_)
            refine g_ior dX7_fits_99 ?_
            refine g_topi (fun x54 ex54 => ?_)
            refine g_istore_n dX7_fits_100 (by decide) ?_
            refine g_pick (lv' := [(0, .ref (uk_ad G 60)), (1, .int x54), (2, .int i3), (3, .int w44), (4, .int i45)]) [0, 1, 2, 3, 4] rfl ?_
            refine g_iinc (v := i3 + 1) dX7_fits_101 rfl rfl (by decide) ?_
            refine g_pick (lv' := [(0, .ref (uk_ad G 60)), (1, .int x54), (2, .int (i3 + 1)), (3, .int w44), (4, .int i45)]) [0, 1, 2, 3, 4] rfl ?_
            refine g_goto (tgt := 4) dX7_fits_104 (by decide) ?_
            refine g_pick (lv' := [(0, .ref (uk_ad G 60)), (1, .int x54), (2, .int (i3 + 1))]) [0, 1, 2] rfl ?_
            exact ihi3 (by first | lia | grind) x54 u9 hu9 fu9 riu9 
          · refine g_iload_n dX7_fits_56 rfl ?_
            refine g_if_eq (tgt := 92) dX7_fits_57 (by decide) (fun c55 => ?_) (fun c55 => ?_)
            · refine g_iload_n dX7_fits_92 rfl ?_
              refine g_iload_n dX7_fits_93 rfl ?_
              refine cl_X7_169 (As := [.int w44]) rfl (c_X7_flag (G := G) hs hu9  w44  (d + 2)) rfl (by omega) rfl (Nat.le_of_ble_eq_true rfl) dX7_fits_94 (fun r56 u57 q58 => ?_)
              obtain ⟨⟨x59, rfl, tx59⟩, mq58⟩ := q58
              rw [mq58]
              refine g_iload_n dX7_fits_97 rfl ?_
              refine g_ishl dX7_fits_98 (fun x60 ex60 => ?_)
              refine g_ior dX7_fits_99 ?_
              refine g_topi (fun x61 ex61 => ?_)
              refine g_istore_n dX7_fits_100 (by decide) ?_
              refine g_pick (lv' := [(0, .ref (uk_ad G 60)), (1, .int x61), (2, .int i3), (3, .int w44), (4, .int i45)]) [0, 1, 2, 3, 4] rfl ?_
              refine g_iinc (v := i3 + 1) dX7_fits_101 rfl rfl (by decide) ?_
              refine g_pick (lv' := [(0, .ref (uk_ad G 60)), (1, .int x61), (2, .int (i3 + 1)), (3, .int w44), (4, .int i45)]) [0, 1, 2, 3, 4] rfl ?_
              refine g_goto (tgt := 4) dX7_fits_104 (by decide) ?_
              refine g_pick (lv' := [(0, .ref (uk_ad G 60)), (1, .int x61), (2, .int (i3 + 1))]) [0, 1, 2] rfl ?_
              exact ihi3 (by first | lia | grind) x61 u9 hu9 fu9 riu9 
            · refine g_aload_n dX7_fits_60 rfl ?_
              refine f_X7_41 rfl rfl dX7_fits_61 ?_
              refine g_iload dX7_fits_64 rfl ?_
              have v62 : vp_in i45 256 := uk_vin 256 rfl (by first | decide | lia | grind) (by first | decide | lia | grind)
              refine g_iald rfl rfl v62 dX7_fits_66 ?_
              refine g_topi (fun x63 ex63 => ?_)
              have bx63 := uk_cl v62
              have rx63 : 0 ≤ x63 ∧ x63 ≤ 7 := by rw [ex63]; exact iv_at hu9 _ _ (uk_pick1 _ (by omega))
              refine g_aload_n dX7_fits_67 rfl ?_
              refine f_X7_7 rfl rfl dX7_fits_68 ?_
              refine g_bipush (v := 43) dX7_fits_71 (by decide) ?_
              refine g_iload dX7_fits_73 rfl ?_
              refine g_iadd dX7_fits_75 ?_
              refine g_topi (fun x64 ex64 => ?_)
              have v65 : vp_in x64 153 := uk_vin 153 rfl (by first | decide | lia | grind) (by first | decide | lia | grind)
              refine g_iald rfl rfl v65 dX7_fits_76 ?_
              refine g_topi (fun x66 ex66 => ?_)
              have bx66 := uk_cl v65
              have rx66 : 0 ≤ x66 ∧ x66 ≤ 7 := by rw [ex66]; exact sg_43 hu9 (by unfold uk_is51; decide) (by first | lia | grind) (by first | lia | grind)
              refine g_icmp_ne (tgt := 84) dX7_fits_77 (by decide) (fun c67 => ?_) (fun c67 => ?_)
              · refine g_iconst (v := 0) dX7_fits_84 (by decide) ?_
                refine g_istore_n dX7_fits_85 (by decide) ?_
                refine g_pick (lv' := [(0, .ref (uk_ad G 60)), (1, .int w2), (2, .int i3), (3, .int 0), (4, .int i45)]) [0, 1, 2, 3, 4] rfl ?_
                refine g_iinc (v := i45 + 1) dX7_fits_86 rfl rfl (by decide) ?_
                refine g_pick (lv' := [(0, .ref (uk_ad G 60)), (1, .int w2), (2, .int i3), (3, .int 0), (4, .int (i45 + 1))]) [0, 1, 2, 3, 4] rfl ?_
                refine g_goto (tgt := 44) dX7_fits_89 (by decide) ?_
                refine g_pick (lv' := [(0, .ref (uk_ad G 60)), (1, .int w2), (2, .int i3), (3, .int 0), (4, .int (i45 + 1))]) [0, 1, 2, 3, 4] rfl ?_
                exact ihi45 (by first | lia | grind) 0 (by first | trivial | lia | grind)
              · refine g_iconst (v := 1) dX7_fits_80 (by decide) ?_
                refine g_goto (tgt := 85) dX7_fits_81 (by decide) ?_
                refine g_istore_n dX7_fits_85 (by decide) ?_
                refine g_pick (lv' := [(0, .ref (uk_ad G 60)), (1, .int w2), (2, .int i3), (3, .int 1), (4, .int i45)]) [0, 1, 2, 3, 4] rfl ?_
                refine g_iinc (v := i45 + 1) dX7_fits_86 rfl rfl (by decide) ?_
                refine g_pick (lv' := [(0, .ref (uk_ad G 60)), (1, .int w2), (2, .int i3), (3, .int 1), (4, .int (i45 + 1))]) [0, 1, 2, 3, 4] rfl ?_
                refine g_goto (tgt := 44) dX7_fits_89 (by decide) ?_
                refine g_pick (lv' := [(0, .ref (uk_ad G 60)), (1, .int w2), (2, .int i3), (3, .int 1), (4, .int (i45 + 1))]) [0, 1, 2, 3, 4] rfl ?_
                exact ihi45 (by first | lia | grind) 1 (by first | trivial | lia | grind)
        refine g_pick (lv' := [(0, .ref (uk_ad G 60)), (1, .int w2), (2, .int i3), (3, .int 1), (4, .int 0)]) [0, 1, 2, 3, 4] rfl ?_
        exact L44_42 0 (by first | decide | lia | grind) (by first | decide | lia | grind) 1 (by first | trivial | lia | grind)
  refine g_pick (lv' := [(0, .ref (uk_ad G 60)), (1, .int 0), (2, .int 0)]) [0, 1, 2] rfl ?_
  exact L4_0 0 (by first | decide | lia | grind) (by first | decide | lia | grind) 0 u hu f0 hri 
abbrev q_X7_fitTogether (u : uk_Mem) (m : Int32) (n : Int32) (r : Option Value) (u' : uk_Mem) : Prop := (∃ x : Int32, r = some (.int x) ∧ (x = 0 ∨ x = 1) ∧ (¬ x = 0 → True) ∧ (x = 0 → True)) ∧ (iv u' ∧ fk [60, 62, 71, 73] [3, 7, 10, 11, 13, 14, 15, 16, 17, 18, 19, 28] u u' ∧ ri u')
set_option maxHeartbeats 4000000 in
set_option maxRecDepth 20000 in
theorem c_X7_fitTogether {G : uk_D} (hs : uk_Sep G) {u : uk_Mem} (hu : iv u) (hri : ri u) (m : Int32) (n : Int32) (p0 : 0 ≤ m) (p1 : m < u.1 60 3) (p2 : m ≤ 7) (p3 : 0 ≤ n) (p4 : n < u.1 60 3) (p5 : n ≤ 7) (d : Nat) : uk_Meth G (d + 3) mX7_fitTogether [.ref (uk_ad G 60), .int m, .int n] u (q_X7_fitTogether u m n) := by
  refine uk_Meth.of hs (by decide) (Nat.le_of_ble_eq_true rfl) (fun X => ?_)
  have f0 : fk [60, 62, 71, 73] [3, 7, 10, 11, 13, 14, 15, 16, 17, 18, 19, 28] u u := fk_rf
  refine g_iconst (v := 0) dX7_fitTogether_0 (by decide) ?_
  refine g_istore_n dX7_fitTogether_1 (by decide) ?_
  refine g_pick (lv' := [(0, .ref (uk_ad G 60)), (1, .int m), (2, .int n), (3, .int 0)]) [0, 1, 2, 3] rfl ?_
  have L2_0 : ∀ i2 : Int32, 0 ≤ i2 → i2 ≤ 8 → ∀ (u3 : uk_Mem), iv u3 → fk [60, 62, 71, 73] [3, 7, 10, 11, 13, 14, 15, 16, 17, 18, 19, 28] u u3 → ri u3 → uk_G G X mX7_fitTogether (d + 3) (q_X7_fitTogether u m n) 2 [(0, .ref (uk_ad G 60)), (1, .int m), (2, .int n), (3, .int i2)] [] u3 := by
    refine uk_upl 8 ?_
    intro i2 ai2 bi2 ihi2  u3 hu3 fu3 riu3
    have wu3_60_3 : u3.1 60 3 = u.1 60 3 := fk_at fu3 (by decide)
    refine g_iload_n dX7_fitTogether_2 rfl ?_
    refine g_bipush (v := 8) dX7_fitTogether_3 (by decide) ?_
    refine g_icmp_ge (tgt := 21) dX7_fitTogether_5 (by decide) (fun c4 => ?_) (fun c4 => ?_)
    · refine g_iconst (v := 0) dX7_fitTogether_21 (by decide) ?_
      refine g_istore_n dX7_fitTogether_22 (by decide) ?_
      refine g_pick (lv' := [(0, .ref (uk_ad G 60)), (1, .int m), (2, .int n), (3, .int 0)]) [0, 1, 2, 3] rfl ?_
      have L23_4 : ∀ i6 : Int32, 0 ≤ i6 → i6 ≤ 8 → ∀ (u7 : uk_Mem), iv u7 → fk [60, 62, 71, 73] [3, 7, 10, 11, 13, 14, 15, 16, 17, 18, 19, 28] u u7 → ri u7 → uk_G G X mX7_fitTogether (d + 3) (q_X7_fitTogether u m n) 23 [(0, .ref (uk_ad G 60)), (1, .int m), (2, .int n), (3, .int i6)] [] u7 := by
        refine uk_upl 8 ?_
        intro i6 ai6 bi6 ihi6  u7 hu7 fu7 riu7
        have wu7_60_3 : u7.1 60 3 = u.1 60 3 := fk_at fu7 (by decide)
        refine g_iload_n dX7_fitTogether_23 rfl ?_
        refine g_aload_n dX7_fitTogether_24 rfl ?_
        refine f_X7_7 rfl rfl dX7_fitTogether_25 ?_
        refine g_bipush (v := 42) dX7_fitTogether_28 (by decide) ?_
        have v8 : vp_in 42 153 := uk_vin 153 rfl (by first | decide | lia | grind) (by first | decide | lia | grind)
        refine g_iald rfl rfl v8 dX7_fitTogether_30 ?_
        refine g_topi (fun x9 ex9 => ?_)
        have bx9 := uk_cl v8
        have rx9 : 0 ≤ x9 ∧ x9 ≤ 8 := by rw [ex9]; exact sg_42 hu7 (by unfold uk_is51; decide)
        refine g_icmp_ge (tgt := 58) dX7_fitTogether_31 (by decide) (fun c10 => ?_) (fun c10 => ?_)
        · refine g_aload_n dX7_fitTogether_58 rfl ?_
          refine g_iload_n dX7_fitTogether_59 rfl ?_
          refine g_sipush (v := 128) dX7_fitTogether_60 (by decide) ?_
          refine cl_X7_220 (c := 60) (As := [.int m, .int 128]) rfl (c_X7_mills (G := G) hs hu7 riu7  m 128 (by first | trivial | decide | lia | grind) (by first | trivial | decide | lia | grind) (by first | trivial | decide | lia | grind) (by first | trivial | decide | lia | grind) (d)) rfl (by omega) rfl rfl (Nat.le_of_ble_eq_true rfl) dX7_fitTogether_63 (fun r11 u12 q13 => ?_)
          obtain ⟨⟨x14, rfl, tx14⟩, mq13⟩ := q13
          obtain ⟨hu12, gu12, riu12, rau12, rpu12⟩ := mq13
          have fu12 : fk [60, 62, 71, 73] [3, 7, 10, 11, 13, 14, 15, 16, 17, 18, 19, 28] u u12 := fk_tr fu7 gu12 (by decide) (by decide)
          have wu12_60_3 : u12.1 60 3 = u7.1 60 3 := fk_at gu12 (by decide)
          refine g_pop dX7_fitTogether_66 rfl ?_
          refine g_iconst (v := 0) dX7_fitTogether_67 (by decide) ?_
          refine g_istore_n dX7_fitTogether_68 (by decide) ?_
          refine g_pick (lv' := [(0, .ref (uk_ad G 60)), (1, .int m), (2, .int n), (3, .int 0)]) [0, 1, 2, 3] rfl ?_
          have L69_14 : ∀ i16 : Int32, 0 ≤ i16 → i16 ≤ 8 → ∀ (u17 : uk_Mem), iv u17 → fk [60, 62, 71, 73] [3, 7, 10, 11, 13, 14, 15, 16, 17, 18, 19, 28] u u17 → ri u17 → uk_G G X mX7_fitTogether (d + 3) (q_X7_fitTogether u m n) 69 [(0, .ref (uk_ad G 60)), (1, .int m), (2, .int n), (3, .int i16)] [] u17 := by
            refine uk_upl 8 ?_
            intro i16 ai16 bi16 ihi16  u17 hu17 fu17 riu17
            have wu17_60_3 : u17.1 60 3 = u.1 60 3 := fk_at fu17 (by decide)
            refine g_iload_n dX7_fitTogether_69 rfl ?_
            refine g_aload_n dX7_fitTogether_70 rfl ?_
            refine f_X7_79 rfl rfl dX7_fitTogether_71 ?_
            refine g_topi (fun x18 ex18 => ?_)
            have rx18 : 0 ≤ x18 ∧ x18 ≤ 8 := by rw [ex18]; exact iv_at hu17 _ _ rfl
            have s19 : u17.1 60 3 = x18 := ex18.symm
            refine g_icmp_ge (tgt := 97) dX7_fitTogether_74 (by decide) (fun c20 => ?_) (fun c20 => ?_)
            · refine g_aload_n dX7_fitTogether_97 rfl ?_
              refine g_iload_n dX7_fitTogether_98 rfl ?_
              refine g_sipush (v := 128) dX7_fitTogether_99 (by decide) ?_
              refine cl_X7_220 (c := 60) (As := [.int n, .int 128]) rfl (c_X7_mills (G := G) hs hu17 riu17  n 128 (by first | trivial | decide | lia | grind) (by first | trivial | decide | lia | grind) (by first | trivial | decide | lia | grind) (by first | trivial | decide | lia | grind) (d)) rfl (by omega) rfl rfl (Nat.le_of_ble_eq_true rfl) dX7_fitTogether_102 (fun r21 u22 q23 => ?_)
              obtain ⟨⟨x24, rfl, tx24⟩, mq23⟩ := q23
              obtain ⟨hu22, gu22, riu22, rau22, rpu22⟩ := mq23
              have fu22 : fk [60, 62, 71, 73] [3, 7, 10, 11, 13, 14, 15, 16, 17, 18, 19, 28] u u22 := fk_tr fu17 gu22 (by decide) (by decide)
              have wu22_60_3 : u22.1 60 3 = u17.1 60 3 := fk_at gu22 (by decide)
              have s25 : u22.1 60 3 = x18 := (fk_at gu22 (by decide)).trans s19
              refine g_pop dX7_fitTogether_105 rfl ?_
              refine g_iconst (v := 1) dX7_fitTogether_106 (by decide) ?_
              refine g_istore_n dX7_fitTogether_107 (by decide) ?_
              refine g_pick (lv' := [(0, .ref (uk_ad G 60)), (1, .int m), (2, .int n), (3, .int 1)]) [0, 1, 2, 3] rfl ?_
              refine g_iconst (v := 0) dX7_fitTogether_108 (by decide) ?_
              refine g_istore dX7_fitTogether_109 (by decide) ?_
              refine g_pick (lv' := [(0, .ref (uk_ad G 60)), (1, .int m), (2, .int n), (3, .int 1), (4, .int 0)]) [0, 1, 2, 3, 4] rfl ?_
              have L111_25 : ∀ i28 : Int32, 0 ≤ i28 → i28 ≤ 8 → ∀ (w27 : Int32), w27 = 0 ∨ w27 = 1 → uk_G G X mX7_fitTogether (d + 3) (q_X7_fitTogether u m n) 111 [(0, .ref (uk_ad G 60)), (1, .int m), (2, .int n), (3, .int w27), (4, .int i28)] [] u22 := by
                refine uk_upl 8 ?_
                intro i28 ai28 bi28 ihi28 w27 ji280
                refine g_iload dX7_fitTogether_111 rfl ?_
                refine g_aload_n dX7_fitTogether_113 rfl ?_
                refine f_X7_79 rfl rfl dX7_fitTogether_114 ?_
                refine g_topi (fun x29 ex29 => ?_)
                have rx29 : 0 ≤ x29 ∧ x29 ≤ 8 := by rw [ex29]; exact iv_at hu22 _ _ rfl
                have qx29 : x29 = x18 := by rw [ex29]; exact s25
                refine g_icmp_ge (tgt := 153) dX7_fitTogether_117 (by decide) (fun c30 => ?_) (fun c30 => ?_)
                · refine g_iload_n dX7_fitTogether_153 rfl ?_
                  exact g_iret (ty := .boolean) dX7_fitTogether_154 rfl (uk_nb ji280) ⟨⟨_, rfl, ji280, fun q => by first | trivial | (have := (fun _ => trivial) q; first | exact this | grind), fun q => by first | trivial | (have := (fun _ => trivial) q; first | exact this | grind)⟩, hu22, fu22, riu22⟩
                · refine g_iload_n dX7_fitTogether_120 rfl ?_
                  refine g_if_eq (tgt := 145) dX7_fitTogether_121 (by decide) (fun c31 => ?_) (fun c31 => ?_)
                  · refine g_iconst (v := 0) dX7_fitTogether_145 (by decide) ?_
                    refine g_istore_n dX7_fitTogether_146 (by decide) ?_
                    refine g_pick (lv' := [(0, .ref (uk_ad G 60)), (1, .int m), (2, .int n), (3, .int 0), (4, .int i28)]) [0, 1, 2, 3, 4] rfl ?_
                    refine g_iinc (v := i28 + 1) dX7_fitTogether_147 rfl rfl (by decide) ?_
                    refine g_pick (lv' := [(0, .ref (uk_ad G 60)), (1, .int m), (2, .int n), (3, .int 0), (4, .int (i28 + 1))]) [0, 1, 2, 3, 4] rfl ?_
                    refine g_goto (tgt := 111) dX7_fitTogether_150 (by decide) ?_
                    refine g_pick (lv' := [(0, .ref (uk_ad G 60)), (1, .int m), (2, .int n), (3, .int 0), (4, .int (i28 + 1))]) [0, 1, 2, 3, 4] rfl ?_
                    exact ihi28 (by first | lia | grind) 0 (by first | trivial | lia | grind)
                  · refine g_aload_n dX7_fitTogether_124 rfl ?_
                    refine f_X7_48 rfl rfl dX7_fitTogether_125 ?_
                    refine g_iload dX7_fitTogether_128 rfl ?_
                    have v32 : vp_in i28 8 := uk_vin 8 rfl (by first | decide | lia | grind) (by first | decide | lia | grind)
                    refine g_iald rfl rfl v32 dX7_fitTogether_130 ?_
                    refine g_topi (fun x33 ex33 => ?_)
                    refine g_aload_n dX7_fitTogether_131 rfl ?_
                    refine g_iload dX7_fitTogether_132 rfl ?_
                    refine cl_X7_223 (c := 60) (As := [.int i28]) rfl (c_X7_countIn (G := G) hs hu22  i28  (d + 1)) rfl (by omega) rfl rfl (Nat.le_of_ble_eq_true rfl) dX7_fitTogether_134 (fun r34 u35 q36 => ?_)
                    obtain ⟨⟨x37, rfl, tx37⟩, mq36⟩ := q36
                    rw [mq36]
                    refine g_iadd dX7_fitTogether_137 ?_
                    refine g_topi (fun x38 ex38 => ?_)
                    refine g_if_ne (tgt := 145) dX7_fitTogether_138 (by decide) (fun c39 => ?_) (fun c39 => ?_)
                    · refine g_iconst (v := 0) dX7_fitTogether_145 (by decide) ?_
                      refine g_istore_n dX7_fitTogether_146 (by decide) ?_
                      refine g_pick (lv' := [(0, .ref (uk_ad G 60)), (1, .int m), (2, .int n), (3, .int 0), (4, .int i28)]) [0, 1, 2, 3, 4] rfl ?_
                      refine g_iinc (v := i28 + 1) dX7_fitTogether_147 rfl rfl (by decide) ?_
                      refine g_pick (lv' := [(0, .ref (uk_ad G 60)), (1, .int m), (2, .int n), (3, .int 0), (4, .int (i28 + 1))]) [0, 1, 2, 3, 4] rfl ?_
                      refine g_goto (tgt := 111) dX7_fitTogether_150 (by decide) ?_
                      refine g_pick (lv' := [(0, .ref (uk_ad G 60)), (1, .int m), (2, .int n), (3, .int 0), (4, .int (i28 + 1))]) [0, 1, 2, 3, 4] rfl ?_
                      exact ihi28 (by first | lia | grind) 0 (by first | trivial | lia | grind)
                    · refine g_iconst (v := 1) dX7_fitTogether_141 (by decide) ?_
                      refine g_goto (tgt := 146) dX7_fitTogether_142 (by decide) ?_
                      refine g_istore_n dX7_fitTogether_146 (by decide) ?_
                      refine g_pick (lv' := [(0, .ref (uk_ad G 60)), (1, .int m), (2, .int n), (3, .int 1), (4, .int i28)]) [0, 1, 2, 3, 4] rfl ?_
                      refine g_iinc (v := i28 + 1) dX7_fitTogether_147 rfl rfl (by decide) ?_
                      refine g_pick (lv' := [(0, .ref (uk_ad G 60)), (1, .int m), (2, .int n), (3, .int 1), (4, .int (i28 + 1))]) [0, 1, 2, 3, 4] rfl ?_
                      refine g_goto (tgt := 111) dX7_fitTogether_150 (by decide) ?_
                      refine g_pick (lv' := [(0, .ref (uk_ad G 60)), (1, .int m), (2, .int n), (3, .int 1), (4, .int (i28 + 1))]) [0, 1, 2, 3, 4] rfl ?_
                      exact ihi28 (by first | lia | grind) 1 (by first | trivial | lia | grind)
              refine g_pick (lv' := [(0, .ref (uk_ad G 60)), (1, .int m), (2, .int n), (3, .int 1), (4, .int 0)]) [0, 1, 2, 3, 4] rfl ?_
              exact L111_25 0 (by first | decide | lia | grind) (by first | decide | lia | grind) 1 (by first | trivial | lia | grind)
            · refine g_aload_n dX7_fitTogether_77 rfl ?_
              refine f_X7_48 rfl rfl dX7_fitTogether_78 ?_
              refine g_iload_n dX7_fitTogether_81 rfl ?_
              refine g_dup2 dX7_fitTogether_82 rfl rfl ?_
              have v40 : vp_in i16 8 := uk_vin 8 rfl (by first | decide | lia | grind) (by first | decide | lia | grind)
              refine g_iald rfl rfl v40 dX7_fitTogether_83 ?_
              refine g_topi (fun x41 ex41 => ?_)
              refine g_aload_n dX7_fitTogether_84 rfl ?_
              refine g_iload_n dX7_fitTogether_85 rfl ?_
              refine cl_X7_223 (c := 60) (As := [.int i16]) rfl (c_X7_countIn (G := G) hs hu17  i16  (d + 1)) rfl (by omega) rfl rfl (Nat.le_of_ble_eq_true rfl) dX7_fitTogether_86 (fun r42 u43 q44 => ?_)
              obtain ⟨⟨x45, rfl, tx45⟩, mq44⟩ := q44
              rw [mq44]
              refine g_iadd dX7_fitTogether_89 ?_
              refine g_topi (fun x46 ex46 => ?_)
              have v47 : vp_in i16 8 := uk_vin 8 rfl (by first | decide | lia | grind) (by first | decide | lia | grind)
              have b48 := uk_cl v47
              refine g_iast rfl rfl v47 dX7_fitTogether_90 ?_
              refine g_mem (fun u49 eu49 => ?_)
              have hu49 : iv u49 := by rw [eu49]; exact iv_upF hu17 (uk_pick1 _ (by omega))
              have fu49 : fk [60, 62, 71, 73] [3, 7, 10, 11, 13, 14, 15, 16, 17, 18, 19, 28] u u49 := by rw [eu49]; exact fk_up fu17 (by decide) (fun q => absurd q (by decide))
              have riu49 : ri u49 := by rw [eu49]; exact ri_1 riu17 (by decide) (fun q => absurd q (by decide))
              refine g_iinc (v := i16 + 1) dX7_fitTogether_91 rfl rfl (by decide) ?_
              refine g_pick (lv' := [(0, .ref (uk_ad G 60)), (1, .int m), (2, .int n), (3, .int (i16 + 1))]) [0, 1, 2, 3] rfl ?_
              refine g_goto (tgt := 69) dX7_fitTogether_94 (by decide) ?_
              refine g_pick (lv' := [(0, .ref (uk_ad G 60)), (1, .int m), (2, .int n), (3, .int (i16 + 1))]) [0, 1, 2, 3] rfl ?_
              exact ihi16 (by first | lia | grind)  u49 hu49 fu49 riu49 
          refine g_pick (lv' := [(0, .ref (uk_ad G 60)), (1, .int m), (2, .int n), (3, .int 0)]) [0, 1, 2, 3] rfl ?_
          exact L69_14 0 (by first | decide | lia | grind) (by first | decide | lia | grind)  u12 hu12 fu12 riu12 
        · refine g_aload_n dX7_fitTogether_34 rfl ?_
          refine f_X7_48 rfl rfl dX7_fitTogether_35 ?_
          refine g_aload_n dX7_fitTogether_38 rfl ?_
          refine f_X7_7 rfl rfl dX7_fitTogether_39 ?_
          refine g_bipush (v := 43) dX7_fitTogether_42 (by decide) ?_
          refine g_iload_n dX7_fitTogether_44 rfl ?_
          refine g_iadd dX7_fitTogether_45 ?_
          refine g_topi (fun x50 ex50 => ?_)
          have v51 : vp_in x50 153 := uk_vin 153 rfl (by first | decide | lia | grind) (by first | decide | lia | grind)
          refine g_iald rfl rfl v51 dX7_fitTogether_46 ?_
          refine g_topi (fun x52 ex52 => ?_)
          have bx52 := uk_cl v51
          have rx52 : 0 ≤ x52 ∧ x52 ≤ 7 := by rw [ex52]; exact sg_43 hu7 (by unfold uk_is51; decide) (by first | lia | grind) (by first | lia | grind)
          refine g_dup2 dX7_fitTogether_47 rfl rfl ?_
          have v53 : vp_in x52 8 := uk_vin 8 rfl (by first | decide | lia | grind) (by first | decide | lia | grind)
          refine g_iald rfl rfl v53 dX7_fitTogether_48 ?_
          refine g_topi (fun x54 ex54 => ?_)
          refine g_iconst (v := 1) dX7_fitTogether_49 (by decide) ?_
          refine g_isub dX7_fitTogether_50 ?_
          refine g_topi (fun x55 ex55 => ?_)
          have v56 : vp_in x52 8 := uk_vin 8 rfl (by first | decide | lia | grind) (by first | decide | lia | grind)
          have b57 := uk_cl v56
          refine g_iast rfl rfl v56 dX7_fitTogether_51 ?_
          refine g_mem (fun u58 eu58 => ?_)
          have hu58 : iv u58 := by rw [eu58]; exact iv_upF hu7 (uk_pick1 _ (by omega))
          have fu58 : fk [60, 62, 71, 73] [3, 7, 10, 11, 13, 14, 15, 16, 17, 18, 19, 28] u u58 := by rw [eu58]; exact fk_up fu7 (by decide) (fun q => absurd q (by decide))
          have riu58 : ri u58 := by rw [eu58]; exact ri_1 riu7 (by decide) (fun q => absurd q (by decide))
          refine g_iinc (v := i6 + 1) dX7_fitTogether_52 rfl rfl (by decide) ?_
          refine g_pick (lv' := [(0, .ref (uk_ad G 60)), (1, .int m), (2, .int n), (3, .int (i6 + 1))]) [0, 1, 2, 3] rfl ?_
          refine g_goto (tgt := 23) dX7_fitTogether_55 (by decide) ?_
          refine g_pick (lv' := [(0, .ref (uk_ad G 60)), (1, .int m), (2, .int n), (3, .int (i6 + 1))]) [0, 1, 2, 3] rfl ?_
          exact ihi6 (by first | lia | grind)  u58 hu58 fu58 riu58 
      refine g_pick (lv' := [(0, .ref (uk_ad G 60)), (1, .int m), (2, .int n), (3, .int 0)]) [0, 1, 2, 3] rfl ?_
      exact L23_4 0 (by first | decide | lia | grind) (by first | decide | lia | grind)  u3 hu3 fu3 riu3 
    · refine g_aload_n dX7_fitTogether_8 rfl ?_
      refine f_X7_48 rfl rfl dX7_fitTogether_9 ?_
      refine g_iload_n dX7_fitTogether_12 rfl ?_
      refine g_iconst (v := 0) dX7_fitTogether_13 (by decide) ?_
      have v59 : vp_in i2 8 := uk_vin 8 rfl (by first | decide | lia | grind) (by first | decide | lia | grind)
      have b60 := uk_cl v59
      refine g_iast rfl rfl v59 dX7_fitTogether_14 ?_
      refine g_mem (fun u61 eu61 => ?_)
      have hu61 : iv u61 := by rw [eu61]; exact iv_upF hu3 (uk_pick1 _ (by omega))
      have fu61 : fk [60, 62, 71, 73] [3, 7, 10, 11, 13, 14, 15, 16, 17, 18, 19, 28] u u61 := by rw [eu61]; exact fk_up fu3 (by decide) (fun q => absurd q (by decide))
      have riu61 : ri u61 := by rw [eu61]; exact ri_1 riu3 (by decide) (fun q => absurd q (by decide))
      refine g_iinc (v := i2 + 1) dX7_fitTogether_15 rfl rfl (by decide) ?_
      refine g_pick (lv' := [(0, .ref (uk_ad G 60)), (1, .int m), (2, .int n), (3, .int (i2 + 1))]) [0, 1, 2, 3] rfl ?_
      refine g_goto (tgt := 2) dX7_fitTogether_18 (by decide) ?_
      refine g_pick (lv' := [(0, .ref (uk_ad G 60)), (1, .int m), (2, .int n), (3, .int (i2 + 1))]) [0, 1, 2, 3] rfl ?_
      exact ihi2 (by first | lia | grind)  u61 hu61 fu61 riu61 
  refine g_pick (lv' := [(0, .ref (uk_ad G 60)), (1, .int m), (2, .int n), (3, .int 0)]) [0, 1, 2, 3] rfl ?_
  exact L2_0 0 (by first | decide | lia | grind) (by first | decide | lia | grind)  u hu f0 hri 
abbrev q_X7_pairs (u : uk_Mem) (w : Int32) (r : Option Value) (u' : uk_Mem) : Prop := (∃ x : Int32, r = some (.int x) ∧ True) ∧ (iv u' ∧ fk [60, 62, 71, 73] [3, 7, 10, 11, 13, 14, 15, 16, 17, 18, 19, 28] u u' ∧ ri u')
set_option maxHeartbeats 4000000 in
set_option maxRecDepth 20000 in
theorem c_X7_pairs {G : uk_D} (hs : uk_Sep G) {u : uk_Mem} (hu : iv u) (hri : ri u) (w : Int32) (d : Nat) : uk_Meth G (d + 4) mX7_pairs [.ref (uk_ad G 60), .int w] u (q_X7_pairs u w) := by
  refine uk_Meth.of hs (by decide) (Nat.le_of_ble_eq_true rfl) (fun X => ?_)
  have f0 : fk [60, 62, 71, 73] [3, 7, 10, 11, 13, 14, 15, 16, 17, 18, 19, 28] u u := fk_rf
  refine g_iload_n dX7_pairs_0 rfl ?_
  refine cl_X7_197 (As := [.int w]) rfl (c_X7_isPart (G := G) hs hu  w  (d + 2)) rfl (by omega) rfl (Nat.le_of_ble_eq_true rfl) dX7_pairs_1 (fun r1 u2 q3 => ?_)
  obtain ⟨⟨x4, rfl, tx4, nx4, zx4⟩, mq3⟩ := q3
  rw [mq3]
  refine g_if_ne (tgt := 9) dX7_pairs_4 (by decide) (fun c5 => ?_) (fun c5 => ?_)
  · have zc5 := nx4 c5
    refine g_iconst (v := 0) dX7_pairs_9 (by decide) ?_
    refine g_istore_n dX7_pairs_10 (by decide) ?_
    refine g_pick (lv' := [(0, .ref (uk_ad G 60)), (1, .int w), (2, .int 0)]) [0, 1, 2] rfl ?_
    refine g_bipush (v := (-4)) dX7_pairs_11 (by decide) ?_
    refine g_istore_n dX7_pairs_13 (by decide) ?_
    refine g_pick (lv' := [(0, .ref (uk_ad G 60)), (1, .int w), (2, .int 0), (3, .int (-4))]) [0, 1, 2, 3] rfl ?_
    refine g_iconst (v := 0) dX7_pairs_14 (by decide) ?_
    refine g_istore dX7_pairs_15 (by decide) ?_
    refine g_pick (lv' := [(0, .ref (uk_ad G 60)), (1, .int w), (2, .int 0), (3, .int (-4)), (4, .int 0)]) [0, 1, 2, 3, 4] rfl ?_
    have L17_5 : ∀ i9 : Int32, 0 ≤ i9 → i9 ≤ 8 → ∀ (w7 : Int32) (w8 : Int32) (u10 : uk_Mem), iv u10 → fk [60, 62, 71, 73] [3, 7, 10, 11, 13, 14, 15, 16, 17, 18, 19, 28] u u10 → ri u10 → uk_G G X mX7_pairs (d + 4) (q_X7_pairs u w) 17 [(0, .ref (uk_ad G 60)), (1, .int w), (2, .int w7), (3, .int w8), (4, .int i9)] [] u10 := by
      refine uk_upl 8 ?_
      intro i9 ai9 bi9 ihi9 w7 w8 u10 hu10 fu10 riu10
      have wu10_60_3 : u10.1 60 3 = u.1 60 3 := fk_at fu10 (by decide)
      refine g_iload dX7_pairs_17 rfl ?_
      refine g_aload_n dX7_pairs_19 rfl ?_
      refine f_X7_79 rfl rfl dX7_pairs_20 ?_
      refine g_topi (fun x11 ex11 => ?_)
      have rx11 : 0 ≤ x11 ∧ x11 ≤ 8 := by rw [ex11]; exact iv_at hu10 _ _ rfl
      have s12 : u10.1 60 3 = x11 := ex11.symm
      refine g_icmp_ge (tgt := 82) dX7_pairs_23 (by decide) (fun c13 => ?_) (fun c13 => ?_)
      · refine g_iload_n dX7_pairs_82 rfl ?_
        refine g_if_ne (tgt := 90) dX7_pairs_83 (by decide) (fun c14 => ?_) (fun c14 => ?_)
        · refine g_iload_n dX7_pairs_90 rfl ?_
          exact g_iret (ty := .int) dX7_pairs_91 rfl rfl ⟨⟨_, rfl, by first | trivial | lia | grind⟩, hu10, fu10, riu10⟩
        · refine g_iload_n dX7_pairs_86 rfl ?_
          refine g_goto (tgt := 91) dX7_pairs_87 (by decide) ?_
          exact g_iret (ty := .int) dX7_pairs_91 rfl rfl ⟨⟨_, rfl, by first | trivial | lia | grind⟩, hu10, fu10, riu10⟩
      · refine g_iload dX7_pairs_26 rfl ?_
        refine g_istore dX7_pairs_28 (by decide) ?_
        refine g_pick (lv' := [(0, .ref (uk_ad G 60)), (1, .int w), (2, .int w7), (3, .int w8), (4, .int i9), (5, .int i9)]) [0, 1, 2, 3, 4, 5] rfl ?_
        have L30_14 : ∀ i18 : Int32, 0 ≤ i18 → i18 ≤ 8 → ∀ (w16 : Int32) (w17 : Int32) (u19 : uk_Mem), iv u19 → fk [60, 62, 71, 73] [3, 7, 10, 11, 13, 14, 15, 16, 17, 18, 19, 28] u u19 → ri u19 → uk_G G X mX7_pairs (d + 4) (q_X7_pairs u w) 30 [(0, .ref (uk_ad G 60)), (1, .int w), (2, .int w16), (3, .int w17), (4, .int i9), (5, .int i18)] [] u19 := by
          refine uk_upl 8 ?_
          intro i18 ai18 bi18 ihi18 w16 w17 u19 hu19 fu19 riu19
          have wu19_60_3 : u19.1 60 3 = u.1 60 3 := fk_at fu19 (by decide)
          refine g_iload dX7_pairs_30 rfl ?_
          refine g_aload_n dX7_pairs_32 rfl ?_
          refine f_X7_79 rfl rfl dX7_pairs_33 ?_
          refine g_topi (fun x20 ex20 => ?_)
          have rx20 : 0 ≤ x20 ∧ x20 ≤ 8 := by rw [ex20]; exact iv_at hu19 _ _ rfl
          have s21 : u19.1 60 3 = x20 := ex20.symm
          refine g_icmp_ge (tgt := 76) dX7_pairs_36 (by decide) (fun c22 => ?_) (fun c22 => ?_)
          · refine g_iinc (v := i9 + 1) dX7_pairs_76 rfl rfl (by decide) ?_
            refine g_pick (lv' := [(0, .ref (uk_ad G 60)), (1, .int w), (2, .int w16), (3, .int w17), (4, .int (i9 + 1)), (5, .int i18)]) [0, 1, 2, 3, 4, 5] rfl ?_
            refine g_goto (tgt := 17) dX7_pairs_79 (by decide) ?_
            refine g_pick (lv' := [(0, .ref (uk_ad G 60)), (1, .int w), (2, .int w16), (3, .int w17), (4, .int (i9 + 1))]) [0, 1, 2, 3, 4] rfl ?_
            exact ihi9 (by first | lia | grind) w16 w17 u19 hu19 fu19 riu19 
          · refine g_aload_n dX7_pairs_39 rfl ?_
            refine g_iload dX7_pairs_40 rfl ?_
            refine g_iload dX7_pairs_42 rfl ?_
            refine cl_X7_261 (c := 60) (As := [.int i9, .int i18]) rfl (c_X7_fitTogether (G := G) hs hu19 riu19  i9 i18 (by first | trivial | decide | lia | grind) (by first | trivial | decide | lia | grind) (by first | trivial | decide | lia | grind) (by first | trivial | decide | lia | grind) (by first | trivial | decide | lia | grind) (by first | trivial | decide | lia | grind) (d)) rfl (by omega) rfl rfl (Nat.le_of_ble_eq_true rfl) dX7_pairs_44 (fun r23 u24 q25 => ?_)
            obtain ⟨⟨x26, rfl, tx26, nx26, zx26⟩, mq25⟩ := q25
            obtain ⟨hu24, gu24, riu24⟩ := mq25
            have fu24 : fk [60, 62, 71, 73] [3, 7, 10, 11, 13, 14, 15, 16, 17, 18, 19, 28] u u24 := fk_tr fu19 gu24 (by decide) (by decide)
            have wu24_60_3 : u24.1 60 3 = u19.1 60 3 := fk_at gu24 (by decide)
            have s27 : u24.1 60 3 = x20 := (fk_at gu24 (by decide)).trans s21
            refine g_if_eq (tgt := 70) dX7_pairs_47 (by decide) (fun c28 => ?_) (fun c28 => ?_)
            · have zc28 := zx26 c28
              refine g_iinc (v := i18 + 1) dX7_pairs_70 rfl rfl (by decide) ?_
              refine g_pick (lv' := [(0, .ref (uk_ad G 60)), (1, .int w), (2, .int w16), (3, .int w17), (4, .int i9), (5, .int (i18 + 1))]) [0, 1, 2, 3, 4, 5] rfl ?_
              refine g_goto (tgt := 30) dX7_pairs_73 (by decide) ?_
              refine g_pick (lv' := [(0, .ref (uk_ad G 60)), (1, .int w), (2, .int w16), (3, .int w17), (4, .int i9), (5, .int (i18 + 1))]) [0, 1, 2, 3, 4, 5] rfl ?_
              exact ihi18 (by first | lia | grind) w16 w17 u24 hu24 fu24 riu24 
            · have zc28 := nx26 c28
              refine g_iload_n dX7_pairs_50 rfl ?_
              refine g_if_ne (tgt := 65) dX7_pairs_51 (by decide) (fun c29 => ?_) (fun c29 => ?_)
              · refine g_iload_n dX7_pairs_65 rfl ?_
                refine g_istore_n dX7_pairs_66 (by decide) ?_
                refine g_pick (lv' := [(0, .ref (uk_ad G 60)), (1, .int w), (2, .int w16), (3, .int w17), (4, .int i9), (5, .int i18)]) [0, 1, 2, 3, 4, 5] rfl ?_
                refine g_iinc (v := w16 + 1) dX7_pairs_67 rfl rfl (by decide) ?_
                refine g_pick (lv' := [(0, .ref (uk_ad G 60)), (1, .int w), (2, .int (w16 + 1)), (3, .int w17), (4, .int i9), (5, .int i18)]) [0, 1, 2, 3, 4, 5] rfl ?_
                refine g_iinc (v := i18 + 1) dX7_pairs_70 rfl rfl (by decide) ?_
                refine g_pick (lv' := [(0, .ref (uk_ad G 60)), (1, .int w), (2, .int (w16 + 1)), (3, .int w17), (4, .int i9), (5, .int (i18 + 1))]) [0, 1, 2, 3, 4, 5] rfl ?_
                refine g_goto (tgt := 30) dX7_pairs_73 (by decide) ?_
                refine g_pick (lv' := [(0, .ref (uk_ad G 60)), (1, .int w), (2, .int (w16 + 1)), (3, .int w17), (4, .int i9), (5, .int (i18 + 1))]) [0, 1, 2, 3, 4, 5] rfl ?_
                exact ihi18 (by first | lia | grind) (w16 + 1) w17 u24 hu24 fu24 riu24 
              · refine g_bipush (v := 10) dX7_pairs_54 (by decide) ?_
                refine g_iload dX7_pairs_56 rfl ?_
                refine g_imul dX7_pairs_58 ?_
                refine g_topi (fun x30 ex30 => ?_)
                refine g_iload dX7_pairs_59 rfl ?_
                refine g_iadd dX7_pairs_61 ?_
                refine g_topi (fun x31 ex31 => ?_)
                refine g_goto (tgt := 66) dX7_pairs_62 (by decide) ?_
                refine g_istore_n dX7_pairs_66 (by decide) ?_
                refine g_pick (lv' := [(0, .ref (uk_ad G 60)), (1, .int w), (2, .int w16), (3, .int x31), (4, .int i9), (5, .int i18)]) [0, 1, 2, 3, 4, 5] rfl ?_
                refine g_iinc (v := w16 + 1) dX7_pairs_67 rfl rfl (by decide) ?_
                refine g_pick (lv' := [(0, .ref (uk_ad G 60)), (1, .int w), (2, .int (w16 + 1)), (3, .int x31), (4, .int i9), (5, .int i18)]) [0, 1, 2, 3, 4, 5] rfl ?_
                refine g_iinc (v := i18 + 1) dX7_pairs_70 rfl rfl (by decide) ?_
                refine g_pick (lv' := [(0, .ref (uk_ad G 60)), (1, .int w), (2, .int (w16 + 1)), (3, .int x31), (4, .int i9), (5, .int (i18 + 1))]) [0, 1, 2, 3, 4, 5] rfl ?_
                refine g_goto (tgt := 30) dX7_pairs_73 (by decide) ?_
                refine g_pick (lv' := [(0, .ref (uk_ad G 60)), (1, .int w), (2, .int (w16 + 1)), (3, .int x31), (4, .int i9), (5, .int (i18 + 1))]) [0, 1, 2, 3, 4, 5] rfl ?_
                exact ihi18 (by first | lia | grind) (w16 + 1) x31 u24 hu24 fu24 riu24 
        refine g_pick (lv' := [(0, .ref (uk_ad G 60)), (1, .int w), (2, .int w7), (3, .int w8), (4, .int i9), (5, .int i9)]) [0, 1, 2, 3, 4, 5] rfl ?_
        exact L30_14 i9 (by first | decide | lia | grind) (by first | decide | lia | grind) w7 w8 u10 hu10 fu10 riu10 
    refine g_pick (lv' := [(0, .ref (uk_ad G 60)), (1, .int w), (2, .int 0), (3, .int (-4)), (4, .int 0)]) [0, 1, 2, 3, 4] rfl ?_
    exact L17_5 0 (by first | decide | lia | grind) (by first | decide | lia | grind) 0 (-4) u hu f0 hri 
  · have zc5 := zx4 c5
    refine g_iconst (v := (-1)) dX7_pairs_7 (by decide) ?_
    exact g_iret (ty := .int) dX7_pairs_8 rfl rfl ⟨⟨_, rfl, by first | trivial | lia | grind⟩, hu, f0, hri⟩
abbrev q_X7_read (u : uk_Mem) (k : Int32) (l : Int32) (f : Int32) (n : Int32) (r : Option Value) (u' : uk_Mem) : Prop := (∃ x : Int32, r = some (.int x) ∧ True) ∧ (iv u' ∧ fk [60, 61, 62, 77] [3, 7, 10, 11, 13, 14, 15, 16, 17, 18, 19, 22] u u' ∧ ri u')