theorem uk_cmo {i j : Int32} (h0 : 0 ≤ i) (h : i ≤ j) : i.toNatClampNeg ≤ j.toNatClampNeg := by
  have a := Int32.le_iff_toInt_le.mp h0
  have b := Int32.le_iff_toInt_le.mp h
  have z : (0 : Int32).toInt = 0 := rfl
  have e1 : i.toNatClampNeg = i.toInt.toNat := rfl
  have e2 : j.toNatClampNeg = j.toInt.toNat := rfl
  omega
theorem lg_rem_lt {x y z : Int64} (h : z = x - x / y * y) (hy : ¬ y = 0) : z.toInt.natAbs < y.toInt.natAbs := by
  have hy0 : ¬ y.toInt = 0 := fun q => hy (Int64.toInt_inj.mp q)
  have e : z.toInt = (x.toInt.tmod y.toInt).bmod (2 ^ 64) := by
    rw [h, Int64.toInt_sub, Int64.toInt_mul, Int64.toInt_div, Int.bmod_mul_bmod, Int.sub_bmod_bmod, Int.tmod_def, Int.mul_comm y.toInt]
  have hb : (x.toInt.tmod y.toInt).natAbs < y.toInt.natAbs := by
    rw [Int.natAbs_tmod]
    exact Nat.mod_lt _ (by omega)
  have l1 := Int64.le_toInt y
  have l2 := Int64.toInt_le y
  have m0 : Int64.minValue.toInt = -9223372036854775808 := rfl
  have m1 : Int64.maxValue.toInt = 9223372036854775807 := rfl
  rw [e, Int.bmod_eq_of_le (by omega) (by omega)]
  exact hb
abbrev q_X7_canHave (u : uk_Mem) (m : Int32) (n : Int32) (r : Option Value) (u' : uk_Mem) : Prop := (∃ x : Int32, r = some (.int x) ∧ (x = 0 ∨ x = 1) ∧ (¬ x = 0 → True) ∧ (x = 0 → ¬ n = 0)) ∧ (iv u' ∧ fk [70] [] u u' ∧ ri u')
set_option maxHeartbeats 4000000 in
set_option maxRecDepth 20000 in
theorem c_X7_canHave {G : uk_D} (hs : uk_Sep G) {u : uk_Mem} (hu : iv u) (hri : ri u) (m : Int32) (n : Int32) (p0 : 0 ≤ m) (p1 : m < u.1 60 3) (p2 : m ≤ 7) (d : Nat) : uk_Meth G (d + 1) mX7_canHave [.ref (uk_ad G 60), .int m, .int n] u (q_X7_canHave u m n) := by
  refine uk_Meth.of hs (by decide) (Nat.le_of_ble_eq_true rfl) (fun X => ?_)
  have f0 : fk [70] [] u u := fk_rf
  have C61 : u.1 61 = u.1 61 := rfl
  refine g_iconst (v := 0) dX7_canHave_0 (by decide) ?_
  refine g_istore_n dX7_canHave_1 (by decide) ?_
  refine g_pick (lv' := [(0, .ref (uk_ad G 60)), (1, .int m), (2, .int n), (3, .int 0)]) [0, 1, 2, 3] rfl ?_
  have L2_0 : ∀ i2 : Int32, 0 ≤ i2 → i2 ≤ 8 → ∀ (u3 : uk_Mem), iv u3 → fk [70] [] u u3 → ri u3 → az n (u3.1 70) i2 → uk_G G X mX7_canHave (d + 1) (q_X7_canHave u m n) 2 [(0, .ref (uk_ad G 60)), (1, .int m), (2, .int n), (3, .int i2)] [] u3 := by
    refine uk_upl 8 ?_
    intro i2 ai2 bi2 ihi2  u3 hu3 fu3 riu3 ji20
    have wu3_60_3 : u3.1 60 3 = u.1 60 3 := fk_at fu3 (by decide)
    refine g_iload_n dX7_canHave_2 rfl ?_
    refine g_aload_n dX7_canHave_3 rfl ?_
    refine f_X7_79 rfl rfl dX7_canHave_4 ?_
    refine g_topi (fun x4 ex4 => ?_)
    have rx4 : 0 ≤ x4 ∧ x4 ≤ 8 := by rw [ex4]; exact iv_at hu3 _ _ rfl
    have s5 : u3.1 60 3 = x4 := ex4.symm
    refine g_icmp_ge (tgt := 32) dX7_canHave_7 (by decide) (fun c6 => ?_) (fun c6 => ?_)
    · refine g_iload_n dX7_canHave_32 rfl ?_
      refine g_istore_n dX7_canHave_33 (by decide) ?_
      refine g_pick (lv' := [(0, .ref (uk_ad G 60)), (1, .int m), (2, .int n), (3, .int m)]) [0, 1, 2, 3] rfl ?_
      have L34_6 : ∀ i8 : Int32, -1 ≤ i8 → ∀ (u9 : uk_Mem), iv u9 → fk [70] [] u u9 → ri u9 → i8 ≤ 7 → i8 < u.1 60 3 → az n (u9.1 70) (u.1 60 3) → uk_G G X mX7_canHave (d + 1) (q_X7_canHave u m n) 34 [(0, .ref (uk_ad G 60)), (1, .int m), (2, .int n), (3, .int i8)] [] u9 := by
        refine uk_dnl ?_
        intro i8 ai8 ihi8  u9 hu9 fu9 riu9 ji80 ji81 ji82
        have C61_u9 : u9.1 61 = u9.1 61 := rfl
        have wu9_60_3 : u9.1 60 3 = u.1 60 3 := fk_at fu9 (by decide)
        refine g_iload_n dX7_canHave_34 rfl ?_
        refine g_if_lt (tgt := 141) dX7_canHave_35 (by decide) (fun c10 => ?_) (fun c10 => ?_)
        · refine g_iconst (v := 1) dX7_canHave_141 (by decide) ?_
          exact g_iret (ty := .boolean) dX7_canHave_142 rfl rfl ⟨⟨1, rfl, Or.inr rfl, fun _ => by first | trivial | lia | grind, fun q => absurd q (by decide)⟩, hu9, fu9, riu9⟩
        · refine g_iload_n dX7_canHave_38 rfl ?_
          refine g_iload_n dX7_canHave_39 rfl ?_
          refine g_icmp_ne (tgt := 47) dX7_canHave_40 (by decide) (fun c11 => ?_) (fun c11 => ?_)
          · refine g_aload_n dX7_canHave_47 rfl ?_
            refine f_X7_7 rfl rfl dX7_canHave_48 ?_
            refine g_iconst (v := 0) dX7_canHave_51 (by decide) ?_
            refine g_iload_n dX7_canHave_52 rfl ?_
            refine g_iadd dX7_canHave_53 ?_
            refine g_topi (fun x12 ex12 => ?_)
            have ox12 : x12 = i8 := by rw [ex12, Int32.zero_add]
            have v13 : vp_in x12 153 := uk_vin 153 rfl (by first | decide | lia | grind) (by first | decide | lia | grind)
            refine g_iald rfl rfl v13 dX7_canHave_54 ?_
            refine g_topi (fun x14 ex14 => ?_)
            have bx14 := uk_cl v13
            have rx14 : 0 ≤ x14 ∧ x14 ≤ 40 := by rw [ex14]; exact sg_0 hu9 (by unfold uk_is51; decide) (by first | lia | grind) (by first | lia | grind)
            have px14 : x14 = (u9.1 61) (x12 : Int32).toNatClampNeg := ex14.trans (congrFun C61_u9 _)
            refine g_istore dX7_canHave_55 (by decide) ?_
            refine g_pick (lv' := [(0, .ref (uk_ad G 60)), (1, .int m), (2, .int n), (3, .int i8), (4, .int x14)]) [0, 1, 2, 3, 4] rfl ?_
            refine g_aload_n dX7_canHave_57 rfl ?_
            refine f_X7_38 rfl rfl dX7_canHave_58 ?_
            refine g_iload_n dX7_canHave_61 rfl ?_
            have v15 : vp_in i8 8 := uk_vin 8 rfl (by first | decide | lia | grind) (by first | decide | lia | grind)
            refine g_iald rfl rfl v15 dX7_canHave_62 ?_
            refine g_topi (fun x16 ex16 => ?_)
            refine g_iload dX7_canHave_63 rfl ?_
            refine g_icmp_le (tgt := 80) dX7_canHave_65 (by decide) (fun c17 => ?_) (fun c17 => ?_)
            · refine g_iconst (v := 0) dX7_canHave_80 (by decide) ?_
              refine g_istore dX7_canHave_81 (by decide) ?_
              refine g_pick (lv' := [(0, .ref (uk_ad G 60)), (1, .int m), (2, .int n), (3, .int i8), (4, .int x14), (5, .int 0)]) [0, 1, 2, 3, 4, 5] rfl ?_
              refine g_iload dX7_canHave_83 rfl ?_
              refine g_if_le (tgt := 98) dX7_canHave_85 (by decide) (fun c18 => ?_) (fun c18 => ?_)
              · refine g_iload dX7_canHave_98 rfl ?_
                refine g_if_le (tgt := 135) dX7_canHave_100 (by decide) (fun c19 => ?_) (fun c19 => ?_)
                · refine g_iinc (v := i8 - 1) dX7_canHave_135 rfl (uk_m1 _) (by decide) ?_
                  refine g_pick (lv' := [(0, .ref (uk_ad G 60)), (1, .int m), (2, .int n), (3, .int (i8 - 1)), (4, .int x14), (5, .int 0)]) [0, 1, 2, 3, 4, 5] rfl ?_
                  refine g_goto (tgt := 34) dX7_canHave_138 (by decide) ?_
                  refine g_pick (lv' := [(0, .ref (uk_ad G 60)), (1, .int m), (2, .int n), (3, .int (i8 - 1))]) [0, 1, 2, 3] rfl ?_
                  exact ihi8 (by first | lia | grind)  u9 hu9 fu9 riu9 (by lia) (by lia) ji82
                · exact absurd c19 (by decide)
              · exact absurd c18 (by decide)
            · refine g_aload_n dX7_canHave_68 rfl ?_
              refine f_X7_38 rfl rfl dX7_canHave_69 ?_
              refine g_iload_n dX7_canHave_72 rfl ?_
              have v20 : vp_in i8 8 := uk_vin 8 rfl (by first | decide | lia | grind) (by first | decide | lia | grind)
              refine g_iald rfl rfl v20 dX7_canHave_73 ?_
              refine g_topi (fun x21 ex21 => ?_)
              refine g_iload dX7_canHave_74 rfl ?_
              refine g_isub dX7_canHave_76 ?_
              refine g_topi (fun x22 ex22 => ?_)
              refine g_goto (tgt := 81) dX7_canHave_77 (by decide) ?_
              refine g_istore dX7_canHave_81 (by decide) ?_
              refine g_pick (lv' := [(0, .ref (uk_ad G 60)), (1, .int m), (2, .int n), (3, .int i8), (4, .int x14), (5, .int x22)]) [0, 1, 2, 3, 4, 5] rfl ?_
              refine g_iload dX7_canHave_83 rfl ?_
              refine g_if_le (tgt := 98) dX7_canHave_85 (by decide) (fun c23 => ?_) (fun c23 => ?_)
              · refine g_iload dX7_canHave_98 rfl ?_
                refine g_if_le (tgt := 135) dX7_canHave_100 (by decide) (fun c24 => ?_) (fun c24 => ?_)
                · refine g_iinc (v := i8 - 1) dX7_canHave_135 rfl (uk_m1 _) (by decide) ?_
                  refine g_pick (lv' := [(0, .ref (uk_ad G 60)), (1, .int m), (2, .int n), (3, .int (i8 - 1)), (4, .int x14), (5, .int x22)]) [0, 1, 2, 3, 4, 5] rfl ?_
                  refine g_goto (tgt := 34) dX7_canHave_138 (by decide) ?_
                  refine g_pick (lv' := [(0, .ref (uk_ad G 60)), (1, .int m), (2, .int n), (3, .int (i8 - 1))]) [0, 1, 2, 3] rfl ?_
                  exact ihi8 (by first | lia | grind)  u9 hu9 fu9 riu9 (by lia) (by lia) ji82
                · exact absurd (show x22 ≤ 0 by assumption) (by assumption)
              · have hn0 : ¬ n = 0 := fun q => by have w0 := ji82 q i8 (by lia) (by lia); first | lia | grind
                refine g_aload_n dX7_canHave_88 rfl ?_
                refine g_iload_n dX7_canHave_89 rfl ?_
                refine cl_X7_166 (c := 60) (As := [.int i8]) rfl (c_X7_isRaw (G := G) hs hu9  i8 (by first | trivial | decide | lia | grind) (by first | trivial | decide | lia | grind) (d)) rfl (by omega) rfl rfl (Nat.le_of_ble_eq_true rfl) dX7_canHave_90 (fun r25 u26 q27 => ?_)
                obtain ⟨⟨x28, rfl, tx28, nx28, zx28⟩, mq27⟩ := q27
                rw [mq27]
                refine g_if_eq (tgt := 98) dX7_canHave_93 (by decide) (fun c29 => ?_) (fun c29 => ?_)
                · have zc29 := zx28 c29
                  refine g_iload dX7_canHave_98 rfl ?_
                  refine g_if_le (tgt := 135) dX7_canHave_100 (by decide) (fun c30 => ?_) (fun c30 => ?_)
                  · refine g_iinc (v := i8 - 1) dX7_canHave_135 rfl (uk_m1 _) (by decide) ?_
                    refine g_pick (lv' := [(0, .ref (uk_ad G 60)), (1, .int m), (2, .int n), (3, .int (i8 - 1)), (4, .int x14), (5, .int x22)]) [0, 1, 2, 3, 4, 5] rfl ?_
                    refine g_goto (tgt := 34) dX7_canHave_138 (by decide) ?_
                    refine g_pick (lv' := [(0, .ref (uk_ad G 60)), (1, .int m), (2, .int n), (3, .int (i8 - 1))]) [0, 1, 2, 3] rfl ?_
                    exact ihi8 (by first | lia | grind)  u9 hu9 fu9 riu9 (by lia) (by lia) ji82
                  · refine g_aload_n dX7_canHave_103 rfl ?_
                    refine f_X7_38 rfl rfl dX7_canHave_104 ?_
                    refine g_aload_n dX7_canHave_107 rfl ?_
                    refine f_X7_20 rfl rfl dX7_canHave_108 ?_
                    refine g_iload_n dX7_canHave_111 rfl ?_
                    have v31 : vp_in i8 8 := uk_vin 8 rfl (by first | decide | lia | grind) (by first | decide | lia | grind)
                    refine g_iald rfl rfl v31 dX7_canHave_112 ?_
                    refine g_topi (fun x32 ex32 => ?_)
                    have bx32 := uk_cl v31
                    have rx32 : (-4) ≤ x32 ∧ x32 ≤ 7 := by rw [ex32]; exact iv_at hu9 _ _ (uk_pick1 _ (by omega))
                    have hqx32 := (riu9.1 i8 (by lia) (by rw [fk_at (c := 60) (i := 3) fu9 (by decide)]; first | lia | grind) (by lia)).resolve_left (by first | assumption | grind)
                    have hpx32 : 0 ≤ x32 ∧ x32 < i8 := by rw [ex32]; exact ⟨hqx32.1, hqx32.2.1⟩
                    refine g_dup2 dX7_canHave_113 rfl rfl ?_
                    have v33 : vp_in x32 8 := uk_vin 8 rfl (by first | decide | lia | grind) (by first | decide | lia | grind)
                    refine g_iald rfl rfl v33 dX7_canHave_114 ?_
                    refine g_topi (fun x34 ex34 => ?_)
                    refine g_iload dX7_canHave_115 rfl ?_
                    refine g_iadd dX7_canHave_117 ?_
                    refine g_topi (fun x35 ex35 => ?_)
                    have v36 : vp_in x32 8 := uk_vin 8 rfl (by first | decide | lia | grind) (by first | decide | lia | grind)
                    have b37 := uk_cl v36
                    refine g_iast rfl rfl v36 dX7_canHave_118 ?_
                    refine g_mem (fun u38 eu38 => ?_)
                    have hu38 : iv u38 := by rw [eu38]; exact iv_upF hu9 (uk_pick1 _ (by omega))
                    have fu38 : fk [70] [] u u38 := by rw [eu38]; exact fk_up fu9 (by decide) (fun q => absurd q (by decide))
                    have riu38 : ri u38 := by rw [eu38]; exact ri_1 riu9 (by decide) (fun q => absurd q (by decide))
                    have C39 : u38.1 61 = u9.1 61 := by rw [eu38]; exact (uk_up_oc (by decide)).trans C61_u9
                    refine g_aload_n dX7_canHave_119 rfl ?_
                    refine f_X7_38 rfl rfl dX7_canHave_120 ?_
                    refine g_aload_n dX7_canHave_123 rfl ?_
                    refine f_X7_23 rfl rfl dX7_canHave_124 ?_
                    refine g_iload_n dX7_canHave_127 rfl ?_
                    have v40 : vp_in i8 8 := uk_vin 8 rfl (by first | decide | lia | grind) (by first | decide | lia | grind)
                    refine g_iald rfl rfl v40 dX7_canHave_128 ?_
                    refine g_topi (fun x41 ex41 => ?_)
                    have bx41 := uk_cl v40
                    have rx41 : (-4) ≤ x41 ∧ x41 ≤ 7 := by rw [ex41]; exact iv_at hu38 _ _ (uk_pick1 _ (by omega))
                    have kx41 : ¬ u38.1 61 (32 + i8).toNatClampNeg = 4 := by rw [C39]; assumption
                    have hqx41 := (riu38.1 i8 (by lia) (by rw [fk_at (c := 60) (i := 3) fu38 (by decide)]; first | lia | grind) (by lia)).resolve_left kx41
                    have hpx41 : 0 ≤ x41 ∧ x41 < i8 := by rw [ex41]; exact ⟨hqx41.2.2.1, hqx41.2.2.2⟩
                    refine g_dup2 dX7_canHave_129 rfl rfl ?_
                    have v42 : vp_in x41 8 := uk_vin 8 rfl (by first | decide | lia | grind) (by first | decide | lia | grind)
                    refine g_iald rfl rfl v42 dX7_canHave_130 ?_
                    refine g_topi (fun x43 ex43 => ?_)
                    refine g_iload dX7_canHave_131 rfl ?_
                    refine g_iadd dX7_canHave_133 ?_
                    refine g_topi (fun x44 ex44 => ?_)
                    have v45 : vp_in x41 8 := uk_vin 8 rfl (by first | decide | lia | grind) (by first | decide | lia | grind)
                    have b46 := uk_cl v45
                    refine g_iast rfl rfl v45 dX7_canHave_134 ?_
                    refine g_mem (fun u47 eu47 => ?_)
                    have hu47 : iv u47 := by rw [eu47]; exact iv_upF hu38 (uk_pick1 _ (by omega))
                    have fu47 : fk [70] [] u u47 := by rw [eu47]; exact fk_up fu38 (by decide) (fun q => absurd q (by decide))
                    have riu47 : ri u47 := by rw [eu47]; exact ri_1 riu38 (by decide) (fun q => absurd q (by decide))
                    have C48 : u47.1 61 = u9.1 61 := by rw [eu47]; exact (uk_up_oc (by decide)).trans C39
                    refine g_iinc (v := i8 - 1) dX7_canHave_135 rfl (uk_m1 _) (by decide) ?_
                    refine g_pick (lv' := [(0, .ref (uk_ad G 60)), (1, .int m), (2, .int n), (3, .int (i8 - 1)), (4, .int x14), (5, .int x22)]) [0, 1, 2, 3, 4, 5] rfl ?_
                    refine g_goto (tgt := 34) dX7_canHave_138 (by decide) ?_
                    refine g_pick (lv' := [(0, .ref (uk_ad G 60)), (1, .int m), (2, .int n), (3, .int (i8 - 1))]) [0, 1, 2, 3] rfl ?_
                    exact ihi8 (by first | lia | grind)  u47 hu47 fu47 riu47 (by lia) (by lia) (az_ne hn0)
                · have zc29 := nx28 c29
                  refine g_iconst (v := 0) dX7_canHave_96 (by decide) ?_
                  exact g_iret (ty := .boolean) dX7_canHave_97 rfl rfl ⟨⟨0, rfl, Or.inl rfl, fun q => absurd rfl q, fun _ => by first | trivial | lia | grind⟩, hu9, fu9, riu9⟩
          · refine g_iconst (v := 0) dX7_canHave_43 (by decide) ?_
            refine g_goto (tgt := 55) dX7_canHave_44 (by decide) ?_
            refine g_istore dX7_canHave_55 (by decide) ?_
            refine g_pick (lv' := [(0, .ref (uk_ad G 60)), (1, .int m), (2, .int n), (3, .int i8), (4, .int 0)]) [0, 1, 2, 3, 4] rfl ?_
            refine g_aload_n dX7_canHave_57 rfl ?_
            refine f_X7_38 rfl rfl dX7_canHave_58 ?_
            refine g_iload_n dX7_canHave_61 rfl ?_
            have v49 : vp_in i8 8 := uk_vin 8 rfl (by first | decide | lia | grind) (by first | decide | lia | grind)
            refine g_iald rfl rfl v49 dX7_canHave_62 ?_
            refine g_topi (fun x50 ex50 => ?_)
            refine g_iload dX7_canHave_63 rfl ?_
            refine g_icmp_le (tgt := 80) dX7_canHave_65 (by decide) (fun c51 => ?_) (fun c51 => ?_)
            · refine g_iconst (v := 0) dX7_canHave_80 (by decide) ?_
              refine g_istore dX7_canHave_81 (by decide) ?_
              refine g_pick (lv' := [(0, .ref (uk_ad G 60)), (1, .int m), (2, .int n), (3, .int i8), (4, .int 0), (5, .int 0)]) [0, 1, 2, 3, 4, 5] rfl ?_
              refine g_iload dX7_canHave_83 rfl ?_
              refine g_if_le (tgt := 98) dX7_canHave_85 (by decide) (fun c52 => ?_) (fun c52 => ?_)
              · refine g_iload dX7_canHave_98 rfl ?_
                refine g_if_le (tgt := 135) dX7_canHave_100 (by decide) (fun c53 => ?_) (fun c53 => ?_)
                · refine g_iinc (v := i8 - 1) dX7_canHave_135 rfl (uk_m1 _) (by decide) ?_
                  refine g_pick (lv' := [(0, .ref (uk_ad G 60)), (1, .int m), (2, .int n), (3, .int (i8 - 1)), (4, .int 0), (5, .int 0)]) [0, 1, 2, 3, 4, 5] rfl ?_
                  refine g_goto (tgt := 34) dX7_canHave_138 (by decide) ?_
                  refine g_pick (lv' := [(0, .ref (uk_ad G 60)), (1, .int m), (2, .int n), (3, .int (i8 - 1))]) [0, 1, 2, 3] rfl ?_
                  exact ihi8 (by first | lia | grind)  u9 hu9 fu9 riu9 (by lia) (by lia) ji82
                · exact absurd c53 (by decide)
              · exact absurd c52 (by decide)
            · refine g_aload_n dX7_canHave_68 rfl ?_
              refine f_X7_38 rfl rfl dX7_canHave_69 ?_
              refine g_iload_n dX7_canHave_72 rfl ?_
              have v54 : vp_in i8 8 := uk_vin 8 rfl (by first | decide | lia | grind) (by first | decide | lia | grind)
              refine g_iald rfl rfl v54 dX7_canHave_73 ?_
              refine g_topi (fun x55 ex55 => ?_)
              refine g_iload dX7_canHave_74 rfl ?_
              refine g_isub dX7_canHave_76 ?_
              refine g_topi (fun x56 ex56 => ?_)
              refine g_goto (tgt := 81) dX7_canHave_77 (by decide) ?_
              refine g_istore dX7_canHave_81 (by decide) ?_
              refine g_pick (lv' := [(0, .ref (uk_ad G 60)), (1, .int m), (2, .int n), (3, .int i8), (4, .int 0), (5, .int x56)]) [0, 1, 2, 3, 4, 5] rfl ?_
              refine g_iload dX7_canHave_83 rfl ?_
              refine g_if_le (tgt := 98) dX7_canHave_85 (by decide) (fun c57 => ?_) (fun c57 => ?_)
              · refine g_iload dX7_canHave_98 rfl ?_
                refine g_if_le (tgt := 135) dX7_canHave_100 (by decide) (fun c58 => ?_) (fun c58 => ?_)
                · refine g_iinc (v := i8 - 1) dX7_canHave_135 rfl (uk_m1 _) (by decide) ?_
                  refine g_pick (lv' := [(0, .ref (uk_ad G 60)), (1, .int m), (2, .int n), (3, .int (i8 - 1)), (4, .int 0), (5, .int x56)]) [0, 1, 2, 3, 4, 5] rfl ?_
                  refine g_goto (tgt := 34) dX7_canHave_138 (by decide) ?_
                  refine g_pick (lv' := [(0, .ref (uk_ad G 60)), (1, .int m), (2, .int n), (3, .int (i8 - 1))]) [0, 1, 2, 3] rfl ?_
                  exact ihi8 (by first | lia | grind)  u9 hu9 fu9 riu9 (by lia) (by lia) ji82
                · exact absurd (show x56 ≤ 0 by assumption) (by assumption)
              · have hn0 : ¬ n = 0 := fun q => by have w0 := ji82 q i8 (by lia) (by lia); first | lia | grind
                refine g_aload_n dX7_canHave_88 rfl ?_
                refine g_iload_n dX7_canHave_89 rfl ?_
                refine cl_X7_166 (c := 60) (As := [.int i8]) rfl (c_X7_isRaw (G := G) hs hu9  i8 (by first | trivial | decide | lia | grind) (by first | trivial | decide | lia | grind) (d)) rfl (by omega) rfl rfl (Nat.le_of_ble_eq_true rfl) dX7_canHave_90 (fun r59 u60 q61 => ?_)
                obtain ⟨⟨x62, rfl, tx62, nx62, zx62⟩, mq61⟩ := q61
                rw [mq61]
                refine g_if_eq (tgt := 98) dX7_canHave_93 (by decide) (fun c63 => ?_) (fun c63 => ?_)
                · have zc63 := zx62 c63
                  refine g_iload dX7_canHave_98 rfl ?_
                  refine g_if_le (tgt := 135) dX7_canHave_100 (by decide) (fun c64 => ?_) (fun c64 => ?_)
                  · refine g_iinc (v := i8 - 1) dX7_canHave_135 rfl (uk_m1 _) (by decide) ?_
                    refine g_pick (lv' := [(0, .ref (uk_ad G 60)), (1, .int m), (2, .int n), (3, .int (i8 - 1)), (4, .int 0), (5, .int x56)]) [0, 1, 2, 3, 4, 5] rfl ?_
                    refine g_goto (tgt := 34) dX7_canHave_138 (by decide) ?_
                    refine g_pick (lv' := [(0, .ref (uk_ad G 60)), (1, .int m), (2, .int n), (3, .int (i8 - 1))]) [0, 1, 2, 3] rfl ?_
                    exact ihi8 (by first | lia | grind)  u9 hu9 fu9 riu9 (by lia) (by lia) ji82
                  · refine g_aload_n dX7_canHave_103 rfl ?_
                    refine f_X7_38 rfl rfl dX7_canHave_104 ?_
                    refine g_aload_n dX7_canHave_107 rfl ?_
                    refine f_X7_20 rfl rfl dX7_canHave_108 ?_
                    refine g_iload_n dX7_canHave_111 rfl ?_
                    have v65 : vp_in i8 8 := uk_vin 8 rfl (by first | decide | lia | grind) (by first | decide | lia | grind)
                    refine g_iald rfl rfl v65 dX7_canHave_112 ?_
                    refine g_topi (fun x66 ex66 => ?_)
                    have bx66 := uk_cl v65
                    have rx66 : (-4) ≤ x66 ∧ x66 ≤ 7 := by rw [ex66]; exact iv_at hu9 _ _ (uk_pick1 _ (by omega))
                    have hqx66 := (riu9.1 i8 (by lia) (by rw [fk_at (c := 60) (i := 3) fu9 (by decide)]; first | lia | grind) (by lia)).resolve_left (by first | assumption | grind)
                    have hpx66 : 0 ≤ x66 ∧ x66 < i8 := by rw [ex66]; exact ⟨hqx66.1, hqx66.2.1⟩
                    refine g_dup2 dX7_canHave_113 rfl rfl ?_
                    have v67 : vp_in x66 8 := uk_vin 8 rfl (by first | decide | lia | grind) (by first | decide | lia | grind)
                    refine g_iald rfl rfl v67 dX7_canHave_114 ?_
                    refine g_topi (fun x68 ex68 => ?_)
                    refine g_iload dX7_canHave_115 rfl ?_
                    refine g_iadd dX7_canHave_117 ?_
                    refine g_topi (fun x69 ex69 => ?_)
                    have v70 : vp_in x66 8 := uk_vin 8 rfl (by first | decide | lia | grind) (by first | decide | lia | grind)
                    have b71 := uk_cl v70
                    refine g_iast rfl rfl v70 dX7_canHave_118 ?_
                    refine g_mem (fun u72 eu72 => ?_)
                    have hu72 : iv u72 := by rw [eu72]; exact iv_upF hu9 (uk_pick1 _ (by omega))
                    have fu72 : fk [70] [] u u72 := by rw [eu72]; exact fk_up fu9 (by decide) (fun q => absurd q (by decide))
                    have riu72 : ri u72 := by rw [eu72]; exact ri_1 riu9 (by decide) (fun q => absurd q (by decide))
                    have C73 : u72.1 61 = u9.1 61 := by rw [eu72]; exact (uk_up_oc (by decide)).trans C61_u9
                    refine g_aload_n dX7_canHave_119 rfl ?_
                    refine f_X7_38 rfl rfl dX7_canHave_120 ?_
                    refine g_aload_n dX7_canHave_123 rfl ?_
                    refine f_X7_23 rfl rfl dX7_canHave_124 ?_
                    refine g_iload_n dX7_canHave_127 rfl ?_
                    have v74 : vp_in i8 8 := uk_vin 8 rfl (by first | decide | lia | grind) (by first | decide | lia | grind)
                    refine g_iald rfl rfl v74 dX7_canHave_128 ?_
                    refine g_topi (fun x75 ex75 => ?_)
                    have bx75 := uk_cl v74
                    have rx75 : (-4) ≤ x75 ∧ x75 ≤ 7 := by rw [ex75]; exact iv_at hu72 _ _ (uk_pick1 _ (by omega))
                    have kx75 : ¬ u72.1 61 (32 + i8).toNatClampNeg = 4 := by rw [C73]; assumption
                    have hqx75 := (riu72.1 i8 (by lia) (by rw [fk_at (c := 60) (i := 3) fu72 (by decide)]; first | lia | grind) (by lia)).resolve_left kx75
                    have hpx75 : 0 ≤ x75 ∧ x75 < i8 := by rw [ex75]; exact ⟨hqx75.2.2.1, hqx75.2.2.2⟩
                    refine g_dup2 dX7_canHave_129 rfl rfl ?_
                    have v76 : vp_in x75 8 := uk_vin 8 rfl (by first | decide | lia | grind) (by first | decide | lia | grind)
                    refine g_iald rfl rfl v76 dX7_canHave_130 ?_
                    refine g_topi (fun x77 ex77 => ?_)
                    refine g_iload dX7_canHave_131 rfl ?_
                    refine g_iadd dX7_canHave_133 ?_
                    refine g_topi (fun x78 ex78 => ?_)
                    have v79 : vp_in x75 8 := uk_vin 8 rfl (by first | decide | lia | grind) (by first | decide | lia | grind)
                    have b80 := uk_cl v79
                    refine g_iast rfl rfl v79 dX7_canHave_134 ?_
                    refine g_mem (fun u81 eu81 => ?_)
                    have hu81 : iv u81 := by rw [eu81]; exact iv_upF hu72 (uk_pick1 _ (by omega))
                    have fu81 : fk [70] [] u u81 := by rw [eu81]; exact fk_up fu72 (by decide) (fun q => absurd q (by decide))
                    have riu81 : ri u81 := by rw [eu81]; exact ri_1 riu72 (by decide) (fun q => absurd q (by decide))
                    have C82 : u81.1 61 = u9.1 61 := by rw [eu81]; exact (uk_up_oc (by decide)).trans C73
                    refine g_iinc (v := i8 - 1) dX7_canHave_135 rfl (uk_m1 _) (by decide) ?_
                    refine g_pick (lv' := [(0, .ref (uk_ad G 60)), (1, .int m), (2, .int n), (3, .int (i8 - 1)), (4, .int 0), (5, .int x56)]) [0, 1, 2, 3, 4, 5] rfl ?_
                    refine g_goto (tgt := 34) dX7_canHave_138 (by decide) ?_
                    refine g_pick (lv' := [(0, .ref (uk_ad G 60)), (1, .int m), (2, .int n), (3, .int (i8 - 1))]) [0, 1, 2, 3] rfl ?_
                    exact ihi8 (by first | lia | grind)  u81 hu81 fu81 riu81 (by lia) (by lia) (az_ne hn0)
                · have zc63 := nx62 c63
                  refine g_iconst (v := 0) dX7_canHave_96 (by decide) ?_
                  exact g_iret (ty := .boolean) dX7_canHave_97 rfl rfl ⟨⟨0, rfl, Or.inl rfl, fun q => absurd rfl q, fun _ => by first | trivial | lia | grind⟩, hu9, fu9, riu9⟩
      refine g_pick (lv' := [(0, .ref (uk_ad G 60)), (1, .int m), (2, .int n), (3, .int m)]) [0, 1, 2, 3] rfl ?_
      exact L34_6 m (by first | decide | lia | grind)  u3 hu3 fu3 riu3 (by lia) (by lia) (az_le ji20 (by first | lia | grind))
    · refine g_aload_n dX7_canHave_10 rfl ?_
      refine f_X7_38 rfl rfl dX7_canHave_11 ?_
      refine g_iload_n dX7_canHave_14 rfl ?_
      refine g_iload_n dX7_canHave_15 rfl ?_
      refine g_iload_n dX7_canHave_16 rfl ?_
      refine g_icmp_ne (tgt := 24) dX7_canHave_17 (by decide) (fun c83 => ?_) (fun c83 => ?_)
      · refine g_iconst (v := 0) dX7_canHave_24 (by decide) ?_
        have v84 : vp_in i2 8 := uk_vin 8 rfl (by first | decide | lia | grind) (by first | decide | lia | grind)
        have b85 := uk_cl v84
        refine g_iast rfl rfl v84 dX7_canHave_25 ?_
        refine g_mem (fun u86 eu86 => ?_)
        have hu86 : iv u86 := by rw [eu86]; exact iv_upF hu3 (uk_pick1 _ (by omega))
        have fu86 : fk [70] [] u u86 := by rw [eu86]; exact fk_up fu3 (by decide) (fun q => absurd q (by decide))
        have riu86 : ri u86 := by rw [eu86]; exact ri_1 riu3 (by decide) (fun q => absurd q (by decide))
        refine g_iinc (v := i2 + 1) dX7_canHave_26 rfl rfl (by decide) ?_
        refine g_pick (lv' := [(0, .ref (uk_ad G 60)), (1, .int m), (2, .int n), (3, .int (i2 + 1))]) [0, 1, 2, 3] rfl ?_
        refine g_goto (tgt := 2) dX7_canHave_29 (by decide) ?_
        refine g_pick (lv' := [(0, .ref (uk_ad G 60)), (1, .int m), (2, .int n), (3, .int (i2 + 1))]) [0, 1, 2, 3] rfl ?_
        exact ihi2 (by first | lia | grind)  u86 hu86 fu86 riu86 (by rw [eu86, uk_up_self]; exact az_up ji20 (by lia) (fun q => by first | rfl | exact q))
      · refine g_iload_n dX7_canHave_20 rfl ?_
        refine g_goto (tgt := 25) dX7_canHave_21 (by decide) ?_
        have v87 : vp_in i2 8 := uk_vin 8 rfl (by first | decide | lia | grind) (by first | decide | lia | grind)
        have b88 := uk_cl v87
        refine g_iast rfl rfl v87 dX7_canHave_25 ?_
        refine g_mem (fun u89 eu89 => ?_)
        have hu89 : iv u89 := by rw [eu89]; exact iv_upF hu3 (uk_pick1 _ (by omega))
        have fu89 : fk [70] [] u u89 := by rw [eu89]; exact fk_up fu3 (by decide) (fun q => absurd q (by decide))
        have riu89 : ri u89 := by rw [eu89]; exact ri_1 riu3 (by decide) (fun q => absurd q (by decide))
        refine g_iinc (v := i2 + 1) dX7_canHave_26 rfl rfl (by decide) ?_
        refine g_pick (lv' := [(0, .ref (uk_ad G 60)), (1, .int m), (2, .int n), (3, .int (i2 + 1))]) [0, 1, 2, 3] rfl ?_
        refine g_goto (tgt := 2) dX7_canHave_29 (by decide) ?_
        refine g_pick (lv' := [(0, .ref (uk_ad G 60)), (1, .int m), (2, .int n), (3, .int (i2 + 1))]) [0, 1, 2, 3] rfl ?_
        exact ihi2 (by first | lia | grind)  u89 hu89 fu89 riu89 (by rw [eu89, uk_up_self]; exact az_up ji20 (by lia) (fun q => by first | rfl | exact q))
  refine g_pick (lv' := [(0, .ref (uk_ad G 60)), (1, .int m), (2, .int n), (3, .int 0)]) [0, 1, 2, 3] rfl ?_
  exact L2_0 0 (by first | decide | lia | grind) (by first | decide | lia | grind)  u hu f0 hri az_0
abbrev q_X7_most (u : uk_Mem) (m : Int32) (r : Option Value) (u' : uk_Mem) : Prop := (∃ x : Int32, r = some (.int x) ∧ True) ∧ (iv u' ∧ fk [70] [] u u' ∧ ri u')
set_option maxHeartbeats 4000000 in
set_option maxRecDepth 20000 in
theorem c_X7_most {G : uk_D} (hs : uk_Sep G) {u : uk_Mem} (hu : iv u) (hri : ri u) (m : Int32) (d : Nat) : uk_Meth G (d + 2) mX7_most [.ref (uk_ad G 60), .int m] u (q_X7_most u m) := by
  refine uk_Meth.of hs (by decide) (Nat.le_of_ble_eq_true rfl) (fun X => ?_)
  have f0 : fk [70] [] u u := fk_rf
  refine g_aload_n dX7_most_0 rfl ?_
  refine g_iload_n dX7_most_1 rfl ?_
  refine cl_X7_163 (c := 60) (As := [.int m]) rfl (c_X7_isStuff (G := G) hs hu  m  (d)) rfl (by omega) rfl rfl (Nat.le_of_ble_eq_true rfl) dX7_most_2 (fun r1 u2 q3 => ?_)
  obtain ⟨⟨x4, rfl, tx4, nx4, zx4⟩, mq3⟩ := q3
  rw [mq3]
  refine g_if_ne (tgt := 10) dX7_most_5 (by decide) (fun c5 => ?_) (fun c5 => ?_)
  · have zc5 := nx4 c5
    refine g_aload_n dX7_most_10 rfl ?_
    refine g_iload_n dX7_most_11 rfl ?_
    refine cl_X7_166 (c := 60) (As := [.int m]) rfl (c_X7_isRaw (G := G) hs hu  m (by first | trivial | decide | lia | grind) (by first | trivial | decide | lia | grind) (d + 1)) rfl (by omega) rfl rfl (Nat.le_of_ble_eq_true rfl) dX7_most_12 (fun r6 u7 q8 => ?_)
    obtain ⟨⟨x9, rfl, tx9, nx9, zx9⟩, mq8⟩ := q8
    rw [mq8]
    refine g_if_eq (tgt := 21) dX7_most_15 (by decide) (fun c10 => ?_) (fun c10 => ?_)
    · have zc10 := zx9 c10
      refine g_bipush (v := 40) dX7_most_21 (by decide) ?_
      refine g_istore_n dX7_most_23 (by decide) ?_
      refine g_pick (lv' := [(0, .ref (uk_ad G 60)), (1, .int m), (2, .int 40)]) [0, 1, 2] rfl ?_
      have L24_10 : ∀ i12 : Int32, -1 ≤ i12 → ∀ (u13 : uk_Mem), iv u13 → fk [70] [] u u13 → ri u13 → 0 ≤ i12 → uk_G G X mX7_most (d + 2) (q_X7_most u m) 24 [(0, .ref (uk_ad G 60)), (1, .int m), (2, .int i12)] [] u13 := by
        refine uk_dnl ?_
        intro i12 ai12 ihi12  u13 hu13 fu13 riu13 ji120
        have wu13_60_3 : u13.1 60 3 = u.1 60 3 := fk_at fu13 (by decide)
        refine g_aload_n dX7_most_24 rfl ?_
        refine g_iload_n dX7_most_25 rfl ?_
        refine g_iload_n dX7_most_26 rfl ?_
        refine cl_X7_200 (c := 60) (As := [.int m, .int i12]) rfl (c_X7_canHave (G := G) hs hu13 riu13  m i12 (by first | trivial | decide | lia | grind) (by first | trivial | decide | lia | grind) (by first | trivial | decide | lia | grind) (d)) rfl (by omega) rfl rfl (Nat.le_of_ble_eq_true rfl) dX7_most_27 (fun r14 u15 q16 => ?_)
        obtain ⟨⟨x17, rfl, tx17, nx17, zx17⟩, mq16⟩ := q16
        obtain ⟨hu15, gu15, riu15⟩ := mq16
        have fu15 : fk [70] [] u u15 := fk_tr fu13 gu15 (by decide) (by decide)
        have wu15_60_3 : u15.1 60 3 = u13.1 60 3 := fk_at gu15 (by decide)
        refine g_if_ne (tgt := 39) dX7_most_30 (by decide) (fun c18 => ?_) (fun c18 => ?_)
        · have zc18 := nx17 c18
          refine g_iload_n dX7_most_39 rfl ?_
          exact g_iret (ty := .int) dX7_most_40 rfl rfl ⟨⟨_, rfl, by first | trivial | lia | grind⟩, hu15, fu15, riu15⟩
        · have zc18 := zx17 c18
          refine g_iinc (v := i12 - 1) dX7_most_33 rfl (uk_m1 _) (by decide) ?_
          refine g_pick (lv' := [(0, .ref (uk_ad G 60)), (1, .int m), (2, .int (i12 - 1))]) [0, 1, 2] rfl ?_
          refine g_goto (tgt := 24) dX7_most_36 (by decide) ?_
          refine g_pick (lv' := [(0, .ref (uk_ad G 60)), (1, .int m), (2, .int (i12 - 1))]) [0, 1, 2] rfl ?_
          exact ihi12 (by first | lia | grind)  u15 hu15 fu15 riu15 (by first | trivial | lia | grind)
      refine g_pick (lv' := [(0, .ref (uk_ad G 60)), (1, .int m), (2, .int 40)]) [0, 1, 2] rfl ?_
      exact L24_10 40 (by first | decide | lia | grind)  u hu f0 hri (by first | trivial | lia | grind)
    · have zc10 := nx9 c10
      refine g_bipush (v := (-2)) dX7_most_18 (by decide) ?_
      exact g_iret (ty := .int) dX7_most_20 rfl rfl ⟨⟨_, rfl, by first | trivial | lia | grind⟩, hu, f0, hri⟩
  · have zc5 := zx4 c5
    refine g_iconst (v := (-1)) dX7_most_8 (by decide) ?_
    exact g_iret (ty := .int) dX7_most_9 rfl rfl ⟨⟨_, rfl, by first | trivial | lia | grind⟩, hu, f0, hri⟩
abbrev q_X7_lays (u : uk_Mem) (m : Int32) (r : Option Value) (u' : uk_Mem) : Prop := (r = none) ∧ (iv u' ∧ fk [60, 62, 71] [3, 7, 10, 11, 13, 14, 15, 16, 17, 18, 19, 28] u u' ∧ ri u' ∧ ra u' ∧ rp u')
set_option maxHeartbeats 4000000 in
set_option maxRecDepth 20000 in
theorem c_X7_lays {G : uk_D} (hs : uk_Sep G) {u : uk_Mem} (hu : iv u) (hri : ri u) (m : Int32) (p0 : 0 ≤ m) (p1 : m < u.1 60 3) (p2 : m ≤ 7) (d : Nat) : uk_Meth G (d + 1) mX7_lays [.ref (uk_ad G 60), .int m] u (q_X7_lays u m) := by
  refine uk_Meth.of hs (by decide) (Nat.le_of_ble_eq_true rfl) (fun X => ?_)
  have f0 : fk [60, 62, 71] [3, 7, 10, 11, 13, 14, 15, 16, 17, 18, 19, 28] u u := fk_rf
  have C71 : u.1 71 = u.1 71 := rfl
  obtain ⟨t1, Tt1⟩ : ∃ t, u.1 60 22 = t := ⟨_, rfl⟩
  refine g_aload_n dX7_lays_0 rfl ?_
  refine cl_X7_185 (c := 60) (As := []) rfl (c_X7_starts (G := G) hs hu hri    (d)) rfl (by omega) rfl rfl (Nat.le_of_ble_eq_true rfl) dX7_lays_1 (fun r2 u3 q4 => ?_)
  obtain ⟨rfl, mq4⟩ := q4
  obtain ⟨hu3, gu3, rau3, ku30⟩ := mq4
  have fu3 : fk [60, 62, 71] [3, 7, 10, 11, 13, 14, 15, 16, 17, 18, 19, 28] u u3 := fk_tr f0 gu3 (by decide) (by decide)
  have riu3 : ri u3 := ri_fk hri gu3 (by decide) (by decide) (by decide) (by decide) (by decide)
  have T5 : u3.1 60 22 = t1 := (fk_at gu3 (by decide)).trans Tt1
  have C6 : u3.1 71 = u.1 71 := (fk_c gu3 (by decide)).trans C71
  have wu3_60_3 : u3.1 60 3 = u.1 60 3 := fk_at gu3 (by decide)
  refine g_iconst (v := 0) dX7_lays_4 (by decide) ?_
  refine g_istore_n dX7_lays_5 (by decide) ?_
  refine g_pick (lv' := [(0, .ref (uk_ad G 60)), (1, .int m), (2, .int 0)]) [0, 1, 2] rfl ?_
  have L6_6 : ∀ i8 : Int32, 0 ≤ i8 → i8 ≤ 8 → ∀ (u9 : uk_Mem), iv u9 → fk [60, 62, 71] [3, 7, 10, 11, 13, 14, 15, 16, 17, 18, 19, 28] u u9 → ri u9 → ra u9 → uk_G G X mX7_lays (d + 1) (q_X7_lays u m) 6 [(0, .ref (uk_ad G 60)), (1, .int m), (2, .int i8)] [] u9 := by
    refine uk_upl 8 ?_
    intro i8 ai8 bi8 ihi8  u9 hu9 fu9 riu9 rau9
    have C71_u9 : u9.1 71 = u9.1 71 := rfl
    obtain ⟨t10, Tt10⟩ : ∃ t, u9.1 60 22 = t := ⟨_, rfl⟩
    have Rt10 : 0 ≤ t10 ∧ t10 ≤ 255 := by rw [← Tt10]; exact iv_at hu9 _ _ rfl
    have wu9_60_3 : u9.1 60 3 = u.1 60 3 := fk_at fu9 (by decide)
    refine g_iload_n dX7_lays_6 rfl ?_
    refine g_aload_n dX7_lays_7 rfl ?_
    refine f_X7_79 rfl rfl dX7_lays_8 ?_
    refine g_topi (fun x11 ex11 => ?_)
    have rx11 : 0 ≤ x11 ∧ x11 ≤ 8 := by rw [ex11]; exact iv_at hu9 _ _ rfl
    have s12 : u9.1 60 3 = x11 := ex11.symm
    refine g_icmp_ge (tgt := 30) dX7_lays_11 (by decide) (fun c13 => ?_) (fun c13 => ?_)
    · refine g_aload_n dX7_lays_30 rfl ?_
      refine f_X7_41 rfl rfl dX7_lays_31 ?_
      refine g_iconst (v := 0) dX7_lays_34 (by decide) ?_
      refine g_iload_n dX7_lays_35 rfl ?_
      have v14 : vp_in 0 256 := uk_vin 256 rfl (by first | decide | lia | grind) (by first | decide | lia | grind)
      have b15 := uk_cl v14
      refine g_iast rfl rfl v14 dX7_lays_36 ?_
      refine g_mem (fun u16 eu16 => ?_)
      have hu16 : iv u16 := by rw [eu16]; exact iv_up hu9 (uk_pick1 _ (by omega)) (by first | lia | grind) (by first | lia | grind)
      have fu16 : fk [60, 62, 71] [3, 7, 10, 11, 13, 14, 15, 16, 17, 18, 19, 28] u u16 := by rw [eu16]; exact fk_up fu9 (by decide) (fun q => absurd q (by decide))
      have riu16 : ri u16 := by rw [eu16]; exact ri_1 riu9 (by decide) (fun q => absurd q (by decide))
      have rau16 : ra u16 := by rw [eu16]; exact ra_1 rau9 (by decide) (fun q => absurd q (by decide))
      have T17 : u16.1 60 22 = t10 := by rw [eu16]; exact (congrFun (uk_up_oc (by decide)) _).trans Tt10
      have C18 : u16.1 71 = (upd (u9.1 71) (0 : Int32).toNatClampNeg m) := by rw [eu16, uk_up_self, C71_u9]
      refine g_aload_n dX7_lays_37 rfl ?_
      refine g_iconst (v := 1) dX7_lays_38 (by decide) ?_
      refine p_X7_207 rfl rfl dX7_lays_39 ?_
      refine g_mem (fun u19 eu19 => ?_)
      have hu19 : iv u19 := by rw [eu19]; exact iv_up hu16 rfl (by first | lia | grind) (by first | lia | grind)
      have fu19 : fk [60, 62, 71] [3, 7, 10, 11, 13, 14, 15, 16, 17, 18, 19, 28] u u19 := by rw [eu19]; exact fk_up fu16 (by decide) (fun _ => by decide)
      have riu19 : ri u19 := by rw [eu19]; exact ri_1 riu16 (by decide) (fun _ => by decide)
      have rau19 : ra u19 := by rw [eu19]; exact ra_1 rau16 (by decide) (fun _ => by decide)
      have C20 : u19.1 71 = (upd (u9.1 71) (0 : Int32).toNatClampNeg m) := by rw [eu19]; exact (uk_up_oc (by decide)).trans C18
      have s21 : u19.1 60 22 = 1 := by rw [eu19, uk_up_at]; exact if_pos ⟨rfl, rfl⟩
      exact g_vret dX7_lays_42 rfl ⟨rfl, hu19, fu19, riu19, rau19, (rp_lay C20 (s21.trans rfl) (fk_at fu19 (by decide)) p0 p2 p1)⟩
    · refine g_aload_n dX7_lays_14 rfl ?_
      refine f_X7_13 rfl rfl dX7_lays_15 ?_
      refine g_bipush (v := 8) dX7_lays_18 (by decide) ?_
      refine g_iload_n dX7_lays_20 rfl ?_
      refine g_iadd dX7_lays_21 ?_
      refine g_topi (fun x22 ex22 => ?_)
      refine g_iconst (v := 0) dX7_lays_22 (by decide) ?_
      have v23 : vp_in x22 51 := uk_vin 51 rfl (by first | decide | lia | grind) (by first | decide | lia | grind)
      have b24 := uk_cl v23
      refine g_iast rfl rfl v23 dX7_lays_23 ?_
      refine g_mem (fun u25 eu25 => ?_)
      have hu25 : iv u25 := by rw [eu25]; exact iv_st hu9 (by unfold uk_is51; decide) (by first | decide | lia | grind) (by first | decide | lia | grind) (fun q => by first | decide | lia | grind) (fun q => by first | decide | lia | grind) (fun q => by first | decide | lia | grind)
      have fu25 : fk [60, 62, 71] [3, 7, 10, 11, 13, 14, 15, 16, 17, 18, 19, 28] u u25 := by rw [eu25]; exact fk_up fu9 (by decide) (fun q => absurd q (by decide))
      have riu25 : ri u25 := by rw [eu25]; exact ri_1 riu9 (by decide) (fun q => absurd q (by decide))
      have rau25 : ra u25 := by rw [eu25]; exact ra_at rau9 (by first | decide | lia | grind) (by first | decide | lia | grind)
      have T26 : u25.1 60 22 = t10 := by rw [eu25]; exact (congrFun (uk_up_oc (by decide)) _).trans Tt10
      have C27 : u25.1 71 = u9.1 71 := by rw [eu25]; exact (uk_up_oc (by decide)).trans C71_u9
      refine g_iinc (v := i8 + 1) dX7_lays_24 rfl rfl (by decide) ?_
      refine g_pick (lv' := [(0, .ref (uk_ad G 60)), (1, .int m), (2, .int (i8 + 1))]) [0, 1, 2] rfl ?_
      refine g_goto (tgt := 6) dX7_lays_27 (by decide) ?_
      refine g_pick (lv' := [(0, .ref (uk_ad G 60)), (1, .int m), (2, .int (i8 + 1))]) [0, 1, 2] rfl ?_
      exact ihi8 (by first | lia | grind)  u25 hu25 fu25 riu25 rau25 
  refine g_pick (lv' := [(0, .ref (uk_ad G 60)), (1, .int m), (2, .int 0)]) [0, 1, 2] rfl ?_
  exact L6_6 0 (by first | decide | lia | grind) (by first | decide | lia | grind)  u3 hu3 fu3 riu3 rau3 
abbrev q_X7_nextThing (u : uk_Mem)  (r : Option Value) (u' : uk_Mem) : Prop := (∃ x : Int32, r = some (.int x) ∧ (x = -4 ∨ (0 ≤ x ∧ x < u.1 60 22 ∧ ¬ u.1 62 (32 + u.1 71 x.toNatClampNeg).toNatClampNeg = 4))) ∧ (u' = u)
set_option maxHeartbeats 4000000 in
set_option maxRecDepth 20000 in
theorem c_X7_nextThing {G : uk_D} (hs : uk_Sep G) {u : uk_Mem} (hu : iv u)  (d : Nat) : uk_Meth G d mX7_nextThing [.ref (uk_ad G 60)] u (q_X7_nextThing u) := by
  refine uk_Meth.of hs (by decide) (Nat.le_of_ble_eq_true rfl) (fun X => ?_)
  refine g_iconst (v := 0) dX7_nextThing_0 (by decide) ?_
  refine g_istore_n dX7_nextThing_1 (by decide) ?_
  refine g_pick (lv' := [(0, .ref (uk_ad G 60)), (1, .int 0)]) [0, 1] rfl ?_
  have L2_0 : ∀ i2 : Int32, 0 ≤ i2 → i2 ≤ 255 → uk_G G X mX7_nextThing d (q_X7_nextThing u) 2 [(0, .ref (uk_ad G 60)), (1, .int i2)] [] u := by
    refine uk_upl 255 ?_
    intro i2 ai2 bi2 ihi2 
    refine g_iload_n dX7_nextThing_2 rfl ?_
    refine g_aload_n dX7_nextThing_3 rfl ?_
    refine f_X7_207 rfl rfl dX7_nextThing_4 ?_
    refine g_topi (fun x3 ex3 => ?_)
    have rx3 : 0 ≤ x3 ∧ x3 ≤ 255 := by rw [ex3]; exact iv_at hu _ _ rfl
    have s4 : u.1 60 22 = x3 := ex3.symm
    refine g_icmp_ge (tgt := 43) dX7_nextThing_7 (by decide) (fun c5 => ?_) (fun c5 => ?_)
    · refine g_bipush (v := (-4)) dX7_nextThing_43 (by decide) ?_
      exact g_iret (ty := .int) dX7_nextThing_45 rfl rfl ⟨⟨_, rfl, by first | trivial | lia | grind⟩, rfl⟩
    · refine g_aload_n dX7_nextThing_10 rfl ?_
      refine f_X7_13 rfl rfl dX7_nextThing_11 ?_
      refine g_bipush (v := 32) dX7_nextThing_14 (by decide) ?_
      refine g_aload_n dX7_nextThing_16 rfl ?_
      refine f_X7_41 rfl rfl dX7_nextThing_17 ?_
      refine g_iload_n dX7_nextThing_20 rfl ?_
      have v6 : vp_in i2 256 := uk_vin 256 rfl (by first | decide | lia | grind) (by first | decide | lia | grind)
      refine g_iald rfl rfl v6 dX7_nextThing_21 ?_
      refine g_topi (fun x7 ex7 => ?_)
      have bx7 := uk_cl v6
      have rx7 : 0 ≤ x7 ∧ x7 ≤ 7 := by rw [ex7]; exact iv_at hu _ _ (uk_pick1 _ (by omega))
      refine g_iadd dX7_nextThing_22 ?_
      refine g_topi (fun x8 ex8 => ?_)
      have v9 : vp_in x8 51 := uk_vin 51 rfl (by first | decide | lia | grind) (by first | decide | lia | grind)
      refine g_iald rfl rfl v9 dX7_nextThing_23 ?_
      refine g_topi (fun x10 ex10 => ?_)
      have bx10 := uk_cl v9
      refine g_istore_n dX7_nextThing_24 (by decide) ?_
      refine g_pick (lv' := [(0, .ref (uk_ad G 60)), (1, .int i2), (2, .int x10)]) [0, 1, 2] rfl ?_
      refine g_iload_n dX7_nextThing_25 rfl ?_
      refine g_iconst (v := 4) dX7_nextThing_26 (by decide) ?_
      refine g_icmp_eq (tgt := 37) dX7_nextThing_27 (by decide) (fun c11 => ?_) (fun c11 => ?_)
      · refine g_iinc (v := i2 + 1) dX7_nextThing_37 rfl rfl (by decide) ?_
        refine g_pick (lv' := [(0, .ref (uk_ad G 60)), (1, .int (i2 + 1)), (2, .int x10)]) [0, 1, 2] rfl ?_
        refine g_goto (tgt := 2) dX7_nextThing_40 (by decide) ?_
        refine g_pick (lv' := [(0, .ref (uk_ad G 60)), (1, .int (i2 + 1))]) [0, 1] rfl ?_
        exact ihi2 (by first | lia | grind)  
      · refine g_iload_n dX7_nextThing_30 rfl ?_
        refine g_iconst (v := 2) dX7_nextThing_31 (by decide) ?_
        refine g_icmp_eq (tgt := 37) dX7_nextThing_32 (by decide) (fun c12 => ?_) (fun c12 => ?_)
        · refine g_iinc (v := i2 + 1) dX7_nextThing_37 rfl rfl (by decide) ?_
          refine g_pick (lv' := [(0, .ref (uk_ad G 60)), (1, .int (i2 + 1)), (2, .int x10)]) [0, 1, 2] rfl ?_
          refine g_goto (tgt := 2) dX7_nextThing_40 (by decide) ?_
          refine g_pick (lv' := [(0, .ref (uk_ad G 60)), (1, .int (i2 + 1))]) [0, 1] rfl ?_
          exact ihi2 (by first | lia | grind)  
        · refine g_iload_n dX7_nextThing_35 rfl ?_
          exact g_iret (ty := .int) dX7_nextThing_36 rfl rfl ⟨⟨_, rfl, by first | trivial | lia | grind⟩, rfl⟩
  refine g_pick (lv' := [(0, .ref (uk_ad G 60)), (1, .int 0)]) [0, 1] rfl ?_
  exact L2_0 0 (by first | decide | lia | grind) (by first | decide | lia | grind)  
