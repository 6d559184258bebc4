abbrev q_X7_doingIn (u : uk_Mem) (c : Int32) (n : Int32) (i : Int32) (r : Option Value) (u' : uk_Mem) : Prop := (∃ x : Int32, r = some (.int x) ∧ True) ∧ (u' = u)
set_option maxHeartbeats 4000000 in
set_option maxRecDepth 20000 in
theorem c_X7_doingIn {G : uk_D} (hs : uk_Sep G) {u : uk_Mem} (hu : iv u) (c : Int32) (n : Int32) (i : Int32) (p0 : 0 ≤ i) (p1 : i < n) (p2 : n ≤ 4) (d : Nat) : uk_Meth G (d + 1) mX7_doingIn [.ref (uk_ad G 60), .int c, .int n, .int i] u (q_X7_doingIn u c n i) := by
  refine uk_Meth.of hs (by decide) (Nat.le_of_ble_eq_true rfl) (fun X => ?_)
  refine g_iload_n dX7_doingIn_0 rfl ?_
  refine g_aload_n dX7_doingIn_1 rfl ?_
  refine g_iload_n dX7_doingIn_2 rfl ?_
  refine g_iconst (v := 1) dX7_doingIn_3 (by decide) ?_
  refine g_isub dX7_doingIn_4 ?_
  refine g_topi (fun x1 ex1 => ?_)
  refine g_iload_n dX7_doingIn_5 rfl ?_
  refine g_isub dX7_doingIn_6 ?_
  refine g_topi (fun x2 ex2 => ?_)
  refine cl_X7_241 (c := 60) (As := [.int x2]) rfl (c_X7_baseTo (G := G) hs hu  x2 (by first | trivial | decide | lia | grind) (d)) rfl (by omega) rfl rfl (Nat.le_of_ble_eq_true rfl) dX7_doingIn_7 (fun r3 u4 q5 => ?_)
  obtain ⟨⟨x6, rfl, tx6⟩, mq5⟩ := q5
  rw [mq5]
  refine g_idiv dX7_doingIn_10 (by first | decide | lia | grind) ?_
  refine g_topi (fun x7 ex7 => ?_)
  refine g_bipush (v := 16) dX7_doingIn_11 (by decide) ?_
  refine g_irem dX7_doingIn_13 (by first | decide | lia | grind) ?_
  refine g_topi (fun x8 ex8 => ?_)
  refine g_istore dX7_doingIn_14 (by decide) ?_
  refine g_iload dX7_doingIn_16 rfl ?_
  refine g_bipush (v := 8) dX7_doingIn_18 (by decide) ?_
  refine g_icmp_ge (tgt := 28) dX7_doingIn_20 (by decide) (fun c9 => ?_) (fun c9 => ?_)
  · refine g_bipush (v := 10) dX7_doingIn_28 (by decide) ?_
    refine g_iload dX7_doingIn_30 rfl ?_
    refine g_iadd dX7_doingIn_32 ?_
    refine g_topi (fun x10 ex10 => ?_)
    refine g_bipush (v := 8) dX7_doingIn_33 (by decide) ?_
    refine g_isub dX7_doingIn_35 ?_
    refine g_topi (fun x11 ex11 => ?_)
    exact g_iret (ty := .int) dX7_doingIn_36 rfl rfl ⟨⟨_, rfl, by first | trivial | lia | grind⟩, rfl⟩
  · refine g_iload dX7_doingIn_23 rfl ?_
    refine g_goto (tgt := 36) dX7_doingIn_25 (by decide) ?_
    exact g_iret (ty := .int) dX7_doingIn_36 rfl rfl ⟨⟨_, rfl, by first | trivial | lia | grind⟩, rfl⟩
abbrev q_X7_doRow (u : uk_Mem) (c : Int32) (n : Int32) (r : Option Value) (u' : uk_Mem) : Prop := (∃ x : Int32, r = some (.int x) ∧ (x = 0 ∨ x = 1) ∧ (¬ x = 0 → True) ∧ (x = 0 → True)) ∧ (iv u' ∧ fk [62] [] u u' ∧ ri u')
set_option maxHeartbeats 4000000 in
set_option maxRecDepth 20000 in
theorem c_X7_doRow {G : uk_D} (hs : uk_Sep G) {u : uk_Mem} (hu : iv u) (hri : ri u) (c : Int32) (n : Int32) (p0 : n ≤ 4) (d : Nat) : uk_Meth G (d + 3) mX7_doRow [.ref (uk_ad G 60), .int c, .int n] u (q_X7_doRow u c n) := by
  refine uk_Meth.of hs (by decide) (Nat.le_of_ble_eq_true rfl) (fun X => ?_)
  have f0 : fk [62] [] u u := fk_rf
  refine g_aload_n dX7_doRow_0 rfl ?_
  refine cl_X7_185 (c := 60) (As := []) rfl (c_X7_starts (G := G) hs hu hri    (d + 2)) rfl (by omega) rfl rfl (Nat.le_of_ble_eq_true rfl) dX7_doRow_1 (fun r1 u2 q3 => ?_)
  obtain ⟨rfl, mq3⟩ := q3
  obtain ⟨hu2, gu2, rau2, ku20⟩ := mq3
  have fu2 : fk [62] [] u u2 := fk_tr f0 gu2 (by decide) (by decide)
  have riu2 : ri u2 := ri_fk hri gu2 (by decide) (by decide) (by decide) (by decide) (by decide)
  have wu2_60_3 : u2.1 60 3 = u.1 60 3 := fk_at gu2 (by decide)
  refine g_iconst (v := 0) dX7_doRow_4 (by decide) ?_
  refine g_istore_n dX7_doRow_5 (by decide) ?_
  have L6_3 : ∀ i5 : Int32, 0 ≤ i5 → i5 ≤ 4 → ∀ (u6 : uk_Mem), iv u6 → fk [62] [] u u6 → ri u6 → ra u6 → uk_G G X mX7_doRow (d + 3) (q_X7_doRow u c n) 6 [(0, .ref (uk_ad G 60)), (1, .int c), (2, .int n), (3, .int i5)] [] u6 := by
    refine uk_upl 4 ?_
    intro i5 ai5 bi5 ihi5  u6 hu6 fu6 riu6 rau6
    have wu6_60_3 : u6.1 60 3 = u.1 60 3 := fk_at fu6 (by decide)
    refine g_iload_n dX7_doRow_6 rfl ?_
    refine g_iload_n dX7_doRow_7 rfl ?_
    refine g_icmp_ge (tgt := 52) dX7_doRow_8 (by decide) (fun c7 => ?_) (fun c7 => ?_)
    · refine g_iconst (v := 1) dX7_doRow_52 (by decide) ?_
      exact g_iret (ty := .boolean) dX7_doRow_53 rfl rfl ⟨⟨1, rfl, Or.inr rfl, fun _ => by first | trivial | lia | grind, fun q => absurd q (by decide)⟩, hu6, fu6, riu6⟩
    · refine g_aload_n dX7_doRow_11 rfl ?_
      refine g_iload_n dX7_doRow_12 rfl ?_
      refine g_iload_n dX7_doRow_13 rfl ?_
      refine g_iload_n dX7_doRow_14 rfl ?_
      refine cl_X7_244 (c := 60) (As := [.int c, .int n, .int i5]) rfl (c_X7_doingIn (G := G) hs hu6  c n i5 (by first | trivial | decide | lia | grind) (by first | trivial | decide | lia | grind) (by first | trivial | decide | lia | grind) (d + 1)) rfl (by omega) rfl rfl (Nat.le_of_ble_eq_true rfl) dX7_doRow_15 (fun r8 u9 q10 => ?_)
      obtain ⟨⟨x11, rfl, tx11⟩, mq10⟩ := q10
      rw [mq10]
      refine g_istore dX7_doRow_18 (by decide) ?_
      refine g_aload_n dX7_doRow_20 rfl ?_
      refine g_iload dX7_doRow_21 rfl ?_
      refine cl_X7_182 (c := 60) (As := [.int x11]) rfl (c_X7_isDoing (G := G) hs hu6  x11  (d)) rfl (by omega) rfl rfl (Nat.le_of_ble_eq_true rfl) dX7_doRow_23 (fun r12 u13 q14 => ?_)
      obtain ⟨⟨x15, rfl, tx15, nx15, zx15⟩, mq14⟩ := q14
      rw [mq14]
      refine g_if_eq (tgt := 38) dX7_doRow_26 (by decide) (fun c16 => ?_) (fun c16 => ?_)
      · have zc16 := zx15 c16
        refine g_iconst (v := 0) dX7_doRow_38 (by decide) ?_
        exact g_iret (ty := .boolean) dX7_doRow_39 rfl rfl ⟨⟨0, rfl, Or.inl rfl, fun q => absurd rfl q, fun _ => by first | trivial | lia | grind⟩, hu6, fu6, riu6⟩
      · have zc16 := nx15 c16
        refine g_aload_n dX7_doRow_29 rfl ?_
        refine g_iload dX7_doRow_30 rfl ?_
        refine cl_X7_188 (c := 60) (As := [.int x11]) rfl (c_X7_canDo (G := G) hs hu6 rau6  x11 (by first | trivial | decide | lia | grind) (d)) rfl (by omega) rfl rfl (Nat.le_of_ble_eq_true rfl) dX7_doRow_32 (fun r17 u18 q19 => ?_)
        obtain ⟨⟨x20, rfl, tx20, nx20, zx20⟩, mq19⟩ := q19
        rw [mq19]
        refine g_if_ne (tgt := 40) dX7_doRow_35 (by decide) (fun c21 => ?_) (fun c21 => ?_)
        · have zc21 := nx20 c21
          refine g_aload_n dX7_doRow_40 rfl ?_
          refine g_iload dX7_doRow_41 rfl ?_
          refine cl_X7_191 (c := 60) (As := [.int x11]) rfl (c_X7_doIt (G := G) hs hu6 rau6  x11 (by first | trivial | decide | lia | grind) (by first | trivial | decide | lia | grind) (by first | trivial | decide | lia | grind) (d + 1)) rfl (by omega) rfl rfl (Nat.le_of_ble_eq_true rfl) dX7_doRow_43 (fun r22 u23 q24 => ?_)
          obtain ⟨rfl, mq24⟩ := q24
          obtain ⟨hu23, gu23, rau23⟩ := mq24
          have fu23 : fk [62] [] u u23 := fk_tr fu6 gu23 (by decide) (by decide)
          have riu23 : ri u23 := ri_fk riu6 gu23 (by decide) (by decide) (by decide) (by decide) (by decide)
          have wu23_60_3 : u23.1 60 3 = u6.1 60 3 := fk_at gu23 (by decide)
          refine g_iinc (v := i5 + 1) dX7_doRow_46 rfl rfl (by decide) ?_
          refine g_goto (tgt := 6) dX7_doRow_49 (by decide) ?_
          refine g_pick (lv' := [(0, .ref (uk_ad G 60)), (1, .int c), (2, .int n), (3, .int (i5 + 1))]) [0, 1, 2, 3] rfl ?_
          exact ihi5 (by first | lia | grind)  u23 hu23 fu23 riu23 rau23 
        · have zc21 := zx20 c21
          refine g_iconst (v := 0) dX7_doRow_38 (by decide) ?_
          exact g_iret (ty := .boolean) dX7_doRow_39 rfl rfl ⟨⟨0, rfl, Or.inl rfl, fun q => absurd rfl q, fun _ => by first | trivial | lia | grind⟩, hu6, fu6, riu6⟩
  refine g_pick (lv' := [(0, .ref (uk_ad G 60)), (1, .int c), (2, .int n), (3, .int 0)]) [0, 1, 2, 3] rfl ?_
  exact L6_3 0 (by first | decide | lia | grind) (by first | decide | lia | grind)  u2 hu2 fu2 riu2 rau2 
abbrev q_X7_best (u : uk_Mem) (k : Int32) (w : Int32) (r : Option Value) (u' : uk_Mem) : Prop := (∃ x : Int32, r = some (.int x) ∧ True) ∧ (iv u' ∧ fk [62] [] u u' ∧ ri u')
set_option maxHeartbeats 4000000 in
set_option maxRecDepth 20000 in
theorem c_X7_best {G : uk_D} (hs : uk_Sep G) {u : uk_Mem} (hu : iv u) (hri : ri u) (k : Int32) (w : Int32) (d : Nat) : uk_Meth G (d + 4) mX7_best [.ref (uk_ad G 60), .int k, .int w] u (q_X7_best u k w) := by
  refine uk_Meth.of hs (by decide) (Nat.le_of_ble_eq_true rfl) (fun X => ?_)
  have f0 : fk [62] [] u u := fk_rf
  refine g_iload_n dX7_best_0 rfl ?_
  refine g_i2l dX7_best_1 ?_
  refine g_lconst (v := 0) dX7_best_2 (by decide) ?_
  refine g_ldc2 (v := 4) k_X7_250 dX7_best_3 ?_
  refine cl_X7_84 (As := [.long k.toInt64, .long 0, .long 4]) rfl (c_X7_in (G := G) hs hu  k 0 4  (d + 3)) rfl (by omega) rfl (Nat.le_of_ble_eq_true rfl) dX7_best_6 (fun r1 u2 q3 => ?_)
  obtain ⟨⟨x4, rfl, tx4, nx4, zx4⟩, mq3⟩ := q3
  rw [mq3]
  refine g_if_eq (tgt := 24) dX7_best_9 (by decide) (fun c5 => ?_) (fun c5 => ?_)
  · have zc5 := zx4 c5
    refine g_iconst (v := (-1)) dX7_best_24 (by decide) ?_
    exact g_iret (ty := .int) dX7_best_25 rfl rfl ⟨⟨_, rfl, by first | trivial | lia | grind⟩, hu, f0, hri⟩
  · have zc5 := nx4 c5
    refine g_iload_n dX7_best_12 rfl ?_
    refine g_iconst (v := 1) dX7_best_13 (by decide) ?_
    refine g_icmp_eq (tgt := 26) dX7_best_14 (by decide) (fun c6 => ?_) (fun c6 => ?_)
    · refine g_iconst (v := (-1)) dX7_best_26 (by decide) ?_
      refine g_istore_n dX7_best_27 (by decide) ?_
      refine g_iconst (v := 0) dX7_best_28 (by decide) ?_
      refine g_istore dX7_best_29 (by decide) ?_
      refine g_iconst (v := 0) dX7_best_31 (by decide) ?_
      refine g_istore dX7_best_32 (by decide) ?_
      refine g_iconst (v := 0) dX7_best_34 (by decide) ?_
      refine g_istore dX7_best_35 (by decide) ?_
      have L37_6 : ∀ i11 : Int32, 0 ≤ i11 → i11 ≤ 5 → ∀ (w8 : Int32) (w9 : Int32) (w10 : Int32) (u12 : uk_Mem), iv u12 → fk [62] [] u u12 → ri u12 → 0 ≤ w10 → w10 ≤ 4 → uk_G G X mX7_best (d + 4) (q_X7_best u k w) 37 [(0, .ref (uk_ad G 60)), (1, .int k), (2, .int w), (3, .int w8), (4, .int w9), (5, .int w10), (6, .int i11)] [] u12 := by
        refine uk_upl 5 ?_
        intro i11 ai11 bi11 ihi11 w8 w9 w10 u12 hu12 fu12 riu12 ji110 ji111
        have wu12_60_3 : u12.1 60 3 = u.1 60 3 := fk_at fu12 (by decide)
        refine g_iload dX7_best_37 rfl ?_
        refine g_iload_n dX7_best_39 rfl ?_
        refine g_icmp_gt (tgt := 135) dX7_best_40 (by decide) (fun c13 => ?_) (fun c13 => ?_)
        · refine g_iload_n dX7_best_135 rfl ?_
          refine g_iconst (v := 2) dX7_best_136 (by decide) ?_
          refine g_icmp_ge (tgt := 151) dX7_best_137 (by decide) (fun c14 => ?_) (fun c14 => ?_)
          · refine g_iload_n dX7_best_151 rfl ?_
            refine g_bipush (v := 10) dX7_best_152 (by decide) ?_
            refine g_isub dX7_best_154 ?_
            refine g_topi (fun x15 ex15 => ?_)
            refine g_iload dX7_best_155 rfl ?_
            refine g_icmp_ge (tgt := 175) dX7_best_157 (by decide) (fun c16 => ?_) (fun c16 => ?_)
            · refine g_bipush (v := (-4)) dX7_best_175 (by decide) ?_
              exact g_iret (ty := .int) dX7_best_177 rfl rfl ⟨⟨_, rfl, by first | trivial | lia | grind⟩, hu12, fu12, riu12⟩
            · refine g_aload_n dX7_best_160 rfl ?_
              refine g_iload dX7_best_161 rfl ?_
              refine g_iload dX7_best_163 rfl ?_
              refine g_iload_n dX7_best_165 rfl ?_
              refine g_bipush (v := 10) dX7_best_166 (by decide) ?_
              refine g_isub dX7_best_168 ?_
              refine g_topi (fun x17 ex17 => ?_)
              refine cl_X7_244 (c := 60) (As := [.int w9, .int w10, .int x17]) rfl (c_X7_doingIn (G := G) hs hu12  w9 w10 x17 (by first | trivial | decide | lia | grind) (by first | trivial | decide | lia | grind) (by first | trivial | decide | lia | grind) (d + 2)) rfl (by omega) rfl rfl (Nat.le_of_ble_eq_true rfl) dX7_best_169 (fun r18 u19 q20 => ?_)
              obtain ⟨⟨x21, rfl, tx21⟩, mq20⟩ := q20
              rw [mq20]
              refine g_goto (tgt := 177) dX7_best_172 (by decide) ?_
              exact g_iret (ty := .int) dX7_best_177 rfl rfl ⟨⟨_, rfl, by first | trivial | lia | grind⟩, hu12, fu12, riu12⟩
          · refine g_iload_n dX7_best_140 rfl ?_
            refine g_if_ne (tgt := 148) dX7_best_141 (by decide) (fun c22 => ?_) (fun c22 => ?_)
            · refine g_iload dX7_best_148 rfl ?_
              exact g_iret (ty := .int) dX7_best_150 rfl rfl ⟨⟨_, rfl, by first | trivial | lia | grind⟩, hu12, fu12, riu12⟩
            · refine g_iload_n dX7_best_144 rfl ?_
              refine g_goto (tgt := 150) dX7_best_145 (by decide) ?_
              exact g_iret (ty := .int) dX7_best_150 rfl rfl ⟨⟨_, rfl, by first | trivial | lia | grind⟩, hu12, fu12, riu12⟩
        · refine g_iconst (v := 0) dX7_best_43 (by decide) ?_
          refine g_istore dX7_best_44 (by decide) ?_
          have L46_22 : ∀ i27 : Int32, 0 ≤ i27 → i27 ≤ 65536 → ∀ (w24 : Int32) (w25 : Int32) (w26 : Int32) (u28 : uk_Mem), iv u28 → fk [62] [] u u28 → ri u28 → 0 ≤ w26 → w26 ≤ 4 → uk_G G X mX7_best (d + 4) (q_X7_best u k w) 46 [(0, .ref (uk_ad G 60)), (1, .int k), (2, .int w), (3, .int w24), (4, .int w25), (5, .int w26), (6, .int i11), (7, .int i27)] [] u28 := by
            refine uk_upl 65536 ?_
            intro i27 ai27 bi27 ihi27 w24 w25 w26 u28 hu28 fu28 riu28 ji270 ji271
            have wu28_60_3 : u28.1 60 3 = u.1 60 3 := fk_at fu28 (by decide)
            refine g_iload dX7_best_46 rfl ?_
            refine g_aload_n dX7_best_48 rfl ?_
            refine g_iload dX7_best_49 rfl ?_
            refine cl_X7_241 (c := 60) (As := [.int i11]) rfl (c_X7_baseTo (G := G) hs hu28  i11 (by first | trivial | decide | lia | grind) (d + 3)) rfl (by omega) rfl rfl (Nat.le_of_ble_eq_true rfl) dX7_best_51 (fun r29 u30 q31 => ?_)
            obtain ⟨⟨x32, rfl, tx32⟩, mq31⟩ := q31
            rw [mq31]
            refine g_icmp_ge (tgt := 129) dX7_best_54 (by decide) (fun c33 => ?_) (fun c33 => ?_)
            · refine g_iinc (v := i11 + 1) dX7_best_129 rfl rfl (by decide) ?_
              refine g_goto (tgt := 37) dX7_best_132 (by decide) ?_
              refine g_pick (lv' := [(0, .ref (uk_ad G 60)), (1, .int k), (2, .int w), (3, .int w24), (4, .int w25), (5, .int w26), (6, .int (i11 + 1))]) [0, 1, 2, 3, 4, 5, 6] rfl ?_
              exact ihi11 (by first | lia | grind) w24 w25 w26 u28 hu28 fu28 riu28 (by first | trivial | lia | grind) (by first | trivial | lia | grind)
            · refine g_aload_n dX7_best_57 rfl ?_
              refine g_iload dX7_best_58 rfl ?_
              refine g_iload dX7_best_60 rfl ?_
              refine cl_X7_255 (c := 60) (As := [.int i27, .int i11]) rfl (c_X7_doRow (G := G) hs hu28 riu28  i27 i11 (by first | trivial | decide | lia | grind) (d)) rfl (by omega) rfl rfl (Nat.le_of_ble_eq_true rfl) dX7_best_62 (fun r34 u35 q36 => ?_)
              obtain ⟨⟨x37, rfl, tx37, nx37, zx37⟩, mq36⟩ := q36
              obtain ⟨hu35, gu35, riu35⟩ := mq36
              have fu35 : fk [62] [] u u35 := fk_tr fu28 gu35 (by decide) (by decide)
              have wu35_60_3 : u35.1 60 3 = u28.1 60 3 := fk_at gu35 (by decide)
              refine g_if_eq (tgt := 77) dX7_best_65 (by decide) (fun c38 => ?_) (fun c38 => ?_)
              · have zc38 := zx37 c38
                refine g_iconst (v := (-1)) dX7_best_77 (by decide) ?_
                refine g_istore dX7_best_78 (by decide) ?_
                refine g_iload dX7_best_80 rfl ?_
                refine g_iload_n dX7_best_82 rfl ?_
                refine g_icmp_le (tgt := 91) dX7_best_83 (by decide) (fun c39 => ?_) (fun c39 => ?_)
                · refine g_iload dX7_best_91 rfl ?_
                  refine g_istore dX7_best_93 (by decide) ?_
                  refine g_iload dX7_best_95 rfl ?_
                  refine g_iload_n dX7_best_97 rfl ?_
                  refine g_icmp_le (tgt := 106) dX7_best_98 (by decide) (fun c40 => ?_) (fun c40 => ?_)
                  · refine g_iload dX7_best_106 rfl ?_
                    refine g_istore dX7_best_108 (by decide) ?_
                    refine g_iload dX7_best_110 rfl ?_
                    refine g_iload_n dX7_best_112 rfl ?_
                    refine g_icmp_le (tgt := 121) dX7_best_113 (by decide) (fun c41 => ?_) (fun c41 => ?_)
                    · refine g_iload_n dX7_best_121 rfl ?_
                      refine g_istore_n dX7_best_122 (by decide) ?_
                      refine g_iinc (v := i27 + 1) dX7_best_123 rfl rfl (by decide) ?_
                      refine g_goto (tgt := 46) dX7_best_126 (by decide) ?_
                      refine g_pick (lv' := [(0, .ref (uk_ad G 60)), (1, .int k), (2, .int w), (3, .int w24), (4, .int w25), (5, .int w26), (6, .int i11), (7, .int (i27 + 1))]) [0, 1, 2, 3, 4, 5, 6, 7] rfl ?_
                      exact ihi27 (by first | lia | grind) w24 w25 w26 u35 hu35 fu35 riu35 (by first | trivial | lia | grind) (by first | trivial | lia | grind)
                    · refine g_iload dX7_best_116 rfl ?_
                      refine g_goto (tgt := 122) dX7_best_118 (by decide) ?_
                      refine g_istore_n dX7_best_122 (by decide) ?_
                      refine g_iinc (v := i27 + 1) dX7_best_123 rfl rfl (by decide) ?_
                      refine g_goto (tgt := 46) dX7_best_126 (by decide) ?_
                      refine g_pick (lv' := [(0, .ref (uk_ad G 60)), (1, .int k), (2, .int w), (3, .int (-1)), (4, .int w25), (5, .int w26), (6, .int i11), (7, .int (i27 + 1))]) [0, 1, 2, 3, 4, 5, 6, 7] rfl ?_
                      exact ihi27 (by first | lia | grind) (-1) w25 w26 u35 hu35 fu35 riu35 (by first | trivial | lia | grind) (by first | trivial | lia | grind)
                  · refine g_iload dX7_best_101 rfl ?_
                    refine g_goto (tgt := 108) dX7_best_103 (by decide) ?_
                    refine g_istore dX7_best_108 (by decide) ?_
                    refine g_iload dX7_best_110 rfl ?_
                    refine g_iload_n dX7_best_112 rfl ?_
                    refine g_icmp_le (tgt := 121) dX7_best_113 (by decide) (fun c42 => ?_) (fun c42 => ?_)
                    · refine g_iload_n dX7_best_121 rfl ?_
                      refine g_istore_n dX7_best_122 (by decide) ?_
                      refine g_iinc (v := i27 + 1) dX7_best_123 rfl rfl (by decide) ?_
                      refine g_goto (tgt := 46) dX7_best_126 (by decide) ?_
                      refine g_pick (lv' := [(0, .ref (uk_ad G 60)), (1, .int k), (2, .int w), (3, .int w24), (4, .int w25), (5, .int i11), (6, .int i11), (7, .int (i27 + 1))]) [0, 1, 2, 3, 4, 5, 6, 7] rfl ?_
                      exact ihi27 (by first | lia | grind) w24 w25 i11 u35 hu35 fu35 riu35 (by first | trivial | lia | grind) (by first | trivial | lia | grind)
                    · refine g_iload dX7_best_116 rfl ?_
                      refine g_goto (tgt := 122) dX7_best_118 (by decide) ?_
                      refine g_istore_n dX7_best_122 (by decide) ?_
                      refine g_iinc (v := i27 + 1) dX7_best_123 rfl rfl (by decide) ?_
                      refine g_goto (tgt := 46) dX7_best_126 (by decide) ?_
                      refine g_pick (lv' := [(0, .ref (uk_ad G 60)), (1, .int k), (2, .int w), (3, .int (-1)), (4, .int w25), (5, .int i11), (6, .int i11), (7, .int (i27 + 1))]) [0, 1, 2, 3, 4, 5, 6, 7] rfl ?_
                      exact ihi27 (by first | lia | grind) (-1) w25 i11 u35 hu35 fu35 riu35 (by first | trivial | lia | grind) (by first | trivial | lia | grind)
                · refine g_iload dX7_best_86 rfl ?_
                  refine g_goto (tgt := 93) dX7_best_88 (by decide) ?_
                  refine g_istore dX7_best_93 (by decide) ?_
                  refine g_iload dX7_best_95 rfl ?_
                  refine g_iload_n dX7_best_97 rfl ?_
                  refine g_icmp_le (tgt := 106) dX7_best_98 (by decide) (fun c43 => ?_) (fun c43 => ?_)
                  · refine g_iload dX7_best_106 rfl ?_
                    refine g_istore dX7_best_108 (by decide) ?_
                    refine g_iload dX7_best_110 rfl ?_
                    refine g_iload_n dX7_best_112 rfl ?_
                    refine g_icmp_le (tgt := 121) dX7_best_113 (by decide) (fun c44 => ?_) (fun c44 => ?_)
                    · refine g_iload_n dX7_best_121 rfl ?_
                      refine g_istore_n dX7_best_122 (by decide) ?_
                      refine g_iinc (v := i27 + 1) dX7_best_123 rfl rfl (by decide) ?_
                      refine g_goto (tgt := 46) dX7_best_126 (by decide) ?_
                      refine g_pick (lv' := [(0, .ref (uk_ad G 60)), (1, .int k), (2, .int w), (3, .int w24), (4, .int i27), (5, .int w26), (6, .int i11), (7, .int (i27 + 1))]) [0, 1, 2, 3, 4, 5, 6, 7] rfl ?_
                      exact ihi27 (by first | lia | grind) w24 i27 w26 u35 hu35 fu35 riu35 (by first | trivial | lia | grind) (by first | trivial | lia | grind)
                    · refine g_iload dX7_best_116 rfl ?_
                      refine g_goto (tgt := 122) dX7_best_118 (by decide) ?_
                      refine g_istore_n dX7_best_122 (by decide) ?_
                      refine g_iinc (v := i27 + 1) dX7_best_123 rfl rfl (by decide) ?_
                      refine g_goto (tgt := 46) dX7_best_126 (by decide) ?_
                      refine g_pick (lv' := [(0, .ref (uk_ad G 60)), (1, .int k), (2, .int w), (3, .int (-1)), (4, .int i27), (5, .int w26), (6, .int i11), (7, .int (i27 + 1))]) [0, 1, 2, 3, 4, 5, 6, 7] rfl ?_
                      exact ihi27 (by first | lia | grind) (-1) i27 w26 u35 hu35 fu35 riu35 (by first | trivial | lia | grind) (by first | trivial | lia | grind)
                  · refine g_iload dX7_best_101 rfl ?_
                    refine g_goto (tgt := 108) dX7_best_103 (by decide) ?_
                    refine g_istore dX7_best_108 (by decide) ?_
                    refine g_iload dX7_best_110 rfl ?_
                    refine g_iload_n dX7_best_112 rfl ?_
                    refine g_icmp_le (tgt := 121) dX7_best_113 (by decide) (fun c45 => ?_) (fun c45 => ?_)
                    · refine g_iload_n dX7_best_121 rfl ?_
                      refine g_istore_n dX7_best_122 (by decide) ?_
                      refine g_iinc (v := i27 + 1) dX7_best_123 rfl rfl (by decide) ?_
                      refine g_goto (tgt := 46) dX7_best_126 (by decide) ?_
                      refine g_pick (lv' := [(0, .ref (uk_ad G 60)), (1, .int k), (2, .int w), (3, .int w24), (4, .int i27), (5, .int i11), (6, .int i11), (7, .int (i27 + 1))]) [0, 1, 2, 3, 4, 5, 6, 7] rfl ?_
                      exact ihi27 (by first | lia | grind) w24 i27 i11 u35 hu35 fu35 riu35 (by first | trivial | lia | grind) (by first | trivial | lia | grind)
                    · refine g_iload dX7_best_116 rfl ?_
                      refine g_goto (tgt := 122) dX7_best_118 (by decide) ?_
                      refine g_istore_n dX7_best_122 (by decide) ?_
                      refine g_iinc (v := i27 + 1) dX7_best_123 rfl rfl (by decide) ?_
                      refine g_goto (tgt := 46) dX7_best_126 (by decide) ?_
                      refine g_pick (lv' := [(0, .ref (uk_ad G 60)), (1, .int k), (2, .int w), (3, .int (-1)), (4, .int i27), (5, .int i11), (6, .int i11), (7, .int (i27 + 1))]) [0, 1, 2, 3, 4, 5, 6, 7] rfl ?_
                      exact ihi27 (by first | lia | grind) (-1) i27 i11 u35 hu35 fu35 riu35 (by first | trivial | lia | grind) (by first | trivial | lia | grind)
              · have zc38 := nx37 c38
                refine g_aload_n dX7_best_68 rfl ?_
                refine g_bipush (v := 16) dX7_best_69 (by decide) ?_
                refine cl_X7_258 (c := 60) (As := [.int 16]) rfl (c_X7_allOf (G := G) hs hu35  16 (by first | trivial | decide | lia | grind) (d + 3)) rfl (by omega) rfl rfl (Nat.le_of_ble_eq_true rfl) dX7_best_71 (fun r46 u47 q48 => ?_)
                obtain ⟨⟨x49, rfl, tx49⟩, mq48⟩ := q48
                rw [mq48]
                refine g_goto (tgt := 78) dX7_best_74 (by decide) ?_
                refine g_istore dX7_best_78 (by decide) ?_
                refine g_iload dX7_best_80 rfl ?_
                refine g_iload_n dX7_best_82 rfl ?_
                refine g_icmp_le (tgt := 91) dX7_best_83 (by decide) (fun c50 => ?_) (fun c50 => ?_)
                · refine g_iload dX7_best_91 rfl ?_
                  refine g_istore dX7_best_93 (by decide) ?_
                  refine g_iload dX7_best_95 rfl ?_
                  refine g_iload_n dX7_best_97 rfl ?_
                  refine g_icmp_le (tgt := 106) dX7_best_98 (by decide) (fun c51 => ?_) (fun c51 => ?_)
                  · refine g_iload dX7_best_106 rfl ?_
                    refine g_istore dX7_best_108 (by decide) ?_
                    refine g_iload dX7_best_110 rfl ?_
                    refine g_iload_n dX7_best_112 rfl ?_
                    refine g_icmp_le (tgt := 121) dX7_best_113 (by decide) (fun c52 => ?_) (fun c52 => ?_)
                    · refine g_iload_n dX7_best_121 rfl ?_
                      refine g_istore_n dX7_best_122 (by decide) ?_
                      refine g_iinc (v := i27 + 1) dX7_best_123 rfl rfl (by decide) ?_
                      refine g_goto (tgt := 46) dX7_best_126 (by decide) ?_
                      refine g_pick (lv' := [(0, .ref (uk_ad G 60)), (1, .int k), (2, .int w), (3, .int w24), (4, .int w25), (5, .int w26), (6, .int i11), (7, .int (i27 + 1))]) [0, 1, 2, 3, 4, 5, 6, 7] rfl ?_
                      exact ihi27 (by first | lia | grind) w24 w25 w26 u35 hu35 fu35 riu35 (by first | trivial | lia | grind) (by first | trivial | lia | grind)
                    · refine g_iload dX7_best_116 rfl ?_
                      refine g_goto (tgt := 122) dX7_best_118 (by decide) ?_
                      refine g_istore_n dX7_best_122 (by decide) ?_
                      refine g_iinc (v := i27 + 1) dX7_best_123 rfl rfl (by decide) ?_
                      refine g_goto (tgt := 46) dX7_best_126 (by decide) ?_
                      refine g_pick (lv' := [(0, .ref (uk_ad G 60)), (1, .int k), (2, .int w), (3, .int x49), (4, .int w25), (5, .int w26), (6, .int i11), (7, .int (i27 + 1))]) [0, 1, 2, 3, 4, 5, 6, 7] rfl ?_
                      exact ihi27 (by first | lia | grind) x49 w25 w26 u35 hu35 fu35 riu35 (by first | trivial | lia | grind) (by first | trivial | lia | grind)
                  · refine g_iload dX7_best_101 rfl ?_
                    refine g_goto (tgt := 108) dX7_best_103 (by decide) ?_
                    refine g_istore dX7_best_108 (by decide) ?_
                    refine g_iload dX7_best_110 rfl ?_
                    refine g_iload_n dX7_best_112 rfl ?_
                    refine g_icmp_le (tgt := 121) dX7_best_113 (by decide) (fun c53 => ?_) (fun c53 => ?_)
                    · refine g_iload_n dX7_best_121 rfl ?_
                      refine g_istore_n dX7_best_122 (by decide) ?_
                      refine g_iinc (v := i27 + 1) dX7_best_123 rfl rfl (by decide) ?_
                      refine g_goto (tgt := 46) dX7_best_126 (by decide) ?_
                      refine g_pick (lv' := [(0, .ref (uk_ad G 60)), (1, .int k), (2, .int w), (3, .int w24), (4, .int w25), (5, .int i11), (6, .int i11), (7, .int (i27 + 1))]) [0, 1, 2, 3, 4, 5, 6, 7] rfl ?_
                      exact ihi27 (by first | lia | grind) w24 w25 i11 u35 hu35 fu35 riu35 (by first | trivial | lia | grind) (by first | trivial | lia | grind)
                    · refine g_iload dX7_best_116 rfl ?_
                      refine g_goto (tgt := 122) dX7_best_118 (by decide) ?_
                      refine g_istore_n dX7_best_122 (by decide) ?_
                      refine g_iinc (v := i27 + 1) dX7_best_123 rfl rfl (by decide) ?_
                      refine g_goto (tgt := 46) dX7_best_126 (by decide) ?_
                      refine g_pick (lv' := [(0, .ref (uk_ad G 60)), (1, .int k), (2, .int w), (3, .int x49), (4, .int w25), (5, .int i11), (6, .int i11), (7, .int (i27 + 1))]) [0, 1, 2, 3, 4, 5, 6, 7] rfl ?_
                      exact ihi27 (by first | lia | grind) x49 w25 i11 u35 hu35 fu35 riu35 (by first | trivial | lia | grind) (by first | trivial | lia | grind)
                · refine g_iload dX7_best_86 rfl ?_
                  refine g_goto (tgt := 93) dX7_best_88 (by decide) ?_
                  refine g_istore dX7_best_93 (by decide) ?_
                  refine g_iload dX7_best_95 rfl ?_
                  refine g_iload_n dX7_best_97 rfl ?_
                  refine g_icmp_le (tgt := 106) dX7_best_98 (by decide) (fun c54 => ?_) (fun c54 => ?_)
                  · refine g_iload dX7_best_106 rfl ?_
                    refine g_istore dX7_best_108 (by decide) ?_
                    refine g_iload dX7_best_110 rfl ?_
                    refine g_iload_n dX7_best_112 rfl ?_
                    refine g_icmp_le (tgt := 121) dX7_best_113 (by decide) (fun c55 => ?_) (fun c55 => ?_)
                    · refine g_iload_n dX7_best_121 rfl ?_
                      refine g_istore_n dX7_best_122 (by decide) ?_
                      refine g_iinc (v := i27 + 1) dX7_best_123 rfl rfl (by decide) ?_
                      refine g_goto (tgt := 46) dX7_best_126 (by decide) ?_
                      refine g_pick (lv' := [(0, .ref (uk_ad G 60)), (1, .int k), (2, .int w), (3, .int w24), (4, .int i27), (5, .int w26), (6, .int i11), (7, .int (i27 + 1))]) [0, 1, 2, 3, 4, 5, 6, 7] rfl ?_
                      exact ihi27 (by first | lia | grind) w24 i27 w26 u35 hu35 fu35 riu35 (by first | trivial | lia | grind) (by first | trivial | lia | grind)
                    · refine g_iload dX7_best_116 rfl ?_
                      refine g_goto (tgt := 122) dX7_best_118 (by decide) ?_
                      refine g_istore_n dX7_best_122 (by decide) ?_
                      refine g_iinc (v := i27 + 1) dX7_best_123 rfl rfl (by decide) ?_
                      refine g_goto (tgt := 46) dX7_best_126 (by decide) ?_
                      refine g_pick (lv' := [(0, .ref (uk_ad G 60)), (1, .int k), (2, .int w), (3, .int x49), (4, .int i27), (5, .int w26), (6, .int i11), (7, .int (i27 + 1))]) [0, 1, 2, 3, 4, 5, 6, 7] rfl ?_
                      exact ihi27 (by first | lia | grind) x49 i27 w26 u35 hu35 fu35 riu35 (by first | trivial | lia | grind) (by first | trivial | lia | grind)
                  · refine g_iload dX7_best_101 rfl ?_
                    refine g_goto (tgt := 108) dX7_best_103 (by decide) ?_
                    refine g_istore dX7_best_108 (by decide) ?_
                    refine g_iload dX7_best_110 rfl ?_
                    refine g_iload_n dX7_best_112 rfl ?_
                    refine g_icmp_le (tgt := 121) dX7_best_113 (by decide) (fun c56 => ?_) (fun c56 => ?_)
                    · refine g_iload_n dX7_best_121 rfl ?_
                      refine g_istore_n dX7_best_122 (by decide) ?_
                      refine g_iinc (v := i27 + 1) dX7_best_123 rfl rfl (by decide) ?_
                      refine g_goto (tgt := 46) dX7_best_126 (by decide) ?_
                      refine g_pick (lv' := [(0, .ref (uk_ad G 60)), (1, .int k), (2, .int w), (3, .int w24), (4, .int i27), (5, .int i11), (6, .int i11), (7, .int (i27 + 1))]) [0, 1, 2, 3, 4, 5, 6, 7] rfl ?_
                      exact ihi27 (by first | lia | grind) w24 i27 i11 u35 hu35 fu35 riu35 (by first | trivial | lia | grind) (by first | trivial | lia | grind)
                    · refine g_iload dX7_best_116 rfl ?_
                      refine g_goto (tgt := 122) dX7_best_118 (by decide) ?_
                      refine g_istore_n dX7_best_122 (by decide) ?_
                      refine g_iinc (v := i27 + 1) dX7_best_123 rfl rfl (by decide) ?_
                      refine g_goto (tgt := 46) dX7_best_126 (by decide) ?_
                      refine g_pick (lv' := [(0, .ref (uk_ad G 60)), (1, .int k), (2, .int w), (3, .int x49), (4, .int i27), (5, .int i11), (6, .int i11), (7, .int (i27 + 1))]) [0, 1, 2, 3, 4, 5, 6, 7] rfl ?_
                      exact ihi27 (by first | lia | grind) x49 i27 i11 u35 hu35 fu35 riu35 (by first | trivial | lia | grind) (by first | trivial | lia | grind)
          refine g_pick (lv' := [(0, .ref (uk_ad G 60)), (1, .int k), (2, .int w), (3, .int w8), (4, .int w9), (5, .int w10), (6, .int i11), (7, .int 0)]) [0, 1, 2, 3, 4, 5, 6, 7] rfl ?_
          exact L46_22 0 (by first | decide | lia | grind) (by first | decide | lia | grind) w8 w9 w10 u12 hu12 fu12 riu12 (by first | trivial | lia | grind) (by first | trivial | lia | grind)
      refine g_pick (lv' := [(0, .ref (uk_ad G 60)), (1, .int k), (2, .int w), (3, .int (-1)), (4, .int 0), (5, .int 0), (6, .int 0)]) [0, 1, 2, 3, 4, 5, 6] rfl ?_
      exact L37_6 0 (by first | decide | lia | grind) (by first | decide | lia | grind) (-1) 0 0 u hu f0 hri (by first | trivial | lia | grind) (by first | trivial | lia | grind)
    · refine g_iload_n dX7_best_17 rfl ?_
      refine cl_X7_252 (As := [.int w]) rfl (c_X7_isAsked (G := G) hs hu  w  (d + 2)) rfl (by omega) rfl (Nat.le_of_ble_eq_true rfl) dX7_best_18 (fun r57 u58 q59 => ?_)
      obtain ⟨⟨x60, rfl, tx60, nx60, zx60⟩, mq59⟩ := q59
      rw [mq59]
      refine g_if_ne (tgt := 26) dX7_best_21 (by decide) (fun c61 => ?_) (fun c61 => ?_)
      · have zc61 := nx60 c61
        refine g_iconst (v := (-1)) dX7_best_26 (by decide) ?_
        refine g_istore_n dX7_best_27 (by decide) ?_
        refine g_iconst (v := 0) dX7_best_28 (by decide) ?_
        refine g_istore dX7_best_29 (by decide) ?_
        refine g_iconst (v := 0) dX7_best_31 (by decide) ?_
        refine g_istore dX7_best_32 (by decide) ?_
        refine g_iconst (v := 0) dX7_best_34 (by decide) ?_
        refine g_istore dX7_best_35 (by decide) ?_
        have L37_61 : ∀ i66 : Int32, 0 ≤ i66 → i66 ≤ 5 → ∀ (w63 : Int32) (w64 : Int32) (w65 : Int32) (u67 : uk_Mem), iv u67 → fk [62] [] u u67 → ri u67 → 0 ≤ w65 → w65 ≤ 4 → uk_G G X mX7_best (d + 4) (q_X7_best u k w) 37 [(0, .ref (uk_ad G 60)), (1, .int k), (2, .int w), (3, .int w63), (4, .int w64), (5, .int w65), (6, .int i66)] [] u67 := by
          refine uk_upl 5 ?_
          intro i66 ai66 bi66 ihi66 w63 w64 w65 u67 hu67 fu67 riu67 ji660 ji661
          have wu67_60_3 : u67.1 60 3 = u.1 60 3 := fk_at fu67 (by decide)
          refine g_iload dX7_best_37 rfl ?_
          refine g_iload_n dX7_best_39 rfl ?_
          refine g_icmp_gt (tgt := 135) dX7_best_40 (by decide) (fun c68 => ?_) (fun c68 => ?_)
          · refine g_iload_n dX7_best_135 rfl ?_
            refine g_iconst (v := 2) dX7_best_136 (by decide) ?_
            refine g_icmp_ge (tgt := 151) dX7_best_137 (by decide) (fun c69 => ?_) (fun c69 => ?_)
            · refine g_iload_n dX7_best_151 rfl ?_
              refine g_bipush (v := 10) dX7_best_152 (by decide) ?_
              refine g_isub dX7_best_154 ?_
              refine g_topi (fun x70 ex70 => ?_)
              refine g_iload dX7_best_155 rfl ?_
              refine g_icmp_ge (tgt := 175) dX7_best_157 (by decide) (fun c71 => ?_) (fun c71 => ?_)
              · refine g_bipush (v := (-4)) dX7_best_175 (by decide) ?_
                exact g_iret (ty := .int) dX7_best_177 rfl rfl ⟨⟨_, rfl, by first | trivial | lia | grind⟩, hu67, fu67, riu67⟩
              · refine g_aload_n dX7_best_160 rfl ?_
                refine g_iload dX7_best_161 rfl ?_
                refine g_iload dX7_best_163 rfl ?_
                refine g_iload_n dX7_best_165 rfl ?_
                refine g_bipush (v := 10) dX7_best_166 (by decide) ?_
                refine g_isub dX7_best_168 ?_
                refine g_topi (fun x72 ex72 => ?_)
                refine cl_X7_244 (c := 60) (As := [.int w64, .int w65, .int x72]) rfl (c_X7_doingIn (G := G) hs hu67  w64 w65 x72 (by first | trivial | decide | lia | grind) (by first | trivial | decide | lia | grind) (by first | trivial | decide | lia | grind) (d + 2)) rfl (by omega) rfl rfl (Nat.le_of_ble_eq_true rfl) dX7_best_169 (fun r73 u74 q75 => ?_)
                obtain ⟨⟨x76, rfl, tx76⟩, mq75⟩ := q75
                rw [mq75]
                refine g_goto (tgt := 177) dX7_best_172 (by decide) ?_
                exact g_iret (ty := .int) dX7_best_177 rfl rfl ⟨⟨_, rfl, by first | trivial | lia | grind⟩, hu67, fu67, riu67⟩
            · refine g_iload_n dX7_best_140 rfl ?_
              refine g_if_ne (tgt := 148) dX7_best_141 (by decide) (fun c77 => ?_) (fun c77 => ?_)
              · refine g_iload dX7_best_148 rfl ?_
                exact g_iret (ty := .int) dX7_best_150 rfl rfl ⟨⟨_, rfl, by first | trivial | lia | grind⟩, hu67, fu67, riu67⟩
              · refine g_iload_n dX7_best_144 rfl ?_
                refine g_goto (tgt := 150) dX7_best_145 (by decide) ?_
                exact g_iret (ty := .int) dX7_best_150 rfl rfl ⟨⟨_, rfl, by first | trivial | lia | grind⟩, hu67, fu67, riu67⟩
          · refine g_iconst (v := 0) dX7_best_43 (by decide) ?_
            refine g_istore dX7_best_44 (by decide) ?_
            have L46_77 : ∀ i82 : Int32, 0 ≤ i82 → i82 ≤ 65536 → ∀ (w79 : Int32) (w80 : Int32) (w81 : Int32) (u83 : uk_Mem), iv u83 → fk [62] [] u u83 → ri u83 → 0 ≤ w81 → w81 ≤ 4 → uk_G G X mX7_best (d + 4) (q_X7_best u k w) 46 [(0, .ref (uk_ad G 60)), (1, .int k), (2, .int w), (3, .int w79), (4, .int w80), (5, .int w81), (6, .int i66), (7, .int i82)] [] u83 := by
              refine uk_upl 65536 ?_
              intro i82 ai82 bi82 ihi82 w79 w80 w81 u83 hu83 fu83 riu83 ji820 ji821
              have wu83_60_3 : u83.1 60 3 = u.1 60 3 := fk_at fu83 (by decide)
              refine g_iload dX7_best_46 rfl ?_
              refine g_aload_n dX7_best_48 rfl ?_
              refine g_iload dX7_best_49 rfl ?_
              refine cl_X7_241 (c := 60) (As := [.int i66]) rfl (c_X7_baseTo (G := G) hs hu83  i66 (by first | trivial | decide | lia | grind) (d + 3)) rfl (by omega) rfl rfl (Nat.le_of_ble_eq_true rfl) dX7_best_51 (fun r84 u85 q86 => ?_)
              obtain ⟨⟨x87, rfl, tx87⟩, mq86⟩ := q86
              rw [mq86]
              refine g_icmp_ge (tgt := 129) dX7_best_54 (by decide) (fun c88 => ?_) (fun c88 => ?_)
              · refine g_iinc (v := i66 + 1) dX7_best_129 rfl rfl (by decide) ?_
                refine g_goto (tgt := 37) dX7_best_132 (by decide) ?_
                refine g_pick (lv' := [(0, .ref (uk_ad G 60)), (1, .int k), (2, .int w), (3, .int w79), (4, .int w80), (5, .int w81), (6, .int (i66 + 1))]) [0, 1, 2, 3, 4, 5, 6] rfl ?_
                exact ihi66 (by first | lia | grind) w79 w80 w81 u83 hu83 fu83 riu83 (by first | trivial | lia | grind) (by first | trivial | lia | grind)
              · refine g_aload_n dX7_best_57 rfl ?_
                refine g_iload dX7_best_58 rfl ?_
                refine g_iload dX7_best_60 rfl ?_
                refine cl_X7_255 (c := 60) (As := [.int i82, .int i66]) rfl (c_X7_doRow (G := G) hs hu83 riu83  i82 i66 (by first | trivial | decide | lia | grind) (d)) rfl (by omega) rfl rfl (Nat.le_of_ble_eq_true rfl) dX7_best_62 (fun r89 u90 q91 => ?_)
                obtain ⟨⟨x92, rfl, tx92, nx92, zx92⟩, mq91⟩ := q91
                obtain ⟨hu90, gu90, riu90⟩ := mq91
                have fu90 : fk [62] [] u u90 := fk_tr fu83 gu90 (by decide) (by decide)
                have wu90_60_3 : u90.1 60 3 = u83.1 60 3 := fk_at gu90 (by decide)
                refine g_if_eq (tgt := 77) dX7_best_65 (by decide) (fun c93 => ?_) (fun c93 => ?_)
                · have zc93 := zx92 c93
                  refine g_iconst (v := (-1)) dX7_best_77 (by decide) ?_
                  refine g_istore dX7_best_78 (by decide) ?_
                  refine g_iload dX7_best_80 rfl ?_
                  refine g_iload_n dX7_best_82 rfl ?_
                  refine g_icmp_le (tgt := 91) dX7_best_83 (by decide) (fun c94 => ?_) (fun c94 => ?_)
                  · refine g_iload dX7_best_91 rfl ?_
                    refine g_istore dX7_best_93 (by decide) ?_
                    refine g_iload dX7_best_95 rfl ?_
                    refine g_iload_n dX7_best_97 rfl ?_
                    refine g_icmp_le (tgt := 106) dX7_best_98 (by decide) (fun c95 => ?_) (fun c95 => ?_)
                    · refine g_iload dX7_best_106 rfl ?_
                      refine g_istore dX7_best_108 (by decide) ?_
                      refine g_iload dX7_best_110 rfl ?_
                      refine g_iload_n dX7_best_112 rfl ?_
                      refine g_icmp_le (tgt := 121) dX7_best_113 (by decide) (fun c96 => ?_) (fun c96 => ?_)
                      · refine g_iload_n dX7_best_121 rfl ?_
                        refine g_istore_n dX7_best_122 (by decide) ?_
                        refine g_iinc (v := i82 + 1) dX7_best_123 rfl rfl (by decide) ?_
                        refine g_goto (tgt := 46) dX7_best_126 (by decide) ?_
                        refine g_pick (lv' := [(0, .ref (uk_ad G 60)), (1, .int k), (2, .int w), (3, .int w79), (4, .int w80), (5, .int w81), (6, .int i66), (7, .int (i82 + 1))]) [0, 1, 2, 3, 4, 5, 6, 7] rfl ?_
                        exact ihi82 (by first | lia | grind) w79 w80 w81 u90 hu90 fu90 riu90 (by first | trivial | lia | grind) (by first | trivial | lia | grind)
                      · refine g_iload dX7_best_116 rfl ?_
                        refine g_goto (tgt := 122) dX7_best_118 (by decide) ?_
                        refine g_istore_n dX7_best_122 (by decide) ?_
                        refine g_iinc (v := i82 + 1) dX7_best_123 rfl rfl (by decide) ?_
                        refine g_goto (tgt := 46) dX7_best_126 (by decide) ?_
                        refine g_pick (lv' := [(0, .ref (uk_ad G 60)), (1, .int k), (2, .int w), (3, .int (-1)), (4, .int w80), (5, .int w81), (6, .int i66), (7, .int (i82 + 1))]) [0, 1, 2, 3, 4, 5, 6, 7] rfl ?_
                        exact ihi82 (by first | lia | grind) (-1) w80 w81 u90 hu90 fu90 riu90 (by first | trivial | lia | grind) (by first | trivial | lia | grind)
                    · refine g_iload dX7_best_101 rfl ?_
                      refine g_goto (tgt := 108) dX7_best_103 (by decide) ?_
                      refine g_istore dX7_best_108 (by decide) ?_
                      refine g_iload dX7_best_110 rfl ?_
                      refine g_iload_n dX7_best_112 rfl ?_
                      refine g_icmp_le (tgt := 121) dX7_best_113 (by decide) (fun c97 => ?_) (fun c97 => ?_)
                      · refine g_iload_n dX7_best_121 rfl ?_
                        refine g_istore_n dX7_best_122 (by decide) ?_
                        refine g_iinc (v := i82 + 1) dX7_best_123 rfl rfl (by decide) ?_
                        refine g_goto (tgt := 46) dX7_best_126 (by decide) ?_
                        refine g_pick (lv' := [(0, .ref (uk_ad G 60)), (1, .int k), (2, .int w), (3, .int w79), (4, .int w80), (5, .int i66), (6, .int i66), (7, .int (i82 + 1))]) [0, 1, 2, 3, 4, 5, 6, 7] rfl ?_
                        exact ihi82 (by first | lia | grind) w79 w80 i66 u90 hu90 fu90 riu90 (by first | trivial | lia | grind) (by first | trivial | lia | grind)
                      · refine g_iload dX7_best_116 rfl ?_
                        refine g_goto (tgt := 122) dX7_best_118 (by decide) ?_
                        refine g_istore_n dX7_best_122 (by decide) ?_
                        refine g_iinc (v := i82 + 1) dX7_best_123 rfl rfl (by decide) ?_
                        refine g_goto (tgt := 46) dX7_best_126 (by decide) ?_
                        refine g_pick (lv' := [(0, .ref (uk_ad G 60)), (1, .int k), (2, .int w), (3, .int (-1)), (4, .int w80), (5, .int i66), (6, .int i66), (7, .int (i82 + 1))]) [0, 1, 2, 3, 4, 5, 6, 7] rfl ?_
                        exact ihi82 (by first | lia | grind) (-1) w80 i66 u90 hu90 fu90 riu90 (by first | trivial | lia | grind) (by first | trivial | lia | grind)
                  · refine g_iload dX7_best_86 rfl ?_
                    refine g_goto (tgt := 93) dX7_best_88 (by decide) ?_
                    refine g_istore dX7_best_93 (by decide) ?_
                    refine g_iload dX7_best_95 rfl ?_
                    refine g_iload_n dX7_best_97 rfl ?_
                    refine g_icmp_le (tgt := 106) dX7_best_98 (by decide) (fun c98 => ?_) (fun c98 => ?_)
                    · refine g_iload dX7_best_106 rfl ?_
                      refine g_istore dX7_best_108 (by decide) ?_
                      refine g_iload dX7_best_110 rfl ?_
                      refine g_iload_n dX7_best_112 rfl ?_
                      refine g_icmp_le (tgt := 121) dX7_best_113 (by decide) (fun c99 => ?_) (fun c99 => ?_)
                      · refine g_iload_n dX7_best_121 rfl ?_
                        refine g_istore_n dX7_best_122 (by decide) ?_
                        refine g_iinc (v := i82 + 1) dX7_best_123 rfl rfl (by decide) ?_
                        refine g_goto (tgt := 46) dX7_best_126 (by decide) ?_
                        refine g_pick (lv' := [(0, .ref (uk_ad G 60)), (1, .int k), (2, .int w), (3, .int w79), (4, .int i82), (5, .int w81), (6, .int i66), (7, .int (i82 + 1))]) [0, 1, 2, 3, 4, 5, 6, 7] rfl ?_
                        exact ihi82 (by first | lia | grind) w79 i82 w81 u90 hu90 fu90 riu90 (by first | trivial | lia | grind) (by first | trivial | lia | grind)
                      · refine g_iload dX7_best_116 rfl ?_
                        refine g_goto (tgt := 122) dX7_best_118 (by decide) ?_
                        refine g_istore_n dX7_best_122 (by decide) ?_
                        refine g_iinc (v := i82 + 1) dX7_best_123 rfl rfl (by decide) ?_
                        refine g_goto (tgt := 46) dX7_best_126 (by decide) ?_
                        refine g_pick (lv' := [(0, .ref (uk_ad G 60)), (1, .int k), (2, .int w), (3, .int (-1)), (4, .int i82), (5, .int w81), (6, .int i66), (7, .int (i82 + 1))]) [0, 1, 2, 3, 4, 5, 6, 7] rfl ?_
                        exact ihi82 (by first | lia | grind) (-1) i82 w81 u90 hu90 fu90 riu90 (by first | trivial | lia | grind) (by first | trivial | lia | grind)
                    · refine g_iload dX7_best_101 rfl ?_
                      refine g_goto (tgt := 108) dX7_best_103 (by decide) ?_
                      refine g_istore dX7_best_108 (by decide) ?_
                      refine g_iload dX7_best_110 rfl ?_
                      refine g_iload_n dX7_best_112 rfl ?_
                      refine g_icmp_le (tgt := 121) dX7_best_113 (by decide) (fun c100 => ?_) (fun c100 => ?_)
                      · refine g_iload_n dX7_best_121 rfl ?_
                        refine g_istore_n dX7_best_122 (by decide) ?_
                        refine g_iinc (v := i82 + 1) dX7_best_123 rfl rfl (by decide) ?_
                        refine g_goto (tgt := 46) dX7_best_126 (by decide) ?_
                        refine g_pick (lv' := [(0, .ref (uk_ad G 60)), (1, .int k), (2, .int w), (3, .int w79), (4, .int i82), (5, .int i66), (6, .int i66), (7, .int (i82 + 1))]) [0, 1, 2, 3, 4, 5, 6, 7] rfl ?_
                        exact ihi82 (by first | lia | grind) w79 i82 i66 u90 hu90 fu90 riu90 (by first | trivial | lia | grind) (by first | trivial | lia | grind)
                      · refine g_iload dX7_best_116 rfl ?_
                        refine g_goto (tgt := 122) dX7_best_118 (by decide) ?_
                        refine g_istore_n dX7_best_122 (by decide) ?_
                        refine g_iinc (v := i82 + 1) dX7_best_123 rfl rfl (by decide) ?_
                        refine g_goto (tgt := 46) dX7_best_126 (by decide) ?_
                        refine g_pick (lv' := [(0, .ref (uk_ad G 60)), (1, .int k), (2, .int w), (3, .int (-1)), (4, .int i82), (5, .int i66), (6, .int i66), (7, .int (i82 + 1))]) [0, 1, 2, 3, 4, 5, 6, 7] rfl ?_
                        exact ihi82 (by first | lia | grind) (-1) i82 i66 u90 hu90 fu90 riu90 (by first | trivial | lia | grind) (by first | trivial | lia | grind)
                · have zc93 := nx92 c93
                  refine g_aload_n dX7_best_68 rfl ?_
                  refine g_bipush (v := 16) dX7_best_69 (by decide) ?_
                  refine cl_X7_258 (c := 60) (As := [.int 16]) rfl (c_X7_allOf (G := G) hs hu90  16 (by first | trivial | decide | lia | grind) (d + 3)) rfl (by omega) rfl rfl (Nat.le_of_ble_eq_true rfl) dX7_best_71 (fun r101 u102 q103 => ?_)
                  obtain ⟨⟨x104, rfl, tx104⟩, mq103⟩ := q103
                  rw [mq103]
                  refine g_goto (tgt := 78) dX7_best_74 (by decide) ?_
                  refine g_istore dX7_best_78 (by decide) ?_
                  refine g_iload dX7_best_80 rfl ?_
                  refine g_iload_n dX7_best_82 rfl ?_
                  refine g_icmp_le (tgt := 91) dX7_best_83 (by decide) (fun c105 => ?_) (fun c105 => ?_)
                  · refine g_iload dX7_best_91 rfl ?_
                    refine g_istore dX7_best_93 (by decide) ?_
                    refine g_iload dX7_best_95 rfl ?_
                    refine g_iload_n dX7_best_97 rfl ?_
                    refine g_icmp_le (tgt := 106) dX7_best_98 (by decide) (fun c106 => ?_) (fun c106 => ?_)
                    · refine g_iload dX7_best_106 rfl ?_
                      refine g_istore dX7_best_108 (by decide) ?_
                      refine g_iload dX7_best_110 rfl ?_
                      refine g_iload_n dX7_best_112 rfl ?_
                      refine g_icmp_le (tgt := 121) dX7_best_113 (by decide) (fun c107 => ?_) (fun c107 => ?_)
                      · refine g_iload_n dX7_best_121 rfl ?_
                        refine g_istore_n dX7_best_122 (by decide) ?_
                        refine g_iinc (v := i82 + 1) dX7_best_123 rfl rfl (by decide) ?_
                        refine g_goto (tgt := 46) dX7_best_126 (by decide) ?_
                        refine g_pick (lv' := [(0, .ref (uk_ad G 60)), (1, .int k), (2, .int w), (3, .int w79), (4, .int w80), (5, .int w81), (6, .int i66), (7, .int (i82 + 1))]) [0, 1, 2, 3, 4, 5, 6, 7] rfl ?_
                        exact ihi82 (by first | lia | grind) w79 w80 w81 u90 hu90 fu90 riu90 (by first | trivial | lia | grind) (by first | trivial | lia | grind)
                      · refine g_iload dX7_best_116 rfl ?_
                        refine g_goto (tgt := 122) dX7_best_118 (by decide) ?_
                        refine g_istore_n dX7_best_122 (by decide) ?_
                        refine g_iinc (v := i82 + 1) dX7_best_123 rfl rfl (by decide) ?_
                        refine g_goto (tgt := 46) dX7_best_126 (by decide) ?_
                        refine g_pick (lv' := [(0, .ref (uk_ad G 60)), (1, .int k), (2, .int w), (3, .int x104), (4, .int w80), (5, .int w81), (6, .int i66), (7, .int (i82 + 1))]) [0, 1, 2, 3, 4, 5, 6, 7] rfl ?_
                        exact ihi82 (by first | lia | grind) x104 w80 w81 u90 hu90 fu90 riu90 (by first | trivial | lia | grind) (by first | trivial | lia | grind)
                    · refine g_iload dX7_best_101 rfl ?_
                      refine g_goto (tgt := 108) dX7_best_103 (by decide) ?_
                      refine g_istore dX7_best_108 (by decide) ?_
                      refine g_iload dX7_best_110 rfl ?_
                      refine g_iload_n dX7_best_112 rfl ?_
                      refine g_icmp_le (tgt := 121) dX7_best_113 (by decide) (fun c108 => ?_) (fun c108 => ?_)
                      · refine g_iload_n dX7_best_121 rfl ?_
                        refine g_istore_n dX7_best_122 (by decide) ?_
                        refine g_iinc (v := i82 + 1) dX7_best_123 rfl rfl (by decide) ?_
                        refine g_goto (tgt := 46) dX7_best_126 (by decide) ?_
                        refine g_pick (lv' := [(0, .ref (uk_ad G 60)), (1, .int k), (2, .int w), (3, .int w79), (4, .int w80), (5, .int i66), (6, .int i66), (7, .int (i82 + 1))]) [0, 1, 2, 3, 4, 5, 6, 7] rfl ?_
                        exact ihi82 (by first | lia | grind) w79 w80 i66 u90 hu90 fu90 riu90 (by first | trivial | lia | grind) (by first | trivial | lia | grind)
                      · refine g_iload dX7_best_116 rfl ?_
                        refine g_goto (tgt := 122) dX7_best_118 (by decide) ?_
                        refine g_istore_n dX7_best_122 (by decide) ?_
                        refine g_iinc (v := i82 + 1) dX7_best_123 rfl rfl (by decide) ?_
                        refine g_goto (tgt := 46) dX7_best_126 (by decide) ?_
                        refine g_pick (lv' := [(0, .ref (uk_ad G 60)), (1, .int k), (2, .int w), (3, .int x104), (4, .int w80), (5, .int i66), (6, .int i66), (7, .int (i82 + 1))]) [0, 1, 2, 3, 4, 5, 6, 7] rfl ?_
                        exact ihi82 (by first | lia | grind) x104 w80 i66 u90 hu90 fu90 riu90 (by first | trivial | lia | grind) (by first | trivial | lia | grind)
                  · refine g_iload dX7_best_86 rfl ?_
                    refine g_goto (tgt := 93) dX7_best_88 (by decide) ?_
                    refine g_istore dX7_best_93 (by decide) ?_
                    refine g_iload dX7_best_95 rfl ?_
                    refine g_iload_n dX7_best_97 rfl ?_
                    refine g_icmp_le (tgt := 106) dX7_best_98 (by decide) (fun c109 => ?_) (fun c109 => ?_)
                    · refine g_iload dX7_best_106 rfl ?_
                      refine g_istore dX7_best_108 (by decide) ?_
                      refine g_iload dX7_best_110 rfl ?_
                      refine g_iload_n dX7_best_112 rfl ?_
                      refine g_icmp_le (tgt := 121) dX7_best_113 (by decide) (fun c110 => ?_) (fun c110 => ?_)
                      · refine g_iload_n dX7_best_121 rfl ?_
                        refine g_istore_n dX7_best_122 (by decide) ?_
                        refine g_iinc (v := i82 + 1) dX7_best_123 rfl rfl (by decide) ?_
                        refine g_goto (tgt := 46) dX7_best_126 (by decide) ?_
                        refine g_pick (lv' := [(0, .ref (uk_ad G 60)), (1, .int k), (2, .int w), (3, .int w79), (4, .int i82), (5, .int w81), (6, .int i66), (7, .int (i82 + 1))]) [0, 1, 2, 3, 4, 5, 6, 7] rfl ?_
                        exact ihi82 (by first | lia | grind) w79 i82 w81 u90 hu90 fu90 riu90 (by first | trivial | lia | grind) (by first | trivial | lia | grind)
                      · refine g_iload dX7_best_116 rfl ?_
                        refine g_goto (tgt := 122) dX7_best_118 (by decide) ?_
                        refine g_istore_n dX7_best_122 (by decide) ?_
                        refine g_iinc (v := i82 + 1) dX7_best_123 rfl rfl (by decide) ?_
                        refine g_goto (tgt := 46) dX7_best_126 (by decide) ?_
                        refine g_pick (lv' := [(0, .ref (uk_ad G 60)), (1, .int k), (2, .int w), (3, .int x104), (4, .int i82), (5, .int w81), (6, .int i66), (7, .int (i82 + 1))]) [0, 1, 2, 3, 4, 5, 6, 7] rfl ?_
                        exact ihi82 (by first | lia | grind) x104 i82 w81 u90 hu90 fu90 riu90 (by first | trivial | lia | grind) (by first | trivial | lia | grind)
                    · refine g_iload dX7_best_101 rfl ?_
                      refine g_goto (tgt := 108) dX7_best_103 (by decide) ?_
                      refine g_istore dX7_best_108 (by decide) ?_
                      refine g_iload dX7_best_110 rfl ?_
                      refine g_iload_n dX7_best_112 rfl ?_
                      refine g_icmp_le (tgt := 121) dX7_best_113 (by decide) (fun c111 => ?_) (fun c111 => ?_)
                      · refine g_iload_n dX7_best_121 rfl ?_
                        refine g_istore_n dX7_best_122 (by decide) ?_
                        refine g_iinc (v := i82 + 1) dX7_best_123 rfl rfl (by decide) ?_
                        refine g_goto (tgt := 46) dX7_best_126 (by decide) ?_
                        refine g_pick (lv' := [(0, .ref (uk_ad G 60)), (1, .int k), (2, .int w), (3, .int w79), (4, .int i82), (5, .int i66), (6, .int i66), (7, .int (i82 + 1))]) [0, 1, 2, 3, 4, 5, 6, 7] rfl ?_
                        exact ihi82 (by first | lia | grind) w79 i82 i66 u90 hu90 fu90 riu90 (by first | trivial | lia | grind) (by first | trivial | lia | grind)
                      · refine g_iload dX7_best_116 rfl ?_
                        refine g_goto (tgt := 122) dX7_best_118 (by decide) ?_
                        refine g_istore_n dX7_best_122 (by decide) ?_
                        refine g_iinc (v := i82 + 1) dX7_best_123 rfl rfl (by decide) ?_
                        refine g_goto (tgt := 46) dX7_best_126 (by decide) ?_
                        refine g_pick (lv' := [(0, .ref (uk_ad G 60)), (1, .int k), (2, .int w), (3, .int x104), (4, .int i82), (5, .int i66), (6, .int i66), (7, .int (i82 + 1))]) [0, 1, 2, 3, 4, 5, 6, 7] rfl ?_
                        exact ihi82 (by first | lia | grind) x104 i82 i66 u90 hu90 fu90 riu90 (by first | trivial | lia | grind) (by first | trivial | lia | grind)
            refine g_pick (lv' := [(0, .ref (uk_ad G 60)), (1, .int k), (2, .int w), (3, .int w63), (4, .int w64), (5, .int w65), (6, .int i66), (7, .int 0)]) [0, 1, 2, 3, 4, 5, 6, 7] rfl ?_
            exact L46_77 0 (by first | decide | lia | grind) (by first | decide | lia | grind) w63 w64 w65 u67 hu67 fu67 riu67 (by first | trivial | lia | grind) (by first | trivial | lia | grind)
        refine g_pick (lv' := [(0, .ref (uk_ad G 60)), (1, .int k), (2, .int w), (3, .int (-1)), (4, .int 0), (5, .int 0), (6, .int 0)]) [0, 1, 2, 3, 4, 5, 6] rfl ?_
        exact L37_61 0 (by first | decide | lia | grind) (by first | decide | lia | grind) (-1) 0 0 u hu f0 hri (by first | trivial | lia | grind) (by first | trivial | lia | grind)
      · have zc61 := zx60 c61
        refine g_iconst (v := (-1)) dX7_best_24 (by decide) ?_
        exact g_iret (ty := .int) dX7_best_25 rfl rfl ⟨⟨_, rfl, by first | trivial | lia | grind⟩, hu, f0, hri⟩
abbrev q_X7_least (u : uk_Mem) (m : Int32) (w : Int32) (r : Option Value) (u' : uk_Mem) : Prop := (∃ x : Int32, r = some (.int x) ∧ True) ∧ (iv u' ∧ fk [62] [] u u' ∧ ri u')
set_option maxHeartbeats 4000000 in
set_option maxRecDepth 20000 in
theorem c_X7_least {G : uk_D} (hs : uk_Sep G) {u : uk_Mem} (hu : iv u) (hri : ri u) (m : Int32) (w : Int32) (d : Nat) : uk_Meth G (d + 4) mX7_least [.ref (uk_ad G 60), .int m, .int w] u (q_X7_least u m w) := by
  refine uk_Meth.of hs (by decide) (Nat.le_of_ble_eq_true rfl) (fun X => ?_)
  have f0 : fk [62] [] u u := fk_rf
  refine g_aload_n dX7_least_0 rfl ?_
  refine g_iload_n dX7_least_1 rfl ?_
  refine cl_X7_163 (c := 60) (As := [.int m]) rfl (c_X7_isStuff (G := G) hs hu  m  (d + 2)) rfl (by omega) rfl rfl (Nat.le_of_ble_eq_true rfl) dX7_least_2 (fun r1 u2 q3 => ?_)
  obtain ⟨⟨x4, rfl, tx4, nx4, zx4⟩, mq3⟩ := q3
  rw [mq3]
  refine g_if_eq (tgt := 15) dX7_least_5 (by decide) (fun c5 => ?_) (fun c5 => ?_)
  · have zc5 := zx4 c5
    refine g_iconst (v := (-1)) dX7_least_15 (by decide) ?_
    exact g_iret (ty := .int) dX7_least_16 rfl rfl ⟨⟨_, rfl, by first | trivial | lia | grind⟩, hu, f0, hri⟩
  · have zc5 := nx4 c5
    refine g_iload_n dX7_least_8 rfl ?_
    refine cl_X7_252 (As := [.int w]) rfl (c_X7_isAsked (G := G) hs hu  w  (d + 2)) rfl (by omega) rfl (Nat.le_of_ble_eq_true rfl) dX7_least_9 (fun r6 u7 q8 => ?_)
    obtain ⟨⟨x9, rfl, tx9, nx9, zx9⟩, mq8⟩ := q8
    rw [mq8]
    refine g_if_ne (tgt := 17) dX7_least_12 (by decide) (fun c10 => ?_) (fun c10 => ?_)
    · have zc10 := nx9 c10
      refine g_iconst (v := 0) dX7_least_17 (by decide) ?_
      refine g_istore_n dX7_least_18 (by decide) ?_
      have L19_10 : ∀ i12 : Int32, 0 ≤ i12 → i12 ≤ 5 → ∀ (u13 : uk_Mem), iv u13 → fk [62] [] u u13 → ri u13 → uk_G G X mX7_least (d + 4) (q_X7_least u m w) 19 [(0, .ref (uk_ad G 60)), (1, .int m), (2, .int w), (3, .int i12)] [] u13 := by
        refine uk_upl 5 ?_
        intro i12 ai12 bi12 ihi12  u13 hu13 fu13 riu13
        have wu13_60_3 : u13.1 60 3 = u.1 60 3 := fk_at fu13 (by decide)
        refine g_iload_n dX7_least_19 rfl ?_
        refine g_iconst (v := 4) dX7_least_20 (by decide) ?_
        refine g_icmp_gt (tgt := 103) dX7_least_21 (by decide) (fun c14 => ?_) (fun c14 => ?_)
        · refine g_bipush (v := (-4)) dX7_least_103 (by decide) ?_
          exact g_iret (ty := .int) dX7_least_105 rfl rfl ⟨⟨_, rfl, by first | trivial | lia | grind⟩, hu13, fu13, riu13⟩
        · refine g_iconst (v := 0) dX7_least_24 (by decide) ?_
          refine g_istore dX7_least_25 (by decide) ?_
          have L27_14 : ∀ i16 : Int32, 0 ≤ i16 → i16 ≤ 65536 → ∀ (u17 : uk_Mem), iv u17 → fk [62] [] u u17 → ri u17 → uk_G G X mX7_least (d + 4) (q_X7_least u m w) 27 [(0, .ref (uk_ad G 60)), (1, .int m), (2, .int w), (3, .int i12), (4, .int i16)] [] u17 := by
            refine uk_upl 65536 ?_
            intro i16 ai16 bi16 ihi16  u17 hu17 fu17 riu17
            have wu17_60_3 : u17.1 60 3 = u.1 60 3 := fk_at fu17 (by decide)
            refine g_iload dX7_least_27 rfl ?_
            refine g_aload_n dX7_least_29 rfl ?_
            refine g_iload_n dX7_least_30 rfl ?_
            refine cl_X7_241 (c := 60) (As := [.int i12]) rfl (c_X7_baseTo (G := G) hs hu17  i12 (by first | trivial | decide | lia | grind) (d + 3)) rfl (by omega) rfl rfl (Nat.le_of_ble_eq_true rfl) dX7_least_31 (fun r18 u19 q20 => ?_)
            obtain ⟨⟨x21, rfl, tx21⟩, mq20⟩ := q20
            rw [mq20]
            refine g_icmp_ge (tgt := 97) dX7_least_34 (by decide) (fun c22 => ?_) (fun c22 => ?_)
            · refine g_iinc (v := i12 + 1) dX7_least_97 rfl rfl (by decide) ?_
              refine g_goto (tgt := 19) dX7_least_100 (by decide) ?_
              refine g_pick (lv' := [(0, .ref (uk_ad G 60)), (1, .int m), (2, .int w), (3, .int (i12 + 1))]) [0, 1, 2, 3] rfl ?_
              exact ihi12 (by first | lia | grind)  u17 hu17 fu17 riu17 
            · refine g_aload_n dX7_least_37 rfl ?_
              refine g_iload dX7_least_38 rfl ?_
              refine g_iload_n dX7_least_40 rfl ?_
              refine cl_X7_255 (c := 60) (As := [.int i16, .int i12]) rfl (c_X7_doRow (G := G) hs hu17 riu17  i16 i12 (by first | trivial | decide | lia | grind) (d)) rfl (by omega) rfl rfl (Nat.le_of_ble_eq_true rfl) dX7_least_41 (fun r23 u24 q25 => ?_)
              obtain ⟨⟨x26, rfl, tx26, nx26, zx26⟩, mq25⟩ := q25
              obtain ⟨hu24, gu24, riu24⟩ := mq25
              have fu24 : fk [62] [] u u24 := fk_tr fu17 gu24 (by decide) (by decide)
              have wu24_60_3 : u24.1 60 3 = u17.1 60 3 := fk_at gu24 (by decide)
              refine g_if_eq (tgt := 91) dX7_least_44 (by decide) (fun c27 => ?_) (fun c27 => ?_)
              · have zc27 := zx26 c27
                refine g_iinc (v := i16 + 1) dX7_least_91 rfl rfl (by decide) ?_
                refine g_goto (tgt := 27) dX7_least_94 (by decide) ?_
                refine g_pick (lv' := [(0, .ref (uk_ad G 60)), (1, .int m), (2, .int w), (3, .int i12), (4, .int (i16 + 1))]) [0, 1, 2, 3, 4] rfl ?_
                exact ihi16 (by first | lia | grind)  u24 hu24 fu24 riu24 
              · have zc27 := nx26 c27
                refine g_aload_n dX7_least_47 rfl ?_
                refine f_X7_13 rfl rfl dX7_least_48 ?_
                refine g_iconst (v := 0) dX7_least_51 (by decide) ?_
                refine g_iload_n dX7_least_52 rfl ?_
                refine g_iadd dX7_least_53 ?_
                refine g_topi (fun x28 ex28 => ?_)
                have ox28 : x28 = m := by rw [ex28, Int32.zero_add]
                have v29 : vp_in x28 51 := uk_vin 51 rfl (by first | decide | lia | grind) (by first | decide | lia | grind)
                refine g_iald rfl rfl v29 dX7_least_54 ?_
                refine g_topi (fun x30 ex30 => ?_)
                have bx30 := uk_cl v29
                have rx30 : 0 ≤ x30 ∧ x30 ≤ 40 := by rw [ex30]; exact sg_0 hu24 (by unfold uk_is51; decide) (by first | lia | grind) (by first | lia | grind)
                refine g_if_le (tgt := 91) dX7_least_55 (by decide) (fun c31 => ?_) (fun c31 => ?_)
                · refine g_iinc (v := i16 + 1) dX7_least_91 rfl rfl (by decide) ?_
                  refine g_goto (tgt := 27) dX7_least_94 (by decide) ?_
                  refine g_pick (lv' := [(0, .ref (uk_ad G 60)), (1, .int m), (2, .int w), (3, .int i12), (4, .int (i16 + 1))]) [0, 1, 2, 3, 4] rfl ?_
                  exact ihi16 (by first | lia | grind)  u24 hu24 fu24 riu24 
                · refine g_iload_n dX7_least_58 rfl ?_
                  refine g_if_ne (tgt := 66) dX7_least_59 (by decide) (fun c32 => ?_) (fun c32 => ?_)
                  · refine g_iload_n dX7_least_66 rfl ?_
                    refine g_bipush (v := 10) dX7_least_67 (by decide) ?_
                    refine g_isub dX7_least_69 ?_
                    refine g_topi (fun x33 ex33 => ?_)
                    refine g_iload_n dX7_least_70 rfl ?_
                    refine g_icmp_ge (tgt := 88) dX7_least_71 (by decide) (fun c34 => ?_) (fun c34 => ?_)
                    · refine g_bipush (v := (-4)) dX7_least_88 (by decide) ?_
                      exact g_iret (ty := .int) dX7_least_90 rfl rfl ⟨⟨_, rfl, by first | trivial | lia | grind⟩, hu24, fu24, riu24⟩
                    · refine g_aload_n dX7_least_74 rfl ?_
                      refine g_iload dX7_least_75 rfl ?_
                      refine g_iload_n dX7_least_77 rfl ?_
                      refine g_iload_n dX7_least_78 rfl ?_
                      refine g_bipush (v := 10) dX7_least_79 (by decide) ?_
                      refine g_isub dX7_least_81 ?_
                      refine g_topi (fun x35 ex35 => ?_)
                      refine cl_X7_244 (c := 60) (As := [.int i16, .int i12, .int x35]) rfl (c_X7_doingIn (G := G) hs hu24  i16 i12 x35 (by first | trivial | decide | lia | grind) (by first | trivial | decide | lia | grind) (by first | trivial | decide | lia | grind) (d + 2)) rfl (by omega) rfl rfl (Nat.le_of_ble_eq_true rfl) dX7_least_82 (fun r36 u37 q38 => ?_)
                      obtain ⟨⟨x39, rfl, tx39⟩, mq38⟩ := q38
                      rw [mq38]
                      refine g_goto (tgt := 90) dX7_least_85 (by decide) ?_
                      exact g_iret (ty := .int) dX7_least_90 rfl rfl ⟨⟨_, rfl, by first | trivial | lia | grind⟩, hu24, fu24, riu24⟩
                  · refine g_iload_n dX7_least_62 rfl ?_
                    refine g_goto (tgt := 90) dX7_least_63 (by decide) ?_
                    exact g_iret (ty := .int) dX7_least_90 rfl rfl ⟨⟨_, rfl, by first | trivial | lia | grind⟩, hu24, fu24, riu24⟩
          refine g_pick (lv' := [(0, .ref (uk_ad G 60)), (1, .int m), (2, .int w), (3, .int i12), (4, .int 0)]) [0, 1, 2, 3, 4] rfl ?_
          exact L27_14 0 (by first | decide | lia | grind) (by first | decide | lia | grind)  u13 hu13 fu13 riu13 
      refine g_pick (lv' := [(0, .ref (uk_ad G 60)), (1, .int m), (2, .int w), (3, .int 0)]) [0, 1, 2, 3] rfl ?_
      exact L19_10 0 (by first | decide | lia | grind) (by first | decide | lia | grind)  u hu f0 hri 
    · have zc10 := zx9 c10
      refine g_iconst (v := (-1)) dX7_least_15 (by decide) ?_
      exact g_iret (ty := .int) dX7_least_16 rfl rfl ⟨⟨_, rfl, by first | trivial | lia | grind⟩, hu, f0, hri⟩
