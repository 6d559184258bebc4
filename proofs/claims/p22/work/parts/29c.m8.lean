abbrev q_X7_best (u : uk_Mem) (k : Int32) (w : Int32) (r : Option Value) (u' : uk_Mem) : Prop := (∃ x : Int32, r = some (.int x) ∧ True) ∧ (iv u' ∧ fk [62] [] u u' ∧ ri u')
set_option maxHeartbeats 40000000 in
set_option maxRecDepth 20000 in
theorem c_X7_best {G : uk_D} (hs : uk_Sep G) {u : uk_Mem} (hu : iv u) (hri : ri u) (k : Int32) (w : Int32) (d : Nat) : uk_Meth G (d + 4) mX7_best [.ref (uk_ad G 60), .int k, .int w] u (q_X7_best u k w) := by
  refine uk_Meth.of hs (by decide) (Nat.le_of_ble_eq_true rfl) (fun X => ?_)
  have f0 : fk [62] [] u u := fk_rf
  have J26 : (0 ≤ k ∧ k ≤ 4) → (w = 1 ∨ w = 0 ∨ (10 ≤ w ∧ w ≤ 13)) → uk_G G X mX7_best (d + 4) (q_X7_best u k w) 26 [(0, .ref (uk_ad G 60)), (1, .int k), (2, .int w)] [] u := by
    intro jj26_0 jj26_1
    refine g_iconst (v := (-1)) dX7_best_26 (by decide) ?_
    refine g_istore_n dX7_best_27 (by decide) ?_
    refine g_pick (lv' := [(0, .ref (uk_ad G 60)), (1, .int k), (2, .int w), (3, .int (-1))]) [0, 1, 2, 3] rfl ?_
    refine g_iconst (v := 0) dX7_best_28 (by decide) ?_
    refine g_istore dX7_best_29 (by decide) ?_
    refine g_pick (lv' := [(0, .ref (uk_ad G 60)), (1, .int k), (2, .int w), (3, .int (-1)), (4, .int 0)]) [0, 1, 2, 3, 4] rfl ?_
    refine g_iconst (v := 0) dX7_best_31 (by decide) ?_
    refine g_istore dX7_best_32 (by decide) ?_
    refine g_pick (lv' := [(0, .ref (uk_ad G 60)), (1, .int k), (2, .int w), (3, .int (-1)), (4, .int 0), (5, .int 0)]) [0, 1, 2, 3, 4, 5] rfl ?_
    refine g_iconst (v := 0) dX7_best_34 (by decide) ?_
    refine g_istore dX7_best_35 (by decide) ?_
    refine g_pick (lv' := [(0, .ref (uk_ad G 60)), (1, .int k), (2, .int w), (3, .int (-1)), (4, .int 0), (5, .int 0), (6, .int 0)]) [0, 1, 2, 3, 4, 5, 6] rfl ?_
    have L37_0 : ∀ i5 : Int32, 0 ≤ i5 → i5 ≤ 5 → ∀ (w2 : Int32) (w3 : Int32) (w4 : Int32) (u6 : uk_Mem), iv u6 → fk [62] [] u u6 → ri u6 → 0 ≤ w4 → w4 ≤ 4 → uk_G G X mX7_best (d + 4) (q_X7_best u k w) 37 [(0, .ref (uk_ad G 60)), (1, .int k), (2, .int w), (3, .int w2), (4, .int w3), (5, .int w4), (6, .int i5)] [] u6 := by
      refine uk_upl 5 ?_
      intro i5 ai5 bi5 ihi5 w2 w3 w4 u6 hu6 fu6 riu6 ji50 ji51
      have wu6_60_3 : u6.1 60 3 = u.1 60 3 := fk_at fu6 (by decide)
      refine g_iload dX7_best_37 rfl ?_
      refine g_iload_n dX7_best_39 rfl ?_
      refine g_icmp_gt (tgt := 135) dX7_best_40 (by decide) (fun c7 => ?_) (fun c7 => ?_)
      · refine g_iload_n dX7_best_135 rfl ?_
        refine g_iconst (v := 2) dX7_best_136 (by decide) ?_
        refine g_icmp_ge (tgt := 151) dX7_best_137 (by decide) (fun c8 => ?_) (fun c8 => ?_)
        · refine g_iload_n dX7_best_151 rfl ?_
          refine g_bipush (v := 10) dX7_best_152 (by decide) ?_
          refine g_isub dX7_best_154 ?_
          refine g_topi (fun x9 ex9 => ?_)
          refine g_iload dX7_best_155 rfl ?_
          refine g_icmp_ge (tgt := 175) dX7_best_157 (by decide) (fun c10 => ?_) (fun c10 => ?_)
          · refine g_bipush (v := (-4)) dX7_best_175 (by decide) ?_
            exact g_iret (ty := .int) dX7_best_177 rfl rfl ⟨⟨_, rfl, by first | trivial | lia | grind⟩, hu6, fu6, riu6⟩
          · refine g_aload_n dX7_best_160 rfl ?_
            refine g_iload dX7_best_161 rfl ?_
            refine g_iload dX7_best_163 rfl ?_
            refine g_iload_n dX7_best_165 rfl ?_
            refine g_bipush (v := 10) dX7_best_166 (by decide) ?_
            refine g_isub dX7_best_168 ?_
            refine g_topi (fun x11 ex11 => ?_)
            refine cl_X7_244 (c := 60) (As := [.int w3, .int w4, .int x11]) rfl (c_X7_doingIn (G := G) hs hu6  w3 w4 x11 (by first | trivial | decide | lia | grind) (by first | trivial | decide | lia | grind) (by first | trivial | decide | lia | grind) (d + 2)) rfl (by omega) rfl rfl (Nat.le_of_ble_eq_true rfl) dX7_best_169 (fun r12 u13 q14 => ?_)
            obtain ⟨⟨x15, rfl, tx15⟩, mq14⟩ := q14
            rw [mq14]
            refine g_goto (tgt := 177) dX7_best_172 (by decide) ?_
            exact g_iret (ty := .int) dX7_best_177 rfl rfl ⟨⟨_, rfl, by first | trivial | lia | grind⟩, hu6, fu6, riu6⟩
        · refine g_iload_n dX7_best_140 rfl ?_
          refine g_if_ne (tgt := 148) dX7_best_141 (by decide) (fun c16 => ?_) (fun c16 => ?_)
          · refine g_iload dX7_best_148 rfl ?_
            exact g_iret (ty := .int) dX7_best_150 rfl rfl ⟨⟨_, rfl, by first | trivial | lia | grind⟩, hu6, fu6, riu6⟩
          · refine g_iload_n dX7_best_144 rfl ?_
            refine g_goto (tgt := 150) dX7_best_145 (by decide) ?_
            exact g_iret (ty := .int) dX7_best_150 rfl rfl ⟨⟨_, rfl, by first | trivial | lia | grind⟩, hu6, fu6, riu6⟩
      · refine g_iconst (v := 0) dX7_best_43 (by decide) ?_
        refine g_istore dX7_best_44 (by decide) ?_
        refine g_pick (lv' := [(0, .ref (uk_ad G 60)), (1, .int k), (2, .int w), (3, .int w2), (4, .int w3), (5, .int w4), (6, .int i5), (7, .int 0)]) [0, 1, 2, 3, 4, 5, 6, 7] rfl ?_
        have L46_16 : ∀ i21 : Int32, 0 ≤ i21 → i21 ≤ 65536 → ∀ (w18 : Int32) (w19 : Int32) (w20 : Int32) (u22 : uk_Mem), iv u22 → fk [62] [] u u22 → ri u22 → 0 ≤ w20 → w20 ≤ 4 → uk_G G X mX7_best (d + 4) (q_X7_best u k w) 46 [(0, .ref (uk_ad G 60)), (1, .int k), (2, .int w), (3, .int w18), (4, .int w19), (5, .int w20), (6, .int i5), (7, .int i21)] [] u22 := by
          refine uk_upl 65536 ?_
          intro i21 ai21 bi21 ihi21 w18 w19 w20 u22 hu22 fu22 riu22 ji210 ji211
          have wu22_60_3 : u22.1 60 3 = u.1 60 3 := fk_at fu22 (by decide)
          refine g_iload dX7_best_46 rfl ?_
          refine g_aload_n dX7_best_48 rfl ?_
          refine g_iload dX7_best_49 rfl ?_
          refine cl_X7_241 (c := 60) (As := [.int i5]) rfl (c_X7_baseTo (G := G) hs hu22  i5 (by first | trivial | decide | lia | grind) (d + 3)) rfl (by omega) rfl rfl (Nat.le_of_ble_eq_true rfl) dX7_best_51 (fun r23 u24 q25 => ?_)
          obtain ⟨⟨x26, rfl, tx26⟩, mq25⟩ := q25
          rw [mq25]
          refine g_icmp_ge (tgt := 129) dX7_best_54 (by decide) (fun c27 => ?_) (fun c27 => ?_)
          · refine g_iinc (v := i5 + 1) dX7_best_129 rfl rfl (by decide) ?_
            refine g_pick (lv' := [(0, .ref (uk_ad G 60)), (1, .int k), (2, .int w), (3, .int w18), (4, .int w19), (5, .int w20), (6, .int (i5 + 1)), (7, .int i21)]) [0, 1, 2, 3, 4, 5, 6, 7] rfl ?_
            refine g_goto (tgt := 37) dX7_best_132 (by decide) ?_
            refine g_pick (lv' := [(0, .ref (uk_ad G 60)), (1, .int k), (2, .int w), (3, .int w18), (4, .int w19), (5, .int w20), (6, .int (i5 + 1))]) [0, 1, 2, 3, 4, 5, 6] rfl ?_
            exact ihi5 (by first | lia | grind) w18 w19 w20 u22 hu22 fu22 riu22 (by first | trivial | lia | grind) (by first | trivial | lia | grind)
          · refine g_aload_n dX7_best_57 rfl ?_
            refine g_iload dX7_best_58 rfl ?_
            refine g_iload dX7_best_60 rfl ?_
            refine cl_X7_255 (c := 60) (As := [.int i21, .int i5]) rfl (c_X7_doRow (G := G) hs hu22 riu22  i21 i5 (by first | trivial | decide | lia | grind) (d)) rfl (by omega) rfl rfl (Nat.le_of_ble_eq_true rfl) dX7_best_62 (fun r28 u29 q30 => ?_)
            obtain ⟨⟨x31, rfl, tx31, nx31, zx31⟩, mq30⟩ := q30
            obtain ⟨hu29, gu29, riu29⟩ := mq30
            have fu29 : fk [62] [] u u29 := fk_tr fu22 gu29 (by decide) (by decide)
            have wu29_60_3 : u29.1 60 3 = u22.1 60 3 := fk_at gu29 (by decide)
            have J80 : ∀ (y32 : Int32), uk_G G X mX7_best (d + 4) (q_X7_best u k w) 80 [(0, .ref (uk_ad G 60)), (1, .int k), (2, .int w), (3, .int w18), (4, .int w19), (5, .int w20), (6, .int i5), (7, .int i21), (8, .int y32)] [] u29 := by
              intro y32
              have J95 : ∀ (y33 : Int32), uk_G G X mX7_best (d + 4) (q_X7_best u k w) 95 [(0, .ref (uk_ad G 60)), (1, .int k), (2, .int w), (3, .int w18), (4, .int y33), (5, .int w20), (6, .int i5), (7, .int i21), (8, .int y32)] [] u29 := by
                intro y33
                have J110 : ∀ (y34 : Int32), (0 ≤ y34) → (y34 ≤ 4) → uk_G G X mX7_best (d + 4) (q_X7_best u k w) 110 [(0, .ref (uk_ad G 60)), (1, .int k), (2, .int w), (3, .int w18), (4, .int y33), (5, .int y34), (6, .int i5), (7, .int i21), (8, .int y32)] [] u29 := by
                  intro y34 jj110_0 jj110_1
                  have J123 : ∀ (y35 : Int32), uk_G G X mX7_best (d + 4) (q_X7_best u k w) 123 [(0, .ref (uk_ad G 60)), (1, .int k), (2, .int w), (3, .int y35), (4, .int y33), (5, .int y34), (6, .int i5), (7, .int i21), (8, .int y32)] [] u29 := by
                    intro y35
                    refine g_iinc (v := i21 + 1) dX7_best_123 rfl rfl (by decide) ?_
                    refine g_pick (lv' := [(0, .ref (uk_ad G 60)), (1, .int k), (2, .int w), (3, .int y35), (4, .int y33), (5, .int y34), (6, .int i5), (7, .int (i21 + 1)), (8, .int y32)]) [0, 1, 2, 3, 4, 5, 6, 7, 8] rfl ?_
                    refine g_goto (tgt := 46) dX7_best_126 (by decide) ?_
                    refine g_pick (lv' := [(0, .ref (uk_ad G 60)), (1, .int k), (2, .int w), (3, .int y35), (4, .int y33), (5, .int y34), (6, .int i5), (7, .int (i21 + 1))]) [0, 1, 2, 3, 4, 5, 6, 7] rfl ?_
                    exact ihi21 (by first | lia | grind) y35 y33 y34 u29 hu29 fu29 riu29 (by first | trivial | lia | grind) (by first | trivial | lia | grind)
                  refine g_iload dX7_best_110 rfl ?_
                  refine g_iload_n dX7_best_112 rfl ?_
                  refine g_icmp_le (tgt := 121) dX7_best_113 (by decide) (fun c36 => ?_) (fun c36 => ?_)
                  · refine g_iload_n dX7_best_121 rfl ?_
                    refine g_istore_n dX7_best_122 (by decide) ?_
                    refine g_pick (lv' := [(0, .ref (uk_ad G 60)), (1, .int k), (2, .int w), (3, .int w18), (4, .int y33), (5, .int y34), (6, .int i5), (7, .int i21), (8, .int y32)]) [0, 1, 2, 3, 4, 5, 6, 7, 8] rfl ?_
                    refine g_pick (lv' := [(0, .ref (uk_ad G 60)), (1, .int k), (2, .int w), (3, .int w18), (4, .int y33), (5, .int y34), (6, .int i5), (7, .int i21), (8, .int y32)]) [0, 1, 2, 3, 4, 5, 6, 7, 8] rfl ?_
                    exact J123 w18 
                  · refine g_iload dX7_best_116 rfl ?_
                    refine g_goto (tgt := 122) dX7_best_118 (by decide) ?_
                    refine g_istore_n dX7_best_122 (by decide) ?_
                    refine g_pick (lv' := [(0, .ref (uk_ad G 60)), (1, .int k), (2, .int w), (3, .int y32), (4, .int y33), (5, .int y34), (6, .int i5), (7, .int i21), (8, .int y32)]) [0, 1, 2, 3, 4, 5, 6, 7, 8] rfl ?_
                    refine g_pick (lv' := [(0, .ref (uk_ad G 60)), (1, .int k), (2, .int w), (3, .int y32), (4, .int y33), (5, .int y34), (6, .int i5), (7, .int i21), (8, .int y32)]) [0, 1, 2, 3, 4, 5, 6, 7, 8] rfl ?_
                    exact J123 y32 
                refine g_iload dX7_best_95 rfl ?_
                refine g_iload_n dX7_best_97 rfl ?_
                refine g_icmp_le (tgt := 106) dX7_best_98 (by decide) (fun c37 => ?_) (fun c37 => ?_)
                · refine g_iload dX7_best_106 rfl ?_
                  refine g_istore dX7_best_108 (by decide) ?_
                  refine g_pick (lv' := [(0, .ref (uk_ad G 60)), (1, .int k), (2, .int w), (3, .int w18), (4, .int y33), (5, .int w20), (6, .int i5), (7, .int i21), (8, .int y32)]) [0, 1, 2, 3, 4, 5, 6, 7, 8] rfl ?_
                  refine g_pick (lv' := [(0, .ref (uk_ad G 60)), (1, .int k), (2, .int w), (3, .int w18), (4, .int y33), (5, .int w20), (6, .int i5), (7, .int i21), (8, .int y32)]) [0, 1, 2, 3, 4, 5, 6, 7, 8] rfl ?_
                  exact J110 w20 (by first | trivial | lia | grind) (by first | trivial | lia | grind)
                · refine g_iload dX7_best_101 rfl ?_
                  refine g_goto (tgt := 108) dX7_best_103 (by decide) ?_
                  refine g_istore dX7_best_108 (by decide) ?_
                  refine g_pick (lv' := [(0, .ref (uk_ad G 60)), (1, .int k), (2, .int w), (3, .int w18), (4, .int y33), (5, .int i5), (6, .int i5), (7, .int i21), (8, .int y32)]) [0, 1, 2, 3, 4, 5, 6, 7, 8] rfl ?_
                  refine g_pick (lv' := [(0, .ref (uk_ad G 60)), (1, .int k), (2, .int w), (3, .int w18), (4, .int y33), (5, .int i5), (6, .int i5), (7, .int i21), (8, .int y32)]) [0, 1, 2, 3, 4, 5, 6, 7, 8] rfl ?_
                  exact J110 i5 (by first | trivial | lia | grind) (by first | trivial | lia | grind)
              refine g_iload dX7_best_80 rfl ?_
              refine g_iload_n dX7_best_82 rfl ?_
              refine g_icmp_le (tgt := 91) dX7_best_83 (by decide) (fun c38 => ?_) (fun c38 => ?_)
              · refine g_iload dX7_best_91 rfl ?_
                refine g_istore dX7_best_93 (by decide) ?_
                refine g_pick (lv' := [(0, .ref (uk_ad G 60)), (1, .int k), (2, .int w), (3, .int w18), (4, .int w19), (5, .int w20), (6, .int i5), (7, .int i21), (8, .int y32)]) [0, 1, 2, 3, 4, 5, 6, 7, 8] rfl ?_
                refine g_pick (lv' := [(0, .ref (uk_ad G 60)), (1, .int k), (2, .int w), (3, .int w18), (4, .int w19), (5, .int w20), (6, .int i5), (7, .int i21), (8, .int y32)]) [0, 1, 2, 3, 4, 5, 6, 7, 8] rfl ?_
                exact J95 w19 
              · refine g_iload dX7_best_86 rfl ?_
                refine g_goto (tgt := 93) dX7_best_88 (by decide) ?_
                refine g_istore dX7_best_93 (by decide) ?_
                refine g_pick (lv' := [(0, .ref (uk_ad G 60)), (1, .int k), (2, .int w), (3, .int w18), (4, .int i21), (5, .int w20), (6, .int i5), (7, .int i21), (8, .int y32)]) [0, 1, 2, 3, 4, 5, 6, 7, 8] rfl ?_
                refine g_pick (lv' := [(0, .ref (uk_ad G 60)), (1, .int k), (2, .int w), (3, .int w18), (4, .int i21), (5, .int w20), (6, .int i5), (7, .int i21), (8, .int y32)]) [0, 1, 2, 3, 4, 5, 6, 7, 8] rfl ?_
                exact J95 i21 
            refine g_if_eq (tgt := 77) dX7_best_65 (by decide) (fun c39 => ?_) (fun c39 => ?_)
            · have zc39 := zx31 c39
              refine g_iconst (v := (-1)) dX7_best_77 (by decide) ?_
              refine g_istore dX7_best_78 (by decide) ?_
              refine g_pick (lv' := [(0, .ref (uk_ad G 60)), (1, .int k), (2, .int w), (3, .int w18), (4, .int w19), (5, .int w20), (6, .int i5), (7, .int i21), (8, .int (-1))]) [0, 1, 2, 3, 4, 5, 6, 7, 8] rfl ?_
              refine g_pick (lv' := [(0, .ref (uk_ad G 60)), (1, .int k), (2, .int w), (3, .int w18), (4, .int w19), (5, .int w20), (6, .int i5), (7, .int i21), (8, .int (-1))]) [0, 1, 2, 3, 4, 5, 6, 7, 8] rfl ?_
              exact J80 (-1) 
            · have zc39 := nx31 c39
              refine g_aload_n dX7_best_68 rfl ?_
              refine g_bipush (v := 16) dX7_best_69 (by decide) ?_
              refine cl_X7_258 (c := 60) (As := [.int 16]) rfl (c_X7_allOf (G := G) hs hu29  16 (by first | trivial | decide | lia | grind) (d + 3)) rfl (by omega) rfl rfl (Nat.le_of_ble_eq_true rfl) dX7_best_71 (fun r40 u41 q42 => ?_)
              obtain ⟨⟨x43, rfl, tx43⟩, mq42⟩ := q42
              rw [mq42]
              refine g_goto (tgt := 78) dX7_best_74 (by decide) ?_
              refine g_istore dX7_best_78 (by decide) ?_
              refine g_pick (lv' := [(0, .ref (uk_ad G 60)), (1, .int k), (2, .int w), (3, .int w18), (4, .int w19), (5, .int w20), (6, .int i5), (7, .int i21), (8, .int x43)]) [0, 1, 2, 3, 4, 5, 6, 7, 8] rfl ?_
              refine g_pick (lv' := [(0, .ref (uk_ad G 60)), (1, .int k), (2, .int w), (3, .int w18), (4, .int w19), (5, .int w20), (6, .int i5), (7, .int i21), (8, .int x43)]) [0, 1, 2, 3, 4, 5, 6, 7, 8] rfl ?_
              exact J80 x43 
        refine g_pick (lv' := [(0, .ref (uk_ad G 60)), (1, .int k), (2, .int w), (3, .int w2), (4, .int w3), (5, .int w4), (6, .int i5), (7, .int 0)]) [0, 1, 2, 3, 4, 5, 6, 7] rfl ?_
        exact L46_16 0 (by first | decide | lia | grind) (by first | decide | lia | grind) w2 w3 w4 u6 hu6 fu6 riu6 (by first | trivial | lia | grind) (by first | trivial | lia | grind)
    refine g_pick (lv' := [(0, .ref (uk_ad G 60)), (1, .int k), (2, .int w), (3, .int (-1)), (4, .int 0), (5, .int 0), (6, .int 0)]) [0, 1, 2, 3, 4, 5, 6] rfl ?_
    exact L37_0 0 (by first | decide | lia | grind) (by first | decide | lia | grind) (-1) 0 0 u hu f0 hri (by first | trivial | lia | grind) (by first | trivial | lia | grind)
  refine g_iload_n dX7_best_0 rfl ?_
  refine g_i2l dX7_best_1 ?_
  refine g_lconst (v := 0) dX7_best_2 (by decide) ?_
  refine g_ldc2 (v := 4) k_X7_250 dX7_best_3 ?_
  refine cl_X7_84 (As := [.long k.toInt64, .long 0, .long 4]) rfl (c_X7_in (G := G) hs hu  k 0 4  (d + 3)) rfl (by omega) rfl (Nat.le_of_ble_eq_true rfl) dX7_best_6 (fun r44 u45 q46 => ?_)
  obtain ⟨⟨x47, rfl, tx47, nx47, zx47⟩, mq46⟩ := q46
  rw [mq46]
  refine g_if_eq (tgt := 24) dX7_best_9 (by decide) (fun c48 => ?_) (fun c48 => ?_)
  · have zc48 := zx47 c48
    refine g_iconst (v := (-1)) dX7_best_24 (by decide) ?_
    exact g_iret (ty := .int) dX7_best_25 rfl rfl ⟨⟨_, rfl, by first | trivial | lia | grind⟩, hu, f0, hri⟩
  · have zc48 := nx47 c48
    refine g_iload_n dX7_best_12 rfl ?_
    refine g_iconst (v := 1) dX7_best_13 (by decide) ?_
    refine g_icmp_eq (tgt := 26) dX7_best_14 (by decide) (fun c49 => ?_) (fun c49 => ?_)
    · refine g_pick (lv' := [(0, .ref (uk_ad G 60)), (1, .int k), (2, .int w)]) [0, 1, 2] rfl ?_
      exact J26 (by first | trivial | lia | grind) (by first | trivial | lia | grind)
    · refine g_iload_n dX7_best_17 rfl ?_
      refine cl_X7_252 (As := [.int w]) rfl (c_X7_isAsked (G := G) hs hu  w  (d + 2)) rfl (by omega) rfl (Nat.le_of_ble_eq_true rfl) dX7_best_18 (fun r50 u51 q52 => ?_)
      obtain ⟨⟨x53, rfl, tx53, nx53, zx53⟩, mq52⟩ := q52
      rw [mq52]
      refine g_if_ne (tgt := 26) dX7_best_21 (by decide) (fun c54 => ?_) (fun c54 => ?_)
      · have zc54 := nx53 c54
        refine g_pick (lv' := [(0, .ref (uk_ad G 60)), (1, .int k), (2, .int w)]) [0, 1, 2] rfl ?_
        exact J26 (by first | trivial | lia | grind) (by first | trivial | lia | grind)
      · have zc54 := zx53 c54
        refine g_iconst (v := (-1)) dX7_best_24 (by decide) ?_
        exact g_iret (ty := .int) dX7_best_25 rfl rfl ⟨⟨_, rfl, by first | trivial | lia | grind⟩, hu, f0, hri⟩
/-! the text, pure: runs of bytes, tokens -/
def e32 (c : Int32) : Prop := c = 32
def nam (c : Int32) : Prop := 97 ≤ c ∧ c ≤ 122
def dig (c : Int32) : Prop := 48 ≤ c ∧ c ≤ 57
/-- from p to q all bytes are of the sort P, and in the text -/
def rn (P : Int32 → Prop) (f : Nat → Int32) (n p q : Int32) : Prop := p ≤ q ∧ ∀ i : Int32, p ≤ i → i < q → i < n ∧ P (f i.toNatClampNeg)
theorem rn_0 {P : Int32 → Prop} {f : Nat → Int32} {n p : Int32} : rn P f n p p := ⟨by grind, fun i h1 h2 => absurd h1 (by grind)⟩
theorem rn_up {P : Int32 → Prop} {f : Nat → Int32} {n p q : Int32} (h : rn P f n p q) (hq : q < n) (hn : n ≤ 160) (hP : P (f q.toNatClampNeg)) : rn P f n p (q + 1) := by
  refine ⟨by have := h.1; lia, fun i h1 h2 => ?_⟩
  by_cases e : i = q
  · rw [e]
    exact ⟨hq, hP⟩
  · exact h.2 i h1 (by lia)
theorem rn_uq {P : Int32 → Prop} {f : Nat → Int32} {n p q q' : Int32} (h : rn P f n p q) (e : ¬ (q < n ∧ P (f q.toNatClampNeg))) (h' : rn P f n p q') (e' : ¬ (q' < n ∧ P (f q'.toNatClampNeg))) : q = q' := by
  by_cases a : q < q'
  · exact absurd (h'.2 q h.1 a) e
  · by_cases b : q' < q
    · exact absurd (h.2 q' h'.1 b) e'
    · lia
/-- what figures are worth -/
def vq (f : Nat → Int32) (s q v : Int32) : Prop := (q = s + 1 → v = f s.toNatClampNeg - 48) ∧ (q = s + 2 → v = (f s.toNatClampNeg - 48) * 10 + f (s + 1).toNatClampNeg - 48)
/-- a token: from p on; it starts at s, is of the sort t, worth v, and ends at q -/
def TK (f : Nat → Int32) (n p s t v q : Int32) : Prop :=
  rn e32 f n p s ∧ ¬ (s < n ∧ e32 (f s.toNatClampNeg)) ∧
  ((¬ s < n ∧ t = 0 ∧ q = s) ∨
   (s < n ∧ nam (f s.toNatClampNeg) ∧ t = 1 ∧ rn nam f n s q ∧ ¬ (q < n ∧ nam (f q.toNatClampNeg))) ∨
   (s < n ∧ dig (f s.toNatClampNeg) ∧ rn dig f n s q ∧ ¬ (q < n ∧ dig (f q.toNatClampNeg)) ∧ ((q ≤ s + 2 ∧ t = 2 ∧ vq f s q v) ∨ (s + 2 < q ∧ t = 4))) ∨
   (s < n ∧ f s.toNatClampNeg = 59 ∧ t = 3 ∧ v = 0 ∧ q = s + 1) ∨
   (s < n ∧ ¬ nam (f s.toNatClampNeg) ∧ ¬ dig (f s.toNatClampNeg) ∧ ¬ f s.toNatClampNeg = 59 ∧ t = 4 ∧ q = s + 1))
theorem nd {c : Int32} (h : nam c) (h' : dig c) : False := by
  unfold nam at h
  unfold dig at h'
  grind
theorem n59 {c : Int32} (h : nam c) (h' : c = 59) : False := by
  unfold nam at h
  grind
theorem d59 {c : Int32} (h : dig c) (h' : c = 59) : False := by
  unfold dig at h
  grind
theorem rn_pos {P : Int32 → Prop} {f : Nat → Int32} {n s q : Int32} (h : rn P f n s q) (e : ¬ (q < n ∧ P (f q.toNatClampNeg))) (hs : s < n) (hP : P (f s.toNatClampNeg)) : s < q := by
  by_cases a : s < q
  · exact a
  · have : q = s := by have := h.1; lia
    exact absurd (by rw [this]; exact ⟨hs, hP⟩) e
theorem TK_uq {f : Nat → Int32} {n p s t v q s' t' v' q' : Int32} (hn : n ≤ 160) (h0 : 0 ≤ p) (h : TK f n p s t v q) (h' : TK f n p s' t' v' q') : s = s' ∧ t = t' ∧ (¬ t = 4 → q = q') ∧ (t = 2 ∨ t = 3 → v = v') := by
  obtain ⟨h1, h2, h3⟩ := h
  obtain ⟨g1, g2, g3⟩ := h'
  have es := rn_uq h1 h2 g1 g2
  subst es
  refine ⟨rfl, ?_⟩
  have s0 : 0 ≤ s := by have := h1.1; lia
  rcases h3 with ⟨a, rfl, rfl⟩ | ⟨a, b, rfl, c, d⟩ | ⟨a, b, c, d, e⟩ | ⟨a, b, rfl, rfl, rfl⟩ | ⟨a, b, c, d, rfl, rfl⟩ <;>
    rcases g3 with ⟨a', rfl, rfl⟩ | ⟨a', b', rfl, c', d'⟩ | ⟨a', b', c', d', e'⟩ | ⟨a', b', rfl, rfl, rfl⟩ | ⟨a', b', c', d', rfl, rfl⟩ <;>
    first
    | exact absurd a a' | exact absurd a' a | exact absurd b' (fun z => nd b z) | exact absurd b (fun z => nd z b') | exact absurd b (fun z => nd b' z) | exact absurd b' (fun z => n59 b z) | exact absurd b (fun z => n59 b' z) | exact absurd b' (fun z => d59 b z) | exact absurd b (fun z => d59 b' z) | exact absurd b b' | exact absurd b' b | exact absurd b c' | exact absurd b' c | exact absurd b d' | exact absurd b' d
    | exact ⟨rfl, fun _ => rfl, fun z => by rcases z with z | z <;> first | rfl | exact absurd z (by decide)⟩
    | exact ⟨rfl, fun _ => rn_uq c d c' d', fun z => by rcases z with z | z <;> exact absurd z (by decide)⟩
    | exact ⟨rfl, fun z => absurd rfl z, fun z => by rcases z with z | z <;> exact absurd z (by decide)⟩
    | skip
  have eq := rn_uq c d c' d'
  subst eq
  have hp := rn_pos c d a b
  rcases e with ⟨e1, rfl, e2⟩ | ⟨e1, rfl⟩ <;> rcases e' with ⟨e1', rfl, e2'⟩ | ⟨e1', rfl⟩
  · refine ⟨rfl, fun _ => rfl, fun _ => ?_⟩
    by_cases z : q = s + 1
    · rw [e2.1 z, e2'.1 z]
    · have z2 : q = s + 2 := by lia
      rw [e2.2 z2, e2'.2 z2]
  · exfalso; lia
  · exfalso; lia
  · exact ⟨rfl, fun _ => rfl, fun z => by rcases z with z | z <;> exact absurd z (by decide)⟩
/-- while the token is read: as far as q -/
def TJ (f : Nat → Int32) (n p s t v q : Int32) : Prop :=
  rn e32 f n p s ∧ ¬ (s < n ∧ e32 (f s.toNatClampNeg)) ∧
  ((t = 0 ∧ ¬ s < n ∧ q = s) ∨ (t = 1 ∧ s < n ∧ nam (f s.toNatClampNeg) ∧ rn nam f n s q) ∨ (t = 2 ∧ s < n ∧ dig (f s.toNatClampNeg) ∧ rn dig f n s q ∧ (q = s → v = 0) ∧ vq f s q v))
/-- the sort that a byte begins -/
def tf (c x : Int32) : Prop := (nam c ∧ x = 1) ∨ (dig c ∧ x = 2) ∨ (c = 59 ∧ x = 3) ∨ (¬ nam c ∧ ¬ dig c ∧ ¬ c = 59 ∧ x = 4)
theorem tf_1 {c x : Int32} (h : tf c x) (e : x = 1) : nam c := by
  rcases h with h | h | h | h <;> first | exact h.1 | exact absurd (h.2.symm.trans e) (by decide) | exact absurd (h.2.2.2.symm.trans e) (by decide)
theorem tf_2 {c x : Int32} (h : tf c x) (e : x = 2) : dig c := by
  rcases h with h | h | h | h <;> first | exact absurd (h.2.symm.trans e) (by decide) | exact h.1 | exact absurd (h.2.2.2.symm.trans e) (by decide)
theorem tf_n1 {c x : Int32} (h : tf c x) (e : nam c) : x = 1 := by
  rcases h with h | h | h | h
  · exact h.2
  · exact absurd e (fun z => nd z h.1)
  · exact absurd e (fun z => n59 z h.1)
  · exact absurd e h.1
theorem tf_n2 {c x : Int32} (h : tf c x) (e : dig c) : x = 2 := by
  rcases h with h | h | h | h
  · exact absurd e (fun z => nd h.1 z)
  · exact h.2
  · exact absurd e (fun z => d59 z h.1)
  · exact absurd e h.2.1
theorem TJ_0 {f : Nat → Int32} {n p s v : Int32} (h : rn e32 f n p s) (h2 : ¬ s < n) : TJ f n p s 0 v s := ⟨h, fun z => h2 z.1, Or.inl ⟨rfl, h2, rfl⟩⟩
theorem TJ_12 {f : Nat → Int32} {n p s t : Int32} (h0 : 0 ≤ s) (hn : n ≤ 160) (h : rn e32 f n p s) (h2 : ¬ (s < n ∧ e32 (f s.toNatClampNeg))) (hs : s < n) (ht : tf (f s.toNatClampNeg) t) (h3 : ¬ t = 3) (h4 : ¬ t = 4) : TJ f n p s t 0 s := by
  refine ⟨h, h2, Or.inr ?_⟩
  rcases ht with z | z | z | z
  · exact Or.inl ⟨z.2, hs, z.1, rn_0⟩
  · exact Or.inr ⟨z.2, hs, z.1, rn_0, fun _ => rfl, ⟨fun q => by exfalso; lia, fun q => by exfalso; lia⟩⟩
  · exact absurd z.2 h3
  · exact absurd z.2.2.2 h4
theorem TJ_s {f : Nat → Int32} {n p s t v q c v' q' : Int32} (h : TJ f n p s t v q) (h0 : 0 ≤ s) (hn : n ≤ 160) (hq : q < n) (hc : f q.toNatClampNeg = c) (ht : tf c t) (hv : t = 2 → q ≤ s + 1 → v' = v * 10 + c - 48) (e : q' = q + 1) : TJ f n p s t v' q' := by
  subst e
  obtain ⟨a1, a2, a3⟩ := h
  refine ⟨a1, a2, ?_⟩
  rcases a3 with ⟨rfl, b, rfl⟩ | ⟨rfl, b, b2, b3⟩ | ⟨rfl, b, b2, b3, b4, b5⟩
  · exact absurd hq b
  · exact Or.inr (Or.inl ⟨rfl, b, b2, rn_up b3 hq hn (by rw [hc]; exact tf_1 ht rfl)⟩)
  · refine Or.inr (Or.inr ⟨rfl, b, b2, rn_up b3 hq hn (by rw [hc]; exact tf_2 ht rfl), fun z => by exfalso; have := b3.1; lia, fun z => ?_, fun z => ?_⟩)
    · have e1 : q = s := by lia
      have := hv rfl (by lia)
      rw [b4 e1] at this
      rw [this, ← e1, hc]
      grind
    · have e1 : q = s + 1 := by lia
      have := hv rfl (by lia)
      rw [b5.1 e1] at this
      rw [this, ← e1, hc]
theorem TJ_e {f : Nat → Int32} {n p s t v q t' : Int32} (h : TJ f n p s t v q) (he : ¬ (q < n ∧ tf (f q.toNatClampNeg) t)) (h2 : t = 2 → q ≤ s + 2 → t' = 2) (h4 : t = 2 → s + 2 < q → t' = 4) (h1 : ¬ t = 2 → t' = t) : TK f n p s t' v q := by
  obtain ⟨a1, a2, a3⟩ := h
  refine ⟨a1, a2, ?_⟩
  rcases a3 with ⟨rfl, b, rfl⟩ | ⟨rfl, b, b2, b3⟩ | ⟨rfl, b, b2, b3, b4, b5⟩
  · exact Or.inl ⟨b, h1 (by decide), rfl⟩
  · exact Or.inr (Or.inl ⟨b, b2, h1 (by decide), b3, fun z => he ⟨z.1, Or.inl ⟨z.2, rfl⟩⟩⟩)
  · refine Or.inr (Or.inr (Or.inl ⟨b, b2, b3, fun z => he ⟨z.1, Or.inr (Or.inl ⟨z.2, rfl⟩)⟩, ?_⟩))
    by_cases z : q ≤ s + 2
    · exact Or.inl ⟨z, h2 rfl z, b5⟩
    · exact Or.inr ⟨by lia, h4 rfl (by lia)⟩
theorem TK_3 {f : Nat → Int32} {n p s t v q : Int32} (h : rn e32 f n p s) (h2 : ¬ (s < n ∧ e32 (f s.toNatClampNeg))) (hs : s < n) (ht : tf (f s.toNatClampNeg) t) (h34 : t = 3 ∨ t = 4) (hv : v = 0) (hq : q = s + 1) : TK f n p s t v q := by
  refine ⟨h, h2, Or.inr (Or.inr (Or.inr ?_))⟩
  rcases ht with z | z | z | z
  · rcases h34 with w | w <;> exact absurd (z.2.symm.trans w) (by decide)
  · rcases h34 with w | w <;> exact absurd (z.2.symm.trans w) (by decide)
  · exact Or.inl ⟨hs, z.1, z.2, hv, hq⟩
  · exact Or.inr ⟨hs, z.1, z.2.1, z.2.2.1, z.2.2.2, hq⟩
theorem tf_uq {c x y : Int32} (h : tf c x) (h' : tf c y) : x = y := by
  rcases h' with z | z | z | z
  · exact (tf_n1 h z.1).trans z.2.symm
  · exact (tf_n2 h z.1).trans z.2.symm
  · rcases h with w | w | w | w
    · exact absurd w.1 (fun k => n59 k z.1)
    · exact absurd w.1 (fun k => d59 k z.1)
    · exact w.2.trans z.2.symm
    · exact absurd z.1 w.2.2.1
  · rcases h with w | w | w | w
    · exact absurd w.1 z.1
    · exact absurd w.1 z.2.1
    · exact absurd w.1 z.2.2.1
    · exact w.2.2.2.trans z.2.2.2.symm
/-- a word's letter -/
def chj (j : Nat) (i : Int32) : Int32 := (((((uk_sByt.getD j []).getD i.toNatClampNeg 0) &&& 255).toUInt32 % 65536).toInt32)
def nmp (f : Nat → Int32) (s : Int32) (j : Nat) (k : Int32) : Prop := ∀ i : Int32, 0 ≤ i → i < k → f (s + i).toNatClampNeg = chj j i
/-- from s to q stands the word j -/
def nmj (f : Nat → Int32) (s q : Int32) (j : Nat) : Prop := q - s = Int32.ofNat (uk_sLen.getD j 0) ∧ nmp f s j (Int32.ofNat (uk_sLen.getD j 0))
theorem nmp_0 {f : Nat → Int32} {s : Int32} {j : Nat} : nmp f s j 0 := fun i h0 h1 => absurd h0 (by grind)
theorem nmp_up {f : Nat → Int32} {s k : Int32} {j : Nat} (h : nmp f s j k) (h0 : 0 ≤ k) (h9 : k ≤ 4) (e : f (s + k).toNatClampNeg = chj j k) : nmp f s j (k + 1) := fun i i0 i1 => by
  by_cases z : i = k
  · rw [z]
    exact e
  · exact h i i0 (by lia)
theorem nmp_le {f : Nat → Int32} {s k k' : Int32} {j : Nat} (h : nmp f s j k) (e : k' ≤ k) : nmp f s j k' := fun i i0 i1 => h i i0 (by grind)
theorem nmj_uq {f : Nat → Int32} {s q : Int32} {i j : Nat} (hi : i < 6) (hj : j < 6) (h : nmj f s q i) (h' : nmj f s q j) : i = j := by
  obtain ⟨a, b⟩ := h
  obtain ⟨a', b'⟩ := h'
  have el := a.symm.trans a'
  rcases (show i = 0 ∨ i = 1 ∨ i = 2 ∨ i = 3 ∨ i = 4 ∨ i = 5 by omega) with rfl | rfl | rfl | rfl | rfl | rfl <;> rcases (show j = 0 ∨ j = 1 ∨ j = 2 ∨ j = 3 ∨ j = 4 ∨ j = 5 by omega) with rfl | rfl | rfl | rfl | rfl | rfl <;> first | rfl | exact absurd el (by decide) | exact absurd ((b 0 (by decide) (by decide)).symm.trans (b' 0 (by decide) (by decide))) (by decide) | exact absurd ((b 1 (by decide) (by decide)).symm.trans (b' 1 (by decide) (by decide))) (by decide)
/-- which line a token begins -/
def ln (f : Nat → Int32) (t s q x : Int32) : Prop := (∃ j : Nat, j < 6 ∧ t = 1 ∧ nmj f s q j ∧ x = [4, 0, 1, 2, 3, 5].getD j (0 : Int32)) ∨ ((∀ j : Nat, j < 6 → ¬ (t = 1 ∧ nmj f s q j)) ∧ x = -1)
theorem ln_uq {f : Nat → Int32} {t s q x y : Int32} (h : ln f t s q x) (h' : ln f t s q y) : x = y := by
  rcases h with ⟨j, hj, h1, h2, rfl⟩ | ⟨h1, rfl⟩ <;> rcases h' with ⟨i, hi, g1, g2, rfl⟩ | ⟨g1, rfl⟩
  · rw [nmj_uq hj hi h2 g2]
  · exact absurd ⟨h1, h2⟩ (g1 j hj)
  · exact absurd ⟨g1, g2⟩ (h1 i hi)
  · rfl
theorem rn_cg {P : Int32 → Prop} {f g : Nat → Int32} {n p q : Int32} (h : cpy f g n) (h0 : 0 ≤ p) (hr : rn P f n p q) : rn P g n p q := ⟨hr.1, fun i i0 i1 => by
  have := hr.2 i i0 i1
  rw [← h i (by grind) this.1]
  exact this⟩
theorem TK_cg {f g : Nat → Int32} {n p s t v q : Int32} (h : cpy f g n) (h0 : 0 ≤ p) (hn : n ≤ 160) (hT : TK f n p s t v q) : TK g n p s t v q := by
  obtain ⟨h1, h2, h3⟩ := hT
  have s0 : 0 ≤ s := by have := h1.1; lia
  have en : ∀ (P : Int32 → Prop) (r : Int32), 0 ≤ r → ¬ (r < n ∧ P (f r.toNatClampNeg)) → ¬ (r < n ∧ P (g r.toNatClampNeg)) := fun P r r0 z w => z ⟨w.1, by rw [h r r0 w.1]; exact w.2⟩
  refine ⟨rn_cg h h0 h1, en e32 s s0 h2, ?_⟩
  rcases h3 with ⟨a, b, c⟩ | ⟨a, b, c, d, e⟩ | ⟨a, b, c, d, e⟩ | ⟨a, b, c⟩ | ⟨a, b, c, d, e⟩
  · exact Or.inl ⟨a, b, c⟩
  · exact Or.inr (Or.inl ⟨a, by rw [← h s s0 a]; exact b, c, rn_cg h s0 d, en nam q (by have := d.1; lia) e⟩)
  · refine Or.inr (Or.inr (Or.inl ⟨a, by rw [← h s s0 a]; exact b, rn_cg h s0 c, en dig q (by have := c.1; lia) d, ?_⟩))
    rcases e with ⟨e1, e2, e3⟩ | e
    · refine Or.inl ⟨e1, e2, fun z => ?_, fun z => ?_⟩
      · rw [← h s s0 a]
        exact e3.1 z
      · have z2 := (c.2 (s + 1) (by lia) (by lia)).1
        rw [← h s s0 a, ← h (s + 1) (by lia) z2]
        exact e3.2 z
    · exact Or.inr e
  · exact Or.inr (Or.inr (Or.inr (Or.inl ⟨a, by rw [← h s s0 a]; exact b, c⟩)))
  · exact Or.inr (Or.inr (Or.inr (Or.inr ⟨a, by rw [← h s s0 a]; exact b, by rw [← h s s0 a]; exact c, by rw [← h s s0 a]; exact d, e⟩)))
theorem TK_v {f : Nat → Int32} {n p s t v q : Int32} (hn : n ≤ 160) (h0 : 0 ≤ p) (h : TK f n p s t v q) (ht : t = 2) : 0 ≤ v ∧ v ≤ 99 := by
  obtain ⟨h1, h2, h3⟩ := h
  have s0 : 0 ≤ s := by have := h1.1; lia
  rcases h3 with ⟨a, b, c⟩ | ⟨a, b, c, d, e⟩ | ⟨a, b, c, d, e⟩ | ⟨a, b, c, d⟩ | ⟨a, b, c, d, e, g⟩
  · exact absurd (b.symm.trans ht) (by decide)
  · exact absurd (c.symm.trans ht) (by decide)
  · have hp := rn_pos c d a b
    rcases e with ⟨e1, -, e3⟩ | ⟨e1, e2⟩
    · unfold dig at b
      by_cases z : q = s + 1
      · have := e3.1 z
        grind
      · have z2 : q = s + 2 := by lia
        have w := (c.2 (s + 1) (by lia) (by lia)).2
        unfold dig at w
        have := e3.2 z2
        grind
    · exact absurd (e2.symm.trans ht) (by decide)
  · exact absurd (c.symm.trans ht) (by decide)
  · exact absurd (e.symm.trans ht) (by decide)
theorem TK_0 {f : Nat → Int32} {n p s v : Int32} (h : rn e32 f n p s) (h2 : ¬ s < n) : TK f n p s 0 v s := ⟨h, fun z => h2 z.1, Or.inl ⟨h2, rfl, rfl⟩⟩
theorem TK_le {f : Nat → Int32} {n p s t v q : Int32} (hn : n ≤ 160) (h0 : 0 ≤ p) (h : TK f n p s t v q) : p ≤ s ∧ s ≤ q := by
  obtain ⟨h1, h2, h3⟩ := h
  refine ⟨h1.1, ?_⟩
  have := h1.1
  rcases h3 with ⟨a, b, rfl⟩ | ⟨a, b, c, d, e⟩ | ⟨a, b, c, d, e⟩ | ⟨a, b, c, d, rfl⟩ | ⟨a, b, c, d, e, rfl⟩
  · grind
  · exact d.1
  · exact c.1
  · lia
  · lia
theorem TK_q {f : Nat → Int32} {n p s t v q : Int32} (hn : n ≤ 160) (h0 : 0 ≤ p) (h : TK f n p s t v q) : t = 1 → 0 ≤ s ∧ q ≤ n ∧ n ≤ 160 ∧ s ≤ n := by
  intro ht
  obtain ⟨h1, h2, h3⟩ := h
  have s0 : 0 ≤ s := by have := h1.1; lia
  rcases h3 with ⟨a, b, c⟩ | ⟨a, b, c, d, e⟩ | ⟨a, b, c, d, e⟩ | ⟨a, b, c, d⟩ | ⟨a, b, c, d, e, g⟩
  · exact absurd (b.symm.trans ht) (by decide)
  · refine ⟨s0, ?_, hn, by grind⟩
    have hp := rn_pos d e a b
    have := (d.2 (q - 1) (by lia) (by lia)).1
    lia
  · rcases e with ⟨-, e, -⟩ | ⟨-, e⟩ <;> exact absurd (e.symm.trans ht) (by decide)
  · exact absurd (c.symm.trans ht) (by decide)
  · exact absurd (e.symm.trans ht) (by decide)
theorem nmj_cg {f g : Nat → Int32} {n s q : Int32} {j : Nat} (h : cpy f g n) (hs : 0 ≤ s) (hq : q ≤ n) (hn : n ≤ 160) (hsn : s ≤ n) (hj : j < 6) (hm : nmj f s q j) : nmj g s q j := by
  obtain ⟨a, b⟩ := hm
  refine ⟨a, fun i i0 i1 => ?_⟩
  have sl := (uk_slen hj).2
  have h1 : 0 ≤ s + i ∧ s + i < n := by
    generalize Int32.ofNat (uk_sLen.getD j 0) = w at *
    rcases sl with e | e <;> subst e <;> constructor <;> lia
  rw [← h (s + i) h1.1 h1.2]
  exact b i i0 i1
theorem cpy_sy {f g : Nat → Int32} {n : Int32} (h : cpy f g n) : cpy g f n := fun i i0 i1 => (h i i0 i1).symm
theorem ln_cg {f g : Nat → Int32} {n s q t x : Int32} (h : cpy f g n) (hq : t = 1 → 0 ≤ s ∧ q ≤ n ∧ n ≤ 160 ∧ s ≤ n) (hl : ln f t s q x) : ln g t s q x := by
  rcases hl with ⟨j, hj, h1, h2, h3⟩ | ⟨h1, h2⟩
  · obtain ⟨a, b, c, d⟩ := hq h1
    exact Or.inl ⟨j, hj, h1, nmj_cg h a b c d hj h2, h3⟩
  · refine Or.inr ⟨fun j hj z => ?_, h2⟩
    obtain ⟨a, b, c, d⟩ := hq z.1
    exact h1 j hj ⟨z.1, nmj_cg (cpy_sy h) a b c d hj z.2⟩
abbrev q_X4_tokenFrom_s (u : uk_Mem) (c : Int32) (r : Option Value) (u' : uk_Mem) : Prop := (∃ x : Int32, r = some (.int x) ∧ tf c x) ∧ (u' = u)
set_option maxHeartbeats 4000000 in
set_option maxRecDepth 20000 in
theorem c_X4_tokenFrom_s {G : uk_D} (hs : uk_Sep G) {u : uk_Mem} (hu : iv u) (c : Int32) (d : Nat) : uk_Meth G d mX4_tokenFrom [.int c] u (q_X4_tokenFrom_s u c) := by
  refine uk_Meth.of hs (by decide) (Nat.le_of_ble_eq_true rfl) (fun X => ?_)
  refine g_iload_n dX4_tokenFrom_0 rfl ?_
  refine g_bipush (v := 97) dX4_tokenFrom_1 (by decide) ?_
  refine g_icmp_lt (tgt := 14) dX4_tokenFrom_3 (by decide) (fun c1 => ?_) (fun c1 => ?_)
  · refine g_iload_n dX4_tokenFrom_14 rfl ?_
    refine g_bipush (v := 48) dX4_tokenFrom_15 (by decide) ?_
    refine g_icmp_lt (tgt := 28) dX4_tokenFrom_17 (by decide) (fun c2 => ?_) (fun c2 => ?_)
    · refine g_iload_n dX4_tokenFrom_28 rfl ?_
      refine g_bipush (v := 59) dX4_tokenFrom_29 (by decide) ?_
      refine g_icmp_ne (tgt := 38) dX4_tokenFrom_31 (by decide) (fun c3 => ?_) (fun c3 => ?_)
      · refine g_iconst (v := 4) dX4_tokenFrom_38 (by decide) ?_
        exact g_iret (ty := .int) dX4_tokenFrom_39 rfl rfl ⟨⟨_, rfl, Or.inr (Or.inr (Or.inr ⟨fun z => by unfold nam at z; grind, fun z => by unfold dig at z; grind, by grind, rfl⟩))⟩, rfl⟩
      · refine g_iconst (v := 3) dX4_tokenFrom_34 (by decide) ?_
        refine g_goto (tgt := 39) dX4_tokenFrom_35 (by decide) ?_
        exact g_iret (ty := .int) dX4_tokenFrom_39 rfl rfl ⟨⟨_, rfl, Or.inr (Or.inr (Or.inl ⟨by grind, rfl⟩))⟩, rfl⟩
    · refine g_iload_n dX4_tokenFrom_20 rfl ?_
      refine g_bipush (v := 57) dX4_tokenFrom_21 (by decide) ?_
      refine g_icmp_gt (tgt := 28) dX4_tokenFrom_23 (by decide) (fun c4 => ?_) (fun c4 => ?_)
      · refine g_iload_n dX4_tokenFrom_28 rfl ?_
        refine g_bipush (v := 59) dX4_tokenFrom_29 (by decide) ?_
        refine g_icmp_ne (tgt := 38) dX4_tokenFrom_31 (by decide) (fun c5 => ?_) (fun c5 => ?_)
        · refine g_iconst (v := 4) dX4_tokenFrom_38 (by decide) ?_
          exact g_iret (ty := .int) dX4_tokenFrom_39 rfl rfl ⟨⟨_, rfl, Or.inr (Or.inr (Or.inr ⟨fun z => by unfold nam at z; grind, fun z => by unfold dig at z; grind, by grind, rfl⟩))⟩, rfl⟩
        · refine g_iconst (v := 3) dX4_tokenFrom_34 (by decide) ?_
          refine g_goto (tgt := 39) dX4_tokenFrom_35 (by decide) ?_
          exact g_iret (ty := .int) dX4_tokenFrom_39 rfl rfl ⟨⟨_, rfl, Or.inr (Or.inr (Or.inl ⟨by grind, rfl⟩))⟩, rfl⟩
      · refine g_iconst (v := 2) dX4_tokenFrom_26 (by decide) ?_
        exact g_iret (ty := .int) dX4_tokenFrom_27 rfl rfl ⟨⟨_, rfl, Or.inr (Or.inl ⟨⟨by grind, by grind⟩, rfl⟩)⟩, rfl⟩
  · refine g_iload_n dX4_tokenFrom_6 rfl ?_
    refine g_bipush (v := 122) dX4_tokenFrom_7 (by decide) ?_
    refine g_icmp_gt (tgt := 14) dX4_tokenFrom_9 (by decide) (fun c6 => ?_) (fun c6 => ?_)
    · refine g_iload_n dX4_tokenFrom_14 rfl ?_
      refine g_bipush (v := 48) dX4_tokenFrom_15 (by decide) ?_
      refine g_icmp_lt (tgt := 28) dX4_tokenFrom_17 (by decide) (fun c7 => ?_) (fun c7 => ?_)
      · refine g_iload_n dX4_tokenFrom_28 rfl ?_
        refine g_bipush (v := 59) dX4_tokenFrom_29 (by decide) ?_
        refine g_icmp_ne (tgt := 38) dX4_tokenFrom_31 (by decide) (fun c8 => ?_) (fun c8 => ?_)
        · refine g_iconst (v := 4) dX4_tokenFrom_38 (by decide) ?_
          exact g_iret (ty := .int) dX4_tokenFrom_39 rfl rfl ⟨⟨_, rfl, Or.inr (Or.inr (Or.inr ⟨fun z => by unfold nam at z; grind, fun z => by unfold dig at z; grind, by grind, rfl⟩))⟩, rfl⟩
        · refine g_iconst (v := 3) dX4_tokenFrom_34 (by decide) ?_
          refine g_goto (tgt := 39) dX4_tokenFrom_35 (by decide) ?_
          exact g_iret (ty := .int) dX4_tokenFrom_39 rfl rfl ⟨⟨_, rfl, Or.inr (Or.inr (Or.inl ⟨by grind, rfl⟩))⟩, rfl⟩
      · refine g_iload_n dX4_tokenFrom_20 rfl ?_
        refine g_bipush (v := 57) dX4_tokenFrom_21 (by decide) ?_
        refine g_icmp_gt (tgt := 28) dX4_tokenFrom_23 (by decide) (fun c9 => ?_) (fun c9 => ?_)
        · refine g_iload_n dX4_tokenFrom_28 rfl ?_
          refine g_bipush (v := 59) dX4_tokenFrom_29 (by decide) ?_
          refine g_icmp_ne (tgt := 38) dX4_tokenFrom_31 (by decide) (fun c10 => ?_) (fun c10 => ?_)
          · refine g_iconst (v := 4) dX4_tokenFrom_38 (by decide) ?_
            exact g_iret (ty := .int) dX4_tokenFrom_39 rfl rfl ⟨⟨_, rfl, Or.inr (Or.inr (Or.inr ⟨fun z => by unfold nam at z; grind, fun z => by unfold dig at z; grind, by grind, rfl⟩))⟩, rfl⟩
          · refine g_iconst (v := 3) dX4_tokenFrom_34 (by decide) ?_
            refine g_goto (tgt := 39) dX4_tokenFrom_35 (by decide) ?_
            exact g_iret (ty := .int) dX4_tokenFrom_39 rfl rfl ⟨⟨_, rfl, Or.inr (Or.inr (Or.inl ⟨by grind, rfl⟩))⟩, rfl⟩
        · refine g_iconst (v := 2) dX4_tokenFrom_26 (by decide) ?_
          exact g_iret (ty := .int) dX4_tokenFrom_27 rfl rfl ⟨⟨_, rfl, Or.inr (Or.inl ⟨⟨by grind, by grind⟩, rfl⟩)⟩, rfl⟩
    · refine g_iconst (v := 1) dX4_tokenFrom_12 (by decide) ?_
      exact g_iret (ty := .int) dX4_tokenFrom_13 rfl rfl ⟨⟨_, rfl, Or.inl ⟨⟨by grind, by grind⟩, rfl⟩⟩, rfl⟩
abbrev q_X4_readToken_s (u : uk_Mem)  (r : Option Value) (u' : uk_Mem) : Prop := (r = none) ∧ (iv u' ∧ fr 2 3 u u' ∧ u'.1 2 1 = u.1 2 1 ∧ TK (u.1 3) (u.1 2 1) (u.1 2 2) (u'.1 2 4) (u'.1 2 3) (u'.1 2 5) (u'.1 2 2))
set_option maxHeartbeats 4000000 in
set_option maxRecDepth 20000 in
theorem c_X4_readToken_s {G : uk_D} (hs : uk_Sep G) {u : uk_Mem} (hu : iv u)  (d : Nat) : uk_Meth G (d + 1) mX4_readToken [.ref (uk_ad G 2)] u (q_X4_readToken_s u) := by
  refine uk_Meth.of hs (by decide) (Nat.le_of_ble_eq_true rfl) (fun X => ?_)
  have f0 : fr 2 3 u u := fr_rf
  obtain ⟨t1, Tt1⟩ : ∃ t, u.1 2 1 = t := ⟨_, rfl⟩
  obtain ⟨t2, Tt2⟩ : ∃ t, u.1 2 2 = t := ⟨_, rfl⟩
  obtain ⟨t3, Tt3⟩ : ∃ t, u.1 2 3 = t := ⟨_, rfl⟩
  obtain ⟨t4, Tt4⟩ : ∃ t, u.1 2 4 = t := ⟨_, rfl⟩
  obtain ⟨t5, Tt5⟩ : ∃ t, u.1 2 5 = t := ⟨_, rfl⟩
  have L0_5 : ∀ i7 : Int32, 0 ≤ i7 → i7 ≤ 160 → ∀ (u8 : uk_Mem), iv u8 → fr 2 3 u u8 → u8.1 2 2 = i7 → u8.1 2 1 = u.1 2 1 → rn e32 (u.1 3) (u.1 2 1) (u.1 2 2) (u8.1 2 2) → uk_G G X mX4_readToken (d + 1) (q_X4_readToken_s u) 0 [(0, .ref (uk_ad G 2))] [] u8 := by
    refine uk_upl 160 ?_
    intro i7 ai7 bi7 ihi7  u8 hu8 fu8 ki7 ji70 ji71
    obtain ⟨t9, Tt9⟩ : ∃ t, u8.1 2 1 = t := ⟨_, rfl⟩
    have Rt9 : 0 ≤ t9 ∧ t9 ≤ 160 := by rw [← Tt9]; exact iv_at hu8 _ _ rfl
    obtain ⟨t10, Tt10⟩ : ∃ t, u8.1 2 3 = t := ⟨_, rfl⟩
    obtain ⟨t11, Tt11⟩ : ∃ t, u8.1 2 4 = t := ⟨_, rfl⟩
    have Rt11 : 0 ≤ t11 ∧ t11 ≤ 160 := by rw [← Tt11]; exact iv_at hu8 _ _ rfl
    obtain ⟨t12, Tt12⟩ : ∃ t, u8.1 2 5 = t := ⟨_, rfl⟩
    refine g_aload_n dX4_readToken_0 rfl ?_
    refine f_X4_19 rfl rfl dX4_readToken_1 ?_
    refine g_topi (fun x13 ex13 => ?_)
    have rx13 : 0 ≤ x13 ∧ x13 ≤ 160 := by rw [ex13]; exact iv_at hu8 _ _ rfl
    have qx13 : x13 = i7 := ex13.trans ki7
    refine g_aload_n dX4_readToken_4 rfl ?_
    refine f_X4_15 rfl rfl dX4_readToken_5 ?_
    refine g_topi (fun x14 ex14 => ?_)
    have rx14 : 0 ≤ x14 ∧ x14 ≤ 160 := by rw [ex14]; exact iv_at hu8 _ _ rfl
    have qx14 : x14 = t9 := ex14.trans Tt9
    refine g_icmp_ge (tgt := 38) dX4_readToken_8 (by decide) (fun c15 => ?_) (fun c15 => ?_)
    · have sz0 : u8.1 2 1 = u.1 2 1 := ji70
      have RN : rn e32 (u.1 3) (u.1 2 1) (u.1 2 2) i7 := by rw [← ki7]; exact ji71
      have NN : ¬ (i7 < u.1 2 1 ∧ e32 (u.1 3 i7.toNatClampNeg)) := fun z => by have z1 := z.1; have z2 := z.2; unfold e32 at z2; grind
      refine g_aload_n dX4_readToken_38 rfl ?_
      refine g_aload_n dX4_readToken_39 rfl ?_
      refine f_X4_19 rfl rfl dX4_readToken_40 ?_
      refine g_topi (fun x16 ex16 => ?_)
      have rx16 : 0 ≤ x16 ∧ x16 ≤ 160 := by rw [ex16]; exact iv_at hu8 _ _ rfl
      have qx16 : x16 = i7 := ex16.trans ki7
      refine p_X4_25 rfl rfl dX4_readToken_43 ?_
      refine g_mem (fun u17 eu17 => ?_)
      have hu17 : iv u17 := by rw [eu17]; exact iv_up hu8 rfl (by first | lia | grind) (by first | lia | grind)
      have fu17 : fr 2 3 u u17 := by rw [eu17]; exact fr_up fu8 (by omega) (by omega)
      have s18 : u17.1 2 4 = x16 := by rw [eu17, uk_up_at]; exact if_pos ⟨rfl, rfl⟩
      have T19 : u17.1 2 1 = t9 := by rw [eu17, uk_up_at, if_neg (by decide)]; exact Tt9
      have T20 : u17.1 2 2 = i7 := by rw [eu17, uk_up_at, if_neg (by decide)]; exact ki7
      have T21 : u17.1 2 3 = t10 := by rw [eu17, uk_up_at, if_neg (by decide)]; exact Tt10
      have T22 : u17.1 2 5 = t12 := by rw [eu17, uk_up_at, if_neg (by decide)]; exact Tt12
      refine g_aload_n dX4_readToken_46 rfl ?_
      refine g_iconst (v := 0) dX4_readToken_47 (by decide) ?_
      refine p_X4_28 rfl rfl dX4_readToken_48 ?_
      refine g_mem (fun u23 eu23 => ?_)
      have hu23 : iv u23 := by rw [eu23]; exact iv_upF hu17 rfl
      have fu23 : fr 2 3 u u23 := by rw [eu23]; exact fr_up fu17 (by omega) (by omega)
      have s24 : u23.1 2 5 = 0 := by rw [eu23, uk_up_at]; exact if_pos ⟨rfl, rfl⟩
      have T25 : u23.1 2 1 = t9 := by rw [eu23, uk_up_at, if_neg (by decide)]; exact T19
      have T26 : u23.1 2 2 = i7 := by rw [eu23, uk_up_at, if_neg (by decide)]; exact T20
      have T27 : u23.1 2 3 = t10 := by rw [eu23, uk_up_at, if_neg (by decide)]; exact T21
      have T28 : u23.1 2 4 = x16 := by rw [eu23, uk_up_at, if_neg (by decide)]; exact s18
      refine g_aload_n dX4_readToken_51 rfl ?_
      refine g_aload_n dX4_readToken_52 rfl ?_
      refine f_X4_19 rfl rfl dX4_readToken_53 ?_
      refine g_topi (fun x29 ex29 => ?_)
      have rx29 : 0 ≤ x29 ∧ x29 ≤ 160 := by rw [ex29]; exact iv_at hu23 _ _ rfl
      have qx29 : x29 = i7 := ex29.trans T26
      refine g_aload_n dX4_readToken_56 rfl ?_
      refine f_X4_15 rfl rfl dX4_readToken_57 ?_
      refine g_topi (fun x30 ex30 => ?_)
      have rx30 : 0 ≤ x30 ∧ x30 ≤ 160 := by rw [ex30]; exact iv_at hu23 _ _ rfl
      have qx30 : x30 = t9 := ex30.trans T25
      refine g_icmp_ge (tgt := 78) dX4_readToken_60 (by decide) (fun c31 => ?_) (fun c31 => ?_)
      · refine g_iconst (v := 0) dX4_readToken_78 (by decide) ?_
        refine p_X4_22 rfl rfl dX4_readToken_79 ?_
        refine g_mem (fun u32 eu32 => ?_)
        have hu32 : iv u32 := by rw [eu32]; exact iv_upF hu23 rfl
        have fu32 : fr 2 3 u u32 := by rw [eu32]; exact fr_up fu23 (by omega) (by omega)
        have s33 : u32.1 2 3 = 0 := by rw [eu32, uk_up_at]; exact if_pos ⟨rfl, rfl⟩
        have T34 : u32.1 2 1 = t9 := by rw [eu32, uk_up_at, if_neg (by decide)]; exact T25
        have T35 : u32.1 2 2 = i7 := by rw [eu32, uk_up_at, if_neg (by decide)]; exact T26
        have T36 : u32.1 2 4 = x16 := by rw [eu32, uk_up_at, if_neg (by decide)]; exact T28
        have T37 : u32.1 2 5 = 0 := by rw [eu32, uk_up_at, if_neg (by decide)]; exact s24
        refine g_aload_n dX4_readToken_82 rfl ?_
        refine f_X4_22 rfl rfl dX4_readToken_83 ?_
        refine g_topi (fun x38 ex38 => ?_)
        have qx38 : x38 = 0 := ex38.trans s33
        refine g_iconst (v := 3) dX4_readToken_86 (by decide) ?_
        refine g_icmp_eq (tgt := 98) dX4_readToken_87 (by decide) (fun c39 => ?_) (fun c39 => ?_)
        · refine g_aload_n dX4_readToken_98 rfl ?_
          refine g_dup dX4_readToken_99 rfl ?_
          refine f_X4_19 rfl rfl dX4_readToken_100 ?_
          refine g_topi (fun x40 ex40 => ?_)
          have rx40 : 0 ≤ x40 ∧ x40 ≤ 160 := by rw [ex40]; exact iv_at hu32 _ _ rfl
          have qx40 : x40 = i7 := ex40.trans T35
          refine g_iconst (v := 1) dX4_readToken_103 (by decide) ?_
          refine g_iadd dX4_readToken_104 ?_
          refine g_topi (fun x41 ex41 => ?_)
          refine p_X4_19 rfl rfl dX4_readToken_105 ?_
          refine g_mem (fun u42 eu42 => ?_)
          have hu42 : iv u42 := by rw [eu42]; exact iv_up hu32 rfl (by first | lia | grind) (by first | lia | grind)
          have fu42 : fr 2 3 u u42 := by rw [eu42]; exact fr_up fu32 (by omega) (by omega)
          have s43 : u42.1 2 2 = x41 := by rw [eu42, uk_up_at]; exact if_pos ⟨rfl, rfl⟩
          have T44 : u42.1 2 1 = t9 := by rw [eu42, uk_up_at, if_neg (by decide)]; exact T34
          have T45 : u42.1 2 3 = 0 := by rw [eu42, uk_up_at, if_neg (by decide)]; exact s33
          have T46 : u42.1 2 4 = x16 := by rw [eu42, uk_up_at, if_neg (by decide)]; exact T36
          have T47 : u42.1 2 5 = 0 := by rw [eu42, uk_up_at, if_neg (by decide)]; exact T37
          exact g_vret dX4_readToken_108 rfl ⟨rfl, hu42, fu42, (T44.trans (Tt9.symm.trans ji70)), (by exfalso; grind)⟩
        · refine g_aload_n dX4_readToken_90 rfl ?_
          refine f_X4_22 rfl rfl dX4_readToken_91 ?_
          refine g_topi (fun x48 ex48 => ?_)
          have qx48 : x48 = 0 := ex48.trans s33
          refine g_iconst (v := 4) dX4_readToken_94 (by decide) ?_
          refine g_icmp_ne (tgt := 109) dX4_readToken_95 (by decide) (fun c49 => ?_) (fun c49 => ?_)
          · have L109_49 : ∀ i51 : Int32, 0 ≤ i51 → i51 ≤ 160 → ∀ (u52 : uk_Mem), iv u52 → fr 2 3 u u52 → u52.1 2 2 = i51 → u52.1 2 1 = u.1 2 1 → TJ (u.1 3) (u.1 2 1) (u.1 2 2) (u52.1 2 4) (u52.1 2 3) (u52.1 2 5) (u52.1 2 2) → uk_G G X mX4_readToken (d + 1) (q_X4_readToken_s u) 109 [(0, .ref (uk_ad G 2))] [] u52 := by
              refine uk_upl 160 ?_
              intro i51 ai51 bi51 ihi51  u52 hu52 fu52 ki51 ji510 ji511
              obtain ⟨t53, Tt53⟩ : ∃ t, u52.1 2 1 = t := ⟨_, rfl⟩
              have Rt53 : 0 ≤ t53 ∧ t53 ≤ 160 := by rw [← Tt53]; exact iv_at hu52 _ _ rfl
              obtain ⟨t54, Tt54⟩ : ∃ t, u52.1 2 3 = t := ⟨_, rfl⟩
              obtain ⟨t55, Tt55⟩ : ∃ t, u52.1 2 4 = t := ⟨_, rfl⟩
              have Rt55 : 0 ≤ t55 ∧ t55 ≤ 160 := by rw [← Tt55]; exact iv_at hu52 _ _ rfl
              obtain ⟨t56, Tt56⟩ : ∃ t, u52.1 2 5 = t := ⟨_, rfl⟩
              refine g_aload_n dX4_readToken_109 rfl ?_
              refine f_X4_19 rfl rfl dX4_readToken_110 ?_
              refine g_topi (fun x57 ex57 => ?_)
              have rx57 : 0 ≤ x57 ∧ x57 ≤ 160 := by rw [ex57]; exact iv_at hu52 _ _ rfl
              have qx57 : x57 = i51 := ex57.trans ki51
              have hj : TJ (u.1 3) (u.1 2 1) (u.1 2 2) t55 t54 t56 i51 := by rw [← Tt55, ← Tt54, ← Tt56, ← ki51]; exact ji511
              refine g_aload_n dX4_readToken_113 rfl ?_
              refine f_X4_15 rfl rfl dX4_readToken_114 ?_
              refine g_topi (fun x58 ex58 => ?_)
              have rx58 : 0 ≤ x58 ∧ x58 ≤ 160 := by rw [ex58]; exact iv_at hu52 _ _ rfl
              have qx58 : x58 = t53 := ex58.trans Tt53
              refine g_icmp_ge (tgt := 188) dX4_readToken_117 (by decide) (fun c59 => ?_) (fun c59 => ?_)
              · have EX : ¬ (i51 < u.1 2 1 ∧ tf (u.1 3 i51.toNatClampNeg) t54) := fun z => by have z1 := z.1; grind
                refine g_aload_n dX4_readToken_188 rfl ?_
                refine f_X4_22 rfl rfl dX4_readToken_189 ?_
                refine g_topi (fun x60 ex60 => ?_)
                have qx60 : x60 = t54 := ex60.trans Tt54
                refine g_iconst (v := 2) dX4_readToken_192 (by decide) ?_
                refine g_icmp_ne (tgt := 214) dX4_readToken_193 (by decide) (fun c61 => ?_) (fun c61 => ?_)
                · exact g_vret dX4_readToken_214 rfl ⟨rfl, hu52, fu52, (Tt53.trans (Tt53.symm.trans ji510)), (by rw [Tt55, Tt54, Tt56, ki51]; exact TJ_e hj EX (fun z1 z2 => by grind) (fun z1 z2 => by grind) (fun z1 => by grind))⟩
                · refine g_aload_n dX4_readToken_196 rfl ?_
                  refine f_X4_19 rfl rfl dX4_readToken_197 ?_
                  refine g_topi (fun x62 ex62 => ?_)
                  have rx62 : 0 ≤ x62 ∧ x62 ≤ 160 := by rw [ex62]; exact iv_at hu52 _ _ rfl
                  have qx62 : x62 = i51 := ex62.trans ki51
                  refine g_aload_n dX4_readToken_200 rfl ?_
                  refine f_X4_25 rfl rfl dX4_readToken_201 ?_
                  refine g_topi (fun x63 ex63 => ?_)
                  have rx63 : 0 ≤ x63 ∧ x63 ≤ 160 := by rw [ex63]; exact iv_at hu52 _ _ rfl
                  have qx63 : x63 = t55 := ex63.trans Tt55
                  refine g_isub dX4_readToken_204 ?_
                  refine g_topi (fun x64 ex64 => ?_)
                  refine g_iconst (v := 2) dX4_readToken_205 (by decide) ?_
                  refine g_icmp_le (tgt := 214) dX4_readToken_206 (by decide) (fun c65 => ?_) (fun c65 => ?_)
                  · exact g_vret dX4_readToken_214 rfl ⟨rfl, hu52, fu52, (Tt53.trans (Tt53.symm.trans ji510)), (by rw [Tt55, Tt54, Tt56, ki51]; exact TJ_e hj EX (fun z1 z2 => by grind) (fun z1 z2 => by grind) (fun z1 => by grind))⟩
                  · refine g_aload_n dX4_readToken_209 rfl ?_
                    refine g_iconst (v := 4) dX4_readToken_210 (by decide) ?_
                    refine p_X4_22 rfl rfl dX4_readToken_211 ?_
                    refine g_mem (fun u66 eu66 => ?_)
                    have hu66 : iv u66 := by rw [eu66]; exact iv_upF hu52 rfl
                    have fu66 : fr 2 3 u u66 := by rw [eu66]; exact fr_up fu52 (by omega) (by omega)
                    have s67 : u66.1 2 3 = 4 := by rw [eu66, uk_up_at]; exact if_pos ⟨rfl, rfl⟩
                    have T68 : u66.1 2 1 = t53 := by rw [eu66, uk_up_at, if_neg (by decide)]; exact Tt53
                    have T69 : u66.1 2 2 = i51 := by rw [eu66, uk_up_at, if_neg (by decide)]; exact ki51
                    have T70 : u66.1 2 4 = t55 := by rw [eu66, uk_up_at, if_neg (by decide)]; exact Tt55
                    have T71 : u66.1 2 5 = t56 := by rw [eu66, uk_up_at, if_neg (by decide)]; exact Tt56
                    exact g_vret dX4_readToken_214 rfl ⟨rfl, hu66, fu66, (T68.trans (Tt53.symm.trans ji510)), (by rw [T70, s67, T71, T69]; exact TJ_e hj EX (fun z1 z2 => by grind) (fun z1 z2 => by grind) (fun z1 => by grind))⟩
              · refine g_aload_n dX4_readToken_120 rfl ?_
                refine f_X4_9 rfl rfl dX4_readToken_121 ?_
                refine g_aload_n dX4_readToken_124 rfl ?_
                refine f_X4_19 rfl rfl dX4_readToken_125 ?_
                refine g_topi (fun x72 ex72 => ?_)
                have rx72 : 0 ≤ x72 ∧ x72 ≤ 160 := by rw [ex72]; exact iv_at hu52 _ _ rfl
                have qx72 : x72 = i51 := ex72.trans ki51
                have v73 : vp_in x72 160 := uk_vin 160 rfl (by first | decide | lia | grind) (by first | decide | lia | grind)
                refine g_bald rfl rfl v73 dX4_readToken_128 ?_
                refine g_topi (fun x74 ex74 => ?_)
                have lx74 : x74 = u.1 3 (i51 : Int32).toNatClampNeg := by rw [ex74, show (x72 : Int32) = i51 by grind]; exact congrFun (fu52.1 3 (by omega)) _
                refine cl_X4_31 (As := [.int x74]) rfl (c_X4_tokenFrom_s (G := G) hs hu52  x74  (d)) rfl (by omega) rfl (Nat.le_of_ble_eq_true rfl) dX4_readToken_129 (fun r75 u76 q77 => ?_)
                obtain ⟨⟨x78, rfl, tx78⟩, mq77⟩ := q77
                rw [mq77]
                refine g_aload_n dX4_readToken_132 rfl ?_
                refine f_X4_22 rfl rfl dX4_readToken_133 ?_
                refine g_topi (fun x79 ex79 => ?_)
                have qx79 : x79 = t54 := ex79.trans Tt54
                refine g_icmp_ne (tgt := 188) dX4_readToken_136 (by decide) (fun c80 => ?_) (fun c80 => ?_)
                · have EX : ¬ (i51 < u.1 2 1 ∧ tf (u.1 3 i51.toNatClampNeg) t54) := fun z => absurd (tf_uq tx78 (by rw [lx74]; exact z.2)) (by grind)
                  refine g_aload_n dX4_readToken_188 rfl ?_
                  refine f_X4_22 rfl rfl dX4_readToken_189 ?_
                  refine g_topi (fun x81 ex81 => ?_)
                  have qx81 : x81 = t54 := ex81.trans Tt54
                  refine g_iconst (v := 2) dX4_readToken_192 (by decide) ?_
                  refine g_icmp_ne (tgt := 214) dX4_readToken_193 (by decide) (fun c82 => ?_) (fun c82 => ?_)
                  · exact g_vret dX4_readToken_214 rfl ⟨rfl, hu52, fu52, (Tt53.trans (Tt53.symm.trans ji510)), (by rw [Tt55, Tt54, Tt56, ki51]; exact TJ_e hj EX (fun z1 z2 => by grind) (fun z1 z2 => by grind) (fun z1 => by grind))⟩
                  · refine g_aload_n dX4_readToken_196 rfl ?_
                    refine f_X4_19 rfl rfl dX4_readToken_197 ?_
                    refine g_topi (fun x83 ex83 => ?_)
                    have rx83 : 0 ≤ x83 ∧ x83 ≤ 160 := by rw [ex83]; exact iv_at hu52 _ _ rfl
                    have qx83 : x83 = i51 := ex83.trans ki51
                    refine g_aload_n dX4_readToken_200 rfl ?_
                    refine f_X4_25 rfl rfl dX4_readToken_201 ?_
                    refine g_topi (fun x84 ex84 => ?_)
                    have rx84 : 0 ≤ x84 ∧ x84 ≤ 160 := by rw [ex84]; exact iv_at hu52 _ _ rfl
                    have qx84 : x84 = t55 := ex84.trans Tt55
                    refine g_isub dX4_readToken_204 ?_
                    refine g_topi (fun x85 ex85 => ?_)
                    refine g_iconst (v := 2) dX4_readToken_205 (by decide) ?_
                    refine g_icmp_le (tgt := 214) dX4_readToken_206 (by decide) (fun c86 => ?_) (fun c86 => ?_)
                    · exact g_vret dX4_readToken_214 rfl ⟨rfl, hu52, fu52, (Tt53.trans (Tt53.symm.trans ji510)), (by rw [Tt55, Tt54, Tt56, ki51]; exact TJ_e hj EX (fun z1 z2 => by grind) (fun z1 z2 => by grind) (fun z1 => by grind))⟩
                    · refine g_aload_n dX4_readToken_209 rfl ?_
                      refine g_iconst (v := 4) dX4_readToken_210 (by decide) ?_
                      refine p_X4_22 rfl rfl dX4_readToken_211 ?_
                      refine g_mem (fun u87 eu87 => ?_)
                      have hu87 : iv u87 := by rw [eu87]; exact iv_upF hu52 rfl
                      have fu87 : fr 2 3 u u87 := by rw [eu87]; exact fr_up fu52 (by omega) (by omega)
                      have s88 : u87.1 2 3 = 4 := by rw [eu87, uk_up_at]; exact if_pos ⟨rfl, rfl⟩
                      have T89 : u87.1 2 1 = t53 := by rw [eu87, uk_up_at, if_neg (by decide)]; exact Tt53
                      have T90 : u87.1 2 2 = i51 := by rw [eu87, uk_up_at, if_neg (by decide)]; exact ki51
                      have T91 : u87.1 2 4 = t55 := by rw [eu87, uk_up_at, if_neg (by decide)]; exact Tt55
                      have T92 : u87.1 2 5 = t56 := by rw [eu87, uk_up_at, if_neg (by decide)]; exact Tt56
                      exact g_vret dX4_readToken_214 rfl ⟨rfl, hu87, fu87, (T89.trans (Tt53.symm.trans ji510)), (by rw [T91, s88, T92, T90]; exact TJ_e hj EX (fun z1 z2 => by grind) (fun z1 z2 => by grind) (fun z1 => by grind))⟩
                · refine g_aload_n dX4_readToken_139 rfl ?_
                  refine g_aload_n dX4_readToken_140 rfl ?_
                  refine f_X4_22 rfl rfl dX4_readToken_141 ?_
                  refine g_topi (fun x93 ex93 => ?_)
                  have qx93 : x93 = t54 := ex93.trans Tt54
                  refine g_iconst (v := 2) dX4_readToken_144 (by decide) ?_
                  refine g_icmp_ne (tgt := 171) dX4_readToken_145 (by decide) (fun c94 => ?_) (fun c94 => ?_)
                  · refine g_iconst (v := 0) dX4_readToken_171 (by decide) ?_
                    refine p_X4_28 rfl rfl dX4_readToken_172 ?_
                    refine g_mem (fun u95 eu95 => ?_)
                    have hu95 : iv u95 := by rw [eu95]; exact iv_upF hu52 rfl
                    have fu95 : fr 2 3 u u95 := by rw [eu95]; exact fr_up fu52 (by omega) (by omega)
                    have s96 : u95.1 2 5 = 0 := by rw [eu95, uk_up_at]; exact if_pos ⟨rfl, rfl⟩
                    have T97 : u95.1 2 1 = t53 := by rw [eu95, uk_up_at, if_neg (by decide)]; exact Tt53
                    have T98 : u95.1 2 2 = i51 := by rw [eu95, uk_up_at, if_neg (by decide)]; exact ki51
                    have T99 : u95.1 2 3 = t54 := by rw [eu95, uk_up_at, if_neg (by decide)]; exact Tt54
                    have T100 : u95.1 2 4 = t55 := by rw [eu95, uk_up_at, if_neg (by decide)]; exact Tt55
                    refine g_aload_n dX4_readToken_175 rfl ?_
                    refine g_dup dX4_readToken_176 rfl ?_
                    refine f_X4_19 rfl rfl dX4_readToken_177 ?_
                    refine g_topi (fun x101 ex101 => ?_)
                    have rx101 : 0 ≤ x101 ∧ x101 ≤ 160 := by rw [ex101]; exact iv_at hu95 _ _ rfl
                    have qx101 : x101 = i51 := ex101.trans T98
                    refine g_iconst (v := 1) dX4_readToken_180 (by decide) ?_
                    refine g_iadd dX4_readToken_181 ?_
                    refine g_topi (fun x102 ex102 => ?_)
                    refine p_X4_19 rfl rfl dX4_readToken_182 ?_
                    refine g_mem (fun u103 eu103 => ?_)
                    have hu103 : iv u103 := by rw [eu103]; exact iv_up hu95 rfl (by first | lia | grind) (by first | lia | grind)
                    have fu103 : fr 2 3 u u103 := by rw [eu103]; exact fr_up fu95 (by omega) (by omega)
                    have s104 : u103.1 2 2 = x102 := by rw [eu103, uk_up_at]; exact if_pos ⟨rfl, rfl⟩
                    have T105 : u103.1 2 1 = t53 := by rw [eu103, uk_up_at, if_neg (by decide)]; exact T97
                    have T106 : u103.1 2 3 = t54 := by rw [eu103, uk_up_at, if_neg (by decide)]; exact T99
                    have T107 : u103.1 2 4 = t55 := by rw [eu103, uk_up_at, if_neg (by decide)]; exact T100
                    have T108 : u103.1 2 5 = 0 := by rw [eu103, uk_up_at, if_neg (by decide)]; exact s96
                    refine g_goto (tgt := 109) dX4_readToken_185 (by decide) ?_
                    refine g_pick (lv' := [(0, .ref (uk_ad G 2))]) [0] rfl ?_
                    exact ihi51 (by first | lia | grind) u103 hu103 fu103 (s104.trans (by first | lia | grind)) (T105.trans (Tt53.symm.trans ji510)) (by rw [T107, T106, T108, s104]; exact TJ_s hj (by grind) (by grind) (by grind) lx74.symm (by rw [show t54 = x78 by grind]; exact tx78) (fun z z9 => by grind) (by grind))
                  · refine g_aload_n dX4_readToken_148 rfl ?_
                    refine f_X4_28 rfl rfl dX4_readToken_149 ?_
                    refine g_topi (fun x109 ex109 => ?_)
                    have qx109 : x109 = t56 := ex109.trans Tt56
                    refine g_bipush (v := 10) dX4_readToken_152 (by decide) ?_
                    refine g_imul dX4_readToken_154 ?_
                    refine g_topi (fun x110 ex110 => ?_)
                    refine g_aload_n dX4_readToken_155 rfl ?_
                    refine f_X4_9 rfl rfl dX4_readToken_156 ?_
                    refine g_aload_n dX4_readToken_159 rfl ?_
                    refine f_X4_19 rfl rfl dX4_readToken_160 ?_
                    refine g_topi (fun x111 ex111 => ?_)
                    have rx111 : 0 ≤ x111 ∧ x111 ≤ 160 := by rw [ex111]; exact iv_at hu52 _ _ rfl
                    have qx111 : x111 = i51 := ex111.trans ki51
                    have v112 : vp_in x111 160 := uk_vin 160 rfl (by first | decide | lia | grind) (by first | decide | lia | grind)
                    refine g_bald rfl rfl v112 dX4_readToken_163 ?_
                    refine g_topi (fun x113 ex113 => ?_)
                    have lx113 : x113 = u.1 3 (i51 : Int32).toNatClampNeg := by rw [ex113, show (x111 : Int32) = i51 by grind]; exact congrFun (fu52.1 3 (by omega)) _
                    refine g_iadd dX4_readToken_164 ?_
                    refine g_topi (fun x114 ex114 => ?_)
                    refine g_bipush (v := 48) dX4_readToken_165 (by decide) ?_
                    refine g_isub dX4_readToken_167 ?_
                    refine g_topi (fun x115 ex115 => ?_)
                    refine g_goto (tgt := 172) dX4_readToken_168 (by decide) ?_
                    refine p_X4_28 rfl rfl dX4_readToken_172 ?_
                    refine g_mem (fun u116 eu116 => ?_)
                    have hu116 : iv u116 := by rw [eu116]; exact iv_upF hu52 rfl
                    have fu116 : fr 2 3 u u116 := by rw [eu116]; exact fr_up fu52 (by omega) (by omega)
                    have s117 : u116.1 2 5 = x115 := by rw [eu116, uk_up_at]; exact if_pos ⟨rfl, rfl⟩
                    have T118 : u116.1 2 1 = t53 := by rw [eu116, uk_up_at, if_neg (by decide)]; exact Tt53
                    have T119 : u116.1 2 2 = i51 := by rw [eu116, uk_up_at, if_neg (by decide)]; exact ki51
                    have T120 : u116.1 2 3 = t54 := by rw [eu116, uk_up_at, if_neg (by decide)]; exact Tt54
                    have T121 : u116.1 2 4 = t55 := by rw [eu116, uk_up_at, if_neg (by decide)]; exact Tt55
                    refine g_aload_n dX4_readToken_175 rfl ?_
                    refine g_dup dX4_readToken_176 rfl ?_
                    refine f_X4_19 rfl rfl dX4_readToken_177 ?_
                    refine g_topi (fun x122 ex122 => ?_)
                    have rx122 : 0 ≤ x122 ∧ x122 ≤ 160 := by rw [ex122]; exact iv_at hu116 _ _ rfl
                    have qx122 : x122 = i51 := ex122.trans T119
                    refine g_iconst (v := 1) dX4_readToken_180 (by decide) ?_
                    refine g_iadd dX4_readToken_181 ?_
                    refine g_topi (fun x123 ex123 => ?_)
                    refine p_X4_19 rfl rfl dX4_readToken_182 ?_
                    refine g_mem (fun u124 eu124 => ?_)
                    have hu124 : iv u124 := by rw [eu124]; exact iv_up hu116 rfl (by first | lia | grind) (by first | lia | grind)
                    have fu124 : fr 2 3 u u124 := by rw [eu124]; exact fr_up fu116 (by omega) (by omega)
                    have s125 : u124.1 2 2 = x123 := by rw [eu124, uk_up_at]; exact if_pos ⟨rfl, rfl⟩
                    have T126 : u124.1 2 1 = t53 := by rw [eu124, uk_up_at, if_neg (by decide)]; exact T118
                    have T127 : u124.1 2 3 = t54 := by rw [eu124, uk_up_at, if_neg (by decide)]; exact T120
                    have T128 : u124.1 2 4 = t55 := by rw [eu124, uk_up_at, if_neg (by decide)]; exact T121
                    have T129 : u124.1 2 5 = x115 := by rw [eu124, uk_up_at, if_neg (by decide)]; exact s117
                    refine g_goto (tgt := 109) dX4_readToken_185 (by decide) ?_
                    refine g_pick (lv' := [(0, .ref (uk_ad G 2))]) [0] rfl ?_
                    exact ihi51 (by first | lia | grind) u124 hu124 fu124 (s125.trans (by first | lia | grind)) (T126.trans (Tt53.symm.trans ji510)) (by rw [T128, T127, T129, s125]; exact TJ_s hj (by grind) (by grind) (by grind) lx74.symm (by rw [show t54 = x78 by grind]; exact tx78) (fun z z9 => by grind) (by grind))
            refine g_pick (lv' := [(0, .ref (uk_ad G 2))]) [0] rfl ?_
            exact L109_49 (u32.1 2 2) (iv_at hu32 _ _ rfl).1 (iv_at hu32 _ _ rfl).2  u32 hu32 fu32 rfl (T34.trans (Tt9.symm.trans ji70)) (by rw [T36, s33, T37, T35]; rw [show x16 = i7 by grind]; exact TJ_0 RN (by grind))
          · refine g_aload_n dX4_readToken_98 rfl ?_
            refine g_dup dX4_readToken_99 rfl ?_
            refine f_X4_19 rfl rfl dX4_readToken_100 ?_
            refine g_topi (fun x130 ex130 => ?_)
            have rx130 : 0 ≤ x130 ∧ x130 ≤ 160 := by rw [ex130]; exact iv_at hu32 _ _ rfl
            have qx130 : x130 = i7 := ex130.trans T35
            refine g_iconst (v := 1) dX4_readToken_103 (by decide) ?_
            refine g_iadd dX4_readToken_104 ?_
            refine g_topi (fun x131 ex131 => ?_)
            refine p_X4_19 rfl rfl dX4_readToken_105 ?_
            refine g_mem (fun u132 eu132 => ?_)
            have hu132 : iv u132 := by rw [eu132]; exact iv_up hu32 rfl (by first | lia | grind) (by first | lia | grind)
            have fu132 : fr 2 3 u u132 := by rw [eu132]; exact fr_up fu32 (by omega) (by omega)
            have s133 : u132.1 2 2 = x131 := by rw [eu132, uk_up_at]; exact if_pos ⟨rfl, rfl⟩
            have T134 : u132.1 2 1 = t9 := by rw [eu132, uk_up_at, if_neg (by decide)]; exact T34
            have T135 : u132.1 2 3 = 0 := by rw [eu132, uk_up_at, if_neg (by decide)]; exact s33
            have T136 : u132.1 2 4 = x16 := by rw [eu132, uk_up_at, if_neg (by decide)]; exact T36
            have T137 : u132.1 2 5 = 0 := by rw [eu132, uk_up_at, if_neg (by decide)]; exact T37
            exact g_vret dX4_readToken_108 rfl ⟨rfl, hu132, fu132, (T134.trans (Tt9.symm.trans ji70)), (by exfalso; grind)⟩
      · refine g_aload_n dX4_readToken_63 rfl ?_
        refine f_X4_9 rfl rfl dX4_readToken_64 ?_
        refine g_aload_n dX4_readToken_67 rfl ?_
        refine f_X4_19 rfl rfl dX4_readToken_68 ?_
        refine g_topi (fun x138 ex138 => ?_)
        have rx138 : 0 ≤ x138 ∧ x138 ≤ 160 := by rw [ex138]; exact iv_at hu23 _ _ rfl
        have qx138 : x138 = i7 := ex138.trans T26
        have v139 : vp_in x138 160 := uk_vin 160 rfl (by first | decide | lia | grind) (by first | decide | lia | grind)
        refine g_bald rfl rfl v139 dX4_readToken_71 ?_
        refine g_topi (fun x140 ex140 => ?_)
        have lx140 : x140 = u.1 3 (i7 : Int32).toNatClampNeg := by rw [ex140, show (x138 : Int32) = i7 by grind]; exact congrFun (fu23.1 3 (by omega)) _
        refine cl_X4_31 (As := [.int x140]) rfl (c_X4_tokenFrom_s (G := G) hs hu23  x140  (d)) rfl (by omega) rfl (Nat.le_of_ble_eq_true rfl) dX4_readToken_72 (fun r141 u142 q143 => ?_)
        obtain ⟨⟨x144, rfl, tx144⟩, mq143⟩ := q143
        rw [mq143]
        refine g_goto (tgt := 79) dX4_readToken_75 (by decide) ?_
        refine p_X4_22 rfl rfl dX4_readToken_79 ?_
        refine g_mem (fun u145 eu145 => ?_)
        have hu145 : iv u145 := by rw [eu145]; exact iv_upF hu23 rfl
        have fu145 : fr 2 3 u u145 := by rw [eu145]; exact fr_up fu23 (by omega) (by omega)
        have s146 : u145.1 2 3 = x144 := by rw [eu145, uk_up_at]; exact if_pos ⟨rfl, rfl⟩
        have T147 : u145.1 2 1 = t9 := by rw [eu145, uk_up_at, if_neg (by decide)]; exact T25
        have T148 : u145.1 2 2 = i7 := by rw [eu145, uk_up_at, if_neg (by decide)]; exact T26
        have T149 : u145.1 2 4 = x16 := by rw [eu145, uk_up_at, if_neg (by decide)]; exact T28
        have T150 : u145.1 2 5 = 0 := by rw [eu145, uk_up_at, if_neg (by decide)]; exact s24
        refine g_aload_n dX4_readToken_82 rfl ?_
        refine f_X4_22 rfl rfl dX4_readToken_83 ?_
        refine g_topi (fun x151 ex151 => ?_)
        have qx151 : x151 = x144 := ex151.trans s146
        refine g_iconst (v := 3) dX4_readToken_86 (by decide) ?_
        refine g_icmp_eq (tgt := 98) dX4_readToken_87 (by decide) (fun c152 => ?_) (fun c152 => ?_)
        · refine g_aload_n dX4_readToken_98 rfl ?_
          refine g_dup dX4_readToken_99 rfl ?_
          refine f_X4_19 rfl rfl dX4_readToken_100 ?_
          refine g_topi (fun x153 ex153 => ?_)
          have rx153 : 0 ≤ x153 ∧ x153 ≤ 160 := by rw [ex153]; exact iv_at hu145 _ _ rfl
          have qx153 : x153 = i7 := ex153.trans T148
          refine g_iconst (v := 1) dX4_readToken_103 (by decide) ?_
          refine g_iadd dX4_readToken_104 ?_
          refine g_topi (fun x154 ex154 => ?_)
          refine p_X4_19 rfl rfl dX4_readToken_105 ?_
          refine g_mem (fun u155 eu155 => ?_)
          have hu155 : iv u155 := by rw [eu155]; exact iv_up hu145 rfl (by first | lia | grind) (by first | lia | grind)
          have fu155 : fr 2 3 u u155 := by rw [eu155]; exact fr_up fu145 (by omega) (by omega)
          have s156 : u155.1 2 2 = x154 := by rw [eu155, uk_up_at]; exact if_pos ⟨rfl, rfl⟩
          have T157 : u155.1 2 1 = t9 := by rw [eu155, uk_up_at, if_neg (by decide)]; exact T147
          have T158 : u155.1 2 3 = x144 := by rw [eu155, uk_up_at, if_neg (by decide)]; exact s146
          have T159 : u155.1 2 4 = x16 := by rw [eu155, uk_up_at, if_neg (by decide)]; exact T149
          have T160 : u155.1 2 5 = 0 := by rw [eu155, uk_up_at, if_neg (by decide)]; exact T150
          exact g_vret dX4_readToken_108 rfl ⟨rfl, hu155, fu155, (T157.trans (Tt9.symm.trans ji70)), (by rw [T159, T158, T160, s156]; rw [show x16 = i7 by grind]; exact TK_3 RN NN (by grind) (by rw [← lx140]; exact tx144) (by grind) (by grind) (by grind))⟩
        · refine g_aload_n dX4_readToken_90 rfl ?_
          refine f_X4_22 rfl rfl dX4_readToken_91 ?_
          refine g_topi (fun x161 ex161 => ?_)
          have qx161 : x161 = x144 := ex161.trans s146
          refine g_iconst (v := 4) dX4_readToken_94 (by decide) ?_
          refine g_icmp_ne (tgt := 109) dX4_readToken_95 (by decide) (fun c162 => ?_) (fun c162 => ?_)
          · have L109_162 : ∀ i164 : Int32, 0 ≤ i164 → i164 ≤ 160 → ∀ (u165 : uk_Mem), iv u165 → fr 2 3 u u165 → u165.1 2 2 = i164 → u165.1 2 1 = u.1 2 1 → TJ (u.1 3) (u.1 2 1) (u.1 2 2) (u165.1 2 4) (u165.1 2 3) (u165.1 2 5) (u165.1 2 2) → uk_G G X mX4_readToken (d + 1) (q_X4_readToken_s u) 109 [(0, .ref (uk_ad G 2))] [] u165 := by
              refine uk_upl 160 ?_
              intro i164 ai164 bi164 ihi164  u165 hu165 fu165 ki164 ji1640 ji1641
              obtain ⟨t166, Tt166⟩ : ∃ t, u165.1 2 1 = t := ⟨_, rfl⟩
              have Rt166 : 0 ≤ t166 ∧ t166 ≤ 160 := by rw [← Tt166]; exact iv_at hu165 _ _ rfl
              obtain ⟨t167, Tt167⟩ : ∃ t, u165.1 2 3 = t := ⟨_, rfl⟩
              obtain ⟨t168, Tt168⟩ : ∃ t, u165.1 2 4 = t := ⟨_, rfl⟩
              have Rt168 : 0 ≤ t168 ∧ t168 ≤ 160 := by rw [← Tt168]; exact iv_at hu165 _ _ rfl
              obtain ⟨t169, Tt169⟩ : ∃ t, u165.1 2 5 = t := ⟨_, rfl⟩
              refine g_aload_n dX4_readToken_109 rfl ?_
              refine f_X4_19 rfl rfl dX4_readToken_110 ?_
              refine g_topi (fun x170 ex170 => ?_)
              have rx170 : 0 ≤ x170 ∧ x170 ≤ 160 := by rw [ex170]; exact iv_at hu165 _ _ rfl
              have qx170 : x170 = i164 := ex170.trans ki164
              have hj : TJ (u.1 3) (u.1 2 1) (u.1 2 2) t168 t167 t169 i164 := by rw [← Tt168, ← Tt167, ← Tt169, ← ki164]; exact ji1641
              refine g_aload_n dX4_readToken_113 rfl ?_
              refine f_X4_15 rfl rfl dX4_readToken_114 ?_
              refine g_topi (fun x171 ex171 => ?_)
              have rx171 : 0 ≤ x171 ∧ x171 ≤ 160 := by rw [ex171]; exact iv_at hu165 _ _ rfl
              have qx171 : x171 = t166 := ex171.trans Tt166
              refine g_icmp_ge (tgt := 188) dX4_readToken_117 (by decide) (fun c172 => ?_) (fun c172 => ?_)
              · have EX : ¬ (i164 < u.1 2 1 ∧ tf (u.1 3 i164.toNatClampNeg) t167) := fun z => by have z1 := z.1; grind
                refine g_aload_n dX4_readToken_188 rfl ?_
                refine f_X4_22 rfl rfl dX4_readToken_189 ?_
                refine g_topi (fun x173 ex173 => ?_)
                have qx173 : x173 = t167 := ex173.trans Tt167
                refine g_iconst (v := 2) dX4_readToken_192 (by decide) ?_
                refine g_icmp_ne (tgt := 214) dX4_readToken_193 (by decide) (fun c174 => ?_) (fun c174 => ?_)
                · exact g_vret dX4_readToken_214 rfl ⟨rfl, hu165, fu165, (Tt166.trans (Tt166.symm.trans ji1640)), (by rw [Tt168, Tt167, Tt169, ki164]; exact TJ_e hj EX (fun z1 z2 => by grind) (fun z1 z2 => by grind) (fun z1 => by grind))⟩
                · refine g_aload_n dX4_readToken_196 rfl ?_
                  refine f_X4_19 rfl rfl dX4_readToken_197 ?_
                  refine g_topi (fun x175 ex175 => ?_)
                  have rx175 : 0 ≤ x175 ∧ x175 ≤ 160 := by rw [ex175]; exact iv_at hu165 _ _ rfl
                  have qx175 : x175 = i164 := ex175.trans ki164
                  refine g_aload_n dX4_readToken_200 rfl ?_
                  refine f_X4_25 rfl rfl dX4_readToken_201 ?_
                  refine g_topi (fun x176 ex176 => ?_)
                  have rx176 : 0 ≤ x176 ∧ x176 ≤ 160 := by rw [ex176]; exact iv_at hu165 _ _ rfl
                  have qx176 : x176 = t168 := ex176.trans Tt168
                  refine g_isub dX4_readToken_204 ?_
                  refine g_topi (fun x177 ex177 => ?_)
                  refine g_iconst (v := 2) dX4_readToken_205 (by decide) ?_
                  refine g_icmp_le (tgt := 214) dX4_readToken_206 (by decide) (fun c178 => ?_) (fun c178 => ?_)
                  · exact g_vret dX4_readToken_214 rfl ⟨rfl, hu165, fu165, (Tt166.trans (Tt166.symm.trans ji1640)), (by rw [Tt168, Tt167, Tt169, ki164]; exact TJ_e hj EX (fun z1 z2 => by grind) (fun z1 z2 => by grind) (fun z1 => by grind))⟩
                  · refine g_aload_n dX4_readToken_209 rfl ?_
                    refine g_iconst (v := 4) dX4_readToken_210 (by decide) ?_
                    refine p_X4_22 rfl rfl dX4_readToken_211 ?_
                    refine g_mem (fun u179 eu179 => ?_)
                    have hu179 : iv u179 := by rw [eu179]; exact iv_upF hu165 rfl
                    have fu179 : fr 2 3 u u179 := by rw [eu179]; exact fr_up fu165 (by omega) (by omega)
                    have s180 : u179.1 2 3 = 4 := by rw [eu179, uk_up_at]; exact if_pos ⟨rfl, rfl⟩
                    have T181 : u179.1 2 1 = t166 := by rw [eu179, uk_up_at, if_neg (by decide)]; exact Tt166
                    have T182 : u179.1 2 2 = i164 := by rw [eu179, uk_up_at, if_neg (by decide)]; exact ki164
                    have T183 : u179.1 2 4 = t168 := by rw [eu179, uk_up_at, if_neg (by decide)]; exact Tt168
                    have T184 : u179.1 2 5 = t169 := by rw [eu179, uk_up_at, if_neg (by decide)]; exact Tt169
                    exact g_vret dX4_readToken_214 rfl ⟨rfl, hu179, fu179, (T181.trans (Tt166.symm.trans ji1640)), (by rw [T183, s180, T184, T182]; exact TJ_e hj EX (fun z1 z2 => by grind) (fun z1 z2 => by grind) (fun z1 => by grind))⟩
              · refine g_aload_n dX4_readToken_120 rfl ?_
                refine f_X4_9 rfl rfl dX4_readToken_121 ?_
                refine g_aload_n dX4_readToken_124 rfl ?_
                refine f_X4_19 rfl rfl dX4_readToken_125 ?_
                refine g_topi (fun x185 ex185 => ?_)
                have rx185 : 0 ≤ x185 ∧ x185 ≤ 160 := by rw [ex185]; exact iv_at hu165 _ _ rfl
                have qx185 : x185 = i164 := ex185.trans ki164
                have v186 : vp_in x185 160 := uk_vin 160 rfl (by first | decide | lia | grind) (by first | decide | lia | grind)
                refine g_bald rfl rfl v186 dX4_readToken_128 ?_
                refine g_topi (fun x187 ex187 => ?_)
                have lx187 : x187 = u.1 3 (i164 : Int32).toNatClampNeg := by rw [ex187, show (x185 : Int32) = i164 by grind]; exact congrFun (fu165.1 3 (by omega)) _
                refine cl_X4_31 (As := [.int x187]) rfl (c_X4_tokenFrom_s (G := G) hs hu165  x187  (d)) rfl (by omega) rfl (Nat.le_of_ble_eq_true rfl) dX4_readToken_129 (fun r188 u189 q190 => ?_)
                obtain ⟨⟨x191, rfl, tx191⟩, mq190⟩ := q190
                rw [mq190]
                refine g_aload_n dX4_readToken_132 rfl ?_
                refine f_X4_22 rfl rfl dX4_readToken_133 ?_
                refine g_topi (fun x192 ex192 => ?_)
                have qx192 : x192 = t167 := ex192.trans Tt167
                refine g_icmp_ne (tgt := 188) dX4_readToken_136 (by decide) (fun c193 => ?_) (fun c193 => ?_)
                · have EX : ¬ (i164 < u.1 2 1 ∧ tf (u.1 3 i164.toNatClampNeg) t167) := fun z => absurd (tf_uq tx191 (by rw [lx187]; exact z.2)) (by grind)
                  refine g_aload_n dX4_readToken_188 rfl ?_
                  refine f_X4_22 rfl rfl dX4_readToken_189 ?_
                  refine g_topi (fun x194 ex194 => ?_)
                  have qx194 : x194 = t167 := ex194.trans Tt167
                  refine g_iconst (v := 2) dX4_readToken_192 (by decide) ?_
                  refine g_icmp_ne (tgt := 214) dX4_readToken_193 (by decide) (fun c195 => ?_) (fun c195 => ?_)
                  · exact g_vret dX4_readToken_214 rfl ⟨rfl, hu165, fu165, (Tt166.trans (Tt166.symm.trans ji1640)), (by rw [Tt168, Tt167, Tt169, ki164]; exact TJ_e hj EX (fun z1 z2 => by grind) (fun z1 z2 => by grind) (fun z1 => by grind))⟩
                  · refine g_aload_n dX4_readToken_196 rfl ?_
                    refine f_X4_19 rfl rfl dX4_readToken_197 ?_
                    refine g_topi (fun x196 ex196 => ?_)
                    have rx196 : 0 ≤ x196 ∧ x196 ≤ 160 := by rw [ex196]; exact iv_at hu165 _ _ rfl
                    have qx196 : x196 = i164 := ex196.trans ki164
                    refine g_aload_n dX4_readToken_200 rfl ?_
                    refine f_X4_25 rfl rfl dX4_readToken_201 ?_
                    refine g_topi (fun x197 ex197 => ?_)
                    have rx197 : 0 ≤ x197 ∧ x197 ≤ 160 := by rw [ex197]; exact iv_at hu165 _ _ rfl
                    have qx197 : x197 = t168 := ex197.trans Tt168
                    refine g_isub dX4_readToken_204 ?_
                    refine g_topi (fun x198 ex198 => ?_)
                    refine g_iconst (v := 2) dX4_readToken_205 (by decide) ?_
                    refine g_icmp_le (tgt := 214) dX4_readToken_206 (by decide) (fun c199 => ?_) (fun c199 => ?_)
                    · exact g_vret dX4_readToken_214 rfl ⟨rfl, hu165, fu165, (Tt166.trans (Tt166.symm.trans ji1640)), (by rw [Tt168, Tt167, Tt169, ki164]; exact TJ_e hj EX (fun z1 z2 => by grind) (fun z1 z2 => by grind) (fun z1 => by grind))⟩
                    · refine g_aload_n dX4_readToken_209 rfl ?_
                      refine g_iconst (v := 4) dX4_readToken_210 (by decide) ?_
                      refine p_X4_22 rfl rfl dX4_readToken_211 ?_
                      refine g_mem (fun u200 eu200 => ?_)
                      have hu200 : iv u200 := by rw [eu200]; exact iv_upF hu165 rfl
                      have fu200 : fr 2 3 u u200 := by rw [eu200]; exact fr_up fu165 (by omega) (by omega)
                      have s201 : u200.1 2 3 = 4 := by rw [eu200, uk_up_at]; exact if_pos ⟨rfl, rfl⟩
                      have T202 : u200.1 2 1 = t166 := by rw [eu200, uk_up_at, if_neg (by decide)]; exact Tt166
                      have T203 : u200.1 2 2 = i164 := by rw [eu200, uk_up_at, if_neg (by decide)]; exact ki164
                      have T204 : u200.1 2 4 = t168 := by rw [eu200, uk_up_at, if_neg (by decide)]; exact Tt168
                      have T205 : u200.1 2 5 = t169 := by rw [eu200, uk_up_at, if_neg (by decide)]; exact Tt169
                      exact g_vret dX4_readToken_214 rfl ⟨rfl, hu200, fu200, (T202.trans (Tt166.symm.trans ji1640)), (by rw [T204, s201, T205, T203]; exact TJ_e hj EX (fun z1 z2 => by grind) (fun z1 z2 => by grind) (fun z1 => by grind))⟩
                · refine g_aload_n dX4_readToken_139 rfl ?_
                  refine g_aload_n dX4_readToken_140 rfl ?_
                  refine f_X4_22 rfl rfl dX4_readToken_141 ?_
                  refine g_topi (fun x206 ex206 => ?_)
                  have qx206 : x206 = t167 := ex206.trans Tt167
                  refine g_iconst (v := 2) dX4_readToken_144 (by decide) ?_
                  refine g_icmp_ne (tgt := 171) dX4_readToken_145 (by decide) (fun c207 => ?_) (fun c207 => ?_)
                  · refine g_iconst (v := 0) dX4_readToken_171 (by decide) ?_
                    refine p_X4_28 rfl rfl dX4_readToken_172 ?_
                    refine g_mem (fun u208 eu208 => ?_)
                    have hu208 : iv u208 := by rw [eu208]; exact iv_upF hu165 rfl
                    have fu208 : fr 2 3 u u208 := by rw [eu208]; exact fr_up fu165 (by omega) (by omega)
                    have s209 : u208.1 2 5 = 0 := by rw [eu208, uk_up_at]; exact if_pos ⟨rfl, rfl⟩
                    have T210 : u208.1 2 1 = t166 := by rw [eu208, uk_up_at, if_neg (by decide)]; exact Tt166
                    have T211 : u208.1 2 2 = i164 := by rw [eu208, uk_up_at, if_neg (by decide)]; exact ki164
                    have T212 : u208.1 2 3 = t167 := by rw [eu208, uk_up_at, if_neg (by decide)]; exact Tt167
                    have T213 : u208.1 2 4 = t168 := by rw [eu208, uk_up_at, if_neg (by decide)]; exact Tt168
                    refine g_aload_n dX4_readToken_175 rfl ?_
                    refine g_dup dX4_readToken_176 rfl ?_
                    refine f_X4_19 rfl rfl dX4_readToken_177 ?_
                    refine g_topi (fun x214 ex214 => ?_)
                    have rx214 : 0 ≤ x214 ∧ x214 ≤ 160 := by rw [ex214]; exact iv_at hu208 _ _ rfl
                    have qx214 : x214 = i164 := ex214.trans T211
                    refine g_iconst (v := 1) dX4_readToken_180 (by decide) ?_
                    refine g_iadd dX4_readToken_181 ?_
                    refine g_topi (fun x215 ex215 => ?_)
                    refine p_X4_19 rfl rfl dX4_readToken_182 ?_
                    refine g_mem (fun u216 eu216 => ?_)
                    have hu216 : iv u216 := by rw [eu216]; exact iv_up hu208 rfl (by first | lia | grind) (by first | lia | grind)
                    have fu216 : fr 2 3 u u216 := by rw [eu216]; exact fr_up fu208 (by omega) (by omega)
                    have s217 : u216.1 2 2 = x215 := by rw [eu216, uk_up_at]; exact if_pos ⟨rfl, rfl⟩
                    have T218 : u216.1 2 1 = t166 := by rw [eu216, uk_up_at, if_neg (by decide)]; exact T210
                    have T219 : u216.1 2 3 = t167 := by rw [eu216, uk_up_at, if_neg (by decide)]; exact T212
                    have T220 : u216.1 2 4 = t168 := by rw [eu216, uk_up_at, if_neg (by decide)]; exact T213
                    have T221 : u216.1 2 5 = 0 := by rw [eu216, uk_up_at, if_neg (by decide)]; exact s209
                    refine g_goto (tgt := 109) dX4_readToken_185 (by decide) ?_
                    refine g_pick (lv' := [(0, .ref (uk_ad G 2))]) [0] rfl ?_
                    exact ihi164 (by first | lia | grind) u216 hu216 fu216 (s217.trans (by first | lia | grind)) (T218.trans (Tt166.symm.trans ji1640)) (by rw [T220, T219, T221, s217]; exact TJ_s hj (by grind) (by grind) (by grind) lx187.symm (by rw [show t167 = x191 by grind]; exact tx191) (fun z z9 => by grind) (by grind))
                  · refine g_aload_n dX4_readToken_148 rfl ?_
                    refine f_X4_28 rfl rfl dX4_readToken_149 ?_
                    refine g_topi (fun x222 ex222 => ?_)
                    have qx222 : x222 = t169 := ex222.trans Tt169
                    refine g_bipush (v := 10) dX4_readToken_152 (by decide) ?_
                    refine g_imul dX4_readToken_154 ?_
                    refine g_topi (fun x223 ex223 => ?_)
                    refine g_aload_n dX4_readToken_155 rfl ?_
                    refine f_X4_9 rfl rfl dX4_readToken_156 ?_
                    refine g_aload_n dX4_readToken_159 rfl ?_
                    refine f_X4_19 rfl rfl dX4_readToken_160 ?_
                    refine g_topi (fun x224 ex224 => ?_)
                    have rx224 : 0 ≤ x224 ∧ x224 ≤ 160 := by rw [ex224]; exact iv_at hu165 _ _ rfl
                    have qx224 : x224 = i164 := ex224.trans ki164
                    have v225 : vp_in x224 160 := uk_vin 160 rfl (by first | decide | lia | grind) (by first | decide | lia | grind)
                    refine g_bald rfl rfl v225 dX4_readToken_163 ?_
                    refine g_topi (fun x226 ex226 => ?_)
                    have lx226 : x226 = u.1 3 (i164 : Int32).toNatClampNeg := by rw [ex226, show (x224 : Int32) = i164 by grind]; exact congrFun (fu165.1 3 (by omega)) _
                    refine g_iadd dX4_readToken_164 ?_
                    refine g_topi (fun x227 ex227 => ?_)
                    refine g_bipush (v := 48) dX4_readToken_165 (by decide) ?_
                    refine g_isub dX4_readToken_167 ?_
                    refine g_topi (fun x228 ex228 => ?_)
                    refine g_goto (tgt := 172) dX4_readToken_168 (by decide) ?_
                    refine p_X4_28 rfl rfl dX4_readToken_172 ?_
                    refine g_mem (fun u229 eu229 => ?_)
                    have hu229 : iv u229 := by rw [eu229]; exact iv_upF hu165 rfl
                    have fu229 : fr 2 3 u u229 := by rw [eu229]; exact fr_up fu165 (by omega) (by omega)
                    have s230 : u229.1 2 5 = x228 := by rw [eu229, uk_up_at]; exact if_pos ⟨rfl, rfl⟩
                    have T231 : u229.1 2 1 = t166 := by rw [eu229, uk_up_at, if_neg (by decide)]; exact Tt166
                    have T232 : u229.1 2 2 = i164 := by rw [eu229, uk_up_at, if_neg (by decide)]; exact ki164
                    have T233 : u229.1 2 3 = t167 := by rw [eu229, uk_up_at, if_neg (by decide)]; exact Tt167
                    have T234 : u229.1 2 4 = t168 := by rw [eu229, uk_up_at, if_neg (by decide)]; exact Tt168
                    refine g_aload_n dX4_readToken_175 rfl ?_
                    refine g_dup dX4_readToken_176 rfl ?_
                    refine f_X4_19 rfl rfl dX4_readToken_177 ?_
                    refine g_topi (fun x235 ex235 => ?_)
                    have rx235 : 0 ≤ x235 ∧ x235 ≤ 160 := by rw [ex235]; exact iv_at hu229 _ _ rfl
                    have qx235 : x235 = i164 := ex235.trans T232
                    refine g_iconst (v := 1) dX4_readToken_180 (by decide) ?_
                    refine g_iadd dX4_readToken_181 ?_
                    refine g_topi (fun x236 ex236 => ?_)
                    refine p_X4_19 rfl rfl dX4_readToken_182 ?_
                    refine g_mem (fun u237 eu237 => ?_)
                    have hu237 : iv u237 := by rw [eu237]; exact iv_up hu229 rfl (by first | lia | grind) (by first | lia | grind)
                    have fu237 : fr 2 3 u u237 := by rw [eu237]; exact fr_up fu229 (by omega) (by omega)
                    have s238 : u237.1 2 2 = x236 := by rw [eu237, uk_up_at]; exact if_pos ⟨rfl, rfl⟩
                    have T239 : u237.1 2 1 = t166 := by rw [eu237, uk_up_at, if_neg (by decide)]; exact T231
                    have T240 : u237.1 2 3 = t167 := by rw [eu237, uk_up_at, if_neg (by decide)]; exact T233
                    have T241 : u237.1 2 4 = t168 := by rw [eu237, uk_up_at, if_neg (by decide)]; exact T234
                    have T242 : u237.1 2 5 = x228 := by rw [eu237, uk_up_at, if_neg (by decide)]; exact s230
                    refine g_goto (tgt := 109) dX4_readToken_185 (by decide) ?_
                    refine g_pick (lv' := [(0, .ref (uk_ad G 2))]) [0] rfl ?_
                    exact ihi164 (by first | lia | grind) u237 hu237 fu237 (s238.trans (by first | lia | grind)) (T239.trans (Tt166.symm.trans ji1640)) (by rw [T241, T240, T242, s238]; exact TJ_s hj (by grind) (by grind) (by grind) lx187.symm (by rw [show t167 = x191 by grind]; exact tx191) (fun z z9 => by grind) (by grind))
            refine g_pick (lv' := [(0, .ref (uk_ad G 2))]) [0] rfl ?_
            exact L109_162 (u145.1 2 2) (iv_at hu145 _ _ rfl).1 (iv_at hu145 _ _ rfl).2  u145 hu145 fu145 rfl (T147.trans (Tt9.symm.trans ji70)) (by rw [T149, s146, T150, T148]; rw [show x16 = i7 by grind]; exact TJ_12 (by grind) (by grind) RN NN (by grind) (by rw [← lx140]; exact tx144) (by grind) (by grind))
          · refine g_aload_n dX4_readToken_98 rfl ?_
            refine g_dup dX4_readToken_99 rfl ?_
            refine f_X4_19 rfl rfl dX4_readToken_100 ?_
            refine g_topi (fun x243 ex243 => ?_)
            have rx243 : 0 ≤ x243 ∧ x243 ≤ 160 := by rw [ex243]; exact iv_at hu145 _ _ rfl
            have qx243 : x243 = i7 := ex243.trans T148
            refine g_iconst (v := 1) dX4_readToken_103 (by decide) ?_
            refine g_iadd dX4_readToken_104 ?_
            refine g_topi (fun x244 ex244 => ?_)
            refine p_X4_19 rfl rfl dX4_readToken_105 ?_
            refine g_mem (fun u245 eu245 => ?_)
            have hu245 : iv u245 := by rw [eu245]; exact iv_up hu145 rfl (by first | lia | grind) (by first | lia | grind)
            have fu245 : fr 2 3 u u245 := by rw [eu245]; exact fr_up fu145 (by omega) (by omega)
            have s246 : u245.1 2 2 = x244 := by rw [eu245, uk_up_at]; exact if_pos ⟨rfl, rfl⟩
            have T247 : u245.1 2 1 = t9 := by rw [eu245, uk_up_at, if_neg (by decide)]; exact T147
            have T248 : u245.1 2 3 = x144 := by rw [eu245, uk_up_at, if_neg (by decide)]; exact s146
            have T249 : u245.1 2 4 = x16 := by rw [eu245, uk_up_at, if_neg (by decide)]; exact T149
            have T250 : u245.1 2 5 = 0 := by rw [eu245, uk_up_at, if_neg (by decide)]; exact T150
            exact g_vret dX4_readToken_108 rfl ⟨rfl, hu245, fu245, (T247.trans (Tt9.symm.trans ji70)), (by rw [T249, T248, T250, s246]; rw [show x16 = i7 by grind]; exact TK_3 RN NN (by grind) (by rw [← lx140]; exact tx144) (by grind) (by grind) (by grind))⟩
    · refine g_aload_n dX4_readToken_11 rfl ?_
      refine f_X4_9 rfl rfl dX4_readToken_12 ?_
      refine g_aload_n dX4_readToken_15 rfl ?_
      refine f_X4_19 rfl rfl dX4_readToken_16 ?_
      refine g_topi (fun x251 ex251 => ?_)
      have rx251 : 0 ≤ x251 ∧ x251 ≤ 160 := by rw [ex251]; exact iv_at hu8 _ _ rfl
      have qx251 : x251 = i7 := ex251.trans ki7
      have v252 : vp_in x251 160 := uk_vin 160 rfl (by first | decide | lia | grind) (by first | decide | lia | grind)
      refine g_bald rfl rfl v252 dX4_readToken_19 ?_
      refine g_topi (fun x253 ex253 => ?_)
      have lx253 : x253 = u.1 3 (i7 : Int32).toNatClampNeg := by rw [ex253, show (x251 : Int32) = i7 by grind]; exact congrFun (fu8.1 3 (by omega)) _
      refine g_bipush (v := 32) dX4_readToken_20 (by decide) ?_
      refine g_icmp_ne (tgt := 38) dX4_readToken_22 (by decide) (fun c254 => ?_) (fun c254 => ?_)
      · have sz0 : u8.1 2 1 = u.1 2 1 := ji70
        have RN : rn e32 (u.1 3) (u.1 2 1) (u.1 2 2) i7 := by rw [← ki7]; exact ji71
        have NN : ¬ (i7 < u.1 2 1 ∧ e32 (u.1 3 i7.toNatClampNeg)) := fun z => by have z1 := z.1; have z2 := z.2; unfold e32 at z2; grind
        refine g_aload_n dX4_readToken_38 rfl ?_
        refine g_aload_n dX4_readToken_39 rfl ?_
        refine f_X4_19 rfl rfl dX4_readToken_40 ?_
        refine g_topi (fun x255 ex255 => ?_)
        have rx255 : 0 ≤ x255 ∧ x255 ≤ 160 := by rw [ex255]; exact iv_at hu8 _ _ rfl
        have qx255 : x255 = i7 := ex255.trans ki7
        refine p_X4_25 rfl rfl dX4_readToken_43 ?_
        refine g_mem (fun u256 eu256 => ?_)
        have hu256 : iv u256 := by rw [eu256]; exact iv_up hu8 rfl (by first | lia | grind) (by first | lia | grind)
        have fu256 : fr 2 3 u u256 := by rw [eu256]; exact fr_up fu8 (by omega) (by omega)
        have s257 : u256.1 2 4 = x255 := by rw [eu256, uk_up_at]; exact if_pos ⟨rfl, rfl⟩
        have T258 : u256.1 2 1 = t9 := by rw [eu256, uk_up_at, if_neg (by decide)]; exact Tt9
        have T259 : u256.1 2 2 = i7 := by rw [eu256, uk_up_at, if_neg (by decide)]; exact ki7
        have T260 : u256.1 2 3 = t10 := by rw [eu256, uk_up_at, if_neg (by decide)]; exact Tt10
        have T261 : u256.1 2 5 = t12 := by rw [eu256, uk_up_at, if_neg (by decide)]; exact Tt12
        refine g_aload_n dX4_readToken_46 rfl ?_
        refine g_iconst (v := 0) dX4_readToken_47 (by decide) ?_
        refine p_X4_28 rfl rfl dX4_readToken_48 ?_
        refine g_mem (fun u262 eu262 => ?_)
        have hu262 : iv u262 := by rw [eu262]; exact iv_upF hu256 rfl
        have fu262 : fr 2 3 u u262 := by rw [eu262]; exact fr_up fu256 (by omega) (by omega)
        have s263 : u262.1 2 5 = 0 := by rw [eu262, uk_up_at]; exact if_pos ⟨rfl, rfl⟩
        have T264 : u262.1 2 1 = t9 := by rw [eu262, uk_up_at, if_neg (by decide)]; exact T258
        have T265 : u262.1 2 2 = i7 := by rw [eu262, uk_up_at, if_neg (by decide)]; exact T259
        have T266 : u262.1 2 3 = t10 := by rw [eu262, uk_up_at, if_neg (by decide)]; exact T260
        have T267 : u262.1 2 4 = x255 := by rw [eu262, uk_up_at, if_neg (by decide)]; exact s257
        refine g_aload_n dX4_readToken_51 rfl ?_
        refine g_aload_n dX4_readToken_52 rfl ?_
        refine f_X4_19 rfl rfl dX4_readToken_53 ?_
        refine g_topi (fun x268 ex268 => ?_)
        have rx268 : 0 ≤ x268 ∧ x268 ≤ 160 := by rw [ex268]; exact iv_at hu262 _ _ rfl
        have qx268 : x268 = i7 := ex268.trans T265
        refine g_aload_n dX4_readToken_56 rfl ?_
        refine f_X4_15 rfl rfl dX4_readToken_57 ?_
        refine g_topi (fun x269 ex269 => ?_)
        have rx269 : 0 ≤ x269 ∧ x269 ≤ 160 := by rw [ex269]; exact iv_at hu262 _ _ rfl
        have qx269 : x269 = t9 := ex269.trans T264
        refine g_icmp_ge (tgt := 78) dX4_readToken_60 (by decide) (fun c270 => ?_) (fun c270 => ?_)
        · refine g_iconst (v := 0) dX4_readToken_78 (by decide) ?_
          refine p_X4_22 rfl rfl dX4_readToken_79 ?_
          refine g_mem (fun u271 eu271 => ?_)
          have hu271 : iv u271 := by rw [eu271]; exact iv_upF hu262 rfl
          have fu271 : fr 2 3 u u271 := by rw [eu271]; exact fr_up fu262 (by omega) (by omega)
          have s272 : u271.1 2 3 = 0 := by rw [eu271, uk_up_at]; exact if_pos ⟨rfl, rfl⟩
          have T273 : u271.1 2 1 = t9 := by rw [eu271, uk_up_at, if_neg (by decide)]; exact T264
          have T274 : u271.1 2 2 = i7 := by rw [eu271, uk_up_at, if_neg (by decide)]; exact T265
          have T275 : u271.1 2 4 = x255 := by rw [eu271, uk_up_at, if_neg (by decide)]; exact T267
          have T276 : u271.1 2 5 = 0 := by rw [eu271, uk_up_at, if_neg (by decide)]; exact s263
          refine g_aload_n dX4_readToken_82 rfl ?_
          refine f_X4_22 rfl rfl dX4_readToken_83 ?_
          refine g_topi (fun x277 ex277 => ?_)
          have qx277 : x277 = 0 := ex277.trans s272
          refine g_iconst (v := 3) dX4_readToken_86 (by decide) ?_
          refine g_icmp_eq (tgt := 98) dX4_readToken_87 (by decide) (fun c278 => ?_) (fun c278 => ?_)
          · refine g_aload_n dX4_readToken_98 rfl ?_
            refine g_dup dX4_readToken_99 rfl ?_
            refine f_X4_19 rfl rfl dX4_readToken_100 ?_
            refine g_topi (fun x279 ex279 => ?_)
            have rx279 : 0 ≤ x279 ∧ x279 ≤ 160 := by rw [ex279]; exact iv_at hu271 _ _ rfl
            have qx279 : x279 = i7 := ex279.trans T274
            refine g_iconst (v := 1) dX4_readToken_103 (by decide) ?_
            refine g_iadd dX4_readToken_104 ?_
            refine g_topi (fun x280 ex280 => ?_)
            refine p_X4_19 rfl rfl dX4_readToken_105 ?_
            refine g_mem (fun u281 eu281 => ?_)
            have hu281 : iv u281 := by rw [eu281]; exact iv_up hu271 rfl (by first | lia | grind) (by first | lia | grind)
            have fu281 : fr 2 3 u u281 := by rw [eu281]; exact fr_up fu271 (by omega) (by omega)
            have s282 : u281.1 2 2 = x280 := by rw [eu281, uk_up_at]; exact if_pos ⟨rfl, rfl⟩
            have T283 : u281.1 2 1 = t9 := by rw [eu281, uk_up_at, if_neg (by decide)]; exact T273
            have T284 : u281.1 2 3 = 0 := by rw [eu281, uk_up_at, if_neg (by decide)]; exact s272
            have T285 : u281.1 2 4 = x255 := by rw [eu281, uk_up_at, if_neg (by decide)]; exact T275
            have T286 : u281.1 2 5 = 0 := by rw [eu281, uk_up_at, if_neg (by decide)]; exact T276
            exact g_vret dX4_readToken_108 rfl ⟨rfl, hu281, fu281, (T283.trans (Tt9.symm.trans ji70)), (by exfalso; grind)⟩
          · refine g_aload_n dX4_readToken_90 rfl ?_
            refine f_X4_22 rfl rfl dX4_readToken_91 ?_
            refine g_topi (fun x287 ex287 => ?_)
            have qx287 : x287 = 0 := ex287.trans s272
            refine g_iconst (v := 4) dX4_readToken_94 (by decide) ?_
            refine g_icmp_ne (tgt := 109) dX4_readToken_95 (by decide) (fun c288 => ?_) (fun c288 => ?_)
            · have L109_288 : ∀ i290 : Int32, 0 ≤ i290 → i290 ≤ 160 → ∀ (u291 : uk_Mem), iv u291 → fr 2 3 u u291 → u291.1 2 2 = i290 → u291.1 2 1 = u.1 2 1 → TJ (u.1 3) (u.1 2 1) (u.1 2 2) (u291.1 2 4) (u291.1 2 3) (u291.1 2 5) (u291.1 2 2) → uk_G G X mX4_readToken (d + 1) (q_X4_readToken_s u) 109 [(0, .ref (uk_ad G 2))] [] u291 := by
                refine uk_upl 160 ?_
                intro i290 ai290 bi290 ihi290  u291 hu291 fu291 ki290 ji2900 ji2901
                obtain ⟨t292, Tt292⟩ : ∃ t, u291.1 2 1 = t := ⟨_, rfl⟩
                have Rt292 : 0 ≤ t292 ∧ t292 ≤ 160 := by rw [← Tt292]; exact iv_at hu291 _ _ rfl
                obtain ⟨t293, Tt293⟩ : ∃ t, u291.1 2 3 = t := ⟨_, rfl⟩
                obtain ⟨t294, Tt294⟩ : ∃ t, u291.1 2 4 = t := ⟨_, rfl⟩
                have Rt294 : 0 ≤ t294 ∧ t294 ≤ 160 := by rw [← Tt294]; exact iv_at hu291 _ _ rfl
                obtain ⟨t295, Tt295⟩ : ∃ t, u291.1 2 5 = t := ⟨_, rfl⟩
                refine g_aload_n dX4_readToken_109 rfl ?_
                refine f_X4_19 rfl rfl dX4_readToken_110 ?_
                refine g_topi (fun x296 ex296 => ?_)
                have rx296 : 0 ≤ x296 ∧ x296 ≤ 160 := by rw [ex296]; exact iv_at hu291 _ _ rfl
                have qx296 : x296 = i290 := ex296.trans ki290
                have hj : TJ (u.1 3) (u.1 2 1) (u.1 2 2) t294 t293 t295 i290 := by rw [← Tt294, ← Tt293, ← Tt295, ← ki290]; exact ji2901
                refine g_aload_n dX4_readToken_113 rfl ?_
                refine f_X4_15 rfl rfl dX4_readToken_114 ?_
                refine g_topi (fun x297 ex297 => ?_)
                have rx297 : 0 ≤ x297 ∧ x297 ≤ 160 := by rw [ex297]; exact iv_at hu291 _ _ rfl
                have qx297 : x297 = t292 := ex297.trans Tt292
                refine g_icmp_ge (tgt := 188) dX4_readToken_117 (by decide) (fun c298 => ?_) (fun c298 => ?_)
                · have EX : ¬ (i290 < u.1 2 1 ∧ tf (u.1 3 i290.toNatClampNeg) t293) := fun z => by have z1 := z.1; grind
                  refine g_aload_n dX4_readToken_188 rfl ?_
                  refine f_X4_22 rfl rfl dX4_readToken_189 ?_
                  refine g_topi (fun x299 ex299 => ?_)
                  have qx299 : x299 = t293 := ex299.trans Tt293
                  refine g_iconst (v := 2) dX4_readToken_192 (by decide) ?_
                  refine g_icmp_ne (tgt := 214) dX4_readToken_193 (by decide) (fun c300 => ?_) (fun c300 => ?_)
                  · exact g_vret dX4_readToken_214 rfl ⟨rfl, hu291, fu291, (Tt292.trans (Tt292.symm.trans ji2900)), (by rw [Tt294, Tt293, Tt295, ki290]; exact TJ_e hj EX (fun z1 z2 => by grind) (fun z1 z2 => by grind) (fun z1 => by grind))⟩
                  · refine g_aload_n dX4_readToken_196 rfl ?_
                    refine f_X4_19 rfl rfl dX4_readToken_197 ?_
                    refine g_topi (fun x301 ex301 => ?_)
                    have rx301 : 0 ≤ x301 ∧ x301 ≤ 160 := by rw [ex301]; exact iv_at hu291 _ _ rfl
                    have qx301 : x301 = i290 := ex301.trans ki290
                    refine g_aload_n dX4_readToken_200 rfl ?_
                    refine f_X4_25 rfl rfl dX4_readToken_201 ?_
                    refine g_topi (fun x302 ex302 => ?_)
                    have rx302 : 0 ≤ x302 ∧ x302 ≤ 160 := by rw [ex302]; exact iv_at hu291 _ _ rfl
                    have qx302 : x302 = t294 := ex302.trans Tt294
                    refine g_isub dX4_readToken_204 ?_
                    refine g_topi (fun x303 ex303 => ?_)
                    refine g_iconst (v := 2) dX4_readToken_205 (by decide) ?_
                    refine g_icmp_le (tgt := 214) dX4_readToken_206 (by decide) (fun c304 => ?_) (fun c304 => ?_)
                    · exact g_vret dX4_readToken_214 rfl ⟨rfl, hu291, fu291, (Tt292.trans (Tt292.symm.trans ji2900)), (by rw [Tt294, Tt293, Tt295, ki290]; exact TJ_e hj EX (fun z1 z2 => by grind) (fun z1 z2 => by grind) (fun z1 => by grind))⟩
                    · refine g_aload_n dX4_readToken_209 rfl ?_
                      refine g_iconst (v := 4) dX4_readToken_210 (by decide) ?_
                      refine p_X4_22 rfl rfl dX4_readToken_211 ?_
                      refine g_mem (fun u305 eu305 => ?_)
                      have hu305 : iv u305 := by rw [eu305]; exact iv_upF hu291 rfl
                      have fu305 : fr 2 3 u u305 := by rw [eu305]; exact fr_up fu291 (by omega) (by omega)
                      have s306 : u305.1 2 3 = 4 := by rw [eu305, uk_up_at]; exact if_pos ⟨rfl, rfl⟩
                      have T307 : u305.1 2 1 = t292 := by rw [eu305, uk_up_at, if_neg (by decide)]; exact Tt292
                      have T308 : u305.1 2 2 = i290 := by rw [eu305, uk_up_at, if_neg (by decide)]; exact ki290
                      have T309 : u305.1 2 4 = t294 := by rw [eu305, uk_up_at, if_neg (by decide)]; exact Tt294
                      have T310 : u305.1 2 5 = t295 := by rw [eu305, uk_up_at, if_neg (by decide)]; exact Tt295
                      exact g_vret dX4_readToken_214 rfl ⟨rfl, hu305, fu305, (T307.trans (Tt292.symm.trans ji2900)), (by rw [T309, s306, T310, T308]; exact TJ_e hj EX (fun z1 z2 => by grind) (fun z1 z2 => by grind) (fun z1 => by grind))⟩
                · refine g_aload_n dX4_readToken_120 rfl ?_
                  refine f_X4_9 rfl rfl dX4_readToken_121 ?_
                  refine g_aload_n dX4_readToken_124 rfl ?_
                  refine f_X4_19 rfl rfl dX4_readToken_125 ?_
                  refine g_topi (fun x311 ex311 => ?_)
                  have rx311 : 0 ≤ x311 ∧ x311 ≤ 160 := by rw [ex311]; exact iv_at hu291 _ _ rfl
                  have qx311 : x311 = i290 := ex311.trans ki290
                  have v312 : vp_in x311 160 := uk_vin 160 rfl (by first | decide | lia | grind) (by first | decide | lia | grind)
                  refine g_bald rfl rfl v312 dX4_readToken_128 ?_
                  refine g_topi (fun x313 ex313 => ?_)
                  have lx313 : x313 = u.1 3 (i290 : Int32).toNatClampNeg := by rw [ex313, show (x311 : Int32) = i290 by grind]; exact congrFun (fu291.1 3 (by omega)) _
                  refine cl_X4_31 (As := [.int x313]) rfl (c_X4_tokenFrom_s (G := G) hs hu291  x313  (d)) rfl (by omega) rfl (Nat.le_of_ble_eq_true rfl) dX4_readToken_129 (fun r314 u315 q316 => ?_)
                  obtain ⟨⟨x317, rfl, tx317⟩, mq316⟩ := q316
                  rw [mq316]
                  refine g_aload_n dX4_readToken_132 rfl ?_
                  refine f_X4_22 rfl rfl dX4_readToken_133 ?_
                  refine g_topi (fun x318 ex318 => ?_)
                  have qx318 : x318 = t293 := ex318.trans Tt293
                  refine g_icmp_ne (tgt := 188) dX4_readToken_136 (by decide) (fun c319 => ?_) (fun c319 => ?_)
                  · have EX : ¬ (i290 < u.1 2 1 ∧ tf (u.1 3 i290.toNatClampNeg) t293) := fun z => absurd (tf_uq tx317 (by rw [lx313]; exact z.2)) (by grind)
                    refine g_aload_n dX4_readToken_188 rfl ?_
                    refine f_X4_22 rfl rfl dX4_readToken_189 ?_
                    refine g_topi (fun x320 ex320 => ?_)
                    have qx320 : x320 = t293 := ex320.trans Tt293
                    refine g_iconst (v := 2) dX4_readToken_192 (by decide) ?_
                    refine g_icmp_ne (tgt := 214) dX4_readToken_193 (by decide) (fun c321 => ?_) (fun c321 => ?_)
                    · exact g_vret dX4_readToken_214 rfl ⟨rfl, hu291, fu291, (Tt292.trans (Tt292.symm.trans ji2900)), (by rw [Tt294, Tt293, Tt295, ki290]; exact TJ_e hj EX (fun z1 z2 => by grind) (fun z1 z2 => by grind) (fun z1 => by grind))⟩
                    · refine g_aload_n dX4_readToken_196 rfl ?_
                      refine f_X4_19 rfl rfl dX4_readToken_197 ?_
                      refine g_topi (fun x322 ex322 => ?_)
                      have rx322 : 0 ≤ x322 ∧ x322 ≤ 160 := by rw [ex322]; exact iv_at hu291 _ _ rfl
                      have qx322 : x322 = i290 := ex322.trans ki290
                      refine g_aload_n dX4_readToken_200 rfl ?_
                      refine f_X4_25 rfl rfl dX4_readToken_201 ?_
                      refine g_topi (fun x323 ex323 => ?_)
                      have rx323 : 0 ≤ x323 ∧ x323 ≤ 160 := by rw [ex323]; exact iv_at hu291 _ _ rfl
                      have qx323 : x323 = t294 := ex323.trans Tt294
                      refine g_isub dX4_readToken_204 ?_
                      refine g_topi (fun x324 ex324 => ?_)
                      refine g_iconst (v := 2) dX4_readToken_205 (by decide) ?_
                      refine g_icmp_le (tgt := 214) dX4_readToken_206 (by decide) (fun c325 => ?_) (fun c325 => ?_)
                      · exact g_vret dX4_readToken_214 rfl ⟨rfl, hu291, fu291, (Tt292.trans (Tt292.symm.trans ji2900)), (by rw [Tt294, Tt293, Tt295, ki290]; exact TJ_e hj EX (fun z1 z2 => by grind) (fun z1 z2 => by grind) (fun z1 => by grind))⟩
                      · refine g_aload_n dX4_readToken_209 rfl ?_
                        refine g_iconst (v := 4) dX4_readToken_210 (by decide) ?_
                        refine p_X4_22 rfl rfl dX4_readToken_211 ?_
                        refine g_mem (fun u326 eu326 => ?_)
                        have hu326 : iv u326 := by rw [eu326]; exact iv_upF hu291 rfl
                        have fu326 : fr 2 3 u u326 := by rw [eu326]; exact fr_up fu291 (by omega) (by omega)
                        have s327 : u326.1 2 3 = 4 := by rw [eu326, uk_up_at]; exact if_pos ⟨rfl, rfl⟩
                        have T328 : u326.1 2 1 = t292 := by rw [eu326, uk_up_at, if_neg (by decide)]; exact Tt292
                        have T329 : u326.1 2 2 = i290 := by rw [eu326, uk_up_at, if_neg (by decide)]; exact ki290
                        have T330 : u326.1 2 4 = t294 := by rw [eu326, uk_up_at, if_neg (by decide)]; exact Tt294
                        have T331 : u326.1 2 5 = t295 := by rw [eu326, uk_up_at, if_neg (by decide)]; exact Tt295
                        exact g_vret dX4_readToken_214 rfl ⟨rfl, hu326, fu326, (T328.trans (Tt292.symm.trans ji2900)), (by rw [T330, s327, T331, T329]; exact TJ_e hj EX (fun z1 z2 => by grind) (fun z1 z2 => by grind) (fun z1 => by grind))⟩
                  · refine g_aload_n dX4_readToken_139 rfl ?_
                    refine g_aload_n dX4_readToken_140 rfl ?_
                    refine f_X4_22 rfl rfl dX4_readToken_141 ?_
                    refine g_topi (fun x332 ex332 => ?_)
                    have qx332 : x332 = t293 := ex332.trans Tt293
                    refine g_iconst (v := 2) dX4_readToken_144 (by decide) ?_
                    refine g_icmp_ne (tgt := 171) dX4_readToken_145 (by decide) (fun c333 => ?_) (fun c333 => ?_)
                    · refine g_iconst (v := 0) dX4_readToken_171 (by decide) ?_
                      refine p_X4_28 rfl rfl dX4_readToken_172 ?_
                      refine g_mem (fun u334 eu334 => ?_)
                      have hu334 : iv u334 := by rw [eu334]; exact iv_upF hu291 rfl
                      have fu334 : fr 2 3 u u334 := by rw [eu334]; exact fr_up fu291 (by omega) (by omega)
                      have s335 : u334.1 2 5 = 0 := by rw [eu334, uk_up_at]; exact if_pos ⟨rfl, rfl⟩
                      have T336 : u334.1 2 1 = t292 := by rw [eu334, uk_up_at, if_neg (by decide)]; exact Tt292
                      have T337 : u334.1 2 2 = i290 := by rw [eu334, uk_up_at, if_neg (by decide)]; exact ki290
                      have T338 : u334.1 2 3 = t293 := by rw [eu334, uk_up_at, if_neg (by decide)]; exact Tt293
                      have T339 : u334.1 2 4 = t294 := by rw [eu334, uk_up_at, if_neg (by decide)]; exact Tt294
                      refine g_aload_n dX4_readToken_175 rfl ?_
                      refine g_dup dX4_readToken_176 rfl ?_
                      refine f_X4_19 rfl rfl dX4_readToken_177 ?_
                      refine g_topi (fun x340 ex340 => ?_)
                      have rx340 : 0 ≤ x340 ∧ x340 ≤ 160 := by rw [ex340]; exact iv_at hu334 _ _ rfl
                      have qx340 : x340 = i290 := ex340.trans T337
                      refine g_iconst (v := 1) dX4_readToken_180 (by decide) ?_
                      refine g_iadd dX4_readToken_181 ?_
                      refine g_topi (fun x341 ex341 => ?_)
                      refine p_X4_19 rfl rfl dX4_readToken_182 ?_
                      refine g_mem (fun u342 eu342 => ?_)
                      have hu342 : iv u342 := by rw [eu342]; exact iv_up hu334 rfl (by first | lia | grind) (by first | lia | grind)
                      have fu342 : fr 2 3 u u342 := by rw [eu342]; exact fr_up fu334 (by omega) (by omega)
                      have s343 : u342.1 2 2 = x341 := by rw [eu342, uk_up_at]; exact if_pos ⟨rfl, rfl⟩
                      have T344 : u342.1 2 1 = t292 := by rw [eu342, uk_up_at, if_neg (by decide)]; exact T336
                      have T345 : u342.1 2 3 = t293 := by rw [eu342, uk_up_at, if_neg (by decide)]; exact T338
                      have T346 : u342.1 2 4 = t294 := by rw [eu342, uk_up_at, if_neg (by decide)]; exact T339
                      have T347 : u342.1 2 5 = 0 := by rw [eu342, uk_up_at, if_neg (by decide)]; exact s335
                      refine g_goto (tgt := 109) dX4_readToken_185 (by decide) ?_
                      refine g_pick (lv' := [(0, .ref (uk_ad G 2))]) [0] rfl ?_
                      exact ihi290 (by first | lia | grind) u342 hu342 fu342 (s343.trans (by first | lia | grind)) (T344.trans (Tt292.symm.trans ji2900)) (by rw [T346, T345, T347, s343]; exact TJ_s hj (by grind) (by grind) (by grind) lx313.symm (by rw [show t293 = x317 by grind]; exact tx317) (fun z z9 => by grind) (by grind))
                    · refine g_aload_n dX4_readToken_148 rfl ?_
                      refine f_X4_28 rfl rfl dX4_readToken_149 ?_
                      refine g_topi (fun x348 ex348 => ?_)
                      have qx348 : x348 = t295 := ex348.trans Tt295
                      refine g_bipush (v := 10) dX4_readToken_152 (by decide) ?_
                      refine g_imul dX4_readToken_154 ?_
                      refine g_topi (fun x349 ex349 => ?_)
                      refine g_aload_n dX4_readToken_155 rfl ?_
                      refine f_X4_9 rfl rfl dX4_readToken_156 ?_
                      refine g_aload_n dX4_readToken_159 rfl ?_
                      refine f_X4_19 rfl rfl dX4_readToken_160 ?_
                      refine g_topi (fun x350 ex350 => ?_)
                      have rx350 : 0 ≤ x350 ∧ x350 ≤ 160 := by rw [ex350]; exact iv_at hu291 _ _ rfl
                      have qx350 : x350 = i290 := ex350.trans ki290
                      have v351 : vp_in x350 160 := uk_vin 160 rfl (by first | decide | lia | grind) (by first | decide | lia | grind)
                      refine g_bald rfl rfl v351 dX4_readToken_163 ?_
                      refine g_topi (fun x352 ex352 => ?_)
                      have lx352 : x352 = u.1 3 (i290 : Int32).toNatClampNeg := by rw [ex352, show (x350 : Int32) = i290 by grind]; exact congrFun (fu291.1 3 (by omega)) _
                      refine g_iadd dX4_readToken_164 ?_
                      refine g_topi (fun x353 ex353 => ?_)
                      refine g_bipush (v := 48) dX4_readToken_165 (by decide) ?_
                      refine g_isub dX4_readToken_167 ?_
                      refine g_topi (fun x354 ex354 => ?_)
                      refine g_goto (tgt := 172) dX4_readToken_168 (by decide) ?_
                      refine p_X4_28 rfl rfl dX4_readToken_172 ?_
                      refine g_mem (fun u355 eu355 => ?_)
                      have hu355 : iv u355 := by rw [eu355]; exact iv_upF hu291 rfl
                      have fu355 : fr 2 3 u u355 := by rw [eu355]; exact fr_up fu291 (by omega) (by omega)
                      have s356 : u355.1 2 5 = x354 := by rw [eu355, uk_up_at]; exact if_pos ⟨rfl, rfl⟩
                      have T357 : u355.1 2 1 = t292 := by rw [eu355, uk_up_at, if_neg (by decide)]; exact Tt292
                      have T358 : u355.1 2 2 = i290 := by rw [eu355, uk_up_at, if_neg (by decide)]; exact ki290
                      have T359 : u355.1 2 3 = t293 := by rw [eu355, uk_up_at, if_neg (by decide)]; exact Tt293
                      have T360 : u355.1 2 4 = t294 := by rw [eu355, uk_up_at, if_neg (by decide)]; exact Tt294
                      refine g_aload_n dX4_readToken_175 rfl ?_
                      refine g_dup dX4_readToken_176 rfl ?_
                      refine f_X4_19 rfl rfl dX4_readToken_177 ?_
                      refine g_topi (fun x361 ex361 => ?_)
                      have rx361 : 0 ≤ x361 ∧ x361 ≤ 160 := by rw [ex361]; exact iv_at hu355 _ _ rfl
                      have qx361 : x361 = i290 := ex361.trans T358
                      refine g_iconst (v := 1) dX4_readToken_180 (by decide) ?_
                      refine g_iadd dX4_readToken_181 ?_
                      refine g_topi (fun x362 ex362 => ?_)
                      refine p_X4_19 rfl rfl dX4_readToken_182 ?_
                      refine g_mem (fun u363 eu363 => ?_)
                      have hu363 : iv u363 := by rw [eu363]; exact iv_up hu355 rfl (by first | lia | grind) (by first | lia | grind)
                      have fu363 : fr 2 3 u u363 := by rw [eu363]; exact fr_up fu355 (by omega) (by omega)
                      have s364 : u363.1 2 2 = x362 := by rw [eu363, uk_up_at]; exact if_pos ⟨rfl, rfl⟩
                      have T365 : u363.1 2 1 = t292 := by rw [eu363, uk_up_at, if_neg (by decide)]; exact T357
                      have T366 : u363.1 2 3 = t293 := by rw [eu363, uk_up_at, if_neg (by decide)]; exact T359
                      have T367 : u363.1 2 4 = t294 := by rw [eu363, uk_up_at, if_neg (by decide)]; exact T360
                      have T368 : u363.1 2 5 = x354 := by rw [eu363, uk_up_at, if_neg (by decide)]; exact s356
                      refine g_goto (tgt := 109) dX4_readToken_185 (by decide) ?_
                      refine g_pick (lv' := [(0, .ref (uk_ad G 2))]) [0] rfl ?_
                      exact ihi290 (by first | lia | grind) u363 hu363 fu363 (s364.trans (by first | lia | grind)) (T365.trans (Tt292.symm.trans ji2900)) (by rw [T367, T366, T368, s364]; exact TJ_s hj (by grind) (by grind) (by grind) lx313.symm (by rw [show t293 = x317 by grind]; exact tx317) (fun z z9 => by grind) (by grind))
              refine g_pick (lv' := [(0, .ref (uk_ad G 2))]) [0] rfl ?_
              exact L109_288 (u271.1 2 2) (iv_at hu271 _ _ rfl).1 (iv_at hu271 _ _ rfl).2  u271 hu271 fu271 rfl (T273.trans (Tt9.symm.trans ji70)) (by rw [T275, s272, T276, T274]; rw [show x255 = i7 by grind]; exact TJ_0 RN (by grind))
            · refine g_aload_n dX4_readToken_98 rfl ?_
              refine g_dup dX4_readToken_99 rfl ?_
              refine f_X4_19 rfl rfl dX4_readToken_100 ?_
              refine g_topi (fun x369 ex369 => ?_)
              have rx369 : 0 ≤ x369 ∧ x369 ≤ 160 := by rw [ex369]; exact iv_at hu271 _ _ rfl
              have qx369 : x369 = i7 := ex369.trans T274
              refine g_iconst (v := 1) dX4_readToken_103 (by decide) ?_
              refine g_iadd dX4_readToken_104 ?_
              refine g_topi (fun x370 ex370 => ?_)
              refine p_X4_19 rfl rfl dX4_readToken_105 ?_
              refine g_mem (fun u371 eu371 => ?_)
              have hu371 : iv u371 := by rw [eu371]; exact iv_up hu271 rfl (by first | lia | grind) (by first | lia | grind)
              have fu371 : fr 2 3 u u371 := by rw [eu371]; exact fr_up fu271 (by omega) (by omega)
              have s372 : u371.1 2 2 = x370 := by rw [eu371, uk_up_at]; exact if_pos ⟨rfl, rfl⟩
              have T373 : u371.1 2 1 = t9 := by rw [eu371, uk_up_at, if_neg (by decide)]; exact T273
              have T374 : u371.1 2 3 = 0 := by rw [eu371, uk_up_at, if_neg (by decide)]; exact s272
              have T375 : u371.1 2 4 = x255 := by rw [eu371, uk_up_at, if_neg (by decide)]; exact T275
              have T376 : u371.1 2 5 = 0 := by rw [eu371, uk_up_at, if_neg (by decide)]; exact T276
              exact g_vret dX4_readToken_108 rfl ⟨rfl, hu371, fu371, (T373.trans (Tt9.symm.trans ji70)), (by exfalso; grind)⟩
        · refine g_aload_n dX4_readToken_63 rfl ?_
          refine f_X4_9 rfl rfl dX4_readToken_64 ?_
          refine g_aload_n dX4_readToken_67 rfl ?_
          refine f_X4_19 rfl rfl dX4_readToken_68 ?_
          refine g_topi (fun x377 ex377 => ?_)
          have rx377 : 0 ≤ x377 ∧ x377 ≤ 160 := by rw [ex377]; exact iv_at hu262 _ _ rfl
          have qx377 : x377 = i7 := ex377.trans T265
          have v378 : vp_in x377 160 := uk_vin 160 rfl (by first | decide | lia | grind) (by first | decide | lia | grind)
          refine g_bald rfl rfl v378 dX4_readToken_71 ?_
          refine g_topi (fun x379 ex379 => ?_)
          have lx379 : x379 = u.1 3 (i7 : Int32).toNatClampNeg := by rw [ex379, show (x377 : Int32) = i7 by grind]; exact congrFun (fu262.1 3 (by omega)) _
          refine cl_X4_31 (As := [.int x379]) rfl (c_X4_tokenFrom_s (G := G) hs hu262  x379  (d)) rfl (by omega) rfl (Nat.le_of_ble_eq_true rfl) dX4_readToken_72 (fun r380 u381 q382 => ?_)
          obtain ⟨⟨x383, rfl, tx383⟩, mq382⟩ := q382
          rw [mq382]
          refine g_goto (tgt := 79) dX4_readToken_75 (by decide) ?_
          refine p_X4_22 rfl rfl dX4_readToken_79 ?_
          refine g_mem (fun u384 eu384 => ?_)
          have hu384 : iv u384 := by rw [eu384]; exact iv_upF hu262 rfl
          have fu384 : fr 2 3 u u384 := by rw [eu384]; exact fr_up fu262 (by omega) (by omega)
          have s385 : u384.1 2 3 = x383 := by rw [eu384, uk_up_at]; exact if_pos ⟨rfl, rfl⟩
          have T386 : u384.1 2 1 = t9 := by rw [eu384, uk_up_at, if_neg (by decide)]; exact T264
          have T387 : u384.1 2 2 = i7 := by rw [eu384, uk_up_at, if_neg (by decide)]; exact T265
          have T388 : u384.1 2 4 = x255 := by rw [eu384, uk_up_at, if_neg (by decide)]; exact T267
          have T389 : u384.1 2 5 = 0 := by rw [eu384, uk_up_at, if_neg (by decide)]; exact s263
          refine g_aload_n dX4_readToken_82 rfl ?_
          refine f_X4_22 rfl rfl dX4_readToken_83 ?_
          refine g_topi (fun x390 ex390 => ?_)
          have qx390 : x390 = x383 := ex390.trans s385
          refine g_iconst (v := 3) dX4_readToken_86 (by decide) ?_
          refine g_icmp_eq (tgt := 98) dX4_readToken_87 (by decide) (fun c391 => ?_) (fun c391 => ?_)
          · refine g_aload_n dX4_readToken_98 rfl ?_
            refine g_dup dX4_readToken_99 rfl ?_
            refine f_X4_19 rfl rfl dX4_readToken_100 ?_
            refine g_topi (fun x392 ex392 => ?_)
            have rx392 : 0 ≤ x392 ∧ x392 ≤ 160 := by rw [ex392]; exact iv_at hu384 _ _ rfl
            have qx392 : x392 = i7 := ex392.trans T387
            refine g_iconst (v := 1) dX4_readToken_103 (by decide) ?_
            refine g_iadd dX4_readToken_104 ?_
            refine g_topi (fun x393 ex393 => ?_)
            refine p_X4_19 rfl rfl dX4_readToken_105 ?_
            refine g_mem (fun u394 eu394 => ?_)
            have hu394 : iv u394 := by rw [eu394]; exact iv_up hu384 rfl (by first | lia | grind) (by first | lia | grind)
            have fu394 : fr 2 3 u u394 := by rw [eu394]; exact fr_up fu384 (by omega) (by omega)
            have s395 : u394.1 2 2 = x393 := by rw [eu394, uk_up_at]; exact if_pos ⟨rfl, rfl⟩
            have T396 : u394.1 2 1 = t9 := by rw [eu394, uk_up_at, if_neg (by decide)]; exact T386
            have T397 : u394.1 2 3 = x383 := by rw [eu394, uk_up_at, if_neg (by decide)]; exact s385
            have T398 : u394.1 2 4 = x255 := by rw [eu394, uk_up_at, if_neg (by decide)]; exact T388
            have T399 : u394.1 2 5 = 0 := by rw [eu394, uk_up_at, if_neg (by decide)]; exact T389
            exact g_vret dX4_readToken_108 rfl ⟨rfl, hu394, fu394, (T396.trans (Tt9.symm.trans ji70)), (by rw [T398, T397, T399, s395]; rw [show x255 = i7 by grind]; exact TK_3 RN NN (by grind) (by rw [← lx379]; exact tx383) (by grind) (by grind) (by grind))⟩
          · refine g_aload_n dX4_readToken_90 rfl ?_
            refine f_X4_22 rfl rfl dX4_readToken_91 ?_
            refine g_topi (fun x400 ex400 => ?_)
            have qx400 : x400 = x383 := ex400.trans s385
            refine g_iconst (v := 4) dX4_readToken_94 (by decide) ?_
            refine g_icmp_ne (tgt := 109) dX4_readToken_95 (by decide) (fun c401 => ?_) (fun c401 => ?_)
            · have L109_401 : ∀ i403 : Int32, 0 ≤ i403 → i403 ≤ 160 → ∀ (u404 : uk_Mem), iv u404 → fr 2 3 u u404 → u404.1 2 2 = i403 → u404.1 2 1 = u.1 2 1 → TJ (u.1 3) (u.1 2 1) (u.1 2 2) (u404.1 2 4) (u404.1 2 3) (u404.1 2 5) (u404.1 2 2) → uk_G G X mX4_readToken (d + 1) (q_X4_readToken_s u) 109 [(0, .ref (uk_ad G 2))] [] u404 := by
                refine uk_upl 160 ?_
                intro i403 ai403 bi403 ihi403  u404 hu404 fu404 ki403 ji4030 ji4031
                obtain ⟨t405, Tt405⟩ : ∃ t, u404.1 2 1 = t := ⟨_, rfl⟩
                have Rt405 : 0 ≤ t405 ∧ t405 ≤ 160 := by rw [← Tt405]; exact iv_at hu404 _ _ rfl
                obtain ⟨t406, Tt406⟩ : ∃ t, u404.1 2 3 = t := ⟨_, rfl⟩
                obtain ⟨t407, Tt407⟩ : ∃ t, u404.1 2 4 = t := ⟨_, rfl⟩
                have Rt407 : 0 ≤ t407 ∧ t407 ≤ 160 := by rw [← Tt407]; exact iv_at hu404 _ _ rfl
                obtain ⟨t408, Tt408⟩ : ∃ t, u404.1 2 5 = t := ⟨_, rfl⟩
                refine g_aload_n dX4_readToken_109 rfl ?_
                refine f_X4_19 rfl rfl dX4_readToken_110 ?_
                refine g_topi (fun x409 ex409 => ?_)
                have rx409 : 0 ≤ x409 ∧ x409 ≤ 160 := by rw [ex409]; exact iv_at hu404 _ _ rfl
                have qx409 : x409 = i403 := ex409.trans ki403
                have hj : TJ (u.1 3) (u.1 2 1) (u.1 2 2) t407 t406 t408 i403 := by rw [← Tt407, ← Tt406, ← Tt408, ← ki403]; exact ji4031
                refine g_aload_n dX4_readToken_113 rfl ?_
                refine f_X4_15 rfl rfl dX4_readToken_114 ?_
                refine g_topi (fun x410 ex410 => ?_)
                have rx410 : 0 ≤ x410 ∧ x410 ≤ 160 := by rw [ex410]; exact iv_at hu404 _ _ rfl
                have qx410 : x410 = t405 := ex410.trans Tt405
                refine g_icmp_ge (tgt := 188) dX4_readToken_117 (by decide) (fun c411 => ?_) (fun c411 => ?_)
                · have EX : ¬ (i403 < u.1 2 1 ∧ tf (u.1 3 i403.toNatClampNeg) t406) := fun z => by have z1 := z.1; grind
                  refine g_aload_n dX4_readToken_188 rfl ?_
                  refine f_X4_22 rfl rfl dX4_readToken_189 ?_
                  refine g_topi (fun x412 ex412 => ?_)
                  have qx412 : x412 = t406 := ex412.trans Tt406
                  refine g_iconst (v := 2) dX4_readToken_192 (by decide) ?_
                  refine g_icmp_ne (tgt := 214) dX4_readToken_193 (by decide) (fun c413 => ?_) (fun c413 => ?_)
                  · exact g_vret dX4_readToken_214 rfl ⟨rfl, hu404, fu404, (Tt405.trans (Tt405.symm.trans ji4030)), (by rw [Tt407, Tt406, Tt408, ki403]; exact TJ_e hj EX (fun z1 z2 => by grind) (fun z1 z2 => by grind) (fun z1 => by grind))⟩
                  · refine g_aload_n dX4_readToken_196 rfl ?_
                    refine f_X4_19 rfl rfl dX4_readToken_197 ?_
                    refine g_topi (fun x414 ex414 => ?_)
                    have rx414 : 0 ≤ x414 ∧ x414 ≤ 160 := by rw [ex414]; exact iv_at hu404 _ _ rfl
                    have qx414 : x414 = i403 := ex414.trans ki403
                    refine g_aload_n dX4_readToken_200 rfl ?_
                    refine f_X4_25 rfl rfl dX4_readToken_201 ?_
                    refine g_topi (fun x415 ex415 => ?_)
                    have rx415 : 0 ≤ x415 ∧ x415 ≤ 160 := by rw [ex415]; exact iv_at hu404 _ _ rfl
                    have qx415 : x415 = t407 := ex415.trans Tt407
                    refine g_isub dX4_readToken_204 ?_
                    refine g_topi (fun x416 ex416 => ?_)
                    refine g_iconst (v := 2) dX4_readToken_205 (by decide) ?_
                    refine g_icmp_le (tgt := 214) dX4_readToken_206 (by decide) (fun c417 => ?_) (fun c417 => ?_)
                    · exact g_vret dX4_readToken_214 rfl ⟨rfl, hu404, fu404, (Tt405.trans (Tt405.symm.trans ji4030)), (by rw [Tt407, Tt406, Tt408, ki403]; exact TJ_e hj EX (fun z1 z2 => by grind) (fun z1 z2 => by grind) (fun z1 => by grind))⟩
                    · refine g_aload_n dX4_readToken_209 rfl ?_
                      refine g_iconst (v := 4) dX4_readToken_210 (by decide) ?_
                      refine p_X4_22 rfl rfl dX4_readToken_211 ?_
                      refine g_mem (fun u418 eu418 => ?_)
                      have hu418 : iv u418 := by rw [eu418]; exact iv_upF hu404 rfl
                      have fu418 : fr 2 3 u u418 := by rw [eu418]; exact fr_up fu404 (by omega) (by omega)
                      have s419 : u418.1 2 3 = 4 := by rw [eu418, uk_up_at]; exact if_pos ⟨rfl, rfl⟩
                      have T420 : u418.1 2 1 = t405 := by rw [eu418, uk_up_at, if_neg (by decide)]; exact Tt405
                      have T421 : u418.1 2 2 = i403 := by rw [eu418, uk_up_at, if_neg (by decide)]; exact ki403
                      have T422 : u418.1 2 4 = t407 := by rw [eu418, uk_up_at, if_neg (by decide)]; exact Tt407
                      have T423 : u418.1 2 5 = t408 := by rw [eu418, uk_up_at, if_neg (by decide)]; exact Tt408
                      exact g_vret dX4_readToken_214 rfl ⟨rfl, hu418, fu418, (T420.trans (Tt405.symm.trans ji4030)), (by rw [T422, s419, T423, T421]; exact TJ_e hj EX (fun z1 z2 => by grind) (fun z1 z2 => by grind) (fun z1 => by grind))⟩
                · refine g_aload_n dX4_readToken_120 rfl ?_
                  refine f_X4_9 rfl rfl dX4_readToken_121 ?_
                  refine g_aload_n dX4_readToken_124 rfl ?_
                  refine f_X4_19 rfl rfl dX4_readToken_125 ?_
                  refine g_topi (fun x424 ex424 => ?_)
                  have rx424 : 0 ≤ x424 ∧ x424 ≤ 160 := by rw [ex424]; exact iv_at hu404 _ _ rfl
                  have qx424 : x424 = i403 := ex424.trans ki403
                  have v425 : vp_in x424 160 := uk_vin 160 rfl (by first | decide | lia | grind) (by first | decide | lia | grind)
                  refine g_bald rfl rfl v425 dX4_readToken_128 ?_
                  refine g_topi (fun x426 ex426 => ?_)
                  have lx426 : x426 = u.1 3 (i403 : Int32).toNatClampNeg := by rw [ex426, show (x424 : Int32) = i403 by grind]; exact congrFun (fu404.1 3 (by omega)) _
                  refine cl_X4_31 (As := [.int x426]) rfl (c_X4_tokenFrom_s (G := G) hs hu404  x426  (d)) rfl (by omega) rfl (Nat.le_of_ble_eq_true rfl) dX4_readToken_129 (fun r427 u428 q429 => ?_)
                  obtain ⟨⟨x430, rfl, tx430⟩, mq429⟩ := q429
                  rw [mq429]
                  refine g_aload_n dX4_readToken_132 rfl ?_
                  refine f_X4_22 rfl rfl dX4_readToken_133 ?_
                  refine g_topi (fun x431 ex431 => ?_)
                  have qx431 : x431 = t406 := ex431.trans Tt406
                  refine g_icmp_ne (tgt := 188) dX4_readToken_136 (by decide) (fun c432 => ?_) (fun c432 => ?_)
                  · have EX : ¬ (i403 < u.1 2 1 ∧ tf (u.1 3 i403.toNatClampNeg) t406) := fun z => absurd (tf_uq tx430 (by rw [lx426]; exact z.2)) (by grind)
                    refine g_aload_n dX4_readToken_188 rfl ?_
                    refine f_X4_22 rfl rfl dX4_readToken_189 ?_
                    refine g_topi (fun x433 ex433 => ?_)
                    have qx433 : x433 = t406 := ex433.trans Tt406
                    refine g_iconst (v := 2) dX4_readToken_192 (by decide) ?_
                    refine g_icmp_ne (tgt := 214) dX4_readToken_193 (by decide) (fun c434 => ?_) (fun c434 => ?_)
                    · exact g_vret dX4_readToken_214 rfl ⟨rfl, hu404, fu404, (Tt405.trans (Tt405.symm.trans ji4030)), (by rw [Tt407, Tt406, Tt408, ki403]; exact TJ_e hj EX (fun z1 z2 => by grind) (fun z1 z2 => by grind) (fun z1 => by grind))⟩
                    · refine g_aload_n dX4_readToken_196 rfl ?_
                      refine f_X4_19 rfl rfl dX4_readToken_197 ?_
                      refine g_topi (fun x435 ex435 => ?_)
                      have rx435 : 0 ≤ x435 ∧ x435 ≤ 160 := by rw [ex435]; exact iv_at hu404 _ _ rfl
                      have qx435 : x435 = i403 := ex435.trans ki403
                      refine g_aload_n dX4_readToken_200 rfl ?_
                      refine f_X4_25 rfl rfl dX4_readToken_201 ?_
                      refine g_topi (fun x436 ex436 => ?_)
                      have rx436 : 0 ≤ x436 ∧ x436 ≤ 160 := by rw [ex436]; exact iv_at hu404 _ _ rfl
                      have qx436 : x436 = t407 := ex436.trans Tt407
                      refine g_isub dX4_readToken_204 ?_
                      refine g_topi (fun x437 ex437 => ?_)
                      refine g_iconst (v := 2) dX4_readToken_205 (by decide) ?_
                      refine g_icmp_le (tgt := 214) dX4_readToken_206 (by decide) (fun c438 => ?_) (fun c438 => ?_)
                      · exact g_vret dX4_readToken_214 rfl ⟨rfl, hu404, fu404, (Tt405.trans (Tt405.symm.trans ji4030)), (by rw [Tt407, Tt406, Tt408, ki403]; exact TJ_e hj EX (fun z1 z2 => by grind) (fun z1 z2 => by grind) (fun z1 => by grind))⟩
                      · refine g_aload_n dX4_readToken_209 rfl ?_
                        refine g_iconst (v := 4) dX4_readToken_210 (by decide) ?_
                        refine p_X4_22 rfl rfl dX4_readToken_211 ?_
                        refine g_mem (fun u439 eu439 => ?_)
                        have hu439 : iv u439 := by rw [eu439]; exact iv_upF hu404 rfl
                        have fu439 : fr 2 3 u u439 := by rw [eu439]; exact fr_up fu404 (by omega) (by omega)
                        have s440 : u439.1 2 3 = 4 := by rw [eu439, uk_up_at]; exact if_pos ⟨rfl, rfl⟩
                        have T441 : u439.1 2 1 = t405 := by rw [eu439, uk_up_at, if_neg (by decide)]; exact Tt405
                        have T442 : u439.1 2 2 = i403 := by rw [eu439, uk_up_at, if_neg (by decide)]; exact ki403
                        have T443 : u439.1 2 4 = t407 := by rw [eu439, uk_up_at, if_neg (by decide)]; exact Tt407
                        have T444 : u439.1 2 5 = t408 := by rw [eu439, uk_up_at, if_neg (by decide)]; exact Tt408
                        exact g_vret dX4_readToken_214 rfl ⟨rfl, hu439, fu439, (T441.trans (Tt405.symm.trans ji4030)), (by rw [T443, s440, T444, T442]; exact TJ_e hj EX (fun z1 z2 => by grind) (fun z1 z2 => by grind) (fun z1 => by grind))⟩
                  · refine g_aload_n dX4_readToken_139 rfl ?_
                    refine g_aload_n dX4_readToken_140 rfl ?_
                    refine f_X4_22 rfl rfl dX4_readToken_141 ?_
                    refine g_topi (fun x445 ex445 => ?_)
                    have qx445 : x445 = t406 := ex445.trans Tt406
                    refine g_iconst (v := 2) dX4_readToken_144 (by decide) ?_
                    refine g_icmp_ne (tgt := 171) dX4_readToken_145 (by decide) (fun c446 => ?_) (fun c446 => ?_)
                    · refine g_iconst (v := 0) dX4_readToken_171 (by decide) ?_
                      refine p_X4_28 rfl rfl dX4_readToken_172 ?_
                      refine g_mem (fun u447 eu447 => ?_)
                      have hu447 : iv u447 := by rw [eu447]; exact iv_upF hu404 rfl
                      have fu447 : fr 2 3 u u447 := by rw [eu447]; exact fr_up fu404 (by omega) (by omega)
                      have s448 : u447.1 2 5 = 0 := by rw [eu447, uk_up_at]; exact if_pos ⟨rfl, rfl⟩
                      have T449 : u447.1 2 1 = t405 := by rw [eu447, uk_up_at, if_neg (by decide)]; exact Tt405
                      have T450 : u447.1 2 2 = i403 := by rw [eu447, uk_up_at, if_neg (by decide)]; exact ki403
                      have T451 : u447.1 2 3 = t406 := by rw [eu447, uk_up_at, if_neg (by decide)]; exact Tt406
                      have T452 : u447.1 2 4 = t407 := by rw [eu447, uk_up_at, if_neg (by decide)]; exact Tt407
                      refine g_aload_n dX4_readToken_175 rfl ?_
                      refine g_dup dX4_readToken_176 rfl ?_
                      refine f_X4_19 rfl rfl dX4_readToken_177 ?_
                      refine g_topi (fun x453 ex453 => ?_)
                      have rx453 : 0 ≤ x453 ∧ x453 ≤ 160 := by rw [ex453]; exact iv_at hu447 _ _ rfl
                      have qx453 : x453 = i403 := ex453.trans T450
                      refine g_iconst (v := 1) dX4_readToken_180 (by decide) ?_
                      refine g_iadd dX4_readToken_181 ?_
                      refine g_topi (fun x454 ex454 => ?_)
                      refine p_X4_19 rfl rfl dX4_readToken_182 ?_
                      refine g_mem (fun u455 eu455 => ?_)
                      have hu455 : iv u455 := by rw [eu455]; exact iv_up hu447 rfl (by first | lia | grind) (by first | lia | grind)
                      have fu455 : fr 2 3 u u455 := by rw [eu455]; exact fr_up fu447 (by omega) (by omega)
                      have s456 : u455.1 2 2 = x454 := by rw [eu455, uk_up_at]; exact if_pos ⟨rfl, rfl⟩
                      have T457 : u455.1 2 1 = t405 := by rw [eu455, uk_up_at, if_neg (by decide)]; exact T449
                      have T458 : u455.1 2 3 = t406 := by rw [eu455, uk_up_at, if_neg (by decide)]; exact T451
                      have T459 : u455.1 2 4 = t407 := by rw [eu455, uk_up_at, if_neg (by decide)]; exact T452
                      have T460 : u455.1 2 5 = 0 := by rw [eu455, uk_up_at, if_neg (by decide)]; exact s448
                      refine g_goto (tgt := 109) dX4_readToken_185 (by decide) ?_
                      refine g_pick (lv' := [(0, .ref (uk_ad G 2))]) [0] rfl ?_
                      exact ihi403 (by first | lia | grind) u455 hu455 fu455 (s456.trans (by first | lia | grind)) (T457.trans (Tt405.symm.trans ji4030)) (by rw [T459, T458, T460, s456]; exact TJ_s hj (by grind) (by grind) (by grind) lx426.symm (by rw [show t406 = x430 by grind]; exact tx430) (fun z z9 => by grind) (by grind))
                    · refine g_aload_n dX4_readToken_148 rfl ?_
                      refine f_X4_28 rfl rfl dX4_readToken_149 ?_
                      refine g_topi (fun x461 ex461 => ?_)
                      have qx461 : x461 = t408 := ex461.trans Tt408
                      refine g_bipush (v := 10) dX4_readToken_152 (by decide) ?_
                      refine g_imul dX4_readToken_154 ?_
                      refine g_topi (fun x462 ex462 => ?_)
                      refine g_aload_n dX4_readToken_155 rfl ?_
                      refine f_X4_9 rfl rfl dX4_readToken_156 ?_
                      refine g_aload_n dX4_readToken_159 rfl ?_
                      refine f_X4_19 rfl rfl dX4_readToken_160 ?_
                      refine g_topi (fun x463 ex463 => ?_)
                      have rx463 : 0 ≤ x463 ∧ x463 ≤ 160 := by rw [ex463]; exact iv_at hu404 _ _ rfl
                      have qx463 : x463 = i403 := ex463.trans ki403
                      have v464 : vp_in x463 160 := uk_vin 160 rfl (by first | decide | lia | grind) (by first | decide | lia | grind)
                      refine g_bald rfl rfl v464 dX4_readToken_163 ?_
                      refine g_topi (fun x465 ex465 => ?_)
                      have lx465 : x465 = u.1 3 (i403 : Int32).toNatClampNeg := by rw [ex465, show (x463 : Int32) = i403 by grind]; exact congrFun (fu404.1 3 (by omega)) _
                      refine g_iadd dX4_readToken_164 ?_
                      refine g_topi (fun x466 ex466 => ?_)
                      refine g_bipush (v := 48) dX4_readToken_165 (by decide) ?_
                      refine g_isub dX4_readToken_167 ?_
                      refine g_topi (fun x467 ex467 => ?_)
                      refine g_goto (tgt := 172) dX4_readToken_168 (by decide) ?_
                      refine p_X4_28 rfl rfl dX4_readToken_172 ?_
                      refine g_mem (fun u468 eu468 => ?_)
                      have hu468 : iv u468 := by rw [eu468]; exact iv_upF hu404 rfl
                      have fu468 : fr 2 3 u u468 := by rw [eu468]; exact fr_up fu404 (by omega) (by omega)
                      have s469 : u468.1 2 5 = x467 := by rw [eu468, uk_up_at]; exact if_pos ⟨rfl, rfl⟩
                      have T470 : u468.1 2 1 = t405 := by rw [eu468, uk_up_at, if_neg (by decide)]; exact Tt405
                      have T471 : u468.1 2 2 = i403 := by rw [eu468, uk_up_at, if_neg (by decide)]; exact ki403
                      have T472 : u468.1 2 3 = t406 := by rw [eu468, uk_up_at, if_neg (by decide)]; exact Tt406
                      have T473 : u468.1 2 4 = t407 := by rw [eu468, uk_up_at, if_neg (by decide)]; exact Tt407
                      refine g_aload_n dX4_readToken_175 rfl ?_
                      refine g_dup dX4_readToken_176 rfl ?_
                      refine f_X4_19 rfl rfl dX4_readToken_177 ?_
                      refine g_topi (fun x474 ex474 => ?_)
                      have rx474 : 0 ≤ x474 ∧ x474 ≤ 160 := by rw [ex474]; exact iv_at hu468 _ _ rfl
                      have qx474 : x474 = i403 := ex474.trans T471
                      refine g_iconst (v := 1) dX4_readToken_180 (by decide) ?_
                      refine g_iadd dX4_readToken_181 ?_
                      refine g_topi (fun x475 ex475 => ?_)
                      refine p_X4_19 rfl rfl dX4_readToken_182 ?_
                      refine g_mem (fun u476 eu476 => ?_)
                      have hu476 : iv u476 := by rw [eu476]; exact iv_up hu468 rfl (by first | lia | grind) (by first | lia | grind)
                      have fu476 : fr 2 3 u u476 := by rw [eu476]; exact fr_up fu468 (by omega) (by omega)
                      have s477 : u476.1 2 2 = x475 := by rw [eu476, uk_up_at]; exact if_pos ⟨rfl, rfl⟩
                      have T478 : u476.1 2 1 = t405 := by rw [eu476, uk_up_at, if_neg (by decide)]; exact T470
                      have T479 : u476.1 2 3 = t406 := by rw [eu476, uk_up_at, if_neg (by decide)]; exact T472
                      have T480 : u476.1 2 4 = t407 := by rw [eu476, uk_up_at, if_neg (by decide)]; exact T473
                      have T481 : u476.1 2 5 = x467 := by rw [eu476, uk_up_at, if_neg (by decide)]; exact s469
                      refine g_goto (tgt := 109) dX4_readToken_185 (by decide) ?_
                      refine g_pick (lv' := [(0, .ref (uk_ad G 2))]) [0] rfl ?_
                      exact ihi403 (by first | lia | grind) u476 hu476 fu476 (s477.trans (by first | lia | grind)) (T478.trans (Tt405.symm.trans ji4030)) (by rw [T480, T479, T481, s477]; exact TJ_s hj (by grind) (by grind) (by grind) lx426.symm (by rw [show t406 = x430 by grind]; exact tx430) (fun z z9 => by grind) (by grind))
              refine g_pick (lv' := [(0, .ref (uk_ad G 2))]) [0] rfl ?_
              exact L109_401 (u384.1 2 2) (iv_at hu384 _ _ rfl).1 (iv_at hu384 _ _ rfl).2  u384 hu384 fu384 rfl (T386.trans (Tt9.symm.trans ji70)) (by rw [T388, s385, T389, T387]; rw [show x255 = i7 by grind]; exact TJ_12 (by grind) (by grind) RN NN (by grind) (by rw [← lx379]; exact tx383) (by grind) (by grind))
            · refine g_aload_n dX4_readToken_98 rfl ?_
              refine g_dup dX4_readToken_99 rfl ?_
              refine f_X4_19 rfl rfl dX4_readToken_100 ?_
              refine g_topi (fun x482 ex482 => ?_)
              have rx482 : 0 ≤ x482 ∧ x482 ≤ 160 := by rw [ex482]; exact iv_at hu384 _ _ rfl
              have qx482 : x482 = i7 := ex482.trans T387
              refine g_iconst (v := 1) dX4_readToken_103 (by decide) ?_
              refine g_iadd dX4_readToken_104 ?_
              refine g_topi (fun x483 ex483 => ?_)
              refine p_X4_19 rfl rfl dX4_readToken_105 ?_
              refine g_mem (fun u484 eu484 => ?_)
              have hu484 : iv u484 := by rw [eu484]; exact iv_up hu384 rfl (by first | lia | grind) (by first | lia | grind)
              have fu484 : fr 2 3 u u484 := by rw [eu484]; exact fr_up fu384 (by omega) (by omega)
              have s485 : u484.1 2 2 = x483 := by rw [eu484, uk_up_at]; exact if_pos ⟨rfl, rfl⟩
              have T486 : u484.1 2 1 = t9 := by rw [eu484, uk_up_at, if_neg (by decide)]; exact T386
              have T487 : u484.1 2 3 = x383 := by rw [eu484, uk_up_at, if_neg (by decide)]; exact s385
              have T488 : u484.1 2 4 = x255 := by rw [eu484, uk_up_at, if_neg (by decide)]; exact T388
              have T489 : u484.1 2 5 = 0 := by rw [eu484, uk_up_at, if_neg (by decide)]; exact T389
              exact g_vret dX4_readToken_108 rfl ⟨rfl, hu484, fu484, (T486.trans (Tt9.symm.trans ji70)), (by rw [T488, T487, T489, s485]; rw [show x255 = i7 by grind]; exact TK_3 RN NN (by grind) (by rw [← lx379]; exact tx383) (by grind) (by grind) (by grind))⟩
      · refine g_aload_n dX4_readToken_25 rfl ?_
        refine g_dup dX4_readToken_26 rfl ?_
        refine f_X4_19 rfl rfl dX4_readToken_27 ?_
        refine g_topi (fun x490 ex490 => ?_)
        have rx490 : 0 ≤ x490 ∧ x490 ≤ 160 := by rw [ex490]; exact iv_at hu8 _ _ rfl
        have qx490 : x490 = i7 := ex490.trans ki7
        refine g_iconst (v := 1) dX4_readToken_30 (by decide) ?_
        refine g_iadd dX4_readToken_31 ?_
        refine g_topi (fun x491 ex491 => ?_)
        refine p_X4_19 rfl rfl dX4_readToken_32 ?_
        refine g_mem (fun u492 eu492 => ?_)
        have hu492 : iv u492 := by rw [eu492]; exact iv_up hu8 rfl (by first | lia | grind) (by first | lia | grind)
        have fu492 : fr 2 3 u u492 := by rw [eu492]; exact fr_up fu8 (by omega) (by omega)
        have s493 : u492.1 2 2 = x491 := by rw [eu492, uk_up_at]; exact if_pos ⟨rfl, rfl⟩
        have T494 : u492.1 2 1 = t9 := by rw [eu492, uk_up_at, if_neg (by decide)]; exact Tt9
        have T495 : u492.1 2 3 = t10 := by rw [eu492, uk_up_at, if_neg (by decide)]; exact Tt10
        have T496 : u492.1 2 4 = t11 := by rw [eu492, uk_up_at, if_neg (by decide)]; exact Tt11
        have T497 : u492.1 2 5 = t12 := by rw [eu492, uk_up_at, if_neg (by decide)]; exact Tt12
        have hr : rn e32 (u.1 3) (u.1 2 1) (u.1 2 2) (i7 + 1) := rn_up (show rn e32 (u.1 3) (u.1 2 1) (u.1 2 2) i7 from by rw [← ki7]; exact ji71) (by grind) (by grind) (by rw [← lx253]; show x253 = 32; grind)
        refine g_goto (tgt := 0) dX4_readToken_35 (by decide) ?_
        refine g_pick (lv' := [(0, .ref (uk_ad G 2))]) [0] rfl ?_
        exact ihi7 (by first | lia | grind) u492 hu492 fu492 (s493.trans (by first | lia | grind)) (T494.trans (Tt9.symm.trans ji70)) (by rw [s493, show x491 = i7 + 1 by grind]; exact hr)
  refine g_pick (lv' := [(0, .ref (uk_ad G 2))]) [0] rfl ?_
  exact L0_5 (u.1 2 2) (iv_at hu _ _ rfl).1 (iv_at hu _ _ rfl).2  u hu f0 rfl rfl rn_0
abbrev q_X4_isNamed_s (u : uk_Mem) (sj : Nat) (r : Option Value) (u' : uk_Mem) : Prop := (∃ x : Int32, r = some (.int x) ∧ (x = 0 ∨ x = 1) ∧ (¬ x = 0 → (u.1 2 3 = 1 ∧ nmj (u.1 3) (u.1 2 4) (u.1 2 2) sj)) ∧ (x = 0 → ¬ (u.1 2 3 = 1 ∧ nmj (u.1 3) (u.1 2 4) (u.1 2 2) sj))) ∧ (u' = u)
set_option maxHeartbeats 4000000 in
set_option maxRecDepth 20000 in
theorem c_X4_isNamed_s {G : uk_D} (hs : uk_Sep G) {u : uk_Mem} (hu : iv u) {sj : Nat} (hsj : sj < 6) (d : Nat) : uk_Meth G (d + 4) mX4_isNamed [.ref (uk_ad G 2), .ref (uk_ad G (100 + sj))] u (q_X4_isNamed_s u sj) := by
  refine uk_Meth.of hs (by decide) (Nat.le_of_ble_eq_true rfl) (fun X => ?_)
  have sl := (uk_slen hsj).2
  refine g_aload_n dX4_isNamed_0 rfl ?_
  refine f_X4_22 rfl rfl dX4_isNamed_1 ?_
  refine g_topi (fun x1 ex1 => ?_)
  have s2 : u.1 2 3 = x1 := ex1.symm
  refine g_iconst (v := 1) dX4_isNamed_4 (by decide) ?_
  refine g_icmp_ne (tgt := 24) dX4_isNamed_5 (by decide) (fun c3 => ?_) (fun c3 => ?_)
  · refine g_iconst (v := 0) dX4_isNamed_24 (by decide) ?_
    exact g_iret (ty := .boolean) dX4_isNamed_25 rfl rfl ⟨⟨0, rfl, Or.inl rfl, fun q => absurd rfl q, fun _ => (fun z => by have z1 := z.1; have z2 := z.2.1; grind)⟩, rfl⟩
  · refine g_aload_n dX4_isNamed_8 rfl ?_
    refine f_X4_19 rfl rfl dX4_isNamed_9 ?_
    refine g_topi (fun x4 ex4 => ?_)
    have rx4 : 0 ≤ x4 ∧ x4 ≤ 160 := by rw [ex4]; exact iv_at hu _ _ rfl
    have s5 : u.1 2 2 = x4 := ex4.symm
    refine g_aload_n dX4_isNamed_12 rfl ?_
    refine f_X4_25 rfl rfl dX4_isNamed_13 ?_
    refine g_topi (fun x6 ex6 => ?_)
    have rx6 : 0 ≤ x6 ∧ x6 ≤ 160 := by rw [ex6]; exact iv_at hu _ _ rfl
    have s7 : u.1 2 4 = x6 := ex6.symm
    refine g_isub dX4_isNamed_16 ?_
    refine g_topi (fun x8 ex8 => ?_)
    refine g_aload_n dX4_isNamed_17 rfl ?_
    refine g_slen hs hsj rfl (by omega) (Nat.le_of_ble_eq_true rfl) dX4_isNamed_18 ?_
    refine g_topi (fun x9 ex9 => ?_)
    refine g_icmp_eq (tgt := 26) dX4_isNamed_21 (by decide) (fun c10 => ?_) (fun c10 => ?_)
    · refine g_iconst (v := 0) dX4_isNamed_26 (by decide) ?_
      refine g_istore_n dX4_isNamed_27 (by decide) ?_
      refine g_pick (lv' := [(0, .ref (uk_ad G 2)), (1, .ref (uk_ad G (100 + sj))), (2, .int 0)]) [0, 1, 2] rfl ?_
      have L28_10 : ∀ i12 : Int32, 0 ≤ i12 → i12 ≤ 4 → nmp (u.1 3) (u.1 2 4) sj i12 → uk_G G X mX4_isNamed (d + 4) (q_X4_isNamed_s u sj) 28 [(0, .ref (uk_ad G 2)), (1, .ref (uk_ad G (100 + sj))), (2, .int i12)] [] u := by
        refine uk_upl 4 ?_
        intro i12 ai12 bi12 ihi12  ji120
        refine g_iload_n dX4_isNamed_28 rfl ?_
        refine g_aload_n dX4_isNamed_29 rfl ?_
        refine g_slen hs hsj rfl (by omega) (Nat.le_of_ble_eq_true rfl) dX4_isNamed_30 ?_
        refine g_topi (fun x13 ex13 => ?_)
        refine g_icmp_ge (tgt := 63) dX4_isNamed_33 (by decide) (fun c14 => ?_) (fun c14 => ?_)
        · refine g_iconst (v := 1) dX4_isNamed_63 (by decide) ?_
          exact g_iret (ty := .boolean) dX4_isNamed_64 rfl rfl ⟨⟨1, rfl, Or.inr rfl, fun _ => ⟨by grind, by grind, nmp_le ji120 (by grind)⟩, fun q => absurd q (by decide)⟩, rfl⟩
        · refine g_aload_n dX4_isNamed_36 rfl ?_
          refine f_X4_9 rfl rfl dX4_isNamed_37 ?_
          refine g_aload_n dX4_isNamed_40 rfl ?_
          refine f_X4_25 rfl rfl dX4_isNamed_41 ?_
          refine g_topi (fun x15 ex15 => ?_)
          have rx15 : 0 ≤ x15 ∧ x15 ≤ 160 := by rw [ex15]; exact iv_at hu _ _ rfl
          have qx15 : x15 = x6 := by rw [ex15]; exact s7
          refine g_iload_n dX4_isNamed_44 rfl ?_
          refine g_iadd dX4_isNamed_45 ?_
          refine g_topi (fun x16 ex16 => ?_)
          have v17 : vp_in x16 160 := uk_vin 160 rfl (by first | decide | lia | grind) (by first | decide | lia | grind)
          refine g_bald rfl rfl v17 dX4_isNamed_46 ?_
          refine g_topi (fun x18 ex18 => ?_)
          have lx18 : x18 = u.1 3 (u.1 2 4 + i12).toNatClampNeg := by rw [ex18, show (x16 : Int32) = u.1 2 4 + i12 by grind]
          refine g_aload_n dX4_isNamed_47 rfl ?_
          refine g_iload_n dX4_isNamed_48 rfl ?_
          refine g_schar hs hsj (by first | lia | grind) (by first | lia | grind) rfl (by omega) (Nat.le_of_ble_eq_true rfl) dX4_isNamed_49 ?_
          refine g_topi (fun x19 ex19 => ?_)
          have yx19 : x19 = chj sj i12 := ex19
          refine g_icmp_eq (tgt := 57) dX4_isNamed_52 (by decide) (fun c20 => ?_) (fun c20 => ?_)
          · refine g_iinc (v := i12 + 1) dX4_isNamed_57 rfl rfl (by decide) ?_
            refine g_pick (lv' := [(0, .ref (uk_ad G 2)), (1, .ref (uk_ad G (100 + sj))), (2, .int (i12 + 1))]) [0, 1, 2] rfl ?_
            refine g_goto (tgt := 28) dX4_isNamed_60 (by decide) ?_
            refine g_pick (lv' := [(0, .ref (uk_ad G 2)), (1, .ref (uk_ad G (100 + sj))), (2, .int (i12 + 1))]) [0, 1, 2] rfl ?_
            exact ihi12 (by first | lia | grind)  (nmp_up ji120 (by grind) (by grind) (by rw [← lx18, ← yx19]; grind))
          · refine g_iconst (v := 0) dX4_isNamed_55 (by decide) ?_
            exact g_iret (ty := .boolean) dX4_isNamed_56 rfl rfl ⟨⟨0, rfl, Or.inl rfl, fun q => absurd rfl q, fun _ => (fun z => by have z3 := z.2.2 i12 (by grind) (by grind); grind)⟩, rfl⟩
      refine g_pick (lv' := [(0, .ref (uk_ad G 2)), (1, .ref (uk_ad G (100 + sj))), (2, .int 0)]) [0, 1, 2] rfl ?_
      exact L28_10 0 (by first | decide | lia | grind) (by first | decide | lia | grind)  nmp_0
    · refine g_iconst (v := 0) dX4_isNamed_24 (by decide) ?_
      exact g_iret (ty := .boolean) dX4_isNamed_25 rfl rfl ⟨⟨0, rfl, Or.inl rfl, fun q => absurd rfl q, fun _ => (fun z => by have z1 := z.1; have z2 := z.2.1; grind)⟩, rfl⟩
abbrev q_X5_lineNamed_s (u : uk_Mem)  (r : Option Value) (u' : uk_Mem) : Prop := (∃ x : Int32, r = some (.int x) ∧ ln (u.1 3) (u.1 2 3) (u.1 2 4) (u.1 2 2) x) ∧ (u' = u)
set_option maxHeartbeats 4000000 in
set_option maxRecDepth 20000 in
theorem c_X5_lineNamed_s {G : uk_D} (hs : uk_Sep G) {u : uk_Mem} (hu : iv u)  (d : Nat) : uk_Meth G (d + 5) mX5_lineNamed [.ref (uk_ad G 1)] u (q_X5_lineNamed_s u) := by
  refine uk_Meth.of hs (by decide) (Nat.le_of_ble_eq_true rfl) (fun X => ?_)
  refine g_aload_n dX5_lineNamed_0 rfl ?_
  refine f_X5_21 rfl rfl dX5_lineNamed_1 ?_
  refine g_ldcS (j := 0) (by decide) rfl rfl dX5_lineNamed_4 ?_
  refine cl_X5_76 (c := 2) (As := [.ref (uk_ad G (100 + 0))]) rfl (c_X4_isNamed_s (G := G) hs hu  (sj := 0) (by omega)   (d)) rfl (by omega) rfl rfl (Nat.le_of_ble_eq_true rfl) dX5_lineNamed_6 (fun r1 u2 q3 => ?_)
  obtain ⟨⟨x4, rfl, tx4, nx4, zx4⟩, mq3⟩ := q3
  rw [mq3]
  refine g_if_eq (tgt := 14) dX5_lineNamed_9 (by decide) (fun c5 => ?_) (fun c5 => ?_)
  · have zc5 := zx4 c5
    refine g_aload_n dX5_lineNamed_14 rfl ?_
    refine f_X5_21 rfl rfl dX5_lineNamed_15 ?_
    refine g_ldcS (j := 1) (by decide) rfl rfl dX5_lineNamed_18 ?_
    refine cl_X5_76 (c := 2) (As := [.ref (uk_ad G (100 + 1))]) rfl (c_X4_isNamed_s (G := G) hs hu  (sj := 1) (by omega)   (d)) rfl (by omega) rfl rfl (Nat.le_of_ble_eq_true rfl) dX5_lineNamed_20 (fun r6 u7 q8 => ?_)
    obtain ⟨⟨x9, rfl, tx9, nx9, zx9⟩, mq8⟩ := q8
    rw [mq8]
    refine g_if_eq (tgt := 28) dX5_lineNamed_23 (by decide) (fun c10 => ?_) (fun c10 => ?_)
    · have zc10 := zx9 c10
      refine g_aload_n dX5_lineNamed_28 rfl ?_
      refine f_X5_21 rfl rfl dX5_lineNamed_29 ?_
      refine g_ldcS (j := 2) (by decide) rfl rfl dX5_lineNamed_32 ?_
      refine cl_X5_76 (c := 2) (As := [.ref (uk_ad G (100 + 2))]) rfl (c_X4_isNamed_s (G := G) hs hu  (sj := 2) (by omega)   (d)) rfl (by omega) rfl rfl (Nat.le_of_ble_eq_true rfl) dX5_lineNamed_34 (fun r11 u12 q13 => ?_)
      obtain ⟨⟨x14, rfl, tx14, nx14, zx14⟩, mq13⟩ := q13
      rw [mq13]
      refine g_if_eq (tgt := 42) dX5_lineNamed_37 (by decide) (fun c15 => ?_) (fun c15 => ?_)
      · have zc15 := zx14 c15
        refine g_aload_n dX5_lineNamed_42 rfl ?_
        refine f_X5_21 rfl rfl dX5_lineNamed_43 ?_
        refine g_ldcS (j := 3) (by decide) rfl rfl dX5_lineNamed_46 ?_
        refine cl_X5_76 (c := 2) (As := [.ref (uk_ad G (100 + 3))]) rfl (c_X4_isNamed_s (G := G) hs hu  (sj := 3) (by omega)   (d)) rfl (by omega) rfl rfl (Nat.le_of_ble_eq_true rfl) dX5_lineNamed_48 (fun r16 u17 q18 => ?_)
        obtain ⟨⟨x19, rfl, tx19, nx19, zx19⟩, mq18⟩ := q18
        rw [mq18]
        refine g_if_eq (tgt := 56) dX5_lineNamed_51 (by decide) (fun c20 => ?_) (fun c20 => ?_)
        · have zc20 := zx19 c20
          refine g_aload_n dX5_lineNamed_56 rfl ?_
          refine f_X5_21 rfl rfl dX5_lineNamed_57 ?_
          refine g_ldcS (j := 4) (by decide) rfl rfl dX5_lineNamed_60 ?_
          refine cl_X5_76 (c := 2) (As := [.ref (uk_ad G (100 + 4))]) rfl (c_X4_isNamed_s (G := G) hs hu  (sj := 4) (by omega)   (d)) rfl (by omega) rfl rfl (Nat.le_of_ble_eq_true rfl) dX5_lineNamed_62 (fun r21 u22 q23 => ?_)
          obtain ⟨⟨x24, rfl, tx24, nx24, zx24⟩, mq23⟩ := q23
          rw [mq23]
          refine g_if_eq (tgt := 70) dX5_lineNamed_65 (by decide) (fun c25 => ?_) (fun c25 => ?_)
          · have zc25 := zx24 c25
            refine g_aload_n dX5_lineNamed_70 rfl ?_
            refine f_X5_21 rfl rfl dX5_lineNamed_71 ?_
            refine g_ldcS (j := 5) (by decide) rfl rfl dX5_lineNamed_74 ?_
            refine cl_X5_76 (c := 2) (As := [.ref (uk_ad G (100 + 5))]) rfl (c_X4_isNamed_s (G := G) hs hu  (sj := 5) (by omega)   (d)) rfl (by omega) rfl rfl (Nat.le_of_ble_eq_true rfl) dX5_lineNamed_76 (fun r26 u27 q28 => ?_)
            obtain ⟨⟨x29, rfl, tx29, nx29, zx29⟩, mq28⟩ := q28
            rw [mq28]
            refine g_if_eq (tgt := 86) dX5_lineNamed_79 (by decide) (fun c30 => ?_) (fun c30 => ?_)
            · have zc30 := zx29 c30
              refine g_iconst (v := (-1)) dX5_lineNamed_86 (by decide) ?_
              exact g_iret (ty := .int) dX5_lineNamed_87 rfl rfl ⟨⟨_, rfl, Or.inr ⟨fun j hj => by rcases (show j = 0 ∨ j = 1 ∨ j = 2 ∨ j = 3 ∨ j = 4 ∨ j = 5 by omega) with rfl | rfl | rfl | rfl | rfl | rfl <;> first | exact zx4 (by assumption) | exact zx9 (by assumption) | exact zx14 (by assumption) | exact zx19 (by assumption) | exact zx24 (by assumption) | exact zx29 (by assumption), rfl⟩⟩, rfl⟩
            · have zc30 := nx29 c30
              refine g_iconst (v := 5) dX5_lineNamed_82 (by decide) ?_
              refine g_goto (tgt := 87) dX5_lineNamed_83 (by decide) ?_
              exact g_iret (ty := .int) dX5_lineNamed_87 rfl rfl ⟨⟨_, rfl, Or.inl ⟨5, by decide, (nx29 (by assumption)).1, (nx29 (by assumption)).2, rfl⟩⟩, rfl⟩
          · have zc25 := nx24 c25
            refine g_iconst (v := 3) dX5_lineNamed_68 (by decide) ?_
            exact g_iret (ty := .int) dX5_lineNamed_69 rfl rfl ⟨⟨_, rfl, Or.inl ⟨4, by decide, (nx24 (by assumption)).1, (nx24 (by assumption)).2, rfl⟩⟩, rfl⟩
        · have zc20 := nx19 c20
          refine g_iconst (v := 2) dX5_lineNamed_54 (by decide) ?_
          exact g_iret (ty := .int) dX5_lineNamed_55 rfl rfl ⟨⟨_, rfl, Or.inl ⟨3, by decide, (nx19 (by assumption)).1, (nx19 (by assumption)).2, rfl⟩⟩, rfl⟩
      · have zc15 := nx14 c15
        refine g_iconst (v := 1) dX5_lineNamed_40 (by decide) ?_
        exact g_iret (ty := .int) dX5_lineNamed_41 rfl rfl ⟨⟨_, rfl, Or.inl ⟨2, by decide, (nx14 (by assumption)).1, (nx14 (by assumption)).2, rfl⟩⟩, rfl⟩
    · have zc10 := nx9 c10
      refine g_iconst (v := 0) dX5_lineNamed_26 (by decide) ?_
      exact g_iret (ty := .int) dX5_lineNamed_27 rfl rfl ⟨⟨_, rfl, Or.inl ⟨1, by decide, (nx9 (by assumption)).1, (nx9 (by assumption)).2, rfl⟩⟩, rfl⟩
  · have zc5 := nx4 c5
    refine g_iconst (v := 4) dX5_lineNamed_12 (by decide) ?_
    exact g_iret (ty := .int) dX5_lineNamed_13 rfl rfl ⟨⟨_, rfl, Or.inl ⟨0, by decide, (nx4 (by assumption)).1, (nx4 (by assumption)).2, rfl⟩⟩, rfl⟩
