abbrev q_X7_best (u : uk_Mem) (k : Int32) (w : Int32) (r : Option Value) (u' : uk_Mem) : Prop := (∃ x : Int32, r = some (.int x) ∧ True) ∧ (iv u' ∧ fk [62] [] u u' ∧ ri u')
set_option maxHeartbeats 40000000 in
set_option maxRecDepth 20000 in
theorem c_X7_best {G : uk_D} (hs : uk_Sep G) {u : uk_Mem} (hu : iv u) (hri : ri u) (k : Int32) (w : Int32) (d : Nat) : uk_Meth G (d + 4) mX7_best [.ref (uk_ad G 60), .int k, .int w] u (q_X7_best u k w) := by
  refine uk_Meth.of hs (by decide) (Nat.le_of_ble_eq_true rfl) (fun X => ?_)
  have f0 : fk [62] [] u u := fk_rf
  have J26 : (0 ≤ k ∧ k ≤ 4) → (w = 1 ∨ w = 0 ∨ (10 ≤ w ∧ w ≤ 13)) → uk_G G X mX7_best (d + 4) (q_X7_best u k w) 26 [(0, .ref (uk_ad G 60)), (1, .int k), (2, .int w)] [] u := by
    intro jj26_0 jj26_1
    refine g_iconst (v := (-1)) dX7_best_26 (by decide) ?_
    refine g_istore_n dX7_best_27 (by decide) ?_
    refine g_pick (lv' := [(0, .ref (uk_ad G 60)), (1, .int k), (2, .int w), (3, .int (-1))]) [0, 1, 2, 3] rfl ?_
    refine g_iconst (v := 0) dX7_best_28 (by decide) ?_
    refine g_istore dX7_best_29 (by decide) ?_
    refine g_pick (lv' := [(0, .ref (uk_ad G 60)), (1, .int k), (2, .int w), (3, .int (-1)), (4, .int 0)]) [0, 1, 2, 3, 4] rfl ?_
    refine g_iconst (v := 0) dX7_best_31 (by decide) ?_
    refine g_istore dX7_best_32 (by decide) ?_
    refine g_pick (lv' := [(0, .ref (uk_ad G 60)), (1, .int k), (2, .int w), (3, .int (-1)), (4, .int 0), (5, .int 0)]) [0, 1, 2, 3, 4, 5] rfl ?_
    refine g_iconst (v := 0) dX7_best_34 (by decide) ?_
    refine g_istore dX7_best_35 (by decide) ?_
    refine g_pick (lv' := [(0, .ref (uk_ad G 60)), (1, .int k), (2, .int w), (3, .int (-1)), (4, .int 0), (5, .int 0), (6, .int 0)]) [0, 1, 2, 3, 4, 5, 6] rfl ?_
    have L37_0 : ∀ i5 : Int32, 0 ≤ i5 → i5 ≤ 5 → ∀ (w2 : Int32) (w3 : Int32) (w4 : Int32) (u6 : uk_Mem), iv u6 → fk [62] [] u u6 → ri u6 → 0 ≤ w4 → w4 ≤ 4 → uk_G G X mX7_best (d + 4) (q_X7_best u k w) 37 [(0, .ref (uk_ad G 60)), (1, .int k), (2, .int w), (3, .int w2), (4, .int w3), (5, .int w4), (6, .int i5)] [] u6 := by
      refine uk_upl 5 ?_
      intro i5 ai5 bi5 ihi5 w2 w3 w4 u6 hu6 fu6 riu6 ji50 ji51
      have wu6_60_3 : u6.1 60 3 = u.1 60 3 := fk_at fu6 (by decide)
      refine g_iload dX7_best_37 rfl ?_
      refine g_iload_n dX7_best_39 rfl ?_
      refine g_icmp_gt (tgt := 135) dX7_best_40 (by decide) (fun c7 => ?_) (fun c7 => ?_)
      · refine g_iload_n dX7_best_135 rfl ?_
        refine g_iconst (v := 2) dX7_best_136 (by decide) ?_
        refine g_icmp_ge (tgt := 151) dX7_best_137 (by decide) (fun c8 => ?_) (fun c8 => ?_)
        · refine g_iload_n dX7_best_151 rfl ?_
          refine g_bipush (v := 10) dX7_best_152 (by decide) ?_
          refine g_isub dX7_best_154 ?_
          refine g_topi (fun x9 ex9 => ?_)
          refine g_iload dX7_best_155 rfl ?_
          refine g_icmp_ge (tgt := 175) dX7_best_157 (by decide) (fun c10 => ?_) (fun c10 => ?_)
          · refine g_bipush (v := (-4)) dX7_best_175 (by decide) ?_
            exact g_iret (ty := .int) dX7_best_177 rfl rfl ⟨⟨_, rfl, by first | trivial | lia | grind⟩, hu6, fu6, riu6⟩
          · refine g_aload_n dX7_best_160 rfl ?_
            refine g_iload dX7_best_161 rfl ?_
            refine g_iload dX7_best_163 rfl ?_
            refine g_iload_n dX7_best_165 rfl ?_
            refine g_bipush (v := 10) dX7_best_166 (by decide) ?_
            refine g_isub dX7_best_168 ?_
            refine g_topi (fun x11 ex11 => ?_)
            refine cl_X7_244 (c := 60) (As := [.int w3, .int w4, .int x11]) rfl (c_X7_doingIn (G := G) hs hu6  w3 w4 x11 (by first | trivial | decide | lia | grind) (by first | trivial | decide | lia | grind) (by first | trivial | decide | lia | grind) (d + 2)) rfl (by omega) rfl rfl (Nat.le_of_ble_eq_true rfl) dX7_best_169 (fun r12 u13 q14 => ?_)
            obtain ⟨⟨x15, rfl, tx15⟩, mq14⟩ := q14
            rw [mq14]
            refine g_goto (tgt := 177) dX7_best_172 (by decide) ?_
            exact g_iret (ty := .int) dX7_best_177 rfl rfl ⟨⟨_, rfl, by first | trivial | lia | grind⟩, hu6, fu6, riu6⟩
        · refine g_iload_n dX7_best_140 rfl ?_
          refine g_if_ne (tgt := 148) dX7_best_141 (by decide) (fun c16 => ?_) (fun c16 => ?_)
          · refine g_iload dX7_best_148 rfl ?_
            exact g_iret (ty := .int) dX7_best_150 rfl rfl ⟨⟨_, rfl, by first | trivial | lia | grind⟩, hu6, fu6, riu6⟩
          · refine g_iload_n dX7_best_144 rfl ?_
            refine g_goto (tgt := 150) dX7_best_145 (by decide) ?_
            exact g_iret (ty := .int) dX7_best_150 rfl rfl ⟨⟨_, rfl, by first | trivial | lia | grind⟩, hu6, fu6, riu6⟩
      · refine g_iconst (v := 0) dX7_best_43 (by decide) ?_
        refine g_istore dX7_best_44 (by decide) ?_
        refine g_pick (lv' := [(0, .ref (uk_ad G 60)), (1, .int k), (2, .int w), (3, .int w2), (4, .int w3), (5, .int w4), (6, .int i5), (7, .int 0)]) [0, 1, 2, 3, 4, 5, 6, 7] rfl ?_
        have L46_16 : ∀ i21 : Int32, 0 ≤ i21 → i21 ≤ 65536 → ∀ (w18 : Int32) (w19 : Int32) (w20 : Int32) (u22 : uk_Mem), iv u22 → fk [62] [] u u22 → ri u22 → 0 ≤ w20 → w20 ≤ 4 → uk_G G X mX7_best (d + 4) (q_X7_best u k w) 46 [(0, .ref (uk_ad G 60)), (1, .int k), (2, .int w), (3, .int w18), (4, .int w19), (5, .int w20), (6, .int i5), (7, .int i21)] [] u22 := by
          refine uk_upl 65536 ?_
          intro i21 ai21 bi21 ihi21 w18 w19 w20 u22 hu22 fu22 riu22 ji210 ji211
          have wu22_60_3 : u22.1 60 3 = u.1 60 3 := fk_at fu22 (by decide)
          refine g_iload dX7_best_46 rfl ?_
          refine g_aload_n dX7_best_48 rfl ?_
          refine g_iload dX7_best_49 rfl ?_
          refine cl_X7_241 (c := 60) (As := [.int i5]) rfl (c_X7_baseTo (G := G) hs hu22  i5 (by first | trivial | decide | lia | grind) (d + 3)) rfl (by omega) rfl rfl (Nat.le_of_ble_eq_true rfl) dX7_best_51 (fun r23 u24 q25 => ?_)
          obtain ⟨⟨x26, rfl, tx26⟩, mq25⟩ := q25
          rw [mq25]
          refine g_icmp_ge (tgt := 129) dX7_best_54 (by decide) (fun c27 => ?_) (fun c27 => ?_)
          · refine g_iinc (v := i5 + 1) dX7_best_129 rfl rfl (by decide) ?_
            refine g_pick (lv' := [(0, .ref (uk_ad G 60)), (1, .int k), (2, .int w), (3, .int w18), (4, .int w19), (5, .int w20), (6, .int (i5 + 1)), (7, .int i21)]) [0, 1, 2, 3, 4, 5, 6, 7] rfl ?_
            refine g_goto (tgt := 37) dX7_best_132 (by decide) ?_
            refine g_pick (lv' := [(0, .ref (uk_ad G 60)), (1, .int k), (2, .int w), (3, .int w18), (4, .int w19), (5, .int w20), (6, .int (i5 + 1))]) [0, 1, 2, 3, 4, 5, 6] rfl ?_
            exact ihi5 (by first | lia | grind) w18 w19 w20 u22 hu22 fu22 riu22 (by first | trivial | lia | grind) (by first | trivial | lia | grind)
          · refine g_aload_n dX7_best_57 rfl ?_
            refine g_iload dX7_best_58 rfl ?_
            refine g_iload dX7_best_60 rfl ?_
            refine cl_X7_255 (c := 60) (As := [.int i21, .int i5]) rfl (c_X7_doRow (G := G) hs hu22 riu22  i21 i5 (by first | trivial | decide | lia | grind) (d)) rfl (by omega) rfl rfl (Nat.le_of_ble_eq_true rfl) dX7_best_62 (fun r28 u29 q30 => ?_)
            obtain ⟨⟨x31, rfl, tx31, nx31, zx31⟩, mq30⟩ := q30
            obtain ⟨hu29, gu29, riu29⟩ := mq30
            have fu29 : fk [62] [] u u29 := fk_tr fu22 gu29 (by decide) (by decide)
            have wu29_60_3 : u29.1 60 3 = u22.1 60 3 := fk_at gu29 (by decide)
            have J80 : ∀ (y32 : Int32), uk_G G X mX7_best (d + 4) (q_X7_best u k w) 80 [(0, .ref (uk_ad G 60)), (1, .int k), (2, .int w), (3, .int w18), (4, .int w19), (5, .int w20), (6, .int i5), (7, .int i21), (8, .int y32)] [] u29 := by
              intro y32
              have J95 : ∀ (y33 : Int32), uk_G G X mX7_best (d + 4) (q_X7_best u k w) 95 [(0, .ref (uk_ad G 60)), (1, .int k), (2, .int w), (3, .int w18), (4, .int y33), (5, .int w20), (6, .int i5), (7, .int i21), (8, .int y32)] [] u29 := by
                intro y33
                have J110 : ∀ (y34 : Int32), (0 ≤ y34) → (y34 ≤ 4) → uk_G G X mX7_best (d + 4) (q_X7_best u k w) 110 [(0, .ref (uk_ad G 60)), (1, .int k), (2, .int w), (3, .int w18), (4, .int y33), (5, .int y34), (6, .int i5), (7, .int i21), (8, .int y32)] [] u29 := by
                  intro y34 jj110_0 jj110_1
                  have J123 : ∀ (y35 : Int32), uk_G G X mX7_best (d + 4) (q_X7_best u k w) 123 [(0, .ref (uk_ad G 60)), (1, .int k), (2, .int w), (3, .int y35), (4, .int y33), (5, .int y34), (6, .int i5), (7, .int i21), (8, .int y32)] [] u29 := by
                    intro y35
                    refine g_iinc (v := i21 + 1) dX7_best_123 rfl rfl (by decide) ?_
                    refine g_pick (lv' := [(0, .ref (uk_ad G 60)), (1, .int k), (2, .int w), (3, .int y35), (4, .int y33), (5, .int y34), (6, .int i5), (7, .int (i21 + 1)), (8, .int y32)]) [0, 1, 2, 3, 4, 5, 6, 7, 8] rfl ?_
                    refine g_goto (tgt := 46) dX7_best_126 (by decide) ?_
                    refine g_pick (lv' := [(0, .ref (uk_ad G 60)), (1, .int k), (2, .int w), (3, .int y35), (4, .int y33), (5, .int y34), (6, .int i5), (7, .int (i21 + 1))]) [0, 1, 2, 3, 4, 5, 6, 7] rfl ?_
                    exact ihi21 (by first | lia | grind) y35 y33 y34 u29 hu29 fu29 riu29 (by first | trivial | lia | grind) (by first | trivial | lia | grind)
                  refine g_iload dX7_best_110 rfl ?_
                  refine g_iload_n dX7_best_112 rfl ?_
                  refine g_icmp_le (tgt := 121) dX7_best_113 (by decide) (fun c36 => ?_) (fun c36 => ?_)
                  · refine g_iload_n dX7_best_121 rfl ?_
                    refine g_istore_n dX7_best_122 (by decide) ?_
                    refine g_pick (lv' := [(0, .ref (uk_ad G 60)), (1, .int k), (2, .int w), (3, .int w18), (4, .int y33), (5, .int y34), (6, .int i5), (7, .int i21), (8, .int y32)]) [0, 1, 2, 3, 4, 5, 6, 7, 8] rfl ?_
                    refine g_pick (lv' := [(0, .ref (uk_ad G 60)), (1, .int k), (2, .int w), (3, .int w18), (4, .int y33), (5, .int y34), (6, .int i5), (7, .int i21), (8, .int y32)]) [0, 1, 2, 3, 4, 5, 6, 7, 8] rfl ?_
                    exact J123 w18 
                  · refine g_iload dX7_best_116 rfl ?_
                    refine g_goto (tgt := 122) dX7_best_118 (by decide) ?_
                    refine g_istore_n dX7_best_122 (by decide) ?_
                    refine g_pick (lv' := [(0, .ref (uk_ad G 60)), (1, .int k), (2, .int w), (3, .int y32), (4, .int y33), (5, .int y34), (6, .int i5), (7, .int i21), (8, .int y32)]) [0, 1, 2, 3, 4, 5, 6, 7, 8] rfl ?_
                    refine g_pick (lv' := [(0, .ref (uk_ad G 60)), (1, .int k), (2, .int w), (3, .int y32), (4, .int y33), (5, .int y34), (6, .int i5), (7, .int i21), (8, .int y32)]) [0, 1, 2, 3, 4, 5, 6, 7, 8] rfl ?_
                    exact J123 y32 
                refine g_iload dX7_best_95 rfl ?_
                refine g_iload_n dX7_best_97 rfl ?_
                refine g_icmp_le (tgt := 106) dX7_best_98 (by decide) (fun c37 => ?_) (fun c37 => ?_)
                · refine g_iload dX7_best_106 rfl ?_
                  refine g_istore dX7_best_108 (by decide) ?_
                  refine g_pick (lv' := [(0, .ref (uk_ad G 60)), (1, .int k), (2, .int w), (3, .int w18), (4, .int y33), (5, .int w20), (6, .int i5), (7, .int i21), (8, .int y32)]) [0, 1, 2, 3, 4, 5, 6, 7, 8] rfl ?_
                  refine g_pick (lv' := [(0, .ref (uk_ad G 60)), (1, .int k), (2, .int w), (3, .int w18), (4, .int y33), (5, .int w20), (6, .int i5), (7, .int i21), (8, .int y32)]) [0, 1, 2, 3, 4, 5, 6, 7, 8] rfl ?_
                  exact J110 w20 (by first | trivial | lia | grind) (by first | trivial | lia | grind)
                · refine g_iload dX7_best_101 rfl ?_
                  refine g_goto (tgt := 108) dX7_best_103 (by decide) ?_
                  refine g_istore dX7_best_108 (by decide) ?_
                  refine g_pick (lv' := [(0, .ref (uk_ad G 60)), (1, .int k), (2, .int w), (3, .int w18), (4, .int y33), (5, .int i5), (6, .int i5), (7, .int i21), (8, .int y32)]) [0, 1, 2, 3, 4, 5, 6, 7, 8] rfl ?_
                  refine g_pick (lv' := [(0, .ref (uk_ad G 60)), (1, .int k), (2, .int w), (3, .int w18), (4, .int y33), (5, .int i5), (6, .int i5), (7, .int i21), (8, .int y32)]) [0, 1, 2, 3, 4, 5, 6, 7, 8] rfl ?_
                  exact J110 i5 (by first | trivial | lia | grind) (by first | trivial | lia | grind)
              refine g_iload dX7_best_80 rfl ?_
              refine g_iload_n dX7_best_82 rfl ?_
              refine g_icmp_le (tgt := 91) dX7_best_83 (by decide) (fun c38 => ?_) (fun c38 => ?_)
              · refine g_iload dX7_best_91 rfl ?_
                refine g_istore dX7_best_93 (by decide) ?_
                refine g_pick (lv' := [(0, .ref (uk_ad G 60)), (1, .int k), (2, .int w), (3, .int w18), (4, .int w19), (5, .int w20), (6, .int i5), (7, .int i21), (8, .int y32)]) [0, 1, 2, 3, 4, 5, 6, 7, 8] rfl ?_
                refine g_pick (lv' := [(0, .ref (uk_ad G 60)), (1, .int k), (2, .int w), (3, .int w18), (4, .int w19), (5, .int w20), (6, .int i5), (7, .int i21), (8, .int y32)]) [0, 1, 2, 3, 4, 5, 6, 7, 8] rfl ?_
                exact J95 w19 
              · refine g_iload dX7_best_86 rfl ?_
                refine g_goto (tgt := 93) dX7_best_88 (by decide) ?_
                refine g_istore dX7_best_93 (by decide) ?_
                refine g_pick (lv' := [(0, .ref (uk_ad G 60)), (1, .int k), (2, .int w), (3, .int w18), (4, .int i21), (5, .int w20), (6, .int i5), (7, .int i21), (8, .int y32)]) [0, 1, 2, 3, 4, 5, 6, 7, 8] rfl ?_
                refine g_pick (lv' := [(0, .ref (uk_ad G 60)), (1, .int k), (2, .int w), (3, .int w18), (4, .int i21), (5, .int w20), (6, .int i5), (7, .int i21), (8, .int y32)]) [0, 1, 2, 3, 4, 5, 6, 7, 8] rfl ?_
                exact J95 i21 
            refine g_if_eq (tgt := 77) dX7_best_65 (by decide) (fun c39 => ?_) (fun c39 => ?_)
            · have zc39 := zx31 c39
              refine g_iconst (v := (-1)) dX7_best_77 (by decide) ?_
              refine g_istore dX7_best_78 (by decide) ?_
              refine g_pick (lv' := [(0, .ref (uk_ad G 60)), (1, .int k), (2, .int w), (3, .int w18), (4, .int w19), (5, .int w20), (6, .int i5), (7, .int i21), (8, .int (-1))]) [0, 1, 2, 3, 4, 5, 6, 7, 8] rfl ?_
              refine g_pick (lv' := [(0, .ref (uk_ad G 60)), (1, .int k), (2, .int w), (3, .int w18), (4, .int w19), (5, .int w20), (6, .int i5), (7, .int i21), (8, .int (-1))]) [0, 1, 2, 3, 4, 5, 6, 7, 8] rfl ?_
              exact J80 (-1) 
            · have zc39 := nx31 c39
              refine g_aload_n dX7_best_68 rfl ?_
              refine g_bipush (v := 16) dX7_best_69 (by decide) ?_
              refine cl_X7_258 (c := 60) (As := [.int 16]) rfl (c_X7_allOf (G := G) hs hu29  16 (by first | trivial | decide | lia | grind) (d + 3)) rfl (by omega) rfl rfl (Nat.le_of_ble_eq_true rfl) dX7_best_71 (fun r40 u41 q42 => ?_)
              obtain ⟨⟨x43, rfl, tx43⟩, mq42⟩ := q42
              rw [mq42]
              refine g_goto (tgt := 78) dX7_best_74 (by decide) ?_
              refine g_istore dX7_best_78 (by decide) ?_
              refine g_pick (lv' := [(0, .ref (uk_ad G 60)), (1, .int k), (2, .int w), (3, .int w18), (4, .int w19), (5, .int w20), (6, .int i5), (7, .int i21), (8, .int x43)]) [0, 1, 2, 3, 4, 5, 6, 7, 8] rfl ?_
              refine g_pick (lv' := [(0, .ref (uk_ad G 60)), (1, .int k), (2, .int w), (3, .int w18), (4, .int w19), (5, .int w20), (6, .int i5), (7, .int i21), (8, .int x43)]) [0, 1, 2, 3, 4, 5, 6, 7, 8] rfl ?_
              exact J80 x43 
        refine g_pick (lv' := [(0, .ref (uk_ad G 60)), (1, .int k), (2, .int w), (3, .int w2), (4, .int w3), (5, .int w4), (6, .int i5), (7, .int 0)]) [0, 1, 2, 3, 4, 5, 6, 7] rfl ?_
        exact L46_16 0 (by first | decide | lia | grind) (by first | decide | lia | grind) w2 w3 w4 u6 hu6 fu6 riu6 (by first | trivial | lia | grind) (by first | trivial | lia | grind)
    refine g_pick (lv' := [(0, .ref (uk_ad G 60)), (1, .int k), (2, .int w), (3, .int (-1)), (4, .int 0), (5, .int 0), (6, .int 0)]) [0, 1, 2, 3, 4, 5, 6] rfl ?_
    exact L37_0 0 (by first | decide | lia | grind) (by first | decide | lia | grind) (-1) 0 0 u hu f0 hri (by first | trivial | lia | grind) (by first | trivial | lia | grind)
  refine g_iload_n dX7_best_0 rfl ?_
  refine g_i2l dX7_best_1 ?_
  refine g_lconst (v := 0) dX7_best_2 (by decide) ?_
  refine g_ldc2 (v := 4) k_X7_250 dX7_best_3 ?_
  refine cl_X7_84 (As := [.long k.toInt64, .long 0, .long 4]) rfl (c_X7_in (G := G) hs hu  k 0 4  (d + 3)) rfl (by omega) rfl (Nat.le_of_ble_eq_true rfl) dX7_best_6 (fun r44 u45 q46 => ?_)
  obtain ⟨⟨x47, rfl, tx47, nx47, zx47⟩, mq46⟩ := q46
  rw [mq46]
  refine g_if_eq (tgt := 24) dX7_best_9 (by decide) (fun c48 => ?_) (fun c48 => ?_)
  · have zc48 := zx47 c48
    refine g_iconst (v := (-1)) dX7_best_24 (by decide) ?_
    exact g_iret (ty := .int) dX7_best_25 rfl rfl ⟨⟨_, rfl, by first | trivial | lia | grind⟩, hu, f0, hri⟩
  · have zc48 := nx47 c48
    refine g_iload_n dX7_best_12 rfl ?_
    refine g_iconst (v := 1) dX7_best_13 (by decide) ?_
    refine g_icmp_eq (tgt := 26) dX7_best_14 (by decide) (fun c49 => ?_) (fun c49 => ?_)
    · refine g_pick (lv' := [(0, .ref (uk_ad G 60)), (1, .int k), (2, .int w)]) [0, 1, 2] rfl ?_
      exact J26 (by first | trivial | lia | grind) (by first | trivial | lia | grind)
    · refine g_iload_n dX7_best_17 rfl ?_
      refine cl_X7_252 (As := [.int w]) rfl (c_X7_isAsked (G := G) hs hu  w  (d + 2)) rfl (by omega) rfl (Nat.le_of_ble_eq_true rfl) dX7_best_18 (fun r50 u51 q52 => ?_)
      obtain ⟨⟨x53, rfl, tx53, nx53, zx53⟩, mq52⟩ := q52
      rw [mq52]
      refine g_if_ne (tgt := 26) dX7_best_21 (by decide) (fun c54 => ?_) (fun c54 => ?_)
      · have zc54 := nx53 c54
        refine g_pick (lv' := [(0, .ref (uk_ad G 60)), (1, .int k), (2, .int w)]) [0, 1, 2] rfl ?_
        exact J26 (by first | trivial | lia | grind) (by first | trivial | lia | grind)
      · have zc54 := zx53 c54
        refine g_iconst (v := (-1)) dX7_best_24 (by decide) ?_
        exact g_iret (ty := .int) dX7_best_25 rfl rfl ⟨⟨_, rfl, by first | trivial | lia | grind⟩, hu, f0, hri⟩
