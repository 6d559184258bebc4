noncomputable def l_X7_pairs_30 (i9 : Int32) (C_l_X7_pairs_17 : Int32 → Int32 → Int32 → uk_Mem → Int32 × uk_Mem) : Nat → Int32 → Int32 → Int32 → uk_Mem → Int32 × uk_Mem
  | 0, _, _, _, u19 => (0, u19)
  | K9 + 1, i18, w16, w17, u19 => let x20 : Int32 := u19.1 60 3; if x20 ≤ i18 then (C_l_X7_pairs_17 (i9 + 1) w16 w17 u19) else (let x26 : Int32 := (e_X7_fitTogether u19 i9 i18).1; let u24 : uk_Mem := (e_X7_fitTogether u19 i9 i18).2; if x26 = 0 then (l_X7_pairs_30 i9 C_l_X7_pairs_17 K9 (i18 + 1) w16 w17 u24) else (if w16 = 0 then (let x30 : Int32 := (10 : Int32) * i9; let x31 : Int32 := x30 + i18; l_X7_pairs_30 i9 C_l_X7_pairs_17 K9 (i18 + 1) (w16 + 1) x31 u24) else (l_X7_pairs_30 i9 C_l_X7_pairs_17 K9 (i18 + 1) (w16 + 1) w17 u24)))
noncomputable def l_X7_pairs_17 (w : Int32) : Nat → Int32 → Int32 → Int32 → uk_Mem → Int32 × uk_Mem
  | 0, _, _, _, u10 => (0, u10)
  | K9 + 1, i9, w7, w8, u10 => let x11 : Int32 := u10.1 60 3; if x11 ≤ i9 then (if w = 0 then ((w7, u10)) else ((w8, u10))) else (l_X7_pairs_30 i9 (l_X7_pairs_17 w K9) ee_K i9 w7 w8 u10)
noncomputable def e_X7_pairs (u : uk_Mem) (w : Int32) : Int32 × uk_Mem := let x4 : Int32 := (e_X7_isPart u w); if x4 = 0 then (((-1 : Int32), u)) else (l_X7_pairs_17 w ee_K (0 : Int32) (0 : Int32) (-4 : Int32) u)
abbrev qe_X7_pairs (u : uk_Mem) (w : Int32) (r : Option Value) (u' : uk_Mem) : Prop := (q_X7_pairs u w r u') ∧ (r = some (.int (e_X7_pairs u w).1) ∧ u' = (e_X7_pairs u w).2)
set_option maxHeartbeats 4000000 in
set_option maxRecDepth 20000 in
theorem x_X7_pairs {G : uk_D} (hs : uk_Sep G) {u : uk_Mem} (hu : iv u) (hri : ri u) (w : Int32) (d : Nat) : uk_Meth G (d + 4) mX7_pairs [.ref (uk_ad G 60), .int w] u (qe_X7_pairs u w) := by
  refine uk_Meth.of hs (by decide) (Nat.le_of_ble_eq_true rfl) (fun X => ?_)
  have f0 : fk [60, 62, 71, 73] [3, 7, 10, 11, 13, 14, 15, 16, 17, 18, 19, 28] u u := fk_rf
  refine g_iload_n dX7_pairs_0 rfl ?_
  refine cl_X7_197 (As := [.int w]) rfl (x_X7_isPart (G := G) hs hu  w  (d + 2)) rfl (by omega) rfl (Nat.le_of_ble_eq_true rfl) dX7_pairs_1 (fun r1 u2 q3 => ?_)
  obtain ⟨q3, Eq3⟩ := q3
  obtain ⟨⟨x4, rfl, tx4, nx4, zx4⟩, mq3⟩ := q3
  rw [mq3]
  have ex4 : x4 = (e_X7_isPart u w) := ee_v Eq3
  refine g_if_ne (tgt := 9) dX7_pairs_4 (by decide) (fun c5 => ?_) (fun c5 => ?_)
  · have zc5 := nx4 c5
    refine g_iconst (v := 0) dX7_pairs_9 (by decide) ?_
    refine g_istore_n dX7_pairs_10 (by decide) ?_
    refine g_pick (lv' := [(0, .ref (uk_ad G 60)), (1, .int w), (2, .int 0)]) [0, 1, 2] rfl ?_
    refine g_bipush (v := (-4)) dX7_pairs_11 (by decide) ?_
    refine g_istore_n dX7_pairs_13 (by decide) ?_
    refine g_pick (lv' := [(0, .ref (uk_ad G 60)), (1, .int w), (2, .int 0), (3, .int (-4))]) [0, 1, 2, 3] rfl ?_
    refine g_iconst (v := 0) dX7_pairs_14 (by decide) ?_
    refine g_istore dX7_pairs_15 (by decide) ?_
    refine g_pick (lv' := [(0, .ref (uk_ad G 60)), (1, .int w), (2, .int 0), (3, .int (-4)), (4, .int 0)]) [0, 1, 2, 3, 4] rfl ?_
    have L17_5 : ∀ i9 : Int32, 0 ≤ i9 → i9 ≤ 8 → ∀ (w7 : Int32) (w8 : Int32) (u10 : uk_Mem), iv u10 → fk [60, 62, 71, 73] [3, 7, 10, 11, 13, 14, 15, 16, 17, 18, 19, 28] u u10 → ri u10 → (∃ ki9 : Nat, ee_F 8 i9 ki9 ∧ e_X7_pairs u w = l_X7_pairs_17 w ki9 i9 w7 w8 u10) → uk_G G X mX7_pairs (d + 4) (qe_X7_pairs u w) 17 [(0, .ref (uk_ad G 60)), (1, .int w), (2, .int w7), (3, .int w8), (4, .int i9)] [] u10 := by
      refine uk_upl 8 ?_
      intro i9 ai9 bi9 ihi9 w7 w8 u10 hu10 fu10 riu10 jEi9
      obtain ⟨ki9, fki9, hki9⟩ := jEi9
      obtain ⟨ki9, rfl⟩ := ee_Fp (by first | assumption | lia | grind) fki9
      have wu10_60_3 : u10.1 60 3 = u.1 60 3 := fk_at fu10 (by decide)
      refine g_iload dX7_pairs_17 rfl ?_
      refine g_aload_n dX7_pairs_19 rfl ?_
      refine f_X7_79 rfl rfl dX7_pairs_20 ?_
      refine g_topi (fun x11 ex11 => ?_)
      have rx11 : 0 ≤ x11 ∧ x11 ≤ 8 := by rw [ex11]; exact iv_at hu10 _ _ rfl
      have s12 : u10.1 60 3 = x11 := ex11.symm
      refine g_icmp_ge (tgt := 82) dX7_pairs_23 (by decide) (fun c13 => ?_) (fun c13 => ?_)
      · refine g_iload_n dX7_pairs_82 rfl ?_
        refine g_if_ne (tgt := 90) dX7_pairs_83 (by decide) (fun c14 => ?_) (fun c14 => ?_)
        · refine g_iload_n dX7_pairs_90 rfl ?_
          exact g_iret (ty := .int) dX7_pairs_91 rfl rfl ⟨⟨⟨_, rfl, by first | trivial | lia | grind⟩, hu10, fu10, riu10⟩, ee_i (by subst ex11; exact hki9.trans ((if_pos c13).trans ((if_neg c14).trans (rfl))))⟩
        · refine g_iload_n dX7_pairs_86 rfl ?_
          refine g_goto (tgt := 91) dX7_pairs_87 (by decide) ?_
          exact g_iret (ty := .int) dX7_pairs_91 rfl rfl ⟨⟨⟨_, rfl, by first | trivial | lia | grind⟩, hu10, fu10, riu10⟩, ee_i (by subst ex11; exact hki9.trans ((if_pos c13).trans ((if_pos c14).trans (rfl))))⟩
      · refine g_iload dX7_pairs_26 rfl ?_
        refine g_istore dX7_pairs_28 (by decide) ?_
        refine g_pick (lv' := [(0, .ref (uk_ad G 60)), (1, .int w), (2, .int w7), (3, .int w8), (4, .int i9), (5, .int i9)]) [0, 1, 2, 3, 4, 5] rfl ?_
        have L30_14 : ∀ i18 : Int32, 0 ≤ i18 → i18 ≤ 8 → ∀ (w16 : Int32) (w17 : Int32) (u19 : uk_Mem), iv u19 → fk [60, 62, 71, 73] [3, 7, 10, 11, 13, 14, 15, 16, 17, 18, 19, 28] u u19 → ri u19 → (∃ ki18 : Nat, ee_F 8 i18 ki18 ∧ e_X7_pairs u w = l_X7_pairs_30 i9 (l_X7_pairs_17 w ki9) ki18 i18 w16 w17 u19) → uk_G G X mX7_pairs (d + 4) (qe_X7_pairs u w) 30 [(0, .ref (uk_ad G 60)), (1, .int w), (2, .int w16), (3, .int w17), (4, .int i9), (5, .int i18)] [] u19 := by
          refine uk_upl 8 ?_
          intro i18 ai18 bi18 ihi18 w16 w17 u19 hu19 fu19 riu19 jEi18
          obtain ⟨ki18, fki18, hki18⟩ := jEi18
          obtain ⟨ki18, rfl⟩ := ee_Fp (by first | assumption | lia | grind) fki18
          have wu19_60_3 : u19.1 60 3 = u.1 60 3 := fk_at fu19 (by decide)
          refine g_iload dX7_pairs_30 rfl ?_
          refine g_aload_n dX7_pairs_32 rfl ?_
          refine f_X7_79 rfl rfl dX7_pairs_33 ?_
          refine g_topi (fun x20 ex20 => ?_)
          have rx20 : 0 ≤ x20 ∧ x20 ≤ 8 := by rw [ex20]; exact iv_at hu19 _ _ rfl
          have s21 : u19.1 60 3 = x20 := ex20.symm
          refine g_icmp_ge (tgt := 76) dX7_pairs_36 (by decide) (fun c22 => ?_) (fun c22 => ?_)
          · refine g_iinc (v := i9 + 1) dX7_pairs_76 rfl rfl (by decide) ?_
            refine g_pick (lv' := [(0, .ref (uk_ad G 60)), (1, .int w), (2, .int w16), (3, .int w17), (4, .int (i9 + 1)), (5, .int i18)]) [0, 1, 2, 3, 4, 5] rfl ?_
            refine g_goto (tgt := 17) dX7_pairs_79 (by decide) ?_
            refine g_pick (lv' := [(0, .ref (uk_ad G 60)), (1, .int w), (2, .int w16), (3, .int w17), (4, .int (i9 + 1))]) [0, 1, 2, 3, 4] rfl ?_
            exact ihi9 (by first | lia | grind) w16 w17 u19 hu19 fu19 riu19  ⟨ki9, ee_Fs fki9 (by first | assumption | lia | grind), by subst ex20; exact hki18.trans ((if_pos c22).trans (rfl))⟩
          · refine g_aload_n dX7_pairs_39 rfl ?_
            refine g_iload dX7_pairs_40 rfl ?_
            refine g_iload dX7_pairs_42 rfl ?_
            refine cl_X7_261 (c := 60) (As := [.int i9, .int i18]) rfl (x_X7_fitTogether (G := G) hs hu19 riu19  i9 i18 (by first | trivial | decide | lia | grind) (by first | trivial | decide | lia | grind) (by first | trivial | decide | lia | grind) (by first | trivial | decide | lia | grind) (by first | trivial | decide | lia | grind) (by first | trivial | decide | lia | grind) (d)) rfl (by omega) rfl rfl (Nat.le_of_ble_eq_true rfl) dX7_pairs_44 (fun r23 u24 q25 => ?_)
            obtain ⟨q25, Eq25⟩ := q25
            obtain ⟨⟨x26, rfl, tx26, nx26, zx26⟩, mq25⟩ := q25
            obtain ⟨hu24, gu24, riu24⟩ := mq25
            have fu24 : fk [60, 62, 71, 73] [3, 7, 10, 11, 13, 14, 15, 16, 17, 18, 19, 28] u u24 := fk_tr fu19 gu24 (by decide) (by decide)
            have wu24_60_3 : u24.1 60 3 = u19.1 60 3 := fk_at gu24 (by decide)
            have s27 : u24.1 60 3 = x20 := (fk_at gu24 (by decide)).trans s21
            have ex26 : x26 = (e_X7_fitTogether u19 i9 i18).1 := ee_v Eq25.1
            have eu24 : u24 = (e_X7_fitTogether u19 i9 i18).2 := Eq25.2
            refine g_if_eq (tgt := 70) dX7_pairs_47 (by decide) (fun c28 => ?_) (fun c28 => ?_)
            · have zc28 := zx26 c28
              refine g_iinc (v := i18 + 1) dX7_pairs_70 rfl rfl (by decide) ?_
              refine g_pick (lv' := [(0, .ref (uk_ad G 60)), (1, .int w), (2, .int w16), (3, .int w17), (4, .int i9), (5, .int (i18 + 1))]) [0, 1, 2, 3, 4, 5] rfl ?_
              refine g_goto (tgt := 30) dX7_pairs_73 (by decide) ?_
              refine g_pick (lv' := [(0, .ref (uk_ad G 60)), (1, .int w), (2, .int w16), (3, .int w17), (4, .int i9), (5, .int (i18 + 1))]) [0, 1, 2, 3, 4, 5] rfl ?_
              exact ihi18 (by first | lia | grind) w16 w17 u24 hu24 fu24 riu24  ⟨ki18, ee_Fs fki18 (by first | assumption | lia | grind), by subst eu24; subst ex26; subst ex20; exact hki18.trans ((if_neg c22).trans ((if_pos c28).trans (rfl)))⟩
            · have zc28 := nx26 c28
              refine g_iload_n dX7_pairs_50 rfl ?_
              refine g_if_ne (tgt := 65) dX7_pairs_51 (by decide) (fun c29 => ?_) (fun c29 => ?_)
              · refine g_iload_n dX7_pairs_65 rfl ?_
                refine g_istore_n dX7_pairs_66 (by decide) ?_
                refine g_pick (lv' := [(0, .ref (uk_ad G 60)), (1, .int w), (2, .int w16), (3, .int w17), (4, .int i9), (5, .int i18)]) [0, 1, 2, 3, 4, 5] rfl ?_
                refine g_iinc (v := w16 + 1) dX7_pairs_67 rfl rfl (by decide) ?_
                refine g_pick (lv' := [(0, .ref (uk_ad G 60)), (1, .int w), (2, .int (w16 + 1)), (3, .int w17), (4, .int i9), (5, .int i18)]) [0, 1, 2, 3, 4, 5] rfl ?_
                refine g_iinc (v := i18 + 1) dX7_pairs_70 rfl rfl (by decide) ?_
                refine g_pick (lv' := [(0, .ref (uk_ad G 60)), (1, .int w), (2, .int (w16 + 1)), (3, .int w17), (4, .int i9), (5, .int (i18 + 1))]) [0, 1, 2, 3, 4, 5] rfl ?_
                refine g_goto (tgt := 30) dX7_pairs_73 (by decide) ?_
                refine g_pick (lv' := [(0, .ref (uk_ad G 60)), (1, .int w), (2, .int (w16 + 1)), (3, .int w17), (4, .int i9), (5, .int (i18 + 1))]) [0, 1, 2, 3, 4, 5] rfl ?_
                exact ihi18 (by first | lia | grind) (w16 + 1) w17 u24 hu24 fu24 riu24  ⟨ki18, ee_Fs fki18 (by first | assumption | lia | grind), by subst eu24; subst ex26; subst ex20; exact hki18.trans ((if_neg c22).trans ((if_neg c28).trans ((if_neg c29).trans (rfl))))⟩
              · refine g_bipush (v := 10) dX7_pairs_54 (by decide) ?_
                refine g_iload dX7_pairs_56 rfl ?_
                refine g_imul dX7_pairs_58 ?_
                refine g_topi (fun x30 ex30 => ?_)
                refine g_iload dX7_pairs_59 rfl ?_
                refine g_iadd dX7_pairs_61 ?_
                refine g_topi (fun x31 ex31 => ?_)
                refine g_goto (tgt := 66) dX7_pairs_62 (by decide) ?_
                refine g_istore_n dX7_pairs_66 (by decide) ?_
                refine g_pick (lv' := [(0, .ref (uk_ad G 60)), (1, .int w), (2, .int w16), (3, .int x31), (4, .int i9), (5, .int i18)]) [0, 1, 2, 3, 4, 5] rfl ?_
                refine g_iinc (v := w16 + 1) dX7_pairs_67 rfl rfl (by decide) ?_
                refine g_pick (lv' := [(0, .ref (uk_ad G 60)), (1, .int w), (2, .int (w16 + 1)), (3, .int x31), (4, .int i9), (5, .int i18)]) [0, 1, 2, 3, 4, 5] rfl ?_
                refine g_iinc (v := i18 + 1) dX7_pairs_70 rfl rfl (by decide) ?_
                refine g_pick (lv' := [(0, .ref (uk_ad G 60)), (1, .int w), (2, .int (w16 + 1)), (3, .int x31), (4, .int i9), (5, .int (i18 + 1))]) [0, 1, 2, 3, 4, 5] rfl ?_
                refine g_goto (tgt := 30) dX7_pairs_73 (by decide) ?_
                refine g_pick (lv' := [(0, .ref (uk_ad G 60)), (1, .int w), (2, .int (w16 + 1)), (3, .int x31), (4, .int i9), (5, .int (i18 + 1))]) [0, 1, 2, 3, 4, 5] rfl ?_
                exact ihi18 (by first | lia | grind) (w16 + 1) x31 u24 hu24 fu24 riu24  ⟨ki18, ee_Fs fki18 (by first | assumption | lia | grind), by subst ex31; subst ex30; subst eu24; subst ex26; subst ex20; exact hki18.trans ((if_neg c22).trans ((if_neg c28).trans ((if_pos c29).trans (rfl))))⟩
        refine g_pick (lv' := [(0, .ref (uk_ad G 60)), (1, .int w), (2, .int w7), (3, .int w8), (4, .int i9), (5, .int i9)]) [0, 1, 2, 3, 4, 5] rfl ?_
        exact L30_14 i9 (by first | decide | lia | grind) (by first | decide | lia | grind) w7 w8 u10 hu10 fu10 riu10  ⟨ee_K, ee_F0 _ _, by subst ex11; exact hki9.trans ((if_neg c13).trans (rfl))⟩
    refine g_pick (lv' := [(0, .ref (uk_ad G 60)), (1, .int w), (2, .int 0), (3, .int (-4)), (4, .int 0)]) [0, 1, 2, 3, 4] rfl ?_
    exact L17_5 0 (by first | decide | lia | grind) (by first | decide | lia | grind) 0 (-4) u hu f0 hri  ⟨ee_K, ee_F0 _ _, by subst ex4; exact (if_neg c5).trans (rfl)⟩
  · have zc5 := zx4 c5
    refine g_iconst (v := (-1)) dX7_pairs_7 (by decide) ?_
    exact g_iret (ty := .int) dX7_pairs_8 rfl rfl ⟨⟨⟨_, rfl, by first | trivial | lia | grind⟩, hu, f0, hri⟩, ee_i (by subst ex4; exact (if_pos c5).trans (rfl))⟩

