abbrev q_X7_fits (u : uk_Mem)  (r : Option Value) (u' : uk_Mem) : Prop := (∃ x : Int32, r = some (.int x) ∧ True) ∧ (iv u' ∧ fk [60, 62, 71] [3, 7, 10, 11, 13, 14, 15, 16, 17, 18, 19, 28] u u' ∧ ri u')
set_option maxHeartbeats 4000000 in
set_option maxRecDepth 20000 in
theorem c_X7_fits {G : uk_D} (hs : uk_Sep G) {u : uk_Mem} (hu : iv u) (hri : ri u)  (d : Nat) : uk_Meth G (d + 3) mX7_fits [.ref (uk_ad G 60)] u (q_X7_fits u) := by
  refine uk_Meth.of hs (by decide) (Nat.le_of_ble_eq_true rfl) (fun X => ?_)
  have f0 : fk [60, 62, 71] [3, 7, 10, 11, 13, 14, 15, 16, 17, 18, 19, 28] u u := fk_rf
  refine g_iconst (v := 0) dX7_fits_0 (by decide) ?_
  refine g_istore_n dX7_fits_1 (by decide) ?_
  refine g_iconst (v := 0) dX7_fits_2 (by decide) ?_
  refine g_istore_n dX7_fits_3 (by decide) ?_
  have L4_0 : ∀ i3 : Int32, 0 ≤ i3 → i3 ≤ 8 → ∀ (w2 : Int32) (u4 : uk_Mem), iv u4 → fk [60, 62, 71] [3, 7, 10, 11, 13, 14, 15, 16, 17, 18, 19, 28] u u4 → ri u4 → uk_G G X mX7_fits (d + 3) (q_X7_fits u) 4 [(0, .ref (uk_ad G 60)), (1, .int w2), (2, .int i3)] [] u4 := by
    refine uk_upl 8 ?_
    intro i3 ai3 bi3 ihi3 w2 u4 hu4 fu4 riu4
    have wu4_60_3 : u4.1 60 3 = u.1 60 3 := fk_at fu4 (by decide)
    refine g_iload_n dX7_fits_4 rfl ?_
    refine g_aload_n dX7_fits_5 rfl ?_
    refine f_X7_79 rfl rfl dX7_fits_6 ?_
    refine g_topi (fun x5 ex5 => ?_)
    have rx5 : 0 ≤ x5 ∧ x5 ≤ 8 := by rw [ex5]; exact iv_at hu4 _ _ rfl
    have s6 : u4.1 60 3 = x5 := ex5.symm
    refine g_icmp_ge (tgt := 107) dX7_fits_9 (by decide) (fun c7 => ?_) (fun c7 => ?_)
    · refine g_iload_n dX7_fits_107 rfl ?_
      exact g_iret (ty := .int) dX7_fits_108 rfl rfl ⟨⟨_, rfl, by first | trivial | lia | grind⟩, hu4, fu4, riu4⟩
    · refine g_aload_n dX7_fits_12 rfl ?_
      refine g_iload_n dX7_fits_13 rfl ?_
      refine g_sipush (v := 128) dX7_fits_14 (by decide) ?_
      refine cl_X7_220 (c := 60) (As := [.int i3, .int 128]) rfl (c_X7_mills (G := G) hs hu4 riu4  i3 128 (by first | trivial | decide | lia | grind) (by first | trivial | decide | lia | grind) (by first | trivial | decide | lia | grind) (by first | trivial | decide | lia | grind) (d)) rfl (by omega) rfl rfl (Nat.le_of_ble_eq_true rfl) dX7_fits_17 (fun r8 u9 q10 => ?_)
      obtain ⟨⟨x11, rfl, tx11⟩, mq10⟩ := q10
      obtain ⟨hu9, gu9, riu9, rau9, rpu9⟩ := mq10
      have fu9 : fk [60, 62, 71] [3, 7, 10, 11, 13, 14, 15, 16, 17, 18, 19, 28] u u9 := fk_tr fu4 gu9 (by decide) (by decide)
      have wu9_60_3 : u9.1 60 3 = u4.1 60 3 := fk_at gu9 (by decide)
      have s12 : u9.1 60 3 = x5 := (fk_at gu9 (by decide)).trans s6
      refine g_pop dX7_fits_20 rfl ?_
      refine g_aload_n dX7_fits_21 rfl ?_
      refine f_X7_207 rfl rfl dX7_fits_22 ?_
      refine g_topi (fun x13 ex13 => ?_)
      have rx13 : 0 ≤ x13 ∧ x13 ≤ 255 := by rw [ex13]; exact iv_at hu9 _ _ rfl
      have s14 : u9.1 60 22 = x13 := ex13.symm
      refine g_aload_n dX7_fits_25 rfl ?_
      refine f_X7_7 rfl rfl dX7_fits_26 ?_
      refine g_bipush (v := 42) dX7_fits_29 (by decide) ?_
      have v15 : vp_in 42 153 := uk_vin 153 rfl (by first | decide | lia | grind) (by first | decide | lia | grind)
      refine g_iald rfl rfl v15 dX7_fits_31 ?_
      refine g_topi (fun x16 ex16 => ?_)
      have bx16 := uk_cl v15
      have rx16 : 0 ≤ x16 ∧ x16 ≤ 8 := by rw [ex16]; exact sg_42 hu9 (by unfold uk_is51; decide)
      refine g_icmp_lt (tgt := 39) dX7_fits_32 (by decide) (fun c17 => ?_) (fun c17 => ?_)
      · refine g_iconst (v := 0) dX7_fits_39 (by decide) ?_
        refine g_istore_n dX7_fits_40 (by decide) ?_
        refine g_iconst (v := 0) dX7_fits_41 (by decide) ?_
        refine g_istore dX7_fits_42 (by decide) ?_
        have L44_17 : ∀ i20 : Int32, 0 ≤ i20 → i20 ≤ 8 → ∀ (w19 : Int32), w19 = 0 ∨ w19 = 1 → uk_G G X mX7_fits (d + 3) (q_X7_fits u) 44 [(0, .ref (uk_ad G 60)), (1, .int w2), (2, .int i3), (3, .int w19), (4, .int i20)] [] u9 := by
          refine uk_upl 8 ?_
          intro i20 ai20 bi20 ihi20 w19 ji200
          refine g_iload dX7_fits_44 rfl ?_
          refine g_aload_n dX7_fits_46 rfl ?_
          refine f_X7_7 rfl rfl dX7_fits_47 ?_
          refine g_bipush (v := 42) dX7_fits_50 (by decide) ?_
          have v21 : vp_in 42 153 := uk_vin 153 rfl (by first | decide | lia | grind) (by first | decide | lia | grind)
          refine g_iald rfl rfl v21 dX7_fits_52 ?_
          refine g_topi (fun x22 ex22 => ?_)
          have bx22 := uk_cl v21
          have rx22 : 0 ≤ x22 ∧ x22 ≤ 8 := by rw [ex22]; exact sg_42 hu9 (by unfold uk_is51; decide)
          refine g_icmp_ge (tgt := 92) dX7_fits_53 (by decide) (fun c23 => ?_) (fun c23 => ?_)
          · refine g_iload_n dX7_fits_92 rfl ?_
            refine g_iload_n dX7_fits_93 rfl ?_
            refine cl_X7_169 (As := [.int w19]) rfl (c_X7_flag (G := G) hs hu9  w19  (d + 2)) rfl (by omega) rfl (Nat.le_of_ble_eq_true rfl) dX7_fits_94 (fun r24 u25 q26 => ?_)
            obtain ⟨⟨x27, rfl, tx27⟩, mq26⟩ := q26
            rw [mq26]
            refine g_iload_n dX7_fits_97 rfl ?_
            refine g_ishl dX7_fits_98 (fun x28 ex28 => ?_)
            refine g_ior dX7_fits_99 ?_
            refine g_topi (fun x29 ex29 => ?_)
            refine g_istore_n dX7_fits_100 (by decide) ?_
            refine g_iinc (v := i3 + 1) dX7_fits_101 rfl rfl (by decide) ?_
            refine g_goto (tgt := 4) dX7_fits_104 (by decide) ?_
            refine g_pick (lv' := [(0, .ref (uk_ad G 60)), (1, .int x29), (2, .int (i3 + 1))]) [0, 1, 2] rfl ?_
            exact ihi3 (by first | lia | grind) x29 u9 hu9 fu9 riu9 
          · refine g_iload_n dX7_fits_56 rfl ?_
            refine g_if_eq (tgt := 92) dX7_fits_57 (by decide) (fun c30 => ?_) (fun c30 => ?_)
            · refine g_iload_n dX7_fits_92 rfl ?_
              refine g_iload_n dX7_fits_93 rfl ?_
              refine cl_X7_169 (As := [.int w19]) rfl (c_X7_flag (G := G) hs hu9  w19  (d + 2)) rfl (by omega) rfl (Nat.le_of_ble_eq_true rfl) dX7_fits_94 (fun r31 u32 q33 => ?_)
              obtain ⟨⟨x34, rfl, tx34⟩, mq33⟩ := q33
              rw [mq33]
              refine g_iload_n dX7_fits_97 rfl ?_
              refine g_ishl dX7_fits_98 (fun x35 ex35 => ?_)
              refine g_ior dX7_fits_99 ?_
              refine g_topi (fun x36 ex36 => ?_)
              refine g_istore_n dX7_fits_100 (by decide) ?_
              refine g_iinc (v := i3 + 1) dX7_fits_101 rfl rfl (by decide) ?_
              refine g_goto (tgt := 4) dX7_fits_104 (by decide) ?_
              refine g_pick (lv' := [(0, .ref (uk_ad G 60)), (1, .int x36), (2, .int (i3 + 1))]) [0, 1, 2] rfl ?_
              exact ihi3 (by first | lia | grind) x36 u9 hu9 fu9 riu9 
            · refine g_aload_n dX7_fits_60 rfl ?_
              refine f_X7_41 rfl rfl dX7_fits_61 ?_
              refine g_iload dX7_fits_64 rfl ?_
              have v37 : vp_in i20 256 := uk_vin 256 rfl (by first | decide | lia | grind) (by first | decide | lia | grind)
              refine g_iald rfl rfl v37 dX7_fits_66 ?_
              refine g_topi (fun x38 ex38 => ?_)
              have bx38 := uk_cl v37
              have rx38 : 0 ≤ x38 ∧ x38 ≤ 7 := by rw [ex38]; exact iv_at hu9 _ _ (uk_pick1 _ (by omega))
              refine g_aload_n dX7_fits_67 rfl ?_
              refine f_X7_7 rfl rfl dX7_fits_68 ?_
              refine g_bipush (v := 43) dX7_fits_71 (by decide) ?_
              refine g_iload dX7_fits_73 rfl ?_
              refine g_iadd dX7_fits_75 ?_
              refine g_topi (fun x39 ex39 => ?_)
              have v40 : vp_in x39 153 := uk_vin 153 rfl (by first | decide | lia | grind) (by first | decide | lia | grind)
              refine g_iald rfl rfl v40 dX7_fits_76 ?_
              refine g_topi (fun x41 ex41 => ?_)
              have bx41 := uk_cl v40
              have rx41 : 0 ≤ x41 ∧ x41 ≤ 7 := by rw [ex41]; exact sg_43 hu9 (by unfold uk_is51; decide) (by first | lia | grind) (by first | lia | grind)
              refine g_icmp_ne (tgt := 84) dX7_fits_77 (by decide) (fun c42 => ?_) (fun c42 => ?_)
              · refine g_iconst (v := 0) dX7_fits_84 (by decide) ?_
                refine g_istore_n dX7_fits_85 (by decide) ?_
                refine g_iinc (v := i20 + 1) dX7_fits_86 rfl rfl (by decide) ?_
                refine g_goto (tgt := 44) dX7_fits_89 (by decide) ?_
                refine g_pick (lv' := [(0, .ref (uk_ad G 60)), (1, .int w2), (2, .int i3), (3, .int 0), (4, .int (i20 + 1))]) [0, 1, 2, 3, 4] rfl ?_
                exact ihi20 (by first | lia | grind) 0 (by first | trivial | lia | grind)
              · refine g_iconst (v := 1) dX7_fits_80 (by decide) ?_
                refine g_goto (tgt := 85) dX7_fits_81 (by decide) ?_
                refine g_istore_n dX7_fits_85 (by decide) ?_
                refine g_iinc (v := i20 + 1) dX7_fits_86 rfl rfl (by decide) ?_
                refine g_goto (tgt := 44) dX7_fits_89 (by decide) ?_
                refine g_pick (lv' := [(0, .ref (uk_ad G 60)), (1, .int w2), (2, .int i3), (3, .int 1), (4, .int (i20 + 1))]) [0, 1, 2, 3, 4] rfl ?_
                exact ihi20 (by first | lia | grind) 1 (by first | trivial | lia | grind)
        refine g_pick (lv' := [(0, .ref (uk_ad G 60)), (1, .int w2), (2, .int i3), (3, .int 0), (4, .int 0)]) [0, 1, 2, 3, 4] rfl ?_
        exact L44_17 0 (by first | decide | lia | grind) (by first | decide | lia | grind) 0 (by first | trivial | lia | grind)
      · refine g_iconst (v := 1) dX7_fits_35 (by decide) ?_
        refine g_goto (tgt := 40) dX7_fits_36 (by decide) ?_
        refine g_istore_n dX7_fits_40 (by decide) ?_
        refine g_iconst (v := 0) dX7_fits_41 (by decide) ?_
        refine g_istore dX7_fits_42 (by decide) ?_
        have L44_42 : ∀ i45 : Int32, 0 ≤ i45 → i45 ≤ 8 → ∀ (w44 : Int32), w44 = 0 ∨ w44 = 1 → uk_G G X mX7_fits (d + 3) (q_X7_fits u) 44 [(0, .ref (uk_ad G 60)), (1, .int w2), (2, .int i3), (3, .int w44), (4, .int i45)] [] u9 := by
          refine uk_upl 8 ?_
          intro i45 ai45 bi45 ihi45 w44 ji450
          refine g_iload dX7_fits_44 rfl ?_
          refine g_aload_n dX7_fits_46 rfl ?_
          refine f_X7_7 rfl rfl dX7_fits_47 ?_
          refine g_bipush (v := 42) dX7_fits_50 (by decide) ?_
          have v46 : vp_in 42 153 := uk_vin 153 rfl (by first | decide | lia | grind) (by first | decide | lia | grind)
          refine g_iald rfl rfl v46 dX7_fits_52 ?_
          refine g_topi (fun x47 ex47 => ?_)
          have bx47 := uk_cl v46
          have rx47 : 0 ≤ x47 ∧ x47 ≤ 8 := by rw [ex47]; exact sg_42 hu9 (by unfold uk_is51; decide)
          refine g_icmp_ge (tgt := 92) dX7_fits_53 (by decide) (fun c48 => ?_) (fun c48 => ?_)
          · refine g_iload_n dX7_fits_92 rfl ?_
            refine g_iload_n dX7_fits_93 rfl ?_
            refine cl_X7_169 (As := [.int w44]) rfl (c_X7_flag (G := G) hs hu9  w44  (d + 2)) rfl (by omega) rfl (Nat.le_of_ble_eq_true rfl) dX7_fits_94 (fun r49 u50 q51 => ?_)
            obtain ⟨⟨x52, rfl, tx52⟩, mq51⟩ := q51
            rw [mq51]
            refine g_iload_n dX7_fits_97 rfl ?_
            refine g_ishl dX7_fits_98 (fun x53 ex53 => ?_)
            refine g_ior dX7_fits_99 ?_
            refine g_topi (fun x54 ex54 => ?_)
            refine g_istore_n dX7_fits_100 (by decide) ?_
            refine g_iinc (v := i3 + 1) dX7_fits_101 rfl rfl (by decide) ?_
            refine g_goto (tgt := 4) dX7_fits_104 (by decide) ?_
            refine g_pick (lv' := [(0, .ref (uk_ad G 60)), (1, .int x54), (2, .int (i3 + 1))]) [0, 1, 2] rfl ?_
            exact ihi3 (by first | lia | grind) x54 u9 hu9 fu9 riu9 
          · refine g_iload_n dX7_fits_56 rfl ?_
            refine g_if_eq (tgt := 92) dX7_fits_57 (by decide) (fun c55 => ?_) (fun c55 => ?_)
            · refine g_iload_n dX7_fits_92 rfl ?_
              refine g_iload_n dX7_fits_93 rfl ?_
              refine cl_X7_169 (As := [.int w44]) rfl (c_X7_flag (G := G) hs hu9  w44  (d + 2)) rfl (by omega) rfl (Nat.le_of_ble_eq_true rfl) dX7_fits_94 (fun r56 u57 q58 => ?_)
              obtain ⟨⟨x59, rfl, tx59⟩, mq58⟩ := q58
              rw [mq58]
              refine g_iload_n dX7_fits_97 rfl ?_
              refine g_ishl dX7_fits_98 (fun x60 ex60 => ?_)
              refine g_ior dX7_fits_99 ?_
              refine g_topi (fun x61 ex61 => ?_)
              refine g_istore_n dX7_fits_100 (by decide) ?_
              refine g_iinc (v := i3 + 1) dX7_fits_101 rfl rfl (by decide) ?_
              refine g_goto (tgt := 4) dX7_fits_104 (by decide) ?_
              refine g_pick (lv' := [(0, .ref (uk_ad G 60)), (1, .int x61), (2, .int (i3 + 1))]) [0, 1, 2] rfl ?_
              exact ihi3 (by first | lia | grind) x61 u9 hu9 fu9 riu9 
            · refine g_aload_n dX7_fits_60 rfl ?_
              refine f_X7_41 rfl rfl dX7_fits_61 ?_
              refine g_iload dX7_fits_64 rfl ?_
              have v62 : vp_in i45 256 := uk_vin 256 rfl (by first | decide | lia | grind) (by first | decide | lia | grind)
              refine g_iald rfl rfl v62 dX7_fits_66 ?_
              refine g_topi (fun x63 ex63 => ?_)
              have bx63 := uk_cl v62
              have rx63 : 0 ≤ x63 ∧ x63 ≤ 7 := by rw [ex63]; exact iv_at hu9 _ _ (uk_pick1 _ (by omega))
              refine g_aload_n dX7_fits_67 rfl ?_
              refine f_X7_7 rfl rfl dX7_fits_68 ?_
              refine g_bipush (v := 43) dX7_fits_71 (by decide) ?_
              refine g_iload dX7_fits_73 rfl ?_
              refine g_iadd dX7_fits_75 ?_
              refine g_topi (fun x64 ex64 => ?_)
              have v65 : vp_in x64 153 := uk_vin 153 rfl (by first | decide | lia | grind) (by first | decide | lia | grind)
              refine g_iald rfl rfl v65 dX7_fits_76 ?_
              refine g_topi (fun x66 ex66 => ?_)
              have bx66 := uk_cl v65
              have rx66 : 0 ≤ x66 ∧ x66 ≤ 7 := by rw [ex66]; exact sg_43 hu9 (by unfold uk_is51; decide) (by first | lia | grind) (by first | lia | grind)
              refine g_icmp_ne (tgt := 84) dX7_fits_77 (by decide) (fun c67 => ?_) (fun c67 => ?_)
              · refine g_iconst (v := 0) dX7_fits_84 (by decide) ?_
                refine g_istore_n dX7_fits_85 (by decide) ?_
                refine g_iinc (v := i45 + 1) dX7_fits_86 rfl rfl (by decide) ?_
                refine g_goto (tgt := 44) dX7_fits_89 (by decide) ?_
                refine g_pick (lv' := [(0, .ref (uk_ad G 60)), (1, .int w2), (2, .int i3), (3, .int 0), (4, .int (i45 + 1))]) [0, 1, 2, 3, 4] rfl ?_
                exact ihi45 (by first | lia | grind) 0 (by first | trivial | lia | grind)
              · refine g_iconst (v := 1) dX7_fits_80 (by decide) ?_
                refine g_goto (tgt := 85) dX7_fits_81 (by decide) ?_
                refine g_istore_n dX7_fits_85 (by decide) ?_
                refine g_iinc (v := i45 + 1) dX7_fits_86 rfl rfl (by decide) ?_
                refine g_goto (tgt := 44) dX7_fits_89 (by decide) ?_
                refine g_pick (lv' := [(0, .ref (uk_ad G 60)), (1, .int w2), (2, .int i3), (3, .int 1), (4, .int (i45 + 1))]) [0, 1, 2, 3, 4] rfl ?_
                exact ihi45 (by first | lia | grind) 1 (by first | trivial | lia | grind)
        refine g_pick (lv' := [(0, .ref (uk_ad G 60)), (1, .int w2), (2, .int i3), (3, .int 1), (4, .int 0)]) [0, 1, 2, 3, 4] rfl ?_
        exact L44_42 0 (by first | decide | lia | grind) (by first | decide | lia | grind) 1 (by first | trivial | lia | grind)
  refine g_pick (lv' := [(0, .ref (uk_ad G 60)), (1, .int 0), (2, .int 0)]) [0, 1, 2] rfl ?_
  exact L4_0 0 (by first | decide | lia | grind) (by first | decide | lia | grind) 0 u hu f0 hri 
abbrev q_X7_fitTogether (u : uk_Mem) (m : Int32) (n : Int32) (r : Option Value) (u' : uk_Mem) : Prop := (∃ x : Int32, r = some (.int x) ∧ (x = 0 ∨ x = 1) ∧ (¬ x = 0 → True) ∧ (x = 0 → True)) ∧ (iv u' ∧ fk [60, 62, 71, 73] [3, 7, 10, 11, 13, 14, 15, 16, 17, 18, 19, 28] u u' ∧ ri u')
set_option maxHeartbeats 4000000 in
set_option maxRecDepth 20000 in
theorem c_X7_fitTogether {G : uk_D} (hs : uk_Sep G) {u : uk_Mem} (hu : iv u) (hri : ri u) (m : Int32) (n : Int32) (p0 : 0 ≤ m) (p1 : m < u.1 60 3) (p2 : m ≤ 7) (p3 : 0 ≤ n) (p4 : n < u.1 60 3) (p5 : n ≤ 7) (d : Nat) : uk_Meth G (d + 3) mX7_fitTogether [.ref (uk_ad G 60), .int m, .int n] u (q_X7_fitTogether u m n) := by
  refine uk_Meth.of hs (by decide) (Nat.le_of_ble_eq_true rfl) (fun X => ?_)
  have f0 : fk [60, 62, 71, 73] [3, 7, 10, 11, 13, 14, 15, 16, 17, 18, 19, 28] u u := fk_rf
  refine g_iconst (v := 0) dX7_fitTogether_0 (by decide) ?_
  refine g_istore_n dX7_fitTogether_1 (by decide) ?_
  have L2_0 : ∀ i2 : Int32, 0 ≤ i2 → i2 ≤ 8 → ∀ (u3 : uk_Mem), iv u3 → fk [60, 62, 71, 73] [3, 7, 10, 11, 13, 14, 15, 16, 17, 18, 19, 28] u u3 → ri u3 → uk_G G X mX7_fitTogether (d + 3) (q_X7_fitTogether u m n) 2 [(0, .ref (uk_ad G 60)), (1, .int m), (2, .int n), (3, .int i2)] [] u3 := by
    refine uk_upl 8 ?_
    intro i2 ai2 bi2 ihi2  u3 hu3 fu3 riu3
    have wu3_60_3 : u3.1 60 3 = u.1 60 3 := fk_at fu3 (by decide)
    refine g_iload_n dX7_fitTogether_2 rfl ?_
    refine g_bipush (v := 8) dX7_fitTogether_3 (by decide) ?_
    refine g_icmp_ge (tgt := 21) dX7_fitTogether_5 (by decide) (fun c4 => ?_) (fun c4 => ?_)
    · refine g_iconst (v := 0) dX7_fitTogether_21 (by decide) ?_
      refine g_istore_n dX7_fitTogether_22 (by decide) ?_
      have L23_4 : ∀ i6 : Int32, 0 ≤ i6 → i6 ≤ 8 → ∀ (u7 : uk_Mem), iv u7 → fk [60, 62, 71, 73] [3, 7, 10, 11, 13, 14, 15, 16, 17, 18, 19, 28] u u7 → ri u7 → uk_G G X mX7_fitTogether (d + 3) (q_X7_fitTogether u m n) 23 [(0, .ref (uk_ad G 60)), (1, .int m), (2, .int n), (3, .int i6)] [] u7 := by
        refine uk_upl 8 ?_
        intro i6 ai6 bi6 ihi6  u7 hu7 fu7 riu7
        have wu7_60_3 : u7.1 60 3 = u.1 60 3 := fk_at fu7 (by decide)
        refine g_iload_n dX7_fitTogether_23 rfl ?_
        refine g_aload_n dX7_fitTogether_24 rfl ?_
        refine f_X7_7 rfl rfl dX7_fitTogether_25 ?_
        refine g_bipush (v := 42) dX7_fitTogether_28 (by decide) ?_
        have v8 : vp_in 42 153 := uk_vin 153 rfl (by first | decide | lia | grind) (by first | decide | lia | grind)
        refine g_iald rfl rfl v8 dX7_fitTogether_30 ?_
        refine g_topi (fun x9 ex9 => ?_)
        have bx9 := uk_cl v8
        have rx9 : 0 ≤ x9 ∧ x9 ≤ 8 := by rw [ex9]; exact sg_42 hu7 (by unfold uk_is51; decide)
        refine g_icmp_ge (tgt := 58) dX7_fitTogether_31 (by decide) (fun c10 => ?_) (fun c10 => ?_)
        · refine g_aload_n dX7_fitTogether_58 rfl ?_
          refine g_iload_n dX7_fitTogether_59 rfl ?_
          refine g_sipush (v := 128) dX7_fitTogether_60 (by decide) ?_
          refine cl_X7_220 (c := 60) (As := [.int m, .int 128]) rfl (c_X7_mills (G := G) hs hu7 riu7  m 128 (by first | trivial | decide | lia | grind) (by first | trivial | decide | lia | grind) (by first | trivial | decide | lia | grind) (by first | trivial | decide | lia | grind) (d)) rfl (by omega) rfl rfl (Nat.le_of_ble_eq_true rfl) dX7_fitTogether_63 (fun r11 u12 q13 => ?_)
          obtain ⟨⟨x14, rfl, tx14⟩, mq13⟩ := q13
          obtain ⟨hu12, gu12, riu12, rau12, rpu12⟩ := mq13
          have fu12 : fk [60, 62, 71, 73] [3, 7, 10, 11, 13, 14, 15, 16, 17, 18, 19, 28] u u12 := fk_tr fu7 gu12 (by decide) (by decide)
          have wu12_60_3 : u12.1 60 3 = u7.1 60 3 := fk_at gu12 (by decide)
          refine g_pop dX7_fitTogether_66 rfl ?_
          refine g_iconst (v := 0) dX7_fitTogether_67 (by decide) ?_
          refine g_istore_n dX7_fitTogether_68 (by decide) ?_
          have L69_14 : ∀ i16 : Int32, 0 ≤ i16 → i16 ≤ 8 → ∀ (u17 : uk_Mem), iv u17 → fk [60, 62, 71, 73] [3, 7, 10, 11, 13, 14, 15, 16, 17, 18, 19, 28] u u17 → ri u17 → uk_G G X mX7_fitTogether (d + 3) (q_X7_fitTogether u m n) 69 [(0, .ref (uk_ad G 60)), (1, .int m), (2, .int n), (3, .int i16)] [] u17 := by
            refine uk_upl 8 ?_
            intro i16 ai16 bi16 ihi16  u17 hu17 fu17 riu17
            have wu17_60_3 : u17.1 60 3 = u.1 60 3 := fk_at fu17 (by decide)
            refine g_iload_n dX7_fitTogether_69 rfl ?_
            refine g_aload_n dX7_fitTogether_70 rfl ?_
            refine f_X7_79 rfl rfl dX7_fitTogether_71 ?_
            refine g_topi (fun x18 ex18 => ?_)
            have rx18 : 0 ≤ x18 ∧ x18 ≤ 8 := by rw [ex18]; exact iv_at hu17 _ _ rfl
            have s19 : u17.1 60 3 = x18 := ex18.symm
            refine g_icmp_ge (tgt := 97) dX7_fitTogether_74 (by decide) (fun c20 => ?_) (fun c20 => ?_)
            · refine g_aload_n dX7_fitTogether_97 rfl ?_
              refine g_iload_n dX7_fitTogether_98 rfl ?_
              refine g_sipush (v := 128) dX7_fitTogether_99 (by decide) ?_
              refine cl_X7_220 (c := 60) (As := [.int n, .int 128]) rfl (c_X7_mills (G := G) hs hu17 riu17  n 128 (by first | trivial | decide | lia | grind) (by first | trivial | decide | lia | grind) (by first | trivial | decide | lia | grind) (by first | trivial | decide | lia | grind) (d)) rfl (by omega) rfl rfl (Nat.le_of_ble_eq_true rfl) dX7_fitTogether_102 (fun r21 u22 q23 => ?_)
              obtain ⟨⟨x24, rfl, tx24⟩, mq23⟩ := q23
              obtain ⟨hu22, gu22, riu22, rau22, rpu22⟩ := mq23
              have fu22 : fk [60, 62, 71, 73] [3, 7, 10, 11, 13, 14, 15, 16, 17, 18, 19, 28] u u22 := fk_tr fu17 gu22 (by decide) (by decide)
              have wu22_60_3 : u22.1 60 3 = u17.1 60 3 := fk_at gu22 (by decide)
              have s25 : u22.1 60 3 = x18 := (fk_at gu22 (by decide)).trans s19
              refine g_pop dX7_fitTogether_105 rfl ?_
              refine g_iconst (v := 1) dX7_fitTogether_106 (by decide) ?_
              refine g_istore_n dX7_fitTogether_107 (by decide) ?_
              refine g_iconst (v := 0) dX7_fitTogether_108 (by decide) ?_
              refine g_istore dX7_fitTogether_109 (by decide) ?_
              have L111_25 : ∀ i28 : Int32, 0 ≤ i28 → i28 ≤ 8 → ∀ (w27 : Int32), w27 = 0 ∨ w27 = 1 → uk_G G X mX7_fitTogether (d + 3) (q_X7_fitTogether u m n) 111 [(0, .ref (uk_ad G 60)), (1, .int m), (2, .int n), (3, .int w27), (4, .int i28)] [] u22 := by
                refine uk_upl 8 ?_
                intro i28 ai28 bi28 ihi28 w27 ji280
                refine g_iload dX7_fitTogether_111 rfl ?_
                refine g_aload_n dX7_fitTogether_113 rfl ?_
                refine f_X7_79 rfl rfl dX7_fitTogether_114 ?_
                refine g_topi (fun x29 ex29 => ?_)
                have rx29 : 0 ≤ x29 ∧ x29 ≤ 8 := by rw [ex29]; exact iv_at hu22 _ _ rfl
                have qx29 : x29 = x18 := by rw [ex29]; exact s25
                refine g_icmp_ge (tgt := 153) dX7_fitTogether_117 (by decide) (fun c30 => ?_) (fun c30 => ?_)
                · refine g_iload_n dX7_fitTogether_153 rfl ?_
                  exact g_iret (ty := .boolean) dX7_fitTogether_154 rfl (uk_nb ji280) ⟨⟨_, rfl, ji280, fun q => by first | trivial | (have := (fun _ => trivial) q; first | exact this | grind), fun q => by first | trivial | (have := (fun _ => trivial) q; first | exact this | grind)⟩, hu22, fu22, riu22⟩
                · refine g_iload_n dX7_fitTogether_120 rfl ?_
                  refine g_if_eq (tgt := 145) dX7_fitTogether_121 (by decide) (fun c31 => ?_) (fun c31 => ?_)
                  · refine g_iconst (v := 0) dX7_fitTogether_145 (by decide) ?_
                    refine g_istore_n dX7_fitTogether_146 (by decide) ?_
                    refine g_iinc (v := i28 + 1) dX7_fitTogether_147 rfl rfl (by decide) ?_
                    refine g_goto (tgt := 111) dX7_fitTogether_150 (by decide) ?_
                    refine g_pick (lv' := [(0, .ref (uk_ad G 60)), (1, .int m), (2, .int n), (3, .int 0), (4, .int (i28 + 1))]) [0, 1, 2, 3, 4] rfl ?_
                    exact ihi28 (by first | lia | grind) 0 (by first | trivial | lia | grind)
                  · refine g_aload_n dX7_fitTogether_124 rfl ?_
                    refine f_X7_48 rfl rfl dX7_fitTogether_125 ?_
                    refine g_iload dX7_fitTogether_128 rfl ?_
                    have v32 : vp_in i28 8 := uk_vin 8 rfl (by first | decide | lia | grind) (by first | decide | lia | grind)
                    refine g_iald rfl rfl v32 dX7_fitTogether_130 ?_
                    refine g_topi (fun x33 ex33 => ?_)
                    refine g_aload_n dX7_fitTogether_131 rfl ?_
                    refine g_iload dX7_fitTogether_132 rfl ?_
                    refine cl_X7_223 (c := 60) (As := [.int i28]) rfl (c_X7_countIn (G := G) hs hu22  i28  (d + 1)) rfl (by omega) rfl rfl (Nat.le_of_ble_eq_true rfl) dX7_fitTogether_134 (fun r34 u35 q36 => ?_)
                    obtain ⟨⟨x37, rfl, tx37⟩, mq36⟩ := q36
                    rw [mq36]
                    refine g_iadd dX7_fitTogether_137 ?_
                    refine g_topi (fun x38 ex38 => ?_)
                    refine g_if_ne (tgt := 145) dX7_fitTogether_138 (by decide) (fun c39 => ?_) (fun c39 => ?_)
                    · refine g_iconst (v := 0) dX7_fitTogether_145 (by decide) ?_
                      refine g_istore_n dX7_fitTogether_146 (by decide) ?_
                      refine g_iinc (v := i28 + 1) dX7_fitTogether_147 rfl rfl (by decide) ?_
                      refine g_goto (tgt := 111) dX7_fitTogether_150 (by decide) ?_
                      refine g_pick (lv' := [(0, .ref (uk_ad G 60)), (1, .int m), (2, .int n), (3, .int 0), (4, .int (i28 + 1))]) [0, 1, 2, 3, 4] rfl ?_
                      exact ihi28 (by first | lia | grind) 0 (by first | trivial | lia | grind)
                    · refine g_iconst (v := 1) dX7_fitTogether_141 (by decide) ?_
                      refine g_goto (tgt := 146) dX7_fitTogether_142 (by decide) ?_
                      refine g_istore_n dX7_fitTogether_146 (by decide) ?_
                      refine g_iinc (v := i28 + 1) dX7_fitTogether_147 rfl rfl (by decide) ?_
                      refine g_goto (tgt := 111) dX7_fitTogether_150 (by decide) ?_
                      refine g_pick (lv' := [(0, .ref (uk_ad G 60)), (1, .int m), (2, .int n), (3, .int 1), (4, .int (i28 + 1))]) [0, 1, 2, 3, 4] rfl ?_
                      exact ihi28 (by first | lia | grind) 1 (by first | trivial | lia | grind)
              refine g_pick (lv' := [(0, .ref (uk_ad G 60)), (1, .int m), (2, .int n), (3, .int 1), (4, .int 0)]) [0, 1, 2, 3, 4] rfl ?_
              exact L111_25 0 (by first | decide | lia | grind) (by first | decide | lia | grind) 1 (by first | trivial | lia | grind)
            · refine g_aload_n dX7_fitTogether_77 rfl ?_
              refine f_X7_48 rfl rfl dX7_fitTogether_78 ?_
              refine g_iload_n dX7_fitTogether_81 rfl ?_
              refine g_dup2 dX7_fitTogether_82 rfl rfl ?_
              have v40 : vp_in i16 8 := uk_vin 8 rfl (by first | decide | lia | grind) (by first | decide | lia | grind)
              refine g_iald rfl rfl v40 dX7_fitTogether_83 ?_
              refine g_topi (fun x41 ex41 => ?_)
              refine g_aload_n dX7_fitTogether_84 rfl ?_
              refine g_iload_n dX7_fitTogether_85 rfl ?_
              refine cl_X7_223 (c := 60) (As := [.int i16]) rfl (c_X7_countIn (G := G) hs hu17  i16  (d + 1)) rfl (by omega) rfl rfl (Nat.le_of_ble_eq_true rfl) dX7_fitTogether_86 (fun r42 u43 q44 => ?_)
              obtain ⟨⟨x45, rfl, tx45⟩, mq44⟩ := q44
              rw [mq44]
              refine g_iadd dX7_fitTogether_89 ?_
              refine g_topi (fun x46 ex46 => ?_)
              have v47 : vp_in i16 8 := uk_vin 8 rfl (by first | decide | lia | grind) (by first | decide | lia | grind)
              have b48 := uk_cl v47
              refine g_iast rfl rfl v47 dX7_fitTogether_90 ?_
              refine g_mem (fun u49 eu49 => ?_)
              have hu49 : iv u49 := by rw [eu49]; exact iv_upF hu17 (uk_pick1 _ (by omega))
              have fu49 : fk [60, 62, 71, 73] [3, 7, 10, 11, 13, 14, 15, 16, 17, 18, 19, 28] u u49 := by rw [eu49]; exact fk_up fu17 (by decide) (fun q => absurd q (by decide))
              have riu49 : ri u49 := by rw [eu49]; exact ri_1 riu17 (by decide) (fun q => absurd q (by decide))
              refine g_iinc (v := i16 + 1) dX7_fitTogether_91 rfl rfl (by decide) ?_
              refine g_goto (tgt := 69) dX7_fitTogether_94 (by decide) ?_
              refine g_pick (lv' := [(0, .ref (uk_ad G 60)), (1, .int m), (2, .int n), (3, .int (i16 + 1))]) [0, 1, 2, 3] rfl ?_
              exact ihi16 (by first | lia | grind)  u49 hu49 fu49 riu49 
          refine g_pick (lv' := [(0, .ref (uk_ad G 60)), (1, .int m), (2, .int n), (3, .int 0)]) [0, 1, 2, 3] rfl ?_
          exact L69_14 0 (by first | decide | lia | grind) (by first | decide | lia | grind)  u12 hu12 fu12 riu12 
        · refine g_aload_n dX7_fitTogether_34 rfl ?_
          refine f_X7_48 rfl rfl dX7_fitTogether_35 ?_
          refine g_aload_n dX7_fitTogether_38 rfl ?_
          refine f_X7_7 rfl rfl dX7_fitTogether_39 ?_
          refine g_bipush (v := 43) dX7_fitTogether_42 (by decide) ?_
          refine g_iload_n dX7_fitTogether_44 rfl ?_
          refine g_iadd dX7_fitTogether_45 ?_
          refine g_topi (fun x50 ex50 => ?_)
          have v51 : vp_in x50 153 := uk_vin 153 rfl (by first | decide | lia | grind) (by first | decide | lia | grind)
          refine g_iald rfl rfl v51 dX7_fitTogether_46 ?_
          refine g_topi (fun x52 ex52 => ?_)
          have bx52 := uk_cl v51
          have rx52 : 0 ≤ x52 ∧ x52 ≤ 7 := by rw [ex52]; exact sg_43 hu7 (by unfold uk_is51; decide) (by first | lia | grind) (by first | lia | grind)
          refine g_dup2 dX7_fitTogether_47 rfl rfl ?_
          have v53 : vp_in x52 8 := uk_vin 8 rfl (by first | decide | lia | grind) (by first | decide | lia | grind)
          refine g_iald rfl rfl v53 dX7_fitTogether_48 ?_
          refine g_topi (fun x54 ex54 => ?_)
          refine g_iconst (v := 1) dX7_fitTogether_49 (by decide) ?_
          refine g_isub dX7_fitTogether_50 ?_
          refine g_topi (fun x55 ex55 => ?_)
          have v56 : vp_in x52 8 := uk_vin 8 rfl (by first | decide | lia | grind) (by first | decide | lia | grind)
          have b57 := uk_cl v56
          refine g_iast rfl rfl v56 dX7_fitTogether_51 ?_
          refine g_mem (fun u58 eu58 => ?_)
          have hu58 : iv u58 := by rw [eu58]; exact iv_upF hu7 (uk_pick1 _ (by omega))
          have fu58 : fk [60, 62, 71, 73] [3, 7, 10, 11, 13, 14, 15, 16, 17, 18, 19, 28] u u58 := by rw [eu58]; exact fk_up fu7 (by decide) (fun q => absurd q (by decide))
          have riu58 : ri u58 := by rw [eu58]; exact ri_1 riu7 (by decide) (fun q => absurd q (by decide))
          refine g_iinc (v := i6 + 1) dX7_fitTogether_52 rfl rfl (by decide) ?_
          refine g_goto (tgt := 23) dX7_fitTogether_55 (by decide) ?_
          refine g_pick (lv' := [(0, .ref (uk_ad G 60)), (1, .int m), (2, .int n), (3, .int (i6 + 1))]) [0, 1, 2, 3] rfl ?_
          exact ihi6 (by first | lia | grind)  u58 hu58 fu58 riu58 
      refine g_pick (lv' := [(0, .ref (uk_ad G 60)), (1, .int m), (2, .int n), (3, .int 0)]) [0, 1, 2, 3] rfl ?_
      exact L23_4 0 (by first | decide | lia | grind) (by first | decide | lia | grind)  u3 hu3 fu3 riu3 
    · refine g_aload_n dX7_fitTogether_8 rfl ?_
      refine f_X7_48 rfl rfl dX7_fitTogether_9 ?_
      refine g_iload_n dX7_fitTogether_12 rfl ?_
      refine g_iconst (v := 0) dX7_fitTogether_13 (by decide) ?_
      have v59 : vp_in i2 8 := uk_vin 8 rfl (by first | decide | lia | grind) (by first | decide | lia | grind)
      have b60 := uk_cl v59
      refine g_iast rfl rfl v59 dX7_fitTogether_14 ?_
      refine g_mem (fun u61 eu61 => ?_)
      have hu61 : iv u61 := by rw [eu61]; exact iv_upF hu3 (uk_pick1 _ (by omega))
      have fu61 : fk [60, 62, 71, 73] [3, 7, 10, 11, 13, 14, 15, 16, 17, 18, 19, 28] u u61 := by rw [eu61]; exact fk_up fu3 (by decide) (fun q => absurd q (by decide))
      have riu61 : ri u61 := by rw [eu61]; exact ri_1 riu3 (by decide) (fun q => absurd q (by decide))
      refine g_iinc (v := i2 + 1) dX7_fitTogether_15 rfl rfl (by decide) ?_
      refine g_goto (tgt := 2) dX7_fitTogether_18 (by decide) ?_
      refine g_pick (lv' := [(0, .ref (uk_ad G 60)), (1, .int m), (2, .int n), (3, .int (i2 + 1))]) [0, 1, 2, 3] rfl ?_
      exact ihi2 (by first | lia | grind)  u61 hu61 fu61 riu61 
  refine g_pick (lv' := [(0, .ref (uk_ad G 60)), (1, .int m), (2, .int n), (3, .int 0)]) [0, 1, 2, 3] rfl ?_
  exact L2_0 0 (by first | decide | lia | grind) (by first | decide | lia | grind)  u hu f0 hri 
abbrev q_X7_pairs (u : uk_Mem) (w : Int32) (r : Option Value) (u' : uk_Mem) : Prop := (∃ x : Int32, r = some (.int x) ∧ True) ∧ (iv u' ∧ fk [60, 62, 71, 73] [3, 7, 10, 11, 13, 14, 15, 16, 17, 18, 19, 28] u u' ∧ ri u')
set_option maxHeartbeats 4000000 in
set_option maxRecDepth 20000 in
theorem c_X7_pairs {G : uk_D} (hs : uk_Sep G) {u : uk_Mem} (hu : iv u) (hri : ri u) (w : Int32) (d : Nat) : uk_Meth G (d + 4) mX7_pairs [.ref (uk_ad G 60), .int w] u (q_X7_pairs u w) := by
  refine uk_Meth.of hs (by decide) (Nat.le_of_ble_eq_true rfl) (fun X => ?_)
  have f0 : fk [60, 62, 71, 73] [3, 7, 10, 11, 13, 14, 15, 16, 17, 18, 19, 28] u u := fk_rf
  refine g_iload_n dX7_pairs_0 rfl ?_
  refine cl_X7_197 (As := [.int w]) rfl (c_X7_isPart (G := G) hs hu  w  (d + 2)) rfl (by omega) rfl (Nat.le_of_ble_eq_true rfl) dX7_pairs_1 (fun r1 u2 q3 => ?_)
  obtain ⟨⟨x4, rfl, tx4, nx4, zx4⟩, mq3⟩ := q3
  rw [mq3]
  refine g_if_ne (tgt := 9) dX7_pairs_4 (by decide) (fun c5 => ?_) (fun c5 => ?_)
  · have zc5 := nx4 c5
    refine g_iconst (v := 0) dX7_pairs_9 (by decide) ?_
    refine g_istore_n dX7_pairs_10 (by decide) ?_
    refine g_bipush (v := (-4)) dX7_pairs_11 (by decide) ?_
    refine g_istore_n dX7_pairs_13 (by decide) ?_
    refine g_iconst (v := 0) dX7_pairs_14 (by decide) ?_
    refine g_istore dX7_pairs_15 (by decide) ?_
    have L17_5 : ∀ i9 : Int32, 0 ≤ i9 → i9 ≤ 8 → ∀ (w7 : Int32) (w8 : Int32) (u10 : uk_Mem), iv u10 → fk [60, 62, 71, 73] [3, 7, 10, 11, 13, 14, 15, 16, 17, 18, 19, 28] u u10 → ri u10 → uk_G G X mX7_pairs (d + 4) (q_X7_pairs u w) 17 [(0, .ref (uk_ad G 60)), (1, .int w), (2, .int w7), (3, .int w8), (4, .int i9)] [] u10 := by
      refine uk_upl 8 ?_
      intro i9 ai9 bi9 ihi9 w7 w8 u10 hu10 fu10 riu10
      have wu10_60_3 : u10.1 60 3 = u.1 60 3 := fk_at fu10 (by decide)
      refine g_iload dX7_pairs_17 rfl ?_
      refine g_aload_n dX7_pairs_19 rfl ?_
      refine f_X7_79 rfl rfl dX7_pairs_20 ?_
      refine g_topi (fun x11 ex11 => ?_)
      have rx11 : 0 ≤ x11 ∧ x11 ≤ 8 := by rw [ex11]; exact iv_at hu10 _ _ rfl
      have s12 : u10.1 60 3 = x11 := ex11.symm
      refine g_icmp_ge (tgt := 82) dX7_pairs_23 (by decide) (fun c13 => ?_) (fun c13 => ?_)
      · refine g_iload_n dX7_pairs_82 rfl ?_
        refine g_if_ne (tgt := 90) dX7_pairs_83 (by decide) (fun c14 => ?_) (fun c14 => ?_)
        · refine g_iload_n dX7_pairs_90 rfl ?_
          exact g_iret (ty := .int) dX7_pairs_91 rfl rfl ⟨⟨_, rfl, by first | trivial | lia | grind⟩, hu10, fu10, riu10⟩
        · refine g_iload_n dX7_pairs_86 rfl ?_
          refine g_goto (tgt := 91) dX7_pairs_87 (by decide) ?_
          exact g_iret (ty := .int) dX7_pairs_91 rfl rfl ⟨⟨_, rfl, by first | trivial | lia | grind⟩, hu10, fu10, riu10⟩
      · refine g_iload dX7_pairs_26 rfl ?_
        refine g_istore dX7_pairs_28 (by decide) ?_
        have L30_14 : ∀ i18 : Int32, 0 ≤ i18 → i18 ≤ 8 → ∀ (w16 : Int32) (w17 : Int32) (u19 : uk_Mem), iv u19 → fk [60, 62, 71, 73] [3, 7, 10, 11, 13, 14, 15, 16, 17, 18, 19, 28] u u19 → ri u19 → uk_G G X mX7_pairs (d + 4) (q_X7_pairs u w) 30 [(0, .ref (uk_ad G 60)), (1, .int w), (2, .int w16), (3, .int w17), (4, .int i9), (5, .int i18)] [] u19 := by
          refine uk_upl 8 ?_
          intro i18 ai18 bi18 ihi18 w16 w17 u19 hu19 fu19 riu19
          have wu19_60_3 : u19.1 60 3 = u.1 60 3 := fk_at fu19 (by decide)
          refine g_iload dX7_pairs_30 rfl ?_
          refine g_aload_n dX7_pairs_32 rfl ?_
          refine f_X7_79 rfl rfl dX7_pairs_33 ?_
          refine g_topi (fun x20 ex20 => ?_)
          have rx20 : 0 ≤ x20 ∧ x20 ≤ 8 := by rw [ex20]; exact iv_at hu19 _ _ rfl
          have s21 : u19.1 60 3 = x20 := ex20.symm
          refine g_icmp_ge (tgt := 76) dX7_pairs_36 (by decide) (fun c22 => ?_) (fun c22 => ?_)
          · refine g_iinc (v := i9 + 1) dX7_pairs_76 rfl rfl (by decide) ?_
            refine g_goto (tgt := 17) dX7_pairs_79 (by decide) ?_
            refine g_pick (lv' := [(0, .ref (uk_ad G 60)), (1, .int w), (2, .int w16), (3, .int w17), (4, .int (i9 + 1))]) [0, 1, 2, 3, 4] rfl ?_
            exact ihi9 (by first | lia | grind) w16 w17 u19 hu19 fu19 riu19 
          · refine g_aload_n dX7_pairs_39 rfl ?_
            refine g_iload dX7_pairs_40 rfl ?_
            refine g_iload dX7_pairs_42 rfl ?_
            refine cl_X7_261 (c := 60) (As := [.int i9, .int i18]) rfl (c_X7_fitTogether (G := G) hs hu19 riu19  i9 i18 (by first | trivial | decide | lia | grind) (by first | trivial | decide | lia | grind) (by first | trivial | decide | lia | grind) (by first | trivial | decide | lia | grind) (by first | trivial | decide | lia | grind) (by first | trivial | decide | lia | grind) (d)) rfl (by omega) rfl rfl (Nat.le_of_ble_eq_true rfl) dX7_pairs_44 (fun r23 u24 q25 => ?_)
            obtain ⟨⟨x26, rfl, tx26, nx26, zx26⟩, mq25⟩ := q25
            obtain ⟨hu24, gu24, riu24⟩ := mq25
            have fu24 : fk [60, 62, 71, 73] [3, 7, 10, 11, 13, 14, 15, 16, 17, 18, 19, 28] u u24 := fk_tr fu19 gu24 (by decide) (by decide)
            have wu24_60_3 : u24.1 60 3 = u19.1 60 3 := fk_at gu24 (by decide)
            have s27 : u24.1 60 3 = x20 := (fk_at gu24 (by decide)).trans s21
            refine g_if_eq (tgt := 70) dX7_pairs_47 (by decide) (fun c28 => ?_) (fun c28 => ?_)
            · have zc28 := zx26 c28
              refine g_iinc (v := i18 + 1) dX7_pairs_70 rfl rfl (by decide) ?_
              refine g_goto (tgt := 30) dX7_pairs_73 (by decide) ?_
              refine g_pick (lv' := [(0, .ref (uk_ad G 60)), (1, .int w), (2, .int w16), (3, .int w17), (4, .int i9), (5, .int (i18 + 1))]) [0, 1, 2, 3, 4, 5] rfl ?_
              exact ihi18 (by first | lia | grind) w16 w17 u24 hu24 fu24 riu24 
            · have zc28 := nx26 c28
              refine g_iload_n dX7_pairs_50 rfl ?_
              refine g_if_ne (tgt := 65) dX7_pairs_51 (by decide) (fun c29 => ?_) (fun c29 => ?_)
              · refine g_iload_n dX7_pairs_65 rfl ?_
                refine g_istore_n dX7_pairs_66 (by decide) ?_
                refine g_iinc (v := w16 + 1) dX7_pairs_67 rfl rfl (by decide) ?_
                refine g_iinc (v := i18 + 1) dX7_pairs_70 rfl rfl (by decide) ?_
                refine g_goto (tgt := 30) dX7_pairs_73 (by decide) ?_
                refine g_pick (lv' := [(0, .ref (uk_ad G 60)), (1, .int w), (2, .int (w16 + 1)), (3, .int w17), (4, .int i9), (5, .int (i18 + 1))]) [0, 1, 2, 3, 4, 5] rfl ?_
                exact ihi18 (by first | lia | grind) (w16 + 1) w17 u24 hu24 fu24 riu24 
              · refine g_bipush (v := 10) dX7_pairs_54 (by decide) ?_
                refine g_iload dX7_pairs_56 rfl ?_
                refine g_imul dX7_pairs_58 ?_
                refine g_topi (fun x30 ex30 => ?_)
                refine g_iload dX7_pairs_59 rfl ?_
                refine g_iadd dX7_pairs_61 ?_
                refine g_topi (fun x31 ex31 => ?_)
                refine g_goto (tgt := 66) dX7_pairs_62 (by decide) ?_
                refine g_istore_n dX7_pairs_66 (by decide) ?_
                refine g_iinc (v := w16 + 1) dX7_pairs_67 rfl rfl (by decide) ?_
                refine g_iinc (v := i18 + 1) dX7_pairs_70 rfl rfl (by decide) ?_
                refine g_goto (tgt := 30) dX7_pairs_73 (by decide) ?_
                refine g_pick (lv' := [(0, .ref (uk_ad G 60)), (1, .int w), (2, .int (w16 + 1)), (3, .int x31), (4, .int i9), (5, .int (i18 + 1))]) [0, 1, 2, 3, 4, 5] rfl ?_
                exact ihi18 (by first | lia | grind) (w16 + 1) x31 u24 hu24 fu24 riu24 
        refine g_pick (lv' := [(0, .ref (uk_ad G 60)), (1, .int w), (2, .int w7), (3, .int w8), (4, .int i9), (5, .int i9)]) [0, 1, 2, 3, 4, 5] rfl ?_
        exact L30_14 i9 (by first | decide | lia | grind) (by first | decide | lia | grind) w7 w8 u10 hu10 fu10 riu10 
    refine g_pick (lv' := [(0, .ref (uk_ad G 60)), (1, .int w), (2, .int 0), (3, .int (-4)), (4, .int 0)]) [0, 1, 2, 3, 4] rfl ?_
    exact L17_5 0 (by first | decide | lia | grind) (by first | decide | lia | grind) 0 (-4) u hu f0 hri 
  · have zc5 := zx4 c5
    refine g_iconst (v := (-1)) dX7_pairs_7 (by decide) ?_
    exact g_iret (ty := .int) dX7_pairs_8 rfl rfl ⟨⟨_, rfl, by first | trivial | lia | grind⟩, hu, f0, hri⟩
abbrev q_X7_read (u : uk_Mem) (k : Int32) (l : Int32) (f : Int32) (n : Int32) (r : Option Value) (u' : uk_Mem) : Prop := (∃ x : Int32, r = some (.int x) ∧ True) ∧ (iv u' ∧ fk [60, 61, 62, 77] [3, 7, 10, 11, 13, 14, 15, 16, 17, 18, 19, 22] u u' ∧ ri u')
set_option maxHeartbeats 4000000 in
set_option maxRecDepth 20000 in
theorem c_X7_read {G : uk_D} (hs : uk_Sep G) {u : uk_Mem} (hu : iv u) (hri : ri u) (k : Int32) (l : Int32) (f : Int32) (n : Int32) (d : Nat) : uk_Meth G (d + 4) mX7_read [.ref (uk_ad G 60), .int k, .int l, .int f, .int n] u (q_X7_read u k l f n) := by
  refine uk_Meth.of hs (by decide) (Nat.le_of_ble_eq_true rfl) (fun X => ?_)
  have f0 : fk [60, 61, 62, 77] [3, 7, 10, 11, 13, 14, 15, 16, 17, 18, 19, 22] u u := fk_rf
  refine g_iload_n dX7_read_0 rfl ?_
  refine g_iload_n dX7_read_1 rfl ?_
  refine cl_X7_273 (As := [.int k, .int l]) rfl (c_X7_isSheet (G := G) hs hu  k l  (d + 2)) rfl (by omega) rfl (Nat.le_of_ble_eq_true rfl) dX7_read_2 (fun r1 u2 q3 => ?_)
  obtain ⟨⟨x4, rfl, tx4, nx4, zx4⟩, mq3⟩ := q3
  rw [mq3]
  refine g_if_eq (tgt := 21) dX7_read_5 (by decide) (fun c5 => ?_) (fun c5 => ?_)
  · have zc5 := zx4 c5
    refine g_iconst (v := (-1)) dX7_read_21 (by decide) ?_
    exact g_iret (ty := .int) dX7_read_22 rfl rfl ⟨⟨_, rfl, by first | trivial | lia | grind⟩, hu, f0, hri⟩
  · have zc5 := nx4 c5
    refine g_iload dX7_read_8 rfl ?_
    refine g_i2l dX7_read_10 ?_
    refine g_lconst (v := 0) dX7_read_11 (by decide) ?_
    refine g_ldc2 (v := 20) k_X7_276 dX7_read_12 ?_
    refine cl_X7_84 (As := [.long n.toInt64, .long 0, .long 20]) rfl (c_X7_in (G := G) hs hu  n 0 20  (d + 3)) rfl (by omega) rfl (Nat.le_of_ble_eq_true rfl) dX7_read_15 (fun r6 u7 q8 => ?_)
    obtain ⟨⟨x9, rfl, tx9, nx9, zx9⟩, mq8⟩ := q8
    rw [mq8]
    refine g_if_ne (tgt := 23) dX7_read_18 (by decide) (fun c10 => ?_) (fun c10 => ?_)
    · have zc10 := nx9 c10
      refine g_iconst (v := 0) dX7_read_23 (by decide) ?_
      refine g_istore dX7_read_24 (by decide) ?_
      have L26_10 : ∀ i12 : Int32, 0 ≤ i12 → i12 ≤ 51 → ∀ (u13 : uk_Mem), iv u13 → fk [60, 61, 62, 77] [3, 7, 10, 11, 13, 14, 15, 16, 17, 18, 19, 22] u u13 → ri u13 → cpy (u13.1 77) (u.1 61) i12 → u13.1 61 = u.1 61 → uk_G G X mX7_read (d + 4) (q_X7_read u k l f n) 26 [(0, .ref (uk_ad G 60)), (1, .int k), (2, .int l), (3, .int f), (4, .int n), (5, .int i12)] [] u13 := by
        refine uk_upl 51 ?_
        intro i12 ai12 bi12 ihi12  u13 hu13 fu13 riu13 ji120 ji121
        have wu13_60_3 : u13.1 60 3 = u.1 60 3 := fk_at fu13 (by decide)
        refine g_iload dX7_read_26 rfl ?_
        refine g_bipush (v := 51) dX7_read_28 (by decide) ?_
        refine g_icmp_ge (tgt := 53) dX7_read_30 (by decide) (fun c14 => ?_) (fun c14 => ?_)
        · have rhX : rh u13 := rh_of hri (fk_at fu13 (by decide)) (fk_c fu13 (by decide)) (fk_c fu13 (by decide)) (cpy_le ji120 (by lia))
          refine g_iconst (v := 0) dX7_read_53 (by decide) ?_
          refine g_istore dX7_read_54 (by decide) ?_
          refine g_iconst (v := 0) dX7_read_56 (by decide) ?_
          refine g_istore dX7_read_57 (by decide) ?_
          refine g_iconst (v := 0) dX7_read_59 (by decide) ?_
          refine g_istore dX7_read_60 (by decide) ?_
          have L62_14 : ∀ i18 : Int32, 0 ≤ i18 → i18 ≤ 20 → ∀ (w16 : Int32) (w17 : Int32) (u19 : uk_Mem), iv u19 → fk [60, 61, 62, 77] [3, 7, 10, 11, 13, 14, 15, 16, 17, 18, 19, 22] u u19 → ri u19 → rh u19 → uk_G G X mX7_read (d + 4) (q_X7_read u k l f n) 62 [(0, .ref (uk_ad G 60)), (1, .int k), (2, .int l), (3, .int f), (4, .int n), (5, .int w16), (6, .int w17), (7, .int i18)] [] u19 := by
            refine uk_upl 20 ?_
            intro i18 ai18 bi18 ihi18 w16 w17 u19 hu19 fu19 riu19 rhu19
            have wu19_60_3 : u19.1 60 3 = u.1 60 3 := fk_at fu19 (by decide)
            refine g_iload dX7_read_62 rfl ?_
            refine g_iload dX7_read_64 rfl ?_
            refine g_icmp_ge (tgt := 209) dX7_read_66 (by decide) (fun c20 => ?_) (fun c20 => ?_)
            · refine g_aload_n dX7_read_209 rfl ?_
              refine g_iload dX7_read_210 rfl ?_
              refine p_X7_281 rfl rfl dX7_read_212 ?_
              refine g_mem (fun u21 eu21 => ?_)
              have hu21 : iv u21 := by rw [eu21]; exact iv_upF hu19 rfl
              have fu21 : fk [60, 61, 62, 77] [3, 7, 10, 11, 13, 14, 15, 16, 17, 18, 19, 22] u u21 := by rw [eu21]; exact fk_up fu19 (by decide) (fun _ => by decide)
              have riu21 : ri u21 := by rw [eu21]; exact ri_1 riu19 (by decide) (fun _ => by decide)
              have rhu21 : rh u21 := by rw [eu21]; exact rh_1 rhu19 (by decide) (fun _ => by decide)
              have s22 : u21.1 60 28 = w16 := by rw [eu21, uk_up_at]; exact if_pos ⟨rfl, rfl⟩
              refine g_iload dX7_read_215 rfl ?_
              exact g_iret (ty := .int) dX7_read_217 rfl rfl ⟨⟨_, rfl, by first | trivial | lia | grind⟩, hu21, fu21, riu21⟩
            · refine g_iload dX7_read_69 rfl ?_
              refine g_if_ne (tgt := 209) dX7_read_71 (by decide) (fun c23 => ?_) (fun c23 => ?_)
              · refine g_aload_n dX7_read_209 rfl ?_
                refine g_iload dX7_read_210 rfl ?_
                refine p_X7_281 rfl rfl dX7_read_212 ?_
                refine g_mem (fun u24 eu24 => ?_)
                have hu24 : iv u24 := by rw [eu24]; exact iv_upF hu19 rfl
                have fu24 : fk [60, 61, 62, 77] [3, 7, 10, 11, 13, 14, 15, 16, 17, 18, 19, 22] u u24 := by rw [eu24]; exact fk_up fu19 (by decide) (fun _ => by decide)
                have riu24 : ri u24 := by rw [eu24]; exact ri_1 riu19 (by decide) (fun _ => by decide)
                have rhu24 : rh u24 := by rw [eu24]; exact rh_1 rhu19 (by decide) (fun _ => by decide)
                have s25 : u24.1 60 28 = w16 := by rw [eu24, uk_up_at]; exact if_pos ⟨rfl, rfl⟩
                refine g_iload dX7_read_215 rfl ?_
                exact g_iret (ty := .int) dX7_read_217 rfl rfl ⟨⟨_, rfl, by first | trivial | lia | grind⟩, hu24, fu24, riu24⟩
              · refine g_iload_n dX7_read_74 rfl ?_
                refine g_i2l dX7_read_75 ?_
                refine g_iload dX7_read_76 rfl ?_
                refine g_i2l dX7_read_78 ?_
                refine g_ladd dX7_read_79 ?_
                refine g_topl (fun y26 ey26 => ?_)
                refine g_lstore dX7_read_80 (by decide) ?_
                refine g_aload_n dX7_read_82 rfl ?_
                refine f_X7_51 rfl rfl dX7_read_83 ?_
                refine g_iload_n dX7_read_86 rfl ?_
                have v27 : vp_in k 4 := uk_vin 4 rfl (by first | decide | lia | grind) (by first | decide | lia | grind)
                refine g_iald rfl rfl v27 dX7_read_87 ?_
                refine g_topi (fun x28 ex28 => ?_)
                refine g_bipush (v := (-4)) dX7_read_88 (by decide) ?_
                refine g_icmp_ne (tgt := 97) dX7_read_90 (by decide) (fun c29 => ?_) (fun c29 => ?_)
                · refine g_aload_n dX7_read_97 rfl ?_
                  refine f_X7_51 rfl rfl dX7_read_98 ?_
                  refine g_iload_n dX7_read_101 rfl ?_
                  have v30 : vp_in k 4 := uk_vin 4 rfl (by first | decide | lia | grind) (by first | decide | lia | grind)
                  refine g_iald rfl rfl v30 dX7_read_102 ?_
                  refine g_topi (fun x31 ex31 => ?_)
                  refine g_iload_n dX7_read_103 rfl ?_
                  refine g_icmp_eq (tgt := 111) dX7_read_104 (by decide) (fun c32 => ?_) (fun c32 => ?_)
                  · refine g_lload dX7_read_111 rfl ?_
                    refine g_lconst (v := 0) dX7_read_113 (by decide) ?_
                    refine g_lcmp dX7_read_114 ?_
                    refine g_if_lt (tgt := 131) dX7_read_115 (by decide) (fun c33 => ?_) (fun c33 => ?_)
                    · refine g_iconst (v := 2) dX7_read_131 (by decide) ?_
                      refine g_goto (tgt := 136) dX7_read_132 (by decide) ?_
                      refine g_istore dX7_read_136 (by decide) ?_
                      refine g_iload dX7_read_138 rfl ?_
                      refine g_if_ne (tgt := 203) dX7_read_140 (by decide) (fun c34 => ?_) (fun c34 => ?_)
                      · refine g_iinc (v := i18 + 1) dX7_read_203 rfl rfl (by decide) ?_
                        refine g_goto (tgt := 62) dX7_read_206 (by decide) ?_
                        refine g_pick (lv' := [(0, .ref (uk_ad G 60)), (1, .int k), (2, .int l), (3, .int f), (4, .int n), (5, .int 2), (6, .int w17), (7, .int (i18 + 1))]) [0, 1, 2, 3, 4, 5, 6, 7] rfl ?_
                        exact ihi18 (by first | lia | grind) 2 w17 u19 hu19 fu19 riu19 rhu19 
                      · exact absurd c34 (by decide)
                    · refine g_lload dX7_read_118 rfl ?_
                      refine g_aload_n dX7_read_120 rfl ?_
                      refine f_X7_54 rfl rfl dX7_read_121 ?_
                      refine g_iload_n dX7_read_124 rfl ?_
                      have v35 : vp_in k 4 := uk_vin 4 rfl (by first | decide | lia | grind) (by first | decide | lia | grind)
                      refine g_iald rfl rfl v35 dX7_read_125 ?_
                      refine g_topi (fun x36 ex36 => ?_)
                      have bx36 := uk_cl v35
                      have rx36 : 0 ≤ x36 ∧ x36 ≤ 40 := by rw [ex36]; exact iv_at hu19 _ _ (uk_pick1 _ (by omega))
                      refine g_i2l dX7_read_126 ?_
                      refine g_lcmp dX7_read_127 ?_
                      refine g_if_lt (tgt := 135) dX7_read_128 (by decide) (fun c37 => ?_) (fun c37 => ?_)
                      · refine g_iconst (v := 0) dX7_read_135 (by decide) ?_
                        refine g_istore dX7_read_136 (by decide) ?_
                        refine g_iload dX7_read_138 rfl ?_
                        refine g_if_ne (tgt := 203) dX7_read_140 (by decide) (fun c38 => ?_) (fun c38 => ?_)
                        · exact absurd c38 (by decide)
                        · refine g_aload_n dX7_read_143 rfl ?_
                          refine g_aload_n dX7_read_144 rfl ?_
                          refine f_X7_57 rfl rfl dX7_read_145 ?_
                          refine g_bipush (v := 40) dX7_read_148 (by decide) ?_
                          refine g_iload_n dX7_read_150 rfl ?_
                          refine g_imul dX7_read_151 ?_
                          refine g_topi (fun x39 ex39 => ?_)
                          refine g_iload_n dX7_read_152 rfl ?_
                          refine g_iadd dX7_read_153 ?_
                          refine g_topi (fun x40 ex40 => ?_)
                          refine g_iload dX7_read_154 rfl ?_
                          refine g_iadd dX7_read_156 ?_
                          refine g_topi (fun x41 ex41 => ?_)
                          have hixx41 := rd_ix (k := k) (f := f) (i := i18) (s := x36) (by lia) (by lia) (by lia) (by lia) (by lia) ey26 (by assumption) (by assumption) ex39 ex40 ex41
                          have v42 : vp_in x41 160 := uk_vin 160 rfl (by first | decide | lia | grind) (by first | decide | lia | grind)
                          refine g_iald rfl rfl v42 dX7_read_157 ?_
                          refine g_topi (fun x43 ex43 => ?_)
                          refine cl_X7_278 (c := 60) (As := [.int x43]) rfl (c_X7_does (G := G) hs hu19 riu19  x43  (d)) rfl (by omega) rfl rfl (Nat.le_of_ble_eq_true rfl) dX7_read_158 (fun r44 u45 q46 => ?_)
                          obtain ⟨⟨x47, rfl, tx47⟩, mq46⟩ := q46
                          obtain ⟨hu45, gu45, riu45⟩ := mq46
                          have fu45 : fk [60, 61, 62, 77] [3, 7, 10, 11, 13, 14, 15, 16, 17, 18, 19, 22] u u45 := fk_tr fu19 gu45 (by decide) (by decide)
                          have rhu45 : rh u45 := rh_fk rhu19 gu45 (by decide) (by decide) (by decide) (by decide)
                          have wu45_60_3 : u45.1 60 3 = u19.1 60 3 := fk_at gu45 (by decide)
                          refine g_if_ge (tgt := 200) dX7_read_161 (by decide) (fun c48 => ?_) (fun c48 => ?_)
                          · refine g_iinc (v := w17 + 1) dX7_read_200 rfl rfl (by decide) ?_
                            refine g_iinc (v := i18 + 1) dX7_read_203 rfl rfl (by decide) ?_
                            refine g_goto (tgt := 62) dX7_read_206 (by decide) ?_
                            refine g_pick (lv' := [(0, .ref (uk_ad G 60)), (1, .int k), (2, .int l), (3, .int f), (4, .int n), (5, .int 0), (6, .int (w17 + 1)), (7, .int (i18 + 1))]) [0, 1, 2, 3, 4, 5, 6, 7] rfl ?_
                            exact ihi18 (by first | lia | grind) 0 (w17 + 1) u45 hu45 fu45 riu45 rhu45 
                          · refine g_iconst (v := 0) dX7_read_164 (by decide) ?_
                            refine g_istore dX7_read_165 (by decide) ?_
                            have L167_48 : ∀ i50 : Int32, 0 ≤ i50 → i50 ≤ 51 → ∀ (u51 : uk_Mem), iv u51 → fk [60, 61, 62, 77] [3, 7, 10, 11, 13, 14, 15, 16, 17, 18, 19, 22] u u51 → cpy (u51.1 61) (u45.1 77) i50 → cpx (u51.1 61) (u45.1 61) → u51.1 77 = u45.1 77 → uk_G G X mX7_read (d + 4) (q_X7_read u k l f n) 167 [(0, .ref (uk_ad G 60)), (1, .int k), (2, .int l), (3, .int f), (4, .int n), (5, .int 0), (6, .int w17), (7, .int i18), (10, .int i50)] [] u51 := by
                              refine uk_upl 51 ?_
                              intro i50 ai50 bi50 ihi50  u51 hu51 fu51 ji500 ji501 ji502
                              have wu51_60_3 : u51.1 60 3 = u.1 60 3 := fk_at fu51 (by decide)
                              refine g_iload dX7_read_167 rfl ?_
                              refine g_bipush (v := 51) dX7_read_169 (by decide) ?_
                              refine g_icmp_ge (tgt := 194) dX7_read_171 (by decide) (fun c52 => ?_) (fun c52 => ?_)
                              · refine g_bipush (v := (-20)) dX7_read_194 (by decide) ?_
                                refine g_iload dX7_read_196 rfl ?_
                                refine g_isub dX7_read_198 ?_
                                refine g_topi (fun x53 ex53 => ?_)
                                exact g_iret (ty := .int) dX7_read_199 rfl rfl ⟨⟨_, rfl, by first | trivial | lia | grind⟩, hu51, fu51, (ri_ofh riu45 rhu45 ((fk_at fu51 (by decide)).trans (fk_at fu45 (by decide)).symm) ((fk_c fu51 (by decide)).trans (fk_c fu45 (by decide)).symm) ((fk_c fu51 (by decide)).trans (fk_c fu45 (by decide)).symm) ((fk_c fu51 (by decide)).trans (fk_c fu45 (by decide)).symm) (cpy_le ji500 (by lia)) ji501)⟩
                              · refine g_aload_n dX7_read_174 rfl ?_
                                refine f_X7_7 rfl rfl dX7_read_175 ?_
                                refine g_iload dX7_read_178 rfl ?_
                                refine g_aload_n dX7_read_180 rfl ?_
                                refine f_X7_60 rfl rfl dX7_read_181 ?_
                                refine g_iload dX7_read_184 rfl ?_
                                have v54 : vp_in i50 51 := uk_vin 51 rfl (by first | decide | lia | grind) (by first | decide | lia | grind)
                                refine g_iald rfl rfl v54 dX7_read_186 ?_
                                refine g_topi (fun x55 ex55 => ?_)
                                have bx55 := uk_cl v54
                                have v56 : vp_in i50 153 := uk_vin 153 rfl (by first | decide | lia | grind) (by first | decide | lia | grind)
                                have b57 := uk_cl v56
                                refine g_iast rfl rfl v56 dX7_read_187 ?_
                                refine g_mem (fun u58 eu58 => ?_)
                                have hu58 : iv u58 := by rw [eu58]; exact iv_cp hu51 hu51 (by unfold uk_is51; decide) (by unfold uk_is51; decide) (by omega) ex55
                                have fu58 : fk [60, 61, 62, 77] [3, 7, 10, 11, 13, 14, 15, 16, 17, 18, 19, 22] u u58 := by rw [eu58]; exact fk_up fu51 (by decide) (fun q => absurd q (by decide))
                                refine g_iinc (v := i50 + 1) dX7_read_188 rfl rfl (by decide) ?_
                                refine g_goto (tgt := 167) dX7_read_191 (by decide) ?_
                                refine g_pick (lv' := [(0, .ref (uk_ad G 60)), (1, .int k), (2, .int l), (3, .int f), (4, .int n), (5, .int 0), (6, .int w17), (7, .int i18), (10, .int (i50 + 1))]) [0, 1, 2, 3, 4, 5, 6, 7, 8] rfl ?_
                                exact ihi50 (by first | lia | grind)  u58 hu58 fu58 (by rw [eu58, uk_up_self]; exact cpy_up ji500 (by lia) (ex55.trans (congrFun ji502 _))) (by rw [eu58, uk_up_self]; exact cpx_up ji501 (by lia) (by lia)) (by rw [eu58, uk_up_oc (by decide)]; exact ji502)
                            refine g_pick (lv' := [(0, .ref (uk_ad G 60)), (1, .int k), (2, .int l), (3, .int f), (4, .int n), (5, .int 0), (6, .int w17), (7, .int i18), (10, .int 0)]) [0, 1, 2, 3, 4, 5, 6, 7, 9] rfl ?_
                            exact L167_48 0 (by first | decide | lia | grind) (by first | decide | lia | grind)  u45 hu45 fu45 cpy_0 cpx_rf rfl
                      · refine g_iconst (v := 2) dX7_read_131 (by decide) ?_
                        refine g_goto (tgt := 136) dX7_read_132 (by decide) ?_
                        refine g_istore dX7_read_136 (by decide) ?_
                        refine g_iload dX7_read_138 rfl ?_
                        refine g_if_ne (tgt := 203) dX7_read_140 (by decide) (fun c59 => ?_) (fun c59 => ?_)
                        · refine g_iinc (v := i18 + 1) dX7_read_203 rfl rfl (by decide) ?_
                          refine g_goto (tgt := 62) dX7_read_206 (by decide) ?_
                          refine g_pick (lv' := [(0, .ref (uk_ad G 60)), (1, .int k), (2, .int l), (3, .int f), (4, .int n), (5, .int 2), (6, .int w17), (7, .int (i18 + 1))]) [0, 1, 2, 3, 4, 5, 6, 7] rfl ?_
                          exact ihi18 (by first | lia | grind) 2 w17 u19 hu19 fu19 riu19 rhu19 
                        · exact absurd c59 (by decide)
                  · refine g_iconst (v := 3) dX7_read_107 (by decide) ?_
                    refine g_goto (tgt := 136) dX7_read_108 (by decide) ?_
                    refine g_istore dX7_read_136 (by decide) ?_
                    refine g_iload dX7_read_138 rfl ?_
                    refine g_if_ne (tgt := 203) dX7_read_140 (by decide) (fun c60 => ?_) (fun c60 => ?_)
                    · refine g_iinc (v := i18 + 1) dX7_read_203 rfl rfl (by decide) ?_
                      refine g_goto (tgt := 62) dX7_read_206 (by decide) ?_
                      refine g_pick (lv' := [(0, .ref (uk_ad G 60)), (1, .int k), (2, .int l), (3, .int f), (4, .int n), (5, .int 3), (6, .int w17), (7, .int (i18 + 1))]) [0, 1, 2, 3, 4, 5, 6, 7] rfl ?_
                      exact ihi18 (by first | lia | grind) 3 w17 u19 hu19 fu19 riu19 rhu19 
                    · exact absurd c60 (by decide)
                · refine g_iconst (v := 1) dX7_read_93 (by decide) ?_
                  refine g_goto (tgt := 136) dX7_read_94 (by decide) ?_
                  refine g_istore dX7_read_136 (by decide) ?_
                  refine g_iload dX7_read_138 rfl ?_
                  refine g_if_ne (tgt := 203) dX7_read_140 (by decide) (fun c61 => ?_) (fun c61 => ?_)
                  · refine g_iinc (v := i18 + 1) dX7_read_203 rfl rfl (by decide) ?_
                    refine g_goto (tgt := 62) dX7_read_206 (by decide) ?_
                    refine g_pick (lv' := [(0, .ref (uk_ad G 60)), (1, .int k), (2, .int l), (3, .int f), (4, .int n), (5, .int 1), (6, .int w17), (7, .int (i18 + 1))]) [0, 1, 2, 3, 4, 5, 6, 7] rfl ?_
                    exact ihi18 (by first | lia | grind) 1 w17 u19 hu19 fu19 riu19 rhu19 
                  · exact absurd c61 (by decide)
          refine g_pick (lv' := [(0, .ref (uk_ad G 60)), (1, .int k), (2, .int l), (3, .int f), (4, .int n), (5, .int 0), (6, .int 0), (7, .int 0)]) [0, 1, 2, 3, 4, 5, 6, 7] rfl ?_
          exact L62_14 0 (by first | decide | lia | grind) (by first | decide | lia | grind) 0 0 u13 hu13 fu13 riu13 rhX 
        · refine g_aload_n dX7_read_33 rfl ?_
          refine f_X7_60 rfl rfl dX7_read_34 ?_
          refine g_iload dX7_read_37 rfl ?_
          refine g_aload_n dX7_read_39 rfl ?_
          refine f_X7_7 rfl rfl dX7_read_40 ?_
          refine g_iload dX7_read_43 rfl ?_
          have v62 : vp_in i12 153 := uk_vin 153 rfl (by first | decide | lia | grind) (by first | decide | lia | grind)
          refine g_iald rfl rfl v62 dX7_read_45 ?_
          refine g_topi (fun x63 ex63 => ?_)
          have bx63 := uk_cl v62
          have v64 : vp_in i12 51 := uk_vin 51 rfl (by first | decide | lia | grind) (by first | decide | lia | grind)
          have b65 := uk_cl v64
          refine g_iast rfl rfl v64 dX7_read_46 ?_
          refine g_mem (fun u66 eu66 => ?_)
          have hu66 : iv u66 := by rw [eu66]; exact iv_cp hu13 hu13 (by unfold uk_is51; decide) (by unfold uk_is51; decide) (by omega) ex63
          have fu66 : fk [60, 61, 62, 77] [3, 7, 10, 11, 13, 14, 15, 16, 17, 18, 19, 22] u u66 := by rw [eu66]; exact fk_up fu13 (by decide) (fun q => absurd q (by decide))
          have riu66 : ri u66 := by rw [eu66]; exact ri_1 riu13 (by decide) (fun q => absurd q (by decide))
          refine g_iinc (v := i12 + 1) dX7_read_47 rfl rfl (by decide) ?_
          refine g_goto (tgt := 26) dX7_read_50 (by decide) ?_
          refine g_pick (lv' := [(0, .ref (uk_ad G 60)), (1, .int k), (2, .int l), (3, .int f), (4, .int n), (5, .int (i12 + 1))]) [0, 1, 2, 3, 4, 5] rfl ?_
          exact ihi12 (by first | lia | grind)  u66 hu66 fu66 riu66 (by rw [eu66, uk_up_self]; exact cpy_up ji120 (by lia) (ex63.trans (congrFun ji121 _))) (by rw [eu66, uk_up_oc (by decide)]; exact ji121)
      refine g_pick (lv' := [(0, .ref (uk_ad G 60)), (1, .int k), (2, .int l), (3, .int f), (4, .int n), (5, .int 0)]) [0, 1, 2, 3, 4, 5] rfl ?_
      exact L26_10 0 (by first | decide | lia | grind) (by first | decide | lia | grind)  u hu f0 hri cpy_0 rfl
    · have zc10 := zx9 c10
      refine g_iconst (v := (-1)) dX7_read_21 (by decide) ?_
      exact g_iret (ty := .int) dX7_read_22 rfl rfl ⟨⟨_, rfl, by first | trivial | lia | grind⟩, hu, f0, hri⟩
