abbrev q_X7_fits (u : uk_Mem)  (r : Option Value) (u' : uk_Mem) : Prop := (∃ x : Int32, r = some (.int x) ∧ True) ∧ (iv u' ∧ fk [60, 62, 71] [3, 7, 10, 11, 13, 14, 15, 16, 17, 18, 19, 28] u u' ∧ ri u')
set_option maxHeartbeats 4000000 in
set_option maxRecDepth 20000 in
theorem c_X7_fits {G : uk_D} (hs : uk_Sep G) {u : uk_Mem} (hu : iv u) (hri : ri u)  (d : Nat) : uk_Meth G (d + 3) mX7_fits [.ref (uk_ad G 60)] u (q_X7_fits u) := by
  refine uk_Meth.of hs (by decide) (Nat.le_of_ble_eq_true rfl) (fun X => ?_)
  have f0 : fk [60, 62, 71] [3, 7, 10, 11, 13, 14, 15, 16, 17, 18, 19, 28] u u := fk_rf
  refine g_iconst (v := 0) dX7_fits_0 (by decide) ?_
  refine g_istore_n dX7_fits_1 (by decide) ?_
  refine g_pick (lv' := [(0, .ref (uk_ad G 60)), (1, .int 0)]) [0, 1] rfl ?_
  refine g_iconst (v := 0) dX7_fits_2 (by decide) ?_
  refine g_istore_n dX7_fits_3 (by decide) ?_
  refine g_pick (lv' := [(0, .ref (uk_ad G 60)), (1, .int 0), (2, .int 0)]) [0, 1, 2] rfl ?_
  have L4_0 : ∀ i3 : Int32, 0 ≤ i3 → i3 ≤ 8 → ∀ (w2 : Int32) (u4 : uk_Mem), iv u4 → fk [60, 62, 71] [3, 7, 10, 11, 13, 14, 15, 16, 17, 18, 19, 28] u u4 → ri u4 → uk_G G X mX7_fits (d + 3) (q_X7_fits u) 4 [(0, .ref (uk_ad G 60)), (1, .int w2), (2, .int i3)] [] u4 := by
    refine uk_upl 8 ?_
    intro i3 ai3 bi3 ihi3 w2 u4 hu4 fu4 riu4
    have wu4_60_3 : u4.1 60 3 = u.1 60 3 := fk_at fu4 (by decide)
    refine g_iload_n dX7_fits_4 rfl ?_
    refine g_aload_n dX7_fits_5 rfl ?_
    refine f_X7_79 rfl rfl dX7_fits_6 ?_
    refine g_topi (fun x5 ex5 => ?_)
    have rx5 : 0 ≤ x5 ∧ x5 ≤ 8 := by rw [ex5]; exact iv_at hu4 _ _ rfl
    have s6 : u4.1 60 3 = x5 := ex5.symm
    refine g_icmp_ge (tgt := 107) dX7_fits_9 (by decide) (fun c7 => ?_) (fun c7 => ?_)
    · refine g_iload_n dX7_fits_107 rfl ?_
      exact g_iret (ty := .int) dX7_fits_108 rfl rfl ⟨⟨_, rfl, by first | trivial | lia | grind⟩, hu4, fu4, riu4⟩
    · refine g_aload_n dX7_fits_12 rfl ?_
      refine g_iload_n dX7_fits_13 rfl ?_
      refine g_sipush (v := 128) dX7_fits_14 (by decide) ?_
      refine cl_X7_220 (c := 60) (As := [.int i3, .int 128]) rfl (c_X7_mills (G := G) hs hu4 riu4  i3 128 (by first | trivial | decide | lia | grind) (by first | trivial | decide | lia | grind) (by first | trivial | decide | lia | grind) (by first | trivial | decide | lia | grind) (d)) rfl (by omega) rfl rfl (Nat.le_of_ble_eq_true rfl) dX7_fits_17 (fun r8 u9 q10 => ?_)
      obtain ⟨⟨x11, rfl, tx11⟩, mq10⟩ := q10
      obtain ⟨hu9, gu9, riu9, rau9, rpu9⟩ := mq10
      have fu9 : fk [60, 62, 71] [3, 7, 10, 11, 13, 14, 15, 16, 17, 18, 19, 28] u u9 := fk_tr fu4 gu9 (by decide) (by decide)
      have wu9_60_3 : u9.1 60 3 = u4.1 60 3 := fk_at gu9 (by decide)
      have s12 : u9.1 60 3 = x5 := (fk_at gu9 (by decide)).trans s6
      refine g_pop dX7_fits_20 rfl ?_
      refine g_aload_n dX7_fits_21 rfl ?_
      refine f_X7_207 rfl rfl dX7_fits_22 ?_
      refine g_topi (fun x13 ex13 => ?_)
      have rx13 : 0 ≤ x13 ∧ x13 ≤ 255 := by rw [ex13]; exact iv_at hu9 _ _ rfl
      have s14 : u9.1 60 22 = x13 := ex13.symm
      refine g_aload_n dX7_fits_25 rfl ?_
      refine f_X7_7 rfl rfl dX7_fits_26 ?_
      refine g_bipush (v := 42) dX7_fits_29 (by decide) ?_
      have v15 : vp_in 42 153 := uk_vin 153 rfl (by first | decide | lia | grind) (by first | decide | lia | grind)
      refine g_iald rfl rfl v15 dX7_fits_31 ?_
      refine g_topi (fun x16 ex16 => ?_)
      have bx16 := uk_cl v15
      have rx16 : 0 ≤ x16 ∧ x16 ≤ 8 := by rw [ex16]; exact sg_42 hu9 (by unfold uk_is51; decide)
      refine g_icmp_lt (tgt := 39) dX7_fits_32 (by decide) (fun c17 => ?_) (fun c17 => ?_)
      · refine g_iconst (v := 0) dX7_fits_39 (by decide) ?_
        refine g_istore_n dX7_fits_40 (by decide) ?_
        refine g_pick (lv' := [(0, .ref (uk_ad G 60)), (1, .int w2), (2, .int i3), (3, .int 0)]) [0, 1, 2, 3] rfl ?_
        refine g_iconst (v := 0) dX7_fits_41 (by decide) ?_
        refine g_istore dX7_fits_42 (by decide) ?_
        refine g_pick (lv' := [(0, .ref (uk_ad G 60)), (1, .int w2), (2, .int i3), (3, .int 0), (4, .int 0)]) [0, 1, 2, 3, 4] rfl ?_
        have L44_17 : ∀ i20 : Int32, 0 ≤ i20 → i20 ≤ 8 → ∀ (w19 : Int32), w19 = 0 ∨ w19 = 1 → uk_G G X mX7_fits (d + 3) (q_X7_fits u) 44 [(0, .ref (uk_ad G 60)), (1, .int w2), (2, .int i3), (3, .int w19), (4, .int i20)] [] u9 := by
          refine uk_upl 8 ?_
          intro i20 ai20 bi20 ihi20 w19 ji200
          refine g_iload dX7_fits_44 rfl ?_
          refine g_aload_n dX7_fits_46 rfl ?_
          refine f_X7_7 rfl rfl dX7_fits_47 ?_
          refine g_bipush (v := 42) dX7_fits_50 (by decide) ?_
          have v21 : vp_in 42 153 := uk_vin 153 rfl (by first | decide | lia | grind) (by first | decide | lia | grind)
          refine g_iald rfl rfl v21 dX7_fits_52 ?_
          refine g_topi (fun x22 ex22 => ?_)
          have bx22 := uk_cl v21
          have rx22 : 0 ≤ x22 ∧ x22 ≤ 8 := by rw [ex22]; exact sg_42 hu9 (by unfold uk_is51; decide)
          refine g_icmp_ge (tgt := 92) dX7_fits_53 (by decide) (fun c23 => ?_) (fun c23 => ?_)
          · refine g_iload_n dX7_fits_92 rfl ?_
            refine g_iload_n dX7_fits_93 rfl ?_
            refine cl_X7_169 (As := [.int w19]) rfl (c_X7_flag (G := G) hs hu9  w19  (d + 2)) rfl (by omega) rfl (Nat.le_of_ble_eq_true rfl) dX7_fits_94 (fun r24 u25 q26 => ?_)
            obtain ⟨⟨x27, rfl, tx27⟩, mq26⟩ := q26
            rw [mq26]
            refine g_iload_n dX7_fits_97 rfl ?_
            refine g_ishl dX7_fits_98 (fun x28 ex28 => ?_)
            refine g_ior dX7_fits_99 ?_
            refine g_topi (fun x29 ex29 => ?_)
            refine g_istore_n dX7_fits_100 (by decide) ?_
            refine g_pick (lv' := [(0, .ref (uk_ad G 60)), (1, .int x29), (2, .int i3), (3, .int w19), (4, .int i20)]) [0, 1, 2, 3, 4] rfl ?_
            refine g_iinc (v := i3 + 1) dX7_fits_101 rfl rfl (by decide) ?_
            refine g_pick (lv' := [(0, .ref (uk_ad G 60)), (1, .int x29), (2, .int (i3 + 1)), (3, .int w19), (4, .int i20)]) [0, 1, 2, 3, 4] rfl ?_
            refine g_goto (tgt := 4) dX7_fits_104 (by decide) ?_
            refine g_pick (lv' := [(0, .ref (uk_ad G 60)), (1, .int x29), (2, .int (i3 + 1))]) [0, 1, 2] rfl ?_
            exact ihi3 (by first | lia | grind) x29 u9 hu9 fu9 riu9 
          · refine g_iload_n dX7_fits_56 rfl ?_
            refine g_if_eq (tgt := 92) dX7_fits_57 (by decide) (fun c30 => ?_) (fun c30 => ?_)
            · refine g_iload_n dX7_fits_92 rfl ?_
              refine g_iload_n dX7_fits_93 rfl ?_
              refine cl_X7_169 (As := [.int w19]) rfl (c_X7_flag (G := G) hs hu9  w19  (d + 2)) rfl (by omega) rfl (Nat.le_of_ble_eq_true rfl) dX7_fits_94 (fun r31 u32 q33 => ?_)
              obtain ⟨⟨x34, rfl, tx34⟩, mq33⟩ := q33
              rw [mq33]
              refine g_iload_n dX7_fits_97 rfl ?_
              refine g_ishl dX7_fits_98 (fun x35 ex35 => ?_)
              refine g_ior dX7_fits_99 ?_
              refine g_topi (fun x36 ex36 => ?_)
              refine g_istore_n dX7_fits_100 (by decide) ?_
              refine g_pick (lv' := [(0, .ref (uk_ad G 60)), (1, .int x36), (2, .int i3), (3, .int w19), (4, .int i20)]) [0, 1, 2, 3, 4] rfl ?_
              refine g_iinc (v := i3 + 1) dX7_fits_101 rfl rfl (by decide) ?_
              refine g_pick (lv' := [(0, .ref (uk_ad G 60)), (1, .int x36), (2, .int (i3 + 1)), (3, .int w19), (4, .int i20)]) [0, 1, 2, 3, 4] rfl ?_
              refine g_goto (tgt := 4) dX7_fits_104 (by decide) ?_
              refine g_pick (lv' := [(0, .ref (uk_ad G 60)), (1, .int x36), (2, .int (i3 + 1))]) [0, 1, 2] rfl ?_
              exact ihi3 (by first | lia | grind) x36 u9 hu9 fu9 riu9 
            · refine g_aload_n dX7_fits_60 rfl ?_
              refine f_X7_41 rfl rfl dX7_fits_61 ?_
              refine g_iload dX7_fits_64 rfl ?_
              have v37 : vp_in i20 256 := uk_vin 256 rfl (by first | decide | lia | grind) (by first | decide | lia | grind)
              refine g_iald rfl rfl v37 dX7_fits_66 ?_
              refine g_topi (fun x38 ex38 => ?_)
              have bx38 := uk_cl v37
              have rx38 : 0 ≤ x38 ∧ x38 ≤ 7 := by rw [ex38]; exact iv_at hu9 _ _ (uk_pick1 _ (by omega))
              refine g_aload_n dX7_fits_67 rfl ?_
              refine f_X7_7 rfl rfl dX7_fits_68 ?_
              refine g_bipush (v := 43) dX7_fits_71 (by decide) ?_
              refine g_iload dX7_fits_73 rfl ?_
              refine g_iadd dX7_fits_75 ?_
              refine g_topi (fun x39 ex39 => ?_)
              have v40 : vp_in x39 153 := uk_vin 153 rfl (by first | decide | lia | grind) (by first | decide | lia | grind)
              refine g_iald rfl rfl v40 dX7_fits_76 ?_
              refine g_topi (fun x41 ex41 => ?_)
              have bx41 := uk_cl v40
              have rx41 : 0 ≤ x41 ∧ x41 ≤ 7 := by rw [ex41]; exact sg_43 hu9 (by unfold uk_is51; decide) (by first | lia | grind) (by first | lia | grind)
              refine g_icmp_ne (tgt := 84) dX7_fits_77 (by decide) (fun c42 => ?_) (fun c42 => ?_)
              · refine g_iconst (v := 0) dX7_fits_84 (by decide) ?_
                refine g_istore_n dX7_fits_85 (by decide) ?_
                refine g_pick (lv' := [(0, .ref (uk_ad G 60)), (1, .int w2), (2, .int i3), (3, .int 0), (4, .int i20)]) [0, 1, 2, 3, 4] rfl ?_
                refine g_iinc (v := i20 + 1) dX7_fits_86 rfl rfl (by decide) ?_
                refine g_pick (lv' := [(0, .ref (uk_ad G 60)), (1, .int w2), (2, .int i3), (3, .int 0), (4, .int (i20 + 1))]) [0, 1, 2, 3, 4] rfl ?_
                refine g_goto (tgt := 44) dX7_fits_89 (by decide) ?_
                refine g_pick (lv' := [(0, .ref (uk_ad G 60)), (1, .int w2), (2, .int i3), (3, .int 0), (4, .int (i20 + 1))]) [0, 1, 2, 3, 4] rfl ?_
                exact ihi20 (by first | lia | grind) 0 (by first | trivial | lia | grind)
              · refine g_iconst (v := 1) dX7_fits_80 (by decide) ?_
                refine g_goto (tgt := 85) dX7_fits_81 (by decide) ?_
                refine g_istore_n dX7_fits_85 (by decide) ?_
                refine g_pick (lv' := [(0, .ref (uk_ad G 60)), (1, .int w2), (2, .int i3), (3, .int 1), (4, .int i20)]) [0, 1, 2, 3, 4] rfl ?_
                refine g_iinc (v := i20 + 1) dX7_fits_86 rfl rfl (by decide) ?_
                refine g_pick (lv' := [(0, .ref (uk_ad G 60)), (1, .int w2), (2, .int i3), (3, .int 1), (4, .int (i20 + 1))]) [0, 1, 2, 3, 4] rfl ?_
                refine g_goto (tgt := 44) dX7_fits_89 (by decide) ?_
                refine g_pick (lv' := [(0, .ref (uk_ad G 60)), (1, .int w2), (2, .int i3), (3, .int 1), (4, .int (i20 + 1))]) [0, 1, 2, 3, 4] rfl ?_
                exact ihi20 (by first | lia | grind) 1 (by first | trivial | lia | grind)
        refine g_pick (lv' := [(0, .ref (uk_ad G 60)), (1, .int w2), (2, .int i3), (3, .int 0), (4, .int 0)]) [0, 1, 2, 3, 4] rfl ?_
        exact L44_17 0 (by first | decide | lia | grind) (by first | decide | lia | grind) 0 (by first | trivial | lia | grind)
      · refine g_iconst (v := 1) dX7_fits_35 (by decide) ?_
        refine g_goto (tgt := 40) dX7_fits_36 (by decide) ?_
        refine g_istore_n dX7_fits_40 (by decide) ?_
        refine g_pick (lv' := [(0, .ref (uk_ad G 60)), (1, .int w2), (2, .int i3), (3, .int 1)]) [0, 1, 2, 3] rfl ?_
        refine g_iconst (v := 0) dX7_fits_41 (by decide) ?_
        refine g_istore dX7_fits_42 (by decide) ?_
        refine g_pick (lv' := [(0, .ref (uk_ad G 60)), (1, .int w2), (2, .int i3), (3, .int 1), (4, .int 0)]) [0, 1, 2, 3, 4] rfl ?_
        have L44_42 : ∀ i45 : Int32, 0 ≤ i45 → i45 ≤ 8 → ∀ (w44 : Int32), w44 = 0 ∨ w44 = 1 → uk_G G X mX7_fits (d + 3) (q_X7_fits u) 44 [(0, .ref (uk_ad G 60)), (1, .int w2), (2, .int i3), (3, .int w44), (4, .int i45)] [] u9 := by
          refine uk_upl 8 ?_
          intro i45 ai45 bi45 ihi45 w44 ji450
          refine g_iload dX7_fits_44 rfl ?_
          refine g_aload_n dX7_fits_46 rfl ?_
          refine f_X7_7 rfl rfl dX7_fits_47 ?_
          refine g_bipush (v := 42) dX7_fits_50 (by decide) ?_
          have v46 : vp_in 42 153 := uk_vin 153 rfl (by first | decide | lia | grind) (by first | decide | lia | grind)
          refine g_iald rfl rfl v46 dX7_fits_52 ?_
          refine g_topi (fun x47 ex47 => ?_)
          have bx47 := uk_cl v46
          have rx47 : 0 ≤ x47 ∧ x47 ≤ 8 := by rw [ex47]; exact sg_42 hu9 (by unfold uk_is51; decide)
          refine g_icmp_ge (tgt := 92) dX7_fits_53 (by decide) (fun c48 => ?_) (fun c48 => ?_)
          · refine g_iload_n dX7_fits_92 rfl ?_
            refine g_iload_n dX7_fits_93 rfl ?_
            refine cl_X7_169 (As := [.int w44]) rfl (c_X7_flag (G := G) hs hu9  w44  (d + 2)) rfl (by omega) rfl (Nat.le_of_ble_eq_true rfl) dX7_fits_94 (fun r49 u50 q51 => ?_)
            obtain ⟨⟨x52, rfl, tx52⟩, mq51⟩ := q51
            rw [mq51]
            refine g_iload_n dX7_fits_97 rfl ?_
            refine g_ishl dX7_fits_98 (fun x53 ex53 => ?_)
            refine g_ior dX7_fits_99 ?_
            refine g_topi (fun x54 ex54 => ?_)
            refine g_istore_n dX7_fits_100 (by decide) ?_
            refine g_pick (lv' := [(0, .ref (uk_ad G 60)), (1, .int x54), (2, .int i3), (3, .int w44), (4, .int i45)]) [0, 1, 2, 3, 4] rfl ?_
            refine g_iinc (v := i3 + 1) dX7_fits_101 rfl rfl (by decide) ?_
            refine g_pick (lv' := [(0, .ref (uk_ad G 60)), (1, .int x54), (2, .int (i3 + 1)), (3, .int w44), (4, .int i45)]) [0, 1, 2, 3, 4] rfl ?_
            refine g_goto (tgt := 4) dX7_fits_104 (by decide) ?_
            refine g_pick (lv' := [(0, .ref (uk_ad G 60)), (1, .int x54), (2, .int (i3 + 1))]) [0, 1, 2] rfl ?_
            exact ihi3 (by first | lia | grind) x54 u9 hu9 fu9 riu9 
          · refine g_iload_n dX7_fits_56 rfl ?_
            refine g_if_eq (tgt := 92) dX7_fits_57 (by decide) (fun c55 => ?_) (fun c55 => ?_)
            · refine g_iload_n dX7_fits_92 rfl ?_
              refine g_iload_n dX7_fits_93 rfl ?_
              refine cl_X7_169 (As := [.int w44]) rfl (c_X7_flag (G := G) hs hu9  w44  (d + 2)) rfl (by omega) rfl (Nat.le_of_ble_eq_true rfl) dX7_fits_94 (fun r56 u57 q58 => ?_)
              obtain ⟨⟨x59, rfl, tx59⟩, mq58⟩ := q58
              rw [mq58]
              refine g_iload_n dX7_fits_97 rfl ?_
              refine g_ishl dX7_fits_98 (fun x60 ex60 => ?_)
              refine g_ior dX7_fits_99 ?_
              refine g_topi (fun x61 ex61 => ?_)
              refine g_istore_n dX7_fits_100 (by decide) ?_
              refine g_pick (lv' := [(0, .ref (uk_ad G 60)), (1, .int x61), (2, .int i3), (3, .int w44), (4, .int i45)]) [0, 1, 2, 3, 4] rfl ?_
              refine g_iinc (v := i3 + 1) dX7_fits_101 rfl rfl (by decide) ?_
              refine g_pick (lv' := [(0, .ref (uk_ad G 60)), (1, .int x61), (2, .int (i3 + 1)), (3, .int w44), (4, .int i45)]) [0, 1, 2, 3, 4] rfl ?_
              refine g_goto (tgt := 4) dX7_fits_104 (by decide) ?_
              refine g_pick (lv' := [(0, .ref (uk_ad G 60)), (1, .int x61), (2, .int (i3 + 1))]) [0, 1, 2] rfl ?_
              exact ihi3 (by first | lia | grind) x61 u9 hu9 fu9 riu9 
            · refine g_aload_n dX7_fits_60 rfl ?_
              refine f_X7_41 rfl rfl dX7_fits_61 ?_
              refine g_iload dX7_fits_64 rfl ?_
              have v62 : vp_in i45 256 := uk_vin 256 rfl (by first | decide | lia | grind) (by first | decide | lia | grind)
              refine g_iald rfl rfl v62 dX7_fits_66 ?_
              refine g_topi (fun x63 ex63 => ?_)
              have bx63 := uk_cl v62
              have rx63 : 0 ≤ x63 ∧ x63 ≤ 7 := by rw [ex63]; exact iv_at hu9 _ _ (uk_pick1 _ (by omega))
              refine g_aload_n dX7_fits_67 rfl ?_
              refine f_X7_7 rfl rfl dX7_fits_68 ?_
              refine g_bipush (v := 43) dX7_fits_71 (by decide) ?_
              refine g_iload dX7_fits_73 rfl ?_
              refine g_iadd dX7_fits_75 ?_
              refine g_topi (fun x64 ex64 => ?_)
              have v65 : vp_in x64 153 := uk_vin 153 rfl (by first | decide | lia | grind) (by first | decide | lia | grind)
              refine g_iald rfl rfl v65 dX7_fits_76 ?_
              refine g_topi (fun x66 ex66 => ?_)
              have bx66 := uk_cl v65
              have rx66 : 0 ≤ x66 ∧ x66 ≤ 7 := by rw [ex66]; exact sg_43 hu9 (by unfold uk_is51; decide) (by first | lia | grind) (by first | lia | grind)
              refine g_icmp_ne (tgt := 84) dX7_fits_77 (by decide) (fun c67 => ?_) (fun c67 => ?_)
              · refine g_iconst (v := 0) dX7_fits_84 (by decide) ?_
                refine g_istore_n dX7_fits_85 (by decide) ?_
                refine g_pick (lv' := [(0, .ref (uk_ad G 60)), (1, .int w2), (2, .int i3), (3, .int 0), (4, .int i45)]) [0, 1, 2, 3, 4] rfl ?_
                refine g_iinc (v := i45 + 1) dX7_fits_86 rfl rfl (by decide) ?_
                refine g_pick (lv' := [(0, .ref (uk_ad G 60)), (1, .int w2), (2, .int i3), (3, .int 0), (4, .int (i45 + 1))]) [0, 1, 2, 3, 4] rfl ?_
                refine g_goto (tgt := 44) dX7_fits_89 (by decide) ?_
                refine g_pick (lv' := [(0, .ref (uk_ad G 60)), (1, .int w2), (2, .int i3), (3, .int 0), (4, .int (i45 + 1))]) [0, 1, 2, 3, 4] rfl ?_
                exact ihi45 (by first | lia | grind) 0 (by first | trivial | lia | grind)
              · refine g_iconst (v := 1) dX7_fits_80 (by decide) ?_
                refine g_goto (tgt := 85) dX7_fits_81 (by decide) ?_
                refine g_istore_n dX7_fits_85 (by decide) ?_
                refine g_pick (lv' := [(0, .ref (uk_ad G 60)), (1, .int w2), (2, .int i3), (3, .int 1), (4, .int i45)]) [0, 1, 2, 3, 4] rfl ?_
                refine g_iinc (v := i45 + 1) dX7_fits_86 rfl rfl (by decide) ?_
                refine g_pick (lv' := [(0, .ref (uk_ad G 60)), (1, .int w2), (2, .int i3), (3, .int 1), (4, .int (i45 + 1))]) [0, 1, 2, 3, 4] rfl ?_
                refine g_goto (tgt := 44) dX7_fits_89 (by decide) ?_
                refine g_pick (lv' := [(0, .ref (uk_ad G 60)), (1, .int w2), (2, .int i3), (3, .int 1), (4, .int (i45 + 1))]) [0, 1, 2, 3, 4] rfl ?_
                exact ihi45 (by first | lia | grind) 1 (by first | trivial | lia | grind)
        refine g_pick (lv' := [(0, .ref (uk_ad G 60)), (1, .int w2), (2, .int i3), (3, .int 1), (4, .int 0)]) [0, 1, 2, 3, 4] rfl ?_
        exact L44_42 0 (by first | decide | lia | grind) (by first | decide | lia | grind) 1 (by first | trivial | lia | grind)
  refine g_pick (lv' := [(0, .ref (uk_ad G 60)), (1, .int 0), (2, .int 0)]) [0, 1, 2] rfl ?_
  exact L4_0 0 (by first | decide | lia | grind) (by first | decide | lia | grind) 0 u hu f0 hri 
abbrev q_X7_fitTogether (u : uk_Mem) (m : Int32) (n : Int32) (r : Option Value) (u' : uk_Mem) : Prop := (∃ x : Int32, r = some (.int x) ∧ (x = 0 ∨ x = 1) ∧ (¬ x = 0 → True) ∧ (x = 0 → True)) ∧ (iv u' ∧ fk [60, 62, 71, 73] [3, 7, 10, 11, 13, 14, 15, 16, 17, 18, 19, 28] u u' ∧ ri u')
set_option maxHeartbeats 4000000 in
set_option maxRecDepth 20000 in
theorem c_X7_fitTogether {G : uk_D} (hs : uk_Sep G) {u : uk_Mem} (hu : iv u) (hri : ri u) (m : Int32) (n : Int32) (p0 : 0 ≤ m) (p1 : m < u.1 60 3) (p2 : m ≤ 7) (p3 : 0 ≤ n) (p4 : n < u.1 60 3) (p5 : n ≤ 7) (d : Nat) : uk_Meth G (d + 3) mX7_fitTogether [.ref (uk_ad G 60), .int m, .int n] u (q_X7_fitTogether u m n) := by
  refine uk_Meth.of hs (by decide) (Nat.le_of_ble_eq_true rfl) (fun X => ?_)
  have f0 : fk [60, 62, 71, 73] [3, 7, 10, 11, 13, 14, 15, 16, 17, 18, 19, 28] u u := fk_rf
  refine g_iconst (v := 0) dX7_fitTogether_0 (by decide) ?_
  refine g_istore_n dX7_fitTogether_1 (by decide) ?_
  refine g_pick (lv' := [(0, .ref (uk_ad G 60)), (1, .int m), (2, .int n), (3, .int 0)]) [0, 1, 2, 3] rfl ?_
  have L2_0 : ∀ i2 : Int32, 0 ≤ i2 → i2 ≤ 8 → ∀ (u3 : uk_Mem), iv u3 → fk [60, 62, 71, 73] [3, 7, 10, 11, 13, 14, 15, 16, 17, 18, 19, 28] u u3 → ri u3 → uk_G G X mX7_fitTogether (d + 3) (q_X7_fitTogether u m n) 2 [(0, .ref (uk_ad G 60)), (1, .int m), (2, .int n), (3, .int i2)] [] u3 := by
    refine uk_upl 8 ?_
    intro i2 ai2 bi2 ihi2  u3 hu3 fu3 riu3
    have wu3_60_3 : u3.1 60 3 = u.1 60 3 := fk_at fu3 (by decide)
    refine g_iload_n dX7_fitTogether_2 rfl ?_
    refine g_bipush (v := 8) dX7_fitTogether_3 (by decide) ?_
    refine g_icmp_ge (tgt := 21) dX7_fitTogether_5 (by decide) (fun c4 => ?_) (fun c4 => ?_)
    · refine g_iconst (v := 0) dX7_fitTogether_21 (by decide) ?_
      refine g_istore_n dX7_fitTogether_22 (by decide) ?_
      refine g_pick (lv' := [(0, .ref (uk_ad G 60)), (1, .int m), (2, .int n), (3, .int 0)]) [0, 1, 2, 3] rfl ?_
      have L23_4 : ∀ i6 : Int32, 0 ≤ i6 → i6 ≤ 8 → ∀ (u7 : uk_Mem), iv u7 → fk [60, 62, 71, 73] [3, 7, 10, 11, 13, 14, 15, 16, 17, 18, 19, 28] u u7 → ri u7 → uk_G G X mX7_fitTogether (d + 3) (q_X7_fitTogether u m n) 23 [(0, .ref (uk_ad G 60)), (1, .int m), (2, .int n), (3, .int i6)] [] u7 := by
        refine uk_upl 8 ?_
        intro i6 ai6 bi6 ihi6  u7 hu7 fu7 riu7
        have wu7_60_3 : u7.1 60 3 = u.1 60 3 := fk_at fu7 (by decide)
        refine g_iload_n dX7_fitTogether_23 rfl ?_
        refine g_aload_n dX7_fitTogether_24 rfl ?_
        refine f_X7_7 rfl rfl dX7_fitTogether_25 ?_
        refine g_bipush (v := 42) dX7_fitTogether_28 (by decide) ?_
        have v8 : vp_in 42 153 := uk_vin 153 rfl (by first | decide | lia | grind) (by first | decide | lia | grind)
        refine g_iald rfl rfl v8 dX7_fitTogether_30 ?_
        refine g_topi (fun x9 ex9 => ?_)
        have bx9 := uk_cl v8
        have rx9 : 0 ≤ x9 ∧ x9 ≤ 8 := by rw [ex9]; exact sg_42 hu7 (by unfold uk_is51; decide)
        refine g_icmp_ge (tgt := 58) dX7_fitTogether_31 (by decide) (fun c10 => ?_) (fun c10 => ?_)
        · refine g_aload_n dX7_fitTogether_58 rfl ?_
          refine g_iload_n dX7_fitTogether_59 rfl ?_
          refine g_sipush (v := 128) dX7_fitTogether_60 (by decide) ?_
          refine cl_X7_220 (c := 60) (As := [.int m, .int 128]) rfl (c_X7_mills (G := G) hs hu7 riu7  m 128 (by first | trivial | decide | lia | grind) (by first | trivial | decide | lia | grind) (by first | trivial | decide | lia | grind) (by first | trivial | decide | lia | grind) (d)) rfl (by omega) rfl rfl (Nat.le_of_ble_eq_true rfl) dX7_fitTogether_63 (fun r11 u12 q13 => ?_)
          obtain ⟨⟨x14, rfl, tx14⟩, mq13⟩ := q13
          obtain ⟨hu12, gu12, riu12, rau12, rpu12⟩ := mq13
          have fu12 : fk [60, 62, 71, 73] [3, 7, 10, 11, 13, 14, 15, 16, 17, 18, 19, 28] u u12 := fk_tr fu7 gu12 (by decide) (by decide)
          have wu12_60_3 : u12.1 60 3 = u7.1 60 3 := fk_at gu12 (by decide)
          refine g_pop dX7_fitTogether_66 rfl ?_
          refine g_iconst (v := 0) dX7_fitTogether_67 (by decide) ?_
          refine g_istore_n dX7_fitTogether_68 (by decide) ?_
          refine g_pick (lv' := [(0, .ref (uk_ad G 60)), (1, .int m), (2, .int n), (3, .int 0)]) [0, 1, 2, 3] rfl ?_
          have L69_14 : ∀ i16 : Int32, 0 ≤ i16 → i16 ≤ 8 → ∀ (u17 : uk_Mem), iv u17 → fk [60, 62, 71, 73] [3, 7, 10, 11, 13, 14, 15, 16, 17, 18, 19, 28] u u17 → ri u17 → uk_G G X mX7_fitTogether (d + 3) (q_X7_fitTogether u m n) 69 [(0, .ref (uk_ad G 60)), (1, .int m), (2, .int n), (3, .int i16)] [] u17 := by
            refine uk_upl 8 ?_
            intro i16 ai16 bi16 ihi16  u17 hu17 fu17 riu17
            have wu17_60_3 : u17.1 60 3 = u.1 60 3 := fk_at fu17 (by decide)
            refine g_iload_n dX7_fitTogether_69 rfl ?_
            refine g_aload_n dX7_fitTogether_70 rfl ?_
            refine f_X7_79 rfl rfl dX7_fitTogether_71 ?_
            refine g_topi (fun x18 ex18 => ?_)
            have rx18 : 0 ≤ x18 ∧ x18 ≤ 8 := by rw [ex18]; exact iv_at hu17 _ _ rfl
            have s19 : u17.1 60 3 = x18 := ex18.symm
            refine g_icmp_ge (tgt := 97) dX7_fitTogether_74 (by decide) (fun c20 => ?_) (fun c20 => ?_)
            · refine g_aload_n dX7_fitTogether_97 rfl ?_
              refine g_iload_n dX7_fitTogether_98 rfl ?_
              refine g_sipush (v := 128) dX7_fitTogether_99 (by decide) ?_
              refine cl_X7_220 (c := 60) (As := [.int n, .int 128]) rfl (c_X7_mills (G := G) hs hu17 riu17  n 128 (by first | trivial | decide | lia | grind) (by first | trivial | decide | lia | grind) (by first | trivial | decide | lia | grind) (by first | trivial | decide | lia | grind) (d)) rfl (by omega) rfl rfl (Nat.le_of_ble_eq_true rfl) dX7_fitTogether_102 (fun r21 u22 q23 => ?_)
              obtain ⟨⟨x24, rfl, tx24⟩, mq23⟩ := q23
              obtain ⟨hu22, gu22, riu22, rau22, rpu22⟩ := mq23
              have fu22 : fk [60, 62, 71, 73] [3, 7, 10, 11, 13, 14, 15, 16, 17, 18, 19, 28] u u22 := fk_tr fu17 gu22 (by decide) (by decide)
              have wu22_60_3 : u22.1 60 3 = u17.1 60 3 := fk_at gu22 (by decide)
              have s25 : u22.1 60 3 = x18 := (fk_at gu22 (by decide)).trans s19
              refine g_pop dX7_fitTogether_105 rfl ?_
              refine g_iconst (v := 1) dX7_fitTogether_106 (by decide) ?_
              refine g_istore_n dX7_fitTogether_107 (by decide) ?_
              refine g_pick (lv' := [(0, .ref (uk_ad G 60)), (1, .int m), (2, .int n), (3, .int 1)]) [0, 1, 2, 3] rfl ?_
              refine g_iconst (v := 0) dX7_fitTogether_108 (by decide) ?_
              refine g_istore dX7_fitTogether_109 (by decide) ?_
              refine g_pick (lv' := [(0, .ref (uk_ad G 60)), (1, .int m), (2, .int n), (3, .int 1), (4, .int 0)]) [0, 1, 2, 3, 4] rfl ?_
              have L111_25 : ∀ i28 : Int32, 0 ≤ i28 → i28 ≤ 8 → ∀ (w27 : Int32), w27 = 0 ∨ w27 = 1 → uk_G G X mX7_fitTogether (d + 3) (q_X7_fitTogether u m n) 111 [(0, .ref (uk_ad G 60)), (1, .int m), (2, .int n), (3, .int w27), (4, .int i28)] [] u22 := by
                refine uk_upl 8 ?_
                intro i28 ai28 bi28 ihi28 w27 ji280
                refine g_iload dX7_fitTogether_111 rfl ?_
                refine g_aload_n dX7_fitTogether_113 rfl ?_
                refine f_X7_79 rfl rfl dX7_fitTogether_114 ?_
                refine g_topi (fun x29 ex29 => ?_)
                have rx29 : 0 ≤ x29 ∧ x29 ≤ 8 := by rw [ex29]; exact iv_at hu22 _ _ rfl
                have qx29 : x29 = x18 := by rw [ex29]; exact s25
                refine g_icmp_ge (tgt := 153) dX7_fitTogether_117 (by decide) (fun c30 => ?_) (fun c30 => ?_)
                · refine g_iload_n dX7_fitTogether_153 rfl ?_
                  exact g_iret (ty := .boolean) dX7_fitTogether_154 rfl (uk_nb ji280) ⟨⟨_, rfl, ji280, fun q => by first | trivial | (have := (fun _ => trivial) q; first | exact this | grind), fun q => by first | trivial | (have := (fun _ => trivial) q; first | exact this | grind)⟩, hu22, fu22, riu22⟩
                · refine g_iload_n dX7_fitTogether_120 rfl ?_
                  refine g_if_eq (tgt := 145) dX7_fitTogether_121 (by decide) (fun c31 => ?_) (fun c31 => ?_)
                  · refine g_iconst (v := 0) dX7_fitTogether_145 (by decide) ?_
                    refine g_istore_n dX7_fitTogether_146 (by decide) ?_
                    refine g_pick (lv' := [(0, .ref (uk_ad G 60)), (1, .int m), (2, .int n), (3, .int 0), (4, .int i28)]) [0, 1, 2, 3, 4] rfl ?_
                    refine g_iinc (v := i28 + 1) dX7_fitTogether_147 rfl rfl (by decide) ?_
                    refine g_pick (lv' := [(0, .ref (uk_ad G 60)), (1, .int m), (2, .int n), (3, .int 0), (4, .int (i28 + 1))]) [0, 1, 2, 3, 4] rfl ?_
                    refine g_goto (tgt := 111) dX7_fitTogether_150 (by decide) ?_
                    refine g_pick (lv' := [(0, .ref (uk_ad G 60)), (1, .int m), (2, .int n), (3, .int 0), (4, .int (i28 + 1))]) [0, 1, 2, 3, 4] rfl ?_
                    exact ihi28 (by first | lia | grind) 0 (by first | trivial | lia | grind)
                  · refine g_aload_n dX7_fitTogether_124 rfl ?_
                    refine f_X7_48 rfl rfl dX7_fitTogether_125 ?_
                    refine g_iload dX7_fitTogether_128 rfl ?_
                    have v32 : vp_in i28 8 := uk_vin 8 rfl (by first | decide | lia | grind) (by first | decide | lia | grind)
                    refine g_iald rfl rfl v32 dX7_fitTogether_130 ?_
                    refine g_topi (fun x33 ex33 => ?_)
                    refine g_aload_n dX7_fitTogether_131 rfl ?_
                    refine g_iload dX7_fitTogether_132 rfl ?_
                    refine cl_X7_223 (c := 60) (As := [.int i28]) rfl (c_X7_countIn (G := G) hs hu22  i28  (d + 1)) rfl (by omega) rfl rfl (Nat.le_of_ble_eq_true rfl) dX7_fitTogether_134 (fun r34 u35 q36 => ?_)
                    obtain ⟨⟨x37, rfl, tx37⟩, mq36⟩ := q36
                    rw [mq36]
                    refine g_iadd dX7_fitTogether_137 ?_
                    refine g_topi (fun x38 ex38 => ?_)
                    refine g_if_ne (tgt := 145) dX7_fitTogether_138 (by decide) (fun c39 => ?_) (fun c39 => ?_)
                    · refine g_iconst (v := 0) dX7_fitTogether_145 (by decide) ?_
                      refine g_istore_n dX7_fitTogether_146 (by decide) ?_
                      refine g_pick (lv' := [(0, .ref (uk_ad G 60)), (1, .int m), (2, .int n), (3, .int 0), (4, .int i28)]) [0, 1, 2, 3, 4] rfl ?_
                      refine g_iinc (v := i28 + 1) dX7_fitTogether_147 rfl rfl (by decide) ?_
                      refine g_pick (lv' := [(0, .ref (uk_ad G 60)), (1, .int m), (2, .int n), (3, .int 0), (4, .int (i28 + 1))]) [0, 1, 2, 3, 4] rfl ?_
                      refine g_goto (tgt := 111) dX7_fitTogether_150 (by decide) ?_
                      refine g_pick (lv' := [(0, .ref (uk_ad G 60)), (1, .int m), (2, .int n), (3, .int 0), (4, .int (i28 + 1))]) [0, 1, 2, 3, 4] rfl ?_
                      exact ihi28 (by first | lia | grind) 0 (by first | trivial | lia | grind)
                    · refine g_iconst (v := 1) dX7_fitTogether_141 (by decide) ?_
                      refine g_goto (tgt := 146) dX7_fitTogether_142 (by decide) ?_
                      refine g_istore_n dX7_fitTogether_146 (by decide) ?_
                      refine g_pick (lv' := [(0, .ref (uk_ad G 60)), (1, .int m), (2, .int n), (3, .int 1), (4, .int i28)]) [0, 1, 2, 3, 4] rfl ?_
                      refine g_iinc (v := i28 + 1) dX7_fitTogether_147 rfl rfl (by decide) ?_
                      refine g_pick (lv' := [(0, .ref (uk_ad G 60)), (1, .int m), (2, .int n), (3, .int 1), (4, .int (i28 + 1))]) [0, 1, 2, 3, 4] rfl ?_
                      refine g_goto (tgt := 111) dX7_fitTogether_150 (by decide) ?_
                      refine g_pick (lv' := [(0, .ref (uk_ad G 60)), (1, .int m), (2, .int n), (3, .int 1), (4, .int (i28 + 1))]) [0, 1, 2, 3, 4] rfl ?_
                      exact ihi28 (by first | lia | grind) 1 (by first | trivial | lia | grind)
              refine g_pick (lv' := [(0, .ref (uk_ad G 60)), (1, .int m), (2, .int n), (3, .int 1), (4, .int 0)]) [0, 1, 2, 3, 4] rfl ?_
              exact L111_25 0 (by first | decide | lia | grind) (by first | decide | lia | grind) 1 (by first | trivial | lia | grind)
            · refine g_aload_n dX7_fitTogether_77 rfl ?_
              refine f_X7_48 rfl rfl dX7_fitTogether_78 ?_
              refine g_iload_n dX7_fitTogether_81 rfl ?_
              refine g_dup2 dX7_fitTogether_82 rfl rfl ?_
              have v40 : vp_in i16 8 := uk_vin 8 rfl (by first | decide | lia | grind) (by first | decide | lia | grind)
              refine g_iald rfl rfl v40 dX7_fitTogether_83 ?_
              refine g_topi (fun x41 ex41 => ?_)
              refine g_aload_n dX7_fitTogether_84 rfl ?_
              refine g_iload_n dX7_fitTogether_85 rfl ?_
              refine cl_X7_223 (c := 60) (As := [.int i16]) rfl (c_X7_countIn (G := G) hs hu17  i16  (d + 1)) rfl (by omega) rfl rfl (Nat.le_of_ble_eq_true rfl) dX7_fitTogether_86 (fun r42 u43 q44 => ?_)
              obtain ⟨⟨x45, rfl, tx45⟩, mq44⟩ := q44
              rw [mq44]
              refine g_iadd dX7_fitTogether_89 ?_
              refine g_topi (fun x46 ex46 => ?_)
              have v47 : vp_in i16 8 := uk_vin 8 rfl (by first | decide | lia | grind) (by first | decide | lia | grind)
              have b48 := uk_cl v47
              refine g_iast rfl rfl v47 dX7_fitTogether_90 ?_
              refine g_mem (fun u49 eu49 => ?_)
              have hu49 : iv u49 := by rw [eu49]; exact iv_upF hu17 (uk_pick1 _ (by omega))
              have fu49 : fk [60, 62, 71, 73] [3, 7, 10, 11, 13, 14, 15, 16, 17, 18, 19, 28] u u49 := by rw [eu49]; exact fk_up fu17 (by decide) (fun q => absurd q (by decide))
              have riu49 : ri u49 := by rw [eu49]; exact ri_1 riu17 (by decide) (fun q => absurd q (by decide))
              refine g_iinc (v := i16 + 1) dX7_fitTogether_91 rfl rfl (by decide) ?_
              refine g_pick (lv' := [(0, .ref (uk_ad G 60)), (1, .int m), (2, .int n), (3, .int (i16 + 1))]) [0, 1, 2, 3] rfl ?_
              refine g_goto (tgt := 69) dX7_fitTogether_94 (by decide) ?_
              refine g_pick (lv' := [(0, .ref (uk_ad G 60)), (1, .int m), (2, .int n), (3, .int (i16 + 1))]) [0, 1, 2, 3] rfl ?_
              exact ihi16 (by first | lia | grind)  u49 hu49 fu49 riu49 
          refine g_pick (lv' := [(0, .ref (uk_ad G 60)), (1, .int m), (2, .int n), (3, .int 0)]) [0, 1, 2, 3] rfl ?_
          exact L69_14 0 (by first | decide | lia | grind) (by first | decide | lia | grind)  u12 hu12 fu12 riu12 
        · refine g_aload_n dX7_fitTogether_34 rfl ?_
          refine f_X7_48 rfl rfl dX7_fitTogether_35 ?_
          refine g_aload_n dX7_fitTogether_38 rfl ?_
          refine f_X7_7 rfl rfl dX7_fitTogether_39 ?_
          refine g_bipush (v := 43) dX7_fitTogether_42 (by decide) ?_
          refine g_iload_n dX7_fitTogether_44 rfl ?_
          refine g_iadd dX7_fitTogether_45 ?_
          refine g_topi (fun x50 ex50 => ?_)
          have v51 : vp_in x50 153 := uk_vin 153 rfl (by first | decide | lia | grind) (by first | decide | lia | grind)
          refine g_iald rfl rfl v51 dX7_fitTogether_46 ?_
          refine g_topi (fun x52 ex52 => ?_)
          have bx52 := uk_cl v51
          have rx52 : 0 ≤ x52 ∧ x52 ≤ 7 := by rw [ex52]; exact sg_43 hu7 (by unfold uk_is51; decide) (by first | lia | grind) (by first | lia | grind)
          refine g_dup2 dX7_fitTogether_47 rfl rfl ?_
          have v53 : vp_in x52 8 := uk_vin 8 rfl (by first | decide | lia | grind) (by first | decide | lia | grind)
          refine g_iald rfl rfl v53 dX7_fitTogether_48 ?_
          refine g_topi (fun x54 ex54 => ?_)
          refine g_iconst (v := 1) dX7_fitTogether_49 (by decide) ?_
          refine g_isub dX7_fitTogether_50 ?_
          refine g_topi (fun x55 ex55 => ?_)
          have v56 : vp_in x52 8 := uk_vin 8 rfl (by first | decide | lia | grind) (by first | decide | lia | grind)
          have b57 := uk_cl v56
          refine g_iast rfl rfl v56 dX7_fitTogether_51 ?_
          refine g_mem (fun u58 eu58 => ?_)
          have hu58 : iv u58 := by rw [eu58]; exact iv_upF hu7 (uk_pick1 _ (by omega))
          have fu58 : fk [60, 62, 71, 73] [3, 7, 10, 11, 13, 14, 15, 16, 17, 18, 19, 28] u u58 := by rw [eu58]; exact fk_up fu7 (by decide) (fun q => absurd q (by decide))
          have riu58 : ri u58 := by rw [eu58]; exact ri_1 riu7 (by decide) (fun q => absurd q (by decide))
          refine g_iinc (v := i6 + 1) dX7_fitTogether_52 rfl rfl (by decide) ?_
          refine g_pick (lv' := [(0, .ref (uk_ad G 60)), (1, .int m), (2, .int n), (3, .int (i6 + 1))]) [0, 1, 2, 3] rfl ?_
          refine g_goto (tgt := 23) dX7_fitTogether_55 (by decide) ?_
          refine g_pick (lv' := [(0, .ref (uk_ad G 60)), (1, .int m), (2, .int n), (3, .int (i6 + 1))]) [0, 1, 2, 3] rfl ?_
          exact ihi6 (by first | lia | grind)  u58 hu58 fu58 riu58 
      refine g_pick (lv' := [(0, .ref (uk_ad G 60)), (1, .int m), (2, .int n), (3, .int 0)]) [0, 1, 2, 3] rfl ?_
      exact L23_4 0 (by first | decide | lia | grind) (by first | decide | lia | grind)  u3 hu3 fu3 riu3 
    · refine g_aload_n dX7_fitTogether_8 rfl ?_
      refine f_X7_48 rfl rfl dX7_fitTogether_9 ?_
      refine g_iload_n dX7_fitTogether_12 rfl ?_
      refine g_iconst (v := 0) dX7_fitTogether_13 (by decide) ?_
      have v59 : vp_in i2 8 := uk_vin 8 rfl (by first | decide | lia | grind) (by first | decide | lia | grind)
      have b60 := uk_cl v59
      refine g_iast rfl rfl v59 dX7_fitTogether_14 ?_
      refine g_mem (fun u61 eu61 => ?_)
      have hu61 : iv u61 := by rw [eu61]; exact iv_upF hu3 (uk_pick1 _ (by omega))
      have fu61 : fk [60, 62, 71, 73] [3, 7, 10, 11, 13, 14, 15, 16, 17, 18, 19, 28] u u61 := by rw [eu61]; exact fk_up fu3 (by decide) (fun q => absurd q (by decide))
      have riu61 : ri u61 := by rw [eu61]; exact ri_1 riu3 (by decide) (fun q => absurd q (by decide))
      refine g_iinc (v := i2 + 1) dX7_fitTogether_15 rfl rfl (by decide) ?_
      refine g_pick (lv' := [(0, .ref (uk_ad G 60)), (1, .int m), (2, .int n), (3, .int (i2 + 1))]) [0, 1, 2, 3] rfl ?_
      refine g_goto (tgt := 2) dX7_fitTogether_18 (by decide) ?_
      refine g_pick (lv' := [(0, .ref (uk_ad G 60)), (1, .int m), (2, .int n), (3, .int (i2 + 1))]) [0, 1, 2, 3] rfl ?_
      exact ihi2 (by first | lia | grind)  u61 hu61 fu61 riu61 
  refine g_pick (lv' := [(0, .ref (uk_ad G 60)), (1, .int m), (2, .int n), (3, .int 0)]) [0, 1, 2, 3] rfl ?_
  exact L2_0 0 (by first | decide | lia | grind) (by first | decide | lia | grind)  u hu f0 hri 
abbrev q_X7_pairs (u : uk_Mem) (w : Int32) (r : Option Value) (u' : uk_Mem) : Prop := (∃ x : Int32, r = some (.int x) ∧ True) ∧ (iv u' ∧ fk [60, 62, 71, 73] [3, 7, 10, 11, 13, 14, 15, 16, 17, 18, 19, 28] u u' ∧ ri u')
set_option maxHeartbeats 4000000 in
set_option maxRecDepth 20000 in
theorem c_X7_pairs {G : uk_D} (hs : uk_Sep G) {u : uk_Mem} (hu : iv u) (hri : ri u) (w : Int32) (d : Nat) : uk_Meth G (d + 4) mX7_pairs [.ref (uk_ad G 60), .int w] u (q_X7_pairs u w) := by
  refine uk_Meth.of hs (by decide) (Nat.le_of_ble_eq_true rfl) (fun X => ?_)
  have f0 : fk [60, 62, 71, 73] [3, 7, 10, 11, 13, 14, 15, 16, 17, 18, 19, 28] u u := fk_rf
  refine g_iload_n dX7_pairs_0 rfl ?_
  refine cl_X7_197 (As := [.int w]) rfl (c_X7_isPart (G := G) hs hu  w  (d + 2)) rfl (by omega) rfl (Nat.le_of_ble_eq_true rfl) dX7_pairs_1 (fun r1 u2 q3 => ?_)
  obtain ⟨⟨x4, rfl, tx4, nx4, zx4⟩, mq3⟩ := q3
  rw [mq3]
  refine g_if_ne (tgt := 9) dX7_pairs_4 (by decide) (fun c5 => ?_) (fun c5 => ?_)
  · have zc5 := nx4 c5
    refine g_iconst (v := 0) dX7_pairs_9 (by decide) ?_
    refine g_istore_n dX7_pairs_10 (by decide) ?_
    refine g_pick (lv' := [(0, .ref (uk_ad G 60)), (1, .int w), (2, .int 0)]) [0, 1, 2] rfl ?_
    refine g_bipush (v := (-4)) dX7_pairs_11 (by decide) ?_
    refine g_istore_n dX7_pairs_13 (by decide) ?_
    refine g_pick (lv' := [(0, .ref (uk_ad G 60)), (1, .int w), (2, .int 0), (3, .int (-4))]) [0, 1, 2, 3] rfl ?_
    refine g_iconst (v := 0) dX7_pairs_14 (by decide) ?_
    refine g_istore dX7_pairs_15 (by decide) ?_
    refine g_pick (lv' := [(0, .ref (uk_ad G 60)), (1, .int w), (2, .int 0), (3, .int (-4)), (4, .int 0)]) [0, 1, 2, 3, 4] rfl ?_
    have L17_5 : ∀ i9 : Int32, 0 ≤ i9 → i9 ≤ 8 → ∀ (w7 : Int32) (w8 : Int32) (u10 : uk_Mem), iv u10 → fk [60, 62, 71, 73] [3, 7, 10, 11, 13, 14, 15, 16, 17, 18, 19, 28] u u10 → ri u10 → uk_G G X mX7_pairs (d + 4) (q_X7_pairs u w) 17 [(0, .ref (uk_ad G 60)), (1, .int w), (2, .int w7), (3, .int w8), (4, .int i9)] [] u10 := by
      refine uk_upl 8 ?_
      intro i9 ai9 bi9 ihi9 w7 w8 u10 hu10 fu10 riu10
      have wu10_60_3 : u10.1 60 3 = u.1 60 3 := fk_at fu10 (by decide)
      refine g_iload dX7_pairs_17 rfl ?_
      refine g_aload_n dX7_pairs_19 rfl ?_
      refine f_X7_79 rfl rfl dX7_pairs_20 ?_
      refine g_topi (fun x11 ex11 => ?_)
      have rx11 : 0 ≤ x11 ∧ x11 ≤ 8 := by rw [ex11]; exact iv_at hu10 _ _ rfl
      have s12 : u10.1 60 3 = x11 := ex11.symm
      refine g_icmp_ge (tgt := 82) dX7_pairs_23 (by decide) (fun c13 => ?_) (fun c13 => ?_)
      · refine g_iload_n dX7_pairs_82 rfl ?_
        refine g_if_ne (tgt := 90) dX7_pairs_83 (by decide) (fun c14 => ?_) (fun c14 => ?_)
        · refine g_iload_n dX7_pairs_90 rfl ?_
          exact g_iret (ty := .int) dX7_pairs_91 rfl rfl ⟨⟨_, rfl, by first | trivial | lia | grind⟩, hu10, fu10, riu10⟩
        · refine g_iload_n dX7_pairs_86 rfl ?_
          refine g_goto (tgt := 91) dX7_pairs_87 (by decide) ?_
          exact g_iret (ty := .int) dX7_pairs_91 rfl rfl ⟨⟨_, rfl, by first | trivial | lia | grind⟩, hu10, fu10, riu10⟩
      · refine g_iload dX7_pairs_26 rfl ?_
        refine g_istore dX7_pairs_28 (by decide) ?_
        refine g_pick (lv' := [(0, .ref (uk_ad G 60)), (1, .int w), (2, .int w7), (3, .int w8), (4, .int i9), (5, .int i9)]) [0, 1, 2, 3, 4, 5] rfl ?_
        have L30_14 : ∀ i18 : Int32, 0 ≤ i18 → i18 ≤ 8 → ∀ (w16 : Int32) (w17 : Int32) (u19 : uk_Mem), iv u19 → fk [60, 62, 71, 73] [3, 7, 10, 11, 13, 14, 15, 16, 17, 18, 19, 28] u u19 → ri u19 → uk_G G X mX7_pairs (d + 4) (q_X7_pairs u w) 30 [(0, .ref (uk_ad G 60)), (1, .int w), (2, .int w16), (3, .int w17), (4, .int i9), (5, .int i18)] [] u19 := by
          refine uk_upl 8 ?_
          intro i18 ai18 bi18 ihi18 w16 w17 u19 hu19 fu19 riu19
          have wu19_60_3 : u19.1 60 3 = u.1 60 3 := fk_at fu19 (by decide)
          refine g_iload dX7_pairs_30 rfl ?_
          refine g_aload_n dX7_pairs_32 rfl ?_
          refine f_X7_79 rfl rfl dX7_pairs_33 ?_
          refine g_topi (fun x20 ex20 => ?_)
          have rx20 : 0 ≤ x20 ∧ x20 ≤ 8 := by rw [ex20]; exact iv_at hu19 _ _ rfl
          have s21 : u19.1 60 3 = x20 := ex20.symm
          refine g_icmp_ge (tgt := 76) dX7_pairs_36 (by decide) (fun c22 => ?_) (fun c22 => ?_)
          · refine g_iinc (v := i9 + 1) dX7_pairs_76 rfl rfl (by decide) ?_
            refine g_pick (lv' := [(0, .ref (uk_ad G 60)), (1, .int w), (2, .int w16), (3, .int w17), (4, .int (i9 + 1)), (5, .int i18)]) [0, 1, 2, 3, 4, 5] rfl ?_
            refine g_goto (tgt := 17) dX7_pairs_79 (by decide) ?_
            refine g_pick (lv' := [(0, .ref (uk_ad G 60)), (1, .int w), (2, .int w16), (3, .int w17), (4, .int (i9 + 1))]) [0, 1, 2, 3, 4] rfl ?_
            exact ihi9 (by first | lia | grind) w16 w17 u19 hu19 fu19 riu19 
          · refine g_aload_n dX7_pairs_39 rfl ?_
            refine g_iload dX7_pairs_40 rfl ?_
            refine g_iload dX7_pairs_42 rfl ?_
            refine cl_X7_261 (c := 60) (As := [.int i9, .int i18]) rfl (c_X7_fitTogether (G := G) hs hu19 riu19  i9 i18 (by first | trivial | decide | lia | grind) (by first | trivial | decide | lia | grind) (by first | trivial | decide | lia | grind) (by first | trivial | decide | lia | grind) (by first | trivial | decide | lia | grind) (by first | trivial | decide | lia | grind) (d)) rfl (by omega) rfl rfl (Nat.le_of_ble_eq_true rfl) dX7_pairs_44 (fun r23 u24 q25 => ?_)
            obtain ⟨⟨x26, rfl, tx26, nx26, zx26⟩, mq25⟩ := q25
            obtain ⟨hu24, gu24, riu24⟩ := mq25
            have fu24 : fk [60, 62, 71, 73] [3, 7, 10, 11, 13, 14, 15, 16, 17, 18, 19, 28] u u24 := fk_tr fu19 gu24 (by decide) (by decide)
            have wu24_60_3 : u24.1 60 3 = u19.1 60 3 := fk_at gu24 (by decide)
            have s27 : u24.1 60 3 = x20 := (fk_at gu24 (by decide)).trans s21
            refine g_if_eq (tgt := 70) dX7_pairs_47 (by decide) (fun c28 => ?_) (fun c28 => ?_)
            · have zc28 := zx26 c28
              refine g_iinc (v := i18 + 1) dX7_pairs_70 rfl rfl (by decide) ?_
              refine g_pick (lv' := [(0, .ref (uk_ad G 60)), (1, .int w), (2, .int w16), (3, .int w17), (4, .int i9), (5, .int (i18 + 1))]) [0, 1, 2, 3, 4, 5] rfl ?_
              refine g_goto (tgt := 30) dX7_pairs_73 (by decide) ?_
              refine g_pick (lv' := [(0, .ref (uk_ad G 60)), (1, .int w), (2, .int w16), (3, .int w17), (4, .int i9), (5, .int (i18 + 1))]) [0, 1, 2, 3, 4, 5] rfl ?_
              exact ihi18 (by first | lia | grind) w16 w17 u24 hu24 fu24 riu24 
            · have zc28 := nx26 c28
              refine g_iload_n dX7_pairs_50 rfl ?_
              refine g_if_ne (tgt := 65) dX7_pairs_51 (by decide) (fun c29 => ?_) (fun c29 => ?_)
              · refine g_iload_n dX7_pairs_65 rfl ?_
                refine g_istore_n dX7_pairs_66 (by decide) ?_
                refine g_pick (lv' := [(0, .ref (uk_ad G 60)), (1, .int w), (2, .int w16), (3, .int w17), (4, .int i9), (5, .int i18)]) [0, 1, 2, 3, 4, 5] rfl ?_
                refine g_iinc (v := w16 + 1) dX7_pairs_67 rfl rfl (by decide) ?_
                refine g_pick (lv' := [(0, .ref (uk_ad G 60)), (1, .int w), (2, .int (w16 + 1)), (3, .int w17), (4, .int i9), (5, .int i18)]) [0, 1, 2, 3, 4, 5] rfl ?_
                refine g_iinc (v := i18 + 1) dX7_pairs_70 rfl rfl (by decide) ?_
                refine g_pick (lv' := [(0, .ref (uk_ad G 60)), (1, .int w), (2, .int (w16 + 1)), (3, .int w17), (4, .int i9), (5, .int (i18 + 1))]) [0, 1, 2, 3, 4, 5] rfl ?_
                refine g_goto (tgt := 30) dX7_pairs_73 (by decide) ?_
                refine g_pick (lv' := [(0, .ref (uk_ad G 60)), (1, .int w), (2, .int (w16 + 1)), (3, .int w17), (4, .int i9), (5, .int (i18 + 1))]) [0, 1, 2, 3, 4, 5] rfl ?_
                exact ihi18 (by first | lia | grind) (w16 + 1) w17 u24 hu24 fu24 riu24 
              · refine g_bipush (v := 10) dX7_pairs_54 (by decide) ?_
                refine g_iload dX7_pairs_56 rfl ?_
                refine g_imul dX7_pairs_58 ?_
                refine g_topi (fun x30 ex30 => ?_)
                refine g_iload dX7_pairs_59 rfl ?_
                refine g_iadd dX7_pairs_61 ?_
                refine g_topi (fun x31 ex31 => ?_)
                refine g_goto (tgt := 66) dX7_pairs_62 (by decide) ?_
                refine g_istore_n dX7_pairs_66 (by decide) ?_
                refine g_pick (lv' := [(0, .ref (uk_ad G 60)), (1, .int w), (2, .int w16), (3, .int x31), (4, .int i9), (5, .int i18)]) [0, 1, 2, 3, 4, 5] rfl ?_
                refine g_iinc (v := w16 + 1) dX7_pairs_67 rfl rfl (by decide) ?_
                refine g_pick (lv' := [(0, .ref (uk_ad G 60)), (1, .int w), (2, .int (w16 + 1)), (3, .int x31), (4, .int i9), (5, .int i18)]) [0, 1, 2, 3, 4, 5] rfl ?_
                refine g_iinc (v := i18 + 1) dX7_pairs_70 rfl rfl (by decide) ?_
                refine g_pick (lv' := [(0, .ref (uk_ad G 60)), (1, .int w), (2, .int (w16 + 1)), (3, .int x31), (4, .int i9), (5, .int (i18 + 1))]) [0, 1, 2, 3, 4, 5] rfl ?_
                refine g_goto (tgt := 30) dX7_pairs_73 (by decide) ?_
                refine g_pick (lv' := [(0, .ref (uk_ad G 60)), (1, .int w), (2, .int (w16 + 1)), (3, .int x31), (4, .int i9), (5, .int (i18 + 1))]) [0, 1, 2, 3, 4, 5] rfl ?_
                exact ihi18 (by first | lia | grind) (w16 + 1) x31 u24 hu24 fu24 riu24 
        refine g_pick (lv' := [(0, .ref (uk_ad G 60)), (1, .int w), (2, .int w7), (3, .int w8), (4, .int i9), (5, .int i9)]) [0, 1, 2, 3, 4, 5] rfl ?_
        exact L30_14 i9 (by first | decide | lia | grind) (by first | decide | lia | grind) w7 w8 u10 hu10 fu10 riu10 
    refine g_pick (lv' := [(0, .ref (uk_ad G 60)), (1, .int w), (2, .int 0), (3, .int (-4)), (4, .int 0)]) [0, 1, 2, 3, 4] rfl ?_
    exact L17_5 0 (by first | decide | lia | grind) (by first | decide | lia | grind) 0 (-4) u hu f0 hri 
  · have zc5 := zx4 c5
    refine g_iconst (v := (-1)) dX7_pairs_7 (by decide) ?_
    exact g_iret (ty := .int) dX7_pairs_8 rfl rfl ⟨⟨_, rfl, by first | trivial | lia | grind⟩, hu, f0, hri⟩
abbrev q_X7_read (u : uk_Mem) (k : Int32) (l : Int32) (f : Int32) (n : Int32) (r : Option Value) (u' : uk_Mem) : Prop := (∃ x : Int32, r = some (.int x) ∧ True) ∧ (iv u' ∧ fk [60, 61, 62, 77] [3, 7, 10, 11, 13, 14, 15, 16, 17, 18, 19, 22] u u' ∧ ri u')
abbrev q_X7_best (u : uk_Mem) (k : Int32) (w : Int32) (r : Option Value) (u' : uk_Mem) : Prop := (∃ x : Int32, r = some (.int x) ∧ True) ∧ (iv u' ∧ fk [62] [] u u' ∧ ri u')
set_option maxHeartbeats 40000000 in
set_option maxRecDepth 20000 in
theorem c_X7_best {G : uk_D} (hs : uk_Sep G) {u : uk_Mem} (hu : iv u) (hri : ri u) (k : Int32) (w : Int32) (d : Nat) : uk_Meth G (d + 4) mX7_best [.ref (uk_ad G 60), .int k, .int w] u (q_X7_best u k w) := by
  refine uk_Meth.of hs (by decide) (Nat.le_of_ble_eq_true rfl) (fun X => ?_)
  have f0 : fk [62] [] u u := fk_rf
  have J26 : (0 ≤ k ∧ k ≤ 4) → (w = 1 ∨ w = 0 ∨ (10 ≤ w ∧ w ≤ 13)) → uk_G G X mX7_best (d + 4) (q_X7_best u k w) 26 [(0, .ref (uk_ad G 60)), (1, .int k), (2, .int w)] [] u := by
    intro jj26_0 jj26_1
    refine g_iconst (v := (-1)) dX7_best_26 (by decide) ?_
    refine g_istore_n dX7_best_27 (by decide) ?_
    refine g_pick (lv' := [(0, .ref (uk_ad G 60)), (1, .int k), (2, .int w), (3, .int (-1))]) [0, 1, 2, 3] rfl ?_
    refine g_iconst (v := 0) dX7_best_28 (by decide) ?_
    refine g_istore dX7_best_29 (by decide) ?_
    refine g_pick (lv' := [(0, .ref (uk_ad G 60)), (1, .int k), (2, .int w), (3, .int (-1)), (4, .int 0)]) [0, 1, 2, 3, 4] rfl ?_
    refine g_iconst (v := 0) dX7_best_31 (by decide) ?_
    refine g_istore dX7_best_32 (by decide) ?_
    refine g_pick (lv' := [(0, .ref (uk_ad G 60)), (1, .int k), (2, .int w), (3, .int (-1)), (4, .int 0), (5, .int 0)]) [0, 1, 2, 3, 4, 5] rfl ?_
    refine g_iconst (v := 0) dX7_best_34 (by decide) ?_
    refine g_istore dX7_best_35 (by decide) ?_
    refine g_pick (lv' := [(0, .ref (uk_ad G 60)), (1, .int k), (2, .int w), (3, .int (-1)), (4, .int 0), (5, .int 0), (6, .int 0)]) [0, 1, 2, 3, 4, 5, 6] rfl ?_
    have L37_0 : ∀ i5 : Int32, 0 ≤ i5 → i5 ≤ 5 → ∀ (w2 : Int32) (w3 : Int32) (w4 : Int32) (u6 : uk_Mem), iv u6 → fk [62] [] u u6 → ri u6 → 0 ≤ w4 → w4 ≤ 4 → uk_G G X mX7_best (d + 4) (q_X7_best u k w) 37 [(0, .ref (uk_ad G 60)), (1, .int k), (2, .int w), (3, .int w2), (4, .int w3), (5, .int w4), (6, .int i5)] [] u6 := by
      refine uk_upl 5 ?_
      intro i5 ai5 bi5 ihi5 w2 w3 w4 u6 hu6 fu6 riu6 ji50 ji51
      have wu6_60_3 : u6.1 60 3 = u.1 60 3 := fk_at fu6 (by decide)
      refine g_iload dX7_best_37 rfl ?_
      refine g_iload_n dX7_best_39 rfl ?_
      refine g_icmp_gt (tgt := 135) dX7_best_40 (by decide) (fun c7 => ?_) (fun c7 => ?_)
      · refine g_iload_n dX7_best_135 rfl ?_
        refine g_iconst (v := 2) dX7_best_136 (by decide) ?_
        refine g_icmp_ge (tgt := 151) dX7_best_137 (by decide) (fun c8 => ?_) (fun c8 => ?_)
        · refine g_iload_n dX7_best_151 rfl ?_
          refine g_bipush (v := 10) dX7_best_152 (by decide) ?_
          refine g_isub dX7_best_154 ?_
          refine g_topi (fun x9 ex9 => ?_)
          refine g_iload dX7_best_155 rfl ?_
          refine g_icmp_ge (tgt := 175) dX7_best_157 (by decide) (fun c10 => ?_) (fun c10 => ?_)
          · refine g_bipush (v := (-4)) dX7_best_175 (by decide) ?_
            exact g_iret (ty := .int) dX7_best_177 rfl rfl ⟨⟨_, rfl, by first | trivial | lia | grind⟩, hu6, fu6, riu6⟩
          · refine g_aload_n dX7_best_160 rfl ?_
            refine g_iload dX7_best_161 rfl ?_
            refine g_iload dX7_best_163 rfl ?_
            refine g_iload_n dX7_best_165 rfl ?_
            refine g_bipush (v := 10) dX7_best_166 (by decide) ?_
            refine g_isub dX7_best_168 ?_
            refine g_topi (fun x11 ex11 => ?_)
            refine cl_X7_244 (c := 60) (As := [.int w3, .int w4, .int x11]) rfl (c_X7_doingIn (G := G) hs hu6  w3 w4 x11 (by first | trivial | decide | lia | grind) (by first | trivial | decide | lia | grind) (by first | trivial | decide | lia | grind) (d + 2)) rfl (by omega) rfl rfl (Nat.le_of_ble_eq_true rfl) dX7_best_169 (fun r12 u13 q14 => ?_)
            obtain ⟨⟨x15, rfl, tx15⟩, mq14⟩ := q14
            rw [mq14]
            refine g_goto (tgt := 177) dX7_best_172 (by decide) ?_
            exact g_iret (ty := .int) dX7_best_177 rfl rfl ⟨⟨_, rfl, by first | trivial | lia | grind⟩, hu6, fu6, riu6⟩
        · refine g_iload_n dX7_best_140 rfl ?_
          refine g_if_ne (tgt := 148) dX7_best_141 (by decide) (fun c16 => ?_) (fun c16 => ?_)
          · refine g_iload dX7_best_148 rfl ?_
            exact g_iret (ty := .int) dX7_best_150 rfl rfl ⟨⟨_, rfl, by first | trivial | lia | grind⟩, hu6, fu6, riu6⟩
          · refine g_iload_n dX7_best_144 rfl ?_
            refine g_goto (tgt := 150) dX7_best_145 (by decide) ?_
            exact g_iret (ty := .int) dX7_best_150 rfl rfl ⟨⟨_, rfl, by first | trivial | lia | grind⟩, hu6, fu6, riu6⟩
      · refine g_iconst (v := 0) dX7_best_43 (by decide) ?_
        refine g_istore dX7_best_44 (by decide) ?_
        refine g_pick (lv' := [(0, .ref (uk_ad G 60)), (1, .int k), (2, .int w), (3, .int w2), (4, .int w3), (5, .int w4), (6, .int i5), (7, .int 0)]) [0, 1, 2, 3, 4, 5, 6, 7] rfl ?_
        have L46_16 : ∀ i21 : Int32, 0 ≤ i21 → i21 ≤ 65536 → ∀ (w18 : Int32) (w19 : Int32) (w20 : Int32) (u22 : uk_Mem), iv u22 → fk [62] [] u u22 → ri u22 → 0 ≤ w20 → w20 ≤ 4 → uk_G G X mX7_best (d + 4) (q_X7_best u k w) 46 [(0, .ref (uk_ad G 60)), (1, .int k), (2, .int w), (3, .int w18), (4, .int w19), (5, .int w20), (6, .int i5), (7, .int i21)] [] u22 := by
          refine uk_upl 65536 ?_
          intro i21 ai21 bi21 ihi21 w18 w19 w20 u22 hu22 fu22 riu22 ji210 ji211
          have wu22_60_3 : u22.1 60 3 = u.1 60 3 := fk_at fu22 (by decide)
          refine g_iload dX7_best_46 rfl ?_
          refine g_aload_n dX7_best_48 rfl ?_
          refine g_iload dX7_best_49 rfl ?_
          refine cl_X7_241 (c := 60) (As := [.int i5]) rfl (c_X7_baseTo (G := G) hs hu22  i5 (by first | trivial | decide | lia | grind) (d + 3)) rfl (by omega) rfl rfl (Nat.le_of_ble_eq_true rfl) dX7_best_51 (fun r23 u24 q25 => ?_)
          obtain ⟨⟨x26, rfl, tx26⟩, mq25⟩ := q25
          rw [mq25]
          refine g_icmp_ge (tgt := 129) dX7_best_54 (by decide) (fun c27 => ?_) (fun c27 => ?_)
          · refine g_iinc (v := i5 + 1) dX7_best_129 rfl rfl (by decide) ?_
            refine g_pick (lv' := [(0, .ref (uk_ad G 60)), (1, .int k), (2, .int w), (3, .int w18), (4, .int w19), (5, .int w20), (6, .int (i5 + 1)), (7, .int i21)]) [0, 1, 2, 3, 4, 5, 6, 7] rfl ?_
            refine g_goto (tgt := 37) dX7_best_132 (by decide) ?_
            refine g_pick (lv' := [(0, .ref (uk_ad G 60)), (1, .int k), (2, .int w), (3, .int w18), (4, .int w19), (5, .int w20), (6, .int (i5 + 1))]) [0, 1, 2, 3, 4, 5, 6] rfl ?_
            exact ihi5 (by first | lia | grind) w18 w19 w20 u22 hu22 fu22 riu22 (by first | trivial | lia | grind) (by first | trivial | lia | grind)
          · refine g_aload_n dX7_best_57 rfl ?_
            refine g_iload dX7_best_58 rfl ?_
            refine g_iload dX7_best_60 rfl ?_
            refine cl_X7_255 (c := 60) (As := [.int i21, .int i5]) rfl (c_X7_doRow (G := G) hs hu22 riu22  i21 i5 (by first | trivial | decide | lia | grind) (d)) rfl (by omega) rfl rfl (Nat.le_of_ble_eq_true rfl) dX7_best_62 (fun r28 u29 q30 => ?_)
            obtain ⟨⟨x31, rfl, tx31, nx31, zx31⟩, mq30⟩ := q30
            obtain ⟨hu29, gu29, riu29⟩ := mq30
            have fu29 : fk [62] [] u u29 := fk_tr fu22 gu29 (by decide) (by decide)
            have wu29_60_3 : u29.1 60 3 = u22.1 60 3 := fk_at gu29 (by decide)
            have J80 : ∀ (y32 : Int32), uk_G G X mX7_best (d + 4) (q_X7_best u k w) 80 [(0, .ref (uk_ad G 60)), (1, .int k), (2, .int w), (3, .int w18), (4, .int w19), (5, .int w20), (6, .int i5), (7, .int i21), (8, .int y32)] [] u29 := by
              intro y32
              have J95 : ∀ (y33 : Int32), uk_G G X mX7_best (d + 4) (q_X7_best u k w) 95 [(0, .ref (uk_ad G 60)), (1, .int k), (2, .int w), (3, .int w18), (4, .int y33), (5, .int w20), (6, .int i5), (7, .int i21), (8, .int y32)] [] u29 := by
                intro y33
                have J110 : ∀ (y34 : Int32), (0 ≤ y34) → (y34 ≤ 4) → uk_G G X mX7_best (d + 4) (q_X7_best u k w) 110 [(0, .ref (uk_ad G 60)), (1, .int k), (2, .int w), (3, .int w18), (4, .int y33), (5, .int y34), (6, .int i5), (7, .int i21), (8, .int y32)] [] u29 := by
                  intro y34 jj110_0 jj110_1
                  have J123 : ∀ (y35 : Int32), uk_G G X mX7_best (d + 4) (q_X7_best u k w) 123 [(0, .ref (uk_ad G 60)), (1, .int k), (2, .int w), (3, .int y35), (4, .int y33), (5, .int y34), (6, .int i5), (7, .int i21), (8, .int y32)] [] u29 := by
                    intro y35
                    refine g_iinc (v := i21 + 1) dX7_best_123 rfl rfl (by decide) ?_
                    refine g_pick (lv' := [(0, .ref (uk_ad G 60)), (1, .int k), (2, .int w), (3, .int y35), (4, .int y33), (5, .int y34), (6, .int i5), (7, .int (i21 + 1)), (8, .int y32)]) [0, 1, 2, 3, 4, 5, 6, 7, 8] rfl ?_
                    refine g_goto (tgt := 46) dX7_best_126 (by decide) ?_
                    refine g_pick (lv' := [(0, .ref (uk_ad G 60)), (1, .int k), (2, .int w), (3, .int y35), (4, .int y33), (5, .int y34), (6, .int i5), (7, .int (i21 + 1))]) [0, 1, 2, 3, 4, 5, 6, 7] rfl ?_
                    exact ihi21 (by first | lia | grind) y35 y33 y34 u29 hu29 fu29 riu29 (by first | trivial | lia | grind) (by first | trivial | lia | grind)
                  refine g_iload dX7_best_110 rfl ?_
                  refine g_iload_n dX7_best_112 rfl ?_
                  refine g_icmp_le (tgt := 121) dX7_best_113 (by decide) (fun c36 => ?_) (fun c36 => ?_)
                  · refine g_iload_n dX7_best_121 rfl ?_
                    refine g_istore_n dX7_best_122 (by decide) ?_
                    refine g_pick (lv' := [(0, .ref (uk_ad G 60)), (1, .int k), (2, .int w), (3, .int w18), (4, .int y33), (5, .int y34), (6, .int i5), (7, .int i21), (8, .int y32)]) [0, 1, 2, 3, 4, 5, 6, 7, 8] rfl ?_
                    refine g_pick (lv' := [(0, .ref (uk_ad G 60)), (1, .int k), (2, .int w), (3, .int w18), (4, .int y33), (5, .int y34), (6, .int i5), (7, .int i21), (8, .int y32)]) [0, 1, 2, 3, 4, 5, 6, 7, 8] rfl ?_
                    exact J123 w18 
                  · refine g_iload dX7_best_116 rfl ?_
                    refine g_goto (tgt := 122) dX7_best_118 (by decide) ?_
                    refine g_istore_n dX7_best_122 (by decide) ?_
                    refine g_pick (lv' := [(0, .ref (uk_ad G 60)), (1, .int k), (2, .int w), (3, .int y32), (4, .int y33), (5, .int y34), (6, .int i5), (7, .int i21), (8, .int y32)]) [0, 1, 2, 3, 4, 5, 6, 7, 8] rfl ?_
                    refine g_pick (lv' := [(0, .ref (uk_ad G 60)), (1, .int k), (2, .int w), (3, .int y32), (4, .int y33), (5, .int y34), (6, .int i5), (7, .int i21), (8, .int y32)]) [0, 1, 2, 3, 4, 5, 6, 7, 8] rfl ?_
                    exact J123 y32 
                refine g_iload dX7_best_95 rfl ?_
                refine g_iload_n dX7_best_97 rfl ?_
                refine g_icmp_le (tgt := 106) dX7_best_98 (by decide) (fun c37 => ?_) (fun c37 => ?_)
                · refine g_iload dX7_best_106 rfl ?_
                  refine g_istore dX7_best_108 (by decide) ?_
                  refine g_pick (lv' := [(0, .ref (uk_ad G 60)), (1, .int k), (2, .int w), (3, .int w18), (4, .int y33), (5, .int w20), (6, .int i5), (7, .int i21), (8, .int y32)]) [0, 1, 2, 3, 4, 5, 6, 7, 8] rfl ?_
                  refine g_pick (lv' := [(0, .ref (uk_ad G 60)), (1, .int k), (2, .int w), (3, .int w18), (4, .int y33), (5, .int w20), (6, .int i5), (7, .int i21), (8, .int y32)]) [0, 1, 2, 3, 4, 5, 6, 7, 8] rfl ?_
                  exact J110 w20 (by first | trivial | lia | grind) (by first | trivial | lia | grind)
                · refine g_iload dX7_best_101 rfl ?_
                  refine g_goto (tgt := 108) dX7_best_103 (by decide) ?_
                  refine g_istore dX7_best_108 (by decide) ?_
                  refine g_pick (lv' := [(0, .ref (uk_ad G 60)), (1, .int k), (2, .int w), (3, .int w18), (4, .int y33), (5, .int i5), (6, .int i5), (7, .int i21), (8, .int y32)]) [0, 1, 2, 3, 4, 5, 6, 7, 8] rfl ?_
                  refine g_pick (lv' := [(0, .ref (uk_ad G 60)), (1, .int k), (2, .int w), (3, .int w18), (4, .int y33), (5, .int i5), (6, .int i5), (7, .int i21), (8, .int y32)]) [0, 1, 2, 3, 4, 5, 6, 7, 8] rfl ?_
                  exact J110 i5 (by first | trivial | lia | grind) (by first | trivial | lia | grind)
              refine g_iload dX7_best_80 rfl ?_
              refine g_iload_n dX7_best_82 rfl ?_
              refine g_icmp_le (tgt := 91) dX7_best_83 (by decide) (fun c38 => ?_) (fun c38 => ?_)
              · refine g_iload dX7_best_91 rfl ?_
                refine g_istore dX7_best_93 (by decide) ?_
                refine g_pick (lv' := [(0, .ref (uk_ad G 60)), (1, .int k), (2, .int w), (3, .int w18), (4, .int w19), (5, .int w20), (6, .int i5), (7, .int i21), (8, .int y32)]) [0, 1, 2, 3, 4, 5, 6, 7, 8] rfl ?_
                refine g_pick (lv' := [(0, .ref (uk_ad G 60)), (1, .int k), (2, .int w), (3, .int w18), (4, .int w19), (5, .int w20), (6, .int i5), (7, .int i21), (8, .int y32)]) [0, 1, 2, 3, 4, 5, 6, 7, 8] rfl ?_
                exact J95 w19 
              · refine g_iload dX7_best_86 rfl ?_
                refine g_goto (tgt := 93) dX7_best_88 (by decide) ?_
                refine g_istore dX7_best_93 (by decide) ?_
                refine g_pick (lv' := [(0, .ref (uk_ad G 60)), (1, .int k), (2, .int w), (3, .int w18), (4, .int i21), (5, .int w20), (6, .int i5), (7, .int i21), (8, .int y32)]) [0, 1, 2, 3, 4, 5, 6, 7, 8] rfl ?_
                refine g_pick (lv' := [(0, .ref (uk_ad G 60)), (1, .int k), (2, .int w), (3, .int w18), (4, .int i21), (5, .int w20), (6, .int i5), (7, .int i21), (8, .int y32)]) [0, 1, 2, 3, 4, 5, 6, 7, 8] rfl ?_
                exact J95 i21 
            refine g_if_eq (tgt := 77) dX7_best_65 (by decide) (fun c39 => ?_) (fun c39 => ?_)
            · have zc39 := zx31 c39
              refine g_iconst (v := (-1)) dX7_best_77 (by decide) ?_
              refine g_istore dX7_best_78 (by decide) ?_
              refine g_pick (lv' := [(0, .ref (uk_ad G 60)), (1, .int k), (2, .int w), (3, .int w18), (4, .int w19), (5, .int w20), (6, .int i5), (7, .int i21), (8, .int (-1))]) [0, 1, 2, 3, 4, 5, 6, 7, 8] rfl ?_
              refine g_pick (lv' := [(0, .ref (uk_ad G 60)), (1, .int k), (2, .int w), (3, .int w18), (4, .int w19), (5, .int w20), (6, .int i5), (7, .int i21), (8, .int (-1))]) [0, 1, 2, 3, 4, 5, 6, 7, 8] rfl ?_
              exact J80 (-1) 
            · have zc39 := nx31 c39
              refine g_aload_n dX7_best_68 rfl ?_
              refine g_bipush (v := 16) dX7_best_69 (by decide) ?_
              refine cl_X7_258 (c := 60) (As := [.int 16]) rfl (c_X7_allOf (G := G) hs hu29  16 (by first | trivial | decide | lia | grind) (d + 3)) rfl (by omega) rfl rfl (Nat.le_of_ble_eq_true rfl) dX7_best_71 (fun r40 u41 q42 => ?_)
              obtain ⟨⟨x43, rfl, tx43⟩, mq42⟩ := q42
              rw [mq42]
              refine g_goto (tgt := 78) dX7_best_74 (by decide) ?_
              refine g_istore dX7_best_78 (by decide) ?_
              refine g_pick (lv' := [(0, .ref (uk_ad G 60)), (1, .int k), (2, .int w), (3, .int w18), (4, .int w19), (5, .int w20), (6, .int i5), (7, .int i21), (8, .int x43)]) [0, 1, 2, 3, 4, 5, 6, 7, 8] rfl ?_
              refine g_pick (lv' := [(0, .ref (uk_ad G 60)), (1, .int k), (2, .int w), (3, .int w18), (4, .int w19), (5, .int w20), (6, .int i5), (7, .int i21), (8, .int x43)]) [0, 1, 2, 3, 4, 5, 6, 7, 8] rfl ?_
              exact J80 x43 
        refine g_pick (lv' := [(0, .ref (uk_ad G 60)), (1, .int k), (2, .int w), (3, .int w2), (4, .int w3), (5, .int w4), (6, .int i5), (7, .int 0)]) [0, 1, 2, 3, 4, 5, 6, 7] rfl ?_
        exact L46_16 0 (by first | decide | lia | grind) (by first | decide | lia | grind) w2 w3 w4 u6 hu6 fu6 riu6 (by first | trivial | lia | grind) (by first | trivial | lia | grind)
    refine g_pick (lv' := [(0, .ref (uk_ad G 60)), (1, .int k), (2, .int w), (3, .int (-1)), (4, .int 0), (5, .int 0), (6, .int 0)]) [0, 1, 2, 3, 4, 5, 6] rfl ?_
    exact L37_0 0 (by first | decide | lia | grind) (by first | decide | lia | grind) (-1) 0 0 u hu f0 hri (by first | trivial | lia | grind) (by first | trivial | lia | grind)
  refine g_iload_n dX7_best_0 rfl ?_
  refine g_i2l dX7_best_1 ?_
  refine g_lconst (v := 0) dX7_best_2 (by decide) ?_
  refine g_ldc2 (v := 4) k_X7_250 dX7_best_3 ?_
  refine cl_X7_84 (As := [.long k.toInt64, .long 0, .long 4]) rfl (c_X7_in (G := G) hs hu  k 0 4  (d + 3)) rfl (by omega) rfl (Nat.le_of_ble_eq_true rfl) dX7_best_6 (fun r44 u45 q46 => ?_)
  obtain ⟨⟨x47, rfl, tx47, nx47, zx47⟩, mq46⟩ := q46
  rw [mq46]
  refine g_if_eq (tgt := 24) dX7_best_9 (by decide) (fun c48 => ?_) (fun c48 => ?_)
  · have zc48 := zx47 c48
    refine g_iconst (v := (-1)) dX7_best_24 (by decide) ?_
    exact g_iret (ty := .int) dX7_best_25 rfl rfl ⟨⟨_, rfl, by first | trivial | lia | grind⟩, hu, f0, hri⟩
  · have zc48 := nx47 c48
    refine g_iload_n dX7_best_12 rfl ?_
    refine g_iconst (v := 1) dX7_best_13 (by decide) ?_
    refine g_icmp_eq (tgt := 26) dX7_best_14 (by decide) (fun c49 => ?_) (fun c49 => ?_)
    · refine g_pick (lv' := [(0, .ref (uk_ad G 60)), (1, .int k), (2, .int w)]) [0, 1, 2] rfl ?_
      exact J26 (by first | trivial | lia | grind) (by first | trivial | lia | grind)
    · refine g_iload_n dX7_best_17 rfl ?_
      refine cl_X7_252 (As := [.int w]) rfl (c_X7_isAsked (G := G) hs hu  w  (d + 2)) rfl (by omega) rfl (Nat.le_of_ble_eq_true rfl) dX7_best_18 (fun r50 u51 q52 => ?_)
      obtain ⟨⟨x53, rfl, tx53, nx53, zx53⟩, mq52⟩ := q52
      rw [mq52]
      refine g_if_ne (tgt := 26) dX7_best_21 (by decide) (fun c54 => ?_) (fun c54 => ?_)
      · have zc54 := nx53 c54
        refine g_pick (lv' := [(0, .ref (uk_ad G 60)), (1, .int k), (2, .int w)]) [0, 1, 2] rfl ?_
        exact J26 (by first | trivial | lia | grind) (by first | trivial | lia | grind)
      · have zc54 := zx53 c54
        refine g_iconst (v := (-1)) dX7_best_24 (by decide) ?_
        exact g_iret (ty := .int) dX7_best_25 rfl rfl ⟨⟨_, rfl, by first | trivial | lia | grind⟩, hu, f0, hri⟩
