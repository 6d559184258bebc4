abbrev q_X7_fits (u : uk_Mem)  (r : Option Value) (u' : uk_Mem) : Prop := (∃ x : Int32, r = some (.int x) ∧ True) ∧ (iv u' ∧ fk [60, 62, 71] [3, 7, 10, 11, 13, 14, 15, 16, 17, 18, 19, 28] u u' ∧ ri u')
set_option maxHeartbeats 4000000 in
set_option maxRecDepth 20000 in
theorem c_X7_fits {G : uk_D} (hs : uk_Sep G) {u : uk_Mem} (hu : iv u) (hri : ri u)  (d : Nat) : uk_Meth G (d + 3) mX7_fits [.ref (uk_ad G 60)] u (q_X7_fits u) := by
  refine uk_Meth.of hs (by decide) (Nat.le_of_ble_eq_true rfl) (fun X => ?_)
  have f0 : fk [60, 62, 71] [3, 7, 10, 11, 13, 14, 15, 16, 17, 18, 19, 28] u u := fk_rf
  refine g_iconst (v := 0) dX7_fits_0 (by decide) ?_
  refine g_istore_n dX7_fits_1 (by decide) ?_
  refine g_pick (lv' := [(0, .ref (uk_ad G 60)), (1, .int 0)]) [0, 1] rfl ?_
  refine g_iconst (v := 0) dX7_fits_2 (by decide) ?_
  refine g_istore_n dX7_fits_3 (by decide) ?_
  refine g_pick (lv' := [(0, .ref (uk_ad G 60)), (1, .int 0), (2, .int 0)]) [0, 1, 2] rfl ?_
  have L4_0 : ∀ i3 : Int32, 0 ≤ i3 → i3 ≤ 8 → ∀ (w2 : Int32) (u4 : uk_Mem), iv u4 → fk [60, 62, 71] [3, 7, 10, 11, 13, 14, 15, 16, 17, 18, 19, 28] u u4 → ri u4 → uk_G G X mX7_fits (d + 3) (q_X7_fits u) 4 [(0, .ref (uk_ad G 60)), (1, .int w2), (2, .int i3)] [] u4 := by
    refine uk_upl 8 ?_
    intro i3 ai3 bi3 ihi3 w2 u4 hu4 fu4 riu4
    have wu4_60_3 : u4.1 60 3 = u.1 60 3 := fk_at fu4 (by decide)
    refine g_iload_n dX7_fits_4 rfl ?_
    refine g_aload_n dX7_fits_5 rfl ?_
    refine f_X7_79 rfl rfl dX7_fits_6 ?_
    refine g_topi (fun x5 ex5 => ?_)
    have rx5 : 0 ≤ x5 ∧ x5 ≤ 8 := by rw [ex5]; exact iv_at hu4 _ _ rfl
    have s6 : u4.1 60 3 = x5 := ex5.symm
    refine g_icmp_ge (tgt := 107) dX7_fits_9 (by decide) (fun c7 => ?_) (fun c7 => ?_)
    · refine g_iload_n dX7_fits_107 rfl ?_
      exact g_iret (ty := .int) dX7_fits_108 rfl rfl ⟨⟨_, rfl, by first | trivial | lia | grind⟩, hu4, fu4, riu4⟩
    · refine g_aload_n dX7_fits_12 rfl ?_
      refine g_iload_n dX7_fits_13 rfl ?_
      refine g_sipush (v := 128) dX7_fits_14 (by decide) ?_
      refine cl_X7_220 (c := 60) (As := [.int i3, .int 128]) rfl (c_X7_mills (G := G) hs hu4 riu4  i3 128 (by first | trivial | decide | lia | grind) (by first | trivial | decide | lia | grind) (by first | trivial | decide | lia | grind) (by first | trivial | decide | lia | grind) (d)) rfl (by omega) rfl rfl (Nat.le_of_ble_eq_true rfl) dX7_fits_17 (fun r8 u9 q10 => ?_)
      obtain ⟨⟨x11, rfl, tx11⟩, mq10⟩ := q10
      obtain ⟨hu9, gu9, riu9, rau9, rpu9⟩ := mq10
      have fu9 : fk [60, 62, 71] [3, 7, 10, 11, 13, 14, 15, 16, 17, 18, 19, 28] u u9 := fk_tr fu4 gu9 (by decide) (by decide)
      have wu9_60_3 : u9.1 60 3 = u4.1 60 3 := fk_at gu9 (by decide)
      have s12 : u9.1 60 3 = x5 := (fk_at gu9 (by decide)).trans s6
      refine g_pop dX7_fits_20 rfl ?_
      refine g_aload_n dX7_fits_21 rfl ?_
      refine f_X7_207 rfl rfl dX7_fits_22 ?_
      refine g_topi (fun x13 ex13 => ?_)
      have rx13 : 0 ≤ x13 ∧ x13 ≤ 255 := by rw [ex13]; exact iv_at hu9 _ _ rfl
      have s14 : u9.1 60 22 = x13 := ex13.symm
      refine g_aload_n dX7_fits_25 rfl ?_
      refine f_X7_7 rfl rfl dX7_fits_26 ?_
      refine g_bipush (v := 42) dX7_fits_29 (by decide) ?_
      have v15 : vp_in 42 153 := uk_vin 153 rfl (by first | decide | lia | grind) (by first | decide | lia | grind)
      refine g_iald rfl rfl v15 dX7_fits_31 ?_
      refine g_topi (fun x16 ex16 => ?_)
      have bx16 := uk_cl v15
      have rx16 : 0 ≤ x16 ∧ x16 ≤ 8 := by rw [ex16]; exact sg_42 hu9 (by unfold uk_is51; decide)
      refine g_icmp_lt (tgt := 39) dX7_fits_32 (by decide) (fun c17 => ?_) (fun c17 => ?_)
      · refine g_iconst (v := 0) dX7_fits_39 (by decide) ?_
        refine g_istore_n dX7_fits_40 (by decide) ?_
        refine g_pick (lv' := [(0, .ref (uk_ad G 60)), (1, .int w2), (2, .int i3), (3, .int 0)]) [0, 1, 2, 3] rfl ?_
        refine g_iconst (v := 0) dX7_fits_41 (by decide) ?_
        refine g_istore dX7_fits_42 (by decide) ?_
        refine g_pick (lv' := [(0, .ref (uk_ad G 60)), (1, .int w2), (2, .int i3), (3, .int 0), (4, .int 0)]) [0, 1, 2, 3, 4] rfl ?_
        have L44_17 : ∀ i20 : Int32, 0 ≤ i20 → i20 ≤ 8 → ∀ (w19 : Int32), w19 = 0 ∨ w19 = 1 → uk_G G X mX7_fits (d + 3) (q_X7_fits u) 44 [(0, .ref (uk_ad G 60)), (1, .int w2), (2, .int i3), (3, .int w19), (4, .int i20)] [] u9 := by
          refine uk_upl 8 ?_
          intro i20 ai20 bi20 ihi20 w19 ji200
          refine g_iload dX7_fits_44 rfl ?_
          refine g_aload_n dX7_fits_46 rfl ?_
          refine f_X7_7 rfl rfl dX7_fits_47 ?_
          refine g_bipush (v := 42) dX7_fits_50 (by decide) ?_
          have v21 : vp_in 42 153 := uk_vin 153 rfl (by first | decide | lia | grind) (by first | decide | lia | grind)
          refine g_iald rfl rfl v21 dX7_fits_52 ?_
          refine g_topi (fun x22 ex22 => ?_)
          have bx22 := uk_cl v21
          have rx22 : 0 ≤ x22 ∧ x22 ≤ 8 := by rw [ex22]; exact sg_42 hu9 (by unfold uk_is51; decide)
          refine g_icmp_ge (tgt := 92) dX7_fits_53 (by decide) (fun c23 => ?_) (fun c23 => ?_)
          · refine g_iload_n dX7_fits_92 rfl ?_
            refine g_iload_n dX7_fits_93 rfl ?_
            refine cl_X7_169 (As := [.int w19]) rfl (c_X7_flag (G := G) hs hu9  w19  (d + 2)) rfl (by omega) rfl (Nat.le_of_ble_eq_true rfl) dX7_fits_94 (fun r24 u25 q26 => ?_)
            obtain ⟨⟨x27, rfl, tx27⟩, mq26⟩ := q26
            rw [mq26]
            refine g_iload_n dX7_fits_97 rfl ?_
            refine g_ishl dX7_fits_98 (fun x28 ex28 => ?_)
            refine g_ior dX7_fits_99 ?_
            refine g_topi (fun x29 ex29 => ?_)
            refine g_istore_n dX7_fits_100 (by decide) ?_
            refine g_pick (lv' := [(0, .ref (uk_ad G 60)), (1, .int x29), (2, .int i3), (3, .int w19), (4, .int i20)]) [0, 1, 2, 3, 4] rfl ?_
            refine g_iinc (v := i3 + 1) dX7_fits_101 rfl rfl (by decide) ?_
            refine g_pick (lv' := [(0, .ref (uk_ad G 60)), (1, .int x29), (2, .int (i3 + 1)), (3, .int w19), (4, .int i20)]) [0, 1, 2, 3, 4] rfl ?_
            refine g_goto (tgt := 4) dX7_fits_104 (by decide) ?_
            refine g_pick (lv' := [(0, .ref (uk_ad G 60)), (1, .int x29), (2, .int (i3 + 1))]) [0, 1, 2] rfl ?_
            exact ihi3 (by first | lia | grind) x29 u9 hu9 fu9 riu9 
          · refine g_iload_n dX7_fits_56 rfl ?_
            refine g_if_eq (tgt := 92) dX7_fits_57 (by decide) (fun c30 => ?_) (fun c30 => ?_)
            · refine g_iload_n dX7_fits_92 rfl ?_
              refine g_iload_n dX7_fits_93 rfl ?_
              refine cl_X7_169 (As := [.int w19]) rfl (c_X7_flag (G := G) hs hu9  w19  (d + 2)) rfl (by omega) rfl (Nat.le_of_ble_eq_true rfl) dX7_fits_94 (fun r31 u32 q33 => ?_)
              obtain ⟨⟨x34, rfl, tx34⟩, mq33⟩ := q33
              rw [mq33]
              refine g_iload_n dX7_fits_97 rfl ?_
              refine g_ishl dX7_fits_98 (fun x35 ex35 => ?_)
              refine g_ior dX7_fits_99 ?_
              refine g_topi (fun x36 ex36 => ?_)
              refine g_istore_n dX7_fits_100 (by decide) ?_
              refine g_pick (lv' := [(0, .ref (uk_ad G 60)), (1, .int x36), (2, .int i3), (3, .int w19), (4, .int i20)]) [0, 1, 2, 3, 4] rfl ?_
              refine g_iinc (v := i3 + 1) dX7_fits_101 rfl rfl (by decide) ?_
              refine g_pick (lv' := [(0, .ref (uk_ad G 60)), (1, .int x36), (2, .int (i3 + 1)), (3, .int w19), (4, .int i20)]) [0, 1, 2, 3, 4] rfl ?_
              refine g_goto (tgt := 4) dX7_fits_104 (by decide) ?_
              refine g_pick (lv' := [(0, .ref (uk_ad G 60)), (1, .int x36), (2, .int (i3 + 1))]) [0, 1, 2] rfl ?_
              exact ihi3 (by first | lia | grind) x36 u9 hu9 fu9 riu9 
            · refine g_aload_n dX7_fits_60 rfl ?_
              refine f_X7_41 rfl rfl dX7_fits_61 ?_
              refine g_iload dX7_fits_64 rfl ?_
              have v37 : vp_in i20 256 := uk_vin 256 rfl (by first | decide | lia | grind) (by first | decide | lia | grind)
              refine g_iald rfl rfl v37 dX7_fits_66 ?_
              refine g_topi (fun x38 ex38 => ?_)
              have bx38 := uk_cl v37
              have rx38 : 0 ≤ x38 ∧ x38 ≤ 7 := by rw [ex38]; exact iv_at hu9 _ _ (uk_pick1 _ (by omega))
              refine g_aload_n dX7_fits_67 rfl ?_
              refine f_X7_7 rfl rfl dX7_fits_68 ?_
              refine g_bipush (v := 43) dX7_fits_71 (by decide) ?_
              refine g_iload dX7_fits_73 rfl ?_
              refine g_iadd dX7_fits_75 ?_
              refine g_topi (fun x39 ex39 => ?_)
              have v40 : vp_in x39 153 := uk_vin 153 rfl (by first | decide | lia | grind) (by first | decide | lia | grind)
              refine g_iald rfl rfl v40 dX7_fits_76 ?_
              refine g_topi (fun x41 ex41 => ?_)
              have bx41 := uk_cl v40
              have rx41 : 0 ≤ x41 ∧ x41 ≤ 7 := by rw [ex41]; exact sg_43 hu9 (by unfold uk_is51; decide) (by first | lia | grind) (by first | lia | grind)
              refine g_icmp_ne (tgt := 84) dX7_fits_77 (by decide) (fun c42 => ?_) (fun c42 => ?_)
              · refine g_iconst (v := 0) dX7_fits_84 (by decide) ?_
                refine g_istore_n dX7_fits_85 (by decide) ?_
                refine g_pick (lv' := [(0, .ref (uk_ad G 60)), (1, .int w2), (2, .int i3), (3, .int 0), (4, .int i20)]) [0, 1, 2, 3, 4] rfl ?_
                refine g_iinc (v := i20 + 1) dX7_fits_86 rfl rfl (by decide) ?_
                refine g_pick (lv' := [(0, .ref (uk_ad G 60)), (1, .int w2), (2, .int i3), (3, .int 0), (4, .int (i20 + 1))]) [0, 1, 2, 3, 4] rfl ?_
                refine g_goto (tgt := 44) dX7_fits_89 (by decide) ?_
                refine g_pick (lv' := [(0, .ref (uk_ad G 60)), (1, .int w2), (2, .int i3), (3, .int 0), (4, .int (i20 + 1))]) [0, 1, 2, 3, 4] rfl ?_
                exact ihi20 (by first | lia | grind) 0 (by first | trivial | lia | grind)
              · refine g_iconst (v := 1) dX7_fits_80 (by decide) ?_
                refine g_goto (tgt := 85) dX7_fits_81 (by decide) ?_
                refine g_istore_n dX7_fits_85 (by decide) ?_
                refine g_pick (lv' := [(0, .ref (uk_ad G 60)), (1, .int w2), (2, .int i3), (3, .int 1), (4, .int i20)]) [0, 1, 2, 3, 4] rfl ?_
                refine g_iinc (v := i20 + 1) dX7_fits_86 rfl rfl (by decide) ?_
                refine g_pick (lv' := [(0, .ref (uk_ad G 60)), (1, .int w2), (2, .int i3), (3, .int 1), (4, .int (i20 + 1))]) [0, 1, 2, 3, 4] rfl ?_
                refine g_goto (tgt := 44) dX7_fits_89 (by decide) ?_
                refine g_pick (lv' := [(0, .ref (uk_ad G 60)), (1, .int w2), (2, .int i3), (3, .int 1), (4, .int (i20 + 1))]) [0, 1, 2, 3, 4] rfl ?_
                exact ihi20 (by first | lia | grind) 1 (by first | trivial | lia | grind)
        refine g_pick (lv' := [(0, .ref (uk_ad G 60)), (1, .int w2), (2, .int i3), (3, .int 0), (4, .int 0)]) [0, 1, 2, 3, 4] rfl ?_
        exact L44_17 0 (by first | decide | lia | grind) (by first | decide | lia | grind) 0 (by first | trivial | lia | grind)
      · refine g_iconst (v := 1) dX7_fits_35 (by decide) ?_
        refine g_goto (tgt := 40) dX7_fits_36 (by decide) ?_
        refine g_istore_n dX7_fits_40 (by decide) ?_
        refine g_pick (lv' := [(0, .ref (uk_ad G 60)), (1, .int w2), (2, .int i3), (3, .int 1)]) [0, 1, 2, 3] rfl ?_
        refine g_iconst (v := 0) dX7_fits_41 (by decide) ?_
        refine g_istore dX7_fits_42 (by decide) ?_
        refine g_pick (lv' := [(0, .ref (uk_ad G 60)), (1, .int w2), (2, .int i3), (3, .int 1), (4, .int 0)]) [0, 1, 2, 3, 4] rfl ?_
        have L44_42 : ∀ i45 : Int32, 0 ≤ i45 → i45 ≤ 8 → ∀ (w44 : Int32), w44 = 0 ∨ w44 = 1 → uk_G G X mX7_fits (d + 3) (q_X7_fits u) 44 [(0, .ref (uk_ad G 60)), (1, .int w2), (2, .int i3), (3, .int w44), (4, .int i45)] [] u9 := by
          refine uk_upl 8 ?_
          intro i45 ai45 bi45 ihi45 w44 ji450
          refine g_iload dX7_fits_44 rfl ?_
          refine g_aload_n dX7_fits_46 rfl ?_
          refine f_X7_7 rfl rfl dX7_fits_47 ?_
          refine g_bipush (v := 42) dX7_fits_50 (by decide) ?_
          have v46 : vp_in 42 153 := uk_vin 153 rfl (by first | decide | lia | grind) (by first | decide | lia | grind)
          refine g_iald rfl rfl v46 dX7_fits_52 ?_
          refine g_topi (fun x47 ex47 => ?_)
          have bx47 := uk_cl v46
          have rx47 : 0 ≤ x47 ∧ x47 ≤ 8 := by rw [ex47]; exact sg_42 hu9 (by unfold uk_is51; decide)
          refine g_icmp_ge (tgt := 92) dX7_fits_53 (by decide) (fun c48 => ?_) (fun c48 => ?_)
          · refine g_iload_n dX7_fits_92 rfl ?_
            refine g_iload_n dX7_fits_93 rfl ?_
            refine cl_X7_169 (As := [.int w44]) rfl (c_X7_flag (G := G) hs hu9  w44  (d + 2)) rfl (by omega) rfl (Nat.le_of_ble_eq_true rfl) dX7_fits_94 (fun r49 u50 q51 => ?_)
            obtain ⟨⟨x52, rfl, tx52⟩, mq51⟩ := q51
            rw [mq51]
            refine g_iload_n dX7_fits_97 rfl ?_
            refine g_ishl dX7_fits_98 (fun x53 ex53 => ?_)
            refine g_ior dX7_fits_99 ?_
            refine g_topi (fun x54 ex54 => ?_)
            refine g_istore_n dX7_fits_100 (by decide) ?_
            refine g_pick (lv' := [(0, .ref (uk_ad G 60)), (1, .int x54), (2, .int i3), (3, .int w44), (4, .int i45)]) [0, 1, 2, 3, 4] rfl ?_
            refine g_iinc (v := i3 + 1) dX7_fits_101 rfl rfl (by decide) ?_
            refine g_pick (lv' := [(0, .ref (uk_ad G 60)), (1, .int x54), (2, .int (i3 + 1)), (3, .int w44), (4, .int i45)]) [0, 1, 2, 3, 4] rfl ?_
            refine g_goto (tgt := 4) dX7_fits_104 (by decide) ?_
            refine g_pick (lv' := [(0, .ref (uk_ad G 60)), (1, .int x54), (2, .int (i3 + 1))]) [0, 1, 2] rfl ?_
            exact ihi3 (by first | lia | grind) x54 u9 hu9 fu9 riu9 
          · refine g_iload_n dX7_fits_56 rfl ?_
            refine g_if_eq (tgt := 92) dX7_fits_57 (by decide) (fun c55 => ?_) (fun c55 => ?_)
            · refine g_iload_n dX7_fits_92 rfl ?_
              refine g_iload_n dX7_fits_93 rfl ?_
              refine cl_X7_169 (As := [.int w44]) rfl (c_X7_flag (G := G) hs hu9  w44  (d + 2)) rfl (by omega) rfl (Nat.le_of_ble_eq_true rfl) dX7_fits_94 (fun r56 u57 q58 => ?_)
              obtain ⟨⟨x59, rfl, tx59⟩, mq58⟩ := q58
              rw [mq58]
              refine g_iload_n dX7_fits_97 rfl ?_
              refine g_ishl dX7_fits_98 (fun x60 ex60 => ?_)
              refine g_ior dX7_fits_99 ?_
              refine g_topi (fun x61 ex61 => ?_)
              refine g_istore_n dX7_fits_100 (by decide) ?_
              refine g_pick (lv' := [(0, .ref (uk_ad G 60)), (1, .int x61), (2, .int i3), (3, .int w44), (4, .int i45)]) [0, 1, 2, 3, 4] rfl ?_
              refine g_iinc (v := i3 + 1) dX7_fits_101 rfl rfl (by decide) ?_
              refine g_pick (lv' := [(0, .ref (uk_ad G 60)), (1, .int x61), (2, .int (i3 + 1)), (3, .int w44), (4, .int i45)]) [0, 1, 2, 3, 4] rfl ?_
              refine g_goto (tgt := 4) dX7_fits_104 (by decide) ?_
              refine g_pick (lv' := [(0, .ref (uk_ad G 60)), (1, .int x61), (2, .int (i3 + 1))]) [0, 1, 2] rfl ?_
              exact ihi3 (by first | lia | grind) x61 u9 hu9 fu9 riu9 
            · refine g_aload_n dX7_fits_60 rfl ?_
              refine f_X7_41 rfl rfl dX7_fits_61 ?_
              refine g_iload dX7_fits_64 rfl ?_
              have v62 : vp_in i45 256 := uk_vin 256 rfl (by first | decide | lia | grind) (by first | decide | lia | grind)
              refine g_iald rfl rfl v62 dX7_fits_66 ?_
              refine g_topi (fun x63 ex63 => ?_)
              have bx63 := uk_cl v62
              have rx63 : 0 ≤ x63 ∧ x63 ≤ 7 := by rw [ex63]; exact iv_at hu9 _ _ (uk_pick1 _ (by omega))
              refine g_aload_n dX7_fits_67 rfl ?_
              refine f_X7_7 rfl rfl dX7_fits_68 ?_
              refine g_bipush (v := 43) dX7_fits_71 (by decide) ?_
              refine g_iload dX7_fits_73 rfl ?_
              refine g_iadd dX7_fits_75 ?_
              refine g_topi (fun x64 ex64 => ?_)
              have v65 : vp_in x64 153 := uk_vin 153 rfl (by first | decide | lia | grind) (by first | decide | lia | grind)
              refine g_iald rfl rfl v65 dX7_fits_76 ?_
              refine g_topi (fun x66 ex66 => ?_)
              have bx66 := uk_cl v65
              have rx66 : 0 ≤ x66 ∧ x66 ≤ 7 := by rw [ex66]; exact sg_43 hu9 (by unfold uk_is51; decide) (by first | lia | grind) (by first | lia | grind)
              refine g_icmp_ne (tgt := 84) dX7_fits_77 (by decide) (fun c67 => ?_) (fun c67 => ?_)
              · refine g_iconst (v := 0) dX7_fits_84 (by decide) ?_
                refine g_istore_n dX7_fits_85 (by decide) ?_
                refine g_pick (lv' := [(0, .ref (uk_ad G 60)), (1, .int w2), (2, .int i3), (3, .int 0), (4, .int i45)]) [0, 1, 2, 3, 4] rfl ?_
                refine g_iinc (v := i45 + 1) dX7_fits_86 rfl rfl (by decide) ?_
                refine g_pick (lv' := [(0, .ref (uk_ad G 60)), (1, .int w2), (2, .int i3), (3, .int 0), (4, .int (i45 + 1))]) [0, 1, 2, 3, 4] rfl ?_
                refine g_goto (tgt := 44) dX7_fits_89 (by decide) ?_
                refine g_pick (lv' := [(0, .ref (uk_ad G 60)), (1, .int w2), (2, .int i3), (3, .int 0), (4, .int (i45 + 1))]) [0, 1, 2, 3, 4] rfl ?_
                exact ihi45 (by first | lia | grind) 0 (by first | trivial | lia | grind)
              · refine g_iconst (v := 1) dX7_fits_80 (by decide) ?_
                refine g_goto (tgt := 85) dX7_fits_81 (by decide) ?_
                refine g_istore_n dX7_fits_85 (by decide) ?_
                refine g_pick (lv' := [(0, .ref (uk_ad G 60)), (1, .int w2), (2, .int i3), (3, .int 1), (4, .int i45)]) [0, 1, 2, 3, 4] rfl ?_
                refine g_iinc (v := i45 + 1) dX7_fits_86 rfl rfl (by decide) ?_
                refine g_pick (lv' := [(0, .ref (uk_ad G 60)), (1, .int w2), (2, .int i3), (3, .int 1), (4, .int (i45 + 1))]) [0, 1, 2, 3, 4] rfl ?_
                refine g_goto (tgt := 44) dX7_fits_89 (by decide) ?_
                refine g_pick (lv' := [(0, .ref (uk_ad G 60)), (1, .int w2), (2, .int i3), (3, .int 1), (4, .int (i45 + 1))]) [0, 1, 2, 3, 4] rfl ?_
                exact ihi45 (by first | lia | grind) 1 (by first | trivial | lia | grind)
        refine g_pick (lv' := [(0, .ref (uk_ad G 60)), (1, .int w2), (2, .int i3), (3, .int 1), (4, .int 0)]) [0, 1, 2, 3, 4] rfl ?_
        exact L44_42 0 (by first | decide | lia | grind) (by first | decide | lia | grind) 1 (by first | trivial | lia | grind)
  refine g_pick (lv' := [(0, .ref (uk_ad G 60)), (1, .int 0), (2, .int 0)]) [0, 1, 2] rfl ?_
  exact L4_0 0 (by first | decide | lia | grind) (by first | decide | lia | grind) 0 u hu f0 hri 
abbrev q_X7_fitTogether (u : uk_Mem) (m : Int32) (n : Int32) (r : Option Value) (u' : uk_Mem) : Prop := (∃ x : Int32, r = some (.int x) ∧ (x = 0 ∨ x = 1) ∧ (¬ x = 0 → True) ∧ (x = 0 → True)) ∧ (iv u' ∧ fk [60, 62, 71, 73] [3, 7, 10, 11, 13, 14, 15, 16, 17, 18, 19, 28] u u' ∧ ri u')
abbrev q_X7_pairs (u : uk_Mem) (w : Int32) (r : Option Value) (u' : uk_Mem) : Prop := (∃ x : Int32, r = some (.int x) ∧ True) ∧ (iv u' ∧ fk [60, 62, 71, 73] [3, 7, 10, 11, 13, 14, 15, 16, 17, 18, 19, 28] u u' ∧ ri u')
abbrev q_X7_read (u : uk_Mem) (k : Int32) (l : Int32) (f : Int32) (n : Int32) (r : Option Value) (u' : uk_Mem) : Prop := (∃ x : Int32, r = some (.int x) ∧ True) ∧ (iv u' ∧ fk [60, 61, 62, 77] [3, 7, 10, 11, 13, 14, 15, 16, 17, 18, 19, 22] u u' ∧ ri u')