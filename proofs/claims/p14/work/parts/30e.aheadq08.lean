abbrev q_X7_looked_s (u : uk_Mem) (lo : Int32) (hi : Int32) (r : Option Value) (u' : uk_Mem) : Prop := (∃ x : Int32, r = some (.int x) ∧ (((u'.1 60 18 = 0 → lo ≤ x ∧ x ≤ hi) ∧ (x = 0 ∨ (lo ≤ x ∧ x ≤ hi))) ∧ lkd lo hi u u' x)) ∧ (iv u' ∧ fk [60] [3, 7, 10, 11, 13, 14, 15, 16, 17, 22, 28] u u' ∧ (u'.1 60 18 = 0 → u.1 60 18 = 0))
set_option maxHeartbeats 4000000 in
set_option maxRecDepth 20000 in
theorem c_X7_looked_s {G : uk_D} (hs : uk_Sep G) {u : uk_Mem} (hu : iv u) (lo : Int32) (hi : Int32) (d : Nat) : uk_Meth G (d + 1) mX7_looked [.ref (uk_ad G 60), .int lo, .int hi] u (q_X7_looked_s u lo hi) := by
  refine uk_Meth.of hs (by decide) (Nat.le_of_ble_eq_true rfl) (fun X => ?_)
  have f0 : fk [60] [3, 7, 10, 11, 13, 14, 15, 16, 17, 22, 28] u u := fk_rf
  obtain ⟨t1, Tt1⟩ : ∃ t, u.1 60 15 = t := ⟨_, rfl⟩
  obtain ⟨t2, Tt2⟩ : ∃ t, u.1 60 16 = t := ⟨_, rfl⟩
  obtain ⟨t3, Tt3⟩ : ∃ t, u.1 60 17 = t := ⟨_, rfl⟩
  obtain ⟨t4, Tt4⟩ : ∃ t, u.1 60 18 = t := ⟨_, rfl⟩
  obtain ⟨t5, Tt5⟩ : ∃ t, u.1 60 19 = t := ⟨_, rfl⟩
  refine g_aload_n dX7_looked_0 rfl ?_
  refine f_X7_91 rfl rfl dX7_looked_1 ?_
  refine g_topi (fun x6 ex6 => ?_)
  have rx6 : 0 ≤ x6 ∧ x6 ≤ 6 := by rw [ex6]; exact iv_at hu _ _ rfl
  have qx6 : x6 = t4 := ex6.trans Tt4
  refine g_if_ne (tgt := 25) dX7_looked_4 (by decide) (fun c7 => ?_) (fun c7 => ?_)
  · refine g_aload_n dX7_looked_25 rfl ?_
    refine f_X7_91 rfl rfl dX7_looked_26 ?_
    refine g_topi (fun x8 ex8 => ?_)
    have rx8 : 0 ≤ x8 ∧ x8 ≤ 6 := by rw [ex8]; exact iv_at hu _ _ rfl
    have qx8 : x8 = t4 := ex8.trans Tt4
    refine g_if_ne (tgt := 49) dX7_looked_29 (by decide) (fun c9 => ?_) (fun c9 => ?_)
    · refine g_aload_n dX7_looked_49 rfl ?_
      refine f_X7_91 rfl rfl dX7_looked_50 ?_
      refine g_topi (fun x10 ex10 => ?_)
      have rx10 : 0 ≤ x10 ∧ x10 ≤ 6 := by rw [ex10]; exact iv_at hu _ _ rfl
      have qx10 : x10 = t4 := ex10.trans Tt4
      refine g_if_ne (tgt := 63) dX7_looked_53 (by decide) (fun c11 => ?_) (fun c11 => ?_)
      · refine g_iconst (v := 0) dX7_looked_63 (by decide) ?_
        exact g_iret (ty := .int) dX7_looked_64 rfl rfl ⟨⟨_, rfl, ⟨by first | trivial | lia | grind, (by unfold lkd; grind)⟩⟩, hu, f0, (by first | rfl | (rw [Tt4]; grind) | rw [Tt4])⟩
      · refine g_aload_n dX7_looked_56 rfl ?_
        refine f_X7_122 rfl rfl dX7_looked_57 ?_
        refine g_topi (fun x12 ex12 => ?_)
        have qx12 : x12 = t3 := ex12.trans Tt3
        refine g_goto (tgt := 64) dX7_looked_60 (by decide) ?_
        exact g_iret (ty := .int) dX7_looked_64 rfl rfl ⟨⟨_, rfl, ⟨by first | trivial | lia | grind, (by unfold lkd; grind)⟩⟩, hu, f0, (by first | rfl | (rw [Tt4]; grind) | rw [Tt4])⟩
    · refine g_aload_n dX7_looked_32 rfl ?_
      refine g_aload_n dX7_looked_33 rfl ?_
      refine f_X7_122 rfl rfl dX7_looked_34 ?_
      refine g_topi (fun x13 ex13 => ?_)
      have qx13 : x13 = t3 := ex13.trans Tt3
      refine g_i2l dX7_looked_37 ?_
      refine g_iload_n dX7_looked_38 rfl ?_
      refine g_i2l dX7_looked_39 ?_
      refine g_iload_n dX7_looked_40 rfl ?_
      refine g_i2l dX7_looked_41 ?_
      refine cl_X7_84 (As := [.long x13.toInt64, .long lo.toInt64, .long hi.toInt64]) rfl (c_X7_in (G := G) hs hu  x13 lo hi  (d)) rfl (by omega) rfl (Nat.le_of_ble_eq_true rfl) dX7_looked_42 (fun r14 u15 q16 => ?_)
      obtain ⟨⟨x17, rfl, tx17, nx17, zx17⟩, mq16⟩ := q16
      rw [mq16]
      refine g_iconst (v := 3) dX7_looked_45 (by decide) ?_
      refine cl_X7_125 (c := 60) (As := [.int x17, .int 3]) rfl (c_X7_needs_s (G := G) hs hu  x17 3 (by first | trivial | decide | lia | grind) (by first | trivial | decide | lia | grind) (d)) rfl (by omega) rfl rfl (Nat.le_of_ble_eq_true rfl) dX7_looked_46 (fun r18 u19 q20 => ?_)
      obtain ⟨rfl, mq20⟩ := q20
      obtain ⟨hu19, gu19, ku190, ku191, ku192⟩ := mq20
      have fu19 : fk [60] [3, 7, 10, 11, 13, 14, 15, 16, 17, 22, 28] u u19 := fk_tr f0 gu19 (by decide) (by decide)
      have T21 : u19.1 60 15 = t1 := (fk_at gu19 (by decide)).trans Tt1
      have T22 : u19.1 60 16 = t2 := (fk_at gu19 (by decide)).trans Tt2
      have T23 : u19.1 60 17 = t3 := (fk_at gu19 (by decide)).trans Tt3
      obtain ⟨t24, Tt24⟩ : ∃ t, u19.1 60 18 = t := ⟨_, rfl⟩
      have Rt24 : 0 ≤ t24 ∧ t24 ≤ 6 := by rw [← Tt24]; exact iv_at hu19 _ _ rfl
      obtain ⟨t25, Tt25⟩ : ∃ t, u19.1 60 19 = t := ⟨_, rfl⟩
      refine g_aload_n dX7_looked_49 rfl ?_
      refine f_X7_91 rfl rfl dX7_looked_50 ?_
      refine g_topi (fun x26 ex26 => ?_)
      have rx26 : 0 ≤ x26 ∧ x26 ≤ 6 := by rw [ex26]; exact iv_at hu19 _ _ rfl
      have qx26 : x26 = t24 := ex26.trans Tt24
      refine g_if_ne (tgt := 63) dX7_looked_53 (by decide) (fun c27 => ?_) (fun c27 => ?_)
      · refine g_iconst (v := 0) dX7_looked_63 (by decide) ?_
        exact g_iret (ty := .int) dX7_looked_64 rfl rfl ⟨⟨_, rfl, ⟨by first | trivial | lia | grind, (by unfold lkd; grind)⟩⟩, hu19, fu19, (by first | rfl | (rw [Tt24]; grind) | rw [Tt24])⟩
      · refine g_aload_n dX7_looked_56 rfl ?_
        refine f_X7_122 rfl rfl dX7_looked_57 ?_
        refine g_topi (fun x28 ex28 => ?_)
        have qx28 : x28 = t3 := ex28.trans T23
        refine g_goto (tgt := 64) dX7_looked_60 (by decide) ?_
        exact g_iret (ty := .int) dX7_looked_64 rfl rfl ⟨⟨_, rfl, ⟨by first | trivial | lia | grind, (by unfold lkd; grind)⟩⟩, hu19, fu19, (by first | rfl | (rw [Tt24]; grind) | rw [Tt24])⟩
  · refine g_aload_n dX7_looked_7 rfl ?_
    refine g_aload_n dX7_looked_8 rfl ?_
    refine f_X7_111 rfl rfl dX7_looked_9 ?_
    refine g_topi (fun x29 ex29 => ?_)
    have qx29 : x29 = t2 := ex29.trans Tt2
    refine g_iconst (v := 2) dX7_looked_12 (by decide) ?_
    refine g_icmp_ne (tgt := 20) dX7_looked_13 (by decide) (fun c30 => ?_) (fun c30 => ?_)
    · refine g_iconst (v := 0) dX7_looked_20 (by decide) ?_
      refine g_iconst (v := 2) dX7_looked_21 (by decide) ?_
      refine cl_X7_125 (c := 60) (As := [.int 0, .int 2]) rfl (c_X7_needs_s (G := G) hs hu  0 2 (by first | trivial | decide | lia | grind) (by first | trivial | decide | lia | grind) (d)) rfl (by omega) rfl rfl (Nat.le_of_ble_eq_true rfl) dX7_looked_22 (fun r31 u32 q33 => ?_)
      obtain ⟨rfl, mq33⟩ := q33
      obtain ⟨hu32, gu32, ku320, ku321, ku322⟩ := mq33
      have fu32 : fk [60] [3, 7, 10, 11, 13, 14, 15, 16, 17, 22, 28] u u32 := fk_tr f0 gu32 (by decide) (by decide)
      have T34 : u32.1 60 15 = t1 := (fk_at gu32 (by decide)).trans Tt1
      have T35 : u32.1 60 16 = t2 := (fk_at gu32 (by decide)).trans Tt2
      have T36 : u32.1 60 17 = t3 := (fk_at gu32 (by decide)).trans Tt3
      obtain ⟨t37, Tt37⟩ : ∃ t, u32.1 60 18 = t := ⟨_, rfl⟩
      have Rt37 : 0 ≤ t37 ∧ t37 ≤ 6 := by rw [← Tt37]; exact iv_at hu32 _ _ rfl
      obtain ⟨t38, Tt38⟩ : ∃ t, u32.1 60 19 = t := ⟨_, rfl⟩
      refine g_aload_n dX7_looked_25 rfl ?_
      refine f_X7_91 rfl rfl dX7_looked_26 ?_
      refine g_topi (fun x39 ex39 => ?_)
      have rx39 : 0 ≤ x39 ∧ x39 ≤ 6 := by rw [ex39]; exact iv_at hu32 _ _ rfl
      have qx39 : x39 = t37 := ex39.trans Tt37
      refine g_if_ne (tgt := 49) dX7_looked_29 (by decide) (fun c40 => ?_) (fun c40 => ?_)
      · refine g_aload_n dX7_looked_49 rfl ?_
        refine f_X7_91 rfl rfl dX7_looked_50 ?_
        refine g_topi (fun x41 ex41 => ?_)
        have rx41 : 0 ≤ x41 ∧ x41 ≤ 6 := by rw [ex41]; exact iv_at hu32 _ _ rfl
        have qx41 : x41 = t37 := ex41.trans Tt37
        refine g_if_ne (tgt := 63) dX7_looked_53 (by decide) (fun c42 => ?_) (fun c42 => ?_)
        · refine g_iconst (v := 0) dX7_looked_63 (by decide) ?_
          exact g_iret (ty := .int) dX7_looked_64 rfl rfl ⟨⟨_, rfl, ⟨by first | trivial | lia | grind, (by unfold lkd; grind)⟩⟩, hu32, fu32, (by first | rfl | (rw [Tt37]; grind) | rw [Tt37])⟩
        · refine g_aload_n dX7_looked_56 rfl ?_
          refine f_X7_122 rfl rfl dX7_looked_57 ?_
          refine g_topi (fun x43 ex43 => ?_)
          have qx43 : x43 = t3 := ex43.trans T36
          refine g_goto (tgt := 64) dX7_looked_60 (by decide) ?_
          exact g_iret (ty := .int) dX7_looked_64 rfl rfl ⟨⟨_, rfl, ⟨by first | trivial | lia | grind, (by unfold lkd; grind)⟩⟩, hu32, fu32, (by first | rfl | (rw [Tt37]; grind) | rw [Tt37])⟩
      · refine g_aload_n dX7_looked_32 rfl ?_
        refine g_aload_n dX7_looked_33 rfl ?_
        refine f_X7_122 rfl rfl dX7_looked_34 ?_
        refine g_topi (fun x44 ex44 => ?_)
        have qx44 : x44 = t3 := ex44.trans T36
        refine g_i2l dX7_looked_37 ?_
        refine g_iload_n dX7_looked_38 rfl ?_
        refine g_i2l dX7_looked_39 ?_
        refine g_iload_n dX7_looked_40 rfl ?_
        refine g_i2l dX7_looked_41 ?_
        refine cl_X7_84 (As := [.long x44.toInt64, .long lo.toInt64, .long hi.toInt64]) rfl (c_X7_in (G := G) hs hu32  x44 lo hi  (d)) rfl (by omega) rfl (Nat.le_of_ble_eq_true rfl) dX7_looked_42 (fun r45 u46 q47 => ?_)
        obtain ⟨⟨x48, rfl, tx48, nx48, zx48⟩, mq47⟩ := q47
        rw [mq47]
        refine g_iconst (v := 3) dX7_looked_45 (by decide) ?_
        refine cl_X7_125 (c := 60) (As := [.int x48, .int 3]) rfl (c_X7_needs_s (G := G) hs hu32  x48 3 (by first | trivial | decide | lia | grind) (by first | trivial | decide | lia | grind) (d)) rfl (by omega) rfl rfl (Nat.le_of_ble_eq_true rfl) dX7_looked_46 (fun r49 u50 q51 => ?_)
        obtain ⟨rfl, mq51⟩ := q51
        obtain ⟨hu50, gu50, ku500, ku501, ku502⟩ := mq51
        have fu50 : fk [60] [3, 7, 10, 11, 13, 14, 15, 16, 17, 22, 28] u u50 := fk_tr fu32 gu50 (by decide) (by decide)
        have T52 : u50.1 60 15 = t1 := (fk_at gu50 (by decide)).trans T34
        have T53 : u50.1 60 16 = t2 := (fk_at gu50 (by decide)).trans T35
        have T54 : u50.1 60 17 = t3 := (fk_at gu50 (by decide)).trans T36
        obtain ⟨t55, Tt55⟩ : ∃ t, u50.1 60 18 = t := ⟨_, rfl⟩
        have Rt55 : 0 ≤ t55 ∧ t55 ≤ 6 := by rw [← Tt55]; exact iv_at hu50 _ _ rfl
        obtain ⟨t56, Tt56⟩ : ∃ t, u50.1 60 19 = t := ⟨_, rfl⟩
        refine g_aload_n dX7_looked_49 rfl ?_
        refine f_X7_91 rfl rfl dX7_looked_50 ?_
        refine g_topi (fun x57 ex57 => ?_)
        have rx57 : 0 ≤ x57 ∧ x57 ≤ 6 := by rw [ex57]; exact iv_at hu50 _ _ rfl
        have qx57 : x57 = t55 := ex57.trans Tt55
        refine g_if_ne (tgt := 63) dX7_looked_53 (by decide) (fun c58 => ?_) (fun c58 => ?_)
        · refine g_iconst (v := 0) dX7_looked_63 (by decide) ?_
          exact g_iret (ty := .int) dX7_looked_64 rfl rfl ⟨⟨_, rfl, ⟨by first | trivial | lia | grind, (by unfold lkd; grind)⟩⟩, hu50, fu50, (by first | rfl | (rw [Tt55]; grind) | rw [Tt55])⟩
        · refine g_aload_n dX7_looked_56 rfl ?_
          refine f_X7_122 rfl rfl dX7_looked_57 ?_
          refine g_topi (fun x59 ex59 => ?_)
          have qx59 : x59 = t3 := ex59.trans T54
          refine g_goto (tgt := 64) dX7_looked_60 (by decide) ?_
          exact g_iret (ty := .int) dX7_looked_64 rfl rfl ⟨⟨_, rfl, ⟨by first | trivial | lia | grind, (by unfold lkd; grind)⟩⟩, hu50, fu50, (by first | rfl | (rw [Tt55]; grind) | rw [Tt55])⟩
    · refine g_iconst (v := 1) dX7_looked_16 (by decide) ?_
      refine g_goto (tgt := 21) dX7_looked_17 (by decide) ?_
      refine g_iconst (v := 2) dX7_looked_21 (by decide) ?_
      refine cl_X7_125 (c := 60) (As := [.int 1, .int 2]) rfl (c_X7_needs_s (G := G) hs hu  1 2 (by first | trivial | decide | lia | grind) (by first | trivial | decide | lia | grind) (d)) rfl (by omega) rfl rfl (Nat.le_of_ble_eq_true rfl) dX7_looked_22 (fun r60 u61 q62 => ?_)
      obtain ⟨rfl, mq62⟩ := q62
      obtain ⟨hu61, gu61, ku610, ku611, ku612⟩ := mq62
      have fu61 : fk [60] [3, 7, 10, 11, 13, 14, 15, 16, 17, 22, 28] u u61 := fk_tr f0 gu61 (by decide) (by decide)
      have T63 : u61.1 60 15 = t1 := (fk_at gu61 (by decide)).trans Tt1
      have T64 : u61.1 60 16 = t2 := (fk_at gu61 (by decide)).trans Tt2
      have T65 : u61.1 60 17 = t3 := (fk_at gu61 (by decide)).trans Tt3
      obtain ⟨t66, Tt66⟩ : ∃ t, u61.1 60 18 = t := ⟨_, rfl⟩
      have Rt66 : 0 ≤ t66 ∧ t66 ≤ 6 := by rw [← Tt66]; exact iv_at hu61 _ _ rfl
      obtain ⟨t67, Tt67⟩ : ∃ t, u61.1 60 19 = t := ⟨_, rfl⟩
      refine g_aload_n dX7_looked_25 rfl ?_
      refine f_X7_91 rfl rfl dX7_looked_26 ?_
      refine g_topi (fun x68 ex68 => ?_)
      have rx68 : 0 ≤ x68 ∧ x68 ≤ 6 := by rw [ex68]; exact iv_at hu61 _ _ rfl
      have qx68 : x68 = t66 := ex68.trans Tt66
      refine g_if_ne (tgt := 49) dX7_looked_29 (by decide) (fun c69 => ?_) (fun c69 => ?_)
      · refine g_aload_n dX7_looked_49 rfl ?_
        refine f_X7_91 rfl rfl dX7_looked_50 ?_
        refine g_topi (fun x70 ex70 => ?_)
        have rx70 : 0 ≤ x70 ∧ x70 ≤ 6 := by rw [ex70]; exact iv_at hu61 _ _ rfl
        have qx70 : x70 = t66 := ex70.trans Tt66
        refine g_if_ne (tgt := 63) dX7_looked_53 (by decide) (fun c71 => ?_) (fun c71 => ?_)
        · refine g_iconst (v := 0) dX7_looked_63 (by decide) ?_
          exact g_iret (ty := .int) dX7_looked_64 rfl rfl ⟨⟨_, rfl, ⟨by first | trivial | lia | grind, (by unfold lkd; grind)⟩⟩, hu61, fu61, (by first | rfl | (rw [Tt66]; grind) | rw [Tt66])⟩
        · refine g_aload_n dX7_looked_56 rfl ?_
          refine f_X7_122 rfl rfl dX7_looked_57 ?_
          refine g_topi (fun x72 ex72 => ?_)
          have qx72 : x72 = t3 := ex72.trans T65
          refine g_goto (tgt := 64) dX7_looked_60 (by decide) ?_
          exact g_iret (ty := .int) dX7_looked_64 rfl rfl ⟨⟨_, rfl, ⟨by first | trivial | lia | grind, (by unfold lkd; grind)⟩⟩, hu61, fu61, (by first | rfl | (rw [Tt66]; grind) | rw [Tt66])⟩
      · refine g_aload_n dX7_looked_32 rfl ?_
        refine g_aload_n dX7_looked_33 rfl ?_
        refine f_X7_122 rfl rfl dX7_looked_34 ?_
        refine g_topi (fun x73 ex73 => ?_)
        have qx73 : x73 = t3 := ex73.trans T65
        refine g_i2l dX7_looked_37 ?_
        refine g_iload_n dX7_looked_38 rfl ?_
        refine g_i2l dX7_looked_39 ?_
        refine g_iload_n dX7_looked_40 rfl ?_
        refine g_i2l dX7_looked_41 ?_
        refine cl_X7_84 (As := [.long x73.toInt64, .long lo.toInt64, .long hi.toInt64]) rfl (c_X7_in (G := G) hs hu61  x73 lo hi  (d)) rfl (by omega) rfl (Nat.le_of_ble_eq_true rfl) dX7_looked_42 (fun r74 u75 q76 => ?_)
        obtain ⟨⟨x77, rfl, tx77, nx77, zx77⟩, mq76⟩ := q76
        rw [mq76]
        refine g_iconst (v := 3) dX7_looked_45 (by decide) ?_
        refine cl_X7_125 (c := 60) (As := [.int x77, .int 3]) rfl (c_X7_needs_s (G := G) hs hu61  x77 3 (by first | trivial | decide | lia | grind) (by first | trivial | decide | lia | grind) (d)) rfl (by omega) rfl rfl (Nat.le_of_ble_eq_true rfl) dX7_looked_46 (fun r78 u79 q80 => ?_)
        obtain ⟨rfl, mq80⟩ := q80
        obtain ⟨hu79, gu79, ku790, ku791, ku792⟩ := mq80
        have fu79 : fk [60] [3, 7, 10, 11, 13, 14, 15, 16, 17, 22, 28] u u79 := fk_tr fu61 gu79 (by decide) (by decide)
        have T81 : u79.1 60 15 = t1 := (fk_at gu79 (by decide)).trans T63
        have T82 : u79.1 60 16 = t2 := (fk_at gu79 (by decide)).trans T64
        have T83 : u79.1 60 17 = t3 := (fk_at gu79 (by decide)).trans T65
        obtain ⟨t84, Tt84⟩ : ∃ t, u79.1 60 18 = t := ⟨_, rfl⟩
        have Rt84 : 0 ≤ t84 ∧ t84 ≤ 6 := by rw [← Tt84]; exact iv_at hu79 _ _ rfl
        obtain ⟨t85, Tt85⟩ : ∃ t, u79.1 60 19 = t := ⟨_, rfl⟩
        refine g_aload_n dX7_looked_49 rfl ?_
        refine f_X7_91 rfl rfl dX7_looked_50 ?_
        refine g_topi (fun x86 ex86 => ?_)
        have rx86 : 0 ≤ x86 ∧ x86 ≤ 6 := by rw [ex86]; exact iv_at hu79 _ _ rfl
        have qx86 : x86 = t84 := ex86.trans Tt84
        refine g_if_ne (tgt := 63) dX7_looked_53 (by decide) (fun c87 => ?_) (fun c87 => ?_)
        · refine g_iconst (v := 0) dX7_looked_63 (by decide) ?_
          exact g_iret (ty := .int) dX7_looked_64 rfl rfl ⟨⟨_, rfl, ⟨by first | trivial | lia | grind, (by unfold lkd; grind)⟩⟩, hu79, fu79, (by first | rfl | (rw [Tt84]; grind) | rw [Tt84])⟩
        · refine g_aload_n dX7_looked_56 rfl ?_
          refine f_X7_122 rfl rfl dX7_looked_57 ?_
          refine g_topi (fun x88 ex88 => ?_)
          have qx88 : x88 = t3 := ex88.trans T83
          refine g_goto (tgt := 64) dX7_looked_60 (by decide) ?_
          exact g_iret (ty := .int) dX7_looked_64 rfl rfl ⟨⟨_, rfl, ⟨by first | trivial | lia | grind, (by unfold lkd; grind)⟩⟩, hu79, fu79, (by first | rfl | (rw [Tt84]; grind) | rw [Tt84])⟩
