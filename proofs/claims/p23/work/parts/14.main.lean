abbrev q_X6_best (u : uk_Mem) (k : Int32) (w : Int32) (r : Option Value) (u' : uk_Mem) : Prop := (∃ x : Int32, r = some (.int x) ∧ True) ∧ (iv u' ∧ fr 13 49 u u')
set_option maxHeartbeats 4000000 in
set_option maxRecDepth 20000 in
theorem c_X6_best {G : uk_D} (hs : uk_Sep G) {u : uk_Mem} (hu : iv u) (k : Int32) (w : Int32) (d : Nat) : uk_Meth G (d + 9) mX6_best [.ref (uk_ad G 0), .int k, .int w] u (q_X6_best u k w) := by
  refine uk_Meth.of hs (by decide) (Nat.le_of_ble_eq_true rfl) (fun X => ?_)
  have f0 : fr 13 49 u u := fr_rf
  refine g_iload_n dX6_best_0 rfl ?_
  refine g_if_lt (tgt := 24) dX6_best_1 (by decide) (fun c1 => ?_) (fun c1 => ?_)
  · refine g_iconst (v := (-1)) dX6_best_24 (by decide) ?_
    exact g_iret (ty := .int) dX6_best_25 rfl rfl ⟨⟨_, rfl, by first | trivial | lia | grind⟩, hu, f0⟩
  · refine g_iload_n dX6_best_4 rfl ?_
    refine g_iconst (v := 4) dX6_best_5 (by decide) ?_
    refine g_icmp_gt (tgt := 24) dX6_best_6 (by decide) (fun c2 => ?_) (fun c2 => ?_)
    · refine g_iconst (v := (-1)) dX6_best_24 (by decide) ?_
      exact g_iret (ty := .int) dX6_best_25 rfl rfl ⟨⟨_, rfl, by first | trivial | lia | grind⟩, hu, f0⟩
    · refine g_iload_n dX6_best_9 rfl ?_
      refine g_if_eq (tgt := 26) dX6_best_10 (by decide) (fun c3 => ?_) (fun c3 => ?_)
      · refine g_aload_n dX6_best_26 rfl ?_
        refine f_X6_55 rfl rfl dX6_best_27 ?_
        refine g_aload_n dX6_best_30 rfl ?_
        refine f_X6_10 rfl rfl dX6_best_31 ?_
        refine g_iload_n dX6_best_34 rfl ?_
        refine cl_X6_208 (c := 46) (As := [.ref (uk_ad G 13), .int k]) rfl (c_X2_findRichest (G := G) hs hu  k (by first | trivial | decide | lia | grind) (by first | trivial | decide | lia | grind) (d)) rfl (by omega) rfl rfl (Nat.le_of_ble_eq_true rfl) dX6_best_35 (fun r4 u5 q6 => ?_)
        obtain ⟨rfl, mq6⟩ := q6
        obtain ⟨hu5, gu5⟩ := mq6
        have fu5 : fr 13 49 u u5 := fr_tr f0 gu5 (by omega) (by omega)
        refine g_iload_n dX6_best_38 rfl ?_
        refine g_if_ne (tgt := 50) dX6_best_39 (by decide) (fun c7 => ?_) (fun c7 => ?_)
        · refine g_iload_n dX6_best_50 rfl ?_
          refine g_iconst (v := 1) dX6_best_51 (by decide) ?_
          refine g_icmp_ne (tgt := 65) dX6_best_52 (by decide) (fun c8 => ?_) (fun c8 => ?_)
          · refine g_aload_n dX6_best_65 rfl ?_
            refine f_X6_55 rfl rfl dX6_best_66 ?_
            refine g_iload_n dX6_best_69 rfl ?_
            refine g_bipush (v := 10) dX6_best_70 (by decide) ?_
            refine g_isub dX6_best_72 ?_
            refine g_topi (fun x9 ex9 => ?_)
            refine cl_X6_216 (c := 46) (As := [.int x9]) rfl (c_X2_doingAt (G := G) hs hu5  x9  (d + 8)) rfl (by omega) rfl rfl (Nat.le_of_ble_eq_true rfl) dX6_best_73 (fun r10 u11 q12 => ?_)
            obtain ⟨⟨x13, rfl, tx13⟩, mq12⟩ := q12
            rw [mq12]
            exact g_iret (ty := .int) dX6_best_76 rfl rfl ⟨⟨_, rfl, by first | trivial | lia | grind⟩, hu5, fu5⟩
          · refine g_aload_n dX6_best_55 rfl ?_
            refine f_X6_55 rfl rfl dX6_best_56 ?_
            refine f_X6_215 rfl rfl dX6_best_59 ?_
            refine g_topi (fun x14 ex14 => ?_)
            have rx14 : 0 ≤ x14 ∧ x14 ≤ 4 := by rw [ex14]; exact iv_at hu5 _ _ rfl
            have s15 : u5.1 46 2 = x14 := ex14.symm
            refine g_goto (tgt := 76) dX6_best_62 (by decide) ?_
            exact g_iret (ty := .int) dX6_best_76 rfl rfl ⟨⟨_, rfl, by first | trivial | lia | grind⟩, hu5, fu5⟩
        · refine g_aload_n dX6_best_42 rfl ?_
          refine f_X6_55 rfl rfl dX6_best_43 ?_
          refine f_X6_212 rfl rfl dX6_best_46 ?_
          refine g_topi (fun x16 ex16 => ?_)
          have s17 : u5.1 46 3 = x16 := ex16.symm
          exact g_iret (ty := .int) dX6_best_49 rfl rfl ⟨⟨_, rfl, by first | trivial | lia | grind⟩, hu5, fu5⟩
      · refine g_iload_n dX6_best_13 rfl ?_
        refine g_iconst (v := 1) dX6_best_14 (by decide) ?_
        refine g_icmp_eq (tgt := 26) dX6_best_15 (by decide) (fun c18 => ?_) (fun c18 => ?_)
        · refine g_aload_n dX6_best_26 rfl ?_
          refine f_X6_55 rfl rfl dX6_best_27 ?_
          refine g_aload_n dX6_best_30 rfl ?_
          refine f_X6_10 rfl rfl dX6_best_31 ?_
          refine g_iload_n dX6_best_34 rfl ?_
          refine cl_X6_208 (c := 46) (As := [.ref (uk_ad G 13), .int k]) rfl (c_X2_findRichest (G := G) hs hu  k (by first | trivial | decide | lia | grind) (by first | trivial | decide | lia | grind) (d)) rfl (by omega) rfl rfl (Nat.le_of_ble_eq_true rfl) dX6_best_35 (fun r19 u20 q21 => ?_)
          obtain ⟨rfl, mq21⟩ := q21
          obtain ⟨hu20, gu20⟩ := mq21
          have fu20 : fr 13 49 u u20 := fr_tr f0 gu20 (by omega) (by omega)
          refine g_iload_n dX6_best_38 rfl ?_
          refine g_if_ne (tgt := 50) dX6_best_39 (by decide) (fun c22 => ?_) (fun c22 => ?_)
          · refine g_iload_n dX6_best_50 rfl ?_
            refine g_iconst (v := 1) dX6_best_51 (by decide) ?_
            refine g_icmp_ne (tgt := 65) dX6_best_52 (by decide) (fun c23 => ?_) (fun c23 => ?_)
            · refine g_aload_n dX6_best_65 rfl ?_
              refine f_X6_55 rfl rfl dX6_best_66 ?_
              refine g_iload_n dX6_best_69 rfl ?_
              refine g_bipush (v := 10) dX6_best_70 (by decide) ?_
              refine g_isub dX6_best_72 ?_
              refine g_topi (fun x24 ex24 => ?_)
              refine cl_X6_216 (c := 46) (As := [.int x24]) rfl (c_X2_doingAt (G := G) hs hu20  x24  (d + 8)) rfl (by omega) rfl rfl (Nat.le_of_ble_eq_true rfl) dX6_best_73 (fun r25 u26 q27 => ?_)
              obtain ⟨⟨x28, rfl, tx28⟩, mq27⟩ := q27
              rw [mq27]
              exact g_iret (ty := .int) dX6_best_76 rfl rfl ⟨⟨_, rfl, by first | trivial | lia | grind⟩, hu20, fu20⟩
            · refine g_aload_n dX6_best_55 rfl ?_
              refine f_X6_55 rfl rfl dX6_best_56 ?_
              refine f_X6_215 rfl rfl dX6_best_59 ?_
              refine g_topi (fun x29 ex29 => ?_)
              have rx29 : 0 ≤ x29 ∧ x29 ≤ 4 := by rw [ex29]; exact iv_at hu20 _ _ rfl
              have s30 : u20.1 46 2 = x29 := ex29.symm
              refine g_goto (tgt := 76) dX6_best_62 (by decide) ?_
              exact g_iret (ty := .int) dX6_best_76 rfl rfl ⟨⟨_, rfl, by first | trivial | lia | grind⟩, hu20, fu20⟩
          · refine g_aload_n dX6_best_42 rfl ?_
            refine f_X6_55 rfl rfl dX6_best_43 ?_
            refine f_X6_212 rfl rfl dX6_best_46 ?_
            refine g_topi (fun x31 ex31 => ?_)
            have s32 : u20.1 46 3 = x31 := ex31.symm
            exact g_iret (ty := .int) dX6_best_49 rfl rfl ⟨⟨_, rfl, by first | trivial | lia | grind⟩, hu20, fu20⟩
        · refine g_iload_n dX6_best_18 rfl ?_
          refine g_bipush (v := 10) dX6_best_19 (by decide) ?_
          refine g_icmp_ge (tgt := 26) dX6_best_21 (by decide) (fun c33 => ?_) (fun c33 => ?_)
          · refine g_aload_n dX6_best_26 rfl ?_
            refine f_X6_55 rfl rfl dX6_best_27 ?_
            refine g_aload_n dX6_best_30 rfl ?_
            refine f_X6_10 rfl rfl dX6_best_31 ?_
            refine g_iload_n dX6_best_34 rfl ?_
            refine cl_X6_208 (c := 46) (As := [.ref (uk_ad G 13), .int k]) rfl (c_X2_findRichest (G := G) hs hu  k (by first | trivial | decide | lia | grind) (by first | trivial | decide | lia | grind) (d)) rfl (by omega) rfl rfl (Nat.le_of_ble_eq_true rfl) dX6_best_35 (fun r34 u35 q36 => ?_)
            obtain ⟨rfl, mq36⟩ := q36
            obtain ⟨hu35, gu35⟩ := mq36
            have fu35 : fr 13 49 u u35 := fr_tr f0 gu35 (by omega) (by omega)
            refine g_iload_n dX6_best_38 rfl ?_
            refine g_if_ne (tgt := 50) dX6_best_39 (by decide) (fun c37 => ?_) (fun c37 => ?_)
            · refine g_iload_n dX6_best_50 rfl ?_
              refine g_iconst (v := 1) dX6_best_51 (by decide) ?_
              refine g_icmp_ne (tgt := 65) dX6_best_52 (by decide) (fun c38 => ?_) (fun c38 => ?_)
              · refine g_aload_n dX6_best_65 rfl ?_
                refine f_X6_55 rfl rfl dX6_best_66 ?_
                refine g_iload_n dX6_best_69 rfl ?_
                refine g_bipush (v := 10) dX6_best_70 (by decide) ?_
                refine g_isub dX6_best_72 ?_
                refine g_topi (fun x39 ex39 => ?_)
                refine cl_X6_216 (c := 46) (As := [.int x39]) rfl (c_X2_doingAt (G := G) hs hu35  x39  (d + 8)) rfl (by omega) rfl rfl (Nat.le_of_ble_eq_true rfl) dX6_best_73 (fun r40 u41 q42 => ?_)
                obtain ⟨⟨x43, rfl, tx43⟩, mq42⟩ := q42
                rw [mq42]
                exact g_iret (ty := .int) dX6_best_76 rfl rfl ⟨⟨_, rfl, by first | trivial | lia | grind⟩, hu35, fu35⟩
              · refine g_aload_n dX6_best_55 rfl ?_
                refine f_X6_55 rfl rfl dX6_best_56 ?_
                refine f_X6_215 rfl rfl dX6_best_59 ?_
                refine g_topi (fun x44 ex44 => ?_)
                have rx44 : 0 ≤ x44 ∧ x44 ≤ 4 := by rw [ex44]; exact iv_at hu35 _ _ rfl
                have s45 : u35.1 46 2 = x44 := ex44.symm
                refine g_goto (tgt := 76) dX6_best_62 (by decide) ?_
                exact g_iret (ty := .int) dX6_best_76 rfl rfl ⟨⟨_, rfl, by first | trivial | lia | grind⟩, hu35, fu35⟩
            · refine g_aload_n dX6_best_42 rfl ?_
              refine f_X6_55 rfl rfl dX6_best_43 ?_
              refine f_X6_212 rfl rfl dX6_best_46 ?_
              refine g_topi (fun x46 ex46 => ?_)
              have s47 : u35.1 46 3 = x46 := ex46.symm
              exact g_iret (ty := .int) dX6_best_49 rfl rfl ⟨⟨_, rfl, by first | trivial | lia | grind⟩, hu35, fu35⟩
          · refine g_iconst (v := (-1)) dX6_best_24 (by decide) ?_
            exact g_iret (ty := .int) dX6_best_25 rfl rfl ⟨⟨_, rfl, by first | trivial | lia | grind⟩, hu, f0⟩
abbrev q_X6_least (u : uk_Mem) (m : Int32) (w : Int32) (r : Option Value) (u' : uk_Mem) : Prop := (∃ x : Int32, r = some (.int x) ∧ True) ∧ (iv u' ∧ fr 13 49 u u')
set_option maxHeartbeats 4000000 in
set_option maxRecDepth 20000 in
theorem c_X6_least {G : uk_D} (hs : uk_Sep G) {u : uk_Mem} (hu : iv u) (m : Int32) (w : Int32) (d : Nat) : uk_Meth G (d + 9) mX6_least [.ref (uk_ad G 0), .int m, .int w] u (q_X6_least u m w) := by
  refine uk_Meth.of hs (by decide) (Nat.le_of_ble_eq_true rfl) (fun X => ?_)
  have f0 : fr 13 49 u u := fr_rf
  refine g_aload_n dX6_least_0 rfl ?_
  refine f_X6_10 rfl rfl dX6_least_1 ?_
  refine g_iload_n dX6_least_4 rfl ?_
  refine cl_X6_118 (c := 13) (As := [.int m]) rfl (c_X0_hasStuff (G := G) hs hu uk_isK13 m  (d + 8)) rfl (by omega) rfl rfl (Nat.le_of_ble_eq_true rfl) dX6_least_5 (fun r1 u2 q3 => ?_)
  obtain ⟨⟨x4, rfl, tx4, nx4, zx4⟩, mq3⟩ := q3
  rw [mq3]
  refine g_if_eq (tgt := 21) dX6_least_8 (by decide) (fun c5 => ?_) (fun c5 => ?_)
  · have zc5 := zx4 c5
    refine g_iconst (v := (-1)) dX6_least_21 (by decide) ?_
    exact g_iret (ty := .int) dX6_least_22 rfl rfl ⟨⟨_, rfl, by first | trivial | lia | grind⟩, hu, f0⟩
  · have zc5 := nx4 c5
    refine g_iload_n dX6_least_11 rfl ?_
    refine g_if_eq (tgt := 23) dX6_least_12 (by decide) (fun c6 => ?_) (fun c6 => ?_)
    · refine g_aload_n dX6_least_23 rfl ?_
      refine f_X6_55 rfl rfl dX6_least_24 ?_
      refine g_aload_n dX6_least_27 rfl ?_
      refine f_X6_10 rfl rfl dX6_least_28 ?_
      refine g_iload_n dX6_least_31 rfl ?_
      refine cl_X6_219 (c := 46) (As := [.ref (uk_ad G 13), .int m]) rfl (c_X2_findFewest (G := G) hs hu  m (by first | trivial | decide | lia | grind) (by first | trivial | decide | lia | grind) (d)) rfl (by omega) rfl rfl (Nat.le_of_ble_eq_true rfl) dX6_least_32 (fun r7 u8 q9 => ?_)
      obtain ⟨⟨x10, rfl, tx10, nx10, zx10⟩, mq9⟩ := q9
      obtain ⟨hu8, gu8⟩ := mq9
      have fu8 : fr 13 49 u u8 := fr_tr f0 gu8 (by omega) (by omega)
      refine g_if_ne (tgt := 41) dX6_least_35 (by decide) (fun c11 => ?_) (fun c11 => ?_)
      · have zc11 := nx10 c11
        refine g_iload_n dX6_least_41 rfl ?_
        refine g_if_ne (tgt := 55) dX6_least_42 (by decide) (fun c12 => ?_) (fun c12 => ?_)
        · refine g_aload_n dX6_least_55 rfl ?_
          refine f_X6_55 rfl rfl dX6_least_56 ?_
          refine g_iload_n dX6_least_59 rfl ?_
          refine g_bipush (v := 10) dX6_least_60 (by decide) ?_
          refine g_isub dX6_least_62 ?_
          refine g_topi (fun x13 ex13 => ?_)
          refine cl_X6_216 (c := 46) (As := [.int x13]) rfl (c_X2_doingAt (G := G) hs hu8  x13  (d + 8)) rfl (by omega) rfl rfl (Nat.le_of_ble_eq_true rfl) dX6_least_63 (fun r14 u15 q16 => ?_)
          obtain ⟨⟨x17, rfl, tx17⟩, mq16⟩ := q16
          rw [mq16]
          exact g_iret (ty := .int) dX6_least_66 rfl rfl ⟨⟨_, rfl, by first | trivial | lia | grind⟩, hu8, fu8⟩
        · refine g_aload_n dX6_least_45 rfl ?_
          refine f_X6_55 rfl rfl dX6_least_46 ?_
          refine f_X6_215 rfl rfl dX6_least_49 ?_
          refine g_topi (fun x18 ex18 => ?_)
          have rx18 : 0 ≤ x18 ∧ x18 ≤ 4 := by rw [ex18]; exact iv_at hu8 _ _ rfl
          have s19 : u8.1 46 2 = x18 := ex18.symm
          refine g_goto (tgt := 66) dX6_least_52 (by decide) ?_
          exact g_iret (ty := .int) dX6_least_66 rfl rfl ⟨⟨_, rfl, by first | trivial | lia | grind⟩, hu8, fu8⟩
      · have zc11 := zx10 c11
        refine g_bipush (v := (-4)) dX6_least_38 (by decide) ?_
        exact g_iret (ty := .int) dX6_least_40 rfl rfl ⟨⟨_, rfl, by first | trivial | lia | grind⟩, hu8, fu8⟩
    · refine g_iload_n dX6_least_15 rfl ?_
      refine g_bipush (v := 10) dX6_least_16 (by decide) ?_
      refine g_icmp_ge (tgt := 23) dX6_least_18 (by decide) (fun c20 => ?_) (fun c20 => ?_)
      · refine g_aload_n dX6_least_23 rfl ?_
        refine f_X6_55 rfl rfl dX6_least_24 ?_
        refine g_aload_n dX6_least_27 rfl ?_
        refine f_X6_10 rfl rfl dX6_least_28 ?_
        refine g_iload_n dX6_least_31 rfl ?_
        refine cl_X6_219 (c := 46) (As := [.ref (uk_ad G 13), .int m]) rfl (c_X2_findFewest (G := G) hs hu  m (by first | trivial | decide | lia | grind) (by first | trivial | decide | lia | grind) (d)) rfl (by omega) rfl rfl (Nat.le_of_ble_eq_true rfl) dX6_least_32 (fun r21 u22 q23 => ?_)
        obtain ⟨⟨x24, rfl, tx24, nx24, zx24⟩, mq23⟩ := q23
        obtain ⟨hu22, gu22⟩ := mq23
        have fu22 : fr 13 49 u u22 := fr_tr f0 gu22 (by omega) (by omega)
        refine g_if_ne (tgt := 41) dX6_least_35 (by decide) (fun c25 => ?_) (fun c25 => ?_)
        · have zc25 := nx24 c25
          refine g_iload_n dX6_least_41 rfl ?_
          refine g_if_ne (tgt := 55) dX6_least_42 (by decide) (fun c26 => ?_) (fun c26 => ?_)
          · refine g_aload_n dX6_least_55 rfl ?_
            refine f_X6_55 rfl rfl dX6_least_56 ?_
            refine g_iload_n dX6_least_59 rfl ?_
            refine g_bipush (v := 10) dX6_least_60 (by decide) ?_
            refine g_isub dX6_least_62 ?_
            refine g_topi (fun x27 ex27 => ?_)
            refine cl_X6_216 (c := 46) (As := [.int x27]) rfl (c_X2_doingAt (G := G) hs hu22  x27  (d + 8)) rfl (by omega) rfl rfl (Nat.le_of_ble_eq_true rfl) dX6_least_63 (fun r28 u29 q30 => ?_)
            obtain ⟨⟨x31, rfl, tx31⟩, mq30⟩ := q30
            rw [mq30]
            exact g_iret (ty := .int) dX6_least_66 rfl rfl ⟨⟨_, rfl, by first | trivial | lia | grind⟩, hu22, fu22⟩
          · refine g_aload_n dX6_least_45 rfl ?_
            refine f_X6_55 rfl rfl dX6_least_46 ?_
            refine f_X6_215 rfl rfl dX6_least_49 ?_
            refine g_topi (fun x32 ex32 => ?_)
            have rx32 : 0 ≤ x32 ∧ x32 ≤ 4 := by rw [ex32]; exact iv_at hu22 _ _ rfl
            have s33 : u22.1 46 2 = x32 := ex32.symm
            refine g_goto (tgt := 66) dX6_least_52 (by decide) ?_
            exact g_iret (ty := .int) dX6_least_66 rfl rfl ⟨⟨_, rfl, by first | trivial | lia | grind⟩, hu22, fu22⟩
        · have zc25 := zx24 c25
          refine g_bipush (v := (-4)) dX6_least_38 (by decide) ?_
          exact g_iret (ty := .int) dX6_least_40 rfl rfl ⟨⟨_, rfl, by first | trivial | lia | grind⟩, hu22, fu22⟩
      · refine g_iconst (v := (-1)) dX6_least_21 (by decide) ?_
        exact g_iret (ty := .int) dX6_least_22 rfl rfl ⟨⟨_, rfl, by first | trivial | lia | grind⟩, hu, f0⟩
abbrev q_X6_see (u : uk_Mem) (b : Int32) (r : Option Value) (u' : uk_Mem) : Prop := (∃ x : Int32, r = some (.int x) ∧ True) ∧ (iv u' ∧ fr 13 22 u u')
set_option maxHeartbeats 4000000 in
set_option maxRecDepth 20000 in
theorem c_X6_see {G : uk_D} (hs : uk_Sep G) {u : uk_Mem} (hu : iv u) (b : Int32) (d : Nat) : uk_Meth G (d + 1) mX6_see [.ref (uk_ad G 0), .int b] u (q_X6_see u b) := by
  refine uk_Meth.of hs (by decide) (Nat.le_of_ble_eq_true rfl) (fun X => ?_)
  have f0 : fr 13 22 u u := fr_rf
  refine g_aload_n dX6_see_0 rfl ?_
  refine f_X6_10 rfl rfl dX6_see_1 ?_
  refine g_iload_n dX6_see_4 rfl ?_
  refine cl_X6_118 (c := 13) (As := [.int b]) rfl (c_X0_hasStuff (G := G) hs hu uk_isK13 b  (d)) rfl (by omega) rfl rfl (Nat.le_of_ble_eq_true rfl) dX6_see_5 (fun r1 u2 q3 => ?_)
  obtain ⟨⟨x4, rfl, tx4, nx4, zx4⟩, mq3⟩ := q3
  rw [mq3]
  refine g_if_ne (tgt := 13) dX6_see_8 (by decide) (fun c5 => ?_) (fun c5 => ?_)
  · have zc5 := nx4 c5
    refine g_aload_n dX6_see_13 rfl ?_
    refine f_X6_10 rfl rfl dX6_see_14 ?_
    refine f_X6_223 rfl rfl dX6_see_17 ?_
    refine g_topi (fun x6 ex6 => ?_)
    have rx6 : 0 ≤ x6 ∧ x6 ≤ 8 := by rw [ex6]; exact iv_at hu _ _ rfl
    have s7 : u.1 13 9 = x6 := ex6.symm
    refine g_bipush (v := 8) dX6_see_20 (by decide) ?_
    refine g_icmp_lt (tgt := 28) dX6_see_22 (by decide) (fun c8 => ?_) (fun c8 => ?_)
    · refine g_aload_n dX6_see_28 rfl ?_
      refine f_X6_10 rfl rfl dX6_see_29 ?_
      refine f_X6_226 rfl rfl dX6_see_32 ?_
      refine g_aload_n dX6_see_35 rfl ?_
      refine f_X6_10 rfl rfl dX6_see_36 ?_
      refine f_X6_223 rfl rfl dX6_see_39 ?_
      refine g_topi (fun x9 ex9 => ?_)
      have rx9 : 0 ≤ x9 ∧ x9 ≤ 8 := by rw [ex9]; exact iv_at hu _ _ rfl
      have qx9 : x9 = x6 := by rw [ex9]; exact s7
      refine g_iload_n dX6_see_42 rfl ?_
      have v10 : vp_in x9 8 := uk_vin 8 rfl (by first | decide | lia | grind) (by first | decide | lia | grind)
      have b11 := uk_cl v10
      refine g_iast rfl rfl v10 dX6_see_43 ?_
      refine g_mem (fun u12 eu12 => ?_)
      have hu12 : iv u12 := by rw [eu12]; exact iv_up hu (uk_pick1 _ (by omega)) (by first | lia | grind) (by first | lia | grind)
      have fu12 : fr 13 22 u u12 := by rw [eu12]; exact fr_up f0 (by omega) (by omega)
      refine g_aload_n dX6_see_44 rfl ?_
      refine f_X6_10 rfl rfl dX6_see_45 ?_
      refine g_dup dX6_see_48 rfl ?_
      refine f_X6_223 rfl rfl dX6_see_49 ?_
      refine g_topi (fun x13 ex13 => ?_)
      have rx13 : 0 ≤ x13 ∧ x13 ≤ 8 := by rw [ex13]; exact iv_at hu12 _ _ rfl
      have qx13 : x13 = x6 := by rw [ex13]; simp [eu12, uk_up_at, s7]
      refine g_iconst (v := 1) dX6_see_52 (by decide) ?_
      refine g_iadd dX6_see_53 ?_
      refine g_topi (fun x14 ex14 => ?_)
      refine p_X6_223 rfl rfl dX6_see_54 ?_
      refine g_mem (fun u15 eu15 => ?_)
      have hu15 : iv u15 := by rw [eu15]; exact iv_up hu12 rfl (by first | lia | grind) (by first | lia | grind)
      have fu15 : fr 13 22 u u15 := by rw [eu15]; exact fr_up fu12 (by omega) (by omega)
      have s16 : u15.1 13 9 = x14 := by rw [eu15, uk_up_at]; exact if_pos ⟨rfl, rfl⟩
      refine g_aload_n dX6_see_57 rfl ?_
      refine f_X6_10 rfl rfl dX6_see_58 ?_
      refine f_X6_223 rfl rfl dX6_see_61 ?_
      refine g_topi (fun x17 ex17 => ?_)
      have rx17 : 0 ≤ x17 ∧ x17 ≤ 8 := by rw [ex17]; exact iv_at hu15 _ _ rfl
      have qx17 : x17 = x14 := by rw [ex17]; exact s16
      exact g_iret (ty := .int) dX6_see_64 rfl rfl ⟨⟨_, rfl, by first | trivial | lia | grind⟩, hu15, fu15⟩
    · refine g_bipush (v := (-3)) dX6_see_25 (by decide) ?_
      exact g_iret (ty := .int) dX6_see_27 rfl rfl ⟨⟨_, rfl, by first | trivial | lia | grind⟩, hu, f0⟩
  · have zc5 := zx4 c5
    refine g_iconst (v := (-1)) dX6_see_11 (by decide) ?_
    exact g_iret (ty := .int) dX6_see_12 rfl rfl ⟨⟨_, rfl, by first | trivial | lia | grind⟩, hu, f0⟩
abbrev q_X6_forget (u : uk_Mem) (n : Int32) (r : Option Value) (u' : uk_Mem) : Prop := (∃ x : Int32, r = some (.int x) ∧ True) ∧ (iv u' ∧ fr 13 22 u u')
set_option maxHeartbeats 4000000 in
set_option maxRecDepth 20000 in
theorem c_X6_forget {G : uk_D} (hs : uk_Sep G) {u : uk_Mem} (hu : iv u) (n : Int32) (d : Nat) : uk_Meth G d mX6_forget [.ref (uk_ad G 0), .int n] u (q_X6_forget u n) := by
  refine uk_Meth.of hs (by decide) (Nat.le_of_ble_eq_true rfl) (fun X => ?_)
  have f0 : fr 13 22 u u := fr_rf
  refine g_iload_n dX6_forget_0 rfl ?_
  refine g_if_lt (tgt := 15) dX6_forget_1 (by decide) (fun c1 => ?_) (fun c1 => ?_)
  · refine g_iconst (v := (-1)) dX6_forget_15 (by decide) ?_
    exact g_iret (ty := .int) dX6_forget_16 rfl rfl ⟨⟨_, rfl, by first | trivial | lia | grind⟩, hu, f0⟩
  · refine g_iload_n dX6_forget_4 rfl ?_
    refine g_aload_n dX6_forget_5 rfl ?_
    refine f_X6_10 rfl rfl dX6_forget_6 ?_
    refine f_X6_223 rfl rfl dX6_forget_9 ?_
    refine g_topi (fun x2 ex2 => ?_)
    have rx2 : 0 ≤ x2 ∧ x2 ≤ 8 := by rw [ex2]; exact iv_at hu _ _ rfl
    have s3 : u.1 13 9 = x2 := ex2.symm
    refine g_icmp_le (tgt := 17) dX6_forget_12 (by decide) (fun c4 => ?_) (fun c4 => ?_)
    · refine g_aload_n dX6_forget_17 rfl ?_
      refine f_X6_10 rfl rfl dX6_forget_18 ?_
      refine f_X6_223 rfl rfl dX6_forget_21 ?_
      refine g_topi (fun x5 ex5 => ?_)
      have rx5 : 0 ≤ x5 ∧ x5 ≤ 8 := by rw [ex5]; exact iv_at hu _ _ rfl
      have qx5 : x5 = x2 := by rw [ex5]; exact s3
      refine g_istore_n dX6_forget_24 (by decide) ?_
      refine g_aload_n dX6_forget_25 rfl ?_
      refine f_X6_10 rfl rfl dX6_forget_26 ?_
      refine g_iload_n dX6_forget_29 rfl ?_
      refine p_X6_223 rfl rfl dX6_forget_30 ?_
      refine g_mem (fun u6 eu6 => ?_)
      have hu6 : iv u6 := by rw [eu6]; exact iv_up hu rfl (by first | lia | grind) (by first | lia | grind)
      have fu6 : fr 13 22 u u6 := by rw [eu6]; exact fr_up f0 (by omega) (by omega)
      have s7 : u6.1 13 9 = n := by rw [eu6, uk_up_at]; exact if_pos ⟨rfl, rfl⟩
      refine g_iload_n dX6_forget_33 rfl ?_
      exact g_iret (ty := .int) dX6_forget_34 rfl rfl ⟨⟨_, rfl, by first | trivial | lia | grind⟩, hu6, fu6⟩
    · refine g_iconst (v := (-1)) dX6_forget_15 (by decide) ?_
      exact g_iret (ty := .int) dX6_forget_16 rfl rfl ⟨⟨_, rfl, by first | trivial | lia | grind⟩, hu, f0⟩
abbrev q_X6_fits (u : uk_Mem)  (r : Option Value) (u' : uk_Mem) : Prop := (∃ x : Int32, r = some (.int x) ∧ True) ∧ (iv u' ∧ fr 41 46 u u')
set_option maxHeartbeats 4000000 in
set_option maxRecDepth 20000 in
theorem c_X6_fits {G : uk_D} (hs : uk_Sep G) {u : uk_Mem} (hu : iv u)  (d : Nat) : uk_Meth G (d + 3) mX6_fits [.ref (uk_ad G 0)] u (q_X6_fits u) := by
  refine uk_Meth.of hs (by decide) (Nat.le_of_ble_eq_true rfl) (fun X => ?_)
  have f0 : fr 41 46 u u := fr_rf
  refine g_iconst (v := 0) dX6_fits_0 (by decide) ?_
  refine g_istore_n dX6_fits_1 (by decide) ?_
  refine g_iconst (v := 0) dX6_fits_2 (by decide) ?_
  refine g_istore_n dX6_fits_3 (by decide) ?_
  have L4_0 : ∀ i3 : Int32, 0 ≤ i3 → i3 ≤ 8 → ∀ (w2 : Int32) (u4 : uk_Mem), iv u4 → fr 41 46 u u4 → uk_G G X mX6_fits (d + 3) (q_X6_fits u) 4 [(0, .ref (uk_ad G 0)), (1, .int w2), (2, .int i3)] [] u4 := by
    refine uk_upl 8 ?_
    intro i3 ai3 bi3 ihi3 w2 u4 hu4 fu4
    refine g_iload_n dX6_fits_4 rfl ?_
    refine g_aload_n dX6_fits_5 rfl ?_
    refine f_X6_10 rfl rfl dX6_fits_6 ?_
    refine f_X6_105 rfl rfl dX6_fits_9 ?_
    refine g_topi (fun x5 ex5 => ?_)
    have rx5 : 0 ≤ x5 ∧ x5 ≤ 8 := by rw [ex5]; exact iv_at hu4 _ _ rfl
    have s6 : u4.1 13 0 = x5 := ex5.symm
    refine g_icmp_ge (tgt := 65) dX6_fits_12 (by decide) (fun c7 => ?_) (fun c7 => ?_)
    · refine g_iload_n dX6_fits_65 rfl ?_
      exact g_iret (ty := .int) dX6_fits_66 rfl rfl ⟨⟨_, rfl, by first | trivial | lia | grind⟩, hu4, fu4⟩
    · refine g_aload_n dX6_fits_15 rfl ?_
      refine f_X6_48 rfl rfl dX6_fits_16 ?_
      refine g_aload_n dX6_fits_19 rfl ?_
      refine f_X6_10 rfl rfl dX6_fits_20 ?_
      refine g_iload_n dX6_fits_23 rfl ?_
      refine g_bipush (v := 127) dX6_fits_24 (by decide) ?_
      refine cl_X6_177 (c := 41) (As := [.ref (uk_ad G 13), .int i3, .int 127]) rfl (c_X1_grind (G := G) hs hu4  i3 127 (by first | trivial | decide | lia | grind) (by first | trivial | decide | lia | grind) (d)) rfl (by omega) rfl rfl (Nat.le_of_ble_eq_true rfl) dX6_fits_26 (fun r8 u9 q10 => ?_)
      obtain ⟨rfl, mq10⟩ := q10
      obtain ⟨hu9, gu9⟩ := mq10
      have fu9 : fr 41 46 u u9 := fr_tr fu4 gu9 (by omega) (by omega)
      have s11 : u9.1 13 0 = x5 := (fr_at gu9 (by omega)).trans s6
      refine g_aload_n dX6_fits_29 rfl ?_
      refine f_X6_48 rfl rfl dX6_fits_30 ?_
      refine g_aload_n dX6_fits_33 rfl ?_
      refine f_X6_10 rfl rfl dX6_fits_34 ?_
      refine f_X6_226 rfl rfl dX6_fits_37 ?_
      refine g_aload_n dX6_fits_40 rfl ?_
      refine f_X6_10 rfl rfl dX6_fits_41 ?_
      refine f_X6_223 rfl rfl dX6_fits_44 ?_
      refine g_topi (fun x12 ex12 => ?_)
      have rx12 : 0 ≤ x12 ∧ x12 ≤ 8 := by rw [ex12]; exact iv_at hu9 _ _ rfl
      have s13 : u9.1 13 9 = x12 := ex12.symm
      refine cl_X6_229 (c := 41) (As := [.ref (uk_ad G 21), .int x12]) rfl (c_X1_beginsWith (G := G) hs hu9  x12 (by first | trivial | decide | lia | grind) (by first | trivial | decide | lia | grind) (d + 2)) rfl (by omega) rfl rfl (Nat.le_of_ble_eq_true rfl) dX6_fits_47 (fun r14 u15 q16 => ?_)
      obtain ⟨⟨x17, rfl, tx17, nx17, zx17⟩, mq16⟩ := q16
      rw [mq16]
      refine g_if_eq (tgt := 59) dX6_fits_50 (by decide) (fun c18 => ?_) (fun c18 => ?_)
      · have zc18 := zx17 c18
        refine g_iinc (v := i3 + 1) dX6_fits_59 rfl rfl (by decide) ?_
        refine g_goto (tgt := 4) dX6_fits_62 (by decide) ?_
        refine g_pick (lv' := [(0, .ref (uk_ad G 0)), (1, .int w2), (2, .int (i3 + 1))]) [0, 1, 2] rfl ?_
        exact ihi3 (by first | lia | grind) w2 u9 hu9 fu9 
      · have zc18 := nx17 c18
        refine g_iload_n dX6_fits_53 rfl ?_
        refine g_iconst (v := 1) dX6_fits_54 (by decide) ?_
        refine g_iload_n dX6_fits_55 rfl ?_
        refine g_ishl dX6_fits_56 (fun x19 ex19 => ?_)
        refine g_ior dX6_fits_57 ?_
        refine g_topi (fun x20 ex20 => ?_)
        refine g_istore_n dX6_fits_58 (by decide) ?_
        refine g_iinc (v := i3 + 1) dX6_fits_59 rfl rfl (by decide) ?_
        refine g_goto (tgt := 4) dX6_fits_62 (by decide) ?_
        refine g_pick (lv' := [(0, .ref (uk_ad G 0)), (1, .int x20), (2, .int (i3 + 1))]) [0, 1, 2] rfl ?_
        exact ihi3 (by first | lia | grind) x20 u9 hu9 fu9 
  refine g_pick (lv' := [(0, .ref (uk_ad G 0)), (1, .int 0), (2, .int 0)]) [0, 1, 2] rfl ?_
  exact L4_0 0 (by first | decide | lia | grind) (by first | decide | lia | grind) 0 u hu f0 
abbrev q_X6_pairs (u : uk_Mem) (w : Int32) (r : Option Value) (u' : uk_Mem) : Prop := (∃ x : Int32, r = some (.int x) ∧ True) ∧ (iv u' ∧ fr 41 59 u u')
set_option maxHeartbeats 4000000 in
set_option maxRecDepth 20000 in
theorem c_X6_pairs {G : uk_D} (hs : uk_Sep G) {u : uk_Mem} (hu : iv u) (w : Int32) (d : Nat) : uk_Meth G (d + 4) mX6_pairs [.ref (uk_ad G 0), .int w] u (q_X6_pairs u w) := by
  refine uk_Meth.of hs (by decide) (Nat.le_of_ble_eq_true rfl) (fun X => ?_)
  have f0 : fr 41 59 u u := fr_rf
  refine g_iload_n dX6_pairs_0 rfl ?_
  refine cl_X6_162 (As := [.int w]) rfl (c_X6_isFlag (G := G) hs hu  w  (d + 3)) rfl (by omega) rfl (Nat.le_of_ble_eq_true rfl) dX6_pairs_1 (fun r1 u2 q3 => ?_)
  obtain ⟨⟨x4, rfl, tx4, nx4, zx4⟩, mq3⟩ := q3
  rw [mq3]
  refine g_if_ne (tgt := 9) dX6_pairs_4 (by decide) (fun c5 => ?_) (fun c5 => ?_)
  · have zc5 := nx4 c5
    refine g_iconst (v := 0) dX6_pairs_9 (by decide) ?_
    refine g_istore_n dX6_pairs_10 (by decide) ?_
    refine g_bipush (v := (-4)) dX6_pairs_11 (by decide) ?_
    refine g_istore_n dX6_pairs_13 (by decide) ?_
    refine g_iconst (v := 0) dX6_pairs_14 (by decide) ?_
    refine g_istore dX6_pairs_15 (by decide) ?_
    have L17_5 : ∀ i9 : Int32, 0 ≤ i9 → i9 ≤ 8 → ∀ (w7 : Int32) (w8 : Int32) (u10 : uk_Mem), iv u10 → fr 41 59 u u10 → uk_G G X mX6_pairs (d + 4) (q_X6_pairs u w) 17 [(0, .ref (uk_ad G 0)), (1, .int w), (2, .int w7), (3, .int w8), (4, .int i9)] [] u10 := by
      refine uk_upl 8 ?_
      intro i9 ai9 bi9 ihi9 w7 w8 u10 hu10 fu10
      refine g_iload dX6_pairs_17 rfl ?_
      refine g_aload_n dX6_pairs_19 rfl ?_
      refine f_X6_10 rfl rfl dX6_pairs_20 ?_
      refine f_X6_105 rfl rfl dX6_pairs_23 ?_
      refine g_topi (fun x11 ex11 => ?_)
      have rx11 : 0 ≤ x11 ∧ x11 ≤ 8 := by rw [ex11]; exact iv_at hu10 _ _ rfl
      have s12 : u10.1 13 0 = x11 := ex11.symm
      refine g_icmp_ge (tgt := 88) dX6_pairs_26 (by decide) (fun c13 => ?_) (fun c13 => ?_)
      · refine g_iload_n dX6_pairs_88 rfl ?_
        refine g_if_ne (tgt := 96) dX6_pairs_89 (by decide) (fun c14 => ?_) (fun c14 => ?_)
        · refine g_iload_n dX6_pairs_96 rfl ?_
          exact g_iret (ty := .int) dX6_pairs_97 rfl rfl ⟨⟨_, rfl, by first | trivial | lia | grind⟩, hu10, fu10⟩
        · refine g_iload_n dX6_pairs_92 rfl ?_
          refine g_goto (tgt := 97) dX6_pairs_93 (by decide) ?_
          exact g_iret (ty := .int) dX6_pairs_97 rfl rfl ⟨⟨_, rfl, by first | trivial | lia | grind⟩, hu10, fu10⟩
      · refine g_iload dX6_pairs_29 rfl ?_
        refine g_istore dX6_pairs_31 (by decide) ?_
        have L33_14 : ∀ i18 : Int32, 0 ≤ i18 → i18 ≤ 8 → ∀ (w16 : Int32) (w17 : Int32) (u19 : uk_Mem), iv u19 → fr 41 59 u u19 → uk_G G X mX6_pairs (d + 4) (q_X6_pairs u w) 33 [(0, .ref (uk_ad G 0)), (1, .int w), (2, .int w16), (3, .int w17), (4, .int i9), (5, .int i18)] [] u19 := by
          refine uk_upl 8 ?_
          intro i18 ai18 bi18 ihi18 w16 w17 u19 hu19 fu19
          refine g_iload dX6_pairs_33 rfl ?_
          refine g_aload_n dX6_pairs_35 rfl ?_
          refine f_X6_10 rfl rfl dX6_pairs_36 ?_
          refine f_X6_105 rfl rfl dX6_pairs_39 ?_
          refine g_topi (fun x20 ex20 => ?_)
          have rx20 : 0 ≤ x20 ∧ x20 ≤ 8 := by rw [ex20]; exact iv_at hu19 _ _ rfl
          have s21 : u19.1 13 0 = x20 := ex20.symm
          refine g_icmp_ge (tgt := 82) dX6_pairs_42 (by decide) (fun c22 => ?_) (fun c22 => ?_)
          · refine g_iinc (v := i9 + 1) dX6_pairs_82 rfl rfl (by decide) ?_
            refine g_goto (tgt := 17) dX6_pairs_85 (by decide) ?_
            refine g_pick (lv' := [(0, .ref (uk_ad G 0)), (1, .int w), (2, .int w16), (3, .int w17), (4, .int (i9 + 1))]) [0, 1, 2, 3, 4] rfl ?_
            exact ihi9 (by first | lia | grind) w16 w17 u19 hu19 fu19 
          · refine g_aload_n dX6_pairs_45 rfl ?_
            refine g_iload dX6_pairs_46 rfl ?_
            refine g_iload dX6_pairs_48 rfl ?_
            refine cl_X6_233 (c := 0) (As := [.int i9, .int i18]) rfl (c_X6_fitTogether (G := G) hs hu19  i9 i18 (by first | trivial | decide | lia | grind) (by first | trivial | decide | lia | grind) (by first | trivial | decide | lia | grind) (by first | trivial | decide | lia | grind) (d)) rfl (by omega) rfl rfl (Nat.le_of_ble_eq_true rfl) dX6_pairs_50 (fun r23 u24 q25 => ?_)
            obtain ⟨⟨x26, rfl, tx26, nx26, zx26⟩, mq25⟩ := q25
            obtain ⟨hu24, gu24⟩ := mq25
            have fu24 : fr 41 59 u u24 := fr_tr fu19 gu24 (by omega) (by omega)
            have s27 : u24.1 13 0 = x20 := (fr_at gu24 (by omega)).trans s21
            refine g_if_eq (tgt := 76) dX6_pairs_53 (by decide) (fun c28 => ?_) (fun c28 => ?_)
            · have zc28 := zx26 c28
              refine g_iinc (v := i18 + 1) dX6_pairs_76 rfl rfl (by decide) ?_
              refine g_goto (tgt := 33) dX6_pairs_79 (by decide) ?_
              refine g_pick (lv' := [(0, .ref (uk_ad G 0)), (1, .int w), (2, .int w16), (3, .int w17), (4, .int i9), (5, .int (i18 + 1))]) [0, 1, 2, 3, 4, 5] rfl ?_
              exact ihi18 (by first | lia | grind) w16 w17 u24 hu24 fu24 
            · have zc28 := nx26 c28
              refine g_iload_n dX6_pairs_56 rfl ?_
              refine g_if_ne (tgt := 71) dX6_pairs_57 (by decide) (fun c29 => ?_) (fun c29 => ?_)
              · refine g_iload_n dX6_pairs_71 rfl ?_
                refine g_istore_n dX6_pairs_72 (by decide) ?_
                refine g_iinc (v := w16 + 1) dX6_pairs_73 rfl rfl (by decide) ?_
                refine g_iinc (v := i18 + 1) dX6_pairs_76 rfl rfl (by decide) ?_
                refine g_goto (tgt := 33) dX6_pairs_79 (by decide) ?_
                refine g_pick (lv' := [(0, .ref (uk_ad G 0)), (1, .int w), (2, .int (w16 + 1)), (3, .int w17), (4, .int i9), (5, .int (i18 + 1))]) [0, 1, 2, 3, 4, 5] rfl ?_
                exact ihi18 (by first | lia | grind) (w16 + 1) w17 u24 hu24 fu24 
              · refine g_bipush (v := 10) dX6_pairs_60 (by decide) ?_
                refine g_iload dX6_pairs_62 rfl ?_
                refine g_imul dX6_pairs_64 ?_
                refine g_topi (fun x30 ex30 => ?_)
                refine g_iload dX6_pairs_65 rfl ?_
                refine g_iadd dX6_pairs_67 ?_
                refine g_topi (fun x31 ex31 => ?_)
                refine g_goto (tgt := 72) dX6_pairs_68 (by decide) ?_
                refine g_istore_n dX6_pairs_72 (by decide) ?_
                refine g_iinc (v := w16 + 1) dX6_pairs_73 rfl rfl (by decide) ?_
                refine g_iinc (v := i18 + 1) dX6_pairs_76 rfl rfl (by decide) ?_
                refine g_goto (tgt := 33) dX6_pairs_79 (by decide) ?_
                refine g_pick (lv' := [(0, .ref (uk_ad G 0)), (1, .int w), (2, .int (w16 + 1)), (3, .int x31), (4, .int i9), (5, .int (i18 + 1))]) [0, 1, 2, 3, 4, 5] rfl ?_
                exact ihi18 (by first | lia | grind) (w16 + 1) x31 u24 hu24 fu24 
        refine g_pick (lv' := [(0, .ref (uk_ad G 0)), (1, .int w), (2, .int w7), (3, .int w8), (4, .int i9), (5, .int i9)]) [0, 1, 2, 3, 4, 5] rfl ?_
        exact L33_14 i9 (by first | decide | lia | grind) (by first | decide | lia | grind) w7 w8 u10 hu10 fu10 
    refine g_pick (lv' := [(0, .ref (uk_ad G 0)), (1, .int w), (2, .int 0), (3, .int (-4)), (4, .int 0)]) [0, 1, 2, 3, 4] rfl ?_
    exact L17_5 0 (by first | decide | lia | grind) (by first | decide | lia | grind) 0 (-4) u hu f0 
  · have zc5 := zx4 c5
    refine g_iconst (v := (-1)) dX6_pairs_7 (by decide) ?_
    exact g_iret (ty := .int) dX6_pairs_8 rfl rfl ⟨⟨_, rfl, by first | trivial | lia | grind⟩, hu, f0⟩
abbrev q_X6_drift (u : uk_Mem) (s : Int32) (n : Int32) (w : Int32) (r : Option Value) (u' : uk_Mem) : Prop := (∃ x : Int32, r = some (.int x) ∧ True) ∧ (iv u' ∧ fr 4 13 u u')
set_option maxHeartbeats 4000000 in
set_option maxRecDepth 20000 in
theorem c_X6_drift {G : uk_D} (hs : uk_Sep G) {u : uk_Mem} (hu : iv u) (s : Int32) (n : Int32) (w : Int32) (d : Nat) : uk_Meth G (d + 3) mX6_drift [.ref (uk_ad G 0), .int s, .int n, .int w] u (q_X6_drift u s n w) := by
  refine uk_Meth.of hs (by decide) (Nat.le_of_ble_eq_true rfl) (fun X => ?_)
  have f0 : fr 4 13 u u := fr_rf
  refine g_iload_n dX6_drift_0 rfl ?_
  refine g_iconst (v := 1) dX6_drift_1 (by decide) ?_
  refine g_icmp_lt (tgt := 18) dX6_drift_2 (by decide) (fun c1 => ?_) (fun c1 => ?_)
  · refine g_iconst (v := (-1)) dX6_drift_18 (by decide) ?_
    exact g_iret (ty := .int) dX6_drift_19 rfl rfl ⟨⟨_, rfl, by first | trivial | lia | grind⟩, hu, f0⟩
  · refine g_iload_n dX6_drift_5 rfl ?_
    refine g_bipush (v := 60) dX6_drift_6 (by decide) ?_
    refine g_icmp_gt (tgt := 18) dX6_drift_8 (by decide) (fun c2 => ?_) (fun c2 => ?_)
    · refine g_iconst (v := (-1)) dX6_drift_18 (by decide) ?_
      exact g_iret (ty := .int) dX6_drift_19 rfl rfl ⟨⟨_, rfl, by first | trivial | lia | grind⟩, hu, f0⟩
    · refine g_iload_n dX6_drift_11 rfl ?_
      refine cl_X6_162 (As := [.int w]) rfl (c_X6_isFlag (G := G) hs hu  w  (d + 2)) rfl (by omega) rfl (Nat.le_of_ble_eq_true rfl) dX6_drift_12 (fun r3 u4 q5 => ?_)
      obtain ⟨⟨x6, rfl, tx6, nx6, zx6⟩, mq5⟩ := q5
      rw [mq5]
      refine g_if_ne (tgt := 20) dX6_drift_15 (by decide) (fun c7 => ?_) (fun c7 => ?_)
      · have zc7 := nx6 c7
        refine g_aload_n dX6_drift_20 rfl ?_
        refine f_X6_10 rfl rfl dX6_drift_21 ?_
        refine f_X6_105 rfl rfl dX6_drift_24 ?_
        refine g_topi (fun x8 ex8 => ?_)
        have rx8 : 0 ≤ x8 ∧ x8 ≤ 8 := by rw [ex8]; exact iv_at hu _ _ rfl
        have s9 : u.1 13 0 = x8 := ex8.symm
        refine g_if_ne (tgt := 33) dX6_drift_27 (by decide) (fun c10 => ?_) (fun c10 => ?_)
        · refine g_aload_n dX6_drift_33 rfl ?_
          refine f_X6_16 rfl rfl dX6_drift_34 ?_
          refine g_aload_n dX6_drift_37 rfl ?_
          refine f_X6_10 rfl rfl dX6_drift_38 ?_
          refine cl_X6_101 (c := 4) (As := [.ref (uk_ad G 13)]) rfl (c_X0_copyFrom (G := G) hs hu uk_isK4 uk_isK13   (d + 2)) rfl (by omega) rfl rfl (Nat.le_of_ble_eq_true rfl) dX6_drift_41 (fun r11 u12 q13 => ?_)
          obtain ⟨rfl, mq13⟩ := q13
          obtain ⟨hu12, gu12⟩ := mq13
          have fu12 : fr 4 13 u u12 := fr_tr f0 gu12 (by omega) (by omega)
          have wu12_13_0 : u12.1 13 0 = u.1 13 0 := fr_at gu12 (by omega)
          have s14 : u12.1 13 0 = x8 := (fr_at gu12 (by omega)).trans s9
          refine g_iload_n dX6_drift_44 rfl ?_
          refine g_istore dX6_drift_45 (by decide) ?_
          refine g_iconst (v := 0) dX6_drift_47 (by decide) ?_
          refine g_istore dX6_drift_48 (by decide) ?_
          have L50_14 : ∀ i17 : Int32, 0 ≤ i17 → i17 ≤ 60 → ∀ (w16 : Int32) (u18 : uk_Mem), iv u18 → fr 4 13 u u18 → u18.1 13 0 = u.1 13 0 → uk_G G X mX6_drift (d + 3) (q_X6_drift u s n w) 50 [(0, .ref (uk_ad G 0)), (1, .int s), (2, .int n), (3, .int w), (4, .int w16), (5, .int i17)] [] u18 := by
            refine uk_upl 60 ?_
            intro i17 ai17 bi17 ihi17 w16 u18 hu18 fu18 ji170
            refine g_iload dX6_drift_50 rfl ?_
            refine g_iload_n dX6_drift_52 rfl ?_
            refine g_icmp_ge (tgt := 135) dX6_drift_53 (by decide) (fun c19 => ?_) (fun c19 => ?_)
            · refine g_iload_n dX6_drift_135 rfl ?_
              refine g_if_ne (tgt := 157) dX6_drift_136 (by decide) (fun c20 => ?_) (fun c20 => ?_)
              · refine g_aload_n dX6_drift_157 rfl ?_
                refine f_X6_16 rfl rfl dX6_drift_158 ?_
                refine cl_X6_241 (c := 4) (As := []) rfl (c_X0_things (G := G) hs hu18 uk_isK4   (d + 2)) rfl (by omega) rfl rfl (Nat.le_of_ble_eq_true rfl) dX6_drift_161 (fun r21 u22 q23 => ?_)
                obtain ⟨⟨x24, rfl, tx24⟩, mq23⟩ := q23
                rw [mq23]
                exact g_iret (ty := .int) dX6_drift_164 rfl rfl ⟨⟨_, rfl, by first | trivial | lia | grind⟩, hu18, fu18⟩
              · refine g_aload_n dX6_drift_139 rfl ?_
                refine f_X6_16 rfl rfl dX6_drift_140 ?_
                refine f_X6_109 rfl rfl dX6_drift_143 ?_
                refine g_topi (fun x25 ex25 => ?_)
                have s26 : u18.1 4 11 = x25 := ex25.symm
                refine g_aload_n dX6_drift_146 rfl ?_
                refine f_X6_10 rfl rfl dX6_drift_147 ?_
                refine f_X6_109 rfl rfl dX6_drift_150 ?_
                refine g_topi (fun x27 ex27 => ?_)
                have s28 : u18.1 13 11 = x27 := ex27.symm
                refine g_isub dX6_drift_153 ?_
                refine g_topi (fun x29 ex29 => ?_)
                refine g_goto (tgt := 164) dX6_drift_154 (by decide) ?_
                exact g_iret (ty := .int) dX6_drift_164 rfl rfl ⟨⟨_, rfl, by first | trivial | lia | grind⟩, hu18, fu18⟩
            · refine g_iload dX6_drift_56 rfl ?_
              refine g_ldc (v := 1103515245) k_X6_237 dX6_drift_58 ?_
              refine g_imul dX6_drift_60 ?_
              refine g_topi (fun x30 ex30 => ?_)
              refine g_sipush (v := 12345) dX6_drift_61 (by decide) ?_
              refine g_iadd dX6_drift_64 ?_
              refine g_topi (fun x31 ex31 => ?_)
              refine g_istore dX6_drift_65 (by decide) ?_
              refine g_iload dX6_drift_67 rfl ?_
              refine cl_X6_238 (As := [.int x31]) rfl (c_X6_drawn (G := G) hs hu18  x31  (d + 2)) rfl (by omega) rfl (Nat.le_of_ble_eq_true rfl) dX6_drift_69 (fun r32 u33 q34 => ?_)
              obtain ⟨⟨x35, rfl, tx35⟩, mq34⟩ := q34
              rw [mq34]
              refine g_aload_n dX6_drift_72 rfl ?_
              refine f_X6_10 rfl rfl dX6_drift_73 ?_
              refine f_X6_105 rfl rfl dX6_drift_76 ?_
              refine g_topi (fun x36 ex36 => ?_)
              have rx36 : 0 ≤ x36 ∧ x36 ≤ 8 := by rw [ex36]; exact iv_at hu18 _ _ rfl
              have s37 : u18.1 13 0 = x36 := ex36.symm
              refine g_irem dX6_drift_79 (by first | decide | lia | grind) ?_
              refine g_topi (fun x38 ex38 => ?_)
              refine g_istore dX6_drift_80 (by decide) ?_
              refine g_iload dX6_drift_82 rfl ?_
              refine g_ldc (v := 1103515245) k_X6_237 dX6_drift_84 ?_
              refine g_imul dX6_drift_86 ?_
              refine g_topi (fun x39 ex39 => ?_)
              refine g_sipush (v := 12345) dX6_drift_87 (by decide) ?_
              refine g_iadd dX6_drift_90 ?_
              refine g_topi (fun x40 ex40 => ?_)
              refine g_istore dX6_drift_91 (by decide) ?_
              refine g_iload dX6_drift_93 rfl ?_
              refine cl_X6_238 (As := [.int x40]) rfl (c_X6_drawn (G := G) hs hu18  x40  (d + 2)) rfl (by omega) rfl (Nat.le_of_ble_eq_true rfl) dX6_drift_95 (fun r41 u42 q43 => ?_)
              obtain ⟨⟨x44, rfl, tx44⟩, mq43⟩ := q43
              rw [mq43]
              refine g_iconst (v := 2) dX6_drift_98 (by decide) ?_
              refine g_irem dX6_drift_99 (by first | decide | lia | grind) ?_
              refine g_topi (fun x45 ex45 => ?_)
              refine g_bipush (v := 10) dX6_drift_100 (by decide) ?_
              refine g_imul dX6_drift_102 ?_
              refine g_topi (fun x46 ex46 => ?_)
              refine g_iload dX6_drift_103 rfl ?_
              refine g_iadd dX6_drift_105 ?_
              refine g_topi (fun x47 ex47 => ?_)
              refine g_istore dX6_drift_106 (by decide) ?_
              refine g_aload_n dX6_drift_108 rfl ?_
              refine f_X6_16 rfl rfl dX6_drift_109 ?_
              refine g_iload dX6_drift_112 rfl ?_
              refine cl_X6_152 (c := 4) (As := [.int x47]) rfl (c_X0_isAble (G := G) hs hu18 uk_isK4 x47  (d)) rfl (by omega) rfl rfl (Nat.le_of_ble_eq_true rfl) dX6_drift_114 (fun r48 u49 q50 => ?_)
              obtain ⟨⟨x51, rfl, tx51, nx51, zx51⟩, mq50⟩ := q50
              rw [mq50]
              refine g_if_eq (tgt := 129) dX6_drift_117 (by decide) (fun c52 => ?_) (fun c52 => ?_)
              · have zc52 := zx51 c52
                refine g_iinc (v := i17 + 1) dX6_drift_129 rfl rfl (by decide) ?_
                refine g_goto (tgt := 50) dX6_drift_132 (by decide) ?_
                refine g_pick (lv' := [(0, .ref (uk_ad G 0)), (1, .int s), (2, .int n), (3, .int w), (4, .int x40), (5, .int (i17 + 1))]) [0, 1, 2, 3, 4, 5] rfl ?_
                exact ihi17 (by first | lia | grind) x40 u18 hu18 fu18 (by first | trivial | lia | grind | grind [uk_up_at] | (simp [uk_up_at, s37, ji170]; done) | (simp [uk_up_at]; grind))
              · have zc52 := nx51 c52
                refine g_aload_n dX6_drift_120 rfl ?_
                refine f_X6_16 rfl rfl dX6_drift_121 ?_
                refine g_iload dX6_drift_124 rfl ?_
                refine cl_X6_155 (c := 4) (As := [.int x47]) rfl (c_X0_perform (G := G) hs hu18 uk_isK4 x47 (by first | trivial | decide | lia | grind) (d)) rfl (by omega) rfl rfl (Nat.le_of_ble_eq_true rfl) dX6_drift_126 (fun r53 u54 q55 => ?_)
                obtain ⟨rfl, mq55⟩ := q55
                obtain ⟨hu54, gu54⟩ := mq55
                have fu54 : fr 4 13 u u54 := fr_tr fu18 gu54 (by omega) (by omega)
                have wu54_13_0 : u54.1 13 0 = u18.1 13 0 := fr_at gu54 (by omega)
                have s56 : u54.1 13 0 = x36 := (fr_at gu54 (by omega)).trans s37
                refine g_iinc (v := i17 + 1) dX6_drift_129 rfl rfl (by decide) ?_
                refine g_goto (tgt := 50) dX6_drift_132 (by decide) ?_
                refine g_pick (lv' := [(0, .ref (uk_ad G 0)), (1, .int s), (2, .int n), (3, .int w), (4, .int x40), (5, .int (i17 + 1))]) [0, 1, 2, 3, 4, 5] rfl ?_
                exact ihi17 (by first | lia | grind) x40 u54 hu54 fu54 (by first | trivial | lia | grind | grind [uk_up_at] | (simp [uk_up_at, s56, ji170]; done) | (simp [uk_up_at]; grind))
          refine g_pick (lv' := [(0, .ref (uk_ad G 0)), (1, .int s), (2, .int n), (3, .int w), (4, .int s), (5, .int 0)]) [0, 1, 2, 3, 4, 5] rfl ?_
          exact L50_14 0 (by first | decide | lia | grind) (by first | decide | lia | grind) s u12 hu12 fu12 (by first | trivial | lia | grind | grind [uk_up_at] | (simp [uk_up_at, s14]; done) | (simp [uk_up_at]; grind))
        · refine g_bipush (v := (-2)) dX6_drift_30 (by decide) ?_
          exact g_iret (ty := .int) dX6_drift_32 rfl rfl ⟨⟨_, rfl, by first | trivial | lia | grind⟩, hu, f0⟩
      · have zc7 := zx6 c7
        refine g_iconst (v := (-1)) dX6_drift_18 (by decide) ?_
        exact g_iret (ty := .int) dX6_drift_19 rfl rfl ⟨⟨_, rfl, by first | trivial | lia | grind⟩, hu, f0⟩
abbrev q_X6_keep (u : uk_Mem) (k : Int32) (r : Option Value) (u' : uk_Mem) : Prop := (∃ x : Int32, r = some (.int x) ∧ True) ∧ (iv u' ∧ fr 22 41 u u')
set_option maxHeartbeats 4000000 in
set_option maxRecDepth 20000 in
theorem c_X6_keep {G : uk_D} (hs : uk_Sep G) {u : uk_Mem} (hu : iv u) (k : Int32) (d : Nat) : uk_Meth G (d + 1) mX6_keep [.ref (uk_ad G 0), .int k] u (q_X6_keep u k) := by
  refine uk_Meth.of hs (by decide) (Nat.le_of_ble_eq_true rfl) (fun X => ?_)
  have f0 : fr 22 41 u u := fr_rf
  refine g_iload_n dX6_keep_0 rfl ?_
  refine cl_X6_244 (As := [.int k]) rfl (c_X6_isImage (G := G) hs hu  k  (d)) rfl (by omega) rfl (Nat.le_of_ble_eq_true rfl) dX6_keep_1 (fun r1 u2 q3 => ?_)
  obtain ⟨⟨x4, rfl, tx4, nx4, zx4⟩, mq3⟩ := q3
  rw [mq3]
  refine g_if_ne (tgt := 9) dX6_keep_4 (by decide) (fun c5 => ?_) (fun c5 => ?_)
  · have zc5 := nx4 c5
    refine g_aload_n dX6_keep_9 rfl ?_
    refine f_X6_41 rfl rfl dX6_keep_10 ?_
    refine g_iload_n dX6_keep_13 rfl ?_
    have v6 : vp_in k 2 := uk_vin 2 rfl (by first | decide | lia | grind) (by first | decide | lia | grind)
    refine g_zald rfl rfl v6 dX6_keep_14 ?_
    refine g_topi (fun x7 ex7 => ?_)
    have bx7 := uk_cl v6
    have rx7 : 0 ≤ x7 ∧ x7 ≤ 1 := by rw [ex7]; exact iv_at hu _ _ (uk_pick1 _ (by omega))
    refine g_if_eq (tgt := 22) dX6_keep_15 (by decide) (fun c8 => ?_) (fun c8 => ?_)
    · refine g_iconst (v := 0) dX6_keep_22 (by decide) ?_
      refine g_istore_n dX6_keep_23 (by decide) ?_
      refine g_aload_n dX6_keep_24 rfl ?_
      refine g_iload_n dX6_keep_25 rfl ?_
      refine cl_X6_247 (c := 0) (As := [.int k]) rfl (c_X6_imageOf (G := G) hs hu  k  (d)) rfl (by omega) rfl rfl (Nat.le_of_ble_eq_true rfl) dX6_keep_26 (fun r9 u10 q11 => ?_)
      obtain ⟨⟨x12, rfl, tx12⟩, mq11⟩ := q11
      have hx12 : uk_isK x12 := by rcases tx12 with q | q <;> (rw [q]; unfold uk_isK; decide)
      rw [mq11]
      refine g_aload_n dX6_keep_29 rfl ?_
      refine f_X6_10 rfl rfl dX6_keep_30 ?_
      refine cl_X6_101 (c := x12) (As := [.ref (uk_ad G 13)]) rfl (c_X0_copyFrom (G := G) hs hu hx12 uk_isK13   (d)) rfl (by omega) (kk_0 hx12) rfl (Nat.le_of_ble_eq_true rfl) dX6_keep_33 (fun r13 u14 q15 => ?_)
      obtain ⟨rfl, mq15⟩ := q15
      obtain ⟨hu14, gu14⟩ := mq15
      have fu14 : fr 22 41 u u14 := fr_tr f0 gu14 (by omega) (by omega)
      refine g_aload_n dX6_keep_36 rfl ?_
      refine f_X6_41 rfl rfl dX6_keep_37 ?_
      refine g_iload_n dX6_keep_40 rfl ?_
      refine g_iconst (v := 1) dX6_keep_41 (by decide) ?_
      have v16 : vp_in k 2 := uk_vin 2 rfl (by first | decide | lia | grind) (by first | decide | lia | grind)
      have b17 := uk_cl v16
      refine g_zast rfl rfl v16 dX6_keep_42 ?_
      rw [show vp_nar .boolean 1 = 1 from rfl]
      refine g_mem (fun u18 eu18 => ?_)
      have hu18 : iv u18 := by rw [eu18]; exact iv_up hu14 (uk_pick1 _ (by omega)) (by first | lia | grind) (by first | lia | grind)
      have fu18 : fr 22 41 u u18 := by rw [eu18]; exact fr_up fu14 (by omega) (by omega)
      refine g_iload_n dX6_keep_43 rfl ?_
      exact g_iret (ty := .int) dX6_keep_44 rfl rfl ⟨⟨_, rfl, by first | trivial | lia | grind⟩, hu18, fu18⟩
    · refine g_iconst (v := 1) dX6_keep_18 (by decide) ?_
      refine g_goto (tgt := 23) dX6_keep_19 (by decide) ?_
      refine g_istore_n dX6_keep_23 (by decide) ?_
      refine g_aload_n dX6_keep_24 rfl ?_
      refine g_iload_n dX6_keep_25 rfl ?_
      refine cl_X6_247 (c := 0) (As := [.int k]) rfl (c_X6_imageOf (G := G) hs hu  k  (d)) rfl (by omega) rfl rfl (Nat.le_of_ble_eq_true rfl) dX6_keep_26 (fun r19 u20 q21 => ?_)
      obtain ⟨⟨x22, rfl, tx22⟩, mq21⟩ := q21
      have hx22 : uk_isK x22 := by rcases tx22 with q | q <;> (rw [q]; unfold uk_isK; decide)
      rw [mq21]
      refine g_aload_n dX6_keep_29 rfl ?_
      refine f_X6_10 rfl rfl dX6_keep_30 ?_
      refine cl_X6_101 (c := x22) (As := [.ref (uk_ad G 13)]) rfl (c_X0_copyFrom (G := G) hs hu hx22 uk_isK13   (d)) rfl (by omega) (kk_0 hx22) rfl (Nat.le_of_ble_eq_true rfl) dX6_keep_33 (fun r23 u24 q25 => ?_)
      obtain ⟨rfl, mq25⟩ := q25
      obtain ⟨hu24, gu24⟩ := mq25
      have fu24 : fr 22 41 u u24 := fr_tr f0 gu24 (by omega) (by omega)
      refine g_aload_n dX6_keep_36 rfl ?_
      refine f_X6_41 rfl rfl dX6_keep_37 ?_
      refine g_iload_n dX6_keep_40 rfl ?_
      refine g_iconst (v := 1) dX6_keep_41 (by decide) ?_
      have v26 : vp_in k 2 := uk_vin 2 rfl (by first | decide | lia | grind) (by first | decide | lia | grind)
      have b27 := uk_cl v26
      refine g_zast rfl rfl v26 dX6_keep_42 ?_
      rw [show vp_nar .boolean 1 = 1 from rfl]
      refine g_mem (fun u28 eu28 => ?_)
      have hu28 : iv u28 := by rw [eu28]; exact iv_up hu24 (uk_pick1 _ (by omega)) (by first | lia | grind) (by first | lia | grind)
      have fu28 : fr 22 41 u u28 := by rw [eu28]; exact fr_up fu24 (by omega) (by omega)
      refine g_iload_n dX6_keep_43 rfl ?_
      exact g_iret (ty := .int) dX6_keep_44 rfl rfl ⟨⟨_, rfl, by first | trivial | lia | grind⟩, hu28, fu28⟩
  · have zc5 := zx4 c5
    refine g_iconst (v := (-1)) dX6_keep_7 (by decide) ?_
    exact g_iret (ty := .int) dX6_keep_8 rfl rfl ⟨⟨_, rfl, by first | trivial | lia | grind⟩, hu, f0⟩
abbrev q_X6_back (u : uk_Mem) (k : Int32) (r : Option Value) (u' : uk_Mem) : Prop := (∃ x : Int32, r = some (.int x) ∧ True) ∧ (iv u' ∧ fr 13 22 u u')
set_option maxHeartbeats 4000000 in
set_option maxRecDepth 20000 in
theorem c_X6_back {G : uk_D} (hs : uk_Sep G) {u : uk_Mem} (hu : iv u) (k : Int32) (d : Nat) : uk_Meth G (d + 1) mX6_back [.ref (uk_ad G 0), .int k] u (q_X6_back u k) := by
  refine uk_Meth.of hs (by decide) (Nat.le_of_ble_eq_true rfl) (fun X => ?_)
  have f0 : fr 13 22 u u := fr_rf
  refine g_iload_n dX6_back_0 rfl ?_
  refine cl_X6_244 (As := [.int k]) rfl (c_X6_isImage (G := G) hs hu  k  (d)) rfl (by omega) rfl (Nat.le_of_ble_eq_true rfl) dX6_back_1 (fun r1 u2 q3 => ?_)
  obtain ⟨⟨x4, rfl, tx4, nx4, zx4⟩, mq3⟩ := q3
  rw [mq3]
  refine g_if_ne (tgt := 9) dX6_back_4 (by decide) (fun c5 => ?_) (fun c5 => ?_)
  · have zc5 := nx4 c5
    refine g_aload_n dX6_back_9 rfl ?_
    refine f_X6_41 rfl rfl dX6_back_10 ?_
    refine g_iload_n dX6_back_13 rfl ?_
    have v6 : vp_in k 2 := uk_vin 2 rfl (by first | decide | lia | grind) (by first | decide | lia | grind)
    refine g_zald rfl rfl v6 dX6_back_14 ?_
    refine g_topi (fun x7 ex7 => ?_)
    have bx7 := uk_cl v6
    have rx7 : 0 ≤ x7 ∧ x7 ≤ 1 := by rw [ex7]; exact iv_at hu _ _ (uk_pick1 _ (by omega))
    refine g_if_ne (tgt := 21) dX6_back_15 (by decide) (fun c8 => ?_) (fun c8 => ?_)
    · refine g_aload_n dX6_back_21 rfl ?_
      refine f_X6_10 rfl rfl dX6_back_22 ?_
      refine g_aload_n dX6_back_25 rfl ?_
      refine g_iload_n dX6_back_26 rfl ?_
      refine cl_X6_247 (c := 0) (As := [.int k]) rfl (c_X6_imageOf (G := G) hs hu  k  (d)) rfl (by omega) rfl rfl (Nat.le_of_ble_eq_true rfl) dX6_back_27 (fun r9 u10 q11 => ?_)
      obtain ⟨⟨x12, rfl, tx12⟩, mq11⟩ := q11
      have hx12 : uk_isK x12 := by rcases tx12 with q | q <;> (rw [q]; unfold uk_isK; decide)
      rw [mq11]
      refine cl_X6_101 (c := 13) (As := [.ref (uk_ad G x12)]) rfl (c_X0_copyFrom (G := G) hs hu uk_isK13 hx12   (d)) rfl (by omega) rfl rfl (Nat.le_of_ble_eq_true rfl) dX6_back_30 (fun r13 u14 q15 => ?_)
      obtain ⟨rfl, mq15⟩ := q15
      obtain ⟨hu14, gu14⟩ := mq15
      have fu14 : fr 13 22 u u14 := fr_tr f0 gu14 (by omega) (by omega)
      refine g_aload_n dX6_back_33 rfl ?_
      refine f_X6_10 rfl rfl dX6_back_34 ?_
      refine f_X6_106 rfl rfl dX6_back_37 ?_
      refine g_topi (fun x16 ex16 => ?_)
      have s17 : u14.1 13 10 = x16 := ex16.symm
      exact g_iret (ty := .int) dX6_back_40 rfl rfl ⟨⟨_, rfl, by first | trivial | lia | grind⟩, hu14, fu14⟩
    · refine g_bipush (v := (-2)) dX6_back_18 (by decide) ?_
      exact g_iret (ty := .int) dX6_back_20 rfl rfl ⟨⟨_, rfl, by first | trivial | lia | grind⟩, hu, f0⟩
  · have zc5 := zx4 c5
    refine g_iconst (v := (-1)) dX6_back_7 (by decide) ?_
    exact g_iret (ty := .int) dX6_back_8 rfl rfl ⟨⟨_, rfl, by first | trivial | lia | grind⟩, hu, f0⟩
abbrev q_X6_sheet (u : uk_Mem) (k : Int32) (l : Int32) (n : Int32) (r : Option Value) (u' : uk_Mem) : Prop := (∃ x : Int32, r = some (.int x) ∧ True) ∧ (iv u' ∧ fr 49 57 u u')
set_option maxHeartbeats 4000000 in
set_option maxRecDepth 20000 in
theorem c_X6_sheet {G : uk_D} (hs : uk_Sep G) {u : uk_Mem} (hu : iv u) (k : Int32) (l : Int32) (n : Int32) (d : Nat) : uk_Meth G (d + 1) mX6_sheet [.ref (uk_ad G 0), .int k, .int l, .int n] u (q_X6_sheet u k l n) := by
  refine uk_Meth.of hs (by decide) (Nat.le_of_ble_eq_true rfl) (fun X => ?_)
  have f0 : fr 49 57 u u := fr_rf
  refine g_iload_n dX6_sheet_0 rfl ?_
  refine cl_X6_251 (As := [.int k]) rfl (c_X6_isSheet (G := G) hs hu  k  (d)) rfl (by omega) rfl (Nat.le_of_ble_eq_true rfl) dX6_sheet_1 (fun r1 u2 q3 => ?_)
  obtain ⟨⟨x4, rfl, tx4, nx4, zx4⟩, mq3⟩ := q3
  rw [mq3]
  refine g_if_eq (tgt := 20) dX6_sheet_4 (by decide) (fun c5 => ?_) (fun c5 => ?_)
  · have zc5 := zx4 c5
    refine g_iconst (v := (-1)) dX6_sheet_20 (by decide) ?_
    exact g_iret (ty := .int) dX6_sheet_21 rfl rfl ⟨⟨_, rfl, by first | trivial | lia | grind⟩, hu, f0⟩
  · have zc5 := nx4 c5
    refine g_iload_n dX6_sheet_7 rfl ?_
    refine cl_X6_254 (As := [.int l]) rfl (c_X6_isLane (G := G) hs hu  l  (d)) rfl (by omega) rfl (Nat.le_of_ble_eq_true rfl) dX6_sheet_8 (fun r6 u7 q8 => ?_)
    obtain ⟨⟨x9, rfl, tx9, nx9, zx9⟩, mq8⟩ := q8
    rw [mq8]
    refine g_if_eq (tgt := 20) dX6_sheet_11 (by decide) (fun c10 => ?_) (fun c10 => ?_)
    · have zc10 := zx9 c10
      refine g_iconst (v := (-1)) dX6_sheet_20 (by decide) ?_
      exact g_iret (ty := .int) dX6_sheet_21 rfl rfl ⟨⟨_, rfl, by first | trivial | lia | grind⟩, hu, f0⟩
    · have zc10 := nx9 c10
      refine g_iload_n dX6_sheet_14 rfl ?_
      refine g_bipush (v := 40) dX6_sheet_15 (by decide) ?_
      refine g_icmp_le (tgt := 22) dX6_sheet_17 (by decide) (fun c11 => ?_) (fun c11 => ?_)
      · refine g_iload_n dX6_sheet_22 rfl ?_
        refine g_if_ge (tgt := 29) dX6_sheet_23 (by decide) (fun c12 => ?_) (fun c12 => ?_)
        · refine g_aload_n dX6_sheet_29 rfl ?_
          refine f_X6_62 rfl rfl dX6_sheet_30 ?_
          refine g_iload_n dX6_sheet_33 rfl ?_
          refine g_iload_n dX6_sheet_34 rfl ?_
          refine g_iload_n dX6_sheet_35 rfl ?_
          refine cl_X6_257 (c := 49) (As := [.int k, .int l, .int n]) rfl (c_X3_renew (G := G) hs hu  k l n (by first | trivial | decide | lia | grind) (by first | trivial | decide | lia | grind) (by first | trivial | decide | lia | grind) (by first | trivial | decide | lia | grind) (d)) rfl (by omega) rfl rfl (Nat.le_of_ble_eq_true rfl) dX6_sheet_36 (fun r13 u14 q15 => ?_)
          obtain ⟨rfl, mq15⟩ := q15
          obtain ⟨hu14, gu14⟩ := mq15
          have fu14 : fr 49 57 u u14 := fr_tr f0 gu14 (by omega) (by omega)
          refine g_iconst (v := 1) dX6_sheet_39 (by decide) ?_
          exact g_iret (ty := .int) dX6_sheet_40 rfl rfl ⟨⟨_, rfl, by first | trivial | lia | grind⟩, hu14, fu14⟩
        · refine g_bipush (v := (-14)) dX6_sheet_26 (by decide) ?_
          exact g_iret (ty := .int) dX6_sheet_28 rfl rfl ⟨⟨_, rfl, by first | trivial | lia | grind⟩, hu, f0⟩
      · refine g_iconst (v := (-1)) dX6_sheet_20 (by decide) ?_
        exact g_iret (ty := .int) dX6_sheet_21 rfl rfl ⟨⟨_, rfl, by first | trivial | lia | grind⟩, hu, f0⟩
abbrev q_X6_lay (u : uk_Mem) (k : Int32) (i : Int32) (v : Int32) (r : Option Value) (u' : uk_Mem) : Prop := (∃ x : Int32, r = some (.int x) ∧ True) ∧ (iv u' ∧ fr 49 57 u u')
set_option maxHeartbeats 4000000 in
set_option maxRecDepth 20000 in
theorem c_X6_lay {G : uk_D} (hs : uk_Sep G) {u : uk_Mem} (hu : iv u) (k : Int32) (i : Int32) (v : Int32) (d : Nat) : uk_Meth G (d + 2) mX6_lay [.ref (uk_ad G 0), .int k, .int i, .int v] u (q_X6_lay u k i v) := by
  refine uk_Meth.of hs (by decide) (Nat.le_of_ble_eq_true rfl) (fun X => ?_)
  have f0 : fr 49 57 u u := fr_rf
  refine g_iload_n dX6_lay_0 rfl ?_
  refine cl_X6_251 (As := [.int k]) rfl (c_X6_isSheet (G := G) hs hu  k  (d + 1)) rfl (by omega) rfl (Nat.le_of_ble_eq_true rfl) dX6_lay_1 (fun r1 u2 q3 => ?_)
  obtain ⟨⟨x4, rfl, tx4, nx4, zx4⟩, mq3⟩ := q3
  rw [mq3]
  refine g_if_ne (tgt := 9) dX6_lay_4 (by decide) (fun c5 => ?_) (fun c5 => ?_)
  · have zc5 := nx4 c5
    refine g_aload_n dX6_lay_9 rfl ?_
    refine f_X6_62 rfl rfl dX6_lay_10 ?_
    refine g_iload_n dX6_lay_13 rfl ?_
    refine g_iload_n dX6_lay_14 rfl ?_
    refine cl_X6_261 (c := 49) (As := [.int k, .int i]) rfl (c_X3_faultAt (G := G) hs hu  k i (by first | trivial | decide | lia | grind) (by first | trivial | decide | lia | grind) (d)) rfl (by omega) rfl rfl (Nat.le_of_ble_eq_true rfl) dX6_lay_15 (fun r6 u7 q8 => ?_)
    obtain ⟨⟨x9, rfl, tx9⟩, mq8⟩ := q8
    rw [mq8]
    refine g_istore dX6_lay_18 (by decide) ?_
    refine g_iload dX6_lay_20 rfl ?_
    refine g_if_eq (tgt := 31) dX6_lay_22 (by decide) (fun c10 => ?_) (fun c10 => ?_)
    · refine g_aload_n dX6_lay_31 rfl ?_
      refine f_X6_62 rfl rfl dX6_lay_32 ?_
      refine g_iload_n dX6_lay_35 rfl ?_
      refine g_iload_n dX6_lay_36 rfl ?_
      refine g_iload_n dX6_lay_37 rfl ?_
      refine cl_X6_265 (c := 49) (As := [.int k, .int i, .int v]) rfl (c_X3_put (G := G) hs hu  k i v (by first | trivial | decide | lia | grind) (by first | trivial | decide | lia | grind) (by first | trivial | decide | lia | grind) (by first | trivial | decide | lia | grind) (d + 1)) rfl (by omega) rfl rfl (Nat.le_of_ble_eq_true rfl) dX6_lay_38 (fun r11 u12 q13 => ?_)
      obtain ⟨rfl, mq13⟩ := q13
      obtain ⟨hu12, gu12⟩ := mq13
      have fu12 : fr 49 57 u u12 := fr_tr f0 gu12 (by omega) (by omega)
      refine g_iconst (v := 1) dX6_lay_41 (by decide) ?_
      exact g_iret (ty := .int) dX6_lay_42 rfl rfl ⟨⟨_, rfl, by first | trivial | lia | grind⟩, hu12, fu12⟩
    · refine g_bipush (v := (-10)) dX6_lay_25 (by decide) ?_
      refine g_iload dX6_lay_27 rfl ?_
      refine g_isub dX6_lay_29 ?_
      refine g_topi (fun x14 ex14 => ?_)
      exact g_iret (ty := .int) dX6_lay_30 rfl rfl ⟨⟨_, rfl, by first | trivial | lia | grind⟩, hu, f0⟩
  · have zc5 := zx4 c5
    refine g_iconst (v := (-1)) dX6_lay_7 (by decide) ?_
    exact g_iret (ty := .int) dX6_lay_8 rfl rfl ⟨⟨_, rfl, by first | trivial | lia | grind⟩, hu, f0⟩
abbrev q_X6_read (u : uk_Mem) (k : Int32) (l : Int32) (f : Int32) (n : Int32) (r : Option Value) (u' : uk_Mem) : Prop := (∃ x : Int32, r = some (.int x) ∧ True) ∧ (iv u' ∧ fr 0 22 u u' ∧ u'.1 2 1 = u.1 2 1)
set_option maxHeartbeats 4000000 in
set_option maxRecDepth 20000 in
theorem c_X6_read {G : uk_D} (hs : uk_Sep G) {u : uk_Mem} (hu : iv u) (k : Int32) (l : Int32) (f : Int32) (n : Int32) (d : Nat) : uk_Meth G (d + 4) mX6_read [.ref (uk_ad G 0), .int k, .int l, .int f, .int n] u (q_X6_read u k l f n) := by
  refine uk_Meth.of hs (by decide) (Nat.le_of_ble_eq_true rfl) (fun X => ?_)
  have f0 : fr 0 22 u u := fr_rf
  refine g_iload_n dX6_read_0 rfl ?_
  refine cl_X6_251 (As := [.int k]) rfl (c_X6_isSheet (G := G) hs hu  k  (d + 3)) rfl (by omega) rfl (Nat.le_of_ble_eq_true rfl) dX6_read_1 (fun r1 u2 q3 => ?_)
  obtain ⟨⟨x4, rfl, tx4, nx4, zx4⟩, mq3⟩ := q3
  rw [mq3]
  refine g_if_eq (tgt := 26) dX6_read_4 (by decide) (fun c5 => ?_) (fun c5 => ?_)
  · have zc5 := zx4 c5
    refine g_iconst (v := (-1)) dX6_read_26 (by decide) ?_
    exact g_iret (ty := .int) dX6_read_27 rfl rfl ⟨⟨_, rfl, by first | trivial | lia | grind⟩, hu, f0, (by first | rfl | grind | grind [uk_up_at])⟩
  · have zc5 := nx4 c5
    refine g_iload_n dX6_read_7 rfl ?_
    refine cl_X6_254 (As := [.int l]) rfl (c_X6_isLane (G := G) hs hu  l  (d + 3)) rfl (by omega) rfl (Nat.le_of_ble_eq_true rfl) dX6_read_8 (fun r6 u7 q8 => ?_)
    obtain ⟨⟨x9, rfl, tx9, nx9, zx9⟩, mq8⟩ := q8
    rw [mq8]
    refine g_if_eq (tgt := 26) dX6_read_11 (by decide) (fun c10 => ?_) (fun c10 => ?_)
    · have zc10 := zx9 c10
      refine g_iconst (v := (-1)) dX6_read_26 (by decide) ?_
      exact g_iret (ty := .int) dX6_read_27 rfl rfl ⟨⟨_, rfl, by first | trivial | lia | grind⟩, hu, f0, (by first | rfl | grind | grind [uk_up_at])⟩
    · have zc10 := nx9 c10
      refine g_iload dX6_read_14 rfl ?_
      refine g_if_lt (tgt := 26) dX6_read_16 (by decide) (fun c11 => ?_) (fun c11 => ?_)
      · refine g_iconst (v := (-1)) dX6_read_26 (by decide) ?_
        exact g_iret (ty := .int) dX6_read_27 rfl rfl ⟨⟨_, rfl, by first | trivial | lia | grind⟩, hu, f0, (by first | rfl | grind | grind [uk_up_at])⟩
      · refine g_iload dX6_read_19 rfl ?_
        refine g_bipush (v := 20) dX6_read_21 (by decide) ?_
        refine g_icmp_le (tgt := 28) dX6_read_23 (by decide) (fun c12 => ?_) (fun c12 => ?_)
        · refine g_aload_n dX6_read_28 rfl ?_
          refine f_X6_16 rfl rfl dX6_read_29 ?_
          refine g_aload_n dX6_read_32 rfl ?_
          refine f_X6_10 rfl rfl dX6_read_33 ?_
          refine cl_X6_101 (c := 4) (As := [.ref (uk_ad G 13)]) rfl (c_X0_copyFrom (G := G) hs hu uk_isK4 uk_isK13   (d + 3)) rfl (by omega) rfl rfl (Nat.le_of_ble_eq_true rfl) dX6_read_36 (fun r13 u14 q15 => ?_)
          obtain ⟨rfl, mq15⟩ := q15
          obtain ⟨hu14, gu14⟩ := mq15
          have fu14 : fr 0 22 u u14 := fr_tr f0 gu14 (by omega) (by omega)
          have wu14_2_1 : u14.1 2 1 = u.1 2 1 := fr_at gu14 (by omega)
          refine g_iconst (v := 0) dX6_read_39 (by decide) ?_
          refine g_istore dX6_read_40 (by decide) ?_
          have L42_15 : ∀ i17 : Int32, 0 ≤ i17 → i17 ≤ 20 → ∀ (u18 : uk_Mem), iv u18 → fr 0 22 u u18 → u18.1 2 1 = u.1 2 1 → uk_G G X mX6_read (d + 4) (q_X6_read u k l f n) 42 [(0, .ref (uk_ad G 0)), (1, .int k), (2, .int l), (3, .int f), (4, .int n), (5, .int i17)] [] u18 := by
            refine uk_upl 20 ?_
            intro i17 ai17 bi17 ihi17  u18 hu18 fu18 ji170
            refine g_iload dX6_read_42 rfl ?_
            refine g_iload dX6_read_44 rfl ?_
            refine g_icmp_ge (tgt := 122) dX6_read_46 (by decide) (fun c19 => ?_) (fun c19 => ?_)
            · refine g_aload_n dX6_read_122 rfl ?_
              refine g_iconst (v := 0) dX6_read_123 (by decide) ?_
              refine p_X6_81 rfl rfl dX6_read_124 ?_
              refine g_mem (fun u20 eu20 => ?_)
              have hu20 : iv u20 := by rw [eu20]; exact iv_upF hu18 rfl
              have fu20 : fr 0 22 u u20 := by rw [eu20]; exact fr_up fu18 (by omega) (by omega)
              have s21 : u20.1 0 14 = 0 := by rw [eu20, uk_up_at]; exact if_pos ⟨rfl, rfl⟩
              refine g_iload dX6_read_127 rfl ?_
              exact g_iret (ty := .int) dX6_read_129 rfl rfl ⟨⟨_, rfl, by first | trivial | lia | grind⟩, hu20, fu20, (by first | rfl | grind | grind [uk_up_at])⟩
            · refine g_aload_n dX6_read_49 rfl ?_
              refine f_X6_62 rfl rfl dX6_read_50 ?_
              refine g_iload_n dX6_read_53 rfl ?_
              refine g_iload_n dX6_read_54 rfl ?_
              refine g_iload_n dX6_read_55 rfl ?_
              refine g_iload dX6_read_56 rfl ?_
              refine g_iadd dX6_read_58 ?_
              refine g_topi (fun x22 ex22 => ?_)
              refine cl_X6_268 (c := 49) (As := [.int k, .int l, .int x22]) rfl (c_X3_faultAs (G := G) hs hu18  k l x22 (by first | trivial | decide | lia | grind) (by first | trivial | decide | lia | grind) (d + 1)) rfl (by omega) rfl rfl (Nat.le_of_ble_eq_true rfl) dX6_read_59 (fun r23 u24 q25 => ?_)
              obtain ⟨⟨x26, rfl, tx26⟩, mq25⟩ := q25
              rw [mq25]
              refine g_istore dX6_read_62 (by decide) ?_
              refine g_iload dX6_read_64 rfl ?_
              refine g_if_eq (tgt := 78) dX6_read_66 (by decide) (fun c27 => ?_) (fun c27 => ?_)
              · refine g_aload_n dX6_read_78 rfl ?_
                refine g_aload_n dX6_read_79 rfl ?_
                refine f_X6_62 rfl rfl dX6_read_80 ?_
                refine f_X6_272 rfl rfl dX6_read_83 ?_
                refine g_iload_n dX6_read_86 rfl ?_
                have v28 : vp_in k 4 := uk_vin 4 rfl (by first | decide | lia | grind) (by first | decide | lia | grind)
                refine g_aald rfl rfl v28 dX6_read_87 ?_
                have b29 := uk_cl v28
                refine g_iload_n dX6_read_88 rfl ?_
                refine g_iload dX6_read_89 rfl ?_
                refine g_iadd dX6_read_91 ?_
                refine g_topi (fun x30 ex30 => ?_)
                have v31 : vp_in x30 40 := uk_vin 40 rfl (by first | decide | lia | grind) (by first | decide | lia | grind)
                refine g_iald (ks_kind b29) (ks_len b29) v31 dX6_read_92 ?_
                refine g_topi (fun x32 ex32 => ?_)
                refine cl_X6_276 (c := 0) (As := [.int x32]) rfl (c_X6_does (G := G) hs hu18  x32  (d)) rfl (by omega) rfl rfl (Nat.le_of_ble_eq_true rfl) dX6_read_93 (fun r33 u34 q35 => ?_)
                obtain ⟨⟨x36, rfl, tx36⟩, mq35⟩ := q35
                obtain ⟨hu34, gu34⟩ := mq35
                have fu34 : fr 0 22 u u34 := fr_tr fu18 gu34 (by omega) (by omega)
                have wu34_2_1 : u34.1 2 1 = u18.1 2 1 := fr_at gu34 (by omega)
                refine g_if_ge (tgt := 116) dX6_read_96 (by decide) (fun c37 => ?_) (fun c37 => ?_)
                · refine g_iinc (v := i17 + 1) dX6_read_116 rfl rfl (by decide) ?_
                  refine g_goto (tgt := 42) dX6_read_119 (by decide) ?_
                  refine g_pick (lv' := [(0, .ref (uk_ad G 0)), (1, .int k), (2, .int l), (3, .int f), (4, .int n), (5, .int (i17 + 1))]) [0, 1, 2, 3, 4, 5] rfl ?_
                  exact ihi17 (by first | lia | grind)  u34 hu34 fu34 (by first | trivial | lia | grind | grind [uk_up_at] | (simp [uk_up_at, ji170]; done) | (simp [uk_up_at]; grind))
                · refine g_aload_n dX6_read_99 rfl ?_
                  refine f_X6_10 rfl rfl dX6_read_100 ?_
                  refine g_aload_n dX6_read_103 rfl ?_
                  refine f_X6_16 rfl rfl dX6_read_104 ?_
                  refine cl_X6_101 (c := 13) (As := [.ref (uk_ad G 4)]) rfl (c_X0_copyFrom (G := G) hs hu34 uk_isK13 uk_isK4   (d + 3)) rfl (by omega) rfl rfl (Nat.le_of_ble_eq_true rfl) dX6_read_107 (fun r38 u39 q40 => ?_)
                  obtain ⟨rfl, mq40⟩ := q40
                  obtain ⟨hu39, gu39⟩ := mq40
                  have fu39 : fr 0 22 u u39 := fr_tr fu34 gu39 (by omega) (by omega)
                  have wu39_2_1 : u39.1 2 1 = u34.1 2 1 := fr_at gu39 (by omega)
                  refine g_bipush (v := (-20)) dX6_read_110 (by decide) ?_
                  refine g_iload dX6_read_112 rfl ?_
                  refine g_isub dX6_read_114 ?_
                  refine g_topi (fun x41 ex41 => ?_)
                  exact g_iret (ty := .int) dX6_read_115 rfl rfl ⟨⟨_, rfl, by first | trivial | lia | grind⟩, hu39, fu39, (by first | rfl | grind | grind [uk_up_at])⟩
              · refine g_aload_n dX6_read_69 rfl ?_
                refine g_iload dX6_read_70 rfl ?_
                refine p_X6_81 rfl rfl dX6_read_72 ?_
                refine g_mem (fun u42 eu42 => ?_)
                have hu42 : iv u42 := by rw [eu42]; exact iv_upF hu18 rfl
                have fu42 : fr 0 22 u u42 := by rw [eu42]; exact fr_up fu18 (by omega) (by omega)
                have s43 : u42.1 0 14 = x26 := by rw [eu42, uk_up_at]; exact if_pos ⟨rfl, rfl⟩
                refine g_iload dX6_read_75 rfl ?_
                exact g_iret (ty := .int) dX6_read_77 rfl rfl ⟨⟨_, rfl, by first | trivial | lia | grind⟩, hu42, fu42, (by first | rfl | grind | grind [uk_up_at])⟩
          refine g_pick (lv' := [(0, .ref (uk_ad G 0)), (1, .int k), (2, .int l), (3, .int f), (4, .int n), (5, .int 0)]) [0, 1, 2, 3, 4, 5] rfl ?_
          exact L42_15 0 (by first | decide | lia | grind) (by first | decide | lia | grind)  u14 hu14 fu14 (by first | trivial | lia | grind | grind [uk_up_at] | (simp [uk_up_at]; done) | (simp [uk_up_at]; grind))
        · refine g_iconst (v := (-1)) dX6_read_26 (by decide) ?_
          exact g_iret (ty := .int) dX6_read_27 rfl rfl ⟨⟨_, rfl, by first | trivial | lia | grind⟩, hu, f0, (by first | rfl | grind | grind [uk_up_at])⟩
abbrev q_X6_torn (u : uk_Mem)  (r : Option Value) (u' : uk_Mem) : Prop := (∃ x : Int32, r = some (.int x) ∧ True) ∧ (u' = u)
set_option maxHeartbeats 4000000 in
set_option maxRecDepth 20000 in
theorem c_X6_torn {G : uk_D} (hs : uk_Sep G) {u : uk_Mem} (hu : iv u)  (d : Nat) : uk_Meth G d mX6_torn [.ref (uk_ad G 0)] u (q_X6_torn u) := by
  refine uk_Meth.of hs (by decide) (Nat.le_of_ble_eq_true rfl) (fun X => ?_)
  refine g_aload_n dX6_torn_0 rfl ?_
  refine f_X6_81 rfl rfl dX6_torn_1 ?_
  refine g_topi (fun x1 ex1 => ?_)
  have s2 : u.1 0 14 = x1 := ex1.symm
  exact g_iret (ty := .int) dX6_torn_4 rfl rfl ⟨⟨_, rfl, by first | trivial | lia | grind⟩, rfl⟩
abbrev q_X6_count (u : uk_Mem) (w : Int32) (r : Option Value) (u' : uk_Mem) : Prop := (∃ x : Int32, r = some (.int x) ∧ True) ∧ (u' = u)
set_option maxHeartbeats 4000000 in
set_option maxRecDepth 20000 in
theorem c_X6_count {G : uk_D} (hs : uk_Sep G) {u : uk_Mem} (hu : iv u) (w : Int32) (d : Nat) : uk_Meth G (d + 1) mX6_count [.ref (uk_ad G 0), .int w] u (q_X6_count u w) := by
  refine uk_Meth.of hs (by decide) (Nat.le_of_ble_eq_true rfl) (fun X => ?_)
  refine g_iload_n dX6_count_0 rfl ?_
  by_cases c1 : w = 0
  · refine g_tabIn (off := (39)) (tgt := 40) dX6_count_1 (by rw [c1]; decide) (by rw [c1]; decide) (by rw [c1]; rfl) (by decide) ?_
    refine g_aload_n dX6_count_40 rfl ?_
    refine f_X6_10 rfl rfl dX6_count_41 ?_
    refine cl_X6_241 (c := 13) (As := []) rfl (c_X0_things (G := G) hs hu uk_isK13   (d)) rfl (by omega) rfl rfl (Nat.le_of_ble_eq_true rfl) dX6_count_44 (fun r2 u3 q4 => ?_)
    obtain ⟨⟨x5, rfl, tx5⟩, mq4⟩ := q4
    rw [mq4]
    exact g_iret (ty := .int) dX6_count_47 rfl rfl ⟨⟨_, rfl, by first | trivial | lia | grind⟩, rfl⟩
  by_cases c6 : w = 1
  · refine g_tabIn (off := (47)) (tgt := 48) dX6_count_1 (by rw [c6]; decide) (by rw [c6]; decide) (by rw [c6]; rfl) (by decide) ?_
    refine g_aload_n dX6_count_48 rfl ?_
    refine f_X6_10 rfl rfl dX6_count_49 ?_
    refine cl_X6_279 (c := 13) (As := []) rfl (c_X0_allFeeds (G := G) hs hu uk_isK13   (d)) rfl (by omega) rfl rfl (Nat.le_of_ble_eq_true rfl) dX6_count_52 (fun r7 u8 q9 => ?_)
    obtain ⟨⟨x10, rfl, tx10⟩, mq9⟩ := q9
    rw [mq9]
    exact g_iret (ty := .int) dX6_count_55 rfl rfl ⟨⟨_, rfl, by first | trivial | lia | grind⟩, rfl⟩
  by_cases c11 : w = 2
  · refine g_tabIn (off := (55)) (tgt := 56) dX6_count_1 (by rw [c11]; decide) (by rw [c11]; decide) (by rw [c11]; rfl) (by decide) ?_
    refine g_aload_n dX6_count_56 rfl ?_
    refine f_X6_10 rfl rfl dX6_count_57 ?_
    refine f_X6_223 rfl rfl dX6_count_60 ?_
    refine g_topi (fun x12 ex12 => ?_)
    have rx12 : 0 ≤ x12 ∧ x12 ≤ 8 := by rw [ex12]; exact iv_at hu _ _ rfl
    have s13 : u.1 13 9 = x12 := ex12.symm
    exact g_iret (ty := .int) dX6_count_63 rfl rfl ⟨⟨_, rfl, by first | trivial | lia | grind⟩, rfl⟩
  by_cases c14 : w = 3
  · refine g_tabIn (off := (63)) (tgt := 64) dX6_count_1 (by rw [c14]; decide) (by rw [c14]; decide) (by rw [c14]; rfl) (by decide) ?_
    refine g_aload_n dX6_count_64 rfl ?_
    refine f_X6_41 rfl rfl dX6_count_65 ?_
    refine g_iconst (v := 0) dX6_count_68 (by decide) ?_
    have v15 : vp_in 0 2 := uk_vin 2 rfl (by first | decide | lia | grind) (by first | decide | lia | grind)
    refine g_zald rfl rfl v15 dX6_count_69 ?_
    refine g_topi (fun x16 ex16 => ?_)
    have bx16 := uk_cl v15
    have rx16 : 0 ≤ x16 ∧ x16 ≤ 1 := by rw [ex16]; exact iv_at hu _ _ (uk_pick1 _ (by omega))
    refine g_if_eq (tgt := 77) dX6_count_70 (by decide) (fun c17 => ?_) (fun c17 => ?_)
    · refine g_iconst (v := 0) dX6_count_77 (by decide) ?_
      refine g_aload_n dX6_count_78 rfl ?_
      refine f_X6_41 rfl rfl dX6_count_79 ?_
      refine g_iconst (v := 1) dX6_count_82 (by decide) ?_
      have v18 : vp_in 1 2 := uk_vin 2 rfl (by first | decide | lia | grind) (by first | decide | lia | grind)
      refine g_zald rfl rfl v18 dX6_count_83 ?_
      refine g_topi (fun x19 ex19 => ?_)
      have bx19 := uk_cl v18
      have rx19 : 0 ≤ x19 ∧ x19 ≤ 1 := by rw [ex19]; exact iv_at hu _ _ (uk_pick1 _ (by omega))
      refine g_if_eq (tgt := 91) dX6_count_84 (by decide) (fun c20 => ?_) (fun c20 => ?_)
      · refine g_iconst (v := 0) dX6_count_91 (by decide) ?_
        refine g_iadd dX6_count_92 ?_
        refine g_topi (fun x21 ex21 => ?_)
        exact g_iret (ty := .int) dX6_count_93 rfl rfl ⟨⟨_, rfl, by first | trivial | lia | grind⟩, rfl⟩
      · refine g_iconst (v := 1) dX6_count_87 (by decide) ?_
        refine g_goto (tgt := 92) dX6_count_88 (by decide) ?_
        refine g_iadd dX6_count_92 ?_
        refine g_topi (fun x22 ex22 => ?_)
        exact g_iret (ty := .int) dX6_count_93 rfl rfl ⟨⟨_, rfl, by first | trivial | lia | grind⟩, rfl⟩
    · refine g_iconst (v := 1) dX6_count_73 (by decide) ?_
      refine g_goto (tgt := 78) dX6_count_74 (by decide) ?_
      refine g_aload_n dX6_count_78 rfl ?_
      refine f_X6_41 rfl rfl dX6_count_79 ?_
      refine g_iconst (v := 1) dX6_count_82 (by decide) ?_
      have v23 : vp_in 1 2 := uk_vin 2 rfl (by first | decide | lia | grind) (by first | decide | lia | grind)
      refine g_zald rfl rfl v23 dX6_count_83 ?_
      refine g_topi (fun x24 ex24 => ?_)
      have bx24 := uk_cl v23
      have rx24 : 0 ≤ x24 ∧ x24 ≤ 1 := by rw [ex24]; exact iv_at hu _ _ (uk_pick1 _ (by omega))
      refine g_if_eq (tgt := 91) dX6_count_84 (by decide) (fun c25 => ?_) (fun c25 => ?_)
      · refine g_iconst (v := 0) dX6_count_91 (by decide) ?_
        refine g_iadd dX6_count_92 ?_
        refine g_topi (fun x26 ex26 => ?_)
        exact g_iret (ty := .int) dX6_count_93 rfl rfl ⟨⟨_, rfl, by first | trivial | lia | grind⟩, rfl⟩
      · refine g_iconst (v := 1) dX6_count_87 (by decide) ?_
        refine g_goto (tgt := 92) dX6_count_88 (by decide) ?_
        refine g_iadd dX6_count_92 ?_
        refine g_topi (fun x27 ex27 => ?_)
        exact g_iret (ty := .int) dX6_count_93 rfl rfl ⟨⟨_, rfl, by first | trivial | lia | grind⟩, rfl⟩
  by_cases c28 : w = 4
  · refine g_tabIn (off := (93)) (tgt := 94) dX6_count_1 (by rw [c28]; decide) (by rw [c28]; decide) (by rw [c28]; rfl) (by decide) ?_
    refine g_aload_n dX6_count_94 rfl ?_
    refine f_X6_22 rfl rfl dX6_count_95 ?_
    refine f_X6_84 rfl rfl dX6_count_98 ?_
    refine g_topi (fun x29 ex29 => ?_)
    have rx29 : 0 ≤ x29 ∧ x29 ≤ 160 := by rw [ex29]; exact iv_at hu _ _ rfl
    have s30 : u.1 2 1 = x29 := ex29.symm
    exact g_iret (ty := .int) dX6_count_101 rfl rfl ⟨⟨_, rfl, by first | trivial | lia | grind⟩, rfl⟩
  by_cases c31 : w = 5
  · refine g_tabIn (off := (101)) (tgt := 102) dX6_count_1 (by rw [c31]; decide) (by rw [c31]; decide) (by rw [c31]; rfl) (by decide) ?_
    refine g_aload_n dX6_count_102 rfl ?_
    refine f_X6_62 rfl rfl dX6_count_103 ?_
    refine g_iconst (v := 0) dX6_count_106 (by decide) ?_
    refine cl_X6_282 (c := 49) (As := [.int 0]) rfl (c_X3_isNothing (G := G) hs hu  0 (by first | trivial | decide | lia | grind) (by first | trivial | decide | lia | grind) (d)) rfl (by omega) rfl rfl (Nat.le_of_ble_eq_true rfl) dX6_count_107 (fun r32 u33 q34 => ?_)
    obtain ⟨⟨x35, rfl, tx35, nx35, zx35⟩, mq34⟩ := q34
    rw [mq34]
    refine g_if_eq (tgt := 118) dX6_count_110 (by decide) (fun c36 => ?_) (fun c36 => ?_)
    · have zc36 := zx35 c36
      refine g_aload_n dX6_count_118 rfl ?_
      refine f_X6_62 rfl rfl dX6_count_119 ?_
      refine f_X6_285 rfl rfl dX6_count_122 ?_
      refine g_iconst (v := 0) dX6_count_125 (by decide) ?_
      have v37 : vp_in 0 4 := uk_vin 4 rfl (by first | decide | lia | grind) (by first | decide | lia | grind)
      refine g_iald rfl rfl v37 dX6_count_126 ?_
      refine g_topi (fun x38 ex38 => ?_)
      have bx38 := uk_cl v37
      have rx38 : 0 ≤ x38 ∧ x38 ≤ 40 := by rw [ex38]; exact iv_at hu _ _ (uk_pick1 _ (by omega))
      exact g_iret (ty := .int) dX6_count_127 rfl rfl ⟨⟨_, rfl, by first | trivial | lia | grind⟩, rfl⟩
    · have zc36 := nx35 c36
      refine g_bipush (v := (-4)) dX6_count_113 (by decide) ?_
      refine g_goto (tgt := 127) dX6_count_115 (by decide) ?_
      exact g_iret (ty := .int) dX6_count_127 rfl rfl ⟨⟨_, rfl, by first | trivial | lia | grind⟩, rfl⟩
  refine g_tabOut (tgt := 128) dX6_count_1 (uk_swo 0 5 rfl rfl (by first | lia | grind)) (by decide) ?_
  refine g_iconst (v := (-1)) dX6_count_128 (by decide) ?_
  exact g_iret (ty := .int) dX6_count_129 rfl rfl ⟨⟨_, rfl, by first | trivial | lia | grind⟩, rfl⟩
