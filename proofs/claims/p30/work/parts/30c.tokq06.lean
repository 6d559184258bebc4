abbrev q_X5_lineNamed_s (u : uk_Mem)  (r : Option Value) (u' : uk_Mem) : Prop := (∃ x : Int32, r = some (.int x) ∧ ln (u.1 3) (u.1 2 3) (u.1 2 4) (u.1 2 2) x) ∧ (u' = u)
set_option maxHeartbeats 4000000 in
set_option maxRecDepth 20000 in
theorem c_X5_lineNamed_s {G : uk_D} (hs : uk_Sep G) {u : uk_Mem} (hu : iv u)  (d : Nat) : uk_Meth G (d + 5) mX5_lineNamed [.ref (uk_ad G 1)] u (q_X5_lineNamed_s u) := by
  refine uk_Meth.of hs (by decide) (Nat.le_of_ble_eq_true rfl) (fun X => ?_)
  refine g_aload_n dX5_lineNamed_0 rfl ?_
  refine f_X5_21 rfl rfl dX5_lineNamed_1 ?_
  refine g_ldcS (j := 0) (by decide) rfl rfl dX5_lineNamed_4 ?_
  refine cl_X5_76 (c := 2) (As := [.ref (uk_ad G (100 + 0))]) rfl (c_X4_isNamed_s (G := G) hs hu  (sj := 0) (by omega)   (d)) rfl (by omega) rfl rfl (Nat.le_of_ble_eq_true rfl) dX5_lineNamed_6 (fun r1 u2 q3 => ?_)
  obtain ⟨⟨x4, rfl, tx4, nx4, zx4⟩, mq3⟩ := q3
  rw [mq3]
  refine g_if_eq (tgt := 14) dX5_lineNamed_9 (by decide) (fun c5 => ?_) (fun c5 => ?_)
  · have zc5 := zx4 c5
    refine g_aload_n dX5_lineNamed_14 rfl ?_
    refine f_X5_21 rfl rfl dX5_lineNamed_15 ?_
    refine g_ldcS (j := 1) (by decide) rfl rfl dX5_lineNamed_18 ?_
    refine cl_X5_76 (c := 2) (As := [.ref (uk_ad G (100 + 1))]) rfl (c_X4_isNamed_s (G := G) hs hu  (sj := 1) (by omega)   (d)) rfl (by omega) rfl rfl (Nat.le_of_ble_eq_true rfl) dX5_lineNamed_20 (fun r6 u7 q8 => ?_)
    obtain ⟨⟨x9, rfl, tx9, nx9, zx9⟩, mq8⟩ := q8
    rw [mq8]
    refine g_if_eq (tgt := 28) dX5_lineNamed_23 (by decide) (fun c10 => ?_) (fun c10 => ?_)
    · have zc10 := zx9 c10
      refine g_aload_n dX5_lineNamed_28 rfl ?_
      refine f_X5_21 rfl rfl dX5_lineNamed_29 ?_
      refine g_ldcS (j := 2) (by decide) rfl rfl dX5_lineNamed_32 ?_
      refine cl_X5_76 (c := 2) (As := [.ref (uk_ad G (100 + 2))]) rfl (c_X4_isNamed_s (G := G) hs hu  (sj := 2) (by omega)   (d)) rfl (by omega) rfl rfl (Nat.le_of_ble_eq_true rfl) dX5_lineNamed_34 (fun r11 u12 q13 => ?_)
      obtain ⟨⟨x14, rfl, tx14, nx14, zx14⟩, mq13⟩ := q13
      rw [mq13]
      refine g_if_eq (tgt := 42) dX5_lineNamed_37 (by decide) (fun c15 => ?_) (fun c15 => ?_)
      · have zc15 := zx14 c15
        refine g_aload_n dX5_lineNamed_42 rfl ?_
        refine f_X5_21 rfl rfl dX5_lineNamed_43 ?_
        refine g_ldcS (j := 3) (by decide) rfl rfl dX5_lineNamed_46 ?_
        refine cl_X5_76 (c := 2) (As := [.ref (uk_ad G (100 + 3))]) rfl (c_X4_isNamed_s (G := G) hs hu  (sj := 3) (by omega)   (d)) rfl (by omega) rfl rfl (Nat.le_of_ble_eq_true rfl) dX5_lineNamed_48 (fun r16 u17 q18 => ?_)
        obtain ⟨⟨x19, rfl, tx19, nx19, zx19⟩, mq18⟩ := q18
        rw [mq18]
        refine g_if_eq (tgt := 56) dX5_lineNamed_51 (by decide) (fun c20 => ?_) (fun c20 => ?_)
        · have zc20 := zx19 c20
          refine g_aload_n dX5_lineNamed_56 rfl ?_
          refine f_X5_21 rfl rfl dX5_lineNamed_57 ?_
          refine g_ldcS (j := 4) (by decide) rfl rfl dX5_lineNamed_60 ?_
          refine cl_X5_76 (c := 2) (As := [.ref (uk_ad G (100 + 4))]) rfl (c_X4_isNamed_s (G := G) hs hu  (sj := 4) (by omega)   (d)) rfl (by omega) rfl rfl (Nat.le_of_ble_eq_true rfl) dX5_lineNamed_62 (fun r21 u22 q23 => ?_)
          obtain ⟨⟨x24, rfl, tx24, nx24, zx24⟩, mq23⟩ := q23
          rw [mq23]
          refine g_if_eq (tgt := 70) dX5_lineNamed_65 (by decide) (fun c25 => ?_) (fun c25 => ?_)
          · have zc25 := zx24 c25
            refine g_aload_n dX5_lineNamed_70 rfl ?_
            refine f_X5_21 rfl rfl dX5_lineNamed_71 ?_
            refine g_ldcS (j := 5) (by decide) rfl rfl dX5_lineNamed_74 ?_
            refine cl_X5_76 (c := 2) (As := [.ref (uk_ad G (100 + 5))]) rfl (c_X4_isNamed_s (G := G) hs hu  (sj := 5) (by omega)   (d)) rfl (by omega) rfl rfl (Nat.le_of_ble_eq_true rfl) dX5_lineNamed_76 (fun r26 u27 q28 => ?_)
            obtain ⟨⟨x29, rfl, tx29, nx29, zx29⟩, mq28⟩ := q28
            rw [mq28]
            refine g_if_eq (tgt := 86) dX5_lineNamed_79 (by decide) (fun c30 => ?_) (fun c30 => ?_)
            · have zc30 := zx29 c30
              refine g_iconst (v := (-1)) dX5_lineNamed_86 (by decide) ?_
              exact g_iret (ty := .int) dX5_lineNamed_87 rfl rfl ⟨⟨_, rfl, Or.inr ⟨fun j hj => by rcases (show j = 0 ∨ j = 1 ∨ j = 2 ∨ j = 3 ∨ j = 4 ∨ j = 5 by omega) with rfl | rfl | rfl | rfl | rfl | rfl <;> first | exact zx4 (by assumption) | exact zx9 (by assumption) | exact zx14 (by assumption) | exact zx19 (by assumption) | exact zx24 (by assumption) | exact zx29 (by assumption), rfl⟩⟩, rfl⟩
            · have zc30 := nx29 c30
              refine g_iconst (v := 5) dX5_lineNamed_82 (by decide) ?_
              refine g_goto (tgt := 87) dX5_lineNamed_83 (by decide) ?_
              exact g_iret (ty := .int) dX5_lineNamed_87 rfl rfl ⟨⟨_, rfl, Or.inl ⟨5, by decide, (nx29 (by assumption)).1, (nx29 (by assumption)).2, rfl⟩⟩, rfl⟩
          · have zc25 := nx24 c25
            refine g_iconst (v := 3) dX5_lineNamed_68 (by decide) ?_
            exact g_iret (ty := .int) dX5_lineNamed_69 rfl rfl ⟨⟨_, rfl, Or.inl ⟨4, by decide, (nx24 (by assumption)).1, (nx24 (by assumption)).2, rfl⟩⟩, rfl⟩
        · have zc20 := nx19 c20
          refine g_iconst (v := 2) dX5_lineNamed_54 (by decide) ?_
          exact g_iret (ty := .int) dX5_lineNamed_55 rfl rfl ⟨⟨_, rfl, Or.inl ⟨3, by decide, (nx19 (by assumption)).1, (nx19 (by assumption)).2, rfl⟩⟩, rfl⟩
      · have zc15 := nx14 c15
        refine g_iconst (v := 1) dX5_lineNamed_40 (by decide) ?_
        exact g_iret (ty := .int) dX5_lineNamed_41 rfl rfl ⟨⟨_, rfl, Or.inl ⟨2, by decide, (nx14 (by assumption)).1, (nx14 (by assumption)).2, rfl⟩⟩, rfl⟩
    · have zc10 := nx9 c10
      refine g_iconst (v := 0) dX5_lineNamed_26 (by decide) ?_
      exact g_iret (ty := .int) dX5_lineNamed_27 rfl rfl ⟨⟨_, rfl, Or.inl ⟨1, by decide, (nx9 (by assumption)).1, (nx9 (by assumption)).2, rfl⟩⟩, rfl⟩
  · have zc5 := nx4 c5
    refine g_iconst (v := 4) dX5_lineNamed_12 (by decide) ?_
    exact g_iret (ty := .int) dX5_lineNamed_13 rfl rfl ⟨⟨_, rfl, Or.inl ⟨0, by decide, (nx4 (by assumption)).1, (nx4 (by assumption)).2, rfl⟩⟩, rfl⟩
