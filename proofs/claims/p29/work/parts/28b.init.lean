set_option maxHeartbeats 4000000 in
set_option maxRecDepth 20000 in
theorem c_X0_init {G : uk_D} (h0 : Nat) : ui_Meth G (fun _ => True) 1 8 64 mX0_init [.ref h0] [(h0, .inr (0, [.int 0, .null, .null, .null, .null, .null, .null, .null, .null, .int 0, .int 0, .int 0]))] (fun w => ∃ (q1 : Nat) (q2 : Nat) (q3 : Nat) (q4 : Nat) (q5 : Nat) (q6 : Nat) (q7 : Nat) (q8 : Nat), w = [(h0, .inr (0, [.int 0, .ref q1, .ref q2, .ref q3, .ref q4, .ref q5, .ref q6, .ref q7, .ref q8, .int 0, .int 0, .int 0])), (q1, .inl (G.2.2.1 8, 8, .inl (fun _ => 0))), (q2, .inl (G.2.2.1 8, 8, .inl (fun _ => 0))), (q3, .inl (G.2.2.1 8, 8, .inl (fun _ => 0))), (q4, .inl (G.2.2.1 8, 8, .inl (fun _ => 0))), (q5, .inl (G.2.2.1 8, 8, .inl (fun _ => 0))), (q6, .inl (G.2.2.1 8, 8, .inl (fun _ => 0))), (q7, .inl (G.2.2.1 8, 8, .inl (fun _ => 0))), (q8, .inl (G.2.2.1 8, 8, .inl (fun _ => 0)))]) := by
  refine ui_Meth.of (by decide) (Nat.le_of_ble_eq_true rfl) (fun A X => ?_)
  refine i_aload_n dX0_init_0 rfl ?_
  refine i_obj (uk_wI (List.mem_of_getElem? (i := 27) (by decide +kernel)) rfl) dX0_init_1 (by decide) (by decide) ?_
  refine i_aload_n dX0_init_4 rfl ?_
  refine i_iconst (v := 0) dX0_init_5 (by decide) ?_
  refine i_put (q0 := 0) (j := 0) (ty := .int) (ws' := [(h0, .inr (0, [.int 0, .null, .null, .null, .null, .null, .null, .null, .null, .int 0, .int 0, .int 0]))]) rfl rfl uk_in0 (by decide) tyX0_ok nmX0 rfl (by decide +kernel) rfl rfl (Nat.le_of_ble_eq_true rfl) (uk_wI (List.mem_of_getElem? (i := 28) (by decide +kernel)) rfl) dX0_init_6 rfl ?_
  refine i_aload_n dX0_init_9 rfl ?_
  refine i_bipush (v := 8) dX0_init_10 (by decide) ?_
  refine i_newa (atype := .int) (ty := .int) (a0 := (8, .inl (fun _ => 0))) 0 (uk_wI (List.mem_of_getElem? (i := 84) (by decide +kernel)) rfl) rfl rfl (fun _ _ h => h) (fun _ => rfl) (by decide) rfl (by decide) (by decide) (by decide) dX0_init_12 (fun q1 => ?_)
  refine i_ws (ws' := [(h0, .inr (0, [.int 0, .null, .null, .null, .null, .null, .null, .null, .null, .int 0, .int 0, .int 0])), (q1, .inl (G.2.2.1 8, 8, .inl (fun _ => 0)))]) rfl ?_
  refine i_putF (q0 := 0) (j := 1) (ty := (.array .int)) (ws' := [(h0, .inr (0, [.int 0, .ref q1, .null, .null, .null, .null, .null, .null, .null, .int 0, .int 0, .int 0])), (q1, .inl (G.2.2.1 8, 8, .inl (fun _ => 0)))]) rfl rfl uk_in0 (by decide) tyX0_ok nmX0 rfl rfl rfl (by decide +kernel) rfl rfl (Nat.le_of_ble_eq_true rfl) (uk_wI (List.mem_of_getElem? (i := 32) (by decide +kernel)) rfl) dX0_init_14 rfl ?_
  refine i_aload_n dX0_init_17 rfl ?_
  refine i_bipush (v := 8) dX0_init_18 (by decide) ?_
  refine i_newa (atype := .int) (ty := .int) (a0 := (8, .inl (fun _ => 0))) 0 (uk_wI (List.mem_of_getElem? (i := 84) (by decide +kernel)) rfl) rfl rfl (fun _ _ h => h) (fun _ => rfl) (by decide) rfl (by decide) (by decide) (by decide) dX0_init_20 (fun q2 => ?_)
  refine i_ws (ws' := [(h0, .inr (0, [.int 0, .ref q1, .null, .null, .null, .null, .null, .null, .null, .int 0, .int 0, .int 0])), (q1, .inl (G.2.2.1 8, 8, .inl (fun _ => 0))), (q2, .inl (G.2.2.1 8, 8, .inl (fun _ => 0)))]) rfl ?_
  refine i_putF (q0 := 0) (j := 2) (ty := (.array .int)) (ws' := [(h0, .inr (0, [.int 0, .ref q1, .ref q2, .null, .null, .null, .null, .null, .null, .int 0, .int 0, .int 0])), (q1, .inl (G.2.2.1 8, 8, .inl (fun _ => 0))), (q2, .inl (G.2.2.1 8, 8, .inl (fun _ => 0)))]) rfl rfl uk_in0 (by decide) tyX0_ok nmX0 rfl rfl rfl (by decide +kernel) rfl rfl (Nat.le_of_ble_eq_true rfl) (uk_wI (List.mem_of_getElem? (i := 35) (by decide +kernel)) rfl) dX0_init_22 rfl ?_
  refine i_aload_n dX0_init_25 rfl ?_
  refine i_bipush (v := 8) dX0_init_26 (by decide) ?_
  refine i_newa (atype := .int) (ty := .int) (a0 := (8, .inl (fun _ => 0))) 0 (uk_wI (List.mem_of_getElem? (i := 84) (by decide +kernel)) rfl) rfl rfl (fun _ _ h => h) (fun _ => rfl) (by decide) rfl (by decide) (by decide) (by decide) dX0_init_28 (fun q3 => ?_)
  refine i_ws (ws' := [(h0, .inr (0, [.int 0, .ref q1, .ref q2, .null, .null, .null, .null, .null, .null, .int 0, .int 0, .int 0])), (q1, .inl (G.2.2.1 8, 8, .inl (fun _ => 0))), (q2, .inl (G.2.2.1 8, 8, .inl (fun _ => 0))), (q3, .inl (G.2.2.1 8, 8, .inl (fun _ => 0)))]) rfl ?_
  refine i_putF (q0 := 0) (j := 3) (ty := (.array .int)) (ws' := [(h0, .inr (0, [.int 0, .ref q1, .ref q2, .ref q3, .null, .null, .null, .null, .null, .int 0, .int 0, .int 0])), (q1, .inl (G.2.2.1 8, 8, .inl (fun _ => 0))), (q2, .inl (G.2.2.1 8, 8, .inl (fun _ => 0))), (q3, .inl (G.2.2.1 8, 8, .inl (fun _ => 0)))]) rfl rfl uk_in0 (by decide) tyX0_ok nmX0 rfl rfl rfl (by decide +kernel) rfl rfl (Nat.le_of_ble_eq_true rfl) (uk_wI (List.mem_of_getElem? (i := 38) (by decide +kernel)) rfl) dX0_init_30 rfl ?_
  refine i_aload_n dX0_init_33 rfl ?_
  refine i_bipush (v := 8) dX0_init_34 (by decide) ?_
  refine i_newa (atype := .int) (ty := .int) (a0 := (8, .inl (fun _ => 0))) 0 (uk_wI (List.mem_of_getElem? (i := 84) (by decide +kernel)) rfl) rfl rfl (fun _ _ h => h) (fun _ => rfl) (by decide) rfl (by decide) (by decide) (by decide) dX0_init_36 (fun q4 => ?_)
  refine i_ws (ws' := [(h0, .inr (0, [.int 0, .ref q1, .ref q2, .ref q3, .null, .null, .null, .null, .null, .int 0, .int 0, .int 0])), (q1, .inl (G.2.2.1 8, 8, .inl (fun _ => 0))), (q2, .inl (G.2.2.1 8, 8, .inl (fun _ => 0))), (q3, .inl (G.2.2.1 8, 8, .inl (fun _ => 0))), (q4, .inl (G.2.2.1 8, 8, .inl (fun _ => 0)))]) rfl ?_
  refine i_putF (q0 := 0) (j := 4) (ty := (.array .int)) (ws' := [(h0, .inr (0, [.int 0, .ref q1, .ref q2, .ref q3, .ref q4, .null, .null, .null, .null, .int 0, .int 0, .int 0])), (q1, .inl (G.2.2.1 8, 8, .inl (fun _ => 0))), (q2, .inl (G.2.2.1 8, 8, .inl (fun _ => 0))), (q3, .inl (G.2.2.1 8, 8, .inl (fun _ => 0))), (q4, .inl (G.2.2.1 8, 8, .inl (fun _ => 0)))]) rfl rfl uk_in0 (by decide) tyX0_ok nmX0 rfl rfl rfl (by decide +kernel) rfl rfl (Nat.le_of_ble_eq_true rfl) (uk_wI (List.mem_of_getElem? (i := 41) (by decide +kernel)) rfl) dX0_init_38 rfl ?_
  refine i_aload_n dX0_init_41 rfl ?_
  refine i_bipush (v := 8) dX0_init_42 (by decide) ?_
  refine i_newa (atype := .int) (ty := .int) (a0 := (8, .inl (fun _ => 0))) 0 (uk_wI (List.mem_of_getElem? (i := 84) (by decide +kernel)) rfl) rfl rfl (fun _ _ h => h) (fun _ => rfl) (by decide) rfl (by decide) (by decide) (by decide) dX0_init_44 (fun q5 => ?_)
  refine i_ws (ws' := [(h0, .inr (0, [.int 0, .ref q1, .ref q2, .ref q3, .ref q4, .null, .null, .null, .null, .int 0, .int 0, .int 0])), (q1, .inl (G.2.2.1 8, 8, .inl (fun _ => 0))), (q2, .inl (G.2.2.1 8, 8, .inl (fun _ => 0))), (q3, .inl (G.2.2.1 8, 8, .inl (fun _ => 0))), (q4, .inl (G.2.2.1 8, 8, .inl (fun _ => 0))), (q5, .inl (G.2.2.1 8, 8, .inl (fun _ => 0)))]) rfl ?_
  refine i_putF (q0 := 0) (j := 5) (ty := (.array .int)) (ws' := [(h0, .inr (0, [.int 0, .ref q1, .ref q2, .ref q3, .ref q4, .ref q5, .null, .null, .null, .int 0, .int 0, .int 0])), (q1, .inl (G.2.2.1 8, 8, .inl (fun _ => 0))), (q2, .inl (G.2.2.1 8, 8, .inl (fun _ => 0))), (q3, .inl (G.2.2.1 8, 8, .inl (fun _ => 0))), (q4, .inl (G.2.2.1 8, 8, .inl (fun _ => 0))), (q5, .inl (G.2.2.1 8, 8, .inl (fun _ => 0)))]) rfl rfl uk_in0 (by decide) tyX0_ok nmX0 rfl rfl rfl (by decide +kernel) rfl rfl (Nat.le_of_ble_eq_true rfl) (uk_wI (List.mem_of_getElem? (i := 43) (by decide +kernel)) rfl) dX0_init_46 rfl ?_
  refine i_aload_n dX0_init_49 rfl ?_
  refine i_bipush (v := 8) dX0_init_50 (by decide) ?_
  refine i_newa (atype := .int) (ty := .int) (a0 := (8, .inl (fun _ => 0))) 0 (uk_wI (List.mem_of_getElem? (i := 84) (by decide +kernel)) rfl) rfl rfl (fun _ _ h => h) (fun _ => rfl) (by decide) rfl (by decide) (by decide) (by decide) dX0_init_52 (fun q6 => ?_)
  refine i_ws (ws' := [(h0, .inr (0, [.int 0, .ref q1, .ref q2, .ref q3, .ref q4, .ref q5, .null, .null, .null, .int 0, .int 0, .int 0])), (q1, .inl (G.2.2.1 8, 8, .inl (fun _ => 0))), (q2, .inl (G.2.2.1 8, 8, .inl (fun _ => 0))), (q3, .inl (G.2.2.1 8, 8, .inl (fun _ => 0))), (q4, .inl (G.2.2.1 8, 8, .inl (fun _ => 0))), (q5, .inl (G.2.2.1 8, 8, .inl (fun _ => 0))), (q6, .inl (G.2.2.1 8, 8, .inl (fun _ => 0)))]) rfl ?_
  refine i_putF (q0 := 0) (j := 6) (ty := (.array .int)) (ws' := [(h0, .inr (0, [.int 0, .ref q1, .ref q2, .ref q3, .ref q4, .ref q5, .ref q6, .null, .null, .int 0, .int 0, .int 0])), (q1, .inl (G.2.2.1 8, 8, .inl (fun _ => 0))), (q2, .inl (G.2.2.1 8, 8, .inl (fun _ => 0))), (q3, .inl (G.2.2.1 8, 8, .inl (fun _ => 0))), (q4, .inl (G.2.2.1 8, 8, .inl (fun _ => 0))), (q5, .inl (G.2.2.1 8, 8, .inl (fun _ => 0))), (q6, .inl (G.2.2.1 8, 8, .inl (fun _ => 0)))]) rfl rfl uk_in0 (by decide) tyX0_ok nmX0 rfl rfl rfl (by decide +kernel) rfl rfl (Nat.le_of_ble_eq_true rfl) (uk_wI (List.mem_of_getElem? (i := 45) (by decide +kernel)) rfl) dX0_init_54 rfl ?_
  refine i_aload_n dX0_init_57 rfl ?_
  refine i_bipush (v := 8) dX0_init_58 (by decide) ?_
  refine i_newa (atype := .int) (ty := .int) (a0 := (8, .inl (fun _ => 0))) 0 (uk_wI (List.mem_of_getElem? (i := 84) (by decide +kernel)) rfl) rfl rfl (fun _ _ h => h) (fun _ => rfl) (by decide) rfl (by decide) (by decide) (by decide) dX0_init_60 (fun q7 => ?_)
  refine i_ws (ws' := [(h0, .inr (0, [.int 0, .ref q1, .ref q2, .ref q3, .ref q4, .ref q5, .ref q6, .null, .null, .int 0, .int 0, .int 0])), (q1, .inl (G.2.2.1 8, 8, .inl (fun _ => 0))), (q2, .inl (G.2.2.1 8, 8, .inl (fun _ => 0))), (q3, .inl (G.2.2.1 8, 8, .inl (fun _ => 0))), (q4, .inl (G.2.2.1 8, 8, .inl (fun _ => 0))), (q5, .inl (G.2.2.1 8, 8, .inl (fun _ => 0))), (q6, .inl (G.2.2.1 8, 8, .inl (fun _ => 0))), (q7, .inl (G.2.2.1 8, 8, .inl (fun _ => 0)))]) rfl ?_
  refine i_putF (q0 := 0) (j := 7) (ty := (.array .int)) (ws' := [(h0, .inr (0, [.int 0, .ref q1, .ref q2, .ref q3, .ref q4, .ref q5, .ref q6, .ref q7, .null, .int 0, .int 0, .int 0])), (q1, .inl (G.2.2.1 8, 8, .inl (fun _ => 0))), (q2, .inl (G.2.2.1 8, 8, .inl (fun _ => 0))), (q3, .inl (G.2.2.1 8, 8, .inl (fun _ => 0))), (q4, .inl (G.2.2.1 8, 8, .inl (fun _ => 0))), (q5, .inl (G.2.2.1 8, 8, .inl (fun _ => 0))), (q6, .inl (G.2.2.1 8, 8, .inl (fun _ => 0))), (q7, .inl (G.2.2.1 8, 8, .inl (fun _ => 0)))]) rfl rfl uk_in0 (by decide) tyX0_ok nmX0 rfl rfl rfl (by decide +kernel) rfl rfl (Nat.le_of_ble_eq_true rfl) (uk_wI (List.mem_of_getElem? (i := 49) (by decide +kernel)) rfl) dX0_init_62 rfl ?_
  refine i_aload_n dX0_init_65 rfl ?_
  refine i_bipush (v := 8) dX0_init_66 (by decide) ?_
  refine i_newa (atype := .int) (ty := .int) (a0 := (8, .inl (fun _ => 0))) 0 (uk_wI (List.mem_of_getElem? (i := 84) (by decide +kernel)) rfl) rfl rfl (fun _ _ h => h) (fun _ => rfl) (by decide) rfl (by decide) (by decide) (by decide) dX0_init_68 (fun q8 => ?_)
  refine i_ws (ws' := [(h0, .inr (0, [.int 0, .ref q1, .ref q2, .ref q3, .ref q4, .ref q5, .ref q6, .ref q7, .null, .int 0, .int 0, .int 0])), (q1, .inl (G.2.2.1 8, 8, .inl (fun _ => 0))), (q2, .inl (G.2.2.1 8, 8, .inl (fun _ => 0))), (q3, .inl (G.2.2.1 8, 8, .inl (fun _ => 0))), (q4, .inl (G.2.2.1 8, 8, .inl (fun _ => 0))), (q5, .inl (G.2.2.1 8, 8, .inl (fun _ => 0))), (q6, .inl (G.2.2.1 8, 8, .inl (fun _ => 0))), (q7, .inl (G.2.2.1 8, 8, .inl (fun _ => 0))), (q8, .inl (G.2.2.1 8, 8, .inl (fun _ => 0)))]) rfl ?_
  refine i_putF (q0 := 0) (j := 8) (ty := (.array .int)) (ws' := [(h0, .inr (0, [.int 0, .ref q1, .ref q2, .ref q3, .ref q4, .ref q5, .ref q6, .ref q7, .ref q8, .int 0, .int 0, .int 0])), (q1, .inl (G.2.2.1 8, 8, .inl (fun _ => 0))), (q2, .inl (G.2.2.1 8, 8, .inl (fun _ => 0))), (q3, .inl (G.2.2.1 8, 8, .inl (fun _ => 0))), (q4, .inl (G.2.2.1 8, 8, .inl (fun _ => 0))), (q5, .inl (G.2.2.1 8, 8, .inl (fun _ => 0))), (q6, .inl (G.2.2.1 8, 8, .inl (fun _ => 0))), (q7, .inl (G.2.2.1 8, 8, .inl (fun _ => 0))), (q8, .inl (G.2.2.1 8, 8, .inl (fun _ => 0)))]) rfl rfl uk_in0 (by decide) tyX0_ok nmX0 rfl rfl rfl (by decide +kernel) rfl rfl (Nat.le_of_ble_eq_true rfl) (uk_wI (List.mem_of_getElem? (i := 51) (by decide +kernel)) rfl) dX0_init_70 rfl ?_
  refine i_aload_n dX0_init_73 rfl ?_
  refine i_iconst (v := 0) dX0_init_74 (by decide) ?_
  refine i_put (q0 := 0) (j := 9) (ty := .int) (ws' := [(h0, .inr (0, [.int 0, .ref q1, .ref q2, .ref q3, .ref q4, .ref q5, .ref q6, .ref q7, .ref q8, .int 0, .int 0, .int 0])), (q1, .inl (G.2.2.1 8, 8, .inl (fun _ => 0))), (q2, .inl (G.2.2.1 8, 8, .inl (fun _ => 0))), (q3, .inl (G.2.2.1 8, 8, .inl (fun _ => 0))), (q4, .inl (G.2.2.1 8, 8, .inl (fun _ => 0))), (q5, .inl (G.2.2.1 8, 8, .inl (fun _ => 0))), (q6, .inl (G.2.2.1 8, 8, .inl (fun _ => 0))), (q7, .inl (G.2.2.1 8, 8, .inl (fun _ => 0))), (q8, .inl (G.2.2.1 8, 8, .inl (fun _ => 0)))]) rfl rfl uk_in0 (by decide) tyX0_ok nmX0 rfl (by decide +kernel) rfl rfl (Nat.le_of_ble_eq_true rfl) (uk_wI (List.mem_of_getElem? (i := 53) (by decide +kernel)) rfl) dX0_init_75 rfl ?_
  refine i_aload_n dX0_init_78 rfl ?_
  refine i_iconst (v := 0) dX0_init_79 (by decide) ?_
  refine i_put (q0 := 0) (j := 10) (ty := .int) (ws' := [(h0, .inr (0, [.int 0, .ref q1, .ref q2, .ref q3, .ref q4, .ref q5, .ref q6, .ref q7, .ref q8, .int 0, .int 0, .int 0])), (q1, .inl (G.2.2.1 8, 8, .inl (fun _ => 0))), (q2, .inl (G.2.2.1 8, 8, .inl (fun _ => 0))), (q3, .inl (G.2.2.1 8, 8, .inl (fun _ => 0))), (q4, .inl (G.2.2.1 8, 8, .inl (fun _ => 0))), (q5, .inl (G.2.2.1 8, 8, .inl (fun _ => 0))), (q6, .inl (G.2.2.1 8, 8, .inl (fun _ => 0))), (q7, .inl (G.2.2.1 8, 8, .inl (fun _ => 0))), (q8, .inl (G.2.2.1 8, 8, .inl (fun _ => 0)))]) rfl rfl uk_in0 (by decide) tyX0_ok nmX0 rfl (by decide +kernel) rfl rfl (Nat.le_of_ble_eq_true rfl) (uk_wI (List.mem_of_getElem? (i := 55) (by decide +kernel)) rfl) dX0_init_80 rfl ?_
  refine i_aload_n dX0_init_83 rfl ?_
  refine i_iconst (v := 0) dX0_init_84 (by decide) ?_
  refine i_put (q0 := 0) (j := 11) (ty := .int) (ws' := [(h0, .inr (0, [.int 0, .ref q1, .ref q2, .ref q3, .ref q4, .ref q5, .ref q6, .ref q7, .ref q8, .int 0, .int 0, .int 0])), (q1, .inl (G.2.2.1 8, 8, .inl (fun _ => 0))), (q2, .inl (G.2.2.1 8, 8, .inl (fun _ => 0))), (q3, .inl (G.2.2.1 8, 8, .inl (fun _ => 0))), (q4, .inl (G.2.2.1 8, 8, .inl (fun _ => 0))), (q5, .inl (G.2.2.1 8, 8, .inl (fun _ => 0))), (q6, .inl (G.2.2.1 8, 8, .inl (fun _ => 0))), (q7, .inl (G.2.2.1 8, 8, .inl (fun _ => 0))), (q8, .inl (G.2.2.1 8, 8, .inl (fun _ => 0)))]) rfl rfl uk_in0 (by decide) tyX0_ok nmX0 rfl (by decide +kernel) rfl rfl (Nat.le_of_ble_eq_true rfl) (uk_wI (List.mem_of_getElem? (i := 57) (by decide +kernel)) rfl) dX0_init_85 rfl ?_
  exact i_ret dX0_init_88 (by decide) (by decide) ⟨q1, q2, q3, q4, q5, q6, q7, q8, rfl⟩
set_option maxHeartbeats 4000000 in
set_option maxRecDepth 20000 in
theorem c_X1_init {G : uk_D} (h0 : Nat) : ui_Meth G (fun _ => True) 1 4 153 mX1_init [.ref h0] [(h0, .inr (1, [.null, .int 0, .int 0, .null, .null, .null, .int 0]))] (fun w => ∃ (q1 : Nat) (q2 : Nat) (q3 : Nat) (q4 : Nat), w = [(h0, .inr (1, [.ref q1, .int 0, .int 0, .ref q2, .ref q3, .ref q4, .int 0])), (q1, .inl (G.2.2.1 8, 128, .inl (fun _ => 0))), (q2, .inl (G.2.2.1 8, 8, .inl (fun _ => 0))), (q3, .inl (G.2.2.1 8, 8, .inl (fun _ => 0))), (q4, .inl (G.2.2.1 8, 9, .inl (fun _ => 0)))]) := by
  refine ui_Meth.of (by decide) (Nat.le_of_ble_eq_true rfl) (fun A X => ?_)
  refine i_aload_n dX1_init_0 rfl ?_
  refine i_obj (uk_wI (List.mem_of_getElem? (i := 145) (by decide +kernel)) rfl) dX1_init_1 (by decide) (by decide) ?_
  refine i_aload_n dX1_init_4 rfl ?_
  refine i_sipush (v := 128) dX1_init_5 (by decide) ?_
  refine i_newa (atype := .int) (ty := .int) (a0 := (128, .inl (fun _ => 0))) 0 (uk_wI (List.mem_of_getElem? (i := 84) (by decide +kernel)) rfl) rfl rfl (fun _ _ h => h) (fun _ => rfl) (by decide) rfl (by decide) (by decide) (by decide) dX1_init_8 (fun q1 => ?_)
  refine i_ws (ws' := [(h0, .inr (1, [.null, .int 0, .int 0, .null, .null, .null, .int 0])), (q1, .inl (G.2.2.1 8, 128, .inl (fun _ => 0)))]) rfl ?_
  refine i_putF (q0 := 0) (j := 0) (ty := (.array .int)) (ws' := [(h0, .inr (1, [.ref q1, .int 0, .int 0, .null, .null, .null, .int 0])), (q1, .inl (G.2.2.1 8, 128, .inl (fun _ => 0)))]) rfl rfl uk_in1 (by decide) tyX1_ok nmX1 rfl rfl rfl (by decide +kernel) rfl rfl (Nat.le_of_ble_eq_true rfl) (uk_wI (List.mem_of_getElem? (i := 146) (by decide +kernel)) rfl) dX1_init_10 rfl ?_
  refine i_aload_n dX1_init_13 rfl ?_
  refine i_iconst (v := 0) dX1_init_14 (by decide) ?_
  refine i_put (q0 := 0) (j := 1) (ty := .int) (ws' := [(h0, .inr (1, [.ref q1, .int 0, .int 0, .null, .null, .null, .int 0])), (q1, .inl (G.2.2.1 8, 128, .inl (fun _ => 0)))]) rfl rfl uk_in1 (by decide) tyX1_ok nmX1 rfl (by decide +kernel) rfl rfl (Nat.le_of_ble_eq_true rfl) (uk_wI (List.mem_of_getElem? (i := 148) (by decide +kernel)) rfl) dX1_init_15 rfl ?_
  refine i_aload_n dX1_init_18 rfl ?_
  refine i_iconst (v := 0) dX1_init_19 (by decide) ?_
  refine i_put (q0 := 0) (j := 2) (ty := .int) (ws' := [(h0, .inr (1, [.ref q1, .int 0, .int 0, .null, .null, .null, .int 0])), (q1, .inl (G.2.2.1 8, 128, .inl (fun _ => 0)))]) rfl rfl uk_in1 (by decide) tyX1_ok nmX1 rfl (by decide +kernel) rfl rfl (Nat.le_of_ble_eq_true rfl) (uk_wI (List.mem_of_getElem? (i := 150) (by decide +kernel)) rfl) dX1_init_20 rfl ?_
  refine i_aload_n dX1_init_23 rfl ?_
  refine i_bipush (v := 8) dX1_init_24 (by decide) ?_
  refine i_newa (atype := .int) (ty := .int) (a0 := (8, .inl (fun _ => 0))) 0 (uk_wI (List.mem_of_getElem? (i := 84) (by decide +kernel)) rfl) rfl rfl (fun _ _ h => h) (fun _ => rfl) (by decide) rfl (by decide) (by decide) (by decide) dX1_init_26 (fun q2 => ?_)
  refine i_ws (ws' := [(h0, .inr (1, [.ref q1, .int 0, .int 0, .null, .null, .null, .int 0])), (q1, .inl (G.2.2.1 8, 128, .inl (fun _ => 0))), (q2, .inl (G.2.2.1 8, 8, .inl (fun _ => 0)))]) rfl ?_
  refine i_putF (q0 := 0) (j := 3) (ty := (.array .int)) (ws' := [(h0, .inr (1, [.ref q1, .int 0, .int 0, .ref q2, .null, .null, .int 0])), (q1, .inl (G.2.2.1 8, 128, .inl (fun _ => 0))), (q2, .inl (G.2.2.1 8, 8, .inl (fun _ => 0)))]) rfl rfl uk_in1 (by decide) tyX1_ok nmX1 rfl rfl rfl (by decide +kernel) rfl rfl (Nat.le_of_ble_eq_true rfl) (uk_wI (List.mem_of_getElem? (i := 152) (by decide +kernel)) rfl) dX1_init_28 rfl ?_
  refine i_aload_n dX1_init_31 rfl ?_
  refine i_bipush (v := 8) dX1_init_32 (by decide) ?_
  refine i_newa (atype := .int) (ty := .int) (a0 := (8, .inl (fun _ => 0))) 0 (uk_wI (List.mem_of_getElem? (i := 84) (by decide +kernel)) rfl) rfl rfl (fun _ _ h => h) (fun _ => rfl) (by decide) rfl (by decide) (by decide) (by decide) dX1_init_34 (fun q3 => ?_)
  refine i_ws (ws' := [(h0, .inr (1, [.ref q1, .int 0, .int 0, .ref q2, .null, .null, .int 0])), (q1, .inl (G.2.2.1 8, 128, .inl (fun _ => 0))), (q2, .inl (G.2.2.1 8, 8, .inl (fun _ => 0))), (q3, .inl (G.2.2.1 8, 8, .inl (fun _ => 0)))]) rfl ?_
  refine i_putF (q0 := 0) (j := 4) (ty := (.array .int)) (ws' := [(h0, .inr (1, [.ref q1, .int 0, .int 0, .ref q2, .ref q3, .null, .int 0])), (q1, .inl (G.2.2.1 8, 128, .inl (fun _ => 0))), (q2, .inl (G.2.2.1 8, 8, .inl (fun _ => 0))), (q3, .inl (G.2.2.1 8, 8, .inl (fun _ => 0)))]) rfl rfl uk_in1 (by decide) tyX1_ok nmX1 rfl rfl rfl (by decide +kernel) rfl rfl (Nat.le_of_ble_eq_true rfl) (uk_wI (List.mem_of_getElem? (i := 154) (by decide +kernel)) rfl) dX1_init_36 rfl ?_
  refine i_aload_n dX1_init_39 rfl ?_
  refine i_bipush (v := 9) dX1_init_40 (by decide) ?_
  refine i_newa (atype := .int) (ty := .int) (a0 := (9, .inl (fun _ => 0))) 0 (uk_wI (List.mem_of_getElem? (i := 84) (by decide +kernel)) rfl) rfl rfl (fun _ _ h => h) (fun _ => rfl) (by decide) rfl (by decide) (by decide) (by decide) dX1_init_42 (fun q4 => ?_)
  refine i_ws (ws' := [(h0, .inr (1, [.ref q1, .int 0, .int 0, .ref q2, .ref q3, .null, .int 0])), (q1, .inl (G.2.2.1 8, 128, .inl (fun _ => 0))), (q2, .inl (G.2.2.1 8, 8, .inl (fun _ => 0))), (q3, .inl (G.2.2.1 8, 8, .inl (fun _ => 0))), (q4, .inl (G.2.2.1 8, 9, .inl (fun _ => 0)))]) rfl ?_
  refine i_putF (q0 := 0) (j := 5) (ty := (.array .int)) (ws' := [(h0, .inr (1, [.ref q1, .int 0, .int 0, .ref q2, .ref q3, .ref q4, .int 0])), (q1, .inl (G.2.2.1 8, 128, .inl (fun _ => 0))), (q2, .inl (G.2.2.1 8, 8, .inl (fun _ => 0))), (q3, .inl (G.2.2.1 8, 8, .inl (fun _ => 0))), (q4, .inl (G.2.2.1 8, 9, .inl (fun _ => 0)))]) rfl rfl uk_in1 (by decide) tyX1_ok nmX1 rfl rfl rfl (by decide +kernel) rfl rfl (Nat.le_of_ble_eq_true rfl) (uk_wI (List.mem_of_getElem? (i := 155) (by decide +kernel)) rfl) dX1_init_44 rfl ?_
  refine i_aload_n dX1_init_47 rfl ?_
  refine i_iconst (v := 0) dX1_init_48 (by decide) ?_
  refine i_put (q0 := 0) (j := 6) (ty := .int) (ws' := [(h0, .inr (1, [.ref q1, .int 0, .int 0, .ref q2, .ref q3, .ref q4, .int 0])), (q1, .inl (G.2.2.1 8, 128, .inl (fun _ => 0))), (q2, .inl (G.2.2.1 8, 8, .inl (fun _ => 0))), (q3, .inl (G.2.2.1 8, 8, .inl (fun _ => 0))), (q4, .inl (G.2.2.1 8, 9, .inl (fun _ => 0)))]) rfl rfl uk_in1 (by decide) tyX1_ok nmX1 rfl (by decide +kernel) rfl rfl (Nat.le_of_ble_eq_true rfl) (uk_wI (List.mem_of_getElem? (i := 156) (by decide +kernel)) rfl) dX1_init_49 rfl ?_
  exact i_ret dX1_init_52 (by decide) (by decide) ⟨q1, q2, q3, q4, rfl⟩
set_option maxHeartbeats 4000000 in
set_option maxRecDepth 20000 in
theorem c_X2_init {G : uk_D} (h0 : Nat) : ui_Meth G (fun _ => True) 1 2 8 mX2_init [.ref h0] [(h0, .inr (2, [.null, .null, .int 0, .int 0, .int 0]))] (fun w => ∃ (q1 : Nat) (q2 : Nat), w = [(h0, .inr (2, [.ref q1, .ref q2, .int 0, .int 0, .int 0])), (q1, .inl (G.2.2.1 8, 4, .inl (fun _ => 0))), (q2, .inl (G.2.2.1 8, 4, .inl (fun _ => 0)))]) := by
  refine ui_Meth.of (by decide) (Nat.le_of_ble_eq_true rfl) (fun A X => ?_)
  refine i_aload_n dX2_init_0 rfl ?_
  refine i_obj (uk_wI (List.mem_of_getElem? (i := 178) (by decide +kernel)) rfl) dX2_init_1 (by decide) (by decide) ?_
  refine i_aload_n dX2_init_4 rfl ?_
  refine i_iconst (v := 4) dX2_init_5 (by decide) ?_
  refine i_newa (atype := .int) (ty := .int) (a0 := (4, .inl (fun _ => 0))) 0 (uk_wI (List.mem_of_getElem? (i := 84) (by decide +kernel)) rfl) rfl rfl (fun _ _ h => h) (fun _ => rfl) (by decide) rfl (by decide) (by decide) (by decide) dX2_init_6 (fun q1 => ?_)
  refine i_ws (ws' := [(h0, .inr (2, [.null, .null, .int 0, .int 0, .int 0])), (q1, .inl (G.2.2.1 8, 4, .inl (fun _ => 0)))]) rfl ?_
  refine i_putF (q0 := 0) (j := 0) (ty := (.array .int)) (ws' := [(h0, .inr (2, [.ref q1, .null, .int 0, .int 0, .int 0])), (q1, .inl (G.2.2.1 8, 4, .inl (fun _ => 0)))]) rfl rfl uk_in2 (by decide) tyX2_ok nmX2 rfl rfl rfl (by decide +kernel) rfl rfl (Nat.le_of_ble_eq_true rfl) (uk_wI (List.mem_of_getElem? (i := 179) (by decide +kernel)) rfl) dX2_init_8 rfl ?_
  refine i_aload_n dX2_init_11 rfl ?_
  refine i_iconst (v := 4) dX2_init_12 (by decide) ?_
  refine i_newa (atype := .int) (ty := .int) (a0 := (4, .inl (fun _ => 0))) 0 (uk_wI (List.mem_of_getElem? (i := 84) (by decide +kernel)) rfl) rfl rfl (fun _ _ h => h) (fun _ => rfl) (by decide) rfl (by decide) (by decide) (by decide) dX2_init_13 (fun q2 => ?_)
  refine i_ws (ws' := [(h0, .inr (2, [.ref q1, .null, .int 0, .int 0, .int 0])), (q1, .inl (G.2.2.1 8, 4, .inl (fun _ => 0))), (q2, .inl (G.2.2.1 8, 4, .inl (fun _ => 0)))]) rfl ?_
  refine i_putF (q0 := 0) (j := 1) (ty := (.array .int)) (ws' := [(h0, .inr (2, [.ref q1, .ref q2, .int 0, .int 0, .int 0])), (q1, .inl (G.2.2.1 8, 4, .inl (fun _ => 0))), (q2, .inl (G.2.2.1 8, 4, .inl (fun _ => 0)))]) rfl rfl uk_in2 (by decide) tyX2_ok nmX2 rfl rfl rfl (by decide +kernel) rfl rfl (Nat.le_of_ble_eq_true rfl) (uk_wI (List.mem_of_getElem? (i := 180) (by decide +kernel)) rfl) dX2_init_15 rfl ?_
  refine i_aload_n dX2_init_18 rfl ?_
  refine i_iconst (v := 0) dX2_init_19 (by decide) ?_
  refine i_put (q0 := 0) (j := 2) (ty := .int) (ws' := [(h0, .inr (2, [.ref q1, .ref q2, .int 0, .int 0, .int 0])), (q1, .inl (G.2.2.1 8, 4, .inl (fun _ => 0))), (q2, .inl (G.2.2.1 8, 4, .inl (fun _ => 0)))]) rfl rfl uk_in2 (by decide) tyX2_ok nmX2 rfl (by decide +kernel) rfl rfl (Nat.le_of_ble_eq_true rfl) (uk_wI (List.mem_of_getElem? (i := 181) (by decide +kernel)) rfl) dX2_init_20 rfl ?_
  refine i_aload_n dX2_init_23 rfl ?_
  refine i_iconst (v := 0) dX2_init_24 (by decide) ?_
  refine i_put (q0 := 0) (j := 3) (ty := .int) (ws' := [(h0, .inr (2, [.ref q1, .ref q2, .int 0, .int 0, .int 0])), (q1, .inl (G.2.2.1 8, 4, .inl (fun _ => 0))), (q2, .inl (G.2.2.1 8, 4, .inl (fun _ => 0)))]) rfl rfl uk_in2 (by decide) tyX2_ok nmX2 rfl (by decide +kernel) rfl rfl (Nat.le_of_ble_eq_true rfl) (uk_wI (List.mem_of_getElem? (i := 183) (by decide +kernel)) rfl) dX2_init_25 rfl ?_
  refine i_aload_n dX2_init_28 rfl ?_
  refine i_iconst (v := 0) dX2_init_29 (by decide) ?_
  refine i_put (q0 := 0) (j := 4) (ty := .int) (ws' := [(h0, .inr (2, [.ref q1, .ref q2, .int 0, .int 0, .int 0])), (q1, .inl (G.2.2.1 8, 4, .inl (fun _ => 0))), (q2, .inl (G.2.2.1 8, 4, .inl (fun _ => 0)))]) rfl rfl uk_in2 (by decide) tyX2_ok nmX2 rfl (by decide +kernel) rfl rfl (Nat.le_of_ble_eq_true rfl) (uk_wI (List.mem_of_getElem? (i := 185) (by decide +kernel)) rfl) dX2_init_30 rfl ?_
  exact i_ret dX2_init_33 (by decide) (by decide) ⟨q1, q2, rfl⟩
set_option maxHeartbeats 4000000 in
set_option maxRecDepth 20000 in
theorem c_X3_init {G : uk_D} (h0 : Nat) : ui_Meth G (fun _ => True) 1 7 172 mX3_init [.ref h0] [(h0, .inr (3, [.null, .null, .null]))] (fun w => ∃ (q1 : Nat) (q2 : Nat) (q3 : Nat) (r4 : Nat → Nat), w = [(h0, .inr (3, [.ref q1, .ref q2, .ref q3])), (q1, .inl (G.2.2.1 8, 4, .inl (upd (upd (upd (upd (fun _ => 0) (0 : Int32).toNatClampNeg (-1)) (1 : Int32).toNatClampNeg (-1)) (2 : Int32).toNatClampNeg (-1)) (3 : Int32).toNatClampNeg (-1)))), (q2, .inl (G.2.2.1 8, 4, .inl (fun _ => 0))), (q3, .inl (G.2.2.1 12, 4, .inr (.inr (.inr (.inr (fun i => if i < 4 then some (r4 i) else none)))))), (r4 0, .inl (G.2.2.1 8, 40, .inl (fun _ => 0))), (r4 1, .inl (G.2.2.1 8, 40, .inl (fun _ => 0))), (r4 2, .inl (G.2.2.1 8, 40, .inl (fun _ => 0))), (r4 3, .inl (G.2.2.1 8, 40, .inl (fun _ => 0)))]) := by
  refine ui_Meth.of (by decide) (Nat.le_of_ble_eq_true rfl) (fun A X => ?_)
  refine i_aload_n dX3_init_0 rfl ?_
  refine i_obj (uk_wI (List.mem_of_getElem? (i := 202) (by decide +kernel)) rfl) dX3_init_1 (by decide) (by decide) ?_
  refine i_aload_n dX3_init_4 rfl ?_
  refine i_iconst (v := 4) dX3_init_5 (by decide) ?_
  refine i_newa (atype := .int) (ty := .int) (a0 := (4, .inl (fun _ => 0))) 0 (uk_wI (List.mem_of_getElem? (i := 84) (by decide +kernel)) rfl) rfl rfl (fun _ _ h => h) (fun _ => rfl) (by decide) rfl (by decide) (by decide) (by decide) dX3_init_6 (fun q1 => ?_)
  refine i_ws (ws' := [(h0, .inr (3, [.null, .null, .null])), (q1, .inl (G.2.2.1 8, 4, .inl (fun _ => 0)))]) rfl ?_
  refine i_dup dX3_init_8 rfl ?_
  refine i_iconst (v := 0) dX3_init_9 (by decide) ?_
  refine i_iconst (v := (-1)) dX3_init_10 (by decide) ?_
  refine i_iast (q0 := 1) (t0 := 0) (ws' := [(h0, .inr (3, [.null, .null, .null])), (q1, .inl (G.2.2.1 8, 4, .inl (upd (fun _ => 0) (0 : Int32).toNatClampNeg (-1))))]) rfl rfl (uk_vin 4 rfl (by decide) (by decide)) dX3_init_11 rfl ?_
  refine i_dup dX3_init_12 rfl ?_
  refine i_iconst (v := 1) dX3_init_13 (by decide) ?_
  refine i_iconst (v := (-1)) dX3_init_14 (by decide) ?_
  refine i_iast (q0 := 1) (t0 := 0) (ws' := [(h0, .inr (3, [.null, .null, .null])), (q1, .inl (G.2.2.1 8, 4, .inl (upd (upd (fun _ => 0) (0 : Int32).toNatClampNeg (-1)) (1 : Int32).toNatClampNeg (-1))))]) rfl rfl (uk_vin 4 rfl (by decide) (by decide)) dX3_init_15 rfl ?_
  refine i_dup dX3_init_16 rfl ?_
  refine i_iconst (v := 2) dX3_init_17 (by decide) ?_
  refine i_iconst (v := (-1)) dX3_init_18 (by decide) ?_
  refine i_iast (q0 := 1) (t0 := 0) (ws' := [(h0, .inr (3, [.null, .null, .null])), (q1, .inl (G.2.2.1 8, 4, .inl (upd (upd (upd (fun _ => 0) (0 : Int32).toNatClampNeg (-1)) (1 : Int32).toNatClampNeg (-1)) (2 : Int32).toNatClampNeg (-1))))]) rfl rfl (uk_vin 4 rfl (by decide) (by decide)) dX3_init_19 rfl ?_
  refine i_dup dX3_init_20 rfl ?_
  refine i_iconst (v := 3) dX3_init_21 (by decide) ?_
  refine i_iconst (v := (-1)) dX3_init_22 (by decide) ?_
  refine i_iast (q0 := 1) (t0 := 0) (ws' := [(h0, .inr (3, [.null, .null, .null])), (q1, .inl (G.2.2.1 8, 4, .inl (upd (upd (upd (upd (fun _ => 0) (0 : Int32).toNatClampNeg (-1)) (1 : Int32).toNatClampNeg (-1)) (2 : Int32).toNatClampNeg (-1)) (3 : Int32).toNatClampNeg (-1))))]) rfl rfl (uk_vin 4 rfl (by decide) (by decide)) dX3_init_23 rfl ?_
  refine i_putF (q0 := 0) (j := 0) (ty := (.array .int)) (ws' := [(h0, .inr (3, [.ref q1, .null, .null])), (q1, .inl (G.2.2.1 8, 4, .inl (upd (upd (upd (upd (fun _ => 0) (0 : Int32).toNatClampNeg (-1)) (1 : Int32).toNatClampNeg (-1)) (2 : Int32).toNatClampNeg (-1)) (3 : Int32).toNatClampNeg (-1))))]) rfl rfl uk_in3 (by decide) tyX3_ok nmX3 rfl rfl rfl (by decide +kernel) rfl rfl (Nat.le_of_ble_eq_true rfl) (uk_wI (List.mem_of_getElem? (i := 205) (by decide +kernel)) rfl) dX3_init_24 rfl ?_
  refine i_aload_n dX3_init_27 rfl ?_
  refine i_iconst (v := 4) dX3_init_28 (by decide) ?_
  refine i_newa (atype := .int) (ty := .int) (a0 := (4, .inl (fun _ => 0))) 0 (uk_wI (List.mem_of_getElem? (i := 84) (by decide +kernel)) rfl) rfl rfl (fun _ _ h => h) (fun _ => rfl) (by decide) rfl (by decide) (by decide) (by decide) dX3_init_29 (fun q2 => ?_)
  refine i_ws (ws' := [(h0, .inr (3, [.ref q1, .null, .null])), (q1, .inl (G.2.2.1 8, 4, .inl (upd (upd (upd (upd (fun _ => 0) (0 : Int32).toNatClampNeg (-1)) (1 : Int32).toNatClampNeg (-1)) (2 : Int32).toNatClampNeg (-1)) (3 : Int32).toNatClampNeg (-1)))), (q2, .inl (G.2.2.1 8, 4, .inl (fun _ => 0)))]) rfl ?_
  refine i_putF (q0 := 0) (j := 1) (ty := (.array .int)) (ws' := [(h0, .inr (3, [.ref q1, .ref q2, .null])), (q1, .inl (G.2.2.1 8, 4, .inl (upd (upd (upd (upd (fun _ => 0) (0 : Int32).toNatClampNeg (-1)) (1 : Int32).toNatClampNeg (-1)) (2 : Int32).toNatClampNeg (-1)) (3 : Int32).toNatClampNeg (-1)))), (q2, .inl (G.2.2.1 8, 4, .inl (fun _ => 0)))]) rfl rfl uk_in3 (by decide) tyX3_ok nmX3 rfl rfl rfl (by decide +kernel) rfl rfl (Nat.le_of_ble_eq_true rfl) (uk_wI (List.mem_of_getElem? (i := 206) (by decide +kernel)) rfl) dX3_init_31 rfl ?_
  refine i_aload_n dX3_init_34 rfl ?_
  refine i_iconst (v := 4) dX3_init_35 (by decide) ?_
  refine i_bipush (v := 40) dX3_init_36 (by decide) ?_
  refine i_mna 0 4 (uk_wI (List.mem_of_getElem? (i := 203) (by decide +kernel)) rfl) (uk_wI (List.mem_of_getElem? (i := 84) (by decide +kernel)) rfl) rfl rfl rfl rfl (by decide) (by decide) dX3_init_38 (fun q3 r4 => ?_)
  refine i_ws (ws' := [(h0, .inr (3, [.ref q1, .ref q2, .null])), (q1, .inl (G.2.2.1 8, 4, .inl (upd (upd (upd (upd (fun _ => 0) (0 : Int32).toNatClampNeg (-1)) (1 : Int32).toNatClampNeg (-1)) (2 : Int32).toNatClampNeg (-1)) (3 : Int32).toNatClampNeg (-1)))), (q2, .inl (G.2.2.1 8, 4, .inl (fun _ => 0))), (q3, .inl (G.2.2.1 12, 4, .inr (.inr (.inr (.inr (fun i => if i < 4 then some (r4 i) else none)))))), (r4 0, .inl (G.2.2.1 8, 40, .inl (fun _ => 0))), (r4 1, .inl (G.2.2.1 8, 40, .inl (fun _ => 0))), (r4 2, .inl (G.2.2.1 8, 40, .inl (fun _ => 0))), (r4 3, .inl (G.2.2.1 8, 40, .inl (fun _ => 0)))]) rfl ?_
  refine i_putF (q0 := 0) (j := 2) (ty := (.array (.array .int))) (ws' := [(h0, .inr (3, [.ref q1, .ref q2, .ref q3])), (q1, .inl (G.2.2.1 8, 4, .inl (upd (upd (upd (upd (fun _ => 0) (0 : Int32).toNatClampNeg (-1)) (1 : Int32).toNatClampNeg (-1)) (2 : Int32).toNatClampNeg (-1)) (3 : Int32).toNatClampNeg (-1)))), (q2, .inl (G.2.2.1 8, 4, .inl (fun _ => 0))), (q3, .inl (G.2.2.1 12, 4, .inr (.inr (.inr (.inr (fun i => if i < 4 then some (r4 i) else none)))))), (r4 0, .inl (G.2.2.1 8, 40, .inl (fun _ => 0))), (r4 1, .inl (G.2.2.1 8, 40, .inl (fun _ => 0))), (r4 2, .inl (G.2.2.1 8, 40, .inl (fun _ => 0))), (r4 3, .inl (G.2.2.1 8, 40, .inl (fun _ => 0)))]) rfl rfl uk_in3 (by decide) tyX3_ok nmX3 rfl rfl rfl (by decide +kernel) rfl rfl (Nat.le_of_ble_eq_true rfl) (uk_wI (List.mem_of_getElem? (i := 208) (by decide +kernel)) rfl) dX3_init_42 rfl ?_
  exact i_ret dX3_init_45 (by decide) (by decide) ⟨q1, q2, q3, r4, rfl⟩
set_option maxHeartbeats 4000000 in
set_option maxRecDepth 20000 in
theorem c_X4_init {G : uk_D} (h0 : Nat) : ui_Meth G (fun _ => True) 1 1 160 mX4_init [.ref h0] [(h0, .inr (4, [.null, .int 0, .int 0, .int 0, .int 0, .int 0]))] (fun w => ∃ (q1 : Nat), w = [(h0, .inr (4, [.ref q1, .int 0, .int 0, .int 0, .int 0, .int 0])), (q1, .inl (G.2.2.1 9, 160, .inl (fun _ => 0)))]) := by
  refine ui_Meth.of (by decide) (Nat.le_of_ble_eq_true rfl) (fun A X => ?_)
  refine i_aload_n dX4_init_0 rfl ?_
  refine i_obj (uk_wI (List.mem_of_getElem? (i := 90) (by decide +kernel)) rfl) dX4_init_1 (by decide) (by decide) ?_
  refine i_aload_n dX4_init_4 rfl ?_
  refine i_sipush (v := 160) dX4_init_5 (by decide) ?_
  refine i_newa (atype := .byte) (ty := .byte) (a0 := (160, .inl (fun _ => 0))) 1 (uk_wI (List.mem_of_getElem? (i := 115) (by decide +kernel)) rfl) rfl rfl (fun _ _ h => h) (fun _ => rfl) (by decide) rfl (by decide) (by decide) (by decide) dX4_init_8 (fun q1 => ?_)
  refine i_ws (ws' := [(h0, .inr (4, [.null, .int 0, .int 0, .int 0, .int 0, .int 0])), (q1, .inl (G.2.2.1 9, 160, .inl (fun _ => 0)))]) rfl ?_
  refine i_putF (q0 := 0) (j := 0) (ty := (.array .byte)) (ws' := [(h0, .inr (4, [.ref q1, .int 0, .int 0, .int 0, .int 0, .int 0])), (q1, .inl (G.2.2.1 9, 160, .inl (fun _ => 0)))]) rfl rfl uk_in4 (by decide) tyX4_ok nmX4 rfl rfl rfl (by decide +kernel) rfl rfl (Nat.le_of_ble_eq_true rfl) (uk_wI (List.mem_of_getElem? (i := 91) (by decide +kernel)) rfl) dX4_init_10 rfl ?_
  refine i_aload_n dX4_init_13 rfl ?_
  refine i_iconst (v := 0) dX4_init_14 (by decide) ?_
  refine i_put (q0 := 0) (j := 1) (ty := .int) (ws' := [(h0, .inr (4, [.ref q1, .int 0, .int 0, .int 0, .int 0, .int 0])), (q1, .inl (G.2.2.1 9, 160, .inl (fun _ => 0)))]) rfl rfl uk_in4 (by decide) tyX4_ok nmX4 rfl (by decide +kernel) rfl rfl (Nat.le_of_ble_eq_true rfl) (uk_wI (List.mem_of_getElem? (i := 92) (by decide +kernel)) rfl) dX4_init_15 rfl ?_
  refine i_aload_n dX4_init_18 rfl ?_
  refine i_iconst (v := 0) dX4_init_19 (by decide) ?_
  refine i_put (q0 := 0) (j := 2) (ty := .int) (ws' := [(h0, .inr (4, [.ref q1, .int 0, .int 0, .int 0, .int 0, .int 0])), (q1, .inl (G.2.2.1 9, 160, .inl (fun _ => 0)))]) rfl rfl uk_in4 (by decide) tyX4_ok nmX4 rfl (by decide +kernel) rfl rfl (Nat.le_of_ble_eq_true rfl) (uk_wI (List.mem_of_getElem? (i := 95) (by decide +kernel)) rfl) dX4_init_20 rfl ?_
  refine i_aload_n dX4_init_23 rfl ?_
  refine i_iconst (v := 0) dX4_init_24 (by decide) ?_
  refine i_put (q0 := 0) (j := 3) (ty := .int) (ws' := [(h0, .inr (4, [.ref q1, .int 0, .int 0, .int 0, .int 0, .int 0])), (q1, .inl (G.2.2.1 9, 160, .inl (fun _ => 0)))]) rfl rfl uk_in4 (by decide) tyX4_ok nmX4 rfl (by decide +kernel) rfl rfl (Nat.le_of_ble_eq_true rfl) (uk_wI (List.mem_of_getElem? (i := 96) (by decide +kernel)) rfl) dX4_init_25 rfl ?_
  refine i_aload_n dX4_init_28 rfl ?_
  refine i_iconst (v := 0) dX4_init_29 (by decide) ?_
  refine i_put (q0 := 0) (j := 4) (ty := .int) (ws' := [(h0, .inr (4, [.ref q1, .int 0, .int 0, .int 0, .int 0, .int 0])), (q1, .inl (G.2.2.1 9, 160, .inl (fun _ => 0)))]) rfl rfl uk_in4 (by decide) tyX4_ok nmX4 rfl (by decide +kernel) rfl rfl (Nat.le_of_ble_eq_true rfl) (uk_wI (List.mem_of_getElem? (i := 98) (by decide +kernel)) rfl) dX4_init_30 rfl ?_
  refine i_aload_n dX4_init_33 rfl ?_
  refine i_iconst (v := 0) dX4_init_34 (by decide) ?_
  refine i_put (q0 := 0) (j := 5) (ty := .int) (ws' := [(h0, .inr (4, [.ref q1, .int 0, .int 0, .int 0, .int 0, .int 0])), (q1, .inl (G.2.2.1 9, 160, .inl (fun _ => 0)))]) rfl rfl uk_in4 (by decide) tyX4_ok nmX4 rfl (by decide +kernel) rfl rfl (Nat.le_of_ble_eq_true rfl) (uk_wI (List.mem_of_getElem? (i := 100) (by decide +kernel)) rfl) dX4_init_35 rfl ?_
  exact i_ret dX4_init_38 (by decide) (by decide) ⟨q1, rfl⟩
set_option maxHeartbeats 4000000 in
set_option maxRecDepth 20000 in
theorem c_X5_init {G : uk_D} (h0 : Nat) (a1 : Nat) (a2 : Nat) : ui_Meth G (fun _ => True) 1 0 0 mX5_init [.ref h0, .ref a1, .ref a2] [(h0, .inr (5, [.null, .null, .int 0, .int 0, .int 0]))] (fun w => w = [(h0, .inr (5, [.ref a1, .ref a2, .int 0, .int 0, .int 0]))]) := by
  refine ui_Meth.of (by decide) (Nat.le_of_ble_eq_true rfl) (fun A X => ?_)
  refine i_aload_n dX5_init_0 rfl ?_
  refine i_obj (uk_wI (List.mem_of_getElem? (i := 121) (by decide +kernel)) rfl) dX5_init_1 (by decide) (by decide) ?_
  refine i_aload_n dX5_init_4 rfl ?_
  refine i_iconst (v := 0) dX5_init_5 (by decide) ?_
  refine i_put (q0 := 0) (j := 2) (ty := .int) (ws' := [(h0, .inr (5, [.null, .null, .int 0, .int 0, .int 0]))]) rfl rfl uk_in5 (by decide) tyX5_ok nmX5 rfl (by decide +kernel) rfl rfl (Nat.le_of_ble_eq_true rfl) (uk_wI (List.mem_of_getElem? (i := 124) (by decide +kernel)) rfl) dX5_init_6 rfl ?_
  refine i_aload_n dX5_init_9 rfl ?_
  refine i_iconst (v := 0) dX5_init_10 (by decide) ?_
  refine i_put (q0 := 0) (j := 3) (ty := .int) (ws' := [(h0, .inr (5, [.null, .null, .int 0, .int 0, .int 0]))]) rfl rfl uk_in5 (by decide) tyX5_ok nmX5 rfl (by decide +kernel) rfl rfl (Nat.le_of_ble_eq_true rfl) (uk_wI (List.mem_of_getElem? (i := 126) (by decide +kernel)) rfl) dX5_init_11 rfl ?_
  refine i_aload_n dX5_init_14 rfl ?_
  refine i_iconst (v := 0) dX5_init_15 (by decide) ?_
  refine i_put (q0 := 0) (j := 4) (ty := .int) (ws' := [(h0, .inr (5, [.null, .null, .int 0, .int 0, .int 0]))]) rfl rfl uk_in5 (by decide) tyX5_ok nmX5 rfl (by decide +kernel) rfl rfl (Nat.le_of_ble_eq_true rfl) (uk_wI (List.mem_of_getElem? (i := 128) (by decide +kernel)) rfl) dX5_init_16 rfl ?_
  refine i_aload_n dX5_init_19 rfl ?_
  refine i_aload_n dX5_init_20 rfl ?_
  refine i_putF (q0 := 0) (j := 0) (ty := (.object "UncookMill$Tape")) (ws' := [(h0, .inr (5, [.ref a1, .null, .int 0, .int 0, .int 0]))]) rfl rfl uk_in5 (by decide) tyX5_ok nmX5 rfl rfl rfl (by decide +kernel) rfl rfl (Nat.le_of_ble_eq_true rfl) (uk_wI (List.mem_of_getElem? (i := 122) (by decide +kernel)) rfl) dX5_init_21 rfl ?_
  refine i_aload_n dX5_init_24 rfl ?_
  refine i_aload_n dX5_init_25 rfl ?_
  refine i_putF (q0 := 0) (j := 1) (ty := (.object "UncookMill$Kitchen")) (ws' := [(h0, .inr (5, [.ref a1, .ref a2, .int 0, .int 0, .int 0]))]) rfl rfl uk_in5 (by decide) tyX5_ok nmX5 rfl rfl rfl (by decide +kernel) rfl rfl (Nat.le_of_ble_eq_true rfl) (uk_wI (List.mem_of_getElem? (i := 123) (by decide +kernel)) rfl) dX5_init_26 rfl ?_
  exact i_ret dX5_init_29 (by decide) (by decide) rfl
