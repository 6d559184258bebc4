abbrev q_X7_flag (u : uk_Mem) (b : Int32) (r : Option Value) (u' : uk_Mem) : Prop := (∃ x : Int32, r = some (.int x) ∧ (x = 0 ∨ x = 1)) ∧ (u' = u)
set_option maxHeartbeats 4000000 in
set_option maxRecDepth 20000 in
theorem c_X7_flag {G : uk_D} (hs : uk_Sep G) {u : uk_Mem} (hu : iv u) (b : Int32) (d : Nat) : uk_Meth G d mX7_flag [.int b] u (q_X7_flag u b) := by
  refine uk_Meth.of hs (by decide) (Nat.le_of_ble_eq_true rfl) (fun X => ?_)
  refine g_iload_n dX7_flag_0 rfl ?_
  refine g_if_eq (tgt := 8) dX7_flag_1 (by decide) (fun c1 => ?_) (fun c1 => ?_)
  · refine g_iconst (v := 0) dX7_flag_8 (by decide) ?_
    exact g_iret (ty := .int) dX7_flag_9 rfl rfl ⟨⟨_, rfl, by first | trivial | lia | grind⟩, rfl⟩
  · refine g_iconst (v := 1) dX7_flag_4 (by decide) ?_
    refine g_goto (tgt := 9) dX7_flag_5 (by decide) ?_
    exact g_iret (ty := .int) dX7_flag_9 rfl rfl ⟨⟨_, rfl, by first | trivial | lia | grind⟩, rfl⟩
abbrev q_X7_end (u : uk_Mem) (n : Int32) (r : Option Value) (u' : uk_Mem) : Prop := (∃ x : Int32, r = some (.int x) ∧ (((n < 0 ∨ u.1 60 13 < n) ∧ x = -1 ∧ u'.1 60 13 = u.1 60 13) ∨ (0 ≤ n ∧ n ≤ u.1 60 13 ∧ x = u.1 60 13 ∧ u'.1 60 13 = n))) ∧ (iv u' ∧ fk [60] [3, 7, 10, 11, 14, 15, 16, 17, 18, 19, 22, 28] u u')
set_option maxHeartbeats 4000000 in
set_option maxRecDepth 20000 in
theorem c_X7_end {G : uk_D} (hs : uk_Sep G) {u : uk_Mem} (hu : iv u) (n : Int32) (d : Nat) : uk_Meth G (d + 1) mX7_end [.ref (uk_ad G 60), .int n] u (q_X7_end u n) := by
  refine uk_Meth.of hs (by decide) (Nat.le_of_ble_eq_true rfl) (fun X => ?_)
  have f0 : fk [60] [3, 7, 10, 11, 14, 15, 16, 17, 18, 19, 22, 28] u u := fk_rf
  refine g_iload_n dX7_end_0 rfl ?_
  refine g_i2l dX7_end_1 ?_
  refine g_lconst (v := 0) dX7_end_2 (by decide) ?_
  refine g_aload_n dX7_end_3 rfl ?_
  refine f_X7_88 rfl rfl dX7_end_4 ?_
  refine g_topi (fun x1 ex1 => ?_)
  have rx1 : 0 ≤ x1 ∧ x1 ≤ 160 := by rw [ex1]; exact iv_at hu _ _ rfl
  have s2 : u.1 60 13 = x1 := ex1.symm
  refine g_i2l dX7_end_7 ?_
  refine cl_X7_84 (As := [.long n.toInt64, .long 0, .long x1.toInt64]) rfl (c_X7_in (G := G) hs hu  n 0 x1  (d)) rfl (by omega) rfl (Nat.le_of_ble_eq_true rfl) dX7_end_8 (fun r3 u4 q5 => ?_)
  obtain ⟨⟨x6, rfl, tx6, nx6, zx6⟩, mq5⟩ := q5
  rw [mq5]
  refine g_if_ne (tgt := 16) dX7_end_11 (by decide) (fun c7 => ?_) (fun c7 => ?_)
  · have zc7 := nx6 c7
    refine g_aload_n dX7_end_16 rfl ?_
    refine f_X7_88 rfl rfl dX7_end_17 ?_
    refine g_topi (fun x8 ex8 => ?_)
    have rx8 : 0 ≤ x8 ∧ x8 ≤ 160 := by rw [ex8]; exact iv_at hu _ _ rfl
    have qx8 : x8 = x1 := by rw [ex8]; exact s2
    refine g_istore_n dX7_end_20 (by decide) ?_
    refine g_pick (lv' := [(0, .ref (uk_ad G 60)), (1, .int n), (2, .int x8)]) [0, 1, 2] rfl ?_
    refine g_aload_n dX7_end_21 rfl ?_
    refine g_iload_n dX7_end_22 rfl ?_
    refine p_X7_88 rfl rfl dX7_end_23 ?_
    refine g_mem (fun u9 eu9 => ?_)
    have hu9 : iv u9 := by rw [eu9]; exact iv_up hu rfl (by first | lia | grind) (by first | lia | grind)
    have fu9 : fk [60] [3, 7, 10, 11, 14, 15, 16, 17, 18, 19, 22, 28] u u9 := by rw [eu9]; exact fk_up f0 (by decide) (fun _ => by decide)
    have s10 : u9.1 60 13 = n := by rw [eu9, uk_up_at]; exact if_pos ⟨rfl, rfl⟩
    refine g_iload_n dX7_end_26 rfl ?_
    exact g_iret (ty := .int) dX7_end_27 rfl rfl ⟨⟨_, rfl, by first | trivial | lia | grind⟩, hu9, fu9⟩
  · have zc7 := zx6 c7
    refine g_iconst (v := (-1)) dX7_end_14 (by decide) ?_
    exact g_iret (ty := .int) dX7_end_15 rfl rfl ⟨⟨_, rfl, by first | trivial | lia | grind⟩, hu, f0⟩
abbrev q_X7_torn (u : uk_Mem)  (r : Option Value) (u' : uk_Mem) : Prop := (∃ x : Int32, r = some (.int x) ∧ True) ∧ (u' = u)