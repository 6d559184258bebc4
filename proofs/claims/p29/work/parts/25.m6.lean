abbrev q_X7_doingIn (u : uk_Mem) (c : Int32) (n : Int32) (i : Int32) (r : Option Value) (u' : uk_Mem) : Prop := (∃ x : Int32, r = some (.int x) ∧ True) ∧ (u' = u)
set_option maxHeartbeats 4000000 in
set_option maxRecDepth 20000 in
theorem c_X7_doingIn {G : uk_D} (hs : uk_Sep G) {u : uk_Mem} (hu : iv u) (c : Int32) (n : Int32) (i : Int32) (p0 : 0 ≤ i) (p1 : i < n) (p2 : n ≤ 4) (d : Nat) : uk_Meth G (d + 1) mX7_doingIn [.ref (uk_ad G 60), .int c, .int n, .int i] u (q_X7_doingIn u c n i) := by
  refine uk_Meth.of hs (by decide) (Nat.le_of_ble_eq_true rfl) (fun X => ?_)
  refine g_iload_n dX7_doingIn_0 rfl ?_
  refine g_aload_n dX7_doingIn_1 rfl ?_
  refine g_iload_n dX7_doingIn_2 rfl ?_
  refine g_iconst (v := 1) dX7_doingIn_3 (by decide) ?_
  refine g_isub dX7_doingIn_4 ?_
  refine g_topi (fun x1 ex1 => ?_)
  refine g_iload_n dX7_doingIn_5 rfl ?_
  refine g_isub dX7_doingIn_6 ?_
  refine g_topi (fun x2 ex2 => ?_)
  refine cl_X7_241 (c := 60) (As := [.int x2]) rfl (c_X7_baseTo (G := G) hs hu  x2 (by first | trivial | decide | lia | grind) (d)) rfl (by omega) rfl rfl (Nat.le_of_ble_eq_true rfl) dX7_doingIn_7 (fun r3 u4 q5 => ?_)
  obtain ⟨⟨x6, rfl, tx6⟩, mq5⟩ := q5
  rw [mq5]
  refine g_idiv dX7_doingIn_10 (by first | decide | lia | grind) ?_
  refine g_topi (fun x7 ex7 => ?_)
  refine g_bipush (v := 16) dX7_doingIn_11 (by decide) ?_
  refine g_irem dX7_doingIn_13 (by first | decide | lia | grind) ?_
  refine g_topi (fun x8 ex8 => ?_)
  refine g_istore dX7_doingIn_14 (by decide) ?_
  refine g_pick (lv' := [(0, .ref (uk_ad G 60)), (1, .int c), (2, .int n), (3, .int i), (4, .int x8)]) [0, 1, 2, 3, 4] rfl ?_
  refine g_iload dX7_doingIn_16 rfl ?_
  refine g_bipush (v := 8) dX7_doingIn_18 (by decide) ?_
  refine g_icmp_ge (tgt := 28) dX7_doingIn_20 (by decide) (fun c9 => ?_) (fun c9 => ?_)
  · refine g_bipush (v := 10) dX7_doingIn_28 (by decide) ?_
    refine g_iload dX7_doingIn_30 rfl ?_
    refine g_iadd dX7_doingIn_32 ?_
    refine g_topi (fun x10 ex10 => ?_)
    refine g_bipush (v := 8) dX7_doingIn_33 (by decide) ?_
    refine g_isub dX7_doingIn_35 ?_
    refine g_topi (fun x11 ex11 => ?_)
    exact g_iret (ty := .int) dX7_doingIn_36 rfl rfl ⟨⟨_, rfl, by first | trivial | lia | grind⟩, rfl⟩
  · refine g_iload dX7_doingIn_23 rfl ?_
    refine g_goto (tgt := 36) dX7_doingIn_25 (by decide) ?_
    exact g_iret (ty := .int) dX7_doingIn_36 rfl rfl ⟨⟨_, rfl, by first | trivial | lia | grind⟩, rfl⟩
