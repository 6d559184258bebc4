set_option maxHeartbeats 4000000 in
set_option maxRecDepth 20000 in
theorem c_X7_is_s {G : uk_D} (hs : uk_Sep G) {u : uk_Mem} (hu : iv u) (n : Int32) (a : Int32) (b : Int32) (c : Int32) (p0 : u.1 60 14 ≤ u.1 60 13) (p1 : n = 3 ∨ n = 4) (p2 : 0 ≤ a ∧ 0 ≤ b ∧ 0 ≤ c) (d : Nat) : uk_Meth G (d + 1) mX7_is [.ref (uk_ad G 60), .int n, .int a, .int b, .int c] u (q_X7_is_s u n a b c) := by
  refine uk_Meth.of hs (by decide) (Nat.le_of_ble_eq_true rfl) (fun X => ?_)
  refine g_aload_n dX7_is_0 rfl ?_
  refine f_X7_100 rfl rfl dX7_is_1 ?_
  refine g_topi (fun x1 ex1 => ?_)
  have rx1 : 0 ≤ x1 ∧ x1 ≤ 160 := by rw [ex1]; exact iv_at hu _ _ rfl
  have s2 : u.1 60 14 = x1 := ex1.symm
  refine g_aload_n dX7_is_4 rfl ?_
  refine f_X7_94 rfl rfl dX7_is_5 ?_
  refine g_topi (fun x3 ex3 => ?_)
  have rx3 : 0 ≤ x3 ∧ x3 ≤ 160 := by rw [ex3]; exact iv_at hu _ _ rfl
  have s4 : u.1 60 15 = x3 := ex3.symm
  refine g_isub dX7_is_8 ?_
  refine g_topi (fun x5 ex5 => ?_)
  refine g_iload_n dX7_is_9 rfl ?_
  refine g_icmp_ne (tgt := 58) dX7_is_10 (by decide) (fun c6 => ?_) (fun c6 => ?_)
  · refine g_iconst (v := 0) dX7_is_58 (by decide) ?_
    exact g_iret (ty := .boolean) dX7_is_59 rfl rfl ⟨⟨0, rfl, Or.inl rfl, fun q => absurd rfl q, fun _ => by first | trivial | lia | grind⟩, rfl⟩
  · refine g_aload_n dX7_is_13 rfl ?_
    refine g_aload_n dX7_is_14 rfl ?_
    refine f_X7_94 rfl rfl dX7_is_15 ?_
    refine g_topi (fun x7 ex7 => ?_)
    have rx7 : 0 ≤ x7 ∧ x7 ≤ 160 := by rw [ex7]; exact iv_at hu _ _ rfl
    have qx7 : x7 = x3 := by rw [ex7]; exact s4
    refine cl_X7_103 (c := 60) (As := [.int x7]) rfl (c_X7_byteAt_s (G := G) hs hu  x7 (by first | trivial | decide | lia | grind) (d)) rfl (by omega) rfl rfl (Nat.le_of_ble_eq_true rfl) dX7_is_18 (fun r8 u9 q10 => ?_)
    obtain ⟨⟨x11, rfl, tx11⟩, mq10⟩ := q10
    rw [mq10]
    refine g_iload_n dX7_is_21 rfl ?_
    refine g_icmp_ne (tgt := 58) dX7_is_22 (by decide) (fun c12 => ?_) (fun c12 => ?_)
    · refine g_iconst (v := 0) dX7_is_58 (by decide) ?_
      exact g_iret (ty := .boolean) dX7_is_59 rfl rfl ⟨⟨0, rfl, Or.inl rfl, fun q => absurd rfl q, fun _ => by first | trivial | lia | grind⟩, rfl⟩
    · refine g_aload_n dX7_is_25 rfl ?_
      refine g_aload_n dX7_is_26 rfl ?_
      refine f_X7_94 rfl rfl dX7_is_27 ?_
      refine g_topi (fun x13 ex13 => ?_)
      have rx13 : 0 ≤ x13 ∧ x13 ≤ 160 := by rw [ex13]; exact iv_at hu _ _ rfl
      have qx13 : x13 = x3 := by rw [ex13]; exact s4
      refine g_iconst (v := 1) dX7_is_30 (by decide) ?_
      refine g_iadd dX7_is_31 ?_
      refine g_topi (fun x14 ex14 => ?_)
      refine cl_X7_103 (c := 60) (As := [.int x14]) rfl (c_X7_byteAt_s (G := G) hs hu  x14 (by first | trivial | decide | lia | grind) (d)) rfl (by omega) rfl rfl (Nat.le_of_ble_eq_true rfl) dX7_is_32 (fun r15 u16 q17 => ?_)
      obtain ⟨⟨x18, rfl, tx18⟩, mq17⟩ := q17
      rw [mq17]
      refine g_iload_n dX7_is_35 rfl ?_
      refine g_icmp_ne (tgt := 58) dX7_is_36 (by decide) (fun c19 => ?_) (fun c19 => ?_)
      · refine g_iconst (v := 0) dX7_is_58 (by decide) ?_
        exact g_iret (ty := .boolean) dX7_is_59 rfl rfl ⟨⟨0, rfl, Or.inl rfl, fun q => absurd rfl q, fun _ => by first | trivial | lia | grind⟩, rfl⟩
      · refine g_aload_n dX7_is_39 rfl ?_
        refine g_aload_n dX7_is_40 rfl ?_
        refine f_X7_94 rfl rfl dX7_is_41 ?_
        refine g_topi (fun x20 ex20 => ?_)
        have rx20 : 0 ≤ x20 ∧ x20 ≤ 160 := by rw [ex20]; exact iv_at hu _ _ rfl
        have qx20 : x20 = x3 := by rw [ex20]; exact s4
        refine g_iconst (v := 2) dX7_is_44 (by decide) ?_
        refine g_iadd dX7_is_45 ?_
        refine g_topi (fun x21 ex21 => ?_)
        refine cl_X7_103 (c := 60) (As := [.int x21]) rfl (c_X7_byteAt_s (G := G) hs hu  x21 (by first | trivial | decide | lia | grind) (d)) rfl (by omega) rfl rfl (Nat.le_of_ble_eq_true rfl) dX7_is_46 (fun r22 u23 q24 => ?_)
        obtain ⟨⟨x25, rfl, tx25⟩, mq24⟩ := q24
        rw [mq24]
        refine g_iload dX7_is_49 rfl ?_
        refine g_icmp_ne (tgt := 58) dX7_is_51 (by decide) (fun c26 => ?_) (fun c26 => ?_)
        · refine g_iconst (v := 0) dX7_is_58 (by decide) ?_
          exact g_iret (ty := .boolean) dX7_is_59 rfl rfl ⟨⟨0, rfl, Or.inl rfl, fun q => absurd rfl q, fun _ => by first | trivial | lia | grind⟩, rfl⟩
        · refine g_iconst (v := 1) dX7_is_54 (by decide) ?_
          refine g_goto (tgt := 59) dX7_is_55 (by decide) ?_
          exact g_iret (ty := .boolean) dX7_is_59 rfl rfl ⟨⟨1, rfl, Or.inr rfl, fun _ => by first | trivial | lia | grind, fun q => absurd q (by decide)⟩, rfl⟩
