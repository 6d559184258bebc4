theorem bt7a : ∀ j, j < 128 → vp_nar .byte ((nI j).toInt8.toInt32) = nI j := by decide +kernel
theorem bt7 {c x : Int32} (h0 : 0 ≤ c) (h : c ≤ 127) (e : x = c.toInt8.toInt32) : vp_nar .byte x = c := by
  obtain ⟨j, hj, rfl⟩ := nI_of2 (x := c) (M := 127) (n := 127) rfl (by grind) h
  rw [e]
  exact bt7a j (by omega)
theorem cpy_2 {A B : Nat → Int32} {k x : Int32} (h : cpy A B k) (h0 : 0 ≤ k) : cpy (upd A k.toNatClampNeg x) (upd B k.toNatClampNeg x) (k + 1) := fun i i0 i1 => by
  by_cases q : i = k
  · rw [upd_at q, upd_at q]
  · rw [upd_ne i0 h0 q, upd_ne i0 h0 q]
    exact h i i0 (by grind)
abbrev q_X4_append_s (u : uk_Mem) (c : Int32) (r : Option Value) (u' : uk_Mem) : Prop := (r = none) ∧ (iv u' ∧ fr 2 4 u u' ∧ (u.1 2 1 < 160 → u'.1 2 1 = u.1 2 1 + 1) ∧ (u.1 2 1 < 160 → u'.1 3 = upd (u.1 3) (u.1 2 1).toNatClampNeg c))
set_option maxHeartbeats 4000000 in
set_option maxRecDepth 20000 in
theorem c_X4_append_s {G : uk_D} (hs : uk_Sep G) {u : uk_Mem} (hu : iv u) (c : Int32) (p0 : 0 ≤ c) (p1 : c ≤ 127) (d : Nat) : uk_Meth G d mX4_append [.ref (uk_ad G 2), .int c] u (q_X4_append_s u c) := by
  refine uk_Meth.of hs (by decide) (Nat.le_of_ble_eq_true rfl) (fun X => ?_)
  have f0 : fr 2 4 u u := fr_rf
  refine g_aload_n dX4_append_0 rfl ?_
  refine f_X4_15 rfl rfl dX4_append_1 ?_
  refine g_topi (fun x1 ex1 => ?_)
  have rx1 : 0 ≤ x1 ∧ x1 ≤ 160 := by rw [ex1]; exact iv_at hu _ _ rfl
  have s2 : u.1 2 1 = x1 := ex1.symm
  refine g_sipush (v := 160) dX4_append_4 (by decide) ?_
  refine g_icmp_ge (tgt := 31) dX4_append_7 (by decide) (fun c3 => ?_) (fun c3 => ?_)
  · exact g_vret dX4_append_31 rfl ⟨rfl, hu, f0, (fun q => by exfalso; grind), (fun q => by exfalso; grind)⟩
  · refine g_aload_n dX4_append_10 rfl ?_
    refine f_X4_9 rfl rfl dX4_append_11 ?_
    refine g_aload_n dX4_append_14 rfl ?_
    refine f_X4_15 rfl rfl dX4_append_15 ?_
    refine g_topi (fun x4 ex4 => ?_)
    have rx4 : 0 ≤ x4 ∧ x4 ≤ 160 := by rw [ex4]; exact iv_at hu _ _ rfl
    have qx4 : x4 = x1 := by rw [ex4]; exact s2
    refine g_iload_n dX4_append_18 rfl ?_
    refine g_i2b dX4_append_19 ?_
    refine g_topi (fun x5 ex5 => ?_)
    have v6 : vp_in x4 160 := uk_vin 160 rfl (by first | decide | lia | grind) (by first | decide | lia | grind)
    have b7 := uk_cl v6
    refine g_bast rfl rfl v6 dX4_append_20 ?_
    refine g_mem (fun u8 eu8 => ?_)
    have hu8 : iv u8 := by rw [eu8]; exact iv_upF hu (uk_pick1 _ (by omega))
    have fu8 : fr 2 4 u u8 := by rw [eu8]; exact fr_up f0 (by omega) (by omega)
    refine g_aload_n dX4_append_21 rfl ?_
    refine g_dup dX4_append_22 rfl ?_
    refine f_X4_15 rfl rfl dX4_append_23 ?_
    refine g_topi (fun x9 ex9 => ?_)
    have rx9 : 0 ≤ x9 ∧ x9 ≤ 160 := by rw [ex9]; exact iv_at hu8 _ _ rfl
    have qx9 : x9 = x1 := by rw [ex9]; simp [eu8, uk_up_at, s2]
    refine g_iconst (v := 1) dX4_append_26 (by decide) ?_
    refine g_iadd dX4_append_27 ?_
    refine g_topi (fun x10 ex10 => ?_)
    refine p_X4_15 rfl rfl dX4_append_28 ?_
    refine g_mem (fun u11 eu11 => ?_)
    have hu11 : iv u11 := by rw [eu11]; exact iv_up hu8 rfl (by first | lia | grind) (by first | lia | grind)
    have fu11 : fr 2 4 u u11 := by rw [eu11]; exact fr_up fu8 (by omega) (by omega)
    have s12 : u11.1 2 1 = x10 := by rw [eu11, uk_up_at]; exact if_pos ⟨rfl, rfl⟩
    exact g_vret dX4_append_31 rfl ⟨rfl, hu11, fu11, (by grind [uk_up_at]), (fun q => by rw [eu11, uk_up_oc (by decide), eu8, uk_up_self, bt7 p0 p1 ex5, show (x4 : Int32) = u.1 2 1 by grind])⟩
abbrev q_X6_feed_s (u : uk_Mem) (c : Int32) (r : Option Value) (u' : uk_Mem) : Prop := (∃ x : Int32, r = some (.int x) ∧ (((c < 0 ∨ 127 < c) ∧ x = -1 ∧ u'.1 2 1 = u.1 2 1) ∨ (0 ≤ c ∧ c ≤ 127 ∧ 160 ≤ u.1 2 1 ∧ x = -3 ∧ u'.1 2 1 = u.1 2 1) ∨ (0 ≤ c ∧ c ≤ 127 ∧ u.1 2 1 < 160 ∧ x = u.1 2 1 + 1 ∧ u'.1 2 1 = u.1 2 1 + 1))) ∧ (iv u' ∧ fr 2 4 u u' ∧ (0 ≤ c ∧ c ≤ 127 ∧ u.1 2 1 < 160 → u'.1 3 = upd (u.1 3) (u.1 2 1).toNatClampNeg c) ∧ (¬ (0 ≤ c ∧ c ≤ 127 ∧ u.1 2 1 < 160) → u'.1 3 = u.1 3))
set_option maxHeartbeats 4000000 in
set_option maxRecDepth 20000 in
theorem c_X6_feed_s {G : uk_D} (hs : uk_Sep G) {u : uk_Mem} (hu : iv u) (c : Int32) (d : Nat) : uk_Meth G (d + 1) mX6_feed [.ref (uk_ad G 0), .int c] u (q_X6_feed_s u c) := by
  refine uk_Meth.of hs (by decide) (Nat.le_of_ble_eq_true rfl) (fun X => ?_)
  have f0 : fr 2 4 u u := fr_rf
  refine g_iload_n dX6_feed_0 rfl ?_
  refine g_if_lt (tgt := 10) dX6_feed_1 (by decide) (fun c1 => ?_) (fun c1 => ?_)
  · refine g_iconst (v := (-1)) dX6_feed_10 (by decide) ?_
    exact g_iret (ty := .int) dX6_feed_11 rfl rfl ⟨⟨_, rfl, by first | trivial | lia | grind⟩, hu, f0, (fun q => by exfalso; grind), (fun _ => rfl)⟩
  · refine g_iload_n dX6_feed_4 rfl ?_
    refine g_bipush (v := 127) dX6_feed_5 (by decide) ?_
    refine g_icmp_le (tgt := 12) dX6_feed_7 (by decide) (fun c2 => ?_) (fun c2 => ?_)
    · refine g_aload_n dX6_feed_12 rfl ?_
      refine f_X6_22 rfl rfl dX6_feed_13 ?_
      refine f_X6_84 rfl rfl dX6_feed_16 ?_
      refine g_topi (fun x3 ex3 => ?_)
      have rx3 : 0 ≤ x3 ∧ x3 ≤ 160 := by rw [ex3]; exact iv_at hu _ _ rfl
      have s4 : u.1 2 1 = x3 := ex3.symm
      refine g_sipush (v := 160) dX6_feed_19 (by decide) ?_
      refine g_icmp_lt (tgt := 28) dX6_feed_22 (by decide) (fun c5 => ?_) (fun c5 => ?_)
      · refine g_aload_n dX6_feed_28 rfl ?_
        refine f_X6_22 rfl rfl dX6_feed_29 ?_
        refine g_iload_n dX6_feed_32 rfl ?_
        refine cl_X6_87 (c := 2) (As := [.int c]) rfl (c_X4_append_s (G := G) hs hu  c (by first | trivial | decide | lia | grind) (by first | trivial | decide | lia | grind) (d)) rfl (by omega) rfl rfl (Nat.le_of_ble_eq_true rfl) dX6_feed_33 (fun r6 u7 q8 => ?_)
        obtain ⟨rfl, mq8⟩ := q8
        obtain ⟨hu7, gu7, ku70, ku71⟩ := mq8
        have fu7 : fr 2 4 u u7 := fr_tr f0 gu7 (by omega) (by omega)
        refine g_aload_n dX6_feed_36 rfl ?_
        refine f_X6_22 rfl rfl dX6_feed_37 ?_
        refine f_X6_84 rfl rfl dX6_feed_40 ?_
        refine g_topi (fun x9 ex9 => ?_)
        have rx9 : 0 ≤ x9 ∧ x9 ≤ 160 := by rw [ex9]; exact iv_at hu7 _ _ rfl
        have s10 : u7.1 2 1 = x9 := ex9.symm
        exact g_iret (ty := .int) dX6_feed_43 rfl rfl ⟨⟨_, rfl, by first | trivial | lia | grind⟩, hu7, fu7, (fun q => ku71 q.2.2), (fun q => by exfalso; grind)⟩
      · refine g_bipush (v := (-3)) dX6_feed_25 (by decide) ?_
        exact g_iret (ty := .int) dX6_feed_27 rfl rfl ⟨⟨_, rfl, by first | trivial | lia | grind⟩, hu, f0, (fun q => by exfalso; grind), (fun _ => rfl)⟩
    · refine g_iconst (v := (-1)) dX6_feed_10 (by decide) ?_
      exact g_iret (ty := .int) dX6_feed_11 rfl rfl ⟨⟨_, rfl, by first | trivial | lia | grind⟩, hu, f0, (fun q => by exfalso; grind), (fun _ => rfl)⟩
abbrev q_X7_feed_s (u : uk_Mem) (c : Int32) (r : Option Value) (u' : uk_Mem) : Prop := (∃ x : Int32, r = some (.int x) ∧ (((c < 0 ∨ 127 < c) ∧ x = -1 ∧ u'.1 60 13 = u.1 60 13) ∨ (0 ≤ c ∧ c ≤ 127 ∧ u.1 60 13 = 160 ∧ x = -3 ∧ u'.1 60 13 = u.1 60 13) ∨ (0 ≤ c ∧ c ≤ 127 ∧ ¬ u.1 60 13 = 160 ∧ x = u.1 60 13 + 1 ∧ u'.1 60 13 = u.1 60 13 + 1))) ∧ (iv u' ∧ fk [60, 69] [3, 7, 10, 11, 14, 15, 16, 17, 18, 19, 22, 28] u u' ∧ (0 ≤ c ∧ c ≤ 127 ∧ u.1 60 13 < 160 → u'.1 69 = upd (u.1 69) (u.1 60 13).toNatClampNeg c) ∧ (¬ (0 ≤ c ∧ c ≤ 127 ∧ u.1 60 13 < 160) → u'.1 69 = u.1 69))
set_option maxHeartbeats 4000000 in
set_option maxRecDepth 20000 in
theorem c_X7_feed_s {G : uk_D} (hs : uk_Sep G) {u : uk_Mem} (hu : iv u) (c : Int32) (d : Nat) : uk_Meth G (d + 1) mX7_feed [.ref (uk_ad G 60), .int c] u (q_X7_feed_s u c) := by
  refine uk_Meth.of hs (by decide) (Nat.le_of_ble_eq_true rfl) (fun X => ?_)
  have f0 : fk [60, 69] [3, 7, 10, 11, 14, 15, 16, 17, 18, 19, 22, 28] u u := fk_rf
  refine g_iload_n dX7_feed_0 rfl ?_
  refine g_i2l dX7_feed_1 ?_
  refine g_lconst (v := 0) dX7_feed_2 (by decide) ?_
  refine g_ldc2 (v := 127) k_X7_82 dX7_feed_3 ?_
  refine cl_X7_84 (As := [.long c.toInt64, .long 0, .long 127]) rfl (c_X7_in (G := G) hs hu  c 0 127  (d)) rfl (by omega) rfl (Nat.le_of_ble_eq_true rfl) dX7_feed_6 (fun r1 u2 q3 => ?_)
  obtain ⟨⟨x4, rfl, tx4, nx4, zx4⟩, mq3⟩ := q3
  rw [mq3]
  refine g_if_ne (tgt := 14) dX7_feed_9 (by decide) (fun c5 => ?_) (fun c5 => ?_)
  · have zc5 := nx4 c5
    refine g_aload_n dX7_feed_14 rfl ?_
    refine f_X7_88 rfl rfl dX7_feed_15 ?_
    refine g_topi (fun x6 ex6 => ?_)
    have rx6 : 0 ≤ x6 ∧ x6 ≤ 160 := by rw [ex6]; exact iv_at hu _ _ rfl
    have s7 : u.1 60 13 = x6 := ex6.symm
    refine g_sipush (v := 160) dX7_feed_18 (by decide) ?_
    refine g_icmp_ne (tgt := 27) dX7_feed_21 (by decide) (fun c8 => ?_) (fun c8 => ?_)
    · refine g_aload_n dX7_feed_27 rfl ?_
      refine f_X7_35 rfl rfl dX7_feed_28 ?_
      refine g_aload_n dX7_feed_31 rfl ?_
      refine f_X7_88 rfl rfl dX7_feed_32 ?_
      refine g_topi (fun x9 ex9 => ?_)
      have rx9 : 0 ≤ x9 ∧ x9 ≤ 160 := by rw [ex9]; exact iv_at hu _ _ rfl
      have qx9 : x9 = x6 := by rw [ex9]; exact s7
      refine g_iload_n dX7_feed_35 rfl ?_
      have v10 : vp_in x9 160 := uk_vin 160 rfl (by first | decide | lia | grind) (by first | decide | lia | grind)
      have b11 := uk_cl v10
      refine g_iast rfl rfl v10 dX7_feed_36 ?_
      refine g_mem (fun u12 eu12 => ?_)
      have hu12 : iv u12 := by rw [eu12]; exact iv_up hu (uk_pick1 _ (by omega)) (by first | lia | grind) (by first | lia | grind)
      have fu12 : fk [60, 69] [3, 7, 10, 11, 14, 15, 16, 17, 18, 19, 22, 28] u u12 := by rw [eu12]; exact fk_up f0 (by decide) (fun q => absurd q (by decide))
      refine g_aload_n dX7_feed_37 rfl ?_
      refine g_dup dX7_feed_38 rfl ?_
      refine f_X7_88 rfl rfl dX7_feed_39 ?_
      refine g_topi (fun x13 ex13 => ?_)
      have rx13 : 0 ≤ x13 ∧ x13 ≤ 160 := by rw [ex13]; exact iv_at hu12 _ _ rfl
      have qx13 : x13 = x6 := by rw [ex13]; simp [eu12, uk_up_at, s7]
      refine g_iconst (v := 1) dX7_feed_42 (by decide) ?_
      refine g_iadd dX7_feed_43 ?_
      refine g_topi (fun x14 ex14 => ?_)
      refine p_X7_88 rfl rfl dX7_feed_44 ?_
      refine g_mem (fun u15 eu15 => ?_)
      have hu15 : iv u15 := by rw [eu15]; exact iv_up hu12 rfl (by first | lia | grind) (by first | lia | grind)
      have fu15 : fk [60, 69] [3, 7, 10, 11, 14, 15, 16, 17, 18, 19, 22, 28] u u15 := by rw [eu15]; exact fk_up fu12 (by decide) (fun _ => by decide)
      have s16 : u15.1 60 13 = x14 := by rw [eu15, uk_up_at]; exact if_pos ⟨rfl, rfl⟩
      refine g_aload_n dX7_feed_47 rfl ?_
      refine f_X7_88 rfl rfl dX7_feed_48 ?_
      refine g_topi (fun x17 ex17 => ?_)
      have rx17 : 0 ≤ x17 ∧ x17 ≤ 160 := by rw [ex17]; exact iv_at hu15 _ _ rfl
      have qx17 : x17 = x14 := by rw [ex17]; exact s16
      exact g_iret (ty := .int) dX7_feed_51 rfl rfl ⟨⟨_, rfl, by first | trivial | lia | grind⟩, hu15, fu15, (fun q => by rw [eu15, uk_up_oc (by decide), eu12, uk_up_self, show (x9 : Int32) = u.1 60 13 by grind]), (fun q => by exfalso; grind)⟩
    · refine g_bipush (v := (-3)) dX7_feed_24 (by decide) ?_
      exact g_iret (ty := .int) dX7_feed_26 rfl rfl ⟨⟨_, rfl, by first | trivial | lia | grind⟩, hu, f0, (fun q => by exfalso; grind), (fun _ => rfl)⟩
  · have zc5 := zx4 c5
    refine g_iconst (v := (-1)) dX7_feed_12 (by decide) ?_
    exact g_iret (ty := .int) dX7_feed_13 rfl rfl ⟨⟨_, rfl, by first | trivial | lia | grind⟩, hu, f0, (fun q => by exfalso; grind), (fun _ => rfl)⟩
abbrev q_X6_fault_s (u : uk_Mem)  (r : Option Value) (u' : uk_Mem) : Prop := (∃ x : Int32, r = some (.int x) ∧ x = u.1 0 13) ∧ (u' = u)
set_option maxHeartbeats 4000000 in
set_option maxRecDepth 20000 in
theorem c_X6_fault_s {G : uk_D} (hs : uk_Sep G) {u : uk_Mem} (hu : iv u)  (d : Nat) : uk_Meth G d mX6_fault [.ref (uk_ad G 0)] u (q_X6_fault_s u) := by
  refine uk_Meth.of hs (by decide) (Nat.le_of_ble_eq_true rfl) (fun X => ?_)
  refine g_aload_n dX6_fault_0 rfl ?_
  refine f_X6_77 rfl rfl dX6_fault_1 ?_
  refine g_topi (fun x1 ex1 => ?_)
  have s2 : u.1 0 13 = x1 := ex1.symm
  exact g_iret (ty := .int) dX6_fault_4 rfl rfl ⟨⟨_, rfl, by first | trivial | lia | grind⟩, rfl⟩
abbrev q_X7_fault_s (u : uk_Mem)  (r : Option Value) (u' : uk_Mem) : Prop := (∃ x : Int32, r = some (.int x) ∧ x = u.1 60 18) ∧ (u' = u)
set_option maxHeartbeats 4000000 in
set_option maxRecDepth 20000 in
theorem c_X7_fault_s {G : uk_D} (hs : uk_Sep G) {u : uk_Mem} (hu : iv u)  (d : Nat) : uk_Meth G d mX7_fault [.ref (uk_ad G 60)] u (q_X7_fault_s u) := by
  refine uk_Meth.of hs (by decide) (Nat.le_of_ble_eq_true rfl) (fun X => ?_)
  refine g_aload_n dX7_fault_0 rfl ?_
  refine f_X7_91 rfl rfl dX7_fault_1 ?_
  refine g_topi (fun x1 ex1 => ?_)
  have rx1 : 0 ≤ x1 ∧ x1 ≤ 6 := by rw [ex1]; exact iv_at hu _ _ rfl
  have s2 : u.1 60 18 = x1 := ex1.symm
  exact g_iret (ty := .int) dX7_fault_4 rfl rfl ⟨⟨_, rfl, by first | trivial | lia | grind⟩, rfl⟩