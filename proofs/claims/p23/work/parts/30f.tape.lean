theorem bt7a : ∀ j, j < 128 → vp_nar .byte ((nI j).toInt8.toInt32) = nI j := by decide +kernel
theorem bt7 {c x : Int32} (h0 : 0 ≤ c) (h : c ≤ 127) (e : x = c.toInt8.toInt32) : vp_nar .byte x = c := by
  obtain ⟨j, hj, rfl⟩ := nI_of2 (x := c) (M := 127) (n := 127) rfl (by grind) h
  rw [e]
  exact bt7a j (by omega)
theorem cpy_2 {A B : Nat → Int32} {k x : Int32} (h : cpy A B k) (h0 : 0 ≤ k) : cpy (upd A k.toNatClampNeg x) (upd B k.toNatClampNeg x) (k + 1) := fun i i0 i1 => by
  by_cases q : i = k
  · rw [upd_at q, upd_at q]
  · rw [upd_ne i0 h0 q, upd_ne i0 h0 q]
    exact h i i0 (by grind)
abbrev q_X4_append_s (u : uk_Mem) (c : Int32) (r : Option Value) (u' : uk_Mem) : Prop := (r = none) ∧ (iv u' ∧ fr 2 4 u u' ∧ (u.1 2 1 < 160 → u'.1 2 1 = u.1 2 1 + 1) ∧ (u.1 2 1 < 160 → u'.1 3 = upd (u.1 3) (u.1 2 1).toNatClampNeg c))
set_option maxHeartbeats 4000000 in
set_option maxRecDepth 20000 in
theorem c_X4_append_s {G : uk_D} (hs : uk_Sep G) {u : uk_Mem} (hu : iv u) (c : Int32) (p0 : 0 ≤ c) (p1 : c ≤ 127) (d : Nat) : uk_Meth G d mX4_append [.ref (uk_ad G 2), .int c] u (q_X4_append_s u c) := by
  refine uk_Meth.of hs (by decide) (Nat.le_of_ble_eq_true rfl) (fun X => ?_)
  have f0 : fr 2 4 u u := fr_rf
  refine g_aload_n dX4_append_0 rfl ?_
  refine f_X4_15 rfl rfl dX4_append_1 ?_
  refine g_topi (fun x1 ex1 => ?_)
  have rx1 : 0 ≤ x1 ∧ x1 ≤ 160 := by rw [ex1]; exact iv_at hu _ _ rfl
  have s2 : u.1 2 1 = x1 := ex1.symm
  refine g_sipush (v := 160) dX4_append_4 (by decide) ?_
  refine g_icmp_ge (tgt := 31) dX4_append_7 (by decide) (fun c3 => ?_) (fun c3 => ?_)
  · exact g_vret dX4_append_31 rfl ⟨rfl, hu, f0, (fun q => by exfalso; grind), (fun q => by exfalso; grind)⟩
  · refine g_aload_n dX4_append_10 rfl ?_
    refine f_X4_9 rfl rfl dX4_append_11 ?_
    refine g_aload_n dX4_append_14 rfl ?_
    refine f_X4_15 rfl rfl dX4_append_15 ?_
    refine g_topi (fun x4 ex4 => ?_)
    have rx4 : 0 ≤ x4 ∧ x4 ≤ 160 := by rw [ex4]; exact iv_at hu _ _ rfl
    have qx4 : x4 = x1 := by rw [ex4]; exact s2
    refine g_iload_n dX4_append_18 rfl ?_
    refine g_i2b dX4_append_19 ?_
    refine g_topi (fun x5 ex5 => ?_)
    have v6 : vp_in x4 160 := uk_vin 160 rfl (by first | decide | lia | grind) (by first | decide | lia | grind)
    have b7 := uk_cl v6
    refine g_bast rfl rfl v6 dX4_append_20 ?_
    refine g_mem (fun u8 eu8 => ?_)
    have hu8 : iv u8 := by rw [eu8]; exact iv_upF hu (uk_pick1 _ (by omega))
    have fu8 : fr 2 4 u u8 := by rw [eu8]; exact fr_up f0 (by omega) (by omega)
    refine g_aload_n dX4_append_21 rfl ?_
    refine g_dup dX4_append_22 rfl ?_
    refine f_X4_15 rfl rfl dX4_append_23 ?_
    refine g_topi (fun x9 ex9 => ?_)
    have rx9 : 0 ≤ x9 ∧ x9 ≤ 160 := by rw [ex9]; exact iv_at hu8 _ _ rfl
    have qx9 : x9 = x1 := by rw [ex9]; simp [eu8, uk_up_at, s2]
    refine g_iconst (v := 1) dX4_append_26 (by decide) ?_
    refine g_iadd dX4_append_27 ?_
    refine g_topi (fun x10 ex10 => ?_)
    refine p_X4_15 rfl rfl dX4_append_28 ?_
    refine g_mem (fun u11 eu11 => ?_)
    have hu11 : iv u11 := by rw [eu11]; exact iv_up hu8 rfl (by first | lia | grind) (by first | lia | grind)
    have fu11 : fr 2 4 u u11 := by rw [eu11]; exact fr_up fu8 (by omega) (by omega)
    have s12 : u11.1 2 1 = x10 := by rw [eu11, uk_up_at]; exact if_pos ⟨rfl, rfl⟩
    exact g_vret dX4_append_31 rfl ⟨rfl, hu11, fu11, (by grind [uk_up_at]), (fun q => by rw [eu11, uk_up_oc (by decide), eu8, uk_up_self, bt7 p0 p1 ex5, show (x4 : Int32) = u.1 2 1 by grind])⟩
abbrev q_X6_feed_s (u : uk_Mem) (c : Int32) (r : Option Value) (u' : uk_Mem) : Prop := (∃ x : Int32, r = some (.int x) ∧ (((c < 0 ∨ 127 < c) ∧ x = -1 ∧ u'.1 2 1 = u.1 2 1) ∨ (0 ≤ c ∧ c ≤ 127 ∧ 160 ≤ u.1 2 1 ∧ x = -3 ∧ u'.1 2 1 = u.1 2 1) ∨ (0 ≤ c ∧ c ≤ 127 ∧ u.1 2 1 < 160 ∧ x = u.1 2 1 + 1 ∧ u'.1 2 1 = u.1 2 1 + 1))) ∧ (iv u' ∧ fr 2 4 u u' ∧ (0 ≤ c ∧ c ≤ 127 ∧ u.1 2 1 < 160 → u'.1 3 = upd (u.1 3) (u.1 2 1).toNatClampNeg c) ∧ (¬ (0 ≤ c ∧ c ≤ 127 ∧ u.1 2 1 < 160) → u'.1 3 = u.1 3))
set_option maxHeartbeats 4000000 in
set_option maxRecDepth 20000 in
theorem c_X6_feed_s {G : uk_D} (hs : uk_Sep G) {u : uk_Mem} (hu : iv u) (c : Int32) (d : Nat) : uk_Meth G (d + 1) mX6_feed [.ref (uk_ad G 0), .int c] u (q_X6_feed_s u c) := by
  refine uk_Meth.of hs (by decide) (Nat.le_of_ble_eq_true rfl) (fun X => ?_)
  have f0 : fr 2 4 u u := fr_rf
  refine g_iload_n dX6_feed_0 rfl ?_
  refine g_if_lt (tgt := 10) dX6_feed_1 (by decide) (fun c1 => ?_) (fun c1 => ?_)
  · refine g_iconst (v := (-1)) dX6_feed_10 (by decide) ?_
    exact g_iret (ty := .int) dX6_feed_11 rfl rfl ⟨⟨_, rfl, by first | trivial | lia | grind⟩, hu, f0, (fun q => by exfalso; grind), (fun _ => rfl)⟩
  · refine g_iload_n dX6_feed_4 rfl ?_
    refine g_bipush (v := 127) dX6_feed_5 (by decide) ?_
    refine g_icmp_le (tgt := 12) dX6_feed_7 (by decide) (fun c2 => ?_) (fun c2 => ?_)
    · refine g_aload_n dX6_feed_12 rfl ?_
      refine f_X6_22 rfl rfl dX6_feed_13 ?_
      refine f_X6_84 rfl rfl dX6_feed_16 ?_
      refine g_topi (fun x3 ex3 => ?_)
      have rx3 : 0 ≤ x3 ∧ x3 ≤ 160 := by rw [ex3]; exact iv_at hu _ _ rfl
      have s4 : u.1 2 1 = x3 := ex3.symm
      refine g_sipush (v := 160) dX6_feed_19 (by decide) ?_
      refine g_icmp_lt (tgt := 28) dX6_feed_22 (by decide) (fun c5 => ?_) (fun c5 => ?_)
      · refine g_aload_n dX6_feed_28 rfl ?_
        refine f_X6_22 rfl rfl dX6_feed_29 ?_
        refine g_iload_n dX6_feed_32 rfl ?_
        refine cl_X6_87 (c := 2) (As := [.int c]) rfl (c_X4_append_s (G := G) hs hu  c (by first | trivial | decide | lia | grind) (by first | trivial | decide | lia | grind) (d)) rfl (by omega) rfl rfl (Nat.le_of_ble_eq_true rfl) dX6_feed_33 (fun r6 u7 q8 => ?_)
        obtain ⟨rfl, mq8⟩ := q8
        obtain ⟨hu7, gu7, ku70, ku71⟩ := mq8
        have fu7 : fr 2 4 u u7 := fr_tr f0 gu7 (by omega) (by omega)
        refine g_aload_n dX6_feed_36 rfl ?_
        refine f_X6_22 rfl rfl dX6_feed_37 ?_
        refine f_X6_84 rfl rfl dX6_feed_40 ?_
        refine g_topi (fun x9 ex9 => ?_)
        have rx9 : 0 ≤ x9 ∧ x9 ≤ 160 := by rw [ex9]; exact iv_at hu7 _ _ rfl
        have s10 : u7.1 2 1 = x9 := ex9.symm
        exact g_iret (ty := .int) dX6_feed_43 rfl rfl ⟨⟨_, rfl, by first | trivial | lia | grind⟩, hu7, fu7, (fun q => ku71 q.2.2), (fun q => by exfalso; grind)⟩
      · refine g_bipush (v := (-3)) dX6_feed_25 (by decide) ?_
        exact g_iret (ty := .int) dX6_feed_27 rfl rfl ⟨⟨_, rfl, by first | trivial | lia | grind⟩, hu, f0, (fun q => by exfalso; grind), (fun _ => rfl)⟩
    · refine g_iconst (v := (-1)) dX6_feed_10 (by decide) ?_
      exact g_iret (ty := .int) dX6_feed_11 rfl rfl ⟨⟨_, rfl, by first | trivial | lia | grind⟩, hu, f0, (fun q => by exfalso; grind), (fun _ => rfl)⟩
abbrev q_X7_feed_s (u : uk_Mem) (c : Int32) (r : Option Value) (u' : uk_Mem) : Prop := (∃ x : Int32, r = some (.int x) ∧ (((c < 0 ∨ 127 < c) ∧ x = -1 ∧ u'.1 60 13 = u.1 60 13) ∨ (0 ≤ c ∧ c ≤ 127 ∧ u.1 60 13 = 160 ∧ x = -3 ∧ u'.1 60 13 = u.1 60 13) ∨ (0 ≤ c ∧ c ≤ 127 ∧ ¬ u.1 60 13 = 160 ∧ x = u.1 60 13 + 1 ∧ u'.1 60 13 = u.1 60 13 + 1))) ∧ (iv u' ∧ fk [60, 69] [3, 7, 10, 11, 14, 15, 16, 17, 18, 19, 22, 28] u u' ∧ (0 ≤ c ∧ c ≤ 127 ∧ u.1 60 13 < 160 → u'.1 69 = upd (u.1 69) (u.1 60 13).toNatClampNeg c) ∧ (¬ (0 ≤ c ∧ c ≤ 127 ∧ u.1 60 13 < 160) → u'.1 69 = u.1 69))
set_option maxHeartbeats 4000000 in
set_option maxRecDepth 20000 in
theorem c_X7_feed_s {G : uk_D} (hs : uk_Sep G) {u : uk_Mem} (hu : iv u) (c : Int32) (d : Nat) : uk_Meth G (d + 1) mX7_feed [.ref (uk_ad G 60), .int c] u (q_X7_feed_s u c) := by
  refine uk_Meth.of hs (by decide) (Nat.le_of_ble_eq_true rfl) (fun X => ?_)
  have f0 : fk [60, 69] [3, 7, 10, 11, 14, 15, 16, 17, 18, 19, 22, 28] u u := fk_rf
  refine g_iload_n dX7_feed_0 rfl ?_
  refine g_i2l dX7_feed_1 ?_
  refine g_lconst (v := 0) dX7_feed_2 (by decide) ?_
  refine g_ldc2 (v := 127) k_X7_82 dX7_feed_3 ?_
  refine cl_X7_84 (As := [.long c.toInt64, .long 0, .long 127]) rfl (c_X7_in (G := G) hs hu  c 0 127  (d)) rfl (by omega) rfl (Nat.le_of_ble_eq_true rfl) dX7_feed_6 (fun r1 u2 q3 => ?_)
  obtain ⟨⟨x4, rfl, tx4, nx4, zx4⟩, mq3⟩ := q3
  rw [mq3]
  refine g_if_ne (tgt := 14) dX7_feed_9 (by decide) (fun c5 => ?_) (fun c5 => ?_)
  · have zc5 := nx4 c5
    refine g_aload_n dX7_feed_14 rfl ?_
    refine f_X7_88 rfl rfl dX7_feed_15 ?_
    refine g_topi (fun x6 ex6 => ?_)
    have rx6 : 0 ≤ x6 ∧ x6 ≤ 160 := by rw [ex6]; exact iv_at hu _ _ rfl
    have s7 : u.1 60 13 = x6 := ex6.symm
    refine g_sipush (v := 160) dX7_feed_18 (by decide) ?_
    refine g_icmp_ne (tgt := 27) dX7_feed_21 (by decide) (fun c8 => ?_) (fun c8 => ?_)
    · refine g_aload_n dX7_feed_27 rfl ?_
      refine f_X7_35 rfl rfl dX7_feed_28 ?_
      refine g_aload_n dX7_feed_31 rfl ?_
      refine f_X7_88 rfl rfl dX7_feed_32 ?_
      refine g_topi (fun x9 ex9 => ?_)
      have rx9 : 0 ≤ x9 ∧ x9 ≤ 160 := by rw [ex9]; exact iv_at hu _ _ rfl
      have qx9 : x9 = x6 := by rw [ex9]; exact s7
      refine g_iload_n dX7_feed_35 rfl ?_
      have v10 : vp_in x9 160 := uk_vin 160 rfl (by first | decide | lia | grind) (by first | decide | lia | grind)
      have b11 := uk_cl v10
      refine g_iast rfl rfl v10 dX7_feed_36 ?_
      refine g_mem (fun u12 eu12 => ?_)
      have hu12 : iv u12 := by rw [eu12]; exact iv_up hu (uk_pick1 _ (by omega)) (by first | lia | grind) (by first | lia | grind)
      have fu12 : fk [60, 69] [3, 7, 10, 11, 14, 15, 16, 17, 18, 19, 22, 28] u u12 := by rw [eu12]; exact fk_up f0 (by decide) (fun q => absurd q (by decide))
      refine g_aload_n dX7_feed_37 rfl ?_
      refine g_dup dX7_feed_38 rfl ?_
      refine f_X7_88 rfl rfl dX7_feed_39 ?_
      refine g_topi (fun x13 ex13 => ?_)
      have rx13 : 0 ≤ x13 ∧ x13 ≤ 160 := by rw [ex13]; exact iv_at hu12 _ _ rfl
      have qx13 : x13 = x6 := by rw [ex13]; simp [eu12, uk_up_at, s7]
      refine g_iconst (v := 1) dX7_feed_42 (by decide) ?_
      refine g_iadd dX7_feed_43 ?_
      refine g_topi (fun x14 ex14 => ?_)
      refine p_X7_88 rfl rfl dX7_feed_44 ?_
      refine g_mem (fun u15 eu15 => ?_)
      have hu15 : iv u15 := by rw [eu15]; exact iv_up hu12 rfl (by first | lia | grind) (by first | lia | grind)
      have fu15 : fk [60, 69] [3, 7, 10, 11, 14, 15, 16, 17, 18, 19, 22, 28] u u15 := by rw [eu15]; exact fk_up fu12 (by decide) (fun _ => by decide)
      have s16 : u15.1 60 13 = x14 := by rw [eu15, uk_up_at]; exact if_pos ⟨rfl, rfl⟩
      refine g_aload_n dX7_feed_47 rfl ?_
      refine f_X7_88 rfl rfl dX7_feed_48 ?_
      refine g_topi (fun x17 ex17 => ?_)
      have rx17 : 0 ≤ x17 ∧ x17 ≤ 160 := by rw [ex17]; exact iv_at hu15 _ _ rfl
      have qx17 : x17 = x14 := by rw [ex17]; exact s16
      exact g_iret (ty := .int) dX7_feed_51 rfl rfl ⟨⟨_, rfl, by first | trivial | lia | grind⟩, hu15, fu15, (fun q => by rw [eu15, uk_up_oc (by decide), eu12, uk_up_self, show (x9 : Int32) = u.1 60 13 by grind]), (fun q => by exfalso; grind)⟩
    · refine g_bipush (v := (-3)) dX7_feed_24 (by decide) ?_
      exact g_iret (ty := .int) dX7_feed_26 rfl rfl ⟨⟨_, rfl, by first | trivial | lia | grind⟩, hu, f0, (fun q => by exfalso; grind), (fun _ => rfl)⟩
  · have zc5 := zx4 c5
    refine g_iconst (v := (-1)) dX7_feed_12 (by decide) ?_
    exact g_iret (ty := .int) dX7_feed_13 rfl rfl ⟨⟨_, rfl, by first | trivial | lia | grind⟩, hu, f0, (fun q => by exfalso; grind), (fun _ => rfl)⟩
abbrev q_X6_fault_s (u : uk_Mem)  (r : Option Value) (u' : uk_Mem) : Prop := (∃ x : Int32, r = some (.int x) ∧ x = u.1 0 13) ∧ (u' = u)
set_option maxHeartbeats 4000000 in
set_option maxRecDepth 20000 in
theorem c_X6_fault_s {G : uk_D} (hs : uk_Sep G) {u : uk_Mem} (hu : iv u)  (d : Nat) : uk_Meth G d mX6_fault [.ref (uk_ad G 0)] u (q_X6_fault_s u) := by
  refine uk_Meth.of hs (by decide) (Nat.le_of_ble_eq_true rfl) (fun X => ?_)
  refine g_aload_n dX6_fault_0 rfl ?_
  refine f_X6_77 rfl rfl dX6_fault_1 ?_
  refine g_topi (fun x1 ex1 => ?_)
  have s2 : u.1 0 13 = x1 := ex1.symm
  exact g_iret (ty := .int) dX6_fault_4 rfl rfl ⟨⟨_, rfl, by first | trivial | lia | grind⟩, rfl⟩
abbrev q_X7_fault_s (u : uk_Mem)  (r : Option Value) (u' : uk_Mem) : Prop := (∃ x : Int32, r = some (.int x) ∧ x = u.1 60 18) ∧ (u' = u)
set_option maxHeartbeats 4000000 in
set_option maxRecDepth 20000 in
theorem c_X7_fault_s {G : uk_D} (hs : uk_Sep G) {u : uk_Mem} (hu : iv u)  (d : Nat) : uk_Meth G d mX7_fault [.ref (uk_ad G 60)] u (q_X7_fault_s u) := by
  refine uk_Meth.of hs (by decide) (Nat.le_of_ble_eq_true rfl) (fun X => ?_)
  refine g_aload_n dX7_fault_0 rfl ?_
  refine f_X7_91 rfl rfl dX7_fault_1 ?_
  refine g_topi (fun x1 ex1 => ?_)
  have rx1 : 0 ≤ x1 ∧ x1 ≤ 6 := by rw [ex1]; exact iv_at hu _ _ rfl
  have s2 : u.1 60 18 = x1 := ex1.symm
  exact g_iret (ty := .int) dX7_fault_4 rfl rfl ⟨⟨_, rfl, by first | trivial | lia | grind⟩, rfl⟩
abbrev q_X6_read_s (u : uk_Mem) (k : Int32) (l : Int32) (f : Int32) (n : Int32) (r : Option Value) (u' : uk_Mem) : Prop := (∃ x : Int32, r = some (.int x) ∧ True) ∧ (iv u' ∧ fr 0 22 u u' ∧ u'.1 2 1 = u.1 2 1 ∧ u'.1 0 13 = u.1 0 13 ∧ u'.1 3 = u.1 3)
set_option maxHeartbeats 4000000 in
set_option maxRecDepth 20000 in
theorem c_X6_read_s {G : uk_D} (hs : uk_Sep G) {u : uk_Mem} (hu : iv u) (k : Int32) (l : Int32) (f : Int32) (n : Int32) (d : Nat) : uk_Meth G (d + 4) mX6_read [.ref (uk_ad G 0), .int k, .int l, .int f, .int n] u (q_X6_read_s u k l f n) := by
  refine uk_Meth.of hs (by decide) (Nat.le_of_ble_eq_true rfl) (fun X => ?_)
  have f0 : fr 0 22 u u := fr_rf
  have C3 : u.1 3 = u.1 3 := rfl
  obtain ⟨t1, Tt1⟩ : ∃ t, u.1 0 13 = t := ⟨_, rfl⟩
  refine g_iload_n dX6_read_0 rfl ?_
  refine cl_X6_251 (As := [.int k]) rfl (c_X6_isSheet (G := G) hs hu  k  (d + 3)) rfl (by omega) rfl (Nat.le_of_ble_eq_true rfl) dX6_read_1 (fun r2 u3 q4 => ?_)
  obtain ⟨⟨x5, rfl, tx5, nx5, zx5⟩, mq4⟩ := q4
  rw [mq4]
  refine g_if_eq (tgt := 26) dX6_read_4 (by decide) (fun c6 => ?_) (fun c6 => ?_)
  · have zc6 := zx5 c6
    refine g_iconst (v := (-1)) dX6_read_26 (by decide) ?_
    exact g_iret (ty := .int) dX6_read_27 rfl rfl ⟨⟨_, rfl, by first | trivial | lia | grind⟩, hu, f0, (by first | grind | grind [uk_up_at]), (Tt1.trans Tt1.symm), C3⟩
  · have zc6 := nx5 c6
    refine g_iload_n dX6_read_7 rfl ?_
    refine cl_X6_254 (As := [.int l]) rfl (c_X6_isLane (G := G) hs hu  l  (d + 3)) rfl (by omega) rfl (Nat.le_of_ble_eq_true rfl) dX6_read_8 (fun r7 u8 q9 => ?_)
    obtain ⟨⟨x10, rfl, tx10, nx10, zx10⟩, mq9⟩ := q9
    rw [mq9]
    refine g_if_eq (tgt := 26) dX6_read_11 (by decide) (fun c11 => ?_) (fun c11 => ?_)
    · have zc11 := zx10 c11
      refine g_iconst (v := (-1)) dX6_read_26 (by decide) ?_
      exact g_iret (ty := .int) dX6_read_27 rfl rfl ⟨⟨_, rfl, by first | trivial | lia | grind⟩, hu, f0, (by first | grind | grind [uk_up_at]), (Tt1.trans Tt1.symm), C3⟩
    · have zc11 := nx10 c11
      refine g_iload dX6_read_14 rfl ?_
      refine g_if_lt (tgt := 26) dX6_read_16 (by decide) (fun c12 => ?_) (fun c12 => ?_)
      · refine g_iconst (v := (-1)) dX6_read_26 (by decide) ?_
        exact g_iret (ty := .int) dX6_read_27 rfl rfl ⟨⟨_, rfl, by first | trivial | lia | grind⟩, hu, f0, (by first | grind | grind [uk_up_at]), (Tt1.trans Tt1.symm), C3⟩
      · refine g_iload dX6_read_19 rfl ?_
        refine g_bipush (v := 20) dX6_read_21 (by decide) ?_
        refine g_icmp_le (tgt := 28) dX6_read_23 (by decide) (fun c13 => ?_) (fun c13 => ?_)
        · refine g_aload_n dX6_read_28 rfl ?_
          refine f_X6_16 rfl rfl dX6_read_29 ?_
          refine g_aload_n dX6_read_32 rfl ?_
          refine f_X6_10 rfl rfl dX6_read_33 ?_
          refine cl_X6_101 (c := 4) (As := [.ref (uk_ad G 13)]) rfl (c_X0_copyFrom (G := G) hs hu uk_isK4 uk_isK13   (d + 3)) rfl (by omega) rfl rfl (Nat.le_of_ble_eq_true rfl) dX6_read_36 (fun r14 u15 q16 => ?_)
          obtain ⟨rfl, mq16⟩ := q16
          obtain ⟨hu15, gu15⟩ := mq16
          have fu15 : fr 0 22 u u15 := fr_tr f0 gu15 (by omega) (by omega)
          have T17 : u15.1 0 13 = t1 := (fr_at gu15 (by omega)).trans Tt1
          have C18 : u15.1 3 = u.1 3 := (gu15.1 3 (by omega)).trans C3
          have wu15_2_1 : u15.1 2 1 = u.1 2 1 := fr_at gu15 (by omega)
          refine g_iconst (v := 0) dX6_read_39 (by decide) ?_
          refine g_istore dX6_read_40 (by decide) ?_
          have L42_18 : ∀ i20 : Int32, 0 ≤ i20 → i20 ≤ 20 → ∀ (u21 : uk_Mem), iv u21 → fr 0 22 u u21 → u21.1 2 1 = u.1 2 1 → u21.1 0 13 = u.1 0 13 → u21.1 3 = u.1 3 → uk_G G X mX6_read (d + 4) (q_X6_read_s u k l f n) 42 [(0, .ref (uk_ad G 0)), (1, .int k), (2, .int l), (3, .int f), (4, .int n), (5, .int i20)] [] u21 := by
            refine uk_upl 20 ?_
            intro i20 ai20 bi20 ihi20  u21 hu21 fu21 ji200 ji201 ji202
            have C3_u21 : u21.1 3 = u21.1 3 := rfl
            obtain ⟨t22, Tt22⟩ : ∃ t, u21.1 0 13 = t := ⟨_, rfl⟩
            refine g_iload dX6_read_42 rfl ?_
            refine g_iload dX6_read_44 rfl ?_
            refine g_icmp_ge (tgt := 122) dX6_read_46 (by decide) (fun c23 => ?_) (fun c23 => ?_)
            · refine g_aload_n dX6_read_122 rfl ?_
              refine g_iconst (v := 0) dX6_read_123 (by decide) ?_
              refine p_X6_81 rfl rfl dX6_read_124 ?_
              refine g_mem (fun u24 eu24 => ?_)
              have hu24 : iv u24 := by rw [eu24]; exact iv_upF hu21 rfl
              have fu24 : fr 0 22 u u24 := by rw [eu24]; exact fr_up fu21 (by omega) (by omega)
              have C25 : u24.1 3 = u21.1 3 := by rw [eu24]; exact (uk_up_oc (by decide)).trans C3_u21
              have s26 : u24.1 0 14 = 0 := by rw [eu24, uk_up_at]; exact if_pos ⟨rfl, rfl⟩
              have T27 : u24.1 0 13 = t22 := by rw [eu24, uk_up_at, if_neg (by decide)]; exact Tt22
              refine g_iload dX6_read_127 rfl ?_
              exact g_iret (ty := .int) dX6_read_129 rfl rfl ⟨⟨_, rfl, by first | trivial | lia | grind⟩, hu24, fu24, (by first | grind | grind [uk_up_at]), (T27.trans (Tt22.symm.trans ji201)), (C25.trans ji202)⟩
            · refine g_aload_n dX6_read_49 rfl ?_
              refine f_X6_62 rfl rfl dX6_read_50 ?_
              refine g_iload_n dX6_read_53 rfl ?_
              refine g_iload_n dX6_read_54 rfl ?_
              refine g_iload_n dX6_read_55 rfl ?_
              refine g_iload dX6_read_56 rfl ?_
              refine g_iadd dX6_read_58 ?_
              refine g_topi (fun x28 ex28 => ?_)
              refine cl_X6_268 (c := 49) (As := [.int k, .int l, .int x28]) rfl (c_X3_faultAs (G := G) hs hu21  k l x28 (by first | trivial | decide | lia | grind) (by first | trivial | decide | lia | grind) (d + 1)) rfl (by omega) rfl rfl (Nat.le_of_ble_eq_true rfl) dX6_read_59 (fun r29 u30 q31 => ?_)
              obtain ⟨⟨x32, rfl, tx32⟩, mq31⟩ := q31
              rw [mq31]
              refine g_istore dX6_read_62 (by decide) ?_
              refine g_iload dX6_read_64 rfl ?_
              refine g_if_eq (tgt := 78) dX6_read_66 (by decide) (fun c33 => ?_) (fun c33 => ?_)
              · refine g_aload_n dX6_read_78 rfl ?_
                refine g_aload_n dX6_read_79 rfl ?_
                refine f_X6_62 rfl rfl dX6_read_80 ?_
                refine f_X6_272 rfl rfl dX6_read_83 ?_
                refine g_iload_n dX6_read_86 rfl ?_
                have v34 : vp_in k 4 := uk_vin 4 rfl (by first | decide | lia | grind) (by first | decide | lia | grind)
                refine g_aald rfl rfl v34 dX6_read_87 ?_
                have b35 := uk_cl v34
                refine g_iload_n dX6_read_88 rfl ?_
                refine g_iload dX6_read_89 rfl ?_
                refine g_iadd dX6_read_91 ?_
                refine g_topi (fun x36 ex36 => ?_)
                have v37 : vp_in x36 40 := uk_vin 40 rfl (by first | decide | lia | grind) (by first | decide | lia | grind)
                refine g_iald (ks_kind b35) (ks_len b35) v37 dX6_read_92 ?_
                refine g_topi (fun x38 ex38 => ?_)
                refine cl_X6_276 (c := 0) (As := [.int x38]) rfl (c_X6_does (G := G) hs hu21  x38  (d)) rfl (by omega) rfl rfl (Nat.le_of_ble_eq_true rfl) dX6_read_93 (fun r39 u40 q41 => ?_)
                obtain ⟨⟨x42, rfl, tx42⟩, mq41⟩ := q41
                obtain ⟨hu40, gu40⟩ := mq41
                have fu40 : fr 0 22 u u40 := fr_tr fu21 gu40 (by omega) (by omega)
                have T43 : u40.1 0 13 = t22 := (fr_at gu40 (by omega)).trans Tt22
                have C44 : u40.1 3 = u21.1 3 := (gu40.1 3 (by omega)).trans C3_u21
                have wu40_2_1 : u40.1 2 1 = u21.1 2 1 := fr_at gu40 (by omega)
                refine g_if_ge (tgt := 116) dX6_read_96 (by decide) (fun c45 => ?_) (fun c45 => ?_)
                · refine g_iinc (v := i20 + 1) dX6_read_116 rfl rfl (by decide) ?_
                  refine g_goto (tgt := 42) dX6_read_119 (by decide) ?_
                  refine g_pick (lv' := [(0, .ref (uk_ad G 0)), (1, .int k), (2, .int l), (3, .int f), (4, .int n), (5, .int (i20 + 1))]) [0, 1, 2, 3, 4, 5] rfl ?_
                  exact ihi20 (by first | lia | grind)  u40 hu40 fu40 (by grind) (T43.trans (Tt22.symm.trans ji201)) (C44.trans ji202)
                · refine g_aload_n dX6_read_99 rfl ?_
                  refine f_X6_10 rfl rfl dX6_read_100 ?_
                  refine g_aload_n dX6_read_103 rfl ?_
                  refine f_X6_16 rfl rfl dX6_read_104 ?_
                  refine cl_X6_101 (c := 13) (As := [.ref (uk_ad G 4)]) rfl (c_X0_copyFrom (G := G) hs hu40 uk_isK13 uk_isK4   (d + 3)) rfl (by omega) rfl rfl (Nat.le_of_ble_eq_true rfl) dX6_read_107 (fun r46 u47 q48 => ?_)
                  obtain ⟨rfl, mq48⟩ := q48
                  obtain ⟨hu47, gu47⟩ := mq48
                  have fu47 : fr 0 22 u u47 := fr_tr fu40 gu47 (by omega) (by omega)
                  have T49 : u47.1 0 13 = t22 := (fr_at gu47 (by omega)).trans T43
                  have C50 : u47.1 3 = u21.1 3 := (gu47.1 3 (by omega)).trans C44
                  have wu47_2_1 : u47.1 2 1 = u40.1 2 1 := fr_at gu47 (by omega)
                  refine g_bipush (v := (-20)) dX6_read_110 (by decide) ?_
                  refine g_iload dX6_read_112 rfl ?_
                  refine g_isub dX6_read_114 ?_
                  refine g_topi (fun x51 ex51 => ?_)
                  exact g_iret (ty := .int) dX6_read_115 rfl rfl ⟨⟨_, rfl, by first | trivial | lia | grind⟩, hu47, fu47, (by first | grind | grind [uk_up_at]), (T49.trans (Tt22.symm.trans ji201)), (C50.trans ji202)⟩
              · refine g_aload_n dX6_read_69 rfl ?_
                refine g_iload dX6_read_70 rfl ?_
                refine p_X6_81 rfl rfl dX6_read_72 ?_
                refine g_mem (fun u52 eu52 => ?_)
                have hu52 : iv u52 := by rw [eu52]; exact iv_upF hu21 rfl
                have fu52 : fr 0 22 u u52 := by rw [eu52]; exact fr_up fu21 (by omega) (by omega)
                have C53 : u52.1 3 = u21.1 3 := by rw [eu52]; exact (uk_up_oc (by decide)).trans C3_u21
                have s54 : u52.1 0 14 = x32 := by rw [eu52, uk_up_at]; exact if_pos ⟨rfl, rfl⟩
                have T55 : u52.1 0 13 = t22 := by rw [eu52, uk_up_at, if_neg (by decide)]; exact Tt22
                refine g_iload dX6_read_75 rfl ?_
                exact g_iret (ty := .int) dX6_read_77 rfl rfl ⟨⟨_, rfl, by first | trivial | lia | grind⟩, hu52, fu52, (by first | grind | grind [uk_up_at]), (T55.trans (Tt22.symm.trans ji201)), (C53.trans ji202)⟩
          refine g_pick (lv' := [(0, .ref (uk_ad G 0)), (1, .int k), (2, .int l), (3, .int f), (4, .int n), (5, .int 0)]) [0, 1, 2, 3, 4, 5] rfl ?_
          exact L42_18 0 (by first | decide | lia | grind) (by first | decide | lia | grind)  u15 hu15 fu15 (by grind) (T17.trans Tt1.symm) C18
        · refine g_iconst (v := (-1)) dX6_read_26 (by decide) ?_
          exact g_iret (ty := .int) dX6_read_27 rfl rfl ⟨⟨_, rfl, by first | trivial | lia | grind⟩, hu, f0, (by first | grind | grind [uk_up_at]), (Tt1.trans Tt1.symm), C3⟩
