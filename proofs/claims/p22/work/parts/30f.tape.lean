theorem bt7a : ∀ j, j < 128 → vp_nar .byte ((nI j).toInt8.toInt32) = nI j := by decide +kernel
theorem bt7 {c x : Int32} (h0 : 0 ≤ c) (h : c ≤ 127) (e : x = c.toInt8.toInt32) : vp_nar .byte x = c := by
  obtain ⟨j, hj, rfl⟩ := nI_of2 (x := c) (M := 127) (n := 127) rfl (by grind) h
  rw [e]
  exact bt7a j (by omega)
theorem cpy_2 {A B : Nat → Int32} {k x : Int32} (h : cpy A B k) (h0 : 0 ≤ k) : cpy (upd A k.toNatClampNeg x) (upd B k.toNatClampNeg x) (k + 1) := fun i i0 i1 => by
  by_cases q : i = k
  · rw [upd_at q, upd_at q]
  · rw [upd_ne i0 h0 q, upd_ne i0 h0 q]
    exact h i i0 (by grind)
abbrev q_X4_append_s (u : uk_Mem) (c : Int32) (r : Option Value) (u' : uk_Mem) : Prop := (r = none) ∧ (iv u' ∧ fr 2 4 u u' ∧ (u.1 2 1 < 160 → u'.1 2 1 = u.1 2 1 + 1) ∧ (u.1 2 1 < 160 → u'.1 3 = upd (u.1 3) (u.1 2 1).toNatClampNeg c))
set_option maxHeartbeats 4000000 in
set_option maxRecDepth 20000 in
theorem c_X4_append_s {G : uk_D} (hs : uk_Sep G) {u : uk_Mem} (hu : iv u) (c : Int32) (p0 : 0 ≤ c) (p1 : c ≤ 127) (d : Nat) : uk_Meth G d mX4_append [.ref (uk_ad G 2), .int c] u (q_X4_append_s u c) := by
  refine uk_Meth.of hs (by decide) (Nat.le_of_ble_eq_true rfl) (fun X => ?_)
  have f0 : fr 2 4 u u := fr_rf
  refine g_aload_n dX4_append_0 rfl ?_
  refine f_X4_15 rfl rfl dX4_append_1 ?_
  refine g_topi (fun x1 ex1 => ?_)
  have rx1 : 0 ≤ x1 ∧ x1 ≤ 160 := by rw [ex1]; exact iv_at hu _ _ rfl
  have s2 : u.1 2 1 = x1 := ex1.symm
  refine g_sipush (v := 160) dX4_append_4 (by decide) ?_
  refine g_icmp_ge (tgt := 31) dX4_append_7 (by decide) (fun c3 => ?_) (fun c3 => ?_)
  · exact g_vret dX4_append_31 rfl ⟨rfl, hu, f0, (fun q => by exfalso; grind), (fun q => by exfalso; grind)⟩
  · refine g_aload_n dX4_append_10 rfl ?_
    refine f_X4_9 rfl rfl dX4_append_11 ?_
    refine g_aload_n dX4_append_14 rfl ?_
    refine f_X4_15 rfl rfl dX4_append_15 ?_
    refine g_topi (fun x4 ex4 => ?_)
    have rx4 : 0 ≤ x4 ∧ x4 ≤ 160 := by rw [ex4]; exact iv_at hu _ _ rfl
    have qx4 : x4 = x1 := by rw [ex4]; exact s2
    refine g_iload_n dX4_append_18 rfl ?_
    refine g_i2b dX4_append_19 ?_
    refine g_topi (fun x5 ex5 => ?_)
    have v6 : vp_in x4 160 := uk_vin 160 rfl (by first | decide | lia | grind) (by first | decide | lia | grind)
    have b7 := uk_cl v6
    refine g_bast rfl rfl v6 dX4_append_20 ?_
    refine g_mem (fun u8 eu8 => ?_)
    have hu8 : iv u8 := by rw [eu8]; exact iv_upF hu (uk_pick1 _ (by omega))
    have fu8 : fr 2 4 u u8 := by rw [eu8]; exact fr_up f0 (by omega) (by omega)
    refine g_aload_n dX4_append_21 rfl ?_
    refine g_dup dX4_append_22 rfl ?_
    refine f_X4_15 rfl rfl dX4_append_23 ?_
    refine g_topi (fun x9 ex9 => ?_)
    have rx9 : 0 ≤ x9 ∧ x9 ≤ 160 := by rw [ex9]; exact iv_at hu8 _ _ rfl
    have qx9 : x9 = x1 := by rw [ex9]; simp [eu8, uk_up_at, s2]
    refine g_iconst (v := 1) dX4_append_26 (by decide) ?_
    refine g_iadd dX4_append_27 ?_
    refine g_topi (fun x10 ex10 => ?_)
    refine p_X4_15 rfl rfl dX4_append_28 ?_
    refine g_mem (fun u11 eu11 => ?_)
    have hu11 : iv u11 := by rw [eu11]; exact iv_up hu8 rfl (by first | lia | grind) (by first | lia | grind)
    have fu11 : fr 2 4 u u11 := by rw [eu11]; exact fr_up fu8 (by omega) (by omega)
    have s12 : u11.1 2 1 = x10 := by rw [eu11, uk_up_at]; exact if_pos ⟨rfl, rfl⟩
    exact g_vret dX4_append_31 rfl ⟨rfl, hu11, fu11, (by grind [uk_up_at]), (fun q => by rw [eu11, uk_up_oc (by decide), eu8, uk_up_self, bt7 p0 p1 ex5, show (x4 : Int32) = u.1 2 1 by grind])⟩
abbrev q_X6_feed_s (u : uk_Mem) (c : Int32) (r : Option Value) (u' : uk_Mem) : Prop := (∃ x : Int32, r = some (.int x) ∧ (((c < 0 ∨ 127 < c) ∧ x = -1 ∧ u'.1 2 1 = u.1 2 1) ∨ (0 ≤ c ∧ c ≤ 127 ∧ 160 ≤ u.1 2 1 ∧ x = -3 ∧ u'.1 2 1 = u.1 2 1) ∨ (0 ≤ c ∧ c ≤ 127 ∧ u.1 2 1 < 160 ∧ x = u.1 2 1 + 1 ∧ u'.1 2 1 = u.1 2 1 + 1))) ∧ (iv u' ∧ fr 2 4 u u' ∧ (0 ≤ c ∧ c ≤ 127 ∧ u.1 2 1 < 160 → u'.1 3 = upd (u.1 3) (u.1 2 1).toNatClampNeg c) ∧ (¬ (0 ≤ c ∧ c ≤ 127 ∧ u.1 2 1 < 160) → u'.1 3 = u.1 3))
set_option maxHeartbeats 4000000 in
set_option maxRecDepth 20000 in
theorem c_X6_feed_s {G : uk_D} (hs : uk_Sep G) {u : uk_Mem} (hu : iv u) (c : Int32) (d : Nat) : uk_Meth G (d + 1) mX6_feed [.ref (uk_ad G 0), .int c] u (q_X6_feed_s u c) := by
  refine uk_Meth.of hs (by decide) (Nat.le_of_ble_eq_true rfl) (fun X => ?_)
  have f0 : fr 2 4 u u := fr_rf
  refine g_iload_n dX6_feed_0 rfl ?_
  refine g_if_lt (tgt := 10) dX6_feed_1 (by decide) (fun c1 => ?_) (fun c1 => ?_)
  · refine g_iconst (v := (-1)) dX6_feed_10 (by decide) ?_
    exact g_iret (ty := .int) dX6_feed_11 rfl rfl ⟨⟨_, rfl, by first | trivial | lia | grind⟩, hu, f0, (fun q => by exfalso; grind), (fun _ => rfl)⟩
  · refine g_iload_n dX6_feed_4 rfl ?_
    refine g_bipush (v := 127) dX6_feed_5 (by decide) ?_
    refine g_icmp_le (tgt := 12) dX6_feed_7 (by decide) (fun c2 => ?_) (fun c2 => ?_)
    · refine g_aload_n dX6_feed_12 rfl ?_
      refine f_X6_22 rfl rfl dX6_feed_13 ?_
      refine f_X6_84 rfl rfl dX6_feed_16 ?_
      refine g_topi (fun x3 ex3 => ?_)
      have rx3 : 0 ≤ x3 ∧ x3 ≤ 160 := by rw [ex3]; exact iv_at hu _ _ rfl
      have s4 : u.1 2 1 = x3 := ex3.symm
      refine g_sipush (v := 160) dX6_feed_19 (by decide) ?_
      refine g_icmp_lt (tgt := 28) dX6_feed_22 (by decide) (fun c5 => ?_) (fun c5 => ?_)
      · refine g_aload_n dX6_feed_28 rfl ?_
        refine f_X6_22 rfl rfl dX6_feed_29 ?_
        refine g_iload_n dX6_feed_32 rfl ?_
        refine cl_X6_87 (c := 2) (As := [.int c]) rfl (c_X4_append_s (G := G) hs hu  c (by first | trivial | decide | lia | grind) (by first | trivial | decide | lia | grind) (d)) rfl (by omega) rfl rfl (Nat.le_of_ble_eq_true rfl) dX6_feed_33 (fun r6 u7 q8 => ?_)
        obtain ⟨rfl, mq8⟩ := q8
        obtain ⟨hu7, gu7, ku70, ku71⟩ := mq8
        have fu7 : fr 2 4 u u7 := fr_tr f0 gu7 (by omega) (by omega)
        refine g_aload_n dX6_feed_36 rfl ?_
        refine f_X6_22 rfl rfl dX6_feed_37 ?_
        refine f_X6_84 rfl rfl dX6_feed_40 ?_
        refine g_topi (fun x9 ex9 => ?_)
        have rx9 : 0 ≤ x9 ∧ x9 ≤ 160 := by rw [ex9]; exact iv_at hu7 _ _ rfl
        have s10 : u7.1 2 1 = x9 := ex9.symm
        exact g_iret (ty := .int) dX6_feed_43 rfl rfl ⟨⟨_, rfl, by first | trivial | lia | grind⟩, hu7, fu7, (fun q => ku71 q.2.2), (fun q => by exfalso; grind)⟩
      · refine g_bipush (v := (-3)) dX6_feed_25 (by decide) ?_
        exact g_iret (ty := .int) dX6_feed_27 rfl rfl ⟨⟨_, rfl, by first | trivial | lia | grind⟩, hu, f0, (fun q => by exfalso; grind), (fun _ => rfl)⟩
    · refine g_iconst (v := (-1)) dX6_feed_10 (by decide) ?_
      exact g_iret (ty := .int) dX6_feed_11 rfl rfl ⟨⟨_, rfl, by first | trivial | lia | grind⟩, hu, f0, (fun q => by exfalso; grind), (fun _ => rfl)⟩
abbrev q_X7_feed_s (u : uk_Mem) (c : Int32) (r : Option Value) (u' : uk_Mem) : Prop := (∃ x : Int32, r = some (.int x) ∧ (((c < 0 ∨ 127 < c) ∧ x = -1 ∧ u'.1 60 13 = u.1 60 13) ∨ (0 ≤ c ∧ c ≤ 127 ∧ u.1 60 13 = 160 ∧ x = -3 ∧ u'.1 60 13 = u.1 60 13) ∨ (0 ≤ c ∧ c ≤ 127 ∧ ¬ u.1 60 13 = 160 ∧ x = u.1 60 13 + 1 ∧ u'.1 60 13 = u.1 60 13 + 1))) ∧ (iv u' ∧ fk [60, 69] [3, 7, 10, 11, 14, 15, 16, 17, 18, 19, 22, 28] u u' ∧ (0 ≤ c ∧ c ≤ 127 ∧ u.1 60 13 < 160 → u'.1 69 = upd (u.1 69) (u.1 60 13).toNatClampNeg c) ∧ (¬ (0 ≤ c ∧ c ≤ 127 ∧ u.1 60 13 < 160) → u'.1 69 = u.1 69))
set_option maxHeartbeats 4000000 in
set_option maxRecDepth 20000 in
theorem c_X7_feed_s {G : uk_D} (hs : uk_Sep G) {u : uk_Mem} (hu : iv u) (c : Int32) (d : Nat) : uk_Meth G (d + 1) mX7_feed [.ref (uk_ad G 60), .int c] u (q_X7_feed_s u c) := by
  refine uk_Meth.of hs (by decide) (Nat.le_of_ble_eq_true rfl) (fun X => ?_)
  have f0 : fk [60, 69] [3, 7, 10, 11, 14, 15, 16, 17, 18, 19, 22, 28] u u := fk_rf
  refine g_iload_n dX7_feed_0 rfl ?_
  refine g_i2l dX7_feed_1 ?_
  refine g_lconst (v := 0) dX7_feed_2 (by decide) ?_
  refine g_ldc2 (v := 127) k_X7_82 dX7_feed_3 ?_
  refine cl_X7_84 (As := [.long c.toInt64, .long 0, .long 127]) rfl (c_X7_in (G := G) hs hu  c 0 127  (d)) rfl (by omega) rfl (Nat.le_of_ble_eq_true rfl) dX7_feed_6 (fun r1 u2 q3 => ?_)
  obtain ⟨⟨x4, rfl, tx4, nx4, zx4⟩, mq3⟩ := q3
  rw [mq3]
  refine g_if_ne (tgt := 14) dX7_feed_9 (by decide) (fun c5 => ?_) (fun c5 => ?_)
  · have zc5 := nx4 c5
    refine g_aload_n dX7_feed_14 rfl ?_
    refine f_X7_88 rfl rfl dX7_feed_15 ?_
    refine g_topi (fun x6 ex6 => ?_)
    have rx6 : 0 ≤ x6 ∧ x6 ≤ 160 := by rw [ex6]; exact iv_at hu _ _ rfl
    have s7 : u.1 60 13 = x6 := ex6.symm
    refine g_sipush (v := 160) dX7_feed_18 (by decide) ?_
    refine g_icmp_ne (tgt := 27) dX7_feed_21 (by decide) (fun c8 => ?_) (fun c8 => ?_)
    · refine g_aload_n dX7_feed_27 rfl ?_
      refine f_X7_35 rfl rfl dX7_feed_28 ?_
      refine g_aload_n dX7_feed_31 rfl ?_
      refine f_X7_88 rfl rfl dX7_feed_32 ?_
      refine g_topi (fun x9 ex9 => ?_)
      have rx9 : 0 ≤ x9 ∧ x9 ≤ 160 := by rw [ex9]; exact iv_at hu _ _ rfl
      have qx9 : x9 = x6 := by rw [ex9]; exact s7
      refine g_iload_n dX7_feed_35 rfl ?_
      have v10 : vp_in x9 160 := uk_vin 160 rfl (by first | decide | lia | grind) (by first | decide | lia | grind)
      have b11 := uk_cl v10
      refine g_iast rfl rfl v10 dX7_feed_36 ?_
      refine g_mem (fun u12 eu12 => ?_)
      have hu12 : iv u12 := by rw [eu12]; exact iv_up hu (uk_pick1 _ (by omega)) (by first | lia | grind) (by first | lia | grind)
      have fu12 : fk [60, 69] [3, 7, 10, 11, 14, 15, 16, 17, 18, 19, 22, 28] u u12 := by rw [eu12]; exact fk_up f0 (by decide) (fun q => absurd q (by decide))
      refine g_aload_n dX7_feed_37 rfl ?_
      refine g_dup dX7_feed_38 rfl ?_
      refine f_X7_88 rfl rfl dX7_feed_39 ?_
      refine g_topi (fun x13 ex13 => ?_)
      have rx13 : 0 ≤ x13 ∧ x13 ≤ 160 := by rw [ex13]; exact iv_at hu12 _ _ rfl
      have qx13 : x13 = x6 := by rw [ex13]; simp [eu12, uk_up_at, s7]
      refine g_iconst (v := 1) dX7_feed_42 (by decide) ?_
      refine g_iadd dX7_feed_43 ?_
      refine g_topi (fun x14 ex14 => ?_)
      refine p_X7_88 rfl rfl dX7_feed_44 ?_
      refine g_mem (fun u15 eu15 => ?_)
      have hu15 : iv u15 := by rw [eu15]; exact iv_up hu12 rfl (by first | lia | grind) (by first | lia | grind)
      have fu15 : fk [60, 69] [3, 7, 10, 11, 14, 15, 16, 17, 18, 19, 22, 28] u u15 := by rw [eu15]; exact fk_up fu12 (by decide) (fun _ => by decide)
      have s16 : u15.1 60 13 = x14 := by rw [eu15, uk_up_at]; exact if_pos ⟨rfl, rfl⟩
      refine g_aload_n dX7_feed_47 rfl ?_
      refine f_X7_88 rfl rfl dX7_feed_48 ?_
      refine g_topi (fun x17 ex17 => ?_)
      have rx17 : 0 ≤ x17 ∧ x17 ≤ 160 := by rw [ex17]; exact iv_at hu15 _ _ rfl
      have qx17 : x17 = x14 := by rw [ex17]; exact s16
      exact g_iret (ty := .int) dX7_feed_51 rfl rfl ⟨⟨_, rfl, by first | trivial | lia | grind⟩, hu15, fu15, (fun q => by rw [eu15, uk_up_oc (by decide), eu12, uk_up_self, show (x9 : Int32) = u.1 60 13 by grind]), (fun q => by exfalso; grind)⟩
    · refine g_bipush (v := (-3)) dX7_feed_24 (by decide) ?_
      exact g_iret (ty := .int) dX7_feed_26 rfl rfl ⟨⟨_, rfl, by first | trivial | lia | grind⟩, hu, f0, (fun q => by exfalso; grind), (fun _ => rfl)⟩
  · have zc5 := zx4 c5
    refine g_iconst (v := (-1)) dX7_feed_12 (by decide) ?_
    exact g_iret (ty := .int) dX7_feed_13 rfl rfl ⟨⟨_, rfl, by first | trivial | lia | grind⟩, hu, f0, (fun q => by exfalso; grind), (fun _ => rfl)⟩
abbrev q_X6_fault_s (u : uk_Mem)  (r : Option Value) (u' : uk_Mem) : Prop := (∃ x : Int32, r = some (.int x) ∧ x = u.1 0 13) ∧ (u' = u)
set_option maxHeartbeats 4000000 in
set_option maxRecDepth 20000 in
theorem c_X6_fault_s {G : uk_D} (hs : uk_Sep G) {u : uk_Mem} (hu : iv u)  (d : Nat) : uk_Meth G d mX6_fault [.ref (uk_ad G 0)] u (q_X6_fault_s u) := by
  refine uk_Meth.of hs (by decide) (Nat.le_of_ble_eq_true rfl) (fun X => ?_)
  refine g_aload_n dX6_fault_0 rfl ?_
  refine f_X6_77 rfl rfl dX6_fault_1 ?_
  refine g_topi (fun x1 ex1 => ?_)
  have s2 : u.1 0 13 = x1 := ex1.symm
  exact g_iret (ty := .int) dX6_fault_4 rfl rfl ⟨⟨_, rfl, by first | trivial | lia | grind⟩, rfl⟩
abbrev q_X7_fault_s (u : uk_Mem)  (r : Option Value) (u' : uk_Mem) : Prop := (∃ x : Int32, r = some (.int x) ∧ x = u.1 60 18) ∧ (u' = u)
set_option maxHeartbeats 4000000 in
set_option maxRecDepth 20000 in
theorem c_X7_fault_s {G : uk_D} (hs : uk_Sep G) {u : uk_Mem} (hu : iv u)  (d : Nat) : uk_Meth G d mX7_fault [.ref (uk_ad G 60)] u (q_X7_fault_s u) := by
  refine uk_Meth.of hs (by decide) (Nat.le_of_ble_eq_true rfl) (fun X => ?_)
  refine g_aload_n dX7_fault_0 rfl ?_
  refine f_X7_91 rfl rfl dX7_fault_1 ?_
  refine g_topi (fun x1 ex1 => ?_)
  have rx1 : 0 ≤ x1 ∧ x1 ≤ 6 := by rw [ex1]; exact iv_at hu _ _ rfl
  have s2 : u.1 60 18 = x1 := ex1.symm
  exact g_iret (ty := .int) dX7_fault_4 rfl rfl ⟨⟨_, rfl, by first | trivial | lia | grind⟩, rfl⟩
/-! exact contracts: what a method answers and leaves, as a pure function -/
theorem ee_i {p : Int32 × uk_Mem} {x : Int32} {u' : uk_Mem} (h : p = (x, u')) : some (Value.int x) = some (Value.int p.1) ∧ u' = p.2 := by rw [h]; exact ⟨rfl, rfl⟩
theorem ee_p {x y : Int32} (h : y = x) : some (Value.int x) = some (Value.int y) := by rw [h]
theorem ee_v {x y : Int32} (h : some (Value.int x) = some (Value.int y)) : x = y := by cases h; rfl
def ee_W (x y : Int32) : Prop := x = y
def ee_K : Nat := 4294967296
def ee_F (B i : Int32) (k : Nat) : Prop := B.toInt < i.toInt + (k : Int)
def ee_D (i : Int32) (k : Nat) : Prop := i.toInt + 1 < (k : Int)
theorem ee_F0 (B i : Int32) : ee_F B i ee_K := by
  unfold ee_F ee_K
  have := Int32.toInt_lt B
  have := Int32.le_toInt i
  omega
theorem ee_D0 (i : Int32) : ee_D i ee_K := by
  unfold ee_D ee_K
  have := Int32.toInt_lt i
  omega
theorem ee_Fp {B i : Int32} {k : Nat} (h : i ≤ B) (f : ee_F B i k) : ∃ j, k = j + 1 := by
  unfold ee_F at f
  have := Int32.le_iff_toInt_le.mp h
  exact ⟨k - 1, by omega⟩
theorem ee_Dp {i : Int32} {k : Nat} (h : -1 ≤ i) (f : ee_D i k) : ∃ j, k = j + 1 := by
  unfold ee_D at f
  have := Int32.le_iff_toInt_le.mp h
  have e : (-1 : Int32).toInt = -1 := rfl
  exact ⟨k - 1, by omega⟩
theorem ee_Fs {B i j : Int32} {k : Nat} (f : ee_F B i (k + 1)) (h : i < j) : ee_F B j k := by
  unfold ee_F at *
  have := Int32.lt_iff_toInt_lt.mp h
  omega
theorem ee_Ds {i j : Int32} {k : Nat} (f : ee_D i (k + 1)) (h : j < i) : ee_D j k := by
  unfold ee_D at *
  have := Int32.lt_iff_toInt_lt.mp h
  omega
def e_X6_stuffOf (u : uk_Mem) (g : Int32) : Int32 := if g < (10 : Int32) then (g) else (let x2 : Int32 := g - (10 : Int32); x2)
abbrev qe_X6_stuffOf (u : uk_Mem) (g : Int32) (r : Option Value) (u' : uk_Mem) : Prop := (q_X6_stuffOf u g r u') ∧ (r = some (.int (e_X6_stuffOf u g)))
set_option maxHeartbeats 4000000 in
set_option maxRecDepth 20000 in
theorem x_X6_stuffOf {G : uk_D} (hs : uk_Sep G) {u : uk_Mem} (hu : iv u) (g : Int32) (d : Nat) : uk_Meth G d mX6_stuffOf [.int g] u (qe_X6_stuffOf u g) := by
  refine uk_Meth.of hs (by decide) (Nat.le_of_ble_eq_true rfl) (fun X => ?_)
  refine g_iload_n dX6_stuffOf_0 rfl ?_
  refine g_bipush (v := 10) dX6_stuffOf_1 (by decide) ?_
  refine g_icmp_lt (tgt := 13) dX6_stuffOf_3 (by decide) (fun c1 => ?_) (fun c1 => ?_)
  · refine g_iload_n dX6_stuffOf_13 rfl ?_
    exact g_iret (ty := .int) dX6_stuffOf_14 rfl rfl ⟨⟨⟨_, rfl, by first | trivial | lia | grind⟩, rfl⟩, ee_p (by exact (if_pos c1).trans (rfl))⟩
  · refine g_iload_n dX6_stuffOf_6 rfl ?_
    refine g_bipush (v := 10) dX6_stuffOf_7 (by decide) ?_
    refine g_isub dX6_stuffOf_9 ?_
    refine g_topi (fun x2 ex2 => ?_)
    refine g_goto (tgt := 14) dX6_stuffOf_10 (by decide) ?_
    exact g_iret (ty := .int) dX6_stuffOf_14 rfl rfl ⟨⟨⟨_, rfl, by first | trivial | lia | grind⟩, rfl⟩, ee_p (by subst ex2; exact (if_neg c1).trans (rfl))⟩
def e_X0_hasStuff (u : uk_Mem) (kb : Nat) (m : Int32) : Int32 := if m < 0 then ((0 : Int32)) else (let x2 : Int32 := u.1 kb 0; if x2 ≤ m then ((0 : Int32)) else ((1 : Int32)))
abbrev qe_X0_hasStuff (u : uk_Mem) (kb : Nat) (m : Int32) (r : Option Value) (u' : uk_Mem) : Prop := (q_X0_hasStuff u kb m r u') ∧ (r = some (.int (e_X0_hasStuff u kb m)))
set_option maxHeartbeats 4000000 in
set_option maxRecDepth 20000 in
theorem x_X0_hasStuff {G : uk_D} (hs : uk_Sep G) {u : uk_Mem} (hu : iv u) {kb : Nat} (hkb : uk_isK kb) (m : Int32) (d : Nat) : uk_Meth G d mX0_hasStuff [.ref (uk_ad G kb), .int m] u (qe_X0_hasStuff u kb m) := by
  refine uk_Meth.of hs (by decide) (Nat.le_of_ble_eq_true rfl) (fun X => ?_)
  refine g_iload_n dX0_hasStuff_0 rfl ?_
  refine g_if_lt (tgt := 16) dX0_hasStuff_1 (by decide) (fun c1 => ?_) (fun c1 => ?_)
  · refine g_iconst (v := 0) dX0_hasStuff_16 (by decide) ?_
    exact g_iret (ty := .boolean) dX0_hasStuff_17 rfl rfl ⟨⟨⟨0, rfl, Or.inl rfl, fun q => absurd rfl q, fun _ => by first | trivial | lia | grind⟩, rfl⟩, ee_p (by exact (if_pos c1).trans (rfl))⟩
  · refine g_iload_n dX0_hasStuff_4 rfl ?_
    refine g_aload_n dX0_hasStuff_5 rfl ?_
    refine f_X0_9 rfl (kk_0 hkb) dX0_hasStuff_6 ?_
    refine g_topi (fun x2 ex2 => ?_)
    have rx2 : 0 ≤ x2 ∧ x2 ≤ 8 := by rw [ex2]; exact iv_at hu _ _ (kr_0 hkb)
    have s3 : u.1 kb 0 = x2 := ex2.symm
    refine g_icmp_ge (tgt := 16) dX0_hasStuff_9 (by decide) (fun c4 => ?_) (fun c4 => ?_)
    · refine g_iconst (v := 0) dX0_hasStuff_16 (by decide) ?_
      exact g_iret (ty := .boolean) dX0_hasStuff_17 rfl rfl ⟨⟨⟨0, rfl, Or.inl rfl, fun q => absurd rfl q, fun _ => by first | trivial | lia | grind⟩, rfl⟩, ee_p (by subst ex2; exact (if_neg c1).trans ((if_pos c4).trans (rfl)))⟩
    · refine g_iconst (v := 1) dX0_hasStuff_12 (by decide) ?_
      refine g_goto (tgt := 17) dX0_hasStuff_13 (by decide) ?_
      exact g_iret (ty := .boolean) dX0_hasStuff_17 rfl rfl ⟨⟨⟨1, rfl, Or.inr rfl, fun _ => by first | trivial | lia | grind, fun q => absurd q (by decide)⟩, rfl⟩, ee_p (by subst ex2; exact (if_neg c1).trans ((if_neg c4).trans (rfl)))⟩
def e_X0_isMade (u : uk_Mem) (kb : Nat) (m : Int32) : Int32 := let x2 : Int32 := u.1 (kb + 1) m.toNatClampNeg; if x2 = (4 : Int32) then ((0 : Int32)) else ((1 : Int32))
abbrev qe_X0_isMade (u : uk_Mem) (kb : Nat) (m : Int32) (r : Option Value) (u' : uk_Mem) : Prop := (q_X0_isMade u kb m r u') ∧ (r = some (.int (e_X0_isMade u kb m)))
set_option maxHeartbeats 4000000 in
set_option maxRecDepth 20000 in
theorem x_X0_isMade {G : uk_D} (hs : uk_Sep G) {u : uk_Mem} (hu : iv u) {kb : Nat} (hkb : uk_isK kb) (m : Int32) (p0 : 0 ≤ m) (p1 : m ≤ 7) (d : Nat) : uk_Meth G d mX0_isMade [.ref (uk_ad G kb), .int m] u (qe_X0_isMade u kb m) := by
  refine uk_Meth.of hs (by decide) (Nat.le_of_ble_eq_true rfl) (fun X => ?_)
  refine g_aload_n dX0_isMade_0 rfl ?_
  refine f_X0_15 rfl (kk_0 hkb) dX0_isMade_1 ?_
  refine g_iload_n dX0_isMade_4 rfl ?_
  have v1 : vp_in m 8 := uk_vin 8 rfl (by first | decide | lia | grind) (by first | decide | lia | grind)
  refine g_iald (kk_1 hkb) (kl_1 hkb) v1 dX0_isMade_5 ?_
  refine g_topi (fun x2 ex2 => ?_)
  refine g_iconst (v := 4) dX0_isMade_6 (by decide) ?_
  refine g_icmp_eq (tgt := 14) dX0_isMade_7 (by decide) (fun c3 => ?_) (fun c3 => ?_)
  · refine g_iconst (v := 0) dX0_isMade_14 (by decide) ?_
    exact g_iret (ty := .boolean) dX0_isMade_15 rfl rfl ⟨⟨⟨0, rfl, Or.inl rfl, fun q => absurd rfl q, fun _ => by first | trivial | lia | grind⟩, rfl⟩, ee_p (by subst ex2; exact (if_pos c3).trans (rfl))⟩
  · refine g_iconst (v := 1) dX0_isMade_10 (by decide) ?_
    refine g_goto (tgt := 15) dX0_isMade_11 (by decide) ?_
    exact g_iret (ty := .boolean) dX0_isMade_15 rfl rfl ⟨⟨⟨1, rfl, Or.inr rfl, fun _ => by first | trivial | lia | grind, fun q => absurd q (by decide)⟩, rfl⟩, ee_p (by subst ex2; exact (if_neg c3).trans (rfl))⟩
def e_X0_givesB (u : uk_Mem) (k : Int32) (h : Int32) : Int32 := if k = 0 then ((1 : Int32)) else (if k = (3 : Int32) then (if h = (1 : Int32) then ((1 : Int32)) else ((0 : Int32))) else ((0 : Int32)))
abbrev qe_X0_givesB (u : uk_Mem) (k : Int32) (h : Int32) (r : Option Value) (u' : uk_Mem) : Prop := (q_X0_givesB u k h r u') ∧ (r = some (.int (e_X0_givesB u k h)))
set_option maxHeartbeats 4000000 in
set_option maxRecDepth 20000 in
theorem x_X0_givesB {G : uk_D} (hs : uk_Sep G) {u : uk_Mem} (hu : iv u) (k : Int32) (h : Int32) (d : Nat) : uk_Meth G d mX0_givesB [.int k, .int h] u (qe_X0_givesB u k h) := by
  refine uk_Meth.of hs (by decide) (Nat.le_of_ble_eq_true rfl) (fun X => ?_)
  refine g_iload_n dX0_givesB_0 rfl ?_
  refine g_if_eq (tgt := 14) dX0_givesB_1 (by decide) (fun c1 => ?_) (fun c1 => ?_)
  · refine g_iconst (v := 1) dX0_givesB_14 (by decide) ?_
    refine g_goto (tgt := 19) dX0_givesB_15 (by decide) ?_
    exact g_iret (ty := .boolean) dX0_givesB_19 rfl rfl ⟨⟨⟨1, rfl, Or.inr rfl, fun _ => by first | trivial | lia | grind, fun q => absurd q (by decide)⟩, rfl⟩, ee_p (by exact (if_pos c1).trans (rfl))⟩
  · refine g_iload_n dX0_givesB_4 rfl ?_
    refine g_iconst (v := 3) dX0_givesB_5 (by decide) ?_
    refine g_icmp_ne (tgt := 18) dX0_givesB_6 (by decide) (fun c2 => ?_) (fun c2 => ?_)
    · refine g_iconst (v := 0) dX0_givesB_18 (by decide) ?_
      exact g_iret (ty := .boolean) dX0_givesB_19 rfl rfl ⟨⟨⟨0, rfl, Or.inl rfl, fun q => absurd rfl q, fun _ => by first | trivial | lia | grind⟩, rfl⟩, ee_p (by exact (if_neg c1).trans ((if_neg c2).trans (rfl)))⟩
    · refine g_iload_n dX0_givesB_9 rfl ?_
      refine g_iconst (v := 1) dX0_givesB_10 (by decide) ?_
      refine g_icmp_ne (tgt := 18) dX0_givesB_11 (by decide) (fun c3 => ?_) (fun c3 => ?_)
      · refine g_iconst (v := 0) dX0_givesB_18 (by decide) ?_
        exact g_iret (ty := .boolean) dX0_givesB_19 rfl rfl ⟨⟨⟨0, rfl, Or.inl rfl, fun q => absurd rfl q, fun _ => by first | trivial | lia | grind⟩, rfl⟩, ee_p (by exact (if_neg c1).trans ((if_pos c2).trans ((if_neg c3).trans (rfl))))⟩
      · refine g_iconst (v := 1) dX0_givesB_14 (by decide) ?_
        refine g_goto (tgt := 19) dX0_givesB_15 (by decide) ?_
        exact g_iret (ty := .boolean) dX0_givesB_19 rfl rfl ⟨⟨⟨1, rfl, Or.inr rfl, fun _ => by first | trivial | lia | grind, fun q => absurd q (by decide)⟩, rfl⟩, ee_p (by exact (if_neg c1).trans ((if_pos c2).trans ((if_pos c3).trans (rfl))))⟩
def e_X0_isCookable (u : uk_Mem) (kb : Nat) (m : Int32) : Int32 := let x2 : Int32 := u.1 (kb + 2) m.toNatClampNeg; let x4 : Int32 := u.1 (kb + 3) m.toNatClampNeg; if x2 = x4 then (let x16 : Int32 := u.1 (kb + 6) m.toNatClampNeg; if (40 : Int32) ≤ x16 then ((0 : Int32)) else (let x19 : Int32 := u.1 (kb + 6) x2.toNatClampNeg; if x19 < (1 : Int32) then ((0 : Int32)) else (let x22 : Int32 := u.1 (kb + 6) x4.toNatClampNeg; if x22 < (2 : Int32) then ((0 : Int32)) else ((1 : Int32))))) else (let x7 : Int32 := u.1 (kb + 6) m.toNatClampNeg; if (40 : Int32) ≤ x7 then ((0 : Int32)) else (let x10 : Int32 := u.1 (kb + 6) x2.toNatClampNeg; if x10 < (1 : Int32) then ((0 : Int32)) else (let x13 : Int32 := u.1 (kb + 6) x4.toNatClampNeg; if x13 < (1 : Int32) then ((0 : Int32)) else ((1 : Int32)))))
abbrev qe_X0_isCookable (u : uk_Mem) (kb : Nat) (m : Int32) (r : Option Value) (u' : uk_Mem) : Prop := (q_X0_isCookable u kb m r u') ∧ (r = some (.int (e_X0_isCookable u kb m)))
set_option maxHeartbeats 4000000 in
set_option maxRecDepth 20000 in
theorem x_X0_isCookable {G : uk_D} (hs : uk_Sep G) {u : uk_Mem} (hu : iv u) {kb : Nat} (hkb : uk_isK kb) (m : Int32) (p0 : 0 ≤ m) (p1 : m ≤ 7) (d : Nat) : uk_Meth G d mX0_isCookable [.ref (uk_ad G kb), .int m] u (qe_X0_isCookable u kb m) := by
  refine uk_Meth.of hs (by decide) (Nat.le_of_ble_eq_true rfl) (fun X => ?_)
  refine g_aload_n dX0_isCookable_0 rfl ?_
  refine f_X0_19 rfl (kk_0 hkb) dX0_isCookable_1 ?_
  refine g_iload_n dX0_isCookable_4 rfl ?_
  have v1 : vp_in m 8 := uk_vin 8 rfl (by first | decide | lia | grind) (by first | decide | lia | grind)
  refine g_iald (kk_2 hkb) (kl_2 hkb) v1 dX0_isCookable_5 ?_
  refine g_topi (fun x2 ex2 => ?_)
  have bx2 := uk_cl v1
  have rx2 : 0 ≤ x2 ∧ x2 ≤ 7 := by rw [ex2]; exact iv_at hu _ _ (ka_2 hkb _ (by omega))
  refine g_istore_n dX0_isCookable_6 (by decide) ?_
  refine g_pick (lv' := [(0, .ref (uk_ad G kb)), (1, .int m), (2, .int x2)]) [0, 1, 2] rfl ?_
  refine g_aload_n dX0_isCookable_7 rfl ?_
  refine f_X0_22 rfl (kk_0 hkb) dX0_isCookable_8 ?_
  refine g_iload_n dX0_isCookable_11 rfl ?_
  have v3 : vp_in m 8 := uk_vin 8 rfl (by first | decide | lia | grind) (by first | decide | lia | grind)
  refine g_iald (kk_3 hkb) (kl_3 hkb) v3 dX0_isCookable_12 ?_
  refine g_topi (fun x4 ex4 => ?_)
  have bx4 := uk_cl v3
  have rx4 : 0 ≤ x4 ∧ x4 ≤ 7 := by rw [ex4]; exact iv_at hu _ _ (ka_3 hkb _ (by omega))
  refine g_istore_n dX0_isCookable_13 (by decide) ?_
  refine g_pick (lv' := [(0, .ref (uk_ad G kb)), (1, .int m), (2, .int x2), (3, .int x4)]) [0, 1, 2, 3] rfl ?_
  refine g_iload_n dX0_isCookable_14 rfl ?_
  refine g_iload_n dX0_isCookable_15 rfl ?_
  refine g_icmp_ne (tgt := 23) dX0_isCookable_16 (by decide) (fun c5 => ?_) (fun c5 => ?_)
  · refine g_iconst (v := 1) dX0_isCookable_23 (by decide) ?_
    refine g_istore dX0_isCookable_24 (by decide) ?_
    refine g_pick (lv' := [(0, .ref (uk_ad G kb)), (1, .int m), (2, .int x2), (3, .int x4), (4, .int 1)]) [0, 1, 2, 3, 4] rfl ?_
    refine g_aload_n dX0_isCookable_26 rfl ?_
    refine f_X0_31 rfl (kk_0 hkb) dX0_isCookable_27 ?_
    refine g_iload_n dX0_isCookable_30 rfl ?_
    have v6 : vp_in m 8 := uk_vin 8 rfl (by first | decide | lia | grind) (by first | decide | lia | grind)
    refine g_iald (kk_6 hkb) (kl_6 hkb) v6 dX0_isCookable_31 ?_
    refine g_topi (fun x7 ex7 => ?_)
    refine g_bipush (v := 40) dX0_isCookable_32 (by decide) ?_
    refine g_icmp_ge (tgt := 62) dX0_isCookable_34 (by decide) (fun c8 => ?_) (fun c8 => ?_)
    · refine g_iconst (v := 0) dX0_isCookable_62 (by decide) ?_
      exact g_iret (ty := .boolean) dX0_isCookable_63 rfl rfl ⟨⟨⟨0, rfl, Or.inl rfl, fun q => absurd rfl q, fun _ => by first | trivial | lia | grind⟩, rfl⟩, ee_p (by subst ex7; subst ex4; subst ex2; exact (if_neg c5).trans ((if_pos c8).trans (rfl)))⟩
    · refine g_aload_n dX0_isCookable_37 rfl ?_
      refine f_X0_31 rfl (kk_0 hkb) dX0_isCookable_38 ?_
      refine g_iload_n dX0_isCookable_41 rfl ?_
      have v9 : vp_in x2 8 := uk_vin 8 rfl (by first | decide | lia | grind) (by first | decide | lia | grind)
      refine g_iald (kk_6 hkb) (kl_6 hkb) v9 dX0_isCookable_42 ?_
      refine g_topi (fun x10 ex10 => ?_)
      refine g_iconst (v := 1) dX0_isCookable_43 (by decide) ?_
      refine g_icmp_lt (tgt := 62) dX0_isCookable_44 (by decide) (fun c11 => ?_) (fun c11 => ?_)
      · refine g_iconst (v := 0) dX0_isCookable_62 (by decide) ?_
        exact g_iret (ty := .boolean) dX0_isCookable_63 rfl rfl ⟨⟨⟨0, rfl, Or.inl rfl, fun q => absurd rfl q, fun _ => by first | trivial | lia | grind⟩, rfl⟩, ee_p (by subst ex10; subst ex7; subst ex4; subst ex2; exact (if_neg c5).trans ((if_neg c8).trans ((if_pos c11).trans (rfl))))⟩
      · refine g_aload_n dX0_isCookable_47 rfl ?_
        refine f_X0_31 rfl (kk_0 hkb) dX0_isCookable_48 ?_
        refine g_iload_n dX0_isCookable_51 rfl ?_
        have v12 : vp_in x4 8 := uk_vin 8 rfl (by first | decide | lia | grind) (by first | decide | lia | grind)
        refine g_iald (kk_6 hkb) (kl_6 hkb) v12 dX0_isCookable_52 ?_
        refine g_topi (fun x13 ex13 => ?_)
        refine g_iload dX0_isCookable_53 rfl ?_
        refine g_icmp_lt (tgt := 62) dX0_isCookable_55 (by decide) (fun c14 => ?_) (fun c14 => ?_)
        · refine g_iconst (v := 0) dX0_isCookable_62 (by decide) ?_
          exact g_iret (ty := .boolean) dX0_isCookable_63 rfl rfl ⟨⟨⟨0, rfl, Or.inl rfl, fun q => absurd rfl q, fun _ => by first | trivial | lia | grind⟩, rfl⟩, ee_p (by subst ex13; subst ex10; subst ex7; subst ex4; subst ex2; exact (if_neg c5).trans ((if_neg c8).trans ((if_neg c11).trans ((if_pos c14).trans (rfl)))))⟩
        · refine g_iconst (v := 1) dX0_isCookable_58 (by decide) ?_
          refine g_goto (tgt := 63) dX0_isCookable_59 (by decide) ?_
          exact g_iret (ty := .boolean) dX0_isCookable_63 rfl rfl ⟨⟨⟨1, rfl, Or.inr rfl, fun _ => by first | trivial | lia | grind, fun q => absurd q (by decide)⟩, rfl⟩, ee_p (by subst ex13; subst ex10; subst ex7; subst ex4; subst ex2; exact (if_neg c5).trans ((if_neg c8).trans ((if_neg c11).trans ((if_neg c14).trans (rfl)))))⟩
  · refine g_iconst (v := 2) dX0_isCookable_19 (by decide) ?_
    refine g_goto (tgt := 24) dX0_isCookable_20 (by decide) ?_
    refine g_istore dX0_isCookable_24 (by decide) ?_
    refine g_pick (lv' := [(0, .ref (uk_ad G kb)), (1, .int m), (2, .int x2), (3, .int x4), (4, .int 2)]) [0, 1, 2, 3, 4] rfl ?_
    refine g_aload_n dX0_isCookable_26 rfl ?_
    refine f_X0_31 rfl (kk_0 hkb) dX0_isCookable_27 ?_
    refine g_iload_n dX0_isCookable_30 rfl ?_
    have v15 : vp_in m 8 := uk_vin 8 rfl (by first | decide | lia | grind) (by first | decide | lia | grind)
    refine g_iald (kk_6 hkb) (kl_6 hkb) v15 dX0_isCookable_31 ?_
    refine g_topi (fun x16 ex16 => ?_)
    refine g_bipush (v := 40) dX0_isCookable_32 (by decide) ?_
    refine g_icmp_ge (tgt := 62) dX0_isCookable_34 (by decide) (fun c17 => ?_) (fun c17 => ?_)
    · refine g_iconst (v := 0) dX0_isCookable_62 (by decide) ?_
      exact g_iret (ty := .boolean) dX0_isCookable_63 rfl rfl ⟨⟨⟨0, rfl, Or.inl rfl, fun q => absurd rfl q, fun _ => by first | trivial | lia | grind⟩, rfl⟩, ee_p (by subst ex16; subst ex4; subst ex2; exact (if_pos c5).trans ((if_pos c17).trans (rfl)))⟩
    · refine g_aload_n dX0_isCookable_37 rfl ?_
      refine f_X0_31 rfl (kk_0 hkb) dX0_isCookable_38 ?_
      refine g_iload_n dX0_isCookable_41 rfl ?_
      have v18 : vp_in x2 8 := uk_vin 8 rfl (by first | decide | lia | grind) (by first | decide | lia | grind)
      refine g_iald (kk_6 hkb) (kl_6 hkb) v18 dX0_isCookable_42 ?_
      refine g_topi (fun x19 ex19 => ?_)
      refine g_iconst (v := 1) dX0_isCookable_43 (by decide) ?_
      refine g_icmp_lt (tgt := 62) dX0_isCookable_44 (by decide) (fun c20 => ?_) (fun c20 => ?_)
      · refine g_iconst (v := 0) dX0_isCookable_62 (by decide) ?_
        exact g_iret (ty := .boolean) dX0_isCookable_63 rfl rfl ⟨⟨⟨0, rfl, Or.inl rfl, fun q => absurd rfl q, fun _ => by first | trivial | lia | grind⟩, rfl⟩, ee_p (by subst ex19; subst ex16; subst ex4; subst ex2; exact (if_pos c5).trans ((if_neg c17).trans ((if_pos c20).trans (rfl))))⟩
      · refine g_aload_n dX0_isCookable_47 rfl ?_
        refine f_X0_31 rfl (kk_0 hkb) dX0_isCookable_48 ?_
        refine g_iload_n dX0_isCookable_51 rfl ?_
        have v21 : vp_in x4 8 := uk_vin 8 rfl (by first | decide | lia | grind) (by first | decide | lia | grind)
        refine g_iald (kk_6 hkb) (kl_6 hkb) v21 dX0_isCookable_52 ?_
        refine g_topi (fun x22 ex22 => ?_)
        refine g_iload dX0_isCookable_53 rfl ?_
        refine g_icmp_lt (tgt := 62) dX0_isCookable_55 (by decide) (fun c23 => ?_) (fun c23 => ?_)
        · refine g_iconst (v := 0) dX0_isCookable_62 (by decide) ?_
          exact g_iret (ty := .boolean) dX0_isCookable_63 rfl rfl ⟨⟨⟨0, rfl, Or.inl rfl, fun q => absurd rfl q, fun _ => by first | trivial | lia | grind⟩, rfl⟩, ee_p (by subst ex22; subst ex19; subst ex16; subst ex4; subst ex2; exact (if_pos c5).trans ((if_neg c17).trans ((if_neg c20).trans ((if_pos c23).trans (rfl)))))⟩
        · refine g_iconst (v := 1) dX0_isCookable_58 (by decide) ?_
          refine g_goto (tgt := 63) dX0_isCookable_59 (by decide) ?_
          exact g_iret (ty := .boolean) dX0_isCookable_63 rfl rfl ⟨⟨⟨1, rfl, Or.inr rfl, fun _ => by first | trivial | lia | grind, fun q => absurd q (by decide)⟩, rfl⟩, ee_p (by subst ex22; subst ex19; subst ex16; subst ex4; subst ex2; exact (if_pos c5).trans ((if_neg c17).trans ((if_neg c20).trans ((if_neg c23).trans (rfl)))))⟩
def e_X0_isTurnable (u : uk_Mem) (kb : Nat) (m : Int32) : Int32 := let x2 : Int32 := u.1 (kb + 1) m.toNatClampNeg; if x2 = (2 : Int32) then ((0 : Int32)) else (let x5 : Int32 := u.1 (kb + 6) m.toNatClampNeg; if x5 = 0 then ((0 : Int32)) else (let x8 : Int32 := u.1 (kb + 2) m.toNatClampNeg; let x10 : Int32 := u.1 (kb + 3) m.toNatClampNeg; let x12 : Int32 := u.1 (kb + 1) m.toNatClampNeg; let x14 : Int32 := u.1 (kb + 7) m.toNatClampNeg; let x18 : Int32 := (e_X0_givesB u x12 x14); if x18 = 0 then (let x36 : Int32 := u.1 (kb + 6) x8.toNatClampNeg; if (40 : Int32) ≤ x36 then ((0 : Int32)) else ((1 : Int32))) else (if x8 = x10 then (let x29 : Int32 := u.1 (kb + 6) x8.toNatClampNeg; if (40 : Int32) ≤ x29 then ((0 : Int32)) else (let x32 : Int32 := u.1 (kb + 6) x10.toNatClampNeg; let x33 : Int32 := x32 + (2 : Int32); if (40 : Int32) < x33 then ((0 : Int32)) else ((1 : Int32)))) else (let x22 : Int32 := u.1 (kb + 6) x8.toNatClampNeg; if (40 : Int32) ≤ x22 then ((0 : Int32)) else (let x25 : Int32 := u.1 (kb + 6) x10.toNatClampNeg; let x26 : Int32 := x25 + (1 : Int32); if (40 : Int32) < x26 then ((0 : Int32)) else ((1 : Int32)))))))
abbrev qe_X0_isTurnable (u : uk_Mem) (kb : Nat) (m : Int32) (r : Option Value) (u' : uk_Mem) : Prop := (q_X0_isTurnable u kb m r u') ∧ (r = some (.int (e_X0_isTurnable u kb m)))
set_option maxHeartbeats 4000000 in
set_option maxRecDepth 20000 in
theorem x_X0_isTurnable {G : uk_D} (hs : uk_Sep G) {u : uk_Mem} (hu : iv u) {kb : Nat} (hkb : uk_isK kb) (m : Int32) (p0 : 0 ≤ m) (p1 : m ≤ 7) (d : Nat) : uk_Meth G (d + 1) mX0_isTurnable [.ref (uk_ad G kb), .int m] u (qe_X0_isTurnable u kb m) := by
  refine uk_Meth.of hs (by decide) (Nat.le_of_ble_eq_true rfl) (fun X => ?_)
  refine g_aload_n dX0_isTurnable_0 rfl ?_
  refine f_X0_15 rfl (kk_0 hkb) dX0_isTurnable_1 ?_
  refine g_iload_n dX0_isTurnable_4 rfl ?_
  have v1 : vp_in m 8 := uk_vin 8 rfl (by first | decide | lia | grind) (by first | decide | lia | grind)
  refine g_iald (kk_1 hkb) (kl_1 hkb) v1 dX0_isTurnable_5 ?_
  refine g_topi (fun x2 ex2 => ?_)
  refine g_iconst (v := 2) dX0_isTurnable_6 (by decide) ?_
  refine g_icmp_eq (tgt := 19) dX0_isTurnable_7 (by decide) (fun c3 => ?_) (fun c3 => ?_)
  · refine g_iconst (v := 0) dX0_isTurnable_19 (by decide) ?_
    exact g_iret (ty := .boolean) dX0_isTurnable_20 rfl rfl ⟨⟨⟨0, rfl, Or.inl rfl, fun q => absurd rfl q, fun _ => by first | trivial | lia | grind⟩, rfl⟩, ee_p (by subst ex2; exact (if_pos c3).trans (rfl))⟩
  · refine g_aload_n dX0_isTurnable_10 rfl ?_
    refine f_X0_31 rfl (kk_0 hkb) dX0_isTurnable_11 ?_
    refine g_iload_n dX0_isTurnable_14 rfl ?_
    have v4 : vp_in m 8 := uk_vin 8 rfl (by first | decide | lia | grind) (by first | decide | lia | grind)
    refine g_iald (kk_6 hkb) (kl_6 hkb) v4 dX0_isTurnable_15 ?_
    refine g_topi (fun x5 ex5 => ?_)
    refine g_if_ne (tgt := 21) dX0_isTurnable_16 (by decide) (fun c6 => ?_) (fun c6 => ?_)
    · refine g_aload_n dX0_isTurnable_21 rfl ?_
      refine f_X0_19 rfl (kk_0 hkb) dX0_isTurnable_22 ?_
      refine g_iload_n dX0_isTurnable_25 rfl ?_
      have v7 : vp_in m 8 := uk_vin 8 rfl (by first | decide | lia | grind) (by first | decide | lia | grind)
      refine g_iald (kk_2 hkb) (kl_2 hkb) v7 dX0_isTurnable_26 ?_
      refine g_topi (fun x8 ex8 => ?_)
      have bx8 := uk_cl v7
      have rx8 : 0 ≤ x8 ∧ x8 ≤ 7 := by rw [ex8]; exact iv_at hu _ _ (ka_2 hkb _ (by omega))
      refine g_istore_n dX0_isTurnable_27 (by decide) ?_
      refine g_pick (lv' := [(0, .ref (uk_ad G kb)), (1, .int m), (2, .int x8)]) [0, 1, 2] rfl ?_
      refine g_aload_n dX0_isTurnable_28 rfl ?_
      refine f_X0_22 rfl (kk_0 hkb) dX0_isTurnable_29 ?_
      refine g_iload_n dX0_isTurnable_32 rfl ?_
      have v9 : vp_in m 8 := uk_vin 8 rfl (by first | decide | lia | grind) (by first | decide | lia | grind)
      refine g_iald (kk_3 hkb) (kl_3 hkb) v9 dX0_isTurnable_33 ?_
      refine g_topi (fun x10 ex10 => ?_)
      have bx10 := uk_cl v9
      have rx10 : 0 ≤ x10 ∧ x10 ≤ 7 := by rw [ex10]; exact iv_at hu _ _ (ka_3 hkb _ (by omega))
      refine g_istore_n dX0_isTurnable_34 (by decide) ?_
      refine g_pick (lv' := [(0, .ref (uk_ad G kb)), (1, .int m), (2, .int x8), (3, .int x10)]) [0, 1, 2, 3] rfl ?_
      refine g_aload_n dX0_isTurnable_35 rfl ?_
      refine f_X0_15 rfl (kk_0 hkb) dX0_isTurnable_36 ?_
      refine g_iload_n dX0_isTurnable_39 rfl ?_
      have v11 : vp_in m 8 := uk_vin 8 rfl (by first | decide | lia | grind) (by first | decide | lia | grind)
      refine g_iald (kk_1 hkb) (kl_1 hkb) v11 dX0_isTurnable_40 ?_
      refine g_topi (fun x12 ex12 => ?_)
      refine g_aload_n dX0_isTurnable_41 rfl ?_
      refine f_X0_34 rfl (kk_0 hkb) dX0_isTurnable_42 ?_
      refine g_iload_n dX0_isTurnable_45 rfl ?_
      have v13 : vp_in m 8 := uk_vin 8 rfl (by first | decide | lia | grind) (by first | decide | lia | grind)
      refine g_iald (kk_7 hkb) (kl_7 hkb) v13 dX0_isTurnable_46 ?_
      refine g_topi (fun x14 ex14 => ?_)
      refine cl_X0_70 (As := [.int x12, .int x14]) rfl (x_X0_givesB (G := G) hs hu  x12 x14  (d)) rfl (by omega) rfl (Nat.le_of_ble_eq_true rfl) dX0_isTurnable_47 (fun r15 u16 q17 => ?_)
      obtain ⟨q17, Eq17⟩ := q17
      obtain ⟨⟨x18, rfl, tx18, nx18, zx18⟩, mq17⟩ := q17
      rw [mq17]
      have ex18 : x18 = (e_X0_givesB u x12 x14) := ee_v Eq17
      refine g_if_ne (tgt := 70) dX0_isTurnable_50 (by decide) (fun c19 => ?_) (fun c19 => ?_)
      · have zc19 := nx18 c19
        refine g_iload_n dX0_isTurnable_70 rfl ?_
        refine g_iload_n dX0_isTurnable_71 rfl ?_
        refine g_icmp_ne (tgt := 79) dX0_isTurnable_72 (by decide) (fun c20 => ?_) (fun c20 => ?_)
        · refine g_iconst (v := 1) dX0_isTurnable_79 (by decide) ?_
          refine g_istore dX0_isTurnable_80 (by decide) ?_
          refine g_pick (lv' := [(0, .ref (uk_ad G kb)), (1, .int m), (2, .int x8), (3, .int x10), (4, .int 1)]) [0, 1, 2, 3, 4] rfl ?_
          refine g_aload_n dX0_isTurnable_82 rfl ?_
          refine f_X0_31 rfl (kk_0 hkb) dX0_isTurnable_83 ?_
          refine g_iload_n dX0_isTurnable_86 rfl ?_
          have v21 : vp_in x8 8 := uk_vin 8 rfl (by first | decide | lia | grind) (by first | decide | lia | grind)
          refine g_iald (kk_6 hkb) (kl_6 hkb) v21 dX0_isTurnable_87 ?_
          refine g_topi (fun x22 ex22 => ?_)
          refine g_bipush (v := 40) dX0_isTurnable_88 (by decide) ?_
          refine g_icmp_ge (tgt := 111) dX0_isTurnable_90 (by decide) (fun c23 => ?_) (fun c23 => ?_)
          · refine g_iconst (v := 0) dX0_isTurnable_111 (by decide) ?_
            exact g_iret (ty := .boolean) dX0_isTurnable_112 rfl rfl ⟨⟨⟨0, rfl, Or.inl rfl, fun q => absurd rfl q, fun _ => by first | trivial | lia | grind⟩, rfl⟩, ee_p (by subst ex22; subst ex18; subst ex14; subst ex12; subst ex10; subst ex8; subst ex5; subst ex2; exact (if_neg c3).trans ((if_neg c6).trans ((if_neg c19).trans ((if_neg c20).trans ((if_pos c23).trans (rfl))))))⟩
          · refine g_aload_n dX0_isTurnable_93 rfl ?_
            refine f_X0_31 rfl (kk_0 hkb) dX0_isTurnable_94 ?_
            refine g_iload_n dX0_isTurnable_97 rfl ?_
            have v24 : vp_in x10 8 := uk_vin 8 rfl (by first | decide | lia | grind) (by first | decide | lia | grind)
            refine g_iald (kk_6 hkb) (kl_6 hkb) v24 dX0_isTurnable_98 ?_
            refine g_topi (fun x25 ex25 => ?_)
            refine g_iload dX0_isTurnable_99 rfl ?_
            refine g_iadd dX0_isTurnable_101 ?_
            refine g_topi (fun x26 ex26 => ?_)
            refine g_bipush (v := 40) dX0_isTurnable_102 (by decide) ?_
            refine g_icmp_gt (tgt := 111) dX0_isTurnable_104 (by decide) (fun c27 => ?_) (fun c27 => ?_)
            · refine g_iconst (v := 0) dX0_isTurnable_111 (by decide) ?_
              exact g_iret (ty := .boolean) dX0_isTurnable_112 rfl rfl ⟨⟨⟨0, rfl, Or.inl rfl, fun q => absurd rfl q, fun _ => by first | trivial | lia | grind⟩, rfl⟩, ee_p (by subst ex26; subst ex25; subst ex22; subst ex18; subst ex14; subst ex12; subst ex10; subst ex8; subst ex5; subst ex2; exact (if_neg c3).trans ((if_neg c6).trans ((if_neg c19).trans ((if_neg c20).trans ((if_neg c23).trans ((if_pos c27).trans (rfl)))))))⟩
            · refine g_iconst (v := 1) dX0_isTurnable_107 (by decide) ?_
              refine g_goto (tgt := 112) dX0_isTurnable_108 (by decide) ?_
              exact g_iret (ty := .boolean) dX0_isTurnable_112 rfl rfl ⟨⟨⟨1, rfl, Or.inr rfl, fun _ => by first | trivial | lia | grind, fun q => absurd q (by decide)⟩, rfl⟩, ee_p (by subst ex26; subst ex25; subst ex22; subst ex18; subst ex14; subst ex12; subst ex10; subst ex8; subst ex5; subst ex2; exact (if_neg c3).trans ((if_neg c6).trans ((if_neg c19).trans ((if_neg c20).trans ((if_neg c23).trans ((if_neg c27).trans (rfl)))))))⟩
        · refine g_iconst (v := 2) dX0_isTurnable_75 (by decide) ?_
          refine g_goto (tgt := 80) dX0_isTurnable_76 (by decide) ?_
          refine g_istore dX0_isTurnable_80 (by decide) ?_
          refine g_pick (lv' := [(0, .ref (uk_ad G kb)), (1, .int m), (2, .int x8), (3, .int x10), (4, .int 2)]) [0, 1, 2, 3, 4] rfl ?_
          refine g_aload_n dX0_isTurnable_82 rfl ?_
          refine f_X0_31 rfl (kk_0 hkb) dX0_isTurnable_83 ?_
          refine g_iload_n dX0_isTurnable_86 rfl ?_
          have v28 : vp_in x8 8 := uk_vin 8 rfl (by first | decide | lia | grind) (by first | decide | lia | grind)
          refine g_iald (kk_6 hkb) (kl_6 hkb) v28 dX0_isTurnable_87 ?_
          refine g_topi (fun x29 ex29 => ?_)
          refine g_bipush (v := 40) dX0_isTurnable_88 (by decide) ?_
          refine g_icmp_ge (tgt := 111) dX0_isTurnable_90 (by decide) (fun c30 => ?_) (fun c30 => ?_)
          · refine g_iconst (v := 0) dX0_isTurnable_111 (by decide) ?_
            exact g_iret (ty := .boolean) dX0_isTurnable_112 rfl rfl ⟨⟨⟨0, rfl, Or.inl rfl, fun q => absurd rfl q, fun _ => by first | trivial | lia | grind⟩, rfl⟩, ee_p (by subst ex29; subst ex18; subst ex14; subst ex12; subst ex10; subst ex8; subst ex5; subst ex2; exact (if_neg c3).trans ((if_neg c6).trans ((if_neg c19).trans ((if_pos c20).trans ((if_pos c30).trans (rfl))))))⟩
          · refine g_aload_n dX0_isTurnable_93 rfl ?_
            refine f_X0_31 rfl (kk_0 hkb) dX0_isTurnable_94 ?_
            refine g_iload_n dX0_isTurnable_97 rfl ?_
            have v31 : vp_in x10 8 := uk_vin 8 rfl (by first | decide | lia | grind) (by first | decide | lia | grind)
            refine g_iald (kk_6 hkb) (kl_6 hkb) v31 dX0_isTurnable_98 ?_
            refine g_topi (fun x32 ex32 => ?_)
            refine g_iload dX0_isTurnable_99 rfl ?_
            refine g_iadd dX0_isTurnable_101 ?_
            refine g_topi (fun x33 ex33 => ?_)
            refine g_bipush (v := 40) dX0_isTurnable_102 (by decide) ?_
            refine g_icmp_gt (tgt := 111) dX0_isTurnable_104 (by decide) (fun c34 => ?_) (fun c34 => ?_)
            · refine g_iconst (v := 0) dX0_isTurnable_111 (by decide) ?_
              exact g_iret (ty := .boolean) dX0_isTurnable_112 rfl rfl ⟨⟨⟨0, rfl, Or.inl rfl, fun q => absurd rfl q, fun _ => by first | trivial | lia | grind⟩, rfl⟩, ee_p (by subst ex33; subst ex32; subst ex29; subst ex18; subst ex14; subst ex12; subst ex10; subst ex8; subst ex5; subst ex2; exact (if_neg c3).trans ((if_neg c6).trans ((if_neg c19).trans ((if_pos c20).trans ((if_neg c30).trans ((if_pos c34).trans (rfl)))))))⟩
            · refine g_iconst (v := 1) dX0_isTurnable_107 (by decide) ?_
              refine g_goto (tgt := 112) dX0_isTurnable_108 (by decide) ?_
              exact g_iret (ty := .boolean) dX0_isTurnable_112 rfl rfl ⟨⟨⟨1, rfl, Or.inr rfl, fun _ => by first | trivial | lia | grind, fun q => absurd q (by decide)⟩, rfl⟩, ee_p (by subst ex33; subst ex32; subst ex29; subst ex18; subst ex14; subst ex12; subst ex10; subst ex8; subst ex5; subst ex2; exact (if_neg c3).trans ((if_neg c6).trans ((if_neg c19).trans ((if_pos c20).trans ((if_neg c30).trans ((if_neg c34).trans (rfl)))))))⟩
      · have zc19 := zx18 c19
        refine g_aload_n dX0_isTurnable_53 rfl ?_
        refine f_X0_31 rfl (kk_0 hkb) dX0_isTurnable_54 ?_
        refine g_iload_n dX0_isTurnable_57 rfl ?_
        have v35 : vp_in x8 8 := uk_vin 8 rfl (by first | decide | lia | grind) (by first | decide | lia | grind)
        refine g_iald (kk_6 hkb) (kl_6 hkb) v35 dX0_isTurnable_58 ?_
        refine g_topi (fun x36 ex36 => ?_)
        refine g_bipush (v := 40) dX0_isTurnable_59 (by decide) ?_
        refine g_icmp_ge (tgt := 68) dX0_isTurnable_61 (by decide) (fun c37 => ?_) (fun c37 => ?_)
        · refine g_iconst (v := 0) dX0_isTurnable_68 (by decide) ?_
          exact g_iret (ty := .boolean) dX0_isTurnable_69 rfl rfl ⟨⟨⟨0, rfl, Or.inl rfl, fun q => absurd rfl q, fun _ => by first | trivial | lia | grind⟩, rfl⟩, ee_p (by subst ex36; subst ex18; subst ex14; subst ex12; subst ex10; subst ex8; subst ex5; subst ex2; exact (if_neg c3).trans ((if_neg c6).trans ((if_pos c19).trans ((if_pos c37).trans (rfl)))))⟩
        · refine g_iconst (v := 1) dX0_isTurnable_64 (by decide) ?_
          refine g_goto (tgt := 69) dX0_isTurnable_65 (by decide) ?_
          exact g_iret (ty := .boolean) dX0_isTurnable_69 rfl rfl ⟨⟨⟨1, rfl, Or.inr rfl, fun _ => by first | trivial | lia | grind, fun q => absurd q (by decide)⟩, rfl⟩, ee_p (by subst ex36; subst ex18; subst ex14; subst ex12; subst ex10; subst ex8; subst ex5; subst ex2; exact (if_neg c3).trans ((if_neg c6).trans ((if_pos c19).trans ((if_neg c37).trans (rfl)))))⟩
    · refine g_iconst (v := 0) dX0_isTurnable_19 (by decide) ?_
      exact g_iret (ty := .boolean) dX0_isTurnable_20 rfl rfl ⟨⟨⟨0, rfl, Or.inl rfl, fun q => absurd rfl q, fun _ => by first | trivial | lia | grind⟩, rfl⟩, ee_p (by subst ex5; subst ex2; exact (if_neg c3).trans ((if_pos c6).trans (rfl)))⟩
def e_X0_hasDoing (u : uk_Mem) (kb : Nat) (g : Int32) : Int32 := if g < 0 then ((0 : Int32)) else (let x5 : Int32 := (e_X6_stuffOf u g); let x9 : Int32 := (e_X0_hasStuff u kb x5); if x9 = 0 then ((0 : Int32)) else ((1 : Int32)))
abbrev qe_X0_hasDoing (u : uk_Mem) (kb : Nat) (g : Int32) (r : Option Value) (u' : uk_Mem) : Prop := (q_X0_hasDoing u kb g r u') ∧ (r = some (.int (e_X0_hasDoing u kb g)))
set_option maxHeartbeats 4000000 in
set_option maxRecDepth 20000 in
theorem x_X0_hasDoing {G : uk_D} (hs : uk_Sep G) {u : uk_Mem} (hu : iv u) {kb : Nat} (hkb : uk_isK kb) (g : Int32) (d : Nat) : uk_Meth G (d + 1) mX0_hasDoing [.ref (uk_ad G kb), .int g] u (qe_X0_hasDoing u kb g) := by
  refine uk_Meth.of hs (by decide) (Nat.le_of_ble_eq_true rfl) (fun X => ?_)
  refine g_iload_n dX0_hasDoing_0 rfl ?_
  refine g_if_lt (tgt := 19) dX0_hasDoing_1 (by decide) (fun c1 => ?_) (fun c1 => ?_)
  · refine g_iconst (v := 0) dX0_hasDoing_19 (by decide) ?_
    exact g_iret (ty := .boolean) dX0_hasDoing_20 rfl rfl ⟨⟨⟨0, rfl, Or.inl rfl, fun q => absurd rfl q, fun _ => by first | trivial | lia | grind⟩, rfl⟩, ee_p (by exact (if_pos c1).trans (rfl))⟩
  · refine g_aload_n dX0_hasDoing_4 rfl ?_
    refine g_iload_n dX0_hasDoing_5 rfl ?_
    refine cl_X0_53 (As := [.int g]) rfl (x_X6_stuffOf (G := G) hs hu  g  (d)) rfl (by omega) rfl (Nat.le_of_ble_eq_true rfl) dX0_hasDoing_6 (fun r2 u3 q4 => ?_)
    obtain ⟨q4, Eq4⟩ := q4
    obtain ⟨⟨x5, rfl, tx5⟩, mq4⟩ := q4
    rw [mq4]
    have ex5 : x5 = (e_X6_stuffOf u g) := ee_v Eq4
    refine cl_X0_57 (c := kb) (As := [.int x5]) rfl (x_X0_hasStuff (G := G) hs hu hkb x5  (d)) rfl (by omega) (kk_0 hkb) rfl (Nat.le_of_ble_eq_true rfl) dX0_hasDoing_9 (fun r6 u7 q8 => ?_)
    obtain ⟨q8, Eq8⟩ := q8
    obtain ⟨⟨x9, rfl, tx9, nx9, zx9⟩, mq8⟩ := q8
    rw [mq8]
    have ex9 : x9 = (e_X0_hasStuff u kb x5) := ee_v Eq8
    refine g_if_eq (tgt := 19) dX0_hasDoing_12 (by decide) (fun c10 => ?_) (fun c10 => ?_)
    · have zc10 := zx9 c10
      refine g_iconst (v := 0) dX0_hasDoing_19 (by decide) ?_
      exact g_iret (ty := .boolean) dX0_hasDoing_20 rfl rfl ⟨⟨⟨0, rfl, Or.inl rfl, fun q => absurd rfl q, fun _ => by first | trivial | lia | grind⟩, rfl⟩, ee_p (by subst ex9; subst ex5; exact (if_neg c1).trans ((if_pos c10).trans (rfl)))⟩
    · have zc10 := nx9 c10
      refine g_iconst (v := 1) dX0_hasDoing_15 (by decide) ?_
      refine g_goto (tgt := 20) dX0_hasDoing_16 (by decide) ?_
      exact g_iret (ty := .boolean) dX0_hasDoing_20 rfl rfl ⟨⟨⟨1, rfl, Or.inr rfl, fun _ => by first | trivial | lia | grind, fun q => absurd q (by decide)⟩, rfl⟩, ee_p (by subst ex9; subst ex5; exact (if_neg c1).trans ((if_neg c10).trans (rfl)))⟩
def e_X0_isAble (u : uk_Mem) (kb : Nat) (g : Int32) : Int32 := let x4 : Int32 := (e_X6_stuffOf u g); if g < 0 then ((0 : Int32)) else (let x9 : Int32 := (e_X0_hasStuff u kb x4); if x9 = 0 then ((0 : Int32)) else (let x14 : Int32 := (e_X0_isMade u kb x4); if x14 = 0 then ((0 : Int32)) else (if g < (10 : Int32) then (let x20 : Int32 := (e_X0_isCookable u kb x4); x20) else (let x24 : Int32 := (e_X0_isTurnable u kb x4); x24))))
abbrev qe_X0_isAble (u : uk_Mem) (kb : Nat) (g : Int32) (r : Option Value) (u' : uk_Mem) : Prop := (q_X0_isAble u kb g r u') ∧ (r = some (.int (e_X0_isAble u kb g)))
set_option maxHeartbeats 4000000 in
set_option maxRecDepth 20000 in
theorem x_X0_isAble {G : uk_D} (hs : uk_Sep G) {u : uk_Mem} (hu : iv u) {kb : Nat} (hkb : uk_isK kb) (g : Int32) (d : Nat) : uk_Meth G (d + 2) mX0_isAble [.ref (uk_ad G kb), .int g] u (qe_X0_isAble u kb g) := by
  refine uk_Meth.of hs (by decide) (Nat.le_of_ble_eq_true rfl) (fun X => ?_)
  refine g_iload_n dX0_isAble_0 rfl ?_
  refine cl_X0_53 (As := [.int g]) rfl (x_X6_stuffOf (G := G) hs hu  g  (d + 1)) rfl (by omega) rfl (Nat.le_of_ble_eq_true rfl) dX0_isAble_1 (fun r1 u2 q3 => ?_)
  obtain ⟨q3, Eq3⟩ := q3
  obtain ⟨⟨x4, rfl, tx4⟩, mq3⟩ := q3
  rw [mq3]
  have ex4 : x4 = (e_X6_stuffOf u g) := ee_v Eq3
  refine g_istore_n dX0_isAble_4 (by decide) ?_
  refine g_pick (lv' := [(0, .ref (uk_ad G kb)), (1, .int g), (2, .int x4)]) [0, 1, 2] rfl ?_
  refine g_iload_n dX0_isAble_5 rfl ?_
  refine g_if_lt (tgt := 25) dX0_isAble_6 (by decide) (fun c5 => ?_) (fun c5 => ?_)
  · refine g_iconst (v := 0) dX0_isAble_25 (by decide) ?_
    exact g_iret (ty := .boolean) dX0_isAble_26 rfl rfl ⟨⟨⟨0, rfl, Or.inl rfl, fun q => absurd rfl q, fun _ => by first | trivial | lia | grind⟩, rfl⟩, ee_p (by subst ex4; exact (if_pos c5).trans (rfl))⟩
  · refine g_aload_n dX0_isAble_9 rfl ?_
    refine g_iload_n dX0_isAble_10 rfl ?_
    refine cl_X0_57 (c := kb) (As := [.int x4]) rfl (x_X0_hasStuff (G := G) hs hu hkb x4  (d + 1)) rfl (by omega) (kk_0 hkb) rfl (Nat.le_of_ble_eq_true rfl) dX0_isAble_11 (fun r6 u7 q8 => ?_)
    obtain ⟨q8, Eq8⟩ := q8
    obtain ⟨⟨x9, rfl, tx9, nx9, zx9⟩, mq8⟩ := q8
    rw [mq8]
    have ex9 : x9 = (e_X0_hasStuff u kb x4) := ee_v Eq8
    refine g_if_eq (tgt := 25) dX0_isAble_14 (by decide) (fun c10 => ?_) (fun c10 => ?_)
    · have zc10 := zx9 c10
      refine g_iconst (v := 0) dX0_isAble_25 (by decide) ?_
      exact g_iret (ty := .boolean) dX0_isAble_26 rfl rfl ⟨⟨⟨0, rfl, Or.inl rfl, fun q => absurd rfl q, fun _ => by first | trivial | lia | grind⟩, rfl⟩, ee_p (by subst ex9; subst ex4; exact (if_neg c5).trans ((if_pos c10).trans (rfl)))⟩
    · have zc10 := nx9 c10
      refine g_aload_n dX0_isAble_17 rfl ?_
      refine g_iload_n dX0_isAble_18 rfl ?_
      refine cl_X0_61 (c := kb) (As := [.int x4]) rfl (x_X0_isMade (G := G) hs hu hkb x4 (by first | trivial | decide | lia | grind) (by first | trivial | decide | lia | grind) (d + 1)) rfl (by omega) (kk_0 hkb) rfl (Nat.le_of_ble_eq_true rfl) dX0_isAble_19 (fun r11 u12 q13 => ?_)
      obtain ⟨q13, Eq13⟩ := q13
      obtain ⟨⟨x14, rfl, tx14, nx14, zx14⟩, mq13⟩ := q13
      rw [mq13]
      have ex14 : x14 = (e_X0_isMade u kb x4) := ee_v Eq13
      refine g_if_ne (tgt := 27) dX0_isAble_22 (by decide) (fun c15 => ?_) (fun c15 => ?_)
      · have zc15 := nx14 c15
        refine g_iload_n dX0_isAble_27 rfl ?_
        refine g_bipush (v := 10) dX0_isAble_28 (by decide) ?_
        refine g_icmp_lt (tgt := 41) dX0_isAble_30 (by decide) (fun c16 => ?_) (fun c16 => ?_)
        · refine g_aload_n dX0_isAble_41 rfl ?_
          refine g_iload_n dX0_isAble_42 rfl ?_
          refine cl_X0_67 (c := kb) (As := [.int x4]) rfl (x_X0_isCookable (G := G) hs hu hkb x4 (by first | trivial | decide | lia | grind) (by first | trivial | decide | lia | grind) (d + 1)) rfl (by omega) (kk_0 hkb) rfl (Nat.le_of_ble_eq_true rfl) dX0_isAble_43 (fun r17 u18 q19 => ?_)
          obtain ⟨q19, Eq19⟩ := q19
          obtain ⟨⟨x20, rfl, tx20, nx20, zx20⟩, mq19⟩ := q19
          rw [mq19]
          have ex20 : x20 = (e_X0_isCookable u kb x4) := ee_v Eq19
          exact g_iret (ty := .boolean) dX0_isAble_46 rfl (uk_nb tx20) ⟨⟨⟨_, rfl, tx20, fun q => by first | trivial | (have := nx20 q; first | exact this | grind), fun q => by first | trivial | (have := zx20 q; first | exact this | grind)⟩, rfl⟩, ee_p (by subst ex20; subst ex14; subst ex9; subst ex4; exact (if_neg c5).trans ((if_neg c10).trans ((if_neg c15).trans ((if_pos c16).trans (rfl)))))⟩
        · refine g_aload_n dX0_isAble_33 rfl ?_
          refine g_iload_n dX0_isAble_34 rfl ?_
          refine cl_X0_64 (c := kb) (As := [.int x4]) rfl (x_X0_isTurnable (G := G) hs hu hkb x4 (by first | trivial | decide | lia | grind) (by first | trivial | decide | lia | grind) (d)) rfl (by omega) (kk_0 hkb) rfl (Nat.le_of_ble_eq_true rfl) dX0_isAble_35 (fun r21 u22 q23 => ?_)
          obtain ⟨q23, Eq23⟩ := q23
          obtain ⟨⟨x24, rfl, tx24, nx24, zx24⟩, mq23⟩ := q23
          rw [mq23]
          have ex24 : x24 = (e_X0_isTurnable u kb x4) := ee_v Eq23
          refine g_goto (tgt := 46) dX0_isAble_38 (by decide) ?_
          exact g_iret (ty := .boolean) dX0_isAble_46 rfl (uk_nb tx24) ⟨⟨⟨_, rfl, tx24, fun q => by first | trivial | (have := nx24 q; first | exact this | grind), fun q => by first | trivial | (have := zx24 q; first | exact this | grind)⟩, rfl⟩, ee_p (by subst ex24; subst ex14; subst ex9; subst ex4; exact (if_neg c5).trans ((if_neg c10).trans ((if_neg c15).trans ((if_neg c16).trans (rfl)))))⟩
      · have zc15 := zx14 c15
        refine g_iconst (v := 0) dX0_isAble_25 (by decide) ?_
        exact g_iret (ty := .boolean) dX0_isAble_26 rfl rfl ⟨⟨⟨0, rfl, Or.inl rfl, fun q => absurd rfl q, fun _ => by first | trivial | lia | grind⟩, rfl⟩, ee_p (by subst ex14; subst ex9; subst ex4; exact (if_neg c5).trans ((if_neg c10).trans ((if_pos c15).trans (rfl))))⟩
def l_X0_rawBits_4 (u : uk_Mem) (kb : Nat) : Nat → Int32 → Int32 → Int32
  | 0, _, _ => 0
  | K9 + 1, i3, w2 => let x4 : Int32 := u.1 kb 0; if x4 ≤ i3 then (w2) else (let x10 : Int32 := (e_X0_isMade u kb i3); if x10 = 0 then (let x12 : Int32 := (1 : Int32) <<< (i3 &&& 31); let x13 : Int32 := w2 ||| x12; l_X0_rawBits_4 u kb K9 (i3 + 1) x13) else (let x14 : Int32 := w2 ||| (0 : Int32); l_X0_rawBits_4 u kb K9 (i3 + 1) x14))
def e_X0_rawBits (u : uk_Mem) (kb : Nat) : Int32 := l_X0_rawBits_4 u kb ee_K (0 : Int32) (0 : Int32)
abbrev qe_X0_rawBits (u : uk_Mem) (kb : Nat) (r : Option Value) (u' : uk_Mem) : Prop := (q_X0_rawBits u kb r u') ∧ (r = some (.int (e_X0_rawBits u kb)))
set_option maxHeartbeats 4000000 in
set_option maxRecDepth 20000 in
theorem x_X0_rawBits {G : uk_D} (hs : uk_Sep G) {u : uk_Mem} (hu : iv u) {kb : Nat} (hkb : uk_isK kb) (d : Nat) : uk_Meth G (d + 1) mX0_rawBits [.ref (uk_ad G kb)] u (qe_X0_rawBits u kb) := by
  refine uk_Meth.of hs (by decide) (Nat.le_of_ble_eq_true rfl) (fun X => ?_)
  refine g_iconst (v := 0) dX0_rawBits_0 (by decide) ?_
  refine g_istore_n dX0_rawBits_1 (by decide) ?_
  refine g_pick (lv' := [(0, .ref (uk_ad G kb)), (1, .int 0)]) [0, 1] rfl ?_
  refine g_iconst (v := 0) dX0_rawBits_2 (by decide) ?_
  refine g_istore_n dX0_rawBits_3 (by decide) ?_
  refine g_pick (lv' := [(0, .ref (uk_ad G kb)), (1, .int 0), (2, .int 0)]) [0, 1, 2] rfl ?_
  have L4_0 : ∀ i3 : Int32, 0 ≤ i3 → i3 ≤ 8 → ∀ (w2 : Int32), (∃ ki3 : Nat, ee_F 8 i3 ki3 ∧ e_X0_rawBits u kb = l_X0_rawBits_4 u kb ki3 i3 w2) → uk_G G X mX0_rawBits (d + 1) (qe_X0_rawBits u kb) 4 [(0, .ref (uk_ad G kb)), (1, .int w2), (2, .int i3)] [] u := by
    refine uk_upl 8 ?_
    intro i3 ai3 bi3 ihi3 w2 jEi3
    obtain ⟨ki3, fki3, hki3⟩ := jEi3
    obtain ⟨ki3, rfl⟩ := ee_Fp (by first | assumption | lia | grind) fki3
    refine g_iload_n dX0_rawBits_4 rfl ?_
    refine g_aload_n dX0_rawBits_5 rfl ?_
    refine f_X0_9 rfl (kk_0 hkb) dX0_rawBits_6 ?_
    refine g_topi (fun x4 ex4 => ?_)
    have rx4 : 0 ≤ x4 ∧ x4 ≤ 8 := by rw [ex4]; exact iv_at hu _ _ (kr_0 hkb)
    have s5 : u.1 kb 0 = x4 := ex4.symm
    refine g_icmp_ge (tgt := 36) dX0_rawBits_9 (by decide) (fun c6 => ?_) (fun c6 => ?_)
    · refine g_iload_n dX0_rawBits_36 rfl ?_
      exact g_iret (ty := .int) dX0_rawBits_37 rfl rfl ⟨⟨⟨_, rfl, by first | trivial | lia | grind⟩, rfl⟩, ee_p (by subst ex4; exact hki3.trans ((if_pos c6).trans (rfl)))⟩
    · refine g_iload_n dX0_rawBits_12 rfl ?_
      refine g_aload_n dX0_rawBits_13 rfl ?_
      refine g_iload_n dX0_rawBits_14 rfl ?_
      refine cl_X0_61 (c := kb) (As := [.int i3]) rfl (x_X0_isMade (G := G) hs hu hkb i3 (by first | trivial | decide | lia | grind) (by first | trivial | decide | lia | grind) (d)) rfl (by omega) (kk_0 hkb) rfl (Nat.le_of_ble_eq_true rfl) dX0_rawBits_15 (fun r7 u8 q9 => ?_)
      obtain ⟨q9, Eq9⟩ := q9
      obtain ⟨⟨x10, rfl, tx10, nx10, zx10⟩, mq9⟩ := q9
      rw [mq9]
      have ex10 : x10 = (e_X0_isMade u kb i3) := ee_v Eq9
      refine g_if_eq (tgt := 25) dX0_rawBits_18 (by decide) (fun c11 => ?_) (fun c11 => ?_)
      · have zc11 := zx10 c11
        refine g_iconst (v := 1) dX0_rawBits_25 (by decide) ?_
        refine g_iload_n dX0_rawBits_26 rfl ?_
        refine g_ishl dX0_rawBits_27 (fun x12 ex12 => ?_)
        refine g_ior dX0_rawBits_28 ?_
        refine g_topi (fun x13 ex13 => ?_)
        refine g_istore_n dX0_rawBits_29 (by decide) ?_
        refine g_pick (lv' := [(0, .ref (uk_ad G kb)), (1, .int x13), (2, .int i3)]) [0, 1, 2] rfl ?_
        refine g_iinc (v := i3 + 1) dX0_rawBits_30 rfl rfl (by decide) ?_
        refine g_pick (lv' := [(0, .ref (uk_ad G kb)), (1, .int x13), (2, .int (i3 + 1))]) [0, 1, 2] rfl ?_
        refine g_goto (tgt := 4) dX0_rawBits_33 (by decide) ?_
        refine g_pick (lv' := [(0, .ref (uk_ad G kb)), (1, .int x13), (2, .int (i3 + 1))]) [0, 1, 2] rfl ?_
        exact ihi3 (by first | lia | grind) x13  ⟨ki3, ee_Fs fki3 (by first | assumption | lia | grind), by subst ex13; subst ex12; subst ex10; subst ex4; exact hki3.trans ((if_neg c6).trans ((if_pos c11).trans (rfl)))⟩
      · have zc11 := nx10 c11
        refine g_iconst (v := 0) dX0_rawBits_21 (by decide) ?_
        refine g_goto (tgt := 28) dX0_rawBits_22 (by decide) ?_
        refine g_ior dX0_rawBits_28 ?_
        refine g_topi (fun x14 ex14 => ?_)
        refine g_istore_n dX0_rawBits_29 (by decide) ?_
        refine g_pick (lv' := [(0, .ref (uk_ad G kb)), (1, .int x14), (2, .int i3)]) [0, 1, 2] rfl ?_
        refine g_iinc (v := i3 + 1) dX0_rawBits_30 rfl rfl (by decide) ?_
        refine g_pick (lv' := [(0, .ref (uk_ad G kb)), (1, .int x14), (2, .int (i3 + 1))]) [0, 1, 2] rfl ?_
        refine g_goto (tgt := 4) dX0_rawBits_33 (by decide) ?_
        refine g_pick (lv' := [(0, .ref (uk_ad G kb)), (1, .int x14), (2, .int (i3 + 1))]) [0, 1, 2] rfl ?_
        exact ihi3 (by first | lia | grind) x14  ⟨ki3, ee_Fs fki3 (by first | assumption | lia | grind), by subst ex14; subst ex10; subst ex4; exact hki3.trans ((if_neg c6).trans ((if_neg c11).trans (rfl)))⟩
  refine g_pick (lv' := [(0, .ref (uk_ad G kb)), (1, .int 0), (2, .int 0)]) [0, 1, 2] rfl ?_
  exact L4_0 0 (by first | decide | lia | grind) (by first | decide | lia | grind) 0  ⟨ee_K, ee_F0 _ _, by exact rfl⟩
def l_X0_thereBits_4 (u : uk_Mem) (kb : Nat) : Nat → Int32 → Int32 → Int32
  | 0, _, _ => 0
  | K9 + 1, i3, w2 => let x4 : Int32 := u.1 kb 0; if x4 ≤ i3 then (w2) else (let x8 : Int32 := u.1 (kb + 6) i3.toNatClampNeg; if x8 ≤ 0 then (let x10 : Int32 := w2 ||| (0 : Int32); l_X0_thereBits_4 u kb K9 (i3 + 1) x10) else (let x11 : Int32 := (1 : Int32) <<< (i3 &&& 31); let x12 : Int32 := w2 ||| x11; l_X0_thereBits_4 u kb K9 (i3 + 1) x12))
def e_X0_thereBits (u : uk_Mem) (kb : Nat) : Int32 := l_X0_thereBits_4 u kb ee_K (0 : Int32) (0 : Int32)
abbrev qe_X0_thereBits (u : uk_Mem) (kb : Nat) (r : Option Value) (u' : uk_Mem) : Prop := (q_X0_thereBits u kb r u') ∧ (r = some (.int (e_X0_thereBits u kb)))
set_option maxHeartbeats 4000000 in
set_option maxRecDepth 20000 in
theorem x_X0_thereBits {G : uk_D} (hs : uk_Sep G) {u : uk_Mem} (hu : iv u) {kb : Nat} (hkb : uk_isK kb) (d : Nat) : uk_Meth G d mX0_thereBits [.ref (uk_ad G kb)] u (qe_X0_thereBits u kb) := by
  refine uk_Meth.of hs (by decide) (Nat.le_of_ble_eq_true rfl) (fun X => ?_)
  refine g_iconst (v := 0) dX0_thereBits_0 (by decide) ?_
  refine g_istore_n dX0_thereBits_1 (by decide) ?_
  refine g_pick (lv' := [(0, .ref (uk_ad G kb)), (1, .int 0)]) [0, 1] rfl ?_
  refine g_iconst (v := 0) dX0_thereBits_2 (by decide) ?_
  refine g_istore_n dX0_thereBits_3 (by decide) ?_
  refine g_pick (lv' := [(0, .ref (uk_ad G kb)), (1, .int 0), (2, .int 0)]) [0, 1, 2] rfl ?_
  have L4_0 : ∀ i3 : Int32, 0 ≤ i3 → i3 ≤ 8 → ∀ (w2 : Int32), (∃ ki3 : Nat, ee_F 8 i3 ki3 ∧ e_X0_thereBits u kb = l_X0_thereBits_4 u kb ki3 i3 w2) → uk_G G X mX0_thereBits d (qe_X0_thereBits u kb) 4 [(0, .ref (uk_ad G kb)), (1, .int w2), (2, .int i3)] [] u := by
    refine uk_upl 8 ?_
    intro i3 ai3 bi3 ihi3 w2 jEi3
    obtain ⟨ki3, fki3, hki3⟩ := jEi3
    obtain ⟨ki3, rfl⟩ := ee_Fp (by first | assumption | lia | grind) fki3
    refine g_iload_n dX0_thereBits_4 rfl ?_
    refine g_aload_n dX0_thereBits_5 rfl ?_
    refine f_X0_9 rfl (kk_0 hkb) dX0_thereBits_6 ?_
    refine g_topi (fun x4 ex4 => ?_)
    have rx4 : 0 ≤ x4 ∧ x4 ≤ 8 := by rw [ex4]; exact iv_at hu _ _ (kr_0 hkb)
    have s5 : u.1 kb 0 = x4 := ex4.symm
    refine g_icmp_ge (tgt := 37) dX0_thereBits_9 (by decide) (fun c6 => ?_) (fun c6 => ?_)
    · refine g_iload_n dX0_thereBits_37 rfl ?_
      exact g_iret (ty := .int) dX0_thereBits_38 rfl rfl ⟨⟨⟨_, rfl, by first | trivial | lia | grind⟩, rfl⟩, ee_p (by subst ex4; exact hki3.trans ((if_pos c6).trans (rfl)))⟩
    · refine g_iload_n dX0_thereBits_12 rfl ?_
      refine g_aload_n dX0_thereBits_13 rfl ?_
      refine f_X0_31 rfl (kk_0 hkb) dX0_thereBits_14 ?_
      refine g_iload_n dX0_thereBits_17 rfl ?_
      have v7 : vp_in i3 8 := uk_vin 8 rfl (by first | decide | lia | grind) (by first | decide | lia | grind)
      refine g_iald (kk_6 hkb) (kl_6 hkb) v7 dX0_thereBits_18 ?_
      refine g_topi (fun x8 ex8 => ?_)
      refine g_if_le (tgt := 28) dX0_thereBits_19 (by decide) (fun c9 => ?_) (fun c9 => ?_)
      · refine g_iconst (v := 0) dX0_thereBits_28 (by decide) ?_
        refine g_ior dX0_thereBits_29 ?_
        refine g_topi (fun x10 ex10 => ?_)
        refine g_istore_n dX0_thereBits_30 (by decide) ?_
        refine g_pick (lv' := [(0, .ref (uk_ad G kb)), (1, .int x10), (2, .int i3)]) [0, 1, 2] rfl ?_
        refine g_iinc (v := i3 + 1) dX0_thereBits_31 rfl rfl (by decide) ?_
        refine g_pick (lv' := [(0, .ref (uk_ad G kb)), (1, .int x10), (2, .int (i3 + 1))]) [0, 1, 2] rfl ?_
        refine g_goto (tgt := 4) dX0_thereBits_34 (by decide) ?_
        refine g_pick (lv' := [(0, .ref (uk_ad G kb)), (1, .int x10), (2, .int (i3 + 1))]) [0, 1, 2] rfl ?_
        exact ihi3 (by first | lia | grind) x10  ⟨ki3, ee_Fs fki3 (by first | assumption | lia | grind), by subst ex10; subst ex8; subst ex4; exact hki3.trans ((if_neg c6).trans ((if_pos c9).trans (rfl)))⟩
      · refine g_iconst (v := 1) dX0_thereBits_22 (by decide) ?_
        refine g_iload_n dX0_thereBits_23 rfl ?_
        refine g_ishl dX0_thereBits_24 (fun x11 ex11 => ?_)
        refine g_goto (tgt := 29) dX0_thereBits_25 (by decide) ?_
        refine g_ior dX0_thereBits_29 ?_
        refine g_topi (fun x12 ex12 => ?_)
        refine g_istore_n dX0_thereBits_30 (by decide) ?_
        refine g_pick (lv' := [(0, .ref (uk_ad G kb)), (1, .int x12), (2, .int i3)]) [0, 1, 2] rfl ?_
        refine g_iinc (v := i3 + 1) dX0_thereBits_31 rfl rfl (by decide) ?_
        refine g_pick (lv' := [(0, .ref (uk_ad G kb)), (1, .int x12), (2, .int (i3 + 1))]) [0, 1, 2] rfl ?_
        refine g_goto (tgt := 4) dX0_thereBits_34 (by decide) ?_
        refine g_pick (lv' := [(0, .ref (uk_ad G kb)), (1, .int x12), (2, .int (i3 + 1))]) [0, 1, 2] rfl ?_
        exact ihi3 (by first | lia | grind) x12  ⟨ki3, ee_Fs fki3 (by first | assumption | lia | grind), by subst ex12; subst ex11; subst ex8; subst ex4; exact hki3.trans ((if_neg c6).trans ((if_neg c9).trans (rfl)))⟩
  refine g_pick (lv' := [(0, .ref (uk_ad G kb)), (1, .int 0), (2, .int 0)]) [0, 1, 2] rfl ?_
  exact L4_0 0 (by first | decide | lia | grind) (by first | decide | lia | grind) 0  ⟨ee_K, ee_F0 _ _, by exact rfl⟩
def l_X0_things_4 (u : uk_Mem) (kb : Nat) : Nat → Int32 → Int32 → Int32
  | 0, _, _ => 0
  | K9 + 1, i3, w2 => let x4 : Int32 := u.1 kb 0; if x4 ≤ i3 then (w2) else (let x8 : Int32 := u.1 (kb + 6) i3.toNatClampNeg; let x9 : Int32 := w2 + x8; l_X0_things_4 u kb K9 (i3 + 1) x9)
def e_X0_things (u : uk_Mem) (kb : Nat) : Int32 := l_X0_things_4 u kb ee_K (0 : Int32) (0 : Int32)
abbrev qe_X0_things (u : uk_Mem) (kb : Nat) (r : Option Value) (u' : uk_Mem) : Prop := (q_X0_things u kb r u') ∧ (r = some (.int (e_X0_things u kb)))
set_option maxHeartbeats 4000000 in
set_option maxRecDepth 20000 in
theorem x_X0_things {G : uk_D} (hs : uk_Sep G) {u : uk_Mem} (hu : iv u) {kb : Nat} (hkb : uk_isK kb) (d : Nat) : uk_Meth G d mX0_things [.ref (uk_ad G kb)] u (qe_X0_things u kb) := by
  refine uk_Meth.of hs (by decide) (Nat.le_of_ble_eq_true rfl) (fun X => ?_)
  refine g_iconst (v := 0) dX0_things_0 (by decide) ?_
  refine g_istore_n dX0_things_1 (by decide) ?_
  refine g_pick (lv' := [(0, .ref (uk_ad G kb)), (1, .int 0)]) [0, 1] rfl ?_
  refine g_iconst (v := 0) dX0_things_2 (by decide) ?_
  refine g_istore_n dX0_things_3 (by decide) ?_
  refine g_pick (lv' := [(0, .ref (uk_ad G kb)), (1, .int 0), (2, .int 0)]) [0, 1, 2] rfl ?_
  have L4_0 : ∀ i3 : Int32, 0 ≤ i3 → i3 ≤ 8 → ∀ (w2 : Int32), (∃ ki3 : Nat, ee_F 8 i3 ki3 ∧ e_X0_things u kb = l_X0_things_4 u kb ki3 i3 w2) → uk_G G X mX0_things d (qe_X0_things u kb) 4 [(0, .ref (uk_ad G kb)), (1, .int w2), (2, .int i3)] [] u := by
    refine uk_upl 8 ?_
    intro i3 ai3 bi3 ihi3 w2 jEi3
    obtain ⟨ki3, fki3, hki3⟩ := jEi3
    obtain ⟨ki3, rfl⟩ := ee_Fp (by first | assumption | lia | grind) fki3
    refine g_iload_n dX0_things_4 rfl ?_
    refine g_aload_n dX0_things_5 rfl ?_
    refine f_X0_9 rfl (kk_0 hkb) dX0_things_6 ?_
    refine g_topi (fun x4 ex4 => ?_)
    have rx4 : 0 ≤ x4 ∧ x4 ≤ 8 := by rw [ex4]; exact iv_at hu _ _ (kr_0 hkb)
    have s5 : u.1 kb 0 = x4 := ex4.symm
    refine g_icmp_ge (tgt := 27) dX0_things_9 (by decide) (fun c6 => ?_) (fun c6 => ?_)
    · refine g_iload_n dX0_things_27 rfl ?_
      exact g_iret (ty := .int) dX0_things_28 rfl rfl ⟨⟨⟨_, rfl, by first | trivial | lia | grind⟩, rfl⟩, ee_p (by subst ex4; exact hki3.trans ((if_pos c6).trans (rfl)))⟩
    · refine g_iload_n dX0_things_12 rfl ?_
      refine g_aload_n dX0_things_13 rfl ?_
      refine f_X0_31 rfl (kk_0 hkb) dX0_things_14 ?_
      refine g_iload_n dX0_things_17 rfl ?_
      have v7 : vp_in i3 8 := uk_vin 8 rfl (by first | decide | lia | grind) (by first | decide | lia | grind)
      refine g_iald (kk_6 hkb) (kl_6 hkb) v7 dX0_things_18 ?_
      refine g_topi (fun x8 ex8 => ?_)
      refine g_iadd dX0_things_19 ?_
      refine g_topi (fun x9 ex9 => ?_)
      refine g_istore_n dX0_things_20 (by decide) ?_
      refine g_pick (lv' := [(0, .ref (uk_ad G kb)), (1, .int x9), (2, .int i3)]) [0, 1, 2] rfl ?_
      refine g_iinc (v := i3 + 1) dX0_things_21 rfl rfl (by decide) ?_
      refine g_pick (lv' := [(0, .ref (uk_ad G kb)), (1, .int x9), (2, .int (i3 + 1))]) [0, 1, 2] rfl ?_
      refine g_goto (tgt := 4) dX0_things_24 (by decide) ?_
      refine g_pick (lv' := [(0, .ref (uk_ad G kb)), (1, .int x9), (2, .int (i3 + 1))]) [0, 1, 2] rfl ?_
      exact ihi3 (by first | lia | grind) x9  ⟨ki3, ee_Fs fki3 (by first | assumption | lia | grind), by subst ex9; subst ex8; subst ex4; exact hki3.trans ((if_neg c6).trans (rfl))⟩
  refine g_pick (lv' := [(0, .ref (uk_ad G kb)), (1, .int 0), (2, .int 0)]) [0, 1, 2] rfl ?_
  exact L4_0 0 (by first | decide | lia | grind) (by first | decide | lia | grind) 0  ⟨ee_K, ee_F0 _ _, by exact rfl⟩
def l_X0_allFeeds_4 (u : uk_Mem) (kb : Nat) : Nat → Int32 → Int32 → Int32
  | 0, _, _ => 0
  | K9 + 1, i3, w2 => let x4 : Int32 := u.1 kb 0; if x4 ≤ i3 then (w2) else (let x8 : Int32 := u.1 (kb + 6) i3.toNatClampNeg; let x10 : Int32 := u.1 (kb + 4) i3.toNatClampNeg; let x11 : Int32 := x8 * x10; let x12 : Int32 := w2 + x11; l_X0_allFeeds_4 u kb K9 (i3 + 1) x12)
def e_X0_allFeeds (u : uk_Mem) (kb : Nat) : Int32 := l_X0_allFeeds_4 u kb ee_K (0 : Int32) (0 : Int32)
abbrev qe_X0_allFeeds (u : uk_Mem) (kb : Nat) (r : Option Value) (u' : uk_Mem) : Prop := (q_X0_allFeeds u kb r u') ∧ (r = some (.int (e_X0_allFeeds u kb)))
set_option maxHeartbeats 4000000 in
set_option maxRecDepth 20000 in
theorem x_X0_allFeeds {G : uk_D} (hs : uk_Sep G) {u : uk_Mem} (hu : iv u) {kb : Nat} (hkb : uk_isK kb) (d : Nat) : uk_Meth G d mX0_allFeeds [.ref (uk_ad G kb)] u (qe_X0_allFeeds u kb) := by
  refine uk_Meth.of hs (by decide) (Nat.le_of_ble_eq_true rfl) (fun X => ?_)
  refine g_iconst (v := 0) dX0_allFeeds_0 (by decide) ?_
  refine g_istore_n dX0_allFeeds_1 (by decide) ?_
  refine g_pick (lv' := [(0, .ref (uk_ad G kb)), (1, .int 0)]) [0, 1] rfl ?_
  refine g_iconst (v := 0) dX0_allFeeds_2 (by decide) ?_
  refine g_istore_n dX0_allFeeds_3 (by decide) ?_
  refine g_pick (lv' := [(0, .ref (uk_ad G kb)), (1, .int 0), (2, .int 0)]) [0, 1, 2] rfl ?_
  have L4_0 : ∀ i3 : Int32, 0 ≤ i3 → i3 ≤ 8 → ∀ (w2 : Int32), (∃ ki3 : Nat, ee_F 8 i3 ki3 ∧ e_X0_allFeeds u kb = l_X0_allFeeds_4 u kb ki3 i3 w2) → uk_G G X mX0_allFeeds d (qe_X0_allFeeds u kb) 4 [(0, .ref (uk_ad G kb)), (1, .int w2), (2, .int i3)] [] u := by
    refine uk_upl 8 ?_
    intro i3 ai3 bi3 ihi3 w2 jEi3
    obtain ⟨ki3, fki3, hki3⟩ := jEi3
    obtain ⟨ki3, rfl⟩ := ee_Fp (by first | assumption | lia | grind) fki3
    refine g_iload_n dX0_allFeeds_4 rfl ?_
    refine g_aload_n dX0_allFeeds_5 rfl ?_
    refine f_X0_9 rfl (kk_0 hkb) dX0_allFeeds_6 ?_
    refine g_topi (fun x4 ex4 => ?_)
    have rx4 : 0 ≤ x4 ∧ x4 ≤ 8 := by rw [ex4]; exact iv_at hu _ _ (kr_0 hkb)
    have s5 : u.1 kb 0 = x4 := ex4.symm
    refine g_icmp_ge (tgt := 34) dX0_allFeeds_9 (by decide) (fun c6 => ?_) (fun c6 => ?_)
    · refine g_iload_n dX0_allFeeds_34 rfl ?_
      exact g_iret (ty := .int) dX0_allFeeds_35 rfl rfl ⟨⟨⟨_, rfl, by first | trivial | lia | grind⟩, rfl⟩, ee_p (by subst ex4; exact hki3.trans ((if_pos c6).trans (rfl)))⟩
    · refine g_iload_n dX0_allFeeds_12 rfl ?_
      refine g_aload_n dX0_allFeeds_13 rfl ?_
      refine f_X0_31 rfl (kk_0 hkb) dX0_allFeeds_14 ?_
      refine g_iload_n dX0_allFeeds_17 rfl ?_
      have v7 : vp_in i3 8 := uk_vin 8 rfl (by first | decide | lia | grind) (by first | decide | lia | grind)
      refine g_iald (kk_6 hkb) (kl_6 hkb) v7 dX0_allFeeds_18 ?_
      refine g_topi (fun x8 ex8 => ?_)
      refine g_aload_n dX0_allFeeds_19 rfl ?_
      refine f_X0_25 rfl (kk_0 hkb) dX0_allFeeds_20 ?_
      refine g_iload_n dX0_allFeeds_23 rfl ?_
      have v9 : vp_in i3 8 := uk_vin 8 rfl (by first | decide | lia | grind) (by first | decide | lia | grind)
      refine g_iald (kk_4 hkb) (kl_4 hkb) v9 dX0_allFeeds_24 ?_
      refine g_topi (fun x10 ex10 => ?_)
      refine g_imul dX0_allFeeds_25 ?_
      refine g_topi (fun x11 ex11 => ?_)
      refine g_iadd dX0_allFeeds_26 ?_
      refine g_topi (fun x12 ex12 => ?_)
      refine g_istore_n dX0_allFeeds_27 (by decide) ?_
      refine g_pick (lv' := [(0, .ref (uk_ad G kb)), (1, .int x12), (2, .int i3)]) [0, 1, 2] rfl ?_
      refine g_iinc (v := i3 + 1) dX0_allFeeds_28 rfl rfl (by decide) ?_
      refine g_pick (lv' := [(0, .ref (uk_ad G kb)), (1, .int x12), (2, .int (i3 + 1))]) [0, 1, 2] rfl ?_
      refine g_goto (tgt := 4) dX0_allFeeds_31 (by decide) ?_
      refine g_pick (lv' := [(0, .ref (uk_ad G kb)), (1, .int x12), (2, .int (i3 + 1))]) [0, 1, 2] rfl ?_
      exact ihi3 (by first | lia | grind) x12  ⟨ki3, ee_Fs fki3 (by first | assumption | lia | grind), by subst ex12; subst ex11; subst ex10; subst ex8; subst ex4; exact hki3.trans ((if_neg c6).trans (rfl))⟩
  refine g_pick (lv' := [(0, .ref (uk_ad G kb)), (1, .int 0), (2, .int 0)]) [0, 1, 2] rfl ?_
  exact L4_0 0 (by first | decide | lia | grind) (by first | decide | lia | grind) 0  ⟨ee_K, ee_F0 _ _, by exact rfl⟩
def e_X0_flipHalf (u : uk_Mem) (kb : Nat) (m : Int32) : uk_Mem := let x2 : Int32 := u.1 (kb + 1) m.toNatClampNeg; if x2 = (3 : Int32) then (let x5 : Int32 := u.1 (kb + 7) m.toNatClampNeg; let x6 : Int32 := (1 : Int32) - x5; let u9 : uk_Mem := uk_up u (kb + 7) m.toNatClampNeg x6; u9) else (u)
abbrev qe_X0_flipHalf (u : uk_Mem) (kb : Nat) (m : Int32) (r : Option Value) (u' : uk_Mem) : Prop := (q_X0_flipHalf u kb m r u') ∧ (u' = e_X0_flipHalf u kb m)
set_option maxHeartbeats 4000000 in
set_option maxRecDepth 20000 in
theorem x_X0_flipHalf {G : uk_D} (hs : uk_Sep G) {u : uk_Mem} (hu : iv u) {kb : Nat} (hkb : uk_isK kb) (m : Int32) (p0 : 0 ≤ m) (p1 : m ≤ 7) (d : Nat) : uk_Meth G d mX0_flipHalf [.ref (uk_ad G kb), .int m] u (qe_X0_flipHalf u kb m) := by
  refine uk_Meth.of hs (by decide) (Nat.le_of_ble_eq_true rfl) (fun X => ?_)
  have f0 : fr kb (kb + 9) u u := fr_rf
  refine g_aload_n dX0_flipHalf_0 rfl ?_
  refine f_X0_15 rfl (kk_0 hkb) dX0_flipHalf_1 ?_
  refine g_iload_n dX0_flipHalf_4 rfl ?_
  have v1 : vp_in m 8 := uk_vin 8 rfl (by first | decide | lia | grind) (by first | decide | lia | grind)
  refine g_iald (kk_1 hkb) (kl_1 hkb) v1 dX0_flipHalf_5 ?_
  refine g_topi (fun x2 ex2 => ?_)
  refine g_iconst (v := 3) dX0_flipHalf_6 (by decide) ?_
  refine g_icmp_ne (tgt := 24) dX0_flipHalf_7 (by decide) (fun c3 => ?_) (fun c3 => ?_)
  · exact g_vret dX0_flipHalf_24 rfl ⟨⟨rfl, hu, f0⟩, (by subst ex2; exact (if_neg c3).trans (rfl) : e_X0_flipHalf u kb m = u).symm⟩
  · refine g_aload_n dX0_flipHalf_10 rfl ?_
    refine f_X0_34 rfl (kk_0 hkb) dX0_flipHalf_11 ?_
    refine g_iload_n dX0_flipHalf_14 rfl ?_
    refine g_iconst (v := 1) dX0_flipHalf_15 (by decide) ?_
    refine g_aload_n dX0_flipHalf_16 rfl ?_
    refine f_X0_34 rfl (kk_0 hkb) dX0_flipHalf_17 ?_
    refine g_iload_n dX0_flipHalf_20 rfl ?_
    have v4 : vp_in m 8 := uk_vin 8 rfl (by first | decide | lia | grind) (by first | decide | lia | grind)
    refine g_iald (kk_7 hkb) (kl_7 hkb) v4 dX0_flipHalf_21 ?_
    refine g_topi (fun x5 ex5 => ?_)
    refine g_isub dX0_flipHalf_22 ?_
    refine g_topi (fun x6 ex6 => ?_)
    have v7 : vp_in m 8 := uk_vin 8 rfl (by first | decide | lia | grind) (by first | decide | lia | grind)
    have b8 := uk_cl v7
    refine g_iast (kk_7 hkb) (kl_7 hkb) v7 dX0_flipHalf_23 ?_
    refine g_mem (fun u9 eu9 => ?_)
    have hu9 : iv u9 := by rw [eu9]; exact iv_upF hu (ka_7 hkb _ (by omega))
    have fu9 : fr kb (kb + 9) u u9 := by rw [eu9]; exact fr_up f0 (by omega) (by omega)
    exact g_vret dX0_flipHalf_24 rfl ⟨⟨rfl, hu9, fu9⟩, (by subst eu9; subst ex6; subst ex5; subst ex2; exact (if_pos c3).trans (rfl) : e_X0_flipHalf u kb m = u9).symm⟩
def e_X0_moveCooked (u : uk_Mem) (kb : Nat) (m : Int32) (t : Int32) : uk_Mem := let x2 : Int32 := u.1 (kb + 2) m.toNatClampNeg; let x4 : Int32 := u.1 (kb + 6) x2.toNatClampNeg; let x5 : Int32 := x4 - t; let u8 : uk_Mem := uk_up u (kb + 6) x2.toNatClampNeg x5; let x10 : Int32 := u8.1 (kb + 3) m.toNatClampNeg; let x12 : Int32 := u8.1 (kb + 6) x10.toNatClampNeg; let x13 : Int32 := x12 - t; let u16 : uk_Mem := uk_up u8 (kb + 6) x10.toNatClampNeg x13; let x18 : Int32 := u16.1 (kb + 6) m.toNatClampNeg; let x19 : Int32 := x18 + t; let u22 : uk_Mem := uk_up u16 (kb + 6) m.toNatClampNeg x19; u22
abbrev qe_X0_moveCooked (u : uk_Mem) (kb : Nat) (m : Int32) (t : Int32) (r : Option Value) (u' : uk_Mem) : Prop := (q_X0_moveCooked u kb m t r u') ∧ (u' = e_X0_moveCooked u kb m t)
set_option maxHeartbeats 4000000 in
set_option maxRecDepth 20000 in
theorem x_X0_moveCooked {G : uk_D} (hs : uk_Sep G) {u : uk_Mem} (hu : iv u) {kb : Nat} (hkb : uk_isK kb) (m : Int32) (t : Int32) (p0 : 0 ≤ m) (p1 : m ≤ 7) (d : Nat) : uk_Meth G d mX0_moveCooked [.ref (uk_ad G kb), .int m, .int t] u (qe_X0_moveCooked u kb m t) := by
  refine uk_Meth.of hs (by decide) (Nat.le_of_ble_eq_true rfl) (fun X => ?_)
  have f0 : fr kb (kb + 9) u u := fr_rf
  refine g_aload_n dX0_moveCooked_0 rfl ?_
  refine f_X0_31 rfl (kk_0 hkb) dX0_moveCooked_1 ?_
  refine g_aload_n dX0_moveCooked_4 rfl ?_
  refine f_X0_19 rfl (kk_0 hkb) dX0_moveCooked_5 ?_
  refine g_iload_n dX0_moveCooked_8 rfl ?_
  have v1 : vp_in m 8 := uk_vin 8 rfl (by first | decide | lia | grind) (by first | decide | lia | grind)
  refine g_iald (kk_2 hkb) (kl_2 hkb) v1 dX0_moveCooked_9 ?_
  refine g_topi (fun x2 ex2 => ?_)
  have bx2 := uk_cl v1
  have rx2 : 0 ≤ x2 ∧ x2 ≤ 7 := by rw [ex2]; exact iv_at hu _ _ (ka_2 hkb _ (by omega))
  refine g_dup2 dX0_moveCooked_10 rfl rfl ?_
  have v3 : vp_in x2 8 := uk_vin 8 rfl (by first | decide | lia | grind) (by first | decide | lia | grind)
  refine g_iald (kk_6 hkb) (kl_6 hkb) v3 dX0_moveCooked_11 ?_
  refine g_topi (fun x4 ex4 => ?_)
  refine g_iload_n dX0_moveCooked_12 rfl ?_
  refine g_isub dX0_moveCooked_13 ?_
  refine g_topi (fun x5 ex5 => ?_)
  have v6 : vp_in x2 8 := uk_vin 8 rfl (by first | decide | lia | grind) (by first | decide | lia | grind)
  have b7 := uk_cl v6
  refine g_iast (kk_6 hkb) (kl_6 hkb) v6 dX0_moveCooked_14 ?_
  refine g_mem (fun u8 eu8 => ?_)
  have hu8 : iv u8 := by rw [eu8]; exact iv_upF hu (ka_6 hkb _ (by omega))
  have fu8 : fr kb (kb + 9) u u8 := by rw [eu8]; exact fr_up f0 (by omega) (by omega)
  refine g_aload_n dX0_moveCooked_15 rfl ?_
  refine f_X0_31 rfl (kk_0 hkb) dX0_moveCooked_16 ?_
  refine g_aload_n dX0_moveCooked_19 rfl ?_
  refine f_X0_22 rfl (kk_0 hkb) dX0_moveCooked_20 ?_
  refine g_iload_n dX0_moveCooked_23 rfl ?_
  have v9 : vp_in m 8 := uk_vin 8 rfl (by first | decide | lia | grind) (by first | decide | lia | grind)
  refine g_iald (kk_3 hkb) (kl_3 hkb) v9 dX0_moveCooked_24 ?_
  refine g_topi (fun x10 ex10 => ?_)
  have bx10 := uk_cl v9
  have rx10 : 0 ≤ x10 ∧ x10 ≤ 7 := by rw [ex10]; exact iv_at hu8 _ _ (ka_3 hkb _ (by omega))
  refine g_dup2 dX0_moveCooked_25 rfl rfl ?_
  have v11 : vp_in x10 8 := uk_vin 8 rfl (by first | decide | lia | grind) (by first | decide | lia | grind)
  refine g_iald (kk_6 hkb) (kl_6 hkb) v11 dX0_moveCooked_26 ?_
  refine g_topi (fun x12 ex12 => ?_)
  refine g_iload_n dX0_moveCooked_27 rfl ?_
  refine g_isub dX0_moveCooked_28 ?_
  refine g_topi (fun x13 ex13 => ?_)
  have v14 : vp_in x10 8 := uk_vin 8 rfl (by first | decide | lia | grind) (by first | decide | lia | grind)
  have b15 := uk_cl v14
  refine g_iast (kk_6 hkb) (kl_6 hkb) v14 dX0_moveCooked_29 ?_
  refine g_mem (fun u16 eu16 => ?_)
  have hu16 : iv u16 := by rw [eu16]; exact iv_upF hu8 (ka_6 hkb _ (by omega))
  have fu16 : fr kb (kb + 9) u u16 := by rw [eu16]; exact fr_up fu8 (by omega) (by omega)
  refine g_aload_n dX0_moveCooked_30 rfl ?_
  refine f_X0_31 rfl (kk_0 hkb) dX0_moveCooked_31 ?_
  refine g_iload_n dX0_moveCooked_34 rfl ?_
  refine g_dup2 dX0_moveCooked_35 rfl rfl ?_
  have v17 : vp_in m 8 := uk_vin 8 rfl (by first | decide | lia | grind) (by first | decide | lia | grind)
  refine g_iald (kk_6 hkb) (kl_6 hkb) v17 dX0_moveCooked_36 ?_
  refine g_topi (fun x18 ex18 => ?_)
  refine g_iload_n dX0_moveCooked_37 rfl ?_
  refine g_iadd dX0_moveCooked_38 ?_
  refine g_topi (fun x19 ex19 => ?_)
  have v20 : vp_in m 8 := uk_vin 8 rfl (by first | decide | lia | grind) (by first | decide | lia | grind)
  have b21 := uk_cl v20
  refine g_iast (kk_6 hkb) (kl_6 hkb) v20 dX0_moveCooked_39 ?_
  refine g_mem (fun u22 eu22 => ?_)
  have hu22 : iv u22 := by rw [eu22]; exact iv_upF hu16 (ka_6 hkb _ (by omega))
  have fu22 : fr kb (kb + 9) u u22 := by rw [eu22]; exact fr_up fu16 (by omega) (by omega)
  exact g_vret dX0_moveCooked_40 rfl ⟨⟨rfl, hu22, fu22⟩, (by subst eu22; subst ex19; subst ex18; subst eu16; subst ex13; subst ex12; subst ex10; subst eu8; subst ex5; subst ex4; subst ex2; exact rfl : e_X0_moveCooked u kb m t = u22).symm⟩
def e_X0_moveTurned (u : uk_Mem) (kb : Nat) (m : Int32) (t : Int32) : uk_Mem := let x2 : Int32 := u.1 (kb + 6) m.toNatClampNeg; let x3 : Int32 := x2 - t; let u6 : uk_Mem := uk_up u (kb + 6) m.toNatClampNeg x3; let x8 : Int32 := u6.1 (kb + 2) m.toNatClampNeg; let x10 : Int32 := u6.1 (kb + 6) x8.toNatClampNeg; let x11 : Int32 := x10 + t; let u14 : uk_Mem := uk_up u6 (kb + 6) x8.toNatClampNeg x11; let x16 : Int32 := u14.1 (kb + 1) m.toNatClampNeg; let x18 : Int32 := u14.1 (kb + 7) m.toNatClampNeg; let x22 : Int32 := (e_X0_givesB u14 x16 x18); if x22 = 0 then (u14) else (let x25 : Int32 := u14.1 (kb + 3) m.toNatClampNeg; let x27 : Int32 := u14.1 (kb + 6) x25.toNatClampNeg; let x28 : Int32 := x27 + t; let u31 : uk_Mem := uk_up u14 (kb + 6) x25.toNatClampNeg x28; u31)
abbrev qe_X0_moveTurned (u : uk_Mem) (kb : Nat) (m : Int32) (t : Int32) (r : Option Value) (u' : uk_Mem) : Prop := (q_X0_moveTurned u kb m t r u') ∧ (u' = e_X0_moveTurned u kb m t)
set_option maxHeartbeats 4000000 in
set_option maxRecDepth 20000 in
theorem x_X0_moveTurned {G : uk_D} (hs : uk_Sep G) {u : uk_Mem} (hu : iv u) {kb : Nat} (hkb : uk_isK kb) (m : Int32) (t : Int32) (p0 : 0 ≤ m) (p1 : m ≤ 7) (d : Nat) : uk_Meth G (d + 1) mX0_moveTurned [.ref (uk_ad G kb), .int m, .int t] u (qe_X0_moveTurned u kb m t) := by
  refine uk_Meth.of hs (by decide) (Nat.le_of_ble_eq_true rfl) (fun X => ?_)
  have f0 : fr kb (kb + 9) u u := fr_rf
  refine g_aload_n dX0_moveTurned_0 rfl ?_
  refine f_X0_31 rfl (kk_0 hkb) dX0_moveTurned_1 ?_
  refine g_iload_n dX0_moveTurned_4 rfl ?_
  refine g_dup2 dX0_moveTurned_5 rfl rfl ?_
  have v1 : vp_in m 8 := uk_vin 8 rfl (by first | decide | lia | grind) (by first | decide | lia | grind)
  refine g_iald (kk_6 hkb) (kl_6 hkb) v1 dX0_moveTurned_6 ?_
  refine g_topi (fun x2 ex2 => ?_)
  refine g_iload_n dX0_moveTurned_7 rfl ?_
  refine g_isub dX0_moveTurned_8 ?_
  refine g_topi (fun x3 ex3 => ?_)
  have v4 : vp_in m 8 := uk_vin 8 rfl (by first | decide | lia | grind) (by first | decide | lia | grind)
  have b5 := uk_cl v4
  refine g_iast (kk_6 hkb) (kl_6 hkb) v4 dX0_moveTurned_9 ?_
  refine g_mem (fun u6 eu6 => ?_)
  have hu6 : iv u6 := by rw [eu6]; exact iv_upF hu (ka_6 hkb _ (by omega))
  have fu6 : fr kb (kb + 9) u u6 := by rw [eu6]; exact fr_up f0 (by omega) (by omega)
  refine g_aload_n dX0_moveTurned_10 rfl ?_
  refine f_X0_31 rfl (kk_0 hkb) dX0_moveTurned_11 ?_
  refine g_aload_n dX0_moveTurned_14 rfl ?_
  refine f_X0_19 rfl (kk_0 hkb) dX0_moveTurned_15 ?_
  refine g_iload_n dX0_moveTurned_18 rfl ?_
  have v7 : vp_in m 8 := uk_vin 8 rfl (by first | decide | lia | grind) (by first | decide | lia | grind)
  refine g_iald (kk_2 hkb) (kl_2 hkb) v7 dX0_moveTurned_19 ?_
  refine g_topi (fun x8 ex8 => ?_)
  have bx8 := uk_cl v7
  have rx8 : 0 ≤ x8 ∧ x8 ≤ 7 := by rw [ex8]; exact iv_at hu6 _ _ (ka_2 hkb _ (by omega))
  refine g_dup2 dX0_moveTurned_20 rfl rfl ?_
  have v9 : vp_in x8 8 := uk_vin 8 rfl (by first | decide | lia | grind) (by first | decide | lia | grind)
  refine g_iald (kk_6 hkb) (kl_6 hkb) v9 dX0_moveTurned_21 ?_
  refine g_topi (fun x10 ex10 => ?_)
  refine g_iload_n dX0_moveTurned_22 rfl ?_
  refine g_iadd dX0_moveTurned_23 ?_
  refine g_topi (fun x11 ex11 => ?_)
  have v12 : vp_in x8 8 := uk_vin 8 rfl (by first | decide | lia | grind) (by first | decide | lia | grind)
  have b13 := uk_cl v12
  refine g_iast (kk_6 hkb) (kl_6 hkb) v12 dX0_moveTurned_24 ?_
  refine g_mem (fun u14 eu14 => ?_)
  have hu14 : iv u14 := by rw [eu14]; exact iv_upF hu6 (ka_6 hkb _ (by omega))
  have fu14 : fr kb (kb + 9) u u14 := by rw [eu14]; exact fr_up fu6 (by omega) (by omega)
  refine g_aload_n dX0_moveTurned_25 rfl ?_
  refine f_X0_15 rfl (kk_0 hkb) dX0_moveTurned_26 ?_
  refine g_iload_n dX0_moveTurned_29 rfl ?_
  have v15 : vp_in m 8 := uk_vin 8 rfl (by first | decide | lia | grind) (by first | decide | lia | grind)
  refine g_iald (kk_1 hkb) (kl_1 hkb) v15 dX0_moveTurned_30 ?_
  refine g_topi (fun x16 ex16 => ?_)
  refine g_aload_n dX0_moveTurned_31 rfl ?_
  refine f_X0_34 rfl (kk_0 hkb) dX0_moveTurned_32 ?_
  refine g_iload_n dX0_moveTurned_35 rfl ?_
  have v17 : vp_in m 8 := uk_vin 8 rfl (by first | decide | lia | grind) (by first | decide | lia | grind)
  refine g_iald (kk_7 hkb) (kl_7 hkb) v17 dX0_moveTurned_36 ?_
  refine g_topi (fun x18 ex18 => ?_)
  refine cl_X0_70 (As := [.int x16, .int x18]) rfl (x_X0_givesB (G := G) hs hu14  x16 x18  (d)) rfl (by omega) rfl (Nat.le_of_ble_eq_true rfl) dX0_moveTurned_37 (fun r19 u20 q21 => ?_)
  obtain ⟨q21, Eq21⟩ := q21
  obtain ⟨⟨x22, rfl, tx22, nx22, zx22⟩, mq21⟩ := q21
  rw [mq21]
  have ex22 : x22 = (e_X0_givesB u14 x16 x18) := ee_v Eq21
  refine g_if_eq (tgt := 58) dX0_moveTurned_40 (by decide) (fun c23 => ?_) (fun c23 => ?_)
  · have zc23 := zx22 c23
    exact g_vret dX0_moveTurned_58 rfl ⟨⟨rfl, hu14, fu14⟩, (by subst ex22; subst ex18; subst ex16; subst eu14; subst ex11; subst ex10; subst ex8; subst eu6; subst ex3; subst ex2; exact (if_pos c23).trans (rfl) : e_X0_moveTurned u kb m t = u14).symm⟩
  · have zc23 := nx22 c23
    refine g_aload_n dX0_moveTurned_43 rfl ?_
    refine f_X0_31 rfl (kk_0 hkb) dX0_moveTurned_44 ?_
    refine g_aload_n dX0_moveTurned_47 rfl ?_
    refine f_X0_22 rfl (kk_0 hkb) dX0_moveTurned_48 ?_
    refine g_iload_n dX0_moveTurned_51 rfl ?_
    have v24 : vp_in m 8 := uk_vin 8 rfl (by first | decide | lia | grind) (by first | decide | lia | grind)
    refine g_iald (kk_3 hkb) (kl_3 hkb) v24 dX0_moveTurned_52 ?_
    refine g_topi (fun x25 ex25 => ?_)
    have bx25 := uk_cl v24
    have rx25 : 0 ≤ x25 ∧ x25 ≤ 7 := by rw [ex25]; exact iv_at hu14 _ _ (ka_3 hkb _ (by omega))
    refine g_dup2 dX0_moveTurned_53 rfl rfl ?_
    have v26 : vp_in x25 8 := uk_vin 8 rfl (by first | decide | lia | grind) (by first | decide | lia | grind)
    refine g_iald (kk_6 hkb) (kl_6 hkb) v26 dX0_moveTurned_54 ?_
    refine g_topi (fun x27 ex27 => ?_)
    refine g_iload_n dX0_moveTurned_55 rfl ?_
    refine g_iadd dX0_moveTurned_56 ?_
    refine g_topi (fun x28 ex28 => ?_)
    have v29 : vp_in x25 8 := uk_vin 8 rfl (by first | decide | lia | grind) (by first | decide | lia | grind)
    have b30 := uk_cl v29
    refine g_iast (kk_6 hkb) (kl_6 hkb) v29 dX0_moveTurned_57 ?_
    refine g_mem (fun u31 eu31 => ?_)
    have hu31 : iv u31 := by rw [eu31]; exact iv_upF hu14 (ka_6 hkb _ (by omega))
    have fu31 : fr kb (kb + 9) u u31 := by rw [eu31]; exact fr_up fu14 (by omega) (by omega)
    exact g_vret dX0_moveTurned_58 rfl ⟨⟨rfl, hu31, fu31⟩, (by subst eu31; subst ex28; subst ex27; subst ex25; subst ex22; subst ex18; subst ex16; subst eu14; subst ex11; subst ex10; subst ex8; subst eu6; subst ex3; subst ex2; exact (if_neg c23).trans (rfl) : e_X0_moveTurned u kb m t = u31).symm⟩
def e_X0_perform (u : uk_Mem) (kb : Nat) (g : Int32) : uk_Mem := let x4 : Int32 := (e_X6_stuffOf u g); if g < (10 : Int32) then (let u7 : uk_Mem := e_X0_moveCooked u kb x4 (1 : Int32); let x9 : Int32 := u7.1 kb 11; let x11 : Int32 := x9 + (1 : Int32); let u12 : uk_Mem := uk_up u7 kb 11 x11; u12) else (let u15 : uk_Mem := e_X0_moveTurned u kb x4 (1 : Int32); let u18 : uk_Mem := e_X0_flipHalf u15 kb x4; let x20 : Int32 := u18.1 kb 11; let x22 : Int32 := x20 + (1 : Int32); let u23 : uk_Mem := uk_up u18 kb 11 x22; u23)
abbrev qe_X0_perform (u : uk_Mem) (kb : Nat) (g : Int32) (r : Option Value) (u' : uk_Mem) : Prop := (q_X0_perform u kb g r u') ∧ (u' = e_X0_perform u kb g)
set_option maxHeartbeats 4000000 in
set_option maxRecDepth 20000 in
theorem x_X0_perform {G : uk_D} (hs : uk_Sep G) {u : uk_Mem} (hu : iv u) {kb : Nat} (hkb : uk_isK kb) (g : Int32) (p0 : (0 ≤ g ∧ g ≤ 7) ∨ (10 ≤ g ∧ g ≤ 17)) (d : Nat) : uk_Meth G (d + 2) mX0_perform [.ref (uk_ad G kb), .int g] u (qe_X0_perform u kb g) := by
  refine uk_Meth.of hs (by decide) (Nat.le_of_ble_eq_true rfl) (fun X => ?_)
  have f0 : fr kb (kb + 9) u u := fr_rf
  refine g_iload_n dX0_perform_0 rfl ?_
  refine cl_X0_53 (As := [.int g]) rfl (x_X6_stuffOf (G := G) hs hu  g  (d + 1)) rfl (by omega) rfl (Nat.le_of_ble_eq_true rfl) dX0_perform_1 (fun r1 u2 q3 => ?_)
  obtain ⟨q3, Eq3⟩ := q3
  obtain ⟨⟨x4, rfl, tx4⟩, mq3⟩ := q3
  rw [mq3]
  have ex4 : x4 = (e_X6_stuffOf u g) := ee_v Eq3
  refine g_istore_n dX0_perform_4 (by decide) ?_
  refine g_pick (lv' := [(0, .ref (uk_ad G kb)), (1, .int g), (2, .int x4)]) [0, 1, 2] rfl ?_
  refine g_iload_n dX0_perform_5 rfl ?_
  refine g_bipush (v := 10) dX0_perform_6 (by decide) ?_
  refine g_icmp_lt (tgt := 25) dX0_perform_8 (by decide) (fun c5 => ?_) (fun c5 => ?_)
  · refine g_aload_n dX0_perform_25 rfl ?_
    refine g_iload_n dX0_perform_26 rfl ?_
    refine g_iconst (v := 1) dX0_perform_27 (by decide) ?_
    refine cl_X0_82 (c := kb) (As := [.int x4, .int 1]) rfl (x_X0_moveCooked (G := G) hs hu hkb x4 1 (by first | trivial | decide | lia | grind) (by first | trivial | decide | lia | grind) (d + 1)) rfl (by omega) (kk_0 hkb) rfl (Nat.le_of_ble_eq_true rfl) dX0_perform_28 (fun r6 u7 q8 => ?_)
    obtain ⟨q8, Eq8⟩ := q8
    obtain ⟨rfl, mq8⟩ := q8
    obtain ⟨hu7, gu7⟩ := mq8
    have fu7 : fr kb (kb + 9) u u7 := fr_tr f0 gu7 (by omega) (by omega)
    have eu7 : u7 = e_X0_moveCooked u kb x4 (1 : Int32) := Eq8
    refine g_aload_n dX0_perform_31 rfl ?_
    refine g_dup dX0_perform_32 rfl ?_
    refine f_X0_46 rfl (kk_0 hkb) dX0_perform_33 ?_
    refine g_topi (fun x9 ex9 => ?_)
    have s10 : u7.1 kb 11 = x9 := ex9.symm
    refine g_iconst (v := 1) dX0_perform_36 (by decide) ?_
    refine g_iadd dX0_perform_37 ?_
    refine g_topi (fun x11 ex11 => ?_)
    refine p_X0_46 rfl (kk_0 hkb) dX0_perform_38 ?_
    refine g_mem (fun u12 eu12 => ?_)
    have hu12 : iv u12 := by rw [eu12]; exact iv_upF hu7 (kr_11 hkb)
    have fu12 : fr kb (kb + 9) u u12 := by rw [eu12]; exact fr_up fu7 (by omega) (by omega)
    have s13 : u12.1 kb 11 = x11 := by rw [eu12, uk_up_at]; exact if_pos ⟨rfl, rfl⟩
    exact g_vret dX0_perform_41 rfl ⟨⟨rfl, hu12, fu12⟩, (by subst eu12; subst ex11; subst ex9; subst eu7; subst ex4; exact (if_pos c5).trans (rfl) : e_X0_perform u kb g = u12).symm⟩
  · refine g_aload_n dX0_perform_11 rfl ?_
    refine g_iload_n dX0_perform_12 rfl ?_
    refine g_iconst (v := 1) dX0_perform_13 (by decide) ?_
    refine cl_X0_74 (c := kb) (As := [.int x4, .int 1]) rfl (x_X0_moveTurned (G := G) hs hu hkb x4 1 (by first | trivial | decide | lia | grind) (by first | trivial | decide | lia | grind) (d)) rfl (by omega) (kk_0 hkb) rfl (Nat.le_of_ble_eq_true rfl) dX0_perform_14 (fun r14 u15 q16 => ?_)
    obtain ⟨q16, Eq16⟩ := q16
    obtain ⟨rfl, mq16⟩ := q16
    obtain ⟨hu15, gu15⟩ := mq16
    have fu15 : fr kb (kb + 9) u u15 := fr_tr f0 gu15 (by omega) (by omega)
    have eu15 : u15 = e_X0_moveTurned u kb x4 (1 : Int32) := Eq16
    refine g_aload_n dX0_perform_17 rfl ?_
    refine g_iload_n dX0_perform_18 rfl ?_
    refine cl_X0_78 (c := kb) (As := [.int x4]) rfl (x_X0_flipHalf (G := G) hs hu15 hkb x4 (by first | trivial | decide | lia | grind) (by first | trivial | decide | lia | grind) (d + 1)) rfl (by omega) (kk_0 hkb) rfl (Nat.le_of_ble_eq_true rfl) dX0_perform_19 (fun r17 u18 q19 => ?_)
    obtain ⟨q19, Eq19⟩ := q19
    obtain ⟨rfl, mq19⟩ := q19
    obtain ⟨hu18, gu18⟩ := mq19
    have fu18 : fr kb (kb + 9) u u18 := fr_tr fu15 gu18 (by omega) (by omega)
    have eu18 : u18 = e_X0_flipHalf u15 kb x4 := Eq19
    refine g_goto (tgt := 31) dX0_perform_22 (by decide) ?_
    refine g_aload_n dX0_perform_31 rfl ?_
    refine g_dup dX0_perform_32 rfl ?_
    refine f_X0_46 rfl (kk_0 hkb) dX0_perform_33 ?_
    refine g_topi (fun x20 ex20 => ?_)
    have s21 : u18.1 kb 11 = x20 := ex20.symm
    refine g_iconst (v := 1) dX0_perform_36 (by decide) ?_
    refine g_iadd dX0_perform_37 ?_
    refine g_topi (fun x22 ex22 => ?_)
    refine p_X0_46 rfl (kk_0 hkb) dX0_perform_38 ?_
    refine g_mem (fun u23 eu23 => ?_)
    have hu23 : iv u23 := by rw [eu23]; exact iv_upF hu18 (kr_11 hkb)
    have fu23 : fr kb (kb + 9) u u23 := by rw [eu23]; exact fr_up fu18 (by omega) (by omega)
    have s24 : u23.1 kb 11 = x22 := by rw [eu23, uk_up_at]; exact if_pos ⟨rfl, rfl⟩
    exact g_vret dX0_perform_41 rfl ⟨⟨rfl, hu23, fu23⟩, (by subst eu23; subst ex22; subst ex20; subst eu18; subst eu15; subst ex4; exact (if_neg c5).trans (rfl) : e_X0_perform u kb g = u23).symm⟩
def e_X0_undo (u : uk_Mem) (kb : Nat) (g : Int32) : uk_Mem := let x4 : Int32 := (e_X6_stuffOf u g); if g < (10 : Int32) then (let u7 : uk_Mem := e_X0_moveCooked u kb x4 (-1 : Int32); let x9 : Int32 := u7.1 kb 11; let x11 : Int32 := x9 - (1 : Int32); let u12 : uk_Mem := uk_up u7 kb 11 x11; u12) else (let u15 : uk_Mem := e_X0_flipHalf u kb x4; let u18 : uk_Mem := e_X0_moveTurned u15 kb x4 (-1 : Int32); let x20 : Int32 := u18.1 kb 11; let x22 : Int32 := x20 - (1 : Int32); let u23 : uk_Mem := uk_up u18 kb 11 x22; u23)
abbrev qe_X0_undo (u : uk_Mem) (kb : Nat) (g : Int32) (r : Option Value) (u' : uk_Mem) : Prop := (q_X0_undo u kb g r u') ∧ (u' = e_X0_undo u kb g)
set_option maxHeartbeats 4000000 in
set_option maxRecDepth 20000 in
theorem x_X0_undo {G : uk_D} (hs : uk_Sep G) {u : uk_Mem} (hu : iv u) {kb : Nat} (hkb : uk_isK kb) (g : Int32) (p0 : (0 ≤ g ∧ g ≤ 7) ∨ (10 ≤ g ∧ g ≤ 17)) (d : Nat) : uk_Meth G (d + 2) mX0_undo [.ref (uk_ad G kb), .int g] u (qe_X0_undo u kb g) := by
  refine uk_Meth.of hs (by decide) (Nat.le_of_ble_eq_true rfl) (fun X => ?_)
  have f0 : fr kb (kb + 9) u u := fr_rf
  refine g_iload_n dX0_undo_0 rfl ?_
  refine cl_X0_53 (As := [.int g]) rfl (x_X6_stuffOf (G := G) hs hu  g  (d + 1)) rfl (by omega) rfl (Nat.le_of_ble_eq_true rfl) dX0_undo_1 (fun r1 u2 q3 => ?_)
  obtain ⟨q3, Eq3⟩ := q3
  obtain ⟨⟨x4, rfl, tx4⟩, mq3⟩ := q3
  rw [mq3]
  have ex4 : x4 = (e_X6_stuffOf u g) := ee_v Eq3
  refine g_istore_n dX0_undo_4 (by decide) ?_
  refine g_pick (lv' := [(0, .ref (uk_ad G kb)), (1, .int g), (2, .int x4)]) [0, 1, 2] rfl ?_
  refine g_iload_n dX0_undo_5 rfl ?_
  refine g_bipush (v := 10) dX0_undo_6 (by decide) ?_
  refine g_icmp_lt (tgt := 25) dX0_undo_8 (by decide) (fun c5 => ?_) (fun c5 => ?_)
  · refine g_aload_n dX0_undo_25 rfl ?_
    refine g_iload_n dX0_undo_26 rfl ?_
    refine g_iconst (v := (-1)) dX0_undo_27 (by decide) ?_
    refine cl_X0_82 (c := kb) (As := [.int x4, .int (-1)]) rfl (x_X0_moveCooked (G := G) hs hu hkb x4 (-1) (by first | trivial | decide | lia | grind) (by first | trivial | decide | lia | grind) (d + 1)) rfl (by omega) (kk_0 hkb) rfl (Nat.le_of_ble_eq_true rfl) dX0_undo_28 (fun r6 u7 q8 => ?_)
    obtain ⟨q8, Eq8⟩ := q8
    obtain ⟨rfl, mq8⟩ := q8
    obtain ⟨hu7, gu7⟩ := mq8
    have fu7 : fr kb (kb + 9) u u7 := fr_tr f0 gu7 (by omega) (by omega)
    have eu7 : u7 = e_X0_moveCooked u kb x4 (-1 : Int32) := Eq8
    refine g_aload_n dX0_undo_31 rfl ?_
    refine g_dup dX0_undo_32 rfl ?_
    refine f_X0_46 rfl (kk_0 hkb) dX0_undo_33 ?_
    refine g_topi (fun x9 ex9 => ?_)
    have s10 : u7.1 kb 11 = x9 := ex9.symm
    refine g_iconst (v := 1) dX0_undo_36 (by decide) ?_
    refine g_isub dX0_undo_37 ?_
    refine g_topi (fun x11 ex11 => ?_)
    refine p_X0_46 rfl (kk_0 hkb) dX0_undo_38 ?_
    refine g_mem (fun u12 eu12 => ?_)
    have hu12 : iv u12 := by rw [eu12]; exact iv_upF hu7 (kr_11 hkb)
    have fu12 : fr kb (kb + 9) u u12 := by rw [eu12]; exact fr_up fu7 (by omega) (by omega)
    have s13 : u12.1 kb 11 = x11 := by rw [eu12, uk_up_at]; exact if_pos ⟨rfl, rfl⟩
    exact g_vret dX0_undo_41 rfl ⟨⟨rfl, hu12, fu12⟩, (by subst eu12; subst ex11; subst ex9; subst eu7; subst ex4; exact (if_pos c5).trans (rfl) : e_X0_undo u kb g = u12).symm⟩
  · refine g_aload_n dX0_undo_11 rfl ?_
    refine g_iload_n dX0_undo_12 rfl ?_
    refine cl_X0_78 (c := kb) (As := [.int x4]) rfl (x_X0_flipHalf (G := G) hs hu hkb x4 (by first | trivial | decide | lia | grind) (by first | trivial | decide | lia | grind) (d + 1)) rfl (by omega) (kk_0 hkb) rfl (Nat.le_of_ble_eq_true rfl) dX0_undo_13 (fun r14 u15 q16 => ?_)
    obtain ⟨q16, Eq16⟩ := q16
    obtain ⟨rfl, mq16⟩ := q16
    obtain ⟨hu15, gu15⟩ := mq16
    have fu15 : fr kb (kb + 9) u u15 := fr_tr f0 gu15 (by omega) (by omega)
    have eu15 : u15 = e_X0_flipHalf u kb x4 := Eq16
    refine g_aload_n dX0_undo_16 rfl ?_
    refine g_iload_n dX0_undo_17 rfl ?_
    refine g_iconst (v := (-1)) dX0_undo_18 (by decide) ?_
    refine cl_X0_74 (c := kb) (As := [.int x4, .int (-1)]) rfl (x_X0_moveTurned (G := G) hs hu15 hkb x4 (-1) (by first | trivial | decide | lia | grind) (by first | trivial | decide | lia | grind) (d)) rfl (by omega) (kk_0 hkb) rfl (Nat.le_of_ble_eq_true rfl) dX0_undo_19 (fun r17 u18 q19 => ?_)
    obtain ⟨q19, Eq19⟩ := q19
    obtain ⟨rfl, mq19⟩ := q19
    obtain ⟨hu18, gu18⟩ := mq19
    have fu18 : fr kb (kb + 9) u u18 := fr_tr fu15 gu18 (by omega) (by omega)
    have eu18 : u18 = e_X0_moveTurned u15 kb x4 (-1 : Int32) := Eq19
    refine g_goto (tgt := 31) dX0_undo_22 (by decide) ?_
    refine g_aload_n dX0_undo_31 rfl ?_
    refine g_dup dX0_undo_32 rfl ?_
    refine f_X0_46 rfl (kk_0 hkb) dX0_undo_33 ?_
    refine g_topi (fun x20 ex20 => ?_)
    have s21 : u18.1 kb 11 = x20 := ex20.symm
    refine g_iconst (v := 1) dX0_undo_36 (by decide) ?_
    refine g_isub dX0_undo_37 ?_
    refine g_topi (fun x22 ex22 => ?_)
    refine p_X0_46 rfl (kk_0 hkb) dX0_undo_38 ?_
    refine g_mem (fun u23 eu23 => ?_)
    have hu23 : iv u23 := by rw [eu23]; exact iv_upF hu18 (kr_11 hkb)
    have fu23 : fr kb (kb + 9) u u23 := by rw [eu23]; exact fr_up fu18 (by omega) (by omega)
    have s24 : u23.1 kb 11 = x22 := by rw [eu23, uk_up_at]; exact if_pos ⟨rfl, rfl⟩
    exact g_vret dX0_undo_41 rfl ⟨⟨rfl, hu23, fu23⟩, (by subst eu23; subst ex22; subst ex20; subst eu18; subst eu15; subst ex4; exact (if_neg c5).trans (rfl) : e_X0_undo u kb g = u23).symm⟩
def l_X0_clear_22 (kb : Nat) : Nat → Int32 → uk_Mem → uk_Mem
  | 0, _, u11 => u11
  | K9 + 1, i10, u11 => if (8 : Int32) ≤ i10 then (u11) else (let u15 : uk_Mem := uk_up u11 (kb + 6) i10.toNatClampNeg (0 : Int32); let u18 : uk_Mem := uk_up u15 (kb + 7) i10.toNatClampNeg (0 : Int32); l_X0_clear_22 kb K9 (i10 + 1) u18)
def e_X0_clear (u : uk_Mem) (kb : Nat) : uk_Mem := let u1 : uk_Mem := uk_up u kb 0 (0 : Int32); let u3 : uk_Mem := uk_up u1 kb 9 (0 : Int32); let u5 : uk_Mem := uk_up u3 kb 10 (0 : Int32); let u7 : uk_Mem := uk_up u5 kb 11 (0 : Int32); l_X0_clear_22 kb ee_K (0 : Int32) u7
abbrev qe_X0_clear (u : uk_Mem) (kb : Nat) (r : Option Value) (u' : uk_Mem) : Prop := (q_X0_clear u kb r u') ∧ (u' = e_X0_clear u kb)
set_option maxHeartbeats 4000000 in
set_option maxRecDepth 20000 in
theorem x_X0_clear {G : uk_D} (hs : uk_Sep G) {u : uk_Mem} (hu : iv u) {kb : Nat} (hkb : uk_isK kb) (d : Nat) : uk_Meth G d mX0_clear [.ref (uk_ad G kb)] u (qe_X0_clear u kb) := by
  refine uk_Meth.of hs (by decide) (Nat.le_of_ble_eq_true rfl) (fun X => ?_)
  have f0 : fr kb (kb + 9) u u := fr_rf
  refine g_aload_n dX0_clear_0 rfl ?_
  refine g_iconst (v := 0) dX0_clear_1 (by decide) ?_
  refine p_X0_9 rfl (kk_0 hkb) dX0_clear_2 ?_
  refine g_mem (fun u1 eu1 => ?_)
  have hu1 : iv u1 := by rw [eu1]; exact iv_up hu (kr_0 hkb) (by first | lia | grind) (by first | lia | grind)
  have fu1 : fr kb (kb + 9) u u1 := by rw [eu1]; exact fr_up f0 (by omega) (by omega)
  have s2 : u1.1 kb 0 = 0 := by rw [eu1, uk_up_at]; exact if_pos ⟨rfl, rfl⟩
  refine g_aload_n dX0_clear_5 rfl ?_
  refine g_iconst (v := 0) dX0_clear_6 (by decide) ?_
  refine p_X0_40 rfl (kk_0 hkb) dX0_clear_7 ?_
  refine g_mem (fun u3 eu3 => ?_)
  have hu3 : iv u3 := by rw [eu3]; exact iv_up hu1 (kr_9 hkb) (by first | lia | grind) (by first | lia | grind)
  have fu3 : fr kb (kb + 9) u u3 := by rw [eu3]; exact fr_up fu1 (by omega) (by omega)
  have s4 : u3.1 kb 9 = 0 := by rw [eu3, uk_up_at]; exact if_pos ⟨rfl, rfl⟩
  refine g_aload_n dX0_clear_10 rfl ?_
  refine g_iconst (v := 0) dX0_clear_11 (by decide) ?_
  refine p_X0_43 rfl (kk_0 hkb) dX0_clear_12 ?_
  refine g_mem (fun u5 eu5 => ?_)
  have hu5 : iv u5 := by rw [eu5]; exact iv_upF hu3 (kr_10 hkb)
  have fu5 : fr kb (kb + 9) u u5 := by rw [eu5]; exact fr_up fu3 (by omega) (by omega)
  have s6 : u5.1 kb 10 = 0 := by rw [eu5, uk_up_at]; exact if_pos ⟨rfl, rfl⟩
  refine g_aload_n dX0_clear_15 rfl ?_
  refine g_iconst (v := 0) dX0_clear_16 (by decide) ?_
  refine p_X0_46 rfl (kk_0 hkb) dX0_clear_17 ?_
  refine g_mem (fun u7 eu7 => ?_)
  have hu7 : iv u7 := by rw [eu7]; exact iv_upF hu5 (kr_11 hkb)
  have fu7 : fr kb (kb + 9) u u7 := by rw [eu7]; exact fr_up fu5 (by omega) (by omega)
  have s8 : u7.1 kb 11 = 0 := by rw [eu7, uk_up_at]; exact if_pos ⟨rfl, rfl⟩
  refine g_iconst (v := 0) dX0_clear_20 (by decide) ?_
  refine g_istore_n dX0_clear_21 (by decide) ?_
  refine g_pick (lv' := [(0, .ref (uk_ad G kb)), (1, .int 0)]) [0, 1] rfl ?_
  have L22_8 : ∀ i10 : Int32, 0 ≤ i10 → i10 ≤ 8 → ∀ (u11 : uk_Mem), iv u11 → fr kb (kb + 9) u u11 → u11.1 kb 0 = 0 → (∃ ki10 : Nat, ee_F 8 i10 ki10 ∧ e_X0_clear u kb = l_X0_clear_22 kb ki10 i10 u11) → uk_G G X mX0_clear d (qe_X0_clear u kb) 22 [(0, .ref (uk_ad G kb)), (1, .int i10)] [] u11 := by
    refine uk_upl 8 ?_
    intro i10 ai10 bi10 ihi10  u11 hu11 fu11 ji100 jEi10
    obtain ⟨ki10, fki10, hki10⟩ := jEi10
    obtain ⟨ki10, rfl⟩ := ee_Fp (by first | assumption | lia | grind) fki10
    refine g_iload_n dX0_clear_22 rfl ?_
    refine g_bipush (v := 8) dX0_clear_23 (by decide) ?_
    refine g_icmp_ge (tgt := 48) dX0_clear_25 (by decide) (fun c12 => ?_) (fun c12 => ?_)
    · exact g_vret dX0_clear_48 rfl ⟨⟨rfl, hu11, fu11, (by first | rfl | grind | grind [uk_up_at])⟩, (by exact hki10.trans ((if_pos c12).trans (rfl)) : e_X0_clear u kb = u11).symm⟩
    · refine g_aload_n dX0_clear_28 rfl ?_
      refine f_X0_31 rfl (kk_0 hkb) dX0_clear_29 ?_
      refine g_iload_n dX0_clear_32 rfl ?_
      refine g_iconst (v := 0) dX0_clear_33 (by decide) ?_
      have v13 : vp_in i10 8 := uk_vin 8 rfl (by first | decide | lia | grind) (by first | decide | lia | grind)
      have b14 := uk_cl v13
      refine g_iast (kk_6 hkb) (kl_6 hkb) v13 dX0_clear_34 ?_
      refine g_mem (fun u15 eu15 => ?_)
      have hu15 : iv u15 := by rw [eu15]; exact iv_upF hu11 (ka_6 hkb _ (by omega))
      have fu15 : fr kb (kb + 9) u u15 := by rw [eu15]; exact fr_up fu11 (by omega) (by omega)
      refine g_aload_n dX0_clear_35 rfl ?_
      refine f_X0_34 rfl (kk_0 hkb) dX0_clear_36 ?_
      refine g_iload_n dX0_clear_39 rfl ?_
      refine g_iconst (v := 0) dX0_clear_40 (by decide) ?_
      have v16 : vp_in i10 8 := uk_vin 8 rfl (by first | decide | lia | grind) (by first | decide | lia | grind)
      have b17 := uk_cl v16
      refine g_iast (kk_7 hkb) (kl_7 hkb) v16 dX0_clear_41 ?_
      refine g_mem (fun u18 eu18 => ?_)
      have hu18 : iv u18 := by rw [eu18]; exact iv_upF hu15 (ka_7 hkb _ (by omega))
      have fu18 : fr kb (kb + 9) u u18 := by rw [eu18]; exact fr_up fu15 (by omega) (by omega)
      refine g_iinc (v := i10 + 1) dX0_clear_42 rfl rfl (by decide) ?_
      refine g_pick (lv' := [(0, .ref (uk_ad G kb)), (1, .int (i10 + 1))]) [0, 1] rfl ?_
      refine g_goto (tgt := 22) dX0_clear_45 (by decide) ?_
      refine g_pick (lv' := [(0, .ref (uk_ad G kb)), (1, .int (i10 + 1))]) [0, 1] rfl ?_
      exact ihi10 (by first | lia | grind)  u18 hu18 fu18 (by first | trivial | lia | grind | grind [uk_up_at] | (simp [eu15, eu18, uk_up_at, ji100]; done) | (simp [eu15, eu18, uk_up_at]; grind)) ⟨ki10, ee_Fs fki10 (by first | assumption | lia | grind), by subst eu18; subst eu15; exact hki10.trans ((if_neg c12).trans (rfl))⟩
  refine g_pick (lv' := [(0, .ref (uk_ad G kb)), (1, .int 0)]) [0, 1] rfl ?_
  exact L22_8 0 (by first | decide | lia | grind) (by first | decide | lia | grind)  u7 hu7 fu7 (by first | trivial | lia | grind | grind [uk_up_at] | (simp [eu1, eu3, eu5, eu7, uk_up_at, s2, s4, s6, s8]; done) | (simp [eu1, eu3, eu5, eu7, uk_up_at]; grind)) ⟨ee_K, ee_F0 _ _, by subst eu7; subst eu5; subst eu3; subst eu1; exact rfl⟩
def l_X0_copyFrom_132 (kc : Nat) (kb : Nat) : Nat → Int32 → uk_Mem → uk_Mem
  | 0, _, u23 => u23
  | K9 + 1, i22, u23 => if (8 : Int32) ≤ i22 then (u23) else (let x26 : Int32 := u23.1 (kc + 8) i22.toNatClampNeg; let u29 : uk_Mem := uk_up u23 (kb + 8) i22.toNatClampNeg x26; l_X0_copyFrom_132 kc kb K9 (i22 + 1) u29)
def l_X0_copyFrom_34 (kc : Nat) (kb : Nat) : Nat → Int32 → uk_Mem → uk_Mem
  | 0, _, u19 => u19
  | K9 + 1, i18, u19 => if (8 : Int32) ≤ i18 then (l_X0_copyFrom_132 kc kb ee_K (0 : Int32) u19) else (let x31 : Int32 := u19.1 (kc + 1) i18.toNatClampNeg; let u34 : uk_Mem := uk_up u19 (kb + 1) i18.toNatClampNeg x31; let x36 : Int32 := u34.1 (kc + 2) i18.toNatClampNeg; let u39 : uk_Mem := uk_up u34 (kb + 2) i18.toNatClampNeg x36; let x41 : Int32 := u39.1 (kc + 3) i18.toNatClampNeg; let u44 : uk_Mem := uk_up u39 (kb + 3) i18.toNatClampNeg x41; let x46 : Int32 := u44.1 (kc + 4) i18.toNatClampNeg; let u49 : uk_Mem := uk_up u44 (kb + 4) i18.toNatClampNeg x46; let x51 : Int32 := u49.1 (kc + 5) i18.toNatClampNeg; let u54 : uk_Mem := uk_up u49 (kb + 5) i18.toNatClampNeg x51; let x56 : Int32 := u54.1 (kc + 6) i18.toNatClampNeg; let u59 : uk_Mem := uk_up u54 (kb + 6) i18.toNatClampNeg x56; let x61 : Int32 := u59.1 (kc + 7) i18.toNatClampNeg; let u64 : uk_Mem := uk_up u59 (kb + 7) i18.toNatClampNeg x61; l_X0_copyFrom_34 kc kb K9 (i18 + 1) u64)
def e_X0_copyFrom (u : uk_Mem) (kb : Nat) (kc : Nat) : uk_Mem := let x1 : Int32 := u.1 kc 0; let u3 : uk_Mem := uk_up u kb 0 x1; let x5 : Int32 := u3.1 kc 9; let u7 : uk_Mem := uk_up u3 kb 9 x5; let x9 : Int32 := u7.1 kc 10; let u11 : uk_Mem := uk_up u7 kb 10 x9; let x13 : Int32 := u11.1 kc 11; let u15 : uk_Mem := uk_up u11 kb 11 x13; l_X0_copyFrom_34 kc kb ee_K (0 : Int32) u15
abbrev qe_X0_copyFrom (u : uk_Mem) (kb : Nat) (kc : Nat) (r : Option Value) (u' : uk_Mem) : Prop := (q_X0_copyFrom u kb kc r u') ∧ (u' = e_X0_copyFrom u kb kc)
set_option maxHeartbeats 4000000 in
set_option maxRecDepth 20000 in
theorem x_X0_copyFrom {G : uk_D} (hs : uk_Sep G) {u : uk_Mem} (hu : iv u) {kb : Nat} (hkb : uk_isK kb) {kc : Nat} (hkc : uk_isK kc) (d : Nat) : uk_Meth G d mX0_copyFrom [.ref (uk_ad G kb), .ref (uk_ad G kc)] u (qe_X0_copyFrom u kb kc) := by
  refine uk_Meth.of hs (by decide) (Nat.le_of_ble_eq_true rfl) (fun X => ?_)
  have f0 : fr kb (kb + 9) u u := fr_rf
  refine g_aload_n dX0_copyFrom_0 rfl ?_
  refine g_aload_n dX0_copyFrom_1 rfl ?_
  refine f_X0_9 rfl (kk_0 hkc) dX0_copyFrom_2 ?_
  refine g_topi (fun x1 ex1 => ?_)
  have rx1 : 0 ≤ x1 ∧ x1 ≤ 8 := by rw [ex1]; exact iv_at hu _ _ (kr_0 hkc)
  have s2 : u.1 kc 0 = x1 := ex1.symm
  refine p_X0_9 rfl (kk_0 hkb) dX0_copyFrom_5 ?_
  refine g_mem (fun u3 eu3 => ?_)
  have hu3 : iv u3 := by rw [eu3]; exact iv_up hu (kr_0 hkb) (by first | lia | grind) (by first | lia | grind)
  have fu3 : fr kb (kb + 9) u u3 := by rw [eu3]; exact fr_up f0 (by omega) (by omega)
  have s4 : u3.1 kb 0 = x1 := by rw [eu3, uk_up_at]; exact if_pos ⟨rfl, rfl⟩
  refine g_aload_n dX0_copyFrom_8 rfl ?_
  refine g_aload_n dX0_copyFrom_9 rfl ?_
  refine f_X0_40 rfl (kk_0 hkc) dX0_copyFrom_10 ?_
  refine g_topi (fun x5 ex5 => ?_)
  have rx5 : 0 ≤ x5 ∧ x5 ≤ 8 := by rw [ex5]; exact iv_at hu3 _ _ (kr_9 hkc)
  have s6 : u3.1 kc 9 = x5 := ex5.symm
  refine p_X0_40 rfl (kk_0 hkb) dX0_copyFrom_13 ?_
  refine g_mem (fun u7 eu7 => ?_)
  have hu7 : iv u7 := by rw [eu7]; exact iv_up hu3 (kr_9 hkb) (by first | lia | grind) (by first | lia | grind)
  have fu7 : fr kb (kb + 9) u u7 := by rw [eu7]; exact fr_up fu3 (by omega) (by omega)
  have s8 : u7.1 kb 9 = x5 := by rw [eu7, uk_up_at]; exact if_pos ⟨rfl, rfl⟩
  refine g_aload_n dX0_copyFrom_16 rfl ?_
  refine g_aload_n dX0_copyFrom_17 rfl ?_
  refine f_X0_43 rfl (kk_0 hkc) dX0_copyFrom_18 ?_
  refine g_topi (fun x9 ex9 => ?_)
  have s10 : u7.1 kc 10 = x9 := ex9.symm
  refine p_X0_43 rfl (kk_0 hkb) dX0_copyFrom_21 ?_
  refine g_mem (fun u11 eu11 => ?_)
  have hu11 : iv u11 := by rw [eu11]; exact iv_upF hu7 (kr_10 hkb)
  have fu11 : fr kb (kb + 9) u u11 := by rw [eu11]; exact fr_up fu7 (by omega) (by omega)
  have s12 : u11.1 kb 10 = x9 := by rw [eu11, uk_up_at]; exact if_pos ⟨rfl, rfl⟩
  refine g_aload_n dX0_copyFrom_24 rfl ?_
  refine g_aload_n dX0_copyFrom_25 rfl ?_
  refine f_X0_46 rfl (kk_0 hkc) dX0_copyFrom_26 ?_
  refine g_topi (fun x13 ex13 => ?_)
  have s14 : u11.1 kc 11 = x13 := ex13.symm
  refine p_X0_46 rfl (kk_0 hkb) dX0_copyFrom_29 ?_
  refine g_mem (fun u15 eu15 => ?_)
  have hu15 : iv u15 := by rw [eu15]; exact iv_upF hu11 (kr_11 hkb)
  have fu15 : fr kb (kb + 9) u u15 := by rw [eu15]; exact fr_up fu11 (by omega) (by omega)
  have s16 : u15.1 kb 11 = x13 := by rw [eu15, uk_up_at]; exact if_pos ⟨rfl, rfl⟩
  refine g_iconst (v := 0) dX0_copyFrom_32 (by decide) ?_
  refine g_istore_n dX0_copyFrom_33 (by decide) ?_
  refine g_pick (lv' := [(0, .ref (uk_ad G kb)), (1, .ref (uk_ad G kc)), (2, .int 0)]) [0, 1, 2] rfl ?_
  have L34_16 : ∀ i18 : Int32, 0 ≤ i18 → i18 ≤ 8 → ∀ (u19 : uk_Mem), iv u19 → fr kb (kb + 9) u u19 → (∃ ki18 : Nat, ee_F 8 i18 ki18 ∧ e_X0_copyFrom u kb kc = l_X0_copyFrom_34 kc kb ki18 i18 u19) → uk_G G X mX0_copyFrom d (qe_X0_copyFrom u kb kc) 34 [(0, .ref (uk_ad G kb)), (1, .ref (uk_ad G kc)), (2, .int i18)] [] u19 := by
    refine uk_upl 8 ?_
    intro i18 ai18 bi18 ihi18  u19 hu19 fu19 jEi18
    obtain ⟨ki18, fki18, hki18⟩ := jEi18
    obtain ⟨ki18, rfl⟩ := ee_Fp (by first | assumption | lia | grind) fki18
    refine g_iload_n dX0_copyFrom_34 rfl ?_
    refine g_bipush (v := 8) dX0_copyFrom_35 (by decide) ?_
    refine g_icmp_ge (tgt := 130) dX0_copyFrom_37 (by decide) (fun c20 => ?_) (fun c20 => ?_)
    · refine g_iconst (v := 0) dX0_copyFrom_130 (by decide) ?_
      refine g_istore_n dX0_copyFrom_131 (by decide) ?_
      refine g_pick (lv' := [(0, .ref (uk_ad G kb)), (1, .ref (uk_ad G kc)), (2, .int 0)]) [0, 1, 2] rfl ?_
      have L132_20 : ∀ i22 : Int32, 0 ≤ i22 → i22 ≤ 8 → ∀ (u23 : uk_Mem), iv u23 → fr kb (kb + 9) u u23 → (∃ ki22 : Nat, ee_F 8 i22 ki22 ∧ e_X0_copyFrom u kb kc = l_X0_copyFrom_132 kc kb ki22 i22 u23) → uk_G G X mX0_copyFrom d (qe_X0_copyFrom u kb kc) 132 [(0, .ref (uk_ad G kb)), (1, .ref (uk_ad G kc)), (2, .int i22)] [] u23 := by
        refine uk_upl 8 ?_
        intro i22 ai22 bi22 ihi22  u23 hu23 fu23 jEi22
        obtain ⟨ki22, fki22, hki22⟩ := jEi22
        obtain ⟨ki22, rfl⟩ := ee_Fp (by first | assumption | lia | grind) fki22
        refine g_iload_n dX0_copyFrom_132 rfl ?_
        refine g_bipush (v := 8) dX0_copyFrom_133 (by decide) ?_
        refine g_icmp_ge (tgt := 156) dX0_copyFrom_135 (by decide) (fun c24 => ?_) (fun c24 => ?_)
        · exact g_vret dX0_copyFrom_156 rfl ⟨⟨rfl, hu23, fu23⟩, (by exact hki22.trans ((if_pos c24).trans (rfl)) : e_X0_copyFrom u kb kc = u23).symm⟩
        · refine g_aload_n dX0_copyFrom_138 rfl ?_
          refine f_X0_37 rfl (kk_0 hkb) dX0_copyFrom_139 ?_
          refine g_iload_n dX0_copyFrom_142 rfl ?_
          refine g_aload_n dX0_copyFrom_143 rfl ?_
          refine f_X0_37 rfl (kk_0 hkc) dX0_copyFrom_144 ?_
          refine g_iload_n dX0_copyFrom_147 rfl ?_
          have v25 : vp_in i22 8 := uk_vin 8 rfl (by first | decide | lia | grind) (by first | decide | lia | grind)
          refine g_iald (kk_8 hkc) (kl_8 hkc) v25 dX0_copyFrom_148 ?_
          refine g_topi (fun x26 ex26 => ?_)
          have bx26 := uk_cl v25
          have rx26 : 0 ≤ x26 ∧ x26 ≤ 7 := by rw [ex26]; exact iv_at hu23 _ _ (ka_8 hkc _ (by omega))
          have v27 : vp_in i22 8 := uk_vin 8 rfl (by first | decide | lia | grind) (by first | decide | lia | grind)
          have b28 := uk_cl v27
          refine g_iast (kk_8 hkb) (kl_8 hkb) v27 dX0_copyFrom_149 ?_
          refine g_mem (fun u29 eu29 => ?_)
          have hu29 : iv u29 := by rw [eu29]; exact iv_up hu23 (ka_8 hkb _ (by omega)) (by first | lia | grind) (by first | lia | grind)
          have fu29 : fr kb (kb + 9) u u29 := by rw [eu29]; exact fr_up fu23 (by omega) (by omega)
          refine g_iinc (v := i22 + 1) dX0_copyFrom_150 rfl rfl (by decide) ?_
          refine g_pick (lv' := [(0, .ref (uk_ad G kb)), (1, .ref (uk_ad G kc)), (2, .int (i22 + 1))]) [0, 1, 2] rfl ?_
          refine g_goto (tgt := 132) dX0_copyFrom_153 (by decide) ?_
          refine g_pick (lv' := [(0, .ref (uk_ad G kb)), (1, .ref (uk_ad G kc)), (2, .int (i22 + 1))]) [0, 1, 2] rfl ?_
          exact ihi22 (by first | lia | grind)  u29 hu29 fu29  ⟨ki22, ee_Fs fki22 (by first | assumption | lia | grind), by subst eu29; subst ex26; exact hki22.trans ((if_neg c24).trans (rfl))⟩
      refine g_pick (lv' := [(0, .ref (uk_ad G kb)), (1, .ref (uk_ad G kc)), (2, .int 0)]) [0, 1, 2] rfl ?_
      exact L132_20 0 (by first | decide | lia | grind) (by first | decide | lia | grind)  u19 hu19 fu19  ⟨ee_K, ee_F0 _ _, by exact hki18.trans ((if_pos c20).trans (rfl))⟩
    · refine g_aload_n dX0_copyFrom_40 rfl ?_
      refine f_X0_15 rfl (kk_0 hkb) dX0_copyFrom_41 ?_
      refine g_iload_n dX0_copyFrom_44 rfl ?_
      refine g_aload_n dX0_copyFrom_45 rfl ?_
      refine f_X0_15 rfl (kk_0 hkc) dX0_copyFrom_46 ?_
      refine g_iload_n dX0_copyFrom_49 rfl ?_
      have v30 : vp_in i18 8 := uk_vin 8 rfl (by first | decide | lia | grind) (by first | decide | lia | grind)
      refine g_iald (kk_1 hkc) (kl_1 hkc) v30 dX0_copyFrom_50 ?_
      refine g_topi (fun x31 ex31 => ?_)
      have v32 : vp_in i18 8 := uk_vin 8 rfl (by first | decide | lia | grind) (by first | decide | lia | grind)
      have b33 := uk_cl v32
      refine g_iast (kk_1 hkb) (kl_1 hkb) v32 dX0_copyFrom_51 ?_
      refine g_mem (fun u34 eu34 => ?_)
      have hu34 : iv u34 := by rw [eu34]; exact iv_upF hu19 (ka_1 hkb _ (by omega))
      have fu34 : fr kb (kb + 9) u u34 := by rw [eu34]; exact fr_up fu19 (by omega) (by omega)
      refine g_aload_n dX0_copyFrom_52 rfl ?_
      refine f_X0_19 rfl (kk_0 hkb) dX0_copyFrom_53 ?_
      refine g_iload_n dX0_copyFrom_56 rfl ?_
      refine g_aload_n dX0_copyFrom_57 rfl ?_
      refine f_X0_19 rfl (kk_0 hkc) dX0_copyFrom_58 ?_
      refine g_iload_n dX0_copyFrom_61 rfl ?_
      have v35 : vp_in i18 8 := uk_vin 8 rfl (by first | decide | lia | grind) (by first | decide | lia | grind)
      refine g_iald (kk_2 hkc) (kl_2 hkc) v35 dX0_copyFrom_62 ?_
      refine g_topi (fun x36 ex36 => ?_)
      have bx36 := uk_cl v35
      have rx36 : 0 ≤ x36 ∧ x36 ≤ 7 := by rw [ex36]; exact iv_at hu34 _ _ (ka_2 hkc _ (by omega))
      have v37 : vp_in i18 8 := uk_vin 8 rfl (by first | decide | lia | grind) (by first | decide | lia | grind)
      have b38 := uk_cl v37
      refine g_iast (kk_2 hkb) (kl_2 hkb) v37 dX0_copyFrom_63 ?_
      refine g_mem (fun u39 eu39 => ?_)
      have hu39 : iv u39 := by rw [eu39]; exact iv_up hu34 (ka_2 hkb _ (by omega)) (by first | lia | grind) (by first | lia | grind)
      have fu39 : fr kb (kb + 9) u u39 := by rw [eu39]; exact fr_up fu34 (by omega) (by omega)
      refine g_aload_n dX0_copyFrom_64 rfl ?_
      refine f_X0_22 rfl (kk_0 hkb) dX0_copyFrom_65 ?_
      refine g_iload_n dX0_copyFrom_68 rfl ?_
      refine g_aload_n dX0_copyFrom_69 rfl ?_
      refine f_X0_22 rfl (kk_0 hkc) dX0_copyFrom_70 ?_
      refine g_iload_n dX0_copyFrom_73 rfl ?_
      have v40 : vp_in i18 8 := uk_vin 8 rfl (by first | decide | lia | grind) (by first | decide | lia | grind)
      refine g_iald (kk_3 hkc) (kl_3 hkc) v40 dX0_copyFrom_74 ?_
      refine g_topi (fun x41 ex41 => ?_)
      have bx41 := uk_cl v40
      have rx41 : 0 ≤ x41 ∧ x41 ≤ 7 := by rw [ex41]; exact iv_at hu39 _ _ (ka_3 hkc _ (by omega))
      have v42 : vp_in i18 8 := uk_vin 8 rfl (by first | decide | lia | grind) (by first | decide | lia | grind)
      have b43 := uk_cl v42
      refine g_iast (kk_3 hkb) (kl_3 hkb) v42 dX0_copyFrom_75 ?_
      refine g_mem (fun u44 eu44 => ?_)
      have hu44 : iv u44 := by rw [eu44]; exact iv_up hu39 (ka_3 hkb _ (by omega)) (by first | lia | grind) (by first | lia | grind)
      have fu44 : fr kb (kb + 9) u u44 := by rw [eu44]; exact fr_up fu39 (by omega) (by omega)
      refine g_aload_n dX0_copyFrom_76 rfl ?_
      refine f_X0_25 rfl (kk_0 hkb) dX0_copyFrom_77 ?_
      refine g_iload_n dX0_copyFrom_80 rfl ?_
      refine g_aload_n dX0_copyFrom_81 rfl ?_
      refine f_X0_25 rfl (kk_0 hkc) dX0_copyFrom_82 ?_
      refine g_iload_n dX0_copyFrom_85 rfl ?_
      have v45 : vp_in i18 8 := uk_vin 8 rfl (by first | decide | lia | grind) (by first | decide | lia | grind)
      refine g_iald (kk_4 hkc) (kl_4 hkc) v45 dX0_copyFrom_86 ?_
      refine g_topi (fun x46 ex46 => ?_)
      have v47 : vp_in i18 8 := uk_vin 8 rfl (by first | decide | lia | grind) (by first | decide | lia | grind)
      have b48 := uk_cl v47
      refine g_iast (kk_4 hkb) (kl_4 hkb) v47 dX0_copyFrom_87 ?_
      refine g_mem (fun u49 eu49 => ?_)
      have hu49 : iv u49 := by rw [eu49]; exact iv_upF hu44 (ka_4 hkb _ (by omega))
      have fu49 : fr kb (kb + 9) u u49 := by rw [eu49]; exact fr_up fu44 (by omega) (by omega)
      refine g_aload_n dX0_copyFrom_88 rfl ?_
      refine f_X0_28 rfl (kk_0 hkb) dX0_copyFrom_89 ?_
      refine g_iload_n dX0_copyFrom_92 rfl ?_
      refine g_aload_n dX0_copyFrom_93 rfl ?_
      refine f_X0_28 rfl (kk_0 hkc) dX0_copyFrom_94 ?_
      refine g_iload_n dX0_copyFrom_97 rfl ?_
      have v50 : vp_in i18 8 := uk_vin 8 rfl (by first | decide | lia | grind) (by first | decide | lia | grind)
      refine g_iald (kk_5 hkc) (kl_5 hkc) v50 dX0_copyFrom_98 ?_
      refine g_topi (fun x51 ex51 => ?_)
      have v52 : vp_in i18 8 := uk_vin 8 rfl (by first | decide | lia | grind) (by first | decide | lia | grind)
      have b53 := uk_cl v52
      refine g_iast (kk_5 hkb) (kl_5 hkb) v52 dX0_copyFrom_99 ?_
      refine g_mem (fun u54 eu54 => ?_)
      have hu54 : iv u54 := by rw [eu54]; exact iv_upF hu49 (ka_5 hkb _ (by omega))
      have fu54 : fr kb (kb + 9) u u54 := by rw [eu54]; exact fr_up fu49 (by omega) (by omega)
      refine g_aload_n dX0_copyFrom_100 rfl ?_
      refine f_X0_31 rfl (kk_0 hkb) dX0_copyFrom_101 ?_
      refine g_iload_n dX0_copyFrom_104 rfl ?_
      refine g_aload_n dX0_copyFrom_105 rfl ?_
      refine f_X0_31 rfl (kk_0 hkc) dX0_copyFrom_106 ?_
      refine g_iload_n dX0_copyFrom_109 rfl ?_
      have v55 : vp_in i18 8 := uk_vin 8 rfl (by first | decide | lia | grind) (by first | decide | lia | grind)
      refine g_iald (kk_6 hkc) (kl_6 hkc) v55 dX0_copyFrom_110 ?_
      refine g_topi (fun x56 ex56 => ?_)
      have v57 : vp_in i18 8 := uk_vin 8 rfl (by first | decide | lia | grind) (by first | decide | lia | grind)
      have b58 := uk_cl v57
      refine g_iast (kk_6 hkb) (kl_6 hkb) v57 dX0_copyFrom_111 ?_
      refine g_mem (fun u59 eu59 => ?_)
      have hu59 : iv u59 := by rw [eu59]; exact iv_upF hu54 (ka_6 hkb _ (by omega))
      have fu59 : fr kb (kb + 9) u u59 := by rw [eu59]; exact fr_up fu54 (by omega) (by omega)
      refine g_aload_n dX0_copyFrom_112 rfl ?_
      refine f_X0_34 rfl (kk_0 hkb) dX0_copyFrom_113 ?_
      refine g_iload_n dX0_copyFrom_116 rfl ?_
      refine g_aload_n dX0_copyFrom_117 rfl ?_
      refine f_X0_34 rfl (kk_0 hkc) dX0_copyFrom_118 ?_
      refine g_iload_n dX0_copyFrom_121 rfl ?_
      have v60 : vp_in i18 8 := uk_vin 8 rfl (by first | decide | lia | grind) (by first | decide | lia | grind)
      refine g_iald (kk_7 hkc) (kl_7 hkc) v60 dX0_copyFrom_122 ?_
      refine g_topi (fun x61 ex61 => ?_)
      have v62 : vp_in i18 8 := uk_vin 8 rfl (by first | decide | lia | grind) (by first | decide | lia | grind)
      have b63 := uk_cl v62
      refine g_iast (kk_7 hkb) (kl_7 hkb) v62 dX0_copyFrom_123 ?_
      refine g_mem (fun u64 eu64 => ?_)
      have hu64 : iv u64 := by rw [eu64]; exact iv_upF hu59 (ka_7 hkb _ (by omega))
      have fu64 : fr kb (kb + 9) u u64 := by rw [eu64]; exact fr_up fu59 (by omega) (by omega)
      refine g_iinc (v := i18 + 1) dX0_copyFrom_124 rfl rfl (by decide) ?_
      refine g_pick (lv' := [(0, .ref (uk_ad G kb)), (1, .ref (uk_ad G kc)), (2, .int (i18 + 1))]) [0, 1, 2] rfl ?_
      refine g_goto (tgt := 34) dX0_copyFrom_127 (by decide) ?_
      refine g_pick (lv' := [(0, .ref (uk_ad G kb)), (1, .ref (uk_ad G kc)), (2, .int (i18 + 1))]) [0, 1, 2] rfl ?_
      exact ihi18 (by first | lia | grind)  u64 hu64 fu64  ⟨ki18, ee_Fs fki18 (by first | assumption | lia | grind), by subst eu64; subst ex61; subst eu59; subst ex56; subst eu54; subst ex51; subst eu49; subst ex46; subst eu44; subst ex41; subst eu39; subst ex36; subst eu34; subst ex31; exact hki18.trans ((if_neg c20).trans (rfl))⟩
  refine g_pick (lv' := [(0, .ref (uk_ad G kb)), (1, .ref (uk_ad G kc)), (2, .int 0)]) [0, 1, 2] rfl ?_
  exact L34_16 0 (by first | decide | lia | grind) (by first | decide | lia | grind)  u15 hu15 fu15  ⟨ee_K, ee_F0 _ _, by subst eu15; subst ex13; subst eu11; subst ex9; subst eu7; subst ex5; subst eu3; subst ex1; exact rfl⟩
def e_X0_addMade (u : uk_Mem) (kb : Nat) (k : Int32) (a : Int32) (b : Int32) (f : Int32) : uk_Mem := let x1 : Int32 := u.1 kb 0; let u5 : uk_Mem := uk_up u (kb + 1) x1.toNatClampNeg k; let x6 : Int32 := u5.1 kb 0; let u9 : uk_Mem := uk_up u5 (kb + 2) x6.toNatClampNeg a; let x10 : Int32 := u9.1 kb 0; let u13 : uk_Mem := uk_up u9 (kb + 3) x10.toNatClampNeg b; let x14 : Int32 := u13.1 kb 0; let u17 : uk_Mem := uk_up u13 (kb + 4) x14.toNatClampNeg f; let x18 : Int32 := u17.1 kb 0; let u21 : uk_Mem := uk_up u17 (kb + 5) x18.toNatClampNeg (0 : Int32); let x22 : Int32 := u21.1 kb 0; let x23 : Int32 := x22 + (1 : Int32); let u24 : uk_Mem := uk_up u21 kb 0 x23; u24
abbrev qe_X0_addMade (u : uk_Mem) (kb : Nat) (k : Int32) (a : Int32) (b : Int32) (f : Int32) (r : Option Value) (u' : uk_Mem) : Prop := (q_X0_addMade u kb k a b f r u') ∧ (u' = e_X0_addMade u kb k a b f)
set_option maxHeartbeats 4000000 in
set_option maxRecDepth 20000 in
theorem x_X0_addMade {G : uk_D} (hs : uk_Sep G) {u : uk_Mem} (hu : iv u) {kb : Nat} (hkb : uk_isK kb) (k : Int32) (a : Int32) (b : Int32) (f : Int32) (p0 : u.1 kb 0 ≤ 7) (p1 : 0 ≤ a) (p2 : a ≤ 7) (p3 : 0 ≤ b) (p4 : b ≤ 7) (d : Nat) : uk_Meth G d mX0_addMade [.ref (uk_ad G kb), .int k, .int a, .int b, .int f] u (qe_X0_addMade u kb k a b f) := by
  refine uk_Meth.of hs (by decide) (Nat.le_of_ble_eq_true rfl) (fun X => ?_)
  have f0 : fr kb (kb + 9) u u := fr_rf
  refine g_aload_n dX0_addMade_0 rfl ?_
  refine f_X0_15 rfl (kk_0 hkb) dX0_addMade_1 ?_
  refine g_aload_n dX0_addMade_4 rfl ?_
  refine f_X0_9 rfl (kk_0 hkb) dX0_addMade_5 ?_
  refine g_topi (fun x1 ex1 => ?_)
  have rx1 : 0 ≤ x1 ∧ x1 ≤ 8 := by rw [ex1]; exact iv_at hu _ _ (kr_0 hkb)
  have s2 : u.1 kb 0 = x1 := ex1.symm
  refine g_iload_n dX0_addMade_8 rfl ?_
  have v3 : vp_in x1 8 := uk_vin 8 rfl (by first | decide | lia | grind) (by first | decide | lia | grind)
  have b4 := uk_cl v3
  refine g_iast (kk_1 hkb) (kl_1 hkb) v3 dX0_addMade_9 ?_
  refine g_mem (fun u5 eu5 => ?_)
  have hu5 : iv u5 := by rw [eu5]; exact iv_upF hu (ka_1 hkb _ (by omega))
  have fu5 : fr kb (kb + 9) u u5 := by rw [eu5]; exact fr_up f0 (by omega) (by omega)
  refine g_aload_n dX0_addMade_10 rfl ?_
  refine f_X0_19 rfl (kk_0 hkb) dX0_addMade_11 ?_
  refine g_aload_n dX0_addMade_14 rfl ?_
  refine f_X0_9 rfl (kk_0 hkb) dX0_addMade_15 ?_
  refine g_topi (fun x6 ex6 => ?_)
  have rx6 : 0 ≤ x6 ∧ x6 ≤ 8 := by rw [ex6]; exact iv_at hu5 _ _ (kr_0 hkb)
  have qx6 : x6 = x1 := by rw [ex6]; simp [eu5, uk_up_at, s2]
  refine g_iload_n dX0_addMade_18 rfl ?_
  have v7 : vp_in x6 8 := uk_vin 8 rfl (by first | decide | lia | grind) (by first | decide | lia | grind)
  have b8 := uk_cl v7
  refine g_iast (kk_2 hkb) (kl_2 hkb) v7 dX0_addMade_19 ?_
  refine g_mem (fun u9 eu9 => ?_)
  have hu9 : iv u9 := by rw [eu9]; exact iv_up hu5 (ka_2 hkb _ (by omega)) (by first | lia | grind) (by first | lia | grind)
  have fu9 : fr kb (kb + 9) u u9 := by rw [eu9]; exact fr_up fu5 (by omega) (by omega)
  refine g_aload_n dX0_addMade_20 rfl ?_
  refine f_X0_22 rfl (kk_0 hkb) dX0_addMade_21 ?_
  refine g_aload_n dX0_addMade_24 rfl ?_
  refine f_X0_9 rfl (kk_0 hkb) dX0_addMade_25 ?_
  refine g_topi (fun x10 ex10 => ?_)
  have rx10 : 0 ≤ x10 ∧ x10 ≤ 8 := by rw [ex10]; exact iv_at hu9 _ _ (kr_0 hkb)
  have qx10 : x10 = x1 := by rw [ex10]; simp [eu9, eu5, uk_up_at, s2]
  refine g_iload_n dX0_addMade_28 rfl ?_
  have v11 : vp_in x10 8 := uk_vin 8 rfl (by first | decide | lia | grind) (by first | decide | lia | grind)
  have b12 := uk_cl v11
  refine g_iast (kk_3 hkb) (kl_3 hkb) v11 dX0_addMade_29 ?_
  refine g_mem (fun u13 eu13 => ?_)
  have hu13 : iv u13 := by rw [eu13]; exact iv_up hu9 (ka_3 hkb _ (by omega)) (by first | lia | grind) (by first | lia | grind)
  have fu13 : fr kb (kb + 9) u u13 := by rw [eu13]; exact fr_up fu9 (by omega) (by omega)
  refine g_aload_n dX0_addMade_30 rfl ?_
  refine f_X0_25 rfl (kk_0 hkb) dX0_addMade_31 ?_
  refine g_aload_n dX0_addMade_34 rfl ?_
  refine f_X0_9 rfl (kk_0 hkb) dX0_addMade_35 ?_
  refine g_topi (fun x14 ex14 => ?_)
  have rx14 : 0 ≤ x14 ∧ x14 ≤ 8 := by rw [ex14]; exact iv_at hu13 _ _ (kr_0 hkb)
  have qx14 : x14 = x1 := by rw [ex14]; simp [eu13, eu9, eu5, uk_up_at, s2]
  refine g_iload dX0_addMade_38 rfl ?_
  have v15 : vp_in x14 8 := uk_vin 8 rfl (by first | decide | lia | grind) (by first | decide | lia | grind)
  have b16 := uk_cl v15
  refine g_iast (kk_4 hkb) (kl_4 hkb) v15 dX0_addMade_40 ?_
  refine g_mem (fun u17 eu17 => ?_)
  have hu17 : iv u17 := by rw [eu17]; exact iv_upF hu13 (ka_4 hkb _ (by omega))
  have fu17 : fr kb (kb + 9) u u17 := by rw [eu17]; exact fr_up fu13 (by omega) (by omega)
  refine g_aload_n dX0_addMade_41 rfl ?_
  refine f_X0_28 rfl (kk_0 hkb) dX0_addMade_42 ?_
  refine g_aload_n dX0_addMade_45 rfl ?_
  refine f_X0_9 rfl (kk_0 hkb) dX0_addMade_46 ?_
  refine g_topi (fun x18 ex18 => ?_)
  have rx18 : 0 ≤ x18 ∧ x18 ≤ 8 := by rw [ex18]; exact iv_at hu17 _ _ (kr_0 hkb)
  have qx18 : x18 = x1 := by rw [ex18]; simp [eu17, eu13, eu9, eu5, uk_up_at, s2]
  refine g_iconst (v := 0) dX0_addMade_49 (by decide) ?_
  have v19 : vp_in x18 8 := uk_vin 8 rfl (by first | decide | lia | grind) (by first | decide | lia | grind)
  have b20 := uk_cl v19
  refine g_iast (kk_5 hkb) (kl_5 hkb) v19 dX0_addMade_50 ?_
  refine g_mem (fun u21 eu21 => ?_)
  have hu21 : iv u21 := by rw [eu21]; exact iv_upF hu17 (ka_5 hkb _ (by omega))
  have fu21 : fr kb (kb + 9) u u21 := by rw [eu21]; exact fr_up fu17 (by omega) (by omega)
  refine g_aload_n dX0_addMade_51 rfl ?_
  refine g_dup dX0_addMade_52 rfl ?_
  refine f_X0_9 rfl (kk_0 hkb) dX0_addMade_53 ?_
  refine g_topi (fun x22 ex22 => ?_)
  have rx22 : 0 ≤ x22 ∧ x22 ≤ 8 := by rw [ex22]; exact iv_at hu21 _ _ (kr_0 hkb)
  have qx22 : x22 = x1 := by rw [ex22]; simp [eu21, eu17, eu13, eu9, eu5, uk_up_at, s2]
  refine g_iconst (v := 1) dX0_addMade_56 (by decide) ?_
  refine g_iadd dX0_addMade_57 ?_
  refine g_topi (fun x23 ex23 => ?_)
  refine p_X0_9 rfl (kk_0 hkb) dX0_addMade_58 ?_
  refine g_mem (fun u24 eu24 => ?_)
  have hu24 : iv u24 := by rw [eu24]; exact iv_up hu21 (kr_0 hkb) (by first | lia | grind) (by first | lia | grind)
  have fu24 : fr kb (kb + 9) u u24 := by rw [eu24]; exact fr_up fu21 (by omega) (by omega)
  have s25 : u24.1 kb 0 = x23 := by rw [eu24, uk_up_at]; exact if_pos ⟨rfl, rfl⟩
  exact g_vret dX0_addMade_61 rfl ⟨⟨rfl, hu24, fu24, (by first | rfl | grind | grind [uk_up_at])⟩, (by subst eu24; subst ex23; subst ex22; subst eu21; subst ex18; subst eu17; subst ex14; subst eu13; subst ex10; subst eu9; subst ex6; subst eu5; subst ex1; exact rfl : e_X0_addMade u kb k a b f = u24).symm⟩
def e_X0_addRaw (u : uk_Mem) (kb : Nat) (q : Int32) (f : Int32) : uk_Mem := let u2 : uk_Mem := e_X0_addMade u kb (4 : Int32) (0 : Int32) (0 : Int32) f; let x4 : Int32 := u2.1 kb 0; let x6 : Int32 := x4 - (1 : Int32); let u9 : uk_Mem := uk_up u2 (kb + 5) x6.toNatClampNeg q; u9
abbrev qe_X0_addRaw (u : uk_Mem) (kb : Nat) (q : Int32) (f : Int32) (r : Option Value) (u' : uk_Mem) : Prop := (q_X0_addRaw u kb q f r u') ∧ (u' = e_X0_addRaw u kb q f)
set_option maxHeartbeats 4000000 in
set_option maxRecDepth 20000 in
theorem x_X0_addRaw {G : uk_D} (hs : uk_Sep G) {u : uk_Mem} (hu : iv u) {kb : Nat} (hkb : uk_isK kb) (q : Int32) (f : Int32) (p0 : u.1 kb 0 ≤ 7) (d : Nat) : uk_Meth G (d + 1) mX0_addRaw [.ref (uk_ad G kb), .int q, .int f] u (qe_X0_addRaw u kb q f) := by
  refine uk_Meth.of hs (by decide) (Nat.le_of_ble_eq_true rfl) (fun X => ?_)
  have f0 : fr kb (kb + 9) u u := fr_rf
  have z0 := iv_at hu _ _ (kr_0 hkb)
  refine g_aload_n dX0_addRaw_0 rfl ?_
  refine g_iconst (v := 4) dX0_addRaw_1 (by decide) ?_
  refine g_iconst (v := 0) dX0_addRaw_2 (by decide) ?_
  refine g_iconst (v := 0) dX0_addRaw_3 (by decide) ?_
  refine g_iload_n dX0_addRaw_4 rfl ?_
  refine cl_X0_49 (c := kb) (As := [.int 4, .int 0, .int 0, .int f]) rfl (x_X0_addMade (G := G) hs hu hkb 4 0 0 f (by first | trivial | decide | lia | grind) (by first | trivial | decide | lia | grind) (by first | trivial | decide | lia | grind) (by first | trivial | decide | lia | grind) (by first | trivial | decide | lia | grind) (d)) rfl (by omega) (kk_0 hkb) rfl (Nat.le_of_ble_eq_true rfl) dX0_addRaw_5 (fun r1 u2 q3 => ?_)
  obtain ⟨q3, Eq3⟩ := q3
  obtain ⟨rfl, mq3⟩ := q3
  obtain ⟨hu2, gu2, ku20⟩ := mq3
  have fu2 : fr kb (kb + 9) u u2 := fr_tr f0 gu2 (by omega) (by omega)
  have eu2 : u2 = e_X0_addMade u kb (4 : Int32) (0 : Int32) (0 : Int32) f := Eq3
  refine g_aload_n dX0_addRaw_8 rfl ?_
  refine f_X0_28 rfl (kk_0 hkb) dX0_addRaw_9 ?_
  refine g_aload_n dX0_addRaw_12 rfl ?_
  refine f_X0_9 rfl (kk_0 hkb) dX0_addRaw_13 ?_
  refine g_topi (fun x4 ex4 => ?_)
  have rx4 : 0 ≤ x4 ∧ x4 ≤ 8 := by rw [ex4]; exact iv_at hu2 _ _ (kr_0 hkb)
  have s5 : u2.1 kb 0 = x4 := ex4.symm
  refine g_iconst (v := 1) dX0_addRaw_16 (by decide) ?_
  refine g_isub dX0_addRaw_17 ?_
  refine g_topi (fun x6 ex6 => ?_)
  refine g_iload_n dX0_addRaw_18 rfl ?_
  have v7 : vp_in x6 8 := uk_vin 8 rfl (by first | decide | lia | grind) (by first | decide | lia | grind)
  have b8 := uk_cl v7
  refine g_iast (kk_5 hkb) (kl_5 hkb) v7 dX0_addRaw_19 ?_
  refine g_mem (fun u9 eu9 => ?_)
  have hu9 : iv u9 := by rw [eu9]; exact iv_upF hu2 (ka_5 hkb _ (by omega))
  have fu9 : fr kb (kb + 9) u u9 := by rw [eu9]; exact fr_up fu2 (by omega) (by omega)
  exact g_vret dX0_addRaw_20 rfl ⟨⟨rfl, hu9, fu9⟩, (by subst eu9; subst ex6; subst ex4; subst eu2; exact rfl : e_X0_addRaw u kb q f = u9).symm⟩
