abbrev q_X7_becomes (u : uk_Mem) (k : Int32) (v : Int32) (r : Option Value) (u' : uk_Mem) : Prop := (∃ x : Int32, r = some (.int x) ∧ True) ∧ (iv u' ∧ fk [61] [] u u' ∧ u' = uk_up u 61 k.toNatClampNeg v)
set_option maxHeartbeats 4000000 in
set_option maxRecDepth 20000 in
theorem c_X7_becomes {G : uk_D} (hs : uk_Sep G) {u : uk_Mem} (hu : iv u) (k : Int32) (v : Int32) (p0 : 0 ≤ k) (p1 : k ≤ 42) (p2 : (k ≤ 7 → 0 ≤ v ∧ v ≤ 40)) (p3 : (k = 42 → 0 ≤ v ∧ v ≤ 8)) (d : Nat) : uk_Meth G d mX7_becomes [.ref (uk_ad G 60), .int k, .int v] u (q_X7_becomes u k v) := by
  refine uk_Meth.of hs (by decide) (Nat.le_of_ble_eq_true rfl) (fun X => ?_)
  have f0 : fk [61] [] u u := fk_rf
  refine g_aload_n dX7_becomes_0 rfl ?_
  refine f_X7_7 rfl rfl dX7_becomes_1 ?_
  refine g_iload_n dX7_becomes_4 rfl ?_
  have v1 : vp_in k 153 := uk_vin 153 rfl (by first | decide | lia | grind) (by first | decide | lia | grind)
  refine g_iald rfl rfl v1 dX7_becomes_5 ?_
  refine g_topi (fun x2 ex2 => ?_)
  have bx2 := uk_cl v1
  refine g_istore_n dX7_becomes_6 (by decide) ?_
  refine g_aload_n dX7_becomes_7 rfl ?_
  refine f_X7_7 rfl rfl dX7_becomes_8 ?_
  refine g_iload_n dX7_becomes_11 rfl ?_
  refine g_iload_n dX7_becomes_12 rfl ?_
  have v3 : vp_in k 153 := uk_vin 153 rfl (by first | decide | lia | grind) (by first | decide | lia | grind)
  have b4 := uk_cl v3
  refine g_iast rfl rfl v3 dX7_becomes_13 ?_
  refine g_mem (fun u5 eu5 => ?_)
  have hu5 : iv u5 := by rw [eu5]; exact iv_st hu (by unfold uk_is51; decide) (by first | decide | lia | grind) (by first | decide | lia | grind) (fun q => by first | decide | lia | grind) (fun q => by first | decide | lia | grind) (fun q => by first | decide | lia | grind)
  have fu5 : fk [61] [] u u5 := by rw [eu5]; exact fk_up f0 (by decide) (fun q => absurd q (by decide))
  refine g_iload_n dX7_becomes_14 rfl ?_
  exact g_iret (ty := .int) dX7_becomes_15 rfl rfl ⟨⟨_, rfl, by first | trivial | lia | grind⟩, hu5, fu5, (by first | assumption | grind)⟩
abbrev q_X7_fill (u : uk_Mem) (m : Int32) (n : Int32) (r : Option Value) (u' : uk_Mem) : Prop := (∃ x : Int32, r = some (.int x) ∧ True) ∧ (iv u' ∧ fk [61] [] u u' ∧ ri u')
set_option maxHeartbeats 4000000 in
set_option maxRecDepth 20000 in
theorem c_X7_fill {G : uk_D} (hs : uk_Sep G) {u : uk_Mem} (hu : iv u) (hri : ri u) (m : Int32) (n : Int32) (d : Nat) : uk_Meth G (d + 2) mX7_fill [.ref (uk_ad G 60), .int m, .int n] u (q_X7_fill u m n) := by
  refine uk_Meth.of hs (by decide) (Nat.le_of_ble_eq_true rfl) (fun X => ?_)
  have f0 : fk [61] [] u u := fk_rf
  refine g_aload_n dX7_fill_0 rfl ?_
  refine g_iload_n dX7_fill_1 rfl ?_
  refine cl_X7_163 (c := 60) (As := [.int m]) rfl (c_X7_isStuff (G := G) hs hu  m  (d)) rfl (by omega) rfl rfl (Nat.le_of_ble_eq_true rfl) dX7_fill_2 (fun r1 u2 q3 => ?_)
  obtain ⟨⟨x4, rfl, tx4, nx4, zx4⟩, mq3⟩ := q3
  rw [mq3]
  refine g_if_eq (tgt := 31) dX7_fill_5 (by decide) (fun c5 => ?_) (fun c5 => ?_)
  · have zc5 := zx4 c5
    refine g_iconst (v := (-1)) dX7_fill_31 (by decide) ?_
    exact g_iret (ty := .int) dX7_fill_32 rfl rfl ⟨⟨_, rfl, by first | trivial | lia | grind⟩, hu, f0, hri⟩
  · have zc5 := nx4 c5
    refine g_iload_n dX7_fill_8 rfl ?_
    refine g_i2l dX7_fill_9 ?_
    refine g_lconst (v := 0) dX7_fill_10 (by decide) ?_
    refine g_ldc2 (v := 40) k_X7_173 dX7_fill_11 ?_
    refine cl_X7_84 (As := [.long n.toInt64, .long 0, .long 40]) rfl (c_X7_in (G := G) hs hu  n 0 40  (d + 1)) rfl (by omega) rfl (Nat.le_of_ble_eq_true rfl) dX7_fill_14 (fun r6 u7 q8 => ?_)
    obtain ⟨⟨x9, rfl, tx9, nx9, zx9⟩, mq8⟩ := q8
    rw [mq8]
    refine g_if_eq (tgt := 31) dX7_fill_17 (by decide) (fun c10 => ?_) (fun c10 => ?_)
    · have zc10 := zx9 c10
      refine g_iconst (v := (-1)) dX7_fill_31 (by decide) ?_
      exact g_iret (ty := .int) dX7_fill_32 rfl rfl ⟨⟨_, rfl, by first | trivial | lia | grind⟩, hu, f0, hri⟩
    · have zc10 := nx9 c10
      refine g_aload_n dX7_fill_20 rfl ?_
      refine g_iconst (v := 0) dX7_fill_21 (by decide) ?_
      refine g_iload_n dX7_fill_22 rfl ?_
      refine g_iadd dX7_fill_23 ?_
      refine g_topi (fun x11 ex11 => ?_)
      have ox11 : x11 = m := by rw [ex11, Int32.zero_add]
      refine g_iload_n dX7_fill_24 rfl ?_
      refine cl_X7_175 (c := 60) (As := [.int x11, .int n]) rfl (c_X7_becomes (G := G) hs hu  x11 n (by first | trivial | decide | lia | grind) (by first | trivial | decide | lia | grind) (by first | trivial | decide | lia | grind) (by first | trivial | decide | lia | grind) (d + 1)) rfl (by omega) rfl rfl (Nat.le_of_ble_eq_true rfl) dX7_fill_25 (fun r12 u13 q14 => ?_)
      obtain ⟨⟨x15, rfl, tx15⟩, mq14⟩ := q14
      obtain ⟨hu13, gu13, xu13⟩ := mq14
      have fu13 : fk [61] [] u u13 := fk_tr f0 gu13 (by decide) (by decide)
      have riu13 : ri u13 := by rw [xu13]; exact ri_st hri (by first | lia | grind) (by first | lia | grind)
      have wu13_60_3 : u13.1 60 3 = u.1 60 3 := fk_at gu13 (by decide)
      refine g_goto (tgt := 32) dX7_fill_28 (by decide) ?_
      exact g_iret (ty := .int) dX7_fill_32 rfl rfl ⟨⟨_, rfl, by first | trivial | lia | grind⟩, hu13, fu13, riu13⟩
abbrev q_X7_feeds (u : uk_Mem) (m : Int32) (v : Int32) (r : Option Value) (u' : uk_Mem) : Prop := (∃ x : Int32, r = some (.int x) ∧ True) ∧ (iv u' ∧ fk [61] [] u u' ∧ ri u')
set_option maxHeartbeats 4000000 in
set_option maxRecDepth 20000 in
theorem c_X7_feeds {G : uk_D} (hs : uk_Sep G) {u : uk_Mem} (hu : iv u) (hri : ri u) (m : Int32) (v : Int32) (d : Nat) : uk_Meth G (d + 2) mX7_feeds [.ref (uk_ad G 60), .int m, .int v] u (q_X7_feeds u m v) := by
  refine uk_Meth.of hs (by decide) (Nat.le_of_ble_eq_true rfl) (fun X => ?_)
  have f0 : fk [61] [] u u := fk_rf
  refine g_aload_n dX7_feeds_0 rfl ?_
  refine g_iload_n dX7_feeds_1 rfl ?_
  refine cl_X7_163 (c := 60) (As := [.int m]) rfl (c_X7_isStuff (G := G) hs hu  m  (d)) rfl (by omega) rfl rfl (Nat.le_of_ble_eq_true rfl) dX7_feeds_2 (fun r1 u2 q3 => ?_)
  obtain ⟨⟨x4, rfl, tx4, nx4, zx4⟩, mq3⟩ := q3
  rw [mq3]
  refine g_if_eq (tgt := 32) dX7_feeds_5 (by decide) (fun c5 => ?_) (fun c5 => ?_)
  · have zc5 := zx4 c5
    refine g_iconst (v := (-1)) dX7_feeds_32 (by decide) ?_
    exact g_iret (ty := .int) dX7_feeds_33 rfl rfl ⟨⟨_, rfl, by first | trivial | lia | grind⟩, hu, f0, hri⟩
  · have zc5 := nx4 c5
    refine g_iload_n dX7_feeds_8 rfl ?_
    refine g_i2l dX7_feeds_9 ?_
    refine g_lconst (v := 0) dX7_feeds_10 (by decide) ?_
    refine g_ldc2 (v := 9) k_X7_178 dX7_feeds_11 ?_
    refine cl_X7_84 (As := [.long v.toInt64, .long 0, .long 9]) rfl (c_X7_in (G := G) hs hu  v 0 9  (d + 1)) rfl (by omega) rfl (Nat.le_of_ble_eq_true rfl) dX7_feeds_14 (fun r6 u7 q8 => ?_)
    obtain ⟨⟨x9, rfl, tx9, nx9, zx9⟩, mq8⟩ := q8
    rw [mq8]
    refine g_if_eq (tgt := 32) dX7_feeds_17 (by decide) (fun c10 => ?_) (fun c10 => ?_)
    · have zc10 := zx9 c10
      refine g_iconst (v := (-1)) dX7_feeds_32 (by decide) ?_
      exact g_iret (ty := .int) dX7_feeds_33 rfl rfl ⟨⟨_, rfl, by first | trivial | lia | grind⟩, hu, f0, hri⟩
    · have zc10 := nx9 c10
      refine g_aload_n dX7_feeds_20 rfl ?_
      refine g_bipush (v := 16) dX7_feeds_21 (by decide) ?_
      refine g_iload_n dX7_feeds_23 rfl ?_
      refine g_iadd dX7_feeds_24 ?_
      refine g_topi (fun x11 ex11 => ?_)
      refine g_iload_n dX7_feeds_25 rfl ?_
      refine cl_X7_175 (c := 60) (As := [.int x11, .int v]) rfl (c_X7_becomes (G := G) hs hu  x11 v (by first | trivial | decide | lia | grind) (by first | trivial | decide | lia | grind) (by first | trivial | decide | lia | grind) (by first | trivial | decide | lia | grind) (d + 1)) rfl (by omega) rfl rfl (Nat.le_of_ble_eq_true rfl) dX7_feeds_26 (fun r12 u13 q14 => ?_)
      obtain ⟨⟨x15, rfl, tx15⟩, mq14⟩ := q14
      obtain ⟨hu13, gu13, xu13⟩ := mq14
      have fu13 : fk [61] [] u u13 := fk_tr f0 gu13 (by decide) (by decide)
      have riu13 : ri u13 := by rw [xu13]; exact ri_st hri (by first | lia | grind) (by first | lia | grind)
      have wu13_60_3 : u13.1 60 3 = u.1 60 3 := fk_at gu13 (by decide)
      refine g_goto (tgt := 33) dX7_feeds_29 (by decide) ?_
      exact g_iret (ty := .int) dX7_feeds_33 rfl rfl ⟨⟨_, rfl, by first | trivial | lia | grind⟩, hu13, fu13, riu13⟩
abbrev q_X7_price (u : uk_Mem) (m : Int32) (v : Int32) (r : Option Value) (u' : uk_Mem) : Prop := (∃ x : Int32, r = some (.int x) ∧ True) ∧ (iv u' ∧ fk [61] [] u u' ∧ ri u')
set_option maxHeartbeats 4000000 in
set_option maxRecDepth 20000 in
theorem c_X7_price {G : uk_D} (hs : uk_Sep G) {u : uk_Mem} (hu : iv u) (hri : ri u) (m : Int32) (v : Int32) (d : Nat) : uk_Meth G (d + 2) mX7_price [.ref (uk_ad G 60), .int m, .int v] u (q_X7_price u m v) := by
  refine uk_Meth.of hs (by decide) (Nat.le_of_ble_eq_true rfl) (fun X => ?_)
  have f0 : fk [61] [] u u := fk_rf
  refine g_aload_n dX7_price_0 rfl ?_
  refine g_iload_n dX7_price_1 rfl ?_
  refine cl_X7_163 (c := 60) (As := [.int m]) rfl (c_X7_isStuff (G := G) hs hu  m  (d)) rfl (by omega) rfl rfl (Nat.le_of_ble_eq_true rfl) dX7_price_2 (fun r1 u2 q3 => ?_)
  obtain ⟨⟨x4, rfl, tx4, nx4, zx4⟩, mq3⟩ := q3
  rw [mq3]
  refine g_if_eq (tgt := 20) dX7_price_5 (by decide) (fun c5 => ?_) (fun c5 => ?_)
  · have zc5 := zx4 c5
    refine g_iconst (v := (-1)) dX7_price_20 (by decide) ?_
    exact g_iret (ty := .int) dX7_price_21 rfl rfl ⟨⟨_, rfl, by first | trivial | lia | grind⟩, hu, f0, hri⟩
  · have zc5 := nx4 c5
    refine g_iload_n dX7_price_8 rfl ?_
    refine g_i2l dX7_price_9 ?_
    refine g_lconst (v := 0) dX7_price_10 (by decide) ?_
    refine g_ldc2 (v := 9) k_X7_178 dX7_price_11 ?_
    refine cl_X7_84 (As := [.long v.toInt64, .long 0, .long 9]) rfl (c_X7_in (G := G) hs hu  v 0 9  (d + 1)) rfl (by omega) rfl (Nat.le_of_ble_eq_true rfl) dX7_price_14 (fun r6 u7 q8 => ?_)
    obtain ⟨⟨x9, rfl, tx9, nx9, zx9⟩, mq8⟩ := q8
    rw [mq8]
    refine g_if_ne (tgt := 22) dX7_price_17 (by decide) (fun c10 => ?_) (fun c10 => ?_)
    · have zc10 := nx9 c10
      refine g_aload_n dX7_price_22 rfl ?_
      refine g_iload_n dX7_price_23 rfl ?_
      refine cl_X7_166 (c := 60) (As := [.int m]) rfl (c_X7_isRaw (G := G) hs hu  m (by first | trivial | decide | lia | grind) (by first | trivial | decide | lia | grind) (d + 1)) rfl (by omega) rfl rfl (Nat.le_of_ble_eq_true rfl) dX7_price_24 (fun r11 u12 q13 => ?_)
      obtain ⟨⟨x14, rfl, tx14, nx14, zx14⟩, mq13⟩ := q13
      rw [mq13]
      refine g_if_eq (tgt := 42) dX7_price_27 (by decide) (fun c15 => ?_) (fun c15 => ?_)
      · have zc15 := zx14 c15
        refine g_bipush (v := (-2)) dX7_price_42 (by decide) ?_
        exact g_iret (ty := .int) dX7_price_44 rfl rfl ⟨⟨_, rfl, by first | trivial | lia | grind⟩, hu, f0, hri⟩
      · have zc15 := nx14 c15
        refine g_aload_n dX7_price_30 rfl ?_
        refine g_bipush (v := 24) dX7_price_31 (by decide) ?_
        refine g_iload_n dX7_price_33 rfl ?_
        refine g_iadd dX7_price_34 ?_
        refine g_topi (fun x16 ex16 => ?_)
        refine g_iload_n dX7_price_35 rfl ?_
        refine cl_X7_175 (c := 60) (As := [.int x16, .int v]) rfl (c_X7_becomes (G := G) hs hu  x16 v (by first | trivial | decide | lia | grind) (by first | trivial | decide | lia | grind) (by first | trivial | decide | lia | grind) (by first | trivial | decide | lia | grind) (d + 1)) rfl (by omega) rfl rfl (Nat.le_of_ble_eq_true rfl) dX7_price_36 (fun r17 u18 q19 => ?_)
        obtain ⟨⟨x20, rfl, tx20⟩, mq19⟩ := q19
        obtain ⟨hu18, gu18, xu18⟩ := mq19
        have fu18 : fk [61] [] u u18 := fk_tr f0 gu18 (by decide) (by decide)
        have riu18 : ri u18 := by rw [xu18]; exact ri_st hri (by first | lia | grind) (by first | lia | grind)
        have wu18_60_3 : u18.1 60 3 = u.1 60 3 := fk_at gu18 (by decide)
        refine g_goto (tgt := 44) dX7_price_39 (by decide) ?_
        exact g_iret (ty := .int) dX7_price_44 rfl rfl ⟨⟨_, rfl, by first | trivial | lia | grind⟩, hu18, fu18, riu18⟩
    · have zc10 := zx9 c10
      refine g_iconst (v := (-1)) dX7_price_20 (by decide) ?_
      exact g_iret (ty := .int) dX7_price_21 rfl rfl ⟨⟨_, rfl, by first | trivial | lia | grind⟩, hu, f0, hri⟩
abbrev q_X7_kind (u : uk_Mem) (m : Int32) (k : Int32) (r : Option Value) (u' : uk_Mem) : Prop := (∃ x : Int32, r = some (.int x) ∧ True) ∧ (iv u' ∧ fk [61] [] u u' ∧ ri u')
set_option maxHeartbeats 4000000 in
set_option maxRecDepth 20000 in
theorem c_X7_kind {G : uk_D} (hs : uk_Sep G) {u : uk_Mem} (hu : iv u) (hri : ri u) (m : Int32) (k : Int32) (d : Nat) : uk_Meth G (d + 2) mX7_kind [.ref (uk_ad G 60), .int m, .int k] u (q_X7_kind u m k) := by
  refine uk_Meth.of hs (by decide) (Nat.le_of_ble_eq_true rfl) (fun X => ?_)
  have f0 : fk [61] [] u u := fk_rf
  refine g_aload_n dX7_kind_0 rfl ?_
  refine g_iload_n dX7_kind_1 rfl ?_
  refine cl_X7_163 (c := 60) (As := [.int m]) rfl (c_X7_isStuff (G := G) hs hu  m  (d)) rfl (by omega) rfl rfl (Nat.le_of_ble_eq_true rfl) dX7_kind_2 (fun r1 u2 q3 => ?_)
  obtain ⟨⟨x4, rfl, tx4, nx4, zx4⟩, mq3⟩ := q3
  rw [mq3]
  refine g_if_eq (tgt := 20) dX7_kind_5 (by decide) (fun c5 => ?_) (fun c5 => ?_)
  · have zc5 := zx4 c5
    refine g_iconst (v := (-1)) dX7_kind_20 (by decide) ?_
    exact g_iret (ty := .int) dX7_kind_21 rfl rfl ⟨⟨_, rfl, by first | trivial | lia | grind⟩, hu, f0, hri⟩
  · have zc5 := nx4 c5
    refine g_iload_n dX7_kind_8 rfl ?_
    refine g_i2l dX7_kind_9 ?_
    refine g_lconst (v := 0) dX7_kind_10 (by decide) ?_
    refine g_ldc2 (v := 3) k_X7_180 dX7_kind_11 ?_
    refine cl_X7_84 (As := [.long k.toInt64, .long 0, .long 3]) rfl (c_X7_in (G := G) hs hu  k 0 3  (d + 1)) rfl (by omega) rfl (Nat.le_of_ble_eq_true rfl) dX7_kind_14 (fun r6 u7 q8 => ?_)
    obtain ⟨⟨x9, rfl, tx9, nx9, zx9⟩, mq8⟩ := q8
    rw [mq8]
    refine g_if_ne (tgt := 22) dX7_kind_17 (by decide) (fun c10 => ?_) (fun c10 => ?_)
    · have zc10 := nx9 c10
      refine g_aload_n dX7_kind_22 rfl ?_
      refine g_iload_n dX7_kind_23 rfl ?_
      refine cl_X7_166 (c := 60) (As := [.int m]) rfl (c_X7_isRaw (G := G) hs hu  m (by first | trivial | decide | lia | grind) (by first | trivial | decide | lia | grind) (d + 1)) rfl (by omega) rfl rfl (Nat.le_of_ble_eq_true rfl) dX7_kind_24 (fun r11 u12 q13 => ?_)
      obtain ⟨⟨x14, rfl, tx14, nx14, zx14⟩, mq13⟩ := q13
      rw [mq13]
      refine g_if_eq (tgt := 35) dX7_kind_27 (by decide) (fun c15 => ?_) (fun c15 => ?_)
      · have zc15 := zx14 c15
        refine g_aload_n dX7_kind_35 rfl ?_
        refine g_bipush (v := 32) dX7_kind_36 (by decide) ?_
        refine g_iload_n dX7_kind_38 rfl ?_
        refine g_iadd dX7_kind_39 ?_
        refine g_topi (fun x16 ex16 => ?_)
        refine g_iload_n dX7_kind_40 rfl ?_
        refine cl_X7_175 (c := 60) (As := [.int x16, .int k]) rfl (c_X7_becomes (G := G) hs hu  x16 k (by first | trivial | decide | lia | grind) (by first | trivial | decide | lia | grind) (by first | trivial | decide | lia | grind) (by first | trivial | decide | lia | grind) (d + 1)) rfl (by omega) rfl rfl (Nat.le_of_ble_eq_true rfl) dX7_kind_41 (fun r17 u18 q19 => ?_)
        obtain ⟨⟨x20, rfl, tx20⟩, mq19⟩ := q19
        obtain ⟨hu18, gu18, xu18⟩ := mq19
        have fu18 : fk [61] [] u u18 := fk_tr f0 gu18 (by decide) (by decide)
        have riu18 : ri u18 := by rw [xu18]; exact ri_kind hri (m := m) (by grind) (by grind) (by grind) (by grind) (by assumption)
        have wu18_60_3 : u18.1 60 3 = u.1 60 3 := fk_at gu18 (by decide)
        exact g_iret (ty := .int) dX7_kind_44 rfl rfl ⟨⟨_, rfl, by first | trivial | lia | grind⟩, hu18, fu18, riu18⟩
      · have zc15 := nx14 c15
        refine g_bipush (v := (-2)) dX7_kind_30 (by decide) ?_
        refine g_goto (tgt := 44) dX7_kind_32 (by decide) ?_
        exact g_iret (ty := .int) dX7_kind_44 rfl rfl ⟨⟨_, rfl, by first | trivial | lia | grind⟩, hu, f0, hri⟩
    · have zc10 := zx9 c10
      refine g_iconst (v := (-1)) dX7_kind_20 (by decide) ?_
      exact g_iret (ty := .int) dX7_kind_21 rfl rfl ⟨⟨_, rfl, by first | trivial | lia | grind⟩, hu, f0, hri⟩
