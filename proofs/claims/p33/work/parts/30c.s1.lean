abbrev q_X6_isSheet_s (u : uk_Mem) (k : Int32) (r : Option Value) (u' : uk_Mem) : Prop := (∃ x : Int32, r = some (.int x) ∧ (x = 0 ∨ x = 1) ∧ (¬ x = 0 → 0 ≤ k ∧ k ≤ 3) ∧ (x = 0 → k < 0 ∨ 3 < k)) ∧ (u' = u)
set_option maxHeartbeats 4000000 in
set_option maxRecDepth 20000 in
theorem c_X6_isSheet_s {G : uk_D} (hs : uk_Sep G) {u : uk_Mem} (hu : iv u) (k : Int32) (d : Nat) : uk_Meth G d mX6_isSheet [.int k] u (q_X6_isSheet_s u k) := by
  refine uk_Meth.of hs (by decide) (Nat.le_of_ble_eq_true rfl) (fun X => ?_)
  refine g_iload_n dX6_isSheet_0 rfl ?_
  refine g_if_lt (tgt := 13) dX6_isSheet_1 (by decide) (fun c1 => ?_) (fun c1 => ?_)
  · refine g_iconst (v := 0) dX6_isSheet_13 (by decide) ?_
    exact g_iret (ty := .boolean) dX6_isSheet_14 rfl rfl ⟨⟨0, rfl, Or.inl rfl, fun q => absurd rfl q, fun _ => by first | trivial | lia | grind⟩, rfl⟩
  · refine g_iload_n dX6_isSheet_4 rfl ?_
    refine g_iconst (v := 4) dX6_isSheet_5 (by decide) ?_
    refine g_icmp_ge (tgt := 13) dX6_isSheet_6 (by decide) (fun c2 => ?_) (fun c2 => ?_)
    · refine g_iconst (v := 0) dX6_isSheet_13 (by decide) ?_
      exact g_iret (ty := .boolean) dX6_isSheet_14 rfl rfl ⟨⟨0, rfl, Or.inl rfl, fun q => absurd rfl q, fun _ => by first | trivial | lia | grind⟩, rfl⟩
    · refine g_iconst (v := 1) dX6_isSheet_9 (by decide) ?_
      refine g_goto (tgt := 14) dX6_isSheet_10 (by decide) ?_
      exact g_iret (ty := .boolean) dX6_isSheet_14 rfl rfl ⟨⟨1, rfl, Or.inr rfl, fun _ => by first | trivial | lia | grind, fun q => absurd q (by decide)⟩, rfl⟩
abbrev q_X6_isLane_s (u : uk_Mem) (l : Int32) (r : Option Value) (u' : uk_Mem) : Prop := (∃ x : Int32, r = some (.int x) ∧ (x = 0 ∨ x = 1) ∧ (¬ x = 0 → 0 ≤ l ∧ l ≤ 2) ∧ (x = 0 → l < 0 ∨ 2 < l)) ∧ (u' = u)
set_option maxHeartbeats 4000000 in
set_option maxRecDepth 20000 in
theorem c_X6_isLane_s {G : uk_D} (hs : uk_Sep G) {u : uk_Mem} (hu : iv u) (l : Int32) (d : Nat) : uk_Meth G d mX6_isLane [.int l] u (q_X6_isLane_s u l) := by
  refine uk_Meth.of hs (by decide) (Nat.le_of_ble_eq_true rfl) (fun X => ?_)
  refine g_iload_n dX6_isLane_0 rfl ?_
  refine g_if_lt (tgt := 13) dX6_isLane_1 (by decide) (fun c1 => ?_) (fun c1 => ?_)
  · refine g_iconst (v := 0) dX6_isLane_13 (by decide) ?_
    exact g_iret (ty := .boolean) dX6_isLane_14 rfl rfl ⟨⟨0, rfl, Or.inl rfl, fun q => absurd rfl q, fun _ => by first | trivial | lia | grind⟩, rfl⟩
  · refine g_iload_n dX6_isLane_4 rfl ?_
    refine g_iconst (v := 3) dX6_isLane_5 (by decide) ?_
    refine g_icmp_ge (tgt := 13) dX6_isLane_6 (by decide) (fun c2 => ?_) (fun c2 => ?_)
    · refine g_iconst (v := 0) dX6_isLane_13 (by decide) ?_
      exact g_iret (ty := .boolean) dX6_isLane_14 rfl rfl ⟨⟨0, rfl, Or.inl rfl, fun q => absurd rfl q, fun _ => by first | trivial | lia | grind⟩, rfl⟩
    · refine g_iconst (v := 1) dX6_isLane_9 (by decide) ?_
      refine g_goto (tgt := 14) dX6_isLane_10 (by decide) ?_
      exact g_iret (ty := .boolean) dX6_isLane_14 rfl rfl ⟨⟨1, rfl, Or.inr rfl, fun _ => by first | trivial | lia | grind, fun q => absurd q (by decide)⟩, rfl⟩
abbrev q_X3_renew_s (u : uk_Mem) (k : Int32) (l : Int32) (n : Int32) (r : Option Value) (u' : uk_Mem) : Prop := (r = none) ∧ (iv u' ∧ fr 49 57 u u' ∧ u'.1 50 = upd (u.1 50) k.toNatClampNeg l ∧ u'.1 51 = upd (u.1 51) k.toNatClampNeg n)
set_option maxHeartbeats 4000000 in
set_option maxRecDepth 20000 in
theorem c_X3_renew_s {G : uk_D} (hs : uk_Sep G) {u : uk_Mem} (hu : iv u) (k : Int32) (l : Int32) (n : Int32) (p0 : 0 ≤ k) (p1 : k ≤ 3) (p2 : 0 ≤ n) (p3 : n ≤ 40) (d : Nat) : uk_Meth G d mX3_renew [.ref (uk_ad G 49), .int k, .int l, .int n] u (q_X3_renew_s u k l n) := by
  refine uk_Meth.of hs (by decide) (Nat.le_of_ble_eq_true rfl) (fun X => ?_)
  have f0 : fr 49 57 u u := fr_rf
  have C50 : u.1 50 = u.1 50 := rfl
  have C51 : u.1 51 = u.1 51 := rfl
  refine g_aload_n dX3_renew_0 rfl ?_
  refine f_X3_11 rfl rfl dX3_renew_1 ?_
  refine g_iload_n dX3_renew_4 rfl ?_
  refine g_iload_n dX3_renew_5 rfl ?_
  have v1 : vp_in k 4 := uk_vin 4 rfl (by first | decide | lia | grind) (by first | decide | lia | grind)
  have b2 := uk_cl v1
  refine g_iast rfl rfl v1 dX3_renew_6 ?_
  refine g_mem (fun u3 eu3 => ?_)
  have hu3 : iv u3 := by rw [eu3]; exact iv_upF hu (uk_pick1 _ (by omega))
  have fu3 : fr 49 57 u u3 := by rw [eu3]; exact fr_up f0 (by omega) (by omega)
  have C4 : u3.1 50 = (upd (u.1 50) (k : Int32).toNatClampNeg l) := by rw [eu3, uk_up_self, C50]
  have C5 : u3.1 51 = u.1 51 := by rw [eu3]; exact (uk_up_oc (by decide)).trans C51
  refine g_aload_n dX3_renew_7 rfl ?_
  refine f_X3_15 rfl rfl dX3_renew_8 ?_
  refine g_iload_n dX3_renew_11 rfl ?_
  refine g_iload_n dX3_renew_12 rfl ?_
  have v6 : vp_in k 4 := uk_vin 4 rfl (by first | decide | lia | grind) (by first | decide | lia | grind)
  have b7 := uk_cl v6
  refine g_iast rfl rfl v6 dX3_renew_13 ?_
  refine g_mem (fun u8 eu8 => ?_)
  have hu8 : iv u8 := by rw [eu8]; exact iv_up hu3 (uk_pick1 _ (by omega)) (by first | lia | grind) (by first | lia | grind)
  have fu8 : fr 49 57 u u8 := by rw [eu8]; exact fr_up fu3 (by omega) (by omega)
  have C9 : u8.1 50 = (upd (u.1 50) (k : Int32).toNatClampNeg l) := by rw [eu8]; exact (uk_up_oc (by decide)).trans C4
  have C10 : u8.1 51 = (upd (u.1 51) (k : Int32).toNatClampNeg n) := by rw [eu8, uk_up_self, C5]
  refine g_iconst (v := 0) dX3_renew_14 (by decide) ?_
  refine g_istore dX3_renew_15 (by decide) ?_
  have L17_10 : ∀ i12 : Int32, 0 ≤ i12 → i12 ≤ 40 → ∀ (u13 : uk_Mem), iv u13 → fr 49 57 u u13 → u13.1 50 = upd (u.1 50) k.toNatClampNeg l → u13.1 51 = upd (u.1 51) k.toNatClampNeg n → uk_G G X mX3_renew d (q_X3_renew_s u k l n) 17 [(0, .ref (uk_ad G 49)), (1, .int k), (2, .int l), (3, .int n), (4, .int i12)] [] u13 := by
    refine uk_upl 40 ?_
    intro i12 ai12 bi12 ihi12  u13 hu13 fu13 ji120 ji121
    have C50_u13 : u13.1 50 = u13.1 50 := rfl
    have C51_u13 : u13.1 51 = u13.1 51 := rfl
    refine g_iload dX3_renew_17 rfl ?_
    refine g_bipush (v := 40) dX3_renew_19 (by decide) ?_
    refine g_icmp_ge (tgt := 40) dX3_renew_21 (by decide) (fun c14 => ?_) (fun c14 => ?_)
    · exact g_vret dX3_renew_40 rfl ⟨rfl, hu13, fu13, (C50_u13.trans ji120), (C51_u13.trans ji121)⟩
    · refine g_aload_n dX3_renew_24 rfl ?_
      refine f_X3_20 rfl rfl dX3_renew_25 ?_
      refine g_iload_n dX3_renew_28 rfl ?_
      have v15 : vp_in k 4 := uk_vin 4 rfl (by first | decide | lia | grind) (by first | decide | lia | grind)
      refine g_aald rfl rfl v15 dX3_renew_29 ?_
      have b16 := uk_cl v15
      refine g_iload dX3_renew_30 rfl ?_
      refine g_iconst (v := 0) dX3_renew_32 (by decide) ?_
      have v17 : vp_in i12 40 := uk_vin 40 rfl (by first | decide | lia | grind) (by first | decide | lia | grind)
      have b18 := uk_cl v17
      refine g_iast (ks_kind b16) (ks_len b16) v17 dX3_renew_33 ?_
      refine g_mem (fun u19 eu19 => ?_)
      have hu19 : iv u19 := by rw [eu19]; exact iv_upF hu13 (ks_rg b16 _ (by omega))
      have fu19 : fr 49 57 u u19 := by rw [eu19]; exact fr_up fu13 (by omega) (by omega)
      have C20 : u19.1 50 = u13.1 50 := by rw [eu19]; exact (uk_up_oc (by omega)).trans C50_u13
      have C21 : u19.1 51 = u13.1 51 := by rw [eu19]; exact (uk_up_oc (by omega)).trans C51_u13
      refine g_iinc (v := i12 + 1) dX3_renew_34 rfl rfl (by decide) ?_
      refine g_goto (tgt := 17) dX3_renew_37 (by decide) ?_
      refine g_pick (lv' := [(0, .ref (uk_ad G 49)), (1, .int k), (2, .int l), (3, .int n), (4, .int (i12 + 1))]) [0, 1, 2, 3, 4] rfl ?_
      exact ihi12 (by first | lia | grind)  u19 hu19 fu19 (C20.trans ji120) (C21.trans ji121)
  refine g_pick (lv' := [(0, .ref (uk_ad G 49)), (1, .int k), (2, .int l), (3, .int n), (4, .int 0)]) [0, 1, 2, 3, 4] rfl ?_
  exact L17_10 0 (by first | decide | lia | grind) (by first | decide | lia | grind)  u8 hu8 fu8 C9 C10
abbrev q_X6_sheet_s (u : uk_Mem) (k : Int32) (l : Int32) (n : Int32) (r : Option Value) (u' : uk_Mem) : Prop := (∃ x : Int32, r = some (.int x) ∧ (((k < 0 ∨ 3 < k ∨ l < 0 ∨ 2 < l ∨ 40 < n) ∧ x = -1 ∧ u'.1 50 = u.1 50 ∧ u'.1 51 = u.1 51) ∨ (¬ (k < 0 ∨ 3 < k ∨ l < 0 ∨ 2 < l ∨ 40 < n) ∧ n < 0 ∧ x = -14 ∧ u'.1 50 = u.1 50 ∧ u'.1 51 = u.1 51) ∨ (¬ (k < 0 ∨ 3 < k ∨ l < 0 ∨ 2 < l ∨ 40 < n) ∧ ¬ n < 0 ∧ x = 1 ∧ u'.1 50 = upd (u.1 50) k.toNatClampNeg l ∧ u'.1 51 = upd (u.1 51) k.toNatClampNeg n))) ∧ (iv u' ∧ fr 49 57 u u')
set_option maxHeartbeats 4000000 in
set_option maxRecDepth 20000 in
theorem c_X6_sheet_s {G : uk_D} (hs : uk_Sep G) {u : uk_Mem} (hu : iv u) (k : Int32) (l : Int32) (n : Int32) (d : Nat) : uk_Meth G (d + 1) mX6_sheet [.ref (uk_ad G 0), .int k, .int l, .int n] u (q_X6_sheet_s u k l n) := by
  refine uk_Meth.of hs (by decide) (Nat.le_of_ble_eq_true rfl) (fun X => ?_)
  have f0 : fr 49 57 u u := fr_rf
  refine g_iload_n dX6_sheet_0 rfl ?_
  refine cl_X6_251 (As := [.int k]) rfl (c_X6_isSheet_s (G := G) hs hu  k  (d)) rfl (by omega) rfl (Nat.le_of_ble_eq_true rfl) dX6_sheet_1 (fun r1 u2 q3 => ?_)
  obtain ⟨⟨x4, rfl, tx4, nx4, zx4⟩, mq3⟩ := q3
  rw [mq3]
  refine g_if_eq (tgt := 20) dX6_sheet_4 (by decide) (fun c5 => ?_) (fun c5 => ?_)
  · have zc5 := zx4 c5
    refine g_iconst (v := (-1)) dX6_sheet_20 (by decide) ?_
    exact g_iret (ty := .int) dX6_sheet_21 rfl rfl ⟨⟨_, rfl, Or.inl ⟨by grind, rfl, rfl, rfl⟩⟩, hu, f0⟩
  · have zc5 := nx4 c5
    refine g_iload_n dX6_sheet_7 rfl ?_
    refine cl_X6_254 (As := [.int l]) rfl (c_X6_isLane_s (G := G) hs hu  l  (d)) rfl (by omega) rfl (Nat.le_of_ble_eq_true rfl) dX6_sheet_8 (fun r6 u7 q8 => ?_)
    obtain ⟨⟨x9, rfl, tx9, nx9, zx9⟩, mq8⟩ := q8
    rw [mq8]
    refine g_if_eq (tgt := 20) dX6_sheet_11 (by decide) (fun c10 => ?_) (fun c10 => ?_)
    · have zc10 := zx9 c10
      refine g_iconst (v := (-1)) dX6_sheet_20 (by decide) ?_
      exact g_iret (ty := .int) dX6_sheet_21 rfl rfl ⟨⟨_, rfl, Or.inl ⟨by grind, rfl, rfl, rfl⟩⟩, hu, f0⟩
    · have zc10 := nx9 c10
      refine g_iload_n dX6_sheet_14 rfl ?_
      refine g_bipush (v := 40) dX6_sheet_15 (by decide) ?_
      refine g_icmp_le (tgt := 22) dX6_sheet_17 (by decide) (fun c11 => ?_) (fun c11 => ?_)
      · refine g_iload_n dX6_sheet_22 rfl ?_
        refine g_if_ge (tgt := 29) dX6_sheet_23 (by decide) (fun c12 => ?_) (fun c12 => ?_)
        · refine g_aload_n dX6_sheet_29 rfl ?_
          refine f_X6_62 rfl rfl dX6_sheet_30 ?_
          refine g_iload_n dX6_sheet_33 rfl ?_
          refine g_iload_n dX6_sheet_34 rfl ?_
          refine g_iload_n dX6_sheet_35 rfl ?_
          refine cl_X6_257 (c := 49) (As := [.int k, .int l, .int n]) rfl (c_X3_renew_s (G := G) hs hu  k l n (by first | trivial | decide | lia | grind) (by first | trivial | decide | lia | grind) (by first | trivial | decide | lia | grind) (by first | trivial | decide | lia | grind) (d)) rfl (by omega) rfl rfl (Nat.le_of_ble_eq_true rfl) dX6_sheet_36 (fun r13 u14 q15 => ?_)
          obtain ⟨rfl, mq15⟩ := q15
          obtain ⟨hu14, gu14, ku140, ku141⟩ := mq15
          have fu14 : fr 49 57 u u14 := fr_tr f0 gu14 (by omega) (by omega)
          refine g_iconst (v := 1) dX6_sheet_39 (by decide) ?_
          exact g_iret (ty := .int) dX6_sheet_40 rfl rfl ⟨⟨_, rfl, Or.inr (Or.inr ⟨by grind, by grind, rfl, ku140, ku141⟩)⟩, hu14, fu14⟩
        · refine g_bipush (v := (-14)) dX6_sheet_26 (by decide) ?_
          exact g_iret (ty := .int) dX6_sheet_28 rfl rfl ⟨⟨_, rfl, Or.inr (Or.inl ⟨by grind, by grind, rfl, rfl, rfl⟩)⟩, hu, f0⟩
      · refine g_iconst (v := (-1)) dX6_sheet_20 (by decide) ?_
        exact g_iret (ty := .int) dX6_sheet_21 rfl rfl ⟨⟨_, rfl, Or.inl ⟨by grind, rfl, rfl, rfl⟩⟩, hu, f0⟩
abbrev q_X7_isSheet_s (u : uk_Mem) (k : Int32) (l : Int32) (r : Option Value) (u' : uk_Mem) : Prop := (∃ x : Int32, r = some (.int x) ∧ (x = 0 ∨ x = 1) ∧ (¬ x = 0 → 0 ≤ k ∧ k ≤ 3 ∧ 0 ≤ l ∧ l ≤ 2) ∧ (x = 0 → k < 0 ∨ 3 < k ∨ l < 0 ∨ 2 < l)) ∧ (u' = u)
set_option maxHeartbeats 4000000 in
set_option maxRecDepth 20000 in
theorem c_X7_isSheet_s {G : uk_D} (hs : uk_Sep G) {u : uk_Mem} (hu : iv u) (k : Int32) (l : Int32) (d : Nat) : uk_Meth G (d + 1) mX7_isSheet [.int k, .int l] u (q_X7_isSheet_s u k l) := by
  refine uk_Meth.of hs (by decide) (Nat.le_of_ble_eq_true rfl) (fun X => ?_)
  refine g_iload_n dX7_isSheet_0 rfl ?_
  refine g_i2l dX7_isSheet_1 ?_
  refine g_lconst (v := 0) dX7_isSheet_2 (by decide) ?_
  refine g_ldc2 (v := 3) k_X7_180 dX7_isSheet_3 ?_
  refine cl_X7_84 (As := [.long k.toInt64, .long 0, .long 3]) rfl (c_X7_in (G := G) hs hu  k 0 3  (d)) rfl (by omega) rfl (Nat.le_of_ble_eq_true rfl) dX7_isSheet_6 (fun r1 u2 q3 => ?_)
  obtain ⟨⟨x4, rfl, tx4, nx4, zx4⟩, mq3⟩ := q3
  rw [mq3]
  refine g_if_eq (tgt := 28) dX7_isSheet_9 (by decide) (fun c5 => ?_) (fun c5 => ?_)
  · have zc5 := zx4 c5
    refine g_iconst (v := 0) dX7_isSheet_28 (by decide) ?_
    exact g_iret (ty := .boolean) dX7_isSheet_29 rfl rfl ⟨⟨0, rfl, Or.inl rfl, fun q => absurd rfl q, fun _ => by first | trivial | lia | grind⟩, rfl⟩
  · have zc5 := nx4 c5
    refine g_iload_n dX7_isSheet_12 rfl ?_
    refine g_i2l dX7_isSheet_13 ?_
    refine g_lconst (v := 0) dX7_isSheet_14 (by decide) ?_
    refine g_ldc2 (v := 2) k_X7_271 dX7_isSheet_15 ?_
    refine cl_X7_84 (As := [.long l.toInt64, .long 0, .long 2]) rfl (c_X7_in (G := G) hs hu  l 0 2  (d)) rfl (by omega) rfl (Nat.le_of_ble_eq_true rfl) dX7_isSheet_18 (fun r6 u7 q8 => ?_)
    obtain ⟨⟨x9, rfl, tx9, nx9, zx9⟩, mq8⟩ := q8
    rw [mq8]
    refine g_if_eq (tgt := 28) dX7_isSheet_21 (by decide) (fun c10 => ?_) (fun c10 => ?_)
    · have zc10 := zx9 c10
      refine g_iconst (v := 0) dX7_isSheet_28 (by decide) ?_
      exact g_iret (ty := .boolean) dX7_isSheet_29 rfl rfl ⟨⟨0, rfl, Or.inl rfl, fun q => absurd rfl q, fun _ => by first | trivial | lia | grind⟩, rfl⟩
    · have zc10 := nx9 c10
      refine g_iconst (v := 1) dX7_isSheet_24 (by decide) ?_
      refine g_goto (tgt := 29) dX7_isSheet_25 (by decide) ?_
      exact g_iret (ty := .boolean) dX7_isSheet_29 rfl rfl ⟨⟨1, rfl, Or.inr rfl, fun _ => by first | trivial | lia | grind, fun q => absurd q (by decide)⟩, rfl⟩
abbrev q_X7_sheet_s (u : uk_Mem) (k : Int32) (l : Int32) (n : Int32) (r : Option Value) (u' : uk_Mem) : Prop := (∃ x : Int32, r = some (.int x) ∧ (((k < 0 ∨ 3 < k ∨ l < 0 ∨ 2 < l ∨ 40 < n) ∧ x = -1 ∧ u'.1 74 = u.1 74 ∧ u'.1 75 = u.1 75) ∨ (¬ (k < 0 ∨ 3 < k ∨ l < 0 ∨ 2 < l ∨ 40 < n) ∧ n < 0 ∧ x = -14 ∧ u'.1 74 = u.1 74 ∧ u'.1 75 = u.1 75) ∨ (¬ (k < 0 ∨ 3 < k ∨ l < 0 ∨ 2 < l ∨ 40 < n) ∧ ¬ n < 0 ∧ x = 1 ∧ u'.1 74 = upd (u.1 74) k.toNatClampNeg l ∧ u'.1 75 = upd (u.1 75) k.toNatClampNeg n))) ∧ (iv u' ∧ fk [74, 75, 76] [] u u')
set_option maxHeartbeats 4000000 in
set_option maxRecDepth 20000 in
theorem c_X7_sheet_s {G : uk_D} (hs : uk_Sep G) {u : uk_Mem} (hu : iv u) (k : Int32) (l : Int32) (n : Int32) (d : Nat) : uk_Meth G (d + 2) mX7_sheet [.ref (uk_ad G 60), .int k, .int l, .int n] u (q_X7_sheet_s u k l n) := by
  refine uk_Meth.of hs (by decide) (Nat.le_of_ble_eq_true rfl) (fun X => ?_)
  have f0 : fk [74, 75, 76] [] u u := fk_rf
  have C74 : u.1 74 = u.1 74 := rfl
  have C75 : u.1 75 = u.1 75 := rfl
  refine g_iload_n dX7_sheet_0 rfl ?_
  refine g_iload_n dX7_sheet_1 rfl ?_
  refine cl_X7_273 (As := [.int k, .int l]) rfl (c_X7_isSheet_s (G := G) hs hu  k l  (d)) rfl (by omega) rfl (Nat.le_of_ble_eq_true rfl) dX7_sheet_2 (fun r1 u2 q3 => ?_)
  obtain ⟨⟨x4, rfl, tx4, nx4, zx4⟩, mq3⟩ := q3
  rw [mq3]
  refine g_if_eq (tgt := 14) dX7_sheet_5 (by decide) (fun c5 => ?_) (fun c5 => ?_)
  · have zc5 := zx4 c5
    refine g_iconst (v := (-1)) dX7_sheet_14 (by decide) ?_
    exact g_iret (ty := .int) dX7_sheet_15 rfl rfl ⟨⟨_, rfl, Or.inl ⟨by grind, rfl, rfl, rfl⟩⟩, hu, f0⟩
  · have zc5 := nx4 c5
    refine g_iload_n dX7_sheet_8 rfl ?_
    refine g_bipush (v := 40) dX7_sheet_9 (by decide) ?_
    refine g_icmp_le (tgt := 16) dX7_sheet_11 (by decide) (fun c6 => ?_) (fun c6 => ?_)
    · refine g_iload_n dX7_sheet_16 rfl ?_
      refine g_if_ge (tgt := 23) dX7_sheet_17 (by decide) (fun c7 => ?_) (fun c7 => ?_)
      · refine g_aload_n dX7_sheet_23 rfl ?_
        refine f_X7_51 rfl rfl dX7_sheet_24 ?_
        refine g_iload_n dX7_sheet_27 rfl ?_
        refine g_iload_n dX7_sheet_28 rfl ?_
        have v8 : vp_in k 4 := uk_vin 4 rfl (by first | decide | lia | grind) (by first | decide | lia | grind)
        have b9 := uk_cl v8
        refine g_iast rfl rfl v8 dX7_sheet_29 ?_
        refine g_mem (fun u10 eu10 => ?_)
        have hu10 : iv u10 := by rw [eu10]; exact iv_upF hu (uk_pick1 _ (by omega))
        have fu10 : fk [74, 75, 76] [] u u10 := by rw [eu10]; exact fk_up f0 (by decide) (fun q => absurd q (by decide))
        have C11 : u10.1 74 = (upd (u.1 74) (k : Int32).toNatClampNeg l) := by rw [eu10, uk_up_self, C74]
        have C12 : u10.1 75 = u.1 75 := by rw [eu10]; exact (uk_up_oc (by decide)).trans C75
        refine g_aload_n dX7_sheet_30 rfl ?_
        refine f_X7_54 rfl rfl dX7_sheet_31 ?_
        refine g_iload_n dX7_sheet_34 rfl ?_
        refine g_iload_n dX7_sheet_35 rfl ?_
        have v13 : vp_in k 4 := uk_vin 4 rfl (by first | decide | lia | grind) (by first | decide | lia | grind)
        have b14 := uk_cl v13
        refine g_iast rfl rfl v13 dX7_sheet_36 ?_
        refine g_mem (fun u15 eu15 => ?_)
        have hu15 : iv u15 := by rw [eu15]; exact iv_up hu10 (uk_pick1 _ (by omega)) (by first | lia | grind) (by first | lia | grind)
        have fu15 : fk [74, 75, 76] [] u u15 := by rw [eu15]; exact fk_up fu10 (by decide) (fun q => absurd q (by decide))
        have C16 : u15.1 74 = (upd (u.1 74) (k : Int32).toNatClampNeg l) := by rw [eu15]; exact (uk_up_oc (by decide)).trans C11
        have C17 : u15.1 75 = (upd (u.1 75) (k : Int32).toNatClampNeg n) := by rw [eu15, uk_up_self, C12]
        refine g_iconst (v := 0) dX7_sheet_37 (by decide) ?_
        refine g_istore dX7_sheet_38 (by decide) ?_
        have L40_17 : ∀ i19 : Int32, 0 ≤ i19 → i19 ≤ 40 → ∀ (u20 : uk_Mem), iv u20 → fk [74, 75, 76] [] u u20 → u20.1 74 = upd (u.1 74) k.toNatClampNeg l → u20.1 75 = upd (u.1 75) k.toNatClampNeg n → uk_G G X mX7_sheet (d + 2) (q_X7_sheet_s u k l n) 40 [(0, .ref (uk_ad G 60)), (1, .int k), (2, .int l), (3, .int n), (4, .int i19)] [] u20 := by
          refine uk_upl 40 ?_
          intro i19 ai19 bi19 ihi19  u20 hu20 fu20 ji190 ji191
          have C74_u20 : u20.1 74 = u20.1 74 := rfl
          have C75_u20 : u20.1 75 = u20.1 75 := rfl
          refine g_iload dX7_sheet_40 rfl ?_
          refine g_bipush (v := 40) dX7_sheet_42 (by decide) ?_
          refine g_icmp_ge (tgt := 66) dX7_sheet_44 (by decide) (fun c21 => ?_) (fun c21 => ?_)
          · refine g_iconst (v := 1) dX7_sheet_66 (by decide) ?_
            exact g_iret (ty := .int) dX7_sheet_67 rfl rfl ⟨⟨_, rfl, Or.inr (Or.inr ⟨by grind, by grind, rfl, (C74_u20.trans ji190), (C75_u20.trans ji191)⟩)⟩, hu20, fu20⟩
          · refine g_aload_n dX7_sheet_47 rfl ?_
            refine f_X7_57 rfl rfl dX7_sheet_48 ?_
            refine g_bipush (v := 40) dX7_sheet_51 (by decide) ?_
            refine g_iload_n dX7_sheet_53 rfl ?_
            refine g_imul dX7_sheet_54 ?_
            refine g_topi (fun x22 ex22 => ?_)
            refine g_iload dX7_sheet_55 rfl ?_
            refine g_iadd dX7_sheet_57 ?_
            refine g_topi (fun x23 ex23 => ?_)
            refine g_iconst (v := 0) dX7_sheet_58 (by decide) ?_
            have v24 : vp_in x23 160 := uk_vin 160 rfl (by first | decide | lia | grind) (by first | decide | lia | grind)
            have b25 := uk_cl v24
            refine g_iast rfl rfl v24 dX7_sheet_59 ?_
            refine g_mem (fun u26 eu26 => ?_)
            have hu26 : iv u26 := by rw [eu26]; exact iv_upF hu20 (uk_pick1 _ (by omega))
            have fu26 : fk [74, 75, 76] [] u u26 := by rw [eu26]; exact fk_up fu20 (by decide) (fun q => absurd q (by decide))
            have C27 : u26.1 74 = u20.1 74 := by rw [eu26]; exact (uk_up_oc (by decide)).trans C74_u20
            have C28 : u26.1 75 = u20.1 75 := by rw [eu26]; exact (uk_up_oc (by decide)).trans C75_u20
            refine g_iinc (v := i19 + 1) dX7_sheet_60 rfl rfl (by decide) ?_
            refine g_goto (tgt := 40) dX7_sheet_63 (by decide) ?_
            refine g_pick (lv' := [(0, .ref (uk_ad G 60)), (1, .int k), (2, .int l), (3, .int n), (4, .int (i19 + 1))]) [0, 1, 2, 3, 4] rfl ?_
            exact ihi19 (by first | lia | grind)  u26 hu26 fu26 (C27.trans ji190) (C28.trans ji191)
        refine g_pick (lv' := [(0, .ref (uk_ad G 60)), (1, .int k), (2, .int l), (3, .int n), (4, .int 0)]) [0, 1, 2, 3, 4] rfl ?_
        exact L40_17 0 (by first | decide | lia | grind) (by first | decide | lia | grind)  u15 hu15 fu15 C16 C17
      · refine g_bipush (v := (-14)) dX7_sheet_20 (by decide) ?_
        exact g_iret (ty := .int) dX7_sheet_22 rfl rfl ⟨⟨_, rfl, Or.inr (Or.inl ⟨by grind, by grind, rfl, rfl, rfl⟩)⟩, hu, f0⟩
    · refine g_iconst (v := (-1)) dX7_sheet_14 (by decide) ?_
      exact g_iret (ty := .int) dX7_sheet_15 rfl rfl ⟨⟨_, rfl, Or.inl ⟨by grind, rfl, rfl, rfl⟩⟩, hu, f0⟩
