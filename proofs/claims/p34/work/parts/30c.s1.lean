abbrev q_X6_isSheet_s (u : uk_Mem) (k : Int32) (r : Option Value) (u' : uk_Mem) : Prop := (∃ x : Int32, r = some (.int x) ∧ (x = 0 ∨ x = 1) ∧ (¬ x = 0 → 0 ≤ k ∧ k ≤ 3) ∧ (x = 0 → k < 0 ∨ 3 < k)) ∧ (u' = u)
set_option maxHeartbeats 4000000 in
set_option maxRecDepth 20000 in
theorem c_X6_isSheet_s {G : uk_D} (hs : uk_Sep G) {u : uk_Mem} (hu : iv u) (k : Int32) (d : Nat) : uk_Meth G d mX6_isSheet [.int k] u (q_X6_isSheet_s u k) := by
  refine uk_Meth.of hs (by decide) (Nat.le_of_ble_eq_true rfl) (fun X => ?_)
  refine g_iload_n dX6_isSheet_0 rfl ?_
  refine g_if_lt (tgt := 13) dX6_isSheet_1 (by decide) (fun c1 => ?_) (fun c1 => ?_)
  · refine g_iconst (v := 0) dX6_isSheet_13 (by decide) ?_
    exact g_iret (ty := .boolean) dX6_isSheet_14 rfl rfl ⟨⟨0, rfl, Or.inl rfl, fun q => absurd rfl q, fun _ => by first | trivial | lia | grind⟩, rfl⟩
  · refine g_iload_n dX6_isSheet_4 rfl ?_
    refine g_iconst (v := 4) dX6_isSheet_5 (by decide) ?_
    refine g_icmp_ge (tgt := 13) dX6_isSheet_6 (by decide) (fun c2 => ?_) (fun c2 => ?_)
    · refine g_iconst (v := 0) dX6_isSheet_13 (by decide) ?_
      exact g_iret (ty := .boolean) dX6_isSheet_14 rfl rfl ⟨⟨0, rfl, Or.inl rfl, fun q => absurd rfl q, fun _ => by first | trivial | lia | grind⟩, rfl⟩
    · refine g_iconst (v := 1) dX6_isSheet_9 (by decide) ?_
      refine g_goto (tgt := 14) dX6_isSheet_10 (by decide) ?_
      exact g_iret (ty := .boolean) dX6_isSheet_14 rfl rfl ⟨⟨1, rfl, Or.inr rfl, fun _ => by first | trivial | lia | grind, fun q => absurd q (by decide)⟩, rfl⟩
abbrev q_X6_isLane_s (u : uk_Mem) (l : Int32) (r : Option Value) (u' : uk_Mem) : Prop := (∃ x : Int32, r = some (.int x) ∧ (x = 0 ∨ x = 1) ∧ (¬ x = 0 → 0 ≤ l ∧ l ≤ 2) ∧ (x = 0 → l < 0 ∨ 2 < l)) ∧ (u' = u)
set_option maxHeartbeats 4000000 in
set_option maxRecDepth 20000 in
theorem c_X6_isLane_s {G : uk_D} (hs : uk_Sep G) {u : uk_Mem} (hu : iv u) (l : Int32) (d : Nat) : uk_Meth G d mX6_isLane [.int l] u (q_X6_isLane_s u l) := by
  refine uk_Meth.of hs (by decide) (Nat.le_of_ble_eq_true rfl) (fun X => ?_)
  refine g_iload_n dX6_isLane_0 rfl ?_
  refine g_if_lt (tgt := 13) dX6_isLane_1 (by decide) (fun c1 => ?_) (fun c1 => ?_)
  · refine g_iconst (v := 0) dX6_isLane_13 (by decide) ?_
    exact g_iret (ty := .boolean) dX6_isLane_14 rfl rfl ⟨⟨0, rfl, Or.inl rfl, fun q => absurd rfl q, fun _ => by first | trivial | lia | grind⟩, rfl⟩
  · refine g_iload_n dX6_isLane_4 rfl ?_
    refine g_iconst (v := 3) dX6_isLane_5 (by decide) ?_
    refine g_icmp_ge (tgt := 13) dX6_isLane_6 (by decide) (fun c2 => ?_) (fun c2 => ?_)
    · refine g_iconst (v := 0) dX6_isLane_13 (by decide) ?_
      exact g_iret (ty := .boolean) dX6_isLane_14 rfl rfl ⟨⟨0, rfl, Or.inl rfl, fun q => absurd rfl q, fun _ => by first | trivial | lia | grind⟩, rfl⟩
    · refine g_iconst (v := 1) dX6_isLane_9 (by decide) ?_
      refine g_goto (tgt := 14) dX6_isLane_10 (by decide) ?_
      exact g_iret (ty := .boolean) dX6_isLane_14 rfl rfl ⟨⟨1, rfl, Or.inr rfl, fun _ => by first | trivial | lia | grind, fun q => absurd q (by decide)⟩, rfl⟩
abbrev q_X3_renew_s (u : uk_Mem) (k : Int32) (l : Int32) (n : Int32) (r : Option Value) (u' : uk_Mem) : Prop := (r = none) ∧ (iv u' ∧ fr 49 57 u u' ∧ u'.1 50 = upd (u.1 50) k.toNatClampNeg l ∧ u'.1 51 = upd (u.1 51) k.toNatClampNeg n)
set_option maxHeartbeats 4000000 in
set_option maxRecDepth 20000 in
theorem c_X3_renew_s {G : uk_D} (hs : uk_Sep G) {u : uk_Mem} (hu : iv u) (k : Int32) (l : Int32) (n : Int32) (p0 : 0 ≤ k) (p1 : k ≤ 3) (p2 : 0 ≤ n) (p3 : n ≤ 40) (d : Nat) : uk_Meth G d mX3_renew [.ref (uk_ad G 49), .int k, .int l, .int n] u (q_X3_renew_s u k l n) := by
  refine uk_Meth.of hs (by decide) (Nat.le_of_ble_eq_true rfl) (fun X => ?_)
  have f0 : fr 49 57 u u := fr_rf
  have C50 : u.1 50 = u.1 50 := rfl
  have C51 : u.1 51 = u.1 51 := rfl
  refine g_aload_n dX3_renew_0 rfl ?_
  refine f_X3_11 rfl rfl dX3_renew_1 ?_
  refine g_iload_n dX3_renew_4 rfl ?_
  refine g_iload_n dX3_renew_5 rfl ?_
  have v1 : vp_in k 4 := uk_vin 4 rfl (by first | decide | lia | grind) (by first | decide | lia | grind)
  have b2 := uk_cl v1
  refine g_iast rfl rfl v1 dX3_renew_6 ?_
  refine g_mem (fun u3 eu3 => ?_)
  have hu3 : iv u3 := by rw [eu3]; exact iv_upF hu (uk_pick1 _ (by omega))
  have fu3 : fr 49 57 u u3 := by rw [eu3]; exact fr_up f0 (by omega) (by omega)
  have C4 : u3.1 50 = (upd (u.1 50) (k : Int32).toNatClampNeg l) := by rw [eu3, uk_up_self, C50]
  have C5 : u3.1 51 = u.1 51 := by rw [eu3]; exact (uk_up_oc (by decide)).trans C51
  refine g_aload_n dX3_renew_7 rfl ?_
  refine f_X3_15 rfl rfl dX3_renew_8 ?_
  refine g_iload_n dX3_renew_11 rfl ?_
  refine g_iload_n dX3_renew_12 rfl ?_
  have v6 : vp_in k 4 := uk_vin 4 rfl (by first | decide | lia | grind) (by first | decide | lia | grind)
  have b7 := uk_cl v6
  refine g_iast rfl rfl v6 dX3_renew_13 ?_
  refine g_mem (fun u8 eu8 => ?_)
  have hu8 : iv u8 := by rw [eu8]; exact iv_up hu3 (uk_pick1 _ (by omega)) (by first | lia | grind) (by first | lia | grind)
  have fu8 : fr 49 57 u u8 := by rw [eu8]; exact fr_up fu3 (by omega) (by omega)
  have C9 : u8.1 50 = (upd (u.1 50) (k : Int32).toNatClampNeg l) := by rw [eu8]; exact (uk_up_oc (by decide)).trans C4
  have C10 : u8.1 51 = (upd (u.1 51) (k : Int32).toNatClampNeg n) := by rw [eu8, uk_up_self, C5]
  refine g_iconst (v := 0) dX3_renew_14 (by decide) ?_
  refine g_istore dX3_renew_15 (by decide) ?_
  have L17_10 : ∀ i12 : Int32, 0 ≤ i12 → i12 ≤ 40 → ∀ (u13 : uk_Mem), iv u13 → fr 49 57 u u13 → u13.1 50 = upd (u.1 50) k.toNatClampNeg l → u13.1 51 = upd (u.1 51) k.toNatClampNeg n → uk_G G X mX3_renew d (q_X3_renew_s u k l n) 17 [(0, .ref (uk_ad G 49)), (1, .int k), (2, .int l), (3, .int n), (4, .int i12)] [] u13 := by
    refine uk_upl 40 ?_
    intro i12 ai12 bi12 ihi12  u13 hu13 fu13 ji120 ji121
    have C50_u13 : u13.1 50 = u13.1 50 := rfl
    have C51_u13 : u13.1 51 = u13.1 51 := rfl
    refine g_iload dX3_renew_17 rfl ?_
    refine g_bipush (v := 40) dX3_renew_19 (by decide) ?_
    refine g_icmp_ge (tgt := 40) dX3_renew_21 (by decide) (fun c14 => ?_) (fun c14 => ?_)
    · exact g_vret dX3_renew_40 rfl ⟨rfl, hu13, fu13, (C50_u13.trans ji120), (C51_u13.trans ji121)⟩
    · refine g_aload_n dX3_renew_24 rfl ?_
      refine f_X3_20 rfl rfl dX3_renew_25 ?_
      refine g_iload_n dX3_renew_28 rfl ?_
      have v15 : vp_in k 4 := uk_vin 4 rfl (by first | decide | lia | grind) (by first | decide | lia | grind)
      refine g_aald rfl rfl v15 dX3_renew_29 ?_
      have b16 := uk_cl v15
      refine g_iload dX3_renew_30 rfl ?_
      refine g_iconst (v := 0) dX3_renew_32 (by decide) ?_
      have v17 : vp_in i12 40 := uk_vin 40 rfl (by first | decide | lia | grind) (by first | decide | lia | grind)
      have b18 := uk_cl v17
      refine g_iast (ks_kind b16) (ks_len b16) v17 dX3_renew_33 ?_
      refine g_mem (fun u19 eu19 => ?_)
      have hu19 : iv u19 := by rw [eu19]; exact iv_upF hu13 (ks_rg b16 _ (by omega))
      have fu19 : fr 49 57 u u19 := by rw [eu19]; exact fr_up fu13 (by omega) (by omega)
      have C20 : u19.1 50 = u13.1 50 := by rw [eu19]; exact (uk_up_oc (by omega)).trans C50_u13
      have C21 : u19.1 51 = u13.1 51 := by rw [eu19]; exact (uk_up_oc (by omega)).trans C51_u13
      refine g_iinc (v := i12 + 1) dX3_renew_34 rfl rfl (by decide) ?_
      refine g_goto (tgt := 17) dX3_renew_37 (by decide) ?_
      refine g_pick (lv' := [(0, .ref (uk_ad G 49)), (1, .int k), (2, .int l), (3, .int n), (4, .int (i12 + 1))]) [0, 1, 2, 3, 4] rfl ?_
      exact ihi12 (by first | lia | grind)  u19 hu19 fu19 (C20.trans ji120) (C21.trans ji121)
  refine g_pick (lv' := [(0, .ref (uk_ad G 49)), (1, .int k), (2, .int l), (3, .int n), (4, .int 0)]) [0, 1, 2, 3, 4] rfl ?_
  exact L17_10 0 (by first | decide | lia | grind) (by first | decide | lia | grind)  u8 hu8 fu8 C9 C10
abbrev q_X6_sheet_s (u : uk_Mem) (k : Int32) (l : Int32) (n : Int32) (r : Option Value) (u' : uk_Mem) : Prop := (∃ x : Int32, r = some (.int x) ∧ (((k < 0 ∨ 3 < k ∨ l < 0 ∨ 2 < l ∨ 40 < n) ∧ x = -1 ∧ u'.1 50 = u.1 50 ∧ u'.1 51 = u.1 51) ∨ (¬ (k < 0 ∨ 3 < k ∨ l < 0 ∨ 2 < l ∨ 40 < n) ∧ n < 0 ∧ x = -14 ∧ u'.1 50 = u.1 50 ∧ u'.1 51 = u.1 51) ∨ (¬ (k < 0 ∨ 3 < k ∨ l < 0 ∨ 2 < l ∨ 40 < n) ∧ ¬ n < 0 ∧ x = 1 ∧ u'.1 50 = upd (u.1 50) k.toNatClampNeg l ∧ u'.1 51 = upd (u.1 51) k.toNatClampNeg n))) ∧ (iv u' ∧ fr 49 57 u u')
set_option maxHeartbeats 4000000 in
set_option maxRecDepth 20000 in
theorem c_X6_sheet_s {G : uk_D} (hs : uk_Sep G) {u : uk_Mem} (hu : iv u) (k : Int32) (l : Int32) (n : Int32) (d : Nat) : uk_Meth G (d + 1) mX6_sheet [.ref (uk_ad G 0), .int k, .int l, .int n] u (q_X6_sheet_s u k l n) := by
  refine uk_Meth.of hs (by decide) (Nat.le_of_ble_eq_true rfl) (fun X => ?_)
  have f0 : fr 49 57 u u := fr_rf
  refine g_iload_n dX6_sheet_0 rfl ?_
  refine cl_X6_251 (As := [.int k]) rfl (c_X6_isSheet_s (G := G) hs hu  k  (d)) rfl (by omega) rfl (Nat.le_of_ble_eq_true rfl) dX6_sheet_1 (fun r1 u2 q3 => ?_)
  obtain ⟨⟨x4, rfl, tx4, nx4, zx4⟩, mq3⟩ := q3
  rw [mq3]
  refine g_if_eq (tgt := 20) dX6_sheet_4 (by decide) (fun c5 => ?_) (fun c5 => ?_)
  · have zc5 := zx4 c5
    refine g_iconst (v := (-1)) dX6_sheet_20 (by decide) ?_
    exact g_iret (ty := .int) dX6_sheet_21 rfl rfl ⟨⟨_, rfl, Or.inl ⟨by grind, rfl, rfl, rfl⟩⟩, hu, f0⟩
  · have zc5 := nx4 c5
    refine g_iload_n dX6_sheet_7 rfl ?_
    refine cl_X6_254 (As := [.int l]) rfl (c_X6_isLane_s (G := G) hs hu  l  (d)) rfl (by omega) rfl (Nat.le_of_ble_eq_true rfl) dX6_sheet_8 (fun r6 u7 q8 => ?_)
    obtain ⟨⟨x9, rfl, tx9, nx9, zx9⟩, mq8⟩ := q8
    rw [mq8]
    refine g_if_eq (tgt := 20) dX6_sheet_11 (by decide) (fun c10 => ?_) (fun c10 => ?_)
    · have zc10 := zx9 c10
      refine g_iconst (v := (-1)) dX6_sheet_20 (by decide) ?_
      exact g_iret (ty := .int) dX6_sheet_21 rfl rfl ⟨⟨_, rfl, Or.inl ⟨by grind, rfl, rfl, rfl⟩⟩, hu, f0⟩
    · have zc10 := nx9 c10
      refine g_iload_n dX6_sheet_14 rfl ?_
      refine g_bipush (v := 40) dX6_sheet_15 (by decide) ?_
      refine g_icmp_le (tgt := 22) dX6_sheet_17 (by decide) (fun c11 => ?_) (fun c11 => ?_)
      · refine g_iload_n dX6_sheet_22 rfl ?_
        refine g_if_ge (tgt := 29) dX6_sheet_23 (by decide) (fun c12 => ?_) (fun c12 => ?_)
        · refine g_aload_n dX6_sheet_29 rfl ?_
          refine f_X6_62 rfl rfl dX6_sheet_30 ?_
          refine g_iload_n dX6_sheet_33 rfl ?_
          refine g_iload_n dX6_sheet_34 rfl ?_
          refine g_iload_n dX6_sheet_35 rfl ?_
          refine cl_X6_257 (c := 49) (As := [.int k, .int l, .int n]) rfl (c_X3_renew_s (G := G) hs hu  k l n (by first | trivial | decide | lia | grind) (by first | trivial | decide | lia | grind) (by first | trivial | decide | lia | grind) (by first | trivial | decide | lia | grind) (d)) rfl (by omega) rfl rfl (Nat.le_of_ble_eq_true rfl) dX6_sheet_36 (fun r13 u14 q15 => ?_)
          obtain ⟨rfl, mq15⟩ := q15
          obtain ⟨hu14, gu14, ku140, ku141⟩ := mq15
          have fu14 : fr 49 57 u u14 := fr_tr f0 gu14 (by omega) (by omega)
          refine g_iconst (v := 1) dX6_sheet_39 (by decide) ?_
          exact g_iret (ty := .int) dX6_sheet_40 rfl rfl ⟨⟨_, rfl, Or.inr (Or.inr ⟨by grind, by grind, rfl, ku140, ku141⟩)⟩, hu14, fu14⟩
        · refine g_bipush (v := (-14)) dX6_sheet_26 (by decide) ?_
          exact g_iret (ty := .int) dX6_sheet_28 rfl rfl ⟨⟨_, rfl, Or.inr (Or.inl ⟨by grind, by grind, rfl, rfl, rfl⟩)⟩, hu, f0⟩
      · refine g_iconst (v := (-1)) dX6_sheet_20 (by decide) ?_
        exact g_iret (ty := .int) dX6_sheet_21 rfl rfl ⟨⟨_, rfl, Or.inl ⟨by grind, rfl, rfl, rfl⟩⟩, hu, f0⟩
abbrev q_X7_isSheet_s (u : uk_Mem) (k : Int32) (l : Int32) (r : Option Value) (u' : uk_Mem) : Prop := (∃ x : Int32, r = some (.int x) ∧ (x = 0 ∨ x = 1) ∧ (¬ x = 0 → 0 ≤ k ∧ k ≤ 3 ∧ 0 ≤ l ∧ l ≤ 2) ∧ (x = 0 → k < 0 ∨ 3 < k ∨ l < 0 ∨ 2 < l)) ∧ (u' = u)
set_option maxHeartbeats 4000000 in
set_option maxRecDepth 20000 in
theorem c_X7_isSheet_s {G : uk_D} (hs : uk_Sep G) {u : uk_Mem} (hu : iv u) (k : Int32) (l : Int32) (d : Nat) : uk_Meth G (d + 1) mX7_isSheet [.int k, .int l] u (q_X7_isSheet_s u k l) := by
  refine uk_Meth.of hs (by decide) (Nat.le_of_ble_eq_true rfl) (fun X => ?_)
  refine g_iload_n dX7_isSheet_0 rfl ?_
  refine g_i2l dX7_isSheet_1 ?_
  refine g_lconst (v := 0) dX7_isSheet_2 (by decide) ?_
  refine g_ldc2 (v := 3) k_X7_180 dX7_isSheet_3 ?_
  refine cl_X7_84 (As := [.long k.toInt64, .long 0, .long 3]) rfl (c_X7_in (G := G) hs hu  k 0 3  (d)) rfl (by omega) rfl (Nat.le_of_ble_eq_true rfl) dX7_isSheet_6 (fun r1 u2 q3 => ?_)
  obtain ⟨⟨x4, rfl, tx4, nx4, zx4⟩, mq3⟩ := q3
  rw [mq3]
  refine g_if_eq (tgt := 28) dX7_isSheet_9 (by decide) (fun c5 => ?_) (fun c5 => ?_)
  · have zc5 := zx4 c5
    refine g_iconst (v := 0) dX7_isSheet_28 (by decide) ?_
    exact g_iret (ty := .boolean) dX7_isSheet_29 rfl rfl ⟨⟨0, rfl, Or.inl rfl, fun q => absurd rfl q, fun _ => by first | trivial | lia | grind⟩, rfl⟩
  · have zc5 := nx4 c5
    refine g_iload_n dX7_isSheet_12 rfl ?_
    refine g_i2l dX7_isSheet_13 ?_
    refine g_lconst (v := 0) dX7_isSheet_14 (by decide) ?_
    refine g_ldc2 (v := 2) k_X7_271 dX7_isSheet_15 ?_
    refine cl_X7_84 (As := [.long l.toInt64, .long 0, .long 2]) rfl (c_X7_in (G := G) hs hu  l 0 2  (d)) rfl (by omega) rfl (Nat.le_of_ble_eq_true rfl) dX7_isSheet_18 (fun r6 u7 q8 => ?_)
    obtain ⟨⟨x9, rfl, tx9, nx9, zx9⟩, mq8⟩ := q8
    rw [mq8]
    refine g_if_eq (tgt := 28) dX7_isSheet_21 (by decide) (fun c10 => ?_) (fun c10 => ?_)
    · have zc10 := zx9 c10
      refine g_iconst (v := 0) dX7_isSheet_28 (by decide) ?_
      exact g_iret (ty := .boolean) dX7_isSheet_29 rfl rfl ⟨⟨0, rfl, Or.inl rfl, fun q => absurd rfl q, fun _ => by first | trivial | lia | grind⟩, rfl⟩
    · have zc10 := nx9 c10
      refine g_iconst (v := 1) dX7_isSheet_24 (by decide) ?_
      refine g_goto (tgt := 29) dX7_isSheet_25 (by decide) ?_
      exact g_iret (ty := .boolean) dX7_isSheet_29 rfl rfl ⟨⟨1, rfl, Or.inr rfl, fun _ => by first | trivial | lia | grind, fun q => absurd q (by decide)⟩, rfl⟩
abbrev q_X7_sheet_s (u : uk_Mem) (k : Int32) (l : Int32) (n : Int32) (r : Option Value) (u' : uk_Mem) : Prop := (∃ x : Int32, r = some (.int x) ∧ (((k < 0 ∨ 3 < k ∨ l < 0 ∨ 2 < l ∨ 40 < n) ∧ x = -1 ∧ u'.1 74 = u.1 74 ∧ u'.1 75 = u.1 75) ∨ (¬ (k < 0 ∨ 3 < k ∨ l < 0 ∨ 2 < l ∨ 40 < n) ∧ n < 0 ∧ x = -14 ∧ u'.1 74 = u.1 74 ∧ u'.1 75 = u.1 75) ∨ (¬ (k < 0 ∨ 3 < k ∨ l < 0 ∨ 2 < l ∨ 40 < n) ∧ ¬ n < 0 ∧ x = 1 ∧ u'.1 74 = upd (u.1 74) k.toNatClampNeg l ∧ u'.1 75 = upd (u.1 75) k.toNatClampNeg n))) ∧ (iv u' ∧ fk [74, 75, 76] [] u u')
set_option maxHeartbeats 4000000 in
set_option maxRecDepth 20000 in
theorem c_X7_sheet_s {G : uk_D} (hs : uk_Sep G) {u : uk_Mem} (hu : iv u) (k : Int32) (l : Int32) (n : Int32) (d : Nat) : uk_Meth G (d + 2) mX7_sheet [.ref (uk_ad G 60), .int k, .int l, .int n] u (q_X7_sheet_s u k l n) := by
  refine uk_Meth.of hs (by decide) (Nat.le_of_ble_eq_true rfl) (fun X => ?_)
  have f0 : fk [74, 75, 76] [] u u := fk_rf
  have C74 : u.1 74 = u.1 74 := rfl
  have C75 : u.1 75 = u.1 75 := rfl
  refine g_iload_n dX7_sheet_0 rfl ?_
  refine g_iload_n dX7_sheet_1 rfl ?_
  refine cl_X7_273 (As := [.int k, .int l]) rfl (c_X7_isSheet_s (G := G) hs hu  k l  (d)) rfl (by omega) rfl (Nat.le_of_ble_eq_true rfl) dX7_sheet_2 (fun r1 u2 q3 => ?_)
  obtain ⟨⟨x4, rfl, tx4, nx4, zx4⟩, mq3⟩ := q3
  rw [mq3]
  refine g_if_eq (tgt := 14) dX7_sheet_5 (by decide) (fun c5 => ?_) (fun c5 => ?_)
  · have zc5 := zx4 c5
    refine g_iconst (v := (-1)) dX7_sheet_14 (by decide) ?_
    exact g_iret (ty := .int) dX7_sheet_15 rfl rfl ⟨⟨_, rfl, Or.inl ⟨by grind, rfl, rfl, rfl⟩⟩, hu, f0⟩
  · have zc5 := nx4 c5
    refine g_iload_n dX7_sheet_8 rfl ?_
    refine g_bipush (v := 40) dX7_sheet_9 (by decide) ?_
    refine g_icmp_le (tgt := 16) dX7_sheet_11 (by decide) (fun c6 => ?_) (fun c6 => ?_)
    · refine g_iload_n dX7_sheet_16 rfl ?_
      refine g_if_ge (tgt := 23) dX7_sheet_17 (by decide) (fun c7 => ?_) (fun c7 => ?_)
      · refine g_aload_n dX7_sheet_23 rfl ?_
        refine f_X7_51 rfl rfl dX7_sheet_24 ?_
        refine g_iload_n dX7_sheet_27 rfl ?_
        refine g_iload_n dX7_sheet_28 rfl ?_
        have v8 : vp_in k 4 := uk_vin 4 rfl (by first | decide | lia | grind) (by first | decide | lia | grind)
        have b9 := uk_cl v8
        refine g_iast rfl rfl v8 dX7_sheet_29 ?_
        refine g_mem (fun u10 eu10 => ?_)
        have hu10 : iv u10 := by rw [eu10]; exact iv_upF hu (uk_pick1 _ (by omega))
        have fu10 : fk [74, 75, 76] [] u u10 := by rw [eu10]; exact fk_up f0 (by decide) (fun q => absurd q (by decide))
        have C11 : u10.1 74 = (upd (u.1 74) (k : Int32).toNatClampNeg l) := by rw [eu10, uk_up_self, C74]
        have C12 : u10.1 75 = u.1 75 := by rw [eu10]; exact (uk_up_oc (by decide)).trans C75
        refine g_aload_n dX7_sheet_30 rfl ?_
        refine f_X7_54 rfl rfl dX7_sheet_31 ?_
        refine g_iload_n dX7_sheet_34 rfl ?_
        refine g_iload_n dX7_sheet_35 rfl ?_
        have v13 : vp_in k 4 := uk_vin 4 rfl (by first | decide | lia | grind) (by first | decide | lia | grind)
        have b14 := uk_cl v13
        refine g_iast rfl rfl v13 dX7_sheet_36 ?_
        refine g_mem (fun u15 eu15 => ?_)
        have hu15 : iv u15 := by rw [eu15]; exact iv_up hu10 (uk_pick1 _ (by omega)) (by first | lia | grind) (by first | lia | grind)
        have fu15 : fk [74, 75, 76] [] u u15 := by rw [eu15]; exact fk_up fu10 (by decide) (fun q => absurd q (by decide))
        have C16 : u15.1 74 = (upd (u.1 74) (k : Int32).toNatClampNeg l) := by rw [eu15]; exact (uk_up_oc (by decide)).trans C11
        have C17 : u15.1 75 = (upd (u.1 75) (k : Int32).toNatClampNeg n) := by rw [eu15, uk_up_self, C12]
        refine g_iconst (v := 0) dX7_sheet_37 (by decide) ?_
        refine g_istore dX7_sheet_38 (by decide) ?_
        have L40_17 : ∀ i19 : Int32, 0 ≤ i19 → i19 ≤ 40 → ∀ (u20 : uk_Mem), iv u20 → fk [74, 75, 76] [] u u20 → u20.1 74 = upd (u.1 74) k.toNatClampNeg l → u20.1 75 = upd (u.1 75) k.toNatClampNeg n → uk_G G X mX7_sheet (d + 2) (q_X7_sheet_s u k l n) 40 [(0, .ref (uk_ad G 60)), (1, .int k), (2, .int l), (3, .int n), (4, .int i19)] [] u20 := by
          refine uk_upl 40 ?_
          intro i19 ai19 bi19 ihi19  u20 hu20 fu20 ji190 ji191
          have C74_u20 : u20.1 74 = u20.1 74 := rfl
          have C75_u20 : u20.1 75 = u20.1 75 := rfl
          refine g_iload dX7_sheet_40 rfl ?_
          refine g_bipush (v := 40) dX7_sheet_42 (by decide) ?_
          refine g_icmp_ge (tgt := 66) dX7_sheet_44 (by decide) (fun c21 => ?_) (fun c21 => ?_)
          · refine g_iconst (v := 1) dX7_sheet_66 (by decide) ?_
            exact g_iret (ty := .int) dX7_sheet_67 rfl rfl ⟨⟨_, rfl, Or.inr (Or.inr ⟨by grind, by grind, rfl, (C74_u20.trans ji190), (C75_u20.trans ji191)⟩)⟩, hu20, fu20⟩
          · refine g_aload_n dX7_sheet_47 rfl ?_
            refine f_X7_57 rfl rfl dX7_sheet_48 ?_
            refine g_bipush (v := 40) dX7_sheet_51 (by decide) ?_
            refine g_iload_n dX7_sheet_53 rfl ?_
            refine g_imul dX7_sheet_54 ?_
            refine g_topi (fun x22 ex22 => ?_)
            refine g_iload dX7_sheet_55 rfl ?_
            refine g_iadd dX7_sheet_57 ?_
            refine g_topi (fun x23 ex23 => ?_)
            refine g_iconst (v := 0) dX7_sheet_58 (by decide) ?_
            have v24 : vp_in x23 160 := uk_vin 160 rfl (by first | decide | lia | grind) (by first | decide | lia | grind)
            have b25 := uk_cl v24
            refine g_iast rfl rfl v24 dX7_sheet_59 ?_
            refine g_mem (fun u26 eu26 => ?_)
            have hu26 : iv u26 := by rw [eu26]; exact iv_upF hu20 (uk_pick1 _ (by omega))
            have fu26 : fk [74, 75, 76] [] u u26 := by rw [eu26]; exact fk_up fu20 (by decide) (fun q => absurd q (by decide))
            have C27 : u26.1 74 = u20.1 74 := by rw [eu26]; exact (uk_up_oc (by decide)).trans C74_u20
            have C28 : u26.1 75 = u20.1 75 := by rw [eu26]; exact (uk_up_oc (by decide)).trans C75_u20
            refine g_iinc (v := i19 + 1) dX7_sheet_60 rfl rfl (by decide) ?_
            refine g_goto (tgt := 40) dX7_sheet_63 (by decide) ?_
            refine g_pick (lv' := [(0, .ref (uk_ad G 60)), (1, .int k), (2, .int l), (3, .int n), (4, .int (i19 + 1))]) [0, 1, 2, 3, 4] rfl ?_
            exact ihi19 (by first | lia | grind)  u26 hu26 fu26 (C27.trans ji190) (C28.trans ji191)
        refine g_pick (lv' := [(0, .ref (uk_ad G 60)), (1, .int k), (2, .int l), (3, .int n), (4, .int 0)]) [0, 1, 2, 3, 4] rfl ?_
        exact L40_17 0 (by first | decide | lia | grind) (by first | decide | lia | grind)  u15 hu15 fu15 C16 C17
      · refine g_bipush (v := (-14)) dX7_sheet_20 (by decide) ?_
        exact g_iret (ty := .int) dX7_sheet_22 rfl rfl ⟨⟨_, rfl, Or.inr (Or.inl ⟨by grind, by grind, rfl, rfl, rfl⟩)⟩, hu, f0⟩
    · refine g_iconst (v := (-1)) dX7_sheet_14 (by decide) ?_
      exact g_iret (ty := .int) dX7_sheet_15 rfl rfl ⟨⟨_, rfl, Or.inl ⟨by grind, rfl, rfl, rfl⟩⟩, hu, f0⟩
abbrev q_X3_isNothing_s (u : uk_Mem) (k : Int32) (r : Option Value) (u' : uk_Mem) : Prop := (∃ x : Int32, r = some (.int x) ∧ (x = 0 ∨ x = 1) ∧ (¬ x = 0 → u.1 50 k.toNatClampNeg = -1) ∧ (x = 0 → ¬ u.1 50 k.toNatClampNeg = -1)) ∧ (u' = u)
set_option maxHeartbeats 4000000 in
set_option maxRecDepth 20000 in
theorem c_X3_isNothing_s {G : uk_D} (hs : uk_Sep G) {u : uk_Mem} (hu : iv u) (k : Int32) (p0 : 0 ≤ k) (p1 : k ≤ 3) (d : Nat) : uk_Meth G d mX3_isNothing [.ref (uk_ad G 49), .int k] u (q_X3_isNothing_s u k) := by
  refine uk_Meth.of hs (by decide) (Nat.le_of_ble_eq_true rfl) (fun X => ?_)
  refine g_aload_n dX3_isNothing_0 rfl ?_
  refine f_X3_11 rfl rfl dX3_isNothing_1 ?_
  refine g_iload_n dX3_isNothing_4 rfl ?_
  have v1 : vp_in k 4 := uk_vin 4 rfl (by first | decide | lia | grind) (by first | decide | lia | grind)
  refine g_iald rfl rfl v1 dX3_isNothing_5 ?_
  refine g_topi (fun x2 ex2 => ?_)
  refine g_iconst (v := (-1)) dX3_isNothing_6 (by decide) ?_
  refine g_icmp_ne (tgt := 14) dX3_isNothing_7 (by decide) (fun c3 => ?_) (fun c3 => ?_)
  · refine g_iconst (v := 0) dX3_isNothing_14 (by decide) ?_
    exact g_iret (ty := .boolean) dX3_isNothing_15 rfl rfl ⟨⟨0, rfl, Or.inl rfl, fun q => absurd rfl q, fun _ => by first | trivial | lia | grind⟩, rfl⟩
  · refine g_iconst (v := 1) dX3_isNothing_10 (by decide) ?_
    refine g_goto (tgt := 15) dX3_isNothing_11 (by decide) ?_
    exact g_iret (ty := .boolean) dX3_isNothing_15 rfl rfl ⟨⟨1, rfl, Or.inr rfl, fun _ => by first | trivial | lia | grind, fun q => absurd q (by decide)⟩, rfl⟩
abbrev q_X3_faultAt_s (u : uk_Mem) (k : Int32) (i : Int32) (r : Option Value) (u' : uk_Mem) : Prop := (∃ x : Int32, r = some (.int x) ∧ ((u.1 50 k.toNatClampNeg = -1 ∧ x = 1) ∨ (¬ u.1 50 k.toNatClampNeg = -1 ∧ (i < 0 ∨ u.1 51 k.toNatClampNeg ≤ i) ∧ x = 2) ∨ (¬ u.1 50 k.toNatClampNeg = -1 ∧ 0 ≤ i ∧ i < u.1 51 k.toNatClampNeg ∧ i < 40 ∧ x = 0))) ∧ (u' = u)
set_option maxHeartbeats 4000000 in
set_option maxRecDepth 20000 in
theorem c_X3_faultAt_s {G : uk_D} (hs : uk_Sep G) {u : uk_Mem} (hu : iv u) (k : Int32) (i : Int32) (p0 : 0 ≤ k) (p1 : k ≤ 3) (d : Nat) : uk_Meth G (d + 1) mX3_faultAt [.ref (uk_ad G 49), .int k, .int i] u (q_X3_faultAt_s u k i) := by
  refine uk_Meth.of hs (by decide) (Nat.le_of_ble_eq_true rfl) (fun X => ?_)
  refine g_aload_n dX3_faultAt_0 rfl ?_
  refine g_iload_n dX3_faultAt_1 rfl ?_
  refine cl_X3_23 (c := 49) (As := [.int k]) rfl (c_X3_isNothing_s (G := G) hs hu  k (by first | trivial | decide | lia | grind) (by first | trivial | decide | lia | grind) (d)) rfl (by omega) rfl rfl (Nat.le_of_ble_eq_true rfl) dX3_faultAt_2 (fun r1 u2 q3 => ?_)
  obtain ⟨⟨x4, rfl, tx4, nx4, zx4⟩, mq3⟩ := q3
  rw [mq3]
  refine g_if_eq (tgt := 10) dX3_faultAt_5 (by decide) (fun c5 => ?_) (fun c5 => ?_)
  · have zc5 := zx4 c5
    refine g_iload_n dX3_faultAt_10 rfl ?_
    refine g_if_lt (tgt := 24) dX3_faultAt_11 (by decide) (fun c6 => ?_) (fun c6 => ?_)
    · refine g_iconst (v := 2) dX3_faultAt_24 (by decide) ?_
      refine g_goto (tgt := 29) dX3_faultAt_25 (by decide) ?_
      exact g_iret (ty := .int) dX3_faultAt_29 rfl rfl ⟨⟨_, rfl, by first | trivial | lia | grind⟩, rfl⟩
    · refine g_iload_n dX3_faultAt_14 rfl ?_
      refine g_aload_n dX3_faultAt_15 rfl ?_
      refine f_X3_15 rfl rfl dX3_faultAt_16 ?_
      refine g_iload_n dX3_faultAt_19 rfl ?_
      have v7 : vp_in k 4 := uk_vin 4 rfl (by first | decide | lia | grind) (by first | decide | lia | grind)
      refine g_iald rfl rfl v7 dX3_faultAt_20 ?_
      refine g_topi (fun x8 ex8 => ?_)
      have bx8 := uk_cl v7
      have rx8 : 0 ≤ x8 ∧ x8 ≤ 40 := by rw [ex8]; exact iv_at hu _ _ (uk_pick1 _ (by omega))
      refine g_icmp_lt (tgt := 28) dX3_faultAt_21 (by decide) (fun c9 => ?_) (fun c9 => ?_)
      · refine g_iconst (v := 0) dX3_faultAt_28 (by decide) ?_
        exact g_iret (ty := .int) dX3_faultAt_29 rfl rfl ⟨⟨_, rfl, by first | trivial | lia | grind⟩, rfl⟩
      · refine g_iconst (v := 2) dX3_faultAt_24 (by decide) ?_
        refine g_goto (tgt := 29) dX3_faultAt_25 (by decide) ?_
        exact g_iret (ty := .int) dX3_faultAt_29 rfl rfl ⟨⟨_, rfl, by first | trivial | lia | grind⟩, rfl⟩
  · have zc5 := nx4 c5
    refine g_iconst (v := 1) dX3_faultAt_8 (by decide) ?_
    exact g_iret (ty := .int) dX3_faultAt_9 rfl rfl ⟨⟨_, rfl, by first | trivial | lia | grind⟩, rfl⟩
abbrev q_X3_put_s (u : uk_Mem) (k : Int32) (i : Int32) (v : Int32) (r : Option Value) (u' : uk_Mem) : Prop := (r = none) ∧ (iv u' ∧ fr 49 57 u u' ∧ u'.1 50 = u.1 50 ∧ u'.1 51 = u.1 51)
set_option maxHeartbeats 4000000 in
set_option maxRecDepth 20000 in
theorem c_X3_put_s {G : uk_D} (hs : uk_Sep G) {u : uk_Mem} (hu : iv u) (k : Int32) (i : Int32) (v : Int32) (p0 : 0 ≤ k) (p1 : k ≤ 3) (p2 : 0 ≤ i) (p3 : i < 40) (d : Nat) : uk_Meth G d mX3_put [.ref (uk_ad G 49), .int k, .int i, .int v] u (q_X3_put_s u k i v) := by
  refine uk_Meth.of hs (by decide) (Nat.le_of_ble_eq_true rfl) (fun X => ?_)
  have f0 : fr 49 57 u u := fr_rf
  have C50 : u.1 50 = u.1 50 := rfl
  have C51 : u.1 51 = u.1 51 := rfl
  refine g_aload_n dX3_put_0 rfl ?_
  refine f_X3_11 rfl rfl dX3_put_1 ?_
  refine g_iload_n dX3_put_4 rfl ?_
  have v1 : vp_in k 4 := uk_vin 4 rfl (by first | decide | lia | grind) (by first | decide | lia | grind)
  refine g_iald rfl rfl v1 dX3_put_5 ?_
  refine g_topi (fun x2 ex2 => ?_)
  have px2 : x2 = (u.1 50) (k : Int32).toNatClampNeg := ex2.trans (congrFun C50 _)
  by_cases c3 : x2 = 0
  · refine g_lookup (off := 26) (tgt := 32) dX3_put_6 (by decide) (by rw [c3]; rfl) (by decide) ?_
    refine g_aload_n dX3_put_32 rfl ?_
    refine f_X3_20 rfl rfl dX3_put_33 ?_
    refine g_iload_n dX3_put_36 rfl ?_
    have v4 : vp_in k 4 := uk_vin 4 rfl (by first | decide | lia | grind) (by first | decide | lia | grind)
    refine g_aald rfl rfl v4 dX3_put_37 ?_
    have b5 := uk_cl v4
    refine g_iload_n dX3_put_38 rfl ?_
    refine g_iload_n dX3_put_39 rfl ?_
    refine g_i2b dX3_put_40 ?_
    refine g_topi (fun x6 ex6 => ?_)
    have v7 : vp_in i 40 := uk_vin 40 rfl (by first | decide | lia | grind) (by first | decide | lia | grind)
    have b8 := uk_cl v7
    refine g_iast (ks_kind b5) (ks_len b5) v7 dX3_put_41 ?_
    refine g_mem (fun u9 eu9 => ?_)
    have hu9 : iv u9 := by rw [eu9]; exact iv_upF hu (ks_rg b5 _ (by omega))
    have fu9 : fr 49 57 u u9 := by rw [eu9]; exact fr_up f0 (by omega) (by omega)
    have C10 : u9.1 50 = u.1 50 := by rw [eu9]; exact (uk_up_oc (by omega)).trans C50
    have C11 : u9.1 51 = u.1 51 := by rw [eu9]; exact (uk_up_oc (by omega)).trans C51
    refine g_goto (tgt := 67) dX3_put_42 (by decide) ?_
    exact g_vret dX3_put_67 rfl ⟨rfl, hu9, fu9, C10, C11⟩
  by_cases c12 : x2 = 1
  · refine g_lookup (off := 39) (tgt := 45) dX3_put_6 (by decide) (by rw [c12]; rfl) (by decide) ?_
    refine g_aload_n dX3_put_45 rfl ?_
    refine f_X3_20 rfl rfl dX3_put_46 ?_
    refine g_iload_n dX3_put_49 rfl ?_
    have v13 : vp_in k 4 := uk_vin 4 rfl (by first | decide | lia | grind) (by first | decide | lia | grind)
    refine g_aald rfl rfl v13 dX3_put_50 ?_
    have b14 := uk_cl v13
    refine g_iload_n dX3_put_51 rfl ?_
    refine g_iload_n dX3_put_52 rfl ?_
    refine g_i2s dX3_put_53 ?_
    refine g_topi (fun x15 ex15 => ?_)
    have v16 : vp_in i 40 := uk_vin 40 rfl (by first | decide | lia | grind) (by first | decide | lia | grind)
    have b17 := uk_cl v16
    refine g_iast (ks_kind b14) (ks_len b14) v16 dX3_put_54 ?_
    refine g_mem (fun u18 eu18 => ?_)
    have hu18 : iv u18 := by rw [eu18]; exact iv_upF hu (ks_rg b14 _ (by omega))
    have fu18 : fr 49 57 u u18 := by rw [eu18]; exact fr_up f0 (by omega) (by omega)
    have C19 : u18.1 50 = u.1 50 := by rw [eu18]; exact (uk_up_oc (by omega)).trans C50
    have C20 : u18.1 51 = u.1 51 := by rw [eu18]; exact (uk_up_oc (by omega)).trans C51
    refine g_goto (tgt := 67) dX3_put_55 (by decide) ?_
    exact g_vret dX3_put_67 rfl ⟨rfl, hu18, fu18, C19, C20⟩
  refine g_lookup (off := 52) (tgt := 58) dX3_put_6 (by decide) (by show Op.lookupswitch.offset [(0, 26), (1, 39)] 52 _ = _; rw [lv_osw (k := 0) (a := 0) c3 rfl]; rw [lv_osw (k := 1) (a := 1) c12 rfl]; rfl) (by decide) ?_
  refine g_aload_n dX3_put_58 rfl ?_
  refine f_X3_20 rfl rfl dX3_put_59 ?_
  refine g_iload_n dX3_put_62 rfl ?_
  have v21 : vp_in k 4 := uk_vin 4 rfl (by first | decide | lia | grind) (by first | decide | lia | grind)
  refine g_aald rfl rfl v21 dX3_put_63 ?_
  have b22 := uk_cl v21
  refine g_iload_n dX3_put_64 rfl ?_
  refine g_iload_n dX3_put_65 rfl ?_
  have v23 : vp_in i 40 := uk_vin 40 rfl (by first | decide | lia | grind) (by first | decide | lia | grind)
  have b24 := uk_cl v23
  refine g_iast (ks_kind b22) (ks_len b22) v23 dX3_put_66 ?_
  refine g_mem (fun u25 eu25 => ?_)
  have hu25 : iv u25 := by rw [eu25]; exact iv_upF hu (ks_rg b22 _ (by omega))
  have fu25 : fr 49 57 u u25 := by rw [eu25]; exact fr_up f0 (by omega) (by omega)
  have C26 : u25.1 50 = u.1 50 := by rw [eu25]; exact (uk_up_oc (by omega)).trans C50
  have C27 : u25.1 51 = u.1 51 := by rw [eu25]; exact (uk_up_oc (by omega)).trans C51
  exact g_vret dX3_put_67 rfl ⟨rfl, hu25, fu25, C26, C27⟩
abbrev q_X6_lay_s (u : uk_Mem) (k : Int32) (i : Int32) (v : Int32) (r : Option Value) (u' : uk_Mem) : Prop := (∃ x : Int32, r = some (.int x) ∧ (((k < 0 ∨ 3 < k) ∧ x = -1) ∨ (0 ≤ k ∧ k ≤ 3 ∧ u.1 50 k.toNatClampNeg = -1 ∧ x = -11) ∨ (0 ≤ k ∧ k ≤ 3 ∧ ¬ u.1 50 k.toNatClampNeg = -1 ∧ (i < 0 ∨ u.1 51 k.toNatClampNeg ≤ i) ∧ x = -12) ∨ (0 ≤ k ∧ k ≤ 3 ∧ ¬ u.1 50 k.toNatClampNeg = -1 ∧ 0 ≤ i ∧ i < u.1 51 k.toNatClampNeg ∧ x = 1))) ∧ (iv u' ∧ fr 49 57 u u' ∧ u'.1 50 = u.1 50 ∧ u'.1 51 = u.1 51)
set_option maxHeartbeats 4000000 in
set_option maxRecDepth 20000 in
theorem c_X6_lay_s {G : uk_D} (hs : uk_Sep G) {u : uk_Mem} (hu : iv u) (k : Int32) (i : Int32) (v : Int32) (d : Nat) : uk_Meth G (d + 2) mX6_lay [.ref (uk_ad G 0), .int k, .int i, .int v] u (q_X6_lay_s u k i v) := by
  refine uk_Meth.of hs (by decide) (Nat.le_of_ble_eq_true rfl) (fun X => ?_)
  have f0 : fr 49 57 u u := fr_rf
  have C50 : u.1 50 = u.1 50 := rfl
  have C51 : u.1 51 = u.1 51 := rfl
  refine g_iload_n dX6_lay_0 rfl ?_
  refine cl_X6_251 (As := [.int k]) rfl (c_X6_isSheet_s (G := G) hs hu  k  (d + 1)) rfl (by omega) rfl (Nat.le_of_ble_eq_true rfl) dX6_lay_1 (fun r1 u2 q3 => ?_)
  obtain ⟨⟨x4, rfl, tx4, nx4, zx4⟩, mq3⟩ := q3
  rw [mq3]
  refine g_if_ne (tgt := 9) dX6_lay_4 (by decide) (fun c5 => ?_) (fun c5 => ?_)
  · have zc5 := nx4 c5
    refine g_aload_n dX6_lay_9 rfl ?_
    refine f_X6_62 rfl rfl dX6_lay_10 ?_
    refine g_iload_n dX6_lay_13 rfl ?_
    refine g_iload_n dX6_lay_14 rfl ?_
    refine cl_X6_261 (c := 49) (As := [.int k, .int i]) rfl (c_X3_faultAt_s (G := G) hs hu  k i (by first | trivial | decide | lia | grind) (by first | trivial | decide | lia | grind) (d)) rfl (by omega) rfl rfl (Nat.le_of_ble_eq_true rfl) dX6_lay_15 (fun r6 u7 q8 => ?_)
    obtain ⟨⟨x9, rfl, tx9⟩, mq8⟩ := q8
    rw [mq8]
    refine g_istore dX6_lay_18 (by decide) ?_
    refine g_iload dX6_lay_20 rfl ?_
    refine g_if_eq (tgt := 31) dX6_lay_22 (by decide) (fun c10 => ?_) (fun c10 => ?_)
    · refine g_aload_n dX6_lay_31 rfl ?_
      refine f_X6_62 rfl rfl dX6_lay_32 ?_
      refine g_iload_n dX6_lay_35 rfl ?_
      refine g_iload_n dX6_lay_36 rfl ?_
      refine g_iload_n dX6_lay_37 rfl ?_
      refine cl_X6_265 (c := 49) (As := [.int k, .int i, .int v]) rfl (c_X3_put_s (G := G) hs hu  k i v (by first | trivial | decide | lia | grind) (by first | trivial | decide | lia | grind) (by first | trivial | decide | lia | grind) (by first | trivial | decide | lia | grind) (d + 1)) rfl (by omega) rfl rfl (Nat.le_of_ble_eq_true rfl) dX6_lay_38 (fun r11 u12 q13 => ?_)
      obtain ⟨rfl, mq13⟩ := q13
      obtain ⟨hu12, gu12, ku120, ku121⟩ := mq13
      have fu12 : fr 49 57 u u12 := fr_tr f0 gu12 (by omega) (by omega)
      have C14 : u12.1 50 = u.1 50 := ku120.trans C50
      have C15 : u12.1 51 = u.1 51 := ku121.trans C51
      refine g_iconst (v := 1) dX6_lay_41 (by decide) ?_
      exact g_iret (ty := .int) dX6_lay_42 rfl rfl ⟨⟨_, rfl, by first | trivial | lia | grind⟩, hu12, fu12, C14, C15⟩
    · refine g_bipush (v := (-10)) dX6_lay_25 (by decide) ?_
      refine g_iload dX6_lay_27 rfl ?_
      refine g_isub dX6_lay_29 ?_
      refine g_topi (fun x16 ex16 => ?_)
      exact g_iret (ty := .int) dX6_lay_30 rfl rfl ⟨⟨_, rfl, by first | trivial | lia | grind⟩, hu, f0, C50, C51⟩
  · have zc5 := zx4 c5
    refine g_iconst (v := (-1)) dX6_lay_7 (by decide) ?_
    exact g_iret (ty := .int) dX6_lay_8 rfl rfl ⟨⟨_, rfl, by first | trivial | lia | grind⟩, hu, f0, C50, C51⟩
abbrev q_X7_lay_s (u : uk_Mem) (k : Int32) (i : Int32) (v : Int32) (r : Option Value) (u' : uk_Mem) : Prop := (∃ x : Int32, r = some (.int x) ∧ (((k < 0 ∨ 3 < k) ∧ x = -1) ∨ (0 ≤ k ∧ k ≤ 3 ∧ u.1 74 k.toNatClampNeg = -4 ∧ x = -11) ∨ (0 ≤ k ∧ k ≤ 3 ∧ ¬ u.1 74 k.toNatClampNeg = -4 ∧ (i < 0 ∨ u.1 75 k.toNatClampNeg ≤ i) ∧ x = -12) ∨ (0 ≤ k ∧ k ≤ 3 ∧ ¬ u.1 74 k.toNatClampNeg = -4 ∧ 0 ≤ i ∧ i < u.1 75 k.toNatClampNeg ∧ x = 1))) ∧ (iv u' ∧ fk [76] [] u u')
set_option maxHeartbeats 4000000 in
set_option maxRecDepth 20000 in
theorem c_X7_lay_s {G : uk_D} (hs : uk_Sep G) {u : uk_Mem} (hu : iv u) (k : Int32) (i : Int32) (v : Int32) (d : Nat) : uk_Meth G (d + 2) mX7_lay [.ref (uk_ad G 60), .int k, .int i, .int v] u (q_X7_lay_s u k i v) := by
  refine uk_Meth.of hs (by decide) (Nat.le_of_ble_eq_true rfl) (fun X => ?_)
  have f0 : fk [76] [] u u := fk_rf
  refine g_iload_n dX7_lay_0 rfl ?_
  refine g_iconst (v := 0) dX7_lay_1 (by decide) ?_
  refine cl_X7_273 (As := [.int k, .int 0]) rfl (c_X7_isSheet_s (G := G) hs hu  k 0  (d)) rfl (by omega) rfl (Nat.le_of_ble_eq_true rfl) dX7_lay_2 (fun r1 u2 q3 => ?_)
  obtain ⟨⟨x4, rfl, tx4, nx4, zx4⟩, mq3⟩ := q3
  rw [mq3]
  refine g_if_ne (tgt := 10) dX7_lay_5 (by decide) (fun c5 => ?_) (fun c5 => ?_)
  · have zc5 := nx4 c5
    refine g_aload_n dX7_lay_10 rfl ?_
    refine f_X7_51 rfl rfl dX7_lay_11 ?_
    refine g_iload_n dX7_lay_14 rfl ?_
    have v6 : vp_in k 4 := uk_vin 4 rfl (by first | decide | lia | grind) (by first | decide | lia | grind)
    refine g_iald rfl rfl v6 dX7_lay_15 ?_
    refine g_topi (fun x7 ex7 => ?_)
    refine g_bipush (v := (-4)) dX7_lay_16 (by decide) ?_
    refine g_icmp_ne (tgt := 24) dX7_lay_18 (by decide) (fun c8 => ?_) (fun c8 => ?_)
    · refine g_iload_n dX7_lay_24 rfl ?_
      refine g_i2l dX7_lay_25 ?_
      refine g_lconst (v := 0) dX7_lay_26 (by decide) ?_
      refine g_aload_n dX7_lay_27 rfl ?_
      refine f_X7_54 rfl rfl dX7_lay_28 ?_
      refine g_iload_n dX7_lay_31 rfl ?_
      have v9 : vp_in k 4 := uk_vin 4 rfl (by first | decide | lia | grind) (by first | decide | lia | grind)
      refine g_iald rfl rfl v9 dX7_lay_32 ?_
      refine g_topi (fun x10 ex10 => ?_)
      have bx10 := uk_cl v9
      have rx10 : 0 ≤ x10 ∧ x10 ≤ 40 := by rw [ex10]; exact iv_at hu _ _ (uk_pick1 _ (by omega))
      refine g_iconst (v := 1) dX7_lay_33 (by decide) ?_
      refine g_isub dX7_lay_34 ?_
      refine g_topi (fun x11 ex11 => ?_)
      refine g_i2l dX7_lay_35 ?_
      refine cl_X7_84 (As := [.long i.toInt64, .long 0, .long x11.toInt64]) rfl (c_X7_in (G := G) hs hu  i 0 x11  (d + 1)) rfl (by omega) rfl (Nat.le_of_ble_eq_true rfl) dX7_lay_36 (fun r12 u13 q14 => ?_)
      obtain ⟨⟨x15, rfl, tx15, nx15, zx15⟩, mq14⟩ := q14
      rw [mq14]
      refine g_if_ne (tgt := 45) dX7_lay_39 (by decide) (fun c16 => ?_) (fun c16 => ?_)
      · have zc16 := nx15 c16
        refine g_aload_n dX7_lay_45 rfl ?_
        refine f_X7_57 rfl rfl dX7_lay_46 ?_
        refine g_bipush (v := 40) dX7_lay_49 (by decide) ?_
        refine g_iload_n dX7_lay_51 rfl ?_
        refine g_imul dX7_lay_52 ?_
        refine g_topi (fun x17 ex17 => ?_)
        refine g_iload_n dX7_lay_53 rfl ?_
        refine g_iadd dX7_lay_54 ?_
        refine g_topi (fun x18 ex18 => ?_)
        refine g_aload_n dX7_lay_55 rfl ?_
        refine f_X7_51 rfl rfl dX7_lay_56 ?_
        refine g_iload_n dX7_lay_59 rfl ?_
        have v19 : vp_in k 4 := uk_vin 4 rfl (by first | decide | lia | grind) (by first | decide | lia | grind)
        refine g_iald rfl rfl v19 dX7_lay_60 ?_
        refine g_topi (fun x20 ex20 => ?_)
        refine g_if_ne (tgt := 69) dX7_lay_61 (by decide) (fun c21 => ?_) (fun c21 => ?_)
        · refine g_aload_n dX7_lay_69 rfl ?_
          refine f_X7_51 rfl rfl dX7_lay_70 ?_
          refine g_iload_n dX7_lay_73 rfl ?_
          have v22 : vp_in k 4 := uk_vin 4 rfl (by first | decide | lia | grind) (by first | decide | lia | grind)
          refine g_iald rfl rfl v22 dX7_lay_74 ?_
          refine g_topi (fun x23 ex23 => ?_)
          refine g_iconst (v := 1) dX7_lay_75 (by decide) ?_
          refine g_icmp_ne (tgt := 84) dX7_lay_76 (by decide) (fun c24 => ?_) (fun c24 => ?_)
          · refine g_iload_n dX7_lay_84 rfl ?_
            have v25 : vp_in x18 160 := uk_vin 160 rfl (by first | decide | lia | grind) (by first | decide | lia | grind)
            have b26 := uk_cl v25
            refine g_iast rfl rfl v25 dX7_lay_85 ?_
            refine g_mem (fun u27 eu27 => ?_)
            have hu27 : iv u27 := by rw [eu27]; exact iv_upF hu (uk_pick1 _ (by omega))
            have fu27 : fk [76] [] u u27 := by rw [eu27]; exact fk_up f0 (by decide) (fun q => absurd q (by decide))
            refine g_iconst (v := 1) dX7_lay_86 (by decide) ?_
            exact g_iret (ty := .int) dX7_lay_87 rfl rfl ⟨⟨_, rfl, by first | trivial | lia | grind⟩, hu27, fu27⟩
          · refine g_iload_n dX7_lay_79 rfl ?_
            refine g_i2s dX7_lay_80 ?_
            refine g_topi (fun x28 ex28 => ?_)
            refine g_goto (tgt := 85) dX7_lay_81 (by decide) ?_
            have v29 : vp_in x18 160 := uk_vin 160 rfl (by first | decide | lia | grind) (by first | decide | lia | grind)
            have b30 := uk_cl v29
            refine g_iast rfl rfl v29 dX7_lay_85 ?_
            refine g_mem (fun u31 eu31 => ?_)
            have hu31 : iv u31 := by rw [eu31]; exact iv_upF hu (uk_pick1 _ (by omega))
            have fu31 : fk [76] [] u u31 := by rw [eu31]; exact fk_up f0 (by decide) (fun q => absurd q (by decide))
            refine g_iconst (v := 1) dX7_lay_86 (by decide) ?_
            exact g_iret (ty := .int) dX7_lay_87 rfl rfl ⟨⟨_, rfl, by first | trivial | lia | grind⟩, hu31, fu31⟩
        · refine g_iload_n dX7_lay_64 rfl ?_
          refine g_i2b dX7_lay_65 ?_
          refine g_topi (fun x32 ex32 => ?_)
          refine g_goto (tgt := 85) dX7_lay_66 (by decide) ?_
          have v33 : vp_in x18 160 := uk_vin 160 rfl (by first | decide | lia | grind) (by first | decide | lia | grind)
          have b34 := uk_cl v33
          refine g_iast rfl rfl v33 dX7_lay_85 ?_
          refine g_mem (fun u35 eu35 => ?_)
          have hu35 : iv u35 := by rw [eu35]; exact iv_upF hu (uk_pick1 _ (by omega))
          have fu35 : fk [76] [] u u35 := by rw [eu35]; exact fk_up f0 (by decide) (fun q => absurd q (by decide))
          refine g_iconst (v := 1) dX7_lay_86 (by decide) ?_
          exact g_iret (ty := .int) dX7_lay_87 rfl rfl ⟨⟨_, rfl, by first | trivial | lia | grind⟩, hu35, fu35⟩
      · have zc16 := zx15 c16
        refine g_bipush (v := (-12)) dX7_lay_42 (by decide) ?_
        exact g_iret (ty := .int) dX7_lay_44 rfl rfl ⟨⟨_, rfl, by first | trivial | lia | grind⟩, hu, f0⟩
    · refine g_bipush (v := (-11)) dX7_lay_21 (by decide) ?_
      exact g_iret (ty := .int) dX7_lay_23 rfl rfl ⟨⟨_, rfl, by first | trivial | lia | grind⟩, hu, f0⟩
  · have zc5 := zx4 c5
    refine g_iconst (v := (-1)) dX7_lay_8 (by decide) ?_
    exact g_iret (ty := .int) dX7_lay_9 rfl rfl ⟨⟨_, rfl, by first | trivial | lia | grind⟩, hu, f0⟩
abbrev q_X6_loss_s (u : uk_Mem) (m : Int32) (r : Option Value) (u' : uk_Mem) : Prop := (∃ x : Int32, r = some (.int x) ∧ True) ∧ (iv u' ∧ fr 41 58 u u' ∧ u'.1 50 = u.1 50 ∧ u'.1 51 = u.1 51)
set_option maxHeartbeats 4000000 in
set_option maxRecDepth 20000 in
theorem c_X6_loss_s {G : uk_D} (hs : uk_Sep G) {u : uk_Mem} (hu : iv u) (m : Int32) (d : Nat) : uk_Meth G (d + 3) mX6_loss [.ref (uk_ad G 0), .int m] u (q_X6_loss_s u m) := by
  refine uk_Meth.of hs (by decide) (Nat.le_of_ble_eq_true rfl) (fun X => ?_)
  have f0 : fr 41 58 u u := fr_rf
  have C50 : u.1 50 = u.1 50 := rfl
  have C51 : u.1 51 = u.1 51 := rfl
  refine g_aload_n dX6_loss_0 rfl ?_
  refine f_X6_10 rfl rfl dX6_loss_1 ?_
  refine g_iload_n dX6_loss_4 rfl ?_
  refine cl_X6_118 (c := 13) (As := [.int m]) rfl (c_X0_hasStuff (G := G) hs hu uk_isK13 m  (d + 2)) rfl (by omega) rfl rfl (Nat.le_of_ble_eq_true rfl) dX6_loss_5 (fun r1 u2 q3 => ?_)
  obtain ⟨⟨x4, rfl, tx4, nx4, zx4⟩, mq3⟩ := q3
  rw [mq3]
  refine g_if_ne (tgt := 13) dX6_loss_8 (by decide) (fun c5 => ?_) (fun c5 => ?_)
  · have zc5 := nx4 c5
    refine g_aload_n dX6_loss_13 rfl ?_
    refine f_X6_48 rfl rfl dX6_loss_14 ?_
    refine g_aload_n dX6_loss_17 rfl ?_
    refine f_X6_10 rfl rfl dX6_loss_18 ?_
    refine g_iload_n dX6_loss_21 rfl ?_
    refine g_bipush (v := 127) dX6_loss_22 (by decide) ?_
    refine cl_X6_177 (c := 41) (As := [.ref (uk_ad G 13), .int m, .int 127]) rfl (c_X1_grind (G := G) hs hu  m 127 (by first | trivial | decide | lia | grind) (by first | trivial | decide | lia | grind) (d)) rfl (by omega) rfl rfl (Nat.le_of_ble_eq_true rfl) dX6_loss_24 (fun r6 u7 q8 => ?_)
    obtain ⟨rfl, mq8⟩ := q8
    obtain ⟨hu7, gu7⟩ := mq8
    have fu7 : fr 41 58 u u7 := fr_tr f0 gu7 (by omega) (by omega)
    have C9 : u7.1 50 = u.1 50 := (gu7.1 50 (by omega)).trans C50
    have C10 : u7.1 51 = u.1 51 := (gu7.1 51 (by omega)).trans C51
    refine g_iconst (v := 0) dX6_loss_27 (by decide) ?_
    refine g_istore_n dX6_loss_28 (by decide) ?_
    refine g_iconst (v := 0) dX6_loss_29 (by decide) ?_
    refine g_istore_n dX6_loss_30 (by decide) ?_
    have L31_10 : ∀ i13 : Int32, 0 ≤ i13 → i13 ≤ 128 → ∀ (w12 : Int32), uk_G G X mX6_loss (d + 3) (q_X6_loss_s u m) 31 [(0, .ref (uk_ad G 0)), (1, .int m), (2, .int w12), (3, .int i13)] [] u7 := by
      refine uk_upl 128 ?_
      intro i13 ai13 bi13 ihi13 w12
      refine g_iload_n dX6_loss_31 rfl ?_
      refine g_aload_n dX6_loss_32 rfl ?_
      refine f_X6_48 rfl rfl dX6_loss_33 ?_
      refine f_X6_184 rfl rfl dX6_loss_36 ?_
      refine g_topi (fun x14 ex14 => ?_)
      have rx14 : 0 ≤ x14 ∧ x14 ≤ 128 := by rw [ex14]; exact iv_at hu7 _ _ rfl
      have s15 : u7.1 41 1 = x14 := ex14.symm
      refine g_icmp_ge (tgt := 88) dX6_loss_39 (by decide) (fun c16 => ?_) (fun c16 => ?_)
      · refine g_aload_n dX6_loss_88 rfl ?_
        refine f_X6_10 rfl rfl dX6_loss_89 ?_
        refine g_iload_n dX6_loss_92 rfl ?_
        refine g_aload_n dX6_loss_93 rfl ?_
        refine f_X6_66 rfl rfl dX6_loss_94 ?_
        refine cl_X6_173 (c := 13) (As := [.int m, .ref (uk_ad G 57)]) rfl (c_X0_rawCost (G := G) hs hu7 uk_isK13 m (by first | trivial | decide | lia | grind) (by first | trivial | decide | lia | grind) (d)) rfl (by omega) rfl rfl (Nat.le_of_ble_eq_true rfl) dX6_loss_97 (fun r17 u18 q19 => ?_)
        obtain ⟨⟨x20, rfl, tx20⟩, mq19⟩ := q19
        obtain ⟨hu18, gu18⟩ := mq19
        have fu18 : fr 41 58 u u18 := fr_tr fu7 gu18 (by omega) (by omega)
        have C21 : u18.1 50 = u.1 50 := (gu18.1 50 (by omega)).trans C9
        have C22 : u18.1 51 = u.1 51 := (gu18.1 51 (by omega)).trans C10
        have s23 : u18.1 41 1 = x14 := (fr_at gu18 (by omega)).trans s15
        refine g_iload_n dX6_loss_100 rfl ?_
        refine g_isub dX6_loss_101 ?_
        refine g_topi (fun x24 ex24 => ?_)
        exact g_iret (ty := .int) dX6_loss_102 rfl rfl ⟨⟨_, rfl, by first | trivial | lia | grind⟩, hu18, fu18, C21, C22⟩
      · refine g_aload_n dX6_loss_42 rfl ?_
        refine f_X6_48 rfl rfl dX6_loss_43 ?_
        refine f_X6_185 rfl rfl dX6_loss_46 ?_
        refine g_iload_n dX6_loss_49 rfl ?_
        have v25 : vp_in i13 128 := uk_vin 128 rfl (by first | decide | lia | grind) (by first | decide | lia | grind)
        refine g_iald rfl rfl v25 dX6_loss_50 ?_
        refine g_topi (fun x26 ex26 => ?_)
        have bx26 := uk_cl v25
        have rx26 : 0 ≤ x26 ∧ x26 ≤ 7 := by rw [ex26]; exact iv_at hu7 _ _ (uk_pick1 _ (by omega))
        refine g_istore dX6_loss_51 (by decide) ?_
        refine g_iload_n dX6_loss_53 rfl ?_
        refine g_aload_n dX6_loss_54 rfl ?_
        refine f_X6_10 rfl rfl dX6_loss_55 ?_
        refine g_iload dX6_loss_58 rfl ?_
        refine cl_X6_122 (c := 13) (As := [.int x26]) rfl (c_X0_isMade (G := G) hs hu7 uk_isK13 x26 (by first | trivial | decide | lia | grind) (by first | trivial | decide | lia | grind) (d + 2)) rfl (by omega) rfl rfl (Nat.le_of_ble_eq_true rfl) dX6_loss_60 (fun r27 u28 q29 => ?_)
        obtain ⟨⟨x30, rfl, tx30, nx30, zx30⟩, mq29⟩ := q29
        rw [mq29]
        refine g_if_eq (tgt := 70) dX6_loss_63 (by decide) (fun c31 => ?_) (fun c31 => ?_)
        · have zc31 := zx30 c31
          refine g_aload_n dX6_loss_70 rfl ?_
          refine f_X6_10 rfl rfl dX6_loss_71 ?_
          refine f_X6_137 rfl rfl dX6_loss_74 ?_
          refine g_iload dX6_loss_77 rfl ?_
          have v32 : vp_in x26 8 := uk_vin 8 rfl (by first | decide | lia | grind) (by first | decide | lia | grind)
          refine g_iald rfl rfl v32 dX6_loss_79 ?_
          refine g_topi (fun x33 ex33 => ?_)
          refine g_iadd dX6_loss_80 ?_
          refine g_topi (fun x34 ex34 => ?_)
          refine g_istore_n dX6_loss_81 (by decide) ?_
          refine g_iinc (v := i13 + 1) dX6_loss_82 rfl rfl (by decide) ?_
          refine g_goto (tgt := 31) dX6_loss_85 (by decide) ?_
          refine g_pick (lv' := [(0, .ref (uk_ad G 0)), (1, .int m), (2, .int x34), (3, .int (i13 + 1))]) [0, 1, 2, 3] rfl ?_
          exact ihi13 (by first | lia | grind) x34 
        · have zc31 := nx30 c31
          refine g_iconst (v := 0) dX6_loss_66 (by decide) ?_
          refine g_goto (tgt := 80) dX6_loss_67 (by decide) ?_
          refine g_iadd dX6_loss_80 ?_
          refine g_topi (fun x35 ex35 => ?_)
          refine g_istore_n dX6_loss_81 (by decide) ?_
          refine g_iinc (v := i13 + 1) dX6_loss_82 rfl rfl (by decide) ?_
          refine g_goto (tgt := 31) dX6_loss_85 (by decide) ?_
          refine g_pick (lv' := [(0, .ref (uk_ad G 0)), (1, .int m), (2, .int x35), (3, .int (i13 + 1))]) [0, 1, 2, 3] rfl ?_
          exact ihi13 (by first | lia | grind) x35 
    refine g_pick (lv' := [(0, .ref (uk_ad G 0)), (1, .int m), (2, .int 0), (3, .int 0)]) [0, 1, 2, 3] rfl ?_
    exact L31_10 0 (by first | decide | lia | grind) (by first | decide | lia | grind) 0 
  · have zc5 := zx4 c5
    refine g_iconst (v := (-1)) dX6_loss_11 (by decide) ?_
    exact g_iret (ty := .int) dX6_loss_12 rfl rfl ⟨⟨_, rfl, by first | trivial | lia | grind⟩, hu, f0, C50, C51⟩
abbrev q_X6_fitTogether_s (u : uk_Mem) (a : Int32) (b : Int32) (r : Option Value) (u' : uk_Mem) : Prop := (∃ x : Int32, r = some (.int x) ∧ (x = 0 ∨ x = 1) ∧ (¬ x = 0 → True) ∧ (x = 0 → True)) ∧ (iv u' ∧ fr 41 59 u u' ∧ u'.1 50 = u.1 50 ∧ u'.1 51 = u.1 51)
set_option maxHeartbeats 4000000 in
set_option maxRecDepth 20000 in
theorem c_X6_fitTogether_s {G : uk_D} (hs : uk_Sep G) {u : uk_Mem} (hu : iv u) (a : Int32) (b : Int32) (p0 : 0 ≤ a) (p1 : a ≤ 7) (p2 : 0 ≤ b) (p3 : b ≤ 7) (d : Nat) : uk_Meth G (d + 3) mX6_fitTogether [.ref (uk_ad G 0), .int a, .int b] u (q_X6_fitTogether_s u a b) := by
  refine uk_Meth.of hs (by decide) (Nat.le_of_ble_eq_true rfl) (fun X => ?_)
  have f0 : fr 41 59 u u := fr_rf
  have C50 : u.1 50 = u.1 50 := rfl
  have C51 : u.1 51 = u.1 51 := rfl
  refine g_iconst (v := 0) dX6_fitTogether_0 (by decide) ?_
  refine g_istore_n dX6_fitTogether_1 (by decide) ?_
  have L2_0 : ∀ i2 : Int32, 0 ≤ i2 → i2 ≤ 8 → ∀ (u3 : uk_Mem), iv u3 → fr 41 59 u u3 → u3.1 50 = u.1 50 → u3.1 51 = u.1 51 → uk_G G X mX6_fitTogether (d + 3) (q_X6_fitTogether_s u a b) 2 [(0, .ref (uk_ad G 0)), (1, .int a), (2, .int b), (3, .int i2)] [] u3 := by
    refine uk_upl 8 ?_
    intro i2 ai2 bi2 ihi2  u3 hu3 fu3 ji20 ji21
    have C50_u3 : u3.1 50 = u3.1 50 := rfl
    have C51_u3 : u3.1 51 = u3.1 51 := rfl
    refine g_iload_n dX6_fitTogether_2 rfl ?_
    refine g_bipush (v := 8) dX6_fitTogether_3 (by decide) ?_
    refine g_icmp_ge (tgt := 21) dX6_fitTogether_5 (by decide) (fun c4 => ?_) (fun c4 => ?_)
    · refine g_iconst (v := 0) dX6_fitTogether_21 (by decide) ?_
      refine g_istore_n dX6_fitTogether_22 (by decide) ?_
      have L23_4 : ∀ i6 : Int32, 0 ≤ i6 → i6 ≤ 8 → ∀ (u7 : uk_Mem), iv u7 → fr 41 59 u u7 → u7.1 50 = u.1 50 → u7.1 51 = u.1 51 → uk_G G X mX6_fitTogether (d + 3) (q_X6_fitTogether_s u a b) 23 [(0, .ref (uk_ad G 0)), (1, .int a), (2, .int b), (3, .int i6)] [] u7 := by
        refine uk_upl 8 ?_
        intro i6 ai6 bi6 ihi6  u7 hu7 fu7 ji60 ji61
        have C50_u7 : u7.1 50 = u7.1 50 := rfl
        have C51_u7 : u7.1 51 = u7.1 51 := rfl
        refine g_iload_n dX6_fitTogether_23 rfl ?_
        refine g_aload_n dX6_fitTogether_24 rfl ?_
        refine f_X6_10 rfl rfl dX6_fitTogether_25 ?_
        refine f_X6_223 rfl rfl dX6_fitTogether_28 ?_
        refine g_topi (fun x8 ex8 => ?_)
        have rx8 : 0 ≤ x8 ∧ x8 ≤ 8 := by rw [ex8]; exact iv_at hu7 _ _ rfl
        have s9 : u7.1 13 9 = x8 := ex8.symm
        refine g_icmp_ge (tgt := 58) dX6_fitTogether_31 (by decide) (fun c10 => ?_) (fun c10 => ?_)
        · refine g_aload_n dX6_fitTogether_58 rfl ?_
          refine f_X6_48 rfl rfl dX6_fitTogether_59 ?_
          refine g_aload_n dX6_fitTogether_62 rfl ?_
          refine f_X6_10 rfl rfl dX6_fitTogether_63 ?_
          refine g_iload_n dX6_fitTogether_66 rfl ?_
          refine g_bipush (v := 127) dX6_fitTogether_67 (by decide) ?_
          refine cl_X6_177 (c := 41) (As := [.ref (uk_ad G 13), .int a, .int 127]) rfl (c_X1_grind (G := G) hs hu7  a 127 (by first | trivial | decide | lia | grind) (by first | trivial | decide | lia | grind) (d)) rfl (by omega) rfl rfl (Nat.le_of_ble_eq_true rfl) dX6_fitTogether_69 (fun r11 u12 q13 => ?_)
          obtain ⟨rfl, mq13⟩ := q13
          obtain ⟨hu12, gu12⟩ := mq13
          have fu12 : fr 41 59 u u12 := fr_tr fu7 gu12 (by omega) (by omega)
          have C14 : u12.1 50 = u7.1 50 := (gu12.1 50 (by omega)).trans C50_u7
          have C15 : u12.1 51 = u7.1 51 := (gu12.1 51 (by omega)).trans C51_u7
          have s16 : u12.1 13 9 = x8 := (fr_at gu12 (by omega)).trans s9
          refine g_aload_n dX6_fitTogether_72 rfl ?_
          refine f_X6_48 rfl rfl dX6_fitTogether_73 ?_
          refine g_aload_n dX6_fitTogether_76 rfl ?_
          refine f_X6_70 rfl rfl dX6_fitTogether_77 ?_
          refine cl_X6_290 (c := 41) (As := [.ref (uk_ad G 58)]) rfl (c_X1_takeFrom (G := G) hs hu12    (d + 2)) rfl (by omega) rfl rfl (Nat.le_of_ble_eq_true rfl) dX6_fitTogether_80 (fun r17 u18 q19 => ?_)
          obtain ⟨rfl, mq19⟩ := q19
          obtain ⟨hu18, gu18⟩ := mq19
          have fu18 : fr 41 59 u u18 := fr_tr fu12 gu18 (by omega) (by omega)
          have C20 : u18.1 50 = u7.1 50 := (gu18.1 50 (by omega)).trans C14
          have C21 : u18.1 51 = u7.1 51 := (gu18.1 51 (by omega)).trans C15
          have s22 : u18.1 13 9 = x8 := (fr_at gu18 (by omega)).trans s16
          refine g_aload_n dX6_fitTogether_83 rfl ?_
          refine f_X6_48 rfl rfl dX6_fitTogether_84 ?_
          refine g_aload_n dX6_fitTogether_87 rfl ?_
          refine f_X6_10 rfl rfl dX6_fitTogether_88 ?_
          refine g_iload_n dX6_fitTogether_91 rfl ?_
          refine g_bipush (v := 127) dX6_fitTogether_92 (by decide) ?_
          refine cl_X6_177 (c := 41) (As := [.ref (uk_ad G 13), .int b, .int 127]) rfl (c_X1_grind (G := G) hs hu18  b 127 (by first | trivial | decide | lia | grind) (by first | trivial | decide | lia | grind) (d)) rfl (by omega) rfl rfl (Nat.le_of_ble_eq_true rfl) dX6_fitTogether_94 (fun r23 u24 q25 => ?_)
          obtain ⟨rfl, mq25⟩ := q25
          obtain ⟨hu24, gu24⟩ := mq25
          have fu24 : fr 41 59 u u24 := fr_tr fu18 gu24 (by omega) (by omega)
          have C26 : u24.1 50 = u7.1 50 := (gu24.1 50 (by omega)).trans C20
          have C27 : u24.1 51 = u7.1 51 := (gu24.1 51 (by omega)).trans C21
          have s28 : u24.1 13 9 = x8 := (fr_at gu24 (by omega)).trans s22
          refine g_aload_n dX6_fitTogether_97 rfl ?_
          refine f_X6_48 rfl rfl dX6_fitTogether_98 ?_
          refine g_aload_n dX6_fitTogether_101 rfl ?_
          refine f_X6_70 rfl rfl dX6_fitTogether_102 ?_
          refine cl_X6_290 (c := 41) (As := [.ref (uk_ad G 58)]) rfl (c_X1_takeFrom (G := G) hs hu24    (d + 2)) rfl (by omega) rfl rfl (Nat.le_of_ble_eq_true rfl) dX6_fitTogether_105 (fun r29 u30 q31 => ?_)
          obtain ⟨rfl, mq31⟩ := q31
          obtain ⟨hu30, gu30⟩ := mq31
          have fu30 : fr 41 59 u u30 := fr_tr fu24 gu30 (by omega) (by omega)
          have C32 : u30.1 50 = u7.1 50 := (gu30.1 50 (by omega)).trans C26
          have C33 : u30.1 51 = u7.1 51 := (gu30.1 51 (by omega)).trans C27
          have s34 : u30.1 13 9 = x8 := (fr_at gu30 (by omega)).trans s28
          refine g_iconst (v := 0) dX6_fitTogether_108 (by decide) ?_
          refine g_istore_n dX6_fitTogether_109 (by decide) ?_
          have L110_34 : ∀ i36 : Int32, 0 ≤ i36 → i36 ≤ 8 → uk_G G X mX6_fitTogether (d + 3) (q_X6_fitTogether_s u a b) 110 [(0, .ref (uk_ad G 0)), (1, .int a), (2, .int b), (3, .int i36)] [] u30 := by
            refine uk_upl 8 ?_
            intro i36 ai36 bi36 ihi36 
            refine g_iload_n dX6_fitTogether_110 rfl ?_
            refine g_bipush (v := 8) dX6_fitTogether_111 (by decide) ?_
            refine g_icmp_ge (tgt := 133) dX6_fitTogether_113 (by decide) (fun c37 => ?_) (fun c37 => ?_)
            · refine g_iconst (v := 1) dX6_fitTogether_133 (by decide) ?_
              exact g_iret (ty := .boolean) dX6_fitTogether_134 rfl rfl ⟨⟨1, rfl, Or.inr rfl, fun _ => by first | trivial | lia | grind, fun q => absurd q (by decide)⟩, hu30, fu30, (C32.trans ji60), (C33.trans ji61)⟩
            · refine g_aload_n dX6_fitTogether_116 rfl ?_
              refine f_X6_70 rfl rfl dX6_fitTogether_117 ?_
              refine g_iload_n dX6_fitTogether_120 rfl ?_
              have v38 : vp_in i36 8 := uk_vin 8 rfl (by first | decide | lia | grind) (by first | decide | lia | grind)
              refine g_iald rfl rfl v38 dX6_fitTogether_121 ?_
              refine g_topi (fun x39 ex39 => ?_)
              refine g_if_eq (tgt := 127) dX6_fitTogether_122 (by decide) (fun c40 => ?_) (fun c40 => ?_)
              · refine g_iinc (v := i36 + 1) dX6_fitTogether_127 rfl rfl (by decide) ?_
                refine g_goto (tgt := 110) dX6_fitTogether_130 (by decide) ?_
                refine g_pick (lv' := [(0, .ref (uk_ad G 0)), (1, .int a), (2, .int b), (3, .int (i36 + 1))]) [0, 1, 2, 3] rfl ?_
                exact ihi36 (by first | lia | grind)  
              · refine g_iconst (v := 0) dX6_fitTogether_125 (by decide) ?_
                exact g_iret (ty := .boolean) dX6_fitTogether_126 rfl rfl ⟨⟨0, rfl, Or.inl rfl, fun q => absurd rfl q, fun _ => by first | trivial | lia | grind⟩, hu30, fu30, (C32.trans ji60), (C33.trans ji61)⟩
          refine g_pick (lv' := [(0, .ref (uk_ad G 0)), (1, .int a), (2, .int b), (3, .int 0)]) [0, 1, 2, 3] rfl ?_
          exact L110_34 0 (by first | decide | lia | grind) (by first | decide | lia | grind)  
        · refine g_aload_n dX6_fitTogether_34 rfl ?_
          refine f_X6_70 rfl rfl dX6_fitTogether_35 ?_
          refine g_aload_n dX6_fitTogether_38 rfl ?_
          refine f_X6_10 rfl rfl dX6_fitTogether_39 ?_
          refine f_X6_226 rfl rfl dX6_fitTogether_42 ?_
          refine g_iload_n dX6_fitTogether_45 rfl ?_
          have v41 : vp_in i6 8 := uk_vin 8 rfl (by first | decide | lia | grind) (by first | decide | lia | grind)
          refine g_iald rfl rfl v41 dX6_fitTogether_46 ?_
          refine g_topi (fun x42 ex42 => ?_)
          have bx42 := uk_cl v41
          have rx42 : 0 ≤ x42 ∧ x42 ≤ 7 := by rw [ex42]; exact iv_at hu7 _ _ (uk_pick1 _ (by omega))
          refine g_dup2 dX6_fitTogether_47 rfl rfl ?_
          have v43 : vp_in x42 8 := uk_vin 8 rfl (by first | decide | lia | grind) (by first | decide | lia | grind)
          refine g_iald rfl rfl v43 dX6_fitTogether_48 ?_
          refine g_topi (fun x44 ex44 => ?_)
          refine g_iconst (v := 1) dX6_fitTogether_49 (by decide) ?_
          refine g_iadd dX6_fitTogether_50 ?_
          refine g_topi (fun x45 ex45 => ?_)
          have v46 : vp_in x42 8 := uk_vin 8 rfl (by first | decide | lia | grind) (by first | decide | lia | grind)
          have b47 := uk_cl v46
          refine g_iast rfl rfl v46 dX6_fitTogether_51 ?_
          refine g_mem (fun u48 eu48 => ?_)
          have hu48 : iv u48 := by rw [eu48]; exact iv_upF hu7 (uk_pick1 _ (by omega))
          have fu48 : fr 41 59 u u48 := by rw [eu48]; exact fr_up fu7 (by omega) (by omega)
          have C49 : u48.1 50 = u7.1 50 := by rw [eu48]; exact (uk_up_oc (by decide)).trans C50_u7
          have C50 : u48.1 51 = u7.1 51 := by rw [eu48]; exact (uk_up_oc (by decide)).trans C51_u7
          refine g_iinc (v := i6 + 1) dX6_fitTogether_52 rfl rfl (by decide) ?_
          refine g_goto (tgt := 23) dX6_fitTogether_55 (by decide) ?_
          refine g_pick (lv' := [(0, .ref (uk_ad G 0)), (1, .int a), (2, .int b), (3, .int (i6 + 1))]) [0, 1, 2, 3] rfl ?_
          exact ihi6 (by first | lia | grind)  u48 hu48 fu48 (C49.trans ji60) (C50.trans ji61)
      refine g_pick (lv' := [(0, .ref (uk_ad G 0)), (1, .int a), (2, .int b), (3, .int 0)]) [0, 1, 2, 3] rfl ?_
      exact L23_4 0 (by first | decide | lia | grind) (by first | decide | lia | grind)  u3 hu3 fu3 (C50_u3.trans ji20) (C51_u3.trans ji21)
    · refine g_aload_n dX6_fitTogether_8 rfl ?_
      refine f_X6_70 rfl rfl dX6_fitTogether_9 ?_
      refine g_iload_n dX6_fitTogether_12 rfl ?_
      refine g_iconst (v := 0) dX6_fitTogether_13 (by decide) ?_
      have v51 : vp_in i2 8 := uk_vin 8 rfl (by first | decide | lia | grind) (by first | decide | lia | grind)
      have b52 := uk_cl v51
      refine g_iast rfl rfl v51 dX6_fitTogether_14 ?_
      refine g_mem (fun u53 eu53 => ?_)
      have hu53 : iv u53 := by rw [eu53]; exact iv_upF hu3 (uk_pick1 _ (by omega))
      have fu53 : fr 41 59 u u53 := by rw [eu53]; exact fr_up fu3 (by omega) (by omega)
      have C54 : u53.1 50 = u3.1 50 := by rw [eu53]; exact (uk_up_oc (by decide)).trans C50_u3
      have C55 : u53.1 51 = u3.1 51 := by rw [eu53]; exact (uk_up_oc (by decide)).trans C51_u3
      refine g_iinc (v := i2 + 1) dX6_fitTogether_15 rfl rfl (by decide) ?_
      refine g_goto (tgt := 2) dX6_fitTogether_18 (by decide) ?_
      refine g_pick (lv' := [(0, .ref (uk_ad G 0)), (1, .int a), (2, .int b), (3, .int (i2 + 1))]) [0, 1, 2, 3] rfl ?_
      exact ihi2 (by first | lia | grind)  u53 hu53 fu53 (C54.trans ji20) (C55.trans ji21)
  refine g_pick (lv' := [(0, .ref (uk_ad G 0)), (1, .int a), (2, .int b), (3, .int 0)]) [0, 1, 2, 3] rfl ?_
  exact L2_0 0 (by first | decide | lia | grind) (by first | decide | lia | grind)  u hu f0 C50 C51
abbrev q_X6_pairs_s (u : uk_Mem) (w : Int32) (r : Option Value) (u' : uk_Mem) : Prop := (∃ x : Int32, r = some (.int x) ∧ True) ∧ (iv u' ∧ fr 41 59 u u' ∧ u'.1 50 = u.1 50 ∧ u'.1 51 = u.1 51)
set_option maxHeartbeats 4000000 in
set_option maxRecDepth 20000 in
theorem c_X6_pairs_s {G : uk_D} (hs : uk_Sep G) {u : uk_Mem} (hu : iv u) (w : Int32) (d : Nat) : uk_Meth G (d + 4) mX6_pairs [.ref (uk_ad G 0), .int w] u (q_X6_pairs_s u w) := by
  refine uk_Meth.of hs (by decide) (Nat.le_of_ble_eq_true rfl) (fun X => ?_)
  have f0 : fr 41 59 u u := fr_rf
  have C50 : u.1 50 = u.1 50 := rfl
  have C51 : u.1 51 = u.1 51 := rfl
  refine g_iload_n dX6_pairs_0 rfl ?_
  refine cl_X6_162 (As := [.int w]) rfl (c_X6_isFlag (G := G) hs hu  w  (d + 3)) rfl (by omega) rfl (Nat.le_of_ble_eq_true rfl) dX6_pairs_1 (fun r1 u2 q3 => ?_)
  obtain ⟨⟨x4, rfl, tx4, nx4, zx4⟩, mq3⟩ := q3
  rw [mq3]
  refine g_if_ne (tgt := 9) dX6_pairs_4 (by decide) (fun c5 => ?_) (fun c5 => ?_)
  · have zc5 := nx4 c5
    refine g_iconst (v := 0) dX6_pairs_9 (by decide) ?_
    refine g_istore_n dX6_pairs_10 (by decide) ?_
    refine g_bipush (v := (-4)) dX6_pairs_11 (by decide) ?_
    refine g_istore_n dX6_pairs_13 (by decide) ?_
    refine g_iconst (v := 0) dX6_pairs_14 (by decide) ?_
    refine g_istore dX6_pairs_15 (by decide) ?_
    have L17_5 : ∀ i9 : Int32, 0 ≤ i9 → i9 ≤ 8 → ∀ (w7 : Int32) (w8 : Int32) (u10 : uk_Mem), iv u10 → fr 41 59 u u10 → u10.1 50 = u.1 50 → u10.1 51 = u.1 51 → uk_G G X mX6_pairs (d + 4) (q_X6_pairs_s u w) 17 [(0, .ref (uk_ad G 0)), (1, .int w), (2, .int w7), (3, .int w8), (4, .int i9)] [] u10 := by
      refine uk_upl 8 ?_
      intro i9 ai9 bi9 ihi9 w7 w8 u10 hu10 fu10 ji90 ji91
      have C50_u10 : u10.1 50 = u10.1 50 := rfl
      have C51_u10 : u10.1 51 = u10.1 51 := rfl
      refine g_iload dX6_pairs_17 rfl ?_
      refine g_aload_n dX6_pairs_19 rfl ?_
      refine f_X6_10 rfl rfl dX6_pairs_20 ?_
      refine f_X6_105 rfl rfl dX6_pairs_23 ?_
      refine g_topi (fun x11 ex11 => ?_)
      have rx11 : 0 ≤ x11 ∧ x11 ≤ 8 := by rw [ex11]; exact iv_at hu10 _ _ rfl
      have s12 : u10.1 13 0 = x11 := ex11.symm
      refine g_icmp_ge (tgt := 88) dX6_pairs_26 (by decide) (fun c13 => ?_) (fun c13 => ?_)
      · refine g_iload_n dX6_pairs_88 rfl ?_
        refine g_if_ne (tgt := 96) dX6_pairs_89 (by decide) (fun c14 => ?_) (fun c14 => ?_)
        · refine g_iload_n dX6_pairs_96 rfl ?_
          exact g_iret (ty := .int) dX6_pairs_97 rfl rfl ⟨⟨_, rfl, by first | trivial | lia | grind⟩, hu10, fu10, (C50_u10.trans ji90), (C51_u10.trans ji91)⟩
        · refine g_iload_n dX6_pairs_92 rfl ?_
          refine g_goto (tgt := 97) dX6_pairs_93 (by decide) ?_
          exact g_iret (ty := .int) dX6_pairs_97 rfl rfl ⟨⟨_, rfl, by first | trivial | lia | grind⟩, hu10, fu10, (C50_u10.trans ji90), (C51_u10.trans ji91)⟩
      · refine g_iload dX6_pairs_29 rfl ?_
        refine g_istore dX6_pairs_31 (by decide) ?_
        have L33_14 : ∀ i18 : Int32, 0 ≤ i18 → i18 ≤ 8 → ∀ (w16 : Int32) (w17 : Int32) (u19 : uk_Mem), iv u19 → fr 41 59 u u19 → u19.1 50 = u.1 50 → u19.1 51 = u.1 51 → uk_G G X mX6_pairs (d + 4) (q_X6_pairs_s u w) 33 [(0, .ref (uk_ad G 0)), (1, .int w), (2, .int w16), (3, .int w17), (4, .int i9), (5, .int i18)] [] u19 := by
          refine uk_upl 8 ?_
          intro i18 ai18 bi18 ihi18 w16 w17 u19 hu19 fu19 ji180 ji181
          have C50_u19 : u19.1 50 = u19.1 50 := rfl
          have C51_u19 : u19.1 51 = u19.1 51 := rfl
          refine g_iload dX6_pairs_33 rfl ?_
          refine g_aload_n dX6_pairs_35 rfl ?_
          refine f_X6_10 rfl rfl dX6_pairs_36 ?_
          refine f_X6_105 rfl rfl dX6_pairs_39 ?_
          refine g_topi (fun x20 ex20 => ?_)
          have rx20 : 0 ≤ x20 ∧ x20 ≤ 8 := by rw [ex20]; exact iv_at hu19 _ _ rfl
          have s21 : u19.1 13 0 = x20 := ex20.symm
          refine g_icmp_ge (tgt := 82) dX6_pairs_42 (by decide) (fun c22 => ?_) (fun c22 => ?_)
          · refine g_iinc (v := i9 + 1) dX6_pairs_82 rfl rfl (by decide) ?_
            refine g_goto (tgt := 17) dX6_pairs_85 (by decide) ?_
            refine g_pick (lv' := [(0, .ref (uk_ad G 0)), (1, .int w), (2, .int w16), (3, .int w17), (4, .int (i9 + 1))]) [0, 1, 2, 3, 4] rfl ?_
            exact ihi9 (by first | lia | grind) w16 w17 u19 hu19 fu19 (C50_u19.trans ji180) (C51_u19.trans ji181)
          · refine g_aload_n dX6_pairs_45 rfl ?_
            refine g_iload dX6_pairs_46 rfl ?_
            refine g_iload dX6_pairs_48 rfl ?_
            refine cl_X6_233 (c := 0) (As := [.int i9, .int i18]) rfl (c_X6_fitTogether_s (G := G) hs hu19  i9 i18 (by first | trivial | decide | lia | grind) (by first | trivial | decide | lia | grind) (by first | trivial | decide | lia | grind) (by first | trivial | decide | lia | grind) (d)) rfl (by omega) rfl rfl (Nat.le_of_ble_eq_true rfl) dX6_pairs_50 (fun r23 u24 q25 => ?_)
            obtain ⟨⟨x26, rfl, tx26, nx26, zx26⟩, mq25⟩ := q25
            obtain ⟨hu24, gu24, ku240, ku241⟩ := mq25
            have fu24 : fr 41 59 u u24 := fr_tr fu19 gu24 (by omega) (by omega)
            have C27 : u24.1 50 = u19.1 50 := ku240.trans C50_u19
            have C28 : u24.1 51 = u19.1 51 := ku241.trans C51_u19
            have s29 : u24.1 13 0 = x20 := (fr_at gu24 (by omega)).trans s21
            refine g_if_eq (tgt := 76) dX6_pairs_53 (by decide) (fun c30 => ?_) (fun c30 => ?_)
            · have zc30 := zx26 c30
              refine g_iinc (v := i18 + 1) dX6_pairs_76 rfl rfl (by decide) ?_
              refine g_goto (tgt := 33) dX6_pairs_79 (by decide) ?_
              refine g_pick (lv' := [(0, .ref (uk_ad G 0)), (1, .int w), (2, .int w16), (3, .int w17), (4, .int i9), (5, .int (i18 + 1))]) [0, 1, 2, 3, 4, 5] rfl ?_
              exact ihi18 (by first | lia | grind) w16 w17 u24 hu24 fu24 (C27.trans ji180) (C28.trans ji181)
            · have zc30 := nx26 c30
              refine g_iload_n dX6_pairs_56 rfl ?_
              refine g_if_ne (tgt := 71) dX6_pairs_57 (by decide) (fun c31 => ?_) (fun c31 => ?_)
              · refine g_iload_n dX6_pairs_71 rfl ?_
                refine g_istore_n dX6_pairs_72 (by decide) ?_
                refine g_iinc (v := w16 + 1) dX6_pairs_73 rfl rfl (by decide) ?_
                refine g_iinc (v := i18 + 1) dX6_pairs_76 rfl rfl (by decide) ?_
                refine g_goto (tgt := 33) dX6_pairs_79 (by decide) ?_
                refine g_pick (lv' := [(0, .ref (uk_ad G 0)), (1, .int w), (2, .int (w16 + 1)), (3, .int w17), (4, .int i9), (5, .int (i18 + 1))]) [0, 1, 2, 3, 4, 5] rfl ?_
                exact ihi18 (by first | lia | grind) (w16 + 1) w17 u24 hu24 fu24 (C27.trans ji180) (C28.trans ji181)
              · refine g_bipush (v := 10) dX6_pairs_60 (by decide) ?_
                refine g_iload dX6_pairs_62 rfl ?_
                refine g_imul dX6_pairs_64 ?_
                refine g_topi (fun x32 ex32 => ?_)
                refine g_iload dX6_pairs_65 rfl ?_
                refine g_iadd dX6_pairs_67 ?_
                refine g_topi (fun x33 ex33 => ?_)
                refine g_goto (tgt := 72) dX6_pairs_68 (by decide) ?_
                refine g_istore_n dX6_pairs_72 (by decide) ?_
                refine g_iinc (v := w16 + 1) dX6_pairs_73 rfl rfl (by decide) ?_
                refine g_iinc (v := i18 + 1) dX6_pairs_76 rfl rfl (by decide) ?_
                refine g_goto (tgt := 33) dX6_pairs_79 (by decide) ?_
                refine g_pick (lv' := [(0, .ref (uk_ad G 0)), (1, .int w), (2, .int (w16 + 1)), (3, .int x33), (4, .int i9), (5, .int (i18 + 1))]) [0, 1, 2, 3, 4, 5] rfl ?_
                exact ihi18 (by first | lia | grind) (w16 + 1) x33 u24 hu24 fu24 (C27.trans ji180) (C28.trans ji181)
        refine g_pick (lv' := [(0, .ref (uk_ad G 0)), (1, .int w), (2, .int w7), (3, .int w8), (4, .int i9), (5, .int i9)]) [0, 1, 2, 3, 4, 5] rfl ?_
        exact L33_14 i9 (by first | decide | lia | grind) (by first | decide | lia | grind) w7 w8 u10 hu10 fu10 (C50_u10.trans ji90) (C51_u10.trans ji91)
    refine g_pick (lv' := [(0, .ref (uk_ad G 0)), (1, .int w), (2, .int 0), (3, .int (-4)), (4, .int 0)]) [0, 1, 2, 3, 4] rfl ?_
    exact L17_5 0 (by first | decide | lia | grind) (by first | decide | lia | grind) 0 (-4) u hu f0 C50 C51
  · have zc5 := zx4 c5
    refine g_iconst (v := (-1)) dX6_pairs_7 (by decide) ?_
    exact g_iret (ty := .int) dX6_pairs_8 rfl rfl ⟨⟨_, rfl, by first | trivial | lia | grind⟩, hu, f0, C50, C51⟩
