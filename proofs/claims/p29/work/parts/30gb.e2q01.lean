def e_X6_fill (u : uk_Mem) (m : Int32) (n : Int32) : Int32 × uk_Mem := let x4 : Int32 := (e_X0_hasStuff u 13 m); if x4 = 0 then (((-1 : Int32), u)) else (if n < 0 then (((-1 : Int32), u)) else (if n ≤ (40 : Int32) then (let x9 : Int32 := u.1 19 m.toNatClampNeg; let u12 : uk_Mem := uk_up u 19 m.toNatClampNeg n; (x9, u12)) else (((-1 : Int32), u))))
abbrev qe_X6_fill (u : uk_Mem) (m : Int32) (n : Int32) (r : Option Value) (u' : uk_Mem) : Prop := (q_X6_fill u m n r u') ∧ (r = some (.int (e_X6_fill u m n).1) ∧ u' = (e_X6_fill u m n).2)
set_option maxHeartbeats 4000000 in
set_option maxRecDepth 20000 in
theorem x_X6_fill {G : uk_D} (hs : uk_Sep G) {u : uk_Mem} (hu : iv u) (m : Int32) (n : Int32) (d : Nat) : uk_Meth G (d + 1) mX6_fill [.ref (uk_ad G 0), .int m, .int n] u (qe_X6_fill u m n) := by
  refine uk_Meth.of hs (by decide) (Nat.le_of_ble_eq_true rfl) (fun X => ?_)
  have f0 : fr 13 22 u u := fr_rf
  refine g_aload_n dX6_fill_0 rfl ?_
  refine f_X6_10 rfl rfl dX6_fill_1 ?_
  refine g_iload_n dX6_fill_4 rfl ?_
  refine cl_X6_118 (c := 13) (As := [.int m]) rfl (x_X0_hasStuff (G := G) hs hu uk_isK13 m  (d)) rfl (by omega) rfl rfl (Nat.le_of_ble_eq_true rfl) dX6_fill_5 (fun r1 u2 q3 => ?_)
  obtain ⟨q3, Eq3⟩ := q3
  obtain ⟨⟨x4, rfl, tx4, nx4, zx4⟩, mq3⟩ := q3
  rw [mq3]
  have ex4 : x4 = (e_X0_hasStuff u 13 m) := ee_v Eq3
  refine g_if_eq (tgt := 21) dX6_fill_8 (by decide) (fun c5 => ?_) (fun c5 => ?_)
  · have zc5 := zx4 c5
    refine g_iconst (v := (-1)) dX6_fill_21 (by decide) ?_
    exact g_iret (ty := .int) dX6_fill_22 rfl rfl ⟨⟨⟨_, rfl, by first | trivial | lia | grind⟩, hu, f0⟩, ee_i (by subst ex4; exact (if_pos c5).trans (rfl))⟩
  · have zc5 := nx4 c5
    refine g_iload_n dX6_fill_11 rfl ?_
    refine g_if_lt (tgt := 21) dX6_fill_12 (by decide) (fun c6 => ?_) (fun c6 => ?_)
    · refine g_iconst (v := (-1)) dX6_fill_21 (by decide) ?_
      exact g_iret (ty := .int) dX6_fill_22 rfl rfl ⟨⟨⟨_, rfl, by first | trivial | lia | grind⟩, hu, f0⟩, ee_i (by subst ex4; exact (if_neg c5).trans ((if_pos c6).trans (rfl)))⟩
    · refine g_iload_n dX6_fill_15 rfl ?_
      refine g_bipush (v := 40) dX6_fill_16 (by decide) ?_
      refine g_icmp_le (tgt := 23) dX6_fill_18 (by decide) (fun c7 => ?_) (fun c7 => ?_)
      · refine g_aload_n dX6_fill_23 rfl ?_
        refine f_X6_10 rfl rfl dX6_fill_24 ?_
        refine f_X6_143 rfl rfl dX6_fill_27 ?_
        refine g_iload_n dX6_fill_30 rfl ?_
        have v8 : vp_in m 8 := uk_vin 8 rfl (by first | decide | lia | grind) (by first | decide | lia | grind)
        refine g_iald rfl rfl v8 dX6_fill_31 ?_
        refine g_topi (fun x9 ex9 => ?_)
        refine g_istore_n dX6_fill_32 (by decide) ?_
        refine g_pick (lv' := [(0, .ref (uk_ad G 0)), (1, .int m), (2, .int n), (3, .int x9)]) [0, 1, 2, 3] rfl ?_
        refine g_aload_n dX6_fill_33 rfl ?_
        refine f_X6_10 rfl rfl dX6_fill_34 ?_
        refine f_X6_143 rfl rfl dX6_fill_37 ?_
        refine g_iload_n dX6_fill_40 rfl ?_
        refine g_iload_n dX6_fill_41 rfl ?_
        have v10 : vp_in m 8 := uk_vin 8 rfl (by first | decide | lia | grind) (by first | decide | lia | grind)
        have b11 := uk_cl v10
        refine g_iast rfl rfl v10 dX6_fill_42 ?_
        refine g_mem (fun u12 eu12 => ?_)
        have hu12 : iv u12 := by rw [eu12]; exact iv_upF hu (uk_pick1 _ (by omega))
        have fu12 : fr 13 22 u u12 := by rw [eu12]; exact fr_up f0 (by omega) (by omega)
        refine g_iload_n dX6_fill_43 rfl ?_
        exact g_iret (ty := .int) dX6_fill_44 rfl rfl ⟨⟨⟨_, rfl, by first | trivial | lia | grind⟩, hu12, fu12⟩, ee_i (by subst eu12; subst ex9; subst ex4; exact (if_neg c5).trans ((if_neg c6).trans ((if_pos c7).trans (rfl))))⟩
      · refine g_iconst (v := (-1)) dX6_fill_21 (by decide) ?_
        exact g_iret (ty := .int) dX6_fill_22 rfl rfl ⟨⟨⟨_, rfl, by first | trivial | lia | grind⟩, hu, f0⟩, ee_i (by subst ex4; exact (if_neg c5).trans ((if_neg c6).trans ((if_neg c7).trans (rfl))))⟩
def e_X6_feeds (u : uk_Mem) (m : Int32) (v : Int32) : Int32 × uk_Mem := let x4 : Int32 := (e_X0_hasStuff u 13 m); if x4 = 0 then (((-1 : Int32), u)) else (let x9 : Int32 := (e_X6_isDigit u v); if x9 = 0 then (((-1 : Int32), u)) else (let x12 : Int32 := u.1 17 m.toNatClampNeg; let u15 : uk_Mem := uk_up u 17 m.toNatClampNeg v; (x12, u15)))
abbrev qe_X6_feeds (u : uk_Mem) (m : Int32) (v : Int32) (r : Option Value) (u' : uk_Mem) : Prop := (q_X6_feeds u m v r u') ∧ (r = some (.int (e_X6_feeds u m v).1) ∧ u' = (e_X6_feeds u m v).2)
set_option maxHeartbeats 4000000 in
set_option maxRecDepth 20000 in
theorem x_X6_feeds {G : uk_D} (hs : uk_Sep G) {u : uk_Mem} (hu : iv u) (m : Int32) (v : Int32) (d : Nat) : uk_Meth G (d + 1) mX6_feeds [.ref (uk_ad G 0), .int m, .int v] u (qe_X6_feeds u m v) := by
  refine uk_Meth.of hs (by decide) (Nat.le_of_ble_eq_true rfl) (fun X => ?_)
  have f0 : fr 13 22 u u := fr_rf
  refine g_aload_n dX6_feeds_0 rfl ?_
  refine f_X6_10 rfl rfl dX6_feeds_1 ?_
  refine g_iload_n dX6_feeds_4 rfl ?_
  refine cl_X6_118 (c := 13) (As := [.int m]) rfl (x_X0_hasStuff (G := G) hs hu uk_isK13 m  (d)) rfl (by omega) rfl rfl (Nat.le_of_ble_eq_true rfl) dX6_feeds_5 (fun r1 u2 q3 => ?_)
  obtain ⟨q3, Eq3⟩ := q3
  obtain ⟨⟨x4, rfl, tx4, nx4, zx4⟩, mq3⟩ := q3
  rw [mq3]
  have ex4 : x4 = (e_X0_hasStuff u 13 m) := ee_v Eq3
  refine g_if_eq (tgt := 18) dX6_feeds_8 (by decide) (fun c5 => ?_) (fun c5 => ?_)
  · have zc5 := zx4 c5
    refine g_iconst (v := (-1)) dX6_feeds_18 (by decide) ?_
    exact g_iret (ty := .int) dX6_feeds_19 rfl rfl ⟨⟨⟨_, rfl, by first | trivial | lia | grind⟩, hu, f0⟩, ee_i (by subst ex4; exact (if_pos c5).trans (rfl))⟩
  · have zc5 := nx4 c5
    refine g_iload_n dX6_feeds_11 rfl ?_
    refine cl_X6_146 (As := [.int v]) rfl (x_X6_isDigit (G := G) hs hu  v  (d)) rfl (by omega) rfl (Nat.le_of_ble_eq_true rfl) dX6_feeds_12 (fun r6 u7 q8 => ?_)
    obtain ⟨q8, Eq8⟩ := q8
    obtain ⟨⟨x9, rfl, tx9, nx9, zx9⟩, mq8⟩ := q8
    rw [mq8]
    have ex9 : x9 = (e_X6_isDigit u v) := ee_v Eq8
    refine g_if_ne (tgt := 20) dX6_feeds_15 (by decide) (fun c10 => ?_) (fun c10 => ?_)
    · have zc10 := nx9 c10
      refine g_aload_n dX6_feeds_20 rfl ?_
      refine f_X6_10 rfl rfl dX6_feeds_21 ?_
      refine f_X6_134 rfl rfl dX6_feeds_24 ?_
      refine g_iload_n dX6_feeds_27 rfl ?_
      have v11 : vp_in m 8 := uk_vin 8 rfl (by first | decide | lia | grind) (by first | decide | lia | grind)
      refine g_iald rfl rfl v11 dX6_feeds_28 ?_
      refine g_topi (fun x12 ex12 => ?_)
      refine g_istore_n dX6_feeds_29 (by decide) ?_
      refine g_pick (lv' := [(0, .ref (uk_ad G 0)), (1, .int m), (2, .int v), (3, .int x12)]) [0, 1, 2, 3] rfl ?_
      refine g_aload_n dX6_feeds_30 rfl ?_
      refine f_X6_10 rfl rfl dX6_feeds_31 ?_
      refine f_X6_134 rfl rfl dX6_feeds_34 ?_
      refine g_iload_n dX6_feeds_37 rfl ?_
      refine g_iload_n dX6_feeds_38 rfl ?_
      have v13 : vp_in m 8 := uk_vin 8 rfl (by first | decide | lia | grind) (by first | decide | lia | grind)
      have b14 := uk_cl v13
      refine g_iast rfl rfl v13 dX6_feeds_39 ?_
      refine g_mem (fun u15 eu15 => ?_)
      have hu15 : iv u15 := by rw [eu15]; exact iv_upF hu (uk_pick1 _ (by omega))
      have fu15 : fr 13 22 u u15 := by rw [eu15]; exact fr_up f0 (by omega) (by omega)
      refine g_iload_n dX6_feeds_40 rfl ?_
      exact g_iret (ty := .int) dX6_feeds_41 rfl rfl ⟨⟨⟨_, rfl, by first | trivial | lia | grind⟩, hu15, fu15⟩, ee_i (by subst eu15; subst ex12; subst ex9; subst ex4; exact (if_neg c5).trans ((if_neg c10).trans (rfl)))⟩
    · have zc10 := zx9 c10
      refine g_iconst (v := (-1)) dX6_feeds_18 (by decide) ?_
      exact g_iret (ty := .int) dX6_feeds_19 rfl rfl ⟨⟨⟨_, rfl, by first | trivial | lia | grind⟩, hu, f0⟩, ee_i (by subst ex9; subst ex4; exact (if_neg c5).trans ((if_pos c10).trans (rfl)))⟩
def e_X6_price (u : uk_Mem) (m : Int32) (v : Int32) : Int32 × uk_Mem := let x4 : Int32 := (e_X0_hasStuff u 13 m); if x4 = 0 then (((-1 : Int32), u)) else (let x9 : Int32 := (e_X6_isDigit u v); if x9 = 0 then (((-1 : Int32), u)) else (let x14 : Int32 := (e_X0_isMade u 13 m); if x14 = 0 then (let x17 : Int32 := u.1 18 m.toNatClampNeg; let u20 : uk_Mem := uk_up u 18 m.toNatClampNeg v; (x17, u20)) else (((-2 : Int32), u))))
abbrev qe_X6_price (u : uk_Mem) (m : Int32) (v : Int32) (r : Option Value) (u' : uk_Mem) : Prop := (q_X6_price u m v r u') ∧ (r = some (.int (e_X6_price u m v).1) ∧ u' = (e_X6_price u m v).2)
set_option maxHeartbeats 4000000 in
set_option maxRecDepth 20000 in
theorem x_X6_price {G : uk_D} (hs : uk_Sep G) {u : uk_Mem} (hu : iv u) (m : Int32) (v : Int32) (d : Nat) : uk_Meth G (d + 1) mX6_price [.ref (uk_ad G 0), .int m, .int v] u (qe_X6_price u m v) := by
  refine uk_Meth.of hs (by decide) (Nat.le_of_ble_eq_true rfl) (fun X => ?_)
  have f0 : fr 13 22 u u := fr_rf
  refine g_aload_n dX6_price_0 rfl ?_
  refine f_X6_10 rfl rfl dX6_price_1 ?_
  refine g_iload_n dX6_price_4 rfl ?_
  refine cl_X6_118 (c := 13) (As := [.int m]) rfl (x_X0_hasStuff (G := G) hs hu uk_isK13 m  (d)) rfl (by omega) rfl rfl (Nat.le_of_ble_eq_true rfl) dX6_price_5 (fun r1 u2 q3 => ?_)
  obtain ⟨q3, Eq3⟩ := q3
  obtain ⟨⟨x4, rfl, tx4, nx4, zx4⟩, mq3⟩ := q3
  rw [mq3]
  have ex4 : x4 = (e_X0_hasStuff u 13 m) := ee_v Eq3
  refine g_if_eq (tgt := 18) dX6_price_8 (by decide) (fun c5 => ?_) (fun c5 => ?_)
  · have zc5 := zx4 c5
    refine g_iconst (v := (-1)) dX6_price_18 (by decide) ?_
    exact g_iret (ty := .int) dX6_price_19 rfl rfl ⟨⟨⟨_, rfl, by first | trivial | lia | grind⟩, hu, f0⟩, ee_i (by subst ex4; exact (if_pos c5).trans (rfl))⟩
  · have zc5 := nx4 c5
    refine g_iload_n dX6_price_11 rfl ?_
    refine cl_X6_146 (As := [.int v]) rfl (x_X6_isDigit (G := G) hs hu  v  (d)) rfl (by omega) rfl (Nat.le_of_ble_eq_true rfl) dX6_price_12 (fun r6 u7 q8 => ?_)
    obtain ⟨q8, Eq8⟩ := q8
    obtain ⟨⟨x9, rfl, tx9, nx9, zx9⟩, mq8⟩ := q8
    rw [mq8]
    have ex9 : x9 = (e_X6_isDigit u v) := ee_v Eq8
    refine g_if_ne (tgt := 20) dX6_price_15 (by decide) (fun c10 => ?_) (fun c10 => ?_)
    · have zc10 := nx9 c10
      refine g_aload_n dX6_price_20 rfl ?_
      refine f_X6_10 rfl rfl dX6_price_21 ?_
      refine g_iload_n dX6_price_24 rfl ?_
      refine cl_X6_122 (c := 13) (As := [.int m]) rfl (x_X0_isMade (G := G) hs hu uk_isK13 m (by first | trivial | decide | lia | grind) (by first | trivial | decide | lia | grind) (d)) rfl (by omega) rfl rfl (Nat.le_of_ble_eq_true rfl) dX6_price_25 (fun r11 u12 q13 => ?_)
      obtain ⟨q13, Eq13⟩ := q13
      obtain ⟨⟨x14, rfl, tx14, nx14, zx14⟩, mq13⟩ := q13
      rw [mq13]
      have ex14 : x14 = (e_X0_isMade u 13 m) := ee_v Eq13
      refine g_if_eq (tgt := 34) dX6_price_28 (by decide) (fun c15 => ?_) (fun c15 => ?_)
      · have zc15 := zx14 c15
        refine g_aload_n dX6_price_34 rfl ?_
        refine f_X6_10 rfl rfl dX6_price_35 ?_
        refine f_X6_137 rfl rfl dX6_price_38 ?_
        refine g_iload_n dX6_price_41 rfl ?_
        have v16 : vp_in m 8 := uk_vin 8 rfl (by first | decide | lia | grind) (by first | decide | lia | grind)
        refine g_iald rfl rfl v16 dX6_price_42 ?_
        refine g_topi (fun x17 ex17 => ?_)
        refine g_istore_n dX6_price_43 (by decide) ?_
        refine g_pick (lv' := [(0, .ref (uk_ad G 0)), (1, .int m), (2, .int v), (3, .int x17)]) [0, 1, 2, 3] rfl ?_
        refine g_aload_n dX6_price_44 rfl ?_
        refine f_X6_10 rfl rfl dX6_price_45 ?_
        refine f_X6_137 rfl rfl dX6_price_48 ?_
        refine g_iload_n dX6_price_51 rfl ?_
        refine g_iload_n dX6_price_52 rfl ?_
        have v18 : vp_in m 8 := uk_vin 8 rfl (by first | decide | lia | grind) (by first | decide | lia | grind)
        have b19 := uk_cl v18
        refine g_iast rfl rfl v18 dX6_price_53 ?_
        refine g_mem (fun u20 eu20 => ?_)
        have hu20 : iv u20 := by rw [eu20]; exact iv_upF hu (uk_pick1 _ (by omega))
        have fu20 : fr 13 22 u u20 := by rw [eu20]; exact fr_up f0 (by omega) (by omega)
        refine g_iload_n dX6_price_54 rfl ?_
        exact g_iret (ty := .int) dX6_price_55 rfl rfl ⟨⟨⟨_, rfl, by first | trivial | lia | grind⟩, hu20, fu20⟩, ee_i (by subst eu20; subst ex17; subst ex14; subst ex9; subst ex4; exact (if_neg c5).trans ((if_neg c10).trans ((if_pos c15).trans (rfl))))⟩
      · have zc15 := nx14 c15
        refine g_bipush (v := (-2)) dX6_price_31 (by decide) ?_
        exact g_iret (ty := .int) dX6_price_33 rfl rfl ⟨⟨⟨_, rfl, by first | trivial | lia | grind⟩, hu, f0⟩, ee_i (by subst ex14; subst ex9; subst ex4; exact (if_neg c5).trans ((if_neg c10).trans ((if_neg c15).trans (rfl))))⟩
    · have zc10 := zx9 c10
      refine g_iconst (v := (-1)) dX6_price_18 (by decide) ?_
      exact g_iret (ty := .int) dX6_price_19 rfl rfl ⟨⟨⟨_, rfl, by first | trivial | lia | grind⟩, hu, f0⟩, ee_i (by subst ex9; subst ex4; exact (if_neg c5).trans ((if_pos c10).trans (rfl)))⟩
def e_X6_kind (u : uk_Mem) (m : Int32) (k : Int32) : Int32 × uk_Mem := let x4 : Int32 := (e_X0_hasStuff u 13 m); if x4 = 0 then (((-1 : Int32), u)) else (if k < 0 then (((-1 : Int32), u)) else (if k ≤ (3 : Int32) then (let x11 : Int32 := (e_X0_isMade u 13 m); if x11 = 0 then (((-2 : Int32), u)) else (let x14 : Int32 := u.1 14 m.toNatClampNeg; let u17 : uk_Mem := uk_up u 14 m.toNatClampNeg k; (x14, u17))) else (((-1 : Int32), u))))
abbrev qe_X6_kind (u : uk_Mem) (m : Int32) (k : Int32) (r : Option Value) (u' : uk_Mem) : Prop := (q_X6_kind u m k r u') ∧ (r = some (.int (e_X6_kind u m k).1) ∧ u' = (e_X6_kind u m k).2)
set_option maxHeartbeats 4000000 in
set_option maxRecDepth 20000 in
theorem x_X6_kind {G : uk_D} (hs : uk_Sep G) {u : uk_Mem} (hu : iv u) (m : Int32) (k : Int32) (d : Nat) : uk_Meth G (d + 1) mX6_kind [.ref (uk_ad G 0), .int m, .int k] u (qe_X6_kind u m k) := by
  refine uk_Meth.of hs (by decide) (Nat.le_of_ble_eq_true rfl) (fun X => ?_)
  have f0 : fr 13 22 u u := fr_rf
  refine g_aload_n dX6_kind_0 rfl ?_
  refine f_X6_10 rfl rfl dX6_kind_1 ?_
  refine g_iload_n dX6_kind_4 rfl ?_
  refine cl_X6_118 (c := 13) (As := [.int m]) rfl (x_X0_hasStuff (G := G) hs hu uk_isK13 m  (d)) rfl (by omega) rfl rfl (Nat.le_of_ble_eq_true rfl) dX6_kind_5 (fun r1 u2 q3 => ?_)
  obtain ⟨q3, Eq3⟩ := q3
  obtain ⟨⟨x4, rfl, tx4, nx4, zx4⟩, mq3⟩ := q3
  rw [mq3]
  have ex4 : x4 = (e_X0_hasStuff u 13 m) := ee_v Eq3
  refine g_if_eq (tgt := 20) dX6_kind_8 (by decide) (fun c5 => ?_) (fun c5 => ?_)
  · have zc5 := zx4 c5
    refine g_iconst (v := (-1)) dX6_kind_20 (by decide) ?_
    exact g_iret (ty := .int) dX6_kind_21 rfl rfl ⟨⟨⟨_, rfl, by first | trivial | lia | grind⟩, hu, f0⟩, ee_i (by subst ex4; exact (if_pos c5).trans (rfl))⟩
  · have zc5 := nx4 c5
    refine g_iload_n dX6_kind_11 rfl ?_
    refine g_if_lt (tgt := 20) dX6_kind_12 (by decide) (fun c6 => ?_) (fun c6 => ?_)
    · refine g_iconst (v := (-1)) dX6_kind_20 (by decide) ?_
      exact g_iret (ty := .int) dX6_kind_21 rfl rfl ⟨⟨⟨_, rfl, by first | trivial | lia | grind⟩, hu, f0⟩, ee_i (by subst ex4; exact (if_neg c5).trans ((if_pos c6).trans (rfl)))⟩
    · refine g_iload_n dX6_kind_15 rfl ?_
      refine g_iconst (v := 3) dX6_kind_16 (by decide) ?_
      refine g_icmp_le (tgt := 22) dX6_kind_17 (by decide) (fun c7 => ?_) (fun c7 => ?_)
      · refine g_aload_n dX6_kind_22 rfl ?_
        refine f_X6_10 rfl rfl dX6_kind_23 ?_
        refine g_iload_n dX6_kind_26 rfl ?_
        refine cl_X6_122 (c := 13) (As := [.int m]) rfl (x_X0_isMade (G := G) hs hu uk_isK13 m (by first | trivial | decide | lia | grind) (by first | trivial | decide | lia | grind) (d)) rfl (by omega) rfl rfl (Nat.le_of_ble_eq_true rfl) dX6_kind_27 (fun r8 u9 q10 => ?_)
        obtain ⟨q10, Eq10⟩ := q10
        obtain ⟨⟨x11, rfl, tx11, nx11, zx11⟩, mq10⟩ := q10
        rw [mq10]
        have ex11 : x11 = (e_X0_isMade u 13 m) := ee_v Eq10
        refine g_if_ne (tgt := 36) dX6_kind_30 (by decide) (fun c12 => ?_) (fun c12 => ?_)
        · have zc12 := nx11 c12
          refine g_aload_n dX6_kind_36 rfl ?_
          refine f_X6_10 rfl rfl dX6_kind_37 ?_
          refine f_X6_125 rfl rfl dX6_kind_40 ?_
          refine g_iload_n dX6_kind_43 rfl ?_
          have v13 : vp_in m 8 := uk_vin 8 rfl (by first | decide | lia | grind) (by first | decide | lia | grind)
          refine g_iald rfl rfl v13 dX6_kind_44 ?_
          refine g_topi (fun x14 ex14 => ?_)
          refine g_istore_n dX6_kind_45 (by decide) ?_
          refine g_pick (lv' := [(0, .ref (uk_ad G 0)), (1, .int m), (2, .int k), (3, .int x14)]) [0, 1, 2, 3] rfl ?_
          refine g_aload_n dX6_kind_46 rfl ?_
          refine f_X6_10 rfl rfl dX6_kind_47 ?_
          refine f_X6_125 rfl rfl dX6_kind_50 ?_
          refine g_iload_n dX6_kind_53 rfl ?_
          refine g_iload_n dX6_kind_54 rfl ?_
          have v15 : vp_in m 8 := uk_vin 8 rfl (by first | decide | lia | grind) (by first | decide | lia | grind)
          have b16 := uk_cl v15
          refine g_iast rfl rfl v15 dX6_kind_55 ?_
          refine g_mem (fun u17 eu17 => ?_)
          have hu17 : iv u17 := by rw [eu17]; exact iv_upF hu (uk_pick1 _ (by omega))
          have fu17 : fr 13 22 u u17 := by rw [eu17]; exact fr_up f0 (by omega) (by omega)
          refine g_iload_n dX6_kind_56 rfl ?_
          exact g_iret (ty := .int) dX6_kind_57 rfl rfl ⟨⟨⟨_, rfl, by first | trivial | lia | grind⟩, hu17, fu17⟩, ee_i (by subst eu17; subst ex14; subst ex11; subst ex4; exact (if_neg c5).trans ((if_neg c6).trans ((if_pos c7).trans ((if_neg c12).trans (rfl)))))⟩
        · have zc12 := zx11 c12
          refine g_bipush (v := (-2)) dX6_kind_33 (by decide) ?_
          exact g_iret (ty := .int) dX6_kind_35 rfl rfl ⟨⟨⟨_, rfl, by first | trivial | lia | grind⟩, hu, f0⟩, ee_i (by subst ex11; subst ex4; exact (if_neg c5).trans ((if_neg c6).trans ((if_pos c7).trans ((if_pos c12).trans (rfl)))))⟩
      · refine g_iconst (v := (-1)) dX6_kind_20 (by decide) ?_
        exact g_iret (ty := .int) dX6_kind_21 rfl rfl ⟨⟨⟨_, rfl, by first | trivial | lia | grind⟩, hu, f0⟩, ee_i (by subst ex4; exact (if_neg c5).trans ((if_neg c6).trans ((if_neg c7).trans (rfl))))⟩
def e_X6_does (u : uk_Mem) (g : Int32) : Int32 × uk_Mem := let x4 : Int32 := (e_X0_hasDoing u 13 g); if x4 = 0 then (((-1 : Int32), u)) else (let x9 : Int32 := (e_X0_isAble u 13 g); if x9 = 0 then (((-2 : Int32), u)) else (let u12 : uk_Mem := e_X0_perform u 13 g; let x17 : Int32 := (e_X6_stuffOf u12 g); let x19 : Int32 := u12.1 19 x17.toNatClampNeg; (x19, u12)))
abbrev qe_X6_does (u : uk_Mem) (g : Int32) (r : Option Value) (u' : uk_Mem) : Prop := (q_X6_does u g r u') ∧ (r = some (.int (e_X6_does u g).1) ∧ u' = (e_X6_does u g).2)
set_option maxHeartbeats 4000000 in
set_option maxRecDepth 20000 in
theorem x_X6_does {G : uk_D} (hs : uk_Sep G) {u : uk_Mem} (hu : iv u) (g : Int32) (d : Nat) : uk_Meth G (d + 3) mX6_does [.ref (uk_ad G 0), .int g] u (qe_X6_does u g) := by
  refine uk_Meth.of hs (by decide) (Nat.le_of_ble_eq_true rfl) (fun X => ?_)
  have f0 : fr 13 22 u u := fr_rf
  refine g_aload_n dX6_does_0 rfl ?_
  refine f_X6_10 rfl rfl dX6_does_1 ?_
  refine g_iload_n dX6_does_4 rfl ?_
  refine cl_X6_149 (c := 13) (As := [.int g]) rfl (x_X0_hasDoing (G := G) hs hu uk_isK13 g  (d + 1)) rfl (by omega) rfl rfl (Nat.le_of_ble_eq_true rfl) dX6_does_5 (fun r1 u2 q3 => ?_)
  obtain ⟨q3, Eq3⟩ := q3
  obtain ⟨⟨x4, rfl, tx4, nx4, zx4⟩, mq3⟩ := q3
  rw [mq3]
  have ex4 : x4 = (e_X0_hasDoing u 13 g) := ee_v Eq3
  refine g_if_ne (tgt := 13) dX6_does_8 (by decide) (fun c5 => ?_) (fun c5 => ?_)
  · have zc5 := nx4 c5
    refine g_aload_n dX6_does_13 rfl ?_
    refine f_X6_10 rfl rfl dX6_does_14 ?_
    refine g_iload_n dX6_does_17 rfl ?_
    refine cl_X6_152 (c := 13) (As := [.int g]) rfl (x_X0_isAble (G := G) hs hu uk_isK13 g  (d)) rfl (by omega) rfl rfl (Nat.le_of_ble_eq_true rfl) dX6_does_18 (fun r6 u7 q8 => ?_)
    obtain ⟨q8, Eq8⟩ := q8
    obtain ⟨⟨x9, rfl, tx9, nx9, zx9⟩, mq8⟩ := q8
    rw [mq8]
    have ex9 : x9 = (e_X0_isAble u 13 g) := ee_v Eq8
    refine g_if_ne (tgt := 27) dX6_does_21 (by decide) (fun c10 => ?_) (fun c10 => ?_)
    · have zc10 := nx9 c10
      refine g_aload_n dX6_does_27 rfl ?_
      refine f_X6_10 rfl rfl dX6_does_28 ?_
      refine g_iload_n dX6_does_31 rfl ?_
      refine cl_X6_155 (c := 13) (As := [.int g]) rfl (x_X0_perform (G := G) hs hu uk_isK13 g (by first | trivial | decide | lia | grind) (d)) rfl (by omega) rfl rfl (Nat.le_of_ble_eq_true rfl) dX6_does_32 (fun r11 u12 q13 => ?_)
      obtain ⟨q13, Eq13⟩ := q13
      obtain ⟨rfl, mq13⟩ := q13
      obtain ⟨hu12, gu12⟩ := mq13
      have fu12 : fr 13 22 u u12 := fr_tr f0 gu12 (by omega) (by omega)
      have eu12 : u12 = e_X0_perform u 13 g := Eq13
      refine g_aload_n dX6_does_35 rfl ?_
      refine f_X6_10 rfl rfl dX6_does_36 ?_
      refine f_X6_143 rfl rfl dX6_does_39 ?_
      refine g_iload_n dX6_does_42 rfl ?_
      refine cl_X6_158 (As := [.int g]) rfl (x_X6_stuffOf (G := G) hs hu12  g  (d + 2)) rfl (by omega) rfl (Nat.le_of_ble_eq_true rfl) dX6_does_43 (fun r14 u15 q16 => ?_)
      obtain ⟨q16, Eq16⟩ := q16
      obtain ⟨⟨x17, rfl, tx17⟩, mq16⟩ := q16
      rw [mq16]
      have ex17 : x17 = (e_X6_stuffOf u12 g) := ee_v Eq16
      have v18 : vp_in x17 8 := uk_vin 8 rfl (by first | decide | lia | grind) (by first | decide | lia | grind)
      refine g_iald rfl rfl v18 dX6_does_46 ?_
      refine g_topi (fun x19 ex19 => ?_)
      exact g_iret (ty := .int) dX6_does_47 rfl rfl ⟨⟨⟨_, rfl, by first | trivial | lia | grind⟩, hu12, fu12⟩, ee_i (by subst ex19; subst ex17; subst eu12; subst ex9; subst ex4; exact (if_neg c5).trans ((if_neg c10).trans (rfl)))⟩
    · have zc10 := zx9 c10
      refine g_bipush (v := (-2)) dX6_does_24 (by decide) ?_
      exact g_iret (ty := .int) dX6_does_26 rfl rfl ⟨⟨⟨_, rfl, by first | trivial | lia | grind⟩, hu, f0⟩, ee_i (by subst ex9; subst ex4; exact (if_neg c5).trans ((if_pos c10).trans (rfl)))⟩
  · have zc5 := zx4 c5
    refine g_iconst (v := (-1)) dX6_does_11 (by decide) ?_
    exact g_iret (ty := .int) dX6_does_12 rfl rfl ⟨⟨⟨_, rfl, by first | trivial | lia | grind⟩, hu, f0⟩, ee_i (by subst ex4; exact (if_pos c5).trans (rfl))⟩
def e_X6_eat (u : uk_Mem) (m : Int32) : Int32 × uk_Mem := let x4 : Int32 := (e_X0_hasStuff u 13 m); if x4 = 0 then (((-1 : Int32), u)) else (let x7 : Int32 := u.1 19 m.toNatClampNeg; if x7 = 0 then (((-2 : Int32), u)) else (let x10 : Int32 := u.1 19 m.toNatClampNeg; let x11 : Int32 := x10 - (1 : Int32); let u14 : uk_Mem := uk_up u 19 m.toNatClampNeg x11; let x15 : Int32 := u14.1 13 10; let x18 : Int32 := u14.1 17 m.toNatClampNeg; let x19 : Int32 := x15 + x18; let u20 : uk_Mem := uk_up u14 13 10 x19; let x22 : Int32 := u20.1 13 10; (x22, u20)))
abbrev qe_X6_eat (u : uk_Mem) (m : Int32) (r : Option Value) (u' : uk_Mem) : Prop := (q_X6_eat u m r u') ∧ (r = some (.int (e_X6_eat u m).1) ∧ u' = (e_X6_eat u m).2)
set_option maxHeartbeats 4000000 in
set_option maxRecDepth 20000 in
theorem x_X6_eat {G : uk_D} (hs : uk_Sep G) {u : uk_Mem} (hu : iv u) (m : Int32) (d : Nat) : uk_Meth G (d + 1) mX6_eat [.ref (uk_ad G 0), .int m] u (qe_X6_eat u m) := by
  refine uk_Meth.of hs (by decide) (Nat.le_of_ble_eq_true rfl) (fun X => ?_)
  have f0 : fr 13 22 u u := fr_rf
  refine g_aload_n dX6_eat_0 rfl ?_
  refine f_X6_10 rfl rfl dX6_eat_1 ?_
  refine g_iload_n dX6_eat_4 rfl ?_
  refine cl_X6_118 (c := 13) (As := [.int m]) rfl (x_X0_hasStuff (G := G) hs hu uk_isK13 m  (d)) rfl (by omega) rfl rfl (Nat.le_of_ble_eq_true rfl) dX6_eat_5 (fun r1 u2 q3 => ?_)
  obtain ⟨q3, Eq3⟩ := q3
  obtain ⟨⟨x4, rfl, tx4, nx4, zx4⟩, mq3⟩ := q3
  rw [mq3]
  have ex4 : x4 = (e_X0_hasStuff u 13 m) := ee_v Eq3
  refine g_if_ne (tgt := 13) dX6_eat_8 (by decide) (fun c5 => ?_) (fun c5 => ?_)
  · have zc5 := nx4 c5
    refine g_aload_n dX6_eat_13 rfl ?_
    refine f_X6_10 rfl rfl dX6_eat_14 ?_
    refine f_X6_143 rfl rfl dX6_eat_17 ?_
    refine g_iload_n dX6_eat_20 rfl ?_
    have v6 : vp_in m 8 := uk_vin 8 rfl (by first | decide | lia | grind) (by first | decide | lia | grind)
    refine g_iald rfl rfl v6 dX6_eat_21 ?_
    refine g_topi (fun x7 ex7 => ?_)
    refine g_if_ne (tgt := 28) dX6_eat_22 (by decide) (fun c8 => ?_) (fun c8 => ?_)
    · refine g_aload_n dX6_eat_28 rfl ?_
      refine f_X6_10 rfl rfl dX6_eat_29 ?_
      refine f_X6_143 rfl rfl dX6_eat_32 ?_
      refine g_iload_n dX6_eat_35 rfl ?_
      refine g_dup2 dX6_eat_36 rfl rfl ?_
      have v9 : vp_in m 8 := uk_vin 8 rfl (by first | decide | lia | grind) (by first | decide | lia | grind)
      refine g_iald rfl rfl v9 dX6_eat_37 ?_
      refine g_topi (fun x10 ex10 => ?_)
      refine g_iconst (v := 1) dX6_eat_38 (by decide) ?_
      refine g_isub dX6_eat_39 ?_
      refine g_topi (fun x11 ex11 => ?_)
      have v12 : vp_in m 8 := uk_vin 8 rfl (by first | decide | lia | grind) (by first | decide | lia | grind)
      have b13 := uk_cl v12
      refine g_iast rfl rfl v12 dX6_eat_40 ?_
      refine g_mem (fun u14 eu14 => ?_)
      have hu14 : iv u14 := by rw [eu14]; exact iv_upF hu (uk_pick1 _ (by omega))
      have fu14 : fr 13 22 u u14 := by rw [eu14]; exact fr_up f0 (by omega) (by omega)
      refine g_aload_n dX6_eat_41 rfl ?_
      refine f_X6_10 rfl rfl dX6_eat_42 ?_
      refine g_dup dX6_eat_45 rfl ?_
      refine f_X6_106 rfl rfl dX6_eat_46 ?_
      refine g_topi (fun x15 ex15 => ?_)
      have s16 : u14.1 13 10 = x15 := ex15.symm
      refine g_aload_n dX6_eat_49 rfl ?_
      refine f_X6_10 rfl rfl dX6_eat_50 ?_
      refine f_X6_134 rfl rfl dX6_eat_53 ?_
      refine g_iload_n dX6_eat_56 rfl ?_
      have v17 : vp_in m 8 := uk_vin 8 rfl (by first | decide | lia | grind) (by first | decide | lia | grind)
      refine g_iald rfl rfl v17 dX6_eat_57 ?_
      refine g_topi (fun x18 ex18 => ?_)
      refine g_iadd dX6_eat_58 ?_
      refine g_topi (fun x19 ex19 => ?_)
      refine p_X6_106 rfl rfl dX6_eat_59 ?_
      refine g_mem (fun u20 eu20 => ?_)
      have hu20 : iv u20 := by rw [eu20]; exact iv_upF hu14 rfl
      have fu20 : fr 13 22 u u20 := by rw [eu20]; exact fr_up fu14 (by omega) (by omega)
      have s21 : u20.1 13 10 = x19 := by rw [eu20, uk_up_at]; exact if_pos ⟨rfl, rfl⟩
      refine g_aload_n dX6_eat_62 rfl ?_
      refine f_X6_10 rfl rfl dX6_eat_63 ?_
      refine f_X6_106 rfl rfl dX6_eat_66 ?_
      refine g_topi (fun x22 ex22 => ?_)
      have qx22 : x22 = x19 := by rw [ex22]; exact s21
      exact g_iret (ty := .int) dX6_eat_69 rfl rfl ⟨⟨⟨_, rfl, by first | trivial | lia | grind⟩, hu20, fu20⟩, ee_i (by subst ex22; subst eu20; subst ex19; subst ex18; subst ex15; subst eu14; subst ex11; subst ex10; subst ex7; subst ex4; exact (if_neg c5).trans ((if_neg c8).trans (rfl)))⟩
    · refine g_bipush (v := (-2)) dX6_eat_25 (by decide) ?_
      exact g_iret (ty := .int) dX6_eat_27 rfl rfl ⟨⟨⟨_, rfl, by first | trivial | lia | grind⟩, hu, f0⟩, ee_i (by subst ex7; subst ex4; exact (if_neg c5).trans ((if_pos c8).trans (rfl)))⟩
  · have zc5 := zx4 c5
    refine g_iconst (v := (-1)) dX6_eat_11 (by decide) ?_
    exact g_iret (ty := .int) dX6_eat_12 rfl rfl ⟨⟨⟨_, rfl, by first | trivial | lia | grind⟩, hu, f0⟩, ee_i (by subst ex4; exact (if_pos c5).trans (rfl))⟩
def l_X6_can_13 (u : uk_Mem) (w : Int32) : Nat → Int32 → Int32 → Int32
  | 0, _, _ => 0
  | K9 + 1, i8, w7 => let x9 : Int32 := u.1 13 0; if x9 ≤ i8 then (w7) else (let x12 : Int32 := w * (10 : Int32); let x13 : Int32 := x12 + i8; let x17 : Int32 := (e_X0_isAble u 13 x13); if x17 = 0 then (l_X6_can_13 u w K9 (i8 + 1) w7) else (let x19 : Int32 := (1 : Int32) <<< (i8 &&& 31); let x20 : Int32 := w7 ||| x19; l_X6_can_13 u w K9 (i8 + 1) x20))
def e_X6_can (u : uk_Mem) (w : Int32) : Int32 := let x4 : Int32 := (e_X6_isFlag u w); if x4 = 0 then ((-1 : Int32)) else (l_X6_can_13 u w ee_K (0 : Int32) (0 : Int32))
abbrev qe_X6_can (u : uk_Mem) (w : Int32) (r : Option Value) (u' : uk_Mem) : Prop := (q_X6_can u w r u') ∧ (r = some (.int (e_X6_can u w)))
set_option maxHeartbeats 4000000 in
set_option maxRecDepth 20000 in
theorem x_X6_can {G : uk_D} (hs : uk_Sep G) {u : uk_Mem} (hu : iv u) (w : Int32) (d : Nat) : uk_Meth G (d + 3) mX6_can [.ref (uk_ad G 0), .int w] u (qe_X6_can u w) := by
  refine uk_Meth.of hs (by decide) (Nat.le_of_ble_eq_true rfl) (fun X => ?_)
  refine g_iload_n dX6_can_0 rfl ?_
  refine cl_X6_162 (As := [.int w]) rfl (x_X6_isFlag (G := G) hs hu  w  (d + 2)) rfl (by omega) rfl (Nat.le_of_ble_eq_true rfl) dX6_can_1 (fun r1 u2 q3 => ?_)
  obtain ⟨q3, Eq3⟩ := q3
  obtain ⟨⟨x4, rfl, tx4, nx4, zx4⟩, mq3⟩ := q3
  rw [mq3]
  have ex4 : x4 = (e_X6_isFlag u w) := ee_v Eq3
  refine g_if_ne (tgt := 9) dX6_can_4 (by decide) (fun c5 => ?_) (fun c5 => ?_)
  · have zc5 := nx4 c5
    refine g_iconst (v := 0) dX6_can_9 (by decide) ?_
    refine g_istore_n dX6_can_10 (by decide) ?_
    refine g_pick (lv' := [(0, .ref (uk_ad G 0)), (1, .int w), (2, .int 0)]) [0, 1, 2] rfl ?_
    refine g_iconst (v := 0) dX6_can_11 (by decide) ?_
    refine g_istore_n dX6_can_12 (by decide) ?_
    refine g_pick (lv' := [(0, .ref (uk_ad G 0)), (1, .int w), (2, .int 0), (3, .int 0)]) [0, 1, 2, 3] rfl ?_
    have L13_5 : ∀ i8 : Int32, 0 ≤ i8 → i8 ≤ 8 → ∀ (w7 : Int32), (∃ ki8 : Nat, ee_F 8 i8 ki8 ∧ e_X6_can u w = l_X6_can_13 u w ki8 i8 w7) → uk_G G X mX6_can (d + 3) (qe_X6_can u w) 13 [(0, .ref (uk_ad G 0)), (1, .int w), (2, .int w7), (3, .int i8)] [] u := by
      refine uk_upl 8 ?_
      intro i8 ai8 bi8 ihi8 w7 jEi8
      obtain ⟨ki8, fki8, hki8⟩ := jEi8
      obtain ⟨ki8, rfl⟩ := ee_Fp (by first | assumption | lia | grind) fki8
      refine g_iload_n dX6_can_13 rfl ?_
      refine g_aload_n dX6_can_14 rfl ?_
      refine f_X6_10 rfl rfl dX6_can_15 ?_
      refine f_X6_105 rfl rfl dX6_can_18 ?_
      refine g_topi (fun x9 ex9 => ?_)
      have rx9 : 0 ≤ x9 ∧ x9 ≤ 8 := by rw [ex9]; exact iv_at hu _ _ rfl
      have s10 : u.1 13 0 = x9 := ex9.symm
      refine g_icmp_ge (tgt := 52) dX6_can_21 (by decide) (fun c11 => ?_) (fun c11 => ?_)
      · refine g_iload_n dX6_can_52 rfl ?_
        exact g_iret (ty := .int) dX6_can_53 rfl rfl ⟨⟨⟨_, rfl, by first | trivial | lia | grind⟩, rfl⟩, ee_p (by subst ex9; exact hki8.trans ((if_pos c11).trans (rfl)))⟩
      · refine g_aload_n dX6_can_24 rfl ?_
        refine f_X6_10 rfl rfl dX6_can_25 ?_
        refine g_iload_n dX6_can_28 rfl ?_
        refine g_bipush (v := 10) dX6_can_29 (by decide) ?_
        refine g_imul dX6_can_31 ?_
        refine g_topi (fun x12 ex12 => ?_)
        refine g_iload_n dX6_can_32 rfl ?_
        refine g_iadd dX6_can_33 ?_
        refine g_topi (fun x13 ex13 => ?_)
        refine cl_X6_152 (c := 13) (As := [.int x13]) rfl (x_X0_isAble (G := G) hs hu uk_isK13 x13  (d)) rfl (by omega) rfl rfl (Nat.le_of_ble_eq_true rfl) dX6_can_34 (fun r14 u15 q16 => ?_)
        obtain ⟨q16, Eq16⟩ := q16
        obtain ⟨⟨x17, rfl, tx17, nx17, zx17⟩, mq16⟩ := q16
        rw [mq16]
        have ex17 : x17 = (e_X0_isAble u 13 x13) := ee_v Eq16
        refine g_if_eq (tgt := 46) dX6_can_37 (by decide) (fun c18 => ?_) (fun c18 => ?_)
        · have zc18 := zx17 c18
          refine g_iinc (v := i8 + 1) dX6_can_46 rfl rfl (by decide) ?_
          refine g_pick (lv' := [(0, .ref (uk_ad G 0)), (1, .int w), (2, .int w7), (3, .int (i8 + 1))]) [0, 1, 2, 3] rfl ?_
          refine g_goto (tgt := 13) dX6_can_49 (by decide) ?_
          refine g_pick (lv' := [(0, .ref (uk_ad G 0)), (1, .int w), (2, .int w7), (3, .int (i8 + 1))]) [0, 1, 2, 3] rfl ?_
          exact ihi8 (by first | lia | grind) w7  ⟨ki8, ee_Fs fki8 (by first | assumption | lia | grind), by subst ex17; subst ex13; subst ex12; subst ex9; exact hki8.trans ((if_neg c11).trans ((if_pos c18).trans (rfl)))⟩
        · have zc18 := nx17 c18
          refine g_iload_n dX6_can_40 rfl ?_
          refine g_iconst (v := 1) dX6_can_41 (by decide) ?_
          refine g_iload_n dX6_can_42 rfl ?_
          refine g_ishl dX6_can_43 (fun x19 ex19 => ?_)
          refine g_ior dX6_can_44 ?_
          refine g_topi (fun x20 ex20 => ?_)
          refine g_istore_n dX6_can_45 (by decide) ?_
          refine g_pick (lv' := [(0, .ref (uk_ad G 0)), (1, .int w), (2, .int x20), (3, .int i8)]) [0, 1, 2, 3] rfl ?_
          refine g_iinc (v := i8 + 1) dX6_can_46 rfl rfl (by decide) ?_
          refine g_pick (lv' := [(0, .ref (uk_ad G 0)), (1, .int w), (2, .int x20), (3, .int (i8 + 1))]) [0, 1, 2, 3] rfl ?_
          refine g_goto (tgt := 13) dX6_can_49 (by decide) ?_
          refine g_pick (lv' := [(0, .ref (uk_ad G 0)), (1, .int w), (2, .int x20), (3, .int (i8 + 1))]) [0, 1, 2, 3] rfl ?_
          exact ihi8 (by first | lia | grind) x20  ⟨ki8, ee_Fs fki8 (by first | assumption | lia | grind), by subst ex20; subst ex19; subst ex17; subst ex13; subst ex12; subst ex9; exact hki8.trans ((if_neg c11).trans ((if_neg c18).trans (rfl)))⟩
    refine g_pick (lv' := [(0, .ref (uk_ad G 0)), (1, .int w), (2, .int 0), (3, .int 0)]) [0, 1, 2, 3] rfl ?_
    exact L13_5 0 (by first | decide | lia | grind) (by first | decide | lia | grind) 0  ⟨ee_K, ee_F0 _ _, by subst ex4; exact (if_neg c5).trans (rfl)⟩
  · have zc5 := zx4 c5
    refine g_iconst (v := (-1)) dX6_can_7 (by decide) ?_
    exact g_iret (ty := .int) dX6_can_8 rfl rfl ⟨⟨⟨_, rfl, by first | trivial | lia | grind⟩, rfl⟩, ee_p (by subst ex4; exact (if_pos c5).trans (rfl))⟩
def e_X6_see (u : uk_Mem) (b : Int32) : Int32 × uk_Mem := let x4 : Int32 := (e_X0_hasStuff u 13 b); if x4 = 0 then (((-1 : Int32), u)) else (let x6 : Int32 := u.1 13 9; if x6 < (8 : Int32) then (let x9 : Int32 := u.1 13 9; let u12 : uk_Mem := uk_up u 21 x9.toNatClampNeg b; let x13 : Int32 := u12.1 13 9; let x14 : Int32 := x13 + (1 : Int32); let u15 : uk_Mem := uk_up u12 13 9 x14; let x17 : Int32 := u15.1 13 9; (x17, u15)) else (((-3 : Int32), u)))
abbrev qe_X6_see (u : uk_Mem) (b : Int32) (r : Option Value) (u' : uk_Mem) : Prop := (q_X6_see u b r u') ∧ (r = some (.int (e_X6_see u b).1) ∧ u' = (e_X6_see u b).2)
set_option maxHeartbeats 4000000 in
set_option maxRecDepth 20000 in
theorem x_X6_see {G : uk_D} (hs : uk_Sep G) {u : uk_Mem} (hu : iv u) (b : Int32) (d : Nat) : uk_Meth G (d + 1) mX6_see [.ref (uk_ad G 0), .int b] u (qe_X6_see u b) := by
  refine uk_Meth.of hs (by decide) (Nat.le_of_ble_eq_true rfl) (fun X => ?_)
  have f0 : fr 13 22 u u := fr_rf
  refine g_aload_n dX6_see_0 rfl ?_
  refine f_X6_10 rfl rfl dX6_see_1 ?_
  refine g_iload_n dX6_see_4 rfl ?_
  refine cl_X6_118 (c := 13) (As := [.int b]) rfl (x_X0_hasStuff (G := G) hs hu uk_isK13 b  (d)) rfl (by omega) rfl rfl (Nat.le_of_ble_eq_true rfl) dX6_see_5 (fun r1 u2 q3 => ?_)
  obtain ⟨q3, Eq3⟩ := q3
  obtain ⟨⟨x4, rfl, tx4, nx4, zx4⟩, mq3⟩ := q3
  rw [mq3]
  have ex4 : x4 = (e_X0_hasStuff u 13 b) := ee_v Eq3
  refine g_if_ne (tgt := 13) dX6_see_8 (by decide) (fun c5 => ?_) (fun c5 => ?_)
  · have zc5 := nx4 c5
    refine g_aload_n dX6_see_13 rfl ?_
    refine f_X6_10 rfl rfl dX6_see_14 ?_
    refine f_X6_223 rfl rfl dX6_see_17 ?_
    refine g_topi (fun x6 ex6 => ?_)
    have rx6 : 0 ≤ x6 ∧ x6 ≤ 8 := by rw [ex6]; exact iv_at hu _ _ rfl
    have s7 : u.1 13 9 = x6 := ex6.symm
    refine g_bipush (v := 8) dX6_see_20 (by decide) ?_
    refine g_icmp_lt (tgt := 28) dX6_see_22 (by decide) (fun c8 => ?_) (fun c8 => ?_)
    · refine g_aload_n dX6_see_28 rfl ?_
      refine f_X6_10 rfl rfl dX6_see_29 ?_
      refine f_X6_226 rfl rfl dX6_see_32 ?_
      refine g_aload_n dX6_see_35 rfl ?_
      refine f_X6_10 rfl rfl dX6_see_36 ?_
      refine f_X6_223 rfl rfl dX6_see_39 ?_
      refine g_topi (fun x9 ex9 => ?_)
      have rx9 : 0 ≤ x9 ∧ x9 ≤ 8 := by rw [ex9]; exact iv_at hu _ _ rfl
      have qx9 : x9 = x6 := by rw [ex9]; exact s7
      refine g_iload_n dX6_see_42 rfl ?_
      have v10 : vp_in x9 8 := uk_vin 8 rfl (by first | decide | lia | grind) (by first | decide | lia | grind)
      have b11 := uk_cl v10
      refine g_iast rfl rfl v10 dX6_see_43 ?_
      refine g_mem (fun u12 eu12 => ?_)
      have hu12 : iv u12 := by rw [eu12]; exact iv_up hu (uk_pick1 _ (by omega)) (by first | lia | grind) (by first | lia | grind)
      have fu12 : fr 13 22 u u12 := by rw [eu12]; exact fr_up f0 (by omega) (by omega)
      refine g_aload_n dX6_see_44 rfl ?_
      refine f_X6_10 rfl rfl dX6_see_45 ?_
      refine g_dup dX6_see_48 rfl ?_
      refine f_X6_223 rfl rfl dX6_see_49 ?_
      refine g_topi (fun x13 ex13 => ?_)
      have rx13 : 0 ≤ x13 ∧ x13 ≤ 8 := by rw [ex13]; exact iv_at hu12 _ _ rfl
      have qx13 : x13 = x6 := by rw [ex13]; simp [eu12, uk_up_at, s7]
      refine g_iconst (v := 1) dX6_see_52 (by decide) ?_
      refine g_iadd dX6_see_53 ?_
      refine g_topi (fun x14 ex14 => ?_)
      refine p_X6_223 rfl rfl dX6_see_54 ?_
      refine g_mem (fun u15 eu15 => ?_)
      have hu15 : iv u15 := by rw [eu15]; exact iv_up hu12 rfl (by first | lia | grind) (by first | lia | grind)
      have fu15 : fr 13 22 u u15 := by rw [eu15]; exact fr_up fu12 (by omega) (by omega)
      have s16 : u15.1 13 9 = x14 := by rw [eu15, uk_up_at]; exact if_pos ⟨rfl, rfl⟩
      refine g_aload_n dX6_see_57 rfl ?_
      refine f_X6_10 rfl rfl dX6_see_58 ?_
      refine f_X6_223 rfl rfl dX6_see_61 ?_
      refine g_topi (fun x17 ex17 => ?_)
      have rx17 : 0 ≤ x17 ∧ x17 ≤ 8 := by rw [ex17]; exact iv_at hu15 _ _ rfl
      have qx17 : x17 = x14 := by rw [ex17]; exact s16
      exact g_iret (ty := .int) dX6_see_64 rfl rfl ⟨⟨⟨_, rfl, by first | trivial | lia | grind⟩, hu15, fu15⟩, ee_i (by subst ex17; subst eu15; subst ex14; subst ex13; subst eu12; subst ex9; subst ex6; subst ex4; exact (if_neg c5).trans ((if_pos c8).trans (rfl)))⟩
    · refine g_bipush (v := (-3)) dX6_see_25 (by decide) ?_
      exact g_iret (ty := .int) dX6_see_27 rfl rfl ⟨⟨⟨_, rfl, by first | trivial | lia | grind⟩, hu, f0⟩, ee_i (by subst ex6; subst ex4; exact (if_neg c5).trans ((if_neg c8).trans (rfl)))⟩
  · have zc5 := zx4 c5
    refine g_iconst (v := (-1)) dX6_see_11 (by decide) ?_
    exact g_iret (ty := .int) dX6_see_12 rfl rfl ⟨⟨⟨_, rfl, by first | trivial | lia | grind⟩, hu, f0⟩, ee_i (by subst ex4; exact (if_pos c5).trans (rfl))⟩
def e_X6_forget (u : uk_Mem) (n : Int32) : Int32 × uk_Mem := if n < 0 then (((-1 : Int32), u)) else (let x2 : Int32 := u.1 13 9; if n ≤ x2 then (let x5 : Int32 := u.1 13 9; let u6 : uk_Mem := uk_up u 13 9 n; (x5, u6)) else (((-1 : Int32), u)))
abbrev qe_X6_forget (u : uk_Mem) (n : Int32) (r : Option Value) (u' : uk_Mem) : Prop := (q_X6_forget u n r u') ∧ (r = some (.int (e_X6_forget u n).1) ∧ u' = (e_X6_forget u n).2)
set_option maxHeartbeats 4000000 in
set_option maxRecDepth 20000 in
theorem x_X6_forget {G : uk_D} (hs : uk_Sep G) {u : uk_Mem} (hu : iv u) (n : Int32) (d : Nat) : uk_Meth G d mX6_forget [.ref (uk_ad G 0), .int n] u (qe_X6_forget u n) := by
  refine uk_Meth.of hs (by decide) (Nat.le_of_ble_eq_true rfl) (fun X => ?_)
  have f0 : fr 13 22 u u := fr_rf
  refine g_iload_n dX6_forget_0 rfl ?_
  refine g_if_lt (tgt := 15) dX6_forget_1 (by decide) (fun c1 => ?_) (fun c1 => ?_)
  · refine g_iconst (v := (-1)) dX6_forget_15 (by decide) ?_
    exact g_iret (ty := .int) dX6_forget_16 rfl rfl ⟨⟨⟨_, rfl, by first | trivial | lia | grind⟩, hu, f0⟩, ee_i (by exact (if_pos c1).trans (rfl))⟩
  · refine g_iload_n dX6_forget_4 rfl ?_
    refine g_aload_n dX6_forget_5 rfl ?_
    refine f_X6_10 rfl rfl dX6_forget_6 ?_
    refine f_X6_223 rfl rfl dX6_forget_9 ?_
    refine g_topi (fun x2 ex2 => ?_)
    have rx2 : 0 ≤ x2 ∧ x2 ≤ 8 := by rw [ex2]; exact iv_at hu _ _ rfl
    have s3 : u.1 13 9 = x2 := ex2.symm
    refine g_icmp_le (tgt := 17) dX6_forget_12 (by decide) (fun c4 => ?_) (fun c4 => ?_)
    · refine g_aload_n dX6_forget_17 rfl ?_
      refine f_X6_10 rfl rfl dX6_forget_18 ?_
      refine f_X6_223 rfl rfl dX6_forget_21 ?_
      refine g_topi (fun x5 ex5 => ?_)
      have rx5 : 0 ≤ x5 ∧ x5 ≤ 8 := by rw [ex5]; exact iv_at hu _ _ rfl
      have qx5 : x5 = x2 := by rw [ex5]; exact s3
      refine g_istore_n dX6_forget_24 (by decide) ?_
      refine g_pick (lv' := [(0, .ref (uk_ad G 0)), (1, .int n), (2, .int x5)]) [0, 1, 2] rfl ?_
      refine g_aload_n dX6_forget_25 rfl ?_
      refine f_X6_10 rfl rfl dX6_forget_26 ?_
      refine g_iload_n dX6_forget_29 rfl ?_
      refine p_X6_223 rfl rfl dX6_forget_30 ?_
      refine g_mem (fun u6 eu6 => ?_)
      have hu6 : iv u6 := by rw [eu6]; exact iv_up hu rfl (by first | lia | grind) (by first | lia | grind)
      have fu6 : fr 13 22 u u6 := by rw [eu6]; exact fr_up f0 (by omega) (by omega)
      have s7 : u6.1 13 9 = n := by rw [eu6, uk_up_at]; exact if_pos ⟨rfl, rfl⟩
      refine g_iload_n dX6_forget_33 rfl ?_
      exact g_iret (ty := .int) dX6_forget_34 rfl rfl ⟨⟨⟨_, rfl, by first | trivial | lia | grind⟩, hu6, fu6⟩, ee_i (by subst eu6; subst ex5; subst ex2; exact (if_neg c1).trans ((if_pos c4).trans (rfl)))⟩
    · refine g_iconst (v := (-1)) dX6_forget_15 (by decide) ?_
      exact g_iret (ty := .int) dX6_forget_16 rfl rfl ⟨⟨⟨_, rfl, by first | trivial | lia | grind⟩, hu, f0⟩, ee_i (by subst ex2; exact (if_neg c1).trans ((if_neg c4).trans (rfl)))⟩
def e_X6_keep (u : uk_Mem) (k : Int32) : Int32 × uk_Mem := let x4 : Int32 := (e_X6_isImage u k); if x4 = 0 then (((-1 : Int32), u)) else (let x7 : Int32 := u.1 40 k.toNatClampNeg; if x7 = 0 then (let x12 : Nat := if k = 0 then 22 else 31; let u14 : uk_Mem := e_X0_copyFrom u x12 13; let u18 : uk_Mem := uk_up u14 40 k.toNatClampNeg (1 : Int32); ((0 : Int32), u18)) else (let x22 : Nat := if k = 0 then 22 else 31; let u24 : uk_Mem := e_X0_copyFrom u x22 13; let u28 : uk_Mem := uk_up u24 40 k.toNatClampNeg (1 : Int32); ((1 : Int32), u28)))
abbrev qe_X6_keep (u : uk_Mem) (k : Int32) (r : Option Value) (u' : uk_Mem) : Prop := (q_X6_keep u k r u') ∧ (r = some (.int (e_X6_keep u k).1) ∧ u' = (e_X6_keep u k).2)
set_option maxHeartbeats 4000000 in
set_option maxRecDepth 20000 in
theorem x_X6_keep {G : uk_D} (hs : uk_Sep G) {u : uk_Mem} (hu : iv u) (k : Int32) (d : Nat) : uk_Meth G (d + 1) mX6_keep [.ref (uk_ad G 0), .int k] u (qe_X6_keep u k) := by
  refine uk_Meth.of hs (by decide) (Nat.le_of_ble_eq_true rfl) (fun X => ?_)
  have f0 : fr 22 41 u u := fr_rf
  refine g_iload_n dX6_keep_0 rfl ?_
  refine cl_X6_244 (As := [.int k]) rfl (x_X6_isImage (G := G) hs hu  k  (d)) rfl (by omega) rfl (Nat.le_of_ble_eq_true rfl) dX6_keep_1 (fun r1 u2 q3 => ?_)
  obtain ⟨q3, Eq3⟩ := q3
  obtain ⟨⟨x4, rfl, tx4, nx4, zx4⟩, mq3⟩ := q3
  rw [mq3]
  have ex4 : x4 = (e_X6_isImage u k) := ee_v Eq3
  refine g_if_ne (tgt := 9) dX6_keep_4 (by decide) (fun c5 => ?_) (fun c5 => ?_)
  · have zc5 := nx4 c5
    refine g_aload_n dX6_keep_9 rfl ?_
    refine f_X6_41 rfl rfl dX6_keep_10 ?_
    refine g_iload_n dX6_keep_13 rfl ?_
    have v6 : vp_in k 2 := uk_vin 2 rfl (by first | decide | lia | grind) (by first | decide | lia | grind)
    refine g_zald rfl rfl v6 dX6_keep_14 ?_
    refine g_topi (fun x7 ex7 => ?_)
    have bx7 := uk_cl v6
    have rx7 : 0 ≤ x7 ∧ x7 ≤ 1 := by rw [ex7]; exact iv_at hu _ _ (uk_pick1 _ (by omega))
    refine g_if_eq (tgt := 22) dX6_keep_15 (by decide) (fun c8 => ?_) (fun c8 => ?_)
    · refine g_iconst (v := 0) dX6_keep_22 (by decide) ?_
      refine g_istore_n dX6_keep_23 (by decide) ?_
      refine g_pick (lv' := [(0, .ref (uk_ad G 0)), (1, .int k), (2, .int 0)]) [0, 1, 2] rfl ?_
      refine g_aload_n dX6_keep_24 rfl ?_
      refine g_iload_n dX6_keep_25 rfl ?_
      refine cl_X6_247 (c := 0) (As := [.int k]) rfl (c_X6_imageOf_e (G := G) hs hu  k  (d)) rfl (by omega) rfl rfl (Nat.le_of_ble_eq_true rfl) dX6_keep_26 (fun r9 u10 q11 => ?_)
      obtain ⟨⟨x12, rfl, tx12⟩, mq11⟩ := q11
      have hx12 : uk_isK x12 := by rcases tx12.1 with q | q <;> (rw [q]; unfold uk_isK; decide)
      rw [mq11]
      have ex12 : x12 = (if k = 0 then 22 else 31) := tx12.2
      refine g_aload_n dX6_keep_29 rfl ?_
      refine f_X6_10 rfl rfl dX6_keep_30 ?_
      refine cl_X6_101 (c := x12) (As := [.ref (uk_ad G 13)]) rfl (x_X0_copyFrom (G := G) hs hu hx12 uk_isK13   (d)) rfl (by omega) (kk_0 hx12) rfl (Nat.le_of_ble_eq_true rfl) dX6_keep_33 (fun r13 u14 q15 => ?_)
      obtain ⟨q15, Eq15⟩ := q15
      obtain ⟨rfl, mq15⟩ := q15
      obtain ⟨hu14, gu14⟩ := mq15
      have fu14 : fr 22 41 u u14 := fr_tr f0 gu14 (by omega) (by omega)
      have eu14 : u14 = e_X0_copyFrom u x12 13 := Eq15
      refine g_aload_n dX6_keep_36 rfl ?_
      refine f_X6_41 rfl rfl dX6_keep_37 ?_
      refine g_iload_n dX6_keep_40 rfl ?_
      refine g_iconst (v := 1) dX6_keep_41 (by decide) ?_
      have v16 : vp_in k 2 := uk_vin 2 rfl (by first | decide | lia | grind) (by first | decide | lia | grind)
      have b17 := uk_cl v16
      refine g_zast rfl rfl v16 dX6_keep_42 ?_
      rw [show vp_nar .boolean 1 = 1 from rfl]
      refine g_mem (fun u18 eu18 => ?_)
      have hu18 : iv u18 := by rw [eu18]; exact iv_up hu14 (uk_pick1 _ (by omega)) (by first | lia | grind) (by first | lia | grind)
      have fu18 : fr 22 41 u u18 := by rw [eu18]; exact fr_up fu14 (by omega) (by omega)
      refine g_iload_n dX6_keep_43 rfl ?_
      exact g_iret (ty := .int) dX6_keep_44 rfl rfl ⟨⟨⟨_, rfl, by first | trivial | lia | grind⟩, hu18, fu18⟩, ee_i (by subst eu18; subst eu14; subst ex12; subst ex7; subst ex4; exact (if_neg c5).trans ((if_pos c8).trans (rfl)))⟩
    · refine g_iconst (v := 1) dX6_keep_18 (by decide) ?_
      refine g_goto (tgt := 23) dX6_keep_19 (by decide) ?_
      refine g_istore_n dX6_keep_23 (by decide) ?_
      refine g_pick (lv' := [(0, .ref (uk_ad G 0)), (1, .int k), (2, .int 1)]) [0, 1, 2] rfl ?_
      refine g_aload_n dX6_keep_24 rfl ?_
      refine g_iload_n dX6_keep_25 rfl ?_
      refine cl_X6_247 (c := 0) (As := [.int k]) rfl (c_X6_imageOf_e (G := G) hs hu  k  (d)) rfl (by omega) rfl rfl (Nat.le_of_ble_eq_true rfl) dX6_keep_26 (fun r19 u20 q21 => ?_)
      obtain ⟨⟨x22, rfl, tx22⟩, mq21⟩ := q21
      have hx22 : uk_isK x22 := by rcases tx22.1 with q | q <;> (rw [q]; unfold uk_isK; decide)
      rw [mq21]
      have ex22 : x22 = (if k = 0 then 22 else 31) := tx22.2
      refine g_aload_n dX6_keep_29 rfl ?_
      refine f_X6_10 rfl rfl dX6_keep_30 ?_
      refine cl_X6_101 (c := x22) (As := [.ref (uk_ad G 13)]) rfl (x_X0_copyFrom (G := G) hs hu hx22 uk_isK13   (d)) rfl (by omega) (kk_0 hx22) rfl (Nat.le_of_ble_eq_true rfl) dX6_keep_33 (fun r23 u24 q25 => ?_)
      obtain ⟨q25, Eq25⟩ := q25
      obtain ⟨rfl, mq25⟩ := q25
      obtain ⟨hu24, gu24⟩ := mq25
      have fu24 : fr 22 41 u u24 := fr_tr f0 gu24 (by omega) (by omega)
      have eu24 : u24 = e_X0_copyFrom u x22 13 := Eq25
      refine g_aload_n dX6_keep_36 rfl ?_
      refine f_X6_41 rfl rfl dX6_keep_37 ?_
      refine g_iload_n dX6_keep_40 rfl ?_
      refine g_iconst (v := 1) dX6_keep_41 (by decide) ?_
      have v26 : vp_in k 2 := uk_vin 2 rfl (by first | decide | lia | grind) (by first | decide | lia | grind)
      have b27 := uk_cl v26
      refine g_zast rfl rfl v26 dX6_keep_42 ?_
      rw [show vp_nar .boolean 1 = 1 from rfl]
      refine g_mem (fun u28 eu28 => ?_)
      have hu28 : iv u28 := by rw [eu28]; exact iv_up hu24 (uk_pick1 _ (by omega)) (by first | lia | grind) (by first | lia | grind)
      have fu28 : fr 22 41 u u28 := by rw [eu28]; exact fr_up fu24 (by omega) (by omega)
      refine g_iload_n dX6_keep_43 rfl ?_
      exact g_iret (ty := .int) dX6_keep_44 rfl rfl ⟨⟨⟨_, rfl, by first | trivial | lia | grind⟩, hu28, fu28⟩, ee_i (by subst eu28; subst eu24; subst ex22; subst ex7; subst ex4; exact (if_neg c5).trans ((if_neg c8).trans (rfl)))⟩
  · have zc5 := zx4 c5
    refine g_iconst (v := (-1)) dX6_keep_7 (by decide) ?_
    exact g_iret (ty := .int) dX6_keep_8 rfl rfl ⟨⟨⟨_, rfl, by first | trivial | lia | grind⟩, hu, f0⟩, ee_i (by subst ex4; exact (if_pos c5).trans (rfl))⟩
