def e_X6_back (u : uk_Mem) (k : Int32) : Int32 × uk_Mem := let x4 : Int32 := (e_X6_isImage u k); if x4 = 0 then (((-1 : Int32), u)) else (let x7 : Int32 := u.1 40 k.toNatClampNeg; if x7 = 0 then (((-2 : Int32), u)) else (let x12 : Nat := if k = 0 then 22 else 31; let u14 : uk_Mem := e_X0_copyFrom u 13 x12; let x16 : Int32 := u14.1 13 10; (x16, u14)))
abbrev qe_X6_back (u : uk_Mem) (k : Int32) (r : Option Value) (u' : uk_Mem) : Prop := (q_X6_back u k r u') ∧ (r = some (.int (e_X6_back u k).1) ∧ u' = (e_X6_back u k).2)
set_option maxHeartbeats 4000000 in
set_option maxRecDepth 20000 in
theorem x_X6_back {G : uk_D} (hs : uk_Sep G) {u : uk_Mem} (hu : iv u) (k : Int32) (d : Nat) : uk_Meth G (d + 1) mX6_back [.ref (uk_ad G 0), .int k] u (qe_X6_back u k) := by
  refine uk_Meth.of hs (by decide) (Nat.le_of_ble_eq_true rfl) (fun X => ?_)
  have f0 : fr 13 22 u u := fr_rf
  refine g_iload_n dX6_back_0 rfl ?_
  refine cl_X6_244 (As := [.int k]) rfl (x_X6_isImage (G := G) hs hu  k  (d)) rfl (by omega) rfl (Nat.le_of_ble_eq_true rfl) dX6_back_1 (fun r1 u2 q3 => ?_)
  obtain ⟨q3, Eq3⟩ := q3
  obtain ⟨⟨x4, rfl, tx4, nx4, zx4⟩, mq3⟩ := q3
  rw [mq3]
  have ex4 : x4 = (e_X6_isImage u k) := ee_v Eq3
  refine g_if_ne (tgt := 9) dX6_back_4 (by decide) (fun c5 => ?_) (fun c5 => ?_)
  · have zc5 := nx4 c5
    refine g_aload_n dX6_back_9 rfl ?_
    refine f_X6_41 rfl rfl dX6_back_10 ?_
    refine g_iload_n dX6_back_13 rfl ?_
    have v6 : vp_in k 2 := uk_vin 2 rfl (by first | decide | lia | grind) (by first | decide | lia | grind)
    refine g_zald rfl rfl v6 dX6_back_14 ?_
    refine g_topi (fun x7 ex7 => ?_)
    have bx7 := uk_cl v6
    have rx7 : 0 ≤ x7 ∧ x7 ≤ 1 := by rw [ex7]; exact iv_at hu _ _ (uk_pick1 _ (by omega))
    refine g_if_ne (tgt := 21) dX6_back_15 (by decide) (fun c8 => ?_) (fun c8 => ?_)
    · refine g_aload_n dX6_back_21 rfl ?_
      refine f_X6_10 rfl rfl dX6_back_22 ?_
      refine g_aload_n dX6_back_25 rfl ?_
      refine g_iload_n dX6_back_26 rfl ?_
      refine cl_X6_247 (c := 0) (As := [.int k]) rfl (c_X6_imageOf_e (G := G) hs hu  k  (d)) rfl (by omega) rfl rfl (Nat.le_of_ble_eq_true rfl) dX6_back_27 (fun r9 u10 q11 => ?_)
      obtain ⟨⟨x12, rfl, tx12⟩, mq11⟩ := q11
      have hx12 : uk_isK x12 := by rcases tx12.1 with q | q <;> (rw [q]; unfold uk_isK; decide)
      rw [mq11]
      have ex12 : x12 = (if k = 0 then 22 else 31) := tx12.2
      refine cl_X6_101 (c := 13) (As := [.ref (uk_ad G x12)]) rfl (x_X0_copyFrom (G := G) hs hu uk_isK13 hx12   (d)) rfl (by omega) rfl rfl (Nat.le_of_ble_eq_true rfl) dX6_back_30 (fun r13 u14 q15 => ?_)
      obtain ⟨q15, Eq15⟩ := q15
      obtain ⟨rfl, mq15⟩ := q15
      obtain ⟨hu14, gu14⟩ := mq15
      have fu14 : fr 13 22 u u14 := fr_tr f0 gu14 (by omega) (by omega)
      have eu14 : u14 = e_X0_copyFrom u 13 x12 := Eq15
      refine g_aload_n dX6_back_33 rfl ?_
      refine f_X6_10 rfl rfl dX6_back_34 ?_
      refine f_X6_106 rfl rfl dX6_back_37 ?_
      refine g_topi (fun x16 ex16 => ?_)
      have s17 : u14.1 13 10 = x16 := ex16.symm
      exact g_iret (ty := .int) dX6_back_40 rfl rfl ⟨⟨⟨_, rfl, by first | trivial | lia | grind⟩, hu14, fu14⟩, ee_i (by subst ex16; subst eu14; subst ex12; subst ex7; subst ex4; exact (if_neg c5).trans ((if_neg c8).trans (rfl)))⟩
    · refine g_bipush (v := (-2)) dX6_back_18 (by decide) ?_
      exact g_iret (ty := .int) dX6_back_20 rfl rfl ⟨⟨⟨_, rfl, by first | trivial | lia | grind⟩, hu, f0⟩, ee_i (by subst ex7; subst ex4; exact (if_neg c5).trans ((if_pos c8).trans (rfl)))⟩
  · have zc5 := zx4 c5
    refine g_iconst (v := (-1)) dX6_back_7 (by decide) ?_
    exact g_iret (ty := .int) dX6_back_8 rfl rfl ⟨⟨⟨_, rfl, by first | trivial | lia | grind⟩, hu, f0⟩, ee_i (by subst ex4; exact (if_pos c5).trans (rfl))⟩
def e_X6_sheet (u : uk_Mem) (k : Int32) (l : Int32) (n : Int32) : Int32 × uk_Mem := let x4 : Int32 := (e_X6_isSheet u k); if x4 = 0 then (((-1 : Int32), u)) else (let x9 : Int32 := (e_X6_isLane u l); if x9 = 0 then (((-1 : Int32), u)) else (if n ≤ (40 : Int32) then (if 0 ≤ n then (let u14 : uk_Mem := e_X3_renew u k l n; ((1 : Int32), u14)) else (((-14 : Int32), u))) else (((-1 : Int32), u))))
abbrev qe_X6_sheet (u : uk_Mem) (k : Int32) (l : Int32) (n : Int32) (r : Option Value) (u' : uk_Mem) : Prop := (q_X6_sheet u k l n r u') ∧ (r = some (.int (e_X6_sheet u k l n).1) ∧ u' = (e_X6_sheet u k l n).2)
set_option maxHeartbeats 4000000 in
set_option maxRecDepth 20000 in
theorem x_X6_sheet {G : uk_D} (hs : uk_Sep G) {u : uk_Mem} (hu : iv u) (k : Int32) (l : Int32) (n : Int32) (d : Nat) : uk_Meth G (d + 1) mX6_sheet [.ref (uk_ad G 0), .int k, .int l, .int n] u (qe_X6_sheet u k l n) := by
  refine uk_Meth.of hs (by decide) (Nat.le_of_ble_eq_true rfl) (fun X => ?_)
  have f0 : fr 49 57 u u := fr_rf
  refine g_iload_n dX6_sheet_0 rfl ?_
  refine cl_X6_251 (As := [.int k]) rfl (x_X6_isSheet (G := G) hs hu  k  (d)) rfl (by omega) rfl (Nat.le_of_ble_eq_true rfl) dX6_sheet_1 (fun r1 u2 q3 => ?_)
  obtain ⟨q3, Eq3⟩ := q3
  obtain ⟨⟨x4, rfl, tx4, nx4, zx4⟩, mq3⟩ := q3
  rw [mq3]
  have ex4 : x4 = (e_X6_isSheet u k) := ee_v Eq3
  refine g_if_eq (tgt := 20) dX6_sheet_4 (by decide) (fun c5 => ?_) (fun c5 => ?_)
  · have zc5 := zx4 c5
    refine g_iconst (v := (-1)) dX6_sheet_20 (by decide) ?_
    exact g_iret (ty := .int) dX6_sheet_21 rfl rfl ⟨⟨⟨_, rfl, by first | trivial | lia | grind⟩, hu, f0⟩, ee_i (by subst ex4; exact (if_pos c5).trans (rfl))⟩
  · have zc5 := nx4 c5
    refine g_iload_n dX6_sheet_7 rfl ?_
    refine cl_X6_254 (As := [.int l]) rfl (x_X6_isLane (G := G) hs hu  l  (d)) rfl (by omega) rfl (Nat.le_of_ble_eq_true rfl) dX6_sheet_8 (fun r6 u7 q8 => ?_)
    obtain ⟨q8, Eq8⟩ := q8
    obtain ⟨⟨x9, rfl, tx9, nx9, zx9⟩, mq8⟩ := q8
    rw [mq8]
    have ex9 : x9 = (e_X6_isLane u l) := ee_v Eq8
    refine g_if_eq (tgt := 20) dX6_sheet_11 (by decide) (fun c10 => ?_) (fun c10 => ?_)
    · have zc10 := zx9 c10
      refine g_iconst (v := (-1)) dX6_sheet_20 (by decide) ?_
      exact g_iret (ty := .int) dX6_sheet_21 rfl rfl ⟨⟨⟨_, rfl, by first | trivial | lia | grind⟩, hu, f0⟩, ee_i (by subst ex9; subst ex4; exact (if_neg c5).trans ((if_pos c10).trans (rfl)))⟩
    · have zc10 := nx9 c10
      refine g_iload_n dX6_sheet_14 rfl ?_
      refine g_bipush (v := 40) dX6_sheet_15 (by decide) ?_
      refine g_icmp_le (tgt := 22) dX6_sheet_17 (by decide) (fun c11 => ?_) (fun c11 => ?_)
      · refine g_iload_n dX6_sheet_22 rfl ?_
        refine g_if_ge (tgt := 29) dX6_sheet_23 (by decide) (fun c12 => ?_) (fun c12 => ?_)
        · refine g_aload_n dX6_sheet_29 rfl ?_
          refine f_X6_62 rfl rfl dX6_sheet_30 ?_
          refine g_iload_n dX6_sheet_33 rfl ?_
          refine g_iload_n dX6_sheet_34 rfl ?_
          refine g_iload_n dX6_sheet_35 rfl ?_
          refine cl_X6_257 (c := 49) (As := [.int k, .int l, .int n]) rfl (x_X3_renew (G := G) hs hu  k l n (by first | trivial | decide | lia | grind) (by first | trivial | decide | lia | grind) (by first | trivial | decide | lia | grind) (by first | trivial | decide | lia | grind) (d)) rfl (by omega) rfl rfl (Nat.le_of_ble_eq_true rfl) dX6_sheet_36 (fun r13 u14 q15 => ?_)
          obtain ⟨q15, Eq15⟩ := q15
          obtain ⟨rfl, mq15⟩ := q15
          obtain ⟨hu14, gu14⟩ := mq15
          have fu14 : fr 49 57 u u14 := fr_tr f0 gu14 (by omega) (by omega)
          have eu14 : u14 = e_X3_renew u k l n := Eq15
          refine g_iconst (v := 1) dX6_sheet_39 (by decide) ?_
          exact g_iret (ty := .int) dX6_sheet_40 rfl rfl ⟨⟨⟨_, rfl, by first | trivial | lia | grind⟩, hu14, fu14⟩, ee_i (by subst eu14; subst ex9; subst ex4; exact (if_neg c5).trans ((if_neg c10).trans ((if_pos c11).trans ((if_pos c12).trans (rfl)))))⟩
        · refine g_bipush (v := (-14)) dX6_sheet_26 (by decide) ?_
          exact g_iret (ty := .int) dX6_sheet_28 rfl rfl ⟨⟨⟨_, rfl, by first | trivial | lia | grind⟩, hu, f0⟩, ee_i (by subst ex9; subst ex4; exact (if_neg c5).trans ((if_neg c10).trans ((if_pos c11).trans ((if_neg c12).trans (rfl)))))⟩
      · refine g_iconst (v := (-1)) dX6_sheet_20 (by decide) ?_
        exact g_iret (ty := .int) dX6_sheet_21 rfl rfl ⟨⟨⟨_, rfl, by first | trivial | lia | grind⟩, hu, f0⟩, ee_i (by subst ex9; subst ex4; exact (if_neg c5).trans ((if_neg c10).trans ((if_neg c11).trans (rfl))))⟩
def e_X6_lay (u : uk_Mem) (k : Int32) (i : Int32) (v : Int32) : Int32 × uk_Mem := let x4 : Int32 := (e_X6_isSheet u k); if x4 = 0 then (((-1 : Int32), u)) else (let x9 : Int32 := (e_X3_faultAt u k i); if x9 = 0 then (let u12 : uk_Mem := e_X3_put u k i v; ((1 : Int32), u12)) else (let x14 : Int32 := (-10 : Int32) - x9; (x14, u)))
abbrev qe_X6_lay (u : uk_Mem) (k : Int32) (i : Int32) (v : Int32) (r : Option Value) (u' : uk_Mem) : Prop := (q_X6_lay u k i v r u') ∧ (r = some (.int (e_X6_lay u k i v).1) ∧ u' = (e_X6_lay u k i v).2)
set_option maxHeartbeats 4000000 in
set_option maxRecDepth 20000 in
theorem x_X6_lay {G : uk_D} (hs : uk_Sep G) {u : uk_Mem} (hu : iv u) (k : Int32) (i : Int32) (v : Int32) (d : Nat) : uk_Meth G (d + 2) mX6_lay [.ref (uk_ad G 0), .int k, .int i, .int v] u (qe_X6_lay u k i v) := by
  refine uk_Meth.of hs (by decide) (Nat.le_of_ble_eq_true rfl) (fun X => ?_)
  have f0 : fr 49 57 u u := fr_rf
  refine g_iload_n dX6_lay_0 rfl ?_
  refine cl_X6_251 (As := [.int k]) rfl (x_X6_isSheet (G := G) hs hu  k  (d + 1)) rfl (by omega) rfl (Nat.le_of_ble_eq_true rfl) dX6_lay_1 (fun r1 u2 q3 => ?_)
  obtain ⟨q3, Eq3⟩ := q3
  obtain ⟨⟨x4, rfl, tx4, nx4, zx4⟩, mq3⟩ := q3
  rw [mq3]
  have ex4 : x4 = (e_X6_isSheet u k) := ee_v Eq3
  refine g_if_ne (tgt := 9) dX6_lay_4 (by decide) (fun c5 => ?_) (fun c5 => ?_)
  · have zc5 := nx4 c5
    refine g_aload_n dX6_lay_9 rfl ?_
    refine f_X6_62 rfl rfl dX6_lay_10 ?_
    refine g_iload_n dX6_lay_13 rfl ?_
    refine g_iload_n dX6_lay_14 rfl ?_
    refine cl_X6_261 (c := 49) (As := [.int k, .int i]) rfl (x_X3_faultAt (G := G) hs hu  k i (by first | trivial | decide | lia | grind) (by first | trivial | decide | lia | grind) (d)) rfl (by omega) rfl rfl (Nat.le_of_ble_eq_true rfl) dX6_lay_15 (fun r6 u7 q8 => ?_)
    obtain ⟨q8, Eq8⟩ := q8
    obtain ⟨⟨x9, rfl, tx9⟩, mq8⟩ := q8
    rw [mq8]
    have ex9 : x9 = (e_X3_faultAt u k i) := ee_v Eq8
    refine g_istore dX6_lay_18 (by decide) ?_
    refine g_pick (lv' := [(0, .ref (uk_ad G 0)), (1, .int k), (2, .int i), (3, .int v), (4, .int x9)]) [0, 1, 2, 3, 4] rfl ?_
    refine g_iload dX6_lay_20 rfl ?_
    refine g_if_eq (tgt := 31) dX6_lay_22 (by decide) (fun c10 => ?_) (fun c10 => ?_)
    · refine g_aload_n dX6_lay_31 rfl ?_
      refine f_X6_62 rfl rfl dX6_lay_32 ?_
      refine g_iload_n dX6_lay_35 rfl ?_
      refine g_iload_n dX6_lay_36 rfl ?_
      refine g_iload_n dX6_lay_37 rfl ?_
      refine cl_X6_265 (c := 49) (As := [.int k, .int i, .int v]) rfl (x_X3_put (G := G) hs hu  k i v (by first | trivial | decide | lia | grind) (by first | trivial | decide | lia | grind) (by first | trivial | decide | lia | grind) (by first | trivial | decide | lia | grind) (d + 1)) rfl (by omega) rfl rfl (Nat.le_of_ble_eq_true rfl) dX6_lay_38 (fun r11 u12 q13 => ?_)
      obtain ⟨q13, Eq13⟩ := q13
      obtain ⟨rfl, mq13⟩ := q13
      obtain ⟨hu12, gu12⟩ := mq13
      have fu12 : fr 49 57 u u12 := fr_tr f0 gu12 (by omega) (by omega)
      have eu12 : u12 = e_X3_put u k i v := Eq13
      refine g_iconst (v := 1) dX6_lay_41 (by decide) ?_
      exact g_iret (ty := .int) dX6_lay_42 rfl rfl ⟨⟨⟨_, rfl, by first | trivial | lia | grind⟩, hu12, fu12⟩, ee_i (by subst eu12; subst ex9; subst ex4; exact (if_neg c5).trans ((if_pos c10).trans (rfl)))⟩
    · refine g_bipush (v := (-10)) dX6_lay_25 (by decide) ?_
      refine g_iload dX6_lay_27 rfl ?_
      refine g_isub dX6_lay_29 ?_
      refine g_topi (fun x14 ex14 => ?_)
      exact g_iret (ty := .int) dX6_lay_30 rfl rfl ⟨⟨⟨_, rfl, by first | trivial | lia | grind⟩, hu, f0⟩, ee_i (by subst ex14; subst ex9; subst ex4; exact (if_neg c5).trans ((if_neg c10).trans (rfl)))⟩
  · have zc5 := zx4 c5
    refine g_iconst (v := (-1)) dX6_lay_7 (by decide) ?_
    exact g_iret (ty := .int) dX6_lay_8 rfl rfl ⟨⟨⟨_, rfl, by first | trivial | lia | grind⟩, hu, f0⟩, ee_i (by subst ex4; exact (if_pos c5).trans (rfl))⟩
def l_X6_read_42 (n : Int32) (f : Int32) (k : Int32) (l : Int32) : Nat → Int32 → uk_Mem → Int32 × uk_Mem
  | 0, _, u18 => (0, u18)
  | K9 + 1, i17, u18 => if n ≤ i17 then (let u20 : uk_Mem := uk_up u18 0 14 (0 : Int32); (n, u20)) else (let x22 : Int32 := f + i17; let x26 : Int32 := (e_X3_faultAs u18 k l x22); if x26 = 0 then (let x30 : Int32 := f + i17; let x32 : Int32 := u18.1 (52 + 1 + (k).toNatClampNeg) x30.toNatClampNeg; let x36 : Int32 := (e_X6_does u18 x32).1; let u34 : uk_Mem := (e_X6_does u18 x32).2; if 0 ≤ x36 then (l_X6_read_42 n f k l K9 (i17 + 1) u34) else (let u39 : uk_Mem := e_X0_copyFrom u34 13 4; let x41 : Int32 := (-20 : Int32) - i17; (x41, u39))) else (let u42 : uk_Mem := uk_up u18 0 14 x26; (i17, u42)))
def e_X6_read (u : uk_Mem) (k : Int32) (l : Int32) (f : Int32) (n : Int32) : Int32 × uk_Mem := let x4 : Int32 := (e_X6_isSheet u k); if x4 = 0 then (((-1 : Int32), u)) else (let x9 : Int32 := (e_X6_isLane u l); if x9 = 0 then (((-1 : Int32), u)) else (if n < 0 then (((-1 : Int32), u)) else (if n ≤ (20 : Int32) then (let u14 : uk_Mem := e_X0_copyFrom u 4 13; l_X6_read_42 n f k l ee_K (0 : Int32) u14) else (((-1 : Int32), u)))))
abbrev qe_X6_read (u : uk_Mem) (k : Int32) (l : Int32) (f : Int32) (n : Int32) (r : Option Value) (u' : uk_Mem) : Prop := (q_X6_read u k l f n r u') ∧ (r = some (.int (e_X6_read u k l f n).1) ∧ u' = (e_X6_read u k l f n).2)
set_option maxHeartbeats 4000000 in
set_option maxRecDepth 20000 in
theorem x_X6_read {G : uk_D} (hs : uk_Sep G) {u : uk_Mem} (hu : iv u) (k : Int32) (l : Int32) (f : Int32) (n : Int32) (d : Nat) : uk_Meth G (d + 4) mX6_read [.ref (uk_ad G 0), .int k, .int l, .int f, .int n] u (qe_X6_read u k l f n) := by
  refine uk_Meth.of hs (by decide) (Nat.le_of_ble_eq_true rfl) (fun X => ?_)
  have f0 : fr 0 22 u u := fr_rf
  refine g_iload_n dX6_read_0 rfl ?_
  refine cl_X6_251 (As := [.int k]) rfl (x_X6_isSheet (G := G) hs hu  k  (d + 3)) rfl (by omega) rfl (Nat.le_of_ble_eq_true rfl) dX6_read_1 (fun r1 u2 q3 => ?_)
  obtain ⟨q3, Eq3⟩ := q3
  obtain ⟨⟨x4, rfl, tx4, nx4, zx4⟩, mq3⟩ := q3
  rw [mq3]
  have ex4 : x4 = (e_X6_isSheet u k) := ee_v Eq3
  refine g_if_eq (tgt := 26) dX6_read_4 (by decide) (fun c5 => ?_) (fun c5 => ?_)
  · have zc5 := zx4 c5
    refine g_iconst (v := (-1)) dX6_read_26 (by decide) ?_
    exact g_iret (ty := .int) dX6_read_27 rfl rfl ⟨⟨⟨_, rfl, by first | trivial | lia | grind⟩, hu, f0, (by first | rfl | grind | grind [uk_up_at])⟩, ee_i (by subst ex4; exact (if_pos c5).trans (rfl))⟩
  · have zc5 := nx4 c5
    refine g_iload_n dX6_read_7 rfl ?_
    refine cl_X6_254 (As := [.int l]) rfl (x_X6_isLane (G := G) hs hu  l  (d + 3)) rfl (by omega) rfl (Nat.le_of_ble_eq_true rfl) dX6_read_8 (fun r6 u7 q8 => ?_)
    obtain ⟨q8, Eq8⟩ := q8
    obtain ⟨⟨x9, rfl, tx9, nx9, zx9⟩, mq8⟩ := q8
    rw [mq8]
    have ex9 : x9 = (e_X6_isLane u l) := ee_v Eq8
    refine g_if_eq (tgt := 26) dX6_read_11 (by decide) (fun c10 => ?_) (fun c10 => ?_)
    · have zc10 := zx9 c10
      refine g_iconst (v := (-1)) dX6_read_26 (by decide) ?_
      exact g_iret (ty := .int) dX6_read_27 rfl rfl ⟨⟨⟨_, rfl, by first | trivial | lia | grind⟩, hu, f0, (by first | rfl | grind | grind [uk_up_at])⟩, ee_i (by subst ex9; subst ex4; exact (if_neg c5).trans ((if_pos c10).trans (rfl)))⟩
    · have zc10 := nx9 c10
      refine g_iload dX6_read_14 rfl ?_
      refine g_if_lt (tgt := 26) dX6_read_16 (by decide) (fun c11 => ?_) (fun c11 => ?_)
      · refine g_iconst (v := (-1)) dX6_read_26 (by decide) ?_
        exact g_iret (ty := .int) dX6_read_27 rfl rfl ⟨⟨⟨_, rfl, by first | trivial | lia | grind⟩, hu, f0, (by first | rfl | grind | grind [uk_up_at])⟩, ee_i (by subst ex9; subst ex4; exact (if_neg c5).trans ((if_neg c10).trans ((if_pos c11).trans (rfl))))⟩
      · refine g_iload dX6_read_19 rfl ?_
        refine g_bipush (v := 20) dX6_read_21 (by decide) ?_
        refine g_icmp_le (tgt := 28) dX6_read_23 (by decide) (fun c12 => ?_) (fun c12 => ?_)
        · refine g_aload_n dX6_read_28 rfl ?_
          refine f_X6_16 rfl rfl dX6_read_29 ?_
          refine g_aload_n dX6_read_32 rfl ?_
          refine f_X6_10 rfl rfl dX6_read_33 ?_
          refine cl_X6_101 (c := 4) (As := [.ref (uk_ad G 13)]) rfl (x_X0_copyFrom (G := G) hs hu uk_isK4 uk_isK13   (d + 3)) rfl (by omega) rfl rfl (Nat.le_of_ble_eq_true rfl) dX6_read_36 (fun r13 u14 q15 => ?_)
          obtain ⟨q15, Eq15⟩ := q15
          obtain ⟨rfl, mq15⟩ := q15
          obtain ⟨hu14, gu14⟩ := mq15
          have fu14 : fr 0 22 u u14 := fr_tr f0 gu14 (by omega) (by omega)
          have wu14_2_1 : u14.1 2 1 = u.1 2 1 := fr_at gu14 (by omega)
          have eu14 : u14 = e_X0_copyFrom u 4 13 := Eq15
          refine g_iconst (v := 0) dX6_read_39 (by decide) ?_
          refine g_istore dX6_read_40 (by decide) ?_
          refine g_pick (lv' := [(0, .ref (uk_ad G 0)), (1, .int k), (2, .int l), (3, .int f), (4, .int n), (5, .int 0)]) [0, 1, 2, 3, 4, 5] rfl ?_
          have L42_15 : ∀ i17 : Int32, 0 ≤ i17 → i17 ≤ 20 → ∀ (u18 : uk_Mem), iv u18 → fr 0 22 u u18 → u18.1 2 1 = u.1 2 1 → (∃ ki17 : Nat, ee_F 20 i17 ki17 ∧ e_X6_read u k l f n = l_X6_read_42 n f k l ki17 i17 u18) → uk_G G X mX6_read (d + 4) (qe_X6_read u k l f n) 42 [(0, .ref (uk_ad G 0)), (1, .int k), (2, .int l), (3, .int f), (4, .int n), (5, .int i17)] [] u18 := by
            refine uk_upl 20 ?_
            intro i17 ai17 bi17 ihi17  u18 hu18 fu18 ji170 jEi17
            obtain ⟨ki17, fki17, hki17⟩ := jEi17
            obtain ⟨ki17, rfl⟩ := ee_Fp (by first | assumption | lia | grind) fki17
            refine g_iload dX6_read_42 rfl ?_
            refine g_iload dX6_read_44 rfl ?_
            refine g_icmp_ge (tgt := 122) dX6_read_46 (by decide) (fun c19 => ?_) (fun c19 => ?_)
            · refine g_aload_n dX6_read_122 rfl ?_
              refine g_iconst (v := 0) dX6_read_123 (by decide) ?_
              refine p_X6_81 rfl rfl dX6_read_124 ?_
              refine g_mem (fun u20 eu20 => ?_)
              have hu20 : iv u20 := by rw [eu20]; exact iv_upF hu18 rfl
              have fu20 : fr 0 22 u u20 := by rw [eu20]; exact fr_up fu18 (by omega) (by omega)
              have s21 : u20.1 0 14 = 0 := by rw [eu20, uk_up_at]; exact if_pos ⟨rfl, rfl⟩
              refine g_iload dX6_read_127 rfl ?_
              exact g_iret (ty := .int) dX6_read_129 rfl rfl ⟨⟨⟨_, rfl, by first | trivial | lia | grind⟩, hu20, fu20, (by first | rfl | grind | grind [uk_up_at])⟩, ee_i (by subst eu20; exact hki17.trans ((if_pos c19).trans (rfl)))⟩
            · refine g_aload_n dX6_read_49 rfl ?_
              refine f_X6_62 rfl rfl dX6_read_50 ?_
              refine g_iload_n dX6_read_53 rfl ?_
              refine g_iload_n dX6_read_54 rfl ?_
              refine g_iload_n dX6_read_55 rfl ?_
              refine g_iload dX6_read_56 rfl ?_
              refine g_iadd dX6_read_58 ?_
              refine g_topi (fun x22 ex22 => ?_)
              refine cl_X6_268 (c := 49) (As := [.int k, .int l, .int x22]) rfl (x_X3_faultAs (G := G) hs hu18  k l x22 (by first | trivial | decide | lia | grind) (by first | trivial | decide | lia | grind) (d + 1)) rfl (by omega) rfl rfl (Nat.le_of_ble_eq_true rfl) dX6_read_59 (fun r23 u24 q25 => ?_)
              obtain ⟨q25, Eq25⟩ := q25
              obtain ⟨⟨x26, rfl, tx26⟩, mq25⟩ := q25
              rw [mq25]
              have ex26 : x26 = (e_X3_faultAs u18 k l x22) := ee_v Eq25
              refine g_istore dX6_read_62 (by decide) ?_
              refine g_pick (lv' := [(0, .ref (uk_ad G 0)), (1, .int k), (2, .int l), (3, .int f), (4, .int n), (5, .int i17), (6, .int x26)]) [0, 1, 2, 3, 4, 5, 6] rfl ?_
              refine g_iload dX6_read_64 rfl ?_
              refine g_if_eq (tgt := 78) dX6_read_66 (by decide) (fun c27 => ?_) (fun c27 => ?_)
              · refine g_aload_n dX6_read_78 rfl ?_
                refine g_aload_n dX6_read_79 rfl ?_
                refine f_X6_62 rfl rfl dX6_read_80 ?_
                refine f_X6_272 rfl rfl dX6_read_83 ?_
                refine g_iload_n dX6_read_86 rfl ?_
                have v28 : vp_in k 4 := uk_vin 4 rfl (by first | decide | lia | grind) (by first | decide | lia | grind)
                refine g_aald rfl rfl v28 dX6_read_87 ?_
                have b29 := uk_cl v28
                refine g_iload_n dX6_read_88 rfl ?_
                refine g_iload dX6_read_89 rfl ?_
                refine g_iadd dX6_read_91 ?_
                refine g_topi (fun x30 ex30 => ?_)
                have v31 : vp_in x30 40 := uk_vin 40 rfl (by first | decide | lia | grind) (by first | decide | lia | grind)
                refine g_iald (ks_kind b29) (ks_len b29) v31 dX6_read_92 ?_
                refine g_topi (fun x32 ex32 => ?_)
                refine cl_X6_276 (c := 0) (As := [.int x32]) rfl (x_X6_does (G := G) hs hu18  x32  (d)) rfl (by omega) rfl rfl (Nat.le_of_ble_eq_true rfl) dX6_read_93 (fun r33 u34 q35 => ?_)
                obtain ⟨q35, Eq35⟩ := q35
                obtain ⟨⟨x36, rfl, tx36⟩, mq35⟩ := q35
                obtain ⟨hu34, gu34⟩ := mq35
                have fu34 : fr 0 22 u u34 := fr_tr fu18 gu34 (by omega) (by omega)
                have wu34_2_1 : u34.1 2 1 = u18.1 2 1 := fr_at gu34 (by omega)
                have ex36 : x36 = (e_X6_does u18 x32).1 := ee_v Eq35.1
                have eu34 : u34 = (e_X6_does u18 x32).2 := Eq35.2
                refine g_if_ge (tgt := 116) dX6_read_96 (by decide) (fun c37 => ?_) (fun c37 => ?_)
                · refine g_iinc (v := i17 + 1) dX6_read_116 rfl rfl (by decide) ?_
                  refine g_pick (lv' := [(0, .ref (uk_ad G 0)), (1, .int k), (2, .int l), (3, .int f), (4, .int n), (5, .int (i17 + 1)), (6, .int x26)]) [0, 1, 2, 3, 4, 5, 6] rfl ?_
                  refine g_goto (tgt := 42) dX6_read_119 (by decide) ?_
                  refine g_pick (lv' := [(0, .ref (uk_ad G 0)), (1, .int k), (2, .int l), (3, .int f), (4, .int n), (5, .int (i17 + 1))]) [0, 1, 2, 3, 4, 5] rfl ?_
                  exact ihi17 (by first | lia | grind)  u34 hu34 fu34 (by first | trivial | lia | grind | grind [uk_up_at] | (simp [uk_up_at, ji170]; done) | (simp [uk_up_at]; grind)) ⟨ki17, ee_Fs fki17 (by first | assumption | lia | grind), by subst eu34; subst ex36; subst ex32; subst ex30; subst ex26; subst ex22; exact hki17.trans ((if_neg c19).trans ((if_pos c27).trans ((if_pos c37).trans (rfl))))⟩
                · refine g_aload_n dX6_read_99 rfl ?_
                  refine f_X6_10 rfl rfl dX6_read_100 ?_
                  refine g_aload_n dX6_read_103 rfl ?_
                  refine f_X6_16 rfl rfl dX6_read_104 ?_
                  refine cl_X6_101 (c := 13) (As := [.ref (uk_ad G 4)]) rfl (x_X0_copyFrom (G := G) hs hu34 uk_isK13 uk_isK4   (d + 3)) rfl (by omega) rfl rfl (Nat.le_of_ble_eq_true rfl) dX6_read_107 (fun r38 u39 q40 => ?_)
                  obtain ⟨q40, Eq40⟩ := q40
                  obtain ⟨rfl, mq40⟩ := q40
                  obtain ⟨hu39, gu39⟩ := mq40
                  have fu39 : fr 0 22 u u39 := fr_tr fu34 gu39 (by omega) (by omega)
                  have wu39_2_1 : u39.1 2 1 = u34.1 2 1 := fr_at gu39 (by omega)
                  have eu39 : u39 = e_X0_copyFrom u34 13 4 := Eq40
                  refine g_bipush (v := (-20)) dX6_read_110 (by decide) ?_
                  refine g_iload dX6_read_112 rfl ?_
                  refine g_isub dX6_read_114 ?_
                  refine g_topi (fun x41 ex41 => ?_)
                  exact g_iret (ty := .int) dX6_read_115 rfl rfl ⟨⟨⟨_, rfl, by first | trivial | lia | grind⟩, hu39, fu39, (by first | rfl | grind | grind [uk_up_at])⟩, ee_i (by subst ex41; subst eu39; subst eu34; subst ex36; subst ex32; subst ex30; subst ex26; subst ex22; exact hki17.trans ((if_neg c19).trans ((if_pos c27).trans ((if_neg c37).trans (rfl)))))⟩
              · refine g_aload_n dX6_read_69 rfl ?_
                refine g_iload dX6_read_70 rfl ?_
                refine p_X6_81 rfl rfl dX6_read_72 ?_
                refine g_mem (fun u42 eu42 => ?_)
                have hu42 : iv u42 := by rw [eu42]; exact iv_upF hu18 rfl
                have fu42 : fr 0 22 u u42 := by rw [eu42]; exact fr_up fu18 (by omega) (by omega)
                have s43 : u42.1 0 14 = x26 := by rw [eu42, uk_up_at]; exact if_pos ⟨rfl, rfl⟩
                refine g_iload dX6_read_75 rfl ?_
                exact g_iret (ty := .int) dX6_read_77 rfl rfl ⟨⟨⟨_, rfl, by first | trivial | lia | grind⟩, hu42, fu42, (by first | rfl | grind | grind [uk_up_at])⟩, ee_i (by subst eu42; subst ex26; subst ex22; exact hki17.trans ((if_neg c19).trans ((if_neg c27).trans (rfl))))⟩
          refine g_pick (lv' := [(0, .ref (uk_ad G 0)), (1, .int k), (2, .int l), (3, .int f), (4, .int n), (5, .int 0)]) [0, 1, 2, 3, 4, 5] rfl ?_
          exact L42_15 0 (by first | decide | lia | grind) (by first | decide | lia | grind)  u14 hu14 fu14 (by first | trivial | lia | grind | grind [uk_up_at] | (simp [uk_up_at]; done) | (simp [uk_up_at]; grind)) ⟨ee_K, ee_F0 _ _, by subst eu14; subst ex9; subst ex4; exact (if_neg c5).trans ((if_neg c10).trans ((if_neg c11).trans ((if_pos c12).trans (rfl))))⟩
        · refine g_iconst (v := (-1)) dX6_read_26 (by decide) ?_
          exact g_iret (ty := .int) dX6_read_27 rfl rfl ⟨⟨⟨_, rfl, by first | trivial | lia | grind⟩, hu, f0, (by first | rfl | grind | grind [uk_up_at])⟩, ee_i (by subst ex9; subst ex4; exact (if_neg c5).trans ((if_neg c10).trans ((if_neg c11).trans ((if_neg c12).trans (rfl)))))⟩
def e_X6_torn (u : uk_Mem) : Int32 := let x1 : Int32 := u.1 0 14; x1
abbrev qe_X6_torn (u : uk_Mem)  (r : Option Value) (u' : uk_Mem) : Prop := (q_X6_torn u r u') ∧ (r = some (.int (e_X6_torn u)))
set_option maxHeartbeats 4000000 in
set_option maxRecDepth 20000 in
theorem x_X6_torn {G : uk_D} (hs : uk_Sep G) {u : uk_Mem} (hu : iv u)  (d : Nat) : uk_Meth G d mX6_torn [.ref (uk_ad G 0)] u (qe_X6_torn u) := by
  refine uk_Meth.of hs (by decide) (Nat.le_of_ble_eq_true rfl) (fun X => ?_)
  refine g_aload_n dX6_torn_0 rfl ?_
  refine f_X6_81 rfl rfl dX6_torn_1 ?_
  refine g_topi (fun x1 ex1 => ?_)
  have s2 : u.1 0 14 = x1 := ex1.symm
  exact g_iret (ty := .int) dX6_torn_4 rfl rfl ⟨⟨⟨_, rfl, by first | trivial | lia | grind⟩, rfl⟩, ee_p (by subst ex1; exact rfl)⟩
def e_X6_count (u : uk_Mem) (w : Int32) : Int32 := if w = 0 then (let x5 : Int32 := (e_X0_things u 13); x5) else (if w = 1 then (let x10 : Int32 := (e_X0_allFeeds u 13); x10) else (if w = 2 then (let x12 : Int32 := u.1 13 9; x12) else (if w = 3 then (let x16 : Int32 := u.1 40 (0 : Int32).toNatClampNeg; if x16 = 0 then (let x19 : Int32 := u.1 40 (1 : Int32).toNatClampNeg; if x19 = 0 then (let x21 : Int32 := (0 : Int32) + (0 : Int32); x21) else (let x22 : Int32 := (0 : Int32) + (1 : Int32); x22)) else (let x24 : Int32 := u.1 40 (1 : Int32).toNatClampNeg; if x24 = 0 then (let x26 : Int32 := (1 : Int32) + (0 : Int32); x26) else (let x27 : Int32 := (1 : Int32) + (1 : Int32); x27))) else (if w = 4 then (let x29 : Int32 := u.1 2 1; x29) else (if w = 5 then (let x35 : Int32 := (e_X3_isNothing u (0 : Int32)); if x35 = 0 then (let x38 : Int32 := u.1 51 (0 : Int32).toNatClampNeg; x38) else ((-4 : Int32))) else ((-1 : Int32)))))))
abbrev qe_X6_count (u : uk_Mem) (w : Int32) (r : Option Value) (u' : uk_Mem) : Prop := (q_X6_count u w r u') ∧ (r = some (.int (e_X6_count u w)))
set_option maxHeartbeats 4000000 in
set_option maxRecDepth 20000 in
theorem x_X6_count {G : uk_D} (hs : uk_Sep G) {u : uk_Mem} (hu : iv u) (w : Int32) (d : Nat) : uk_Meth G (d + 1) mX6_count [.ref (uk_ad G 0), .int w] u (qe_X6_count u w) := by
  refine uk_Meth.of hs (by decide) (Nat.le_of_ble_eq_true rfl) (fun X => ?_)
  refine g_iload_n dX6_count_0 rfl ?_
  by_cases c1 : w = 0
  · refine g_tabIn (off := (39)) (tgt := 40) dX6_count_1 (by rw [c1]; decide) (by rw [c1]; decide) (by rw [c1]; rfl) (by decide) ?_
    refine g_aload_n dX6_count_40 rfl ?_
    refine f_X6_10 rfl rfl dX6_count_41 ?_
    refine cl_X6_241 (c := 13) (As := []) rfl (x_X0_things (G := G) hs hu uk_isK13   (d)) rfl (by omega) rfl rfl (Nat.le_of_ble_eq_true rfl) dX6_count_44 (fun r2 u3 q4 => ?_)
    obtain ⟨q4, Eq4⟩ := q4
    obtain ⟨⟨x5, rfl, tx5⟩, mq4⟩ := q4
    rw [mq4]
    have ex5 : x5 = (e_X0_things u 13) := ee_v Eq4
    exact g_iret (ty := .int) dX6_count_47 rfl rfl ⟨⟨⟨_, rfl, by first | trivial | lia | grind⟩, rfl⟩, ee_p (by subst ex5; exact (if_pos c1).trans (rfl))⟩
  by_cases c6 : w = 1
  · refine g_tabIn (off := (47)) (tgt := 48) dX6_count_1 (by rw [c6]; decide) (by rw [c6]; decide) (by rw [c6]; rfl) (by decide) ?_
    refine g_aload_n dX6_count_48 rfl ?_
    refine f_X6_10 rfl rfl dX6_count_49 ?_
    refine cl_X6_279 (c := 13) (As := []) rfl (x_X0_allFeeds (G := G) hs hu uk_isK13   (d)) rfl (by omega) rfl rfl (Nat.le_of_ble_eq_true rfl) dX6_count_52 (fun r7 u8 q9 => ?_)
    obtain ⟨q9, Eq9⟩ := q9
    obtain ⟨⟨x10, rfl, tx10⟩, mq9⟩ := q9
    rw [mq9]
    have ex10 : x10 = (e_X0_allFeeds u 13) := ee_v Eq9
    exact g_iret (ty := .int) dX6_count_55 rfl rfl ⟨⟨⟨_, rfl, by first | trivial | lia | grind⟩, rfl⟩, ee_p (by subst ex10; exact (if_neg c1).trans ((if_pos c6).trans (rfl)))⟩
  by_cases c11 : w = 2
  · refine g_tabIn (off := (55)) (tgt := 56) dX6_count_1 (by rw [c11]; decide) (by rw [c11]; decide) (by rw [c11]; rfl) (by decide) ?_
    refine g_aload_n dX6_count_56 rfl ?_
    refine f_X6_10 rfl rfl dX6_count_57 ?_
    refine f_X6_223 rfl rfl dX6_count_60 ?_
    refine g_topi (fun x12 ex12 => ?_)
    have rx12 : 0 ≤ x12 ∧ x12 ≤ 8 := by rw [ex12]; exact iv_at hu _ _ rfl
    have s13 : u.1 13 9 = x12 := ex12.symm
    exact g_iret (ty := .int) dX6_count_63 rfl rfl ⟨⟨⟨_, rfl, by first | trivial | lia | grind⟩, rfl⟩, ee_p (by subst ex12; exact (if_neg c1).trans ((if_neg c6).trans ((if_pos c11).trans (rfl))))⟩
  by_cases c14 : w = 3
  · refine g_tabIn (off := (63)) (tgt := 64) dX6_count_1 (by rw [c14]; decide) (by rw [c14]; decide) (by rw [c14]; rfl) (by decide) ?_
    refine g_aload_n dX6_count_64 rfl ?_
    refine f_X6_41 rfl rfl dX6_count_65 ?_
    refine g_iconst (v := 0) dX6_count_68 (by decide) ?_
    have v15 : vp_in 0 2 := uk_vin 2 rfl (by first | decide | lia | grind) (by first | decide | lia | grind)
    refine g_zald rfl rfl v15 dX6_count_69 ?_
    refine g_topi (fun x16 ex16 => ?_)
    have bx16 := uk_cl v15
    have rx16 : 0 ≤ x16 ∧ x16 ≤ 1 := by rw [ex16]; exact iv_at hu _ _ (uk_pick1 _ (by omega))
    refine g_if_eq (tgt := 77) dX6_count_70 (by decide) (fun c17 => ?_) (fun c17 => ?_)
    · refine g_iconst (v := 0) dX6_count_77 (by decide) ?_
      refine g_aload_n dX6_count_78 rfl ?_
      refine f_X6_41 rfl rfl dX6_count_79 ?_
      refine g_iconst (v := 1) dX6_count_82 (by decide) ?_
      have v18 : vp_in 1 2 := uk_vin 2 rfl (by first | decide | lia | grind) (by first | decide | lia | grind)
      refine g_zald rfl rfl v18 dX6_count_83 ?_
      refine g_topi (fun x19 ex19 => ?_)
      have bx19 := uk_cl v18
      have rx19 : 0 ≤ x19 ∧ x19 ≤ 1 := by rw [ex19]; exact iv_at hu _ _ (uk_pick1 _ (by omega))
      refine g_if_eq (tgt := 91) dX6_count_84 (by decide) (fun c20 => ?_) (fun c20 => ?_)
      · refine g_iconst (v := 0) dX6_count_91 (by decide) ?_
        refine g_iadd dX6_count_92 ?_
        refine g_topi (fun x21 ex21 => ?_)
        have ox21 : x21 = 0 := by rw [ex21, Int32.zero_add]
        exact g_iret (ty := .int) dX6_count_93 rfl rfl ⟨⟨⟨_, rfl, by first | trivial | lia | grind⟩, rfl⟩, ee_p (by subst ex21; subst ex19; subst ex16; exact (if_neg c1).trans ((if_neg c6).trans ((if_neg c11).trans ((if_pos c14).trans ((if_pos c17).trans ((if_pos c20).trans (rfl)))))))⟩
      · refine g_iconst (v := 1) dX6_count_87 (by decide) ?_
        refine g_goto (tgt := 92) dX6_count_88 (by decide) ?_
        refine g_iadd dX6_count_92 ?_
        refine g_topi (fun x22 ex22 => ?_)
        have ox22 : x22 = 1 := by rw [ex22, Int32.zero_add]
        exact g_iret (ty := .int) dX6_count_93 rfl rfl ⟨⟨⟨_, rfl, by first | trivial | lia | grind⟩, rfl⟩, ee_p (by subst ex22; subst ex19; subst ex16; exact (if_neg c1).trans ((if_neg c6).trans ((if_neg c11).trans ((if_pos c14).trans ((if_pos c17).trans ((if_neg c20).trans (rfl)))))))⟩
    · refine g_iconst (v := 1) dX6_count_73 (by decide) ?_
      refine g_goto (tgt := 78) dX6_count_74 (by decide) ?_
      refine g_aload_n dX6_count_78 rfl ?_
      refine f_X6_41 rfl rfl dX6_count_79 ?_
      refine g_iconst (v := 1) dX6_count_82 (by decide) ?_
      have v23 : vp_in 1 2 := uk_vin 2 rfl (by first | decide | lia | grind) (by first | decide | lia | grind)
      refine g_zald rfl rfl v23 dX6_count_83 ?_
      refine g_topi (fun x24 ex24 => ?_)
      have bx24 := uk_cl v23
      have rx24 : 0 ≤ x24 ∧ x24 ≤ 1 := by rw [ex24]; exact iv_at hu _ _ (uk_pick1 _ (by omega))
      refine g_if_eq (tgt := 91) dX6_count_84 (by decide) (fun c25 => ?_) (fun c25 => ?_)
      · refine g_iconst (v := 0) dX6_count_91 (by decide) ?_
        refine g_iadd dX6_count_92 ?_
        refine g_topi (fun x26 ex26 => ?_)
        exact g_iret (ty := .int) dX6_count_93 rfl rfl ⟨⟨⟨_, rfl, by first | trivial | lia | grind⟩, rfl⟩, ee_p (by subst ex26; subst ex24; subst ex16; exact (if_neg c1).trans ((if_neg c6).trans ((if_neg c11).trans ((if_pos c14).trans ((if_neg c17).trans ((if_pos c25).trans (rfl)))))))⟩
      · refine g_iconst (v := 1) dX6_count_87 (by decide) ?_
        refine g_goto (tgt := 92) dX6_count_88 (by decide) ?_
        refine g_iadd dX6_count_92 ?_
        refine g_topi (fun x27 ex27 => ?_)
        exact g_iret (ty := .int) dX6_count_93 rfl rfl ⟨⟨⟨_, rfl, by first | trivial | lia | grind⟩, rfl⟩, ee_p (by subst ex27; subst ex24; subst ex16; exact (if_neg c1).trans ((if_neg c6).trans ((if_neg c11).trans ((if_pos c14).trans ((if_neg c17).trans ((if_neg c25).trans (rfl)))))))⟩
  by_cases c28 : w = 4
  · refine g_tabIn (off := (93)) (tgt := 94) dX6_count_1 (by rw [c28]; decide) (by rw [c28]; decide) (by rw [c28]; rfl) (by decide) ?_
    refine g_aload_n dX6_count_94 rfl ?_
    refine f_X6_22 rfl rfl dX6_count_95 ?_
    refine f_X6_84 rfl rfl dX6_count_98 ?_
    refine g_topi (fun x29 ex29 => ?_)
    have rx29 : 0 ≤ x29 ∧ x29 ≤ 160 := by rw [ex29]; exact iv_at hu _ _ rfl
    have s30 : u.1 2 1 = x29 := ex29.symm
    exact g_iret (ty := .int) dX6_count_101 rfl rfl ⟨⟨⟨_, rfl, by first | trivial | lia | grind⟩, rfl⟩, ee_p (by subst ex29; exact (if_neg c1).trans ((if_neg c6).trans ((if_neg c11).trans ((if_neg c14).trans ((if_pos c28).trans (rfl))))))⟩
  by_cases c31 : w = 5
  · refine g_tabIn (off := (101)) (tgt := 102) dX6_count_1 (by rw [c31]; decide) (by rw [c31]; decide) (by rw [c31]; rfl) (by decide) ?_
    refine g_aload_n dX6_count_102 rfl ?_
    refine f_X6_62 rfl rfl dX6_count_103 ?_
    refine g_iconst (v := 0) dX6_count_106 (by decide) ?_
    refine cl_X6_282 (c := 49) (As := [.int 0]) rfl (x_X3_isNothing (G := G) hs hu  0 (by first | trivial | decide | lia | grind) (by first | trivial | decide | lia | grind) (d)) rfl (by omega) rfl rfl (Nat.le_of_ble_eq_true rfl) dX6_count_107 (fun r32 u33 q34 => ?_)
    obtain ⟨q34, Eq34⟩ := q34
    obtain ⟨⟨x35, rfl, tx35, nx35, zx35⟩, mq34⟩ := q34
    rw [mq34]
    have ex35 : x35 = (e_X3_isNothing u (0 : Int32)) := ee_v Eq34
    refine g_if_eq (tgt := 118) dX6_count_110 (by decide) (fun c36 => ?_) (fun c36 => ?_)
    · have zc36 := zx35 c36
      refine g_aload_n dX6_count_118 rfl ?_
      refine f_X6_62 rfl rfl dX6_count_119 ?_
      refine f_X6_285 rfl rfl dX6_count_122 ?_
      refine g_iconst (v := 0) dX6_count_125 (by decide) ?_
      have v37 : vp_in 0 4 := uk_vin 4 rfl (by first | decide | lia | grind) (by first | decide | lia | grind)
      refine g_iald rfl rfl v37 dX6_count_126 ?_
      refine g_topi (fun x38 ex38 => ?_)
      have bx38 := uk_cl v37
      have rx38 : 0 ≤ x38 ∧ x38 ≤ 40 := by rw [ex38]; exact iv_at hu _ _ (uk_pick1 _ (by omega))
      exact g_iret (ty := .int) dX6_count_127 rfl rfl ⟨⟨⟨_, rfl, by first | trivial | lia | grind⟩, rfl⟩, ee_p (by subst ex38; subst ex35; exact (if_neg c1).trans ((if_neg c6).trans ((if_neg c11).trans ((if_neg c14).trans ((if_neg c28).trans ((if_pos c31).trans ((if_pos c36).trans (rfl))))))))⟩
    · have zc36 := nx35 c36
      refine g_bipush (v := (-4)) dX6_count_113 (by decide) ?_
      refine g_goto (tgt := 127) dX6_count_115 (by decide) ?_
      exact g_iret (ty := .int) dX6_count_127 rfl rfl ⟨⟨⟨_, rfl, by first | trivial | lia | grind⟩, rfl⟩, ee_p (by subst ex35; exact (if_neg c1).trans ((if_neg c6).trans ((if_neg c11).trans ((if_neg c14).trans ((if_neg c28).trans ((if_pos c31).trans ((if_neg c36).trans (rfl))))))))⟩
  refine g_tabOut (tgt := 128) dX6_count_1 (uk_swo 0 5 rfl rfl (by first | lia | grind)) (by decide) ?_
  refine g_iconst (v := (-1)) dX6_count_128 (by decide) ?_
  exact g_iret (ty := .int) dX6_count_129 rfl rfl ⟨⟨⟨_, rfl, by first | trivial | lia | grind⟩, rfl⟩, ee_p (by exact (if_neg c1).trans ((if_neg c6).trans ((if_neg c11).trans ((if_neg c14).trans ((if_neg c28).trans ((if_neg c31).trans (rfl)))))))⟩

