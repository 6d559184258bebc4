def e_X3_isNothing (u : uk_Mem) (k : Int32) : Int32 := let x2 : Int32 := u.1 50 k.toNatClampNeg; if x2 = (-1 : Int32) then ((1 : Int32)) else ((0 : Int32))
abbrev qe_X3_isNothing (u : uk_Mem) (k : Int32) (r : Option Value) (u' : uk_Mem) : Prop := (q_X3_isNothing u k r u') ∧ (r = some (.int (e_X3_isNothing u k)))
set_option maxHeartbeats 4000000 in
set_option maxRecDepth 20000 in
theorem x_X3_isNothing {G : uk_D} (hs : uk_Sep G) {u : uk_Mem} (hu : iv u) (k : Int32) (p0 : 0 ≤ k) (p1 : k ≤ 3) (d : Nat) : uk_Meth G d mX3_isNothing [.ref (uk_ad G 49), .int k] u (qe_X3_isNothing u k) := by
  refine uk_Meth.of hs (by decide) (Nat.le_of_ble_eq_true rfl) (fun X => ?_)
  refine g_aload_n dX3_isNothing_0 rfl ?_
  refine f_X3_11 rfl rfl dX3_isNothing_1 ?_
  refine g_iload_n dX3_isNothing_4 rfl ?_
  have v1 : vp_in k 4 := uk_vin 4 rfl (by first | decide | lia | grind) (by first | decide | lia | grind)
  refine g_iald rfl rfl v1 dX3_isNothing_5 ?_
  refine g_topi (fun x2 ex2 => ?_)
  refine g_iconst (v := (-1)) dX3_isNothing_6 (by decide) ?_
  refine g_icmp_ne (tgt := 14) dX3_isNothing_7 (by decide) (fun c3 => ?_) (fun c3 => ?_)
  · refine g_iconst (v := 0) dX3_isNothing_14 (by decide) ?_
    exact g_iret (ty := .boolean) dX3_isNothing_15 rfl rfl ⟨⟨⟨0, rfl, Or.inl rfl, fun q => absurd rfl q, fun _ => by first | trivial | lia | grind⟩, rfl⟩, ee_p (by subst ex2; exact (if_neg c3).trans (rfl))⟩
  · refine g_iconst (v := 1) dX3_isNothing_10 (by decide) ?_
    refine g_goto (tgt := 15) dX3_isNothing_11 (by decide) ?_
    exact g_iret (ty := .boolean) dX3_isNothing_15 rfl rfl ⟨⟨⟨1, rfl, Or.inr rfl, fun _ => by first | trivial | lia | grind, fun q => absurd q (by decide)⟩, rfl⟩, ee_p (by subst ex2; exact (if_pos c3).trans (rfl))⟩
def e_X3_faultAt (u : uk_Mem) (k : Int32) (i : Int32) : Int32 := let x4 : Int32 := (e_X3_isNothing u k); if x4 = 0 then (if i < 0 then ((2 : Int32)) else (let x8 : Int32 := u.1 51 k.toNatClampNeg; if i < x8 then ((0 : Int32)) else ((2 : Int32)))) else ((1 : Int32))
abbrev qe_X3_faultAt (u : uk_Mem) (k : Int32) (i : Int32) (r : Option Value) (u' : uk_Mem) : Prop := (q_X3_faultAt u k i r u') ∧ (r = some (.int (e_X3_faultAt u k i)))
set_option maxHeartbeats 4000000 in
set_option maxRecDepth 20000 in
theorem x_X3_faultAt {G : uk_D} (hs : uk_Sep G) {u : uk_Mem} (hu : iv u) (k : Int32) (i : Int32) (p0 : 0 ≤ k) (p1 : k ≤ 3) (d : Nat) : uk_Meth G (d + 1) mX3_faultAt [.ref (uk_ad G 49), .int k, .int i] u (qe_X3_faultAt u k i) := by
  refine uk_Meth.of hs (by decide) (Nat.le_of_ble_eq_true rfl) (fun X => ?_)
  refine g_aload_n dX3_faultAt_0 rfl ?_
  refine g_iload_n dX3_faultAt_1 rfl ?_
  refine cl_X3_23 (c := 49) (As := [.int k]) rfl (x_X3_isNothing (G := G) hs hu  k (by first | trivial | decide | lia | grind) (by first | trivial | decide | lia | grind) (d)) rfl (by omega) rfl rfl (Nat.le_of_ble_eq_true rfl) dX3_faultAt_2 (fun r1 u2 q3 => ?_)
  obtain ⟨q3, Eq3⟩ := q3
  obtain ⟨⟨x4, rfl, tx4, nx4, zx4⟩, mq3⟩ := q3
  rw [mq3]
  have ex4 : x4 = (e_X3_isNothing u k) := ee_v Eq3
  refine g_if_eq (tgt := 10) dX3_faultAt_5 (by decide) (fun c5 => ?_) (fun c5 => ?_)
  · have zc5 := zx4 c5
    refine g_iload_n dX3_faultAt_10 rfl ?_
    refine g_if_lt (tgt := 24) dX3_faultAt_11 (by decide) (fun c6 => ?_) (fun c6 => ?_)
    · refine g_iconst (v := 2) dX3_faultAt_24 (by decide) ?_
      refine g_goto (tgt := 29) dX3_faultAt_25 (by decide) ?_
      exact g_iret (ty := .int) dX3_faultAt_29 rfl rfl ⟨⟨⟨_, rfl, by first | trivial | lia | grind⟩, rfl⟩, ee_p (by subst ex4; exact (if_pos c5).trans ((if_pos c6).trans (rfl)))⟩
    · refine g_iload_n dX3_faultAt_14 rfl ?_
      refine g_aload_n dX3_faultAt_15 rfl ?_
      refine f_X3_15 rfl rfl dX3_faultAt_16 ?_
      refine g_iload_n dX3_faultAt_19 rfl ?_
      have v7 : vp_in k 4 := uk_vin 4 rfl (by first | decide | lia | grind) (by first | decide | lia | grind)
      refine g_iald rfl rfl v7 dX3_faultAt_20 ?_
      refine g_topi (fun x8 ex8 => ?_)
      have bx8 := uk_cl v7
      have rx8 : 0 ≤ x8 ∧ x8 ≤ 40 := by rw [ex8]; exact iv_at hu _ _ (uk_pick1 _ (by omega))
      refine g_icmp_lt (tgt := 28) dX3_faultAt_21 (by decide) (fun c9 => ?_) (fun c9 => ?_)
      · refine g_iconst (v := 0) dX3_faultAt_28 (by decide) ?_
        exact g_iret (ty := .int) dX3_faultAt_29 rfl rfl ⟨⟨⟨_, rfl, by first | trivial | lia | grind⟩, rfl⟩, ee_p (by subst ex8; subst ex4; exact (if_pos c5).trans ((if_neg c6).trans ((if_pos c9).trans (rfl))))⟩
      · refine g_iconst (v := 2) dX3_faultAt_24 (by decide) ?_
        refine g_goto (tgt := 29) dX3_faultAt_25 (by decide) ?_
        exact g_iret (ty := .int) dX3_faultAt_29 rfl rfl ⟨⟨⟨_, rfl, by first | trivial | lia | grind⟩, rfl⟩, ee_p (by subst ex8; subst ex4; exact (if_pos c5).trans ((if_neg c6).trans ((if_neg c9).trans (rfl))))⟩
  · have zc5 := nx4 c5
    refine g_iconst (v := 1) dX3_faultAt_8 (by decide) ?_
    exact g_iret (ty := .int) dX3_faultAt_9 rfl rfl ⟨⟨⟨_, rfl, by first | trivial | lia | grind⟩, rfl⟩, ee_p (by subst ex4; exact (if_neg c5).trans (rfl))⟩
def e_X3_faultAs (u : uk_Mem) (k : Int32) (l : Int32) (i : Int32) : Int32 := let x4 : Int32 := (e_X3_isNothing u k); if x4 = 0 then (let x11 : Int32 := u.1 50 k.toNatClampNeg; if x11 = l then (let x16 : Int32 := (e_X3_faultAt u k i); x16) else ((3 : Int32))) else (let x9 : Int32 := (e_X3_faultAt u k i); x9)
abbrev qe_X3_faultAs (u : uk_Mem) (k : Int32) (l : Int32) (i : Int32) (r : Option Value) (u' : uk_Mem) : Prop := (q_X3_faultAs u k l i r u') ∧ (r = some (.int (e_X3_faultAs u k l i)))
set_option maxHeartbeats 4000000 in
set_option maxRecDepth 20000 in
theorem x_X3_faultAs {G : uk_D} (hs : uk_Sep G) {u : uk_Mem} (hu : iv u) (k : Int32) (l : Int32) (i : Int32) (p0 : 0 ≤ k) (p1 : k ≤ 3) (d : Nat) : uk_Meth G (d + 2) mX3_faultAs [.ref (uk_ad G 49), .int k, .int l, .int i] u (qe_X3_faultAs u k l i) := by
  refine uk_Meth.of hs (by decide) (Nat.le_of_ble_eq_true rfl) (fun X => ?_)
  refine g_aload_n dX3_faultAs_0 rfl ?_
  refine g_iload_n dX3_faultAs_1 rfl ?_
  refine cl_X3_23 (c := 49) (As := [.int k]) rfl (x_X3_isNothing (G := G) hs hu  k (by first | trivial | decide | lia | grind) (by first | trivial | decide | lia | grind) (d + 1)) rfl (by omega) rfl rfl (Nat.le_of_ble_eq_true rfl) dX3_faultAs_2 (fun r1 u2 q3 => ?_)
  obtain ⟨q3, Eq3⟩ := q3
  obtain ⟨⟨x4, rfl, tx4, nx4, zx4⟩, mq3⟩ := q3
  rw [mq3]
  have ex4 : x4 = (e_X3_isNothing u k) := ee_v Eq3
  refine g_if_ne (tgt := 18) dX3_faultAs_5 (by decide) (fun c5 => ?_) (fun c5 => ?_)
  · have zc5 := nx4 c5
    refine g_aload_n dX3_faultAs_18 rfl ?_
    refine g_iload_n dX3_faultAs_19 rfl ?_
    refine g_iload_n dX3_faultAs_20 rfl ?_
    refine cl_X3_27 (c := 49) (As := [.int k, .int i]) rfl (x_X3_faultAt (G := G) hs hu  k i (by first | trivial | decide | lia | grind) (by first | trivial | decide | lia | grind) (d)) rfl (by omega) rfl rfl (Nat.le_of_ble_eq_true rfl) dX3_faultAs_21 (fun r6 u7 q8 => ?_)
    obtain ⟨q8, Eq8⟩ := q8
    obtain ⟨⟨x9, rfl, tx9⟩, mq8⟩ := q8
    rw [mq8]
    have ex9 : x9 = (e_X3_faultAt u k i) := ee_v Eq8
    refine g_goto (tgt := 28) dX3_faultAs_24 (by decide) ?_
    exact g_iret (ty := .int) dX3_faultAs_28 rfl rfl ⟨⟨⟨_, rfl, by first | trivial | lia | grind⟩, rfl⟩, ee_p (by subst ex9; subst ex4; exact (if_neg c5).trans (rfl))⟩
  · have zc5 := zx4 c5
    refine g_aload_n dX3_faultAs_8 rfl ?_
    refine f_X3_11 rfl rfl dX3_faultAs_9 ?_
    refine g_iload_n dX3_faultAs_12 rfl ?_
    have v10 : vp_in k 4 := uk_vin 4 rfl (by first | decide | lia | grind) (by first | decide | lia | grind)
    refine g_iald rfl rfl v10 dX3_faultAs_13 ?_
    refine g_topi (fun x11 ex11 => ?_)
    refine g_iload_n dX3_faultAs_14 rfl ?_
    refine g_icmp_ne (tgt := 27) dX3_faultAs_15 (by decide) (fun c12 => ?_) (fun c12 => ?_)
    · refine g_iconst (v := 3) dX3_faultAs_27 (by decide) ?_
      exact g_iret (ty := .int) dX3_faultAs_28 rfl rfl ⟨⟨⟨_, rfl, by first | trivial | lia | grind⟩, rfl⟩, ee_p (by subst ex11; subst ex4; exact (if_pos c5).trans ((if_neg c12).trans (rfl)))⟩
    · refine g_aload_n dX3_faultAs_18 rfl ?_
      refine g_iload_n dX3_faultAs_19 rfl ?_
      refine g_iload_n dX3_faultAs_20 rfl ?_
      refine cl_X3_27 (c := 49) (As := [.int k, .int i]) rfl (x_X3_faultAt (G := G) hs hu  k i (by first | trivial | decide | lia | grind) (by first | trivial | decide | lia | grind) (d)) rfl (by omega) rfl rfl (Nat.le_of_ble_eq_true rfl) dX3_faultAs_21 (fun r13 u14 q15 => ?_)
      obtain ⟨q15, Eq15⟩ := q15
      obtain ⟨⟨x16, rfl, tx16⟩, mq15⟩ := q15
      rw [mq15]
      have ex16 : x16 = (e_X3_faultAt u k i) := ee_v Eq15
      refine g_goto (tgt := 28) dX3_faultAs_24 (by decide) ?_
      exact g_iret (ty := .int) dX3_faultAs_28 rfl rfl ⟨⟨⟨_, rfl, by first | trivial | lia | grind⟩, rfl⟩, ee_p (by subst ex16; subst ex11; subst ex4; exact (if_pos c5).trans ((if_pos c12).trans (rfl)))⟩
def l_X3_renew_17 (k : Int32) : Nat → Int32 → uk_Mem → uk_Mem
  | 0, _, u9 => u9
  | K9 + 1, i8, u9 => if (40 : Int32) ≤ i8 then (u9) else (let u15 : uk_Mem := uk_up u9 (52 + 1 + (k).toNatClampNeg) i8.toNatClampNeg (0 : Int32); l_X3_renew_17 k K9 (i8 + 1) u15)
def e_X3_renew (u : uk_Mem) (k : Int32) (l : Int32) (n : Int32) : uk_Mem := let u3 : uk_Mem := uk_up u 50 k.toNatClampNeg l; let u6 : uk_Mem := uk_up u3 51 k.toNatClampNeg n; l_X3_renew_17 k ee_K (0 : Int32) u6
abbrev qe_X3_renew (u : uk_Mem) (k : Int32) (l : Int32) (n : Int32) (r : Option Value) (u' : uk_Mem) : Prop := (q_X3_renew u k l n r u') ∧ (u' = e_X3_renew u k l n)
set_option maxHeartbeats 4000000 in
set_option maxRecDepth 20000 in
theorem x_X3_renew {G : uk_D} (hs : uk_Sep G) {u : uk_Mem} (hu : iv u) (k : Int32) (l : Int32) (n : Int32) (p0 : 0 ≤ k) (p1 : k ≤ 3) (p2 : 0 ≤ n) (p3 : n ≤ 40) (d : Nat) : uk_Meth G d mX3_renew [.ref (uk_ad G 49), .int k, .int l, .int n] u (qe_X3_renew u k l n) := by
  refine uk_Meth.of hs (by decide) (Nat.le_of_ble_eq_true rfl) (fun X => ?_)
  have f0 : fr 49 57 u u := fr_rf
  refine g_aload_n dX3_renew_0 rfl ?_
  refine f_X3_11 rfl rfl dX3_renew_1 ?_
  refine g_iload_n dX3_renew_4 rfl ?_
  refine g_iload_n dX3_renew_5 rfl ?_
  have v1 : vp_in k 4 := uk_vin 4 rfl (by first | decide | lia | grind) (by first | decide | lia | grind)
  have b2 := uk_cl v1
  refine g_iast rfl rfl v1 dX3_renew_6 ?_
  refine g_mem (fun u3 eu3 => ?_)
  have hu3 : iv u3 := by rw [eu3]; exact iv_upF hu (uk_pick1 _ (by omega))
  have fu3 : fr 49 57 u u3 := by rw [eu3]; exact fr_up f0 (by omega) (by omega)
  refine g_aload_n dX3_renew_7 rfl ?_
  refine f_X3_15 rfl rfl dX3_renew_8 ?_
  refine g_iload_n dX3_renew_11 rfl ?_
  refine g_iload_n dX3_renew_12 rfl ?_
  have v4 : vp_in k 4 := uk_vin 4 rfl (by first | decide | lia | grind) (by first | decide | lia | grind)
  have b5 := uk_cl v4
  refine g_iast rfl rfl v4 dX3_renew_13 ?_
  refine g_mem (fun u6 eu6 => ?_)
  have hu6 : iv u6 := by rw [eu6]; exact iv_up hu3 (uk_pick1 _ (by omega)) (by first | lia | grind) (by first | lia | grind)
  have fu6 : fr 49 57 u u6 := by rw [eu6]; exact fr_up fu3 (by omega) (by omega)
  refine g_iconst (v := 0) dX3_renew_14 (by decide) ?_
  refine g_istore dX3_renew_15 (by decide) ?_
  refine g_pick (lv' := [(0, .ref (uk_ad G 49)), (1, .int k), (2, .int l), (3, .int n), (4, .int 0)]) [0, 1, 2, 3, 4] rfl ?_
  have L17_6 : ∀ i8 : Int32, 0 ≤ i8 → i8 ≤ 40 → ∀ (u9 : uk_Mem), iv u9 → fr 49 57 u u9 → (∃ ki8 : Nat, ee_F 40 i8 ki8 ∧ e_X3_renew u k l n = l_X3_renew_17 k ki8 i8 u9) → uk_G G X mX3_renew d (qe_X3_renew u k l n) 17 [(0, .ref (uk_ad G 49)), (1, .int k), (2, .int l), (3, .int n), (4, .int i8)] [] u9 := by
    refine uk_upl 40 ?_
    intro i8 ai8 bi8 ihi8  u9 hu9 fu9 jEi8
    obtain ⟨ki8, fki8, hki8⟩ := jEi8
    obtain ⟨ki8, rfl⟩ := ee_Fp (by first | assumption | lia | grind) fki8
    refine g_iload dX3_renew_17 rfl ?_
    refine g_bipush (v := 40) dX3_renew_19 (by decide) ?_
    refine g_icmp_ge (tgt := 40) dX3_renew_21 (by decide) (fun c10 => ?_) (fun c10 => ?_)
    · exact g_vret dX3_renew_40 rfl ⟨⟨rfl, hu9, fu9⟩, (by exact hki8.trans ((if_pos c10).trans (rfl)) : e_X3_renew u k l n = u9).symm⟩
    · refine g_aload_n dX3_renew_24 rfl ?_
      refine f_X3_20 rfl rfl dX3_renew_25 ?_
      refine g_iload_n dX3_renew_28 rfl ?_
      have v11 : vp_in k 4 := uk_vin 4 rfl (by first | decide | lia | grind) (by first | decide | lia | grind)
      refine g_aald rfl rfl v11 dX3_renew_29 ?_
      have b12 := uk_cl v11
      refine g_iload dX3_renew_30 rfl ?_
      refine g_iconst (v := 0) dX3_renew_32 (by decide) ?_
      have v13 : vp_in i8 40 := uk_vin 40 rfl (by first | decide | lia | grind) (by first | decide | lia | grind)
      have b14 := uk_cl v13
      refine g_iast (ks_kind b12) (ks_len b12) v13 dX3_renew_33 ?_
      refine g_mem (fun u15 eu15 => ?_)
      have hu15 : iv u15 := by rw [eu15]; exact iv_upF hu9 (ks_rg b12 _ (by omega))
      have fu15 : fr 49 57 u u15 := by rw [eu15]; exact fr_up fu9 (by omega) (by omega)
      refine g_iinc (v := i8 + 1) dX3_renew_34 rfl rfl (by decide) ?_
      refine g_pick (lv' := [(0, .ref (uk_ad G 49)), (1, .int k), (2, .int l), (3, .int n), (4, .int (i8 + 1))]) [0, 1, 2, 3, 4] rfl ?_
      refine g_goto (tgt := 17) dX3_renew_37 (by decide) ?_
      refine g_pick (lv' := [(0, .ref (uk_ad G 49)), (1, .int k), (2, .int l), (3, .int n), (4, .int (i8 + 1))]) [0, 1, 2, 3, 4] rfl ?_
      exact ihi8 (by first | lia | grind)  u15 hu15 fu15  ⟨ki8, ee_Fs fki8 (by first | assumption | lia | grind), by subst eu15; exact hki8.trans ((if_neg c10).trans (rfl))⟩
  refine g_pick (lv' := [(0, .ref (uk_ad G 49)), (1, .int k), (2, .int l), (3, .int n), (4, .int 0)]) [0, 1, 2, 3, 4] rfl ?_
  exact L17_6 0 (by first | decide | lia | grind) (by first | decide | lia | grind)  u6 hu6 fu6  ⟨ee_K, ee_F0 _ _, by subst eu6; subst eu3; exact rfl⟩
def e_X3_put (u : uk_Mem) (k : Int32) (i : Int32) (v : Int32) : uk_Mem := let x2 : Int32 := u.1 50 k.toNatClampNeg; if x2 = 0 then (let x6 : Int32 := v.toInt8.toInt32; let u9 : uk_Mem := uk_up u (52 + 1 + (k).toNatClampNeg) i.toNatClampNeg x6; u9) else (if x2 = 1 then (let x13 : Int32 := v.toInt16.toInt32; let u16 : uk_Mem := uk_up u (52 + 1 + (k).toNatClampNeg) i.toNatClampNeg x13; u16) else (let u21 : uk_Mem := uk_up u (52 + 1 + (k).toNatClampNeg) i.toNatClampNeg v; u21))
abbrev qe_X3_put (u : uk_Mem) (k : Int32) (i : Int32) (v : Int32) (r : Option Value) (u' : uk_Mem) : Prop := (q_X3_put u k i v r u') ∧ (u' = e_X3_put u k i v)
set_option maxHeartbeats 4000000 in
set_option maxRecDepth 20000 in
theorem x_X3_put {G : uk_D} (hs : uk_Sep G) {u : uk_Mem} (hu : iv u) (k : Int32) (i : Int32) (v : Int32) (p0 : 0 ≤ k) (p1 : k ≤ 3) (p2 : 0 ≤ i) (p3 : i < 40) (d : Nat) : uk_Meth G d mX3_put [.ref (uk_ad G 49), .int k, .int i, .int v] u (qe_X3_put u k i v) := by
  refine uk_Meth.of hs (by decide) (Nat.le_of_ble_eq_true rfl) (fun X => ?_)
  have f0 : fr 49 57 u u := fr_rf
  refine g_aload_n dX3_put_0 rfl ?_
  refine f_X3_11 rfl rfl dX3_put_1 ?_
  refine g_iload_n dX3_put_4 rfl ?_
  have v1 : vp_in k 4 := uk_vin 4 rfl (by first | decide | lia | grind) (by first | decide | lia | grind)
  refine g_iald rfl rfl v1 dX3_put_5 ?_
  refine g_topi (fun x2 ex2 => ?_)
  by_cases c3 : x2 = 0
  · refine g_lookup (off := 26) (tgt := 32) dX3_put_6 (by decide) (by rw [c3]; rfl) (by decide) ?_
    refine g_aload_n dX3_put_32 rfl ?_
    refine f_X3_20 rfl rfl dX3_put_33 ?_
    refine g_iload_n dX3_put_36 rfl ?_
    have v4 : vp_in k 4 := uk_vin 4 rfl (by first | decide | lia | grind) (by first | decide | lia | grind)
    refine g_aald rfl rfl v4 dX3_put_37 ?_
    have b5 := uk_cl v4
    refine g_iload_n dX3_put_38 rfl ?_
    refine g_iload_n dX3_put_39 rfl ?_
    refine g_i2b dX3_put_40 ?_
    refine g_topi (fun x6 ex6 => ?_)
    have v7 : vp_in i 40 := uk_vin 40 rfl (by first | decide | lia | grind) (by first | decide | lia | grind)
    have b8 := uk_cl v7
    refine g_iast (ks_kind b5) (ks_len b5) v7 dX3_put_41 ?_
    refine g_mem (fun u9 eu9 => ?_)
    have hu9 : iv u9 := by rw [eu9]; exact iv_upF hu (ks_rg b5 _ (by omega))
    have fu9 : fr 49 57 u u9 := by rw [eu9]; exact fr_up f0 (by omega) (by omega)
    refine g_goto (tgt := 67) dX3_put_42 (by decide) ?_
    exact g_vret dX3_put_67 rfl ⟨⟨rfl, hu9, fu9⟩, (by subst eu9; subst ex6; subst ex2; exact (if_pos c3).trans (rfl) : e_X3_put u k i v = u9).symm⟩
  by_cases c10 : x2 = 1
  · refine g_lookup (off := 39) (tgt := 45) dX3_put_6 (by decide) (by rw [c10]; rfl) (by decide) ?_
    refine g_aload_n dX3_put_45 rfl ?_
    refine f_X3_20 rfl rfl dX3_put_46 ?_
    refine g_iload_n dX3_put_49 rfl ?_
    have v11 : vp_in k 4 := uk_vin 4 rfl (by first | decide | lia | grind) (by first | decide | lia | grind)
    refine g_aald rfl rfl v11 dX3_put_50 ?_
    have b12 := uk_cl v11
    refine g_iload_n dX3_put_51 rfl ?_
    refine g_iload_n dX3_put_52 rfl ?_
    refine g_i2s dX3_put_53 ?_
    refine g_topi (fun x13 ex13 => ?_)
    have v14 : vp_in i 40 := uk_vin 40 rfl (by first | decide | lia | grind) (by first | decide | lia | grind)
    have b15 := uk_cl v14
    refine g_iast (ks_kind b12) (ks_len b12) v14 dX3_put_54 ?_
    refine g_mem (fun u16 eu16 => ?_)
    have hu16 : iv u16 := by rw [eu16]; exact iv_upF hu (ks_rg b12 _ (by omega))
    have fu16 : fr 49 57 u u16 := by rw [eu16]; exact fr_up f0 (by omega) (by omega)
    refine g_goto (tgt := 67) dX3_put_55 (by decide) ?_
    exact g_vret dX3_put_67 rfl ⟨⟨rfl, hu16, fu16⟩, (by subst eu16; subst ex13; subst ex2; exact (if_neg c3).trans ((if_pos c10).trans (rfl)) : e_X3_put u k i v = u16).symm⟩
  refine g_lookup (off := 52) (tgt := 58) dX3_put_6 (by decide) (by show Op.lookupswitch.offset [(0, 26), (1, 39)] 52 _ = _; rw [lv_osw (k := 0) (a := 0) c3 rfl]; rw [lv_osw (k := 1) (a := 1) c10 rfl]; rfl) (by decide) ?_
  refine g_aload_n dX3_put_58 rfl ?_
  refine f_X3_20 rfl rfl dX3_put_59 ?_
  refine g_iload_n dX3_put_62 rfl ?_
  have v17 : vp_in k 4 := uk_vin 4 rfl (by first | decide | lia | grind) (by first | decide | lia | grind)
  refine g_aald rfl rfl v17 dX3_put_63 ?_
  have b18 := uk_cl v17
  refine g_iload_n dX3_put_64 rfl ?_
  refine g_iload_n dX3_put_65 rfl ?_
  have v19 : vp_in i 40 := uk_vin 40 rfl (by first | decide | lia | grind) (by first | decide | lia | grind)
  have b20 := uk_cl v19
  refine g_iast (ks_kind b18) (ks_len b18) v19 dX3_put_66 ?_
  refine g_mem (fun u21 eu21 => ?_)
  have hu21 : iv u21 := by rw [eu21]; exact iv_upF hu (ks_rg b18 _ (by omega))
  have fu21 : fr 49 57 u u21 := by rw [eu21]; exact fr_up f0 (by omega) (by omega)
  exact g_vret dX3_put_67 rfl ⟨⟨rfl, hu21, fu21⟩, (by subst eu21; subst ex2; exact (if_neg c3).trans ((if_neg c10).trans (rfl)) : e_X3_put u k i v = u21).symm⟩
def e_X6_isDigit (u : uk_Mem) (v : Int32) : Int32 := if v < 0 then ((0 : Int32)) else (if (9 : Int32) < v then ((0 : Int32)) else ((1 : Int32)))
abbrev qe_X6_isDigit (u : uk_Mem) (v : Int32) (r : Option Value) (u' : uk_Mem) : Prop := (q_X6_isDigit u v r u') ∧ (r = some (.int (e_X6_isDigit u v)))
set_option maxHeartbeats 4000000 in
set_option maxRecDepth 20000 in
theorem x_X6_isDigit {G : uk_D} (hs : uk_Sep G) {u : uk_Mem} (hu : iv u) (v : Int32) (d : Nat) : uk_Meth G d mX6_isDigit [.int v] u (qe_X6_isDigit u v) := by
  refine uk_Meth.of hs (by decide) (Nat.le_of_ble_eq_true rfl) (fun X => ?_)
  refine g_iload_n dX6_isDigit_0 rfl ?_
  refine g_if_lt (tgt := 14) dX6_isDigit_1 (by decide) (fun c1 => ?_) (fun c1 => ?_)
  · refine g_iconst (v := 0) dX6_isDigit_14 (by decide) ?_
    exact g_iret (ty := .boolean) dX6_isDigit_15 rfl rfl ⟨⟨⟨0, rfl, Or.inl rfl, fun q => absurd rfl q, fun _ => by first | trivial | lia | grind⟩, rfl⟩, ee_p (by exact (if_pos c1).trans (rfl))⟩
  · refine g_iload_n dX6_isDigit_4 rfl ?_
    refine g_bipush (v := 9) dX6_isDigit_5 (by decide) ?_
    refine g_icmp_gt (tgt := 14) dX6_isDigit_7 (by decide) (fun c2 => ?_) (fun c2 => ?_)
    · refine g_iconst (v := 0) dX6_isDigit_14 (by decide) ?_
      exact g_iret (ty := .boolean) dX6_isDigit_15 rfl rfl ⟨⟨⟨0, rfl, Or.inl rfl, fun q => absurd rfl q, fun _ => by first | trivial | lia | grind⟩, rfl⟩, ee_p (by exact (if_neg c1).trans ((if_pos c2).trans (rfl)))⟩
    · refine g_iconst (v := 1) dX6_isDigit_10 (by decide) ?_
      refine g_goto (tgt := 15) dX6_isDigit_11 (by decide) ?_
      exact g_iret (ty := .boolean) dX6_isDigit_15 rfl rfl ⟨⟨⟨1, rfl, Or.inr rfl, fun _ => by first | trivial | lia | grind, fun q => absurd q (by decide)⟩, rfl⟩, ee_p (by exact (if_neg c1).trans ((if_neg c2).trans (rfl)))⟩
def e_X6_isFlag (u : uk_Mem) (w : Int32) : Int32 := if w = 0 then ((1 : Int32)) else (if w = (1 : Int32) then ((1 : Int32)) else ((0 : Int32)))
abbrev qe_X6_isFlag (u : uk_Mem) (w : Int32) (r : Option Value) (u' : uk_Mem) : Prop := (q_X6_isFlag u w r u') ∧ (r = some (.int (e_X6_isFlag u w)))
set_option maxHeartbeats 4000000 in
set_option maxRecDepth 20000 in
theorem x_X6_isFlag {G : uk_D} (hs : uk_Sep G) {u : uk_Mem} (hu : iv u) (w : Int32) (d : Nat) : uk_Meth G d mX6_isFlag [.int w] u (qe_X6_isFlag u w) := by
  refine uk_Meth.of hs (by decide) (Nat.le_of_ble_eq_true rfl) (fun X => ?_)
  refine g_iload_n dX6_isFlag_0 rfl ?_
  refine g_if_eq (tgt := 9) dX6_isFlag_1 (by decide) (fun c1 => ?_) (fun c1 => ?_)
  · refine g_iconst (v := 1) dX6_isFlag_9 (by decide) ?_
    refine g_goto (tgt := 14) dX6_isFlag_10 (by decide) ?_
    exact g_iret (ty := .boolean) dX6_isFlag_14 rfl rfl ⟨⟨⟨1, rfl, Or.inr rfl, fun _ => by first | trivial | lia | grind, fun q => absurd q (by decide)⟩, rfl⟩, ee_p (by exact (if_pos c1).trans (rfl))⟩
  · refine g_iload_n dX6_isFlag_4 rfl ?_
    refine g_iconst (v := 1) dX6_isFlag_5 (by decide) ?_
    refine g_icmp_ne (tgt := 13) dX6_isFlag_6 (by decide) (fun c2 => ?_) (fun c2 => ?_)
    · refine g_iconst (v := 0) dX6_isFlag_13 (by decide) ?_
      exact g_iret (ty := .boolean) dX6_isFlag_14 rfl rfl ⟨⟨⟨0, rfl, Or.inl rfl, fun q => absurd rfl q, fun _ => by first | trivial | lia | grind⟩, rfl⟩, ee_p (by exact (if_neg c1).trans ((if_neg c2).trans (rfl)))⟩
    · refine g_iconst (v := 1) dX6_isFlag_9 (by decide) ?_
      refine g_goto (tgt := 14) dX6_isFlag_10 (by decide) ?_
      exact g_iret (ty := .boolean) dX6_isFlag_14 rfl rfl ⟨⟨⟨1, rfl, Or.inr rfl, fun _ => by first | trivial | lia | grind, fun q => absurd q (by decide)⟩, rfl⟩, ee_p (by exact (if_neg c1).trans ((if_pos c2).trans (rfl)))⟩
def e_X6_isImage (u : uk_Mem) (k : Int32) : Int32 := if k < 0 then ((0 : Int32)) else (if (2 : Int32) ≤ k then ((0 : Int32)) else ((1 : Int32)))
abbrev qe_X6_isImage (u : uk_Mem) (k : Int32) (r : Option Value) (u' : uk_Mem) : Prop := (q_X6_isImage u k r u') ∧ (r = some (.int (e_X6_isImage u k)))
set_option maxHeartbeats 4000000 in
set_option maxRecDepth 20000 in
theorem x_X6_isImage {G : uk_D} (hs : uk_Sep G) {u : uk_Mem} (hu : iv u) (k : Int32) (d : Nat) : uk_Meth G d mX6_isImage [.int k] u (qe_X6_isImage u k) := by
  refine uk_Meth.of hs (by decide) (Nat.le_of_ble_eq_true rfl) (fun X => ?_)
  refine g_iload_n dX6_isImage_0 rfl ?_
  refine g_if_lt (tgt := 13) dX6_isImage_1 (by decide) (fun c1 => ?_) (fun c1 => ?_)
  · refine g_iconst (v := 0) dX6_isImage_13 (by decide) ?_
    exact g_iret (ty := .boolean) dX6_isImage_14 rfl rfl ⟨⟨⟨0, rfl, Or.inl rfl, fun q => absurd rfl q, fun _ => by first | trivial | lia | grind⟩, rfl⟩, ee_p (by exact (if_pos c1).trans (rfl))⟩
  · refine g_iload_n dX6_isImage_4 rfl ?_
    refine g_iconst (v := 2) dX6_isImage_5 (by decide) ?_
    refine g_icmp_ge (tgt := 13) dX6_isImage_6 (by decide) (fun c2 => ?_) (fun c2 => ?_)
    · refine g_iconst (v := 0) dX6_isImage_13 (by decide) ?_
      exact g_iret (ty := .boolean) dX6_isImage_14 rfl rfl ⟨⟨⟨0, rfl, Or.inl rfl, fun q => absurd rfl q, fun _ => by first | trivial | lia | grind⟩, rfl⟩, ee_p (by exact (if_neg c1).trans ((if_pos c2).trans (rfl)))⟩
    · refine g_iconst (v := 1) dX6_isImage_9 (by decide) ?_
      refine g_goto (tgt := 14) dX6_isImage_10 (by decide) ?_
      exact g_iret (ty := .boolean) dX6_isImage_14 rfl rfl ⟨⟨⟨1, rfl, Or.inr rfl, fun _ => by first | trivial | lia | grind, fun q => absurd q (by decide)⟩, rfl⟩, ee_p (by exact (if_neg c1).trans ((if_neg c2).trans (rfl)))⟩
def e_X6_isSheet (u : uk_Mem) (k : Int32) : Int32 := if k < 0 then ((0 : Int32)) else (if (4 : Int32) ≤ k then ((0 : Int32)) else ((1 : Int32)))
abbrev qe_X6_isSheet (u : uk_Mem) (k : Int32) (r : Option Value) (u' : uk_Mem) : Prop := (q_X6_isSheet u k r u') ∧ (r = some (.int (e_X6_isSheet u k)))
set_option maxHeartbeats 4000000 in
set_option maxRecDepth 20000 in
theorem x_X6_isSheet {G : uk_D} (hs : uk_Sep G) {u : uk_Mem} (hu : iv u) (k : Int32) (d : Nat) : uk_Meth G d mX6_isSheet [.int k] u (qe_X6_isSheet u k) := by
  refine uk_Meth.of hs (by decide) (Nat.le_of_ble_eq_true rfl) (fun X => ?_)
  refine g_iload_n dX6_isSheet_0 rfl ?_
  refine g_if_lt (tgt := 13) dX6_isSheet_1 (by decide) (fun c1 => ?_) (fun c1 => ?_)
  · refine g_iconst (v := 0) dX6_isSheet_13 (by decide) ?_
    exact g_iret (ty := .boolean) dX6_isSheet_14 rfl rfl ⟨⟨⟨0, rfl, Or.inl rfl, fun q => absurd rfl q, fun _ => by first | trivial | lia | grind⟩, rfl⟩, ee_p (by exact (if_pos c1).trans (rfl))⟩
  · refine g_iload_n dX6_isSheet_4 rfl ?_
    refine g_iconst (v := 4) dX6_isSheet_5 (by decide) ?_
    refine g_icmp_ge (tgt := 13) dX6_isSheet_6 (by decide) (fun c2 => ?_) (fun c2 => ?_)
    · refine g_iconst (v := 0) dX6_isSheet_13 (by decide) ?_
      exact g_iret (ty := .boolean) dX6_isSheet_14 rfl rfl ⟨⟨⟨0, rfl, Or.inl rfl, fun q => absurd rfl q, fun _ => by first | trivial | lia | grind⟩, rfl⟩, ee_p (by exact (if_neg c1).trans ((if_pos c2).trans (rfl)))⟩
    · refine g_iconst (v := 1) dX6_isSheet_9 (by decide) ?_
      refine g_goto (tgt := 14) dX6_isSheet_10 (by decide) ?_
      exact g_iret (ty := .boolean) dX6_isSheet_14 rfl rfl ⟨⟨⟨1, rfl, Or.inr rfl, fun _ => by first | trivial | lia | grind, fun q => absurd q (by decide)⟩, rfl⟩, ee_p (by exact (if_neg c1).trans ((if_neg c2).trans (rfl)))⟩
def e_X6_isLane (u : uk_Mem) (l : Int32) : Int32 := if l < 0 then ((0 : Int32)) else (if (3 : Int32) ≤ l then ((0 : Int32)) else ((1 : Int32)))
abbrev qe_X6_isLane (u : uk_Mem) (l : Int32) (r : Option Value) (u' : uk_Mem) : Prop := (q_X6_isLane u l r u') ∧ (r = some (.int (e_X6_isLane u l)))
set_option maxHeartbeats 4000000 in
set_option maxRecDepth 20000 in
theorem x_X6_isLane {G : uk_D} (hs : uk_Sep G) {u : uk_Mem} (hu : iv u) (l : Int32) (d : Nat) : uk_Meth G d mX6_isLane [.int l] u (qe_X6_isLane u l) := by
  refine uk_Meth.of hs (by decide) (Nat.le_of_ble_eq_true rfl) (fun X => ?_)
  refine g_iload_n dX6_isLane_0 rfl ?_
  refine g_if_lt (tgt := 13) dX6_isLane_1 (by decide) (fun c1 => ?_) (fun c1 => ?_)
  · refine g_iconst (v := 0) dX6_isLane_13 (by decide) ?_
    exact g_iret (ty := .boolean) dX6_isLane_14 rfl rfl ⟨⟨⟨0, rfl, Or.inl rfl, fun q => absurd rfl q, fun _ => by first | trivial | lia | grind⟩, rfl⟩, ee_p (by exact (if_pos c1).trans (rfl))⟩
  · refine g_iload_n dX6_isLane_4 rfl ?_
    refine g_iconst (v := 3) dX6_isLane_5 (by decide) ?_
    refine g_icmp_ge (tgt := 13) dX6_isLane_6 (by decide) (fun c2 => ?_) (fun c2 => ?_)
    · refine g_iconst (v := 0) dX6_isLane_13 (by decide) ?_
      exact g_iret (ty := .boolean) dX6_isLane_14 rfl rfl ⟨⟨⟨0, rfl, Or.inl rfl, fun q => absurd rfl q, fun _ => by first | trivial | lia | grind⟩, rfl⟩, ee_p (by exact (if_neg c1).trans ((if_pos c2).trans (rfl)))⟩
    · refine g_iconst (v := 1) dX6_isLane_9 (by decide) ?_
      refine g_goto (tgt := 14) dX6_isLane_10 (by decide) ?_
      exact g_iret (ty := .boolean) dX6_isLane_14 rfl rfl ⟨⟨⟨1, rfl, Or.inr rfl, fun _ => by first | trivial | lia | grind, fun q => absurd q (by decide)⟩, rfl⟩, ee_p (by exact (if_neg c1).trans ((if_neg c2).trans (rfl)))⟩
abbrev q_X6_imageOf_e (G : uk_D) (u : uk_Mem) (k : Int32) (r : Option Value) (u' : uk_Mem) : Prop := (∃ x : Nat, r = some (.ref (uk_ad G x)) ∧ ((x = 22 ∨ x = 31) ∧ x = if k = 0 then 22 else 31)) ∧ (u' = u)
set_option maxHeartbeats 4000000 in
set_option maxRecDepth 20000 in
theorem c_X6_imageOf_e {G : uk_D} (hs : uk_Sep G) {u : uk_Mem} (hu : iv u) (k : Int32) (d : Nat) : uk_Meth G d mX6_imageOf [.ref (uk_ad G 0), .int k] u (q_X6_imageOf_e G u k) := by
  refine uk_Meth.of hs (by decide) (Nat.le_of_ble_eq_true rfl) (fun X => ?_)
  refine g_iload_n dX6_imageOf_0 rfl ?_
  refine g_if_ne (tgt := 11) dX6_imageOf_1 (by decide) (fun c1 => ?_) (fun c1 => ?_)
  · refine g_aload_n dX6_imageOf_11 rfl ?_
    refine f_X6_38 rfl rfl dX6_imageOf_12 ?_
    exact g_aret (n := "UncookMill$Kitchen") dX6_imageOf_15 rfl ⟨⟨_, rfl, by first | trivial | decide | grind⟩, rfl⟩
  · refine g_aload_n dX6_imageOf_4 rfl ?_
    refine f_X6_35 rfl rfl dX6_imageOf_5 ?_
    refine g_goto (tgt := 15) dX6_imageOf_8 (by decide) ?_
    exact g_aret (n := "UncookMill$Kitchen") dX6_imageOf_15 rfl ⟨⟨_, rfl, by first | trivial | decide | grind⟩, rfl⟩
def e_X6_rule (u : uk_Mem) (w : Int32) : Int32 := if w = 0 then (let x2 : Int32 := u.1 13 0; x2) else (if w = 1 then (let x5 : Int32 := u.1 13 10; x5) else (if w = 2 then (let x8 : Int32 := u.1 13 11; x8) else (if w = 3 then (let x14 : Int32 := (e_X0_rawBits u 13); x14) else (if w = 4 then (let x19 : Int32 := (e_X0_thereBits u 13); x19) else ((-1 : Int32))))))
abbrev qe_X6_rule (u : uk_Mem) (w : Int32) (r : Option Value) (u' : uk_Mem) : Prop := (q_X6_rule u w r u') ∧ (r = some (.int (e_X6_rule u w)))
set_option maxHeartbeats 4000000 in
set_option maxRecDepth 20000 in
theorem x_X6_rule {G : uk_D} (hs : uk_Sep G) {u : uk_Mem} (hu : iv u) (w : Int32) (d : Nat) : uk_Meth G (d + 2) mX6_rule [.ref (uk_ad G 0), .int w] u (qe_X6_rule u w) := by
  refine uk_Meth.of hs (by decide) (Nat.le_of_ble_eq_true rfl) (fun X => ?_)
  refine g_iload_n dX6_rule_0 rfl ?_
  by_cases c1 : w = 0
  · refine g_tabIn (off := (35)) (tgt := 36) dX6_rule_1 (by rw [c1]; decide) (by rw [c1]; decide) (by rw [c1]; rfl) (by decide) ?_
    refine g_aload_n dX6_rule_36 rfl ?_
    refine f_X6_10 rfl rfl dX6_rule_37 ?_
    refine f_X6_105 rfl rfl dX6_rule_40 ?_
    refine g_topi (fun x2 ex2 => ?_)
    have rx2 : 0 ≤ x2 ∧ x2 ≤ 8 := by rw [ex2]; exact iv_at hu _ _ rfl
    have s3 : u.1 13 0 = x2 := ex2.symm
    exact g_iret (ty := .int) dX6_rule_43 rfl rfl ⟨⟨⟨_, rfl, by first | trivial | lia | grind⟩, rfl⟩, ee_p (by subst ex2; exact (if_pos c1).trans (rfl))⟩
  by_cases c4 : w = 1
  · refine g_tabIn (off := (43)) (tgt := 44) dX6_rule_1 (by rw [c4]; decide) (by rw [c4]; decide) (by rw [c4]; rfl) (by decide) ?_
    refine g_aload_n dX6_rule_44 rfl ?_
    refine f_X6_10 rfl rfl dX6_rule_45 ?_
    refine f_X6_106 rfl rfl dX6_rule_48 ?_
    refine g_topi (fun x5 ex5 => ?_)
    have s6 : u.1 13 10 = x5 := ex5.symm
    exact g_iret (ty := .int) dX6_rule_51 rfl rfl ⟨⟨⟨_, rfl, by first | trivial | lia | grind⟩, rfl⟩, ee_p (by subst ex5; exact (if_neg c1).trans ((if_pos c4).trans (rfl)))⟩
  by_cases c7 : w = 2
  · refine g_tabIn (off := (51)) (tgt := 52) dX6_rule_1 (by rw [c7]; decide) (by rw [c7]; decide) (by rw [c7]; rfl) (by decide) ?_
    refine g_aload_n dX6_rule_52 rfl ?_
    refine f_X6_10 rfl rfl dX6_rule_53 ?_
    refine f_X6_109 rfl rfl dX6_rule_56 ?_
    refine g_topi (fun x8 ex8 => ?_)
    have s9 : u.1 13 11 = x8 := ex8.symm
    exact g_iret (ty := .int) dX6_rule_59 rfl rfl ⟨⟨⟨_, rfl, by first | trivial | lia | grind⟩, rfl⟩, ee_p (by subst ex8; exact (if_neg c1).trans ((if_neg c4).trans ((if_pos c7).trans (rfl))))⟩
  by_cases c10 : w = 3
  · refine g_tabIn (off := (59)) (tgt := 60) dX6_rule_1 (by rw [c10]; decide) (by rw [c10]; decide) (by rw [c10]; rfl) (by decide) ?_
    refine g_aload_n dX6_rule_60 rfl ?_
    refine f_X6_10 rfl rfl dX6_rule_61 ?_
    refine cl_X6_112 (c := 13) (As := []) rfl (x_X0_rawBits (G := G) hs hu uk_isK13   (d)) rfl (by omega) rfl rfl (Nat.le_of_ble_eq_true rfl) dX6_rule_64 (fun r11 u12 q13 => ?_)
    obtain ⟨q13, Eq13⟩ := q13
    obtain ⟨⟨x14, rfl, tx14⟩, mq13⟩ := q13
    rw [mq13]
    have ex14 : x14 = (e_X0_rawBits u 13) := ee_v Eq13
    exact g_iret (ty := .int) dX6_rule_67 rfl rfl ⟨⟨⟨_, rfl, by first | trivial | lia | grind⟩, rfl⟩, ee_p (by subst ex14; exact (if_neg c1).trans ((if_neg c4).trans ((if_neg c7).trans ((if_pos c10).trans (rfl)))))⟩
  by_cases c15 : w = 4
  · refine g_tabIn (off := (67)) (tgt := 68) dX6_rule_1 (by rw [c15]; decide) (by rw [c15]; decide) (by rw [c15]; rfl) (by decide) ?_
    refine g_aload_n dX6_rule_68 rfl ?_
    refine f_X6_10 rfl rfl dX6_rule_69 ?_
    refine cl_X6_115 (c := 13) (As := []) rfl (x_X0_thereBits (G := G) hs hu uk_isK13   (d + 1)) rfl (by omega) rfl rfl (Nat.le_of_ble_eq_true rfl) dX6_rule_72 (fun r16 u17 q18 => ?_)
    obtain ⟨q18, Eq18⟩ := q18
    obtain ⟨⟨x19, rfl, tx19⟩, mq18⟩ := q18
    rw [mq18]
    have ex19 : x19 = (e_X0_thereBits u 13) := ee_v Eq18
    exact g_iret (ty := .int) dX6_rule_75 rfl rfl ⟨⟨⟨_, rfl, by first | trivial | lia | grind⟩, rfl⟩, ee_p (by subst ex19; exact (if_neg c1).trans ((if_neg c4).trans ((if_neg c7).trans ((if_neg c10).trans ((if_pos c15).trans (rfl))))))⟩
  refine g_tabOut (tgt := 76) dX6_rule_1 (uk_swo 0 4 rfl rfl (by first | lia | grind)) (by decide) ?_
  refine g_iconst (v := (-1)) dX6_rule_76 (by decide) ?_
  exact g_iret (ty := .int) dX6_rule_77 rfl rfl ⟨⟨⟨_, rfl, by first | trivial | lia | grind⟩, rfl⟩, ee_p (by exact (if_neg c1).trans ((if_neg c4).trans ((if_neg c7).trans ((if_neg c10).trans ((if_neg c15).trans (rfl))))))⟩
def e_X6_stuff (u : uk_Mem) (m : Int32) (w : Int32) : Int32 := let x4 : Int32 := (e_X0_hasStuff u 13 m); if x4 = 0 then ((-1 : Int32)) else (let x9 : Int32 := (e_X0_isMade u 13 m); if w = 0 then (let x12 : Int32 := u.1 14 m.toNatClampNeg; x12) else (if w = 1 then (if x9 = 0 then ((-4 : Int32)) else (let x16 : Int32 := u.1 15 m.toNatClampNeg; x16)) else (if w = 2 then (if x9 = 0 then ((-4 : Int32)) else (let x20 : Int32 := u.1 16 m.toNatClampNeg; x20)) else (if w = 3 then (let x23 : Int32 := u.1 17 m.toNatClampNeg; x23) else (if w = 4 then (if x9 = 0 then (let x27 : Int32 := u.1 18 m.toNatClampNeg; x27) else ((-4 : Int32))) else (if w = 5 then (let x30 : Int32 := u.1 20 m.toNatClampNeg; x30) else (if w = 6 then (let x33 : Int32 := u.1 19 m.toNatClampNeg; x33) else ((-1 : Int32)))))))))
abbrev qe_X6_stuff (u : uk_Mem) (m : Int32) (w : Int32) (r : Option Value) (u' : uk_Mem) : Prop := (q_X6_stuff u m w r u') ∧ (r = some (.int (e_X6_stuff u m w)))
set_option maxHeartbeats 4000000 in
set_option maxRecDepth 20000 in
theorem x_X6_stuff {G : uk_D} (hs : uk_Sep G) {u : uk_Mem} (hu : iv u) (m : Int32) (w : Int32) (d : Nat) : uk_Meth G (d + 1) mX6_stuff [.ref (uk_ad G 0), .int m, .int w] u (qe_X6_stuff u m w) := by
  refine uk_Meth.of hs (by decide) (Nat.le_of_ble_eq_true rfl) (fun X => ?_)
  refine g_aload_n dX6_stuff_0 rfl ?_
  refine f_X6_10 rfl rfl dX6_stuff_1 ?_
  refine g_iload_n dX6_stuff_4 rfl ?_
  refine cl_X6_118 (c := 13) (As := [.int m]) rfl (x_X0_hasStuff (G := G) hs hu uk_isK13 m  (d)) rfl (by omega) rfl rfl (Nat.le_of_ble_eq_true rfl) dX6_stuff_5 (fun r1 u2 q3 => ?_)
  obtain ⟨q3, Eq3⟩ := q3
  obtain ⟨⟨x4, rfl, tx4, nx4, zx4⟩, mq3⟩ := q3
  rw [mq3]
  have ex4 : x4 = (e_X0_hasStuff u 13 m) := ee_v Eq3
  refine g_if_ne (tgt := 13) dX6_stuff_8 (by decide) (fun c5 => ?_) (fun c5 => ?_)
  · have zc5 := nx4 c5
    refine g_aload_n dX6_stuff_13 rfl ?_
    refine f_X6_10 rfl rfl dX6_stuff_14 ?_
    refine g_iload_n dX6_stuff_17 rfl ?_
    refine cl_X6_122 (c := 13) (As := [.int m]) rfl (x_X0_isMade (G := G) hs hu uk_isK13 m (by first | trivial | decide | lia | grind) (by first | trivial | decide | lia | grind) (d)) rfl (by omega) rfl rfl (Nat.le_of_ble_eq_true rfl) dX6_stuff_18 (fun r6 u7 q8 => ?_)
    obtain ⟨q8, Eq8⟩ := q8
    obtain ⟨⟨x9, rfl, tx9, nx9, zx9⟩, mq8⟩ := q8
    rw [mq8]
    have ex9 : x9 = (e_X0_isMade u 13 m) := ee_v Eq8
    refine g_istore_n dX6_stuff_21 (by decide) ?_
    refine g_pick (lv' := [(0, .ref (uk_ad G 0)), (1, .int m), (2, .int w), (3, .int x9)]) [0, 1, 2, 3] rfl ?_
    refine g_iload_n dX6_stuff_22 rfl ?_
    by_cases c10 : w = 0
    · refine g_tabIn (off := (41)) (tgt := 64) dX6_stuff_23 (by rw [c10]; decide) (by rw [c10]; decide) (by rw [c10]; rfl) (by decide) ?_
      refine g_aload_n dX6_stuff_64 rfl ?_
      refine f_X6_10 rfl rfl dX6_stuff_65 ?_
      refine f_X6_125 rfl rfl dX6_stuff_68 ?_
      refine g_iload_n dX6_stuff_71 rfl ?_
      have v11 : vp_in m 8 := uk_vin 8 rfl (by first | decide | lia | grind) (by first | decide | lia | grind)
      refine g_iald rfl rfl v11 dX6_stuff_72 ?_
      refine g_topi (fun x12 ex12 => ?_)
      exact g_iret (ty := .int) dX6_stuff_73 rfl rfl ⟨⟨⟨_, rfl, by first | trivial | lia | grind⟩, rfl⟩, ee_p (by subst ex12; subst ex9; subst ex4; exact (if_neg c5).trans ((if_pos c10).trans (rfl)))⟩
    by_cases c13 : w = 1
    · refine g_tabIn (off := (51)) (tgt := 74) dX6_stuff_23 (by rw [c13]; decide) (by rw [c13]; decide) (by rw [c13]; rfl) (by decide) ?_
      refine g_iload_n dX6_stuff_74 rfl ?_
      refine g_if_eq (tgt := 90) dX6_stuff_75 (by decide) (fun c14 => ?_) (fun c14 => ?_)
      · have zc14 := zx9 c14
        refine g_bipush (v := (-4)) dX6_stuff_90 (by decide) ?_
        exact g_iret (ty := .int) dX6_stuff_92 rfl rfl ⟨⟨⟨_, rfl, by first | trivial | lia | grind⟩, rfl⟩, ee_p (by subst ex9; subst ex4; exact (if_neg c5).trans ((if_neg c10).trans ((if_pos c13).trans ((if_pos c14).trans (rfl)))))⟩
      · have zc14 := nx9 c14
        refine g_aload_n dX6_stuff_78 rfl ?_
        refine f_X6_10 rfl rfl dX6_stuff_79 ?_
        refine f_X6_128 rfl rfl dX6_stuff_82 ?_
        refine g_iload_n dX6_stuff_85 rfl ?_
        have v15 : vp_in m 8 := uk_vin 8 rfl (by first | decide | lia | grind) (by first | decide | lia | grind)
        refine g_iald rfl rfl v15 dX6_stuff_86 ?_
        refine g_topi (fun x16 ex16 => ?_)
        have bx16 := uk_cl v15
        have rx16 : 0 ≤ x16 ∧ x16 ≤ 7 := by rw [ex16]; exact iv_at hu _ _ (uk_pick1 _ (by omega))
        refine g_goto (tgt := 92) dX6_stuff_87 (by decide) ?_
        exact g_iret (ty := .int) dX6_stuff_92 rfl rfl ⟨⟨⟨_, rfl, by first | trivial | lia | grind⟩, rfl⟩, ee_p (by subst ex16; subst ex9; subst ex4; exact (if_neg c5).trans ((if_neg c10).trans ((if_pos c13).trans ((if_neg c14).trans (rfl)))))⟩
    by_cases c17 : w = 2
    · refine g_tabIn (off := (70)) (tgt := 93) dX6_stuff_23 (by rw [c17]; decide) (by rw [c17]; decide) (by rw [c17]; rfl) (by decide) ?_
      refine g_iload_n dX6_stuff_93 rfl ?_
      refine g_if_eq (tgt := 109) dX6_stuff_94 (by decide) (fun c18 => ?_) (fun c18 => ?_)
      · have zc18 := zx9 c18
        refine g_bipush (v := (-4)) dX6_stuff_109 (by decide) ?_
        exact g_iret (ty := .int) dX6_stuff_111 rfl rfl ⟨⟨⟨_, rfl, by first | trivial | lia | grind⟩, rfl⟩, ee_p (by subst ex9; subst ex4; exact (if_neg c5).trans ((if_neg c10).trans ((if_neg c13).trans ((if_pos c17).trans ((if_pos c18).trans (rfl))))))⟩
      · have zc18 := nx9 c18
        refine g_aload_n dX6_stuff_97 rfl ?_
        refine f_X6_10 rfl rfl dX6_stuff_98 ?_
        refine f_X6_131 rfl rfl dX6_stuff_101 ?_
        refine g_iload_n dX6_stuff_104 rfl ?_
        have v19 : vp_in m 8 := uk_vin 8 rfl (by first | decide | lia | grind) (by first | decide | lia | grind)
        refine g_iald rfl rfl v19 dX6_stuff_105 ?_
        refine g_topi (fun x20 ex20 => ?_)
        have bx20 := uk_cl v19
        have rx20 : 0 ≤ x20 ∧ x20 ≤ 7 := by rw [ex20]; exact iv_at hu _ _ (uk_pick1 _ (by omega))
        refine g_goto (tgt := 111) dX6_stuff_106 (by decide) ?_
        exact g_iret (ty := .int) dX6_stuff_111 rfl rfl ⟨⟨⟨_, rfl, by first | trivial | lia | grind⟩, rfl⟩, ee_p (by subst ex20; subst ex9; subst ex4; exact (if_neg c5).trans ((if_neg c10).trans ((if_neg c13).trans ((if_pos c17).trans ((if_neg c18).trans (rfl))))))⟩
    by_cases c21 : w = 3
    · refine g_tabIn (off := (89)) (tgt := 112) dX6_stuff_23 (by rw [c21]; decide) (by rw [c21]; decide) (by rw [c21]; rfl) (by decide) ?_
      refine g_aload_n dX6_stuff_112 rfl ?_
      refine f_X6_10 rfl rfl dX6_stuff_113 ?_
      refine f_X6_134 rfl rfl dX6_stuff_116 ?_
      refine g_iload_n dX6_stuff_119 rfl ?_
      have v22 : vp_in m 8 := uk_vin 8 rfl (by first | decide | lia | grind) (by first | decide | lia | grind)
      refine g_iald rfl rfl v22 dX6_stuff_120 ?_
      refine g_topi (fun x23 ex23 => ?_)
      exact g_iret (ty := .int) dX6_stuff_121 rfl rfl ⟨⟨⟨_, rfl, by first | trivial | lia | grind⟩, rfl⟩, ee_p (by subst ex23; subst ex9; subst ex4; exact (if_neg c5).trans ((if_neg c10).trans ((if_neg c13).trans ((if_neg c17).trans ((if_pos c21).trans (rfl))))))⟩
    by_cases c24 : w = 4
    · refine g_tabIn (off := (99)) (tgt := 122) dX6_stuff_23 (by rw [c24]; decide) (by rw [c24]; decide) (by rw [c24]; rfl) (by decide) ?_
      refine g_iload_n dX6_stuff_122 rfl ?_
      refine g_if_eq (tgt := 131) dX6_stuff_123 (by decide) (fun c25 => ?_) (fun c25 => ?_)
      · have zc25 := zx9 c25
        refine g_aload_n dX6_stuff_131 rfl ?_
        refine f_X6_10 rfl rfl dX6_stuff_132 ?_
        refine f_X6_137 rfl rfl dX6_stuff_135 ?_
        refine g_iload_n dX6_stuff_138 rfl ?_
        have v26 : vp_in m 8 := uk_vin 8 rfl (by first | decide | lia | grind) (by first | decide | lia | grind)
        refine g_iald rfl rfl v26 dX6_stuff_139 ?_
        refine g_topi (fun x27 ex27 => ?_)
        exact g_iret (ty := .int) dX6_stuff_140 rfl rfl ⟨⟨⟨_, rfl, by first | trivial | lia | grind⟩, rfl⟩, ee_p (by subst ex27; subst ex9; subst ex4; exact (if_neg c5).trans ((if_neg c10).trans ((if_neg c13).trans ((if_neg c17).trans ((if_neg c21).trans ((if_pos c24).trans ((if_pos c25).trans (rfl))))))))⟩
      · have zc25 := nx9 c25
        refine g_bipush (v := (-4)) dX6_stuff_126 (by decide) ?_
        refine g_goto (tgt := 140) dX6_stuff_128 (by decide) ?_
        exact g_iret (ty := .int) dX6_stuff_140 rfl rfl ⟨⟨⟨_, rfl, by first | trivial | lia | grind⟩, rfl⟩, ee_p (by subst ex9; subst ex4; exact (if_neg c5).trans ((if_neg c10).trans ((if_neg c13).trans ((if_neg c17).trans ((if_neg c21).trans ((if_pos c24).trans ((if_neg c25).trans (rfl))))))))⟩
    by_cases c28 : w = 5
    · refine g_tabIn (off := (118)) (tgt := 141) dX6_stuff_23 (by rw [c28]; decide) (by rw [c28]; decide) (by rw [c28]; rfl) (by decide) ?_
      refine g_aload_n dX6_stuff_141 rfl ?_
      refine f_X6_10 rfl rfl dX6_stuff_142 ?_
      refine f_X6_140 rfl rfl dX6_stuff_145 ?_
      refine g_iload_n dX6_stuff_148 rfl ?_
      have v29 : vp_in m 8 := uk_vin 8 rfl (by first | decide | lia | grind) (by first | decide | lia | grind)
      refine g_iald rfl rfl v29 dX6_stuff_149 ?_
      refine g_topi (fun x30 ex30 => ?_)
      exact g_iret (ty := .int) dX6_stuff_150 rfl rfl ⟨⟨⟨_, rfl, by first | trivial | lia | grind⟩, rfl⟩, ee_p (by subst ex30; subst ex9; subst ex4; exact (if_neg c5).trans ((if_neg c10).trans ((if_neg c13).trans ((if_neg c17).trans ((if_neg c21).trans ((if_neg c24).trans ((if_pos c28).trans (rfl))))))))⟩
    by_cases c31 : w = 6
    · refine g_tabIn (off := (128)) (tgt := 151) dX6_stuff_23 (by rw [c31]; decide) (by rw [c31]; decide) (by rw [c31]; rfl) (by decide) ?_
      refine g_aload_n dX6_stuff_151 rfl ?_
      refine f_X6_10 rfl rfl dX6_stuff_152 ?_
      refine f_X6_143 rfl rfl dX6_stuff_155 ?_
      refine g_iload_n dX6_stuff_158 rfl ?_
      have v32 : vp_in m 8 := uk_vin 8 rfl (by first | decide | lia | grind) (by first | decide | lia | grind)
      refine g_iald rfl rfl v32 dX6_stuff_159 ?_
      refine g_topi (fun x33 ex33 => ?_)
      exact g_iret (ty := .int) dX6_stuff_160 rfl rfl ⟨⟨⟨_, rfl, by first | trivial | lia | grind⟩, rfl⟩, ee_p (by subst ex33; subst ex9; subst ex4; exact (if_neg c5).trans ((if_neg c10).trans ((if_neg c13).trans ((if_neg c17).trans ((if_neg c21).trans ((if_neg c24).trans ((if_neg c28).trans ((if_pos c31).trans (rfl)))))))))⟩
    refine g_tabOut (tgt := 161) dX6_stuff_23 (uk_swo 0 6 rfl rfl (by first | lia | grind)) (by decide) ?_
    refine g_iconst (v := (-1)) dX6_stuff_161 (by decide) ?_
    exact g_iret (ty := .int) dX6_stuff_162 rfl rfl ⟨⟨⟨_, rfl, by first | trivial | lia | grind⟩, rfl⟩, ee_p (by subst ex9; subst ex4; exact (if_neg c5).trans ((if_neg c10).trans ((if_neg c13).trans ((if_neg c17).trans ((if_neg c21).trans ((if_neg c24).trans ((if_neg c28).trans ((if_neg c31).trans (rfl)))))))))⟩
  · have zc5 := zx4 c5
    refine g_iconst (v := (-1)) dX6_stuff_11 (by decide) ?_
    exact g_iret (ty := .int) dX6_stuff_12 rfl rfl ⟨⟨⟨_, rfl, by first | trivial | lia | grind⟩, rfl⟩, ee_p (by subst ex4; exact (if_pos c5).trans (rfl))⟩
def e_X6_fill (u : uk_Mem) (m : Int32) (n : Int32) : Int32 × uk_Mem := let x4 : Int32 := (e_X0_hasStuff u 13 m); if x4 = 0 then (((-1 : Int32), u)) else (if n < 0 then (((-1 : Int32), u)) else (if n ≤ (40 : Int32) then (let x9 : Int32 := u.1 19 m.toNatClampNeg; let u12 : uk_Mem := uk_up u 19 m.toNatClampNeg n; (x9, u12)) else (((-1 : Int32), u))))
abbrev qe_X6_fill (u : uk_Mem) (m : Int32) (n : Int32) (r : Option Value) (u' : uk_Mem) : Prop := (q_X6_fill u m n r u') ∧ (r = some (.int (e_X6_fill u m n).1) ∧ u' = (e_X6_fill u m n).2)
set_option maxHeartbeats 4000000 in
set_option maxRecDepth 20000 in
theorem x_X6_fill {G : uk_D} (hs : uk_Sep G) {u : uk_Mem} (hu : iv u) (m : Int32) (n : Int32) (d : Nat) : uk_Meth G (d + 1) mX6_fill [.ref (uk_ad G 0), .int m, .int n] u (qe_X6_fill u m n) := by
  refine uk_Meth.of hs (by decide) (Nat.le_of_ble_eq_true rfl) (fun X => ?_)
  have f0 : fr 13 22 u u := fr_rf
  refine g_aload_n dX6_fill_0 rfl ?_
  refine f_X6_10 rfl rfl dX6_fill_1 ?_
  refine g_iload_n dX6_fill_4 rfl ?_
  refine cl_X6_118 (c := 13) (As := [.int m]) rfl (x_X0_hasStuff (G := G) hs hu uk_isK13 m  (d)) rfl (by omega) rfl rfl (Nat.le_of_ble_eq_true rfl) dX6_fill_5 (fun r1 u2 q3 => ?_)
  obtain ⟨q3, Eq3⟩ := q3
  obtain ⟨⟨x4, rfl, tx4, nx4, zx4⟩, mq3⟩ := q3
  rw [mq3]
  have ex4 : x4 = (e_X0_hasStuff u 13 m) := ee_v Eq3
  refine g_if_eq (tgt := 21) dX6_fill_8 (by decide) (fun c5 => ?_) (fun c5 => ?_)
  · have zc5 := zx4 c5
    refine g_iconst (v := (-1)) dX6_fill_21 (by decide) ?_
    exact g_iret (ty := .int) dX6_fill_22 rfl rfl ⟨⟨⟨_, rfl, by first | trivial | lia | grind⟩, hu, f0⟩, ee_i (by subst ex4; exact (if_pos c5).trans (rfl))⟩
  · have zc5 := nx4 c5
    refine g_iload_n dX6_fill_11 rfl ?_
    refine g_if_lt (tgt := 21) dX6_fill_12 (by decide) (fun c6 => ?_) (fun c6 => ?_)
    · refine g_iconst (v := (-1)) dX6_fill_21 (by decide) ?_
      exact g_iret (ty := .int) dX6_fill_22 rfl rfl ⟨⟨⟨_, rfl, by first | trivial | lia | grind⟩, hu, f0⟩, ee_i (by subst ex4; exact (if_neg c5).trans ((if_pos c6).trans (rfl)))⟩
    · refine g_iload_n dX6_fill_15 rfl ?_
      refine g_bipush (v := 40) dX6_fill_16 (by decide) ?_
      refine g_icmp_le (tgt := 23) dX6_fill_18 (by decide) (fun c7 => ?_) (fun c7 => ?_)
      · refine g_aload_n dX6_fill_23 rfl ?_
        refine f_X6_10 rfl rfl dX6_fill_24 ?_
        refine f_X6_143 rfl rfl dX6_fill_27 ?_
        refine g_iload_n dX6_fill_30 rfl ?_
        have v8 : vp_in m 8 := uk_vin 8 rfl (by first | decide | lia | grind) (by first | decide | lia | grind)
        refine g_iald rfl rfl v8 dX6_fill_31 ?_
        refine g_topi (fun x9 ex9 => ?_)
        refine g_istore_n dX6_fill_32 (by decide) ?_
        refine g_pick (lv' := [(0, .ref (uk_ad G 0)), (1, .int m), (2, .int n), (3, .int x9)]) [0, 1, 2, 3] rfl ?_
        refine g_aload_n dX6_fill_33 rfl ?_
        refine f_X6_10 rfl rfl dX6_fill_34 ?_
        refine f_X6_143 rfl rfl dX6_fill_37 ?_
        refine g_iload_n dX6_fill_40 rfl ?_
        refine g_iload_n dX6_fill_41 rfl ?_
        have v10 : vp_in m 8 := uk_vin 8 rfl (by first | decide | lia | grind) (by first | decide | lia | grind)
        have b11 := uk_cl v10
        refine g_iast rfl rfl v10 dX6_fill_42 ?_
        refine g_mem (fun u12 eu12 => ?_)
        have hu12 : iv u12 := by rw [eu12]; exact iv_upF hu (uk_pick1 _ (by omega))
        have fu12 : fr 13 22 u u12 := by rw [eu12]; exact fr_up f0 (by omega) (by omega)
        refine g_iload_n dX6_fill_43 rfl ?_
        exact g_iret (ty := .int) dX6_fill_44 rfl rfl ⟨⟨⟨_, rfl, by first | trivial | lia | grind⟩, hu12, fu12⟩, ee_i (by subst eu12; subst ex9; subst ex4; exact (if_neg c5).trans ((if_neg c6).trans ((if_pos c7).trans (rfl))))⟩
      · refine g_iconst (v := (-1)) dX6_fill_21 (by decide) ?_
        exact g_iret (ty := .int) dX6_fill_22 rfl rfl ⟨⟨⟨_, rfl, by first | trivial | lia | grind⟩, hu, f0⟩, ee_i (by subst ex4; exact (if_neg c5).trans ((if_neg c6).trans ((if_neg c7).trans (rfl))))⟩
def e_X6_feeds (u : uk_Mem) (m : Int32) (v : Int32) : Int32 × uk_Mem := let x4 : Int32 := (e_X0_hasStuff u 13 m); if x4 = 0 then (((-1 : Int32), u)) else (let x9 : Int32 := (e_X6_isDigit u v); if x9 = 0 then (((-1 : Int32), u)) else (let x12 : Int32 := u.1 17 m.toNatClampNeg; let u15 : uk_Mem := uk_up u 17 m.toNatClampNeg v; (x12, u15)))
abbrev qe_X6_feeds (u : uk_Mem) (m : Int32) (v : Int32) (r : Option Value) (u' : uk_Mem) : Prop := (q_X6_feeds u m v r u') ∧ (r = some (.int (e_X6_feeds u m v).1) ∧ u' = (e_X6_feeds u m v).2)
set_option maxHeartbeats 4000000 in
set_option maxRecDepth 20000 in
theorem x_X6_feeds {G : uk_D} (hs : uk_Sep G) {u : uk_Mem} (hu : iv u) (m : Int32) (v : Int32) (d : Nat) : uk_Meth G (d + 1) mX6_feeds [.ref (uk_ad G 0), .int m, .int v] u (qe_X6_feeds u m v) := by
  refine uk_Meth.of hs (by decide) (Nat.le_of_ble_eq_true rfl) (fun X => ?_)
  have f0 : fr 13 22 u u := fr_rf
  refine g_aload_n dX6_feeds_0 rfl ?_
  refine f_X6_10 rfl rfl dX6_feeds_1 ?_
  refine g_iload_n dX6_feeds_4 rfl ?_
  refine cl_X6_118 (c := 13) (As := [.int m]) rfl (x_X0_hasStuff (G := G) hs hu uk_isK13 m  (d)) rfl (by omega) rfl rfl (Nat.le_of_ble_eq_true rfl) dX6_feeds_5 (fun r1 u2 q3 => ?_)
  obtain ⟨q3, Eq3⟩ := q3
  obtain ⟨⟨x4, rfl, tx4, nx4, zx4⟩, mq3⟩ := q3
  rw [mq3]
  have ex4 : x4 = (e_X0_hasStuff u 13 m) := ee_v Eq3
  refine g_if_eq (tgt := 18) dX6_feeds_8 (by decide) (fun c5 => ?_) (fun c5 => ?_)
  · have zc5 := zx4 c5
    refine g_iconst (v := (-1)) dX6_feeds_18 (by decide) ?_
    exact g_iret (ty := .int) dX6_feeds_19 rfl rfl ⟨⟨⟨_, rfl, by first | trivial | lia | grind⟩, hu, f0⟩, ee_i (by subst ex4; exact (if_pos c5).trans (rfl))⟩
  · have zc5 := nx4 c5
    refine g_iload_n dX6_feeds_11 rfl ?_
    refine cl_X6_146 (As := [.int v]) rfl (x_X6_isDigit (G := G) hs hu  v  (d)) rfl (by omega) rfl (Nat.le_of_ble_eq_true rfl) dX6_feeds_12 (fun r6 u7 q8 => ?_)
    obtain ⟨q8, Eq8⟩ := q8
    obtain ⟨⟨x9, rfl, tx9, nx9, zx9⟩, mq8⟩ := q8
    rw [mq8]
    have ex9 : x9 = (e_X6_isDigit u v) := ee_v Eq8
    refine g_if_ne (tgt := 20) dX6_feeds_15 (by decide) (fun c10 => ?_) (fun c10 => ?_)
    · have zc10 := nx9 c10
      refine g_aload_n dX6_feeds_20 rfl ?_
      refine f_X6_10 rfl rfl dX6_feeds_21 ?_
      refine f_X6_134 rfl rfl dX6_feeds_24 ?_
      refine g_iload_n dX6_feeds_27 rfl ?_
      have v11 : vp_in m 8 := uk_vin 8 rfl (by first | decide | lia | grind) (by first | decide | lia | grind)
      refine g_iald rfl rfl v11 dX6_feeds_28 ?_
      refine g_topi (fun x12 ex12 => ?_)
      refine g_istore_n dX6_feeds_29 (by decide) ?_
      refine g_pick (lv' := [(0, .ref (uk_ad G 0)), (1, .int m), (2, .int v), (3, .int x12)]) [0, 1, 2, 3] rfl ?_
      refine g_aload_n dX6_feeds_30 rfl ?_
      refine f_X6_10 rfl rfl dX6_feeds_31 ?_
      refine f_X6_134 rfl rfl dX6_feeds_34 ?_
      refine g_iload_n dX6_feeds_37 rfl ?_
      refine g_iload_n dX6_feeds_38 rfl ?_
      have v13 : vp_in m 8 := uk_vin 8 rfl (by first | decide | lia | grind) (by first | decide | lia | grind)
      have b14 := uk_cl v13
      refine g_iast rfl rfl v13 dX6_feeds_39 ?_
      refine g_mem (fun u15 eu15 => ?_)
      have hu15 : iv u15 := by rw [eu15]; exact iv_upF hu (uk_pick1 _ (by omega))
      have fu15 : fr 13 22 u u15 := by rw [eu15]; exact fr_up f0 (by omega) (by omega)
      refine g_iload_n dX6_feeds_40 rfl ?_
      exact g_iret (ty := .int) dX6_feeds_41 rfl rfl ⟨⟨⟨_, rfl, by first | trivial | lia | grind⟩, hu15, fu15⟩, ee_i (by subst eu15; subst ex12; subst ex9; subst ex4; exact (if_neg c5).trans ((if_neg c10).trans (rfl)))⟩
    · have zc10 := zx9 c10
      refine g_iconst (v := (-1)) dX6_feeds_18 (by decide) ?_
      exact g_iret (ty := .int) dX6_feeds_19 rfl rfl ⟨⟨⟨_, rfl, by first | trivial | lia | grind⟩, hu, f0⟩, ee_i (by subst ex9; subst ex4; exact (if_neg c5).trans ((if_pos c10).trans (rfl)))⟩
def e_X6_price (u : uk_Mem) (m : Int32) (v : Int32) : Int32 × uk_Mem := let x4 : Int32 := (e_X0_hasStuff u 13 m); if x4 = 0 then (((-1 : Int32), u)) else (let x9 : Int32 := (e_X6_isDigit u v); if x9 = 0 then (((-1 : Int32), u)) else (let x14 : Int32 := (e_X0_isMade u 13 m); if x14 = 0 then (let x17 : Int32 := u.1 18 m.toNatClampNeg; let u20 : uk_Mem := uk_up u 18 m.toNatClampNeg v; (x17, u20)) else (((-2 : Int32), u))))
abbrev qe_X6_price (u : uk_Mem) (m : Int32) (v : Int32) (r : Option Value) (u' : uk_Mem) : Prop := (q_X6_price u m v r u') ∧ (r = some (.int (e_X6_price u m v).1) ∧ u' = (e_X6_price u m v).2)
set_option maxHeartbeats 4000000 in
set_option maxRecDepth 20000 in
theorem x_X6_price {G : uk_D} (hs : uk_Sep G) {u : uk_Mem} (hu : iv u) (m : Int32) (v : Int32) (d : Nat) : uk_Meth G (d + 1) mX6_price [.ref (uk_ad G 0), .int m, .int v] u (qe_X6_price u m v) := by
  refine uk_Meth.of hs (by decide) (Nat.le_of_ble_eq_true rfl) (fun X => ?_)
  have f0 : fr 13 22 u u := fr_rf
  refine g_aload_n dX6_price_0 rfl ?_
  refine f_X6_10 rfl rfl dX6_price_1 ?_
  refine g_iload_n dX6_price_4 rfl ?_
  refine cl_X6_118 (c := 13) (As := [.int m]) rfl (x_X0_hasStuff (G := G) hs hu uk_isK13 m  (d)) rfl (by omega) rfl rfl (Nat.le_of_ble_eq_true rfl) dX6_price_5 (fun r1 u2 q3 => ?_)
  obtain ⟨q3, Eq3⟩ := q3
  obtain ⟨⟨x4, rfl, tx4, nx4, zx4⟩, mq3⟩ := q3
  rw [mq3]
  have ex4 : x4 = (e_X0_hasStuff u 13 m) := ee_v Eq3
  refine g_if_eq (tgt := 18) dX6_price_8 (by decide) (fun c5 => ?_) (fun c5 => ?_)
  · have zc5 := zx4 c5
    refine g_iconst (v := (-1)) dX6_price_18 (by decide) ?_
    exact g_iret (ty := .int) dX6_price_19 rfl rfl ⟨⟨⟨_, rfl, by first | trivial | lia | grind⟩, hu, f0⟩, ee_i (by subst ex4; exact (if_pos c5).trans (rfl))⟩
  · have zc5 := nx4 c5
    refine g_iload_n dX6_price_11 rfl ?_
    refine cl_X6_146 (As := [.int v]) rfl (x_X6_isDigit (G := G) hs hu  v  (d)) rfl (by omega) rfl (Nat.le_of_ble_eq_true rfl) dX6_price_12 (fun r6 u7 q8 => ?_)
    obtain ⟨q8, Eq8⟩ := q8
    obtain ⟨⟨x9, rfl, tx9, nx9, zx9⟩, mq8⟩ := q8
    rw [mq8]
    have ex9 : x9 = (e_X6_isDigit u v) := ee_v Eq8
    refine g_if_ne (tgt := 20) dX6_price_15 (by decide) (fun c10 => ?_) (fun c10 => ?_)
    · have zc10 := nx9 c10
      refine g_aload_n dX6_price_20 rfl ?_
      refine f_X6_10 rfl rfl dX6_price_21 ?_
      refine g_iload_n dX6_price_24 rfl ?_
      refine cl_X6_122 (c := 13) (As := [.int m]) rfl (x_X0_isMade (G := G) hs hu uk_isK13 m (by first | trivial | decide | lia | grind) (by first | trivial | decide | lia | grind) (d)) rfl (by omega) rfl rfl (Nat.le_of_ble_eq_true rfl) dX6_price_25 (fun r11 u12 q13 => ?_)
      obtain ⟨q13, Eq13⟩ := q13
      obtain ⟨⟨x14, rfl, tx14, nx14, zx14⟩, mq13⟩ := q13
      rw [mq13]
      have ex14 : x14 = (e_X0_isMade u 13 m) := ee_v Eq13
      refine g_if_eq (tgt := 34) dX6_price_28 (by decide) (fun c15 => ?_) (fun c15 => ?_)
      · have zc15 := zx14 c15
        refine g_aload_n dX6_price_34 rfl ?_
        refine f_X6_10 rfl rfl dX6_price_35 ?_
        refine f_X6_137 rfl rfl dX6_price_38 ?_
        refine g_iload_n dX6_price_41 rfl ?_
        have v16 : vp_in m 8 := uk_vin 8 rfl (by first | decide | lia | grind) (by first | decide | lia | grind)
        refine g_iald rfl rfl v16 dX6_price_42 ?_
        refine g_topi (fun x17 ex17 => ?_)
        refine g_istore_n dX6_price_43 (by decide) ?_
        refine g_pick (lv' := [(0, .ref (uk_ad G 0)), (1, .int m), (2, .int v), (3, .int x17)]) [0, 1, 2, 3] rfl ?_
        refine g_aload_n dX6_price_44 rfl ?_
        refine f_X6_10 rfl rfl dX6_price_45 ?_
        refine f_X6_137 rfl rfl dX6_price_48 ?_
        refine g_iload_n dX6_price_51 rfl ?_
        refine g_iload_n dX6_price_52 rfl ?_
        have v18 : vp_in m 8 := uk_vin 8 rfl (by first | decide | lia | grind) (by first | decide | lia | grind)
        have b19 := uk_cl v18
        refine g_iast rfl rfl v18 dX6_price_53 ?_
        refine g_mem (fun u20 eu20 => ?_)
        have hu20 : iv u20 := by rw [eu20]; exact iv_upF hu (uk_pick1 _ (by omega))
        have fu20 : fr 13 22 u u20 := by rw [eu20]; exact fr_up f0 (by omega) (by omega)
        refine g_iload_n dX6_price_54 rfl ?_
        exact g_iret (ty := .int) dX6_price_55 rfl rfl ⟨⟨⟨_, rfl, by first | trivial | lia | grind⟩, hu20, fu20⟩, ee_i (by subst eu20; subst ex17; subst ex14; subst ex9; subst ex4; exact (if_neg c5).trans ((if_neg c10).trans ((if_pos c15).trans (rfl))))⟩
      · have zc15 := nx14 c15
        refine g_bipush (v := (-2)) dX6_price_31 (by decide) ?_
        exact g_iret (ty := .int) dX6_price_33 rfl rfl ⟨⟨⟨_, rfl, by first | trivial | lia | grind⟩, hu, f0⟩, ee_i (by subst ex14; subst ex9; subst ex4; exact (if_neg c5).trans ((if_neg c10).trans ((if_neg c15).trans (rfl))))⟩
    · have zc10 := zx9 c10
      refine g_iconst (v := (-1)) dX6_price_18 (by decide) ?_
      exact g_iret (ty := .int) dX6_price_19 rfl rfl ⟨⟨⟨_, rfl, by first | trivial | lia | grind⟩, hu, f0⟩, ee_i (by subst ex9; subst ex4; exact (if_neg c5).trans ((if_pos c10).trans (rfl)))⟩
def e_X6_kind (u : uk_Mem) (m : Int32) (k : Int32) : Int32 × uk_Mem := let x4 : Int32 := (e_X0_hasStuff u 13 m); if x4 = 0 then (((-1 : Int32), u)) else (if k < 0 then (((-1 : Int32), u)) else (if k ≤ (3 : Int32) then (let x11 : Int32 := (e_X0_isMade u 13 m); if x11 = 0 then (((-2 : Int32), u)) else (let x14 : Int32 := u.1 14 m.toNatClampNeg; let u17 : uk_Mem := uk_up u 14 m.toNatClampNeg k; (x14, u17))) else (((-1 : Int32), u))))
abbrev qe_X6_kind (u : uk_Mem) (m : Int32) (k : Int32) (r : Option Value) (u' : uk_Mem) : Prop := (q_X6_kind u m k r u') ∧ (r = some (.int (e_X6_kind u m k).1) ∧ u' = (e_X6_kind u m k).2)
set_option maxHeartbeats 4000000 in
set_option maxRecDepth 20000 in
theorem x_X6_kind {G : uk_D} (hs : uk_Sep G) {u : uk_Mem} (hu : iv u) (m : Int32) (k : Int32) (d : Nat) : uk_Meth G (d + 1) mX6_kind [.ref (uk_ad G 0), .int m, .int k] u (qe_X6_kind u m k) := by
  refine uk_Meth.of hs (by decide) (Nat.le_of_ble_eq_true rfl) (fun X => ?_)
  have f0 : fr 13 22 u u := fr_rf
  refine g_aload_n dX6_kind_0 rfl ?_
  refine f_X6_10 rfl rfl dX6_kind_1 ?_
  refine g_iload_n dX6_kind_4 rfl ?_
  refine cl_X6_118 (c := 13) (As := [.int m]) rfl (x_X0_hasStuff (G := G) hs hu uk_isK13 m  (d)) rfl (by omega) rfl rfl (Nat.le_of_ble_eq_true rfl) dX6_kind_5 (fun r1 u2 q3 => ?_)
  obtain ⟨q3, Eq3⟩ := q3
  obtain ⟨⟨x4, rfl, tx4, nx4, zx4⟩, mq3⟩ := q3
  rw [mq3]
  have ex4 : x4 = (e_X0_hasStuff u 13 m) := ee_v Eq3
  refine g_if_eq (tgt := 20) dX6_kind_8 (by decide) (fun c5 => ?_) (fun c5 => ?_)
  · have zc5 := zx4 c5
    refine g_iconst (v := (-1)) dX6_kind_20 (by decide) ?_
    exact g_iret (ty := .int) dX6_kind_21 rfl rfl ⟨⟨⟨_, rfl, by first | trivial | lia | grind⟩, hu, f0⟩, ee_i (by subst ex4; exact (if_pos c5).trans (rfl))⟩
  · have zc5 := nx4 c5
    refine g_iload_n dX6_kind_11 rfl ?_
    refine g_if_lt (tgt := 20) dX6_kind_12 (by decide) (fun c6 => ?_) (fun c6 => ?_)
    · refine g_iconst (v := (-1)) dX6_kind_20 (by decide) ?_
      exact g_iret (ty := .int) dX6_kind_21 rfl rfl ⟨⟨⟨_, rfl, by first | trivial | lia | grind⟩, hu, f0⟩, ee_i (by subst ex4; exact (if_neg c5).trans ((if_pos c6).trans (rfl)))⟩
    · refine g_iload_n dX6_kind_15 rfl ?_
      refine g_iconst (v := 3) dX6_kind_16 (by decide) ?_
      refine g_icmp_le (tgt := 22) dX6_kind_17 (by decide) (fun c7 => ?_) (fun c7 => ?_)
      · refine g_aload_n dX6_kind_22 rfl ?_
        refine f_X6_10 rfl rfl dX6_kind_23 ?_
        refine g_iload_n dX6_kind_26 rfl ?_
        refine cl_X6_122 (c := 13) (As := [.int m]) rfl (x_X0_isMade (G := G) hs hu uk_isK13 m (by first | trivial | decide | lia | grind) (by first | trivial | decide | lia | grind) (d)) rfl (by omega) rfl rfl (Nat.le_of_ble_eq_true rfl) dX6_kind_27 (fun r8 u9 q10 => ?_)
        obtain ⟨q10, Eq10⟩ := q10
        obtain ⟨⟨x11, rfl, tx11, nx11, zx11⟩, mq10⟩ := q10
        rw [mq10]
        have ex11 : x11 = (e_X0_isMade u 13 m) := ee_v Eq10
        refine g_if_ne (tgt := 36) dX6_kind_30 (by decide) (fun c12 => ?_) (fun c12 => ?_)
        · have zc12 := nx11 c12
          refine g_aload_n dX6_kind_36 rfl ?_
          refine f_X6_10 rfl rfl dX6_kind_37 ?_
          refine f_X6_125 rfl rfl dX6_kind_40 ?_
          refine g_iload_n dX6_kind_43 rfl ?_
          have v13 : vp_in m 8 := uk_vin 8 rfl (by first | decide | lia | grind) (by first | decide | lia | grind)
          refine g_iald rfl rfl v13 dX6_kind_44 ?_
          refine g_topi (fun x14 ex14 => ?_)
          refine g_istore_n dX6_kind_45 (by decide) ?_
          refine g_pick (lv' := [(0, .ref (uk_ad G 0)), (1, .int m), (2, .int k), (3, .int x14)]) [0, 1, 2, 3] rfl ?_
          refine g_aload_n dX6_kind_46 rfl ?_
          refine f_X6_10 rfl rfl dX6_kind_47 ?_
          refine f_X6_125 rfl rfl dX6_kind_50 ?_
          refine g_iload_n dX6_kind_53 rfl ?_
          refine g_iload_n dX6_kind_54 rfl ?_
          have v15 : vp_in m 8 := uk_vin 8 rfl (by first | decide | lia | grind) (by first | decide | lia | grind)
          have b16 := uk_cl v15
          refine g_iast rfl rfl v15 dX6_kind_55 ?_
          refine g_mem (fun u17 eu17 => ?_)
          have hu17 : iv u17 := by rw [eu17]; exact iv_upF hu (uk_pick1 _ (by omega))
          have fu17 : fr 13 22 u u17 := by rw [eu17]; exact fr_up f0 (by omega) (by omega)
          refine g_iload_n dX6_kind_56 rfl ?_
          exact g_iret (ty := .int) dX6_kind_57 rfl rfl ⟨⟨⟨_, rfl, by first | trivial | lia | grind⟩, hu17, fu17⟩, ee_i (by subst eu17; subst ex14; subst ex11; subst ex4; exact (if_neg c5).trans ((if_neg c6).trans ((if_pos c7).trans ((if_neg c12).trans (rfl)))))⟩
        · have zc12 := zx11 c12
          refine g_bipush (v := (-2)) dX6_kind_33 (by decide) ?_
          exact g_iret (ty := .int) dX6_kind_35 rfl rfl ⟨⟨⟨_, rfl, by first | trivial | lia | grind⟩, hu, f0⟩, ee_i (by subst ex11; subst ex4; exact (if_neg c5).trans ((if_neg c6).trans ((if_pos c7).trans ((if_pos c12).trans (rfl)))))⟩
      · refine g_iconst (v := (-1)) dX6_kind_20 (by decide) ?_
        exact g_iret (ty := .int) dX6_kind_21 rfl rfl ⟨⟨⟨_, rfl, by first | trivial | lia | grind⟩, hu, f0⟩, ee_i (by subst ex4; exact (if_neg c5).trans ((if_neg c6).trans ((if_neg c7).trans (rfl))))⟩
def e_X6_does (u : uk_Mem) (g : Int32) : Int32 × uk_Mem := let x4 : Int32 := (e_X0_hasDoing u 13 g); if x4 = 0 then (((-1 : Int32), u)) else (let x9 : Int32 := (e_X0_isAble u 13 g); if x9 = 0 then (((-2 : Int32), u)) else (let u12 : uk_Mem := e_X0_perform u 13 g; let x17 : Int32 := (e_X6_stuffOf u12 g); let x19 : Int32 := u12.1 19 x17.toNatClampNeg; (x19, u12)))
abbrev qe_X6_does (u : uk_Mem) (g : Int32) (r : Option Value) (u' : uk_Mem) : Prop := (q_X6_does u g r u') ∧ (r = some (.int (e_X6_does u g).1) ∧ u' = (e_X6_does u g).2)
set_option maxHeartbeats 4000000 in
set_option maxRecDepth 20000 in
theorem x_X6_does {G : uk_D} (hs : uk_Sep G) {u : uk_Mem} (hu : iv u) (g : Int32) (d : Nat) : uk_Meth G (d + 3) mX6_does [.ref (uk_ad G 0), .int g] u (qe_X6_does u g) := by
  refine uk_Meth.of hs (by decide) (Nat.le_of_ble_eq_true rfl) (fun X => ?_)
  have f0 : fr 13 22 u u := fr_rf
  refine g_aload_n dX6_does_0 rfl ?_
  refine f_X6_10 rfl rfl dX6_does_1 ?_
  refine g_iload_n dX6_does_4 rfl ?_
  refine cl_X6_149 (c := 13) (As := [.int g]) rfl (x_X0_hasDoing (G := G) hs hu uk_isK13 g  (d + 1)) rfl (by omega) rfl rfl (Nat.le_of_ble_eq_true rfl) dX6_does_5 (fun r1 u2 q3 => ?_)
  obtain ⟨q3, Eq3⟩ := q3
  obtain ⟨⟨x4, rfl, tx4, nx4, zx4⟩, mq3⟩ := q3
  rw [mq3]
  have ex4 : x4 = (e_X0_hasDoing u 13 g) := ee_v Eq3
  refine g_if_ne (tgt := 13) dX6_does_8 (by decide) (fun c5 => ?_) (fun c5 => ?_)
  · have zc5 := nx4 c5
    refine g_aload_n dX6_does_13 rfl ?_
    refine f_X6_10 rfl rfl dX6_does_14 ?_
    refine g_iload_n dX6_does_17 rfl ?_
    refine cl_X6_152 (c := 13) (As := [.int g]) rfl (x_X0_isAble (G := G) hs hu uk_isK13 g  (d)) rfl (by omega) rfl rfl (Nat.le_of_ble_eq_true rfl) dX6_does_18 (fun r6 u7 q8 => ?_)
    obtain ⟨q8, Eq8⟩ := q8
    obtain ⟨⟨x9, rfl, tx9, nx9, zx9⟩, mq8⟩ := q8
    rw [mq8]
    have ex9 : x9 = (e_X0_isAble u 13 g) := ee_v Eq8
    refine g_if_ne (tgt := 27) dX6_does_21 (by decide) (fun c10 => ?_) (fun c10 => ?_)
    · have zc10 := nx9 c10
      refine g_aload_n dX6_does_27 rfl ?_
      refine f_X6_10 rfl rfl dX6_does_28 ?_
      refine g_iload_n dX6_does_31 rfl ?_
      refine cl_X6_155 (c := 13) (As := [.int g]) rfl (x_X0_perform (G := G) hs hu uk_isK13 g (by first | trivial | decide | lia | grind) (d)) rfl (by omega) rfl rfl (Nat.le_of_ble_eq_true rfl) dX6_does_32 (fun r11 u12 q13 => ?_)
      obtain ⟨q13, Eq13⟩ := q13
      obtain ⟨rfl, mq13⟩ := q13
      obtain ⟨hu12, gu12⟩ := mq13
      have fu12 : fr 13 22 u u12 := fr_tr f0 gu12 (by omega) (by omega)
      have eu12 : u12 = e_X0_perform u 13 g := Eq13
      refine g_aload_n dX6_does_35 rfl ?_
      refine f_X6_10 rfl rfl dX6_does_36 ?_
      refine f_X6_143 rfl rfl dX6_does_39 ?_
      refine g_iload_n dX6_does_42 rfl ?_
      refine cl_X6_158 (As := [.int g]) rfl (x_X6_stuffOf (G := G) hs hu12  g  (d + 2)) rfl (by omega) rfl (Nat.le_of_ble_eq_true rfl) dX6_does_43 (fun r14 u15 q16 => ?_)
      obtain ⟨q16, Eq16⟩ := q16
      obtain ⟨⟨x17, rfl, tx17⟩, mq16⟩ := q16
      rw [mq16]
      have ex17 : x17 = (e_X6_stuffOf u12 g) := ee_v Eq16
      have v18 : vp_in x17 8 := uk_vin 8 rfl (by first | decide | lia | grind) (by first | decide | lia | grind)
      refine g_iald rfl rfl v18 dX6_does_46 ?_
      refine g_topi (fun x19 ex19 => ?_)
      exact g_iret (ty := .int) dX6_does_47 rfl rfl ⟨⟨⟨_, rfl, by first | trivial | lia | grind⟩, hu12, fu12⟩, ee_i (by subst ex19; subst ex17; subst eu12; subst ex9; subst ex4; exact (if_neg c5).trans ((if_neg c10).trans (rfl)))⟩
    · have zc10 := zx9 c10
      refine g_bipush (v := (-2)) dX6_does_24 (by decide) ?_
      exact g_iret (ty := .int) dX6_does_26 rfl rfl ⟨⟨⟨_, rfl, by first | trivial | lia | grind⟩, hu, f0⟩, ee_i (by subst ex9; subst ex4; exact (if_neg c5).trans ((if_pos c10).trans (rfl)))⟩
  · have zc5 := zx4 c5
    refine g_iconst (v := (-1)) dX6_does_11 (by decide) ?_
    exact g_iret (ty := .int) dX6_does_12 rfl rfl ⟨⟨⟨_, rfl, by first | trivial | lia | grind⟩, hu, f0⟩, ee_i (by subst ex4; exact (if_pos c5).trans (rfl))⟩
def e_X6_eat (u : uk_Mem) (m : Int32) : Int32 × uk_Mem := let x4 : Int32 := (e_X0_hasStuff u 13 m); if x4 = 0 then (((-1 : Int32), u)) else (let x7 : Int32 := u.1 19 m.toNatClampNeg; if x7 = 0 then (((-2 : Int32), u)) else (let x10 : Int32 := u.1 19 m.toNatClampNeg; let x11 : Int32 := x10 - (1 : Int32); let u14 : uk_Mem := uk_up u 19 m.toNatClampNeg x11; let x15 : Int32 := u14.1 13 10; let x18 : Int32 := u14.1 17 m.toNatClampNeg; let x19 : Int32 := x15 + x18; let u20 : uk_Mem := uk_up u14 13 10 x19; let x22 : Int32 := u20.1 13 10; (x22, u20)))
abbrev qe_X6_eat (u : uk_Mem) (m : Int32) (r : Option Value) (u' : uk_Mem) : Prop := (q_X6_eat u m r u') ∧ (r = some (.int (e_X6_eat u m).1) ∧ u' = (e_X6_eat u m).2)
set_option maxHeartbeats 4000000 in
set_option maxRecDepth 20000 in
theorem x_X6_eat {G : uk_D} (hs : uk_Sep G) {u : uk_Mem} (hu : iv u) (m : Int32) (d : Nat) : uk_Meth G (d + 1) mX6_eat [.ref (uk_ad G 0), .int m] u (qe_X6_eat u m) := by
  refine uk_Meth.of hs (by decide) (Nat.le_of_ble_eq_true rfl) (fun X => ?_)
  have f0 : fr 13 22 u u := fr_rf
  refine g_aload_n dX6_eat_0 rfl ?_
  refine f_X6_10 rfl rfl dX6_eat_1 ?_
  refine g_iload_n dX6_eat_4 rfl ?_
  refine cl_X6_118 (c := 13) (As := [.int m]) rfl (x_X0_hasStuff (G := G) hs hu uk_isK13 m  (d)) rfl (by omega) rfl rfl (Nat.le_of_ble_eq_true rfl) dX6_eat_5 (fun r1 u2 q3 => ?_)
  obtain ⟨q3, Eq3⟩ := q3
  obtain ⟨⟨x4, rfl, tx4, nx4, zx4⟩, mq3⟩ := q3
  rw [mq3]
  have ex4 : x4 = (e_X0_hasStuff u 13 m) := ee_v Eq3
  refine g_if_ne (tgt := 13) dX6_eat_8 (by decide) (fun c5 => ?_) (fun c5 => ?_)
  · have zc5 := nx4 c5
    refine g_aload_n dX6_eat_13 rfl ?_
    refine f_X6_10 rfl rfl dX6_eat_14 ?_
    refine f_X6_143 rfl rfl dX6_eat_17 ?_
    refine g_iload_n dX6_eat_20 rfl ?_
    have v6 : vp_in m 8 := uk_vin 8 rfl (by first | decide | lia | grind) (by first | decide | lia | grind)
    refine g_iald rfl rfl v6 dX6_eat_21 ?_
    refine g_topi (fun x7 ex7 => ?_)
    refine g_if_ne (tgt := 28) dX6_eat_22 (by decide) (fun c8 => ?_) (fun c8 => ?_)
    · refine g_aload_n dX6_eat_28 rfl ?_
      refine f_X6_10 rfl rfl dX6_eat_29 ?_
      refine f_X6_143 rfl rfl dX6_eat_32 ?_
      refine g_iload_n dX6_eat_35 rfl ?_
      refine g_dup2 dX6_eat_36 rfl rfl ?_
      have v9 : vp_in m 8 := uk_vin 8 rfl (by first | decide | lia | grind) (by first | decide | lia | grind)
      refine g_iald rfl rfl v9 dX6_eat_37 ?_
      refine g_topi (fun x10 ex10 => ?_)
      refine g_iconst (v := 1) dX6_eat_38 (by decide) ?_
      refine g_isub dX6_eat_39 ?_
      refine g_topi (fun x11 ex11 => ?_)
      have v12 : vp_in m 8 := uk_vin 8 rfl (by first | decide | lia | grind) (by first | decide | lia | grind)
      have b13 := uk_cl v12
      refine g_iast rfl rfl v12 dX6_eat_40 ?_
      refine g_mem (fun u14 eu14 => ?_)
      have hu14 : iv u14 := by rw [eu14]; exact iv_upF hu (uk_pick1 _ (by omega))
      have fu14 : fr 13 22 u u14 := by rw [eu14]; exact fr_up f0 (by omega) (by omega)
      refine g_aload_n dX6_eat_41 rfl ?_
      refine f_X6_10 rfl rfl dX6_eat_42 ?_
      refine g_dup dX6_eat_45 rfl ?_
      refine f_X6_106 rfl rfl dX6_eat_46 ?_
      refine g_topi (fun x15 ex15 => ?_)
      have s16 : u14.1 13 10 = x15 := ex15.symm
      refine g_aload_n dX6_eat_49 rfl ?_
      refine f_X6_10 rfl rfl dX6_eat_50 ?_
      refine f_X6_134 rfl rfl dX6_eat_53 ?_
      refine g_iload_n dX6_eat_56 rfl ?_
      have v17 : vp_in m 8 := uk_vin 8 rfl (by first | decide | lia | grind) (by first | decide | lia | grind)
      refine g_iald rfl rfl v17 dX6_eat_57 ?_
      refine g_topi (fun x18 ex18 => ?_)
      refine g_iadd dX6_eat_58 ?_
      refine g_topi (fun x19 ex19 => ?_)
      refine p_X6_106 rfl rfl dX6_eat_59 ?_
      refine g_mem (fun u20 eu20 => ?_)
      have hu20 : iv u20 := by rw [eu20]; exact iv_upF hu14 rfl
      have fu20 : fr 13 22 u u20 := by rw [eu20]; exact fr_up fu14 (by omega) (by omega)
      have s21 : u20.1 13 10 = x19 := by rw [eu20, uk_up_at]; exact if_pos ⟨rfl, rfl⟩
      refine g_aload_n dX6_eat_62 rfl ?_
      refine f_X6_10 rfl rfl dX6_eat_63 ?_
      refine f_X6_106 rfl rfl dX6_eat_66 ?_
      refine g_topi (fun x22 ex22 => ?_)
      have qx22 : x22 = x19 := by rw [ex22]; exact s21
      exact g_iret (ty := .int) dX6_eat_69 rfl rfl ⟨⟨⟨_, rfl, by first | trivial | lia | grind⟩, hu20, fu20⟩, ee_i (by subst ex22; subst eu20; subst ex19; subst ex18; subst ex15; subst eu14; subst ex11; subst ex10; subst ex7; subst ex4; exact (if_neg c5).trans ((if_neg c8).trans (rfl)))⟩
    · refine g_bipush (v := (-2)) dX6_eat_25 (by decide) ?_
      exact g_iret (ty := .int) dX6_eat_27 rfl rfl ⟨⟨⟨_, rfl, by first | trivial | lia | grind⟩, hu, f0⟩, ee_i (by subst ex7; subst ex4; exact (if_neg c5).trans ((if_pos c8).trans (rfl)))⟩
  · have zc5 := zx4 c5
    refine g_iconst (v := (-1)) dX6_eat_11 (by decide) ?_
    exact g_iret (ty := .int) dX6_eat_12 rfl rfl ⟨⟨⟨_, rfl, by first | trivial | lia | grind⟩, hu, f0⟩, ee_i (by subst ex4; exact (if_pos c5).trans (rfl))⟩
def l_X6_can_13 (u : uk_Mem) (w : Int32) : Nat → Int32 → Int32 → Int32
  | 0, _, _ => 0
  | K9 + 1, i8, w7 => let x9 : Int32 := u.1 13 0; if x9 ≤ i8 then (w7) else (let x12 : Int32 := w * (10 : Int32); let x13 : Int32 := x12 + i8; let x17 : Int32 := (e_X0_isAble u 13 x13); if x17 = 0 then (l_X6_can_13 u w K9 (i8 + 1) w7) else (let x19 : Int32 := (1 : Int32) <<< (i8 &&& 31); let x20 : Int32 := w7 ||| x19; l_X6_can_13 u w K9 (i8 + 1) x20))
def e_X6_can (u : uk_Mem) (w : Int32) : Int32 := let x4 : Int32 := (e_X6_isFlag u w); if x4 = 0 then ((-1 : Int32)) else (l_X6_can_13 u w ee_K (0 : Int32) (0 : Int32))
abbrev qe_X6_can (u : uk_Mem) (w : Int32) (r : Option Value) (u' : uk_Mem) : Prop := (q_X6_can u w r u') ∧ (r = some (.int (e_X6_can u w)))
set_option maxHeartbeats 4000000 in
set_option maxRecDepth 20000 in
theorem x_X6_can {G : uk_D} (hs : uk_Sep G) {u : uk_Mem} (hu : iv u) (w : Int32) (d : Nat) : uk_Meth G (d + 3) mX6_can [.ref (uk_ad G 0), .int w] u (qe_X6_can u w) := by
  refine uk_Meth.of hs (by decide) (Nat.le_of_ble_eq_true rfl) (fun X => ?_)
  refine g_iload_n dX6_can_0 rfl ?_
  refine cl_X6_162 (As := [.int w]) rfl (x_X6_isFlag (G := G) hs hu  w  (d + 2)) rfl (by omega) rfl (Nat.le_of_ble_eq_true rfl) dX6_can_1 (fun r1 u2 q3 => ?_)
  obtain ⟨q3, Eq3⟩ := q3
  obtain ⟨⟨x4, rfl, tx4, nx4, zx4⟩, mq3⟩ := q3
  rw [mq3]
  have ex4 : x4 = (e_X6_isFlag u w) := ee_v Eq3
  refine g_if_ne (tgt := 9) dX6_can_4 (by decide) (fun c5 => ?_) (fun c5 => ?_)
  · have zc5 := nx4 c5
    refine g_iconst (v := 0) dX6_can_9 (by decide) ?_
    refine g_istore_n dX6_can_10 (by decide) ?_
    refine g_pick (lv' := [(0, .ref (uk_ad G 0)), (1, .int w), (2, .int 0)]) [0, 1, 2] rfl ?_
    refine g_iconst (v := 0) dX6_can_11 (by decide) ?_
    refine g_istore_n dX6_can_12 (by decide) ?_
    refine g_pick (lv' := [(0, .ref (uk_ad G 0)), (1, .int w), (2, .int 0), (3, .int 0)]) [0, 1, 2, 3] rfl ?_
    have L13_5 : ∀ i8 : Int32, 0 ≤ i8 → i8 ≤ 8 → ∀ (w7 : Int32), (∃ ki8 : Nat, ee_F 8 i8 ki8 ∧ e_X6_can u w = l_X6_can_13 u w ki8 i8 w7) → uk_G G X mX6_can (d + 3) (qe_X6_can u w) 13 [(0, .ref (uk_ad G 0)), (1, .int w), (2, .int w7), (3, .int i8)] [] u := by
      refine uk_upl 8 ?_
      intro i8 ai8 bi8 ihi8 w7 jEi8
      obtain ⟨ki8, fki8, hki8⟩ := jEi8
      obtain ⟨ki8, rfl⟩ := ee_Fp (by first | assumption | lia | grind) fki8
      refine g_iload_n dX6_can_13 rfl ?_
      refine g_aload_n dX6_can_14 rfl ?_
      refine f_X6_10 rfl rfl dX6_can_15 ?_
      refine f_X6_105 rfl rfl dX6_can_18 ?_
      refine g_topi (fun x9 ex9 => ?_)
      have rx9 : 0 ≤ x9 ∧ x9 ≤ 8 := by rw [ex9]; exact iv_at hu _ _ rfl
      have s10 : u.1 13 0 = x9 := ex9.symm
      refine g_icmp_ge (tgt := 52) dX6_can_21 (by decide) (fun c11 => ?_) (fun c11 => ?_)
      · refine g_iload_n dX6_can_52 rfl ?_
        exact g_iret (ty := .int) dX6_can_53 rfl rfl ⟨⟨⟨_, rfl, by first | trivial | lia | grind⟩, rfl⟩, ee_p (by subst ex9; exact hki8.trans ((if_pos c11).trans (rfl)))⟩
      · refine g_aload_n dX6_can_24 rfl ?_
        refine f_X6_10 rfl rfl dX6_can_25 ?_
        refine g_iload_n dX6_can_28 rfl ?_
        refine g_bipush (v := 10) dX6_can_29 (by decide) ?_
        refine g_imul dX6_can_31 ?_
        refine g_topi (fun x12 ex12 => ?_)
        refine g_iload_n dX6_can_32 rfl ?_
        refine g_iadd dX6_can_33 ?_
        refine g_topi (fun x13 ex13 => ?_)
        refine cl_X6_152 (c := 13) (As := [.int x13]) rfl (x_X0_isAble (G := G) hs hu uk_isK13 x13  (d)) rfl (by omega) rfl rfl (Nat.le_of_ble_eq_true rfl) dX6_can_34 (fun r14 u15 q16 => ?_)
        obtain ⟨q16, Eq16⟩ := q16
        obtain ⟨⟨x17, rfl, tx17, nx17, zx17⟩, mq16⟩ := q16
        rw [mq16]
        have ex17 : x17 = (e_X0_isAble u 13 x13) := ee_v Eq16
        refine g_if_eq (tgt := 46) dX6_can_37 (by decide) (fun c18 => ?_) (fun c18 => ?_)
        · have zc18 := zx17 c18
          refine g_iinc (v := i8 + 1) dX6_can_46 rfl rfl (by decide) ?_
          refine g_pick (lv' := [(0, .ref (uk_ad G 0)), (1, .int w), (2, .int w7), (3, .int (i8 + 1))]) [0, 1, 2, 3] rfl ?_
          refine g_goto (tgt := 13) dX6_can_49 (by decide) ?_
          refine g_pick (lv' := [(0, .ref (uk_ad G 0)), (1, .int w), (2, .int w7), (3, .int (i8 + 1))]) [0, 1, 2, 3] rfl ?_
          exact ihi8 (by first | lia | grind) w7  ⟨ki8, ee_Fs fki8 (by first | assumption | lia | grind), by subst ex17; subst ex13; subst ex12; subst ex9; exact hki8.trans ((if_neg c11).trans ((if_pos c18).trans (rfl)))⟩
        · have zc18 := nx17 c18
          refine g_iload_n dX6_can_40 rfl ?_
          refine g_iconst (v := 1) dX6_can_41 (by decide) ?_
          refine g_iload_n dX6_can_42 rfl ?_
          refine g_ishl dX6_can_43 (fun x19 ex19 => ?_)
          refine g_ior dX6_can_44 ?_
          refine g_topi (fun x20 ex20 => ?_)
          refine g_istore_n dX6_can_45 (by decide) ?_
          refine g_pick (lv' := [(0, .ref (uk_ad G 0)), (1, .int w), (2, .int x20), (3, .int i8)]) [0, 1, 2, 3] rfl ?_
          refine g_iinc (v := i8 + 1) dX6_can_46 rfl rfl (by decide) ?_
          refine g_pick (lv' := [(0, .ref (uk_ad G 0)), (1, .int w), (2, .int x20), (3, .int (i8 + 1))]) [0, 1, 2, 3] rfl ?_
          refine g_goto (tgt := 13) dX6_can_49 (by decide) ?_
          refine g_pick (lv' := [(0, .ref (uk_ad G 0)), (1, .int w), (2, .int x20), (3, .int (i8 + 1))]) [0, 1, 2, 3] rfl ?_
          exact ihi8 (by first | lia | grind) x20  ⟨ki8, ee_Fs fki8 (by first | assumption | lia | grind), by subst ex20; subst ex19; subst ex17; subst ex13; subst ex12; subst ex9; exact hki8.trans ((if_neg c11).trans ((if_neg c18).trans (rfl)))⟩
    refine g_pick (lv' := [(0, .ref (uk_ad G 0)), (1, .int w), (2, .int 0), (3, .int 0)]) [0, 1, 2, 3] rfl ?_
    exact L13_5 0 (by first | decide | lia | grind) (by first | decide | lia | grind) 0  ⟨ee_K, ee_F0 _ _, by subst ex4; exact (if_neg c5).trans (rfl)⟩
  · have zc5 := zx4 c5
    refine g_iconst (v := (-1)) dX6_can_7 (by decide) ?_
    exact g_iret (ty := .int) dX6_can_8 rfl rfl ⟨⟨⟨_, rfl, by first | trivial | lia | grind⟩, rfl⟩, ee_p (by subst ex4; exact (if_pos c5).trans (rfl))⟩
def e_X6_see (u : uk_Mem) (b : Int32) : Int32 × uk_Mem := let x4 : Int32 := (e_X0_hasStuff u 13 b); if x4 = 0 then (((-1 : Int32), u)) else (let x6 : Int32 := u.1 13 9; if x6 < (8 : Int32) then (let x9 : Int32 := u.1 13 9; let u12 : uk_Mem := uk_up u 21 x9.toNatClampNeg b; let x13 : Int32 := u12.1 13 9; let x14 : Int32 := x13 + (1 : Int32); let u15 : uk_Mem := uk_up u12 13 9 x14; let x17 : Int32 := u15.1 13 9; (x17, u15)) else (((-3 : Int32), u)))
abbrev qe_X6_see (u : uk_Mem) (b : Int32) (r : Option Value) (u' : uk_Mem) : Prop := (q_X6_see u b r u') ∧ (r = some (.int (e_X6_see u b).1) ∧ u' = (e_X6_see u b).2)
set_option maxHeartbeats 4000000 in
set_option maxRecDepth 20000 in
theorem x_X6_see {G : uk_D} (hs : uk_Sep G) {u : uk_Mem} (hu : iv u) (b : Int32) (d : Nat) : uk_Meth G (d + 1) mX6_see [.ref (uk_ad G 0), .int b] u (qe_X6_see u b) := by
  refine uk_Meth.of hs (by decide) (Nat.le_of_ble_eq_true rfl) (fun X => ?_)
  have f0 : fr 13 22 u u := fr_rf
  refine g_aload_n dX6_see_0 rfl ?_
  refine f_X6_10 rfl rfl dX6_see_1 ?_
  refine g_iload_n dX6_see_4 rfl ?_
  refine cl_X6_118 (c := 13) (As := [.int b]) rfl (x_X0_hasStuff (G := G) hs hu uk_isK13 b  (d)) rfl (by omega) rfl rfl (Nat.le_of_ble_eq_true rfl) dX6_see_5 (fun r1 u2 q3 => ?_)
  obtain ⟨q3, Eq3⟩ := q3
  obtain ⟨⟨x4, rfl, tx4, nx4, zx4⟩, mq3⟩ := q3
  rw [mq3]
  have ex4 : x4 = (e_X0_hasStuff u 13 b) := ee_v Eq3
  refine g_if_ne (tgt := 13) dX6_see_8 (by decide) (fun c5 => ?_) (fun c5 => ?_)
  · have zc5 := nx4 c5
    refine g_aload_n dX6_see_13 rfl ?_
    refine f_X6_10 rfl rfl dX6_see_14 ?_
    refine f_X6_223 rfl rfl dX6_see_17 ?_
    refine g_topi (fun x6 ex6 => ?_)
    have rx6 : 0 ≤ x6 ∧ x6 ≤ 8 := by rw [ex6]; exact iv_at hu _ _ rfl
    have s7 : u.1 13 9 = x6 := ex6.symm
    refine g_bipush (v := 8) dX6_see_20 (by decide) ?_
    refine g_icmp_lt (tgt := 28) dX6_see_22 (by decide) (fun c8 => ?_) (fun c8 => ?_)
    · refine g_aload_n dX6_see_28 rfl ?_
      refine f_X6_10 rfl rfl dX6_see_29 ?_
      refine f_X6_226 rfl rfl dX6_see_32 ?_
      refine g_aload_n dX6_see_35 rfl ?_
      refine f_X6_10 rfl rfl dX6_see_36 ?_
      refine f_X6_223 rfl rfl dX6_see_39 ?_
      refine g_topi (fun x9 ex9 => ?_)
      have rx9 : 0 ≤ x9 ∧ x9 ≤ 8 := by rw [ex9]; exact iv_at hu _ _ rfl
      have qx9 : x9 = x6 := by rw [ex9]; exact s7
      refine g_iload_n dX6_see_42 rfl ?_
      have v10 : vp_in x9 8 := uk_vin 8 rfl (by first | decide | lia | grind) (by first | decide | lia | grind)
      have b11 := uk_cl v10
      refine g_iast rfl rfl v10 dX6_see_43 ?_
      refine g_mem (fun u12 eu12 => ?_)
      have hu12 : iv u12 := by rw [eu12]; exact iv_up hu (uk_pick1 _ (by omega)) (by first | lia | grind) (by first | lia | grind)
      have fu12 : fr 13 22 u u12 := by rw [eu12]; exact fr_up f0 (by omega) (by omega)
      refine g_aload_n dX6_see_44 rfl ?_
      refine f_X6_10 rfl rfl dX6_see_45 ?_
      refine g_dup dX6_see_48 rfl ?_
      refine f_X6_223 rfl rfl dX6_see_49 ?_
      refine g_topi (fun x13 ex13 => ?_)
      have rx13 : 0 ≤ x13 ∧ x13 ≤ 8 := by rw [ex13]; exact iv_at hu12 _ _ rfl
      have qx13 : x13 = x6 := by rw [ex13]; simp [eu12, uk_up_at, s7]
      refine g_iconst (v := 1) dX6_see_52 (by decide) ?_
      refine g_iadd dX6_see_53 ?_
      refine g_topi (fun x14 ex14 => ?_)
      refine p_X6_223 rfl rfl dX6_see_54 ?_
      refine g_mem (fun u15 eu15 => ?_)
      have hu15 : iv u15 := by rw [eu15]; exact iv_up hu12 rfl (by first | lia | grind) (by first | lia | grind)
      have fu15 : fr 13 22 u u15 := by rw [eu15]; exact fr_up fu12 (by omega) (by omega)
      have s16 : u15.1 13 9 = x14 := by rw [eu15, uk_up_at]; exact if_pos ⟨rfl, rfl⟩
      refine g_aload_n dX6_see_57 rfl ?_
      refine f_X6_10 rfl rfl dX6_see_58 ?_
      refine f_X6_223 rfl rfl dX6_see_61 ?_
      refine g_topi (fun x17 ex17 => ?_)
      have rx17 : 0 ≤ x17 ∧ x17 ≤ 8 := by rw [ex17]; exact iv_at hu15 _ _ rfl
      have qx17 : x17 = x14 := by rw [ex17]; exact s16
      exact g_iret (ty := .int) dX6_see_64 rfl rfl ⟨⟨⟨_, rfl, by first | trivial | lia | grind⟩, hu15, fu15⟩, ee_i (by subst ex17; subst eu15; subst ex14; subst ex13; subst eu12; subst ex9; subst ex6; subst ex4; exact (if_neg c5).trans ((if_pos c8).trans (rfl)))⟩
    · refine g_bipush (v := (-3)) dX6_see_25 (by decide) ?_
      exact g_iret (ty := .int) dX6_see_27 rfl rfl ⟨⟨⟨_, rfl, by first | trivial | lia | grind⟩, hu, f0⟩, ee_i (by subst ex6; subst ex4; exact (if_neg c5).trans ((if_neg c8).trans (rfl)))⟩
  · have zc5 := zx4 c5
    refine g_iconst (v := (-1)) dX6_see_11 (by decide) ?_
    exact g_iret (ty := .int) dX6_see_12 rfl rfl ⟨⟨⟨_, rfl, by first | trivial | lia | grind⟩, hu, f0⟩, ee_i (by subst ex4; exact (if_pos c5).trans (rfl))⟩
def e_X6_forget (u : uk_Mem) (n : Int32) : Int32 × uk_Mem := if n < 0 then (((-1 : Int32), u)) else (let x2 : Int32 := u.1 13 9; if n ≤ x2 then (let x5 : Int32 := u.1 13 9; let u6 : uk_Mem := uk_up u 13 9 n; (x5, u6)) else (((-1 : Int32), u)))
abbrev qe_X6_forget (u : uk_Mem) (n : Int32) (r : Option Value) (u' : uk_Mem) : Prop := (q_X6_forget u n r u') ∧ (r = some (.int (e_X6_forget u n).1) ∧ u' = (e_X6_forget u n).2)
set_option maxHeartbeats 4000000 in
set_option maxRecDepth 20000 in
theorem x_X6_forget {G : uk_D} (hs : uk_Sep G) {u : uk_Mem} (hu : iv u) (n : Int32) (d : Nat) : uk_Meth G d mX6_forget [.ref (uk_ad G 0), .int n] u (qe_X6_forget u n) := by
  refine uk_Meth.of hs (by decide) (Nat.le_of_ble_eq_true rfl) (fun X => ?_)
  have f0 : fr 13 22 u u := fr_rf
  refine g_iload_n dX6_forget_0 rfl ?_
  refine g_if_lt (tgt := 15) dX6_forget_1 (by decide) (fun c1 => ?_) (fun c1 => ?_)
  · refine g_iconst (v := (-1)) dX6_forget_15 (by decide) ?_
    exact g_iret (ty := .int) dX6_forget_16 rfl rfl ⟨⟨⟨_, rfl, by first | trivial | lia | grind⟩, hu, f0⟩, ee_i (by exact (if_pos c1).trans (rfl))⟩
  · refine g_iload_n dX6_forget_4 rfl ?_
    refine g_aload_n dX6_forget_5 rfl ?_
    refine f_X6_10 rfl rfl dX6_forget_6 ?_
    refine f_X6_223 rfl rfl dX6_forget_9 ?_
    refine g_topi (fun x2 ex2 => ?_)
    have rx2 : 0 ≤ x2 ∧ x2 ≤ 8 := by rw [ex2]; exact iv_at hu _ _ rfl
    have s3 : u.1 13 9 = x2 := ex2.symm
    refine g_icmp_le (tgt := 17) dX6_forget_12 (by decide) (fun c4 => ?_) (fun c4 => ?_)
    · refine g_aload_n dX6_forget_17 rfl ?_
      refine f_X6_10 rfl rfl dX6_forget_18 ?_
      refine f_X6_223 rfl rfl dX6_forget_21 ?_
      refine g_topi (fun x5 ex5 => ?_)
      have rx5 : 0 ≤ x5 ∧ x5 ≤ 8 := by rw [ex5]; exact iv_at hu _ _ rfl
      have qx5 : x5 = x2 := by rw [ex5]; exact s3
      refine g_istore_n dX6_forget_24 (by decide) ?_
      refine g_pick (lv' := [(0, .ref (uk_ad G 0)), (1, .int n), (2, .int x5)]) [0, 1, 2] rfl ?_
      refine g_aload_n dX6_forget_25 rfl ?_
      refine f_X6_10 rfl rfl dX6_forget_26 ?_
      refine g_iload_n dX6_forget_29 rfl ?_
      refine p_X6_223 rfl rfl dX6_forget_30 ?_
      refine g_mem (fun u6 eu6 => ?_)
      have hu6 : iv u6 := by rw [eu6]; exact iv_up hu rfl (by first | lia | grind) (by first | lia | grind)
      have fu6 : fr 13 22 u u6 := by rw [eu6]; exact fr_up f0 (by omega) (by omega)
      have s7 : u6.1 13 9 = n := by rw [eu6, uk_up_at]; exact if_pos ⟨rfl, rfl⟩
      refine g_iload_n dX6_forget_33 rfl ?_
      exact g_iret (ty := .int) dX6_forget_34 rfl rfl ⟨⟨⟨_, rfl, by first | trivial | lia | grind⟩, hu6, fu6⟩, ee_i (by subst eu6; subst ex5; subst ex2; exact (if_neg c1).trans ((if_pos c4).trans (rfl)))⟩
    · refine g_iconst (v := (-1)) dX6_forget_15 (by decide) ?_
      exact g_iret (ty := .int) dX6_forget_16 rfl rfl ⟨⟨⟨_, rfl, by first | trivial | lia | grind⟩, hu, f0⟩, ee_i (by subst ex2; exact (if_neg c1).trans ((if_neg c4).trans (rfl)))⟩
def e_X6_keep (u : uk_Mem) (k : Int32) : Int32 × uk_Mem := let x4 : Int32 := (e_X6_isImage u k); if x4 = 0 then (((-1 : Int32), u)) else (let x7 : Int32 := u.1 40 k.toNatClampNeg; if x7 = 0 then (let x12 : Nat := if k = 0 then 22 else 31; let u14 : uk_Mem := e_X0_copyFrom u x12 13; let u18 : uk_Mem := uk_up u14 40 k.toNatClampNeg (1 : Int32); ((0 : Int32), u18)) else (let x22 : Nat := if k = 0 then 22 else 31; let u24 : uk_Mem := e_X0_copyFrom u x22 13; let u28 : uk_Mem := uk_up u24 40 k.toNatClampNeg (1 : Int32); ((1 : Int32), u28)))
abbrev qe_X6_keep (u : uk_Mem) (k : Int32) (r : Option Value) (u' : uk_Mem) : Prop := (q_X6_keep u k r u') ∧ (r = some (.int (e_X6_keep u k).1) ∧ u' = (e_X6_keep u k).2)
set_option maxHeartbeats 4000000 in
set_option maxRecDepth 20000 in
theorem x_X6_keep {G : uk_D} (hs : uk_Sep G) {u : uk_Mem} (hu : iv u) (k : Int32) (d : Nat) : uk_Meth G (d + 1) mX6_keep [.ref (uk_ad G 0), .int k] u (qe_X6_keep u k) := by
  refine uk_Meth.of hs (by decide) (Nat.le_of_ble_eq_true rfl) (fun X => ?_)
  have f0 : fr 22 41 u u := fr_rf
  refine g_iload_n dX6_keep_0 rfl ?_
  refine cl_X6_244 (As := [.int k]) rfl (x_X6_isImage (G := G) hs hu  k  (d)) rfl (by omega) rfl (Nat.le_of_ble_eq_true rfl) dX6_keep_1 (fun r1 u2 q3 => ?_)
  obtain ⟨q3, Eq3⟩ := q3
  obtain ⟨⟨x4, rfl, tx4, nx4, zx4⟩, mq3⟩ := q3
  rw [mq3]
  have ex4 : x4 = (e_X6_isImage u k) := ee_v Eq3
  refine g_if_ne (tgt := 9) dX6_keep_4 (by decide) (fun c5 => ?_) (fun c5 => ?_)
  · have zc5 := nx4 c5
    refine g_aload_n dX6_keep_9 rfl ?_
    refine f_X6_41 rfl rfl dX6_keep_10 ?_
    refine g_iload_n dX6_keep_13 rfl ?_
    have v6 : vp_in k 2 := uk_vin 2 rfl (by first | decide | lia | grind) (by first | decide | lia | grind)
    refine g_zald rfl rfl v6 dX6_keep_14 ?_
    refine g_topi (fun x7 ex7 => ?_)
    have bx7 := uk_cl v6
    have rx7 : 0 ≤ x7 ∧ x7 ≤ 1 := by rw [ex7]; exact iv_at hu _ _ (uk_pick1 _ (by omega))
    refine g_if_eq (tgt := 22) dX6_keep_15 (by decide) (fun c8 => ?_) (fun c8 => ?_)
    · refine g_iconst (v := 0) dX6_keep_22 (by decide) ?_
      refine g_istore_n dX6_keep_23 (by decide) ?_
      refine g_pick (lv' := [(0, .ref (uk_ad G 0)), (1, .int k), (2, .int 0)]) [0, 1, 2] rfl ?_
      refine g_aload_n dX6_keep_24 rfl ?_
      refine g_iload_n dX6_keep_25 rfl ?_
      refine cl_X6_247 (c := 0) (As := [.int k]) rfl (c_X6_imageOf_e (G := G) hs hu  k  (d)) rfl (by omega) rfl rfl (Nat.le_of_ble_eq_true rfl) dX6_keep_26 (fun r9 u10 q11 => ?_)
      obtain ⟨⟨x12, rfl, tx12⟩, mq11⟩ := q11
      have hx12 : uk_isK x12 := by rcases tx12.1 with q | q <;> (rw [q]; unfold uk_isK; decide)
      rw [mq11]
      have ex12 : x12 = (if k = 0 then 22 else 31) := tx12.2
      refine g_aload_n dX6_keep_29 rfl ?_
      refine f_X6_10 rfl rfl dX6_keep_30 ?_
      refine cl_X6_101 (c := x12) (As := [.ref (uk_ad G 13)]) rfl (x_X0_copyFrom (G := G) hs hu hx12 uk_isK13   (d)) rfl (by omega) (kk_0 hx12) rfl (Nat.le_of_ble_eq_true rfl) dX6_keep_33 (fun r13 u14 q15 => ?_)
      obtain ⟨q15, Eq15⟩ := q15
      obtain ⟨rfl, mq15⟩ := q15
      obtain ⟨hu14, gu14⟩ := mq15
      have fu14 : fr 22 41 u u14 := fr_tr f0 gu14 (by omega) (by omega)
      have eu14 : u14 = e_X0_copyFrom u x12 13 := Eq15
      refine g_aload_n dX6_keep_36 rfl ?_
      refine f_X6_41 rfl rfl dX6_keep_37 ?_
      refine g_iload_n dX6_keep_40 rfl ?_
      refine g_iconst (v := 1) dX6_keep_41 (by decide) ?_
      have v16 : vp_in k 2 := uk_vin 2 rfl (by first | decide | lia | grind) (by first | decide | lia | grind)
      have b17 := uk_cl v16
      refine g_zast rfl rfl v16 dX6_keep_42 ?_
      rw [show vp_nar .boolean 1 = 1 from rfl]
      refine g_mem (fun u18 eu18 => ?_)
      have hu18 : iv u18 := by rw [eu18]; exact iv_up hu14 (uk_pick1 _ (by omega)) (by first | lia | grind) (by first | lia | grind)
      have fu18 : fr 22 41 u u18 := by rw [eu18]; exact fr_up fu14 (by omega) (by omega)
      refine g_iload_n dX6_keep_43 rfl ?_
      exact g_iret (ty := .int) dX6_keep_44 rfl rfl ⟨⟨⟨_, rfl, by first | trivial | lia | grind⟩, hu18, fu18⟩, ee_i (by subst eu18; subst eu14; subst ex12; subst ex7; subst ex4; exact (if_neg c5).trans ((if_pos c8).trans (rfl)))⟩
    · refine g_iconst (v := 1) dX6_keep_18 (by decide) ?_
      refine g_goto (tgt := 23) dX6_keep_19 (by decide) ?_
      refine g_istore_n dX6_keep_23 (by decide) ?_
      refine g_pick (lv' := [(0, .ref (uk_ad G 0)), (1, .int k), (2, .int 1)]) [0, 1, 2] rfl ?_
      refine g_aload_n dX6_keep_24 rfl ?_
      refine g_iload_n dX6_keep_25 rfl ?_
      refine cl_X6_247 (c := 0) (As := [.int k]) rfl (c_X6_imageOf_e (G := G) hs hu  k  (d)) rfl (by omega) rfl rfl (Nat.le_of_ble_eq_true rfl) dX6_keep_26 (fun r19 u20 q21 => ?_)
      obtain ⟨⟨x22, rfl, tx22⟩, mq21⟩ := q21
      have hx22 : uk_isK x22 := by rcases tx22.1 with q | q <;> (rw [q]; unfold uk_isK; decide)
      rw [mq21]
      have ex22 : x22 = (if k = 0 then 22 else 31) := tx22.2
      refine g_aload_n dX6_keep_29 rfl ?_
      refine f_X6_10 rfl rfl dX6_keep_30 ?_
      refine cl_X6_101 (c := x22) (As := [.ref (uk_ad G 13)]) rfl (x_X0_copyFrom (G := G) hs hu hx22 uk_isK13   (d)) rfl (by omega) (kk_0 hx22) rfl (Nat.le_of_ble_eq_true rfl) dX6_keep_33 (fun r23 u24 q25 => ?_)
      obtain ⟨q25, Eq25⟩ := q25
      obtain ⟨rfl, mq25⟩ := q25
      obtain ⟨hu24, gu24⟩ := mq25
      have fu24 : fr 22 41 u u24 := fr_tr f0 gu24 (by omega) (by omega)
      have eu24 : u24 = e_X0_copyFrom u x22 13 := Eq25
      refine g_aload_n dX6_keep_36 rfl ?_
      refine f_X6_41 rfl rfl dX6_keep_37 ?_
      refine g_iload_n dX6_keep_40 rfl ?_
      refine g_iconst (v := 1) dX6_keep_41 (by decide) ?_
      have v26 : vp_in k 2 := uk_vin 2 rfl (by first | decide | lia | grind) (by first | decide | lia | grind)
      have b27 := uk_cl v26
      refine g_zast rfl rfl v26 dX6_keep_42 ?_
      rw [show vp_nar .boolean 1 = 1 from rfl]
      refine g_mem (fun u28 eu28 => ?_)
      have hu28 : iv u28 := by rw [eu28]; exact iv_up hu24 (uk_pick1 _ (by omega)) (by first | lia | grind) (by first | lia | grind)
      have fu28 : fr 22 41 u u28 := by rw [eu28]; exact fr_up fu24 (by omega) (by omega)
      refine g_iload_n dX6_keep_43 rfl ?_
      exact g_iret (ty := .int) dX6_keep_44 rfl rfl ⟨⟨⟨_, rfl, by first | trivial | lia | grind⟩, hu28, fu28⟩, ee_i (by subst eu28; subst eu24; subst ex22; subst ex7; subst ex4; exact (if_neg c5).trans ((if_neg c8).trans (rfl)))⟩
  · have zc5 := zx4 c5
    refine g_iconst (v := (-1)) dX6_keep_7 (by decide) ?_
    exact g_iret (ty := .int) dX6_keep_8 rfl rfl ⟨⟨⟨_, rfl, by first | trivial | lia | grind⟩, hu, f0⟩, ee_i (by subst ex4; exact (if_pos c5).trans (rfl))⟩
def e_X6_back (u : uk_Mem) (k : Int32) : Int32 × uk_Mem := let x4 : Int32 := (e_X6_isImage u k); if x4 = 0 then (((-1 : Int32), u)) else (let x7 : Int32 := u.1 40 k.toNatClampNeg; if x7 = 0 then (((-2 : Int32), u)) else (let x12 : Nat := if k = 0 then 22 else 31; let u14 : uk_Mem := e_X0_copyFrom u 13 x12; let x16 : Int32 := u14.1 13 10; (x16, u14)))
abbrev qe_X6_back (u : uk_Mem) (k : Int32) (r : Option Value) (u' : uk_Mem) : Prop := (q_X6_back u k r u') ∧ (r = some (.int (e_X6_back u k).1) ∧ u' = (e_X6_back u k).2)
set_option maxHeartbeats 4000000 in
set_option maxRecDepth 20000 in
theorem x_X6_back {G : uk_D} (hs : uk_Sep G) {u : uk_Mem} (hu : iv u) (k : Int32) (d : Nat) : uk_Meth G (d + 1) mX6_back [.ref (uk_ad G 0), .int k] u (qe_X6_back u k) := by
  refine uk_Meth.of hs (by decide) (Nat.le_of_ble_eq_true rfl) (fun X => ?_)
  have f0 : fr 13 22 u u := fr_rf
  refine g_iload_n dX6_back_0 rfl ?_
  refine cl_X6_244 (As := [.int k]) rfl (x_X6_isImage (G := G) hs hu  k  (d)) rfl (by omega) rfl (Nat.le_of_ble_eq_true rfl) dX6_back_1 (fun r1 u2 q3 => ?_)
  obtain ⟨q3, Eq3⟩ := q3
  obtain ⟨⟨x4, rfl, tx4, nx4, zx4⟩, mq3⟩ := q3
  rw [mq3]
  have ex4 : x4 = (e_X6_isImage u k) := ee_v Eq3
  refine g_if_ne (tgt := 9) dX6_back_4 (by decide) (fun c5 => ?_) (fun c5 => ?_)
  · have zc5 := nx4 c5
    refine g_aload_n dX6_back_9 rfl ?_
    refine f_X6_41 rfl rfl dX6_back_10 ?_
    refine g_iload_n dX6_back_13 rfl ?_
    have v6 : vp_in k 2 := uk_vin 2 rfl (by first | decide | lia | grind) (by first | decide | lia | grind)
    refine g_zald rfl rfl v6 dX6_back_14 ?_
    refine g_topi (fun x7 ex7 => ?_)
    have bx7 := uk_cl v6
    have rx7 : 0 ≤ x7 ∧ x7 ≤ 1 := by rw [ex7]; exact iv_at hu _ _ (uk_pick1 _ (by omega))
    refine g_if_ne (tgt := 21) dX6_back_15 (by decide) (fun c8 => ?_) (fun c8 => ?_)
    · refine g_aload_n dX6_back_21 rfl ?_
      refine f_X6_10 rfl rfl dX6_back_22 ?_
      refine g_aload_n dX6_back_25 rfl ?_
      refine g_iload_n dX6_back_26 rfl ?_
      refine cl_X6_247 (c := 0) (As := [.int k]) rfl (c_X6_imageOf_e (G := G) hs hu  k  (d)) rfl (by omega) rfl rfl (Nat.le_of_ble_eq_true rfl) dX6_back_27 (fun r9 u10 q11 => ?_)
      obtain ⟨⟨x12, rfl, tx12⟩, mq11⟩ := q11
      have hx12 : uk_isK x12 := by rcases tx12.1 with q | q <;> (rw [q]; unfold uk_isK; decide)
      rw [mq11]
      have ex12 : x12 = (if k = 0 then 22 else 31) := tx12.2
      refine cl_X6_101 (c := 13) (As := [.ref (uk_ad G x12)]) rfl (x_X0_copyFrom (G := G) hs hu uk_isK13 hx12   (d)) rfl (by omega) rfl rfl (Nat.le_of_ble_eq_true rfl) dX6_back_30 (fun r13 u14 q15 => ?_)
      obtain ⟨q15, Eq15⟩ := q15
      obtain ⟨rfl, mq15⟩ := q15
      obtain ⟨hu14, gu14⟩ := mq15
      have fu14 : fr 13 22 u u14 := fr_tr f0 gu14 (by omega) (by omega)
      have eu14 : u14 = e_X0_copyFrom u 13 x12 := Eq15
      refine g_aload_n dX6_back_33 rfl ?_
      refine f_X6_10 rfl rfl dX6_back_34 ?_
      refine f_X6_106 rfl rfl dX6_back_37 ?_
      refine g_topi (fun x16 ex16 => ?_)
      have s17 : u14.1 13 10 = x16 := ex16.symm
      exact g_iret (ty := .int) dX6_back_40 rfl rfl ⟨⟨⟨_, rfl, by first | trivial | lia | grind⟩, hu14, fu14⟩, ee_i (by subst ex16; subst eu14; subst ex12; subst ex7; subst ex4; exact (if_neg c5).trans ((if_neg c8).trans (rfl)))⟩
    · refine g_bipush (v := (-2)) dX6_back_18 (by decide) ?_
      exact g_iret (ty := .int) dX6_back_20 rfl rfl ⟨⟨⟨_, rfl, by first | trivial | lia | grind⟩, hu, f0⟩, ee_i (by subst ex7; subst ex4; exact (if_neg c5).trans ((if_pos c8).trans (rfl)))⟩
  · have zc5 := zx4 c5
    refine g_iconst (v := (-1)) dX6_back_7 (by decide) ?_
    exact g_iret (ty := .int) dX6_back_8 rfl rfl ⟨⟨⟨_, rfl, by first | trivial | lia | grind⟩, hu, f0⟩, ee_i (by subst ex4; exact (if_pos c5).trans (rfl))⟩
def e_X6_sheet (u : uk_Mem) (k : Int32) (l : Int32) (n : Int32) : Int32 × uk_Mem := let x4 : Int32 := (e_X6_isSheet u k); if x4 = 0 then (((-1 : Int32), u)) else (let x9 : Int32 := (e_X6_isLane u l); if x9 = 0 then (((-1 : Int32), u)) else (if n ≤ (40 : Int32) then (if 0 ≤ n then (let u14 : uk_Mem := e_X3_renew u k l n; ((1 : Int32), u14)) else (((-14 : Int32), u))) else (((-1 : Int32), u))))
abbrev qe_X6_sheet (u : uk_Mem) (k : Int32) (l : Int32) (n : Int32) (r : Option Value) (u' : uk_Mem) : Prop := (q_X6_sheet u k l n r u') ∧ (r = some (.int (e_X6_sheet u k l n).1) ∧ u' = (e_X6_sheet u k l n).2)
set_option maxHeartbeats 4000000 in
set_option maxRecDepth 20000 in
theorem x_X6_sheet {G : uk_D} (hs : uk_Sep G) {u : uk_Mem} (hu : iv u) (k : Int32) (l : Int32) (n : Int32) (d : Nat) : uk_Meth G (d + 1) mX6_sheet [.ref (uk_ad G 0), .int k, .int l, .int n] u (qe_X6_sheet u k l n) := by
  refine uk_Meth.of hs (by decide) (Nat.le_of_ble_eq_true rfl) (fun X => ?_)
  have f0 : fr 49 57 u u := fr_rf
  refine g_iload_n dX6_sheet_0 rfl ?_
  refine cl_X6_251 (As := [.int k]) rfl (x_X6_isSheet (G := G) hs hu  k  (d)) rfl (by omega) rfl (Nat.le_of_ble_eq_true rfl) dX6_sheet_1 (fun r1 u2 q3 => ?_)
  obtain ⟨q3, Eq3⟩ := q3
  obtain ⟨⟨x4, rfl, tx4, nx4, zx4⟩, mq3⟩ := q3
  rw [mq3]
  have ex4 : x4 = (e_X6_isSheet u k) := ee_v Eq3
  refine g_if_eq (tgt := 20) dX6_sheet_4 (by decide) (fun c5 => ?_) (fun c5 => ?_)
  · have zc5 := zx4 c5
    refine g_iconst (v := (-1)) dX6_sheet_20 (by decide) ?_
    exact g_iret (ty := .int) dX6_sheet_21 rfl rfl ⟨⟨⟨_, rfl, by first | trivial | lia | grind⟩, hu, f0⟩, ee_i (by subst ex4; exact (if_pos c5).trans (rfl))⟩
  · have zc5 := nx4 c5
    refine g_iload_n dX6_sheet_7 rfl ?_
    refine cl_X6_254 (As := [.int l]) rfl (x_X6_isLane (G := G) hs hu  l  (d)) rfl (by omega) rfl (Nat.le_of_ble_eq_true rfl) dX6_sheet_8 (fun r6 u7 q8 => ?_)
    obtain ⟨q8, Eq8⟩ := q8
    obtain ⟨⟨x9, rfl, tx9, nx9, zx9⟩, mq8⟩ := q8
    rw [mq8]
    have ex9 : x9 = (e_X6_isLane u l) := ee_v Eq8
    refine g_if_eq (tgt := 20) dX6_sheet_11 (by decide) (fun c10 => ?_) (fun c10 => ?_)
    · have zc10 := zx9 c10
      refine g_iconst (v := (-1)) dX6_sheet_20 (by decide) ?_
      exact g_iret (ty := .int) dX6_sheet_21 rfl rfl ⟨⟨⟨_, rfl, by first | trivial | lia | grind⟩, hu, f0⟩, ee_i (by subst ex9; subst ex4; exact (if_neg c5).trans ((if_pos c10).trans (rfl)))⟩
    · have zc10 := nx9 c10
      refine g_iload_n dX6_sheet_14 rfl ?_
      refine g_bipush (v := 40) dX6_sheet_15 (by decide) ?_
      refine g_icmp_le (tgt := 22) dX6_sheet_17 (by decide) (fun c11 => ?_) (fun c11 => ?_)
      · refine g_iload_n dX6_sheet_22 rfl ?_
        refine g_if_ge (tgt := 29) dX6_sheet_23 (by decide) (fun c12 => ?_) (fun c12 => ?_)
        · refine g_aload_n dX6_sheet_29 rfl ?_
          refine f_X6_62 rfl rfl dX6_sheet_30 ?_
          refine g_iload_n dX6_sheet_33 rfl ?_
          refine g_iload_n dX6_sheet_34 rfl ?_
          refine g_iload_n dX6_sheet_35 rfl ?_
          refine cl_X6_257 (c := 49) (As := [.int k, .int l, .int n]) rfl (x_X3_renew (G := G) hs hu  k l n (by first | trivial | decide | lia | grind) (by first | trivial | decide | lia | grind) (by first | trivial | decide | lia | grind) (by first | trivial | decide | lia | grind) (d)) rfl (by omega) rfl rfl (Nat.le_of_ble_eq_true rfl) dX6_sheet_36 (fun r13 u14 q15 => ?_)
          obtain ⟨q15, Eq15⟩ := q15
          obtain ⟨rfl, mq15⟩ := q15
          obtain ⟨hu14, gu14⟩ := mq15
          have fu14 : fr 49 57 u u14 := fr_tr f0 gu14 (by omega) (by omega)
          have eu14 : u14 = e_X3_renew u k l n := Eq15
          refine g_iconst (v := 1) dX6_sheet_39 (by decide) ?_
          exact g_iret (ty := .int) dX6_sheet_40 rfl rfl ⟨⟨⟨_, rfl, by first | trivial | lia | grind⟩, hu14, fu14⟩, ee_i (by subst eu14; subst ex9; subst ex4; exact (if_neg c5).trans ((if_neg c10).trans ((if_pos c11).trans ((if_pos c12).trans (rfl)))))⟩
        · refine g_bipush (v := (-14)) dX6_sheet_26 (by decide) ?_
          exact g_iret (ty := .int) dX6_sheet_28 rfl rfl ⟨⟨⟨_, rfl, by first | trivial | lia | grind⟩, hu, f0⟩, ee_i (by subst ex9; subst ex4; exact (if_neg c5).trans ((if_neg c10).trans ((if_pos c11).trans ((if_neg c12).trans (rfl)))))⟩
      · refine g_iconst (v := (-1)) dX6_sheet_20 (by decide) ?_
        exact g_iret (ty := .int) dX6_sheet_21 rfl rfl ⟨⟨⟨_, rfl, by first | trivial | lia | grind⟩, hu, f0⟩, ee_i (by subst ex9; subst ex4; exact (if_neg c5).trans ((if_neg c10).trans ((if_neg c11).trans (rfl))))⟩
def e_X6_lay (u : uk_Mem) (k : Int32) (i : Int32) (v : Int32) : Int32 × uk_Mem := let x4 : Int32 := (e_X6_isSheet u k); if x4 = 0 then (((-1 : Int32), u)) else (let x9 : Int32 := (e_X3_faultAt u k i); if x9 = 0 then (let u12 : uk_Mem := e_X3_put u k i v; ((1 : Int32), u12)) else (let x14 : Int32 := (-10 : Int32) - x9; (x14, u)))
abbrev qe_X6_lay (u : uk_Mem) (k : Int32) (i : Int32) (v : Int32) (r : Option Value) (u' : uk_Mem) : Prop := (q_X6_lay u k i v r u') ∧ (r = some (.int (e_X6_lay u k i v).1) ∧ u' = (e_X6_lay u k i v).2)
set_option maxHeartbeats 4000000 in
set_option maxRecDepth 20000 in
theorem x_X6_lay {G : uk_D} (hs : uk_Sep G) {u : uk_Mem} (hu : iv u) (k : Int32) (i : Int32) (v : Int32) (d : Nat) : uk_Meth G (d + 2) mX6_lay [.ref (uk_ad G 0), .int k, .int i, .int v] u (qe_X6_lay u k i v) := by
  refine uk_Meth.of hs (by decide) (Nat.le_of_ble_eq_true rfl) (fun X => ?_)
  have f0 : fr 49 57 u u := fr_rf
  refine g_iload_n dX6_lay_0 rfl ?_
  refine cl_X6_251 (As := [.int k]) rfl (x_X6_isSheet (G := G) hs hu  k  (d + 1)) rfl (by omega) rfl (Nat.le_of_ble_eq_true rfl) dX6_lay_1 (fun r1 u2 q3 => ?_)
  obtain ⟨q3, Eq3⟩ := q3
  obtain ⟨⟨x4, rfl, tx4, nx4, zx4⟩, mq3⟩ := q3
  rw [mq3]
  have ex4 : x4 = (e_X6_isSheet u k) := ee_v Eq3
  refine g_if_ne (tgt := 9) dX6_lay_4 (by decide) (fun c5 => ?_) (fun c5 => ?_)
  · have zc5 := nx4 c5
    refine g_aload_n dX6_lay_9 rfl ?_
    refine f_X6_62 rfl rfl dX6_lay_10 ?_
    refine g_iload_n dX6_lay_13 rfl ?_
    refine g_iload_n dX6_lay_14 rfl ?_
    refine cl_X6_261 (c := 49) (As := [.int k, .int i]) rfl (x_X3_faultAt (G := G) hs hu  k i (by first | trivial | decide | lia | grind) (by first | trivial | decide | lia | grind) (d)) rfl (by omega) rfl rfl (Nat.le_of_ble_eq_true rfl) dX6_lay_15 (fun r6 u7 q8 => ?_)
    obtain ⟨q8, Eq8⟩ := q8
    obtain ⟨⟨x9, rfl, tx9⟩, mq8⟩ := q8
    rw [mq8]
    have ex9 : x9 = (e_X3_faultAt u k i) := ee_v Eq8
    refine g_istore dX6_lay_18 (by decide) ?_
    refine g_pick (lv' := [(0, .ref (uk_ad G 0)), (1, .int k), (2, .int i), (3, .int v), (4, .int x9)]) [0, 1, 2, 3, 4] rfl ?_
    refine g_iload dX6_lay_20 rfl ?_
    refine g_if_eq (tgt := 31) dX6_lay_22 (by decide) (fun c10 => ?_) (fun c10 => ?_)
    · refine g_aload_n dX6_lay_31 rfl ?_
      refine f_X6_62 rfl rfl dX6_lay_32 ?_
      refine g_iload_n dX6_lay_35 rfl ?_
      refine g_iload_n dX6_lay_36 rfl ?_
      refine g_iload_n dX6_lay_37 rfl ?_
      refine cl_X6_265 (c := 49) (As := [.int k, .int i, .int v]) rfl (x_X3_put (G := G) hs hu  k i v (by first | trivial | decide | lia | grind) (by first | trivial | decide | lia | grind) (by first | trivial | decide | lia | grind) (by first | trivial | decide | lia | grind) (d + 1)) rfl (by omega) rfl rfl (Nat.le_of_ble_eq_true rfl) dX6_lay_38 (fun r11 u12 q13 => ?_)
      obtain ⟨q13, Eq13⟩ := q13
      obtain ⟨rfl, mq13⟩ := q13
      obtain ⟨hu12, gu12⟩ := mq13
      have fu12 : fr 49 57 u u12 := fr_tr f0 gu12 (by omega) (by omega)
      have eu12 : u12 = e_X3_put u k i v := Eq13
      refine g_iconst (v := 1) dX6_lay_41 (by decide) ?_
      exact g_iret (ty := .int) dX6_lay_42 rfl rfl ⟨⟨⟨_, rfl, by first | trivial | lia | grind⟩, hu12, fu12⟩, ee_i (by subst eu12; subst ex9; subst ex4; exact (if_neg c5).trans ((if_pos c10).trans (rfl)))⟩
    · refine g_bipush (v := (-10)) dX6_lay_25 (by decide) ?_
      refine g_iload dX6_lay_27 rfl ?_
      refine g_isub dX6_lay_29 ?_
      refine g_topi (fun x14 ex14 => ?_)
      exact g_iret (ty := .int) dX6_lay_30 rfl rfl ⟨⟨⟨_, rfl, by first | trivial | lia | grind⟩, hu, f0⟩, ee_i (by subst ex14; subst ex9; subst ex4; exact (if_neg c5).trans ((if_neg c10).trans (rfl)))⟩
  · have zc5 := zx4 c5
    refine g_iconst (v := (-1)) dX6_lay_7 (by decide) ?_
    exact g_iret (ty := .int) dX6_lay_8 rfl rfl ⟨⟨⟨_, rfl, by first | trivial | lia | grind⟩, hu, f0⟩, ee_i (by subst ex4; exact (if_pos c5).trans (rfl))⟩
def l_X6_read_42 (n : Int32) (f : Int32) (k : Int32) (l : Int32) : Nat → Int32 → uk_Mem → Int32 × uk_Mem
  | 0, _, u18 => (0, u18)
  | K9 + 1, i17, u18 => if n ≤ i17 then (let u20 : uk_Mem := uk_up u18 0 14 (0 : Int32); (n, u20)) else (let x22 : Int32 := f + i17; let x26 : Int32 := (e_X3_faultAs u18 k l x22); if x26 = 0 then (let x30 : Int32 := f + i17; let x32 : Int32 := u18.1 (52 + 1 + (k).toNatClampNeg) x30.toNatClampNeg; let x36 : Int32 := (e_X6_does u18 x32).1; let u34 : uk_Mem := (e_X6_does u18 x32).2; if 0 ≤ x36 then (l_X6_read_42 n f k l K9 (i17 + 1) u34) else (let u39 : uk_Mem := e_X0_copyFrom u34 13 4; let x41 : Int32 := (-20 : Int32) - i17; (x41, u39))) else (let u42 : uk_Mem := uk_up u18 0 14 x26; (i17, u42)))
def e_X6_read (u : uk_Mem) (k : Int32) (l : Int32) (f : Int32) (n : Int32) : Int32 × uk_Mem := let x4 : Int32 := (e_X6_isSheet u k); if x4 = 0 then (((-1 : Int32), u)) else (let x9 : Int32 := (e_X6_isLane u l); if x9 = 0 then (((-1 : Int32), u)) else (if n < 0 then (((-1 : Int32), u)) else (if n ≤ (20 : Int32) then (let u14 : uk_Mem := e_X0_copyFrom u 4 13; l_X6_read_42 n f k l ee_K (0 : Int32) u14) else (((-1 : Int32), u)))))
abbrev qe_X6_read (u : uk_Mem) (k : Int32) (l : Int32) (f : Int32) (n : Int32) (r : Option Value) (u' : uk_Mem) : Prop := (q_X6_read u k l f n r u') ∧ (r = some (.int (e_X6_read u k l f n).1) ∧ u' = (e_X6_read u k l f n).2)
set_option maxHeartbeats 4000000 in
set_option maxRecDepth 20000 in
theorem x_X6_read {G : uk_D} (hs : uk_Sep G) {u : uk_Mem} (hu : iv u) (k : Int32) (l : Int32) (f : Int32) (n : Int32) (d : Nat) : uk_Meth G (d + 4) mX6_read [.ref (uk_ad G 0), .int k, .int l, .int f, .int n] u (qe_X6_read u k l f n) := by
  refine uk_Meth.of hs (by decide) (Nat.le_of_ble_eq_true rfl) (fun X => ?_)
  have f0 : fr 0 22 u u := fr_rf
  refine g_iload_n dX6_read_0 rfl ?_
  refine cl_X6_251 (As := [.int k]) rfl (x_X6_isSheet (G := G) hs hu  k  (d + 3)) rfl (by omega) rfl (Nat.le_of_ble_eq_true rfl) dX6_read_1 (fun r1 u2 q3 => ?_)
  obtain ⟨q3, Eq3⟩ := q3
  obtain ⟨⟨x4, rfl, tx4, nx4, zx4⟩, mq3⟩ := q3
  rw [mq3]
  have ex4 : x4 = (e_X6_isSheet u k) := ee_v Eq3
  refine g_if_eq (tgt := 26) dX6_read_4 (by decide) (fun c5 => ?_) (fun c5 => ?_)
  · have zc5 := zx4 c5
    refine g_iconst (v := (-1)) dX6_read_26 (by decide) ?_
    exact g_iret (ty := .int) dX6_read_27 rfl rfl ⟨⟨⟨_, rfl, by first | trivial | lia | grind⟩, hu, f0, (by first | rfl | grind | grind [uk_up_at])⟩, ee_i (by subst ex4; exact (if_pos c5).trans (rfl))⟩
  · have zc5 := nx4 c5
    refine g_iload_n dX6_read_7 rfl ?_
    refine cl_X6_254 (As := [.int l]) rfl (x_X6_isLane (G := G) hs hu  l  (d + 3)) rfl (by omega) rfl (Nat.le_of_ble_eq_true rfl) dX6_read_8 (fun r6 u7 q8 => ?_)
    obtain ⟨q8, Eq8⟩ := q8
    obtain ⟨⟨x9, rfl, tx9, nx9, zx9⟩, mq8⟩ := q8
    rw [mq8]
    have ex9 : x9 = (e_X6_isLane u l) := ee_v Eq8
    refine g_if_eq (tgt := 26) dX6_read_11 (by decide) (fun c10 => ?_) (fun c10 => ?_)
    · have zc10 := zx9 c10
      refine g_iconst (v := (-1)) dX6_read_26 (by decide) ?_
      exact g_iret (ty := .int) dX6_read_27 rfl rfl ⟨⟨⟨_, rfl, by first | trivial | lia | grind⟩, hu, f0, (by first | rfl | grind | grind [uk_up_at])⟩, ee_i (by subst ex9; subst ex4; exact (if_neg c5).trans ((if_pos c10).trans (rfl)))⟩
    · have zc10 := nx9 c10
      refine g_iload dX6_read_14 rfl ?_
      refine g_if_lt (tgt := 26) dX6_read_16 (by decide) (fun c11 => ?_) (fun c11 => ?_)
      · refine g_iconst (v := (-1)) dX6_read_26 (by decide) ?_
        exact g_iret (ty := .int) dX6_read_27 rfl rfl ⟨⟨⟨_, rfl, by first | trivial | lia | grind⟩, hu, f0, (by first | rfl | grind | grind [uk_up_at])⟩, ee_i (by subst ex9; subst ex4; exact (if_neg c5).trans ((if_neg c10).trans ((if_pos c11).trans (rfl))))⟩
      · refine g_iload dX6_read_19 rfl ?_
        refine g_bipush (v := 20) dX6_read_21 (by decide) ?_
        refine g_icmp_le (tgt := 28) dX6_read_23 (by decide) (fun c12 => ?_) (fun c12 => ?_)
        · refine g_aload_n dX6_read_28 rfl ?_
          refine f_X6_16 rfl rfl dX6_read_29 ?_
          refine g_aload_n dX6_read_32 rfl ?_
          refine f_X6_10 rfl rfl dX6_read_33 ?_
          refine cl_X6_101 (c := 4) (As := [.ref (uk_ad G 13)]) rfl (x_X0_copyFrom (G := G) hs hu uk_isK4 uk_isK13   (d + 3)) rfl (by omega) rfl rfl (Nat.le_of_ble_eq_true rfl) dX6_read_36 (fun r13 u14 q15 => ?_)
          obtain ⟨q15, Eq15⟩ := q15
          obtain ⟨rfl, mq15⟩ := q15
          obtain ⟨hu14, gu14⟩ := mq15
          have fu14 : fr 0 22 u u14 := fr_tr f0 gu14 (by omega) (by omega)
          have wu14_2_1 : u14.1 2 1 = u.1 2 1 := fr_at gu14 (by omega)
          have eu14 : u14 = e_X0_copyFrom u 4 13 := Eq15
          refine g_iconst (v := 0) dX6_read_39 (by decide) ?_
          refine g_istore dX6_read_40 (by decide) ?_
          refine g_pick (lv' := [(0, .ref (uk_ad G 0)), (1, .int k), (2, .int l), (3, .int f), (4, .int n), (5, .int 0)]) [0, 1, 2, 3, 4, 5] rfl ?_
          have L42_15 : ∀ i17 : Int32, 0 ≤ i17 → i17 ≤ 20 → ∀ (u18 : uk_Mem), iv u18 → fr 0 22 u u18 → u18.1 2 1 = u.1 2 1 → (∃ ki17 : Nat, ee_F 20 i17 ki17 ∧ e_X6_read u k l f n = l_X6_read_42 n f k l ki17 i17 u18) → uk_G G X mX6_read (d + 4) (qe_X6_read u k l f n) 42 [(0, .ref (uk_ad G 0)), (1, .int k), (2, .int l), (3, .int f), (4, .int n), (5, .int i17)] [] u18 := by
            refine uk_upl 20 ?_
            intro i17 ai17 bi17 ihi17  u18 hu18 fu18 ji170 jEi17
            obtain ⟨ki17, fki17, hki17⟩ := jEi17
            obtain ⟨ki17, rfl⟩ := ee_Fp (by first | assumption | lia | grind) fki17
            refine g_iload dX6_read_42 rfl ?_
            refine g_iload dX6_read_44 rfl ?_
            refine g_icmp_ge (tgt := 122) dX6_read_46 (by decide) (fun c19 => ?_) (fun c19 => ?_)
            · refine g_aload_n dX6_read_122 rfl ?_
              refine g_iconst (v := 0) dX6_read_123 (by decide) ?_
              refine p_X6_81 rfl rfl dX6_read_124 ?_
              refine g_mem (fun u20 eu20 => ?_)
              have hu20 : iv u20 := by rw [eu20]; exact iv_upF hu18 rfl
              have fu20 : fr 0 22 u u20 := by rw [eu20]; exact fr_up fu18 (by omega) (by omega)
              have s21 : u20.1 0 14 = 0 := by rw [eu20, uk_up_at]; exact if_pos ⟨rfl, rfl⟩
              refine g_iload dX6_read_127 rfl ?_
              exact g_iret (ty := .int) dX6_read_129 rfl rfl ⟨⟨⟨_, rfl, by first | trivial | lia | grind⟩, hu20, fu20, (by first | rfl | grind | grind [uk_up_at])⟩, ee_i (by subst eu20; exact hki17.trans ((if_pos c19).trans (rfl)))⟩
            · refine g_aload_n dX6_read_49 rfl ?_
              refine f_X6_62 rfl rfl dX6_read_50 ?_
              refine g_iload_n dX6_read_53 rfl ?_
              refine g_iload_n dX6_read_54 rfl ?_
              refine g_iload_n dX6_read_55 rfl ?_
              refine g_iload dX6_read_56 rfl ?_
              refine g_iadd dX6_read_58 ?_
              refine g_topi (fun x22 ex22 => ?_)
              refine cl_X6_268 (c := 49) (As := [.int k, .int l, .int x22]) rfl (x_X3_faultAs (G := G) hs hu18  k l x22 (by first | trivial | decide | lia | grind) (by first | trivial | decide | lia | grind) (d + 1)) rfl (by omega) rfl rfl (Nat.le_of_ble_eq_true rfl) dX6_read_59 (fun r23 u24 q25 => ?_)
              obtain ⟨q25, Eq25⟩ := q25
              obtain ⟨⟨x26, rfl, tx26⟩, mq25⟩ := q25
              rw [mq25]
              have ex26 : x26 = (e_X3_faultAs u18 k l x22) := ee_v Eq25
              refine g_istore dX6_read_62 (by decide) ?_
              refine g_pick (lv' := [(0, .ref (uk_ad G 0)), (1, .int k), (2, .int l), (3, .int f), (4, .int n), (5, .int i17), (6, .int x26)]) [0, 1, 2, 3, 4, 5, 6] rfl ?_
              refine g_iload dX6_read_64 rfl ?_
              refine g_if_eq (tgt := 78) dX6_read_66 (by decide) (fun c27 => ?_) (fun c27 => ?_)
              · refine g_aload_n dX6_read_78 rfl ?_
                refine g_aload_n dX6_read_79 rfl ?_
                refine f_X6_62 rfl rfl dX6_read_80 ?_
                refine f_X6_272 rfl rfl dX6_read_83 ?_
                refine g_iload_n dX6_read_86 rfl ?_
                have v28 : vp_in k 4 := uk_vin 4 rfl (by first | decide | lia | grind) (by first | decide | lia | grind)
                refine g_aald rfl rfl v28 dX6_read_87 ?_
                have b29 := uk_cl v28
                refine g_iload_n dX6_read_88 rfl ?_
                refine g_iload dX6_read_89 rfl ?_
                refine g_iadd dX6_read_91 ?_
                refine g_topi (fun x30 ex30 => ?_)
                have v31 : vp_in x30 40 := uk_vin 40 rfl (by first | decide | lia | grind) (by first | decide | lia | grind)
                refine g_iald (ks_kind b29) (ks_len b29) v31 dX6_read_92 ?_
                refine g_topi (fun x32 ex32 => ?_)
                refine cl_X6_276 (c := 0) (As := [.int x32]) rfl (x_X6_does (G := G) hs hu18  x32  (d)) rfl (by omega) rfl rfl (Nat.le_of_ble_eq_true rfl) dX6_read_93 (fun r33 u34 q35 => ?_)
                obtain ⟨q35, Eq35⟩ := q35
                obtain ⟨⟨x36, rfl, tx36⟩, mq35⟩ := q35
                obtain ⟨hu34, gu34⟩ := mq35
                have fu34 : fr 0 22 u u34 := fr_tr fu18 gu34 (by omega) (by omega)
                have wu34_2_1 : u34.1 2 1 = u18.1 2 1 := fr_at gu34 (by omega)
                have ex36 : x36 = (e_X6_does u18 x32).1 := ee_v Eq35.1
                have eu34 : u34 = (e_X6_does u18 x32).2 := Eq35.2
                refine g_if_ge (tgt := 116) dX6_read_96 (by decide) (fun c37 => ?_) (fun c37 => ?_)
                · refine g_iinc (v := i17 + 1) dX6_read_116 rfl rfl (by decide) ?_
                  refine g_pick (lv' := [(0, .ref (uk_ad G 0)), (1, .int k), (2, .int l), (3, .int f), (4, .int n), (5, .int (i17 + 1)), (6, .int x26)]) [0, 1, 2, 3, 4, 5, 6] rfl ?_
                  refine g_goto (tgt := 42) dX6_read_119 (by decide) ?_
                  refine g_pick (lv' := [(0, .ref (uk_ad G 0)), (1, .int k), (2, .int l), (3, .int f), (4, .int n), (5, .int (i17 + 1))]) [0, 1, 2, 3, 4, 5] rfl ?_
                  exact ihi17 (by first | lia | grind)  u34 hu34 fu34 (by first | trivial | lia | grind | grind [uk_up_at] | (simp [uk_up_at, ji170]; done) | (simp [uk_up_at]; grind)) ⟨ki17, ee_Fs fki17 (by first | assumption | lia | grind), by subst eu34; subst ex36; subst ex32; subst ex30; subst ex26; subst ex22; exact hki17.trans ((if_neg c19).trans ((if_pos c27).trans ((if_pos c37).trans (rfl))))⟩
                · refine g_aload_n dX6_read_99 rfl ?_
                  refine f_X6_10 rfl rfl dX6_read_100 ?_
                  refine g_aload_n dX6_read_103 rfl ?_
                  refine f_X6_16 rfl rfl dX6_read_104 ?_
                  refine cl_X6_101 (c := 13) (As := [.ref (uk_ad G 4)]) rfl (x_X0_copyFrom (G := G) hs hu34 uk_isK13 uk_isK4   (d + 3)) rfl (by omega) rfl rfl (Nat.le_of_ble_eq_true rfl) dX6_read_107 (fun r38 u39 q40 => ?_)
                  obtain ⟨q40, Eq40⟩ := q40
                  obtain ⟨rfl, mq40⟩ := q40
                  obtain ⟨hu39, gu39⟩ := mq40
                  have fu39 : fr 0 22 u u39 := fr_tr fu34 gu39 (by omega) (by omega)
                  have wu39_2_1 : u39.1 2 1 = u34.1 2 1 := fr_at gu39 (by omega)
                  have eu39 : u39 = e_X0_copyFrom u34 13 4 := Eq40
                  refine g_bipush (v := (-20)) dX6_read_110 (by decide) ?_
                  refine g_iload dX6_read_112 rfl ?_
                  refine g_isub dX6_read_114 ?_
                  refine g_topi (fun x41 ex41 => ?_)
                  exact g_iret (ty := .int) dX6_read_115 rfl rfl ⟨⟨⟨_, rfl, by first | trivial | lia | grind⟩, hu39, fu39, (by first | rfl | grind | grind [uk_up_at])⟩, ee_i (by subst ex41; subst eu39; subst eu34; subst ex36; subst ex32; subst ex30; subst ex26; subst ex22; exact hki17.trans ((if_neg c19).trans ((if_pos c27).trans ((if_neg c37).trans (rfl)))))⟩
              · refine g_aload_n dX6_read_69 rfl ?_
                refine g_iload dX6_read_70 rfl ?_
                refine p_X6_81 rfl rfl dX6_read_72 ?_
                refine g_mem (fun u42 eu42 => ?_)
                have hu42 : iv u42 := by rw [eu42]; exact iv_upF hu18 rfl
                have fu42 : fr 0 22 u u42 := by rw [eu42]; exact fr_up fu18 (by omega) (by omega)
                have s43 : u42.1 0 14 = x26 := by rw [eu42, uk_up_at]; exact if_pos ⟨rfl, rfl⟩
                refine g_iload dX6_read_75 rfl ?_
                exact g_iret (ty := .int) dX6_read_77 rfl rfl ⟨⟨⟨_, rfl, by first | trivial | lia | grind⟩, hu42, fu42, (by first | rfl | grind | grind [uk_up_at])⟩, ee_i (by subst eu42; subst ex26; subst ex22; exact hki17.trans ((if_neg c19).trans ((if_neg c27).trans (rfl))))⟩
          refine g_pick (lv' := [(0, .ref (uk_ad G 0)), (1, .int k), (2, .int l), (3, .int f), (4, .int n), (5, .int 0)]) [0, 1, 2, 3, 4, 5] rfl ?_
          exact L42_15 0 (by first | decide | lia | grind) (by first | decide | lia | grind)  u14 hu14 fu14 (by first | trivial | lia | grind | grind [uk_up_at] | (simp [uk_up_at]; done) | (simp [uk_up_at]; grind)) ⟨ee_K, ee_F0 _ _, by subst eu14; subst ex9; subst ex4; exact (if_neg c5).trans ((if_neg c10).trans ((if_neg c11).trans ((if_pos c12).trans (rfl))))⟩
        · refine g_iconst (v := (-1)) dX6_read_26 (by decide) ?_
          exact g_iret (ty := .int) dX6_read_27 rfl rfl ⟨⟨⟨_, rfl, by first | trivial | lia | grind⟩, hu, f0, (by first | rfl | grind | grind [uk_up_at])⟩, ee_i (by subst ex9; subst ex4; exact (if_neg c5).trans ((if_neg c10).trans ((if_neg c11).trans ((if_neg c12).trans (rfl)))))⟩
def e_X6_torn (u : uk_Mem) : Int32 := let x1 : Int32 := u.1 0 14; x1
abbrev qe_X6_torn (u : uk_Mem)  (r : Option Value) (u' : uk_Mem) : Prop := (q_X6_torn u r u') ∧ (r = some (.int (e_X6_torn u)))
set_option maxHeartbeats 4000000 in
set_option maxRecDepth 20000 in
theorem x_X6_torn {G : uk_D} (hs : uk_Sep G) {u : uk_Mem} (hu : iv u)  (d : Nat) : uk_Meth G d mX6_torn [.ref (uk_ad G 0)] u (qe_X6_torn u) := by
  refine uk_Meth.of hs (by decide) (Nat.le_of_ble_eq_true rfl) (fun X => ?_)
  refine g_aload_n dX6_torn_0 rfl ?_
  refine f_X6_81 rfl rfl dX6_torn_1 ?_
  refine g_topi (fun x1 ex1 => ?_)
  have s2 : u.1 0 14 = x1 := ex1.symm
  exact g_iret (ty := .int) dX6_torn_4 rfl rfl ⟨⟨⟨_, rfl, by first | trivial | lia | grind⟩, rfl⟩, ee_p (by subst ex1; exact rfl)⟩
def e_X6_count (u : uk_Mem) (w : Int32) : Int32 := if w = 0 then (let x5 : Int32 := (e_X0_things u 13); x5) else (if w = 1 then (let x10 : Int32 := (e_X0_allFeeds u 13); x10) else (if w = 2 then (let x12 : Int32 := u.1 13 9; x12) else (if w = 3 then (let x16 : Int32 := u.1 40 (0 : Int32).toNatClampNeg; if x16 = 0 then (let x19 : Int32 := u.1 40 (1 : Int32).toNatClampNeg; if x19 = 0 then (let x21 : Int32 := (0 : Int32) + (0 : Int32); x21) else (let x22 : Int32 := (0 : Int32) + (1 : Int32); x22)) else (let x24 : Int32 := u.1 40 (1 : Int32).toNatClampNeg; if x24 = 0 then (let x26 : Int32 := (1 : Int32) + (0 : Int32); x26) else (let x27 : Int32 := (1 : Int32) + (1 : Int32); x27))) else (if w = 4 then (let x29 : Int32 := u.1 2 1; x29) else (if w = 5 then (let x35 : Int32 := (e_X3_isNothing u (0 : Int32)); if x35 = 0 then (let x38 : Int32 := u.1 51 (0 : Int32).toNatClampNeg; x38) else ((-4 : Int32))) else ((-1 : Int32)))))))
abbrev qe_X6_count (u : uk_Mem) (w : Int32) (r : Option Value) (u' : uk_Mem) : Prop := (q_X6_count u w r u') ∧ (r = some (.int (e_X6_count u w)))
set_option maxHeartbeats 4000000 in
set_option maxRecDepth 20000 in
theorem x_X6_count {G : uk_D} (hs : uk_Sep G) {u : uk_Mem} (hu : iv u) (w : Int32) (d : Nat) : uk_Meth G (d + 1) mX6_count [.ref (uk_ad G 0), .int w] u (qe_X6_count u w) := by
  refine uk_Meth.of hs (by decide) (Nat.le_of_ble_eq_true rfl) (fun X => ?_)
  refine g_iload_n dX6_count_0 rfl ?_
  by_cases c1 : w = 0
  · refine g_tabIn (off := (39)) (tgt := 40) dX6_count_1 (by rw [c1]; decide) (by rw [c1]; decide) (by rw [c1]; rfl) (by decide) ?_
    refine g_aload_n dX6_count_40 rfl ?_
    refine f_X6_10 rfl rfl dX6_count_41 ?_
    refine cl_X6_241 (c := 13) (As := []) rfl (x_X0_things (G := G) hs hu uk_isK13   (d)) rfl (by omega) rfl rfl (Nat.le_of_ble_eq_true rfl) dX6_count_44 (fun r2 u3 q4 => ?_)
    obtain ⟨q4, Eq4⟩ := q4
    obtain ⟨⟨x5, rfl, tx5⟩, mq4⟩ := q4
    rw [mq4]
    have ex5 : x5 = (e_X0_things u 13) := ee_v Eq4
    exact g_iret (ty := .int) dX6_count_47 rfl rfl ⟨⟨⟨_, rfl, by first | trivial | lia | grind⟩, rfl⟩, ee_p (by subst ex5; exact (if_pos c1).trans (rfl))⟩
  by_cases c6 : w = 1
  · refine g_tabIn (off := (47)) (tgt := 48) dX6_count_1 (by rw [c6]; decide) (by rw [c6]; decide) (by rw [c6]; rfl) (by decide) ?_
    refine g_aload_n dX6_count_48 rfl ?_
    refine f_X6_10 rfl rfl dX6_count_49 ?_
    refine cl_X6_279 (c := 13) (As := []) rfl (x_X0_allFeeds (G := G) hs hu uk_isK13   (d)) rfl (by omega) rfl rfl (Nat.le_of_ble_eq_true rfl) dX6_count_52 (fun r7 u8 q9 => ?_)
    obtain ⟨q9, Eq9⟩ := q9
    obtain ⟨⟨x10, rfl, tx10⟩, mq9⟩ := q9
    rw [mq9]
    have ex10 : x10 = (e_X0_allFeeds u 13) := ee_v Eq9
    exact g_iret (ty := .int) dX6_count_55 rfl rfl ⟨⟨⟨_, rfl, by first | trivial | lia | grind⟩, rfl⟩, ee_p (by subst ex10; exact (if_neg c1).trans ((if_pos c6).trans (rfl)))⟩
  by_cases c11 : w = 2
  · refine g_tabIn (off := (55)) (tgt := 56) dX6_count_1 (by rw [c11]; decide) (by rw [c11]; decide) (by rw [c11]; rfl) (by decide) ?_
    refine g_aload_n dX6_count_56 rfl ?_
    refine f_X6_10 rfl rfl dX6_count_57 ?_
    refine f_X6_223 rfl rfl dX6_count_60 ?_
    refine g_topi (fun x12 ex12 => ?_)
    have rx12 : 0 ≤ x12 ∧ x12 ≤ 8 := by rw [ex12]; exact iv_at hu _ _ rfl
    have s13 : u.1 13 9 = x12 := ex12.symm
    exact g_iret (ty := .int) dX6_count_63 rfl rfl ⟨⟨⟨_, rfl, by first | trivial | lia | grind⟩, rfl⟩, ee_p (by subst ex12; exact (if_neg c1).trans ((if_neg c6).trans ((if_pos c11).trans (rfl))))⟩
  by_cases c14 : w = 3
  · refine g_tabIn (off := (63)) (tgt := 64) dX6_count_1 (by rw [c14]; decide) (by rw [c14]; decide) (by rw [c14]; rfl) (by decide) ?_
    refine g_aload_n dX6_count_64 rfl ?_
    refine f_X6_41 rfl rfl dX6_count_65 ?_
    refine g_iconst (v := 0) dX6_count_68 (by decide) ?_
    have v15 : vp_in 0 2 := uk_vin 2 rfl (by first | decide | lia | grind) (by first | decide | lia | grind)
    refine g_zald rfl rfl v15 dX6_count_69 ?_
    refine g_topi (fun x16 ex16 => ?_)
    have bx16 := uk_cl v15
    have rx16 : 0 ≤ x16 ∧ x16 ≤ 1 := by rw [ex16]; exact iv_at hu _ _ (uk_pick1 _ (by omega))
    refine g_if_eq (tgt := 77) dX6_count_70 (by decide) (fun c17 => ?_) (fun c17 => ?_)
    · refine g_iconst (v := 0) dX6_count_77 (by decide) ?_
      refine g_aload_n dX6_count_78 rfl ?_
      refine f_X6_41 rfl rfl dX6_count_79 ?_
      refine g_iconst (v := 1) dX6_count_82 (by decide) ?_
      have v18 : vp_in 1 2 := uk_vin 2 rfl (by first | decide | lia | grind) (by first | decide | lia | grind)
      refine g_zald rfl rfl v18 dX6_count_83 ?_
      refine g_topi (fun x19 ex19 => ?_)
      have bx19 := uk_cl v18
      have rx19 : 0 ≤ x19 ∧ x19 ≤ 1 := by rw [ex19]; exact iv_at hu _ _ (uk_pick1 _ (by omega))
      refine g_if_eq (tgt := 91) dX6_count_84 (by decide) (fun c20 => ?_) (fun c20 => ?_)
      · refine g_iconst (v := 0) dX6_count_91 (by decide) ?_
        refine g_iadd dX6_count_92 ?_
        refine g_topi (fun x21 ex21 => ?_)
        have ox21 : x21 = 0 := by rw [ex21, Int32.zero_add]
        exact g_iret (ty := .int) dX6_count_93 rfl rfl ⟨⟨⟨_, rfl, by first | trivial | lia | grind⟩, rfl⟩, ee_p (by subst ex21; subst ex19; subst ex16; exact (if_neg c1).trans ((if_neg c6).trans ((if_neg c11).trans ((if_pos c14).trans ((if_pos c17).trans ((if_pos c20).trans (rfl)))))))⟩
      · refine g_iconst (v := 1) dX6_count_87 (by decide) ?_
        refine g_goto (tgt := 92) dX6_count_88 (by decide) ?_
        refine g_iadd dX6_count_92 ?_
        refine g_topi (fun x22 ex22 => ?_)
        have ox22 : x22 = 1 := by rw [ex22, Int32.zero_add]
        exact g_iret (ty := .int) dX6_count_93 rfl rfl ⟨⟨⟨_, rfl, by first | trivial | lia | grind⟩, rfl⟩, ee_p (by subst ex22; subst ex19; subst ex16; exact (if_neg c1).trans ((if_neg c6).trans ((if_neg c11).trans ((if_pos c14).trans ((if_pos c17).trans ((if_neg c20).trans (rfl)))))))⟩
    · refine g_iconst (v := 1) dX6_count_73 (by decide) ?_
      refine g_goto (tgt := 78) dX6_count_74 (by decide) ?_
      refine g_aload_n dX6_count_78 rfl ?_
      refine f_X6_41 rfl rfl dX6_count_79 ?_
      refine g_iconst (v := 1) dX6_count_82 (by decide) ?_
      have v23 : vp_in 1 2 := uk_vin 2 rfl (by first | decide | lia | grind) (by first | decide | lia | grind)
      refine g_zald rfl rfl v23 dX6_count_83 ?_
      refine g_topi (fun x24 ex24 => ?_)
      have bx24 := uk_cl v23
      have rx24 : 0 ≤ x24 ∧ x24 ≤ 1 := by rw [ex24]; exact iv_at hu _ _ (uk_pick1 _ (by omega))
      refine g_if_eq (tgt := 91) dX6_count_84 (by decide) (fun c25 => ?_) (fun c25 => ?_)
      · refine g_iconst (v := 0) dX6_count_91 (by decide) ?_
        refine g_iadd dX6_count_92 ?_
        refine g_topi (fun x26 ex26 => ?_)
        exact g_iret (ty := .int) dX6_count_93 rfl rfl ⟨⟨⟨_, rfl, by first | trivial | lia | grind⟩, rfl⟩, ee_p (by subst ex26; subst ex24; subst ex16; exact (if_neg c1).trans ((if_neg c6).trans ((if_neg c11).trans ((if_pos c14).trans ((if_neg c17).trans ((if_pos c25).trans (rfl)))))))⟩
      · refine g_iconst (v := 1) dX6_count_87 (by decide) ?_
        refine g_goto (tgt := 92) dX6_count_88 (by decide) ?_
        refine g_iadd dX6_count_92 ?_
        refine g_topi (fun x27 ex27 => ?_)
        exact g_iret (ty := .int) dX6_count_93 rfl rfl ⟨⟨⟨_, rfl, by first | trivial | lia | grind⟩, rfl⟩, ee_p (by subst ex27; subst ex24; subst ex16; exact (if_neg c1).trans ((if_neg c6).trans ((if_neg c11).trans ((if_pos c14).trans ((if_neg c17).trans ((if_neg c25).trans (rfl)))))))⟩
  by_cases c28 : w = 4
  · refine g_tabIn (off := (93)) (tgt := 94) dX6_count_1 (by rw [c28]; decide) (by rw [c28]; decide) (by rw [c28]; rfl) (by decide) ?_
    refine g_aload_n dX6_count_94 rfl ?_
    refine f_X6_22 rfl rfl dX6_count_95 ?_
    refine f_X6_84 rfl rfl dX6_count_98 ?_
    refine g_topi (fun x29 ex29 => ?_)
    have rx29 : 0 ≤ x29 ∧ x29 ≤ 160 := by rw [ex29]; exact iv_at hu _ _ rfl
    have s30 : u.1 2 1 = x29 := ex29.symm
    exact g_iret (ty := .int) dX6_count_101 rfl rfl ⟨⟨⟨_, rfl, by first | trivial | lia | grind⟩, rfl⟩, ee_p (by subst ex29; exact (if_neg c1).trans ((if_neg c6).trans ((if_neg c11).trans ((if_neg c14).trans ((if_pos c28).trans (rfl))))))⟩
  by_cases c31 : w = 5
  · refine g_tabIn (off := (101)) (tgt := 102) dX6_count_1 (by rw [c31]; decide) (by rw [c31]; decide) (by rw [c31]; rfl) (by decide) ?_
    refine g_aload_n dX6_count_102 rfl ?_
    refine f_X6_62 rfl rfl dX6_count_103 ?_
    refine g_iconst (v := 0) dX6_count_106 (by decide) ?_
    refine cl_X6_282 (c := 49) (As := [.int 0]) rfl (x_X3_isNothing (G := G) hs hu  0 (by first | trivial | decide | lia | grind) (by first | trivial | decide | lia | grind) (d)) rfl (by omega) rfl rfl (Nat.le_of_ble_eq_true rfl) dX6_count_107 (fun r32 u33 q34 => ?_)
    obtain ⟨q34, Eq34⟩ := q34
    obtain ⟨⟨x35, rfl, tx35, nx35, zx35⟩, mq34⟩ := q34
    rw [mq34]
    have ex35 : x35 = (e_X3_isNothing u (0 : Int32)) := ee_v Eq34
    refine g_if_eq (tgt := 118) dX6_count_110 (by decide) (fun c36 => ?_) (fun c36 => ?_)
    · have zc36 := zx35 c36
      refine g_aload_n dX6_count_118 rfl ?_
      refine f_X6_62 rfl rfl dX6_count_119 ?_
      refine f_X6_285 rfl rfl dX6_count_122 ?_
      refine g_iconst (v := 0) dX6_count_125 (by decide) ?_
      have v37 : vp_in 0 4 := uk_vin 4 rfl (by first | decide | lia | grind) (by first | decide | lia | grind)
      refine g_iald rfl rfl v37 dX6_count_126 ?_
      refine g_topi (fun x38 ex38 => ?_)
      have bx38 := uk_cl v37
      have rx38 : 0 ≤ x38 ∧ x38 ≤ 40 := by rw [ex38]; exact iv_at hu _ _ (uk_pick1 _ (by omega))
      exact g_iret (ty := .int) dX6_count_127 rfl rfl ⟨⟨⟨_, rfl, by first | trivial | lia | grind⟩, rfl⟩, ee_p (by subst ex38; subst ex35; exact (if_neg c1).trans ((if_neg c6).trans ((if_neg c11).trans ((if_neg c14).trans ((if_neg c28).trans ((if_pos c31).trans ((if_pos c36).trans (rfl))))))))⟩
    · have zc36 := nx35 c36
      refine g_bipush (v := (-4)) dX6_count_113 (by decide) ?_
      refine g_goto (tgt := 127) dX6_count_115 (by decide) ?_
      exact g_iret (ty := .int) dX6_count_127 rfl rfl ⟨⟨⟨_, rfl, by first | trivial | lia | grind⟩, rfl⟩, ee_p (by subst ex35; exact (if_neg c1).trans ((if_neg c6).trans ((if_neg c11).trans ((if_neg c14).trans ((if_neg c28).trans ((if_pos c31).trans ((if_neg c36).trans (rfl))))))))⟩
  refine g_tabOut (tgt := 128) dX6_count_1 (uk_swo 0 5 rfl rfl (by first | lia | grind)) (by decide) ?_
  refine g_iconst (v := (-1)) dX6_count_128 (by decide) ?_
  exact g_iret (ty := .int) dX6_count_129 rfl rfl ⟨⟨⟨_, rfl, by first | trivial | lia | grind⟩, rfl⟩, ee_p (by exact (if_neg c1).trans ((if_neg c6).trans ((if_neg c11).trans ((if_neg c14).trans ((if_neg c28).trans ((if_neg c31).trans (rfl)))))))⟩
