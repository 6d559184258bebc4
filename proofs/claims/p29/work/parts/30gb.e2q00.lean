def e_X3_isNothing (u : uk_Mem) (k : Int32) : Int32 := let x2 : Int32 := u.1 50 k.toNatClampNeg; if x2 = (-1 : Int32) then ((1 : Int32)) else ((0 : Int32))
abbrev qe_X3_isNothing (u : uk_Mem) (k : Int32) (r : Option Value) (u' : uk_Mem) : Prop := (q_X3_isNothing u k r u') ∧ (r = some (.int (e_X3_isNothing u k)))
set_option maxHeartbeats 4000000 in
set_option maxRecDepth 20000 in
theorem x_X3_isNothing {G : uk_D} (hs : uk_Sep G) {u : uk_Mem} (hu : iv u) (k : Int32) (p0 : 0 ≤ k) (p1 : k ≤ 3) (d : Nat) : uk_Meth G d mX3_isNothing [.ref (uk_ad G 49), .int k] u (qe_X3_isNothing u k) := by
  refine uk_Meth.of hs (by decide) (Nat.le_of_ble_eq_true rfl) (fun X => ?_)
  refine g_aload_n dX3_isNothing_0 rfl ?_
  refine f_X3_11 rfl rfl dX3_isNothing_1 ?_
  refine g_iload_n dX3_isNothing_4 rfl ?_
  have v1 : vp_in k 4 := uk_vin 4 rfl (by first | decide | lia | grind) (by first | decide | lia | grind)
  refine g_iald rfl rfl v1 dX3_isNothing_5 ?_
  refine g_topi (fun x2 ex2 => ?_)
  refine g_iconst (v := (-1)) dX3_isNothing_6 (by decide) ?_
  refine g_icmp_ne (tgt := 14) dX3_isNothing_7 (by decide) (fun c3 => ?_) (fun c3 => ?_)
  · refine g_iconst (v := 0) dX3_isNothing_14 (by decide) ?_
    exact g_iret (ty := .boolean) dX3_isNothing_15 rfl rfl ⟨⟨⟨0, rfl, Or.inl rfl, fun q => absurd rfl q, fun _ => by first | trivial | lia | grind⟩, rfl⟩, ee_p (by subst ex2; exact (if_neg c3).trans (rfl))⟩
  · refine g_iconst (v := 1) dX3_isNothing_10 (by decide) ?_
    refine g_goto (tgt := 15) dX3_isNothing_11 (by decide) ?_
    exact g_iret (ty := .boolean) dX3_isNothing_15 rfl rfl ⟨⟨⟨1, rfl, Or.inr rfl, fun _ => by first | trivial | lia | grind, fun q => absurd q (by decide)⟩, rfl⟩, ee_p (by subst ex2; exact (if_pos c3).trans (rfl))⟩
def e_X3_faultAt (u : uk_Mem) (k : Int32) (i : Int32) : Int32 := let x4 : Int32 := (e_X3_isNothing u k); if x4 = 0 then (if i < 0 then ((2 : Int32)) else (let x8 : Int32 := u.1 51 k.toNatClampNeg; if i < x8 then ((0 : Int32)) else ((2 : Int32)))) else ((1 : Int32))
abbrev qe_X3_faultAt (u : uk_Mem) (k : Int32) (i : Int32) (r : Option Value) (u' : uk_Mem) : Prop := (q_X3_faultAt u k i r u') ∧ (r = some (.int (e_X3_faultAt u k i)))
set_option maxHeartbeats 4000000 in
set_option maxRecDepth 20000 in
theorem x_X3_faultAt {G : uk_D} (hs : uk_Sep G) {u : uk_Mem} (hu : iv u) (k : Int32) (i : Int32) (p0 : 0 ≤ k) (p1 : k ≤ 3) (d : Nat) : uk_Meth G (d + 1) mX3_faultAt [.ref (uk_ad G 49), .int k, .int i] u (qe_X3_faultAt u k i) := by
  refine uk_Meth.of hs (by decide) (Nat.le_of_ble_eq_true rfl) (fun X => ?_)
  refine g_aload_n dX3_faultAt_0 rfl ?_
  refine g_iload_n dX3_faultAt_1 rfl ?_
  refine cl_X3_23 (c := 49) (As := [.int k]) rfl (x_X3_isNothing (G := G) hs hu  k (by first | trivial | decide | lia | grind) (by first | trivial | decide | lia | grind) (d)) rfl (by omega) rfl rfl (Nat.le_of_ble_eq_true rfl) dX3_faultAt_2 (fun r1 u2 q3 => ?_)
  obtain ⟨q3, Eq3⟩ := q3
  obtain ⟨⟨x4, rfl, tx4, nx4, zx4⟩, mq3⟩ := q3
  rw [mq3]
  have ex4 : x4 = (e_X3_isNothing u k) := ee_v Eq3
  refine g_if_eq (tgt := 10) dX3_faultAt_5 (by decide) (fun c5 => ?_) (fun c5 => ?_)
  · have zc5 := zx4 c5
    refine g_iload_n dX3_faultAt_10 rfl ?_
    refine g_if_lt (tgt := 24) dX3_faultAt_11 (by decide) (fun c6 => ?_) (fun c6 => ?_)
    · refine g_iconst (v := 2) dX3_faultAt_24 (by decide) ?_
      refine g_goto (tgt := 29) dX3_faultAt_25 (by decide) ?_
      exact g_iret (ty := .int) dX3_faultAt_29 rfl rfl ⟨⟨⟨_, rfl, by first | trivial | lia | grind⟩, rfl⟩, ee_p (by subst ex4; exact (if_pos c5).trans ((if_pos c6).trans (rfl)))⟩
    · refine g_iload_n dX3_faultAt_14 rfl ?_
      refine g_aload_n dX3_faultAt_15 rfl ?_
      refine f_X3_15 rfl rfl dX3_faultAt_16 ?_
      refine g_iload_n dX3_faultAt_19 rfl ?_
      have v7 : vp_in k 4 := uk_vin 4 rfl (by first | decide | lia | grind) (by first | decide | lia | grind)
      refine g_iald rfl rfl v7 dX3_faultAt_20 ?_
      refine g_topi (fun x8 ex8 => ?_)
      have bx8 := uk_cl v7
      have rx8 : 0 ≤ x8 ∧ x8 ≤ 40 := by rw [ex8]; exact iv_at hu _ _ (uk_pick1 _ (by omega))
      refine g_icmp_lt (tgt := 28) dX3_faultAt_21 (by decide) (fun c9 => ?_) (fun c9 => ?_)
      · refine g_iconst (v := 0) dX3_faultAt_28 (by decide) ?_
        exact g_iret (ty := .int) dX3_faultAt_29 rfl rfl ⟨⟨⟨_, rfl, by first | trivial | lia | grind⟩, rfl⟩, ee_p (by subst ex8; subst ex4; exact (if_pos c5).trans ((if_neg c6).trans ((if_pos c9).trans (rfl))))⟩
      · refine g_iconst (v := 2) dX3_faultAt_24 (by decide) ?_
        refine g_goto (tgt := 29) dX3_faultAt_25 (by decide) ?_
        exact g_iret (ty := .int) dX3_faultAt_29 rfl rfl ⟨⟨⟨_, rfl, by first | trivial | lia | grind⟩, rfl⟩, ee_p (by subst ex8; subst ex4; exact (if_pos c5).trans ((if_neg c6).trans ((if_neg c9).trans (rfl))))⟩
  · have zc5 := nx4 c5
    refine g_iconst (v := 1) dX3_faultAt_8 (by decide) ?_
    exact g_iret (ty := .int) dX3_faultAt_9 rfl rfl ⟨⟨⟨_, rfl, by first | trivial | lia | grind⟩, rfl⟩, ee_p (by subst ex4; exact (if_neg c5).trans (rfl))⟩
def e_X3_faultAs (u : uk_Mem) (k : Int32) (l : Int32) (i : Int32) : Int32 := let x4 : Int32 := (e_X3_isNothing u k); if x4 = 0 then (let x11 : Int32 := u.1 50 k.toNatClampNeg; if x11 = l then (let x16 : Int32 := (e_X3_faultAt u k i); x16) else ((3 : Int32))) else (let x9 : Int32 := (e_X3_faultAt u k i); x9)
abbrev qe_X3_faultAs (u : uk_Mem) (k : Int32) (l : Int32) (i : Int32) (r : Option Value) (u' : uk_Mem) : Prop := (q_X3_faultAs u k l i r u') ∧ (r = some (.int (e_X3_faultAs u k l i)))
set_option maxHeartbeats 4000000 in
set_option maxRecDepth 20000 in
theorem x_X3_faultAs {G : uk_D} (hs : uk_Sep G) {u : uk_Mem} (hu : iv u) (k : Int32) (l : Int32) (i : Int32) (p0 : 0 ≤ k) (p1 : k ≤ 3) (d : Nat) : uk_Meth G (d + 2) mX3_faultAs [.ref (uk_ad G 49), .int k, .int l, .int i] u (qe_X3_faultAs u k l i) := by
  refine uk_Meth.of hs (by decide) (Nat.le_of_ble_eq_true rfl) (fun X => ?_)
  refine g_aload_n dX3_faultAs_0 rfl ?_
  refine g_iload_n dX3_faultAs_1 rfl ?_
  refine cl_X3_23 (c := 49) (As := [.int k]) rfl (x_X3_isNothing (G := G) hs hu  k (by first | trivial | decide | lia | grind) (by first | trivial | decide | lia | grind) (d + 1)) rfl (by omega) rfl rfl (Nat.le_of_ble_eq_true rfl) dX3_faultAs_2 (fun r1 u2 q3 => ?_)
  obtain ⟨q3, Eq3⟩ := q3
  obtain ⟨⟨x4, rfl, tx4, nx4, zx4⟩, mq3⟩ := q3
  rw [mq3]
  have ex4 : x4 = (e_X3_isNothing u k) := ee_v Eq3
  refine g_if_ne (tgt := 18) dX3_faultAs_5 (by decide) (fun c5 => ?_) (fun c5 => ?_)
  · have zc5 := nx4 c5
    refine g_aload_n dX3_faultAs_18 rfl ?_
    refine g_iload_n dX3_faultAs_19 rfl ?_
    refine g_iload_n dX3_faultAs_20 rfl ?_
    refine cl_X3_27 (c := 49) (As := [.int k, .int i]) rfl (x_X3_faultAt (G := G) hs hu  k i (by first | trivial | decide | lia | grind) (by first | trivial | decide | lia | grind) (d)) rfl (by omega) rfl rfl (Nat.le_of_ble_eq_true rfl) dX3_faultAs_21 (fun r6 u7 q8 => ?_)
    obtain ⟨q8, Eq8⟩ := q8
    obtain ⟨⟨x9, rfl, tx9⟩, mq8⟩ := q8
    rw [mq8]
    have ex9 : x9 = (e_X3_faultAt u k i) := ee_v Eq8
    refine g_goto (tgt := 28) dX3_faultAs_24 (by decide) ?_
    exact g_iret (ty := .int) dX3_faultAs_28 rfl rfl ⟨⟨⟨_, rfl, by first | trivial | lia | grind⟩, rfl⟩, ee_p (by subst ex9; subst ex4; exact (if_neg c5).trans (rfl))⟩
  · have zc5 := zx4 c5
    refine g_aload_n dX3_faultAs_8 rfl ?_
    refine f_X3_11 rfl rfl dX3_faultAs_9 ?_
    refine g_iload_n dX3_faultAs_12 rfl ?_
    have v10 : vp_in k 4 := uk_vin 4 rfl (by first | decide | lia | grind) (by first | decide | lia | grind)
    refine g_iald rfl rfl v10 dX3_faultAs_13 ?_
    refine g_topi (fun x11 ex11 => ?_)
    refine g_iload_n dX3_faultAs_14 rfl ?_
    refine g_icmp_ne (tgt := 27) dX3_faultAs_15 (by decide) (fun c12 => ?_) (fun c12 => ?_)
    · refine g_iconst (v := 3) dX3_faultAs_27 (by decide) ?_
      exact g_iret (ty := .int) dX3_faultAs_28 rfl rfl ⟨⟨⟨_, rfl, by first | trivial | lia | grind⟩, rfl⟩, ee_p (by subst ex11; subst ex4; exact (if_pos c5).trans ((if_neg c12).trans (rfl)))⟩
    · refine g_aload_n dX3_faultAs_18 rfl ?_
      refine g_iload_n dX3_faultAs_19 rfl ?_
      refine g_iload_n dX3_faultAs_20 rfl ?_
      refine cl_X3_27 (c := 49) (As := [.int k, .int i]) rfl (x_X3_faultAt (G := G) hs hu  k i (by first | trivial | decide | lia | grind) (by first | trivial | decide | lia | grind) (d)) rfl (by omega) rfl rfl (Nat.le_of_ble_eq_true rfl) dX3_faultAs_21 (fun r13 u14 q15 => ?_)
      obtain ⟨q15, Eq15⟩ := q15
      obtain ⟨⟨x16, rfl, tx16⟩, mq15⟩ := q15
      rw [mq15]
      have ex16 : x16 = (e_X3_faultAt u k i) := ee_v Eq15
      refine g_goto (tgt := 28) dX3_faultAs_24 (by decide) ?_
      exact g_iret (ty := .int) dX3_faultAs_28 rfl rfl ⟨⟨⟨_, rfl, by first | trivial | lia | grind⟩, rfl⟩, ee_p (by subst ex16; subst ex11; subst ex4; exact (if_pos c5).trans ((if_pos c12).trans (rfl)))⟩
def l_X3_renew_17 (k : Int32) : Nat → Int32 → uk_Mem → uk_Mem
  | 0, _, u9 => u9
  | K9 + 1, i8, u9 => if (40 : Int32) ≤ i8 then (u9) else (let u15 : uk_Mem := uk_up u9 (52 + 1 + (k).toNatClampNeg) i8.toNatClampNeg (0 : Int32); l_X3_renew_17 k K9 (i8 + 1) u15)
def e_X3_renew (u : uk_Mem) (k : Int32) (l : Int32) (n : Int32) : uk_Mem := let u3 : uk_Mem := uk_up u 50 k.toNatClampNeg l; let u6 : uk_Mem := uk_up u3 51 k.toNatClampNeg n; l_X3_renew_17 k ee_K (0 : Int32) u6
abbrev qe_X3_renew (u : uk_Mem) (k : Int32) (l : Int32) (n : Int32) (r : Option Value) (u' : uk_Mem) : Prop := (q_X3_renew u k l n r u') ∧ (u' = e_X3_renew u k l n)
set_option maxHeartbeats 4000000 in
set_option maxRecDepth 20000 in
theorem x_X3_renew {G : uk_D} (hs : uk_Sep G) {u : uk_Mem} (hu : iv u) (k : Int32) (l : Int32) (n : Int32) (p0 : 0 ≤ k) (p1 : k ≤ 3) (p2 : 0 ≤ n) (p3 : n ≤ 40) (d : Nat) : uk_Meth G d mX3_renew [.ref (uk_ad G 49), .int k, .int l, .int n] u (qe_X3_renew u k l n) := by
  refine uk_Meth.of hs (by decide) (Nat.le_of_ble_eq_true rfl) (fun X => ?_)
  have f0 : fr 49 57 u u := fr_rf
  refine g_aload_n dX3_renew_0 rfl ?_
  refine f_X3_11 rfl rfl dX3_renew_1 ?_
  refine g_iload_n dX3_renew_4 rfl ?_
  refine g_iload_n dX3_renew_5 rfl ?_
  have v1 : vp_in k 4 := uk_vin 4 rfl (by first | decide | lia | grind) (by first | decide | lia | grind)
  have b2 := uk_cl v1
  refine g_iast rfl rfl v1 dX3_renew_6 ?_
  refine g_mem (fun u3 eu3 => ?_)
  have hu3 : iv u3 := by rw [eu3]; exact iv_upF hu (uk_pick1 _ (by omega))
  have fu3 : fr 49 57 u u3 := by rw [eu3]; exact fr_up f0 (by omega) (by omega)
  refine g_aload_n dX3_renew_7 rfl ?_
  refine f_X3_15 rfl rfl dX3_renew_8 ?_
  refine g_iload_n dX3_renew_11 rfl ?_
  refine g_iload_n dX3_renew_12 rfl ?_
  have v4 : vp_in k 4 := uk_vin 4 rfl (by first | decide | lia | grind) (by first | decide | lia | grind)
  have b5 := uk_cl v4
  refine g_iast rfl rfl v4 dX3_renew_13 ?_
  refine g_mem (fun u6 eu6 => ?_)
  have hu6 : iv u6 := by rw [eu6]; exact iv_up hu3 (uk_pick1 _ (by omega)) (by first | lia | grind) (by first | lia | grind)
  have fu6 : fr 49 57 u u6 := by rw [eu6]; exact fr_up fu3 (by omega) (by omega)
  refine g_iconst (v := 0) dX3_renew_14 (by decide) ?_
  refine g_istore dX3_renew_15 (by decide) ?_
  refine g_pick (lv' := [(0, .ref (uk_ad G 49)), (1, .int k), (2, .int l), (3, .int n), (4, .int 0)]) [0, 1, 2, 3, 4] rfl ?_
  have L17_6 : ∀ i8 : Int32, 0 ≤ i8 → i8 ≤ 40 → ∀ (u9 : uk_Mem), iv u9 → fr 49 57 u u9 → (∃ ki8 : Nat, ee_F 40 i8 ki8 ∧ e_X3_renew u k l n = l_X3_renew_17 k ki8 i8 u9) → uk_G G X mX3_renew d (qe_X3_renew u k l n) 17 [(0, .ref (uk_ad G 49)), (1, .int k), (2, .int l), (3, .int n), (4, .int i8)] [] u9 := by
    refine uk_upl 40 ?_
    intro i8 ai8 bi8 ihi8  u9 hu9 fu9 jEi8
    obtain ⟨ki8, fki8, hki8⟩ := jEi8
    obtain ⟨ki8, rfl⟩ := ee_Fp (by first | assumption | lia | grind) fki8
    refine g_iload dX3_renew_17 rfl ?_
    refine g_bipush (v := 40) dX3_renew_19 (by decide) ?_
    refine g_icmp_ge (tgt := 40) dX3_renew_21 (by decide) (fun c10 => ?_) (fun c10 => ?_)
    · exact g_vret dX3_renew_40 rfl ⟨⟨rfl, hu9, fu9⟩, (by exact hki8.trans ((if_pos c10).trans (rfl)) : e_X3_renew u k l n = u9).symm⟩
    · refine g_aload_n dX3_renew_24 rfl ?_
      refine f_X3_20 rfl rfl dX3_renew_25 ?_
      refine g_iload_n dX3_renew_28 rfl ?_
      have v11 : vp_in k 4 := uk_vin 4 rfl (by first | decide | lia | grind) (by first | decide | lia | grind)
      refine g_aald rfl rfl v11 dX3_renew_29 ?_
      have b12 := uk_cl v11
      refine g_iload dX3_renew_30 rfl ?_
      refine g_iconst (v := 0) dX3_renew_32 (by decide) ?_
      have v13 : vp_in i8 40 := uk_vin 40 rfl (by first | decide | lia | grind) (by first | decide | lia | grind)
      have b14 := uk_cl v13
      refine g_iast (ks_kind b12) (ks_len b12) v13 dX3_renew_33 ?_
      refine g_mem (fun u15 eu15 => ?_)
      have hu15 : iv u15 := by rw [eu15]; exact iv_upF hu9 (ks_rg b12 _ (by omega))
      have fu15 : fr 49 57 u u15 := by rw [eu15]; exact fr_up fu9 (by omega) (by omega)
      refine g_iinc (v := i8 + 1) dX3_renew_34 rfl rfl (by decide) ?_
      refine g_pick (lv' := [(0, .ref (uk_ad G 49)), (1, .int k), (2, .int l), (3, .int n), (4, .int (i8 + 1))]) [0, 1, 2, 3, 4] rfl ?_
      refine g_goto (tgt := 17) dX3_renew_37 (by decide) ?_
      refine g_pick (lv' := [(0, .ref (uk_ad G 49)), (1, .int k), (2, .int l), (3, .int n), (4, .int (i8 + 1))]) [0, 1, 2, 3, 4] rfl ?_
      exact ihi8 (by first | lia | grind)  u15 hu15 fu15  ⟨ki8, ee_Fs fki8 (by first | assumption | lia | grind), by subst eu15; exact hki8.trans ((if_neg c10).trans (rfl))⟩
  refine g_pick (lv' := [(0, .ref (uk_ad G 49)), (1, .int k), (2, .int l), (3, .int n), (4, .int 0)]) [0, 1, 2, 3, 4] rfl ?_
  exact L17_6 0 (by first | decide | lia | grind) (by first | decide | lia | grind)  u6 hu6 fu6  ⟨ee_K, ee_F0 _ _, by subst eu6; subst eu3; exact rfl⟩
def e_X3_put (u : uk_Mem) (k : Int32) (i : Int32) (v : Int32) : uk_Mem := let x2 : Int32 := u.1 50 k.toNatClampNeg; if x2 = 0 then (let x6 : Int32 := v.toInt8.toInt32; let u9 : uk_Mem := uk_up u (52 + 1 + (k).toNatClampNeg) i.toNatClampNeg x6; u9) else (if x2 = 1 then (let x13 : Int32 := v.toInt16.toInt32; let u16 : uk_Mem := uk_up u (52 + 1 + (k).toNatClampNeg) i.toNatClampNeg x13; u16) else (let u21 : uk_Mem := uk_up u (52 + 1 + (k).toNatClampNeg) i.toNatClampNeg v; u21))
abbrev qe_X3_put (u : uk_Mem) (k : Int32) (i : Int32) (v : Int32) (r : Option Value) (u' : uk_Mem) : Prop := (q_X3_put u k i v r u') ∧ (u' = e_X3_put u k i v)
set_option maxHeartbeats 4000000 in
set_option maxRecDepth 20000 in
theorem x_X3_put {G : uk_D} (hs : uk_Sep G) {u : uk_Mem} (hu : iv u) (k : Int32) (i : Int32) (v : Int32) (p0 : 0 ≤ k) (p1 : k ≤ 3) (p2 : 0 ≤ i) (p3 : i < 40) (d : Nat) : uk_Meth G d mX3_put [.ref (uk_ad G 49), .int k, .int i, .int v] u (qe_X3_put u k i v) := by
  refine uk_Meth.of hs (by decide) (Nat.le_of_ble_eq_true rfl) (fun X => ?_)
  have f0 : fr 49 57 u u := fr_rf
  refine g_aload_n dX3_put_0 rfl ?_
  refine f_X3_11 rfl rfl dX3_put_1 ?_
  refine g_iload_n dX3_put_4 rfl ?_
  have v1 : vp_in k 4 := uk_vin 4 rfl (by first | decide | lia | grind) (by first | decide | lia | grind)
  refine g_iald rfl rfl v1 dX3_put_5 ?_
  refine g_topi (fun x2 ex2 => ?_)
  by_cases c3 : x2 = 0
  · refine g_lookup (off := 26) (tgt := 32) dX3_put_6 (by decide) (by rw [c3]; rfl) (by decide) ?_
    refine g_aload_n dX3_put_32 rfl ?_
    refine f_X3_20 rfl rfl dX3_put_33 ?_
    refine g_iload_n dX3_put_36 rfl ?_
    have v4 : vp_in k 4 := uk_vin 4 rfl (by first | decide | lia | grind) (by first | decide | lia | grind)
    refine g_aald rfl rfl v4 dX3_put_37 ?_
    have b5 := uk_cl v4
    refine g_iload_n dX3_put_38 rfl ?_
    refine g_iload_n dX3_put_39 rfl ?_
    refine g_i2b dX3_put_40 ?_
    refine g_topi (fun x6 ex6 => ?_)
    have v7 : vp_in i 40 := uk_vin 40 rfl (by first | decide | lia | grind) (by first | decide | lia | grind)
    have b8 := uk_cl v7
    refine g_iast (ks_kind b5) (ks_len b5) v7 dX3_put_41 ?_
    refine g_mem (fun u9 eu9 => ?_)
    have hu9 : iv u9 := by rw [eu9]; exact iv_upF hu (ks_rg b5 _ (by omega))
    have fu9 : fr 49 57 u u9 := by rw [eu9]; exact fr_up f0 (by omega) (by omega)
    refine g_goto (tgt := 67) dX3_put_42 (by decide) ?_
    exact g_vret dX3_put_67 rfl ⟨⟨rfl, hu9, fu9⟩, (by subst eu9; subst ex6; subst ex2; exact (if_pos c3).trans (rfl) : e_X3_put u k i v = u9).symm⟩
  by_cases c10 : x2 = 1
  · refine g_lookup (off := 39) (tgt := 45) dX3_put_6 (by decide) (by rw [c10]; rfl) (by decide) ?_
    refine g_aload_n dX3_put_45 rfl ?_
    refine f_X3_20 rfl rfl dX3_put_46 ?_
    refine g_iload_n dX3_put_49 rfl ?_
    have v11 : vp_in k 4 := uk_vin 4 rfl (by first | decide | lia | grind) (by first | decide | lia | grind)
    refine g_aald rfl rfl v11 dX3_put_50 ?_
    have b12 := uk_cl v11
    refine g_iload_n dX3_put_51 rfl ?_
    refine g_iload_n dX3_put_52 rfl ?_
    refine g_i2s dX3_put_53 ?_
    refine g_topi (fun x13 ex13 => ?_)
    have v14 : vp_in i 40 := uk_vin 40 rfl (by first | decide | lia | grind) (by first | decide | lia | grind)
    have b15 := uk_cl v14
    refine g_iast (ks_kind b12) (ks_len b12) v14 dX3_put_54 ?_
    refine g_mem (fun u16 eu16 => ?_)
    have hu16 : iv u16 := by rw [eu16]; exact iv_upF hu (ks_rg b12 _ (by omega))
    have fu16 : fr 49 57 u u16 := by rw [eu16]; exact fr_up f0 (by omega) (by omega)
    refine g_goto (tgt := 67) dX3_put_55 (by decide) ?_
    exact g_vret dX3_put_67 rfl ⟨⟨rfl, hu16, fu16⟩, (by subst eu16; subst ex13; subst ex2; exact (if_neg c3).trans ((if_pos c10).trans (rfl)) : e_X3_put u k i v = u16).symm⟩
  refine g_lookup (off := 52) (tgt := 58) dX3_put_6 (by decide) (by show Op.lookupswitch.offset [(0, 26), (1, 39)] 52 _ = _; rw [lv_osw (k := 0) (a := 0) c3 rfl]; rw [lv_osw (k := 1) (a := 1) c10 rfl]; rfl) (by decide) ?_
  refine g_aload_n dX3_put_58 rfl ?_
  refine f_X3_20 rfl rfl dX3_put_59 ?_
  refine g_iload_n dX3_put_62 rfl ?_
  have v17 : vp_in k 4 := uk_vin 4 rfl (by first | decide | lia | grind) (by first | decide | lia | grind)
  refine g_aald rfl rfl v17 dX3_put_63 ?_
  have b18 := uk_cl v17
  refine g_iload_n dX3_put_64 rfl ?_
  refine g_iload_n dX3_put_65 rfl ?_
  have v19 : vp_in i 40 := uk_vin 40 rfl (by first | decide | lia | grind) (by first | decide | lia | grind)
  have b20 := uk_cl v19
  refine g_iast (ks_kind b18) (ks_len b18) v19 dX3_put_66 ?_
  refine g_mem (fun u21 eu21 => ?_)
  have hu21 : iv u21 := by rw [eu21]; exact iv_upF hu (ks_rg b18 _ (by omega))
  have fu21 : fr 49 57 u u21 := by rw [eu21]; exact fr_up f0 (by omega) (by omega)
  exact g_vret dX3_put_67 rfl ⟨⟨rfl, hu21, fu21⟩, (by subst eu21; subst ex2; exact (if_neg c3).trans ((if_neg c10).trans (rfl)) : e_X3_put u k i v = u21).symm⟩
def e_X6_isDigit (u : uk_Mem) (v : Int32) : Int32 := if v < 0 then ((0 : Int32)) else (if (9 : Int32) < v then ((0 : Int32)) else ((1 : Int32)))
abbrev qe_X6_isDigit (u : uk_Mem) (v : Int32) (r : Option Value) (u' : uk_Mem) : Prop := (q_X6_isDigit u v r u') ∧ (r = some (.int (e_X6_isDigit u v)))
set_option maxHeartbeats 4000000 in
set_option maxRecDepth 20000 in
theorem x_X6_isDigit {G : uk_D} (hs : uk_Sep G) {u : uk_Mem} (hu : iv u) (v : Int32) (d : Nat) : uk_Meth G d mX6_isDigit [.int v] u (qe_X6_isDigit u v) := by
  refine uk_Meth.of hs (by decide) (Nat.le_of_ble_eq_true rfl) (fun X => ?_)
  refine g_iload_n dX6_isDigit_0 rfl ?_
  refine g_if_lt (tgt := 14) dX6_isDigit_1 (by decide) (fun c1 => ?_) (fun c1 => ?_)
  · refine g_iconst (v := 0) dX6_isDigit_14 (by decide) ?_
    exact g_iret (ty := .boolean) dX6_isDigit_15 rfl rfl ⟨⟨⟨0, rfl, Or.inl rfl, fun q => absurd rfl q, fun _ => by first | trivial | lia | grind⟩, rfl⟩, ee_p (by exact (if_pos c1).trans (rfl))⟩
  · refine g_iload_n dX6_isDigit_4 rfl ?_
    refine g_bipush (v := 9) dX6_isDigit_5 (by decide) ?_
    refine g_icmp_gt (tgt := 14) dX6_isDigit_7 (by decide) (fun c2 => ?_) (fun c2 => ?_)
    · refine g_iconst (v := 0) dX6_isDigit_14 (by decide) ?_
      exact g_iret (ty := .boolean) dX6_isDigit_15 rfl rfl ⟨⟨⟨0, rfl, Or.inl rfl, fun q => absurd rfl q, fun _ => by first | trivial | lia | grind⟩, rfl⟩, ee_p (by exact (if_neg c1).trans ((if_pos c2).trans (rfl)))⟩
    · refine g_iconst (v := 1) dX6_isDigit_10 (by decide) ?_
      refine g_goto (tgt := 15) dX6_isDigit_11 (by decide) ?_
      exact g_iret (ty := .boolean) dX6_isDigit_15 rfl rfl ⟨⟨⟨1, rfl, Or.inr rfl, fun _ => by first | trivial | lia | grind, fun q => absurd q (by decide)⟩, rfl⟩, ee_p (by exact (if_neg c1).trans ((if_neg c2).trans (rfl)))⟩
def e_X6_isFlag (u : uk_Mem) (w : Int32) : Int32 := if w = 0 then ((1 : Int32)) else (if w = (1 : Int32) then ((1 : Int32)) else ((0 : Int32)))
abbrev qe_X6_isFlag (u : uk_Mem) (w : Int32) (r : Option Value) (u' : uk_Mem) : Prop := (q_X6_isFlag u w r u') ∧ (r = some (.int (e_X6_isFlag u w)))
set_option maxHeartbeats 4000000 in
set_option maxRecDepth 20000 in
theorem x_X6_isFlag {G : uk_D} (hs : uk_Sep G) {u : uk_Mem} (hu : iv u) (w : Int32) (d : Nat) : uk_Meth G d mX6_isFlag [.int w] u (qe_X6_isFlag u w) := by
  refine uk_Meth.of hs (by decide) (Nat.le_of_ble_eq_true rfl) (fun X => ?_)
  refine g_iload_n dX6_isFlag_0 rfl ?_
  refine g_if_eq (tgt := 9) dX6_isFlag_1 (by decide) (fun c1 => ?_) (fun c1 => ?_)
  · refine g_iconst (v := 1) dX6_isFlag_9 (by decide) ?_
    refine g_goto (tgt := 14) dX6_isFlag_10 (by decide) ?_
    exact g_iret (ty := .boolean) dX6_isFlag_14 rfl rfl ⟨⟨⟨1, rfl, Or.inr rfl, fun _ => by first | trivial | lia | grind, fun q => absurd q (by decide)⟩, rfl⟩, ee_p (by exact (if_pos c1).trans (rfl))⟩
  · refine g_iload_n dX6_isFlag_4 rfl ?_
    refine g_iconst (v := 1) dX6_isFlag_5 (by decide) ?_
    refine g_icmp_ne (tgt := 13) dX6_isFlag_6 (by decide) (fun c2 => ?_) (fun c2 => ?_)
    · refine g_iconst (v := 0) dX6_isFlag_13 (by decide) ?_
      exact g_iret (ty := .boolean) dX6_isFlag_14 rfl rfl ⟨⟨⟨0, rfl, Or.inl rfl, fun q => absurd rfl q, fun _ => by first | trivial | lia | grind⟩, rfl⟩, ee_p (by exact (if_neg c1).trans ((if_neg c2).trans (rfl)))⟩
    · refine g_iconst (v := 1) dX6_isFlag_9 (by decide) ?_
      refine g_goto (tgt := 14) dX6_isFlag_10 (by decide) ?_
      exact g_iret (ty := .boolean) dX6_isFlag_14 rfl rfl ⟨⟨⟨1, rfl, Or.inr rfl, fun _ => by first | trivial | lia | grind, fun q => absurd q (by decide)⟩, rfl⟩, ee_p (by exact (if_neg c1).trans ((if_pos c2).trans (rfl)))⟩
def e_X6_isImage (u : uk_Mem) (k : Int32) : Int32 := if k < 0 then ((0 : Int32)) else (if (2 : Int32) ≤ k then ((0 : Int32)) else ((1 : Int32)))
abbrev qe_X6_isImage (u : uk_Mem) (k : Int32) (r : Option Value) (u' : uk_Mem) : Prop := (q_X6_isImage u k r u') ∧ (r = some (.int (e_X6_isImage u k)))
set_option maxHeartbeats 4000000 in
set_option maxRecDepth 20000 in
theorem x_X6_isImage {G : uk_D} (hs : uk_Sep G) {u : uk_Mem} (hu : iv u) (k : Int32) (d : Nat) : uk_Meth G d mX6_isImage [.int k] u (qe_X6_isImage u k) := by
  refine uk_Meth.of hs (by decide) (Nat.le_of_ble_eq_true rfl) (fun X => ?_)
  refine g_iload_n dX6_isImage_0 rfl ?_
  refine g_if_lt (tgt := 13) dX6_isImage_1 (by decide) (fun c1 => ?_) (fun c1 => ?_)
  · refine g_iconst (v := 0) dX6_isImage_13 (by decide) ?_
    exact g_iret (ty := .boolean) dX6_isImage_14 rfl rfl ⟨⟨⟨0, rfl, Or.inl rfl, fun q => absurd rfl q, fun _ => by first | trivial | lia | grind⟩, rfl⟩, ee_p (by exact (if_pos c1).trans (rfl))⟩
  · refine g_iload_n dX6_isImage_4 rfl ?_
    refine g_iconst (v := 2) dX6_isImage_5 (by decide) ?_
    refine g_icmp_ge (tgt := 13) dX6_isImage_6 (by decide) (fun c2 => ?_) (fun c2 => ?_)
    · refine g_iconst (v := 0) dX6_isImage_13 (by decide) ?_
      exact g_iret (ty := .boolean) dX6_isImage_14 rfl rfl ⟨⟨⟨0, rfl, Or.inl rfl, fun q => absurd rfl q, fun _ => by first | trivial | lia | grind⟩, rfl⟩, ee_p (by exact (if_neg c1).trans ((if_pos c2).trans (rfl)))⟩
    · refine g_iconst (v := 1) dX6_isImage_9 (by decide) ?_
      refine g_goto (tgt := 14) dX6_isImage_10 (by decide) ?_
      exact g_iret (ty := .boolean) dX6_isImage_14 rfl rfl ⟨⟨⟨1, rfl, Or.inr rfl, fun _ => by first | trivial | lia | grind, fun q => absurd q (by decide)⟩, rfl⟩, ee_p (by exact (if_neg c1).trans ((if_neg c2).trans (rfl)))⟩
def e_X6_isSheet (u : uk_Mem) (k : Int32) : Int32 := if k < 0 then ((0 : Int32)) else (if (4 : Int32) ≤ k then ((0 : Int32)) else ((1 : Int32)))
abbrev qe_X6_isSheet (u : uk_Mem) (k : Int32) (r : Option Value) (u' : uk_Mem) : Prop := (q_X6_isSheet u k r u') ∧ (r = some (.int (e_X6_isSheet u k)))
set_option maxHeartbeats 4000000 in
set_option maxRecDepth 20000 in
theorem x_X6_isSheet {G : uk_D} (hs : uk_Sep G) {u : uk_Mem} (hu : iv u) (k : Int32) (d : Nat) : uk_Meth G d mX6_isSheet [.int k] u (qe_X6_isSheet u k) := by
  refine uk_Meth.of hs (by decide) (Nat.le_of_ble_eq_true rfl) (fun X => ?_)
  refine g_iload_n dX6_isSheet_0 rfl ?_
  refine g_if_lt (tgt := 13) dX6_isSheet_1 (by decide) (fun c1 => ?_) (fun c1 => ?_)
  · refine g_iconst (v := 0) dX6_isSheet_13 (by decide) ?_
    exact g_iret (ty := .boolean) dX6_isSheet_14 rfl rfl ⟨⟨⟨0, rfl, Or.inl rfl, fun q => absurd rfl q, fun _ => by first | trivial | lia | grind⟩, rfl⟩, ee_p (by exact (if_pos c1).trans (rfl))⟩
  · refine g_iload_n dX6_isSheet_4 rfl ?_
    refine g_iconst (v := 4) dX6_isSheet_5 (by decide) ?_
    refine g_icmp_ge (tgt := 13) dX6_isSheet_6 (by decide) (fun c2 => ?_) (fun c2 => ?_)
    · refine g_iconst (v := 0) dX6_isSheet_13 (by decide) ?_
      exact g_iret (ty := .boolean) dX6_isSheet_14 rfl rfl ⟨⟨⟨0, rfl, Or.inl rfl, fun q => absurd rfl q, fun _ => by first | trivial | lia | grind⟩, rfl⟩, ee_p (by exact (if_neg c1).trans ((if_pos c2).trans (rfl)))⟩
    · refine g_iconst (v := 1) dX6_isSheet_9 (by decide) ?_
      refine g_goto (tgt := 14) dX6_isSheet_10 (by decide) ?_
      exact g_iret (ty := .boolean) dX6_isSheet_14 rfl rfl ⟨⟨⟨1, rfl, Or.inr rfl, fun _ => by first | trivial | lia | grind, fun q => absurd q (by decide)⟩, rfl⟩, ee_p (by exact (if_neg c1).trans ((if_neg c2).trans (rfl)))⟩
def e_X6_isLane (u : uk_Mem) (l : Int32) : Int32 := if l < 0 then ((0 : Int32)) else (if (3 : Int32) ≤ l then ((0 : Int32)) else ((1 : Int32)))
abbrev qe_X6_isLane (u : uk_Mem) (l : Int32) (r : Option Value) (u' : uk_Mem) : Prop := (q_X6_isLane u l r u') ∧ (r = some (.int (e_X6_isLane u l)))
set_option maxHeartbeats 4000000 in
set_option maxRecDepth 20000 in
theorem x_X6_isLane {G : uk_D} (hs : uk_Sep G) {u : uk_Mem} (hu : iv u) (l : Int32) (d : Nat) : uk_Meth G d mX6_isLane [.int l] u (qe_X6_isLane u l) := by
  refine uk_Meth.of hs (by decide) (Nat.le_of_ble_eq_true rfl) (fun X => ?_)
  refine g_iload_n dX6_isLane_0 rfl ?_
  refine g_if_lt (tgt := 13) dX6_isLane_1 (by decide) (fun c1 => ?_) (fun c1 => ?_)
  · refine g_iconst (v := 0) dX6_isLane_13 (by decide) ?_
    exact g_iret (ty := .boolean) dX6_isLane_14 rfl rfl ⟨⟨⟨0, rfl, Or.inl rfl, fun q => absurd rfl q, fun _ => by first | trivial | lia | grind⟩, rfl⟩, ee_p (by exact (if_pos c1).trans (rfl))⟩
  · refine g_iload_n dX6_isLane_4 rfl ?_
    refine g_iconst (v := 3) dX6_isLane_5 (by decide) ?_
    refine g_icmp_ge (tgt := 13) dX6_isLane_6 (by decide) (fun c2 => ?_) (fun c2 => ?_)
    · refine g_iconst (v := 0) dX6_isLane_13 (by decide) ?_
      exact g_iret (ty := .boolean) dX6_isLane_14 rfl rfl ⟨⟨⟨0, rfl, Or.inl rfl, fun q => absurd rfl q, fun _ => by first | trivial | lia | grind⟩, rfl⟩, ee_p (by exact (if_neg c1).trans ((if_pos c2).trans (rfl)))⟩
    · refine g_iconst (v := 1) dX6_isLane_9 (by decide) ?_
      refine g_goto (tgt := 14) dX6_isLane_10 (by decide) ?_
      exact g_iret (ty := .boolean) dX6_isLane_14 rfl rfl ⟨⟨⟨1, rfl, Or.inr rfl, fun _ => by first | trivial | lia | grind, fun q => absurd q (by decide)⟩, rfl⟩, ee_p (by exact (if_neg c1).trans ((if_neg c2).trans (rfl)))⟩
abbrev q_X6_imageOf_e (G : uk_D) (u : uk_Mem) (k : Int32) (r : Option Value) (u' : uk_Mem) : Prop := (∃ x : Nat, r = some (.ref (uk_ad G x)) ∧ ((x = 22 ∨ x = 31) ∧ x = if k = 0 then 22 else 31)) ∧ (u' = u)
set_option maxHeartbeats 4000000 in
set_option maxRecDepth 20000 in
theorem c_X6_imageOf_e {G : uk_D} (hs : uk_Sep G) {u : uk_Mem} (hu : iv u) (k : Int32) (d : Nat) : uk_Meth G d mX6_imageOf [.ref (uk_ad G 0), .int k] u (q_X6_imageOf_e G u k) := by
  refine uk_Meth.of hs (by decide) (Nat.le_of_ble_eq_true rfl) (fun X => ?_)
  refine g_iload_n dX6_imageOf_0 rfl ?_
  refine g_if_ne (tgt := 11) dX6_imageOf_1 (by decide) (fun c1 => ?_) (fun c1 => ?_)
  · refine g_aload_n dX6_imageOf_11 rfl ?_
    refine f_X6_38 rfl rfl dX6_imageOf_12 ?_
    exact g_aret (n := "UncookMill$Kitchen") dX6_imageOf_15 rfl ⟨⟨_, rfl, by first | trivial | decide | grind⟩, rfl⟩
  · refine g_aload_n dX6_imageOf_4 rfl ?_
    refine f_X6_35 rfl rfl dX6_imageOf_5 ?_
    refine g_goto (tgt := 15) dX6_imageOf_8 (by decide) ?_
    exact g_aret (n := "UncookMill$Kitchen") dX6_imageOf_15 rfl ⟨⟨_, rfl, by first | trivial | decide | grind⟩, rfl⟩
def e_X6_rule (u : uk_Mem) (w : Int32) : Int32 := if w = 0 then (let x2 : Int32 := u.1 13 0; x2) else (if w = 1 then (let x5 : Int32 := u.1 13 10; x5) else (if w = 2 then (let x8 : Int32 := u.1 13 11; x8) else (if w = 3 then (let x14 : Int32 := (e_X0_rawBits u 13); x14) else (if w = 4 then (let x19 : Int32 := (e_X0_thereBits u 13); x19) else ((-1 : Int32))))))
abbrev qe_X6_rule (u : uk_Mem) (w : Int32) (r : Option Value) (u' : uk_Mem) : Prop := (q_X6_rule u w r u') ∧ (r = some (.int (e_X6_rule u w)))
set_option maxHeartbeats 4000000 in
set_option maxRecDepth 20000 in
theorem x_X6_rule {G : uk_D} (hs : uk_Sep G) {u : uk_Mem} (hu : iv u) (w : Int32) (d : Nat) : uk_Meth G (d + 2) mX6_rule [.ref (uk_ad G 0), .int w] u (qe_X6_rule u w) := by
  refine uk_Meth.of hs (by decide) (Nat.le_of_ble_eq_true rfl) (fun X => ?_)
  refine g_iload_n dX6_rule_0 rfl ?_
  by_cases c1 : w = 0
  · refine g_tabIn (off := (35)) (tgt := 36) dX6_rule_1 (by rw [c1]; decide) (by rw [c1]; decide) (by rw [c1]; rfl) (by decide) ?_
    refine g_aload_n dX6_rule_36 rfl ?_
    refine f_X6_10 rfl rfl dX6_rule_37 ?_
    refine f_X6_105 rfl rfl dX6_rule_40 ?_
    refine g_topi (fun x2 ex2 => ?_)
    have rx2 : 0 ≤ x2 ∧ x2 ≤ 8 := by rw [ex2]; exact iv_at hu _ _ rfl
    have s3 : u.1 13 0 = x2 := ex2.symm
    exact g_iret (ty := .int) dX6_rule_43 rfl rfl ⟨⟨⟨_, rfl, by first | trivial | lia | grind⟩, rfl⟩, ee_p (by subst ex2; exact (if_pos c1).trans (rfl))⟩
  by_cases c4 : w = 1
  · refine g_tabIn (off := (43)) (tgt := 44) dX6_rule_1 (by rw [c4]; decide) (by rw [c4]; decide) (by rw [c4]; rfl) (by decide) ?_
    refine g_aload_n dX6_rule_44 rfl ?_
    refine f_X6_10 rfl rfl dX6_rule_45 ?_
    refine f_X6_106 rfl rfl dX6_rule_48 ?_
    refine g_topi (fun x5 ex5 => ?_)
    have s6 : u.1 13 10 = x5 := ex5.symm
    exact g_iret (ty := .int) dX6_rule_51 rfl rfl ⟨⟨⟨_, rfl, by first | trivial | lia | grind⟩, rfl⟩, ee_p (by subst ex5; exact (if_neg c1).trans ((if_pos c4).trans (rfl)))⟩
  by_cases c7 : w = 2
  · refine g_tabIn (off := (51)) (tgt := 52) dX6_rule_1 (by rw [c7]; decide) (by rw [c7]; decide) (by rw [c7]; rfl) (by decide) ?_
    refine g_aload_n dX6_rule_52 rfl ?_
    refine f_X6_10 rfl rfl dX6_rule_53 ?_
    refine f_X6_109 rfl rfl dX6_rule_56 ?_
    refine g_topi (fun x8 ex8 => ?_)
    have s9 : u.1 13 11 = x8 := ex8.symm
    exact g_iret (ty := .int) dX6_rule_59 rfl rfl ⟨⟨⟨_, rfl, by first | trivial | lia | grind⟩, rfl⟩, ee_p (by subst ex8; exact (if_neg c1).trans ((if_neg c4).trans ((if_pos c7).trans (rfl))))⟩
  by_cases c10 : w = 3
  · refine g_tabIn (off := (59)) (tgt := 60) dX6_rule_1 (by rw [c10]; decide) (by rw [c10]; decide) (by rw [c10]; rfl) (by decide) ?_
    refine g_aload_n dX6_rule_60 rfl ?_
    refine f_X6_10 rfl rfl dX6_rule_61 ?_
    refine cl_X6_112 (c := 13) (As := []) rfl (x_X0_rawBits (G := G) hs hu uk_isK13   (d)) rfl (by omega) rfl rfl (Nat.le_of_ble_eq_true rfl) dX6_rule_64 (fun r11 u12 q13 => ?_)
    obtain ⟨q13, Eq13⟩ := q13
    obtain ⟨⟨x14, rfl, tx14⟩, mq13⟩ := q13
    rw [mq13]
    have ex14 : x14 = (e_X0_rawBits u 13) := ee_v Eq13
    exact g_iret (ty := .int) dX6_rule_67 rfl rfl ⟨⟨⟨_, rfl, by first | trivial | lia | grind⟩, rfl⟩, ee_p (by subst ex14; exact (if_neg c1).trans ((if_neg c4).trans ((if_neg c7).trans ((if_pos c10).trans (rfl)))))⟩
  by_cases c15 : w = 4
  · refine g_tabIn (off := (67)) (tgt := 68) dX6_rule_1 (by rw [c15]; decide) (by rw [c15]; decide) (by rw [c15]; rfl) (by decide) ?_
    refine g_aload_n dX6_rule_68 rfl ?_
    refine f_X6_10 rfl rfl dX6_rule_69 ?_
    refine cl_X6_115 (c := 13) (As := []) rfl (x_X0_thereBits (G := G) hs hu uk_isK13   (d + 1)) rfl (by omega) rfl rfl (Nat.le_of_ble_eq_true rfl) dX6_rule_72 (fun r16 u17 q18 => ?_)
    obtain ⟨q18, Eq18⟩ := q18
    obtain ⟨⟨x19, rfl, tx19⟩, mq18⟩ := q18
    rw [mq18]
    have ex19 : x19 = (e_X0_thereBits u 13) := ee_v Eq18
    exact g_iret (ty := .int) dX6_rule_75 rfl rfl ⟨⟨⟨_, rfl, by first | trivial | lia | grind⟩, rfl⟩, ee_p (by subst ex19; exact (if_neg c1).trans ((if_neg c4).trans ((if_neg c7).trans ((if_neg c10).trans ((if_pos c15).trans (rfl))))))⟩
  refine g_tabOut (tgt := 76) dX6_rule_1 (uk_swo 0 4 rfl rfl (by first | lia | grind)) (by decide) ?_
  refine g_iconst (v := (-1)) dX6_rule_76 (by decide) ?_
  exact g_iret (ty := .int) dX6_rule_77 rfl rfl ⟨⟨⟨_, rfl, by first | trivial | lia | grind⟩, rfl⟩, ee_p (by exact (if_neg c1).trans ((if_neg c4).trans ((if_neg c7).trans ((if_neg c10).trans ((if_neg c15).trans (rfl))))))⟩
def e_X6_stuff (u : uk_Mem) (m : Int32) (w : Int32) : Int32 := let x4 : Int32 := (e_X0_hasStuff u 13 m); if x4 = 0 then ((-1 : Int32)) else (let x9 : Int32 := (e_X0_isMade u 13 m); if w = 0 then (let x12 : Int32 := u.1 14 m.toNatClampNeg; x12) else (if w = 1 then (if x9 = 0 then ((-4 : Int32)) else (let x16 : Int32 := u.1 15 m.toNatClampNeg; x16)) else (if w = 2 then (if x9 = 0 then ((-4 : Int32)) else (let x20 : Int32 := u.1 16 m.toNatClampNeg; x20)) else (if w = 3 then (let x23 : Int32 := u.1 17 m.toNatClampNeg; x23) else (if w = 4 then (if x9 = 0 then (let x27 : Int32 := u.1 18 m.toNatClampNeg; x27) else ((-4 : Int32))) else (if w = 5 then (let x30 : Int32 := u.1 20 m.toNatClampNeg; x30) else (if w = 6 then (let x33 : Int32 := u.1 19 m.toNatClampNeg; x33) else ((-1 : Int32)))))))))
abbrev qe_X6_stuff (u : uk_Mem) (m : Int32) (w : Int32) (r : Option Value) (u' : uk_Mem) : Prop := (q_X6_stuff u m w r u') ∧ (r = some (.int (e_X6_stuff u m w)))
set_option maxHeartbeats 4000000 in
set_option maxRecDepth 20000 in
theorem x_X6_stuff {G : uk_D} (hs : uk_Sep G) {u : uk_Mem} (hu : iv u) (m : Int32) (w : Int32) (d : Nat) : uk_Meth G (d + 1) mX6_stuff [.ref (uk_ad G 0), .int m, .int w] u (qe_X6_stuff u m w) := by
  refine uk_Meth.of hs (by decide) (Nat.le_of_ble_eq_true rfl) (fun X => ?_)
  refine g_aload_n dX6_stuff_0 rfl ?_
  refine f_X6_10 rfl rfl dX6_stuff_1 ?_
  refine g_iload_n dX6_stuff_4 rfl ?_
  refine cl_X6_118 (c := 13) (As := [.int m]) rfl (x_X0_hasStuff (G := G) hs hu uk_isK13 m  (d)) rfl (by omega) rfl rfl (Nat.le_of_ble_eq_true rfl) dX6_stuff_5 (fun r1 u2 q3 => ?_)
  obtain ⟨q3, Eq3⟩ := q3
  obtain ⟨⟨x4, rfl, tx4, nx4, zx4⟩, mq3⟩ := q3
  rw [mq3]
  have ex4 : x4 = (e_X0_hasStuff u 13 m) := ee_v Eq3
  refine g_if_ne (tgt := 13) dX6_stuff_8 (by decide) (fun c5 => ?_) (fun c5 => ?_)
  · have zc5 := nx4 c5
    refine g_aload_n dX6_stuff_13 rfl ?_
    refine f_X6_10 rfl rfl dX6_stuff_14 ?_
    refine g_iload_n dX6_stuff_17 rfl ?_
    refine cl_X6_122 (c := 13) (As := [.int m]) rfl (x_X0_isMade (G := G) hs hu uk_isK13 m (by first | trivial | decide | lia | grind) (by first | trivial | decide | lia | grind) (d)) rfl (by omega) rfl rfl (Nat.le_of_ble_eq_true rfl) dX6_stuff_18 (fun r6 u7 q8 => ?_)
    obtain ⟨q8, Eq8⟩ := q8
    obtain ⟨⟨x9, rfl, tx9, nx9, zx9⟩, mq8⟩ := q8
    rw [mq8]
    have ex9 : x9 = (e_X0_isMade u 13 m) := ee_v Eq8
    refine g_istore_n dX6_stuff_21 (by decide) ?_
    refine g_pick (lv' := [(0, .ref (uk_ad G 0)), (1, .int m), (2, .int w), (3, .int x9)]) [0, 1, 2, 3] rfl ?_
    refine g_iload_n dX6_stuff_22 rfl ?_
    by_cases c10 : w = 0
    · refine g_tabIn (off := (41)) (tgt := 64) dX6_stuff_23 (by rw [c10]; decide) (by rw [c10]; decide) (by rw [c10]; rfl) (by decide) ?_
      refine g_aload_n dX6_stuff_64 rfl ?_
      refine f_X6_10 rfl rfl dX6_stuff_65 ?_
      refine f_X6_125 rfl rfl dX6_stuff_68 ?_
      refine g_iload_n dX6_stuff_71 rfl ?_
      have v11 : vp_in m 8 := uk_vin 8 rfl (by first | decide | lia | grind) (by first | decide | lia | grind)
      refine g_iald rfl rfl v11 dX6_stuff_72 ?_
      refine g_topi (fun x12 ex12 => ?_)
      exact g_iret (ty := .int) dX6_stuff_73 rfl rfl ⟨⟨⟨_, rfl, by first | trivial | lia | grind⟩, rfl⟩, ee_p (by subst ex12; subst ex9; subst ex4; exact (if_neg c5).trans ((if_pos c10).trans (rfl)))⟩
    by_cases c13 : w = 1
    · refine g_tabIn (off := (51)) (tgt := 74) dX6_stuff_23 (by rw [c13]; decide) (by rw [c13]; decide) (by rw [c13]; rfl) (by decide) ?_
      refine g_iload_n dX6_stuff_74 rfl ?_
      refine g_if_eq (tgt := 90) dX6_stuff_75 (by decide) (fun c14 => ?_) (fun c14 => ?_)
      · have zc14 := zx9 c14
        refine g_bipush (v := (-4)) dX6_stuff_90 (by decide) ?_
        exact g_iret (ty := .int) dX6_stuff_92 rfl rfl ⟨⟨⟨_, rfl, by first | trivial | lia | grind⟩, rfl⟩, ee_p (by subst ex9; subst ex4; exact (if_neg c5).trans ((if_neg c10).trans ((if_pos c13).trans ((if_pos c14).trans (rfl)))))⟩
      · have zc14 := nx9 c14
        refine g_aload_n dX6_stuff_78 rfl ?_
        refine f_X6_10 rfl rfl dX6_stuff_79 ?_
        refine f_X6_128 rfl rfl dX6_stuff_82 ?_
        refine g_iload_n dX6_stuff_85 rfl ?_
        have v15 : vp_in m 8 := uk_vin 8 rfl (by first | decide | lia | grind) (by first | decide | lia | grind)
        refine g_iald rfl rfl v15 dX6_stuff_86 ?_
        refine g_topi (fun x16 ex16 => ?_)
        have bx16 := uk_cl v15
        have rx16 : 0 ≤ x16 ∧ x16 ≤ 7 := by rw [ex16]; exact iv_at hu _ _ (uk_pick1 _ (by omega))
        refine g_goto (tgt := 92) dX6_stuff_87 (by decide) ?_
        exact g_iret (ty := .int) dX6_stuff_92 rfl rfl ⟨⟨⟨_, rfl, by first | trivial | lia | grind⟩, rfl⟩, ee_p (by subst ex16; subst ex9; subst ex4; exact (if_neg c5).trans ((if_neg c10).trans ((if_pos c13).trans ((if_neg c14).trans (rfl)))))⟩
    by_cases c17 : w = 2
    · refine g_tabIn (off := (70)) (tgt := 93) dX6_stuff_23 (by rw [c17]; decide) (by rw [c17]; decide) (by rw [c17]; rfl) (by decide) ?_
      refine g_iload_n dX6_stuff_93 rfl ?_
      refine g_if_eq (tgt := 109) dX6_stuff_94 (by decide) (fun c18 => ?_) (fun c18 => ?_)
      · have zc18 := zx9 c18
        refine g_bipush (v := (-4)) dX6_stuff_109 (by decide) ?_
        exact g_iret (ty := .int) dX6_stuff_111 rfl rfl ⟨⟨⟨_, rfl, by first | trivial | lia | grind⟩, rfl⟩, ee_p (by subst ex9; subst ex4; exact (if_neg c5).trans ((if_neg c10).trans ((if_neg c13).trans ((if_pos c17).trans ((if_pos c18).trans (rfl))))))⟩
      · have zc18 := nx9 c18
        refine g_aload_n dX6_stuff_97 rfl ?_
        refine f_X6_10 rfl rfl dX6_stuff_98 ?_
        refine f_X6_131 rfl rfl dX6_stuff_101 ?_
        refine g_iload_n dX6_stuff_104 rfl ?_
        have v19 : vp_in m 8 := uk_vin 8 rfl (by first | decide | lia | grind) (by first | decide | lia | grind)
        refine g_iald rfl rfl v19 dX6_stuff_105 ?_
        refine g_topi (fun x20 ex20 => ?_)
        have bx20 := uk_cl v19
        have rx20 : 0 ≤ x20 ∧ x20 ≤ 7 := by rw [ex20]; exact iv_at hu _ _ (uk_pick1 _ (by omega))
        refine g_goto (tgt := 111) dX6_stuff_106 (by decide) ?_
        exact g_iret (ty := .int) dX6_stuff_111 rfl rfl ⟨⟨⟨_, rfl, by first | trivial | lia | grind⟩, rfl⟩, ee_p (by subst ex20; subst ex9; subst ex4; exact (if_neg c5).trans ((if_neg c10).trans ((if_neg c13).trans ((if_pos c17).trans ((if_neg c18).trans (rfl))))))⟩
    by_cases c21 : w = 3
    · refine g_tabIn (off := (89)) (tgt := 112) dX6_stuff_23 (by rw [c21]; decide) (by rw [c21]; decide) (by rw [c21]; rfl) (by decide) ?_
      refine g_aload_n dX6_stuff_112 rfl ?_
      refine f_X6_10 rfl rfl dX6_stuff_113 ?_
      refine f_X6_134 rfl rfl dX6_stuff_116 ?_
      refine g_iload_n dX6_stuff_119 rfl ?_
      have v22 : vp_in m 8 := uk_vin 8 rfl (by first | decide | lia | grind) (by first | decide | lia | grind)
      refine g_iald rfl rfl v22 dX6_stuff_120 ?_
      refine g_topi (fun x23 ex23 => ?_)
      exact g_iret (ty := .int) dX6_stuff_121 rfl rfl ⟨⟨⟨_, rfl, by first | trivial | lia | grind⟩, rfl⟩, ee_p (by subst ex23; subst ex9; subst ex4; exact (if_neg c5).trans ((if_neg c10).trans ((if_neg c13).trans ((if_neg c17).trans ((if_pos c21).trans (rfl))))))⟩
    by_cases c24 : w = 4
    · refine g_tabIn (off := (99)) (tgt := 122) dX6_stuff_23 (by rw [c24]; decide) (by rw [c24]; decide) (by rw [c24]; rfl) (by decide) ?_
      refine g_iload_n dX6_stuff_122 rfl ?_
      refine g_if_eq (tgt := 131) dX6_stuff_123 (by decide) (fun c25 => ?_) (fun c25 => ?_)
      · have zc25 := zx9 c25
        refine g_aload_n dX6_stuff_131 rfl ?_
        refine f_X6_10 rfl rfl dX6_stuff_132 ?_
        refine f_X6_137 rfl rfl dX6_stuff_135 ?_
        refine g_iload_n dX6_stuff_138 rfl ?_
        have v26 : vp_in m 8 := uk_vin 8 rfl (by first | decide | lia | grind) (by first | decide | lia | grind)
        refine g_iald rfl rfl v26 dX6_stuff_139 ?_
        refine g_topi (fun x27 ex27 => ?_)
        exact g_iret (ty := .int) dX6_stuff_140 rfl rfl ⟨⟨⟨_, rfl, by first | trivial | lia | grind⟩, rfl⟩, ee_p (by subst ex27; subst ex9; subst ex4; exact (if_neg c5).trans ((if_neg c10).trans ((if_neg c13).trans ((if_neg c17).trans ((if_neg c21).trans ((if_pos c24).trans ((if_pos c25).trans (rfl))))))))⟩
      · have zc25 := nx9 c25
        refine g_bipush (v := (-4)) dX6_stuff_126 (by decide) ?_
        refine g_goto (tgt := 140) dX6_stuff_128 (by decide) ?_
        exact g_iret (ty := .int) dX6_stuff_140 rfl rfl ⟨⟨⟨_, rfl, by first | trivial | lia | grind⟩, rfl⟩, ee_p (by subst ex9; subst ex4; exact (if_neg c5).trans ((if_neg c10).trans ((if_neg c13).trans ((if_neg c17).trans ((if_neg c21).trans ((if_pos c24).trans ((if_neg c25).trans (rfl))))))))⟩
    by_cases c28 : w = 5
    · refine g_tabIn (off := (118)) (tgt := 141) dX6_stuff_23 (by rw [c28]; decide) (by rw [c28]; decide) (by rw [c28]; rfl) (by decide) ?_
      refine g_aload_n dX6_stuff_141 rfl ?_
      refine f_X6_10 rfl rfl dX6_stuff_142 ?_
      refine f_X6_140 rfl rfl dX6_stuff_145 ?_
      refine g_iload_n dX6_stuff_148 rfl ?_
      have v29 : vp_in m 8 := uk_vin 8 rfl (by first | decide | lia | grind) (by first | decide | lia | grind)
      refine g_iald rfl rfl v29 dX6_stuff_149 ?_
      refine g_topi (fun x30 ex30 => ?_)
      exact g_iret (ty := .int) dX6_stuff_150 rfl rfl ⟨⟨⟨_, rfl, by first | trivial | lia | grind⟩, rfl⟩, ee_p (by subst ex30; subst ex9; subst ex4; exact (if_neg c5).trans ((if_neg c10).trans ((if_neg c13).trans ((if_neg c17).trans ((if_neg c21).trans ((if_neg c24).trans ((if_pos c28).trans (rfl))))))))⟩
    by_cases c31 : w = 6
    · refine g_tabIn (off := (128)) (tgt := 151) dX6_stuff_23 (by rw [c31]; decide) (by rw [c31]; decide) (by rw [c31]; rfl) (by decide) ?_
      refine g_aload_n dX6_stuff_151 rfl ?_
      refine f_X6_10 rfl rfl dX6_stuff_152 ?_
      refine f_X6_143 rfl rfl dX6_stuff_155 ?_
      refine g_iload_n dX6_stuff_158 rfl ?_
      have v32 : vp_in m 8 := uk_vin 8 rfl (by first | decide | lia | grind) (by first | decide | lia | grind)
      refine g_iald rfl rfl v32 dX6_stuff_159 ?_
      refine g_topi (fun x33 ex33 => ?_)
      exact g_iret (ty := .int) dX6_stuff_160 rfl rfl ⟨⟨⟨_, rfl, by first | trivial | lia | grind⟩, rfl⟩, ee_p (by subst ex33; subst ex9; subst ex4; exact (if_neg c5).trans ((if_neg c10).trans ((if_neg c13).trans ((if_neg c17).trans ((if_neg c21).trans ((if_neg c24).trans ((if_neg c28).trans ((if_pos c31).trans (rfl)))))))))⟩
    refine g_tabOut (tgt := 161) dX6_stuff_23 (uk_swo 0 6 rfl rfl (by first | lia | grind)) (by decide) ?_
    refine g_iconst (v := (-1)) dX6_stuff_161 (by decide) ?_
    exact g_iret (ty := .int) dX6_stuff_162 rfl rfl ⟨⟨⟨_, rfl, by first | trivial | lia | grind⟩, rfl⟩, ee_p (by subst ex9; subst ex4; exact (if_neg c5).trans ((if_neg c10).trans ((if_neg c13).trans ((if_neg c17).trans ((if_neg c21).trans ((if_neg c24).trans ((if_neg c28).trans ((if_neg c31).trans (rfl)))))))))⟩
  · have zc5 := zx4 c5
    refine g_iconst (v := (-1)) dX6_stuff_11 (by decide) ?_
    exact g_iret (ty := .int) dX6_stuff_12 rfl rfl ⟨⟨⟨_, rfl, by first | trivial | lia | grind⟩, rfl⟩, ee_p (by subst ex4; exact (if_pos c5).trans (rfl))⟩
