/-! exact contracts: what a method answers and leaves, as a pure function -/
theorem ee_i {p : Int32 × uk_Mem} {x : Int32} {u' : uk_Mem} (h : p = (x, u')) : some (Value.int x) = some (Value.int p.1) ∧ u' = p.2 := by rw [h]; exact ⟨rfl, rfl⟩
theorem ee_p {x y : Int32} (h : y = x) : some (Value.int x) = some (Value.int y) := by rw [h]
theorem ee_v {x y : Int32} (h : some (Value.int x) = some (Value.int y)) : x = y := by cases h; rfl
def ee_W (x y : Int32) : Prop := x = y
def ee_K : Nat := 4294967296
def ee_F (B i : Int32) (k : Nat) : Prop := B.toInt < i.toInt + (k : Int)
def ee_D (i : Int32) (k : Nat) : Prop := i.toInt + 1 < (k : Int)
theorem ee_F0 (B i : Int32) : ee_F B i ee_K := by
  unfold ee_F ee_K
  have := Int32.toInt_lt B
  have := Int32.le_toInt i
  omega
theorem ee_D0 (i : Int32) : ee_D i ee_K := by
  unfold ee_D ee_K
  have := Int32.toInt_lt i
  omega
theorem ee_Fp {B i : Int32} {k : Nat} (h : i ≤ B) (f : ee_F B i k) : ∃ j, k = j + 1 := by
  unfold ee_F at f
  have := Int32.le_iff_toInt_le.mp h
  exact ⟨k - 1, by omega⟩
theorem ee_Dp {i : Int32} {k : Nat} (h : -1 ≤ i) (f : ee_D i k) : ∃ j, k = j + 1 := by
  unfold ee_D at f
  have := Int32.le_iff_toInt_le.mp h
  have e : (-1 : Int32).toInt = -1 := rfl
  exact ⟨k - 1, by omega⟩
theorem ee_Fs {B i j : Int32} {k : Nat} (f : ee_F B i (k + 1)) (h : i < j) : ee_F B j k := by
  unfold ee_F at *
  have := Int32.lt_iff_toInt_lt.mp h
  omega
theorem ee_Ds {i j : Int32} {k : Nat} (f : ee_D i (k + 1)) (h : j < i) : ee_D j k := by
  unfold ee_D at *
  have := Int32.lt_iff_toInt_lt.mp h
  omega
def e_X6_stuffOf (u : uk_Mem) (g : Int32) : Int32 := if g < (10 : Int32) then (g) else (let x2 : Int32 := g - (10 : Int32); x2)
abbrev qe_X6_stuffOf (u : uk_Mem) (g : Int32) (r : Option Value) (u' : uk_Mem) : Prop := (q_X6_stuffOf u g r u') ∧ (r = some (.int (e_X6_stuffOf u g)))
set_option maxHeartbeats 4000000 in
set_option maxRecDepth 20000 in
theorem x_X6_stuffOf {G : uk_D} (hs : uk_Sep G) {u : uk_Mem} (hu : iv u) (g : Int32) (d : Nat) : uk_Meth G d mX6_stuffOf [.int g] u (qe_X6_stuffOf u g) := by
  refine uk_Meth.of hs (by decide) (Nat.le_of_ble_eq_true rfl) (fun X => ?_)
  refine g_iload_n dX6_stuffOf_0 rfl ?_
  refine g_bipush (v := 10) dX6_stuffOf_1 (by decide) ?_
  refine g_icmp_lt (tgt := 13) dX6_stuffOf_3 (by decide) (fun c1 => ?_) (fun c1 => ?_)
  · refine g_iload_n dX6_stuffOf_13 rfl ?_
    exact g_iret (ty := .int) dX6_stuffOf_14 rfl rfl ⟨⟨⟨_, rfl, by first | trivial | lia | grind⟩, rfl⟩, ee_p (by exact (if_pos c1).trans (rfl))⟩
  · refine g_iload_n dX6_stuffOf_6 rfl ?_
    refine g_bipush (v := 10) dX6_stuffOf_7 (by decide) ?_
    refine g_isub dX6_stuffOf_9 ?_
    refine g_topi (fun x2 ex2 => ?_)
    refine g_goto (tgt := 14) dX6_stuffOf_10 (by decide) ?_
    exact g_iret (ty := .int) dX6_stuffOf_14 rfl rfl ⟨⟨⟨_, rfl, by first | trivial | lia | grind⟩, rfl⟩, ee_p (by subst ex2; exact (if_neg c1).trans (rfl))⟩
def e_X0_hasStuff (u : uk_Mem) (kb : Nat) (m : Int32) : Int32 := if m < 0 then ((0 : Int32)) else (let x2 : Int32 := u.1 kb 0; if x2 ≤ m then ((0 : Int32)) else ((1 : Int32)))
abbrev qe_X0_hasStuff (u : uk_Mem) (kb : Nat) (m : Int32) (r : Option Value) (u' : uk_Mem) : Prop := (q_X0_hasStuff u kb m r u') ∧ (r = some (.int (e_X0_hasStuff u kb m)))
set_option maxHeartbeats 4000000 in
set_option maxRecDepth 20000 in
theorem x_X0_hasStuff {G : uk_D} (hs : uk_Sep G) {u : uk_Mem} (hu : iv u) {kb : Nat} (hkb : uk_isK kb) (m : Int32) (d : Nat) : uk_Meth G d mX0_hasStuff [.ref (uk_ad G kb), .int m] u (qe_X0_hasStuff u kb m) := by
  refine uk_Meth.of hs (by decide) (Nat.le_of_ble_eq_true rfl) (fun X => ?_)
  refine g_iload_n dX0_hasStuff_0 rfl ?_
  refine g_if_lt (tgt := 16) dX0_hasStuff_1 (by decide) (fun c1 => ?_) (fun c1 => ?_)
  · refine g_iconst (v := 0) dX0_hasStuff_16 (by decide) ?_
    exact g_iret (ty := .boolean) dX0_hasStuff_17 rfl rfl ⟨⟨⟨0, rfl, Or.inl rfl, fun q => absurd rfl q, fun _ => by first | trivial | lia | grind⟩, rfl⟩, ee_p (by exact (if_pos c1).trans (rfl))⟩
  · refine g_iload_n dX0_hasStuff_4 rfl ?_
    refine g_aload_n dX0_hasStuff_5 rfl ?_
    refine f_X0_9 rfl (kk_0 hkb) dX0_hasStuff_6 ?_
    refine g_topi (fun x2 ex2 => ?_)
    have rx2 : 0 ≤ x2 ∧ x2 ≤ 8 := by rw [ex2]; exact iv_at hu _ _ (kr_0 hkb)
    have s3 : u.1 kb 0 = x2 := ex2.symm
    refine g_icmp_ge (tgt := 16) dX0_hasStuff_9 (by decide) (fun c4 => ?_) (fun c4 => ?_)
    · refine g_iconst (v := 0) dX0_hasStuff_16 (by decide) ?_
      exact g_iret (ty := .boolean) dX0_hasStuff_17 rfl rfl ⟨⟨⟨0, rfl, Or.inl rfl, fun q => absurd rfl q, fun _ => by first | trivial | lia | grind⟩, rfl⟩, ee_p (by subst ex2; exact (if_neg c1).trans ((if_pos c4).trans (rfl)))⟩
    · refine g_iconst (v := 1) dX0_hasStuff_12 (by decide) ?_
      refine g_goto (tgt := 17) dX0_hasStuff_13 (by decide) ?_
      exact g_iret (ty := .boolean) dX0_hasStuff_17 rfl rfl ⟨⟨⟨1, rfl, Or.inr rfl, fun _ => by first | trivial | lia | grind, fun q => absurd q (by decide)⟩, rfl⟩, ee_p (by subst ex2; exact (if_neg c1).trans ((if_neg c4).trans (rfl)))⟩
def e_X0_isMade (u : uk_Mem) (kb : Nat) (m : Int32) : Int32 := let x2 : Int32 := u.1 (kb + 1) m.toNatClampNeg; if x2 = (4 : Int32) then ((0 : Int32)) else ((1 : Int32))
abbrev qe_X0_isMade (u : uk_Mem) (kb : Nat) (m : Int32) (r : Option Value) (u' : uk_Mem) : Prop := (q_X0_isMade u kb m r u') ∧ (r = some (.int (e_X0_isMade u kb m)))
set_option maxHeartbeats 4000000 in
set_option maxRecDepth 20000 in
theorem x_X0_isMade {G : uk_D} (hs : uk_Sep G) {u : uk_Mem} (hu : iv u) {kb : Nat} (hkb : uk_isK kb) (m : Int32) (p0 : 0 ≤ m) (p1 : m ≤ 7) (d : Nat) : uk_Meth G d mX0_isMade [.ref (uk_ad G kb), .int m] u (qe_X0_isMade u kb m) := by
  refine uk_Meth.of hs (by decide) (Nat.le_of_ble_eq_true rfl) (fun X => ?_)
  refine g_aload_n dX0_isMade_0 rfl ?_
  refine f_X0_15 rfl (kk_0 hkb) dX0_isMade_1 ?_
  refine g_iload_n dX0_isMade_4 rfl ?_
  have v1 : vp_in m 8 := uk_vin 8 rfl (by first | decide | lia | grind) (by first | decide | lia | grind)
  refine g_iald (kk_1 hkb) (kl_1 hkb) v1 dX0_isMade_5 ?_
  refine g_topi (fun x2 ex2 => ?_)
  refine g_iconst (v := 4) dX0_isMade_6 (by decide) ?_
  refine g_icmp_eq (tgt := 14) dX0_isMade_7 (by decide) (fun c3 => ?_) (fun c3 => ?_)
  · refine g_iconst (v := 0) dX0_isMade_14 (by decide) ?_
    exact g_iret (ty := .boolean) dX0_isMade_15 rfl rfl ⟨⟨⟨0, rfl, Or.inl rfl, fun q => absurd rfl q, fun _ => by first | trivial | lia | grind⟩, rfl⟩, ee_p (by subst ex2; exact (if_pos c3).trans (rfl))⟩
  · refine g_iconst (v := 1) dX0_isMade_10 (by decide) ?_
    refine g_goto (tgt := 15) dX0_isMade_11 (by decide) ?_
    exact g_iret (ty := .boolean) dX0_isMade_15 rfl rfl ⟨⟨⟨1, rfl, Or.inr rfl, fun _ => by first | trivial | lia | grind, fun q => absurd q (by decide)⟩, rfl⟩, ee_p (by subst ex2; exact (if_neg c3).trans (rfl))⟩
def e_X0_givesB (u : uk_Mem) (k : Int32) (h : Int32) : Int32 := if k = 0 then ((1 : Int32)) else (if k = (3 : Int32) then (if h = (1 : Int32) then ((1 : Int32)) else ((0 : Int32))) else ((0 : Int32)))
abbrev qe_X0_givesB (u : uk_Mem) (k : Int32) (h : Int32) (r : Option Value) (u' : uk_Mem) : Prop := (q_X0_givesB u k h r u') ∧ (r = some (.int (e_X0_givesB u k h)))
set_option maxHeartbeats 4000000 in
set_option maxRecDepth 20000 in
theorem x_X0_givesB {G : uk_D} (hs : uk_Sep G) {u : uk_Mem} (hu : iv u) (k : Int32) (h : Int32) (d : Nat) : uk_Meth G d mX0_givesB [.int k, .int h] u (qe_X0_givesB u k h) := by
  refine uk_Meth.of hs (by decide) (Nat.le_of_ble_eq_true rfl) (fun X => ?_)
  refine g_iload_n dX0_givesB_0 rfl ?_
  refine g_if_eq (tgt := 14) dX0_givesB_1 (by decide) (fun c1 => ?_) (fun c1 => ?_)
  · refine g_iconst (v := 1) dX0_givesB_14 (by decide) ?_
    refine g_goto (tgt := 19) dX0_givesB_15 (by decide) ?_
    exact g_iret (ty := .boolean) dX0_givesB_19 rfl rfl ⟨⟨⟨1, rfl, Or.inr rfl, fun _ => by first | trivial | lia | grind, fun q => absurd q (by decide)⟩, rfl⟩, ee_p (by exact (if_pos c1).trans (rfl))⟩
  · refine g_iload_n dX0_givesB_4 rfl ?_
    refine g_iconst (v := 3) dX0_givesB_5 (by decide) ?_
    refine g_icmp_ne (tgt := 18) dX0_givesB_6 (by decide) (fun c2 => ?_) (fun c2 => ?_)
    · refine g_iconst (v := 0) dX0_givesB_18 (by decide) ?_
      exact g_iret (ty := .boolean) dX0_givesB_19 rfl rfl ⟨⟨⟨0, rfl, Or.inl rfl, fun q => absurd rfl q, fun _ => by first | trivial | lia | grind⟩, rfl⟩, ee_p (by exact (if_neg c1).trans ((if_neg c2).trans (rfl)))⟩
    · refine g_iload_n dX0_givesB_9 rfl ?_
      refine g_iconst (v := 1) dX0_givesB_10 (by decide) ?_
      refine g_icmp_ne (tgt := 18) dX0_givesB_11 (by decide) (fun c3 => ?_) (fun c3 => ?_)
      · refine g_iconst (v := 0) dX0_givesB_18 (by decide) ?_
        exact g_iret (ty := .boolean) dX0_givesB_19 rfl rfl ⟨⟨⟨0, rfl, Or.inl rfl, fun q => absurd rfl q, fun _ => by first | trivial | lia | grind⟩, rfl⟩, ee_p (by exact (if_neg c1).trans ((if_pos c2).trans ((if_neg c3).trans (rfl))))⟩
      · refine g_iconst (v := 1) dX0_givesB_14 (by decide) ?_
        refine g_goto (tgt := 19) dX0_givesB_15 (by decide) ?_
        exact g_iret (ty := .boolean) dX0_givesB_19 rfl rfl ⟨⟨⟨1, rfl, Or.inr rfl, fun _ => by first | trivial | lia | grind, fun q => absurd q (by decide)⟩, rfl⟩, ee_p (by exact (if_neg c1).trans ((if_pos c2).trans ((if_pos c3).trans (rfl))))⟩
def e_X0_isCookable (u : uk_Mem) (kb : Nat) (m : Int32) : Int32 := let x2 : Int32 := u.1 (kb + 2) m.toNatClampNeg; let x4 : Int32 := u.1 (kb + 3) m.toNatClampNeg; if x2 = x4 then (let x16 : Int32 := u.1 (kb + 6) m.toNatClampNeg; if (40 : Int32) ≤ x16 then ((0 : Int32)) else (let x19 : Int32 := u.1 (kb + 6) x2.toNatClampNeg; if x19 < (1 : Int32) then ((0 : Int32)) else (let x22 : Int32 := u.1 (kb + 6) x4.toNatClampNeg; if x22 < (2 : Int32) then ((0 : Int32)) else ((1 : Int32))))) else (let x7 : Int32 := u.1 (kb + 6) m.toNatClampNeg; if (40 : Int32) ≤ x7 then ((0 : Int32)) else (let x10 : Int32 := u.1 (kb + 6) x2.toNatClampNeg; if x10 < (1 : Int32) then ((0 : Int32)) else (let x13 : Int32 := u.1 (kb + 6) x4.toNatClampNeg; if x13 < (1 : Int32) then ((0 : Int32)) else ((1 : Int32)))))
abbrev qe_X0_isCookable (u : uk_Mem) (kb : Nat) (m : Int32) (r : Option Value) (u' : uk_Mem) : Prop := (q_X0_isCookable u kb m r u') ∧ (r = some (.int (e_X0_isCookable u kb m)))
set_option maxHeartbeats 4000000 in
set_option maxRecDepth 20000 in
theorem x_X0_isCookable {G : uk_D} (hs : uk_Sep G) {u : uk_Mem} (hu : iv u) {kb : Nat} (hkb : uk_isK kb) (m : Int32) (p0 : 0 ≤ m) (p1 : m ≤ 7) (d : Nat) : uk_Meth G d mX0_isCookable [.ref (uk_ad G kb), .int m] u (qe_X0_isCookable u kb m) := by
  refine uk_Meth.of hs (by decide) (Nat.le_of_ble_eq_true rfl) (fun X => ?_)
  refine g_aload_n dX0_isCookable_0 rfl ?_
  refine f_X0_19 rfl (kk_0 hkb) dX0_isCookable_1 ?_
  refine g_iload_n dX0_isCookable_4 rfl ?_
  have v1 : vp_in m 8 := uk_vin 8 rfl (by first | decide | lia | grind) (by first | decide | lia | grind)
  refine g_iald (kk_2 hkb) (kl_2 hkb) v1 dX0_isCookable_5 ?_
  refine g_topi (fun x2 ex2 => ?_)
  have bx2 := uk_cl v1
  have rx2 : 0 ≤ x2 ∧ x2 ≤ 7 := by rw [ex2]; exact iv_at hu _ _ (ka_2 hkb _ (by omega))
  refine g_istore_n dX0_isCookable_6 (by decide) ?_
  refine g_pick (lv' := [(0, .ref (uk_ad G kb)), (1, .int m), (2, .int x2)]) [0, 1, 2] rfl ?_
  refine g_aload_n dX0_isCookable_7 rfl ?_
  refine f_X0_22 rfl (kk_0 hkb) dX0_isCookable_8 ?_
  refine g_iload_n dX0_isCookable_11 rfl ?_
  have v3 : vp_in m 8 := uk_vin 8 rfl (by first | decide | lia | grind) (by first | decide | lia | grind)
  refine g_iald (kk_3 hkb) (kl_3 hkb) v3 dX0_isCookable_12 ?_
  refine g_topi (fun x4 ex4 => ?_)
  have bx4 := uk_cl v3
  have rx4 : 0 ≤ x4 ∧ x4 ≤ 7 := by rw [ex4]; exact iv_at hu _ _ (ka_3 hkb _ (by omega))
  refine g_istore_n dX0_isCookable_13 (by decide) ?_
  refine g_pick (lv' := [(0, .ref (uk_ad G kb)), (1, .int m), (2, .int x2), (3, .int x4)]) [0, 1, 2, 3] rfl ?_
  refine g_iload_n dX0_isCookable_14 rfl ?_
  refine g_iload_n dX0_isCookable_15 rfl ?_
  refine g_icmp_ne (tgt := 23) dX0_isCookable_16 (by decide) (fun c5 => ?_) (fun c5 => ?_)
  · refine g_iconst (v := 1) dX0_isCookable_23 (by decide) ?_
    refine g_istore dX0_isCookable_24 (by decide) ?_
    refine g_pick (lv' := [(0, .ref (uk_ad G kb)), (1, .int m), (2, .int x2), (3, .int x4), (4, .int 1)]) [0, 1, 2, 3, 4] rfl ?_
    refine g_aload_n dX0_isCookable_26 rfl ?_
    refine f_X0_31 rfl (kk_0 hkb) dX0_isCookable_27 ?_
    refine g_iload_n dX0_isCookable_30 rfl ?_
    have v6 : vp_in m 8 := uk_vin 8 rfl (by first | decide | lia | grind) (by first | decide | lia | grind)
    refine g_iald (kk_6 hkb) (kl_6 hkb) v6 dX0_isCookable_31 ?_
    refine g_topi (fun x7 ex7 => ?_)
    refine g_bipush (v := 40) dX0_isCookable_32 (by decide) ?_
    refine g_icmp_ge (tgt := 62) dX0_isCookable_34 (by decide) (fun c8 => ?_) (fun c8 => ?_)
    · refine g_iconst (v := 0) dX0_isCookable_62 (by decide) ?_
      exact g_iret (ty := .boolean) dX0_isCookable_63 rfl rfl ⟨⟨⟨0, rfl, Or.inl rfl, fun q => absurd rfl q, fun _ => by first | trivial | lia | grind⟩, rfl⟩, ee_p (by subst ex7; subst ex4; subst ex2; exact (if_neg c5).trans ((if_pos c8).trans (rfl)))⟩
    · refine g_aload_n dX0_isCookable_37 rfl ?_
      refine f_X0_31 rfl (kk_0 hkb) dX0_isCookable_38 ?_
      refine g_iload_n dX0_isCookable_41 rfl ?_
      have v9 : vp_in x2 8 := uk_vin 8 rfl (by first | decide | lia | grind) (by first | decide | lia | grind)
      refine g_iald (kk_6 hkb) (kl_6 hkb) v9 dX0_isCookable_42 ?_
      refine g_topi (fun x10 ex10 => ?_)
      refine g_iconst (v := 1) dX0_isCookable_43 (by decide) ?_
      refine g_icmp_lt (tgt := 62) dX0_isCookable_44 (by decide) (fun c11 => ?_) (fun c11 => ?_)
      · refine g_iconst (v := 0) dX0_isCookable_62 (by decide) ?_
        exact g_iret (ty := .boolean) dX0_isCookable_63 rfl rfl ⟨⟨⟨0, rfl, Or.inl rfl, fun q => absurd rfl q, fun _ => by first | trivial | lia | grind⟩, rfl⟩, ee_p (by subst ex10; subst ex7; subst ex4; subst ex2; exact (if_neg c5).trans ((if_neg c8).trans ((if_pos c11).trans (rfl))))⟩
      · refine g_aload_n dX0_isCookable_47 rfl ?_
        refine f_X0_31 rfl (kk_0 hkb) dX0_isCookable_48 ?_
        refine g_iload_n dX0_isCookable_51 rfl ?_
        have v12 : vp_in x4 8 := uk_vin 8 rfl (by first | decide | lia | grind) (by first | decide | lia | grind)
        refine g_iald (kk_6 hkb) (kl_6 hkb) v12 dX0_isCookable_52 ?_
        refine g_topi (fun x13 ex13 => ?_)
        refine g_iload dX0_isCookable_53 rfl ?_
        refine g_icmp_lt (tgt := 62) dX0_isCookable_55 (by decide) (fun c14 => ?_) (fun c14 => ?_)
        · refine g_iconst (v := 0) dX0_isCookable_62 (by decide) ?_
          exact g_iret (ty := .boolean) dX0_isCookable_63 rfl rfl ⟨⟨⟨0, rfl, Or.inl rfl, fun q => absurd rfl q, fun _ => by first | trivial | lia | grind⟩, rfl⟩, ee_p (by subst ex13; subst ex10; subst ex7; subst ex4; subst ex2; exact (if_neg c5).trans ((if_neg c8).trans ((if_neg c11).trans ((if_pos c14).trans (rfl)))))⟩
        · refine g_iconst (v := 1) dX0_isCookable_58 (by decide) ?_
          refine g_goto (tgt := 63) dX0_isCookable_59 (by decide) ?_
          exact g_iret (ty := .boolean) dX0_isCookable_63 rfl rfl ⟨⟨⟨1, rfl, Or.inr rfl, fun _ => by first | trivial | lia | grind, fun q => absurd q (by decide)⟩, rfl⟩, ee_p (by subst ex13; subst ex10; subst ex7; subst ex4; subst ex2; exact (if_neg c5).trans ((if_neg c8).trans ((if_neg c11).trans ((if_neg c14).trans (rfl)))))⟩
  · refine g_iconst (v := 2) dX0_isCookable_19 (by decide) ?_
    refine g_goto (tgt := 24) dX0_isCookable_20 (by decide) ?_
    refine g_istore dX0_isCookable_24 (by decide) ?_
    refine g_pick (lv' := [(0, .ref (uk_ad G kb)), (1, .int m), (2, .int x2), (3, .int x4), (4, .int 2)]) [0, 1, 2, 3, 4] rfl ?_
    refine g_aload_n dX0_isCookable_26 rfl ?_
    refine f_X0_31 rfl (kk_0 hkb) dX0_isCookable_27 ?_
    refine g_iload_n dX0_isCookable_30 rfl ?_
    have v15 : vp_in m 8 := uk_vin 8 rfl (by first | decide | lia | grind) (by first | decide | lia | grind)
    refine g_iald (kk_6 hkb) (kl_6 hkb) v15 dX0_isCookable_31 ?_
    refine g_topi (fun x16 ex16 => ?_)
    refine g_bipush (v := 40) dX0_isCookable_32 (by decide) ?_
    refine g_icmp_ge (tgt := 62) dX0_isCookable_34 (by decide) (fun c17 => ?_) (fun c17 => ?_)
    · refine g_iconst (v := 0) dX0_isCookable_62 (by decide) ?_
      exact g_iret (ty := .boolean) dX0_isCookable_63 rfl rfl ⟨⟨⟨0, rfl, Or.inl rfl, fun q => absurd rfl q, fun _ => by first | trivial | lia | grind⟩, rfl⟩, ee_p (by subst ex16; subst ex4; subst ex2; exact (if_pos c5).trans ((if_pos c17).trans (rfl)))⟩
    · refine g_aload_n dX0_isCookable_37 rfl ?_
      refine f_X0_31 rfl (kk_0 hkb) dX0_isCookable_38 ?_
      refine g_iload_n dX0_isCookable_41 rfl ?_
      have v18 : vp_in x2 8 := uk_vin 8 rfl (by first | decide | lia | grind) (by first | decide | lia | grind)
      refine g_iald (kk_6 hkb) (kl_6 hkb) v18 dX0_isCookable_42 ?_
      refine g_topi (fun x19 ex19 => ?_)
      refine g_iconst (v := 1) dX0_isCookable_43 (by decide) ?_
      refine g_icmp_lt (tgt := 62) dX0_isCookable_44 (by decide) (fun c20 => ?_) (fun c20 => ?_)
      · refine g_iconst (v := 0) dX0_isCookable_62 (by decide) ?_
        exact g_iret (ty := .boolean) dX0_isCookable_63 rfl rfl ⟨⟨⟨0, rfl, Or.inl rfl, fun q => absurd rfl q, fun _ => by first | trivial | lia | grind⟩, rfl⟩, ee_p (by subst ex19; subst ex16; subst ex4; subst ex2; exact (if_pos c5).trans ((if_neg c17).trans ((if_pos c20).trans (rfl))))⟩
      · refine g_aload_n dX0_isCookable_47 rfl ?_
        refine f_X0_31 rfl (kk_0 hkb) dX0_isCookable_48 ?_
        refine g_iload_n dX0_isCookable_51 rfl ?_
        have v21 : vp_in x4 8 := uk_vin 8 rfl (by first | decide | lia | grind) (by first | decide | lia | grind)
        refine g_iald (kk_6 hkb) (kl_6 hkb) v21 dX0_isCookable_52 ?_
        refine g_topi (fun x22 ex22 => ?_)
        refine g_iload dX0_isCookable_53 rfl ?_
        refine g_icmp_lt (tgt := 62) dX0_isCookable_55 (by decide) (fun c23 => ?_) (fun c23 => ?_)
        · refine g_iconst (v := 0) dX0_isCookable_62 (by decide) ?_
          exact g_iret (ty := .boolean) dX0_isCookable_63 rfl rfl ⟨⟨⟨0, rfl, Or.inl rfl, fun q => absurd rfl q, fun _ => by first | trivial | lia | grind⟩, rfl⟩, ee_p (by subst ex22; subst ex19; subst ex16; subst ex4; subst ex2; exact (if_pos c5).trans ((if_neg c17).trans ((if_neg c20).trans ((if_pos c23).trans (rfl)))))⟩
        · refine g_iconst (v := 1) dX0_isCookable_58 (by decide) ?_
          refine g_goto (tgt := 63) dX0_isCookable_59 (by decide) ?_
          exact g_iret (ty := .boolean) dX0_isCookable_63 rfl rfl ⟨⟨⟨1, rfl, Or.inr rfl, fun _ => by first | trivial | lia | grind, fun q => absurd q (by decide)⟩, rfl⟩, ee_p (by subst ex22; subst ex19; subst ex16; subst ex4; subst ex2; exact (if_pos c5).trans ((if_neg c17).trans ((if_neg c20).trans ((if_neg c23).trans (rfl)))))⟩
def e_X0_isTurnable (u : uk_Mem) (kb : Nat) (m : Int32) : Int32 := let x2 : Int32 := u.1 (kb + 1) m.toNatClampNeg; if x2 = (2 : Int32) then ((0 : Int32)) else (let x5 : Int32 := u.1 (kb + 6) m.toNatClampNeg; if x5 = 0 then ((0 : Int32)) else (let x8 : Int32 := u.1 (kb + 2) m.toNatClampNeg; let x10 : Int32 := u.1 (kb + 3) m.toNatClampNeg; let x12 : Int32 := u.1 (kb + 1) m.toNatClampNeg; let x14 : Int32 := u.1 (kb + 7) m.toNatClampNeg; let x18 : Int32 := (e_X0_givesB u x12 x14); if x18 = 0 then (let x36 : Int32 := u.1 (kb + 6) x8.toNatClampNeg; if (40 : Int32) ≤ x36 then ((0 : Int32)) else ((1 : Int32))) else (if x8 = x10 then (let x29 : Int32 := u.1 (kb + 6) x8.toNatClampNeg; if (40 : Int32) ≤ x29 then ((0 : Int32)) else (let x32 : Int32 := u.1 (kb + 6) x10.toNatClampNeg; let x33 : Int32 := x32 + (2 : Int32); if (40 : Int32) < x33 then ((0 : Int32)) else ((1 : Int32)))) else (let x22 : Int32 := u.1 (kb + 6) x8.toNatClampNeg; if (40 : Int32) ≤ x22 then ((0 : Int32)) else (let x25 : Int32 := u.1 (kb + 6) x10.toNatClampNeg; let x26 : Int32 := x25 + (1 : Int32); if (40 : Int32) < x26 then ((0 : Int32)) else ((1 : Int32)))))))
abbrev qe_X0_isTurnable (u : uk_Mem) (kb : Nat) (m : Int32) (r : Option Value) (u' : uk_Mem) : Prop := (q_X0_isTurnable u kb m r u') ∧ (r = some (.int (e_X0_isTurnable u kb m)))
set_option maxHeartbeats 4000000 in
set_option maxRecDepth 20000 in
theorem x_X0_isTurnable {G : uk_D} (hs : uk_Sep G) {u : uk_Mem} (hu : iv u) {kb : Nat} (hkb : uk_isK kb) (m : Int32) (p0 : 0 ≤ m) (p1 : m ≤ 7) (d : Nat) : uk_Meth G (d + 1) mX0_isTurnable [.ref (uk_ad G kb), .int m] u (qe_X0_isTurnable u kb m) := by
  refine uk_Meth.of hs (by decide) (Nat.le_of_ble_eq_true rfl) (fun X => ?_)
  refine g_aload_n dX0_isTurnable_0 rfl ?_
  refine f_X0_15 rfl (kk_0 hkb) dX0_isTurnable_1 ?_
  refine g_iload_n dX0_isTurnable_4 rfl ?_
  have v1 : vp_in m 8 := uk_vin 8 rfl (by first | decide | lia | grind) (by first | decide | lia | grind)
  refine g_iald (kk_1 hkb) (kl_1 hkb) v1 dX0_isTurnable_5 ?_
  refine g_topi (fun x2 ex2 => ?_)
  refine g_iconst (v := 2) dX0_isTurnable_6 (by decide) ?_
  refine g_icmp_eq (tgt := 19) dX0_isTurnable_7 (by decide) (fun c3 => ?_) (fun c3 => ?_)
  · refine g_iconst (v := 0) dX0_isTurnable_19 (by decide) ?_
    exact g_iret (ty := .boolean) dX0_isTurnable_20 rfl rfl ⟨⟨⟨0, rfl, Or.inl rfl, fun q => absurd rfl q, fun _ => by first | trivial | lia | grind⟩, rfl⟩, ee_p (by subst ex2; exact (if_pos c3).trans (rfl))⟩
  · refine g_aload_n dX0_isTurnable_10 rfl ?_
    refine f_X0_31 rfl (kk_0 hkb) dX0_isTurnable_11 ?_
    refine g_iload_n dX0_isTurnable_14 rfl ?_
    have v4 : vp_in m 8 := uk_vin 8 rfl (by first | decide | lia | grind) (by first | decide | lia | grind)
    refine g_iald (kk_6 hkb) (kl_6 hkb) v4 dX0_isTurnable_15 ?_
    refine g_topi (fun x5 ex5 => ?_)
    refine g_if_ne (tgt := 21) dX0_isTurnable_16 (by decide) (fun c6 => ?_) (fun c6 => ?_)
    · refine g_aload_n dX0_isTurnable_21 rfl ?_
      refine f_X0_19 rfl (kk_0 hkb) dX0_isTurnable_22 ?_
      refine g_iload_n dX0_isTurnable_25 rfl ?_
      have v7 : vp_in m 8 := uk_vin 8 rfl (by first | decide | lia | grind) (by first | decide | lia | grind)
      refine g_iald (kk_2 hkb) (kl_2 hkb) v7 dX0_isTurnable_26 ?_
      refine g_topi (fun x8 ex8 => ?_)
      have bx8 := uk_cl v7
      have rx8 : 0 ≤ x8 ∧ x8 ≤ 7 := by rw [ex8]; exact iv_at hu _ _ (ka_2 hkb _ (by omega))
      refine g_istore_n dX0_isTurnable_27 (by decide) ?_
      refine g_pick (lv' := [(0, .ref (uk_ad G kb)), (1, .int m), (2, .int x8)]) [0, 1, 2] rfl ?_
      refine g_aload_n dX0_isTurnable_28 rfl ?_
      refine f_X0_22 rfl (kk_0 hkb) dX0_isTurnable_29 ?_
      refine g_iload_n dX0_isTurnable_32 rfl ?_
      have v9 : vp_in m 8 := uk_vin 8 rfl (by first | decide | lia | grind) (by first | decide | lia | grind)
      refine g_iald (kk_3 hkb) (kl_3 hkb) v9 dX0_isTurnable_33 ?_
      refine g_topi (fun x10 ex10 => ?_)
      have bx10 := uk_cl v9
      have rx10 : 0 ≤ x10 ∧ x10 ≤ 7 := by rw [ex10]; exact iv_at hu _ _ (ka_3 hkb _ (by omega))
      refine g_istore_n dX0_isTurnable_34 (by decide) ?_
      refine g_pick (lv' := [(0, .ref (uk_ad G kb)), (1, .int m), (2, .int x8), (3, .int x10)]) [0, 1, 2, 3] rfl ?_
      refine g_aload_n dX0_isTurnable_35 rfl ?_
      refine f_X0_15 rfl (kk_0 hkb) dX0_isTurnable_36 ?_
      refine g_iload_n dX0_isTurnable_39 rfl ?_
      have v11 : vp_in m 8 := uk_vin 8 rfl (by first | decide | lia | grind) (by first | decide | lia | grind)
      refine g_iald (kk_1 hkb) (kl_1 hkb) v11 dX0_isTurnable_40 ?_
      refine g_topi (fun x12 ex12 => ?_)
      refine g_aload_n dX0_isTurnable_41 rfl ?_
      refine f_X0_34 rfl (kk_0 hkb) dX0_isTurnable_42 ?_
      refine g_iload_n dX0_isTurnable_45 rfl ?_
      have v13 : vp_in m 8 := uk_vin 8 rfl (by first | decide | lia | grind) (by first | decide | lia | grind)
      refine g_iald (kk_7 hkb) (kl_7 hkb) v13 dX0_isTurnable_46 ?_
      refine g_topi (fun x14 ex14 => ?_)
      refine cl_X0_70 (As := [.int x12, .int x14]) rfl (x_X0_givesB (G := G) hs hu  x12 x14  (d)) rfl (by omega) rfl (Nat.le_of_ble_eq_true rfl) dX0_isTurnable_47 (fun r15 u16 q17 => ?_)
      obtain ⟨q17, Eq17⟩ := q17
      obtain ⟨⟨x18, rfl, tx18, nx18, zx18⟩, mq17⟩ := q17
      rw [mq17]
      have ex18 : x18 = (e_X0_givesB u x12 x14) := ee_v Eq17
      refine g_if_ne (tgt := 70) dX0_isTurnable_50 (by decide) (fun c19 => ?_) (fun c19 => ?_)
      · have zc19 := nx18 c19
        refine g_iload_n dX0_isTurnable_70 rfl ?_
        refine g_iload_n dX0_isTurnable_71 rfl ?_
        refine g_icmp_ne (tgt := 79) dX0_isTurnable_72 (by decide) (fun c20 => ?_) (fun c20 => ?_)
        · refine g_iconst (v := 1) dX0_isTurnable_79 (by decide) ?_
          refine g_istore dX0_isTurnable_80 (by decide) ?_
          refine g_pick (lv' := [(0, .ref (uk_ad G kb)), (1, .int m), (2, .int x8), (3, .int x10), (4, .int 1)]) [0, 1, 2, 3, 4] rfl ?_
          refine g_aload_n dX0_isTurnable_82 rfl ?_
          refine f_X0_31 rfl (kk_0 hkb) dX0_isTurnable_83 ?_
          refine g_iload_n dX0_isTurnable_86 rfl ?_
          have v21 : vp_in x8 8 := uk_vin 8 rfl (by first | decide | lia | grind) (by first | decide | lia | grind)
          refine g_iald (kk_6 hkb) (kl_6 hkb) v21 dX0_isTurnable_87 ?_
          refine g_topi (fun x22 ex22 => ?_)
          refine g_bipush (v := 40) dX0_isTurnable_88 (by decide) ?_
          refine g_icmp_ge (tgt := 111) dX0_isTurnable_90 (by decide) (fun c23 => ?_) (fun c23 => ?_)
          · refine g_iconst (v := 0) dX0_isTurnable_111 (by decide) ?_
            exact g_iret (ty := .boolean) dX0_isTurnable_112 rfl rfl ⟨⟨⟨0, rfl, Or.inl rfl, fun q => absurd rfl q, fun _ => by first | trivial | lia | grind⟩, rfl⟩, ee_p (by subst ex22; subst ex18; subst ex14; subst ex12; subst ex10; subst ex8; subst ex5; subst ex2; exact (if_neg c3).trans ((if_neg c6).trans ((if_neg c19).trans ((if_neg c20).trans ((if_pos c23).trans (rfl))))))⟩
          · refine g_aload_n dX0_isTurnable_93 rfl ?_
            refine f_X0_31 rfl (kk_0 hkb) dX0_isTurnable_94 ?_
            refine g_iload_n dX0_isTurnable_97 rfl ?_
            have v24 : vp_in x10 8 := uk_vin 8 rfl (by first | decide | lia | grind) (by first | decide | lia | grind)
            refine g_iald (kk_6 hkb) (kl_6 hkb) v24 dX0_isTurnable_98 ?_
            refine g_topi (fun x25 ex25 => ?_)
            refine g_iload dX0_isTurnable_99 rfl ?_
            refine g_iadd dX0_isTurnable_101 ?_
            refine g_topi (fun x26 ex26 => ?_)
            refine g_bipush (v := 40) dX0_isTurnable_102 (by decide) ?_
            refine g_icmp_gt (tgt := 111) dX0_isTurnable_104 (by decide) (fun c27 => ?_) (fun c27 => ?_)
            · refine g_iconst (v := 0) dX0_isTurnable_111 (by decide) ?_
              exact g_iret (ty := .boolean) dX0_isTurnable_112 rfl rfl ⟨⟨⟨0, rfl, Or.inl rfl, fun q => absurd rfl q, fun _ => by first | trivial | lia | grind⟩, rfl⟩, ee_p (by subst ex26; subst ex25; subst ex22; subst ex18; subst ex14; subst ex12; subst ex10; subst ex8; subst ex5; subst ex2; exact (if_neg c3).trans ((if_neg c6).trans ((if_neg c19).trans ((if_neg c20).trans ((if_neg c23).trans ((if_pos c27).trans (rfl)))))))⟩
            · refine g_iconst (v := 1) dX0_isTurnable_107 (by decide) ?_
              refine g_goto (tgt := 112) dX0_isTurnable_108 (by decide) ?_
              exact g_iret (ty := .boolean) dX0_isTurnable_112 rfl rfl ⟨⟨⟨1, rfl, Or.inr rfl, fun _ => by first | trivial | lia | grind, fun q => absurd q (by decide)⟩, rfl⟩, ee_p (by subst ex26; subst ex25; subst ex22; subst ex18; subst ex14; subst ex12; subst ex10; subst ex8; subst ex5; subst ex2; exact (if_neg c3).trans ((if_neg c6).trans ((if_neg c19).trans ((if_neg c20).trans ((if_neg c23).trans ((if_neg c27).trans (rfl)))))))⟩
        · refine g_iconst (v := 2) dX0_isTurnable_75 (by decide) ?_
          refine g_goto (tgt := 80) dX0_isTurnable_76 (by decide) ?_
          refine g_istore dX0_isTurnable_80 (by decide) ?_
          refine g_pick (lv' := [(0, .ref (uk_ad G kb)), (1, .int m), (2, .int x8), (3, .int x10), (4, .int 2)]) [0, 1, 2, 3, 4] rfl ?_
          refine g_aload_n dX0_isTurnable_82 rfl ?_
          refine f_X0_31 rfl (kk_0 hkb) dX0_isTurnable_83 ?_
          refine g_iload_n dX0_isTurnable_86 rfl ?_
          have v28 : vp_in x8 8 := uk_vin 8 rfl (by first | decide | lia | grind) (by first | decide | lia | grind)
          refine g_iald (kk_6 hkb) (kl_6 hkb) v28 dX0_isTurnable_87 ?_
          refine g_topi (fun x29 ex29 => ?_)
          refine g_bipush (v := 40) dX0_isTurnable_88 (by decide) ?_
          refine g_icmp_ge (tgt := 111) dX0_isTurnable_90 (by decide) (fun c30 => ?_) (fun c30 => ?_)
          · refine g_iconst (v := 0) dX0_isTurnable_111 (by decide) ?_
            exact g_iret (ty := .boolean) dX0_isTurnable_112 rfl rfl ⟨⟨⟨0, rfl, Or.inl rfl, fun q => absurd rfl q, fun _ => by first | trivial | lia | grind⟩, rfl⟩, ee_p (by subst ex29; subst ex18; subst ex14; subst ex12; subst ex10; subst ex8; subst ex5; subst ex2; exact (if_neg c3).trans ((if_neg c6).trans ((if_neg c19).trans ((if_pos c20).trans ((if_pos c30).trans (rfl))))))⟩
          · refine g_aload_n dX0_isTurnable_93 rfl ?_
            refine f_X0_31 rfl (kk_0 hkb) dX0_isTurnable_94 ?_
            refine g_iload_n dX0_isTurnable_97 rfl ?_
            have v31 : vp_in x10 8 := uk_vin 8 rfl (by first | decide | lia | grind) (by first | decide | lia | grind)
            refine g_iald (kk_6 hkb) (kl_6 hkb) v31 dX0_isTurnable_98 ?_
            refine g_topi (fun x32 ex32 => ?_)
            refine g_iload dX0_isTurnable_99 rfl ?_
            refine g_iadd dX0_isTurnable_101 ?_
            refine g_topi (fun x33 ex33 => ?_)
            refine g_bipush (v := 40) dX0_isTurnable_102 (by decide) ?_
            refine g_icmp_gt (tgt := 111) dX0_isTurnable_104 (by decide) (fun c34 => ?_) (fun c34 => ?_)
            · refine g_iconst (v := 0) dX0_isTurnable_111 (by decide) ?_
              exact g_iret (ty := .boolean) dX0_isTurnable_112 rfl rfl ⟨⟨⟨0, rfl, Or.inl rfl, fun q => absurd rfl q, fun _ => by first | trivial | lia | grind⟩, rfl⟩, ee_p (by subst ex33; subst ex32; subst ex29; subst ex18; subst ex14; subst ex12; subst ex10; subst ex8; subst ex5; subst ex2; exact (if_neg c3).trans ((if_neg c6).trans ((if_neg c19).trans ((if_pos c20).trans ((if_neg c30).trans ((if_pos c34).trans (rfl)))))))⟩
            · refine g_iconst (v := 1) dX0_isTurnable_107 (by decide) ?_
              refine g_goto (tgt := 112) dX0_isTurnable_108 (by decide) ?_
              exact g_iret (ty := .boolean) dX0_isTurnable_112 rfl rfl ⟨⟨⟨1, rfl, Or.inr rfl, fun _ => by first | trivial | lia | grind, fun q => absurd q (by decide)⟩, rfl⟩, ee_p (by subst ex33; subst ex32; subst ex29; subst ex18; subst ex14; subst ex12; subst ex10; subst ex8; subst ex5; subst ex2; exact (if_neg c3).trans ((if_neg c6).trans ((if_neg c19).trans ((if_pos c20).trans ((if_neg c30).trans ((if_neg c34).trans (rfl)))))))⟩
      · have zc19 := zx18 c19
        refine g_aload_n dX0_isTurnable_53 rfl ?_
        refine f_X0_31 rfl (kk_0 hkb) dX0_isTurnable_54 ?_
        refine g_iload_n dX0_isTurnable_57 rfl ?_
        have v35 : vp_in x8 8 := uk_vin 8 rfl (by first | decide | lia | grind) (by first | decide | lia | grind)
        refine g_iald (kk_6 hkb) (kl_6 hkb) v35 dX0_isTurnable_58 ?_
        refine g_topi (fun x36 ex36 => ?_)
        refine g_bipush (v := 40) dX0_isTurnable_59 (by decide) ?_
        refine g_icmp_ge (tgt := 68) dX0_isTurnable_61 (by decide) (fun c37 => ?_) (fun c37 => ?_)
        · refine g_iconst (v := 0) dX0_isTurnable_68 (by decide) ?_
          exact g_iret (ty := .boolean) dX0_isTurnable_69 rfl rfl ⟨⟨⟨0, rfl, Or.inl rfl, fun q => absurd rfl q, fun _ => by first | trivial | lia | grind⟩, rfl⟩, ee_p (by subst ex36; subst ex18; subst ex14; subst ex12; subst ex10; subst ex8; subst ex5; subst ex2; exact (if_neg c3).trans ((if_neg c6).trans ((if_pos c19).trans ((if_pos c37).trans (rfl)))))⟩
        · refine g_iconst (v := 1) dX0_isTurnable_64 (by decide) ?_
          refine g_goto (tgt := 69) dX0_isTurnable_65 (by decide) ?_
          exact g_iret (ty := .boolean) dX0_isTurnable_69 rfl rfl ⟨⟨⟨1, rfl, Or.inr rfl, fun _ => by first | trivial | lia | grind, fun q => absurd q (by decide)⟩, rfl⟩, ee_p (by subst ex36; subst ex18; subst ex14; subst ex12; subst ex10; subst ex8; subst ex5; subst ex2; exact (if_neg c3).trans ((if_neg c6).trans ((if_pos c19).trans ((if_neg c37).trans (rfl)))))⟩
    · refine g_iconst (v := 0) dX0_isTurnable_19 (by decide) ?_
      exact g_iret (ty := .boolean) dX0_isTurnable_20 rfl rfl ⟨⟨⟨0, rfl, Or.inl rfl, fun q => absurd rfl q, fun _ => by first | trivial | lia | grind⟩, rfl⟩, ee_p (by subst ex5; subst ex2; exact (if_neg c3).trans ((if_pos c6).trans (rfl)))⟩
def e_X0_hasDoing (u : uk_Mem) (kb : Nat) (g : Int32) : Int32 := if g < 0 then ((0 : Int32)) else (let x5 : Int32 := (e_X6_stuffOf u g); let x9 : Int32 := (e_X0_hasStuff u kb x5); if x9 = 0 then ((0 : Int32)) else ((1 : Int32)))
abbrev qe_X0_hasDoing (u : uk_Mem) (kb : Nat) (g : Int32) (r : Option Value) (u' : uk_Mem) : Prop := (q_X0_hasDoing u kb g r u') ∧ (r = some (.int (e_X0_hasDoing u kb g)))
set_option maxHeartbeats 4000000 in
set_option maxRecDepth 20000 in
theorem x_X0_hasDoing {G : uk_D} (hs : uk_Sep G) {u : uk_Mem} (hu : iv u) {kb : Nat} (hkb : uk_isK kb) (g : Int32) (d : Nat) : uk_Meth G (d + 1) mX0_hasDoing [.ref (uk_ad G kb), .int g] u (qe_X0_hasDoing u kb g) := by
  refine uk_Meth.of hs (by decide) (Nat.le_of_ble_eq_true rfl) (fun X => ?_)
  refine g_iload_n dX0_hasDoing_0 rfl ?_
  refine g_if_lt (tgt := 19) dX0_hasDoing_1 (by decide) (fun c1 => ?_) (fun c1 => ?_)
  · refine g_iconst (v := 0) dX0_hasDoing_19 (by decide) ?_
    exact g_iret (ty := .boolean) dX0_hasDoing_20 rfl rfl ⟨⟨⟨0, rfl, Or.inl rfl, fun q => absurd rfl q, fun _ => by first | trivial | lia | grind⟩, rfl⟩, ee_p (by exact (if_pos c1).trans (rfl))⟩
  · refine g_aload_n dX0_hasDoing_4 rfl ?_
    refine g_iload_n dX0_hasDoing_5 rfl ?_
    refine cl_X0_53 (As := [.int g]) rfl (x_X6_stuffOf (G := G) hs hu  g  (d)) rfl (by omega) rfl (Nat.le_of_ble_eq_true rfl) dX0_hasDoing_6 (fun r2 u3 q4 => ?_)
    obtain ⟨q4, Eq4⟩ := q4
    obtain ⟨⟨x5, rfl, tx5⟩, mq4⟩ := q4
    rw [mq4]
    have ex5 : x5 = (e_X6_stuffOf u g) := ee_v Eq4
    refine cl_X0_57 (c := kb) (As := [.int x5]) rfl (x_X0_hasStuff (G := G) hs hu hkb x5  (d)) rfl (by omega) (kk_0 hkb) rfl (Nat.le_of_ble_eq_true rfl) dX0_hasDoing_9 (fun r6 u7 q8 => ?_)
    obtain ⟨q8, Eq8⟩ := q8
    obtain ⟨⟨x9, rfl, tx9, nx9, zx9⟩, mq8⟩ := q8
    rw [mq8]
    have ex9 : x9 = (e_X0_hasStuff u kb x5) := ee_v Eq8
    refine g_if_eq (tgt := 19) dX0_hasDoing_12 (by decide) (fun c10 => ?_) (fun c10 => ?_)
    · have zc10 := zx9 c10
      refine g_iconst (v := 0) dX0_hasDoing_19 (by decide) ?_
      exact g_iret (ty := .boolean) dX0_hasDoing_20 rfl rfl ⟨⟨⟨0, rfl, Or.inl rfl, fun q => absurd rfl q, fun _ => by first | trivial | lia | grind⟩, rfl⟩, ee_p (by subst ex9; subst ex5; exact (if_neg c1).trans ((if_pos c10).trans (rfl)))⟩
    · have zc10 := nx9 c10
      refine g_iconst (v := 1) dX0_hasDoing_15 (by decide) ?_
      refine g_goto (tgt := 20) dX0_hasDoing_16 (by decide) ?_
      exact g_iret (ty := .boolean) dX0_hasDoing_20 rfl rfl ⟨⟨⟨1, rfl, Or.inr rfl, fun _ => by first | trivial | lia | grind, fun q => absurd q (by decide)⟩, rfl⟩, ee_p (by subst ex9; subst ex5; exact (if_neg c1).trans ((if_neg c10).trans (rfl)))⟩
def e_X0_isAble (u : uk_Mem) (kb : Nat) (g : Int32) : Int32 := let x4 : Int32 := (e_X6_stuffOf u g); if g < 0 then ((0 : Int32)) else (let x9 : Int32 := (e_X0_hasStuff u kb x4); if x9 = 0 then ((0 : Int32)) else (let x14 : Int32 := (e_X0_isMade u kb x4); if x14 = 0 then ((0 : Int32)) else (if g < (10 : Int32) then (let x20 : Int32 := (e_X0_isCookable u kb x4); x20) else (let x24 : Int32 := (e_X0_isTurnable u kb x4); x24))))
abbrev qe_X0_isAble (u : uk_Mem) (kb : Nat) (g : Int32) (r : Option Value) (u' : uk_Mem) : Prop := (q_X0_isAble u kb g r u') ∧ (r = some (.int (e_X0_isAble u kb g)))
set_option maxHeartbeats 4000000 in
set_option maxRecDepth 20000 in
theorem x_X0_isAble {G : uk_D} (hs : uk_Sep G) {u : uk_Mem} (hu : iv u) {kb : Nat} (hkb : uk_isK kb) (g : Int32) (d : Nat) : uk_Meth G (d + 2) mX0_isAble [.ref (uk_ad G kb), .int g] u (qe_X0_isAble u kb g) := by
  refine uk_Meth.of hs (by decide) (Nat.le_of_ble_eq_true rfl) (fun X => ?_)
  refine g_iload_n dX0_isAble_0 rfl ?_
  refine cl_X0_53 (As := [.int g]) rfl (x_X6_stuffOf (G := G) hs hu  g  (d + 1)) rfl (by omega) rfl (Nat.le_of_ble_eq_true rfl) dX0_isAble_1 (fun r1 u2 q3 => ?_)
  obtain ⟨q3, Eq3⟩ := q3
  obtain ⟨⟨x4, rfl, tx4⟩, mq3⟩ := q3
  rw [mq3]
  have ex4 : x4 = (e_X6_stuffOf u g) := ee_v Eq3
  refine g_istore_n dX0_isAble_4 (by decide) ?_
  refine g_pick (lv' := [(0, .ref (uk_ad G kb)), (1, .int g), (2, .int x4)]) [0, 1, 2] rfl ?_
  refine g_iload_n dX0_isAble_5 rfl ?_
  refine g_if_lt (tgt := 25) dX0_isAble_6 (by decide) (fun c5 => ?_) (fun c5 => ?_)
  · refine g_iconst (v := 0) dX0_isAble_25 (by decide) ?_
    exact g_iret (ty := .boolean) dX0_isAble_26 rfl rfl ⟨⟨⟨0, rfl, Or.inl rfl, fun q => absurd rfl q, fun _ => by first | trivial | lia | grind⟩, rfl⟩, ee_p (by subst ex4; exact (if_pos c5).trans (rfl))⟩
  · refine g_aload_n dX0_isAble_9 rfl ?_
    refine g_iload_n dX0_isAble_10 rfl ?_
    refine cl_X0_57 (c := kb) (As := [.int x4]) rfl (x_X0_hasStuff (G := G) hs hu hkb x4  (d + 1)) rfl (by omega) (kk_0 hkb) rfl (Nat.le_of_ble_eq_true rfl) dX0_isAble_11 (fun r6 u7 q8 => ?_)
    obtain ⟨q8, Eq8⟩ := q8
    obtain ⟨⟨x9, rfl, tx9, nx9, zx9⟩, mq8⟩ := q8
    rw [mq8]
    have ex9 : x9 = (e_X0_hasStuff u kb x4) := ee_v Eq8
    refine g_if_eq (tgt := 25) dX0_isAble_14 (by decide) (fun c10 => ?_) (fun c10 => ?_)
    · have zc10 := zx9 c10
      refine g_iconst (v := 0) dX0_isAble_25 (by decide) ?_
      exact g_iret (ty := .boolean) dX0_isAble_26 rfl rfl ⟨⟨⟨0, rfl, Or.inl rfl, fun q => absurd rfl q, fun _ => by first | trivial | lia | grind⟩, rfl⟩, ee_p (by subst ex9; subst ex4; exact (if_neg c5).trans ((if_pos c10).trans (rfl)))⟩
    · have zc10 := nx9 c10
      refine g_aload_n dX0_isAble_17 rfl ?_
      refine g_iload_n dX0_isAble_18 rfl ?_
      refine cl_X0_61 (c := kb) (As := [.int x4]) rfl (x_X0_isMade (G := G) hs hu hkb x4 (by first | trivial | decide | lia | grind) (by first | trivial | decide | lia | grind) (d + 1)) rfl (by omega) (kk_0 hkb) rfl (Nat.le_of_ble_eq_true rfl) dX0_isAble_19 (fun r11 u12 q13 => ?_)
      obtain ⟨q13, Eq13⟩ := q13
      obtain ⟨⟨x14, rfl, tx14, nx14, zx14⟩, mq13⟩ := q13
      rw [mq13]
      have ex14 : x14 = (e_X0_isMade u kb x4) := ee_v Eq13
      refine g_if_ne (tgt := 27) dX0_isAble_22 (by decide) (fun c15 => ?_) (fun c15 => ?_)
      · have zc15 := nx14 c15
        refine g_iload_n dX0_isAble_27 rfl ?_
        refine g_bipush (v := 10) dX0_isAble_28 (by decide) ?_
        refine g_icmp_lt (tgt := 41) dX0_isAble_30 (by decide) (fun c16 => ?_) (fun c16 => ?_)
        · refine g_aload_n dX0_isAble_41 rfl ?_
          refine g_iload_n dX0_isAble_42 rfl ?_
          refine cl_X0_67 (c := kb) (As := [.int x4]) rfl (x_X0_isCookable (G := G) hs hu hkb x4 (by first | trivial | decide | lia | grind) (by first | trivial | decide | lia | grind) (d + 1)) rfl (by omega) (kk_0 hkb) rfl (Nat.le_of_ble_eq_true rfl) dX0_isAble_43 (fun r17 u18 q19 => ?_)
          obtain ⟨q19, Eq19⟩ := q19
          obtain ⟨⟨x20, rfl, tx20, nx20, zx20⟩, mq19⟩ := q19
          rw [mq19]
          have ex20 : x20 = (e_X0_isCookable u kb x4) := ee_v Eq19
          exact g_iret (ty := .boolean) dX0_isAble_46 rfl (uk_nb tx20) ⟨⟨⟨_, rfl, tx20, fun q => by first | trivial | (have := nx20 q; first | exact this | grind), fun q => by first | trivial | (have := zx20 q; first | exact this | grind)⟩, rfl⟩, ee_p (by subst ex20; subst ex14; subst ex9; subst ex4; exact (if_neg c5).trans ((if_neg c10).trans ((if_neg c15).trans ((if_pos c16).trans (rfl)))))⟩
        · refine g_aload_n dX0_isAble_33 rfl ?_
          refine g_iload_n dX0_isAble_34 rfl ?_
          refine cl_X0_64 (c := kb) (As := [.int x4]) rfl (x_X0_isTurnable (G := G) hs hu hkb x4 (by first | trivial | decide | lia | grind) (by first | trivial | decide | lia | grind) (d)) rfl (by omega) (kk_0 hkb) rfl (Nat.le_of_ble_eq_true rfl) dX0_isAble_35 (fun r21 u22 q23 => ?_)
          obtain ⟨q23, Eq23⟩ := q23
          obtain ⟨⟨x24, rfl, tx24, nx24, zx24⟩, mq23⟩ := q23
          rw [mq23]
          have ex24 : x24 = (e_X0_isTurnable u kb x4) := ee_v Eq23
          refine g_goto (tgt := 46) dX0_isAble_38 (by decide) ?_
          exact g_iret (ty := .boolean) dX0_isAble_46 rfl (uk_nb tx24) ⟨⟨⟨_, rfl, tx24, fun q => by first | trivial | (have := nx24 q; first | exact this | grind), fun q => by first | trivial | (have := zx24 q; first | exact this | grind)⟩, rfl⟩, ee_p (by subst ex24; subst ex14; subst ex9; subst ex4; exact (if_neg c5).trans ((if_neg c10).trans ((if_neg c15).trans ((if_neg c16).trans (rfl)))))⟩
      · have zc15 := zx14 c15
        refine g_iconst (v := 0) dX0_isAble_25 (by decide) ?_
        exact g_iret (ty := .boolean) dX0_isAble_26 rfl rfl ⟨⟨⟨0, rfl, Or.inl rfl, fun q => absurd rfl q, fun _ => by first | trivial | lia | grind⟩, rfl⟩, ee_p (by subst ex14; subst ex9; subst ex4; exact (if_neg c5).trans ((if_neg c10).trans ((if_pos c15).trans (rfl))))⟩
def l_X0_rawBits_4 (u : uk_Mem) (kb : Nat) : Nat → Int32 → Int32 → Int32
  | 0, _, _ => 0
  | K9 + 1, i3, w2 => let x4 : Int32 := u.1 kb 0; if x4 ≤ i3 then (w2) else (let x10 : Int32 := (e_X0_isMade u kb i3); if x10 = 0 then (let x12 : Int32 := (1 : Int32) <<< (i3 &&& 31); let x13 : Int32 := w2 ||| x12; l_X0_rawBits_4 u kb K9 (i3 + 1) x13) else (let x14 : Int32 := w2 ||| (0 : Int32); l_X0_rawBits_4 u kb K9 (i3 + 1) x14))
def e_X0_rawBits (u : uk_Mem) (kb : Nat) : Int32 := l_X0_rawBits_4 u kb ee_K (0 : Int32) (0 : Int32)
abbrev qe_X0_rawBits (u : uk_Mem) (kb : Nat) (r : Option Value) (u' : uk_Mem) : Prop := (q_X0_rawBits u kb r u') ∧ (r = some (.int (e_X0_rawBits u kb)))
set_option maxHeartbeats 4000000 in
set_option maxRecDepth 20000 in
theorem x_X0_rawBits {G : uk_D} (hs : uk_Sep G) {u : uk_Mem} (hu : iv u) {kb : Nat} (hkb : uk_isK kb) (d : Nat) : uk_Meth G (d + 1) mX0_rawBits [.ref (uk_ad G kb)] u (qe_X0_rawBits u kb) := by
  refine uk_Meth.of hs (by decide) (Nat.le_of_ble_eq_true rfl) (fun X => ?_)
  refine g_iconst (v := 0) dX0_rawBits_0 (by decide) ?_
  refine g_istore_n dX0_rawBits_1 (by decide) ?_
  refine g_pick (lv' := [(0, .ref (uk_ad G kb)), (1, .int 0)]) [0, 1] rfl ?_
  refine g_iconst (v := 0) dX0_rawBits_2 (by decide) ?_
  refine g_istore_n dX0_rawBits_3 (by decide) ?_
  refine g_pick (lv' := [(0, .ref (uk_ad G kb)), (1, .int 0), (2, .int 0)]) [0, 1, 2] rfl ?_
  have L4_0 : ∀ i3 : Int32, 0 ≤ i3 → i3 ≤ 8 → ∀ (w2 : Int32), (∃ ki3 : Nat, ee_F 8 i3 ki3 ∧ e_X0_rawBits u kb = l_X0_rawBits_4 u kb ki3 i3 w2) → uk_G G X mX0_rawBits (d + 1) (qe_X0_rawBits u kb) 4 [(0, .ref (uk_ad G kb)), (1, .int w2), (2, .int i3)] [] u := by
    refine uk_upl 8 ?_
    intro i3 ai3 bi3 ihi3 w2 jEi3
    obtain ⟨ki3, fki3, hki3⟩ := jEi3
    obtain ⟨ki3, rfl⟩ := ee_Fp (by first | assumption | lia | grind) fki3
    refine g_iload_n dX0_rawBits_4 rfl ?_
    refine g_aload_n dX0_rawBits_5 rfl ?_
    refine f_X0_9 rfl (kk_0 hkb) dX0_rawBits_6 ?_
    refine g_topi (fun x4 ex4 => ?_)
    have rx4 : 0 ≤ x4 ∧ x4 ≤ 8 := by rw [ex4]; exact iv_at hu _ _ (kr_0 hkb)
    have s5 : u.1 kb 0 = x4 := ex4.symm
    refine g_icmp_ge (tgt := 36) dX0_rawBits_9 (by decide) (fun c6 => ?_) (fun c6 => ?_)
    · refine g_iload_n dX0_rawBits_36 rfl ?_
      exact g_iret (ty := .int) dX0_rawBits_37 rfl rfl ⟨⟨⟨_, rfl, by first | trivial | lia | grind⟩, rfl⟩, ee_p (by subst ex4; exact hki3.trans ((if_pos c6).trans (rfl)))⟩
    · refine g_iload_n dX0_rawBits_12 rfl ?_
      refine g_aload_n dX0_rawBits_13 rfl ?_
      refine g_iload_n dX0_rawBits_14 rfl ?_
      refine cl_X0_61 (c := kb) (As := [.int i3]) rfl (x_X0_isMade (G := G) hs hu hkb i3 (by first | trivial | decide | lia | grind) (by first | trivial | decide | lia | grind) (d)) rfl (by omega) (kk_0 hkb) rfl (Nat.le_of_ble_eq_true rfl) dX0_rawBits_15 (fun r7 u8 q9 => ?_)
      obtain ⟨q9, Eq9⟩ := q9
      obtain ⟨⟨x10, rfl, tx10, nx10, zx10⟩, mq9⟩ := q9
      rw [mq9]
      have ex10 : x10 = (e_X0_isMade u kb i3) := ee_v Eq9
      refine g_if_eq (tgt := 25) dX0_rawBits_18 (by decide) (fun c11 => ?_) (fun c11 => ?_)
      · have zc11 := zx10 c11
        refine g_iconst (v := 1) dX0_rawBits_25 (by decide) ?_
        refine g_iload_n dX0_rawBits_26 rfl ?_
        refine g_ishl dX0_rawBits_27 (fun x12 ex12 => ?_)
        refine g_ior dX0_rawBits_28 ?_
        refine g_topi (fun x13 ex13 => ?_)
        refine g_istore_n dX0_rawBits_29 (by decide) ?_
        refine g_pick (lv' := [(0, .ref (uk_ad G kb)), (1, .int x13), (2, .int i3)]) [0, 1, 2] rfl ?_
        refine g_iinc (v := i3 + 1) dX0_rawBits_30 rfl rfl (by decide) ?_
        refine g_pick (lv' := [(0, .ref (uk_ad G kb)), (1, .int x13), (2, .int (i3 + 1))]) [0, 1, 2] rfl ?_
        refine g_goto (tgt := 4) dX0_rawBits_33 (by decide) ?_
        refine g_pick (lv' := [(0, .ref (uk_ad G kb)), (1, .int x13), (2, .int (i3 + 1))]) [0, 1, 2] rfl ?_
        exact ihi3 (by first | lia | grind) x13  ⟨ki3, ee_Fs fki3 (by first | assumption | lia | grind), by subst ex13; subst ex12; subst ex10; subst ex4; exact hki3.trans ((if_neg c6).trans ((if_pos c11).trans (rfl)))⟩
      · have zc11 := nx10 c11
        refine g_iconst (v := 0) dX0_rawBits_21 (by decide) ?_
        refine g_goto (tgt := 28) dX0_rawBits_22 (by decide) ?_
        refine g_ior dX0_rawBits_28 ?_
        refine g_topi (fun x14 ex14 => ?_)
        refine g_istore_n dX0_rawBits_29 (by decide) ?_
        refine g_pick (lv' := [(0, .ref (uk_ad G kb)), (1, .int x14), (2, .int i3)]) [0, 1, 2] rfl ?_
        refine g_iinc (v := i3 + 1) dX0_rawBits_30 rfl rfl (by decide) ?_
        refine g_pick (lv' := [(0, .ref (uk_ad G kb)), (1, .int x14), (2, .int (i3 + 1))]) [0, 1, 2] rfl ?_
        refine g_goto (tgt := 4) dX0_rawBits_33 (by decide) ?_
        refine g_pick (lv' := [(0, .ref (uk_ad G kb)), (1, .int x14), (2, .int (i3 + 1))]) [0, 1, 2] rfl ?_
        exact ihi3 (by first | lia | grind) x14  ⟨ki3, ee_Fs fki3 (by first | assumption | lia | grind), by subst ex14; subst ex10; subst ex4; exact hki3.trans ((if_neg c6).trans ((if_neg c11).trans (rfl)))⟩
  refine g_pick (lv' := [(0, .ref (uk_ad G kb)), (1, .int 0), (2, .int 0)]) [0, 1, 2] rfl ?_
  exact L4_0 0 (by first | decide | lia | grind) (by first | decide | lia | grind) 0  ⟨ee_K, ee_F0 _ _, by exact rfl⟩
