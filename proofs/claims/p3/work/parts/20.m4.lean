theorem uk_a15 {x z : Int32} (h : z = x &&& 32767) : 0 ≤ z ∧ z ≤ 32767 := by
  obtain ⟨j, hj, e⟩ := pk_andE x (m := 32767) 15 rfl
  rw [h, e]
  exact ⟨nI_pos' (by omega), nI_le (a := j) (b := 32767) (by omega) (by omega)⟩
theorem uk_rm {x y z : Int32} (h : z = x - x / y * y) (hx : 0 ≤ x) (hy : 0 < y) : 0 ≤ z ∧ z < y := by
  obtain ⟨a, ha, rfl⟩ := nI_of (x := x) (by grind)
  obtain ⟨b, hb, rfl⟩ := nI_of (x := y) (by grind)
  have b0 : 0 < b := by
    rcases Nat.eq_zero_or_pos b with q | q
    · subst q
      exact absurd hy (by decide)
    · exact q
  rw [h, pk_rem ha b0 hb]
  have := Nat.mod_lt a b0
  exact ⟨nI_pos' (by omega), nI_lt this hb⟩
theorem uk_r10t : ∀ j : Fin 18, nI j.val - nI j.val / 10 * 10 = if j.val < 10 then nI j.val else nI (j.val - 10) := by decide
theorem uk_r10 {g z : Int32} (h : z = g - g / 10 * 10) : (0 ≤ g → g ≤ 9 → z = g) ∧ (10 ≤ g → g ≤ 17 → z = g - 10) := by
  have key : 0 ≤ g → g ≤ 17 → ∃ j : Fin 18, g = nI j.val := fun h0 h1 => by
    obtain ⟨j, hj, e⟩ := nI_of2 (x := g) (M := 17) (n := 17) rfl (by grind) h1
    exact ⟨⟨j, by omega⟩, e⟩
  constructor
  · intro h0 h1
    obtain ⟨j, rfl⟩ := key h0 (by grind)
    have hj : j.val < 10 := by
      have := (nI_leI (a := j.val) (b := 9) (by omega) (by omega)).mp h1
      omega
    rw [h, uk_r10t j, if_pos hj]
  · intro h0 h1
    obtain ⟨j, rfl⟩ := key (by grind) h1
    have hj : ¬ j.val < 10 := by
      have := (nI_leI (a := 10) (b := j.val) (by omega) (by omega)).mp h0
      omega
    rw [h, uk_r10t j, if_neg hj]
    exact (pk_sub (by omega)).symm

abbrev q_X7_isStuff (u : uk_Mem) (m : Int32) (r : Option Value) (u' : uk_Mem) : Prop := (∃ x : Int32, r = some (.int x) ∧ (x = 0 ∨ x = 1) ∧ (¬ x = 0 → 0 ≤ m ∧ m < u.1 60 3 ∧ m ≤ 7) ∧ (x = 0 → True)) ∧ (u' = u)
set_option maxHeartbeats 4000000 in
set_option maxRecDepth 20000 in
theorem c_X7_isStuff {G : uk_D} (hs : uk_Sep G) {u : uk_Mem} (hu : iv u) (m : Int32) (d : Nat) : uk_Meth G (d + 1) mX7_isStuff [.ref (uk_ad G 60), .int m] u (q_X7_isStuff u m) := by
  refine uk_Meth.of hs (by decide) (Nat.le_of_ble_eq_true rfl) (fun X => ?_)
  refine g_iload_n dX7_isStuff_0 rfl ?_
  refine g_i2l dX7_isStuff_1 ?_
  refine g_lconst (v := 0) dX7_isStuff_2 (by decide) ?_
  refine g_aload_n dX7_isStuff_3 rfl ?_
  refine f_X7_79 rfl rfl dX7_isStuff_4 ?_
  refine g_topi (fun x1 ex1 => ?_)
  have rx1 : 0 ≤ x1 ∧ x1 ≤ 8 := by rw [ex1]; exact iv_at hu _ _ rfl
  have s2 : u.1 60 3 = x1 := ex1.symm
  refine g_iconst (v := 1) dX7_isStuff_7 (by decide) ?_
  refine g_isub dX7_isStuff_8 ?_
  refine g_topi (fun x3 ex3 => ?_)
  refine g_i2l dX7_isStuff_9 ?_
  refine cl_X7_84 (As := [.long m.toInt64, .long 0, .long x3.toInt64]) rfl (c_X7_in (G := G) hs hu  m 0 x3  (d)) rfl (by omega) rfl (Nat.le_of_ble_eq_true rfl) dX7_isStuff_10 (fun r4 u5 q6 => ?_)
  obtain ⟨⟨x7, rfl, tx7, nx7, zx7⟩, mq6⟩ := q6
  rw [mq6]
  exact g_iret (ty := .boolean) dX7_isStuff_13 rfl (uk_nb tx7) ⟨⟨_, rfl, tx7, fun q => by first | trivial | (have := nx7 q; first | exact this | grind), fun q => by first | trivial | (have := zx7 q; first | exact this | grind)⟩, rfl⟩
abbrev q_X7_isRaw (u : uk_Mem) (m : Int32) (r : Option Value) (u' : uk_Mem) : Prop := (∃ x : Int32, r = some (.int x) ∧ (x = 0 ∨ x = 1) ∧ (¬ x = 0 → u.1 61 (32 + m).toNatClampNeg = 4) ∧ (x = 0 → ¬ u.1 61 (32 + m).toNatClampNeg = 4)) ∧ (u' = u)
set_option maxHeartbeats 4000000 in
set_option maxRecDepth 20000 in
theorem c_X7_isRaw {G : uk_D} (hs : uk_Sep G) {u : uk_Mem} (hu : iv u) (m : Int32) (p0 : 0 ≤ m) (p1 : m ≤ 7) (d : Nat) : uk_Meth G d mX7_isRaw [.ref (uk_ad G 60), .int m] u (q_X7_isRaw u m) := by
  refine uk_Meth.of hs (by decide) (Nat.le_of_ble_eq_true rfl) (fun X => ?_)
  refine g_aload_n dX7_isRaw_0 rfl ?_
  refine f_X7_7 rfl rfl dX7_isRaw_1 ?_
  refine g_bipush (v := 32) dX7_isRaw_4 (by decide) ?_
  refine g_iload_n dX7_isRaw_6 rfl ?_
  refine g_iadd dX7_isRaw_7 ?_
  refine g_topi (fun x1 ex1 => ?_)
  have v2 : vp_in x1 153 := uk_vin 153 rfl (by first | decide | lia | grind) (by first | decide | lia | grind)
  refine g_iald rfl rfl v2 dX7_isRaw_8 ?_
  refine g_topi (fun x3 ex3 => ?_)
  have bx3 := uk_cl v2
  have rx3 : 0 ≤ x1 → x1 ≤ 7 → 0 ≤ x3 ∧ x3 ≤ 40 := fun a b => by rw [ex3]; exact sg_0 hu (by unfold uk_is51; decide) a b
  have rrx3 : 43 ≤ x1 → x1 ≤ 50 → 0 ≤ x3 ∧ x3 ≤ 7 := fun a b => by rw [ex3]; exact sg_43 hu (by unfold uk_is51; decide) a b
  refine g_iconst (v := 4) dX7_isRaw_9 (by decide) ?_
  refine g_icmp_ne (tgt := 17) dX7_isRaw_10 (by decide) (fun c4 => ?_) (fun c4 => ?_)
  · refine g_iconst (v := 0) dX7_isRaw_17 (by decide) ?_
    exact g_iret (ty := .boolean) dX7_isRaw_18 rfl rfl ⟨⟨0, rfl, Or.inl rfl, fun q => absurd rfl q, fun _ => by first | trivial | lia | grind⟩, rfl⟩
  · refine g_iconst (v := 1) dX7_isRaw_13 (by decide) ?_
    refine g_goto (tgt := 18) dX7_isRaw_14 (by decide) ?_
    exact g_iret (ty := .boolean) dX7_isRaw_18 rfl rfl ⟨⟨1, rfl, Or.inr rfl, fun _ => by first | trivial | lia | grind, fun q => absurd q (by decide)⟩, rfl⟩
abbrev q_X7_isPart (u : uk_Mem) (w : Int32) (r : Option Value) (u' : uk_Mem) : Prop := (∃ x : Int32, r = some (.int x) ∧ (x = 0 ∨ x = 1) ∧ (¬ x = 0 → (w = 0 ∨ w = 1)) ∧ (x = 0 → True)) ∧ (u' = u)
set_option maxHeartbeats 4000000 in
set_option maxRecDepth 20000 in
theorem c_X7_isPart {G : uk_D} (hs : uk_Sep G) {u : uk_Mem} (hu : iv u) (w : Int32) (d : Nat) : uk_Meth G (d + 1) mX7_isPart [.int w] u (q_X7_isPart u w) := by
  refine uk_Meth.of hs (by decide) (Nat.le_of_ble_eq_true rfl) (fun X => ?_)
  refine g_iload_n dX7_isPart_0 rfl ?_
  refine g_i2l dX7_isPart_1 ?_
  refine g_lconst (v := 0) dX7_isPart_2 (by decide) ?_
  refine g_lconst (v := 1) dX7_isPart_3 (by decide) ?_
  refine cl_X7_84 (As := [.long w.toInt64, .long 0, .long 1]) rfl (c_X7_in (G := G) hs hu  w 0 1  (d)) rfl (by omega) rfl (Nat.le_of_ble_eq_true rfl) dX7_isPart_4 (fun r1 u2 q3 => ?_)
  obtain ⟨⟨x4, rfl, tx4, nx4, zx4⟩, mq3⟩ := q3
  rw [mq3]
  exact g_iret (ty := .boolean) dX7_isPart_7 rfl (uk_nb tx4) ⟨⟨_, rfl, tx4, fun q => by first | trivial | (have := nx4 q; first | exact this | grind), fun q => by first | trivial | (have := zx4 q; first | exact this | grind)⟩, rfl⟩
abbrev q_X7_givesSecond (u : uk_Mem) (m : Int32) (r : Option Value) (u' : uk_Mem) : Prop := (∃ x : Int32, r = some (.int x) ∧ (x = 0 ∨ x = 1) ∧ (¬ x = 0 → (u.1 62 (32 + m).toNatClampNeg = 0 ∨ (u.1 62 (32 + m).toNatClampNeg = 3 ∧ u.1 62 (8 + m).toNatClampNeg = 1))) ∧ (x = 0 → ¬ (u.1 62 (32 + m).toNatClampNeg = 0 ∨ (u.1 62 (32 + m).toNatClampNeg = 3 ∧ u.1 62 (8 + m).toNatClampNeg = 1)))) ∧ (u' = u)
set_option maxHeartbeats 4000000 in
set_option maxRecDepth 20000 in
theorem c_X7_givesSecond {G : uk_D} (hs : uk_Sep G) {u : uk_Mem} (hu : iv u) (m : Int32) (p0 : 0 ≤ m) (p1 : m ≤ 7) (d : Nat) : uk_Meth G d mX7_givesSecond [.ref (uk_ad G 60), .int m] u (q_X7_givesSecond u m) := by
  refine uk_Meth.of hs (by decide) (Nat.le_of_ble_eq_true rfl) (fun X => ?_)
  refine g_aload_n dX7_givesSecond_0 rfl ?_
  refine f_X7_13 rfl rfl dX7_givesSecond_1 ?_
  refine g_bipush (v := 32) dX7_givesSecond_4 (by decide) ?_
  refine g_iload_n dX7_givesSecond_6 rfl ?_
  refine g_iadd dX7_givesSecond_7 ?_
  refine g_topi (fun x1 ex1 => ?_)
  have v2 : vp_in x1 51 := uk_vin 51 rfl (by first | decide | lia | grind) (by first | decide | lia | grind)
  refine g_iald rfl rfl v2 dX7_givesSecond_8 ?_
  refine g_topi (fun x3 ex3 => ?_)
  have bx3 := uk_cl v2
  have rx3 : 0 ≤ x1 → x1 ≤ 7 → 0 ≤ x3 ∧ x3 ≤ 40 := fun a b => by rw [ex3]; exact sg_0 hu (by unfold uk_is51; decide) a b
  have rrx3 : 43 ≤ x1 → x1 ≤ 50 → 0 ≤ x3 ∧ x3 ≤ 7 := fun a b => by rw [ex3]; exact sg_43 hu (by unfold uk_is51; decide) a b
  refine g_if_eq (tgt := 38) dX7_givesSecond_9 (by decide) (fun c4 => ?_) (fun c4 => ?_)
  · refine g_iconst (v := 1) dX7_givesSecond_38 (by decide) ?_
    refine g_goto (tgt := 43) dX7_givesSecond_39 (by decide) ?_
    exact g_iret (ty := .boolean) dX7_givesSecond_43 rfl rfl ⟨⟨1, rfl, Or.inr rfl, fun _ => by first | trivial | lia | grind, fun q => absurd q (by decide)⟩, rfl⟩
  · refine g_aload_n dX7_givesSecond_12 rfl ?_
    refine f_X7_13 rfl rfl dX7_givesSecond_13 ?_
    refine g_bipush (v := 32) dX7_givesSecond_16 (by decide) ?_
    refine g_iload_n dX7_givesSecond_18 rfl ?_
    refine g_iadd dX7_givesSecond_19 ?_
    refine g_topi (fun x5 ex5 => ?_)
    have v6 : vp_in x5 51 := uk_vin 51 rfl (by first | decide | lia | grind) (by first | decide | lia | grind)
    refine g_iald rfl rfl v6 dX7_givesSecond_20 ?_
    refine g_topi (fun x7 ex7 => ?_)
    have bx7 := uk_cl v6
    have rx7 : 0 ≤ x5 → x5 ≤ 7 → 0 ≤ x7 ∧ x7 ≤ 40 := fun a b => by rw [ex7]; exact sg_0 hu (by unfold uk_is51; decide) a b
    have rrx7 : 43 ≤ x5 → x5 ≤ 50 → 0 ≤ x7 ∧ x7 ≤ 7 := fun a b => by rw [ex7]; exact sg_43 hu (by unfold uk_is51; decide) a b
    refine g_iconst (v := 3) dX7_givesSecond_21 (by decide) ?_
    refine g_icmp_ne (tgt := 42) dX7_givesSecond_22 (by decide) (fun c8 => ?_) (fun c8 => ?_)
    · refine g_iconst (v := 0) dX7_givesSecond_42 (by decide) ?_
      exact g_iret (ty := .boolean) dX7_givesSecond_43 rfl rfl ⟨⟨0, rfl, Or.inl rfl, fun q => absurd rfl q, fun _ => by first | trivial | lia | grind⟩, rfl⟩
    · refine g_aload_n dX7_givesSecond_25 rfl ?_
      refine f_X7_13 rfl rfl dX7_givesSecond_26 ?_
      refine g_bipush (v := 8) dX7_givesSecond_29 (by decide) ?_
      refine g_iload_n dX7_givesSecond_31 rfl ?_
      refine g_iadd dX7_givesSecond_32 ?_
      refine g_topi (fun x9 ex9 => ?_)
      have v10 : vp_in x9 51 := uk_vin 51 rfl (by first | decide | lia | grind) (by first | decide | lia | grind)
      refine g_iald rfl rfl v10 dX7_givesSecond_33 ?_
      refine g_topi (fun x11 ex11 => ?_)
      have bx11 := uk_cl v10
      have rx11 : 0 ≤ x9 → x9 ≤ 7 → 0 ≤ x11 ∧ x11 ≤ 40 := fun a b => by rw [ex11]; exact sg_0 hu (by unfold uk_is51; decide) a b
      have rrx11 : 43 ≤ x9 → x9 ≤ 50 → 0 ≤ x11 ∧ x11 ≤ 7 := fun a b => by rw [ex11]; exact sg_43 hu (by unfold uk_is51; decide) a b
      refine g_iconst (v := 1) dX7_givesSecond_34 (by decide) ?_
      refine g_icmp_ne (tgt := 42) dX7_givesSecond_35 (by decide) (fun c12 => ?_) (fun c12 => ?_)
      · refine g_iconst (v := 0) dX7_givesSecond_42 (by decide) ?_
        exact g_iret (ty := .boolean) dX7_givesSecond_43 rfl rfl ⟨⟨0, rfl, Or.inl rfl, fun q => absurd rfl q, fun _ => by first | trivial | lia | grind⟩, rfl⟩
      · refine g_iconst (v := 1) dX7_givesSecond_38 (by decide) ?_
        refine g_goto (tgt := 43) dX7_givesSecond_39 (by decide) ?_
        exact g_iret (ty := .boolean) dX7_givesSecond_43 rfl rfl ⟨⟨1, rfl, Or.inr rfl, fun _ => by first | trivial | lia | grind, fun q => absurd q (by decide)⟩, rfl⟩
abbrev q_X7_canCook (u : uk_Mem) (m : Int32) (r : Option Value) (u' : uk_Mem) : Prop := (∃ x : Int32, r = some (.int x) ∧ (x = 0 ∨ x = 1) ∧ (¬ x = 0 → 0 ≤ (u.1 64 (m).toNatClampNeg) ∧ (u.1 64 (m).toNatClampNeg) < m ∧ 0 ≤ (u.1 65 (m).toNatClampNeg) ∧ (u.1 65 (m).toNatClampNeg) < m ∧ u.1 62 (m).toNatClampNeg < 40 ∧ ((u.1 64 (m).toNatClampNeg) = (u.1 65 (m).toNatClampNeg) → 2 ≤ u.1 62 (u.1 64 (m).toNatClampNeg).toNatClampNeg) ∧ (¬ (u.1 64 (m).toNatClampNeg) = (u.1 65 (m).toNatClampNeg) → 1 ≤ u.1 62 (u.1 64 (m).toNatClampNeg).toNatClampNeg ∧ 1 ≤ u.1 62 (u.1 65 (m).toNatClampNeg).toNatClampNeg)) ∧ (x = 0 → True)) ∧ (u' = u)
set_option maxHeartbeats 4000000 in
set_option maxRecDepth 20000 in
theorem c_X7_canCook {G : uk_D} (hs : uk_Sep G) {u : uk_Mem} (hu : iv u) (hra : ra u) (m : Int32) (p0 : 0 ≤ m) (p1 : m < u.1 60 3) (p2 : m ≤ 7) (d : Nat) : uk_Meth G d mX7_canCook [.ref (uk_ad G 60), .int m] u (q_X7_canCook u m) := by
  refine uk_Meth.of hs (by decide) (Nat.le_of_ble_eq_true rfl) (fun X => ?_)
  have hk : u.1 62 (32 + m).toNatClampNeg = 4 ∨ (0 ≤ u.1 64 m.toNatClampNeg ∧ u.1 64 m.toNatClampNeg < m ∧ 0 ≤ u.1 65 m.toNatClampNeg ∧ u.1 65 m.toNatClampNeg < m) := hra m p0 p1 p2
  refine g_aload_n dX7_canCook_0 rfl ?_
  refine f_X7_13 rfl rfl dX7_canCook_1 ?_
  refine g_bipush (v := 32) dX7_canCook_4 (by decide) ?_
  refine g_iload_n dX7_canCook_6 rfl ?_
  refine g_iadd dX7_canCook_7 ?_
  refine g_topi (fun x1 ex1 => ?_)
  have v2 : vp_in x1 51 := uk_vin 51 rfl (by first | decide | lia | grind) (by first | decide | lia | grind)
  refine g_iald rfl rfl v2 dX7_canCook_8 ?_
  refine g_topi (fun x3 ex3 => ?_)
  have bx3 := uk_cl v2
  have rx3 : 0 ≤ x1 → x1 ≤ 7 → 0 ≤ x3 ∧ x3 ≤ 40 := fun a b => by rw [ex3]; exact sg_0 hu (by unfold uk_is51; decide) a b
  have rrx3 : 43 ≤ x1 → x1 ≤ 50 → 0 ≤ x3 ∧ x3 ≤ 7 := fun a b => by rw [ex3]; exact sg_43 hu (by unfold uk_is51; decide) a b
  refine g_iconst (v := 4) dX7_canCook_9 (by decide) ?_
  refine g_icmp_eq (tgt := 26) dX7_canCook_10 (by decide) (fun c4 => ?_) (fun c4 => ?_)
  · refine g_iconst (v := 0) dX7_canCook_26 (by decide) ?_
    exact g_iret (ty := .boolean) dX7_canCook_27 rfl rfl ⟨⟨0, rfl, Or.inl rfl, fun q => absurd rfl q, fun _ => by first | trivial | lia | grind⟩, rfl⟩
  · refine g_aload_n dX7_canCook_13 rfl ?_
    refine f_X7_13 rfl rfl dX7_canCook_14 ?_
    refine g_iconst (v := 0) dX7_canCook_17 (by decide) ?_
    refine g_iload_n dX7_canCook_18 rfl ?_
    refine g_iadd dX7_canCook_19 ?_
    refine g_topi (fun x5 ex5 => ?_)
    have v6 : vp_in x5 51 := uk_vin 51 rfl (by first | decide | lia | grind) (by first | decide | lia | grind)
    refine g_iald rfl rfl v6 dX7_canCook_20 ?_
    refine g_topi (fun x7 ex7 => ?_)
    have bx7 := uk_cl v6
    have rx7 : 0 ≤ x5 → x5 ≤ 7 → 0 ≤ x7 ∧ x7 ≤ 40 := fun a b => by rw [ex7]; exact sg_0 hu (by unfold uk_is51; decide) a b
    have rrx7 : 43 ≤ x5 → x5 ≤ 50 → 0 ≤ x7 ∧ x7 ≤ 7 := fun a b => by rw [ex7]; exact sg_43 hu (by unfold uk_is51; decide) a b
    refine g_bipush (v := 40) dX7_canCook_21 (by decide) ?_
    refine g_icmp_ne (tgt := 28) dX7_canCook_23 (by decide) (fun c8 => ?_) (fun c8 => ?_)
    · refine g_aload_n dX7_canCook_28 rfl ?_
      refine f_X7_20 rfl rfl dX7_canCook_29 ?_
      refine g_iload_n dX7_canCook_32 rfl ?_
      have v9 : vp_in m 8 := uk_vin 8 rfl (by first | decide | lia | grind) (by first | decide | lia | grind)
      refine g_iald rfl rfl v9 dX7_canCook_33 ?_
      refine g_topi (fun x10 ex10 => ?_)
      have bx10 := uk_cl v9
      have rx10 : (-4) ≤ x10 ∧ x10 ≤ 7 := by rw [ex10]; exact iv_at hu _ _ (uk_pick1 _ (by omega))
      refine g_istore_n dX7_canCook_34 (by decide) ?_
      refine g_aload_n dX7_canCook_35 rfl ?_
      refine f_X7_23 rfl rfl dX7_canCook_36 ?_
      refine g_iload_n dX7_canCook_39 rfl ?_
      have v11 : vp_in m 8 := uk_vin 8 rfl (by first | decide | lia | grind) (by first | decide | lia | grind)
      refine g_iald rfl rfl v11 dX7_canCook_40 ?_
      refine g_topi (fun x12 ex12 => ?_)
      have bx12 := uk_cl v11
      have rx12 : (-4) ≤ x12 ∧ x12 ≤ 7 := by rw [ex12]; exact iv_at hu _ _ (uk_pick1 _ (by omega))
      refine g_istore_n dX7_canCook_41 (by decide) ?_
      refine g_iload_n dX7_canCook_42 rfl ?_
      refine g_iload_n dX7_canCook_43 rfl ?_
      refine g_icmp_ne (tgt := 67) dX7_canCook_44 (by decide) (fun c13 => ?_) (fun c13 => ?_)
      · refine g_aload_n dX7_canCook_67 rfl ?_
        refine f_X7_13 rfl rfl dX7_canCook_68 ?_
        refine g_iconst (v := 0) dX7_canCook_71 (by decide) ?_
        refine g_iload_n dX7_canCook_72 rfl ?_
        refine g_iadd dX7_canCook_73 ?_
        refine g_topi (fun x14 ex14 => ?_)
        have v15 : vp_in x14 51 := uk_vin 51 rfl (by first | decide | lia | grind) (by first | decide | lia | grind)
        refine g_iald rfl rfl v15 dX7_canCook_74 ?_
        refine g_topi (fun x16 ex16 => ?_)
        have bx16 := uk_cl v15
        have rx16 : 0 ≤ x14 → x14 ≤ 7 → 0 ≤ x16 ∧ x16 ≤ 40 := fun a b => by rw [ex16]; exact sg_0 hu (by unfold uk_is51; decide) a b
        have rrx16 : 43 ≤ x14 → x14 ≤ 50 → 0 ≤ x16 ∧ x16 ≤ 7 := fun a b => by rw [ex16]; exact sg_43 hu (by unfold uk_is51; decide) a b
        refine g_if_le (tgt := 93) dX7_canCook_75 (by decide) (fun c17 => ?_) (fun c17 => ?_)
        · refine g_iconst (v := 0) dX7_canCook_93 (by decide) ?_
          exact g_iret (ty := .boolean) dX7_canCook_94 rfl rfl ⟨⟨0, rfl, Or.inl rfl, fun q => absurd rfl q, fun _ => by first | trivial | lia | grind⟩, rfl⟩
        · refine g_aload_n dX7_canCook_78 rfl ?_
          refine f_X7_13 rfl rfl dX7_canCook_79 ?_
          refine g_iconst (v := 0) dX7_canCook_82 (by decide) ?_
          refine g_iload_n dX7_canCook_83 rfl ?_
          refine g_iadd dX7_canCook_84 ?_
          refine g_topi (fun x18 ex18 => ?_)
          have v19 : vp_in x18 51 := uk_vin 51 rfl (by first | decide | lia | grind) (by first | decide | lia | grind)
          refine g_iald rfl rfl v19 dX7_canCook_85 ?_
          refine g_topi (fun x20 ex20 => ?_)
          have bx20 := uk_cl v19
          have rx20 : 0 ≤ x18 → x18 ≤ 7 → 0 ≤ x20 ∧ x20 ≤ 40 := fun a b => by rw [ex20]; exact sg_0 hu (by unfold uk_is51; decide) a b
          have rrx20 : 43 ≤ x18 → x18 ≤ 50 → 0 ≤ x20 ∧ x20 ≤ 7 := fun a b => by rw [ex20]; exact sg_43 hu (by unfold uk_is51; decide) a b
          refine g_if_le (tgt := 93) dX7_canCook_86 (by decide) (fun c21 => ?_) (fun c21 => ?_)
          · refine g_iconst (v := 0) dX7_canCook_93 (by decide) ?_
            exact g_iret (ty := .boolean) dX7_canCook_94 rfl rfl ⟨⟨0, rfl, Or.inl rfl, fun q => absurd rfl q, fun _ => by first | trivial | lia | grind⟩, rfl⟩
          · refine g_iconst (v := 1) dX7_canCook_89 (by decide) ?_
            refine g_goto (tgt := 94) dX7_canCook_90 (by decide) ?_
            exact g_iret (ty := .boolean) dX7_canCook_94 rfl rfl ⟨⟨1, rfl, Or.inr rfl, fun _ => by first | trivial | lia | grind, fun q => absurd q (by decide)⟩, rfl⟩
      · refine g_aload_n dX7_canCook_47 rfl ?_
        refine f_X7_13 rfl rfl dX7_canCook_48 ?_
        refine g_iconst (v := 0) dX7_canCook_51 (by decide) ?_
        refine g_iload_n dX7_canCook_52 rfl ?_
        refine g_iadd dX7_canCook_53 ?_
        refine g_topi (fun x22 ex22 => ?_)
        have v23 : vp_in x22 51 := uk_vin 51 rfl (by first | decide | lia | grind) (by first | decide | lia | grind)
        refine g_iald rfl rfl v23 dX7_canCook_54 ?_
        refine g_topi (fun x24 ex24 => ?_)
        have bx24 := uk_cl v23
        have rx24 : 0 ≤ x22 → x22 ≤ 7 → 0 ≤ x24 ∧ x24 ≤ 40 := fun a b => by rw [ex24]; exact sg_0 hu (by unfold uk_is51; decide) a b
        have rrx24 : 43 ≤ x22 → x22 ≤ 50 → 0 ≤ x24 ∧ x24 ≤ 7 := fun a b => by rw [ex24]; exact sg_43 hu (by unfold uk_is51; decide) a b
        refine g_iconst (v := 1) dX7_canCook_55 (by decide) ?_
        refine g_icmp_le (tgt := 63) dX7_canCook_56 (by decide) (fun c25 => ?_) (fun c25 => ?_)
        · refine g_iconst (v := 0) dX7_canCook_63 (by decide) ?_
          refine g_goto (tgt := 94) dX7_canCook_64 (by decide) ?_
          exact g_iret (ty := .boolean) dX7_canCook_94 rfl rfl ⟨⟨0, rfl, Or.inl rfl, fun q => absurd rfl q, fun _ => by first | trivial | lia | grind⟩, rfl⟩
        · refine g_iconst (v := 1) dX7_canCook_59 (by decide) ?_
          refine g_goto (tgt := 94) dX7_canCook_60 (by decide) ?_
          exact g_iret (ty := .boolean) dX7_canCook_94 rfl rfl ⟨⟨1, rfl, Or.inr rfl, fun _ => by first | trivial | lia | grind, fun q => absurd q (by decide)⟩, rfl⟩
    · refine g_iconst (v := 0) dX7_canCook_26 (by decide) ?_
      exact g_iret (ty := .boolean) dX7_canCook_27 rfl rfl ⟨⟨0, rfl, Or.inl rfl, fun q => absurd rfl q, fun _ => by first | trivial | lia | grind⟩, rfl⟩
abbrev q_X7_canTurn (u : uk_Mem) (m : Int32) (r : Option Value) (u' : uk_Mem) : Prop := (∃ x : Int32, r = some (.int x) ∧ (x = 0 ∨ x = 1) ∧ (¬ x = 0 → 0 ≤ (u.1 64 (m).toNatClampNeg) ∧ (u.1 64 (m).toNatClampNeg) < m ∧ 0 ≤ (u.1 65 (m).toNatClampNeg) ∧ (u.1 65 (m).toNatClampNeg) < m ∧ 1 ≤ u.1 62 (m).toNatClampNeg ∧ u.1 62 (u.1 64 (m).toNatClampNeg).toNatClampNeg < 40 ∧ ((u.1 62 (32 + m).toNatClampNeg = 0 ∨ (u.1 62 (32 + m).toNatClampNeg = 3 ∧ u.1 62 (8 + m).toNatClampNeg = 1)) → (u.1 64 (m).toNatClampNeg) = (u.1 65 (m).toNatClampNeg) → u.1 62 (u.1 64 (m).toNatClampNeg).toNatClampNeg + 2 ≤ 40) ∧ ((u.1 62 (32 + m).toNatClampNeg = 0 ∨ (u.1 62 (32 + m).toNatClampNeg = 3 ∧ u.1 62 (8 + m).toNatClampNeg = 1)) → ¬ (u.1 64 (m).toNatClampNeg) = (u.1 65 (m).toNatClampNeg) → u.1 62 (u.1 65 (m).toNatClampNeg).toNatClampNeg < 40)) ∧ (x = 0 → True)) ∧ (u' = u)
set_option maxHeartbeats 4000000 in
set_option maxRecDepth 20000 in
theorem c_X7_canTurn {G : uk_D} (hs : uk_Sep G) {u : uk_Mem} (hu : iv u) (hra : ra u) (m : Int32) (p0 : 0 ≤ m) (p1 : m < u.1 60 3) (p2 : m ≤ 7) (d : Nat) : uk_Meth G (d + 1) mX7_canTurn [.ref (uk_ad G 60), .int m] u (q_X7_canTurn u m) := by
  refine uk_Meth.of hs (by decide) (Nat.le_of_ble_eq_true rfl) (fun X => ?_)
  have hk : u.1 62 (32 + m).toNatClampNeg = 4 ∨ (0 ≤ u.1 64 m.toNatClampNeg ∧ u.1 64 m.toNatClampNeg < m ∧ 0 ≤ u.1 65 m.toNatClampNeg ∧ u.1 65 m.toNatClampNeg < m) := hra m p0 p1 p2
  refine g_aload_n dX7_canTurn_0 rfl ?_
  refine f_X7_13 rfl rfl dX7_canTurn_1 ?_
  refine g_bipush (v := 32) dX7_canTurn_4 (by decide) ?_
  refine g_iload_n dX7_canTurn_6 rfl ?_
  refine g_iadd dX7_canTurn_7 ?_
  refine g_topi (fun x1 ex1 => ?_)
  have v2 : vp_in x1 51 := uk_vin 51 rfl (by first | decide | lia | grind) (by first | decide | lia | grind)
  refine g_iald rfl rfl v2 dX7_canTurn_8 ?_
  refine g_topi (fun x3 ex3 => ?_)
  have bx3 := uk_cl v2
  have rx3 : 0 ≤ x1 → x1 ≤ 7 → 0 ≤ x3 ∧ x3 ≤ 40 := fun a b => by rw [ex3]; exact sg_0 hu (by unfold uk_is51; decide) a b
  have rrx3 : 43 ≤ x1 → x1 ≤ 50 → 0 ≤ x3 ∧ x3 ≤ 7 := fun a b => by rw [ex3]; exact sg_43 hu (by unfold uk_is51; decide) a b
  refine g_iconst (v := 4) dX7_canTurn_9 (by decide) ?_
  refine g_icmp_eq (tgt := 37) dX7_canTurn_10 (by decide) (fun c4 => ?_) (fun c4 => ?_)
  · refine g_iconst (v := 0) dX7_canTurn_37 (by decide) ?_
    exact g_iret (ty := .boolean) dX7_canTurn_38 rfl rfl ⟨⟨0, rfl, Or.inl rfl, fun q => absurd rfl q, fun _ => by first | trivial | lia | grind⟩, rfl⟩
  · refine g_aload_n dX7_canTurn_13 rfl ?_
    refine f_X7_13 rfl rfl dX7_canTurn_14 ?_
    refine g_bipush (v := 32) dX7_canTurn_17 (by decide) ?_
    refine g_iload_n dX7_canTurn_19 rfl ?_
    refine g_iadd dX7_canTurn_20 ?_
    refine g_topi (fun x5 ex5 => ?_)
    have v6 : vp_in x5 51 := uk_vin 51 rfl (by first | decide | lia | grind) (by first | decide | lia | grind)
    refine g_iald rfl rfl v6 dX7_canTurn_21 ?_
    refine g_topi (fun x7 ex7 => ?_)
    have bx7 := uk_cl v6
    have rx7 : 0 ≤ x5 → x5 ≤ 7 → 0 ≤ x7 ∧ x7 ≤ 40 := fun a b => by rw [ex7]; exact sg_0 hu (by unfold uk_is51; decide) a b
    have rrx7 : 43 ≤ x5 → x5 ≤ 50 → 0 ≤ x7 ∧ x7 ≤ 7 := fun a b => by rw [ex7]; exact sg_43 hu (by unfold uk_is51; decide) a b
    refine g_iconst (v := 2) dX7_canTurn_22 (by decide) ?_
    refine g_icmp_eq (tgt := 37) dX7_canTurn_23 (by decide) (fun c8 => ?_) (fun c8 => ?_)
    · refine g_iconst (v := 0) dX7_canTurn_37 (by decide) ?_
      exact g_iret (ty := .boolean) dX7_canTurn_38 rfl rfl ⟨⟨0, rfl, Or.inl rfl, fun q => absurd rfl q, fun _ => by first | trivial | lia | grind⟩, rfl⟩
    · refine g_aload_n dX7_canTurn_26 rfl ?_
      refine f_X7_13 rfl rfl dX7_canTurn_27 ?_
      refine g_iconst (v := 0) dX7_canTurn_30 (by decide) ?_
      refine g_iload_n dX7_canTurn_31 rfl ?_
      refine g_iadd dX7_canTurn_32 ?_
      refine g_topi (fun x9 ex9 => ?_)
      have v10 : vp_in x9 51 := uk_vin 51 rfl (by first | decide | lia | grind) (by first | decide | lia | grind)
      refine g_iald rfl rfl v10 dX7_canTurn_33 ?_
      refine g_topi (fun x11 ex11 => ?_)
      have bx11 := uk_cl v10
      have rx11 : 0 ≤ x9 → x9 ≤ 7 → 0 ≤ x11 ∧ x11 ≤ 40 := fun a b => by rw [ex11]; exact sg_0 hu (by unfold uk_is51; decide) a b
      have rrx11 : 43 ≤ x9 → x9 ≤ 50 → 0 ≤ x11 ∧ x11 ≤ 7 := fun a b => by rw [ex11]; exact sg_43 hu (by unfold uk_is51; decide) a b
      refine g_if_ne (tgt := 39) dX7_canTurn_34 (by decide) (fun c12 => ?_) (fun c12 => ?_)
      · refine g_aload_n dX7_canTurn_39 rfl ?_
        refine f_X7_20 rfl rfl dX7_canTurn_40 ?_
        refine g_iload_n dX7_canTurn_43 rfl ?_
        have v13 : vp_in m 8 := uk_vin 8 rfl (by first | decide | lia | grind) (by first | decide | lia | grind)
        refine g_iald rfl rfl v13 dX7_canTurn_44 ?_
        refine g_topi (fun x14 ex14 => ?_)
        have bx14 := uk_cl v13
        have rx14 : (-4) ≤ x14 ∧ x14 ≤ 7 := by rw [ex14]; exact iv_at hu _ _ (uk_pick1 _ (by omega))
        refine g_istore_n dX7_canTurn_45 (by decide) ?_
        refine g_aload_n dX7_canTurn_46 rfl ?_
        refine f_X7_23 rfl rfl dX7_canTurn_47 ?_
        refine g_iload_n dX7_canTurn_50 rfl ?_
        have v15 : vp_in m 8 := uk_vin 8 rfl (by first | decide | lia | grind) (by first | decide | lia | grind)
        refine g_iald rfl rfl v15 dX7_canTurn_51 ?_
        refine g_topi (fun x16 ex16 => ?_)
        have bx16 := uk_cl v15
        have rx16 : (-4) ≤ x16 ∧ x16 ≤ 7 := by rw [ex16]; exact iv_at hu _ _ (uk_pick1 _ (by omega))
        refine g_istore_n dX7_canTurn_52 (by decide) ?_
        refine g_aload_n dX7_canTurn_53 rfl ?_
        refine g_iload_n dX7_canTurn_54 rfl ?_
        refine cl_X7_153 (c := 60) (As := [.int m]) rfl (c_X7_givesSecond (G := G) hs hu  m (by first | trivial | decide | lia | grind) (by first | trivial | decide | lia | grind) (d)) rfl (by omega) rfl rfl (Nat.le_of_ble_eq_true rfl) dX7_canTurn_55 (fun r17 u18 q19 => ?_)
        obtain ⟨⟨x20, rfl, tx20, nx20, zx20⟩, mq19⟩ := q19
        rw [mq19]
        refine g_if_eq (tgt := 70) dX7_canTurn_58 (by decide) (fun c21 => ?_) (fun c21 => ?_)
        · have zc21 := zx20 c21
          refine g_iconst (v := 1) dX7_canTurn_70 (by decide) ?_
          refine g_istore dX7_canTurn_71 (by decide) ?_
          refine g_aload_n dX7_canTurn_73 rfl ?_
          refine f_X7_13 rfl rfl dX7_canTurn_74 ?_
          refine g_iconst (v := 0) dX7_canTurn_77 (by decide) ?_
          refine g_iload_n dX7_canTurn_78 rfl ?_
          refine g_iadd dX7_canTurn_79 ?_
          refine g_topi (fun x22 ex22 => ?_)
          have v23 : vp_in x22 51 := uk_vin 51 rfl (by first | decide | lia | grind) (by first | decide | lia | grind)
          refine g_iald rfl rfl v23 dX7_canTurn_80 ?_
          refine g_topi (fun x24 ex24 => ?_)
          have bx24 := uk_cl v23
          have rx24 : 0 ≤ x22 → x22 ≤ 7 → 0 ≤ x24 ∧ x24 ≤ 40 := fun a b => by rw [ex24]; exact sg_0 hu (by unfold uk_is51; decide) a b
          have rrx24 : 43 ≤ x22 → x22 ≤ 50 → 0 ≤ x24 ∧ x24 ≤ 7 := fun a b => by rw [ex24]; exact sg_43 hu (by unfold uk_is51; decide) a b
          refine g_iload dX7_canTurn_81 rfl ?_
          refine g_iadd dX7_canTurn_83 ?_
          refine g_topi (fun x25 ex25 => ?_)
          refine g_bipush (v := 40) dX7_canTurn_84 (by decide) ?_
          refine g_icmp_gt (tgt := 119) dX7_canTurn_86 (by decide) (fun c26 => ?_) (fun c26 => ?_)
          · refine g_iconst (v := 0) dX7_canTurn_119 (by decide) ?_
            exact g_iret (ty := .boolean) dX7_canTurn_120 rfl rfl ⟨⟨0, rfl, Or.inl rfl, fun q => absurd rfl q, fun _ => by first | trivial | lia | grind⟩, rfl⟩
          · refine g_aload_n dX7_canTurn_89 rfl ?_
            refine g_iload_n dX7_canTurn_90 rfl ?_
            refine cl_X7_153 (c := 60) (As := [.int m]) rfl (c_X7_givesSecond (G := G) hs hu  m (by first | trivial | decide | lia | grind) (by first | trivial | decide | lia | grind) (d)) rfl (by omega) rfl rfl (Nat.le_of_ble_eq_true rfl) dX7_canTurn_91 (fun r27 u28 q29 => ?_)
            obtain ⟨⟨x30, rfl, tx30, nx30, zx30⟩, mq29⟩ := q29
            rw [mq29]
            refine g_if_eq (tgt := 115) dX7_canTurn_94 (by decide) (fun c31 => ?_) (fun c31 => ?_)
            · have zc31 := zx30 c31
              refine g_iconst (v := 1) dX7_canTurn_115 (by decide) ?_
              refine g_goto (tgt := 120) dX7_canTurn_116 (by decide) ?_
              exact g_iret (ty := .boolean) dX7_canTurn_120 rfl rfl ⟨⟨1, rfl, Or.inr rfl, fun _ => by first | trivial | lia | grind, fun q => absurd q (by decide)⟩, rfl⟩
            · have zc31 := nx30 c31
              refine g_iload_n dX7_canTurn_97 rfl ?_
              refine g_iload_n dX7_canTurn_98 rfl ?_
              refine g_icmp_eq (tgt := 115) dX7_canTurn_99 (by decide) (fun c32 => ?_) (fun c32 => ?_)
              · refine g_iconst (v := 1) dX7_canTurn_115 (by decide) ?_
                refine g_goto (tgt := 120) dX7_canTurn_116 (by decide) ?_
                exact g_iret (ty := .boolean) dX7_canTurn_120 rfl rfl ⟨⟨1, rfl, Or.inr rfl, fun _ => by first | trivial | lia | grind, fun q => absurd q (by decide)⟩, rfl⟩
              · refine g_aload_n dX7_canTurn_102 rfl ?_
                refine f_X7_13 rfl rfl dX7_canTurn_103 ?_
                refine g_iconst (v := 0) dX7_canTurn_106 (by decide) ?_
                refine g_iload_n dX7_canTurn_107 rfl ?_
                refine g_iadd dX7_canTurn_108 ?_
                refine g_topi (fun x33 ex33 => ?_)
                have v34 : vp_in x33 51 := uk_vin 51 rfl (by first | decide | lia | grind) (by first | decide | lia | grind)
                refine g_iald rfl rfl v34 dX7_canTurn_109 ?_
                refine g_topi (fun x35 ex35 => ?_)
                have bx35 := uk_cl v34
                have rx35 : 0 ≤ x33 → x33 ≤ 7 → 0 ≤ x35 ∧ x35 ≤ 40 := fun a b => by rw [ex35]; exact sg_0 hu (by unfold uk_is51; decide) a b
                have rrx35 : 43 ≤ x33 → x33 ≤ 50 → 0 ≤ x35 ∧ x35 ≤ 7 := fun a b => by rw [ex35]; exact sg_43 hu (by unfold uk_is51; decide) a b
                refine g_bipush (v := 40) dX7_canTurn_110 (by decide) ?_
                refine g_icmp_ge (tgt := 119) dX7_canTurn_112 (by decide) (fun c36 => ?_) (fun c36 => ?_)
                · refine g_iconst (v := 0) dX7_canTurn_119 (by decide) ?_
                  exact g_iret (ty := .boolean) dX7_canTurn_120 rfl rfl ⟨⟨0, rfl, Or.inl rfl, fun q => absurd rfl q, fun _ => by first | trivial | lia | grind⟩, rfl⟩
                · refine g_iconst (v := 1) dX7_canTurn_115 (by decide) ?_
                  refine g_goto (tgt := 120) dX7_canTurn_116 (by decide) ?_
                  exact g_iret (ty := .boolean) dX7_canTurn_120 rfl rfl ⟨⟨1, rfl, Or.inr rfl, fun _ => by first | trivial | lia | grind, fun q => absurd q (by decide)⟩, rfl⟩
        · have zc21 := nx20 c21
          refine g_iload_n dX7_canTurn_61 rfl ?_
          refine g_iload_n dX7_canTurn_62 rfl ?_
          refine g_icmp_ne (tgt := 70) dX7_canTurn_63 (by decide) (fun c37 => ?_) (fun c37 => ?_)
          · refine g_iconst (v := 1) dX7_canTurn_70 (by decide) ?_
            refine g_istore dX7_canTurn_71 (by decide) ?_
            refine g_aload_n dX7_canTurn_73 rfl ?_
            refine f_X7_13 rfl rfl dX7_canTurn_74 ?_
            refine g_iconst (v := 0) dX7_canTurn_77 (by decide) ?_
            refine g_iload_n dX7_canTurn_78 rfl ?_
            refine g_iadd dX7_canTurn_79 ?_
            refine g_topi (fun x38 ex38 => ?_)
            have v39 : vp_in x38 51 := uk_vin 51 rfl (by first | decide | lia | grind) (by first | decide | lia | grind)
            refine g_iald rfl rfl v39 dX7_canTurn_80 ?_
            refine g_topi (fun x40 ex40 => ?_)
            have bx40 := uk_cl v39
            have rx40 : 0 ≤ x38 → x38 ≤ 7 → 0 ≤ x40 ∧ x40 ≤ 40 := fun a b => by rw [ex40]; exact sg_0 hu (by unfold uk_is51; decide) a b
            have rrx40 : 43 ≤ x38 → x38 ≤ 50 → 0 ≤ x40 ∧ x40 ≤ 7 := fun a b => by rw [ex40]; exact sg_43 hu (by unfold uk_is51; decide) a b
            refine g_iload dX7_canTurn_81 rfl ?_
            refine g_iadd dX7_canTurn_83 ?_
            refine g_topi (fun x41 ex41 => ?_)
            refine g_bipush (v := 40) dX7_canTurn_84 (by decide) ?_
            refine g_icmp_gt (tgt := 119) dX7_canTurn_86 (by decide) (fun c42 => ?_) (fun c42 => ?_)
            · refine g_iconst (v := 0) dX7_canTurn_119 (by decide) ?_
              exact g_iret (ty := .boolean) dX7_canTurn_120 rfl rfl ⟨⟨0, rfl, Or.inl rfl, fun q => absurd rfl q, fun _ => by first | trivial | lia | grind⟩, rfl⟩
            · refine g_aload_n dX7_canTurn_89 rfl ?_
              refine g_iload_n dX7_canTurn_90 rfl ?_
              refine cl_X7_153 (c := 60) (As := [.int m]) rfl (c_X7_givesSecond (G := G) hs hu  m (by first | trivial | decide | lia | grind) (by first | trivial | decide | lia | grind) (d)) rfl (by omega) rfl rfl (Nat.le_of_ble_eq_true rfl) dX7_canTurn_91 (fun r43 u44 q45 => ?_)
              obtain ⟨⟨x46, rfl, tx46, nx46, zx46⟩, mq45⟩ := q45
              rw [mq45]
              refine g_if_eq (tgt := 115) dX7_canTurn_94 (by decide) (fun c47 => ?_) (fun c47 => ?_)
              · have zc47 := zx46 c47
                refine g_iconst (v := 1) dX7_canTurn_115 (by decide) ?_
                refine g_goto (tgt := 120) dX7_canTurn_116 (by decide) ?_
                exact g_iret (ty := .boolean) dX7_canTurn_120 rfl rfl ⟨⟨1, rfl, Or.inr rfl, fun _ => by first | trivial | lia | grind, fun q => absurd q (by decide)⟩, rfl⟩
              · have zc47 := nx46 c47
                refine g_iload_n dX7_canTurn_97 rfl ?_
                refine g_iload_n dX7_canTurn_98 rfl ?_
                refine g_icmp_eq (tgt := 115) dX7_canTurn_99 (by decide) (fun c48 => ?_) (fun c48 => ?_)
                · refine g_iconst (v := 1) dX7_canTurn_115 (by decide) ?_
                  refine g_goto (tgt := 120) dX7_canTurn_116 (by decide) ?_
                  exact g_iret (ty := .boolean) dX7_canTurn_120 rfl rfl ⟨⟨1, rfl, Or.inr rfl, fun _ => by first | trivial | lia | grind, fun q => absurd q (by decide)⟩, rfl⟩
                · refine g_aload_n dX7_canTurn_102 rfl ?_
                  refine f_X7_13 rfl rfl dX7_canTurn_103 ?_
                  refine g_iconst (v := 0) dX7_canTurn_106 (by decide) ?_
                  refine g_iload_n dX7_canTurn_107 rfl ?_
                  refine g_iadd dX7_canTurn_108 ?_
                  refine g_topi (fun x49 ex49 => ?_)
                  have v50 : vp_in x49 51 := uk_vin 51 rfl (by first | decide | lia | grind) (by first | decide | lia | grind)
                  refine g_iald rfl rfl v50 dX7_canTurn_109 ?_
                  refine g_topi (fun x51 ex51 => ?_)
                  have bx51 := uk_cl v50
                  have rx51 : 0 ≤ x49 → x49 ≤ 7 → 0 ≤ x51 ∧ x51 ≤ 40 := fun a b => by rw [ex51]; exact sg_0 hu (by unfold uk_is51; decide) a b
                  have rrx51 : 43 ≤ x49 → x49 ≤ 50 → 0 ≤ x51 ∧ x51 ≤ 7 := fun a b => by rw [ex51]; exact sg_43 hu (by unfold uk_is51; decide) a b
                  refine g_bipush (v := 40) dX7_canTurn_110 (by decide) ?_
                  refine g_icmp_ge (tgt := 119) dX7_canTurn_112 (by decide) (fun c52 => ?_) (fun c52 => ?_)
                  · refine g_iconst (v := 0) dX7_canTurn_119 (by decide) ?_
                    exact g_iret (ty := .boolean) dX7_canTurn_120 rfl rfl ⟨⟨0, rfl, Or.inl rfl, fun q => absurd rfl q, fun _ => by first | trivial | lia | grind⟩, rfl⟩
                  · refine g_iconst (v := 1) dX7_canTurn_115 (by decide) ?_
                    refine g_goto (tgt := 120) dX7_canTurn_116 (by decide) ?_
                    exact g_iret (ty := .boolean) dX7_canTurn_120 rfl rfl ⟨⟨1, rfl, Or.inr rfl, fun _ => by first | trivial | lia | grind, fun q => absurd q (by decide)⟩, rfl⟩
          · refine g_iconst (v := 2) dX7_canTurn_66 (by decide) ?_
            refine g_goto (tgt := 71) dX7_canTurn_67 (by decide) ?_
            refine g_istore dX7_canTurn_71 (by decide) ?_
            refine g_aload_n dX7_canTurn_73 rfl ?_
            refine f_X7_13 rfl rfl dX7_canTurn_74 ?_
            refine g_iconst (v := 0) dX7_canTurn_77 (by decide) ?_
            refine g_iload_n dX7_canTurn_78 rfl ?_
            refine g_iadd dX7_canTurn_79 ?_
            refine g_topi (fun x53 ex53 => ?_)
            have v54 : vp_in x53 51 := uk_vin 51 rfl (by first | decide | lia | grind) (by first | decide | lia | grind)
            refine g_iald rfl rfl v54 dX7_canTurn_80 ?_
            refine g_topi (fun x55 ex55 => ?_)
            have bx55 := uk_cl v54
            have rx55 : 0 ≤ x53 → x53 ≤ 7 → 0 ≤ x55 ∧ x55 ≤ 40 := fun a b => by rw [ex55]; exact sg_0 hu (by unfold uk_is51; decide) a b
            have rrx55 : 43 ≤ x53 → x53 ≤ 50 → 0 ≤ x55 ∧ x55 ≤ 7 := fun a b => by rw [ex55]; exact sg_43 hu (by unfold uk_is51; decide) a b
            refine g_iload dX7_canTurn_81 rfl ?_
            refine g_iadd dX7_canTurn_83 ?_
            refine g_topi (fun x56 ex56 => ?_)
            refine g_bipush (v := 40) dX7_canTurn_84 (by decide) ?_
            refine g_icmp_gt (tgt := 119) dX7_canTurn_86 (by decide) (fun c57 => ?_) (fun c57 => ?_)
            · refine g_iconst (v := 0) dX7_canTurn_119 (by decide) ?_
              exact g_iret (ty := .boolean) dX7_canTurn_120 rfl rfl ⟨⟨0, rfl, Or.inl rfl, fun q => absurd rfl q, fun _ => by first | trivial | lia | grind⟩, rfl⟩
            · refine g_aload_n dX7_canTurn_89 rfl ?_
              refine g_iload_n dX7_canTurn_90 rfl ?_
              refine cl_X7_153 (c := 60) (As := [.int m]) rfl (c_X7_givesSecond (G := G) hs hu  m (by first | trivial | decide | lia | grind) (by first | trivial | decide | lia | grind) (d)) rfl (by omega) rfl rfl (Nat.le_of_ble_eq_true rfl) dX7_canTurn_91 (fun r58 u59 q60 => ?_)
              obtain ⟨⟨x61, rfl, tx61, nx61, zx61⟩, mq60⟩ := q60
              rw [mq60]
              refine g_if_eq (tgt := 115) dX7_canTurn_94 (by decide) (fun c62 => ?_) (fun c62 => ?_)
              · have zc62 := zx61 c62
                refine g_iconst (v := 1) dX7_canTurn_115 (by decide) ?_
                refine g_goto (tgt := 120) dX7_canTurn_116 (by decide) ?_
                exact g_iret (ty := .boolean) dX7_canTurn_120 rfl rfl ⟨⟨1, rfl, Or.inr rfl, fun _ => by first | trivial | lia | grind, fun q => absurd q (by decide)⟩, rfl⟩
              · have zc62 := nx61 c62
                refine g_iload_n dX7_canTurn_97 rfl ?_
                refine g_iload_n dX7_canTurn_98 rfl ?_
                refine g_icmp_eq (tgt := 115) dX7_canTurn_99 (by decide) (fun c63 => ?_) (fun c63 => ?_)
                · refine g_iconst (v := 1) dX7_canTurn_115 (by decide) ?_
                  refine g_goto (tgt := 120) dX7_canTurn_116 (by decide) ?_
                  exact g_iret (ty := .boolean) dX7_canTurn_120 rfl rfl ⟨⟨1, rfl, Or.inr rfl, fun _ => by first | trivial | lia | grind, fun q => absurd q (by decide)⟩, rfl⟩
                · refine g_aload_n dX7_canTurn_102 rfl ?_
                  refine f_X7_13 rfl rfl dX7_canTurn_103 ?_
                  refine g_iconst (v := 0) dX7_canTurn_106 (by decide) ?_
                  refine g_iload_n dX7_canTurn_107 rfl ?_
                  refine g_iadd dX7_canTurn_108 ?_
                  refine g_topi (fun x64 ex64 => ?_)
                  have v65 : vp_in x64 51 := uk_vin 51 rfl (by first | decide | lia | grind) (by first | decide | lia | grind)
                  refine g_iald rfl rfl v65 dX7_canTurn_109 ?_
                  refine g_topi (fun x66 ex66 => ?_)
                  have bx66 := uk_cl v65
                  have rx66 : 0 ≤ x64 → x64 ≤ 7 → 0 ≤ x66 ∧ x66 ≤ 40 := fun a b => by rw [ex66]; exact sg_0 hu (by unfold uk_is51; decide) a b
                  have rrx66 : 43 ≤ x64 → x64 ≤ 50 → 0 ≤ x66 ∧ x66 ≤ 7 := fun a b => by rw [ex66]; exact sg_43 hu (by unfold uk_is51; decide) a b
                  refine g_bipush (v := 40) dX7_canTurn_110 (by decide) ?_
                  refine g_icmp_ge (tgt := 119) dX7_canTurn_112 (by decide) (fun c67 => ?_) (fun c67 => ?_)
                  · refine g_iconst (v := 0) dX7_canTurn_119 (by decide) ?_
                    exact g_iret (ty := .boolean) dX7_canTurn_120 rfl rfl ⟨⟨0, rfl, Or.inl rfl, fun q => absurd rfl q, fun _ => by first | trivial | lia | grind⟩, rfl⟩
                  · refine g_iconst (v := 1) dX7_canTurn_115 (by decide) ?_
                    refine g_goto (tgt := 120) dX7_canTurn_116 (by decide) ?_
                    exact g_iret (ty := .boolean) dX7_canTurn_120 rfl rfl ⟨⟨1, rfl, Or.inr rfl, fun _ => by first | trivial | lia | grind, fun q => absurd q (by decide)⟩, rfl⟩
      · refine g_iconst (v := 0) dX7_canTurn_37 (by decide) ?_
        exact g_iret (ty := .boolean) dX7_canTurn_38 rfl rfl ⟨⟨0, rfl, Or.inl rfl, fun q => absurd rfl q, fun _ => by first | trivial | lia | grind⟩, rfl⟩
abbrev q_X7_canDo (u : uk_Mem) (g : Int32) (r : Option Value) (u' : uk_Mem) : Prop := (∃ x : Int32, r = some (.int x) ∧ (x = 0 ∨ x = 1) ∧ (¬ x = 0 → (g < 10 → 0 ≤ (u.1 64 (g).toNatClampNeg) ∧ (u.1 64 (g).toNatClampNeg) < g ∧ 0 ≤ (u.1 65 (g).toNatClampNeg) ∧ (u.1 65 (g).toNatClampNeg) < g ∧ u.1 62 (g).toNatClampNeg < 40 ∧ ((u.1 64 (g).toNatClampNeg) = (u.1 65 (g).toNatClampNeg) → 2 ≤ u.1 62 (u.1 64 (g).toNatClampNeg).toNatClampNeg) ∧ (¬ (u.1 64 (g).toNatClampNeg) = (u.1 65 (g).toNatClampNeg) → 1 ≤ u.1 62 (u.1 64 (g).toNatClampNeg).toNatClampNeg ∧ 1 ≤ u.1 62 (u.1 65 (g).toNatClampNeg).toNatClampNeg)) ∧ (10 ≤ g → 0 ≤ (u.1 64 ((g - 10)).toNatClampNeg) ∧ (u.1 64 ((g - 10)).toNatClampNeg) < (g - 10) ∧ 0 ≤ (u.1 65 ((g - 10)).toNatClampNeg) ∧ (u.1 65 ((g - 10)).toNatClampNeg) < (g - 10) ∧ 1 ≤ u.1 62 ((g - 10)).toNatClampNeg ∧ u.1 62 (u.1 64 ((g - 10)).toNatClampNeg).toNatClampNeg < 40 ∧ ((u.1 62 (32 + (g - 10)).toNatClampNeg = 0 ∨ (u.1 62 (32 + (g - 10)).toNatClampNeg = 3 ∧ u.1 62 (8 + (g - 10)).toNatClampNeg = 1)) → (u.1 64 ((g - 10)).toNatClampNeg) = (u.1 65 ((g - 10)).toNatClampNeg) → u.1 62 (u.1 64 ((g - 10)).toNatClampNeg).toNatClampNeg + 2 ≤ 40) ∧ ((u.1 62 (32 + (g - 10)).toNatClampNeg = 0 ∨ (u.1 62 (32 + (g - 10)).toNatClampNeg = 3 ∧ u.1 62 (8 + (g - 10)).toNatClampNeg = 1)) → ¬ (u.1 64 ((g - 10)).toNatClampNeg) = (u.1 65 ((g - 10)).toNatClampNeg) → u.1 62 (u.1 65 ((g - 10)).toNatClampNeg).toNatClampNeg < 40))) ∧ (x = 0 → True)) ∧ (u' = u)
set_option maxHeartbeats 4000000 in
set_option maxRecDepth 20000 in
theorem c_X7_canDo {G : uk_D} (hs : uk_Sep G) {u : uk_Mem} (hu : iv u) (hra : ra u) (g : Int32) (p0 : ((0 ≤ g ∧ g ≤ 7 ∧ g < u.1 60 3) ∨ (10 ≤ g ∧ g ≤ 17 ∧ g - 10 < u.1 60 3))) (d : Nat) : uk_Meth G (d + 2) mX7_canDo [.ref (uk_ad G 60), .int g] u (q_X7_canDo u g) := by
  refine uk_Meth.of hs (by decide) (Nat.le_of_ble_eq_true rfl) (fun X => ?_)
  refine g_iload_n dX7_canDo_0 rfl ?_
  refine g_bipush (v := 10) dX7_canDo_1 (by decide) ?_
  refine g_icmp_ge (tgt := 14) dX7_canDo_3 (by decide) (fun c1 => ?_) (fun c1 => ?_)
  · refine g_aload_n dX7_canDo_14 rfl ?_
    refine g_iload_n dX7_canDo_15 rfl ?_
    refine g_bipush (v := 10) dX7_canDo_16 (by decide) ?_
    refine g_isub dX7_canDo_18 ?_
    refine g_topi (fun x2 ex2 => ?_)
    refine cl_X7_160 (c := 60) (As := [.int x2]) rfl (c_X7_canTurn (G := G) hs hu hra  x2 (by first | trivial | decide | lia | grind) (by first | trivial | decide | lia | grind) (by first | trivial | decide | lia | grind) (d)) rfl (by omega) rfl rfl (Nat.le_of_ble_eq_true rfl) dX7_canDo_19 (fun r3 u4 q5 => ?_)
    obtain ⟨⟨x6, rfl, tx6, nx6, zx6⟩, mq5⟩ := q5
    rw [mq5]
    exact g_iret (ty := .boolean) dX7_canDo_22 rfl (uk_nb tx6) ⟨⟨_, rfl, tx6, fun q => by first | trivial | (have := nx6 q; first | exact this | grind), fun q => by first | trivial | (have := zx6 q; first | exact this | grind)⟩, rfl⟩
  · refine g_aload_n dX7_canDo_6 rfl ?_
    refine g_iload_n dX7_canDo_7 rfl ?_
    refine cl_X7_157 (c := 60) (As := [.int g]) rfl (c_X7_canCook (G := G) hs hu hra  g (by first | trivial | decide | lia | grind) (by first | trivial | decide | lia | grind) (by first | trivial | decide | lia | grind) (d + 1)) rfl (by omega) rfl rfl (Nat.le_of_ble_eq_true rfl) dX7_canDo_8 (fun r7 u8 q9 => ?_)
    obtain ⟨⟨x10, rfl, tx10, nx10, zx10⟩, mq9⟩ := q9
    rw [mq9]
    refine g_goto (tgt := 22) dX7_canDo_11 (by decide) ?_
    exact g_iret (ty := .boolean) dX7_canDo_22 rfl (uk_nb tx10) ⟨⟨_, rfl, tx10, fun q => by first | trivial | (have := nx10 q; first | exact this | grind), fun q => by first | trivial | (have := zx10 q; first | exact this | grind)⟩, rfl⟩
abbrev q_X7_doIt_a (u : uk_Mem) (g : Int32) (r : Option Value) (u' : uk_Mem) : Prop := (r = none) ∧ (iv u' ∧ fk [62] [] u u' ∧ ra u')
set_option maxHeartbeats 4000000 in
set_option maxRecDepth 20000 in
theorem c_X7_doIt_a {G : uk_D} (hs : uk_Sep G) {u : uk_Mem} (hu : iv u) (hra : ra u) (g : Int32) (p0 : 0 ≤ g) (p1 : g ≤ 7) (p2 : 0 ≤ (u.1 64 (g).toNatClampNeg)) (p3 : (u.1 64 (g).toNatClampNeg) < g) (p4 : 0 ≤ (u.1 65 (g).toNatClampNeg)) (p5 : (u.1 65 (g).toNatClampNeg) < g) (p6 : u.1 62 (g).toNatClampNeg < 40) (p7 : ((u.1 64 (g).toNatClampNeg) = (u.1 65 (g).toNatClampNeg) → 2 ≤ u.1 62 (u.1 64 (g).toNatClampNeg).toNatClampNeg)) (p8 : (¬ (u.1 64 (g).toNatClampNeg) = (u.1 65 (g).toNatClampNeg) → 1 ≤ u.1 62 (u.1 64 (g).toNatClampNeg).toNatClampNeg ∧ 1 ≤ u.1 62 (u.1 65 (g).toNatClampNeg).toNatClampNeg)) (d : Nat) : uk_Meth G (d + 1) mX7_doIt [.ref (uk_ad G 60), .int g] u (q_X7_doIt_a u g) := by
  refine uk_Meth.of hs (by decide) (Nat.le_of_ble_eq_true rfl) (fun X => ?_)
  have f0 : fk [62] [] u u := fk_rf
  have C62 : u.1 62 = u.1 62 := rfl
  refine g_iload_n dX7_doIt_0 rfl ?_
  refine g_bipush (v := 10) dX7_doIt_1 (by decide) ?_
  refine g_irem dX7_doIt_3 (by first | decide | lia | grind) ?_
  refine g_topi (fun x1 ex1 => ?_)
  have nx1 := uk_r10 ex1
  refine g_istore_n dX7_doIt_4 (by decide) ?_
  refine g_iload_n dX7_doIt_5 rfl ?_
  refine g_bipush (v := 10) dX7_doIt_6 (by decide) ?_
  refine g_icmp_ge (tgt := 15) dX7_doIt_8 (by decide) (fun c2 => ?_) (fun c2 => ?_)
  · refine g_iconst (v := 1) dX7_doIt_15 (by decide) ?_
    refine g_istore_n dX7_doIt_16 (by decide) ?_
    refine g_iload_n dX7_doIt_17 rfl ?_
    refine g_bipush (v := 10) dX7_doIt_18 (by decide) ?_
    refine g_icmp_lt (tgt := 31) dX7_doIt_20 (by decide) (fun c3 => ?_) (fun c3 => ?_)
    · refine g_iconst (v := 1) dX7_doIt_31 (by decide) ?_
      refine g_goto (tgt := 36) dX7_doIt_32 (by decide) ?_
      refine g_istore dX7_doIt_36 (by decide) ?_
      refine g_aload_n dX7_doIt_38 rfl ?_
      refine f_X7_13 rfl rfl dX7_doIt_39 ?_
      refine g_iconst (v := 0) dX7_doIt_42 (by decide) ?_
      refine g_iload_n dX7_doIt_43 rfl ?_
      refine g_iadd dX7_doIt_44 ?_
      refine g_topi (fun x4 ex4 => ?_)
      refine g_dup2 dX7_doIt_45 rfl rfl ?_
      have v5 : vp_in x4 51 := uk_vin 51 rfl (by first | decide | lia | grind) (by first | decide | lia | grind)
      refine g_iald rfl rfl v5 dX7_doIt_46 ?_
      refine g_topi (fun x6 ex6 => ?_)
      have bx6 := uk_cl v5
      have rx6 : 0 ≤ x4 → x4 ≤ 7 → 0 ≤ x6 ∧ x6 ≤ 40 := fun a b => by rw [ex6]; exact sg_0 hu (by unfold uk_is51; decide) a b
      have rrx6 : 43 ≤ x4 → x4 ≤ 50 → 0 ≤ x6 ∧ x6 ≤ 7 := fun a b => by rw [ex6]; exact sg_43 hu (by unfold uk_is51; decide) a b
      have px6 : x6 = (u.1 62) (x4 : Int32).toNatClampNeg := ex6.trans (congrFun C62 _)
      refine g_iload_n dX7_doIt_47 rfl ?_
      refine g_isub dX7_doIt_48 ?_
      refine g_topi (fun x7 ex7 => ?_)
      have v8 : vp_in x4 51 := uk_vin 51 rfl (by first | decide | lia | grind) (by first | decide | lia | grind)
      have b9 := uk_cl v8
      refine g_iast rfl rfl v8 dX7_doIt_49 ?_
      refine g_mem (fun u10 eu10 => ?_)
      have hu10 : iv u10 := by rw [eu10]; exact iv_st hu (by unfold uk_is51; decide) (by first | decide | lia | grind) (by first | decide | lia | grind) (fun q => by first | decide | lia | grind) (fun q => by first | decide | lia | grind) (fun q => by first | decide | lia | grind)
      have fu10 : fk [62] [] u u10 := by rw [eu10]; exact fk_up f0 (by decide) (fun q => absurd q (by decide))
      have rau10 : ra u10 := by rw [eu10]; exact ra_at hra (by first | decide | lia | grind) (by first | decide | lia | grind)
      have C11 : u10.1 62 = (upd (u.1 62) (x4 : Int32).toNatClampNeg x7) := by rw [eu10, uk_up_self, C62]
      refine g_aload_n dX7_doIt_50 rfl ?_
      refine f_X7_13 rfl rfl dX7_doIt_51 ?_
      refine g_iconst (v := 0) dX7_doIt_54 (by decide) ?_
      refine g_aload_n dX7_doIt_55 rfl ?_
      refine f_X7_20 rfl rfl dX7_doIt_56 ?_
      refine g_iload_n dX7_doIt_59 rfl ?_
      have v12 : vp_in x1 8 := uk_vin 8 rfl (by first | decide | lia | grind) (by first | decide | lia | grind)
      refine g_iald rfl rfl v12 dX7_doIt_60 ?_
      refine g_topi (fun x13 ex13 => ?_)
      have bx13 := uk_cl v12
      have rx13 : (-4) ≤ x13 ∧ x13 ≤ 7 := by rw [ex13]; exact iv_at hu10 _ _ (uk_pick1 _ (by omega))
      refine g_iadd dX7_doIt_61 ?_
      refine g_topi (fun x14 ex14 => ?_)
      refine g_dup2 dX7_doIt_62 rfl rfl ?_
      have v15 : vp_in x14 51 := uk_vin 51 rfl (by first | decide | lia | grind) (by first | decide | lia | grind)
      refine g_iald rfl rfl v15 dX7_doIt_63 ?_
      refine g_topi (fun x16 ex16 => ?_)
      have bx16 := uk_cl v15
      have rx16 : 0 ≤ x14 → x14 ≤ 7 → 0 ≤ x16 ∧ x16 ≤ 40 := fun a b => by rw [ex16]; exact sg_0 hu10 (by unfold uk_is51; decide) a b
      have rrx16 : 43 ≤ x14 → x14 ≤ 50 → 0 ≤ x16 ∧ x16 ≤ 7 := fun a b => by rw [ex16]; exact sg_43 hu10 (by unfold uk_is51; decide) a b
      have px16 : x16 = ((upd (u.1 62) (x4 : Int32).toNatClampNeg x7)) (x14 : Int32).toNatClampNeg := ex16.trans (congrFun C11 _)
      have lx16 : x16 = u.1 62 (x14 : Int32).toNatClampNeg := by rw [px16, upd_ne]; all_goals grind
      refine g_iload_n dX7_doIt_64 rfl ?_
      refine g_iadd dX7_doIt_65 ?_
      refine g_topi (fun x17 ex17 => ?_)
      have v18 : vp_in x14 51 := uk_vin 51 rfl (by first | decide | lia | grind) (by first | decide | lia | grind)
      have b19 := uk_cl v18
      refine g_iast rfl rfl v18 dX7_doIt_66 ?_
      refine g_mem (fun u20 eu20 => ?_)
      have hu20 : iv u20 := by rw [eu20]; exact iv_st hu10 (by unfold uk_is51; decide) (by first | decide | lia | grind) (by first | decide | lia | grind) (fun q => by first | decide | lia | grind) (fun q => by first | decide | lia | grind) (fun q => by first | decide | lia | grind)
      have fu20 : fk [62] [] u u20 := by rw [eu20]; exact fk_up fu10 (by decide) (fun q => absurd q (by decide))
      have rau20 : ra u20 := by rw [eu20]; exact ra_at rau10 (by first | decide | lia | grind) (by first | decide | lia | grind)
      have C21 : u20.1 62 = (upd ((upd (u.1 62) (x4 : Int32).toNatClampNeg x7)) (x14 : Int32).toNatClampNeg x17) := by rw [eu20, uk_up_self, C11]
      refine g_aload_n dX7_doIt_67 rfl ?_
      refine f_X7_13 rfl rfl dX7_doIt_68 ?_
      refine g_iconst (v := 0) dX7_doIt_71 (by decide) ?_
      refine g_aload_n dX7_doIt_72 rfl ?_
      refine f_X7_23 rfl rfl dX7_doIt_73 ?_
      refine g_iload_n dX7_doIt_76 rfl ?_
      have v22 : vp_in x1 8 := uk_vin 8 rfl (by first | decide | lia | grind) (by first | decide | lia | grind)
      refine g_iald rfl rfl v22 dX7_doIt_77 ?_
      refine g_topi (fun x23 ex23 => ?_)
      have bx23 := uk_cl v22
      have rx23 : (-4) ≤ x23 ∧ x23 ≤ 7 := by rw [ex23]; exact iv_at hu20 _ _ (uk_pick1 _ (by omega))
      refine g_iadd dX7_doIt_78 ?_
      refine g_topi (fun x24 ex24 => ?_)
      refine g_dup2 dX7_doIt_79 rfl rfl ?_
      have v25 : vp_in x24 51 := uk_vin 51 rfl (by first | decide | lia | grind) (by first | decide | lia | grind)
      refine g_iald rfl rfl v25 dX7_doIt_80 ?_
      refine g_topi (fun x26 ex26 => ?_)
      have bx26 := uk_cl v25
      have rx26 : 0 ≤ x24 → x24 ≤ 7 → 0 ≤ x26 ∧ x26 ≤ 40 := fun a b => by rw [ex26]; exact sg_0 hu20 (by unfold uk_is51; decide) a b
      have rrx26 : 43 ≤ x24 → x24 ≤ 50 → 0 ≤ x26 ∧ x26 ≤ 7 := fun a b => by rw [ex26]; exact sg_43 hu20 (by unfold uk_is51; decide) a b
      have px26 : x26 = ((upd ((upd (u.1 62) (x4 : Int32).toNatClampNeg x7)) (x14 : Int32).toNatClampNeg x17)) (x24 : Int32).toNatClampNeg := ex26.trans (congrFun C21 _)
      have lx26 : (x24 = x14 → x26 = x17) ∧ (¬ x24 = x14 → x26 = u.1 62 (x24 : Int32).toNatClampNeg) := ⟨fun q => by rw [px26, upd_at q], fun q => by rw [px26, upd_ne, upd_ne]; all_goals grind⟩
      refine g_iload dX7_doIt_81 rfl ?_
      refine g_if_eq (tgt := 90) dX7_doIt_83 (by decide) (fun c27 => ?_) (fun c27 => ?_)
      · exact absurd c27 (by decide)
      · refine g_iload_n dX7_doIt_86 rfl ?_
        refine g_goto (tgt := 91) dX7_doIt_87 (by decide) ?_
        refine g_iadd dX7_doIt_91 ?_
        refine g_topi (fun x28 ex28 => ?_)
        have v29 : vp_in x24 51 := uk_vin 51 rfl (by first | decide | lia | grind) (by first | decide | lia | grind)
        have b30 := uk_cl v29
        refine g_iast rfl rfl v29 dX7_doIt_92 ?_
        refine g_mem (fun u31 eu31 => ?_)
        have hu31 : iv u31 := by rw [eu31]; exact iv_st hu20 (by unfold uk_is51; decide) (by first | decide | lia | grind) (by first | decide | lia | grind) (fun q => by first | decide | lia | grind) (fun q => by first | decide | lia | grind) (fun q => by first | decide | lia | grind)
        have fu31 : fk [62] [] u u31 := by rw [eu31]; exact fk_up fu20 (by decide) (fun q => absurd q (by decide))
        have rau31 : ra u31 := by rw [eu31]; exact ra_at rau20 (by first | decide | lia | grind) (by first | decide | lia | grind)
        have C32 : u31.1 62 = (upd ((upd ((upd (u.1 62) (x4 : Int32).toNatClampNeg x7)) (x14 : Int32).toNatClampNeg x17)) (x24 : Int32).toNatClampNeg x28) := by rw [eu31, uk_up_self, C21]
        refine g_aload_n dX7_doIt_93 rfl ?_
        refine f_X7_13 rfl rfl dX7_doIt_94 ?_
        refine g_bipush (v := 8) dX7_doIt_97 (by decide) ?_
        refine g_iload_n dX7_doIt_99 rfl ?_
        refine g_iadd dX7_doIt_100 ?_
        refine g_topi (fun x33 ex33 => ?_)
        refine g_iload_n dX7_doIt_101 rfl ?_
        refine g_bipush (v := 10) dX7_doIt_102 (by decide) ?_
        refine g_icmp_lt (tgt := 134) dX7_doIt_104 (by decide) (fun c34 => ?_) (fun c34 => ?_)
        · refine g_aload_n dX7_doIt_134 rfl ?_
          refine f_X7_13 rfl rfl dX7_doIt_135 ?_
          refine g_bipush (v := 8) dX7_doIt_138 (by decide) ?_
          refine g_iload_n dX7_doIt_140 rfl ?_
          refine g_iadd dX7_doIt_141 ?_
          refine g_topi (fun x35 ex35 => ?_)
          have v36 : vp_in x35 51 := uk_vin 51 rfl (by first | decide | lia | grind) (by first | decide | lia | grind)
          refine g_iald rfl rfl v36 dX7_doIt_142 ?_
          refine g_topi (fun x37 ex37 => ?_)
          have bx37 := uk_cl v36
          have rx37 : 0 ≤ x35 → x35 ≤ 7 → 0 ≤ x37 ∧ x37 ≤ 40 := fun a b => by rw [ex37]; exact sg_0 hu31 (by unfold uk_is51; decide) a b
          have rrx37 : 43 ≤ x35 → x35 ≤ 50 → 0 ≤ x37 ∧ x37 ≤ 7 := fun a b => by rw [ex37]; exact sg_43 hu31 (by unfold uk_is51; decide) a b
          have px37 : x37 = ((upd ((upd ((upd (u.1 62) (x4 : Int32).toNatClampNeg x7)) (x14 : Int32).toNatClampNeg x17)) (x24 : Int32).toNatClampNeg x28)) (x35 : Int32).toNatClampNeg := ex37.trans (congrFun C32 _)
          have v38 : vp_in x33 51 := uk_vin 51 rfl (by first | decide | lia | grind) (by first | decide | lia | grind)
          have b39 := uk_cl v38
          refine g_iast rfl rfl v38 dX7_doIt_143 ?_
          refine g_mem (fun u40 eu40 => ?_)
          have hu40 : iv u40 := by rw [eu40]; exact iv_st hu31 (by unfold uk_is51; decide) (by first | decide | lia | grind) (by first | decide | lia | grind) (fun q => by first | decide | lia | grind) (fun q => by first | decide | lia | grind) (fun q => by first | decide | lia | grind)
          have fu40 : fk [62] [] u u40 := by rw [eu40]; exact fk_up fu31 (by decide) (fun q => absurd q (by decide))
          have rau40 : ra u40 := by rw [eu40]; exact ra_at rau31 (by first | decide | lia | grind) (by first | decide | lia | grind)
          have C41 : u40.1 62 = (upd ((upd ((upd ((upd (u.1 62) (x4 : Int32).toNatClampNeg x7)) (x14 : Int32).toNatClampNeg x17)) (x24 : Int32).toNatClampNeg x28)) (x33 : Int32).toNatClampNeg x37) := by rw [eu40, uk_up_self, C32]
          refine g_aload_n dX7_doIt_144 rfl ?_
          refine f_X7_13 rfl rfl dX7_doIt_145 ?_
          refine g_bipush (v := 41) dX7_doIt_148 (by decide) ?_
          refine g_dup2 dX7_doIt_150 rfl rfl ?_
          have v42 : vp_in 41 51 := uk_vin 51 rfl (by first | decide | lia | grind) (by first | decide | lia | grind)
          refine g_iald rfl rfl v42 dX7_doIt_151 ?_
          refine g_topi (fun x43 ex43 => ?_)
          have bx43 := uk_cl v42
          have px43 : x43 = ((upd ((upd ((upd ((upd (u.1 62) (x4 : Int32).toNatClampNeg x7)) (x14 : Int32).toNatClampNeg x17)) (x24 : Int32).toNatClampNeg x28)) (x33 : Int32).toNatClampNeg x37)) (41 : Int32).toNatClampNeg := ex43.trans (congrFun C41 _)
          refine g_iconst (v := 1) dX7_doIt_152 (by decide) ?_
          refine g_iadd dX7_doIt_153 ?_
          refine g_topi (fun x44 ex44 => ?_)
          have v45 : vp_in 41 51 := uk_vin 51 rfl (by first | decide | lia | grind) (by first | decide | lia | grind)
          have b46 := uk_cl v45
          refine g_iast rfl rfl v45 dX7_doIt_154 ?_
          refine g_mem (fun u47 eu47 => ?_)
          have hu47 : iv u47 := by rw [eu47]; exact iv_st hu40 (by unfold uk_is51; decide) (by first | decide | lia | grind) (by first | decide | lia | grind) (fun q => by first | decide | lia | grind) (fun q => by first | decide | lia | grind) (fun q => by first | decide | lia | grind)
          have fu47 : fk [62] [] u u47 := by rw [eu47]; exact fk_up fu40 (by decide) (fun q => absurd q (by decide))
          have rau47 : ra u47 := by rw [eu47]; exact ra_at rau40 (by first | decide | lia | grind) (by first | decide | lia | grind)
          have C48 : u47.1 62 = (upd ((upd ((upd ((upd ((upd (u.1 62) (x4 : Int32).toNatClampNeg x7)) (x14 : Int32).toNatClampNeg x17)) (x24 : Int32).toNatClampNeg x28)) (x33 : Int32).toNatClampNeg x37)) (41 : Int32).toNatClampNeg x44) := by rw [eu47, uk_up_self, C41]
          exact g_vret dX7_doIt_155 rfl ⟨rfl, hu47, fu47, rau47⟩
        · refine g_aload_n dX7_doIt_107 rfl ?_
          refine f_X7_13 rfl rfl dX7_doIt_108 ?_
          refine g_bipush (v := 32) dX7_doIt_111 (by decide) ?_
          refine g_iload_n dX7_doIt_113 rfl ?_
          refine g_iadd dX7_doIt_114 ?_
          refine g_topi (fun x49 ex49 => ?_)
          have v50 : vp_in x49 51 := uk_vin 51 rfl (by first | decide | lia | grind) (by first | decide | lia | grind)
          refine g_iald rfl rfl v50 dX7_doIt_115 ?_
          refine g_topi (fun x51 ex51 => ?_)
          have bx51 := uk_cl v50
          have rx51 : 0 ≤ x49 → x49 ≤ 7 → 0 ≤ x51 ∧ x51 ≤ 40 := fun a b => by rw [ex51]; exact sg_0 hu31 (by unfold uk_is51; decide) a b
          have rrx51 : 43 ≤ x49 → x49 ≤ 50 → 0 ≤ x51 ∧ x51 ≤ 7 := fun a b => by rw [ex51]; exact sg_43 hu31 (by unfold uk_is51; decide) a b
          have px51 : x51 = ((upd ((upd ((upd (u.1 62) (x4 : Int32).toNatClampNeg x7)) (x14 : Int32).toNatClampNeg x17)) (x24 : Int32).toNatClampNeg x28)) (x49 : Int32).toNatClampNeg := ex51.trans (congrFun C32 _)
          refine g_iconst (v := 3) dX7_doIt_116 (by decide) ?_
          refine g_icmp_ne (tgt := 134) dX7_doIt_117 (by decide) (fun c52 => ?_) (fun c52 => ?_)
          · refine g_aload_n dX7_doIt_134 rfl ?_
            refine f_X7_13 rfl rfl dX7_doIt_135 ?_
            refine g_bipush (v := 8) dX7_doIt_138 (by decide) ?_
            refine g_iload_n dX7_doIt_140 rfl ?_
            refine g_iadd dX7_doIt_141 ?_
            refine g_topi (fun x53 ex53 => ?_)
            have v54 : vp_in x53 51 := uk_vin 51 rfl (by first | decide | lia | grind) (by first | decide | lia | grind)
            refine g_iald rfl rfl v54 dX7_doIt_142 ?_
            refine g_topi (fun x55 ex55 => ?_)
            have bx55 := uk_cl v54
            have rx55 : 0 ≤ x53 → x53 ≤ 7 → 0 ≤ x55 ∧ x55 ≤ 40 := fun a b => by rw [ex55]; exact sg_0 hu31 (by unfold uk_is51; decide) a b
            have rrx55 : 43 ≤ x53 → x53 ≤ 50 → 0 ≤ x55 ∧ x55 ≤ 7 := fun a b => by rw [ex55]; exact sg_43 hu31 (by unfold uk_is51; decide) a b
            have px55 : x55 = ((upd ((upd ((upd (u.1 62) (x4 : Int32).toNatClampNeg x7)) (x14 : Int32).toNatClampNeg x17)) (x24 : Int32).toNatClampNeg x28)) (x53 : Int32).toNatClampNeg := ex55.trans (congrFun C32 _)
            have v56 : vp_in x33 51 := uk_vin 51 rfl (by first | decide | lia | grind) (by first | decide | lia | grind)
            have b57 := uk_cl v56
            refine g_iast rfl rfl v56 dX7_doIt_143 ?_
            refine g_mem (fun u58 eu58 => ?_)
            have hu58 : iv u58 := by rw [eu58]; exact iv_st hu31 (by unfold uk_is51; decide) (by first | decide | lia | grind) (by first | decide | lia | grind) (fun q => by first | decide | lia | grind) (fun q => by first | decide | lia | grind) (fun q => by first | decide | lia | grind)
            have fu58 : fk [62] [] u u58 := by rw [eu58]; exact fk_up fu31 (by decide) (fun q => absurd q (by decide))
            have rau58 : ra u58 := by rw [eu58]; exact ra_at rau31 (by first | decide | lia | grind) (by first | decide | lia | grind)
            have C59 : u58.1 62 = (upd ((upd ((upd ((upd (u.1 62) (x4 : Int32).toNatClampNeg x7)) (x14 : Int32).toNatClampNeg x17)) (x24 : Int32).toNatClampNeg x28)) (x33 : Int32).toNatClampNeg x55) := by rw [eu58, uk_up_self, C32]
            refine g_aload_n dX7_doIt_144 rfl ?_
            refine f_X7_13 rfl rfl dX7_doIt_145 ?_
            refine g_bipush (v := 41) dX7_doIt_148 (by decide) ?_
            refine g_dup2 dX7_doIt_150 rfl rfl ?_
            have v60 : vp_in 41 51 := uk_vin 51 rfl (by first | decide | lia | grind) (by first | decide | lia | grind)
            refine g_iald rfl rfl v60 dX7_doIt_151 ?_
            refine g_topi (fun x61 ex61 => ?_)
            have bx61 := uk_cl v60
            have px61 : x61 = ((upd ((upd ((upd ((upd (u.1 62) (x4 : Int32).toNatClampNeg x7)) (x14 : Int32).toNatClampNeg x17)) (x24 : Int32).toNatClampNeg x28)) (x33 : Int32).toNatClampNeg x55)) (41 : Int32).toNatClampNeg := ex61.trans (congrFun C59 _)
            refine g_iconst (v := 1) dX7_doIt_152 (by decide) ?_
            refine g_iadd dX7_doIt_153 ?_
            refine g_topi (fun x62 ex62 => ?_)
            have v63 : vp_in 41 51 := uk_vin 51 rfl (by first | decide | lia | grind) (by first | decide | lia | grind)
            have b64 := uk_cl v63
            refine g_iast rfl rfl v63 dX7_doIt_154 ?_
            refine g_mem (fun u65 eu65 => ?_)
            have hu65 : iv u65 := by rw [eu65]; exact iv_st hu58 (by unfold uk_is51; decide) (by first | decide | lia | grind) (by first | decide | lia | grind) (fun q => by first | decide | lia | grind) (fun q => by first | decide | lia | grind) (fun q => by first | decide | lia | grind)
            have fu65 : fk [62] [] u u65 := by rw [eu65]; exact fk_up fu58 (by decide) (fun q => absurd q (by decide))
            have rau65 : ra u65 := by rw [eu65]; exact ra_at rau58 (by first | decide | lia | grind) (by first | decide | lia | grind)
            have C66 : u65.1 62 = (upd ((upd ((upd ((upd ((upd (u.1 62) (x4 : Int32).toNatClampNeg x7)) (x14 : Int32).toNatClampNeg x17)) (x24 : Int32).toNatClampNeg x28)) (x33 : Int32).toNatClampNeg x55)) (41 : Int32).toNatClampNeg x62) := by rw [eu65, uk_up_self, C59]
            exact g_vret dX7_doIt_155 rfl ⟨rfl, hu65, fu65, rau65⟩
          · refine g_iconst (v := 1) dX7_doIt_120 (by decide) ?_
            refine g_aload_n dX7_doIt_121 rfl ?_
            refine f_X7_13 rfl rfl dX7_doIt_122 ?_
            refine g_bipush (v := 8) dX7_doIt_125 (by decide) ?_
            refine g_iload_n dX7_doIt_127 rfl ?_
            refine g_iadd dX7_doIt_128 ?_
            refine g_topi (fun x67 ex67 => ?_)
            have v68 : vp_in x67 51 := uk_vin 51 rfl (by first | decide | lia | grind) (by first | decide | lia | grind)
            refine g_iald rfl rfl v68 dX7_doIt_129 ?_
            refine g_topi (fun x69 ex69 => ?_)
            have bx69 := uk_cl v68
            have rx69 : 0 ≤ x67 → x67 ≤ 7 → 0 ≤ x69 ∧ x69 ≤ 40 := fun a b => by rw [ex69]; exact sg_0 hu31 (by unfold uk_is51; decide) a b
            have rrx69 : 43 ≤ x67 → x67 ≤ 50 → 0 ≤ x69 ∧ x69 ≤ 7 := fun a b => by rw [ex69]; exact sg_43 hu31 (by unfold uk_is51; decide) a b
            have px69 : x69 = ((upd ((upd ((upd (u.1 62) (x4 : Int32).toNatClampNeg x7)) (x14 : Int32).toNatClampNeg x17)) (x24 : Int32).toNatClampNeg x28)) (x67 : Int32).toNatClampNeg := ex69.trans (congrFun C32 _)
            refine g_isub dX7_doIt_130 ?_
            refine g_topi (fun x70 ex70 => ?_)
            refine g_goto (tgt := 143) dX7_doIt_131 (by decide) ?_
            have v71 : vp_in x33 51 := uk_vin 51 rfl (by first | decide | lia | grind) (by first | decide | lia | grind)
            have b72 := uk_cl v71
            refine g_iast rfl rfl v71 dX7_doIt_143 ?_
            refine g_mem (fun u73 eu73 => ?_)
            have hu73 : iv u73 := by rw [eu73]; exact iv_st hu31 (by unfold uk_is51; decide) (by first | decide | lia | grind) (by first | decide | lia | grind) (fun q => by first | decide | lia | grind) (fun q => by first | decide | lia | grind) (fun q => by first | decide | lia | grind)
            have fu73 : fk [62] [] u u73 := by rw [eu73]; exact fk_up fu31 (by decide) (fun q => absurd q (by decide))
            have rau73 : ra u73 := by rw [eu73]; exact ra_at rau31 (by first | decide | lia | grind) (by first | decide | lia | grind)
            have C74 : u73.1 62 = (upd ((upd ((upd ((upd (u.1 62) (x4 : Int32).toNatClampNeg x7)) (x14 : Int32).toNatClampNeg x17)) (x24 : Int32).toNatClampNeg x28)) (x33 : Int32).toNatClampNeg x70) := by rw [eu73, uk_up_self, C32]
            refine g_aload_n dX7_doIt_144 rfl ?_
            refine f_X7_13 rfl rfl dX7_doIt_145 ?_
            refine g_bipush (v := 41) dX7_doIt_148 (by decide) ?_
            refine g_dup2 dX7_doIt_150 rfl rfl ?_
            have v75 : vp_in 41 51 := uk_vin 51 rfl (by first | decide | lia | grind) (by first | decide | lia | grind)
            refine g_iald rfl rfl v75 dX7_doIt_151 ?_
            refine g_topi (fun x76 ex76 => ?_)
            have bx76 := uk_cl v75
            have px76 : x76 = ((upd ((upd ((upd ((upd (u.1 62) (x4 : Int32).toNatClampNeg x7)) (x14 : Int32).toNatClampNeg x17)) (x24 : Int32).toNatClampNeg x28)) (x33 : Int32).toNatClampNeg x70)) (41 : Int32).toNatClampNeg := ex76.trans (congrFun C74 _)
            refine g_iconst (v := 1) dX7_doIt_152 (by decide) ?_
            refine g_iadd dX7_doIt_153 ?_
            refine g_topi (fun x77 ex77 => ?_)
            have v78 : vp_in 41 51 := uk_vin 51 rfl (by first | decide | lia | grind) (by first | decide | lia | grind)
            have b79 := uk_cl v78
            refine g_iast rfl rfl v78 dX7_doIt_154 ?_
            refine g_mem (fun u80 eu80 => ?_)
            have hu80 : iv u80 := by rw [eu80]; exact iv_st hu73 (by unfold uk_is51; decide) (by first | decide | lia | grind) (by first | decide | lia | grind) (fun q => by first | decide | lia | grind) (fun q => by first | decide | lia | grind) (fun q => by first | decide | lia | grind)
            have fu80 : fk [62] [] u u80 := by rw [eu80]; exact fk_up fu73 (by decide) (fun q => absurd q (by decide))
            have rau80 : ra u80 := by rw [eu80]; exact ra_at rau73 (by first | decide | lia | grind) (by first | decide | lia | grind)
            have C81 : u80.1 62 = (upd ((upd ((upd ((upd ((upd (u.1 62) (x4 : Int32).toNatClampNeg x7)) (x14 : Int32).toNatClampNeg x17)) (x24 : Int32).toNatClampNeg x28)) (x33 : Int32).toNatClampNeg x70)) (41 : Int32).toNatClampNeg x77) := by rw [eu80, uk_up_self, C74]
            exact g_vret dX7_doIt_155 rfl ⟨rfl, hu80, fu80, rau80⟩
    · refine g_aload_n dX7_doIt_23 rfl ?_
      refine g_iload_n dX7_doIt_24 rfl ?_
      refine cl_X7_153 (c := 60) (As := [.int x1]) rfl (c_X7_givesSecond (G := G) hs hu  x1 (by first | trivial | decide | lia | grind) (by first | trivial | decide | lia | grind) (d)) rfl (by omega) rfl rfl (Nat.le_of_ble_eq_true rfl) dX7_doIt_25 (fun r82 u83 q84 => ?_)
      obtain ⟨⟨x85, rfl, tx85, nx85, zx85⟩, mq84⟩ := q84
      rw [mq84]
      refine g_if_eq (tgt := 35) dX7_doIt_28 (by decide) (fun c86 => ?_) (fun c86 => ?_)
      · have zc86 := zx85 c86
        refine g_iconst (v := 0) dX7_doIt_35 (by decide) ?_
        refine g_istore dX7_doIt_36 (by decide) ?_
        refine g_aload_n dX7_doIt_38 rfl ?_
        refine f_X7_13 rfl rfl dX7_doIt_39 ?_
        refine g_iconst (v := 0) dX7_doIt_42 (by decide) ?_
        refine g_iload_n dX7_doIt_43 rfl ?_
        refine g_iadd dX7_doIt_44 ?_
        refine g_topi (fun x87 ex87 => ?_)
        refine g_dup2 dX7_doIt_45 rfl rfl ?_
        have v88 : vp_in x87 51 := uk_vin 51 rfl (by first | decide | lia | grind) (by first | decide | lia | grind)
        refine g_iald rfl rfl v88 dX7_doIt_46 ?_
        refine g_topi (fun x89 ex89 => ?_)
        have bx89 := uk_cl v88
        have rx89 : 0 ≤ x87 → x87 ≤ 7 → 0 ≤ x89 ∧ x89 ≤ 40 := fun a b => by rw [ex89]; exact sg_0 hu (by unfold uk_is51; decide) a b
        have rrx89 : 43 ≤ x87 → x87 ≤ 50 → 0 ≤ x89 ∧ x89 ≤ 7 := fun a b => by rw [ex89]; exact sg_43 hu (by unfold uk_is51; decide) a b
        have px89 : x89 = (u.1 62) (x87 : Int32).toNatClampNeg := ex89.trans (congrFun C62 _)
        refine g_iload_n dX7_doIt_47 rfl ?_
        refine g_isub dX7_doIt_48 ?_
        refine g_topi (fun x90 ex90 => ?_)
        have v91 : vp_in x87 51 := uk_vin 51 rfl (by first | decide | lia | grind) (by first | decide | lia | grind)
        have b92 := uk_cl v91
        refine g_iast rfl rfl v91 dX7_doIt_49 ?_
        refine g_mem (fun u93 eu93 => ?_)
        have hu93 : iv u93 := by rw [eu93]; exact iv_st hu (by unfold uk_is51; decide) (by first | decide | lia | grind) (by first | decide | lia | grind) (fun q => by first | decide | lia | grind) (fun q => by first | decide | lia | grind) (fun q => by first | decide | lia | grind)
        have fu93 : fk [62] [] u u93 := by rw [eu93]; exact fk_up f0 (by decide) (fun q => absurd q (by decide))
        have rau93 : ra u93 := by rw [eu93]; exact ra_at hra (by first | decide | lia | grind) (by first | decide | lia | grind)
        have C94 : u93.1 62 = (upd (u.1 62) (x87 : Int32).toNatClampNeg x90) := by rw [eu93, uk_up_self, C62]
        refine g_aload_n dX7_doIt_50 rfl ?_
        refine f_X7_13 rfl rfl dX7_doIt_51 ?_
        refine g_iconst (v := 0) dX7_doIt_54 (by decide) ?_
        refine g_aload_n dX7_doIt_55 rfl ?_
        refine f_X7_20 rfl rfl dX7_doIt_56 ?_
        refine g_iload_n dX7_doIt_59 rfl ?_
        have v95 : vp_in x1 8 := uk_vin 8 rfl (by first | decide | lia | grind) (by first | decide | lia | grind)
        refine g_iald rfl rfl v95 dX7_doIt_60 ?_
        refine g_topi (fun x96 ex96 => ?_)
        have bx96 := uk_cl v95
        have rx96 : (-4) ≤ x96 ∧ x96 ≤ 7 := by rw [ex96]; exact iv_at hu93 _ _ (uk_pick1 _ (by omega))
        refine g_iadd dX7_doIt_61 ?_
        refine g_topi (fun x97 ex97 => ?_)
        refine g_dup2 dX7_doIt_62 rfl rfl ?_
        have v98 : vp_in x97 51 := uk_vin 51 rfl (by first | decide | lia | grind) (by first | decide | lia | grind)
        refine g_iald rfl rfl v98 dX7_doIt_63 ?_
        refine g_topi (fun x99 ex99 => ?_)
        have bx99 := uk_cl v98
        have rx99 : 0 ≤ x97 → x97 ≤ 7 → 0 ≤ x99 ∧ x99 ≤ 40 := fun a b => by rw [ex99]; exact sg_0 hu93 (by unfold uk_is51; decide) a b
        have rrx99 : 43 ≤ x97 → x97 ≤ 50 → 0 ≤ x99 ∧ x99 ≤ 7 := fun a b => by rw [ex99]; exact sg_43 hu93 (by unfold uk_is51; decide) a b
        have px99 : x99 = ((upd (u.1 62) (x87 : Int32).toNatClampNeg x90)) (x97 : Int32).toNatClampNeg := ex99.trans (congrFun C94 _)
        have lx99 : x99 = u.1 62 (x97 : Int32).toNatClampNeg := by rw [px99, upd_ne]; all_goals grind
        refine g_iload_n dX7_doIt_64 rfl ?_
        refine g_iadd dX7_doIt_65 ?_
        refine g_topi (fun x100 ex100 => ?_)
        have v101 : vp_in x97 51 := uk_vin 51 rfl (by first | decide | lia | grind) (by first | decide | lia | grind)
        have b102 := uk_cl v101
        refine g_iast rfl rfl v101 dX7_doIt_66 ?_
        refine g_mem (fun u103 eu103 => ?_)
        have hu103 : iv u103 := by rw [eu103]; exact iv_st hu93 (by unfold uk_is51; decide) (by first | decide | lia | grind) (by first | decide | lia | grind) (fun q => by first | decide | lia | grind) (fun q => by first | decide | lia | grind) (fun q => by first | decide | lia | grind)
        have fu103 : fk [62] [] u u103 := by rw [eu103]; exact fk_up fu93 (by decide) (fun q => absurd q (by decide))
        have rau103 : ra u103 := by rw [eu103]; exact ra_at rau93 (by first | decide | lia | grind) (by first | decide | lia | grind)
        have C104 : u103.1 62 = (upd ((upd (u.1 62) (x87 : Int32).toNatClampNeg x90)) (x97 : Int32).toNatClampNeg x100) := by rw [eu103, uk_up_self, C94]
        refine g_aload_n dX7_doIt_67 rfl ?_
        refine f_X7_13 rfl rfl dX7_doIt_68 ?_
        refine g_iconst (v := 0) dX7_doIt_71 (by decide) ?_
        refine g_aload_n dX7_doIt_72 rfl ?_
        refine f_X7_23 rfl rfl dX7_doIt_73 ?_
        refine g_iload_n dX7_doIt_76 rfl ?_
        have v105 : vp_in x1 8 := uk_vin 8 rfl (by first | decide | lia | grind) (by first | decide | lia | grind)
        refine g_iald rfl rfl v105 dX7_doIt_77 ?_
        refine g_topi (fun x106 ex106 => ?_)
        have bx106 := uk_cl v105
        have rx106 : (-4) ≤ x106 ∧ x106 ≤ 7 := by rw [ex106]; exact iv_at hu103 _ _ (uk_pick1 _ (by omega))
        refine g_iadd dX7_doIt_78 ?_
        refine g_topi (fun x107 ex107 => ?_)
        refine g_dup2 dX7_doIt_79 rfl rfl ?_
        have v108 : vp_in x107 51 := uk_vin 51 rfl (by first | decide | lia | grind) (by first | decide | lia | grind)
        refine g_iald rfl rfl v108 dX7_doIt_80 ?_
        refine g_topi (fun x109 ex109 => ?_)
        have bx109 := uk_cl v108
        have rx109 : 0 ≤ x107 → x107 ≤ 7 → 0 ≤ x109 ∧ x109 ≤ 40 := fun a b => by rw [ex109]; exact sg_0 hu103 (by unfold uk_is51; decide) a b
        have rrx109 : 43 ≤ x107 → x107 ≤ 50 → 0 ≤ x109 ∧ x109 ≤ 7 := fun a b => by rw [ex109]; exact sg_43 hu103 (by unfold uk_is51; decide) a b
        have px109 : x109 = ((upd ((upd (u.1 62) (x87 : Int32).toNatClampNeg x90)) (x97 : Int32).toNatClampNeg x100)) (x107 : Int32).toNatClampNeg := ex109.trans (congrFun C104 _)
        have lx109 : (x107 = x97 → x109 = x100) ∧ (¬ x107 = x97 → x109 = u.1 62 (x107 : Int32).toNatClampNeg) := ⟨fun q => by rw [px109, upd_at q], fun q => by rw [px109, upd_ne, upd_ne]; all_goals grind⟩
        refine g_iload dX7_doIt_81 rfl ?_
        refine g_if_eq (tgt := 90) dX7_doIt_83 (by decide) (fun c110 => ?_) (fun c110 => ?_)
        · refine g_iconst (v := 0) dX7_doIt_90 (by decide) ?_
          refine g_iadd dX7_doIt_91 ?_
          refine g_topi (fun x111 ex111 => ?_)
          have v112 : vp_in x107 51 := uk_vin 51 rfl (by first | decide | lia | grind) (by first | decide | lia | grind)
          have b113 := uk_cl v112
          refine g_iast rfl rfl v112 dX7_doIt_92 ?_
          refine g_mem (fun u114 eu114 => ?_)
          have hu114 : iv u114 := by rw [eu114]; exact iv_st hu103 (by unfold uk_is51; decide) (by first | decide | lia | grind) (by first | decide | lia | grind) (fun q => by first | decide | lia | grind) (fun q => by first | decide | lia | grind) (fun q => by first | decide | lia | grind)
          have fu114 : fk [62] [] u u114 := by rw [eu114]; exact fk_up fu103 (by decide) (fun q => absurd q (by decide))
          have rau114 : ra u114 := by rw [eu114]; exact ra_at rau103 (by first | decide | lia | grind) (by first | decide | lia | grind)
          have C115 : u114.1 62 = (upd ((upd ((upd (u.1 62) (x87 : Int32).toNatClampNeg x90)) (x97 : Int32).toNatClampNeg x100)) (x107 : Int32).toNatClampNeg x111) := by rw [eu114, uk_up_self, C104]
          refine g_aload_n dX7_doIt_93 rfl ?_
          refine f_X7_13 rfl rfl dX7_doIt_94 ?_
          refine g_bipush (v := 8) dX7_doIt_97 (by decide) ?_
          refine g_iload_n dX7_doIt_99 rfl ?_
          refine g_iadd dX7_doIt_100 ?_
          refine g_topi (fun x116 ex116 => ?_)
          refine g_iload_n dX7_doIt_101 rfl ?_
          refine g_bipush (v := 10) dX7_doIt_102 (by decide) ?_
          refine g_icmp_lt (tgt := 134) dX7_doIt_104 (by decide) (fun c117 => ?_) (fun c117 => ?_)
          · refine g_aload_n dX7_doIt_134 rfl ?_
            refine f_X7_13 rfl rfl dX7_doIt_135 ?_
            refine g_bipush (v := 8) dX7_doIt_138 (by decide) ?_
            refine g_iload_n dX7_doIt_140 rfl ?_
            refine g_iadd dX7_doIt_141 ?_
            refine g_topi (fun x118 ex118 => ?_)
            have v119 : vp_in x118 51 := uk_vin 51 rfl (by first | decide | lia | grind) (by first | decide | lia | grind)
            refine g_iald rfl rfl v119 dX7_doIt_142 ?_
            refine g_topi (fun x120 ex120 => ?_)
            have bx120 := uk_cl v119
            have rx120 : 0 ≤ x118 → x118 ≤ 7 → 0 ≤ x120 ∧ x120 ≤ 40 := fun a b => by rw [ex120]; exact sg_0 hu114 (by unfold uk_is51; decide) a b
            have rrx120 : 43 ≤ x118 → x118 ≤ 50 → 0 ≤ x120 ∧ x120 ≤ 7 := fun a b => by rw [ex120]; exact sg_43 hu114 (by unfold uk_is51; decide) a b
            have px120 : x120 = ((upd ((upd ((upd (u.1 62) (x87 : Int32).toNatClampNeg x90)) (x97 : Int32).toNatClampNeg x100)) (x107 : Int32).toNatClampNeg x111)) (x118 : Int32).toNatClampNeg := ex120.trans (congrFun C115 _)
            have v121 : vp_in x116 51 := uk_vin 51 rfl (by first | decide | lia | grind) (by first | decide | lia | grind)
            have b122 := uk_cl v121
            refine g_iast rfl rfl v121 dX7_doIt_143 ?_
            refine g_mem (fun u123 eu123 => ?_)
            have hu123 : iv u123 := by rw [eu123]; exact iv_st hu114 (by unfold uk_is51; decide) (by first | decide | lia | grind) (by first | decide | lia | grind) (fun q => by first | decide | lia | grind) (fun q => by first | decide | lia | grind) (fun q => by first | decide | lia | grind)
            have fu123 : fk [62] [] u u123 := by rw [eu123]; exact fk_up fu114 (by decide) (fun q => absurd q (by decide))
            have rau123 : ra u123 := by rw [eu123]; exact ra_at rau114 (by first | decide | lia | grind) (by first | decide | lia | grind)
            have C124 : u123.1 62 = (upd ((upd ((upd ((upd (u.1 62) (x87 : Int32).toNatClampNeg x90)) (x97 : Int32).toNatClampNeg x100)) (x107 : Int32).toNatClampNeg x111)) (x116 : Int32).toNatClampNeg x120) := by rw [eu123, uk_up_self, C115]
            refine g_aload_n dX7_doIt_144 rfl ?_
            refine f_X7_13 rfl rfl dX7_doIt_145 ?_
            refine g_bipush (v := 41) dX7_doIt_148 (by decide) ?_
            refine g_dup2 dX7_doIt_150 rfl rfl ?_
            have v125 : vp_in 41 51 := uk_vin 51 rfl (by first | decide | lia | grind) (by first | decide | lia | grind)
            refine g_iald rfl rfl v125 dX7_doIt_151 ?_
            refine g_topi (fun x126 ex126 => ?_)
            have bx126 := uk_cl v125
            have px126 : x126 = ((upd ((upd ((upd ((upd (u.1 62) (x87 : Int32).toNatClampNeg x90)) (x97 : Int32).toNatClampNeg x100)) (x107 : Int32).toNatClampNeg x111)) (x116 : Int32).toNatClampNeg x120)) (41 : Int32).toNatClampNeg := ex126.trans (congrFun C124 _)
            refine g_iconst (v := 1) dX7_doIt_152 (by decide) ?_
            refine g_iadd dX7_doIt_153 ?_
            refine g_topi (fun x127 ex127 => ?_)
            have v128 : vp_in 41 51 := uk_vin 51 rfl (by first | decide | lia | grind) (by first | decide | lia | grind)
            have b129 := uk_cl v128
            refine g_iast rfl rfl v128 dX7_doIt_154 ?_
            refine g_mem (fun u130 eu130 => ?_)
            have hu130 : iv u130 := by rw [eu130]; exact iv_st hu123 (by unfold uk_is51; decide) (by first | decide | lia | grind) (by first | decide | lia | grind) (fun q => by first | decide | lia | grind) (fun q => by first | decide | lia | grind) (fun q => by first | decide | lia | grind)
            have fu130 : fk [62] [] u u130 := by rw [eu130]; exact fk_up fu123 (by decide) (fun q => absurd q (by decide))
            have rau130 : ra u130 := by rw [eu130]; exact ra_at rau123 (by first | decide | lia | grind) (by first | decide | lia | grind)
            have C131 : u130.1 62 = (upd ((upd ((upd ((upd ((upd (u.1 62) (x87 : Int32).toNatClampNeg x90)) (x97 : Int32).toNatClampNeg x100)) (x107 : Int32).toNatClampNeg x111)) (x116 : Int32).toNatClampNeg x120)) (41 : Int32).toNatClampNeg x127) := by rw [eu130, uk_up_self, C124]
            exact g_vret dX7_doIt_155 rfl ⟨rfl, hu130, fu130, rau130⟩
          · refine g_aload_n dX7_doIt_107 rfl ?_
            refine f_X7_13 rfl rfl dX7_doIt_108 ?_
            refine g_bipush (v := 32) dX7_doIt_111 (by decide) ?_
            refine g_iload_n dX7_doIt_113 rfl ?_
            refine g_iadd dX7_doIt_114 ?_
            refine g_topi (fun x132 ex132 => ?_)
            have v133 : vp_in x132 51 := uk_vin 51 rfl (by first | decide | lia | grind) (by first | decide | lia | grind)
            refine g_iald rfl rfl v133 dX7_doIt_115 ?_
            refine g_topi (fun x134 ex134 => ?_)
            have bx134 := uk_cl v133
            have rx134 : 0 ≤ x132 → x132 ≤ 7 → 0 ≤ x134 ∧ x134 ≤ 40 := fun a b => by rw [ex134]; exact sg_0 hu114 (by unfold uk_is51; decide) a b
            have rrx134 : 43 ≤ x132 → x132 ≤ 50 → 0 ≤ x134 ∧ x134 ≤ 7 := fun a b => by rw [ex134]; exact sg_43 hu114 (by unfold uk_is51; decide) a b
            have px134 : x134 = ((upd ((upd ((upd (u.1 62) (x87 : Int32).toNatClampNeg x90)) (x97 : Int32).toNatClampNeg x100)) (x107 : Int32).toNatClampNeg x111)) (x132 : Int32).toNatClampNeg := ex134.trans (congrFun C115 _)
            refine g_iconst (v := 3) dX7_doIt_116 (by decide) ?_
            refine g_icmp_ne (tgt := 134) dX7_doIt_117 (by decide) (fun c135 => ?_) (fun c135 => ?_)
            · refine g_aload_n dX7_doIt_134 rfl ?_
              refine f_X7_13 rfl rfl dX7_doIt_135 ?_
              refine g_bipush (v := 8) dX7_doIt_138 (by decide) ?_
              refine g_iload_n dX7_doIt_140 rfl ?_
              refine g_iadd dX7_doIt_141 ?_
              refine g_topi (fun x136 ex136 => ?_)
              have v137 : vp_in x136 51 := uk_vin 51 rfl (by first | decide | lia | grind) (by first | decide | lia | grind)
              refine g_iald rfl rfl v137 dX7_doIt_142 ?_
              refine g_topi (fun x138 ex138 => ?_)
              have bx138 := uk_cl v137
              have rx138 : 0 ≤ x136 → x136 ≤ 7 → 0 ≤ x138 ∧ x138 ≤ 40 := fun a b => by rw [ex138]; exact sg_0 hu114 (by unfold uk_is51; decide) a b
              have rrx138 : 43 ≤ x136 → x136 ≤ 50 → 0 ≤ x138 ∧ x138 ≤ 7 := fun a b => by rw [ex138]; exact sg_43 hu114 (by unfold uk_is51; decide) a b
              have px138 : x138 = ((upd ((upd ((upd (u.1 62) (x87 : Int32).toNatClampNeg x90)) (x97 : Int32).toNatClampNeg x100)) (x107 : Int32).toNatClampNeg x111)) (x136 : Int32).toNatClampNeg := ex138.trans (congrFun C115 _)
              have v139 : vp_in x116 51 := uk_vin 51 rfl (by first | decide | lia | grind) (by first | decide | lia | grind)
              have b140 := uk_cl v139
              refine g_iast rfl rfl v139 dX7_doIt_143 ?_
              refine g_mem (fun u141 eu141 => ?_)
              have hu141 : iv u141 := by rw [eu141]; exact iv_st hu114 (by unfold uk_is51; decide) (by first | decide | lia | grind) (by first | decide | lia | grind) (fun q => by first | decide | lia | grind) (fun q => by first | decide | lia | grind) (fun q => by first | decide | lia | grind)
              have fu141 : fk [62] [] u u141 := by rw [eu141]; exact fk_up fu114 (by decide) (fun q => absurd q (by decide))
              have rau141 : ra u141 := by rw [eu141]; exact ra_at rau114 (by first | decide | lia | grind) (by first | decide | lia | grind)
              have C142 : u141.1 62 = (upd ((upd ((upd ((upd (u.1 62) (x87 : Int32).toNatClampNeg x90)) (x97 : Int32).toNatClampNeg x100)) (x107 : Int32).toNatClampNeg x111)) (x116 : Int32).toNatClampNeg x138) := by rw [eu141, uk_up_self, C115]
              refine g_aload_n dX7_doIt_144 rfl ?_
              refine f_X7_13 rfl rfl dX7_doIt_145 ?_
              refine g_bipush (v := 41) dX7_doIt_148 (by decide) ?_
              refine g_dup2 dX7_doIt_150 rfl rfl ?_
              have v143 : vp_in 41 51 := uk_vin 51 rfl (by first | decide | lia | grind) (by first | decide | lia | grind)
              refine g_iald rfl rfl v143 dX7_doIt_151 ?_
              refine g_topi (fun x144 ex144 => ?_)
              have bx144 := uk_cl v143
              have px144 : x144 = ((upd ((upd ((upd ((upd (u.1 62) (x87 : Int32).toNatClampNeg x90)) (x97 : Int32).toNatClampNeg x100)) (x107 : Int32).toNatClampNeg x111)) (x116 : Int32).toNatClampNeg x138)) (41 : Int32).toNatClampNeg := ex144.trans (congrFun C142 _)
              refine g_iconst (v := 1) dX7_doIt_152 (by decide) ?_
              refine g_iadd dX7_doIt_153 ?_
              refine g_topi (fun x145 ex145 => ?_)
              have v146 : vp_in 41 51 := uk_vin 51 rfl (by first | decide | lia | grind) (by first | decide | lia | grind)
              have b147 := uk_cl v146
              refine g_iast rfl rfl v146 dX7_doIt_154 ?_
              refine g_mem (fun u148 eu148 => ?_)
              have hu148 : iv u148 := by rw [eu148]; exact iv_st hu141 (by unfold uk_is51; decide) (by first | decide | lia | grind) (by first | decide | lia | grind) (fun q => by first | decide | lia | grind) (fun q => by first | decide | lia | grind) (fun q => by first | decide | lia | grind)
              have fu148 : fk [62] [] u u148 := by rw [eu148]; exact fk_up fu141 (by decide) (fun q => absurd q (by decide))
              have rau148 : ra u148 := by rw [eu148]; exact ra_at rau141 (by first | decide | lia | grind) (by first | decide | lia | grind)
              have C149 : u148.1 62 = (upd ((upd ((upd ((upd ((upd (u.1 62) (x87 : Int32).toNatClampNeg x90)) (x97 : Int32).toNatClampNeg x100)) (x107 : Int32).toNatClampNeg x111)) (x116 : Int32).toNatClampNeg x138)) (41 : Int32).toNatClampNeg x145) := by rw [eu148, uk_up_self, C142]
              exact g_vret dX7_doIt_155 rfl ⟨rfl, hu148, fu148, rau148⟩
            · refine g_iconst (v := 1) dX7_doIt_120 (by decide) ?_
              refine g_aload_n dX7_doIt_121 rfl ?_
              refine f_X7_13 rfl rfl dX7_doIt_122 ?_
              refine g_bipush (v := 8) dX7_doIt_125 (by decide) ?_
              refine g_iload_n dX7_doIt_127 rfl ?_
              refine g_iadd dX7_doIt_128 ?_
              refine g_topi (fun x150 ex150 => ?_)
              have v151 : vp_in x150 51 := uk_vin 51 rfl (by first | decide | lia | grind) (by first | decide | lia | grind)
              refine g_iald rfl rfl v151 dX7_doIt_129 ?_
              refine g_topi (fun x152 ex152 => ?_)
              have bx152 := uk_cl v151
              have rx152 : 0 ≤ x150 → x150 ≤ 7 → 0 ≤ x152 ∧ x152 ≤ 40 := fun a b => by rw [ex152]; exact sg_0 hu114 (by unfold uk_is51; decide) a b
              have rrx152 : 43 ≤ x150 → x150 ≤ 50 → 0 ≤ x152 ∧ x152 ≤ 7 := fun a b => by rw [ex152]; exact sg_43 hu114 (by unfold uk_is51; decide) a b
              have px152 : x152 = ((upd ((upd ((upd (u.1 62) (x87 : Int32).toNatClampNeg x90)) (x97 : Int32).toNatClampNeg x100)) (x107 : Int32).toNatClampNeg x111)) (x150 : Int32).toNatClampNeg := ex152.trans (congrFun C115 _)
              refine g_isub dX7_doIt_130 ?_
              refine g_topi (fun x153 ex153 => ?_)
              refine g_goto (tgt := 143) dX7_doIt_131 (by decide) ?_
              have v154 : vp_in x116 51 := uk_vin 51 rfl (by first | decide | lia | grind) (by first | decide | lia | grind)
              have b155 := uk_cl v154
              refine g_iast rfl rfl v154 dX7_doIt_143 ?_
              refine g_mem (fun u156 eu156 => ?_)
              have hu156 : iv u156 := by rw [eu156]; exact iv_st hu114 (by unfold uk_is51; decide) (by first | decide | lia | grind) (by first | decide | lia | grind) (fun q => by first | decide | lia | grind) (fun q => by first | decide | lia | grind) (fun q => by first | decide | lia | grind)
              have fu156 : fk [62] [] u u156 := by rw [eu156]; exact fk_up fu114 (by decide) (fun q => absurd q (by decide))
              have rau156 : ra u156 := by rw [eu156]; exact ra_at rau114 (by first | decide | lia | grind) (by first | decide | lia | grind)
              have C157 : u156.1 62 = (upd ((upd ((upd ((upd (u.1 62) (x87 : Int32).toNatClampNeg x90)) (x97 : Int32).toNatClampNeg x100)) (x107 : Int32).toNatClampNeg x111)) (x116 : Int32).toNatClampNeg x153) := by rw [eu156, uk_up_self, C115]
              refine g_aload_n dX7_doIt_144 rfl ?_
              refine f_X7_13 rfl rfl dX7_doIt_145 ?_
              refine g_bipush (v := 41) dX7_doIt_148 (by decide) ?_
              refine g_dup2 dX7_doIt_150 rfl rfl ?_
              have v158 : vp_in 41 51 := uk_vin 51 rfl (by first | decide | lia | grind) (by first | decide | lia | grind)
              refine g_iald rfl rfl v158 dX7_doIt_151 ?_
              refine g_topi (fun x159 ex159 => ?_)
              have bx159 := uk_cl v158
              have px159 : x159 = ((upd ((upd ((upd ((upd (u.1 62) (x87 : Int32).toNatClampNeg x90)) (x97 : Int32).toNatClampNeg x100)) (x107 : Int32).toNatClampNeg x111)) (x116 : Int32).toNatClampNeg x153)) (41 : Int32).toNatClampNeg := ex159.trans (congrFun C157 _)
              refine g_iconst (v := 1) dX7_doIt_152 (by decide) ?_
              refine g_iadd dX7_doIt_153 ?_
              refine g_topi (fun x160 ex160 => ?_)
              have v161 : vp_in 41 51 := uk_vin 51 rfl (by first | decide | lia | grind) (by first | decide | lia | grind)
              have b162 := uk_cl v161
              refine g_iast rfl rfl v161 dX7_doIt_154 ?_
              refine g_mem (fun u163 eu163 => ?_)
              have hu163 : iv u163 := by rw [eu163]; exact iv_st hu156 (by unfold uk_is51; decide) (by first | decide | lia | grind) (by first | decide | lia | grind) (fun q => by first | decide | lia | grind) (fun q => by first | decide | lia | grind) (fun q => by first | decide | lia | grind)
              have fu163 : fk [62] [] u u163 := by rw [eu163]; exact fk_up fu156 (by decide) (fun q => absurd q (by decide))
              have rau163 : ra u163 := by rw [eu163]; exact ra_at rau156 (by first | decide | lia | grind) (by first | decide | lia | grind)
              have C164 : u163.1 62 = (upd ((upd ((upd ((upd ((upd (u.1 62) (x87 : Int32).toNatClampNeg x90)) (x97 : Int32).toNatClampNeg x100)) (x107 : Int32).toNatClampNeg x111)) (x116 : Int32).toNatClampNeg x153)) (41 : Int32).toNatClampNeg x160) := by rw [eu163, uk_up_self, C157]
              exact g_vret dX7_doIt_155 rfl ⟨rfl, hu163, fu163, rau163⟩
        · exact absurd c110 (by decide)
      · have zc86 := nx85 c86
        refine g_iconst (v := 1) dX7_doIt_31 (by decide) ?_
        refine g_goto (tgt := 36) dX7_doIt_32 (by decide) ?_
        refine g_istore dX7_doIt_36 (by decide) ?_
        refine g_aload_n dX7_doIt_38 rfl ?_
        refine f_X7_13 rfl rfl dX7_doIt_39 ?_
        refine g_iconst (v := 0) dX7_doIt_42 (by decide) ?_
        refine g_iload_n dX7_doIt_43 rfl ?_
        refine g_iadd dX7_doIt_44 ?_
        refine g_topi (fun x165 ex165 => ?_)
        refine g_dup2 dX7_doIt_45 rfl rfl ?_
        have v166 : vp_in x165 51 := uk_vin 51 rfl (by first | decide | lia | grind) (by first | decide | lia | grind)
        refine g_iald rfl rfl v166 dX7_doIt_46 ?_
        refine g_topi (fun x167 ex167 => ?_)
        have bx167 := uk_cl v166
        have rx167 : 0 ≤ x165 → x165 ≤ 7 → 0 ≤ x167 ∧ x167 ≤ 40 := fun a b => by rw [ex167]; exact sg_0 hu (by unfold uk_is51; decide) a b
        have rrx167 : 43 ≤ x165 → x165 ≤ 50 → 0 ≤ x167 ∧ x167 ≤ 7 := fun a b => by rw [ex167]; exact sg_43 hu (by unfold uk_is51; decide) a b
        have px167 : x167 = (u.1 62) (x165 : Int32).toNatClampNeg := ex167.trans (congrFun C62 _)
        refine g_iload_n dX7_doIt_47 rfl ?_
        refine g_isub dX7_doIt_48 ?_
        refine g_topi (fun x168 ex168 => ?_)
        have v169 : vp_in x165 51 := uk_vin 51 rfl (by first | decide | lia | grind) (by first | decide | lia | grind)
        have b170 := uk_cl v169
        refine g_iast rfl rfl v169 dX7_doIt_49 ?_
        refine g_mem (fun u171 eu171 => ?_)
        have hu171 : iv u171 := by rw [eu171]; exact iv_st hu (by unfold uk_is51; decide) (by first | decide | lia | grind) (by first | decide | lia | grind) (fun q => by first | decide | lia | grind) (fun q => by first | decide | lia | grind) (fun q => by first | decide | lia | grind)
        have fu171 : fk [62] [] u u171 := by rw [eu171]; exact fk_up f0 (by decide) (fun q => absurd q (by decide))
        have rau171 : ra u171 := by rw [eu171]; exact ra_at hra (by first | decide | lia | grind) (by first | decide | lia | grind)
        have C172 : u171.1 62 = (upd (u.1 62) (x165 : Int32).toNatClampNeg x168) := by rw [eu171, uk_up_self, C62]
        refine g_aload_n dX7_doIt_50 rfl ?_
        refine f_X7_13 rfl rfl dX7_doIt_51 ?_
        refine g_iconst (v := 0) dX7_doIt_54 (by decide) ?_
        refine g_aload_n dX7_doIt_55 rfl ?_
        refine f_X7_20 rfl rfl dX7_doIt_56 ?_
        refine g_iload_n dX7_doIt_59 rfl ?_
        have v173 : vp_in x1 8 := uk_vin 8 rfl (by first | decide | lia | grind) (by first | decide | lia | grind)
        refine g_iald rfl rfl v173 dX7_doIt_60 ?_
        refine g_topi (fun x174 ex174 => ?_)
        have bx174 := uk_cl v173
        have rx174 : (-4) ≤ x174 ∧ x174 ≤ 7 := by rw [ex174]; exact iv_at hu171 _ _ (uk_pick1 _ (by omega))
        refine g_iadd dX7_doIt_61 ?_
        refine g_topi (fun x175 ex175 => ?_)
        refine g_dup2 dX7_doIt_62 rfl rfl ?_
        have v176 : vp_in x175 51 := uk_vin 51 rfl (by first | decide | lia | grind) (by first | decide | lia | grind)
        refine g_iald rfl rfl v176 dX7_doIt_63 ?_
        refine g_topi (fun x177 ex177 => ?_)
        have bx177 := uk_cl v176
        have rx177 : 0 ≤ x175 → x175 ≤ 7 → 0 ≤ x177 ∧ x177 ≤ 40 := fun a b => by rw [ex177]; exact sg_0 hu171 (by unfold uk_is51; decide) a b
        have rrx177 : 43 ≤ x175 → x175 ≤ 50 → 0 ≤ x177 ∧ x177 ≤ 7 := fun a b => by rw [ex177]; exact sg_43 hu171 (by unfold uk_is51; decide) a b
        have px177 : x177 = ((upd (u.1 62) (x165 : Int32).toNatClampNeg x168)) (x175 : Int32).toNatClampNeg := ex177.trans (congrFun C172 _)
        have lx177 : x177 = u.1 62 (x175 : Int32).toNatClampNeg := by rw [px177, upd_ne]; all_goals grind
        refine g_iload_n dX7_doIt_64 rfl ?_
        refine g_iadd dX7_doIt_65 ?_
        refine g_topi (fun x178 ex178 => ?_)
        have v179 : vp_in x175 51 := uk_vin 51 rfl (by first | decide | lia | grind) (by first | decide | lia | grind)
        have b180 := uk_cl v179
        refine g_iast rfl rfl v179 dX7_doIt_66 ?_
        refine g_mem (fun u181 eu181 => ?_)
        have hu181 : iv u181 := by rw [eu181]; exact iv_st hu171 (by unfold uk_is51; decide) (by first | decide | lia | grind) (by first | decide | lia | grind) (fun q => by first | decide | lia | grind) (fun q => by first | decide | lia | grind) (fun q => by first | decide | lia | grind)
        have fu181 : fk [62] [] u u181 := by rw [eu181]; exact fk_up fu171 (by decide) (fun q => absurd q (by decide))
        have rau181 : ra u181 := by rw [eu181]; exact ra_at rau171 (by first | decide | lia | grind) (by first | decide | lia | grind)
        have C182 : u181.1 62 = (upd ((upd (u.1 62) (x165 : Int32).toNatClampNeg x168)) (x175 : Int32).toNatClampNeg x178) := by rw [eu181, uk_up_self, C172]
        refine g_aload_n dX7_doIt_67 rfl ?_
        refine f_X7_13 rfl rfl dX7_doIt_68 ?_
        refine g_iconst (v := 0) dX7_doIt_71 (by decide) ?_
        refine g_aload_n dX7_doIt_72 rfl ?_
        refine f_X7_23 rfl rfl dX7_doIt_73 ?_
        refine g_iload_n dX7_doIt_76 rfl ?_
        have v183 : vp_in x1 8 := uk_vin 8 rfl (by first | decide | lia | grind) (by first | decide | lia | grind)
        refine g_iald rfl rfl v183 dX7_doIt_77 ?_
        refine g_topi (fun x184 ex184 => ?_)
        have bx184 := uk_cl v183
        have rx184 : (-4) ≤ x184 ∧ x184 ≤ 7 := by rw [ex184]; exact iv_at hu181 _ _ (uk_pick1 _ (by omega))
        refine g_iadd dX7_doIt_78 ?_
        refine g_topi (fun x185 ex185 => ?_)
        refine g_dup2 dX7_doIt_79 rfl rfl ?_
        have v186 : vp_in x185 51 := uk_vin 51 rfl (by first | decide | lia | grind) (by first | decide | lia | grind)
        refine g_iald rfl rfl v186 dX7_doIt_80 ?_
        refine g_topi (fun x187 ex187 => ?_)
        have bx187 := uk_cl v186
        have rx187 : 0 ≤ x185 → x185 ≤ 7 → 0 ≤ x187 ∧ x187 ≤ 40 := fun a b => by rw [ex187]; exact sg_0 hu181 (by unfold uk_is51; decide) a b
        have rrx187 : 43 ≤ x185 → x185 ≤ 50 → 0 ≤ x187 ∧ x187 ≤ 7 := fun a b => by rw [ex187]; exact sg_43 hu181 (by unfold uk_is51; decide) a b
        have px187 : x187 = ((upd ((upd (u.1 62) (x165 : Int32).toNatClampNeg x168)) (x175 : Int32).toNatClampNeg x178)) (x185 : Int32).toNatClampNeg := ex187.trans (congrFun C182 _)
        have lx187 : (x185 = x175 → x187 = x178) ∧ (¬ x185 = x175 → x187 = u.1 62 (x185 : Int32).toNatClampNeg) := ⟨fun q => by rw [px187, upd_at q], fun q => by rw [px187, upd_ne, upd_ne]; all_goals grind⟩
        refine g_iload dX7_doIt_81 rfl ?_
        refine g_if_eq (tgt := 90) dX7_doIt_83 (by decide) (fun c188 => ?_) (fun c188 => ?_)
        · exact absurd c188 (by decide)
        · refine g_iload_n dX7_doIt_86 rfl ?_
          refine g_goto (tgt := 91) dX7_doIt_87 (by decide) ?_
          refine g_iadd dX7_doIt_91 ?_
          refine g_topi (fun x189 ex189 => ?_)
          have v190 : vp_in x185 51 := uk_vin 51 rfl (by first | decide | lia | grind) (by first | decide | lia | grind)
          have b191 := uk_cl v190
          refine g_iast rfl rfl v190 dX7_doIt_92 ?_
          refine g_mem (fun u192 eu192 => ?_)
          have hu192 : iv u192 := by rw [eu192]; exact iv_st hu181 (by unfold uk_is51; decide) (by first | decide | lia | grind) (by first | decide | lia | grind) (fun q => by first | decide | lia | grind) (fun q => by first | decide | lia | grind) (fun q => by first | decide | lia | grind)
          have fu192 : fk [62] [] u u192 := by rw [eu192]; exact fk_up fu181 (by decide) (fun q => absurd q (by decide))
          have rau192 : ra u192 := by rw [eu192]; exact ra_at rau181 (by first | decide | lia | grind) (by first | decide | lia | grind)
          have C193 : u192.1 62 = (upd ((upd ((upd (u.1 62) (x165 : Int32).toNatClampNeg x168)) (x175 : Int32).toNatClampNeg x178)) (x185 : Int32).toNatClampNeg x189) := by rw [eu192, uk_up_self, C182]
          refine g_aload_n dX7_doIt_93 rfl ?_
          refine f_X7_13 rfl rfl dX7_doIt_94 ?_
          refine g_bipush (v := 8) dX7_doIt_97 (by decide) ?_
          refine g_iload_n dX7_doIt_99 rfl ?_
          refine g_iadd dX7_doIt_100 ?_
          refine g_topi (fun x194 ex194 => ?_)
          refine g_iload_n dX7_doIt_101 rfl ?_
          refine g_bipush (v := 10) dX7_doIt_102 (by decide) ?_
          refine g_icmp_lt (tgt := 134) dX7_doIt_104 (by decide) (fun c195 => ?_) (fun c195 => ?_)
          · refine g_aload_n dX7_doIt_134 rfl ?_
            refine f_X7_13 rfl rfl dX7_doIt_135 ?_
            refine g_bipush (v := 8) dX7_doIt_138 (by decide) ?_
            refine g_iload_n dX7_doIt_140 rfl ?_
            refine g_iadd dX7_doIt_141 ?_
            refine g_topi (fun x196 ex196 => ?_)
            have v197 : vp_in x196 51 := uk_vin 51 rfl (by first | decide | lia | grind) (by first | decide | lia | grind)
            refine g_iald rfl rfl v197 dX7_doIt_142 ?_
            refine g_topi (fun x198 ex198 => ?_)
            have bx198 := uk_cl v197
            have rx198 : 0 ≤ x196 → x196 ≤ 7 → 0 ≤ x198 ∧ x198 ≤ 40 := fun a b => by rw [ex198]; exact sg_0 hu192 (by unfold uk_is51; decide) a b
            have rrx198 : 43 ≤ x196 → x196 ≤ 50 → 0 ≤ x198 ∧ x198 ≤ 7 := fun a b => by rw [ex198]; exact sg_43 hu192 (by unfold uk_is51; decide) a b
            have px198 : x198 = ((upd ((upd ((upd (u.1 62) (x165 : Int32).toNatClampNeg x168)) (x175 : Int32).toNatClampNeg x178)) (x185 : Int32).toNatClampNeg x189)) (x196 : Int32).toNatClampNeg := ex198.trans (congrFun C193 _)
            have v199 : vp_in x194 51 := uk_vin 51 rfl (by first | decide | lia | grind) (by first | decide | lia | grind)
            have b200 := uk_cl v199
            refine g_iast rfl rfl v199 dX7_doIt_143 ?_
            refine g_mem (fun u201 eu201 => ?_)
            have hu201 : iv u201 := by rw [eu201]; exact iv_st hu192 (by unfold uk_is51; decide) (by first | decide | lia | grind) (by first | decide | lia | grind) (fun q => by first | decide | lia | grind) (fun q => by first | decide | lia | grind) (fun q => by first | decide | lia | grind)
            have fu201 : fk [62] [] u u201 := by rw [eu201]; exact fk_up fu192 (by decide) (fun q => absurd q (by decide))
            have rau201 : ra u201 := by rw [eu201]; exact ra_at rau192 (by first | decide | lia | grind) (by first | decide | lia | grind)
            have C202 : u201.1 62 = (upd ((upd ((upd ((upd (u.1 62) (x165 : Int32).toNatClampNeg x168)) (x175 : Int32).toNatClampNeg x178)) (x185 : Int32).toNatClampNeg x189)) (x194 : Int32).toNatClampNeg x198) := by rw [eu201, uk_up_self, C193]
            refine g_aload_n dX7_doIt_144 rfl ?_
            refine f_X7_13 rfl rfl dX7_doIt_145 ?_
            refine g_bipush (v := 41) dX7_doIt_148 (by decide) ?_
            refine g_dup2 dX7_doIt_150 rfl rfl ?_
            have v203 : vp_in 41 51 := uk_vin 51 rfl (by first | decide | lia | grind) (by first | decide | lia | grind)
            refine g_iald rfl rfl v203 dX7_doIt_151 ?_
            refine g_topi (fun x204 ex204 => ?_)
            have bx204 := uk_cl v203
            have px204 : x204 = ((upd ((upd ((upd ((upd (u.1 62) (x165 : Int32).toNatClampNeg x168)) (x175 : Int32).toNatClampNeg x178)) (x185 : Int32).toNatClampNeg x189)) (x194 : Int32).toNatClampNeg x198)) (41 : Int32).toNatClampNeg := ex204.trans (congrFun C202 _)
            refine g_iconst (v := 1) dX7_doIt_152 (by decide) ?_
            refine g_iadd dX7_doIt_153 ?_
            refine g_topi (fun x205 ex205 => ?_)
            have v206 : vp_in 41 51 := uk_vin 51 rfl (by first | decide | lia | grind) (by first | decide | lia | grind)
            have b207 := uk_cl v206
            refine g_iast rfl rfl v206 dX7_doIt_154 ?_
            refine g_mem (fun u208 eu208 => ?_)
            have hu208 : iv u208 := by rw [eu208]; exact iv_st hu201 (by unfold uk_is51; decide) (by first | decide | lia | grind) (by first | decide | lia | grind) (fun q => by first | decide | lia | grind) (fun q => by first | decide | lia | grind) (fun q => by first | decide | lia | grind)
            have fu208 : fk [62] [] u u208 := by rw [eu208]; exact fk_up fu201 (by decide) (fun q => absurd q (by decide))
            have rau208 : ra u208 := by rw [eu208]; exact ra_at rau201 (by first | decide | lia | grind) (by first | decide | lia | grind)
            have C209 : u208.1 62 = (upd ((upd ((upd ((upd ((upd (u.1 62) (x165 : Int32).toNatClampNeg x168)) (x175 : Int32).toNatClampNeg x178)) (x185 : Int32).toNatClampNeg x189)) (x194 : Int32).toNatClampNeg x198)) (41 : Int32).toNatClampNeg x205) := by rw [eu208, uk_up_self, C202]
            exact g_vret dX7_doIt_155 rfl ⟨rfl, hu208, fu208, rau208⟩
          · refine g_aload_n dX7_doIt_107 rfl ?_
            refine f_X7_13 rfl rfl dX7_doIt_108 ?_
            refine g_bipush (v := 32) dX7_doIt_111 (by decide) ?_
            refine g_iload_n dX7_doIt_113 rfl ?_
            refine g_iadd dX7_doIt_114 ?_
            refine g_topi (fun x210 ex210 => ?_)
            have v211 : vp_in x210 51 := uk_vin 51 rfl (by first | decide | lia | grind) (by first | decide | lia | grind)
            refine g_iald rfl rfl v211 dX7_doIt_115 ?_
            refine g_topi (fun x212 ex212 => ?_)
            have bx212 := uk_cl v211
            have rx212 : 0 ≤ x210 → x210 ≤ 7 → 0 ≤ x212 ∧ x212 ≤ 40 := fun a b => by rw [ex212]; exact sg_0 hu192 (by unfold uk_is51; decide) a b
            have rrx212 : 43 ≤ x210 → x210 ≤ 50 → 0 ≤ x212 ∧ x212 ≤ 7 := fun a b => by rw [ex212]; exact sg_43 hu192 (by unfold uk_is51; decide) a b
            have px212 : x212 = ((upd ((upd ((upd (u.1 62) (x165 : Int32).toNatClampNeg x168)) (x175 : Int32).toNatClampNeg x178)) (x185 : Int32).toNatClampNeg x189)) (x210 : Int32).toNatClampNeg := ex212.trans (congrFun C193 _)
            refine g_iconst (v := 3) dX7_doIt_116 (by decide) ?_
            refine g_icmp_ne (tgt := 134) dX7_doIt_117 (by decide) (fun c213 => ?_) (fun c213 => ?_)
            · refine g_aload_n dX7_doIt_134 rfl ?_
              refine f_X7_13 rfl rfl dX7_doIt_135 ?_
              refine g_bipush (v := 8) dX7_doIt_138 (by decide) ?_
              refine g_iload_n dX7_doIt_140 rfl ?_
              refine g_iadd dX7_doIt_141 ?_
              refine g_topi (fun x214 ex214 => ?_)
              have v215 : vp_in x214 51 := uk_vin 51 rfl (by first | decide | lia | grind) (by first | decide | lia | grind)
              refine g_iald rfl rfl v215 dX7_doIt_142 ?_
              refine g_topi (fun x216 ex216 => ?_)
              have bx216 := uk_cl v215
              have rx216 : 0 ≤ x214 → x214 ≤ 7 → 0 ≤ x216 ∧ x216 ≤ 40 := fun a b => by rw [ex216]; exact sg_0 hu192 (by unfold uk_is51; decide) a b
              have rrx216 : 43 ≤ x214 → x214 ≤ 50 → 0 ≤ x216 ∧ x216 ≤ 7 := fun a b => by rw [ex216]; exact sg_43 hu192 (by unfold uk_is51; decide) a b
              have px216 : x216 = ((upd ((upd ((upd (u.1 62) (x165 : Int32).toNatClampNeg x168)) (x175 : Int32).toNatClampNeg x178)) (x185 : Int32).toNatClampNeg x189)) (x214 : Int32).toNatClampNeg := ex216.trans (congrFun C193 _)
              have v217 : vp_in x194 51 := uk_vin 51 rfl (by first | decide | lia | grind) (by first | decide | lia | grind)
              have b218 := uk_cl v217
              refine g_iast rfl rfl v217 dX7_doIt_143 ?_
              refine g_mem (fun u219 eu219 => ?_)
              have hu219 : iv u219 := by rw [eu219]; exact iv_st hu192 (by unfold uk_is51; decide) (by first | decide | lia | grind) (by first | decide | lia | grind) (fun q => by first | decide | lia | grind) (fun q => by first | decide | lia | grind) (fun q => by first | decide | lia | grind)
              have fu219 : fk [62] [] u u219 := by rw [eu219]; exact fk_up fu192 (by decide) (fun q => absurd q (by decide))
              have rau219 : ra u219 := by rw [eu219]; exact ra_at rau192 (by first | decide | lia | grind) (by first | decide | lia | grind)
              have C220 : u219.1 62 = (upd ((upd ((upd ((upd (u.1 62) (x165 : Int32).toNatClampNeg x168)) (x175 : Int32).toNatClampNeg x178)) (x185 : Int32).toNatClampNeg x189)) (x194 : Int32).toNatClampNeg x216) := by rw [eu219, uk_up_self, C193]
              refine g_aload_n dX7_doIt_144 rfl ?_
              refine f_X7_13 rfl rfl dX7_doIt_145 ?_
              refine g_bipush (v := 41) dX7_doIt_148 (by decide) ?_
              refine g_dup2 dX7_doIt_150 rfl rfl ?_
              have v221 : vp_in 41 51 := uk_vin 51 rfl (by first | decide | lia | grind) (by first | decide | lia | grind)
              refine g_iald rfl rfl v221 dX7_doIt_151 ?_
              refine g_topi (fun x222 ex222 => ?_)
              have bx222 := uk_cl v221
              have px222 : x222 = ((upd ((upd ((upd ((upd (u.1 62) (x165 : Int32).toNatClampNeg x168)) (x175 : Int32).toNatClampNeg x178)) (x185 : Int32).toNatClampNeg x189)) (x194 : Int32).toNatClampNeg x216)) (41 : Int32).toNatClampNeg := ex222.trans (congrFun C220 _)
              refine g_iconst (v := 1) dX7_doIt_152 (by decide) ?_
              refine g_iadd dX7_doIt_153 ?_
              refine g_topi (fun x223 ex223 => ?_)
              have v224 : vp_in 41 51 := uk_vin 51 rfl (by first | decide | lia | grind) (by first | decide | lia | grind)
              have b225 := uk_cl v224
              refine g_iast rfl rfl v224 dX7_doIt_154 ?_
              refine g_mem (fun u226 eu226 => ?_)
              have hu226 : iv u226 := by rw [eu226]; exact iv_st hu219 (by unfold uk_is51; decide) (by first | decide | lia | grind) (by first | decide | lia | grind) (fun q => by first | decide | lia | grind) (fun q => by first | decide | lia | grind) (fun q => by first | decide | lia | grind)
              have fu226 : fk [62] [] u u226 := by rw [eu226]; exact fk_up fu219 (by decide) (fun q => absurd q (by decide))
              have rau226 : ra u226 := by rw [eu226]; exact ra_at rau219 (by first | decide | lia | grind) (by first | decide | lia | grind)
              have C227 : u226.1 62 = (upd ((upd ((upd ((upd ((upd (u.1 62) (x165 : Int32).toNatClampNeg x168)) (x175 : Int32).toNatClampNeg x178)) (x185 : Int32).toNatClampNeg x189)) (x194 : Int32).toNatClampNeg x216)) (41 : Int32).toNatClampNeg x223) := by rw [eu226, uk_up_self, C220]
              exact g_vret dX7_doIt_155 rfl ⟨rfl, hu226, fu226, rau226⟩
            · refine g_iconst (v := 1) dX7_doIt_120 (by decide) ?_
              refine g_aload_n dX7_doIt_121 rfl ?_
              refine f_X7_13 rfl rfl dX7_doIt_122 ?_
              refine g_bipush (v := 8) dX7_doIt_125 (by decide) ?_
              refine g_iload_n dX7_doIt_127 rfl ?_
              refine g_iadd dX7_doIt_128 ?_
              refine g_topi (fun x228 ex228 => ?_)
              have v229 : vp_in x228 51 := uk_vin 51 rfl (by first | decide | lia | grind) (by first | decide | lia | grind)
              refine g_iald rfl rfl v229 dX7_doIt_129 ?_
              refine g_topi (fun x230 ex230 => ?_)
              have bx230 := uk_cl v229
              have rx230 : 0 ≤ x228 → x228 ≤ 7 → 0 ≤ x230 ∧ x230 ≤ 40 := fun a b => by rw [ex230]; exact sg_0 hu192 (by unfold uk_is51; decide) a b
              have rrx230 : 43 ≤ x228 → x228 ≤ 50 → 0 ≤ x230 ∧ x230 ≤ 7 := fun a b => by rw [ex230]; exact sg_43 hu192 (by unfold uk_is51; decide) a b
              have px230 : x230 = ((upd ((upd ((upd (u.1 62) (x165 : Int32).toNatClampNeg x168)) (x175 : Int32).toNatClampNeg x178)) (x185 : Int32).toNatClampNeg x189)) (x228 : Int32).toNatClampNeg := ex230.trans (congrFun C193 _)
              refine g_isub dX7_doIt_130 ?_
              refine g_topi (fun x231 ex231 => ?_)
              refine g_goto (tgt := 143) dX7_doIt_131 (by decide) ?_
              have v232 : vp_in x194 51 := uk_vin 51 rfl (by first | decide | lia | grind) (by first | decide | lia | grind)
              have b233 := uk_cl v232
              refine g_iast rfl rfl v232 dX7_doIt_143 ?_
              refine g_mem (fun u234 eu234 => ?_)
              have hu234 : iv u234 := by rw [eu234]; exact iv_st hu192 (by unfold uk_is51; decide) (by first | decide | lia | grind) (by first | decide | lia | grind) (fun q => by first | decide | lia | grind) (fun q => by first | decide | lia | grind) (fun q => by first | decide | lia | grind)
              have fu234 : fk [62] [] u u234 := by rw [eu234]; exact fk_up fu192 (by decide) (fun q => absurd q (by decide))
              have rau234 : ra u234 := by rw [eu234]; exact ra_at rau192 (by first | decide | lia | grind) (by first | decide | lia | grind)
              have C235 : u234.1 62 = (upd ((upd ((upd ((upd (u.1 62) (x165 : Int32).toNatClampNeg x168)) (x175 : Int32).toNatClampNeg x178)) (x185 : Int32).toNatClampNeg x189)) (x194 : Int32).toNatClampNeg x231) := by rw [eu234, uk_up_self, C193]
              refine g_aload_n dX7_doIt_144 rfl ?_
              refine f_X7_13 rfl rfl dX7_doIt_145 ?_
              refine g_bipush (v := 41) dX7_doIt_148 (by decide) ?_
              refine g_dup2 dX7_doIt_150 rfl rfl ?_
              have v236 : vp_in 41 51 := uk_vin 51 rfl (by first | decide | lia | grind) (by first | decide | lia | grind)
              refine g_iald rfl rfl v236 dX7_doIt_151 ?_
              refine g_topi (fun x237 ex237 => ?_)
              have bx237 := uk_cl v236
              have px237 : x237 = ((upd ((upd ((upd ((upd (u.1 62) (x165 : Int32).toNatClampNeg x168)) (x175 : Int32).toNatClampNeg x178)) (x185 : Int32).toNatClampNeg x189)) (x194 : Int32).toNatClampNeg x231)) (41 : Int32).toNatClampNeg := ex237.trans (congrFun C235 _)
              refine g_iconst (v := 1) dX7_doIt_152 (by decide) ?_
              refine g_iadd dX7_doIt_153 ?_
              refine g_topi (fun x238 ex238 => ?_)
              have v239 : vp_in 41 51 := uk_vin 51 rfl (by first | decide | lia | grind) (by first | decide | lia | grind)
              have b240 := uk_cl v239
              refine g_iast rfl rfl v239 dX7_doIt_154 ?_
              refine g_mem (fun u241 eu241 => ?_)
              have hu241 : iv u241 := by rw [eu241]; exact iv_st hu234 (by unfold uk_is51; decide) (by first | decide | lia | grind) (by first | decide | lia | grind) (fun q => by first | decide | lia | grind) (fun q => by first | decide | lia | grind) (fun q => by first | decide | lia | grind)
              have fu241 : fk [62] [] u u241 := by rw [eu241]; exact fk_up fu234 (by decide) (fun q => absurd q (by decide))
              have rau241 : ra u241 := by rw [eu241]; exact ra_at rau234 (by first | decide | lia | grind) (by first | decide | lia | grind)
              have C242 : u241.1 62 = (upd ((upd ((upd ((upd ((upd (u.1 62) (x165 : Int32).toNatClampNeg x168)) (x175 : Int32).toNatClampNeg x178)) (x185 : Int32).toNatClampNeg x189)) (x194 : Int32).toNatClampNeg x231)) (41 : Int32).toNatClampNeg x238) := by rw [eu241, uk_up_self, C235]
              exact g_vret dX7_doIt_155 rfl ⟨rfl, hu241, fu241, rau241⟩
  · refine g_iconst (v := (-1)) dX7_doIt_11 (by decide) ?_
    refine g_goto (tgt := 16) dX7_doIt_12 (by decide) ?_
    refine g_istore_n dX7_doIt_16 (by decide) ?_
    refine g_iload_n dX7_doIt_17 rfl ?_
    refine g_bipush (v := 10) dX7_doIt_18 (by decide) ?_
    refine g_icmp_lt (tgt := 31) dX7_doIt_20 (by decide) (fun c243 => ?_) (fun c243 => ?_)
    · refine g_iconst (v := 1) dX7_doIt_31 (by decide) ?_
      refine g_goto (tgt := 36) dX7_doIt_32 (by decide) ?_
      refine g_istore dX7_doIt_36 (by decide) ?_
      refine g_aload_n dX7_doIt_38 rfl ?_
      refine f_X7_13 rfl rfl dX7_doIt_39 ?_
      refine g_iconst (v := 0) dX7_doIt_42 (by decide) ?_
      refine g_iload_n dX7_doIt_43 rfl ?_
      refine g_iadd dX7_doIt_44 ?_
      refine g_topi (fun x244 ex244 => ?_)
      refine g_dup2 dX7_doIt_45 rfl rfl ?_
      have v245 : vp_in x244 51 := uk_vin 51 rfl (by first | decide | lia | grind) (by first | decide | lia | grind)
      refine g_iald rfl rfl v245 dX7_doIt_46 ?_
      refine g_topi (fun x246 ex246 => ?_)
      have bx246 := uk_cl v245
      have rx246 : 0 ≤ x244 → x244 ≤ 7 → 0 ≤ x246 ∧ x246 ≤ 40 := fun a b => by rw [ex246]; exact sg_0 hu (by unfold uk_is51; decide) a b
      have rrx246 : 43 ≤ x244 → x244 ≤ 50 → 0 ≤ x246 ∧ x246 ≤ 7 := fun a b => by rw [ex246]; exact sg_43 hu (by unfold uk_is51; decide) a b
      have px246 : x246 = (u.1 62) (x244 : Int32).toNatClampNeg := ex246.trans (congrFun C62 _)
      refine g_iload_n dX7_doIt_47 rfl ?_
      refine g_isub dX7_doIt_48 ?_
      refine g_topi (fun x247 ex247 => ?_)
      have v248 : vp_in x244 51 := uk_vin 51 rfl (by first | decide | lia | grind) (by first | decide | lia | grind)
      have b249 := uk_cl v248
      refine g_iast rfl rfl v248 dX7_doIt_49 ?_
      refine g_mem (fun u250 eu250 => ?_)
      have hu250 : iv u250 := by rw [eu250]; exact iv_st hu (by unfold uk_is51; decide) (by first | decide | lia | grind) (by first | decide | lia | grind) (fun q => by first | decide | lia | grind) (fun q => by first | decide | lia | grind) (fun q => by first | decide | lia | grind)
      have fu250 : fk [62] [] u u250 := by rw [eu250]; exact fk_up f0 (by decide) (fun q => absurd q (by decide))
      have rau250 : ra u250 := by rw [eu250]; exact ra_at hra (by first | decide | lia | grind) (by first | decide | lia | grind)
      have C251 : u250.1 62 = (upd (u.1 62) (x244 : Int32).toNatClampNeg x247) := by rw [eu250, uk_up_self, C62]
      refine g_aload_n dX7_doIt_50 rfl ?_
      refine f_X7_13 rfl rfl dX7_doIt_51 ?_
      refine g_iconst (v := 0) dX7_doIt_54 (by decide) ?_
      refine g_aload_n dX7_doIt_55 rfl ?_
      refine f_X7_20 rfl rfl dX7_doIt_56 ?_
      refine g_iload_n dX7_doIt_59 rfl ?_
      have v252 : vp_in x1 8 := uk_vin 8 rfl (by first | decide | lia | grind) (by first | decide | lia | grind)
      refine g_iald rfl rfl v252 dX7_doIt_60 ?_
      refine g_topi (fun x253 ex253 => ?_)
      have bx253 := uk_cl v252
      have rx253 : (-4) ≤ x253 ∧ x253 ≤ 7 := by rw [ex253]; exact iv_at hu250 _ _ (uk_pick1 _ (by omega))
      refine g_iadd dX7_doIt_61 ?_
      refine g_topi (fun x254 ex254 => ?_)
      refine g_dup2 dX7_doIt_62 rfl rfl ?_
      have v255 : vp_in x254 51 := uk_vin 51 rfl (by first | decide | lia | grind) (by first | decide | lia | grind)
      refine g_iald rfl rfl v255 dX7_doIt_63 ?_
      refine g_topi (fun x256 ex256 => ?_)
      have bx256 := uk_cl v255
      have rx256 : 0 ≤ x254 → x254 ≤ 7 → 0 ≤ x256 ∧ x256 ≤ 40 := fun a b => by rw [ex256]; exact sg_0 hu250 (by unfold uk_is51; decide) a b
      have rrx256 : 43 ≤ x254 → x254 ≤ 50 → 0 ≤ x256 ∧ x256 ≤ 7 := fun a b => by rw [ex256]; exact sg_43 hu250 (by unfold uk_is51; decide) a b
      have px256 : x256 = ((upd (u.1 62) (x244 : Int32).toNatClampNeg x247)) (x254 : Int32).toNatClampNeg := ex256.trans (congrFun C251 _)
      have lx256 : x256 = u.1 62 (x254 : Int32).toNatClampNeg := by rw [px256, upd_ne]; all_goals grind
      refine g_iload_n dX7_doIt_64 rfl ?_
      refine g_iadd dX7_doIt_65 ?_
      refine g_topi (fun x257 ex257 => ?_)
      have v258 : vp_in x254 51 := uk_vin 51 rfl (by first | decide | lia | grind) (by first | decide | lia | grind)
      have b259 := uk_cl v258
      refine g_iast rfl rfl v258 dX7_doIt_66 ?_
      refine g_mem (fun u260 eu260 => ?_)
      have hu260 : iv u260 := by rw [eu260]; exact iv_st hu250 (by unfold uk_is51; decide) (by first | decide | lia | grind) (by first | decide | lia | grind) (fun q => by first | decide | lia | grind) (fun q => by first | decide | lia | grind) (fun q => by first | decide | lia | grind)
      have fu260 : fk [62] [] u u260 := by rw [eu260]; exact fk_up fu250 (by decide) (fun q => absurd q (by decide))
      have rau260 : ra u260 := by rw [eu260]; exact ra_at rau250 (by first | decide | lia | grind) (by first | decide | lia | grind)
      have C261 : u260.1 62 = (upd ((upd (u.1 62) (x244 : Int32).toNatClampNeg x247)) (x254 : Int32).toNatClampNeg x257) := by rw [eu260, uk_up_self, C251]
      refine g_aload_n dX7_doIt_67 rfl ?_
      refine f_X7_13 rfl rfl dX7_doIt_68 ?_
      refine g_iconst (v := 0) dX7_doIt_71 (by decide) ?_
      refine g_aload_n dX7_doIt_72 rfl ?_
      refine f_X7_23 rfl rfl dX7_doIt_73 ?_
      refine g_iload_n dX7_doIt_76 rfl ?_
      have v262 : vp_in x1 8 := uk_vin 8 rfl (by first | decide | lia | grind) (by first | decide | lia | grind)
      refine g_iald rfl rfl v262 dX7_doIt_77 ?_
      refine g_topi (fun x263 ex263 => ?_)
      have bx263 := uk_cl v262
      have rx263 : (-4) ≤ x263 ∧ x263 ≤ 7 := by rw [ex263]; exact iv_at hu260 _ _ (uk_pick1 _ (by omega))
      refine g_iadd dX7_doIt_78 ?_
      refine g_topi (fun x264 ex264 => ?_)
      refine g_dup2 dX7_doIt_79 rfl rfl ?_
      have v265 : vp_in x264 51 := uk_vin 51 rfl (by first | decide | lia | grind) (by first | decide | lia | grind)
      refine g_iald rfl rfl v265 dX7_doIt_80 ?_
      refine g_topi (fun x266 ex266 => ?_)
      have bx266 := uk_cl v265
      have rx266 : 0 ≤ x264 → x264 ≤ 7 → 0 ≤ x266 ∧ x266 ≤ 40 := fun a b => by rw [ex266]; exact sg_0 hu260 (by unfold uk_is51; decide) a b
      have rrx266 : 43 ≤ x264 → x264 ≤ 50 → 0 ≤ x266 ∧ x266 ≤ 7 := fun a b => by rw [ex266]; exact sg_43 hu260 (by unfold uk_is51; decide) a b
      have px266 : x266 = ((upd ((upd (u.1 62) (x244 : Int32).toNatClampNeg x247)) (x254 : Int32).toNatClampNeg x257)) (x264 : Int32).toNatClampNeg := ex266.trans (congrFun C261 _)
      have lx266 : (x264 = x254 → x266 = x257) ∧ (¬ x264 = x254 → x266 = u.1 62 (x264 : Int32).toNatClampNeg) := ⟨fun q => by rw [px266, upd_at q], fun q => by rw [px266, upd_ne, upd_ne]; all_goals grind⟩
      refine g_iload dX7_doIt_81 rfl ?_
      refine g_if_eq (tgt := 90) dX7_doIt_83 (by decide) (fun c267 => ?_) (fun c267 => ?_)
      · exact absurd c267 (by decide)
      · refine g_iload_n dX7_doIt_86 rfl ?_
        refine g_goto (tgt := 91) dX7_doIt_87 (by decide) ?_
        refine g_iadd dX7_doIt_91 ?_
        refine g_topi (fun x268 ex268 => ?_)
        have v269 : vp_in x264 51 := uk_vin 51 rfl (by first | decide | lia | grind) (by first | decide | lia | grind)
        have b270 := uk_cl v269
        refine g_iast rfl rfl v269 dX7_doIt_92 ?_
        refine g_mem (fun u271 eu271 => ?_)
        have hu271 : iv u271 := by rw [eu271]; exact iv_st hu260 (by unfold uk_is51; decide) (by first | decide | lia | grind) (by first | decide | lia | grind) (fun q => by first | decide | lia | grind) (fun q => by first | decide | lia | grind) (fun q => by first | decide | lia | grind)
        have fu271 : fk [62] [] u u271 := by rw [eu271]; exact fk_up fu260 (by decide) (fun q => absurd q (by decide))
        have rau271 : ra u271 := by rw [eu271]; exact ra_at rau260 (by first | decide | lia | grind) (by first | decide | lia | grind)
        have C272 : u271.1 62 = (upd ((upd ((upd (u.1 62) (x244 : Int32).toNatClampNeg x247)) (x254 : Int32).toNatClampNeg x257)) (x264 : Int32).toNatClampNeg x268) := by rw [eu271, uk_up_self, C261]
        refine g_aload_n dX7_doIt_93 rfl ?_
        refine f_X7_13 rfl rfl dX7_doIt_94 ?_
        refine g_bipush (v := 8) dX7_doIt_97 (by decide) ?_
        refine g_iload_n dX7_doIt_99 rfl ?_
        refine g_iadd dX7_doIt_100 ?_
        refine g_topi (fun x273 ex273 => ?_)
        refine g_iload_n dX7_doIt_101 rfl ?_
        refine g_bipush (v := 10) dX7_doIt_102 (by decide) ?_
        refine g_icmp_lt (tgt := 134) dX7_doIt_104 (by decide) (fun c274 => ?_) (fun c274 => ?_)
        · refine g_aload_n dX7_doIt_134 rfl ?_
          refine f_X7_13 rfl rfl dX7_doIt_135 ?_
          refine g_bipush (v := 8) dX7_doIt_138 (by decide) ?_
          refine g_iload_n dX7_doIt_140 rfl ?_
          refine g_iadd dX7_doIt_141 ?_
          refine g_topi (fun x275 ex275 => ?_)
          have v276 : vp_in x275 51 := uk_vin 51 rfl (by first | decide | lia | grind) (by first | decide | lia | grind)
          refine g_iald rfl rfl v276 dX7_doIt_142 ?_
          refine g_topi (fun x277 ex277 => ?_)
          have bx277 := uk_cl v276
          have rx277 : 0 ≤ x275 → x275 ≤ 7 → 0 ≤ x277 ∧ x277 ≤ 40 := fun a b => by rw [ex277]; exact sg_0 hu271 (by unfold uk_is51; decide) a b
          have rrx277 : 43 ≤ x275 → x275 ≤ 50 → 0 ≤ x277 ∧ x277 ≤ 7 := fun a b => by rw [ex277]; exact sg_43 hu271 (by unfold uk_is51; decide) a b
          have px277 : x277 = ((upd ((upd ((upd (u.1 62) (x244 : Int32).toNatClampNeg x247)) (x254 : Int32).toNatClampNeg x257)) (x264 : Int32).toNatClampNeg x268)) (x275 : Int32).toNatClampNeg := ex277.trans (congrFun C272 _)
          have v278 : vp_in x273 51 := uk_vin 51 rfl (by first | decide | lia | grind) (by first | decide | lia | grind)
          have b279 := uk_cl v278
          refine g_iast rfl rfl v278 dX7_doIt_143 ?_
          refine g_mem (fun u280 eu280 => ?_)
          have hu280 : iv u280 := by rw [eu280]; exact iv_st hu271 (by unfold uk_is51; decide) (by first | decide | lia | grind) (by first | decide | lia | grind) (fun q => by first | decide | lia | grind) (fun q => by first | decide | lia | grind) (fun q => by first | decide | lia | grind)
          have fu280 : fk [62] [] u u280 := by rw [eu280]; exact fk_up fu271 (by decide) (fun q => absurd q (by decide))
          have rau280 : ra u280 := by rw [eu280]; exact ra_at rau271 (by first | decide | lia | grind) (by first | decide | lia | grind)
          have C281 : u280.1 62 = (upd ((upd ((upd ((upd (u.1 62) (x244 : Int32).toNatClampNeg x247)) (x254 : Int32).toNatClampNeg x257)) (x264 : Int32).toNatClampNeg x268)) (x273 : Int32).toNatClampNeg x277) := by rw [eu280, uk_up_self, C272]
          refine g_aload_n dX7_doIt_144 rfl ?_
          refine f_X7_13 rfl rfl dX7_doIt_145 ?_
          refine g_bipush (v := 41) dX7_doIt_148 (by decide) ?_
          refine g_dup2 dX7_doIt_150 rfl rfl ?_
          have v282 : vp_in 41 51 := uk_vin 51 rfl (by first | decide | lia | grind) (by first | decide | lia | grind)
          refine g_iald rfl rfl v282 dX7_doIt_151 ?_
          refine g_topi (fun x283 ex283 => ?_)
          have bx283 := uk_cl v282
          have px283 : x283 = ((upd ((upd ((upd ((upd (u.1 62) (x244 : Int32).toNatClampNeg x247)) (x254 : Int32).toNatClampNeg x257)) (x264 : Int32).toNatClampNeg x268)) (x273 : Int32).toNatClampNeg x277)) (41 : Int32).toNatClampNeg := ex283.trans (congrFun C281 _)
          refine g_iconst (v := 1) dX7_doIt_152 (by decide) ?_
          refine g_iadd dX7_doIt_153 ?_
          refine g_topi (fun x284 ex284 => ?_)
          have v285 : vp_in 41 51 := uk_vin 51 rfl (by first | decide | lia | grind) (by first | decide | lia | grind)
          have b286 := uk_cl v285
          refine g_iast rfl rfl v285 dX7_doIt_154 ?_
          refine g_mem (fun u287 eu287 => ?_)
          have hu287 : iv u287 := by rw [eu287]; exact iv_st hu280 (by unfold uk_is51; decide) (by first | decide | lia | grind) (by first | decide | lia | grind) (fun q => by first | decide | lia | grind) (fun q => by first | decide | lia | grind) (fun q => by first | decide | lia | grind)
          have fu287 : fk [62] [] u u287 := by rw [eu287]; exact fk_up fu280 (by decide) (fun q => absurd q (by decide))
          have rau287 : ra u287 := by rw [eu287]; exact ra_at rau280 (by first | decide | lia | grind) (by first | decide | lia | grind)
          have C288 : u287.1 62 = (upd ((upd ((upd ((upd ((upd (u.1 62) (x244 : Int32).toNatClampNeg x247)) (x254 : Int32).toNatClampNeg x257)) (x264 : Int32).toNatClampNeg x268)) (x273 : Int32).toNatClampNeg x277)) (41 : Int32).toNatClampNeg x284) := by rw [eu287, uk_up_self, C281]
          exact g_vret dX7_doIt_155 rfl ⟨rfl, hu287, fu287, rau287⟩
        · refine g_aload_n dX7_doIt_107 rfl ?_
          refine f_X7_13 rfl rfl dX7_doIt_108 ?_
          refine g_bipush (v := 32) dX7_doIt_111 (by decide) ?_
          refine g_iload_n dX7_doIt_113 rfl ?_
          refine g_iadd dX7_doIt_114 ?_
          refine g_topi (fun x289 ex289 => ?_)
          have v290 : vp_in x289 51 := uk_vin 51 rfl (by first | decide | lia | grind) (by first | decide | lia | grind)
          refine g_iald rfl rfl v290 dX7_doIt_115 ?_
          refine g_topi (fun x291 ex291 => ?_)
          have bx291 := uk_cl v290
          have rx291 : 0 ≤ x289 → x289 ≤ 7 → 0 ≤ x291 ∧ x291 ≤ 40 := fun a b => by rw [ex291]; exact sg_0 hu271 (by unfold uk_is51; decide) a b
          have rrx291 : 43 ≤ x289 → x289 ≤ 50 → 0 ≤ x291 ∧ x291 ≤ 7 := fun a b => by rw [ex291]; exact sg_43 hu271 (by unfold uk_is51; decide) a b
          have px291 : x291 = ((upd ((upd ((upd (u.1 62) (x244 : Int32).toNatClampNeg x247)) (x254 : Int32).toNatClampNeg x257)) (x264 : Int32).toNatClampNeg x268)) (x289 : Int32).toNatClampNeg := ex291.trans (congrFun C272 _)
          refine g_iconst (v := 3) dX7_doIt_116 (by decide) ?_
          refine g_icmp_ne (tgt := 134) dX7_doIt_117 (by decide) (fun c292 => ?_) (fun c292 => ?_)
          · refine g_aload_n dX7_doIt_134 rfl ?_
            refine f_X7_13 rfl rfl dX7_doIt_135 ?_
            refine g_bipush (v := 8) dX7_doIt_138 (by decide) ?_
            refine g_iload_n dX7_doIt_140 rfl ?_
            refine g_iadd dX7_doIt_141 ?_
            refine g_topi (fun x293 ex293 => ?_)
            have v294 : vp_in x293 51 := uk_vin 51 rfl (by first | decide | lia | grind) (by first | decide | lia | grind)
            refine g_iald rfl rfl v294 dX7_doIt_142 ?_
            refine g_topi (fun x295 ex295 => ?_)
            have bx295 := uk_cl v294
            have rx295 : 0 ≤ x293 → x293 ≤ 7 → 0 ≤ x295 ∧ x295 ≤ 40 := fun a b => by rw [ex295]; exact sg_0 hu271 (by unfold uk_is51; decide) a b
            have rrx295 : 43 ≤ x293 → x293 ≤ 50 → 0 ≤ x295 ∧ x295 ≤ 7 := fun a b => by rw [ex295]; exact sg_43 hu271 (by unfold uk_is51; decide) a b
            have px295 : x295 = ((upd ((upd ((upd (u.1 62) (x244 : Int32).toNatClampNeg x247)) (x254 : Int32).toNatClampNeg x257)) (x264 : Int32).toNatClampNeg x268)) (x293 : Int32).toNatClampNeg := ex295.trans (congrFun C272 _)
            have v296 : vp_in x273 51 := uk_vin 51 rfl (by first | decide | lia | grind) (by first | decide | lia | grind)
            have b297 := uk_cl v296
            refine g_iast rfl rfl v296 dX7_doIt_143 ?_
            refine g_mem (fun u298 eu298 => ?_)
            have hu298 : iv u298 := by rw [eu298]; exact iv_st hu271 (by unfold uk_is51; decide) (by first | decide | lia | grind) (by first | decide | lia | grind) (fun q => by first | decide | lia | grind) (fun q => by first | decide | lia | grind) (fun q => by first | decide | lia | grind)
            have fu298 : fk [62] [] u u298 := by rw [eu298]; exact fk_up fu271 (by decide) (fun q => absurd q (by decide))
            have rau298 : ra u298 := by rw [eu298]; exact ra_at rau271 (by first | decide | lia | grind) (by first | decide | lia | grind)
            have C299 : u298.1 62 = (upd ((upd ((upd ((upd (u.1 62) (x244 : Int32).toNatClampNeg x247)) (x254 : Int32).toNatClampNeg x257)) (x264 : Int32).toNatClampNeg x268)) (x273 : Int32).toNatClampNeg x295) := by rw [eu298, uk_up_self, C272]
            refine g_aload_n dX7_doIt_144 rfl ?_
            refine f_X7_13 rfl rfl dX7_doIt_145 ?_
            refine g_bipush (v := 41) dX7_doIt_148 (by decide) ?_
            refine g_dup2 dX7_doIt_150 rfl rfl ?_
            have v300 : vp_in 41 51 := uk_vin 51 rfl (by first | decide | lia | grind) (by first | decide | lia | grind)
            refine g_iald rfl rfl v300 dX7_doIt_151 ?_
            refine g_topi (fun x301 ex301 => ?_)
            have bx301 := uk_cl v300
            have px301 : x301 = ((upd ((upd ((upd ((upd (u.1 62) (x244 : Int32).toNatClampNeg x247)) (x254 : Int32).toNatClampNeg x257)) (x264 : Int32).toNatClampNeg x268)) (x273 : Int32).toNatClampNeg x295)) (41 : Int32).toNatClampNeg := ex301.trans (congrFun C299 _)
            refine g_iconst (v := 1) dX7_doIt_152 (by decide) ?_
            refine g_iadd dX7_doIt_153 ?_
            refine g_topi (fun x302 ex302 => ?_)
            have v303 : vp_in 41 51 := uk_vin 51 rfl (by first | decide | lia | grind) (by first | decide | lia | grind)
            have b304 := uk_cl v303
            refine g_iast rfl rfl v303 dX7_doIt_154 ?_
            refine g_mem (fun u305 eu305 => ?_)
            have hu305 : iv u305 := by rw [eu305]; exact iv_st hu298 (by unfold uk_is51; decide) (by first | decide | lia | grind) (by first | decide | lia | grind) (fun q => by first | decide | lia | grind) (fun q => by first | decide | lia | grind) (fun q => by first | decide | lia | grind)
            have fu305 : fk [62] [] u u305 := by rw [eu305]; exact fk_up fu298 (by decide) (fun q => absurd q (by decide))
            have rau305 : ra u305 := by rw [eu305]; exact ra_at rau298 (by first | decide | lia | grind) (by first | decide | lia | grind)
            have C306 : u305.1 62 = (upd ((upd ((upd ((upd ((upd (u.1 62) (x244 : Int32).toNatClampNeg x247)) (x254 : Int32).toNatClampNeg x257)) (x264 : Int32).toNatClampNeg x268)) (x273 : Int32).toNatClampNeg x295)) (41 : Int32).toNatClampNeg x302) := by rw [eu305, uk_up_self, C299]
            exact g_vret dX7_doIt_155 rfl ⟨rfl, hu305, fu305, rau305⟩
          · refine g_iconst (v := 1) dX7_doIt_120 (by decide) ?_
            refine g_aload_n dX7_doIt_121 rfl ?_
            refine f_X7_13 rfl rfl dX7_doIt_122 ?_
            refine g_bipush (v := 8) dX7_doIt_125 (by decide) ?_
            refine g_iload_n dX7_doIt_127 rfl ?_
            refine g_iadd dX7_doIt_128 ?_
            refine g_topi (fun x307 ex307 => ?_)
            have v308 : vp_in x307 51 := uk_vin 51 rfl (by first | decide | lia | grind) (by first | decide | lia | grind)
            refine g_iald rfl rfl v308 dX7_doIt_129 ?_
            refine g_topi (fun x309 ex309 => ?_)
            have bx309 := uk_cl v308
            have rx309 : 0 ≤ x307 → x307 ≤ 7 → 0 ≤ x309 ∧ x309 ≤ 40 := fun a b => by rw [ex309]; exact sg_0 hu271 (by unfold uk_is51; decide) a b
            have rrx309 : 43 ≤ x307 → x307 ≤ 50 → 0 ≤ x309 ∧ x309 ≤ 7 := fun a b => by rw [ex309]; exact sg_43 hu271 (by unfold uk_is51; decide) a b
            have px309 : x309 = ((upd ((upd ((upd (u.1 62) (x244 : Int32).toNatClampNeg x247)) (x254 : Int32).toNatClampNeg x257)) (x264 : Int32).toNatClampNeg x268)) (x307 : Int32).toNatClampNeg := ex309.trans (congrFun C272 _)
            refine g_isub dX7_doIt_130 ?_
            refine g_topi (fun x310 ex310 => ?_)
            refine g_goto (tgt := 143) dX7_doIt_131 (by decide) ?_
            have v311 : vp_in x273 51 := uk_vin 51 rfl (by first | decide | lia | grind) (by first | decide | lia | grind)
            have b312 := uk_cl v311
            refine g_iast rfl rfl v311 dX7_doIt_143 ?_
            refine g_mem (fun u313 eu313 => ?_)
            have hu313 : iv u313 := by rw [eu313]; exact iv_st hu271 (by unfold uk_is51; decide) (by first | decide | lia | grind) (by first | decide | lia | grind) (fun q => by first | decide | lia | grind) (fun q => by first | decide | lia | grind) (fun q => by first | decide | lia | grind)
            have fu313 : fk [62] [] u u313 := by rw [eu313]; exact fk_up fu271 (by decide) (fun q => absurd q (by decide))
            have rau313 : ra u313 := by rw [eu313]; exact ra_at rau271 (by first | decide | lia | grind) (by first | decide | lia | grind)
            have C314 : u313.1 62 = (upd ((upd ((upd ((upd (u.1 62) (x244 : Int32).toNatClampNeg x247)) (x254 : Int32).toNatClampNeg x257)) (x264 : Int32).toNatClampNeg x268)) (x273 : Int32).toNatClampNeg x310) := by rw [eu313, uk_up_self, C272]
            refine g_aload_n dX7_doIt_144 rfl ?_
            refine f_X7_13 rfl rfl dX7_doIt_145 ?_
            refine g_bipush (v := 41) dX7_doIt_148 (by decide) ?_
            refine g_dup2 dX7_doIt_150 rfl rfl ?_
            have v315 : vp_in 41 51 := uk_vin 51 rfl (by first | decide | lia | grind) (by first | decide | lia | grind)
            refine g_iald rfl rfl v315 dX7_doIt_151 ?_
            refine g_topi (fun x316 ex316 => ?_)
            have bx316 := uk_cl v315
            have px316 : x316 = ((upd ((upd ((upd ((upd (u.1 62) (x244 : Int32).toNatClampNeg x247)) (x254 : Int32).toNatClampNeg x257)) (x264 : Int32).toNatClampNeg x268)) (x273 : Int32).toNatClampNeg x310)) (41 : Int32).toNatClampNeg := ex316.trans (congrFun C314 _)
            refine g_iconst (v := 1) dX7_doIt_152 (by decide) ?_
            refine g_iadd dX7_doIt_153 ?_
            refine g_topi (fun x317 ex317 => ?_)
            have v318 : vp_in 41 51 := uk_vin 51 rfl (by first | decide | lia | grind) (by first | decide | lia | grind)
            have b319 := uk_cl v318
            refine g_iast rfl rfl v318 dX7_doIt_154 ?_
            refine g_mem (fun u320 eu320 => ?_)
            have hu320 : iv u320 := by rw [eu320]; exact iv_st hu313 (by unfold uk_is51; decide) (by first | decide | lia | grind) (by first | decide | lia | grind) (fun q => by first | decide | lia | grind) (fun q => by first | decide | lia | grind) (fun q => by first | decide | lia | grind)
            have fu320 : fk [62] [] u u320 := by rw [eu320]; exact fk_up fu313 (by decide) (fun q => absurd q (by decide))
            have rau320 : ra u320 := by rw [eu320]; exact ra_at rau313 (by first | decide | lia | grind) (by first | decide | lia | grind)
            have C321 : u320.1 62 = (upd ((upd ((upd ((upd ((upd (u.1 62) (x244 : Int32).toNatClampNeg x247)) (x254 : Int32).toNatClampNeg x257)) (x264 : Int32).toNatClampNeg x268)) (x273 : Int32).toNatClampNeg x310)) (41 : Int32).toNatClampNeg x317) := by rw [eu320, uk_up_self, C314]
            exact g_vret dX7_doIt_155 rfl ⟨rfl, hu320, fu320, rau320⟩
    · refine g_aload_n dX7_doIt_23 rfl ?_
      refine g_iload_n dX7_doIt_24 rfl ?_
      refine cl_X7_153 (c := 60) (As := [.int x1]) rfl (c_X7_givesSecond (G := G) hs hu  x1 (by first | trivial | decide | lia | grind) (by first | trivial | decide | lia | grind) (d)) rfl (by omega) rfl rfl (Nat.le_of_ble_eq_true rfl) dX7_doIt_25 (fun r322 u323 q324 => ?_)
      obtain ⟨⟨x325, rfl, tx325, nx325, zx325⟩, mq324⟩ := q324
      rw [mq324]
      refine g_if_eq (tgt := 35) dX7_doIt_28 (by decide) (fun c326 => ?_) (fun c326 => ?_)
      · have zc326 := zx325 c326
        refine g_iconst (v := 0) dX7_doIt_35 (by decide) ?_
        refine g_istore dX7_doIt_36 (by decide) ?_
        refine g_aload_n dX7_doIt_38 rfl ?_
        refine f_X7_13 rfl rfl dX7_doIt_39 ?_
        refine g_iconst (v := 0) dX7_doIt_42 (by decide) ?_
        refine g_iload_n dX7_doIt_43 rfl ?_
        refine g_iadd dX7_doIt_44 ?_
        refine g_topi (fun x327 ex327 => ?_)
        refine g_dup2 dX7_doIt_45 rfl rfl ?_
        have v328 : vp_in x327 51 := uk_vin 51 rfl (by first | decide | lia | grind) (by first | decide | lia | grind)
        refine g_iald rfl rfl v328 dX7_doIt_46 ?_
        refine g_topi (fun x329 ex329 => ?_)
        have bx329 := uk_cl v328
        have rx329 : 0 ≤ x327 → x327 ≤ 7 → 0 ≤ x329 ∧ x329 ≤ 40 := fun a b => by rw [ex329]; exact sg_0 hu (by unfold uk_is51; decide) a b
        have rrx329 : 43 ≤ x327 → x327 ≤ 50 → 0 ≤ x329 ∧ x329 ≤ 7 := fun a b => by rw [ex329]; exact sg_43 hu (by unfold uk_is51; decide) a b
        have px329 : x329 = (u.1 62) (x327 : Int32).toNatClampNeg := ex329.trans (congrFun C62 _)
        refine g_iload_n dX7_doIt_47 rfl ?_
        refine g_isub dX7_doIt_48 ?_
        refine g_topi (fun x330 ex330 => ?_)
        have v331 : vp_in x327 51 := uk_vin 51 rfl (by first | decide | lia | grind) (by first | decide | lia | grind)
        have b332 := uk_cl v331
        refine g_iast rfl rfl v331 dX7_doIt_49 ?_
        refine g_mem (fun u333 eu333 => ?_)
        have hu333 : iv u333 := by rw [eu333]; exact iv_st hu (by unfold uk_is51; decide) (by first | decide | lia | grind) (by first | decide | lia | grind) (fun q => by first | decide | lia | grind) (fun q => by first | decide | lia | grind) (fun q => by first | decide | lia | grind)
        have fu333 : fk [62] [] u u333 := by rw [eu333]; exact fk_up f0 (by decide) (fun q => absurd q (by decide))
        have rau333 : ra u333 := by rw [eu333]; exact ra_at hra (by first | decide | lia | grind) (by first | decide | lia | grind)
        have C334 : u333.1 62 = (upd (u.1 62) (x327 : Int32).toNatClampNeg x330) := by rw [eu333, uk_up_self, C62]
        refine g_aload_n dX7_doIt_50 rfl ?_
        refine f_X7_13 rfl rfl dX7_doIt_51 ?_
        refine g_iconst (v := 0) dX7_doIt_54 (by decide) ?_
        refine g_aload_n dX7_doIt_55 rfl ?_
        refine f_X7_20 rfl rfl dX7_doIt_56 ?_
        refine g_iload_n dX7_doIt_59 rfl ?_
        have v335 : vp_in x1 8 := uk_vin 8 rfl (by first | decide | lia | grind) (by first | decide | lia | grind)
        refine g_iald rfl rfl v335 dX7_doIt_60 ?_
        refine g_topi (fun x336 ex336 => ?_)
        have bx336 := uk_cl v335
        have rx336 : (-4) ≤ x336 ∧ x336 ≤ 7 := by rw [ex336]; exact iv_at hu333 _ _ (uk_pick1 _ (by omega))
        refine g_iadd dX7_doIt_61 ?_
        refine g_topi (fun x337 ex337 => ?_)
        refine g_dup2 dX7_doIt_62 rfl rfl ?_
        have v338 : vp_in x337 51 := uk_vin 51 rfl (by first | decide | lia | grind) (by first | decide | lia | grind)
        refine g_iald rfl rfl v338 dX7_doIt_63 ?_
        refine g_topi (fun x339 ex339 => ?_)
        have bx339 := uk_cl v338
        have rx339 : 0 ≤ x337 → x337 ≤ 7 → 0 ≤ x339 ∧ x339 ≤ 40 := fun a b => by rw [ex339]; exact sg_0 hu333 (by unfold uk_is51; decide) a b
        have rrx339 : 43 ≤ x337 → x337 ≤ 50 → 0 ≤ x339 ∧ x339 ≤ 7 := fun a b => by rw [ex339]; exact sg_43 hu333 (by unfold uk_is51; decide) a b
        have px339 : x339 = ((upd (u.1 62) (x327 : Int32).toNatClampNeg x330)) (x337 : Int32).toNatClampNeg := ex339.trans (congrFun C334 _)
        have lx339 : x339 = u.1 62 (x337 : Int32).toNatClampNeg := by rw [px339, upd_ne]; all_goals grind
        refine g_iload_n dX7_doIt_64 rfl ?_
        refine g_iadd dX7_doIt_65 ?_
        refine g_topi (fun x340 ex340 => ?_)
        have v341 : vp_in x337 51 := uk_vin 51 rfl (by first | decide | lia | grind) (by first | decide | lia | grind)
        have b342 := uk_cl v341
        refine g_iast rfl rfl v341 dX7_doIt_66 ?_
        refine g_mem (fun u343 eu343 => ?_)
        have hu343 : iv u343 := by rw [eu343]; exact iv_st hu333 (by unfold uk_is51; decide) (by first | decide | lia | grind) (by first | decide | lia | grind) (fun q => by first | decide | lia | grind) (fun q => by first | decide | lia | grind) (fun q => by first | decide | lia | grind)
        have fu343 : fk [62] [] u u343 := by rw [eu343]; exact fk_up fu333 (by decide) (fun q => absurd q (by decide))
        have rau343 : ra u343 := by rw [eu343]; exact ra_at rau333 (by first | decide | lia | grind) (by first | decide | lia | grind)
        have C344 : u343.1 62 = (upd ((upd (u.1 62) (x327 : Int32).toNatClampNeg x330)) (x337 : Int32).toNatClampNeg x340) := by rw [eu343, uk_up_self, C334]
        refine g_aload_n dX7_doIt_67 rfl ?_
        refine f_X7_13 rfl rfl dX7_doIt_68 ?_
        refine g_iconst (v := 0) dX7_doIt_71 (by decide) ?_
        refine g_aload_n dX7_doIt_72 rfl ?_
        refine f_X7_23 rfl rfl dX7_doIt_73 ?_
        refine g_iload_n dX7_doIt_76 rfl ?_
        have v345 : vp_in x1 8 := uk_vin 8 rfl (by first | decide | lia | grind) (by first | decide | lia | grind)
        refine g_iald rfl rfl v345 dX7_doIt_77 ?_
        refine g_topi (fun x346 ex346 => ?_)
        have bx346 := uk_cl v345
        have rx346 : (-4) ≤ x346 ∧ x346 ≤ 7 := by rw [ex346]; exact iv_at hu343 _ _ (uk_pick1 _ (by omega))
        refine g_iadd dX7_doIt_78 ?_
        refine g_topi (fun x347 ex347 => ?_)
        refine g_dup2 dX7_doIt_79 rfl rfl ?_
        have v348 : vp_in x347 51 := uk_vin 51 rfl (by first | decide | lia | grind) (by first | decide | lia | grind)
        refine g_iald rfl rfl v348 dX7_doIt_80 ?_
        refine g_topi (fun x349 ex349 => ?_)
        have bx349 := uk_cl v348
        have rx349 : 0 ≤ x347 → x347 ≤ 7 → 0 ≤ x349 ∧ x349 ≤ 40 := fun a b => by rw [ex349]; exact sg_0 hu343 (by unfold uk_is51; decide) a b
        have rrx349 : 43 ≤ x347 → x347 ≤ 50 → 0 ≤ x349 ∧ x349 ≤ 7 := fun a b => by rw [ex349]; exact sg_43 hu343 (by unfold uk_is51; decide) a b
        have px349 : x349 = ((upd ((upd (u.1 62) (x327 : Int32).toNatClampNeg x330)) (x337 : Int32).toNatClampNeg x340)) (x347 : Int32).toNatClampNeg := ex349.trans (congrFun C344 _)
        have lx349 : (x347 = x337 → x349 = x340) ∧ (¬ x347 = x337 → x349 = u.1 62 (x347 : Int32).toNatClampNeg) := ⟨fun q => by rw [px349, upd_at q], fun q => by rw [px349, upd_ne, upd_ne]; all_goals grind⟩
        refine g_iload dX7_doIt_81 rfl ?_
        refine g_if_eq (tgt := 90) dX7_doIt_83 (by decide) (fun c350 => ?_) (fun c350 => ?_)
        · refine g_iconst (v := 0) dX7_doIt_90 (by decide) ?_
          refine g_iadd dX7_doIt_91 ?_
          refine g_topi (fun x351 ex351 => ?_)
          have v352 : vp_in x347 51 := uk_vin 51 rfl (by first | decide | lia | grind) (by first | decide | lia | grind)
          have b353 := uk_cl v352
          refine g_iast rfl rfl v352 dX7_doIt_92 ?_
          refine g_mem (fun u354 eu354 => ?_)
          have hu354 : iv u354 := by rw [eu354]; exact iv_st hu343 (by unfold uk_is51; decide) (by first | decide | lia | grind) (by first | decide | lia | grind) (fun q => by first | decide | lia | grind) (fun q => by first | decide | lia | grind) (fun q => by first | decide | lia | grind)
          have fu354 : fk [62] [] u u354 := by rw [eu354]; exact fk_up fu343 (by decide) (fun q => absurd q (by decide))
          have rau354 : ra u354 := by rw [eu354]; exact ra_at rau343 (by first | decide | lia | grind) (by first | decide | lia | grind)
          have C355 : u354.1 62 = (upd ((upd ((upd (u.1 62) (x327 : Int32).toNatClampNeg x330)) (x337 : Int32).toNatClampNeg x340)) (x347 : Int32).toNatClampNeg x351) := by rw [eu354, uk_up_self, C344]
          refine g_aload_n dX7_doIt_93 rfl ?_
          refine f_X7_13 rfl rfl dX7_doIt_94 ?_
          refine g_bipush (v := 8) dX7_doIt_97 (by decide) ?_
          refine g_iload_n dX7_doIt_99 rfl ?_
          refine g_iadd dX7_doIt_100 ?_
          refine g_topi (fun x356 ex356 => ?_)
          refine g_iload_n dX7_doIt_101 rfl ?_
          refine g_bipush (v := 10) dX7_doIt_102 (by decide) ?_
          refine g_icmp_lt (tgt := 134) dX7_doIt_104 (by decide) (fun c357 => ?_) (fun c357 => ?_)
          · refine g_aload_n dX7_doIt_134 rfl ?_
            refine f_X7_13 rfl rfl dX7_doIt_135 ?_
            refine g_bipush (v := 8) dX7_doIt_138 (by decide) ?_
            refine g_iload_n dX7_doIt_140 rfl ?_
            refine g_iadd dX7_doIt_141 ?_
            refine g_topi (fun x358 ex358 => ?_)
            have v359 : vp_in x358 51 := uk_vin 51 rfl (by first | decide | lia | grind) (by first | decide | lia | grind)
            refine g_iald rfl rfl v359 dX7_doIt_142 ?_
            refine g_topi (fun x360 ex360 => ?_)
            have bx360 := uk_cl v359
            have rx360 : 0 ≤ x358 → x358 ≤ 7 → 0 ≤ x360 ∧ x360 ≤ 40 := fun a b => by rw [ex360]; exact sg_0 hu354 (by unfold uk_is51; decide) a b
            have rrx360 : 43 ≤ x358 → x358 ≤ 50 → 0 ≤ x360 ∧ x360 ≤ 7 := fun a b => by rw [ex360]; exact sg_43 hu354 (by unfold uk_is51; decide) a b
            have px360 : x360 = ((upd ((upd ((upd (u.1 62) (x327 : Int32).toNatClampNeg x330)) (x337 : Int32).toNatClampNeg x340)) (x347 : Int32).toNatClampNeg x351)) (x358 : Int32).toNatClampNeg := ex360.trans (congrFun C355 _)
            have v361 : vp_in x356 51 := uk_vin 51 rfl (by first | decide | lia | grind) (by first | decide | lia | grind)
            have b362 := uk_cl v361
            refine g_iast rfl rfl v361 dX7_doIt_143 ?_
            refine g_mem (fun u363 eu363 => ?_)
            have hu363 : iv u363 := by rw [eu363]; exact iv_st hu354 (by unfold uk_is51; decide) (by first | decide | lia | grind) (by first | decide | lia | grind) (fun q => by first | decide | lia | grind) (fun q => by first | decide | lia | grind) (fun q => by first | decide | lia | grind)
            have fu363 : fk [62] [] u u363 := by rw [eu363]; exact fk_up fu354 (by decide) (fun q => absurd q (by decide))
            have rau363 : ra u363 := by rw [eu363]; exact ra_at rau354 (by first | decide | lia | grind) (by first | decide | lia | grind)
            have C364 : u363.1 62 = (upd ((upd ((upd ((upd (u.1 62) (x327 : Int32).toNatClampNeg x330)) (x337 : Int32).toNatClampNeg x340)) (x347 : Int32).toNatClampNeg x351)) (x356 : Int32).toNatClampNeg x360) := by rw [eu363, uk_up_self, C355]
            refine g_aload_n dX7_doIt_144 rfl ?_
            refine f_X7_13 rfl rfl dX7_doIt_145 ?_
            refine g_bipush (v := 41) dX7_doIt_148 (by decide) ?_
            refine g_dup2 dX7_doIt_150 rfl rfl ?_
            have v365 : vp_in 41 51 := uk_vin 51 rfl (by first | decide | lia | grind) (by first | decide | lia | grind)
            refine g_iald rfl rfl v365 dX7_doIt_151 ?_
            refine g_topi (fun x366 ex366 => ?_)
            have bx366 := uk_cl v365
            have px366 : x366 = ((upd ((upd ((upd ((upd (u.1 62) (x327 : Int32).toNatClampNeg x330)) (x337 : Int32).toNatClampNeg x340)) (x347 : Int32).toNatClampNeg x351)) (x356 : Int32).toNatClampNeg x360)) (41 : Int32).toNatClampNeg := ex366.trans (congrFun C364 _)
            refine g_iconst (v := 1) dX7_doIt_152 (by decide) ?_
            refine g_iadd dX7_doIt_153 ?_
            refine g_topi (fun x367 ex367 => ?_)
            have v368 : vp_in 41 51 := uk_vin 51 rfl (by first | decide | lia | grind) (by first | decide | lia | grind)
            have b369 := uk_cl v368
            refine g_iast rfl rfl v368 dX7_doIt_154 ?_
            refine g_mem (fun u370 eu370 => ?_)
            have hu370 : iv u370 := by rw [eu370]; exact iv_st hu363 (by unfold uk_is51; decide) (by first | decide | lia | grind) (by first | decide | lia | grind) (fun q => by first | decide | lia | grind) (fun q => by first | decide | lia | grind) (fun q => by first | decide | lia | grind)
            have fu370 : fk [62] [] u u370 := by rw [eu370]; exact fk_up fu363 (by decide) (fun q => absurd q (by decide))
            have rau370 : ra u370 := by rw [eu370]; exact ra_at rau363 (by first | decide | lia | grind) (by first | decide | lia | grind)
            have C371 : u370.1 62 = (upd ((upd ((upd ((upd ((upd (u.1 62) (x327 : Int32).toNatClampNeg x330)) (x337 : Int32).toNatClampNeg x340)) (x347 : Int32).toNatClampNeg x351)) (x356 : Int32).toNatClampNeg x360)) (41 : Int32).toNatClampNeg x367) := by rw [eu370, uk_up_self, C364]
            exact g_vret dX7_doIt_155 rfl ⟨rfl, hu370, fu370, rau370⟩
          · refine g_aload_n dX7_doIt_107 rfl ?_
            refine f_X7_13 rfl rfl dX7_doIt_108 ?_
            refine g_bipush (v := 32) dX7_doIt_111 (by decide) ?_
            refine g_iload_n dX7_doIt_113 rfl ?_
            refine g_iadd dX7_doIt_114 ?_
            refine g_topi (fun x372 ex372 => ?_)
            have v373 : vp_in x372 51 := uk_vin 51 rfl (by first | decide | lia | grind) (by first | decide | lia | grind)
            refine g_iald rfl rfl v373 dX7_doIt_115 ?_
            refine g_topi (fun x374 ex374 => ?_)
            have bx374 := uk_cl v373
            have rx374 : 0 ≤ x372 → x372 ≤ 7 → 0 ≤ x374 ∧ x374 ≤ 40 := fun a b => by rw [ex374]; exact sg_0 hu354 (by unfold uk_is51; decide) a b
            have rrx374 : 43 ≤ x372 → x372 ≤ 50 → 0 ≤ x374 ∧ x374 ≤ 7 := fun a b => by rw [ex374]; exact sg_43 hu354 (by unfold uk_is51; decide) a b
            have px374 : x374 = ((upd ((upd ((upd (u.1 62) (x327 : Int32).toNatClampNeg x330)) (x337 : Int32).toNatClampNeg x340)) (x347 : Int32).toNatClampNeg x351)) (x372 : Int32).toNatClampNeg := ex374.trans (congrFun C355 _)
            refine g_iconst (v := 3) dX7_doIt_116 (by decide) ?_
            refine g_icmp_ne (tgt := 134) dX7_doIt_117 (by decide) (fun c375 => ?_) (fun c375 => ?_)
            · refine g_aload_n dX7_doIt_134 rfl ?_
              refine f_X7_13 rfl rfl dX7_doIt_135 ?_
              refine g_bipush (v := 8) dX7_doIt_138 (by decide) ?_
              refine g_iload_n dX7_doIt_140 rfl ?_
              refine g_iadd dX7_doIt_141 ?_
              refine g_topi (fun x376 ex376 => ?_)
              have v377 : vp_in x376 51 := uk_vin 51 rfl (by first | decide | lia | grind) (by first | decide | lia | grind)
              refine g_iald rfl rfl v377 dX7_doIt_142 ?_
              refine g_topi (fun x378 ex378 => ?_)
              have bx378 := uk_cl v377
              have rx378 : 0 ≤ x376 → x376 ≤ 7 → 0 ≤ x378 ∧ x378 ≤ 40 := fun a b => by rw [ex378]; exact sg_0 hu354 (by unfold uk_is51; decide) a b
              have rrx378 : 43 ≤ x376 → x376 ≤ 50 → 0 ≤ x378 ∧ x378 ≤ 7 := fun a b => by rw [ex378]; exact sg_43 hu354 (by unfold uk_is51; decide) a b
              have px378 : x378 = ((upd ((upd ((upd (u.1 62) (x327 : Int32).toNatClampNeg x330)) (x337 : Int32).toNatClampNeg x340)) (x347 : Int32).toNatClampNeg x351)) (x376 : Int32).toNatClampNeg := ex378.trans (congrFun C355 _)
              have v379 : vp_in x356 51 := uk_vin 51 rfl (by first | decide | lia | grind) (by first | decide | lia | grind)
              have b380 := uk_cl v379
              refine g_iast rfl rfl v379 dX7_doIt_143 ?_
              refine g_mem (fun u381 eu381 => ?_)
              have hu381 : iv u381 := by rw [eu381]; exact iv_st hu354 (by unfold uk_is51; decide) (by first | decide | lia | grind) (by first | decide | lia | grind) (fun q => by first | decide | lia | grind) (fun q => by first | decide | lia | grind) (fun q => by first | decide | lia | grind)
              have fu381 : fk [62] [] u u381 := by rw [eu381]; exact fk_up fu354 (by decide) (fun q => absurd q (by decide))
              have rau381 : ra u381 := by rw [eu381]; exact ra_at rau354 (by first | decide | lia | grind) (by first | decide | lia | grind)
              have C382 : u381.1 62 = (upd ((upd ((upd ((upd (u.1 62) (x327 : Int32).toNatClampNeg x330)) (x337 : Int32).toNatClampNeg x340)) (x347 : Int32).toNatClampNeg x351)) (x356 : Int32).toNatClampNeg x378) := by rw [eu381, uk_up_self, C355]
              refine g_aload_n dX7_doIt_144 rfl ?_
              refine f_X7_13 rfl rfl dX7_doIt_145 ?_
              refine g_bipush (v := 41) dX7_doIt_148 (by decide) ?_
              refine g_dup2 dX7_doIt_150 rfl rfl ?_
              have v383 : vp_in 41 51 := uk_vin 51 rfl (by first | decide | lia | grind) (by first | decide | lia | grind)
              refine g_iald rfl rfl v383 dX7_doIt_151 ?_
              refine g_topi (fun x384 ex384 => ?_)
              have bx384 := uk_cl v383
              have px384 : x384 = ((upd ((upd ((upd ((upd (u.1 62) (x327 : Int32).toNatClampNeg x330)) (x337 : Int32).toNatClampNeg x340)) (x347 : Int32).toNatClampNeg x351)) (x356 : Int32).toNatClampNeg x378)) (41 : Int32).toNatClampNeg := ex384.trans (congrFun C382 _)
              refine g_iconst (v := 1) dX7_doIt_152 (by decide) ?_
              refine g_iadd dX7_doIt_153 ?_
              refine g_topi (fun x385 ex385 => ?_)
              have v386 : vp_in 41 51 := uk_vin 51 rfl (by first | decide | lia | grind) (by first | decide | lia | grind)
              have b387 := uk_cl v386
              refine g_iast rfl rfl v386 dX7_doIt_154 ?_
              refine g_mem (fun u388 eu388 => ?_)
              have hu388 : iv u388 := by rw [eu388]; exact iv_st hu381 (by unfold uk_is51; decide) (by first | decide | lia | grind) (by first | decide | lia | grind) (fun q => by first | decide | lia | grind) (fun q => by first | decide | lia | grind) (fun q => by first | decide | lia | grind)
              have fu388 : fk [62] [] u u388 := by rw [eu388]; exact fk_up fu381 (by decide) (fun q => absurd q (by decide))
              have rau388 : ra u388 := by rw [eu388]; exact ra_at rau381 (by first | decide | lia | grind) (by first | decide | lia | grind)
              have C389 : u388.1 62 = (upd ((upd ((upd ((upd ((upd (u.1 62) (x327 : Int32).toNatClampNeg x330)) (x337 : Int32).toNatClampNeg x340)) (x347 : Int32).toNatClampNeg x351)) (x356 : Int32).toNatClampNeg x378)) (41 : Int32).toNatClampNeg x385) := by rw [eu388, uk_up_self, C382]
              exact g_vret dX7_doIt_155 rfl ⟨rfl, hu388, fu388, rau388⟩
            · refine g_iconst (v := 1) dX7_doIt_120 (by decide) ?_
              refine g_aload_n dX7_doIt_121 rfl ?_
              refine f_X7_13 rfl rfl dX7_doIt_122 ?_
              refine g_bipush (v := 8) dX7_doIt_125 (by decide) ?_
              refine g_iload_n dX7_doIt_127 rfl ?_
              refine g_iadd dX7_doIt_128 ?_
              refine g_topi (fun x390 ex390 => ?_)
              have v391 : vp_in x390 51 := uk_vin 51 rfl (by first | decide | lia | grind) (by first | decide | lia | grind)
              refine g_iald rfl rfl v391 dX7_doIt_129 ?_
              refine g_topi (fun x392 ex392 => ?_)
              have bx392 := uk_cl v391
              have rx392 : 0 ≤ x390 → x390 ≤ 7 → 0 ≤ x392 ∧ x392 ≤ 40 := fun a b => by rw [ex392]; exact sg_0 hu354 (by unfold uk_is51; decide) a b
              have rrx392 : 43 ≤ x390 → x390 ≤ 50 → 0 ≤ x392 ∧ x392 ≤ 7 := fun a b => by rw [ex392]; exact sg_43 hu354 (by unfold uk_is51; decide) a b
              have px392 : x392 = ((upd ((upd ((upd (u.1 62) (x327 : Int32).toNatClampNeg x330)) (x337 : Int32).toNatClampNeg x340)) (x347 : Int32).toNatClampNeg x351)) (x390 : Int32).toNatClampNeg := ex392.trans (congrFun C355 _)
              refine g_isub dX7_doIt_130 ?_
              refine g_topi (fun x393 ex393 => ?_)
              refine g_goto (tgt := 143) dX7_doIt_131 (by decide) ?_
              have v394 : vp_in x356 51 := uk_vin 51 rfl (by first | decide | lia | grind) (by first | decide | lia | grind)
              have b395 := uk_cl v394
              refine g_iast rfl rfl v394 dX7_doIt_143 ?_
              refine g_mem (fun u396 eu396 => ?_)
              have hu396 : iv u396 := by rw [eu396]; exact iv_st hu354 (by unfold uk_is51; decide) (by first | decide | lia | grind) (by first | decide | lia | grind) (fun q => by first | decide | lia | grind) (fun q => by first | decide | lia | grind) (fun q => by first | decide | lia | grind)
              have fu396 : fk [62] [] u u396 := by rw [eu396]; exact fk_up fu354 (by decide) (fun q => absurd q (by decide))
              have rau396 : ra u396 := by rw [eu396]; exact ra_at rau354 (by first | decide | lia | grind) (by first | decide | lia | grind)
              have C397 : u396.1 62 = (upd ((upd ((upd ((upd (u.1 62) (x327 : Int32).toNatClampNeg x330)) (x337 : Int32).toNatClampNeg x340)) (x347 : Int32).toNatClampNeg x351)) (x356 : Int32).toNatClampNeg x393) := by rw [eu396, uk_up_self, C355]
              refine g_aload_n dX7_doIt_144 rfl ?_
              refine f_X7_13 rfl rfl dX7_doIt_145 ?_
              refine g_bipush (v := 41) dX7_doIt_148 (by decide) ?_
              refine g_dup2 dX7_doIt_150 rfl rfl ?_
              have v398 : vp_in 41 51 := uk_vin 51 rfl (by first | decide | lia | grind) (by first | decide | lia | grind)
              refine g_iald rfl rfl v398 dX7_doIt_151 ?_
              refine g_topi (fun x399 ex399 => ?_)
              have bx399 := uk_cl v398
              have px399 : x399 = ((upd ((upd ((upd ((upd (u.1 62) (x327 : Int32).toNatClampNeg x330)) (x337 : Int32).toNatClampNeg x340)) (x347 : Int32).toNatClampNeg x351)) (x356 : Int32).toNatClampNeg x393)) (41 : Int32).toNatClampNeg := ex399.trans (congrFun C397 _)
              refine g_iconst (v := 1) dX7_doIt_152 (by decide) ?_
              refine g_iadd dX7_doIt_153 ?_
              refine g_topi (fun x400 ex400 => ?_)
              have v401 : vp_in 41 51 := uk_vin 51 rfl (by first | decide | lia | grind) (by first | decide | lia | grind)
              have b402 := uk_cl v401
              refine g_iast rfl rfl v401 dX7_doIt_154 ?_
              refine g_mem (fun u403 eu403 => ?_)
              have hu403 : iv u403 := by rw [eu403]; exact iv_st hu396 (by unfold uk_is51; decide) (by first | decide | lia | grind) (by first | decide | lia | grind) (fun q => by first | decide | lia | grind) (fun q => by first | decide | lia | grind) (fun q => by first | decide | lia | grind)
              have fu403 : fk [62] [] u u403 := by rw [eu403]; exact fk_up fu396 (by decide) (fun q => absurd q (by decide))
              have rau403 : ra u403 := by rw [eu403]; exact ra_at rau396 (by first | decide | lia | grind) (by first | decide | lia | grind)
              have C404 : u403.1 62 = (upd ((upd ((upd ((upd ((upd (u.1 62) (x327 : Int32).toNatClampNeg x330)) (x337 : Int32).toNatClampNeg x340)) (x347 : Int32).toNatClampNeg x351)) (x356 : Int32).toNatClampNeg x393)) (41 : Int32).toNatClampNeg x400) := by rw [eu403, uk_up_self, C397]
              exact g_vret dX7_doIt_155 rfl ⟨rfl, hu403, fu403, rau403⟩
        · exact absurd c350 (by decide)
      · have zc326 := nx325 c326
        refine g_iconst (v := 1) dX7_doIt_31 (by decide) ?_
        refine g_goto (tgt := 36) dX7_doIt_32 (by decide) ?_
        refine g_istore dX7_doIt_36 (by decide) ?_
        refine g_aload_n dX7_doIt_38 rfl ?_
        refine f_X7_13 rfl rfl dX7_doIt_39 ?_
        refine g_iconst (v := 0) dX7_doIt_42 (by decide) ?_
        refine g_iload_n dX7_doIt_43 rfl ?_
        refine g_iadd dX7_doIt_44 ?_
        refine g_topi (fun x405 ex405 => ?_)
        refine g_dup2 dX7_doIt_45 rfl rfl ?_
        have v406 : vp_in x405 51 := uk_vin 51 rfl (by first | decide | lia | grind) (by first | decide | lia | grind)
        refine g_iald rfl rfl v406 dX7_doIt_46 ?_
        refine g_topi (fun x407 ex407 => ?_)
        have bx407 := uk_cl v406
        have rx407 : 0 ≤ x405 → x405 ≤ 7 → 0 ≤ x407 ∧ x407 ≤ 40 := fun a b => by rw [ex407]; exact sg_0 hu (by unfold uk_is51; decide) a b
        have rrx407 : 43 ≤ x405 → x405 ≤ 50 → 0 ≤ x407 ∧ x407 ≤ 7 := fun a b => by rw [ex407]; exact sg_43 hu (by unfold uk_is51; decide) a b
        have px407 : x407 = (u.1 62) (x405 : Int32).toNatClampNeg := ex407.trans (congrFun C62 _)
        refine g_iload_n dX7_doIt_47 rfl ?_
        refine g_isub dX7_doIt_48 ?_
        refine g_topi (fun x408 ex408 => ?_)
        have v409 : vp_in x405 51 := uk_vin 51 rfl (by first | decide | lia | grind) (by first | decide | lia | grind)
        have b410 := uk_cl v409
        refine g_iast rfl rfl v409 dX7_doIt_49 ?_
        refine g_mem (fun u411 eu411 => ?_)
        have hu411 : iv u411 := by rw [eu411]; exact iv_st hu (by unfold uk_is51; decide) (by first | decide | lia | grind) (by first | decide | lia | grind) (fun q => by first | decide | lia | grind) (fun q => by first | decide | lia | grind) (fun q => by first | decide | lia | grind)
        have fu411 : fk [62] [] u u411 := by rw [eu411]; exact fk_up f0 (by decide) (fun q => absurd q (by decide))
        have rau411 : ra u411 := by rw [eu411]; exact ra_at hra (by first | decide | lia | grind) (by first | decide | lia | grind)
        have C412 : u411.1 62 = (upd (u.1 62) (x405 : Int32).toNatClampNeg x408) := by rw [eu411, uk_up_self, C62]
        refine g_aload_n dX7_doIt_50 rfl ?_
        refine f_X7_13 rfl rfl dX7_doIt_51 ?_
        refine g_iconst (v := 0) dX7_doIt_54 (by decide) ?_
        refine g_aload_n dX7_doIt_55 rfl ?_
        refine f_X7_20 rfl rfl dX7_doIt_56 ?_
        refine g_iload_n dX7_doIt_59 rfl ?_
        have v413 : vp_in x1 8 := uk_vin 8 rfl (by first | decide | lia | grind) (by first | decide | lia | grind)
        refine g_iald rfl rfl v413 dX7_doIt_60 ?_
        refine g_topi (fun x414 ex414 => ?_)
        have bx414 := uk_cl v413
        have rx414 : (-4) ≤ x414 ∧ x414 ≤ 7 := by rw [ex414]; exact iv_at hu411 _ _ (uk_pick1 _ (by omega))
        refine g_iadd dX7_doIt_61 ?_
        refine g_topi (fun x415 ex415 => ?_)
        refine g_dup2 dX7_doIt_62 rfl rfl ?_
        have v416 : vp_in x415 51 := uk_vin 51 rfl (by first | decide | lia | grind) (by first | decide | lia | grind)
        refine g_iald rfl rfl v416 dX7_doIt_63 ?_
        refine g_topi (fun x417 ex417 => ?_)
        have bx417 := uk_cl v416
        have rx417 : 0 ≤ x415 → x415 ≤ 7 → 0 ≤ x417 ∧ x417 ≤ 40 := fun a b => by rw [ex417]; exact sg_0 hu411 (by unfold uk_is51; decide) a b
        have rrx417 : 43 ≤ x415 → x415 ≤ 50 → 0 ≤ x417 ∧ x417 ≤ 7 := fun a b => by rw [ex417]; exact sg_43 hu411 (by unfold uk_is51; decide) a b
        have px417 : x417 = ((upd (u.1 62) (x405 : Int32).toNatClampNeg x408)) (x415 : Int32).toNatClampNeg := ex417.trans (congrFun C412 _)
        have lx417 : x417 = u.1 62 (x415 : Int32).toNatClampNeg := by rw [px417, upd_ne]; all_goals grind
        refine g_iload_n dX7_doIt_64 rfl ?_
        refine g_iadd dX7_doIt_65 ?_
        refine g_topi (fun x418 ex418 => ?_)
        have v419 : vp_in x415 51 := uk_vin 51 rfl (by first | decide | lia | grind) (by first | decide | lia | grind)
        have b420 := uk_cl v419
        refine g_iast rfl rfl v419 dX7_doIt_66 ?_
        refine g_mem (fun u421 eu421 => ?_)
        have hu421 : iv u421 := by rw [eu421]; exact iv_st hu411 (by unfold uk_is51; decide) (by first | decide | lia | grind) (by first | decide | lia | grind) (fun q => by first | decide | lia | grind) (fun q => by first | decide | lia | grind) (fun q => by first | decide | lia | grind)
        have fu421 : fk [62] [] u u421 := by rw [eu421]; exact fk_up fu411 (by decide) (fun q => absurd q (by decide))
        have rau421 : ra u421 := by rw [eu421]; exact ra_at rau411 (by first | decide | lia | grind) (by first | decide | lia | grind)
        have C422 : u421.1 62 = (upd ((upd (u.1 62) (x405 : Int32).toNatClampNeg x408)) (x415 : Int32).toNatClampNeg x418) := by rw [eu421, uk_up_self, C412]
        refine g_aload_n dX7_doIt_67 rfl ?_
        refine f_X7_13 rfl rfl dX7_doIt_68 ?_
        refine g_iconst (v := 0) dX7_doIt_71 (by decide) ?_
        refine g_aload_n dX7_doIt_72 rfl ?_
        refine f_X7_23 rfl rfl dX7_doIt_73 ?_
        refine g_iload_n dX7_doIt_76 rfl ?_
        have v423 : vp_in x1 8 := uk_vin 8 rfl (by first | decide | lia | grind) (by first | decide | lia | grind)
        refine g_iald rfl rfl v423 dX7_doIt_77 ?_
        refine g_topi (fun x424 ex424 => ?_)
        have bx424 := uk_cl v423
        have rx424 : (-4) ≤ x424 ∧ x424 ≤ 7 := by rw [ex424]; exact iv_at hu421 _ _ (uk_pick1 _ (by omega))
        refine g_iadd dX7_doIt_78 ?_
        refine g_topi (fun x425 ex425 => ?_)
        refine g_dup2 dX7_doIt_79 rfl rfl ?_
        have v426 : vp_in x425 51 := uk_vin 51 rfl (by first | decide | lia | grind) (by first | decide | lia | grind)
        refine g_iald rfl rfl v426 dX7_doIt_80 ?_
        refine g_topi (fun x427 ex427 => ?_)
        have bx427 := uk_cl v426
        have rx427 : 0 ≤ x425 → x425 ≤ 7 → 0 ≤ x427 ∧ x427 ≤ 40 := fun a b => by rw [ex427]; exact sg_0 hu421 (by unfold uk_is51; decide) a b
        have rrx427 : 43 ≤ x425 → x425 ≤ 50 → 0 ≤ x427 ∧ x427 ≤ 7 := fun a b => by rw [ex427]; exact sg_43 hu421 (by unfold uk_is51; decide) a b
        have px427 : x427 = ((upd ((upd (u.1 62) (x405 : Int32).toNatClampNeg x408)) (x415 : Int32).toNatClampNeg x418)) (x425 : Int32).toNatClampNeg := ex427.trans (congrFun C422 _)
        have lx427 : (x425 = x415 → x427 = x418) ∧ (¬ x425 = x415 → x427 = u.1 62 (x425 : Int32).toNatClampNeg) := ⟨fun q => by rw [px427, upd_at q], fun q => by rw [px427, upd_ne, upd_ne]; all_goals grind⟩
        refine g_iload dX7_doIt_81 rfl ?_
        refine g_if_eq (tgt := 90) dX7_doIt_83 (by decide) (fun c428 => ?_) (fun c428 => ?_)
        · exact absurd c428 (by decide)
        · refine g_iload_n dX7_doIt_86 rfl ?_
          refine g_goto (tgt := 91) dX7_doIt_87 (by decide) ?_
          refine g_iadd dX7_doIt_91 ?_
          refine g_topi (fun x429 ex429 => ?_)
          have v430 : vp_in x425 51 := uk_vin 51 rfl (by first | decide | lia | grind) (by first | decide | lia | grind)
          have b431 := uk_cl v430
          refine g_iast rfl rfl v430 dX7_doIt_92 ?_
          refine g_mem (fun u432 eu432 => ?_)
          have hu432 : iv u432 := by rw [eu432]; exact iv_st hu421 (by unfold uk_is51; decide) (by first | decide | lia | grind) (by first | decide | lia | grind) (fun q => by first | decide | lia | grind) (fun q => by first | decide | lia | grind) (fun q => by first | decide | lia | grind)
          have fu432 : fk [62] [] u u432 := by rw [eu432]; exact fk_up fu421 (by decide) (fun q => absurd q (by decide))
          have rau432 : ra u432 := by rw [eu432]; exact ra_at rau421 (by first | decide | lia | grind) (by first | decide | lia | grind)
          have C433 : u432.1 62 = (upd ((upd ((upd (u.1 62) (x405 : Int32).toNatClampNeg x408)) (x415 : Int32).toNatClampNeg x418)) (x425 : Int32).toNatClampNeg x429) := by rw [eu432, uk_up_self, C422]
          refine g_aload_n dX7_doIt_93 rfl ?_
          refine f_X7_13 rfl rfl dX7_doIt_94 ?_
          refine g_bipush (v := 8) dX7_doIt_97 (by decide) ?_
          refine g_iload_n dX7_doIt_99 rfl ?_
          refine g_iadd dX7_doIt_100 ?_
          refine g_topi (fun x434 ex434 => ?_)
          refine g_iload_n dX7_doIt_101 rfl ?_
          refine g_bipush (v := 10) dX7_doIt_102 (by decide) ?_
          refine g_icmp_lt (tgt := 134) dX7_doIt_104 (by decide) (fun c435 => ?_) (fun c435 => ?_)
          · refine g_aload_n dX7_doIt_134 rfl ?_
            refine f_X7_13 rfl rfl dX7_doIt_135 ?_
            refine g_bipush (v := 8) dX7_doIt_138 (by decide) ?_
            refine g_iload_n dX7_doIt_140 rfl ?_
            refine g_iadd dX7_doIt_141 ?_
            refine g_topi (fun x436 ex436 => ?_)
            have v437 : vp_in x436 51 := uk_vin 51 rfl (by first | decide | lia | grind) (by first | decide | lia | grind)
            refine g_iald rfl rfl v437 dX7_doIt_142 ?_
            refine g_topi (fun x438 ex438 => ?_)
            have bx438 := uk_cl v437
            have rx438 : 0 ≤ x436 → x436 ≤ 7 → 0 ≤ x438 ∧ x438 ≤ 40 := fun a b => by rw [ex438]; exact sg_0 hu432 (by unfold uk_is51; decide) a b
            have rrx438 : 43 ≤ x436 → x436 ≤ 50 → 0 ≤ x438 ∧ x438 ≤ 7 := fun a b => by rw [ex438]; exact sg_43 hu432 (by unfold uk_is51; decide) a b
            have px438 : x438 = ((upd ((upd ((upd (u.1 62) (x405 : Int32).toNatClampNeg x408)) (x415 : Int32).toNatClampNeg x418)) (x425 : Int32).toNatClampNeg x429)) (x436 : Int32).toNatClampNeg := ex438.trans (congrFun C433 _)
            have v439 : vp_in x434 51 := uk_vin 51 rfl (by first | decide | lia | grind) (by first | decide | lia | grind)
            have b440 := uk_cl v439
            refine g_iast rfl rfl v439 dX7_doIt_143 ?_
            refine g_mem (fun u441 eu441 => ?_)
            have hu441 : iv u441 := by rw [eu441]; exact iv_st hu432 (by unfold uk_is51; decide) (by first | decide | lia | grind) (by first | decide | lia | grind) (fun q => by first | decide | lia | grind) (fun q => by first | decide | lia | grind) (fun q => by first | decide | lia | grind)
            have fu441 : fk [62] [] u u441 := by rw [eu441]; exact fk_up fu432 (by decide) (fun q => absurd q (by decide))
            have rau441 : ra u441 := by rw [eu441]; exact ra_at rau432 (by first | decide | lia | grind) (by first | decide | lia | grind)
            have C442 : u441.1 62 = (upd ((upd ((upd ((upd (u.1 62) (x405 : Int32).toNatClampNeg x408)) (x415 : Int32).toNatClampNeg x418)) (x425 : Int32).toNatClampNeg x429)) (x434 : Int32).toNatClampNeg x438) := by rw [eu441, uk_up_self, C433]
            refine g_aload_n dX7_doIt_144 rfl ?_
            refine f_X7_13 rfl rfl dX7_doIt_145 ?_
            refine g_bipush (v := 41) dX7_doIt_148 (by decide) ?_
            refine g_dup2 dX7_doIt_150 rfl rfl ?_
            have v443 : vp_in 41 51 := uk_vin 51 rfl (by first | decide | lia | grind) (by first | decide | lia | grind)
            refine g_iald rfl rfl v443 dX7_doIt_151 ?_
            refine g_topi (fun x444 ex444 => ?_)
            have bx444 := uk_cl v443
            have px444 : x444 = ((upd ((upd ((upd ((upd (u.1 62) (x405 : Int32).toNatClampNeg x408)) (x415 : Int32).toNatClampNeg x418)) (x425 : Int32).toNatClampNeg x429)) (x434 : Int32).toNatClampNeg x438)) (41 : Int32).toNatClampNeg := ex444.trans (congrFun C442 _)
            refine g_iconst (v := 1) dX7_doIt_152 (by decide) ?_
            refine g_iadd dX7_doIt_153 ?_
            refine g_topi (fun x445 ex445 => ?_)
            have v446 : vp_in 41 51 := uk_vin 51 rfl (by first | decide | lia | grind) (by first | decide | lia | grind)
            have b447 := uk_cl v446
            refine g_iast rfl rfl v446 dX7_doIt_154 ?_
            refine g_mem (fun u448 eu448 => ?_)
            have hu448 : iv u448 := by rw [eu448]; exact iv_st hu441 (by unfold uk_is51; decide) (by first | decide | lia | grind) (by first | decide | lia | grind) (fun q => by first | decide | lia | grind) (fun q => by first | decide | lia | grind) (fun q => by first | decide | lia | grind)
            have fu448 : fk [62] [] u u448 := by rw [eu448]; exact fk_up fu441 (by decide) (fun q => absurd q (by decide))
            have rau448 : ra u448 := by rw [eu448]; exact ra_at rau441 (by first | decide | lia | grind) (by first | decide | lia | grind)
            have C449 : u448.1 62 = (upd ((upd ((upd ((upd ((upd (u.1 62) (x405 : Int32).toNatClampNeg x408)) (x415 : Int32).toNatClampNeg x418)) (x425 : Int32).toNatClampNeg x429)) (x434 : Int32).toNatClampNeg x438)) (41 : Int32).toNatClampNeg x445) := by rw [eu448, uk_up_self, C442]
            exact g_vret dX7_doIt_155 rfl ⟨rfl, hu448, fu448, rau448⟩
          · refine g_aload_n dX7_doIt_107 rfl ?_
            refine f_X7_13 rfl rfl dX7_doIt_108 ?_
            refine g_bipush (v := 32) dX7_doIt_111 (by decide) ?_
            refine g_iload_n dX7_doIt_113 rfl ?_
            refine g_iadd dX7_doIt_114 ?_
            refine g_topi (fun x450 ex450 => ?_)
            have v451 : vp_in x450 51 := uk_vin 51 rfl (by first | decide | lia | grind) (by first | decide | lia | grind)
            refine g_iald rfl rfl v451 dX7_doIt_115 ?_
            refine g_topi (fun x452 ex452 => ?_)
            have bx452 := uk_cl v451
            have rx452 : 0 ≤ x450 → x450 ≤ 7 → 0 ≤ x452 ∧ x452 ≤ 40 := fun a b => by rw [ex452]; exact sg_0 hu432 (by unfold uk_is51; decide) a b
            have rrx452 : 43 ≤ x450 → x450 ≤ 50 → 0 ≤ x452 ∧ x452 ≤ 7 := fun a b => by rw [ex452]; exact sg_43 hu432 (by unfold uk_is51; decide) a b
            have px452 : x452 = ((upd ((upd ((upd (u.1 62) (x405 : Int32).toNatClampNeg x408)) (x415 : Int32).toNatClampNeg x418)) (x425 : Int32).toNatClampNeg x429)) (x450 : Int32).toNatClampNeg := ex452.trans (congrFun C433 _)
            refine g_iconst (v := 3) dX7_doIt_116 (by decide) ?_
            refine g_icmp_ne (tgt := 134) dX7_doIt_117 (by decide) (fun c453 => ?_) (fun c453 => ?_)
            · refine g_aload_n dX7_doIt_134 rfl ?_
              refine f_X7_13 rfl rfl dX7_doIt_135 ?_
              refine g_bipush (v := 8) dX7_doIt_138 (by decide) ?_
              refine g_iload_n dX7_doIt_140 rfl ?_
              refine g_iadd dX7_doIt_141 ?_
              refine g_topi (fun x454 ex454 => ?_)
              have v455 : vp_in x454 51 := uk_vin 51 rfl (by first | decide | lia | grind) (by first | decide | lia | grind)
              refine g_iald rfl rfl v455 dX7_doIt_142 ?_
              refine g_topi (fun x456 ex456 => ?_)
              have bx456 := uk_cl v455
              have rx456 : 0 ≤ x454 → x454 ≤ 7 → 0 ≤ x456 ∧ x456 ≤ 40 := fun a b => by rw [ex456]; exact sg_0 hu432 (by unfold uk_is51; decide) a b
              have rrx456 : 43 ≤ x454 → x454 ≤ 50 → 0 ≤ x456 ∧ x456 ≤ 7 := fun a b => by rw [ex456]; exact sg_43 hu432 (by unfold uk_is51; decide) a b
              have px456 : x456 = ((upd ((upd ((upd (u.1 62) (x405 : Int32).toNatClampNeg x408)) (x415 : Int32).toNatClampNeg x418)) (x425 : Int32).toNatClampNeg x429)) (x454 : Int32).toNatClampNeg := ex456.trans (congrFun C433 _)
              have v457 : vp_in x434 51 := uk_vin 51 rfl (by first | decide | lia | grind) (by first | decide | lia | grind)
              have b458 := uk_cl v457
              refine g_iast rfl rfl v457 dX7_doIt_143 ?_
              refine g_mem (fun u459 eu459 => ?_)
              have hu459 : iv u459 := by rw [eu459]; exact iv_st hu432 (by unfold uk_is51; decide) (by first | decide | lia | grind) (by first | decide | lia | grind) (fun q => by first | decide | lia | grind) (fun q => by first | decide | lia | grind) (fun q => by first | decide | lia | grind)
              have fu459 : fk [62] [] u u459 := by rw [eu459]; exact fk_up fu432 (by decide) (fun q => absurd q (by decide))
              have rau459 : ra u459 := by rw [eu459]; exact ra_at rau432 (by first | decide | lia | grind) (by first | decide | lia | grind)
              have C460 : u459.1 62 = (upd ((upd ((upd ((upd (u.1 62) (x405 : Int32).toNatClampNeg x408)) (x415 : Int32).toNatClampNeg x418)) (x425 : Int32).toNatClampNeg x429)) (x434 : Int32).toNatClampNeg x456) := by rw [eu459, uk_up_self, C433]
              refine g_aload_n dX7_doIt_144 rfl ?_
              refine f_X7_13 rfl rfl dX7_doIt_145 ?_
              refine g_bipush (v := 41) dX7_doIt_148 (by decide) ?_
              refine g_dup2 dX7_doIt_150 rfl rfl ?_
              have v461 : vp_in 41 51 := uk_vin 51 rfl (by first | decide | lia | grind) (by first | decide | lia | grind)
              refine g_iald rfl rfl v461 dX7_doIt_151 ?_
              refine g_topi (fun x462 ex462 => ?_)
              have bx462 := uk_cl v461
              have px462 : x462 = ((upd ((upd ((upd ((upd (u.1 62) (x405 : Int32).toNatClampNeg x408)) (x415 : Int32).toNatClampNeg x418)) (x425 : Int32).toNatClampNeg x429)) (x434 : Int32).toNatClampNeg x456)) (41 : Int32).toNatClampNeg := ex462.trans (congrFun C460 _)
              refine g_iconst (v := 1) dX7_doIt_152 (by decide) ?_
              refine g_iadd dX7_doIt_153 ?_
              refine g_topi (fun x463 ex463 => ?_)
              have v464 : vp_in 41 51 := uk_vin 51 rfl (by first | decide | lia | grind) (by first | decide | lia | grind)
              have b465 := uk_cl v464
              refine g_iast rfl rfl v464 dX7_doIt_154 ?_
              refine g_mem (fun u466 eu466 => ?_)
              have hu466 : iv u466 := by rw [eu466]; exact iv_st hu459 (by unfold uk_is51; decide) (by first | decide | lia | grind) (by first | decide | lia | grind) (fun q => by first | decide | lia | grind) (fun q => by first | decide | lia | grind) (fun q => by first | decide | lia | grind)
              have fu466 : fk [62] [] u u466 := by rw [eu466]; exact fk_up fu459 (by decide) (fun q => absurd q (by decide))
              have rau466 : ra u466 := by rw [eu466]; exact ra_at rau459 (by first | decide | lia | grind) (by first | decide | lia | grind)
              have C467 : u466.1 62 = (upd ((upd ((upd ((upd ((upd (u.1 62) (x405 : Int32).toNatClampNeg x408)) (x415 : Int32).toNatClampNeg x418)) (x425 : Int32).toNatClampNeg x429)) (x434 : Int32).toNatClampNeg x456)) (41 : Int32).toNatClampNeg x463) := by rw [eu466, uk_up_self, C460]
              exact g_vret dX7_doIt_155 rfl ⟨rfl, hu466, fu466, rau466⟩
            · refine g_iconst (v := 1) dX7_doIt_120 (by decide) ?_
              refine g_aload_n dX7_doIt_121 rfl ?_
              refine f_X7_13 rfl rfl dX7_doIt_122 ?_
              refine g_bipush (v := 8) dX7_doIt_125 (by decide) ?_
              refine g_iload_n dX7_doIt_127 rfl ?_
              refine g_iadd dX7_doIt_128 ?_
              refine g_topi (fun x468 ex468 => ?_)
              have v469 : vp_in x468 51 := uk_vin 51 rfl (by first | decide | lia | grind) (by first | decide | lia | grind)
              refine g_iald rfl rfl v469 dX7_doIt_129 ?_
              refine g_topi (fun x470 ex470 => ?_)
              have bx470 := uk_cl v469
              have rx470 : 0 ≤ x468 → x468 ≤ 7 → 0 ≤ x470 ∧ x470 ≤ 40 := fun a b => by rw [ex470]; exact sg_0 hu432 (by unfold uk_is51; decide) a b
              have rrx470 : 43 ≤ x468 → x468 ≤ 50 → 0 ≤ x470 ∧ x470 ≤ 7 := fun a b => by rw [ex470]; exact sg_43 hu432 (by unfold uk_is51; decide) a b
              have px470 : x470 = ((upd ((upd ((upd (u.1 62) (x405 : Int32).toNatClampNeg x408)) (x415 : Int32).toNatClampNeg x418)) (x425 : Int32).toNatClampNeg x429)) (x468 : Int32).toNatClampNeg := ex470.trans (congrFun C433 _)
              refine g_isub dX7_doIt_130 ?_
              refine g_topi (fun x471 ex471 => ?_)
              refine g_goto (tgt := 143) dX7_doIt_131 (by decide) ?_
              have v472 : vp_in x434 51 := uk_vin 51 rfl (by first | decide | lia | grind) (by first | decide | lia | grind)
              have b473 := uk_cl v472
              refine g_iast rfl rfl v472 dX7_doIt_143 ?_
              refine g_mem (fun u474 eu474 => ?_)
              have hu474 : iv u474 := by rw [eu474]; exact iv_st hu432 (by unfold uk_is51; decide) (by first | decide | lia | grind) (by first | decide | lia | grind) (fun q => by first | decide | lia | grind) (fun q => by first | decide | lia | grind) (fun q => by first | decide | lia | grind)
              have fu474 : fk [62] [] u u474 := by rw [eu474]; exact fk_up fu432 (by decide) (fun q => absurd q (by decide))
              have rau474 : ra u474 := by rw [eu474]; exact ra_at rau432 (by first | decide | lia | grind) (by first | decide | lia | grind)
              have C475 : u474.1 62 = (upd ((upd ((upd ((upd (u.1 62) (x405 : Int32).toNatClampNeg x408)) (x415 : Int32).toNatClampNeg x418)) (x425 : Int32).toNatClampNeg x429)) (x434 : Int32).toNatClampNeg x471) := by rw [eu474, uk_up_self, C433]
              refine g_aload_n dX7_doIt_144 rfl ?_
              refine f_X7_13 rfl rfl dX7_doIt_145 ?_
              refine g_bipush (v := 41) dX7_doIt_148 (by decide) ?_
              refine g_dup2 dX7_doIt_150 rfl rfl ?_
              have v476 : vp_in 41 51 := uk_vin 51 rfl (by first | decide | lia | grind) (by first | decide | lia | grind)
              refine g_iald rfl rfl v476 dX7_doIt_151 ?_
              refine g_topi (fun x477 ex477 => ?_)
              have bx477 := uk_cl v476
              have px477 : x477 = ((upd ((upd ((upd ((upd (u.1 62) (x405 : Int32).toNatClampNeg x408)) (x415 : Int32).toNatClampNeg x418)) (x425 : Int32).toNatClampNeg x429)) (x434 : Int32).toNatClampNeg x471)) (41 : Int32).toNatClampNeg := ex477.trans (congrFun C475 _)
              refine g_iconst (v := 1) dX7_doIt_152 (by decide) ?_
              refine g_iadd dX7_doIt_153 ?_
              refine g_topi (fun x478 ex478 => ?_)
              have v479 : vp_in 41 51 := uk_vin 51 rfl (by first | decide | lia | grind) (by first | decide | lia | grind)
              have b480 := uk_cl v479
              refine g_iast rfl rfl v479 dX7_doIt_154 ?_
              refine g_mem (fun u481 eu481 => ?_)
              have hu481 : iv u481 := by rw [eu481]; exact iv_st hu474 (by unfold uk_is51; decide) (by first | decide | lia | grind) (by first | decide | lia | grind) (fun q => by first | decide | lia | grind) (fun q => by first | decide | lia | grind) (fun q => by first | decide | lia | grind)
              have fu481 : fk [62] [] u u481 := by rw [eu481]; exact fk_up fu474 (by decide) (fun q => absurd q (by decide))
              have rau481 : ra u481 := by rw [eu481]; exact ra_at rau474 (by first | decide | lia | grind) (by first | decide | lia | grind)
              have C482 : u481.1 62 = (upd ((upd ((upd ((upd ((upd (u.1 62) (x405 : Int32).toNatClampNeg x408)) (x415 : Int32).toNatClampNeg x418)) (x425 : Int32).toNatClampNeg x429)) (x434 : Int32).toNatClampNeg x471)) (41 : Int32).toNatClampNeg x478) := by rw [eu481, uk_up_self, C475]
              exact g_vret dX7_doIt_155 rfl ⟨rfl, hu481, fu481, rau481⟩
abbrev q_X7_doIt_b (u : uk_Mem) (g : Int32) (r : Option Value) (u' : uk_Mem) : Prop := (r = none) ∧ (iv u' ∧ fk [62] [] u u' ∧ ra u')
set_option maxHeartbeats 4000000 in
set_option maxRecDepth 20000 in
theorem c_X7_doIt_b {G : uk_D} (hs : uk_Sep G) {u : uk_Mem} (hu : iv u) (hra : ra u) (g : Int32) (p0 : 10 ≤ g) (p1 : g ≤ 17) (p2 : 0 ≤ (u.1 64 ((g - 10)).toNatClampNeg)) (p3 : (u.1 64 ((g - 10)).toNatClampNeg) < (g - 10)) (p4 : 0 ≤ (u.1 65 ((g - 10)).toNatClampNeg)) (p5 : (u.1 65 ((g - 10)).toNatClampNeg) < (g - 10)) (p6 : 1 ≤ u.1 62 ((g - 10)).toNatClampNeg) (p7 : u.1 62 (u.1 64 ((g - 10)).toNatClampNeg).toNatClampNeg < 40) (p8 : ((u.1 62 (32 + (g - 10)).toNatClampNeg = 0 ∨ (u.1 62 (32 + (g - 10)).toNatClampNeg = 3 ∧ u.1 62 (8 + (g - 10)).toNatClampNeg = 1)) → (u.1 64 ((g - 10)).toNatClampNeg) = (u.1 65 ((g - 10)).toNatClampNeg) → u.1 62 (u.1 64 ((g - 10)).toNatClampNeg).toNatClampNeg + 2 ≤ 40)) (p9 : ((u.1 62 (32 + (g - 10)).toNatClampNeg = 0 ∨ (u.1 62 (32 + (g - 10)).toNatClampNeg = 3 ∧ u.1 62 (8 + (g - 10)).toNatClampNeg = 1)) → ¬ (u.1 64 ((g - 10)).toNatClampNeg) = (u.1 65 ((g - 10)).toNatClampNeg) → u.1 62 (u.1 65 ((g - 10)).toNatClampNeg).toNatClampNeg < 40)) (d : Nat) : uk_Meth G (d + 1) mX7_doIt [.ref (uk_ad G 60), .int g] u (q_X7_doIt_b u g) := by
  refine uk_Meth.of hs (by decide) (Nat.le_of_ble_eq_true rfl) (fun X => ?_)
  have f0 : fk [62] [] u u := fk_rf
  have C62 : u.1 62 = u.1 62 := rfl
  refine g_iload_n dX7_doIt_0 rfl ?_
  refine g_bipush (v := 10) dX7_doIt_1 (by decide) ?_
  refine g_irem dX7_doIt_3 (by first | decide | lia | grind) ?_
  refine g_topi (fun x1 ex1 => ?_)
  have nx1 := uk_r10 ex1
  refine g_istore_n dX7_doIt_4 (by decide) ?_
  refine g_iload_n dX7_doIt_5 rfl ?_
  refine g_bipush (v := 10) dX7_doIt_6 (by decide) ?_
  refine g_icmp_ge (tgt := 15) dX7_doIt_8 (by decide) (fun c2 => ?_) (fun c2 => ?_)
  · refine g_iconst (v := 1) dX7_doIt_15 (by decide) ?_
    refine g_istore_n dX7_doIt_16 (by decide) ?_
    refine g_iload_n dX7_doIt_17 rfl ?_
    refine g_bipush (v := 10) dX7_doIt_18 (by decide) ?_
    refine g_icmp_lt (tgt := 31) dX7_doIt_20 (by decide) (fun c3 => ?_) (fun c3 => ?_)
    · refine g_iconst (v := 1) dX7_doIt_31 (by decide) ?_
      refine g_goto (tgt := 36) dX7_doIt_32 (by decide) ?_
      refine g_istore dX7_doIt_36 (by decide) ?_
      refine g_aload_n dX7_doIt_38 rfl ?_
      refine f_X7_13 rfl rfl dX7_doIt_39 ?_
      refine g_iconst (v := 0) dX7_doIt_42 (by decide) ?_
      refine g_iload_n dX7_doIt_43 rfl ?_
      refine g_iadd dX7_doIt_44 ?_
      refine g_topi (fun x4 ex4 => ?_)
      refine g_dup2 dX7_doIt_45 rfl rfl ?_
      have v5 : vp_in x4 51 := uk_vin 51 rfl (by first | decide | lia | grind) (by first | decide | lia | grind)
      refine g_iald rfl rfl v5 dX7_doIt_46 ?_
      refine g_topi (fun x6 ex6 => ?_)
      have bx6 := uk_cl v5
      have rx6 : 0 ≤ x4 → x4 ≤ 7 → 0 ≤ x6 ∧ x6 ≤ 40 := fun a b => by rw [ex6]; exact sg_0 hu (by unfold uk_is51; decide) a b
      have rrx6 : 43 ≤ x4 → x4 ≤ 50 → 0 ≤ x6 ∧ x6 ≤ 7 := fun a b => by rw [ex6]; exact sg_43 hu (by unfold uk_is51; decide) a b
      have px6 : x6 = (u.1 62) (x4 : Int32).toNatClampNeg := ex6.trans (congrFun C62 _)
      refine g_iload_n dX7_doIt_47 rfl ?_
      refine g_isub dX7_doIt_48 ?_
      refine g_topi (fun x7 ex7 => ?_)
      have v8 : vp_in x4 51 := uk_vin 51 rfl (by first | decide | lia | grind) (by first | decide | lia | grind)
      have b9 := uk_cl v8
      refine g_iast rfl rfl v8 dX7_doIt_49 ?_
      refine g_mem (fun u10 eu10 => ?_)
      have hu10 : iv u10 := by rw [eu10]; exact iv_st hu (by unfold uk_is51; decide) (by first | decide | lia | grind) (by first | decide | lia | grind) (fun q => by first | decide | lia | grind) (fun q => by first | decide | lia | grind) (fun q => by first | decide | lia | grind)
      have fu10 : fk [62] [] u u10 := by rw [eu10]; exact fk_up f0 (by decide) (fun q => absurd q (by decide))
      have rau10 : ra u10 := by rw [eu10]; exact ra_at hra (by first | decide | lia | grind) (by first | decide | lia | grind)
      have C11 : u10.1 62 = (upd (u.1 62) (x4 : Int32).toNatClampNeg x7) := by rw [eu10, uk_up_self, C62]
      refine g_aload_n dX7_doIt_50 rfl ?_
      refine f_X7_13 rfl rfl dX7_doIt_51 ?_
      refine g_iconst (v := 0) dX7_doIt_54 (by decide) ?_
      refine g_aload_n dX7_doIt_55 rfl ?_
      refine f_X7_20 rfl rfl dX7_doIt_56 ?_
      refine g_iload_n dX7_doIt_59 rfl ?_
      have v12 : vp_in x1 8 := uk_vin 8 rfl (by first | decide | lia | grind) (by first | decide | lia | grind)
      refine g_iald rfl rfl v12 dX7_doIt_60 ?_
      refine g_topi (fun x13 ex13 => ?_)
      have bx13 := uk_cl v12
      have rx13 : (-4) ≤ x13 ∧ x13 ≤ 7 := by rw [ex13]; exact iv_at hu10 _ _ (uk_pick1 _ (by omega))
      refine g_iadd dX7_doIt_61 ?_
      refine g_topi (fun x14 ex14 => ?_)
      refine g_dup2 dX7_doIt_62 rfl rfl ?_
      have v15 : vp_in x14 51 := uk_vin 51 rfl (by first | decide | lia | grind) (by first | decide | lia | grind)
      refine g_iald rfl rfl v15 dX7_doIt_63 ?_
      refine g_topi (fun x16 ex16 => ?_)
      have bx16 := uk_cl v15
      have rx16 : 0 ≤ x14 → x14 ≤ 7 → 0 ≤ x16 ∧ x16 ≤ 40 := fun a b => by rw [ex16]; exact sg_0 hu10 (by unfold uk_is51; decide) a b
      have rrx16 : 43 ≤ x14 → x14 ≤ 50 → 0 ≤ x16 ∧ x16 ≤ 7 := fun a b => by rw [ex16]; exact sg_43 hu10 (by unfold uk_is51; decide) a b
      have px16 : x16 = ((upd (u.1 62) (x4 : Int32).toNatClampNeg x7)) (x14 : Int32).toNatClampNeg := ex16.trans (congrFun C11 _)
      have lx16 : x16 = u.1 62 (x14 : Int32).toNatClampNeg := by rw [px16, upd_ne]; all_goals grind
      refine g_iload_n dX7_doIt_64 rfl ?_
      refine g_iadd dX7_doIt_65 ?_
      refine g_topi (fun x17 ex17 => ?_)
      have v18 : vp_in x14 51 := uk_vin 51 rfl (by first | decide | lia | grind) (by first | decide | lia | grind)
      have b19 := uk_cl v18
      refine g_iast rfl rfl v18 dX7_doIt_66 ?_
      refine g_mem (fun u20 eu20 => ?_)
      have hu20 : iv u20 := by rw [eu20]; exact iv_st hu10 (by unfold uk_is51; decide) (by first | decide | lia | grind) (by first | decide | lia | grind) (fun q => by first | decide | lia | grind) (fun q => by first | decide | lia | grind) (fun q => by first | decide | lia | grind)
      have fu20 : fk [62] [] u u20 := by rw [eu20]; exact fk_up fu10 (by decide) (fun q => absurd q (by decide))
      have rau20 : ra u20 := by rw [eu20]; exact ra_at rau10 (by first | decide | lia | grind) (by first | decide | lia | grind)
      have C21 : u20.1 62 = (upd ((upd (u.1 62) (x4 : Int32).toNatClampNeg x7)) (x14 : Int32).toNatClampNeg x17) := by rw [eu20, uk_up_self, C11]
      refine g_aload_n dX7_doIt_67 rfl ?_
      refine f_X7_13 rfl rfl dX7_doIt_68 ?_
      refine g_iconst (v := 0) dX7_doIt_71 (by decide) ?_
      refine g_aload_n dX7_doIt_72 rfl ?_
      refine f_X7_23 rfl rfl dX7_doIt_73 ?_
      refine g_iload_n dX7_doIt_76 rfl ?_
      have v22 : vp_in x1 8 := uk_vin 8 rfl (by first | decide | lia | grind) (by first | decide | lia | grind)
      refine g_iald rfl rfl v22 dX7_doIt_77 ?_
      refine g_topi (fun x23 ex23 => ?_)
      have bx23 := uk_cl v22
      have rx23 : (-4) ≤ x23 ∧ x23 ≤ 7 := by rw [ex23]; exact iv_at hu20 _ _ (uk_pick1 _ (by omega))
      refine g_iadd dX7_doIt_78 ?_
      refine g_topi (fun x24 ex24 => ?_)
      refine g_dup2 dX7_doIt_79 rfl rfl ?_
      have v25 : vp_in x24 51 := uk_vin 51 rfl (by first | decide | lia | grind) (by first | decide | lia | grind)
      refine g_iald rfl rfl v25 dX7_doIt_80 ?_
      refine g_topi (fun x26 ex26 => ?_)
      have bx26 := uk_cl v25
      have rx26 : 0 ≤ x24 → x24 ≤ 7 → 0 ≤ x26 ∧ x26 ≤ 40 := fun a b => by rw [ex26]; exact sg_0 hu20 (by unfold uk_is51; decide) a b
      have rrx26 : 43 ≤ x24 → x24 ≤ 50 → 0 ≤ x26 ∧ x26 ≤ 7 := fun a b => by rw [ex26]; exact sg_43 hu20 (by unfold uk_is51; decide) a b
      have px26 : x26 = ((upd ((upd (u.1 62) (x4 : Int32).toNatClampNeg x7)) (x14 : Int32).toNatClampNeg x17)) (x24 : Int32).toNatClampNeg := ex26.trans (congrFun C21 _)
      have lx26 : (x24 = x14 → x26 = x17) ∧ (¬ x24 = x14 → x26 = u.1 62 (x24 : Int32).toNatClampNeg) := ⟨fun q => by rw [px26, upd_at q], fun q => by rw [px26, upd_ne, upd_ne]; all_goals grind⟩
      refine g_iload dX7_doIt_81 rfl ?_
      refine g_if_eq (tgt := 90) dX7_doIt_83 (by decide) (fun c27 => ?_) (fun c27 => ?_)
      · exact absurd c27 (by decide)
      · refine g_iload_n dX7_doIt_86 rfl ?_
        refine g_goto (tgt := 91) dX7_doIt_87 (by decide) ?_
        refine g_iadd dX7_doIt_91 ?_
        refine g_topi (fun x28 ex28 => ?_)
        have v29 : vp_in x24 51 := uk_vin 51 rfl (by first | decide | lia | grind) (by first | decide | lia | grind)
        have b30 := uk_cl v29
        refine g_iast rfl rfl v29 dX7_doIt_92 ?_
        refine g_mem (fun u31 eu31 => ?_)
        have hu31 : iv u31 := by rw [eu31]; exact iv_st hu20 (by unfold uk_is51; decide) (by first | decide | lia | grind) (by first | decide | lia | grind) (fun q => by first | decide | lia | grind) (fun q => by first | decide | lia | grind) (fun q => by first | decide | lia | grind)
        have fu31 : fk [62] [] u u31 := by rw [eu31]; exact fk_up fu20 (by decide) (fun q => absurd q (by decide))
        have rau31 : ra u31 := by rw [eu31]; exact ra_at rau20 (by first | decide | lia | grind) (by first | decide | lia | grind)
        have C32 : u31.1 62 = (upd ((upd ((upd (u.1 62) (x4 : Int32).toNatClampNeg x7)) (x14 : Int32).toNatClampNeg x17)) (x24 : Int32).toNatClampNeg x28) := by rw [eu31, uk_up_self, C21]
        refine g_aload_n dX7_doIt_93 rfl ?_
        refine f_X7_13 rfl rfl dX7_doIt_94 ?_
        refine g_bipush (v := 8) dX7_doIt_97 (by decide) ?_
        refine g_iload_n dX7_doIt_99 rfl ?_
        refine g_iadd dX7_doIt_100 ?_
        refine g_topi (fun x33 ex33 => ?_)
        refine g_iload_n dX7_doIt_101 rfl ?_
        refine g_bipush (v := 10) dX7_doIt_102 (by decide) ?_
        refine g_icmp_lt (tgt := 134) dX7_doIt_104 (by decide) (fun c34 => ?_) (fun c34 => ?_)
        · refine g_aload_n dX7_doIt_134 rfl ?_
          refine f_X7_13 rfl rfl dX7_doIt_135 ?_
          refine g_bipush (v := 8) dX7_doIt_138 (by decide) ?_
          refine g_iload_n dX7_doIt_140 rfl ?_
          refine g_iadd dX7_doIt_141 ?_
          refine g_topi (fun x35 ex35 => ?_)
          have v36 : vp_in x35 51 := uk_vin 51 rfl (by first | decide | lia | grind) (by first | decide | lia | grind)
          refine g_iald rfl rfl v36 dX7_doIt_142 ?_
          refine g_topi (fun x37 ex37 => ?_)
          have bx37 := uk_cl v36
          have rx37 : 0 ≤ x35 → x35 ≤ 7 → 0 ≤ x37 ∧ x37 ≤ 40 := fun a b => by rw [ex37]; exact sg_0 hu31 (by unfold uk_is51; decide) a b
          have rrx37 : 43 ≤ x35 → x35 ≤ 50 → 0 ≤ x37 ∧ x37 ≤ 7 := fun a b => by rw [ex37]; exact sg_43 hu31 (by unfold uk_is51; decide) a b
          have px37 : x37 = ((upd ((upd ((upd (u.1 62) (x4 : Int32).toNatClampNeg x7)) (x14 : Int32).toNatClampNeg x17)) (x24 : Int32).toNatClampNeg x28)) (x35 : Int32).toNatClampNeg := ex37.trans (congrFun C32 _)
          have v38 : vp_in x33 51 := uk_vin 51 rfl (by first | decide | lia | grind) (by first | decide | lia | grind)
          have b39 := uk_cl v38
          refine g_iast rfl rfl v38 dX7_doIt_143 ?_
          refine g_mem (fun u40 eu40 => ?_)
          have hu40 : iv u40 := by rw [eu40]; exact iv_st hu31 (by unfold uk_is51; decide) (by first | decide | lia | grind) (by first | decide | lia | grind) (fun q => by first | decide | lia | grind) (fun q => by first | decide | lia | grind) (fun q => by first | decide | lia | grind)
          have fu40 : fk [62] [] u u40 := by rw [eu40]; exact fk_up fu31 (by decide) (fun q => absurd q (by decide))
          have rau40 : ra u40 := by rw [eu40]; exact ra_at rau31 (by first | decide | lia | grind) (by first | decide | lia | grind)
          have C41 : u40.1 62 = (upd ((upd ((upd ((upd (u.1 62) (x4 : Int32).toNatClampNeg x7)) (x14 : Int32).toNatClampNeg x17)) (x24 : Int32).toNatClampNeg x28)) (x33 : Int32).toNatClampNeg x37) := by rw [eu40, uk_up_self, C32]
          refine g_aload_n dX7_doIt_144 rfl ?_
          refine f_X7_13 rfl rfl dX7_doIt_145 ?_
          refine g_bipush (v := 41) dX7_doIt_148 (by decide) ?_
          refine g_dup2 dX7_doIt_150 rfl rfl ?_
          have v42 : vp_in 41 51 := uk_vin 51 rfl (by first | decide | lia | grind) (by first | decide | lia | grind)
          refine g_iald rfl rfl v42 dX7_doIt_151 ?_
          refine g_topi (fun x43 ex43 => ?_)
          have bx43 := uk_cl v42
          have px43 : x43 = ((upd ((upd ((upd ((upd (u.1 62) (x4 : Int32).toNatClampNeg x7)) (x14 : Int32).toNatClampNeg x17)) (x24 : Int32).toNatClampNeg x28)) (x33 : Int32).toNatClampNeg x37)) (41 : Int32).toNatClampNeg := ex43.trans (congrFun C41 _)
          refine g_iconst (v := 1) dX7_doIt_152 (by decide) ?_
          refine g_iadd dX7_doIt_153 ?_
          refine g_topi (fun x44 ex44 => ?_)
          have v45 : vp_in 41 51 := uk_vin 51 rfl (by first | decide | lia | grind) (by first | decide | lia | grind)
          have b46 := uk_cl v45
          refine g_iast rfl rfl v45 dX7_doIt_154 ?_
          refine g_mem (fun u47 eu47 => ?_)
          have hu47 : iv u47 := by rw [eu47]; exact iv_st hu40 (by unfold uk_is51; decide) (by first | decide | lia | grind) (by first | decide | lia | grind) (fun q => by first | decide | lia | grind) (fun q => by first | decide | lia | grind) (fun q => by first | decide | lia | grind)
          have fu47 : fk [62] [] u u47 := by rw [eu47]; exact fk_up fu40 (by decide) (fun q => absurd q (by decide))
          have rau47 : ra u47 := by rw [eu47]; exact ra_at rau40 (by first | decide | lia | grind) (by first | decide | lia | grind)
          have C48 : u47.1 62 = (upd ((upd ((upd ((upd ((upd (u.1 62) (x4 : Int32).toNatClampNeg x7)) (x14 : Int32).toNatClampNeg x17)) (x24 : Int32).toNatClampNeg x28)) (x33 : Int32).toNatClampNeg x37)) (41 : Int32).toNatClampNeg x44) := by rw [eu47, uk_up_self, C41]
          exact g_vret dX7_doIt_155 rfl ⟨rfl, hu47, fu47, rau47⟩
        · refine g_aload_n dX7_doIt_107 rfl ?_
          refine f_X7_13 rfl rfl dX7_doIt_108 ?_
          refine g_bipush (v := 32) dX7_doIt_111 (by decide) ?_
          refine g_iload_n dX7_doIt_113 rfl ?_
          refine g_iadd dX7_doIt_114 ?_
          refine g_topi (fun x49 ex49 => ?_)
          have v50 : vp_in x49 51 := uk_vin 51 rfl (by first | decide | lia | grind) (by first | decide | lia | grind)
          refine g_iald rfl rfl v50 dX7_doIt_115 ?_
          refine g_topi (fun x51 ex51 => ?_)
          have bx51 := uk_cl v50
          have rx51 : 0 ≤ x49 → x49 ≤ 7 → 0 ≤ x51 ∧ x51 ≤ 40 := fun a b => by rw [ex51]; exact sg_0 hu31 (by unfold uk_is51; decide) a b
          have rrx51 : 43 ≤ x49 → x49 ≤ 50 → 0 ≤ x51 ∧ x51 ≤ 7 := fun a b => by rw [ex51]; exact sg_43 hu31 (by unfold uk_is51; decide) a b
          have px51 : x51 = ((upd ((upd ((upd (u.1 62) (x4 : Int32).toNatClampNeg x7)) (x14 : Int32).toNatClampNeg x17)) (x24 : Int32).toNatClampNeg x28)) (x49 : Int32).toNatClampNeg := ex51.trans (congrFun C32 _)
          refine g_iconst (v := 3) dX7_doIt_116 (by decide) ?_
          refine g_icmp_ne (tgt := 134) dX7_doIt_117 (by decide) (fun c52 => ?_) (fun c52 => ?_)
          · refine g_aload_n dX7_doIt_134 rfl ?_
            refine f_X7_13 rfl rfl dX7_doIt_135 ?_
            refine g_bipush (v := 8) dX7_doIt_138 (by decide) ?_
            refine g_iload_n dX7_doIt_140 rfl ?_
            refine g_iadd dX7_doIt_141 ?_
            refine g_topi (fun x53 ex53 => ?_)
            have v54 : vp_in x53 51 := uk_vin 51 rfl (by first | decide | lia | grind) (by first | decide | lia | grind)
            refine g_iald rfl rfl v54 dX7_doIt_142 ?_
            refine g_topi (fun x55 ex55 => ?_)
            have bx55 := uk_cl v54
            have rx55 : 0 ≤ x53 → x53 ≤ 7 → 0 ≤ x55 ∧ x55 ≤ 40 := fun a b => by rw [ex55]; exact sg_0 hu31 (by unfold uk_is51; decide) a b
            have rrx55 : 43 ≤ x53 → x53 ≤ 50 → 0 ≤ x55 ∧ x55 ≤ 7 := fun a b => by rw [ex55]; exact sg_43 hu31 (by unfold uk_is51; decide) a b
            have px55 : x55 = ((upd ((upd ((upd (u.1 62) (x4 : Int32).toNatClampNeg x7)) (x14 : Int32).toNatClampNeg x17)) (x24 : Int32).toNatClampNeg x28)) (x53 : Int32).toNatClampNeg := ex55.trans (congrFun C32 _)
            have v56 : vp_in x33 51 := uk_vin 51 rfl (by first | decide | lia | grind) (by first | decide | lia | grind)
            have b57 := uk_cl v56
            refine g_iast rfl rfl v56 dX7_doIt_143 ?_
            refine g_mem (fun u58 eu58 => ?_)
            have hu58 : iv u58 := by rw [eu58]; exact iv_st hu31 (by unfold uk_is51; decide) (by first | decide | lia | grind) (by first | decide | lia | grind) (fun q => by first | decide | lia | grind) (fun q => by first | decide | lia | grind) (fun q => by first | decide | lia | grind)
            have fu58 : fk [62] [] u u58 := by rw [eu58]; exact fk_up fu31 (by decide) (fun q => absurd q (by decide))
            have rau58 : ra u58 := by rw [eu58]; exact ra_at rau31 (by first | decide | lia | grind) (by first | decide | lia | grind)
            have C59 : u58.1 62 = (upd ((upd ((upd ((upd (u.1 62) (x4 : Int32).toNatClampNeg x7)) (x14 : Int32).toNatClampNeg x17)) (x24 : Int32).toNatClampNeg x28)) (x33 : Int32).toNatClampNeg x55) := by rw [eu58, uk_up_self, C32]
            refine g_aload_n dX7_doIt_144 rfl ?_
            refine f_X7_13 rfl rfl dX7_doIt_145 ?_
            refine g_bipush (v := 41) dX7_doIt_148 (by decide) ?_
            refine g_dup2 dX7_doIt_150 rfl rfl ?_
            have v60 : vp_in 41 51 := uk_vin 51 rfl (by first | decide | lia | grind) (by first | decide | lia | grind)
            refine g_iald rfl rfl v60 dX7_doIt_151 ?_
            refine g_topi (fun x61 ex61 => ?_)
            have bx61 := uk_cl v60
            have px61 : x61 = ((upd ((upd ((upd ((upd (u.1 62) (x4 : Int32).toNatClampNeg x7)) (x14 : Int32).toNatClampNeg x17)) (x24 : Int32).toNatClampNeg x28)) (x33 : Int32).toNatClampNeg x55)) (41 : Int32).toNatClampNeg := ex61.trans (congrFun C59 _)
            refine g_iconst (v := 1) dX7_doIt_152 (by decide) ?_
            refine g_iadd dX7_doIt_153 ?_
            refine g_topi (fun x62 ex62 => ?_)
            have v63 : vp_in 41 51 := uk_vin 51 rfl (by first | decide | lia | grind) (by first | decide | lia | grind)
            have b64 := uk_cl v63
            refine g_iast rfl rfl v63 dX7_doIt_154 ?_
            refine g_mem (fun u65 eu65 => ?_)
            have hu65 : iv u65 := by rw [eu65]; exact iv_st hu58 (by unfold uk_is51; decide) (by first | decide | lia | grind) (by first | decide | lia | grind) (fun q => by first | decide | lia | grind) (fun q => by first | decide | lia | grind) (fun q => by first | decide | lia | grind)
            have fu65 : fk [62] [] u u65 := by rw [eu65]; exact fk_up fu58 (by decide) (fun q => absurd q (by decide))
            have rau65 : ra u65 := by rw [eu65]; exact ra_at rau58 (by first | decide | lia | grind) (by first | decide | lia | grind)
            have C66 : u65.1 62 = (upd ((upd ((upd ((upd ((upd (u.1 62) (x4 : Int32).toNatClampNeg x7)) (x14 : Int32).toNatClampNeg x17)) (x24 : Int32).toNatClampNeg x28)) (x33 : Int32).toNatClampNeg x55)) (41 : Int32).toNatClampNeg x62) := by rw [eu65, uk_up_self, C59]
            exact g_vret dX7_doIt_155 rfl ⟨rfl, hu65, fu65, rau65⟩
          · refine g_iconst (v := 1) dX7_doIt_120 (by decide) ?_
            refine g_aload_n dX7_doIt_121 rfl ?_
            refine f_X7_13 rfl rfl dX7_doIt_122 ?_
            refine g_bipush (v := 8) dX7_doIt_125 (by decide) ?_
            refine g_iload_n dX7_doIt_127 rfl ?_
            refine g_iadd dX7_doIt_128 ?_
            refine g_topi (fun x67 ex67 => ?_)
            have v68 : vp_in x67 51 := uk_vin 51 rfl (by first | decide | lia | grind) (by first | decide | lia | grind)
            refine g_iald rfl rfl v68 dX7_doIt_129 ?_
            refine g_topi (fun x69 ex69 => ?_)
            have bx69 := uk_cl v68
            have rx69 : 0 ≤ x67 → x67 ≤ 7 → 0 ≤ x69 ∧ x69 ≤ 40 := fun a b => by rw [ex69]; exact sg_0 hu31 (by unfold uk_is51; decide) a b
            have rrx69 : 43 ≤ x67 → x67 ≤ 50 → 0 ≤ x69 ∧ x69 ≤ 7 := fun a b => by rw [ex69]; exact sg_43 hu31 (by unfold uk_is51; decide) a b
            have px69 : x69 = ((upd ((upd ((upd (u.1 62) (x4 : Int32).toNatClampNeg x7)) (x14 : Int32).toNatClampNeg x17)) (x24 : Int32).toNatClampNeg x28)) (x67 : Int32).toNatClampNeg := ex69.trans (congrFun C32 _)
            refine g_isub dX7_doIt_130 ?_
            refine g_topi (fun x70 ex70 => ?_)
            refine g_goto (tgt := 143) dX7_doIt_131 (by decide) ?_
            have v71 : vp_in x33 51 := uk_vin 51 rfl (by first | decide | lia | grind) (by first | decide | lia | grind)
            have b72 := uk_cl v71
            refine g_iast rfl rfl v71 dX7_doIt_143 ?_
            refine g_mem (fun u73 eu73 => ?_)
            have hu73 : iv u73 := by rw [eu73]; exact iv_st hu31 (by unfold uk_is51; decide) (by first | decide | lia | grind) (by first | decide | lia | grind) (fun q => by first | decide | lia | grind) (fun q => by first | decide | lia | grind) (fun q => by first | decide | lia | grind)
            have fu73 : fk [62] [] u u73 := by rw [eu73]; exact fk_up fu31 (by decide) (fun q => absurd q (by decide))
            have rau73 : ra u73 := by rw [eu73]; exact ra_at rau31 (by first | decide | lia | grind) (by first | decide | lia | grind)
            have C74 : u73.1 62 = (upd ((upd ((upd ((upd (u.1 62) (x4 : Int32).toNatClampNeg x7)) (x14 : Int32).toNatClampNeg x17)) (x24 : Int32).toNatClampNeg x28)) (x33 : Int32).toNatClampNeg x70) := by rw [eu73, uk_up_self, C32]
            refine g_aload_n dX7_doIt_144 rfl ?_
            refine f_X7_13 rfl rfl dX7_doIt_145 ?_
            refine g_bipush (v := 41) dX7_doIt_148 (by decide) ?_
            refine g_dup2 dX7_doIt_150 rfl rfl ?_
            have v75 : vp_in 41 51 := uk_vin 51 rfl (by first | decide | lia | grind) (by first | decide | lia | grind)
            refine g_iald rfl rfl v75 dX7_doIt_151 ?_
            refine g_topi (fun x76 ex76 => ?_)
            have bx76 := uk_cl v75
            have px76 : x76 = ((upd ((upd ((upd ((upd (u.1 62) (x4 : Int32).toNatClampNeg x7)) (x14 : Int32).toNatClampNeg x17)) (x24 : Int32).toNatClampNeg x28)) (x33 : Int32).toNatClampNeg x70)) (41 : Int32).toNatClampNeg := ex76.trans (congrFun C74 _)
            refine g_iconst (v := 1) dX7_doIt_152 (by decide) ?_
            refine g_iadd dX7_doIt_153 ?_
            refine g_topi (fun x77 ex77 => ?_)
            have v78 : vp_in 41 51 := uk_vin 51 rfl (by first | decide | lia | grind) (by first | decide | lia | grind)
            have b79 := uk_cl v78
            refine g_iast rfl rfl v78 dX7_doIt_154 ?_
            refine g_mem (fun u80 eu80 => ?_)
            have hu80 : iv u80 := by rw [eu80]; exact iv_st hu73 (by unfold uk_is51; decide) (by first | decide | lia | grind) (by first | decide | lia | grind) (fun q => by first | decide | lia | grind) (fun q => by first | decide | lia | grind) (fun q => by first | decide | lia | grind)
            have fu80 : fk [62] [] u u80 := by rw [eu80]; exact fk_up fu73 (by decide) (fun q => absurd q (by decide))
            have rau80 : ra u80 := by rw [eu80]; exact ra_at rau73 (by first | decide | lia | grind) (by first | decide | lia | grind)
            have C81 : u80.1 62 = (upd ((upd ((upd ((upd ((upd (u.1 62) (x4 : Int32).toNatClampNeg x7)) (x14 : Int32).toNatClampNeg x17)) (x24 : Int32).toNatClampNeg x28)) (x33 : Int32).toNatClampNeg x70)) (41 : Int32).toNatClampNeg x77) := by rw [eu80, uk_up_self, C74]
            exact g_vret dX7_doIt_155 rfl ⟨rfl, hu80, fu80, rau80⟩
    · refine g_aload_n dX7_doIt_23 rfl ?_
      refine g_iload_n dX7_doIt_24 rfl ?_
      refine cl_X7_153 (c := 60) (As := [.int x1]) rfl (c_X7_givesSecond (G := G) hs hu  x1 (by first | trivial | decide | lia | grind) (by first | trivial | decide | lia | grind) (d)) rfl (by omega) rfl rfl (Nat.le_of_ble_eq_true rfl) dX7_doIt_25 (fun r82 u83 q84 => ?_)
      obtain ⟨⟨x85, rfl, tx85, nx85, zx85⟩, mq84⟩ := q84
      rw [mq84]
      refine g_if_eq (tgt := 35) dX7_doIt_28 (by decide) (fun c86 => ?_) (fun c86 => ?_)
      · have zc86 := zx85 c86
        refine g_iconst (v := 0) dX7_doIt_35 (by decide) ?_
        refine g_istore dX7_doIt_36 (by decide) ?_
        refine g_aload_n dX7_doIt_38 rfl ?_
        refine f_X7_13 rfl rfl dX7_doIt_39 ?_
        refine g_iconst (v := 0) dX7_doIt_42 (by decide) ?_
        refine g_iload_n dX7_doIt_43 rfl ?_
        refine g_iadd dX7_doIt_44 ?_
        refine g_topi (fun x87 ex87 => ?_)
        refine g_dup2 dX7_doIt_45 rfl rfl ?_
        have v88 : vp_in x87 51 := uk_vin 51 rfl (by first | decide | lia | grind) (by first | decide | lia | grind)
        refine g_iald rfl rfl v88 dX7_doIt_46 ?_
        refine g_topi (fun x89 ex89 => ?_)
        have bx89 := uk_cl v88
        have rx89 : 0 ≤ x87 → x87 ≤ 7 → 0 ≤ x89 ∧ x89 ≤ 40 := fun a b => by rw [ex89]; exact sg_0 hu (by unfold uk_is51; decide) a b
        have rrx89 : 43 ≤ x87 → x87 ≤ 50 → 0 ≤ x89 ∧ x89 ≤ 7 := fun a b => by rw [ex89]; exact sg_43 hu (by unfold uk_is51; decide) a b
        have px89 : x89 = (u.1 62) (x87 : Int32).toNatClampNeg := ex89.trans (congrFun C62 _)
        refine g_iload_n dX7_doIt_47 rfl ?_
        refine g_isub dX7_doIt_48 ?_
        refine g_topi (fun x90 ex90 => ?_)
        have v91 : vp_in x87 51 := uk_vin 51 rfl (by first | decide | lia | grind) (by first | decide | lia | grind)
        have b92 := uk_cl v91
        refine g_iast rfl rfl v91 dX7_doIt_49 ?_
        refine g_mem (fun u93 eu93 => ?_)
        have hu93 : iv u93 := by rw [eu93]; exact iv_st hu (by unfold uk_is51; decide) (by first | decide | lia | grind) (by first | decide | lia | grind) (fun q => by first | decide | lia | grind) (fun q => by first | decide | lia | grind) (fun q => by first | decide | lia | grind)
        have fu93 : fk [62] [] u u93 := by rw [eu93]; exact fk_up f0 (by decide) (fun q => absurd q (by decide))
        have rau93 : ra u93 := by rw [eu93]; exact ra_at hra (by first | decide | lia | grind) (by first | decide | lia | grind)
        have C94 : u93.1 62 = (upd (u.1 62) (x87 : Int32).toNatClampNeg x90) := by rw [eu93, uk_up_self, C62]
        refine g_aload_n dX7_doIt_50 rfl ?_
        refine f_X7_13 rfl rfl dX7_doIt_51 ?_
        refine g_iconst (v := 0) dX7_doIt_54 (by decide) ?_
        refine g_aload_n dX7_doIt_55 rfl ?_
        refine f_X7_20 rfl rfl dX7_doIt_56 ?_
        refine g_iload_n dX7_doIt_59 rfl ?_
        have v95 : vp_in x1 8 := uk_vin 8 rfl (by first | decide | lia | grind) (by first | decide | lia | grind)
        refine g_iald rfl rfl v95 dX7_doIt_60 ?_
        refine g_topi (fun x96 ex96 => ?_)
        have bx96 := uk_cl v95
        have rx96 : (-4) ≤ x96 ∧ x96 ≤ 7 := by rw [ex96]; exact iv_at hu93 _ _ (uk_pick1 _ (by omega))
        refine g_iadd dX7_doIt_61 ?_
        refine g_topi (fun x97 ex97 => ?_)
        refine g_dup2 dX7_doIt_62 rfl rfl ?_
        have v98 : vp_in x97 51 := uk_vin 51 rfl (by first | decide | lia | grind) (by first | decide | lia | grind)
        refine g_iald rfl rfl v98 dX7_doIt_63 ?_
        refine g_topi (fun x99 ex99 => ?_)
        have bx99 := uk_cl v98
        have rx99 : 0 ≤ x97 → x97 ≤ 7 → 0 ≤ x99 ∧ x99 ≤ 40 := fun a b => by rw [ex99]; exact sg_0 hu93 (by unfold uk_is51; decide) a b
        have rrx99 : 43 ≤ x97 → x97 ≤ 50 → 0 ≤ x99 ∧ x99 ≤ 7 := fun a b => by rw [ex99]; exact sg_43 hu93 (by unfold uk_is51; decide) a b
        have px99 : x99 = ((upd (u.1 62) (x87 : Int32).toNatClampNeg x90)) (x97 : Int32).toNatClampNeg := ex99.trans (congrFun C94 _)
        have lx99 : x99 = u.1 62 (x97 : Int32).toNatClampNeg := by rw [px99, upd_ne]; all_goals grind
        refine g_iload_n dX7_doIt_64 rfl ?_
        refine g_iadd dX7_doIt_65 ?_
        refine g_topi (fun x100 ex100 => ?_)
        have v101 : vp_in x97 51 := uk_vin 51 rfl (by first | decide | lia | grind) (by first | decide | lia | grind)
        have b102 := uk_cl v101
        refine g_iast rfl rfl v101 dX7_doIt_66 ?_
        refine g_mem (fun u103 eu103 => ?_)
        have hu103 : iv u103 := by rw [eu103]; exact iv_st hu93 (by unfold uk_is51; decide) (by first | decide | lia | grind) (by first | decide | lia | grind) (fun q => by first | decide | lia | grind) (fun q => by first | decide | lia | grind) (fun q => by first | decide | lia | grind)
        have fu103 : fk [62] [] u u103 := by rw [eu103]; exact fk_up fu93 (by decide) (fun q => absurd q (by decide))
        have rau103 : ra u103 := by rw [eu103]; exact ra_at rau93 (by first | decide | lia | grind) (by first | decide | lia | grind)
        have C104 : u103.1 62 = (upd ((upd (u.1 62) (x87 : Int32).toNatClampNeg x90)) (x97 : Int32).toNatClampNeg x100) := by rw [eu103, uk_up_self, C94]
        refine g_aload_n dX7_doIt_67 rfl ?_
        refine f_X7_13 rfl rfl dX7_doIt_68 ?_
        refine g_iconst (v := 0) dX7_doIt_71 (by decide) ?_
        refine g_aload_n dX7_doIt_72 rfl ?_
        refine f_X7_23 rfl rfl dX7_doIt_73 ?_
        refine g_iload_n dX7_doIt_76 rfl ?_
        have v105 : vp_in x1 8 := uk_vin 8 rfl (by first | decide | lia | grind) (by first | decide | lia | grind)
        refine g_iald rfl rfl v105 dX7_doIt_77 ?_
        refine g_topi (fun x106 ex106 => ?_)
        have bx106 := uk_cl v105
        have rx106 : (-4) ≤ x106 ∧ x106 ≤ 7 := by rw [ex106]; exact iv_at hu103 _ _ (uk_pick1 _ (by omega))
        refine g_iadd dX7_doIt_78 ?_
        refine g_topi (fun x107 ex107 => ?_)
        refine g_dup2 dX7_doIt_79 rfl rfl ?_
        have v108 : vp_in x107 51 := uk_vin 51 rfl (by first | decide | lia | grind) (by first | decide | lia | grind)
        refine g_iald rfl rfl v108 dX7_doIt_80 ?_
        refine g_topi (fun x109 ex109 => ?_)
        have bx109 := uk_cl v108
        have rx109 : 0 ≤ x107 → x107 ≤ 7 → 0 ≤ x109 ∧ x109 ≤ 40 := fun a b => by rw [ex109]; exact sg_0 hu103 (by unfold uk_is51; decide) a b
        have rrx109 : 43 ≤ x107 → x107 ≤ 50 → 0 ≤ x109 ∧ x109 ≤ 7 := fun a b => by rw [ex109]; exact sg_43 hu103 (by unfold uk_is51; decide) a b
        have px109 : x109 = ((upd ((upd (u.1 62) (x87 : Int32).toNatClampNeg x90)) (x97 : Int32).toNatClampNeg x100)) (x107 : Int32).toNatClampNeg := ex109.trans (congrFun C104 _)
        have lx109 : (x107 = x97 → x109 = x100) ∧ (¬ x107 = x97 → x109 = u.1 62 (x107 : Int32).toNatClampNeg) := ⟨fun q => by rw [px109, upd_at q], fun q => by rw [px109, upd_ne, upd_ne]; all_goals grind⟩
        refine g_iload dX7_doIt_81 rfl ?_
        refine g_if_eq (tgt := 90) dX7_doIt_83 (by decide) (fun c110 => ?_) (fun c110 => ?_)
        · refine g_iconst (v := 0) dX7_doIt_90 (by decide) ?_
          refine g_iadd dX7_doIt_91 ?_
          refine g_topi (fun x111 ex111 => ?_)
          have v112 : vp_in x107 51 := uk_vin 51 rfl (by first | decide | lia | grind) (by first | decide | lia | grind)
          have b113 := uk_cl v112
          refine g_iast rfl rfl v112 dX7_doIt_92 ?_
          refine g_mem (fun u114 eu114 => ?_)
          have hu114 : iv u114 := by rw [eu114]; exact iv_st hu103 (by unfold uk_is51; decide) (by first | decide | lia | grind) (by first | decide | lia | grind) (fun q => by first | decide | lia | grind) (fun q => by first | decide | lia | grind) (fun q => by first | decide | lia | grind)
          have fu114 : fk [62] [] u u114 := by rw [eu114]; exact fk_up fu103 (by decide) (fun q => absurd q (by decide))
          have rau114 : ra u114 := by rw [eu114]; exact ra_at rau103 (by first | decide | lia | grind) (by first | decide | lia | grind)
          have C115 : u114.1 62 = (upd ((upd ((upd (u.1 62) (x87 : Int32).toNatClampNeg x90)) (x97 : Int32).toNatClampNeg x100)) (x107 : Int32).toNatClampNeg x111) := by rw [eu114, uk_up_self, C104]
          refine g_aload_n dX7_doIt_93 rfl ?_
          refine f_X7_13 rfl rfl dX7_doIt_94 ?_
          refine g_bipush (v := 8) dX7_doIt_97 (by decide) ?_
          refine g_iload_n dX7_doIt_99 rfl ?_
          refine g_iadd dX7_doIt_100 ?_
          refine g_topi (fun x116 ex116 => ?_)
          refine g_iload_n dX7_doIt_101 rfl ?_
          refine g_bipush (v := 10) dX7_doIt_102 (by decide) ?_
          refine g_icmp_lt (tgt := 134) dX7_doIt_104 (by decide) (fun c117 => ?_) (fun c117 => ?_)
          · refine g_aload_n dX7_doIt_134 rfl ?_
            refine f_X7_13 rfl rfl dX7_doIt_135 ?_
            refine g_bipush (v := 8) dX7_doIt_138 (by decide) ?_
            refine g_iload_n dX7_doIt_140 rfl ?_
            refine g_iadd dX7_doIt_141 ?_
            refine g_topi (fun x118 ex118 => ?_)
            have v119 : vp_in x118 51 := uk_vin 51 rfl (by first | decide | lia | grind) (by first | decide | lia | grind)
            refine g_iald rfl rfl v119 dX7_doIt_142 ?_
            refine g_topi (fun x120 ex120 => ?_)
            have bx120 := uk_cl v119
            have rx120 : 0 ≤ x118 → x118 ≤ 7 → 0 ≤ x120 ∧ x120 ≤ 40 := fun a b => by rw [ex120]; exact sg_0 hu114 (by unfold uk_is51; decide) a b
            have rrx120 : 43 ≤ x118 → x118 ≤ 50 → 0 ≤ x120 ∧ x120 ≤ 7 := fun a b => by rw [ex120]; exact sg_43 hu114 (by unfold uk_is51; decide) a b
            have px120 : x120 = ((upd ((upd ((upd (u.1 62) (x87 : Int32).toNatClampNeg x90)) (x97 : Int32).toNatClampNeg x100)) (x107 : Int32).toNatClampNeg x111)) (x118 : Int32).toNatClampNeg := ex120.trans (congrFun C115 _)
            have v121 : vp_in x116 51 := uk_vin 51 rfl (by first | decide | lia | grind) (by first | decide | lia | grind)
            have b122 := uk_cl v121
            refine g_iast rfl rfl v121 dX7_doIt_143 ?_
            refine g_mem (fun u123 eu123 => ?_)
            have hu123 : iv u123 := by rw [eu123]; exact iv_st hu114 (by unfold uk_is51; decide) (by first | decide | lia | grind) (by first | decide | lia | grind) (fun q => by first | decide | lia | grind) (fun q => by first | decide | lia | grind) (fun q => by first | decide | lia | grind)
            have fu123 : fk [62] [] u u123 := by rw [eu123]; exact fk_up fu114 (by decide) (fun q => absurd q (by decide))
            have rau123 : ra u123 := by rw [eu123]; exact ra_at rau114 (by first | decide | lia | grind) (by first | decide | lia | grind)
            have C124 : u123.1 62 = (upd ((upd ((upd ((upd (u.1 62) (x87 : Int32).toNatClampNeg x90)) (x97 : Int32).toNatClampNeg x100)) (x107 : Int32).toNatClampNeg x111)) (x116 : Int32).toNatClampNeg x120) := by rw [eu123, uk_up_self, C115]
            refine g_aload_n dX7_doIt_144 rfl ?_
            refine f_X7_13 rfl rfl dX7_doIt_145 ?_
            refine g_bipush (v := 41) dX7_doIt_148 (by decide) ?_
            refine g_dup2 dX7_doIt_150 rfl rfl ?_
            have v125 : vp_in 41 51 := uk_vin 51 rfl (by first | decide | lia | grind) (by first | decide | lia | grind)
            refine g_iald rfl rfl v125 dX7_doIt_151 ?_
            refine g_topi (fun x126 ex126 => ?_)
            have bx126 := uk_cl v125
            have px126 : x126 = ((upd ((upd ((upd ((upd (u.1 62) (x87 : Int32).toNatClampNeg x90)) (x97 : Int32).toNatClampNeg x100)) (x107 : Int32).toNatClampNeg x111)) (x116 : Int32).toNatClampNeg x120)) (41 : Int32).toNatClampNeg := ex126.trans (congrFun C124 _)
            refine g_iconst (v := 1) dX7_doIt_152 (by decide) ?_
            refine g_iadd dX7_doIt_153 ?_
            refine g_topi (fun x127 ex127 => ?_)
            have v128 : vp_in 41 51 := uk_vin 51 rfl (by first | decide | lia | grind) (by first | decide | lia | grind)
            have b129 := uk_cl v128
            refine g_iast rfl rfl v128 dX7_doIt_154 ?_
            refine g_mem (fun u130 eu130 => ?_)
            have hu130 : iv u130 := by rw [eu130]; exact iv_st hu123 (by unfold uk_is51; decide) (by first | decide | lia | grind) (by first | decide | lia | grind) (fun q => by first | decide | lia | grind) (fun q => by first | decide | lia | grind) (fun q => by first | decide | lia | grind)
            have fu130 : fk [62] [] u u130 := by rw [eu130]; exact fk_up fu123 (by decide) (fun q => absurd q (by decide))
            have rau130 : ra u130 := by rw [eu130]; exact ra_at rau123 (by first | decide | lia | grind) (by first | decide | lia | grind)
            have C131 : u130.1 62 = (upd ((upd ((upd ((upd ((upd (u.1 62) (x87 : Int32).toNatClampNeg x90)) (x97 : Int32).toNatClampNeg x100)) (x107 : Int32).toNatClampNeg x111)) (x116 : Int32).toNatClampNeg x120)) (41 : Int32).toNatClampNeg x127) := by rw [eu130, uk_up_self, C124]
            exact g_vret dX7_doIt_155 rfl ⟨rfl, hu130, fu130, rau130⟩
          · refine g_aload_n dX7_doIt_107 rfl ?_
            refine f_X7_13 rfl rfl dX7_doIt_108 ?_
            refine g_bipush (v := 32) dX7_doIt_111 (by decide) ?_
            refine g_iload_n dX7_doIt_113 rfl ?_
            refine g_iadd dX7_doIt_114 ?_
            refine g_topi (fun x132 ex132 => ?_)
            have v133 : vp_in x132 51 := uk_vin 51 rfl (by first | decide | lia | grind) (by first | decide | lia | grind)
            refine g_iald rfl rfl v133 dX7_doIt_115 ?_
            refine g_topi (fun x134 ex134 => ?_)
            have bx134 := uk_cl v133
            have rx134 : 0 ≤ x132 → x132 ≤ 7 → 0 ≤ x134 ∧ x134 ≤ 40 := fun a b => by rw [ex134]; exact sg_0 hu114 (by unfold uk_is51; decide) a b
            have rrx134 : 43 ≤ x132 → x132 ≤ 50 → 0 ≤ x134 ∧ x134 ≤ 7 := fun a b => by rw [ex134]; exact sg_43 hu114 (by unfold uk_is51; decide) a b
            have px134 : x134 = ((upd ((upd ((upd (u.1 62) (x87 : Int32).toNatClampNeg x90)) (x97 : Int32).toNatClampNeg x100)) (x107 : Int32).toNatClampNeg x111)) (x132 : Int32).toNatClampNeg := ex134.trans (congrFun C115 _)
            refine g_iconst (v := 3) dX7_doIt_116 (by decide) ?_
            refine g_icmp_ne (tgt := 134) dX7_doIt_117 (by decide) (fun c135 => ?_) (fun c135 => ?_)
            · refine g_aload_n dX7_doIt_134 rfl ?_
              refine f_X7_13 rfl rfl dX7_doIt_135 ?_
              refine g_bipush (v := 8) dX7_doIt_138 (by decide) ?_
              refine g_iload_n dX7_doIt_140 rfl ?_
              refine g_iadd dX7_doIt_141 ?_
              refine g_topi (fun x136 ex136 => ?_)
              have v137 : vp_in x136 51 := uk_vin 51 rfl (by first | decide | lia | grind) (by first | decide | lia | grind)
              refine g_iald rfl rfl v137 dX7_doIt_142 ?_
              refine g_topi (fun x138 ex138 => ?_)
              have bx138 := uk_cl v137
              have rx138 : 0 ≤ x136 → x136 ≤ 7 → 0 ≤ x138 ∧ x138 ≤ 40 := fun a b => by rw [ex138]; exact sg_0 hu114 (by unfold uk_is51; decide) a b
              have rrx138 : 43 ≤ x136 → x136 ≤ 50 → 0 ≤ x138 ∧ x138 ≤ 7 := fun a b => by rw [ex138]; exact sg_43 hu114 (by unfold uk_is51; decide) a b
              have px138 : x138 = ((upd ((upd ((upd (u.1 62) (x87 : Int32).toNatClampNeg x90)) (x97 : Int32).toNatClampNeg x100)) (x107 : Int32).toNatClampNeg x111)) (x136 : Int32).toNatClampNeg := ex138.trans (congrFun C115 _)
              have v139 : vp_in x116 51 := uk_vin 51 rfl (by first | decide | lia | grind) (by first | decide | lia | grind)
              have b140 := uk_cl v139
              refine g_iast rfl rfl v139 dX7_doIt_143 ?_
              refine g_mem (fun u141 eu141 => ?_)
              have hu141 : iv u141 := by rw [eu141]; exact iv_st hu114 (by unfold uk_is51; decide) (by first | decide | lia | grind) (by first | decide | lia | grind) (fun q => by first | decide | lia | grind) (fun q => by first | decide | lia | grind) (fun q => by first | decide | lia | grind)
              have fu141 : fk [62] [] u u141 := by rw [eu141]; exact fk_up fu114 (by decide) (fun q => absurd q (by decide))
              have rau141 : ra u141 := by rw [eu141]; exact ra_at rau114 (by first | decide | lia | grind) (by first | decide | lia | grind)
              have C142 : u141.1 62 = (upd ((upd ((upd ((upd (u.1 62) (x87 : Int32).toNatClampNeg x90)) (x97 : Int32).toNatClampNeg x100)) (x107 : Int32).toNatClampNeg x111)) (x116 : Int32).toNatClampNeg x138) := by rw [eu141, uk_up_self, C115]
              refine g_aload_n dX7_doIt_144 rfl ?_
              refine f_X7_13 rfl rfl dX7_doIt_145 ?_
              refine g_bipush (v := 41) dX7_doIt_148 (by decide) ?_
              refine g_dup2 dX7_doIt_150 rfl rfl ?_
              have v143 : vp_in 41 51 := uk_vin 51 rfl (by first | decide | lia | grind) (by first | decide | lia | grind)
              refine g_iald rfl rfl v143 dX7_doIt_151 ?_
              refine g_topi (fun x144 ex144 => ?_)
              have bx144 := uk_cl v143
              have px144 : x144 = ((upd ((upd ((upd ((upd (u.1 62) (x87 : Int32).toNatClampNeg x90)) (x97 : Int32).toNatClampNeg x100)) (x107 : Int32).toNatClampNeg x111)) (x116 : Int32).toNatClampNeg x138)) (41 : Int32).toNatClampNeg := ex144.trans (congrFun C142 _)
              refine g_iconst (v := 1) dX7_doIt_152 (by decide) ?_
              refine g_iadd dX7_doIt_153 ?_
              refine g_topi (fun x145 ex145 => ?_)
              have v146 : vp_in 41 51 := uk_vin 51 rfl (by first | decide | lia | grind) (by first | decide | lia | grind)
              have b147 := uk_cl v146
              refine g_iast rfl rfl v146 dX7_doIt_154 ?_
              refine g_mem (fun u148 eu148 => ?_)
              have hu148 : iv u148 := by rw [eu148]; exact iv_st hu141 (by unfold uk_is51; decide) (by first | decide | lia | grind) (by first | decide | lia | grind) (fun q => by first | decide | lia | grind) (fun q => by first | decide | lia | grind) (fun q => by first | decide | lia | grind)
              have fu148 : fk [62] [] u u148 := by rw [eu148]; exact fk_up fu141 (by decide) (fun q => absurd q (by decide))
              have rau148 : ra u148 := by rw [eu148]; exact ra_at rau141 (by first | decide | lia | grind) (by first | decide | lia | grind)
              have C149 : u148.1 62 = (upd ((upd ((upd ((upd ((upd (u.1 62) (x87 : Int32).toNatClampNeg x90)) (x97 : Int32).toNatClampNeg x100)) (x107 : Int32).toNatClampNeg x111)) (x116 : Int32).toNatClampNeg x138)) (41 : Int32).toNatClampNeg x145) := by rw [eu148, uk_up_self, C142]
              exact g_vret dX7_doIt_155 rfl ⟨rfl, hu148, fu148, rau148⟩
            · refine g_iconst (v := 1) dX7_doIt_120 (by decide) ?_
              refine g_aload_n dX7_doIt_121 rfl ?_
              refine f_X7_13 rfl rfl dX7_doIt_122 ?_
              refine g_bipush (v := 8) dX7_doIt_125 (by decide) ?_
              refine g_iload_n dX7_doIt_127 rfl ?_
              refine g_iadd dX7_doIt_128 ?_
              refine g_topi (fun x150 ex150 => ?_)
              have v151 : vp_in x150 51 := uk_vin 51 rfl (by first | decide | lia | grind) (by first | decide | lia | grind)
              refine g_iald rfl rfl v151 dX7_doIt_129 ?_
              refine g_topi (fun x152 ex152 => ?_)
              have bx152 := uk_cl v151
              have rx152 : 0 ≤ x150 → x150 ≤ 7 → 0 ≤ x152 ∧ x152 ≤ 40 := fun a b => by rw [ex152]; exact sg_0 hu114 (by unfold uk_is51; decide) a b
              have rrx152 : 43 ≤ x150 → x150 ≤ 50 → 0 ≤ x152 ∧ x152 ≤ 7 := fun a b => by rw [ex152]; exact sg_43 hu114 (by unfold uk_is51; decide) a b
              have px152 : x152 = ((upd ((upd ((upd (u.1 62) (x87 : Int32).toNatClampNeg x90)) (x97 : Int32).toNatClampNeg x100)) (x107 : Int32).toNatClampNeg x111)) (x150 : Int32).toNatClampNeg := ex152.trans (congrFun C115 _)
              refine g_isub dX7_doIt_130 ?_
              refine g_topi (fun x153 ex153 => ?_)
              refine g_goto (tgt := 143) dX7_doIt_131 (by decide) ?_
              have v154 : vp_in x116 51 := uk_vin 51 rfl (by first | decide | lia | grind) (by first | decide | lia | grind)
              have b155 := uk_cl v154
              refine g_iast rfl rfl v154 dX7_doIt_143 ?_
              refine g_mem (fun u156 eu156 => ?_)
              have hu156 : iv u156 := by rw [eu156]; exact iv_st hu114 (by unfold uk_is51; decide) (by first | decide | lia | grind) (by first | decide | lia | grind) (fun q => by first | decide | lia | grind) (fun q => by first | decide | lia | grind) (fun q => by first | decide | lia | grind)
              have fu156 : fk [62] [] u u156 := by rw [eu156]; exact fk_up fu114 (by decide) (fun q => absurd q (by decide))
              have rau156 : ra u156 := by rw [eu156]; exact ra_at rau114 (by first | decide | lia | grind) (by first | decide | lia | grind)
              have C157 : u156.1 62 = (upd ((upd ((upd ((upd (u.1 62) (x87 : Int32).toNatClampNeg x90)) (x97 : Int32).toNatClampNeg x100)) (x107 : Int32).toNatClampNeg x111)) (x116 : Int32).toNatClampNeg x153) := by rw [eu156, uk_up_self, C115]
              refine g_aload_n dX7_doIt_144 rfl ?_
              refine f_X7_13 rfl rfl dX7_doIt_145 ?_
              refine g_bipush (v := 41) dX7_doIt_148 (by decide) ?_
              refine g_dup2 dX7_doIt_150 rfl rfl ?_
              have v158 : vp_in 41 51 := uk_vin 51 rfl (by first | decide | lia | grind) (by first | decide | lia | grind)
              refine g_iald rfl rfl v158 dX7_doIt_151 ?_
              refine g_topi (fun x159 ex159 => ?_)
              have bx159 := uk_cl v158
              have px159 : x159 = ((upd ((upd ((upd ((upd (u.1 62) (x87 : Int32).toNatClampNeg x90)) (x97 : Int32).toNatClampNeg x100)) (x107 : Int32).toNatClampNeg x111)) (x116 : Int32).toNatClampNeg x153)) (41 : Int32).toNatClampNeg := ex159.trans (congrFun C157 _)
              refine g_iconst (v := 1) dX7_doIt_152 (by decide) ?_
              refine g_iadd dX7_doIt_153 ?_
              refine g_topi (fun x160 ex160 => ?_)
              have v161 : vp_in 41 51 := uk_vin 51 rfl (by first | decide | lia | grind) (by first | decide | lia | grind)
              have b162 := uk_cl v161
              refine g_iast rfl rfl v161 dX7_doIt_154 ?_
              refine g_mem (fun u163 eu163 => ?_)
              have hu163 : iv u163 := by rw [eu163]; exact iv_st hu156 (by unfold uk_is51; decide) (by first | decide | lia | grind) (by first | decide | lia | grind) (fun q => by first | decide | lia | grind) (fun q => by first | decide | lia | grind) (fun q => by first | decide | lia | grind)
              have fu163 : fk [62] [] u u163 := by rw [eu163]; exact fk_up fu156 (by decide) (fun q => absurd q (by decide))
              have rau163 : ra u163 := by rw [eu163]; exact ra_at rau156 (by first | decide | lia | grind) (by first | decide | lia | grind)
              have C164 : u163.1 62 = (upd ((upd ((upd ((upd ((upd (u.1 62) (x87 : Int32).toNatClampNeg x90)) (x97 : Int32).toNatClampNeg x100)) (x107 : Int32).toNatClampNeg x111)) (x116 : Int32).toNatClampNeg x153)) (41 : Int32).toNatClampNeg x160) := by rw [eu163, uk_up_self, C157]
              exact g_vret dX7_doIt_155 rfl ⟨rfl, hu163, fu163, rau163⟩
        · exact absurd c110 (by decide)
      · have zc86 := nx85 c86
        refine g_iconst (v := 1) dX7_doIt_31 (by decide) ?_
        refine g_goto (tgt := 36) dX7_doIt_32 (by decide) ?_
        refine g_istore dX7_doIt_36 (by decide) ?_
        refine g_aload_n dX7_doIt_38 rfl ?_
        refine f_X7_13 rfl rfl dX7_doIt_39 ?_
        refine g_iconst (v := 0) dX7_doIt_42 (by decide) ?_
        refine g_iload_n dX7_doIt_43 rfl ?_
        refine g_iadd dX7_doIt_44 ?_
        refine g_topi (fun x165 ex165 => ?_)
        refine g_dup2 dX7_doIt_45 rfl rfl ?_
        have v166 : vp_in x165 51 := uk_vin 51 rfl (by first | decide | lia | grind) (by first | decide | lia | grind)
        refine g_iald rfl rfl v166 dX7_doIt_46 ?_
        refine g_topi (fun x167 ex167 => ?_)
        have bx167 := uk_cl v166
        have rx167 : 0 ≤ x165 → x165 ≤ 7 → 0 ≤ x167 ∧ x167 ≤ 40 := fun a b => by rw [ex167]; exact sg_0 hu (by unfold uk_is51; decide) a b
        have rrx167 : 43 ≤ x165 → x165 ≤ 50 → 0 ≤ x167 ∧ x167 ≤ 7 := fun a b => by rw [ex167]; exact sg_43 hu (by unfold uk_is51; decide) a b
        have px167 : x167 = (u.1 62) (x165 : Int32).toNatClampNeg := ex167.trans (congrFun C62 _)
        refine g_iload_n dX7_doIt_47 rfl ?_
        refine g_isub dX7_doIt_48 ?_
        refine g_topi (fun x168 ex168 => ?_)
        have v169 : vp_in x165 51 := uk_vin 51 rfl (by first | decide | lia | grind) (by first | decide | lia | grind)
        have b170 := uk_cl v169
        refine g_iast rfl rfl v169 dX7_doIt_49 ?_
        refine g_mem (fun u171 eu171 => ?_)
        have hu171 : iv u171 := by rw [eu171]; exact iv_st hu (by unfold uk_is51; decide) (by first | decide | lia | grind) (by first | decide | lia | grind) (fun q => by first | decide | lia | grind) (fun q => by first | decide | lia | grind) (fun q => by first | decide | lia | grind)
        have fu171 : fk [62] [] u u171 := by rw [eu171]; exact fk_up f0 (by decide) (fun q => absurd q (by decide))
        have rau171 : ra u171 := by rw [eu171]; exact ra_at hra (by first | decide | lia | grind) (by first | decide | lia | grind)
        have C172 : u171.1 62 = (upd (u.1 62) (x165 : Int32).toNatClampNeg x168) := by rw [eu171, uk_up_self, C62]
        refine g_aload_n dX7_doIt_50 rfl ?_
        refine f_X7_13 rfl rfl dX7_doIt_51 ?_
        refine g_iconst (v := 0) dX7_doIt_54 (by decide) ?_
        refine g_aload_n dX7_doIt_55 rfl ?_
        refine f_X7_20 rfl rfl dX7_doIt_56 ?_
        refine g_iload_n dX7_doIt_59 rfl ?_
        have v173 : vp_in x1 8 := uk_vin 8 rfl (by first | decide | lia | grind) (by first | decide | lia | grind)
        refine g_iald rfl rfl v173 dX7_doIt_60 ?_
        refine g_topi (fun x174 ex174 => ?_)
        have bx174 := uk_cl v173
        have rx174 : (-4) ≤ x174 ∧ x174 ≤ 7 := by rw [ex174]; exact iv_at hu171 _ _ (uk_pick1 _ (by omega))
        refine g_iadd dX7_doIt_61 ?_
        refine g_topi (fun x175 ex175 => ?_)
        refine g_dup2 dX7_doIt_62 rfl rfl ?_
        have v176 : vp_in x175 51 := uk_vin 51 rfl (by first | decide | lia | grind) (by first | decide | lia | grind)
        refine g_iald rfl rfl v176 dX7_doIt_63 ?_
        refine g_topi (fun x177 ex177 => ?_)
        have bx177 := uk_cl v176
        have rx177 : 0 ≤ x175 → x175 ≤ 7 → 0 ≤ x177 ∧ x177 ≤ 40 := fun a b => by rw [ex177]; exact sg_0 hu171 (by unfold uk_is51; decide) a b
        have rrx177 : 43 ≤ x175 → x175 ≤ 50 → 0 ≤ x177 ∧ x177 ≤ 7 := fun a b => by rw [ex177]; exact sg_43 hu171 (by unfold uk_is51; decide) a b
        have px177 : x177 = ((upd (u.1 62) (x165 : Int32).toNatClampNeg x168)) (x175 : Int32).toNatClampNeg := ex177.trans (congrFun C172 _)
        have lx177 : x177 = u.1 62 (x175 : Int32).toNatClampNeg := by rw [px177, upd_ne]; all_goals grind
        refine g_iload_n dX7_doIt_64 rfl ?_
        refine g_iadd dX7_doIt_65 ?_
        refine g_topi (fun x178 ex178 => ?_)
        have v179 : vp_in x175 51 := uk_vin 51 rfl (by first | decide | lia | grind) (by first | decide | lia | grind)
        have b180 := uk_cl v179
        refine g_iast rfl rfl v179 dX7_doIt_66 ?_
        refine g_mem (fun u181 eu181 => ?_)
        have hu181 : iv u181 := by rw [eu181]; exact iv_st hu171 (by unfold uk_is51; decide) (by first | decide | lia | grind) (by first | decide | lia | grind) (fun q => by first | decide | lia | grind) (fun q => by first | decide | lia | grind) (fun q => by first | decide | lia | grind)
        have fu181 : fk [62] [] u u181 := by rw [eu181]; exact fk_up fu171 (by decide) (fun q => absurd q (by decide))
        have rau181 : ra u181 := by rw [eu181]; exact ra_at rau171 (by first | decide | lia | grind) (by first | decide | lia | grind)
        have C182 : u181.1 62 = (upd ((upd (u.1 62) (x165 : Int32).toNatClampNeg x168)) (x175 : Int32).toNatClampNeg x178) := by rw [eu181, uk_up_self, C172]
        refine g_aload_n dX7_doIt_67 rfl ?_
        refine f_X7_13 rfl rfl dX7_doIt_68 ?_
        refine g_iconst (v := 0) dX7_doIt_71 (by decide) ?_
        refine g_aload_n dX7_doIt_72 rfl ?_
        refine f_X7_23 rfl rfl dX7_doIt_73 ?_
        refine g_iload_n dX7_doIt_76 rfl ?_
        have v183 : vp_in x1 8 := uk_vin 8 rfl (by first | decide | lia | grind) (by first | decide | lia | grind)
        refine g_iald rfl rfl v183 dX7_doIt_77 ?_
        refine g_topi (fun x184 ex184 => ?_)
        have bx184 := uk_cl v183
        have rx184 : (-4) ≤ x184 ∧ x184 ≤ 7 := by rw [ex184]; exact iv_at hu181 _ _ (uk_pick1 _ (by omega))
        refine g_iadd dX7_doIt_78 ?_
        refine g_topi (fun x185 ex185 => ?_)
        refine g_dup2 dX7_doIt_79 rfl rfl ?_
        have v186 : vp_in x185 51 := uk_vin 51 rfl (by first | decide | lia | grind) (by first | decide | lia | grind)
        refine g_iald rfl rfl v186 dX7_doIt_80 ?_
        refine g_topi (fun x187 ex187 => ?_)
        have bx187 := uk_cl v186
        have rx187 : 0 ≤ x185 → x185 ≤ 7 → 0 ≤ x187 ∧ x187 ≤ 40 := fun a b => by rw [ex187]; exact sg_0 hu181 (by unfold uk_is51; decide) a b
        have rrx187 : 43 ≤ x185 → x185 ≤ 50 → 0 ≤ x187 ∧ x187 ≤ 7 := fun a b => by rw [ex187]; exact sg_43 hu181 (by unfold uk_is51; decide) a b
        have px187 : x187 = ((upd ((upd (u.1 62) (x165 : Int32).toNatClampNeg x168)) (x175 : Int32).toNatClampNeg x178)) (x185 : Int32).toNatClampNeg := ex187.trans (congrFun C182 _)
        have lx187 : (x185 = x175 → x187 = x178) ∧ (¬ x185 = x175 → x187 = u.1 62 (x185 : Int32).toNatClampNeg) := ⟨fun q => by rw [px187, upd_at q], fun q => by rw [px187, upd_ne, upd_ne]; all_goals grind⟩
        refine g_iload dX7_doIt_81 rfl ?_
        refine g_if_eq (tgt := 90) dX7_doIt_83 (by decide) (fun c188 => ?_) (fun c188 => ?_)
        · exact absurd c188 (by decide)
        · refine g_iload_n dX7_doIt_86 rfl ?_
          refine g_goto (tgt := 91) dX7_doIt_87 (by decide) ?_
          refine g_iadd dX7_doIt_91 ?_
          refine g_topi (fun x189 ex189 => ?_)
          have v190 : vp_in x185 51 := uk_vin 51 rfl (by first | decide | lia | grind) (by first | decide | lia | grind)
          have b191 := uk_cl v190
          refine g_iast rfl rfl v190 dX7_doIt_92 ?_
          refine g_mem (fun u192 eu192 => ?_)
          have hu192 : iv u192 := by rw [eu192]; exact iv_st hu181 (by unfold uk_is51; decide) (by first | decide | lia | grind) (by first | decide | lia | grind) (fun q => by first | decide | lia | grind) (fun q => by first | decide | lia | grind) (fun q => by first | decide | lia | grind)
          have fu192 : fk [62] [] u u192 := by rw [eu192]; exact fk_up fu181 (by decide) (fun q => absurd q (by decide))
          have rau192 : ra u192 := by rw [eu192]; exact ra_at rau181 (by first | decide | lia | grind) (by first | decide | lia | grind)
          have C193 : u192.1 62 = (upd ((upd ((upd (u.1 62) (x165 : Int32).toNatClampNeg x168)) (x175 : Int32).toNatClampNeg x178)) (x185 : Int32).toNatClampNeg x189) := by rw [eu192, uk_up_self, C182]
          refine g_aload_n dX7_doIt_93 rfl ?_
          refine f_X7_13 rfl rfl dX7_doIt_94 ?_
          refine g_bipush (v := 8) dX7_doIt_97 (by decide) ?_
          refine g_iload_n dX7_doIt_99 rfl ?_
          refine g_iadd dX7_doIt_100 ?_
          refine g_topi (fun x194 ex194 => ?_)
          refine g_iload_n dX7_doIt_101 rfl ?_
          refine g_bipush (v := 10) dX7_doIt_102 (by decide) ?_
          refine g_icmp_lt (tgt := 134) dX7_doIt_104 (by decide) (fun c195 => ?_) (fun c195 => ?_)
          · refine g_aload_n dX7_doIt_134 rfl ?_
            refine f_X7_13 rfl rfl dX7_doIt_135 ?_
            refine g_bipush (v := 8) dX7_doIt_138 (by decide) ?_
            refine g_iload_n dX7_doIt_140 rfl ?_
            refine g_iadd dX7_doIt_141 ?_
            refine g_topi (fun x196 ex196 => ?_)
            have v197 : vp_in x196 51 := uk_vin 51 rfl (by first | decide | lia | grind) (by first | decide | lia | grind)
            refine g_iald rfl rfl v197 dX7_doIt_142 ?_
            refine g_topi (fun x198 ex198 => ?_)
            have bx198 := uk_cl v197
            have rx198 : 0 ≤ x196 → x196 ≤ 7 → 0 ≤ x198 ∧ x198 ≤ 40 := fun a b => by rw [ex198]; exact sg_0 hu192 (by unfold uk_is51; decide) a b
            have rrx198 : 43 ≤ x196 → x196 ≤ 50 → 0 ≤ x198 ∧ x198 ≤ 7 := fun a b => by rw [ex198]; exact sg_43 hu192 (by unfold uk_is51; decide) a b
            have px198 : x198 = ((upd ((upd ((upd (u.1 62) (x165 : Int32).toNatClampNeg x168)) (x175 : Int32).toNatClampNeg x178)) (x185 : Int32).toNatClampNeg x189)) (x196 : Int32).toNatClampNeg := ex198.trans (congrFun C193 _)
            have v199 : vp_in x194 51 := uk_vin 51 rfl (by first | decide | lia | grind) (by first | decide | lia | grind)
            have b200 := uk_cl v199
            refine g_iast rfl rfl v199 dX7_doIt_143 ?_
            refine g_mem (fun u201 eu201 => ?_)
            have hu201 : iv u201 := by rw [eu201]; exact iv_st hu192 (by unfold uk_is51; decide) (by first | decide | lia | grind) (by first | decide | lia | grind) (fun q => by first | decide | lia | grind) (fun q => by first | decide | lia | grind) (fun q => by first | decide | lia | grind)
            have fu201 : fk [62] [] u u201 := by rw [eu201]; exact fk_up fu192 (by decide) (fun q => absurd q (by decide))
            have rau201 : ra u201 := by rw [eu201]; exact ra_at rau192 (by first | decide | lia | grind) (by first | decide | lia | grind)
            have C202 : u201.1 62 = (upd ((upd ((upd ((upd (u.1 62) (x165 : Int32).toNatClampNeg x168)) (x175 : Int32).toNatClampNeg x178)) (x185 : Int32).toNatClampNeg x189)) (x194 : Int32).toNatClampNeg x198) := by rw [eu201, uk_up_self, C193]
            refine g_aload_n dX7_doIt_144 rfl ?_
            refine f_X7_13 rfl rfl dX7_doIt_145 ?_
            refine g_bipush (v := 41) dX7_doIt_148 (by decide) ?_
            refine g_dup2 dX7_doIt_150 rfl rfl ?_
            have v203 : vp_in 41 51 := uk_vin 51 rfl (by first | decide | lia | grind) (by first | decide | lia | grind)
            refine g_iald rfl rfl v203 dX7_doIt_151 ?_
            refine g_topi (fun x204 ex204 => ?_)
            have bx204 := uk_cl v203
            have px204 : x204 = ((upd ((upd ((upd ((upd (u.1 62) (x165 : Int32).toNatClampNeg x168)) (x175 : Int32).toNatClampNeg x178)) (x185 : Int32).toNatClampNeg x189)) (x194 : Int32).toNatClampNeg x198)) (41 : Int32).toNatClampNeg := ex204.trans (congrFun C202 _)
            refine g_iconst (v := 1) dX7_doIt_152 (by decide) ?_
            refine g_iadd dX7_doIt_153 ?_
            refine g_topi (fun x205 ex205 => ?_)
            have v206 : vp_in 41 51 := uk_vin 51 rfl (by first | decide | lia | grind) (by first | decide | lia | grind)
            have b207 := uk_cl v206
            refine g_iast rfl rfl v206 dX7_doIt_154 ?_
            refine g_mem (fun u208 eu208 => ?_)
            have hu208 : iv u208 := by rw [eu208]; exact iv_st hu201 (by unfold uk_is51; decide) (by first | decide | lia | grind) (by first | decide | lia | grind) (fun q => by first | decide | lia | grind) (fun q => by first | decide | lia | grind) (fun q => by first | decide | lia | grind)
            have fu208 : fk [62] [] u u208 := by rw [eu208]; exact fk_up fu201 (by decide) (fun q => absurd q (by decide))
            have rau208 : ra u208 := by rw [eu208]; exact ra_at rau201 (by first | decide | lia | grind) (by first | decide | lia | grind)
            have C209 : u208.1 62 = (upd ((upd ((upd ((upd ((upd (u.1 62) (x165 : Int32).toNatClampNeg x168)) (x175 : Int32).toNatClampNeg x178)) (x185 : Int32).toNatClampNeg x189)) (x194 : Int32).toNatClampNeg x198)) (41 : Int32).toNatClampNeg x205) := by rw [eu208, uk_up_self, C202]
            exact g_vret dX7_doIt_155 rfl ⟨rfl, hu208, fu208, rau208⟩
          · refine g_aload_n dX7_doIt_107 rfl ?_
            refine f_X7_13 rfl rfl dX7_doIt_108 ?_
            refine g_bipush (v := 32) dX7_doIt_111 (by decide) ?_
            refine g_iload_n dX7_doIt_113 rfl ?_
            refine g_iadd dX7_doIt_114 ?_
            refine g_topi (fun x210 ex210 => ?_)
            have v211 : vp_in x210 51 := uk_vin 51 rfl (by first | decide | lia | grind) (by first | decide | lia | grind)
            refine g_iald rfl rfl v211 dX7_doIt_115 ?_
            refine g_topi (fun x212 ex212 => ?_)
            have bx212 := uk_cl v211
            have rx212 : 0 ≤ x210 → x210 ≤ 7 → 0 ≤ x212 ∧ x212 ≤ 40 := fun a b => by rw [ex212]; exact sg_0 hu192 (by unfold uk_is51; decide) a b
            have rrx212 : 43 ≤ x210 → x210 ≤ 50 → 0 ≤ x212 ∧ x212 ≤ 7 := fun a b => by rw [ex212]; exact sg_43 hu192 (by unfold uk_is51; decide) a b
            have px212 : x212 = ((upd ((upd ((upd (u.1 62) (x165 : Int32).toNatClampNeg x168)) (x175 : Int32).toNatClampNeg x178)) (x185 : Int32).toNatClampNeg x189)) (x210 : Int32).toNatClampNeg := ex212.trans (congrFun C193 _)
            refine g_iconst (v := 3) dX7_doIt_116 (by decide) ?_
            refine g_icmp_ne (tgt := 134) dX7_doIt_117 (by decide) (fun c213 => ?_) (fun c213 => ?_)
            · refine g_aload_n dX7_doIt_134 rfl ?_
              refine f_X7_13 rfl rfl dX7_doIt_135 ?_
              refine g_bipush (v := 8) dX7_doIt_138 (by decide) ?_
              refine g_iload_n dX7_doIt_140 rfl ?_
              refine g_iadd dX7_doIt_141 ?_
              refine g_topi (fun x214 ex214 => ?_)
              have v215 : vp_in x214 51 := uk_vin 51 rfl (by first | decide | lia | grind) (by first | decide | lia | grind)
              refine g_iald rfl rfl v215 dX7_doIt_142 ?_
              refine g_topi (fun x216 ex216 => ?_)
              have bx216 := uk_cl v215
              have rx216 : 0 ≤ x214 → x214 ≤ 7 → 0 ≤ x216 ∧ x216 ≤ 40 := fun a b => by rw [ex216]; exact sg_0 hu192 (by unfold uk_is51; decide) a b
              have rrx216 : 43 ≤ x214 → x214 ≤ 50 → 0 ≤ x216 ∧ x216 ≤ 7 := fun a b => by rw [ex216]; exact sg_43 hu192 (by unfold uk_is51; decide) a b
              have px216 : x216 = ((upd ((upd ((upd (u.1 62) (x165 : Int32).toNatClampNeg x168)) (x175 : Int32).toNatClampNeg x178)) (x185 : Int32).toNatClampNeg x189)) (x214 : Int32).toNatClampNeg := ex216.trans (congrFun C193 _)
              have v217 : vp_in x194 51 := uk_vin 51 rfl (by first | decide | lia | grind) (by first | decide | lia | grind)
              have b218 := uk_cl v217
              refine g_iast rfl rfl v217 dX7_doIt_143 ?_
              refine g_mem (fun u219 eu219 => ?_)
              have hu219 : iv u219 := by rw [eu219]; exact iv_st hu192 (by unfold uk_is51; decide) (by first | decide | lia | grind) (by first | decide | lia | grind) (fun q => by first | decide | lia | grind) (fun q => by first | decide | lia | grind) (fun q => by first | decide | lia | grind)
              have fu219 : fk [62] [] u u219 := by rw [eu219]; exact fk_up fu192 (by decide) (fun q => absurd q (by decide))
              have rau219 : ra u219 := by rw [eu219]; exact ra_at rau192 (by first | decide | lia | grind) (by first | decide | lia | grind)
              have C220 : u219.1 62 = (upd ((upd ((upd ((upd (u.1 62) (x165 : Int32).toNatClampNeg x168)) (x175 : Int32).toNatClampNeg x178)) (x185 : Int32).toNatClampNeg x189)) (x194 : Int32).toNatClampNeg x216) := by rw [eu219, uk_up_self, C193]
              refine g_aload_n dX7_doIt_144 rfl ?_
              refine f_X7_13 rfl rfl dX7_doIt_145 ?_
              refine g_bipush (v := 41) dX7_doIt_148 (by decide) ?_
              refine g_dup2 dX7_doIt_150 rfl rfl ?_
              have v221 : vp_in 41 51 := uk_vin 51 rfl (by first | decide | lia | grind) (by first | decide | lia | grind)
              refine g_iald rfl rfl v221 dX7_doIt_151 ?_
              refine g_topi (fun x222 ex222 => ?_)
              have bx222 := uk_cl v221
              have px222 : x222 = ((upd ((upd ((upd ((upd (u.1 62) (x165 : Int32).toNatClampNeg x168)) (x175 : Int32).toNatClampNeg x178)) (x185 : Int32).toNatClampNeg x189)) (x194 : Int32).toNatClampNeg x216)) (41 : Int32).toNatClampNeg := ex222.trans (congrFun C220 _)
              refine g_iconst (v := 1) dX7_doIt_152 (by decide) ?_
              refine g_iadd dX7_doIt_153 ?_
              refine g_topi (fun x223 ex223 => ?_)
              have v224 : vp_in 41 51 := uk_vin 51 rfl (by first | decide | lia | grind) (by first | decide | lia | grind)
              have b225 := uk_cl v224
              refine g_iast rfl rfl v224 dX7_doIt_154 ?_
              refine g_mem (fun u226 eu226 => ?_)
              have hu226 : iv u226 := by rw [eu226]; exact iv_st hu219 (by unfold uk_is51; decide) (by first | decide | lia | grind) (by first | decide | lia | grind) (fun q => by first | decide | lia | grind) (fun q => by first | decide | lia | grind) (fun q => by first | decide | lia | grind)
              have fu226 : fk [62] [] u u226 := by rw [eu226]; exact fk_up fu219 (by decide) (fun q => absurd q (by decide))
              have rau226 : ra u226 := by rw [eu226]; exact ra_at rau219 (by first | decide | lia | grind) (by first | decide | lia | grind)
              have C227 : u226.1 62 = (upd ((upd ((upd ((upd ((upd (u.1 62) (x165 : Int32).toNatClampNeg x168)) (x175 : Int32).toNatClampNeg x178)) (x185 : Int32).toNatClampNeg x189)) (x194 : Int32).toNatClampNeg x216)) (41 : Int32).toNatClampNeg x223) := by rw [eu226, uk_up_self, C220]
              exact g_vret dX7_doIt_155 rfl ⟨rfl, hu226, fu226, rau226⟩
            · refine g_iconst (v := 1) dX7_doIt_120 (by decide) ?_
              refine g_aload_n dX7_doIt_121 rfl ?_
              refine f_X7_13 rfl rfl dX7_doIt_122 ?_
              refine g_bipush (v := 8) dX7_doIt_125 (by decide) ?_
              refine g_iload_n dX7_doIt_127 rfl ?_
              refine g_iadd dX7_doIt_128 ?_
              refine g_topi (fun x228 ex228 => ?_)
              have v229 : vp_in x228 51 := uk_vin 51 rfl (by first | decide | lia | grind) (by first | decide | lia | grind)
              refine g_iald rfl rfl v229 dX7_doIt_129 ?_
              refine g_topi (fun x230 ex230 => ?_)
              have bx230 := uk_cl v229
              have rx230 : 0 ≤ x228 → x228 ≤ 7 → 0 ≤ x230 ∧ x230 ≤ 40 := fun a b => by rw [ex230]; exact sg_0 hu192 (by unfold uk_is51; decide) a b
              have rrx230 : 43 ≤ x228 → x228 ≤ 50 → 0 ≤ x230 ∧ x230 ≤ 7 := fun a b => by rw [ex230]; exact sg_43 hu192 (by unfold uk_is51; decide) a b
              have px230 : x230 = ((upd ((upd ((upd (u.1 62) (x165 : Int32).toNatClampNeg x168)) (x175 : Int32).toNatClampNeg x178)) (x185 : Int32).toNatClampNeg x189)) (x228 : Int32).toNatClampNeg := ex230.trans (congrFun C193 _)
              refine g_isub dX7_doIt_130 ?_
              refine g_topi (fun x231 ex231 => ?_)
              refine g_goto (tgt := 143) dX7_doIt_131 (by decide) ?_
              have v232 : vp_in x194 51 := uk_vin 51 rfl (by first | decide | lia | grind) (by first | decide | lia | grind)
              have b233 := uk_cl v232
              refine g_iast rfl rfl v232 dX7_doIt_143 ?_
              refine g_mem (fun u234 eu234 => ?_)
              have hu234 : iv u234 := by rw [eu234]; exact iv_st hu192 (by unfold uk_is51; decide) (by first | decide | lia | grind) (by first | decide | lia | grind) (fun q => by first | decide | lia | grind) (fun q => by first | decide | lia | grind) (fun q => by first | decide | lia | grind)
              have fu234 : fk [62] [] u u234 := by rw [eu234]; exact fk_up fu192 (by decide) (fun q => absurd q (by decide))
              have rau234 : ra u234 := by rw [eu234]; exact ra_at rau192 (by first | decide | lia | grind) (by first | decide | lia | grind)
              have C235 : u234.1 62 = (upd ((upd ((upd ((upd (u.1 62) (x165 : Int32).toNatClampNeg x168)) (x175 : Int32).toNatClampNeg x178)) (x185 : Int32).toNatClampNeg x189)) (x194 : Int32).toNatClampNeg x231) := by rw [eu234, uk_up_self, C193]
              refine g_aload_n dX7_doIt_144 rfl ?_
              refine f_X7_13 rfl rfl dX7_doIt_145 ?_
              refine g_bipush (v := 41) dX7_doIt_148 (by decide) ?_
              refine g_dup2 dX7_doIt_150 rfl rfl ?_
              have v236 : vp_in 41 51 := uk_vin 51 rfl (by first | decide | lia | grind) (by first | decide | lia | grind)
              refine g_iald rfl rfl v236 dX7_doIt_151 ?_
              refine g_topi (fun x237 ex237 => ?_)
              have bx237 := uk_cl v236
              have px237 : x237 = ((upd ((upd ((upd ((upd (u.1 62) (x165 : Int32).toNatClampNeg x168)) (x175 : Int32).toNatClampNeg x178)) (x185 : Int32).toNatClampNeg x189)) (x194 : Int32).toNatClampNeg x231)) (41 : Int32).toNatClampNeg := ex237.trans (congrFun C235 _)
              refine g_iconst (v := 1) dX7_doIt_152 (by decide) ?_
              refine g_iadd dX7_doIt_153 ?_
              refine g_topi (fun x238 ex238 => ?_)
              have v239 : vp_in 41 51 := uk_vin 51 rfl (by first | decide | lia | grind) (by first | decide | lia | grind)
              have b240 := uk_cl v239
              refine g_iast rfl rfl v239 dX7_doIt_154 ?_
              refine g_mem (fun u241 eu241 => ?_)
              have hu241 : iv u241 := by rw [eu241]; exact iv_st hu234 (by unfold uk_is51; decide) (by first | decide | lia | grind) (by first | decide | lia | grind) (fun q => by first | decide | lia | grind) (fun q => by first | decide | lia | grind) (fun q => by first | decide | lia | grind)
              have fu241 : fk [62] [] u u241 := by rw [eu241]; exact fk_up fu234 (by decide) (fun q => absurd q (by decide))
              have rau241 : ra u241 := by rw [eu241]; exact ra_at rau234 (by first | decide | lia | grind) (by first | decide | lia | grind)
              have C242 : u241.1 62 = (upd ((upd ((upd ((upd ((upd (u.1 62) (x165 : Int32).toNatClampNeg x168)) (x175 : Int32).toNatClampNeg x178)) (x185 : Int32).toNatClampNeg x189)) (x194 : Int32).toNatClampNeg x231)) (41 : Int32).toNatClampNeg x238) := by rw [eu241, uk_up_self, C235]
              exact g_vret dX7_doIt_155 rfl ⟨rfl, hu241, fu241, rau241⟩
  · refine g_iconst (v := (-1)) dX7_doIt_11 (by decide) ?_
    refine g_goto (tgt := 16) dX7_doIt_12 (by decide) ?_
    refine g_istore_n dX7_doIt_16 (by decide) ?_
    refine g_iload_n dX7_doIt_17 rfl ?_
    refine g_bipush (v := 10) dX7_doIt_18 (by decide) ?_
    refine g_icmp_lt (tgt := 31) dX7_doIt_20 (by decide) (fun c243 => ?_) (fun c243 => ?_)
    · refine g_iconst (v := 1) dX7_doIt_31 (by decide) ?_
      refine g_goto (tgt := 36) dX7_doIt_32 (by decide) ?_
      refine g_istore dX7_doIt_36 (by decide) ?_
      refine g_aload_n dX7_doIt_38 rfl ?_
      refine f_X7_13 rfl rfl dX7_doIt_39 ?_
      refine g_iconst (v := 0) dX7_doIt_42 (by decide) ?_
      refine g_iload_n dX7_doIt_43 rfl ?_
      refine g_iadd dX7_doIt_44 ?_
      refine g_topi (fun x244 ex244 => ?_)
      refine g_dup2 dX7_doIt_45 rfl rfl ?_
      have v245 : vp_in x244 51 := uk_vin 51 rfl (by first | decide | lia | grind) (by first | decide | lia | grind)
      refine g_iald rfl rfl v245 dX7_doIt_46 ?_
      refine g_topi (fun x246 ex246 => ?_)
      have bx246 := uk_cl v245
      have rx246 : 0 ≤ x244 → x244 ≤ 7 → 0 ≤ x246 ∧ x246 ≤ 40 := fun a b => by rw [ex246]; exact sg_0 hu (by unfold uk_is51; decide) a b
      have rrx246 : 43 ≤ x244 → x244 ≤ 50 → 0 ≤ x246 ∧ x246 ≤ 7 := fun a b => by rw [ex246]; exact sg_43 hu (by unfold uk_is51; decide) a b
      have px246 : x246 = (u.1 62) (x244 : Int32).toNatClampNeg := ex246.trans (congrFun C62 _)
      refine g_iload_n dX7_doIt_47 rfl ?_
      refine g_isub dX7_doIt_48 ?_
      refine g_topi (fun x247 ex247 => ?_)
      have v248 : vp_in x244 51 := uk_vin 51 rfl (by first | decide | lia | grind) (by first | decide | lia | grind)
      have b249 := uk_cl v248
      refine g_iast rfl rfl v248 dX7_doIt_49 ?_
      refine g_mem (fun u250 eu250 => ?_)
      have hu250 : iv u250 := by rw [eu250]; exact iv_st hu (by unfold uk_is51; decide) (by first | decide | lia | grind) (by first | decide | lia | grind) (fun q => by first | decide | lia | grind) (fun q => by first | decide | lia | grind) (fun q => by first | decide | lia | grind)
      have fu250 : fk [62] [] u u250 := by rw [eu250]; exact fk_up f0 (by decide) (fun q => absurd q (by decide))
      have rau250 : ra u250 := by rw [eu250]; exact ra_at hra (by first | decide | lia | grind) (by first | decide | lia | grind)
      have C251 : u250.1 62 = (upd (u.1 62) (x244 : Int32).toNatClampNeg x247) := by rw [eu250, uk_up_self, C62]
      refine g_aload_n dX7_doIt_50 rfl ?_
      refine f_X7_13 rfl rfl dX7_doIt_51 ?_
      refine g_iconst (v := 0) dX7_doIt_54 (by decide) ?_
      refine g_aload_n dX7_doIt_55 rfl ?_
      refine f_X7_20 rfl rfl dX7_doIt_56 ?_
      refine g_iload_n dX7_doIt_59 rfl ?_
      have v252 : vp_in x1 8 := uk_vin 8 rfl (by first | decide | lia | grind) (by first | decide | lia | grind)
      refine g_iald rfl rfl v252 dX7_doIt_60 ?_
      refine g_topi (fun x253 ex253 => ?_)
      have bx253 := uk_cl v252
      have rx253 : (-4) ≤ x253 ∧ x253 ≤ 7 := by rw [ex253]; exact iv_at hu250 _ _ (uk_pick1 _ (by omega))
      refine g_iadd dX7_doIt_61 ?_
      refine g_topi (fun x254 ex254 => ?_)
      refine g_dup2 dX7_doIt_62 rfl rfl ?_
      have v255 : vp_in x254 51 := uk_vin 51 rfl (by first | decide | lia | grind) (by first | decide | lia | grind)
      refine g_iald rfl rfl v255 dX7_doIt_63 ?_
      refine g_topi (fun x256 ex256 => ?_)
      have bx256 := uk_cl v255
      have rx256 : 0 ≤ x254 → x254 ≤ 7 → 0 ≤ x256 ∧ x256 ≤ 40 := fun a b => by rw [ex256]; exact sg_0 hu250 (by unfold uk_is51; decide) a b
      have rrx256 : 43 ≤ x254 → x254 ≤ 50 → 0 ≤ x256 ∧ x256 ≤ 7 := fun a b => by rw [ex256]; exact sg_43 hu250 (by unfold uk_is51; decide) a b
      have px256 : x256 = ((upd (u.1 62) (x244 : Int32).toNatClampNeg x247)) (x254 : Int32).toNatClampNeg := ex256.trans (congrFun C251 _)
      have lx256 : x256 = u.1 62 (x254 : Int32).toNatClampNeg := by rw [px256, upd_ne]; all_goals grind
      refine g_iload_n dX7_doIt_64 rfl ?_
      refine g_iadd dX7_doIt_65 ?_
      refine g_topi (fun x257 ex257 => ?_)
      have v258 : vp_in x254 51 := uk_vin 51 rfl (by first | decide | lia | grind) (by first | decide | lia | grind)
      have b259 := uk_cl v258
      refine g_iast rfl rfl v258 dX7_doIt_66 ?_
      refine g_mem (fun u260 eu260 => ?_)
      have hu260 : iv u260 := by rw [eu260]; exact iv_st hu250 (by unfold uk_is51; decide) (by first | decide | lia | grind) (by first | decide | lia | grind) (fun q => by first | decide | lia | grind) (fun q => by first | decide | lia | grind) (fun q => by first | decide | lia | grind)
      have fu260 : fk [62] [] u u260 := by rw [eu260]; exact fk_up fu250 (by decide) (fun q => absurd q (by decide))
      have rau260 : ra u260 := by rw [eu260]; exact ra_at rau250 (by first | decide | lia | grind) (by first | decide | lia | grind)
      have C261 : u260.1 62 = (upd ((upd (u.1 62) (x244 : Int32).toNatClampNeg x247)) (x254 : Int32).toNatClampNeg x257) := by rw [eu260, uk_up_self, C251]
      refine g_aload_n dX7_doIt_67 rfl ?_
      refine f_X7_13 rfl rfl dX7_doIt_68 ?_
      refine g_iconst (v := 0) dX7_doIt_71 (by decide) ?_
      refine g_aload_n dX7_doIt_72 rfl ?_
      refine f_X7_23 rfl rfl dX7_doIt_73 ?_
      refine g_iload_n dX7_doIt_76 rfl ?_
      have v262 : vp_in x1 8 := uk_vin 8 rfl (by first | decide | lia | grind) (by first | decide | lia | grind)
      refine g_iald rfl rfl v262 dX7_doIt_77 ?_
      refine g_topi (fun x263 ex263 => ?_)
      have bx263 := uk_cl v262
      have rx263 : (-4) ≤ x263 ∧ x263 ≤ 7 := by rw [ex263]; exact iv_at hu260 _ _ (uk_pick1 _ (by omega))
      refine g_iadd dX7_doIt_78 ?_
      refine g_topi (fun x264 ex264 => ?_)
      refine g_dup2 dX7_doIt_79 rfl rfl ?_
      have v265 : vp_in x264 51 := uk_vin 51 rfl (by first | decide | lia | grind) (by first | decide | lia | grind)
      refine g_iald rfl rfl v265 dX7_doIt_80 ?_
      refine g_topi (fun x266 ex266 => ?_)
      have bx266 := uk_cl v265
      have rx266 : 0 ≤ x264 → x264 ≤ 7 → 0 ≤ x266 ∧ x266 ≤ 40 := fun a b => by rw [ex266]; exact sg_0 hu260 (by unfold uk_is51; decide) a b
      have rrx266 : 43 ≤ x264 → x264 ≤ 50 → 0 ≤ x266 ∧ x266 ≤ 7 := fun a b => by rw [ex266]; exact sg_43 hu260 (by unfold uk_is51; decide) a b
      have px266 : x266 = ((upd ((upd (u.1 62) (x244 : Int32).toNatClampNeg x247)) (x254 : Int32).toNatClampNeg x257)) (x264 : Int32).toNatClampNeg := ex266.trans (congrFun C261 _)
      have lx266 : (x264 = x254 → x266 = x257) ∧ (¬ x264 = x254 → x266 = u.1 62 (x264 : Int32).toNatClampNeg) := ⟨fun q => by rw [px266, upd_at q], fun q => by rw [px266, upd_ne, upd_ne]; all_goals grind⟩
      refine g_iload dX7_doIt_81 rfl ?_
      refine g_if_eq (tgt := 90) dX7_doIt_83 (by decide) (fun c267 => ?_) (fun c267 => ?_)
      · exact absurd c267 (by decide)
      · refine g_iload_n dX7_doIt_86 rfl ?_
        refine g_goto (tgt := 91) dX7_doIt_87 (by decide) ?_
        refine g_iadd dX7_doIt_91 ?_
        refine g_topi (fun x268 ex268 => ?_)
        have v269 : vp_in x264 51 := uk_vin 51 rfl (by first | decide | lia | grind) (by first | decide | lia | grind)
        have b270 := uk_cl v269
        refine g_iast rfl rfl v269 dX7_doIt_92 ?_
        refine g_mem (fun u271 eu271 => ?_)
        have hu271 : iv u271 := by rw [eu271]; exact iv_st hu260 (by unfold uk_is51; decide) (by first | decide | lia | grind) (by first | decide | lia | grind) (fun q => by first | decide | lia | grind) (fun q => by first | decide | lia | grind) (fun q => by first | decide | lia | grind)
        have fu271 : fk [62] [] u u271 := by rw [eu271]; exact fk_up fu260 (by decide) (fun q => absurd q (by decide))
        have rau271 : ra u271 := by rw [eu271]; exact ra_at rau260 (by first | decide | lia | grind) (by first | decide | lia | grind)
        have C272 : u271.1 62 = (upd ((upd ((upd (u.1 62) (x244 : Int32).toNatClampNeg x247)) (x254 : Int32).toNatClampNeg x257)) (x264 : Int32).toNatClampNeg x268) := by rw [eu271, uk_up_self, C261]
        refine g_aload_n dX7_doIt_93 rfl ?_
        refine f_X7_13 rfl rfl dX7_doIt_94 ?_
        refine g_bipush (v := 8) dX7_doIt_97 (by decide) ?_
        refine g_iload_n dX7_doIt_99 rfl ?_
        refine g_iadd dX7_doIt_100 ?_
        refine g_topi (fun x273 ex273 => ?_)
        refine g_iload_n dX7_doIt_101 rfl ?_
        refine g_bipush (v := 10) dX7_doIt_102 (by decide) ?_
        refine g_icmp_lt (tgt := 134) dX7_doIt_104 (by decide) (fun c274 => ?_) (fun c274 => ?_)
        · refine g_aload_n dX7_doIt_134 rfl ?_
          refine f_X7_13 rfl rfl dX7_doIt_135 ?_
          refine g_bipush (v := 8) dX7_doIt_138 (by decide) ?_
          refine g_iload_n dX7_doIt_140 rfl ?_
          refine g_iadd dX7_doIt_141 ?_
          refine g_topi (fun x275 ex275 => ?_)
          have v276 : vp_in x275 51 := uk_vin 51 rfl (by first | decide | lia | grind) (by first | decide | lia | grind)
          refine g_iald rfl rfl v276 dX7_doIt_142 ?_
          refine g_topi (fun x277 ex277 => ?_)
          have bx277 := uk_cl v276
          have rx277 : 0 ≤ x275 → x275 ≤ 7 → 0 ≤ x277 ∧ x277 ≤ 40 := fun a b => by rw [ex277]; exact sg_0 hu271 (by unfold uk_is51; decide) a b
          have rrx277 : 43 ≤ x275 → x275 ≤ 50 → 0 ≤ x277 ∧ x277 ≤ 7 := fun a b => by rw [ex277]; exact sg_43 hu271 (by unfold uk_is51; decide) a b
          have px277 : x277 = ((upd ((upd ((upd (u.1 62) (x244 : Int32).toNatClampNeg x247)) (x254 : Int32).toNatClampNeg x257)) (x264 : Int32).toNatClampNeg x268)) (x275 : Int32).toNatClampNeg := ex277.trans (congrFun C272 _)
          have v278 : vp_in x273 51 := uk_vin 51 rfl (by first | decide | lia | grind) (by first | decide | lia | grind)
          have b279 := uk_cl v278
          refine g_iast rfl rfl v278 dX7_doIt_143 ?_
          refine g_mem (fun u280 eu280 => ?_)
          have hu280 : iv u280 := by rw [eu280]; exact iv_st hu271 (by unfold uk_is51; decide) (by first | decide | lia | grind) (by first | decide | lia | grind) (fun q => by first | decide | lia | grind) (fun q => by first | decide | lia | grind) (fun q => by first | decide | lia | grind)
          have fu280 : fk [62] [] u u280 := by rw [eu280]; exact fk_up fu271 (by decide) (fun q => absurd q (by decide))
          have rau280 : ra u280 := by rw [eu280]; exact ra_at rau271 (by first | decide | lia | grind) (by first | decide | lia | grind)
          have C281 : u280.1 62 = (upd ((upd ((upd ((upd (u.1 62) (x244 : Int32).toNatClampNeg x247)) (x254 : Int32).toNatClampNeg x257)) (x264 : Int32).toNatClampNeg x268)) (x273 : Int32).toNatClampNeg x277) := by rw [eu280, uk_up_self, C272]
          refine g_aload_n dX7_doIt_144 rfl ?_
          refine f_X7_13 rfl rfl dX7_doIt_145 ?_
          refine g_bipush (v := 41) dX7_doIt_148 (by decide) ?_
          refine g_dup2 dX7_doIt_150 rfl rfl ?_
          have v282 : vp_in 41 51 := uk_vin 51 rfl (by first | decide | lia | grind) (by first | decide | lia | grind)
          refine g_iald rfl rfl v282 dX7_doIt_151 ?_
          refine g_topi (fun x283 ex283 => ?_)
          have bx283 := uk_cl v282
          have px283 : x283 = ((upd ((upd ((upd ((upd (u.1 62) (x244 : Int32).toNatClampNeg x247)) (x254 : Int32).toNatClampNeg x257)) (x264 : Int32).toNatClampNeg x268)) (x273 : Int32).toNatClampNeg x277)) (41 : Int32).toNatClampNeg := ex283.trans (congrFun C281 _)
          refine g_iconst (v := 1) dX7_doIt_152 (by decide) ?_
          refine g_iadd dX7_doIt_153 ?_
          refine g_topi (fun x284 ex284 => ?_)
          have v285 : vp_in 41 51 := uk_vin 51 rfl (by first | decide | lia | grind) (by first | decide | lia | grind)
          have b286 := uk_cl v285
          refine g_iast rfl rfl v285 dX7_doIt_154 ?_
          refine g_mem (fun u287 eu287 => ?_)
          have hu287 : iv u287 := by rw [eu287]; exact iv_st hu280 (by unfold uk_is51; decide) (by first | decide | lia | grind) (by first | decide | lia | grind) (fun q => by first | decide | lia | grind) (fun q => by first | decide | lia | grind) (fun q => by first | decide | lia | grind)
          have fu287 : fk [62] [] u u287 := by rw [eu287]; exact fk_up fu280 (by decide) (fun q => absurd q (by decide))
          have rau287 : ra u287 := by rw [eu287]; exact ra_at rau280 (by first | decide | lia | grind) (by first | decide | lia | grind)
          have C288 : u287.1 62 = (upd ((upd ((upd ((upd ((upd (u.1 62) (x244 : Int32).toNatClampNeg x247)) (x254 : Int32).toNatClampNeg x257)) (x264 : Int32).toNatClampNeg x268)) (x273 : Int32).toNatClampNeg x277)) (41 : Int32).toNatClampNeg x284) := by rw [eu287, uk_up_self, C281]
          exact g_vret dX7_doIt_155 rfl ⟨rfl, hu287, fu287, rau287⟩
        · refine g_aload_n dX7_doIt_107 rfl ?_
          refine f_X7_13 rfl rfl dX7_doIt_108 ?_
          refine g_bipush (v := 32) dX7_doIt_111 (by decide) ?_
          refine g_iload_n dX7_doIt_113 rfl ?_
          refine g_iadd dX7_doIt_114 ?_
          refine g_topi (fun x289 ex289 => ?_)
          have v290 : vp_in x289 51 := uk_vin 51 rfl (by first | decide | lia | grind) (by first | decide | lia | grind)
          refine g_iald rfl rfl v290 dX7_doIt_115 ?_
          refine g_topi (fun x291 ex291 => ?_)
          have bx291 := uk_cl v290
          have rx291 : 0 ≤ x289 → x289 ≤ 7 → 0 ≤ x291 ∧ x291 ≤ 40 := fun a b => by rw [ex291]; exact sg_0 hu271 (by unfold uk_is51; decide) a b
          have rrx291 : 43 ≤ x289 → x289 ≤ 50 → 0 ≤ x291 ∧ x291 ≤ 7 := fun a b => by rw [ex291]; exact sg_43 hu271 (by unfold uk_is51; decide) a b
          have px291 : x291 = ((upd ((upd ((upd (u.1 62) (x244 : Int32).toNatClampNeg x247)) (x254 : Int32).toNatClampNeg x257)) (x264 : Int32).toNatClampNeg x268)) (x289 : Int32).toNatClampNeg := ex291.trans (congrFun C272 _)
          refine g_iconst (v := 3) dX7_doIt_116 (by decide) ?_
          refine g_icmp_ne (tgt := 134) dX7_doIt_117 (by decide) (fun c292 => ?_) (fun c292 => ?_)
          · refine g_aload_n dX7_doIt_134 rfl ?_
            refine f_X7_13 rfl rfl dX7_doIt_135 ?_
            refine g_bipush (v := 8) dX7_doIt_138 (by decide) ?_
            refine g_iload_n dX7_doIt_140 rfl ?_
            refine g_iadd dX7_doIt_141 ?_
            refine g_topi (fun x293 ex293 => ?_)
            have v294 : vp_in x293 51 := uk_vin 51 rfl (by first | decide | lia | grind) (by first | decide | lia | grind)
            refine g_iald rfl rfl v294 dX7_doIt_142 ?_
            refine g_topi (fun x295 ex295 => ?_)
            have bx295 := uk_cl v294
            have rx295 : 0 ≤ x293 → x293 ≤ 7 → 0 ≤ x295 ∧ x295 ≤ 40 := fun a b => by rw [ex295]; exact sg_0 hu271 (by unfold uk_is51; decide) a b
            have rrx295 : 43 ≤ x293 → x293 ≤ 50 → 0 ≤ x295 ∧ x295 ≤ 7 := fun a b => by rw [ex295]; exact sg_43 hu271 (by unfold uk_is51; decide) a b
            have px295 : x295 = ((upd ((upd ((upd (u.1 62) (x244 : Int32).toNatClampNeg x247)) (x254 : Int32).toNatClampNeg x257)) (x264 : Int32).toNatClampNeg x268)) (x293 : Int32).toNatClampNeg := ex295.trans (congrFun C272 _)
            have v296 : vp_in x273 51 := uk_vin 51 rfl (by first | decide | lia | grind) (by first | decide | lia | grind)
            have b297 := uk_cl v296
            refine g_iast rfl rfl v296 dX7_doIt_143 ?_
            refine g_mem (fun u298 eu298 => ?_)
            have hu298 : iv u298 := by rw [eu298]; exact iv_st hu271 (by unfold uk_is51; decide) (by first | decide | lia | grind) (by first | decide | lia | grind) (fun q => by first | decide | lia | grind) (fun q => by first | decide | lia | grind) (fun q => by first | decide | lia | grind)
            have fu298 : fk [62] [] u u298 := by rw [eu298]; exact fk_up fu271 (by decide) (fun q => absurd q (by decide))
            have rau298 : ra u298 := by rw [eu298]; exact ra_at rau271 (by first | decide | lia | grind) (by first | decide | lia | grind)
            have C299 : u298.1 62 = (upd ((upd ((upd ((upd (u.1 62) (x244 : Int32).toNatClampNeg x247)) (x254 : Int32).toNatClampNeg x257)) (x264 : Int32).toNatClampNeg x268)) (x273 : Int32).toNatClampNeg x295) := by rw [eu298, uk_up_self, C272]
            refine g_aload_n dX7_doIt_144 rfl ?_
            refine f_X7_13 rfl rfl dX7_doIt_145 ?_
            refine g_bipush (v := 41) dX7_doIt_148 (by decide) ?_
            refine g_dup2 dX7_doIt_150 rfl rfl ?_
            have v300 : vp_in 41 51 := uk_vin 51 rfl (by first | decide | lia | grind) (by first | decide | lia | grind)
            refine g_iald rfl rfl v300 dX7_doIt_151 ?_
            refine g_topi (fun x301 ex301 => ?_)
            have bx301 := uk_cl v300
            have px301 : x301 = ((upd ((upd ((upd ((upd (u.1 62) (x244 : Int32).toNatClampNeg x247)) (x254 : Int32).toNatClampNeg x257)) (x264 : Int32).toNatClampNeg x268)) (x273 : Int32).toNatClampNeg x295)) (41 : Int32).toNatClampNeg := ex301.trans (congrFun C299 _)
            refine g_iconst (v := 1) dX7_doIt_152 (by decide) ?_
            refine g_iadd dX7_doIt_153 ?_
            refine g_topi (fun x302 ex302 => ?_)
            have v303 : vp_in 41 51 := uk_vin 51 rfl (by first | decide | lia | grind) (by first | decide | lia | grind)
            have b304 := uk_cl v303
            refine g_iast rfl rfl v303 dX7_doIt_154 ?_
            refine g_mem (fun u305 eu305 => ?_)
            have hu305 : iv u305 := by rw [eu305]; exact iv_st hu298 (by unfold uk_is51; decide) (by first | decide | lia | grind) (by first | decide | lia | grind) (fun q => by first | decide | lia | grind) (fun q => by first | decide | lia | grind) (fun q => by first | decide | lia | grind)
            have fu305 : fk [62] [] u u305 := by rw [eu305]; exact fk_up fu298 (by decide) (fun q => absurd q (by decide))
            have rau305 : ra u305 := by rw [eu305]; exact ra_at rau298 (by first | decide | lia | grind) (by first | decide | lia | grind)
            have C306 : u305.1 62 = (upd ((upd ((upd ((upd ((upd (u.1 62) (x244 : Int32).toNatClampNeg x247)) (x254 : Int32).toNatClampNeg x257)) (x264 : Int32).toNatClampNeg x268)) (x273 : Int32).toNatClampNeg x295)) (41 : Int32).toNatClampNeg x302) := by rw [eu305, uk_up_self, C299]
            exact g_vret dX7_doIt_155 rfl ⟨rfl, hu305, fu305, rau305⟩
          · refine g_iconst (v := 1) dX7_doIt_120 (by decide) ?_
            refine g_aload_n dX7_doIt_121 rfl ?_
            refine f_X7_13 rfl rfl dX7_doIt_122 ?_
            refine g_bipush (v := 8) dX7_doIt_125 (by decide) ?_
            refine g_iload_n dX7_doIt_127 rfl ?_
            refine g_iadd dX7_doIt_128 ?_
            refine g_topi (fun x307 ex307 => ?_)
            have v308 : vp_in x307 51 := uk_vin 51 rfl (by first | decide | lia | grind) (by first | decide | lia | grind)
            refine g_iald rfl rfl v308 dX7_doIt_129 ?_
            refine g_topi (fun x309 ex309 => ?_)
            have bx309 := uk_cl v308
            have rx309 : 0 ≤ x307 → x307 ≤ 7 → 0 ≤ x309 ∧ x309 ≤ 40 := fun a b => by rw [ex309]; exact sg_0 hu271 (by unfold uk_is51; decide) a b
            have rrx309 : 43 ≤ x307 → x307 ≤ 50 → 0 ≤ x309 ∧ x309 ≤ 7 := fun a b => by rw [ex309]; exact sg_43 hu271 (by unfold uk_is51; decide) a b
            have px309 : x309 = ((upd ((upd ((upd (u.1 62) (x244 : Int32).toNatClampNeg x247)) (x254 : Int32).toNatClampNeg x257)) (x264 : Int32).toNatClampNeg x268)) (x307 : Int32).toNatClampNeg := ex309.trans (congrFun C272 _)
            refine g_isub dX7_doIt_130 ?_
            refine g_topi (fun x310 ex310 => ?_)
            refine g_goto (tgt := 143) dX7_doIt_131 (by decide) ?_
            have v311 : vp_in x273 51 := uk_vin 51 rfl (by first | decide | lia | grind) (by first | decide | lia | grind)
            have b312 := uk_cl v311
            refine g_iast rfl rfl v311 dX7_doIt_143 ?_
            refine g_mem (fun u313 eu313 => ?_)
            have hu313 : iv u313 := by rw [eu313]; exact iv_st hu271 (by unfold uk_is51; decide) (by first | decide | lia | grind) (by first | decide | lia | grind) (fun q => by first | decide | lia | grind) (fun q => by first | decide | lia | grind) (fun q => by first | decide | lia | grind)
            have fu313 : fk [62] [] u u313 := by rw [eu313]; exact fk_up fu271 (by decide) (fun q => absurd q (by decide))
            have rau313 : ra u313 := by rw [eu313]; exact ra_at rau271 (by first | decide | lia | grind) (by first | decide | lia | grind)
            have C314 : u313.1 62 = (upd ((upd ((upd ((upd (u.1 62) (x244 : Int32).toNatClampNeg x247)) (x254 : Int32).toNatClampNeg x257)) (x264 : Int32).toNatClampNeg x268)) (x273 : Int32).toNatClampNeg x310) := by rw [eu313, uk_up_self, C272]
            refine g_aload_n dX7_doIt_144 rfl ?_
            refine f_X7_13 rfl rfl dX7_doIt_145 ?_
            refine g_bipush (v := 41) dX7_doIt_148 (by decide) ?_
            refine g_dup2 dX7_doIt_150 rfl rfl ?_
            have v315 : vp_in 41 51 := uk_vin 51 rfl (by first | decide | lia | grind) (by first | decide | lia | grind)
            refine g_iald rfl rfl v315 dX7_doIt_151 ?_
            refine g_topi (fun x316 ex316 => ?_)
            have bx316 := uk_cl v315
            have px316 : x316 = ((upd ((upd ((upd ((upd (u.1 62) (x244 : Int32).toNatClampNeg x247)) (x254 : Int32).toNatClampNeg x257)) (x264 : Int32).toNatClampNeg x268)) (x273 : Int32).toNatClampNeg x310)) (41 : Int32).toNatClampNeg := ex316.trans (congrFun C314 _)
            refine g_iconst (v := 1) dX7_doIt_152 (by decide) ?_
            refine g_iadd dX7_doIt_153 ?_
            refine g_topi (fun x317 ex317 => ?_)
            have v318 : vp_in 41 51 := uk_vin 51 rfl (by first | decide | lia | grind) (by first | decide | lia | grind)
            have b319 := uk_cl v318
            refine g_iast rfl rfl v318 dX7_doIt_154 ?_
            refine g_mem (fun u320 eu320 => ?_)
            have hu320 : iv u320 := by rw [eu320]; exact iv_st hu313 (by unfold uk_is51; decide) (by first | decide | lia | grind) (by first | decide | lia | grind) (fun q => by first | decide | lia | grind) (fun q => by first | decide | lia | grind) (fun q => by first | decide | lia | grind)
            have fu320 : fk [62] [] u u320 := by rw [eu320]; exact fk_up fu313 (by decide) (fun q => absurd q (by decide))
            have rau320 : ra u320 := by rw [eu320]; exact ra_at rau313 (by first | decide | lia | grind) (by first | decide | lia | grind)
            have C321 : u320.1 62 = (upd ((upd ((upd ((upd ((upd (u.1 62) (x244 : Int32).toNatClampNeg x247)) (x254 : Int32).toNatClampNeg x257)) (x264 : Int32).toNatClampNeg x268)) (x273 : Int32).toNatClampNeg x310)) (41 : Int32).toNatClampNeg x317) := by rw [eu320, uk_up_self, C314]
            exact g_vret dX7_doIt_155 rfl ⟨rfl, hu320, fu320, rau320⟩
    · refine g_aload_n dX7_doIt_23 rfl ?_
      refine g_iload_n dX7_doIt_24 rfl ?_
      refine cl_X7_153 (c := 60) (As := [.int x1]) rfl (c_X7_givesSecond (G := G) hs hu  x1 (by first | trivial | decide | lia | grind) (by first | trivial | decide | lia | grind) (d)) rfl (by omega) rfl rfl (Nat.le_of_ble_eq_true rfl) dX7_doIt_25 (fun r322 u323 q324 => ?_)
      obtain ⟨⟨x325, rfl, tx325, nx325, zx325⟩, mq324⟩ := q324
      rw [mq324]
      refine g_if_eq (tgt := 35) dX7_doIt_28 (by decide) (fun c326 => ?_) (fun c326 => ?_)
      · have zc326 := zx325 c326
        refine g_iconst (v := 0) dX7_doIt_35 (by decide) ?_
        refine g_istore dX7_doIt_36 (by decide) ?_
        refine g_aload_n dX7_doIt_38 rfl ?_
        refine f_X7_13 rfl rfl dX7_doIt_39 ?_
        refine g_iconst (v := 0) dX7_doIt_42 (by decide) ?_
        refine g_iload_n dX7_doIt_43 rfl ?_
        refine g_iadd dX7_doIt_44 ?_
        refine g_topi (fun x327 ex327 => ?_)
        refine g_dup2 dX7_doIt_45 rfl rfl ?_
        have v328 : vp_in x327 51 := uk_vin 51 rfl (by first | decide | lia | grind) (by first | decide | lia | grind)
        refine g_iald rfl rfl v328 dX7_doIt_46 ?_
        refine g_topi (fun x329 ex329 => ?_)
        have bx329 := uk_cl v328
        have rx329 : 0 ≤ x327 → x327 ≤ 7 → 0 ≤ x329 ∧ x329 ≤ 40 := fun a b => by rw [ex329]; exact sg_0 hu (by unfold uk_is51; decide) a b
        have rrx329 : 43 ≤ x327 → x327 ≤ 50 → 0 ≤ x329 ∧ x329 ≤ 7 := fun a b => by rw [ex329]; exact sg_43 hu (by unfold uk_is51; decide) a b
        have px329 : x329 = (u.1 62) (x327 : Int32).toNatClampNeg := ex329.trans (congrFun C62 _)
        refine g_iload_n dX7_doIt_47 rfl ?_
        refine g_isub dX7_doIt_48 ?_
        refine g_topi (fun x330 ex330 => ?_)
        have v331 : vp_in x327 51 := uk_vin 51 rfl (by first | decide | lia | grind) (by first | decide | lia | grind)
        have b332 := uk_cl v331
        refine g_iast rfl rfl v331 dX7_doIt_49 ?_
        refine g_mem (fun u333 eu333 => ?_)
        have hu333 : iv u333 := by rw [eu333]; exact iv_st hu (by unfold uk_is51; decide) (by first | decide | lia | grind) (by first | decide | lia | grind) (fun q => by first | decide | lia | grind) (fun q => by first | decide | lia | grind) (fun q => by first | decide | lia | grind)
        have fu333 : fk [62] [] u u333 := by rw [eu333]; exact fk_up f0 (by decide) (fun q => absurd q (by decide))
        have rau333 : ra u333 := by rw [eu333]; exact ra_at hra (by first | decide | lia | grind) (by first | decide | lia | grind)
        have C334 : u333.1 62 = (upd (u.1 62) (x327 : Int32).toNatClampNeg x330) := by rw [eu333, uk_up_self, C62]
        refine g_aload_n dX7_doIt_50 rfl ?_
        refine f_X7_13 rfl rfl dX7_doIt_51 ?_
        refine g_iconst (v := 0) dX7_doIt_54 (by decide) ?_
        refine g_aload_n dX7_doIt_55 rfl ?_
        refine f_X7_20 rfl rfl dX7_doIt_56 ?_
        refine g_iload_n dX7_doIt_59 rfl ?_
        have v335 : vp_in x1 8 := uk_vin 8 rfl (by first | decide | lia | grind) (by first | decide | lia | grind)
        refine g_iald rfl rfl v335 dX7_doIt_60 ?_
        refine g_topi (fun x336 ex336 => ?_)
        have bx336 := uk_cl v335
        have rx336 : (-4) ≤ x336 ∧ x336 ≤ 7 := by rw [ex336]; exact iv_at hu333 _ _ (uk_pick1 _ (by omega))
        refine g_iadd dX7_doIt_61 ?_
        refine g_topi (fun x337 ex337 => ?_)
        refine g_dup2 dX7_doIt_62 rfl rfl ?_
        have v338 : vp_in x337 51 := uk_vin 51 rfl (by first | decide | lia | grind) (by first | decide | lia | grind)
        refine g_iald rfl rfl v338 dX7_doIt_63 ?_
        refine g_topi (fun x339 ex339 => ?_)
        have bx339 := uk_cl v338
        have rx339 : 0 ≤ x337 → x337 ≤ 7 → 0 ≤ x339 ∧ x339 ≤ 40 := fun a b => by rw [ex339]; exact sg_0 hu333 (by unfold uk_is51; decide) a b
        have rrx339 : 43 ≤ x337 → x337 ≤ 50 → 0 ≤ x339 ∧ x339 ≤ 7 := fun a b => by rw [ex339]; exact sg_43 hu333 (by unfold uk_is51; decide) a b
        have px339 : x339 = ((upd (u.1 62) (x327 : Int32).toNatClampNeg x330)) (x337 : Int32).toNatClampNeg := ex339.trans (congrFun C334 _)
        have lx339 : x339 = u.1 62 (x337 : Int32).toNatClampNeg := by rw [px339, upd_ne]; all_goals grind
        refine g_iload_n dX7_doIt_64 rfl ?_
        refine g_iadd dX7_doIt_65 ?_
        refine g_topi (fun x340 ex340 => ?_)
        have v341 : vp_in x337 51 := uk_vin 51 rfl (by first | decide | lia | grind) (by first | decide | lia | grind)
        have b342 := uk_cl v341
        refine g_iast rfl rfl v341 dX7_doIt_66 ?_
        refine g_mem (fun u343 eu343 => ?_)
        have hu343 : iv u343 := by rw [eu343]; exact iv_st hu333 (by unfold uk_is51; decide) (by first | decide | lia | grind) (by first | decide | lia | grind) (fun q => by first | decide | lia | grind) (fun q => by first | decide | lia | grind) (fun q => by first | decide | lia | grind)
        have fu343 : fk [62] [] u u343 := by rw [eu343]; exact fk_up fu333 (by decide) (fun q => absurd q (by decide))
        have rau343 : ra u343 := by rw [eu343]; exact ra_at rau333 (by first | decide | lia | grind) (by first | decide | lia | grind)
        have C344 : u343.1 62 = (upd ((upd (u.1 62) (x327 : Int32).toNatClampNeg x330)) (x337 : Int32).toNatClampNeg x340) := by rw [eu343, uk_up_self, C334]
        refine g_aload_n dX7_doIt_67 rfl ?_
        refine f_X7_13 rfl rfl dX7_doIt_68 ?_
        refine g_iconst (v := 0) dX7_doIt_71 (by decide) ?_
        refine g_aload_n dX7_doIt_72 rfl ?_
        refine f_X7_23 rfl rfl dX7_doIt_73 ?_
        refine g_iload_n dX7_doIt_76 rfl ?_
        have v345 : vp_in x1 8 := uk_vin 8 rfl (by first | decide | lia | grind) (by first | decide | lia | grind)
        refine g_iald rfl rfl v345 dX7_doIt_77 ?_
        refine g_topi (fun x346 ex346 => ?_)
        have bx346 := uk_cl v345
        have rx346 : (-4) ≤ x346 ∧ x346 ≤ 7 := by rw [ex346]; exact iv_at hu343 _ _ (uk_pick1 _ (by omega))
        refine g_iadd dX7_doIt_78 ?_
        refine g_topi (fun x347 ex347 => ?_)
        refine g_dup2 dX7_doIt_79 rfl rfl ?_
        have v348 : vp_in x347 51 := uk_vin 51 rfl (by first | decide | lia | grind) (by first | decide | lia | grind)
        refine g_iald rfl rfl v348 dX7_doIt_80 ?_
        refine g_topi (fun x349 ex349 => ?_)
        have bx349 := uk_cl v348
        have rx349 : 0 ≤ x347 → x347 ≤ 7 → 0 ≤ x349 ∧ x349 ≤ 40 := fun a b => by rw [ex349]; exact sg_0 hu343 (by unfold uk_is51; decide) a b
        have rrx349 : 43 ≤ x347 → x347 ≤ 50 → 0 ≤ x349 ∧ x349 ≤ 7 := fun a b => by rw [ex349]; exact sg_43 hu343 (by unfold uk_is51; decide) a b
        have px349 : x349 = ((upd ((upd (u.1 62) (x327 : Int32).toNatClampNeg x330)) (x337 : Int32).toNatClampNeg x340)) (x347 : Int32).toNatClampNeg := ex349.trans (congrFun C344 _)
        have lx349 : (x347 = x337 → x349 = x340) ∧ (¬ x347 = x337 → x349 = u.1 62 (x347 : Int32).toNatClampNeg) := ⟨fun q => by rw [px349, upd_at q], fun q => by rw [px349, upd_ne, upd_ne]; all_goals grind⟩
        refine g_iload dX7_doIt_81 rfl ?_
        refine g_if_eq (tgt := 90) dX7_doIt_83 (by decide) (fun c350 => ?_) (fun c350 => ?_)
        · refine g_iconst (v := 0) dX7_doIt_90 (by decide) ?_
          refine g_iadd dX7_doIt_91 ?_
          refine g_topi (fun x351 ex351 => ?_)
          have v352 : vp_in x347 51 := uk_vin 51 rfl (by first | decide | lia | grind) (by first | decide | lia | grind)
          have b353 := uk_cl v352
          refine g_iast rfl rfl v352 dX7_doIt_92 ?_
          refine g_mem (fun u354 eu354 => ?_)
          have hu354 : iv u354 := by rw [eu354]; exact iv_st hu343 (by unfold uk_is51; decide) (by first | decide | lia | grind) (by first | decide | lia | grind) (fun q => by first | decide | lia | grind) (fun q => by first | decide | lia | grind) (fun q => by first | decide | lia | grind)
          have fu354 : fk [62] [] u u354 := by rw [eu354]; exact fk_up fu343 (by decide) (fun q => absurd q (by decide))
          have rau354 : ra u354 := by rw [eu354]; exact ra_at rau343 (by first | decide | lia | grind) (by first | decide | lia | grind)
          have C355 : u354.1 62 = (upd ((upd ((upd (u.1 62) (x327 : Int32).toNatClampNeg x330)) (x337 : Int32).toNatClampNeg x340)) (x347 : Int32).toNatClampNeg x351) := by rw [eu354, uk_up_self, C344]
          refine g_aload_n dX7_doIt_93 rfl ?_
          refine f_X7_13 rfl rfl dX7_doIt_94 ?_
          refine g_bipush (v := 8) dX7_doIt_97 (by decide) ?_
          refine g_iload_n dX7_doIt_99 rfl ?_
          refine g_iadd dX7_doIt_100 ?_
          refine g_topi (fun x356 ex356 => ?_)
          refine g_iload_n dX7_doIt_101 rfl ?_
          refine g_bipush (v := 10) dX7_doIt_102 (by decide) ?_
          refine g_icmp_lt (tgt := 134) dX7_doIt_104 (by decide) (fun c357 => ?_) (fun c357 => ?_)
          · refine g_aload_n dX7_doIt_134 rfl ?_
            refine f_X7_13 rfl rfl dX7_doIt_135 ?_
            refine g_bipush (v := 8) dX7_doIt_138 (by decide) ?_
            refine g_iload_n dX7_doIt_140 rfl ?_
            refine g_iadd dX7_doIt_141 ?_
            refine g_topi (fun x358 ex358 => ?_)
            have v359 : vp_in x358 51 := uk_vin 51 rfl (by first | decide | lia | grind) (by first | decide | lia | grind)
            refine g_iald rfl rfl v359 dX7_doIt_142 ?_
            refine g_topi (fun x360 ex360 => ?_)
            have bx360 := uk_cl v359
            have rx360 : 0 ≤ x358 → x358 ≤ 7 → 0 ≤ x360 ∧ x360 ≤ 40 := fun a b => by rw [ex360]; exact sg_0 hu354 (by unfold uk_is51; decide) a b
            have rrx360 : 43 ≤ x358 → x358 ≤ 50 → 0 ≤ x360 ∧ x360 ≤ 7 := fun a b => by rw [ex360]; exact sg_43 hu354 (by unfold uk_is51; decide) a b
            have px360 : x360 = ((upd ((upd ((upd (u.1 62) (x327 : Int32).toNatClampNeg x330)) (x337 : Int32).toNatClampNeg x340)) (x347 : Int32).toNatClampNeg x351)) (x358 : Int32).toNatClampNeg := ex360.trans (congrFun C355 _)
            have v361 : vp_in x356 51 := uk_vin 51 rfl (by first | decide | lia | grind) (by first | decide | lia | grind)
            have b362 := uk_cl v361
            refine g_iast rfl rfl v361 dX7_doIt_143 ?_
            refine g_mem (fun u363 eu363 => ?_)
            have hu363 : iv u363 := by rw [eu363]; exact iv_st hu354 (by unfold uk_is51; decide) (by first | decide | lia | grind) (by first | decide | lia | grind) (fun q => by first | decide | lia | grind) (fun q => by first | decide | lia | grind) (fun q => by first | decide | lia | grind)
            have fu363 : fk [62] [] u u363 := by rw [eu363]; exact fk_up fu354 (by decide) (fun q => absurd q (by decide))
            have rau363 : ra u363 := by rw [eu363]; exact ra_at rau354 (by first | decide | lia | grind) (by first | decide | lia | grind)
            have C364 : u363.1 62 = (upd ((upd ((upd ((upd (u.1 62) (x327 : Int32).toNatClampNeg x330)) (x337 : Int32).toNatClampNeg x340)) (x347 : Int32).toNatClampNeg x351)) (x356 : Int32).toNatClampNeg x360) := by rw [eu363, uk_up_self, C355]
            refine g_aload_n dX7_doIt_144 rfl ?_
            refine f_X7_13 rfl rfl dX7_doIt_145 ?_
            refine g_bipush (v := 41) dX7_doIt_148 (by decide) ?_
            refine g_dup2 dX7_doIt_150 rfl rfl ?_
            have v365 : vp_in 41 51 := uk_vin 51 rfl (by first | decide | lia | grind) (by first | decide | lia | grind)
            refine g_iald rfl rfl v365 dX7_doIt_151 ?_
            refine g_topi (fun x366 ex366 => ?_)
            have bx366 := uk_cl v365
            have px366 : x366 = ((upd ((upd ((upd ((upd (u.1 62) (x327 : Int32).toNatClampNeg x330)) (x337 : Int32).toNatClampNeg x340)) (x347 : Int32).toNatClampNeg x351)) (x356 : Int32).toNatClampNeg x360)) (41 : Int32).toNatClampNeg := ex366.trans (congrFun C364 _)
            refine g_iconst (v := 1) dX7_doIt_152 (by decide) ?_
            refine g_iadd dX7_doIt_153 ?_
            refine g_topi (fun x367 ex367 => ?_)
            have v368 : vp_in 41 51 := uk_vin 51 rfl (by first | decide | lia | grind) (by first | decide | lia | grind)
            have b369 := uk_cl v368
            refine g_iast rfl rfl v368 dX7_doIt_154 ?_
            refine g_mem (fun u370 eu370 => ?_)
            have hu370 : iv u370 := by rw [eu370]; exact iv_st hu363 (by unfold uk_is51; decide) (by first | decide | lia | grind) (by first | decide | lia | grind) (fun q => by first | decide | lia | grind) (fun q => by first | decide | lia | grind) (fun q => by first | decide | lia | grind)
            have fu370 : fk [62] [] u u370 := by rw [eu370]; exact fk_up fu363 (by decide) (fun q => absurd q (by decide))
            have rau370 : ra u370 := by rw [eu370]; exact ra_at rau363 (by first | decide | lia | grind) (by first | decide | lia | grind)
            have C371 : u370.1 62 = (upd ((upd ((upd ((upd ((upd (u.1 62) (x327 : Int32).toNatClampNeg x330)) (x337 : Int32).toNatClampNeg x340)) (x347 : Int32).toNatClampNeg x351)) (x356 : Int32).toNatClampNeg x360)) (41 : Int32).toNatClampNeg x367) := by rw [eu370, uk_up_self, C364]
            exact g_vret dX7_doIt_155 rfl ⟨rfl, hu370, fu370, rau370⟩
          · refine g_aload_n dX7_doIt_107 rfl ?_
            refine f_X7_13 rfl rfl dX7_doIt_108 ?_
            refine g_bipush (v := 32) dX7_doIt_111 (by decide) ?_
            refine g_iload_n dX7_doIt_113 rfl ?_
            refine g_iadd dX7_doIt_114 ?_
            refine g_topi (fun x372 ex372 => ?_)
            have v373 : vp_in x372 51 := uk_vin 51 rfl (by first | decide | lia | grind) (by first | decide | lia | grind)
            refine g_iald rfl rfl v373 dX7_doIt_115 ?_
            refine g_topi (fun x374 ex374 => ?_)
            have bx374 := uk_cl v373
            have rx374 : 0 ≤ x372 → x372 ≤ 7 → 0 ≤ x374 ∧ x374 ≤ 40 := fun a b => by rw [ex374]; exact sg_0 hu354 (by unfold uk_is51; decide) a b
            have rrx374 : 43 ≤ x372 → x372 ≤ 50 → 0 ≤ x374 ∧ x374 ≤ 7 := fun a b => by rw [ex374]; exact sg_43 hu354 (by unfold uk_is51; decide) a b
            have px374 : x374 = ((upd ((upd ((upd (u.1 62) (x327 : Int32).toNatClampNeg x330)) (x337 : Int32).toNatClampNeg x340)) (x347 : Int32).toNatClampNeg x351)) (x372 : Int32).toNatClampNeg := ex374.trans (congrFun C355 _)
            refine g_iconst (v := 3) dX7_doIt_116 (by decide) ?_
            refine g_icmp_ne (tgt := 134) dX7_doIt_117 (by decide) (fun c375 => ?_) (fun c375 => ?_)
            · refine g_aload_n dX7_doIt_134 rfl ?_
              refine f_X7_13 rfl rfl dX7_doIt_135 ?_
              refine g_bipush (v := 8) dX7_doIt_138 (by decide) ?_
              refine g_iload_n dX7_doIt_140 rfl ?_
              refine g_iadd dX7_doIt_141 ?_
              refine g_topi (fun x376 ex376 => ?_)
              have v377 : vp_in x376 51 := uk_vin 51 rfl (by first | decide | lia | grind) (by first | decide | lia | grind)
              refine g_iald rfl rfl v377 dX7_doIt_142 ?_
              refine g_topi (fun x378 ex378 => ?_)
              have bx378 := uk_cl v377
              have rx378 : 0 ≤ x376 → x376 ≤ 7 → 0 ≤ x378 ∧ x378 ≤ 40 := fun a b => by rw [ex378]; exact sg_0 hu354 (by unfold uk_is51; decide) a b
              have rrx378 : 43 ≤ x376 → x376 ≤ 50 → 0 ≤ x378 ∧ x378 ≤ 7 := fun a b => by rw [ex378]; exact sg_43 hu354 (by unfold uk_is51; decide) a b
              have px378 : x378 = ((upd ((upd ((upd (u.1 62) (x327 : Int32).toNatClampNeg x330)) (x337 : Int32).toNatClampNeg x340)) (x347 : Int32).toNatClampNeg x351)) (x376 : Int32).toNatClampNeg := ex378.trans (congrFun C355 _)
              have v379 : vp_in x356 51 := uk_vin 51 rfl (by first | decide | lia | grind) (by first | decide | lia | grind)
              have b380 := uk_cl v379
              refine g_iast rfl rfl v379 dX7_doIt_143 ?_
              refine g_mem (fun u381 eu381 => ?_)
              have hu381 : iv u381 := by rw [eu381]; exact iv_st hu354 (by unfold uk_is51; decide) (by first | decide | lia | grind) (by first | decide | lia | grind) (fun q => by first | decide | lia | grind) (fun q => by first | decide | lia | grind) (fun q => by first | decide | lia | grind)
              have fu381 : fk [62] [] u u381 := by rw [eu381]; exact fk_up fu354 (by decide) (fun q => absurd q (by decide))
              have rau381 : ra u381 := by rw [eu381]; exact ra_at rau354 (by first | decide | lia | grind) (by first | decide | lia | grind)
              have C382 : u381.1 62 = (upd ((upd ((upd ((upd (u.1 62) (x327 : Int32).toNatClampNeg x330)) (x337 : Int32).toNatClampNeg x340)) (x347 : Int32).toNatClampNeg x351)) (x356 : Int32).toNatClampNeg x378) := by rw [eu381, uk_up_self, C355]
              refine g_aload_n dX7_doIt_144 rfl ?_
              refine f_X7_13 rfl rfl dX7_doIt_145 ?_
              refine g_bipush (v := 41) dX7_doIt_148 (by decide) ?_
              refine g_dup2 dX7_doIt_150 rfl rfl ?_
              have v383 : vp_in 41 51 := uk_vin 51 rfl (by first | decide | lia | grind) (by first | decide | lia | grind)
              refine g_iald rfl rfl v383 dX7_doIt_151 ?_
              refine g_topi (fun x384 ex384 => ?_)
              have bx384 := uk_cl v383
              have px384 : x384 = ((upd ((upd ((upd ((upd (u.1 62) (x327 : Int32).toNatClampNeg x330)) (x337 : Int32).toNatClampNeg x340)) (x347 : Int32).toNatClampNeg x351)) (x356 : Int32).toNatClampNeg x378)) (41 : Int32).toNatClampNeg := ex384.trans (congrFun C382 _)
              refine g_iconst (v := 1) dX7_doIt_152 (by decide) ?_
              refine g_iadd dX7_doIt_153 ?_
              refine g_topi (fun x385 ex385 => ?_)
              have v386 : vp_in 41 51 := uk_vin 51 rfl (by first | decide | lia | grind) (by first | decide | lia | grind)
              have b387 := uk_cl v386
              refine g_iast rfl rfl v386 dX7_doIt_154 ?_
              refine g_mem (fun u388 eu388 => ?_)
              have hu388 : iv u388 := by rw [eu388]; exact iv_st hu381 (by unfold uk_is51; decide) (by first | decide | lia | grind) (by first | decide | lia | grind) (fun q => by first | decide | lia | grind) (fun q => by first | decide | lia | grind) (fun q => by first | decide | lia | grind)
              have fu388 : fk [62] [] u u388 := by rw [eu388]; exact fk_up fu381 (by decide) (fun q => absurd q (by decide))
              have rau388 : ra u388 := by rw [eu388]; exact ra_at rau381 (by first | decide | lia | grind) (by first | decide | lia | grind)
              have C389 : u388.1 62 = (upd ((upd ((upd ((upd ((upd (u.1 62) (x327 : Int32).toNatClampNeg x330)) (x337 : Int32).toNatClampNeg x340)) (x347 : Int32).toNatClampNeg x351)) (x356 : Int32).toNatClampNeg x378)) (41 : Int32).toNatClampNeg x385) := by rw [eu388, uk_up_self, C382]
              exact g_vret dX7_doIt_155 rfl ⟨rfl, hu388, fu388, rau388⟩
            · refine g_iconst (v := 1) dX7_doIt_120 (by decide) ?_
              refine g_aload_n dX7_doIt_121 rfl ?_
              refine f_X7_13 rfl rfl dX7_doIt_122 ?_
              refine g_bipush (v := 8) dX7_doIt_125 (by decide) ?_
              refine g_iload_n dX7_doIt_127 rfl ?_
              refine g_iadd dX7_doIt_128 ?_
              refine g_topi (fun x390 ex390 => ?_)
              have v391 : vp_in x390 51 := uk_vin 51 rfl (by first | decide | lia | grind) (by first | decide | lia | grind)
              refine g_iald rfl rfl v391 dX7_doIt_129 ?_
              refine g_topi (fun x392 ex392 => ?_)
              have bx392 := uk_cl v391
              have rx392 : 0 ≤ x390 → x390 ≤ 7 → 0 ≤ x392 ∧ x392 ≤ 40 := fun a b => by rw [ex392]; exact sg_0 hu354 (by unfold uk_is51; decide) a b
              have rrx392 : 43 ≤ x390 → x390 ≤ 50 → 0 ≤ x392 ∧ x392 ≤ 7 := fun a b => by rw [ex392]; exact sg_43 hu354 (by unfold uk_is51; decide) a b
              have px392 : x392 = ((upd ((upd ((upd (u.1 62) (x327 : Int32).toNatClampNeg x330)) (x337 : Int32).toNatClampNeg x340)) (x347 : Int32).toNatClampNeg x351)) (x390 : Int32).toNatClampNeg := ex392.trans (congrFun C355 _)
              refine g_isub dX7_doIt_130 ?_
              refine g_topi (fun x393 ex393 => ?_)
              refine g_goto (tgt := 143) dX7_doIt_131 (by decide) ?_
              have v394 : vp_in x356 51 := uk_vin 51 rfl (by first | decide | lia | grind) (by first | decide | lia | grind)
              have b395 := uk_cl v394
              refine g_iast rfl rfl v394 dX7_doIt_143 ?_
              refine g_mem (fun u396 eu396 => ?_)
              have hu396 : iv u396 := by rw [eu396]; exact iv_st hu354 (by unfold uk_is51; decide) (by first | decide | lia | grind) (by first | decide | lia | grind) (fun q => by first | decide | lia | grind) (fun q => by first | decide | lia | grind) (fun q => by first | decide | lia | grind)
              have fu396 : fk [62] [] u u396 := by rw [eu396]; exact fk_up fu354 (by decide) (fun q => absurd q (by decide))
              have rau396 : ra u396 := by rw [eu396]; exact ra_at rau354 (by first | decide | lia | grind) (by first | decide | lia | grind)
              have C397 : u396.1 62 = (upd ((upd ((upd ((upd (u.1 62) (x327 : Int32).toNatClampNeg x330)) (x337 : Int32).toNatClampNeg x340)) (x347 : Int32).toNatClampNeg x351)) (x356 : Int32).toNatClampNeg x393) := by rw [eu396, uk_up_self, C355]
              refine g_aload_n dX7_doIt_144 rfl ?_
              refine f_X7_13 rfl rfl dX7_doIt_145 ?_
              refine g_bipush (v := 41) dX7_doIt_148 (by decide) ?_
              refine g_dup2 dX7_doIt_150 rfl rfl ?_
              have v398 : vp_in 41 51 := uk_vin 51 rfl (by first | decide | lia | grind) (by first | decide | lia | grind)
              refine g_iald rfl rfl v398 dX7_doIt_151 ?_
              refine g_topi (fun x399 ex399 => ?_)
              have bx399 := uk_cl v398
              have px399 : x399 = ((upd ((upd ((upd ((upd (u.1 62) (x327 : Int32).toNatClampNeg x330)) (x337 : Int32).toNatClampNeg x340)) (x347 : Int32).toNatClampNeg x351)) (x356 : Int32).toNatClampNeg x393)) (41 : Int32).toNatClampNeg := ex399.trans (congrFun C397 _)
              refine g_iconst (v := 1) dX7_doIt_152 (by decide) ?_
              refine g_iadd dX7_doIt_153 ?_
              refine g_topi (fun x400 ex400 => ?_)
              have v401 : vp_in 41 51 := uk_vin 51 rfl (by first | decide | lia | grind) (by first | decide | lia | grind)
              have b402 := uk_cl v401
              refine g_iast rfl rfl v401 dX7_doIt_154 ?_
              refine g_mem (fun u403 eu403 => ?_)
              have hu403 : iv u403 := by rw [eu403]; exact iv_st hu396 (by unfold uk_is51; decide) (by first | decide | lia | grind) (by first | decide | lia | grind) (fun q => by first | decide | lia | grind) (fun q => by first | decide | lia | grind) (fun q => by first | decide | lia | grind)
              have fu403 : fk [62] [] u u403 := by rw [eu403]; exact fk_up fu396 (by decide) (fun q => absurd q (by decide))
              have rau403 : ra u403 := by rw [eu403]; exact ra_at rau396 (by first | decide | lia | grind) (by first | decide | lia | grind)
              have C404 : u403.1 62 = (upd ((upd ((upd ((upd ((upd (u.1 62) (x327 : Int32).toNatClampNeg x330)) (x337 : Int32).toNatClampNeg x340)) (x347 : Int32).toNatClampNeg x351)) (x356 : Int32).toNatClampNeg x393)) (41 : Int32).toNatClampNeg x400) := by rw [eu403, uk_up_self, C397]
              exact g_vret dX7_doIt_155 rfl ⟨rfl, hu403, fu403, rau403⟩
        · exact absurd c350 (by decide)
      · have zc326 := nx325 c326
        refine g_iconst (v := 1) dX7_doIt_31 (by decide) ?_
        refine g_goto (tgt := 36) dX7_doIt_32 (by decide) ?_
        refine g_istore dX7_doIt_36 (by decide) ?_
        refine g_aload_n dX7_doIt_38 rfl ?_
        refine f_X7_13 rfl rfl dX7_doIt_39 ?_
        refine g_iconst (v := 0) dX7_doIt_42 (by decide) ?_
        refine g_iload_n dX7_doIt_43 rfl ?_
        refine g_iadd dX7_doIt_44 ?_
        refine g_topi (fun x405 ex405 => ?_)
        refine g_dup2 dX7_doIt_45 rfl rfl ?_
        have v406 : vp_in x405 51 := uk_vin 51 rfl (by first | decide | lia | grind) (by first | decide | lia | grind)
        refine g_iald rfl rfl v406 dX7_doIt_46 ?_
        refine g_topi (fun x407 ex407 => ?_)
        have bx407 := uk_cl v406
        have rx407 : 0 ≤ x405 → x405 ≤ 7 → 0 ≤ x407 ∧ x407 ≤ 40 := fun a b => by rw [ex407]; exact sg_0 hu (by unfold uk_is51; decide) a b
        have rrx407 : 43 ≤ x405 → x405 ≤ 50 → 0 ≤ x407 ∧ x407 ≤ 7 := fun a b => by rw [ex407]; exact sg_43 hu (by unfold uk_is51; decide) a b
        have px407 : x407 = (u.1 62) (x405 : Int32).toNatClampNeg := ex407.trans (congrFun C62 _)
        refine g_iload_n dX7_doIt_47 rfl ?_
        refine g_isub dX7_doIt_48 ?_
        refine g_topi (fun x408 ex408 => ?_)
        have v409 : vp_in x405 51 := uk_vin 51 rfl (by first | decide | lia | grind) (by first | decide | lia | grind)
        have b410 := uk_cl v409
        refine g_iast rfl rfl v409 dX7_doIt_49 ?_
        refine g_mem (fun u411 eu411 => ?_)
        have hu411 : iv u411 := by rw [eu411]; exact iv_st hu (by unfold uk_is51; decide) (by first | decide | lia | grind) (by first | decide | lia | grind) (fun q => by first | decide | lia | grind) (fun q => by first | decide | lia | grind) (fun q => by first | decide | lia | grind)
        have fu411 : fk [62] [] u u411 := by rw [eu411]; exact fk_up f0 (by decide) (fun q => absurd q (by decide))
        have rau411 : ra u411 := by rw [eu411]; exact ra_at hra (by first | decide | lia | grind) (by first | decide | lia | grind)
        have C412 : u411.1 62 = (upd (u.1 62) (x405 : Int32).toNatClampNeg x408) := by rw [eu411, uk_up_self, C62]
        refine g_aload_n dX7_doIt_50 rfl ?_
        refine f_X7_13 rfl rfl dX7_doIt_51 ?_
        refine g_iconst (v := 0) dX7_doIt_54 (by decide) ?_
        refine g_aload_n dX7_doIt_55 rfl ?_
        refine f_X7_20 rfl rfl dX7_doIt_56 ?_
        refine g_iload_n dX7_doIt_59 rfl ?_
        have v413 : vp_in x1 8 := uk_vin 8 rfl (by first | decide | lia | grind) (by first | decide | lia | grind)
        refine g_iald rfl rfl v413 dX7_doIt_60 ?_
        refine g_topi (fun x414 ex414 => ?_)
        have bx414 := uk_cl v413
        have rx414 : (-4) ≤ x414 ∧ x414 ≤ 7 := by rw [ex414]; exact iv_at hu411 _ _ (uk_pick1 _ (by omega))
        refine g_iadd dX7_doIt_61 ?_
        refine g_topi (fun x415 ex415 => ?_)
        refine g_dup2 dX7_doIt_62 rfl rfl ?_
        have v416 : vp_in x415 51 := uk_vin 51 rfl (by first | decide | lia | grind) (by first | decide | lia | grind)
        refine g_iald rfl rfl v416 dX7_doIt_63 ?_
        refine g_topi (fun x417 ex417 => ?_)
        have bx417 := uk_cl v416
        have rx417 : 0 ≤ x415 → x415 ≤ 7 → 0 ≤ x417 ∧ x417 ≤ 40 := fun a b => by rw [ex417]; exact sg_0 hu411 (by unfold uk_is51; decide) a b
        have rrx417 : 43 ≤ x415 → x415 ≤ 50 → 0 ≤ x417 ∧ x417 ≤ 7 := fun a b => by rw [ex417]; exact sg_43 hu411 (by unfold uk_is51; decide) a b
        have px417 : x417 = ((upd (u.1 62) (x405 : Int32).toNatClampNeg x408)) (x415 : Int32).toNatClampNeg := ex417.trans (congrFun C412 _)
        have lx417 : x417 = u.1 62 (x415 : Int32).toNatClampNeg := by rw [px417, upd_ne]; all_goals grind
        refine g_iload_n dX7_doIt_64 rfl ?_
        refine g_iadd dX7_doIt_65 ?_
        refine g_topi (fun x418 ex418 => ?_)
        have v419 : vp_in x415 51 := uk_vin 51 rfl (by first | decide | lia | grind) (by first | decide | lia | grind)
        have b420 := uk_cl v419
        refine g_iast rfl rfl v419 dX7_doIt_66 ?_
        refine g_mem (fun u421 eu421 => ?_)
        have hu421 : iv u421 := by rw [eu421]; exact iv_st hu411 (by unfold uk_is51; decide) (by first | decide | lia | grind) (by first | decide | lia | grind) (fun q => by first | decide | lia | grind) (fun q => by first | decide | lia | grind) (fun q => by first | decide | lia | grind)
        have fu421 : fk [62] [] u u421 := by rw [eu421]; exact fk_up fu411 (by decide) (fun q => absurd q (by decide))
        have rau421 : ra u421 := by rw [eu421]; exact ra_at rau411 (by first | decide | lia | grind) (by first | decide | lia | grind)
        have C422 : u421.1 62 = (upd ((upd (u.1 62) (x405 : Int32).toNatClampNeg x408)) (x415 : Int32).toNatClampNeg x418) := by rw [eu421, uk_up_self, C412]
        refine g_aload_n dX7_doIt_67 rfl ?_
        refine f_X7_13 rfl rfl dX7_doIt_68 ?_
        refine g_iconst (v := 0) dX7_doIt_71 (by decide) ?_
        refine g_aload_n dX7_doIt_72 rfl ?_
        refine f_X7_23 rfl rfl dX7_doIt_73 ?_
        refine g_iload_n dX7_doIt_76 rfl ?_
        have v423 : vp_in x1 8 := uk_vin 8 rfl (by first | decide | lia | grind) (by first | decide | lia | grind)
        refine g_iald rfl rfl v423 dX7_doIt_77 ?_
        refine g_topi (fun x424 ex424 => ?_)
        have bx424 := uk_cl v423
        have rx424 : (-4) ≤ x424 ∧ x424 ≤ 7 := by rw [ex424]; exact iv_at hu421 _ _ (uk_pick1 _ (by omega))
        refine g_iadd dX7_doIt_78 ?_
        refine g_topi (fun x425 ex425 => ?_)
        refine g_dup2 dX7_doIt_79 rfl rfl ?_
        have v426 : vp_in x425 51 := uk_vin 51 rfl (by first | decide | lia | grind) (by first | decide | lia | grind)
        refine g_iald rfl rfl v426 dX7_doIt_80 ?_
        refine g_topi (fun x427 ex427 => ?_)
        have bx427 := uk_cl v426
        have rx427 : 0 ≤ x425 → x425 ≤ 7 → 0 ≤ x427 ∧ x427 ≤ 40 := fun a b => by rw [ex427]; exact sg_0 hu421 (by unfold uk_is51; decide) a b
        have rrx427 : 43 ≤ x425 → x425 ≤ 50 → 0 ≤ x427 ∧ x427 ≤ 7 := fun a b => by rw [ex427]; exact sg_43 hu421 (by unfold uk_is51; decide) a b
        have px427 : x427 = ((upd ((upd (u.1 62) (x405 : Int32).toNatClampNeg x408)) (x415 : Int32).toNatClampNeg x418)) (x425 : Int32).toNatClampNeg := ex427.trans (congrFun C422 _)
        have lx427 : (x425 = x415 → x427 = x418) ∧ (¬ x425 = x415 → x427 = u.1 62 (x425 : Int32).toNatClampNeg) := ⟨fun q => by rw [px427, upd_at q], fun q => by rw [px427, upd_ne, upd_ne]; all_goals grind⟩
        refine g_iload dX7_doIt_81 rfl ?_
        refine g_if_eq (tgt := 90) dX7_doIt_83 (by decide) (fun c428 => ?_) (fun c428 => ?_)
        · exact absurd c428 (by decide)
        · refine g_iload_n dX7_doIt_86 rfl ?_
          refine g_goto (tgt := 91) dX7_doIt_87 (by decide) ?_
          refine g_iadd dX7_doIt_91 ?_
          refine g_topi (fun x429 ex429 => ?_)
          have v430 : vp_in x425 51 := uk_vin 51 rfl (by first | decide | lia | grind) (by first | decide | lia | grind)
          have b431 := uk_cl v430
          refine g_iast rfl rfl v430 dX7_doIt_92 ?_
          refine g_mem (fun u432 eu432 => ?_)
          have hu432 : iv u432 := by rw [eu432]; exact iv_st hu421 (by unfold uk_is51; decide) (by first | decide | lia | grind) (by first | decide | lia | grind) (fun q => by first | decide | lia | grind) (fun q => by first | decide | lia | grind) (fun q => by first | decide | lia | grind)
          have fu432 : fk [62] [] u u432 := by rw [eu432]; exact fk_up fu421 (by decide) (fun q => absurd q (by decide))
          have rau432 : ra u432 := by rw [eu432]; exact ra_at rau421 (by first | decide | lia | grind) (by first | decide | lia | grind)
          have C433 : u432.1 62 = (upd ((upd ((upd (u.1 62) (x405 : Int32).toNatClampNeg x408)) (x415 : Int32).toNatClampNeg x418)) (x425 : Int32).toNatClampNeg x429) := by rw [eu432, uk_up_self, C422]
          refine g_aload_n dX7_doIt_93 rfl ?_
          refine f_X7_13 rfl rfl dX7_doIt_94 ?_
          refine g_bipush (v := 8) dX7_doIt_97 (by decide) ?_
          refine g_iload_n dX7_doIt_99 rfl ?_
          refine g_iadd dX7_doIt_100 ?_
          refine g_topi (fun x434 ex434 => ?_)
          refine g_iload_n dX7_doIt_101 rfl ?_
          refine g_bipush (v := 10) dX7_doIt_102 (by decide) ?_
          refine g_icmp_lt (tgt := 134) dX7_doIt_104 (by decide) (fun c435 => ?_) (fun c435 => ?_)
          · refine g_aload_n dX7_doIt_134 rfl ?_
            refine f_X7_13 rfl rfl dX7_doIt_135 ?_
            refine g_bipush (v := 8) dX7_doIt_138 (by decide) ?_
            refine g_iload_n dX7_doIt_140 rfl ?_
            refine g_iadd dX7_doIt_141 ?_
            refine g_topi (fun x436 ex436 => ?_)
            have v437 : vp_in x436 51 := uk_vin 51 rfl (by first | decide | lia | grind) (by first | decide | lia | grind)
            refine g_iald rfl rfl v437 dX7_doIt_142 ?_
            refine g_topi (fun x438 ex438 => ?_)
            have bx438 := uk_cl v437
            have rx438 : 0 ≤ x436 → x436 ≤ 7 → 0 ≤ x438 ∧ x438 ≤ 40 := fun a b => by rw [ex438]; exact sg_0 hu432 (by unfold uk_is51; decide) a b
            have rrx438 : 43 ≤ x436 → x436 ≤ 50 → 0 ≤ x438 ∧ x438 ≤ 7 := fun a b => by rw [ex438]; exact sg_43 hu432 (by unfold uk_is51; decide) a b
            have px438 : x438 = ((upd ((upd ((upd (u.1 62) (x405 : Int32).toNatClampNeg x408)) (x415 : Int32).toNatClampNeg x418)) (x425 : Int32).toNatClampNeg x429)) (x436 : Int32).toNatClampNeg := ex438.trans (congrFun C433 _)
            have v439 : vp_in x434 51 := uk_vin 51 rfl (by first | decide | lia | grind) (by first | decide | lia | grind)
            have b440 := uk_cl v439
            refine g_iast rfl rfl v439 dX7_doIt_143 ?_
            refine g_mem (fun u441 eu441 => ?_)
            have hu441 : iv u441 := by rw [eu441]; exact iv_st hu432 (by unfold uk_is51; decide) (by first | decide | lia | grind) (by first | decide | lia | grind) (fun q => by first | decide | lia | grind) (fun q => by first | decide | lia | grind) (fun q => by first | decide | lia | grind)
            have fu441 : fk [62] [] u u441 := by rw [eu441]; exact fk_up fu432 (by decide) (fun q => absurd q (by decide))
            have rau441 : ra u441 := by rw [eu441]; exact ra_at rau432 (by first | decide | lia | grind) (by first | decide | lia | grind)
            have C442 : u441.1 62 = (upd ((upd ((upd ((upd (u.1 62) (x405 : Int32).toNatClampNeg x408)) (x415 : Int32).toNatClampNeg x418)) (x425 : Int32).toNatClampNeg x429)) (x434 : Int32).toNatClampNeg x438) := by rw [eu441, uk_up_self, C433]
            refine g_aload_n dX7_doIt_144 rfl ?_
            refine f_X7_13 rfl rfl dX7_doIt_145 ?_
            refine g_bipush (v := 41) dX7_doIt_148 (by decide) ?_
            refine g_dup2 dX7_doIt_150 rfl rfl ?_
            have v443 : vp_in 41 51 := uk_vin 51 rfl (by first | decide | lia | grind) (by first | decide | lia | grind)
            refine g_iald rfl rfl v443 dX7_doIt_151 ?_
            refine g_topi (fun x444 ex444 => ?_)
            have bx444 := uk_cl v443
            have px444 : x444 = ((upd ((upd ((upd ((upd (u.1 62) (x405 : Int32).toNatClampNeg x408)) (x415 : Int32).toNatClampNeg x418)) (x425 : Int32).toNatClampNeg x429)) (x434 : Int32).toNatClampNeg x438)) (41 : Int32).toNatClampNeg := ex444.trans (congrFun C442 _)
            refine g_iconst (v := 1) dX7_doIt_152 (by decide) ?_
            refine g_iadd dX7_doIt_153 ?_
            refine g_topi (fun x445 ex445 => ?_)
            have v446 : vp_in 41 51 := uk_vin 51 rfl (by first | decide | lia | grind) (by first | decide | lia | grind)
            have b447 := uk_cl v446
            refine g_iast rfl rfl v446 dX7_doIt_154 ?_
            refine g_mem (fun u448 eu448 => ?_)
            have hu448 : iv u448 := by rw [eu448]; exact iv_st hu441 (by unfold uk_is51; decide) (by first | decide | lia | grind) (by first | decide | lia | grind) (fun q => by first | decide | lia | grind) (fun q => by first | decide | lia | grind) (fun q => by first | decide | lia | grind)
            have fu448 : fk [62] [] u u448 := by rw [eu448]; exact fk_up fu441 (by decide) (fun q => absurd q (by decide))
            have rau448 : ra u448 := by rw [eu448]; exact ra_at rau441 (by first | decide | lia | grind) (by first | decide | lia | grind)
            have C449 : u448.1 62 = (upd ((upd ((upd ((upd ((upd (u.1 62) (x405 : Int32).toNatClampNeg x408)) (x415 : Int32).toNatClampNeg x418)) (x425 : Int32).toNatClampNeg x429)) (x434 : Int32).toNatClampNeg x438)) (41 : Int32).toNatClampNeg x445) := by rw [eu448, uk_up_self, C442]
            exact g_vret dX7_doIt_155 rfl ⟨rfl, hu448, fu448, rau448⟩
          · refine g_aload_n dX7_doIt_107 rfl ?_
            refine f_X7_13 rfl rfl dX7_doIt_108 ?_
            refine g_bipush (v := 32) dX7_doIt_111 (by decide) ?_
            refine g_iload_n dX7_doIt_113 rfl ?_
            refine g_iadd dX7_doIt_114 ?_
            refine g_topi (fun x450 ex450 => ?_)
            have v451 : vp_in x450 51 := uk_vin 51 rfl (by first | decide | lia | grind) (by first | decide | lia | grind)
            refine g_iald rfl rfl v451 dX7_doIt_115 ?_
            refine g_topi (fun x452 ex452 => ?_)
            have bx452 := uk_cl v451
            have rx452 : 0 ≤ x450 → x450 ≤ 7 → 0 ≤ x452 ∧ x452 ≤ 40 := fun a b => by rw [ex452]; exact sg_0 hu432 (by unfold uk_is51; decide) a b
            have rrx452 : 43 ≤ x450 → x450 ≤ 50 → 0 ≤ x452 ∧ x452 ≤ 7 := fun a b => by rw [ex452]; exact sg_43 hu432 (by unfold uk_is51; decide) a b
            have px452 : x452 = ((upd ((upd ((upd (u.1 62) (x405 : Int32).toNatClampNeg x408)) (x415 : Int32).toNatClampNeg x418)) (x425 : Int32).toNatClampNeg x429)) (x450 : Int32).toNatClampNeg := ex452.trans (congrFun C433 _)
            refine g_iconst (v := 3) dX7_doIt_116 (by decide) ?_
            refine g_icmp_ne (tgt := 134) dX7_doIt_117 (by decide) (fun c453 => ?_) (fun c453 => ?_)
            · refine g_aload_n dX7_doIt_134 rfl ?_
              refine f_X7_13 rfl rfl dX7_doIt_135 ?_
              refine g_bipush (v := 8) dX7_doIt_138 (by decide) ?_
              refine g_iload_n dX7_doIt_140 rfl ?_
              refine g_iadd dX7_doIt_141 ?_
              refine g_topi (fun x454 ex454 => ?_)
              have v455 : vp_in x454 51 := uk_vin 51 rfl (by first | decide | lia | grind) (by first | decide | lia | grind)
              refine g_iald rfl rfl v455 dX7_doIt_142 ?_
              refine g_topi (fun x456 ex456 => ?_)
              have bx456 := uk_cl v455
              have rx456 : 0 ≤ x454 → x454 ≤ 7 → 0 ≤ x456 ∧ x456 ≤ 40 := fun a b => by rw [ex456]; exact sg_0 hu432 (by unfold uk_is51; decide) a b
              have rrx456 : 43 ≤ x454 → x454 ≤ 50 → 0 ≤ x456 ∧ x456 ≤ 7 := fun a b => by rw [ex456]; exact sg_43 hu432 (by unfold uk_is51; decide) a b
              have px456 : x456 = ((upd ((upd ((upd (u.1 62) (x405 : Int32).toNatClampNeg x408)) (x415 : Int32).toNatClampNeg x418)) (x425 : Int32).toNatClampNeg x429)) (x454 : Int32).toNatClampNeg := ex456.trans (congrFun C433 _)
              have v457 : vp_in x434 51 := uk_vin 51 rfl (by first | decide | lia | grind) (by first | decide | lia | grind)
              have b458 := uk_cl v457
              refine g_iast rfl rfl v457 dX7_doIt_143 ?_
              refine g_mem (fun u459 eu459 => ?_)
              have hu459 : iv u459 := by rw [eu459]; exact iv_st hu432 (by unfold uk_is51; decide) (by first | decide | lia | grind) (by first | decide | lia | grind) (fun q => by first | decide | lia | grind) (fun q => by first | decide | lia | grind) (fun q => by first | decide | lia | grind)
              have fu459 : fk [62] [] u u459 := by rw [eu459]; exact fk_up fu432 (by decide) (fun q => absurd q (by decide))
              have rau459 : ra u459 := by rw [eu459]; exact ra_at rau432 (by first | decide | lia | grind) (by first | decide | lia | grind)
              have C460 : u459.1 62 = (upd ((upd ((upd ((upd (u.1 62) (x405 : Int32).toNatClampNeg x408)) (x415 : Int32).toNatClampNeg x418)) (x425 : Int32).toNatClampNeg x429)) (x434 : Int32).toNatClampNeg x456) := by rw [eu459, uk_up_self, C433]
              refine g_aload_n dX7_doIt_144 rfl ?_
              refine f_X7_13 rfl rfl dX7_doIt_145 ?_
              refine g_bipush (v := 41) dX7_doIt_148 (by decide) ?_
              refine g_dup2 dX7_doIt_150 rfl rfl ?_
              have v461 : vp_in 41 51 := uk_vin 51 rfl (by first | decide | lia | grind) (by first | decide | lia | grind)
              refine g_iald rfl rfl v461 dX7_doIt_151 ?_
              refine g_topi (fun x462 ex462 => ?_)
              have bx462 := uk_cl v461
              have px462 : x462 = ((upd ((upd ((upd ((upd (u.1 62) (x405 : Int32).toNatClampNeg x408)) (x415 : Int32).toNatClampNeg x418)) (x425 : Int32).toNatClampNeg x429)) (x434 : Int32).toNatClampNeg x456)) (41 : Int32).toNatClampNeg := ex462.trans (congrFun C460 _)
              refine g_iconst (v := 1) dX7_doIt_152 (by decide) ?_
              refine g_iadd dX7_doIt_153 ?_
              refine g_topi (fun x463 ex463 => ?_)
              have v464 : vp_in 41 51 := uk_vin 51 rfl (by first | decide | lia | grind) (by first | decide | lia | grind)
              have b465 := uk_cl v464
              refine g_iast rfl rfl v464 dX7_doIt_154 ?_
              refine g_mem (fun u466 eu466 => ?_)
              have hu466 : iv u466 := by rw [eu466]; exact iv_st hu459 (by unfold uk_is51; decide) (by first | decide | lia | grind) (by first | decide | lia | grind) (fun q => by first | decide | lia | grind) (fun q => by first | decide | lia | grind) (fun q => by first | decide | lia | grind)
              have fu466 : fk [62] [] u u466 := by rw [eu466]; exact fk_up fu459 (by decide) (fun q => absurd q (by decide))
              have rau466 : ra u466 := by rw [eu466]; exact ra_at rau459 (by first | decide | lia | grind) (by first | decide | lia | grind)
              have C467 : u466.1 62 = (upd ((upd ((upd ((upd ((upd (u.1 62) (x405 : Int32).toNatClampNeg x408)) (x415 : Int32).toNatClampNeg x418)) (x425 : Int32).toNatClampNeg x429)) (x434 : Int32).toNatClampNeg x456)) (41 : Int32).toNatClampNeg x463) := by rw [eu466, uk_up_self, C460]
              exact g_vret dX7_doIt_155 rfl ⟨rfl, hu466, fu466, rau466⟩
            · refine g_iconst (v := 1) dX7_doIt_120 (by decide) ?_
              refine g_aload_n dX7_doIt_121 rfl ?_
              refine f_X7_13 rfl rfl dX7_doIt_122 ?_
              refine g_bipush (v := 8) dX7_doIt_125 (by decide) ?_
              refine g_iload_n dX7_doIt_127 rfl ?_
              refine g_iadd dX7_doIt_128 ?_
              refine g_topi (fun x468 ex468 => ?_)
              have v469 : vp_in x468 51 := uk_vin 51 rfl (by first | decide | lia | grind) (by first | decide | lia | grind)
              refine g_iald rfl rfl v469 dX7_doIt_129 ?_
              refine g_topi (fun x470 ex470 => ?_)
              have bx470 := uk_cl v469
              have rx470 : 0 ≤ x468 → x468 ≤ 7 → 0 ≤ x470 ∧ x470 ≤ 40 := fun a b => by rw [ex470]; exact sg_0 hu432 (by unfold uk_is51; decide) a b
              have rrx470 : 43 ≤ x468 → x468 ≤ 50 → 0 ≤ x470 ∧ x470 ≤ 7 := fun a b => by rw [ex470]; exact sg_43 hu432 (by unfold uk_is51; decide) a b
              have px470 : x470 = ((upd ((upd ((upd (u.1 62) (x405 : Int32).toNatClampNeg x408)) (x415 : Int32).toNatClampNeg x418)) (x425 : Int32).toNatClampNeg x429)) (x468 : Int32).toNatClampNeg := ex470.trans (congrFun C433 _)
              refine g_isub dX7_doIt_130 ?_
              refine g_topi (fun x471 ex471 => ?_)
              refine g_goto (tgt := 143) dX7_doIt_131 (by decide) ?_
              have v472 : vp_in x434 51 := uk_vin 51 rfl (by first | decide | lia | grind) (by first | decide | lia | grind)
              have b473 := uk_cl v472
              refine g_iast rfl rfl v472 dX7_doIt_143 ?_
              refine g_mem (fun u474 eu474 => ?_)
              have hu474 : iv u474 := by rw [eu474]; exact iv_st hu432 (by unfold uk_is51; decide) (by first | decide | lia | grind) (by first | decide | lia | grind) (fun q => by first | decide | lia | grind) (fun q => by first | decide | lia | grind) (fun q => by first | decide | lia | grind)
              have fu474 : fk [62] [] u u474 := by rw [eu474]; exact fk_up fu432 (by decide) (fun q => absurd q (by decide))
              have rau474 : ra u474 := by rw [eu474]; exact ra_at rau432 (by first | decide | lia | grind) (by first | decide | lia | grind)
              have C475 : u474.1 62 = (upd ((upd ((upd ((upd (u.1 62) (x405 : Int32).toNatClampNeg x408)) (x415 : Int32).toNatClampNeg x418)) (x425 : Int32).toNatClampNeg x429)) (x434 : Int32).toNatClampNeg x471) := by rw [eu474, uk_up_self, C433]
              refine g_aload_n dX7_doIt_144 rfl ?_
              refine f_X7_13 rfl rfl dX7_doIt_145 ?_
              refine g_bipush (v := 41) dX7_doIt_148 (by decide) ?_
              refine g_dup2 dX7_doIt_150 rfl rfl ?_
              have v476 : vp_in 41 51 := uk_vin 51 rfl (by first | decide | lia | grind) (by first | decide | lia | grind)
              refine g_iald rfl rfl v476 dX7_doIt_151 ?_
              refine g_topi (fun x477 ex477 => ?_)
              have bx477 := uk_cl v476
              have px477 : x477 = ((upd ((upd ((upd ((upd (u.1 62) (x405 : Int32).toNatClampNeg x408)) (x415 : Int32).toNatClampNeg x418)) (x425 : Int32).toNatClampNeg x429)) (x434 : Int32).toNatClampNeg x471)) (41 : Int32).toNatClampNeg := ex477.trans (congrFun C475 _)
              refine g_iconst (v := 1) dX7_doIt_152 (by decide) ?_
              refine g_iadd dX7_doIt_153 ?_
              refine g_topi (fun x478 ex478 => ?_)
              have v479 : vp_in 41 51 := uk_vin 51 rfl (by first | decide | lia | grind) (by first | decide | lia | grind)
              have b480 := uk_cl v479
              refine g_iast rfl rfl v479 dX7_doIt_154 ?_
              refine g_mem (fun u481 eu481 => ?_)
              have hu481 : iv u481 := by rw [eu481]; exact iv_st hu474 (by unfold uk_is51; decide) (by first | decide | lia | grind) (by first | decide | lia | grind) (fun q => by first | decide | lia | grind) (fun q => by first | decide | lia | grind) (fun q => by first | decide | lia | grind)
              have fu481 : fk [62] [] u u481 := by rw [eu481]; exact fk_up fu474 (by decide) (fun q => absurd q (by decide))
              have rau481 : ra u481 := by rw [eu481]; exact ra_at rau474 (by first | decide | lia | grind) (by first | decide | lia | grind)
              have C482 : u481.1 62 = (upd ((upd ((upd ((upd ((upd (u.1 62) (x405 : Int32).toNatClampNeg x408)) (x415 : Int32).toNatClampNeg x418)) (x425 : Int32).toNatClampNeg x429)) (x434 : Int32).toNatClampNeg x471)) (41 : Int32).toNatClampNeg x478) := by rw [eu481, uk_up_self, C475]
              exact g_vret dX7_doIt_155 rfl ⟨rfl, hu481, fu481, rau481⟩
abbrev q_X7_doIt (u : uk_Mem) (g : Int32) (r : Option Value) (u' : uk_Mem) : Prop := (r = none) ∧ (iv u' ∧ fk [62] [] u u' ∧ ra u')
theorem c_X7_doIt {G : uk_D} (hs : uk_Sep G) {u : uk_Mem} (hu : iv u) (hra : ra u) (g : Int32) (p0 : (0 ≤ g ∧ g ≤ 7) ∨ (10 ≤ g ∧ g ≤ 17)) (p1 : (g < 10 → 0 ≤ (u.1 64 (g).toNatClampNeg) ∧ (u.1 64 (g).toNatClampNeg) < g ∧ 0 ≤ (u.1 65 (g).toNatClampNeg) ∧ (u.1 65 (g).toNatClampNeg) < g ∧ u.1 62 (g).toNatClampNeg < 40 ∧ ((u.1 64 (g).toNatClampNeg) = (u.1 65 (g).toNatClampNeg) → 2 ≤ u.1 62 (u.1 64 (g).toNatClampNeg).toNatClampNeg) ∧ (¬ (u.1 64 (g).toNatClampNeg) = (u.1 65 (g).toNatClampNeg) → 1 ≤ u.1 62 (u.1 64 (g).toNatClampNeg).toNatClampNeg ∧ 1 ≤ u.1 62 (u.1 65 (g).toNatClampNeg).toNatClampNeg))) (p2 : (10 ≤ g → 0 ≤ (u.1 64 ((g - 10)).toNatClampNeg) ∧ (u.1 64 ((g - 10)).toNatClampNeg) < (g - 10) ∧ 0 ≤ (u.1 65 ((g - 10)).toNatClampNeg) ∧ (u.1 65 ((g - 10)).toNatClampNeg) < (g - 10) ∧ 1 ≤ u.1 62 ((g - 10)).toNatClampNeg ∧ u.1 62 (u.1 64 ((g - 10)).toNatClampNeg).toNatClampNeg < 40 ∧ ((u.1 62 (32 + (g - 10)).toNatClampNeg = 0 ∨ (u.1 62 (32 + (g - 10)).toNatClampNeg = 3 ∧ u.1 62 (8 + (g - 10)).toNatClampNeg = 1)) → (u.1 64 ((g - 10)).toNatClampNeg) = (u.1 65 ((g - 10)).toNatClampNeg) → u.1 62 (u.1 64 ((g - 10)).toNatClampNeg).toNatClampNeg + 2 ≤ 40) ∧ ((u.1 62 (32 + (g - 10)).toNatClampNeg = 0 ∨ (u.1 62 (32 + (g - 10)).toNatClampNeg = 3 ∧ u.1 62 (8 + (g - 10)).toNatClampNeg = 1)) → ¬ (u.1 64 ((g - 10)).toNatClampNeg) = (u.1 65 ((g - 10)).toNatClampNeg) → u.1 62 (u.1 65 ((g - 10)).toNatClampNeg).toNatClampNeg < 40))) (d : Nat) : uk_Meth G (d + 1) mX7_doIt [.ref (uk_ad G 60), .int g] u (q_X7_doIt u g) := by
  rcases p0 with q | q
  · obtain ⟨a0, a1, a2, a3, a4, a5, a6⟩ := p1 (by grind)
    exact c_X7_doIt_a hs hu hra g q.1 q.2 a0 a1 a2 a3 a4 a5 a6 d
  · obtain ⟨a0, a1, a2, a3, a4, a5, a6, a7⟩ := p2 q.1
    exact c_X7_doIt_b hs hu hra g q.1 q.2 a0 a1 a2 a3 a4 a5 a6 a7 d
abbrev q_X7_isDoing (u : uk_Mem) (g : Int32) (r : Option Value) (u' : uk_Mem) : Prop := (∃ x : Int32, r = some (.int x) ∧ (x = 0 ∨ x = 1) ∧ (¬ x = 0 → ((0 ≤ g ∧ g ≤ 7 ∧ g < u.1 60 3) ∨ (10 ≤ g ∧ g ≤ 17 ∧ g - 10 < u.1 60 3))) ∧ (x = 0 → True)) ∧ (u' = u)
set_option maxHeartbeats 4000000 in
set_option maxRecDepth 20000 in
theorem c_X7_isDoing {G : uk_D} (hs : uk_Sep G) {u : uk_Mem} (hu : iv u) (g : Int32) (d : Nat) : uk_Meth G (d + 2) mX7_isDoing [.ref (uk_ad G 60), .int g] u (q_X7_isDoing u g) := by
  refine uk_Meth.of hs (by decide) (Nat.le_of_ble_eq_true rfl) (fun X => ?_)
  refine g_aload_n dX7_isDoing_0 rfl ?_
  refine g_iload_n dX7_isDoing_1 rfl ?_
  refine cl_X7_163 (c := 60) (As := [.int g]) rfl (c_X7_isStuff (G := G) hs hu  g  (d)) rfl (by omega) rfl rfl (Nat.le_of_ble_eq_true rfl) dX7_isDoing_2 (fun r1 u2 q3 => ?_)
  obtain ⟨⟨x4, rfl, tx4, nx4, zx4⟩, mq3⟩ := q3
  rw [mq3]
  refine g_if_ne (tgt := 19) dX7_isDoing_5 (by decide) (fun c5 => ?_) (fun c5 => ?_)
  · have zc5 := nx4 c5
    refine g_iconst (v := 1) dX7_isDoing_19 (by decide) ?_
    refine g_goto (tgt := 24) dX7_isDoing_20 (by decide) ?_
    exact g_iret (ty := .boolean) dX7_isDoing_24 rfl rfl ⟨⟨1, rfl, Or.inr rfl, fun _ => by first | trivial | lia | grind, fun q => absurd q (by decide)⟩, rfl⟩
  · have zc5 := zx4 c5
    refine g_aload_n dX7_isDoing_8 rfl ?_
    refine g_iload_n dX7_isDoing_9 rfl ?_
    refine g_bipush (v := 10) dX7_isDoing_10 (by decide) ?_
    refine g_isub dX7_isDoing_12 ?_
    refine g_topi (fun x6 ex6 => ?_)
    refine cl_X7_163 (c := 60) (As := [.int x6]) rfl (c_X7_isStuff (G := G) hs hu  x6  (d)) rfl (by omega) rfl rfl (Nat.le_of_ble_eq_true rfl) dX7_isDoing_13 (fun r7 u8 q9 => ?_)
    obtain ⟨⟨x10, rfl, tx10, nx10, zx10⟩, mq9⟩ := q9
    rw [mq9]
    refine g_if_eq (tgt := 23) dX7_isDoing_16 (by decide) (fun c11 => ?_) (fun c11 => ?_)
    · have zc11 := zx10 c11
      refine g_iconst (v := 0) dX7_isDoing_23 (by decide) ?_
      exact g_iret (ty := .boolean) dX7_isDoing_24 rfl rfl ⟨⟨0, rfl, Or.inl rfl, fun q => absurd rfl q, fun _ => by first | trivial | lia | grind⟩, rfl⟩
    · have zc11 := nx10 c11
      refine g_iconst (v := 1) dX7_isDoing_19 (by decide) ?_
      refine g_goto (tgt := 24) dX7_isDoing_20 (by decide) ?_
      exact g_iret (ty := .boolean) dX7_isDoing_24 rfl rfl ⟨⟨1, rfl, Or.inr rfl, fun _ => by first | trivial | lia | grind, fun q => absurd q (by decide)⟩, rfl⟩
abbrev q_X7_allOf (u : uk_Mem) (w : Int32) (r : Option Value) (u' : uk_Mem) : Prop := (∃ x : Int32, r = some (.int x) ∧ True) ∧ (u' = u)
set_option maxHeartbeats 4000000 in
set_option maxRecDepth 20000 in
theorem c_X7_allOf {G : uk_D} (hs : uk_Sep G) {u : uk_Mem} (hu : iv u) (w : Int32) (p0 : w = 0 ∨ w = 16) (d : Nat) : uk_Meth G d mX7_allOf [.ref (uk_ad G 60), .int w] u (q_X7_allOf u w) := by
  refine uk_Meth.of hs (by decide) (Nat.le_of_ble_eq_true rfl) (fun X => ?_)
  refine g_iconst (v := 0) dX7_allOf_0 (by decide) ?_
  refine g_istore_n dX7_allOf_1 (by decide) ?_
  refine g_iconst (v := 0) dX7_allOf_2 (by decide) ?_
  refine g_istore_n dX7_allOf_3 (by decide) ?_
  have L4_0 : ∀ i3 : Int32, 0 ≤ i3 → i3 ≤ 8 → ∀ (w2 : Int32), uk_G G X mX7_allOf d (q_X7_allOf u w) 4 [(0, .ref (uk_ad G 60)), (1, .int w), (2, .int w2), (3, .int i3)] [] u := by
    refine uk_upl 8 ?_
    intro i3 ai3 bi3 ihi3 w2
    refine g_iload_n dX7_allOf_4 rfl ?_
    refine g_aload_n dX7_allOf_5 rfl ?_
    refine f_X7_79 rfl rfl dX7_allOf_6 ?_
    refine g_topi (fun x4 ex4 => ?_)
    have rx4 : 0 ≤ x4 ∧ x4 ≤ 8 := by rw [ex4]; exact iv_at hu _ _ rfl
    have s5 : u.1 60 3 = x4 := ex4.symm
    refine g_icmp_ge (tgt := 46) dX7_allOf_9 (by decide) (fun c6 => ?_) (fun c6 => ?_)
    · refine g_iload_n dX7_allOf_46 rfl ?_
      exact g_iret (ty := .int) dX7_allOf_47 rfl rfl ⟨⟨_, rfl, by first | trivial | lia | grind⟩, rfl⟩
    · refine g_iload_n dX7_allOf_12 rfl ?_
      refine g_aload_n dX7_allOf_13 rfl ?_
      refine f_X7_13 rfl rfl dX7_allOf_14 ?_
      refine g_iconst (v := 0) dX7_allOf_17 (by decide) ?_
      refine g_iload_n dX7_allOf_18 rfl ?_
      refine g_iadd dX7_allOf_19 ?_
      refine g_topi (fun x7 ex7 => ?_)
      have v8 : vp_in x7 51 := uk_vin 51 rfl (by first | decide | lia | grind) (by first | decide | lia | grind)
      refine g_iald rfl rfl v8 dX7_allOf_20 ?_
      refine g_topi (fun x9 ex9 => ?_)
      have bx9 := uk_cl v8
      have rx9 : 0 ≤ x7 → x7 ≤ 7 → 0 ≤ x9 ∧ x9 ≤ 40 := fun a b => by rw [ex9]; exact sg_0 hu (by unfold uk_is51; decide) a b
      have rrx9 : 43 ≤ x7 → x7 ≤ 50 → 0 ≤ x9 ∧ x9 ≤ 7 := fun a b => by rw [ex9]; exact sg_43 hu (by unfold uk_is51; decide) a b
      refine g_iload_n dX7_allOf_21 rfl ?_
      refine g_if_ne (tgt := 29) dX7_allOf_22 (by decide) (fun c10 => ?_) (fun c10 => ?_)
      · refine g_aload_n dX7_allOf_29 rfl ?_
        refine f_X7_13 rfl rfl dX7_allOf_30 ?_
        refine g_iload_n dX7_allOf_33 rfl ?_
        refine g_iload_n dX7_allOf_34 rfl ?_
        refine g_iadd dX7_allOf_35 ?_
        refine g_topi (fun x11 ex11 => ?_)
        have v12 : vp_in x11 51 := uk_vin 51 rfl (by first | decide | lia | grind) (by first | decide | lia | grind)
        refine g_iald rfl rfl v12 dX7_allOf_36 ?_
        refine g_topi (fun x13 ex13 => ?_)
        have bx13 := uk_cl v12
        have rx13 : 0 ≤ x11 → x11 ≤ 7 → 0 ≤ x13 ∧ x13 ≤ 40 := fun a b => by rw [ex13]; exact sg_0 hu (by unfold uk_is51; decide) a b
        have rrx13 : 43 ≤ x11 → x11 ≤ 50 → 0 ≤ x13 ∧ x13 ≤ 7 := fun a b => by rw [ex13]; exact sg_43 hu (by unfold uk_is51; decide) a b
        refine g_imul dX7_allOf_37 ?_
        refine g_topi (fun x14 ex14 => ?_)
        refine g_iadd dX7_allOf_38 ?_
        refine g_topi (fun x15 ex15 => ?_)
        refine g_istore_n dX7_allOf_39 (by decide) ?_
        refine g_iinc (v := i3 + 1) dX7_allOf_40 rfl rfl (by decide) ?_
        refine g_goto (tgt := 4) dX7_allOf_43 (by decide) ?_
        refine g_pick (lv' := [(0, .ref (uk_ad G 60)), (1, .int w), (2, .int x15), (3, .int (i3 + 1))]) [0, 1, 2, 3] rfl ?_
        exact ihi3 (by first | lia | grind) x15 
      · refine g_iconst (v := 1) dX7_allOf_25 (by decide) ?_
        refine g_goto (tgt := 37) dX7_allOf_26 (by decide) ?_
        refine g_imul dX7_allOf_37 ?_
        refine g_topi (fun x16 ex16 => ?_)
        refine g_iadd dX7_allOf_38 ?_
        refine g_topi (fun x17 ex17 => ?_)
        refine g_istore_n dX7_allOf_39 (by decide) ?_
        refine g_iinc (v := i3 + 1) dX7_allOf_40 rfl rfl (by decide) ?_
        refine g_goto (tgt := 4) dX7_allOf_43 (by decide) ?_
        refine g_pick (lv' := [(0, .ref (uk_ad G 60)), (1, .int w), (2, .int x17), (3, .int (i3 + 1))]) [0, 1, 2, 3] rfl ?_
        exact ihi3 (by first | lia | grind) x17 
  refine g_pick (lv' := [(0, .ref (uk_ad G 60)), (1, .int w), (2, .int 0), (3, .int 0)]) [0, 1, 2, 3] rfl ?_
  exact L4_0 0 (by first | decide | lia | grind) (by first | decide | lia | grind) 0 
abbrev q_X7_rule (u : uk_Mem) (w : Int32) (r : Option Value) (u' : uk_Mem) : Prop := (∃ x : Int32, r = some (.int x) ∧ True) ∧ (u' = u)
set_option maxHeartbeats 4000000 in
set_option maxRecDepth 20000 in
theorem c_X7_rule {G : uk_D} (hs : uk_Sep G) {u : uk_Mem} (hu : iv u) (w : Int32) (d : Nat) : uk_Meth G (d + 1) mX7_rule [.ref (uk_ad G 60), .int w] u (q_X7_rule u w) := by
  refine uk_Meth.of hs (by decide) (Nat.le_of_ble_eq_true rfl) (fun X => ?_)
  refine g_iconst (v := 0) dX7_rule_0 (by decide) ?_
  refine g_istore_n dX7_rule_1 (by decide) ?_
  refine g_iconst (v := 0) dX7_rule_2 (by decide) ?_
  refine g_istore_n dX7_rule_3 (by decide) ?_
  refine g_iconst (v := 0) dX7_rule_4 (by decide) ?_
  refine g_istore dX7_rule_5 (by decide) ?_
  have L7_0 : ∀ i4 : Int32, 0 ≤ i4 → i4 ≤ 8 → ∀ (w2 : Int32) (w3 : Int32), uk_G G X mX7_rule (d + 1) (q_X7_rule u w) 7 [(0, .ref (uk_ad G 60)), (1, .int w), (2, .int w2), (3, .int w3), (4, .int i4)] [] u := by
    refine uk_upl 8 ?_
    intro i4 ai4 bi4 ihi4 w2 w3
    refine g_iload dX7_rule_7 rfl ?_
    refine g_aload_n dX7_rule_9 rfl ?_
    refine f_X7_79 rfl rfl dX7_rule_10 ?_
    refine g_topi (fun x5 ex5 => ?_)
    have rx5 : 0 ≤ x5 ∧ x5 ≤ 8 := by rw [ex5]; exact iv_at hu _ _ rfl
    have s6 : u.1 60 3 = x5 := ex5.symm
    refine g_icmp_ge (tgt := 63) dX7_rule_13 (by decide) (fun c7 => ?_) (fun c7 => ?_)
    · refine g_iload_n dX7_rule_63 rfl ?_
      by_cases c8 : w = 0
      · refine g_tabIn (off := (36)) (tgt := 100) dX7_rule_64 (by rw [c8]; decide) (by rw [c8]; decide) (by rw [c8]; rfl) (by decide) ?_
        refine g_aload_n dX7_rule_100 rfl ?_
        refine f_X7_79 rfl rfl dX7_rule_101 ?_
        refine g_topi (fun x9 ex9 => ?_)
        have rx9 : 0 ≤ x9 ∧ x9 ≤ 8 := by rw [ex9]; exact iv_at hu _ _ rfl
        have qx9 : x9 = x5 := by rw [ex9]; exact s6
        exact g_iret (ty := .int) dX7_rule_104 rfl rfl ⟨⟨_, rfl, by first | trivial | lia | grind⟩, rfl⟩
      by_cases c10 : w = 1
      · refine g_tabIn (off := (41)) (tgt := 105) dX7_rule_64 (by rw [c10]; decide) (by rw [c10]; decide) (by rw [c10]; rfl) (by decide) ?_
        refine g_aload_n dX7_rule_105 rfl ?_
        refine f_X7_7 rfl rfl dX7_rule_106 ?_
        refine g_bipush (v := 40) dX7_rule_109 (by decide) ?_
        have v11 : vp_in 40 153 := uk_vin 153 rfl (by first | decide | lia | grind) (by first | decide | lia | grind)
        refine g_iald rfl rfl v11 dX7_rule_111 ?_
        refine g_topi (fun x12 ex12 => ?_)
        have bx12 := uk_cl v11
        exact g_iret (ty := .int) dX7_rule_112 rfl rfl ⟨⟨_, rfl, by first | trivial | lia | grind⟩, rfl⟩
      by_cases c13 : w = 2
      · refine g_tabIn (off := (49)) (tgt := 113) dX7_rule_64 (by rw [c13]; decide) (by rw [c13]; decide) (by rw [c13]; rfl) (by decide) ?_
        refine g_aload_n dX7_rule_113 rfl ?_
        refine f_X7_7 rfl rfl dX7_rule_114 ?_
        refine g_bipush (v := 41) dX7_rule_117 (by decide) ?_
        have v14 : vp_in 41 153 := uk_vin 153 rfl (by first | decide | lia | grind) (by first | decide | lia | grind)
        refine g_iald rfl rfl v14 dX7_rule_119 ?_
        refine g_topi (fun x15 ex15 => ?_)
        have bx15 := uk_cl v14
        exact g_iret (ty := .int) dX7_rule_120 rfl rfl ⟨⟨_, rfl, by first | trivial | lia | grind⟩, rfl⟩
      by_cases c16 : w = 3
      · refine g_tabIn (off := (57)) (tgt := 121) dX7_rule_64 (by rw [c16]; decide) (by rw [c16]; decide) (by rw [c16]; rfl) (by decide) ?_
        refine g_iload_n dX7_rule_121 rfl ?_
        exact g_iret (ty := .int) dX7_rule_122 rfl rfl ⟨⟨_, rfl, by first | trivial | lia | grind⟩, rfl⟩
      by_cases c17 : w = 4
      · refine g_tabIn (off := (59)) (tgt := 123) dX7_rule_64 (by rw [c17]; decide) (by rw [c17]; decide) (by rw [c17]; rfl) (by decide) ?_
        refine g_iload_n dX7_rule_123 rfl ?_
        exact g_iret (ty := .int) dX7_rule_124 rfl rfl ⟨⟨_, rfl, by first | trivial | lia | grind⟩, rfl⟩
      refine g_tabOut (tgt := 125) dX7_rule_64 (uk_swo 0 4 rfl rfl (by first | lia | grind)) (by decide) ?_
      refine g_iconst (v := (-1)) dX7_rule_125 (by decide) ?_
      exact g_iret (ty := .int) dX7_rule_126 rfl rfl ⟨⟨_, rfl, by first | trivial | lia | grind⟩, rfl⟩
    · refine g_iload_n dX7_rule_16 rfl ?_
      refine g_aload_n dX7_rule_17 rfl ?_
      refine g_iload dX7_rule_18 rfl ?_
      refine cl_X7_166 (c := 60) (As := [.int i4]) rfl (c_X7_isRaw (G := G) hs hu  i4 (by first | trivial | decide | lia | grind) (by first | trivial | decide | lia | grind) (d)) rfl (by omega) rfl rfl (Nat.le_of_ble_eq_true rfl) dX7_rule_20 (fun r18 u19 q20 => ?_)
      obtain ⟨⟨x21, rfl, tx21, nx21, zx21⟩, mq20⟩ := q20
      rw [mq20]
      refine cl_X7_169 (As := [.int x21]) rfl (c_X7_flag (G := G) hs hu  x21  (d)) rfl (by omega) rfl (Nat.le_of_ble_eq_true rfl) dX7_rule_23 (fun r22 u23 q24 => ?_)
      obtain ⟨⟨x25, rfl, tx25⟩, mq24⟩ := q24
      rw [mq24]
      refine g_iload dX7_rule_26 rfl ?_
      refine g_ishl dX7_rule_28 (fun x26 ex26 => ?_)
      refine g_ior dX7_rule_29 ?_
      refine g_topi (fun x27 ex27 => ?_)
      refine g_istore_n dX7_rule_30 (by decide) ?_
      refine g_iload_n dX7_rule_31 rfl ?_
      refine g_aload_n dX7_rule_32 rfl ?_
      refine f_X7_7 rfl rfl dX7_rule_33 ?_
      refine g_iconst (v := 0) dX7_rule_36 (by decide) ?_
      refine g_iload dX7_rule_37 rfl ?_
      refine g_iadd dX7_rule_39 ?_
      refine g_topi (fun x28 ex28 => ?_)
      have v29 : vp_in x28 153 := uk_vin 153 rfl (by first | decide | lia | grind) (by first | decide | lia | grind)
      refine g_iald rfl rfl v29 dX7_rule_40 ?_
      refine g_topi (fun x30 ex30 => ?_)
      have bx30 := uk_cl v29
      have rx30 : 0 ≤ x28 → x28 ≤ 7 → 0 ≤ x30 ∧ x30 ≤ 40 := fun a b => by rw [ex30]; exact sg_0 hu (by unfold uk_is51; decide) a b
      have rrx30 : 43 ≤ x28 → x28 ≤ 50 → 0 ≤ x30 ∧ x30 ≤ 7 := fun a b => by rw [ex30]; exact sg_43 hu (by unfold uk_is51; decide) a b
      refine g_if_le (tgt := 48) dX7_rule_41 (by decide) (fun c31 => ?_) (fun c31 => ?_)
      · refine g_iconst (v := 0) dX7_rule_48 (by decide) ?_
        refine cl_X7_169 (As := [.int 0]) rfl (c_X7_flag (G := G) hs hu  0  (d)) rfl (by omega) rfl (Nat.le_of_ble_eq_true rfl) dX7_rule_49 (fun r32 u33 q34 => ?_)
        obtain ⟨⟨x35, rfl, tx35⟩, mq34⟩ := q34
        rw [mq34]
        refine g_iload dX7_rule_52 rfl ?_
        refine g_ishl dX7_rule_54 (fun x36 ex36 => ?_)
        refine g_ior dX7_rule_55 ?_
        refine g_topi (fun x37 ex37 => ?_)
        refine g_istore_n dX7_rule_56 (by decide) ?_
        refine g_iinc (v := i4 + 1) dX7_rule_57 rfl rfl (by decide) ?_
        refine g_goto (tgt := 7) dX7_rule_60 (by decide) ?_
        refine g_pick (lv' := [(0, .ref (uk_ad G 60)), (1, .int w), (2, .int x27), (3, .int x37), (4, .int (i4 + 1))]) [0, 1, 2, 3, 4] rfl ?_
        exact ihi4 (by first | lia | grind) x27 x37 
      · refine g_iconst (v := 1) dX7_rule_44 (by decide) ?_
        refine g_goto (tgt := 49) dX7_rule_45 (by decide) ?_
        refine cl_X7_169 (As := [.int 1]) rfl (c_X7_flag (G := G) hs hu  1  (d)) rfl (by omega) rfl (Nat.le_of_ble_eq_true rfl) dX7_rule_49 (fun r38 u39 q40 => ?_)
        obtain ⟨⟨x41, rfl, tx41⟩, mq40⟩ := q40
        rw [mq40]
        refine g_iload dX7_rule_52 rfl ?_
        refine g_ishl dX7_rule_54 (fun x42 ex42 => ?_)
        refine g_ior dX7_rule_55 ?_
        refine g_topi (fun x43 ex43 => ?_)
        refine g_istore_n dX7_rule_56 (by decide) ?_
        refine g_iinc (v := i4 + 1) dX7_rule_57 rfl rfl (by decide) ?_
        refine g_goto (tgt := 7) dX7_rule_60 (by decide) ?_
        refine g_pick (lv' := [(0, .ref (uk_ad G 60)), (1, .int w), (2, .int x27), (3, .int x43), (4, .int (i4 + 1))]) [0, 1, 2, 3, 4] rfl ?_
        exact ihi4 (by first | lia | grind) x27 x43 
  refine g_pick (lv' := [(0, .ref (uk_ad G 60)), (1, .int w), (2, .int 0), (3, .int 0), (4, .int 0)]) [0, 1, 2, 3, 4] rfl ?_
  exact L7_0 0 (by first | decide | lia | grind) (by first | decide | lia | grind) 0 0 
abbrev q_X7_stuff (u : uk_Mem) (m : Int32) (w : Int32) (r : Option Value) (u' : uk_Mem) : Prop := (∃ x : Int32, r = some (.int x) ∧ True) ∧ (u' = u)
set_option maxHeartbeats 4000000 in
set_option maxRecDepth 20000 in
theorem c_X7_stuff {G : uk_D} (hs : uk_Sep G) {u : uk_Mem} (hu : iv u) (m : Int32) (w : Int32) (d : Nat) : uk_Meth G (d + 2) mX7_stuff [.ref (uk_ad G 60), .int m, .int w] u (q_X7_stuff u m w) := by
  refine uk_Meth.of hs (by decide) (Nat.le_of_ble_eq_true rfl) (fun X => ?_)
  refine g_aload_n dX7_stuff_0 rfl ?_
  refine g_iload_n dX7_stuff_1 rfl ?_
  refine cl_X7_163 (c := 60) (As := [.int m]) rfl (c_X7_isStuff (G := G) hs hu  m  (d)) rfl (by omega) rfl rfl (Nat.le_of_ble_eq_true rfl) dX7_stuff_2 (fun r1 u2 q3 => ?_)
  obtain ⟨⟨x4, rfl, tx4, nx4, zx4⟩, mq3⟩ := q3
  rw [mq3]
  refine g_if_ne (tgt := 10) dX7_stuff_5 (by decide) (fun c5 => ?_) (fun c5 => ?_)
  · have zc5 := nx4 c5
    refine g_iload_n dX7_stuff_10 rfl ?_
    by_cases c6 : w = 0
    · refine g_tabIn (off := (41)) (tgt := 52) dX7_stuff_11 (by rw [c6]; decide) (by rw [c6]; decide) (by rw [c6]; rfl) (by decide) ?_
      refine g_aload_n dX7_stuff_52 rfl ?_
      refine f_X7_7 rfl rfl dX7_stuff_53 ?_
      refine g_bipush (v := 32) dX7_stuff_56 (by decide) ?_
      refine g_iload_n dX7_stuff_58 rfl ?_
      refine g_iadd dX7_stuff_59 ?_
      refine g_topi (fun x7 ex7 => ?_)
      have v8 : vp_in x7 153 := uk_vin 153 rfl (by first | decide | lia | grind) (by first | decide | lia | grind)
      refine g_iald rfl rfl v8 dX7_stuff_60 ?_
      refine g_topi (fun x9 ex9 => ?_)
      have bx9 := uk_cl v8
      have rx9 : 0 ≤ x7 → x7 ≤ 7 → 0 ≤ x9 ∧ x9 ≤ 40 := fun a b => by rw [ex9]; exact sg_0 hu (by unfold uk_is51; decide) a b
      have rrx9 : 43 ≤ x7 → x7 ≤ 50 → 0 ≤ x9 ∧ x9 ≤ 7 := fun a b => by rw [ex9]; exact sg_43 hu (by unfold uk_is51; decide) a b
      exact g_iret (ty := .int) dX7_stuff_61 rfl rfl ⟨⟨_, rfl, by first | trivial | lia | grind⟩, rfl⟩
    by_cases c10 : w = 1
    · refine g_tabIn (off := (51)) (tgt := 62) dX7_stuff_11 (by rw [c10]; decide) (by rw [c10]; decide) (by rw [c10]; rfl) (by decide) ?_
      refine g_aload_n dX7_stuff_62 rfl ?_
      refine f_X7_20 rfl rfl dX7_stuff_63 ?_
      refine g_iload_n dX7_stuff_66 rfl ?_
      have v11 : vp_in m 8 := uk_vin 8 rfl (by first | decide | lia | grind) (by first | decide | lia | grind)
      refine g_iald rfl rfl v11 dX7_stuff_67 ?_
      refine g_topi (fun x12 ex12 => ?_)
      have bx12 := uk_cl v11
      have rx12 : (-4) ≤ x12 ∧ x12 ≤ 7 := by rw [ex12]; exact iv_at hu _ _ (uk_pick1 _ (by omega))
      exact g_iret (ty := .int) dX7_stuff_68 rfl rfl ⟨⟨_, rfl, by first | trivial | lia | grind⟩, rfl⟩
    by_cases c13 : w = 2
    · refine g_tabIn (off := (58)) (tgt := 69) dX7_stuff_11 (by rw [c13]; decide) (by rw [c13]; decide) (by rw [c13]; rfl) (by decide) ?_
      refine g_aload_n dX7_stuff_69 rfl ?_
      refine f_X7_23 rfl rfl dX7_stuff_70 ?_
      refine g_iload_n dX7_stuff_73 rfl ?_
      have v14 : vp_in m 8 := uk_vin 8 rfl (by first | decide | lia | grind) (by first | decide | lia | grind)
      refine g_iald rfl rfl v14 dX7_stuff_74 ?_
      refine g_topi (fun x15 ex15 => ?_)
      have bx15 := uk_cl v14
      have rx15 : (-4) ≤ x15 ∧ x15 ≤ 7 := by rw [ex15]; exact iv_at hu _ _ (uk_pick1 _ (by omega))
      exact g_iret (ty := .int) dX7_stuff_75 rfl rfl ⟨⟨_, rfl, by first | trivial | lia | grind⟩, rfl⟩
    by_cases c16 : w = 3
    · refine g_tabIn (off := (65)) (tgt := 76) dX7_stuff_11 (by rw [c16]; decide) (by rw [c16]; decide) (by rw [c16]; rfl) (by decide) ?_
      refine g_aload_n dX7_stuff_76 rfl ?_
      refine f_X7_7 rfl rfl dX7_stuff_77 ?_
      refine g_bipush (v := 16) dX7_stuff_80 (by decide) ?_
      refine g_iload_n dX7_stuff_82 rfl ?_
      refine g_iadd dX7_stuff_83 ?_
      refine g_topi (fun x17 ex17 => ?_)
      have v18 : vp_in x17 153 := uk_vin 153 rfl (by first | decide | lia | grind) (by first | decide | lia | grind)
      refine g_iald rfl rfl v18 dX7_stuff_84 ?_
      refine g_topi (fun x19 ex19 => ?_)
      have bx19 := uk_cl v18
      have rx19 : 0 ≤ x17 → x17 ≤ 7 → 0 ≤ x19 ∧ x19 ≤ 40 := fun a b => by rw [ex19]; exact sg_0 hu (by unfold uk_is51; decide) a b
      have rrx19 : 43 ≤ x17 → x17 ≤ 50 → 0 ≤ x19 ∧ x19 ≤ 7 := fun a b => by rw [ex19]; exact sg_43 hu (by unfold uk_is51; decide) a b
      exact g_iret (ty := .int) dX7_stuff_85 rfl rfl ⟨⟨_, rfl, by first | trivial | lia | grind⟩, rfl⟩
    by_cases c20 : w = 4
    · refine g_tabIn (off := (75)) (tgt := 86) dX7_stuff_11 (by rw [c20]; decide) (by rw [c20]; decide) (by rw [c20]; rfl) (by decide) ?_
      refine g_aload_n dX7_stuff_86 rfl ?_
      refine g_iload_n dX7_stuff_87 rfl ?_
      refine cl_X7_166 (c := 60) (As := [.int m]) rfl (c_X7_isRaw (G := G) hs hu  m (by first | trivial | decide | lia | grind) (by first | trivial | decide | lia | grind) (d + 1)) rfl (by omega) rfl rfl (Nat.le_of_ble_eq_true rfl) dX7_stuff_88 (fun r21 u22 q23 => ?_)
      obtain ⟨⟨x24, rfl, tx24, nx24, zx24⟩, mq23⟩ := q23
      rw [mq23]
      refine g_if_eq (tgt := 106) dX7_stuff_91 (by decide) (fun c25 => ?_) (fun c25 => ?_)
      · have zc25 := zx24 c25
        refine g_bipush (v := (-4)) dX7_stuff_106 (by decide) ?_
        exact g_iret (ty := .int) dX7_stuff_108 rfl rfl ⟨⟨_, rfl, by first | trivial | lia | grind⟩, rfl⟩
      · have zc25 := nx24 c25
        refine g_aload_n dX7_stuff_94 rfl ?_
        refine f_X7_7 rfl rfl dX7_stuff_95 ?_
        refine g_bipush (v := 24) dX7_stuff_98 (by decide) ?_
        refine g_iload_n dX7_stuff_100 rfl ?_
        refine g_iadd dX7_stuff_101 ?_
        refine g_topi (fun x26 ex26 => ?_)
        have v27 : vp_in x26 153 := uk_vin 153 rfl (by first | decide | lia | grind) (by first | decide | lia | grind)
        refine g_iald rfl rfl v27 dX7_stuff_102 ?_
        refine g_topi (fun x28 ex28 => ?_)
        have bx28 := uk_cl v27
        have rx28 : 0 ≤ x26 → x26 ≤ 7 → 0 ≤ x28 ∧ x28 ≤ 40 := fun a b => by rw [ex28]; exact sg_0 hu (by unfold uk_is51; decide) a b
        have rrx28 : 43 ≤ x26 → x26 ≤ 50 → 0 ≤ x28 ∧ x28 ≤ 7 := fun a b => by rw [ex28]; exact sg_43 hu (by unfold uk_is51; decide) a b
        refine g_goto (tgt := 108) dX7_stuff_103 (by decide) ?_
        exact g_iret (ty := .int) dX7_stuff_108 rfl rfl ⟨⟨_, rfl, by first | trivial | lia | grind⟩, rfl⟩
    by_cases c29 : w = 5
    · refine g_tabIn (off := (98)) (tgt := 109) dX7_stuff_11 (by rw [c29]; decide) (by rw [c29]; decide) (by rw [c29]; rfl) (by decide) ?_
      refine g_aload_n dX7_stuff_109 rfl ?_
      refine f_X7_7 rfl rfl dX7_stuff_110 ?_
      refine g_bipush (v := 8) dX7_stuff_113 (by decide) ?_
      refine g_iload_n dX7_stuff_115 rfl ?_
      refine g_iadd dX7_stuff_116 ?_
      refine g_topi (fun x30 ex30 => ?_)
      have v31 : vp_in x30 153 := uk_vin 153 rfl (by first | decide | lia | grind) (by first | decide | lia | grind)
      refine g_iald rfl rfl v31 dX7_stuff_117 ?_
      refine g_topi (fun x32 ex32 => ?_)
      have bx32 := uk_cl v31
      have rx32 : 0 ≤ x30 → x30 ≤ 7 → 0 ≤ x32 ∧ x32 ≤ 40 := fun a b => by rw [ex32]; exact sg_0 hu (by unfold uk_is51; decide) a b
      have rrx32 : 43 ≤ x30 → x30 ≤ 50 → 0 ≤ x32 ∧ x32 ≤ 7 := fun a b => by rw [ex32]; exact sg_43 hu (by unfold uk_is51; decide) a b
      exact g_iret (ty := .int) dX7_stuff_118 rfl rfl ⟨⟨_, rfl, by first | trivial | lia | grind⟩, rfl⟩
    by_cases c33 : w = 6
    · refine g_tabIn (off := (108)) (tgt := 119) dX7_stuff_11 (by rw [c33]; decide) (by rw [c33]; decide) (by rw [c33]; rfl) (by decide) ?_
      refine g_aload_n dX7_stuff_119 rfl ?_
      refine f_X7_7 rfl rfl dX7_stuff_120 ?_
      refine g_iconst (v := 0) dX7_stuff_123 (by decide) ?_
      refine g_iload_n dX7_stuff_124 rfl ?_
      refine g_iadd dX7_stuff_125 ?_
      refine g_topi (fun x34 ex34 => ?_)
      have v35 : vp_in x34 153 := uk_vin 153 rfl (by first | decide | lia | grind) (by first | decide | lia | grind)
      refine g_iald rfl rfl v35 dX7_stuff_126 ?_
      refine g_topi (fun x36 ex36 => ?_)
      have bx36 := uk_cl v35
      have rx36 : 0 ≤ x34 → x34 ≤ 7 → 0 ≤ x36 ∧ x36 ≤ 40 := fun a b => by rw [ex36]; exact sg_0 hu (by unfold uk_is51; decide) a b
      have rrx36 : 43 ≤ x34 → x34 ≤ 50 → 0 ≤ x36 ∧ x36 ≤ 7 := fun a b => by rw [ex36]; exact sg_43 hu (by unfold uk_is51; decide) a b
      exact g_iret (ty := .int) dX7_stuff_127 rfl rfl ⟨⟨_, rfl, by first | trivial | lia | grind⟩, rfl⟩
    refine g_tabOut (tgt := 128) dX7_stuff_11 (uk_swo 0 6 rfl rfl (by first | lia | grind)) (by decide) ?_
    refine g_iconst (v := (-1)) dX7_stuff_128 (by decide) ?_
    exact g_iret (ty := .int) dX7_stuff_129 rfl rfl ⟨⟨_, rfl, by first | trivial | lia | grind⟩, rfl⟩
  · have zc5 := zx4 c5
    refine g_iconst (v := (-1)) dX7_stuff_8 (by decide) ?_
    exact g_iret (ty := .int) dX7_stuff_9 rfl rfl ⟨⟨_, rfl, by first | trivial | lia | grind⟩, rfl⟩
abbrev q_X7_becomes (u : uk_Mem) (k : Int32) (v : Int32) (r : Option Value) (u' : uk_Mem) : Prop := (∃ x : Int32, r = some (.int x) ∧ True) ∧ (iv u' ∧ fk [61] [] u u' ∧ u' = uk_up u 61 k.toNatClampNeg v)
set_option maxHeartbeats 4000000 in
set_option maxRecDepth 20000 in
theorem c_X7_becomes {G : uk_D} (hs : uk_Sep G) {u : uk_Mem} (hu : iv u) (k : Int32) (v : Int32) (p0 : 0 ≤ k) (p1 : k ≤ 42) (p2 : (k ≤ 7 → 0 ≤ v ∧ v ≤ 40)) (p3 : (k = 42 → 0 ≤ v ∧ v ≤ 8)) (d : Nat) : uk_Meth G d mX7_becomes [.ref (uk_ad G 60), .int k, .int v] u (q_X7_becomes u k v) := by
  refine uk_Meth.of hs (by decide) (Nat.le_of_ble_eq_true rfl) (fun X => ?_)
  have f0 : fk [61] [] u u := fk_rf
  refine g_aload_n dX7_becomes_0 rfl ?_
  refine f_X7_7 rfl rfl dX7_becomes_1 ?_
  refine g_iload_n dX7_becomes_4 rfl ?_
  have v1 : vp_in k 153 := uk_vin 153 rfl (by first | decide | lia | grind) (by first | decide | lia | grind)
  refine g_iald rfl rfl v1 dX7_becomes_5 ?_
  refine g_topi (fun x2 ex2 => ?_)
  have bx2 := uk_cl v1
  have rx2 : 0 ≤ k → k ≤ 7 → 0 ≤ x2 ∧ x2 ≤ 40 := fun a b => by rw [ex2]; exact sg_0 hu (by unfold uk_is51; decide) a b
  have rrx2 : 43 ≤ k → k ≤ 50 → 0 ≤ x2 ∧ x2 ≤ 7 := fun a b => by rw [ex2]; exact sg_43 hu (by unfold uk_is51; decide) a b
  refine g_istore_n dX7_becomes_6 (by decide) ?_
  refine g_aload_n dX7_becomes_7 rfl ?_
  refine f_X7_7 rfl rfl dX7_becomes_8 ?_
  refine g_iload_n dX7_becomes_11 rfl ?_
  refine g_iload_n dX7_becomes_12 rfl ?_
  have v3 : vp_in k 153 := uk_vin 153 rfl (by first | decide | lia | grind) (by first | decide | lia | grind)
  have b4 := uk_cl v3
  refine g_iast rfl rfl v3 dX7_becomes_13 ?_
  refine g_mem (fun u5 eu5 => ?_)
  have hu5 : iv u5 := by rw [eu5]; exact iv_st hu (by unfold uk_is51; decide) (by first | decide | lia | grind) (by first | decide | lia | grind) (fun q => by first | decide | lia | grind) (fun q => by first | decide | lia | grind) (fun q => by first | decide | lia | grind)
  have fu5 : fk [61] [] u u5 := by rw [eu5]; exact fk_up f0 (by decide) (fun q => absurd q (by decide))
  refine g_iload_n dX7_becomes_14 rfl ?_
  exact g_iret (ty := .int) dX7_becomes_15 rfl rfl ⟨⟨_, rfl, by first | trivial | lia | grind⟩, hu5, fu5, (by first | assumption | grind)⟩
abbrev q_X7_fill (u : uk_Mem) (m : Int32) (n : Int32) (r : Option Value) (u' : uk_Mem) : Prop := (∃ x : Int32, r = some (.int x) ∧ True) ∧ (iv u' ∧ fk [61] [] u u' ∧ ri u')
set_option maxHeartbeats 4000000 in
set_option maxRecDepth 20000 in
theorem c_X7_fill {G : uk_D} (hs : uk_Sep G) {u : uk_Mem} (hu : iv u) (hri : ri u) (m : Int32) (n : Int32) (d : Nat) : uk_Meth G (d + 2) mX7_fill [.ref (uk_ad G 60), .int m, .int n] u (q_X7_fill u m n) := by
  refine uk_Meth.of hs (by decide) (Nat.le_of_ble_eq_true rfl) (fun X => ?_)
  have f0 : fk [61] [] u u := fk_rf
  refine g_aload_n dX7_fill_0 rfl ?_
  refine g_iload_n dX7_fill_1 rfl ?_
  refine cl_X7_163 (c := 60) (As := [.int m]) rfl (c_X7_isStuff (G := G) hs hu  m  (d)) rfl (by omega) rfl rfl (Nat.le_of_ble_eq_true rfl) dX7_fill_2 (fun r1 u2 q3 => ?_)
  obtain ⟨⟨x4, rfl, tx4, nx4, zx4⟩, mq3⟩ := q3
  rw [mq3]
  refine g_if_eq (tgt := 31) dX7_fill_5 (by decide) (fun c5 => ?_) (fun c5 => ?_)
  · have zc5 := zx4 c5
    refine g_iconst (v := (-1)) dX7_fill_31 (by decide) ?_
    exact g_iret (ty := .int) dX7_fill_32 rfl rfl ⟨⟨_, rfl, by first | trivial | lia | grind⟩, hu, f0, hri⟩
  · have zc5 := nx4 c5
    refine g_iload_n dX7_fill_8 rfl ?_
    refine g_i2l dX7_fill_9 ?_
    refine g_lconst (v := 0) dX7_fill_10 (by decide) ?_
    refine g_ldc2 (v := 40) k_X7_173 dX7_fill_11 ?_
    refine cl_X7_84 (As := [.long n.toInt64, .long 0, .long 40]) rfl (c_X7_in (G := G) hs hu  n 0 40  (d + 1)) rfl (by omega) rfl (Nat.le_of_ble_eq_true rfl) dX7_fill_14 (fun r6 u7 q8 => ?_)
    obtain ⟨⟨x9, rfl, tx9, nx9, zx9⟩, mq8⟩ := q8
    rw [mq8]
    refine g_if_eq (tgt := 31) dX7_fill_17 (by decide) (fun c10 => ?_) (fun c10 => ?_)
    · have zc10 := zx9 c10
      refine g_iconst (v := (-1)) dX7_fill_31 (by decide) ?_
      exact g_iret (ty := .int) dX7_fill_32 rfl rfl ⟨⟨_, rfl, by first | trivial | lia | grind⟩, hu, f0, hri⟩
    · have zc10 := nx9 c10
      refine g_aload_n dX7_fill_20 rfl ?_
      refine g_iconst (v := 0) dX7_fill_21 (by decide) ?_
      refine g_iload_n dX7_fill_22 rfl ?_
      refine g_iadd dX7_fill_23 ?_
      refine g_topi (fun x11 ex11 => ?_)
      refine g_iload_n dX7_fill_24 rfl ?_
      refine cl_X7_175 (c := 60) (As := [.int x11, .int n]) rfl (c_X7_becomes (G := G) hs hu  x11 n (by first | trivial | decide | lia | grind) (by first | trivial | decide | lia | grind) (by first | trivial | decide | lia | grind) (by first | trivial | decide | lia | grind) (d + 1)) rfl (by omega) rfl rfl (Nat.le_of_ble_eq_true rfl) dX7_fill_25 (fun r12 u13 q14 => ?_)
      obtain ⟨⟨x15, rfl, tx15⟩, mq14⟩ := q14
      obtain ⟨hu13, gu13, xu13⟩ := mq14
      have fu13 : fk [61] [] u u13 := fk_tr f0 gu13 (by decide) (by decide)
      have riu13 : ri u13 := by rw [xu13]; exact ri_st hri (by first | lia | grind) (by first | lia | grind)
      refine g_goto (tgt := 32) dX7_fill_28 (by decide) ?_
      exact g_iret (ty := .int) dX7_fill_32 rfl rfl ⟨⟨_, rfl, by first | trivial | lia | grind⟩, hu13, fu13, riu13⟩
abbrev q_X7_feeds (u : uk_Mem) (m : Int32) (v : Int32) (r : Option Value) (u' : uk_Mem) : Prop := (∃ x : Int32, r = some (.int x) ∧ True) ∧ (iv u' ∧ fk [61] [] u u' ∧ ri u')
set_option maxHeartbeats 4000000 in
set_option maxRecDepth 20000 in
theorem c_X7_feeds {G : uk_D} (hs : uk_Sep G) {u : uk_Mem} (hu : iv u) (hri : ri u) (m : Int32) (v : Int32) (d : Nat) : uk_Meth G (d + 2) mX7_feeds [.ref (uk_ad G 60), .int m, .int v] u (q_X7_feeds u m v) := by
  refine uk_Meth.of hs (by decide) (Nat.le_of_ble_eq_true rfl) (fun X => ?_)
  have f0 : fk [61] [] u u := fk_rf
  refine g_aload_n dX7_feeds_0 rfl ?_
  refine g_iload_n dX7_feeds_1 rfl ?_
  refine cl_X7_163 (c := 60) (As := [.int m]) rfl (c_X7_isStuff (G := G) hs hu  m  (d)) rfl (by omega) rfl rfl (Nat.le_of_ble_eq_true rfl) dX7_feeds_2 (fun r1 u2 q3 => ?_)
  obtain ⟨⟨x4, rfl, tx4, nx4, zx4⟩, mq3⟩ := q3
  rw [mq3]
  refine g_if_eq (tgt := 32) dX7_feeds_5 (by decide) (fun c5 => ?_) (fun c5 => ?_)
  · have zc5 := zx4 c5
    refine g_iconst (v := (-1)) dX7_feeds_32 (by decide) ?_
    exact g_iret (ty := .int) dX7_feeds_33 rfl rfl ⟨⟨_, rfl, by first | trivial | lia | grind⟩, hu, f0, hri⟩
  · have zc5 := nx4 c5
    refine g_iload_n dX7_feeds_8 rfl ?_
    refine g_i2l dX7_feeds_9 ?_
    refine g_lconst (v := 0) dX7_feeds_10 (by decide) ?_
    refine g_ldc2 (v := 9) k_X7_178 dX7_feeds_11 ?_
    refine cl_X7_84 (As := [.long v.toInt64, .long 0, .long 9]) rfl (c_X7_in (G := G) hs hu  v 0 9  (d + 1)) rfl (by omega) rfl (Nat.le_of_ble_eq_true rfl) dX7_feeds_14 (fun r6 u7 q8 => ?_)
    obtain ⟨⟨x9, rfl, tx9, nx9, zx9⟩, mq8⟩ := q8
    rw [mq8]
    refine g_if_eq (tgt := 32) dX7_feeds_17 (by decide) (fun c10 => ?_) (fun c10 => ?_)
    · have zc10 := zx9 c10
      refine g_iconst (v := (-1)) dX7_feeds_32 (by decide) ?_
      exact g_iret (ty := .int) dX7_feeds_33 rfl rfl ⟨⟨_, rfl, by first | trivial | lia | grind⟩, hu, f0, hri⟩
    · have zc10 := nx9 c10
      refine g_aload_n dX7_feeds_20 rfl ?_
      refine g_bipush (v := 16) dX7_feeds_21 (by decide) ?_
      refine g_iload_n dX7_feeds_23 rfl ?_
      refine g_iadd dX7_feeds_24 ?_
      refine g_topi (fun x11 ex11 => ?_)
      refine g_iload_n dX7_feeds_25 rfl ?_
      refine cl_X7_175 (c := 60) (As := [.int x11, .int v]) rfl (c_X7_becomes (G := G) hs hu  x11 v (by first | trivial | decide | lia | grind) (by first | trivial | decide | lia | grind) (by first | trivial | decide | lia | grind) (by first | trivial | decide | lia | grind) (d + 1)) rfl (by omega) rfl rfl (Nat.le_of_ble_eq_true rfl) dX7_feeds_26 (fun r12 u13 q14 => ?_)
      obtain ⟨⟨x15, rfl, tx15⟩, mq14⟩ := q14
      obtain ⟨hu13, gu13, xu13⟩ := mq14
      have fu13 : fk [61] [] u u13 := fk_tr f0 gu13 (by decide) (by decide)
      have riu13 : ri u13 := by rw [xu13]; exact ri_st hri (by first | lia | grind) (by first | lia | grind)
      refine g_goto (tgt := 33) dX7_feeds_29 (by decide) ?_
      exact g_iret (ty := .int) dX7_feeds_33 rfl rfl ⟨⟨_, rfl, by first | trivial | lia | grind⟩, hu13, fu13, riu13⟩
abbrev q_X7_price (u : uk_Mem) (m : Int32) (v : Int32) (r : Option Value) (u' : uk_Mem) : Prop := (∃ x : Int32, r = some (.int x) ∧ True) ∧ (iv u' ∧ fk [61] [] u u' ∧ ri u')
set_option maxHeartbeats 4000000 in
set_option maxRecDepth 20000 in
theorem c_X7_price {G : uk_D} (hs : uk_Sep G) {u : uk_Mem} (hu : iv u) (hri : ri u) (m : Int32) (v : Int32) (d : Nat) : uk_Meth G (d + 2) mX7_price [.ref (uk_ad G 60), .int m, .int v] u (q_X7_price u m v) := by
  refine uk_Meth.of hs (by decide) (Nat.le_of_ble_eq_true rfl) (fun X => ?_)
  have f0 : fk [61] [] u u := fk_rf
  refine g_aload_n dX7_price_0 rfl ?_
  refine g_iload_n dX7_price_1 rfl ?_
  refine cl_X7_163 (c := 60) (As := [.int m]) rfl (c_X7_isStuff (G := G) hs hu  m  (d)) rfl (by omega) rfl rfl (Nat.le_of_ble_eq_true rfl) dX7_price_2 (fun r1 u2 q3 => ?_)
  obtain ⟨⟨x4, rfl, tx4, nx4, zx4⟩, mq3⟩ := q3
  rw [mq3]
  refine g_if_eq (tgt := 20) dX7_price_5 (by decide) (fun c5 => ?_) (fun c5 => ?_)
  · have zc5 := zx4 c5
    refine g_iconst (v := (-1)) dX7_price_20 (by decide) ?_
    exact g_iret (ty := .int) dX7_price_21 rfl rfl ⟨⟨_, rfl, by first | trivial | lia | grind⟩, hu, f0, hri⟩
  · have zc5 := nx4 c5
    refine g_iload_n dX7_price_8 rfl ?_
    refine g_i2l dX7_price_9 ?_
    refine g_lconst (v := 0) dX7_price_10 (by decide) ?_
    refine g_ldc2 (v := 9) k_X7_178 dX7_price_11 ?_
    refine cl_X7_84 (As := [.long v.toInt64, .long 0, .long 9]) rfl (c_X7_in (G := G) hs hu  v 0 9  (d + 1)) rfl (by omega) rfl (Nat.le_of_ble_eq_true rfl) dX7_price_14 (fun r6 u7 q8 => ?_)
    obtain ⟨⟨x9, rfl, tx9, nx9, zx9⟩, mq8⟩ := q8
    rw [mq8]
    refine g_if_ne (tgt := 22) dX7_price_17 (by decide) (fun c10 => ?_) (fun c10 => ?_)
    · have zc10 := nx9 c10
      refine g_aload_n dX7_price_22 rfl ?_
      refine g_iload_n dX7_price_23 rfl ?_
      refine cl_X7_166 (c := 60) (As := [.int m]) rfl (c_X7_isRaw (G := G) hs hu  m (by first | trivial | decide | lia | grind) (by first | trivial | decide | lia | grind) (d + 1)) rfl (by omega) rfl rfl (Nat.le_of_ble_eq_true rfl) dX7_price_24 (fun r11 u12 q13 => ?_)
      obtain ⟨⟨x14, rfl, tx14, nx14, zx14⟩, mq13⟩ := q13
      rw [mq13]
      refine g_if_eq (tgt := 42) dX7_price_27 (by decide) (fun c15 => ?_) (fun c15 => ?_)
      · have zc15 := zx14 c15
        refine g_bipush (v := (-2)) dX7_price_42 (by decide) ?_
        exact g_iret (ty := .int) dX7_price_44 rfl rfl ⟨⟨_, rfl, by first | trivial | lia | grind⟩, hu, f0, hri⟩
      · have zc15 := nx14 c15
        refine g_aload_n dX7_price_30 rfl ?_
        refine g_bipush (v := 24) dX7_price_31 (by decide) ?_
        refine g_iload_n dX7_price_33 rfl ?_
        refine g_iadd dX7_price_34 ?_
        refine g_topi (fun x16 ex16 => ?_)
        refine g_iload_n dX7_price_35 rfl ?_
        refine cl_X7_175 (c := 60) (As := [.int x16, .int v]) rfl (c_X7_becomes (G := G) hs hu  x16 v (by first | trivial | decide | lia | grind) (by first | trivial | decide | lia | grind) (by first | trivial | decide | lia | grind) (by first | trivial | decide | lia | grind) (d + 1)) rfl (by omega) rfl rfl (Nat.le_of_ble_eq_true rfl) dX7_price_36 (fun r17 u18 q19 => ?_)
        obtain ⟨⟨x20, rfl, tx20⟩, mq19⟩ := q19
        obtain ⟨hu18, gu18, xu18⟩ := mq19
        have fu18 : fk [61] [] u u18 := fk_tr f0 gu18 (by decide) (by decide)
        have riu18 : ri u18 := by rw [xu18]; exact ri_st hri (by first | lia | grind) (by first | lia | grind)
        refine g_goto (tgt := 44) dX7_price_39 (by decide) ?_
        exact g_iret (ty := .int) dX7_price_44 rfl rfl ⟨⟨_, rfl, by first | trivial | lia | grind⟩, hu18, fu18, riu18⟩
    · have zc10 := zx9 c10
      refine g_iconst (v := (-1)) dX7_price_20 (by decide) ?_
      exact g_iret (ty := .int) dX7_price_21 rfl rfl ⟨⟨_, rfl, by first | trivial | lia | grind⟩, hu, f0, hri⟩
abbrev q_X7_kind (u : uk_Mem) (m : Int32) (k : Int32) (r : Option Value) (u' : uk_Mem) : Prop := (∃ x : Int32, r = some (.int x) ∧ True) ∧ (iv u' ∧ fk [61] [] u u' ∧ ri u')
set_option maxHeartbeats 4000000 in
set_option maxRecDepth 20000 in
theorem c_X7_kind {G : uk_D} (hs : uk_Sep G) {u : uk_Mem} (hu : iv u) (hri : ri u) (m : Int32) (k : Int32) (d : Nat) : uk_Meth G (d + 2) mX7_kind [.ref (uk_ad G 60), .int m, .int k] u (q_X7_kind u m k) := by
  refine uk_Meth.of hs (by decide) (Nat.le_of_ble_eq_true rfl) (fun X => ?_)
  have f0 : fk [61] [] u u := fk_rf
  refine g_aload_n dX7_kind_0 rfl ?_
  refine g_iload_n dX7_kind_1 rfl ?_
  refine cl_X7_163 (c := 60) (As := [.int m]) rfl (c_X7_isStuff (G := G) hs hu  m  (d)) rfl (by omega) rfl rfl (Nat.le_of_ble_eq_true rfl) dX7_kind_2 (fun r1 u2 q3 => ?_)
  obtain ⟨⟨x4, rfl, tx4, nx4, zx4⟩, mq3⟩ := q3
  rw [mq3]
  refine g_if_eq (tgt := 20) dX7_kind_5 (by decide) (fun c5 => ?_) (fun c5 => ?_)
  · have zc5 := zx4 c5
    refine g_iconst (v := (-1)) dX7_kind_20 (by decide) ?_
    exact g_iret (ty := .int) dX7_kind_21 rfl rfl ⟨⟨_, rfl, by first | trivial | lia | grind⟩, hu, f0, hri⟩
  · have zc5 := nx4 c5
    refine g_iload_n dX7_kind_8 rfl ?_
    refine g_i2l dX7_kind_9 ?_
    refine g_lconst (v := 0) dX7_kind_10 (by decide) ?_
    refine g_ldc2 (v := 3) k_X7_180 dX7_kind_11 ?_
    refine cl_X7_84 (As := [.long k.toInt64, .long 0, .long 3]) rfl (c_X7_in (G := G) hs hu  k 0 3  (d + 1)) rfl (by omega) rfl (Nat.le_of_ble_eq_true rfl) dX7_kind_14 (fun r6 u7 q8 => ?_)
    obtain ⟨⟨x9, rfl, tx9, nx9, zx9⟩, mq8⟩ := q8
    rw [mq8]
    refine g_if_ne (tgt := 22) dX7_kind_17 (by decide) (fun c10 => ?_) (fun c10 => ?_)
    · have zc10 := nx9 c10
      refine g_aload_n dX7_kind_22 rfl ?_
      refine g_iload_n dX7_kind_23 rfl ?_
      refine cl_X7_166 (c := 60) (As := [.int m]) rfl (c_X7_isRaw (G := G) hs hu  m (by first | trivial | decide | lia | grind) (by first | trivial | decide | lia | grind) (d + 1)) rfl (by omega) rfl rfl (Nat.le_of_ble_eq_true rfl) dX7_kind_24 (fun r11 u12 q13 => ?_)
      obtain ⟨⟨x14, rfl, tx14, nx14, zx14⟩, mq13⟩ := q13
      rw [mq13]
      refine g_if_eq (tgt := 35) dX7_kind_27 (by decide) (fun c15 => ?_) (fun c15 => ?_)
      · have zc15 := zx14 c15
        refine g_aload_n dX7_kind_35 rfl ?_
        refine g_bipush (v := 32) dX7_kind_36 (by decide) ?_
        refine g_iload_n dX7_kind_38 rfl ?_
        refine g_iadd dX7_kind_39 ?_
        refine g_topi (fun x16 ex16 => ?_)
        refine g_iload_n dX7_kind_40 rfl ?_
        refine cl_X7_175 (c := 60) (As := [.int x16, .int k]) rfl (c_X7_becomes (G := G) hs hu  x16 k (by first | trivial | decide | lia | grind) (by first | trivial | decide | lia | grind) (by first | trivial | decide | lia | grind) (by first | trivial | decide | lia | grind) (d + 1)) rfl (by omega) rfl rfl (Nat.le_of_ble_eq_true rfl) dX7_kind_41 (fun r17 u18 q19 => ?_)
        obtain ⟨⟨x20, rfl, tx20⟩, mq19⟩ := q19
        obtain ⟨hu18, gu18, xu18⟩ := mq19
        have fu18 : fk [61] [] u u18 := fk_tr f0 gu18 (by decide) (by decide)
        have riu18 : ri u18 := by rw [xu18]; exact ri_kind hri (m := m) (by grind) (by grind) (by grind) (by grind) (by assumption)
        exact g_iret (ty := .int) dX7_kind_44 rfl rfl ⟨⟨_, rfl, by first | trivial | lia | grind⟩, hu18, fu18, riu18⟩
      · have zc15 := nx14 c15
        refine g_bipush (v := (-2)) dX7_kind_30 (by decide) ?_
        refine g_goto (tgt := 44) dX7_kind_32 (by decide) ?_
        exact g_iret (ty := .int) dX7_kind_44 rfl rfl ⟨⟨_, rfl, by first | trivial | lia | grind⟩, hu, f0, hri⟩
    · have zc10 := zx9 c10
      refine g_iconst (v := (-1)) dX7_kind_20 (by decide) ?_
      exact g_iret (ty := .int) dX7_kind_21 rfl rfl ⟨⟨_, rfl, by first | trivial | lia | grind⟩, hu, f0, hri⟩
abbrev q_X7_does (u : uk_Mem) (g : Int32) (r : Option Value) (u' : uk_Mem) : Prop := (∃ x : Int32, r = some (.int x) ∧ True) ∧ (iv u' ∧ fk [61, 62] [] u u' ∧ ri u')
set_option maxHeartbeats 4000000 in
set_option maxRecDepth 20000 in
theorem c_X7_does {G : uk_D} (hs : uk_Sep G) {u : uk_Mem} (hu : iv u) (hri : ri u) (g : Int32) (d : Nat) : uk_Meth G (d + 3) mX7_does [.ref (uk_ad G 60), .int g] u (q_X7_does u g) := by
  refine uk_Meth.of hs (by decide) (Nat.le_of_ble_eq_true rfl) (fun X => ?_)
  have f0 : fk [61, 62] [] u u := fk_rf
  refine g_aload_n dX7_does_0 rfl ?_
  refine g_iload_n dX7_does_1 rfl ?_
  refine cl_X7_182 (c := 60) (As := [.int g]) rfl (c_X7_isDoing (G := G) hs hu  g  (d)) rfl (by omega) rfl rfl (Nat.le_of_ble_eq_true rfl) dX7_does_2 (fun r1 u2 q3 => ?_)
  obtain ⟨⟨x4, rfl, tx4, nx4, zx4⟩, mq3⟩ := q3
  rw [mq3]
  refine g_if_ne (tgt := 10) dX7_does_5 (by decide) (fun c5 => ?_) (fun c5 => ?_)
  · have zc5 := nx4 c5
    refine g_aload_n dX7_does_10 rfl ?_
    refine cl_X7_185 (c := 60) (As := []) rfl (c_X7_starts (G := G) hs hu hri    (d + 2)) rfl (by omega) rfl rfl (Nat.le_of_ble_eq_true rfl) dX7_does_11 (fun r6 u7 q8 => ?_)
    obtain ⟨rfl, mq8⟩ := q8
    obtain ⟨hu7, gu7, rau7, ku70⟩ := mq8
    have fu7 : fk [61, 62] [] u u7 := fk_tr f0 gu7 (by decide) (by decide)
    have riu7 : ri u7 := ri_fk hri gu7 (by decide) (by decide) (by decide) (by decide) (by decide)
    refine g_aload_n dX7_does_14 rfl ?_
    refine g_iload_n dX7_does_15 rfl ?_
    refine cl_X7_188 (c := 60) (As := [.int g]) rfl (c_X7_canDo (G := G) hs hu7 rau7  g (by first | trivial | decide | lia | grind) (d)) rfl (by omega) rfl rfl (Nat.le_of_ble_eq_true rfl) dX7_does_16 (fun r9 u10 q11 => ?_)
    obtain ⟨⟨x12, rfl, tx12, nx12, zx12⟩, mq11⟩ := q11
    rw [mq11]
    refine g_if_ne (tgt := 25) dX7_does_19 (by decide) (fun c13 => ?_) (fun c13 => ?_)
    · have zc13 := nx12 c13
      refine g_aload_n dX7_does_25 rfl ?_
      refine g_iload_n dX7_does_26 rfl ?_
      refine cl_X7_191 (c := 60) (As := [.int g]) rfl (c_X7_doIt (G := G) hs hu7 rau7  g (by first | trivial | decide | lia | grind) (by first | trivial | decide | lia | grind) (by first | trivial | decide | lia | grind) (d + 1)) rfl (by omega) rfl rfl (Nat.le_of_ble_eq_true rfl) dX7_does_27 (fun r14 u15 q16 => ?_)
      obtain ⟨rfl, mq16⟩ := q16
      obtain ⟨hu15, gu15, rau15⟩ := mq16
      have fu15 : fk [61, 62] [] u u15 := fk_tr fu7 gu15 (by decide) (by decide)
      have riu15 : ri u15 := ri_fk riu7 gu15 (by decide) (by decide) (by decide) (by decide) (by decide)
      refine g_aload_n dX7_does_30 rfl ?_
      refine cl_X7_194 (c := 60) (As := []) rfl (c_X7_ends (G := G) hs hu15 riu15 rau15    (d + 2)) rfl (by omega) rfl rfl (Nat.le_of_ble_eq_true rfl) dX7_does_31 (fun r17 u18 q19 => ?_)
      obtain ⟨rfl, mq19⟩ := q19
      obtain ⟨hu18, gu18, riu18⟩ := mq19
      have fu18 : fk [61, 62] [] u u18 := fk_tr fu15 gu18 (by decide) (by decide)
      have rau18 : ra u18 := ra_fk rau15 gu18 (by decide) (by decide) (by decide) (by decide)
      refine g_aload_n dX7_does_34 rfl ?_
      refine f_X7_7 rfl rfl dX7_does_35 ?_
      refine g_iconst (v := 0) dX7_does_38 (by decide) ?_
      refine g_iload_n dX7_does_39 rfl ?_
      refine g_bipush (v := 10) dX7_does_40 (by decide) ?_
      refine g_irem dX7_does_42 (by first | decide | lia | grind) ?_
      refine g_topi (fun x20 ex20 => ?_)
      have nx20 := uk_r10 ex20
      refine g_iadd dX7_does_43 ?_
      refine g_topi (fun x21 ex21 => ?_)
      have v22 : vp_in x21 153 := uk_vin 153 rfl (by first | decide | lia | grind) (by first | decide | lia | grind)
      refine g_iald rfl rfl v22 dX7_does_44 ?_
      refine g_topi (fun x23 ex23 => ?_)
      have bx23 := uk_cl v22
      have rx23 : 0 ≤ x21 → x21 ≤ 7 → 0 ≤ x23 ∧ x23 ≤ 40 := fun a b => by rw [ex23]; exact sg_0 hu18 (by unfold uk_is51; decide) a b
      have rrx23 : 43 ≤ x21 → x21 ≤ 50 → 0 ≤ x23 ∧ x23 ≤ 7 := fun a b => by rw [ex23]; exact sg_43 hu18 (by unfold uk_is51; decide) a b
      exact g_iret (ty := .int) dX7_does_45 rfl rfl ⟨⟨_, rfl, by first | trivial | lia | grind⟩, hu18, fu18, riu18⟩
    · have zc13 := zx12 c13
      refine g_bipush (v := (-2)) dX7_does_22 (by decide) ?_
      exact g_iret (ty := .int) dX7_does_24 rfl rfl ⟨⟨_, rfl, by first | trivial | lia | grind⟩, hu7, fu7, riu7⟩
  · have zc5 := zx4 c5
    refine g_iconst (v := (-1)) dX7_does_8 (by decide) ?_
    exact g_iret (ty := .int) dX7_does_9 rfl rfl ⟨⟨_, rfl, by first | trivial | lia | grind⟩, hu, f0, hri⟩
abbrev q_X7_eat (u : uk_Mem) (m : Int32) (r : Option Value) (u' : uk_Mem) : Prop := (∃ x : Int32, r = some (.int x) ∧ True) ∧ (iv u' ∧ fk [61] [] u u' ∧ ri u')
set_option maxHeartbeats 4000000 in
set_option maxRecDepth 20000 in
theorem c_X7_eat {G : uk_D} (hs : uk_Sep G) {u : uk_Mem} (hu : iv u) (hri : ri u) (m : Int32) (d : Nat) : uk_Meth G (d + 2) mX7_eat [.ref (uk_ad G 60), .int m] u (q_X7_eat u m) := by
  refine uk_Meth.of hs (by decide) (Nat.le_of_ble_eq_true rfl) (fun X => ?_)
  have f0 : fk [61] [] u u := fk_rf
  refine g_aload_n dX7_eat_0 rfl ?_
  refine g_iload_n dX7_eat_1 rfl ?_
  refine cl_X7_163 (c := 60) (As := [.int m]) rfl (c_X7_isStuff (G := G) hs hu  m  (d)) rfl (by omega) rfl rfl (Nat.le_of_ble_eq_true rfl) dX7_eat_2 (fun r1 u2 q3 => ?_)
  obtain ⟨⟨x4, rfl, tx4, nx4, zx4⟩, mq3⟩ := q3
  rw [mq3]
  refine g_if_ne (tgt := 10) dX7_eat_5 (by decide) (fun c5 => ?_) (fun c5 => ?_)
  · have zc5 := nx4 c5
    refine g_aload_n dX7_eat_10 rfl ?_
    refine f_X7_7 rfl rfl dX7_eat_11 ?_
    refine g_iconst (v := 0) dX7_eat_14 (by decide) ?_
    refine g_iload_n dX7_eat_15 rfl ?_
    refine g_iadd dX7_eat_16 ?_
    refine g_topi (fun x6 ex6 => ?_)
    have v7 : vp_in x6 153 := uk_vin 153 rfl (by first | decide | lia | grind) (by first | decide | lia | grind)
    refine g_iald rfl rfl v7 dX7_eat_17 ?_
    refine g_topi (fun x8 ex8 => ?_)
    have bx8 := uk_cl v7
    have rx8 : 0 ≤ x6 → x6 ≤ 7 → 0 ≤ x8 ∧ x8 ≤ 40 := fun a b => by rw [ex8]; exact sg_0 hu (by unfold uk_is51; decide) a b
    have rrx8 : 43 ≤ x6 → x6 ≤ 50 → 0 ≤ x8 ∧ x8 ≤ 7 := fun a b => by rw [ex8]; exact sg_43 hu (by unfold uk_is51; decide) a b
    refine g_if_ne (tgt := 24) dX7_eat_18 (by decide) (fun c9 => ?_) (fun c9 => ?_)
    · refine g_aload_n dX7_eat_24 rfl ?_
      refine f_X7_7 rfl rfl dX7_eat_25 ?_
      refine g_iconst (v := 0) dX7_eat_28 (by decide) ?_
      refine g_iload_n dX7_eat_29 rfl ?_
      refine g_iadd dX7_eat_30 ?_
      refine g_topi (fun x10 ex10 => ?_)
      refine g_dup2 dX7_eat_31 rfl rfl ?_
      have v11 : vp_in x10 153 := uk_vin 153 rfl (by first | decide | lia | grind) (by first | decide | lia | grind)
      refine g_iald rfl rfl v11 dX7_eat_32 ?_
      refine g_topi (fun x12 ex12 => ?_)
      have bx12 := uk_cl v11
      have rx12 : 0 ≤ x10 → x10 ≤ 7 → 0 ≤ x12 ∧ x12 ≤ 40 := fun a b => by rw [ex12]; exact sg_0 hu (by unfold uk_is51; decide) a b
      have rrx12 : 43 ≤ x10 → x10 ≤ 50 → 0 ≤ x12 ∧ x12 ≤ 7 := fun a b => by rw [ex12]; exact sg_43 hu (by unfold uk_is51; decide) a b
      refine g_iconst (v := 1) dX7_eat_33 (by decide) ?_
      refine g_isub dX7_eat_34 ?_
      refine g_topi (fun x13 ex13 => ?_)
      have v14 : vp_in x10 153 := uk_vin 153 rfl (by first | decide | lia | grind) (by first | decide | lia | grind)
      have b15 := uk_cl v14
      refine g_iast rfl rfl v14 dX7_eat_35 ?_
      refine g_mem (fun u16 eu16 => ?_)
      have hu16 : iv u16 := by rw [eu16]; exact iv_st hu (by unfold uk_is51; decide) (by first | decide | lia | grind) (by first | decide | lia | grind) (fun q => by first | decide | lia | grind) (fun q => by first | decide | lia | grind) (fun q => by first | decide | lia | grind)
      have fu16 : fk [61] [] u u16 := by rw [eu16]; exact fk_up f0 (by decide) (fun q => absurd q (by decide))
      have riu16 : ri u16 := by rw [eu16]; exact ri_st hri (by first | decide | lia | grind) (by first | decide | lia | grind)
      refine g_aload_n dX7_eat_36 rfl ?_
      refine f_X7_7 rfl rfl dX7_eat_37 ?_
      refine g_bipush (v := 40) dX7_eat_40 (by decide) ?_
      refine g_dup2 dX7_eat_42 rfl rfl ?_
      have v17 : vp_in 40 153 := uk_vin 153 rfl (by first | decide | lia | grind) (by first | decide | lia | grind)
      refine g_iald rfl rfl v17 dX7_eat_43 ?_
      refine g_topi (fun x18 ex18 => ?_)
      have bx18 := uk_cl v17
      refine g_aload_n dX7_eat_44 rfl ?_
      refine f_X7_7 rfl rfl dX7_eat_45 ?_
      refine g_bipush (v := 16) dX7_eat_48 (by decide) ?_
      refine g_iload_n dX7_eat_50 rfl ?_
      refine g_iadd dX7_eat_51 ?_
      refine g_topi (fun x19 ex19 => ?_)
      have v20 : vp_in x19 153 := uk_vin 153 rfl (by first | decide | lia | grind) (by first | decide | lia | grind)
      refine g_iald rfl rfl v20 dX7_eat_52 ?_
      refine g_topi (fun x21 ex21 => ?_)
      have bx21 := uk_cl v20
      have rx21 : 0 ≤ x19 → x19 ≤ 7 → 0 ≤ x21 ∧ x21 ≤ 40 := fun a b => by rw [ex21]; exact sg_0 hu16 (by unfold uk_is51; decide) a b
      have rrx21 : 43 ≤ x19 → x19 ≤ 50 → 0 ≤ x21 ∧ x21 ≤ 7 := fun a b => by rw [ex21]; exact sg_43 hu16 (by unfold uk_is51; decide) a b
      refine g_iadd dX7_eat_53 ?_
      refine g_topi (fun x22 ex22 => ?_)
      have v23 : vp_in 40 153 := uk_vin 153 rfl (by first | decide | lia | grind) (by first | decide | lia | grind)
      have b24 := uk_cl v23
      refine g_iast rfl rfl v23 dX7_eat_54 ?_
      refine g_mem (fun u25 eu25 => ?_)
      have hu25 : iv u25 := by rw [eu25]; exact iv_st hu16 (by unfold uk_is51; decide) (by first | decide | lia | grind) (by first | decide | lia | grind) (fun q => by first | decide | lia | grind) (fun q => by first | decide | lia | grind) (fun q => by first | decide | lia | grind)
      have fu25 : fk [61] [] u u25 := by rw [eu25]; exact fk_up fu16 (by decide) (fun q => absurd q (by decide))
      have riu25 : ri u25 := by rw [eu25]; exact ri_st riu16 (by first | decide | lia | grind) (by first | decide | lia | grind)
      refine g_aload_n dX7_eat_55 rfl ?_
      refine f_X7_7 rfl rfl dX7_eat_56 ?_
      refine g_bipush (v := 40) dX7_eat_59 (by decide) ?_
      have v26 : vp_in 40 153 := uk_vin 153 rfl (by first | decide | lia | grind) (by first | decide | lia | grind)
      refine g_iald rfl rfl v26 dX7_eat_61 ?_
      refine g_topi (fun x27 ex27 => ?_)
      have bx27 := uk_cl v26
      exact g_iret (ty := .int) dX7_eat_62 rfl rfl ⟨⟨_, rfl, by first | trivial | lia | grind⟩, hu25, fu25, riu25⟩
    · refine g_bipush (v := (-2)) dX7_eat_21 (by decide) ?_
      exact g_iret (ty := .int) dX7_eat_23 rfl rfl ⟨⟨_, rfl, by first | trivial | lia | grind⟩, hu, f0, hri⟩
  · have zc5 := zx4 c5
    refine g_iconst (v := (-1)) dX7_eat_8 (by decide) ?_
    exact g_iret (ty := .int) dX7_eat_9 rfl rfl ⟨⟨_, rfl, by first | trivial | lia | grind⟩, hu, f0, hri⟩
abbrev q_X7_can (u : uk_Mem) (w : Int32) (r : Option Value) (u' : uk_Mem) : Prop := (∃ x : Int32, r = some (.int x) ∧ True) ∧ (iv u' ∧ fk [62] [] u u' ∧ ri u')
set_option maxHeartbeats 4000000 in
set_option maxRecDepth 20000 in
theorem c_X7_can {G : uk_D} (hs : uk_Sep G) {u : uk_Mem} (hu : iv u) (hri : ri u) (w : Int32) (d : Nat) : uk_Meth G (d + 3) mX7_can [.ref (uk_ad G 60), .int w] u (q_X7_can u w) := by
  refine uk_Meth.of hs (by decide) (Nat.le_of_ble_eq_true rfl) (fun X => ?_)
  have f0 : fk [62] [] u u := fk_rf
  refine g_iload_n dX7_can_0 rfl ?_
  refine cl_X7_197 (As := [.int w]) rfl (c_X7_isPart (G := G) hs hu  w  (d + 1)) rfl (by omega) rfl (Nat.le_of_ble_eq_true rfl) dX7_can_1 (fun r1 u2 q3 => ?_)
  obtain ⟨⟨x4, rfl, tx4, nx4, zx4⟩, mq3⟩ := q3
  rw [mq3]
  refine g_if_ne (tgt := 9) dX7_can_4 (by decide) (fun c5 => ?_) (fun c5 => ?_)
  · have zc5 := nx4 c5
    refine g_iconst (v := 0) dX7_can_9 (by decide) ?_
    refine g_istore_n dX7_can_10 (by decide) ?_
    refine g_aload_n dX7_can_11 rfl ?_
    refine cl_X7_185 (c := 60) (As := []) rfl (c_X7_starts (G := G) hs hu hri    (d + 2)) rfl (by omega) rfl rfl (Nat.le_of_ble_eq_true rfl) dX7_can_12 (fun r6 u7 q8 => ?_)
    obtain ⟨rfl, mq8⟩ := q8
    obtain ⟨hu7, gu7, rau7, ku70⟩ := mq8
    have fu7 : fk [62] [] u u7 := fk_tr f0 gu7 (by decide) (by decide)
    have riu7 : ri u7 := ri_fk hri gu7 (by decide) (by decide) (by decide) (by decide) (by decide)
    refine g_iconst (v := 0) dX7_can_15 (by decide) ?_
    refine g_istore_n dX7_can_16 (by decide) ?_
    have L17_8 : ∀ i11 : Int32, 0 ≤ i11 → i11 ≤ 8 → ∀ (w10 : Int32), uk_G G X mX7_can (d + 3) (q_X7_can u w) 17 [(0, .ref (uk_ad G 60)), (1, .int w), (2, .int w10), (3, .int i11)] [] u7 := by
      refine uk_upl 8 ?_
      intro i11 ai11 bi11 ihi11 w10
      refine g_iload_n dX7_can_17 rfl ?_
      refine g_aload_n dX7_can_18 rfl ?_
      refine f_X7_79 rfl rfl dX7_can_19 ?_
      refine g_topi (fun x12 ex12 => ?_)
      have rx12 : 0 ≤ x12 ∧ x12 ≤ 8 := by rw [ex12]; exact iv_at hu7 _ _ rfl
      have s13 : u7.1 60 3 = x12 := ex12.symm
      refine g_icmp_ge (tgt := 49) dX7_can_22 (by decide) (fun c14 => ?_) (fun c14 => ?_)
      · refine g_iload_n dX7_can_49 rfl ?_
        exact g_iret (ty := .int) dX7_can_50 rfl rfl ⟨⟨_, rfl, by first | trivial | lia | grind⟩, hu7, fu7, riu7⟩
      · refine g_iload_n dX7_can_25 rfl ?_
        refine g_aload_n dX7_can_26 rfl ?_
        refine g_bipush (v := 10) dX7_can_27 (by decide) ?_
        refine g_iload_n dX7_can_29 rfl ?_
        refine g_imul dX7_can_30 ?_
        refine g_topi (fun x15 ex15 => ?_)
        refine g_iload_n dX7_can_31 rfl ?_
        refine g_iadd dX7_can_32 ?_
        refine g_topi (fun x16 ex16 => ?_)
        refine cl_X7_188 (c := 60) (As := [.int x16]) rfl (c_X7_canDo (G := G) hs hu7 rau7  x16 (by first | trivial | decide | lia | grind) (d)) rfl (by omega) rfl rfl (Nat.le_of_ble_eq_true rfl) dX7_can_33 (fun r17 u18 q19 => ?_)
        obtain ⟨⟨x20, rfl, tx20, nx20, zx20⟩, mq19⟩ := q19
        rw [mq19]
        refine cl_X7_169 (As := [.int x20]) rfl (c_X7_flag (G := G) hs hu7  x20  (d + 2)) rfl (by omega) rfl (Nat.le_of_ble_eq_true rfl) dX7_can_36 (fun r21 u22 q23 => ?_)
        obtain ⟨⟨x24, rfl, tx24⟩, mq23⟩ := q23
        rw [mq23]
        refine g_iload_n dX7_can_39 rfl ?_
        refine g_ishl dX7_can_40 (fun x25 ex25 => ?_)
        refine g_ior dX7_can_41 ?_
        refine g_topi (fun x26 ex26 => ?_)
        refine g_istore_n dX7_can_42 (by decide) ?_
        refine g_iinc (v := i11 + 1) dX7_can_43 rfl rfl (by decide) ?_
        refine g_goto (tgt := 17) dX7_can_46 (by decide) ?_
        refine g_pick (lv' := [(0, .ref (uk_ad G 60)), (1, .int w), (2, .int x26), (3, .int (i11 + 1))]) [0, 1, 2, 3] rfl ?_
        exact ihi11 (by first | lia | grind) x26 
    refine g_pick (lv' := [(0, .ref (uk_ad G 60)), (1, .int w), (2, .int 0), (3, .int 0)]) [0, 1, 2, 3] rfl ?_
    exact L17_8 0 (by first | decide | lia | grind) (by first | decide | lia | grind) 0 
  · have zc5 := zx4 c5
    refine g_iconst (v := (-1)) dX7_can_7 (by decide) ?_
    exact g_iret (ty := .int) dX7_can_8 rfl rfl ⟨⟨_, rfl, by first | trivial | lia | grind⟩, hu, f0, hri⟩
