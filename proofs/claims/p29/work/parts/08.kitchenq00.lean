abbrev q_X6_stuffOf (u : uk_Mem) (g : Int32) (r : Option Value) (u' : uk_Mem) : Prop := (∃ x : Int32, r = some (.int x) ∧ ((g < 10 ∧ x = g) ∨ (10 ≤ g ∧ x = g - 10))) ∧ (u' = u)
set_option maxHeartbeats 4000000 in
set_option maxRecDepth 20000 in
theorem c_X6_stuffOf {G : uk_D} (hs : uk_Sep G) {u : uk_Mem} (hu : iv u) (g : Int32) (d : Nat) : uk_Meth G d mX6_stuffOf [.int g] u (q_X6_stuffOf u g) := by
  refine uk_Meth.of hs (by decide) (Nat.le_of_ble_eq_true rfl) (fun X => ?_)
  refine g_iload_n dX6_stuffOf_0 rfl ?_
  refine g_bipush (v := 10) dX6_stuffOf_1 (by decide) ?_
  refine g_icmp_lt (tgt := 13) dX6_stuffOf_3 (by decide) (fun c1 => ?_) (fun c1 => ?_)
  · refine g_iload_n dX6_stuffOf_13 rfl ?_
    exact g_iret (ty := .int) dX6_stuffOf_14 rfl rfl ⟨⟨_, rfl, by first | trivial | lia | grind⟩, rfl⟩
  · refine g_iload_n dX6_stuffOf_6 rfl ?_
    refine g_bipush (v := 10) dX6_stuffOf_7 (by decide) ?_
    refine g_isub dX6_stuffOf_9 ?_
    refine g_topi (fun x2 ex2 => ?_)
    refine g_goto (tgt := 14) dX6_stuffOf_10 (by decide) ?_
    exact g_iret (ty := .int) dX6_stuffOf_14 rfl rfl ⟨⟨_, rfl, by first | trivial | lia | grind⟩, rfl⟩
abbrev q_X0_hasStuff (u : uk_Mem) (kb : Nat) (m : Int32) (r : Option Value) (u' : uk_Mem) : Prop := (∃ x : Int32, r = some (.int x) ∧ (x = 0 ∨ x = 1) ∧ (¬ x = 0 → 0 ≤ m ∧ m < u.1 kb 0 ∧ m ≤ 7) ∧ (x = 0 → True)) ∧ (u' = u)
set_option maxHeartbeats 4000000 in
set_option maxRecDepth 20000 in
theorem c_X0_hasStuff {G : uk_D} (hs : uk_Sep G) {u : uk_Mem} (hu : iv u) {kb : Nat} (hkb : uk_isK kb) (m : Int32) (d : Nat) : uk_Meth G d mX0_hasStuff [.ref (uk_ad G kb), .int m] u (q_X0_hasStuff u kb m) := by
  refine uk_Meth.of hs (by decide) (Nat.le_of_ble_eq_true rfl) (fun X => ?_)
  refine g_iload_n dX0_hasStuff_0 rfl ?_
  refine g_if_lt (tgt := 16) dX0_hasStuff_1 (by decide) (fun c1 => ?_) (fun c1 => ?_)
  · refine g_iconst (v := 0) dX0_hasStuff_16 (by decide) ?_
    exact g_iret (ty := .boolean) dX0_hasStuff_17 rfl rfl ⟨⟨0, rfl, Or.inl rfl, fun q => absurd rfl q, fun _ => by first | trivial | lia | grind⟩, rfl⟩
  · refine g_iload_n dX0_hasStuff_4 rfl ?_
    refine g_aload_n dX0_hasStuff_5 rfl ?_
    refine f_X0_9 rfl (kk_0 hkb) dX0_hasStuff_6 ?_
    refine g_topi (fun x2 ex2 => ?_)
    have rx2 : 0 ≤ x2 ∧ x2 ≤ 8 := by rw [ex2]; exact iv_at hu _ _ (kr_0 hkb)
    have s3 : u.1 kb 0 = x2 := ex2.symm
    refine g_icmp_ge (tgt := 16) dX0_hasStuff_9 (by decide) (fun c4 => ?_) (fun c4 => ?_)
    · refine g_iconst (v := 0) dX0_hasStuff_16 (by decide) ?_
      exact g_iret (ty := .boolean) dX0_hasStuff_17 rfl rfl ⟨⟨0, rfl, Or.inl rfl, fun q => absurd rfl q, fun _ => by first | trivial | lia | grind⟩, rfl⟩
    · refine g_iconst (v := 1) dX0_hasStuff_12 (by decide) ?_
      refine g_goto (tgt := 17) dX0_hasStuff_13 (by decide) ?_
      exact g_iret (ty := .boolean) dX0_hasStuff_17 rfl rfl ⟨⟨1, rfl, Or.inr rfl, fun _ => by first | trivial | lia | grind, fun q => absurd q (by decide)⟩, rfl⟩
abbrev q_X0_isMade (u : uk_Mem) (kb : Nat) (m : Int32) (r : Option Value) (u' : uk_Mem) : Prop := (∃ x : Int32, r = some (.int x) ∧ (x = 0 ∨ x = 1) ∧ (¬ x = 0 → True) ∧ (x = 0 → True)) ∧ (u' = u)
set_option maxHeartbeats 4000000 in
set_option maxRecDepth 20000 in
theorem c_X0_isMade {G : uk_D} (hs : uk_Sep G) {u : uk_Mem} (hu : iv u) {kb : Nat} (hkb : uk_isK kb) (m : Int32) (p0 : 0 ≤ m) (p1 : m ≤ 7) (d : Nat) : uk_Meth G d mX0_isMade [.ref (uk_ad G kb), .int m] u (q_X0_isMade u kb m) := by
  refine uk_Meth.of hs (by decide) (Nat.le_of_ble_eq_true rfl) (fun X => ?_)
  refine g_aload_n dX0_isMade_0 rfl ?_
  refine f_X0_15 rfl (kk_0 hkb) dX0_isMade_1 ?_
  refine g_iload_n dX0_isMade_4 rfl ?_
  have v1 : vp_in m 8 := uk_vin 8 rfl (by first | decide | lia | grind) (by first | decide | lia | grind)
  refine g_iald (kk_1 hkb) (kl_1 hkb) v1 dX0_isMade_5 ?_
  refine g_topi (fun x2 ex2 => ?_)
  refine g_iconst (v := 4) dX0_isMade_6 (by decide) ?_
  refine g_icmp_eq (tgt := 14) dX0_isMade_7 (by decide) (fun c3 => ?_) (fun c3 => ?_)
  · refine g_iconst (v := 0) dX0_isMade_14 (by decide) ?_
    exact g_iret (ty := .boolean) dX0_isMade_15 rfl rfl ⟨⟨0, rfl, Or.inl rfl, fun q => absurd rfl q, fun _ => by first | trivial | lia | grind⟩, rfl⟩
  · refine g_iconst (v := 1) dX0_isMade_10 (by decide) ?_
    refine g_goto (tgt := 15) dX0_isMade_11 (by decide) ?_
    exact g_iret (ty := .boolean) dX0_isMade_15 rfl rfl ⟨⟨1, rfl, Or.inr rfl, fun _ => by first | trivial | lia | grind, fun q => absurd q (by decide)⟩, rfl⟩
abbrev q_X0_givesB (u : uk_Mem) (k : Int32) (h : Int32) (r : Option Value) (u' : uk_Mem) : Prop := (∃ x : Int32, r = some (.int x) ∧ (x = 0 ∨ x = 1) ∧ (¬ x = 0 → True) ∧ (x = 0 → True)) ∧ (u' = u)
set_option maxHeartbeats 4000000 in
set_option maxRecDepth 20000 in
theorem c_X0_givesB {G : uk_D} (hs : uk_Sep G) {u : uk_Mem} (hu : iv u) (k : Int32) (h : Int32) (d : Nat) : uk_Meth G d mX0_givesB [.int k, .int h] u (q_X0_givesB u k h) := by
  refine uk_Meth.of hs (by decide) (Nat.le_of_ble_eq_true rfl) (fun X => ?_)
  refine g_iload_n dX0_givesB_0 rfl ?_
  refine g_if_eq (tgt := 14) dX0_givesB_1 (by decide) (fun c1 => ?_) (fun c1 => ?_)
  · refine g_iconst (v := 1) dX0_givesB_14 (by decide) ?_
    refine g_goto (tgt := 19) dX0_givesB_15 (by decide) ?_
    exact g_iret (ty := .boolean) dX0_givesB_19 rfl rfl ⟨⟨1, rfl, Or.inr rfl, fun _ => by first | trivial | lia | grind, fun q => absurd q (by decide)⟩, rfl⟩
  · refine g_iload_n dX0_givesB_4 rfl ?_
    refine g_iconst (v := 3) dX0_givesB_5 (by decide) ?_
    refine g_icmp_ne (tgt := 18) dX0_givesB_6 (by decide) (fun c2 => ?_) (fun c2 => ?_)
    · refine g_iconst (v := 0) dX0_givesB_18 (by decide) ?_
      exact g_iret (ty := .boolean) dX0_givesB_19 rfl rfl ⟨⟨0, rfl, Or.inl rfl, fun q => absurd rfl q, fun _ => by first | trivial | lia | grind⟩, rfl⟩
    · refine g_iload_n dX0_givesB_9 rfl ?_
      refine g_iconst (v := 1) dX0_givesB_10 (by decide) ?_
      refine g_icmp_ne (tgt := 18) dX0_givesB_11 (by decide) (fun c3 => ?_) (fun c3 => ?_)
      · refine g_iconst (v := 0) dX0_givesB_18 (by decide) ?_
        exact g_iret (ty := .boolean) dX0_givesB_19 rfl rfl ⟨⟨0, rfl, Or.inl rfl, fun q => absurd rfl q, fun _ => by first | trivial | lia | grind⟩, rfl⟩
      · refine g_iconst (v := 1) dX0_givesB_14 (by decide) ?_
        refine g_goto (tgt := 19) dX0_givesB_15 (by decide) ?_
        exact g_iret (ty := .boolean) dX0_givesB_19 rfl rfl ⟨⟨1, rfl, Or.inr rfl, fun _ => by first | trivial | lia | grind, fun q => absurd q (by decide)⟩, rfl⟩
abbrev q_X0_isCookable (u : uk_Mem) (kb : Nat) (m : Int32) (r : Option Value) (u' : uk_Mem) : Prop := (∃ x : Int32, r = some (.int x) ∧ (x = 0 ∨ x = 1) ∧ (¬ x = 0 → True) ∧ (x = 0 → True)) ∧ (u' = u)
set_option maxHeartbeats 4000000 in
set_option maxRecDepth 20000 in
theorem c_X0_isCookable {G : uk_D} (hs : uk_Sep G) {u : uk_Mem} (hu : iv u) {kb : Nat} (hkb : uk_isK kb) (m : Int32) (p0 : 0 ≤ m) (p1 : m ≤ 7) (d : Nat) : uk_Meth G d mX0_isCookable [.ref (uk_ad G kb), .int m] u (q_X0_isCookable u kb m) := by
  refine uk_Meth.of hs (by decide) (Nat.le_of_ble_eq_true rfl) (fun X => ?_)
  refine g_aload_n dX0_isCookable_0 rfl ?_
  refine f_X0_19 rfl (kk_0 hkb) dX0_isCookable_1 ?_
  refine g_iload_n dX0_isCookable_4 rfl ?_
  have v1 : vp_in m 8 := uk_vin 8 rfl (by first | decide | lia | grind) (by first | decide | lia | grind)
  refine g_iald (kk_2 hkb) (kl_2 hkb) v1 dX0_isCookable_5 ?_
  refine g_topi (fun x2 ex2 => ?_)
  have bx2 := uk_cl v1
  have rx2 : 0 ≤ x2 ∧ x2 ≤ 7 := by rw [ex2]; exact iv_at hu _ _ (ka_2 hkb _ (by omega))
  refine g_istore_n dX0_isCookable_6 (by decide) ?_
  refine g_pick (lv' := [(0, .ref (uk_ad G kb)), (1, .int m), (2, .int x2)]) [0, 1, 2] rfl ?_
  refine g_aload_n dX0_isCookable_7 rfl ?_
  refine f_X0_22 rfl (kk_0 hkb) dX0_isCookable_8 ?_
  refine g_iload_n dX0_isCookable_11 rfl ?_
  have v3 : vp_in m 8 := uk_vin 8 rfl (by first | decide | lia | grind) (by first | decide | lia | grind)
  refine g_iald (kk_3 hkb) (kl_3 hkb) v3 dX0_isCookable_12 ?_
  refine g_topi (fun x4 ex4 => ?_)
  have bx4 := uk_cl v3
  have rx4 : 0 ≤ x4 ∧ x4 ≤ 7 := by rw [ex4]; exact iv_at hu _ _ (ka_3 hkb _ (by omega))
  refine g_istore_n dX0_isCookable_13 (by decide) ?_
  refine g_pick (lv' := [(0, .ref (uk_ad G kb)), (1, .int m), (2, .int x2), (3, .int x4)]) [0, 1, 2, 3] rfl ?_
  refine g_iload_n dX0_isCookable_14 rfl ?_
  refine g_iload_n dX0_isCookable_15 rfl ?_
  refine g_icmp_ne (tgt := 23) dX0_isCookable_16 (by decide) (fun c5 => ?_) (fun c5 => ?_)
  · refine g_iconst (v := 1) dX0_isCookable_23 (by decide) ?_
    refine g_istore dX0_isCookable_24 (by decide) ?_
    refine g_pick (lv' := [(0, .ref (uk_ad G kb)), (1, .int m), (2, .int x2), (3, .int x4), (4, .int 1)]) [0, 1, 2, 3, 4] rfl ?_
    refine g_aload_n dX0_isCookable_26 rfl ?_
    refine f_X0_31 rfl (kk_0 hkb) dX0_isCookable_27 ?_
    refine g_iload_n dX0_isCookable_30 rfl ?_
    have v6 : vp_in m 8 := uk_vin 8 rfl (by first | decide | lia | grind) (by first | decide | lia | grind)
    refine g_iald (kk_6 hkb) (kl_6 hkb) v6 dX0_isCookable_31 ?_
    refine g_topi (fun x7 ex7 => ?_)
    refine g_bipush (v := 40) dX0_isCookable_32 (by decide) ?_
    refine g_icmp_ge (tgt := 62) dX0_isCookable_34 (by decide) (fun c8 => ?_) (fun c8 => ?_)
    · refine g_iconst (v := 0) dX0_isCookable_62 (by decide) ?_
      exact g_iret (ty := .boolean) dX0_isCookable_63 rfl rfl ⟨⟨0, rfl, Or.inl rfl, fun q => absurd rfl q, fun _ => by first | trivial | lia | grind⟩, rfl⟩
    · refine g_aload_n dX0_isCookable_37 rfl ?_
      refine f_X0_31 rfl (kk_0 hkb) dX0_isCookable_38 ?_
      refine g_iload_n dX0_isCookable_41 rfl ?_
      have v9 : vp_in x2 8 := uk_vin 8 rfl (by first | decide | lia | grind) (by first | decide | lia | grind)
      refine g_iald (kk_6 hkb) (kl_6 hkb) v9 dX0_isCookable_42 ?_
      refine g_topi (fun x10 ex10 => ?_)
      refine g_iconst (v := 1) dX0_isCookable_43 (by decide) ?_
      refine g_icmp_lt (tgt := 62) dX0_isCookable_44 (by decide) (fun c11 => ?_) (fun c11 => ?_)
      · refine g_iconst (v := 0) dX0_isCookable_62 (by decide) ?_
        exact g_iret (ty := .boolean) dX0_isCookable_63 rfl rfl ⟨⟨0, rfl, Or.inl rfl, fun q => absurd rfl q, fun _ => by first | trivial | lia | grind⟩, rfl⟩
      · refine g_aload_n dX0_isCookable_47 rfl ?_
        refine f_X0_31 rfl (kk_0 hkb) dX0_isCookable_48 ?_
        refine g_iload_n dX0_isCookable_51 rfl ?_
        have v12 : vp_in x4 8 := uk_vin 8 rfl (by first | decide | lia | grind) (by first | decide | lia | grind)
        refine g_iald (kk_6 hkb) (kl_6 hkb) v12 dX0_isCookable_52 ?_
        refine g_topi (fun x13 ex13 => ?_)
        refine g_iload dX0_isCookable_53 rfl ?_
        refine g_icmp_lt (tgt := 62) dX0_isCookable_55 (by decide) (fun c14 => ?_) (fun c14 => ?_)
        · refine g_iconst (v := 0) dX0_isCookable_62 (by decide) ?_
          exact g_iret (ty := .boolean) dX0_isCookable_63 rfl rfl ⟨⟨0, rfl, Or.inl rfl, fun q => absurd rfl q, fun _ => by first | trivial | lia | grind⟩, rfl⟩
        · refine g_iconst (v := 1) dX0_isCookable_58 (by decide) ?_
          refine g_goto (tgt := 63) dX0_isCookable_59 (by decide) ?_
          exact g_iret (ty := .boolean) dX0_isCookable_63 rfl rfl ⟨⟨1, rfl, Or.inr rfl, fun _ => by first | trivial | lia | grind, fun q => absurd q (by decide)⟩, rfl⟩
  · refine g_iconst (v := 2) dX0_isCookable_19 (by decide) ?_
    refine g_goto (tgt := 24) dX0_isCookable_20 (by decide) ?_
    refine g_istore dX0_isCookable_24 (by decide) ?_
    refine g_pick (lv' := [(0, .ref (uk_ad G kb)), (1, .int m), (2, .int x2), (3, .int x4), (4, .int 2)]) [0, 1, 2, 3, 4] rfl ?_
    refine g_aload_n dX0_isCookable_26 rfl ?_
    refine f_X0_31 rfl (kk_0 hkb) dX0_isCookable_27 ?_
    refine g_iload_n dX0_isCookable_30 rfl ?_
    have v15 : vp_in m 8 := uk_vin 8 rfl (by first | decide | lia | grind) (by first | decide | lia | grind)
    refine g_iald (kk_6 hkb) (kl_6 hkb) v15 dX0_isCookable_31 ?_
    refine g_topi (fun x16 ex16 => ?_)
    refine g_bipush (v := 40) dX0_isCookable_32 (by decide) ?_
    refine g_icmp_ge (tgt := 62) dX0_isCookable_34 (by decide) (fun c17 => ?_) (fun c17 => ?_)
    · refine g_iconst (v := 0) dX0_isCookable_62 (by decide) ?_
      exact g_iret (ty := .boolean) dX0_isCookable_63 rfl rfl ⟨⟨0, rfl, Or.inl rfl, fun q => absurd rfl q, fun _ => by first | trivial | lia | grind⟩, rfl⟩
    · refine g_aload_n dX0_isCookable_37 rfl ?_
      refine f_X0_31 rfl (kk_0 hkb) dX0_isCookable_38 ?_
      refine g_iload_n dX0_isCookable_41 rfl ?_
      have v18 : vp_in x2 8 := uk_vin 8 rfl (by first | decide | lia | grind) (by first | decide | lia | grind)
      refine g_iald (kk_6 hkb) (kl_6 hkb) v18 dX0_isCookable_42 ?_
      refine g_topi (fun x19 ex19 => ?_)
      refine g_iconst (v := 1) dX0_isCookable_43 (by decide) ?_
      refine g_icmp_lt (tgt := 62) dX0_isCookable_44 (by decide) (fun c20 => ?_) (fun c20 => ?_)
      · refine g_iconst (v := 0) dX0_isCookable_62 (by decide) ?_
        exact g_iret (ty := .boolean) dX0_isCookable_63 rfl rfl ⟨⟨0, rfl, Or.inl rfl, fun q => absurd rfl q, fun _ => by first | trivial | lia | grind⟩, rfl⟩
      · refine g_aload_n dX0_isCookable_47 rfl ?_
        refine f_X0_31 rfl (kk_0 hkb) dX0_isCookable_48 ?_
        refine g_iload_n dX0_isCookable_51 rfl ?_
        have v21 : vp_in x4 8 := uk_vin 8 rfl (by first | decide | lia | grind) (by first | decide | lia | grind)
        refine g_iald (kk_6 hkb) (kl_6 hkb) v21 dX0_isCookable_52 ?_
        refine g_topi (fun x22 ex22 => ?_)
        refine g_iload dX0_isCookable_53 rfl ?_
        refine g_icmp_lt (tgt := 62) dX0_isCookable_55 (by decide) (fun c23 => ?_) (fun c23 => ?_)
        · refine g_iconst (v := 0) dX0_isCookable_62 (by decide) ?_
          exact g_iret (ty := .boolean) dX0_isCookable_63 rfl rfl ⟨⟨0, rfl, Or.inl rfl, fun q => absurd rfl q, fun _ => by first | trivial | lia | grind⟩, rfl⟩
        · refine g_iconst (v := 1) dX0_isCookable_58 (by decide) ?_
          refine g_goto (tgt := 63) dX0_isCookable_59 (by decide) ?_
          exact g_iret (ty := .boolean) dX0_isCookable_63 rfl rfl ⟨⟨1, rfl, Or.inr rfl, fun _ => by first | trivial | lia | grind, fun q => absurd q (by decide)⟩, rfl⟩
abbrev q_X0_isTurnable (u : uk_Mem) (kb : Nat) (m : Int32) (r : Option Value) (u' : uk_Mem) : Prop := (∃ x : Int32, r = some (.int x) ∧ (x = 0 ∨ x = 1) ∧ (¬ x = 0 → True) ∧ (x = 0 → True)) ∧ (u' = u)
set_option maxHeartbeats 4000000 in
set_option maxRecDepth 20000 in
theorem c_X0_isTurnable {G : uk_D} (hs : uk_Sep G) {u : uk_Mem} (hu : iv u) {kb : Nat} (hkb : uk_isK kb) (m : Int32) (p0 : 0 ≤ m) (p1 : m ≤ 7) (d : Nat) : uk_Meth G (d + 1) mX0_isTurnable [.ref (uk_ad G kb), .int m] u (q_X0_isTurnable u kb m) := by
  refine uk_Meth.of hs (by decide) (Nat.le_of_ble_eq_true rfl) (fun X => ?_)
  refine g_aload_n dX0_isTurnable_0 rfl ?_
  refine f_X0_15 rfl (kk_0 hkb) dX0_isTurnable_1 ?_
  refine g_iload_n dX0_isTurnable_4 rfl ?_
  have v1 : vp_in m 8 := uk_vin 8 rfl (by first | decide | lia | grind) (by first | decide | lia | grind)
  refine g_iald (kk_1 hkb) (kl_1 hkb) v1 dX0_isTurnable_5 ?_
  refine g_topi (fun x2 ex2 => ?_)
  refine g_iconst (v := 2) dX0_isTurnable_6 (by decide) ?_
  refine g_icmp_eq (tgt := 19) dX0_isTurnable_7 (by decide) (fun c3 => ?_) (fun c3 => ?_)
  · refine g_iconst (v := 0) dX0_isTurnable_19 (by decide) ?_
    exact g_iret (ty := .boolean) dX0_isTurnable_20 rfl rfl ⟨⟨0, rfl, Or.inl rfl, fun q => absurd rfl q, fun _ => by first | trivial | lia | grind⟩, rfl⟩
  · refine g_aload_n dX0_isTurnable_10 rfl ?_
    refine f_X0_31 rfl (kk_0 hkb) dX0_isTurnable_11 ?_
    refine g_iload_n dX0_isTurnable_14 rfl ?_
    have v4 : vp_in m 8 := uk_vin 8 rfl (by first | decide | lia | grind) (by first | decide | lia | grind)
    refine g_iald (kk_6 hkb) (kl_6 hkb) v4 dX0_isTurnable_15 ?_
    refine g_topi (fun x5 ex5 => ?_)
    refine g_if_ne (tgt := 21) dX0_isTurnable_16 (by decide) (fun c6 => ?_) (fun c6 => ?_)
    · refine g_aload_n dX0_isTurnable_21 rfl ?_
      refine f_X0_19 rfl (kk_0 hkb) dX0_isTurnable_22 ?_
      refine g_iload_n dX0_isTurnable_25 rfl ?_
      have v7 : vp_in m 8 := uk_vin 8 rfl (by first | decide | lia | grind) (by first | decide | lia | grind)
      refine g_iald (kk_2 hkb) (kl_2 hkb) v7 dX0_isTurnable_26 ?_
      refine g_topi (fun x8 ex8 => ?_)
      have bx8 := uk_cl v7
      have rx8 : 0 ≤ x8 ∧ x8 ≤ 7 := by rw [ex8]; exact iv_at hu _ _ (ka_2 hkb _ (by omega))
      refine g_istore_n dX0_isTurnable_27 (by decide) ?_
      refine g_pick (lv' := [(0, .ref (uk_ad G kb)), (1, .int m), (2, .int x8)]) [0, 1, 2] rfl ?_
      refine g_aload_n dX0_isTurnable_28 rfl ?_
      refine f_X0_22 rfl (kk_0 hkb) dX0_isTurnable_29 ?_
      refine g_iload_n dX0_isTurnable_32 rfl ?_
      have v9 : vp_in m 8 := uk_vin 8 rfl (by first | decide | lia | grind) (by first | decide | lia | grind)
      refine g_iald (kk_3 hkb) (kl_3 hkb) v9 dX0_isTurnable_33 ?_
      refine g_topi (fun x10 ex10 => ?_)
      have bx10 := uk_cl v9
      have rx10 : 0 ≤ x10 ∧ x10 ≤ 7 := by rw [ex10]; exact iv_at hu _ _ (ka_3 hkb _ (by omega))
      refine g_istore_n dX0_isTurnable_34 (by decide) ?_
      refine g_pick (lv' := [(0, .ref (uk_ad G kb)), (1, .int m), (2, .int x8), (3, .int x10)]) [0, 1, 2, 3] rfl ?_
      refine g_aload_n dX0_isTurnable_35 rfl ?_
      refine f_X0_15 rfl (kk_0 hkb) dX0_isTurnable_36 ?_
      refine g_iload_n dX0_isTurnable_39 rfl ?_
      have v11 : vp_in m 8 := uk_vin 8 rfl (by first | decide | lia | grind) (by first | decide | lia | grind)
      refine g_iald (kk_1 hkb) (kl_1 hkb) v11 dX0_isTurnable_40 ?_
      refine g_topi (fun x12 ex12 => ?_)
      refine g_aload_n dX0_isTurnable_41 rfl ?_
      refine f_X0_34 rfl (kk_0 hkb) dX0_isTurnable_42 ?_
      refine g_iload_n dX0_isTurnable_45 rfl ?_
      have v13 : vp_in m 8 := uk_vin 8 rfl (by first | decide | lia | grind) (by first | decide | lia | grind)
      refine g_iald (kk_7 hkb) (kl_7 hkb) v13 dX0_isTurnable_46 ?_
      refine g_topi (fun x14 ex14 => ?_)
      refine cl_X0_70 (As := [.int x12, .int x14]) rfl (c_X0_givesB (G := G) hs hu  x12 x14  (d)) rfl (by omega) rfl (Nat.le_of_ble_eq_true rfl) dX0_isTurnable_47 (fun r15 u16 q17 => ?_)
      obtain ⟨⟨x18, rfl, tx18, nx18, zx18⟩, mq17⟩ := q17
      rw [mq17]
      refine g_if_ne (tgt := 70) dX0_isTurnable_50 (by decide) (fun c19 => ?_) (fun c19 => ?_)
      · have zc19 := nx18 c19
        refine g_iload_n dX0_isTurnable_70 rfl ?_
        refine g_iload_n dX0_isTurnable_71 rfl ?_
        refine g_icmp_ne (tgt := 79) dX0_isTurnable_72 (by decide) (fun c20 => ?_) (fun c20 => ?_)
        · refine g_iconst (v := 1) dX0_isTurnable_79 (by decide) ?_
          refine g_istore dX0_isTurnable_80 (by decide) ?_
          refine g_pick (lv' := [(0, .ref (uk_ad G kb)), (1, .int m), (2, .int x8), (3, .int x10), (4, .int 1)]) [0, 1, 2, 3, 4] rfl ?_
          refine g_aload_n dX0_isTurnable_82 rfl ?_
          refine f_X0_31 rfl (kk_0 hkb) dX0_isTurnable_83 ?_
          refine g_iload_n dX0_isTurnable_86 rfl ?_
          have v21 : vp_in x8 8 := uk_vin 8 rfl (by first | decide | lia | grind) (by first | decide | lia | grind)
          refine g_iald (kk_6 hkb) (kl_6 hkb) v21 dX0_isTurnable_87 ?_
          refine g_topi (fun x22 ex22 => ?_)
          refine g_bipush (v := 40) dX0_isTurnable_88 (by decide) ?_
          refine g_icmp_ge (tgt := 111) dX0_isTurnable_90 (by decide) (fun c23 => ?_) (fun c23 => ?_)
          · refine g_iconst (v := 0) dX0_isTurnable_111 (by decide) ?_
            exact g_iret (ty := .boolean) dX0_isTurnable_112 rfl rfl ⟨⟨0, rfl, Or.inl rfl, fun q => absurd rfl q, fun _ => by first | trivial | lia | grind⟩, rfl⟩
          · refine g_aload_n dX0_isTurnable_93 rfl ?_
            refine f_X0_31 rfl (kk_0 hkb) dX0_isTurnable_94 ?_
            refine g_iload_n dX0_isTurnable_97 rfl ?_
            have v24 : vp_in x10 8 := uk_vin 8 rfl (by first | decide | lia | grind) (by first | decide | lia | grind)
            refine g_iald (kk_6 hkb) (kl_6 hkb) v24 dX0_isTurnable_98 ?_
            refine g_topi (fun x25 ex25 => ?_)
            refine g_iload dX0_isTurnable_99 rfl ?_
            refine g_iadd dX0_isTurnable_101 ?_
            refine g_topi (fun x26 ex26 => ?_)
            refine g_bipush (v := 40) dX0_isTurnable_102 (by decide) ?_
            refine g_icmp_gt (tgt := 111) dX0_isTurnable_104 (by decide) (fun c27 => ?_) (fun c27 => ?_)
            · refine g_iconst (v := 0) dX0_isTurnable_111 (by decide) ?_
              exact g_iret (ty := .boolean) dX0_isTurnable_112 rfl rfl ⟨⟨0, rfl, Or.inl rfl, fun q => absurd rfl q, fun _ => by first | trivial | lia | grind⟩, rfl⟩
            · refine g_iconst (v := 1) dX0_isTurnable_107 (by decide) ?_
              refine g_goto (tgt := 112) dX0_isTurnable_108 (by decide) ?_
              exact g_iret (ty := .boolean) dX0_isTurnable_112 rfl rfl ⟨⟨1, rfl, Or.inr rfl, fun _ => by first | trivial | lia | grind, fun q => absurd q (by decide)⟩, rfl⟩
        · refine g_iconst (v := 2) dX0_isTurnable_75 (by decide) ?_
          refine g_goto (tgt := 80) dX0_isTurnable_76 (by decide) ?_
          refine g_istore dX0_isTurnable_80 (by decide) ?_
          refine g_pick (lv' := [(0, .ref (uk_ad G kb)), (1, .int m), (2, .int x8), (3, .int x10), (4, .int 2)]) [0, 1, 2, 3, 4] rfl ?_
          refine g_aload_n dX0_isTurnable_82 rfl ?_
          refine f_X0_31 rfl (kk_0 hkb) dX0_isTurnable_83 ?_
          refine g_iload_n dX0_isTurnable_86 rfl ?_
          have v28 : vp_in x8 8 := uk_vin 8 rfl (by first | decide | lia | grind) (by first | decide | lia | grind)
          refine g_iald (kk_6 hkb) (kl_6 hkb) v28 dX0_isTurnable_87 ?_
          refine g_topi (fun x29 ex29 => ?_)
          refine g_bipush (v := 40) dX0_isTurnable_88 (by decide) ?_
          refine g_icmp_ge (tgt := 111) dX0_isTurnable_90 (by decide) (fun c30 => ?_) (fun c30 => ?_)
          · refine g_iconst (v := 0) dX0_isTurnable_111 (by decide) ?_
            exact g_iret (ty := .boolean) dX0_isTurnable_112 rfl rfl ⟨⟨0, rfl, Or.inl rfl, fun q => absurd rfl q, fun _ => by first | trivial | lia | grind⟩, rfl⟩
          · refine g_aload_n dX0_isTurnable_93 rfl ?_
            refine f_X0_31 rfl (kk_0 hkb) dX0_isTurnable_94 ?_
            refine g_iload_n dX0_isTurnable_97 rfl ?_
            have v31 : vp_in x10 8 := uk_vin 8 rfl (by first | decide | lia | grind) (by first | decide | lia | grind)
            refine g_iald (kk_6 hkb) (kl_6 hkb) v31 dX0_isTurnable_98 ?_
            refine g_topi (fun x32 ex32 => ?_)
            refine g_iload dX0_isTurnable_99 rfl ?_
            refine g_iadd dX0_isTurnable_101 ?_
            refine g_topi (fun x33 ex33 => ?_)
            refine g_bipush (v := 40) dX0_isTurnable_102 (by decide) ?_
            refine g_icmp_gt (tgt := 111) dX0_isTurnable_104 (by decide) (fun c34 => ?_) (fun c34 => ?_)
            · refine g_iconst (v := 0) dX0_isTurnable_111 (by decide) ?_
              exact g_iret (ty := .boolean) dX0_isTurnable_112 rfl rfl ⟨⟨0, rfl, Or.inl rfl, fun q => absurd rfl q, fun _ => by first | trivial | lia | grind⟩, rfl⟩
            · refine g_iconst (v := 1) dX0_isTurnable_107 (by decide) ?_
              refine g_goto (tgt := 112) dX0_isTurnable_108 (by decide) ?_
              exact g_iret (ty := .boolean) dX0_isTurnable_112 rfl rfl ⟨⟨1, rfl, Or.inr rfl, fun _ => by first | trivial | lia | grind, fun q => absurd q (by decide)⟩, rfl⟩
      · have zc19 := zx18 c19
        refine g_aload_n dX0_isTurnable_53 rfl ?_
        refine f_X0_31 rfl (kk_0 hkb) dX0_isTurnable_54 ?_
        refine g_iload_n dX0_isTurnable_57 rfl ?_
        have v35 : vp_in x8 8 := uk_vin 8 rfl (by first | decide | lia | grind) (by first | decide | lia | grind)
        refine g_iald (kk_6 hkb) (kl_6 hkb) v35 dX0_isTurnable_58 ?_
        refine g_topi (fun x36 ex36 => ?_)
        refine g_bipush (v := 40) dX0_isTurnable_59 (by decide) ?_
        refine g_icmp_ge (tgt := 68) dX0_isTurnable_61 (by decide) (fun c37 => ?_) (fun c37 => ?_)
        · refine g_iconst (v := 0) dX0_isTurnable_68 (by decide) ?_
          exact g_iret (ty := .boolean) dX0_isTurnable_69 rfl rfl ⟨⟨0, rfl, Or.inl rfl, fun q => absurd rfl q, fun _ => by first | trivial | lia | grind⟩, rfl⟩
        · refine g_iconst (v := 1) dX0_isTurnable_64 (by decide) ?_
          refine g_goto (tgt := 69) dX0_isTurnable_65 (by decide) ?_
          exact g_iret (ty := .boolean) dX0_isTurnable_69 rfl rfl ⟨⟨1, rfl, Or.inr rfl, fun _ => by first | trivial | lia | grind, fun q => absurd q (by decide)⟩, rfl⟩
    · refine g_iconst (v := 0) dX0_isTurnable_19 (by decide) ?_
      exact g_iret (ty := .boolean) dX0_isTurnable_20 rfl rfl ⟨⟨0, rfl, Or.inl rfl, fun q => absurd rfl q, fun _ => by first | trivial | lia | grind⟩, rfl⟩
abbrev q_X0_hasDoing (u : uk_Mem) (kb : Nat) (g : Int32) (r : Option Value) (u' : uk_Mem) : Prop := (∃ x : Int32, r = some (.int x) ∧ (x = 0 ∨ x = 1) ∧ (¬ x = 0 → (0 ≤ g ∧ g ≤ 7) ∨ (10 ≤ g ∧ g ≤ 17)) ∧ (x = 0 → True)) ∧ (u' = u)
abbrev q_X0_isAble (u : uk_Mem) (kb : Nat) (g : Int32) (r : Option Value) (u' : uk_Mem) : Prop := (∃ x : Int32, r = some (.int x) ∧ (x = 0 ∨ x = 1) ∧ (¬ x = 0 → (0 ≤ g ∧ g ≤ 7) ∨ (10 ≤ g ∧ g ≤ 17)) ∧ (x = 0 → True)) ∧ (u' = u)
set_option maxHeartbeats 4000000 in
set_option maxRecDepth 20000 in
theorem c_X0_isAble {G : uk_D} (hs : uk_Sep G) {u : uk_Mem} (hu : iv u) {kb : Nat} (hkb : uk_isK kb) (g : Int32) (d : Nat) : uk_Meth G (d + 2) mX0_isAble [.ref (uk_ad G kb), .int g] u (q_X0_isAble u kb g) := by
  refine uk_Meth.of hs (by decide) (Nat.le_of_ble_eq_true rfl) (fun X => ?_)
  refine g_iload_n dX0_isAble_0 rfl ?_
  refine cl_X0_53 (As := [.int g]) rfl (c_X6_stuffOf (G := G) hs hu  g  (d + 1)) rfl (by omega) rfl (Nat.le_of_ble_eq_true rfl) dX0_isAble_1 (fun r1 u2 q3 => ?_)
  obtain ⟨⟨x4, rfl, tx4⟩, mq3⟩ := q3
  rw [mq3]
  refine g_istore_n dX0_isAble_4 (by decide) ?_
  refine g_pick (lv' := [(0, .ref (uk_ad G kb)), (1, .int g), (2, .int x4)]) [0, 1, 2] rfl ?_
  refine g_iload_n dX0_isAble_5 rfl ?_
  refine g_if_lt (tgt := 25) dX0_isAble_6 (by decide) (fun c5 => ?_) (fun c5 => ?_)
  · refine g_iconst (v := 0) dX0_isAble_25 (by decide) ?_
    exact g_iret (ty := .boolean) dX0_isAble_26 rfl rfl ⟨⟨0, rfl, Or.inl rfl, fun q => absurd rfl q, fun _ => by first | trivial | lia | grind⟩, rfl⟩
  · refine g_aload_n dX0_isAble_9 rfl ?_
    refine g_iload_n dX0_isAble_10 rfl ?_
    refine cl_X0_57 (c := kb) (As := [.int x4]) rfl (c_X0_hasStuff (G := G) hs hu hkb x4  (d + 1)) rfl (by omega) (kk_0 hkb) rfl (Nat.le_of_ble_eq_true rfl) dX0_isAble_11 (fun r6 u7 q8 => ?_)
    obtain ⟨⟨x9, rfl, tx9, nx9, zx9⟩, mq8⟩ := q8
    rw [mq8]
    refine g_if_eq (tgt := 25) dX0_isAble_14 (by decide) (fun c10 => ?_) (fun c10 => ?_)
    · have zc10 := zx9 c10
      refine g_iconst (v := 0) dX0_isAble_25 (by decide) ?_
      exact g_iret (ty := .boolean) dX0_isAble_26 rfl rfl ⟨⟨0, rfl, Or.inl rfl, fun q => absurd rfl q, fun _ => by first | trivial | lia | grind⟩, rfl⟩
    · have zc10 := nx9 c10
      refine g_aload_n dX0_isAble_17 rfl ?_
      refine g_iload_n dX0_isAble_18 rfl ?_
      refine cl_X0_61 (c := kb) (As := [.int x4]) rfl (c_X0_isMade (G := G) hs hu hkb x4 (by first | trivial | decide | lia | grind) (by first | trivial | decide | lia | grind) (d + 1)) rfl (by omega) (kk_0 hkb) rfl (Nat.le_of_ble_eq_true rfl) dX0_isAble_19 (fun r11 u12 q13 => ?_)
      obtain ⟨⟨x14, rfl, tx14, nx14, zx14⟩, mq13⟩ := q13
      rw [mq13]
      refine g_if_ne (tgt := 27) dX0_isAble_22 (by decide) (fun c15 => ?_) (fun c15 => ?_)
      · have zc15 := nx14 c15
        refine g_iload_n dX0_isAble_27 rfl ?_
        refine g_bipush (v := 10) dX0_isAble_28 (by decide) ?_
        refine g_icmp_lt (tgt := 41) dX0_isAble_30 (by decide) (fun c16 => ?_) (fun c16 => ?_)
        · refine g_aload_n dX0_isAble_41 rfl ?_
          refine g_iload_n dX0_isAble_42 rfl ?_
          refine cl_X0_67 (c := kb) (As := [.int x4]) rfl (c_X0_isCookable (G := G) hs hu hkb x4 (by first | trivial | decide | lia | grind) (by first | trivial | decide | lia | grind) (d + 1)) rfl (by omega) (kk_0 hkb) rfl (Nat.le_of_ble_eq_true rfl) dX0_isAble_43 (fun r17 u18 q19 => ?_)
          obtain ⟨⟨x20, rfl, tx20, nx20, zx20⟩, mq19⟩ := q19
          rw [mq19]
          exact g_iret (ty := .boolean) dX0_isAble_46 rfl (uk_nb tx20) ⟨⟨_, rfl, tx20, fun q => by first | trivial | (have := nx20 q; first | exact this | grind), fun q => by first | trivial | (have := zx20 q; first | exact this | grind)⟩, rfl⟩
        · refine g_aload_n dX0_isAble_33 rfl ?_
          refine g_iload_n dX0_isAble_34 rfl ?_
          refine cl_X0_64 (c := kb) (As := [.int x4]) rfl (c_X0_isTurnable (G := G) hs hu hkb x4 (by first | trivial | decide | lia | grind) (by first | trivial | decide | lia | grind) (d)) rfl (by omega) (kk_0 hkb) rfl (Nat.le_of_ble_eq_true rfl) dX0_isAble_35 (fun r21 u22 q23 => ?_)
          obtain ⟨⟨x24, rfl, tx24, nx24, zx24⟩, mq23⟩ := q23
          rw [mq23]
          refine g_goto (tgt := 46) dX0_isAble_38 (by decide) ?_
          exact g_iret (ty := .boolean) dX0_isAble_46 rfl (uk_nb tx24) ⟨⟨_, rfl, tx24, fun q => by first | trivial | (have := nx24 q; first | exact this | grind), fun q => by first | trivial | (have := zx24 q; first | exact this | grind)⟩, rfl⟩
      · have zc15 := zx14 c15
        refine g_iconst (v := 0) dX0_isAble_25 (by decide) ?_
        exact g_iret (ty := .boolean) dX0_isAble_26 rfl rfl ⟨⟨0, rfl, Or.inl rfl, fun q => absurd rfl q, fun _ => by first | trivial | lia | grind⟩, rfl⟩
abbrev q_X0_rawBits (u : uk_Mem) (kb : Nat) (r : Option Value) (u' : uk_Mem) : Prop := (∃ x : Int32, r = some (.int x) ∧ True) ∧ (u' = u)
abbrev q_X0_thereBits (u : uk_Mem) (kb : Nat) (r : Option Value) (u' : uk_Mem) : Prop := (∃ x : Int32, r = some (.int x) ∧ True) ∧ (u' = u)
abbrev q_X0_things (u : uk_Mem) (kb : Nat) (r : Option Value) (u' : uk_Mem) : Prop := (∃ x : Int32, r = some (.int x) ∧ True) ∧ (u' = u)
set_option maxHeartbeats 4000000 in
set_option maxRecDepth 20000 in
theorem c_X0_things {G : uk_D} (hs : uk_Sep G) {u : uk_Mem} (hu : iv u) {kb : Nat} (hkb : uk_isK kb) (d : Nat) : uk_Meth G d mX0_things [.ref (uk_ad G kb)] u (q_X0_things u kb) := by
  refine uk_Meth.of hs (by decide) (Nat.le_of_ble_eq_true rfl) (fun X => ?_)
  refine g_iconst (v := 0) dX0_things_0 (by decide) ?_
  refine g_istore_n dX0_things_1 (by decide) ?_
  refine g_pick (lv' := [(0, .ref (uk_ad G kb)), (1, .int 0)]) [0, 1] rfl ?_
  refine g_iconst (v := 0) dX0_things_2 (by decide) ?_
  refine g_istore_n dX0_things_3 (by decide) ?_
  refine g_pick (lv' := [(0, .ref (uk_ad G kb)), (1, .int 0), (2, .int 0)]) [0, 1, 2] rfl ?_
  have L4_0 : ∀ i3 : Int32, 0 ≤ i3 → i3 ≤ 8 → ∀ (w2 : Int32), uk_G G X mX0_things d (q_X0_things u kb) 4 [(0, .ref (uk_ad G kb)), (1, .int w2), (2, .int i3)] [] u := by
    refine uk_upl 8 ?_
    intro i3 ai3 bi3 ihi3 w2
    refine g_iload_n dX0_things_4 rfl ?_
    refine g_aload_n dX0_things_5 rfl ?_
    refine f_X0_9 rfl (kk_0 hkb) dX0_things_6 ?_
    refine g_topi (fun x4 ex4 => ?_)
    have rx4 : 0 ≤ x4 ∧ x4 ≤ 8 := by rw [ex4]; exact iv_at hu _ _ (kr_0 hkb)
    have s5 : u.1 kb 0 = x4 := ex4.symm
    refine g_icmp_ge (tgt := 27) dX0_things_9 (by decide) (fun c6 => ?_) (fun c6 => ?_)
    · refine g_iload_n dX0_things_27 rfl ?_
      exact g_iret (ty := .int) dX0_things_28 rfl rfl ⟨⟨_, rfl, by first | trivial | lia | grind⟩, rfl⟩
    · refine g_iload_n dX0_things_12 rfl ?_
      refine g_aload_n dX0_things_13 rfl ?_
      refine f_X0_31 rfl (kk_0 hkb) dX0_things_14 ?_
      refine g_iload_n dX0_things_17 rfl ?_
      have v7 : vp_in i3 8 := uk_vin 8 rfl (by first | decide | lia | grind) (by first | decide | lia | grind)
      refine g_iald (kk_6 hkb) (kl_6 hkb) v7 dX0_things_18 ?_
      refine g_topi (fun x8 ex8 => ?_)
      refine g_iadd dX0_things_19 ?_
      refine g_topi (fun x9 ex9 => ?_)
      refine g_istore_n dX0_things_20 (by decide) ?_
      refine g_pick (lv' := [(0, .ref (uk_ad G kb)), (1, .int x9), (2, .int i3)]) [0, 1, 2] rfl ?_
      refine g_iinc (v := i3 + 1) dX0_things_21 rfl rfl (by decide) ?_
      refine g_pick (lv' := [(0, .ref (uk_ad G kb)), (1, .int x9), (2, .int (i3 + 1))]) [0, 1, 2] rfl ?_
      refine g_goto (tgt := 4) dX0_things_24 (by decide) ?_
      refine g_pick (lv' := [(0, .ref (uk_ad G kb)), (1, .int x9), (2, .int (i3 + 1))]) [0, 1, 2] rfl ?_
      exact ihi3 (by first | lia | grind) x9 
  refine g_pick (lv' := [(0, .ref (uk_ad G kb)), (1, .int 0), (2, .int 0)]) [0, 1, 2] rfl ?_
  exact L4_0 0 (by first | decide | lia | grind) (by first | decide | lia | grind) 0 
abbrev q_X0_allFeeds (u : uk_Mem) (kb : Nat) (r : Option Value) (u' : uk_Mem) : Prop := (∃ x : Int32, r = some (.int x) ∧ True) ∧ (u' = u)
abbrev q_X0_gainOf (u : uk_Mem) (kb : Nat) (g : Int32) (r : Option Value) (u' : uk_Mem) : Prop := (∃ x : Int32, r = some (.int x) ∧ True) ∧ (u' = u)
abbrev q_X0_gainBound (u : uk_Mem) (kb : Nat) (r : Option Value) (u' : uk_Mem) : Prop := (∃ x : Int32, r = some (.int x) ∧ True) ∧ (u' = u)
abbrev q_X0_brings (u : uk_Mem) (kb : Nat) (g : Int32) (b : Int32) (r : Option Value) (u' : uk_Mem) : Prop := (∃ x : Int32, r = some (.int x) ∧ (x = 0 ∨ x = 1) ∧ (¬ x = 0 → True) ∧ (x = 0 → True)) ∧ (u' = u)
abbrev q_X0_flipHalf (u : uk_Mem) (kb : Nat) (m : Int32) (r : Option Value) (u' : uk_Mem) : Prop := (r = none) ∧ (iv u' ∧ fr kb (kb + 9) u u')
set_option maxHeartbeats 4000000 in
set_option maxRecDepth 20000 in
theorem c_X0_flipHalf {G : uk_D} (hs : uk_Sep G) {u : uk_Mem} (hu : iv u) {kb : Nat} (hkb : uk_isK kb) (m : Int32) (p0 : 0 ≤ m) (p1 : m ≤ 7) (d : Nat) : uk_Meth G d mX0_flipHalf [.ref (uk_ad G kb), .int m] u (q_X0_flipHalf u kb m) := by
  refine uk_Meth.of hs (by decide) (Nat.le_of_ble_eq_true rfl) (fun X => ?_)
  have f0 : fr kb (kb + 9) u u := fr_rf
  refine g_aload_n dX0_flipHalf_0 rfl ?_
  refine f_X0_15 rfl (kk_0 hkb) dX0_flipHalf_1 ?_
  refine g_iload_n dX0_flipHalf_4 rfl ?_
  have v1 : vp_in m 8 := uk_vin 8 rfl (by first | decide | lia | grind) (by first | decide | lia | grind)
  refine g_iald (kk_1 hkb) (kl_1 hkb) v1 dX0_flipHalf_5 ?_
  refine g_topi (fun x2 ex2 => ?_)
  refine g_iconst (v := 3) dX0_flipHalf_6 (by decide) ?_
  refine g_icmp_ne (tgt := 24) dX0_flipHalf_7 (by decide) (fun c3 => ?_) (fun c3 => ?_)
  · exact g_vret dX0_flipHalf_24 rfl ⟨rfl, hu, f0⟩
  · refine g_aload_n dX0_flipHalf_10 rfl ?_
    refine f_X0_34 rfl (kk_0 hkb) dX0_flipHalf_11 ?_
    refine g_iload_n dX0_flipHalf_14 rfl ?_
    refine g_iconst (v := 1) dX0_flipHalf_15 (by decide) ?_
    refine g_aload_n dX0_flipHalf_16 rfl ?_
    refine f_X0_34 rfl (kk_0 hkb) dX0_flipHalf_17 ?_
    refine g_iload_n dX0_flipHalf_20 rfl ?_
    have v4 : vp_in m 8 := uk_vin 8 rfl (by first | decide | lia | grind) (by first | decide | lia | grind)
    refine g_iald (kk_7 hkb) (kl_7 hkb) v4 dX0_flipHalf_21 ?_
    refine g_topi (fun x5 ex5 => ?_)
    refine g_isub dX0_flipHalf_22 ?_
    refine g_topi (fun x6 ex6 => ?_)
    have v7 : vp_in m 8 := uk_vin 8 rfl (by first | decide | lia | grind) (by first | decide | lia | grind)
    have b8 := uk_cl v7
    refine g_iast (kk_7 hkb) (kl_7 hkb) v7 dX0_flipHalf_23 ?_
    refine g_mem (fun u9 eu9 => ?_)
    have hu9 : iv u9 := by rw [eu9]; exact iv_upF hu (ka_7 hkb _ (by omega))
    have fu9 : fr kb (kb + 9) u u9 := by rw [eu9]; exact fr_up f0 (by omega) (by omega)
    exact g_vret dX0_flipHalf_24 rfl ⟨rfl, hu9, fu9⟩
abbrev q_X0_moveCooked (u : uk_Mem) (kb : Nat) (m : Int32) (t : Int32) (r : Option Value) (u' : uk_Mem) : Prop := (r = none) ∧ (iv u' ∧ fr kb (kb + 9) u u')
set_option maxHeartbeats 4000000 in
set_option maxRecDepth 20000 in
theorem c_X0_moveCooked {G : uk_D} (hs : uk_Sep G) {u : uk_Mem} (hu : iv u) {kb : Nat} (hkb : uk_isK kb) (m : Int32) (t : Int32) (p0 : 0 ≤ m) (p1 : m ≤ 7) (d : Nat) : uk_Meth G d mX0_moveCooked [.ref (uk_ad G kb), .int m, .int t] u (q_X0_moveCooked u kb m t) := by
  refine uk_Meth.of hs (by decide) (Nat.le_of_ble_eq_true rfl) (fun X => ?_)
  have f0 : fr kb (kb + 9) u u := fr_rf
  refine g_aload_n dX0_moveCooked_0 rfl ?_
  refine f_X0_31 rfl (kk_0 hkb) dX0_moveCooked_1 ?_
  refine g_aload_n dX0_moveCooked_4 rfl ?_
  refine f_X0_19 rfl (kk_0 hkb) dX0_moveCooked_5 ?_
  refine g_iload_n dX0_moveCooked_8 rfl ?_
  have v1 : vp_in m 8 := uk_vin 8 rfl (by first | decide | lia | grind) (by first | decide | lia | grind)
  refine g_iald (kk_2 hkb) (kl_2 hkb) v1 dX0_moveCooked_9 ?_
  refine g_topi (fun x2 ex2 => ?_)
  have bx2 := uk_cl v1
  have rx2 : 0 ≤ x2 ∧ x2 ≤ 7 := by rw [ex2]; exact iv_at hu _ _ (ka_2 hkb _ (by omega))
  refine g_dup2 dX0_moveCooked_10 rfl rfl ?_
  have v3 : vp_in x2 8 := uk_vin 8 rfl (by first | decide | lia | grind) (by first | decide | lia | grind)
  refine g_iald (kk_6 hkb) (kl_6 hkb) v3 dX0_moveCooked_11 ?_
  refine g_topi (fun x4 ex4 => ?_)
  refine g_iload_n dX0_moveCooked_12 rfl ?_
  refine g_isub dX0_moveCooked_13 ?_
  refine g_topi (fun x5 ex5 => ?_)
  have v6 : vp_in x2 8 := uk_vin 8 rfl (by first | decide | lia | grind) (by first | decide | lia | grind)
  have b7 := uk_cl v6
  refine g_iast (kk_6 hkb) (kl_6 hkb) v6 dX0_moveCooked_14 ?_
  refine g_mem (fun u8 eu8 => ?_)
  have hu8 : iv u8 := by rw [eu8]; exact iv_upF hu (ka_6 hkb _ (by omega))
  have fu8 : fr kb (kb + 9) u u8 := by rw [eu8]; exact fr_up f0 (by omega) (by omega)
  refine g_aload_n dX0_moveCooked_15 rfl ?_
  refine f_X0_31 rfl (kk_0 hkb) dX0_moveCooked_16 ?_
  refine g_aload_n dX0_moveCooked_19 rfl ?_
  refine f_X0_22 rfl (kk_0 hkb) dX0_moveCooked_20 ?_
  refine g_iload_n dX0_moveCooked_23 rfl ?_
  have v9 : vp_in m 8 := uk_vin 8 rfl (by first | decide | lia | grind) (by first | decide | lia | grind)
  refine g_iald (kk_3 hkb) (kl_3 hkb) v9 dX0_moveCooked_24 ?_
  refine g_topi (fun x10 ex10 => ?_)
  have bx10 := uk_cl v9
  have rx10 : 0 ≤ x10 ∧ x10 ≤ 7 := by rw [ex10]; exact iv_at hu8 _ _ (ka_3 hkb _ (by omega))
  refine g_dup2 dX0_moveCooked_25 rfl rfl ?_
  have v11 : vp_in x10 8 := uk_vin 8 rfl (by first | decide | lia | grind) (by first | decide | lia | grind)
  refine g_iald (kk_6 hkb) (kl_6 hkb) v11 dX0_moveCooked_26 ?_
  refine g_topi (fun x12 ex12 => ?_)
  refine g_iload_n dX0_moveCooked_27 rfl ?_
  refine g_isub dX0_moveCooked_28 ?_
  refine g_topi (fun x13 ex13 => ?_)
  have v14 : vp_in x10 8 := uk_vin 8 rfl (by first | decide | lia | grind) (by first | decide | lia | grind)
  have b15 := uk_cl v14
  refine g_iast (kk_6 hkb) (kl_6 hkb) v14 dX0_moveCooked_29 ?_
  refine g_mem (fun u16 eu16 => ?_)
  have hu16 : iv u16 := by rw [eu16]; exact iv_upF hu8 (ka_6 hkb _ (by omega))
  have fu16 : fr kb (kb + 9) u u16 := by rw [eu16]; exact fr_up fu8 (by omega) (by omega)
  refine g_aload_n dX0_moveCooked_30 rfl ?_
  refine f_X0_31 rfl (kk_0 hkb) dX0_moveCooked_31 ?_
  refine g_iload_n dX0_moveCooked_34 rfl ?_
  refine g_dup2 dX0_moveCooked_35 rfl rfl ?_
  have v17 : vp_in m 8 := uk_vin 8 rfl (by first | decide | lia | grind) (by first | decide | lia | grind)
  refine g_iald (kk_6 hkb) (kl_6 hkb) v17 dX0_moveCooked_36 ?_
  refine g_topi (fun x18 ex18 => ?_)
  refine g_iload_n dX0_moveCooked_37 rfl ?_
  refine g_iadd dX0_moveCooked_38 ?_
  refine g_topi (fun x19 ex19 => ?_)
  have v20 : vp_in m 8 := uk_vin 8 rfl (by first | decide | lia | grind) (by first | decide | lia | grind)
  have b21 := uk_cl v20
  refine g_iast (kk_6 hkb) (kl_6 hkb) v20 dX0_moveCooked_39 ?_
  refine g_mem (fun u22 eu22 => ?_)
  have hu22 : iv u22 := by rw [eu22]; exact iv_upF hu16 (ka_6 hkb _ (by omega))
  have fu22 : fr kb (kb + 9) u u22 := by rw [eu22]; exact fr_up fu16 (by omega) (by omega)
  exact g_vret dX0_moveCooked_40 rfl ⟨rfl, hu22, fu22⟩
abbrev q_X0_moveTurned (u : uk_Mem) (kb : Nat) (m : Int32) (t : Int32) (r : Option Value) (u' : uk_Mem) : Prop := (r = none) ∧ (iv u' ∧ fr kb (kb + 9) u u')
set_option maxHeartbeats 4000000 in
set_option maxRecDepth 20000 in
theorem c_X0_moveTurned {G : uk_D} (hs : uk_Sep G) {u : uk_Mem} (hu : iv u) {kb : Nat} (hkb : uk_isK kb) (m : Int32) (t : Int32) (p0 : 0 ≤ m) (p1 : m ≤ 7) (d : Nat) : uk_Meth G (d + 1) mX0_moveTurned [.ref (uk_ad G kb), .int m, .int t] u (q_X0_moveTurned u kb m t) := by
  refine uk_Meth.of hs (by decide) (Nat.le_of_ble_eq_true rfl) (fun X => ?_)
  have f0 : fr kb (kb + 9) u u := fr_rf
  refine g_aload_n dX0_moveTurned_0 rfl ?_
  refine f_X0_31 rfl (kk_0 hkb) dX0_moveTurned_1 ?_
  refine g_iload_n dX0_moveTurned_4 rfl ?_
  refine g_dup2 dX0_moveTurned_5 rfl rfl ?_
  have v1 : vp_in m 8 := uk_vin 8 rfl (by first | decide | lia | grind) (by first | decide | lia | grind)
  refine g_iald (kk_6 hkb) (kl_6 hkb) v1 dX0_moveTurned_6 ?_
  refine g_topi (fun x2 ex2 => ?_)
  refine g_iload_n dX0_moveTurned_7 rfl ?_
  refine g_isub dX0_moveTurned_8 ?_
  refine g_topi (fun x3 ex3 => ?_)
  have v4 : vp_in m 8 := uk_vin 8 rfl (by first | decide | lia | grind) (by first | decide | lia | grind)
  have b5 := uk_cl v4
  refine g_iast (kk_6 hkb) (kl_6 hkb) v4 dX0_moveTurned_9 ?_
  refine g_mem (fun u6 eu6 => ?_)
  have hu6 : iv u6 := by rw [eu6]; exact iv_upF hu (ka_6 hkb _ (by omega))
  have fu6 : fr kb (kb + 9) u u6 := by rw [eu6]; exact fr_up f0 (by omega) (by omega)
  refine g_aload_n dX0_moveTurned_10 rfl ?_
  refine f_X0_31 rfl (kk_0 hkb) dX0_moveTurned_11 ?_
  refine g_aload_n dX0_moveTurned_14 rfl ?_
  refine f_X0_19 rfl (kk_0 hkb) dX0_moveTurned_15 ?_
  refine g_iload_n dX0_moveTurned_18 rfl ?_
  have v7 : vp_in m 8 := uk_vin 8 rfl (by first | decide | lia | grind) (by first | decide | lia | grind)
  refine g_iald (kk_2 hkb) (kl_2 hkb) v7 dX0_moveTurned_19 ?_
  refine g_topi (fun x8 ex8 => ?_)
  have bx8 := uk_cl v7
  have rx8 : 0 ≤ x8 ∧ x8 ≤ 7 := by rw [ex8]; exact iv_at hu6 _ _ (ka_2 hkb _ (by omega))
  refine g_dup2 dX0_moveTurned_20 rfl rfl ?_
  have v9 : vp_in x8 8 := uk_vin 8 rfl (by first | decide | lia | grind) (by first | decide | lia | grind)
  refine g_iald (kk_6 hkb) (kl_6 hkb) v9 dX0_moveTurned_21 ?_
  refine g_topi (fun x10 ex10 => ?_)
  refine g_iload_n dX0_moveTurned_22 rfl ?_
  refine g_iadd dX0_moveTurned_23 ?_
  refine g_topi (fun x11 ex11 => ?_)
  have v12 : vp_in x8 8 := uk_vin 8 rfl (by first | decide | lia | grind) (by first | decide | lia | grind)
  have b13 := uk_cl v12
  refine g_iast (kk_6 hkb) (kl_6 hkb) v12 dX0_moveTurned_24 ?_
  refine g_mem (fun u14 eu14 => ?_)
  have hu14 : iv u14 := by rw [eu14]; exact iv_upF hu6 (ka_6 hkb _ (by omega))
  have fu14 : fr kb (kb + 9) u u14 := by rw [eu14]; exact fr_up fu6 (by omega) (by omega)
  refine g_aload_n dX0_moveTurned_25 rfl ?_
  refine f_X0_15 rfl (kk_0 hkb) dX0_moveTurned_26 ?_
  refine g_iload_n dX0_moveTurned_29 rfl ?_
  have v15 : vp_in m 8 := uk_vin 8 rfl (by first | decide | lia | grind) (by first | decide | lia | grind)
  refine g_iald (kk_1 hkb) (kl_1 hkb) v15 dX0_moveTurned_30 ?_
  refine g_topi (fun x16 ex16 => ?_)
  refine g_aload_n dX0_moveTurned_31 rfl ?_
  refine f_X0_34 rfl (kk_0 hkb) dX0_moveTurned_32 ?_
  refine g_iload_n dX0_moveTurned_35 rfl ?_
  have v17 : vp_in m 8 := uk_vin 8 rfl (by first | decide | lia | grind) (by first | decide | lia | grind)
  refine g_iald (kk_7 hkb) (kl_7 hkb) v17 dX0_moveTurned_36 ?_
  refine g_topi (fun x18 ex18 => ?_)
  refine cl_X0_70 (As := [.int x16, .int x18]) rfl (c_X0_givesB (G := G) hs hu14  x16 x18  (d)) rfl (by omega) rfl (Nat.le_of_ble_eq_true rfl) dX0_moveTurned_37 (fun r19 u20 q21 => ?_)
  obtain ⟨⟨x22, rfl, tx22, nx22, zx22⟩, mq21⟩ := q21
  rw [mq21]
  refine g_if_eq (tgt := 58) dX0_moveTurned_40 (by decide) (fun c23 => ?_) (fun c23 => ?_)
  · have zc23 := zx22 c23
    exact g_vret dX0_moveTurned_58 rfl ⟨rfl, hu14, fu14⟩
  · have zc23 := nx22 c23
    refine g_aload_n dX0_moveTurned_43 rfl ?_
    refine f_X0_31 rfl (kk_0 hkb) dX0_moveTurned_44 ?_
    refine g_aload_n dX0_moveTurned_47 rfl ?_
    refine f_X0_22 rfl (kk_0 hkb) dX0_moveTurned_48 ?_
    refine g_iload_n dX0_moveTurned_51 rfl ?_
    have v24 : vp_in m 8 := uk_vin 8 rfl (by first | decide | lia | grind) (by first | decide | lia | grind)
    refine g_iald (kk_3 hkb) (kl_3 hkb) v24 dX0_moveTurned_52 ?_
    refine g_topi (fun x25 ex25 => ?_)
    have bx25 := uk_cl v24
    have rx25 : 0 ≤ x25 ∧ x25 ≤ 7 := by rw [ex25]; exact iv_at hu14 _ _ (ka_3 hkb _ (by omega))
    refine g_dup2 dX0_moveTurned_53 rfl rfl ?_
    have v26 : vp_in x25 8 := uk_vin 8 rfl (by first | decide | lia | grind) (by first | decide | lia | grind)
    refine g_iald (kk_6 hkb) (kl_6 hkb) v26 dX0_moveTurned_54 ?_
    refine g_topi (fun x27 ex27 => ?_)
    refine g_iload_n dX0_moveTurned_55 rfl ?_
    refine g_iadd dX0_moveTurned_56 ?_
    refine g_topi (fun x28 ex28 => ?_)
    have v29 : vp_in x25 8 := uk_vin 8 rfl (by first | decide | lia | grind) (by first | decide | lia | grind)
    have b30 := uk_cl v29
    refine g_iast (kk_6 hkb) (kl_6 hkb) v29 dX0_moveTurned_57 ?_
    refine g_mem (fun u31 eu31 => ?_)
    have hu31 : iv u31 := by rw [eu31]; exact iv_upF hu14 (ka_6 hkb _ (by omega))
    have fu31 : fr kb (kb + 9) u u31 := by rw [eu31]; exact fr_up fu14 (by omega) (by omega)
    exact g_vret dX0_moveTurned_58 rfl ⟨rfl, hu31, fu31⟩
