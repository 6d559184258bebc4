abbrev q_X4_isNamed_s (u : uk_Mem) (sj : Nat) (r : Option Value) (u' : uk_Mem) : Prop := (∃ x : Int32, r = some (.int x) ∧ (x = 0 ∨ x = 1) ∧ (¬ x = 0 → (u.1 2 3 = 1 ∧ nmj (u.1 3) (u.1 2 4) (u.1 2 2) sj)) ∧ (x = 0 → ¬ (u.1 2 3 = 1 ∧ nmj (u.1 3) (u.1 2 4) (u.1 2 2) sj))) ∧ (u' = u)
set_option maxHeartbeats 4000000 in
set_option maxRecDepth 20000 in
theorem c_X4_isNamed_s {G : uk_D} (hs : uk_Sep G) {u : uk_Mem} (hu : iv u) {sj : Nat} (hsj : sj < 6) (d : Nat) : uk_Meth G (d + 4) mX4_isNamed [.ref (uk_ad G 2), .ref (uk_ad G (100 + sj))] u (q_X4_isNamed_s u sj) := by
  refine uk_Meth.of hs (by decide) (Nat.le_of_ble_eq_true rfl) (fun X => ?_)
  have sl := (uk_slen hsj).2
  refine g_aload_n dX4_isNamed_0 rfl ?_
  refine f_X4_22 rfl rfl dX4_isNamed_1 ?_
  refine g_topi (fun x1 ex1 => ?_)
  have s2 : u.1 2 3 = x1 := ex1.symm
  refine g_iconst (v := 1) dX4_isNamed_4 (by decide) ?_
  refine g_icmp_ne (tgt := 24) dX4_isNamed_5 (by decide) (fun c3 => ?_) (fun c3 => ?_)
  · refine g_iconst (v := 0) dX4_isNamed_24 (by decide) ?_
    exact g_iret (ty := .boolean) dX4_isNamed_25 rfl rfl ⟨⟨0, rfl, Or.inl rfl, fun q => absurd rfl q, fun _ => (fun z => by have z1 := z.1; have z2 := z.2.1; grind)⟩, rfl⟩
  · refine g_aload_n dX4_isNamed_8 rfl ?_
    refine f_X4_19 rfl rfl dX4_isNamed_9 ?_
    refine g_topi (fun x4 ex4 => ?_)
    have rx4 : 0 ≤ x4 ∧ x4 ≤ 160 := by rw [ex4]; exact iv_at hu _ _ rfl
    have s5 : u.1 2 2 = x4 := ex4.symm
    refine g_aload_n dX4_isNamed_12 rfl ?_
    refine f_X4_25 rfl rfl dX4_isNamed_13 ?_
    refine g_topi (fun x6 ex6 => ?_)
    have rx6 : 0 ≤ x6 ∧ x6 ≤ 160 := by rw [ex6]; exact iv_at hu _ _ rfl
    have s7 : u.1 2 4 = x6 := ex6.symm
    refine g_isub dX4_isNamed_16 ?_
    refine g_topi (fun x8 ex8 => ?_)
    refine g_aload_n dX4_isNamed_17 rfl ?_
    refine g_slen hs hsj rfl (by omega) (Nat.le_of_ble_eq_true rfl) dX4_isNamed_18 ?_
    refine g_topi (fun x9 ex9 => ?_)
    refine g_icmp_eq (tgt := 26) dX4_isNamed_21 (by decide) (fun c10 => ?_) (fun c10 => ?_)
    · refine g_iconst (v := 0) dX4_isNamed_26 (by decide) ?_
      refine g_istore_n dX4_isNamed_27 (by decide) ?_
      refine g_pick (lv' := [(0, .ref (uk_ad G 2)), (1, .ref (uk_ad G (100 + sj))), (2, .int 0)]) [0, 1, 2] rfl ?_
      have L28_10 : ∀ i12 : Int32, 0 ≤ i12 → i12 ≤ 4 → nmp (u.1 3) (u.1 2 4) sj i12 → uk_G G X mX4_isNamed (d + 4) (q_X4_isNamed_s u sj) 28 [(0, .ref (uk_ad G 2)), (1, .ref (uk_ad G (100 + sj))), (2, .int i12)] [] u := by
        refine uk_upl 4 ?_
        intro i12 ai12 bi12 ihi12  ji120
        refine g_iload_n dX4_isNamed_28 rfl ?_
        refine g_aload_n dX4_isNamed_29 rfl ?_
        refine g_slen hs hsj rfl (by omega) (Nat.le_of_ble_eq_true rfl) dX4_isNamed_30 ?_
        refine g_topi (fun x13 ex13 => ?_)
        refine g_icmp_ge (tgt := 63) dX4_isNamed_33 (by decide) (fun c14 => ?_) (fun c14 => ?_)
        · refine g_iconst (v := 1) dX4_isNamed_63 (by decide) ?_
          exact g_iret (ty := .boolean) dX4_isNamed_64 rfl rfl ⟨⟨1, rfl, Or.inr rfl, fun _ => ⟨by grind, by grind, nmp_le ji120 (by grind)⟩, fun q => absurd q (by decide)⟩, rfl⟩
        · refine g_aload_n dX4_isNamed_36 rfl ?_
          refine f_X4_9 rfl rfl dX4_isNamed_37 ?_
          refine g_aload_n dX4_isNamed_40 rfl ?_
          refine f_X4_25 rfl rfl dX4_isNamed_41 ?_
          refine g_topi (fun x15 ex15 => ?_)
          have rx15 : 0 ≤ x15 ∧ x15 ≤ 160 := by rw [ex15]; exact iv_at hu _ _ rfl
          have qx15 : x15 = x6 := by rw [ex15]; exact s7
          refine g_iload_n dX4_isNamed_44 rfl ?_
          refine g_iadd dX4_isNamed_45 ?_
          refine g_topi (fun x16 ex16 => ?_)
          have v17 : vp_in x16 160 := uk_vin 160 rfl (by first | decide | lia | grind) (by first | decide | lia | grind)
          refine g_bald rfl rfl v17 dX4_isNamed_46 ?_
          refine g_topi (fun x18 ex18 => ?_)
          have lx18 : x18 = u.1 3 (u.1 2 4 + i12).toNatClampNeg := by rw [ex18, show (x16 : Int32) = u.1 2 4 + i12 by grind]
          refine g_aload_n dX4_isNamed_47 rfl ?_
          refine g_iload_n dX4_isNamed_48 rfl ?_
          refine g_schar hs hsj (by first | lia | grind) (by first | lia | grind) rfl (by omega) (Nat.le_of_ble_eq_true rfl) dX4_isNamed_49 ?_
          refine g_topi (fun x19 ex19 => ?_)
          have yx19 : x19 = chj sj i12 := ex19
          refine g_icmp_eq (tgt := 57) dX4_isNamed_52 (by decide) (fun c20 => ?_) (fun c20 => ?_)
          · refine g_iinc (v := i12 + 1) dX4_isNamed_57 rfl rfl (by decide) ?_
            refine g_pick (lv' := [(0, .ref (uk_ad G 2)), (1, .ref (uk_ad G (100 + sj))), (2, .int (i12 + 1))]) [0, 1, 2] rfl ?_
            refine g_goto (tgt := 28) dX4_isNamed_60 (by decide) ?_
            refine g_pick (lv' := [(0, .ref (uk_ad G 2)), (1, .ref (uk_ad G (100 + sj))), (2, .int (i12 + 1))]) [0, 1, 2] rfl ?_
            exact ihi12 (by first | lia | grind)  (nmp_up ji120 (by grind) (by grind) (by rw [← lx18, ← yx19]; grind))
          · refine g_iconst (v := 0) dX4_isNamed_55 (by decide) ?_
            exact g_iret (ty := .boolean) dX4_isNamed_56 rfl rfl ⟨⟨0, rfl, Or.inl rfl, fun q => absurd rfl q, fun _ => (fun z => by have z3 := z.2.2 i12 (by grind) (by grind); grind)⟩, rfl⟩
      refine g_pick (lv' := [(0, .ref (uk_ad G 2)), (1, .ref (uk_ad G (100 + sj))), (2, .int 0)]) [0, 1, 2] rfl ?_
      exact L28_10 0 (by first | decide | lia | grind) (by first | decide | lia | grind)  nmp_0
    · refine g_iconst (v := 0) dX4_isNamed_24 (by decide) ?_
      exact g_iret (ty := .boolean) dX4_isNamed_25 rfl rfl ⟨⟨0, rfl, Or.inl rfl, fun q => absurd rfl q, fun _ => (fun z => by have z1 := z.1; have z2 := z.2.1; grind)⟩, rfl⟩
