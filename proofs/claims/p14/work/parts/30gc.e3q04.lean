def e_X7_canCook (u : uk_Mem) (m : Int32) : Int32 := let x1 : Int32 := (32 : Int32) + m; let x3 : Int32 := u.1 62 x1.toNatClampNeg; if x3 = (4 : Int32) then ((0 : Int32)) else (let x5 : Int32 := (0 : Int32) + m; let x7 : Int32 := u.1 62 x5.toNatClampNeg; if x7 = (40 : Int32) then ((0 : Int32)) else (let x10 : Int32 := u.1 64 m.toNatClampNeg; let x12 : Int32 := u.1 65 m.toNatClampNeg; if x10 = x12 then (let x22 : Int32 := (0 : Int32) + x10; let x24 : Int32 := u.1 62 x22.toNatClampNeg; if x24 ≤ (1 : Int32) then ((0 : Int32)) else ((1 : Int32))) else (let x14 : Int32 := (0 : Int32) + x10; let x16 : Int32 := u.1 62 x14.toNatClampNeg; if x16 ≤ 0 then ((0 : Int32)) else (let x18 : Int32 := (0 : Int32) + x12; let x20 : Int32 := u.1 62 x18.toNatClampNeg; if x20 ≤ 0 then ((0 : Int32)) else ((1 : Int32))))))
abbrev qe_X7_canCook (u : uk_Mem) (m : Int32) (r : Option Value) (u' : uk_Mem) : Prop := (q_X7_canCook u m r u') ∧ (r = some (.int (e_X7_canCook u m)))
set_option maxHeartbeats 4000000 in
set_option maxRecDepth 20000 in
theorem x_X7_canCook {G : uk_D} (hs : uk_Sep G) {u : uk_Mem} (hu : iv u) (hra : ra u) (m : Int32) (p0 : 0 ≤ m) (p1 : m < u.1 60 3) (p2 : m ≤ 7) (d : Nat) : uk_Meth G d mX7_canCook [.ref (uk_ad G 60), .int m] u (qe_X7_canCook u m) := by
  refine uk_Meth.of hs (by decide) (Nat.le_of_ble_eq_true rfl) (fun X => ?_)
  have hk : u.1 62 (32 + m).toNatClampNeg = 4 ∨ (0 ≤ u.1 64 m.toNatClampNeg ∧ u.1 64 m.toNatClampNeg < m ∧ 0 ≤ u.1 65 m.toNatClampNeg ∧ u.1 65 m.toNatClampNeg < m) := hra m p0 p1 p2
  refine g_aload_n dX7_canCook_0 rfl ?_
  refine f_X7_13 rfl rfl dX7_canCook_1 ?_
  refine g_bipush (v := 32) dX7_canCook_4 (by decide) ?_
  refine g_iload_n dX7_canCook_6 rfl ?_
  refine g_iadd dX7_canCook_7 ?_
  refine g_topi (fun x1 ex1 => ?_)
  have v2 : vp_in x1 51 := uk_vin 51 rfl (by first | decide | lia | grind) (by first | decide | lia | grind)
  refine g_iald rfl rfl v2 dX7_canCook_8 ?_
  refine g_topi (fun x3 ex3 => ?_)
  have bx3 := uk_cl v2
  refine g_iconst (v := 4) dX7_canCook_9 (by decide) ?_
  refine g_icmp_eq (tgt := 26) dX7_canCook_10 (by decide) (fun c4 => ?_) (fun c4 => ?_)
  · refine g_iconst (v := 0) dX7_canCook_26 (by decide) ?_
    exact g_iret (ty := .boolean) dX7_canCook_27 rfl rfl ⟨⟨⟨0, rfl, Or.inl rfl, fun q => absurd rfl q, fun _ => by first | trivial | lia | grind⟩, rfl⟩, ee_p (by subst ex3; subst ex1; exact (if_pos c4).trans (rfl))⟩
  · refine g_aload_n dX7_canCook_13 rfl ?_
    refine f_X7_13 rfl rfl dX7_canCook_14 ?_
    refine g_iconst (v := 0) dX7_canCook_17 (by decide) ?_
    refine g_iload_n dX7_canCook_18 rfl ?_
    refine g_iadd dX7_canCook_19 ?_
    refine g_topi (fun x5 ex5 => ?_)
    have ox5 : x5 = m := by rw [ex5, Int32.zero_add]
    have v6 : vp_in x5 51 := uk_vin 51 rfl (by first | decide | lia | grind) (by first | decide | lia | grind)
    refine g_iald rfl rfl v6 dX7_canCook_20 ?_
    refine g_topi (fun x7 ex7 => ?_)
    have bx7 := uk_cl v6
    have rx7 : 0 ≤ x7 ∧ x7 ≤ 40 := by rw [ex7]; exact sg_0 hu (by unfold uk_is51; decide) (by first | lia | grind) (by first | lia | grind)
    refine g_bipush (v := 40) dX7_canCook_21 (by decide) ?_
    refine g_icmp_ne (tgt := 28) dX7_canCook_23 (by decide) (fun c8 => ?_) (fun c8 => ?_)
    · refine g_aload_n dX7_canCook_28 rfl ?_
      refine f_X7_20 rfl rfl dX7_canCook_29 ?_
      refine g_iload_n dX7_canCook_32 rfl ?_
      have v9 : vp_in m 8 := uk_vin 8 rfl (by first | decide | lia | grind) (by first | decide | lia | grind)
      refine g_iald rfl rfl v9 dX7_canCook_33 ?_
      refine g_topi (fun x10 ex10 => ?_)
      have bx10 := uk_cl v9
      have rx10 : (-4) ≤ x10 ∧ x10 ≤ 7 := by rw [ex10]; exact iv_at hu _ _ (uk_pick1 _ (by omega))
      have hp := hk.resolve_left (by grind)
      refine g_istore_n dX7_canCook_34 (by decide) ?_
      refine g_pick (lv' := [(0, .ref (uk_ad G 60)), (1, .int m), (2, .int x10)]) [0, 1, 2] rfl ?_
      refine g_aload_n dX7_canCook_35 rfl ?_
      refine f_X7_23 rfl rfl dX7_canCook_36 ?_
      refine g_iload_n dX7_canCook_39 rfl ?_
      have v11 : vp_in m 8 := uk_vin 8 rfl (by first | decide | lia | grind) (by first | decide | lia | grind)
      refine g_iald rfl rfl v11 dX7_canCook_40 ?_
      refine g_topi (fun x12 ex12 => ?_)
      have bx12 := uk_cl v11
      have rx12 : (-4) ≤ x12 ∧ x12 ≤ 7 := by rw [ex12]; exact iv_at hu _ _ (uk_pick1 _ (by omega))
      refine g_istore_n dX7_canCook_41 (by decide) ?_
      refine g_pick (lv' := [(0, .ref (uk_ad G 60)), (1, .int m), (2, .int x10), (3, .int x12)]) [0, 1, 2, 3] rfl ?_
      refine g_iload_n dX7_canCook_42 rfl ?_
      refine g_iload_n dX7_canCook_43 rfl ?_
      refine g_icmp_ne (tgt := 67) dX7_canCook_44 (by decide) (fun c13 => ?_) (fun c13 => ?_)
      · refine g_aload_n dX7_canCook_67 rfl ?_
        refine f_X7_13 rfl rfl dX7_canCook_68 ?_
        refine g_iconst (v := 0) dX7_canCook_71 (by decide) ?_
        refine g_iload_n dX7_canCook_72 rfl ?_
        refine g_iadd dX7_canCook_73 ?_
        refine g_topi (fun x14 ex14 => ?_)
        have ox14 : x14 = x10 := by rw [ex14, Int32.zero_add]
        have v15 : vp_in x14 51 := uk_vin 51 rfl (by first | decide | lia | grind) (by first | decide | lia | grind)
        refine g_iald rfl rfl v15 dX7_canCook_74 ?_
        refine g_topi (fun x16 ex16 => ?_)
        have bx16 := uk_cl v15
        have rx16 : 0 ≤ x16 ∧ x16 ≤ 40 := by rw [ex16]; exact sg_0 hu (by unfold uk_is51; decide) (by first | lia | grind) (by first | lia | grind)
        refine g_if_le (tgt := 93) dX7_canCook_75 (by decide) (fun c17 => ?_) (fun c17 => ?_)
        · refine g_iconst (v := 0) dX7_canCook_93 (by decide) ?_
          exact g_iret (ty := .boolean) dX7_canCook_94 rfl rfl ⟨⟨⟨0, rfl, Or.inl rfl, fun q => absurd rfl q, fun _ => by first | trivial | lia | grind⟩, rfl⟩, ee_p (by subst ex16; subst ex14; subst ex12; subst ex10; subst ex7; subst ex5; subst ex3; subst ex1; exact (if_neg c4).trans ((if_neg c8).trans ((if_neg c13).trans ((if_pos c17).trans (rfl)))))⟩
        · refine g_aload_n dX7_canCook_78 rfl ?_
          refine f_X7_13 rfl rfl dX7_canCook_79 ?_
          refine g_iconst (v := 0) dX7_canCook_82 (by decide) ?_
          refine g_iload_n dX7_canCook_83 rfl ?_
          refine g_iadd dX7_canCook_84 ?_
          refine g_topi (fun x18 ex18 => ?_)
          have ox18 : x18 = x12 := by rw [ex18, Int32.zero_add]
          have v19 : vp_in x18 51 := uk_vin 51 rfl (by first | decide | lia | grind) (by first | decide | lia | grind)
          refine g_iald rfl rfl v19 dX7_canCook_85 ?_
          refine g_topi (fun x20 ex20 => ?_)
          have bx20 := uk_cl v19
          have rx20 : 0 ≤ x20 ∧ x20 ≤ 40 := by rw [ex20]; exact sg_0 hu (by unfold uk_is51; decide) (by first | lia | grind) (by first | lia | grind)
          refine g_if_le (tgt := 93) dX7_canCook_86 (by decide) (fun c21 => ?_) (fun c21 => ?_)
          · refine g_iconst (v := 0) dX7_canCook_93 (by decide) ?_
            exact g_iret (ty := .boolean) dX7_canCook_94 rfl rfl ⟨⟨⟨0, rfl, Or.inl rfl, fun q => absurd rfl q, fun _ => by first | trivial | lia | grind⟩, rfl⟩, ee_p (by subst ex20; subst ex18; subst ex16; subst ex14; subst ex12; subst ex10; subst ex7; subst ex5; subst ex3; subst ex1; exact (if_neg c4).trans ((if_neg c8).trans ((if_neg c13).trans ((if_neg c17).trans ((if_pos c21).trans (rfl))))))⟩
          · refine g_iconst (v := 1) dX7_canCook_89 (by decide) ?_
            refine g_goto (tgt := 94) dX7_canCook_90 (by decide) ?_
            exact g_iret (ty := .boolean) dX7_canCook_94 rfl rfl ⟨⟨⟨1, rfl, Or.inr rfl, fun _ => ⟨hp.1, hp.2.1, hp.2.2.1, hp.2.2.2, by grind, fun q => by grind, fun q => by grind⟩, fun q => absurd q (by decide)⟩, rfl⟩, ee_p (by subst ex20; subst ex18; subst ex16; subst ex14; subst ex12; subst ex10; subst ex7; subst ex5; subst ex3; subst ex1; exact (if_neg c4).trans ((if_neg c8).trans ((if_neg c13).trans ((if_neg c17).trans ((if_neg c21).trans (rfl))))))⟩
      · refine g_aload_n dX7_canCook_47 rfl ?_
        refine f_X7_13 rfl rfl dX7_canCook_48 ?_
        refine g_iconst (v := 0) dX7_canCook_51 (by decide) ?_
        refine g_iload_n dX7_canCook_52 rfl ?_
        refine g_iadd dX7_canCook_53 ?_
        refine g_topi (fun x22 ex22 => ?_)
        have ox22 : x22 = x10 := by rw [ex22, Int32.zero_add]
        have v23 : vp_in x22 51 := uk_vin 51 rfl (by first | decide | lia | grind) (by first | decide | lia | grind)
        refine g_iald rfl rfl v23 dX7_canCook_54 ?_
        refine g_topi (fun x24 ex24 => ?_)
        have bx24 := uk_cl v23
        have rx24 : 0 ≤ x24 ∧ x24 ≤ 40 := by rw [ex24]; exact sg_0 hu (by unfold uk_is51; decide) (by first | lia | grind) (by first | lia | grind)
        refine g_iconst (v := 1) dX7_canCook_55 (by decide) ?_
        refine g_icmp_le (tgt := 63) dX7_canCook_56 (by decide) (fun c25 => ?_) (fun c25 => ?_)
        · refine g_iconst (v := 0) dX7_canCook_63 (by decide) ?_
          refine g_goto (tgt := 94) dX7_canCook_64 (by decide) ?_
          exact g_iret (ty := .boolean) dX7_canCook_94 rfl rfl ⟨⟨⟨0, rfl, Or.inl rfl, fun q => absurd rfl q, fun _ => by first | trivial | lia | grind⟩, rfl⟩, ee_p (by subst ex24; subst ex22; subst ex12; subst ex10; subst ex7; subst ex5; subst ex3; subst ex1; exact (if_neg c4).trans ((if_neg c8).trans ((if_pos c13).trans ((if_pos c25).trans (rfl)))))⟩
        · refine g_iconst (v := 1) dX7_canCook_59 (by decide) ?_
          refine g_goto (tgt := 94) dX7_canCook_60 (by decide) ?_
          exact g_iret (ty := .boolean) dX7_canCook_94 rfl rfl ⟨⟨⟨1, rfl, Or.inr rfl, fun _ => ⟨hp.1, hp.2.1, hp.2.2.1, hp.2.2.2, by grind, fun q => by grind, fun q => by grind⟩, fun q => absurd q (by decide)⟩, rfl⟩, ee_p (by subst ex24; subst ex22; subst ex12; subst ex10; subst ex7; subst ex5; subst ex3; subst ex1; exact (if_neg c4).trans ((if_neg c8).trans ((if_pos c13).trans ((if_neg c25).trans (rfl)))))⟩
    · refine g_iconst (v := 0) dX7_canCook_26 (by decide) ?_
      exact g_iret (ty := .boolean) dX7_canCook_27 rfl rfl ⟨⟨⟨0, rfl, Or.inl rfl, fun q => absurd rfl q, fun _ => by first | trivial | lia | grind⟩, rfl⟩, ee_p (by subst ex7; subst ex5; subst ex3; subst ex1; exact (if_neg c4).trans ((if_pos c8).trans (rfl)))⟩
