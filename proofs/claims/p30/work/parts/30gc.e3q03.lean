def e_X7_givesSecond (u : uk_Mem) (m : Int32) : Int32 := let x1 : Int32 := (32 : Int32) + m; let x3 : Int32 := u.1 62 x1.toNatClampNeg; if x3 = 0 then ((1 : Int32)) else (let x5 : Int32 := (32 : Int32) + m; let x7 : Int32 := u.1 62 x5.toNatClampNeg; if x7 = (3 : Int32) then (let x9 : Int32 := (8 : Int32) + m; let x11 : Int32 := u.1 62 x9.toNatClampNeg; if x11 = (1 : Int32) then ((1 : Int32)) else ((0 : Int32))) else ((0 : Int32)))
abbrev qe_X7_givesSecond (u : uk_Mem) (m : Int32) (r : Option Value) (u' : uk_Mem) : Prop := (q_X7_givesSecond u m r u') ∧ (r = some (.int (e_X7_givesSecond u m)))
set_option maxHeartbeats 4000000 in
set_option maxRecDepth 20000 in
theorem x_X7_givesSecond {G : uk_D} (hs : uk_Sep G) {u : uk_Mem} (hu : iv u) (m : Int32) (p0 : 0 ≤ m) (p1 : m ≤ 7) (d : Nat) : uk_Meth G d mX7_givesSecond [.ref (uk_ad G 60), .int m] u (qe_X7_givesSecond u m) := by
  refine uk_Meth.of hs (by decide) (Nat.le_of_ble_eq_true rfl) (fun X => ?_)
  refine g_aload_n dX7_givesSecond_0 rfl ?_
  refine f_X7_13 rfl rfl dX7_givesSecond_1 ?_
  refine g_bipush (v := 32) dX7_givesSecond_4 (by decide) ?_
  refine g_iload_n dX7_givesSecond_6 rfl ?_
  refine g_iadd dX7_givesSecond_7 ?_
  refine g_topi (fun x1 ex1 => ?_)
  have v2 : vp_in x1 51 := uk_vin 51 rfl (by first | decide | lia | grind) (by first | decide | lia | grind)
  refine g_iald rfl rfl v2 dX7_givesSecond_8 ?_
  refine g_topi (fun x3 ex3 => ?_)
  have bx3 := uk_cl v2
  refine g_if_eq (tgt := 38) dX7_givesSecond_9 (by decide) (fun c4 => ?_) (fun c4 => ?_)
  · refine g_iconst (v := 1) dX7_givesSecond_38 (by decide) ?_
    refine g_goto (tgt := 43) dX7_givesSecond_39 (by decide) ?_
    exact g_iret (ty := .boolean) dX7_givesSecond_43 rfl rfl ⟨⟨⟨1, rfl, Or.inr rfl, fun _ => by first | trivial | lia | grind, fun q => absurd q (by decide)⟩, rfl⟩, ee_p (by subst ex3; subst ex1; exact (if_pos c4).trans (rfl))⟩
  · refine g_aload_n dX7_givesSecond_12 rfl ?_
    refine f_X7_13 rfl rfl dX7_givesSecond_13 ?_
    refine g_bipush (v := 32) dX7_givesSecond_16 (by decide) ?_
    refine g_iload_n dX7_givesSecond_18 rfl ?_
    refine g_iadd dX7_givesSecond_19 ?_
    refine g_topi (fun x5 ex5 => ?_)
    have v6 : vp_in x5 51 := uk_vin 51 rfl (by first | decide | lia | grind) (by first | decide | lia | grind)
    refine g_iald rfl rfl v6 dX7_givesSecond_20 ?_
    refine g_topi (fun x7 ex7 => ?_)
    have bx7 := uk_cl v6
    refine g_iconst (v := 3) dX7_givesSecond_21 (by decide) ?_
    refine g_icmp_ne (tgt := 42) dX7_givesSecond_22 (by decide) (fun c8 => ?_) (fun c8 => ?_)
    · refine g_iconst (v := 0) dX7_givesSecond_42 (by decide) ?_
      exact g_iret (ty := .boolean) dX7_givesSecond_43 rfl rfl ⟨⟨⟨0, rfl, Or.inl rfl, fun q => absurd rfl q, fun _ => by first | trivial | lia | grind⟩, rfl⟩, ee_p (by subst ex7; subst ex5; subst ex3; subst ex1; exact (if_neg c4).trans ((if_neg c8).trans (rfl)))⟩
    · refine g_aload_n dX7_givesSecond_25 rfl ?_
      refine f_X7_13 rfl rfl dX7_givesSecond_26 ?_
      refine g_bipush (v := 8) dX7_givesSecond_29 (by decide) ?_
      refine g_iload_n dX7_givesSecond_31 rfl ?_
      refine g_iadd dX7_givesSecond_32 ?_
      refine g_topi (fun x9 ex9 => ?_)
      have v10 : vp_in x9 51 := uk_vin 51 rfl (by first | decide | lia | grind) (by first | decide | lia | grind)
      refine g_iald rfl rfl v10 dX7_givesSecond_33 ?_
      refine g_topi (fun x11 ex11 => ?_)
      have bx11 := uk_cl v10
      refine g_iconst (v := 1) dX7_givesSecond_34 (by decide) ?_
      refine g_icmp_ne (tgt := 42) dX7_givesSecond_35 (by decide) (fun c12 => ?_) (fun c12 => ?_)
      · refine g_iconst (v := 0) dX7_givesSecond_42 (by decide) ?_
        exact g_iret (ty := .boolean) dX7_givesSecond_43 rfl rfl ⟨⟨⟨0, rfl, Or.inl rfl, fun q => absurd rfl q, fun _ => by first | trivial | lia | grind⟩, rfl⟩, ee_p (by subst ex11; subst ex9; subst ex7; subst ex5; subst ex3; subst ex1; exact (if_neg c4).trans ((if_pos c8).trans ((if_neg c12).trans (rfl))))⟩
      · refine g_iconst (v := 1) dX7_givesSecond_38 (by decide) ?_
        refine g_goto (tgt := 43) dX7_givesSecond_39 (by decide) ?_
        exact g_iret (ty := .boolean) dX7_givesSecond_43 rfl rfl ⟨⟨⟨1, rfl, Or.inr rfl, fun _ => by first | trivial | lia | grind, fun q => absurd q (by decide)⟩, rfl⟩, ee_p (by subst ex11; subst ex9; subst ex7; subst ex5; subst ex3; subst ex1; exact (if_neg c4).trans ((if_pos c8).trans ((if_pos c12).trans (rfl))))⟩
