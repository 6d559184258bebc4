def e_X7_becomes (u : uk_Mem) (k : Int32) (v : Int32) : Int32 × uk_Mem := let x2 : Int32 := u.1 61 k.toNatClampNeg; let u5 : uk_Mem := uk_up u 61 k.toNatClampNeg v; (x2, u5)
abbrev qe_X7_becomes (u : uk_Mem) (k : Int32) (v : Int32) (r : Option Value) (u' : uk_Mem) : Prop := (q_X7_becomes u k v r u') ∧ (r = some (.int (e_X7_becomes u k v).1) ∧ u' = (e_X7_becomes u k v).2)
set_option maxHeartbeats 4000000 in
set_option maxRecDepth 20000 in
theorem x_X7_becomes {G : uk_D} (hs : uk_Sep G) {u : uk_Mem} (hu : iv u) (k : Int32) (v : Int32) (p0 : 0 ≤ k) (p1 : k ≤ 42) (p2 : (k ≤ 7 → 0 ≤ v ∧ v ≤ 40)) (p3 : (k = 42 → 0 ≤ v ∧ v ≤ 8)) (d : Nat) : uk_Meth G d mX7_becomes [.ref (uk_ad G 60), .int k, .int v] u (qe_X7_becomes u k v) := by
  refine uk_Meth.of hs (by decide) (Nat.le_of_ble_eq_true rfl) (fun X => ?_)
  have f0 : fk [61] [] u u := fk_rf
  refine g_aload_n dX7_becomes_0 rfl ?_
  refine f_X7_7 rfl rfl dX7_becomes_1 ?_
  refine g_iload_n dX7_becomes_4 rfl ?_
  have v1 : vp_in k 153 := uk_vin 153 rfl (by first | decide | lia | grind) (by first | decide | lia | grind)
  refine g_iald rfl rfl v1 dX7_becomes_5 ?_
  refine g_topi (fun x2 ex2 => ?_)
  have bx2 := uk_cl v1
  refine g_istore_n dX7_becomes_6 (by decide) ?_
  refine g_pick (lv' := [(0, .ref (uk_ad G 60)), (1, .int k), (2, .int v), (3, .int x2)]) [0, 1, 2, 3] rfl ?_
  refine g_aload_n dX7_becomes_7 rfl ?_
  refine f_X7_7 rfl rfl dX7_becomes_8 ?_
  refine g_iload_n dX7_becomes_11 rfl ?_
  refine g_iload_n dX7_becomes_12 rfl ?_
  have v3 : vp_in k 153 := uk_vin 153 rfl (by first | decide | lia | grind) (by first | decide | lia | grind)
  have b4 := uk_cl v3
  refine g_iast rfl rfl v3 dX7_becomes_13 ?_
  refine g_mem (fun u5 eu5 => ?_)
  have hu5 : iv u5 := by rw [eu5]; exact iv_st hu (by unfold uk_is51; decide) (by first | decide | lia | grind) (by first | decide | lia | grind) (fun q => by first | decide | lia | grind) (fun q => by first | decide | lia | grind) (fun q => by first | decide | lia | grind)
  have fu5 : fk [61] [] u u5 := by rw [eu5]; exact fk_up f0 (by decide) (fun q => absurd q (by decide))
  refine g_iload_n dX7_becomes_14 rfl ?_
  exact g_iret (ty := .int) dX7_becomes_15 rfl rfl ⟨⟨⟨_, rfl, by first | trivial | lia | grind⟩, hu5, fu5, (by first | assumption | grind)⟩, ee_i (by subst eu5; subst ex2; exact rfl)⟩
def e_X7_does (u : uk_Mem) (g : Int32) : Int32 × uk_Mem := let x4 : Int32 := (e_X7_isDoing u g); if x4 = 0 then (((-1 : Int32), u)) else (let u7 : uk_Mem := e_X7_starts u; let x12 : Int32 := (e_X7_canDo u7 g); if x12 = 0 then (((-2 : Int32), u7)) else (let u15 : uk_Mem := e_X7_doIt u7 g; let u18 : uk_Mem := e_X7_ends u15; let x20 : Int32 := g - g / (10 : Int32) * (10 : Int32); let x21 : Int32 := (0 : Int32) + x20; let x23 : Int32 := u18.1 61 x21.toNatClampNeg; (x23, u18)))
abbrev qe_X7_does (u : uk_Mem) (g : Int32) (r : Option Value) (u' : uk_Mem) : Prop := (q_X7_does u g r u') ∧ (r = some (.int (e_X7_does u g).1) ∧ u' = (e_X7_does u g).2)
set_option maxHeartbeats 4000000 in
set_option maxRecDepth 20000 in
theorem x_X7_does {G : uk_D} (hs : uk_Sep G) {u : uk_Mem} (hu : iv u) (hri : ri u) (g : Int32) (d : Nat) : uk_Meth G (d + 3) mX7_does [.ref (uk_ad G 60), .int g] u (qe_X7_does u g) := by
  refine uk_Meth.of hs (by decide) (Nat.le_of_ble_eq_true rfl) (fun X => ?_)
  have f0 : fk [61, 62] [] u u := fk_rf
  refine g_aload_n dX7_does_0 rfl ?_
  refine g_iload_n dX7_does_1 rfl ?_
  refine cl_X7_182 (c := 60) (As := [.int g]) rfl (x_X7_isDoing (G := G) hs hu  g  (d)) rfl (by omega) rfl rfl (Nat.le_of_ble_eq_true rfl) dX7_does_2 (fun r1 u2 q3 => ?_)
  obtain ⟨q3, Eq3⟩ := q3
  obtain ⟨⟨x4, rfl, tx4, nx4, zx4⟩, mq3⟩ := q3
  rw [mq3]
  have ex4 : x4 = (e_X7_isDoing u g) := ee_v Eq3
  refine g_if_ne (tgt := 10) dX7_does_5 (by decide) (fun c5 => ?_) (fun c5 => ?_)
  · have zc5 := nx4 c5
    refine g_aload_n dX7_does_10 rfl ?_
    refine cl_X7_185 (c := 60) (As := []) rfl (x_X7_starts (G := G) hs hu hri    (d + 2)) rfl (by omega) rfl rfl (Nat.le_of_ble_eq_true rfl) dX7_does_11 (fun r6 u7 q8 => ?_)
    obtain ⟨q8, Eq8⟩ := q8
    obtain ⟨rfl, mq8⟩ := q8
    obtain ⟨hu7, gu7, rau7, ku70⟩ := mq8
    have fu7 : fk [61, 62] [] u u7 := fk_tr f0 gu7 (by decide) (by decide)
    have riu7 : ri u7 := ri_fk hri gu7 (by decide) (by decide) (by decide) (by decide) (by decide)
    have wu7_60_3 : u7.1 60 3 = u.1 60 3 := fk_at gu7 (by decide)
    have eu7 : u7 = e_X7_starts u := Eq8
    refine g_aload_n dX7_does_14 rfl ?_
    refine g_iload_n dX7_does_15 rfl ?_
    refine cl_X7_188 (c := 60) (As := [.int g]) rfl (x_X7_canDo (G := G) hs hu7 rau7  g (by first | trivial | decide | lia | grind) (d)) rfl (by omega) rfl rfl (Nat.le_of_ble_eq_true rfl) dX7_does_16 (fun r9 u10 q11 => ?_)
    obtain ⟨q11, Eq11⟩ := q11
    obtain ⟨⟨x12, rfl, tx12, nx12, zx12⟩, mq11⟩ := q11
    rw [mq11]
    have ex12 : x12 = (e_X7_canDo u7 g) := ee_v Eq11
    refine g_if_ne (tgt := 25) dX7_does_19 (by decide) (fun c13 => ?_) (fun c13 => ?_)
    · have zc13 := nx12 c13
      refine g_aload_n dX7_does_25 rfl ?_
      refine g_iload_n dX7_does_26 rfl ?_
      refine cl_X7_191 (c := 60) (As := [.int g]) rfl (x_X7_doIt (G := G) hs hu7 rau7  g (by first | trivial | decide | lia | grind) (by first | trivial | decide | lia | grind) (by first | trivial | decide | lia | grind) (d + 1)) rfl (by omega) rfl rfl (Nat.le_of_ble_eq_true rfl) dX7_does_27 (fun r14 u15 q16 => ?_)
      obtain ⟨q16, Eq16⟩ := q16
      obtain ⟨rfl, mq16⟩ := q16
      obtain ⟨hu15, gu15, rau15⟩ := mq16
      have fu15 : fk [61, 62] [] u u15 := fk_tr fu7 gu15 (by decide) (by decide)
      have riu15 : ri u15 := ri_fk riu7 gu15 (by decide) (by decide) (by decide) (by decide) (by decide)
      have wu15_60_3 : u15.1 60 3 = u7.1 60 3 := fk_at gu15 (by decide)
      have eu15 : u15 = e_X7_doIt u7 g := Eq16
      refine g_aload_n dX7_does_30 rfl ?_
      refine cl_X7_194 (c := 60) (As := []) rfl (x_X7_ends (G := G) hs hu15 riu15 rau15    (d + 2)) rfl (by omega) rfl rfl (Nat.le_of_ble_eq_true rfl) dX7_does_31 (fun r17 u18 q19 => ?_)
      obtain ⟨q19, Eq19⟩ := q19
      obtain ⟨rfl, mq19⟩ := q19
      obtain ⟨hu18, gu18, riu18⟩ := mq19
      have fu18 : fk [61, 62] [] u u18 := fk_tr fu15 gu18 (by decide) (by decide)
      have rau18 : ra u18 := ra_fk rau15 gu18 (by decide) (by decide) (by decide) (by decide)
      have wu18_60_3 : u18.1 60 3 = u15.1 60 3 := fk_at gu18 (by decide)
      have eu18 : u18 = e_X7_ends u15 := Eq19
      refine g_aload_n dX7_does_34 rfl ?_
      refine f_X7_7 rfl rfl dX7_does_35 ?_
      refine g_iconst (v := 0) dX7_does_38 (by decide) ?_
      refine g_iload_n dX7_does_39 rfl ?_
      refine g_bipush (v := 10) dX7_does_40 (by decide) ?_
      refine g_irem dX7_does_42 (by first | decide | lia | grind) ?_
      refine g_topi (fun x20 ex20 => ?_)
      have nx20 := uk_r10 ex20
      refine g_iadd dX7_does_43 ?_
      refine g_topi (fun x21 ex21 => ?_)
      have ox21 : x21 = x20 := by rw [ex21, Int32.zero_add]
      have v22 : vp_in x21 153 := uk_vin 153 rfl (by first | decide | lia | grind) (by first | decide | lia | grind)
      refine g_iald rfl rfl v22 dX7_does_44 ?_
      refine g_topi (fun x23 ex23 => ?_)
      have bx23 := uk_cl v22
      have rx23 : 0 ≤ x23 ∧ x23 ≤ 40 := by rw [ex23]; exact sg_0 hu18 (by unfold uk_is51; decide) (by first | lia | grind) (by first | lia | grind)
      exact g_iret (ty := .int) dX7_does_45 rfl rfl ⟨⟨⟨_, rfl, by first | trivial | lia | grind⟩, hu18, fu18, riu18⟩, ee_i (by subst ex23; subst ex21; subst ex20; subst eu18; subst eu15; subst ex12; subst eu7; subst ex4; exact (if_neg c5).trans ((if_neg c13).trans (rfl)))⟩
    · have zc13 := zx12 c13
      refine g_bipush (v := (-2)) dX7_does_22 (by decide) ?_
      exact g_iret (ty := .int) dX7_does_24 rfl rfl ⟨⟨⟨_, rfl, by first | trivial | lia | grind⟩, hu7, fu7, riu7⟩, ee_i (by subst ex12; subst eu7; subst ex4; exact (if_neg c5).trans ((if_pos c13).trans (rfl)))⟩
  · have zc5 := zx4 c5
    refine g_iconst (v := (-1)) dX7_does_8 (by decide) ?_
    exact g_iret (ty := .int) dX7_does_9 rfl rfl ⟨⟨⟨_, rfl, by first | trivial | lia | grind⟩, hu, f0, hri⟩, ee_i (by subst ex4; exact (if_pos c5).trans (rfl))⟩
