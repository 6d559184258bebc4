def l_X7_lays_6 (m : Int32) : Nat → Int32 → uk_Mem → uk_Mem
  | 0, _, u9 => u9
  | K9 + 1, i8, u9 => let x11 : Int32 := u9.1 60 3; if x11 ≤ i8 then (let u16 : uk_Mem := uk_up u9 71 (0 : Int32).toNatClampNeg m; let u19 : uk_Mem := uk_up u16 60 22 (1 : Int32); u19) else (let x22 : Int32 := (8 : Int32) + i8; let u25 : uk_Mem := uk_up u9 62 x22.toNatClampNeg (0 : Int32); l_X7_lays_6 m K9 (i8 + 1) u25)
def e_X7_lays (u : uk_Mem) (m : Int32) : uk_Mem := let u3 : uk_Mem := e_X7_starts u; l_X7_lays_6 m ee_K (0 : Int32) u3
abbrev qe_X7_lays (u : uk_Mem) (m : Int32) (r : Option Value) (u' : uk_Mem) : Prop := (q_X7_lays u m r u') ∧ (u' = e_X7_lays u m)
set_option maxHeartbeats 4000000 in
set_option maxRecDepth 20000 in
theorem x_X7_lays {G : uk_D} (hs : uk_Sep G) {u : uk_Mem} (hu : iv u) (hri : ri u) (m : Int32) (p0 : 0 ≤ m) (p1 : m < u.1 60 3) (p2 : m ≤ 7) (d : Nat) : uk_Meth G (d + 1) mX7_lays [.ref (uk_ad G 60), .int m] u (qe_X7_lays u m) := by
  refine uk_Meth.of hs (by decide) (Nat.le_of_ble_eq_true rfl) (fun X => ?_)
  have f0 : fk [60, 62, 71] [3, 7, 10, 11, 13, 14, 15, 16, 17, 18, 19, 28] u u := fk_rf
  have C71 : u.1 71 = u.1 71 := rfl
  obtain ⟨t1, Tt1⟩ : ∃ t, u.1 60 22 = t := ⟨_, rfl⟩
  refine g_aload_n dX7_lays_0 rfl ?_
  refine cl_X7_185 (c := 60) (As := []) rfl (x_X7_starts (G := G) hs hu hri    (d)) rfl (by omega) rfl rfl (Nat.le_of_ble_eq_true rfl) dX7_lays_1 (fun r2 u3 q4 => ?_)
  obtain ⟨q4, Eq4⟩ := q4
  obtain ⟨rfl, mq4⟩ := q4
  obtain ⟨hu3, gu3, rau3, ku30⟩ := mq4
  have fu3 : fk [60, 62, 71] [3, 7, 10, 11, 13, 14, 15, 16, 17, 18, 19, 28] u u3 := fk_tr f0 gu3 (by decide) (by decide)
  have riu3 : ri u3 := ri_fk hri gu3 (by decide) (by decide) (by decide) (by decide) (by decide)
  have T5 : u3.1 60 22 = t1 := (fk_at gu3 (by decide)).trans Tt1
  have C6 : u3.1 71 = u.1 71 := (fk_c gu3 (by decide)).trans C71
  have wu3_60_3 : u3.1 60 3 = u.1 60 3 := fk_at gu3 (by decide)
  have eu3 : u3 = e_X7_starts u := Eq4
  refine g_iconst (v := 0) dX7_lays_4 (by decide) ?_
  refine g_istore_n dX7_lays_5 (by decide) ?_
  refine g_pick (lv' := [(0, .ref (uk_ad G 60)), (1, .int m), (2, .int 0)]) [0, 1, 2] rfl ?_
  have L6_6 : ∀ i8 : Int32, 0 ≤ i8 → i8 ≤ 8 → ∀ (u9 : uk_Mem), iv u9 → fk [60, 62, 71] [3, 7, 10, 11, 13, 14, 15, 16, 17, 18, 19, 28] u u9 → ri u9 → ra u9 → (∃ ki8 : Nat, ee_F 8 i8 ki8 ∧ e_X7_lays u m = l_X7_lays_6 m ki8 i8 u9) → uk_G G X mX7_lays (d + 1) (qe_X7_lays u m) 6 [(0, .ref (uk_ad G 60)), (1, .int m), (2, .int i8)] [] u9 := by
    refine uk_upl 8 ?_
    intro i8 ai8 bi8 ihi8  u9 hu9 fu9 riu9 rau9 jEi8
    obtain ⟨ki8, fki8, hki8⟩ := jEi8
    obtain ⟨ki8, rfl⟩ := ee_Fp (by first | assumption | lia | grind) fki8
    have C71_u9 : u9.1 71 = u9.1 71 := rfl
    obtain ⟨t10, Tt10⟩ : ∃ t, u9.1 60 22 = t := ⟨_, rfl⟩
    have Rt10 : 0 ≤ t10 ∧ t10 ≤ 255 := by rw [← Tt10]; exact iv_at hu9 _ _ rfl
    have wu9_60_3 : u9.1 60 3 = u.1 60 3 := fk_at fu9 (by decide)
    refine g_iload_n dX7_lays_6 rfl ?_
    refine g_aload_n dX7_lays_7 rfl ?_
    refine f_X7_79 rfl rfl dX7_lays_8 ?_
    refine g_topi (fun x11 ex11 => ?_)
    have rx11 : 0 ≤ x11 ∧ x11 ≤ 8 := by rw [ex11]; exact iv_at hu9 _ _ rfl
    have s12 : u9.1 60 3 = x11 := ex11.symm
    refine g_icmp_ge (tgt := 30) dX7_lays_11 (by decide) (fun c13 => ?_) (fun c13 => ?_)
    · refine g_aload_n dX7_lays_30 rfl ?_
      refine f_X7_41 rfl rfl dX7_lays_31 ?_
      refine g_iconst (v := 0) dX7_lays_34 (by decide) ?_
      refine g_iload_n dX7_lays_35 rfl ?_
      have v14 : vp_in 0 256 := uk_vin 256 rfl (by first | decide | lia | grind) (by first | decide | lia | grind)
      have b15 := uk_cl v14
      refine g_iast rfl rfl v14 dX7_lays_36 ?_
      refine g_mem (fun u16 eu16 => ?_)
      have hu16 : iv u16 := by rw [eu16]; exact iv_up hu9 (uk_pick1 _ (by omega)) (by first | lia | grind) (by first | lia | grind)
      have fu16 : fk [60, 62, 71] [3, 7, 10, 11, 13, 14, 15, 16, 17, 18, 19, 28] u u16 := by rw [eu16]; exact fk_up fu9 (by decide) (fun q => absurd q (by decide))
      have riu16 : ri u16 := by rw [eu16]; exact ri_1 riu9 (by decide) (fun q => absurd q (by decide))
      have rau16 : ra u16 := by rw [eu16]; exact ra_1 rau9 (by decide) (fun q => absurd q (by decide))
      have T17 : u16.1 60 22 = t10 := by rw [eu16]; exact (congrFun (uk_up_oc (by decide)) _).trans Tt10
      have C18 : u16.1 71 = (upd (u9.1 71) (0 : Int32).toNatClampNeg m) := by rw [eu16, uk_up_self, C71_u9]
      refine g_aload_n dX7_lays_37 rfl ?_
      refine g_iconst (v := 1) dX7_lays_38 (by decide) ?_
      refine p_X7_207 rfl rfl dX7_lays_39 ?_
      refine g_mem (fun u19 eu19 => ?_)
      have hu19 : iv u19 := by rw [eu19]; exact iv_up hu16 rfl (by first | lia | grind) (by first | lia | grind)
      have fu19 : fk [60, 62, 71] [3, 7, 10, 11, 13, 14, 15, 16, 17, 18, 19, 28] u u19 := by rw [eu19]; exact fk_up fu16 (by decide) (fun _ => by decide)
      have riu19 : ri u19 := by rw [eu19]; exact ri_1 riu16 (by decide) (fun _ => by decide)
      have rau19 : ra u19 := by rw [eu19]; exact ra_1 rau16 (by decide) (fun _ => by decide)
      have C20 : u19.1 71 = (upd (u9.1 71) (0 : Int32).toNatClampNeg m) := by rw [eu19]; exact (uk_up_oc (by decide)).trans C18
      have s21 : u19.1 60 22 = 1 := by rw [eu19, uk_up_at]; exact if_pos ⟨rfl, rfl⟩
      exact g_vret dX7_lays_42 rfl ⟨⟨rfl, hu19, fu19, riu19, rau19, (rp_lay C20 (s21.trans rfl) (fk_at fu19 (by decide)) p0 p2 p1)⟩, (by subst eu19; subst eu16; subst ex11; exact hki8.trans ((if_pos c13).trans (rfl)) : e_X7_lays u m = u19).symm⟩
    · refine g_aload_n dX7_lays_14 rfl ?_
      refine f_X7_13 rfl rfl dX7_lays_15 ?_
      refine g_bipush (v := 8) dX7_lays_18 (by decide) ?_
      refine g_iload_n dX7_lays_20 rfl ?_
      refine g_iadd dX7_lays_21 ?_
      refine g_topi (fun x22 ex22 => ?_)
      refine g_iconst (v := 0) dX7_lays_22 (by decide) ?_
      have v23 : vp_in x22 51 := uk_vin 51 rfl (by first | decide | lia | grind) (by first | decide | lia | grind)
      have b24 := uk_cl v23
      refine g_iast rfl rfl v23 dX7_lays_23 ?_
      refine g_mem (fun u25 eu25 => ?_)
      have hu25 : iv u25 := by rw [eu25]; exact iv_st hu9 (by unfold uk_is51; decide) (by first | decide | lia | grind) (by first | decide | lia | grind) (fun q => by first | decide | lia | grind) (fun q => by first | decide | lia | grind) (fun q => by first | decide | lia | grind)
      have fu25 : fk [60, 62, 71] [3, 7, 10, 11, 13, 14, 15, 16, 17, 18, 19, 28] u u25 := by rw [eu25]; exact fk_up fu9 (by decide) (fun q => absurd q (by decide))
      have riu25 : ri u25 := by rw [eu25]; exact ri_1 riu9 (by decide) (fun q => absurd q (by decide))
      have rau25 : ra u25 := by rw [eu25]; exact ra_at rau9 (by first | decide | lia | grind) (by first | decide | lia | grind)
      have T26 : u25.1 60 22 = t10 := by rw [eu25]; exact (congrFun (uk_up_oc (by decide)) _).trans Tt10
      have C27 : u25.1 71 = u9.1 71 := by rw [eu25]; exact (uk_up_oc (by decide)).trans C71_u9
      refine g_iinc (v := i8 + 1) dX7_lays_24 rfl rfl (by decide) ?_
      refine g_pick (lv' := [(0, .ref (uk_ad G 60)), (1, .int m), (2, .int (i8 + 1))]) [0, 1, 2] rfl ?_
      refine g_goto (tgt := 6) dX7_lays_27 (by decide) ?_
      refine g_pick (lv' := [(0, .ref (uk_ad G 60)), (1, .int m), (2, .int (i8 + 1))]) [0, 1, 2] rfl ?_
      exact ihi8 (by first | lia | grind)  u25 hu25 fu25 riu25 rau25  ⟨ki8, ee_Fs fki8 (by first | assumption | lia | grind), by subst eu25; subst ex22; subst ex11; exact hki8.trans ((if_neg c13).trans (rfl))⟩
  refine g_pick (lv' := [(0, .ref (uk_ad G 60)), (1, .int m), (2, .int 0)]) [0, 1, 2] rfl ?_
  exact L6_6 0 (by first | decide | lia | grind) (by first | decide | lia | grind)  u3 hu3 fu3 riu3 rau3  ⟨ee_K, ee_F0 _ _, by subst eu3; exact rfl⟩
def l_X7_nextThing_2 (u : uk_Mem) : Nat → Int32 → Int32
  | 0, _ => 0
  | K9 + 1, i2 => let x3 : Int32 := u.1 60 22; if x3 ≤ i2 then ((-4 : Int32)) else (let x7 : Int32 := u.1 71 i2.toNatClampNeg; let x8 : Int32 := (32 : Int32) + x7; let x10 : Int32 := u.1 62 x8.toNatClampNeg; if x10 = (4 : Int32) then (l_X7_nextThing_2 u K9 (i2 + 1)) else (if x10 = (2 : Int32) then (l_X7_nextThing_2 u K9 (i2 + 1)) else (i2)))
def e_X7_nextThing (u : uk_Mem) : Int32 := l_X7_nextThing_2 u ee_K (0 : Int32)
abbrev qe_X7_nextThing (u : uk_Mem)  (r : Option Value) (u' : uk_Mem) : Prop := (q_X7_nextThing u r u') ∧ (r = some (.int (e_X7_nextThing u)))
set_option maxHeartbeats 4000000 in
set_option maxRecDepth 20000 in
theorem x_X7_nextThing {G : uk_D} (hs : uk_Sep G) {u : uk_Mem} (hu : iv u)  (d : Nat) : uk_Meth G d mX7_nextThing [.ref (uk_ad G 60)] u (qe_X7_nextThing u) := by
  refine uk_Meth.of hs (by decide) (Nat.le_of_ble_eq_true rfl) (fun X => ?_)
  refine g_iconst (v := 0) dX7_nextThing_0 (by decide) ?_
  refine g_istore_n dX7_nextThing_1 (by decide) ?_
  refine g_pick (lv' := [(0, .ref (uk_ad G 60)), (1, .int 0)]) [0, 1] rfl ?_
  have L2_0 : ∀ i2 : Int32, 0 ≤ i2 → i2 ≤ 255 → (∃ ki2 : Nat, ee_F 255 i2 ki2 ∧ e_X7_nextThing u = l_X7_nextThing_2 u ki2 i2) → uk_G G X mX7_nextThing d (qe_X7_nextThing u) 2 [(0, .ref (uk_ad G 60)), (1, .int i2)] [] u := by
    refine uk_upl 255 ?_
    intro i2 ai2 bi2 ihi2  jEi2
    obtain ⟨ki2, fki2, hki2⟩ := jEi2
    obtain ⟨ki2, rfl⟩ := ee_Fp (by first | assumption | lia | grind) fki2
    refine g_iload_n dX7_nextThing_2 rfl ?_
    refine g_aload_n dX7_nextThing_3 rfl ?_
    refine f_X7_207 rfl rfl dX7_nextThing_4 ?_
    refine g_topi (fun x3 ex3 => ?_)
    have rx3 : 0 ≤ x3 ∧ x3 ≤ 255 := by rw [ex3]; exact iv_at hu _ _ rfl
    have s4 : u.1 60 22 = x3 := ex3.symm
    refine g_icmp_ge (tgt := 43) dX7_nextThing_7 (by decide) (fun c5 => ?_) (fun c5 => ?_)
    · refine g_bipush (v := (-4)) dX7_nextThing_43 (by decide) ?_
      exact g_iret (ty := .int) dX7_nextThing_45 rfl rfl ⟨⟨⟨_, rfl, by first | trivial | lia | grind⟩, rfl⟩, ee_p (by subst ex3; exact hki2.trans ((if_pos c5).trans (rfl)))⟩
    · refine g_aload_n dX7_nextThing_10 rfl ?_
      refine f_X7_13 rfl rfl dX7_nextThing_11 ?_
      refine g_bipush (v := 32) dX7_nextThing_14 (by decide) ?_
      refine g_aload_n dX7_nextThing_16 rfl ?_
      refine f_X7_41 rfl rfl dX7_nextThing_17 ?_
      refine g_iload_n dX7_nextThing_20 rfl ?_
      have v6 : vp_in i2 256 := uk_vin 256 rfl (by first | decide | lia | grind) (by first | decide | lia | grind)
      refine g_iald rfl rfl v6 dX7_nextThing_21 ?_
      refine g_topi (fun x7 ex7 => ?_)
      have bx7 := uk_cl v6
      have rx7 : 0 ≤ x7 ∧ x7 ≤ 7 := by rw [ex7]; exact iv_at hu _ _ (uk_pick1 _ (by omega))
      refine g_iadd dX7_nextThing_22 ?_
      refine g_topi (fun x8 ex8 => ?_)
      have v9 : vp_in x8 51 := uk_vin 51 rfl (by first | decide | lia | grind) (by first | decide | lia | grind)
      refine g_iald rfl rfl v9 dX7_nextThing_23 ?_
      refine g_topi (fun x10 ex10 => ?_)
      have bx10 := uk_cl v9
      refine g_istore_n dX7_nextThing_24 (by decide) ?_
      refine g_pick (lv' := [(0, .ref (uk_ad G 60)), (1, .int i2), (2, .int x10)]) [0, 1, 2] rfl ?_
      refine g_iload_n dX7_nextThing_25 rfl ?_
      refine g_iconst (v := 4) dX7_nextThing_26 (by decide) ?_
      refine g_icmp_eq (tgt := 37) dX7_nextThing_27 (by decide) (fun c11 => ?_) (fun c11 => ?_)
      · refine g_iinc (v := i2 + 1) dX7_nextThing_37 rfl rfl (by decide) ?_
        refine g_pick (lv' := [(0, .ref (uk_ad G 60)), (1, .int (i2 + 1)), (2, .int x10)]) [0, 1, 2] rfl ?_
        refine g_goto (tgt := 2) dX7_nextThing_40 (by decide) ?_
        refine g_pick (lv' := [(0, .ref (uk_ad G 60)), (1, .int (i2 + 1))]) [0, 1] rfl ?_
        exact ihi2 (by first | lia | grind)   ⟨ki2, ee_Fs fki2 (by first | assumption | lia | grind), by subst ex10; subst ex8; subst ex7; subst ex3; exact hki2.trans ((if_neg c5).trans ((if_pos c11).trans (rfl)))⟩
      · refine g_iload_n dX7_nextThing_30 rfl ?_
        refine g_iconst (v := 2) dX7_nextThing_31 (by decide) ?_
        refine g_icmp_eq (tgt := 37) dX7_nextThing_32 (by decide) (fun c12 => ?_) (fun c12 => ?_)
        · refine g_iinc (v := i2 + 1) dX7_nextThing_37 rfl rfl (by decide) ?_
          refine g_pick (lv' := [(0, .ref (uk_ad G 60)), (1, .int (i2 + 1)), (2, .int x10)]) [0, 1, 2] rfl ?_
          refine g_goto (tgt := 2) dX7_nextThing_40 (by decide) ?_
          refine g_pick (lv' := [(0, .ref (uk_ad G 60)), (1, .int (i2 + 1))]) [0, 1] rfl ?_
          exact ihi2 (by first | lia | grind)   ⟨ki2, ee_Fs fki2 (by first | assumption | lia | grind), by subst ex10; subst ex8; subst ex7; subst ex3; exact hki2.trans ((if_neg c5).trans ((if_neg c11).trans ((if_pos c12).trans (rfl))))⟩
        · refine g_iload_n dX7_nextThing_35 rfl ?_
          exact g_iret (ty := .int) dX7_nextThing_36 rfl rfl ⟨⟨⟨_, rfl, by first | trivial | lia | grind⟩, rfl⟩, ee_p (by subst ex10; subst ex8; subst ex7; subst ex3; exact hki2.trans ((if_neg c5).trans ((if_neg c11).trans ((if_neg c12).trans (rfl)))))⟩
  refine g_pick (lv' := [(0, .ref (uk_ad G 60)), (1, .int 0)]) [0, 1] rfl ?_
  exact L2_0 0 (by first | decide | lia | grind) (by first | decide | lia | grind)   ⟨ee_K, ee_F0 _ _, by exact rfl⟩
def l_X7_turns1_45 (x5 : Int32) (x8 : Int32) : Nat → Int32 → uk_Mem → Int32 × uk_Mem
  | 0, _, u46 => (0, u46)
  | K9 + 1, i45, u46 => let x48 : Int32 := x5 + (1 : Int32); if i45 ≤ x48 then (let x50 : Int32 := x5 + (1 : Int32); let x52 : Int32 := u46.1 65 x8.toNatClampNeg; let u55 : uk_Mem := uk_up u46 71 x50.toNatClampNeg x52; let x58 : Int32 := u55.1 60 22; let x59 : Int32 := x58 + (1 : Int32); let u60 : uk_Mem := uk_up u55 60 22 x59; let x63 : Int32 := (8 : Int32) + x8; let x64 : Int32 := (32 : Int32) + x8; let x66 : Int32 := u60.1 62 x64.toNatClampNeg; if x66 = (3 : Int32) then (let x76 : Int32 := (8 : Int32) + x8; let x78 : Int32 := u60.1 62 x76.toNatClampNeg; let x79 : Int32 := (1 : Int32) - x78; let u82 : uk_Mem := uk_up u60 62 x63.toNatClampNeg x79; ((1 : Int32), u82)) else (let x68 : Int32 := (8 : Int32) + x8; let x70 : Int32 := u60.1 62 x68.toNatClampNeg; let u73 : uk_Mem := uk_up u60 62 x63.toNatClampNeg x70; ((1 : Int32), u73))) else (let x85 : Int32 := i45 - (1 : Int32); let x87 : Int32 := u46.1 71 x85.toNatClampNeg; let u90 : uk_Mem := uk_up u46 71 i45.toNatClampNeg x87; l_X7_turns1_45 x5 x8 K9 (i45 - 1) u90)
def e_X7_turns1 (u : uk_Mem) : Int32 × uk_Mem := let x5 : Int32 := (e_X7_nextThing u); if x5 = (-4 : Int32) then (((0 : Int32), u)) else (let x8 : Int32 := u.1 71 x5.toNatClampNeg; let x10 : Int32 := u.1 64 x8.toNatClampNeg; let u13 : uk_Mem := uk_up u 71 x5.toNatClampNeg x10; let x19 : Int32 := (e_X7_givesSecond u13 x8); if x19 = 0 then (let x21 : Int32 := (8 : Int32) + x8; let x22 : Int32 := (32 : Int32) + x8; let x24 : Int32 := u13.1 62 x22.toNatClampNeg; if x24 = (3 : Int32) then (let x34 : Int32 := (8 : Int32) + x8; let x36 : Int32 := u13.1 62 x34.toNatClampNeg; let x37 : Int32 := (1 : Int32) - x36; let u40 : uk_Mem := uk_up u13 62 x21.toNatClampNeg x37; ((1 : Int32), u40)) else (let x26 : Int32 := (8 : Int32) + x8; let x28 : Int32 := u13.1 62 x26.toNatClampNeg; let u31 : uk_Mem := uk_up u13 62 x21.toNatClampNeg x28; ((1 : Int32), u31))) else (let x43 : Int32 := u13.1 60 22; l_X7_turns1_45 x5 x8 ee_K x43 u13))
abbrev qe_X7_turns1 (u : uk_Mem)  (r : Option Value) (u' : uk_Mem) : Prop := (q_X7_turns1 u r u') ∧ (r = some (.int (e_X7_turns1 u).1) ∧ u' = (e_X7_turns1 u).2)
set_option maxHeartbeats 4000000 in
set_option maxRecDepth 20000 in
theorem x_X7_turns1 {G : uk_D} (hs : uk_Sep G) {u : uk_Mem} (hu : iv u) (hri : ri u) (hra : ra u) (hrp : rp u)  (d : Nat) : uk_Meth G (d + 1) mX7_turns1 [.ref (uk_ad G 60)] u (qe_X7_turns1 u) := by
  refine uk_Meth.of hs (by decide) (Nat.le_of_ble_eq_true rfl) (fun X => ?_)
  have f0 : fk [60, 62, 71] [3, 7, 10, 11, 13, 14, 15, 16, 17, 18, 19, 28] u u := fk_rf
  have C71 : u.1 71 = u.1 71 := rfl
  obtain ⟨t1, Tt1⟩ : ∃ t, u.1 60 22 = t := ⟨_, rfl⟩
  refine g_aload_n dX7_turns1_0 rfl ?_
  refine cl_X7_210 (c := 60) (As := []) rfl (x_X7_nextThing (G := G) hs hu    (d)) rfl (by omega) rfl rfl (Nat.le_of_ble_eq_true rfl) dX7_turns1_1 (fun r2 u3 q4 => ?_)
  obtain ⟨q4, Eq4⟩ := q4
  obtain ⟨⟨x5, rfl, tx5⟩, mq4⟩ := q4
  rw [mq4]
  have ex5 : x5 = (e_X7_nextThing u) := ee_v Eq4
  refine g_istore_n dX7_turns1_4 (by decide) ?_
  refine g_pick (lv' := [(0, .ref (uk_ad G 60)), (1, .int x5)]) [0, 1] rfl ?_
  refine g_iload_n dX7_turns1_5 rfl ?_
  refine g_bipush (v := (-4)) dX7_turns1_6 (by decide) ?_
  refine g_icmp_ne (tgt := 13) dX7_turns1_8 (by decide) (fun c6 => ?_) (fun c6 => ?_)
  · have R22 : 0 ≤ u.1 60 22 ∧ u.1 60 22 ≤ 255 := iv_at hu 60 22 rfl
    obtain ⟨hx0, hx1, hx2⟩ := tx5.resolve_left (by assumption)
    refine g_aload_n dX7_turns1_13 rfl ?_
    refine f_X7_41 rfl rfl dX7_turns1_14 ?_
    refine g_iload_n dX7_turns1_17 rfl ?_
    have v7 : vp_in x5 256 := uk_vin 256 rfl (by first | decide | lia | grind) (by first | decide | lia | grind)
    refine g_iald rfl rfl v7 dX7_turns1_18 ?_
    refine g_topi (fun x8 ex8 => ?_)
    have bx8 := uk_cl v7
    have rx8 : 0 ≤ x8 ∧ x8 ≤ 7 := by rw [ex8]; exact iv_at hu _ _ (uk_pick1 _ (by omega))
    have px8 : x8 = (u.1 71) (x5 : Int32).toNatClampNeg := ex8.trans (congrFun C71 _)
    have hmx8 : x8 < u.1 60 3 := by rw [ex8]; exact hrp.1 _ (uk_cll (by lia) (by lia))
    have hkx8 := (hra x8 (by lia) hmx8 (by lia)).resolve_left (by rw [px8]; exact hx2)
    refine g_istore_n dX7_turns1_19 (by decide) ?_
    refine g_pick (lv' := [(0, .ref (uk_ad G 60)), (1, .int x5), (2, .int x8)]) [0, 1, 2] rfl ?_
    refine g_aload_n dX7_turns1_20 rfl ?_
    refine f_X7_41 rfl rfl dX7_turns1_21 ?_
    refine g_iload_n dX7_turns1_24 rfl ?_
    refine g_aload_n dX7_turns1_25 rfl ?_
    refine f_X7_20 rfl rfl dX7_turns1_26 ?_
    refine g_iload_n dX7_turns1_29 rfl ?_
    have v9 : vp_in x8 8 := uk_vin 8 rfl (by first | decide | lia | grind) (by first | decide | lia | grind)
    refine g_iald rfl rfl v9 dX7_turns1_30 ?_
    refine g_topi (fun x10 ex10 => ?_)
    have bx10 := uk_cl v9
    have rx10 : (-4) ≤ x10 ∧ x10 ≤ 7 := by rw [ex10]; exact iv_at hu _ _ (uk_pick1 _ (by omega))
    have hax10 : 0 ≤ x10 ∧ x10 < x8 := by rw [ex10]; exact ⟨hkx8.1, hkx8.2.1⟩
    have v11 : vp_in x5 256 := uk_vin 256 rfl (by first | decide | lia | grind) (by first | decide | lia | grind)
    have b12 := uk_cl v11
    refine g_iast rfl rfl v11 dX7_turns1_31 ?_
    refine g_mem (fun u13 eu13 => ?_)
    have hu13 : iv u13 := by rw [eu13]; exact iv_up hu (uk_pick1 _ (by omega)) (by first | lia | grind) (by first | lia | grind)
    have fu13 : fk [60, 62, 71] [3, 7, 10, 11, 13, 14, 15, 16, 17, 18, 19, 28] u u13 := by rw [eu13]; exact fk_up f0 (by decide) (fun q => absurd q (by decide))
    have riu13 : ri u13 := by rw [eu13]; exact ri_1 hri (by decide) (fun q => absurd q (by decide))
    have rau13 : ra u13 := by rw [eu13]; exact ra_1 hra (by decide) (fun q => absurd q (by decide))
    have T14 : u13.1 60 22 = t1 := by rw [eu13]; exact (congrFun (uk_up_oc (by decide)) _).trans Tt1
    have C15 : u13.1 71 = (upd (u.1 71) (x5 : Int32).toNatClampNeg x10) := by rw [eu13, uk_up_self, C71]
    refine g_aload_n dX7_turns1_32 rfl ?_
    refine g_iload_n dX7_turns1_33 rfl ?_
    refine cl_X7_153 (c := 60) (As := [.int x8]) rfl (x_X7_givesSecond (G := G) hs hu13  x8 (by first | trivial | decide | lia | grind) (by first | trivial | decide | lia | grind) (d)) rfl (by omega) rfl rfl (Nat.le_of_ble_eq_true rfl) dX7_turns1_34 (fun r16 u17 q18 => ?_)
    obtain ⟨q18, Eq18⟩ := q18
    obtain ⟨⟨x19, rfl, tx19, nx19, zx19⟩, mq18⟩ := q18
    rw [mq18]
    have ex19 : x19 = (e_X7_givesSecond u13 x8) := ee_v Eq18
    refine g_if_eq (tgt := 96) dX7_turns1_37 (by decide) (fun c20 => ?_) (fun c20 => ?_)
    · have zc20 := zx19 c20
      refine g_aload_n dX7_turns1_96 rfl ?_
      refine f_X7_13 rfl rfl dX7_turns1_97 ?_
      refine g_bipush (v := 8) dX7_turns1_100 (by decide) ?_
      refine g_iload_n dX7_turns1_102 rfl ?_
      refine g_iadd dX7_turns1_103 ?_
      refine g_topi (fun x21 ex21 => ?_)
      refine g_aload_n dX7_turns1_104 rfl ?_
      refine f_X7_13 rfl rfl dX7_turns1_105 ?_
      refine g_bipush (v := 32) dX7_turns1_108 (by decide) ?_
      refine g_iload_n dX7_turns1_110 rfl ?_
      refine g_iadd dX7_turns1_111 ?_
      refine g_topi (fun x22 ex22 => ?_)
      have v23 : vp_in x22 51 := uk_vin 51 rfl (by first | decide | lia | grind) (by first | decide | lia | grind)
      refine g_iald rfl rfl v23 dX7_turns1_112 ?_
      refine g_topi (fun x24 ex24 => ?_)
      have bx24 := uk_cl v23
      refine g_iconst (v := 3) dX7_turns1_113 (by decide) ?_
      refine g_icmp_ne (tgt := 131) dX7_turns1_114 (by decide) (fun c25 => ?_) (fun c25 => ?_)
      · refine g_aload_n dX7_turns1_131 rfl ?_
        refine f_X7_13 rfl rfl dX7_turns1_132 ?_
        refine g_bipush (v := 8) dX7_turns1_135 (by decide) ?_
        refine g_iload_n dX7_turns1_137 rfl ?_
        refine g_iadd dX7_turns1_138 ?_
        refine g_topi (fun x26 ex26 => ?_)
        have v27 : vp_in x26 51 := uk_vin 51 rfl (by first | decide | lia | grind) (by first | decide | lia | grind)
        refine g_iald rfl rfl v27 dX7_turns1_139 ?_
        refine g_topi (fun x28 ex28 => ?_)
        have bx28 := uk_cl v27
        have v29 : vp_in x21 51 := uk_vin 51 rfl (by first | decide | lia | grind) (by first | decide | lia | grind)
        have b30 := uk_cl v29
        refine g_iast rfl rfl v29 dX7_turns1_140 ?_
        refine g_mem (fun u31 eu31 => ?_)
        have hu31 : iv u31 := by rw [eu31]; exact iv_st hu13 (by unfold uk_is51; decide) (by first | decide | lia | grind) (by first | decide | lia | grind) (fun q => by first | decide | lia | grind) (fun q => by first | decide | lia | grind) (fun q => by first | decide | lia | grind)
        have fu31 : fk [60, 62, 71] [3, 7, 10, 11, 13, 14, 15, 16, 17, 18, 19, 28] u u31 := by rw [eu31]; exact fk_up fu13 (by decide) (fun q => absurd q (by decide))
        have riu31 : ri u31 := by rw [eu31]; exact ri_1 riu13 (by decide) (fun q => absurd q (by decide))
        have rau31 : ra u31 := by rw [eu31]; exact ra_at rau13 (by first | decide | lia | grind) (by first | decide | lia | grind)
        have T32 : u31.1 60 22 = t1 := by rw [eu31]; exact (congrFun (uk_up_oc (by decide)) _).trans T14
        have C33 : u31.1 71 = (upd (u.1 71) (x5 : Int32).toNatClampNeg x10) := by rw [eu31]; exact (uk_up_oc (by decide)).trans C15
        refine g_iconst (v := 1) dX7_turns1_141 (by decide) ?_
        exact g_iret (ty := .boolean) dX7_turns1_142 rfl rfl ⟨⟨⟨1, rfl, Or.inr rfl, fun _ => (tn_1 hrp (i := x5) (m := x8) (a := x10) (by lia) (by lia) ex8.symm hax10.1 hax10.2 C33 (T32.trans (by first | assumption | grind)) (fk_at fu31 (by decide))).2, fun q => absurd q (by decide)⟩, hu31, fu31, riu31, rau31, (tn_1 hrp (i := x5) (m := x8) (a := x10) (by lia) (by lia) ex8.symm hax10.1 hax10.2 C33 (T32.trans (by first | assumption | grind)) (fk_at fu31 (by decide))).1⟩, ee_i (by subst eu31; subst ex28; subst ex26; subst ex24; subst ex22; subst ex21; subst ex19; subst eu13; subst ex10; subst ex8; subst ex5; exact (if_neg c6).trans ((if_pos c20).trans ((if_neg c25).trans (rfl))))⟩
      · refine g_iconst (v := 1) dX7_turns1_117 (by decide) ?_
        refine g_aload_n dX7_turns1_118 rfl ?_
        refine f_X7_13 rfl rfl dX7_turns1_119 ?_
        refine g_bipush (v := 8) dX7_turns1_122 (by decide) ?_
        refine g_iload_n dX7_turns1_124 rfl ?_
        refine g_iadd dX7_turns1_125 ?_
        refine g_topi (fun x34 ex34 => ?_)
        have v35 : vp_in x34 51 := uk_vin 51 rfl (by first | decide | lia | grind) (by first | decide | lia | grind)
        refine g_iald rfl rfl v35 dX7_turns1_126 ?_
        refine g_topi (fun x36 ex36 => ?_)
        have bx36 := uk_cl v35
        refine g_isub dX7_turns1_127 ?_
        refine g_topi (fun x37 ex37 => ?_)
        refine g_goto (tgt := 140) dX7_turns1_128 (by decide) ?_
        have v38 : vp_in x21 51 := uk_vin 51 rfl (by first | decide | lia | grind) (by first | decide | lia | grind)
        have b39 := uk_cl v38
        refine g_iast rfl rfl v38 dX7_turns1_140 ?_
        refine g_mem (fun u40 eu40 => ?_)
        have hu40 : iv u40 := by rw [eu40]; exact iv_st hu13 (by unfold uk_is51; decide) (by first | decide | lia | grind) (by first | decide | lia | grind) (fun q => by first | decide | lia | grind) (fun q => by first | decide | lia | grind) (fun q => by first | decide | lia | grind)
        have fu40 : fk [60, 62, 71] [3, 7, 10, 11, 13, 14, 15, 16, 17, 18, 19, 28] u u40 := by rw [eu40]; exact fk_up fu13 (by decide) (fun q => absurd q (by decide))
        have riu40 : ri u40 := by rw [eu40]; exact ri_1 riu13 (by decide) (fun q => absurd q (by decide))
        have rau40 : ra u40 := by rw [eu40]; exact ra_at rau13 (by first | decide | lia | grind) (by first | decide | lia | grind)
        have T41 : u40.1 60 22 = t1 := by rw [eu40]; exact (congrFun (uk_up_oc (by decide)) _).trans T14
        have C42 : u40.1 71 = (upd (u.1 71) (x5 : Int32).toNatClampNeg x10) := by rw [eu40]; exact (uk_up_oc (by decide)).trans C15
        refine g_iconst (v := 1) dX7_turns1_141 (by decide) ?_
        exact g_iret (ty := .boolean) dX7_turns1_142 rfl rfl ⟨⟨⟨1, rfl, Or.inr rfl, fun _ => (tn_1 hrp (i := x5) (m := x8) (a := x10) (by lia) (by lia) ex8.symm hax10.1 hax10.2 C42 (T41.trans (by first | assumption | grind)) (fk_at fu40 (by decide))).2, fun q => absurd q (by decide)⟩, hu40, fu40, riu40, rau40, (tn_1 hrp (i := x5) (m := x8) (a := x10) (by lia) (by lia) ex8.symm hax10.1 hax10.2 C42 (T41.trans (by first | assumption | grind)) (fk_at fu40 (by decide))).1⟩, ee_i (by subst eu40; subst ex37; subst ex36; subst ex34; subst ex24; subst ex22; subst ex21; subst ex19; subst eu13; subst ex10; subst ex8; subst ex5; exact (if_neg c6).trans ((if_pos c20).trans ((if_pos c25).trans (rfl))))⟩
    · have zc20 := nx19 c20
      refine g_aload_n dX7_turns1_40 rfl ?_
      refine f_X7_207 rfl rfl dX7_turns1_41 ?_
      refine g_topi (fun x43 ex43 => ?_)
      have rx43 : 0 ≤ x43 ∧ x43 ≤ 255 := by rw [ex43]; exact iv_at hu13 _ _ rfl
      have qx43 : x43 = t1 := ex43.trans T14
      refine g_istore_n dX7_turns1_44 (by decide) ?_
      refine g_pick (lv' := [(0, .ref (uk_ad G 60)), (1, .int x5), (2, .int x8), (3, .int x43)]) [0, 1, 2, 3] rfl ?_
      have L45_43 : ∀ i45 : Int32, -1 ≤ i45 → ∀ (u46 : uk_Mem), iv u46 → fk [60, 62, 71] [3, 7, 10, 11, 13, 14, 15, 16, 17, 18, 19, 28] u u46 → ri u46 → ra u46 → i45 ≤ u.1 60 22 → x5 + 1 ≤ i45 → u46.1 71 = sh (upd (u.1 71) x5.toNatClampNeg x10) (u.1 60 22).toNatClampNeg i45.toNatClampNeg → u46.1 60 22 = u.1 60 22 → (∃ ki45 : Nat, ee_D i45 ki45 ∧ e_X7_turns1 u = l_X7_turns1_45 x5 x8 ki45 i45 u46) → uk_G G X mX7_turns1 (d + 1) (qe_X7_turns1 u) 45 [(0, .ref (uk_ad G 60)), (1, .int x5), (2, .int x8), (3, .int i45)] [] u46 := by
        refine uk_dnl ?_
        intro i45 ai45 ihi45  u46 hu46 fu46 riu46 rau46 ji450 ji451 ji452 ji453 jEi45
        obtain ⟨ki45, fki45, hki45⟩ := jEi45
        obtain ⟨ki45, rfl⟩ := ee_Dp (by first | assumption | lia | grind) fki45
        have C71_u46 : u46.1 71 = u46.1 71 := rfl
        obtain ⟨t47, Tt47⟩ : ∃ t, u46.1 60 22 = t := ⟨_, rfl⟩
        have Rt47 : 0 ≤ t47 ∧ t47 ≤ 255 := by rw [← Tt47]; exact iv_at hu46 _ _ rfl
        have wu46_60_3 : u46.1 60 3 = u.1 60 3 := fk_at fu46 (by decide)
        refine g_iload_n dX7_turns1_45 rfl ?_
        refine g_iload_n dX7_turns1_46 rfl ?_
        refine g_iconst (v := 1) dX7_turns1_47 (by decide) ?_
        refine g_iadd dX7_turns1_48 ?_
        refine g_topi (fun x48 ex48 => ?_)
        refine g_icmp_le (tgt := 72) dX7_turns1_49 (by decide) (fun c49 => ?_) (fun c49 => ?_)
        · have hc1 : i45 = x5 + 1 := by first | lia | grind
          refine g_aload_n dX7_turns1_72 rfl ?_
          refine f_X7_41 rfl rfl dX7_turns1_73 ?_
          refine g_iload_n dX7_turns1_76 rfl ?_
          refine g_iconst (v := 1) dX7_turns1_77 (by decide) ?_
          refine g_iadd dX7_turns1_78 ?_
          refine g_topi (fun x50 ex50 => ?_)
          refine g_aload_n dX7_turns1_79 rfl ?_
          refine f_X7_23 rfl rfl dX7_turns1_80 ?_
          refine g_iload_n dX7_turns1_83 rfl ?_
          have v51 : vp_in x8 8 := uk_vin 8 rfl (by first | decide | lia | grind) (by first | decide | lia | grind)
          refine g_iald rfl rfl v51 dX7_turns1_84 ?_
          refine g_topi (fun x52 ex52 => ?_)
          have bx52 := uk_cl v51
          have rx52 : (-4) ≤ x52 ∧ x52 ≤ 7 := by rw [ex52]; exact iv_at hu46 _ _ (uk_pick1 _ (by omega))
          have hbx52 : 0 ≤ x52 ∧ x52 < x8 := by rw [ex52, fk_c fu46 (by decide)]; exact ⟨hkx8.2.2.1, hkx8.2.2.2⟩
          have v53 : vp_in x50 256 := uk_vin 256 rfl (by first | decide | lia | grind) (by first | decide | lia | grind)
          have b54 := uk_cl v53
          refine g_iast rfl rfl v53 dX7_turns1_85 ?_
          refine g_mem (fun u55 eu55 => ?_)
          have hu55 : iv u55 := by rw [eu55]; exact iv_up hu46 (uk_pick1 _ (by omega)) (by first | lia | grind) (by first | lia | grind)
          have fu55 : fk [60, 62, 71] [3, 7, 10, 11, 13, 14, 15, 16, 17, 18, 19, 28] u u55 := by rw [eu55]; exact fk_up fu46 (by decide) (fun q => absurd q (by decide))
          have riu55 : ri u55 := by rw [eu55]; exact ri_1 riu46 (by decide) (fun q => absurd q (by decide))
          have rau55 : ra u55 := by rw [eu55]; exact ra_1 rau46 (by decide) (fun q => absurd q (by decide))
          have T56 : u55.1 60 22 = t47 := by rw [eu55]; exact (congrFun (uk_up_oc (by decide)) _).trans Tt47
          have C57 : u55.1 71 = (upd (u46.1 71) (x50 : Int32).toNatClampNeg x52) := by rw [eu55, uk_up_self, C71_u46]
          refine g_aload_n dX7_turns1_86 rfl ?_
          refine g_dup dX7_turns1_87 rfl ?_
          refine f_X7_207 rfl rfl dX7_turns1_88 ?_
          refine g_topi (fun x58 ex58 => ?_)
          have rx58 : 0 ≤ x58 ∧ x58 ≤ 255 := by rw [ex58]; exact iv_at hu55 _ _ rfl
          have qx58 : x58 = t47 := ex58.trans T56
          refine g_iconst (v := 1) dX7_turns1_91 (by decide) ?_
          refine g_iadd dX7_turns1_92 ?_
          refine g_topi (fun x59 ex59 => ?_)
          refine p_X7_207 rfl rfl dX7_turns1_93 ?_
          refine g_mem (fun u60 eu60 => ?_)
          have hu60 : iv u60 := by rw [eu60]; exact iv_up hu55 rfl (by have := tn_n hrp (i := x5) (m := x8) (a := x10) (b := x52) (by lia) (by lia) ex8.symm hax10.1 hax10.2 hbx52.1 hbx52.2; first | lia | grind) (by have := tn_n hrp (i := x5) (m := x8) (a := x10) (b := x52) (by lia) (by lia) ex8.symm hax10.1 hax10.2 hbx52.1 hbx52.2; first | lia | grind)
          have fu60 : fk [60, 62, 71] [3, 7, 10, 11, 13, 14, 15, 16, 17, 18, 19, 28] u u60 := by rw [eu60]; exact fk_up fu55 (by decide) (fun _ => by decide)
          have riu60 : ri u60 := by rw [eu60]; exact ri_1 riu55 (by decide) (fun _ => by decide)
          have rau60 : ra u60 := by rw [eu60]; exact ra_1 rau55 (by decide) (fun _ => by decide)
          have C61 : u60.1 71 = (upd (u46.1 71) (x50 : Int32).toNatClampNeg x52) := by rw [eu60]; exact (uk_up_oc (by decide)).trans C57
          have s62 : u60.1 60 22 = x59 := by rw [eu60, uk_up_at]; exact if_pos ⟨rfl, rfl⟩
          refine g_aload_n dX7_turns1_96 rfl ?_
          refine f_X7_13 rfl rfl dX7_turns1_97 ?_
          refine g_bipush (v := 8) dX7_turns1_100 (by decide) ?_
          refine g_iload_n dX7_turns1_102 rfl ?_
          refine g_iadd dX7_turns1_103 ?_
          refine g_topi (fun x63 ex63 => ?_)
          refine g_aload_n dX7_turns1_104 rfl ?_
          refine f_X7_13 rfl rfl dX7_turns1_105 ?_
          refine g_bipush (v := 32) dX7_turns1_108 (by decide) ?_
          refine g_iload_n dX7_turns1_110 rfl ?_
          refine g_iadd dX7_turns1_111 ?_
          refine g_topi (fun x64 ex64 => ?_)
          have v65 : vp_in x64 51 := uk_vin 51 rfl (by first | decide | lia | grind) (by first | decide | lia | grind)
          refine g_iald rfl rfl v65 dX7_turns1_112 ?_
          refine g_topi (fun x66 ex66 => ?_)
          have bx66 := uk_cl v65
          refine g_iconst (v := 3) dX7_turns1_113 (by decide) ?_
          refine g_icmp_ne (tgt := 131) dX7_turns1_114 (by decide) (fun c67 => ?_) (fun c67 => ?_)
          · refine g_aload_n dX7_turns1_131 rfl ?_
            refine f_X7_13 rfl rfl dX7_turns1_132 ?_
            refine g_bipush (v := 8) dX7_turns1_135 (by decide) ?_
            refine g_iload_n dX7_turns1_137 rfl ?_
            refine g_iadd dX7_turns1_138 ?_
            refine g_topi (fun x68 ex68 => ?_)
            have v69 : vp_in x68 51 := uk_vin 51 rfl (by first | decide | lia | grind) (by first | decide | lia | grind)
            refine g_iald rfl rfl v69 dX7_turns1_139 ?_
            refine g_topi (fun x70 ex70 => ?_)
            have bx70 := uk_cl v69
            have v71 : vp_in x63 51 := uk_vin 51 rfl (by first | decide | lia | grind) (by first | decide | lia | grind)
            have b72 := uk_cl v71
            refine g_iast rfl rfl v71 dX7_turns1_140 ?_
            refine g_mem (fun u73 eu73 => ?_)
            have hu73 : iv u73 := by rw [eu73]; exact iv_st hu60 (by unfold uk_is51; decide) (by first | decide | lia | grind) (by first | decide | lia | grind) (fun q => by first | decide | lia | grind) (fun q => by first | decide | lia | grind) (fun q => by first | decide | lia | grind)
            have fu73 : fk [60, 62, 71] [3, 7, 10, 11, 13, 14, 15, 16, 17, 18, 19, 28] u u73 := by rw [eu73]; exact fk_up fu60 (by decide) (fun q => absurd q (by decide))
            have riu73 : ri u73 := by rw [eu73]; exact ri_1 riu60 (by decide) (fun q => absurd q (by decide))
            have rau73 : ra u73 := by rw [eu73]; exact ra_at rau60 (by first | decide | lia | grind) (by first | decide | lia | grind)
            have T74 : u73.1 60 22 = x59 := by rw [eu73]; exact (congrFun (uk_up_oc (by decide)) _).trans s62
            have C75 : u73.1 71 = (upd (u46.1 71) (x50 : Int32).toNatClampNeg x52) := by rw [eu73]; exact (uk_up_oc (by decide)).trans C61
            refine g_iconst (v := 1) dX7_turns1_141 (by decide) ?_
            exact g_iret (ty := .boolean) dX7_turns1_142 rfl rfl ⟨⟨⟨1, rfl, Or.inr rfl, fun _ => (tn_2 hrp (i := x5) (m := x8) (a := x10) (b := x52) (by lia) (by lia) ex8.symm hax10.1 hax10.2 hbx52.1 hbx52.2 (C75.trans (by rw [ji452, hc1, ex50])) (T74.trans (by first | assumption | grind)) (fk_at fu73 (by decide))).2, fun q => absurd q (by decide)⟩, hu73, fu73, riu73, rau73, (tn_2 hrp (i := x5) (m := x8) (a := x10) (b := x52) (by lia) (by lia) ex8.symm hax10.1 hax10.2 hbx52.1 hbx52.2 (C75.trans (by rw [ji452, hc1, ex50])) (T74.trans (by first | assumption | grind)) (fk_at fu73 (by decide))).1⟩, ee_i (by subst eu73; subst ex70; subst ex68; subst ex66; subst ex64; subst ex63; subst eu60; subst ex59; subst ex58; subst eu55; subst ex52; subst ex50; subst ex48; exact hki45.trans ((if_pos c49).trans ((if_neg c67).trans (rfl))))⟩
          · refine g_iconst (v := 1) dX7_turns1_117 (by decide) ?_
            refine g_aload_n dX7_turns1_118 rfl ?_
            refine f_X7_13 rfl rfl dX7_turns1_119 ?_
            refine g_bipush (v := 8) dX7_turns1_122 (by decide) ?_
            refine g_iload_n dX7_turns1_124 rfl ?_
            refine g_iadd dX7_turns1_125 ?_
            refine g_topi (fun x76 ex76 => ?_)
            have v77 : vp_in x76 51 := uk_vin 51 rfl (by first | decide | lia | grind) (by first | decide | lia | grind)
            refine g_iald rfl rfl v77 dX7_turns1_126 ?_
            refine g_topi (fun x78 ex78 => ?_)
            have bx78 := uk_cl v77
            refine g_isub dX7_turns1_127 ?_
            refine g_topi (fun x79 ex79 => ?_)
            refine g_goto (tgt := 140) dX7_turns1_128 (by decide) ?_
            have v80 : vp_in x63 51 := uk_vin 51 rfl (by first | decide | lia | grind) (by first | decide | lia | grind)
            have b81 := uk_cl v80
            refine g_iast rfl rfl v80 dX7_turns1_140 ?_
            refine g_mem (fun u82 eu82 => ?_)
            have hu82 : iv u82 := by rw [eu82]; exact iv_st hu60 (by unfold uk_is51; decide) (by first | decide | lia | grind) (by first | decide | lia | grind) (fun q => by first | decide | lia | grind) (fun q => by first | decide | lia | grind) (fun q => by first | decide | lia | grind)
            have fu82 : fk [60, 62, 71] [3, 7, 10, 11, 13, 14, 15, 16, 17, 18, 19, 28] u u82 := by rw [eu82]; exact fk_up fu60 (by decide) (fun q => absurd q (by decide))
            have riu82 : ri u82 := by rw [eu82]; exact ri_1 riu60 (by decide) (fun q => absurd q (by decide))
            have rau82 : ra u82 := by rw [eu82]; exact ra_at rau60 (by first | decide | lia | grind) (by first | decide | lia | grind)
            have T83 : u82.1 60 22 = x59 := by rw [eu82]; exact (congrFun (uk_up_oc (by decide)) _).trans s62
            have C84 : u82.1 71 = (upd (u46.1 71) (x50 : Int32).toNatClampNeg x52) := by rw [eu82]; exact (uk_up_oc (by decide)).trans C61
            refine g_iconst (v := 1) dX7_turns1_141 (by decide) ?_
            exact g_iret (ty := .boolean) dX7_turns1_142 rfl rfl ⟨⟨⟨1, rfl, Or.inr rfl, fun _ => (tn_2 hrp (i := x5) (m := x8) (a := x10) (b := x52) (by lia) (by lia) ex8.symm hax10.1 hax10.2 hbx52.1 hbx52.2 (C84.trans (by rw [ji452, hc1, ex50])) (T83.trans (by first | assumption | grind)) (fk_at fu82 (by decide))).2, fun q => absurd q (by decide)⟩, hu82, fu82, riu82, rau82, (tn_2 hrp (i := x5) (m := x8) (a := x10) (b := x52) (by lia) (by lia) ex8.symm hax10.1 hax10.2 hbx52.1 hbx52.2 (C84.trans (by rw [ji452, hc1, ex50])) (T83.trans (by first | assumption | grind)) (fk_at fu82 (by decide))).1⟩, ee_i (by subst eu82; subst ex79; subst ex78; subst ex76; subst ex66; subst ex64; subst ex63; subst eu60; subst ex59; subst ex58; subst eu55; subst ex52; subst ex50; subst ex48; exact hki45.trans ((if_pos c49).trans ((if_pos c67).trans (rfl))))⟩
        · refine g_aload_n dX7_turns1_52 rfl ?_
          refine f_X7_41 rfl rfl dX7_turns1_53 ?_
          refine g_iload_n dX7_turns1_56 rfl ?_
          refine g_aload_n dX7_turns1_57 rfl ?_
          refine f_X7_41 rfl rfl dX7_turns1_58 ?_
          refine g_iload_n dX7_turns1_61 rfl ?_
          refine g_iconst (v := 1) dX7_turns1_62 (by decide) ?_
          refine g_isub dX7_turns1_63 ?_
          refine g_topi (fun x85 ex85 => ?_)
          have v86 : vp_in x85 256 := uk_vin 256 rfl (by first | decide | lia | grind) (by first | decide | lia | grind)
          refine g_iald rfl rfl v86 dX7_turns1_64 ?_
          refine g_topi (fun x87 ex87 => ?_)
          have bx87 := uk_cl v86
          have rx87 : 0 ≤ x87 ∧ x87 ≤ 7 := by rw [ex87]; exact iv_at hu46 _ _ (uk_pick1 _ (by omega))
          have px87 : x87 = (u46.1 71) (x85 : Int32).toNatClampNeg := ex87.trans (congrFun C71_u46 _)
          have v88 : vp_in i45 256 := uk_vin 256 rfl (by first | decide | lia | grind) (by first | decide | lia | grind)
          have b89 := uk_cl v88
          refine g_iast rfl rfl v88 dX7_turns1_65 ?_
          refine g_mem (fun u90 eu90 => ?_)
          have hu90 : iv u90 := by rw [eu90]; exact iv_up hu46 (uk_pick1 _ (by omega)) (by first | lia | grind) (by first | lia | grind)
          have fu90 : fk [60, 62, 71] [3, 7, 10, 11, 13, 14, 15, 16, 17, 18, 19, 28] u u90 := by rw [eu90]; exact fk_up fu46 (by decide) (fun q => absurd q (by decide))
          have riu90 : ri u90 := by rw [eu90]; exact ri_1 riu46 (by decide) (fun q => absurd q (by decide))
          have rau90 : ra u90 := by rw [eu90]; exact ra_1 rau46 (by decide) (fun q => absurd q (by decide))
          have T91 : u90.1 60 22 = t47 := by rw [eu90]; exact (congrFun (uk_up_oc (by decide)) _).trans Tt47
          have C92 : u90.1 71 = (upd (u46.1 71) (i45 : Int32).toNatClampNeg x87) := by rw [eu90, uk_up_self, C71_u46]
          refine g_iinc (v := i45 - 1) dX7_turns1_66 rfl (uk_m1 _) (by decide) ?_
          refine g_pick (lv' := [(0, .ref (uk_ad G 60)), (1, .int x5), (2, .int x8), (3, .int (i45 - 1))]) [0, 1, 2, 3] rfl ?_
          refine g_goto (tgt := 45) dX7_turns1_69 (by decide) ?_
          refine g_pick (lv' := [(0, .ref (uk_ad G 60)), (1, .int x5), (2, .int x8), (3, .int (i45 - 1))]) [0, 1, 2, 3] rfl ?_
          exact ihi45 (by first | lia | grind)  u90 hu90 fu90 riu90 rau90 (by first | lia | grind) (by first | lia | grind) (by rw [C92, px87, ex85, uk_s1 (by lia), ji452]; exact sh_s (by have := uk_cge 1 1 rfl (show (1 : Int32) ≤ i45 by lia); exact this) (uk_cmo (by lia) ji450)) (T91.trans (by first | assumption | grind)) ⟨ki45, ee_Ds fki45 (by first | assumption | lia | grind), by subst eu90; subst ex87; subst ex85; subst ex48; exact hki45.trans ((if_neg c49).trans (rfl))⟩
      refine g_pick (lv' := [(0, .ref (uk_ad G 60)), (1, .int x5), (2, .int x8), (3, .int x43)]) [0, 1, 2, 3] rfl ?_
      exact L45_43 x43 (by first | decide | lia | grind)  u13 hu13 fu13 riu13 rau13 (by first | lia | grind) (by first | lia | grind) (C15.trans (by rw [show x43 = u.1 60 22 by first | assumption | grind]; exact (sh_0 _ _).symm)) (T14.trans (by first | assumption | grind)) ⟨ee_K, ee_D0 _, by subst ex43; subst ex19; subst eu13; subst ex10; subst ex8; subst ex5; exact (if_neg c6).trans ((if_neg c20).trans (rfl))⟩
  · refine g_iconst (v := 0) dX7_turns1_11 (by decide) ?_
    exact g_iret (ty := .boolean) dX7_turns1_12 rfl rfl ⟨⟨⟨0, rfl, Or.inl rfl, fun q => absurd rfl q, fun _ => by first | trivial | lia | grind⟩, hu, f0, hri, hra, hrp⟩, ee_i (by subst ex5; exact (if_pos c6).trans (rfl))⟩
def l_X7_mills_7 (n : Int32) : Nat → Int32 → uk_Mem → Int32 × uk_Mem
  | 0, _, u6 => (0, u6)
  | K9 + 1, i5, u6 => if n ≤ i5 then ((i5, u6)) else (let x11 : Int32 := (e_X7_turns1 u6).1; let u9 : uk_Mem := (e_X7_turns1 u6).2; if x11 = 0 then ((i5, u9)) else (l_X7_mills_7 n K9 (i5 + 1) u9))
def e_X7_mills (u : uk_Mem) (m : Int32) (n : Int32) : Int32 × uk_Mem := let u2 : uk_Mem := e_X7_lays u m; l_X7_mills_7 n ee_K (0 : Int32) u2
abbrev qe_X7_mills (u : uk_Mem) (m : Int32) (n : Int32) (r : Option Value) (u' : uk_Mem) : Prop := (q_X7_mills u m n r u') ∧ (r = some (.int (e_X7_mills u m n).1) ∧ u' = (e_X7_mills u m n).2)
set_option maxHeartbeats 4000000 in
set_option maxRecDepth 20000 in
theorem x_X7_mills {G : uk_D} (hs : uk_Sep G) {u : uk_Mem} (hu : iv u) (hri : ri u) (m : Int32) (n : Int32) (p0 : 0 ≤ m) (p1 : m < u.1 60 3) (p2 : m ≤ 7) (p3 : n ≤ 128) (d : Nat) : uk_Meth G (d + 2) mX7_mills [.ref (uk_ad G 60), .int m, .int n] u (qe_X7_mills u m n) := by
  refine uk_Meth.of hs (by decide) (Nat.le_of_ble_eq_true rfl) (fun X => ?_)
  have f0 : fk [60, 62, 71] [3, 7, 10, 11, 13, 14, 15, 16, 17, 18, 19, 28] u u := fk_rf
  refine g_iconst (v := 0) dX7_mills_0 (by decide) ?_
  refine g_istore_n dX7_mills_1 (by decide) ?_
  refine g_pick (lv' := [(0, .ref (uk_ad G 60)), (1, .int m), (2, .int n), (3, .int 0)]) [0, 1, 2, 3] rfl ?_
  refine g_aload_n dX7_mills_2 rfl ?_
  refine g_iload_n dX7_mills_3 rfl ?_
  refine cl_X7_213 (c := 60) (As := [.int m]) rfl (x_X7_lays (G := G) hs hu hri  m (by first | trivial | decide | lia | grind) (by first | trivial | decide | lia | grind) (by first | trivial | decide | lia | grind) (d)) rfl (by omega) rfl rfl (Nat.le_of_ble_eq_true rfl) dX7_mills_4 (fun r1 u2 q3 => ?_)
  obtain ⟨q3, Eq3⟩ := q3
  obtain ⟨rfl, mq3⟩ := q3
  obtain ⟨hu2, gu2, riu2, rau2, rpu2⟩ := mq3
  have fu2 : fk [60, 62, 71] [3, 7, 10, 11, 13, 14, 15, 16, 17, 18, 19, 28] u u2 := fk_tr f0 gu2 (by decide) (by decide)
  have wu2_60_3 : u2.1 60 3 = u.1 60 3 := fk_at gu2 (by decide)
  have eu2 : u2 = e_X7_lays u m := Eq3
  have L7_3 : ∀ i5 : Int32, 0 ≤ i5 → i5 ≤ 128 → ∀ (u6 : uk_Mem), iv u6 → fk [60, 62, 71] [3, 7, 10, 11, 13, 14, 15, 16, 17, 18, 19, 28] u u6 → ri u6 → ra u6 → rp u6 → (∃ ki5 : Nat, ee_F 128 i5 ki5 ∧ e_X7_mills u m n = l_X7_mills_7 n ki5 i5 u6) → uk_G G X mX7_mills (d + 2) (qe_X7_mills u m n) 7 [(0, .ref (uk_ad G 60)), (1, .int m), (2, .int n), (3, .int i5)] [] u6 := by
    refine uk_upl 128 ?_
    intro i5 ai5 bi5 ihi5  u6 hu6 fu6 riu6 rau6 rpu6 jEi5
    obtain ⟨ki5, fki5, hki5⟩ := jEi5
    obtain ⟨ki5, rfl⟩ := ee_Fp (by first | assumption | lia | grind) fki5
    have wu6_60_3 : u6.1 60 3 = u.1 60 3 := fk_at fu6 (by decide)
    refine g_iload_n dX7_mills_7 rfl ?_
    refine g_iload_n dX7_mills_8 rfl ?_
    refine g_icmp_ge (tgt := 25) dX7_mills_9 (by decide) (fun c7 => ?_) (fun c7 => ?_)
    · refine g_iload_n dX7_mills_25 rfl ?_
      exact g_iret (ty := .int) dX7_mills_26 rfl rfl ⟨⟨⟨_, rfl, by first | trivial | lia | grind⟩, hu6, fu6, riu6, rau6, rpu6⟩, ee_i (by exact hki5.trans ((if_pos c7).trans (rfl)))⟩
    · refine g_aload_n dX7_mills_12 rfl ?_
      refine cl_X7_216 (c := 60) (As := []) rfl (x_X7_turns1 (G := G) hs hu6 riu6 rau6 rpu6    (d)) rfl (by omega) rfl rfl (Nat.le_of_ble_eq_true rfl) dX7_mills_13 (fun r8 u9 q10 => ?_)
      obtain ⟨q10, Eq10⟩ := q10
      obtain ⟨⟨x11, rfl, tx11, nx11, zx11⟩, mq10⟩ := q10
      obtain ⟨hu9, gu9, riu9, rau9, rpu9⟩ := mq10
      have fu9 : fk [60, 62, 71] [3, 7, 10, 11, 13, 14, 15, 16, 17, 18, 19, 28] u u9 := fk_tr fu6 gu9 (by decide) (by decide)
      have wu9_60_3 : u9.1 60 3 = u6.1 60 3 := fk_at gu9 (by decide)
      have ex11 : x11 = (e_X7_turns1 u6).1 := ee_v Eq10.1
      have eu9 : u9 = (e_X7_turns1 u6).2 := Eq10.2
      refine g_if_eq (tgt := 25) dX7_mills_16 (by decide) (fun c12 => ?_) (fun c12 => ?_)
      · have zc12 := zx11 c12
        refine g_iload_n dX7_mills_25 rfl ?_
        exact g_iret (ty := .int) dX7_mills_26 rfl rfl ⟨⟨⟨_, rfl, by first | trivial | lia | grind⟩, hu9, fu9, riu9, rau9, rpu9⟩, ee_i (by subst eu9; subst ex11; exact hki5.trans ((if_neg c7).trans ((if_pos c12).trans (rfl))))⟩
      · have zc12 := nx11 c12
        refine g_iinc (v := i5 + 1) dX7_mills_19 rfl rfl (by decide) ?_
        refine g_pick (lv' := [(0, .ref (uk_ad G 60)), (1, .int m), (2, .int n), (3, .int (i5 + 1))]) [0, 1, 2, 3] rfl ?_
        refine g_goto (tgt := 7) dX7_mills_22 (by decide) ?_
        refine g_pick (lv' := [(0, .ref (uk_ad G 60)), (1, .int m), (2, .int n), (3, .int (i5 + 1))]) [0, 1, 2, 3] rfl ?_
        exact ihi5 (by first | lia | grind)  u9 hu9 fu9 riu9 rau9 rpu9  ⟨ki5, ee_Fs fki5 (by first | assumption | lia | grind), by subst eu9; subst ex11; exact hki5.trans ((if_neg c7).trans ((if_neg c12).trans (rfl)))⟩
  refine g_pick (lv' := [(0, .ref (uk_ad G 60)), (1, .int m), (2, .int n), (3, .int 0)]) [0, 1, 2, 3] rfl ?_
  exact L7_3 0 (by first | decide | lia | grind) (by first | decide | lia | grind)  u2 hu2 fu2 riu2 rau2 rpu2  ⟨ee_K, ee_F0 _ _, by subst eu2; exact rfl⟩
noncomputable def h_X7_mills (u : uk_Mem) (m : Int32) : Int32 × uk_Mem := Classical.choose (⟨_, rfl⟩ : ∃ p, p = e_X7_mills u m 128)
theorem h_X7_mills_eq (u : uk_Mem) (m : Int32) : h_X7_mills u m = e_X7_mills u m 128 := Classical.choose_spec (⟨_, rfl⟩ : ∃ p, p = e_X7_mills u m 128)
theorem x_X7_mills_h {G : uk_D} (hs : uk_Sep G) {u : uk_Mem} (hu : iv u) (hri : ri u) (m : Int32) (p0 : 0 ≤ m) (p1 : m < u.1 60 3) (p2 : m ≤ 7) (p3 : (128 : Int32) ≤ 128) (d : Nat) : uk_Meth G (d + 2) mX7_mills [.ref (uk_ad G 60), .int m, .int 128] u (fun r u' => q_X7_mills u m 128 r u' ∧ (r = some (.int (h_X7_mills u m).1) ∧ u' = (h_X7_mills u m).2)) := by
  rw [h_X7_mills_eq]
  exact x_X7_mills hs hu hri m 128 p0 p1 p2 p3 d

def l_X7_countIn_4 (u : uk_Mem) (b : Int32) : Nat → Int32 → Int32 → Int32
  | 0, _, _ => 0
  | K9 + 1, i3, w2 => let x4 : Int32 := u.1 60 22; if x4 ≤ i3 then (w2) else (let x8 : Int32 := u.1 71 i3.toNatClampNeg; if x8 = b then (let x18 : Int32 := (e_X7_flag u (1 : Int32)); let x19 : Int32 := w2 + x18; l_X7_countIn_4 u b K9 (i3 + 1) x19) else (let x13 : Int32 := (e_X7_flag u (0 : Int32)); let x14 : Int32 := w2 + x13; l_X7_countIn_4 u b K9 (i3 + 1) x14))
def e_X7_countIn (u : uk_Mem) (b : Int32) : Int32 := l_X7_countIn_4 u b ee_K (0 : Int32) (0 : Int32)
abbrev qe_X7_countIn (u : uk_Mem) (b : Int32) (r : Option Value) (u' : uk_Mem) : Prop := (q_X7_countIn u b r u') ∧ (r = some (.int (e_X7_countIn u b)))
set_option maxHeartbeats 4000000 in
set_option maxRecDepth 20000 in
theorem x_X7_countIn {G : uk_D} (hs : uk_Sep G) {u : uk_Mem} (hu : iv u) (b : Int32) (d : Nat) : uk_Meth G (d + 1) mX7_countIn [.ref (uk_ad G 60), .int b] u (qe_X7_countIn u b) := by
  refine uk_Meth.of hs (by decide) (Nat.le_of_ble_eq_true rfl) (fun X => ?_)
  refine g_iconst (v := 0) dX7_countIn_0 (by decide) ?_
  refine g_istore_n dX7_countIn_1 (by decide) ?_
  refine g_pick (lv' := [(0, .ref (uk_ad G 60)), (1, .int b), (2, .int 0)]) [0, 1, 2] rfl ?_
  refine g_iconst (v := 0) dX7_countIn_2 (by decide) ?_
  refine g_istore_n dX7_countIn_3 (by decide) ?_
  refine g_pick (lv' := [(0, .ref (uk_ad G 60)), (1, .int b), (2, .int 0), (3, .int 0)]) [0, 1, 2, 3] rfl ?_
  have L4_0 : ∀ i3 : Int32, 0 ≤ i3 → i3 ≤ 255 → ∀ (w2 : Int32), (∃ ki3 : Nat, ee_F 255 i3 ki3 ∧ e_X7_countIn u b = l_X7_countIn_4 u b ki3 i3 w2) → uk_G G X mX7_countIn (d + 1) (qe_X7_countIn u b) 4 [(0, .ref (uk_ad G 60)), (1, .int b), (2, .int w2), (3, .int i3)] [] u := by
    refine uk_upl 255 ?_
    intro i3 ai3 bi3 ihi3 w2 jEi3
    obtain ⟨ki3, fki3, hki3⟩ := jEi3
    obtain ⟨ki3, rfl⟩ := ee_Fp (by first | assumption | lia | grind) fki3
    refine g_iload_n dX7_countIn_4 rfl ?_
    refine g_aload_n dX7_countIn_5 rfl ?_
    refine f_X7_207 rfl rfl dX7_countIn_6 ?_
    refine g_topi (fun x4 ex4 => ?_)
    have rx4 : 0 ≤ x4 ∧ x4 ≤ 255 := by rw [ex4]; exact iv_at hu _ _ rfl
    have s5 : u.1 60 22 = x4 := ex4.symm
    refine g_icmp_ge (tgt := 39) dX7_countIn_9 (by decide) (fun c6 => ?_) (fun c6 => ?_)
    · refine g_iload_n dX7_countIn_39 rfl ?_
      exact g_iret (ty := .int) dX7_countIn_40 rfl rfl ⟨⟨⟨_, rfl, by first | trivial | lia | grind⟩, rfl⟩, ee_p (by subst ex4; exact hki3.trans ((if_pos c6).trans (rfl)))⟩
    · refine g_iload_n dX7_countIn_12 rfl ?_
      refine g_aload_n dX7_countIn_13 rfl ?_
      refine f_X7_41 rfl rfl dX7_countIn_14 ?_
      refine g_iload_n dX7_countIn_17 rfl ?_
      have v7 : vp_in i3 256 := uk_vin 256 rfl (by first | decide | lia | grind) (by first | decide | lia | grind)
      refine g_iald rfl rfl v7 dX7_countIn_18 ?_
      refine g_topi (fun x8 ex8 => ?_)
      have bx8 := uk_cl v7
      have rx8 : 0 ≤ x8 ∧ x8 ≤ 7 := by rw [ex8]; exact iv_at hu _ _ (uk_pick1 _ (by omega))
      refine g_iload_n dX7_countIn_19 rfl ?_
      refine g_icmp_ne (tgt := 27) dX7_countIn_20 (by decide) (fun c9 => ?_) (fun c9 => ?_)
      · refine g_iconst (v := 0) dX7_countIn_27 (by decide) ?_
        refine cl_X7_169 (As := [.int 0]) rfl (x_X7_flag (G := G) hs hu  0  (d)) rfl (by omega) rfl (Nat.le_of_ble_eq_true rfl) dX7_countIn_28 (fun r10 u11 q12 => ?_)
        obtain ⟨q12, Eq12⟩ := q12
        obtain ⟨⟨x13, rfl, tx13⟩, mq12⟩ := q12
        rw [mq12]
        have ex13 : x13 = (e_X7_flag u (0 : Int32)) := ee_v Eq12
        refine g_iadd dX7_countIn_31 ?_
        refine g_topi (fun x14 ex14 => ?_)
        refine g_istore_n dX7_countIn_32 (by decide) ?_
        refine g_pick (lv' := [(0, .ref (uk_ad G 60)), (1, .int b), (2, .int x14), (3, .int i3)]) [0, 1, 2, 3] rfl ?_
        refine g_iinc (v := i3 + 1) dX7_countIn_33 rfl rfl (by decide) ?_
        refine g_pick (lv' := [(0, .ref (uk_ad G 60)), (1, .int b), (2, .int x14), (3, .int (i3 + 1))]) [0, 1, 2, 3] rfl ?_
        refine g_goto (tgt := 4) dX7_countIn_36 (by decide) ?_
        refine g_pick (lv' := [(0, .ref (uk_ad G 60)), (1, .int b), (2, .int x14), (3, .int (i3 + 1))]) [0, 1, 2, 3] rfl ?_
        exact ihi3 (by first | lia | grind) x14  ⟨ki3, ee_Fs fki3 (by first | assumption | lia | grind), by subst ex14; subst ex13; subst ex8; subst ex4; exact hki3.trans ((if_neg c6).trans ((if_neg c9).trans (rfl)))⟩
      · refine g_iconst (v := 1) dX7_countIn_23 (by decide) ?_
        refine g_goto (tgt := 28) dX7_countIn_24 (by decide) ?_
        refine cl_X7_169 (As := [.int 1]) rfl (x_X7_flag (G := G) hs hu  1  (d)) rfl (by omega) rfl (Nat.le_of_ble_eq_true rfl) dX7_countIn_28 (fun r15 u16 q17 => ?_)
        obtain ⟨q17, Eq17⟩ := q17
        obtain ⟨⟨x18, rfl, tx18⟩, mq17⟩ := q17
        rw [mq17]
        have ex18 : x18 = (e_X7_flag u (1 : Int32)) := ee_v Eq17
        refine g_iadd dX7_countIn_31 ?_
        refine g_topi (fun x19 ex19 => ?_)
        refine g_istore_n dX7_countIn_32 (by decide) ?_
        refine g_pick (lv' := [(0, .ref (uk_ad G 60)), (1, .int b), (2, .int x19), (3, .int i3)]) [0, 1, 2, 3] rfl ?_
        refine g_iinc (v := i3 + 1) dX7_countIn_33 rfl rfl (by decide) ?_
        refine g_pick (lv' := [(0, .ref (uk_ad G 60)), (1, .int b), (2, .int x19), (3, .int (i3 + 1))]) [0, 1, 2, 3] rfl ?_
        refine g_goto (tgt := 4) dX7_countIn_36 (by decide) ?_
        refine g_pick (lv' := [(0, .ref (uk_ad G 60)), (1, .int b), (2, .int x19), (3, .int (i3 + 1))]) [0, 1, 2, 3] rfl ?_
        exact ihi3 (by first | lia | grind) x19  ⟨ki3, ee_Fs fki3 (by first | assumption | lia | grind), by subst ex19; subst ex18; subst ex8; subst ex4; exact hki3.trans ((if_neg c6).trans ((if_pos c9).trans (rfl)))⟩
  refine g_pick (lv' := [(0, .ref (uk_ad G 60)), (1, .int b), (2, .int 0), (3, .int 0)]) [0, 1, 2, 3] rfl ?_
  exact L4_0 0 (by first | decide | lia | grind) (by first | decide | lia | grind) 0  ⟨ee_K, ee_F0 _ _, by exact rfl⟩