def l_X7_ends_2 : Nat → Int32 → uk_Mem → uk_Mem
  | 0, _, u3 => u3
  | K9 + 1, i2, u3 => if (51 : Int32) ≤ i2 then (u3) else (let x6 : Int32 := u3.1 62 i2.toNatClampNeg; let u9 : uk_Mem := uk_up u3 61 i2.toNatClampNeg x6; l_X7_ends_2  K9 (i2 + 1) u9)
def e_X7_ends (u : uk_Mem) : uk_Mem := l_X7_ends_2  ee_K (0 : Int32) u
abbrev qe_X7_ends (u : uk_Mem)  (r : Option Value) (u' : uk_Mem) : Prop := (q_X7_ends u r u') ∧ (u' = e_X7_ends u)
set_option maxHeartbeats 4000000 in
set_option maxRecDepth 20000 in
theorem x_X7_ends {G : uk_D} (hs : uk_Sep G) {u : uk_Mem} (hu : iv u) (hri : ri u) (hra : ra u)  (d : Nat) : uk_Meth G d mX7_ends [.ref (uk_ad G 60)] u (qe_X7_ends u) := by
  refine uk_Meth.of hs (by decide) (Nat.le_of_ble_eq_true rfl) (fun X => ?_)
  have f0 : fk [61] [] u u := fk_rf
  refine g_iconst (v := 0) dX7_ends_0 (by decide) ?_
  refine g_istore_n dX7_ends_1 (by decide) ?_
  refine g_pick (lv' := [(0, .ref (uk_ad G 60)), (1, .int 0)]) [0, 1] rfl ?_
  have L2_0 : ∀ i2 : Int32, 0 ≤ i2 → i2 ≤ 51 → ∀ (u3 : uk_Mem), iv u3 → fk [61] [] u u3 → cpy (u3.1 61) (u.1 62) i2 → cpx (u3.1 61) (u.1 61) → (∃ ki2 : Nat, ee_F 51 i2 ki2 ∧ e_X7_ends u = l_X7_ends_2  ki2 i2 u3) → uk_G G X mX7_ends d (qe_X7_ends u) 2 [(0, .ref (uk_ad G 60)), (1, .int i2)] [] u3 := by
    refine uk_upl 51 ?_
    intro i2 ai2 bi2 ihi2  u3 hu3 fu3 ji20 ji21 jEi2
    obtain ⟨ki2, fki2, hki2⟩ := jEi2
    obtain ⟨ki2, rfl⟩ := ee_Fp (by first | assumption | lia | grind) fki2
    have wu3_60_3 : u3.1 60 3 = u.1 60 3 := fk_at fu3 (by decide)
    refine g_iload_n dX7_ends_2 rfl ?_
    refine g_bipush (v := 51) dX7_ends_3 (by decide) ?_
    refine g_icmp_ge (tgt := 26) dX7_ends_5 (by decide) (fun c4 => ?_) (fun c4 => ?_)
    · exact g_vret dX7_ends_26 rfl ⟨⟨rfl, hu3, fu3, (ri_of hri hra (fk_at fu3 (by decide)) (fk_c fu3 (by decide)) (fk_c fu3 (by decide)) (fk_c fu3 (by decide)) (cpy_le ji20 (by lia)) ji21)⟩, (by exact hki2.trans ((if_pos c4).trans (rfl)) : e_X7_ends u = u3).symm⟩
    · refine g_aload_n dX7_ends_8 rfl ?_
      refine f_X7_7 rfl rfl dX7_ends_9 ?_
      refine g_iload_n dX7_ends_12 rfl ?_
      refine g_aload_n dX7_ends_13 rfl ?_
      refine f_X7_13 rfl rfl dX7_ends_14 ?_
      refine g_iload_n dX7_ends_17 rfl ?_
      have v5 : vp_in i2 51 := uk_vin 51 rfl (by first | decide | lia | grind) (by first | decide | lia | grind)
      refine g_iald rfl rfl v5 dX7_ends_18 ?_
      refine g_topi (fun x6 ex6 => ?_)
      have bx6 := uk_cl v5
      have v7 : vp_in i2 153 := uk_vin 153 rfl (by first | decide | lia | grind) (by first | decide | lia | grind)
      have b8 := uk_cl v7
      refine g_iast rfl rfl v7 dX7_ends_19 ?_
      refine g_mem (fun u9 eu9 => ?_)
      have hu9 : iv u9 := by rw [eu9]; exact iv_cp hu3 hu3 (by unfold uk_is51; decide) (by unfold uk_is51; decide) (by omega) ex6
      have fu9 : fk [61] [] u u9 := by rw [eu9]; exact fk_up fu3 (by decide) (fun q => absurd q (by decide))
      refine g_iinc (v := i2 + 1) dX7_ends_20 rfl rfl (by decide) ?_
      refine g_pick (lv' := [(0, .ref (uk_ad G 60)), (1, .int (i2 + 1))]) [0, 1] rfl ?_
      refine g_goto (tgt := 2) dX7_ends_23 (by decide) ?_
      refine g_pick (lv' := [(0, .ref (uk_ad G 60)), (1, .int (i2 + 1))]) [0, 1] rfl ?_
      exact ihi2 (by first | lia | grind)  u9 hu9 fu9 (by rw [eu9, uk_up_self]; exact cpy_up ji20 (by lia) (ex6.trans (congrFun (fk_c fu3 (by decide)) _))) (by rw [eu9, uk_up_self]; exact cpx_up ji21 (by lia) (by lia)) ⟨ki2, ee_Fs fki2 (by first | assumption | lia | grind), by subst eu9; subst ex6; exact hki2.trans ((if_neg c4).trans (rfl))⟩
  refine g_pick (lv' := [(0, .ref (uk_ad G 60)), (1, .int 0)]) [0, 1] rfl ?_
  exact L2_0 0 (by first | decide | lia | grind) (by first | decide | lia | grind)  u hu f0 cpy_0 cpx_rf ⟨ee_K, ee_F0 _ _, by exact rfl⟩
def e_X7_isStuff (u : uk_Mem) (m : Int32) : Int32 := let x1 : Int32 := u.1 60 3; let x3 : Int32 := x1 - (1 : Int32); let x7 : Int32 := (e_X7_in u m (0 : Int32) x3); x7
abbrev qe_X7_isStuff (u : uk_Mem) (m : Int32) (r : Option Value) (u' : uk_Mem) : Prop := (q_X7_isStuff u m r u') ∧ (r = some (.int (e_X7_isStuff u m)))
