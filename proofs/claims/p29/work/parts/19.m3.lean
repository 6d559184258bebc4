abbrev q_X7_starts (u : uk_Mem)  (r : Option Value) (u' : uk_Mem) : Prop := (r = none) ∧ (iv u' ∧ fk [62] [] u u' ∧ ra u' ∧ cpy (u'.1 62) (u.1 61) 51)
set_option maxHeartbeats 4000000 in
set_option maxRecDepth 20000 in
theorem c_X7_starts {G : uk_D} (hs : uk_Sep G) {u : uk_Mem} (hu : iv u) (hri : ri u)  (d : Nat) : uk_Meth G d mX7_starts [.ref (uk_ad G 60)] u (q_X7_starts u) := by
  refine uk_Meth.of hs (by decide) (Nat.le_of_ble_eq_true rfl) (fun X => ?_)
  have f0 : fk [62] [] u u := fk_rf
  refine g_iconst (v := 0) dX7_starts_0 (by decide) ?_
  refine g_istore_n dX7_starts_1 (by decide) ?_
  refine g_pick (lv' := [(0, .ref (uk_ad G 60)), (1, .int 0)]) [0, 1] rfl ?_
  have L2_0 : ∀ i2 : Int32, 0 ≤ i2 → i2 ≤ 51 → ∀ (u3 : uk_Mem), iv u3 → fk [62] [] u u3 → cpy (u3.1 62) (u.1 61) i2 → uk_G G X mX7_starts d (q_X7_starts u) 2 [(0, .ref (uk_ad G 60)), (1, .int i2)] [] u3 := by
    refine uk_upl 51 ?_
    intro i2 ai2 bi2 ihi2  u3 hu3 fu3 ji20
    have wu3_60_3 : u3.1 60 3 = u.1 60 3 := fk_at fu3 (by decide)
    refine g_iload_n dX7_starts_2 rfl ?_
    refine g_bipush (v := 51) dX7_starts_3 (by decide) ?_
    refine g_icmp_ge (tgt := 26) dX7_starts_5 (by decide) (fun c4 => ?_) (fun c4 => ?_)
    · exact g_vret dX7_starts_26 rfl ⟨rfl, hu3, fu3, (ra_of hri (fk_at fu3 (by decide)) (fk_c fu3 (by decide)) (fk_c fu3 (by decide)) (cpy_le ji20 (by lia))), (cpy_le ji20 (by lia))⟩
    · refine g_aload_n dX7_starts_8 rfl ?_
      refine f_X7_13 rfl rfl dX7_starts_9 ?_
      refine g_iload_n dX7_starts_12 rfl ?_
      refine g_aload_n dX7_starts_13 rfl ?_
      refine f_X7_7 rfl rfl dX7_starts_14 ?_
      refine g_iload_n dX7_starts_17 rfl ?_
      have v5 : vp_in i2 153 := uk_vin 153 rfl (by first | decide | lia | grind) (by first | decide | lia | grind)
      refine g_iald rfl rfl v5 dX7_starts_18 ?_
      refine g_topi (fun x6 ex6 => ?_)
      have bx6 := uk_cl v5
      have v7 : vp_in i2 51 := uk_vin 51 rfl (by first | decide | lia | grind) (by first | decide | lia | grind)
      have b8 := uk_cl v7
      refine g_iast rfl rfl v7 dX7_starts_19 ?_
      refine g_mem (fun u9 eu9 => ?_)
      have hu9 : iv u9 := by rw [eu9]; exact iv_cp hu3 hu3 (by unfold uk_is51; decide) (by unfold uk_is51; decide) (by omega) ex6
      have fu9 : fk [62] [] u u9 := by rw [eu9]; exact fk_up fu3 (by decide) (fun q => absurd q (by decide))
      refine g_iinc (v := i2 + 1) dX7_starts_20 rfl rfl (by decide) ?_
      refine g_pick (lv' := [(0, .ref (uk_ad G 60)), (1, .int (i2 + 1))]) [0, 1] rfl ?_
      refine g_goto (tgt := 2) dX7_starts_23 (by decide) ?_
      refine g_pick (lv' := [(0, .ref (uk_ad G 60)), (1, .int (i2 + 1))]) [0, 1] rfl ?_
      exact ihi2 (by first | lia | grind)  u9 hu9 fu9 (by rw [eu9, uk_up_self]; exact cpy_up ji20 (by lia) (ex6.trans (congrFun (fk_c fu3 (by decide)) _)))
  refine g_pick (lv' := [(0, .ref (uk_ad G 60)), (1, .int 0)]) [0, 1] rfl ?_
  exact L2_0 0 (by first | decide | lia | grind) (by first | decide | lia | grind)  u hu f0 cpy_0
abbrev q_X7_ends (u : uk_Mem)  (r : Option Value) (u' : uk_Mem) : Prop := (r = none) ∧ (iv u' ∧ fk [61] [] u u' ∧ ri u')