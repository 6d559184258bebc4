def e_X7_in (u : uk_Mem) (v lo hi : Int32) : Int32 := if lo ≤ v ∧ v ≤ hi then 1 else 0
abbrev qe_X7_in (u : uk_Mem) (v lo hi : Int32) (r : Option Value) (u' : uk_Mem) : Prop := (q_X7_in u v lo hi r u') ∧ (r = some (.int (e_X7_in u v lo hi)))
theorem x_X7_in {G : uk_D} (hs : uk_Sep G) {u : uk_Mem} (hu : iv u) (v lo hi : Int32) (d : Nat) : uk_Meth G d mX7_in [.long (Int32.toInt64 v), .long (Int32.toInt64 lo), .long (Int32.toInt64 hi)] u (qe_X7_in u v lo hi) := by
  refine uk_Meth.imp (c_X7_in hs hu v lo hi d) (fun r u' h => ⟨h, ?_⟩)
  obtain ⟨⟨x, rfl, t, n, z⟩, -⟩ := h
  unfold e_X7_in
  by_cases q : lo ≤ v ∧ v ≤ hi
  · rw [if_pos q]
    rcases t with rfl | rfl
    · exfalso
      have := z rfl
      grind
    · rfl
  · rw [if_neg q]
    rcases t with rfl | rfl
    · rfl
    · exact absurd (n (by decide)) q

def e_X7_flag (u : uk_Mem) (b : Int32) : Int32 := if b = 0 then ((0 : Int32)) else ((1 : Int32))
abbrev qe_X7_flag (u : uk_Mem) (b : Int32) (r : Option Value) (u' : uk_Mem) : Prop := (q_X7_flag u b r u') ∧ (r = some (.int (e_X7_flag u b)))
set_option maxHeartbeats 4000000 in
set_option maxRecDepth 20000 in
theorem x_X7_flag {G : uk_D} (hs : uk_Sep G) {u : uk_Mem} (hu : iv u) (b : Int32) (d : Nat) : uk_Meth G d mX7_flag [.int b] u (qe_X7_flag u b) := by
  refine uk_Meth.of hs (by decide) (Nat.le_of_ble_eq_true rfl) (fun X => ?_)
  refine g_iload_n dX7_flag_0 rfl ?_
  refine g_if_eq (tgt := 8) dX7_flag_1 (by decide) (fun c1 => ?_) (fun c1 => ?_)
  · refine g_iconst (v := 0) dX7_flag_8 (by decide) ?_
    exact g_iret (ty := .int) dX7_flag_9 rfl rfl ⟨⟨⟨_, rfl, by first | trivial | lia | grind⟩, rfl⟩, ee_p (by exact (if_pos c1).trans (rfl))⟩
  · refine g_iconst (v := 1) dX7_flag_4 (by decide) ?_
    refine g_goto (tgt := 9) dX7_flag_5 (by decide) ?_
    exact g_iret (ty := .int) dX7_flag_9 rfl rfl ⟨⟨⟨_, rfl, by first | trivial | lia | grind⟩, rfl⟩, ee_p (by exact (if_neg c1).trans (rfl))⟩
def l_X7_starts_2 : Nat → Int32 → uk_Mem → uk_Mem
  | 0, _, u3 => u3
  | K9 + 1, i2, u3 => if (51 : Int32) ≤ i2 then (u3) else (let x6 : Int32 := u3.1 61 i2.toNatClampNeg; let u9 : uk_Mem := uk_up u3 62 i2.toNatClampNeg x6; l_X7_starts_2  K9 (i2 + 1) u9)
def e_X7_starts (u : uk_Mem) : uk_Mem := l_X7_starts_2  ee_K (0 : Int32) u
abbrev qe_X7_starts (u : uk_Mem)  (r : Option Value) (u' : uk_Mem) : Prop := (q_X7_starts u r u') ∧ (u' = e_X7_starts u)
set_option maxHeartbeats 4000000 in
set_option maxRecDepth 20000 in
theorem x_X7_starts {G : uk_D} (hs : uk_Sep G) {u : uk_Mem} (hu : iv u) (hri : ri u)  (d : Nat) : uk_Meth G d mX7_starts [.ref (uk_ad G 60)] u (qe_X7_starts u) := by
  refine uk_Meth.of hs (by decide) (Nat.le_of_ble_eq_true rfl) (fun X => ?_)
  have f0 : fk [62] [] u u := fk_rf
  refine g_iconst (v := 0) dX7_starts_0 (by decide) ?_
  refine g_istore_n dX7_starts_1 (by decide) ?_
  refine g_pick (lv' := [(0, .ref (uk_ad G 60)), (1, .int 0)]) [0, 1] rfl ?_
  have L2_0 : ∀ i2 : Int32, 0 ≤ i2 → i2 ≤ 51 → ∀ (u3 : uk_Mem), iv u3 → fk [62] [] u u3 → cpy (u3.1 62) (u.1 61) i2 → (∃ ki2 : Nat, ee_F 51 i2 ki2 ∧ e_X7_starts u = l_X7_starts_2  ki2 i2 u3) → uk_G G X mX7_starts d (qe_X7_starts u) 2 [(0, .ref (uk_ad G 60)), (1, .int i2)] [] u3 := by
    refine uk_upl 51 ?_
    intro i2 ai2 bi2 ihi2  u3 hu3 fu3 ji20 jEi2
    obtain ⟨ki2, fki2, hki2⟩ := jEi2
    obtain ⟨ki2, rfl⟩ := ee_Fp (by first | assumption | lia | grind) fki2
    have wu3_60_3 : u3.1 60 3 = u.1 60 3 := fk_at fu3 (by decide)
    refine g_iload_n dX7_starts_2 rfl ?_
    refine g_bipush (v := 51) dX7_starts_3 (by decide) ?_
    refine g_icmp_ge (tgt := 26) dX7_starts_5 (by decide) (fun c4 => ?_) (fun c4 => ?_)
    · exact g_vret dX7_starts_26 rfl ⟨⟨rfl, hu3, fu3, (ra_of hri (fk_at fu3 (by decide)) (fk_c fu3 (by decide)) (fk_c fu3 (by decide)) (cpy_le ji20 (by lia))), (cpy_le ji20 (by lia))⟩, (by exact hki2.trans ((if_pos c4).trans (rfl)) : e_X7_starts u = u3).symm⟩
    · refine g_aload_n dX7_starts_8 rfl ?_
      refine f_X7_13 rfl rfl dX7_starts_9 ?_
      refine g_iload_n dX7_starts_12 rfl ?_
      refine g_aload_n dX7_starts_13 rfl ?_
      refine f_X7_7 rfl rfl dX7_starts_14 ?_
      refine g_iload_n dX7_starts_17 rfl ?_
      have v5 : vp_in i2 153 := uk_vin 153 rfl (by first | decide | lia | grind) (by first | decide | lia | grind)
      refine g_iald rfl rfl v5 dX7_starts_18 ?_
      refine g_topi (fun x6 ex6 => ?_)
      have bx6 := uk_cl v5
      have v7 : vp_in i2 51 := uk_vin 51 rfl (by first | decide | lia | grind) (by first | decide | lia | grind)
      have b8 := uk_cl v7
      refine g_iast rfl rfl v7 dX7_starts_19 ?_
      refine g_mem (fun u9 eu9 => ?_)
      have hu9 : iv u9 := by rw [eu9]; exact iv_cp hu3 hu3 (by unfold uk_is51; decide) (by unfold uk_is51; decide) (by omega) ex6
      have fu9 : fk [62] [] u u9 := by rw [eu9]; exact fk_up fu3 (by decide) (fun q => absurd q (by decide))
      refine g_iinc (v := i2 + 1) dX7_starts_20 rfl rfl (by decide) ?_
      refine g_pick (lv' := [(0, .ref (uk_ad G 60)), (1, .int (i2 + 1))]) [0, 1] rfl ?_
      refine g_goto (tgt := 2) dX7_starts_23 (by decide) ?_
      refine g_pick (lv' := [(0, .ref (uk_ad G 60)), (1, .int (i2 + 1))]) [0, 1] rfl ?_
      exact ihi2 (by first | lia | grind)  u9 hu9 fu9 (by rw [eu9, uk_up_self]; exact cpy_up ji20 (by lia) (ex6.trans (congrFun (fk_c fu3 (by decide)) _))) ⟨ki2, ee_Fs fki2 (by first | assumption | lia | grind), by subst eu9; subst ex6; exact hki2.trans ((if_neg c4).trans (rfl))⟩
  refine g_pick (lv' := [(0, .ref (uk_ad G 60)), (1, .int 0)]) [0, 1] rfl ?_
  exact L2_0 0 (by first | decide | lia | grind) (by first | decide | lia | grind)  u hu f0 cpy_0 ⟨ee_K, ee_F0 _ _, by exact rfl⟩
