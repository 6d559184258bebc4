def l_X0_thereBits_4 (u : uk_Mem) (kb : Nat) : Nat → Int32 → Int32 → Int32
  | 0, _, _ => 0
  | K9 + 1, i3, w2 => let x4 : Int32 := u.1 kb 0; if x4 ≤ i3 then (w2) else (let x8 : Int32 := u.1 (kb + 6) i3.toNatClampNeg; if x8 ≤ 0 then (let x10 : Int32 := w2 ||| (0 : Int32); l_X0_thereBits_4 u kb K9 (i3 + 1) x10) else (let x11 : Int32 := (1 : Int32) <<< (i3 &&& 31); let x12 : Int32 := w2 ||| x11; l_X0_thereBits_4 u kb K9 (i3 + 1) x12))
def e_X0_thereBits (u : uk_Mem) (kb : Nat) : Int32 := l_X0_thereBits_4 u kb ee_K (0 : Int32) (0 : Int32)
abbrev qe_X0_thereBits (u : uk_Mem) (kb : Nat) (r : Option Value) (u' : uk_Mem) : Prop := (q_X0_thereBits u kb r u') ∧ (r = some (.int (e_X0_thereBits u kb)))
set_option maxHeartbeats 4000000 in
set_option maxRecDepth 20000 in
theorem x_X0_thereBits {G : uk_D} (hs : uk_Sep G) {u : uk_Mem} (hu : iv u) {kb : Nat} (hkb : uk_isK kb) (d : Nat) : uk_Meth G d mX0_thereBits [.ref (uk_ad G kb)] u (qe_X0_thereBits u kb) := by
  refine uk_Meth.of hs (by decide) (Nat.le_of_ble_eq_true rfl) (fun X => ?_)
  refine g_iconst (v := 0) dX0_thereBits_0 (by decide) ?_
  refine g_istore_n dX0_thereBits_1 (by decide) ?_
  refine g_pick (lv' := [(0, .ref (uk_ad G kb)), (1, .int 0)]) [0, 1] rfl ?_
  refine g_iconst (v := 0) dX0_thereBits_2 (by decide) ?_
  refine g_istore_n dX0_thereBits_3 (by decide) ?_
  refine g_pick (lv' := [(0, .ref (uk_ad G kb)), (1, .int 0), (2, .int 0)]) [0, 1, 2] rfl ?_
  have L4_0 : ∀ i3 : Int32, 0 ≤ i3 → i3 ≤ 8 → ∀ (w2 : Int32), (∃ ki3 : Nat, ee_F 8 i3 ki3 ∧ e_X0_thereBits u kb = l_X0_thereBits_4 u kb ki3 i3 w2) → uk_G G X mX0_thereBits d (qe_X0_thereBits u kb) 4 [(0, .ref (uk_ad G kb)), (1, .int w2), (2, .int i3)] [] u := by
    refine uk_upl 8 ?_
    intro i3 ai3 bi3 ihi3 w2 jEi3
    obtain ⟨ki3, fki3, hki3⟩ := jEi3
    obtain ⟨ki3, rfl⟩ := ee_Fp (by first | assumption | lia | grind) fki3
    refine g_iload_n dX0_thereBits_4 rfl ?_
    refine g_aload_n dX0_thereBits_5 rfl ?_
    refine f_X0_9 rfl (kk_0 hkb) dX0_thereBits_6 ?_
    refine g_topi (fun x4 ex4 => ?_)
    have rx4 : 0 ≤ x4 ∧ x4 ≤ 8 := by rw [ex4]; exact iv_at hu _ _ (kr_0 hkb)
    have s5 : u.1 kb 0 = x4 := ex4.symm
    refine g_icmp_ge (tgt := 37) dX0_thereBits_9 (by decide) (fun c6 => ?_) (fun c6 => ?_)
    · refine g_iload_n dX0_thereBits_37 rfl ?_
      exact g_iret (ty := .int) dX0_thereBits_38 rfl rfl ⟨⟨⟨_, rfl, by first | trivial | lia | grind⟩, rfl⟩, ee_p (by subst ex4; exact hki3.trans ((if_pos c6).trans (rfl)))⟩
    · refine g_iload_n dX0_thereBits_12 rfl ?_
      refine g_aload_n dX0_thereBits_13 rfl ?_
      refine f_X0_31 rfl (kk_0 hkb) dX0_thereBits_14 ?_
      refine g_iload_n dX0_thereBits_17 rfl ?_
      have v7 : vp_in i3 8 := uk_vin 8 rfl (by first | decide | lia | grind) (by first | decide | lia | grind)
      refine g_iald (kk_6 hkb) (kl_6 hkb) v7 dX0_thereBits_18 ?_
      refine g_topi (fun x8 ex8 => ?_)
      refine g_if_le (tgt := 28) dX0_thereBits_19 (by decide) (fun c9 => ?_) (fun c9 => ?_)
      · refine g_iconst (v := 0) dX0_thereBits_28 (by decide) ?_
        refine g_ior dX0_thereBits_29 ?_
        refine g_topi (fun x10 ex10 => ?_)
        refine g_istore_n dX0_thereBits_30 (by decide) ?_
        refine g_pick (lv' := [(0, .ref (uk_ad G kb)), (1, .int x10), (2, .int i3)]) [0, 1, 2] rfl ?_
        refine g_iinc (v := i3 + 1) dX0_thereBits_31 rfl rfl (by decide) ?_
        refine g_pick (lv' := [(0, .ref (uk_ad G kb)), (1, .int x10), (2, .int (i3 + 1))]) [0, 1, 2] rfl ?_
        refine g_goto (tgt := 4) dX0_thereBits_34 (by decide) ?_
        refine g_pick (lv' := [(0, .ref (uk_ad G kb)), (1, .int x10), (2, .int (i3 + 1))]) [0, 1, 2] rfl ?_
        exact ihi3 (by first | lia | grind) x10  ⟨ki3, ee_Fs fki3 (by first | assumption | lia | grind), by subst ex10; subst ex8; subst ex4; exact hki3.trans ((if_neg c6).trans ((if_pos c9).trans (rfl)))⟩
      · refine g_iconst (v := 1) dX0_thereBits_22 (by decide) ?_
        refine g_iload_n dX0_thereBits_23 rfl ?_
        refine g_ishl dX0_thereBits_24 (fun x11 ex11 => ?_)
        refine g_goto (tgt := 29) dX0_thereBits_25 (by decide) ?_
        refine g_ior dX0_thereBits_29 ?_
        refine g_topi (fun x12 ex12 => ?_)
        refine g_istore_n dX0_thereBits_30 (by decide) ?_
        refine g_pick (lv' := [(0, .ref (uk_ad G kb)), (1, .int x12), (2, .int i3)]) [0, 1, 2] rfl ?_
        refine g_iinc (v := i3 + 1) dX0_thereBits_31 rfl rfl (by decide) ?_
        refine g_pick (lv' := [(0, .ref (uk_ad G kb)), (1, .int x12), (2, .int (i3 + 1))]) [0, 1, 2] rfl ?_
        refine g_goto (tgt := 4) dX0_thereBits_34 (by decide) ?_
        refine g_pick (lv' := [(0, .ref (uk_ad G kb)), (1, .int x12), (2, .int (i3 + 1))]) [0, 1, 2] rfl ?_
        exact ihi3 (by first | lia | grind) x12  ⟨ki3, ee_Fs fki3 (by first | assumption | lia | grind), by subst ex12; subst ex11; subst ex8; subst ex4; exact hki3.trans ((if_neg c6).trans ((if_neg c9).trans (rfl)))⟩
  refine g_pick (lv' := [(0, .ref (uk_ad G kb)), (1, .int 0), (2, .int 0)]) [0, 1, 2] rfl ?_
  exact L4_0 0 (by first | decide | lia | grind) (by first | decide | lia | grind) 0  ⟨ee_K, ee_F0 _ _, by exact rfl⟩
def l_X0_things_4 (u : uk_Mem) (kb : Nat) : Nat → Int32 → Int32 → Int32
  | 0, _, _ => 0
  | K9 + 1, i3, w2 => let x4 : Int32 := u.1 kb 0; if x4 ≤ i3 then (w2) else (let x8 : Int32 := u.1 (kb + 6) i3.toNatClampNeg; let x9 : Int32 := w2 + x8; l_X0_things_4 u kb K9 (i3 + 1) x9)
def e_X0_things (u : uk_Mem) (kb : Nat) : Int32 := l_X0_things_4 u kb ee_K (0 : Int32) (0 : Int32)
abbrev qe_X0_things (u : uk_Mem) (kb : Nat) (r : Option Value) (u' : uk_Mem) : Prop := (q_X0_things u kb r u') ∧ (r = some (.int (e_X0_things u kb)))
set_option maxHeartbeats 4000000 in
set_option maxRecDepth 20000 in
theorem x_X0_things {G : uk_D} (hs : uk_Sep G) {u : uk_Mem} (hu : iv u) {kb : Nat} (hkb : uk_isK kb) (d : Nat) : uk_Meth G d mX0_things [.ref (uk_ad G kb)] u (qe_X0_things u kb) := by
  refine uk_Meth.of hs (by decide) (Nat.le_of_ble_eq_true rfl) (fun X => ?_)
  refine g_iconst (v := 0) dX0_things_0 (by decide) ?_
  refine g_istore_n dX0_things_1 (by decide) ?_
  refine g_pick (lv' := [(0, .ref (uk_ad G kb)), (1, .int 0)]) [0, 1] rfl ?_
  refine g_iconst (v := 0) dX0_things_2 (by decide) ?_
  refine g_istore_n dX0_things_3 (by decide) ?_
  refine g_pick (lv' := [(0, .ref (uk_ad G kb)), (1, .int 0), (2, .int 0)]) [0, 1, 2] rfl ?_
  have L4_0 : ∀ i3 : Int32, 0 ≤ i3 → i3 ≤ 8 → ∀ (w2 : Int32), (∃ ki3 : Nat, ee_F 8 i3 ki3 ∧ e_X0_things u kb = l_X0_things_4 u kb ki3 i3 w2) → uk_G G X mX0_things d (qe_X0_things u kb) 4 [(0, .ref (uk_ad G kb)), (1, .int w2), (2, .int i3)] [] u := by
    refine uk_upl 8 ?_
    intro i3 ai3 bi3 ihi3 w2 jEi3
    obtain ⟨ki3, fki3, hki3⟩ := jEi3
    obtain ⟨ki3, rfl⟩ := ee_Fp (by first | assumption | lia | grind) fki3
    refine g_iload_n dX0_things_4 rfl ?_
    refine g_aload_n dX0_things_5 rfl ?_
    refine f_X0_9 rfl (kk_0 hkb) dX0_things_6 ?_
    refine g_topi (fun x4 ex4 => ?_)
    have rx4 : 0 ≤ x4 ∧ x4 ≤ 8 := by rw [ex4]; exact iv_at hu _ _ (kr_0 hkb)
    have s5 : u.1 kb 0 = x4 := ex4.symm
    refine g_icmp_ge (tgt := 27) dX0_things_9 (by decide) (fun c6 => ?_) (fun c6 => ?_)
    · refine g_iload_n dX0_things_27 rfl ?_
      exact g_iret (ty := .int) dX0_things_28 rfl rfl ⟨⟨⟨_, rfl, by first | trivial | lia | grind⟩, rfl⟩, ee_p (by subst ex4; exact hki3.trans ((if_pos c6).trans (rfl)))⟩
    · refine g_iload_n dX0_things_12 rfl ?_
      refine g_aload_n dX0_things_13 rfl ?_
      refine f_X0_31 rfl (kk_0 hkb) dX0_things_14 ?_
      refine g_iload_n dX0_things_17 rfl ?_
      have v7 : vp_in i3 8 := uk_vin 8 rfl (by first | decide | lia | grind) (by first | decide | lia | grind)
      refine g_iald (kk_6 hkb) (kl_6 hkb) v7 dX0_things_18 ?_
      refine g_topi (fun x8 ex8 => ?_)
      refine g_iadd dX0_things_19 ?_
      refine g_topi (fun x9 ex9 => ?_)
      refine g_istore_n dX0_things_20 (by decide) ?_
      refine g_pick (lv' := [(0, .ref (uk_ad G kb)), (1, .int x9), (2, .int i3)]) [0, 1, 2] rfl ?_
      refine g_iinc (v := i3 + 1) dX0_things_21 rfl rfl (by decide) ?_
      refine g_pick (lv' := [(0, .ref (uk_ad G kb)), (1, .int x9), (2, .int (i3 + 1))]) [0, 1, 2] rfl ?_
      refine g_goto (tgt := 4) dX0_things_24 (by decide) ?_
      refine g_pick (lv' := [(0, .ref (uk_ad G kb)), (1, .int x9), (2, .int (i3 + 1))]) [0, 1, 2] rfl ?_
      exact ihi3 (by first | lia | grind) x9  ⟨ki3, ee_Fs fki3 (by first | assumption | lia | grind), by subst ex9; subst ex8; subst ex4; exact hki3.trans ((if_neg c6).trans (rfl))⟩
  refine g_pick (lv' := [(0, .ref (uk_ad G kb)), (1, .int 0), (2, .int 0)]) [0, 1, 2] rfl ?_
  exact L4_0 0 (by first | decide | lia | grind) (by first | decide | lia | grind) 0  ⟨ee_K, ee_F0 _ _, by exact rfl⟩
def l_X0_allFeeds_4 (u : uk_Mem) (kb : Nat) : Nat → Int32 → Int32 → Int32
  | 0, _, _ => 0
  | K9 + 1, i3, w2 => let x4 : Int32 := u.1 kb 0; if x4 ≤ i3 then (w2) else (let x8 : Int32 := u.1 (kb + 6) i3.toNatClampNeg; let x10 : Int32 := u.1 (kb + 4) i3.toNatClampNeg; let x11 : Int32 := x8 * x10; let x12 : Int32 := w2 + x11; l_X0_allFeeds_4 u kb K9 (i3 + 1) x12)
def e_X0_allFeeds (u : uk_Mem) (kb : Nat) : Int32 := l_X0_allFeeds_4 u kb ee_K (0 : Int32) (0 : Int32)
abbrev qe_X0_allFeeds (u : uk_Mem) (kb : Nat) (r : Option Value) (u' : uk_Mem) : Prop := (q_X0_allFeeds u kb r u') ∧ (r = some (.int (e_X0_allFeeds u kb)))
set_option maxHeartbeats 4000000 in
set_option maxRecDepth 20000 in
theorem x_X0_allFeeds {G : uk_D} (hs : uk_Sep G) {u : uk_Mem} (hu : iv u) {kb : Nat} (hkb : uk_isK kb) (d : Nat) : uk_Meth G d mX0_allFeeds [.ref (uk_ad G kb)] u (qe_X0_allFeeds u kb) := by
  refine uk_Meth.of hs (by decide) (Nat.le_of_ble_eq_true rfl) (fun X => ?_)
  refine g_iconst (v := 0) dX0_allFeeds_0 (by decide) ?_
  refine g_istore_n dX0_allFeeds_1 (by decide) ?_
  refine g_pick (lv' := [(0, .ref (uk_ad G kb)), (1, .int 0)]) [0, 1] rfl ?_
  refine g_iconst (v := 0) dX0_allFeeds_2 (by decide) ?_
  refine g_istore_n dX0_allFeeds_3 (by decide) ?_
  refine g_pick (lv' := [(0, .ref (uk_ad G kb)), (1, .int 0), (2, .int 0)]) [0, 1, 2] rfl ?_
  have L4_0 : ∀ i3 : Int32, 0 ≤ i3 → i3 ≤ 8 → ∀ (w2 : Int32), (∃ ki3 : Nat, ee_F 8 i3 ki3 ∧ e_X0_allFeeds u kb = l_X0_allFeeds_4 u kb ki3 i3 w2) → uk_G G X mX0_allFeeds d (qe_X0_allFeeds u kb) 4 [(0, .ref (uk_ad G kb)), (1, .int w2), (2, .int i3)] [] u := by
    refine uk_upl 8 ?_
    intro i3 ai3 bi3 ihi3 w2 jEi3
    obtain ⟨ki3, fki3, hki3⟩ := jEi3
    obtain ⟨ki3, rfl⟩ := ee_Fp (by first | assumption | lia | grind) fki3
    refine g_iload_n dX0_allFeeds_4 rfl ?_
    refine g_aload_n dX0_allFeeds_5 rfl ?_
    refine f_X0_9 rfl (kk_0 hkb) dX0_allFeeds_6 ?_
    refine g_topi (fun x4 ex4 => ?_)
    have rx4 : 0 ≤ x4 ∧ x4 ≤ 8 := by rw [ex4]; exact iv_at hu _ _ (kr_0 hkb)
    have s5 : u.1 kb 0 = x4 := ex4.symm
    refine g_icmp_ge (tgt := 34) dX0_allFeeds_9 (by decide) (fun c6 => ?_) (fun c6 => ?_)
    · refine g_iload_n dX0_allFeeds_34 rfl ?_
      exact g_iret (ty := .int) dX0_allFeeds_35 rfl rfl ⟨⟨⟨_, rfl, by first | trivial | lia | grind⟩, rfl⟩, ee_p (by subst ex4; exact hki3.trans ((if_pos c6).trans (rfl)))⟩
    · refine g_iload_n dX0_allFeeds_12 rfl ?_
      refine g_aload_n dX0_allFeeds_13 rfl ?_
      refine f_X0_31 rfl (kk_0 hkb) dX0_allFeeds_14 ?_
      refine g_iload_n dX0_allFeeds_17 rfl ?_
      have v7 : vp_in i3 8 := uk_vin 8 rfl (by first | decide | lia | grind) (by first | decide | lia | grind)
      refine g_iald (kk_6 hkb) (kl_6 hkb) v7 dX0_allFeeds_18 ?_
      refine g_topi (fun x8 ex8 => ?_)
      refine g_aload_n dX0_allFeeds_19 rfl ?_
      refine f_X0_25 rfl (kk_0 hkb) dX0_allFeeds_20 ?_
      refine g_iload_n dX0_allFeeds_23 rfl ?_
      have v9 : vp_in i3 8 := uk_vin 8 rfl (by first | decide | lia | grind) (by first | decide | lia | grind)
      refine g_iald (kk_4 hkb) (kl_4 hkb) v9 dX0_allFeeds_24 ?_
      refine g_topi (fun x10 ex10 => ?_)
      refine g_imul dX0_allFeeds_25 ?_
      refine g_topi (fun x11 ex11 => ?_)
      refine g_iadd dX0_allFeeds_26 ?_
      refine g_topi (fun x12 ex12 => ?_)
      refine g_istore_n dX0_allFeeds_27 (by decide) ?_
      refine g_pick (lv' := [(0, .ref (uk_ad G kb)), (1, .int x12), (2, .int i3)]) [0, 1, 2] rfl ?_
      refine g_iinc (v := i3 + 1) dX0_allFeeds_28 rfl rfl (by decide) ?_
      refine g_pick (lv' := [(0, .ref (uk_ad G kb)), (1, .int x12), (2, .int (i3 + 1))]) [0, 1, 2] rfl ?_
      refine g_goto (tgt := 4) dX0_allFeeds_31 (by decide) ?_
      refine g_pick (lv' := [(0, .ref (uk_ad G kb)), (1, .int x12), (2, .int (i3 + 1))]) [0, 1, 2] rfl ?_
      exact ihi3 (by first | lia | grind) x12  ⟨ki3, ee_Fs fki3 (by first | assumption | lia | grind), by subst ex12; subst ex11; subst ex10; subst ex8; subst ex4; exact hki3.trans ((if_neg c6).trans (rfl))⟩
  refine g_pick (lv' := [(0, .ref (uk_ad G kb)), (1, .int 0), (2, .int 0)]) [0, 1, 2] rfl ?_
  exact L4_0 0 (by first | decide | lia | grind) (by first | decide | lia | grind) 0  ⟨ee_K, ee_F0 _ _, by exact rfl⟩
def e_X0_flipHalf (u : uk_Mem) (kb : Nat) (m : Int32) : uk_Mem := let x2 : Int32 := u.1 (kb + 1) m.toNatClampNeg; if x2 = (3 : Int32) then (let x5 : Int32 := u.1 (kb + 7) m.toNatClampNeg; let x6 : Int32 := (1 : Int32) - x5; let u9 : uk_Mem := uk_up u (kb + 7) m.toNatClampNeg x6; u9) else (u)
abbrev qe_X0_flipHalf (u : uk_Mem) (kb : Nat) (m : Int32) (r : Option Value) (u' : uk_Mem) : Prop := (q_X0_flipHalf u kb m r u') ∧ (u' = e_X0_flipHalf u kb m)
set_option maxHeartbeats 4000000 in
set_option maxRecDepth 20000 in
theorem x_X0_flipHalf {G : uk_D} (hs : uk_Sep G) {u : uk_Mem} (hu : iv u) {kb : Nat} (hkb : uk_isK kb) (m : Int32) (p0 : 0 ≤ m) (p1 : m ≤ 7) (d : Nat) : uk_Meth G d mX0_flipHalf [.ref (uk_ad G kb), .int m] u (qe_X0_flipHalf u kb m) := by
  refine uk_Meth.of hs (by decide) (Nat.le_of_ble_eq_true rfl) (fun X => ?_)
  have f0 : fr kb (kb + 9) u u := fr_rf
  refine g_aload_n dX0_flipHalf_0 rfl ?_
  refine f_X0_15 rfl (kk_0 hkb) dX0_flipHalf_1 ?_
  refine g_iload_n dX0_flipHalf_4 rfl ?_
  have v1 : vp_in m 8 := uk_vin 8 rfl (by first | decide | lia | grind) (by first | decide | lia | grind)
  refine g_iald (kk_1 hkb) (kl_1 hkb) v1 dX0_flipHalf_5 ?_
  refine g_topi (fun x2 ex2 => ?_)
  refine g_iconst (v := 3) dX0_flipHalf_6 (by decide) ?_
  refine g_icmp_ne (tgt := 24) dX0_flipHalf_7 (by decide) (fun c3 => ?_) (fun c3 => ?_)
  · exact g_vret dX0_flipHalf_24 rfl ⟨⟨rfl, hu, f0⟩, (by subst ex2; exact (if_neg c3).trans (rfl) : e_X0_flipHalf u kb m = u).symm⟩
  · refine g_aload_n dX0_flipHalf_10 rfl ?_
    refine f_X0_34 rfl (kk_0 hkb) dX0_flipHalf_11 ?_
    refine g_iload_n dX0_flipHalf_14 rfl ?_
    refine g_iconst (v := 1) dX0_flipHalf_15 (by decide) ?_
    refine g_aload_n dX0_flipHalf_16 rfl ?_
    refine f_X0_34 rfl (kk_0 hkb) dX0_flipHalf_17 ?_
    refine g_iload_n dX0_flipHalf_20 rfl ?_
    have v4 : vp_in m 8 := uk_vin 8 rfl (by first | decide | lia | grind) (by first | decide | lia | grind)
    refine g_iald (kk_7 hkb) (kl_7 hkb) v4 dX0_flipHalf_21 ?_
    refine g_topi (fun x5 ex5 => ?_)
    refine g_isub dX0_flipHalf_22 ?_
    refine g_topi (fun x6 ex6 => ?_)
    have v7 : vp_in m 8 := uk_vin 8 rfl (by first | decide | lia | grind) (by first | decide | lia | grind)
    have b8 := uk_cl v7
    refine g_iast (kk_7 hkb) (kl_7 hkb) v7 dX0_flipHalf_23 ?_
    refine g_mem (fun u9 eu9 => ?_)
    have hu9 : iv u9 := by rw [eu9]; exact iv_upF hu (ka_7 hkb _ (by omega))
    have fu9 : fr kb (kb + 9) u u9 := by rw [eu9]; exact fr_up f0 (by omega) (by omega)
    exact g_vret dX0_flipHalf_24 rfl ⟨⟨rfl, hu9, fu9⟩, (by subst eu9; subst ex6; subst ex5; subst ex2; exact (if_pos c3).trans (rfl) : e_X0_flipHalf u kb m = u9).symm⟩
def e_X0_moveCooked (u : uk_Mem) (kb : Nat) (m : Int32) (t : Int32) : uk_Mem := let x2 : Int32 := u.1 (kb + 2) m.toNatClampNeg; let x4 : Int32 := u.1 (kb + 6) x2.toNatClampNeg; let x5 : Int32 := x4 - t; let u8 : uk_Mem := uk_up u (kb + 6) x2.toNatClampNeg x5; let x10 : Int32 := u8.1 (kb + 3) m.toNatClampNeg; let x12 : Int32 := u8.1 (kb + 6) x10.toNatClampNeg; let x13 : Int32 := x12 - t; let u16 : uk_Mem := uk_up u8 (kb + 6) x10.toNatClampNeg x13; let x18 : Int32 := u16.1 (kb + 6) m.toNatClampNeg; let x19 : Int32 := x18 + t; let u22 : uk_Mem := uk_up u16 (kb + 6) m.toNatClampNeg x19; u22
abbrev qe_X0_moveCooked (u : uk_Mem) (kb : Nat) (m : Int32) (t : Int32) (r : Option Value) (u' : uk_Mem) : Prop := (q_X0_moveCooked u kb m t r u') ∧ (u' = e_X0_moveCooked u kb m t)
set_option maxHeartbeats 4000000 in
set_option maxRecDepth 20000 in
theorem x_X0_moveCooked {G : uk_D} (hs : uk_Sep G) {u : uk_Mem} (hu : iv u) {kb : Nat} (hkb : uk_isK kb) (m : Int32) (t : Int32) (p0 : 0 ≤ m) (p1 : m ≤ 7) (d : Nat) : uk_Meth G d mX0_moveCooked [.ref (uk_ad G kb), .int m, .int t] u (qe_X0_moveCooked u kb m t) := by
  refine uk_Meth.of hs (by decide) (Nat.le_of_ble_eq_true rfl) (fun X => ?_)
  have f0 : fr kb (kb + 9) u u := fr_rf
  refine g_aload_n dX0_moveCooked_0 rfl ?_
  refine f_X0_31 rfl (kk_0 hkb) dX0_moveCooked_1 ?_
  refine g_aload_n dX0_moveCooked_4 rfl ?_
  refine f_X0_19 rfl (kk_0 hkb) dX0_moveCooked_5 ?_
  refine g_iload_n dX0_moveCooked_8 rfl ?_
  have v1 : vp_in m 8 := uk_vin 8 rfl (by first | decide | lia | grind) (by first | decide | lia | grind)
  refine g_iald (kk_2 hkb) (kl_2 hkb) v1 dX0_moveCooked_9 ?_
  refine g_topi (fun x2 ex2 => ?_)
  have bx2 := uk_cl v1
  have rx2 : 0 ≤ x2 ∧ x2 ≤ 7 := by rw [ex2]; exact iv_at hu _ _ (ka_2 hkb _ (by omega))
  refine g_dup2 dX0_moveCooked_10 rfl rfl ?_
  have v3 : vp_in x2 8 := uk_vin 8 rfl (by first | decide | lia | grind) (by first | decide | lia | grind)
  refine g_iald (kk_6 hkb) (kl_6 hkb) v3 dX0_moveCooked_11 ?_
  refine g_topi (fun x4 ex4 => ?_)
  refine g_iload_n dX0_moveCooked_12 rfl ?_
  refine g_isub dX0_moveCooked_13 ?_
  refine g_topi (fun x5 ex5 => ?_)
  have v6 : vp_in x2 8 := uk_vin 8 rfl (by first | decide | lia | grind) (by first | decide | lia | grind)
  have b7 := uk_cl v6
  refine g_iast (kk_6 hkb) (kl_6 hkb) v6 dX0_moveCooked_14 ?_
  refine g_mem (fun u8 eu8 => ?_)
  have hu8 : iv u8 := by rw [eu8]; exact iv_upF hu (ka_6 hkb _ (by omega))
  have fu8 : fr kb (kb + 9) u u8 := by rw [eu8]; exact fr_up f0 (by omega) (by omega)
  refine g_aload_n dX0_moveCooked_15 rfl ?_
  refine f_X0_31 rfl (kk_0 hkb) dX0_moveCooked_16 ?_
  refine g_aload_n dX0_moveCooked_19 rfl ?_
  refine f_X0_22 rfl (kk_0 hkb) dX0_moveCooked_20 ?_
  refine g_iload_n dX0_moveCooked_23 rfl ?_
  have v9 : vp_in m 8 := uk_vin 8 rfl (by first | decide | lia | grind) (by first | decide | lia | grind)
  refine g_iald (kk_3 hkb) (kl_3 hkb) v9 dX0_moveCooked_24 ?_
  refine g_topi (fun x10 ex10 => ?_)
  have bx10 := uk_cl v9
  have rx10 : 0 ≤ x10 ∧ x10 ≤ 7 := by rw [ex10]; exact iv_at hu8 _ _ (ka_3 hkb _ (by omega))
  refine g_dup2 dX0_moveCooked_25 rfl rfl ?_
  have v11 : vp_in x10 8 := uk_vin 8 rfl (by first | decide | lia | grind) (by first | decide | lia | grind)
  refine g_iald (kk_6 hkb) (kl_6 hkb) v11 dX0_moveCooked_26 ?_
  refine g_topi (fun x12 ex12 => ?_)
  refine g_iload_n dX0_moveCooked_27 rfl ?_
  refine g_isub dX0_moveCooked_28 ?_
  refine g_topi (fun x13 ex13 => ?_)
  have v14 : vp_in x10 8 := uk_vin 8 rfl (by first | decide | lia | grind) (by first | decide | lia | grind)
  have b15 := uk_cl v14
  refine g_iast (kk_6 hkb) (kl_6 hkb) v14 dX0_moveCooked_29 ?_
  refine g_mem (fun u16 eu16 => ?_)
  have hu16 : iv u16 := by rw [eu16]; exact iv_upF hu8 (ka_6 hkb _ (by omega))
  have fu16 : fr kb (kb + 9) u u16 := by rw [eu16]; exact fr_up fu8 (by omega) (by omega)
  refine g_aload_n dX0_moveCooked_30 rfl ?_
  refine f_X0_31 rfl (kk_0 hkb) dX0_moveCooked_31 ?_
  refine g_iload_n dX0_moveCooked_34 rfl ?_
  refine g_dup2 dX0_moveCooked_35 rfl rfl ?_
  have v17 : vp_in m 8 := uk_vin 8 rfl (by first | decide | lia | grind) (by first | decide | lia | grind)
  refine g_iald (kk_6 hkb) (kl_6 hkb) v17 dX0_moveCooked_36 ?_
  refine g_topi (fun x18 ex18 => ?_)
  refine g_iload_n dX0_moveCooked_37 rfl ?_
  refine g_iadd dX0_moveCooked_38 ?_
  refine g_topi (fun x19 ex19 => ?_)
  have v20 : vp_in m 8 := uk_vin 8 rfl (by first | decide | lia | grind) (by first | decide | lia | grind)
  have b21 := uk_cl v20
  refine g_iast (kk_6 hkb) (kl_6 hkb) v20 dX0_moveCooked_39 ?_
  refine g_mem (fun u22 eu22 => ?_)
  have hu22 : iv u22 := by rw [eu22]; exact iv_upF hu16 (ka_6 hkb _ (by omega))
  have fu22 : fr kb (kb + 9) u u22 := by rw [eu22]; exact fr_up fu16 (by omega) (by omega)
  exact g_vret dX0_moveCooked_40 rfl ⟨⟨rfl, hu22, fu22⟩, (by subst eu22; subst ex19; subst ex18; subst eu16; subst ex13; subst ex12; subst ex10; subst eu8; subst ex5; subst ex4; subst ex2; exact rfl : e_X0_moveCooked u kb m t = u22).symm⟩
def e_X0_moveTurned (u : uk_Mem) (kb : Nat) (m : Int32) (t : Int32) : uk_Mem := let x2 : Int32 := u.1 (kb + 6) m.toNatClampNeg; let x3 : Int32 := x2 - t; let u6 : uk_Mem := uk_up u (kb + 6) m.toNatClampNeg x3; let x8 : Int32 := u6.1 (kb + 2) m.toNatClampNeg; let x10 : Int32 := u6.1 (kb + 6) x8.toNatClampNeg; let x11 : Int32 := x10 + t; let u14 : uk_Mem := uk_up u6 (kb + 6) x8.toNatClampNeg x11; let x16 : Int32 := u14.1 (kb + 1) m.toNatClampNeg; let x18 : Int32 := u14.1 (kb + 7) m.toNatClampNeg; let x22 : Int32 := (e_X0_givesB u14 x16 x18); if x22 = 0 then (u14) else (let x25 : Int32 := u14.1 (kb + 3) m.toNatClampNeg; let x27 : Int32 := u14.1 (kb + 6) x25.toNatClampNeg; let x28 : Int32 := x27 + t; let u31 : uk_Mem := uk_up u14 (kb + 6) x25.toNatClampNeg x28; u31)
abbrev qe_X0_moveTurned (u : uk_Mem) (kb : Nat) (m : Int32) (t : Int32) (r : Option Value) (u' : uk_Mem) : Prop := (q_X0_moveTurned u kb m t r u') ∧ (u' = e_X0_moveTurned u kb m t)
set_option maxHeartbeats 4000000 in
set_option maxRecDepth 20000 in
theorem x_X0_moveTurned {G : uk_D} (hs : uk_Sep G) {u : uk_Mem} (hu : iv u) {kb : Nat} (hkb : uk_isK kb) (m : Int32) (t : Int32) (p0 : 0 ≤ m) (p1 : m ≤ 7) (d : Nat) : uk_Meth G (d + 1) mX0_moveTurned [.ref (uk_ad G kb), .int m, .int t] u (qe_X0_moveTurned u kb m t) := by
  refine uk_Meth.of hs (by decide) (Nat.le_of_ble_eq_true rfl) (fun X => ?_)
  have f0 : fr kb (kb + 9) u u := fr_rf
  refine g_aload_n dX0_moveTurned_0 rfl ?_
  refine f_X0_31 rfl (kk_0 hkb) dX0_moveTurned_1 ?_
  refine g_iload_n dX0_moveTurned_4 rfl ?_
  refine g_dup2 dX0_moveTurned_5 rfl rfl ?_
  have v1 : vp_in m 8 := uk_vin 8 rfl (by first | decide | lia | grind) (by first | decide | lia | grind)
  refine g_iald (kk_6 hkb) (kl_6 hkb) v1 dX0_moveTurned_6 ?_
  refine g_topi (fun x2 ex2 => ?_)
  refine g_iload_n dX0_moveTurned_7 rfl ?_
  refine g_isub dX0_moveTurned_8 ?_
  refine g_topi (fun x3 ex3 => ?_)
  have v4 : vp_in m 8 := uk_vin 8 rfl (by first | decide | lia | grind) (by first | decide | lia | grind)
  have b5 := uk_cl v4
  refine g_iast (kk_6 hkb) (kl_6 hkb) v4 dX0_moveTurned_9 ?_
  refine g_mem (fun u6 eu6 => ?_)
  have hu6 : iv u6 := by rw [eu6]; exact iv_upF hu (ka_6 hkb _ (by omega))
  have fu6 : fr kb (kb + 9) u u6 := by rw [eu6]; exact fr_up f0 (by omega) (by omega)
  refine g_aload_n dX0_moveTurned_10 rfl ?_
  refine f_X0_31 rfl (kk_0 hkb) dX0_moveTurned_11 ?_
  refine g_aload_n dX0_moveTurned_14 rfl ?_
  refine f_X0_19 rfl (kk_0 hkb) dX0_moveTurned_15 ?_
  refine g_iload_n dX0_moveTurned_18 rfl ?_
  have v7 : vp_in m 8 := uk_vin 8 rfl (by first | decide | lia | grind) (by first | decide | lia | grind)
  refine g_iald (kk_2 hkb) (kl_2 hkb) v7 dX0_moveTurned_19 ?_
  refine g_topi (fun x8 ex8 => ?_)
  have bx8 := uk_cl v7
  have rx8 : 0 ≤ x8 ∧ x8 ≤ 7 := by rw [ex8]; exact iv_at hu6 _ _ (ka_2 hkb _ (by omega))
  refine g_dup2 dX0_moveTurned_20 rfl rfl ?_
  have v9 : vp_in x8 8 := uk_vin 8 rfl (by first | decide | lia | grind) (by first | decide | lia | grind)
  refine g_iald (kk_6 hkb) (kl_6 hkb) v9 dX0_moveTurned_21 ?_
  refine g_topi (fun x10 ex10 => ?_)
  refine g_iload_n dX0_moveTurned_22 rfl ?_
  refine g_iadd dX0_moveTurned_23 ?_
  refine g_topi (fun x11 ex11 => ?_)
  have v12 : vp_in x8 8 := uk_vin 8 rfl (by first | decide | lia | grind) (by first | decide | lia | grind)
  have b13 := uk_cl v12
  refine g_iast (kk_6 hkb) (kl_6 hkb) v12 dX0_moveTurned_24 ?_
  refine g_mem (fun u14 eu14 => ?_)
  have hu14 : iv u14 := by rw [eu14]; exact iv_upF hu6 (ka_6 hkb _ (by omega))
  have fu14 : fr kb (kb + 9) u u14 := by rw [eu14]; exact fr_up fu6 (by omega) (by omega)
  refine g_aload_n dX0_moveTurned_25 rfl ?_
  refine f_X0_15 rfl (kk_0 hkb) dX0_moveTurned_26 ?_
  refine g_iload_n dX0_moveTurned_29 rfl ?_
  have v15 : vp_in m 8 := uk_vin 8 rfl (by first | decide | lia | grind) (by first | decide | lia | grind)
  refine g_iald (kk_1 hkb) (kl_1 hkb) v15 dX0_moveTurned_30 ?_
  refine g_topi (fun x16 ex16 => ?_)
  refine g_aload_n dX0_moveTurned_31 rfl ?_
  refine f_X0_34 rfl (kk_0 hkb) dX0_moveTurned_32 ?_
  refine g_iload_n dX0_moveTurned_35 rfl ?_
  have v17 : vp_in m 8 := uk_vin 8 rfl (by first | decide | lia | grind) (by first | decide | lia | grind)
  refine g_iald (kk_7 hkb) (kl_7 hkb) v17 dX0_moveTurned_36 ?_
  refine g_topi (fun x18 ex18 => ?_)
  refine cl_X0_70 (As := [.int x16, .int x18]) rfl (x_X0_givesB (G := G) hs hu14  x16 x18  (d)) rfl (by omega) rfl (Nat.le_of_ble_eq_true rfl) dX0_moveTurned_37 (fun r19 u20 q21 => ?_)
  obtain ⟨q21, Eq21⟩ := q21
  obtain ⟨⟨x22, rfl, tx22, nx22, zx22⟩, mq21⟩ := q21
  rw [mq21]
  have ex22 : x22 = (e_X0_givesB u14 x16 x18) := ee_v Eq21
  refine g_if_eq (tgt := 58) dX0_moveTurned_40 (by decide) (fun c23 => ?_) (fun c23 => ?_)
  · have zc23 := zx22 c23
    exact g_vret dX0_moveTurned_58 rfl ⟨⟨rfl, hu14, fu14⟩, (by subst ex22; subst ex18; subst ex16; subst eu14; subst ex11; subst ex10; subst ex8; subst eu6; subst ex3; subst ex2; exact (if_pos c23).trans (rfl) : e_X0_moveTurned u kb m t = u14).symm⟩
  · have zc23 := nx22 c23
    refine g_aload_n dX0_moveTurned_43 rfl ?_
    refine f_X0_31 rfl (kk_0 hkb) dX0_moveTurned_44 ?_
    refine g_aload_n dX0_moveTurned_47 rfl ?_
    refine f_X0_22 rfl (kk_0 hkb) dX0_moveTurned_48 ?_
    refine g_iload_n dX0_moveTurned_51 rfl ?_
    have v24 : vp_in m 8 := uk_vin 8 rfl (by first | decide | lia | grind) (by first | decide | lia | grind)
    refine g_iald (kk_3 hkb) (kl_3 hkb) v24 dX0_moveTurned_52 ?_
    refine g_topi (fun x25 ex25 => ?_)
    have bx25 := uk_cl v24
    have rx25 : 0 ≤ x25 ∧ x25 ≤ 7 := by rw [ex25]; exact iv_at hu14 _ _ (ka_3 hkb _ (by omega))
    refine g_dup2 dX0_moveTurned_53 rfl rfl ?_
    have v26 : vp_in x25 8 := uk_vin 8 rfl (by first | decide | lia | grind) (by first | decide | lia | grind)
    refine g_iald (kk_6 hkb) (kl_6 hkb) v26 dX0_moveTurned_54 ?_
    refine g_topi (fun x27 ex27 => ?_)
    refine g_iload_n dX0_moveTurned_55 rfl ?_
    refine g_iadd dX0_moveTurned_56 ?_
    refine g_topi (fun x28 ex28 => ?_)
    have v29 : vp_in x25 8 := uk_vin 8 rfl (by first | decide | lia | grind) (by first | decide | lia | grind)
    have b30 := uk_cl v29
    refine g_iast (kk_6 hkb) (kl_6 hkb) v29 dX0_moveTurned_57 ?_
    refine g_mem (fun u31 eu31 => ?_)
    have hu31 : iv u31 := by rw [eu31]; exact iv_upF hu14 (ka_6 hkb _ (by omega))
    have fu31 : fr kb (kb + 9) u u31 := by rw [eu31]; exact fr_up fu14 (by omega) (by omega)
    exact g_vret dX0_moveTurned_58 rfl ⟨⟨rfl, hu31, fu31⟩, (by subst eu31; subst ex28; subst ex27; subst ex25; subst ex22; subst ex18; subst ex16; subst eu14; subst ex11; subst ex10; subst ex8; subst eu6; subst ex3; subst ex2; exact (if_neg c23).trans (rfl) : e_X0_moveTurned u kb m t = u31).symm⟩
def e_X0_perform (u : uk_Mem) (kb : Nat) (g : Int32) : uk_Mem := let x4 : Int32 := (e_X6_stuffOf u g); if g < (10 : Int32) then (let u7 : uk_Mem := e_X0_moveCooked u kb x4 (1 : Int32); let x9 : Int32 := u7.1 kb 11; let x11 : Int32 := x9 + (1 : Int32); let u12 : uk_Mem := uk_up u7 kb 11 x11; u12) else (let u15 : uk_Mem := e_X0_moveTurned u kb x4 (1 : Int32); let u18 : uk_Mem := e_X0_flipHalf u15 kb x4; let x20 : Int32 := u18.1 kb 11; let x22 : Int32 := x20 + (1 : Int32); let u23 : uk_Mem := uk_up u18 kb 11 x22; u23)
abbrev qe_X0_perform (u : uk_Mem) (kb : Nat) (g : Int32) (r : Option Value) (u' : uk_Mem) : Prop := (q_X0_perform u kb g r u') ∧ (u' = e_X0_perform u kb g)
set_option maxHeartbeats 4000000 in
set_option maxRecDepth 20000 in
theorem x_X0_perform {G : uk_D} (hs : uk_Sep G) {u : uk_Mem} (hu : iv u) {kb : Nat} (hkb : uk_isK kb) (g : Int32) (p0 : (0 ≤ g ∧ g ≤ 7) ∨ (10 ≤ g ∧ g ≤ 17)) (d : Nat) : uk_Meth G (d + 2) mX0_perform [.ref (uk_ad G kb), .int g] u (qe_X0_perform u kb g) := by
  refine uk_Meth.of hs (by decide) (Nat.le_of_ble_eq_true rfl) (fun X => ?_)
  have f0 : fr kb (kb + 9) u u := fr_rf
  refine g_iload_n dX0_perform_0 rfl ?_
  refine cl_X0_53 (As := [.int g]) rfl (x_X6_stuffOf (G := G) hs hu  g  (d + 1)) rfl (by omega) rfl (Nat.le_of_ble_eq_true rfl) dX0_perform_1 (fun r1 u2 q3 => ?_)
  obtain ⟨q3, Eq3⟩ := q3
  obtain ⟨⟨x4, rfl, tx4⟩, mq3⟩ := q3
  rw [mq3]
  have ex4 : x4 = (e_X6_stuffOf u g) := ee_v Eq3
  refine g_istore_n dX0_perform_4 (by decide) ?_
  refine g_pick (lv' := [(0, .ref (uk_ad G kb)), (1, .int g), (2, .int x4)]) [0, 1, 2] rfl ?_
  refine g_iload_n dX0_perform_5 rfl ?_
  refine g_bipush (v := 10) dX0_perform_6 (by decide) ?_
  refine g_icmp_lt (tgt := 25) dX0_perform_8 (by decide) (fun c5 => ?_) (fun c5 => ?_)
  · refine g_aload_n dX0_perform_25 rfl ?_
    refine g_iload_n dX0_perform_26 rfl ?_
    refine g_iconst (v := 1) dX0_perform_27 (by decide) ?_
    refine cl_X0_82 (c := kb) (As := [.int x4, .int 1]) rfl (x_X0_moveCooked (G := G) hs hu hkb x4 1 (by first | trivial | decide | lia | grind) (by first | trivial | decide | lia | grind) (d + 1)) rfl (by omega) (kk_0 hkb) rfl (Nat.le_of_ble_eq_true rfl) dX0_perform_28 (fun r6 u7 q8 => ?_)
    obtain ⟨q8, Eq8⟩ := q8
    obtain ⟨rfl, mq8⟩ := q8
    obtain ⟨hu7, gu7⟩ := mq8
    have fu7 : fr kb (kb + 9) u u7 := fr_tr f0 gu7 (by omega) (by omega)
    have eu7 : u7 = e_X0_moveCooked u kb x4 (1 : Int32) := Eq8
    refine g_aload_n dX0_perform_31 rfl ?_
    refine g_dup dX0_perform_32 rfl ?_
    refine f_X0_46 rfl (kk_0 hkb) dX0_perform_33 ?_
    refine g_topi (fun x9 ex9 => ?_)
    have s10 : u7.1 kb 11 = x9 := ex9.symm
    refine g_iconst (v := 1) dX0_perform_36 (by decide) ?_
    refine g_iadd dX0_perform_37 ?_
    refine g_topi (fun x11 ex11 => ?_)
    refine p_X0_46 rfl (kk_0 hkb) dX0_perform_38 ?_
    refine g_mem (fun u12 eu12 => ?_)
    have hu12 : iv u12 := by rw [eu12]; exact iv_upF hu7 (kr_11 hkb)
    have fu12 : fr kb (kb + 9) u u12 := by rw [eu12]; exact fr_up fu7 (by omega) (by omega)
    have s13 : u12.1 kb 11 = x11 := by rw [eu12, uk_up_at]; exact if_pos ⟨rfl, rfl⟩
    exact g_vret dX0_perform_41 rfl ⟨⟨rfl, hu12, fu12⟩, (by subst eu12; subst ex11; subst ex9; subst eu7; subst ex4; exact (if_pos c5).trans (rfl) : e_X0_perform u kb g = u12).symm⟩
  · refine g_aload_n dX0_perform_11 rfl ?_
    refine g_iload_n dX0_perform_12 rfl ?_
    refine g_iconst (v := 1) dX0_perform_13 (by decide) ?_
    refine cl_X0_74 (c := kb) (As := [.int x4, .int 1]) rfl (x_X0_moveTurned (G := G) hs hu hkb x4 1 (by first | trivial | decide | lia | grind) (by first | trivial | decide | lia | grind) (d)) rfl (by omega) (kk_0 hkb) rfl (Nat.le_of_ble_eq_true rfl) dX0_perform_14 (fun r14 u15 q16 => ?_)
    obtain ⟨q16, Eq16⟩ := q16
    obtain ⟨rfl, mq16⟩ := q16
    obtain ⟨hu15, gu15⟩ := mq16
    have fu15 : fr kb (kb + 9) u u15 := fr_tr f0 gu15 (by omega) (by omega)
    have eu15 : u15 = e_X0_moveTurned u kb x4 (1 : Int32) := Eq16
    refine g_aload_n dX0_perform_17 rfl ?_
    refine g_iload_n dX0_perform_18 rfl ?_
    refine cl_X0_78 (c := kb) (As := [.int x4]) rfl (x_X0_flipHalf (G := G) hs hu15 hkb x4 (by first | trivial | decide | lia | grind) (by first | trivial | decide | lia | grind) (d + 1)) rfl (by omega) (kk_0 hkb) rfl (Nat.le_of_ble_eq_true rfl) dX0_perform_19 (fun r17 u18 q19 => ?_)
    obtain ⟨q19, Eq19⟩ := q19
    obtain ⟨rfl, mq19⟩ := q19
    obtain ⟨hu18, gu18⟩ := mq19
    have fu18 : fr kb (kb + 9) u u18 := fr_tr fu15 gu18 (by omega) (by omega)
    have eu18 : u18 = e_X0_flipHalf u15 kb x4 := Eq19
    refine g_goto (tgt := 31) dX0_perform_22 (by decide) ?_
    refine g_aload_n dX0_perform_31 rfl ?_
    refine g_dup dX0_perform_32 rfl ?_
    refine f_X0_46 rfl (kk_0 hkb) dX0_perform_33 ?_
    refine g_topi (fun x20 ex20 => ?_)
    have s21 : u18.1 kb 11 = x20 := ex20.symm
    refine g_iconst (v := 1) dX0_perform_36 (by decide) ?_
    refine g_iadd dX0_perform_37 ?_
    refine g_topi (fun x22 ex22 => ?_)
    refine p_X0_46 rfl (kk_0 hkb) dX0_perform_38 ?_
    refine g_mem (fun u23 eu23 => ?_)
    have hu23 : iv u23 := by rw [eu23]; exact iv_upF hu18 (kr_11 hkb)
    have fu23 : fr kb (kb + 9) u u23 := by rw [eu23]; exact fr_up fu18 (by omega) (by omega)
    have s24 : u23.1 kb 11 = x22 := by rw [eu23, uk_up_at]; exact if_pos ⟨rfl, rfl⟩
    exact g_vret dX0_perform_41 rfl ⟨⟨rfl, hu23, fu23⟩, (by subst eu23; subst ex22; subst ex20; subst eu18; subst eu15; subst ex4; exact (if_neg c5).trans (rfl) : e_X0_perform u kb g = u23).symm⟩
def e_X0_undo (u : uk_Mem) (kb : Nat) (g : Int32) : uk_Mem := let x4 : Int32 := (e_X6_stuffOf u g); if g < (10 : Int32) then (let u7 : uk_Mem := e_X0_moveCooked u kb x4 (-1 : Int32); let x9 : Int32 := u7.1 kb 11; let x11 : Int32 := x9 - (1 : Int32); let u12 : uk_Mem := uk_up u7 kb 11 x11; u12) else (let u15 : uk_Mem := e_X0_flipHalf u kb x4; let u18 : uk_Mem := e_X0_moveTurned u15 kb x4 (-1 : Int32); let x20 : Int32 := u18.1 kb 11; let x22 : Int32 := x20 - (1 : Int32); let u23 : uk_Mem := uk_up u18 kb 11 x22; u23)
abbrev qe_X0_undo (u : uk_Mem) (kb : Nat) (g : Int32) (r : Option Value) (u' : uk_Mem) : Prop := (q_X0_undo u kb g r u') ∧ (u' = e_X0_undo u kb g)
set_option maxHeartbeats 4000000 in
set_option maxRecDepth 20000 in
theorem x_X0_undo {G : uk_D} (hs : uk_Sep G) {u : uk_Mem} (hu : iv u) {kb : Nat} (hkb : uk_isK kb) (g : Int32) (p0 : (0 ≤ g ∧ g ≤ 7) ∨ (10 ≤ g ∧ g ≤ 17)) (d : Nat) : uk_Meth G (d + 2) mX0_undo [.ref (uk_ad G kb), .int g] u (qe_X0_undo u kb g) := by
  refine uk_Meth.of hs (by decide) (Nat.le_of_ble_eq_true rfl) (fun X => ?_)
  have f0 : fr kb (kb + 9) u u := fr_rf
  refine g_iload_n dX0_undo_0 rfl ?_
  refine cl_X0_53 (As := [.int g]) rfl (x_X6_stuffOf (G := G) hs hu  g  (d + 1)) rfl (by omega) rfl (Nat.le_of_ble_eq_true rfl) dX0_undo_1 (fun r1 u2 q3 => ?_)
  obtain ⟨q3, Eq3⟩ := q3
  obtain ⟨⟨x4, rfl, tx4⟩, mq3⟩ := q3
  rw [mq3]
  have ex4 : x4 = (e_X6_stuffOf u g) := ee_v Eq3
  refine g_istore_n dX0_undo_4 (by decide) ?_
  refine g_pick (lv' := [(0, .ref (uk_ad G kb)), (1, .int g), (2, .int x4)]) [0, 1, 2] rfl ?_
  refine g_iload_n dX0_undo_5 rfl ?_
  refine g_bipush (v := 10) dX0_undo_6 (by decide) ?_
  refine g_icmp_lt (tgt := 25) dX0_undo_8 (by decide) (fun c5 => ?_) (fun c5 => ?_)
  · refine g_aload_n dX0_undo_25 rfl ?_
    refine g_iload_n dX0_undo_26 rfl ?_
    refine g_iconst (v := (-1)) dX0_undo_27 (by decide) ?_
    refine cl_X0_82 (c := kb) (As := [.int x4, .int (-1)]) rfl (x_X0_moveCooked (G := G) hs hu hkb x4 (-1) (by first | trivial | decide | lia | grind) (by first | trivial | decide | lia | grind) (d + 1)) rfl (by omega) (kk_0 hkb) rfl (Nat.le_of_ble_eq_true rfl) dX0_undo_28 (fun r6 u7 q8 => ?_)
    obtain ⟨q8, Eq8⟩ := q8
    obtain ⟨rfl, mq8⟩ := q8
    obtain ⟨hu7, gu7⟩ := mq8
    have fu7 : fr kb (kb + 9) u u7 := fr_tr f0 gu7 (by omega) (by omega)
    have eu7 : u7 = e_X0_moveCooked u kb x4 (-1 : Int32) := Eq8
    refine g_aload_n dX0_undo_31 rfl ?_
    refine g_dup dX0_undo_32 rfl ?_
    refine f_X0_46 rfl (kk_0 hkb) dX0_undo_33 ?_
    refine g_topi (fun x9 ex9 => ?_)
    have s10 : u7.1 kb 11 = x9 := ex9.symm
    refine g_iconst (v := 1) dX0_undo_36 (by decide) ?_
    refine g_isub dX0_undo_37 ?_
    refine g_topi (fun x11 ex11 => ?_)
    refine p_X0_46 rfl (kk_0 hkb) dX0_undo_38 ?_
    refine g_mem (fun u12 eu12 => ?_)
    have hu12 : iv u12 := by rw [eu12]; exact iv_upF hu7 (kr_11 hkb)
    have fu12 : fr kb (kb + 9) u u12 := by rw [eu12]; exact fr_up fu7 (by omega) (by omega)
    have s13 : u12.1 kb 11 = x11 := by rw [eu12, uk_up_at]; exact if_pos ⟨rfl, rfl⟩
    exact g_vret dX0_undo_41 rfl ⟨⟨rfl, hu12, fu12⟩, (by subst eu12; subst ex11; subst ex9; subst eu7; subst ex4; exact (if_pos c5).trans (rfl) : e_X0_undo u kb g = u12).symm⟩
  · refine g_aload_n dX0_undo_11 rfl ?_
    refine g_iload_n dX0_undo_12 rfl ?_
    refine cl_X0_78 (c := kb) (As := [.int x4]) rfl (x_X0_flipHalf (G := G) hs hu hkb x4 (by first | trivial | decide | lia | grind) (by first | trivial | decide | lia | grind) (d + 1)) rfl (by omega) (kk_0 hkb) rfl (Nat.le_of_ble_eq_true rfl) dX0_undo_13 (fun r14 u15 q16 => ?_)
    obtain ⟨q16, Eq16⟩ := q16
    obtain ⟨rfl, mq16⟩ := q16
    obtain ⟨hu15, gu15⟩ := mq16
    have fu15 : fr kb (kb + 9) u u15 := fr_tr f0 gu15 (by omega) (by omega)
    have eu15 : u15 = e_X0_flipHalf u kb x4 := Eq16
    refine g_aload_n dX0_undo_16 rfl ?_
    refine g_iload_n dX0_undo_17 rfl ?_
    refine g_iconst (v := (-1)) dX0_undo_18 (by decide) ?_
    refine cl_X0_74 (c := kb) (As := [.int x4, .int (-1)]) rfl (x_X0_moveTurned (G := G) hs hu15 hkb x4 (-1) (by first | trivial | decide | lia | grind) (by first | trivial | decide | lia | grind) (d)) rfl (by omega) (kk_0 hkb) rfl (Nat.le_of_ble_eq_true rfl) dX0_undo_19 (fun r17 u18 q19 => ?_)
    obtain ⟨q19, Eq19⟩ := q19
    obtain ⟨rfl, mq19⟩ := q19
    obtain ⟨hu18, gu18⟩ := mq19
    have fu18 : fr kb (kb + 9) u u18 := fr_tr fu15 gu18 (by omega) (by omega)
    have eu18 : u18 = e_X0_moveTurned u15 kb x4 (-1 : Int32) := Eq19
    refine g_goto (tgt := 31) dX0_undo_22 (by decide) ?_
    refine g_aload_n dX0_undo_31 rfl ?_
    refine g_dup dX0_undo_32 rfl ?_
    refine f_X0_46 rfl (kk_0 hkb) dX0_undo_33 ?_
    refine g_topi (fun x20 ex20 => ?_)
    have s21 : u18.1 kb 11 = x20 := ex20.symm
    refine g_iconst (v := 1) dX0_undo_36 (by decide) ?_
    refine g_isub dX0_undo_37 ?_
    refine g_topi (fun x22 ex22 => ?_)
    refine p_X0_46 rfl (kk_0 hkb) dX0_undo_38 ?_
    refine g_mem (fun u23 eu23 => ?_)
    have hu23 : iv u23 := by rw [eu23]; exact iv_upF hu18 (kr_11 hkb)
    have fu23 : fr kb (kb + 9) u u23 := by rw [eu23]; exact fr_up fu18 (by omega) (by omega)
    have s24 : u23.1 kb 11 = x22 := by rw [eu23, uk_up_at]; exact if_pos ⟨rfl, rfl⟩
    exact g_vret dX0_undo_41 rfl ⟨⟨rfl, hu23, fu23⟩, (by subst eu23; subst ex22; subst ex20; subst eu18; subst eu15; subst ex4; exact (if_neg c5).trans (rfl) : e_X0_undo u kb g = u23).symm⟩
def l_X0_clear_22 (kb : Nat) : Nat → Int32 → uk_Mem → uk_Mem
  | 0, _, u11 => u11
  | K9 + 1, i10, u11 => if (8 : Int32) ≤ i10 then (u11) else (let u15 : uk_Mem := uk_up u11 (kb + 6) i10.toNatClampNeg (0 : Int32); let u18 : uk_Mem := uk_up u15 (kb + 7) i10.toNatClampNeg (0 : Int32); l_X0_clear_22 kb K9 (i10 + 1) u18)
def e_X0_clear (u : uk_Mem) (kb : Nat) : uk_Mem := let u1 : uk_Mem := uk_up u kb 0 (0 : Int32); let u3 : uk_Mem := uk_up u1 kb 9 (0 : Int32); let u5 : uk_Mem := uk_up u3 kb 10 (0 : Int32); let u7 : uk_Mem := uk_up u5 kb 11 (0 : Int32); l_X0_clear_22 kb ee_K (0 : Int32) u7
abbrev qe_X0_clear (u : uk_Mem) (kb : Nat) (r : Option Value) (u' : uk_Mem) : Prop := (q_X0_clear u kb r u') ∧ (u' = e_X0_clear u kb)
set_option maxHeartbeats 4000000 in
set_option maxRecDepth 20000 in
theorem x_X0_clear {G : uk_D} (hs : uk_Sep G) {u : uk_Mem} (hu : iv u) {kb : Nat} (hkb : uk_isK kb) (d : Nat) : uk_Meth G d mX0_clear [.ref (uk_ad G kb)] u (qe_X0_clear u kb) := by
  refine uk_Meth.of hs (by decide) (Nat.le_of_ble_eq_true rfl) (fun X => ?_)
  have f0 : fr kb (kb + 9) u u := fr_rf
  refine g_aload_n dX0_clear_0 rfl ?_
  refine g_iconst (v := 0) dX0_clear_1 (by decide) ?_
  refine p_X0_9 rfl (kk_0 hkb) dX0_clear_2 ?_
  refine g_mem (fun u1 eu1 => ?_)
  have hu1 : iv u1 := by rw [eu1]; exact iv_up hu (kr_0 hkb) (by first | lia | grind) (by first | lia | grind)
  have fu1 : fr kb (kb + 9) u u1 := by rw [eu1]; exact fr_up f0 (by omega) (by omega)
  have s2 : u1.1 kb 0 = 0 := by rw [eu1, uk_up_at]; exact if_pos ⟨rfl, rfl⟩
  refine g_aload_n dX0_clear_5 rfl ?_
  refine g_iconst (v := 0) dX0_clear_6 (by decide) ?_
  refine p_X0_40 rfl (kk_0 hkb) dX0_clear_7 ?_
  refine g_mem (fun u3 eu3 => ?_)
  have hu3 : iv u3 := by rw [eu3]; exact iv_up hu1 (kr_9 hkb) (by first | lia | grind) (by first | lia | grind)
  have fu3 : fr kb (kb + 9) u u3 := by rw [eu3]; exact fr_up fu1 (by omega) (by omega)
  have s4 : u3.1 kb 9 = 0 := by rw [eu3, uk_up_at]; exact if_pos ⟨rfl, rfl⟩
  refine g_aload_n dX0_clear_10 rfl ?_
  refine g_iconst (v := 0) dX0_clear_11 (by decide) ?_
  refine p_X0_43 rfl (kk_0 hkb) dX0_clear_12 ?_
  refine g_mem (fun u5 eu5 => ?_)
  have hu5 : iv u5 := by rw [eu5]; exact iv_upF hu3 (kr_10 hkb)
  have fu5 : fr kb (kb + 9) u u5 := by rw [eu5]; exact fr_up fu3 (by omega) (by omega)
  have s6 : u5.1 kb 10 = 0 := by rw [eu5, uk_up_at]; exact if_pos ⟨rfl, rfl⟩
  refine g_aload_n dX0_clear_15 rfl ?_
  refine g_iconst (v := 0) dX0_clear_16 (by decide) ?_
  refine p_X0_46 rfl (kk_0 hkb) dX0_clear_17 ?_
  refine g_mem (fun u7 eu7 => ?_)
  have hu7 : iv u7 := by rw [eu7]; exact iv_upF hu5 (kr_11 hkb)
  have fu7 : fr kb (kb + 9) u u7 := by rw [eu7]; exact fr_up fu5 (by omega) (by omega)
  have s8 : u7.1 kb 11 = 0 := by rw [eu7, uk_up_at]; exact if_pos ⟨rfl, rfl⟩
  refine g_iconst (v := 0) dX0_clear_20 (by decide) ?_
  refine g_istore_n dX0_clear_21 (by decide) ?_
  refine g_pick (lv' := [(0, .ref (uk_ad G kb)), (1, .int 0)]) [0, 1] rfl ?_
  have L22_8 : ∀ i10 : Int32, 0 ≤ i10 → i10 ≤ 8 → ∀ (u11 : uk_Mem), iv u11 → fr kb (kb + 9) u u11 → u11.1 kb 0 = 0 → (∃ ki10 : Nat, ee_F 8 i10 ki10 ∧ e_X0_clear u kb = l_X0_clear_22 kb ki10 i10 u11) → uk_G G X mX0_clear d (qe_X0_clear u kb) 22 [(0, .ref (uk_ad G kb)), (1, .int i10)] [] u11 := by
    refine uk_upl 8 ?_
    intro i10 ai10 bi10 ihi10  u11 hu11 fu11 ji100 jEi10
    obtain ⟨ki10, fki10, hki10⟩ := jEi10
    obtain ⟨ki10, rfl⟩ := ee_Fp (by first | assumption | lia | grind) fki10
    refine g_iload_n dX0_clear_22 rfl ?_
    refine g_bipush (v := 8) dX0_clear_23 (by decide) ?_
    refine g_icmp_ge (tgt := 48) dX0_clear_25 (by decide) (fun c12 => ?_) (fun c12 => ?_)
    · exact g_vret dX0_clear_48 rfl ⟨⟨rfl, hu11, fu11, (by first | rfl | grind | grind [uk_up_at])⟩, (by exact hki10.trans ((if_pos c12).trans (rfl)) : e_X0_clear u kb = u11).symm⟩
    · refine g_aload_n dX0_clear_28 rfl ?_
      refine f_X0_31 rfl (kk_0 hkb) dX0_clear_29 ?_
      refine g_iload_n dX0_clear_32 rfl ?_
      refine g_iconst (v := 0) dX0_clear_33 (by decide) ?_
      have v13 : vp_in i10 8 := uk_vin 8 rfl (by first | decide | lia | grind) (by first | decide | lia | grind)
      have b14 := uk_cl v13
      refine g_iast (kk_6 hkb) (kl_6 hkb) v13 dX0_clear_34 ?_
      refine g_mem (fun u15 eu15 => ?_)
      have hu15 : iv u15 := by rw [eu15]; exact iv_upF hu11 (ka_6 hkb _ (by omega))
      have fu15 : fr kb (kb + 9) u u15 := by rw [eu15]; exact fr_up fu11 (by omega) (by omega)
      refine g_aload_n dX0_clear_35 rfl ?_
      refine f_X0_34 rfl (kk_0 hkb) dX0_clear_36 ?_
      refine g_iload_n dX0_clear_39 rfl ?_
      refine g_iconst (v := 0) dX0_clear_40 (by decide) ?_
      have v16 : vp_in i10 8 := uk_vin 8 rfl (by first | decide | lia | grind) (by first | decide | lia | grind)
      have b17 := uk_cl v16
      refine g_iast (kk_7 hkb) (kl_7 hkb) v16 dX0_clear_41 ?_
      refine g_mem (fun u18 eu18 => ?_)
      have hu18 : iv u18 := by rw [eu18]; exact iv_upF hu15 (ka_7 hkb _ (by omega))
      have fu18 : fr kb (kb + 9) u u18 := by rw [eu18]; exact fr_up fu15 (by omega) (by omega)
      refine g_iinc (v := i10 + 1) dX0_clear_42 rfl rfl (by decide) ?_
      refine g_pick (lv' := [(0, .ref (uk_ad G kb)), (1, .int (i10 + 1))]) [0, 1] rfl ?_
      refine g_goto (tgt := 22) dX0_clear_45 (by decide) ?_
      refine g_pick (lv' := [(0, .ref (uk_ad G kb)), (1, .int (i10 + 1))]) [0, 1] rfl ?_
      exact ihi10 (by first | lia | grind)  u18 hu18 fu18 (by first | trivial | lia | grind | grind [uk_up_at] | (simp [eu15, eu18, uk_up_at, ji100]; done) | (simp [eu15, eu18, uk_up_at]; grind)) ⟨ki10, ee_Fs fki10 (by first | assumption | lia | grind), by subst eu18; subst eu15; exact hki10.trans ((if_neg c12).trans (rfl))⟩
  refine g_pick (lv' := [(0, .ref (uk_ad G kb)), (1, .int 0)]) [0, 1] rfl ?_
  exact L22_8 0 (by first | decide | lia | grind) (by first | decide | lia | grind)  u7 hu7 fu7 (by first | trivial | lia | grind | grind [uk_up_at] | (simp [eu1, eu3, eu5, eu7, uk_up_at, s2, s4, s6, s8]; done) | (simp [eu1, eu3, eu5, eu7, uk_up_at]; grind)) ⟨ee_K, ee_F0 _ _, by subst eu7; subst eu5; subst eu3; subst eu1; exact rfl⟩
