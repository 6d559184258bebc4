abbrev q_X0_rawCost (u : uk_Mem) (kb : Nat) (m : Int32) (r : Option Value) (u' : uk_Mem) : Prop := (∃ x : Int32, r = some (.int x) ∧ True) ∧ (iv u' ∧ fr 57 58 u u')
set_option maxHeartbeats 4000000 in
set_option maxRecDepth 20000 in
theorem c_X0_rawCost {G : uk_D} (hs : uk_Sep G) {u : uk_Mem} (hu : iv u) {kb : Nat} (hkb : uk_isK kb) (m : Int32) (p0 : 0 ≤ m) (p1 : m ≤ 7) (d : Nat) : uk_Meth G (d + 2) mX0_rawCost [.ref (uk_ad G kb), .int m, .ref (uk_ad G 57)] u (q_X0_rawCost u kb m) := by
  refine uk_Meth.of hs (by decide) (Nat.le_of_ble_eq_true rfl) (fun X => ?_)
  have f0 : fr 57 58 u u := fr_rf
  refine g_aload_n dX0_rawCost_0 rfl ?_
  refine g_iload_n dX0_rawCost_1 rfl ?_
  refine g_aload_n dX0_rawCost_2 rfl ?_
  refine cl_X0_101 (c := kb) (As := [.int m, .ref (uk_ad G 57)]) rfl (c_X0_rawNeed (G := G) hs hu hkb m (by first | trivial | decide | lia | grind) (by first | trivial | decide | lia | grind) (d)) rfl (by omega) (kk_0 hkb) rfl (Nat.le_of_ble_eq_true rfl) dX0_rawCost_3 (fun r1 u2 q3 => ?_)
  obtain ⟨rfl, mq3⟩ := q3
  obtain ⟨hu2, gu2⟩ := mq3
  have fu2 : fr 57 58 u u2 := fr_tr f0 gu2 (by omega) (by omega)
  refine g_iconst (v := 0) dX0_rawCost_6 (by decide) ?_
  refine g_istore_n dX0_rawCost_7 (by decide) ?_
  refine g_pick (lv' := [(0, .ref (uk_ad G kb)), (1, .int m), (2, .ref (uk_ad G 57)), (3, .int 0)]) [0, 1, 2, 3] rfl ?_
  refine g_iconst (v := 0) dX0_rawCost_8 (by decide) ?_
  refine g_istore dX0_rawCost_9 (by decide) ?_
  refine g_pick (lv' := [(0, .ref (uk_ad G kb)), (1, .int m), (2, .ref (uk_ad G 57)), (3, .int 0), (4, .int 0)]) [0, 1, 2, 3, 4] rfl ?_
  have L11_3 : ∀ i6 : Int32, 0 ≤ i6 → i6 ≤ 8 → ∀ (w5 : Int32), uk_G G X mX0_rawCost (d + 2) (q_X0_rawCost u kb m) 11 [(0, .ref (uk_ad G kb)), (1, .int m), (2, .ref (uk_ad G 57)), (3, .int w5), (4, .int i6)] [] u2 := by
    refine uk_upl 8 ?_
    intro i6 ai6 bi6 ihi6 w5
    refine g_iload dX0_rawCost_11 rfl ?_
    refine g_iload_n dX0_rawCost_13 rfl ?_
    refine g_icmp_gt (tgt := 51) dX0_rawCost_14 (by decide) (fun c7 => ?_) (fun c7 => ?_)
    · refine g_iload_n dX0_rawCost_51 rfl ?_
      exact g_iret (ty := .int) dX0_rawCost_52 rfl rfl ⟨⟨_, rfl, by first | trivial | lia | grind⟩, hu2, fu2⟩
    · refine g_iload_n dX0_rawCost_17 rfl ?_
      refine g_aload_n dX0_rawCost_18 rfl ?_
      refine g_iload dX0_rawCost_19 rfl ?_
      refine cl_X0_61 (c := kb) (As := [.int i6]) rfl (c_X0_isMade (G := G) hs hu2 hkb i6 (by first | trivial | decide | lia | grind) (by first | trivial | decide | lia | grind) (d + 1)) rfl (by omega) (kk_0 hkb) rfl (Nat.le_of_ble_eq_true rfl) dX0_rawCost_21 (fun r8 u9 q10 => ?_)
      obtain ⟨⟨x11, rfl, tx11, nx11, zx11⟩, mq10⟩ := q10
      rw [mq10]
      refine g_if_eq (tgt := 31) dX0_rawCost_24 (by decide) (fun c12 => ?_) (fun c12 => ?_)
      · have zc12 := zx11 c12
        refine g_aload_n dX0_rawCost_31 rfl ?_
        refine g_iload dX0_rawCost_32 rfl ?_
        have v13 : vp_in i6 8 := uk_vin 8 rfl (by first | decide | lia | grind) (by first | decide | lia | grind)
        refine g_iald rfl rfl v13 dX0_rawCost_34 ?_
        refine g_topi (fun x14 ex14 => ?_)
        refine g_aload_n dX0_rawCost_35 rfl ?_
        refine f_X0_28 rfl (kk_0 hkb) dX0_rawCost_36 ?_
        refine g_iload dX0_rawCost_39 rfl ?_
        have v15 : vp_in i6 8 := uk_vin 8 rfl (by first | decide | lia | grind) (by first | decide | lia | grind)
        refine g_iald (kk_5 hkb) (kl_5 hkb) v15 dX0_rawCost_41 ?_
        refine g_topi (fun x16 ex16 => ?_)
        refine g_imul dX0_rawCost_42 ?_
        refine g_topi (fun x17 ex17 => ?_)
        refine g_iadd dX0_rawCost_43 ?_
        refine g_topi (fun x18 ex18 => ?_)
        refine g_istore_n dX0_rawCost_44 (by decide) ?_
        refine g_pick (lv' := [(0, .ref (uk_ad G kb)), (1, .int m), (2, .ref (uk_ad G 57)), (3, .int x18), (4, .int i6)]) [0, 1, 2, 3, 4] rfl ?_
        refine g_iinc (v := i6 + 1) dX0_rawCost_45 rfl rfl (by decide) ?_
        refine g_pick (lv' := [(0, .ref (uk_ad G kb)), (1, .int m), (2, .ref (uk_ad G 57)), (3, .int x18), (4, .int (i6 + 1))]) [0, 1, 2, 3, 4] rfl ?_
        refine g_goto (tgt := 11) dX0_rawCost_48 (by decide) ?_
        refine g_pick (lv' := [(0, .ref (uk_ad G kb)), (1, .int m), (2, .ref (uk_ad G 57)), (3, .int x18), (4, .int (i6 + 1))]) [0, 1, 2, 3, 4] rfl ?_
        exact ihi6 (by first | lia | grind) x18 
      · have zc12 := nx11 c12
        refine g_iconst (v := 0) dX0_rawCost_27 (by decide) ?_
        refine g_goto (tgt := 43) dX0_rawCost_28 (by decide) ?_
        refine g_iadd dX0_rawCost_43 ?_
        refine g_topi (fun x19 ex19 => ?_)
        refine g_istore_n dX0_rawCost_44 (by decide) ?_
        refine g_pick (lv' := [(0, .ref (uk_ad G kb)), (1, .int m), (2, .ref (uk_ad G 57)), (3, .int x19), (4, .int i6)]) [0, 1, 2, 3, 4] rfl ?_
        refine g_iinc (v := i6 + 1) dX0_rawCost_45 rfl rfl (by decide) ?_
        refine g_pick (lv' := [(0, .ref (uk_ad G kb)), (1, .int m), (2, .ref (uk_ad G 57)), (3, .int x19), (4, .int (i6 + 1))]) [0, 1, 2, 3, 4] rfl ?_
        refine g_goto (tgt := 11) dX0_rawCost_48 (by decide) ?_
        refine g_pick (lv' := [(0, .ref (uk_ad G kb)), (1, .int m), (2, .ref (uk_ad G 57)), (3, .int x19), (4, .int (i6 + 1))]) [0, 1, 2, 3, 4] rfl ?_
        exact ihi6 (by first | lia | grind) x19 
  refine g_pick (lv' := [(0, .ref (uk_ad G kb)), (1, .int m), (2, .ref (uk_ad G 57)), (3, .int 0), (4, .int 0)]) [0, 1, 2, 3, 4] rfl ?_
  exact L11_3 0 (by first | decide | lia | grind) (by first | decide | lia | grind) 0 

