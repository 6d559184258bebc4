abbrev q_X7_least (u : uk_Mem) (m : Int32) (w : Int32) (r : Option Value) (u' : uk_Mem) : Prop := (∃ x : Int32, r = some (.int x) ∧ True) ∧ (iv u' ∧ fk [62] [] u u' ∧ ri u')
set_option maxHeartbeats 4000000 in
set_option maxRecDepth 20000 in
theorem c_X7_least {G : uk_D} (hs : uk_Sep G) {u : uk_Mem} (hu : iv u) (hri : ri u) (m : Int32) (w : Int32) (d : Nat) : uk_Meth G (d + 4) mX7_least [.ref (uk_ad G 60), .int m, .int w] u (q_X7_least u m w) := by
  refine uk_Meth.of hs (by decide) (Nat.le_of_ble_eq_true rfl) (fun X => ?_)
  have f0 : fk [62] [] u u := fk_rf
  refine g_aload_n dX7_least_0 rfl ?_
  refine g_iload_n dX7_least_1 rfl ?_
  refine cl_X7_163 (c := 60) (As := [.int m]) rfl (c_X7_isStuff (G := G) hs hu  m  (d + 2)) rfl (by omega) rfl rfl (Nat.le_of_ble_eq_true rfl) dX7_least_2 (fun r1 u2 q3 => ?_)
  obtain ⟨⟨x4, rfl, tx4, nx4, zx4⟩, mq3⟩ := q3
  rw [mq3]
  refine g_if_eq (tgt := 15) dX7_least_5 (by decide) (fun c5 => ?_) (fun c5 => ?_)
  · have zc5 := zx4 c5
    refine g_iconst (v := (-1)) dX7_least_15 (by decide) ?_
    exact g_iret (ty := .int) dX7_least_16 rfl rfl ⟨⟨_, rfl, by first | trivial | lia | grind⟩, hu, f0, hri⟩
  · have zc5 := nx4 c5
    refine g_iload_n dX7_least_8 rfl ?_
    refine cl_X7_252 (As := [.int w]) rfl (c_X7_isAsked (G := G) hs hu  w  (d + 2)) rfl (by omega) rfl (Nat.le_of_ble_eq_true rfl) dX7_least_9 (fun r6 u7 q8 => ?_)
    obtain ⟨⟨x9, rfl, tx9, nx9, zx9⟩, mq8⟩ := q8
    rw [mq8]
    refine g_if_ne (tgt := 17) dX7_least_12 (by decide) (fun c10 => ?_) (fun c10 => ?_)
    · have zc10 := nx9 c10
      refine g_iconst (v := 0) dX7_least_17 (by decide) ?_
      refine g_istore_n dX7_least_18 (by decide) ?_
      refine g_pick (lv' := [(0, .ref (uk_ad G 60)), (1, .int m), (2, .int w), (3, .int 0)]) [0, 1, 2, 3] rfl ?_
      have L19_10 : ∀ i12 : Int32, 0 ≤ i12 → i12 ≤ 5 → ∀ (u13 : uk_Mem), iv u13 → fk [62] [] u u13 → ri u13 → uk_G G X mX7_least (d + 4) (q_X7_least u m w) 19 [(0, .ref (uk_ad G 60)), (1, .int m), (2, .int w), (3, .int i12)] [] u13 := by
        refine uk_upl 5 ?_
        intro i12 ai12 bi12 ihi12  u13 hu13 fu13 riu13
        have wu13_60_3 : u13.1 60 3 = u.1 60 3 := fk_at fu13 (by decide)
        refine g_iload_n dX7_least_19 rfl ?_
        refine g_iconst (v := 4) dX7_least_20 (by decide) ?_
        refine g_icmp_gt (tgt := 103) dX7_least_21 (by decide) (fun c14 => ?_) (fun c14 => ?_)
        · refine g_bipush (v := (-4)) dX7_least_103 (by decide) ?_
          exact g_iret (ty := .int) dX7_least_105 rfl rfl ⟨⟨_, rfl, by first | trivial | lia | grind⟩, hu13, fu13, riu13⟩
        · refine g_iconst (v := 0) dX7_least_24 (by decide) ?_
          refine g_istore dX7_least_25 (by decide) ?_
          refine g_pick (lv' := [(0, .ref (uk_ad G 60)), (1, .int m), (2, .int w), (3, .int i12), (4, .int 0)]) [0, 1, 2, 3, 4] rfl ?_
          have L27_14 : ∀ i16 : Int32, 0 ≤ i16 → i16 ≤ 65536 → ∀ (u17 : uk_Mem), iv u17 → fk [62] [] u u17 → ri u17 → uk_G G X mX7_least (d + 4) (q_X7_least u m w) 27 [(0, .ref (uk_ad G 60)), (1, .int m), (2, .int w), (3, .int i12), (4, .int i16)] [] u17 := by
            refine uk_upl 65536 ?_
            intro i16 ai16 bi16 ihi16  u17 hu17 fu17 riu17
            have wu17_60_3 : u17.1 60 3 = u.1 60 3 := fk_at fu17 (by decide)
            refine g_iload dX7_least_27 rfl ?_
            refine g_aload_n dX7_least_29 rfl ?_
            refine g_iload_n dX7_least_30 rfl ?_
            refine cl_X7_241 (c := 60) (As := [.int i12]) rfl (c_X7_baseTo (G := G) hs hu17  i12 (by first | trivial | decide | lia | grind) (d + 3)) rfl (by omega) rfl rfl (Nat.le_of_ble_eq_true rfl) dX7_least_31 (fun r18 u19 q20 => ?_)
            obtain ⟨⟨x21, rfl, tx21⟩, mq20⟩ := q20
            rw [mq20]
            refine g_icmp_ge (tgt := 97) dX7_least_34 (by decide) (fun c22 => ?_) (fun c22 => ?_)
            · refine g_iinc (v := i12 + 1) dX7_least_97 rfl rfl (by decide) ?_
              refine g_pick (lv' := [(0, .ref (uk_ad G 60)), (1, .int m), (2, .int w), (3, .int (i12 + 1)), (4, .int i16)]) [0, 1, 2, 3, 4] rfl ?_
              refine g_goto (tgt := 19) dX7_least_100 (by decide) ?_
              refine g_pick (lv' := [(0, .ref (uk_ad G 60)), (1, .int m), (2, .int w), (3, .int (i12 + 1))]) [0, 1, 2, 3] rfl ?_
              exact ihi12 (by first | lia | grind)  u17 hu17 fu17 riu17 
            · refine g_aload_n dX7_least_37 rfl ?_
              refine g_iload dX7_least_38 rfl ?_
              refine g_iload_n dX7_least_40 rfl ?_
              refine cl_X7_255 (c := 60) (As := [.int i16, .int i12]) rfl (c_X7_doRow (G := G) hs hu17 riu17  i16 i12 (by first | trivial | decide | lia | grind) (d)) rfl (by omega) rfl rfl (Nat.le_of_ble_eq_true rfl) dX7_least_41 (fun r23 u24 q25 => ?_)
              obtain ⟨⟨x26, rfl, tx26, nx26, zx26⟩, mq25⟩ := q25
              obtain ⟨hu24, gu24, riu24⟩ := mq25
              have fu24 : fk [62] [] u u24 := fk_tr fu17 gu24 (by decide) (by decide)
              have wu24_60_3 : u24.1 60 3 = u17.1 60 3 := fk_at gu24 (by decide)
              refine g_if_eq (tgt := 91) dX7_least_44 (by decide) (fun c27 => ?_) (fun c27 => ?_)
              · have zc27 := zx26 c27
                refine g_iinc (v := i16 + 1) dX7_least_91 rfl rfl (by decide) ?_
                refine g_pick (lv' := [(0, .ref (uk_ad G 60)), (1, .int m), (2, .int w), (3, .int i12), (4, .int (i16 + 1))]) [0, 1, 2, 3, 4] rfl ?_
                refine g_goto (tgt := 27) dX7_least_94 (by decide) ?_
                refine g_pick (lv' := [(0, .ref (uk_ad G 60)), (1, .int m), (2, .int w), (3, .int i12), (4, .int (i16 + 1))]) [0, 1, 2, 3, 4] rfl ?_
                exact ihi16 (by first | lia | grind)  u24 hu24 fu24 riu24 
              · have zc27 := nx26 c27
                refine g_aload_n dX7_least_47 rfl ?_
                refine f_X7_13 rfl rfl dX7_least_48 ?_
                refine g_iconst (v := 0) dX7_least_51 (by decide) ?_
                refine g_iload_n dX7_least_52 rfl ?_
                refine g_iadd dX7_least_53 ?_
                refine g_topi (fun x28 ex28 => ?_)
                have ox28 : x28 = m := by rw [ex28, Int32.zero_add]
                have v29 : vp_in x28 51 := uk_vin 51 rfl (by first | decide | lia | grind) (by first | decide | lia | grind)
                refine g_iald rfl rfl v29 dX7_least_54 ?_
                refine g_topi (fun x30 ex30 => ?_)
                have bx30 := uk_cl v29
                have rx30 : 0 ≤ x30 ∧ x30 ≤ 40 := by rw [ex30]; exact sg_0 hu24 (by unfold uk_is51; decide) (by first | lia | grind) (by first | lia | grind)
                refine g_if_le (tgt := 91) dX7_least_55 (by decide) (fun c31 => ?_) (fun c31 => ?_)
                · refine g_iinc (v := i16 + 1) dX7_least_91 rfl rfl (by decide) ?_
                  refine g_pick (lv' := [(0, .ref (uk_ad G 60)), (1, .int m), (2, .int w), (3, .int i12), (4, .int (i16 + 1))]) [0, 1, 2, 3, 4] rfl ?_
                  refine g_goto (tgt := 27) dX7_least_94 (by decide) ?_
                  refine g_pick (lv' := [(0, .ref (uk_ad G 60)), (1, .int m), (2, .int w), (3, .int i12), (4, .int (i16 + 1))]) [0, 1, 2, 3, 4] rfl ?_
                  exact ihi16 (by first | lia | grind)  u24 hu24 fu24 riu24 
                · refine g_iload_n dX7_least_58 rfl ?_
                  refine g_if_ne (tgt := 66) dX7_least_59 (by decide) (fun c32 => ?_) (fun c32 => ?_)
                  · refine g_iload_n dX7_least_66 rfl ?_
                    refine g_bipush (v := 10) dX7_least_67 (by decide) ?_
                    refine g_isub dX7_least_69 ?_
                    refine g_topi (fun x33 ex33 => ?_)
                    refine g_iload_n dX7_least_70 rfl ?_
                    refine g_icmp_ge (tgt := 88) dX7_least_71 (by decide) (fun c34 => ?_) (fun c34 => ?_)
                    · refine g_bipush (v := (-4)) dX7_least_88 (by decide) ?_
                      exact g_iret (ty := .int) dX7_least_90 rfl rfl ⟨⟨_, rfl, by first | trivial | lia | grind⟩, hu24, fu24, riu24⟩
                    · refine g_aload_n dX7_least_74 rfl ?_
                      refine g_iload dX7_least_75 rfl ?_
                      refine g_iload_n dX7_least_77 rfl ?_
                      refine g_iload_n dX7_least_78 rfl ?_
                      refine g_bipush (v := 10) dX7_least_79 (by decide) ?_
                      refine g_isub dX7_least_81 ?_
                      refine g_topi (fun x35 ex35 => ?_)
                      refine cl_X7_244 (c := 60) (As := [.int i16, .int i12, .int x35]) rfl (c_X7_doingIn (G := G) hs hu24  i16 i12 x35 (by first | trivial | decide | lia | grind) (by first | trivial | decide | lia | grind) (by first | trivial | decide | lia | grind) (d + 2)) rfl (by omega) rfl rfl (Nat.le_of_ble_eq_true rfl) dX7_least_82 (fun r36 u37 q38 => ?_)
                      obtain ⟨⟨x39, rfl, tx39⟩, mq38⟩ := q38
                      rw [mq38]
                      refine g_goto (tgt := 90) dX7_least_85 (by decide) ?_
                      exact g_iret (ty := .int) dX7_least_90 rfl rfl ⟨⟨_, rfl, by first | trivial | lia | grind⟩, hu24, fu24, riu24⟩
                  · refine g_iload_n dX7_least_62 rfl ?_
                    refine g_goto (tgt := 90) dX7_least_63 (by decide) ?_
                    exact g_iret (ty := .int) dX7_least_90 rfl rfl ⟨⟨_, rfl, by first | trivial | lia | grind⟩, hu24, fu24, riu24⟩
          refine g_pick (lv' := [(0, .ref (uk_ad G 60)), (1, .int m), (2, .int w), (3, .int i12), (4, .int 0)]) [0, 1, 2, 3, 4] rfl ?_
          exact L27_14 0 (by first | decide | lia | grind) (by first | decide | lia | grind)  u13 hu13 fu13 riu13 
      refine g_pick (lv' := [(0, .ref (uk_ad G 60)), (1, .int m), (2, .int w), (3, .int 0)]) [0, 1, 2, 3] rfl ?_
      exact L19_10 0 (by first | decide | lia | grind) (by first | decide | lia | grind)  u hu f0 hri 
    · have zc10 := zx9 c10
      refine g_iconst (v := (-1)) dX7_least_15 (by decide) ?_
      exact g_iret (ty := .int) dX7_least_16 rfl rfl ⟨⟨_, rfl, by first | trivial | lia | grind⟩, hu, f0, hri⟩
