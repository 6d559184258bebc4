abbrev q_X7_isDoing (u : uk_Mem) (g : Int32) (r : Option Value) (u' : uk_Mem) : Prop := (∃ x : Int32, r = some (.int x) ∧ (x = 0 ∨ x = 1) ∧ (¬ x = 0 → ((0 ≤ g ∧ g ≤ 7 ∧ g < u.1 60 3) ∨ (10 ≤ g ∧ g ≤ 17 ∧ g - 10 < u.1 60 3))) ∧ (x = 0 → True)) ∧ (u' = u)
set_option maxHeartbeats 4000000 in
set_option maxRecDepth 20000 in
theorem c_X7_isDoing {G : uk_D} (hs : uk_Sep G) {u : uk_Mem} (hu : iv u) (g : Int32) (d : Nat) : uk_Meth G (d + 2) mX7_isDoing [.ref (uk_ad G 60), .int g] u (q_X7_isDoing u g) := by
  refine uk_Meth.of hs (by decide) (Nat.le_of_ble_eq_true rfl) (fun X => ?_)
  refine g_aload_n dX7_isDoing_0 rfl ?_
  refine g_iload_n dX7_isDoing_1 rfl ?_
  refine cl_X7_163 (c := 60) (As := [.int g]) rfl (c_X7_isStuff (G := G) hs hu  g  (d)) rfl (by omega) rfl rfl (Nat.le_of_ble_eq_true rfl) dX7_isDoing_2 (fun r1 u2 q3 => ?_)
  obtain ⟨⟨x4, rfl, tx4, nx4, zx4⟩, mq3⟩ := q3
  rw [mq3]
  refine g_if_ne (tgt := 19) dX7_isDoing_5 (by decide) (fun c5 => ?_) (fun c5 => ?_)
  · have zc5 := nx4 c5
    refine g_iconst (v := 1) dX7_isDoing_19 (by decide) ?_
    refine g_goto (tgt := 24) dX7_isDoing_20 (by decide) ?_
    exact g_iret (ty := .boolean) dX7_isDoing_24 rfl rfl ⟨⟨1, rfl, Or.inr rfl, fun _ => by first | trivial | lia | grind, fun q => absurd q (by decide)⟩, rfl⟩
  · have zc5 := zx4 c5
    refine g_aload_n dX7_isDoing_8 rfl ?_
    refine g_iload_n dX7_isDoing_9 rfl ?_
    refine g_bipush (v := 10) dX7_isDoing_10 (by decide) ?_
    refine g_isub dX7_isDoing_12 ?_
    refine g_topi (fun x6 ex6 => ?_)
    refine cl_X7_163 (c := 60) (As := [.int x6]) rfl (c_X7_isStuff (G := G) hs hu  x6  (d)) rfl (by omega) rfl rfl (Nat.le_of_ble_eq_true rfl) dX7_isDoing_13 (fun r7 u8 q9 => ?_)
    obtain ⟨⟨x10, rfl, tx10, nx10, zx10⟩, mq9⟩ := q9
    rw [mq9]
    refine g_if_eq (tgt := 23) dX7_isDoing_16 (by decide) (fun c11 => ?_) (fun c11 => ?_)
    · have zc11 := zx10 c11
      refine g_iconst (v := 0) dX7_isDoing_23 (by decide) ?_
      exact g_iret (ty := .boolean) dX7_isDoing_24 rfl rfl ⟨⟨0, rfl, Or.inl rfl, fun q => absurd rfl q, fun _ => by first | trivial | lia | grind⟩, rfl⟩
    · have zc11 := nx10 c11
      refine g_iconst (v := 1) dX7_isDoing_19 (by decide) ?_
      refine g_goto (tgt := 24) dX7_isDoing_20 (by decide) ?_
      exact g_iret (ty := .boolean) dX7_isDoing_24 rfl rfl ⟨⟨1, rfl, Or.inr rfl, fun _ => by first | trivial | lia | grind, fun q => absurd q (by decide)⟩, rfl⟩
abbrev q_X7_allOf (u : uk_Mem) (w : Int32) (r : Option Value) (u' : uk_Mem) : Prop := (∃ x : Int32, r = some (.int x) ∧ True) ∧ (u' = u)
set_option maxHeartbeats 4000000 in
set_option maxRecDepth 20000 in
theorem c_X7_allOf {G : uk_D} (hs : uk_Sep G) {u : uk_Mem} (hu : iv u) (w : Int32) (p0 : w = 0 ∨ w = 16) (d : Nat) : uk_Meth G d mX7_allOf [.ref (uk_ad G 60), .int w] u (q_X7_allOf u w) := by
  refine uk_Meth.of hs (by decide) (Nat.le_of_ble_eq_true rfl) (fun X => ?_)
  refine g_iconst (v := 0) dX7_allOf_0 (by decide) ?_
  refine g_istore_n dX7_allOf_1 (by decide) ?_
  refine g_iconst (v := 0) dX7_allOf_2 (by decide) ?_
  refine g_istore_n dX7_allOf_3 (by decide) ?_
  have L4_0 : ∀ i3 : Int32, 0 ≤ i3 → i3 ≤ 8 → ∀ (w2 : Int32), uk_G G X mX7_allOf d (q_X7_allOf u w) 4 [(0, .ref (uk_ad G 60)), (1, .int w), (2, .int w2), (3, .int i3)] [] u := by
    refine uk_upl 8 ?_
    intro i3 ai3 bi3 ihi3 w2
    refine g_iload_n dX7_allOf_4 rfl ?_
    refine g_aload_n dX7_allOf_5 rfl ?_
    refine f_X7_79 rfl rfl dX7_allOf_6 ?_
    refine g_topi (fun x4 ex4 => ?_)
    have rx4 : 0 ≤ x4 ∧ x4 ≤ 8 := by rw [ex4]; exact iv_at hu _ _ rfl
    have s5 : u.1 60 3 = x4 := ex4.symm
    refine g_icmp_ge (tgt := 46) dX7_allOf_9 (by decide) (fun c6 => ?_) (fun c6 => ?_)
    · refine g_iload_n dX7_allOf_46 rfl ?_
      exact g_iret (ty := .int) dX7_allOf_47 rfl rfl ⟨⟨_, rfl, by first | trivial | lia | grind⟩, rfl⟩
    · refine g_iload_n dX7_allOf_12 rfl ?_
      refine g_aload_n dX7_allOf_13 rfl ?_
      refine f_X7_13 rfl rfl dX7_allOf_14 ?_
      refine g_iconst (v := 0) dX7_allOf_17 (by decide) ?_
      refine g_iload_n dX7_allOf_18 rfl ?_
      refine g_iadd dX7_allOf_19 ?_
      refine g_topi (fun x7 ex7 => ?_)
      have ox7 : x7 = i3 := by rw [ex7, Int32.zero_add]
      have v8 : vp_in x7 51 := uk_vin 51 rfl (by first | decide | lia | grind) (by first | decide | lia | grind)
      refine g_iald rfl rfl v8 dX7_allOf_20 ?_
      refine g_topi (fun x9 ex9 => ?_)
      have bx9 := uk_cl v8
      have rx9 : 0 ≤ x9 ∧ x9 ≤ 40 := by rw [ex9]; exact sg_0 hu (by unfold uk_is51; decide) (by first | lia | grind) (by first | lia | grind)
      refine g_iload_n dX7_allOf_21 rfl ?_
      refine g_if_ne (tgt := 29) dX7_allOf_22 (by decide) (fun c10 => ?_) (fun c10 => ?_)
      · refine g_aload_n dX7_allOf_29 rfl ?_
        refine f_X7_13 rfl rfl dX7_allOf_30 ?_
        refine g_iload_n dX7_allOf_33 rfl ?_
        refine g_iload_n dX7_allOf_34 rfl ?_
        refine g_iadd dX7_allOf_35 ?_
        refine g_topi (fun x11 ex11 => ?_)
        have v12 : vp_in x11 51 := uk_vin 51 rfl (by first | decide | lia | grind) (by first | decide | lia | grind)
        refine g_iald rfl rfl v12 dX7_allOf_36 ?_
        refine g_topi (fun x13 ex13 => ?_)
        have bx13 := uk_cl v12
        refine g_imul dX7_allOf_37 ?_
        refine g_topi (fun x14 ex14 => ?_)
        refine g_iadd dX7_allOf_38 ?_
        refine g_topi (fun x15 ex15 => ?_)
        refine g_istore_n dX7_allOf_39 (by decide) ?_
        refine g_iinc (v := i3 + 1) dX7_allOf_40 rfl rfl (by decide) ?_
        refine g_goto (tgt := 4) dX7_allOf_43 (by decide) ?_
        refine g_pick (lv' := [(0, .ref (uk_ad G 60)), (1, .int w), (2, .int x15), (3, .int (i3 + 1))]) [0, 1, 2, 3] rfl ?_
        exact ihi3 (by first | lia | grind) x15 
      · refine g_iconst (v := 1) dX7_allOf_25 (by decide) ?_
        refine g_goto (tgt := 37) dX7_allOf_26 (by decide) ?_
        refine g_imul dX7_allOf_37 ?_
        refine g_topi (fun x16 ex16 => ?_)
        refine g_iadd dX7_allOf_38 ?_
        refine g_topi (fun x17 ex17 => ?_)
        refine g_istore_n dX7_allOf_39 (by decide) ?_
        refine g_iinc (v := i3 + 1) dX7_allOf_40 rfl rfl (by decide) ?_
        refine g_goto (tgt := 4) dX7_allOf_43 (by decide) ?_
        refine g_pick (lv' := [(0, .ref (uk_ad G 60)), (1, .int w), (2, .int x17), (3, .int (i3 + 1))]) [0, 1, 2, 3] rfl ?_
        exact ihi3 (by first | lia | grind) x17 
  refine g_pick (lv' := [(0, .ref (uk_ad G 60)), (1, .int w), (2, .int 0), (3, .int 0)]) [0, 1, 2, 3] rfl ?_
  exact L4_0 0 (by first | decide | lia | grind) (by first | decide | lia | grind) 0 
abbrev q_X7_rule (u : uk_Mem) (w : Int32) (r : Option Value) (u' : uk_Mem) : Prop := (∃ x : Int32, r = some (.int x) ∧ True) ∧ (u' = u)
set_option maxHeartbeats 4000000 in
set_option maxRecDepth 20000 in
theorem c_X7_rule {G : uk_D} (hs : uk_Sep G) {u : uk_Mem} (hu : iv u) (w : Int32) (d : Nat) : uk_Meth G (d + 1) mX7_rule [.ref (uk_ad G 60), .int w] u (q_X7_rule u w) := by
  refine uk_Meth.of hs (by decide) (Nat.le_of_ble_eq_true rfl) (fun X => ?_)
  refine g_iconst (v := 0) dX7_rule_0 (by decide) ?_
  refine g_istore_n dX7_rule_1 (by decide) ?_
  refine g_iconst (v := 0) dX7_rule_2 (by decide) ?_
  refine g_istore_n dX7_rule_3 (by decide) ?_
  refine g_iconst (v := 0) dX7_rule_4 (by decide) ?_
  refine g_istore dX7_rule_5 (by decide) ?_
  have L7_0 : ∀ i4 : Int32, 0 ≤ i4 → i4 ≤ 8 → ∀ (w2 : Int32) (w3 : Int32), uk_G G X mX7_rule (d + 1) (q_X7_rule u w) 7 [(0, .ref (uk_ad G 60)), (1, .int w), (2, .int w2), (3, .int w3), (4, .int i4)] [] u := by
    refine uk_upl 8 ?_
    intro i4 ai4 bi4 ihi4 w2 w3
    refine g_iload dX7_rule_7 rfl ?_
    refine g_aload_n dX7_rule_9 rfl ?_
    refine f_X7_79 rfl rfl dX7_rule_10 ?_
    refine g_topi (fun x5 ex5 => ?_)
    have rx5 : 0 ≤ x5 ∧ x5 ≤ 8 := by rw [ex5]; exact iv_at hu _ _ rfl
    have s6 : u.1 60 3 = x5 := ex5.symm
    refine g_icmp_ge (tgt := 63) dX7_rule_13 (by decide) (fun c7 => ?_) (fun c7 => ?_)
    · refine g_iload_n dX7_rule_63 rfl ?_
      by_cases c8 : w = 0
      · refine g_tabIn (off := (36)) (tgt := 100) dX7_rule_64 (by rw [c8]; decide) (by rw [c8]; decide) (by rw [c8]; rfl) (by decide) ?_
        refine g_aload_n dX7_rule_100 rfl ?_
        refine f_X7_79 rfl rfl dX7_rule_101 ?_
        refine g_topi (fun x9 ex9 => ?_)
        have rx9 : 0 ≤ x9 ∧ x9 ≤ 8 := by rw [ex9]; exact iv_at hu _ _ rfl
        have qx9 : x9 = x5 := by rw [ex9]; exact s6
        exact g_iret (ty := .int) dX7_rule_104 rfl rfl ⟨⟨_, rfl, by first | trivial | lia | grind⟩, rfl⟩
      by_cases c10 : w = 1
      · refine g_tabIn (off := (41)) (tgt := 105) dX7_rule_64 (by rw [c10]; decide) (by rw [c10]; decide) (by rw [c10]; rfl) (by decide) ?_
        refine g_aload_n dX7_rule_105 rfl ?_
        refine f_X7_7 rfl rfl dX7_rule_106 ?_
        refine g_bipush (v := 40) dX7_rule_109 (by decide) ?_
        have v11 : vp_in 40 153 := uk_vin 153 rfl (by first | decide | lia | grind) (by first | decide | lia | grind)
        refine g_iald rfl rfl v11 dX7_rule_111 ?_
        refine g_topi (fun x12 ex12 => ?_)
        have bx12 := uk_cl v11
        exact g_iret (ty := .int) dX7_rule_112 rfl rfl ⟨⟨_, rfl, by first | trivial | lia | grind⟩, rfl⟩
      by_cases c13 : w = 2
      · refine g_tabIn (off := (49)) (tgt := 113) dX7_rule_64 (by rw [c13]; decide) (by rw [c13]; decide) (by rw [c13]; rfl) (by decide) ?_
        refine g_aload_n dX7_rule_113 rfl ?_
        refine f_X7_7 rfl rfl dX7_rule_114 ?_
        refine g_bipush (v := 41) dX7_rule_117 (by decide) ?_
        have v14 : vp_in 41 153 := uk_vin 153 rfl (by first | decide | lia | grind) (by first | decide | lia | grind)
        refine g_iald rfl rfl v14 dX7_rule_119 ?_
        refine g_topi (fun x15 ex15 => ?_)
        have bx15 := uk_cl v14
        exact g_iret (ty := .int) dX7_rule_120 rfl rfl ⟨⟨_, rfl, by first | trivial | lia | grind⟩, rfl⟩
      by_cases c16 : w = 3
      · refine g_tabIn (off := (57)) (tgt := 121) dX7_rule_64 (by rw [c16]; decide) (by rw [c16]; decide) (by rw [c16]; rfl) (by decide) ?_
        refine g_iload_n dX7_rule_121 rfl ?_
        exact g_iret (ty := .int) dX7_rule_122 rfl rfl ⟨⟨_, rfl, by first | trivial | lia | grind⟩, rfl⟩
      by_cases c17 : w = 4
      · refine g_tabIn (off := (59)) (tgt := 123) dX7_rule_64 (by rw [c17]; decide) (by rw [c17]; decide) (by rw [c17]; rfl) (by decide) ?_
        refine g_iload_n dX7_rule_123 rfl ?_
        exact g_iret (ty := .int) dX7_rule_124 rfl rfl ⟨⟨_, rfl, by first | trivial | lia | grind⟩, rfl⟩
      refine g_tabOut (tgt := 125) dX7_rule_64 (uk_swo 0 4 rfl rfl (by first | lia | grind)) (by decide) ?_
      refine g_iconst (v := (-1)) dX7_rule_125 (by decide) ?_
      exact g_iret (ty := .int) dX7_rule_126 rfl rfl ⟨⟨_, rfl, by first | trivial | lia | grind⟩, rfl⟩
    · refine g_iload_n dX7_rule_16 rfl ?_
      refine g_aload_n dX7_rule_17 rfl ?_
      refine g_iload dX7_rule_18 rfl ?_
      refine cl_X7_166 (c := 60) (As := [.int i4]) rfl (c_X7_isRaw (G := G) hs hu  i4 (by first | trivial | decide | lia | grind) (by first | trivial | decide | lia | grind) (d)) rfl (by omega) rfl rfl (Nat.le_of_ble_eq_true rfl) dX7_rule_20 (fun r18 u19 q20 => ?_)
      obtain ⟨⟨x21, rfl, tx21, nx21, zx21⟩, mq20⟩ := q20
      rw [mq20]
      refine cl_X7_169 (As := [.int x21]) rfl (c_X7_flag (G := G) hs hu  x21  (d)) rfl (by omega) rfl (Nat.le_of_ble_eq_true rfl) dX7_rule_23 (fun r22 u23 q24 => ?_)
      obtain ⟨⟨x25, rfl, tx25⟩, mq24⟩ := q24
      rw [mq24]
      refine g_iload dX7_rule_26 rfl ?_
      refine g_ishl dX7_rule_28 (fun x26 ex26 => ?_)
      refine g_ior dX7_rule_29 ?_
      refine g_topi (fun x27 ex27 => ?_)
      refine g_istore_n dX7_rule_30 (by decide) ?_
      refine g_iload_n dX7_rule_31 rfl ?_
      refine g_aload_n dX7_rule_32 rfl ?_
      refine f_X7_7 rfl rfl dX7_rule_33 ?_
      refine g_iconst (v := 0) dX7_rule_36 (by decide) ?_
      refine g_iload dX7_rule_37 rfl ?_
      refine g_iadd dX7_rule_39 ?_
      refine g_topi (fun x28 ex28 => ?_)
      have ox28 : x28 = i4 := by rw [ex28, Int32.zero_add]
      have v29 : vp_in x28 153 := uk_vin 153 rfl (by first | decide | lia | grind) (by first | decide | lia | grind)
      refine g_iald rfl rfl v29 dX7_rule_40 ?_
      refine g_topi (fun x30 ex30 => ?_)
      have bx30 := uk_cl v29
      have rx30 : 0 ≤ x30 ∧ x30 ≤ 40 := by rw [ex30]; exact sg_0 hu (by unfold uk_is51; decide) (by first | lia | grind) (by first | lia | grind)
      refine g_if_le (tgt := 48) dX7_rule_41 (by decide) (fun c31 => ?_) (fun c31 => ?_)
      · refine g_iconst (v := 0) dX7_rule_48 (by decide) ?_
        refine cl_X7_169 (As := [.int 0]) rfl (c_X7_flag (G := G) hs hu  0  (d)) rfl (by omega) rfl (Nat.le_of_ble_eq_true rfl) dX7_rule_49 (fun r32 u33 q34 => ?_)
        obtain ⟨⟨x35, rfl, tx35⟩, mq34⟩ := q34
        rw [mq34]
        refine g_iload dX7_rule_52 rfl ?_
        refine g_ishl dX7_rule_54 (fun x36 ex36 => ?_)
        refine g_ior dX7_rule_55 ?_
        refine g_topi (fun x37 ex37 => ?_)
        refine g_istore_n dX7_rule_56 (by decide) ?_
        refine g_iinc (v := i4 + 1) dX7_rule_57 rfl rfl (by decide) ?_
        refine g_goto (tgt := 7) dX7_rule_60 (by decide) ?_
        refine g_pick (lv' := [(0, .ref (uk_ad G 60)), (1, .int w), (2, .int x27), (3, .int x37), (4, .int (i4 + 1))]) [0, 1, 2, 3, 4] rfl ?_
        exact ihi4 (by first | lia | grind) x27 x37 
      · refine g_iconst (v := 1) dX7_rule_44 (by decide) ?_
        refine g_goto (tgt := 49) dX7_rule_45 (by decide) ?_
        refine cl_X7_169 (As := [.int 1]) rfl (c_X7_flag (G := G) hs hu  1  (d)) rfl (by omega) rfl (Nat.le_of_ble_eq_true rfl) dX7_rule_49 (fun r38 u39 q40 => ?_)
        obtain ⟨⟨x41, rfl, tx41⟩, mq40⟩ := q40
        rw [mq40]
        refine g_iload dX7_rule_52 rfl ?_
        refine g_ishl dX7_rule_54 (fun x42 ex42 => ?_)
        refine g_ior dX7_rule_55 ?_
        refine g_topi (fun x43 ex43 => ?_)
        refine g_istore_n dX7_rule_56 (by decide) ?_
        refine g_iinc (v := i4 + 1) dX7_rule_57 rfl rfl (by decide) ?_
        refine g_goto (tgt := 7) dX7_rule_60 (by decide) ?_
        refine g_pick (lv' := [(0, .ref (uk_ad G 60)), (1, .int w), (2, .int x27), (3, .int x43), (4, .int (i4 + 1))]) [0, 1, 2, 3, 4] rfl ?_
        exact ihi4 (by first | lia | grind) x27 x43 
  refine g_pick (lv' := [(0, .ref (uk_ad G 60)), (1, .int w), (2, .int 0), (3, .int 0), (4, .int 0)]) [0, 1, 2, 3, 4] rfl ?_
  exact L7_0 0 (by first | decide | lia | grind) (by first | decide | lia | grind) 0 0 
abbrev q_X7_stuff (u : uk_Mem) (m : Int32) (w : Int32) (r : Option Value) (u' : uk_Mem) : Prop := (∃ x : Int32, r = some (.int x) ∧ True) ∧ (u' = u)
set_option maxHeartbeats 4000000 in
set_option maxRecDepth 20000 in
theorem c_X7_stuff {G : uk_D} (hs : uk_Sep G) {u : uk_Mem} (hu : iv u) (m : Int32) (w : Int32) (d : Nat) : uk_Meth G (d + 2) mX7_stuff [.ref (uk_ad G 60), .int m, .int w] u (q_X7_stuff u m w) := by
  refine uk_Meth.of hs (by decide) (Nat.le_of_ble_eq_true rfl) (fun X => ?_)
  refine g_aload_n dX7_stuff_0 rfl ?_
  refine g_iload_n dX7_stuff_1 rfl ?_
  refine cl_X7_163 (c := 60) (As := [.int m]) rfl (c_X7_isStuff (G := G) hs hu  m  (d)) rfl (by omega) rfl rfl (Nat.le_of_ble_eq_true rfl) dX7_stuff_2 (fun r1 u2 q3 => ?_)
  obtain ⟨⟨x4, rfl, tx4, nx4, zx4⟩, mq3⟩ := q3
  rw [mq3]
  refine g_if_ne (tgt := 10) dX7_stuff_5 (by decide) (fun c5 => ?_) (fun c5 => ?_)
  · have zc5 := nx4 c5
    refine g_iload_n dX7_stuff_10 rfl ?_
    by_cases c6 : w = 0
    · refine g_tabIn (off := (41)) (tgt := 52) dX7_stuff_11 (by rw [c6]; decide) (by rw [c6]; decide) (by rw [c6]; rfl) (by decide) ?_
      refine g_aload_n dX7_stuff_52 rfl ?_
      refine f_X7_7 rfl rfl dX7_stuff_53 ?_
      refine g_bipush (v := 32) dX7_stuff_56 (by decide) ?_
      refine g_iload_n dX7_stuff_58 rfl ?_
      refine g_iadd dX7_stuff_59 ?_
      refine g_topi (fun x7 ex7 => ?_)
      have v8 : vp_in x7 153 := uk_vin 153 rfl (by first | decide | lia | grind) (by first | decide | lia | grind)
      refine g_iald rfl rfl v8 dX7_stuff_60 ?_
      refine g_topi (fun x9 ex9 => ?_)
      have bx9 := uk_cl v8
      exact g_iret (ty := .int) dX7_stuff_61 rfl rfl ⟨⟨_, rfl, by first | trivial | lia | grind⟩, rfl⟩
    by_cases c10 : w = 1
    · refine g_tabIn (off := (51)) (tgt := 62) dX7_stuff_11 (by rw [c10]; decide) (by rw [c10]; decide) (by rw [c10]; rfl) (by decide) ?_
      refine g_aload_n dX7_stuff_62 rfl ?_
      refine f_X7_20 rfl rfl dX7_stuff_63 ?_
      refine g_iload_n dX7_stuff_66 rfl ?_
      have v11 : vp_in m 8 := uk_vin 8 rfl (by first | decide | lia | grind) (by first | decide | lia | grind)
      refine g_iald rfl rfl v11 dX7_stuff_67 ?_
      refine g_topi (fun x12 ex12 => ?_)
      have bx12 := uk_cl v11
      have rx12 : (-4) ≤ x12 ∧ x12 ≤ 7 := by rw [ex12]; exact iv_at hu _ _ (uk_pick1 _ (by omega))
      exact g_iret (ty := .int) dX7_stuff_68 rfl rfl ⟨⟨_, rfl, by first | trivial | lia | grind⟩, rfl⟩
    by_cases c13 : w = 2
    · refine g_tabIn (off := (58)) (tgt := 69) dX7_stuff_11 (by rw [c13]; decide) (by rw [c13]; decide) (by rw [c13]; rfl) (by decide) ?_
      refine g_aload_n dX7_stuff_69 rfl ?_
      refine f_X7_23 rfl rfl dX7_stuff_70 ?_
      refine g_iload_n dX7_stuff_73 rfl ?_
      have v14 : vp_in m 8 := uk_vin 8 rfl (by first | decide | lia | grind) (by first | decide | lia | grind)
      refine g_iald rfl rfl v14 dX7_stuff_74 ?_
      refine g_topi (fun x15 ex15 => ?_)
      have bx15 := uk_cl v14
      have rx15 : (-4) ≤ x15 ∧ x15 ≤ 7 := by rw [ex15]; exact iv_at hu _ _ (uk_pick1 _ (by omega))
      exact g_iret (ty := .int) dX7_stuff_75 rfl rfl ⟨⟨_, rfl, by first | trivial | lia | grind⟩, rfl⟩
    by_cases c16 : w = 3
    · refine g_tabIn (off := (65)) (tgt := 76) dX7_stuff_11 (by rw [c16]; decide) (by rw [c16]; decide) (by rw [c16]; rfl) (by decide) ?_
      refine g_aload_n dX7_stuff_76 rfl ?_
      refine f_X7_7 rfl rfl dX7_stuff_77 ?_
      refine g_bipush (v := 16) dX7_stuff_80 (by decide) ?_
      refine g_iload_n dX7_stuff_82 rfl ?_
      refine g_iadd dX7_stuff_83 ?_
      refine g_topi (fun x17 ex17 => ?_)
      have v18 : vp_in x17 153 := uk_vin 153 rfl (by first | decide | lia | grind) (by first | decide | lia | grind)
      refine g_iald rfl rfl v18 dX7_stuff_84 ?_
      refine g_topi (fun x19 ex19 => ?_)
      have bx19 := uk_cl v18
      exact g_iret (ty := .int) dX7_stuff_85 rfl rfl ⟨⟨_, rfl, by first | trivial | lia | grind⟩, rfl⟩
    by_cases c20 : w = 4
    · refine g_tabIn (off := (75)) (tgt := 86) dX7_stuff_11 (by rw [c20]; decide) (by rw [c20]; decide) (by rw [c20]; rfl) (by decide) ?_
      refine g_aload_n dX7_stuff_86 rfl ?_
      refine g_iload_n dX7_stuff_87 rfl ?_
      refine cl_X7_166 (c := 60) (As := [.int m]) rfl (c_X7_isRaw (G := G) hs hu  m (by first | trivial | decide | lia | grind) (by first | trivial | decide | lia | grind) (d + 1)) rfl (by omega) rfl rfl (Nat.le_of_ble_eq_true rfl) dX7_stuff_88 (fun r21 u22 q23 => ?_)
      obtain ⟨⟨x24, rfl, tx24, nx24, zx24⟩, mq23⟩ := q23
      rw [mq23]
      refine g_if_eq (tgt := 106) dX7_stuff_91 (by decide) (fun c25 => ?_) (fun c25 => ?_)
      · have zc25 := zx24 c25
        refine g_bipush (v := (-4)) dX7_stuff_106 (by decide) ?_
        exact g_iret (ty := .int) dX7_stuff_108 rfl rfl ⟨⟨_, rfl, by first | trivial | lia | grind⟩, rfl⟩
      · have zc25 := nx24 c25
        refine g_aload_n dX7_stuff_94 rfl ?_
        refine f_X7_7 rfl rfl dX7_stuff_95 ?_
        refine g_bipush (v := 24) dX7_stuff_98 (by decide) ?_
        refine g_iload_n dX7_stuff_100 rfl ?_
        refine g_iadd dX7_stuff_101 ?_
        refine g_topi (fun x26 ex26 => ?_)
        have v27 : vp_in x26 153 := uk_vin 153 rfl (by first | decide | lia | grind) (by first | decide | lia | grind)
        refine g_iald rfl rfl v27 dX7_stuff_102 ?_
        refine g_topi (fun x28 ex28 => ?_)
        have bx28 := uk_cl v27
        refine g_goto (tgt := 108) dX7_stuff_103 (by decide) ?_
        exact g_iret (ty := .int) dX7_stuff_108 rfl rfl ⟨⟨_, rfl, by first | trivial | lia | grind⟩, rfl⟩
    by_cases c29 : w = 5
    · refine g_tabIn (off := (98)) (tgt := 109) dX7_stuff_11 (by rw [c29]; decide) (by rw [c29]; decide) (by rw [c29]; rfl) (by decide) ?_
      refine g_aload_n dX7_stuff_109 rfl ?_
      refine f_X7_7 rfl rfl dX7_stuff_110 ?_
      refine g_bipush (v := 8) dX7_stuff_113 (by decide) ?_
      refine g_iload_n dX7_stuff_115 rfl ?_
      refine g_iadd dX7_stuff_116 ?_
      refine g_topi (fun x30 ex30 => ?_)
      have v31 : vp_in x30 153 := uk_vin 153 rfl (by first | decide | lia | grind) (by first | decide | lia | grind)
      refine g_iald rfl rfl v31 dX7_stuff_117 ?_
      refine g_topi (fun x32 ex32 => ?_)
      have bx32 := uk_cl v31
      exact g_iret (ty := .int) dX7_stuff_118 rfl rfl ⟨⟨_, rfl, by first | trivial | lia | grind⟩, rfl⟩
    by_cases c33 : w = 6
    · refine g_tabIn (off := (108)) (tgt := 119) dX7_stuff_11 (by rw [c33]; decide) (by rw [c33]; decide) (by rw [c33]; rfl) (by decide) ?_
      refine g_aload_n dX7_stuff_119 rfl ?_
      refine f_X7_7 rfl rfl dX7_stuff_120 ?_
      refine g_iconst (v := 0) dX7_stuff_123 (by decide) ?_
      refine g_iload_n dX7_stuff_124 rfl ?_
      refine g_iadd dX7_stuff_125 ?_
      refine g_topi (fun x34 ex34 => ?_)
      have ox34 : x34 = m := by rw [ex34, Int32.zero_add]
      have v35 : vp_in x34 153 := uk_vin 153 rfl (by first | decide | lia | grind) (by first | decide | lia | grind)
      refine g_iald rfl rfl v35 dX7_stuff_126 ?_
      refine g_topi (fun x36 ex36 => ?_)
      have bx36 := uk_cl v35
      have rx36 : 0 ≤ x36 ∧ x36 ≤ 40 := by rw [ex36]; exact sg_0 hu (by unfold uk_is51; decide) (by first | lia | grind) (by first | lia | grind)
      exact g_iret (ty := .int) dX7_stuff_127 rfl rfl ⟨⟨_, rfl, by first | trivial | lia | grind⟩, rfl⟩
    refine g_tabOut (tgt := 128) dX7_stuff_11 (uk_swo 0 6 rfl rfl (by first | lia | grind)) (by decide) ?_
    refine g_iconst (v := (-1)) dX7_stuff_128 (by decide) ?_
    exact g_iret (ty := .int) dX7_stuff_129 rfl rfl ⟨⟨_, rfl, by first | trivial | lia | grind⟩, rfl⟩
  · have zc5 := zx4 c5
    refine g_iconst (v := (-1)) dX7_stuff_8 (by decide) ?_
    exact g_iret (ty := .int) dX7_stuff_9 rfl rfl ⟨⟨_, rfl, by first | trivial | lia | grind⟩, rfl⟩
