abbrev q_X7_doingIn (u : uk_Mem) (c : Int32) (n : Int32) (i : Int32) (r : Option Value) (u' : uk_Mem) : Prop := (∃ x : Int32, r = some (.int x) ∧ True) ∧ (u' = u)
set_option maxHeartbeats 4000000 in
set_option maxRecDepth 20000 in
theorem c_X7_doingIn {G : uk_D} (hs : uk_Sep G) {u : uk_Mem} (hu : iv u) (c : Int32) (n : Int32) (i : Int32) (p0 : 0 ≤ i) (p1 : i < n) (p2 : n ≤ 4) (d : Nat) : uk_Meth G (d + 1) mX7_doingIn [.ref (uk_ad G 60), .int c, .int n, .int i] u (q_X7_doingIn u c n i) := by
  refine uk_Meth.of hs (by decide) (Nat.le_of_ble_eq_true rfl) (fun X => ?_)
  refine g_iload_n dX7_doingIn_0 rfl ?_
  refine g_aload_n dX7_doingIn_1 rfl ?_
  refine g_iload_n dX7_doingIn_2 rfl ?_
  refine g_iconst (v := 1) dX7_doingIn_3 (by decide) ?_
  refine g_isub dX7_doingIn_4 ?_
  refine g_topi (fun x1 ex1 => ?_)
  refine g_iload_n dX7_doingIn_5 rfl ?_
  refine g_isub dX7_doingIn_6 ?_
  refine g_topi (fun x2 ex2 => ?_)
  refine cl_X7_241 (c := 60) (As := [.int x2]) rfl (c_X7_baseTo (G := G) hs hu  x2 (by first | trivial | decide | lia | grind) (d)) rfl (by omega) rfl rfl (Nat.le_of_ble_eq_true rfl) dX7_doingIn_7 (fun r3 u4 q5 => ?_)
  obtain ⟨⟨x6, rfl, tx6⟩, mq5⟩ := q5
  rw [mq5]
  refine g_idiv dX7_doingIn_10 (by first | decide | lia | grind) ?_
  refine g_topi (fun x7 ex7 => ?_)
  refine g_bipush (v := 16) dX7_doingIn_11 (by decide) ?_
  refine g_irem dX7_doingIn_13 (by first | decide | lia | grind) ?_
  refine g_topi (fun x8 ex8 => ?_)
  refine g_istore dX7_doingIn_14 (by decide) ?_
  refine g_pick (lv' := [(0, .ref (uk_ad G 60)), (1, .int c), (2, .int n), (3, .int i), (4, .int x8)]) [0, 1, 2, 3, 4] rfl ?_
  refine g_iload dX7_doingIn_16 rfl ?_
  refine g_bipush (v := 8) dX7_doingIn_18 (by decide) ?_
  refine g_icmp_ge (tgt := 28) dX7_doingIn_20 (by decide) (fun c9 => ?_) (fun c9 => ?_)
  · refine g_bipush (v := 10) dX7_doingIn_28 (by decide) ?_
    refine g_iload dX7_doingIn_30 rfl ?_
    refine g_iadd dX7_doingIn_32 ?_
    refine g_topi (fun x10 ex10 => ?_)
    refine g_bipush (v := 8) dX7_doingIn_33 (by decide) ?_
    refine g_isub dX7_doingIn_35 ?_
    refine g_topi (fun x11 ex11 => ?_)
    exact g_iret (ty := .int) dX7_doingIn_36 rfl rfl ⟨⟨_, rfl, by first | trivial | lia | grind⟩, rfl⟩
  · refine g_iload dX7_doingIn_23 rfl ?_
    refine g_goto (tgt := 36) dX7_doingIn_25 (by decide) ?_
    exact g_iret (ty := .int) dX7_doingIn_36 rfl rfl ⟨⟨_, rfl, by first | trivial | lia | grind⟩, rfl⟩
abbrev q_X7_doRow (u : uk_Mem) (c : Int32) (n : Int32) (r : Option Value) (u' : uk_Mem) : Prop := (∃ x : Int32, r = some (.int x) ∧ (x = 0 ∨ x = 1) ∧ (¬ x = 0 → True) ∧ (x = 0 → True)) ∧ (iv u' ∧ fk [62] [] u u' ∧ ri u')
set_option maxHeartbeats 4000000 in
set_option maxRecDepth 20000 in
theorem c_X7_doRow {G : uk_D} (hs : uk_Sep G) {u : uk_Mem} (hu : iv u) (hri : ri u) (c : Int32) (n : Int32) (p0 : n ≤ 4) (d : Nat) : uk_Meth G (d + 3) mX7_doRow [.ref (uk_ad G 60), .int c, .int n] u (q_X7_doRow u c n) := by
  refine uk_Meth.of hs (by decide) (Nat.le_of_ble_eq_true rfl) (fun X => ?_)
  have f0 : fk [62] [] u u := fk_rf
  refine g_aload_n dX7_doRow_0 rfl ?_
  refine cl_X7_185 (c := 60) (As := []) rfl (c_X7_starts (G := G) hs hu hri    (d + 2)) rfl (by omega) rfl rfl (Nat.le_of_ble_eq_true rfl) dX7_doRow_1 (fun r1 u2 q3 => ?_)
  obtain ⟨rfl, mq3⟩ := q3
  obtain ⟨hu2, gu2, rau2, ku20⟩ := mq3
  have fu2 : fk [62] [] u u2 := fk_tr f0 gu2 (by decide) (by decide)
  have riu2 : ri u2 := ri_fk hri gu2 (by decide) (by decide) (by decide) (by decide) (by decide)
  have wu2_60_3 : u2.1 60 3 = u.1 60 3 := fk_at gu2 (by decide)
  refine g_iconst (v := 0) dX7_doRow_4 (by decide) ?_
  refine g_istore_n dX7_doRow_5 (by decide) ?_
  refine g_pick (lv' := [(0, .ref (uk_ad G 60)), (1, .int c), (2, .int n), (3, .int 0)]) [0, 1, 2, 3] rfl ?_
  have L6_3 : ∀ i5 : Int32, 0 ≤ i5 → i5 ≤ 4 → ∀ (u6 : uk_Mem), iv u6 → fk [62] [] u u6 → ri u6 → ra u6 → uk_G G X mX7_doRow (d + 3) (q_X7_doRow u c n) 6 [(0, .ref (uk_ad G 60)), (1, .int c), (2, .int n), (3, .int i5)] [] u6 := by
    refine uk_upl 4 ?_
    intro i5 ai5 bi5 ihi5  u6 hu6 fu6 riu6 rau6
    have wu6_60_3 : u6.1 60 3 = u.1 60 3 := fk_at fu6 (by decide)
    refine g_iload_n dX7_doRow_6 rfl ?_
    refine g_iload_n dX7_doRow_7 rfl ?_
    refine g_icmp_ge (tgt := 52) dX7_doRow_8 (by decide) (fun c7 => ?_) (fun c7 => ?_)
    · refine g_iconst (v := 1) dX7_doRow_52 (by decide) ?_
      exact g_iret (ty := .boolean) dX7_doRow_53 rfl rfl ⟨⟨1, rfl, Or.inr rfl, fun _ => by first | trivial | lia | grind, fun q => absurd q (by decide)⟩, hu6, fu6, riu6⟩
    · refine g_aload_n dX7_doRow_11 rfl ?_
      refine g_iload_n dX7_doRow_12 rfl ?_
      refine g_iload_n dX7_doRow_13 rfl ?_
      refine g_iload_n dX7_doRow_14 rfl ?_
      refine cl_X7_244 (c := 60) (As := [.int c, .int n, .int i5]) rfl (c_X7_doingIn (G := G) hs hu6  c n i5 (by first | trivial | decide | lia | grind) (by first | trivial | decide | lia | grind) (by first | trivial | decide | lia | grind) (d + 1)) rfl (by omega) rfl rfl (Nat.le_of_ble_eq_true rfl) dX7_doRow_15 (fun r8 u9 q10 => ?_)
      obtain ⟨⟨x11, rfl, tx11⟩, mq10⟩ := q10
      rw [mq10]
      refine g_istore dX7_doRow_18 (by decide) ?_
      refine g_pick (lv' := [(0, .ref (uk_ad G 60)), (1, .int c), (2, .int n), (3, .int i5), (4, .int x11)]) [0, 1, 2, 3, 4] rfl ?_
      refine g_aload_n dX7_doRow_20 rfl ?_
      refine g_iload dX7_doRow_21 rfl ?_
      refine cl_X7_182 (c := 60) (As := [.int x11]) rfl (c_X7_isDoing (G := G) hs hu6  x11  (d)) rfl (by omega) rfl rfl (Nat.le_of_ble_eq_true rfl) dX7_doRow_23 (fun r12 u13 q14 => ?_)
      obtain ⟨⟨x15, rfl, tx15, nx15, zx15⟩, mq14⟩ := q14
      rw [mq14]
      refine g_if_eq (tgt := 38) dX7_doRow_26 (by decide) (fun c16 => ?_) (fun c16 => ?_)
      · have zc16 := zx15 c16
        refine g_iconst (v := 0) dX7_doRow_38 (by decide) ?_
        exact g_iret (ty := .boolean) dX7_doRow_39 rfl rfl ⟨⟨0, rfl, Or.inl rfl, fun q => absurd rfl q, fun _ => by first | trivial | lia | grind⟩, hu6, fu6, riu6⟩
      · have zc16 := nx15 c16
        refine g_aload_n dX7_doRow_29 rfl ?_
        refine g_iload dX7_doRow_30 rfl ?_
        refine cl_X7_188 (c := 60) (As := [.int x11]) rfl (c_X7_canDo (G := G) hs hu6 rau6  x11 (by first | trivial | decide | lia | grind) (d)) rfl (by omega) rfl rfl (Nat.le_of_ble_eq_true rfl) dX7_doRow_32 (fun r17 u18 q19 => ?_)
        obtain ⟨⟨x20, rfl, tx20, nx20, zx20⟩, mq19⟩ := q19
        rw [mq19]
        refine g_if_ne (tgt := 40) dX7_doRow_35 (by decide) (fun c21 => ?_) (fun c21 => ?_)
        · have zc21 := nx20 c21
          refine g_aload_n dX7_doRow_40 rfl ?_
          refine g_iload dX7_doRow_41 rfl ?_
          refine cl_X7_191 (c := 60) (As := [.int x11]) rfl (c_X7_doIt (G := G) hs hu6 rau6  x11 (by first | trivial | decide | lia | grind) (by first | trivial | decide | lia | grind) (by first | trivial | decide | lia | grind) (d + 1)) rfl (by omega) rfl rfl (Nat.le_of_ble_eq_true rfl) dX7_doRow_43 (fun r22 u23 q24 => ?_)
          obtain ⟨rfl, mq24⟩ := q24
          obtain ⟨hu23, gu23, rau23⟩ := mq24
          have fu23 : fk [62] [] u u23 := fk_tr fu6 gu23 (by decide) (by decide)
          have riu23 : ri u23 := ri_fk riu6 gu23 (by decide) (by decide) (by decide) (by decide) (by decide)
          have wu23_60_3 : u23.1 60 3 = u6.1 60 3 := fk_at gu23 (by decide)
          refine g_iinc (v := i5 + 1) dX7_doRow_46 rfl rfl (by decide) ?_
          refine g_pick (lv' := [(0, .ref (uk_ad G 60)), (1, .int c), (2, .int n), (3, .int (i5 + 1)), (4, .int x11)]) [0, 1, 2, 3, 4] rfl ?_
          refine g_goto (tgt := 6) dX7_doRow_49 (by decide) ?_
          refine g_pick (lv' := [(0, .ref (uk_ad G 60)), (1, .int c), (2, .int n), (3, .int (i5 + 1))]) [0, 1, 2, 3] rfl ?_
          exact ihi5 (by first | lia | grind)  u23 hu23 fu23 riu23 rau23 
        · have zc21 := zx20 c21
          refine g_iconst (v := 0) dX7_doRow_38 (by decide) ?_
          exact g_iret (ty := .boolean) dX7_doRow_39 rfl rfl ⟨⟨0, rfl, Or.inl rfl, fun q => absurd rfl q, fun _ => by first | trivial | lia | grind⟩, hu6, fu6, riu6⟩
  refine g_pick (lv' := [(0, .ref (uk_ad G 60)), (1, .int c), (2, .int n), (3, .int 0)]) [0, 1, 2, 3] rfl ?_
  exact L6_3 0 (by first | decide | lia | grind) (by first | decide | lia | grind)  u2 hu2 fu2 riu2 rau2 
