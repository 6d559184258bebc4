abbrev q_X2_doingAt (u : uk_Mem) (i : Int32) (r : Option Value) (u' : uk_Mem) : Prop := (∃ x : Int32, r = some (.int x) ∧ True) ∧ (u' = u)
set_option maxHeartbeats 4000000 in
set_option maxRecDepth 20000 in
theorem c_X2_doingAt {G : uk_D} (hs : uk_Sep G) {u : uk_Mem} (hu : iv u) (i : Int32) (d : Nat) : uk_Meth G d mX2_doingAt [.ref (uk_ad G 46), .int i] u (q_X2_doingAt u i) := by
  refine uk_Meth.of hs (by decide) (Nat.le_of_ble_eq_true rfl) (fun X => ?_)
  refine g_iload_n dX2_doingAt_0 rfl ?_
  refine g_if_lt (tgt := 21) dX2_doingAt_1 (by decide) (fun c1 => ?_) (fun c1 => ?_)
  · refine g_bipush (v := (-4)) dX2_doingAt_21 (by decide) ?_
    exact g_iret (ty := .int) dX2_doingAt_23 rfl rfl ⟨⟨_, rfl, by first | trivial | lia | grind⟩, rfl⟩
  · refine g_iload_n dX2_doingAt_4 rfl ?_
    refine g_aload_n dX2_doingAt_5 rfl ?_
    refine f_X2_18 rfl rfl dX2_doingAt_6 ?_
    refine g_topi (fun x2 ex2 => ?_)
    have rx2 : 0 ≤ x2 ∧ x2 ≤ 4 := by rw [ex2]; exact iv_at hu _ _ rfl
    have s3 : u.1 46 2 = x2 := ex2.symm
    refine g_icmp_ge (tgt := 21) dX2_doingAt_9 (by decide) (fun c4 => ?_) (fun c4 => ?_)
    · refine g_bipush (v := (-4)) dX2_doingAt_21 (by decide) ?_
      exact g_iret (ty := .int) dX2_doingAt_23 rfl rfl ⟨⟨_, rfl, by first | trivial | lia | grind⟩, rfl⟩
    · refine g_aload_n dX2_doingAt_12 rfl ?_
      refine f_X2_15 rfl rfl dX2_doingAt_13 ?_
      refine g_iload_n dX2_doingAt_16 rfl ?_
      have v5 : vp_in i 4 := uk_vin 4 rfl (by first | decide | lia | grind) (by first | decide | lia | grind)
      refine g_iald rfl rfl v5 dX2_doingAt_17 ?_
      refine g_topi (fun x6 ex6 => ?_)
      refine g_goto (tgt := 23) dX2_doingAt_18 (by decide) ?_
      exact g_iret (ty := .int) dX2_doingAt_23 rfl rfl ⟨⟨_, rfl, by first | trivial | lia | grind⟩, rfl⟩
abbrev q_X2_keepPath (u : uk_Mem) (n : Int32) (s : Int32) (r : Option Value) (u' : uk_Mem) : Prop := (r = none) ∧ (iv u' ∧ fr 46 49 u u')
set_option maxHeartbeats 4000000 in
set_option maxRecDepth 20000 in
theorem c_X2_keepPath {G : uk_D} (hs : uk_Sep G) {u : uk_Mem} (hu : iv u) (n : Int32) (s : Int32) (p0 : 0 ≤ n) (p1 : n ≤ 4) (d : Nat) : uk_Meth G d mX2_keepPath [.ref (uk_ad G 46), .int n, .int s] u (q_X2_keepPath u n s) := by
  refine uk_Meth.of hs (by decide) (Nat.le_of_ble_eq_true rfl) (fun X => ?_)
  have f0 : fr 46 49 u u := fr_rf
  refine g_aload_n dX2_keepPath_0 rfl ?_
  refine g_iload_n dX2_keepPath_1 rfl ?_
  refine p_X2_22 rfl rfl dX2_keepPath_2 ?_
  refine g_mem (fun u1 eu1 => ?_)
  have hu1 : iv u1 := by rw [eu1]; exact iv_upF hu rfl
  have fu1 : fr 46 49 u u1 := by rw [eu1]; exact fr_up f0 (by omega) (by omega)
  have s2 : u1.1 46 3 = s := by rw [eu1, uk_up_at]; exact if_pos ⟨rfl, rfl⟩
  refine g_aload_n dX2_keepPath_5 rfl ?_
  refine g_iload_n dX2_keepPath_6 rfl ?_
  refine p_X2_18 rfl rfl dX2_keepPath_7 ?_
  refine g_mem (fun u3 eu3 => ?_)
  have hu3 : iv u3 := by rw [eu3]; exact iv_up hu1 rfl (by first | lia | grind) (by first | lia | grind)
  have fu3 : fr 46 49 u u3 := by rw [eu3]; exact fr_up fu1 (by omega) (by omega)
  have s4 : u3.1 46 2 = n := by rw [eu3, uk_up_at]; exact if_pos ⟨rfl, rfl⟩
  refine g_iconst (v := 0) dX2_keepPath_10 (by decide) ?_
  refine g_istore_n dX2_keepPath_11 (by decide) ?_
  have L12_4 : ∀ i6 : Int32, 0 ≤ i6 → i6 ≤ 4 → ∀ (u7 : uk_Mem), iv u7 → fr 46 49 u u7 → uk_G G X mX2_keepPath d (q_X2_keepPath u n s) 12 [(0, .ref (uk_ad G 46)), (1, .int n), (2, .int s), (3, .int i6)] [] u7 := by
    refine uk_upl 4 ?_
    intro i6 ai6 bi6 ihi6  u7 hu7 fu7
    refine g_iload_n dX2_keepPath_12 rfl ?_
    refine g_iload_n dX2_keepPath_13 rfl ?_
    refine g_icmp_ge (tgt := 35) dX2_keepPath_14 (by decide) (fun c8 => ?_) (fun c8 => ?_)
    · exact g_vret dX2_keepPath_35 rfl ⟨rfl, hu7, fu7⟩
    · refine g_aload_n dX2_keepPath_17 rfl ?_
      refine f_X2_15 rfl rfl dX2_keepPath_18 ?_
      refine g_iload_n dX2_keepPath_21 rfl ?_
      refine g_aload_n dX2_keepPath_22 rfl ?_
      refine f_X2_9 rfl rfl dX2_keepPath_23 ?_
      refine g_iload_n dX2_keepPath_26 rfl ?_
      have v9 : vp_in i6 4 := uk_vin 4 rfl (by first | decide | lia | grind) (by first | decide | lia | grind)
      refine g_iald rfl rfl v9 dX2_keepPath_27 ?_
      refine g_topi (fun x10 ex10 => ?_)
      have v11 : vp_in i6 4 := uk_vin 4 rfl (by first | decide | lia | grind) (by first | decide | lia | grind)
      have b12 := uk_cl v11
      refine g_iast rfl rfl v11 dX2_keepPath_28 ?_
      refine g_mem (fun u13 eu13 => ?_)
      have hu13 : iv u13 := by rw [eu13]; exact iv_upF hu7 (uk_pick1 _ (by omega))
      have fu13 : fr 46 49 u u13 := by rw [eu13]; exact fr_up fu7 (by omega) (by omega)
      refine g_iinc (v := i6 + 1) dX2_keepPath_29 rfl rfl (by decide) ?_
      refine g_goto (tgt := 12) dX2_keepPath_32 (by decide) ?_
      refine g_pick (lv' := [(0, .ref (uk_ad G 46)), (1, .int n), (2, .int s), (3, .int (i6 + 1))]) [0, 1, 2, 3] rfl ?_
      exact ihi6 (by first | lia | grind)  u13 hu13 fu13 
  refine g_pick (lv' := [(0, .ref (uk_ad G 46)), (1, .int n), (2, .int s), (3, .int 0)]) [0, 1, 2, 3] rfl ?_
  exact L12_4 0 (by first | decide | lia | grind) (by first | decide | lia | grind)  u3 hu3 fu3 
abbrev q_X2_tryRicher_0 (u : uk_Mem) (n : Int32) (g : Int32) (s : Int32) (r : Option Value) (u' : uk_Mem) : Prop := (r = none) ∧ (iv u' ∧ fr 13 49 u u')
set_option maxHeartbeats 4000000 in
set_option maxRecDepth 20000 in
theorem c_X2_tryRicher_0 {G : uk_D} (hs : uk_Sep G) {u : uk_Mem} (hu : iv u) (n : Int32) (g : Int32) (s : Int32) (p0 : 0 ≤ g) (p1 : g ≤ 4) (p2 : n ≤ 4) (p3 : g = n) (d : Nat) : uk_Meth G (d + 3) mX2_tryRicher [.ref (uk_ad G 46), .ref (uk_ad G 13), .int n, .int g, .int s] u (q_X2_tryRicher_0 u n g s) := by
  refine uk_Meth.of hs (by decide) (Nat.le_of_ble_eq_true rfl) (fun X => ?_)
  have f0 : fr 13 49 u u := fr_rf
  refine g_iload_n dX2_tryRicher_0 rfl ?_
  refine g_iload_n dX2_tryRicher_1 rfl ?_
  refine g_icmp_lt (tgt := 13) dX2_tryRicher_2 (by decide) (fun c1 => ?_) (fun c1 => ?_)
  · exfalso; grind
  · refine g_aload_n dX2_tryRicher_5 rfl ?_
    refine g_iload_n dX2_tryRicher_6 rfl ?_
    refine g_iload dX2_tryRicher_7 rfl ?_
    refine cl_X2_40 (c := 46) (As := [.int n, .int s]) rfl (c_X2_keepPath hs hu  n s (by first | trivial | decide | lia | grind) (by first | trivial | decide | lia | grind) (d + 2)) rfl (by omega) rfl rfl (Nat.le_of_ble_eq_true rfl) dX2_tryRicher_9 (fun r2 u3 q4 => ?_)
    obtain ⟨rfl, mq4⟩ := q4
    obtain ⟨hu3, gu3⟩ := mq4
    have fu3 : fr 13 49 u u3 := fr_tr f0 gu3 (by omega) (by omega)
    exact g_vret dX2_tryRicher_12 rfl ⟨rfl, hu3, fu3⟩
abbrev q_X2_tryRicher_1 (u : uk_Mem) (n : Int32) (g : Int32) (s : Int32) (r : Option Value) (u' : uk_Mem) : Prop := (r = none) ∧ (iv u' ∧ fr 13 49 u u')
set_option maxHeartbeats 4000000 in
set_option maxRecDepth 20000 in
theorem c_X2_tryRicher_1 {G : uk_D} (hs : uk_Sep G) {u : uk_Mem} (hu : iv u) (n : Int32) (g : Int32) (s : Int32) (p0 : 0 ≤ g) (p1 : g ≤ 4) (p2 : n ≤ 4) (p3 : g + 1 = n) (d : Nat) : uk_Meth G (d + 4) mX2_tryRicher [.ref (uk_ad G 46), .ref (uk_ad G 13), .int n, .int g, .int s] u (q_X2_tryRicher_1 u n g s) := by
  refine uk_Meth.of hs (by decide) (Nat.le_of_ble_eq_true rfl) (fun X => ?_)
  have f0 : fr 13 49 u u := fr_rf
  refine g_iload_n dX2_tryRicher_0 rfl ?_
  refine g_iload_n dX2_tryRicher_1 rfl ?_
  refine g_icmp_lt (tgt := 13) dX2_tryRicher_2 (by decide) (fun c1 => ?_) (fun c1 => ?_)
  · refine g_iload_n dX2_tryRicher_13 rfl ?_
    refine g_iload_n dX2_tryRicher_14 rfl ?_
    refine g_isub dX2_tryRicher_15 ?_
    refine g_topi (fun x2 ex2 => ?_)
    refine g_iconst (v := 1) dX2_tryRicher_16 (by decide) ?_
    refine g_isub dX2_tryRicher_17 ?_
    refine g_topi (fun x3 ex3 => ?_)
    refine g_aload_n dX2_tryRicher_18 rfl ?_
    refine f_X2_25 rfl rfl dX2_tryRicher_19 ?_
    refine g_topi (fun x4 ex4 => ?_)
    have s5 : u.1 46 4 = x4 := ex4.symm
    refine g_imul dX2_tryRicher_22 ?_
    refine g_topi (fun x6 ex6 => ?_)
    refine g_istore dX2_tryRicher_23 (by decide) ?_
    refine g_iconst (v := 0) dX2_tryRicher_25 (by decide) ?_
    refine g_istore dX2_tryRicher_26 (by decide) ?_
    have L28_6 : ∀ i8 : Int32, 0 ≤ i8 → i8 ≤ 18 → ∀ (u9 : uk_Mem), iv u9 → fr 13 49 u u9 → uk_G G X mX2_tryRicher (d + 4) (q_X2_tryRicher_1 u n g s) 28 [(0, .ref (uk_ad G 46)), (1, .ref (uk_ad G 13)), (2, .int n), (3, .int g), (4, .int s), (5, .int x6), (6, .int i8)] [] u9 := by
      refine uk_upl 18 ?_
      intro i8 ai8 bi8 ihi8  u9 hu9 fu9
      refine g_iload dX2_tryRicher_28 rfl ?_
      refine g_bipush (v := 10) dX2_tryRicher_30 (by decide) ?_
      refine g_aload_n dX2_tryRicher_32 rfl ?_
      refine f_X2_44 rfl rfl dX2_tryRicher_33 ?_
      refine g_topi (fun x10 ex10 => ?_)
      have rx10 : 0 ≤ x10 ∧ x10 ≤ 8 := by rw [ex10]; exact iv_at hu9 _ _ rfl
      have s11 : u9.1 13 0 = x10 := ex10.symm
      refine g_iadd dX2_tryRicher_36 ?_
      refine g_topi (fun x12 ex12 => ?_)
      refine g_icmp_ge (tgt := 112) dX2_tryRicher_37 (by decide) (fun c13 => ?_) (fun c13 => ?_)
      · exact g_vret dX2_tryRicher_112 rfl ⟨rfl, hu9, fu9⟩
      · refine g_aload_n dX2_tryRicher_40 rfl ?_
        refine g_iload dX2_tryRicher_41 rfl ?_
        refine cl_X2_45 (c := 13) (As := [.int i8]) rfl (c_X0_isAble hs hu9 uk_isK13 i8  (d + 1)) rfl (by omega) rfl rfl (Nat.le_of_ble_eq_true rfl) dX2_tryRicher_43 (fun r14 u15 q16 => ?_)
        obtain ⟨⟨x17, rfl, tx17, nx17, zx17⟩, mq16⟩ := q16
        rw [mq16]
        refine g_if_ne (tgt := 52) dX2_tryRicher_46 (by decide) (fun c18 => ?_) (fun c18 => ?_)
        · have zc18 := nx17 c18
          refine g_iload dX2_tryRicher_52 rfl ?_
          refine g_aload_n dX2_tryRicher_54 rfl ?_
          refine g_iload dX2_tryRicher_55 rfl ?_
          refine cl_X2_49 (c := 13) (As := [.int i8]) rfl (c_X0_gainOf hs hu9 uk_isK13 i8 (by first | trivial | decide | lia | grind) (d + 2)) rfl (by omega) rfl rfl (Nat.le_of_ble_eq_true rfl) dX2_tryRicher_57 (fun r19 u20 q21 => ?_)
          obtain ⟨⟨x22, rfl, tx22⟩, mq21⟩ := q21
          rw [mq21]
          refine g_iadd dX2_tryRicher_60 ?_
          refine g_topi (fun x23 ex23 => ?_)
          refine g_istore dX2_tryRicher_61 (by decide) ?_
          refine g_iload dX2_tryRicher_63 rfl ?_
          refine g_iload dX2_tryRicher_65 rfl ?_
          refine g_iadd dX2_tryRicher_67 ?_
          refine g_topi (fun x24 ex24 => ?_)
          refine g_aload_n dX2_tryRicher_68 rfl ?_
          refine f_X2_22 rfl rfl dX2_tryRicher_69 ?_
          refine g_topi (fun x25 ex25 => ?_)
          have s26 : u9.1 46 3 = x25 := ex25.symm
          refine g_icmp_le (tgt := 106) dX2_tryRicher_72 (by decide) (fun c27 => ?_) (fun c27 => ?_)
          · refine g_iinc (v := i8 + 1) dX2_tryRicher_106 rfl rfl (by decide) ?_
            refine g_goto (tgt := 28) dX2_tryRicher_109 (by decide) ?_
            refine g_pick (lv' := [(0, .ref (uk_ad G 46)), (1, .ref (uk_ad G 13)), (2, .int n), (3, .int g), (4, .int s), (5, .int x6), (6, .int (i8 + 1))]) [0, 1, 2, 3, 4, 5, 6] rfl ?_
            exact ihi8 (by first | lia | grind)  u9 hu9 fu9 
          · refine g_aload_n dX2_tryRicher_75 rfl ?_
            refine f_X2_9 rfl rfl dX2_tryRicher_76 ?_
            refine g_iload_n dX2_tryRicher_79 rfl ?_
            refine g_iload dX2_tryRicher_80 rfl ?_
            have v28 : vp_in g 4 := uk_vin 4 rfl (by first | decide | lia | grind) (by first | decide | lia | grind)
            have b29 := uk_cl v28
            refine g_iast rfl rfl v28 dX2_tryRicher_82 ?_
            refine g_mem (fun u30 eu30 => ?_)
            have hu30 : iv u30 := by rw [eu30]; exact iv_upF hu9 (uk_pick1 _ (by omega))
            have fu30 : fr 13 49 u u30 := by rw [eu30]; exact fr_up fu9 (by omega) (by omega)
            refine g_aload_n dX2_tryRicher_83 rfl ?_
            refine g_iload dX2_tryRicher_84 rfl ?_
            refine cl_X2_53 (c := 13) (As := [.int i8]) rfl (c_X0_perform hs hu30 uk_isK13 i8 (by first | trivial | decide | lia | grind) (d + 1)) rfl (by omega) rfl rfl (Nat.le_of_ble_eq_true rfl) dX2_tryRicher_86 (fun r31 u32 q33 => ?_)
            obtain ⟨rfl, mq33⟩ := q33
            obtain ⟨hu32, gu32⟩ := mq33
            have fu32 : fr 13 49 u u32 := fr_tr fu30 gu32 (by omega) (by omega)
            have s34 : u32.1 46 3 = x25 := (fr_at gu32 (by omega)).trans (by simp [eu30, uk_up_at, s26] : u30.1 46 3 = x25)
            refine g_aload_n dX2_tryRicher_89 rfl ?_
            refine g_aload_n dX2_tryRicher_90 rfl ?_
            refine g_iload_n dX2_tryRicher_91 rfl ?_
            refine g_iload_n dX2_tryRicher_92 rfl ?_
            refine g_iconst (v := 1) dX2_tryRicher_93 (by decide) ?_
            refine g_iadd dX2_tryRicher_94 ?_
            refine g_topi (fun x35 ex35 => ?_)
            refine g_iload dX2_tryRicher_95 rfl ?_
            refine cl_X2_36 (c := 46) (As := [.ref (uk_ad G 13), .int n, .int x35, .int x23]) rfl (c_X2_tryRicher_0 hs hu32  n x35 x23 (by first | trivial | decide | lia | grind) (by first | trivial | decide | lia | grind) (by first | trivial | decide | lia | grind) (by first | trivial | decide | lia | grind) (d)) rfl (by omega) rfl rfl (Nat.le_of_ble_eq_true rfl) dX2_tryRicher_97 (fun r36 u37 q38 => ?_)
            obtain ⟨rfl, mq38⟩ := q38
            obtain ⟨hu37, gu37⟩ := mq38
            have fu37 : fr 13 49 u u37 := fr_tr fu32 gu37 (by omega) (by omega)
            refine g_aload_n dX2_tryRicher_100 rfl ?_
            refine g_iload dX2_tryRicher_101 rfl ?_
            refine cl_X2_57 (c := 13) (As := [.int i8]) rfl (c_X0_undo hs hu37 uk_isK13 i8 (by first | trivial | decide | lia | grind) (d + 1)) rfl (by omega) rfl rfl (Nat.le_of_ble_eq_true rfl) dX2_tryRicher_103 (fun r39 u40 q41 => ?_)
            obtain ⟨rfl, mq41⟩ := q41
            obtain ⟨hu40, gu40⟩ := mq41
            have fu40 : fr 13 49 u u40 := fr_tr fu37 gu40 (by omega) (by omega)
            refine g_iinc (v := i8 + 1) dX2_tryRicher_106 rfl rfl (by decide) ?_
            refine g_goto (tgt := 28) dX2_tryRicher_109 (by decide) ?_
            refine g_pick (lv' := [(0, .ref (uk_ad G 46)), (1, .ref (uk_ad G 13)), (2, .int n), (3, .int g), (4, .int s), (5, .int x6), (6, .int (i8 + 1))]) [0, 1, 2, 3, 4, 5, 6] rfl ?_
            exact ihi8 (by first | lia | grind)  u40 hu40 fu40 
        · have zc18 := zx17 c18
          refine g_goto (tgt := 106) dX2_tryRicher_49 (by decide) ?_
          refine g_iinc (v := i8 + 1) dX2_tryRicher_106 rfl rfl (by decide) ?_
          refine g_goto (tgt := 28) dX2_tryRicher_109 (by decide) ?_
          refine g_pick (lv' := [(0, .ref (uk_ad G 46)), (1, .ref (uk_ad G 13)), (2, .int n), (3, .int g), (4, .int s), (5, .int x6), (6, .int (i8 + 1))]) [0, 1, 2, 3, 4, 5, 6] rfl ?_
          exact ihi8 (by first | lia | grind)  u9 hu9 fu9 
    refine g_pick (lv' := [(0, .ref (uk_ad G 46)), (1, .ref (uk_ad G 13)), (2, .int n), (3, .int g), (4, .int s), (5, .int x6), (6, .int 0)]) [0, 1, 2, 3, 4, 5, 6] rfl ?_
    exact L28_6 0 (by first | decide | lia | grind) (by first | decide | lia | grind)  u hu f0 
  · refine g_aload_n dX2_tryRicher_5 rfl ?_
    refine g_iload_n dX2_tryRicher_6 rfl ?_
    refine g_iload dX2_tryRicher_7 rfl ?_
    refine cl_X2_40 (c := 46) (As := [.int n, .int s]) rfl (c_X2_keepPath hs hu  n s (by first | trivial | decide | lia | grind) (by first | trivial | decide | lia | grind) (d + 3)) rfl (by omega) rfl rfl (Nat.le_of_ble_eq_true rfl) dX2_tryRicher_9 (fun r42 u43 q44 => ?_)
    obtain ⟨rfl, mq44⟩ := q44
    obtain ⟨hu43, gu43⟩ := mq44
    have fu43 : fr 13 49 u u43 := fr_tr f0 gu43 (by omega) (by omega)
    exact g_vret dX2_tryRicher_12 rfl ⟨rfl, hu43, fu43⟩
abbrev q_X2_tryRicher_2 (u : uk_Mem) (n : Int32) (g : Int32) (s : Int32) (r : Option Value) (u' : uk_Mem) : Prop := (r = none) ∧ (iv u' ∧ fr 13 49 u u')
set_option maxHeartbeats 4000000 in
set_option maxRecDepth 20000 in
theorem c_X2_tryRicher_2 {G : uk_D} (hs : uk_Sep G) {u : uk_Mem} (hu : iv u) (n : Int32) (g : Int32) (s : Int32) (p0 : 0 ≤ g) (p1 : g ≤ 4) (p2 : n ≤ 4) (p3 : g + 2 = n) (d : Nat) : uk_Meth G (d + 5) mX2_tryRicher [.ref (uk_ad G 46), .ref (uk_ad G 13), .int n, .int g, .int s] u (q_X2_tryRicher_2 u n g s) := by
  refine uk_Meth.of hs (by decide) (Nat.le_of_ble_eq_true rfl) (fun X => ?_)
  have f0 : fr 13 49 u u := fr_rf
  refine g_iload_n dX2_tryRicher_0 rfl ?_
  refine g_iload_n dX2_tryRicher_1 rfl ?_
  refine g_icmp_lt (tgt := 13) dX2_tryRicher_2 (by decide) (fun c1 => ?_) (fun c1 => ?_)
  · refine g_iload_n dX2_tryRicher_13 rfl ?_
    refine g_iload_n dX2_tryRicher_14 rfl ?_
    refine g_isub dX2_tryRicher_15 ?_
    refine g_topi (fun x2 ex2 => ?_)
    refine g_iconst (v := 1) dX2_tryRicher_16 (by decide) ?_
    refine g_isub dX2_tryRicher_17 ?_
    refine g_topi (fun x3 ex3 => ?_)
    refine g_aload_n dX2_tryRicher_18 rfl ?_
    refine f_X2_25 rfl rfl dX2_tryRicher_19 ?_
    refine g_topi (fun x4 ex4 => ?_)
    have s5 : u.1 46 4 = x4 := ex4.symm
    refine g_imul dX2_tryRicher_22 ?_
    refine g_topi (fun x6 ex6 => ?_)
    refine g_istore dX2_tryRicher_23 (by decide) ?_
    refine g_iconst (v := 0) dX2_tryRicher_25 (by decide) ?_
    refine g_istore dX2_tryRicher_26 (by decide) ?_
    have L28_6 : ∀ i8 : Int32, 0 ≤ i8 → i8 ≤ 18 → ∀ (u9 : uk_Mem), iv u9 → fr 13 49 u u9 → uk_G G X mX2_tryRicher (d + 5) (q_X2_tryRicher_2 u n g s) 28 [(0, .ref (uk_ad G 46)), (1, .ref (uk_ad G 13)), (2, .int n), (3, .int g), (4, .int s), (5, .int x6), (6, .int i8)] [] u9 := by
      refine uk_upl 18 ?_
      intro i8 ai8 bi8 ihi8  u9 hu9 fu9
      refine g_iload dX2_tryRicher_28 rfl ?_
      refine g_bipush (v := 10) dX2_tryRicher_30 (by decide) ?_
      refine g_aload_n dX2_tryRicher_32 rfl ?_
      refine f_X2_44 rfl rfl dX2_tryRicher_33 ?_
      refine g_topi (fun x10 ex10 => ?_)
      have rx10 : 0 ≤ x10 ∧ x10 ≤ 8 := by rw [ex10]; exact iv_at hu9 _ _ rfl
      have s11 : u9.1 13 0 = x10 := ex10.symm
      refine g_iadd dX2_tryRicher_36 ?_
      refine g_topi (fun x12 ex12 => ?_)
      refine g_icmp_ge (tgt := 112) dX2_tryRicher_37 (by decide) (fun c13 => ?_) (fun c13 => ?_)
      · exact g_vret dX2_tryRicher_112 rfl ⟨rfl, hu9, fu9⟩
      · refine g_aload_n dX2_tryRicher_40 rfl ?_
        refine g_iload dX2_tryRicher_41 rfl ?_
        refine cl_X2_45 (c := 13) (As := [.int i8]) rfl (c_X0_isAble hs hu9 uk_isK13 i8  (d + 2)) rfl (by omega) rfl rfl (Nat.le_of_ble_eq_true rfl) dX2_tryRicher_43 (fun r14 u15 q16 => ?_)
        obtain ⟨⟨x17, rfl, tx17, nx17, zx17⟩, mq16⟩ := q16
        rw [mq16]
        refine g_if_ne (tgt := 52) dX2_tryRicher_46 (by decide) (fun c18 => ?_) (fun c18 => ?_)
        · have zc18 := nx17 c18
          refine g_iload dX2_tryRicher_52 rfl ?_
          refine g_aload_n dX2_tryRicher_54 rfl ?_
          refine g_iload dX2_tryRicher_55 rfl ?_
          refine cl_X2_49 (c := 13) (As := [.int i8]) rfl (c_X0_gainOf hs hu9 uk_isK13 i8 (by first | trivial | decide | lia | grind) (d + 3)) rfl (by omega) rfl rfl (Nat.le_of_ble_eq_true rfl) dX2_tryRicher_57 (fun r19 u20 q21 => ?_)
          obtain ⟨⟨x22, rfl, tx22⟩, mq21⟩ := q21
          rw [mq21]
          refine g_iadd dX2_tryRicher_60 ?_
          refine g_topi (fun x23 ex23 => ?_)
          refine g_istore dX2_tryRicher_61 (by decide) ?_
          refine g_iload dX2_tryRicher_63 rfl ?_
          refine g_iload dX2_tryRicher_65 rfl ?_
          refine g_iadd dX2_tryRicher_67 ?_
          refine g_topi (fun x24 ex24 => ?_)
          refine g_aload_n dX2_tryRicher_68 rfl ?_
          refine f_X2_22 rfl rfl dX2_tryRicher_69 ?_
          refine g_topi (fun x25 ex25 => ?_)
          have s26 : u9.1 46 3 = x25 := ex25.symm
          refine g_icmp_le (tgt := 106) dX2_tryRicher_72 (by decide) (fun c27 => ?_) (fun c27 => ?_)
          · refine g_iinc (v := i8 + 1) dX2_tryRicher_106 rfl rfl (by decide) ?_
            refine g_goto (tgt := 28) dX2_tryRicher_109 (by decide) ?_
            refine g_pick (lv' := [(0, .ref (uk_ad G 46)), (1, .ref (uk_ad G 13)), (2, .int n), (3, .int g), (4, .int s), (5, .int x6), (6, .int (i8 + 1))]) [0, 1, 2, 3, 4, 5, 6] rfl ?_
            exact ihi8 (by first | lia | grind)  u9 hu9 fu9 
          · refine g_aload_n dX2_tryRicher_75 rfl ?_
            refine f_X2_9 rfl rfl dX2_tryRicher_76 ?_
            refine g_iload_n dX2_tryRicher_79 rfl ?_
            refine g_iload dX2_tryRicher_80 rfl ?_
            have v28 : vp_in g 4 := uk_vin 4 rfl (by first | decide | lia | grind) (by first | decide | lia | grind)
            have b29 := uk_cl v28
            refine g_iast rfl rfl v28 dX2_tryRicher_82 ?_
            refine g_mem (fun u30 eu30 => ?_)
            have hu30 : iv u30 := by rw [eu30]; exact iv_upF hu9 (uk_pick1 _ (by omega))
            have fu30 : fr 13 49 u u30 := by rw [eu30]; exact fr_up fu9 (by omega) (by omega)
            refine g_aload_n dX2_tryRicher_83 rfl ?_
            refine g_iload dX2_tryRicher_84 rfl ?_
            refine cl_X2_53 (c := 13) (As := [.int i8]) rfl (c_X0_perform hs hu30 uk_isK13 i8 (by first | trivial | decide | lia | grind) (d + 2)) rfl (by omega) rfl rfl (Nat.le_of_ble_eq_true rfl) dX2_tryRicher_86 (fun r31 u32 q33 => ?_)
            obtain ⟨rfl, mq33⟩ := q33
            obtain ⟨hu32, gu32⟩ := mq33
            have fu32 : fr 13 49 u u32 := fr_tr fu30 gu32 (by omega) (by omega)
            have s34 : u32.1 46 3 = x25 := (fr_at gu32 (by omega)).trans (by simp [eu30, uk_up_at, s26] : u30.1 46 3 = x25)
            refine g_aload_n dX2_tryRicher_89 rfl ?_
            refine g_aload_n dX2_tryRicher_90 rfl ?_
            refine g_iload_n dX2_tryRicher_91 rfl ?_
            refine g_iload_n dX2_tryRicher_92 rfl ?_
            refine g_iconst (v := 1) dX2_tryRicher_93 (by decide) ?_
            refine g_iadd dX2_tryRicher_94 ?_
            refine g_topi (fun x35 ex35 => ?_)
            refine g_iload dX2_tryRicher_95 rfl ?_
            refine cl_X2_36 (c := 46) (As := [.ref (uk_ad G 13), .int n, .int x35, .int x23]) rfl (c_X2_tryRicher_1 hs hu32  n x35 x23 (by first | trivial | decide | lia | grind) (by first | trivial | decide | lia | grind) (by first | trivial | decide | lia | grind) (by first | trivial | decide | lia | grind) (d)) rfl (by omega) rfl rfl (Nat.le_of_ble_eq_true rfl) dX2_tryRicher_97 (fun r36 u37 q38 => ?_)
            obtain ⟨rfl, mq38⟩ := q38
            obtain ⟨hu37, gu37⟩ := mq38
            have fu37 : fr 13 49 u u37 := fr_tr fu32 gu37 (by omega) (by omega)
            refine g_aload_n dX2_tryRicher_100 rfl ?_
            refine g_iload dX2_tryRicher_101 rfl ?_
            refine cl_X2_57 (c := 13) (As := [.int i8]) rfl (c_X0_undo hs hu37 uk_isK13 i8 (by first | trivial | decide | lia | grind) (d + 2)) rfl (by omega) rfl rfl (Nat.le_of_ble_eq_true rfl) dX2_tryRicher_103 (fun r39 u40 q41 => ?_)
            obtain ⟨rfl, mq41⟩ := q41
            obtain ⟨hu40, gu40⟩ := mq41
            have fu40 : fr 13 49 u u40 := fr_tr fu37 gu40 (by omega) (by omega)
            refine g_iinc (v := i8 + 1) dX2_tryRicher_106 rfl rfl (by decide) ?_
            refine g_goto (tgt := 28) dX2_tryRicher_109 (by decide) ?_
            refine g_pick (lv' := [(0, .ref (uk_ad G 46)), (1, .ref (uk_ad G 13)), (2, .int n), (3, .int g), (4, .int s), (5, .int x6), (6, .int (i8 + 1))]) [0, 1, 2, 3, 4, 5, 6] rfl ?_
            exact ihi8 (by first | lia | grind)  u40 hu40 fu40 
        · have zc18 := zx17 c18
          refine g_goto (tgt := 106) dX2_tryRicher_49 (by decide) ?_
          refine g_iinc (v := i8 + 1) dX2_tryRicher_106 rfl rfl (by decide) ?_
          refine g_goto (tgt := 28) dX2_tryRicher_109 (by decide) ?_
          refine g_pick (lv' := [(0, .ref (uk_ad G 46)), (1, .ref (uk_ad G 13)), (2, .int n), (3, .int g), (4, .int s), (5, .int x6), (6, .int (i8 + 1))]) [0, 1, 2, 3, 4, 5, 6] rfl ?_
          exact ihi8 (by first | lia | grind)  u9 hu9 fu9 
    refine g_pick (lv' := [(0, .ref (uk_ad G 46)), (1, .ref (uk_ad G 13)), (2, .int n), (3, .int g), (4, .int s), (5, .int x6), (6, .int 0)]) [0, 1, 2, 3, 4, 5, 6] rfl ?_
    exact L28_6 0 (by first | decide | lia | grind) (by first | decide | lia | grind)  u hu f0 
  · refine g_aload_n dX2_tryRicher_5 rfl ?_
    refine g_iload_n dX2_tryRicher_6 rfl ?_
    refine g_iload dX2_tryRicher_7 rfl ?_
    refine cl_X2_40 (c := 46) (As := [.int n, .int s]) rfl (c_X2_keepPath hs hu  n s (by first | trivial | decide | lia | grind) (by first | trivial | decide | lia | grind) (d + 4)) rfl (by omega) rfl rfl (Nat.le_of_ble_eq_true rfl) dX2_tryRicher_9 (fun r42 u43 q44 => ?_)
    obtain ⟨rfl, mq44⟩ := q44
    obtain ⟨hu43, gu43⟩ := mq44
    have fu43 : fr 13 49 u u43 := fr_tr f0 gu43 (by omega) (by omega)
    exact g_vret dX2_tryRicher_12 rfl ⟨rfl, hu43, fu43⟩
abbrev q_X2_tryRicher_3 (u : uk_Mem) (n : Int32) (g : Int32) (s : Int32) (r : Option Value) (u' : uk_Mem) : Prop := (r = none) ∧ (iv u' ∧ fr 13 49 u u')
set_option maxHeartbeats 4000000 in
set_option maxRecDepth 20000 in
theorem c_X2_tryRicher_3 {G : uk_D} (hs : uk_Sep G) {u : uk_Mem} (hu : iv u) (n : Int32) (g : Int32) (s : Int32) (p0 : 0 ≤ g) (p1 : g ≤ 4) (p2 : n ≤ 4) (p3 : g + 3 = n) (d : Nat) : uk_Meth G (d + 6) mX2_tryRicher [.ref (uk_ad G 46), .ref (uk_ad G 13), .int n, .int g, .int s] u (q_X2_tryRicher_3 u n g s) := by
  refine uk_Meth.of hs (by decide) (Nat.le_of_ble_eq_true rfl) (fun X => ?_)
  have f0 : fr 13 49 u u := fr_rf
  refine g_iload_n dX2_tryRicher_0 rfl ?_
  refine g_iload_n dX2_tryRicher_1 rfl ?_
  refine g_icmp_lt (tgt := 13) dX2_tryRicher_2 (by decide) (fun c1 => ?_) (fun c1 => ?_)
  · refine g_iload_n dX2_tryRicher_13 rfl ?_
    refine g_iload_n dX2_tryRicher_14 rfl ?_
    refine g_isub dX2_tryRicher_15 ?_
    refine g_topi (fun x2 ex2 => ?_)
    refine g_iconst (v := 1) dX2_tryRicher_16 (by decide) ?_
    refine g_isub dX2_tryRicher_17 ?_
    refine g_topi (fun x3 ex3 => ?_)
    refine g_aload_n dX2_tryRicher_18 rfl ?_
    refine f_X2_25 rfl rfl dX2_tryRicher_19 ?_
    refine g_topi (fun x4 ex4 => ?_)
    have s5 : u.1 46 4 = x4 := ex4.symm
    refine g_imul dX2_tryRicher_22 ?_
    refine g_topi (fun x6 ex6 => ?_)
    refine g_istore dX2_tryRicher_23 (by decide) ?_
    refine g_iconst (v := 0) dX2_tryRicher_25 (by decide) ?_
    refine g_istore dX2_tryRicher_26 (by decide) ?_
    have L28_6 : ∀ i8 : Int32, 0 ≤ i8 → i8 ≤ 18 → ∀ (u9 : uk_Mem), iv u9 → fr 13 49 u u9 → uk_G G X mX2_tryRicher (d + 6) (q_X2_tryRicher_3 u n g s) 28 [(0, .ref (uk_ad G 46)), (1, .ref (uk_ad G 13)), (2, .int n), (3, .int g), (4, .int s), (5, .int x6), (6, .int i8)] [] u9 := by
      refine uk_upl 18 ?_
      intro i8 ai8 bi8 ihi8  u9 hu9 fu9
      refine g_iload dX2_tryRicher_28 rfl ?_
      refine g_bipush (v := 10) dX2_tryRicher_30 (by decide) ?_
      refine g_aload_n dX2_tryRicher_32 rfl ?_
      refine f_X2_44 rfl rfl dX2_tryRicher_33 ?_
      refine g_topi (fun x10 ex10 => ?_)
      have rx10 : 0 ≤ x10 ∧ x10 ≤ 8 := by rw [ex10]; exact iv_at hu9 _ _ rfl
      have s11 : u9.1 13 0 = x10 := ex10.symm
      refine g_iadd dX2_tryRicher_36 ?_
      refine g_topi (fun x12 ex12 => ?_)
      refine g_icmp_ge (tgt := 112) dX2_tryRicher_37 (by decide) (fun c13 => ?_) (fun c13 => ?_)
      · exact g_vret dX2_tryRicher_112 rfl ⟨rfl, hu9, fu9⟩
      · refine g_aload_n dX2_tryRicher_40 rfl ?_
        refine g_iload dX2_tryRicher_41 rfl ?_
        refine cl_X2_45 (c := 13) (As := [.int i8]) rfl (c_X0_isAble hs hu9 uk_isK13 i8  (d + 3)) rfl (by omega) rfl rfl (Nat.le_of_ble_eq_true rfl) dX2_tryRicher_43 (fun r14 u15 q16 => ?_)
        obtain ⟨⟨x17, rfl, tx17, nx17, zx17⟩, mq16⟩ := q16
        rw [mq16]
        refine g_if_ne (tgt := 52) dX2_tryRicher_46 (by decide) (fun c18 => ?_) (fun c18 => ?_)
        · have zc18 := nx17 c18
          refine g_iload dX2_tryRicher_52 rfl ?_
          refine g_aload_n dX2_tryRicher_54 rfl ?_
          refine g_iload dX2_tryRicher_55 rfl ?_
          refine cl_X2_49 (c := 13) (As := [.int i8]) rfl (c_X0_gainOf hs hu9 uk_isK13 i8 (by first | trivial | decide | lia | grind) (d + 4)) rfl (by omega) rfl rfl (Nat.le_of_ble_eq_true rfl) dX2_tryRicher_57 (fun r19 u20 q21 => ?_)
          obtain ⟨⟨x22, rfl, tx22⟩, mq21⟩ := q21
          rw [mq21]
          refine g_iadd dX2_tryRicher_60 ?_
          refine g_topi (fun x23 ex23 => ?_)
          refine g_istore dX2_tryRicher_61 (by decide) ?_
          refine g_iload dX2_tryRicher_63 rfl ?_
          refine g_iload dX2_tryRicher_65 rfl ?_
          refine g_iadd dX2_tryRicher_67 ?_
          refine g_topi (fun x24 ex24 => ?_)
          refine g_aload_n dX2_tryRicher_68 rfl ?_
          refine f_X2_22 rfl rfl dX2_tryRicher_69 ?_
          refine g_topi (fun x25 ex25 => ?_)
          have s26 : u9.1 46 3 = x25 := ex25.symm
          refine g_icmp_le (tgt := 106) dX2_tryRicher_72 (by decide) (fun c27 => ?_) (fun c27 => ?_)
          · refine g_iinc (v := i8 + 1) dX2_tryRicher_106 rfl rfl (by decide) ?_
            refine g_goto (tgt := 28) dX2_tryRicher_109 (by decide) ?_
            refine g_pick (lv' := [(0, .ref (uk_ad G 46)), (1, .ref (uk_ad G 13)), (2, .int n), (3, .int g), (4, .int s), (5, .int x6), (6, .int (i8 + 1))]) [0, 1, 2, 3, 4, 5, 6] rfl ?_
            exact ihi8 (by first | lia | grind)  u9 hu9 fu9 
          · refine g_aload_n dX2_tryRicher_75 rfl ?_
            refine f_X2_9 rfl rfl dX2_tryRicher_76 ?_
            refine g_iload_n dX2_tryRicher_79 rfl ?_
            refine g_iload dX2_tryRicher_80 rfl ?_
            have v28 : vp_in g 4 := uk_vin 4 rfl (by first | decide | lia | grind) (by first | decide | lia | grind)
            have b29 := uk_cl v28
            refine g_iast rfl rfl v28 dX2_tryRicher_82 ?_
            refine g_mem (fun u30 eu30 => ?_)
            have hu30 : iv u30 := by rw [eu30]; exact iv_upF hu9 (uk_pick1 _ (by omega))
            have fu30 : fr 13 49 u u30 := by rw [eu30]; exact fr_up fu9 (by omega) (by omega)
            refine g_aload_n dX2_tryRicher_83 rfl ?_
            refine g_iload dX2_tryRicher_84 rfl ?_
            refine cl_X2_53 (c := 13) (As := [.int i8]) rfl (c_X0_perform hs hu30 uk_isK13 i8 (by first | trivial | decide | lia | grind) (d + 3)) rfl (by omega) rfl rfl (Nat.le_of_ble_eq_true rfl) dX2_tryRicher_86 (fun r31 u32 q33 => ?_)
            obtain ⟨rfl, mq33⟩ := q33
            obtain ⟨hu32, gu32⟩ := mq33
            have fu32 : fr 13 49 u u32 := fr_tr fu30 gu32 (by omega) (by omega)
            have s34 : u32.1 46 3 = x25 := (fr_at gu32 (by omega)).trans (by simp [eu30, uk_up_at, s26] : u30.1 46 3 = x25)
            refine g_aload_n dX2_tryRicher_89 rfl ?_
            refine g_aload_n dX2_tryRicher_90 rfl ?_
            refine g_iload_n dX2_tryRicher_91 rfl ?_
            refine g_iload_n dX2_tryRicher_92 rfl ?_
            refine g_iconst (v := 1) dX2_tryRicher_93 (by decide) ?_
            refine g_iadd dX2_tryRicher_94 ?_
            refine g_topi (fun x35 ex35 => ?_)
            refine g_iload dX2_tryRicher_95 rfl ?_
            refine cl_X2_36 (c := 46) (As := [.ref (uk_ad G 13), .int n, .int x35, .int x23]) rfl (c_X2_tryRicher_2 hs hu32  n x35 x23 (by first | trivial | decide | lia | grind) (by first | trivial | decide | lia | grind) (by first | trivial | decide | lia | grind) (by first | trivial | decide | lia | grind) (d)) rfl (by omega) rfl rfl (Nat.le_of_ble_eq_true rfl) dX2_tryRicher_97 (fun r36 u37 q38 => ?_)
            obtain ⟨rfl, mq38⟩ := q38
            obtain ⟨hu37, gu37⟩ := mq38
            have fu37 : fr 13 49 u u37 := fr_tr fu32 gu37 (by omega) (by omega)
            refine g_aload_n dX2_tryRicher_100 rfl ?_
            refine g_iload dX2_tryRicher_101 rfl ?_
            refine cl_X2_57 (c := 13) (As := [.int i8]) rfl (c_X0_undo hs hu37 uk_isK13 i8 (by first | trivial | decide | lia | grind) (d + 3)) rfl (by omega) rfl rfl (Nat.le_of_ble_eq_true rfl) dX2_tryRicher_103 (fun r39 u40 q41 => ?_)
            obtain ⟨rfl, mq41⟩ := q41
            obtain ⟨hu40, gu40⟩ := mq41
            have fu40 : fr 13 49 u u40 := fr_tr fu37 gu40 (by omega) (by omega)
            refine g_iinc (v := i8 + 1) dX2_tryRicher_106 rfl rfl (by decide) ?_
            refine g_goto (tgt := 28) dX2_tryRicher_109 (by decide) ?_
            refine g_pick (lv' := [(0, .ref (uk_ad G 46)), (1, .ref (uk_ad G 13)), (2, .int n), (3, .int g), (4, .int s), (5, .int x6), (6, .int (i8 + 1))]) [0, 1, 2, 3, 4, 5, 6] rfl ?_
            exact ihi8 (by first | lia | grind)  u40 hu40 fu40 
        · have zc18 := zx17 c18
          refine g_goto (tgt := 106) dX2_tryRicher_49 (by decide) ?_
          refine g_iinc (v := i8 + 1) dX2_tryRicher_106 rfl rfl (by decide) ?_
          refine g_goto (tgt := 28) dX2_tryRicher_109 (by decide) ?_
          refine g_pick (lv' := [(0, .ref (uk_ad G 46)), (1, .ref (uk_ad G 13)), (2, .int n), (3, .int g), (4, .int s), (5, .int x6), (6, .int (i8 + 1))]) [0, 1, 2, 3, 4, 5, 6] rfl ?_
          exact ihi8 (by first | lia | grind)  u9 hu9 fu9 
    refine g_pick (lv' := [(0, .ref (uk_ad G 46)), (1, .ref (uk_ad G 13)), (2, .int n), (3, .int g), (4, .int s), (5, .int x6), (6, .int 0)]) [0, 1, 2, 3, 4, 5, 6] rfl ?_
    exact L28_6 0 (by first | decide | lia | grind) (by first | decide | lia | grind)  u hu f0 
  · refine g_aload_n dX2_tryRicher_5 rfl ?_
    refine g_iload_n dX2_tryRicher_6 rfl ?_
    refine g_iload dX2_tryRicher_7 rfl ?_
    refine cl_X2_40 (c := 46) (As := [.int n, .int s]) rfl (c_X2_keepPath hs hu  n s (by first | trivial | decide | lia | grind) (by first | trivial | decide | lia | grind) (d + 5)) rfl (by omega) rfl rfl (Nat.le_of_ble_eq_true rfl) dX2_tryRicher_9 (fun r42 u43 q44 => ?_)
    obtain ⟨rfl, mq44⟩ := q44
    obtain ⟨hu43, gu43⟩ := mq44
    have fu43 : fr 13 49 u u43 := fr_tr f0 gu43 (by omega) (by omega)
    exact g_vret dX2_tryRicher_12 rfl ⟨rfl, hu43, fu43⟩
abbrev q_X2_tryRicher_4 (u : uk_Mem) (n : Int32) (g : Int32) (s : Int32) (r : Option Value) (u' : uk_Mem) : Prop := (r = none) ∧ (iv u' ∧ fr 13 49 u u')
set_option maxHeartbeats 4000000 in
set_option maxRecDepth 20000 in
theorem c_X2_tryRicher_4 {G : uk_D} (hs : uk_Sep G) {u : uk_Mem} (hu : iv u) (n : Int32) (g : Int32) (s : Int32) (p0 : 0 ≤ g) (p1 : g ≤ 4) (p2 : n ≤ 4) (p3 : g + 4 = n) (d : Nat) : uk_Meth G (d + 7) mX2_tryRicher [.ref (uk_ad G 46), .ref (uk_ad G 13), .int n, .int g, .int s] u (q_X2_tryRicher_4 u n g s) := by
  refine uk_Meth.of hs (by decide) (Nat.le_of_ble_eq_true rfl) (fun X => ?_)
  have f0 : fr 13 49 u u := fr_rf
  refine g_iload_n dX2_tryRicher_0 rfl ?_
  refine g_iload_n dX2_tryRicher_1 rfl ?_
  refine g_icmp_lt (tgt := 13) dX2_tryRicher_2 (by decide) (fun c1 => ?_) (fun c1 => ?_)
  · refine g_iload_n dX2_tryRicher_13 rfl ?_
    refine g_iload_n dX2_tryRicher_14 rfl ?_
    refine g_isub dX2_tryRicher_15 ?_
    refine g_topi (fun x2 ex2 => ?_)
    refine g_iconst (v := 1) dX2_tryRicher_16 (by decide) ?_
    refine g_isub dX2_tryRicher_17 ?_
    refine g_topi (fun x3 ex3 => ?_)
    refine g_aload_n dX2_tryRicher_18 rfl ?_
    refine f_X2_25 rfl rfl dX2_tryRicher_19 ?_
    refine g_topi (fun x4 ex4 => ?_)
    have s5 : u.1 46 4 = x4 := ex4.symm
    refine g_imul dX2_tryRicher_22 ?_
    refine g_topi (fun x6 ex6 => ?_)
    refine g_istore dX2_tryRicher_23 (by decide) ?_
    refine g_iconst (v := 0) dX2_tryRicher_25 (by decide) ?_
    refine g_istore dX2_tryRicher_26 (by decide) ?_
    have L28_6 : ∀ i8 : Int32, 0 ≤ i8 → i8 ≤ 18 → ∀ (u9 : uk_Mem), iv u9 → fr 13 49 u u9 → uk_G G X mX2_tryRicher (d + 7) (q_X2_tryRicher_4 u n g s) 28 [(0, .ref (uk_ad G 46)), (1, .ref (uk_ad G 13)), (2, .int n), (3, .int g), (4, .int s), (5, .int x6), (6, .int i8)] [] u9 := by
      refine uk_upl 18 ?_
      intro i8 ai8 bi8 ihi8  u9 hu9 fu9
      refine g_iload dX2_tryRicher_28 rfl ?_
      refine g_bipush (v := 10) dX2_tryRicher_30 (by decide) ?_
      refine g_aload_n dX2_tryRicher_32 rfl ?_
      refine f_X2_44 rfl rfl dX2_tryRicher_33 ?_
      refine g_topi (fun x10 ex10 => ?_)
      have rx10 : 0 ≤ x10 ∧ x10 ≤ 8 := by rw [ex10]; exact iv_at hu9 _ _ rfl
      have s11 : u9.1 13 0 = x10 := ex10.symm
      refine g_iadd dX2_tryRicher_36 ?_
      refine g_topi (fun x12 ex12 => ?_)
      refine g_icmp_ge (tgt := 112) dX2_tryRicher_37 (by decide) (fun c13 => ?_) (fun c13 => ?_)
      · exact g_vret dX2_tryRicher_112 rfl ⟨rfl, hu9, fu9⟩
      · refine g_aload_n dX2_tryRicher_40 rfl ?_
        refine g_iload dX2_tryRicher_41 rfl ?_
        refine cl_X2_45 (c := 13) (As := [.int i8]) rfl (c_X0_isAble hs hu9 uk_isK13 i8  (d + 4)) rfl (by omega) rfl rfl (Nat.le_of_ble_eq_true rfl) dX2_tryRicher_43 (fun r14 u15 q16 => ?_)
        obtain ⟨⟨x17, rfl, tx17, nx17, zx17⟩, mq16⟩ := q16
        rw [mq16]
        refine g_if_ne (tgt := 52) dX2_tryRicher_46 (by decide) (fun c18 => ?_) (fun c18 => ?_)
        · have zc18 := nx17 c18
          refine g_iload dX2_tryRicher_52 rfl ?_
          refine g_aload_n dX2_tryRicher_54 rfl ?_
          refine g_iload dX2_tryRicher_55 rfl ?_
          refine cl_X2_49 (c := 13) (As := [.int i8]) rfl (c_X0_gainOf hs hu9 uk_isK13 i8 (by first | trivial | decide | lia | grind) (d + 5)) rfl (by omega) rfl rfl (Nat.le_of_ble_eq_true rfl) dX2_tryRicher_57 (fun r19 u20 q21 => ?_)
          obtain ⟨⟨x22, rfl, tx22⟩, mq21⟩ := q21
          rw [mq21]
          refine g_iadd dX2_tryRicher_60 ?_
          refine g_topi (fun x23 ex23 => ?_)
          refine g_istore dX2_tryRicher_61 (by decide) ?_
          refine g_iload dX2_tryRicher_63 rfl ?_
          refine g_iload dX2_tryRicher_65 rfl ?_
          refine g_iadd dX2_tryRicher_67 ?_
          refine g_topi (fun x24 ex24 => ?_)
          refine g_aload_n dX2_tryRicher_68 rfl ?_
          refine f_X2_22 rfl rfl dX2_tryRicher_69 ?_
          refine g_topi (fun x25 ex25 => ?_)
          have s26 : u9.1 46 3 = x25 := ex25.symm
          refine g_icmp_le (tgt := 106) dX2_tryRicher_72 (by decide) (fun c27 => ?_) (fun c27 => ?_)
          · refine g_iinc (v := i8 + 1) dX2_tryRicher_106 rfl rfl (by decide) ?_
            refine g_goto (tgt := 28) dX2_tryRicher_109 (by decide) ?_
            refine g_pick (lv' := [(0, .ref (uk_ad G 46)), (1, .ref (uk_ad G 13)), (2, .int n), (3, .int g), (4, .int s), (5, .int x6), (6, .int (i8 + 1))]) [0, 1, 2, 3, 4, 5, 6] rfl ?_
            exact ihi8 (by first | lia | grind)  u9 hu9 fu9 
          · refine g_aload_n dX2_tryRicher_75 rfl ?_
            refine f_X2_9 rfl rfl dX2_tryRicher_76 ?_
            refine g_iload_n dX2_tryRicher_79 rfl ?_
            refine g_iload dX2_tryRicher_80 rfl ?_
            have v28 : vp_in g 4 := uk_vin 4 rfl (by first | decide | lia | grind) (by first | decide | lia | grind)
            have b29 := uk_cl v28
            refine g_iast rfl rfl v28 dX2_tryRicher_82 ?_
            refine g_mem (fun u30 eu30 => ?_)
            have hu30 : iv u30 := by rw [eu30]; exact iv_upF hu9 (uk_pick1 _ (by omega))
            have fu30 : fr 13 49 u u30 := by rw [eu30]; exact fr_up fu9 (by omega) (by omega)
            refine g_aload_n dX2_tryRicher_83 rfl ?_
            refine g_iload dX2_tryRicher_84 rfl ?_
            refine cl_X2_53 (c := 13) (As := [.int i8]) rfl (c_X0_perform hs hu30 uk_isK13 i8 (by first | trivial | decide | lia | grind) (d + 4)) rfl (by omega) rfl rfl (Nat.le_of_ble_eq_true rfl) dX2_tryRicher_86 (fun r31 u32 q33 => ?_)
            obtain ⟨rfl, mq33⟩ := q33
            obtain ⟨hu32, gu32⟩ := mq33
            have fu32 : fr 13 49 u u32 := fr_tr fu30 gu32 (by omega) (by omega)
            have s34 : u32.1 46 3 = x25 := (fr_at gu32 (by omega)).trans (by simp [eu30, uk_up_at, s26] : u30.1 46 3 = x25)
            refine g_aload_n dX2_tryRicher_89 rfl ?_
            refine g_aload_n dX2_tryRicher_90 rfl ?_
            refine g_iload_n dX2_tryRicher_91 rfl ?_
            refine g_iload_n dX2_tryRicher_92 rfl ?_
            refine g_iconst (v := 1) dX2_tryRicher_93 (by decide) ?_
            refine g_iadd dX2_tryRicher_94 ?_
            refine g_topi (fun x35 ex35 => ?_)
            refine g_iload dX2_tryRicher_95 rfl ?_
            refine cl_X2_36 (c := 46) (As := [.ref (uk_ad G 13), .int n, .int x35, .int x23]) rfl (c_X2_tryRicher_3 hs hu32  n x35 x23 (by first | trivial | decide | lia | grind) (by first | trivial | decide | lia | grind) (by first | trivial | decide | lia | grind) (by first | trivial | decide | lia | grind) (d)) rfl (by omega) rfl rfl (Nat.le_of_ble_eq_true rfl) dX2_tryRicher_97 (fun r36 u37 q38 => ?_)
            obtain ⟨rfl, mq38⟩ := q38
            obtain ⟨hu37, gu37⟩ := mq38
            have fu37 : fr 13 49 u u37 := fr_tr fu32 gu37 (by omega) (by omega)
            refine g_aload_n dX2_tryRicher_100 rfl ?_
            refine g_iload dX2_tryRicher_101 rfl ?_
            refine cl_X2_57 (c := 13) (As := [.int i8]) rfl (c_X0_undo hs hu37 uk_isK13 i8 (by first | trivial | decide | lia | grind) (d + 4)) rfl (by omega) rfl rfl (Nat.le_of_ble_eq_true rfl) dX2_tryRicher_103 (fun r39 u40 q41 => ?_)
            obtain ⟨rfl, mq41⟩ := q41
            obtain ⟨hu40, gu40⟩ := mq41
            have fu40 : fr 13 49 u u40 := fr_tr fu37 gu40 (by omega) (by omega)
            refine g_iinc (v := i8 + 1) dX2_tryRicher_106 rfl rfl (by decide) ?_
            refine g_goto (tgt := 28) dX2_tryRicher_109 (by decide) ?_
            refine g_pick (lv' := [(0, .ref (uk_ad G 46)), (1, .ref (uk_ad G 13)), (2, .int n), (3, .int g), (4, .int s), (5, .int x6), (6, .int (i8 + 1))]) [0, 1, 2, 3, 4, 5, 6] rfl ?_
            exact ihi8 (by first | lia | grind)  u40 hu40 fu40 
        · have zc18 := zx17 c18
          refine g_goto (tgt := 106) dX2_tryRicher_49 (by decide) ?_
          refine g_iinc (v := i8 + 1) dX2_tryRicher_106 rfl rfl (by decide) ?_
          refine g_goto (tgt := 28) dX2_tryRicher_109 (by decide) ?_
          refine g_pick (lv' := [(0, .ref (uk_ad G 46)), (1, .ref (uk_ad G 13)), (2, .int n), (3, .int g), (4, .int s), (5, .int x6), (6, .int (i8 + 1))]) [0, 1, 2, 3, 4, 5, 6] rfl ?_
          exact ihi8 (by first | lia | grind)  u9 hu9 fu9 
    refine g_pick (lv' := [(0, .ref (uk_ad G 46)), (1, .ref (uk_ad G 13)), (2, .int n), (3, .int g), (4, .int s), (5, .int x6), (6, .int 0)]) [0, 1, 2, 3, 4, 5, 6] rfl ?_
    exact L28_6 0 (by first | decide | lia | grind) (by first | decide | lia | grind)  u hu f0 
  · refine g_aload_n dX2_tryRicher_5 rfl ?_
    refine g_iload_n dX2_tryRicher_6 rfl ?_
    refine g_iload dX2_tryRicher_7 rfl ?_
    refine cl_X2_40 (c := 46) (As := [.int n, .int s]) rfl (c_X2_keepPath hs hu  n s (by first | trivial | decide | lia | grind) (by first | trivial | decide | lia | grind) (d + 6)) rfl (by omega) rfl rfl (Nat.le_of_ble_eq_true rfl) dX2_tryRicher_9 (fun r42 u43 q44 => ?_)
    obtain ⟨rfl, mq44⟩ := q44
    obtain ⟨hu43, gu43⟩ := mq44
    have fu43 : fr 13 49 u u43 := fr_tr f0 gu43 (by omega) (by omega)
    exact g_vret dX2_tryRicher_12 rfl ⟨rfl, hu43, fu43⟩
abbrev q_X2_tryRicher (u : uk_Mem) (n : Int32) (g : Int32) (s : Int32) (r : Option Value) (u' : uk_Mem) : Prop := (r = none) ∧ (iv u' ∧ fr 13 49 u u')
theorem c_X2_tryRicher {G : uk_D} (hs : uk_Sep G) {u : uk_Mem} (hu : iv u) (n : Int32) (g : Int32) (s : Int32) (p0 : 0 ≤ g) (p1 : g ≤ n) (p2 : n ≤ 4) (d : Nat) : uk_Meth G (d + 7) mX2_tryRicher [.ref (uk_ad G 46), .ref (uk_ad G 13), .int n, .int g, .int s] u (q_X2_tryRicher u n g s) := by
  have hc : g = n ∨ g + 1 = n ∨ g + 2 = n ∨ g + 3 = n ∨ g + 4 = n := by grind
  rcases hc with q | q | q | q | q
  · exact c_X2_tryRicher_0 hs hu n g s p0 (by grind) p2 q (d + 4)
  · exact c_X2_tryRicher_1 hs hu n g s p0 (by grind) p2 q (d + 3)
  · exact c_X2_tryRicher_2 hs hu n g s p0 (by grind) p2 q (d + 2)
  · exact c_X2_tryRicher_3 hs hu n g s p0 (by grind) p2 q (d + 1)
  · exact c_X2_tryRicher_4 hs hu n g s p0 (by grind) p2 q (d + 0)
abbrev q_X2_tryReaching_0 (u : uk_Mem) (m : Int32) (n : Int32) (g : Int32) (r : Option Value) (u' : uk_Mem) : Prop := (∃ x : Int32, r = some (.int x) ∧ (x = 0 ∨ x = 1) ∧ (¬ x = 0 → True) ∧ (x = 0 → True)) ∧ (iv u' ∧ fr 13 49 u u')
set_option maxHeartbeats 4000000 in
set_option maxRecDepth 20000 in
theorem c_X2_tryReaching_0 {G : uk_D} (hs : uk_Sep G) {u : uk_Mem} (hu : iv u) (m : Int32) (n : Int32) (g : Int32) (p0 : 0 ≤ m) (p1 : m ≤ 7) (p2 : 0 ≤ g) (p3 : g ≤ 4) (p4 : n ≤ 4) (p5 : g = n) (d : Nat) : uk_Meth G (d + 3) mX2_tryReaching [.ref (uk_ad G 46), .ref (uk_ad G 13), .int m, .int n, .int g] u (q_X2_tryReaching_0 u m n g) := by
  refine uk_Meth.of hs (by decide) (Nat.le_of_ble_eq_true rfl) (fun X => ?_)
  have f0 : fr 13 49 u u := fr_rf
  refine g_iload dX2_tryReaching_0 rfl ?_
  refine g_iload_n dX2_tryReaching_2 rfl ?_
  refine g_icmp_lt (tgt := 21) dX2_tryReaching_3 (by decide) (fun c1 => ?_) (fun c1 => ?_)
  · exfalso; grind
  · refine g_aload_n dX2_tryReaching_6 rfl ?_
    refine f_X2_64 rfl rfl dX2_tryReaching_7 ?_
    refine g_iload_n dX2_tryReaching_10 rfl ?_
    have v2 : vp_in m 8 := uk_vin 8 rfl (by first | decide | lia | grind) (by first | decide | lia | grind)
    refine g_iald rfl rfl v2 dX2_tryReaching_11 ?_
    refine g_topi (fun x3 ex3 => ?_)
    refine g_if_le (tgt := 19) dX2_tryReaching_12 (by decide) (fun c4 => ?_) (fun c4 => ?_)
    · refine g_iconst (v := 0) dX2_tryReaching_19 (by decide) ?_
      exact g_iret (ty := .boolean) dX2_tryReaching_20 rfl rfl ⟨⟨0, rfl, Or.inl rfl, fun q => absurd rfl q, fun _ => by first | trivial | lia | grind⟩, hu, f0⟩
    · refine g_iconst (v := 1) dX2_tryReaching_15 (by decide) ?_
      refine g_goto (tgt := 20) dX2_tryReaching_16 (by decide) ?_
      exact g_iret (ty := .boolean) dX2_tryReaching_20 rfl rfl ⟨⟨1, rfl, Or.inr rfl, fun _ => by first | trivial | lia | grind, fun q => absurd q (by decide)⟩, hu, f0⟩
abbrev q_X2_tryReaching_1 (u : uk_Mem) (m : Int32) (n : Int32) (g : Int32) (r : Option Value) (u' : uk_Mem) : Prop := (∃ x : Int32, r = some (.int x) ∧ (x = 0 ∨ x = 1) ∧ (¬ x = 0 → True) ∧ (x = 0 → True)) ∧ (iv u' ∧ fr 13 49 u u')
set_option maxHeartbeats 4000000 in
set_option maxRecDepth 20000 in
theorem c_X2_tryReaching_1 {G : uk_D} (hs : uk_Sep G) {u : uk_Mem} (hu : iv u) (m : Int32) (n : Int32) (g : Int32) (p0 : 0 ≤ m) (p1 : m ≤ 7) (p2 : 0 ≤ g) (p3 : g ≤ 4) (p4 : n ≤ 4) (p5 : g + 1 = n) (d : Nat) : uk_Meth G (d + 4) mX2_tryReaching [.ref (uk_ad G 46), .ref (uk_ad G 13), .int m, .int n, .int g] u (q_X2_tryReaching_1 u m n g) := by
  refine uk_Meth.of hs (by decide) (Nat.le_of_ble_eq_true rfl) (fun X => ?_)
  have f0 : fr 13 49 u u := fr_rf
  refine g_iload dX2_tryReaching_0 rfl ?_
  refine g_iload_n dX2_tryReaching_2 rfl ?_
  refine g_icmp_lt (tgt := 21) dX2_tryReaching_3 (by decide) (fun c1 => ?_) (fun c1 => ?_)
  · refine g_iload dX2_tryReaching_21 rfl ?_
    refine g_iconst (v := 1) dX2_tryReaching_23 (by decide) ?_
    refine g_iadd dX2_tryReaching_24 ?_
    refine g_topi (fun x2 ex2 => ?_)
    refine g_iload_n dX2_tryReaching_25 rfl ?_
    refine g_icmp_ne (tgt := 33) dX2_tryReaching_26 (by decide) (fun c3 => ?_) (fun c3 => ?_)
    · refine g_iconst (v := 0) dX2_tryReaching_33 (by decide) ?_
      refine g_istore dX2_tryReaching_34 (by decide) ?_
      refine g_iconst (v := 0) dX2_tryReaching_36 (by decide) ?_
      refine g_istore dX2_tryReaching_37 (by decide) ?_
      have L39_3 : ∀ i5 : Int32, 0 ≤ i5 → i5 ≤ 18 → ∀ (u6 : uk_Mem), iv u6 → fr 13 49 u u6 → uk_G G X mX2_tryReaching (d + 4) (q_X2_tryReaching_1 u m n g) 39 [(0, .ref (uk_ad G 46)), (1, .ref (uk_ad G 13)), (2, .int m), (3, .int n), (4, .int g), (5, .int 0), (6, .int i5)] [] u6 := by
        refine uk_upl 18 ?_
        intro i5 ai5 bi5 ihi5  u6 hu6 fu6
        refine g_iload dX2_tryReaching_39 rfl ?_
        refine g_bipush (v := 10) dX2_tryReaching_41 (by decide) ?_
        refine g_aload_n dX2_tryReaching_43 rfl ?_
        refine f_X2_44 rfl rfl dX2_tryReaching_44 ?_
        refine g_topi (fun x7 ex7 => ?_)
        have rx7 : 0 ≤ x7 ∧ x7 ≤ 8 := by rw [ex7]; exact iv_at hu6 _ _ rfl
        have s8 : u6.1 13 0 = x7 := ex7.symm
        refine g_iadd dX2_tryReaching_47 ?_
        refine g_topi (fun x9 ex9 => ?_)
        refine g_icmp_ge (tgt := 125) dX2_tryReaching_48 (by decide) (fun c10 => ?_) (fun c10 => ?_)
        · refine g_iconst (v := 0) dX2_tryReaching_125 (by decide) ?_
          exact g_iret (ty := .boolean) dX2_tryReaching_126 rfl rfl ⟨⟨0, rfl, Or.inl rfl, fun q => absurd rfl q, fun _ => by first | trivial | lia | grind⟩, hu6, fu6⟩
        · refine g_aload_n dX2_tryReaching_51 rfl ?_
          refine g_iload dX2_tryReaching_52 rfl ?_
          refine cl_X2_45 (c := 13) (As := [.int i5]) rfl (c_X0_isAble hs hu6 uk_isK13 i5  (d + 1)) rfl (by omega) rfl rfl (Nat.le_of_ble_eq_true rfl) dX2_tryReaching_54 (fun r11 u12 q13 => ?_)
          obtain ⟨⟨x14, rfl, tx14, nx14, zx14⟩, mq13⟩ := q13
          rw [mq13]
          refine g_if_eq (tgt := 119) dX2_tryReaching_57 (by decide) (fun c15 => ?_) (fun c15 => ?_)
          · have zc15 := zx14 c15
            refine g_iinc (v := i5 + 1) dX2_tryReaching_119 rfl rfl (by decide) ?_
            refine g_goto (tgt := 39) dX2_tryReaching_122 (by decide) ?_
            refine g_pick (lv' := [(0, .ref (uk_ad G 46)), (1, .ref (uk_ad G 13)), (2, .int m), (3, .int n), (4, .int g), (5, .int 0), (6, .int (i5 + 1))]) [0, 1, 2, 3, 4, 5, 6] rfl ?_
            exact ihi5 (by first | lia | grind)  u6 hu6 fu6 
          · have zc15 := nx14 c15
            refine g_iload dX2_tryReaching_60 rfl ?_
            refine g_if_eq (tgt := 78) dX2_tryReaching_62 (by decide) (fun c16 => ?_) (fun c16 => ?_)
            · refine g_aload_n dX2_tryReaching_78 rfl ?_
              refine f_X2_9 rfl rfl dX2_tryReaching_79 ?_
              refine g_iload dX2_tryReaching_82 rfl ?_
              refine g_iload dX2_tryReaching_84 rfl ?_
              have v17 : vp_in g 4 := uk_vin 4 rfl (by first | decide | lia | grind) (by first | decide | lia | grind)
              have b18 := uk_cl v17
              refine g_iast rfl rfl v17 dX2_tryReaching_86 ?_
              refine g_mem (fun u19 eu19 => ?_)
              have hu19 : iv u19 := by rw [eu19]; exact iv_upF hu6 (uk_pick1 _ (by omega))
              have fu19 : fr 13 49 u u19 := by rw [eu19]; exact fr_up fu6 (by omega) (by omega)
              refine g_aload_n dX2_tryReaching_87 rfl ?_
              refine g_iload dX2_tryReaching_88 rfl ?_
              refine cl_X2_53 (c := 13) (As := [.int i5]) rfl (c_X0_perform hs hu19 uk_isK13 i5 (by first | trivial | decide | lia | grind) (d + 1)) rfl (by omega) rfl rfl (Nat.le_of_ble_eq_true rfl) dX2_tryReaching_90 (fun r20 u21 q22 => ?_)
              obtain ⟨rfl, mq22⟩ := q22
              obtain ⟨hu21, gu21⟩ := mq22
              have fu21 : fr 13 49 u u21 := fr_tr fu19 gu21 (by omega) (by omega)
              refine g_aload_n dX2_tryReaching_93 rfl ?_
              refine g_aload_n dX2_tryReaching_94 rfl ?_
              refine g_iload_n dX2_tryReaching_95 rfl ?_
              refine g_iload_n dX2_tryReaching_96 rfl ?_
              refine g_iload dX2_tryReaching_97 rfl ?_
              refine g_iconst (v := 1) dX2_tryReaching_99 (by decide) ?_
              refine g_iadd dX2_tryReaching_100 ?_
              refine g_topi (fun x23 ex23 => ?_)
              refine cl_X2_60 (c := 46) (As := [.ref (uk_ad G 13), .int m, .int n, .int x23]) rfl (c_X2_tryReaching_0 hs hu21  m n x23 (by first | trivial | decide | lia | grind) (by first | trivial | decide | lia | grind) (by first | trivial | decide | lia | grind) (by first | trivial | decide | lia | grind) (by first | trivial | decide | lia | grind) (by first | trivial | decide | lia | grind) (d)) rfl (by omega) rfl rfl (Nat.le_of_ble_eq_true rfl) dX2_tryReaching_101 (fun r24 u25 q26 => ?_)
              obtain ⟨⟨x27, rfl, tx27, nx27, zx27⟩, mq26⟩ := q26
              obtain ⟨hu25, gu25⟩ := mq26
              have fu25 : fr 13 49 u u25 := fr_tr fu21 gu25 (by omega) (by omega)
              refine g_istore dX2_tryReaching_104 (by decide) ?_
              refine g_aload_n dX2_tryReaching_106 rfl ?_
              refine g_iload dX2_tryReaching_107 rfl ?_
              refine cl_X2_57 (c := 13) (As := [.int i5]) rfl (c_X0_undo hs hu25 uk_isK13 i5 (by first | trivial | decide | lia | grind) (d + 1)) rfl (by omega) rfl rfl (Nat.le_of_ble_eq_true rfl) dX2_tryReaching_109 (fun r28 u29 q30 => ?_)
              obtain ⟨rfl, mq30⟩ := q30
              obtain ⟨hu29, gu29⟩ := mq30
              have fu29 : fr 13 49 u u29 := fr_tr fu25 gu29 (by omega) (by omega)
              refine g_iload dX2_tryReaching_112 rfl ?_
              refine g_if_eq (tgt := 119) dX2_tryReaching_114 (by decide) (fun c31 => ?_) (fun c31 => ?_)
              · have zc31 := zx27 c31
                refine g_iinc (v := i5 + 1) dX2_tryReaching_119 rfl rfl (by decide) ?_
                refine g_goto (tgt := 39) dX2_tryReaching_122 (by decide) ?_
                refine g_pick (lv' := [(0, .ref (uk_ad G 46)), (1, .ref (uk_ad G 13)), (2, .int m), (3, .int n), (4, .int g), (5, .int 0), (6, .int (i5 + 1))]) [0, 1, 2, 3, 4, 5, 6] rfl ?_
                exact ihi5 (by first | lia | grind)  u29 hu29 fu29 
              · have zc31 := nx27 c31
                refine g_iconst (v := 1) dX2_tryReaching_117 (by decide) ?_
                exact g_iret (ty := .boolean) dX2_tryReaching_118 rfl rfl ⟨⟨1, rfl, Or.inr rfl, fun _ => by first | trivial | lia | grind, fun q => absurd q (by decide)⟩, hu29, fu29⟩
            · exact absurd c16 (by decide)
      refine g_pick (lv' := [(0, .ref (uk_ad G 46)), (1, .ref (uk_ad G 13)), (2, .int m), (3, .int n), (4, .int g), (5, .int 0), (6, .int 0)]) [0, 1, 2, 3, 4, 5, 6] rfl ?_
      exact L39_3 0 (by first | decide | lia | grind) (by first | decide | lia | grind)  u hu f0 
    · refine g_iconst (v := 1) dX2_tryReaching_29 (by decide) ?_
      refine g_goto (tgt := 34) dX2_tryReaching_30 (by decide) ?_
      refine g_istore dX2_tryReaching_34 (by decide) ?_
      refine g_iconst (v := 0) dX2_tryReaching_36 (by decide) ?_
      refine g_istore dX2_tryReaching_37 (by decide) ?_
      have L39_31 : ∀ i33 : Int32, 0 ≤ i33 → i33 ≤ 18 → ∀ (u34 : uk_Mem), iv u34 → fr 13 49 u u34 → uk_G G X mX2_tryReaching (d + 4) (q_X2_tryReaching_1 u m n g) 39 [(0, .ref (uk_ad G 46)), (1, .ref (uk_ad G 13)), (2, .int m), (3, .int n), (4, .int g), (5, .int 1), (6, .int i33)] [] u34 := by
        refine uk_upl 18 ?_
        intro i33 ai33 bi33 ihi33  u34 hu34 fu34
        refine g_iload dX2_tryReaching_39 rfl ?_
        refine g_bipush (v := 10) dX2_tryReaching_41 (by decide) ?_
        refine g_aload_n dX2_tryReaching_43 rfl ?_
        refine f_X2_44 rfl rfl dX2_tryReaching_44 ?_
        refine g_topi (fun x35 ex35 => ?_)
        have rx35 : 0 ≤ x35 ∧ x35 ≤ 8 := by rw [ex35]; exact iv_at hu34 _ _ rfl
        have s36 : u34.1 13 0 = x35 := ex35.symm
        refine g_iadd dX2_tryReaching_47 ?_
        refine g_topi (fun x37 ex37 => ?_)
        refine g_icmp_ge (tgt := 125) dX2_tryReaching_48 (by decide) (fun c38 => ?_) (fun c38 => ?_)
        · refine g_iconst (v := 0) dX2_tryReaching_125 (by decide) ?_
          exact g_iret (ty := .boolean) dX2_tryReaching_126 rfl rfl ⟨⟨0, rfl, Or.inl rfl, fun q => absurd rfl q, fun _ => by first | trivial | lia | grind⟩, hu34, fu34⟩
        · refine g_aload_n dX2_tryReaching_51 rfl ?_
          refine g_iload dX2_tryReaching_52 rfl ?_
          refine cl_X2_45 (c := 13) (As := [.int i33]) rfl (c_X0_isAble hs hu34 uk_isK13 i33  (d + 1)) rfl (by omega) rfl rfl (Nat.le_of_ble_eq_true rfl) dX2_tryReaching_54 (fun r39 u40 q41 => ?_)
          obtain ⟨⟨x42, rfl, tx42, nx42, zx42⟩, mq41⟩ := q41
          rw [mq41]
          refine g_if_eq (tgt := 119) dX2_tryReaching_57 (by decide) (fun c43 => ?_) (fun c43 => ?_)
          · have zc43 := zx42 c43
            refine g_iinc (v := i33 + 1) dX2_tryReaching_119 rfl rfl (by decide) ?_
            refine g_goto (tgt := 39) dX2_tryReaching_122 (by decide) ?_
            refine g_pick (lv' := [(0, .ref (uk_ad G 46)), (1, .ref (uk_ad G 13)), (2, .int m), (3, .int n), (4, .int g), (5, .int 1), (6, .int (i33 + 1))]) [0, 1, 2, 3, 4, 5, 6] rfl ?_
            exact ihi33 (by first | lia | grind)  u34 hu34 fu34 
          · have zc43 := nx42 c43
            refine g_iload dX2_tryReaching_60 rfl ?_
            refine g_if_eq (tgt := 78) dX2_tryReaching_62 (by decide) (fun c44 => ?_) (fun c44 => ?_)
            · exact absurd c44 (by decide)
            · refine g_aload_n dX2_tryReaching_65 rfl ?_
              refine g_iload dX2_tryReaching_66 rfl ?_
              refine g_iload_n dX2_tryReaching_68 rfl ?_
              refine cl_X2_67 (c := 13) (As := [.int i33, .int m]) rfl (c_X0_brings hs hu34 uk_isK13 i33 m (by first | trivial | decide | lia | grind) (d + 2)) rfl (by omega) rfl rfl (Nat.le_of_ble_eq_true rfl) dX2_tryReaching_69 (fun r45 u46 q47 => ?_)
              obtain ⟨⟨x48, rfl, tx48, nx48, zx48⟩, mq47⟩ := q47
              rw [mq47]
              refine g_if_ne (tgt := 78) dX2_tryReaching_72 (by decide) (fun c49 => ?_) (fun c49 => ?_)
              · have zc49 := nx48 c49
                refine g_aload_n dX2_tryReaching_78 rfl ?_
                refine f_X2_9 rfl rfl dX2_tryReaching_79 ?_
                refine g_iload dX2_tryReaching_82 rfl ?_
                refine g_iload dX2_tryReaching_84 rfl ?_
                have v50 : vp_in g 4 := uk_vin 4 rfl (by first | decide | lia | grind) (by first | decide | lia | grind)
                have b51 := uk_cl v50
                refine g_iast rfl rfl v50 dX2_tryReaching_86 ?_
                refine g_mem (fun u52 eu52 => ?_)
                have hu52 : iv u52 := by rw [eu52]; exact iv_upF hu34 (uk_pick1 _ (by omega))
                have fu52 : fr 13 49 u u52 := by rw [eu52]; exact fr_up fu34 (by omega) (by omega)
                refine g_aload_n dX2_tryReaching_87 rfl ?_
                refine g_iload dX2_tryReaching_88 rfl ?_
                refine cl_X2_53 (c := 13) (As := [.int i33]) rfl (c_X0_perform hs hu52 uk_isK13 i33 (by first | trivial | decide | lia | grind) (d + 1)) rfl (by omega) rfl rfl (Nat.le_of_ble_eq_true rfl) dX2_tryReaching_90 (fun r53 u54 q55 => ?_)
                obtain ⟨rfl, mq55⟩ := q55
                obtain ⟨hu54, gu54⟩ := mq55
                have fu54 : fr 13 49 u u54 := fr_tr fu52 gu54 (by omega) (by omega)
                refine g_aload_n dX2_tryReaching_93 rfl ?_
                refine g_aload_n dX2_tryReaching_94 rfl ?_
                refine g_iload_n dX2_tryReaching_95 rfl ?_
                refine g_iload_n dX2_tryReaching_96 rfl ?_
                refine g_iload dX2_tryReaching_97 rfl ?_
                refine g_iconst (v := 1) dX2_tryReaching_99 (by decide) ?_
                refine g_iadd dX2_tryReaching_100 ?_
                refine g_topi (fun x56 ex56 => ?_)
                refine cl_X2_60 (c := 46) (As := [.ref (uk_ad G 13), .int m, .int n, .int x56]) rfl (c_X2_tryReaching_0 hs hu54  m n x56 (by first | trivial | decide | lia | grind) (by first | trivial | decide | lia | grind) (by first | trivial | decide | lia | grind) (by first | trivial | decide | lia | grind) (by first | trivial | decide | lia | grind) (by first | trivial | decide | lia | grind) (d)) rfl (by omega) rfl rfl (Nat.le_of_ble_eq_true rfl) dX2_tryReaching_101 (fun r57 u58 q59 => ?_)
                obtain ⟨⟨x60, rfl, tx60, nx60, zx60⟩, mq59⟩ := q59
                obtain ⟨hu58, gu58⟩ := mq59
                have fu58 : fr 13 49 u u58 := fr_tr fu54 gu58 (by omega) (by omega)
                refine g_istore dX2_tryReaching_104 (by decide) ?_
                refine g_aload_n dX2_tryReaching_106 rfl ?_
                refine g_iload dX2_tryReaching_107 rfl ?_
                refine cl_X2_57 (c := 13) (As := [.int i33]) rfl (c_X0_undo hs hu58 uk_isK13 i33 (by first | trivial | decide | lia | grind) (d + 1)) rfl (by omega) rfl rfl (Nat.le_of_ble_eq_true rfl) dX2_tryReaching_109 (fun r61 u62 q63 => ?_)
                obtain ⟨rfl, mq63⟩ := q63
                obtain ⟨hu62, gu62⟩ := mq63
                have fu62 : fr 13 49 u u62 := fr_tr fu58 gu62 (by omega) (by omega)
                refine g_iload dX2_tryReaching_112 rfl ?_
                refine g_if_eq (tgt := 119) dX2_tryReaching_114 (by decide) (fun c64 => ?_) (fun c64 => ?_)
                · have zc64 := zx60 c64
                  refine g_iinc (v := i33 + 1) dX2_tryReaching_119 rfl rfl (by decide) ?_
                  refine g_goto (tgt := 39) dX2_tryReaching_122 (by decide) ?_
                  refine g_pick (lv' := [(0, .ref (uk_ad G 46)), (1, .ref (uk_ad G 13)), (2, .int m), (3, .int n), (4, .int g), (5, .int 1), (6, .int (i33 + 1))]) [0, 1, 2, 3, 4, 5, 6] rfl ?_
                  exact ihi33 (by first | lia | grind)  u62 hu62 fu62 
                · have zc64 := nx60 c64
                  refine g_iconst (v := 1) dX2_tryReaching_117 (by decide) ?_
                  exact g_iret (ty := .boolean) dX2_tryReaching_118 rfl rfl ⟨⟨1, rfl, Or.inr rfl, fun _ => by first | trivial | lia | grind, fun q => absurd q (by decide)⟩, hu62, fu62⟩
              · have zc49 := zx48 c49
                refine g_goto (tgt := 119) dX2_tryReaching_75 (by decide) ?_
                refine g_iinc (v := i33 + 1) dX2_tryReaching_119 rfl rfl (by decide) ?_
                refine g_goto (tgt := 39) dX2_tryReaching_122 (by decide) ?_
                refine g_pick (lv' := [(0, .ref (uk_ad G 46)), (1, .ref (uk_ad G 13)), (2, .int m), (3, .int n), (4, .int g), (5, .int 1), (6, .int (i33 + 1))]) [0, 1, 2, 3, 4, 5, 6] rfl ?_
                exact ihi33 (by first | lia | grind)  u34 hu34 fu34 
      refine g_pick (lv' := [(0, .ref (uk_ad G 46)), (1, .ref (uk_ad G 13)), (2, .int m), (3, .int n), (4, .int g), (5, .int 1), (6, .int 0)]) [0, 1, 2, 3, 4, 5, 6] rfl ?_
      exact L39_31 0 (by first | decide | lia | grind) (by first | decide | lia | grind)  u hu f0 
  · refine g_aload_n dX2_tryReaching_6 rfl ?_
    refine f_X2_64 rfl rfl dX2_tryReaching_7 ?_
    refine g_iload_n dX2_tryReaching_10 rfl ?_
    have v65 : vp_in m 8 := uk_vin 8 rfl (by first | decide | lia | grind) (by first | decide | lia | grind)
    refine g_iald rfl rfl v65 dX2_tryReaching_11 ?_
    refine g_topi (fun x66 ex66 => ?_)
    refine g_if_le (tgt := 19) dX2_tryReaching_12 (by decide) (fun c67 => ?_) (fun c67 => ?_)
    · refine g_iconst (v := 0) dX2_tryReaching_19 (by decide) ?_
      exact g_iret (ty := .boolean) dX2_tryReaching_20 rfl rfl ⟨⟨0, rfl, Or.inl rfl, fun q => absurd rfl q, fun _ => by first | trivial | lia | grind⟩, hu, f0⟩
    · refine g_iconst (v := 1) dX2_tryReaching_15 (by decide) ?_
      refine g_goto (tgt := 20) dX2_tryReaching_16 (by decide) ?_
      exact g_iret (ty := .boolean) dX2_tryReaching_20 rfl rfl ⟨⟨1, rfl, Or.inr rfl, fun _ => by first | trivial | lia | grind, fun q => absurd q (by decide)⟩, hu, f0⟩
abbrev q_X2_tryReaching_2 (u : uk_Mem) (m : Int32) (n : Int32) (g : Int32) (r : Option Value) (u' : uk_Mem) : Prop := (∃ x : Int32, r = some (.int x) ∧ (x = 0 ∨ x = 1) ∧ (¬ x = 0 → True) ∧ (x = 0 → True)) ∧ (iv u' ∧ fr 13 49 u u')
set_option maxHeartbeats 4000000 in
set_option maxRecDepth 20000 in
theorem c_X2_tryReaching_2 {G : uk_D} (hs : uk_Sep G) {u : uk_Mem} (hu : iv u) (m : Int32) (n : Int32) (g : Int32) (p0 : 0 ≤ m) (p1 : m ≤ 7) (p2 : 0 ≤ g) (p3 : g ≤ 4) (p4 : n ≤ 4) (p5 : g + 2 = n) (d : Nat) : uk_Meth G (d + 5) mX2_tryReaching [.ref (uk_ad G 46), .ref (uk_ad G 13), .int m, .int n, .int g] u (q_X2_tryReaching_2 u m n g) := by
  refine uk_Meth.of hs (by decide) (Nat.le_of_ble_eq_true rfl) (fun X => ?_)
  have f0 : fr 13 49 u u := fr_rf
  refine g_iload dX2_tryReaching_0 rfl ?_
  refine g_iload_n dX2_tryReaching_2 rfl ?_
  refine g_icmp_lt (tgt := 21) dX2_tryReaching_3 (by decide) (fun c1 => ?_) (fun c1 => ?_)
  · refine g_iload dX2_tryReaching_21 rfl ?_
    refine g_iconst (v := 1) dX2_tryReaching_23 (by decide) ?_
    refine g_iadd dX2_tryReaching_24 ?_
    refine g_topi (fun x2 ex2 => ?_)
    refine g_iload_n dX2_tryReaching_25 rfl ?_
    refine g_icmp_ne (tgt := 33) dX2_tryReaching_26 (by decide) (fun c3 => ?_) (fun c3 => ?_)
    · refine g_iconst (v := 0) dX2_tryReaching_33 (by decide) ?_
      refine g_istore dX2_tryReaching_34 (by decide) ?_
      refine g_iconst (v := 0) dX2_tryReaching_36 (by decide) ?_
      refine g_istore dX2_tryReaching_37 (by decide) ?_
      have L39_3 : ∀ i5 : Int32, 0 ≤ i5 → i5 ≤ 18 → ∀ (u6 : uk_Mem), iv u6 → fr 13 49 u u6 → uk_G G X mX2_tryReaching (d + 5) (q_X2_tryReaching_2 u m n g) 39 [(0, .ref (uk_ad G 46)), (1, .ref (uk_ad G 13)), (2, .int m), (3, .int n), (4, .int g), (5, .int 0), (6, .int i5)] [] u6 := by
        refine uk_upl 18 ?_
        intro i5 ai5 bi5 ihi5  u6 hu6 fu6
        refine g_iload dX2_tryReaching_39 rfl ?_
        refine g_bipush (v := 10) dX2_tryReaching_41 (by decide) ?_
        refine g_aload_n dX2_tryReaching_43 rfl ?_
        refine f_X2_44 rfl rfl dX2_tryReaching_44 ?_
        refine g_topi (fun x7 ex7 => ?_)
        have rx7 : 0 ≤ x7 ∧ x7 ≤ 8 := by rw [ex7]; exact iv_at hu6 _ _ rfl
        have s8 : u6.1 13 0 = x7 := ex7.symm
        refine g_iadd dX2_tryReaching_47 ?_
        refine g_topi (fun x9 ex9 => ?_)
        refine g_icmp_ge (tgt := 125) dX2_tryReaching_48 (by decide) (fun c10 => ?_) (fun c10 => ?_)
        · refine g_iconst (v := 0) dX2_tryReaching_125 (by decide) ?_
          exact g_iret (ty := .boolean) dX2_tryReaching_126 rfl rfl ⟨⟨0, rfl, Or.inl rfl, fun q => absurd rfl q, fun _ => by first | trivial | lia | grind⟩, hu6, fu6⟩
        · refine g_aload_n dX2_tryReaching_51 rfl ?_
          refine g_iload dX2_tryReaching_52 rfl ?_
          refine cl_X2_45 (c := 13) (As := [.int i5]) rfl (c_X0_isAble hs hu6 uk_isK13 i5  (d + 2)) rfl (by omega) rfl rfl (Nat.le_of_ble_eq_true rfl) dX2_tryReaching_54 (fun r11 u12 q13 => ?_)
          obtain ⟨⟨x14, rfl, tx14, nx14, zx14⟩, mq13⟩ := q13
          rw [mq13]
          refine g_if_eq (tgt := 119) dX2_tryReaching_57 (by decide) (fun c15 => ?_) (fun c15 => ?_)
          · have zc15 := zx14 c15
            refine g_iinc (v := i5 + 1) dX2_tryReaching_119 rfl rfl (by decide) ?_
            refine g_goto (tgt := 39) dX2_tryReaching_122 (by decide) ?_
            refine g_pick (lv' := [(0, .ref (uk_ad G 46)), (1, .ref (uk_ad G 13)), (2, .int m), (3, .int n), (4, .int g), (5, .int 0), (6, .int (i5 + 1))]) [0, 1, 2, 3, 4, 5, 6] rfl ?_
            exact ihi5 (by first | lia | grind)  u6 hu6 fu6 
          · have zc15 := nx14 c15
            refine g_iload dX2_tryReaching_60 rfl ?_
            refine g_if_eq (tgt := 78) dX2_tryReaching_62 (by decide) (fun c16 => ?_) (fun c16 => ?_)
            · refine g_aload_n dX2_tryReaching_78 rfl ?_
              refine f_X2_9 rfl rfl dX2_tryReaching_79 ?_
              refine g_iload dX2_tryReaching_82 rfl ?_
              refine g_iload dX2_tryReaching_84 rfl ?_
              have v17 : vp_in g 4 := uk_vin 4 rfl (by first | decide | lia | grind) (by first | decide | lia | grind)
              have b18 := uk_cl v17
              refine g_iast rfl rfl v17 dX2_tryReaching_86 ?_
              refine g_mem (fun u19 eu19 => ?_)
              have hu19 : iv u19 := by rw [eu19]; exact iv_upF hu6 (uk_pick1 _ (by omega))
              have fu19 : fr 13 49 u u19 := by rw [eu19]; exact fr_up fu6 (by omega) (by omega)
              refine g_aload_n dX2_tryReaching_87 rfl ?_
              refine g_iload dX2_tryReaching_88 rfl ?_
              refine cl_X2_53 (c := 13) (As := [.int i5]) rfl (c_X0_perform hs hu19 uk_isK13 i5 (by first | trivial | decide | lia | grind) (d + 2)) rfl (by omega) rfl rfl (Nat.le_of_ble_eq_true rfl) dX2_tryReaching_90 (fun r20 u21 q22 => ?_)
              obtain ⟨rfl, mq22⟩ := q22
              obtain ⟨hu21, gu21⟩ := mq22
              have fu21 : fr 13 49 u u21 := fr_tr fu19 gu21 (by omega) (by omega)
              refine g_aload_n dX2_tryReaching_93 rfl ?_
              refine g_aload_n dX2_tryReaching_94 rfl ?_
              refine g_iload_n dX2_tryReaching_95 rfl ?_
              refine g_iload_n dX2_tryReaching_96 rfl ?_
              refine g_iload dX2_tryReaching_97 rfl ?_
              refine g_iconst (v := 1) dX2_tryReaching_99 (by decide) ?_
              refine g_iadd dX2_tryReaching_100 ?_
              refine g_topi (fun x23 ex23 => ?_)
              refine cl_X2_60 (c := 46) (As := [.ref (uk_ad G 13), .int m, .int n, .int x23]) rfl (c_X2_tryReaching_1 hs hu21  m n x23 (by first | trivial | decide | lia | grind) (by first | trivial | decide | lia | grind) (by first | trivial | decide | lia | grind) (by first | trivial | decide | lia | grind) (by first | trivial | decide | lia | grind) (by first | trivial | decide | lia | grind) (d)) rfl (by omega) rfl rfl (Nat.le_of_ble_eq_true rfl) dX2_tryReaching_101 (fun r24 u25 q26 => ?_)
              obtain ⟨⟨x27, rfl, tx27, nx27, zx27⟩, mq26⟩ := q26
              obtain ⟨hu25, gu25⟩ := mq26
              have fu25 : fr 13 49 u u25 := fr_tr fu21 gu25 (by omega) (by omega)
              refine g_istore dX2_tryReaching_104 (by decide) ?_
              refine g_aload_n dX2_tryReaching_106 rfl ?_
              refine g_iload dX2_tryReaching_107 rfl ?_
              refine cl_X2_57 (c := 13) (As := [.int i5]) rfl (c_X0_undo hs hu25 uk_isK13 i5 (by first | trivial | decide | lia | grind) (d + 2)) rfl (by omega) rfl rfl (Nat.le_of_ble_eq_true rfl) dX2_tryReaching_109 (fun r28 u29 q30 => ?_)
              obtain ⟨rfl, mq30⟩ := q30
              obtain ⟨hu29, gu29⟩ := mq30
              have fu29 : fr 13 49 u u29 := fr_tr fu25 gu29 (by omega) (by omega)
              refine g_iload dX2_tryReaching_112 rfl ?_
              refine g_if_eq (tgt := 119) dX2_tryReaching_114 (by decide) (fun c31 => ?_) (fun c31 => ?_)
              · have zc31 := zx27 c31
                refine g_iinc (v := i5 + 1) dX2_tryReaching_119 rfl rfl (by decide) ?_
                refine g_goto (tgt := 39) dX2_tryReaching_122 (by decide) ?_
                refine g_pick (lv' := [(0, .ref (uk_ad G 46)), (1, .ref (uk_ad G 13)), (2, .int m), (3, .int n), (4, .int g), (5, .int 0), (6, .int (i5 + 1))]) [0, 1, 2, 3, 4, 5, 6] rfl ?_
                exact ihi5 (by first | lia | grind)  u29 hu29 fu29 
              · have zc31 := nx27 c31
                refine g_iconst (v := 1) dX2_tryReaching_117 (by decide) ?_
                exact g_iret (ty := .boolean) dX2_tryReaching_118 rfl rfl ⟨⟨1, rfl, Or.inr rfl, fun _ => by first | trivial | lia | grind, fun q => absurd q (by decide)⟩, hu29, fu29⟩
            · exact absurd c16 (by decide)
      refine g_pick (lv' := [(0, .ref (uk_ad G 46)), (1, .ref (uk_ad G 13)), (2, .int m), (3, .int n), (4, .int g), (5, .int 0), (6, .int 0)]) [0, 1, 2, 3, 4, 5, 6] rfl ?_
      exact L39_3 0 (by first | decide | lia | grind) (by first | decide | lia | grind)  u hu f0 
    · refine g_iconst (v := 1) dX2_tryReaching_29 (by decide) ?_
      refine g_goto (tgt := 34) dX2_tryReaching_30 (by decide) ?_
      refine g_istore dX2_tryReaching_34 (by decide) ?_
      refine g_iconst (v := 0) dX2_tryReaching_36 (by decide) ?_
      refine g_istore dX2_tryReaching_37 (by decide) ?_
      have L39_31 : ∀ i33 : Int32, 0 ≤ i33 → i33 ≤ 18 → ∀ (u34 : uk_Mem), iv u34 → fr 13 49 u u34 → uk_G G X mX2_tryReaching (d + 5) (q_X2_tryReaching_2 u m n g) 39 [(0, .ref (uk_ad G 46)), (1, .ref (uk_ad G 13)), (2, .int m), (3, .int n), (4, .int g), (5, .int 1), (6, .int i33)] [] u34 := by
        refine uk_upl 18 ?_
        intro i33 ai33 bi33 ihi33  u34 hu34 fu34
        refine g_iload dX2_tryReaching_39 rfl ?_
        refine g_bipush (v := 10) dX2_tryReaching_41 (by decide) ?_
        refine g_aload_n dX2_tryReaching_43 rfl ?_
        refine f_X2_44 rfl rfl dX2_tryReaching_44 ?_
        refine g_topi (fun x35 ex35 => ?_)
        have rx35 : 0 ≤ x35 ∧ x35 ≤ 8 := by rw [ex35]; exact iv_at hu34 _ _ rfl
        have s36 : u34.1 13 0 = x35 := ex35.symm
        refine g_iadd dX2_tryReaching_47 ?_
        refine g_topi (fun x37 ex37 => ?_)
        refine g_icmp_ge (tgt := 125) dX2_tryReaching_48 (by decide) (fun c38 => ?_) (fun c38 => ?_)
        · refine g_iconst (v := 0) dX2_tryReaching_125 (by decide) ?_
          exact g_iret (ty := .boolean) dX2_tryReaching_126 rfl rfl ⟨⟨0, rfl, Or.inl rfl, fun q => absurd rfl q, fun _ => by first | trivial | lia | grind⟩, hu34, fu34⟩
        · refine g_aload_n dX2_tryReaching_51 rfl ?_
          refine g_iload dX2_tryReaching_52 rfl ?_
          refine cl_X2_45 (c := 13) (As := [.int i33]) rfl (c_X0_isAble hs hu34 uk_isK13 i33  (d + 2)) rfl (by omega) rfl rfl (Nat.le_of_ble_eq_true rfl) dX2_tryReaching_54 (fun r39 u40 q41 => ?_)
          obtain ⟨⟨x42, rfl, tx42, nx42, zx42⟩, mq41⟩ := q41
          rw [mq41]
          refine g_if_eq (tgt := 119) dX2_tryReaching_57 (by decide) (fun c43 => ?_) (fun c43 => ?_)
          · have zc43 := zx42 c43
            refine g_iinc (v := i33 + 1) dX2_tryReaching_119 rfl rfl (by decide) ?_
            refine g_goto (tgt := 39) dX2_tryReaching_122 (by decide) ?_
            refine g_pick (lv' := [(0, .ref (uk_ad G 46)), (1, .ref (uk_ad G 13)), (2, .int m), (3, .int n), (4, .int g), (5, .int 1), (6, .int (i33 + 1))]) [0, 1, 2, 3, 4, 5, 6] rfl ?_
            exact ihi33 (by first | lia | grind)  u34 hu34 fu34 
          · have zc43 := nx42 c43
            refine g_iload dX2_tryReaching_60 rfl ?_
            refine g_if_eq (tgt := 78) dX2_tryReaching_62 (by decide) (fun c44 => ?_) (fun c44 => ?_)
            · exact absurd c44 (by decide)
            · refine g_aload_n dX2_tryReaching_65 rfl ?_
              refine g_iload dX2_tryReaching_66 rfl ?_
              refine g_iload_n dX2_tryReaching_68 rfl ?_
              refine cl_X2_67 (c := 13) (As := [.int i33, .int m]) rfl (c_X0_brings hs hu34 uk_isK13 i33 m (by first | trivial | decide | lia | grind) (d + 3)) rfl (by omega) rfl rfl (Nat.le_of_ble_eq_true rfl) dX2_tryReaching_69 (fun r45 u46 q47 => ?_)
              obtain ⟨⟨x48, rfl, tx48, nx48, zx48⟩, mq47⟩ := q47
              rw [mq47]
              refine g_if_ne (tgt := 78) dX2_tryReaching_72 (by decide) (fun c49 => ?_) (fun c49 => ?_)
              · have zc49 := nx48 c49
                refine g_aload_n dX2_tryReaching_78 rfl ?_
                refine f_X2_9 rfl rfl dX2_tryReaching_79 ?_
                refine g_iload dX2_tryReaching_82 rfl ?_
                refine g_iload dX2_tryReaching_84 rfl ?_
                have v50 : vp_in g 4 := uk_vin 4 rfl (by first | decide | lia | grind) (by first | decide | lia | grind)
                have b51 := uk_cl v50
                refine g_iast rfl rfl v50 dX2_tryReaching_86 ?_
                refine g_mem (fun u52 eu52 => ?_)
                have hu52 : iv u52 := by rw [eu52]; exact iv_upF hu34 (uk_pick1 _ (by omega))
                have fu52 : fr 13 49 u u52 := by rw [eu52]; exact fr_up fu34 (by omega) (by omega)
                refine g_aload_n dX2_tryReaching_87 rfl ?_
                refine g_iload dX2_tryReaching_88 rfl ?_
                refine cl_X2_53 (c := 13) (As := [.int i33]) rfl (c_X0_perform hs hu52 uk_isK13 i33 (by first | trivial | decide | lia | grind) (d + 2)) rfl (by omega) rfl rfl (Nat.le_of_ble_eq_true rfl) dX2_tryReaching_90 (fun r53 u54 q55 => ?_)
                obtain ⟨rfl, mq55⟩ := q55
                obtain ⟨hu54, gu54⟩ := mq55
                have fu54 : fr 13 49 u u54 := fr_tr fu52 gu54 (by omega) (by omega)
                refine g_aload_n dX2_tryReaching_93 rfl ?_
                refine g_aload_n dX2_tryReaching_94 rfl ?_
                refine g_iload_n dX2_tryReaching_95 rfl ?_
                refine g_iload_n dX2_tryReaching_96 rfl ?_
                refine g_iload dX2_tryReaching_97 rfl ?_
                refine g_iconst (v := 1) dX2_tryReaching_99 (by decide) ?_
                refine g_iadd dX2_tryReaching_100 ?_
                refine g_topi (fun x56 ex56 => ?_)
                refine cl_X2_60 (c := 46) (As := [.ref (uk_ad G 13), .int m, .int n, .int x56]) rfl (c_X2_tryReaching_1 hs hu54  m n x56 (by first | trivial | decide | lia | grind) (by first | trivial | decide | lia | grind) (by first | trivial | decide | lia | grind) (by first | trivial | decide | lia | grind) (by first | trivial | decide | lia | grind) (by first | trivial | decide | lia | grind) (d)) rfl (by omega) rfl rfl (Nat.le_of_ble_eq_true rfl) dX2_tryReaching_101 (fun r57 u58 q59 => ?_)
                obtain ⟨⟨x60, rfl, tx60, nx60, zx60⟩, mq59⟩ := q59
                obtain ⟨hu58, gu58⟩ := mq59
                have fu58 : fr 13 49 u u58 := fr_tr fu54 gu58 (by omega) (by omega)
                refine g_istore dX2_tryReaching_104 (by decide) ?_
                refine g_aload_n dX2_tryReaching_106 rfl ?_
                refine g_iload dX2_tryReaching_107 rfl ?_
                refine cl_X2_57 (c := 13) (As := [.int i33]) rfl (c_X0_undo hs hu58 uk_isK13 i33 (by first | trivial | decide | lia | grind) (d + 2)) rfl (by omega) rfl rfl (Nat.le_of_ble_eq_true rfl) dX2_tryReaching_109 (fun r61 u62 q63 => ?_)
                obtain ⟨rfl, mq63⟩ := q63
                obtain ⟨hu62, gu62⟩ := mq63
                have fu62 : fr 13 49 u u62 := fr_tr fu58 gu62 (by omega) (by omega)
                refine g_iload dX2_tryReaching_112 rfl ?_
                refine g_if_eq (tgt := 119) dX2_tryReaching_114 (by decide) (fun c64 => ?_) (fun c64 => ?_)
                · have zc64 := zx60 c64
                  refine g_iinc (v := i33 + 1) dX2_tryReaching_119 rfl rfl (by decide) ?_
                  refine g_goto (tgt := 39) dX2_tryReaching_122 (by decide) ?_
                  refine g_pick (lv' := [(0, .ref (uk_ad G 46)), (1, .ref (uk_ad G 13)), (2, .int m), (3, .int n), (4, .int g), (5, .int 1), (6, .int (i33 + 1))]) [0, 1, 2, 3, 4, 5, 6] rfl ?_
                  exact ihi33 (by first | lia | grind)  u62 hu62 fu62 
                · have zc64 := nx60 c64
                  refine g_iconst (v := 1) dX2_tryReaching_117 (by decide) ?_
                  exact g_iret (ty := .boolean) dX2_tryReaching_118 rfl rfl ⟨⟨1, rfl, Or.inr rfl, fun _ => by first | trivial | lia | grind, fun q => absurd q (by decide)⟩, hu62, fu62⟩
              · have zc49 := zx48 c49
                refine g_goto (tgt := 119) dX2_tryReaching_75 (by decide) ?_
                refine g_iinc (v := i33 + 1) dX2_tryReaching_119 rfl rfl (by decide) ?_
                refine g_goto (tgt := 39) dX2_tryReaching_122 (by decide) ?_
                refine g_pick (lv' := [(0, .ref (uk_ad G 46)), (1, .ref (uk_ad G 13)), (2, .int m), (3, .int n), (4, .int g), (5, .int 1), (6, .int (i33 + 1))]) [0, 1, 2, 3, 4, 5, 6] rfl ?_
                exact ihi33 (by first | lia | grind)  u34 hu34 fu34 
      refine g_pick (lv' := [(0, .ref (uk_ad G 46)), (1, .ref (uk_ad G 13)), (2, .int m), (3, .int n), (4, .int g), (5, .int 1), (6, .int 0)]) [0, 1, 2, 3, 4, 5, 6] rfl ?_
      exact L39_31 0 (by first | decide | lia | grind) (by first | decide | lia | grind)  u hu f0 
  · refine g_aload_n dX2_tryReaching_6 rfl ?_
    refine f_X2_64 rfl rfl dX2_tryReaching_7 ?_
    refine g_iload_n dX2_tryReaching_10 rfl ?_
    have v65 : vp_in m 8 := uk_vin 8 rfl (by first | decide | lia | grind) (by first | decide | lia | grind)
    refine g_iald rfl rfl v65 dX2_tryReaching_11 ?_
    refine g_topi (fun x66 ex66 => ?_)
    refine g_if_le (tgt := 19) dX2_tryReaching_12 (by decide) (fun c67 => ?_) (fun c67 => ?_)
    · refine g_iconst (v := 0) dX2_tryReaching_19 (by decide) ?_
      exact g_iret (ty := .boolean) dX2_tryReaching_20 rfl rfl ⟨⟨0, rfl, Or.inl rfl, fun q => absurd rfl q, fun _ => by first | trivial | lia | grind⟩, hu, f0⟩
    · refine g_iconst (v := 1) dX2_tryReaching_15 (by decide) ?_
      refine g_goto (tgt := 20) dX2_tryReaching_16 (by decide) ?_
      exact g_iret (ty := .boolean) dX2_tryReaching_20 rfl rfl ⟨⟨1, rfl, Or.inr rfl, fun _ => by first | trivial | lia | grind, fun q => absurd q (by decide)⟩, hu, f0⟩
abbrev q_X2_tryReaching_3 (u : uk_Mem) (m : Int32) (n : Int32) (g : Int32) (r : Option Value) (u' : uk_Mem) : Prop := (∃ x : Int32, r = some (.int x) ∧ (x = 0 ∨ x = 1) ∧ (¬ x = 0 → True) ∧ (x = 0 → True)) ∧ (iv u' ∧ fr 13 49 u u')
set_option maxHeartbeats 4000000 in
set_option maxRecDepth 20000 in
theorem c_X2_tryReaching_3 {G : uk_D} (hs : uk_Sep G) {u : uk_Mem} (hu : iv u) (m : Int32) (n : Int32) (g : Int32) (p0 : 0 ≤ m) (p1 : m ≤ 7) (p2 : 0 ≤ g) (p3 : g ≤ 4) (p4 : n ≤ 4) (p5 : g + 3 = n) (d : Nat) : uk_Meth G (d + 6) mX2_tryReaching [.ref (uk_ad G 46), .ref (uk_ad G 13), .int m, .int n, .int g] u (q_X2_tryReaching_3 u m n g) := by
  refine uk_Meth.of hs (by decide) (Nat.le_of_ble_eq_true rfl) (fun X => ?_)
  have f0 : fr 13 49 u u := fr_rf
  refine g_iload dX2_tryReaching_0 rfl ?_
  refine g_iload_n dX2_tryReaching_2 rfl ?_
  refine g_icmp_lt (tgt := 21) dX2_tryReaching_3 (by decide) (fun c1 => ?_) (fun c1 => ?_)
  · refine g_iload dX2_tryReaching_21 rfl ?_
    refine g_iconst (v := 1) dX2_tryReaching_23 (by decide) ?_
    refine g_iadd dX2_tryReaching_24 ?_
    refine g_topi (fun x2 ex2 => ?_)
    refine g_iload_n dX2_tryReaching_25 rfl ?_
    refine g_icmp_ne (tgt := 33) dX2_tryReaching_26 (by decide) (fun c3 => ?_) (fun c3 => ?_)
    · refine g_iconst (v := 0) dX2_tryReaching_33 (by decide) ?_
      refine g_istore dX2_tryReaching_34 (by decide) ?_
      refine g_iconst (v := 0) dX2_tryReaching_36 (by decide) ?_
      refine g_istore dX2_tryReaching_37 (by decide) ?_
      have L39_3 : ∀ i5 : Int32, 0 ≤ i5 → i5 ≤ 18 → ∀ (u6 : uk_Mem), iv u6 → fr 13 49 u u6 → uk_G G X mX2_tryReaching (d + 6) (q_X2_tryReaching_3 u m n g) 39 [(0, .ref (uk_ad G 46)), (1, .ref (uk_ad G 13)), (2, .int m), (3, .int n), (4, .int g), (5, .int 0), (6, .int i5)] [] u6 := by
        refine uk_upl 18 ?_
        intro i5 ai5 bi5 ihi5  u6 hu6 fu6
        refine g_iload dX2_tryReaching_39 rfl ?_
        refine g_bipush (v := 10) dX2_tryReaching_41 (by decide) ?_
        refine g_aload_n dX2_tryReaching_43 rfl ?_
        refine f_X2_44 rfl rfl dX2_tryReaching_44 ?_
        refine g_topi (fun x7 ex7 => ?_)
        have rx7 : 0 ≤ x7 ∧ x7 ≤ 8 := by rw [ex7]; exact iv_at hu6 _ _ rfl
        have s8 : u6.1 13 0 = x7 := ex7.symm
        refine g_iadd dX2_tryReaching_47 ?_
        refine g_topi (fun x9 ex9 => ?_)
        refine g_icmp_ge (tgt := 125) dX2_tryReaching_48 (by decide) (fun c10 => ?_) (fun c10 => ?_)
        · refine g_iconst (v := 0) dX2_tryReaching_125 (by decide) ?_
          exact g_iret (ty := .boolean) dX2_tryReaching_126 rfl rfl ⟨⟨0, rfl, Or.inl rfl, fun q => absurd rfl q, fun _ => by first | trivial | lia | grind⟩, hu6, fu6⟩
        · refine g_aload_n dX2_tryReaching_51 rfl ?_
          refine g_iload dX2_tryReaching_52 rfl ?_
          refine cl_X2_45 (c := 13) (As := [.int i5]) rfl (c_X0_isAble hs hu6 uk_isK13 i5  (d + 3)) rfl (by omega) rfl rfl (Nat.le_of_ble_eq_true rfl) dX2_tryReaching_54 (fun r11 u12 q13 => ?_)
          obtain ⟨⟨x14, rfl, tx14, nx14, zx14⟩, mq13⟩ := q13
          rw [mq13]
          refine g_if_eq (tgt := 119) dX2_tryReaching_57 (by decide) (fun c15 => ?_) (fun c15 => ?_)
          · have zc15 := zx14 c15
            refine g_iinc (v := i5 + 1) dX2_tryReaching_119 rfl rfl (by decide) ?_
            refine g_goto (tgt := 39) dX2_tryReaching_122 (by decide) ?_
            refine g_pick (lv' := [(0, .ref (uk_ad G 46)), (1, .ref (uk_ad G 13)), (2, .int m), (3, .int n), (4, .int g), (5, .int 0), (6, .int (i5 + 1))]) [0, 1, 2, 3, 4, 5, 6] rfl ?_
            exact ihi5 (by first | lia | grind)  u6 hu6 fu6 
          · have zc15 := nx14 c15
            refine g_iload dX2_tryReaching_60 rfl ?_
            refine g_if_eq (tgt := 78) dX2_tryReaching_62 (by decide) (fun c16 => ?_) (fun c16 => ?_)
            · refine g_aload_n dX2_tryReaching_78 rfl ?_
              refine f_X2_9 rfl rfl dX2_tryReaching_79 ?_
              refine g_iload dX2_tryReaching_82 rfl ?_
              refine g_iload dX2_tryReaching_84 rfl ?_
              have v17 : vp_in g 4 := uk_vin 4 rfl (by first | decide | lia | grind) (by first | decide | lia | grind)
              have b18 := uk_cl v17
              refine g_iast rfl rfl v17 dX2_tryReaching_86 ?_
              refine g_mem (fun u19 eu19 => ?_)
              have hu19 : iv u19 := by rw [eu19]; exact iv_upF hu6 (uk_pick1 _ (by omega))
              have fu19 : fr 13 49 u u19 := by rw [eu19]; exact fr_up fu6 (by omega) (by omega)
              refine g_aload_n dX2_tryReaching_87 rfl ?_
              refine g_iload dX2_tryReaching_88 rfl ?_
              refine cl_X2_53 (c := 13) (As := [.int i5]) rfl (c_X0_perform hs hu19 uk_isK13 i5 (by first | trivial | decide | lia | grind) (d + 3)) rfl (by omega) rfl rfl (Nat.le_of_ble_eq_true rfl) dX2_tryReaching_90 (fun r20 u21 q22 => ?_)
              obtain ⟨rfl, mq22⟩ := q22
              obtain ⟨hu21, gu21⟩ := mq22
              have fu21 : fr 13 49 u u21 := fr_tr fu19 gu21 (by omega) (by omega)
              refine g_aload_n dX2_tryReaching_93 rfl ?_
              refine g_aload_n dX2_tryReaching_94 rfl ?_
              refine g_iload_n dX2_tryReaching_95 rfl ?_
              refine g_iload_n dX2_tryReaching_96 rfl ?_
              refine g_iload dX2_tryReaching_97 rfl ?_
              refine g_iconst (v := 1) dX2_tryReaching_99 (by decide) ?_
              refine g_iadd dX2_tryReaching_100 ?_
              refine g_topi (fun x23 ex23 => ?_)
              refine cl_X2_60 (c := 46) (As := [.ref (uk_ad G 13), .int m, .int n, .int x23]) rfl (c_X2_tryReaching_2 hs hu21  m n x23 (by first | trivial | decide | lia | grind) (by first | trivial | decide | lia | grind) (by first | trivial | decide | lia | grind) (by first | trivial | decide | lia | grind) (by first | trivial | decide | lia | grind) (by first | trivial | decide | lia | grind) (d)) rfl (by omega) rfl rfl (Nat.le_of_ble_eq_true rfl) dX2_tryReaching_101 (fun r24 u25 q26 => ?_)
              obtain ⟨⟨x27, rfl, tx27, nx27, zx27⟩, mq26⟩ := q26
              obtain ⟨hu25, gu25⟩ := mq26
              have fu25 : fr 13 49 u u25 := fr_tr fu21 gu25 (by omega) (by omega)
              refine g_istore dX2_tryReaching_104 (by decide) ?_
              refine g_aload_n dX2_tryReaching_106 rfl ?_
              refine g_iload dX2_tryReaching_107 rfl ?_
              refine cl_X2_57 (c := 13) (As := [.int i5]) rfl (c_X0_undo hs hu25 uk_isK13 i5 (by first | trivial | decide | lia | grind) (d + 3)) rfl (by omega) rfl rfl (Nat.le_of_ble_eq_true rfl) dX2_tryReaching_109 (fun r28 u29 q30 => ?_)
              obtain ⟨rfl, mq30⟩ := q30
              obtain ⟨hu29, gu29⟩ := mq30
              have fu29 : fr 13 49 u u29 := fr_tr fu25 gu29 (by omega) (by omega)
              refine g_iload dX2_tryReaching_112 rfl ?_
              refine g_if_eq (tgt := 119) dX2_tryReaching_114 (by decide) (fun c31 => ?_) (fun c31 => ?_)
              · have zc31 := zx27 c31
                refine g_iinc (v := i5 + 1) dX2_tryReaching_119 rfl rfl (by decide) ?_
                refine g_goto (tgt := 39) dX2_tryReaching_122 (by decide) ?_
                refine g_pick (lv' := [(0, .ref (uk_ad G 46)), (1, .ref (uk_ad G 13)), (2, .int m), (3, .int n), (4, .int g), (5, .int 0), (6, .int (i5 + 1))]) [0, 1, 2, 3, 4, 5, 6] rfl ?_
                exact ihi5 (by first | lia | grind)  u29 hu29 fu29 
              · have zc31 := nx27 c31
                refine g_iconst (v := 1) dX2_tryReaching_117 (by decide) ?_
                exact g_iret (ty := .boolean) dX2_tryReaching_118 rfl rfl ⟨⟨1, rfl, Or.inr rfl, fun _ => by first | trivial | lia | grind, fun q => absurd q (by decide)⟩, hu29, fu29⟩
            · exact absurd c16 (by decide)
      refine g_pick (lv' := [(0, .ref (uk_ad G 46)), (1, .ref (uk_ad G 13)), (2, .int m), (3, .int n), (4, .int g), (5, .int 0), (6, .int 0)]) [0, 1, 2, 3, 4, 5, 6] rfl ?_
      exact L39_3 0 (by first | decide | lia | grind) (by first | decide | lia | grind)  u hu f0 
    · refine g_iconst (v := 1) dX2_tryReaching_29 (by decide) ?_
      refine g_goto (tgt := 34) dX2_tryReaching_30 (by decide) ?_
      refine g_istore dX2_tryReaching_34 (by decide) ?_
      refine g_iconst (v := 0) dX2_tryReaching_36 (by decide) ?_
      refine g_istore dX2_tryReaching_37 (by decide) ?_
      have L39_31 : ∀ i33 : Int32, 0 ≤ i33 → i33 ≤ 18 → ∀ (u34 : uk_Mem), iv u34 → fr 13 49 u u34 → uk_G G X mX2_tryReaching (d + 6) (q_X2_tryReaching_3 u m n g) 39 [(0, .ref (uk_ad G 46)), (1, .ref (uk_ad G 13)), (2, .int m), (3, .int n), (4, .int g), (5, .int 1), (6, .int i33)] [] u34 := by
        refine uk_upl 18 ?_
        intro i33 ai33 bi33 ihi33  u34 hu34 fu34
        refine g_iload dX2_tryReaching_39 rfl ?_
        refine g_bipush (v := 10) dX2_tryReaching_41 (by decide) ?_
        refine g_aload_n dX2_tryReaching_43 rfl ?_
        refine f_X2_44 rfl rfl dX2_tryReaching_44 ?_
        refine g_topi (fun x35 ex35 => ?_)
        have rx35 : 0 ≤ x35 ∧ x35 ≤ 8 := by rw [ex35]; exact iv_at hu34 _ _ rfl
        have s36 : u34.1 13 0 = x35 := ex35.symm
        refine g_iadd dX2_tryReaching_47 ?_
        refine g_topi (fun x37 ex37 => ?_)
        refine g_icmp_ge (tgt := 125) dX2_tryReaching_48 (by decide) (fun c38 => ?_) (fun c38 => ?_)
        · refine g_iconst (v := 0) dX2_tryReaching_125 (by decide) ?_
          exact g_iret (ty := .boolean) dX2_tryReaching_126 rfl rfl ⟨⟨0, rfl, Or.inl rfl, fun q => absurd rfl q, fun _ => by first | trivial | lia | grind⟩, hu34, fu34⟩
        · refine g_aload_n dX2_tryReaching_51 rfl ?_
          refine g_iload dX2_tryReaching_52 rfl ?_
          refine cl_X2_45 (c := 13) (As := [.int i33]) rfl (c_X0_isAble hs hu34 uk_isK13 i33  (d + 3)) rfl (by omega) rfl rfl (Nat.le_of_ble_eq_true rfl) dX2_tryReaching_54 (fun r39 u40 q41 => ?_)
          obtain ⟨⟨x42, rfl, tx42, nx42, zx42⟩, mq41⟩ := q41
          rw [mq41]
          refine g_if_eq (tgt := 119) dX2_tryReaching_57 (by decide) (fun c43 => ?_) (fun c43 => ?_)
          · have zc43 := zx42 c43
            refine g_iinc (v := i33 + 1) dX2_tryReaching_119 rfl rfl (by decide) ?_
            refine g_goto (tgt := 39) dX2_tryReaching_122 (by decide) ?_
            refine g_pick (lv' := [(0, .ref (uk_ad G 46)), (1, .ref (uk_ad G 13)), (2, .int m), (3, .int n), (4, .int g), (5, .int 1), (6, .int (i33 + 1))]) [0, 1, 2, 3, 4, 5, 6] rfl ?_
            exact ihi33 (by first | lia | grind)  u34 hu34 fu34 
          · have zc43 := nx42 c43
            refine g_iload dX2_tryReaching_60 rfl ?_
            refine g_if_eq (tgt := 78) dX2_tryReaching_62 (by decide) (fun c44 => ?_) (fun c44 => ?_)
            · exact absurd c44 (by decide)
            · refine g_aload_n dX2_tryReaching_65 rfl ?_
              refine g_iload dX2_tryReaching_66 rfl ?_
              refine g_iload_n dX2_tryReaching_68 rfl ?_
              refine cl_X2_67 (c := 13) (As := [.int i33, .int m]) rfl (c_X0_brings hs hu34 uk_isK13 i33 m (by first | trivial | decide | lia | grind) (d + 4)) rfl (by omega) rfl rfl (Nat.le_of_ble_eq_true rfl) dX2_tryReaching_69 (fun r45 u46 q47 => ?_)
              obtain ⟨⟨x48, rfl, tx48, nx48, zx48⟩, mq47⟩ := q47
              rw [mq47]
              refine g_if_ne (tgt := 78) dX2_tryReaching_72 (by decide) (fun c49 => ?_) (fun c49 => ?_)
              · have zc49 := nx48 c49
                refine g_aload_n dX2_tryReaching_78 rfl ?_
                refine f_X2_9 rfl rfl dX2_tryReaching_79 ?_
                refine g_iload dX2_tryReaching_82 rfl ?_
                refine g_iload dX2_tryReaching_84 rfl ?_
                have v50 : vp_in g 4 := uk_vin 4 rfl (by first | decide | lia | grind) (by first | decide | lia | grind)
                have b51 := uk_cl v50
                refine g_iast rfl rfl v50 dX2_tryReaching_86 ?_
                refine g_mem (fun u52 eu52 => ?_)
                have hu52 : iv u52 := by rw [eu52]; exact iv_upF hu34 (uk_pick1 _ (by omega))
                have fu52 : fr 13 49 u u52 := by rw [eu52]; exact fr_up fu34 (by omega) (by omega)
                refine g_aload_n dX2_tryReaching_87 rfl ?_
                refine g_iload dX2_tryReaching_88 rfl ?_
                refine cl_X2_53 (c := 13) (As := [.int i33]) rfl (c_X0_perform hs hu52 uk_isK13 i33 (by first | trivial | decide | lia | grind) (d + 3)) rfl (by omega) rfl rfl (Nat.le_of_ble_eq_true rfl) dX2_tryReaching_90 (fun r53 u54 q55 => ?_)
                obtain ⟨rfl, mq55⟩ := q55
                obtain ⟨hu54, gu54⟩ := mq55
                have fu54 : fr 13 49 u u54 := fr_tr fu52 gu54 (by omega) (by omega)
                refine g_aload_n dX2_tryReaching_93 rfl ?_
                refine g_aload_n dX2_tryReaching_94 rfl ?_
                refine g_iload_n dX2_tryReaching_95 rfl ?_
                refine g_iload_n dX2_tryReaching_96 rfl ?_
                refine g_iload dX2_tryReaching_97 rfl ?_
                refine g_iconst (v := 1) dX2_tryReaching_99 (by decide) ?_
                refine g_iadd dX2_tryReaching_100 ?_
                refine g_topi (fun x56 ex56 => ?_)
                refine cl_X2_60 (c := 46) (As := [.ref (uk_ad G 13), .int m, .int n, .int x56]) rfl (c_X2_tryReaching_2 hs hu54  m n x56 (by first | trivial | decide | lia | grind) (by first | trivial | decide | lia | grind) (by first | trivial | decide | lia | grind) (by first | trivial | decide | lia | grind) (by first | trivial | decide | lia | grind) (by first | trivial | decide | lia | grind) (d)) rfl (by omega) rfl rfl (Nat.le_of_ble_eq_true rfl) dX2_tryReaching_101 (fun r57 u58 q59 => ?_)
                obtain ⟨⟨x60, rfl, tx60, nx60, zx60⟩, mq59⟩ := q59
                obtain ⟨hu58, gu58⟩ := mq59
                have fu58 : fr 13 49 u u58 := fr_tr fu54 gu58 (by omega) (by omega)
                refine g_istore dX2_tryReaching_104 (by decide) ?_
                refine g_aload_n dX2_tryReaching_106 rfl ?_
                refine g_iload dX2_tryReaching_107 rfl ?_
                refine cl_X2_57 (c := 13) (As := [.int i33]) rfl (c_X0_undo hs hu58 uk_isK13 i33 (by first | trivial | decide | lia | grind) (d + 3)) rfl (by omega) rfl rfl (Nat.le_of_ble_eq_true rfl) dX2_tryReaching_109 (fun r61 u62 q63 => ?_)
                obtain ⟨rfl, mq63⟩ := q63
                obtain ⟨hu62, gu62⟩ := mq63
                have fu62 : fr 13 49 u u62 := fr_tr fu58 gu62 (by omega) (by omega)
                refine g_iload dX2_tryReaching_112 rfl ?_
                refine g_if_eq (tgt := 119) dX2_tryReaching_114 (by decide) (fun c64 => ?_) (fun c64 => ?_)
                · have zc64 := zx60 c64
                  refine g_iinc (v := i33 + 1) dX2_tryReaching_119 rfl rfl (by decide) ?_
                  refine g_goto (tgt := 39) dX2_tryReaching_122 (by decide) ?_
                  refine g_pick (lv' := [(0, .ref (uk_ad G 46)), (1, .ref (uk_ad G 13)), (2, .int m), (3, .int n), (4, .int g), (5, .int 1), (6, .int (i33 + 1))]) [0, 1, 2, 3, 4, 5, 6] rfl ?_
                  exact ihi33 (by first | lia | grind)  u62 hu62 fu62 
                · have zc64 := nx60 c64
                  refine g_iconst (v := 1) dX2_tryReaching_117 (by decide) ?_
                  exact g_iret (ty := .boolean) dX2_tryReaching_118 rfl rfl ⟨⟨1, rfl, Or.inr rfl, fun _ => by first | trivial | lia | grind, fun q => absurd q (by decide)⟩, hu62, fu62⟩
              · have zc49 := zx48 c49
                refine g_goto (tgt := 119) dX2_tryReaching_75 (by decide) ?_
                refine g_iinc (v := i33 + 1) dX2_tryReaching_119 rfl rfl (by decide) ?_
                refine g_goto (tgt := 39) dX2_tryReaching_122 (by decide) ?_
                refine g_pick (lv' := [(0, .ref (uk_ad G 46)), (1, .ref (uk_ad G 13)), (2, .int m), (3, .int n), (4, .int g), (5, .int 1), (6, .int (i33 + 1))]) [0, 1, 2, 3, 4, 5, 6] rfl ?_
                exact ihi33 (by first | lia | grind)  u34 hu34 fu34 
      refine g_pick (lv' := [(0, .ref (uk_ad G 46)), (1, .ref (uk_ad G 13)), (2, .int m), (3, .int n), (4, .int g), (5, .int 1), (6, .int 0)]) [0, 1, 2, 3, 4, 5, 6] rfl ?_
      exact L39_31 0 (by first | decide | lia | grind) (by first | decide | lia | grind)  u hu f0 
  · refine g_aload_n dX2_tryReaching_6 rfl ?_
    refine f_X2_64 rfl rfl dX2_tryReaching_7 ?_
    refine g_iload_n dX2_tryReaching_10 rfl ?_
    have v65 : vp_in m 8 := uk_vin 8 rfl (by first | decide | lia | grind) (by first | decide | lia | grind)
    refine g_iald rfl rfl v65 dX2_tryReaching_11 ?_
    refine g_topi (fun x66 ex66 => ?_)
    refine g_if_le (tgt := 19) dX2_tryReaching_12 (by decide) (fun c67 => ?_) (fun c67 => ?_)
    · refine g_iconst (v := 0) dX2_tryReaching_19 (by decide) ?_
      exact g_iret (ty := .boolean) dX2_tryReaching_20 rfl rfl ⟨⟨0, rfl, Or.inl rfl, fun q => absurd rfl q, fun _ => by first | trivial | lia | grind⟩, hu, f0⟩
    · refine g_iconst (v := 1) dX2_tryReaching_15 (by decide) ?_
      refine g_goto (tgt := 20) dX2_tryReaching_16 (by decide) ?_
      exact g_iret (ty := .boolean) dX2_tryReaching_20 rfl rfl ⟨⟨1, rfl, Or.inr rfl, fun _ => by first | trivial | lia | grind, fun q => absurd q (by decide)⟩, hu, f0⟩
abbrev q_X2_tryReaching_4 (u : uk_Mem) (m : Int32) (n : Int32) (g : Int32) (r : Option Value) (u' : uk_Mem) : Prop := (∃ x : Int32, r = some (.int x) ∧ (x = 0 ∨ x = 1) ∧ (¬ x = 0 → True) ∧ (x = 0 → True)) ∧ (iv u' ∧ fr 13 49 u u')
set_option maxHeartbeats 4000000 in
set_option maxRecDepth 20000 in
theorem c_X2_tryReaching_4 {G : uk_D} (hs : uk_Sep G) {u : uk_Mem} (hu : iv u) (m : Int32) (n : Int32) (g : Int32) (p0 : 0 ≤ m) (p1 : m ≤ 7) (p2 : 0 ≤ g) (p3 : g ≤ 4) (p4 : n ≤ 4) (p5 : g + 4 = n) (d : Nat) : uk_Meth G (d + 7) mX2_tryReaching [.ref (uk_ad G 46), .ref (uk_ad G 13), .int m, .int n, .int g] u (q_X2_tryReaching_4 u m n g) := by
  refine uk_Meth.of hs (by decide) (Nat.le_of_ble_eq_true rfl) (fun X => ?_)
  have f0 : fr 13 49 u u := fr_rf
  refine g_iload dX2_tryReaching_0 rfl ?_
  refine g_iload_n dX2_tryReaching_2 rfl ?_
  refine g_icmp_lt (tgt := 21) dX2_tryReaching_3 (by decide) (fun c1 => ?_) (fun c1 => ?_)
  · refine g_iload dX2_tryReaching_21 rfl ?_
    refine g_iconst (v := 1) dX2_tryReaching_23 (by decide) ?_
    refine g_iadd dX2_tryReaching_24 ?_
    refine g_topi (fun x2 ex2 => ?_)
    refine g_iload_n dX2_tryReaching_25 rfl ?_
    refine g_icmp_ne (tgt := 33) dX2_tryReaching_26 (by decide) (fun c3 => ?_) (fun c3 => ?_)
    · refine g_iconst (v := 0) dX2_tryReaching_33 (by decide) ?_
      refine g_istore dX2_tryReaching_34 (by decide) ?_
      refine g_iconst (v := 0) dX2_tryReaching_36 (by decide) ?_
      refine g_istore dX2_tryReaching_37 (by decide) ?_
      have L39_3 : ∀ i5 : Int32, 0 ≤ i5 → i5 ≤ 18 → ∀ (u6 : uk_Mem), iv u6 → fr 13 49 u u6 → uk_G G X mX2_tryReaching (d + 7) (q_X2_tryReaching_4 u m n g) 39 [(0, .ref (uk_ad G 46)), (1, .ref (uk_ad G 13)), (2, .int m), (3, .int n), (4, .int g), (5, .int 0), (6, .int i5)] [] u6 := by
        refine uk_upl 18 ?_
        intro i5 ai5 bi5 ihi5  u6 hu6 fu6
        refine g_iload dX2_tryReaching_39 rfl ?_
        refine g_bipush (v := 10) dX2_tryReaching_41 (by decide) ?_
        refine g_aload_n dX2_tryReaching_43 rfl ?_
        refine f_X2_44 rfl rfl dX2_tryReaching_44 ?_
        refine g_topi (fun x7 ex7 => ?_)
        have rx7 : 0 ≤ x7 ∧ x7 ≤ 8 := by rw [ex7]; exact iv_at hu6 _ _ rfl
        have s8 : u6.1 13 0 = x7 := ex7.symm
        refine g_iadd dX2_tryReaching_47 ?_
        refine g_topi (fun x9 ex9 => ?_)
        refine g_icmp_ge (tgt := 125) dX2_tryReaching_48 (by decide) (fun c10 => ?_) (fun c10 => ?_)
        · refine g_iconst (v := 0) dX2_tryReaching_125 (by decide) ?_
          exact g_iret (ty := .boolean) dX2_tryReaching_126 rfl rfl ⟨⟨0, rfl, Or.inl rfl, fun q => absurd rfl q, fun _ => by first | trivial | lia | grind⟩, hu6, fu6⟩
        · refine g_aload_n dX2_tryReaching_51 rfl ?_
          refine g_iload dX2_tryReaching_52 rfl ?_
          refine cl_X2_45 (c := 13) (As := [.int i5]) rfl (c_X0_isAble hs hu6 uk_isK13 i5  (d + 4)) rfl (by omega) rfl rfl (Nat.le_of_ble_eq_true rfl) dX2_tryReaching_54 (fun r11 u12 q13 => ?_)
          obtain ⟨⟨x14, rfl, tx14, nx14, zx14⟩, mq13⟩ := q13
          rw [mq13]
          refine g_if_eq (tgt := 119) dX2_tryReaching_57 (by decide) (fun c15 => ?_) (fun c15 => ?_)
          · have zc15 := zx14 c15
            refine g_iinc (v := i5 + 1) dX2_tryReaching_119 rfl rfl (by decide) ?_
            refine g_goto (tgt := 39) dX2_tryReaching_122 (by decide) ?_
            refine g_pick (lv' := [(0, .ref (uk_ad G 46)), (1, .ref (uk_ad G 13)), (2, .int m), (3, .int n), (4, .int g), (5, .int 0), (6, .int (i5 + 1))]) [0, 1, 2, 3, 4, 5, 6] rfl ?_
            exact ihi5 (by first | lia | grind)  u6 hu6 fu6 
          · have zc15 := nx14 c15
            refine g_iload dX2_tryReaching_60 rfl ?_
            refine g_if_eq (tgt := 78) dX2_tryReaching_62 (by decide) (fun c16 => ?_) (fun c16 => ?_)
            · refine g_aload_n dX2_tryReaching_78 rfl ?_
              refine f_X2_9 rfl rfl dX2_tryReaching_79 ?_
              refine g_iload dX2_tryReaching_82 rfl ?_
              refine g_iload dX2_tryReaching_84 rfl ?_
              have v17 : vp_in g 4 := uk_vin 4 rfl (by first | decide | lia | grind) (by first | decide | lia | grind)
              have b18 := uk_cl v17
              refine g_iast rfl rfl v17 dX2_tryReaching_86 ?_
              refine g_mem (fun u19 eu19 => ?_)
              have hu19 : iv u19 := by rw [eu19]; exact iv_upF hu6 (uk_pick1 _ (by omega))
              have fu19 : fr 13 49 u u19 := by rw [eu19]; exact fr_up fu6 (by omega) (by omega)
              refine g_aload_n dX2_tryReaching_87 rfl ?_
              refine g_iload dX2_tryReaching_88 rfl ?_
              refine cl_X2_53 (c := 13) (As := [.int i5]) rfl (c_X0_perform hs hu19 uk_isK13 i5 (by first | trivial | decide | lia | grind) (d + 4)) rfl (by omega) rfl rfl (Nat.le_of_ble_eq_true rfl) dX2_tryReaching_90 (fun r20 u21 q22 => ?_)
              obtain ⟨rfl, mq22⟩ := q22
              obtain ⟨hu21, gu21⟩ := mq22
              have fu21 : fr 13 49 u u21 := fr_tr fu19 gu21 (by omega) (by omega)
              refine g_aload_n dX2_tryReaching_93 rfl ?_
              refine g_aload_n dX2_tryReaching_94 rfl ?_
              refine g_iload_n dX2_tryReaching_95 rfl ?_
              refine g_iload_n dX2_tryReaching_96 rfl ?_
              refine g_iload dX2_tryReaching_97 rfl ?_
              refine g_iconst (v := 1) dX2_tryReaching_99 (by decide) ?_
              refine g_iadd dX2_tryReaching_100 ?_
              refine g_topi (fun x23 ex23 => ?_)
              refine cl_X2_60 (c := 46) (As := [.ref (uk_ad G 13), .int m, .int n, .int x23]) rfl (c_X2_tryReaching_3 hs hu21  m n x23 (by first | trivial | decide | lia | grind) (by first | trivial | decide | lia | grind) (by first | trivial | decide | lia | grind) (by first | trivial | decide | lia | grind) (by first | trivial | decide | lia | grind) (by first | trivial | decide | lia | grind) (d)) rfl (by omega) rfl rfl (Nat.le_of_ble_eq_true rfl) dX2_tryReaching_101 (fun r24 u25 q26 => ?_)
              obtain ⟨⟨x27, rfl, tx27, nx27, zx27⟩, mq26⟩ := q26
              obtain ⟨hu25, gu25⟩ := mq26
              have fu25 : fr 13 49 u u25 := fr_tr fu21 gu25 (by omega) (by omega)
              refine g_istore dX2_tryReaching_104 (by decide) ?_
              refine g_aload_n dX2_tryReaching_106 rfl ?_
              refine g_iload dX2_tryReaching_107 rfl ?_
              refine cl_X2_57 (c := 13) (As := [.int i5]) rfl (c_X0_undo hs hu25 uk_isK13 i5 (by first | trivial | decide | lia | grind) (d + 4)) rfl (by omega) rfl rfl (Nat.le_of_ble_eq_true rfl) dX2_tryReaching_109 (fun r28 u29 q30 => ?_)
              obtain ⟨rfl, mq30⟩ := q30
              obtain ⟨hu29, gu29⟩ := mq30
              have fu29 : fr 13 49 u u29 := fr_tr fu25 gu29 (by omega) (by omega)
              refine g_iload dX2_tryReaching_112 rfl ?_
              refine g_if_eq (tgt := 119) dX2_tryReaching_114 (by decide) (fun c31 => ?_) (fun c31 => ?_)
              · have zc31 := zx27 c31
                refine g_iinc (v := i5 + 1) dX2_tryReaching_119 rfl rfl (by decide) ?_
                refine g_goto (tgt := 39) dX2_tryReaching_122 (by decide) ?_
                refine g_pick (lv' := [(0, .ref (uk_ad G 46)), (1, .ref (uk_ad G 13)), (2, .int m), (3, .int n), (4, .int g), (5, .int 0), (6, .int (i5 + 1))]) [0, 1, 2, 3, 4, 5, 6] rfl ?_
                exact ihi5 (by first | lia | grind)  u29 hu29 fu29 
              · have zc31 := nx27 c31
                refine g_iconst (v := 1) dX2_tryReaching_117 (by decide) ?_
                exact g_iret (ty := .boolean) dX2_tryReaching_118 rfl rfl ⟨⟨1, rfl, Or.inr rfl, fun _ => by first | trivial | lia | grind, fun q => absurd q (by decide)⟩, hu29, fu29⟩
            · exact absurd c16 (by decide)
      refine g_pick (lv' := [(0, .ref (uk_ad G 46)), (1, .ref (uk_ad G 13)), (2, .int m), (3, .int n), (4, .int g), (5, .int 0), (6, .int 0)]) [0, 1, 2, 3, 4, 5, 6] rfl ?_
      exact L39_3 0 (by first | decide | lia | grind) (by first | decide | lia | grind)  u hu f0 
    · refine g_iconst (v := 1) dX2_tryReaching_29 (by decide) ?_
      refine g_goto (tgt := 34) dX2_tryReaching_30 (by decide) ?_
      refine g_istore dX2_tryReaching_34 (by decide) ?_
      refine g_iconst (v := 0) dX2_tryReaching_36 (by decide) ?_
      refine g_istore dX2_tryReaching_37 (by decide) ?_
      have L39_31 : ∀ i33 : Int32, 0 ≤ i33 → i33 ≤ 18 → ∀ (u34 : uk_Mem), iv u34 → fr 13 49 u u34 → uk_G G X mX2_tryReaching (d + 7) (q_X2_tryReaching_4 u m n g) 39 [(0, .ref (uk_ad G 46)), (1, .ref (uk_ad G 13)), (2, .int m), (3, .int n), (4, .int g), (5, .int 1), (6, .int i33)] [] u34 := by
        refine uk_upl 18 ?_
        intro i33 ai33 bi33 ihi33  u34 hu34 fu34
        refine g_iload dX2_tryReaching_39 rfl ?_
        refine g_bipush (v := 10) dX2_tryReaching_41 (by decide) ?_
        refine g_aload_n dX2_tryReaching_43 rfl ?_
        refine f_X2_44 rfl rfl dX2_tryReaching_44 ?_
        refine g_topi (fun x35 ex35 => ?_)
        have rx35 : 0 ≤ x35 ∧ x35 ≤ 8 := by rw [ex35]; exact iv_at hu34 _ _ rfl
        have s36 : u34.1 13 0 = x35 := ex35.symm
        refine g_iadd dX2_tryReaching_47 ?_
        refine g_topi (fun x37 ex37 => ?_)
        refine g_icmp_ge (tgt := 125) dX2_tryReaching_48 (by decide) (fun c38 => ?_) (fun c38 => ?_)
        · refine g_iconst (v := 0) dX2_tryReaching_125 (by decide) ?_
          exact g_iret (ty := .boolean) dX2_tryReaching_126 rfl rfl ⟨⟨0, rfl, Or.inl rfl, fun q => absurd rfl q, fun _ => by first | trivial | lia | grind⟩, hu34, fu34⟩
        · refine g_aload_n dX2_tryReaching_51 rfl ?_
          refine g_iload dX2_tryReaching_52 rfl ?_
          refine cl_X2_45 (c := 13) (As := [.int i33]) rfl (c_X0_isAble hs hu34 uk_isK13 i33  (d + 4)) rfl (by omega) rfl rfl (Nat.le_of_ble_eq_true rfl) dX2_tryReaching_54 (fun r39 u40 q41 => ?_)
          obtain ⟨⟨x42, rfl, tx42, nx42, zx42⟩, mq41⟩ := q41
          rw [mq41]
          refine g_if_eq (tgt := 119) dX2_tryReaching_57 (by decide) (fun c43 => ?_) (fun c43 => ?_)
          · have zc43 := zx42 c43
            refine g_iinc (v := i33 + 1) dX2_tryReaching_119 rfl rfl (by decide) ?_
            refine g_goto (tgt := 39) dX2_tryReaching_122 (by decide) ?_
            refine g_pick (lv' := [(0, .ref (uk_ad G 46)), (1, .ref (uk_ad G 13)), (2, .int m), (3, .int n), (4, .int g), (5, .int 1), (6, .int (i33 + 1))]) [0, 1, 2, 3, 4, 5, 6] rfl ?_
            exact ihi33 (by first | lia | grind)  u34 hu34 fu34 
          · have zc43 := nx42 c43
            refine g_iload dX2_tryReaching_60 rfl ?_
            refine g_if_eq (tgt := 78) dX2_tryReaching_62 (by decide) (fun c44 => ?_) (fun c44 => ?_)
            · exact absurd c44 (by decide)
            · refine g_aload_n dX2_tryReaching_65 rfl ?_
              refine g_iload dX2_tryReaching_66 rfl ?_
              refine g_iload_n dX2_tryReaching_68 rfl ?_
              refine cl_X2_67 (c := 13) (As := [.int i33, .int m]) rfl (c_X0_brings hs hu34 uk_isK13 i33 m (by first | trivial | decide | lia | grind) (d + 5)) rfl (by omega) rfl rfl (Nat.le_of_ble_eq_true rfl) dX2_tryReaching_69 (fun r45 u46 q47 => ?_)
              obtain ⟨⟨x48, rfl, tx48, nx48, zx48⟩, mq47⟩ := q47
              rw [mq47]
              refine g_if_ne (tgt := 78) dX2_tryReaching_72 (by decide) (fun c49 => ?_) (fun c49 => ?_)
              · have zc49 := nx48 c49
                refine g_aload_n dX2_tryReaching_78 rfl ?_
                refine f_X2_9 rfl rfl dX2_tryReaching_79 ?_
                refine g_iload dX2_tryReaching_82 rfl ?_
                refine g_iload dX2_tryReaching_84 rfl ?_
                have v50 : vp_in g 4 := uk_vin 4 rfl (by first | decide | lia | grind) (by first | decide | lia | grind)
                have b51 := uk_cl v50
                refine g_iast rfl rfl v50 dX2_tryReaching_86 ?_
                refine g_mem (fun u52 eu52 => ?_)
                have hu52 : iv u52 := by rw [eu52]; exact iv_upF hu34 (uk_pick1 _ (by omega))
                have fu52 : fr 13 49 u u52 := by rw [eu52]; exact fr_up fu34 (by omega) (by omega)
                refine g_aload_n dX2_tryReaching_87 rfl ?_
                refine g_iload dX2_tryReaching_88 rfl ?_
                refine cl_X2_53 (c := 13) (As := [.int i33]) rfl (c_X0_perform hs hu52 uk_isK13 i33 (by first | trivial | decide | lia | grind) (d + 4)) rfl (by omega) rfl rfl (Nat.le_of_ble_eq_true rfl) dX2_tryReaching_90 (fun r53 u54 q55 => ?_)
                obtain ⟨rfl, mq55⟩ := q55
                obtain ⟨hu54, gu54⟩ := mq55
                have fu54 : fr 13 49 u u54 := fr_tr fu52 gu54 (by omega) (by omega)
                refine g_aload_n dX2_tryReaching_93 rfl ?_
                refine g_aload_n dX2_tryReaching_94 rfl ?_
                refine g_iload_n dX2_tryReaching_95 rfl ?_
                refine g_iload_n dX2_tryReaching_96 rfl ?_
                refine g_iload dX2_tryReaching_97 rfl ?_
                refine g_iconst (v := 1) dX2_tryReaching_99 (by decide) ?_
                refine g_iadd dX2_tryReaching_100 ?_
                refine g_topi (fun x56 ex56 => ?_)
                refine cl_X2_60 (c := 46) (As := [.ref (uk_ad G 13), .int m, .int n, .int x56]) rfl (c_X2_tryReaching_3 hs hu54  m n x56 (by first | trivial | decide | lia | grind) (by first | trivial | decide | lia | grind) (by first | trivial | decide | lia | grind) (by first | trivial | decide | lia | grind) (by first | trivial | decide | lia | grind) (by first | trivial | decide | lia | grind) (d)) rfl (by omega) rfl rfl (Nat.le_of_ble_eq_true rfl) dX2_tryReaching_101 (fun r57 u58 q59 => ?_)
                obtain ⟨⟨x60, rfl, tx60, nx60, zx60⟩, mq59⟩ := q59
                obtain ⟨hu58, gu58⟩ := mq59
                have fu58 : fr 13 49 u u58 := fr_tr fu54 gu58 (by omega) (by omega)
                refine g_istore dX2_tryReaching_104 (by decide) ?_
                refine g_aload_n dX2_tryReaching_106 rfl ?_
                refine g_iload dX2_tryReaching_107 rfl ?_
                refine cl_X2_57 (c := 13) (As := [.int i33]) rfl (c_X0_undo hs hu58 uk_isK13 i33 (by first | trivial | decide | lia | grind) (d + 4)) rfl (by omega) rfl rfl (Nat.le_of_ble_eq_true rfl) dX2_tryReaching_109 (fun r61 u62 q63 => ?_)
                obtain ⟨rfl, mq63⟩ := q63
                obtain ⟨hu62, gu62⟩ := mq63
                have fu62 : fr 13 49 u u62 := fr_tr fu58 gu62 (by omega) (by omega)
                refine g_iload dX2_tryReaching_112 rfl ?_
                refine g_if_eq (tgt := 119) dX2_tryReaching_114 (by decide) (fun c64 => ?_) (fun c64 => ?_)
                · have zc64 := zx60 c64
                  refine g_iinc (v := i33 + 1) dX2_tryReaching_119 rfl rfl (by decide) ?_
                  refine g_goto (tgt := 39) dX2_tryReaching_122 (by decide) ?_
                  refine g_pick (lv' := [(0, .ref (uk_ad G 46)), (1, .ref (uk_ad G 13)), (2, .int m), (3, .int n), (4, .int g), (5, .int 1), (6, .int (i33 + 1))]) [0, 1, 2, 3, 4, 5, 6] rfl ?_
                  exact ihi33 (by first | lia | grind)  u62 hu62 fu62 
                · have zc64 := nx60 c64
                  refine g_iconst (v := 1) dX2_tryReaching_117 (by decide) ?_
                  exact g_iret (ty := .boolean) dX2_tryReaching_118 rfl rfl ⟨⟨1, rfl, Or.inr rfl, fun _ => by first | trivial | lia | grind, fun q => absurd q (by decide)⟩, hu62, fu62⟩
              · have zc49 := zx48 c49
                refine g_goto (tgt := 119) dX2_tryReaching_75 (by decide) ?_
                refine g_iinc (v := i33 + 1) dX2_tryReaching_119 rfl rfl (by decide) ?_
                refine g_goto (tgt := 39) dX2_tryReaching_122 (by decide) ?_
                refine g_pick (lv' := [(0, .ref (uk_ad G 46)), (1, .ref (uk_ad G 13)), (2, .int m), (3, .int n), (4, .int g), (5, .int 1), (6, .int (i33 + 1))]) [0, 1, 2, 3, 4, 5, 6] rfl ?_
                exact ihi33 (by first | lia | grind)  u34 hu34 fu34 
      refine g_pick (lv' := [(0, .ref (uk_ad G 46)), (1, .ref (uk_ad G 13)), (2, .int m), (3, .int n), (4, .int g), (5, .int 1), (6, .int 0)]) [0, 1, 2, 3, 4, 5, 6] rfl ?_
      exact L39_31 0 (by first | decide | lia | grind) (by first | decide | lia | grind)  u hu f0 
  · refine g_aload_n dX2_tryReaching_6 rfl ?_
    refine f_X2_64 rfl rfl dX2_tryReaching_7 ?_
    refine g_iload_n dX2_tryReaching_10 rfl ?_
    have v65 : vp_in m 8 := uk_vin 8 rfl (by first | decide | lia | grind) (by first | decide | lia | grind)
    refine g_iald rfl rfl v65 dX2_tryReaching_11 ?_
    refine g_topi (fun x66 ex66 => ?_)
    refine g_if_le (tgt := 19) dX2_tryReaching_12 (by decide) (fun c67 => ?_) (fun c67 => ?_)
    · refine g_iconst (v := 0) dX2_tryReaching_19 (by decide) ?_
      exact g_iret (ty := .boolean) dX2_tryReaching_20 rfl rfl ⟨⟨0, rfl, Or.inl rfl, fun q => absurd rfl q, fun _ => by first | trivial | lia | grind⟩, hu, f0⟩
    · refine g_iconst (v := 1) dX2_tryReaching_15 (by decide) ?_
      refine g_goto (tgt := 20) dX2_tryReaching_16 (by decide) ?_
      exact g_iret (ty := .boolean) dX2_tryReaching_20 rfl rfl ⟨⟨1, rfl, Or.inr rfl, fun _ => by first | trivial | lia | grind, fun q => absurd q (by decide)⟩, hu, f0⟩
abbrev q_X2_tryReaching (u : uk_Mem) (m : Int32) (n : Int32) (g : Int32) (r : Option Value) (u' : uk_Mem) : Prop := (∃ x : Int32, r = some (.int x) ∧ (x = 0 ∨ x = 1) ∧ (¬ x = 0 → True) ∧ (x = 0 → True)) ∧ (iv u' ∧ fr 13 49 u u')
theorem c_X2_tryReaching {G : uk_D} (hs : uk_Sep G) {u : uk_Mem} (hu : iv u) (m : Int32) (n : Int32) (g : Int32) (p0 : 0 ≤ m) (p1 : m ≤ 7) (p2 : 0 ≤ g) (p3 : g ≤ n) (p4 : n ≤ 4) (d : Nat) : uk_Meth G (d + 7) mX2_tryReaching [.ref (uk_ad G 46), .ref (uk_ad G 13), .int m, .int n, .int g] u (q_X2_tryReaching u m n g) := by
  have hc : g = n ∨ g + 1 = n ∨ g + 2 = n ∨ g + 3 = n ∨ g + 4 = n := by grind
  rcases hc with q | q | q | q | q
  · exact c_X2_tryReaching_0 hs hu m n g p0 p1 p2 (by grind) p4 q (d + 4)
  · exact c_X2_tryReaching_1 hs hu m n g p0 p1 p2 (by grind) p4 q (d + 3)
  · exact c_X2_tryReaching_2 hs hu m n g p0 p1 p2 (by grind) p4 q (d + 2)
  · exact c_X2_tryReaching_3 hs hu m n g p0 p1 p2 (by grind) p4 q (d + 1)
  · exact c_X2_tryReaching_4 hs hu m n g p0 p1 p2 (by grind) p4 q (d + 0)
abbrev q_X2_findRichest (u : uk_Mem) (n : Int32) (r : Option Value) (u' : uk_Mem) : Prop := (r = none) ∧ (iv u' ∧ fr 13 49 u u')
set_option maxHeartbeats 4000000 in
set_option maxRecDepth 20000 in
theorem c_X2_findRichest {G : uk_D} (hs : uk_Sep G) {u : uk_Mem} (hu : iv u) (n : Int32) (p0 : 0 ≤ n) (p1 : n ≤ 4) (d : Nat) : uk_Meth G (d + 8) mX2_findRichest [.ref (uk_ad G 46), .ref (uk_ad G 13), .int n] u (q_X2_findRichest u n) := by
  refine uk_Meth.of hs (by decide) (Nat.le_of_ble_eq_true rfl) (fun X => ?_)
  have f0 : fr 13 49 u u := fr_rf
  refine g_aload_n dX2_findRichest_0 rfl ?_
  refine g_iconst (v := 0) dX2_findRichest_1 (by decide) ?_
  refine p_X2_18 rfl rfl dX2_findRichest_2 ?_
  refine g_mem (fun u1 eu1 => ?_)
  have hu1 : iv u1 := by rw [eu1]; exact iv_up hu rfl (by first | lia | grind) (by first | lia | grind)
  have fu1 : fr 13 49 u u1 := by rw [eu1]; exact fr_up f0 (by omega) (by omega)
  have s2 : u1.1 46 2 = 0 := by rw [eu1, uk_up_at]; exact if_pos ⟨rfl, rfl⟩
  refine g_aload_n dX2_findRichest_5 rfl ?_
  refine g_aload_n dX2_findRichest_6 rfl ?_
  refine cl_X2_28 (c := 13) (As := []) rfl (c_X0_allFeeds hs hu1 uk_isK13   (d + 7)) rfl (by omega) rfl rfl (Nat.le_of_ble_eq_true rfl) dX2_findRichest_7 (fun r3 u4 q5 => ?_)
  obtain ⟨⟨x6, rfl, tx6⟩, mq5⟩ := q5
  rw [mq5]
  refine p_X2_22 rfl rfl dX2_findRichest_10 ?_
  refine g_mem (fun u7 eu7 => ?_)
  have hu7 : iv u7 := by rw [eu7]; exact iv_upF hu1 rfl
  have fu7 : fr 13 49 u u7 := by rw [eu7]; exact fr_up fu1 (by omega) (by omega)
  have s8 : u7.1 46 3 = x6 := by rw [eu7, uk_up_at]; exact if_pos ⟨rfl, rfl⟩
  refine g_aload_n dX2_findRichest_13 rfl ?_
  refine g_aload_n dX2_findRichest_14 rfl ?_
  refine cl_X2_34 (c := 13) (As := []) rfl (c_X0_gainBound hs hu7 uk_isK13   (d + 5)) rfl (by omega) rfl rfl (Nat.le_of_ble_eq_true rfl) dX2_findRichest_15 (fun r9 u10 q11 => ?_)
  obtain ⟨⟨x12, rfl, tx12⟩, mq11⟩ := q11
  rw [mq11]
  refine p_X2_25 rfl rfl dX2_findRichest_18 ?_
  refine g_mem (fun u13 eu13 => ?_)
  have hu13 : iv u13 := by rw [eu13]; exact iv_upF hu7 rfl
  have fu13 : fr 13 49 u u13 := by rw [eu13]; exact fr_up fu7 (by omega) (by omega)
  have s14 : u13.1 46 4 = x12 := by rw [eu13, uk_up_at]; exact if_pos ⟨rfl, rfl⟩
  refine g_aload_n dX2_findRichest_21 rfl ?_
  refine f_X2_22 rfl rfl dX2_findRichest_22 ?_
  refine g_topi (fun x15 ex15 => ?_)
  have qx15 : x15 = x6 := by rw [ex15]; simp [eu13, uk_up_at, s8]
  refine g_istore_n dX2_findRichest_25 (by decide) ?_
  refine g_iconst (v := 1) dX2_findRichest_26 (by decide) ?_
  refine g_istore dX2_findRichest_27 (by decide) ?_
  have L29_15 : ∀ i17 : Int32, 0 ≤ i17 → i17 ≤ 5 → ∀ (u18 : uk_Mem), iv u18 → fr 13 49 u u18 → 1 ≤ i17 → uk_G G X mX2_findRichest (d + 8) (q_X2_findRichest u n) 29 [(0, .ref (uk_ad G 46)), (1, .ref (uk_ad G 13)), (2, .int n), (3, .int x15), (4, .int i17)] [] u18 := by
    refine uk_upl 5 ?_
    intro i17 ai17 bi17 ihi17  u18 hu18 fu18 ji170
    refine g_iload dX2_findRichest_29 rfl ?_
    refine g_iload_n dX2_findRichest_31 rfl ?_
    refine g_icmp_gt (tgt := 50) dX2_findRichest_32 (by decide) (fun c19 => ?_) (fun c19 => ?_)
    · exact g_vret dX2_findRichest_50 rfl ⟨rfl, hu18, fu18⟩
    · refine g_aload_n dX2_findRichest_35 rfl ?_
      refine g_aload_n dX2_findRichest_36 rfl ?_
      refine g_iload dX2_findRichest_37 rfl ?_
      refine g_iconst (v := 0) dX2_findRichest_39 (by decide) ?_
      refine g_iload_n dX2_findRichest_40 rfl ?_
      refine cl_X2_36 (c := 46) (As := [.ref (uk_ad G 13), .int i17, .int 0, .int x15]) rfl (c_X2_tryRicher hs hu18  i17 0 x15 (by first | trivial | decide | lia | grind) (by first | trivial | decide | lia | grind) (by first | trivial | decide | lia | grind) (d)) rfl (by omega) rfl rfl (Nat.le_of_ble_eq_true rfl) dX2_findRichest_41 (fun r20 u21 q22 => ?_)
      obtain ⟨rfl, mq22⟩ := q22
      obtain ⟨hu21, gu21⟩ := mq22
      have fu21 : fr 13 49 u u21 := fr_tr fu18 gu21 (by omega) (by omega)
      refine g_iinc (v := i17 + 1) dX2_findRichest_44 rfl rfl (by decide) ?_
      refine g_goto (tgt := 29) dX2_findRichest_47 (by decide) ?_
      refine g_pick (lv' := [(0, .ref (uk_ad G 46)), (1, .ref (uk_ad G 13)), (2, .int n), (3, .int x15), (4, .int (i17 + 1))]) [0, 1, 2, 3, 4] rfl ?_
      exact ihi17 (by first | lia | grind)  u21 hu21 fu21 (by first | trivial | lia | grind)
  refine g_pick (lv' := [(0, .ref (uk_ad G 46)), (1, .ref (uk_ad G 13)), (2, .int n), (3, .int x15), (4, .int 1)]) [0, 1, 2, 3, 4] rfl ?_
  exact L29_15 1 (by first | decide | lia | grind) (by first | decide | lia | grind)  u13 hu13 fu13 (by first | trivial | lia | grind)
abbrev q_X2_findFewest (u : uk_Mem) (m : Int32) (r : Option Value) (u' : uk_Mem) : Prop := (∃ x : Int32, r = some (.int x) ∧ (x = 0 ∨ x = 1) ∧ (¬ x = 0 → True) ∧ (x = 0 → True)) ∧ (iv u' ∧ fr 13 49 u u')
set_option maxHeartbeats 4000000 in
set_option maxRecDepth 20000 in
theorem c_X2_findFewest {G : uk_D} (hs : uk_Sep G) {u : uk_Mem} (hu : iv u) (m : Int32) (p0 : 0 ≤ m) (p1 : m ≤ 7) (d : Nat) : uk_Meth G (d + 8) mX2_findFewest [.ref (uk_ad G 46), .ref (uk_ad G 13), .int m] u (q_X2_findFewest u m) := by
  refine uk_Meth.of hs (by decide) (Nat.le_of_ble_eq_true rfl) (fun X => ?_)
  have f0 : fr 13 49 u u := fr_rf
  refine g_iconst (v := 0) dX2_findFewest_0 (by decide) ?_
  refine g_istore_n dX2_findFewest_1 (by decide) ?_
  have L2_0 : ∀ i2 : Int32, 0 ≤ i2 → i2 ≤ 5 → ∀ (u3 : uk_Mem), iv u3 → fr 13 49 u u3 → uk_G G X mX2_findFewest (d + 8) (q_X2_findFewest u m) 2 [(0, .ref (uk_ad G 46)), (1, .ref (uk_ad G 13)), (2, .int m), (3, .int i2)] [] u3 := by
    refine uk_upl 5 ?_
    intro i2 ai2 bi2 ihi2  u3 hu3 fu3
    refine g_iload_n dX2_findFewest_2 rfl ?_
    refine g_iconst (v := 4) dX2_findFewest_3 (by decide) ?_
    refine g_icmp_gt (tgt := 32) dX2_findFewest_4 (by decide) (fun c4 => ?_) (fun c4 => ?_)
    · refine g_iconst (v := 0) dX2_findFewest_32 (by decide) ?_
      exact g_iret (ty := .boolean) dX2_findFewest_33 rfl rfl ⟨⟨0, rfl, Or.inl rfl, fun q => absurd rfl q, fun _ => by first | trivial | lia | grind⟩, hu3, fu3⟩
    · refine g_aload_n dX2_findFewest_7 rfl ?_
      refine g_aload_n dX2_findFewest_8 rfl ?_
      refine g_iload_n dX2_findFewest_9 rfl ?_
      refine g_iload_n dX2_findFewest_10 rfl ?_
      refine g_iconst (v := 0) dX2_findFewest_11 (by decide) ?_
      refine cl_X2_60 (c := 46) (As := [.ref (uk_ad G 13), .int m, .int i2, .int 0]) rfl (c_X2_tryReaching hs hu3  m i2 0 (by first | trivial | decide | lia | grind) (by first | trivial | decide | lia | grind) (by first | trivial | decide | lia | grind) (by first | trivial | decide | lia | grind) (by first | trivial | decide | lia | grind) (d)) rfl (by omega) rfl rfl (Nat.le_of_ble_eq_true rfl) dX2_findFewest_12 (fun r5 u6 q7 => ?_)
      obtain ⟨⟨x8, rfl, tx8, nx8, zx8⟩, mq7⟩ := q7
      obtain ⟨hu6, gu6⟩ := mq7
      have fu6 : fr 13 49 u u6 := fr_tr fu3 gu6 (by omega) (by omega)
      refine g_if_eq (tgt := 26) dX2_findFewest_15 (by decide) (fun c9 => ?_) (fun c9 => ?_)
      · have zc9 := zx8 c9
        refine g_iinc (v := i2 + 1) dX2_findFewest_26 rfl rfl (by decide) ?_
        refine g_goto (tgt := 2) dX2_findFewest_29 (by decide) ?_
        refine g_pick (lv' := [(0, .ref (uk_ad G 46)), (1, .ref (uk_ad G 13)), (2, .int m), (3, .int (i2 + 1))]) [0, 1, 2, 3] rfl ?_
        exact ihi2 (by first | lia | grind)  u6 hu6 fu6 
      · have zc9 := nx8 c9
        refine g_aload_n dX2_findFewest_18 rfl ?_
        refine g_iload_n dX2_findFewest_19 rfl ?_
        refine g_iconst (v := 0) dX2_findFewest_20 (by decide) ?_
        refine cl_X2_40 (c := 46) (As := [.int i2, .int 0]) rfl (c_X2_keepPath hs hu6  i2 0 (by first | trivial | decide | lia | grind) (by first | trivial | decide | lia | grind) (d + 7)) rfl (by omega) rfl rfl (Nat.le_of_ble_eq_true rfl) dX2_findFewest_21 (fun r10 u11 q12 => ?_)
        obtain ⟨rfl, mq12⟩ := q12
        obtain ⟨hu11, gu11⟩ := mq12
        have fu11 : fr 13 49 u u11 := fr_tr fu6 gu11 (by omega) (by omega)
        refine g_iconst (v := 1) dX2_findFewest_24 (by decide) ?_
        exact g_iret (ty := .boolean) dX2_findFewest_25 rfl rfl ⟨⟨1, rfl, Or.inr rfl, fun _ => by first | trivial | lia | grind, fun q => absurd q (by decide)⟩, hu11, fu11⟩
  refine g_pick (lv' := [(0, .ref (uk_ad G 46)), (1, .ref (uk_ad G 13)), (2, .int m), (3, .int 0)]) [0, 1, 2, 3] rfl ?_
  exact L2_0 0 (by first | decide | lia | grind) (by first | decide | lia | grind)  u hu f0 
