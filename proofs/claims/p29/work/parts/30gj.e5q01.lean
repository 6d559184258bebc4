def l_X2_tryRicher_3_28 (s : Int32) (x6 : Int32) (g : Int32) (n : Int32) : Nat → Int32 → uk_Mem → uk_Mem
  | 0, _, u9 => u9
  | K9 + 1, i8, u9 => let x10 : Int32 := u9.1 13 0; let x12 : Int32 := (10 : Int32) + x10; if x12 ≤ i8 then (u9) else (let x17 : Int32 := (e_X0_isAble u9 13 i8); if x17 = 0 then (l_X2_tryRicher_3_28 s x6 g n K9 (i8 + 1) u9) else (let x22 : Int32 := (e_X0_gainOf u9 13 i8); let x23 : Int32 := s + x22; let x24 : Int32 := x23 + x6; let x25 : Int32 := u9.1 46 3; if x24 ≤ x25 then (l_X2_tryRicher_3_28 s x6 g n K9 (i8 + 1) u9) else (let u30 : uk_Mem := uk_up u9 47 g.toNatClampNeg i8; let u32 : uk_Mem := e_X0_perform u30 13 i8; let x35 : Int32 := g + (1 : Int32); let u37 : uk_Mem := e_X2_tryRicher_2 u32 n x35 x23; let u40 : uk_Mem := e_X0_undo u37 13 i8; l_X2_tryRicher_3_28 s x6 g n K9 (i8 + 1) u40)))
def e_X2_tryRicher_3 (u : uk_Mem) (n : Int32) (g : Int32) (s : Int32) : uk_Mem := if g < n then (let x2 : Int32 := n - g; let x3 : Int32 := x2 - (1 : Int32); let x4 : Int32 := u.1 46 4; let x6 : Int32 := x3 * x4; l_X2_tryRicher_3_28 s x6 g n ee_K (0 : Int32) u) else (let u43 : uk_Mem := e_X2_keepPath u n s; u43)
abbrev qe_X2_tryRicher_3 (u : uk_Mem) (n : Int32) (g : Int32) (s : Int32) (r : Option Value) (u' : uk_Mem) : Prop := (q_X2_tryRicher_3 u n g s r u') ∧ (u' = e_X2_tryRicher_3 u n g s)
set_option maxHeartbeats 4000000 in
set_option maxRecDepth 20000 in
theorem x_X2_tryRicher_3 {G : uk_D} (hs : uk_Sep G) {u : uk_Mem} (hu : iv u) (n : Int32) (g : Int32) (s : Int32) (p0 : 0 ≤ g) (p1 : g ≤ 4) (p2 : n ≤ 4) (p3 : g + 3 = n) (d : Nat) : uk_Meth G (d + 6) mX2_tryRicher [.ref (uk_ad G 46), .ref (uk_ad G 13), .int n, .int g, .int s] u (qe_X2_tryRicher_3 u n g s) := by
  refine uk_Meth.of hs (by decide) (Nat.le_of_ble_eq_true rfl) (fun X => ?_)
  have f0 : fr 13 49 u u := fr_rf
  refine g_iload_n dX2_tryRicher_0 rfl ?_
  refine g_iload_n dX2_tryRicher_1 rfl ?_
  refine g_icmp_lt (tgt := 13) dX2_tryRicher_2 (by decide) (fun c1 => ?_) (fun c1 => ?_)
  · refine g_iload_n dX2_tryRicher_13 rfl ?_
    refine g_iload_n dX2_tryRicher_14 rfl ?_
    refine g_isub dX2_tryRicher_15 ?_
    refine g_topi (fun x2 ex2 => ?_)
    refine g_iconst (v := 1) dX2_tryRicher_16 (by decide) ?_
    refine g_isub dX2_tryRicher_17 ?_
    refine g_topi (fun x3 ex3 => ?_)
    refine g_aload_n dX2_tryRicher_18 rfl ?_
    refine f_X2_25 rfl rfl dX2_tryRicher_19 ?_
    refine g_topi (fun x4 ex4 => ?_)
    have s5 : u.1 46 4 = x4 := ex4.symm
    refine g_imul dX2_tryRicher_22 ?_
    refine g_topi (fun x6 ex6 => ?_)
    refine g_istore dX2_tryRicher_23 (by decide) ?_
    refine g_pick (lv' := [(0, .ref (uk_ad G 46)), (1, .ref (uk_ad G 13)), (2, .int n), (3, .int g), (4, .int s), (5, .int x6)]) [0, 1, 2, 3, 4, 5] rfl ?_
    refine g_iconst (v := 0) dX2_tryRicher_25 (by decide) ?_
    refine g_istore dX2_tryRicher_26 (by decide) ?_
    refine g_pick (lv' := [(0, .ref (uk_ad G 46)), (1, .ref (uk_ad G 13)), (2, .int n), (3, .int g), (4, .int s), (5, .int x6), (6, .int 0)]) [0, 1, 2, 3, 4, 5, 6] rfl ?_
    have L28_6 : ∀ i8 : Int32, 0 ≤ i8 → i8 ≤ 18 → ∀ (u9 : uk_Mem), iv u9 → fr 13 49 u u9 → (∃ ki8 : Nat, ee_F 18 i8 ki8 ∧ e_X2_tryRicher_3 u n g s = l_X2_tryRicher_3_28 s x6 g n ki8 i8 u9) → uk_G G X mX2_tryRicher (d + 6) (qe_X2_tryRicher_3 u n g s) 28 [(0, .ref (uk_ad G 46)), (1, .ref (uk_ad G 13)), (2, .int n), (3, .int g), (4, .int s), (5, .int x6), (6, .int i8)] [] u9 := by
      refine uk_upl 18 ?_
      intro i8 ai8 bi8 ihi8  u9 hu9 fu9 jEi8
      obtain ⟨ki8, fki8, hki8⟩ := jEi8
      obtain ⟨ki8, rfl⟩ := ee_Fp (by first | assumption | lia | grind) fki8
      refine g_iload dX2_tryRicher_28 rfl ?_
      refine g_bipush (v := 10) dX2_tryRicher_30 (by decide) ?_
      refine g_aload_n dX2_tryRicher_32 rfl ?_
      refine f_X2_44 rfl rfl dX2_tryRicher_33 ?_
      refine g_topi (fun x10 ex10 => ?_)
      have rx10 : 0 ≤ x10 ∧ x10 ≤ 8 := by rw [ex10]; exact iv_at hu9 _ _ rfl
      have s11 : u9.1 13 0 = x10 := ex10.symm
      refine g_iadd dX2_tryRicher_36 ?_
      refine g_topi (fun x12 ex12 => ?_)
      refine g_icmp_ge (tgt := 112) dX2_tryRicher_37 (by decide) (fun c13 => ?_) (fun c13 => ?_)
      · exact g_vret dX2_tryRicher_112 rfl ⟨⟨rfl, hu9, fu9⟩, (by subst ex12; subst ex10; exact hki8.trans ((if_pos c13).trans (rfl)) : e_X2_tryRicher_3 u n g s = u9).symm⟩
      · refine g_aload_n dX2_tryRicher_40 rfl ?_
        refine g_iload dX2_tryRicher_41 rfl ?_
        refine cl_X2_45 (c := 13) (As := [.int i8]) rfl (x_X0_isAble (G := G) hs hu9 uk_isK13 i8  (d + 3)) rfl (by omega) rfl rfl (Nat.le_of_ble_eq_true rfl) dX2_tryRicher_43 (fun r14 u15 q16 => ?_)
        obtain ⟨q16, Eq16⟩ := q16
        obtain ⟨⟨x17, rfl, tx17, nx17, zx17⟩, mq16⟩ := q16
        rw [mq16]
        have ex17 : x17 = (e_X0_isAble u9 13 i8) := ee_v Eq16
        refine g_if_ne (tgt := 52) dX2_tryRicher_46 (by decide) (fun c18 => ?_) (fun c18 => ?_)
        · have zc18 := nx17 c18
          refine g_iload dX2_tryRicher_52 rfl ?_
          refine g_aload_n dX2_tryRicher_54 rfl ?_
          refine g_iload dX2_tryRicher_55 rfl ?_
          refine cl_X2_49 (c := 13) (As := [.int i8]) rfl (x_X0_gainOf (G := G) hs hu9 uk_isK13 i8 (by first | trivial | decide | lia | grind) (d + 4)) rfl (by omega) rfl rfl (Nat.le_of_ble_eq_true rfl) dX2_tryRicher_57 (fun r19 u20 q21 => ?_)
          obtain ⟨q21, Eq21⟩ := q21
          obtain ⟨⟨x22, rfl, tx22⟩, mq21⟩ := q21
          rw [mq21]
          have ex22 : x22 = (e_X0_gainOf u9 13 i8) := ee_v Eq21
          refine g_iadd dX2_tryRicher_60 ?_
          refine g_topi (fun x23 ex23 => ?_)
          refine g_istore dX2_tryRicher_61 (by decide) ?_
          refine g_pick (lv' := [(0, .ref (uk_ad G 46)), (1, .ref (uk_ad G 13)), (2, .int n), (3, .int g), (4, .int s), (5, .int x6), (6, .int i8), (7, .int x23)]) [0, 1, 2, 3, 4, 5, 6, 7] rfl ?_
          refine g_iload dX2_tryRicher_63 rfl ?_
          refine g_iload dX2_tryRicher_65 rfl ?_
          refine g_iadd dX2_tryRicher_67 ?_
          refine g_topi (fun x24 ex24 => ?_)
          refine g_aload_n dX2_tryRicher_68 rfl ?_
          refine f_X2_22 rfl rfl dX2_tryRicher_69 ?_
          refine g_topi (fun x25 ex25 => ?_)
          have s26 : u9.1 46 3 = x25 := ex25.symm
          refine g_icmp_le (tgt := 106) dX2_tryRicher_72 (by decide) (fun c27 => ?_) (fun c27 => ?_)
          · refine g_iinc (v := i8 + 1) dX2_tryRicher_106 rfl rfl (by decide) ?_
            refine g_pick (lv' := [(0, .ref (uk_ad G 46)), (1, .ref (uk_ad G 13)), (2, .int n), (3, .int g), (4, .int s), (5, .int x6), (6, .int (i8 + 1)), (7, .int x23)]) [0, 1, 2, 3, 4, 5, 6, 7] rfl ?_
            refine g_goto (tgt := 28) dX2_tryRicher_109 (by decide) ?_
            refine g_pick (lv' := [(0, .ref (uk_ad G 46)), (1, .ref (uk_ad G 13)), (2, .int n), (3, .int g), (4, .int s), (5, .int x6), (6, .int (i8 + 1))]) [0, 1, 2, 3, 4, 5, 6] rfl ?_
            exact ihi8 (by first | lia | grind)  u9 hu9 fu9  ⟨ki8, ee_Fs fki8 (by first | assumption | lia | grind), by subst ex25; subst ex24; subst ex23; subst ex22; subst ex17; subst ex12; subst ex10; exact hki8.trans ((if_neg c13).trans ((if_neg c18).trans ((if_pos c27).trans (rfl))))⟩
          · refine g_aload_n dX2_tryRicher_75 rfl ?_
            refine f_X2_9 rfl rfl dX2_tryRicher_76 ?_
            refine g_iload_n dX2_tryRicher_79 rfl ?_
            refine g_iload dX2_tryRicher_80 rfl ?_
            have v28 : vp_in g 4 := uk_vin 4 rfl (by first | decide | lia | grind) (by first | decide | lia | grind)
            have b29 := uk_cl v28
            refine g_iast rfl rfl v28 dX2_tryRicher_82 ?_
            refine g_mem (fun u30 eu30 => ?_)
            have hu30 : iv u30 := by rw [eu30]; exact iv_upF hu9 (uk_pick1 _ (by omega))
            have fu30 : fr 13 49 u u30 := by rw [eu30]; exact fr_up fu9 (by omega) (by omega)
            refine g_aload_n dX2_tryRicher_83 rfl ?_
            refine g_iload dX2_tryRicher_84 rfl ?_
            refine cl_X2_53 (c := 13) (As := [.int i8]) rfl (x_X0_perform (G := G) hs hu30 uk_isK13 i8 (by first | trivial | decide | lia | grind) (d + 3)) rfl (by omega) rfl rfl (Nat.le_of_ble_eq_true rfl) dX2_tryRicher_86 (fun r31 u32 q33 => ?_)
            obtain ⟨q33, Eq33⟩ := q33
            obtain ⟨rfl, mq33⟩ := q33
            obtain ⟨hu32, gu32⟩ := mq33
            have fu32 : fr 13 49 u u32 := fr_tr fu30 gu32 (by omega) (by omega)
            have s34 : u32.1 46 3 = x25 := (fr_at gu32 (by omega)).trans (by simp [eu30, uk_up_at, s26] : u30.1 46 3 = x25)
            have eu32 : u32 = e_X0_perform u30 13 i8 := Eq33
            refine g_aload_n dX2_tryRicher_89 rfl ?_
            refine g_aload_n dX2_tryRicher_90 rfl ?_
            refine g_iload_n dX2_tryRicher_91 rfl ?_
            refine g_iload_n dX2_tryRicher_92 rfl ?_
            refine g_iconst (v := 1) dX2_tryRicher_93 (by decide) ?_
            refine g_iadd dX2_tryRicher_94 ?_
            refine g_topi (fun x35 ex35 => ?_)
            refine g_iload dX2_tryRicher_95 rfl ?_
            refine cl_X2_36 (c := 46) (As := [.ref (uk_ad G 13), .int n, .int x35, .int x23]) rfl (x_X2_tryRicher_2 (G := G) hs hu32  n x35 x23 (by first | trivial | decide | lia | grind) (by first | trivial | decide | lia | grind) (by first | trivial | decide | lia | grind) (by first | trivial | decide | lia | grind) (d)) rfl (by omega) rfl rfl (Nat.le_of_ble_eq_true rfl) dX2_tryRicher_97 (fun r36 u37 q38 => ?_)
            obtain ⟨q38, Eq38⟩ := q38
            obtain ⟨rfl, mq38⟩ := q38
            obtain ⟨hu37, gu37⟩ := mq38
            have fu37 : fr 13 49 u u37 := fr_tr fu32 gu37 (by omega) (by omega)
            have eu37 : u37 = e_X2_tryRicher_2 u32 n x35 x23 := Eq38
            refine g_aload_n dX2_tryRicher_100 rfl ?_
            refine g_iload dX2_tryRicher_101 rfl ?_
            refine cl_X2_57 (c := 13) (As := [.int i8]) rfl (x_X0_undo (G := G) hs hu37 uk_isK13 i8 (by first | trivial | decide | lia | grind) (d + 3)) rfl (by omega) rfl rfl (Nat.le_of_ble_eq_true rfl) dX2_tryRicher_103 (fun r39 u40 q41 => ?_)
            obtain ⟨q41, Eq41⟩ := q41
            obtain ⟨rfl, mq41⟩ := q41
            obtain ⟨hu40, gu40⟩ := mq41
            have fu40 : fr 13 49 u u40 := fr_tr fu37 gu40 (by omega) (by omega)
            have eu40 : u40 = e_X0_undo u37 13 i8 := Eq41
            refine g_iinc (v := i8 + 1) dX2_tryRicher_106 rfl rfl (by decide) ?_
            refine g_pick (lv' := [(0, .ref (uk_ad G 46)), (1, .ref (uk_ad G 13)), (2, .int n), (3, .int g), (4, .int s), (5, .int x6), (6, .int (i8 + 1)), (7, .int x23)]) [0, 1, 2, 3, 4, 5, 6, 7] rfl ?_
            refine g_goto (tgt := 28) dX2_tryRicher_109 (by decide) ?_
            refine g_pick (lv' := [(0, .ref (uk_ad G 46)), (1, .ref (uk_ad G 13)), (2, .int n), (3, .int g), (4, .int s), (5, .int x6), (6, .int (i8 + 1))]) [0, 1, 2, 3, 4, 5, 6] rfl ?_
            exact ihi8 (by first | lia | grind)  u40 hu40 fu40  ⟨ki8, ee_Fs fki8 (by first | assumption | lia | grind), by subst eu40; subst eu37; subst ex35; subst eu32; subst eu30; subst ex25; subst ex24; subst ex23; subst ex22; subst ex17; subst ex12; subst ex10; exact hki8.trans ((if_neg c13).trans ((if_neg c18).trans ((if_neg c27).trans (rfl))))⟩
        · have zc18 := zx17 c18
          refine g_goto (tgt := 106) dX2_tryRicher_49 (by decide) ?_
          refine g_iinc (v := i8 + 1) dX2_tryRicher_106 rfl rfl (by decide) ?_
          refine g_pick (lv' := [(0, .ref (uk_ad G 46)), (1, .ref (uk_ad G 13)), (2, .int n), (3, .int g), (4, .int s), (5, .int x6), (6, .int (i8 + 1))]) [0, 1, 2, 3, 4, 5, 6] rfl ?_
          refine g_goto (tgt := 28) dX2_tryRicher_109 (by decide) ?_
          refine g_pick (lv' := [(0, .ref (uk_ad G 46)), (1, .ref (uk_ad G 13)), (2, .int n), (3, .int g), (4, .int s), (5, .int x6), (6, .int (i8 + 1))]) [0, 1, 2, 3, 4, 5, 6] rfl ?_
          exact ihi8 (by first | lia | grind)  u9 hu9 fu9  ⟨ki8, ee_Fs fki8 (by first | assumption | lia | grind), by subst ex17; subst ex12; subst ex10; exact hki8.trans ((if_neg c13).trans ((if_pos c18).trans (rfl)))⟩
    refine g_pick (lv' := [(0, .ref (uk_ad G 46)), (1, .ref (uk_ad G 13)), (2, .int n), (3, .int g), (4, .int s), (5, .int x6), (6, .int 0)]) [0, 1, 2, 3, 4, 5, 6] rfl ?_
    exact L28_6 0 (by first | decide | lia | grind) (by first | decide | lia | grind)  u hu f0  ⟨ee_K, ee_F0 _ _, by subst ex6; subst ex4; subst ex3; subst ex2; exact (if_pos c1).trans (rfl)⟩
  · refine g_aload_n dX2_tryRicher_5 rfl ?_
    refine g_iload_n dX2_tryRicher_6 rfl ?_
    refine g_iload dX2_tryRicher_7 rfl ?_
    refine cl_X2_40 (c := 46) (As := [.int n, .int s]) rfl (x_X2_keepPath (G := G) hs hu  n s (by first | trivial | decide | lia | grind) (by first | trivial | decide | lia | grind) (d + 5)) rfl (by omega) rfl rfl (Nat.le_of_ble_eq_true rfl) dX2_tryRicher_9 (fun r42 u43 q44 => ?_)
    obtain ⟨q44, Eq44⟩ := q44
    obtain ⟨rfl, mq44⟩ := q44
    obtain ⟨hu43, gu43⟩ := mq44
    have fu43 : fr 13 49 u u43 := fr_tr f0 gu43 (by omega) (by omega)
    have eu43 : u43 = e_X2_keepPath u n s := Eq44
    exact g_vret dX2_tryRicher_12 rfl ⟨⟨rfl, hu43, fu43⟩, (by subst eu43; exact (if_neg c1).trans (rfl) : e_X2_tryRicher_3 u n g s = u43).symm⟩
def l_X2_tryRicher_4_28 (s : Int32) (x6 : Int32) (g : Int32) (n : Int32) : Nat → Int32 → uk_Mem → uk_Mem
  | 0, _, u9 => u9
  | K9 + 1, i8, u9 => let x10 : Int32 := u9.1 13 0; let x12 : Int32 := (10 : Int32) + x10; if x12 ≤ i8 then (u9) else (let x17 : Int32 := (e_X0_isAble u9 13 i8); if x17 = 0 then (l_X2_tryRicher_4_28 s x6 g n K9 (i8 + 1) u9) else (let x22 : Int32 := (e_X0_gainOf u9 13 i8); let x23 : Int32 := s + x22; let x24 : Int32 := x23 + x6; let x25 : Int32 := u9.1 46 3; if x24 ≤ x25 then (l_X2_tryRicher_4_28 s x6 g n K9 (i8 + 1) u9) else (let u30 : uk_Mem := uk_up u9 47 g.toNatClampNeg i8; let u32 : uk_Mem := e_X0_perform u30 13 i8; let x35 : Int32 := g + (1 : Int32); let u37 : uk_Mem := e_X2_tryRicher_3 u32 n x35 x23; let u40 : uk_Mem := e_X0_undo u37 13 i8; l_X2_tryRicher_4_28 s x6 g n K9 (i8 + 1) u40)))
def e_X2_tryRicher_4 (u : uk_Mem) (n : Int32) (g : Int32) (s : Int32) : uk_Mem := if g < n then (let x2 : Int32 := n - g; let x3 : Int32 := x2 - (1 : Int32); let x4 : Int32 := u.1 46 4; let x6 : Int32 := x3 * x4; l_X2_tryRicher_4_28 s x6 g n ee_K (0 : Int32) u) else (let u43 : uk_Mem := e_X2_keepPath u n s; u43)
abbrev qe_X2_tryRicher_4 (u : uk_Mem) (n : Int32) (g : Int32) (s : Int32) (r : Option Value) (u' : uk_Mem) : Prop := (q_X2_tryRicher_4 u n g s r u') ∧ (u' = e_X2_tryRicher_4 u n g s)
set_option maxHeartbeats 4000000 in
set_option maxRecDepth 20000 in
theorem x_X2_tryRicher_4 {G : uk_D} (hs : uk_Sep G) {u : uk_Mem} (hu : iv u) (n : Int32) (g : Int32) (s : Int32) (p0 : 0 ≤ g) (p1 : g ≤ 4) (p2 : n ≤ 4) (p3 : g + 4 = n) (d : Nat) : uk_Meth G (d + 7) mX2_tryRicher [.ref (uk_ad G 46), .ref (uk_ad G 13), .int n, .int g, .int s] u (qe_X2_tryRicher_4 u n g s) := by
  refine uk_Meth.of hs (by decide) (Nat.le_of_ble_eq_true rfl) (fun X => ?_)
  have f0 : fr 13 49 u u := fr_rf
  refine g_iload_n dX2_tryRicher_0 rfl ?_
  refine g_iload_n dX2_tryRicher_1 rfl ?_
  refine g_icmp_lt (tgt := 13) dX2_tryRicher_2 (by decide) (fun c1 => ?_) (fun c1 => ?_)
  · refine g_iload_n dX2_tryRicher_13 rfl ?_
    refine g_iload_n dX2_tryRicher_14 rfl ?_
    refine g_isub dX2_tryRicher_15 ?_
    refine g_topi (fun x2 ex2 => ?_)
    refine g_iconst (v := 1) dX2_tryRicher_16 (by decide) ?_
    refine g_isub dX2_tryRicher_17 ?_
    refine g_topi (fun x3 ex3 => ?_)
    refine g_aload_n dX2_tryRicher_18 rfl ?_
    refine f_X2_25 rfl rfl dX2_tryRicher_19 ?_
    refine g_topi (fun x4 ex4 => ?_)
    have s5 : u.1 46 4 = x4 := ex4.symm
    refine g_imul dX2_tryRicher_22 ?_
    refine g_topi (fun x6 ex6 => ?_)
    refine g_istore dX2_tryRicher_23 (by decide) ?_
    refine g_pick (lv' := [(0, .ref (uk_ad G 46)), (1, .ref (uk_ad G 13)), (2, .int n), (3, .int g), (4, .int s), (5, .int x6)]) [0, 1, 2, 3, 4, 5] rfl ?_
    refine g_iconst (v := 0) dX2_tryRicher_25 (by decide) ?_
    refine g_istore dX2_tryRicher_26 (by decide) ?_
    refine g_pick (lv' := [(0, .ref (uk_ad G 46)), (1, .ref (uk_ad G 13)), (2, .int n), (3, .int g), (4, .int s), (5, .int x6), (6, .int 0)]) [0, 1, 2, 3, 4, 5, 6] rfl ?_
    have L28_6 : ∀ i8 : Int32, 0 ≤ i8 → i8 ≤ 18 → ∀ (u9 : uk_Mem), iv u9 → fr 13 49 u u9 → (∃ ki8 : Nat, ee_F 18 i8 ki8 ∧ e_X2_tryRicher_4 u n g s = l_X2_tryRicher_4_28 s x6 g n ki8 i8 u9) → uk_G G X mX2_tryRicher (d + 7) (qe_X2_tryRicher_4 u n g s) 28 [(0, .ref (uk_ad G 46)), (1, .ref (uk_ad G 13)), (2, .int n), (3, .int g), (4, .int s), (5, .int x6), (6, .int i8)] [] u9 := by
      refine uk_upl 18 ?_
      intro i8 ai8 bi8 ihi8  u9 hu9 fu9 jEi8
      obtain ⟨ki8, fki8, hki8⟩ := jEi8
      obtain ⟨ki8, rfl⟩ := ee_Fp (by first | assumption | lia | grind) fki8
      refine g_iload dX2_tryRicher_28 rfl ?_
      refine g_bipush (v := 10) dX2_tryRicher_30 (by decide) ?_
      refine g_aload_n dX2_tryRicher_32 rfl ?_
      refine f_X2_44 rfl rfl dX2_tryRicher_33 ?_
      refine g_topi (fun x10 ex10 => ?_)
      have rx10 : 0 ≤ x10 ∧ x10 ≤ 8 := by rw [ex10]; exact iv_at hu9 _ _ rfl
      have s11 : u9.1 13 0 = x10 := ex10.symm
      refine g_iadd dX2_tryRicher_36 ?_
      refine g_topi (fun x12 ex12 => ?_)
      refine g_icmp_ge (tgt := 112) dX2_tryRicher_37 (by decide) (fun c13 => ?_) (fun c13 => ?_)
      · exact g_vret dX2_tryRicher_112 rfl ⟨⟨rfl, hu9, fu9⟩, (by subst ex12; subst ex10; exact hki8.trans ((if_pos c13).trans (rfl)) : e_X2_tryRicher_4 u n g s = u9).symm⟩
      · refine g_aload_n dX2_tryRicher_40 rfl ?_
        refine g_iload dX2_tryRicher_41 rfl ?_
        refine cl_X2_45 (c := 13) (As := [.int i8]) rfl (x_X0_isAble (G := G) hs hu9 uk_isK13 i8  (d + 4)) rfl (by omega) rfl rfl (Nat.le_of_ble_eq_true rfl) dX2_tryRicher_43 (fun r14 u15 q16 => ?_)
        obtain ⟨q16, Eq16⟩ := q16
        obtain ⟨⟨x17, rfl, tx17, nx17, zx17⟩, mq16⟩ := q16
        rw [mq16]
        have ex17 : x17 = (e_X0_isAble u9 13 i8) := ee_v Eq16
        refine g_if_ne (tgt := 52) dX2_tryRicher_46 (by decide) (fun c18 => ?_) (fun c18 => ?_)
        · have zc18 := nx17 c18
          refine g_iload dX2_tryRicher_52 rfl ?_
          refine g_aload_n dX2_tryRicher_54 rfl ?_
          refine g_iload dX2_tryRicher_55 rfl ?_
          refine cl_X2_49 (c := 13) (As := [.int i8]) rfl (x_X0_gainOf (G := G) hs hu9 uk_isK13 i8 (by first | trivial | decide | lia | grind) (d + 5)) rfl (by omega) rfl rfl (Nat.le_of_ble_eq_true rfl) dX2_tryRicher_57 (fun r19 u20 q21 => ?_)
          obtain ⟨q21, Eq21⟩ := q21
          obtain ⟨⟨x22, rfl, tx22⟩, mq21⟩ := q21
          rw [mq21]
          have ex22 : x22 = (e_X0_gainOf u9 13 i8) := ee_v Eq21
          refine g_iadd dX2_tryRicher_60 ?_
          refine g_topi (fun x23 ex23 => ?_)
          refine g_istore dX2_tryRicher_61 (by decide) ?_
          refine g_pick (lv' := [(0, .ref (uk_ad G 46)), (1, .ref (uk_ad G 13)), (2, .int n), (3, .int g), (4, .int s), (5, .int x6), (6, .int i8), (7, .int x23)]) [0, 1, 2, 3, 4, 5, 6, 7] rfl ?_
          refine g_iload dX2_tryRicher_63 rfl ?_
          refine g_iload dX2_tryRicher_65 rfl ?_
          refine g_iadd dX2_tryRicher_67 ?_
          refine g_topi (fun x24 ex24 => ?_)
          refine g_aload_n dX2_tryRicher_68 rfl ?_
          refine f_X2_22 rfl rfl dX2_tryRicher_69 ?_
          refine g_topi (fun x25 ex25 => ?_)
          have s26 : u9.1 46 3 = x25 := ex25.symm
          refine g_icmp_le (tgt := 106) dX2_tryRicher_72 (by decide) (fun c27 => ?_) (fun c27 => ?_)
          · refine g_iinc (v := i8 + 1) dX2_tryRicher_106 rfl rfl (by decide) ?_
            refine g_pick (lv' := [(0, .ref (uk_ad G 46)), (1, .ref (uk_ad G 13)), (2, .int n), (3, .int g), (4, .int s), (5, .int x6), (6, .int (i8 + 1)), (7, .int x23)]) [0, 1, 2, 3, 4, 5, 6, 7] rfl ?_
            refine g_goto (tgt := 28) dX2_tryRicher_109 (by decide) ?_
            refine g_pick (lv' := [(0, .ref (uk_ad G 46)), (1, .ref (uk_ad G 13)), (2, .int n), (3, .int g), (4, .int s), (5, .int x6), (6, .int (i8 + 1))]) [0, 1, 2, 3, 4, 5, 6] rfl ?_
            exact ihi8 (by first | lia | grind)  u9 hu9 fu9  ⟨ki8, ee_Fs fki8 (by first | assumption | lia | grind), by subst ex25; subst ex24; subst ex23; subst ex22; subst ex17; subst ex12; subst ex10; exact hki8.trans ((if_neg c13).trans ((if_neg c18).trans ((if_pos c27).trans (rfl))))⟩
          · refine g_aload_n dX2_tryRicher_75 rfl ?_
            refine f_X2_9 rfl rfl dX2_tryRicher_76 ?_
            refine g_iload_n dX2_tryRicher_79 rfl ?_
            refine g_iload dX2_tryRicher_80 rfl ?_
            have v28 : vp_in g 4 := uk_vin 4 rfl (by first | decide | lia | grind) (by first | decide | lia | grind)
            have b29 := uk_cl v28
            refine g_iast rfl rfl v28 dX2_tryRicher_82 ?_
            refine g_mem (fun u30 eu30 => ?_)
            have hu30 : iv u30 := by rw [eu30]; exact iv_upF hu9 (uk_pick1 _ (by omega))
            have fu30 : fr 13 49 u u30 := by rw [eu30]; exact fr_up fu9 (by omega) (by omega)
            refine g_aload_n dX2_tryRicher_83 rfl ?_
            refine g_iload dX2_tryRicher_84 rfl ?_
            refine cl_X2_53 (c := 13) (As := [.int i8]) rfl (x_X0_perform (G := G) hs hu30 uk_isK13 i8 (by first | trivial | decide | lia | grind) (d + 4)) rfl (by omega) rfl rfl (Nat.le_of_ble_eq_true rfl) dX2_tryRicher_86 (fun r31 u32 q33 => ?_)
            obtain ⟨q33, Eq33⟩ := q33
            obtain ⟨rfl, mq33⟩ := q33
            obtain ⟨hu32, gu32⟩ := mq33
            have fu32 : fr 13 49 u u32 := fr_tr fu30 gu32 (by omega) (by omega)
            have s34 : u32.1 46 3 = x25 := (fr_at gu32 (by omega)).trans (by simp [eu30, uk_up_at, s26] : u30.1 46 3 = x25)
            have eu32 : u32 = e_X0_perform u30 13 i8 := Eq33
            refine g_aload_n dX2_tryRicher_89 rfl ?_
            refine g_aload_n dX2_tryRicher_90 rfl ?_
            refine g_iload_n dX2_tryRicher_91 rfl ?_
            refine g_iload_n dX2_tryRicher_92 rfl ?_
            refine g_iconst (v := 1) dX2_tryRicher_93 (by decide) ?_
            refine g_iadd dX2_tryRicher_94 ?_
            refine g_topi (fun x35 ex35 => ?_)
            refine g_iload dX2_tryRicher_95 rfl ?_
            refine cl_X2_36 (c := 46) (As := [.ref (uk_ad G 13), .int n, .int x35, .int x23]) rfl (x_X2_tryRicher_3 (G := G) hs hu32  n x35 x23 (by first | trivial | decide | lia | grind) (by first | trivial | decide | lia | grind) (by first | trivial | decide | lia | grind) (by first | trivial | decide | lia | grind) (d)) rfl (by omega) rfl rfl (Nat.le_of_ble_eq_true rfl) dX2_tryRicher_97 (fun r36 u37 q38 => ?_)
            obtain ⟨q38, Eq38⟩ := q38
            obtain ⟨rfl, mq38⟩ := q38
            obtain ⟨hu37, gu37⟩ := mq38
            have fu37 : fr 13 49 u u37 := fr_tr fu32 gu37 (by omega) (by omega)
            have eu37 : u37 = e_X2_tryRicher_3 u32 n x35 x23 := Eq38
            refine g_aload_n dX2_tryRicher_100 rfl ?_
            refine g_iload dX2_tryRicher_101 rfl ?_
            refine cl_X2_57 (c := 13) (As := [.int i8]) rfl (x_X0_undo (G := G) hs hu37 uk_isK13 i8 (by first | trivial | decide | lia | grind) (d + 4)) rfl (by omega) rfl rfl (Nat.le_of_ble_eq_true rfl) dX2_tryRicher_103 (fun r39 u40 q41 => ?_)
            obtain ⟨q41, Eq41⟩ := q41
            obtain ⟨rfl, mq41⟩ := q41
            obtain ⟨hu40, gu40⟩ := mq41
            have fu40 : fr 13 49 u u40 := fr_tr fu37 gu40 (by omega) (by omega)
            have eu40 : u40 = e_X0_undo u37 13 i8 := Eq41
            refine g_iinc (v := i8 + 1) dX2_tryRicher_106 rfl rfl (by decide) ?_
            refine g_pick (lv' := [(0, .ref (uk_ad G 46)), (1, .ref (uk_ad G 13)), (2, .int n), (3, .int g), (4, .int s), (5, .int x6), (6, .int (i8 + 1)), (7, .int x23)]) [0, 1, 2, 3, 4, 5, 6, 7] rfl ?_
            refine g_goto (tgt := 28) dX2_tryRicher_109 (by decide) ?_
            refine g_pick (lv' := [(0, .ref (uk_ad G 46)), (1, .ref (uk_ad G 13)), (2, .int n), (3, .int g), (4, .int s), (5, .int x6), (6, .int (i8 + 1))]) [0, 1, 2, 3, 4, 5, 6] rfl ?_
            exact ihi8 (by first | lia | grind)  u40 hu40 fu40  ⟨ki8, ee_Fs fki8 (by first | assumption | lia | grind), by subst eu40; subst eu37; subst ex35; subst eu32; subst eu30; subst ex25; subst ex24; subst ex23; subst ex22; subst ex17; subst ex12; subst ex10; exact hki8.trans ((if_neg c13).trans ((if_neg c18).trans ((if_neg c27).trans (rfl))))⟩
        · have zc18 := zx17 c18
          refine g_goto (tgt := 106) dX2_tryRicher_49 (by decide) ?_
          refine g_iinc (v := i8 + 1) dX2_tryRicher_106 rfl rfl (by decide) ?_
          refine g_pick (lv' := [(0, .ref (uk_ad G 46)), (1, .ref (uk_ad G 13)), (2, .int n), (3, .int g), (4, .int s), (5, .int x6), (6, .int (i8 + 1))]) [0, 1, 2, 3, 4, 5, 6] rfl ?_
          refine g_goto (tgt := 28) dX2_tryRicher_109 (by decide) ?_
          refine g_pick (lv' := [(0, .ref (uk_ad G 46)), (1, .ref (uk_ad G 13)), (2, .int n), (3, .int g), (4, .int s), (5, .int x6), (6, .int (i8 + 1))]) [0, 1, 2, 3, 4, 5, 6] rfl ?_
          exact ihi8 (by first | lia | grind)  u9 hu9 fu9  ⟨ki8, ee_Fs fki8 (by first | assumption | lia | grind), by subst ex17; subst ex12; subst ex10; exact hki8.trans ((if_neg c13).trans ((if_pos c18).trans (rfl)))⟩
    refine g_pick (lv' := [(0, .ref (uk_ad G 46)), (1, .ref (uk_ad G 13)), (2, .int n), (3, .int g), (4, .int s), (5, .int x6), (6, .int 0)]) [0, 1, 2, 3, 4, 5, 6] rfl ?_
    exact L28_6 0 (by first | decide | lia | grind) (by first | decide | lia | grind)  u hu f0  ⟨ee_K, ee_F0 _ _, by subst ex6; subst ex4; subst ex3; subst ex2; exact (if_pos c1).trans (rfl)⟩
  · refine g_aload_n dX2_tryRicher_5 rfl ?_
    refine g_iload_n dX2_tryRicher_6 rfl ?_
    refine g_iload dX2_tryRicher_7 rfl ?_
    refine cl_X2_40 (c := 46) (As := [.int n, .int s]) rfl (x_X2_keepPath (G := G) hs hu  n s (by first | trivial | decide | lia | grind) (by first | trivial | decide | lia | grind) (d + 6)) rfl (by omega) rfl rfl (Nat.le_of_ble_eq_true rfl) dX2_tryRicher_9 (fun r42 u43 q44 => ?_)
    obtain ⟨q44, Eq44⟩ := q44
    obtain ⟨rfl, mq44⟩ := q44
    obtain ⟨hu43, gu43⟩ := mq44
    have fu43 : fr 13 49 u u43 := fr_tr f0 gu43 (by omega) (by omega)
    have eu43 : u43 = e_X2_keepPath u n s := Eq44
    exact g_vret dX2_tryRicher_12 rfl ⟨⟨rfl, hu43, fu43⟩, (by subst eu43; exact (if_neg c1).trans (rfl) : e_X2_tryRicher_4 u n g s = u43).symm⟩
def e_X2_tryRicher (u : uk_Mem) (n : Int32) (g : Int32) (s : Int32) : uk_Mem := if g = n then e_X2_tryRicher_0 u n g s else if g + 1 = n then e_X2_tryRicher_1 u n g s else if g + 2 = n then e_X2_tryRicher_2 u n g s else if g + 3 = n then e_X2_tryRicher_3 u n g s else e_X2_tryRicher_4 u n g s
abbrev qe_X2_tryRicher (u : uk_Mem) (n : Int32) (g : Int32) (s : Int32) (r : Option Value) (u' : uk_Mem) : Prop := (q_X2_tryRicher u n g s r u') ∧ (u' = e_X2_tryRicher u n g s)
theorem x_X2_tryRicher {G : uk_D} (hs : uk_Sep G) {u : uk_Mem} (hu : iv u) (n : Int32) (g : Int32) (s : Int32) (p0 : 0 ≤ g) (p1 : g ≤ n) (p2 : n ≤ 4) (d : Nat) : uk_Meth G (d + 7) mX2_tryRicher [.ref (uk_ad G 46), .ref (uk_ad G 13), .int n, .int g, .int s] u (qe_X2_tryRicher u n g s) := by
  have hc : g = n ∨ g + 1 = n ∨ g + 2 = n ∨ g + 3 = n ∨ g + 4 = n := by grind
  rcases hc with q | q | q | q | q
  · have e : e_X2_tryRicher u n g s = e_X2_tryRicher_0 u n g s := by
      unfold e_X2_tryRicher
      rw [if_pos q]
    exact uk_Meth.imp (x_X2_tryRicher_0 hs hu n g s p0 (by grind) p2 q (d + 4)) (fun r u' h => ⟨h.1, by rw [e]; exact h.2⟩)
  · have e : e_X2_tryRicher u n g s = e_X2_tryRicher_1 u n g s := by
      unfold e_X2_tryRicher
      rw [if_neg (by grind)]
      rw [if_pos q]
    exact uk_Meth.imp (x_X2_tryRicher_1 hs hu n g s p0 (by grind) p2 q (d + 3)) (fun r u' h => ⟨h.1, by rw [e]; exact h.2⟩)
  · have e : e_X2_tryRicher u n g s = e_X2_tryRicher_2 u n g s := by
      unfold e_X2_tryRicher
      rw [if_neg (by grind)]
      rw [if_neg (by grind)]
      rw [if_pos q]
    exact uk_Meth.imp (x_X2_tryRicher_2 hs hu n g s p0 (by grind) p2 q (d + 2)) (fun r u' h => ⟨h.1, by rw [e]; exact h.2⟩)
  · have e : e_X2_tryRicher u n g s = e_X2_tryRicher_3 u n g s := by
      unfold e_X2_tryRicher
      rw [if_neg (by grind)]
      rw [if_neg (by grind)]
      rw [if_neg (by grind)]
      rw [if_pos q]
    exact uk_Meth.imp (x_X2_tryRicher_3 hs hu n g s p0 (by grind) p2 q (d + 1)) (fun r u' h => ⟨h.1, by rw [e]; exact h.2⟩)
  · have e : e_X2_tryRicher u n g s = e_X2_tryRicher_4 u n g s := by
      unfold e_X2_tryRicher
      rw [if_neg (by grind)]
      rw [if_neg (by grind)]
      rw [if_neg (by grind)]
      rw [if_neg (by grind)]
    exact uk_Meth.imp (x_X2_tryRicher_4 hs hu n g s p0 (by grind) p2 q (d + 0)) (fun r u' h => ⟨h.1, by rw [e]; exact h.2⟩)
def e_X2_tryReaching_0 (u : uk_Mem) (m : Int32) (n : Int32) (g : Int32) : Int32 × uk_Mem := let x3 : Int32 := u.1 19 m.toNatClampNeg; if x3 ≤ 0 then (((0 : Int32), u)) else (((1 : Int32), u))
abbrev qe_X2_tryReaching_0 (u : uk_Mem) (m : Int32) (n : Int32) (g : Int32) (r : Option Value) (u' : uk_Mem) : Prop := (q_X2_tryReaching_0 u m n g r u') ∧ (r = some (.int (e_X2_tryReaching_0 u m n g).1) ∧ u' = (e_X2_tryReaching_0 u m n g).2)
set_option maxHeartbeats 4000000 in
set_option maxRecDepth 20000 in
theorem x_X2_tryReaching_0 {G : uk_D} (hs : uk_Sep G) {u : uk_Mem} (hu : iv u) (m : Int32) (n : Int32) (g : Int32) (p0 : 0 ≤ m) (p1 : m ≤ 7) (p2 : 0 ≤ g) (p3 : g ≤ 4) (p4 : n ≤ 4) (p5 : g = n) (d : Nat) : uk_Meth G (d + 3) mX2_tryReaching [.ref (uk_ad G 46), .ref (uk_ad G 13), .int m, .int n, .int g] u (qe_X2_tryReaching_0 u m n g) := by
  refine uk_Meth.of hs (by decide) (Nat.le_of_ble_eq_true rfl) (fun X => ?_)
  have f0 : fr 13 49 u u := fr_rf
  refine g_iload dX2_tryReaching_0 rfl ?_
  refine g_iload_n dX2_tryReaching_2 rfl ?_
  refine g_icmp_lt (tgt := 21) dX2_tryReaching_3 (by decide) (fun c1 => ?_) (fun c1 => ?_)
  · exfalso; grind
  · refine g_aload_n dX2_tryReaching_6 rfl ?_
    refine f_X2_64 rfl rfl dX2_tryReaching_7 ?_
    refine g_iload_n dX2_tryReaching_10 rfl ?_
    have v2 : vp_in m 8 := uk_vin 8 rfl (by first | decide | lia | grind) (by first | decide | lia | grind)
    refine g_iald rfl rfl v2 dX2_tryReaching_11 ?_
    refine g_topi (fun x3 ex3 => ?_)
    refine g_if_le (tgt := 19) dX2_tryReaching_12 (by decide) (fun c4 => ?_) (fun c4 => ?_)
    · refine g_iconst (v := 0) dX2_tryReaching_19 (by decide) ?_
      exact g_iret (ty := .boolean) dX2_tryReaching_20 rfl rfl ⟨⟨⟨0, rfl, Or.inl rfl, fun q => absurd rfl q, fun _ => by first | trivial | lia | grind⟩, hu, f0⟩, ee_i (by subst ex3; exact (if_pos c4).trans (rfl))⟩
    · refine g_iconst (v := 1) dX2_tryReaching_15 (by decide) ?_
      refine g_goto (tgt := 20) dX2_tryReaching_16 (by decide) ?_
      exact g_iret (ty := .boolean) dX2_tryReaching_20 rfl rfl ⟨⟨⟨1, rfl, Or.inr rfl, fun _ => by first | trivial | lia | grind, fun q => absurd q (by decide)⟩, hu, f0⟩, ee_i (by subst ex3; exact (if_neg c4).trans (rfl))⟩
def l_X2_tryReaching_1_39 (g : Int32) (m : Int32) (n : Int32) : Nat → Int32 → uk_Mem → Int32 × uk_Mem
  | 0, _, u6 => (0, u6)
  | K9 + 1, i5, u6 => let x7 : Int32 := u6.1 13 0; let x9 : Int32 := (10 : Int32) + x7; if x9 ≤ i5 then (((0 : Int32), u6)) else (let x14 : Int32 := (e_X0_isAble u6 13 i5); if x14 = 0 then (l_X2_tryReaching_1_39 g m n K9 (i5 + 1) u6) else (let u19 : uk_Mem := uk_up u6 47 g.toNatClampNeg i5; let u21 : uk_Mem := e_X0_perform u19 13 i5; let x23 : Int32 := g + (1 : Int32); let x27 : Int32 := (e_X2_tryReaching_0 u21 m n x23).1; let u25 : uk_Mem := (e_X2_tryReaching_0 u21 m n x23).2; let u29 : uk_Mem := e_X0_undo u25 13 i5; if x27 = 0 then (l_X2_tryReaching_1_39 g m n K9 (i5 + 1) u29) else (((1 : Int32), u29))))
def l_X2_tryReaching_1_39_1 (m : Int32) (g : Int32) (n : Int32) : Nat → Int32 → uk_Mem → Int32 × uk_Mem
  | 0, _, u34 => (0, u34)
  | K9 + 1, i33, u34 => let x35 : Int32 := u34.1 13 0; let x37 : Int32 := (10 : Int32) + x35; if x37 ≤ i33 then (((0 : Int32), u34)) else (let x42 : Int32 := (e_X0_isAble u34 13 i33); if x42 = 0 then (l_X2_tryReaching_1_39_1 m g n K9 (i33 + 1) u34) else (let x48 : Int32 := (e_X0_brings u34 13 i33 m); if x48 = 0 then (l_X2_tryReaching_1_39_1 m g n K9 (i33 + 1) u34) else (let u52 : uk_Mem := uk_up u34 47 g.toNatClampNeg i33; let u54 : uk_Mem := e_X0_perform u52 13 i33; let x56 : Int32 := g + (1 : Int32); let x60 : Int32 := (e_X2_tryReaching_0 u54 m n x56).1; let u58 : uk_Mem := (e_X2_tryReaching_0 u54 m n x56).2; let u62 : uk_Mem := e_X0_undo u58 13 i33; if x60 = 0 then (l_X2_tryReaching_1_39_1 m g n K9 (i33 + 1) u62) else (((1 : Int32), u62)))))
def e_X2_tryReaching_1 (u : uk_Mem) (m : Int32) (n : Int32) (g : Int32) : Int32 × uk_Mem := if g < n then (let x2 : Int32 := g + (1 : Int32); if x2 = n then (l_X2_tryReaching_1_39_1 m g n ee_K (0 : Int32) u) else (l_X2_tryReaching_1_39 g m n ee_K (0 : Int32) u)) else (let x66 : Int32 := u.1 19 m.toNatClampNeg; if x66 ≤ 0 then (((0 : Int32), u)) else (((1 : Int32), u)))
abbrev qe_X2_tryReaching_1 (u : uk_Mem) (m : Int32) (n : Int32) (g : Int32) (r : Option Value) (u' : uk_Mem) : Prop := (q_X2_tryReaching_1 u m n g r u') ∧ (r = some (.int (e_X2_tryReaching_1 u m n g).1) ∧ u' = (e_X2_tryReaching_1 u m n g).2)
set_option maxHeartbeats 4000000 in
set_option maxRecDepth 20000 in
theorem x_X2_tryReaching_1 {G : uk_D} (hs : uk_Sep G) {u : uk_Mem} (hu : iv u) (m : Int32) (n : Int32) (g : Int32) (p0 : 0 ≤ m) (p1 : m ≤ 7) (p2 : 0 ≤ g) (p3 : g ≤ 4) (p4 : n ≤ 4) (p5 : g + 1 = n) (d : Nat) : uk_Meth G (d + 4) mX2_tryReaching [.ref (uk_ad G 46), .ref (uk_ad G 13), .int m, .int n, .int g] u (qe_X2_tryReaching_1 u m n g) := by
  refine uk_Meth.of hs (by decide) (Nat.le_of_ble_eq_true rfl) (fun X => ?_)
  have f0 : fr 13 49 u u := fr_rf
  refine g_iload dX2_tryReaching_0 rfl ?_
  refine g_iload_n dX2_tryReaching_2 rfl ?_
  refine g_icmp_lt (tgt := 21) dX2_tryReaching_3 (by decide) (fun c1 => ?_) (fun c1 => ?_)
  · refine g_iload dX2_tryReaching_21 rfl ?_
    refine g_iconst (v := 1) dX2_tryReaching_23 (by decide) ?_
    refine g_iadd dX2_tryReaching_24 ?_
    refine g_topi (fun x2 ex2 => ?_)
    refine g_iload_n dX2_tryReaching_25 rfl ?_
    refine g_icmp_ne (tgt := 33) dX2_tryReaching_26 (by decide) (fun c3 => ?_) (fun c3 => ?_)
    · refine g_iconst (v := 0) dX2_tryReaching_33 (by decide) ?_
      refine g_istore dX2_tryReaching_34 (by decide) ?_
      refine g_pick (lv' := [(0, .ref (uk_ad G 46)), (1, .ref (uk_ad G 13)), (2, .int m), (3, .int n), (4, .int g), (5, .int 0)]) [0, 1, 2, 3, 4, 5] rfl ?_
      refine g_iconst (v := 0) dX2_tryReaching_36 (by decide) ?_
      refine g_istore dX2_tryReaching_37 (by decide) ?_
      refine g_pick (lv' := [(0, .ref (uk_ad G 46)), (1, .ref (uk_ad G 13)), (2, .int m), (3, .int n), (4, .int g), (5, .int 0), (6, .int 0)]) [0, 1, 2, 3, 4, 5, 6] rfl ?_
      have L39_3 : ∀ i5 : Int32, 0 ≤ i5 → i5 ≤ 18 → ∀ (u6 : uk_Mem), iv u6 → fr 13 49 u u6 → (∃ ki5 : Nat, ee_F 18 i5 ki5 ∧ e_X2_tryReaching_1 u m n g = l_X2_tryReaching_1_39 g m n ki5 i5 u6) → uk_G G X mX2_tryReaching (d + 4) (qe_X2_tryReaching_1 u m n g) 39 [(0, .ref (uk_ad G 46)), (1, .ref (uk_ad G 13)), (2, .int m), (3, .int n), (4, .int g), (5, .int 0), (6, .int i5)] [] u6 := by
        refine uk_upl 18 ?_
        intro i5 ai5 bi5 ihi5  u6 hu6 fu6 jEi5
        obtain ⟨ki5, fki5, hki5⟩ := jEi5
        obtain ⟨ki5, rfl⟩ := ee_Fp (by first | assumption | lia | grind) fki5
        refine g_iload dX2_tryReaching_39 rfl ?_
        refine g_bipush (v := 10) dX2_tryReaching_41 (by decide) ?_
        refine g_aload_n dX2_tryReaching_43 rfl ?_
        refine f_X2_44 rfl rfl dX2_tryReaching_44 ?_
        refine g_topi (fun x7 ex7 => ?_)
        have rx7 : 0 ≤ x7 ∧ x7 ≤ 8 := by rw [ex7]; exact iv_at hu6 _ _ rfl
        have s8 : u6.1 13 0 = x7 := ex7.symm
        refine g_iadd dX2_tryReaching_47 ?_
        refine g_topi (fun x9 ex9 => ?_)
        refine g_icmp_ge (tgt := 125) dX2_tryReaching_48 (by decide) (fun c10 => ?_) (fun c10 => ?_)
        · refine g_iconst (v := 0) dX2_tryReaching_125 (by decide) ?_
          exact g_iret (ty := .boolean) dX2_tryReaching_126 rfl rfl ⟨⟨⟨0, rfl, Or.inl rfl, fun q => absurd rfl q, fun _ => by first | trivial | lia | grind⟩, hu6, fu6⟩, ee_i (by subst ex9; subst ex7; exact hki5.trans ((if_pos c10).trans (rfl)))⟩
        · refine g_aload_n dX2_tryReaching_51 rfl ?_
          refine g_iload dX2_tryReaching_52 rfl ?_
          refine cl_X2_45 (c := 13) (As := [.int i5]) rfl (x_X0_isAble (G := G) hs hu6 uk_isK13 i5  (d + 1)) rfl (by omega) rfl rfl (Nat.le_of_ble_eq_true rfl) dX2_tryReaching_54 (fun r11 u12 q13 => ?_)
          obtain ⟨q13, Eq13⟩ := q13
          obtain ⟨⟨x14, rfl, tx14, nx14, zx14⟩, mq13⟩ := q13
          rw [mq13]
          have ex14 : x14 = (e_X0_isAble u6 13 i5) := ee_v Eq13
          refine g_if_eq (tgt := 119) dX2_tryReaching_57 (by decide) (fun c15 => ?_) (fun c15 => ?_)
          · have zc15 := zx14 c15
            refine g_iinc (v := i5 + 1) dX2_tryReaching_119 rfl rfl (by decide) ?_
            refine g_pick (lv' := [(0, .ref (uk_ad G 46)), (1, .ref (uk_ad G 13)), (2, .int m), (3, .int n), (4, .int g), (5, .int 0), (6, .int (i5 + 1))]) [0, 1, 2, 3, 4, 5, 6] rfl ?_
            refine g_goto (tgt := 39) dX2_tryReaching_122 (by decide) ?_
            refine g_pick (lv' := [(0, .ref (uk_ad G 46)), (1, .ref (uk_ad G 13)), (2, .int m), (3, .int n), (4, .int g), (5, .int 0), (6, .int (i5 + 1))]) [0, 1, 2, 3, 4, 5, 6] rfl ?_
            exact ihi5 (by first | lia | grind)  u6 hu6 fu6  ⟨ki5, ee_Fs fki5 (by first | assumption | lia | grind), by subst ex14; subst ex9; subst ex7; exact hki5.trans ((if_neg c10).trans ((if_pos c15).trans (rfl)))⟩
          · have zc15 := nx14 c15
            refine g_iload dX2_tryReaching_60 rfl ?_
            refine g_if_eq (tgt := 78) dX2_tryReaching_62 (by decide) (fun c16 => ?_) (fun c16 => ?_)
            · refine g_aload_n dX2_tryReaching_78 rfl ?_
              refine f_X2_9 rfl rfl dX2_tryReaching_79 ?_
              refine g_iload dX2_tryReaching_82 rfl ?_
              refine g_iload dX2_tryReaching_84 rfl ?_
              have v17 : vp_in g 4 := uk_vin 4 rfl (by first | decide | lia | grind) (by first | decide | lia | grind)
              have b18 := uk_cl v17
              refine g_iast rfl rfl v17 dX2_tryReaching_86 ?_
              refine g_mem (fun u19 eu19 => ?_)
              have hu19 : iv u19 := by rw [eu19]; exact iv_upF hu6 (uk_pick1 _ (by omega))
              have fu19 : fr 13 49 u u19 := by rw [eu19]; exact fr_up fu6 (by omega) (by omega)
              refine g_aload_n dX2_tryReaching_87 rfl ?_
              refine g_iload dX2_tryReaching_88 rfl ?_
              refine cl_X2_53 (c := 13) (As := [.int i5]) rfl (x_X0_perform (G := G) hs hu19 uk_isK13 i5 (by first | trivial | decide | lia | grind) (d + 1)) rfl (by omega) rfl rfl (Nat.le_of_ble_eq_true rfl) dX2_tryReaching_90 (fun r20 u21 q22 => ?_)
              obtain ⟨q22, Eq22⟩ := q22
              obtain ⟨rfl, mq22⟩ := q22
              obtain ⟨hu21, gu21⟩ := mq22
              have fu21 : fr 13 49 u u21 := fr_tr fu19 gu21 (by omega) (by omega)
              have eu21 : u21 = e_X0_perform u19 13 i5 := Eq22
              refine g_aload_n dX2_tryReaching_93 rfl ?_
              refine g_aload_n dX2_tryReaching_94 rfl ?_
              refine g_iload_n dX2_tryReaching_95 rfl ?_
              refine g_iload_n dX2_tryReaching_96 rfl ?_
              refine g_iload dX2_tryReaching_97 rfl ?_
              refine g_iconst (v := 1) dX2_tryReaching_99 (by decide) ?_
              refine g_iadd dX2_tryReaching_100 ?_
              refine g_topi (fun x23 ex23 => ?_)
              refine cl_X2_60 (c := 46) (As := [.ref (uk_ad G 13), .int m, .int n, .int x23]) rfl (x_X2_tryReaching_0 (G := G) hs hu21  m n x23 (by first | trivial | decide | lia | grind) (by first | trivial | decide | lia | grind) (by first | trivial | decide | lia | grind) (by first | trivial | decide | lia | grind) (by first | trivial | decide | lia | grind) (by first | trivial | decide | lia | grind) (d)) rfl (by omega) rfl rfl (Nat.le_of_ble_eq_true rfl) dX2_tryReaching_101 (fun r24 u25 q26 => ?_)
              obtain ⟨q26, Eq26⟩ := q26
              obtain ⟨⟨x27, rfl, tx27, nx27, zx27⟩, mq26⟩ := q26
              obtain ⟨hu25, gu25⟩ := mq26
              have fu25 : fr 13 49 u u25 := fr_tr fu21 gu25 (by omega) (by omega)
              have ex27 : x27 = (e_X2_tryReaching_0 u21 m n x23).1 := ee_v Eq26.1
              have eu25 : u25 = (e_X2_tryReaching_0 u21 m n x23).2 := Eq26.2
              refine g_istore dX2_tryReaching_104 (by decide) ?_
              refine g_pick (lv' := [(0, .ref (uk_ad G 46)), (1, .ref (uk_ad G 13)), (2, .int m), (3, .int n), (4, .int g), (5, .int 0), (6, .int i5), (7, .int x27)]) [0, 1, 2, 3, 4, 5, 6, 7] rfl ?_
              refine g_aload_n dX2_tryReaching_106 rfl ?_
              refine g_iload dX2_tryReaching_107 rfl ?_
              refine cl_X2_57 (c := 13) (As := [.int i5]) rfl (x_X0_undo (G := G) hs hu25 uk_isK13 i5 (by first | trivial | decide | lia | grind) (d + 1)) rfl (by omega) rfl rfl (Nat.le_of_ble_eq_true rfl) dX2_tryReaching_109 (fun r28 u29 q30 => ?_)
              obtain ⟨q30, Eq30⟩ := q30
              obtain ⟨rfl, mq30⟩ := q30
              obtain ⟨hu29, gu29⟩ := mq30
              have fu29 : fr 13 49 u u29 := fr_tr fu25 gu29 (by omega) (by omega)
              have eu29 : u29 = e_X0_undo u25 13 i5 := Eq30
              refine g_iload dX2_tryReaching_112 rfl ?_
              refine g_if_eq (tgt := 119) dX2_tryReaching_114 (by decide) (fun c31 => ?_) (fun c31 => ?_)
              · have zc31 := zx27 c31
                refine g_iinc (v := i5 + 1) dX2_tryReaching_119 rfl rfl (by decide) ?_
                refine g_pick (lv' := [(0, .ref (uk_ad G 46)), (1, .ref (uk_ad G 13)), (2, .int m), (3, .int n), (4, .int g), (5, .int 0), (6, .int (i5 + 1)), (7, .int x27)]) [0, 1, 2, 3, 4, 5, 6, 7] rfl ?_
                refine g_goto (tgt := 39) dX2_tryReaching_122 (by decide) ?_
                refine g_pick (lv' := [(0, .ref (uk_ad G 46)), (1, .ref (uk_ad G 13)), (2, .int m), (3, .int n), (4, .int g), (5, .int 0), (6, .int (i5 + 1))]) [0, 1, 2, 3, 4, 5, 6] rfl ?_
                exact ihi5 (by first | lia | grind)  u29 hu29 fu29  ⟨ki5, ee_Fs fki5 (by first | assumption | lia | grind), by subst eu29; subst eu25; subst ex27; subst ex23; subst eu21; subst eu19; subst ex14; subst ex9; subst ex7; exact hki5.trans ((if_neg c10).trans ((if_neg c15).trans ((if_pos c31).trans (rfl))))⟩
              · have zc31 := nx27 c31
                refine g_iconst (v := 1) dX2_tryReaching_117 (by decide) ?_
                exact g_iret (ty := .boolean) dX2_tryReaching_118 rfl rfl ⟨⟨⟨1, rfl, Or.inr rfl, fun _ => by first | trivial | lia | grind, fun q => absurd q (by decide)⟩, hu29, fu29⟩, ee_i (by subst eu29; subst eu25; subst ex27; subst ex23; subst eu21; subst eu19; subst ex14; subst ex9; subst ex7; exact hki5.trans ((if_neg c10).trans ((if_neg c15).trans ((if_neg c31).trans (rfl)))))⟩
            · exact absurd c16 (by decide)
      refine g_pick (lv' := [(0, .ref (uk_ad G 46)), (1, .ref (uk_ad G 13)), (2, .int m), (3, .int n), (4, .int g), (5, .int 0), (6, .int 0)]) [0, 1, 2, 3, 4, 5, 6] rfl ?_
      exact L39_3 0 (by first | decide | lia | grind) (by first | decide | lia | grind)  u hu f0  ⟨ee_K, ee_F0 _ _, by subst ex2; exact (if_pos c1).trans ((if_neg c3).trans (rfl))⟩
    · refine g_iconst (v := 1) dX2_tryReaching_29 (by decide) ?_
      refine g_goto (tgt := 34) dX2_tryReaching_30 (by decide) ?_
      refine g_istore dX2_tryReaching_34 (by decide) ?_
      refine g_pick (lv' := [(0, .ref (uk_ad G 46)), (1, .ref (uk_ad G 13)), (2, .int m), (3, .int n), (4, .int g), (5, .int 1)]) [0, 1, 2, 3, 4, 5] rfl ?_
      refine g_iconst (v := 0) dX2_tryReaching_36 (by decide) ?_
      refine g_istore dX2_tryReaching_37 (by decide) ?_
      refine g_pick (lv' := [(0, .ref (uk_ad G 46)), (1, .ref (uk_ad G 13)), (2, .int m), (3, .int n), (4, .int g), (5, .int 1), (6, .int 0)]) [0, 1, 2, 3, 4, 5, 6] rfl ?_
      have L39_31 : ∀ i33 : Int32, 0 ≤ i33 → i33 ≤ 18 → ∀ (u34 : uk_Mem), iv u34 → fr 13 49 u u34 → (∃ ki33 : Nat, ee_F 18 i33 ki33 ∧ e_X2_tryReaching_1 u m n g = l_X2_tryReaching_1_39_1 m g n ki33 i33 u34) → uk_G G X mX2_tryReaching (d + 4) (qe_X2_tryReaching_1 u m n g) 39 [(0, .ref (uk_ad G 46)), (1, .ref (uk_ad G 13)), (2, .int m), (3, .int n), (4, .int g), (5, .int 1), (6, .int i33)] [] u34 := by
        refine uk_upl 18 ?_
        intro i33 ai33 bi33 ihi33  u34 hu34 fu34 jEi33
        obtain ⟨ki33, fki33, hki33⟩ := jEi33
        obtain ⟨ki33, rfl⟩ := ee_Fp (by first | assumption | lia | grind) fki33
        refine g_iload dX2_tryReaching_39 rfl ?_
        refine g_bipush (v := 10) dX2_tryReaching_41 (by decide) ?_
        refine g_aload_n dX2_tryReaching_43 rfl ?_
        refine f_X2_44 rfl rfl dX2_tryReaching_44 ?_
        refine g_topi (fun x35 ex35 => ?_)
        have rx35 : 0 ≤ x35 ∧ x35 ≤ 8 := by rw [ex35]; exact iv_at hu34 _ _ rfl
        have s36 : u34.1 13 0 = x35 := ex35.symm
        refine g_iadd dX2_tryReaching_47 ?_
        refine g_topi (fun x37 ex37 => ?_)
        refine g_icmp_ge (tgt := 125) dX2_tryReaching_48 (by decide) (fun c38 => ?_) (fun c38 => ?_)
        · refine g_iconst (v := 0) dX2_tryReaching_125 (by decide) ?_
          exact g_iret (ty := .boolean) dX2_tryReaching_126 rfl rfl ⟨⟨⟨0, rfl, Or.inl rfl, fun q => absurd rfl q, fun _ => by first | trivial | lia | grind⟩, hu34, fu34⟩, ee_i (by subst ex37; subst ex35; exact hki33.trans ((if_pos c38).trans (rfl)))⟩
        · refine g_aload_n dX2_tryReaching_51 rfl ?_
          refine g_iload dX2_tryReaching_52 rfl ?_
          refine cl_X2_45 (c := 13) (As := [.int i33]) rfl (x_X0_isAble (G := G) hs hu34 uk_isK13 i33  (d + 1)) rfl (by omega) rfl rfl (Nat.le_of_ble_eq_true rfl) dX2_tryReaching_54 (fun r39 u40 q41 => ?_)
          obtain ⟨q41, Eq41⟩ := q41
          obtain ⟨⟨x42, rfl, tx42, nx42, zx42⟩, mq41⟩ := q41
          rw [mq41]
          have ex42 : x42 = (e_X0_isAble u34 13 i33) := ee_v Eq41
          refine g_if_eq (tgt := 119) dX2_tryReaching_57 (by decide) (fun c43 => ?_) (fun c43 => ?_)
          · have zc43 := zx42 c43
            refine g_iinc (v := i33 + 1) dX2_tryReaching_119 rfl rfl (by decide) ?_
            refine g_pick (lv' := [(0, .ref (uk_ad G 46)), (1, .ref (uk_ad G 13)), (2, .int m), (3, .int n), (4, .int g), (5, .int 1), (6, .int (i33 + 1))]) [0, 1, 2, 3, 4, 5, 6] rfl ?_
            refine g_goto (tgt := 39) dX2_tryReaching_122 (by decide) ?_
            refine g_pick (lv' := [(0, .ref (uk_ad G 46)), (1, .ref (uk_ad G 13)), (2, .int m), (3, .int n), (4, .int g), (5, .int 1), (6, .int (i33 + 1))]) [0, 1, 2, 3, 4, 5, 6] rfl ?_
            exact ihi33 (by first | lia | grind)  u34 hu34 fu34  ⟨ki33, ee_Fs fki33 (by first | assumption | lia | grind), by subst ex42; subst ex37; subst ex35; exact hki33.trans ((if_neg c38).trans ((if_pos c43).trans (rfl)))⟩
          · have zc43 := nx42 c43
            refine g_iload dX2_tryReaching_60 rfl ?_
            refine g_if_eq (tgt := 78) dX2_tryReaching_62 (by decide) (fun c44 => ?_) (fun c44 => ?_)
            · exact absurd c44 (by decide)
            · refine g_aload_n dX2_tryReaching_65 rfl ?_
              refine g_iload dX2_tryReaching_66 rfl ?_
              refine g_iload_n dX2_tryReaching_68 rfl ?_
              refine cl_X2_67 (c := 13) (As := [.int i33, .int m]) rfl (x_X0_brings (G := G) hs hu34 uk_isK13 i33 m (by first | trivial | decide | lia | grind) (d + 2)) rfl (by omega) rfl rfl (Nat.le_of_ble_eq_true rfl) dX2_tryReaching_69 (fun r45 u46 q47 => ?_)
              obtain ⟨q47, Eq47⟩ := q47
              obtain ⟨⟨x48, rfl, tx48, nx48, zx48⟩, mq47⟩ := q47
              rw [mq47]
              have ex48 : x48 = (e_X0_brings u34 13 i33 m) := ee_v Eq47
              refine g_if_ne (tgt := 78) dX2_tryReaching_72 (by decide) (fun c49 => ?_) (fun c49 => ?_)
              · have zc49 := nx48 c49
                refine g_aload_n dX2_tryReaching_78 rfl ?_
                refine f_X2_9 rfl rfl dX2_tryReaching_79 ?_
                refine g_iload dX2_tryReaching_82 rfl ?_
                refine g_iload dX2_tryReaching_84 rfl ?_
                have v50 : vp_in g 4 := uk_vin 4 rfl (by first | decide | lia | grind) (by first | decide | lia | grind)
                have b51 := uk_cl v50
                refine g_iast rfl rfl v50 dX2_tryReaching_86 ?_
                refine g_mem (fun u52 eu52 => ?_)
                have hu52 : iv u52 := by rw [eu52]; exact iv_upF hu34 (uk_pick1 _ (by omega))
                have fu52 : fr 13 49 u u52 := by rw [eu52]; exact fr_up fu34 (by omega) (by omega)
                refine g_aload_n dX2_tryReaching_87 rfl ?_
                refine g_iload dX2_tryReaching_88 rfl ?_
                refine cl_X2_53 (c := 13) (As := [.int i33]) rfl (x_X0_perform (G := G) hs hu52 uk_isK13 i33 (by first | trivial | decide | lia | grind) (d + 1)) rfl (by omega) rfl rfl (Nat.le_of_ble_eq_true rfl) dX2_tryReaching_90 (fun r53 u54 q55 => ?_)
                obtain ⟨q55, Eq55⟩ := q55
                obtain ⟨rfl, mq55⟩ := q55
                obtain ⟨hu54, gu54⟩ := mq55
                have fu54 : fr 13 49 u u54 := fr_tr fu52 gu54 (by omega) (by omega)
                have eu54 : u54 = e_X0_perform u52 13 i33 := Eq55
                refine g_aload_n dX2_tryReaching_93 rfl ?_
                refine g_aload_n dX2_tryReaching_94 rfl ?_
                refine g_iload_n dX2_tryReaching_95 rfl ?_
                refine g_iload_n dX2_tryReaching_96 rfl ?_
                refine g_iload dX2_tryReaching_97 rfl ?_
                refine g_iconst (v := 1) dX2_tryReaching_99 (by decide) ?_
                refine g_iadd dX2_tryReaching_100 ?_
                refine g_topi (fun x56 ex56 => ?_)
                refine cl_X2_60 (c := 46) (As := [.ref (uk_ad G 13), .int m, .int n, .int x56]) rfl (x_X2_tryReaching_0 (G := G) hs hu54  m n x56 (by first | trivial | decide | lia | grind) (by first | trivial | decide | lia | grind) (by first | trivial | decide | lia | grind) (by first | trivial | decide | lia | grind) (by first | trivial | decide | lia | grind) (by first | trivial | decide | lia | grind) (d)) rfl (by omega) rfl rfl (Nat.le_of_ble_eq_true rfl) dX2_tryReaching_101 (fun r57 u58 q59 => ?_)
                obtain ⟨q59, Eq59⟩ := q59
                obtain ⟨⟨x60, rfl, tx60, nx60, zx60⟩, mq59⟩ := q59
                obtain ⟨hu58, gu58⟩ := mq59
                have fu58 : fr 13 49 u u58 := fr_tr fu54 gu58 (by omega) (by omega)
                have ex60 : x60 = (e_X2_tryReaching_0 u54 m n x56).1 := ee_v Eq59.1
                have eu58 : u58 = (e_X2_tryReaching_0 u54 m n x56).2 := Eq59.2
                refine g_istore dX2_tryReaching_104 (by decide) ?_
                refine g_pick (lv' := [(0, .ref (uk_ad G 46)), (1, .ref (uk_ad G 13)), (2, .int m), (3, .int n), (4, .int g), (5, .int 1), (6, .int i33), (7, .int x60)]) [0, 1, 2, 3, 4, 5, 6, 7] rfl ?_
                refine g_aload_n dX2_tryReaching_106 rfl ?_
                refine g_iload dX2_tryReaching_107 rfl ?_
                refine cl_X2_57 (c := 13) (As := [.int i33]) rfl (x_X0_undo (G := G) hs hu58 uk_isK13 i33 (by first | trivial | decide | lia | grind) (d + 1)) rfl (by omega) rfl rfl (Nat.le_of_ble_eq_true rfl) dX2_tryReaching_109 (fun r61 u62 q63 => ?_)
                obtain ⟨q63, Eq63⟩ := q63
                obtain ⟨rfl, mq63⟩ := q63
                obtain ⟨hu62, gu62⟩ := mq63
                have fu62 : fr 13 49 u u62 := fr_tr fu58 gu62 (by omega) (by omega)
                have eu62 : u62 = e_X0_undo u58 13 i33 := Eq63
                refine g_iload dX2_tryReaching_112 rfl ?_
                refine g_if_eq (tgt := 119) dX2_tryReaching_114 (by decide) (fun c64 => ?_) (fun c64 => ?_)
                · have zc64 := zx60 c64
                  refine g_iinc (v := i33 + 1) dX2_tryReaching_119 rfl rfl (by decide) ?_
                  refine g_pick (lv' := [(0, .ref (uk_ad G 46)), (1, .ref (uk_ad G 13)), (2, .int m), (3, .int n), (4, .int g), (5, .int 1), (6, .int (i33 + 1)), (7, .int x60)]) [0, 1, 2, 3, 4, 5, 6, 7] rfl ?_
                  refine g_goto (tgt := 39) dX2_tryReaching_122 (by decide) ?_
                  refine g_pick (lv' := [(0, .ref (uk_ad G 46)), (1, .ref (uk_ad G 13)), (2, .int m), (3, .int n), (4, .int g), (5, .int 1), (6, .int (i33 + 1))]) [0, 1, 2, 3, 4, 5, 6] rfl ?_
                  exact ihi33 (by first | lia | grind)  u62 hu62 fu62  ⟨ki33, ee_Fs fki33 (by first | assumption | lia | grind), by subst eu62; subst eu58; subst ex60; subst ex56; subst eu54; subst eu52; subst ex48; subst ex42; subst ex37; subst ex35; exact hki33.trans ((if_neg c38).trans ((if_neg c43).trans ((if_neg c49).trans ((if_pos c64).trans (rfl)))))⟩
                · have zc64 := nx60 c64
                  refine g_iconst (v := 1) dX2_tryReaching_117 (by decide) ?_
                  exact g_iret (ty := .boolean) dX2_tryReaching_118 rfl rfl ⟨⟨⟨1, rfl, Or.inr rfl, fun _ => by first | trivial | lia | grind, fun q => absurd q (by decide)⟩, hu62, fu62⟩, ee_i (by subst eu62; subst eu58; subst ex60; subst ex56; subst eu54; subst eu52; subst ex48; subst ex42; subst ex37; subst ex35; exact hki33.trans ((if_neg c38).trans ((if_neg c43).trans ((if_neg c49).trans ((if_neg c64).trans (rfl))))))⟩
              · have zc49 := zx48 c49
                refine g_goto (tgt := 119) dX2_tryReaching_75 (by decide) ?_
                refine g_iinc (v := i33 + 1) dX2_tryReaching_119 rfl rfl (by decide) ?_
                refine g_pick (lv' := [(0, .ref (uk_ad G 46)), (1, .ref (uk_ad G 13)), (2, .int m), (3, .int n), (4, .int g), (5, .int 1), (6, .int (i33 + 1))]) [0, 1, 2, 3, 4, 5, 6] rfl ?_
                refine g_goto (tgt := 39) dX2_tryReaching_122 (by decide) ?_
                refine g_pick (lv' := [(0, .ref (uk_ad G 46)), (1, .ref (uk_ad G 13)), (2, .int m), (3, .int n), (4, .int g), (5, .int 1), (6, .int (i33 + 1))]) [0, 1, 2, 3, 4, 5, 6] rfl ?_
                exact ihi33 (by first | lia | grind)  u34 hu34 fu34  ⟨ki33, ee_Fs fki33 (by first | assumption | lia | grind), by subst ex48; subst ex42; subst ex37; subst ex35; exact hki33.trans ((if_neg c38).trans ((if_neg c43).trans ((if_pos c49).trans (rfl))))⟩
      refine g_pick (lv' := [(0, .ref (uk_ad G 46)), (1, .ref (uk_ad G 13)), (2, .int m), (3, .int n), (4, .int g), (5, .int 1), (6, .int 0)]) [0, 1, 2, 3, 4, 5, 6] rfl ?_
      exact L39_31 0 (by first | decide | lia | grind) (by first | decide | lia | grind)  u hu f0  ⟨ee_K, ee_F0 _ _, by subst ex2; exact (if_pos c1).trans ((if_pos c3).trans (rfl))⟩
  · refine g_aload_n dX2_tryReaching_6 rfl ?_
    refine f_X2_64 rfl rfl dX2_tryReaching_7 ?_
    refine g_iload_n dX2_tryReaching_10 rfl ?_
    have v65 : vp_in m 8 := uk_vin 8 rfl (by first | decide | lia | grind) (by first | decide | lia | grind)
    refine g_iald rfl rfl v65 dX2_tryReaching_11 ?_
    refine g_topi (fun x66 ex66 => ?_)
    refine g_if_le (tgt := 19) dX2_tryReaching_12 (by decide) (fun c67 => ?_) (fun c67 => ?_)
    · refine g_iconst (v := 0) dX2_tryReaching_19 (by decide) ?_
      exact g_iret (ty := .boolean) dX2_tryReaching_20 rfl rfl ⟨⟨⟨0, rfl, Or.inl rfl, fun q => absurd rfl q, fun _ => by first | trivial | lia | grind⟩, hu, f0⟩, ee_i (by subst ex66; exact (if_neg c1).trans ((if_pos c67).trans (rfl)))⟩
    · refine g_iconst (v := 1) dX2_tryReaching_15 (by decide) ?_
      refine g_goto (tgt := 20) dX2_tryReaching_16 (by decide) ?_
      exact g_iret (ty := .boolean) dX2_tryReaching_20 rfl rfl ⟨⟨⟨1, rfl, Or.inr rfl, fun _ => by first | trivial | lia | grind, fun q => absurd q (by decide)⟩, hu, f0⟩, ee_i (by subst ex66; exact (if_neg c1).trans ((if_neg c67).trans (rfl)))⟩
