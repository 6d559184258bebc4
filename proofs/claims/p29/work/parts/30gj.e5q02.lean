def l_X2_tryReaching_2_39 (g : Int32) (m : Int32) (n : Int32) : Nat → Int32 → uk_Mem → Int32 × uk_Mem
  | 0, _, u6 => (0, u6)
  | K9 + 1, i5, u6 => let x7 : Int32 := u6.1 13 0; let x9 : Int32 := (10 : Int32) + x7; if x9 ≤ i5 then (((0 : Int32), u6)) else (let x14 : Int32 := (e_X0_isAble u6 13 i5); if x14 = 0 then (l_X2_tryReaching_2_39 g m n K9 (i5 + 1) u6) else (let u19 : uk_Mem := uk_up u6 47 g.toNatClampNeg i5; let u21 : uk_Mem := e_X0_perform u19 13 i5; let x23 : Int32 := g + (1 : Int32); let x27 : Int32 := (e_X2_tryReaching_1 u21 m n x23).1; let u25 : uk_Mem := (e_X2_tryReaching_1 u21 m n x23).2; let u29 : uk_Mem := e_X0_undo u25 13 i5; if x27 = 0 then (l_X2_tryReaching_2_39 g m n K9 (i5 + 1) u29) else (((1 : Int32), u29))))
def l_X2_tryReaching_2_39_1 (m : Int32) (g : Int32) (n : Int32) : Nat → Int32 → uk_Mem → Int32 × uk_Mem
  | 0, _, u34 => (0, u34)
  | K9 + 1, i33, u34 => let x35 : Int32 := u34.1 13 0; let x37 : Int32 := (10 : Int32) + x35; if x37 ≤ i33 then (((0 : Int32), u34)) else (let x42 : Int32 := (e_X0_isAble u34 13 i33); if x42 = 0 then (l_X2_tryReaching_2_39_1 m g n K9 (i33 + 1) u34) else (let x48 : Int32 := (e_X0_brings u34 13 i33 m); if x48 = 0 then (l_X2_tryReaching_2_39_1 m g n K9 (i33 + 1) u34) else (let u52 : uk_Mem := uk_up u34 47 g.toNatClampNeg i33; let u54 : uk_Mem := e_X0_perform u52 13 i33; let x56 : Int32 := g + (1 : Int32); let x60 : Int32 := (e_X2_tryReaching_1 u54 m n x56).1; let u58 : uk_Mem := (e_X2_tryReaching_1 u54 m n x56).2; let u62 : uk_Mem := e_X0_undo u58 13 i33; if x60 = 0 then (l_X2_tryReaching_2_39_1 m g n K9 (i33 + 1) u62) else (((1 : Int32), u62)))))
def e_X2_tryReaching_2 (u : uk_Mem) (m : Int32) (n : Int32) (g : Int32) : Int32 × uk_Mem := if g < n then (let x2 : Int32 := g + (1 : Int32); if x2 = n then (l_X2_tryReaching_2_39_1 m g n ee_K (0 : Int32) u) else (l_X2_tryReaching_2_39 g m n ee_K (0 : Int32) u)) else (let x66 : Int32 := u.1 19 m.toNatClampNeg; if x66 ≤ 0 then (((0 : Int32), u)) else (((1 : Int32), u)))
abbrev qe_X2_tryReaching_2 (u : uk_Mem) (m : Int32) (n : Int32) (g : Int32) (r : Option Value) (u' : uk_Mem) : Prop := (q_X2_tryReaching_2 u m n g r u') ∧ (r = some (.int (e_X2_tryReaching_2 u m n g).1) ∧ u' = (e_X2_tryReaching_2 u m n g).2)
set_option maxHeartbeats 4000000 in
set_option maxRecDepth 20000 in
theorem x_X2_tryReaching_2 {G : uk_D} (hs : uk_Sep G) {u : uk_Mem} (hu : iv u) (m : Int32) (n : Int32) (g : Int32) (p0 : 0 ≤ m) (p1 : m ≤ 7) (p2 : 0 ≤ g) (p3 : g ≤ 4) (p4 : n ≤ 4) (p5 : g + 2 = n) (d : Nat) : uk_Meth G (d + 5) mX2_tryReaching [.ref (uk_ad G 46), .ref (uk_ad G 13), .int m, .int n, .int g] u (qe_X2_tryReaching_2 u m n g) := by
  refine uk_Meth.of hs (by decide) (Nat.le_of_ble_eq_true rfl) (fun X => ?_)
  have f0 : fr 13 49 u u := fr_rf
  refine g_iload dX2_tryReaching_0 rfl ?_
  refine g_iload_n dX2_tryReaching_2 rfl ?_
  refine g_icmp_lt (tgt := 21) dX2_tryReaching_3 (by decide) (fun c1 => ?_) (fun c1 => ?_)
  · refine g_iload dX2_tryReaching_21 rfl ?_
    refine g_iconst (v := 1) dX2_tryReaching_23 (by decide) ?_
    refine g_iadd dX2_tryReaching_24 ?_
    refine g_topi (fun x2 ex2 => ?_)
    refine g_iload_n dX2_tryReaching_25 rfl ?_
    refine g_icmp_ne (tgt := 33) dX2_tryReaching_26 (by decide) (fun c3 => ?_) (fun c3 => ?_)
    · refine g_iconst (v := 0) dX2_tryReaching_33 (by decide) ?_
      refine g_istore dX2_tryReaching_34 (by decide) ?_
      refine g_pick (lv' := [(0, .ref (uk_ad G 46)), (1, .ref (uk_ad G 13)), (2, .int m), (3, .int n), (4, .int g), (5, .int 0)]) [0, 1, 2, 3, 4, 5] rfl ?_
      refine g_iconst (v := 0) dX2_tryReaching_36 (by decide) ?_
      refine g_istore dX2_tryReaching_37 (by decide) ?_
      refine g_pick (lv' := [(0, .ref (uk_ad G 46)), (1, .ref (uk_ad G 13)), (2, .int m), (3, .int n), (4, .int g), (5, .int 0), (6, .int 0)]) [0, 1, 2, 3, 4, 5, 6] rfl ?_
      have L39_3 : ∀ i5 : Int32, 0 ≤ i5 → i5 ≤ 18 → ∀ (u6 : uk_Mem), iv u6 → fr 13 49 u u6 → (∃ ki5 : Nat, ee_F 18 i5 ki5 ∧ e_X2_tryReaching_2 u m n g = l_X2_tryReaching_2_39 g m n ki5 i5 u6) → uk_G G X mX2_tryReaching (d + 5) (qe_X2_tryReaching_2 u m n g) 39 [(0, .ref (uk_ad G 46)), (1, .ref (uk_ad G 13)), (2, .int m), (3, .int n), (4, .int g), (5, .int 0), (6, .int i5)] [] u6 := by
        refine uk_upl 18 ?_
        intro i5 ai5 bi5 ihi5  u6 hu6 fu6 jEi5
        obtain ⟨ki5, fki5, hki5⟩ := jEi5
        obtain ⟨ki5, rfl⟩ := ee_Fp (by first | assumption | lia | grind) fki5
        refine g_iload dX2_tryReaching_39 rfl ?_
        refine g_bipush (v := 10) dX2_tryReaching_41 (by decide) ?_
        refine g_aload_n dX2_tryReaching_43 rfl ?_
        refine f_X2_44 rfl rfl dX2_tryReaching_44 ?_
        refine g_topi (fun x7 ex7 => ?_)
        have rx7 : 0 ≤ x7 ∧ x7 ≤ 8 := by rw [ex7]; exact iv_at hu6 _ _ rfl
        have s8 : u6.1 13 0 = x7 := ex7.symm
        refine g_iadd dX2_tryReaching_47 ?_
        refine g_topi (fun x9 ex9 => ?_)
        refine g_icmp_ge (tgt := 125) dX2_tryReaching_48 (by decide) (fun c10 => ?_) (fun c10 => ?_)
        · refine g_iconst (v := 0) dX2_tryReaching_125 (by decide) ?_
          exact g_iret (ty := .boolean) dX2_tryReaching_126 rfl rfl ⟨⟨⟨0, rfl, Or.inl rfl, fun q => absurd rfl q, fun _ => by first | trivial | lia | grind⟩, hu6, fu6⟩, ee_i (by subst ex9; subst ex7; exact hki5.trans ((if_pos c10).trans (rfl)))⟩
        · refine g_aload_n dX2_tryReaching_51 rfl ?_
          refine g_iload dX2_tryReaching_52 rfl ?_
          refine cl_X2_45 (c := 13) (As := [.int i5]) rfl (x_X0_isAble (G := G) hs hu6 uk_isK13 i5  (d + 2)) rfl (by omega) rfl rfl (Nat.le_of_ble_eq_true rfl) dX2_tryReaching_54 (fun r11 u12 q13 => ?_)
          obtain ⟨q13, Eq13⟩ := q13
          obtain ⟨⟨x14, rfl, tx14, nx14, zx14⟩, mq13⟩ := q13
          rw [mq13]
          have ex14 : x14 = (e_X0_isAble u6 13 i5) := ee_v Eq13
          refine g_if_eq (tgt := 119) dX2_tryReaching_57 (by decide) (fun c15 => ?_) (fun c15 => ?_)
          · have zc15 := zx14 c15
            refine g_iinc (v := i5 + 1) dX2_tryReaching_119 rfl rfl (by decide) ?_
            refine g_pick (lv' := [(0, .ref (uk_ad G 46)), (1, .ref (uk_ad G 13)), (2, .int m), (3, .int n), (4, .int g), (5, .int 0), (6, .int (i5 + 1))]) [0, 1, 2, 3, 4, 5, 6] rfl ?_
            refine g_goto (tgt := 39) dX2_tryReaching_122 (by decide) ?_
            refine g_pick (lv' := [(0, .ref (uk_ad G 46)), (1, .ref (uk_ad G 13)), (2, .int m), (3, .int n), (4, .int g), (5, .int 0), (6, .int (i5 + 1))]) [0, 1, 2, 3, 4, 5, 6] rfl ?_
            exact ihi5 (by first | lia | grind)  u6 hu6 fu6  ⟨ki5, ee_Fs fki5 (by first | assumption | lia | grind), by subst ex14; subst ex9; subst ex7; exact hki5.trans ((if_neg c10).trans ((if_pos c15).trans (rfl)))⟩
          · have zc15 := nx14 c15
            refine g_iload dX2_tryReaching_60 rfl ?_
            refine g_if_eq (tgt := 78) dX2_tryReaching_62 (by decide) (fun c16 => ?_) (fun c16 => ?_)
            · refine g_aload_n dX2_tryReaching_78 rfl ?_
              refine f_X2_9 rfl rfl dX2_tryReaching_79 ?_
              refine g_iload dX2_tryReaching_82 rfl ?_
              refine g_iload dX2_tryReaching_84 rfl ?_
              have v17 : vp_in g 4 := uk_vin 4 rfl (by first | decide | lia | grind) (by first | decide | lia | grind)
              have b18 := uk_cl v17
              refine g_iast rfl rfl v17 dX2_tryReaching_86 ?_
              refine g_mem (fun u19 eu19 => ?_)
              have hu19 : iv u19 := by rw [eu19]; exact iv_upF hu6 (uk_pick1 _ (by omega))
              have fu19 : fr 13 49 u u19 := by rw [eu19]; exact fr_up fu6 (by omega) (by omega)
              refine g_aload_n dX2_tryReaching_87 rfl ?_
              refine g_iload dX2_tryReaching_88 rfl ?_
              refine cl_X2_53 (c := 13) (As := [.int i5]) rfl (x_X0_perform (G := G) hs hu19 uk_isK13 i5 (by first | trivial | decide | lia | grind) (d + 2)) rfl (by omega) rfl rfl (Nat.le_of_ble_eq_true rfl) dX2_tryReaching_90 (fun r20 u21 q22 => ?_)
              obtain ⟨q22, Eq22⟩ := q22
              obtain ⟨rfl, mq22⟩ := q22
              obtain ⟨hu21, gu21⟩ := mq22
              have fu21 : fr 13 49 u u21 := fr_tr fu19 gu21 (by omega) (by omega)
              have eu21 : u21 = e_X0_perform u19 13 i5 := Eq22
              refine g_aload_n dX2_tryReaching_93 rfl ?_
              refine g_aload_n dX2_tryReaching_94 rfl ?_
              refine g_iload_n dX2_tryReaching_95 rfl ?_
              refine g_iload_n dX2_tryReaching_96 rfl ?_
              refine g_iload dX2_tryReaching_97 rfl ?_
              refine g_iconst (v := 1) dX2_tryReaching_99 (by decide) ?_
              refine g_iadd dX2_tryReaching_100 ?_
              refine g_topi (fun x23 ex23 => ?_)
              refine cl_X2_60 (c := 46) (As := [.ref (uk_ad G 13), .int m, .int n, .int x23]) rfl (x_X2_tryReaching_1 (G := G) hs hu21  m n x23 (by first | trivial | decide | lia | grind) (by first | trivial | decide | lia | grind) (by first | trivial | decide | lia | grind) (by first | trivial | decide | lia | grind) (by first | trivial | decide | lia | grind) (by first | trivial | decide | lia | grind) (d)) rfl (by omega) rfl rfl (Nat.le_of_ble_eq_true rfl) dX2_tryReaching_101 (fun r24 u25 q26 => ?_)
              obtain ⟨q26, Eq26⟩ := q26
              obtain ⟨⟨x27, rfl, tx27, nx27, zx27⟩, mq26⟩ := q26
              obtain ⟨hu25, gu25⟩ := mq26
              have fu25 : fr 13 49 u u25 := fr_tr fu21 gu25 (by omega) (by omega)
              have ex27 : x27 = (e_X2_tryReaching_1 u21 m n x23).1 := ee_v Eq26.1
              have eu25 : u25 = (e_X2_tryReaching_1 u21 m n x23).2 := Eq26.2
              refine g_istore dX2_tryReaching_104 (by decide) ?_
              refine g_pick (lv' := [(0, .ref (uk_ad G 46)), (1, .ref (uk_ad G 13)), (2, .int m), (3, .int n), (4, .int g), (5, .int 0), (6, .int i5), (7, .int x27)]) [0, 1, 2, 3, 4, 5, 6, 7] rfl ?_
              refine g_aload_n dX2_tryReaching_106 rfl ?_
              refine g_iload dX2_tryReaching_107 rfl ?_
              refine cl_X2_57 (c := 13) (As := [.int i5]) rfl (x_X0_undo (G := G) hs hu25 uk_isK13 i5 (by first | trivial | decide | lia | grind) (d + 2)) rfl (by omega) rfl rfl (Nat.le_of_ble_eq_true rfl) dX2_tryReaching_109 (fun r28 u29 q30 => ?_)
              obtain ⟨q30, Eq30⟩ := q30
              obtain ⟨rfl, mq30⟩ := q30
              obtain ⟨hu29, gu29⟩ := mq30
              have fu29 : fr 13 49 u u29 := fr_tr fu25 gu29 (by omega) (by omega)
              have eu29 : u29 = e_X0_undo u25 13 i5 := Eq30
              refine g_iload dX2_tryReaching_112 rfl ?_
              refine g_if_eq (tgt := 119) dX2_tryReaching_114 (by decide) (fun c31 => ?_) (fun c31 => ?_)
              · have zc31 := zx27 c31
                refine g_iinc (v := i5 + 1) dX2_tryReaching_119 rfl rfl (by decide) ?_
                refine g_pick (lv' := [(0, .ref (uk_ad G 46)), (1, .ref (uk_ad G 13)), (2, .int m), (3, .int n), (4, .int g), (5, .int 0), (6, .int (i5 + 1)), (7, .int x27)]) [0, 1, 2, 3, 4, 5, 6, 7] rfl ?_
                refine g_goto (tgt := 39) dX2_tryReaching_122 (by decide) ?_
                refine g_pick (lv' := [(0, .ref (uk_ad G 46)), (1, .ref (uk_ad G 13)), (2, .int m), (3, .int n), (4, .int g), (5, .int 0), (6, .int (i5 + 1))]) [0, 1, 2, 3, 4, 5, 6] rfl ?_
                exact ihi5 (by first | lia | grind)  u29 hu29 fu29  ⟨ki5, ee_Fs fki5 (by first | assumption | lia | grind), by subst eu29; subst eu25; subst ex27; subst ex23; subst eu21; subst eu19; subst ex14; subst ex9; subst ex7; exact hki5.trans ((if_neg c10).trans ((if_neg c15).trans ((if_pos c31).trans (rfl))))⟩
              · have zc31 := nx27 c31
                refine g_iconst (v := 1) dX2_tryReaching_117 (by decide) ?_
                exact g_iret (ty := .boolean) dX2_tryReaching_118 rfl rfl ⟨⟨⟨1, rfl, Or.inr rfl, fun _ => by first | trivial | lia | grind, fun q => absurd q (by decide)⟩, hu29, fu29⟩, ee_i (by subst eu29; subst eu25; subst ex27; subst ex23; subst eu21; subst eu19; subst ex14; subst ex9; subst ex7; exact hki5.trans ((if_neg c10).trans ((if_neg c15).trans ((if_neg c31).trans (rfl)))))⟩
            · exact absurd c16 (by decide)
      refine g_pick (lv' := [(0, .ref (uk_ad G 46)), (1, .ref (uk_ad G 13)), (2, .int m), (3, .int n), (4, .int g), (5, .int 0), (6, .int 0)]) [0, 1, 2, 3, 4, 5, 6] rfl ?_
      exact L39_3 0 (by first | decide | lia | grind) (by first | decide | lia | grind)  u hu f0  ⟨ee_K, ee_F0 _ _, by subst ex2; exact (if_pos c1).trans ((if_neg c3).trans (rfl))⟩
    · refine g_iconst (v := 1) dX2_tryReaching_29 (by decide) ?_
      refine g_goto (tgt := 34) dX2_tryReaching_30 (by decide) ?_
      refine g_istore dX2_tryReaching_34 (by decide) ?_
      refine g_pick (lv' := [(0, .ref (uk_ad G 46)), (1, .ref (uk_ad G 13)), (2, .int m), (3, .int n), (4, .int g), (5, .int 1)]) [0, 1, 2, 3, 4, 5] rfl ?_
      refine g_iconst (v := 0) dX2_tryReaching_36 (by decide) ?_
      refine g_istore dX2_tryReaching_37 (by decide) ?_
      refine g_pick (lv' := [(0, .ref (uk_ad G 46)), (1, .ref (uk_ad G 13)), (2, .int m), (3, .int n), (4, .int g), (5, .int 1), (6, .int 0)]) [0, 1, 2, 3, 4, 5, 6] rfl ?_
      have L39_31 : ∀ i33 : Int32, 0 ≤ i33 → i33 ≤ 18 → ∀ (u34 : uk_Mem), iv u34 → fr 13 49 u u34 → (∃ ki33 : Nat, ee_F 18 i33 ki33 ∧ e_X2_tryReaching_2 u m n g = l_X2_tryReaching_2_39_1 m g n ki33 i33 u34) → uk_G G X mX2_tryReaching (d + 5) (qe_X2_tryReaching_2 u m n g) 39 [(0, .ref (uk_ad G 46)), (1, .ref (uk_ad G 13)), (2, .int m), (3, .int n), (4, .int g), (5, .int 1), (6, .int i33)] [] u34 := by
        refine uk_upl 18 ?_
        intro i33 ai33 bi33 ihi33  u34 hu34 fu34 jEi33
        obtain ⟨ki33, fki33, hki33⟩ := jEi33
        obtain ⟨ki33, rfl⟩ := ee_Fp (by first | assumption | lia | grind) fki33
        refine g_iload dX2_tryReaching_39 rfl ?_
        refine g_bipush (v := 10) dX2_tryReaching_41 (by decide) ?_
        refine g_aload_n dX2_tryReaching_43 rfl ?_
        refine f_X2_44 rfl rfl dX2_tryReaching_44 ?_
        refine g_topi (fun x35 ex35 => ?_)
        have rx35 : 0 ≤ x35 ∧ x35 ≤ 8 := by rw [ex35]; exact iv_at hu34 _ _ rfl
        have s36 : u34.1 13 0 = x35 := ex35.symm
        refine g_iadd dX2_tryReaching_47 ?_
        refine g_topi (fun x37 ex37 => ?_)
        refine g_icmp_ge (tgt := 125) dX2_tryReaching_48 (by decide) (fun c38 => ?_) (fun c38 => ?_)
        · refine g_iconst (v := 0) dX2_tryReaching_125 (by decide) ?_
          exact g_iret (ty := .boolean) dX2_tryReaching_126 rfl rfl ⟨⟨⟨0, rfl, Or.inl rfl, fun q => absurd rfl q, fun _ => by first | trivial | lia | grind⟩, hu34, fu34⟩, ee_i (by subst ex37; subst ex35; exact hki33.trans ((if_pos c38).trans (rfl)))⟩
        · refine g_aload_n dX2_tryReaching_51 rfl ?_
          refine g_iload dX2_tryReaching_52 rfl ?_
          refine cl_X2_45 (c := 13) (As := [.int i33]) rfl (x_X0_isAble (G := G) hs hu34 uk_isK13 i33  (d + 2)) rfl (by omega) rfl rfl (Nat.le_of_ble_eq_true rfl) dX2_tryReaching_54 (fun r39 u40 q41 => ?_)
          obtain ⟨q41, Eq41⟩ := q41
          obtain ⟨⟨x42, rfl, tx42, nx42, zx42⟩, mq41⟩ := q41
          rw [mq41]
          have ex42 : x42 = (e_X0_isAble u34 13 i33) := ee_v Eq41
          refine g_if_eq (tgt := 119) dX2_tryReaching_57 (by decide) (fun c43 => ?_) (fun c43 => ?_)
          · have zc43 := zx42 c43
            refine g_iinc (v := i33 + 1) dX2_tryReaching_119 rfl rfl (by decide) ?_
            refine g_pick (lv' := [(0, .ref (uk_ad G 46)), (1, .ref (uk_ad G 13)), (2, .int m), (3, .int n), (4, .int g), (5, .int 1), (6, .int (i33 + 1))]) [0, 1, 2, 3, 4, 5, 6] rfl ?_
            refine g_goto (tgt := 39) dX2_tryReaching_122 (by decide) ?_
            refine g_pick (lv' := [(0, .ref (uk_ad G 46)), (1, .ref (uk_ad G 13)), (2, .int m), (3, .int n), (4, .int g), (5, .int 1), (6, .int (i33 + 1))]) [0, 1, 2, 3, 4, 5, 6] rfl ?_
            exact ihi33 (by first | lia | grind)  u34 hu34 fu34  ⟨ki33, ee_Fs fki33 (by first | assumption | lia | grind), by subst ex42; subst ex37; subst ex35; exact hki33.trans ((if_neg c38).trans ((if_pos c43).trans (rfl)))⟩
          · have zc43 := nx42 c43
            refine g_iload dX2_tryReaching_60 rfl ?_
            refine g_if_eq (tgt := 78) dX2_tryReaching_62 (by decide) (fun c44 => ?_) (fun c44 => ?_)
            · exact absurd c44 (by decide)
            · refine g_aload_n dX2_tryReaching_65 rfl ?_
              refine g_iload dX2_tryReaching_66 rfl ?_
              refine g_iload_n dX2_tryReaching_68 rfl ?_
              refine cl_X2_67 (c := 13) (As := [.int i33, .int m]) rfl (x_X0_brings (G := G) hs hu34 uk_isK13 i33 m (by first | trivial | decide | lia | grind) (d + 3)) rfl (by omega) rfl rfl (Nat.le_of_ble_eq_true rfl) dX2_tryReaching_69 (fun r45 u46 q47 => ?_)
              obtain ⟨q47, Eq47⟩ := q47
              obtain ⟨⟨x48, rfl, tx48, nx48, zx48⟩, mq47⟩ := q47
              rw [mq47]
              have ex48 : x48 = (e_X0_brings u34 13 i33 m) := ee_v Eq47
              refine g_if_ne (tgt := 78) dX2_tryReaching_72 (by decide) (fun c49 => ?_) (fun c49 => ?_)
              · have zc49 := nx48 c49
                refine g_aload_n dX2_tryReaching_78 rfl ?_
                refine f_X2_9 rfl rfl dX2_tryReaching_79 ?_
                refine g_iload dX2_tryReaching_82 rfl ?_
                refine g_iload dX2_tryReaching_84 rfl ?_
                have v50 : vp_in g 4 := uk_vin 4 rfl (by first | decide | lia | grind) (by first | decide | lia | grind)
                have b51 := uk_cl v50
                refine g_iast rfl rfl v50 dX2_tryReaching_86 ?_
                refine g_mem (fun u52 eu52 => ?_)
                have hu52 : iv u52 := by rw [eu52]; exact iv_upF hu34 (uk_pick1 _ (by omega))
                have fu52 : fr 13 49 u u52 := by rw [eu52]; exact fr_up fu34 (by omega) (by omega)
                refine g_aload_n dX2_tryReaching_87 rfl ?_
                refine g_iload dX2_tryReaching_88 rfl ?_
                refine cl_X2_53 (c := 13) (As := [.int i33]) rfl (x_X0_perform (G := G) hs hu52 uk_isK13 i33 (by first | trivial | decide | lia | grind) (d + 2)) rfl (by omega) rfl rfl (Nat.le_of_ble_eq_true rfl) dX2_tryReaching_90 (fun r53 u54 q55 => ?_)
                obtain ⟨q55, Eq55⟩ := q55
                obtain ⟨rfl, mq55⟩ := q55
                obtain ⟨hu54, gu54⟩ := mq55
                have fu54 : fr 13 49 u u54 := fr_tr fu52 gu54 (by omega) (by omega)
                have eu54 : u54 = e_X0_perform u52 13 i33 := Eq55
                refine g_aload_n dX2_tryReaching_93 rfl ?_
                refine g_aload_n dX2_tryReaching_94 rfl ?_
                refine g_iload_n dX2_tryReaching_95 rfl ?_
                refine g_iload_n dX2_tryReaching_96 rfl ?_
                refine g_iload dX2_tryReaching_97 rfl ?_
                refine g_iconst (v := 1) dX2_tryReaching_99 (by decide) ?_
                refine g_iadd dX2_tryReaching_100 ?_
                refine g_topi (fun x56 ex56 => ?_)
                refine cl_X2_60 (c := 46) (As := [.ref (uk_ad G 13), .int m, .int n, .int x56]) rfl (x_X2_tryReaching_1 (G := G) hs hu54  m n x56 (by first | trivial | decide | lia | grind) (by first | trivial | decide | lia | grind) (by first | trivial | decide | lia | grind) (by first | trivial | decide | lia | grind) (by first | trivial | decide | lia | grind) (by first | trivial | decide | lia | grind) (d)) rfl (by omega) rfl rfl (Nat.le_of_ble_eq_true rfl) dX2_tryReaching_101 (fun r57 u58 q59 => ?_)
                obtain ⟨q59, Eq59⟩ := q59
                obtain ⟨⟨x60, rfl, tx60, nx60, zx60⟩, mq59⟩ := q59
                obtain ⟨hu58, gu58⟩ := mq59
                have fu58 : fr 13 49 u u58 := fr_tr fu54 gu58 (by omega) (by omega)
                have ex60 : x60 = (e_X2_tryReaching_1 u54 m n x56).1 := ee_v Eq59.1
                have eu58 : u58 = (e_X2_tryReaching_1 u54 m n x56).2 := Eq59.2
                refine g_istore dX2_tryReaching_104 (by decide) ?_
                refine g_pick (lv' := [(0, .ref (uk_ad G 46)), (1, .ref (uk_ad G 13)), (2, .int m), (3, .int n), (4, .int g), (5, .int 1), (6, .int i33), (7, .int x60)]) [0, 1, 2, 3, 4, 5, 6, 7] rfl ?_
                refine g_aload_n dX2_tryReaching_106 rfl ?_
                refine g_iload dX2_tryReaching_107 rfl ?_
                refine cl_X2_57 (c := 13) (As := [.int i33]) rfl (x_X0_undo (G := G) hs hu58 uk_isK13 i33 (by first | trivial | decide | lia | grind) (d + 2)) rfl (by omega) rfl rfl (Nat.le_of_ble_eq_true rfl) dX2_tryReaching_109 (fun r61 u62 q63 => ?_)
                obtain ⟨q63, Eq63⟩ := q63
                obtain ⟨rfl, mq63⟩ := q63
                obtain ⟨hu62, gu62⟩ := mq63
                have fu62 : fr 13 49 u u62 := fr_tr fu58 gu62 (by omega) (by omega)
                have eu62 : u62 = e_X0_undo u58 13 i33 := Eq63
                refine g_iload dX2_tryReaching_112 rfl ?_
                refine g_if_eq (tgt := 119) dX2_tryReaching_114 (by decide) (fun c64 => ?_) (fun c64 => ?_)
                · have zc64 := zx60 c64
                  refine g_iinc (v := i33 + 1) dX2_tryReaching_119 rfl rfl (by decide) ?_
                  refine g_pick (lv' := [(0, .ref (uk_ad G 46)), (1, .ref (uk_ad G 13)), (2, .int m), (3, .int n), (4, .int g), (5, .int 1), (6, .int (i33 + 1)), (7, .int x60)]) [0, 1, 2, 3, 4, 5, 6, 7] rfl ?_
                  refine g_goto (tgt := 39) dX2_tryReaching_122 (by decide) ?_
                  refine g_pick (lv' := [(0, .ref (uk_ad G 46)), (1, .ref (uk_ad G 13)), (2, .int m), (3, .int n), (4, .int g), (5, .int 1), (6, .int (i33 + 1))]) [0, 1, 2, 3, 4, 5, 6] rfl ?_
                  exact ihi33 (by first | lia | grind)  u62 hu62 fu62  ⟨ki33, ee_Fs fki33 (by first | assumption | lia | grind), by subst eu62; subst eu58; subst ex60; subst ex56; subst eu54; subst eu52; subst ex48; subst ex42; subst ex37; subst ex35; exact hki33.trans ((if_neg c38).trans ((if_neg c43).trans ((if_neg c49).trans ((if_pos c64).trans (rfl)))))⟩
                · have zc64 := nx60 c64
                  refine g_iconst (v := 1) dX2_tryReaching_117 (by decide) ?_
                  exact g_iret (ty := .boolean) dX2_tryReaching_118 rfl rfl ⟨⟨⟨1, rfl, Or.inr rfl, fun _ => by first | trivial | lia | grind, fun q => absurd q (by decide)⟩, hu62, fu62⟩, ee_i (by subst eu62; subst eu58; subst ex60; subst ex56; subst eu54; subst eu52; subst ex48; subst ex42; subst ex37; subst ex35; exact hki33.trans ((if_neg c38).trans ((if_neg c43).trans ((if_neg c49).trans ((if_neg c64).trans (rfl))))))⟩
              · have zc49 := zx48 c49
                refine g_goto (tgt := 119) dX2_tryReaching_75 (by decide) ?_
                refine g_iinc (v := i33 + 1) dX2_tryReaching_119 rfl rfl (by decide) ?_
                refine g_pick (lv' := [(0, .ref (uk_ad G 46)), (1, .ref (uk_ad G 13)), (2, .int m), (3, .int n), (4, .int g), (5, .int 1), (6, .int (i33 + 1))]) [0, 1, 2, 3, 4, 5, 6] rfl ?_
                refine g_goto (tgt := 39) dX2_tryReaching_122 (by decide) ?_
                refine g_pick (lv' := [(0, .ref (uk_ad G 46)), (1, .ref (uk_ad G 13)), (2, .int m), (3, .int n), (4, .int g), (5, .int 1), (6, .int (i33 + 1))]) [0, 1, 2, 3, 4, 5, 6] rfl ?_
                exact ihi33 (by first | lia | grind)  u34 hu34 fu34  ⟨ki33, ee_Fs fki33 (by first | assumption | lia | grind), by subst ex48; subst ex42; subst ex37; subst ex35; exact hki33.trans ((if_neg c38).trans ((if_neg c43).trans ((if_pos c49).trans (rfl))))⟩
      refine g_pick (lv' := [(0, .ref (uk_ad G 46)), (1, .ref (uk_ad G 13)), (2, .int m), (3, .int n), (4, .int g), (5, .int 1), (6, .int 0)]) [0, 1, 2, 3, 4, 5, 6] rfl ?_
      exact L39_31 0 (by first | decide | lia | grind) (by first | decide | lia | grind)  u hu f0  ⟨ee_K, ee_F0 _ _, by subst ex2; exact (if_pos c1).trans ((if_pos c3).trans (rfl))⟩
  · refine g_aload_n dX2_tryReaching_6 rfl ?_
    refine f_X2_64 rfl rfl dX2_tryReaching_7 ?_
    refine g_iload_n dX2_tryReaching_10 rfl ?_
    have v65 : vp_in m 8 := uk_vin 8 rfl (by first | decide | lia | grind) (by first | decide | lia | grind)
    refine g_iald rfl rfl v65 dX2_tryReaching_11 ?_
    refine g_topi (fun x66 ex66 => ?_)
    refine g_if_le (tgt := 19) dX2_tryReaching_12 (by decide) (fun c67 => ?_) (fun c67 => ?_)
    · refine g_iconst (v := 0) dX2_tryReaching_19 (by decide) ?_
      exact g_iret (ty := .boolean) dX2_tryReaching_20 rfl rfl ⟨⟨⟨0, rfl, Or.inl rfl, fun q => absurd rfl q, fun _ => by first | trivial | lia | grind⟩, hu, f0⟩, ee_i (by subst ex66; exact (if_neg c1).trans ((if_pos c67).trans (rfl)))⟩
    · refine g_iconst (v := 1) dX2_tryReaching_15 (by decide) ?_
      refine g_goto (tgt := 20) dX2_tryReaching_16 (by decide) ?_
      exact g_iret (ty := .boolean) dX2_tryReaching_20 rfl rfl ⟨⟨⟨1, rfl, Or.inr rfl, fun _ => by first | trivial | lia | grind, fun q => absurd q (by decide)⟩, hu, f0⟩, ee_i (by subst ex66; exact (if_neg c1).trans ((if_neg c67).trans (rfl)))⟩
def l_X2_tryReaching_3_39 (g : Int32) (m : Int32) (n : Int32) : Nat → Int32 → uk_Mem → Int32 × uk_Mem
  | 0, _, u6 => (0, u6)
  | K9 + 1, i5, u6 => let x7 : Int32 := u6.1 13 0; let x9 : Int32 := (10 : Int32) + x7; if x9 ≤ i5 then (((0 : Int32), u6)) else (let x14 : Int32 := (e_X0_isAble u6 13 i5); if x14 = 0 then (l_X2_tryReaching_3_39 g m n K9 (i5 + 1) u6) else (let u19 : uk_Mem := uk_up u6 47 g.toNatClampNeg i5; let u21 : uk_Mem := e_X0_perform u19 13 i5; let x23 : Int32 := g + (1 : Int32); let x27 : Int32 := (e_X2_tryReaching_2 u21 m n x23).1; let u25 : uk_Mem := (e_X2_tryReaching_2 u21 m n x23).2; let u29 : uk_Mem := e_X0_undo u25 13 i5; if x27 = 0 then (l_X2_tryReaching_3_39 g m n K9 (i5 + 1) u29) else (((1 : Int32), u29))))
def l_X2_tryReaching_3_39_1 (m : Int32) (g : Int32) (n : Int32) : Nat → Int32 → uk_Mem → Int32 × uk_Mem
  | 0, _, u34 => (0, u34)
  | K9 + 1, i33, u34 => let x35 : Int32 := u34.1 13 0; let x37 : Int32 := (10 : Int32) + x35; if x37 ≤ i33 then (((0 : Int32), u34)) else (let x42 : Int32 := (e_X0_isAble u34 13 i33); if x42 = 0 then (l_X2_tryReaching_3_39_1 m g n K9 (i33 + 1) u34) else (let x48 : Int32 := (e_X0_brings u34 13 i33 m); if x48 = 0 then (l_X2_tryReaching_3_39_1 m g n K9 (i33 + 1) u34) else (let u52 : uk_Mem := uk_up u34 47 g.toNatClampNeg i33; let u54 : uk_Mem := e_X0_perform u52 13 i33; let x56 : Int32 := g + (1 : Int32); let x60 : Int32 := (e_X2_tryReaching_2 u54 m n x56).1; let u58 : uk_Mem := (e_X2_tryReaching_2 u54 m n x56).2; let u62 : uk_Mem := e_X0_undo u58 13 i33; if x60 = 0 then (l_X2_tryReaching_3_39_1 m g n K9 (i33 + 1) u62) else (((1 : Int32), u62)))))
def e_X2_tryReaching_3 (u : uk_Mem) (m : Int32) (n : Int32) (g : Int32) : Int32 × uk_Mem := if g < n then (let x2 : Int32 := g + (1 : Int32); if x2 = n then (l_X2_tryReaching_3_39_1 m g n ee_K (0 : Int32) u) else (l_X2_tryReaching_3_39 g m n ee_K (0 : Int32) u)) else (let x66 : Int32 := u.1 19 m.toNatClampNeg; if x66 ≤ 0 then (((0 : Int32), u)) else (((1 : Int32), u)))
abbrev qe_X2_tryReaching_3 (u : uk_Mem) (m : Int32) (n : Int32) (g : Int32) (r : Option Value) (u' : uk_Mem) : Prop := (q_X2_tryReaching_3 u m n g r u') ∧ (r = some (.int (e_X2_tryReaching_3 u m n g).1) ∧ u' = (e_X2_tryReaching_3 u m n g).2)
set_option maxHeartbeats 4000000 in
set_option maxRecDepth 20000 in
theorem x_X2_tryReaching_3 {G : uk_D} (hs : uk_Sep G) {u : uk_Mem} (hu : iv u) (m : Int32) (n : Int32) (g : Int32) (p0 : 0 ≤ m) (p1 : m ≤ 7) (p2 : 0 ≤ g) (p3 : g ≤ 4) (p4 : n ≤ 4) (p5 : g + 3 = n) (d : Nat) : uk_Meth G (d + 6) mX2_tryReaching [.ref (uk_ad G 46), .ref (uk_ad G 13), .int m, .int n, .int g] u (qe_X2_tryReaching_3 u m n g) := by
  refine uk_Meth.of hs (by decide) (Nat.le_of_ble_eq_true rfl) (fun X => ?_)
  have f0 : fr 13 49 u u := fr_rf
  refine g_iload dX2_tryReaching_0 rfl ?_
  refine g_iload_n dX2_tryReaching_2 rfl ?_
  refine g_icmp_lt (tgt := 21) dX2_tryReaching_3 (by decide) (fun c1 => ?_) (fun c1 => ?_)
  · refine g_iload dX2_tryReaching_21 rfl ?_
    refine g_iconst (v := 1) dX2_tryReaching_23 (by decide) ?_
    refine g_iadd dX2_tryReaching_24 ?_
    refine g_topi (fun x2 ex2 => ?_)
    refine g_iload_n dX2_tryReaching_25 rfl ?_
    refine g_icmp_ne (tgt := 33) dX2_tryReaching_26 (by decide) (fun c3 => ?_) (fun c3 => ?_)
    · refine g_iconst (v := 0) dX2_tryReaching_33 (by decide) ?_
      refine g_istore dX2_tryReaching_34 (by decide) ?_
      refine g_pick (lv' := [(0, .ref (uk_ad G 46)), (1, .ref (uk_ad G 13)), (2, .int m), (3, .int n), (4, .int g), (5, .int 0)]) [0, 1, 2, 3, 4, 5] rfl ?_
      refine g_iconst (v := 0) dX2_tryReaching_36 (by decide) ?_
      refine g_istore dX2_tryReaching_37 (by decide) ?_
      refine g_pick (lv' := [(0, .ref (uk_ad G 46)), (1, .ref (uk_ad G 13)), (2, .int m), (3, .int n), (4, .int g), (5, .int 0), (6, .int 0)]) [0, 1, 2, 3, 4, 5, 6] rfl ?_
      have L39_3 : ∀ i5 : Int32, 0 ≤ i5 → i5 ≤ 18 → ∀ (u6 : uk_Mem), iv u6 → fr 13 49 u u6 → (∃ ki5 : Nat, ee_F 18 i5 ki5 ∧ e_X2_tryReaching_3 u m n g = l_X2_tryReaching_3_39 g m n ki5 i5 u6) → uk_G G X mX2_tryReaching (d + 6) (qe_X2_tryReaching_3 u m n g) 39 [(0, .ref (uk_ad G 46)), (1, .ref (uk_ad G 13)), (2, .int m), (3, .int n), (4, .int g), (5, .int 0), (6, .int i5)] [] u6 := by
        refine uk_upl 18 ?_
        intro i5 ai5 bi5 ihi5  u6 hu6 fu6 jEi5
        obtain ⟨ki5, fki5, hki5⟩ := jEi5
        obtain ⟨ki5, rfl⟩ := ee_Fp (by first | assumption | lia | grind) fki5
        refine g_iload dX2_tryReaching_39 rfl ?_
        refine g_bipush (v := 10) dX2_tryReaching_41 (by decide) ?_
        refine g_aload_n dX2_tryReaching_43 rfl ?_
        refine f_X2_44 rfl rfl dX2_tryReaching_44 ?_
        refine g_topi (fun x7 ex7 => ?_)
        have rx7 : 0 ≤ x7 ∧ x7 ≤ 8 := by rw [ex7]; exact iv_at hu6 _ _ rfl
        have s8 : u6.1 13 0 = x7 := ex7.symm
        refine g_iadd dX2_tryReaching_47 ?_
        refine g_topi (fun x9 ex9 => ?_)
        refine g_icmp_ge (tgt := 125) dX2_tryReaching_48 (by decide) (fun c10 => ?_) (fun c10 => ?_)
        · refine g_iconst (v := 0) dX2_tryReaching_125 (by decide) ?_
          exact g_iret (ty := .boolean) dX2_tryReaching_126 rfl rfl ⟨⟨⟨0, rfl, Or.inl rfl, fun q => absurd rfl q, fun _ => by first | trivial | lia | grind⟩, hu6, fu6⟩, ee_i (by subst ex9; subst ex7; exact hki5.trans ((if_pos c10).trans (rfl)))⟩
        · refine g_aload_n dX2_tryReaching_51 rfl ?_
          refine g_iload dX2_tryReaching_52 rfl ?_
          refine cl_X2_45 (c := 13) (As := [.int i5]) rfl (x_X0_isAble (G := G) hs hu6 uk_isK13 i5  (d + 3)) rfl (by omega) rfl rfl (Nat.le_of_ble_eq_true rfl) dX2_tryReaching_54 (fun r11 u12 q13 => ?_)
          obtain ⟨q13, Eq13⟩ := q13
          obtain ⟨⟨x14, rfl, tx14, nx14, zx14⟩, mq13⟩ := q13
          rw [mq13]
          have ex14 : x14 = (e_X0_isAble u6 13 i5) := ee_v Eq13
          refine g_if_eq (tgt := 119) dX2_tryReaching_57 (by decide) (fun c15 => ?_) (fun c15 => ?_)
          · have zc15 := zx14 c15
            refine g_iinc (v := i5 + 1) dX2_tryReaching_119 rfl rfl (by decide) ?_
            refine g_pick (lv' := [(0, .ref (uk_ad G 46)), (1, .ref (uk_ad G 13)), (2, .int m), (3, .int n), (4, .int g), (5, .int 0), (6, .int (i5 + 1))]) [0, 1, 2, 3, 4, 5, 6] rfl ?_
            refine g_goto (tgt := 39) dX2_tryReaching_122 (by decide) ?_
            refine g_pick (lv' := [(0, .ref (uk_ad G 46)), (1, .ref (uk_ad G 13)), (2, .int m), (3, .int n), (4, .int g), (5, .int 0), (6, .int (i5 + 1))]) [0, 1, 2, 3, 4, 5, 6] rfl ?_
            exact ihi5 (by first | lia | grind)  u6 hu6 fu6  ⟨ki5, ee_Fs fki5 (by first | assumption | lia | grind), by subst ex14; subst ex9; subst ex7; exact hki5.trans ((if_neg c10).trans ((if_pos c15).trans (rfl)))⟩
          · have zc15 := nx14 c15
            refine g_iload dX2_tryReaching_60 rfl ?_
            refine g_if_eq (tgt := 78) dX2_tryReaching_62 (by decide) (fun c16 => ?_) (fun c16 => ?_)
            · refine g_aload_n dX2_tryReaching_78 rfl ?_
              refine f_X2_9 rfl rfl dX2_tryReaching_79 ?_
              refine g_iload dX2_tryReaching_82 rfl ?_
              refine g_iload dX2_tryReaching_84 rfl ?_
              have v17 : vp_in g 4 := uk_vin 4 rfl (by first | decide | lia | grind) (by first | decide | lia | grind)
              have b18 := uk_cl v17
              refine g_iast rfl rfl v17 dX2_tryReaching_86 ?_
              refine g_mem (fun u19 eu19 => ?_)
              have hu19 : iv u19 := by rw [eu19]; exact iv_upF hu6 (uk_pick1 _ (by omega))
              have fu19 : fr 13 49 u u19 := by rw [eu19]; exact fr_up fu6 (by omega) (by omega)
              refine g_aload_n dX2_tryReaching_87 rfl ?_
              refine g_iload dX2_tryReaching_88 rfl ?_
              refine cl_X2_53 (c := 13) (As := [.int i5]) rfl (x_X0_perform (G := G) hs hu19 uk_isK13 i5 (by first | trivial | decide | lia | grind) (d + 3)) rfl (by omega) rfl rfl (Nat.le_of_ble_eq_true rfl) dX2_tryReaching_90 (fun r20 u21 q22 => ?_)
              obtain ⟨q22, Eq22⟩ := q22
              obtain ⟨rfl, mq22⟩ := q22
              obtain ⟨hu21, gu21⟩ := mq22
              have fu21 : fr 13 49 u u21 := fr_tr fu19 gu21 (by omega) (by omega)
              have eu21 : u21 = e_X0_perform u19 13 i5 := Eq22
              refine g_aload_n dX2_tryReaching_93 rfl ?_
              refine g_aload_n dX2_tryReaching_94 rfl ?_
              refine g_iload_n dX2_tryReaching_95 rfl ?_
              refine g_iload_n dX2_tryReaching_96 rfl ?_
              refine g_iload dX2_tryReaching_97 rfl ?_
              refine g_iconst (v := 1) dX2_tryReaching_99 (by decide) ?_
              refine g_iadd dX2_tryReaching_100 ?_
              refine g_topi (fun x23 ex23 => ?_)
              refine cl_X2_60 (c := 46) (As := [.ref (uk_ad G 13), .int m, .int n, .int x23]) rfl (x_X2_tryReaching_2 (G := G) hs hu21  m n x23 (by first | trivial | decide | lia | grind) (by first | trivial | decide | lia | grind) (by first | trivial | decide | lia | grind) (by first | trivial | decide | lia | grind) (by first | trivial | decide | lia | grind) (by first | trivial | decide | lia | grind) (d)) rfl (by omega) rfl rfl (Nat.le_of_ble_eq_true rfl) dX2_tryReaching_101 (fun r24 u25 q26 => ?_)
              obtain ⟨q26, Eq26⟩ := q26
              obtain ⟨⟨x27, rfl, tx27, nx27, zx27⟩, mq26⟩ := q26
              obtain ⟨hu25, gu25⟩ := mq26
              have fu25 : fr 13 49 u u25 := fr_tr fu21 gu25 (by omega) (by omega)
              have ex27 : x27 = (e_X2_tryReaching_2 u21 m n x23).1 := ee_v Eq26.1
              have eu25 : u25 = (e_X2_tryReaching_2 u21 m n x23).2 := Eq26.2
              refine g_istore dX2_tryReaching_104 (by decide) ?_
              refine g_pick (lv' := [(0, .ref (uk_ad G 46)), (1, .ref (uk_ad G 13)), (2, .int m), (3, .int n), (4, .int g), (5, .int 0), (6, .int i5), (7, .int x27)]) [0, 1, 2, 3, 4, 5, 6, 7] rfl ?_
              refine g_aload_n dX2_tryReaching_106 rfl ?_
              refine g_iload dX2_tryReaching_107 rfl ?_
              refine cl_X2_57 (c := 13) (As := [.int i5]) rfl (x_X0_undo (G := G) hs hu25 uk_isK13 i5 (by first | trivial | decide | lia | grind) (d + 3)) rfl (by omega) rfl rfl (Nat.le_of_ble_eq_true rfl) dX2_tryReaching_109 (fun r28 u29 q30 => ?_)
              obtain ⟨q30, Eq30⟩ := q30
              obtain ⟨rfl, mq30⟩ := q30
              obtain ⟨hu29, gu29⟩ := mq30
              have fu29 : fr 13 49 u u29 := fr_tr fu25 gu29 (by omega) (by omega)
              have eu29 : u29 = e_X0_undo u25 13 i5 := Eq30
              refine g_iload dX2_tryReaching_112 rfl ?_
              refine g_if_eq (tgt := 119) dX2_tryReaching_114 (by decide) (fun c31 => ?_) (fun c31 => ?_)
              · have zc31 := zx27 c31
                refine g_iinc (v := i5 + 1) dX2_tryReaching_119 rfl rfl (by decide) ?_
                refine g_pick (lv' := [(0, .ref (uk_ad G 46)), (1, .ref (uk_ad G 13)), (2, .int m), (3, .int n), (4, .int g), (5, .int 0), (6, .int (i5 + 1)), (7, .int x27)]) [0, 1, 2, 3, 4, 5, 6, 7] rfl ?_
                refine g_goto (tgt := 39) dX2_tryReaching_122 (by decide) ?_
                refine g_pick (lv' := [(0, .ref (uk_ad G 46)), (1, .ref (uk_ad G 13)), (2, .int m), (3, .int n), (4, .int g), (5, .int 0), (6, .int (i5 + 1))]) [0, 1, 2, 3, 4, 5, 6] rfl ?_
                exact ihi5 (by first | lia | grind)  u29 hu29 fu29  ⟨ki5, ee_Fs fki5 (by first | assumption | lia | grind), by subst eu29; subst eu25; subst ex27; subst ex23; subst eu21; subst eu19; subst ex14; subst ex9; subst ex7; exact hki5.trans ((if_neg c10).trans ((if_neg c15).trans ((if_pos c31).trans (rfl))))⟩
              · have zc31 := nx27 c31
                refine g_iconst (v := 1) dX2_tryReaching_117 (by decide) ?_
                exact g_iret (ty := .boolean) dX2_tryReaching_118 rfl rfl ⟨⟨⟨1, rfl, Or.inr rfl, fun _ => by first | trivial | lia | grind, fun q => absurd q (by decide)⟩, hu29, fu29⟩, ee_i (by subst eu29; subst eu25; subst ex27; subst ex23; subst eu21; subst eu19; subst ex14; subst ex9; subst ex7; exact hki5.trans ((if_neg c10).trans ((if_neg c15).trans ((if_neg c31).trans (rfl)))))⟩
            · exact absurd c16 (by decide)
      refine g_pick (lv' := [(0, .ref (uk_ad G 46)), (1, .ref (uk_ad G 13)), (2, .int m), (3, .int n), (4, .int g), (5, .int 0), (6, .int 0)]) [0, 1, 2, 3, 4, 5, 6] rfl ?_
      exact L39_3 0 (by first | decide | lia | grind) (by first | decide | lia | grind)  u hu f0  ⟨ee_K, ee_F0 _ _, by subst ex2; exact (if_pos c1).trans ((if_neg c3).trans (rfl))⟩
    · refine g_iconst (v := 1) dX2_tryReaching_29 (by decide) ?_
      refine g_goto (tgt := 34) dX2_tryReaching_30 (by decide) ?_
      refine g_istore dX2_tryReaching_34 (by decide) ?_
      refine g_pick (lv' := [(0, .ref (uk_ad G 46)), (1, .ref (uk_ad G 13)), (2, .int m), (3, .int n), (4, .int g), (5, .int 1)]) [0, 1, 2, 3, 4, 5] rfl ?_
      refine g_iconst (v := 0) dX2_tryReaching_36 (by decide) ?_
      refine g_istore dX2_tryReaching_37 (by decide) ?_
      refine g_pick (lv' := [(0, .ref (uk_ad G 46)), (1, .ref (uk_ad G 13)), (2, .int m), (3, .int n), (4, .int g), (5, .int 1), (6, .int 0)]) [0, 1, 2, 3, 4, 5, 6] rfl ?_
      have L39_31 : ∀ i33 : Int32, 0 ≤ i33 → i33 ≤ 18 → ∀ (u34 : uk_Mem), iv u34 → fr 13 49 u u34 → (∃ ki33 : Nat, ee_F 18 i33 ki33 ∧ e_X2_tryReaching_3 u m n g = l_X2_tryReaching_3_39_1 m g n ki33 i33 u34) → uk_G G X mX2_tryReaching (d + 6) (qe_X2_tryReaching_3 u m n g) 39 [(0, .ref (uk_ad G 46)), (1, .ref (uk_ad G 13)), (2, .int m), (3, .int n), (4, .int g), (5, .int 1), (6, .int i33)] [] u34 := by
        refine uk_upl 18 ?_
        intro i33 ai33 bi33 ihi33  u34 hu34 fu34 jEi33
        obtain ⟨ki33, fki33, hki33⟩ := jEi33
        obtain ⟨ki33, rfl⟩ := ee_Fp (by first | assumption | lia | grind) fki33
        refine g_iload dX2_tryReaching_39 rfl ?_
        refine g_bipush (v := 10) dX2_tryReaching_41 (by decide) ?_
        refine g_aload_n dX2_tryReaching_43 rfl ?_
        refine f_X2_44 rfl rfl dX2_tryReaching_44 ?_
        refine g_topi (fun x35 ex35 => ?_)
        have rx35 : 0 ≤ x35 ∧ x35 ≤ 8 := by rw [ex35]; exact iv_at hu34 _ _ rfl
        have s36 : u34.1 13 0 = x35 := ex35.symm
        refine g_iadd dX2_tryReaching_47 ?_
        refine g_topi (fun x37 ex37 => ?_)
        refine g_icmp_ge (tgt := 125) dX2_tryReaching_48 (by decide) (fun c38 => ?_) (fun c38 => ?_)
        · refine g_iconst (v := 0) dX2_tryReaching_125 (by decide) ?_
          exact g_iret (ty := .boolean) dX2_tryReaching_126 rfl rfl ⟨⟨⟨0, rfl, Or.inl rfl, fun q => absurd rfl q, fun _ => by first | trivial | lia | grind⟩, hu34, fu34⟩, ee_i (by subst ex37; subst ex35; exact hki33.trans ((if_pos c38).trans (rfl)))⟩
        · refine g_aload_n dX2_tryReaching_51 rfl ?_
          refine g_iload dX2_tryReaching_52 rfl ?_
          refine cl_X2_45 (c := 13) (As := [.int i33]) rfl (x_X0_isAble (G := G) hs hu34 uk_isK13 i33  (d + 3)) rfl (by omega) rfl rfl (Nat.le_of_ble_eq_true rfl) dX2_tryReaching_54 (fun r39 u40 q41 => ?_)
          obtain ⟨q41, Eq41⟩ := q41
          obtain ⟨⟨x42, rfl, tx42, nx42, zx42⟩, mq41⟩ := q41
          rw [mq41]
          have ex42 : x42 = (e_X0_isAble u34 13 i33) := ee_v Eq41
          refine g_if_eq (tgt := 119) dX2_tryReaching_57 (by decide) (fun c43 => ?_) (fun c43 => ?_)
          · have zc43 := zx42 c43
            refine g_iinc (v := i33 + 1) dX2_tryReaching_119 rfl rfl (by decide) ?_
            refine g_pick (lv' := [(0, .ref (uk_ad G 46)), (1, .ref (uk_ad G 13)), (2, .int m), (3, .int n), (4, .int g), (5, .int 1), (6, .int (i33 + 1))]) [0, 1, 2, 3, 4, 5, 6] rfl ?_
            refine g_goto (tgt := 39) dX2_tryReaching_122 (by decide) ?_
            refine g_pick (lv' := [(0, .ref (uk_ad G 46)), (1, .ref (uk_ad G 13)), (2, .int m), (3, .int n), (4, .int g), (5, .int 1), (6, .int (i33 + 1))]) [0, 1, 2, 3, 4, 5, 6] rfl ?_
            exact ihi33 (by first | lia | grind)  u34 hu34 fu34  ⟨ki33, ee_Fs fki33 (by first | assumption | lia | grind), by subst ex42; subst ex37; subst ex35; exact hki33.trans ((if_neg c38).trans ((if_pos c43).trans (rfl)))⟩
          · have zc43 := nx42 c43
            refine g_iload dX2_tryReaching_60 rfl ?_
            refine g_if_eq (tgt := 78) dX2_tryReaching_62 (by decide) (fun c44 => ?_) (fun c44 => ?_)
            · exact absurd c44 (by decide)
            · refine g_aload_n dX2_tryReaching_65 rfl ?_
              refine g_iload dX2_tryReaching_66 rfl ?_
              refine g_iload_n dX2_tryReaching_68 rfl ?_
              refine cl_X2_67 (c := 13) (As := [.int i33, .int m]) rfl (x_X0_brings (G := G) hs hu34 uk_isK13 i33 m (by first | trivial | decide | lia | grind) (d + 4)) rfl (by omega) rfl rfl (Nat.le_of_ble_eq_true rfl) dX2_tryReaching_69 (fun r45 u46 q47 => ?_)
              obtain ⟨q47, Eq47⟩ := q47
              obtain ⟨⟨x48, rfl, tx48, nx48, zx48⟩, mq47⟩ := q47
              rw [mq47]
              have ex48 : x48 = (e_X0_brings u34 13 i33 m) := ee_v Eq47
              refine g_if_ne (tgt := 78) dX2_tryReaching_72 (by decide) (fun c49 => ?_) (fun c49 => ?_)
              · have zc49 := nx48 c49
                refine g_aload_n dX2_tryReaching_78 rfl ?_
                refine f_X2_9 rfl rfl dX2_tryReaching_79 ?_
                refine g_iload dX2_tryReaching_82 rfl ?_
                refine g_iload dX2_tryReaching_84 rfl ?_
                have v50 : vp_in g 4 := uk_vin 4 rfl (by first | decide | lia | grind) (by first | decide | lia | grind)
                have b51 := uk_cl v50
                refine g_iast rfl rfl v50 dX2_tryReaching_86 ?_
                refine g_mem (fun u52 eu52 => ?_)
                have hu52 : iv u52 := by rw [eu52]; exact iv_upF hu34 (uk_pick1 _ (by omega))
                have fu52 : fr 13 49 u u52 := by rw [eu52]; exact fr_up fu34 (by omega) (by omega)
                refine g_aload_n dX2_tryReaching_87 rfl ?_
                refine g_iload dX2_tryReaching_88 rfl ?_
                refine cl_X2_53 (c := 13) (As := [.int i33]) rfl (x_X0_perform (G := G) hs hu52 uk_isK13 i33 (by first | trivial | decide | lia | grind) (d + 3)) rfl (by omega) rfl rfl (Nat.le_of_ble_eq_true rfl) dX2_tryReaching_90 (fun r53 u54 q55 => ?_)
                obtain ⟨q55, Eq55⟩ := q55
                obtain ⟨rfl, mq55⟩ := q55
                obtain ⟨hu54, gu54⟩ := mq55
                have fu54 : fr 13 49 u u54 := fr_tr fu52 gu54 (by omega) (by omega)
                have eu54 : u54 = e_X0_perform u52 13 i33 := Eq55
                refine g_aload_n dX2_tryReaching_93 rfl ?_
                refine g_aload_n dX2_tryReaching_94 rfl ?_
                refine g_iload_n dX2_tryReaching_95 rfl ?_
                refine g_iload_n dX2_tryReaching_96 rfl ?_
                refine g_iload dX2_tryReaching_97 rfl ?_
                refine g_iconst (v := 1) dX2_tryReaching_99 (by decide) ?_
                refine g_iadd dX2_tryReaching_100 ?_
                refine g_topi (fun x56 ex56 => ?_)
                refine cl_X2_60 (c := 46) (As := [.ref (uk_ad G 13), .int m, .int n, .int x56]) rfl (x_X2_tryReaching_2 (G := G) hs hu54  m n x56 (by first | trivial | decide | lia | grind) (by first | trivial | decide | lia | grind) (by first | trivial | decide | lia | grind) (by first | trivial | decide | lia | grind) (by first | trivial | decide | lia | grind) (by first | trivial | decide | lia | grind) (d)) rfl (by omega) rfl rfl (Nat.le_of_ble_eq_true rfl) dX2_tryReaching_101 (fun r57 u58 q59 => ?_)
                obtain ⟨q59, Eq59⟩ := q59
                obtain ⟨⟨x60, rfl, tx60, nx60, zx60⟩, mq59⟩ := q59
                obtain ⟨hu58, gu58⟩ := mq59
                have fu58 : fr 13 49 u u58 := fr_tr fu54 gu58 (by omega) (by omega)
                have ex60 : x60 = (e_X2_tryReaching_2 u54 m n x56).1 := ee_v Eq59.1
                have eu58 : u58 = (e_X2_tryReaching_2 u54 m n x56).2 := Eq59.2
                refine g_istore dX2_tryReaching_104 (by decide) ?_
                refine g_pick (lv' := [(0, .ref (uk_ad G 46)), (1, .ref (uk_ad G 13)), (2, .int m), (3, .int n), (4, .int g), (5, .int 1), (6, .int i33), (7, .int x60)]) [0, 1, 2, 3, 4, 5, 6, 7] rfl ?_
                refine g_aload_n dX2_tryReaching_106 rfl ?_
                refine g_iload dX2_tryReaching_107 rfl ?_
                refine cl_X2_57 (c := 13) (As := [.int i33]) rfl (x_X0_undo (G := G) hs hu58 uk_isK13 i33 (by first | trivial | decide | lia | grind) (d + 3)) rfl (by omega) rfl rfl (Nat.le_of_ble_eq_true rfl) dX2_tryReaching_109 (fun r61 u62 q63 => ?_)
                obtain ⟨q63, Eq63⟩ := q63
                obtain ⟨rfl, mq63⟩ := q63
                obtain ⟨hu62, gu62⟩ := mq63
                have fu62 : fr 13 49 u u62 := fr_tr fu58 gu62 (by omega) (by omega)
                have eu62 : u62 = e_X0_undo u58 13 i33 := Eq63
                refine g_iload dX2_tryReaching_112 rfl ?_
                refine g_if_eq (tgt := 119) dX2_tryReaching_114 (by decide) (fun c64 => ?_) (fun c64 => ?_)
                · have zc64 := zx60 c64
                  refine g_iinc (v := i33 + 1) dX2_tryReaching_119 rfl rfl (by decide) ?_
                  refine g_pick (lv' := [(0, .ref (uk_ad G 46)), (1, .ref (uk_ad G 13)), (2, .int m), (3, .int n), (4, .int g), (5, .int 1), (6, .int (i33 + 1)), (7, .int x60)]) [0, 1, 2, 3, 4, 5, 6, 7] rfl ?_
                  refine g_goto (tgt := 39) dX2_tryReaching_122 (by decide) ?_
                  refine g_pick (lv' := [(0, .ref (uk_ad G 46)), (1, .ref (uk_ad G 13)), (2, .int m), (3, .int n), (4, .int g), (5, .int 1), (6, .int (i33 + 1))]) [0, 1, 2, 3, 4, 5, 6] rfl ?_
                  exact ihi33 (by first | lia | grind)  u62 hu62 fu62  ⟨ki33, ee_Fs fki33 (by first | assumption | lia | grind), by subst eu62; subst eu58; subst ex60; subst ex56; subst eu54; subst eu52; subst ex48; subst ex42; subst ex37; subst ex35; exact hki33.trans ((if_neg c38).trans ((if_neg c43).trans ((if_neg c49).trans ((if_pos c64).trans (rfl)))))⟩
                · have zc64 := nx60 c64
                  refine g_iconst (v := 1) dX2_tryReaching_117 (by decide) ?_
                  exact g_iret (ty := .boolean) dX2_tryReaching_118 rfl rfl ⟨⟨⟨1, rfl, Or.inr rfl, fun _ => by first | trivial | lia | grind, fun q => absurd q (by decide)⟩, hu62, fu62⟩, ee_i (by subst eu62; subst eu58; subst ex60; subst ex56; subst eu54; subst eu52; subst ex48; subst ex42; subst ex37; subst ex35; exact hki33.trans ((if_neg c38).trans ((if_neg c43).trans ((if_neg c49).trans ((if_neg c64).trans (rfl))))))⟩
              · have zc49 := zx48 c49
                refine g_goto (tgt := 119) dX2_tryReaching_75 (by decide) ?_
                refine g_iinc (v := i33 + 1) dX2_tryReaching_119 rfl rfl (by decide) ?_
                refine g_pick (lv' := [(0, .ref (uk_ad G 46)), (1, .ref (uk_ad G 13)), (2, .int m), (3, .int n), (4, .int g), (5, .int 1), (6, .int (i33 + 1))]) [0, 1, 2, 3, 4, 5, 6] rfl ?_
                refine g_goto (tgt := 39) dX2_tryReaching_122 (by decide) ?_
                refine g_pick (lv' := [(0, .ref (uk_ad G 46)), (1, .ref (uk_ad G 13)), (2, .int m), (3, .int n), (4, .int g), (5, .int 1), (6, .int (i33 + 1))]) [0, 1, 2, 3, 4, 5, 6] rfl ?_
                exact ihi33 (by first | lia | grind)  u34 hu34 fu34  ⟨ki33, ee_Fs fki33 (by first | assumption | lia | grind), by subst ex48; subst ex42; subst ex37; subst ex35; exact hki33.trans ((if_neg c38).trans ((if_neg c43).trans ((if_pos c49).trans (rfl))))⟩
      refine g_pick (lv' := [(0, .ref (uk_ad G 46)), (1, .ref (uk_ad G 13)), (2, .int m), (3, .int n), (4, .int g), (5, .int 1), (6, .int 0)]) [0, 1, 2, 3, 4, 5, 6] rfl ?_
      exact L39_31 0 (by first | decide | lia | grind) (by first | decide | lia | grind)  u hu f0  ⟨ee_K, ee_F0 _ _, by subst ex2; exact (if_pos c1).trans ((if_pos c3).trans (rfl))⟩
  · refine g_aload_n dX2_tryReaching_6 rfl ?_
    refine f_X2_64 rfl rfl dX2_tryReaching_7 ?_
    refine g_iload_n dX2_tryReaching_10 rfl ?_
    have v65 : vp_in m 8 := uk_vin 8 rfl (by first | decide | lia | grind) (by first | decide | lia | grind)
    refine g_iald rfl rfl v65 dX2_tryReaching_11 ?_
    refine g_topi (fun x66 ex66 => ?_)
    refine g_if_le (tgt := 19) dX2_tryReaching_12 (by decide) (fun c67 => ?_) (fun c67 => ?_)
    · refine g_iconst (v := 0) dX2_tryReaching_19 (by decide) ?_
      exact g_iret (ty := .boolean) dX2_tryReaching_20 rfl rfl ⟨⟨⟨0, rfl, Or.inl rfl, fun q => absurd rfl q, fun _ => by first | trivial | lia | grind⟩, hu, f0⟩, ee_i (by subst ex66; exact (if_neg c1).trans ((if_pos c67).trans (rfl)))⟩
    · refine g_iconst (v := 1) dX2_tryReaching_15 (by decide) ?_
      refine g_goto (tgt := 20) dX2_tryReaching_16 (by decide) ?_
      exact g_iret (ty := .boolean) dX2_tryReaching_20 rfl rfl ⟨⟨⟨1, rfl, Or.inr rfl, fun _ => by first | trivial | lia | grind, fun q => absurd q (by decide)⟩, hu, f0⟩, ee_i (by subst ex66; exact (if_neg c1).trans ((if_neg c67).trans (rfl)))⟩
