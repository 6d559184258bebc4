def l_X2_tryReaching_4_39 (g : Int32) (m : Int32) (n : Int32) : Nat → Int32 → uk_Mem → Int32 × uk_Mem
  | 0, _, u6 => (0, u6)
  | K9 + 1, i5, u6 => let x7 : Int32 := u6.1 13 0; let x9 : Int32 := (10 : Int32) + x7; if x9 ≤ i5 then (((0 : Int32), u6)) else (let x14 : Int32 := (e_X0_isAble u6 13 i5); if x14 = 0 then (l_X2_tryReaching_4_39 g m n K9 (i5 + 1) u6) else (let u19 : uk_Mem := uk_up u6 47 g.toNatClampNeg i5; let u21 : uk_Mem := e_X0_perform u19 13 i5; let x23 : Int32 := g + (1 : Int32); let x27 : Int32 := (e_X2_tryReaching_3 u21 m n x23).1; let u25 : uk_Mem := (e_X2_tryReaching_3 u21 m n x23).2; let u29 : uk_Mem := e_X0_undo u25 13 i5; if x27 = 0 then (l_X2_tryReaching_4_39 g m n K9 (i5 + 1) u29) else (((1 : Int32), u29))))
def l_X2_tryReaching_4_39_1 (m : Int32) (g : Int32) (n : Int32) : Nat → Int32 → uk_Mem → Int32 × uk_Mem
  | 0, _, u34 => (0, u34)
  | K9 + 1, i33, u34 => let x35 : Int32 := u34.1 13 0; let x37 : Int32 := (10 : Int32) + x35; if x37 ≤ i33 then (((0 : Int32), u34)) else (let x42 : Int32 := (e_X0_isAble u34 13 i33); if x42 = 0 then (l_X2_tryReaching_4_39_1 m g n K9 (i33 + 1) u34) else (let x48 : Int32 := (e_X0_brings u34 13 i33 m); if x48 = 0 then (l_X2_tryReaching_4_39_1 m g n K9 (i33 + 1) u34) else (let u52 : uk_Mem := uk_up u34 47 g.toNatClampNeg i33; let u54 : uk_Mem := e_X0_perform u52 13 i33; let x56 : Int32 := g + (1 : Int32); let x60 : Int32 := (e_X2_tryReaching_3 u54 m n x56).1; let u58 : uk_Mem := (e_X2_tryReaching_3 u54 m n x56).2; let u62 : uk_Mem := e_X0_undo u58 13 i33; if x60 = 0 then (l_X2_tryReaching_4_39_1 m g n K9 (i33 + 1) u62) else (((1 : Int32), u62)))))
def e_X2_tryReaching_4 (u : uk_Mem) (m : Int32) (n : Int32) (g : Int32) : Int32 × uk_Mem := if g < n then (let x2 : Int32 := g + (1 : Int32); if x2 = n then (l_X2_tryReaching_4_39_1 m g n ee_K (0 : Int32) u) else (l_X2_tryReaching_4_39 g m n ee_K (0 : Int32) u)) else (let x66 : Int32 := u.1 19 m.toNatClampNeg; if x66 ≤ 0 then (((0 : Int32), u)) else (((1 : Int32), u)))
abbrev qe_X2_tryReaching_4 (u : uk_Mem) (m : Int32) (n : Int32) (g : Int32) (r : Option Value) (u' : uk_Mem) : Prop := (q_X2_tryReaching_4 u m n g r u') ∧ (r = some (.int (e_X2_tryReaching_4 u m n g).1) ∧ u' = (e_X2_tryReaching_4 u m n g).2)
set_option maxHeartbeats 4000000 in
set_option maxRecDepth 20000 in
theorem x_X2_tryReaching_4 {G : uk_D} (hs : uk_Sep G) {u : uk_Mem} (hu : iv u) (m : Int32) (n : Int32) (g : Int32) (p0 : 0 ≤ m) (p1 : m ≤ 7) (p2 : 0 ≤ g) (p3 : g ≤ 4) (p4 : n ≤ 4) (p5 : g + 4 = n) (d : Nat) : uk_Meth G (d + 7) mX2_tryReaching [.ref (uk_ad G 46), .ref (uk_ad G 13), .int m, .int n, .int g] u (qe_X2_tryReaching_4 u m n g) := by
  refine uk_Meth.of hs (by decide) (Nat.le_of_ble_eq_true rfl) (fun X => ?_)
  have f0 : fr 13 49 u u := fr_rf
  refine g_iload dX2_tryReaching_0 rfl ?_
  refine g_iload_n dX2_tryReaching_2 rfl ?_
  refine g_icmp_lt (tgt := 21) dX2_tryReaching_3 (by decide) (fun c1 => ?_) (fun c1 => ?_)
  · refine g_iload dX2_tryReaching_21 rfl ?_
    refine g_iconst (v := 1) dX2_tryReaching_23 (by decide) ?_
    refine g_iadd dX2_tryReaching_24 ?_
    refine g_topi (fun x2 ex2 => ?_)
    refine g_iload_n dX2_tryReaching_25 rfl ?_
    refine g_icmp_ne (tgt := 33) dX2_tryReaching_26 (by decide) (fun c3 => ?_) (fun c3 => ?_)
    · refine g_iconst (v := 0) dX2_tryReaching_33 (by decide) ?_
      refine g_istore dX2_tryReaching_34 (by decide) ?_
      refine g_pick (lv' := [(0, .ref (uk_ad G 46)), (1, .ref (uk_ad G 13)), (2, .int m), (3, .int n), (4, .int g), (5, .int 0)]) [0, 1, 2, 3, 4, 5] rfl ?_
      refine g_iconst (v := 0) dX2_tryReaching_36 (by decide) ?_
      refine g_istore dX2_tryReaching_37 (by decide) ?_
      refine g_pick (lv' := [(0, .ref (uk_ad G 46)), (1, .ref (uk_ad G 13)), (2, .int m), (3, .int n), (4, .int g), (5, .int 0), (6, .int 0)]) [0, 1, 2, 3, 4, 5, 6] rfl ?_
      have L39_3 : ∀ i5 : Int32, 0 ≤ i5 → i5 ≤ 18 → ∀ (u6 : uk_Mem), iv u6 → fr 13 49 u u6 → (∃ ki5 : Nat, ee_F 18 i5 ki5 ∧ e_X2_tryReaching_4 u m n g = l_X2_tryReaching_4_39 g m n ki5 i5 u6) → uk_G G X mX2_tryReaching (d + 7) (qe_X2_tryReaching_4 u m n g) 39 [(0, .ref (uk_ad G 46)), (1, .ref (uk_ad G 13)), (2, .int m), (3, .int n), (4, .int g), (5, .int 0), (6, .int i5)] [] u6 := by
        refine uk_upl 18 ?_
        intro i5 ai5 bi5 ihi5  u6 hu6 fu6 jEi5
        obtain ⟨ki5, fki5, hki5⟩ := jEi5
        obtain ⟨ki5, rfl⟩ := ee_Fp (by first | assumption | lia | grind) fki5
        refine g_iload dX2_tryReaching_39 rfl ?_
        refine g_bipush (v := 10) dX2_tryReaching_41 (by decide) ?_
        refine g_aload_n dX2_tryReaching_43 rfl ?_
        refine f_X2_44 rfl rfl dX2_tryReaching_44 ?_
        refine g_topi (fun x7 ex7 => ?_)
        have rx7 : 0 ≤ x7 ∧ x7 ≤ 8 := by rw [ex7]; exact iv_at hu6 _ _ rfl
        have s8 : u6.1 13 0 = x7 := ex7.symm
        refine g_iadd dX2_tryReaching_47 ?_
        refine g_topi (fun x9 ex9 => ?_)
        refine g_icmp_ge (tgt := 125) dX2_tryReaching_48 (by decide) (fun c10 => ?_) (fun c10 => ?_)
        · refine g_iconst (v := 0) dX2_tryReaching_125 (by decide) ?_
          exact g_iret (ty := .boolean) dX2_tryReaching_126 rfl rfl ⟨⟨⟨0, rfl, Or.inl rfl, fun q => absurd rfl q, fun _ => by first | trivial | lia | grind⟩, hu6, fu6⟩, ee_i (by subst ex9; subst ex7; exact hki5.trans ((if_pos c10).trans (rfl)))⟩
        · refine g_aload_n dX2_tryReaching_51 rfl ?_
          refine g_iload dX2_tryReaching_52 rfl ?_
          refine cl_X2_45 (c := 13) (As := [.int i5]) rfl (x_X0_isAble (G := G) hs hu6 uk_isK13 i5  (d + 4)) rfl (by omega) rfl rfl (Nat.le_of_ble_eq_true rfl) dX2_tryReaching_54 (fun r11 u12 q13 => ?_)
          obtain ⟨q13, Eq13⟩ := q13
          obtain ⟨⟨x14, rfl, tx14, nx14, zx14⟩, mq13⟩ := q13
          rw [mq13]
          have ex14 : x14 = (e_X0_isAble u6 13 i5) := ee_v Eq13
          refine g_if_eq (tgt := 119) dX2_tryReaching_57 (by decide) (fun c15 => ?_) (fun c15 => ?_)
          · have zc15 := zx14 c15
            refine g_iinc (v := i5 + 1) dX2_tryReaching_119 rfl rfl (by decide) ?_
            refine g_pick (lv' := [(0, .ref (uk_ad G 46)), (1, .ref (uk_ad G 13)), (2, .int m), (3, .int n), (4, .int g), (5, .int 0), (6, .int (i5 + 1))]) [0, 1, 2, 3, 4, 5, 6] rfl ?_
            refine g_goto (tgt := 39) dX2_tryReaching_122 (by decide) ?_
            refine g_pick (lv' := [(0, .ref (uk_ad G 46)), (1, .ref (uk_ad G 13)), (2, .int m), (3, .int n), (4, .int g), (5, .int 0), (6, .int (i5 + 1))]) [0, 1, 2, 3, 4, 5, 6] rfl ?_
            exact ihi5 (by first | lia | grind)  u6 hu6 fu6  ⟨ki5, ee_Fs fki5 (by first | assumption | lia | grind), by subst ex14; subst ex9; subst ex7; exact hki5.trans ((if_neg c10).trans ((if_pos c15).trans (rfl)))⟩
          · have zc15 := nx14 c15
            refine g_iload dX2_tryReaching_60 rfl ?_
            refine g_if_eq (tgt := 78) dX2_tryReaching_62 (by decide) (fun c16 => ?_) (fun c16 => ?_)
            · refine g_aload_n dX2_tryReaching_78 rfl ?_
              refine f_X2_9 rfl rfl dX2_tryReaching_79 ?_
              refine g_iload dX2_tryReaching_82 rfl ?_
              refine g_iload dX2_tryReaching_84 rfl ?_
              have v17 : vp_in g 4 := uk_vin 4 rfl (by first | decide | lia | grind) (by first | decide | lia | grind)
              have b18 := uk_cl v17
              refine g_iast rfl rfl v17 dX2_tryReaching_86 ?_
              refine g_mem (fun u19 eu19 => ?_)
              have hu19 : iv u19 := by rw [eu19]; exact iv_upF hu6 (uk_pick1 _ (by omega))
              have fu19 : fr 13 49 u u19 := by rw [eu19]; exact fr_up fu6 (by omega) (by omega)
              refine g_aload_n dX2_tryReaching_87 rfl ?_
              refine g_iload dX2_tryReaching_88 rfl ?_
              refine cl_X2_53 (c := 13) (As := [.int i5]) rfl (x_X0_perform (G := G) hs hu19 uk_isK13 i5 (by first | trivial | decide | lia | grind) (d + 4)) rfl (by omega) rfl rfl (Nat.le_of_ble_eq_true rfl) dX2_tryReaching_90 (fun r20 u21 q22 => ?_)
              obtain ⟨q22, Eq22⟩ := q22
              obtain ⟨rfl, mq22⟩ := q22
              obtain ⟨hu21, gu21⟩ := mq22
              have fu21 : fr 13 49 u u21 := fr_tr fu19 gu21 (by omega) (by omega)
              have eu21 : u21 = e_X0_perform u19 13 i5 := Eq22
              refine g_aload_n dX2_tryReaching_93 rfl ?_
              refine g_aload_n dX2_tryReaching_94 rfl ?_
              refine g_iload_n dX2_tryReaching_95 rfl ?_
              refine g_iload_n dX2_tryReaching_96 rfl ?_
              refine g_iload dX2_tryReaching_97 rfl ?_
              refine g_iconst (v := 1) dX2_tryReaching_99 (by decide) ?_
              refine g_iadd dX2_tryReaching_100 ?_
              refine g_topi (fun x23 ex23 => ?_)
              refine cl_X2_60 (c := 46) (As := [.ref (uk_ad G 13), .int m, .int n, .int x23]) rfl (x_X2_tryReaching_3 (G := G) hs hu21  m n x23 (by first | trivial | decide | lia | grind) (by first | trivial | decide | lia | grind) (by first | trivial | decide | lia | grind) (by first | trivial | decide | lia | grind) (by first | trivial | decide | lia | grind) (by first | trivial | decide | lia | grind) (d)) rfl (by omega) rfl rfl (Nat.le_of_ble_eq_true rfl) dX2_tryReaching_101 (fun r24 u25 q26 => ?_)
              obtain ⟨q26, Eq26⟩ := q26
              obtain ⟨⟨x27, rfl, tx27, nx27, zx27⟩, mq26⟩ := q26
              obtain ⟨hu25, gu25⟩ := mq26
              have fu25 : fr 13 49 u u25 := fr_tr fu21 gu25 (by omega) (by omega)
              have ex27 : x27 = (e_X2_tryReaching_3 u21 m n x23).1 := ee_v Eq26.1
              have eu25 : u25 = (e_X2_tryReaching_3 u21 m n x23).2 := Eq26.2
              refine g_istore dX2_tryReaching_104 (by decide) ?_
              refine g_pick (lv' := [(0, .ref (uk_ad G 46)), (1, .ref (uk_ad G 13)), (2, .int m), (3, .int n), (4, .int g), (5, .int 0), (6, .int i5), (7, .int x27)]) [0, 1, 2, 3, 4, 5, 6, 7] rfl ?_
              refine g_aload_n dX2_tryReaching_106 rfl ?_
              refine g_iload dX2_tryReaching_107 rfl ?_
              refine cl_X2_57 (c := 13) (As := [.int i5]) rfl (x_X0_undo (G := G) hs hu25 uk_isK13 i5 (by first | trivial | decide | lia | grind) (d + 4)) rfl (by omega) rfl rfl (Nat.le_of_ble_eq_true rfl) dX2_tryReaching_109 (fun r28 u29 q30 => ?_)
              obtain ⟨q30, Eq30⟩ := q30
              obtain ⟨rfl, mq30⟩ := q30
              obtain ⟨hu29, gu29⟩ := mq30
              have fu29 : fr 13 49 u u29 := fr_tr fu25 gu29 (by omega) (by omega)
              have eu29 : u29 = e_X0_undo u25 13 i5 := Eq30
              refine g_iload dX2_tryReaching_112 rfl ?_
              refine g_if_eq (tgt := 119) dX2_tryReaching_114 (by decide) (fun c31 => ?_) (fun c31 => ?_)
              · have zc31 := zx27 c31
                refine g_iinc (v := i5 + 1) dX2_tryReaching_119 rfl rfl (by decide) ?_
                refine g_pick (lv' := [(0, .ref (uk_ad G 46)), (1, .ref (uk_ad G 13)), (2, .int m), (3, .int n), (4, .int g), (5, .int 0), (6, .int (i5 + 1)), (7, .int x27)]) [0, 1, 2, 3, 4, 5, 6, 7] rfl ?_
                refine g_goto (tgt := 39) dX2_tryReaching_122 (by decide) ?_
                refine g_pick (lv' := [(0, .ref (uk_ad G 46)), (1, .ref (uk_ad G 13)), (2, .int m), (3, .int n), (4, .int g), (5, .int 0), (6, .int (i5 + 1))]) [0, 1, 2, 3, 4, 5, 6] rfl ?_
                exact ihi5 (by first | lia | grind)  u29 hu29 fu29  ⟨ki5, ee_Fs fki5 (by first | assumption | lia | grind), by subst eu29; subst eu25; subst ex27; subst ex23; subst eu21; subst eu19; subst ex14; subst ex9; subst ex7; exact hki5.trans ((if_neg c10).trans ((if_neg c15).trans ((if_pos c31).trans (rfl))))⟩
              · have zc31 := nx27 c31
                refine g_iconst (v := 1) dX2_tryReaching_117 (by decide) ?_
                exact g_iret (ty := .boolean) dX2_tryReaching_118 rfl rfl ⟨⟨⟨1, rfl, Or.inr rfl, fun _ => by first | trivial | lia | grind, fun q => absurd q (by decide)⟩, hu29, fu29⟩, ee_i (by subst eu29; subst eu25; subst ex27; subst ex23; subst eu21; subst eu19; subst ex14; subst ex9; subst ex7; exact hki5.trans ((if_neg c10).trans ((if_neg c15).trans ((if_neg c31).trans (rfl)))))⟩
            · exact absurd c16 (by decide)
      refine g_pick (lv' := [(0, .ref (uk_ad G 46)), (1, .ref (uk_ad G 13)), (2, .int m), (3, .int n), (4, .int g), (5, .int 0), (6, .int 0)]) [0, 1, 2, 3, 4, 5, 6] rfl ?_
      exact L39_3 0 (by first | decide | lia | grind) (by first | decide | lia | grind)  u hu f0  ⟨ee_K, ee_F0 _ _, by subst ex2; exact (if_pos c1).trans ((if_neg c3).trans (rfl))⟩
    · refine g_iconst (v := 1) dX2_tryReaching_29 (by decide) ?_
      refine g_goto (tgt := 34) dX2_tryReaching_30 (by decide) ?_
      refine g_istore dX2_tryReaching_34 (by decide) ?_
      refine g_pick (lv' := [(0, .ref (uk_ad G 46)), (1, .ref (uk_ad G 13)), (2, .int m), (3, .int n), (4, .int g), (5, .int 1)]) [0, 1, 2, 3, 4, 5] rfl ?_
      refine g_iconst (v := 0) dX2_tryReaching_36 (by decide) ?_
      refine g_istore dX2_tryReaching_37 (by decide) ?_
      refine g_pick (lv' := [(0, .ref (uk_ad G 46)), (1, .ref (uk_ad G 13)), (2, .int m), (3, .int n), (4, .int g), (5, .int 1), (6, .int 0)]) [0, 1, 2, 3, 4, 5, 6] rfl ?_
      have L39_31 : ∀ i33 : Int32, 0 ≤ i33 → i33 ≤ 18 → ∀ (u34 : uk_Mem), iv u34 → fr 13 49 u u34 → (∃ ki33 : Nat, ee_F 18 i33 ki33 ∧ e_X2_tryReaching_4 u m n g = l_X2_tryReaching_4_39_1 m g n ki33 i33 u34) → uk_G G X mX2_tryReaching (d + 7) (qe_X2_tryReaching_4 u m n g) 39 [(0, .ref (uk_ad G 46)), (1, .ref (uk_ad G 13)), (2, .int m), (3, .int n), (4, .int g), (5, .int 1), (6, .int i33)] [] u34 := by
        refine uk_upl 18 ?_
        intro i33 ai33 bi33 ihi33  u34 hu34 fu34 jEi33
        obtain ⟨ki33, fki33, hki33⟩ := jEi33
        obtain ⟨ki33, rfl⟩ := ee_Fp (by first | assumption | lia | grind) fki33
        refine g_iload dX2_tryReaching_39 rfl ?_
        refine g_bipush (v := 10) dX2_tryReaching_41 (by decide) ?_
        refine g_aload_n dX2_tryReaching_43 rfl ?_
        refine f_X2_44 rfl rfl dX2_tryReaching_44 ?_
        refine g_topi (fun x35 ex35 => ?_)
        have rx35 : 0 ≤ x35 ∧ x35 ≤ 8 := by rw [ex35]; exact iv_at hu34 _ _ rfl
        have s36 : u34.1 13 0 = x35 := ex35.symm
        refine g_iadd dX2_tryReaching_47 ?_
        refine g_topi (fun x37 ex37 => ?_)
        refine g_icmp_ge (tgt := 125) dX2_tryReaching_48 (by decide) (fun c38 => ?_) (fun c38 => ?_)
        · refine g_iconst (v := 0) dX2_tryReaching_125 (by decide) ?_
          exact g_iret (ty := .boolean) dX2_tryReaching_126 rfl rfl ⟨⟨⟨0, rfl, Or.inl rfl, fun q => absurd rfl q, fun _ => by first | trivial | lia | grind⟩, hu34, fu34⟩, ee_i (by subst ex37; subst ex35; exact hki33.trans ((if_pos c38).trans (rfl)))⟩
        · refine g_aload_n dX2_tryReaching_51 rfl ?_
          refine g_iload dX2_tryReaching_52 rfl ?_
          refine cl_X2_45 (c := 13) (As := [.int i33]) rfl (x_X0_isAble (G := G) hs hu34 uk_isK13 i33  (d + 4)) rfl (by omega) rfl rfl (Nat.le_of_ble_eq_true rfl) dX2_tryReaching_54 (fun r39 u40 q41 => ?_)
          obtain ⟨q41, Eq41⟩ := q41
          obtain ⟨⟨x42, rfl, tx42, nx42, zx42⟩, mq41⟩ := q41
          rw [mq41]
          have ex42 : x42 = (e_X0_isAble u34 13 i33) := ee_v Eq41
          refine g_if_eq (tgt := 119) dX2_tryReaching_57 (by decide) (fun c43 => ?_) (fun c43 => ?_)
          · have zc43 := zx42 c43
            refine g_iinc (v := i33 + 1) dX2_tryReaching_119 rfl rfl (by decide) ?_
            refine g_pick (lv' := [(0, .ref (uk_ad G 46)), (1, .ref (uk_ad G 13)), (2, .int m), (3, .int n), (4, .int g), (5, .int 1), (6, .int (i33 + 1))]) [0, 1, 2, 3, 4, 5, 6] rfl ?_
            refine g_goto (tgt := 39) dX2_tryReaching_122 (by decide) ?_
            refine g_pick (lv' := [(0, .ref (uk_ad G 46)), (1, .ref (uk_ad G 13)), (2, .int m), (3, .int n), (4, .int g), (5, .int 1), (6, .int (i33 + 1))]) [0, 1, 2, 3, 4, 5, 6] rfl ?_
            exact ihi33 (by first | lia | grind)  u34 hu34 fu34  ⟨ki33, ee_Fs fki33 (by first | assumption | lia | grind), by subst ex42; subst ex37; subst ex35; exact hki33.trans ((if_neg c38).trans ((if_pos c43).trans (rfl)))⟩
          · have zc43 := nx42 c43
            refine g_iload dX2_tryReaching_60 rfl ?_
            refine g_if_eq (tgt := 78) dX2_tryReaching_62 (by decide) (fun c44 => ?_) (fun c44 => ?_)
            · exact absurd c44 (by decide)
            · refine g_aload_n dX2_tryReaching_65 rfl ?_
              refine g_iload dX2_tryReaching_66 rfl ?_
              refine g_iload_n dX2_tryReaching_68 rfl ?_
              refine cl_X2_67 (c := 13) (As := [.int i33, .int m]) rfl (x_X0_brings (G := G) hs hu34 uk_isK13 i33 m (by first | trivial | decide | lia | grind) (d + 5)) rfl (by omega) rfl rfl (Nat.le_of_ble_eq_true rfl) dX2_tryReaching_69 (fun r45 u46 q47 => ?_)
              obtain ⟨q47, Eq47⟩ := q47
              obtain ⟨⟨x48, rfl, tx48, nx48, zx48⟩, mq47⟩ := q47
              rw [mq47]
              have ex48 : x48 = (e_X0_brings u34 13 i33 m) := ee_v Eq47
              refine g_if_ne (tgt := 78) dX2_tryReaching_72 (by decide) (fun c49 => ?_) (fun c49 => ?_)
              · have zc49 := nx48 c49
                refine g_aload_n dX2_tryReaching_78 rfl ?_
                refine f_X2_9 rfl rfl dX2_tryReaching_79 ?_
                refine g_iload dX2_tryReaching_82 rfl ?_
                refine g_iload dX2_tryReaching_84 rfl ?_
                have v50 : vp_in g 4 := uk_vin 4 rfl (by first | decide | lia | grind) (by first | decide | lia | grind)
                have b51 := uk_cl v50
                refine g_iast rfl rfl v50 dX2_tryReaching_86 ?_
                refine g_mem (fun u52 eu52 => ?_)
                have hu52 : iv u52 := by rw [eu52]; exact iv_upF hu34 (uk_pick1 _ (by omega))
                have fu52 : fr 13 49 u u52 := by rw [eu52]; exact fr_up fu34 (by omega) (by omega)
                refine g_aload_n dX2_tryReaching_87 rfl ?_
                refine g_iload dX2_tryReaching_88 rfl ?_
                refine cl_X2_53 (c := 13) (As := [.int i33]) rfl (x_X0_perform (G := G) hs hu52 uk_isK13 i33 (by first | trivial | decide | lia | grind) (d + 4)) rfl (by omega) rfl rfl (Nat.le_of_ble_eq_true rfl) dX2_tryReaching_90 (fun r53 u54 q55 => ?_)
                obtain ⟨q55, Eq55⟩ := q55
                obtain ⟨rfl, mq55⟩ := q55
                obtain ⟨hu54, gu54⟩ := mq55
                have fu54 : fr 13 49 u u54 := fr_tr fu52 gu54 (by omega) (by omega)
                have eu54 : u54 = e_X0_perform u52 13 i33 := Eq55
                refine g_aload_n dX2_tryReaching_93 rfl ?_
                refine g_aload_n dX2_tryReaching_94 rfl ?_
                refine g_iload_n dX2_tryReaching_95 rfl ?_
                refine g_iload_n dX2_tryReaching_96 rfl ?_
                refine g_iload dX2_tryReaching_97 rfl ?_
                refine g_iconst (v := 1) dX2_tryReaching_99 (by decide) ?_
                refine g_iadd dX2_tryReaching_100 ?_
                refine g_topi (fun x56 ex56 => ?_)
                refine cl_X2_60 (c := 46) (As := [.ref (uk_ad G 13), .int m, .int n, .int x56]) rfl (x_X2_tryReaching_3 (G := G) hs hu54  m n x56 (by first | trivial | decide | lia | grind) (by first | trivial | decide | lia | grind) (by first | trivial | decide | lia | grind) (by first | trivial | decide | lia | grind) (by first | trivial | decide | lia | grind) (by first | trivial | decide | lia | grind) (d)) rfl (by omega) rfl rfl (Nat.le_of_ble_eq_true rfl) dX2_tryReaching_101 (fun r57 u58 q59 => ?_)
                obtain ⟨q59, Eq59⟩ := q59
                obtain ⟨⟨x60, rfl, tx60, nx60, zx60⟩, mq59⟩ := q59
                obtain ⟨hu58, gu58⟩ := mq59
                have fu58 : fr 13 49 u u58 := fr_tr fu54 gu58 (by omega) (by omega)
                have ex60 : x60 = (e_X2_tryReaching_3 u54 m n x56).1 := ee_v Eq59.1
                have eu58 : u58 = (e_X2_tryReaching_3 u54 m n x56).2 := Eq59.2
                refine g_istore dX2_tryReaching_104 (by decide) ?_
                refine g_pick (lv' := [(0, .ref (uk_ad G 46)), (1, .ref (uk_ad G 13)), (2, .int m), (3, .int n), (4, .int g), (5, .int 1), (6, .int i33), (7, .int x60)]) [0, 1, 2, 3, 4, 5, 6, 7] rfl ?_
                refine g_aload_n dX2_tryReaching_106 rfl ?_
                refine g_iload dX2_tryReaching_107 rfl ?_
                refine cl_X2_57 (c := 13) (As := [.int i33]) rfl (x_X0_undo (G := G) hs hu58 uk_isK13 i33 (by first | trivial | decide | lia | grind) (d + 4)) rfl (by omega) rfl rfl (Nat.le_of_ble_eq_true rfl) dX2_tryReaching_109 (fun r61 u62 q63 => ?_)
                obtain ⟨q63, Eq63⟩ := q63
                obtain ⟨rfl, mq63⟩ := q63
                obtain ⟨hu62, gu62⟩ := mq63
                have fu62 : fr 13 49 u u62 := fr_tr fu58 gu62 (by omega) (by omega)
                have eu62 : u62 = e_X0_undo u58 13 i33 := Eq63
                refine g_iload dX2_tryReaching_112 rfl ?_
                refine g_if_eq (tgt := 119) dX2_tryReaching_114 (by decide) (fun c64 => ?_) (fun c64 => ?_)
                · have zc64 := zx60 c64
                  refine g_iinc (v := i33 + 1) dX2_tryReaching_119 rfl rfl (by decide) ?_
                  refine g_pick (lv' := [(0, .ref (uk_ad G 46)), (1, .ref (uk_ad G 13)), (2, .int m), (3, .int n), (4, .int g), (5, .int 1), (6, .int (i33 + 1)), (7, .int x60)]) [0, 1, 2, 3, 4, 5, 6, 7] rfl ?_
                  refine g_goto (tgt := 39) dX2_tryReaching_122 (by decide) ?_
                  refine g_pick (lv' := [(0, .ref (uk_ad G 46)), (1, .ref (uk_ad G 13)), (2, .int m), (3, .int n), (4, .int g), (5, .int 1), (6, .int (i33 + 1))]) [0, 1, 2, 3, 4, 5, 6] rfl ?_
                  exact ihi33 (by first | lia | grind)  u62 hu62 fu62  ⟨ki33, ee_Fs fki33 (by first | assumption | lia | grind), by subst eu62; subst eu58; subst ex60; subst ex56; subst eu54; subst eu52; subst ex48; subst ex42; subst ex37; subst ex35; exact hki33.trans ((if_neg c38).trans ((if_neg c43).trans ((if_neg c49).trans ((if_pos c64).trans (rfl)))))⟩
                · have zc64 := nx60 c64
                  refine g_iconst (v := 1) dX2_tryReaching_117 (by decide) ?_
                  exact g_iret (ty := .boolean) dX2_tryReaching_118 rfl rfl ⟨⟨⟨1, rfl, Or.inr rfl, fun _ => by first | trivial | lia | grind, fun q => absurd q (by decide)⟩, hu62, fu62⟩, ee_i (by subst eu62; subst eu58; subst ex60; subst ex56; subst eu54; subst eu52; subst ex48; subst ex42; subst ex37; subst ex35; exact hki33.trans ((if_neg c38).trans ((if_neg c43).trans ((if_neg c49).trans ((if_neg c64).trans (rfl))))))⟩
              · have zc49 := zx48 c49
                refine g_goto (tgt := 119) dX2_tryReaching_75 (by decide) ?_
                refine g_iinc (v := i33 + 1) dX2_tryReaching_119 rfl rfl (by decide) ?_
                refine g_pick (lv' := [(0, .ref (uk_ad G 46)), (1, .ref (uk_ad G 13)), (2, .int m), (3, .int n), (4, .int g), (5, .int 1), (6, .int (i33 + 1))]) [0, 1, 2, 3, 4, 5, 6] rfl ?_
                refine g_goto (tgt := 39) dX2_tryReaching_122 (by decide) ?_
                refine g_pick (lv' := [(0, .ref (uk_ad G 46)), (1, .ref (uk_ad G 13)), (2, .int m), (3, .int n), (4, .int g), (5, .int 1), (6, .int (i33 + 1))]) [0, 1, 2, 3, 4, 5, 6] rfl ?_
                exact ihi33 (by first | lia | grind)  u34 hu34 fu34  ⟨ki33, ee_Fs fki33 (by first | assumption | lia | grind), by subst ex48; subst ex42; subst ex37; subst ex35; exact hki33.trans ((if_neg c38).trans ((if_neg c43).trans ((if_pos c49).trans (rfl))))⟩
      refine g_pick (lv' := [(0, .ref (uk_ad G 46)), (1, .ref (uk_ad G 13)), (2, .int m), (3, .int n), (4, .int g), (5, .int 1), (6, .int 0)]) [0, 1, 2, 3, 4, 5, 6] rfl ?_
      exact L39_31 0 (by first | decide | lia | grind) (by first | decide | lia | grind)  u hu f0  ⟨ee_K, ee_F0 _ _, by subst ex2; exact (if_pos c1).trans ((if_pos c3).trans (rfl))⟩
  · refine g_aload_n dX2_tryReaching_6 rfl ?_
    refine f_X2_64 rfl rfl dX2_tryReaching_7 ?_
    refine g_iload_n dX2_tryReaching_10 rfl ?_
    have v65 : vp_in m 8 := uk_vin 8 rfl (by first | decide | lia | grind) (by first | decide | lia | grind)
    refine g_iald rfl rfl v65 dX2_tryReaching_11 ?_
    refine g_topi (fun x66 ex66 => ?_)
    refine g_if_le (tgt := 19) dX2_tryReaching_12 (by decide) (fun c67 => ?_) (fun c67 => ?_)
    · refine g_iconst (v := 0) dX2_tryReaching_19 (by decide) ?_
      exact g_iret (ty := .boolean) dX2_tryReaching_20 rfl rfl ⟨⟨⟨0, rfl, Or.inl rfl, fun q => absurd rfl q, fun _ => by first | trivial | lia | grind⟩, hu, f0⟩, ee_i (by subst ex66; exact (if_neg c1).trans ((if_pos c67).trans (rfl)))⟩
    · refine g_iconst (v := 1) dX2_tryReaching_15 (by decide) ?_
      refine g_goto (tgt := 20) dX2_tryReaching_16 (by decide) ?_
      exact g_iret (ty := .boolean) dX2_tryReaching_20 rfl rfl ⟨⟨⟨1, rfl, Or.inr rfl, fun _ => by first | trivial | lia | grind, fun q => absurd q (by decide)⟩, hu, f0⟩, ee_i (by subst ex66; exact (if_neg c1).trans ((if_neg c67).trans (rfl)))⟩
def e_X2_tryReaching (u : uk_Mem) (m : Int32) (n : Int32) (g : Int32) : Int32 × uk_Mem := if g = n then e_X2_tryReaching_0 u m n g else if g + 1 = n then e_X2_tryReaching_1 u m n g else if g + 2 = n then e_X2_tryReaching_2 u m n g else if g + 3 = n then e_X2_tryReaching_3 u m n g else e_X2_tryReaching_4 u m n g
abbrev qe_X2_tryReaching (u : uk_Mem) (m : Int32) (n : Int32) (g : Int32) (r : Option Value) (u' : uk_Mem) : Prop := (q_X2_tryReaching u m n g r u') ∧ (r = some (.int (e_X2_tryReaching u m n g).1) ∧ u' = (e_X2_tryReaching u m n g).2)
theorem x_X2_tryReaching {G : uk_D} (hs : uk_Sep G) {u : uk_Mem} (hu : iv u) (m : Int32) (n : Int32) (g : Int32) (p0 : 0 ≤ m) (p1 : m ≤ 7) (p2 : 0 ≤ g) (p3 : g ≤ n) (p4 : n ≤ 4) (d : Nat) : uk_Meth G (d + 7) mX2_tryReaching [.ref (uk_ad G 46), .ref (uk_ad G 13), .int m, .int n, .int g] u (qe_X2_tryReaching u m n g) := by
  have hc : g = n ∨ g + 1 = n ∨ g + 2 = n ∨ g + 3 = n ∨ g + 4 = n := by grind
  rcases hc with q | q | q | q | q
  · have e : e_X2_tryReaching u m n g = e_X2_tryReaching_0 u m n g := by
      unfold e_X2_tryReaching
      rw [if_pos q]
    exact uk_Meth.imp (x_X2_tryReaching_0 hs hu m n g p0 p1 p2 (by grind) p4 q (d + 4)) (fun r u' h => ⟨h.1, by rw [e]; exact h.2⟩)
  · have e : e_X2_tryReaching u m n g = e_X2_tryReaching_1 u m n g := by
      unfold e_X2_tryReaching
      rw [if_neg (by grind)]
      rw [if_pos q]
    exact uk_Meth.imp (x_X2_tryReaching_1 hs hu m n g p0 p1 p2 (by grind) p4 q (d + 3)) (fun r u' h => ⟨h.1, by rw [e]; exact h.2⟩)
  · have e : e_X2_tryReaching u m n g = e_X2_tryReaching_2 u m n g := by
      unfold e_X2_tryReaching
      rw [if_neg (by grind)]
      rw [if_neg (by grind)]
      rw [if_pos q]
    exact uk_Meth.imp (x_X2_tryReaching_2 hs hu m n g p0 p1 p2 (by grind) p4 q (d + 2)) (fun r u' h => ⟨h.1, by rw [e]; exact h.2⟩)
  · have e : e_X2_tryReaching u m n g = e_X2_tryReaching_3 u m n g := by
      unfold e_X2_tryReaching
      rw [if_neg (by grind)]
      rw [if_neg (by grind)]
      rw [if_neg (by grind)]
      rw [if_pos q]
    exact uk_Meth.imp (x_X2_tryReaching_3 hs hu m n g p0 p1 p2 (by grind) p4 q (d + 1)) (fun r u' h => ⟨h.1, by rw [e]; exact h.2⟩)
  · have e : e_X2_tryReaching u m n g = e_X2_tryReaching_4 u m n g := by
      unfold e_X2_tryReaching
      rw [if_neg (by grind)]
      rw [if_neg (by grind)]
      rw [if_neg (by grind)]
      rw [if_neg (by grind)]
    exact uk_Meth.imp (x_X2_tryReaching_4 hs hu m n g p0 p1 p2 (by grind) p4 q (d + 0)) (fun r u' h => ⟨h.1, by rw [e]; exact h.2⟩)
def l_X2_findRichest_29 (n : Int32) (x15 : Int32) : Nat → Int32 → uk_Mem → uk_Mem
  | 0, _, u18 => u18
  | K9 + 1, i17, u18 => if n < i17 then (u18) else (let u21 : uk_Mem := e_X2_tryRicher u18 i17 (0 : Int32) x15; l_X2_findRichest_29 n x15 K9 (i17 + 1) u21)
def e_X2_findRichest (u : uk_Mem) (n : Int32) : uk_Mem := let u1 : uk_Mem := uk_up u 46 2 (0 : Int32); let x6 : Int32 := (e_X0_allFeeds u1 13); let u7 : uk_Mem := uk_up u1 46 3 x6; let x12 : Int32 := (e_X0_gainBound u7 13); let u13 : uk_Mem := uk_up u7 46 4 x12; let x15 : Int32 := u13.1 46 3; l_X2_findRichest_29 n x15 ee_K (1 : Int32) u13
abbrev qe_X2_findRichest (u : uk_Mem) (n : Int32) (r : Option Value) (u' : uk_Mem) : Prop := (q_X2_findRichest u n r u') ∧ (u' = e_X2_findRichest u n)
set_option maxHeartbeats 4000000 in
set_option maxRecDepth 20000 in
theorem x_X2_findRichest {G : uk_D} (hs : uk_Sep G) {u : uk_Mem} (hu : iv u) (n : Int32) (p0 : 0 ≤ n) (p1 : n ≤ 4) (d : Nat) : uk_Meth G (d + 8) mX2_findRichest [.ref (uk_ad G 46), .ref (uk_ad G 13), .int n] u (qe_X2_findRichest u n) := by
  refine uk_Meth.of hs (by decide) (Nat.le_of_ble_eq_true rfl) (fun X => ?_)
  have f0 : fr 13 49 u u := fr_rf
  refine g_aload_n dX2_findRichest_0 rfl ?_
  refine g_iconst (v := 0) dX2_findRichest_1 (by decide) ?_
  refine p_X2_18 rfl rfl dX2_findRichest_2 ?_
  refine g_mem (fun u1 eu1 => ?_)
  have hu1 : iv u1 := by rw [eu1]; exact iv_up hu rfl (by first | lia | grind) (by first | lia | grind)
  have fu1 : fr 13 49 u u1 := by rw [eu1]; exact fr_up f0 (by omega) (by omega)
  have s2 : u1.1 46 2 = 0 := by rw [eu1, uk_up_at]; exact if_pos ⟨rfl, rfl⟩
  refine g_aload_n dX2_findRichest_5 rfl ?_
  refine g_aload_n dX2_findRichest_6 rfl ?_
  refine cl_X2_28 (c := 13) (As := []) rfl (x_X0_allFeeds (G := G) hs hu1 uk_isK13   (d + 7)) rfl (by omega) rfl rfl (Nat.le_of_ble_eq_true rfl) dX2_findRichest_7 (fun r3 u4 q5 => ?_)
  obtain ⟨q5, Eq5⟩ := q5
  obtain ⟨⟨x6, rfl, tx6⟩, mq5⟩ := q5
  rw [mq5]
  have ex6 : x6 = (e_X0_allFeeds u1 13) := ee_v Eq5
  refine p_X2_22 rfl rfl dX2_findRichest_10 ?_
  refine g_mem (fun u7 eu7 => ?_)
  have hu7 : iv u7 := by rw [eu7]; exact iv_upF hu1 rfl
  have fu7 : fr 13 49 u u7 := by rw [eu7]; exact fr_up fu1 (by omega) (by omega)
  have s8 : u7.1 46 3 = x6 := by rw [eu7, uk_up_at]; exact if_pos ⟨rfl, rfl⟩
  refine g_aload_n dX2_findRichest_13 rfl ?_
  refine g_aload_n dX2_findRichest_14 rfl ?_
  refine cl_X2_34 (c := 13) (As := []) rfl (x_X0_gainBound (G := G) hs hu7 uk_isK13   (d + 5)) rfl (by omega) rfl rfl (Nat.le_of_ble_eq_true rfl) dX2_findRichest_15 (fun r9 u10 q11 => ?_)
  obtain ⟨q11, Eq11⟩ := q11
  obtain ⟨⟨x12, rfl, tx12⟩, mq11⟩ := q11
  rw [mq11]
  have ex12 : x12 = (e_X0_gainBound u7 13) := ee_v Eq11
  refine p_X2_25 rfl rfl dX2_findRichest_18 ?_
  refine g_mem (fun u13 eu13 => ?_)
  have hu13 : iv u13 := by rw [eu13]; exact iv_upF hu7 rfl
  have fu13 : fr 13 49 u u13 := by rw [eu13]; exact fr_up fu7 (by omega) (by omega)
  have s14 : u13.1 46 4 = x12 := by rw [eu13, uk_up_at]; exact if_pos ⟨rfl, rfl⟩
  refine g_aload_n dX2_findRichest_21 rfl ?_
  refine f_X2_22 rfl rfl dX2_findRichest_22 ?_
  refine g_topi (fun x15 ex15 => ?_)
  have qx15 : x15 = x6 := by rw [ex15]; simp [eu13, uk_up_at, s8]
  refine g_istore_n dX2_findRichest_25 (by decide) ?_
  refine g_pick (lv' := [(0, .ref (uk_ad G 46)), (1, .ref (uk_ad G 13)), (2, .int n), (3, .int x15)]) [0, 1, 2, 3] rfl ?_
  refine g_iconst (v := 1) dX2_findRichest_26 (by decide) ?_
  refine g_istore dX2_findRichest_27 (by decide) ?_
  refine g_pick (lv' := [(0, .ref (uk_ad G 46)), (1, .ref (uk_ad G 13)), (2, .int n), (3, .int x15), (4, .int 1)]) [0, 1, 2, 3, 4] rfl ?_
  have L29_15 : ∀ i17 : Int32, 0 ≤ i17 → i17 ≤ 5 → ∀ (u18 : uk_Mem), iv u18 → fr 13 49 u u18 → 1 ≤ i17 → (∃ ki17 : Nat, ee_F 5 i17 ki17 ∧ e_X2_findRichest u n = l_X2_findRichest_29 n x15 ki17 i17 u18) → uk_G G X mX2_findRichest (d + 8) (qe_X2_findRichest u n) 29 [(0, .ref (uk_ad G 46)), (1, .ref (uk_ad G 13)), (2, .int n), (3, .int x15), (4, .int i17)] [] u18 := by
    refine uk_upl 5 ?_
    intro i17 ai17 bi17 ihi17  u18 hu18 fu18 ji170 jEi17
    obtain ⟨ki17, fki17, hki17⟩ := jEi17
    obtain ⟨ki17, rfl⟩ := ee_Fp (by first | assumption | lia | grind) fki17
    refine g_iload dX2_findRichest_29 rfl ?_
    refine g_iload_n dX2_findRichest_31 rfl ?_
    refine g_icmp_gt (tgt := 50) dX2_findRichest_32 (by decide) (fun c19 => ?_) (fun c19 => ?_)
    · exact g_vret dX2_findRichest_50 rfl ⟨⟨rfl, hu18, fu18⟩, (by exact hki17.trans ((if_pos c19).trans (rfl)) : e_X2_findRichest u n = u18).symm⟩
    · refine g_aload_n dX2_findRichest_35 rfl ?_
      refine g_aload_n dX2_findRichest_36 rfl ?_
      refine g_iload dX2_findRichest_37 rfl ?_
      refine g_iconst (v := 0) dX2_findRichest_39 (by decide) ?_
      refine g_iload_n dX2_findRichest_40 rfl ?_
      refine cl_X2_36 (c := 46) (As := [.ref (uk_ad G 13), .int i17, .int 0, .int x15]) rfl (x_X2_tryRicher (G := G) hs hu18  i17 0 x15 (by first | trivial | decide | lia | grind) (by first | trivial | decide | lia | grind) (by first | trivial | decide | lia | grind) (d)) rfl (by omega) rfl rfl (Nat.le_of_ble_eq_true rfl) dX2_findRichest_41 (fun r20 u21 q22 => ?_)
      obtain ⟨q22, Eq22⟩ := q22
      obtain ⟨rfl, mq22⟩ := q22
      obtain ⟨hu21, gu21⟩ := mq22
      have fu21 : fr 13 49 u u21 := fr_tr fu18 gu21 (by omega) (by omega)
      have eu21 : u21 = e_X2_tryRicher u18 i17 (0 : Int32) x15 := Eq22
      refine g_iinc (v := i17 + 1) dX2_findRichest_44 rfl rfl (by decide) ?_
      refine g_pick (lv' := [(0, .ref (uk_ad G 46)), (1, .ref (uk_ad G 13)), (2, .int n), (3, .int x15), (4, .int (i17 + 1))]) [0, 1, 2, 3, 4] rfl ?_
      refine g_goto (tgt := 29) dX2_findRichest_47 (by decide) ?_
      refine g_pick (lv' := [(0, .ref (uk_ad G 46)), (1, .ref (uk_ad G 13)), (2, .int n), (3, .int x15), (4, .int (i17 + 1))]) [0, 1, 2, 3, 4] rfl ?_
      exact ihi17 (by first | lia | grind)  u21 hu21 fu21 (by first | trivial | lia | grind) ⟨ki17, ee_Fs fki17 (by first | assumption | lia | grind), by subst eu21; exact hki17.trans ((if_neg c19).trans (rfl))⟩
  refine g_pick (lv' := [(0, .ref (uk_ad G 46)), (1, .ref (uk_ad G 13)), (2, .int n), (3, .int x15), (4, .int 1)]) [0, 1, 2, 3, 4] rfl ?_
  exact L29_15 1 (by first | decide | lia | grind) (by first | decide | lia | grind)  u13 hu13 fu13 (by first | trivial | lia | grind) ⟨ee_K, ee_F0 _ _, by subst ex15; subst eu13; subst ex12; subst eu7; subst ex6; subst eu1; exact rfl⟩
def l_X2_findFewest_2 (m : Int32) : Nat → Int32 → uk_Mem → Int32 × uk_Mem
  | 0, _, u3 => (0, u3)
  | K9 + 1, i2, u3 => if (4 : Int32) < i2 then (((0 : Int32), u3)) else (let x8 : Int32 := (e_X2_tryReaching u3 m i2 (0 : Int32)).1; let u6 : uk_Mem := (e_X2_tryReaching u3 m i2 (0 : Int32)).2; if x8 = 0 then (l_X2_findFewest_2 m K9 (i2 + 1) u6) else (let u11 : uk_Mem := e_X2_keepPath u6 i2 (0 : Int32); ((1 : Int32), u11)))
def e_X2_findFewest (u : uk_Mem) (m : Int32) : Int32 × uk_Mem := l_X2_findFewest_2 m ee_K (0 : Int32) u
abbrev qe_X2_findFewest (u : uk_Mem) (m : Int32) (r : Option Value) (u' : uk_Mem) : Prop := (q_X2_findFewest u m r u') ∧ (r = some (.int (e_X2_findFewest u m).1) ∧ u' = (e_X2_findFewest u m).2)
set_option maxHeartbeats 4000000 in
set_option maxRecDepth 20000 in
theorem x_X2_findFewest {G : uk_D} (hs : uk_Sep G) {u : uk_Mem} (hu : iv u) (m : Int32) (p0 : 0 ≤ m) (p1 : m ≤ 7) (d : Nat) : uk_Meth G (d + 8) mX2_findFewest [.ref (uk_ad G 46), .ref (uk_ad G 13), .int m] u (qe_X2_findFewest u m) := by
  refine uk_Meth.of hs (by decide) (Nat.le_of_ble_eq_true rfl) (fun X => ?_)
  have f0 : fr 13 49 u u := fr_rf
  refine g_iconst (v := 0) dX2_findFewest_0 (by decide) ?_
  refine g_istore_n dX2_findFewest_1 (by decide) ?_
  refine g_pick (lv' := [(0, .ref (uk_ad G 46)), (1, .ref (uk_ad G 13)), (2, .int m), (3, .int 0)]) [0, 1, 2, 3] rfl ?_
  have L2_0 : ∀ i2 : Int32, 0 ≤ i2 → i2 ≤ 5 → ∀ (u3 : uk_Mem), iv u3 → fr 13 49 u u3 → (∃ ki2 : Nat, ee_F 5 i2 ki2 ∧ e_X2_findFewest u m = l_X2_findFewest_2 m ki2 i2 u3) → uk_G G X mX2_findFewest (d + 8) (qe_X2_findFewest u m) 2 [(0, .ref (uk_ad G 46)), (1, .ref (uk_ad G 13)), (2, .int m), (3, .int i2)] [] u3 := by
    refine uk_upl 5 ?_
    intro i2 ai2 bi2 ihi2  u3 hu3 fu3 jEi2
    obtain ⟨ki2, fki2, hki2⟩ := jEi2
    obtain ⟨ki2, rfl⟩ := ee_Fp (by first | assumption | lia | grind) fki2
    refine g_iload_n dX2_findFewest_2 rfl ?_
    refine g_iconst (v := 4) dX2_findFewest_3 (by decide) ?_
    refine g_icmp_gt (tgt := 32) dX2_findFewest_4 (by decide) (fun c4 => ?_) (fun c4 => ?_)
    · refine g_iconst (v := 0) dX2_findFewest_32 (by decide) ?_
      exact g_iret (ty := .boolean) dX2_findFewest_33 rfl rfl ⟨⟨⟨0, rfl, Or.inl rfl, fun q => absurd rfl q, fun _ => by first | trivial | lia | grind⟩, hu3, fu3⟩, ee_i (by exact hki2.trans ((if_pos c4).trans (rfl)))⟩
    · refine g_aload_n dX2_findFewest_7 rfl ?_
      refine g_aload_n dX2_findFewest_8 rfl ?_
      refine g_iload_n dX2_findFewest_9 rfl ?_
      refine g_iload_n dX2_findFewest_10 rfl ?_
      refine g_iconst (v := 0) dX2_findFewest_11 (by decide) ?_
      refine cl_X2_60 (c := 46) (As := [.ref (uk_ad G 13), .int m, .int i2, .int 0]) rfl (x_X2_tryReaching (G := G) hs hu3  m i2 0 (by first | trivial | decide | lia | grind) (by first | trivial | decide | lia | grind) (by first | trivial | decide | lia | grind) (by first | trivial | decide | lia | grind) (by first | trivial | decide | lia | grind) (d)) rfl (by omega) rfl rfl (Nat.le_of_ble_eq_true rfl) dX2_findFewest_12 (fun r5 u6 q7 => ?_)
      obtain ⟨q7, Eq7⟩ := q7
      obtain ⟨⟨x8, rfl, tx8, nx8, zx8⟩, mq7⟩ := q7
      obtain ⟨hu6, gu6⟩ := mq7
      have fu6 : fr 13 49 u u6 := fr_tr fu3 gu6 (by omega) (by omega)
      have ex8 : x8 = (e_X2_tryReaching u3 m i2 (0 : Int32)).1 := ee_v Eq7.1
      have eu6 : u6 = (e_X2_tryReaching u3 m i2 (0 : Int32)).2 := Eq7.2
      refine g_if_eq (tgt := 26) dX2_findFewest_15 (by decide) (fun c9 => ?_) (fun c9 => ?_)
      · have zc9 := zx8 c9
        refine g_iinc (v := i2 + 1) dX2_findFewest_26 rfl rfl (by decide) ?_
        refine g_pick (lv' := [(0, .ref (uk_ad G 46)), (1, .ref (uk_ad G 13)), (2, .int m), (3, .int (i2 + 1))]) [0, 1, 2, 3] rfl ?_
        refine g_goto (tgt := 2) dX2_findFewest_29 (by decide) ?_
        refine g_pick (lv' := [(0, .ref (uk_ad G 46)), (1, .ref (uk_ad G 13)), (2, .int m), (3, .int (i2 + 1))]) [0, 1, 2, 3] rfl ?_
        exact ihi2 (by first | lia | grind)  u6 hu6 fu6  ⟨ki2, ee_Fs fki2 (by first | assumption | lia | grind), by subst eu6; subst ex8; exact hki2.trans ((if_neg c4).trans ((if_pos c9).trans (rfl)))⟩
      · have zc9 := nx8 c9
        refine g_aload_n dX2_findFewest_18 rfl ?_
        refine g_iload_n dX2_findFewest_19 rfl ?_
        refine g_iconst (v := 0) dX2_findFewest_20 (by decide) ?_
        refine cl_X2_40 (c := 46) (As := [.int i2, .int 0]) rfl (x_X2_keepPath (G := G) hs hu6  i2 0 (by first | trivial | decide | lia | grind) (by first | trivial | decide | lia | grind) (d + 7)) rfl (by omega) rfl rfl (Nat.le_of_ble_eq_true rfl) dX2_findFewest_21 (fun r10 u11 q12 => ?_)
        obtain ⟨q12, Eq12⟩ := q12
        obtain ⟨rfl, mq12⟩ := q12
        obtain ⟨hu11, gu11⟩ := mq12
        have fu11 : fr 13 49 u u11 := fr_tr fu6 gu11 (by omega) (by omega)
        have eu11 : u11 = e_X2_keepPath u6 i2 (0 : Int32) := Eq12
        refine g_iconst (v := 1) dX2_findFewest_24 (by decide) ?_
        exact g_iret (ty := .boolean) dX2_findFewest_25 rfl rfl ⟨⟨⟨1, rfl, Or.inr rfl, fun _ => by first | trivial | lia | grind, fun q => absurd q (by decide)⟩, hu11, fu11⟩, ee_i (by subst eu11; subst eu6; subst ex8; exact hki2.trans ((if_neg c4).trans ((if_neg c9).trans (rfl))))⟩
  refine g_pick (lv' := [(0, .ref (uk_ad G 46)), (1, .ref (uk_ad G 13)), (2, .int m), (3, .int 0)]) [0, 1, 2, 3] rfl ?_
  exact L2_0 0 (by first | decide | lia | grind) (by first | decide | lia | grind)  u hu f0  ⟨ee_K, ee_F0 _ _, by exact rfl⟩
def e_X6_best (u : uk_Mem) (k : Int32) (w : Int32) : Int32 × uk_Mem := if k < 0 then (((-1 : Int32), u)) else (if (4 : Int32) < k then (((-1 : Int32), u)) else (if w = 0 then (let u5 : uk_Mem := e_X2_findRichest u k; if w = 0 then (let x16 : Int32 := u5.1 46 3; (x16, u5)) else (if w = (1 : Int32) then (let x14 : Int32 := u5.1 46 2; (x14, u5)) else (let x9 : Int32 := w - (10 : Int32); let x13 : Int32 := (e_X2_doingAt u5 x9); (x13, u5)))) else (if w = (1 : Int32) then (let u20 : uk_Mem := e_X2_findRichest u k; if w = 0 then (let x31 : Int32 := u20.1 46 3; (x31, u20)) else (if w = (1 : Int32) then (let x29 : Int32 := u20.1 46 2; (x29, u20)) else (let x24 : Int32 := w - (10 : Int32); let x28 : Int32 := (e_X2_doingAt u20 x24); (x28, u20)))) else (if (10 : Int32) ≤ w then (let u35 : uk_Mem := e_X2_findRichest u k; if w = 0 then (let x46 : Int32 := u35.1 46 3; (x46, u35)) else (if w = (1 : Int32) then (let x44 : Int32 := u35.1 46 2; (x44, u35)) else (let x39 : Int32 := w - (10 : Int32); let x43 : Int32 := (e_X2_doingAt u35 x39); (x43, u35)))) else (((-1 : Int32), u))))))
abbrev qe_X6_best (u : uk_Mem) (k : Int32) (w : Int32) (r : Option Value) (u' : uk_Mem) : Prop := (q_X6_best u k w r u') ∧ (r = some (.int (e_X6_best u k w).1) ∧ u' = (e_X6_best u k w).2)
set_option maxHeartbeats 4000000 in
set_option maxRecDepth 20000 in
theorem x_X6_best {G : uk_D} (hs : uk_Sep G) {u : uk_Mem} (hu : iv u) (k : Int32) (w : Int32) (d : Nat) : uk_Meth G (d + 9) mX6_best [.ref (uk_ad G 0), .int k, .int w] u (qe_X6_best u k w) := by
  refine uk_Meth.of hs (by decide) (Nat.le_of_ble_eq_true rfl) (fun X => ?_)
  have f0 : fr 13 49 u u := fr_rf
  refine g_iload_n dX6_best_0 rfl ?_
  refine g_if_lt (tgt := 24) dX6_best_1 (by decide) (fun c1 => ?_) (fun c1 => ?_)
  · refine g_iconst (v := (-1)) dX6_best_24 (by decide) ?_
    exact g_iret (ty := .int) dX6_best_25 rfl rfl ⟨⟨⟨_, rfl, by first | trivial | lia | grind⟩, hu, f0⟩, ee_i (by exact (if_pos c1).trans (rfl))⟩
  · refine g_iload_n dX6_best_4 rfl ?_
    refine g_iconst (v := 4) dX6_best_5 (by decide) ?_
    refine g_icmp_gt (tgt := 24) dX6_best_6 (by decide) (fun c2 => ?_) (fun c2 => ?_)
    · refine g_iconst (v := (-1)) dX6_best_24 (by decide) ?_
      exact g_iret (ty := .int) dX6_best_25 rfl rfl ⟨⟨⟨_, rfl, by first | trivial | lia | grind⟩, hu, f0⟩, ee_i (by exact (if_neg c1).trans ((if_pos c2).trans (rfl)))⟩
    · refine g_iload_n dX6_best_9 rfl ?_
      refine g_if_eq (tgt := 26) dX6_best_10 (by decide) (fun c3 => ?_) (fun c3 => ?_)
      · refine g_aload_n dX6_best_26 rfl ?_
        refine f_X6_55 rfl rfl dX6_best_27 ?_
        refine g_aload_n dX6_best_30 rfl ?_
        refine f_X6_10 rfl rfl dX6_best_31 ?_
        refine g_iload_n dX6_best_34 rfl ?_
        refine cl_X6_208 (c := 46) (As := [.ref (uk_ad G 13), .int k]) rfl (x_X2_findRichest (G := G) hs hu  k (by first | trivial | decide | lia | grind) (by first | trivial | decide | lia | grind) (d)) rfl (by omega) rfl rfl (Nat.le_of_ble_eq_true rfl) dX6_best_35 (fun r4 u5 q6 => ?_)
        obtain ⟨q6, Eq6⟩ := q6
        obtain ⟨rfl, mq6⟩ := q6
        obtain ⟨hu5, gu5⟩ := mq6
        have fu5 : fr 13 49 u u5 := fr_tr f0 gu5 (by omega) (by omega)
        have eu5 : u5 = e_X2_findRichest u k := Eq6
        refine g_iload_n dX6_best_38 rfl ?_
        refine g_if_ne (tgt := 50) dX6_best_39 (by decide) (fun c7 => ?_) (fun c7 => ?_)
        · refine g_iload_n dX6_best_50 rfl ?_
          refine g_iconst (v := 1) dX6_best_51 (by decide) ?_
          refine g_icmp_ne (tgt := 65) dX6_best_52 (by decide) (fun c8 => ?_) (fun c8 => ?_)
          · refine g_aload_n dX6_best_65 rfl ?_
            refine f_X6_55 rfl rfl dX6_best_66 ?_
            refine g_iload_n dX6_best_69 rfl ?_
            refine g_bipush (v := 10) dX6_best_70 (by decide) ?_
            refine g_isub dX6_best_72 ?_
            refine g_topi (fun x9 ex9 => ?_)
            refine cl_X6_216 (c := 46) (As := [.int x9]) rfl (x_X2_doingAt (G := G) hs hu5  x9  (d + 8)) rfl (by omega) rfl rfl (Nat.le_of_ble_eq_true rfl) dX6_best_73 (fun r10 u11 q12 => ?_)
            obtain ⟨q12, Eq12⟩ := q12
            obtain ⟨⟨x13, rfl, tx13⟩, mq12⟩ := q12
            rw [mq12]
            have ex13 : x13 = (e_X2_doingAt u5 x9) := ee_v Eq12
            exact g_iret (ty := .int) dX6_best_76 rfl rfl ⟨⟨⟨_, rfl, by first | trivial | lia | grind⟩, hu5, fu5⟩, ee_i (by subst ex13; subst ex9; subst eu5; exact (if_neg c1).trans ((if_neg c2).trans ((if_pos c3).trans ((if_neg c7).trans ((if_neg c8).trans (rfl))))))⟩
          · refine g_aload_n dX6_best_55 rfl ?_
            refine f_X6_55 rfl rfl dX6_best_56 ?_
            refine f_X6_215 rfl rfl dX6_best_59 ?_
            refine g_topi (fun x14 ex14 => ?_)
            have rx14 : 0 ≤ x14 ∧ x14 ≤ 4 := by rw [ex14]; exact iv_at hu5 _ _ rfl
            have s15 : u5.1 46 2 = x14 := ex14.symm
            refine g_goto (tgt := 76) dX6_best_62 (by decide) ?_
            exact g_iret (ty := .int) dX6_best_76 rfl rfl ⟨⟨⟨_, rfl, by first | trivial | lia | grind⟩, hu5, fu5⟩, ee_i (by subst ex14; subst eu5; exact (if_neg c1).trans ((if_neg c2).trans ((if_pos c3).trans ((if_neg c7).trans ((if_pos c8).trans (rfl))))))⟩
        · refine g_aload_n dX6_best_42 rfl ?_
          refine f_X6_55 rfl rfl dX6_best_43 ?_
          refine f_X6_212 rfl rfl dX6_best_46 ?_
          refine g_topi (fun x16 ex16 => ?_)
          have s17 : u5.1 46 3 = x16 := ex16.symm
          exact g_iret (ty := .int) dX6_best_49 rfl rfl ⟨⟨⟨_, rfl, by first | trivial | lia | grind⟩, hu5, fu5⟩, ee_i (by subst ex16; subst eu5; exact (if_neg c1).trans ((if_neg c2).trans ((if_pos c3).trans ((if_pos c7).trans (rfl)))))⟩
      · refine g_iload_n dX6_best_13 rfl ?_
        refine g_iconst (v := 1) dX6_best_14 (by decide) ?_
        refine g_icmp_eq (tgt := 26) dX6_best_15 (by decide) (fun c18 => ?_) (fun c18 => ?_)
        · refine g_aload_n dX6_best_26 rfl ?_
          refine f_X6_55 rfl rfl dX6_best_27 ?_
          refine g_aload_n dX6_best_30 rfl ?_
          refine f_X6_10 rfl rfl dX6_best_31 ?_
          refine g_iload_n dX6_best_34 rfl ?_
          refine cl_X6_208 (c := 46) (As := [.ref (uk_ad G 13), .int k]) rfl (x_X2_findRichest (G := G) hs hu  k (by first | trivial | decide | lia | grind) (by first | trivial | decide | lia | grind) (d)) rfl (by omega) rfl rfl (Nat.le_of_ble_eq_true rfl) dX6_best_35 (fun r19 u20 q21 => ?_)
          obtain ⟨q21, Eq21⟩ := q21
          obtain ⟨rfl, mq21⟩ := q21
          obtain ⟨hu20, gu20⟩ := mq21
          have fu20 : fr 13 49 u u20 := fr_tr f0 gu20 (by omega) (by omega)
          have eu20 : u20 = e_X2_findRichest u k := Eq21
          refine g_iload_n dX6_best_38 rfl ?_
          refine g_if_ne (tgt := 50) dX6_best_39 (by decide) (fun c22 => ?_) (fun c22 => ?_)
          · refine g_iload_n dX6_best_50 rfl ?_
            refine g_iconst (v := 1) dX6_best_51 (by decide) ?_
            refine g_icmp_ne (tgt := 65) dX6_best_52 (by decide) (fun c23 => ?_) (fun c23 => ?_)
            · refine g_aload_n dX6_best_65 rfl ?_
              refine f_X6_55 rfl rfl dX6_best_66 ?_
              refine g_iload_n dX6_best_69 rfl ?_
              refine g_bipush (v := 10) dX6_best_70 (by decide) ?_
              refine g_isub dX6_best_72 ?_
              refine g_topi (fun x24 ex24 => ?_)
              refine cl_X6_216 (c := 46) (As := [.int x24]) rfl (x_X2_doingAt (G := G) hs hu20  x24  (d + 8)) rfl (by omega) rfl rfl (Nat.le_of_ble_eq_true rfl) dX6_best_73 (fun r25 u26 q27 => ?_)
              obtain ⟨q27, Eq27⟩ := q27
              obtain ⟨⟨x28, rfl, tx28⟩, mq27⟩ := q27
              rw [mq27]
              have ex28 : x28 = (e_X2_doingAt u20 x24) := ee_v Eq27
              exact g_iret (ty := .int) dX6_best_76 rfl rfl ⟨⟨⟨_, rfl, by first | trivial | lia | grind⟩, hu20, fu20⟩, ee_i (by subst ex28; subst ex24; subst eu20; exact (if_neg c1).trans ((if_neg c2).trans ((if_neg c3).trans ((if_pos c18).trans ((if_neg c22).trans ((if_neg c23).trans (rfl)))))))⟩
            · refine g_aload_n dX6_best_55 rfl ?_
              refine f_X6_55 rfl rfl dX6_best_56 ?_
              refine f_X6_215 rfl rfl dX6_best_59 ?_
              refine g_topi (fun x29 ex29 => ?_)
              have rx29 : 0 ≤ x29 ∧ x29 ≤ 4 := by rw [ex29]; exact iv_at hu20 _ _ rfl
              have s30 : u20.1 46 2 = x29 := ex29.symm
              refine g_goto (tgt := 76) dX6_best_62 (by decide) ?_
              exact g_iret (ty := .int) dX6_best_76 rfl rfl ⟨⟨⟨_, rfl, by first | trivial | lia | grind⟩, hu20, fu20⟩, ee_i (by subst ex29; subst eu20; exact (if_neg c1).trans ((if_neg c2).trans ((if_neg c3).trans ((if_pos c18).trans ((if_neg c22).trans ((if_pos c23).trans (rfl)))))))⟩
          · refine g_aload_n dX6_best_42 rfl ?_
            refine f_X6_55 rfl rfl dX6_best_43 ?_
            refine f_X6_212 rfl rfl dX6_best_46 ?_
            refine g_topi (fun x31 ex31 => ?_)
            have s32 : u20.1 46 3 = x31 := ex31.symm
            exact g_iret (ty := .int) dX6_best_49 rfl rfl ⟨⟨⟨_, rfl, by first | trivial | lia | grind⟩, hu20, fu20⟩, ee_i (by subst ex31; subst eu20; exact (if_neg c1).trans ((if_neg c2).trans ((if_neg c3).trans ((if_pos c18).trans ((if_pos c22).trans (rfl))))))⟩
        · refine g_iload_n dX6_best_18 rfl ?_
          refine g_bipush (v := 10) dX6_best_19 (by decide) ?_
          refine g_icmp_ge (tgt := 26) dX6_best_21 (by decide) (fun c33 => ?_) (fun c33 => ?_)
          · refine g_aload_n dX6_best_26 rfl ?_
            refine f_X6_55 rfl rfl dX6_best_27 ?_
            refine g_aload_n dX6_best_30 rfl ?_
            refine f_X6_10 rfl rfl dX6_best_31 ?_
            refine g_iload_n dX6_best_34 rfl ?_
            refine cl_X6_208 (c := 46) (As := [.ref (uk_ad G 13), .int k]) rfl (x_X2_findRichest (G := G) hs hu  k (by first | trivial | decide | lia | grind) (by first | trivial | decide | lia | grind) (d)) rfl (by omega) rfl rfl (Nat.le_of_ble_eq_true rfl) dX6_best_35 (fun r34 u35 q36 => ?_)
            obtain ⟨q36, Eq36⟩ := q36
            obtain ⟨rfl, mq36⟩ := q36
            obtain ⟨hu35, gu35⟩ := mq36
            have fu35 : fr 13 49 u u35 := fr_tr f0 gu35 (by omega) (by omega)
            have eu35 : u35 = e_X2_findRichest u k := Eq36
            refine g_iload_n dX6_best_38 rfl ?_
            refine g_if_ne (tgt := 50) dX6_best_39 (by decide) (fun c37 => ?_) (fun c37 => ?_)
            · refine g_iload_n dX6_best_50 rfl ?_
              refine g_iconst (v := 1) dX6_best_51 (by decide) ?_
              refine g_icmp_ne (tgt := 65) dX6_best_52 (by decide) (fun c38 => ?_) (fun c38 => ?_)
              · refine g_aload_n dX6_best_65 rfl ?_
                refine f_X6_55 rfl rfl dX6_best_66 ?_
                refine g_iload_n dX6_best_69 rfl ?_
                refine g_bipush (v := 10) dX6_best_70 (by decide) ?_
                refine g_isub dX6_best_72 ?_
                refine g_topi (fun x39 ex39 => ?_)
                refine cl_X6_216 (c := 46) (As := [.int x39]) rfl (x_X2_doingAt (G := G) hs hu35  x39  (d + 8)) rfl (by omega) rfl rfl (Nat.le_of_ble_eq_true rfl) dX6_best_73 (fun r40 u41 q42 => ?_)
                obtain ⟨q42, Eq42⟩ := q42
                obtain ⟨⟨x43, rfl, tx43⟩, mq42⟩ := q42
                rw [mq42]
                have ex43 : x43 = (e_X2_doingAt u35 x39) := ee_v Eq42
                exact g_iret (ty := .int) dX6_best_76 rfl rfl ⟨⟨⟨_, rfl, by first | trivial | lia | grind⟩, hu35, fu35⟩, ee_i (by subst ex43; subst ex39; subst eu35; exact (if_neg c1).trans ((if_neg c2).trans ((if_neg c3).trans ((if_neg c18).trans ((if_pos c33).trans ((if_neg c37).trans ((if_neg c38).trans (rfl))))))))⟩
              · refine g_aload_n dX6_best_55 rfl ?_
                refine f_X6_55 rfl rfl dX6_best_56 ?_
                refine f_X6_215 rfl rfl dX6_best_59 ?_
                refine g_topi (fun x44 ex44 => ?_)
                have rx44 : 0 ≤ x44 ∧ x44 ≤ 4 := by rw [ex44]; exact iv_at hu35 _ _ rfl
                have s45 : u35.1 46 2 = x44 := ex44.symm
                refine g_goto (tgt := 76) dX6_best_62 (by decide) ?_
                exact g_iret (ty := .int) dX6_best_76 rfl rfl ⟨⟨⟨_, rfl, by first | trivial | lia | grind⟩, hu35, fu35⟩, ee_i (by subst ex44; subst eu35; exact (if_neg c1).trans ((if_neg c2).trans ((if_neg c3).trans ((if_neg c18).trans ((if_pos c33).trans ((if_neg c37).trans ((if_pos c38).trans (rfl))))))))⟩
            · refine g_aload_n dX6_best_42 rfl ?_
              refine f_X6_55 rfl rfl dX6_best_43 ?_
              refine f_X6_212 rfl rfl dX6_best_46 ?_
              refine g_topi (fun x46 ex46 => ?_)
              have s47 : u35.1 46 3 = x46 := ex46.symm
              exact g_iret (ty := .int) dX6_best_49 rfl rfl ⟨⟨⟨_, rfl, by first | trivial | lia | grind⟩, hu35, fu35⟩, ee_i (by subst ex46; subst eu35; exact (if_neg c1).trans ((if_neg c2).trans ((if_neg c3).trans ((if_neg c18).trans ((if_pos c33).trans ((if_pos c37).trans (rfl)))))))⟩
          · refine g_iconst (v := (-1)) dX6_best_24 (by decide) ?_
            exact g_iret (ty := .int) dX6_best_25 rfl rfl ⟨⟨⟨_, rfl, by first | trivial | lia | grind⟩, hu, f0⟩, ee_i (by exact (if_neg c1).trans ((if_neg c2).trans ((if_neg c3).trans ((if_neg c18).trans ((if_neg c33).trans (rfl))))))⟩
