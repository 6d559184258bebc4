abbrev q_X7_next_s (u : uk_Mem)  (r : Option Value) (u' : uk_Mem) : Prop := (r = none) ∧ (iv u' ∧ fk [60] [3, 7, 10, 11, 13, 22, 28] u u' ∧ (u'.1 60 18 = 0 → u.1 60 18 = 0) ∧ u.1 60 14 ≤ u'.1 60 14 ∧ (u.1 60 18 = 0 → u.1 60 14 ≤ u'.1 60 15) ∧ (u.1 60 18 = 0 → u'.1 60 15 ≤ u'.1 60 14) ∧ (u.1 60 18 = 0 → ah (u.1 69) (u.1 60 13) (u.1 60 14) u') ∧ (¬ u.1 60 18 = 0 → u'.1 60 14 = u.1 60 14 ∧ u'.1 60 15 = u.1 60 15 ∧ u'.1 60 16 = u.1 60 16 ∧ u'.1 60 17 = u.1 60 17 ∧ u'.1 60 18 = u.1 60 18 ∧ u'.1 60 19 = u.1 60 19))
set_option maxHeartbeats 4000000 in
set_option maxRecDepth 20000 in
theorem c_X7_next_s {G : uk_D} (hs : uk_Sep G) {u : uk_Mem} (hu : iv u)  (d : Nat) : uk_Meth G (d + 1) mX7_next [.ref (uk_ad G 60)] u (q_X7_next_s u) := by
  refine uk_Meth.of hs (by decide) (Nat.le_of_ble_eq_true rfl) (fun X => ?_)
  have f0 : fk [60] [3, 7, 10, 11, 13, 22, 28] u u := fk_rf
  obtain ⟨t1, Tt1⟩ : ∃ t, u.1 60 13 = t := ⟨_, rfl⟩
  obtain ⟨t2, Tt2⟩ : ∃ t, u.1 60 14 = t := ⟨_, rfl⟩
  obtain ⟨t3, Tt3⟩ : ∃ t, u.1 60 15 = t := ⟨_, rfl⟩
  obtain ⟨t4, Tt4⟩ : ∃ t, u.1 60 16 = t := ⟨_, rfl⟩
  obtain ⟨t5, Tt5⟩ : ∃ t, u.1 60 17 = t := ⟨_, rfl⟩
  obtain ⟨t6, Tt6⟩ : ∃ t, u.1 60 18 = t := ⟨_, rfl⟩
  obtain ⟨t7, Tt7⟩ : ∃ t, u.1 60 19 = t := ⟨_, rfl⟩
  have n160 : u.1 60 13 ≤ 160 := (iv_at hu 60 13 rfl).2
  refine g_aload_n dX7_next_0 rfl ?_
  refine f_X7_91 rfl rfl dX7_next_1 ?_
  refine g_topi (fun x8 ex8 => ?_)
  have rx8 : 0 ≤ x8 ∧ x8 ≤ 6 := by rw [ex8]; exact iv_at hu _ _ rfl
  have qx8 : x8 = t6 := ex8.trans Tt6
  refine g_if_le (tgt := 8) dX7_next_4 (by decide) (fun c9 => ?_) (fun c9 => ?_)
  · have L8_9 : ∀ i11 : Int32, 0 ≤ i11 → i11 ≤ 160 → ∀ (u12 : uk_Mem), iv u12 → fk [60] [3, 7, 10, 11, 13, 22, 28] u u12 → u12.1 60 14 = i11 → u12.1 60 18 = u.1 60 18 → rn e32 (u.1 69) (u.1 60 13) (u.1 60 14) (u12.1 60 14) → uk_G G X mX7_next (d + 1) (q_X7_next_s u) 8 [(0, .ref (uk_ad G 60))] [] u12 := by
      refine uk_upl 160 ?_
      intro i11 ai11 bi11 ihi11  u12 hu12 fu12 ki11 ji110 ji111
      obtain ⟨t13, Tt13⟩ : ∃ t, u12.1 60 13 = t := ⟨_, rfl⟩
      have Rt13 : 0 ≤ t13 ∧ t13 ≤ 160 := by rw [← Tt13]; exact iv_at hu12 _ _ rfl
      obtain ⟨t14, Tt14⟩ : ∃ t, u12.1 60 15 = t := ⟨_, rfl⟩
      have Rt14 : 0 ≤ t14 ∧ t14 ≤ 160 := by rw [← Tt14]; exact iv_at hu12 _ _ rfl
      obtain ⟨t15, Tt15⟩ : ∃ t, u12.1 60 16 = t := ⟨_, rfl⟩
      obtain ⟨t16, Tt16⟩ : ∃ t, u12.1 60 17 = t := ⟨_, rfl⟩
      obtain ⟨t17, Tt17⟩ : ∃ t, u12.1 60 18 = t := ⟨_, rfl⟩
      have Rt17 : 0 ≤ t17 ∧ t17 ≤ 6 := by rw [← Tt17]; exact iv_at hu12 _ _ rfl
      obtain ⟨t18, Tt18⟩ : ∃ t, u12.1 60 19 = t := ⟨_, rfl⟩
      refine g_aload_n dX7_next_8 rfl ?_
      refine g_aload_n dX7_next_9 rfl ?_
      refine f_X7_100 rfl rfl dX7_next_10 ?_
      refine g_topi (fun x19 ex19 => ?_)
      have rx19 : 0 ≤ x19 ∧ x19 ≤ 160 := by rw [ex19]; exact iv_at hu12 _ _ rfl
      have qx19 : x19 = i11 := ex19.trans ki11
      refine cl_X7_103 (c := 60) (As := [.int x19]) rfl (c_X7_byteAt_s (G := G) hs hu12  x19 (by first | trivial | decide | lia | grind) (d)) rfl (by omega) rfl rfl (Nat.le_of_ble_eq_true rfl) dX7_next_13 (fun r20 u21 q22 => ?_)
      obtain ⟨⟨x23, rfl, tx23⟩, mq22⟩ := q22
      rw [mq22]
      have bx23 : (x23 = -1 ∧ u.1 60 13 ≤ i11) ∨ (i11 < u.1 60 13 ∧ 0 ≤ x23 ∧ x23 = u.1 69 i11.toNatClampNeg) := by rw [← fk_at (c := 60) (i := 13) fu12 (by decide), ← fk_c (c := 69) fu12 (by decide), show i11 = x19 by grind]; exact tx23
      refine g_bipush (v := 32) dX7_next_16 (by decide) ?_
      refine g_icmp_ne (tgt := 34) dX7_next_18 (by decide) (fun c24 => ?_) (fun c24 => ?_)
      · have RN : rn e32 (u.1 69) (u.1 60 13) (u.1 60 14) i11 := by rw [← ki11]; exact ji111
        have NN : ¬ (i11 < u.1 60 13 ∧ e32 (u.1 69 i11.toNatClampNeg)) := fun z => by have z1 := z.1; have z2 := z.2; unfold e32 at z2; grind
        have S0 : u.1 60 14 ≤ i11 := RN.1
        refine g_aload_n dX7_next_34 rfl ?_
        refine g_aload_n dX7_next_35 rfl ?_
        refine f_X7_100 rfl rfl dX7_next_36 ?_
        refine g_topi (fun x25 ex25 => ?_)
        have rx25 : 0 ≤ x25 ∧ x25 ≤ 160 := by rw [ex25]; exact iv_at hu12 _ _ rfl
        have qx25 : x25 = i11 := ex25.trans ki11
        refine p_X7_94 rfl rfl dX7_next_39 ?_
        refine g_mem (fun u26 eu26 => ?_)
        have hu26 : iv u26 := by rw [eu26]; exact iv_up hu12 rfl (by first | lia | grind) (by first | lia | grind)
        have fu26 : fk [60] [3, 7, 10, 11, 13, 22, 28] u u26 := by rw [eu26]; exact fk_up fu12 (by decide) (fun _ => by decide)
        have s27 : u26.1 60 15 = x25 := by rw [eu26, uk_up_at]; exact if_pos ⟨rfl, rfl⟩
        have T28 : u26.1 60 13 = t13 := by rw [eu26, uk_up_at, if_neg (by decide)]; exact Tt13
        have T29 : u26.1 60 14 = i11 := by rw [eu26, uk_up_at, if_neg (by decide)]; exact ki11
        have T30 : u26.1 60 16 = t15 := by rw [eu26, uk_up_at, if_neg (by decide)]; exact Tt15
        have T31 : u26.1 60 17 = t16 := by rw [eu26, uk_up_at, if_neg (by decide)]; exact Tt16
        have T32 : u26.1 60 18 = t17 := by rw [eu26, uk_up_at, if_neg (by decide)]; exact Tt17
        have T33 : u26.1 60 19 = t18 := by rw [eu26, uk_up_at, if_neg (by decide)]; exact Tt18
        refine g_aload_n dX7_next_42 rfl ?_
        refine g_aload_n dX7_next_43 rfl ?_
        refine f_X7_100 rfl rfl dX7_next_44 ?_
        refine g_topi (fun x34 ex34 => ?_)
        have rx34 : 0 ≤ x34 ∧ x34 ≤ 160 := by rw [ex34]; exact iv_at hu26 _ _ rfl
        have qx34 : x34 = i11 := ex34.trans T29
        refine cl_X7_103 (c := 60) (As := [.int x34]) rfl (c_X7_byteAt_s (G := G) hs hu26  x34 (by first | trivial | decide | lia | grind) (d)) rfl (by omega) rfl rfl (Nat.le_of_ble_eq_true rfl) dX7_next_47 (fun r35 u36 q37 => ?_)
        obtain ⟨⟨x38, rfl, tx38⟩, mq37⟩ := q37
        rw [mq37]
        have bx38 : (x38 = -1 ∧ u.1 60 13 ≤ i11) ∨ (i11 < u.1 60 13 ∧ 0 ≤ x38 ∧ x38 = u.1 69 i11.toNatClampNeg) := by rw [← fk_at (c := 60) (i := 13) fu26 (by decide), ← fk_c (c := 69) fu26 (by decide), show i11 = x34 by grind]; exact tx38
        refine g_istore_n dX7_next_50 (by decide) ?_
        refine g_pick (lv' := [(0, .ref (uk_ad G 60)), (1, .int x38)]) [0, 1] rfl ?_
        refine g_iload_n dX7_next_51 rfl ?_
        refine g_if_ge (tgt := 63) dX7_next_52 (by decide) (fun c39 => ?_) (fun c39 => ?_)
        · refine g_iload_n dX7_next_63 rfl ?_
          refine g_i2l dX7_next_64 ?_
          refine g_ldc2 (v := 97) k_X7_114 dX7_next_65 ?_
          refine g_ldc2 (v := 122) k_X7_116 dX7_next_68 ?_
          refine cl_X7_84 (As := [.long x38.toInt64, .long 97, .long 122]) rfl (c_X7_in (G := G) hs hu26  x38 97 122  (d)) rfl (by omega) rfl (Nat.le_of_ble_eq_true rfl) dX7_next_71 (fun r40 u41 q42 => ?_)
          obtain ⟨⟨x43, rfl, tx43, nx43, zx43⟩, mq42⟩ := q42
          rw [mq42]
          refine g_if_eq (tgt := 116) dX7_next_74 (by decide) (fun c44 => ?_) (fun c44 => ?_)
          · have zc44 := zx43 c44
            refine g_iload_n dX7_next_116 rfl ?_
            refine g_i2l dX7_next_117 ?_
            refine g_ldc2 (v := 48) k_X7_118 dX7_next_118 ?_
            refine g_ldc2 (v := 57) k_X7_120 dX7_next_121 ?_
            refine cl_X7_84 (As := [.long x38.toInt64, .long 48, .long 57]) rfl (c_X7_in (G := G) hs hu26  x38 48 57  (d)) rfl (by omega) rfl (Nat.le_of_ble_eq_true rfl) dX7_next_124 (fun r45 u46 q47 => ?_)
            obtain ⟨⟨x48, rfl, tx48, nx48, zx48⟩, mq47⟩ := q47
            rw [mq47]
            refine g_if_eq (tgt := 243) dX7_next_127 (by decide) (fun c49 => ?_) (fun c49 => ?_)
            · have zc49 := zx48 c49
              refine g_aload_n dX7_next_243 rfl ?_
              refine g_iconst (v := 3) dX7_next_244 (by decide) ?_
              refine p_X7_111 rfl rfl dX7_next_245 ?_
              refine g_mem (fun u50 eu50 => ?_)
              have hu50 : iv u50 := by rw [eu50]; exact iv_upF hu26 rfl
              have fu50 : fk [60] [3, 7, 10, 11, 13, 22, 28] u u50 := by rw [eu50]; exact fk_up fu26 (by decide) (fun _ => by decide)
              have s51 : u50.1 60 16 = 3 := by rw [eu50, uk_up_at]; exact if_pos ⟨rfl, rfl⟩
              have T52 : u50.1 60 13 = t13 := by rw [eu50, uk_up_at, if_neg (by decide)]; exact T28
              have T53 : u50.1 60 14 = i11 := by rw [eu50, uk_up_at, if_neg (by decide)]; exact T29
              have T54 : u50.1 60 15 = x25 := by rw [eu50, uk_up_at, if_neg (by decide)]; exact s27
              have T55 : u50.1 60 17 = t16 := by rw [eu50, uk_up_at, if_neg (by decide)]; exact T31
              have T56 : u50.1 60 18 = t17 := by rw [eu50, uk_up_at, if_neg (by decide)]; exact T32
              have T57 : u50.1 60 19 = t18 := by rw [eu50, uk_up_at, if_neg (by decide)]; exact T33
              refine g_aload_n dX7_next_248 rfl ?_
              refine g_iload_n dX7_next_249 rfl ?_
              refine g_bipush (v := 59) dX7_next_250 (by decide) ?_
              refine g_icmp_ne (tgt := 259) dX7_next_252 (by decide) (fun c58 => ?_) (fun c58 => ?_)
              · refine g_iconst (v := 0) dX7_next_259 (by decide) ?_
                refine g_iconst (v := 1) dX7_next_260 (by decide) ?_
                refine cl_X7_125 (c := 60) (As := [.int 0, .int 1]) rfl (c_X7_needs_s (G := G) hs hu50  0 1 (by first | trivial | decide | lia | grind) (by first | trivial | decide | lia | grind) (d)) rfl (by omega) rfl rfl (Nat.le_of_ble_eq_true rfl) dX7_next_261 (fun r59 u60 q61 => ?_)
                obtain ⟨rfl, mq61⟩ := q61
                obtain ⟨hu60, gu60, ku600, ku601, ku602⟩ := mq61
                have fu60 : fk [60] [3, 7, 10, 11, 13, 22, 28] u u60 := fk_tr fu50 gu60 (by decide) (by decide)
                have T62 : u60.1 60 13 = t13 := (fk_at gu60 (by decide)).trans T52
                have T63 : u60.1 60 14 = i11 := (fk_at gu60 (by decide)).trans T53
                have T64 : u60.1 60 15 = x25 := (fk_at gu60 (by decide)).trans T54
                have T65 : u60.1 60 16 = 3 := (fk_at gu60 (by decide)).trans s51
                have T66 : u60.1 60 17 = t16 := (fk_at gu60 (by decide)).trans T55
                obtain ⟨t67, Tt67⟩ : ∃ t, u60.1 60 18 = t := ⟨_, rfl⟩
                have Rt67 : 0 ≤ t67 ∧ t67 ≤ 6 := by rw [← Tt67]; exact iv_at hu60 _ _ rfl
                obtain ⟨t68, Tt68⟩ : ∃ t, u60.1 60 19 = t := ⟨_, rfl⟩
                have s69 : u60.1 60 14 = i11 := (fk_at gu60 (by decide)).trans (by simp [eu50, eu26, uk_up_at, ki11] : u50.1 60 14 = i11)
                have s70 : u60.1 60 15 = x25 := (fk_at gu60 (by decide)).trans (by simp [eu50, uk_up_at, s27] : u50.1 60 15 = x25)
                have s71 : u60.1 60 16 = 3 := (fk_at gu60 (by decide)).trans s51
                refine g_aload_n dX7_next_264 rfl ?_
                refine g_dup dX7_next_265 rfl ?_
                refine f_X7_100 rfl rfl dX7_next_266 ?_
                refine g_topi (fun x72 ex72 => ?_)
                have rx72 : 0 ≤ x72 ∧ x72 ≤ 160 := by rw [ex72]; exact iv_at hu60 _ _ rfl
                have qx72 : x72 = i11 := ex72.trans T63
                refine g_iconst (v := 1) dX7_next_269 (by decide) ?_
                refine g_iadd dX7_next_270 ?_
                refine g_topi (fun x73 ex73 => ?_)
                refine p_X7_100 rfl rfl dX7_next_271 ?_
                refine g_mem (fun u74 eu74 => ?_)
                have hu74 : iv u74 := by rw [eu74]; exact iv_up hu60 rfl (by first | lia | grind) (by first | lia | grind)
                have fu74 : fk [60] [3, 7, 10, 11, 13, 22, 28] u u74 := by rw [eu74]; exact fk_up fu60 (by decide) (fun _ => by decide)
                have s75 : u74.1 60 14 = x73 := by rw [eu74, uk_up_at]; exact if_pos ⟨rfl, rfl⟩
                have T76 : u74.1 60 13 = t13 := by rw [eu74, uk_up_at, if_neg (by decide)]; exact T62
                have T77 : u74.1 60 15 = x25 := by rw [eu74, uk_up_at, if_neg (by decide)]; exact T64
                have T78 : u74.1 60 16 = 3 := by rw [eu74, uk_up_at, if_neg (by decide)]; exact T65
                have T79 : u74.1 60 17 = t16 := by rw [eu74, uk_up_at, if_neg (by decide)]; exact T66
                have T80 : u74.1 60 18 = t67 := by rw [eu74, uk_up_at, if_neg (by decide)]; exact Tt67
                have T81 : u74.1 60 19 = t68 := by rw [eu74, uk_up_at, if_neg (by decide)]; exact Tt68
                exact g_vret dX7_next_274 rfl ⟨rfl, hu74, fu74, (by first | rfl | (rw [T80]; grind) | rw [T80]), (by first | rfl | (rw [s75]; grind) | rw [s75]), (by first | rfl | (rw [T77]; grind) | rw [T77]), (by first | rfl | (rw [T77, s75]; grind) | rw [T77, s75]), (fun q => ah_S RN NN (by grind) (fun z => by unfold nam at z; grind) (fun z => by unfold dig at z; grind) (Or.inr ⟨by grind, (by first | (rw [T80]; done) | (rw [T80]; grind)), (by first | (rw [T81]; done) | (rw [T81]; grind))⟩) (by first | (rw [T77]; done) | (rw [T77]; grind)) (by first | (rw [T78]; done) | (rw [T78]; grind)) (by first | (rw [s75]; done) | (rw [s75]; grind))), (fun q => by exfalso; grind)⟩
              · refine g_iconst (v := 1) dX7_next_255 (by decide) ?_
                refine g_goto (tgt := 260) dX7_next_256 (by decide) ?_
                refine g_iconst (v := 1) dX7_next_260 (by decide) ?_
                refine cl_X7_125 (c := 60) (As := [.int 1, .int 1]) rfl (c_X7_needs_s (G := G) hs hu50  1 1 (by first | trivial | decide | lia | grind) (by first | trivial | decide | lia | grind) (d)) rfl (by omega) rfl rfl (Nat.le_of_ble_eq_true rfl) dX7_next_261 (fun r82 u83 q84 => ?_)
                obtain ⟨rfl, mq84⟩ := q84
                obtain ⟨hu83, gu83, ku830, ku831, ku832⟩ := mq84
                have fu83 : fk [60] [3, 7, 10, 11, 13, 22, 28] u u83 := fk_tr fu50 gu83 (by decide) (by decide)
                have T85 : u83.1 60 13 = t13 := (fk_at gu83 (by decide)).trans T52
                have T86 : u83.1 60 14 = i11 := (fk_at gu83 (by decide)).trans T53
                have T87 : u83.1 60 15 = x25 := (fk_at gu83 (by decide)).trans T54
                have T88 : u83.1 60 16 = 3 := (fk_at gu83 (by decide)).trans s51
                have T89 : u83.1 60 17 = t16 := (fk_at gu83 (by decide)).trans T55
                obtain ⟨t90, Tt90⟩ : ∃ t, u83.1 60 18 = t := ⟨_, rfl⟩
                have Rt90 : 0 ≤ t90 ∧ t90 ≤ 6 := by rw [← Tt90]; exact iv_at hu83 _ _ rfl
                obtain ⟨t91, Tt91⟩ : ∃ t, u83.1 60 19 = t := ⟨_, rfl⟩
                have s92 : u83.1 60 14 = i11 := (fk_at gu83 (by decide)).trans (by simp [eu50, eu26, uk_up_at, ki11] : u50.1 60 14 = i11)
                have s93 : u83.1 60 15 = x25 := (fk_at gu83 (by decide)).trans (by simp [eu50, uk_up_at, s27] : u50.1 60 15 = x25)
                have s94 : u83.1 60 16 = 3 := (fk_at gu83 (by decide)).trans s51
                refine g_aload_n dX7_next_264 rfl ?_
                refine g_dup dX7_next_265 rfl ?_
                refine f_X7_100 rfl rfl dX7_next_266 ?_
                refine g_topi (fun x95 ex95 => ?_)
                have rx95 : 0 ≤ x95 ∧ x95 ≤ 160 := by rw [ex95]; exact iv_at hu83 _ _ rfl
                have qx95 : x95 = i11 := ex95.trans T86
                refine g_iconst (v := 1) dX7_next_269 (by decide) ?_
                refine g_iadd dX7_next_270 ?_
                refine g_topi (fun x96 ex96 => ?_)
                refine p_X7_100 rfl rfl dX7_next_271 ?_
                refine g_mem (fun u97 eu97 => ?_)
                have hu97 : iv u97 := by rw [eu97]; exact iv_up hu83 rfl (by first | lia | grind) (by first | lia | grind)
                have fu97 : fk [60] [3, 7, 10, 11, 13, 22, 28] u u97 := by rw [eu97]; exact fk_up fu83 (by decide) (fun _ => by decide)
                have s98 : u97.1 60 14 = x96 := by rw [eu97, uk_up_at]; exact if_pos ⟨rfl, rfl⟩
                have T99 : u97.1 60 13 = t13 := by rw [eu97, uk_up_at, if_neg (by decide)]; exact T85
                have T100 : u97.1 60 15 = x25 := by rw [eu97, uk_up_at, if_neg (by decide)]; exact T87
                have T101 : u97.1 60 16 = 3 := by rw [eu97, uk_up_at, if_neg (by decide)]; exact T88
                have T102 : u97.1 60 17 = t16 := by rw [eu97, uk_up_at, if_neg (by decide)]; exact T89
                have T103 : u97.1 60 18 = t90 := by rw [eu97, uk_up_at, if_neg (by decide)]; exact Tt90
                have T104 : u97.1 60 19 = t91 := by rw [eu97, uk_up_at, if_neg (by decide)]; exact Tt91
                exact g_vret dX7_next_274 rfl ⟨rfl, hu97, fu97, (by first | rfl | (rw [T103]; grind) | rw [T103]), (by first | rfl | (rw [s98]; grind) | rw [s98]), (by first | rfl | (rw [T100]; grind) | rw [T100]), (by first | rfl | (rw [T100, s98]; grind) | rw [T100, s98]), (fun q => ah_S RN NN (by grind) (fun z => by unfold nam at z; grind) (fun z => by unfold dig at z; grind) (Or.inl ⟨by grind, (by first | (rw [T103]; done) | (rw [T103]; grind))⟩) (by first | (rw [T100]; done) | (rw [T100]; grind)) (by first | (rw [T101]; done) | (rw [T101]; grind)) (by first | (rw [s98]; done) | (rw [s98]; grind))), (fun q => by exfalso; grind)⟩
            · have zc49 := nx48 c49
              refine g_aload_n dX7_next_130 rfl ?_
              refine g_iconst (v := 2) dX7_next_131 (by decide) ?_
              refine p_X7_111 rfl rfl dX7_next_132 ?_
              refine g_mem (fun u105 eu105 => ?_)
              have hu105 : iv u105 := by rw [eu105]; exact iv_upF hu26 rfl
              have fu105 : fk [60] [3, 7, 10, 11, 13, 22, 28] u u105 := by rw [eu105]; exact fk_up fu26 (by decide) (fun _ => by decide)
              have s106 : u105.1 60 16 = 2 := by rw [eu105, uk_up_at]; exact if_pos ⟨rfl, rfl⟩
              have T107 : u105.1 60 13 = t13 := by rw [eu105, uk_up_at, if_neg (by decide)]; exact T28
              have T108 : u105.1 60 14 = i11 := by rw [eu105, uk_up_at, if_neg (by decide)]; exact T29
              have T109 : u105.1 60 15 = x25 := by rw [eu105, uk_up_at, if_neg (by decide)]; exact s27
              have T110 : u105.1 60 17 = t16 := by rw [eu105, uk_up_at, if_neg (by decide)]; exact T31
              have T111 : u105.1 60 18 = t17 := by rw [eu105, uk_up_at, if_neg (by decide)]; exact T32
              have T112 : u105.1 60 19 = t18 := by rw [eu105, uk_up_at, if_neg (by decide)]; exact T33
              refine g_aload_n dX7_next_135 rfl ?_
              refine g_iconst (v := 0) dX7_next_136 (by decide) ?_
              refine p_X7_122 rfl rfl dX7_next_137 ?_
              refine g_mem (fun u113 eu113 => ?_)
              have hu113 : iv u113 := by rw [eu113]; exact iv_upF hu105 rfl
              have fu113 : fk [60] [3, 7, 10, 11, 13, 22, 28] u u113 := by rw [eu113]; exact fk_up fu105 (by decide) (fun _ => by decide)
              have s114 : u113.1 60 17 = 0 := by rw [eu113, uk_up_at]; exact if_pos ⟨rfl, rfl⟩
              have T115 : u113.1 60 13 = t13 := by rw [eu113, uk_up_at, if_neg (by decide)]; exact T107
              have T116 : u113.1 60 14 = i11 := by rw [eu113, uk_up_at, if_neg (by decide)]; exact T108
              have T117 : u113.1 60 15 = x25 := by rw [eu113, uk_up_at, if_neg (by decide)]; exact T109
              have T118 : u113.1 60 16 = 2 := by rw [eu113, uk_up_at, if_neg (by decide)]; exact s106
              have T119 : u113.1 60 18 = t17 := by rw [eu113, uk_up_at, if_neg (by decide)]; exact T111
              have T120 : u113.1 60 19 = t18 := by rw [eu113, uk_up_at, if_neg (by decide)]; exact T112
              have L140_120 : ∀ i122 : Int32, 0 ≤ i122 → i122 ≤ 160 → ∀ (u123 : uk_Mem), iv u123 → fk [60] [3, 7, 10, 11, 13, 22, 28] u u123 → u123.1 60 14 = i122 → u123.1 60 18 = u.1 60 18 → u123.1 60 16 = 2 → TJ (u.1 69) (u.1 60 13) (u.1 60 14) (u123.1 60 15) 2 (u123.1 60 17) (u123.1 60 14) → u.1 60 14 ≤ u123.1 60 14 → u.1 60 14 ≤ u123.1 60 15 → u123.1 60 15 ≤ u123.1 60 14 → uk_G G X mX7_next (d + 1) (q_X7_next_s u) 140 [(0, .ref (uk_ad G 60)), (1, .int x38)] [] u123 := by
                refine uk_upl 160 ?_
                intro i122 ai122 bi122 ihi122  u123 hu123 fu123 ki122 ji1220 ji1221 ji1222 ji1223 ji1224 ji1225
                obtain ⟨t124, Tt124⟩ : ∃ t, u123.1 60 13 = t := ⟨_, rfl⟩
                have Rt124 : 0 ≤ t124 ∧ t124 ≤ 160 := by rw [← Tt124]; exact iv_at hu123 _ _ rfl
                obtain ⟨t125, Tt125⟩ : ∃ t, u123.1 60 15 = t := ⟨_, rfl⟩
                have Rt125 : 0 ≤ t125 ∧ t125 ≤ 160 := by rw [← Tt125]; exact iv_at hu123 _ _ rfl
                obtain ⟨t126, Tt126⟩ : ∃ t, u123.1 60 16 = t := ⟨_, rfl⟩
                obtain ⟨t127, Tt127⟩ : ∃ t, u123.1 60 17 = t := ⟨_, rfl⟩
                obtain ⟨t128, Tt128⟩ : ∃ t, u123.1 60 18 = t := ⟨_, rfl⟩
                have Rt128 : 0 ≤ t128 ∧ t128 ≤ 6 := by rw [← Tt128]; exact iv_at hu123 _ _ rfl
                obtain ⟨t129, Tt129⟩ : ∃ t, u123.1 60 19 = t := ⟨_, rfl⟩
                refine g_aload_n dX7_next_140 rfl ?_
                have hj : TJ (u.1 69) (u.1 60 13) (u.1 60 14) t125 2 t127 i122 := by rw [← Tt125, ← Tt127, ← ki122]; exact ji1222
                refine g_aload_n dX7_next_141 rfl ?_
                refine f_X7_100 rfl rfl dX7_next_142 ?_
                refine g_topi (fun x130 ex130 => ?_)
                have rx130 : 0 ≤ x130 ∧ x130 ≤ 160 := by rw [ex130]; exact iv_at hu123 _ _ rfl
                have qx130 : x130 = i122 := ex130.trans ki122
                refine cl_X7_103 (c := 60) (As := [.int x130]) rfl (c_X7_byteAt_s (G := G) hs hu123  x130 (by first | trivial | decide | lia | grind) (d)) rfl (by omega) rfl rfl (Nat.le_of_ble_eq_true rfl) dX7_next_145 (fun r131 u132 q133 => ?_)
                obtain ⟨⟨x134, rfl, tx134⟩, mq133⟩ := q133
                rw [mq133]
                have bx134 : (x134 = -1 ∧ u.1 60 13 ≤ i122) ∨ (i122 < u.1 60 13 ∧ 0 ≤ x134 ∧ x134 = u.1 69 i122.toNatClampNeg) := by rw [← fk_at (c := 60) (i := 13) fu123 (by decide), ← fk_c (c := 69) fu123 (by decide), show i122 = x130 by grind]; exact tx134
                refine g_i2l dX7_next_148 ?_
                refine g_ldc2 (v := 48) k_X7_118 dX7_next_149 ?_
                refine g_ldc2 (v := 57) k_X7_120 dX7_next_152 ?_
                refine cl_X7_84 (As := [.long x134.toInt64, .long 48, .long 57]) rfl (c_X7_in (G := G) hs hu123  x134 48 57  (d)) rfl (by omega) rfl (Nat.le_of_ble_eq_true rfl) dX7_next_155 (fun r135 u136 q137 => ?_)
                obtain ⟨⟨x138, rfl, tx138, nx138, zx138⟩, mq137⟩ := q137
                rw [mq137]
                refine g_if_eq (tgt := 217) dX7_next_158 (by decide) (fun c139 => ?_) (fun c139 => ?_)
                · have zc139 := zx138 c139
                  have EX : ¬ (i122 < u.1 60 13 ∧ tf (u.1 69 i122.toNatClampNeg) 2) := fun z => by have z1 := z.1; have z2 := tf_2 z.2 rfl; unfold dig at z2; grind
                  refine g_aload_n dX7_next_217 rfl ?_
                  refine g_aload_n dX7_next_218 rfl ?_
                  refine f_X7_100 rfl rfl dX7_next_219 ?_
                  refine g_topi (fun x140 ex140 => ?_)
                  have rx140 : 0 ≤ x140 ∧ x140 ≤ 160 := by rw [ex140]; exact iv_at hu123 _ _ rfl
                  have qx140 : x140 = i122 := ex140.trans ki122
                  refine g_aload_n dX7_next_222 rfl ?_
                  refine f_X7_94 rfl rfl dX7_next_223 ?_
                  refine g_topi (fun x141 ex141 => ?_)
                  have rx141 : 0 ≤ x141 ∧ x141 ≤ 160 := by rw [ex141]; exact iv_at hu123 _ _ rfl
                  have qx141 : x141 = t125 := ex141.trans Tt125
                  refine g_isub dX7_next_226 ?_
                  refine g_topi (fun x142 ex142 => ?_)
                  refine g_iconst (v := 2) dX7_next_227 (by decide) ?_
                  refine g_icmp_gt (tgt := 235) dX7_next_228 (by decide) (fun c143 => ?_) (fun c143 => ?_)
                  · refine g_iconst (v := 0) dX7_next_235 (by decide) ?_
                    refine g_iconst (v := 1) dX7_next_236 (by decide) ?_
                    refine cl_X7_125 (c := 60) (As := [.int 0, .int 1]) rfl (c_X7_needs_s (G := G) hs hu123  0 1 (by first | trivial | decide | lia | grind) (by first | trivial | decide | lia | grind) (d)) rfl (by omega) rfl rfl (Nat.le_of_ble_eq_true rfl) dX7_next_237 (fun r144 u145 q146 => ?_)
                    obtain ⟨rfl, mq146⟩ := q146
                    obtain ⟨hu145, gu145, ku1450, ku1451, ku1452⟩ := mq146
                    have fu145 : fk [60] [3, 7, 10, 11, 13, 22, 28] u u145 := fk_tr fu123 gu145 (by decide) (by decide)
                    have T147 : u145.1 60 13 = t124 := (fk_at gu145 (by decide)).trans Tt124
                    have T148 : u145.1 60 14 = i122 := (fk_at gu145 (by decide)).trans ki122
                    have T149 : u145.1 60 15 = t125 := (fk_at gu145 (by decide)).trans Tt125
                    have T150 : u145.1 60 16 = t126 := (fk_at gu145 (by decide)).trans Tt126
                    have T151 : u145.1 60 17 = t127 := (fk_at gu145 (by decide)).trans Tt127
                    obtain ⟨t152, Tt152⟩ : ∃ t, u145.1 60 18 = t := ⟨_, rfl⟩
                    have Rt152 : 0 ≤ t152 ∧ t152 ≤ 6 := by rw [← Tt152]; exact iv_at hu145 _ _ rfl
                    obtain ⟨t153, Tt153⟩ : ∃ t, u145.1 60 19 = t := ⟨_, rfl⟩
                    have s154 : u145.1 60 14 = i122 := (fk_at gu145 (by decide)).trans ki122
                    refine g_goto (tgt := 274) dX7_next_240 (by decide) ?_
                    exact g_vret dX7_next_274 rfl ⟨rfl, hu145, fu145, (by first | rfl | (rw [Tt152]; grind) | rw [Tt152]), (by first | rfl | (rw [T148]; grind) | rw [T148]), (by first | rfl | (rw [T149]; grind) | rw [T149]), (by first | rfl | (rw [T149, T148]; grind) | rw [T149, T148]), (fun q => ah_D hj EX (Or.inr ⟨by grind, (by first | (rw [Tt152]; done) | (rw [Tt152]; grind)), (by first | (rw [Tt153]; done) | (rw [Tt153]; grind))⟩) (by first | (rw [T149]; done) | (rw [T149]; grind)) (by first | (rw [T150]; done) | (rw [T150]; grind)) (by first | (rw [T151]; done) | (rw [T151]; grind)) (by first | (rw [T148]; done) | (rw [T148]; grind))), (fun q => by exfalso; grind)⟩
                  · refine g_iconst (v := 1) dX7_next_231 (by decide) ?_
                    refine g_goto (tgt := 236) dX7_next_232 (by decide) ?_
                    refine g_iconst (v := 1) dX7_next_236 (by decide) ?_
                    refine cl_X7_125 (c := 60) (As := [.int 1, .int 1]) rfl (c_X7_needs_s (G := G) hs hu123  1 1 (by first | trivial | decide | lia | grind) (by first | trivial | decide | lia | grind) (d)) rfl (by omega) rfl rfl (Nat.le_of_ble_eq_true rfl) dX7_next_237 (fun r155 u156 q157 => ?_)
                    obtain ⟨rfl, mq157⟩ := q157
                    obtain ⟨hu156, gu156, ku1560, ku1561, ku1562⟩ := mq157
                    have fu156 : fk [60] [3, 7, 10, 11, 13, 22, 28] u u156 := fk_tr fu123 gu156 (by decide) (by decide)
                    have T158 : u156.1 60 13 = t124 := (fk_at gu156 (by decide)).trans Tt124
                    have T159 : u156.1 60 14 = i122 := (fk_at gu156 (by decide)).trans ki122
                    have T160 : u156.1 60 15 = t125 := (fk_at gu156 (by decide)).trans Tt125
                    have T161 : u156.1 60 16 = t126 := (fk_at gu156 (by decide)).trans Tt126
                    have T162 : u156.1 60 17 = t127 := (fk_at gu156 (by decide)).trans Tt127
                    obtain ⟨t163, Tt163⟩ : ∃ t, u156.1 60 18 = t := ⟨_, rfl⟩
                    have Rt163 : 0 ≤ t163 ∧ t163 ≤ 6 := by rw [← Tt163]; exact iv_at hu156 _ _ rfl
                    obtain ⟨t164, Tt164⟩ : ∃ t, u156.1 60 19 = t := ⟨_, rfl⟩
                    have s165 : u156.1 60 14 = i122 := (fk_at gu156 (by decide)).trans ki122
                    refine g_goto (tgt := 274) dX7_next_240 (by decide) ?_
                    exact g_vret dX7_next_274 rfl ⟨rfl, hu156, fu156, (by first | rfl | (rw [Tt163]; grind) | rw [Tt163]), (by first | rfl | (rw [T159]; grind) | rw [T159]), (by first | rfl | (rw [T160]; grind) | rw [T160]), (by first | rfl | (rw [T160, T159]; grind) | rw [T160, T159]), (fun q => ah_D hj EX (Or.inl ⟨by grind, (by first | (rw [Tt163]; done) | (rw [Tt163]; grind))⟩) (by first | (rw [T160]; done) | (rw [T160]; grind)) (by first | (rw [T161]; done) | (rw [T161]; grind)) (by first | (rw [T162]; done) | (rw [T162]; grind)) (by first | (rw [T159]; done) | (rw [T159]; grind))), (fun q => by exfalso; grind)⟩
                · have zc139 := nx138 c139
                  refine g_aload_n dX7_next_161 rfl ?_
                  refine g_aload_n dX7_next_162 rfl ?_
                  refine f_X7_100 rfl rfl dX7_next_163 ?_
                  refine g_topi (fun x166 ex166 => ?_)
                  have rx166 : 0 ≤ x166 ∧ x166 ≤ 160 := by rw [ex166]; exact iv_at hu123 _ _ rfl
                  have qx166 : x166 = i122 := ex166.trans ki122
                  refine g_aload_n dX7_next_166 rfl ?_
                  refine f_X7_94 rfl rfl dX7_next_167 ?_
                  refine g_topi (fun x167 ex167 => ?_)
                  have rx167 : 0 ≤ x167 ∧ x167 ≤ 160 := by rw [ex167]; exact iv_at hu123 _ _ rfl
                  have qx167 : x167 = t125 := ex167.trans Tt125
                  refine g_isub dX7_next_170 ?_
                  refine g_topi (fun x168 ex168 => ?_)
                  refine g_iconst (v := 2) dX7_next_171 (by decide) ?_
                  refine g_icmp_ge (tgt := 197) dX7_next_172 (by decide) (fun c169 => ?_) (fun c169 => ?_)
                  · refine g_aload_n dX7_next_197 rfl ?_
                    refine f_X7_122 rfl rfl dX7_next_198 ?_
                    refine g_topi (fun x170 ex170 => ?_)
                    have qx170 : x170 = t127 := ex170.trans Tt127
                    refine p_X7_122 rfl rfl dX7_next_201 ?_
                    refine g_mem (fun u171 eu171 => ?_)
                    have hu171 : iv u171 := by rw [eu171]; exact iv_upF hu123 rfl
                    have fu171 : fk [60] [3, 7, 10, 11, 13, 22, 28] u u171 := by rw [eu171]; exact fk_up fu123 (by decide) (fun _ => by decide)
                    have s172 : u171.1 60 17 = x170 := by rw [eu171, uk_up_at]; exact if_pos ⟨rfl, rfl⟩
                    have T173 : u171.1 60 13 = t124 := by rw [eu171, uk_up_at, if_neg (by decide)]; exact Tt124
                    have T174 : u171.1 60 14 = i122 := by rw [eu171, uk_up_at, if_neg (by decide)]; exact ki122
                    have T175 : u171.1 60 15 = t125 := by rw [eu171, uk_up_at, if_neg (by decide)]; exact Tt125
                    have T176 : u171.1 60 16 = t126 := by rw [eu171, uk_up_at, if_neg (by decide)]; exact Tt126
                    have T177 : u171.1 60 18 = t128 := by rw [eu171, uk_up_at, if_neg (by decide)]; exact Tt128
                    have T178 : u171.1 60 19 = t129 := by rw [eu171, uk_up_at, if_neg (by decide)]; exact Tt129
                    refine g_aload_n dX7_next_204 rfl ?_
                    refine g_dup dX7_next_205 rfl ?_
                    refine f_X7_100 rfl rfl dX7_next_206 ?_
                    refine g_topi (fun x179 ex179 => ?_)
                    have rx179 : 0 ≤ x179 ∧ x179 ≤ 160 := by rw [ex179]; exact iv_at hu171 _ _ rfl
                    have qx179 : x179 = i122 := ex179.trans T174
                    refine g_iconst (v := 1) dX7_next_209 (by decide) ?_
                    refine g_iadd dX7_next_210 ?_
                    refine g_topi (fun x180 ex180 => ?_)
                    refine p_X7_100 rfl rfl dX7_next_211 ?_
                    refine g_mem (fun u181 eu181 => ?_)
                    have hu181 : iv u181 := by rw [eu181]; exact iv_up hu171 rfl (by first | lia | grind) (by first | lia | grind)
                    have fu181 : fk [60] [3, 7, 10, 11, 13, 22, 28] u u181 := by rw [eu181]; exact fk_up fu171 (by decide) (fun _ => by decide)
                    have s182 : u181.1 60 14 = x180 := by rw [eu181, uk_up_at]; exact if_pos ⟨rfl, rfl⟩
                    have T183 : u181.1 60 13 = t124 := by rw [eu181, uk_up_at, if_neg (by decide)]; exact T173
                    have T184 : u181.1 60 15 = t125 := by rw [eu181, uk_up_at, if_neg (by decide)]; exact T175
                    have T185 : u181.1 60 16 = t126 := by rw [eu181, uk_up_at, if_neg (by decide)]; exact T176
                    have T186 : u181.1 60 17 = x170 := by rw [eu181, uk_up_at, if_neg (by decide)]; exact s172
                    have T187 : u181.1 60 18 = t128 := by rw [eu181, uk_up_at, if_neg (by decide)]; exact T177
                    have T188 : u181.1 60 19 = t129 := by rw [eu181, uk_up_at, if_neg (by decide)]; exact T178
                    refine g_goto (tgt := 140) dX7_next_214 (by decide) ?_
                    refine g_pick (lv' := [(0, .ref (uk_ad G 60)), (1, .int x38)]) [0, 1] rfl ?_
                    exact ihi122 (by first | lia | grind) u181 hu181 fu181 (s182.trans (by first | lia | grind)) (by first | rfl | (rw [T187]; grind) | rw [T187]) (by first | rfl | (rw [T185]; grind) | rw [T185]) (by rw [T184, s182, T186]; exact TJ_s hj (by grind) n160 (by grind) rfl (Or.inr (Or.inl ⟨(by unfold dig; grind), rfl⟩)) (fun z z9 => by grind) (by grind)) (by first | rfl | (rw [s182]; grind) | rw [s182]) (by first | rfl | (rw [T184]; grind) | rw [T184]) (by first | rfl | (rw [T184, s182]; grind) | rw [T184, s182])
                  · refine g_bipush (v := 10) dX7_next_175 (by decide) ?_
                    refine g_aload_n dX7_next_177 rfl ?_
                    refine f_X7_122 rfl rfl dX7_next_178 ?_
                    refine g_topi (fun x189 ex189 => ?_)
                    have qx189 : x189 = t127 := ex189.trans Tt127
                    refine g_imul dX7_next_181 ?_
                    refine g_topi (fun x190 ex190 => ?_)
                    refine g_aload_n dX7_next_182 rfl ?_
                    refine g_aload_n dX7_next_183 rfl ?_
                    refine f_X7_100 rfl rfl dX7_next_184 ?_
                    refine g_topi (fun x191 ex191 => ?_)
                    have rx191 : 0 ≤ x191 ∧ x191 ≤ 160 := by rw [ex191]; exact iv_at hu123 _ _ rfl
                    have qx191 : x191 = i122 := ex191.trans ki122
                    refine cl_X7_103 (c := 60) (As := [.int x191]) rfl (c_X7_byteAt_s (G := G) hs hu123  x191 (by first | trivial | decide | lia | grind) (d)) rfl (by omega) rfl rfl (Nat.le_of_ble_eq_true rfl) dX7_next_187 (fun r192 u193 q194 => ?_)
                    obtain ⟨⟨x195, rfl, tx195⟩, mq194⟩ := q194
                    rw [mq194]
                    have bx195 : (x195 = -1 ∧ u.1 60 13 ≤ i122) ∨ (i122 < u.1 60 13 ∧ 0 ≤ x195 ∧ x195 = u.1 69 i122.toNatClampNeg) := by rw [← fk_at (c := 60) (i := 13) fu123 (by decide), ← fk_c (c := 69) fu123 (by decide), show i122 = x191 by grind]; exact tx195
                    refine g_iadd dX7_next_190 ?_
                    refine g_topi (fun x196 ex196 => ?_)
                    refine g_bipush (v := 48) dX7_next_191 (by decide) ?_
                    refine g_isub dX7_next_193 ?_
                    refine g_topi (fun x197 ex197 => ?_)
                    refine g_goto (tgt := 201) dX7_next_194 (by decide) ?_
                    refine p_X7_122 rfl rfl dX7_next_201 ?_
                    refine g_mem (fun u198 eu198 => ?_)
                    have hu198 : iv u198 := by rw [eu198]; exact iv_upF hu123 rfl
                    have fu198 : fk [60] [3, 7, 10, 11, 13, 22, 28] u u198 := by rw [eu198]; exact fk_up fu123 (by decide) (fun _ => by decide)
                    have s199 : u198.1 60 17 = x197 := by rw [eu198, uk_up_at]; exact if_pos ⟨rfl, rfl⟩
                    have T200 : u198.1 60 13 = t124 := by rw [eu198, uk_up_at, if_neg (by decide)]; exact Tt124
                    have T201 : u198.1 60 14 = i122 := by rw [eu198, uk_up_at, if_neg (by decide)]; exact ki122
                    have T202 : u198.1 60 15 = t125 := by rw [eu198, uk_up_at, if_neg (by decide)]; exact Tt125
                    have T203 : u198.1 60 16 = t126 := by rw [eu198, uk_up_at, if_neg (by decide)]; exact Tt126
                    have T204 : u198.1 60 18 = t128 := by rw [eu198, uk_up_at, if_neg (by decide)]; exact Tt128
                    have T205 : u198.1 60 19 = t129 := by rw [eu198, uk_up_at, if_neg (by decide)]; exact Tt129
                    refine g_aload_n dX7_next_204 rfl ?_
                    refine g_dup dX7_next_205 rfl ?_
                    refine f_X7_100 rfl rfl dX7_next_206 ?_
                    refine g_topi (fun x206 ex206 => ?_)
                    have rx206 : 0 ≤ x206 ∧ x206 ≤ 160 := by rw [ex206]; exact iv_at hu198 _ _ rfl
                    have qx206 : x206 = i122 := ex206.trans T201
                    refine g_iconst (v := 1) dX7_next_209 (by decide) ?_
                    refine g_iadd dX7_next_210 ?_
                    refine g_topi (fun x207 ex207 => ?_)
                    refine p_X7_100 rfl rfl dX7_next_211 ?_
                    refine g_mem (fun u208 eu208 => ?_)
                    have hu208 : iv u208 := by rw [eu208]; exact iv_up hu198 rfl (by first | lia | grind) (by first | lia | grind)
                    have fu208 : fk [60] [3, 7, 10, 11, 13, 22, 28] u u208 := by rw [eu208]; exact fk_up fu198 (by decide) (fun _ => by decide)
                    have s209 : u208.1 60 14 = x207 := by rw [eu208, uk_up_at]; exact if_pos ⟨rfl, rfl⟩
                    have T210 : u208.1 60 13 = t124 := by rw [eu208, uk_up_at, if_neg (by decide)]; exact T200
                    have T211 : u208.1 60 15 = t125 := by rw [eu208, uk_up_at, if_neg (by decide)]; exact T202
                    have T212 : u208.1 60 16 = t126 := by rw [eu208, uk_up_at, if_neg (by decide)]; exact T203
                    have T213 : u208.1 60 17 = x197 := by rw [eu208, uk_up_at, if_neg (by decide)]; exact s199
                    have T214 : u208.1 60 18 = t128 := by rw [eu208, uk_up_at, if_neg (by decide)]; exact T204
                    have T215 : u208.1 60 19 = t129 := by rw [eu208, uk_up_at, if_neg (by decide)]; exact T205
                    refine g_goto (tgt := 140) dX7_next_214 (by decide) ?_
                    refine g_pick (lv' := [(0, .ref (uk_ad G 60)), (1, .int x38)]) [0, 1] rfl ?_
                    exact ihi122 (by first | lia | grind) u208 hu208 fu208 (s209.trans (by first | lia | grind)) (by first | rfl | (rw [T214]; grind) | rw [T214]) (by first | rfl | (rw [T212]; grind) | rw [T212]) (by rw [T211, s209, T213]; exact TJ_s hj (by grind) n160 (by grind) rfl (Or.inr (Or.inl ⟨(by unfold dig; grind), rfl⟩)) (fun z z9 => by grind) (by grind)) (by first | rfl | (rw [s209]; grind) | rw [s209]) (by first | rfl | (rw [T211]; grind) | rw [T211]) (by first | rfl | (rw [T211, s209]; grind) | rw [T211, s209])
              refine g_pick (lv' := [(0, .ref (uk_ad G 60)), (1, .int x38)]) [0, 1] rfl ?_
              exact L140_120 (u113.1 60 14) (iv_at hu113 _ _ rfl).1 (iv_at hu113 _ _ rfl).2  u113 hu113 fu113 rfl (by first | rfl | (rw [T119]; grind) | rw [T119]) (by first | rfl | (rw [T118]; grind) | rw [T118]) (by rw [T117, T116, s114]; rw [show x25 = i11 by grind]; exact TJ_12 (by grind) n160 RN NN (by grind) (Or.inr (Or.inl ⟨(by unfold dig; grind), rfl⟩)) (by decide) (by decide)) (by first | rfl | (rw [T116]; grind) | rw [T116]) (by first | rfl | (rw [T117]; grind) | rw [T117]) (by first | rfl | (rw [T117, T116]; grind) | rw [T117, T116])
          · have zc44 := nx43 c44
            refine g_aload_n dX7_next_77 rfl ?_
            refine g_iconst (v := 1) dX7_next_78 (by decide) ?_
            refine p_X7_111 rfl rfl dX7_next_79 ?_
            refine g_mem (fun u216 eu216 => ?_)
            have hu216 : iv u216 := by rw [eu216]; exact iv_upF hu26 rfl
            have fu216 : fk [60] [3, 7, 10, 11, 13, 22, 28] u u216 := by rw [eu216]; exact fk_up fu26 (by decide) (fun _ => by decide)
            have s217 : u216.1 60 16 = 1 := by rw [eu216, uk_up_at]; exact if_pos ⟨rfl, rfl⟩
            have T218 : u216.1 60 13 = t13 := by rw [eu216, uk_up_at, if_neg (by decide)]; exact T28
            have T219 : u216.1 60 14 = i11 := by rw [eu216, uk_up_at, if_neg (by decide)]; exact T29
            have T220 : u216.1 60 15 = x25 := by rw [eu216, uk_up_at, if_neg (by decide)]; exact s27
            have T221 : u216.1 60 17 = t16 := by rw [eu216, uk_up_at, if_neg (by decide)]; exact T31
            have T222 : u216.1 60 18 = t17 := by rw [eu216, uk_up_at, if_neg (by decide)]; exact T32
            have T223 : u216.1 60 19 = t18 := by rw [eu216, uk_up_at, if_neg (by decide)]; exact T33
            have L82_223 : ∀ i225 : Int32, 0 ≤ i225 → i225 ≤ 160 → ∀ (u226 : uk_Mem), iv u226 → fk [60] [3, 7, 10, 11, 13, 22, 28] u u226 → u226.1 60 14 = i225 → u226.1 60 18 = u.1 60 18 → u226.1 60 16 = 1 → TJ (u.1 69) (u.1 60 13) (u.1 60 14) (u226.1 60 15) 1 0 (u226.1 60 14) → u.1 60 14 ≤ u226.1 60 14 → u.1 60 14 ≤ u226.1 60 15 → u226.1 60 15 ≤ u226.1 60 14 → uk_G G X mX7_next (d + 1) (q_X7_next_s u) 82 [(0, .ref (uk_ad G 60)), (1, .int x38)] [] u226 := by
              refine uk_upl 160 ?_
              intro i225 ai225 bi225 ihi225  u226 hu226 fu226 ki225 ji2250 ji2251 ji2252 ji2253 ji2254 ji2255
              obtain ⟨t227, Tt227⟩ : ∃ t, u226.1 60 13 = t := ⟨_, rfl⟩
              have Rt227 : 0 ≤ t227 ∧ t227 ≤ 160 := by rw [← Tt227]; exact iv_at hu226 _ _ rfl
              obtain ⟨t228, Tt228⟩ : ∃ t, u226.1 60 15 = t := ⟨_, rfl⟩
              have Rt228 : 0 ≤ t228 ∧ t228 ≤ 160 := by rw [← Tt228]; exact iv_at hu226 _ _ rfl
              obtain ⟨t229, Tt229⟩ : ∃ t, u226.1 60 16 = t := ⟨_, rfl⟩
              obtain ⟨t230, Tt230⟩ : ∃ t, u226.1 60 17 = t := ⟨_, rfl⟩
              obtain ⟨t231, Tt231⟩ : ∃ t, u226.1 60 18 = t := ⟨_, rfl⟩
              have Rt231 : 0 ≤ t231 ∧ t231 ≤ 6 := by rw [← Tt231]; exact iv_at hu226 _ _ rfl
              obtain ⟨t232, Tt232⟩ : ∃ t, u226.1 60 19 = t := ⟨_, rfl⟩
              refine g_aload_n dX7_next_82 rfl ?_
              have hj : TJ (u.1 69) (u.1 60 13) (u.1 60 14) t228 1 0 i225 := by rw [← Tt228, ← ki225]; exact ji2252
              refine g_aload_n dX7_next_83 rfl ?_
              refine f_X7_100 rfl rfl dX7_next_84 ?_
              refine g_topi (fun x233 ex233 => ?_)
              have rx233 : 0 ≤ x233 ∧ x233 ≤ 160 := by rw [ex233]; exact iv_at hu226 _ _ rfl
              have qx233 : x233 = i225 := ex233.trans ki225
              refine cl_X7_103 (c := 60) (As := [.int x233]) rfl (c_X7_byteAt_s (G := G) hs hu226  x233 (by first | trivial | decide | lia | grind) (d)) rfl (by omega) rfl rfl (Nat.le_of_ble_eq_true rfl) dX7_next_87 (fun r234 u235 q236 => ?_)
              obtain ⟨⟨x237, rfl, tx237⟩, mq236⟩ := q236
              rw [mq236]
              have bx237 : (x237 = -1 ∧ u.1 60 13 ≤ i225) ∨ (i225 < u.1 60 13 ∧ 0 ≤ x237 ∧ x237 = u.1 69 i225.toNatClampNeg) := by rw [← fk_at (c := 60) (i := 13) fu226 (by decide), ← fk_c (c := 69) fu226 (by decide), show i225 = x233 by grind]; exact tx237
              refine g_i2l dX7_next_90 ?_
              refine g_ldc2 (v := 97) k_X7_114 dX7_next_91 ?_
              refine g_ldc2 (v := 122) k_X7_116 dX7_next_94 ?_
              refine cl_X7_84 (As := [.long x237.toInt64, .long 97, .long 122]) rfl (c_X7_in (G := G) hs hu226  x237 97 122  (d)) rfl (by omega) rfl (Nat.le_of_ble_eq_true rfl) dX7_next_97 (fun r238 u239 q240 => ?_)
              obtain ⟨⟨x241, rfl, tx241, nx241, zx241⟩, mq240⟩ := q240
              rw [mq240]
              refine g_if_eq (tgt := 274) dX7_next_100 (by decide) (fun c242 => ?_) (fun c242 => ?_)
              · have zc242 := zx241 c242
                have EX : ¬ (i225 < u.1 60 13 ∧ tf (u.1 69 i225.toNatClampNeg) 1) := fun z => by have z1 := z.1; have z2 := tf_1 z.2 rfl; unfold nam at z2; grind
                exact g_vret dX7_next_274 rfl ⟨rfl, hu226, fu226, (by first | rfl | (rw [Tt231]; grind) | rw [Tt231]), (by first | rfl | (rw [ki225]; grind) | rw [ki225]), (by first | rfl | (rw [Tt228]; grind) | rw [Tt228]), (by first | rfl | (rw [Tt228, ki225]; grind) | rw [Tt228, ki225]), (fun q => ah_G (TJ_e (t' := 1) hj EX (fun z => absurd z (by decide)) (fun z => absurd z (by decide)) (fun _ => rfl)) (by decide) (by first | (rw [Tt231]; done) | (rw [Tt231]; grind)) (by first | (rw [Tt228]; done) | (rw [Tt228]; grind)) (by first | (rw [Tt229]; done) | (rw [Tt229]; grind)) (fun z => absurd z (by decide)) (by first | (rw [ki225]; done) | (rw [ki225]; grind))), (fun q => by exfalso; grind)⟩
              · have zc242 := nx241 c242
                refine g_aload_n dX7_next_103 rfl ?_
                refine g_dup dX7_next_104 rfl ?_
                refine f_X7_100 rfl rfl dX7_next_105 ?_
                refine g_topi (fun x243 ex243 => ?_)
                have rx243 : 0 ≤ x243 ∧ x243 ≤ 160 := by rw [ex243]; exact iv_at hu226 _ _ rfl
                have qx243 : x243 = i225 := ex243.trans ki225
                refine g_iconst (v := 1) dX7_next_108 (by decide) ?_
                refine g_iadd dX7_next_109 ?_
                refine g_topi (fun x244 ex244 => ?_)
                refine p_X7_100 rfl rfl dX7_next_110 ?_
                refine g_mem (fun u245 eu245 => ?_)
                have hu245 : iv u245 := by rw [eu245]; exact iv_up hu226 rfl (by first | lia | grind) (by first | lia | grind)
                have fu245 : fk [60] [3, 7, 10, 11, 13, 22, 28] u u245 := by rw [eu245]; exact fk_up fu226 (by decide) (fun _ => by decide)
                have s246 : u245.1 60 14 = x244 := by rw [eu245, uk_up_at]; exact if_pos ⟨rfl, rfl⟩
                have T247 : u245.1 60 13 = t227 := by rw [eu245, uk_up_at, if_neg (by decide)]; exact Tt227
                have T248 : u245.1 60 15 = t228 := by rw [eu245, uk_up_at, if_neg (by decide)]; exact Tt228
                have T249 : u245.1 60 16 = t229 := by rw [eu245, uk_up_at, if_neg (by decide)]; exact Tt229
                have T250 : u245.1 60 17 = t230 := by rw [eu245, uk_up_at, if_neg (by decide)]; exact Tt230
                have T251 : u245.1 60 18 = t231 := by rw [eu245, uk_up_at, if_neg (by decide)]; exact Tt231
                have T252 : u245.1 60 19 = t232 := by rw [eu245, uk_up_at, if_neg (by decide)]; exact Tt232
                refine g_goto (tgt := 82) dX7_next_113 (by decide) ?_
                refine g_pick (lv' := [(0, .ref (uk_ad G 60)), (1, .int x38)]) [0, 1] rfl ?_
                exact ihi225 (by first | lia | grind) u245 hu245 fu245 (s246.trans (by first | lia | grind)) (by first | rfl | (rw [T251]; grind) | rw [T251]) (by first | rfl | (rw [T249]; grind) | rw [T249]) (by rw [T248, s246]; exact TJ_s hj (by grind) n160 (by grind) rfl (Or.inl ⟨(by unfold nam; grind), rfl⟩) (fun z z9 => by exact absurd z (by decide)) (by grind)) (by first | rfl | (rw [s246]; grind) | rw [s246]) (by first | rfl | (rw [T248]; grind) | rw [T248]) (by first | rfl | (rw [T248, s246]; grind) | rw [T248, s246])
            refine g_pick (lv' := [(0, .ref (uk_ad G 60)), (1, .int x38)]) [0, 1] rfl ?_
            exact L82_223 (u216.1 60 14) (iv_at hu216 _ _ rfl).1 (iv_at hu216 _ _ rfl).2  u216 hu216 fu216 rfl (by first | rfl | (rw [T222]; grind) | rw [T222]) (by first | rfl | (rw [s217]; grind) | rw [s217]) (by rw [T220, T219]; rw [show x25 = i11 by grind]; exact TJ_12 (by grind) n160 RN NN (by grind) (Or.inl ⟨(by unfold nam; grind), rfl⟩) (by decide) (by decide)) (by first | rfl | (rw [T219]; grind) | rw [T219]) (by first | rfl | (rw [T220]; grind) | rw [T220]) (by first | rfl | (rw [T220, T219]; grind) | rw [T220, T219])
        · refine g_aload_n dX7_next_55 rfl ?_
          refine g_iconst (v := 0) dX7_next_56 (by decide) ?_
          refine p_X7_111 rfl rfl dX7_next_57 ?_
          refine g_mem (fun u253 eu253 => ?_)
          have hu253 : iv u253 := by rw [eu253]; exact iv_upF hu26 rfl
          have fu253 : fk [60] [3, 7, 10, 11, 13, 22, 28] u u253 := by rw [eu253]; exact fk_up fu26 (by decide) (fun _ => by decide)
          have s254 : u253.1 60 16 = 0 := by rw [eu253, uk_up_at]; exact if_pos ⟨rfl, rfl⟩
          have T255 : u253.1 60 13 = t13 := by rw [eu253, uk_up_at, if_neg (by decide)]; exact T28
          have T256 : u253.1 60 14 = i11 := by rw [eu253, uk_up_at, if_neg (by decide)]; exact T29
          have T257 : u253.1 60 15 = x25 := by rw [eu253, uk_up_at, if_neg (by decide)]; exact s27
          have T258 : u253.1 60 17 = t16 := by rw [eu253, uk_up_at, if_neg (by decide)]; exact T31
          have T259 : u253.1 60 18 = t17 := by rw [eu253, uk_up_at, if_neg (by decide)]; exact T32
          have T260 : u253.1 60 19 = t18 := by rw [eu253, uk_up_at, if_neg (by decide)]; exact T33
          refine g_goto (tgt := 274) dX7_next_60 (by decide) ?_
          exact g_vret dX7_next_274 rfl ⟨rfl, hu253, fu253, (by first | rfl | (rw [T259]; grind) | rw [T259]), (by first | rfl | (rw [T256]; grind) | rw [T256]), (by first | rfl | (rw [T257]; grind) | rw [T257]), (by first | rfl | (rw [T257, T256]; grind) | rw [T257, T256]), (fun q => ah_G (TK_0 (v := 0) RN (by grind)) (by decide) (by first | (rw [T259]; done) | (rw [T259]; grind)) (by first | (rw [T257]; done) | (rw [T257]; grind)) (by first | (rw [s254]; done) | (rw [s254]; grind)) (fun z => absurd z (by decide)) (by first | (rw [T256]; done) | (rw [T256]; grind))), (fun q => by exfalso; grind)⟩
      · refine g_aload_n dX7_next_21 rfl ?_
        refine g_dup dX7_next_22 rfl ?_
        refine f_X7_100 rfl rfl dX7_next_23 ?_
        refine g_topi (fun x261 ex261 => ?_)
        have rx261 : 0 ≤ x261 ∧ x261 ≤ 160 := by rw [ex261]; exact iv_at hu12 _ _ rfl
        have qx261 : x261 = i11 := ex261.trans ki11
        refine g_iconst (v := 1) dX7_next_26 (by decide) ?_
        refine g_iadd dX7_next_27 ?_
        refine g_topi (fun x262 ex262 => ?_)
        refine p_X7_100 rfl rfl dX7_next_28 ?_
        refine g_mem (fun u263 eu263 => ?_)
        have hu263 : iv u263 := by rw [eu263]; exact iv_up hu12 rfl (by first | lia | grind) (by first | lia | grind)
        have fu263 : fk [60] [3, 7, 10, 11, 13, 22, 28] u u263 := by rw [eu263]; exact fk_up fu12 (by decide) (fun _ => by decide)
        have s264 : u263.1 60 14 = x262 := by rw [eu263, uk_up_at]; exact if_pos ⟨rfl, rfl⟩
        have T265 : u263.1 60 13 = t13 := by rw [eu263, uk_up_at, if_neg (by decide)]; exact Tt13
        have T266 : u263.1 60 15 = t14 := by rw [eu263, uk_up_at, if_neg (by decide)]; exact Tt14
        have T267 : u263.1 60 16 = t15 := by rw [eu263, uk_up_at, if_neg (by decide)]; exact Tt15
        have T268 : u263.1 60 17 = t16 := by rw [eu263, uk_up_at, if_neg (by decide)]; exact Tt16
        have T269 : u263.1 60 18 = t17 := by rw [eu263, uk_up_at, if_neg (by decide)]; exact Tt17
        have T270 : u263.1 60 19 = t18 := by rw [eu263, uk_up_at, if_neg (by decide)]; exact Tt18
        have hr : rn e32 (u.1 69) (u.1 60 13) (u.1 60 14) (i11 + 1) := rn_up (show rn e32 (u.1 69) (u.1 60 13) (u.1 60 14) i11 from by rw [← ki11]; exact ji111) (by grind) n160 (by unfold e32; grind)
        refine g_goto (tgt := 8) dX7_next_31 (by decide) ?_
        refine g_pick (lv' := [(0, .ref (uk_ad G 60))]) [0] rfl ?_
        exact ihi11 (by first | lia | grind) u263 hu263 fu263 (s264.trans (by first | lia | grind)) (by first | rfl | (rw [T269]; grind) | rw [T269]) (by rw [s264, show x262 = i11 + 1 by grind]; exact hr)
    refine g_pick (lv' := [(0, .ref (uk_ad G 60))]) [0] rfl ?_
    exact L8_9 (u.1 60 14) (iv_at hu _ _ rfl).1 (iv_at hu _ _ rfl).2  u hu f0 rfl rfl rn_0
  · exact g_vret dX7_next_7 rfl ⟨rfl, hu, f0, (fun q => q), (by grind), (fun q => by exfalso; grind), (fun q => by exfalso; grind), (fun q => by exfalso; grind), (fun _ => ⟨rfl, rfl, rfl, rfl, rfl, rfl⟩)⟩
