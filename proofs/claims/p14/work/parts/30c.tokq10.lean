theorem Re_G {f : Nat → Int32} {n c : Int32} {u : uk_Mem} (h : Rc f n u c) (h1 : ¬ (u.1 1 2 = 0 ∧ ¬ (u.1 1 4 >>> u.1 4 0) = 0)) : c = (pRes f n).2 ∧ u.1 1 2 = (pRes f n).1.1 ∧ (¬ (pRes f n).1.1 = 0 → u.1 1 3 = (pRes f n).1.2.1) := by
  obtain ⟨b, a1, a2, a3, a4⟩ := h
  have e : pRes f n = (b, c) := by
    unfold pRes pEnd
    rw [a1, if_neg (fun z => h1 ⟨a2.trans z.1, by rw [(a4 z.1).1, (a4 z.1).2]; exact z.2⟩)]
  rw [e]
  exact ⟨rfl, a2, a3⟩
abbrev q_X5_refuse_s (u : uk_Mem) (k : Int32) (b : Int32) (r : Option Value) (u' : uk_Mem) : Prop := (r = none) ∧ (iv u' ∧ fr 1 2 u u' ∧ u'.1 1 2 = k ∧ u'.1 1 3 = b ∧ u'.1 1 4 = u.1 1 4)
set_option maxHeartbeats 4000000 in
set_option maxRecDepth 20000 in
theorem c_X5_refuse_s {G : uk_D} (hs : uk_Sep G) {u : uk_Mem} (hu : iv u) (k : Int32) (b : Int32) (d : Nat) : uk_Meth G d mX5_refuse [.ref (uk_ad G 1), .int k, .int b] u (q_X5_refuse_s u k b) := by
  refine uk_Meth.of hs (by decide) (Nat.le_of_ble_eq_true rfl) (fun X => ?_)
  have f0 : fr 1 2 u u := fr_rf
  refine g_aload_n dX5_refuse_0 rfl ?_
  refine g_iload_n dX5_refuse_1 rfl ?_
  refine p_X5_9 rfl rfl dX5_refuse_2 ?_
  refine g_mem (fun u1 eu1 => ?_)
  have hu1 : iv u1 := by rw [eu1]; exact iv_upF hu rfl
  have fu1 : fr 1 2 u u1 := by rw [eu1]; exact fr_up f0 (by omega) (by omega)
  have s2 : u1.1 1 2 = k := by rw [eu1, uk_up_at]; exact if_pos ⟨rfl, rfl⟩
  refine g_aload_n dX5_refuse_5 rfl ?_
  refine g_iload_n dX5_refuse_6 rfl ?_
  refine p_X5_15 rfl rfl dX5_refuse_7 ?_
  refine g_mem (fun u3 eu3 => ?_)
  have hu3 : iv u3 := by rw [eu3]; exact iv_upF hu1 rfl
  have fu3 : fr 1 2 u u3 := by rw [eu3]; exact fr_up fu1 (by omega) (by omega)
  have s4 : u3.1 1 3 = b := by rw [eu3, uk_up_at]; exact if_pos ⟨rfl, rfl⟩
  exact g_vret dX5_refuse_10 rfl ⟨rfl, hu3, fu3, (by grind [uk_up_at]), (by grind [uk_up_at]), (by grind [uk_up_at])⟩
abbrev q_X5_take_s (u : uk_Mem) (w : Int32) (n : Int32) (f : Nat → Int32) (N : Int32) (a : PS) (r : Option Value) (u' : uk_Mem) : Prop := (∃ x : Int32, r = some (.int x) ∧ ((w = 2 → 0 ≤ x ∧ x ≤ 99 ∧ (u'.1 1 2 = 0 → x ≤ n)) ∧ x = (pTake f N a w n).2)) ∧ (iv u' ∧ fr 1 3 u u' ∧ u'.1 2 1 = u.1 2 1 ∧ (u'.1 1 2 = 0 → u.1 1 2 = 0) ∧ Sc f N u' (pTake f N a w n).1 ∧ (u'.1 1 2 = 0 → u.1 1 2 = 0 → u'.1 2 4 = (tk f N (u.1 2 2)).1))
set_option maxHeartbeats 4000000 in
set_option maxRecDepth 20000 in
theorem c_X5_take_s {G : uk_D} (hs : uk_Sep G) {u : uk_Mem} (hu : iv u) (w : Int32) (n : Int32) (f : Nat → Int32) (N : Int32) (a : PS) (p0 : Sc f N u a) (p1 : w = 2 ∨ w = 3) (d : Nat) : uk_Meth G (d + 2) mX5_take [.ref (uk_ad G 1), .int w, .int n] u (q_X5_take_s u w n f N a) := by
  refine uk_Meth.of hs (by decide) (Nat.le_of_ble_eq_true rfl) (fun X => ?_)
  have f0 : fr 1 3 u u := fr_rf
  refine g_aload_n dX5_take_0 rfl ?_
  refine f_X5_9 rfl rfl dX5_take_1 ?_
  refine g_topi (fun x1 ex1 => ?_)
  have s2 : u.1 1 2 = x1 := ex1.symm
  refine g_if_eq (tgt := 9) dX5_take_4 (by decide) (fun c3 => ?_) (fun c3 => ?_)
  · refine g_aload_n dX5_take_9 rfl ?_
    refine f_X5_21 rfl rfl dX5_take_10 ?_
    refine cl_X5_51 (c := 2) (As := []) rfl (c_X4_readToken_s (G := G) hs hu    (d)) rfl (by omega) rfl rfl (Nat.le_of_ble_eq_true rfl) dX5_take_13 (fun r4 u5 q6 => ?_)
    obtain ⟨rfl, mq6⟩ := q6
    obtain ⟨hu5, gu5, ku50, ku51⟩ := mq6
    have fu5 : fr 1 3 u u5 := fr_tr f0 gu5 (by omega) (by omega)
    have wu5_4_0 : u5.1 4 0 = u.1 4 0 := fr_at gu5 (by omega)
    have wu5_1_2 : u5.1 1 2 = u.1 1 2 := fr_at gu5 (by omega)
    have s7 : u5.1 1 2 = x1 := (fr_at gu5 (by omega)).trans s2
    have hN : N ≤ 160 := by rw [← p0.2.1]; exact (iv_at hu 2 1 rfl).2
    have hP0 : 0 ≤ u.1 2 2 := (iv_at hu 2 2 rfl).1
    have HT : TK f N (u.1 2 2) (u5.1 2 4) (u5.1 2 3) (u5.1 2 5) (u5.1 2 2) := TK_cg p0.1 hP0 hN (by rw [← p0.2.1]; exact ku51)
    have HV := TK_v hN hP0 HT
    have hF0 : u.1 1 2 = 0 := by grind
    have w1 : u5.1 1 2 = u.1 1 2 := fr_at gu5 (by omega)
    refine g_aload_n dX5_take_16 rfl ?_
    refine f_X5_21 rfl rfl dX5_take_17 ?_
    refine f_X5_54 rfl rfl dX5_take_20 ?_
    refine g_topi (fun x8 ex8 => ?_)
    have s9 : u5.1 2 3 = x8 := ex8.symm
    refine g_iconst (v := 4) dX5_take_23 (by decide) ?_
    refine g_icmp_ne (tgt := 42) dX5_take_24 (by decide) (fun c10 => ?_) (fun c10 => ?_)
    · refine g_aload_n dX5_take_42 rfl ?_
      refine f_X5_21 rfl rfl dX5_take_43 ?_
      refine f_X5_54 rfl rfl dX5_take_46 ?_
      refine g_topi (fun x11 ex11 => ?_)
      have qx11 : x11 = x8 := by rw [ex11]; exact s9
      refine g_iload_n dX5_take_49 rfl ?_
      refine g_icmp_eq (tgt := 68) dX5_take_50 (by decide) (fun c12 => ?_) (fun c12 => ?_)
      · refine g_aload_n dX5_take_68 rfl ?_
        refine f_X5_21 rfl rfl dX5_take_69 ?_
        refine f_X5_105 rfl rfl dX5_take_72 ?_
        refine g_topi (fun x13 ex13 => ?_)
        have s14 : u5.1 2 5 = x13 := ex13.symm
        refine g_iload_n dX5_take_75 rfl ?_
        refine g_icmp_le (tgt := 91) dX5_take_76 (by decide) (fun c15 => ?_) (fun c15 => ?_)
        · refine g_aload_n dX5_take_91 rfl ?_
          refine f_X5_9 rfl rfl dX5_take_92 ?_
          refine g_topi (fun x16 ex16 => ?_)
          have qx16 : x16 = x1 := by rw [ex16]; exact s7
          refine g_if_ne (tgt := 108) dX5_take_95 (by decide) (fun c17 => ?_) (fun c17 => ?_)
          · refine g_iconst (v := 0) dX5_take_108 (by decide) ?_
            exact g_iret (ty := .int) dX5_take_109 rfl rfl ⟨⟨_, rfl, (by exfalso; grind)⟩, hu5, fu5, (by exfalso; grind), (by exfalso; grind), (by exfalso; grind), (by exfalso; grind)⟩
          · refine g_aload_n dX5_take_98 rfl ?_
            refine f_X5_21 rfl rfl dX5_take_99 ?_
            refine f_X5_105 rfl rfl dX5_take_102 ?_
            refine g_topi (fun x18 ex18 => ?_)
            have qx18 : x18 = x13 := by rw [ex18]; exact s14
            refine g_goto (tgt := 109) dX5_take_105 (by decide) ?_
            exact g_iret (ty := .int) dX5_take_109 rfl rfl ⟨⟨_, rfl, ⟨by first | trivial | lia | grind, (by rw [← (take_G hN hP0 p0 hF0 HT (by grind) (by grind) (by grind) (by grind) (gu5.1 3 (by omega)) ku50 (fr_at gu5 (by omega)) (fr_at gu5 (by omega)) rfl (fr_at gu5 (by omega))).2]; grind)⟩⟩, hu5, fu5, (by grind), (by grind), (take_G hN hP0 p0 hF0 HT (by grind) (by grind) (by grind) (by grind) (gu5.1 3 (by omega)) ku50 (fr_at gu5 (by omega)) (fr_at gu5 (by omega)) rfl (fr_at gu5 (by omega))).1, (fun q q2 => (tk_eq hN hP0 HT).1.symm)⟩
        · refine g_aload_n dX5_take_79 rfl ?_
          refine g_iconst (v := 3) dX5_take_80 (by decide) ?_
          refine g_aload_n dX5_take_81 rfl ?_
          refine f_X5_21 rfl rfl dX5_take_82 ?_
          refine f_X5_61 rfl rfl dX5_take_85 ?_
          refine g_topi (fun x19 ex19 => ?_)
          have rx19 : 0 ≤ x19 ∧ x19 ≤ 160 := by rw [ex19]; exact iv_at hu5 _ _ rfl
          have s20 : u5.1 2 4 = x19 := ex19.symm
          refine cl_X5_47 (c := 1) (As := [.int 3, .int x19]) rfl (c_X5_refuse_s (G := G) hs hu5  3 x19  (d + 1)) rfl (by omega) rfl rfl (Nat.le_of_ble_eq_true rfl) dX5_take_88 (fun r21 u22 q23 => ?_)
          obtain ⟨rfl, mq23⟩ := q23
          obtain ⟨hu22, gu22, ku220, ku221, ku222⟩ := mq23
          have fu22 : fr 1 3 u u22 := fr_tr fu5 gu22 (by omega) (by omega)
          have wu22_2_1 : u22.1 2 1 = u5.1 2 1 := fr_at gu22 (by omega)
          have wu22_4_0 : u22.1 4 0 = u5.1 4 0 := fr_at gu22 (by omega)
          have s24 : u22.1 2 3 = x8 := (fr_at gu22 (by omega)).trans s9
          have s25 : u22.1 2 5 = x13 := (fr_at gu22 (by omega)).trans s14
          have s26 : u22.1 2 4 = x19 := (fr_at gu22 (by omega)).trans s20
          refine g_aload_n dX5_take_91 rfl ?_
          refine f_X5_9 rfl rfl dX5_take_92 ?_
          refine g_topi (fun x27 ex27 => ?_)
          have s28 : u22.1 1 2 = x27 := ex27.symm
          refine g_if_ne (tgt := 108) dX5_take_95 (by decide) (fun c29 => ?_) (fun c29 => ?_)
          · refine g_iconst (v := 0) dX5_take_108 (by decide) ?_
            exact g_iret (ty := .int) dX5_take_109 rfl rfl ⟨⟨_, rfl, ⟨by first | trivial | lia | grind, (take_B hN hP0 p0 hF0 HT (Or.inr (Or.inr ⟨by grind, by grind, by grind, by grind, rfl⟩)) ((gu22.1 3 (by omega)).trans (gu5.1 3 (by omega))) ((fr_at gu22 (by omega)).trans ku50) ku220 (ku221.trans (by grind)) ((fr_at gu22 (by omega)).trans (fr_at gu5 (by omega)))).2⟩⟩, hu22, fu22, (by grind), (by grind), (take_B hN hP0 p0 hF0 HT (Or.inr (Or.inr ⟨by grind, by grind, by grind, by grind, rfl⟩)) ((gu22.1 3 (by omega)).trans (gu5.1 3 (by omega))) ((fr_at gu22 (by omega)).trans ku50) ku220 (ku221.trans (by grind)) ((fr_at gu22 (by omega)).trans (fr_at gu5 (by omega)))).1, (fun q q2 => by exfalso; grind)⟩
          · refine g_aload_n dX5_take_98 rfl ?_
            refine f_X5_21 rfl rfl dX5_take_99 ?_
            refine f_X5_105 rfl rfl dX5_take_102 ?_
            refine g_topi (fun x30 ex30 => ?_)
            have qx30 : x30 = x13 := by rw [ex30]; exact s25
            refine g_goto (tgt := 109) dX5_take_105 (by decide) ?_
            exact g_iret (ty := .int) dX5_take_109 rfl rfl ⟨⟨_, rfl, (by exfalso; grind)⟩, hu22, fu22, (by exfalso; grind), (by exfalso; grind), (by exfalso; grind), (by exfalso; grind)⟩
      · refine g_aload_n dX5_take_53 rfl ?_
        refine g_iconst (v := 2) dX5_take_54 (by decide) ?_
        refine g_aload_n dX5_take_55 rfl ?_
        refine f_X5_21 rfl rfl dX5_take_56 ?_
        refine f_X5_61 rfl rfl dX5_take_59 ?_
        refine g_topi (fun x31 ex31 => ?_)
        have rx31 : 0 ≤ x31 ∧ x31 ≤ 160 := by rw [ex31]; exact iv_at hu5 _ _ rfl
        have s32 : u5.1 2 4 = x31 := ex31.symm
        refine cl_X5_47 (c := 1) (As := [.int 2, .int x31]) rfl (c_X5_refuse_s (G := G) hs hu5  2 x31  (d + 1)) rfl (by omega) rfl rfl (Nat.le_of_ble_eq_true rfl) dX5_take_62 (fun r33 u34 q35 => ?_)
        obtain ⟨rfl, mq35⟩ := q35
        obtain ⟨hu34, gu34, ku340, ku341, ku342⟩ := mq35
        have fu34 : fr 1 3 u u34 := fr_tr fu5 gu34 (by omega) (by omega)
        have wu34_2_1 : u34.1 2 1 = u5.1 2 1 := fr_at gu34 (by omega)
        have wu34_4_0 : u34.1 4 0 = u5.1 4 0 := fr_at gu34 (by omega)
        have s36 : u34.1 2 3 = x8 := (fr_at gu34 (by omega)).trans s9
        have s37 : u34.1 2 4 = x31 := (fr_at gu34 (by omega)).trans s32
        refine g_goto (tgt := 91) dX5_take_65 (by decide) ?_
        refine g_aload_n dX5_take_91 rfl ?_
        refine f_X5_9 rfl rfl dX5_take_92 ?_
        refine g_topi (fun x38 ex38 => ?_)
        have s39 : u34.1 1 2 = x38 := ex38.symm
        refine g_if_ne (tgt := 108) dX5_take_95 (by decide) (fun c40 => ?_) (fun c40 => ?_)
        · refine g_iconst (v := 0) dX5_take_108 (by decide) ?_
          exact g_iret (ty := .int) dX5_take_109 rfl rfl ⟨⟨_, rfl, ⟨by first | trivial | lia | grind, (take_B hN hP0 p0 hF0 HT (Or.inr (Or.inl ⟨by grind, by grind, rfl⟩)) ((gu34.1 3 (by omega)).trans (gu5.1 3 (by omega))) ((fr_at gu34 (by omega)).trans ku50) ku340 (ku341.trans (by grind)) ((fr_at gu34 (by omega)).trans (fr_at gu5 (by omega)))).2⟩⟩, hu34, fu34, (by grind), (by grind), (take_B hN hP0 p0 hF0 HT (Or.inr (Or.inl ⟨by grind, by grind, rfl⟩)) ((gu34.1 3 (by omega)).trans (gu5.1 3 (by omega))) ((fr_at gu34 (by omega)).trans ku50) ku340 (ku341.trans (by grind)) ((fr_at gu34 (by omega)).trans (fr_at gu5 (by omega)))).1, (fun q q2 => by exfalso; grind)⟩
        · refine g_aload_n dX5_take_98 rfl ?_
          refine f_X5_21 rfl rfl dX5_take_99 ?_
          refine f_X5_105 rfl rfl dX5_take_102 ?_
          refine g_topi (fun x41 ex41 => ?_)
          have s42 : u34.1 2 5 = x41 := ex41.symm
          refine g_goto (tgt := 109) dX5_take_105 (by decide) ?_
          exact g_iret (ty := .int) dX5_take_109 rfl rfl ⟨⟨_, rfl, (by exfalso; grind)⟩, hu34, fu34, (by exfalso; grind), (by exfalso; grind), (by exfalso; grind), (by exfalso; grind)⟩
    · refine g_aload_n dX5_take_27 rfl ?_
      refine g_iconst (v := 1) dX5_take_28 (by decide) ?_
      refine g_aload_n dX5_take_29 rfl ?_
      refine f_X5_21 rfl rfl dX5_take_30 ?_
      refine f_X5_61 rfl rfl dX5_take_33 ?_
      refine g_topi (fun x43 ex43 => ?_)
      have rx43 : 0 ≤ x43 ∧ x43 ≤ 160 := by rw [ex43]; exact iv_at hu5 _ _ rfl
      have s44 : u5.1 2 4 = x43 := ex43.symm
      refine cl_X5_47 (c := 1) (As := [.int 1, .int x43]) rfl (c_X5_refuse_s (G := G) hs hu5  1 x43  (d + 1)) rfl (by omega) rfl rfl (Nat.le_of_ble_eq_true rfl) dX5_take_36 (fun r45 u46 q47 => ?_)
      obtain ⟨rfl, mq47⟩ := q47
      obtain ⟨hu46, gu46, ku460, ku461, ku462⟩ := mq47
      have fu46 : fr 1 3 u u46 := fr_tr fu5 gu46 (by omega) (by omega)
      have wu46_2_1 : u46.1 2 1 = u5.1 2 1 := fr_at gu46 (by omega)
      have wu46_4_0 : u46.1 4 0 = u5.1 4 0 := fr_at gu46 (by omega)
      have s48 : u46.1 2 3 = x8 := (fr_at gu46 (by omega)).trans s9
      have s49 : u46.1 2 4 = x43 := (fr_at gu46 (by omega)).trans s44
      refine g_goto (tgt := 91) dX5_take_39 (by decide) ?_
      refine g_aload_n dX5_take_91 rfl ?_
      refine f_X5_9 rfl rfl dX5_take_92 ?_
      refine g_topi (fun x50 ex50 => ?_)
      have s51 : u46.1 1 2 = x50 := ex50.symm
      refine g_if_ne (tgt := 108) dX5_take_95 (by decide) (fun c52 => ?_) (fun c52 => ?_)
      · refine g_iconst (v := 0) dX5_take_108 (by decide) ?_
        exact g_iret (ty := .int) dX5_take_109 rfl rfl ⟨⟨_, rfl, ⟨by first | trivial | lia | grind, (take_B hN hP0 p0 hF0 HT (Or.inl ⟨by grind, rfl⟩) ((gu46.1 3 (by omega)).trans (gu5.1 3 (by omega))) ((fr_at gu46 (by omega)).trans ku50) ku460 (ku461.trans (by grind)) ((fr_at gu46 (by omega)).trans (fr_at gu5 (by omega)))).2⟩⟩, hu46, fu46, (by grind), (by grind), (take_B hN hP0 p0 hF0 HT (Or.inl ⟨by grind, rfl⟩) ((gu46.1 3 (by omega)).trans (gu5.1 3 (by omega))) ((fr_at gu46 (by omega)).trans ku50) ku460 (ku461.trans (by grind)) ((fr_at gu46 (by omega)).trans (fr_at gu5 (by omega)))).1, (fun q q2 => by exfalso; grind)⟩
      · refine g_aload_n dX5_take_98 rfl ?_
        refine f_X5_21 rfl rfl dX5_take_99 ?_
        refine f_X5_105 rfl rfl dX5_take_102 ?_
        refine g_topi (fun x53 ex53 => ?_)
        have s54 : u46.1 2 5 = x53 := ex53.symm
        refine g_goto (tgt := 109) dX5_take_105 (by decide) ?_
        exact g_iret (ty := .int) dX5_take_109 rfl rfl ⟨⟨_, rfl, (by exfalso; grind)⟩, hu46, fu46, (by exfalso; grind), (by exfalso; grind), (by exfalso; grind), (by exfalso; grind)⟩
  · refine g_iconst (v := 0) dX5_take_7 (by decide) ?_
    exact g_iret (ty := .int) dX5_take_8 rfl rfl ⟨⟨_, rfl, ⟨by first | trivial | lia | grind, (take_F p0 (by grind)).2⟩⟩, hu, f0, rfl, (by grind), (take_F p0 (by grind)).1, (fun q q2 => by exfalso; grind)⟩
