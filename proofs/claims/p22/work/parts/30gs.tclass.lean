abbrev q_X0_addRaw_t (u : uk_Mem) (kb : Nat) (q : Int32) (f : Int32) (r : Option Value) (u' : uk_Mem) : Prop := (r = none) ∧ (iv u' ∧ fr kb (kb + 9) u u' ∧ u'.1 kb 0 = u.1 kb 0 + 1 ∧ u' = e_X0_addRaw u kb q f)
theorem c_X0_addRaw_t {G : uk_D} (hs : uk_Sep G) {u : uk_Mem} (hu : iv u) {kb : Nat} (hkb : uk_isK kb) (q : Int32) (f : Int32) (p0 : u.1 kb 0 ≤ 7) (d : Nat) : uk_Meth G (d + 1) mX0_addRaw [.ref (uk_ad G kb), .int q, .int f] u (q_X0_addRaw_t u kb q f) := uk_Meth.imp (x_X0_addRaw hs hu hkb q f p0 d) (fun r u' h => ⟨h.1.1, h.1.2.1, h.1.2.2, by rw [h.2]; exact (ar_r (j := 0)).1, h.2⟩)
abbrev q_X0_addMade_t (u : uk_Mem) (kb : Nat) (k : Int32) (a : Int32) (b : Int32) (f : Int32) (r : Option Value) (u' : uk_Mem) : Prop := (r = none) ∧ (iv u' ∧ fr kb (kb + 9) u u' ∧ u'.1 kb 0 = u.1 kb 0 + 1 ∧ u' = e_X0_addMade u kb k a b f)
theorem c_X0_addMade_t {G : uk_D} (hs : uk_Sep G) {u : uk_Mem} (hu : iv u) {kb : Nat} (hkb : uk_isK kb) (k : Int32) (a : Int32) (b : Int32) (f : Int32) (p0 : u.1 kb 0 ≤ 7) (p1 : 0 ≤ a) (p2 : a ≤ 7) (p3 : 0 ≤ b) (p4 : b ≤ 7) (d : Nat) : uk_Meth G d mX0_addMade [.ref (uk_ad G kb), .int k, .int a, .int b, .int f] u (q_X0_addMade_t u kb k a b f) := uk_Meth.imp (x_X0_addMade hs hu hkb k a b f p0 p1 p2 p3 p4 d) (fun r u' h => ⟨h.1.1, h.1.2.1, h.1.2.2.1, h.1.2.2.2, h.2⟩)
abbrev q_X0_clear_t (u : uk_Mem) (kb : Nat) (r : Option Value) (u' : uk_Mem) : Prop := (r = none) ∧ (iv u' ∧ fr kb (kb + 9) u u' ∧ u'.1 kb 0 = 0 ∧ u' = e_X0_clear u kb)
theorem c_X0_clear_t {G : uk_D} (hs : uk_Sep G) {u : uk_Mem} (hu : iv u) {kb : Nat} (hkb : uk_isK kb) (d : Nat) : uk_Meth G d mX0_clear [.ref (uk_ad G kb)] u (q_X0_clear_t u kb) := uk_Meth.imp (x_X0_clear hs hu hkb d) (fun r u' h => ⟨h.1.1, h.1.2.1, h.1.2.2.1, h.1.2.2.2, h.2⟩)
abbrev q_X0_copyFrom_t (u : uk_Mem) (kb : Nat) (kc : Nat) (r : Option Value) (u' : uk_Mem) : Prop := (r = none) ∧ (iv u' ∧ fr kb (kb + 9) u u' ∧ u' = e_X0_copyFrom u kb kc)
theorem c_X0_copyFrom_t {G : uk_D} (hs : uk_Sep G) {u : uk_Mem} (hu : iv u) {kb : Nat} (hkb : uk_isK kb) {kc : Nat} (hkc : uk_isK kc) (d : Nat) : uk_Meth G d mX0_copyFrom [.ref (uk_ad G kb), .ref (uk_ad G kc)] u (q_X0_copyFrom_t u kb kc) := uk_Meth.imp (x_X0_copyFrom hs hu hkb hkc d) (fun r u' h => ⟨h.1.1, h.1.2.1, h.1.2.2, h.2⟩)
abbrev q_X5_readRaw_t (u : uk_Mem) (f : Nat → Int32) (N : Int32) (a : PS) (W : PW) (r : Option Value) (u' : uk_Mem) : Prop := (r = none) ∧ (iv u' ∧ fr 1 13 u u' ∧ u'.1 2 1 = u.1 2 1 ∧ Sc f N u' (pRaw f N a) ∧ (u'.1 1 2 = 0 → Sw u' (wStf f N a 4 a.2.2.2.1 W)))
set_option maxHeartbeats 4000000 in
set_option maxRecDepth 20000 in
theorem c_X5_readRaw_t {G : uk_D} (hs : uk_Sep G) {u : uk_Mem} (hu : iv u) (f : Nat → Int32) (N : Int32) (a : PS) (W : PW) (p0 : Sc f N u a) (p1 : u.1 4 0 ≤ 7) (p2 : Sw u W) (d : Nat) : uk_Meth G (d + 3) mX5_readRaw [.ref (uk_ad G 1)] u (q_X5_readRaw_t u f N a W) := by
  refine uk_Meth.of hs (by decide) (Nat.le_of_ble_eq_true rfl) (fun X => ?_)
  have f0 : fr 1 13 u u := fr_rf
  refine g_aload_n dX5_readRaw_0 rfl ?_
  refine g_iconst (v := 2) dX5_readRaw_1 (by decide) ?_
  refine g_bipush (v := 9) dX5_readRaw_2 (by decide) ?_
  refine cl_X5_90 (c := 1) (As := [.int 2, .int 9]) rfl (c_X5_take_s (G := G) hs hu  2 9 f N a p0 (Or.inl rfl) (d)) rfl (by omega) rfl rfl (Nat.le_of_ble_eq_true rfl) dX5_readRaw_4 (fun r1 u2 q3 => ?_)
  obtain ⟨⟨x4, rfl, tx4⟩, mq3⟩ := q3
  obtain ⟨hu2, gu2, ku20, ku21, ku22, ku23⟩ := mq3
  have fu2 : fr 1 13 u u2 := fr_tr f0 gu2 (by omega) (by omega)
  have wu2_4_0 : u2.1 4 0 = u.1 4 0 := fr_at gu2 (by omega)
  have SWu2 : Sw u2 W := Sw_fr p2 gu2 (by omega)
  have HCu2 : u2.1 4 0 = a.2.2.2.1 := (fr_at gu2 (by omega)).trans p0.2.2.2.2.2
  refine g_istore_n dX5_readRaw_7 (by decide) ?_
  refine g_pick (lv' := [(0, .ref (uk_ad G 1)), (1, .int x4)]) [0, 1] rfl ?_
  refine g_aload_n dX5_readRaw_8 rfl ?_
  refine g_iconst (v := 2) dX5_readRaw_9 (by decide) ?_
  refine g_bipush (v := 9) dX5_readRaw_10 (by decide) ?_
  refine cl_X5_90 (c := 1) (As := [.int 2, .int 9]) rfl (c_X5_take_s (G := G) hs hu2  2 9 f N (pTake f N a 2 9).1 ku22 (Or.inl rfl) (d)) rfl (by omega) rfl rfl (Nat.le_of_ble_eq_true rfl) dX5_readRaw_12 (fun r5 u6 q7 => ?_)
  obtain ⟨⟨x8, rfl, tx8⟩, mq7⟩ := q7
  obtain ⟨hu6, gu6, ku60, ku61, ku62, ku63⟩ := mq7
  have fu6 : fr 1 13 u u6 := fr_tr fu2 gu6 (by omega) (by omega)
  have wu6_4_0 : u6.1 4 0 = u2.1 4 0 := fr_at gu6 (by omega)
  have SWu6 : Sw u6 W := Sw_fr SWu2 gu6 (by omega)
  have HCu6 : u6.1 4 0 = a.2.2.2.1 := (fr_at gu6 (by omega)).trans HCu2
  refine g_istore_n dX5_readRaw_15 (by decide) ?_
  refine g_pick (lv' := [(0, .ref (uk_ad G 1)), (1, .int x4), (2, .int x8)]) [0, 1, 2] rfl ?_
  refine g_aload_n dX5_readRaw_16 rfl ?_
  refine g_iconst (v := 3) dX5_readRaw_17 (by decide) ?_
  refine g_iconst (v := 0) dX5_readRaw_18 (by decide) ?_
  refine cl_X5_90 (c := 1) (As := [.int 3, .int 0]) rfl (c_X5_take_s (G := G) hs hu6  3 0 f N (pTake f N (pTake f N a 2 9).1 2 9).1 ku62 (Or.inr rfl) (d)) rfl (by omega) rfl rfl (Nat.le_of_ble_eq_true rfl) dX5_readRaw_19 (fun r9 u10 q11 => ?_)
  obtain ⟨⟨x12, rfl, tx12⟩, mq11⟩ := q11
  obtain ⟨hu10, gu10, ku100, ku101, ku102, ku103⟩ := mq11
  have fu10 : fr 1 13 u u10 := fr_tr fu6 gu10 (by omega) (by omega)
  have wu10_4_0 : u10.1 4 0 = u6.1 4 0 := fr_at gu10 (by omega)
  have SWu10 : Sw u10 W := Sw_fr SWu6 gu10 (by omega)
  have HCu10 : u10.1 4 0 = a.2.2.2.1 := (fr_at gu10 (by omega)).trans HCu6
  refine g_pop dX5_readRaw_22 rfl ?_
  refine g_aload_n dX5_readRaw_23 rfl ?_
  refine f_X5_9 rfl rfl dX5_readRaw_24 ?_
  refine g_topi (fun x13 ex13 => ?_)
  have s14 : u10.1 1 2 = x13 := ex13.symm
  refine g_if_ne (tgt := 39) dX5_readRaw_27 (by decide) (fun c15 => ?_) (fun c15 => ?_)
  · exact g_vret dX5_readRaw_39 rfl ⟨rfl, hu10, fu10, (by grind), (add_F ku102 (by grind)), (fun q => by exfalso; grind)⟩
  · refine g_aload_n dX5_readRaw_30 rfl ?_
    refine f_X5_25 rfl rfl dX5_readRaw_31 ?_
    refine g_iload_n dX5_readRaw_34 rfl ?_
    refine g_iload_n dX5_readRaw_35 rfl ?_
    refine cl_X5_94 (c := 4) (As := [.int x4, .int x8]) rfl (c_X0_addRaw_t (G := G) hs hu10 uk_isK4 x4 x8 (by first | trivial | decide | lia | grind) (d + 1)) rfl (by omega) rfl rfl (Nat.le_of_ble_eq_true rfl) dX5_readRaw_36 (fun r16 u17 q18 => ?_)
    obtain ⟨rfl, mq18⟩ := q18
    obtain ⟨hu17, gu17, ku170, ku171⟩ := mq18
    have fu17 : fr 1 13 u u17 := fr_tr fu10 gu17 (by omega) (by omega)
    have wu17_2_1 : u17.1 2 1 = u10.1 2 1 := fr_at gu17 (by omega)
    have wu17_1_2 : u17.1 1 2 = u10.1 1 2 := fr_at gu17 (by omega)
    have s19 : u17.1 1 2 = x13 := (fr_at gu17 (by omega)).trans s14
    exact g_vret dX5_readRaw_39 rfl ⟨rfl, hu17, fu17, (by grind), (add_G ku102 (by grind) (gu17.1 1 (by omega)) (gu17.1 2 (by omega)) (gu17.1 3 (by omega)) ku170), (fun _ => Sw_raw SWu10 HCu10 (iv_at hu10 4 0 rfl).1 (by grind) ku171 tx4.2 tx8.2)⟩
abbrev q_X5_readMade_t (u : uk_Mem) (k : Int32) (f : Nat → Int32) (N : Int32) (a : PS) (W : PW) (r : Option Value) (u' : uk_Mem) : Prop := (r = none) ∧ (iv u' ∧ fr 1 13 u u' ∧ u'.1 2 1 = u.1 2 1 ∧ Sc f N u' (pMade f N a) ∧ (u'.1 1 2 = 0 → Sw u' (wStf f N a k a.2.2.2.1 W)))
set_option maxHeartbeats 4000000 in
set_option maxRecDepth 20000 in
theorem c_X5_readMade_t {G : uk_D} (hs : uk_Sep G) {u : uk_Mem} (hu : iv u) (k : Int32) (f : Nat → Int32) (N : Int32) (a : PS) (W : PW) (p0 : Sc f N u a) (p1 : u.1 4 0 ≤ 7) (p2 : Sw u W) (p3 : ¬ k = 4) (d : Nat) : uk_Meth G (d + 3) mX5_readMade [.ref (uk_ad G 1), .int k] u (q_X5_readMade_t u k f N a W) := by
  refine uk_Meth.of hs (by decide) (Nat.le_of_ble_eq_true rfl) (fun X => ?_)
  have f0 : fr 1 13 u u := fr_rf
  refine g_aload_n dX5_readMade_0 rfl ?_
  refine g_iconst (v := 2) dX5_readMade_1 (by decide) ?_
  refine g_aload_n dX5_readMade_2 rfl ?_
  refine f_X5_25 rfl rfl dX5_readMade_3 ?_
  refine f_X5_43 rfl rfl dX5_readMade_6 ?_
  refine g_topi (fun x1 ex1 => ?_)
  have rx1 : 0 ≤ x1 ∧ x1 ≤ 8 := by rw [ex1]; exact iv_at hu _ _ rfl
  have s2 : u.1 4 0 = x1 := ex1.symm
  refine g_iconst (v := 1) dX5_readMade_9 (by decide) ?_
  refine g_isub dX5_readMade_10 ?_
  refine g_topi (fun x3 ex3 => ?_)
  have mx3 : x3 = a.2.2.2.1 - 1 := by rw [ex3, ex1, p0.2.2.2.2.2]
  refine cl_X5_90 (c := 1) (As := [.int 2, .int x3]) rfl (c_X5_take_s (G := G) hs hu  2 x3 f N a p0 (Or.inl rfl) (d)) rfl (by omega) rfl rfl (Nat.le_of_ble_eq_true rfl) dX5_readMade_11 (fun r4 u5 q6 => ?_)
  obtain ⟨⟨x7, rfl, tx7⟩, mq6⟩ := q6
  obtain ⟨hu5, gu5, ku50, ku51, ku52, ku53⟩ := mq6
  have fu5 : fr 1 13 u u5 := fr_tr f0 gu5 (by omega) (by omega)
  have wu5_4_0 : u5.1 4 0 = u.1 4 0 := fr_at gu5 (by omega)
  have s8 : u5.1 4 0 = x1 := (fr_at gu5 (by omega)).trans s2
  have SWu5 : Sw u5 W := Sw_fr p2 gu5 (by omega)
  have HCu5 : u5.1 4 0 = a.2.2.2.1 := (fr_at gu5 (by omega)).trans p0.2.2.2.2.2
  rw [mx3] at ku52
  refine g_istore_n dX5_readMade_14 (by decide) ?_
  refine g_pick (lv' := [(0, .ref (uk_ad G 1)), (1, .int k), (2, .int x7)]) [0, 1, 2] rfl ?_
  refine g_aload_n dX5_readMade_15 rfl ?_
  refine g_iconst (v := 2) dX5_readMade_16 (by decide) ?_
  refine g_aload_n dX5_readMade_17 rfl ?_
  refine f_X5_25 rfl rfl dX5_readMade_18 ?_
  refine f_X5_43 rfl rfl dX5_readMade_21 ?_
  refine g_topi (fun x9 ex9 => ?_)
  have rx9 : 0 ≤ x9 ∧ x9 ≤ 8 := by rw [ex9]; exact iv_at hu5 _ _ rfl
  have qx9 : x9 = x1 := by rw [ex9]; exact s8
  refine g_iconst (v := 1) dX5_readMade_24 (by decide) ?_
  refine g_isub dX5_readMade_25 ?_
  refine g_topi (fun x10 ex10 => ?_)
  have mx10 : x10 = (pTake f N a 2 (a.2.2.2.1 - 1)).1.2.2.2.1 - 1 := by rw [ex10, ex9, ku52.2.2.2.2.2]
  refine cl_X5_90 (c := 1) (As := [.int 2, .int x10]) rfl (c_X5_take_s (G := G) hs hu5  2 x10 f N (pTake f N a 2 (a.2.2.2.1 - 1)).1 ku52 (Or.inl rfl) (d)) rfl (by omega) rfl rfl (Nat.le_of_ble_eq_true rfl) dX5_readMade_26 (fun r11 u12 q13 => ?_)
  obtain ⟨⟨x14, rfl, tx14⟩, mq13⟩ := q13
  obtain ⟨hu12, gu12, ku120, ku121, ku122, ku123⟩ := mq13
  have fu12 : fr 1 13 u u12 := fr_tr fu5 gu12 (by omega) (by omega)
  have wu12_4_0 : u12.1 4 0 = u5.1 4 0 := fr_at gu12 (by omega)
  have s15 : u12.1 4 0 = x1 := (fr_at gu12 (by omega)).trans s8
  have SWu12 : Sw u12 W := Sw_fr SWu5 gu12 (by omega)
  have HCu12 : u12.1 4 0 = a.2.2.2.1 := (fr_at gu12 (by omega)).trans HCu5
  rw [mx10] at ku122
  refine g_istore_n dX5_readMade_29 (by decide) ?_
  refine g_pick (lv' := [(0, .ref (uk_ad G 1)), (1, .int k), (2, .int x7), (3, .int x14)]) [0, 1, 2, 3] rfl ?_
  refine g_aload_n dX5_readMade_30 rfl ?_
  refine g_iconst (v := 2) dX5_readMade_31 (by decide) ?_
  refine g_bipush (v := 9) dX5_readMade_32 (by decide) ?_
  refine cl_X5_90 (c := 1) (As := [.int 2, .int 9]) rfl (c_X5_take_s (G := G) hs hu12  2 9 f N (pTake f N (pTake f N a 2 (a.2.2.2.1 - 1)).1 2 ((pTake f N a 2 (a.2.2.2.1 - 1)).1.2.2.2.1 - 1)).1 ku122 (Or.inl rfl) (d)) rfl (by omega) rfl rfl (Nat.le_of_ble_eq_true rfl) dX5_readMade_34 (fun r16 u17 q18 => ?_)
  obtain ⟨⟨x19, rfl, tx19⟩, mq18⟩ := q18
  obtain ⟨hu17, gu17, ku170, ku171, ku172, ku173⟩ := mq18
  have fu17 : fr 1 13 u u17 := fr_tr fu12 gu17 (by omega) (by omega)
  have wu17_4_0 : u17.1 4 0 = u12.1 4 0 := fr_at gu17 (by omega)
  have s20 : u17.1 4 0 = x1 := (fr_at gu17 (by omega)).trans s15
  have SWu17 : Sw u17 W := Sw_fr SWu12 gu17 (by omega)
  have HCu17 : u17.1 4 0 = a.2.2.2.1 := (fr_at gu17 (by omega)).trans HCu12
  refine g_istore dX5_readMade_37 (by decide) ?_
  refine g_pick (lv' := [(0, .ref (uk_ad G 1)), (1, .int k), (2, .int x7), (3, .int x14), (4, .int x19)]) [0, 1, 2, 3, 4] rfl ?_
  refine g_aload_n dX5_readMade_39 rfl ?_
  refine g_iconst (v := 3) dX5_readMade_40 (by decide) ?_
  refine g_iconst (v := 0) dX5_readMade_41 (by decide) ?_
  refine cl_X5_90 (c := 1) (As := [.int 3, .int 0]) rfl (c_X5_take_s (G := G) hs hu17  3 0 f N (pTake f N (pTake f N (pTake f N a 2 (a.2.2.2.1 - 1)).1 2 ((pTake f N a 2 (a.2.2.2.1 - 1)).1.2.2.2.1 - 1)).1 2 9).1 ku172 (Or.inr rfl) (d)) rfl (by omega) rfl rfl (Nat.le_of_ble_eq_true rfl) dX5_readMade_42 (fun r21 u22 q23 => ?_)
  obtain ⟨⟨x24, rfl, tx24⟩, mq23⟩ := q23
  obtain ⟨hu22, gu22, ku220, ku221, ku222, ku223⟩ := mq23
  have fu22 : fr 1 13 u u22 := fr_tr fu17 gu22 (by omega) (by omega)
  have wu22_4_0 : u22.1 4 0 = u17.1 4 0 := fr_at gu22 (by omega)
  have s25 : u22.1 4 0 = x1 := (fr_at gu22 (by omega)).trans s20
  have SWu22 : Sw u22 W := Sw_fr SWu17 gu22 (by omega)
  have HCu22 : u22.1 4 0 = a.2.2.2.1 := (fr_at gu22 (by omega)).trans HCu17
  refine g_pop dX5_readMade_45 rfl ?_
  refine g_aload_n dX5_readMade_46 rfl ?_
  refine f_X5_9 rfl rfl dX5_readMade_47 ?_
  refine g_topi (fun x26 ex26 => ?_)
  have s27 : u22.1 1 2 = x26 := ex26.symm
  refine g_if_ne (tgt := 65) dX5_readMade_50 (by decide) (fun c28 => ?_) (fun c28 => ?_)
  · exact g_vret dX5_readMade_65 rfl ⟨rfl, hu22, fu22, (by grind), (add_F ku222 (by grind)), (fun q => by exfalso; grind)⟩
  · refine g_aload_n dX5_readMade_53 rfl ?_
    refine f_X5_25 rfl rfl dX5_readMade_54 ?_
    refine g_iload_n dX5_readMade_57 rfl ?_
    refine g_iload_n dX5_readMade_58 rfl ?_
    refine g_iload_n dX5_readMade_59 rfl ?_
    refine g_iload dX5_readMade_60 rfl ?_
    refine cl_X5_97 (c := 4) (As := [.int k, .int x7, .int x14, .int x19]) rfl (c_X0_addMade_t (G := G) hs hu22 uk_isK4 k x7 x14 x19 (by first | trivial | decide | lia | grind) (by first | trivial | decide | lia | grind) (by first | trivial | decide | lia | grind) (by first | trivial | decide | lia | grind) (by first | trivial | decide | lia | grind) (d + 2)) rfl (by omega) rfl rfl (Nat.le_of_ble_eq_true rfl) dX5_readMade_62 (fun r29 u30 q31 => ?_)
    obtain ⟨rfl, mq31⟩ := q31
    obtain ⟨hu30, gu30, ku300, ku301⟩ := mq31
    have fu30 : fr 1 13 u u30 := fr_tr fu22 gu30 (by omega) (by omega)
    have wu30_2_1 : u30.1 2 1 = u22.1 2 1 := fr_at gu30 (by omega)
    have wu30_1_2 : u30.1 1 2 = u22.1 1 2 := fr_at gu30 (by omega)
    have s32 : u30.1 1 2 = x26 := (fr_at gu30 (by omega)).trans s27
    exact g_vret dX5_readMade_65 rfl ⟨rfl, hu30, fu30, (by grind), (add_G ku222 (by grind) (gu30.1 1 (by omega)) (gu30.1 2 (by omega)) (gu30.1 3 (by omega)) ku300), (fun _ => Sw_made SWu22 HCu22 (iv_at hu22 4 0 rfl).1 (by grind) p3 ku301 mx3 mx10 tx7.2 tx14.2 tx19.2)⟩
abbrev q_X5_readHave_t (u : uk_Mem) (f : Nat → Int32) (N : Int32) (a : PS) (W : PW) (r : Option Value) (u' : uk_Mem) : Prop := (r = none) ∧ (iv u' ∧ fr 1 13 u u' ∧ u'.1 2 1 = u.1 2 1 ∧ Sc f N u' (pHave f N a) ∧ (u'.1 1 2 = 0 → Sw u' (wHav f N a W)))
set_option maxHeartbeats 4000000 in
set_option maxRecDepth 20000 in
theorem c_X5_readHave_t {G : uk_D} (hs : uk_Sep G) {u : uk_Mem} (hu : iv u) (f : Nat → Int32) (N : Int32) (a : PS) (W : PW) (p0 : Sc f N u a) (p1 : Sw u W) (d : Nat) : uk_Meth G (d + 3) mX5_readHave [.ref (uk_ad G 1)] u (q_X5_readHave_t u f N a W) := by
  refine uk_Meth.of hs (by decide) (Nat.le_of_ble_eq_true rfl) (fun X => ?_)
  have f0 : fr 1 13 u u := fr_rf
  refine g_aload_n dX5_readHave_0 rfl ?_
  refine g_iconst (v := 2) dX5_readHave_1 (by decide) ?_
  refine g_bipush (v := 7) dX5_readHave_2 (by decide) ?_
  refine cl_X5_90 (c := 1) (As := [.int 2, .int 7]) rfl (c_X5_take_s (G := G) hs hu  2 7 f N a p0 (Or.inl rfl) (d)) rfl (by omega) rfl rfl (Nat.le_of_ble_eq_true rfl) dX5_readHave_4 (fun r1 u2 q3 => ?_)
  obtain ⟨⟨x4, rfl, tx4⟩, mq3⟩ := q3
  obtain ⟨hu2, gu2, ku20, ku21, ku22, ku23⟩ := mq3
  have fu2 : fr 1 13 u u2 := fr_tr f0 gu2 (by omega) (by omega)
  have wu2_4_0 : u2.1 4 0 = u.1 4 0 := fr_at gu2 (by omega)
  have SWu2 : Sw u2 W := Sw_fr p1 gu2 (by omega)
  have HCu2 : u2.1 4 0 = a.2.2.2.1 := (fr_at gu2 (by omega)).trans p0.2.2.2.2.2
  have HQ : u2.1 1 2 = 0 → u2.1 2 4 = (tk f N a.2.2.2.2).1 := fun q => by have q0 := ku21 q; have := ku23 q q0; rw [this, (p0.2.2.2.2.1 (p0.2.2.1.symm.trans q0)).1]
  refine g_istore_n dX5_readHave_7 (by decide) ?_
  refine g_pick (lv' := [(0, .ref (uk_ad G 1)), (1, .int x4)]) [0, 1] rfl ?_
  refine g_aload_n dX5_readHave_8 rfl ?_
  refine f_X5_9 rfl rfl dX5_readHave_9 ?_
  refine g_topi (fun x5 ex5 => ?_)
  have s6 : u2.1 1 2 = x5 := ex5.symm
  refine g_if_ne (tgt := 39) dX5_readHave_12 (by decide) (fun c7 => ?_) (fun c7 => ?_)
  · have SC2 : Sc f N u2 (pTwice (pTake f N a 2 7).1 (pTake f N a 2 7).2 (tk f N a.2.2.2.2).1) := by rw [← tx4.2]; exact twice_F ku22 (fun z => by have z1 := z.1; have z2 := z.2; grind)
    refine g_aload_n dX5_readHave_39 rfl ?_
    refine g_iconst (v := 2) dX5_readHave_40 (by decide) ?_
    refine g_bipush (v := 40) dX5_readHave_41 (by decide) ?_
    refine cl_X5_90 (c := 1) (As := [.int 2, .int 40]) rfl (c_X5_take_s (G := G) hs hu2  2 40 f N (pTwice (pTake f N a 2 7).1 (pTake f N a 2 7).2 (tk f N a.2.2.2.2).1) SC2 (Or.inl rfl) (d)) rfl (by omega) rfl rfl (Nat.le_of_ble_eq_true rfl) dX5_readHave_43 (fun r8 u9 q10 => ?_)
    obtain ⟨⟨x11, rfl, tx11⟩, mq10⟩ := q10
    obtain ⟨hu9, gu9, ku90, ku91, ku92, ku93⟩ := mq10
    have fu9 : fr 1 13 u u9 := fr_tr fu2 gu9 (by omega) (by omega)
    have wu9_4_0 : u9.1 4 0 = u2.1 4 0 := fr_at gu9 (by omega)
    have SWu9 : Sw u9 W := Sw_fr SWu2 gu9 (by omega)
    have HCu9 : u9.1 4 0 = a.2.2.2.1 := (fr_at gu9 (by omega)).trans HCu2
    refine g_istore_n dX5_readHave_46 (by decide) ?_
    refine g_pick (lv' := [(0, .ref (uk_ad G 1)), (1, .int x4), (2, .int x11)]) [0, 1, 2] rfl ?_
    refine g_aload_n dX5_readHave_47 rfl ?_
    refine g_iconst (v := 3) dX5_readHave_48 (by decide) ?_
    refine g_iconst (v := 0) dX5_readHave_49 (by decide) ?_
    refine cl_X5_90 (c := 1) (As := [.int 3, .int 0]) rfl (c_X5_take_s (G := G) hs hu9  3 0 f N (pTake f N (pTwice (pTake f N a 2 7).1 (pTake f N a 2 7).2 (tk f N a.2.2.2.2).1) 2 40).1 ku92 (Or.inr rfl) (d)) rfl (by omega) rfl rfl (Nat.le_of_ble_eq_true rfl) dX5_readHave_50 (fun r12 u13 q14 => ?_)
    obtain ⟨⟨x15, rfl, tx15⟩, mq14⟩ := q14
    obtain ⟨hu13, gu13, ku130, ku131, ku132, ku133⟩ := mq14
    have fu13 : fr 1 13 u u13 := fr_tr fu9 gu13 (by omega) (by omega)
    have wu13_4_0 : u13.1 4 0 = u9.1 4 0 := fr_at gu13 (by omega)
    have SWu13 : Sw u13 W := Sw_fr SWu9 gu13 (by omega)
    have HCu13 : u13.1 4 0 = a.2.2.2.1 := (fr_at gu13 (by omega)).trans HCu9
    refine g_pop dX5_readHave_53 rfl ?_
    refine g_aload_n dX5_readHave_54 rfl ?_
    refine f_X5_9 rfl rfl dX5_readHave_55 ?_
    refine g_topi (fun x16 ex16 => ?_)
    have s17 : u13.1 1 2 = x16 := ex16.symm
    refine g_if_ne (tgt := 83) dX5_readHave_58 (by decide) (fun c18 => ?_) (fun c18 => ?_)
    · exact g_vret dX5_readHave_83 rfl ⟨rfl, hu13, fu13, (by grind), (by show Sc f N _ (pTell _ (pTake f N a 2 7).2); exact tell_F ku132 (by grind)), (fun q => by exfalso; grind)⟩
    · refine g_aload_n dX5_readHave_61 rfl ?_
      refine g_dup dX5_readHave_62 rfl ?_
      refine f_X5_18 rfl rfl dX5_readHave_63 ?_
      refine g_topi (fun x19 ex19 => ?_)
      have s20 : u13.1 1 4 = x19 := ex19.symm
      refine g_iconst (v := 1) dX5_readHave_66 (by decide) ?_
      refine g_iload_n dX5_readHave_67 rfl ?_
      refine g_ishl dX5_readHave_68 (fun x21 ex21 => ?_)
      refine g_ior dX5_readHave_69 ?_
      refine g_topi (fun x22 ex22 => ?_)
      refine p_X5_18 rfl rfl dX5_readHave_70 ?_
      refine g_mem (fun u23 eu23 => ?_)
      have hu23 : iv u23 := by rw [eu23]; exact iv_upF hu13 rfl
      have fu23 : fr 1 13 u u23 := by rw [eu23]; exact fr_up fu13 (by omega) (by omega)
      have s24 : u23.1 1 4 = x22 := by rw [eu23, uk_up_at]; exact if_pos ⟨rfl, rfl⟩
      have s_told : u23.1 1 4 = x22 := by rw [eu23, uk_up_at]; exact if_pos ⟨rfl, rfl⟩
      refine g_aload_n dX5_readHave_73 rfl ?_
      refine f_X5_25 rfl rfl dX5_readHave_74 ?_
      refine f_X5_101 rfl rfl dX5_readHave_77 ?_
      refine g_iload_n dX5_readHave_80 rfl ?_
      refine g_iload_n dX5_readHave_81 rfl ?_
      have v25 : vp_in x4 8 := uk_vin 8 rfl (by first | decide | lia | grind) (by first | decide | lia | grind)
      have b26 := uk_cl v25
      refine g_iast rfl rfl v25 dX5_readHave_82 ?_
      refine g_mem (fun u27 eu27 => ?_)
      have hu27 : iv u27 := by rw [eu27]; exact iv_upF hu23 (uk_pick1 _ (by omega))
      have fu27 : fr 1 13 u u27 := by rw [eu27]; exact fr_up fu23 (by omega) (by omega)
      have E2 : u27.1 2 = u13.1 2 := by rw [eu27, uk_up_oc (by decide), eu23, uk_up_oc (by decide)]
      have E3 : u27.1 3 = u13.1 3 := by rw [eu27, uk_up_oc (by decide), eu23, uk_up_oc (by decide)]
      have E4 : u27.1 4 0 = u13.1 4 0 := by rw [eu27, uk_up_at, if_neg (fun z => absurd z.1 (by decide)), eu23, uk_up_at, if_neg (by decide)]
      have E12 : u27.1 1 2 = u13.1 1 2 := by rw [eu27, uk_up_at, if_neg (fun z => absurd z.1 (by decide)), eu23, uk_up_at, if_neg (by decide)]
      have m7b : 0 ≤ x4 ∧ x4 ≤ 7 := ⟨(tx4.1 rfl).1, (tx4.1 rfl).2.2 (by grind)⟩
      have E14 : u27.1 1 4 = u13.1 1 4 ||| ((1 : Int32) <<< (pTake f N a 2 7).2) := by rw [eu27, uk_up_at, if_neg (fun z => absurd z.1 (by decide)), s_told, ex22, ex21, m31 m7b.1 (by grind), ex19, ← tx4.2]
      exact g_vret dX5_readHave_83 rfl ⟨rfl, hu27, fu27, ((congrFun E2 1).trans (by grind)), (by show Sc f N _ (pTell _ (pTake f N a 2 7).2); exact tell_G ku132 (by grind) E12 E14 E2 E3 E4), (fun _ => Sw_have SWu13 eu23 eu27 tx4.2 tx11.2)⟩
  · refine g_aload_n dX5_readHave_15 rfl ?_
    refine f_X5_18 rfl rfl dX5_readHave_16 ?_
    refine g_topi (fun x28 ex28 => ?_)
    have s29 : u2.1 1 4 = x28 := ex28.symm
    refine g_iload_n dX5_readHave_19 rfl ?_
    refine g_ishr dX5_readHave_20 (fun x30 ex30 => ?_)
    refine g_iconst (v := 1) dX5_readHave_21 (by decide) ?_
    refine g_iand dX5_readHave_22 ?_
    refine g_topi (fun x31 ex31 => ?_)
    have m7 : 0 ≤ x4 ∧ x4 ≤ 7 := ⟨(tx4.1 rfl).1, (tx4.1 rfl).2.2 (by grind)⟩
    have yx31 : (u2.1 1 4 >>> x4) &&& 1 = x31 := by rw [ex31, ex30, m31 m7.1 (by grind), ex28]
    refine g_iconst (v := 1) dX5_readHave_23 (by decide) ?_
    refine g_icmp_ne (tgt := 39) dX5_readHave_24 (by decide) (fun c32 => ?_) (fun c32 => ?_)
    · have SC2 : Sc f N u2 (pTwice (pTake f N a 2 7).1 (pTake f N a 2 7).2 (tk f N a.2.2.2.2).1) := by rw [← tx4.2]; exact twice_F ku22 (fun z => by have z1 := z.1; have z2 := z.2; grind)
      refine g_aload_n dX5_readHave_39 rfl ?_
      refine g_iconst (v := 2) dX5_readHave_40 (by decide) ?_
      refine g_bipush (v := 40) dX5_readHave_41 (by decide) ?_
      refine cl_X5_90 (c := 1) (As := [.int 2, .int 40]) rfl (c_X5_take_s (G := G) hs hu2  2 40 f N (pTwice (pTake f N a 2 7).1 (pTake f N a 2 7).2 (tk f N a.2.2.2.2).1) SC2 (Or.inl rfl) (d)) rfl (by omega) rfl rfl (Nat.le_of_ble_eq_true rfl) dX5_readHave_43 (fun r33 u34 q35 => ?_)
      obtain ⟨⟨x36, rfl, tx36⟩, mq35⟩ := q35
      obtain ⟨hu34, gu34, ku340, ku341, ku342, ku343⟩ := mq35
      have fu34 : fr 1 13 u u34 := fr_tr fu2 gu34 (by omega) (by omega)
      have wu34_4_0 : u34.1 4 0 = u2.1 4 0 := fr_at gu34 (by omega)
      have SWu34 : Sw u34 W := Sw_fr SWu2 gu34 (by omega)
      have HCu34 : u34.1 4 0 = a.2.2.2.1 := (fr_at gu34 (by omega)).trans HCu2
      refine g_istore_n dX5_readHave_46 (by decide) ?_
      refine g_pick (lv' := [(0, .ref (uk_ad G 1)), (1, .int x4), (2, .int x36)]) [0, 1, 2] rfl ?_
      refine g_aload_n dX5_readHave_47 rfl ?_
      refine g_iconst (v := 3) dX5_readHave_48 (by decide) ?_
      refine g_iconst (v := 0) dX5_readHave_49 (by decide) ?_
      refine cl_X5_90 (c := 1) (As := [.int 3, .int 0]) rfl (c_X5_take_s (G := G) hs hu34  3 0 f N (pTake f N (pTwice (pTake f N a 2 7).1 (pTake f N a 2 7).2 (tk f N a.2.2.2.2).1) 2 40).1 ku342 (Or.inr rfl) (d)) rfl (by omega) rfl rfl (Nat.le_of_ble_eq_true rfl) dX5_readHave_50 (fun r37 u38 q39 => ?_)
      obtain ⟨⟨x40, rfl, tx40⟩, mq39⟩ := q39
      obtain ⟨hu38, gu38, ku380, ku381, ku382, ku383⟩ := mq39
      have fu38 : fr 1 13 u u38 := fr_tr fu34 gu38 (by omega) (by omega)
      have wu38_4_0 : u38.1 4 0 = u34.1 4 0 := fr_at gu38 (by omega)
      have SWu38 : Sw u38 W := Sw_fr SWu34 gu38 (by omega)
      have HCu38 : u38.1 4 0 = a.2.2.2.1 := (fr_at gu38 (by omega)).trans HCu34
      refine g_pop dX5_readHave_53 rfl ?_
      refine g_aload_n dX5_readHave_54 rfl ?_
      refine f_X5_9 rfl rfl dX5_readHave_55 ?_
      refine g_topi (fun x41 ex41 => ?_)
      have s42 : u38.1 1 2 = x41 := ex41.symm
      refine g_if_ne (tgt := 83) dX5_readHave_58 (by decide) (fun c43 => ?_) (fun c43 => ?_)
      · exact g_vret dX5_readHave_83 rfl ⟨rfl, hu38, fu38, (by grind), (by show Sc f N _ (pTell _ (pTake f N a 2 7).2); exact tell_F ku382 (by grind)), (fun q => by exfalso; grind)⟩
      · refine g_aload_n dX5_readHave_61 rfl ?_
        refine g_dup dX5_readHave_62 rfl ?_
        refine f_X5_18 rfl rfl dX5_readHave_63 ?_
        refine g_topi (fun x44 ex44 => ?_)
        have s45 : u38.1 1 4 = x44 := ex44.symm
        refine g_iconst (v := 1) dX5_readHave_66 (by decide) ?_
        refine g_iload_n dX5_readHave_67 rfl ?_
        refine g_ishl dX5_readHave_68 (fun x46 ex46 => ?_)
        refine g_ior dX5_readHave_69 ?_
        refine g_topi (fun x47 ex47 => ?_)
        refine p_X5_18 rfl rfl dX5_readHave_70 ?_
        refine g_mem (fun u48 eu48 => ?_)
        have hu48 : iv u48 := by rw [eu48]; exact iv_upF hu38 rfl
        have fu48 : fr 1 13 u u48 := by rw [eu48]; exact fr_up fu38 (by omega) (by omega)
        have s49 : u48.1 1 4 = x47 := by rw [eu48, uk_up_at]; exact if_pos ⟨rfl, rfl⟩
        have s_told : u48.1 1 4 = x47 := by rw [eu48, uk_up_at]; exact if_pos ⟨rfl, rfl⟩
        refine g_aload_n dX5_readHave_73 rfl ?_
        refine f_X5_25 rfl rfl dX5_readHave_74 ?_
        refine f_X5_101 rfl rfl dX5_readHave_77 ?_
        refine g_iload_n dX5_readHave_80 rfl ?_
        refine g_iload_n dX5_readHave_81 rfl ?_
        have v50 : vp_in x4 8 := uk_vin 8 rfl (by first | decide | lia | grind) (by first | decide | lia | grind)
        have b51 := uk_cl v50
        refine g_iast rfl rfl v50 dX5_readHave_82 ?_
        refine g_mem (fun u52 eu52 => ?_)
        have hu52 : iv u52 := by rw [eu52]; exact iv_upF hu48 (uk_pick1 _ (by omega))
        have fu52 : fr 1 13 u u52 := by rw [eu52]; exact fr_up fu48 (by omega) (by omega)
        have E2 : u52.1 2 = u38.1 2 := by rw [eu52, uk_up_oc (by decide), eu48, uk_up_oc (by decide)]
        have E3 : u52.1 3 = u38.1 3 := by rw [eu52, uk_up_oc (by decide), eu48, uk_up_oc (by decide)]
        have E4 : u52.1 4 0 = u38.1 4 0 := by rw [eu52, uk_up_at, if_neg (fun z => absurd z.1 (by decide)), eu48, uk_up_at, if_neg (by decide)]
        have E12 : u52.1 1 2 = u38.1 1 2 := by rw [eu52, uk_up_at, if_neg (fun z => absurd z.1 (by decide)), eu48, uk_up_at, if_neg (by decide)]
        have m7b : 0 ≤ x4 ∧ x4 ≤ 7 := ⟨(tx4.1 rfl).1, (tx4.1 rfl).2.2 (by grind)⟩
        have E14 : u52.1 1 4 = u38.1 1 4 ||| ((1 : Int32) <<< (pTake f N a 2 7).2) := by rw [eu52, uk_up_at, if_neg (fun z => absurd z.1 (by decide)), s_told, ex47, ex46, m31 m7b.1 (by grind), ex44, ← tx4.2]
        exact g_vret dX5_readHave_83 rfl ⟨rfl, hu52, fu52, ((congrFun E2 1).trans (by grind)), (by show Sc f N _ (pTell _ (pTake f N a 2 7).2); exact tell_G ku382 (by grind) E12 E14 E2 E3 E4), (fun _ => Sw_have SWu38 eu48 eu52 tx4.2 tx36.2)⟩
    · refine g_aload_n dX5_readHave_27 rfl ?_
      refine g_iconst (v := 4) dX5_readHave_28 (by decide) ?_
      refine g_aload_n dX5_readHave_29 rfl ?_
      refine f_X5_21 rfl rfl dX5_readHave_30 ?_
      refine f_X5_61 rfl rfl dX5_readHave_33 ?_
      refine g_topi (fun x53 ex53 => ?_)
      have rx53 : 0 ≤ x53 ∧ x53 ≤ 160 := by rw [ex53]; exact iv_at hu2 _ _ rfl
      have s54 : u2.1 2 4 = x53 := ex53.symm
      refine cl_X5_47 (c := 1) (As := [.int 4, .int x53]) rfl (c_X5_refuse_s (G := G) hs hu2  4 x53  (d + 2)) rfl (by omega) rfl rfl (Nat.le_of_ble_eq_true rfl) dX5_readHave_36 (fun r55 u56 q57 => ?_)
      obtain ⟨rfl, mq57⟩ := q57
      obtain ⟨hu56, gu56, ku560, ku561, ku562⟩ := mq57
      have fu56 : fr 1 13 u u56 := fr_tr fu2 gu56 (by omega) (by omega)
      have wu56_2_1 : u56.1 2 1 = u2.1 2 1 := fr_at gu56 (by omega)
      have wu56_4_0 : u56.1 4 0 = u2.1 4 0 := fr_at gu56 (by omega)
      have s58 : u56.1 2 4 = x53 := (fr_at gu56 (by omega)).trans s54
      have SWu56 : Sw u56 W := Sw_fr SWu2 gu56 (by omega)
      have HCu56 : u56.1 4 0 = a.2.2.2.1 := (fr_at gu56 (by omega)).trans HCu2
      have SC2 : Sc f N u56 (pTwice (pTake f N a 2 7).1 (pTake f N a 2 7).2 (tk f N a.2.2.2.2).1) := by rw [← tx4.2]; exact twice_B ku22 (by grind) (by rw [yx31]; grind) (gu56.1 3 (by omega)) (fr_at gu56 (by omega)) ku560 (ku561.trans (by have := HQ (by grind); grind)) (fr_at gu56 (by omega))
      refine g_aload_n dX5_readHave_39 rfl ?_
      refine g_iconst (v := 2) dX5_readHave_40 (by decide) ?_
      refine g_bipush (v := 40) dX5_readHave_41 (by decide) ?_
      refine cl_X5_90 (c := 1) (As := [.int 2, .int 40]) rfl (c_X5_take_s (G := G) hs hu56  2 40 f N (pTwice (pTake f N a 2 7).1 (pTake f N a 2 7).2 (tk f N a.2.2.2.2).1) SC2 (Or.inl rfl) (d)) rfl (by omega) rfl rfl (Nat.le_of_ble_eq_true rfl) dX5_readHave_43 (fun r59 u60 q61 => ?_)
      obtain ⟨⟨x62, rfl, tx62⟩, mq61⟩ := q61
      obtain ⟨hu60, gu60, ku600, ku601, ku602, ku603⟩ := mq61
      have fu60 : fr 1 13 u u60 := fr_tr fu56 gu60 (by omega) (by omega)
      have wu60_4_0 : u60.1 4 0 = u56.1 4 0 := fr_at gu60 (by omega)
      have SWu60 : Sw u60 W := Sw_fr SWu56 gu60 (by omega)
      have HCu60 : u60.1 4 0 = a.2.2.2.1 := (fr_at gu60 (by omega)).trans HCu56
      refine g_istore_n dX5_readHave_46 (by decide) ?_
      refine g_pick (lv' := [(0, .ref (uk_ad G 1)), (1, .int x4), (2, .int x62)]) [0, 1, 2] rfl ?_
      refine g_aload_n dX5_readHave_47 rfl ?_
      refine g_iconst (v := 3) dX5_readHave_48 (by decide) ?_
      refine g_iconst (v := 0) dX5_readHave_49 (by decide) ?_
      refine cl_X5_90 (c := 1) (As := [.int 3, .int 0]) rfl (c_X5_take_s (G := G) hs hu60  3 0 f N (pTake f N (pTwice (pTake f N a 2 7).1 (pTake f N a 2 7).2 (tk f N a.2.2.2.2).1) 2 40).1 ku602 (Or.inr rfl) (d)) rfl (by omega) rfl rfl (Nat.le_of_ble_eq_true rfl) dX5_readHave_50 (fun r63 u64 q65 => ?_)
      obtain ⟨⟨x66, rfl, tx66⟩, mq65⟩ := q65
      obtain ⟨hu64, gu64, ku640, ku641, ku642, ku643⟩ := mq65
      have fu64 : fr 1 13 u u64 := fr_tr fu60 gu64 (by omega) (by omega)
      have wu64_4_0 : u64.1 4 0 = u60.1 4 0 := fr_at gu64 (by omega)
      have SWu64 : Sw u64 W := Sw_fr SWu60 gu64 (by omega)
      have HCu64 : u64.1 4 0 = a.2.2.2.1 := (fr_at gu64 (by omega)).trans HCu60
      refine g_pop dX5_readHave_53 rfl ?_
      refine g_aload_n dX5_readHave_54 rfl ?_
      refine f_X5_9 rfl rfl dX5_readHave_55 ?_
      refine g_topi (fun x67 ex67 => ?_)
      have s68 : u64.1 1 2 = x67 := ex67.symm
      refine g_if_ne (tgt := 83) dX5_readHave_58 (by decide) (fun c69 => ?_) (fun c69 => ?_)
      · exact g_vret dX5_readHave_83 rfl ⟨rfl, hu64, fu64, (by grind), (by show Sc f N _ (pTell _ (pTake f N a 2 7).2); exact tell_F ku642 (by grind)), (fun q => by exfalso; grind)⟩
      · refine g_aload_n dX5_readHave_61 rfl ?_
        refine g_dup dX5_readHave_62 rfl ?_
        refine f_X5_18 rfl rfl dX5_readHave_63 ?_
        refine g_topi (fun x70 ex70 => ?_)
        have s71 : u64.1 1 4 = x70 := ex70.symm
        refine g_iconst (v := 1) dX5_readHave_66 (by decide) ?_
        refine g_iload_n dX5_readHave_67 rfl ?_
        refine g_ishl dX5_readHave_68 (fun x72 ex72 => ?_)
        refine g_ior dX5_readHave_69 ?_
        refine g_topi (fun x73 ex73 => ?_)
        refine p_X5_18 rfl rfl dX5_readHave_70 ?_
        refine g_mem (fun u74 eu74 => ?_)
        have hu74 : iv u74 := by rw [eu74]; exact iv_upF hu64 rfl
        have fu74 : fr 1 13 u u74 := by rw [eu74]; exact fr_up fu64 (by omega) (by omega)
        have s75 : u74.1 1 4 = x73 := by rw [eu74, uk_up_at]; exact if_pos ⟨rfl, rfl⟩
        have s_told : u74.1 1 4 = x73 := by rw [eu74, uk_up_at]; exact if_pos ⟨rfl, rfl⟩
        refine g_aload_n dX5_readHave_73 rfl ?_
        refine f_X5_25 rfl rfl dX5_readHave_74 ?_
        refine f_X5_101 rfl rfl dX5_readHave_77 ?_
        refine g_iload_n dX5_readHave_80 rfl ?_
        refine g_iload_n dX5_readHave_81 rfl ?_
        have v76 : vp_in x4 8 := uk_vin 8 rfl (by first | decide | lia | grind) (by first | decide | lia | grind)
        have b77 := uk_cl v76
        refine g_iast rfl rfl v76 dX5_readHave_82 ?_
        refine g_mem (fun u78 eu78 => ?_)
        have hu78 : iv u78 := by rw [eu78]; exact iv_upF hu74 (uk_pick1 _ (by omega))
        have fu78 : fr 1 13 u u78 := by rw [eu78]; exact fr_up fu74 (by omega) (by omega)
        have E2 : u78.1 2 = u64.1 2 := by rw [eu78, uk_up_oc (by decide), eu74, uk_up_oc (by decide)]
        have E3 : u78.1 3 = u64.1 3 := by rw [eu78, uk_up_oc (by decide), eu74, uk_up_oc (by decide)]
        have E4 : u78.1 4 0 = u64.1 4 0 := by rw [eu78, uk_up_at, if_neg (fun z => absurd z.1 (by decide)), eu74, uk_up_at, if_neg (by decide)]
        have E12 : u78.1 1 2 = u64.1 1 2 := by rw [eu78, uk_up_at, if_neg (fun z => absurd z.1 (by decide)), eu74, uk_up_at, if_neg (by decide)]
        have m7b : 0 ≤ x4 ∧ x4 ≤ 7 := ⟨(tx4.1 rfl).1, (tx4.1 rfl).2.2 (by grind)⟩
        have E14 : u78.1 1 4 = u64.1 1 4 ||| ((1 : Int32) <<< (pTake f N a 2 7).2) := by rw [eu78, uk_up_at, if_neg (fun z => absurd z.1 (by decide)), s_told, ex73, ex72, m31 m7b.1 (by grind), ex70, ← tx4.2]
        exact g_vret dX5_readHave_83 rfl ⟨rfl, hu78, fu78, ((congrFun E2 1).trans (by grind)), (by show Sc f N _ (pTell _ (pTake f N a 2 7).2); exact tell_G ku642 (by grind) E12 E14 E2 E3 E4), (fun _ => Sw_have SWu64 eu74 eu78 tx4.2 tx62.2)⟩
abbrev q_X5_readLine_t (u : uk_Mem) (f : Nat → Int32) (N : Int32) (a : PS) (W : PW) (r : Option Value) (u' : uk_Mem) : Prop := (∃ x : Int32, r = some (.int x) ∧ (x = 0 ∨ x = 1) ∧ (¬ x = 0 → ¬ (tk f N a.2.2.2.2).2.1 = 0 ∧ u'.1 1 2 = 0) ∧ (x = 0 → (tk f N a.2.2.2.2).2.1 = 0 ∨ ¬ u'.1 1 2 = 0)) ∧ (iv u' ∧ fr 1 13 u u' ∧ u'.1 2 1 = u.1 2 1 ∧ (¬ (tk f N a.2.2.2.2).2.1 = 0 → Sc f N u' (pLine f N a)) ∧ ((tk f N a.2.2.2.2).2.1 = 0 → u'.1 1 2 = 0 ∧ u'.1 1 4 = a.2.2.1 ∧ u'.1 4 0 = a.2.2.2.1) ∧ (¬ (tk f N a.2.2.2.2).2.1 = 0 → u'.1 1 2 = 0 → Sw u' (wLine f N a W)) ∧ ((tk f N a.2.2.2.2).2.1 = 0 → Sw u' W))
set_option maxHeartbeats 4000000 in
set_option maxRecDepth 20000 in
theorem c_X5_readLine_t {G : uk_D} (hs : uk_Sep G) {u : uk_Mem} (hu : iv u) (f : Nat → Int32) (N : Int32) (a : PS) (W : PW) (p0 : Sc f N u a) (p1 : u.1 1 2 = 0) (p2 : Sw u W) (d : Nat) : uk_Meth G (d + 6) mX5_readLine [.ref (uk_ad G 1)] u (q_X5_readLine_t u f N a W) := by
  refine uk_Meth.of hs (by decide) (Nat.le_of_ble_eq_true rfl) (fun X => ?_)
  have f0 : fr 1 13 u u := fr_rf
  refine g_aload_n dX5_readLine_0 rfl ?_
  refine f_X5_21 rfl rfl dX5_readLine_1 ?_
  refine cl_X5_51 (c := 2) (As := []) rfl (c_X4_readToken_s (G := G) hs hu    (d + 4)) rfl (by omega) rfl rfl (Nat.le_of_ble_eq_true rfl) dX5_readLine_4 (fun r1 u2 q3 => ?_)
  obtain ⟨rfl, mq3⟩ := q3
  obtain ⟨hu2, gu2, ku20, ku21⟩ := mq3
  have fu2 : fr 1 13 u u2 := fr_tr f0 gu2 (by omega) (by omega)
  have wu2_4_0 : u2.1 4 0 = u.1 4 0 := fr_at gu2 (by omega)
  have wu2_1_2 : u2.1 1 2 = u.1 1 2 := fr_at gu2 (by omega)
  have SWu2 : Sw u2 W := Sw_fr p2 gu2 (by omega)
  have HCu2 : u2.1 4 0 = a.2.2.2.1 := (fr_at gu2 (by omega)).trans p0.2.2.2.2.2
  have hN : N ≤ 160 := by rw [← p0.2.1]; exact (iv_at hu 2 1 rfl).2
  have hP0 : 0 ≤ u.1 2 2 := (iv_at hu 2 2 rfl).1
  have HT : TK f N (u.1 2 2) (u2.1 2 4) (u2.1 2 3) (u2.1 2 5) (u2.1 2 2) := TK_cg p0.1 hP0 hN (by rw [← p0.2.1]; exact ku21)
  have a0 : a.1 = 0 := p0.2.2.1.symm.trans p1
  have hpl : u.1 2 2 = a.2.2.2.2 := (p0.2.2.2.2.1 a0).1
  have HT2 : TK f N a.2.2.2.2 (u2.1 2 4) (u2.1 2 3) (u2.1 2 5) (u2.1 2 2) := by rw [← hpl]; exact HT
  have HK := tk_eq hN (by rw [← hpl]; exact hP0) HT2
  have w1 : u2.1 1 2 = u.1 1 2 := fr_at gu2 (by omega)
  refine g_aload_n dX5_readLine_7 rfl ?_
  refine f_X5_21 rfl rfl dX5_readLine_8 ?_
  refine f_X5_54 rfl rfl dX5_readLine_11 ?_
  refine g_topi (fun x4 ex4 => ?_)
  have s5 : u2.1 2 3 = x4 := ex4.symm
  refine g_if_ne (tgt := 19) dX5_readLine_14 (by decide) (fun c6 => ?_) (fun c6 => ?_)
  · refine g_aload_n dX5_readLine_19 rfl ?_
    refine cl_X5_57 (c := 1) (As := []) rfl (c_X5_lineNamed_s (G := G) hs hu2    (d)) rfl (by omega) rfl rfl (Nat.le_of_ble_eq_true rfl) dX5_readLine_20 (fun r7 u8 q9 => ?_)
    obtain ⟨⟨x10, rfl, tx10⟩, mq9⟩ := q9
    rw [mq9]
    have HL : pl f (u2.1 2 3) (u2.1 2 4) (u2.1 2 2) = x10 := pl_eq (ln_cg (by rw [gu2.1 3 (by omega)]; exact p0.1) (TK_q hN hP0 HT) tx10)
    have HT0 : ¬ (tk f N a.2.2.2.2).2.1 = 0 := by rw [HK.2.1]; grind
    refine g_istore_n dX5_readLine_23 (by decide) ?_
    refine g_pick (lv' := [(0, .ref (uk_ad G 1)), (1, .int x10)]) [0, 1] rfl ?_
    refine g_aload_n dX5_readLine_24 rfl ?_
    refine f_X5_21 rfl rfl dX5_readLine_25 ?_
    refine f_X5_54 rfl rfl dX5_readLine_28 ?_
    refine g_topi (fun x11 ex11 => ?_)
    have qx11 : x11 = x4 := by rw [ex11]; exact s5
    refine g_iconst (v := 4) dX5_readLine_31 (by decide) ?_
    refine g_icmp_ne (tgt := 50) dX5_readLine_32 (by decide) (fun c12 => ?_) (fun c12 => ?_)
    · refine g_iload_n dX5_readLine_50 rfl ?_
      refine g_iconst (v := (-1)) dX5_readLine_51 (by decide) ?_
      refine g_icmp_ne (tgt := 70) dX5_readLine_52 (by decide) (fun c13 => ?_) (fun c13 => ?_)
      · refine g_iload_n dX5_readLine_70 rfl ?_
        refine g_iconst (v := 5) dX5_readLine_71 (by decide) ?_
        refine g_icmp_ne (tgt := 82) dX5_readLine_72 (by decide) (fun c14 => ?_) (fun c14 => ?_)
        · refine g_aload_n dX5_readLine_82 rfl ?_
          refine f_X5_25 rfl rfl dX5_readLine_83 ?_
          refine f_X5_43 rfl rfl dX5_readLine_86 ?_
          refine g_topi (fun x15 ex15 => ?_)
          have rx15 : 0 ≤ x15 ∧ x15 ≤ 8 := by rw [ex15]; exact iv_at hu2 _ _ rfl
          have s16 : u2.1 4 0 = x15 := ex15.symm
          refine g_bipush (v := 8) dX5_readLine_89 (by decide) ?_
          refine g_icmp_lt (tgt := 109) dX5_readLine_91 (by decide) (fun c17 => ?_) (fun c17 => ?_)
          · refine g_iload_n dX5_readLine_109 rfl ?_
            refine g_iconst (v := 4) dX5_readLine_110 (by decide) ?_
            refine g_icmp_ne (tgt := 121) dX5_readLine_111 (by decide) (fun c18 => ?_) (fun c18 => ?_)
            · refine g_aload_n dX5_readLine_121 rfl ?_
              refine g_iload_n dX5_readLine_122 rfl ?_
              refine cl_X5_70 (c := 1) (As := [.int x10]) rfl (c_X5_readMade_t (G := G) hs hu2  x10 f N (0, a.2.1, a.2.2.1, a.2.2.2.1, (tk f N a.2.2.2.2).2.2.2) W (Sc_tok hN hP0 p0 p1 HT (by grind) (gu2.1 3 (by omega)) ku20 (gu2.1 1 (by omega)) rfl (fr_at gu2 (by omega))) (by grind) SWu2 (by grind) (d + 2)) rfl (by omega) rfl rfl (Nat.le_of_ble_eq_true rfl) dX5_readLine_123 (fun r19 u20 q21 => ?_)
              obtain ⟨rfl, mq21⟩ := q21
              obtain ⟨hu20, gu20, ku200, ku201, ku202⟩ := mq21
              have fu20 : fr 1 13 u u20 := fr_tr fu2 gu20 (by omega) (by omega)
              have SL : Sc f N u20 (pLine f N a) := by unfold pLine; rw [if_neg (by rw [HK.2.1]; grind), HK.1, HK.2.1, HK.2.2.1 (by grind), HL, if_neg (by grind), if_neg (by grind), if_neg (by rw [← p0.2.2.2.2.2]; grind), if_neg (by grind)]; have := ku201; rw [HK.2.2.1 (by grind)] at this; exact this
              refine g_aload_n dX5_readLine_126 rfl ?_
              refine f_X5_9 rfl rfl dX5_readLine_127 ?_
              refine g_topi (fun x22 ex22 => ?_)
              have s23 : u20.1 1 2 = x22 := ex22.symm
              refine g_if_ne (tgt := 137) dX5_readLine_130 (by decide) (fun c24 => ?_) (fun c24 => ?_)
              · refine g_iconst (v := 0) dX5_readLine_137 (by decide) ?_
                exact g_iret (ty := .boolean) dX5_readLine_138 rfl rfl ⟨⟨0, rfl, Or.inl rfl, fun q => absurd rfl q, fun _ => (Or.inr (by grind))⟩, hu20, fu20, (by grind), (fun q => SL), (fun q => absurd q HT0), (fun q q2 => by rw [wLine_S (k := x10) (by rw [HK.1, HK.2.1, HK.2.2.1 (by grind)]; exact HL) (by grind)]; exact ku202 q2), (fun q => absurd q HT0)⟩
              · refine g_iconst (v := 1) dX5_readLine_133 (by decide) ?_
                refine g_goto (tgt := 138) dX5_readLine_134 (by decide) ?_
                exact g_iret (ty := .boolean) dX5_readLine_138 rfl rfl ⟨⟨1, rfl, Or.inr rfl, fun _ => ⟨HT0, by grind⟩, fun q => absurd q (by decide)⟩, hu20, fu20, (by grind), (fun q => SL), (fun q => absurd q HT0), (fun q q2 => by rw [wLine_S (k := x10) (by rw [HK.1, HK.2.1, HK.2.2.1 (by grind)]; exact HL) (by grind)]; exact ku202 q2), (fun q => absurd q HT0)⟩
            · refine g_aload_n dX5_readLine_114 rfl ?_
              refine cl_X5_67 (c := 1) (As := []) rfl (c_X5_readRaw_t (G := G) hs hu2  f N (0, a.2.1, a.2.2.1, a.2.2.2.1, (tk f N a.2.2.2.2).2.2.2) W (Sc_tok hN hP0 p0 p1 HT (by grind) (gu2.1 3 (by omega)) ku20 (gu2.1 1 (by omega)) rfl (fr_at gu2 (by omega))) (by grind) SWu2 (d + 2)) rfl (by omega) rfl rfl (Nat.le_of_ble_eq_true rfl) dX5_readLine_115 (fun r25 u26 q27 => ?_)
              obtain ⟨rfl, mq27⟩ := q27
              obtain ⟨hu26, gu26, ku260, ku261, ku262⟩ := mq27
              have fu26 : fr 1 13 u u26 := fr_tr fu2 gu26 (by omega) (by omega)
              have SL : Sc f N u26 (pLine f N a) := by unfold pLine; rw [if_neg (by rw [HK.2.1]; grind), HK.1, HK.2.1, HK.2.2.1 (by grind), HL, if_neg (by grind), if_neg (by grind), if_neg (by rw [← p0.2.2.2.2.2]; grind), if_pos (by grind)]; have := ku261; rw [HK.2.2.1 (by grind)] at this; exact this
              refine g_goto (tgt := 126) dX5_readLine_118 (by decide) ?_
              refine g_aload_n dX5_readLine_126 rfl ?_
              refine f_X5_9 rfl rfl dX5_readLine_127 ?_
              refine g_topi (fun x28 ex28 => ?_)
              have s29 : u26.1 1 2 = x28 := ex28.symm
              refine g_if_ne (tgt := 137) dX5_readLine_130 (by decide) (fun c30 => ?_) (fun c30 => ?_)
              · refine g_iconst (v := 0) dX5_readLine_137 (by decide) ?_
                exact g_iret (ty := .boolean) dX5_readLine_138 rfl rfl ⟨⟨0, rfl, Or.inl rfl, fun q => absurd rfl q, fun _ => (Or.inr (by grind))⟩, hu26, fu26, (by grind), (fun q => SL), (fun q => absurd q HT0), (fun q q2 => by rw [wLine_S (k := x10) (by rw [HK.1, HK.2.1, HK.2.2.1 (by grind)]; exact HL) (by grind), show x10 = 4 by grind]; exact ku262 q2), (fun q => absurd q HT0)⟩
              · refine g_iconst (v := 1) dX5_readLine_133 (by decide) ?_
                refine g_goto (tgt := 138) dX5_readLine_134 (by decide) ?_
                exact g_iret (ty := .boolean) dX5_readLine_138 rfl rfl ⟨⟨1, rfl, Or.inr rfl, fun _ => ⟨HT0, by grind⟩, fun q => absurd q (by decide)⟩, hu26, fu26, (by grind), (fun q => SL), (fun q => absurd q HT0), (fun q q2 => by rw [wLine_S (k := x10) (by rw [HK.1, HK.2.1, HK.2.2.1 (by grind)]; exact HL) (by grind), show x10 = 4 by grind]; exact ku262 q2), (fun q => absurd q HT0)⟩
          · refine g_aload_n dX5_readLine_94 rfl ?_
            refine g_iconst (v := 5) dX5_readLine_95 (by decide) ?_
            refine g_aload_n dX5_readLine_96 rfl ?_
            refine f_X5_21 rfl rfl dX5_readLine_97 ?_
            refine f_X5_61 rfl rfl dX5_readLine_100 ?_
            refine g_topi (fun x31 ex31 => ?_)
            have rx31 : 0 ≤ x31 ∧ x31 ≤ 160 := by rw [ex31]; exact iv_at hu2 _ _ rfl
            have s32 : u2.1 2 4 = x31 := ex31.symm
            refine cl_X5_47 (c := 1) (As := [.int 5, .int x31]) rfl (c_X5_refuse_s (G := G) hs hu2  5 x31  (d + 5)) rfl (by omega) rfl rfl (Nat.le_of_ble_eq_true rfl) dX5_readLine_103 (fun r33 u34 q35 => ?_)
            obtain ⟨rfl, mq35⟩ := q35
            obtain ⟨hu34, gu34, ku340, ku341, ku342⟩ := mq35
            have fu34 : fr 1 13 u u34 := fr_tr fu2 gu34 (by omega) (by omega)
            have wu34_2_1 : u34.1 2 1 = u2.1 2 1 := fr_at gu34 (by omega)
            have wu34_4_0 : u34.1 4 0 = u2.1 4 0 := fr_at gu34 (by omega)
            have s36 : u34.1 2 3 = x4 := (fr_at gu34 (by omega)).trans s5
            have s37 : u34.1 4 0 = x15 := (fr_at gu34 (by omega)).trans s16
            have s38 : u34.1 2 4 = x31 := (fr_at gu34 (by omega)).trans s32
            have SWu34 : Sw u34 W := Sw_fr SWu2 gu34 (by omega)
            have HCu34 : u34.1 4 0 = a.2.2.2.1 := (fr_at gu34 (by omega)).trans HCu2
            have SB : Sc f N u34 (pBad a 5 (tk f N a.2.2.2.2).1) := Sc_bad p0 (by decide) ((gu34.1 3 (by omega)).trans (gu2.1 3 (by omega))) ((fr_at gu34 (by omega)).trans ku20) ku340 (ku341.trans (by rw [HK.1]; grind)) ((fr_at gu34 (by omega)).trans (fr_at gu2 (by omega)))
            have SL : Sc f N u34 (pLine f N a) := by unfold pLine; rw [if_neg (by rw [HK.2.1]; grind), HK.1, HK.2.1, HK.2.2.1 (by grind), HL, if_neg (by grind), if_neg (by grind), if_pos (by rw [← p0.2.2.2.2.2]; grind)]; rw [HK.1] at SB; exact SB
            refine g_goto (tgt := 126) dX5_readLine_106 (by decide) ?_
            refine g_aload_n dX5_readLine_126 rfl ?_
            refine f_X5_9 rfl rfl dX5_readLine_127 ?_
            refine g_topi (fun x39 ex39 => ?_)
            have s40 : u34.1 1 2 = x39 := ex39.symm
            refine g_if_ne (tgt := 137) dX5_readLine_130 (by decide) (fun c41 => ?_) (fun c41 => ?_)
            · refine g_iconst (v := 0) dX5_readLine_137 (by decide) ?_
              exact g_iret (ty := .boolean) dX5_readLine_138 rfl rfl ⟨⟨0, rfl, Or.inl rfl, fun q => absurd rfl q, fun _ => (Or.inr (by grind))⟩, hu34, fu34, (by grind), (fun q => SL), (fun q => absurd q HT0), (fun q q2 => by exfalso; grind), (fun q => absurd q HT0)⟩
            · refine g_iconst (v := 1) dX5_readLine_133 (by decide) ?_
              refine g_goto (tgt := 138) dX5_readLine_134 (by decide) ?_
              exact g_iret (ty := .boolean) dX5_readLine_138 rfl rfl ⟨⟨1, rfl, Or.inr rfl, fun _ => ⟨HT0, by grind⟩, fun q => absurd q (by decide)⟩, hu34, fu34, (by grind), (fun q => SL), (fun q => absurd q HT0), (fun q q2 => by exfalso; grind), (fun q => absurd q HT0)⟩
        · refine g_aload_n dX5_readLine_75 rfl ?_
          refine cl_X5_64 (c := 1) (As := []) rfl (c_X5_readHave_t (G := G) hs hu2  f N (0, a.2.1, a.2.2.1, a.2.2.2.1, (tk f N a.2.2.2.2).2.2.2) W (Sc_tok hN hP0 p0 p1 HT (by grind) (gu2.1 3 (by omega)) ku20 (gu2.1 1 (by omega)) rfl (fr_at gu2 (by omega))) SWu2 (d + 2)) rfl (by omega) rfl rfl (Nat.le_of_ble_eq_true rfl) dX5_readLine_76 (fun r42 u43 q44 => ?_)
          obtain ⟨rfl, mq44⟩ := q44
          obtain ⟨hu43, gu43, ku430, ku431, ku432⟩ := mq44
          have fu43 : fr 1 13 u u43 := fr_tr fu2 gu43 (by omega) (by omega)
          have SL : Sc f N u43 (pLine f N a) := by unfold pLine; rw [if_neg (by rw [HK.2.1]; grind), HK.1, HK.2.1, HK.2.2.1 (by grind), HL, if_neg (by grind), if_pos (by grind)]; have := ku431; rw [HK.2.2.1 (by grind)] at this; exact this
          refine g_goto (tgt := 126) dX5_readLine_79 (by decide) ?_
          refine g_aload_n dX5_readLine_126 rfl ?_
          refine f_X5_9 rfl rfl dX5_readLine_127 ?_
          refine g_topi (fun x45 ex45 => ?_)
          have s46 : u43.1 1 2 = x45 := ex45.symm
          refine g_if_ne (tgt := 137) dX5_readLine_130 (by decide) (fun c47 => ?_) (fun c47 => ?_)
          · refine g_iconst (v := 0) dX5_readLine_137 (by decide) ?_
            exact g_iret (ty := .boolean) dX5_readLine_138 rfl rfl ⟨⟨0, rfl, Or.inl rfl, fun q => absurd rfl q, fun _ => (Or.inr (by grind))⟩, hu43, fu43, (by grind), (fun q => SL), (fun q => absurd q HT0), (fun q q2 => by rw [wLine_H (k := x10) (by rw [HK.1, HK.2.1, HK.2.2.1 (by grind)]; exact HL) (by grind)]; exact ku432 q2), (fun q => absurd q HT0)⟩
          · refine g_iconst (v := 1) dX5_readLine_133 (by decide) ?_
            refine g_goto (tgt := 138) dX5_readLine_134 (by decide) ?_
            exact g_iret (ty := .boolean) dX5_readLine_138 rfl rfl ⟨⟨1, rfl, Or.inr rfl, fun _ => ⟨HT0, by grind⟩, fun q => absurd q (by decide)⟩, hu43, fu43, (by grind), (fun q => SL), (fun q => absurd q HT0), (fun q q2 => by rw [wLine_H (k := x10) (by rw [HK.1, HK.2.1, HK.2.2.1 (by grind)]; exact HL) (by grind)]; exact ku432 q2), (fun q => absurd q HT0)⟩
      · refine g_aload_n dX5_readLine_55 rfl ?_
        refine g_iconst (v := 2) dX5_readLine_56 (by decide) ?_
        refine g_aload_n dX5_readLine_57 rfl ?_
        refine f_X5_21 rfl rfl dX5_readLine_58 ?_
        refine f_X5_61 rfl rfl dX5_readLine_61 ?_
        refine g_topi (fun x48 ex48 => ?_)
        have rx48 : 0 ≤ x48 ∧ x48 ≤ 160 := by rw [ex48]; exact iv_at hu2 _ _ rfl
        have s49 : u2.1 2 4 = x48 := ex48.symm
        refine cl_X5_47 (c := 1) (As := [.int 2, .int x48]) rfl (c_X5_refuse_s (G := G) hs hu2  2 x48  (d + 5)) rfl (by omega) rfl rfl (Nat.le_of_ble_eq_true rfl) dX5_readLine_64 (fun r50 u51 q52 => ?_)
        obtain ⟨rfl, mq52⟩ := q52
        obtain ⟨hu51, gu51, ku510, ku511, ku512⟩ := mq52
        have fu51 : fr 1 13 u u51 := fr_tr fu2 gu51 (by omega) (by omega)
        have wu51_2_1 : u51.1 2 1 = u2.1 2 1 := fr_at gu51 (by omega)
        have wu51_4_0 : u51.1 4 0 = u2.1 4 0 := fr_at gu51 (by omega)
        have s53 : u51.1 2 3 = x4 := (fr_at gu51 (by omega)).trans s5
        have s54 : u51.1 2 4 = x48 := (fr_at gu51 (by omega)).trans s49
        have SWu51 : Sw u51 W := Sw_fr SWu2 gu51 (by omega)
        have HCu51 : u51.1 4 0 = a.2.2.2.1 := (fr_at gu51 (by omega)).trans HCu2
        have SB : Sc f N u51 (pBad a 2 (tk f N a.2.2.2.2).1) := Sc_bad p0 (by decide) ((gu51.1 3 (by omega)).trans (gu2.1 3 (by omega))) ((fr_at gu51 (by omega)).trans ku20) ku510 (ku511.trans (by rw [HK.1]; grind)) ((fr_at gu51 (by omega)).trans (fr_at gu2 (by omega)))
        have SL : Sc f N u51 (pLine f N a) := by unfold pLine; rw [if_neg (by rw [HK.2.1]; grind), HK.1, HK.2.1, HK.2.2.1 (by grind), HL, if_pos (by grind)]; rw [HK.1] at SB; exact SB
        refine g_goto (tgt := 126) dX5_readLine_67 (by decide) ?_
        refine g_aload_n dX5_readLine_126 rfl ?_
        refine f_X5_9 rfl rfl dX5_readLine_127 ?_
        refine g_topi (fun x55 ex55 => ?_)
        have s56 : u51.1 1 2 = x55 := ex55.symm
        refine g_if_ne (tgt := 137) dX5_readLine_130 (by decide) (fun c57 => ?_) (fun c57 => ?_)
        · refine g_iconst (v := 0) dX5_readLine_137 (by decide) ?_
          exact g_iret (ty := .boolean) dX5_readLine_138 rfl rfl ⟨⟨0, rfl, Or.inl rfl, fun q => absurd rfl q, fun _ => (Or.inr (by grind))⟩, hu51, fu51, (by grind), (fun q => SL), (fun q => absurd q HT0), (fun q q2 => by exfalso; grind), (fun q => absurd q HT0)⟩
        · refine g_iconst (v := 1) dX5_readLine_133 (by decide) ?_
          refine g_goto (tgt := 138) dX5_readLine_134 (by decide) ?_
          exact g_iret (ty := .boolean) dX5_readLine_138 rfl rfl ⟨⟨1, rfl, Or.inr rfl, fun _ => ⟨HT0, by grind⟩, fun q => absurd q (by decide)⟩, hu51, fu51, (by grind), (fun q => SL), (fun q => absurd q HT0), (fun q q2 => by exfalso; grind), (fun q => absurd q HT0)⟩
    · refine g_aload_n dX5_readLine_35 rfl ?_
      refine g_iconst (v := 1) dX5_readLine_36 (by decide) ?_
      refine g_aload_n dX5_readLine_37 rfl ?_
      refine f_X5_21 rfl rfl dX5_readLine_38 ?_
      refine f_X5_61 rfl rfl dX5_readLine_41 ?_
      refine g_topi (fun x58 ex58 => ?_)
      have rx58 : 0 ≤ x58 ∧ x58 ≤ 160 := by rw [ex58]; exact iv_at hu2 _ _ rfl
      have s59 : u2.1 2 4 = x58 := ex58.symm
      refine cl_X5_47 (c := 1) (As := [.int 1, .int x58]) rfl (c_X5_refuse_s (G := G) hs hu2  1 x58  (d + 5)) rfl (by omega) rfl rfl (Nat.le_of_ble_eq_true rfl) dX5_readLine_44 (fun r60 u61 q62 => ?_)
      obtain ⟨rfl, mq62⟩ := q62
      obtain ⟨hu61, gu61, ku610, ku611, ku612⟩ := mq62
      have fu61 : fr 1 13 u u61 := fr_tr fu2 gu61 (by omega) (by omega)
      have wu61_2_1 : u61.1 2 1 = u2.1 2 1 := fr_at gu61 (by omega)
      have wu61_4_0 : u61.1 4 0 = u2.1 4 0 := fr_at gu61 (by omega)
      have s63 : u61.1 2 3 = x4 := (fr_at gu61 (by omega)).trans s5
      have s64 : u61.1 2 4 = x58 := (fr_at gu61 (by omega)).trans s59
      have SWu61 : Sw u61 W := Sw_fr SWu2 gu61 (by omega)
      have HCu61 : u61.1 4 0 = a.2.2.2.1 := (fr_at gu61 (by omega)).trans HCu2
      have SB : Sc f N u61 (pBad a 1 (tk f N a.2.2.2.2).1) := Sc_bad p0 (by decide) ((gu61.1 3 (by omega)).trans (gu2.1 3 (by omega))) ((fr_at gu61 (by omega)).trans ku20) ku610 (ku611.trans (by rw [HK.1]; grind)) ((fr_at gu61 (by omega)).trans (fr_at gu2 (by omega)))
      have SL : Sc f N u61 (pLine f N a) := by unfold pLine; rw [if_pos (by rw [HK.2.1]; grind)]; exact SB
      refine g_goto (tgt := 126) dX5_readLine_47 (by decide) ?_
      refine g_aload_n dX5_readLine_126 rfl ?_
      refine f_X5_9 rfl rfl dX5_readLine_127 ?_
      refine g_topi (fun x65 ex65 => ?_)
      have s66 : u61.1 1 2 = x65 := ex65.symm
      refine g_if_ne (tgt := 137) dX5_readLine_130 (by decide) (fun c67 => ?_) (fun c67 => ?_)
      · refine g_iconst (v := 0) dX5_readLine_137 (by decide) ?_
        exact g_iret (ty := .boolean) dX5_readLine_138 rfl rfl ⟨⟨0, rfl, Or.inl rfl, fun q => absurd rfl q, fun _ => (Or.inr (by grind))⟩, hu61, fu61, (by grind), (fun q => SL), (fun q => absurd q HT0), (fun q q2 => by exfalso; grind), (fun q => absurd q HT0)⟩
      · refine g_iconst (v := 1) dX5_readLine_133 (by decide) ?_
        refine g_goto (tgt := 138) dX5_readLine_134 (by decide) ?_
        exact g_iret (ty := .boolean) dX5_readLine_138 rfl rfl ⟨⟨1, rfl, Or.inr rfl, fun _ => ⟨HT0, by grind⟩, fun q => absurd q (by decide)⟩, hu61, fu61, (by grind), (fun q => SL), (fun q => absurd q HT0), (fun q q2 => by exfalso; grind), (fun q => absurd q HT0)⟩
  · refine g_iconst (v := 0) dX5_readLine_17 (by decide) ?_
    exact g_iret (ty := .boolean) dX5_readLine_18 rfl rfl ⟨⟨0, rfl, Or.inl rfl, fun q => absurd rfl q, fun _ => (Or.inl (by rw [HK.2.1]; grind))⟩, hu2, fu2, ku20, (fun q => by exfalso; rw [HK.2.1] at q; grind), (fun q => ⟨w1.trans p1, (fr_at gu2 (by omega)).trans (p0.2.2.2.2.1 a0).2, (fr_at gu2 (by omega)).trans p0.2.2.2.2.2⟩), (fun q => by exfalso; rw [HK.2.1] at q; grind), (fun _ => SWu2)⟩
abbrev q_X5_readAll_t (u : uk_Mem) (f : Nat → Int32) (N : Int32) (r : Option Value) (u' : uk_Mem) : Prop := (∃ x : Int32, r = some (.int x) ∧ ((x = (pRes f N).2 ∧ u'.1 1 2 = (pRes f N).1.1 ∧ (¬ (pRes f N).1.1 = 0 → u'.1 1 3 = (pRes f N).1.2.1)) ∧ ((pRes f N).1.1 = 0 → Sw u' (wIt f N x.toNatClampNeg) ∧ u'.1 4 0 = (pIt f N x.toNatClampNeg).2.2.2.1))) ∧ (iv u' ∧ fr 1 13 u u' ∧ u'.1 2 1 = u.1 2 1)
set_option maxHeartbeats 4000000 in
set_option maxRecDepth 20000 in
theorem c_X5_readAll_t {G : uk_D} (hs : uk_Sep G) {u : uk_Mem} (hu : iv u) (f : Nat → Int32) (N : Int32) (p0 : cpy (u.1 3) f N) (p1 : u.1 2 1 = N) (d : Nat) : uk_Meth G (d + 7) mX5_readAll [.ref (uk_ad G 1)] u (q_X5_readAll_t u f N) := by
  refine uk_Meth.of hs (by decide) (Nat.le_of_ble_eq_true rfl) (fun X => ?_)
  have f0 : fr 1 13 u u := fr_rf
  refine g_aload_n dX5_readAll_0 rfl ?_
  refine f_X5_25 rfl rfl dX5_readAll_1 ?_
  refine cl_X5_29 (c := 4) (As := []) rfl (c_X0_clear_t (G := G) hs hu uk_isK4   (d + 6)) rfl (by omega) rfl rfl (Nat.le_of_ble_eq_true rfl) dX5_readAll_4 (fun r1 u2 q3 => ?_)
  obtain ⟨rfl, mq3⟩ := q3
  obtain ⟨hu2, gu2, ku20, ku21⟩ := mq3
  have fu2 : fr 1 13 u u2 := fr_tr f0 gu2 (by omega) (by omega)
  have wu2_2_1 : u2.1 2 1 = u.1 2 1 := fr_at gu2 (by omega)
  have wu2_1_2 : u2.1 1 2 = u.1 1 2 := fr_at gu2 (by omega)
  refine g_aload_n dX5_readAll_7 rfl ?_
  refine f_X5_21 rfl rfl dX5_readAll_8 ?_
  refine cl_X5_34 (c := 2) (As := []) rfl (c_X4_rewind_s (G := G) hs hu2    (d + 6)) rfl (by omega) rfl rfl (Nat.le_of_ble_eq_true rfl) dX5_readAll_11 (fun r4 u5 q6 => ?_)
  obtain ⟨rfl, mq6⟩ := q6
  obtain ⟨hu5, gu5, ku50, ku51⟩ := mq6
  have fu5 : fr 1 13 u u5 := fr_tr fu2 gu5 (by omega) (by omega)
  have wu5_4_0 : u5.1 4 0 = u2.1 4 0 := fr_at gu5 (by omega)
  have wu5_1_2 : u5.1 1 2 = u2.1 1 2 := fr_at gu5 (by omega)
  refine g_aload_n dX5_readAll_14 rfl ?_
  refine g_iconst (v := 0) dX5_readAll_15 (by decide) ?_
  refine p_X5_9 rfl rfl dX5_readAll_16 ?_
  refine g_mem (fun u7 eu7 => ?_)
  have hu7 : iv u7 := by rw [eu7]; exact iv_upF hu5 rfl
  have fu7 : fr 1 13 u u7 := by rw [eu7]; exact fr_up fu5 (by omega) (by omega)
  have s8 : u7.1 1 2 = 0 := by rw [eu7, uk_up_at]; exact if_pos ⟨rfl, rfl⟩
  refine g_aload_n dX5_readAll_19 rfl ?_
  refine g_iconst (v := 0) dX5_readAll_20 (by decide) ?_
  refine p_X5_15 rfl rfl dX5_readAll_21 ?_
  refine g_mem (fun u9 eu9 => ?_)
  have hu9 : iv u9 := by rw [eu9]; exact iv_upF hu7 rfl
  have fu9 : fr 1 13 u u9 := by rw [eu9]; exact fr_up fu7 (by omega) (by omega)
  have s10 : u9.1 1 3 = 0 := by rw [eu9, uk_up_at]; exact if_pos ⟨rfl, rfl⟩
  refine g_aload_n dX5_readAll_24 rfl ?_
  refine g_iconst (v := 0) dX5_readAll_25 (by decide) ?_
  refine p_X5_18 rfl rfl dX5_readAll_26 ?_
  refine g_mem (fun u11 eu11 => ?_)
  have hu11 : iv u11 := by rw [eu11]; exact iv_upF hu9 rfl
  have fu11 : fr 1 13 u u11 := by rw [eu11]; exact fr_up fu9 (by omega) (by omega)
  have s12 : u11.1 1 4 = 0 := by rw [eu11, uk_up_at]; exact if_pos ⟨rfl, rfl⟩
  have S00 : Sc f N u11 p_0 := ⟨by rw [eu11, eu9, eu7, uk_up_oc (by decide), uk_up_oc (by decide), uk_up_oc (by decide), gu5.1 3 (by omega), gu2.1 3 (by omega)]; exact p0, by simp [eu11, eu9, eu7, uk_up_at]; grind, by simp [eu11, eu9, eu7, uk_up_at]; rfl, fun z => absurd rfl z, fun _ => ⟨by simp [eu11, eu9, eu7, uk_up_at]; exact ku51, by simp [eu11, eu9, eu7, uk_up_at]; rfl⟩, by simp [eu11, eu9, eu7, uk_up_at]; rw [fr_at gu5 (by omega)]; exact ku20⟩
  have W00 : Sw u11 (fun _ _ => 0) := KW_cg (show KW u2 4 _ by rw [ku21]; exact KW_clear.1) (fun c c1 c2 => by rw [eu11, uk_up_oc (by omega), eu9, uk_up_oc (by omega), eu7, uk_up_oc (by omega)]; exact gu5.1 c (by omega))
  refine g_iconst (v := 0) dX5_readAll_29 (by decide) ?_
  refine g_istore_n dX5_readAll_30 (by decide) ?_
  refine g_pick (lv' := [(0, .ref (uk_ad G 1)), (1, .int 0)]) [0, 1] rfl ?_
  have L31_12 : ∀ i14 : Int32, 0 ≤ i14 → i14 ≤ 160 → ∀ (u15 : uk_Mem), iv u15 → fr 1 13 u u15 → u15.1 2 1 = u.1 2 1 → Aw f N u15 i14 → uk_G G X mX5_readAll (d + 7) (q_X5_readAll_t u f N) 31 [(0, .ref (uk_ad G 1)), (1, .int i14)] [] u15 := by
    refine uk_upl 160 ?_
    intro i14 ai14 bi14 ihi14  u15 hu15 fu15 ji140 ji141
    refine g_iload_n dX5_readAll_31 rfl ?_
    obtain ⟨b9, W9, hbI, hbJ, hbW, hb1, hb2, hb3⟩ := ji141
    refine g_sipush (v := 160) dX5_readAll_32 (by decide) ?_
    refine g_icmp_ge (tgt := 51) dX5_readAll_35 (by decide) (fun c16 => ?_) (fun c16 => ?_)
    · have RC : Rc f N u15 i14 := Rc_1 hb1 (by rw [← hb3]; exact pLoop_0 (by grind))
      have SF : u15.1 1 2 = 0 → Sw u15 (wIt f N i14.toNatClampNeg) ∧ u15.1 4 0 = (pIt f N i14.toNatClampNeg).2.2.2.1 := fun q => by
        rw [← hbJ, ← hbI]
        exact ⟨hbW, hb1.2.2.2.2.2⟩
      refine g_aload_n dX5_readAll_51 rfl ?_
      refine f_X5_9 rfl rfl dX5_readAll_52 ?_
      refine g_topi (fun x17 ex17 => ?_)
      have s18 : u15.1 1 2 = x17 := ex17.symm
      refine g_if_ne (tgt := 86) dX5_readAll_55 (by decide) (fun c19 => ?_) (fun c19 => ?_)
      · refine g_iload_n dX5_readAll_86 rfl ?_
        exact g_iret (ty := .int) dX5_readAll_87 rfl rfl ⟨⟨_, rfl, ⟨(Re_G RC (fun z => by have z1 := z.1; grind)), fun q => SF ((Re_G RC (fun z => by have z1 := z.1; grind)).2.1.trans q)⟩⟩, hu15, fu15, (by first | rfl | grind | grind [uk_up_at])⟩
      · refine g_aload_n dX5_readAll_58 rfl ?_
        refine f_X5_18 rfl rfl dX5_readAll_59 ?_
        refine g_topi (fun x20 ex20 => ?_)
        have s21 : u15.1 1 4 = x20 := ex20.symm
        refine g_aload_n dX5_readAll_62 rfl ?_
        refine f_X5_25 rfl rfl dX5_readAll_63 ?_
        refine f_X5_43 rfl rfl dX5_readAll_66 ?_
        refine g_topi (fun x22 ex22 => ?_)
        have rx22 : 0 ≤ x22 ∧ x22 ≤ 8 := by rw [ex22]; exact iv_at hu15 _ _ rfl
        have s23 : u15.1 4 0 = x22 := ex22.symm
        refine g_ishr dX5_readAll_69 (fun x24 ex24 => ?_)
        have y70 : (u15.1 1 4 >>> u15.1 4 0) = x24 := by rw [ex24, m31 (by grind) (by grind), ex20, ex22]
        refine g_if_eq (tgt := 86) dX5_readAll_70 (by decide) (fun c25 => ?_) (fun c25 => ?_)
        · refine g_iload_n dX5_readAll_86 rfl ?_
          exact g_iret (ty := .int) dX5_readAll_87 rfl rfl ⟨⟨_, rfl, ⟨(Re_G RC (fun z => by have z2 := z.2; rw [y70] at z2; grind)), fun q => SF ((Re_G RC (fun z => by have z2 := z.2; rw [y70] at z2; grind)).2.1.trans q)⟩⟩, hu15, fu15, (by first | rfl | grind | grind [uk_up_at])⟩
        · refine g_aload_n dX5_readAll_73 rfl ?_
          refine g_bipush (v := 6) dX5_readAll_74 (by decide) ?_
          refine g_aload_n dX5_readAll_76 rfl ?_
          refine f_X5_21 rfl rfl dX5_readAll_77 ?_
          refine f_X5_46 rfl rfl dX5_readAll_80 ?_
          refine g_topi (fun x26 ex26 => ?_)
          have rx26 : 0 ≤ x26 ∧ x26 ≤ 160 := by rw [ex26]; exact iv_at hu15 _ _ rfl
          have s27 : u15.1 2 1 = x26 := ex26.symm
          refine cl_X5_47 (c := 1) (As := [.int 6, .int x26]) rfl (c_X5_refuse_s (G := G) hs hu15  6 x26  (d + 6)) rfl (by omega) rfl rfl (Nat.le_of_ble_eq_true rfl) dX5_readAll_83 (fun r28 u29 q30 => ?_)
          obtain ⟨rfl, mq30⟩ := q30
          obtain ⟨hu29, gu29, ku290, ku291, ku292⟩ := mq30
          have fu29 : fr 1 13 u u29 := fr_tr fu15 gu29 (by omega) (by omega)
          have wu29_2_1 : u29.1 2 1 = u15.1 2 1 := fr_at gu29 (by omega)
          have wu29_4_0 : u29.1 4 0 = u15.1 4 0 := fr_at gu29 (by omega)
          have s31 : u29.1 4 0 = x22 := (fr_at gu29 (by omega)).trans s23
          have s32 : u29.1 2 1 = x26 := (fr_at gu29 (by omega)).trans s27
          refine g_iload_n dX5_readAll_86 rfl ?_
          exact g_iret (ty := .int) dX5_readAll_87 rfl rfl ⟨⟨_, rfl, ⟨(Re_B RC (by grind) (by rw [y70]; grind) ku290 (ku291.trans (by grind))), fun q => absurd (ku290.symm.trans ((Re_B RC (by grind) (by rw [y70]; grind) ku290 (ku291.trans (by grind))).2.1.trans q)) (by decide)⟩⟩, hu29, fu29, (by first | rfl | grind | grind [uk_up_at])⟩
    · refine g_aload_n dX5_readAll_38 rfl ?_
      refine cl_X5_39 (c := 1) (As := []) rfl (c_X5_readLine_t (G := G) hs hu15  f N b9 W9 hb1 (hb1.2.2.1.trans hb2) hbW (d)) rfl (by omega) rfl rfl (Nat.le_of_ble_eq_true rfl) dX5_readAll_39 (fun r33 u34 q35 => ?_)
      obtain ⟨⟨x36, rfl, tx36, nx36, zx36⟩, mq35⟩ := q35
      obtain ⟨hu34, gu34, ku340, ku341, ku342, ku343, ku344⟩ := mq35
      have fu34 : fr 1 13 u u34 := fr_tr fu15 gu34 (by omega) (by omega)
      refine g_if_eq (tgt := 51) dX5_readAll_42 (by decide) (fun c37 => ?_) (fun c37 => ?_)
      · have zc37 := zx36 c37
        have RC : Rc f N u34 i14 := by
          by_cases zt : (tk f N b9.2.2.2.2).2.1 = 0
          · exact Rc_2 (by rw [← hb3]; exact pLoop_e (by grind) (by grind) zt) hb2 (ku342 zt)
          · have zf := (zx36 (by assumption)).resolve_left zt
            exact Rc_1 (ku341 zt) (by rw [← hb3]; exact pLoop_b (by grind) (by grind) zt (fun z => zf ((ku341 zt).2.2.1.trans z)))
        have SF : u34.1 1 2 = 0 → Sw u34 (wIt f N i14.toNatClampNeg) ∧ u34.1 4 0 = (pIt f N i14.toNatClampNeg).2.2.2.1 := fun q => by
          have zt : (tk f N b9.2.2.2.2).2.1 = 0 := Classical.byContradiction fun z => ((zx36 (by assumption)).resolve_left z) q
          rw [← hbJ, ← hbI]
          exact ⟨ku344 zt, (ku342 zt).2.2⟩
        refine g_aload_n dX5_readAll_51 rfl ?_
        refine f_X5_9 rfl rfl dX5_readAll_52 ?_
        refine g_topi (fun x38 ex38 => ?_)
        have s39 : u34.1 1 2 = x38 := ex38.symm
        refine g_if_ne (tgt := 86) dX5_readAll_55 (by decide) (fun c40 => ?_) (fun c40 => ?_)
        · refine g_iload_n dX5_readAll_86 rfl ?_
          exact g_iret (ty := .int) dX5_readAll_87 rfl rfl ⟨⟨_, rfl, ⟨(Re_G RC (fun z => by have z1 := z.1; grind)), fun q => SF ((Re_G RC (fun z => by have z1 := z.1; grind)).2.1.trans q)⟩⟩, hu34, fu34, (by first | rfl | grind | grind [uk_up_at])⟩
        · refine g_aload_n dX5_readAll_58 rfl ?_
          refine f_X5_18 rfl rfl dX5_readAll_59 ?_
          refine g_topi (fun x41 ex41 => ?_)
          have s42 : u34.1 1 4 = x41 := ex41.symm
          refine g_aload_n dX5_readAll_62 rfl ?_
          refine f_X5_25 rfl rfl dX5_readAll_63 ?_
          refine f_X5_43 rfl rfl dX5_readAll_66 ?_
          refine g_topi (fun x43 ex43 => ?_)
          have rx43 : 0 ≤ x43 ∧ x43 ≤ 8 := by rw [ex43]; exact iv_at hu34 _ _ rfl
          have s44 : u34.1 4 0 = x43 := ex43.symm
          refine g_ishr dX5_readAll_69 (fun x45 ex45 => ?_)
          have y70 : (u34.1 1 4 >>> u34.1 4 0) = x45 := by rw [ex45, m31 (by grind) (by grind), ex41, ex43]
          refine g_if_eq (tgt := 86) dX5_readAll_70 (by decide) (fun c46 => ?_) (fun c46 => ?_)
          · refine g_iload_n dX5_readAll_86 rfl ?_
            exact g_iret (ty := .int) dX5_readAll_87 rfl rfl ⟨⟨_, rfl, ⟨(Re_G RC (fun z => by have z2 := z.2; rw [y70] at z2; grind)), fun q => SF ((Re_G RC (fun z => by have z2 := z.2; rw [y70] at z2; grind)).2.1.trans q)⟩⟩, hu34, fu34, (by first | rfl | grind | grind [uk_up_at])⟩
          · refine g_aload_n dX5_readAll_73 rfl ?_
            refine g_bipush (v := 6) dX5_readAll_74 (by decide) ?_
            refine g_aload_n dX5_readAll_76 rfl ?_
            refine f_X5_21 rfl rfl dX5_readAll_77 ?_
            refine f_X5_46 rfl rfl dX5_readAll_80 ?_
            refine g_topi (fun x47 ex47 => ?_)
            have rx47 : 0 ≤ x47 ∧ x47 ≤ 160 := by rw [ex47]; exact iv_at hu34 _ _ rfl
            have s48 : u34.1 2 1 = x47 := ex47.symm
            refine cl_X5_47 (c := 1) (As := [.int 6, .int x47]) rfl (c_X5_refuse_s (G := G) hs hu34  6 x47  (d + 6)) rfl (by omega) rfl rfl (Nat.le_of_ble_eq_true rfl) dX5_readAll_83 (fun r49 u50 q51 => ?_)
            obtain ⟨rfl, mq51⟩ := q51
            obtain ⟨hu50, gu50, ku500, ku501, ku502⟩ := mq51
            have fu50 : fr 1 13 u u50 := fr_tr fu34 gu50 (by omega) (by omega)
            have wu50_2_1 : u50.1 2 1 = u34.1 2 1 := fr_at gu50 (by omega)
            have wu50_4_0 : u50.1 4 0 = u34.1 4 0 := fr_at gu50 (by omega)
            have s52 : u50.1 4 0 = x43 := (fr_at gu50 (by omega)).trans s44
            have s53 : u50.1 2 1 = x47 := (fr_at gu50 (by omega)).trans s48
            refine g_iload_n dX5_readAll_86 rfl ?_
            exact g_iret (ty := .int) dX5_readAll_87 rfl rfl ⟨⟨_, rfl, ⟨(Re_B RC (by grind) (by rw [y70]; grind) ku500 (ku501.trans (by grind))), fun q => absurd (ku500.symm.trans ((Re_B RC (by grind) (by rw [y70]; grind) ku500 (ku501.trans (by grind))).2.1.trans q)) (by decide)⟩⟩, hu50, fu50, (by first | rfl | grind | grind [uk_up_at])⟩
      · have zc37 := nx36 c37
        refine g_iinc (v := i14 + 1) dX5_readAll_45 rfl rfl (by decide) ?_
        refine g_pick (lv' := [(0, .ref (uk_ad G 1)), (1, .int (i14 + 1))]) [0, 1] rfl ?_
        refine g_goto (tgt := 31) dX5_readAll_48 (by decide) ?_
        refine g_pick (lv' := [(0, .ref (uk_ad G 1)), (1, .int (i14 + 1))]) [0, 1] rfl ?_
        exact ihi14 (by first | lia | grind)  u34 hu34 fu34 (by grind) ⟨pLine f N b9, wLine f N b9 W9, (pIt_s (by grind) (by grind) hbI hbJ).1, (pIt_s (by grind) (by grind) hbI hbJ).2, ku343 (nx36 (by assumption)).1 (nx36 (by assumption)).2, ku341 (nx36 (by assumption)).1, ((ku341 (nx36 (by assumption)).1).2.2.1.symm.trans (nx36 (by assumption)).2), (by rw [← hb3]; exact (pLoop_s (by grind) (by grind) (nx36 (by assumption)).1 ((ku341 (nx36 (by assumption)).1).2.2.1.symm.trans (nx36 (by assumption)).2)).symm)⟩
  refine g_pick (lv' := [(0, .ref (uk_ad G 1)), (1, .int 0)]) [0, 1] rfl ?_
  exact L31_12 0 (by first | decide | lia | grind) (by first | decide | lia | grind)  u11 hu11 fu11 (by grind [uk_up_at]) ⟨p_0, fun _ _ => 0, rfl, rfl, W00, S00, rfl, rfl⟩
abbrev q_X6_text_t (u : uk_Mem) (f : Nat → Int32) (N : Int32) (r : Option Value) (u' : uk_Mem) : Prop := (∃ x : Int32, r = some (.int x) ∧ ((¬ (pRes f N).1.1 = 0 ∧ x = -10 - (pRes f N).1.2.1) ∨ ((pRes f N).1.1 = 0 ∧ x = (pRes f N).2))) ∧ (iv u' ∧ fr 0 41 u u' ∧ u'.1 2 1 = 0 ∧ u'.1 0 13 = (pRes f N).1.1 ∧ ((pRes f N).1.1 = 0 → TXI f N u' 2) ∧ (¬ (pRes f N).1.1 = 0 → ∀ d, 13 ≤ d → d ≤ 40 → u'.1 d = u.1 d) ∧ u'.1 0 14 = u.1 0 14)
set_option maxHeartbeats 4000000 in
set_option maxRecDepth 20000 in
theorem c_X6_text_t {G : uk_D} (hs : uk_Sep G) {u : uk_Mem} (hu : iv u) (f : Nat → Int32) (N : Int32) (p0 : cpy (u.1 3) f N) (p1 : u.1 2 1 = N) (d : Nat) : uk_Meth G (d + 8) mX6_text [.ref (uk_ad G 0)] u (q_X6_text_t u f N) := by
  refine uk_Meth.of hs (by decide) (Nat.le_of_ble_eq_true rfl) (fun X => ?_)
  have f0 : fr 0 41 u u := fr_rf
  refine g_aload_n dX6_text_0 rfl ?_
  refine f_X6_31 rfl rfl dX6_text_1 ?_
  refine cl_X6_91 (c := 1) (As := []) rfl (c_X5_readAll_t (G := G) hs hu  f N p0 p1 (d)) rfl (by omega) rfl rfl (Nat.le_of_ble_eq_true rfl) dX6_text_4 (fun r1 u2 q3 => ?_)
  obtain ⟨⟨x4, rfl, tx4⟩, mq3⟩ := q3
  obtain ⟨hu2, gu2, ku20⟩ := mq3
  have fu2 : fr 0 41 u u2 := fr_tr f0 gu2 (by omega) (by omega)
  have tTx4 := tx4.1
  refine g_istore_n dX6_text_7 (by decide) ?_
  refine g_pick (lv' := [(0, .ref (uk_ad G 0)), (1, .int x4)]) [0, 1] rfl ?_
  refine g_aload_n dX6_text_8 rfl ?_
  refine f_X6_22 rfl rfl dX6_text_9 ?_
  refine g_iconst (v := 0) dX6_text_12 (by decide) ?_
  refine p_X6_84 rfl rfl dX6_text_13 ?_
  refine g_mem (fun u5 eu5 => ?_)
  have hu5 : iv u5 := by rw [eu5]; exact iv_up hu2 rfl (by first | lia | grind) (by first | lia | grind)
  have fu5 : fr 0 41 u u5 := by rw [eu5]; exact fr_up fu2 (by omega) (by omega)
  have s6 : u5.1 2 1 = 0 := by rw [eu5, uk_up_at]; exact if_pos ⟨rfl, rfl⟩
  refine g_aload_n dX6_text_16 rfl ?_
  refine g_aload_n dX6_text_17 rfl ?_
  refine f_X6_31 rfl rfl dX6_text_18 ?_
  refine f_X6_95 rfl rfl dX6_text_21 ?_
  refine g_topi (fun x7 ex7 => ?_)
  have s8 : u5.1 1 2 = x7 := ex7.symm
  have yf : x7 = (pRes f N).1.1 := by rw [ex7, eu5, uk_up_at, if_neg (by decide)]; exact tTx4.2.1
  refine p_X6_77 rfl rfl dX6_text_24 ?_
  refine g_mem (fun u9 eu9 => ?_)
  have hu9 : iv u9 := by rw [eu9]; exact iv_upF hu5 rfl
  have fu9 : fr 0 41 u u9 := by rw [eu9]; exact fr_up fu5 (by omega) (by omega)
  have s10 : u9.1 0 13 = x7 := by rw [eu9, uk_up_at]; exact if_pos ⟨rfl, rfl⟩
  have s13 : u9.1 0 13 = (pRes f N).1.1 := by rw [eu9, uk_up_at, if_pos ⟨rfl, rfl⟩]; exact yf
  have s14 : u9.1 0 14 = u.1 0 14 := by rw [eu9, uk_up_at, if_neg (by decide), eu5, uk_up_oc (by decide), gu2.1 0 (by omega)]
  refine g_aload_n dX6_text_27 rfl ?_
  refine f_X6_77 rfl rfl dX6_text_28 ?_
  refine g_topi (fun x11 ex11 => ?_)
  have qx11 : x11 = x7 := by rw [ex11]; exact s10
  refine g_if_eq (tgt := 45) dX6_text_31 (by decide) (fun c12 => ?_) (fun c12 => ?_)
  · have SX := tx4.2 (by grind)
    rw [tx4.1.1] at SX
    have SX9 : Sw u9 (wIt f N (pRes f N).2.toNatClampNeg) := KW_cg SX.1 (fun c c1 c2 => by rw [eu9, uk_up_oc (by omega), eu5, uk_up_oc (by omega)])
    have SZ9 : u9.1 4 0 = (pIt f N (pRes f N).2.toNatClampNeg).2.2.2.1 := by rw [eu9, uk_up_oc (by decide), eu5, uk_up_oc (by decide)]; exact SX.2
    have n9 := uk_cln 8 8 rfl (iv_at hu9 4 0 rfl).1 (iv_at hu9 4 0 rfl).2
    refine g_aload_n dX6_text_45 rfl ?_
    refine f_X6_10 rfl rfl dX6_text_46 ?_
    refine g_aload_n dX6_text_49 rfl ?_
    refine f_X6_16 rfl rfl dX6_text_50 ?_
    refine cl_X6_101 (c := 13) (As := [.ref (uk_ad G 4)]) rfl (c_X0_copyFrom_t (G := G) hs hu9 uk_isK13 uk_isK4   (d + 7)) rfl (by omega) rfl rfl (Nat.le_of_ble_eq_true rfl) dX6_text_53 (fun r13 u14 q15 => ?_)
    obtain ⟨rfl, mq15⟩ := q15
    obtain ⟨hu14, gu14, ku140⟩ := mq15
    have fu14 : fr 0 41 u u14 := fr_tr fu9 gu14 (by omega) (by omega)
    have wu14_2_1 : u14.1 2 1 = u9.1 2 1 := fr_at gu14 (by omega)
    have s16 : u14.1 2 1 = 0 := (fr_at gu14 (by omega)).trans (by simp [eu9, uk_up_at, s6] : u9.1 2 1 = 0)
    have s17 : u14.1 1 2 = x7 := (fr_at gu14 (by omega)).trans (by simp [eu9, uk_up_at, s8] : u9.1 1 2 = x7)
    have s18 : u14.1 0 13 = x7 := (fr_at gu14 (by omega)).trans s10
    refine g_iconst (v := 0) dX6_text_56 (by decide) ?_
    refine g_istore_n dX6_text_57 (by decide) ?_
    refine g_pick (lv' := [(0, .ref (uk_ad G 0)), (1, .int x4), (2, .int 0)]) [0, 1, 2] rfl ?_
    have L58_18 : ∀ i20 : Int32, 0 ≤ i20 → i20 ≤ 2 → ∀ (u21 : uk_Mem), iv u21 → fr 0 41 u u21 → u21.1 2 1 = 0 → u21.1 0 13 = (pRes f N).1.1 → TXI f N u21 i20 → u21.1 0 14 = u.1 0 14 → uk_G G X mX6_text (d + 8) (q_X6_text_t u f N) 58 [(0, .ref (uk_ad G 0)), (1, .int x4), (2, .int i20)] [] u21 := by
      refine uk_upl 2 ?_
      intro i20 ai20 bi20 ihi20  u21 hu21 fu21 ji200 ji201 ji202 ji203
      refine g_iload_n dX6_text_58 rfl ?_
      refine g_iconst (v := 2) dX6_text_59 (by decide) ?_
      refine g_icmp_ge (tgt := 76) dX6_text_60 (by decide) (fun c22 => ?_) (fun c22 => ?_)
      · refine g_iload_n dX6_text_76 rfl ?_
        exact g_iret (ty := .int) dX6_text_77 rfl rfl ⟨⟨_, rfl, Or.inr ⟨by grind, tTx4.1⟩⟩, hu21, fu21, ji200, ji201, (fun _ => by have h9 := ji202; rw [show i20 = 2 by grind] at h9; exact h9), (fun q => by exfalso; grind), ji203⟩
      · refine g_aload_n dX6_text_63 rfl ?_
        refine f_X6_41 rfl rfl dX6_text_64 ?_
        refine g_iload_n dX6_text_67 rfl ?_
        refine g_iconst (v := 0) dX6_text_68 (by decide) ?_
        have v23 : vp_in i20 2 := uk_vin 2 rfl (by first | decide | lia | grind) (by first | decide | lia | grind)
        have b24 := uk_cl v23
        refine g_zast rfl rfl v23 dX6_text_69 ?_
        rw [show vp_nar .boolean 0 = 0 from rfl]
        refine g_mem (fun u25 eu25 => ?_)
        have hu25 : iv u25 := by rw [eu25]; exact iv_up hu21 (uk_pick1 _ (by omega)) (by first | lia | grind) (by first | lia | grind)
        have fu25 : fr 0 41 u u25 := by rw [eu25]; exact fr_up fu21 (by omega) (by omega)
        refine g_iinc (v := i20 + 1) dX6_text_70 rfl rfl (by decide) ?_
        refine g_pick (lv' := [(0, .ref (uk_ad G 0)), (1, .int x4), (2, .int (i20 + 1))]) [0, 1, 2] rfl ?_
        refine g_goto (tgt := 58) dX6_text_73 (by decide) ?_
        refine g_pick (lv' := [(0, .ref (uk_ad G 0)), (1, .int x4), (2, .int (i20 + 1))]) [0, 1, 2] rfl ?_
        exact ihi20 (by first | lia | grind)  u25 hu25 fu25 (by rw [eu25, uk_up_at, if_neg (fun z => absurd z.1 (by decide))]; exact ji200) (by rw [eu25, uk_up_at, if_neg (fun z => absurd z.1 (by decide))]; exact ji201) (TXI_s ji202 (by grind) (by grind) eu25) (by rw [eu25, uk_up_at, if_neg (fun z => absurd z.1 (by decide))]; exact ji203)
    refine g_pick (lv' := [(0, .ref (uk_ad G 0)), (1, .int x4), (2, .int 0)]) [0, 1, 2] rfl ?_
    exact L58_18 0 (by first | decide | lia | grind) (by first | decide | lia | grind)  u14 hu14 fu14 (by grind) ((fr_at gu14 (by omega)).trans s13) (TXI_0 SX9 SZ9 n9 ku140) ((fr_at gu14 (by omega)).trans s14)
  · refine g_bipush (v := (-10)) dX6_text_34 (by decide) ?_
    refine g_aload_n dX6_text_36 rfl ?_
    refine f_X6_31 rfl rfl dX6_text_37 ?_
    refine f_X6_98 rfl rfl dX6_text_40 ?_
    refine g_topi (fun x26 ex26 => ?_)
    have s27 : u9.1 1 3 = x26 := ex26.symm
    have yp : ¬ (pRes f N).1.1 = 0 → x26 = (pRes f N).1.2.1 := fun q => by rw [ex26, eu9, uk_up_at, if_neg (by decide), eu5, uk_up_at, if_neg (by decide)]; exact tTx4.2.2 q
    refine g_isub dX6_text_43 ?_
    refine g_topi (fun x28 ex28 => ?_)
    exact g_iret (ty := .int) dX6_text_44 rfl rfl ⟨⟨_, rfl, Or.inl ⟨by grind, by rw [ex28, yp (by grind)]⟩⟩, hu9, fu9, (by grind [uk_up_at]), s13, (fun q => by exfalso; grind), (fun _ d d1 d2 => by rw [eu9, uk_up_oc (by omega), eu5, uk_up_oc (by omega)]; exact gu2.1 d (by omega)), s14⟩
