abbrev q_X7_readNumber_s (u : uk_Mem) (lo : Int32) (hi : Int32) (f : Nat → Int32) (N : Int32) (a : PS) (r : Option Value) (u' : uk_Mem) : Prop := (∃ x : Int32, r = some (.int x) ∧ (((u'.1 60 18 = 0 → lo ≤ x ∧ x ≤ hi) ∧ (x = 0 ∨ (lo ≤ x ∧ x ≤ hi))) ∧ x = (pTake f N a 2 hi).2)) ∧ (iv u' ∧ fk [60] [3, 7, 10, 11, 13, 22, 28] u u' ∧ (u'.1 60 18 = 0 → u.1 60 18 = 0) ∧ (u'.1 60 18 = 0 → u.1 60 14 ≤ u'.1 60 15 ∧ u'.1 60 15 ≤ u'.1 60 14) ∧ Sr f N u' (pTake f N a 2 hi).1)
set_option maxHeartbeats 4000000 in
set_option maxRecDepth 20000 in
theorem c_X7_readNumber_s {G : uk_D} (hs : uk_Sep G) {u : uk_Mem} (hu : iv u) (lo : Int32) (hi : Int32) (f : Nat → Int32) (N : Int32) (a : PS) (p0 : Sr f N u a) (p1 : lo = 0) (d : Nat) : uk_Meth G (d + 2) mX7_readNumber [.ref (uk_ad G 60), .int lo, .int hi] u (q_X7_readNumber_s u lo hi f N a) := by
  refine uk_Meth.of hs (by decide) (Nat.le_of_ble_eq_true rfl) (fun X => ?_)
  have f0 : fk [60] [3, 7, 10, 11, 13, 22, 28] u u := fk_rf
  obtain ⟨t1, Tt1⟩ : ∃ t, u.1 60 14 = t := ⟨_, rfl⟩
  obtain ⟨t2, Tt2⟩ : ∃ t, u.1 60 15 = t := ⟨_, rfl⟩
  obtain ⟨t3, Tt3⟩ : ∃ t, u.1 60 18 = t := ⟨_, rfl⟩
  have hN : N ≤ 160 := by rw [← p0.2.1]; exact (iv_at hu 60 13 rfl).2
  refine g_aload_n dX7_readNumber_0 rfl ?_
  refine g_iload_n dX7_readNumber_1 rfl ?_
  refine g_iload_n dX7_readNumber_2 rfl ?_
  refine cl_X7_129 (c := 60) (As := [.int lo, .int hi]) rfl (c_X7_looked_s (G := G) hs hu  lo hi  (d)) rfl (by omega) rfl rfl (Nat.le_of_ble_eq_true rfl) dX7_readNumber_3 (fun r4 u5 q6 => ?_)
  obtain ⟨⟨x7, rfl, tx7⟩, mq6⟩ := q6
  obtain ⟨hu5, gu5, ku50⟩ := mq6
  have fu5 : fk [60] [3, 7, 10, 11, 13, 22, 28] u u5 := fk_tr f0 gu5 (by decide) (by decide)
  have T8 : u5.1 60 14 = t1 := (fk_at gu5 (by decide)).trans Tt1
  have T9 : u5.1 60 15 = t2 := (fk_at gu5 (by decide)).trans Tt2
  obtain ⟨t10, Tt10⟩ : ∃ t, u5.1 60 18 = t := ⟨_, rfl⟩
  have Rt10 : 0 ≤ t10 ∧ t10 ≤ 6 := by rw [← Tt10]; exact iv_at hu5 _ _ rfl
  refine g_istore_n dX7_readNumber_6 (by decide) ?_
  refine g_pick (lv' := [(0, .ref (uk_ad G 60)), (1, .int lo), (2, .int hi), (3, .int x7)]) [0, 1, 2, 3] rfl ?_
  refine g_aload_n dX7_readNumber_7 rfl ?_
  refine cl_X7_133 (c := 60) (As := []) rfl (c_X7_next_s (G := G) hs hu5    (d)) rfl (by omega) rfl rfl (Nat.le_of_ble_eq_true rfl) dX7_readNumber_8 (fun r11 u12 q13 => ?_)
  obtain ⟨rfl, mq13⟩ := q13
  obtain ⟨hu12, gu12, ku120, ku121, ku122, ku123, ku124, ku125⟩ := mq13
  have fu12 : fk [60] [3, 7, 10, 11, 13, 22, 28] u u12 := fk_tr fu5 gu12 (by decide) (by decide)
  obtain ⟨t14, Tt14⟩ : ∃ t, u12.1 60 14 = t := ⟨_, rfl⟩
  have Rt14 : 0 ≤ t14 ∧ t14 ≤ 160 := by rw [← Tt14]; exact iv_at hu12 _ _ rfl
  obtain ⟨t15, Tt15⟩ : ∃ t, u12.1 60 15 = t := ⟨_, rfl⟩
  have Rt15 : 0 ≤ t15 ∧ t15 ≤ 160 := by rw [← Tt15]; exact iv_at hu12 _ _ rfl
  obtain ⟨t16, Tt16⟩ : ∃ t, u12.1 60 18 = t := ⟨_, rfl⟩
  have Rt16 : 0 ≤ t16 ∧ t16 ≤ 6 := by rw [← Tt16]; exact iv_at hu12 _ _ rfl
  refine g_iload_n dX7_readNumber_11 rfl ?_
  exact g_iret (ty := .int) dX7_readNumber_12 rfl rfl ⟨⟨_, rfl, ⟨by first | trivial | lia | grind, (Sr_num hN p0 (by rw [← p1]; exact tx7.2) ⟨ku124, fun q => ⟨(ku125 q).2.2.2.2.1, (ku125 q).2.2.2.2.2⟩⟩ (fk_at gu5 (by decide)) (fk_at gu5 (by decide)) (fk_c gu5 (by decide)) (fk_at gu12 (by decide)) (fk_c gu12 (by decide))).2⟩⟩, hu12, fu12, (by first | rfl | (rw [Tt16]; grind) | rw [Tt16]), (by first | rfl | (rw [Tt16, Tt15, Tt14]; grind) | rw [Tt16, Tt15, Tt14]), (Sr_num hN p0 (by rw [← p1]; exact tx7.2) ⟨ku124, fun q => ⟨(ku125 q).2.2.2.2.1, (ku125 q).2.2.2.2.2⟩⟩ (fk_at gu5 (by decide)) (fk_at gu5 (by decide)) (fk_c gu5 (by decide)) (fk_at gu12 (by decide)) (fk_c gu12 (by decide))).1⟩
abbrev q_X7_is_s (u : uk_Mem) (n : Int32) (a : Int32) (b : Int32) (c : Int32) (r : Option Value) (u' : uk_Mem) : Prop := (∃ x : Int32, r = some (.int x) ∧ (x = 0 ∨ x = 1) ∧ (¬ x = 0 → (u.1 60 14 - u.1 60 15 = n ∧ u.1 69 (u.1 60 15).toNatClampNeg = a ∧ u.1 69 (u.1 60 15 + 1).toNatClampNeg = b ∧ u.1 69 (u.1 60 15 + 2).toNatClampNeg = c)) ∧ (x = 0 → ¬ (u.1 60 14 - u.1 60 15 = n ∧ u.1 69 (u.1 60 15).toNatClampNeg = a ∧ u.1 69 (u.1 60 15 + 1).toNatClampNeg = b ∧ u.1 69 (u.1 60 15 + 2).toNatClampNeg = c))) ∧ (u' = u)
