abbrev q_X7_byteAt_s (u : uk_Mem) (p : Int32) (r : Option Value) (u' : uk_Mem) : Prop := (∃ x : Int32, r = some (.int x) ∧ ((x = -1 ∧ u.1 60 13 ≤ p) ∨ (p < u.1 60 13 ∧ 0 ≤ x ∧ x = u.1 69 p.toNatClampNeg))) ∧ (u' = u)
set_option maxHeartbeats 4000000 in
set_option maxRecDepth 20000 in
theorem c_X7_byteAt_s {G : uk_D} (hs : uk_Sep G) {u : uk_Mem} (hu : iv u) (p : Int32) (p0 : 0 ≤ p) (d : Nat) : uk_Meth G d mX7_byteAt [.ref (uk_ad G 60), .int p] u (q_X7_byteAt_s u p) := by
  refine uk_Meth.of hs (by decide) (Nat.le_of_ble_eq_true rfl) (fun X => ?_)
  refine g_iload_n dX7_byteAt_0 rfl ?_
  refine g_aload_n dX7_byteAt_1 rfl ?_
  refine f_X7_88 rfl rfl dX7_byteAt_2 ?_
  refine g_topi (fun x1 ex1 => ?_)
  have rx1 : 0 ≤ x1 ∧ x1 ≤ 160 := by rw [ex1]; exact iv_at hu _ _ rfl
  have s2 : u.1 60 13 = x1 := ex1.symm
  refine g_icmp_ge (tgt := 17) dX7_byteAt_5 (by decide) (fun c3 => ?_) (fun c3 => ?_)
  · refine g_iconst (v := (-1)) dX7_byteAt_17 (by decide) ?_
    exact g_iret (ty := .int) dX7_byteAt_18 rfl rfl ⟨⟨_, rfl, by first | trivial | lia | grind⟩, rfl⟩
  · refine g_aload_n dX7_byteAt_8 rfl ?_
    refine f_X7_35 rfl rfl dX7_byteAt_9 ?_
    refine g_iload_n dX7_byteAt_12 rfl ?_
    have v4 : vp_in p 160 := uk_vin 160 rfl (by first | decide | lia | grind) (by first | decide | lia | grind)
    refine g_iald rfl rfl v4 dX7_byteAt_13 ?_
    refine g_topi (fun x5 ex5 => ?_)
    have bx5 := uk_cl v4
    have rx5 : 0 ≤ x5 ∧ x5 ≤ 127 := by rw [ex5]; exact iv_at hu _ _ (uk_pick1 _ (by omega))
    refine g_goto (tgt := 18) dX7_byteAt_14 (by decide) ?_
    exact g_iret (ty := .int) dX7_byteAt_18 rfl rfl ⟨⟨_, rfl, by first | trivial | lia | grind⟩, rfl⟩
abbrev q_X7_needs_s (u : uk_Mem) (b : Int32) (e : Int32) (r : Option Value) (u' : uk_Mem) : Prop := (r = none) ∧ (iv u' ∧ fk [60] [3, 7, 10, 11, 13, 14, 15, 16, 17, 22, 28] u u' ∧ (u'.1 60 18 = 0 → u.1 60 18 = 0 ∧ ¬ b = 0) ∧ (u.1 60 18 = 0 → b = 0 → u'.1 60 18 = e ∧ u'.1 60 19 = u.1 60 15) ∧ (¬ (u.1 60 18 = 0 ∧ b = 0) → u'.1 60 18 = u.1 60 18 ∧ u'.1 60 19 = u.1 60 19))
set_option maxHeartbeats 4000000 in
set_option maxRecDepth 20000 in
theorem c_X7_needs_s {G : uk_D} (hs : uk_Sep G) {u : uk_Mem} (hu : iv u) (b : Int32) (e : Int32) (p0 : 1 ≤ e) (p1 : e ≤ 6) (d : Nat) : uk_Meth G d mX7_needs [.ref (uk_ad G 60), .int b, .int e] u (q_X7_needs_s u b e) := by
  refine uk_Meth.of hs (by decide) (Nat.le_of_ble_eq_true rfl) (fun X => ?_)
  have f0 : fk [60] [3, 7, 10, 11, 13, 14, 15, 16, 17, 22, 28] u u := fk_rf
  obtain ⟨t1, Tt1⟩ : ∃ t, u.1 60 15 = t := ⟨_, rfl⟩
  obtain ⟨t2, Tt2⟩ : ∃ t, u.1 60 18 = t := ⟨_, rfl⟩
  obtain ⟨t3, Tt3⟩ : ∃ t, u.1 60 19 = t := ⟨_, rfl⟩
  refine g_iload_n dX7_needs_0 rfl ?_
  refine g_if_ne (tgt := 24) dX7_needs_1 (by decide) (fun c4 => ?_) (fun c4 => ?_)
  · exact g_vret dX7_needs_24 rfl ⟨rfl, hu, f0, (by rw [Tt2]; grind), (by rw [Tt2, Tt3]; grind), (by rw [Tt2, Tt3]; grind)⟩
  · refine g_aload_n dX7_needs_4 rfl ?_
    refine f_X7_91 rfl rfl dX7_needs_5 ?_
    refine g_topi (fun x5 ex5 => ?_)
    have rx5 : 0 ≤ x5 ∧ x5 ≤ 6 := by rw [ex5]; exact iv_at hu _ _ rfl
    have qx5 : x5 = t2 := ex5.trans Tt2
    refine g_if_ne (tgt := 24) dX7_needs_8 (by decide) (fun c6 => ?_) (fun c6 => ?_)
    · exact g_vret dX7_needs_24 rfl ⟨rfl, hu, f0, (by rw [Tt2]; grind), (by rw [Tt2, Tt3]; grind), (by rw [Tt2, Tt3]; grind)⟩
    · refine g_aload_n dX7_needs_11 rfl ?_
      refine g_iload_n dX7_needs_12 rfl ?_
      refine p_X7_91 rfl rfl dX7_needs_13 ?_
      refine g_mem (fun u7 eu7 => ?_)
      have hu7 : iv u7 := by rw [eu7]; exact iv_up hu rfl (by first | lia | grind) (by first | lia | grind)
      have fu7 : fk [60] [3, 7, 10, 11, 13, 14, 15, 16, 17, 22, 28] u u7 := by rw [eu7]; exact fk_up f0 (by decide) (fun _ => by decide)
      have s8 : u7.1 60 18 = e := by rw [eu7, uk_up_at]; exact if_pos ⟨rfl, rfl⟩
      have T9 : u7.1 60 15 = t1 := by rw [eu7, uk_up_at, if_neg (by decide)]; exact Tt1
      have T10 : u7.1 60 19 = t3 := by rw [eu7, uk_up_at, if_neg (by decide)]; exact Tt3
      refine g_aload_n dX7_needs_16 rfl ?_
      refine g_aload_n dX7_needs_17 rfl ?_
      refine f_X7_94 rfl rfl dX7_needs_18 ?_
      refine g_topi (fun x11 ex11 => ?_)
      have rx11 : 0 ≤ x11 ∧ x11 ≤ 160 := by rw [ex11]; exact iv_at hu7 _ _ rfl
      have qx11 : x11 = t1 := ex11.trans T9
      refine p_X7_97 rfl rfl dX7_needs_21 ?_
      refine g_mem (fun u12 eu12 => ?_)
      have hu12 : iv u12 := by rw [eu12]; exact iv_upF hu7 rfl
      have fu12 : fk [60] [3, 7, 10, 11, 13, 14, 15, 16, 17, 22, 28] u u12 := by rw [eu12]; exact fk_up fu7 (by decide) (fun _ => by decide)
      have s13 : u12.1 60 19 = x11 := by rw [eu12, uk_up_at]; exact if_pos ⟨rfl, rfl⟩
      have T14 : u12.1 60 15 = t1 := by rw [eu12, uk_up_at, if_neg (by decide)]; exact T9
      have T15 : u12.1 60 18 = e := by rw [eu12, uk_up_at, if_neg (by decide)]; exact s8
      exact g_vret dX7_needs_24 rfl ⟨rfl, hu12, fu12, (by rw [T15]; grind), (by rw [T15, s13]; grind), (by rw [T15, s13]; grind)⟩
