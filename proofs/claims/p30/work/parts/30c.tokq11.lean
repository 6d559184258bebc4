abbrev q_X4_rewind_s (u : uk_Mem)  (r : Option Value) (u' : uk_Mem) : Prop := (r = none) ∧ (iv u' ∧ fr 2 3 u u' ∧ u'.1 2 1 = u.1 2 1 ∧ u'.1 2 2 = 0)
set_option maxHeartbeats 4000000 in
set_option maxRecDepth 20000 in
theorem c_X4_rewind_s {G : uk_D} (hs : uk_Sep G) {u : uk_Mem} (hu : iv u)  (d : Nat) : uk_Meth G d mX4_rewind [.ref (uk_ad G 2)] u (q_X4_rewind_s u) := by
  refine uk_Meth.of hs (by decide) (Nat.le_of_ble_eq_true rfl) (fun X => ?_)
  have f0 : fr 2 3 u u := fr_rf
  refine g_aload_n dX4_rewind_0 rfl ?_
  refine g_iconst (v := 0) dX4_rewind_1 (by decide) ?_
  refine p_X4_19 rfl rfl dX4_rewind_2 ?_
  refine g_mem (fun u1 eu1 => ?_)
  have hu1 : iv u1 := by rw [eu1]; exact iv_up hu rfl (by first | lia | grind) (by first | lia | grind)
  have fu1 : fr 2 3 u u1 := by rw [eu1]; exact fr_up f0 (by omega) (by omega)
  have s2 : u1.1 2 2 = 0 := by rw [eu1, uk_up_at]; exact if_pos ⟨rfl, rfl⟩
  refine g_aload_n dX4_rewind_5 rfl ?_
  refine g_iconst (v := 0) dX4_rewind_6 (by decide) ?_
  refine p_X4_22 rfl rfl dX4_rewind_7 ?_
  refine g_mem (fun u3 eu3 => ?_)
  have hu3 : iv u3 := by rw [eu3]; exact iv_upF hu1 rfl
  have fu3 : fr 2 3 u u3 := by rw [eu3]; exact fr_up fu1 (by omega) (by omega)
  have s4 : u3.1 2 3 = 0 := by rw [eu3, uk_up_at]; exact if_pos ⟨rfl, rfl⟩
  refine g_aload_n dX4_rewind_10 rfl ?_
  refine g_iconst (v := 0) dX4_rewind_11 (by decide) ?_
  refine p_X4_25 rfl rfl dX4_rewind_12 ?_
  refine g_mem (fun u5 eu5 => ?_)
  have hu5 : iv u5 := by rw [eu5]; exact iv_up hu3 rfl (by first | lia | grind) (by first | lia | grind)
  have fu5 : fr 2 3 u u5 := by rw [eu5]; exact fr_up fu3 (by omega) (by omega)
  have s6 : u5.1 2 4 = 0 := by rw [eu5, uk_up_at]; exact if_pos ⟨rfl, rfl⟩
  refine g_aload_n dX4_rewind_15 rfl ?_
  refine g_iconst (v := 0) dX4_rewind_16 (by decide) ?_
  refine p_X4_28 rfl rfl dX4_rewind_17 ?_
  refine g_mem (fun u7 eu7 => ?_)
  have hu7 : iv u7 := by rw [eu7]; exact iv_upF hu5 rfl
  have fu7 : fr 2 3 u u7 := by rw [eu7]; exact fr_up fu5 (by omega) (by omega)
  have s8 : u7.1 2 5 = 0 := by rw [eu7, uk_up_at]; exact if_pos ⟨rfl, rfl⟩
  exact g_vret dX4_rewind_20 rfl ⟨rfl, hu7, fu7, (by grind [uk_up_at]), (by grind [uk_up_at])⟩
