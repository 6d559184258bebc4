def e_X7_torn (u : uk_Mem) : Int32 := let x1 : Int32 := u.1 60 28; x1
abbrev qe_X7_torn (u : uk_Mem)  (r : Option Value) (u' : uk_Mem) : Prop := (q_X7_torn u r u') ∧ (r = some (.int (e_X7_torn u)))
set_option maxHeartbeats 4000000 in
set_option maxRecDepth 20000 in
theorem x_X7_torn {G : uk_D} (hs : uk_Sep G) {u : uk_Mem} (hu : iv u)  (d : Nat) : uk_Meth G d mX7_torn [.ref (uk_ad G 60)] u (qe_X7_torn u) := by
  refine uk_Meth.of hs (by decide) (Nat.le_of_ble_eq_true rfl) (fun X => ?_)
  refine g_aload_n dX7_torn_0 rfl ?_
  refine f_X7_281 rfl rfl dX7_torn_1 ?_
  refine g_topi (fun x1 ex1 => ?_)
  have s2 : u.1 60 28 = x1 := ex1.symm
  exact g_iret (ty := .int) dX7_torn_4 rfl rfl ⟨⟨⟨_, rfl, by first | trivial | lia | grind⟩, rfl⟩, ee_p (by subst ex1; exact rfl)⟩

