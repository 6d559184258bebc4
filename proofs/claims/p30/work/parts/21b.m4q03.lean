abbrev q_X7_rule (u : uk_Mem) (w : Int32) (r : Option Value) (u' : uk_Mem) : Prop := (∃ x : Int32, r = some (.int x) ∧ True) ∧ (u' = u)
abbrev q_X7_stuff (u : uk_Mem) (m : Int32) (w : Int32) (r : Option Value) (u' : uk_Mem) : Prop := (∃ x : Int32, r = some (.int x) ∧ True) ∧ (u' = u)
abbrev q_X7_becomes (u : uk_Mem) (k : Int32) (v : Int32) (r : Option Value) (u' : uk_Mem) : Prop := (∃ x : Int32, r = some (.int x) ∧ True) ∧ (iv u' ∧ fk [61] [] u u' ∧ u' = uk_up u 61 k.toNatClampNeg v)
abbrev q_X7_fill (u : uk_Mem) (m : Int32) (n : Int32) (r : Option Value) (u' : uk_Mem) : Prop := (∃ x : Int32, r = some (.int x) ∧ True) ∧ (iv u' ∧ fk [61] [] u u' ∧ ri u')
abbrev q_X7_feeds (u : uk_Mem) (m : Int32) (v : Int32) (r : Option Value) (u' : uk_Mem) : Prop := (∃ x : Int32, r = some (.int x) ∧ True) ∧ (iv u' ∧ fk [61] [] u u' ∧ ri u')
abbrev q_X7_price (u : uk_Mem) (m : Int32) (v : Int32) (r : Option Value) (u' : uk_Mem) : Prop := (∃ x : Int32, r = some (.int x) ∧ True) ∧ (iv u' ∧ fk [61] [] u u' ∧ ri u')
abbrev q_X7_kind (u : uk_Mem) (m : Int32) (k : Int32) (r : Option Value) (u' : uk_Mem) : Prop := (∃ x : Int32, r = some (.int x) ∧ True) ∧ (iv u' ∧ fk [61] [] u u' ∧ ri u')
abbrev q_X7_does (u : uk_Mem) (g : Int32) (r : Option Value) (u' : uk_Mem) : Prop := (∃ x : Int32, r = some (.int x) ∧ True) ∧ (iv u' ∧ fk [61, 62] [] u u' ∧ ri u')
abbrev q_X7_eat (u : uk_Mem) (m : Int32) (r : Option Value) (u' : uk_Mem) : Prop := (∃ x : Int32, r = some (.int x) ∧ True) ∧ (iv u' ∧ fk [61] [] u u' ∧ ri u')
abbrev q_X7_can (u : uk_Mem) (w : Int32) (r : Option Value) (u' : uk_Mem) : Prop := (∃ x : Int32, r = some (.int x) ∧ True) ∧ (iv u' ∧ fk [62] [] u u' ∧ ri u')
abbrev q_X7_isSheet (u : uk_Mem) (k : Int32) (l : Int32) (r : Option Value) (u' : uk_Mem) : Prop := (∃ x : Int32, r = some (.int x) ∧ (x = 0 ∨ x = 1) ∧ (¬ x = 0 → 0 ≤ k ∧ k ≤ 3 ∧ 0 ≤ l ∧ l ≤ 2) ∧ (x = 0 → True)) ∧ (u' = u)
abbrev q_X7_sheet (u : uk_Mem) (k : Int32) (l : Int32) (n : Int32) (r : Option Value) (u' : uk_Mem) : Prop := (∃ x : Int32, r = some (.int x) ∧ True) ∧ (iv u' ∧ fk [74, 75, 76] [] u u')
abbrev q_X7_lay (u : uk_Mem) (k : Int32) (i : Int32) (v : Int32) (r : Option Value) (u' : uk_Mem) : Prop := (∃ x : Int32, r = some (.int x) ∧ True) ∧ (iv u' ∧ fk [76] [] u u')
abbrev q_X7_baseTo (u : uk_Mem) (n : Int32) (r : Option Value) (u' : uk_Mem) : Prop := (∃ x : Int32, r = some (.int x) ∧ (1 ≤ x ∧ x ≤ 65536)) ∧ (u' = u)
set_option maxHeartbeats 4000000 in
set_option maxRecDepth 20000 in
theorem c_X7_baseTo {G : uk_D} (hs : uk_Sep G) {u : uk_Mem} (hu : iv u) (n : Int32) (p0 : n ≤ 4) (d : Nat) : uk_Meth G d mX7_baseTo [.ref (uk_ad G 60), .int n] u (q_X7_baseTo u n) := by
  refine uk_Meth.of hs (by decide) (Nat.le_of_ble_eq_true rfl) (fun X => ?_)
  refine g_iconst (v := 1) dX7_baseTo_0 (by decide) ?_
  refine g_istore_n dX7_baseTo_1 (by decide) ?_
  refine g_pick (lv' := [(0, .ref (uk_ad G 60)), (1, .int n), (2, .int 1)]) [0, 1, 2] rfl ?_
  refine g_iconst (v := 0) dX7_baseTo_2 (by decide) ?_
  refine g_istore_n dX7_baseTo_3 (by decide) ?_
  refine g_pick (lv' := [(0, .ref (uk_ad G 60)), (1, .int n), (2, .int 1), (3, .int 0)]) [0, 1, 2, 3] rfl ?_
  have L4_0 : ∀ i3 : Int32, 0 ≤ i3 → i3 ≤ 4 → ∀ (w2 : Int32), ((i3 = 0 ∧ w2 = 1) ∨ (i3 = 1 ∧ w2 = 16) ∨ (i3 = 2 ∧ w2 = 256) ∨ (i3 = 3 ∧ w2 = 4096) ∨ (i3 = 4 ∧ w2 = 65536)) → (i3 = 0 ∨ i3 ≤ n) → uk_G G X mX7_baseTo d (q_X7_baseTo u n) 4 [(0, .ref (uk_ad G 60)), (1, .int n), (2, .int w2), (3, .int i3)] [] u := by
    refine uk_upl 4 ?_
    intro i3 ai3 bi3 ihi3 w2 ji30 ji31
    refine g_iload_n dX7_baseTo_4 rfl ?_
    refine g_iload_n dX7_baseTo_5 rfl ?_
    refine g_icmp_ge (tgt := 20) dX7_baseTo_6 (by decide) (fun c4 => ?_) (fun c4 => ?_)
    · refine g_iload_n dX7_baseTo_20 rfl ?_
      exact g_iret (ty := .int) dX7_baseTo_21 rfl rfl ⟨⟨_, rfl, by first | trivial | lia | grind⟩, rfl⟩
    · refine g_iload_n dX7_baseTo_9 rfl ?_
      refine g_bipush (v := 16) dX7_baseTo_10 (by decide) ?_
      refine g_imul dX7_baseTo_12 ?_
      refine g_topi (fun x5 ex5 => ?_)
      refine g_istore_n dX7_baseTo_13 (by decide) ?_
      refine g_pick (lv' := [(0, .ref (uk_ad G 60)), (1, .int n), (2, .int x5), (3, .int i3)]) [0, 1, 2, 3] rfl ?_
      refine g_iinc (v := i3 + 1) dX7_baseTo_14 rfl rfl (by decide) ?_
      refine g_pick (lv' := [(0, .ref (uk_ad G 60)), (1, .int n), (2, .int x5), (3, .int (i3 + 1))]) [0, 1, 2, 3] rfl ?_
      refine g_goto (tgt := 4) dX7_baseTo_17 (by decide) ?_
      refine g_pick (lv' := [(0, .ref (uk_ad G 60)), (1, .int n), (2, .int x5), (3, .int (i3 + 1))]) [0, 1, 2, 3] rfl ?_
      exact ihi3 (by first | lia | grind) x5 (by first | trivial | lia | grind) (by first | trivial | lia | grind)
  refine g_pick (lv' := [(0, .ref (uk_ad G 60)), (1, .int n), (2, .int 1), (3, .int 0)]) [0, 1, 2, 3] rfl ?_
  exact L4_0 0 (by first | decide | lia | grind) (by first | decide | lia | grind) 1 (by first | trivial | lia | grind) (by first | trivial | lia | grind)
