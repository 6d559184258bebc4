theorem TK_v {f : Nat → Int32} {n p s t v q : Int32} (hn : n ≤ 160) (h0 : 0 ≤ p) (h : TK f n p s t v q) (ht : t = 2) : 0 ≤ v ∧ v ≤ 99 := by
  obtain ⟨h1, h2, h3⟩ := h
  have s0 : 0 ≤ s := by have := h1.1; lia
  rcases h3 with ⟨a, b, c⟩ | ⟨a, b, c, d, e⟩ | ⟨a, b, c, d, e⟩ | ⟨a, b, c, d⟩ | ⟨a, b, c, d, e, g⟩
  · exact absurd (b.symm.trans ht) (by decide)
  · exact absurd (c.symm.trans ht) (by decide)
  · have hp := rn_pos c d a b
    rcases e with ⟨e1, -, e3⟩ | ⟨e1, e2⟩
    · unfold dig at b
      by_cases z : q = s + 1
      · have := e3.1 z
        grind
      · have z2 : q = s + 2 := by lia
        have w := (c.2 (s + 1) (by lia) (by lia)).2
        unfold dig at w
        have := e3.2 z2
        grind
    · exact absurd (e2.symm.trans ht) (by decide)
  · exact absurd (c.symm.trans ht) (by decide)
  · exact absurd (e.symm.trans ht) (by decide)
theorem TK_0 {f : Nat → Int32} {n p s v : Int32} (h : rn e32 f n p s) (h2 : ¬ s < n) : TK f n p s 0 v s := ⟨h, fun z => h2 z.1, Or.inl ⟨h2, rfl, rfl⟩⟩
theorem TK_le {f : Nat → Int32} {n p s t v q : Int32} (hn : n ≤ 160) (h0 : 0 ≤ p) (h : TK f n p s t v q) : p ≤ s ∧ s ≤ q := by
  obtain ⟨h1, h2, h3⟩ := h
  refine ⟨h1.1, ?_⟩
  have := h1.1
  rcases h3 with ⟨a, b, rfl⟩ | ⟨a, b, c, d, e⟩ | ⟨a, b, c, d, e⟩ | ⟨a, b, c, d, rfl⟩ | ⟨a, b, c, d, e, rfl⟩
  · grind
  · exact d.1
  · exact c.1
  · lia
  · lia
theorem TK_q {f : Nat → Int32} {n p s t v q : Int32} (hn : n ≤ 160) (h0 : 0 ≤ p) (h : TK f n p s t v q) : t = 1 → 0 ≤ s ∧ q ≤ n ∧ n ≤ 160 ∧ s ≤ n := by
  intro ht
  obtain ⟨h1, h2, h3⟩ := h
  have s0 : 0 ≤ s := by have := h1.1; lia
  rcases h3 with ⟨a, b, c⟩ | ⟨a, b, c, d, e⟩ | ⟨a, b, c, d, e⟩ | ⟨a, b, c, d⟩ | ⟨a, b, c, d, e, g⟩
  · exact absurd (b.symm.trans ht) (by decide)
  · refine ⟨s0, ?_, hn, by grind⟩
    have hp := rn_pos d e a b
    have := (d.2 (q - 1) (by lia) (by lia)).1
    lia
  · rcases e with ⟨-, e, -⟩ | ⟨-, e⟩ <;> exact absurd (e.symm.trans ht) (by decide)
  · exact absurd (c.symm.trans ht) (by decide)
  · exact absurd (e.symm.trans ht) (by decide)
theorem nmj_cg {f g : Nat → Int32} {n s q : Int32} {j : Nat} (h : cpy f g n) (hs : 0 ≤ s) (hq : q ≤ n) (hn : n ≤ 160) (hsn : s ≤ n) (hj : j < 6) (hm : nmj f s q j) : nmj g s q j := by
  obtain ⟨a, b⟩ := hm
  refine ⟨a, fun i i0 i1 => ?_⟩
  have sl := (uk_slen hj).2
  have h1 : 0 ≤ s + i ∧ s + i < n := by
    generalize Int32.ofNat (uk_sLen.getD j 0) = w at *
    rcases sl with e | e <;> subst e <;> constructor <;> lia
  rw [← h (s + i) h1.1 h1.2]
  exact b i i0 i1
theorem cpy_sy {f g : Nat → Int32} {n : Int32} (h : cpy f g n) : cpy g f n := fun i i0 i1 => (h i i0 i1).symm
theorem ln_cg {f g : Nat → Int32} {n s q t x : Int32} (h : cpy f g n) (hq : t = 1 → 0 ≤ s ∧ q ≤ n ∧ n ≤ 160 ∧ s ≤ n) (hl : ln f t s q x) : ln g t s q x := by
  rcases hl with ⟨j, hj, h1, h2, h3⟩ | ⟨h1, h2⟩
  · obtain ⟨a, b, c, d⟩ := hq h1
    exact Or.inl ⟨j, hj, h1, nmj_cg h a b c d hj h2, h3⟩
  · refine Or.inr ⟨fun j hj z => ?_, h2⟩
    obtain ⟨a, b, c, d⟩ := hq z.1
    exact h1 j hj ⟨z.1, nmj_cg (cpy_sy h) a b c d hj z.2⟩
abbrev q_X4_tokenFrom_s (u : uk_Mem) (c : Int32) (r : Option Value) (u' : uk_Mem) : Prop := (∃ x : Int32, r = some (.int x) ∧ tf c x) ∧ (u' = u)
set_option maxHeartbeats 4000000 in
set_option maxRecDepth 20000 in
theorem c_X4_tokenFrom_s {G : uk_D} (hs : uk_Sep G) {u : uk_Mem} (hu : iv u) (c : Int32) (d : Nat) : uk_Meth G d mX4_tokenFrom [.int c] u (q_X4_tokenFrom_s u c) := by
  refine uk_Meth.of hs (by decide) (Nat.le_of_ble_eq_true rfl) (fun X => ?_)
  refine g_iload_n dX4_tokenFrom_0 rfl ?_
  refine g_bipush (v := 97) dX4_tokenFrom_1 (by decide) ?_
  refine g_icmp_lt (tgt := 14) dX4_tokenFrom_3 (by decide) (fun c1 => ?_) (fun c1 => ?_)
  · refine g_iload_n dX4_tokenFrom_14 rfl ?_
    refine g_bipush (v := 48) dX4_tokenFrom_15 (by decide) ?_
    refine g_icmp_lt (tgt := 28) dX4_tokenFrom_17 (by decide) (fun c2 => ?_) (fun c2 => ?_)
    · refine g_iload_n dX4_tokenFrom_28 rfl ?_
      refine g_bipush (v := 59) dX4_tokenFrom_29 (by decide) ?_
      refine g_icmp_ne (tgt := 38) dX4_tokenFrom_31 (by decide) (fun c3 => ?_) (fun c3 => ?_)
      · refine g_iconst (v := 4) dX4_tokenFrom_38 (by decide) ?_
        exact g_iret (ty := .int) dX4_tokenFrom_39 rfl rfl ⟨⟨_, rfl, Or.inr (Or.inr (Or.inr ⟨fun z => by unfold nam at z; grind, fun z => by unfold dig at z; grind, by grind, rfl⟩))⟩, rfl⟩
      · refine g_iconst (v := 3) dX4_tokenFrom_34 (by decide) ?_
        refine g_goto (tgt := 39) dX4_tokenFrom_35 (by decide) ?_
        exact g_iret (ty := .int) dX4_tokenFrom_39 rfl rfl ⟨⟨_, rfl, Or.inr (Or.inr (Or.inl ⟨by grind, rfl⟩))⟩, rfl⟩
    · refine g_iload_n dX4_tokenFrom_20 rfl ?_
      refine g_bipush (v := 57) dX4_tokenFrom_21 (by decide) ?_
      refine g_icmp_gt (tgt := 28) dX4_tokenFrom_23 (by decide) (fun c4 => ?_) (fun c4 => ?_)
      · refine g_iload_n dX4_tokenFrom_28 rfl ?_
        refine g_bipush (v := 59) dX4_tokenFrom_29 (by decide) ?_
        refine g_icmp_ne (tgt := 38) dX4_tokenFrom_31 (by decide) (fun c5 => ?_) (fun c5 => ?_)
        · refine g_iconst (v := 4) dX4_tokenFrom_38 (by decide) ?_
          exact g_iret (ty := .int) dX4_tokenFrom_39 rfl rfl ⟨⟨_, rfl, Or.inr (Or.inr (Or.inr ⟨fun z => by unfold nam at z; grind, fun z => by unfold dig at z; grind, by grind, rfl⟩))⟩, rfl⟩
        · refine g_iconst (v := 3) dX4_tokenFrom_34 (by decide) ?_
          refine g_goto (tgt := 39) dX4_tokenFrom_35 (by decide) ?_
          exact g_iret (ty := .int) dX4_tokenFrom_39 rfl rfl ⟨⟨_, rfl, Or.inr (Or.inr (Or.inl ⟨by grind, rfl⟩))⟩, rfl⟩
      · refine g_iconst (v := 2) dX4_tokenFrom_26 (by decide) ?_
        exact g_iret (ty := .int) dX4_tokenFrom_27 rfl rfl ⟨⟨_, rfl, Or.inr (Or.inl ⟨⟨by grind, by grind⟩, rfl⟩)⟩, rfl⟩
  · refine g_iload_n dX4_tokenFrom_6 rfl ?_
    refine g_bipush (v := 122) dX4_tokenFrom_7 (by decide) ?_
    refine g_icmp_gt (tgt := 14) dX4_tokenFrom_9 (by decide) (fun c6 => ?_) (fun c6 => ?_)
    · refine g_iload_n dX4_tokenFrom_14 rfl ?_
      refine g_bipush (v := 48) dX4_tokenFrom_15 (by decide) ?_
      refine g_icmp_lt (tgt := 28) dX4_tokenFrom_17 (by decide) (fun c7 => ?_) (fun c7 => ?_)
      · refine g_iload_n dX4_tokenFrom_28 rfl ?_
        refine g_bipush (v := 59) dX4_tokenFrom_29 (by decide) ?_
        refine g_icmp_ne (tgt := 38) dX4_tokenFrom_31 (by decide) (fun c8 => ?_) (fun c8 => ?_)
        · refine g_iconst (v := 4) dX4_tokenFrom_38 (by decide) ?_
          exact g_iret (ty := .int) dX4_tokenFrom_39 rfl rfl ⟨⟨_, rfl, Or.inr (Or.inr (Or.inr ⟨fun z => by unfold nam at z; grind, fun z => by unfold dig at z; grind, by grind, rfl⟩))⟩, rfl⟩
        · refine g_iconst (v := 3) dX4_tokenFrom_34 (by decide) ?_
          refine g_goto (tgt := 39) dX4_tokenFrom_35 (by decide) ?_
          exact g_iret (ty := .int) dX4_tokenFrom_39 rfl rfl ⟨⟨_, rfl, Or.inr (Or.inr (Or.inl ⟨by grind, rfl⟩))⟩, rfl⟩
      · refine g_iload_n dX4_tokenFrom_20 rfl ?_
        refine g_bipush (v := 57) dX4_tokenFrom_21 (by decide) ?_
        refine g_icmp_gt (tgt := 28) dX4_tokenFrom_23 (by decide) (fun c9 => ?_) (fun c9 => ?_)
        · refine g_iload_n dX4_tokenFrom_28 rfl ?_
          refine g_bipush (v := 59) dX4_tokenFrom_29 (by decide) ?_
          refine g_icmp_ne (tgt := 38) dX4_tokenFrom_31 (by decide) (fun c10 => ?_) (fun c10 => ?_)
          · refine g_iconst (v := 4) dX4_tokenFrom_38 (by decide) ?_
            exact g_iret (ty := .int) dX4_tokenFrom_39 rfl rfl ⟨⟨_, rfl, Or.inr (Or.inr (Or.inr ⟨fun z => by unfold nam at z; grind, fun z => by unfold dig at z; grind, by grind, rfl⟩))⟩, rfl⟩
          · refine g_iconst (v := 3) dX4_tokenFrom_34 (by decide) ?_
            refine g_goto (tgt := 39) dX4_tokenFrom_35 (by decide) ?_
            exact g_iret (ty := .int) dX4_tokenFrom_39 rfl rfl ⟨⟨_, rfl, Or.inr (Or.inr (Or.inl ⟨by grind, rfl⟩))⟩, rfl⟩
        · refine g_iconst (v := 2) dX4_tokenFrom_26 (by decide) ?_
          exact g_iret (ty := .int) dX4_tokenFrom_27 rfl rfl ⟨⟨_, rfl, Or.inr (Or.inl ⟨⟨by grind, by grind⟩, rfl⟩)⟩, rfl⟩
    · refine g_iconst (v := 1) dX4_tokenFrom_12 (by decide) ?_
      exact g_iret (ty := .int) dX4_tokenFrom_13 rfl rfl ⟨⟨_, rfl, Or.inl ⟨⟨by grind, by grind⟩, rfl⟩⟩, rfl⟩
