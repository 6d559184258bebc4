/-! what a doing keeps: ranges, parts -/
theorem canCook_f {v : uk_Mem} {m : Int32} (h : ¬ e_X7_canCook v m = 0) : ¬ v.1 62 m.toNatClampNeg = 40 ∧ (v.1 64 m.toNatClampNeg = v.1 65 m.toNatClampNeg → 1 < v.1 62 (v.1 64 m.toNatClampNeg).toNatClampNeg) ∧ (¬ v.1 64 m.toNatClampNeg = v.1 65 m.toNatClampNeg → 0 < v.1 62 (v.1 64 m.toNatClampNeg).toNatClampNeg ∧ 0 < v.1 62 (v.1 65 m.toNatClampNeg).toNatClampNeg) := by
  unfold e_X7_canCook at h
  dsimp only at h
  simp only [ix_0] at h
  generalize v.1 64 m.toNatClampNeg = A at *
  generalize v.1 65 m.toNatClampNeg = B at *
  generalize v.1 62 m.toNatClampNeg = x at *
  generalize v.1 62 A.toNatClampNeg = y at *
  generalize v.1 62 B.toNatClampNeg = z at *
  split at h
  · exact absurd rfl h
  · split at h
    · exact absurd rfl h
    · split at h
      · split at h
        · exact absurd rfl h
        · refine ⟨by assumption, fun _ => by grind, fun q => absurd (by assumption) q⟩
      · split at h
        · exact absurd rfl h
        · split at h
          · exact absurd rfl h
          · refine ⟨by assumption, fun q => absurd q (by assumption), fun _ => ⟨by grind, by grind⟩⟩
theorem canTurn_f {v : uk_Mem} {m : Int32} (h : ¬ e_X7_canTurn v m = 0) : ¬ v.1 62 m.toNatClampNeg = 0 ∧ (e_X7_givesSecond v m = 0 → ¬ 40 < v.1 62 (v.1 64 m.toNatClampNeg).toNatClampNeg + 1) ∧ (¬ e_X7_givesSecond v m = 0 → v.1 64 m.toNatClampNeg = v.1 65 m.toNatClampNeg → ¬ 40 < v.1 62 (v.1 64 m.toNatClampNeg).toNatClampNeg + 2) ∧ (¬ e_X7_givesSecond v m = 0 → ¬ v.1 64 m.toNatClampNeg = v.1 65 m.toNatClampNeg → ¬ 40 < v.1 62 (v.1 64 m.toNatClampNeg).toNatClampNeg + 1 ∧ ¬ 40 ≤ v.1 62 (v.1 65 m.toNatClampNeg).toNatClampNeg) := by
  unfold e_X7_canTurn at h
  dsimp only at h
  simp only [ix_0] at h
  generalize e_X7_givesSecond v m = s at *
  generalize v.1 64 m.toNatClampNeg = A at *
  generalize v.1 65 m.toNatClampNeg = B at *
  generalize v.1 62 m.toNatClampNeg = x at *
  generalize v.1 62 A.toNatClampNeg = y at *
  generalize v.1 62 B.toNatClampNeg = z at *
  by_cases hs : s = 0
  · simp only [hs, if_true] at h
    refine ⟨?_, ?_, fun q => absurd hs q, fun q => absurd hs q⟩
    · intro q
      simp [q] at h
    · intro _ q
      simp [q] at h
  · simp only [if_neg hs] at h
    by_cases hab : A = B
    · simp only [if_pos hab] at h
      refine ⟨?_, fun q => absurd q hs, ?_, fun _ q => absurd hab q⟩
      · intro q
        simp [q] at h
      · intro _ _ q
        simp [q] at h
    · simp only [if_neg hab] at h
      refine ⟨?_, fun q => absurd q hs, fun _ q => absurd q hab, fun _ _ => ⟨?_, ?_⟩⟩
      · intro q
        simp [q] at h
      · intro q
        simp [q] at h
      · intro q
        simp [q] at h
theorem iv_doIt {v : uk_Mem} {g : Int32} (hv : iv v) (hra : ra v) (hd : ¬ e_X7_isDoing v g = 0) (hc : ¬ e_X7_canDo v g = 0) : iv (e_X7_doIt v g) := by
  have hn : 0 ≤ v.1 60 3 ∧ v.1 60 3 ≤ 8 := iv_at hv 60 3 rfl
  have hdo : (0 ≤ g ∧ g < v.1 60 3) ∨ (10 ≤ g ∧ g - 10 < v.1 60 3) := Classical.byContradiction fun q => hd (by rw [isDoing_e hn, if_neg q])
  unfold e_X7_canDo at hc
  dsimp only at hc
  have e8 : ∀ i, i < 8 → uk_rg 62 i = (0, 40) := fun i h => (sg_t5 i (by omega)).trans (sg_t1 i h)
  have e41 : uk_rg 62 41 = (-2147483648, 2147483647) := rfl
  have eh : ∀ i, i < 8 → uk_rg 62 (i + 8) = (-2147483648, 2147483647) := fun i h => (sg_t5 (i + 8) (by omega)).trans (by rw [Nat.add_comm]; exact sg_t4 i (by omega))
  intro c i
  by_cases h62 : c = 62
  · subst h62
    rcases hdo with q | q
    · rw [if_neg (by lia)] at hc
      have h7 : g ≤ 7 := by lia
      have hk := canCook_k hc q.1 h7
      have hr := hra g q.1 q.2 h7
      rw [ix_32 q.1 h7] at hr
      obtain ⟨a0, a1, b0, b1⟩ := hr.resolve_left hk
      obtain ⟨f1, f2, f3⟩ := canCook_f hc
      rw [show e_X7_doIt v g = e_X7_doIt_a v g from if_pos (by lia), da_j q.1 h7 (by lia) (by lia) a0 b0 i]
      have la := uk_cln 7 7 rfl a0 (by lia)
      have lb := uk_cln 7 7 rfl b0 (by lia)
      have lg := uk_cln 7 7 rfl q.1 h7
      have na := uk_cll a0 a1
      have nb := uk_cll b0 b1
      have hab : v.1 64 g.toNatClampNeg = v.1 65 g.toNatClampNeg ↔ (v.1 64 g.toNatClampNeg).toNatClampNeg = (v.1 65 g.toNatClampNeg).toNatClampNeg := ⟨fun z => by rw [z], fun z => uk_cinj a0 b0 z⟩
      by_cases i41 : i = 41
      · rw [if_pos i41, i41, e41]
        exact ⟨uk_mn _, uk_mx _⟩
      · rw [if_neg i41]
        by_cases i8 : i < 8
        · rw [e8 i i8]
          have pi := iv_at hv 62 i (e8 i i8)
          rw [hab] at f2 f3
          generalize (v.1 64 g.toNatClampNeg).toNatClampNeg = A at *
          generalize (v.1 65 g.toNatClampNeg).toNatClampNeg = B at *
          generalize g.toNatClampNeg = M at *
          have pA := iv_at hv 62 A (e8 A (by omega))
          have pB := iv_at hv 62 B (e8 B (by omega))
          have pM := iv_at hv 62 M (e8 M (by omega))
          show 0 ≤ _ ∧ _ ≤ (40 : Int32)
          by_cases iM : i = M
          · rw [if_pos iM, if_neg (by omega), if_neg (by omega), iM]
            exact ⟨by lia, by lia⟩
          · rw [if_neg iM]
            by_cases iA : i = A
            · by_cases iB : i = B
              · rw [if_pos iA, if_pos iB, iA]
                have := f2 (by omega)
                exact ⟨by lia, by lia⟩
              · rw [if_pos iA, if_neg iB, iA]
                have := f3 (by omega)
                exact ⟨by lia, by lia⟩
            · by_cases iB : i = B
              · rw [if_neg iA, if_pos iB, iB]
                have := f3 (by omega)
                exact ⟨by lia, by lia⟩
              · rw [if_neg iA, if_neg iB]
                exact ⟨by lia, by lia⟩
        · rw [if_neg (by omega), if_neg (by omega), if_neg (by omega), show v.1 62 i + 0 - 0 - 0 = v.1 62 i by grind]
          exact hv 62 i
    · rw [if_pos q.1] at hc
      have m0 : 0 ≤ g - 10 := by lia
      have m7 : g - 10 ≤ 7 := by lia
      have hk := canTurn_k hc m0 m7
      have hr := hra (g - 10) m0 q.2 m7
      rw [ix_32 m0 m7] at hr
      obtain ⟨a0, a1, b0, b1⟩ := hr.resolve_left hk
      obtain ⟨f1, f2, f3, f4⟩ := canTurn_f hc
      rw [show e_X7_doIt v g = e_X7_doIt_b v g from if_neg (by lia), db_j q.1 (by lia) (by lia) (by lia) a0 b0 i]
      generalize g - 10 = m at *
      have la := uk_cln 7 7 rfl a0 (by lia)
      have lb := uk_cln 7 7 rfl b0 (by lia)
      have lg := uk_cln 7 7 rfl m0 m7
      have na := uk_cll a0 a1
      have nb := uk_cll b0 b1
      have hab : v.1 64 m.toNatClampNeg = v.1 65 m.toNatClampNeg ↔ (v.1 64 m.toNatClampNeg).toNatClampNeg = (v.1 65 m.toNatClampNeg).toNatClampNeg := ⟨fun z => by rw [z], fun z => uk_cinj a0 b0 z⟩
      by_cases i41 : i = 41
      · rw [if_pos i41, i41, e41]
        exact ⟨uk_mn _, uk_mx _⟩
      · rw [if_neg i41]
        by_cases ih : i = m.toNatClampNeg + 8
        · rw [if_pos ih, ih, eh _ (by omega)]
          exact ⟨uk_mn _, uk_mx _⟩
        · rw [if_neg ih]
          by_cases i8 : i < 8
          · rw [e8 i i8]
            have pi := iv_at hv 62 i (e8 i i8)
            rw [hab] at f3 f4
            generalize e_X7_givesSecond v m = s at *
            generalize (v.1 64 m.toNatClampNeg).toNatClampNeg = A at *
            generalize (v.1 65 m.toNatClampNeg).toNatClampNeg = B at *
            generalize m.toNatClampNeg = M at *
            have pA := iv_at hv 62 A (e8 A (by omega))
            have pB := iv_at hv 62 B (e8 B (by omega))
            have pM := iv_at hv 62 M (e8 M (by omega))
            show 0 ≤ _ ∧ _ ≤ (40 : Int32)
            by_cases hs : s = 0
            · have f2 := f2 hs
              rw [if_pos hs]
              by_cases iM : i = M
              · rw [if_pos iM, if_neg (by omega), if_neg (by omega), iM]
                exact ⟨by lia, by lia⟩
              · by_cases iA : i = A
                · rw [if_neg iM, if_pos iA, iA]
                  clear f3 f4
                  split
                  · exact ⟨by lia, by lia⟩
                  · exact ⟨by lia, by lia⟩
                · rw [if_neg iM, if_neg iA]
                  split
                  · exact ⟨by lia, by lia⟩
                  · exact ⟨by lia, by lia⟩
            · have f3 := f3 hs
              have f4 := f4 hs
              rw [if_neg hs]
              by_cases iM : i = M
              · rw [if_pos iM, if_neg (by omega), if_neg (by omega), iM]
                exact ⟨by lia, by lia⟩
              · by_cases iA : i = A
                · by_cases iB : i = B
                  · rw [if_neg iM, if_pos iA, if_pos iB, iA]
                    have := f3 (by omega)
                    exact ⟨by lia, by lia⟩
                  · rw [if_neg iM, if_pos iA, if_neg iB, iA]
                    have := f4 (by omega)
                    exact ⟨by lia, by lia⟩
                · by_cases iB : i = B
                  · rw [if_neg iM, if_neg iA, if_pos iB, iB]
                    have := f4 (by omega)
                    exact ⟨by lia, by lia⟩
                  · rw [if_neg iM, if_neg iA, if_neg iB]
                    exact ⟨by lia, by lia⟩
          · rw [if_neg (by omega), if_neg (by omega), if_neg (by omega), show v.1 62 i - 0 + 0 + 0 = v.1 62 i by grind]
            exact hv 62 i
  · rw [doIt_c h62]
    exact hv c i
theorem iv_ends {v : uk_Mem} (hv : iv v) : iv (e_X7_ends v) := fun c i => by
  by_cases hc : c = 61
  · subst hc
    by_cases hi : i < 51
    · rw [ends_j hi, ← sg_t5 i hi]
      exact hv 62 i
    · rw [ends_o (by omega)]
      exact hv 61 i
  · rw [ends_c hc]
    exact hv c i
/-- the kinds stay -/
theorem doIt_k {v : uk_Mem} {g : Int32} (hv : iv v) (hra : ra v) (hd : ¬ e_X7_isDoing v g = 0) (hc : ¬ e_X7_canDo v g = 0) {i : Nat} (h1 : 16 ≤ i) (h2 : ¬ i = 41) : (e_X7_doIt v g).1 62 i = v.1 62 i := by
  have hn : 0 ≤ v.1 60 3 ∧ v.1 60 3 ≤ 8 := iv_at hv 60 3 rfl
  have hdo : (0 ≤ g ∧ g < v.1 60 3) ∨ (10 ≤ g ∧ g - 10 < v.1 60 3) := Classical.byContradiction fun q => hd (by rw [isDoing_e hn, if_neg q])
  unfold e_X7_canDo at hc
  dsimp only at hc
  rcases hdo with q | q
  · rw [if_neg (by lia)] at hc
    have h7 : g ≤ 7 := by lia
    have hk := canCook_k hc q.1 h7
    have hr := hra g q.1 q.2 h7
    rw [ix_32 q.1 h7] at hr
    obtain ⟨a0, a1, b0, b1⟩ := hr.resolve_left hk
    have la := uk_cln 7 7 rfl a0 (by lia)
    have lb := uk_cln 7 7 rfl b0 (by lia)
    have lg := uk_cln 7 7 rfl q.1 h7
    rw [show e_X7_doIt v g = e_X7_doIt_a v g from if_pos (by lia), da_j q.1 h7 (by lia) (by lia) a0 b0 i, if_neg h2, if_neg (by omega), if_neg (by omega), if_neg (by omega)]
    grind
  · rw [if_pos q.1] at hc
    have m0 : 0 ≤ g - 10 := by lia
    have m7 : g - 10 ≤ 7 := by lia
    have hk := canTurn_k hc m0 m7
    have hr := hra (g - 10) m0 q.2 m7
    rw [ix_32 m0 m7] at hr
    obtain ⟨a0, a1, b0, b1⟩ := hr.resolve_left hk
    have la := uk_cln 7 7 rfl a0 (by lia)
    have lb := uk_cln 7 7 rfl b0 (by lia)
    have lg := uk_cln 7 7 rfl m0 m7
    rw [show e_X7_doIt v g = e_X7_doIt_b v g from if_neg (by lia), db_j q.1 (by lia) (by lia) (by lia) a0 b0 i, if_neg h2, if_neg (by omega), if_neg (by omega), if_neg (by omega), if_neg (by omega)]
    grind
theorem ra_doIt {v : uk_Mem} {g : Int32} (hv : iv v) (hra : ra v) (hd : ¬ e_X7_isDoing v g = 0) (hc : ¬ e_X7_canDo v g = 0) : ra (e_X7_doIt v g) := by
  unfold ra
  rw [doIt_c (d := 60) (by decide), doIt_c (d := 64) (by decide), doIt_c (d := 65) (by decide)]
  refine rk_eq hra (fun m m0 m7 => ?_)
  have := uk_cln 7 7 rfl m0 m7
  rw [ix_32 m0 m7]
  exact doIt_k hv hra hd hc (by omega) (by omega)
theorem does_c {v : uk_Mem} {g : Int32} {d : Nat} (h1 : ¬ d = 61) (h2 : ¬ d = 62) : (e_X7_does v g).2.1 d = v.1 d := by
  unfold e_X7_does
  dsimp only
  split
  · rfl
  · split
    · exact starts_c h2
    · dsimp only
      rw [ends_c h1, doIt_c h2, starts_c h2]
theorem iv_does {v : uk_Mem} {g : Int32} (hv : iv v) (hri : ri v) : iv (e_X7_does v g).2 ∧ ri (e_X7_does v g).2 := by
  have hv7 := iv_starts hv
  have hra7 := ra_starts hri
  have hn : 0 ≤ v.1 60 3 ∧ v.1 60 3 ≤ 8 := iv_at hv 60 3 rfl
  have n60 : (e_X7_starts v).1 60 3 = v.1 60 3 := by rw [starts_c (by decide)]
  have hd7 : e_X7_isDoing (e_X7_starts v) g = e_X7_isDoing v g := by rw [isDoing_e hn, isDoing_e (by rw [n60]; exact hn), n60]
  have hri7 : ri (e_X7_starts v) := ri_kp hri n60 (starts_c (by decide)) (starts_c (by decide)) (starts_c (by decide)) (starts_c (by decide))
  unfold e_X7_does
  dsimp only
  by_cases h1 : e_X7_isDoing v g = 0
  · rw [if_pos h1]
    exact ⟨hv, hri⟩
  · rw [if_neg h1]
    by_cases h2 : e_X7_canDo (e_X7_starts v) g = 0
    · rw [if_pos h2]
      exact ⟨hv7, hri7⟩
    · rw [if_neg h2]
      have hd := (show ¬ e_X7_isDoing (e_X7_starts v) g = 0 by rw [hd7]; exact h1)
      have i8 := iv_doIt hv7 hra7 hd h2
      have r8 := ra_doIt hv7 hra7 hd h2
      have ri8 : ri (e_X7_doIt (e_X7_starts v) g) := ri_kp hri7 (by rw [doIt_c (by decide)]) (doIt_c (by decide)) (doIt_c (by decide)) (doIt_c (by decide)) (doIt_c (by decide))
      refine ⟨iv_ends i8, ri_of ri8 r8 (by rw [ends_c (by decide)]) (ends_c (by decide)) (ends_c (by decide)) (ends_c (by decide)) (fun i i0 i1 => ends_j (by have := uk_cln 50 50 rfl i0 (by lia); omega)) (fun i i0 => ends_o (by have := uk_cge 51 51 rfl i0; omega))⟩
