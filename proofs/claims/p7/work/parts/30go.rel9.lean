/-! answers: rule, stuff, can, count -/
theorem raw_e {u v : uk_Mem} {i : Int32} (h0 : 0 ≤ i) (h7 : i ≤ 7) (h : u.1 14 i.toNatClampNeg = v.1 61 (i.toNatClampNeg + 32)) : (e_X0_isMade u 13 i = 0 ∧ e_X7_isRaw v i = 1) ∨ (e_X0_isMade u 13 i = 1 ∧ e_X7_isRaw v i = 0) := by
  unfold e_X0_isMade e_X7_isRaw
  dsimp only
  rw [ix_32 h0 h7, show u.1 (13 + 1) i.toNatClampNeg = u.1 14 i.toNatClampNeg from rfl, h]
  by_cases q : v.1 61 (i.toNatClampNeg + 32) = 4
  · rw [if_pos q]
    simp [q]
  · rw [if_neg q]
    simp [q]
theorem stuff_e {u v : uk_Mem} {m w : Int32} (hv : iv v) (hK : KR u v 13 61 0) : e_X6_stuff u m w = e_X7_stuff v m w := by
  have hn : 0 ≤ v.1 60 3 ∧ v.1 60 3 ≤ 8 := iv_at hv 60 3 rfl
  unfold e_X6_stuff e_X7_stuff
  dsimp only
  rw [hasStuff_e hK.1 hn]
  by_cases h1 : e_X7_isStuff v m = 0
  · rw [if_pos h1, if_pos h1]
  · rw [if_neg h1, if_neg h1]
    have hm := isStuff_n hn h1
    have m7 : m ≤ 7 := by lia
    obtain ⟨j1, j2, j3, j4, j5, j6⟩ := hK.2.2.2.2.1 m.toNatClampNeg (uk_cll hm.1 hm.2)
    simp only [Nat.zero_add, Nat.add_zero, Nat.reduceAdd] at j1 j2 j3 j4 j5 j6
    rw [ix_32 hm.1 m7, ix_16 hm.1 m7, ix_24 hm.1 m7, ix_8 hm.1 m7, ix_0, j1, j2, j3, j4]
    rcases raw_e (u := u) (v := v) hm.1 m7 j1 with ⟨m1, m2⟩ | ⟨m1, m2⟩
    · have hk : v.1 61 (m.toNatClampNeg + 32) = 4 := by
        unfold e_X7_isRaw at m2
        dsimp only at m2
        rw [ix_32 hm.1 m7] at m2
        exact Classical.byContradiction fun q => by rw [if_neg q] at m2; exact absurd m2 (by decide)
      obtain ⟨p1, p2, p3⟩ := j5 hk
      rw [m1, m2, p1, p2, p3]
      simp
    · have hk : ¬ v.1 61 (m.toNatClampNeg + 32) = 4 := fun q => by
        unfold e_X7_isRaw at m2
        dsimp only at m2
        rw [ix_32 hm.1 m7, if_pos q] at m2
        exact absurd m2 (by decide)
      obtain ⟨p2, p3⟩ := j6 hk
      rw [m1, m2, p2, p3]
      simp
theorem flag_e {m : uk_Mem} {x : Int32} : e_X7_flag m x = if x = 0 then 0 else 1 := rfl