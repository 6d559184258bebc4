/-! the means: the reference's are ten times the class's -/
theorem nn2 {a : Int32} (h : 0 ≤ a) : a = nI a.toNatClampNeg := by
  obtain ⟨j, hj, rfl⟩ := nI_of (x := a) (by lia)
  rw [nI_clamp hj]
/-- what the kitchen says of its stuffs -/
def cB (k : Nat) : Int := 10000000 * 2 ^ k
def tp (k : Nat) : Int := 10 ^ (7 - k)
theorem cB_ab : ∀ k, k < 8 → ∀ a, a < k → ∀ b, b < k → cB a + cB b ≤ cB k := by decide
theorem cB_r : ∀ k, k < 8 → 10000000 ≤ cB k ∧ cB k ≤ 1280000000 := by decide
theorem tp_d : ∀ k, k < 8 → ∀ a, a < k → tp k * 10 ∣ tp a := by decide
theorem tp_e : ∀ k, k < 8 → tp k ∣ 10000000 := by decide
def MR (p : Nat) (u v : uk_Mem) : Prop := ∀ k, k < p → 0 ≤ (u.2 59 k).toInt ∧ (u.2 59 k).toInt ≤ cB k ∧ tp k ∣ (u.2 59 k).toInt ∧ (v.2 72 k).toInt = 10 * (u.2 59 k).toInt
theorem MR_up {p : Nat} {u v : uk_Mem} {X Y : Int64} (h : MR p u v) (h1 : 0 ≤ X.toInt) (h2 : X.toInt ≤ cB p) (h3 : tp p ∣ X.toInt) (h4 : Y.toInt = 10 * X.toInt) : MR (p + 1) (uk_upL u 59 p X) (uk_upL v 72 p Y) := fun k hk => by
  rw [uk_upL_at, uk_upL_at]
  by_cases e : k = p
  · rw [if_pos ⟨rfl, e⟩, if_pos ⟨rfl, e⟩, e]
    exact ⟨h1, h2, h3, h4⟩
  · rw [if_neg (fun z => e z.2), if_neg (fun z => e z.2)]
    exact h k (by omega)
theorem ad64 {x y : Int64} (x0 : 0 ≤ x.toInt) (x1 : x.toInt ≤ 1000000000000) (y0 : 0 ≤ y.toInt) (y1 : y.toInt ≤ 1000000000000) : (x + y).toInt = x.toInt + y.toInt := by
  rw [Int64.toInt_add]
  exact Int.bmod_eq_of_le (by omega) (by omega)
theorem ml64 {x y : Int64} (h0 : 0 ≤ x.toInt * y.toInt) (h1 : x.toInt * y.toInt ≤ 1000000000000) : (x * y).toInt = x.toInt * y.toInt := by
  rw [Int64.toInt_mul]
  exact Int.bmod_eq_of_le (by omega) (by omega)
abbrev fin7 (v : uk_Mem) (m w : Int32) : Int64 × uk_Mem := if w = 0 then (v.2 72 m.toNatClampNeg / e_X7_common v 100000000 (v.2 72 m.toNatClampNeg), v) else (100000000 / e_X7_common v 100000000 (v.2 72 m.toNatClampNeg), v)
theorem mean_l {u0 v0 : uk_Mem} (hv0 : iv v0) (hri : ri v0) (hK : KR u0 v0 13 61 0) (hP : PRo v0 61 0) {s m b w : Int32} (s0 : 0 ≤ s) (s10 : s ≤ 10) (m0 : 0 ≤ m) (hm : m < v0.1 60 3) : ∀ (K p : Nat) (u v : uk_Mem), m.toNatClampNeg + 1 < p + K → p ≤ m.toNatClampNeg + 1 → u.1 = u0.1 → v.1 = v0.1 → MR p u v → ∃ u' v' : uk_Mem, MR (m.toNatClampNeg + 1) u' v' ∧ u'.1 = u0.1 ∧ v'.1 = v0.1 ∧ l_X6_scaledMean_3 m b s K (nI p) u = (u'.2 59 m.toNatClampNeg, u') ∧ l_X7_mean_60 m w b s K (nI p) v = fin7 v' m w := by
  have hn : 0 ≤ v0.1 60 3 ∧ v0.1 60 3 ≤ 8 := iv_at hv0 60 3 rfl
  have lm := uk_cln 7 7 rfl m0 (by lia)
  have lmn := uk_cll m0 hm
  have sm : m = nI m.toNatClampNeg := nn2 m0
  have z32 : (0 : Int32).toInt = 0 := rfl
  have t32 : (10 : Int32).toInt = 10 := rfl
  have y0 := Int32.le_iff_toInt_le.mp s0
  have y1 := Int32.le_iff_toInt_le.mp s10
  have es : s.toInt64.toInt = s.toInt := Int32.toInt_toInt64 s
  have t64 : (10 : Int64).toInt = 10 := rfl
  intro K
  induction K with
  | zero => intro p u v h1 h2; omega
  | succ K ih =>
    intro p u v h1 h2 hu hv hM
    by_cases e : p = m.toNatClampNeg + 1
    · have lt : m < nI p := by
        rw [e]
        rw [sm]
        rw [nI_clamp (by omega)]
        exact nI_lt (by omega) (by omega)
      refine ⟨u, v, by rw [← e]; exact hM, hu, hv, ?_, ?_⟩
      · rw [l_X6_scaledMean_3, if_pos lt]
      · rw [l_X7_mean_60, if_pos lt]
    · have p7 : p ≤ 7 := by omega
      have nlt : ¬ m < nI p := by
        rw [sm]
        exact nI_nlt (by omega) (by omega)
      have i0 : 0 ≤ nI p := nI_pos' (by omega)
      have i7 : nI p ≤ 7 := nI_le (b := 7) (by omega) (by omega)
      have cp : (nI p).toNatClampNeg = p := nI_clamp (by omega)
      have kn : p < (v0.1 60 3).toNatClampNeg := by omega
      obtain ⟨j1, -, -, -, -, j6⟩ := hK.2.2.2.2.1 p kn
      have j1 : u0.1 14 p = v0.1 61 (p + 32) := by rw [show p + 32 = p + (0 + 32) by omega]; exact j1
      have c32 : ((32 : Int32) + nI p).toNatClampNeg = p + 32 := by rw [ix_32 i0 i7, cp]
      have kd := hP.1 p (by omega) kn
      rw [show p + (0 + 32) = p + 32 by omega] at kd
      have R : e_X0_isMade u 13 (nI p) = if v0.1 61 (p + 32) = 4 then 0 else 1 := by
        have q := raw_e (u := u) (v := v0) i0 i7 (by rw [cp, hu]; exact j1)
        have r7 : e_X7_isRaw v0 (nI p) = if v0.1 61 (p + 32) = 4 then 1 else 0 := by
          unfold e_X7_isRaw
          dsimp only
          rw [c32]
        rw [r7] at q
        by_cases r : v0.1 61 (p + 32) = 4
        · rw [if_pos r] at q ⊢
          rcases q with q | q
          · exact q.1
          · exact absurd q.2 one0
        · rw [if_neg r] at q ⊢
          rcases q with q | q
          · exact absurd q.2.symm one0
          · exact q.1
      have rB := cB_r p (by omega)
      have T : ∀ X Y : Int64, 0 ≤ X.toInt → X.toInt ≤ cB p → tp p ∣ X.toInt → Y.toInt = 10 * X.toInt → l_X6_scaledMean_3 m b s (K + 1) (nI p) u = l_X6_scaledMean_3 m b s K (nI (p + 1)) (uk_upL u 59 p X) → l_X7_mean_60 m w b s (K + 1) (nI p) v = l_X7_mean_60 m w b s K (nI (p + 1)) (uk_upL v 72 p Y) → ∃ u' v' : uk_Mem, MR (m.toNatClampNeg + 1) u' v' ∧ u'.1 = u0.1 ∧ v'.1 = v0.1 ∧ l_X6_scaledMean_3 m b s (K + 1) (nI p) u = (u'.2 59 m.toNatClampNeg, u') ∧ l_X7_mean_60 m w b s (K + 1) (nI p) v = fin7 v' m w := fun X Y x1 x2 x3 x4 e6 e7 => by
        obtain ⟨u', v', a1, a2, a3, a4, a5⟩ := ih (p + 1) (uk_upL u 59 p X) (uk_upL v 72 p Y) (by omega) (by omega) hu hv (MR_up hM x1 x2 x3 x4)
        exact ⟨u', v', a1, a2, a3, e6.trans a4, e7.trans a5⟩
      have d0 : tp p ∣ (0 : Int64).toInt := ⟨0, by rw [Int.mul_zero]; rfl⟩
      by_cases k4 : v0.1 61 (p + 32) = 4
      · by_cases eb : nI p = b
        · refine T 10000000 100000000 (by decide) (by rw [show (10000000 : Int64).toInt = 10000000 from rfl]; omega) (tp_e p (by omega)) (by decide) ?_ ?_
          · rw [l_X6_scaledMean_3, if_neg nlt]
            dsimp only
            rw [R, if_pos k4, if_pos rfl, if_pos eb, cp, nI_1]
          · rw [l_X7_mean_60, if_neg nlt]
            dsimp only
            rw [c32, hv, if_pos k4, if_pos eb, cp, nI_1]
        · refine T 0 0 (by decide) (by rw [show (0 : Int64).toInt = 0 from rfl]; omega) d0 (by decide) ?_ ?_
          · rw [l_X6_scaledMean_3, if_neg nlt]
            dsimp only
            rw [R, if_pos k4, if_pos rfl, if_neg eb, cp, nI_1]
          · rw [l_X7_mean_60, if_neg nlt]
            dsimp only
            rw [c32, hv, if_pos k4, if_neg eb, cp, nI_1]
      · have hr := hri.1 (nI p) i0 (by rw [show v0.1 60 3 = nI (v0.1 60 3).toNatClampNeg from nn2 hn.1]; exact nI_lt kn (by have := uk_cln 8 8 rfl hn.1 hn.2; omega)) i7
        rw [c32, cp] at hr
        obtain ⟨a0, a1, b0, b1⟩ := hr.resolve_left k4
        have la := uk_cll a0 a1
        have lb := uk_cll b0 b1
        rw [cp] at la lb
        obtain ⟨pA, pB⟩ := j6 (by rw [show p + (0 + 32) = p + 32 by omega]; exact k4)
        have pA : u0.1 15 p = v0.1 64 p := pA
        have pB : u0.1 16 p = v0.1 65 p := pB
        obtain ⟨f1, f2, f3, f4⟩ := hM (v0.1 64 p).toNatClampNeg la
        obtain ⟨g1, g2, g3, g4⟩ := hM (v0.1 65 p).toNatClampNeg lb
        have fr := cB_r (v0.1 64 p).toNatClampNeg (by omega)
        have gr := cB_r (v0.1 65 p).toNatClampNeg (by omega)
        have ab := cB_ab p (by omega) (v0.1 64 p).toNatClampNeg la (v0.1 65 p).toNatClampNeg lb
        obtain ⟨fa, fe⟩ := Int.dvd_trans (tp_d p (by omega) _ la) f3
        obtain ⟨ga, ge⟩ := Int.dvd_trans (tp_d p (by omega) _ lb) g3
        have U6 : l_X6_scaledMean_3 m b s (K + 1) (nI p) u = if v0.1 61 (p + 32) = 0 then l_X6_scaledMean_3 m b s K (nI (p + 1)) (uk_upL u 59 p (u.2 59 (v0.1 64 p).toNatClampNeg + u.2 59 (v0.1 65 p).toNatClampNeg)) else if v0.1 61 (p + 32) = 1 then l_X6_scaledMean_3 m b s K (nI (p + 1)) (uk_upL u 59 p (u.2 59 (v0.1 64 p).toNatClampNeg)) else if v0.1 61 (p + 32) = 2 then l_X6_scaledMean_3 m b s K (nI (p + 1)) (uk_upL u 59 p 0) else if v0.1 61 (p + 32) = 3 then l_X6_scaledMean_3 m b s K (nI (p + 1)) (uk_upL u 59 p (u.2 59 (v0.1 64 p).toNatClampNeg + u.2 59 (v0.1 65 p).toNatClampNeg * s.toInt64 / 10)) else l_X6_scaledMean_3 m b s K (nI (p + 1)) (uk_upL u 59 p 0) := by
          rw [l_X6_scaledMean_3, if_neg nlt]
          dsimp only
          rw [R, if_neg k4, if_neg one0, cp, hu, pA, pB, j1, nI_1]
        have U7 : l_X7_mean_60 m w b s (K + 1) (nI p) v = if v0.1 61 (p + 32) = 0 then (if v0.1 61 (p + 32) = 2 then l_X7_mean_60 m w b s K (nI (p + 1)) (uk_upL v 72 p 0) else l_X7_mean_60 m w b s K (nI (p + 1)) (uk_upL v 72 p (v.2 72 (v0.1 64 p).toNatClampNeg + v.2 72 (v0.1 65 p).toNatClampNeg))) else if v0.1 61 (p + 32) = 3 then (if v0.1 61 (p + 32) = 2 then l_X7_mean_60 m w b s K (nI (p + 1)) (uk_upL v 72 p 0) else l_X7_mean_60 m w b s K (nI (p + 1)) (uk_upL v 72 p (v.2 72 (v0.1 64 p).toNatClampNeg + v.2 72 (v0.1 65 p).toNatClampNeg / 10 * s.toInt64))) else if v0.1 61 (p + 32) = 2 then l_X7_mean_60 m w b s K (nI (p + 1)) (uk_upL v 72 p 0) else l_X7_mean_60 m w b s K (nI (p + 1)) (uk_upL v 72 p (v.2 72 (v0.1 64 p).toNatClampNeg + 0)) := by
          rw [l_X7_mean_60, if_neg nlt]
          dsimp only
          rw [c32, hv, if_neg k4, cp, nI_1]
        generalize v0.1 61 (p + 32) = k at *
        have k5 : k = 0 ∨ k = 1 ∨ k = 2 ∨ k = 3 := by
          obtain ⟨t, ht, rfl⟩ := nI_of2 (x := k) (M := 4) (n := 4) rfl (by lia) kd.2
          rcases (show t = 0 ∨ t = 1 ∨ t = 2 ∨ t = 3 ∨ t = 4 by omega) with rfl | rfl | rfl | rfl | rfl
          · exact Or.inl rfl
          · exact Or.inr (Or.inl rfl)
          · exact Or.inr (Or.inr (Or.inl rfl))
          · exact Or.inr (Or.inr (Or.inr rfl))
          · exact absurd rfl k4
        generalize u.2 59 (v0.1 64 p).toNatClampNeg = X at *
        generalize u.2 59 (v0.1 65 p).toNatClampNeg = Z at *
        generalize v.2 72 (v0.1 64 p).toNatClampNeg = X' at *
        generalize v.2 72 (v0.1 65 p).toNatClampNeg = Z' at *
        have dX : tp p ∣ X.toInt := ⟨10 * fa, by rw [fe, Int.mul_assoc]⟩
        rcases k5 with rfl | rfl | rfl | rfl
        · rw [if_pos rfl] at U6
          rw [if_pos rfl, if_neg (by decide)] at U7
          have q6 := ad64 (x := X) (y := Z) f1 (by omega) g1 (by omega)
          have q7 := ad64 (x := X') (y := Z') (by omega) (by omega) (by omega) (by omega)
          refine T _ _ (by omega) (by omega) ?_ (by omega) U6 U7
          rw [q6]
          exact Int.dvd_add dX ⟨10 * ga, by rw [ge, Int.mul_assoc]⟩
        · rw [if_neg (by decide), if_pos rfl] at U6
          rw [if_neg (by decide), if_neg (by decide), if_neg (by decide)] at U7
          have q7 := ad64 (x := X') (y := 0) (by omega) (by omega) (by decide) (by decide)
          have z64 : (0 : Int64).toInt = 0 := rfl
          exact T _ _ f1 (by omega) dX (by omega) U6 U7
        · rw [if_neg (by decide), if_neg (by decide), if_pos rfl] at U6
          rw [if_neg (by decide), if_neg (by decide), if_pos rfl] at U7
          exact T 0 0 (by decide) (by rw [show (0 : Int64).toInt = 0 from rfl]; omega) d0 (by decide) U6 U7
        · rw [if_neg (by decide), if_neg (by decide), if_neg (by decide), if_pos rfl] at U6
          rw [if_neg (by decide), if_pos rfl, if_neg (by decide)] at U7
          -- Z is ten times something
          obtain ⟨c, hc⟩ : ∃ c, Z.toInt = 10 * c := ⟨tp p * ga, by rw [ge, Int.mul_comm (tp p) 10, Int.mul_assoc]⟩
          have cg : c = tp p * ga := by
            have : 10 * c = 10 * (tp p * ga) := by rw [← hc, ge, Int.mul_comm (tp p) 10, Int.mul_assoc]
            omega
          have c0 : 0 ≤ c := by omega
          have cs0 : 0 ≤ c * s.toInt := Int.mul_nonneg c0 (by omega)
          have cs1 : c * s.toInt ≤ c * 10 := Int.mul_le_mul_of_nonneg_left (by omega) c0
          have zs : Z.toInt * s.toInt = 10 * (c * s.toInt) := by rw [hc, Int.mul_assoc]
          have m1 : (Z * s.toInt64).toInt = 10 * (c * s.toInt) := by rw [ml64 (by rw [es, zs]; omega) (by rw [es, zs]; omega), es, zs]
          have m2 : (Z * s.toInt64 / 10).toInt = c * s.toInt := by
            rw [div64 (by omega) (by rw [t64]; decide), m1, t64]
            omega
          have m3 : (Z' / 10).toInt = Z.toInt := by
            rw [div64 (by omega) (by rw [t64]; decide), t64]
            omega
          have m4 : (Z' / 10 * s.toInt64).toInt = 10 * (c * s.toInt) := by rw [ml64 (by rw [m3, es, zs]; omega) (by rw [m3, es, zs]; omega), m3, es, zs]
          have q6 := ad64 (x := X) (y := Z * s.toInt64 / 10) f1 (by omega) (by omega) (by omega)
          have q7 := ad64 (x := X') (y := Z' / 10 * s.toInt64) (by omega) (by omega) (by omega) (by omega)
          refine T _ _ (by omega) (by omega) ?_ (by omega) U6 U7
          rw [q6, m2, cg, Int.mul_assoc]
          exact Int.dvd_add dX ⟨ga * s.toInt, rfl⟩
theorem mean_e {u v : uk_Mem} {s m b w : Int32} (hv : iv v) (hri : ri v) (hK : KR u v 13 61 0) (hP : PRo v 61 0) : (e_X6_mean u s m b w).1 = (e_X7_mean v s m b w).1 := by
  have hn : 0 ≤ v.1 60 3 ∧ v.1 60 3 ≤ 8 := iv_at hv 60 3 rfl
  have fl : e_X6_isFlag u w = e_X7_isPart v w := by
    unfold e_X6_isFlag e_X7_isPart e_X7_in
    dsimp only
    grind
  unfold e_X6_mean e_X7_mean
  dsimp only
  rw [hasStuff_e hK.1 hn, hasStuff_e hK.1 hn, fl]
  by_cases hs : 0 ≤ s ∧ s ≤ 10
  · rw [if_neg (show ¬ s < 0 by lia), if_neg (show ¬ 10 < s by lia), show e_X7_in v s 0 10 = 1 from if_pos hs, if_neg one0]
    by_cases h1 : e_X7_isStuff v m = 0
    · rw [if_pos h1, if_pos h1]
    · rw [if_neg h1, if_neg h1]
      by_cases h2 : e_X7_isStuff v b = 0
      · rw [if_pos h2, if_pos h2]
      · rw [if_neg h2, if_neg h2]
        by_cases h3 : e_X7_isPart v w = 0
        · rw [if_pos h3, if_pos h3]
        · rw [if_neg h3, if_neg h3]
          have hm := isStuff_n hn h1
          have hb := isStuff_n hn h2
          have j1 := (hK.2.2.2.2.1 b.toNatClampNeg (uk_cll hb.1 hb.2)).1
          rcases raw_e (u := u) (v := v) hb.1 (by lia) j1 with ⟨m1, m2⟩ | ⟨m1, m2⟩
          · rw [m1, m2, if_pos rfl, if_neg one0]
            have lm := uk_cln 7 7 rfl hm.1 (by lia)
            obtain ⟨u', v', a1, a2, a3, a4, a5⟩ := mean_l (b := b) (w := w) hv hri hK hP hs.1 hs.2 hm.1 hm.2 ee_K 0 u v (by unfold ee_K; omega) (by omega) rfl rfl (fun k hk => absurd hk (Nat.not_lt_zero _))
            have e6 : e_X6_scaledMean u s m b = (u'.2 59 m.toNatClampNeg, u') := a4
            have a5 : l_X7_mean_60 m w b s ee_K 0 v = fin7 v' m w := a5
            rw [e6, a5]
            dsimp only
            obtain ⟨b1, b2, b3, b4⟩ := a1 m.toNatClampNeg (by omega)
            have cr := cB_r m.toNatClampNeg (by omega)
            generalize u'.2 59 m.toNatClampNeg = X at *
            unfold fin7
            generalize v'.2 72 m.toNatClampNeg = Y at *
            have g1 := great_e (u := u') (a := X) b1 (by omega)
            have g2 := common_e (u := v') (a := 100000000) (b := Y) (by decide) (by omega)
            have z8 : (100000000 : Int64).toInt = 100000000 := rfl
            have z7 : (10000000 : Int64).toInt = 10000000 := rfl
            rw [z8, b4, gcZ_10 b1, ← g1] at g2
            have gp := gcZ_pos (a := X.toInt)
            rw [← g1] at gp
            generalize e_X6_greatestCommon u' X 10000000 = G at *
            generalize e_X7_common v' 100000000 Y = H at *
            by_cases w0 : w = 0
            · rw [if_pos w0, if_pos w0]
              refine Int64.toInt_inj.mp ?_
              dsimp only
              rw [div64 b1 gp, div64 (by omega) (by omega), b4, g2, Int.mul_ediv_mul_of_pos _ _ (by decide)]
            · rw [if_neg w0, if_neg w0]
              refine Int64.toInt_inj.mp ?_
              dsimp only
              rw [div64 (by omega) gp, div64 (by omega) (by omega), z7, z8, g2, show (100000000 : Int) = 10 * 10000000 from rfl, Int.mul_ediv_mul_of_pos _ _ (by decide)]
          · rw [m1, m2, if_neg one0, if_pos rfl]
  · rw [show e_X7_in v s 0 10 = 0 from if_neg hs, if_pos rfl]
    by_cases q : s < 0
    · rw [if_pos q]
    · rw [if_neg q, if_pos (show 10 < s by lia)]
