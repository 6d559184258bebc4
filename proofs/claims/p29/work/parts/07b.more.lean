theorem uk_m1 (x : Int32) : x + Int32.ofInt (-1) = x - 1 := by
  rw [Int32.sub_eq_add_neg]
  rfl
theorem uk_nb {x : Int32} (h : x = 0 ∨ x = 1) : narrow .boolean (.int x) = .int x := by
  rcases h with rfl | rfl <;> rfl
theorem uk_swo {x : Int32} (lo hi : Int32) {L H : Int} (hl : lo.toInt = L) (hh : hi.toInt = H) (h : x < lo ∨ hi < x) : x.toInt < L ∨ H < x.toInt := by
  rw [← hl, ← hh]
  exact h.imp Int32.lt_iff_toInt_lt.mp Int32.lt_iff_toInt_lt.mp
theorem uk_M1 : Cond.methodLink RX0 93 Lib.Math.max.name ∈ uk_w := uk_wI (List.mem_of_getElem? (i := 616) (by decide +kernel)) rfl
theorem uk_M2 : Cond.static Lib.Math.max.name ∈ uk_w := uk_wI (List.mem_of_getElem? (i := 617) (by decide +kernel)) rfl
theorem uk_M3 : Cond.initialized "java/lang/Math" ∈ uk_w := uk_wI (List.mem_of_getElem? (i := 13) (by decide +kernel)) rfl
theorem uk_M4 : Cond.code Lib.Math.max.name Lib.Math.max.code 2 (some .int) ∈ uk_w := uk_wI (List.mem_of_getElem? (i := 618) (by decide +kernel)) rfl
theorem uk_A1 : Cond.methodLink RX0 88 Lib.Math.abs.name ∈ uk_w := uk_wI (List.mem_of_getElem? (i := 613) (by decide +kernel)) rfl
theorem uk_A2 : Cond.static Lib.Math.abs.name ∈ uk_w := uk_wI (List.mem_of_getElem? (i := 614) (by decide +kernel)) rfl
theorem uk_A4 : Cond.code Lib.Math.abs.name Lib.Math.abs.code 1 (some .int) ∈ uk_w := uk_wI (List.mem_of_getElem? (i := 615) (by decide +kernel)) rfl
section UKX
variable {G : uk_D} {X : uk_Cx} {M : uk_M} {d : Nat} {Q : Option Value → uk_Mem → Prop} {pc : Nat} {lv lv' : List (Nat × Value)} {st : List Value} {u : uk_Mem}
theorem g_pick (ks : List Nat) (e : lv_pick lv ks = lv') (k : uk_G G X M d Q pc lv' st u) : uk_G G X M d Q pc lv st u := fun hO ls H locs hl hP hS => k hO ls H locs (lv_sub hl ks e) hP hS
theorem g_mmax {x y : Int32} (hM : M.1.cls = RX0) (hn : 1 ≤ d) (hc : (st.map fun v => v.category).sum ≤ 8) (hd : decode M.2.1 pc = .ok (.invokestatic 93, 3)) (k : uk_G G X M d Q (pc + 3) lv (.int (if x < y then y else x) :: st) u) : uk_G G X M d Q pc lv (.int y :: .int x :: st) u := fun hO ls H locs hl hP hS => by
  obtain ⟨r1, r2, r3, r4⟩ := hO.2.2.2.2.2.2.2.2.1
  have hw := hO.2.2.2.2.1
  exact va_mmax hO.1 hO.2.1 (hO.2.2.1.trans hl.1.symm) hO.2.2.2.1 (by rw [hM]; exact hw _ uk_M1) (hw _ uk_M2) (hw _ uk_M3) (hw _ uk_M4) (by omega) (by omega) r3 r4 hd (k hO ls H locs hl hP hS)
theorem g_mabs {x : Int32} (hM : M.1.cls = RX0) (hn : 1 ≤ d) (hc : (st.map fun v => v.category).sum ≤ 8) (hd : decode M.2.1 pc = .ok (.invokestatic 88, 3)) (k : uk_G G X M d Q (pc + 3) lv (.int (if 0 ≤ x then x else 0 - x) :: st) u) : uk_G G X M d Q pc lv (.int x :: st) u := fun hO ls H locs hl hP hS => by
  obtain ⟨r1, r2, r3, r4⟩ := hO.2.2.2.2.2.2.2.2.1
  have hw := hO.2.2.2.2.1
  exact va_mabs hO.1 hO.2.1 (hO.2.2.1.trans hl.1.symm) hO.2.2.2.1 (by rw [hM]; exact hw _ uk_A1) (hw _ uk_A2) (hw _ uk_M3) (hw _ uk_A4) (by omega) (by omega) r3 r4 hd (k hO ls H locs hl hP hS)
theorem g_lookup {dflt : Int} {ps : Array (Int × Int)} {len : Nat} {x : Int32} {off : Int} {tgt : Nat} (hd : decode M.2.1 pc = .ok (.lookupswitch dflt ps, len)) (hp : (ps.toList.zip (ps.toList.drop 1)).all (fun (a, next) => a.1 < next.1) = true) (ho : Op.lookupswitch.offset ps.toList dflt x.toInt = off) (ht : (pc : Int) + off = (tgt : Int)) (k : uk_G G X M d Q tgt lv st u) : uk_G G X M d Q pc lv (.int x :: st) u := fun hO ls H locs hl hP hS => lv_lookup hO.1 hO.2.1 hd hp ho ht (k hO ls H locs hl hP hS)
end UKX
theorem ks_kind {i : Nat} (h : i < 4) : uk_kind (52 + 1 + i) = 8 := by
  rcases (show i = 0 ∨ i = 1 ∨ i = 2 ∨ i = 3 by omega) with rfl | rfl | rfl | rfl <;> rfl
theorem ks_len {i : Nat} (h : i < 4) : uk_len (52 + 1 + i) = 40 := by
  rcases (show i = 0 ∨ i = 1 ∨ i = 2 ∨ i = 3 by omega) with rfl | rfl | rfl | rfl <;> rfl
theorem ks_rg {i : Nat} (h : i < 4) (j : Nat) (hj : j < 999) : uk_rg (52 + 1 + i) j = (-2147483648, 2147483647) := by
  rcases (show i = 0 ∨ i = 1 ∨ i = 2 ∨ i = 3 by omega) with rfl | rfl | rfl | rfl <;> exact uk_pick1 j hj
