theorem lw_str {s : State} {args : Array Value} {A : Nat → Prop} (hgv : (Jvm.Cond.and given_1 narrow_1).before args s = true) (hA : ∀ a : Nat, a < s.heap.size → ¬ A a) : ∃ adK adV : Nat → Nat, vk_S 6 uk_sLen uk_sByt adK adV A s s.heap ∧ ∀ i : Nat, i < 6 → (Term.string "UncookMill$TextReader" (uk_sIx.getD i 0)).eval args s none [] s = some (.ref (adK i)) := by
  have hq := flat_of_before _ hgv
  refine vk_Sof (tm := fun i => Term.string "UncookMill$TextReader" (uk_sIx.getD i 0)) (fun i hi => ?_) (fun i hi => ?_) (fun i hi => ?_) (fun i hi => ?_) (fun i hi => ?_) (fun i hi j hj => ?_) (fun i j hi hj hij => ?_) hA
  · rcases (show i = 0 ∨ i = 1 ∨ i = 2 ∨ i = 3 ∨ i = 4 ∨ i = 5 by omega) with rfl | rfl | rfl | rfl | rfl | rfl <;> decide
  · rcases (show i = 0 ∨ i = 1 ∨ i = 2 ∨ i = 3 ∨ i = 4 ∨ i = 5 by omega) with rfl | rfl | rfl | rfl | rfl | rfl <;> exact hq _ (by decide +kernel)
  · rcases (show i = 0 ∨ i = 1 ∨ i = 2 ∨ i = 3 ∨ i = 4 ∨ i = 5 by omega) with rfl | rfl | rfl | rfl | rfl | rfl <;> exact hq _ (by decide +kernel)
  · rcases (show i = 0 ∨ i = 1 ∨ i = 2 ∨ i = 3 ∨ i = 4 ∨ i = 5 by omega) with rfl | rfl | rfl | rfl | rfl | rfl <;> exact hq _ (by decide +kernel)
  · rcases (show i = 0 ∨ i = 1 ∨ i = 2 ∨ i = 3 ∨ i = 4 ∨ i = 5 by omega) with rfl | rfl | rfl | rfl | rfl | rfl <;> exact hq _ (by decide +kernel)
  · rcases (show i = 0 ∨ i = 1 ∨ i = 2 ∨ i = 3 ∨ i = 4 ∨ i = 5 by omega) with rfl | rfl | rfl | rfl | rfl | rfl
    · rcases (show j = 0 ∨ j = 1 ∨ j = 2 by have : uk_sLen.getD 0 0 = 3 := rfl; omega) with rfl | rfl | rfl <;> exact hq _ (by decide +kernel)
    · rcases (show j = 0 ∨ j = 1 ∨ j = 2 by have : uk_sLen.getD 1 0 = 3 := rfl; omega) with rfl | rfl | rfl <;> exact hq _ (by decide +kernel)
    · rcases (show j = 0 ∨ j = 1 ∨ j = 2 ∨ j = 3 by have : uk_sLen.getD 2 0 = 4 := rfl; omega) with rfl | rfl | rfl | rfl <;> exact hq _ (by decide +kernel)
    · rcases (show j = 0 ∨ j = 1 ∨ j = 2 ∨ j = 3 by have : uk_sLen.getD 3 0 = 4 := rfl; omega) with rfl | rfl | rfl | rfl <;> exact hq _ (by decide +kernel)
    · rcases (show j = 0 ∨ j = 1 ∨ j = 2 ∨ j = 3 by have : uk_sLen.getD 4 0 = 4 := rfl; omega) with rfl | rfl | rfl | rfl <;> exact hq _ (by decide +kernel)
    · rcases (show j = 0 ∨ j = 1 ∨ j = 2 ∨ j = 3 by have : uk_sLen.getD 5 0 = 4 := rfl; omega) with rfl | rfl | rfl | rfl <;> exact hq _ (by decide +kernel)
  · rcases (show i = 0 ∨ i = 1 ∨ i = 2 ∨ i = 3 ∨ i = 4 ∨ i = 5 by omega) with rfl | rfl | rfl | rfl | rfl | rfl <;> rcases (show j = 0 ∨ j = 1 ∨ j = 2 ∨ j = 3 ∨ j = 4 ∨ j = 5 by omega) with rfl | rfl | rfl | rfl | rfl | rfl <;> first | exact absurd rfl hij | exact Or.inl (hq _ (by decide +kernel)) | exact Or.inr (hq _ (by decide +kernel))
theorem lw_arr {s : State} {args : Array Value} {ty : FieldType} (h : (Cond.arrayClass ty).before args s = true) (hra : ∀ (U : State) (c : ClassId), U.vm.findClass ("[" ++ ty.toString) = some c → va_RA U c ty) : ∃ c : ClassId, ArrOfT s c ty ∧ va_RA s c ty := by
  obtain ⟨c, k, comp, h1, h2, h3⟩ := Cond.arrayClass_spec h
  exact ⟨c, fun n z => ⟨fun k h => (by cases h), k, h2, comp, h3⟩, hra _ _ h1⟩
theorem lw_arr2 {s : State} {args : Array Value} (h : (Cond.arrayOver (.array .int)).before args s = true) : ∃ c : ClassId, ArrOfT s c (.array .int) ∧ va_RA s c (.array .int) := by
  obtain ⟨comp, c, k, h1, h2, h3, h4⟩ := Cond.arrayOver_specA h
  exact ⟨c, fun n z => ⟨fun k h => (by cases h), k, h2, comp, h3⟩, h4⟩
theorem lw_nest {s : State} {args : Array Value} (hts : ∀ w ∈ lw_tbl, w.before args s = true) : ∀ w ∈ uk_nest, va_Nw w s := fun w hw => by
  have h := List.mem_filter.mp hw
  refine va_Nw.of ?_ (hts w h.1)
  cases w <;> first | rfl | (exact absurd h.2 (by simp [uk_isNest]))
theorem lw_w7 : Cond.classLink "UncookMillLaw" 7 RX6 ∈ uk_w := (uk_wI (List.mem_of_getElem? (i := 14) (by decide +kernel)) rfl)
theorem lw_w10 : Cond.classLink "UncookMillLaw" 10 RX7 ∈ uk_w := (uk_wI (List.mem_of_getElem? (i := 759) (by decide +kernel)) rfl)
theorem lw_w9 : Cond.methodLink "UncookMillLaw" 9 yX6_init ∈ uk_w := (uk_wI (List.mem_of_getElem? (i := 16) (by decide +kernel)) rfl)
theorem lw_w12 : Cond.methodLink "UncookMillLaw" 12 yX7_init ∈ uk_w := (uk_wI (List.mem_of_getElem? (i := 761) (by decide +kernel)) rfl)
set_option maxHeartbeats 40000000 in
set_option maxRecDepth 40000 in
theorem whole_start {p : Program} {e : Env} {s : State} {m : MethodId} {below : List Frame} {meth : Method} {c : Code} (l : Launch) {b L : Nat} {xs : Nat → Int32} (hL : L ≤ 2560) (C0 : lw_At p s m meth c b L xs) : W p l e room_1 s m #[Value.ref b] below meth c s.heap [] 0 0 (lw_Z below #[Value.ref b] s) (entryFrame m ([Value.ref b] : List Value).toArray 4) := by
  obtain ⟨hx, hb, hr, hml, hown, hts, hX, hbl, hlocks, hgv⟩ := id C0
  have hw : ∀ w ∈ uk_w, w.before #[Value.ref b] s = true := fun w hw => hts w (List.mem_filter.mp hw).1
  have hA : ∀ a : Nat, a < s.heap.size → ¬ (fun q : Nat => s.heap.size ≤ q) a := fun a h => Nat.not_le.mpr h
  obtain ⟨c0, i0, k0⟩ := u_known (C := RX0) (T := TX0) (N := 12) (n := 12) hw uk_in0 (hw _ (uk_wI (List.mem_of_getElem? (i := 23) (by decide +kernel)) rfl))
  obtain ⟨c1, i1, k1⟩ := u_known (C := RX1) (T := TX1) (N := 7) (n := 7) hw uk_in1 (hw _ (uk_wI (List.mem_of_getElem? (i := 141) (by decide +kernel)) rfl))
  obtain ⟨c2, i2, k2⟩ := u_known (C := RX2) (T := TX2) (N := 5) (n := 5) hw uk_in2 (hw _ (uk_wI (List.mem_of_getElem? (i := 174) (by decide +kernel)) rfl))
  obtain ⟨c3, i3, k3⟩ := u_known (C := RX3) (T := TX3) (N := 3) (n := 3) hw uk_in3 (hw _ (uk_wI (List.mem_of_getElem? (i := 198) (by decide +kernel)) rfl))
  obtain ⟨c4, i4, k4⟩ := u_known (C := RX4) (T := TX4) (N := 6) (n := 6) hw uk_in4 (hw _ (uk_wI (List.mem_of_getElem? (i := 86) (by decide +kernel)) rfl))
  obtain ⟨c5, i5, k5⟩ := u_known (C := RX5) (T := TX5) (N := 5) (n := 5) hw uk_in5 (hw _ (uk_wI (List.mem_of_getElem? (i := 117) (by decide +kernel)) rfl))
  obtain ⟨c6, i6, k6⟩ := u_known (C := RX6) (T := TX6) (N := 15) (n := 15) hw uk_in6 (hw _ (uk_wI (List.mem_of_getElem? (i := 15) (by decide +kernel)) rfl))
  obtain ⟨c7, i7, k7⟩ := u_known (C := RX7) (T := TX7) (N := 30) (n := 30) hw uk_in7 (hw _ (uk_wI (List.mem_of_getElem? (i := 760) (by decide +kernel)) rfl))
  obtain ⟨dC, dI, hKc⟩ : ∃ (dC : Nat → ClassId) (dI : Nat → Nat → Nat), ∀ (k : Nat) (q : vw_C), vwCl[k]? = some q → u_Kn s q.1 q.2.1 q.2.2 (dC k) (dI k) := by
    refine ⟨fun k => match k with | 0 => c0 | 1 => c1 | 2 => c2 | 3 => c3 | 4 => c4 | 5 => c5 | 6 => c6 | _ => c7, fun k => match k with | 0 => i0 | 1 => i1 | 2 => i2 | 3 => i3 | 4 => i4 | 5 => i5 | 6 => i6 | _ => i7, ?_⟩
    intro k q hq
    match k, hq with
    | 0, hq => cases hq; exact k0
    | 1, hq => cases hq; exact k1
    | 2, hq => cases hq; exact k2
    | 3, hq => cases hq; exact k3
    | 4, hq => cases hq; exact k4
    | 5, hq => cases hq; exact k5
    | 6, hq => cases hq; exact k6
    | 7, hq => cases hq; exact k7
    | k + 8, hq => simp [vwCl] at hq
  obtain ⟨tI, aI⟩ := lw_arr (ty := .int) (hw _ (uk_wI (List.mem_of_getElem? (i := 84) (by decide +kernel)) rfl)) (fun _ _ h => h)
  obtain ⟨tB, aB⟩ := lw_arr (ty := .byte) (hw _ (uk_wI (List.mem_of_getElem? (i := 115) (by decide +kernel)) rfl)) (fun _ _ h => h)
  obtain ⟨tZ, aZ⟩ := lw_arr (ty := .boolean) (hw _ (uk_wI (List.mem_of_getElem? (i := 172) (by decide +kernel)) rfl)) (fun _ _ h => h)
  obtain ⟨tJ, aJ⟩ := lw_arr (ty := .long) (hw _ (uk_wI (List.mem_of_getElem? (i := 263) (by decide +kernel)) rfl)) (fun _ _ h => h)
  have hao := hts (Cond.arrayOver (.array .int)) (List.mem_append_right _ (List.mem_of_getElem? (i := 204) (by decide +kernel)))
  obtain ⟨tQ, aQ⟩ := lw_arr2 hao
  obtain ⟨adK, adV, hS6, hev⟩ := lw_str (A := fun q : Nat => s.heap.size ≤ q) hgv hA
  have hq := flat_of_before _ hgv
  let G : uk_D := (l, (dC, dI), fun k => match k with | 8 => tI | 9 => tB | 10 => tZ | 11 => tJ | _ => tQ, fun c => if 200 ≤ c then adV (c - 200) else adK (c - 100), fun q : Nat => s.heap.size ≤ q)
  have hE : uk_E G s := by
    have e1 : (fun i => uk_ad G (100 + i)) = fun i => if i < 100 then adK i else adV (i - 100) := by
      funext i
      show (if 200 ≤ 100 + i then adV (100 + i - 200) else adK (100 + i - 100)) = _
      by_cases q : i < 100
      · rw [if_neg (by omega), if_pos q, show 100 + i - 100 = i by omega]
      · rw [if_pos (by omega), if_neg q, show 100 + i - 200 = i - 100 by omega]
    have e2 : (fun i => uk_ad G (200 + i)) = adV := by
      funext i
      show (if 200 ≤ 200 + i then adV (200 + i - 200) else adK (200 + i - 100)) = _
      rw [if_pos (by omega), show 200 + i - 200 = i by omega]
    have e3 : ∀ i, i < 6 → uk_ad G (100 + i) = adK i := fun i hi => by
      rw [congrFun e1 i, if_pos (by omega)]
    refine ⟨?_, va_Zof (hts _ (List.mem_append_right _ (List.mem_of_getElem? (i := 321) (by decide +kernel)))) (hw _ (uk_wI (List.mem_of_getElem? (i := 9) (by decide +kernel)) rfl)) (va_eqt (hq (Cond.eq (Term.static "java/lang/String" "COMPACT_STRINGS" "Z") (Term.int 1)) (by decide +kernel))) hA, va_Zqof (hts _ (List.mem_append_right _ (List.mem_of_getElem? (i := 337) (by decide +kernel)))) (hw _ (uk_wI (List.mem_of_getElem? (i := 11) (by decide +kernel)) rfl)) (hq _ (by decide +kernel)) hA, fun i hi => ?_⟩
    · refine ⟨fun i hi => ?_, fun i j hi hj h => hS6.2 i j hi hj ((e3 i hi).symm.trans (h.trans (e3 j hj)))⟩
      have h9 := hS6.1 i hi
      rw [← e3 i hi, ← congrFun e2 i] at h9
      exact h9
    · rw [e3 i hi]
      refine vk_R.of (hts _ ?_) (hev i hi)
      rcases (show i = 0 ∨ i = 1 ∨ i = 2 ∨ i = 3 ∨ i = 4 ∨ i = 5 by omega) with rfl | rfl | rfl | rfl | rfl | rfl
      · exact List.mem_append_right _ (List.mem_of_getElem? (i := 307) (by decide +kernel))
      · exact List.mem_append_right _ (List.mem_of_getElem? (i := 360) (by decide +kernel))
      · exact List.mem_append_right _ (List.mem_of_getElem? (i := 361) (by decide +kernel))
      · exact List.mem_append_right _ (List.mem_of_getElem? (i := 362) (by decide +kernel))
      · exact List.mem_append_right _ (List.mem_of_getElem? (i := 363) (by decide +kernel))
      · exact List.mem_append_right _ (List.mem_of_getElem? (i := 364) (by decide +kernel))
  have hK : ui_K G s := by
    refine ⟨⟨hKc, fun k q h => ?_⟩, lw_nest hts, va_AOA.of hao⟩
    match k, h with
    | 0, h => cases h; exact aI
    | 1, h => cases h; exact aB
    | 2, h => cases h; exact aZ
    | 3, h => cases h; exact aJ
    | 4, h => cases h; exact aQ
    | k + 5, h => simp [uk_tys] at h
  have hl := lv_entry ([.ref b]) (n := 4) (Nat.le_of_ble_eq_true rfl)
  rw [lg_entry_eq]
  have key : ui_G G G.2.2.2.2 (uk_E G) (p, e, room_1, s, m, #[Value.ref b], below, meth, c, 0, 0, lw_Z below #[Value.ref b] s) ((⟨"UncookMillLaw", meth.name, "([I)Z"⟩ : MethodName), code, 4, ret) 20 1000 4000 (fun _ => False) 0 0 [] 0 (lv_args 0 [.ref b]) [] := by
    refine i_new (ci := 6) (fs := [.null, .null, .null, .null, .null, .null, .null, .null, .null, .null, .null, .null, .null, .int 0, .int 0]) rfl uk_in6 tyX6_ok lw_w7 (uk_wI (List.mem_of_getElem? (i := 15) (by decide +kernel)) rfl) uk_iniX6 (fun j hj => by rcases (show j = 0 ∨ j = 1 ∨ j = 2 ∨ j = 3 ∨ j = 4 ∨ j = 5 ∨ j = 6 ∨ j = 7 ∨ j = 8 ∨ j = 9 ∨ j = 10 ∨ j = 11 ∨ j = 12 ∨ j = 13 ∨ j = 14 by omega) with rfl | rfl | rfl | rfl | rfl | rfl | rfl | rfl | rfl | rfl | rfl | rfl | rfl | rfl | rfl <;> rfl) (by decide) (by decide) dL_law_0 (fun q0 => ?_)
    refine i_ws (ws' := [(q0, .inr (6, [.null, .null, .null, .null, .null, .null, .null, .null, .null, .null, .null, .null, .null, .int 0, .int 0]))]) rfl ?_
    refine i_dup dL_law_3 rfl ?_
    refine i_callA (nA := 0) (As := []) lw_w9 (uk_wI (List.mem_of_getElem? (i := 17) (by decide +kernel)) rfl) uk_iniX6 (uk_wI (List.mem_of_getElem? (i := 18) (by decide +kernel)) rfl) rfl ⟨by decide +kernel, by decide +kernel, by decide +kernel⟩ (by decide) (fun _ _ _ _ _ _ _ => trivial) (fun _ _ _ _ _ => trivial) (c_X6_init (G := G) q0) (by decide) (by decide) (by decide) rfl rfl (Nat.le_of_ble_eq_true rfl) dL_law_4 (fun w hwq => ?_)
    obtain ⟨ad, rfl, rfl⟩ := hwq
    refine i_astore_n dL_law_7 (Nat.le_of_ble_eq_true rfl) ?_
    refine i_new (ci := 7) (fs := [.null, .null, .null, .int 0, .null, .null, .null, .int 0, .null, .null, .int 0, .int 0, .null, .int 0, .int 0, .int 0, .int 0, .int 0, .int 0, .int 0, .null, .null, .int 0, .null, .null, .null, .null, .null, .int 0, .null]) rfl uk_in7 tyX7_ok lw_w10 (uk_wI (List.mem_of_getElem? (i := 760) (by decide +kernel)) rfl) uk_iniX7 (fun j hj => by rcases (show j = 0 ∨ j = 1 ∨ j = 2 ∨ j = 3 ∨ j = 4 ∨ j = 5 ∨ j = 6 ∨ j = 7 ∨ j = 8 ∨ j = 9 ∨ j = 10 ∨ j = 11 ∨ j = 12 ∨ j = 13 ∨ j = 14 ∨ j = 15 ∨ j = 16 ∨ j = 17 ∨ j = 18 ∨ j = 19 ∨ j = 20 ∨ j = 21 ∨ j = 22 ∨ j = 23 ∨ j = 24 ∨ j = 25 ∨ j = 26 ∨ j = 27 ∨ j = 28 ∨ j = 29 by omega) with rfl | rfl | rfl | rfl | rfl | rfl | rfl | rfl | rfl | rfl | rfl | rfl | rfl | rfl | rfl | rfl | rfl | rfl | rfl | rfl | rfl | rfl | rfl | rfl | rfl | rfl | rfl | rfl | rfl | rfl <;> rfl) (by decide) (by decide) dL_law_8 (fun q7 => ?_)
    refine i_sub (ws' := (q7, .inr (7, [.null, .null, .null, .int 0, .null, .null, .null, .int 0, .null, .null, .int 0, .int 0, .null, .int 0, .int 0, .int 0, .int 0, .int 0, .int 0, .int 0, .null, .null, .int 0, .null, .null, .null, .null, .null, .int 0, .null])) :: w_60 G ad) [60, 0, 1, 2, 3, 4, 5, 6, 7, 8, 9, 10, 11, 12, 13, 14, 15, 16, 17, 18, 19, 20, 21, 22, 23, 24, 25, 26, 27, 28, 29, 30, 31, 32, 33, 34, 35, 36, 37, 38, 39, 40, 41, 42, 43, 44, 45, 46, 47, 48, 49, 50, 51, 52, 53, 54, 55, 56, 57, 58, 59] (by decide) rfl rfl ?_
    refine i_dup dL_law_11 rfl ?_
    refine i_callA (nA := 0) (As := []) lw_w12 (uk_wI (List.mem_of_getElem? (i := 762) (by decide +kernel)) rfl) uk_iniX7 (uk_wI (List.mem_of_getElem? (i := 763) (by decide +kernel)) rfl) rfl ⟨by decide +kernel, by decide +kernel, by decide +kernel⟩ (by decide) (fun H locs U hO hS hU hW => uk_E.go hO.2.2.2.2.2.1.2 (by rw [hU]; exact hS.2.1) hW) (fun U V h1 h2 h => uk_E.same h h1.symm h2.symm) (c_X7_init (G := G) (ad := ad) q7) (by decide) (by decide) (by decide) rfl rfl (Nat.le_of_ble_eq_true rfl) dL_law_12 (fun w hwq => ?_)
    obtain ⟨lst, u, rfl, rfl, hiv, hri, hREL⟩ := hwq
    refine i_astore_n dL_law_15 (Nat.le_of_ble_eq_true rfl) ?_
    refine i_iconst (v := 0) dL_law_16 (by decide) ?_
    refine i_istore_n dL_law_17 (Nat.le_of_ble_eq_true rfl) ?_
    intro hO ls H locs hl hP hD hS
    have hsep : uk_Sep (G_7 G ad lst) := ⟨fun i j hi hj h => hD.1 i j _ _ (uk_ws_at hi) (uk_ws_at hj) h, fun i hi => hD.2 i _ (uk_ws_at hi)⟩
    refine lw_loop (G := G_7 G ad lst) (X := (p, e, room_1, s, m, #[Value.ref b], below, meth, c, 78, 1842, lw_Z below #[Value.ref b] s)) hsep ⟨hX, hbl, Nat.not_le.mpr hbl⟩ hL 0 (by decide) (by decide) u hiv hri hREL ⟨hx, hb, hml, hown, hw, hK.1, ⟨hK.2.1, uk_E_7 hE⟩, hsep, ⟨Nat.le_of_ble_eq_true rfl, Nat.le_of_ble_eq_true rfl, Nat.le_of_ble_eq_true rfl, Nat.le_of_ble_eq_true rfl⟩, ?_⟩ ls H locs hl hP hS
    intro i pc ls st H locs u r hi hd hq hP hS
    rcases hi with ⟨rfl, v, ty, rfl, rfl, hty, hnr⟩ | ⟨rfl, rfl, rfl, hty⟩ | ⟨rfl, v, rfl, rfl, hty⟩ | ⟨rfl, a, n, rfl, rfl, hty⟩
    · have hv : v = 1 := by
        have hq : some (Value.int v) = some (.int 1) := hq
        cases hq
        rfl
      subst hv
      exact va_forget (fun q h => hS.2.2 q h) (W.widen (k := 600000) (n := 7302250) (Nat.le_of_ble_eq_true rfl) (Nat.le_of_ble_eq_true rfl) (lw_ret hx hb hr hlocks hd))
    · exact absurd (show none = some (Value.int 1) from hq) (by simp)
    · exact absurd (show some (Value.long v) = some (Value.int 1) from hq) (by simp)
    · exact absurd (show some (Value.ref a) = some (Value.int 1) from hq) (by simp)
  refine key ⟨hx, hb, hml, hown, hw, ⟨hK, hE⟩, rfl, fun q h => h, ⟨Nat.le_of_ble_eq_true rfl, Nat.le_of_ble_eq_true rfl, Nat.le_of_ble_eq_true rfl, Nat.le_of_ble_eq_true rfl⟩, fun _ _ _ _ _ _ h => h.elim⟩ _ s.heap [] hl (fun k q h => by simp at h) ⟨fun i j p q h => by simp at h, fun k q h => by simp at h⟩ va_S.rf
