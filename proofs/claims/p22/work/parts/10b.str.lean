abbrev mJ0_length : uk_M := (yJ0_length_8abf5, cJ0_length_8abf5, 1, some .int)
abbrev mJ0_charAt : uk_M := (yJ0_charAt_5068e, cJ0_charAt_5068e, 2, some .char)
abbrev mJ0_coder : uk_M := (yJ0_coder_7d493, cJ0_coder_7d493, 1, some .byte)
abbrev mJ0_isLatin1 : uk_M := (yJ0_isLatin1_aae02, cJ0_isLatin1_aae02, 1, some .boolean)
abbrev mJ0_checkIndex : uk_M := (yJ0_checkIndex_df160, cJ0_checkIndex_df160, 2, none)
abbrev mJ1_charAt : uk_M := (yJ1_charAt_3b067, cJ1_charAt_3b067, 2, some .char)
abbrev mJ3_checkIndex : uk_M := (yJ3_checkIndex_8e157, cJ3_checkIndex_8e157, 3, some .int)
theorem uk_JV : Cond.fieldLink RJ0 9 "java/lang/String" "value" "[B" ∈ uk_w := uk_wI (List.mem_of_getElem? (i := 1182) (by decide +kernel)) rfl
theorem uk_JC : Cond.fieldLink RJ0 15 "java/lang/String" "coder" "B" ∈ uk_w := uk_wI (List.mem_of_getElem? (i := 1183) (by decide +kernel)) rfl
theorem uk_JS : Cond.fieldLink RJ0 38 "java/lang/String" "COMPACT_STRINGS" "Z" ∈ uk_w := uk_wI (List.mem_of_getElem? (i := 320) (by decide +kernel)) rfl
theorem uk_JF : Cond.fieldLink RJ0 1053 "jdk/internal/util/Preconditions" "SIOOBE_FORMATTER" "Ljava/util/function/BiFunction;" ∈ uk_w := uk_wI (List.mem_of_getElem? (i := 336) (by decide +kernel)) rfl
theorem uk_JI0 : Cond.initialized RJ0 ∈ uk_w := uk_wI (List.mem_of_getElem? (i := 9) (by decide +kernel)) rfl
theorem uk_JI1 : Cond.initialized RJ1 ∈ uk_w := uk_wI (List.mem_of_getElem? (i := 10) (by decide +kernel)) rfl
theorem uk_JI3 : Cond.initialized RJ3 ∈ uk_w := uk_wI (List.mem_of_getElem? (i := 11) (by decide +kernel)) rfl
theorem uk_JL335 : Cond.methodLink RJ0 335 mJ0_coder.1 ∈ uk_w := uk_wI (List.mem_of_getElem? (i := 316) (by decide +kernel)) rfl
theorem uk_JL1059 : Cond.methodLink RJ0 1059 mJ3_checkIndex.1 ∈ uk_w := uk_wI (List.mem_of_getElem? (i := 338) (by decide +kernel)) rfl
theorem uk_JL9 : Cond.methodLink RJ1 9 mJ0_checkIndex.1 ∈ uk_w := uk_wI (List.mem_of_getElem? (i := 333) (by decide +kernel)) rfl
theorem uk_JL492 : Cond.methodLink RJ0 492 mJ0_isLatin1.1 ∈ uk_w := uk_wI (List.mem_of_getElem? (i := 326) (by decide +kernel)) rfl
theorem uk_JL495 : Cond.methodLink RJ0 495 mJ1_charAt.1 ∈ uk_w := uk_wI (List.mem_of_getElem? (i := 330) (by decide +kernel)) rfl
theorem uk_JL35 : Cond.methodLink RX4 35 mJ0_length.1 ∈ uk_w := uk_wI (List.mem_of_getElem? (i := 312) (by decide +kernel)) rfl
theorem uk_JL41 : Cond.methodLink RX4 41 mJ0_charAt.1 ∈ uk_w := uk_wI (List.mem_of_getElem? (i := 322) (by decide +kernel)) rfl
theorem uk_JIcoder : Cond.instanceMethod mJ0_coder.1 ∈ uk_w := uk_wI (List.mem_of_getElem? (i := 317) (by decide +kernel)) rfl
theorem uk_JScoder : Cond.selects RJ0 mJ0_coder.1 mJ0_coder.1 ∈ uk_w := uk_wI (List.mem_of_getElem? (i := 318) (by decide +kernel)) rfl
theorem uk_JKcoder : Cond.code mJ0_coder.1 mJ0_coder.2.1 mJ0_coder.2.2.1 mJ0_coder.2.2.2 ∈ uk_w := uk_wI (List.mem_of_getElem? (i := 319) (by decide +kernel)) rfl
theorem uk_JIlatin : Cond.instanceMethod mJ0_isLatin1.1 ∈ uk_w := uk_wI (List.mem_of_getElem? (i := 327) (by decide +kernel)) rfl
theorem uk_JSlatin : Cond.selects RJ0 mJ0_isLatin1.1 mJ0_isLatin1.1 ∈ uk_w := uk_wI (List.mem_of_getElem? (i := 328) (by decide +kernel)) rfl
theorem uk_JKlatin : Cond.code mJ0_isLatin1.1 mJ0_isLatin1.2.1 mJ0_isLatin1.2.2.1 mJ0_isLatin1.2.2.2 ∈ uk_w := uk_wI (List.mem_of_getElem? (i := 329) (by decide +kernel)) rfl
theorem uk_JIlen : Cond.instanceMethod mJ0_length.1 ∈ uk_w := uk_wI (List.mem_of_getElem? (i := 313) (by decide +kernel)) rfl
theorem uk_JSlen : Cond.selects RJ0 mJ0_length.1 mJ0_length.1 ∈ uk_w := uk_wI (List.mem_of_getElem? (i := 314) (by decide +kernel)) rfl
theorem uk_JKlen : Cond.code mJ0_length.1 mJ0_length.2.1 mJ0_length.2.2.1 mJ0_length.2.2.2 ∈ uk_w := uk_wI (List.mem_of_getElem? (i := 315) (by decide +kernel)) rfl
theorem uk_JIchar : Cond.instanceMethod mJ0_charAt.1 ∈ uk_w := uk_wI (List.mem_of_getElem? (i := 323) (by decide +kernel)) rfl
theorem uk_JSchar : Cond.selects RJ0 mJ0_charAt.1 mJ0_charAt.1 ∈ uk_w := uk_wI (List.mem_of_getElem? (i := 324) (by decide +kernel)) rfl
theorem uk_JKchar : Cond.code mJ0_charAt.1 mJ0_charAt.2.1 mJ0_charAt.2.2.1 mJ0_charAt.2.2.2 ∈ uk_w := uk_wI (List.mem_of_getElem? (i := 325) (by decide +kernel)) rfl
theorem uk_JTpre : Cond.static mJ3_checkIndex.1 ∈ uk_w := uk_wI (List.mem_of_getElem? (i := 339) (by decide +kernel)) rfl
theorem uk_JKpre : Cond.code mJ3_checkIndex.1 mJ3_checkIndex.2.1 mJ3_checkIndex.2.2.1 mJ3_checkIndex.2.2.2 ∈ uk_w := uk_wI (List.mem_of_getElem? (i := 340) (by decide +kernel)) rfl
theorem uk_JTcheck : Cond.static mJ0_checkIndex.1 ∈ uk_w := uk_wI (List.mem_of_getElem? (i := 334) (by decide +kernel)) rfl
theorem uk_JKcheck : Cond.code mJ0_checkIndex.1 mJ0_checkIndex.2.1 mJ0_checkIndex.2.2.1 mJ0_checkIndex.2.2.2 ∈ uk_w := uk_wI (List.mem_of_getElem? (i := 335) (by decide +kernel)) rfl
theorem uk_JTchar1 : Cond.static mJ1_charAt.1 ∈ uk_w := uk_wI (List.mem_of_getElem? (i := 331) (by decide +kernel)) rfl
theorem uk_JKchar1 : Cond.code mJ1_charAt.1 mJ1_charAt.2.1 mJ1_charAt.2.2.1 mJ1_charAt.2.2.2 ∈ uk_w := uk_wI (List.mem_of_getElem? (i := 332) (by decide +kernel)) rfl
section UKS
variable {G : uk_D} {X : uk_Cx} {M : uk_M} {d : Nat} {Q : Option Value → uk_Mem → Prop} {pc : Nat} {lv : List (Nat × Value)} {st stk : List Value} {u : uk_Mem}
theorem g_ldcS {j ix : Nat} (hj : j < 6) (hx : uk_sIx.getD j 0 = ix) (hM : M.1.cls = "UncookMill$TextReader") (hd : decode M.2.1 pc = .ok (.ldc ix, 2)) (K : uk_G G X M d Q (pc + 2) lv (.ref (uk_ad G (100 + j)) :: st) u) : uk_G G X M d Q pc lv st u := fun hO ls H locs hl hP hS => by
  have hz := hO.2.2.2.2.2.2.1.2.2.2.2 j hj
  rw [hx] at hz
  exact va_ldcS hO.1 hO.2.1 (by rw [← hM]; exact hO.2.2.2.1) hz hd (K hO ls H locs hl hP hS)
theorem g_strval {j : Nat} (hj : j < 6) (hM : M.1.cls = RJ0) (hd : decode M.2.1 pc = .ok (.getfield 9, 3)) (K : uk_G G X M d Q (pc + 3) lv (.ref (uk_ad G (200 + j)) :: st) u) : uk_G G X M d Q pc lv (.ref (uk_ad G (100 + j)) :: st) u := fun hO ls H locs hl hP hS =>
  vk_getf hO.1 hO.2.1 (hO.2.2.2.2.2.2.1.2.1.1 j hj).2.2.1 hS hO.2.2.2.1 (by rw [hM]; exact hO.2.2.2.2.1 _ uk_JV) (fun _ h => h) hd (K hO ls H locs hl hP hS)
theorem g_strcoder {j : Nat} (hj : j < 6) (hM : M.1.cls = RJ0) (hd : decode M.2.1 pc = .ok (.getfield 15, 3)) (K : uk_G G X M d Q (pc + 3) lv (.int 0 :: st) u) : uk_G G X M d Q pc lv (.ref (uk_ad G (100 + j)) :: st) u := fun hO ls H locs hl hP hS =>
  vk_getf hO.1 hO.2.1 (hO.2.2.2.2.2.2.1.2.1.1 j hj).2.1 hS hO.2.2.2.1 (by rw [hM]; exact hO.2.2.2.2.1 _ uk_JC) (fun _ h => h) hd (K hO ls H locs hl hP hS)
theorem g_compact (hM : M.1.cls = RJ0) (hd : decode M.2.1 pc = .ok (.getstatic 38, 3)) (K : uk_G G X M d Q (pc + 3) lv (.int 1 :: st) u) : uk_G G X M d Q pc lv st u := fun hO ls H locs hl hP hS =>
  va_gets hO.1 hO.2.1 hO.2.2.2.2.2.2.1.2.2.1 hS hO.2.2.2.1 (by rw [hM]; exact hO.2.2.2.2.1 _ uk_JS) (fun _ h => h) hd (K hO ls H locs hl hP hS)
theorem g_sioobe (hM : M.1.cls = RJ0) (hd : decode M.2.1 pc = .ok (.getstatic 1053, 3)) (K : ∀ v : Value, (v = .null ∨ ∃ t, v = .ref t) → uk_G G X M d Q (pc + 3) lv (v :: st) u) : uk_G G X M d Q pc lv st u := fun hO ls H locs hl hP hS => by
  rcases hO.2.2.2.2.2.2.1.2.2.2.1 with hz | ⟨t, hz⟩
  · exact va_gets hO.1 hO.2.1 hz hS hO.2.2.2.1 (by rw [hM]; exact hO.2.2.2.2.1 _ uk_JF) (fun _ h => h) hd (K _ (Or.inl rfl) hO ls H locs hl hP hS)
  · exact va_gets hO.1 hO.2.1 hz hS hO.2.2.2.1 (by rw [hM]; exact hO.2.2.2.2.1 _ uk_JF) (fun _ h => h) hd (K _ (Or.inr ⟨t, rfl⟩) hO ls H locs hl hP hS)
theorem g_tlen {j : Nat} {v : Int32} (hj : j < 6) (hv : Int32.ofNat (uk_sLen.getD j 0) = v) (hd : decode M.2.1 pc = .ok (.arraylength, 1)) (K : uk_G G X M d Q (pc + 1) lv (.int v :: st) u) : uk_G G X M d Q pc lv (.ref (uk_ad G (200 + j)) :: st) u := fun hO ls H locs hl hP hS =>
  va_tlen hO.1 hO.2.1 (hO.2.2.2.2.2.2.1.2.1.1 j hj).2.2.2 hS hv hd (K hO ls H locs hl hP hS)
theorem g_tb {j : Nat} {i : Int32} (hj : j < 6) (hi : vp_in i (uk_sLen.getD j 0)) (hd : decode M.2.1 pc = .ok (.baload, 1)) (K : uk_G G X M d Q (pc + 1) lv (.int ((uk_sByt.getD j []).getD i.toNatClampNeg 0) :: st) u) : uk_G G X M d Q pc lv (.int i :: .ref (uk_ad G (200 + j)) :: st) u := fun hO ls H locs hl hP hS =>
  va_tb hO.1 hO.2.1 (hO.2.2.2.2.2.2.1.2.1.1 j hj).2.2.2 hS hi rfl hd (K hO ls H locs hl hP hS)
theorem g_i2c {x : Int32} (hd : decode M.2.1 pc = .ok (.i2c, 1)) (k : uk_G G X M d Q (pc + 1) lv (.int (x.toUInt32 % 65536).toInt32 :: st) u) : uk_G G X M d Q pc lv (.int x :: st) u := fun hO ls H locs hl hP hS => lv_i2c hO.1 hO.2.1 hd rfl (k hO ls H locs hl hP hS)
/-- a text's own method -/
theorem g_callT {M' : uk_M} {d' idx j nA : Nat} {As : List Value} {Q' : Option Value → uk_Mem → Prop} (hj : j < 6) (hC : M'.1.cls = RJ0) (hy : M'.1.cls ≠ "java/lang/invoke/MethodHandle" ∧ M'.1.cls ≠ "java/lang/invoke/VarHandle" ∧ (parseMethodDescriptor M'.1.desc).map (fun d => d.parameters.length) = some nA) (hn : M'.2.2.1 ≤ 21)
    (w1 : Cond.methodLink M.1.cls idx M'.1 ∈ uk_w) (w2 : Cond.instanceMethod M'.1 ∈ uk_w) (w3 : Cond.selects RJ0 M'.1 M'.1 ∈ uk_w) (w4 : Cond.initialized RJ0 ∈ uk_w) (w5 : Cond.code M'.1 M'.2.1 M'.2.2.1 M'.2.2.2 ∈ uk_w)
    (hA : As.length = nA) (hm : uk_Meth G d' M' (.ref (uk_ad G (100 + j)) :: As) u Q') (hdd : d' + 1 ≤ d) (hst : stk = As.reverse ++ .ref (uk_ad G (100 + j)) :: st) (hc : (st.map fun v => v.category).sum ≤ 8) (hd : decode M.2.1 pc = .ok (.invokevirtual idx, 3))
    (K : ∀ (r : Option Value) (u' : uk_Mem), Q' r u' → uk_G G X M d Q (pc + 3) lv (r.toList ++ st) u') : uk_G G X M d Q pc lv stk u := fun hO ls H locs hl hP hS => by
  have hw := hO.2.2.2.2.1
  have w4' : Cond.initialized M'.1.cls ∈ uk_w := by rw [hC]; exact w4
  exact uk_after (Q' := Q') hO hl hS (a := (Value.ref (uk_ad G (100 + j)) :: As).toArray) (va_runV (As := As) (rest := st) (Ts := uk_w) (C := RJ0) ⟨hO.1, hO.2.1, hO.2.2.1, hO.2.2.2.1, hw⟩ hm ⟨callB_of nA hw (uk_goodIn w5) rfl rfl rfl (hw _ w4') (hw _ w1) hy (uk_room hO hdd hn), hw _ w2, hw _ w3⟩ ⟨uk_blind, vk_recv (adK := fun i => uk_ad G (100 + i)) (adV := fun i => uk_ad G (200 + i)) (i := j) hO.2.2.2.2.2.2.1.2.1 hj hS, uk_pre hO hP hS⟩ rfl hA hl.1 hst (lv_room hc) hd ⟨hO.2.2.2.2.2.2.2.2.1.2.2.1, hO.2.2.2.2.2.2.2.2.1.2.2.2⟩) K
end UKS
theorem cj_coder {G : uk_D} (hs : uk_Sep G) {u : uk_Mem} {j : Nat} (hj : j < 6) (d : Nat) : uk_Meth G d mJ0_coder [.ref (uk_ad G (100 + j))] u (fun r u' => r = some (.int 0) ∧ u' = u) := by
  refine uk_Meth.of hs (by decide) (Nat.le_of_ble_eq_true rfl) (fun X => ?_)
  refine g_compact rfl dJ0_coder_7d493_0 ?_
  refine g_if_eq (tgt := 13) dJ0_coder_7d493_3 (by decide) (fun c => absurd c (by decide)) (fun c => ?_)
  refine g_aload_n dJ0_coder_7d493_6 rfl ?_
  refine g_strcoder hj rfl dJ0_coder_7d493_7 ?_
  refine g_goto (tgt := 14) dJ0_coder_7d493_10 (by decide) ?_
  exact g_iret (ty := .byte) dJ0_coder_7d493_14 rfl rfl ⟨rfl, rfl⟩
theorem cj_isLatin1 {G : uk_D} (hs : uk_Sep G) {u : uk_Mem} {j : Nat} (hj : j < 6) (d : Nat) : uk_Meth G d mJ0_isLatin1 [.ref (uk_ad G (100 + j))] u (fun r u' => r = some (.int 1) ∧ u' = u) := by
  refine uk_Meth.of hs (by decide) (Nat.le_of_ble_eq_true rfl) (fun X => ?_)
  refine g_compact rfl dJ0_isLatin1_aae02_0 ?_
  refine g_if_eq (tgt := 17) dJ0_isLatin1_aae02_3 (by decide) (fun c => absurd c (by decide)) (fun c => ?_)
  refine g_aload_n dJ0_isLatin1_aae02_6 rfl ?_
  refine g_strcoder hj rfl dJ0_isLatin1_aae02_7 ?_
  refine g_if_ne (tgt := 17) dJ0_isLatin1_aae02_10 (by decide) (fun c => absurd rfl c) (fun c => ?_)
  refine g_iconst (v := 1) dJ0_isLatin1_aae02_13 (by decide) ?_
  refine g_goto (tgt := 18) dJ0_isLatin1_aae02_14 (by decide) ?_
  exact g_iret (ty := .boolean) dJ0_isLatin1_aae02_18 rfl rfl ⟨rfl, rfl⟩
theorem cj_length {G : uk_D} (hs : uk_Sep G) {u : uk_Mem} {j : Nat} (hj : j < 6) (d : Nat) : uk_Meth G (d + 1) mJ0_length [.ref (uk_ad G (100 + j))] u (fun r u' => r = some (.int (Int32.ofNat (uk_sLen.getD j 0))) ∧ u' = u) := by
  refine uk_Meth.of hs (by decide) (Nat.le_of_ble_eq_true rfl) (fun X => ?_)
  refine g_aload_n dJ0_length_8abf5_0 rfl ?_
  refine g_strval hj rfl dJ0_length_8abf5_1 ?_
  refine g_tlen hj rfl dJ0_length_8abf5_4 ?_
  refine g_aload_n dJ0_length_8abf5_5 rfl ?_
  refine g_callT (M' := mJ0_coder) (As := []) (nA := 0) hj rfl ⟨by decide +kernel, by decide +kernel, by decide +kernel⟩ (by decide) uk_JL335 uk_JIcoder uk_JScoder uk_JI0 uk_JKcoder rfl (cj_coder hs hj d) (by omega) rfl (Nat.le_of_ble_eq_true rfl) dJ0_length_8abf5_6 (fun r v q => ?_)
  obtain ⟨rfl, q2⟩ := q
  rw [q2]
  refine g_ishr dJ0_length_8abf5_9 (fun z ez => ?_)
  rw [sb_shr0] at ez
  exact g_iret (ty := .int) dJ0_length_8abf5_10 rfl rfl ⟨by rw [ez], rfl⟩
theorem cj_pre {G : uk_D} (hs : uk_Sep G) {u : uk_Mem} {i n : Int32} {v : Value} (hv : v = .null ∨ ∃ t, v = .ref t) (h0 : 0 ≤ i) (h1 : i < n) (d : Nat) : uk_Meth G d mJ3_checkIndex [.int i, .int n, v] u (fun r u' => r = some (.int i) ∧ u' = u) := by
  have hl : (lg_sl [.int i, .int n, v]).length ≤ 3 := by
    rcases hv with rfl | ⟨t, rfl⟩ <;> exact Nat.le_of_ble_eq_true rfl
  have key : ∀ (lv : List (Nat × Value)), uk_lk lv 0 = some (.int i) → uk_lk lv 1 = some (.int n) → ∀ X : uk_Cx, uk_G G X mJ3_checkIndex d (fun r u' => r = some (.int i) ∧ u' = u) 0 lv [] u := by
    intro lv l0 l1 X
    refine g_iload_n dJ3_checkIndex_8e157_0 l0 ?_
    refine g_if_lt (tgt := 9) dJ3_checkIndex_8e157_1 (by decide) (fun c => absurd h0 (by grind)) (fun c => ?_)
    refine g_iload_n dJ3_checkIndex_8e157_4 l0 ?_
    refine g_iload_n dJ3_checkIndex_8e157_5 l1 ?_
    refine g_icmp_lt (tgt := 16) dJ3_checkIndex_8e157_6 (by decide) (fun c => ?_) (fun c => absurd h1 c)
    refine g_iload_n dJ3_checkIndex_8e157_16 l0 ?_
    exact g_iret (ty := .int) dJ3_checkIndex_8e157_17 rfl rfl ⟨rfl, rfl⟩
  refine uk_Meth.of hs (by decide) hl (fun X => ?_)
  rcases hv with rfl | ⟨t, rfl⟩ <;> exact key _ rfl rfl X
theorem cj_check {G : uk_D} (hs : uk_Sep G) {u : uk_Mem} {i n : Int32} (h0 : 0 ≤ i) (h1 : i < n) (d : Nat) : uk_Meth G (d + 1) mJ0_checkIndex [.int i, .int n] u (fun r u' => r = none ∧ u' = u) := by
  refine uk_Meth.of hs (by decide) (Nat.le_of_ble_eq_true rfl) (fun X => ?_)
  refine g_iload_n dJ0_checkIndex_df160_0 rfl ?_
  refine g_iload_n dJ0_checkIndex_df160_1 rfl ?_
  refine g_sioobe rfl dJ0_checkIndex_df160_2 (fun v hv => ?_)
  refine g_callS (M' := mJ3_checkIndex) (nA := 3) (As := [.int i, .int n, v]) ⟨by decide +kernel, by decide +kernel, by decide +kernel⟩ (by decide) uk_JL1059 uk_JTpre uk_JI3 uk_JKpre rfl (cj_pre hs hv h0 h1 d) (by omega) rfl (Nat.le_of_ble_eq_true rfl) dJ0_checkIndex_df160_5 (fun r w q => ?_)
  obtain ⟨rfl, q2⟩ := q
  rw [q2]
  refine g_pop dJ0_checkIndex_df160_8 rfl ?_
  exact g_vret dJ0_checkIndex_df160_9 rfl ⟨rfl, rfl⟩
theorem uk_slen {j : Nat} (hj : j < 6) : (Int32.ofNat (uk_sLen.getD j 0)).toInt = ((uk_sLen.getD j 0 : Nat) : Int) ∧ (Int32.ofNat (uk_sLen.getD j 0) = 3 ∨ Int32.ofNat (uk_sLen.getD j 0) = 4) := by
  rcases (show j = 0 ∨ j = 1 ∨ j = 2 ∨ j = 3 ∨ j = 4 ∨ j = 5 by omega) with rfl | rfl | rfl | rfl | rfl | rfl <;> exact ⟨rfl, by decide⟩
theorem cj_charAt1 {G : uk_D} (hs : uk_Sep G) {u : uk_Mem} {j : Nat} {i : Int32} (hj : j < 6) (h0 : 0 ≤ i) (h1 : i < Int32.ofNat (uk_sLen.getD j 0)) (d : Nat) : uk_Meth G (d + 2) mJ1_charAt [.ref (uk_ad G (200 + j)), .int i] u (fun r u' => r = some (.int (((((uk_sByt.getD j []).getD i.toNatClampNeg 0) &&& 255).toUInt32 % 65536).toInt32)) ∧ u' = u) := by
  refine uk_Meth.of hs (by decide) (Nat.le_of_ble_eq_true rfl) (fun X => ?_)
  refine g_iload_n dJ1_charAt_3b067_0 rfl ?_
  refine g_aload_n dJ1_charAt_3b067_1 rfl ?_
  refine g_tlen hj rfl dJ1_charAt_3b067_2 ?_
  refine g_callS (M' := mJ0_checkIndex) (nA := 2) (As := [.int i, .int (Int32.ofNat (uk_sLen.getD j 0))]) ⟨by decide +kernel, by decide +kernel, by decide +kernel⟩ (by decide) uk_JL9 uk_JTcheck uk_JI0 uk_JKcheck rfl (cj_check hs h0 h1 d) (by omega) rfl (Nat.le_of_ble_eq_true rfl) dJ1_charAt_3b067_3 (fun r w q => ?_)
  obtain ⟨rfl, q2⟩ := q
  rw [q2]
  refine g_aload_n dJ1_charAt_3b067_6 rfl ?_
  refine g_iload_n dJ1_charAt_3b067_7 rfl ?_
  refine g_tb hj (uk_vin _ (uk_slen hj).1 h0 h1) dJ1_charAt_3b067_8 ?_
  refine g_sipush (v := 255) dJ1_charAt_3b067_9 (by decide) ?_
  refine g_iand dJ1_charAt_3b067_12 ?_
  refine g_i2c dJ1_charAt_3b067_13 ?_
  exact g_iret (ty := .char) dJ1_charAt_3b067_14 rfl (pk_nc _) ⟨rfl, rfl⟩
theorem cj_charAt {G : uk_D} (hs : uk_Sep G) {u : uk_Mem} {j : Nat} {i : Int32} (hj : j < 6) (h0 : 0 ≤ i) (h1 : i < Int32.ofNat (uk_sLen.getD j 0)) (d : Nat) : uk_Meth G (d + 3) mJ0_charAt [.ref (uk_ad G (100 + j)), .int i] u (fun r u' => r = some (.int (((((uk_sByt.getD j []).getD i.toNatClampNeg 0) &&& 255).toUInt32 % 65536).toInt32)) ∧ u' = u) := by
  refine uk_Meth.of hs (by decide) (Nat.le_of_ble_eq_true rfl) (fun X => ?_)
  refine g_aload_n dJ0_charAt_5068e_0 rfl ?_
  refine g_callT (M' := mJ0_isLatin1) (As := []) (nA := 0) hj rfl ⟨by decide +kernel, by decide +kernel, by decide +kernel⟩ (by decide) uk_JL492 uk_JIlatin uk_JSlatin uk_JI0 uk_JKlatin rfl (cj_isLatin1 hs hj (d + 2)) (by omega) rfl (Nat.le_of_ble_eq_true rfl) dJ0_charAt_5068e_1 (fun r v q => ?_)
  obtain ⟨rfl, q2⟩ := q
  rw [q2]
  refine g_if_eq (tgt := 16) dJ0_charAt_5068e_4 (by decide) (fun c => absurd c (by decide)) (fun c => ?_)
  refine g_aload_n dJ0_charAt_5068e_7 rfl ?_
  refine g_strval hj rfl dJ0_charAt_5068e_8 ?_
  refine g_iload_n dJ0_charAt_5068e_11 rfl ?_
  refine g_callS (M' := mJ1_charAt) (nA := 2) (As := [.ref (uk_ad G (200 + j)), .int i]) ⟨by decide +kernel, by decide +kernel, by decide +kernel⟩ (by decide) uk_JL495 uk_JTchar1 uk_JI1 uk_JKchar1 rfl (cj_charAt1 hs hj h0 h1 d) (by omega) rfl (Nat.le_of_ble_eq_true rfl) dJ0_charAt_5068e_12 (fun r v q => ?_)
  obtain ⟨rfl, q3⟩ := q
  rw [q3]
  exact g_iret (ty := .char) dJ0_charAt_5068e_15 rfl (pk_nc _) ⟨rfl, rfl⟩
section UKT
variable {G : uk_D} {X : uk_Cx} {M : uk_M} {d : Nat} {Q : Option Value → uk_Mem → Prop} {pc : Nat} {lv : List (Nat × Value)} {st : List Value} {u : uk_Mem}
theorem g_slen {j : Nat} (hs : uk_Sep G) (hj : j < 6) (hM : M.1.cls = RX4) (hdd : 2 ≤ d) (hc : (st.map fun v => v.category).sum ≤ 8) (hd : decode M.2.1 pc = .ok (.invokevirtual 35, 3)) (K : uk_G G X M d Q (pc + 3) lv (.int (Int32.ofNat (uk_sLen.getD j 0)) :: st) u) : uk_G G X M d Q pc lv (.ref (uk_ad G (100 + j)) :: st) u :=
  g_callT (M' := mJ0_length) (As := []) (nA := 0) hj rfl ⟨by decide +kernel, by decide +kernel, by decide +kernel⟩ (by decide) (by rw [hM]; exact uk_JL35) uk_JIlen uk_JSlen uk_JI0 uk_JKlen rfl (cj_length hs hj 0) (by omega) rfl hc hd (fun r v q => by
    obtain ⟨rfl, q2⟩ := q
    rw [q2]
    exact K)
theorem g_schar {j : Nat} {i : Int32} (hs : uk_Sep G) (hj : j < 6) (h0 : 0 ≤ i) (h1 : i < Int32.ofNat (uk_sLen.getD j 0)) (hM : M.1.cls = RX4) (hdd : 4 ≤ d) (hc : (st.map fun v => v.category).sum ≤ 8) (hd : decode M.2.1 pc = .ok (.invokevirtual 41, 3)) (K : uk_G G X M d Q (pc + 3) lv (.int (((((uk_sByt.getD j []).getD i.toNatClampNeg 0) &&& 255).toUInt32 % 65536).toInt32) :: st) u) : uk_G G X M d Q pc lv (.int i :: .ref (uk_ad G (100 + j)) :: st) u :=
  g_callT (M' := mJ0_charAt) (As := [.int i]) (nA := 1) hj rfl ⟨by decide +kernel, by decide +kernel, by decide +kernel⟩ (by decide) (by rw [hM]; exact uk_JL41) uk_JIchar uk_JSchar uk_JI0 uk_JKchar rfl (cj_charAt hs hj h0 h1 0) (by omega) rfl hc hd (fun r v q => by
    obtain ⟨rfl, q2⟩ := q
    rw [q2]
    exact K)
end UKT
theorem uk_lg0 {x : Int64} (h : ¬ lg_cmp x 0 ≤ 0) : ¬ x = 0 := fun q => h (by rw [q]; decide)
abbrev q_X6_isDigit (u : uk_Mem) (v : Int32) (r : Option Value) (u' : uk_Mem) : Prop := (∃ x : Int32, r = some (.int x) ∧ (x = 0 ∨ x = 1) ∧ (¬ x = 0 → 0 ≤ v ∧ v ≤ 9) ∧ (x = 0 → True)) ∧ (u' = u)
abbrev q_X6_isFlag (u : uk_Mem) (w : Int32) (r : Option Value) (u' : uk_Mem) : Prop := (∃ x : Int32, r = some (.int x) ∧ (x = 0 ∨ x = 1) ∧ (¬ x = 0 → w = 0 ∨ w = 1) ∧ (x = 0 → True)) ∧ (u' = u)
set_option maxHeartbeats 4000000 in
set_option maxRecDepth 20000 in
theorem c_X6_isFlag {G : uk_D} (hs : uk_Sep G) {u : uk_Mem} (hu : iv u) (w : Int32) (d : Nat) : uk_Meth G d mX6_isFlag [.int w] u (q_X6_isFlag u w) := by
  refine uk_Meth.of hs (by decide) (Nat.le_of_ble_eq_true rfl) (fun X => ?_)
  refine g_iload_n dX6_isFlag_0 rfl ?_
  refine g_if_eq (tgt := 9) dX6_isFlag_1 (by decide) (fun c1 => ?_) (fun c1 => ?_)
  · refine g_iconst (v := 1) dX6_isFlag_9 (by decide) ?_
    refine g_goto (tgt := 14) dX6_isFlag_10 (by decide) ?_
    exact g_iret (ty := .boolean) dX6_isFlag_14 rfl rfl ⟨⟨1, rfl, Or.inr rfl, fun _ => by first | trivial | lia | grind, fun q => absurd q (by decide)⟩, rfl⟩
  · refine g_iload_n dX6_isFlag_4 rfl ?_
    refine g_iconst (v := 1) dX6_isFlag_5 (by decide) ?_
    refine g_icmp_ne (tgt := 13) dX6_isFlag_6 (by decide) (fun c2 => ?_) (fun c2 => ?_)
    · refine g_iconst (v := 0) dX6_isFlag_13 (by decide) ?_
      exact g_iret (ty := .boolean) dX6_isFlag_14 rfl rfl ⟨⟨0, rfl, Or.inl rfl, fun q => absurd rfl q, fun _ => by first | trivial | lia | grind⟩, rfl⟩
    · refine g_iconst (v := 1) dX6_isFlag_9 (by decide) ?_
      refine g_goto (tgt := 14) dX6_isFlag_10 (by decide) ?_
      exact g_iret (ty := .boolean) dX6_isFlag_14 rfl rfl ⟨⟨1, rfl, Or.inr rfl, fun _ => by first | trivial | lia | grind, fun q => absurd q (by decide)⟩, rfl⟩
abbrev q_X6_isImage (u : uk_Mem) (k : Int32) (r : Option Value) (u' : uk_Mem) : Prop := (∃ x : Int32, r = some (.int x) ∧ (x = 0 ∨ x = 1) ∧ (¬ x = 0 → 0 ≤ k ∧ k ≤ 1) ∧ (x = 0 → True)) ∧ (u' = u)
abbrev q_X6_isSheet (u : uk_Mem) (k : Int32) (r : Option Value) (u' : uk_Mem) : Prop := (∃ x : Int32, r = some (.int x) ∧ (x = 0 ∨ x = 1) ∧ (¬ x = 0 → 0 ≤ k ∧ k ≤ 3) ∧ (x = 0 → True)) ∧ (u' = u)
abbrev q_X6_isLane (u : uk_Mem) (l : Int32) (r : Option Value) (u' : uk_Mem) : Prop := (∃ x : Int32, r = some (.int x) ∧ (x = 0 ∨ x = 1) ∧ (¬ x = 0 → 0 ≤ l ∧ l ≤ 2) ∧ (x = 0 → True)) ∧ (u' = u)
abbrev q_X6_drawn (u : uk_Mem) (s : Int32) (r : Option Value) (u' : uk_Mem) : Prop := (∃ x : Int32, r = some (.int x) ∧ True) ∧ (u' = u)
set_option maxHeartbeats 4000000 in
set_option maxRecDepth 20000 in
theorem c_X6_drawn {G : uk_D} (hs : uk_Sep G) {u : uk_Mem} (hu : iv u) (s : Int32) (d : Nat) : uk_Meth G d mX6_drawn [.int s] u (q_X6_drawn u s) := by
  refine uk_Meth.of hs (by decide) (Nat.le_of_ble_eq_true rfl) (fun X => ?_)
  refine g_iload_n dX6_drawn_0 rfl ?_
  refine g_bipush (v := 16) dX6_drawn_1 (by decide) ?_
  refine g_iushr dX6_drawn_3 (fun x1 ex1 => ?_)
  refine g_sipush (v := 32767) dX6_drawn_4 (by decide) ?_
  refine g_iand dX6_drawn_7 ?_
  refine g_topi (fun x2 ex2 => ?_)
  exact g_iret (ty := .int) dX6_drawn_8 rfl rfl ⟨⟨_, rfl, by first | trivial | lia | grind⟩, rfl⟩
abbrev q_X6_greatestCommon (u : uk_Mem) (a : Int64) (b : Int64) (r : Option Value) (u' : uk_Mem) : Prop := (∃ x : Int64, r = some (.long x) ∧ ¬ x = 0) ∧ (u' = u)
set_option maxHeartbeats 4000000 in
set_option maxRecDepth 20000 in
theorem c_X6_greatestCommon {G : uk_D} (hs : uk_Sep G) {u : uk_Mem} (hu : iv u) (a : Int64) (b : Int64) (d : Nat) : uk_Meth G d mX6_greatestCommon [.long a, .long b] u (q_X6_greatestCommon u a b) := by
  refine uk_Meth.of hs (by decide) (Nat.le_of_ble_eq_true rfl) (fun X => ?_)
  refine g_lload_n dX6_greatestCommon_0 rfl ?_
  refine g_lstore dX6_greatestCommon_1 (by decide) ?_
  refine g_pick (lv' := [(0, .long a), (2, .long b), (4, .long b)]) [0, 1, 2] rfl ?_
  refine g_lload_n dX6_greatestCommon_3 rfl ?_
  refine g_lstore dX6_greatestCommon_4 (by decide) ?_
  refine g_pick (lv' := [(0, .long a), (2, .long b), (4, .long b), (6, .long a)]) [0, 1, 2, 3] rfl ?_
  refine g_iconst (v := 0) dX6_greatestCommon_6 (by decide) ?_
  refine g_istore dX6_greatestCommon_7 (by decide) ?_
  refine g_pick (lv' := [(0, .long a), (2, .long b), (4, .long b), (6, .long a), (8, .int 0)]) [0, 1, 2, 3, 4] rfl ?_
  have L9_0 : ∀ i4 : Int32, 0 ≤ i4 → i4 ≤ 128 → ∀ (w2 : Int64) (w3 : Int64), uk_G G X mX6_greatestCommon d (q_X6_greatestCommon u a b) 9 [(0, .long a), (2, .long b), (4, .long w2), (6, .long w3), (8, .int i4)] [] u := by
    refine uk_upl 128 ?_
    intro i4 ai4 bi4 ihi4 w2 w3
    refine g_iload dX6_greatestCommon_9 rfl ?_
    refine g_sipush (v := 128) dX6_greatestCommon_11 (by decide) ?_
    refine g_icmp_ge (tgt := 45) dX6_greatestCommon_14 (by decide) (fun c5 => ?_) (fun c5 => ?_)
    · refine g_lload dX6_greatestCommon_45 rfl ?_
      refine g_lconst (v := 0) dX6_greatestCommon_47 (by decide) ?_
      refine g_lcmp dX6_greatestCommon_48 ?_
      refine g_if_le (tgt := 57) dX6_greatestCommon_49 (by decide) (fun c6 => ?_) (fun c6 => ?_)
      · refine g_lconst (v := 1) dX6_greatestCommon_57 (by decide) ?_
        exact g_lret dX6_greatestCommon_58 rfl ⟨⟨_, rfl, by first | trivial | decide | exact uk_lg0 (by assumption) | grind⟩, rfl⟩
      · refine g_lload dX6_greatestCommon_52 rfl ?_
        refine g_goto (tgt := 58) dX6_greatestCommon_54 (by decide) ?_
        exact g_lret dX6_greatestCommon_58 rfl ⟨⟨_, rfl, by first | trivial | decide | exact uk_lg0 (by assumption) | grind⟩, rfl⟩
    · refine g_lload dX6_greatestCommon_17 rfl ?_
      refine g_lconst (v := 0) dX6_greatestCommon_19 (by decide) ?_
      refine g_lcmp dX6_greatestCommon_20 ?_
      refine g_if_le (tgt := 45) dX6_greatestCommon_21 (by decide) (fun c7 => ?_) (fun c7 => ?_)
      · refine g_lload dX6_greatestCommon_45 rfl ?_
        refine g_lconst (v := 0) dX6_greatestCommon_47 (by decide) ?_
        refine g_lcmp dX6_greatestCommon_48 ?_
        refine g_if_le (tgt := 57) dX6_greatestCommon_49 (by decide) (fun c8 => ?_) (fun c8 => ?_)
        · refine g_lconst (v := 1) dX6_greatestCommon_57 (by decide) ?_
          exact g_lret dX6_greatestCommon_58 rfl ⟨⟨_, rfl, by first | trivial | decide | exact uk_lg0 (by assumption) | grind⟩, rfl⟩
        · refine g_lload dX6_greatestCommon_52 rfl ?_
          refine g_goto (tgt := 58) dX6_greatestCommon_54 (by decide) ?_
          exact g_lret dX6_greatestCommon_58 rfl ⟨⟨_, rfl, by first | trivial | decide | exact uk_lg0 (by assumption) | grind⟩, rfl⟩
      · refine g_lload dX6_greatestCommon_24 rfl ?_
        refine g_lload dX6_greatestCommon_26 rfl ?_
        refine g_lrem dX6_greatestCommon_28 (by first | decide | assumption | exact uk_lg0 (by assumption) | grind) ?_
        refine g_topl (fun y9 ey9 => ?_)
        refine g_lstore dX6_greatestCommon_29 (by decide) ?_
        refine g_pick (lv' := [(0, .long a), (2, .long b), (4, .long w2), (6, .long w3), (8, .int i4), (9, .long y9)]) [0, 1, 2, 3, 4, 5] rfl ?_
        refine g_lload dX6_greatestCommon_31 rfl ?_
        refine g_lstore dX6_greatestCommon_33 (by decide) ?_
        refine g_pick (lv' := [(0, .long a), (2, .long b), (4, .long w3), (6, .long w3), (8, .int i4), (9, .long y9)]) [0, 1, 2, 3, 4, 5] rfl ?_
        refine g_lload dX6_greatestCommon_35 rfl ?_
        refine g_lstore dX6_greatestCommon_37 (by decide) ?_
        refine g_pick (lv' := [(0, .long a), (2, .long b), (4, .long w3), (6, .long y9), (8, .int i4), (9, .long y9)]) [0, 1, 2, 3, 4, 5] rfl ?_
        refine g_iinc (v := i4 + 1) dX6_greatestCommon_39 rfl rfl (by decide) ?_
        refine g_pick (lv' := [(0, .long a), (2, .long b), (4, .long w3), (6, .long y9), (8, .int (i4 + 1)), (9, .long y9)]) [0, 1, 2, 3, 4, 5] rfl ?_
        refine g_goto (tgt := 9) dX6_greatestCommon_42 (by decide) ?_
        refine g_pick (lv' := [(0, .long a), (2, .long b), (4, .long w3), (6, .long y9), (8, .int (i4 + 1))]) [0, 1, 2, 3, 4] rfl ?_
        exact ihi4 (by first | lia | grind) w3 y9 
  refine g_pick (lv' := [(0, .long a), (2, .long b), (4, .long b), (6, .long a), (8, .int 0)]) [0, 1, 2, 3, 4] rfl ?_
  exact L9_0 0 (by first | decide | lia | grind) (by first | decide | lia | grind) b a 
abbrev q_X6_scaledMean (u : uk_Mem) (v : Int32) (m : Int32) (x9 : Int32) (r : Option Value) (u' : uk_Mem) : Prop := (∃ x : Int64, r = some (.long x) ∧ True) ∧ (iv u' ∧ fr 59 60 u u')
set_option maxHeartbeats 4000000 in
set_option maxRecDepth 20000 in
theorem c_X6_scaledMean {G : uk_D} (hs : uk_Sep G) {u : uk_Mem} (hu : iv u) (v : Int32) (m : Int32) (x9 : Int32) (p0 : 0 ≤ m) (p1 : m ≤ 7) (d : Nat) : uk_Meth G (d + 1) mX6_scaledMean [.ref (uk_ad G 0), .int v, .int m, .int x9] u (q_X6_scaledMean u v m x9) := by
  refine uk_Meth.of hs (by decide) (Nat.le_of_ble_eq_true rfl) (fun X => ?_)
  have f0 : fr 59 60 u u := fr_rf
  refine g_iconst (v := 0) dX6_scaledMean_0 (by decide) ?_
  refine g_istore dX6_scaledMean_1 (by decide) ?_
  refine g_pick (lv' := [(0, .ref (uk_ad G 0)), (1, .int v), (2, .int m), (3, .int x9), (4, .int 0)]) [0, 1, 2, 3, 4] rfl ?_
  have L3_0 : ∀ i2 : Int32, 0 ≤ i2 → i2 ≤ 8 → ∀ (u3 : uk_Mem), iv u3 → fr 59 60 u u3 → uk_G G X mX6_scaledMean (d + 1) (q_X6_scaledMean u v m x9) 3 [(0, .ref (uk_ad G 0)), (1, .int v), (2, .int m), (3, .int x9), (4, .int i2)] [] u3 := by
    refine uk_upl 8 ?_
    intro i2 ai2 bi2 ihi2  u3 hu3 fu3
    refine g_iload dX6_scaledMean_3 rfl ?_
    refine g_iload_n dX6_scaledMean_5 rfl ?_
    refine g_icmp_gt (tgt := 183) dX6_scaledMean_6 (by decide) (fun c4 => ?_) (fun c4 => ?_)
    · refine g_aload_n dX6_scaledMean_183 rfl ?_
      refine f_X6_73 rfl rfl dX6_scaledMean_184 ?_
      refine g_iload_n dX6_scaledMean_187 rfl ?_
      have v5 : vp_in m 8 := uk_vin 8 rfl (by first | decide | lia | grind) (by first | decide | lia | grind)
      refine g_lald rfl rfl v5 dX6_scaledMean_188 ?_
      refine g_topl (fun y6 ey6 => ?_)
      exact g_lret dX6_scaledMean_189 rfl ⟨⟨_, rfl, by first | trivial | decide | exact uk_lg0 (by assumption) | grind⟩, hu3, fu3⟩
    · refine g_aload_n dX6_scaledMean_9 rfl ?_
      refine f_X6_10 rfl rfl dX6_scaledMean_10 ?_
      refine g_iload dX6_scaledMean_13 rfl ?_
      refine cl_X6_122 (c := 13) (As := [.int i2]) rfl (c_X0_isMade (G := G) hs hu3 uk_isK13 i2 (by first | trivial | decide | lia | grind) (by first | trivial | decide | lia | grind) (d)) rfl (by omega) rfl rfl (Nat.le_of_ble_eq_true rfl) dX6_scaledMean_15 (fun r7 u8 q9 => ?_)
      obtain ⟨⟨x10, rfl, tx10, nx10, zx10⟩, mq9⟩ := q9
      rw [mq9]
      refine g_if_ne (tgt := 44) dX6_scaledMean_18 (by decide) (fun c11 => ?_) (fun c11 => ?_)
      · have zc11 := nx10 c11
        refine g_aload_n dX6_scaledMean_44 rfl ?_
        refine f_X6_73 rfl rfl dX6_scaledMean_45 ?_
        refine g_aload_n dX6_scaledMean_48 rfl ?_
        refine f_X6_10 rfl rfl dX6_scaledMean_49 ?_
        refine f_X6_128 rfl rfl dX6_scaledMean_52 ?_
        refine g_iload dX6_scaledMean_55 rfl ?_
        have v12 : vp_in i2 8 := uk_vin 8 rfl (by first | decide | lia | grind) (by first | decide | lia | grind)
        refine g_iald rfl rfl v12 dX6_scaledMean_57 ?_
        refine g_topi (fun x13 ex13 => ?_)
        have bx13 := uk_cl v12
        have rx13 : 0 ≤ x13 ∧ x13 ≤ 7 := by rw [ex13]; exact iv_at hu3 _ _ (uk_pick1 _ (by omega))
        have v14 : vp_in x13 8 := uk_vin 8 rfl (by first | decide | lia | grind) (by first | decide | lia | grind)
        refine g_lald rfl rfl v14 dX6_scaledMean_58 ?_
        refine g_topl (fun y15 ey15 => ?_)
        refine g_lstore dX6_scaledMean_59 (by decide) ?_
        refine g_pick (lv' := [(0, .ref (uk_ad G 0)), (1, .int v), (2, .int m), (3, .int x9), (4, .int i2), (5, .long y15)]) [0, 1, 2, 3, 4, 5] rfl ?_
        refine g_aload_n dX6_scaledMean_61 rfl ?_
        refine f_X6_73 rfl rfl dX6_scaledMean_62 ?_
        refine g_aload_n dX6_scaledMean_65 rfl ?_
        refine f_X6_10 rfl rfl dX6_scaledMean_66 ?_
        refine f_X6_131 rfl rfl dX6_scaledMean_69 ?_
        refine g_iload dX6_scaledMean_72 rfl ?_
        have v16 : vp_in i2 8 := uk_vin 8 rfl (by first | decide | lia | grind) (by first | decide | lia | grind)
        refine g_iald rfl rfl v16 dX6_scaledMean_74 ?_
        refine g_topi (fun x17 ex17 => ?_)
        have bx17 := uk_cl v16
        have rx17 : 0 ≤ x17 ∧ x17 ≤ 7 := by rw [ex17]; exact iv_at hu3 _ _ (uk_pick1 _ (by omega))
        have v18 : vp_in x17 8 := uk_vin 8 rfl (by first | decide | lia | grind) (by first | decide | lia | grind)
        refine g_lald rfl rfl v18 dX6_scaledMean_75 ?_
        refine g_topl (fun y19 ey19 => ?_)
        refine g_lstore dX6_scaledMean_76 (by decide) ?_
        refine g_pick (lv' := [(0, .ref (uk_ad G 0)), (1, .int v), (2, .int m), (3, .int x9), (4, .int i2), (5, .long y15), (7, .long y19)]) [0, 1, 2, 3, 4, 5, 6] rfl ?_
        refine g_aload_n dX6_scaledMean_78 rfl ?_
        refine f_X6_10 rfl rfl dX6_scaledMean_79 ?_
        refine f_X6_125 rfl rfl dX6_scaledMean_82 ?_
        refine g_iload dX6_scaledMean_85 rfl ?_
        have v20 : vp_in i2 8 := uk_vin 8 rfl (by first | decide | lia | grind) (by first | decide | lia | grind)
        refine g_iald rfl rfl v20 dX6_scaledMean_87 ?_
        refine g_topi (fun x21 ex21 => ?_)
        by_cases c22 : x21 = 0
        · refine g_tabIn (off := (32)) (tgt := 120) dX6_scaledMean_88 (by rw [c22]; decide) (by rw [c22]; decide) (by rw [c22]; rfl) (by decide) ?_
          refine g_aload_n dX6_scaledMean_120 rfl ?_
          refine f_X6_73 rfl rfl dX6_scaledMean_121 ?_
          refine g_iload dX6_scaledMean_124 rfl ?_
          refine g_lload dX6_scaledMean_126 rfl ?_
          refine g_lload dX6_scaledMean_128 rfl ?_
          refine g_ladd dX6_scaledMean_130 ?_
          refine g_topl (fun y23 ey23 => ?_)
          have v24 : vp_in i2 8 := uk_vin 8 rfl (by first | decide | lia | grind) (by first | decide | lia | grind)
          have b25 := uk_cl v24
          refine g_last rfl rfl v24 dX6_scaledMean_131 ?_
          refine g_mem (fun u26 eu26 => ?_)
          have hu26 : iv u26 := by rw [eu26]; exact iv_upL hu3
          have fu26 : fr 59 60 u u26 := by rw [eu26]; exact fr_upL fu3 (by omega) (by omega)
          refine g_goto (tgt := 177) dX6_scaledMean_132 (by decide) ?_
          refine g_iinc (v := i2 + 1) dX6_scaledMean_177 rfl rfl (by decide) ?_
          refine g_pick (lv' := [(0, .ref (uk_ad G 0)), (1, .int v), (2, .int m), (3, .int x9), (4, .int (i2 + 1)), (5, .long y15), (7, .long y19)]) [0, 1, 2, 3, 4, 5, 6] rfl ?_
          refine g_goto (tgt := 3) dX6_scaledMean_180 (by decide) ?_
          refine g_pick (lv' := [(0, .ref (uk_ad G 0)), (1, .int v), (2, .int m), (3, .int x9), (4, .int (i2 + 1))]) [0, 1, 2, 3, 4] rfl ?_
          exact ihi2 (by first | lia | grind)  u26 hu26 fu26 
        by_cases c27 : x21 = 1
        · refine g_tabIn (off := (47)) (tgt := 135) dX6_scaledMean_88 (by rw [c27]; decide) (by rw [c27]; decide) (by rw [c27]; rfl) (by decide) ?_
          refine g_aload_n dX6_scaledMean_135 rfl ?_
          refine f_X6_73 rfl rfl dX6_scaledMean_136 ?_
          refine g_iload dX6_scaledMean_139 rfl ?_
          refine g_lload dX6_scaledMean_141 rfl ?_
          have v28 : vp_in i2 8 := uk_vin 8 rfl (by first | decide | lia | grind) (by first | decide | lia | grind)
          have b29 := uk_cl v28
          refine g_last rfl rfl v28 dX6_scaledMean_143 ?_
          refine g_mem (fun u30 eu30 => ?_)
          have hu30 : iv u30 := by rw [eu30]; exact iv_upL hu3
          have fu30 : fr 59 60 u u30 := by rw [eu30]; exact fr_upL fu3 (by omega) (by omega)
          refine g_goto (tgt := 177) dX6_scaledMean_144 (by decide) ?_
          refine g_iinc (v := i2 + 1) dX6_scaledMean_177 rfl rfl (by decide) ?_
          refine g_pick (lv' := [(0, .ref (uk_ad G 0)), (1, .int v), (2, .int m), (3, .int x9), (4, .int (i2 + 1)), (5, .long y15), (7, .long y19)]) [0, 1, 2, 3, 4, 5, 6] rfl ?_
          refine g_goto (tgt := 3) dX6_scaledMean_180 (by decide) ?_
          refine g_pick (lv' := [(0, .ref (uk_ad G 0)), (1, .int v), (2, .int m), (3, .int x9), (4, .int (i2 + 1))]) [0, 1, 2, 3, 4] rfl ?_
          exact ihi2 (by first | lia | grind)  u30 hu30 fu30 
        by_cases c31 : x21 = 2
        · refine g_tabIn (off := (81)) (tgt := 169) dX6_scaledMean_88 (by rw [c31]; decide) (by rw [c31]; decide) (by rw [c31]; rfl) (by decide) ?_
          refine g_aload_n dX6_scaledMean_169 rfl ?_
          refine f_X6_73 rfl rfl dX6_scaledMean_170 ?_
          refine g_iload dX6_scaledMean_173 rfl ?_
          refine g_lconst (v := 0) dX6_scaledMean_175 (by decide) ?_
          have v32 : vp_in i2 8 := uk_vin 8 rfl (by first | decide | lia | grind) (by first | decide | lia | grind)
          have b33 := uk_cl v32
          refine g_last rfl rfl v32 dX6_scaledMean_176 ?_
          refine g_mem (fun u34 eu34 => ?_)
          have hu34 : iv u34 := by rw [eu34]; exact iv_upL hu3
          have fu34 : fr 59 60 u u34 := by rw [eu34]; exact fr_upL fu3 (by omega) (by omega)
          refine g_iinc (v := i2 + 1) dX6_scaledMean_177 rfl rfl (by decide) ?_
          refine g_pick (lv' := [(0, .ref (uk_ad G 0)), (1, .int v), (2, .int m), (3, .int x9), (4, .int (i2 + 1)), (5, .long y15), (7, .long y19)]) [0, 1, 2, 3, 4, 5, 6] rfl ?_
          refine g_goto (tgt := 3) dX6_scaledMean_180 (by decide) ?_
          refine g_pick (lv' := [(0, .ref (uk_ad G 0)), (1, .int v), (2, .int m), (3, .int x9), (4, .int (i2 + 1))]) [0, 1, 2, 3, 4] rfl ?_
          exact ihi2 (by first | lia | grind)  u34 hu34 fu34 
        by_cases c35 : x21 = 3
        · refine g_tabIn (off := (59)) (tgt := 147) dX6_scaledMean_88 (by rw [c35]; decide) (by rw [c35]; decide) (by rw [c35]; rfl) (by decide) ?_
          refine g_aload_n dX6_scaledMean_147 rfl ?_
          refine f_X6_73 rfl rfl dX6_scaledMean_148 ?_
          refine g_iload dX6_scaledMean_151 rfl ?_
          refine g_lload dX6_scaledMean_153 rfl ?_
          refine g_lload dX6_scaledMean_155 rfl ?_
          refine g_iload_n dX6_scaledMean_157 rfl ?_
          refine g_i2l dX6_scaledMean_158 ?_
          refine g_lmul dX6_scaledMean_159 ?_
          refine g_topl (fun y36 ey36 => ?_)
          refine g_ldc2 (v := 10) k_X6_288 dX6_scaledMean_160 ?_
          refine g_ldiv dX6_scaledMean_163 (by first | decide | assumption | exact uk_lg0 (by assumption) | grind) ?_
          refine g_topl (fun y37 ey37 => ?_)
          refine g_ladd dX6_scaledMean_164 ?_
          refine g_topl (fun y38 ey38 => ?_)
          have v39 : vp_in i2 8 := uk_vin 8 rfl (by first | decide | lia | grind) (by first | decide | lia | grind)
          have b40 := uk_cl v39
          refine g_last rfl rfl v39 dX6_scaledMean_165 ?_
          refine g_mem (fun u41 eu41 => ?_)
          have hu41 : iv u41 := by rw [eu41]; exact iv_upL hu3
          have fu41 : fr 59 60 u u41 := by rw [eu41]; exact fr_upL fu3 (by omega) (by omega)
          refine g_goto (tgt := 177) dX6_scaledMean_166 (by decide) ?_
          refine g_iinc (v := i2 + 1) dX6_scaledMean_177 rfl rfl (by decide) ?_
          refine g_pick (lv' := [(0, .ref (uk_ad G 0)), (1, .int v), (2, .int m), (3, .int x9), (4, .int (i2 + 1)), (5, .long y15), (7, .long y19)]) [0, 1, 2, 3, 4, 5, 6] rfl ?_
          refine g_goto (tgt := 3) dX6_scaledMean_180 (by decide) ?_
          refine g_pick (lv' := [(0, .ref (uk_ad G 0)), (1, .int v), (2, .int m), (3, .int x9), (4, .int (i2 + 1))]) [0, 1, 2, 3, 4] rfl ?_
          exact ihi2 (by first | lia | grind)  u41 hu41 fu41 
        refine g_tabOut (tgt := 169) dX6_scaledMean_88 (uk_swo 0 3 rfl rfl (by first | lia | grind)) (by decide) ?_
        refine g_aload_n dX6_scaledMean_169 rfl ?_
        refine f_X6_73 rfl rfl dX6_scaledMean_170 ?_
        refine g_iload dX6_scaledMean_173 rfl ?_
        refine g_lconst (v := 0) dX6_scaledMean_175 (by decide) ?_
        have v42 : vp_in i2 8 := uk_vin 8 rfl (by first | decide | lia | grind) (by first | decide | lia | grind)
        have b43 := uk_cl v42
        refine g_last rfl rfl v42 dX6_scaledMean_176 ?_
        refine g_mem (fun u44 eu44 => ?_)
        have hu44 : iv u44 := by rw [eu44]; exact iv_upL hu3
        have fu44 : fr 59 60 u u44 := by rw [eu44]; exact fr_upL fu3 (by omega) (by omega)
        refine g_iinc (v := i2 + 1) dX6_scaledMean_177 rfl rfl (by decide) ?_
        refine g_pick (lv' := [(0, .ref (uk_ad G 0)), (1, .int v), (2, .int m), (3, .int x9), (4, .int (i2 + 1)), (5, .long y15), (7, .long y19)]) [0, 1, 2, 3, 4, 5, 6] rfl ?_
        refine g_goto (tgt := 3) dX6_scaledMean_180 (by decide) ?_
        refine g_pick (lv' := [(0, .ref (uk_ad G 0)), (1, .int v), (2, .int m), (3, .int x9), (4, .int (i2 + 1))]) [0, 1, 2, 3, 4] rfl ?_
        exact ihi2 (by first | lia | grind)  u44 hu44 fu44 
      · have zc11 := zx10 c11
        refine g_aload_n dX6_scaledMean_21 rfl ?_
        refine f_X6_73 rfl rfl dX6_scaledMean_22 ?_
        refine g_iload dX6_scaledMean_25 rfl ?_
        refine g_iload dX6_scaledMean_27 rfl ?_
        refine g_iload_n dX6_scaledMean_29 rfl ?_
        refine g_icmp_ne (tgt := 39) dX6_scaledMean_30 (by decide) (fun c45 => ?_) (fun c45 => ?_)
        · refine g_lconst (v := 0) dX6_scaledMean_39 (by decide) ?_
          have v46 : vp_in i2 8 := uk_vin 8 rfl (by first | decide | lia | grind) (by first | decide | lia | grind)
          have b47 := uk_cl v46
          refine g_last rfl rfl v46 dX6_scaledMean_40 ?_
          refine g_mem (fun u48 eu48 => ?_)
          have hu48 : iv u48 := by rw [eu48]; exact iv_upL hu3
          have fu48 : fr 59 60 u u48 := by rw [eu48]; exact fr_upL fu3 (by omega) (by omega)
          refine g_goto (tgt := 177) dX6_scaledMean_41 (by decide) ?_
          refine g_iinc (v := i2 + 1) dX6_scaledMean_177 rfl rfl (by decide) ?_
          refine g_pick (lv' := [(0, .ref (uk_ad G 0)), (1, .int v), (2, .int m), (3, .int x9), (4, .int (i2 + 1))]) [0, 1, 2, 3, 4] rfl ?_
          refine g_goto (tgt := 3) dX6_scaledMean_180 (by decide) ?_
          refine g_pick (lv' := [(0, .ref (uk_ad G 0)), (1, .int v), (2, .int m), (3, .int x9), (4, .int (i2 + 1))]) [0, 1, 2, 3, 4] rfl ?_
          exact ihi2 (by first | lia | grind)  u48 hu48 fu48 
        · refine g_ldc2 (v := 10000000) k_X6_202 dX6_scaledMean_33 ?_
          refine g_goto (tgt := 40) dX6_scaledMean_36 (by decide) ?_
          have v49 : vp_in i2 8 := uk_vin 8 rfl (by first | decide | lia | grind) (by first | decide | lia | grind)
          have b50 := uk_cl v49
          refine g_last rfl rfl v49 dX6_scaledMean_40 ?_
          refine g_mem (fun u51 eu51 => ?_)
          have hu51 : iv u51 := by rw [eu51]; exact iv_upL hu3
          have fu51 : fr 59 60 u u51 := by rw [eu51]; exact fr_upL fu3 (by omega) (by omega)
          refine g_goto (tgt := 177) dX6_scaledMean_41 (by decide) ?_
          refine g_iinc (v := i2 + 1) dX6_scaledMean_177 rfl rfl (by decide) ?_
          refine g_pick (lv' := [(0, .ref (uk_ad G 0)), (1, .int v), (2, .int m), (3, .int x9), (4, .int (i2 + 1))]) [0, 1, 2, 3, 4] rfl ?_
          refine g_goto (tgt := 3) dX6_scaledMean_180 (by decide) ?_
          refine g_pick (lv' := [(0, .ref (uk_ad G 0)), (1, .int v), (2, .int m), (3, .int x9), (4, .int (i2 + 1))]) [0, 1, 2, 3, 4] rfl ?_
          exact ihi2 (by first | lia | grind)  u51 hu51 fu51 
  refine g_pick (lv' := [(0, .ref (uk_ad G 0)), (1, .int v), (2, .int m), (3, .int x9), (4, .int 0)]) [0, 1, 2, 3, 4] rfl ?_
  exact L3_0 0 (by first | decide | lia | grind) (by first | decide | lia | grind)  u hu f0 
abbrev q_X6_end (u : uk_Mem) (n : Int32) (r : Option Value) (u' : uk_Mem) : Prop := (∃ x : Int32, r = some (.int x) ∧ (((n < 0 ∨ u.1 2 1 < n) ∧ x = -1 ∧ u'.1 2 1 = u.1 2 1) ∨ (0 ≤ n ∧ n ≤ u.1 2 1 ∧ x = u.1 2 1 ∧ u'.1 2 1 = n))) ∧ (iv u' ∧ fr 2 3 u u')
set_option maxHeartbeats 4000000 in
set_option maxRecDepth 20000 in
theorem c_X6_end {G : uk_D} (hs : uk_Sep G) {u : uk_Mem} (hu : iv u) (n : Int32) (d : Nat) : uk_Meth G d mX6_end [.ref (uk_ad G 0), .int n] u (q_X6_end u n) := by
  refine uk_Meth.of hs (by decide) (Nat.le_of_ble_eq_true rfl) (fun X => ?_)
  have f0 : fr 2 3 u u := fr_rf
  refine g_iload_n dX6_end_0 rfl ?_
  refine g_if_lt (tgt := 15) dX6_end_1 (by decide) (fun c1 => ?_) (fun c1 => ?_)
  · refine g_iconst (v := (-1)) dX6_end_15 (by decide) ?_
    exact g_iret (ty := .int) dX6_end_16 rfl rfl ⟨⟨_, rfl, by first | trivial | lia | grind⟩, hu, f0⟩
  · refine g_iload_n dX6_end_4 rfl ?_
    refine g_aload_n dX6_end_5 rfl ?_
    refine f_X6_22 rfl rfl dX6_end_6 ?_
    refine f_X6_84 rfl rfl dX6_end_9 ?_
    refine g_topi (fun x2 ex2 => ?_)
    have rx2 : 0 ≤ x2 ∧ x2 ≤ 160 := by rw [ex2]; exact iv_at hu _ _ rfl
    have s3 : u.1 2 1 = x2 := ex2.symm
    refine g_icmp_le (tgt := 17) dX6_end_12 (by decide) (fun c4 => ?_) (fun c4 => ?_)
    · refine g_aload_n dX6_end_17 rfl ?_
      refine f_X6_22 rfl rfl dX6_end_18 ?_
      refine f_X6_84 rfl rfl dX6_end_21 ?_
      refine g_topi (fun x5 ex5 => ?_)
      have rx5 : 0 ≤ x5 ∧ x5 ≤ 160 := by rw [ex5]; exact iv_at hu _ _ rfl
      have qx5 : x5 = x2 := by rw [ex5]; exact s3
      refine g_istore_n dX6_end_24 (by decide) ?_
      refine g_pick (lv' := [(0, .ref (uk_ad G 0)), (1, .int n), (2, .int x5)]) [0, 1, 2] rfl ?_
      refine g_aload_n dX6_end_25 rfl ?_
      refine f_X6_22 rfl rfl dX6_end_26 ?_
      refine g_iload_n dX6_end_29 rfl ?_
      refine p_X6_84 rfl rfl dX6_end_30 ?_
      refine g_mem (fun u6 eu6 => ?_)
      have hu6 : iv u6 := by rw [eu6]; exact iv_up hu rfl (by first | lia | grind) (by first | lia | grind)
      have fu6 : fr 2 3 u u6 := by rw [eu6]; exact fr_up f0 (by omega) (by omega)
      have s7 : u6.1 2 1 = n := by rw [eu6, uk_up_at]; exact if_pos ⟨rfl, rfl⟩
      refine g_iload_n dX6_end_33 rfl ?_
      exact g_iret (ty := .int) dX6_end_34 rfl rfl ⟨⟨_, rfl, by first | trivial | lia | grind⟩, hu6, fu6⟩
    · refine g_iconst (v := (-1)) dX6_end_15 (by decide) ?_
      exact g_iret (ty := .int) dX6_end_16 rfl rfl ⟨⟨_, rfl, by first | trivial | lia | grind⟩, hu, f0⟩
abbrev q_X6_rule (u : uk_Mem) (w : Int32) (r : Option Value) (u' : uk_Mem) : Prop := (∃ x : Int32, r = some (.int x) ∧ True) ∧ (u' = u)
abbrev q_X6_stuff (u : uk_Mem) (m : Int32) (w : Int32) (r : Option Value) (u' : uk_Mem) : Prop := (∃ x : Int32, r = some (.int x) ∧ True) ∧ (u' = u)
abbrev q_X6_fill (u : uk_Mem) (m : Int32) (n : Int32) (r : Option Value) (u' : uk_Mem) : Prop := (∃ x : Int32, r = some (.int x) ∧ True) ∧ (iv u' ∧ fr 13 22 u u')
abbrev q_X6_feeds (u : uk_Mem) (m : Int32) (v : Int32) (r : Option Value) (u' : uk_Mem) : Prop := (∃ x : Int32, r = some (.int x) ∧ True) ∧ (iv u' ∧ fr 13 22 u u')
abbrev q_X6_price (u : uk_Mem) (m : Int32) (v : Int32) (r : Option Value) (u' : uk_Mem) : Prop := (∃ x : Int32, r = some (.int x) ∧ True) ∧ (iv u' ∧ fr 13 22 u u')
abbrev q_X6_kind (u : uk_Mem) (m : Int32) (k : Int32) (r : Option Value) (u' : uk_Mem) : Prop := (∃ x : Int32, r = some (.int x) ∧ True) ∧ (iv u' ∧ fr 13 22 u u')
abbrev q_X6_does (u : uk_Mem) (g : Int32) (r : Option Value) (u' : uk_Mem) : Prop := (∃ x : Int32, r = some (.int x) ∧ True) ∧ (iv u' ∧ fr 13 22 u u')
abbrev q_X6_eat (u : uk_Mem) (m : Int32) (r : Option Value) (u' : uk_Mem) : Prop := (∃ x : Int32, r = some (.int x) ∧ True) ∧ (iv u' ∧ fr 13 22 u u')
abbrev q_X6_can (u : uk_Mem) (w : Int32) (r : Option Value) (u' : uk_Mem) : Prop := (∃ x : Int32, r = some (.int x) ∧ True) ∧ (u' = u)
abbrev q_X6_most (u : uk_Mem) (m : Int32) (r : Option Value) (u' : uk_Mem) : Prop := (∃ x : Int32, r = some (.int x) ∧ True) ∧ (iv u' ∧ fr 57 58 u u')
set_option maxHeartbeats 4000000 in
set_option maxRecDepth 20000 in
theorem c_X6_most {G : uk_D} (hs : uk_Sep G) {u : uk_Mem} (hu : iv u) (m : Int32) (d : Nat) : uk_Meth G (d + 2) mX6_most [.ref (uk_ad G 0), .int m] u (q_X6_most u m) := by
  refine uk_Meth.of hs (by decide) (Nat.le_of_ble_eq_true rfl) (fun X => ?_)
  have f0 : fr 57 58 u u := fr_rf
  refine g_aload_n dX6_most_0 rfl ?_
  refine f_X6_10 rfl rfl dX6_most_1 ?_
  refine g_iload_n dX6_most_4 rfl ?_
  refine cl_X6_118 (c := 13) (As := [.int m]) rfl (c_X0_hasStuff (G := G) hs hu uk_isK13 m  (d + 1)) rfl (by omega) rfl rfl (Nat.le_of_ble_eq_true rfl) dX6_most_5 (fun r1 u2 q3 => ?_)
  obtain ⟨⟨x4, rfl, tx4, nx4, zx4⟩, mq3⟩ := q3
  rw [mq3]
  refine g_if_ne (tgt := 13) dX6_most_8 (by decide) (fun c5 => ?_) (fun c5 => ?_)
  · have zc5 := nx4 c5
    refine g_aload_n dX6_most_13 rfl ?_
    refine f_X6_10 rfl rfl dX6_most_14 ?_
    refine g_iload_n dX6_most_17 rfl ?_
    refine cl_X6_122 (c := 13) (As := [.int m]) rfl (c_X0_isMade (G := G) hs hu uk_isK13 m (by first | trivial | decide | lia | grind) (by first | trivial | decide | lia | grind) (d + 1)) rfl (by omega) rfl rfl (Nat.le_of_ble_eq_true rfl) dX6_most_18 (fun r6 u7 q8 => ?_)
    obtain ⟨⟨x9, rfl, tx9, nx9, zx9⟩, mq8⟩ := q8
    rw [mq8]
    refine g_if_ne (tgt := 27) dX6_most_21 (by decide) (fun c10 => ?_) (fun c10 => ?_)
    · have zc10 := nx9 c10
      refine g_iconst (v := 0) dX6_most_27 (by decide) ?_
      refine g_istore_n dX6_most_28 (by decide) ?_
      refine g_pick (lv' := [(0, .ref (uk_ad G 0)), (1, .int m), (2, .int 0)]) [0, 1, 2] rfl ?_
      have L29_10 : ∀ i12 : Int32, 0 ≤ i12 → i12 ≤ 40 → ∀ (u13 : uk_Mem), iv u13 → fr 57 58 u u13 → uk_G G X mX6_most (d + 2) (q_X6_most u m) 29 [(0, .ref (uk_ad G 0)), (1, .int m), (2, .int i12)] [] u13 := by
        refine uk_upl 40 ?_
        intro i12 ai12 bi12 ihi12  u13 hu13 fu13
        refine g_iload_n dX6_most_29 rfl ?_
        refine g_bipush (v := 40) dX6_most_30 (by decide) ?_
        refine g_icmp_ge (tgt := 59) dX6_most_32 (by decide) (fun c14 => ?_) (fun c14 => ?_)
        · refine g_iload_n dX6_most_59 rfl ?_
          exact g_iret (ty := .int) dX6_most_60 rfl rfl ⟨⟨_, rfl, by first | trivial | lia | grind⟩, hu13, fu13⟩
        · refine g_aload_n dX6_most_35 rfl ?_
          refine f_X6_10 rfl rfl dX6_most_36 ?_
          refine g_iload_n dX6_most_39 rfl ?_
          refine g_iload_n dX6_most_40 rfl ?_
          refine g_iconst (v := 1) dX6_most_41 (by decide) ?_
          refine g_iadd dX6_most_42 ?_
          refine g_topi (fun x15 ex15 => ?_)
          refine g_aload_n dX6_most_43 rfl ?_
          refine f_X6_66 rfl rfl dX6_most_44 ?_
          refine cl_X6_165 (c := 13) (As := [.int m, .int x15, .ref (uk_ad G 57)]) rfl (c_X0_isEnoughFor (G := G) hs hu13 uk_isK13 m x15 (by first | trivial | decide | lia | grind) (by first | trivial | decide | lia | grind) (d)) rfl (by omega) rfl rfl (Nat.le_of_ble_eq_true rfl) dX6_most_47 (fun r16 u17 q18 => ?_)
          obtain ⟨⟨x19, rfl, tx19, nx19, zx19⟩, mq18⟩ := q18
          obtain ⟨hu17, gu17⟩ := mq18
          have fu17 : fr 57 58 u u17 := fr_tr fu13 gu17 (by omega) (by omega)
          refine g_if_eq (tgt := 59) dX6_most_50 (by decide) (fun c20 => ?_) (fun c20 => ?_)
          · have zc20 := zx19 c20
            refine g_iload_n dX6_most_59 rfl ?_
            exact g_iret (ty := .int) dX6_most_60 rfl rfl ⟨⟨_, rfl, by first | trivial | lia | grind⟩, hu17, fu17⟩
          · have zc20 := nx19 c20
            refine g_iinc (v := i12 + 1) dX6_most_53 rfl rfl (by decide) ?_
            refine g_pick (lv' := [(0, .ref (uk_ad G 0)), (1, .int m), (2, .int (i12 + 1))]) [0, 1, 2] rfl ?_
            refine g_goto (tgt := 29) dX6_most_56 (by decide) ?_
            refine g_pick (lv' := [(0, .ref (uk_ad G 0)), (1, .int m), (2, .int (i12 + 1))]) [0, 1, 2] rfl ?_
            exact ihi12 (by first | lia | grind)  u17 hu17 fu17 
      refine g_pick (lv' := [(0, .ref (uk_ad G 0)), (1, .int m), (2, .int 0)]) [0, 1, 2] rfl ?_
      exact L29_10 0 (by first | decide | lia | grind) (by first | decide | lia | grind)  u hu f0 
    · have zc10 := zx9 c10
      refine g_bipush (v := (-2)) dX6_most_24 (by decide) ?_
      exact g_iret (ty := .int) dX6_most_26 rfl rfl ⟨⟨_, rfl, by first | trivial | lia | grind⟩, hu, f0⟩
  · have zc5 := zx4 c5
    refine g_iconst (v := (-1)) dX6_most_11 (by decide) ?_
    exact g_iret (ty := .int) dX6_most_12 rfl rfl ⟨⟨_, rfl, by first | trivial | lia | grind⟩, hu, f0⟩
abbrev q_X6_holds (u : uk_Mem) (m : Int32) (b : Int32) (r : Option Value) (u' : uk_Mem) : Prop := (∃ x : Int32, r = some (.int x) ∧ True) ∧ (iv u' ∧ fr 57 58 u u')
set_option maxHeartbeats 4000000 in
set_option maxRecDepth 20000 in
theorem c_X6_holds {G : uk_D} (hs : uk_Sep G) {u : uk_Mem} (hu : iv u) (m : Int32) (b : Int32) (d : Nat) : uk_Meth G (d + 2) mX6_holds [.ref (uk_ad G 0), .int m, .int b] u (q_X6_holds u m b) := by
  refine uk_Meth.of hs (by decide) (Nat.le_of_ble_eq_true rfl) (fun X => ?_)
  have f0 : fr 57 58 u u := fr_rf
  refine g_aload_n dX6_holds_0 rfl ?_
  refine f_X6_10 rfl rfl dX6_holds_1 ?_
  refine g_iload_n dX6_holds_4 rfl ?_
  refine cl_X6_118 (c := 13) (As := [.int m]) rfl (c_X0_hasStuff (G := G) hs hu uk_isK13 m  (d + 1)) rfl (by omega) rfl rfl (Nat.le_of_ble_eq_true rfl) dX6_holds_5 (fun r1 u2 q3 => ?_)
  obtain ⟨⟨x4, rfl, tx4, nx4, zx4⟩, mq3⟩ := q3
  rw [mq3]
  refine g_if_eq (tgt := 22) dX6_holds_8 (by decide) (fun c5 => ?_) (fun c5 => ?_)
  · have zc5 := zx4 c5
    refine g_iconst (v := (-1)) dX6_holds_22 (by decide) ?_
    exact g_iret (ty := .int) dX6_holds_23 rfl rfl ⟨⟨_, rfl, by first | trivial | lia | grind⟩, hu, f0⟩
  · have zc5 := nx4 c5
    refine g_aload_n dX6_holds_11 rfl ?_
    refine f_X6_10 rfl rfl dX6_holds_12 ?_
    refine g_iload_n dX6_holds_15 rfl ?_
    refine cl_X6_118 (c := 13) (As := [.int b]) rfl (c_X0_hasStuff (G := G) hs hu uk_isK13 b  (d + 1)) rfl (by omega) rfl rfl (Nat.le_of_ble_eq_true rfl) dX6_holds_16 (fun r6 u7 q8 => ?_)
    obtain ⟨⟨x9, rfl, tx9, nx9, zx9⟩, mq8⟩ := q8
    rw [mq8]
    refine g_if_ne (tgt := 24) dX6_holds_19 (by decide) (fun c10 => ?_) (fun c10 => ?_)
    · have zc10 := nx9 c10
      refine g_aload_n dX6_holds_24 rfl ?_
      refine f_X6_10 rfl rfl dX6_holds_25 ?_
      refine g_iload_n dX6_holds_28 rfl ?_
      refine cl_X6_122 (c := 13) (As := [.int b]) rfl (c_X0_isMade (G := G) hs hu uk_isK13 b (by first | trivial | decide | lia | grind) (by first | trivial | decide | lia | grind) (d + 1)) rfl (by omega) rfl rfl (Nat.le_of_ble_eq_true rfl) dX6_holds_29 (fun r11 u12 q13 => ?_)
      obtain ⟨⟨x14, rfl, tx14, nx14, zx14⟩, mq13⟩ := q13
      rw [mq13]
      refine g_if_eq (tgt := 38) dX6_holds_32 (by decide) (fun c15 => ?_) (fun c15 => ?_)
      · have zc15 := zx14 c15
        refine g_aload_n dX6_holds_38 rfl ?_
        refine f_X6_10 rfl rfl dX6_holds_39 ?_
        refine g_iload_n dX6_holds_42 rfl ?_
        refine g_aload_n dX6_holds_43 rfl ?_
        refine f_X6_66 rfl rfl dX6_holds_44 ?_
        refine cl_X6_169 (c := 13) (As := [.int m, .ref (uk_ad G 57)]) rfl (c_X0_rawNeed (G := G) hs hu uk_isK13 m (by first | trivial | decide | lia | grind) (by first | trivial | decide | lia | grind) (d)) rfl (by omega) rfl rfl (Nat.le_of_ble_eq_true rfl) dX6_holds_47 (fun r16 u17 q18 => ?_)
        obtain ⟨rfl, mq18⟩ := q18
        obtain ⟨hu17, gu17⟩ := mq18
        have fu17 : fr 57 58 u u17 := fr_tr f0 gu17 (by omega) (by omega)
        refine g_aload_n dX6_holds_50 rfl ?_
        refine f_X6_66 rfl rfl dX6_holds_51 ?_
        refine g_iload_n dX6_holds_54 rfl ?_
        have v19 : vp_in b 8 := uk_vin 8 rfl (by first | decide | lia | grind) (by first | decide | lia | grind)
        refine g_iald rfl rfl v19 dX6_holds_55 ?_
        refine g_topi (fun x20 ex20 => ?_)
        exact g_iret (ty := .int) dX6_holds_56 rfl rfl ⟨⟨_, rfl, by first | trivial | lia | grind⟩, hu17, fu17⟩
      · have zc15 := nx14 c15
        refine g_bipush (v := (-2)) dX6_holds_35 (by decide) ?_
        exact g_iret (ty := .int) dX6_holds_37 rfl rfl ⟨⟨_, rfl, by first | trivial | lia | grind⟩, hu, f0⟩
    · have zc10 := zx9 c10
      refine g_iconst (v := (-1)) dX6_holds_22 (by decide) ?_
      exact g_iret (ty := .int) dX6_holds_23 rfl rfl ⟨⟨_, rfl, by first | trivial | lia | grind⟩, hu, f0⟩
abbrev q_X6_cost (u : uk_Mem) (m : Int32) (r : Option Value) (u' : uk_Mem) : Prop := (∃ x : Int32, r = some (.int x) ∧ True) ∧ (iv u' ∧ fr 57 58 u u')
set_option maxHeartbeats 4000000 in
set_option maxRecDepth 20000 in
theorem c_X6_cost {G : uk_D} (hs : uk_Sep G) {u : uk_Mem} (hu : iv u) (m : Int32) (d : Nat) : uk_Meth G (d + 3) mX6_cost [.ref (uk_ad G 0), .int m] u (q_X6_cost u m) := by
  refine uk_Meth.of hs (by decide) (Nat.le_of_ble_eq_true rfl) (fun X => ?_)
  have f0 : fr 57 58 u u := fr_rf
  refine g_aload_n dX6_cost_0 rfl ?_
  refine f_X6_10 rfl rfl dX6_cost_1 ?_
  refine g_iload_n dX6_cost_4 rfl ?_
  refine cl_X6_118 (c := 13) (As := [.int m]) rfl (c_X0_hasStuff (G := G) hs hu uk_isK13 m  (d + 2)) rfl (by omega) rfl rfl (Nat.le_of_ble_eq_true rfl) dX6_cost_5 (fun r1 u2 q3 => ?_)
  obtain ⟨⟨x4, rfl, tx4, nx4, zx4⟩, mq3⟩ := q3
  rw [mq3]
  refine g_if_eq (tgt := 26) dX6_cost_8 (by decide) (fun c5 => ?_) (fun c5 => ?_)
  · have zc5 := zx4 c5
    refine g_iconst (v := (-1)) dX6_cost_26 (by decide) ?_
    exact g_iret (ty := .int) dX6_cost_27 rfl rfl ⟨⟨_, rfl, by first | trivial | lia | grind⟩, hu, f0⟩
  · have zc5 := nx4 c5
    refine g_aload_n dX6_cost_11 rfl ?_
    refine f_X6_10 rfl rfl dX6_cost_12 ?_
    refine g_iload_n dX6_cost_15 rfl ?_
    refine g_aload_n dX6_cost_16 rfl ?_
    refine f_X6_66 rfl rfl dX6_cost_17 ?_
    refine cl_X6_173 (c := 13) (As := [.int m, .ref (uk_ad G 57)]) rfl (c_X0_rawCost (G := G) hs hu uk_isK13 m (by first | trivial | decide | lia | grind) (by first | trivial | decide | lia | grind) (d)) rfl (by omega) rfl rfl (Nat.le_of_ble_eq_true rfl) dX6_cost_20 (fun r6 u7 q8 => ?_)
    obtain ⟨⟨x9, rfl, tx9⟩, mq8⟩ := q8
    obtain ⟨hu7, gu7⟩ := mq8
    have fu7 : fr 57 58 u u7 := fr_tr f0 gu7 (by omega) (by omega)
    refine g_goto (tgt := 27) dX6_cost_23 (by decide) ?_
    exact g_iret (ty := .int) dX6_cost_27 rfl rfl ⟨⟨_, rfl, by first | trivial | lia | grind⟩, hu7, fu7⟩
abbrev q_X6_turns (u : uk_Mem) (m : Int32) (w : Int32) (r : Option Value) (u' : uk_Mem) : Prop := (∃ x : Int32, r = some (.int x) ∧ True) ∧ (iv u' ∧ fr 41 46 u u')
set_option maxHeartbeats 4000000 in
set_option maxRecDepth 20000 in
theorem c_X6_turns {G : uk_D} (hs : uk_Sep G) {u : uk_Mem} (hu : iv u) (m : Int32) (w : Int32) (d : Nat) : uk_Meth G (d + 3) mX6_turns [.ref (uk_ad G 0), .int m, .int w] u (q_X6_turns u m w) := by
  refine uk_Meth.of hs (by decide) (Nat.le_of_ble_eq_true rfl) (fun X => ?_)
  have f0 : fr 41 46 u u := fr_rf
  refine g_aload_n dX6_turns_0 rfl ?_
  refine f_X6_10 rfl rfl dX6_turns_1 ?_
  refine g_iload_n dX6_turns_4 rfl ?_
  refine cl_X6_118 (c := 13) (As := [.int m]) rfl (c_X0_hasStuff (G := G) hs hu uk_isK13 m  (d + 2)) rfl (by omega) rfl rfl (Nat.le_of_ble_eq_true rfl) dX6_turns_5 (fun r1 u2 q3 => ?_)
  obtain ⟨⟨x4, rfl, tx4, nx4, zx4⟩, mq3⟩ := q3
  rw [mq3]
  refine g_if_eq (tgt := 18) dX6_turns_8 (by decide) (fun c5 => ?_) (fun c5 => ?_)
  · have zc5 := zx4 c5
    refine g_iconst (v := (-1)) dX6_turns_18 (by decide) ?_
    exact g_iret (ty := .int) dX6_turns_19 rfl rfl ⟨⟨_, rfl, by first | trivial | lia | grind⟩, hu, f0⟩
  · have zc5 := nx4 c5
    refine g_iload_n dX6_turns_11 rfl ?_
    refine cl_X6_162 (As := [.int w]) rfl (c_X6_isFlag (G := G) hs hu  w  (d + 2)) rfl (by omega) rfl (Nat.le_of_ble_eq_true rfl) dX6_turns_12 (fun r6 u7 q8 => ?_)
    obtain ⟨⟨x9, rfl, tx9, nx9, zx9⟩, mq8⟩ := q8
    rw [mq8]
    refine g_if_ne (tgt := 20) dX6_turns_15 (by decide) (fun c10 => ?_) (fun c10 => ?_)
    · have zc10 := nx9 c10
      refine g_aload_n dX6_turns_20 rfl ?_
      refine f_X6_48 rfl rfl dX6_turns_21 ?_
      refine g_aload_n dX6_turns_24 rfl ?_
      refine f_X6_10 rfl rfl dX6_turns_25 ?_
      refine g_iload_n dX6_turns_28 rfl ?_
      refine g_bipush (v := 127) dX6_turns_29 (by decide) ?_
      refine cl_X6_177 (c := 41) (As := [.ref (uk_ad G 13), .int m, .int 127]) rfl (c_X1_grind (G := G) hs hu  m 127 (by first | trivial | decide | lia | grind) (by first | trivial | decide | lia | grind) (d)) rfl (by omega) rfl rfl (Nat.le_of_ble_eq_true rfl) dX6_turns_31 (fun r11 u12 q13 => ?_)
      obtain ⟨rfl, mq13⟩ := q13
      obtain ⟨hu12, gu12⟩ := mq13
      have fu12 : fr 41 46 u u12 := fr_tr f0 gu12 (by omega) (by omega)
      refine g_iload_n dX6_turns_34 rfl ?_
      refine g_if_ne (tgt := 48) dX6_turns_35 (by decide) (fun c14 => ?_) (fun c14 => ?_)
      · refine g_aload_n dX6_turns_48 rfl ?_
        refine f_X6_48 rfl rfl dX6_turns_49 ?_
        refine f_X6_184 rfl rfl dX6_turns_52 ?_
        refine g_topi (fun x15 ex15 => ?_)
        have rx15 : 0 ≤ x15 ∧ x15 ≤ 128 := by rw [ex15]; exact iv_at hu12 _ _ rfl
        have s16 : u12.1 41 1 = x15 := ex15.symm
        exact g_iret (ty := .int) dX6_turns_55 rfl rfl ⟨⟨_, rfl, by first | trivial | lia | grind⟩, hu12, fu12⟩
      · refine g_aload_n dX6_turns_38 rfl ?_
        refine f_X6_48 rfl rfl dX6_turns_39 ?_
        refine f_X6_181 rfl rfl dX6_turns_42 ?_
        refine g_topi (fun x17 ex17 => ?_)
        have s18 : u12.1 41 2 = x17 := ex17.symm
        refine g_goto (tgt := 55) dX6_turns_45 (by decide) ?_
        exact g_iret (ty := .int) dX6_turns_55 rfl rfl ⟨⟨_, rfl, by first | trivial | lia | grind⟩, hu12, fu12⟩
    · have zc10 := zx9 c10
      refine g_iconst (v := (-1)) dX6_turns_18 (by decide) ?_
      exact g_iret (ty := .int) dX6_turns_19 rfl rfl ⟨⟨_, rfl, by first | trivial | lia | grind⟩, hu, f0⟩
abbrev q_X6_comes (u : uk_Mem) (m : Int32) (i : Int32) (r : Option Value) (u' : uk_Mem) : Prop := (∃ x : Int32, r = some (.int x) ∧ True) ∧ (iv u' ∧ fr 41 46 u u')
set_option maxHeartbeats 4000000 in
set_option maxRecDepth 20000 in
theorem c_X6_comes {G : uk_D} (hs : uk_Sep G) {u : uk_Mem} (hu : iv u) (m : Int32) (i : Int32) (d : Nat) : uk_Meth G (d + 3) mX6_comes [.ref (uk_ad G 0), .int m, .int i] u (q_X6_comes u m i) := by
  refine uk_Meth.of hs (by decide) (Nat.le_of_ble_eq_true rfl) (fun X => ?_)
  have f0 : fr 41 46 u u := fr_rf
  refine g_aload_n dX6_comes_0 rfl ?_
  refine f_X6_10 rfl rfl dX6_comes_1 ?_
  refine g_iload_n dX6_comes_4 rfl ?_
  refine cl_X6_118 (c := 13) (As := [.int m]) rfl (c_X0_hasStuff (G := G) hs hu uk_isK13 m  (d + 2)) rfl (by omega) rfl rfl (Nat.le_of_ble_eq_true rfl) dX6_comes_5 (fun r1 u2 q3 => ?_)
  obtain ⟨⟨x4, rfl, tx4, nx4, zx4⟩, mq3⟩ := q3
  rw [mq3]
  refine g_if_eq (tgt := 15) dX6_comes_8 (by decide) (fun c5 => ?_) (fun c5 => ?_)
  · have zc5 := zx4 c5
    refine g_iconst (v := (-1)) dX6_comes_15 (by decide) ?_
    exact g_iret (ty := .int) dX6_comes_16 rfl rfl ⟨⟨_, rfl, by first | trivial | lia | grind⟩, hu, f0⟩
  · have zc5 := nx4 c5
    refine g_iload_n dX6_comes_11 rfl ?_
    refine g_if_ge (tgt := 17) dX6_comes_12 (by decide) (fun c6 => ?_) (fun c6 => ?_)
    · refine g_aload_n dX6_comes_17 rfl ?_
      refine f_X6_48 rfl rfl dX6_comes_18 ?_
      refine g_aload_n dX6_comes_21 rfl ?_
      refine f_X6_10 rfl rfl dX6_comes_22 ?_
      refine g_iload_n dX6_comes_25 rfl ?_
      refine g_bipush (v := 127) dX6_comes_26 (by decide) ?_
      refine cl_X6_177 (c := 41) (As := [.ref (uk_ad G 13), .int m, .int 127]) rfl (c_X1_grind (G := G) hs hu  m 127 (by first | trivial | decide | lia | grind) (by first | trivial | decide | lia | grind) (d)) rfl (by omega) rfl rfl (Nat.le_of_ble_eq_true rfl) dX6_comes_28 (fun r7 u8 q9 => ?_)
      obtain ⟨rfl, mq9⟩ := q9
      obtain ⟨hu8, gu8⟩ := mq9
      have fu8 : fr 41 46 u u8 := fr_tr f0 gu8 (by omega) (by omega)
      refine g_iload_n dX6_comes_31 rfl ?_
      refine g_aload_n dX6_comes_32 rfl ?_
      refine f_X6_48 rfl rfl dX6_comes_33 ?_
      refine f_X6_184 rfl rfl dX6_comes_36 ?_
      refine g_topi (fun x10 ex10 => ?_)
      have rx10 : 0 ≤ x10 ∧ x10 ≤ 128 := by rw [ex10]; exact iv_at hu8 _ _ rfl
      have s11 : u8.1 41 1 = x10 := ex10.symm
      refine g_icmp_ge (tgt := 54) dX6_comes_39 (by decide) (fun c12 => ?_) (fun c12 => ?_)
      · refine g_bipush (v := (-4)) dX6_comes_54 (by decide) ?_
        exact g_iret (ty := .int) dX6_comes_56 rfl rfl ⟨⟨_, rfl, by first | trivial | lia | grind⟩, hu8, fu8⟩
      · refine g_aload_n dX6_comes_42 rfl ?_
        refine f_X6_48 rfl rfl dX6_comes_43 ?_
        refine f_X6_185 rfl rfl dX6_comes_46 ?_
        refine g_iload_n dX6_comes_49 rfl ?_
        have v13 : vp_in i 128 := uk_vin 128 rfl (by first | decide | lia | grind) (by first | decide | lia | grind)
        refine g_iald rfl rfl v13 dX6_comes_50 ?_
        refine g_topi (fun x14 ex14 => ?_)
        have bx14 := uk_cl v13
        have rx14 : 0 ≤ x14 ∧ x14 ≤ 7 := by rw [ex14]; exact iv_at hu8 _ _ (uk_pick1 _ (by omega))
        refine g_goto (tgt := 56) dX6_comes_51 (by decide) ?_
        exact g_iret (ty := .int) dX6_comes_56 rfl rfl ⟨⟨_, rfl, by first | trivial | lia | grind⟩, hu8, fu8⟩
    · refine g_iconst (v := (-1)) dX6_comes_15 (by decide) ?_
      exact g_iret (ty := .int) dX6_comes_16 rfl rfl ⟨⟨_, rfl, by first | trivial | lia | grind⟩, hu, f0⟩
abbrev q_X6_after (u : uk_Mem) (m : Int32) (n : Int32) (b : Int32) (r : Option Value) (u' : uk_Mem) : Prop := (∃ x : Int32, r = some (.int x) ∧ True) ∧ (iv u' ∧ fr 41 46 u u')
set_option maxHeartbeats 4000000 in
set_option maxRecDepth 20000 in
theorem c_X6_after {G : uk_D} (hs : uk_Sep G) {u : uk_Mem} (hu : iv u) (m : Int32) (n : Int32) (b : Int32) (d : Nat) : uk_Meth G (d + 3) mX6_after [.ref (uk_ad G 0), .int m, .int n, .int b] u (q_X6_after u m n b) := by
  refine uk_Meth.of hs (by decide) (Nat.le_of_ble_eq_true rfl) (fun X => ?_)
  have f0 : fr 41 46 u u := fr_rf
  refine g_aload_n dX6_after_0 rfl ?_
  refine f_X6_10 rfl rfl dX6_after_1 ?_
  refine g_iload_n dX6_after_4 rfl ?_
  refine cl_X6_118 (c := 13) (As := [.int m]) rfl (c_X0_hasStuff (G := G) hs hu uk_isK13 m  (d + 2)) rfl (by omega) rfl rfl (Nat.le_of_ble_eq_true rfl) dX6_after_5 (fun r1 u2 q3 => ?_)
  obtain ⟨⟨x4, rfl, tx4, nx4, zx4⟩, mq3⟩ := q3
  rw [mq3]
  refine g_if_eq (tgt := 32) dX6_after_8 (by decide) (fun c5 => ?_) (fun c5 => ?_)
  · have zc5 := zx4 c5
    refine g_iconst (v := (-1)) dX6_after_32 (by decide) ?_
    exact g_iret (ty := .int) dX6_after_33 rfl rfl ⟨⟨_, rfl, by first | trivial | lia | grind⟩, hu, f0⟩
  · have zc5 := nx4 c5
    refine g_iload_n dX6_after_11 rfl ?_
    refine g_if_lt (tgt := 32) dX6_after_12 (by decide) (fun c6 => ?_) (fun c6 => ?_)
    · refine g_iconst (v := (-1)) dX6_after_32 (by decide) ?_
      exact g_iret (ty := .int) dX6_after_33 rfl rfl ⟨⟨_, rfl, by first | trivial | lia | grind⟩, hu, f0⟩
    · refine g_iload_n dX6_after_15 rfl ?_
      refine g_bipush (v := 127) dX6_after_16 (by decide) ?_
      refine g_icmp_gt (tgt := 32) dX6_after_18 (by decide) (fun c7 => ?_) (fun c7 => ?_)
      · refine g_iconst (v := (-1)) dX6_after_32 (by decide) ?_
        exact g_iret (ty := .int) dX6_after_33 rfl rfl ⟨⟨_, rfl, by first | trivial | lia | grind⟩, hu, f0⟩
      · refine g_aload_n dX6_after_21 rfl ?_
        refine f_X6_10 rfl rfl dX6_after_22 ?_
        refine g_iload_n dX6_after_25 rfl ?_
        refine cl_X6_118 (c := 13) (As := [.int b]) rfl (c_X0_hasStuff (G := G) hs hu uk_isK13 b  (d + 2)) rfl (by omega) rfl rfl (Nat.le_of_ble_eq_true rfl) dX6_after_26 (fun r8 u9 q10 => ?_)
        obtain ⟨⟨x11, rfl, tx11, nx11, zx11⟩, mq10⟩ := q10
        rw [mq10]
        refine g_if_ne (tgt := 34) dX6_after_29 (by decide) (fun c12 => ?_) (fun c12 => ?_)
        · have zc12 := nx11 c12
          refine g_aload_n dX6_after_34 rfl ?_
          refine f_X6_48 rfl rfl dX6_after_35 ?_
          refine g_aload_n dX6_after_38 rfl ?_
          refine f_X6_10 rfl rfl dX6_after_39 ?_
          refine g_iload_n dX6_after_42 rfl ?_
          refine g_iload_n dX6_after_43 rfl ?_
          refine cl_X6_177 (c := 41) (As := [.ref (uk_ad G 13), .int m, .int n]) rfl (c_X1_grind (G := G) hs hu  m n (by first | trivial | decide | lia | grind) (by first | trivial | decide | lia | grind) (d)) rfl (by omega) rfl rfl (Nat.le_of_ble_eq_true rfl) dX6_after_44 (fun r13 u14 q15 => ?_)
          obtain ⟨rfl, mq15⟩ := q15
          obtain ⟨hu14, gu14⟩ := mq15
          have fu14 : fr 41 46 u u14 := fr_tr f0 gu14 (by omega) (by omega)
          refine g_aload_n dX6_after_47 rfl ?_
          refine f_X6_48 rfl rfl dX6_after_48 ?_
          refine g_iload_n dX6_after_51 rfl ?_
          refine cl_X6_188 (c := 41) (As := [.int b]) rfl (c_X1_howManyOf (G := G) hs hu14  b  (d + 2)) rfl (by omega) rfl rfl (Nat.le_of_ble_eq_true rfl) dX6_after_52 (fun r16 u17 q18 => ?_)
          obtain ⟨⟨x19, rfl, tx19⟩, mq18⟩ := q18
          rw [mq18]
          exact g_iret (ty := .int) dX6_after_55 rfl rfl ⟨⟨_, rfl, by first | trivial | lia | grind⟩, hu14, fu14⟩
        · have zc12 := zx11 c12
          refine g_iconst (v := (-1)) dX6_after_32 (by decide) ?_
          exact g_iret (ty := .int) dX6_after_33 rfl rfl ⟨⟨_, rfl, by first | trivial | lia | grind⟩, hu, f0⟩
abbrev q_X6_first (u : uk_Mem) (m : Int32) (b : Int32) (r : Option Value) (u' : uk_Mem) : Prop := (∃ x : Int32, r = some (.int x) ∧ True) ∧ (iv u' ∧ fr 41 46 u u')
set_option maxHeartbeats 4000000 in
set_option maxRecDepth 20000 in
theorem c_X6_first {G : uk_D} (hs : uk_Sep G) {u : uk_Mem} (hu : iv u) (m : Int32) (b : Int32) (d : Nat) : uk_Meth G (d + 3) mX6_first [.ref (uk_ad G 0), .int m, .int b] u (q_X6_first u m b) := by
  refine uk_Meth.of hs (by decide) (Nat.le_of_ble_eq_true rfl) (fun X => ?_)
  have f0 : fr 41 46 u u := fr_rf
  refine g_aload_n dX6_first_0 rfl ?_
  refine f_X6_10 rfl rfl dX6_first_1 ?_
  refine g_iload_n dX6_first_4 rfl ?_
  refine cl_X6_118 (c := 13) (As := [.int m]) rfl (c_X0_hasStuff (G := G) hs hu uk_isK13 m  (d + 2)) rfl (by omega) rfl rfl (Nat.le_of_ble_eq_true rfl) dX6_first_5 (fun r1 u2 q3 => ?_)
  obtain ⟨⟨x4, rfl, tx4, nx4, zx4⟩, mq3⟩ := q3
  rw [mq3]
  refine g_if_eq (tgt := 22) dX6_first_8 (by decide) (fun c5 => ?_) (fun c5 => ?_)
  · have zc5 := zx4 c5
    refine g_iconst (v := (-1)) dX6_first_22 (by decide) ?_
    exact g_iret (ty := .int) dX6_first_23 rfl rfl ⟨⟨_, rfl, by first | trivial | lia | grind⟩, hu, f0⟩
  · have zc5 := nx4 c5
    refine g_aload_n dX6_first_11 rfl ?_
    refine f_X6_10 rfl rfl dX6_first_12 ?_
    refine g_iload_n dX6_first_15 rfl ?_
    refine cl_X6_118 (c := 13) (As := [.int b]) rfl (c_X0_hasStuff (G := G) hs hu uk_isK13 b  (d + 2)) rfl (by omega) rfl rfl (Nat.le_of_ble_eq_true rfl) dX6_first_16 (fun r6 u7 q8 => ?_)
    obtain ⟨⟨x9, rfl, tx9, nx9, zx9⟩, mq8⟩ := q8
    rw [mq8]
    refine g_if_ne (tgt := 24) dX6_first_19 (by decide) (fun c10 => ?_) (fun c10 => ?_)
    · have zc10 := nx9 c10
      refine g_aload_n dX6_first_24 rfl ?_
      refine f_X6_48 rfl rfl dX6_first_25 ?_
      refine g_aload_n dX6_first_28 rfl ?_
      refine f_X6_10 rfl rfl dX6_first_29 ?_
      refine g_iload_n dX6_first_32 rfl ?_
      refine g_bipush (v := 127) dX6_first_33 (by decide) ?_
      refine cl_X6_177 (c := 41) (As := [.ref (uk_ad G 13), .int m, .int 127]) rfl (c_X1_grind (G := G) hs hu  m 127 (by first | trivial | decide | lia | grind) (by first | trivial | decide | lia | grind) (d)) rfl (by omega) rfl rfl (Nat.le_of_ble_eq_true rfl) dX6_first_35 (fun r11 u12 q13 => ?_)
      obtain ⟨rfl, mq13⟩ := q13
      obtain ⟨hu12, gu12⟩ := mq13
      have fu12 : fr 41 46 u u12 := fr_tr f0 gu12 (by omega) (by omega)
      refine g_aload_n dX6_first_38 rfl ?_
      refine f_X6_48 rfl rfl dX6_first_39 ?_
      refine f_X6_191 rfl rfl dX6_first_42 ?_
      refine g_iload_n dX6_first_45 rfl ?_
      have v14 : vp_in b 8 := uk_vin 8 rfl (by first | decide | lia | grind) (by first | decide | lia | grind)
      refine g_iald rfl rfl v14 dX6_first_46 ?_
      refine g_topi (fun x15 ex15 => ?_)
      exact g_iret (ty := .int) dX6_first_47 rfl rfl ⟨⟨_, rfl, by first | trivial | lia | grind⟩, hu12, fu12⟩
    · have zc10 := zx9 c10
      refine g_iconst (v := (-1)) dX6_first_22 (by decide) ?_
      exact g_iret (ty := .int) dX6_first_23 rfl rfl ⟨⟨_, rfl, by first | trivial | lia | grind⟩, hu, f0⟩
abbrev q_X6_loss (u : uk_Mem) (m : Int32) (r : Option Value) (u' : uk_Mem) : Prop := (∃ x : Int32, r = some (.int x) ∧ True) ∧ (iv u' ∧ fr 41 58 u u')
abbrev q_X6_mean (u : uk_Mem) (v : Int32) (m : Int32) (b : Int32) (w : Int32) (r : Option Value) (u' : uk_Mem) : Prop := (∃ x : Int64, r = some (.long x) ∧ True) ∧ (iv u' ∧ fr 59 60 u u')
set_option maxHeartbeats 4000000 in
set_option maxRecDepth 20000 in
theorem c_X6_mean {G : uk_D} (hs : uk_Sep G) {u : uk_Mem} (hu : iv u) (v : Int32) (m : Int32) (b : Int32) (w : Int32) (d : Nat) : uk_Meth G (d + 2) mX6_mean [.ref (uk_ad G 0), .int v, .int m, .int b, .int w] u (q_X6_mean u v m b w) := by
  refine uk_Meth.of hs (by decide) (Nat.le_of_ble_eq_true rfl) (fun X => ?_)
  have f0 : fr 59 60 u u := fr_rf
  refine g_iload_n dX6_mean_0 rfl ?_
  refine g_if_lt (tgt := 40) dX6_mean_1 (by decide) (fun c1 => ?_) (fun c1 => ?_)
  · refine g_ldc2 (v := (-1)) k_X6_194 dX6_mean_40 ?_
    exact g_lret dX6_mean_43 rfl ⟨⟨_, rfl, by first | trivial | decide | exact uk_lg0 (by assumption) | grind⟩, hu, f0⟩
  · refine g_iload_n dX6_mean_4 rfl ?_
    refine g_bipush (v := 10) dX6_mean_5 (by decide) ?_
    refine g_icmp_gt (tgt := 40) dX6_mean_7 (by decide) (fun c2 => ?_) (fun c2 => ?_)
    · refine g_ldc2 (v := (-1)) k_X6_194 dX6_mean_40 ?_
      exact g_lret dX6_mean_43 rfl ⟨⟨_, rfl, by first | trivial | decide | exact uk_lg0 (by assumption) | grind⟩, hu, f0⟩
    · refine g_aload_n dX6_mean_10 rfl ?_
      refine f_X6_10 rfl rfl dX6_mean_11 ?_
      refine g_iload_n dX6_mean_14 rfl ?_
      refine cl_X6_118 (c := 13) (As := [.int m]) rfl (c_X0_hasStuff (G := G) hs hu uk_isK13 m  (d + 1)) rfl (by omega) rfl rfl (Nat.le_of_ble_eq_true rfl) dX6_mean_15 (fun r3 u4 q5 => ?_)
      obtain ⟨⟨x6, rfl, tx6, nx6, zx6⟩, mq5⟩ := q5
      rw [mq5]
      refine g_if_eq (tgt := 40) dX6_mean_18 (by decide) (fun c7 => ?_) (fun c7 => ?_)
      · have zc7 := zx6 c7
        refine g_ldc2 (v := (-1)) k_X6_194 dX6_mean_40 ?_
        exact g_lret dX6_mean_43 rfl ⟨⟨_, rfl, by first | trivial | decide | exact uk_lg0 (by assumption) | grind⟩, hu, f0⟩
      · have zc7 := nx6 c7
        refine g_aload_n dX6_mean_21 rfl ?_
        refine f_X6_10 rfl rfl dX6_mean_22 ?_
        refine g_iload_n dX6_mean_25 rfl ?_
        refine cl_X6_118 (c := 13) (As := [.int b]) rfl (c_X0_hasStuff (G := G) hs hu uk_isK13 b  (d + 1)) rfl (by omega) rfl rfl (Nat.le_of_ble_eq_true rfl) dX6_mean_26 (fun r8 u9 q10 => ?_)
        obtain ⟨⟨x11, rfl, tx11, nx11, zx11⟩, mq10⟩ := q10
        rw [mq10]
        refine g_if_eq (tgt := 40) dX6_mean_29 (by decide) (fun c12 => ?_) (fun c12 => ?_)
        · have zc12 := zx11 c12
          refine g_ldc2 (v := (-1)) k_X6_194 dX6_mean_40 ?_
          exact g_lret dX6_mean_43 rfl ⟨⟨_, rfl, by first | trivial | decide | exact uk_lg0 (by assumption) | grind⟩, hu, f0⟩
        · have zc12 := nx11 c12
          refine g_iload dX6_mean_32 rfl ?_
          refine cl_X6_162 (As := [.int w]) rfl (c_X6_isFlag (G := G) hs hu  w  (d + 1)) rfl (by omega) rfl (Nat.le_of_ble_eq_true rfl) dX6_mean_34 (fun r13 u14 q15 => ?_)
          obtain ⟨⟨x16, rfl, tx16, nx16, zx16⟩, mq15⟩ := q15
          rw [mq15]
          refine g_if_ne (tgt := 44) dX6_mean_37 (by decide) (fun c17 => ?_) (fun c17 => ?_)
          · have zc17 := nx16 c17
            refine g_aload_n dX6_mean_44 rfl ?_
            refine f_X6_10 rfl rfl dX6_mean_45 ?_
            refine g_iload_n dX6_mean_48 rfl ?_
            refine cl_X6_122 (c := 13) (As := [.int b]) rfl (c_X0_isMade (G := G) hs hu uk_isK13 b (by first | trivial | decide | lia | grind) (by first | trivial | decide | lia | grind) (d + 1)) rfl (by omega) rfl rfl (Nat.le_of_ble_eq_true rfl) dX6_mean_49 (fun r18 u19 q20 => ?_)
            obtain ⟨⟨x21, rfl, tx21, nx21, zx21⟩, mq20⟩ := q20
            rw [mq20]
            refine g_if_eq (tgt := 59) dX6_mean_52 (by decide) (fun c22 => ?_) (fun c22 => ?_)
            · have zc22 := zx21 c22
              refine g_aload_n dX6_mean_59 rfl ?_
              refine g_iload_n dX6_mean_60 rfl ?_
              refine g_iload_n dX6_mean_61 rfl ?_
              refine g_iload_n dX6_mean_62 rfl ?_
              refine cl_X6_198 (c := 0) (As := [.int v, .int m, .int b]) rfl (c_X6_scaledMean (G := G) hs hu  v m b (by first | trivial | decide | lia | grind) (by first | trivial | decide | lia | grind) (d)) rfl (by omega) rfl rfl (Nat.le_of_ble_eq_true rfl) dX6_mean_63 (fun r23 u24 q25 => ?_)
              obtain ⟨⟨x26, rfl, tx26⟩, mq25⟩ := q25
              obtain ⟨hu24, gu24⟩ := mq25
              have fu24 : fr 59 60 u u24 := fr_tr f0 gu24 (by omega) (by omega)
              refine g_lstore dX6_mean_66 (by decide) ?_
              refine g_pick (lv' := [(0, .ref (uk_ad G 0)), (1, .int v), (2, .int m), (3, .int b), (4, .int w), (5, .long x26)]) [0, 1, 2, 3, 4, 5] rfl ?_
              refine g_lload dX6_mean_68 rfl ?_
              refine g_ldc2 (v := 10000000) k_X6_202 dX6_mean_70 ?_
              refine cl_X6_204 (As := [.long x26, .long 10000000]) rfl (c_X6_greatestCommon (G := G) hs hu24  x26 10000000  (d + 1)) rfl (by omega) rfl (Nat.le_of_ble_eq_true rfl) dX6_mean_73 (fun r27 u28 q29 => ?_)
              obtain ⟨⟨x30, rfl, tx30⟩, mq29⟩ := q29
              rw [mq29]
              refine g_lstore dX6_mean_76 (by decide) ?_
              refine g_pick (lv' := [(0, .ref (uk_ad G 0)), (1, .int v), (2, .int m), (3, .int b), (4, .int w), (5, .long x26), (7, .long x30)]) [0, 1, 2, 3, 4, 5, 6] rfl ?_
              refine g_iload dX6_mean_78 rfl ?_
              refine g_if_ne (tgt := 88) dX6_mean_80 (by decide) (fun c31 => ?_) (fun c31 => ?_)
              · refine g_ldc2 (v := 10000000) k_X6_202 dX6_mean_88 ?_
                refine g_lload dX6_mean_91 rfl ?_
                refine g_ldiv dX6_mean_93 (by first | decide | assumption | exact uk_lg0 (by assumption) | grind) ?_
                refine g_topl (fun y32 ey32 => ?_)
                exact g_lret dX6_mean_94 rfl ⟨⟨_, rfl, by first | trivial | decide | exact uk_lg0 (by assumption) | grind⟩, hu24, fu24⟩
              · refine g_lload dX6_mean_83 rfl ?_
                refine g_goto (tgt := 91) dX6_mean_85 (by decide) ?_
                refine g_lload dX6_mean_91 rfl ?_
                refine g_ldiv dX6_mean_93 (by first | decide | assumption | exact uk_lg0 (by assumption) | grind) ?_
                refine g_topl (fun y33 ey33 => ?_)
                exact g_lret dX6_mean_94 rfl ⟨⟨_, rfl, by first | trivial | decide | exact uk_lg0 (by assumption) | grind⟩, hu24, fu24⟩
            · have zc22 := nx21 c22
              refine g_ldc2 (v := (-2)) k_X6_196 dX6_mean_55 ?_
              exact g_lret dX6_mean_58 rfl ⟨⟨_, rfl, by first | trivial | decide | exact uk_lg0 (by assumption) | grind⟩, hu, f0⟩
          · have zc17 := zx16 c17
            refine g_ldc2 (v := (-1)) k_X6_194 dX6_mean_40 ?_
            exact g_lret dX6_mean_43 rfl ⟨⟨_, rfl, by first | trivial | decide | exact uk_lg0 (by assumption) | grind⟩, hu, f0⟩
abbrev q_X6_best (u : uk_Mem) (k : Int32) (w : Int32) (r : Option Value) (u' : uk_Mem) : Prop := (∃ x : Int32, r = some (.int x) ∧ True) ∧ (iv u' ∧ fr 13 49 u u')
abbrev q_X6_least (u : uk_Mem) (m : Int32) (w : Int32) (r : Option Value) (u' : uk_Mem) : Prop := (∃ x : Int32, r = some (.int x) ∧ True) ∧ (iv u' ∧ fr 13 49 u u')
abbrev q_X6_see (u : uk_Mem) (b : Int32) (r : Option Value) (u' : uk_Mem) : Prop := (∃ x : Int32, r = some (.int x) ∧ True) ∧ (iv u' ∧ fr 13 22 u u')
abbrev q_X6_forget (u : uk_Mem) (n : Int32) (r : Option Value) (u' : uk_Mem) : Prop := (∃ x : Int32, r = some (.int x) ∧ True) ∧ (iv u' ∧ fr 13 22 u u')
abbrev q_X6_fits (u : uk_Mem)  (r : Option Value) (u' : uk_Mem) : Prop := (∃ x : Int32, r = some (.int x) ∧ True) ∧ (iv u' ∧ fr 41 46 u u')
set_option maxHeartbeats 4000000 in
set_option maxRecDepth 20000 in
theorem c_X6_fits {G : uk_D} (hs : uk_Sep G) {u : uk_Mem} (hu : iv u)  (d : Nat) : uk_Meth G (d + 3) mX6_fits [.ref (uk_ad G 0)] u (q_X6_fits u) := by
  refine uk_Meth.of hs (by decide) (Nat.le_of_ble_eq_true rfl) (fun X => ?_)
  have f0 : fr 41 46 u u := fr_rf
  refine g_iconst (v := 0) dX6_fits_0 (by decide) ?_
  refine g_istore_n dX6_fits_1 (by decide) ?_
  refine g_pick (lv' := [(0, .ref (uk_ad G 0)), (1, .int 0)]) [0, 1] rfl ?_
  refine g_iconst (v := 0) dX6_fits_2 (by decide) ?_
  refine g_istore_n dX6_fits_3 (by decide) ?_
  refine g_pick (lv' := [(0, .ref (uk_ad G 0)), (1, .int 0), (2, .int 0)]) [0, 1, 2] rfl ?_
  have L4_0 : ∀ i3 : Int32, 0 ≤ i3 → i3 ≤ 8 → ∀ (w2 : Int32) (u4 : uk_Mem), iv u4 → fr 41 46 u u4 → uk_G G X mX6_fits (d + 3) (q_X6_fits u) 4 [(0, .ref (uk_ad G 0)), (1, .int w2), (2, .int i3)] [] u4 := by
    refine uk_upl 8 ?_
    intro i3 ai3 bi3 ihi3 w2 u4 hu4 fu4
    refine g_iload_n dX6_fits_4 rfl ?_
    refine g_aload_n dX6_fits_5 rfl ?_
    refine f_X6_10 rfl rfl dX6_fits_6 ?_
    refine f_X6_105 rfl rfl dX6_fits_9 ?_
    refine g_topi (fun x5 ex5 => ?_)
    have rx5 : 0 ≤ x5 ∧ x5 ≤ 8 := by rw [ex5]; exact iv_at hu4 _ _ rfl
    have s6 : u4.1 13 0 = x5 := ex5.symm
    refine g_icmp_ge (tgt := 65) dX6_fits_12 (by decide) (fun c7 => ?_) (fun c7 => ?_)
    · refine g_iload_n dX6_fits_65 rfl ?_
      exact g_iret (ty := .int) dX6_fits_66 rfl rfl ⟨⟨_, rfl, by first | trivial | lia | grind⟩, hu4, fu4⟩
    · refine g_aload_n dX6_fits_15 rfl ?_
      refine f_X6_48 rfl rfl dX6_fits_16 ?_
      refine g_aload_n dX6_fits_19 rfl ?_
      refine f_X6_10 rfl rfl dX6_fits_20 ?_
      refine g_iload_n dX6_fits_23 rfl ?_
      refine g_bipush (v := 127) dX6_fits_24 (by decide) ?_
      refine cl_X6_177 (c := 41) (As := [.ref (uk_ad G 13), .int i3, .int 127]) rfl (c_X1_grind (G := G) hs hu4  i3 127 (by first | trivial | decide | lia | grind) (by first | trivial | decide | lia | grind) (d)) rfl (by omega) rfl rfl (Nat.le_of_ble_eq_true rfl) dX6_fits_26 (fun r8 u9 q10 => ?_)
      obtain ⟨rfl, mq10⟩ := q10
      obtain ⟨hu9, gu9⟩ := mq10
      have fu9 : fr 41 46 u u9 := fr_tr fu4 gu9 (by omega) (by omega)
      have s11 : u9.1 13 0 = x5 := (fr_at gu9 (by omega)).trans s6
      refine g_aload_n dX6_fits_29 rfl ?_
      refine f_X6_48 rfl rfl dX6_fits_30 ?_
      refine g_aload_n dX6_fits_33 rfl ?_
      refine f_X6_10 rfl rfl dX6_fits_34 ?_
      refine f_X6_226 rfl rfl dX6_fits_37 ?_
      refine g_aload_n dX6_fits_40 rfl ?_
      refine f_X6_10 rfl rfl dX6_fits_41 ?_
      refine f_X6_223 rfl rfl dX6_fits_44 ?_
      refine g_topi (fun x12 ex12 => ?_)
      have rx12 : 0 ≤ x12 ∧ x12 ≤ 8 := by rw [ex12]; exact iv_at hu9 _ _ rfl
      have s13 : u9.1 13 9 = x12 := ex12.symm
      refine cl_X6_229 (c := 41) (As := [.ref (uk_ad G 21), .int x12]) rfl (c_X1_beginsWith (G := G) hs hu9  x12 (by first | trivial | decide | lia | grind) (by first | trivial | decide | lia | grind) (d + 2)) rfl (by omega) rfl rfl (Nat.le_of_ble_eq_true rfl) dX6_fits_47 (fun r14 u15 q16 => ?_)
      obtain ⟨⟨x17, rfl, tx17, nx17, zx17⟩, mq16⟩ := q16
      rw [mq16]
      refine g_if_eq (tgt := 59) dX6_fits_50 (by decide) (fun c18 => ?_) (fun c18 => ?_)
      · have zc18 := zx17 c18
        refine g_iinc (v := i3 + 1) dX6_fits_59 rfl rfl (by decide) ?_
        refine g_pick (lv' := [(0, .ref (uk_ad G 0)), (1, .int w2), (2, .int (i3 + 1))]) [0, 1, 2] rfl ?_
        refine g_goto (tgt := 4) dX6_fits_62 (by decide) ?_
        refine g_pick (lv' := [(0, .ref (uk_ad G 0)), (1, .int w2), (2, .int (i3 + 1))]) [0, 1, 2] rfl ?_
        exact ihi3 (by first | lia | grind) w2 u9 hu9 fu9 
      · have zc18 := nx17 c18
        refine g_iload_n dX6_fits_53 rfl ?_
        refine g_iconst (v := 1) dX6_fits_54 (by decide) ?_
        refine g_iload_n dX6_fits_55 rfl ?_
        refine g_ishl dX6_fits_56 (fun x19 ex19 => ?_)
        refine g_ior dX6_fits_57 ?_
        refine g_topi (fun x20 ex20 => ?_)
        refine g_istore_n dX6_fits_58 (by decide) ?_
        refine g_pick (lv' := [(0, .ref (uk_ad G 0)), (1, .int x20), (2, .int i3)]) [0, 1, 2] rfl ?_
        refine g_iinc (v := i3 + 1) dX6_fits_59 rfl rfl (by decide) ?_
        refine g_pick (lv' := [(0, .ref (uk_ad G 0)), (1, .int x20), (2, .int (i3 + 1))]) [0, 1, 2] rfl ?_
        refine g_goto (tgt := 4) dX6_fits_62 (by decide) ?_
        refine g_pick (lv' := [(0, .ref (uk_ad G 0)), (1, .int x20), (2, .int (i3 + 1))]) [0, 1, 2] rfl ?_
        exact ihi3 (by first | lia | grind) x20 u9 hu9 fu9 
  refine g_pick (lv' := [(0, .ref (uk_ad G 0)), (1, .int 0), (2, .int 0)]) [0, 1, 2] rfl ?_
  exact L4_0 0 (by first | decide | lia | grind) (by first | decide | lia | grind) 0 u hu f0 
abbrev q_X6_drift (u : uk_Mem) (s : Int32) (n : Int32) (w : Int32) (r : Option Value) (u' : uk_Mem) : Prop := (∃ x : Int32, r = some (.int x) ∧ True) ∧ (iv u' ∧ fr 4 13 u u')
set_option maxHeartbeats 4000000 in
set_option maxRecDepth 20000 in
theorem c_X6_drift {G : uk_D} (hs : uk_Sep G) {u : uk_Mem} (hu : iv u) (s : Int32) (n : Int32) (w : Int32) (d : Nat) : uk_Meth G (d + 3) mX6_drift [.ref (uk_ad G 0), .int s, .int n, .int w] u (q_X6_drift u s n w) := by
  refine uk_Meth.of hs (by decide) (Nat.le_of_ble_eq_true rfl) (fun X => ?_)
  have f0 : fr 4 13 u u := fr_rf
  refine g_iload_n dX6_drift_0 rfl ?_
  refine g_iconst (v := 1) dX6_drift_1 (by decide) ?_
  refine g_icmp_lt (tgt := 18) dX6_drift_2 (by decide) (fun c1 => ?_) (fun c1 => ?_)
  · refine g_iconst (v := (-1)) dX6_drift_18 (by decide) ?_
    exact g_iret (ty := .int) dX6_drift_19 rfl rfl ⟨⟨_, rfl, by first | trivial | lia | grind⟩, hu, f0⟩
  · refine g_iload_n dX6_drift_5 rfl ?_
    refine g_bipush (v := 60) dX6_drift_6 (by decide) ?_
    refine g_icmp_gt (tgt := 18) dX6_drift_8 (by decide) (fun c2 => ?_) (fun c2 => ?_)
    · refine g_iconst (v := (-1)) dX6_drift_18 (by decide) ?_
      exact g_iret (ty := .int) dX6_drift_19 rfl rfl ⟨⟨_, rfl, by first | trivial | lia | grind⟩, hu, f0⟩
    · refine g_iload_n dX6_drift_11 rfl ?_
      refine cl_X6_162 (As := [.int w]) rfl (c_X6_isFlag (G := G) hs hu  w  (d + 2)) rfl (by omega) rfl (Nat.le_of_ble_eq_true rfl) dX6_drift_12 (fun r3 u4 q5 => ?_)
      obtain ⟨⟨x6, rfl, tx6, nx6, zx6⟩, mq5⟩ := q5
      rw [mq5]
      refine g_if_ne (tgt := 20) dX6_drift_15 (by decide) (fun c7 => ?_) (fun c7 => ?_)
      · have zc7 := nx6 c7
        refine g_aload_n dX6_drift_20 rfl ?_
        refine f_X6_10 rfl rfl dX6_drift_21 ?_
        refine f_X6_105 rfl rfl dX6_drift_24 ?_
        refine g_topi (fun x8 ex8 => ?_)
        have rx8 : 0 ≤ x8 ∧ x8 ≤ 8 := by rw [ex8]; exact iv_at hu _ _ rfl
        have s9 : u.1 13 0 = x8 := ex8.symm
        refine g_if_ne (tgt := 33) dX6_drift_27 (by decide) (fun c10 => ?_) (fun c10 => ?_)
        · refine g_aload_n dX6_drift_33 rfl ?_
          refine f_X6_16 rfl rfl dX6_drift_34 ?_
          refine g_aload_n dX6_drift_37 rfl ?_
          refine f_X6_10 rfl rfl dX6_drift_38 ?_
          refine cl_X6_101 (c := 4) (As := [.ref (uk_ad G 13)]) rfl (c_X0_copyFrom (G := G) hs hu uk_isK4 uk_isK13   (d + 2)) rfl (by omega) rfl rfl (Nat.le_of_ble_eq_true rfl) dX6_drift_41 (fun r11 u12 q13 => ?_)
          obtain ⟨rfl, mq13⟩ := q13
          obtain ⟨hu12, gu12⟩ := mq13
          have fu12 : fr 4 13 u u12 := fr_tr f0 gu12 (by omega) (by omega)
          have wu12_13_0 : u12.1 13 0 = u.1 13 0 := fr_at gu12 (by omega)
          have s14 : u12.1 13 0 = x8 := (fr_at gu12 (by omega)).trans s9
          refine g_iload_n dX6_drift_44 rfl ?_
          refine g_istore dX6_drift_45 (by decide) ?_
          refine g_pick (lv' := [(0, .ref (uk_ad G 0)), (1, .int s), (2, .int n), (3, .int w), (4, .int s)]) [0, 1, 2, 3, 4] rfl ?_
          refine g_iconst (v := 0) dX6_drift_47 (by decide) ?_
          refine g_istore dX6_drift_48 (by decide) ?_
          refine g_pick (lv' := [(0, .ref (uk_ad G 0)), (1, .int s), (2, .int n), (3, .int w), (4, .int s), (5, .int 0)]) [0, 1, 2, 3, 4, 5] rfl ?_
          have L50_14 : ∀ i17 : Int32, 0 ≤ i17 → i17 ≤ 60 → ∀ (w16 : Int32) (u18 : uk_Mem), iv u18 → fr 4 13 u u18 → u18.1 13 0 = u.1 13 0 → uk_G G X mX6_drift (d + 3) (q_X6_drift u s n w) 50 [(0, .ref (uk_ad G 0)), (1, .int s), (2, .int n), (3, .int w), (4, .int w16), (5, .int i17)] [] u18 := by
            refine uk_upl 60 ?_
            intro i17 ai17 bi17 ihi17 w16 u18 hu18 fu18 ji170
            refine g_iload dX6_drift_50 rfl ?_
            refine g_iload_n dX6_drift_52 rfl ?_
            refine g_icmp_ge (tgt := 135) dX6_drift_53 (by decide) (fun c19 => ?_) (fun c19 => ?_)
            · refine g_iload_n dX6_drift_135 rfl ?_
              refine g_if_ne (tgt := 157) dX6_drift_136 (by decide) (fun c20 => ?_) (fun c20 => ?_)
              · refine g_aload_n dX6_drift_157 rfl ?_
                refine f_X6_16 rfl rfl dX6_drift_158 ?_
                refine cl_X6_241 (c := 4) (As := []) rfl (c_X0_things (G := G) hs hu18 uk_isK4   (d + 2)) rfl (by omega) rfl rfl (Nat.le_of_ble_eq_true rfl) dX6_drift_161 (fun r21 u22 q23 => ?_)
                obtain ⟨⟨x24, rfl, tx24⟩, mq23⟩ := q23
                rw [mq23]
                exact g_iret (ty := .int) dX6_drift_164 rfl rfl ⟨⟨_, rfl, by first | trivial | lia | grind⟩, hu18, fu18⟩
              · refine g_aload_n dX6_drift_139 rfl ?_
                refine f_X6_16 rfl rfl dX6_drift_140 ?_
                refine f_X6_109 rfl rfl dX6_drift_143 ?_
                refine g_topi (fun x25 ex25 => ?_)
                have s26 : u18.1 4 11 = x25 := ex25.symm
                refine g_aload_n dX6_drift_146 rfl ?_
                refine f_X6_10 rfl rfl dX6_drift_147 ?_
                refine f_X6_109 rfl rfl dX6_drift_150 ?_
                refine g_topi (fun x27 ex27 => ?_)
                have s28 : u18.1 13 11 = x27 := ex27.symm
                refine g_isub dX6_drift_153 ?_
                refine g_topi (fun x29 ex29 => ?_)
                refine g_goto (tgt := 164) dX6_drift_154 (by decide) ?_
                exact g_iret (ty := .int) dX6_drift_164 rfl rfl ⟨⟨_, rfl, by first | trivial | lia | grind⟩, hu18, fu18⟩
            · refine g_iload dX6_drift_56 rfl ?_
              refine g_ldc (v := 1103515245) k_X6_237 dX6_drift_58 ?_
              refine g_imul dX6_drift_60 ?_
              refine g_topi (fun x30 ex30 => ?_)
              refine g_sipush (v := 12345) dX6_drift_61 (by decide) ?_
              refine g_iadd dX6_drift_64 ?_
              refine g_topi (fun x31 ex31 => ?_)
              refine g_istore dX6_drift_65 (by decide) ?_
              refine g_pick (lv' := [(0, .ref (uk_ad G 0)), (1, .int s), (2, .int n), (3, .int w), (4, .int x31), (5, .int i17)]) [0, 1, 2, 3, 4, 5] rfl ?_
              refine g_iload dX6_drift_67 rfl ?_
              refine cl_X6_238 (As := [.int x31]) rfl (c_X6_drawn (G := G) hs hu18  x31  (d + 2)) rfl (by omega) rfl (Nat.le_of_ble_eq_true rfl) dX6_drift_69 (fun r32 u33 q34 => ?_)
              obtain ⟨⟨x35, rfl, tx35⟩, mq34⟩ := q34
              rw [mq34]
              refine g_aload_n dX6_drift_72 rfl ?_
              refine f_X6_10 rfl rfl dX6_drift_73 ?_
              refine f_X6_105 rfl rfl dX6_drift_76 ?_
              refine g_topi (fun x36 ex36 => ?_)
              have rx36 : 0 ≤ x36 ∧ x36 ≤ 8 := by rw [ex36]; exact iv_at hu18 _ _ rfl
              have s37 : u18.1 13 0 = x36 := ex36.symm
              refine g_irem dX6_drift_79 (by first | decide | lia | grind) ?_
              refine g_topi (fun x38 ex38 => ?_)
              refine g_istore dX6_drift_80 (by decide) ?_
              refine g_pick (lv' := [(0, .ref (uk_ad G 0)), (1, .int s), (2, .int n), (3, .int w), (4, .int x31), (5, .int i17), (6, .int x38)]) [0, 1, 2, 3, 4, 5, 6] rfl ?_
              refine g_iload dX6_drift_82 rfl ?_
              refine g_ldc (v := 1103515245) k_X6_237 dX6_drift_84 ?_
              refine g_imul dX6_drift_86 ?_
              refine g_topi (fun x39 ex39 => ?_)
              refine g_sipush (v := 12345) dX6_drift_87 (by decide) ?_
              refine g_iadd dX6_drift_90 ?_
              refine g_topi (fun x40 ex40 => ?_)
              refine g_istore dX6_drift_91 (by decide) ?_
              refine g_pick (lv' := [(0, .ref (uk_ad G 0)), (1, .int s), (2, .int n), (3, .int w), (4, .int x40), (5, .int i17), (6, .int x38)]) [0, 1, 2, 3, 4, 5, 6] rfl ?_
              refine g_iload dX6_drift_93 rfl ?_
              refine cl_X6_238 (As := [.int x40]) rfl (c_X6_drawn (G := G) hs hu18  x40  (d + 2)) rfl (by omega) rfl (Nat.le_of_ble_eq_true rfl) dX6_drift_95 (fun r41 u42 q43 => ?_)
              obtain ⟨⟨x44, rfl, tx44⟩, mq43⟩ := q43
              rw [mq43]
              refine g_iconst (v := 2) dX6_drift_98 (by decide) ?_
              refine g_irem dX6_drift_99 (by first | decide | lia | grind) ?_
              refine g_topi (fun x45 ex45 => ?_)
              refine g_bipush (v := 10) dX6_drift_100 (by decide) ?_
              refine g_imul dX6_drift_102 ?_
              refine g_topi (fun x46 ex46 => ?_)
              refine g_iload dX6_drift_103 rfl ?_
              refine g_iadd dX6_drift_105 ?_
              refine g_topi (fun x47 ex47 => ?_)
              refine g_istore dX6_drift_106 (by decide) ?_
              refine g_pick (lv' := [(0, .ref (uk_ad G 0)), (1, .int s), (2, .int n), (3, .int w), (4, .int x40), (5, .int i17), (6, .int x38), (7, .int x47)]) [0, 1, 2, 3, 4, 5, 6, 7] rfl ?_
              refine g_aload_n dX6_drift_108 rfl ?_
              refine f_X6_16 rfl rfl dX6_drift_109 ?_
              refine g_iload dX6_drift_112 rfl ?_
              refine cl_X6_152 (c := 4) (As := [.int x47]) rfl (c_X0_isAble (G := G) hs hu18 uk_isK4 x47  (d)) rfl (by omega) rfl rfl (Nat.le_of_ble_eq_true rfl) dX6_drift_114 (fun r48 u49 q50 => ?_)
              obtain ⟨⟨x51, rfl, tx51, nx51, zx51⟩, mq50⟩ := q50
              rw [mq50]
              refine g_if_eq (tgt := 129) dX6_drift_117 (by decide) (fun c52 => ?_) (fun c52 => ?_)
              · have zc52 := zx51 c52
                refine g_iinc (v := i17 + 1) dX6_drift_129 rfl rfl (by decide) ?_
                refine g_pick (lv' := [(0, .ref (uk_ad G 0)), (1, .int s), (2, .int n), (3, .int w), (4, .int x40), (5, .int (i17 + 1)), (6, .int x38), (7, .int x47)]) [0, 1, 2, 3, 4, 5, 6, 7] rfl ?_
                refine g_goto (tgt := 50) dX6_drift_132 (by decide) ?_
                refine g_pick (lv' := [(0, .ref (uk_ad G 0)), (1, .int s), (2, .int n), (3, .int w), (4, .int x40), (5, .int (i17 + 1))]) [0, 1, 2, 3, 4, 5] rfl ?_
                exact ihi17 (by first | lia | grind) x40 u18 hu18 fu18 (by first | trivial | lia | grind | grind [uk_up_at] | (simp [uk_up_at, s37, ji170]; done) | (simp [uk_up_at]; grind))
              · have zc52 := nx51 c52
                refine g_aload_n dX6_drift_120 rfl ?_
                refine f_X6_16 rfl rfl dX6_drift_121 ?_
                refine g_iload dX6_drift_124 rfl ?_
                refine cl_X6_155 (c := 4) (As := [.int x47]) rfl (c_X0_perform (G := G) hs hu18 uk_isK4 x47 (by first | trivial | decide | lia | grind) (d)) rfl (by omega) rfl rfl (Nat.le_of_ble_eq_true rfl) dX6_drift_126 (fun r53 u54 q55 => ?_)
                obtain ⟨rfl, mq55⟩ := q55
                obtain ⟨hu54, gu54⟩ := mq55
                have fu54 : fr 4 13 u u54 := fr_tr fu18 gu54 (by omega) (by omega)
                have wu54_13_0 : u54.1 13 0 = u18.1 13 0 := fr_at gu54 (by omega)
                have s56 : u54.1 13 0 = x36 := (fr_at gu54 (by omega)).trans s37
                refine g_iinc (v := i17 + 1) dX6_drift_129 rfl rfl (by decide) ?_
                refine g_pick (lv' := [(0, .ref (uk_ad G 0)), (1, .int s), (2, .int n), (3, .int w), (4, .int x40), (5, .int (i17 + 1)), (6, .int x38), (7, .int x47)]) [0, 1, 2, 3, 4, 5, 6, 7] rfl ?_
                refine g_goto (tgt := 50) dX6_drift_132 (by decide) ?_
                refine g_pick (lv' := [(0, .ref (uk_ad G 0)), (1, .int s), (2, .int n), (3, .int w), (4, .int x40), (5, .int (i17 + 1))]) [0, 1, 2, 3, 4, 5] rfl ?_
                exact ihi17 (by first | lia | grind) x40 u54 hu54 fu54 (by first | trivial | lia | grind | grind [uk_up_at] | (simp [uk_up_at, s56, ji170]; done) | (simp [uk_up_at]; grind))
          refine g_pick (lv' := [(0, .ref (uk_ad G 0)), (1, .int s), (2, .int n), (3, .int w), (4, .int s), (5, .int 0)]) [0, 1, 2, 3, 4, 5] rfl ?_
          exact L50_14 0 (by first | decide | lia | grind) (by first | decide | lia | grind) s u12 hu12 fu12 (by first | trivial | lia | grind | grind [uk_up_at] | (simp [uk_up_at, s14]; done) | (simp [uk_up_at]; grind))
        · refine g_bipush (v := (-2)) dX6_drift_30 (by decide) ?_
          exact g_iret (ty := .int) dX6_drift_32 rfl rfl ⟨⟨_, rfl, by first | trivial | lia | grind⟩, hu, f0⟩
      · have zc7 := zx6 c7
        refine g_iconst (v := (-1)) dX6_drift_18 (by decide) ?_
        exact g_iret (ty := .int) dX6_drift_19 rfl rfl ⟨⟨_, rfl, by first | trivial | lia | grind⟩, hu, f0⟩
abbrev q_X6_keep (u : uk_Mem) (k : Int32) (r : Option Value) (u' : uk_Mem) : Prop := (∃ x : Int32, r = some (.int x) ∧ True) ∧ (iv u' ∧ fr 22 41 u u')
abbrev q_X6_back (u : uk_Mem) (k : Int32) (r : Option Value) (u' : uk_Mem) : Prop := (∃ x : Int32, r = some (.int x) ∧ True) ∧ (iv u' ∧ fr 13 22 u u')
abbrev q_X6_sheet (u : uk_Mem) (k : Int32) (l : Int32) (n : Int32) (r : Option Value) (u' : uk_Mem) : Prop := (∃ x : Int32, r = some (.int x) ∧ True) ∧ (iv u' ∧ fr 49 57 u u')
abbrev q_X6_lay (u : uk_Mem) (k : Int32) (i : Int32) (v : Int32) (r : Option Value) (u' : uk_Mem) : Prop := (∃ x : Int32, r = some (.int x) ∧ True) ∧ (iv u' ∧ fr 49 57 u u')
abbrev q_X6_read (u : uk_Mem) (k : Int32) (l : Int32) (f : Int32) (n : Int32) (r : Option Value) (u' : uk_Mem) : Prop := (∃ x : Int32, r = some (.int x) ∧ True) ∧ (iv u' ∧ fr 0 22 u u' ∧ u'.1 2 1 = u.1 2 1)
abbrev q_X6_torn (u : uk_Mem)  (r : Option Value) (u' : uk_Mem) : Prop := (∃ x : Int32, r = some (.int x) ∧ True) ∧ (u' = u)
abbrev q_X6_count (u : uk_Mem) (w : Int32) (r : Option Value) (u' : uk_Mem) : Prop := (∃ x : Int32, r = some (.int x) ∧ True) ∧ (u' = u)
/-! the reference: ranges in pieces, frames by lists of cells, what raw and made stuffs are -/
def frl (l : List Nat) (u u' : uk_Mem) : Prop := ∀ c, c ∉ l → u'.1 c = u.1 c ∧ u'.2 c = u.2 c
theorem frl_rf {l : List Nat} {u : uk_Mem} : frl l u u := fun _ _ => ⟨rfl, rfl⟩
theorem frl_up {l : List Nat} {c i : Nat} {x : Int32} {u u' : uk_Mem} (h : frl l u u') (hc : c ∈ l) : frl l u (uk_up u' c i x) := fun b hb => by
  have hn : ¬ b = c := fun q => hb (q ▸ hc)
  refine ⟨?_, (h b hb).2⟩
  rw [← (h b hb).1]
  unfold uk_up
  dsimp only
  rw [if_neg hn]
theorem frl_upL {l : List Nat} {c i : Nat} {x : Int64} {u u' : uk_Mem} (h : frl l u u') (hc : c ∈ l) : frl l u (uk_upL u' c i x) := fun b hb => by
  have hn : ¬ b = c := fun q => hb (q ▸ hc)
  refine ⟨(h b hb).1, ?_⟩
  rw [← (h b hb).2]
  unfold uk_upL
  dsimp only
  rw [if_neg hn]
theorem frl_tr {l l' : List Nat} {u u' u'' : uk_Mem} (h : frl l u u') (h' : frl l' u' u'') (hs : ∀ c ∈ l', c ∈ l) : frl l u u'' := fun c hc => by
  have hc' : c ∉ l' := fun q => hc (hs c q)
  exact ⟨(h' c hc').1.trans (h c hc).1, (h' c hc').2.trans (h c hc).2⟩
theorem frl_at {l : List Nat} {c i : Nat} {u u' : uk_Mem} (h : frl l u u') (hc : c ∉ l) : u'.1 c i = u.1 c i := by rw [(h c hc).1]
theorem uk_cln {i : Int32} (n : Nat) (N : Int32) (hN : N.toInt = (n : Int)) (h0 : 0 ≤ i) (h1 : i ≤ N) : i.toNatClampNeg ≤ n := by
  have a := Int32.le_iff_toInt_le.mp h1
  have b := Int32.le_iff_toInt_le.mp h0
  have z : (0 : Int32).toInt = 0 := rfl
  rw [hN] at a
  have : i.toNatClampNeg = i.toInt.toNat := rfl
  omega
theorem uk_cge {i : Int32} (n : Nat) (N : Int32) (hN : N.toInt = (n : Int)) (h1 : N ≤ i) : n ≤ i.toNatClampNeg := by
  have a := Int32.le_iff_toInt_le.mp h1
  rw [hN] at a
  have : i.toNatClampNeg = i.toInt.toNat := rfl
  omega
theorem uk_cinj {i j : Int32} (hi : 0 ≤ i) (hj : 0 ≤ j) (h : i.toNatClampNeg = j.toNatClampNeg) : i = j := by
  have a := Int32.le_iff_toInt_le.mp hi
  have b := Int32.le_iff_toInt_le.mp hj
  have z : (0 : Int32).toInt = 0 := rfl
  have e1 : i.toNatClampNeg = i.toInt.toNat := rfl
  have e2 : j.toNatClampNeg = j.toInt.toNat := rfl
  apply Int32.toInt_inj.mp
  omega
/-- the four rows of 51: which cells -/
def uk_is51 (c : Nat) : Prop := c = 61 ∨ c = 62 ∨ c = 66 ∨ c = 77
theorem sg_t1 : ∀ n, n < 8 → uk_rg 61 n = (0, 40) := by decide
theorem sg_t3 : ∀ n, n < 8 → uk_rg 61 (43 + n) = (0, 7) := by decide
theorem sg_t4 : ∀ n, n < 34 → uk_rg 61 (8 + n) = (-2147483648, 2147483647) := by decide
theorem sg_t5 : ∀ n, n < 51 → uk_rg 62 n = uk_rg 61 n := by decide
theorem sg_t6 : ∀ n, n < 51 → uk_rg 66 n = uk_rg 61 n := by decide
theorem sg_t7 : ∀ n, n < 51 → uk_rg 77 n = uk_rg 61 n := by decide
theorem sg_t8 : ∀ n, n < 51 → uk_rg 61 (51 + n) = uk_rg 61 n := by decide
theorem sg_t9 : ∀ n, n < 51 → uk_rg 61 (102 + n) = uk_rg 61 n := by decide
theorem sg_tab (n : Nat) (h : n < 51) : (n < 8 → uk_rg 61 n = (0, 40)) ∧ (n = 42 → uk_rg 61 n = (0, 8)) ∧ (43 ≤ n → uk_rg 61 n = (0, 7)) ∧ (8 ≤ n → n < 42 → uk_rg 61 n = (-2147483648, 2147483647)) ∧ uk_rg 62 n = uk_rg 61 n ∧ uk_rg 66 n = uk_rg 61 n ∧ uk_rg 77 n = uk_rg 61 n ∧ uk_rg 61 (51 + n) = uk_rg 61 n ∧ uk_rg 61 (102 + n) = uk_rg 61 n := by
  refine ⟨sg_t1 n, fun q => by rw [q]; rfl, fun q => ?_, fun q q2 => ?_, sg_t5 n h, sg_t6 n h, sg_t7 n h, sg_t8 n h, sg_t9 n h⟩
  · have := sg_t3 (n - 43) (by omega)
    rwa [show 43 + (n - 43) = n by omega] at this
  · have := sg_t4 (n - 8) (by omega)
    rwa [show 8 + (n - 8) = n by omega] at this
theorem sg_eq {c n : Nat} (hc : uk_is51 c) (hn : n < 51) : uk_rg c n = uk_rg 61 n := by
  obtain ⟨-, -, -, -, h1, h2, h3, -⟩ := sg_tab n hn
  rcases hc with rfl | rfl | rfl | rfl
  · rfl
  · exact h1
  · exact h2
  · exact h3
theorem sg_0 {u : uk_Mem} (h : iv u) {c : Nat} (hc : uk_is51 c) {i : Int32} (h0 : 0 ≤ i) (h1 : i ≤ 7) : 0 ≤ u.1 c i.toNatClampNeg ∧ u.1 c i.toNatClampNeg ≤ 40 := by
  have hl := uk_cln 7 7 rfl h0 h1
  exact iv_at h c _ ((sg_eq hc (by omega)).trans ((sg_tab _ (by omega)).1 (by omega)))
theorem sg_42 {u : uk_Mem} (h : iv u) {c : Nat} (hc : uk_is51 c) : 0 ≤ u.1 c 42 ∧ u.1 c 42 ≤ 8 := iv_at h c 42 ((sg_eq hc (by omega)).trans ((sg_tab _ (by omega)).2.1 rfl))
theorem sg_43 {u : uk_Mem} (h : iv u) {c : Nat} (hc : uk_is51 c) {i : Int32} (h0 : 43 ≤ i) (h1 : i ≤ 50) : 0 ≤ u.1 c i.toNatClampNeg ∧ u.1 c i.toNatClampNeg ≤ 7 := by
  have hl := uk_cln 50 50 rfl (by grind) h1
  have hg := uk_cge 43 43 rfl h0
  exact iv_at h c _ ((sg_eq hc (by omega)).trans ((sg_tab _ (by omega)).2.2.1 (by omega)))
theorem iv_st {u : uk_Mem} (h : iv u) {c : Nat} (hc : uk_is51 c) {i x : Int32} (h0 : 0 ≤ i) (h1 : i ≤ 50) (ha : i ≤ 7 → 0 ≤ x ∧ x ≤ 40) (hb : i = 42 → 0 ≤ x ∧ x ≤ 8) (hd : 43 ≤ i → 0 ≤ x ∧ x ≤ 7) : iv (uk_up u c i.toNatClampNeg x) := by
  have hl := uk_cln 50 50 rfl h0 h1
  have hn : i.toNatClampNeg < 51 := by omega
  obtain ⟨t1, t2, t3, t4, -⟩ := sg_tab _ hn
  by_cases q1 : i ≤ 7
  · have := uk_cln 7 7 rfl h0 q1
    exact iv_up h ((sg_eq hc hn).trans (t1 (by omega))) (ha q1).1 (ha q1).2
  · have g1 := uk_cge 8 8 rfl (show (8 : Int32) ≤ i by grind)
    by_cases q2 : i = 42
    · exact iv_up h ((sg_eq hc hn).trans (t2 (by rw [q2]; rfl))) (hb q2).1 (hb q2).2
    · by_cases q3 : 43 ≤ i
      · have g3 := uk_cge 43 43 rfl q3
        exact iv_up h ((sg_eq hc hn).trans (t3 g3)) (hd q3).1 (hd q3).2
      · have g4 := uk_cln 41 41 rfl h0 (show i ≤ 41 by grind)
        exact iv_upF h ((sg_eq hc hn).trans (t4 g1 (by omega)))
/-- a number goes from one row of 51 to the same place of another -/
theorem iv_cp {u v : uk_Mem} (h : iv v) (hu : iv u) {c c' : Nat} (hc : uk_is51 c) (hc' : uk_is51 c') {i : Nat} {x : Int32} (hi : i < 51) (hx : x = u.1 c i) : iv (uk_up v c' i x) := by
  have := hu c i
  rw [sg_eq hc hi] at this
  rw [← hx] at this
  exact iv_up h (lo := (uk_rg 61 i).1) (hi := (uk_rg 61 i).2) (sg_eq hc' hi) this.1 this.2
/-- made stuffs have parts below them -/
def rk (n : Int32) (K A B : Nat → Int32) (o : Int32) : Prop := ∀ m : Int32, 0 ≤ m → m < n → m ≤ 7 → K (o + m).toNatClampNeg = 4 ∨ (0 ≤ A m.toNatClampNeg ∧ A m.toNatClampNeg < m ∧ 0 ≤ B m.toNatClampNeg ∧ B m.toNatClampNeg < m)
def ri (u : uk_Mem) : Prop := rk (u.1 60 3) (u.1 61) (u.1 64) (u.1 65) 32 ∧ (u.1 63 0 = 0 ∨ rk (u.1 60 3) (u.1 61) (u.1 64) (u.1 65) 83) ∧ (u.1 63 1 = 0 ∨ rk (u.1 60 3) (u.1 61) (u.1 64) (u.1 65) 134)
/-- the row 'at' has the same kinds -/
def ra (u : uk_Mem) : Prop := rk (u.1 60 3) (u.1 62) (u.1 64) (u.1 65) 32
theorem ri_kp {u u' : uk_Mem} (h : ri u) (h0 : u'.1 60 3 = u.1 60 3) (h1 : u'.1 61 = u.1 61) (h3 : u'.1 63 = u.1 63) (h4 : u'.1 64 = u.1 64) (h5 : u'.1 65 = u.1 65) : ri u' := by
  unfold ri
  rw [h0, h1, h3, h4, h5]
  exact h
theorem ra_kp {u u' : uk_Mem} (h : ra u) (h0 : u'.1 60 3 = u.1 60 3) (h1 : u'.1 62 = u.1 62) (h4 : u'.1 64 = u.1 64) (h5 : u'.1 65 = u.1 65) : ra u' := by
  unfold ra
  rw [h0, h1, h4, h5]
  exact h
theorem rk_eq {n o o' : Int32} {K K' A B : Nat → Int32} (h : rk n K A B o) (he : ∀ m : Int32, 0 ≤ m → m ≤ 7 → K' (o' + m).toNatClampNeg = K (o + m).toNatClampNeg) : rk n K' A B o' := fun m h0 h1 h2 => by
  rw [he m h0 h2]
  exact h m h0 h1 h2
/-- which cells may change, and which slots of the reference's own cell may not -/
def fk (l ks : List Nat) (u u' : uk_Mem) : Prop := frl l u u' ∧ ∀ k ∈ ks, u'.1 60 k = u.1 60 k
theorem fk_rf {l ks : List Nat} {u : uk_Mem} : fk l ks u u := ⟨frl_rf, fun _ _ => rfl⟩
theorem fk_up {l ks : List Nat} {c i : Nat} {x : Int32} {u u' : uk_Mem} (h : fk l ks u u') (hc : c ∈ l) (hi : c = 60 → i ∉ ks) : fk l ks u (uk_up u' c i x) := ⟨frl_up h.1 hc, fun k hk => by
  have hq : ¬ (60 = c ∧ k = i) := fun q => hi q.1.symm (q.2 ▸ hk)
  rw [uk_up_at, if_neg hq]
  exact h.2 k hk⟩
theorem fk_upL {l ks : List Nat} {c i : Nat} {x : Int64} {u u' : uk_Mem} (h : fk l ks u u') (hc : c ∈ l) : fk l ks u (uk_upL u' c i x) := ⟨frl_upL h.1 hc, h.2⟩
theorem fk_tr {l ks l' ks' : List Nat} {u u' u'' : uk_Mem} (h : fk l ks u u') (h' : fk l' ks' u' u'') (hs : ∀ c ∈ l', c ∈ l) (hk : 60 ∉ l' ∨ ∀ k ∈ ks, k ∈ ks') : fk l ks u u'' := ⟨frl_tr h.1 h'.1 hs, fun k q => by
  rw [← h.2 k q]
  rcases hk with hk | hk
  · rw [(h'.1 60 hk).1]
  · exact h'.2 k (hk k q)⟩
theorem fk_at {l ks : List Nat} {c i : Nat} {u u' : uk_Mem} (h : fk l ks u u') (hc : c ∉ l ∨ (c = 60 ∧ i ∈ ks)) : u'.1 c i = u.1 c i := by
  rcases hc with hc | ⟨rfl, hc⟩
  · exact frl_at h.1 hc
  · exact h.2 i hc
theorem fk_c {l ks : List Nat} {c : Nat} {u u' : uk_Mem} (h : fk l ks u u') (hc : c ∉ l) : u'.1 c = u.1 c := (h.1 c hc).1
theorem ri_fk {l ks : List Nat} {u u' : uk_Mem} (h : ri u) (f : fk l ks u u') (h0 : 60 ∉ l ∨ (60 = 60 ∧ 3 ∈ ks)) (h1 : 61 ∉ l) (h3 : 63 ∉ l) (h4 : 64 ∉ l) (h5 : 65 ∉ l) : ri u' := ri_kp h (fk_at f h0) (fk_c f h1) (fk_c f h3) (fk_c f h4) (fk_c f h5)
theorem ra_fk {l ks : List Nat} {u u' : uk_Mem} (h : ra u) (f : fk l ks u u') (h0 : 60 ∉ l ∨ (60 = 60 ∧ 3 ∈ ks)) (h1 : 62 ∉ l) (h4 : 64 ∉ l) (h5 : 65 ∉ l) : ra u' := ra_kp h (fk_at f h0) (fk_c f h1) (fk_c f h4) (fk_c f h5)
theorem ri_1 {c i : Nat} {x : Int32} {u : uk_Mem} (h : ri u) (hc : c ≠ 61 ∧ c ≠ 63 ∧ c ≠ 64 ∧ c ≠ 65) (h3 : c = 60 → i ≠ 3) : ri (uk_up u c i x) := by
  refine ri_kp h ?_ ?_ ?_ ?_ ?_
  · rw [uk_up_at, if_neg (fun q => h3 q.1.symm q.2.symm)]
  · simp [uk_up, hc.1.symm]
  · simp [uk_up, hc.2.1.symm]
  · simp [uk_up, hc.2.2.1.symm]
  · simp [uk_up, hc.2.2.2.symm]
theorem ra_1 {c i : Nat} {x : Int32} {u : uk_Mem} (h : ra u) (hc : c ≠ 62 ∧ c ≠ 64 ∧ c ≠ 65) (h3 : c = 60 → i ≠ 3) : ra (uk_up u c i x) := by
  refine ra_kp h ?_ ?_ ?_ ?_
  · rw [uk_up_at, if_neg (fun q => h3 q.1.symm q.2.symm)]
  · simp [uk_up, hc.1.symm]
  · simp [uk_up, hc.2.1.symm]
  · simp [uk_up, hc.2.2.symm]
/-- a number of st, not a kind: the kinds stay -/
theorem rk_up {n o : Int32} {K A B : Nat → Int32} {i x : Int32} (h : rk n K A B o) (hi : 0 ≤ i) (ho : 0 ≤ o ∧ o ≤ 200) (hn : ∀ m : Int32, 0 ≤ m → m ≤ 7 → ¬ o + m = i) : rk n (upd K i.toNatClampNeg x) A B o := fun m h0 h1 h2 => by
  have : ¬ (o + m).toNatClampNeg = i.toNatClampNeg := fun q => hn m h0 h2 (uk_cinj (by grind) hi q)
  unfold upd
  rw [if_neg this]
  exact h m h0 h1 h2
theorem ri_st {u : uk_Mem} (h : ri u) {i x : Int32} (h0 : 0 ≤ i) (h1 : i ≤ 31 ∨ (40 ≤ i ∧ i ≤ 50)) : ri (uk_up u 61 i.toNatClampNeg x) := by
  have e : ∀ c, ¬ c = 61 → (uk_up u 61 i.toNatClampNeg x).1 c = u.1 c := fun c hc => by simp [uk_up, hc]
  have e1 : (uk_up u 61 i.toNatClampNeg x).1 61 = upd (u.1 61) i.toNatClampNeg x := uk_up_self 61 _ x
  unfold ri
  rw [e 60 (by decide), e 63 (by decide), e 64 (by decide), e 65 (by decide), e1]
  exact ⟨rk_up h.1 h0 (by decide) (by grind), h.2.1.imp_right fun q => rk_up q h0 (by decide) (by grind), h.2.2.imp_right fun q => rk_up q h0 (by decide) (by grind)⟩
theorem ra_at {u : uk_Mem} (h : ra u) {i x : Int32} (h0 : 0 ≤ i) (h1 : i ≤ 31 ∨ (40 ≤ i ∧ i ≤ 50)) : ra (uk_up u 62 i.toNatClampNeg x) := by
  have e : ∀ c, ¬ c = 62 → (uk_up u 62 i.toNatClampNeg x).1 c = u.1 c := fun c hc => by simp [uk_up, hc]
  have e1 : (uk_up u 62 i.toNatClampNeg x).1 62 = upd (u.1 62) i.toNatClampNeg x := uk_up_self 62 _ x
  unfold ra
  rw [e 60 (by decide), e 64 (by decide), e 65 (by decide), e1]
  exact rk_up h h0 (by decide) (by grind)
/-- a made stuff changes its kind -/
theorem ri_kind {u : uk_Mem} (h : ri u) {m i x : Int32} (h0 : 0 ≤ m) (h1 : m ≤ 7) (h2 : m < u.1 60 3) (hi : i = 32 + m) (hk : ¬ u.1 61 (32 + m).toNatClampNeg = 4) : ri (uk_up u 61 i.toNatClampNeg x) := by
  have e : ∀ c, ¬ c = 61 → (uk_up u 61 i.toNatClampNeg x).1 c = u.1 c := fun c hc => by simp [uk_up, hc]
  have e1 : (uk_up u 61 i.toNatClampNeg x).1 61 = upd (u.1 61) i.toNatClampNeg x := uk_up_self 61 _ x
  unfold ri
  rw [e 60 (by decide), e 63 (by decide), e 64 (by decide), e 65 (by decide), e1]
  refine ⟨fun m' g0 g1 g2 => ?_, h.2.1.imp_right fun q => rk_up q (by grind) (by decide) (by grind), h.2.2.imp_right fun q => rk_up q (by grind) (by decide) (by grind)⟩
  by_cases q : m' = m
  · subst q
    exact Or.inr ((h.1 m' g0 g1 g2).resolve_left hk)
  · have : ¬ (32 + m').toNatClampNeg = i.toNatClampNeg := fun z => q (by have := uk_cinj (by grind) (by grind) z; grind)
    unfold upd
    rw [if_neg this]
    exact h.1 m' g0 g1 g2
theorem uk_up_oc {u : uk_Mem} {b c i : Nat} {x : Int32} (h : b ≠ c) : (uk_up u c i x).1 b = u.1 b := by simp [uk_up, h]
theorem uk_ups {P : Int32 → Prop} (B : Int32) (h : ∀ i, 0 ≤ i → i ≤ B → (∀ j, i < j → j ≤ B → P j) → P i) : ∀ i, 0 ≤ i → i ≤ B → P i := by
  have key : ∀ (n : Nat) (i : Int32), 0 ≤ i → i ≤ B → (B.toInt - i.toInt).toNat ≤ n → P i := by
    intro n
    induction n with
    | zero =>
      intro i h0 h1 h2
      refine h i h0 h1 (fun j q q2 => ?_)
      have a := Int32.lt_iff_toInt_lt.mp q
      have b := Int32.le_iff_toInt_le.mp q2
      omega
    | succ n ih =>
      intro i h0 h1 h2
      refine h i h0 h1 (fun j q q2 => ih j (by grind) q2 ?_)
      have a := Int32.lt_iff_toInt_lt.mp q
      have b := Int32.le_iff_toInt_le.mp q2
      omega
  exact fun i h0 h1 => key _ i h0 h1 (Nat.le_refl _)
theorem uk_q {a b : Int32} : a.toInt64 < b.toInt64 ↔ a < b := by
  rw [Int64.lt_iff_toInt_lt, Int32.lt_iff_toInt_lt, Int32.toInt_toInt64, Int32.toInt_toInt64]
abbrev q_X7_in (u : uk_Mem) (v lo hi : Int32) (r : Option Value) (u' : uk_Mem) : Prop := (∃ x : Int32, r = some (.int x) ∧ (x = 0 ∨ x = 1) ∧ (¬ x = 0 → lo ≤ v ∧ v ≤ hi) ∧ (x = 0 → v < lo ∨ hi < v)) ∧ (u' = u)
theorem c_X7_in {G : uk_D} (hs : uk_Sep G) {u : uk_Mem} (hu : iv u) (v lo hi : Int32) (d : Nat) : uk_Meth G d mX7_in [.long (Int32.toInt64 v), .long (Int32.toInt64 lo), .long (Int32.toInt64 hi)] u (q_X7_in u v lo hi) := by
  refine uk_Meth.of hs (by decide) (Nat.le_of_ble_eq_true rfl) (fun X => ?_)
  refine g_lload_n dX7_in_0 rfl ?_
  refine g_lload_n dX7_in_1 rfl ?_
  refine g_lcmp dX7_in_2 ?_
  refine g_if_lt (tgt := 17) dX7_in_3 (by decide) (fun c => ?_) (fun c => ?_)
  · refine g_iconst (v := 0) dX7_in_17 (by decide) ?_
    rw [lg_cmp_lt, uk_q] at c
    exact g_iret (ty := .boolean) dX7_in_18 rfl rfl ⟨⟨0, rfl, Or.inl rfl, fun q => absurd rfl q, fun _ => Or.inl c⟩, rfl⟩
  · refine g_lload_n dX7_in_6 rfl ?_
    refine g_lload dX7_in_7 rfl ?_
    refine g_lcmp dX7_in_9 ?_
    rw [lg_cmp_lt, uk_q] at c
    refine g_if_gt (tgt := 17) dX7_in_10 (by decide) (fun c2 => ?_) (fun c2 => ?_)
    · refine g_iconst (v := 0) dX7_in_17 (by decide) ?_
      rw [lg_cmp_gt, uk_q] at c2
      exact g_iret (ty := .boolean) dX7_in_18 rfl rfl ⟨⟨0, rfl, Or.inl rfl, fun q => absurd rfl q, fun _ => Or.inr c2⟩, rfl⟩
    · rw [lg_cmp_gt, uk_q] at c2
      refine g_iconst (v := 1) dX7_in_13 (by decide) ?_
      refine g_goto (tgt := 18) dX7_in_14 (by decide) ?_
      exact g_iret (ty := .boolean) dX7_in_18 rfl rfl ⟨⟨1, rfl, Or.inr rfl, fun _ => by grind, fun q => absurd q (by decide)⟩, rfl⟩
def rd (u : uk_Mem) : Prop := rk (u.1 60 7) (u.1 66) (u.1 67) (u.1 68) 32
def rf (u : uk_Mem) : Prop := u.1 60 18 = 0 → rd u
theorem rd_fk {l ks : List Nat} {u u' : uk_Mem} (h : rd u) (f : fk l ks u u') (h7 : 60 ∉ l ∨ (60 = 60 ∧ 7 ∈ ks)) (h1 : 66 ∉ l) (h2 : 67 ∉ l) (h3 : 68 ∉ l) : rd u' := by
  unfold rd
  rw [fk_at f h7, fk_c f h1, fk_c f h2, fk_c f h3]
  exact h
theorem rf_mono {l ks : List Nat} {u u' : uk_Mem} (h : rf u) (f : fk l ks u u') (hm : u'.1 60 18 = 0 → u.1 60 18 = 0) (h7 : 60 ∉ l ∨ (60 = 60 ∧ 7 ∈ ks)) (h1 : 66 ∉ l) (h2 : 67 ∉ l) (h3 : 68 ∉ l) : rf u' := fun q => rd_fk (h (hm q)) f h7 h1 h2 h3
theorem rd_0 {u : uk_Mem} (h : u.1 60 7 = 0) : rd u := fun m h0 h1 _ => by
  rw [h] at h1
  exact absurd h0 (by grind)
theorem upd_ne {K : Nat → Int32} {i j x : Int32} (hi : 0 ≤ i) (hj : 0 ≤ j) (h : ¬ i = j) : upd K j.toNatClampNeg x i.toNatClampNeg = K i.toNatClampNeg := by
  unfold upd
  rw [if_neg (fun q => h (uk_cinj hi hj q))]
theorem upd_at {K : Nat → Int32} {i j x : Int32} (h : i = j) : upd K j.toNatClampNeg x i.toNatClampNeg = x := by
  unfold upd
  rw [h, if_pos rfl]
theorem rd_st {n : Int32} {K K' A A' B B' : Nat → Int32} {kind a b : Int32} (h0 : 0 ≤ n) (h7 : n ≤ 7) (h : rk n K A B 32) (hK : ∀ i : Int32, 32 ≤ i → i ≤ 39 → ¬ i = 32 + n → K' i.toNatClampNeg = K i.toNatClampNeg) (hn : K' (32 + n).toNatClampNeg = kind) (hA : A' = upd A n.toNatClampNeg a) (hB : B' = upd B n.toNatClampNeg b) (hk : kind = 4 ∨ (0 ≤ a ∧ a < n ∧ 0 ≤ b ∧ b < n)) : rk (n + 1) K' A' B' 32 := by
  intro m m0 m1 m2
  by_cases q : m = n
  · subst q
    rw [hn, hA, hB, upd_at rfl, upd_at rfl]
    exact hk
  · rw [hK (32 + m) (by grind) (by grind) (by grind), hA, hB, upd_ne m0 h0 q, upd_ne m0 h0 q]
    exact h m m0 (by grind) m2
/-- the first k places are alike -/
def cpy (A B : Nat → Int32) (k : Int32) : Prop := ∀ i : Int32, 0 ≤ i → i < k → A i.toNatClampNeg = B i.toNatClampNeg
theorem cpy_0 {A B : Nat → Int32} : cpy A B 0 := fun i h0 h1 => absurd h0 (by grind)
theorem cpy_up {A B : Nat → Int32} {k x : Int32} (h : cpy A B k) (h0 : 0 ≤ k) (hx : x = B k.toNatClampNeg) : cpy (upd A k.toNatClampNeg x) B (k + 1) := fun i i0 i1 => by
  by_cases q : i = k
  · rw [upd_at q, hx, q]
  · rw [upd_ne i0 h0 q]
    exact h i i0 (by grind)
theorem cpy_rk {n o : Int32} {K K' A B : Nat → Int32} (h : rk n K A B 32) (hc : cpy K' K 51) : rk n K' A B 32 := rk_eq h (fun m m0 m7 => hc (32 + m) (by grind) (by grind))
theorem ri_draft {u u' : uk_Mem} (h : rd u) (h3 : u'.1 60 3 = u.1 60 7) (h8 : u.1 60 7 ≤ 8) (h1 : cpy (u'.1 61) (u.1 66) 51) (h4 : cpy (u'.1 64) (u.1 67) (u.1 60 7)) (h5 : cpy (u'.1 65) (u.1 68) (u.1 60 7)) (k0 : u'.1 63 0 = 0) (k1 : u'.1 63 1 = 0) : ri u' := by
  refine ⟨?_, Or.inl k0, Or.inl k1⟩
  intro m m0 m1 m7
  rw [h3] at m1
  rw [h1 (32 + m) (by grind) (by grind), h4 m m0 m1, h5 m m0 m1]
  exact h m m0 m1 m7
theorem cpy_le {A B : Nat → Int32} {k n : Int32} (h : cpy A B k) (hn : n ≤ k) : cpy A B n := fun i i0 i1 => h i i0 (by grind)
theorem rf_1 {u : uk_Mem} {i : Nat} {x : Int32} (h : rf u) (hi : i ≠ 7 ∧ i ≠ 18) : rf (uk_up u 60 i x) := by
  intro q
  rw [uk_up_at, if_neg (fun z => hi.2 z.2.symm)] at q
  unfold rd
  rw [uk_up_at, if_neg (fun z => hi.1 z.2.symm), uk_up_oc (by decide), uk_up_oc (by decide), uk_up_oc (by decide)]
  exact h q
def tx_ms (u : uk_Mem) : Int32 := if u.1 60 18 = 0 then u.1 60 15 else 161
theorem tx_b {u : uk_Mem} (h : iv u) : 0 ≤ tx_ms u ∧ tx_ms u ≤ 161 := by
  have := iv_at h 60 15 (lo := 0) (hi := 160) rfl
  unfold tx_ms
  split <;> grind
theorem tx_lt {u v : uk_Mem} {i : Int32} (hi : tx_ms u = i) (hu : iv u) (h0 : u.1 60 18 = 0) (h : v.1 60 18 = 0 → u.1 60 15 + 3 ≤ v.1 60 15) : i < tx_ms v := by
  have := iv_at hu 60 15 (lo := 0) (hi := 160) rfl
  unfold tx_ms at *
  rw [if_pos h0] at hi
  split <;> grind
/-- the places from 51 on are alike -/
def cpx (A B : Nat → Int32) : Prop := ∀ i : Int32, 51 ≤ i → A i.toNatClampNeg = B i.toNatClampNeg
theorem cpx_rf {A : Nat → Int32} : cpx A A := fun _ _ => rfl
theorem cpx_up {A B : Nat → Int32} {k x : Int32} (h : cpx A B) (h0 : 0 ≤ k) (h1 : k < 51) : cpx (upd A k.toNatClampNeg x) B := fun i i0 => by
  rw [upd_ne (by grind) h0 (by grind)]
  exact h i i0
theorem ra_of {u u' : uk_Mem} (h : ri u) (f0 : u'.1 60 3 = u.1 60 3) (f4 : u'.1 64 = u.1 64) (f5 : u'.1 65 = u.1 65) (hc : cpy (u'.1 62) (u.1 61) 51) : ra u' := by
  unfold ra
  rw [f0, f4, f5]
  exact cpy_rk (o := 0) h.1 hc
theorem ri_of {u u' : uk_Mem} (h : ri u) (ha : ra u) (f0 : u'.1 60 3 = u.1 60 3) (f3 : u'.1 63 = u.1 63) (f4 : u'.1 64 = u.1 64) (f5 : u'.1 65 = u.1 65) (hc : cpy (u'.1 61) (u.1 62) 51) (hx : cpx (u'.1 61) (u.1 61)) : ri u' := by
  unfold ri
  rw [f0, f3, f4, f5]
  exact ⟨cpy_rk (o := 0) ha hc, h.2.1.imp_right fun q => rk_eq q (fun m m0 m7 => hx (83 + m) (by grind)), h.2.2.imp_right fun q => rk_eq q (fun m m0 m7 => hx (134 + m) (by grind))⟩
abbrev q_X7_flag (u : uk_Mem) (b : Int32) (r : Option Value) (u' : uk_Mem) : Prop := (∃ x : Int32, r = some (.int x) ∧ (x = 0 ∨ x = 1)) ∧ (u' = u)
set_option maxHeartbeats 4000000 in
set_option maxRecDepth 20000 in
theorem c_X7_flag {G : uk_D} (hs : uk_Sep G) {u : uk_Mem} (hu : iv u) (b : Int32) (d : Nat) : uk_Meth G d mX7_flag [.int b] u (q_X7_flag u b) := by
  refine uk_Meth.of hs (by decide) (Nat.le_of_ble_eq_true rfl) (fun X => ?_)
  refine g_iload_n dX7_flag_0 rfl ?_
  refine g_if_eq (tgt := 8) dX7_flag_1 (by decide) (fun c1 => ?_) (fun c1 => ?_)
  · refine g_iconst (v := 0) dX7_flag_8 (by decide) ?_
    exact g_iret (ty := .int) dX7_flag_9 rfl rfl ⟨⟨_, rfl, by first | trivial | lia | grind⟩, rfl⟩
  · refine g_iconst (v := 1) dX7_flag_4 (by decide) ?_
    refine g_goto (tgt := 9) dX7_flag_5 (by decide) ?_
    exact g_iret (ty := .int) dX7_flag_9 rfl rfl ⟨⟨_, rfl, by first | trivial | lia | grind⟩, rfl⟩
abbrev q_X7_end (u : uk_Mem) (n : Int32) (r : Option Value) (u' : uk_Mem) : Prop := (∃ x : Int32, r = some (.int x) ∧ (((n < 0 ∨ u.1 60 13 < n) ∧ x = -1 ∧ u'.1 60 13 = u.1 60 13) ∨ (0 ≤ n ∧ n ≤ u.1 60 13 ∧ x = u.1 60 13 ∧ u'.1 60 13 = n))) ∧ (iv u' ∧ fk [60] [3, 7, 10, 11, 14, 15, 16, 17, 18, 19, 22, 28] u u')
set_option maxHeartbeats 4000000 in
set_option maxRecDepth 20000 in
theorem c_X7_end {G : uk_D} (hs : uk_Sep G) {u : uk_Mem} (hu : iv u) (n : Int32) (d : Nat) : uk_Meth G (d + 1) mX7_end [.ref (uk_ad G 60), .int n] u (q_X7_end u n) := by
  refine uk_Meth.of hs (by decide) (Nat.le_of_ble_eq_true rfl) (fun X => ?_)
  have f0 : fk [60] [3, 7, 10, 11, 14, 15, 16, 17, 18, 19, 22, 28] u u := fk_rf
  refine g_iload_n dX7_end_0 rfl ?_
  refine g_i2l dX7_end_1 ?_
  refine g_lconst (v := 0) dX7_end_2 (by decide) ?_
  refine g_aload_n dX7_end_3 rfl ?_
  refine f_X7_88 rfl rfl dX7_end_4 ?_
  refine g_topi (fun x1 ex1 => ?_)
  have rx1 : 0 ≤ x1 ∧ x1 ≤ 160 := by rw [ex1]; exact iv_at hu _ _ rfl
  have s2 : u.1 60 13 = x1 := ex1.symm
  refine g_i2l dX7_end_7 ?_
  refine cl_X7_84 (As := [.long n.toInt64, .long 0, .long x1.toInt64]) rfl (c_X7_in (G := G) hs hu  n 0 x1  (d)) rfl (by omega) rfl (Nat.le_of_ble_eq_true rfl) dX7_end_8 (fun r3 u4 q5 => ?_)
  obtain ⟨⟨x6, rfl, tx6, nx6, zx6⟩, mq5⟩ := q5
  rw [mq5]
  refine g_if_ne (tgt := 16) dX7_end_11 (by decide) (fun c7 => ?_) (fun c7 => ?_)
  · have zc7 := nx6 c7
    refine g_aload_n dX7_end_16 rfl ?_
    refine f_X7_88 rfl rfl dX7_end_17 ?_
    refine g_topi (fun x8 ex8 => ?_)
    have rx8 : 0 ≤ x8 ∧ x8 ≤ 160 := by rw [ex8]; exact iv_at hu _ _ rfl
    have qx8 : x8 = x1 := by rw [ex8]; exact s2
    refine g_istore_n dX7_end_20 (by decide) ?_
    refine g_pick (lv' := [(0, .ref (uk_ad G 60)), (1, .int n), (2, .int x8)]) [0, 1, 2] rfl ?_
    refine g_aload_n dX7_end_21 rfl ?_
    refine g_iload_n dX7_end_22 rfl ?_
    refine p_X7_88 rfl rfl dX7_end_23 ?_
    refine g_mem (fun u9 eu9 => ?_)
    have hu9 : iv u9 := by rw [eu9]; exact iv_up hu rfl (by first | lia | grind) (by first | lia | grind)
    have fu9 : fk [60] [3, 7, 10, 11, 14, 15, 16, 17, 18, 19, 22, 28] u u9 := by rw [eu9]; exact fk_up f0 (by decide) (fun _ => by decide)
    have s10 : u9.1 60 13 = n := by rw [eu9, uk_up_at]; exact if_pos ⟨rfl, rfl⟩
    refine g_iload_n dX7_end_26 rfl ?_
    exact g_iret (ty := .int) dX7_end_27 rfl rfl ⟨⟨_, rfl, by first | trivial | lia | grind⟩, hu9, fu9⟩
  · have zc7 := zx6 c7
    refine g_iconst (v := (-1)) dX7_end_14 (by decide) ?_
    exact g_iret (ty := .int) dX7_end_15 rfl rfl ⟨⟨_, rfl, by first | trivial | lia | grind⟩, hu, f0⟩
abbrev q_X7_torn (u : uk_Mem)  (r : Option Value) (u' : uk_Mem) : Prop := (∃ x : Int32, r = some (.int x) ∧ True) ∧ (u' = u)
abbrev q_X7_starts (u : uk_Mem)  (r : Option Value) (u' : uk_Mem) : Prop := (r = none) ∧ (iv u' ∧ fk [62] [] u u' ∧ ra u' ∧ cpy (u'.1 62) (u.1 61) 51)
set_option maxHeartbeats 4000000 in
set_option maxRecDepth 20000 in
theorem c_X7_starts {G : uk_D} (hs : uk_Sep G) {u : uk_Mem} (hu : iv u) (hri : ri u)  (d : Nat) : uk_Meth G d mX7_starts [.ref (uk_ad G 60)] u (q_X7_starts u) := by
  refine uk_Meth.of hs (by decide) (Nat.le_of_ble_eq_true rfl) (fun X => ?_)
  have f0 : fk [62] [] u u := fk_rf
  refine g_iconst (v := 0) dX7_starts_0 (by decide) ?_
  refine g_istore_n dX7_starts_1 (by decide) ?_
  refine g_pick (lv' := [(0, .ref (uk_ad G 60)), (1, .int 0)]) [0, 1] rfl ?_
  have L2_0 : ∀ i2 : Int32, 0 ≤ i2 → i2 ≤ 51 → ∀ (u3 : uk_Mem), iv u3 → fk [62] [] u u3 → cpy (u3.1 62) (u.1 61) i2 → uk_G G X mX7_starts d (q_X7_starts u) 2 [(0, .ref (uk_ad G 60)), (1, .int i2)] [] u3 := by
    refine uk_upl 51 ?_
    intro i2 ai2 bi2 ihi2  u3 hu3 fu3 ji20
    have wu3_60_3 : u3.1 60 3 = u.1 60 3 := fk_at fu3 (by decide)
    refine g_iload_n dX7_starts_2 rfl ?_
    refine g_bipush (v := 51) dX7_starts_3 (by decide) ?_
    refine g_icmp_ge (tgt := 26) dX7_starts_5 (by decide) (fun c4 => ?_) (fun c4 => ?_)
    · exact g_vret dX7_starts_26 rfl ⟨rfl, hu3, fu3, (ra_of hri (fk_at fu3 (by decide)) (fk_c fu3 (by decide)) (fk_c fu3 (by decide)) (cpy_le ji20 (by lia))), (cpy_le ji20 (by lia))⟩
    · refine g_aload_n dX7_starts_8 rfl ?_
      refine f_X7_13 rfl rfl dX7_starts_9 ?_
      refine g_iload_n dX7_starts_12 rfl ?_
      refine g_aload_n dX7_starts_13 rfl ?_
      refine f_X7_7 rfl rfl dX7_starts_14 ?_
      refine g_iload_n dX7_starts_17 rfl ?_
      have v5 : vp_in i2 153 := uk_vin 153 rfl (by first | decide | lia | grind) (by first | decide | lia | grind)
      refine g_iald rfl rfl v5 dX7_starts_18 ?_
      refine g_topi (fun x6 ex6 => ?_)
      have bx6 := uk_cl v5
      have v7 : vp_in i2 51 := uk_vin 51 rfl (by first | decide | lia | grind) (by first | decide | lia | grind)
      have b8 := uk_cl v7
      refine g_iast rfl rfl v7 dX7_starts_19 ?_
      refine g_mem (fun u9 eu9 => ?_)
      have hu9 : iv u9 := by rw [eu9]; exact iv_cp hu3 hu3 (by unfold uk_is51; decide) (by unfold uk_is51; decide) (by omega) ex6
      have fu9 : fk [62] [] u u9 := by rw [eu9]; exact fk_up fu3 (by decide) (fun q => absurd q (by decide))
      refine g_iinc (v := i2 + 1) dX7_starts_20 rfl rfl (by decide) ?_
      refine g_pick (lv' := [(0, .ref (uk_ad G 60)), (1, .int (i2 + 1))]) [0, 1] rfl ?_
      refine g_goto (tgt := 2) dX7_starts_23 (by decide) ?_
      refine g_pick (lv' := [(0, .ref (uk_ad G 60)), (1, .int (i2 + 1))]) [0, 1] rfl ?_
      exact ihi2 (by first | lia | grind)  u9 hu9 fu9 (by rw [eu9, uk_up_self]; exact cpy_up ji20 (by lia) (ex6.trans (congrFun (fk_c fu3 (by decide)) _)))
  refine g_pick (lv' := [(0, .ref (uk_ad G 60)), (1, .int 0)]) [0, 1] rfl ?_
  exact L2_0 0 (by first | decide | lia | grind) (by first | decide | lia | grind)  u hu f0 cpy_0
abbrev q_X7_ends (u : uk_Mem)  (r : Option Value) (u' : uk_Mem) : Prop := (r = none) ∧ (iv u' ∧ fk [61] [] u u' ∧ ri u')
theorem uk_a15 {x z : Int32} (h : z = x &&& 32767) : 0 ≤ z ∧ z ≤ 32767 := by
  obtain ⟨j, hj, e⟩ := pk_andE x (m := 32767) 15 rfl
  rw [h, e]
  exact ⟨nI_pos' (by omega), nI_le (a := j) (b := 32767) (by omega) (by omega)⟩
theorem uk_mod {x y z : Int32} (h : z = x - x / y * y) (hx : 0 ≤ x) (hy : 0 < y) : 0 ≤ z ∧ z < y := by
  obtain ⟨a, ha, rfl⟩ := nI_of (x := x) (by grind)
  obtain ⟨b, hb, rfl⟩ := nI_of (x := y) (by grind)
  have b0 : 0 < b := by
    rcases Nat.eq_zero_or_pos b with q | q
    · subst q
      exact absurd hy (by decide)
    · exact q
  rw [h, pk_rem ha b0 hb]
  have := Nat.mod_lt a b0
  exact ⟨nI_pos' (by omega), nI_lt this hb⟩
theorem uk_r10 {g z : Int32} (h : z = g - g / 10 * 10) : (0 ≤ g → g ≤ 9 → z = g) ∧ (10 ≤ g → g ≤ 17 → z = g - 10) := by
  have t : (10 : Int32) = nI 10 := rfl
  constructor
  · intro h0 h1
    obtain ⟨j, hj, e⟩ := nI_of2 (x := g) (M := 9) (n := 9) rfl (by grind) h1
    rw [h, t, e, pk_rem (by omega) (by omega) (by omega), Nat.mod_eq_of_lt (by omega)]
  · intro h0 h1
    obtain ⟨j, hj, e⟩ := nI_of2 (x := g) (M := 17) (n := 17) rfl (by grind) h1
    have hj2 : 10 ≤ j := by
      rw [t, e] at h0
      exact (nI_leI (a := 10) (b := j) (by omega) (by omega)).mp h0
    rw [h, t, e, pk_rem (by omega) (by omega) (by omega), pk_sub hj2]
    congr 1
    omega
theorem dl_1 {x y c : Int32} (e : x = y - (-1)) (hy : y = c) (h0 : 0 ≤ c) (h1 : c < 40) : 0 ≤ x ∧ x ≤ 40 := by
  subst e
  subst hy
  constructor <;> lia
theorem dl_2 {x y c : Int32} (e : x = y - 1) (hy : y = c) (h0 : 1 ≤ c) (h1 : c ≤ 40) : 0 ≤ x ∧ x ≤ 40 := by
  subst e
  subst hy
  constructor <;> lia
theorem dl_3 {x y c : Int32} (e : x = y + (-1)) (hy : y = c) (h0 : 1 ≤ c) (h1 : c ≤ 40) : 0 ≤ x ∧ x ≤ 40 := by
  subst e
  subst hy
  constructor <;> lia
theorem dl_4 {x y c : Int32} (e : x = y + 1) (hy : y = c) (h0 : 0 ≤ c) (h1 : c < 40) : 0 ≤ x ∧ x ≤ 40 := by
  subst e
  subst hy
  constructor <;> lia
theorem dl_5 {x y w v a b ca cb : Int32} (e : x = y + (-1)) (hy : (b = a → y = w) ∧ (¬ b = a → y = cb)) (ew : w = v + (-1)) (hv : v = ca) (p : a = b → 2 ≤ ca) (q : ¬ a = b → 1 ≤ ca ∧ 1 ≤ cb) (r : ca ≤ 40) (r2 : cb ≤ 40) : 0 ≤ x ∧ x ≤ 40 := by
  by_cases z : a = b
  · have h1 := hy.1 z.symm
    have h2 := p z
    subst e h1 ew hv
    constructor <;> lia
  · have h1 := hy.2 (fun k => z k.symm)
    have h2 := (q z).2
    subst e h1
    constructor <;> lia
theorem dl_6 {x y w v a b ca cb : Int32} (e : x = y + 1) (hy : (b = a → y = w) ∧ (¬ b = a → y = cb)) (ew : w = v + 1) (hv : v = ca) (p : a = b → ca + 2 ≤ 40) (q : ¬ a = b → cb < 40) (r : 0 ≤ ca ∧ ca < 40) (r2 : 0 ≤ cb) : 0 ≤ x ∧ x ≤ 40 := by
  by_cases z : a = b
  · have h1 := hy.1 z.symm
    have h2 := p z
    obtain ⟨r0, r1⟩ := r
    subst e h1 ew hv
    constructor <;> lia
  · have h1 := hy.2 (fun k => z k.symm)
    have h2 := q z
    subst e h1
    constructor <;> lia
theorem dl_7 {x y w v a b ca cb : Int32} (e : x = y + 0) (hy : (b = a → y = w) ∧ (¬ b = a → y = cb)) (ew : w = v + 1) (hv : v = ca) (r : 0 ≤ ca ∧ ca < 40) (r2 : 0 ≤ cb ∧ cb ≤ 40) : 0 ≤ x ∧ x ≤ 40 := by
  obtain ⟨r0, r1⟩ := r
  obtain ⟨s0, s1⟩ := r2
  by_cases z : a = b
  · have h1 := hy.1 z.symm
    subst e h1 ew hv
    constructor <;> lia
  · have h1 := hy.2 (fun k => z k.symm)
    subst e h1
    constructor <;> lia
abbrev q_X7_isStuff (u : uk_Mem) (m : Int32) (r : Option Value) (u' : uk_Mem) : Prop := (∃ x : Int32, r = some (.int x) ∧ (x = 0 ∨ x = 1) ∧ (¬ x = 0 → 0 ≤ m ∧ m < u.1 60 3 ∧ m ≤ 7) ∧ (x = 0 → True)) ∧ (u' = u)
set_option maxHeartbeats 4000000 in
set_option maxRecDepth 20000 in
theorem c_X7_isStuff {G : uk_D} (hs : uk_Sep G) {u : uk_Mem} (hu : iv u) (m : Int32) (d : Nat) : uk_Meth G (d + 1) mX7_isStuff [.ref (uk_ad G 60), .int m] u (q_X7_isStuff u m) := by
  refine uk_Meth.of hs (by decide) (Nat.le_of_ble_eq_true rfl) (fun X => ?_)
  refine g_iload_n dX7_isStuff_0 rfl ?_
  refine g_i2l dX7_isStuff_1 ?_
  refine g_lconst (v := 0) dX7_isStuff_2 (by decide) ?_
  refine g_aload_n dX7_isStuff_3 rfl ?_
  refine f_X7_79 rfl rfl dX7_isStuff_4 ?_
  refine g_topi (fun x1 ex1 => ?_)
  have rx1 : 0 ≤ x1 ∧ x1 ≤ 8 := by rw [ex1]; exact iv_at hu _ _ rfl
  have s2 : u.1 60 3 = x1 := ex1.symm
  refine g_iconst (v := 1) dX7_isStuff_7 (by decide) ?_
  refine g_isub dX7_isStuff_8 ?_
  refine g_topi (fun x3 ex3 => ?_)
  refine g_i2l dX7_isStuff_9 ?_
  refine cl_X7_84 (As := [.long m.toInt64, .long 0, .long x3.toInt64]) rfl (c_X7_in (G := G) hs hu  m 0 x3  (d)) rfl (by omega) rfl (Nat.le_of_ble_eq_true rfl) dX7_isStuff_10 (fun r4 u5 q6 => ?_)
  obtain ⟨⟨x7, rfl, tx7, nx7, zx7⟩, mq6⟩ := q6
  rw [mq6]
  exact g_iret (ty := .boolean) dX7_isStuff_13 rfl (uk_nb tx7) ⟨⟨_, rfl, tx7, fun q => by first | trivial | (have := nx7 q; first | exact this | grind), fun q => by first | trivial | (have := zx7 q; first | exact this | grind)⟩, rfl⟩
abbrev q_X7_isRaw (u : uk_Mem) (m : Int32) (r : Option Value) (u' : uk_Mem) : Prop := (∃ x : Int32, r = some (.int x) ∧ (x = 0 ∨ x = 1) ∧ (¬ x = 0 → u.1 61 (32 + m).toNatClampNeg = 4) ∧ (x = 0 → ¬ u.1 61 (32 + m).toNatClampNeg = 4)) ∧ (u' = u)
set_option maxHeartbeats 4000000 in
set_option maxRecDepth 20000 in
theorem c_X7_isRaw {G : uk_D} (hs : uk_Sep G) {u : uk_Mem} (hu : iv u) (m : Int32) (p0 : 0 ≤ m) (p1 : m ≤ 7) (d : Nat) : uk_Meth G d mX7_isRaw [.ref (uk_ad G 60), .int m] u (q_X7_isRaw u m) := by
  refine uk_Meth.of hs (by decide) (Nat.le_of_ble_eq_true rfl) (fun X => ?_)
  refine g_aload_n dX7_isRaw_0 rfl ?_
  refine f_X7_7 rfl rfl dX7_isRaw_1 ?_
  refine g_bipush (v := 32) dX7_isRaw_4 (by decide) ?_
  refine g_iload_n dX7_isRaw_6 rfl ?_
  refine g_iadd dX7_isRaw_7 ?_
  refine g_topi (fun x1 ex1 => ?_)
  have v2 : vp_in x1 153 := uk_vin 153 rfl (by first | decide | lia | grind) (by first | decide | lia | grind)
  refine g_iald rfl rfl v2 dX7_isRaw_8 ?_
  refine g_topi (fun x3 ex3 => ?_)
  have bx3 := uk_cl v2
  refine g_iconst (v := 4) dX7_isRaw_9 (by decide) ?_
  refine g_icmp_ne (tgt := 17) dX7_isRaw_10 (by decide) (fun c4 => ?_) (fun c4 => ?_)
  · refine g_iconst (v := 0) dX7_isRaw_17 (by decide) ?_
    exact g_iret (ty := .boolean) dX7_isRaw_18 rfl rfl ⟨⟨0, rfl, Or.inl rfl, fun q => absurd rfl q, fun _ => by first | trivial | lia | grind⟩, rfl⟩
  · refine g_iconst (v := 1) dX7_isRaw_13 (by decide) ?_
    refine g_goto (tgt := 18) dX7_isRaw_14 (by decide) ?_
    exact g_iret (ty := .boolean) dX7_isRaw_18 rfl rfl ⟨⟨1, rfl, Or.inr rfl, fun _ => by first | trivial | lia | grind, fun q => absurd q (by decide)⟩, rfl⟩
abbrev q_X7_isPart (u : uk_Mem) (w : Int32) (r : Option Value) (u' : uk_Mem) : Prop := (∃ x : Int32, r = some (.int x) ∧ (x = 0 ∨ x = 1) ∧ (¬ x = 0 → (w = 0 ∨ w = 1)) ∧ (x = 0 → True)) ∧ (u' = u)
set_option maxHeartbeats 4000000 in
set_option maxRecDepth 20000 in
theorem c_X7_isPart {G : uk_D} (hs : uk_Sep G) {u : uk_Mem} (hu : iv u) (w : Int32) (d : Nat) : uk_Meth G (d + 1) mX7_isPart [.int w] u (q_X7_isPart u w) := by
  refine uk_Meth.of hs (by decide) (Nat.le_of_ble_eq_true rfl) (fun X => ?_)
  refine g_iload_n dX7_isPart_0 rfl ?_
  refine g_i2l dX7_isPart_1 ?_
  refine g_lconst (v := 0) dX7_isPart_2 (by decide) ?_
  refine g_lconst (v := 1) dX7_isPart_3 (by decide) ?_
  refine cl_X7_84 (As := [.long w.toInt64, .long 0, .long 1]) rfl (c_X7_in (G := G) hs hu  w 0 1  (d)) rfl (by omega) rfl (Nat.le_of_ble_eq_true rfl) dX7_isPart_4 (fun r1 u2 q3 => ?_)
  obtain ⟨⟨x4, rfl, tx4, nx4, zx4⟩, mq3⟩ := q3
  rw [mq3]
  exact g_iret (ty := .boolean) dX7_isPart_7 rfl (uk_nb tx4) ⟨⟨_, rfl, tx4, fun q => by first | trivial | (have := nx4 q; first | exact this | grind), fun q => by first | trivial | (have := zx4 q; first | exact this | grind)⟩, rfl⟩
abbrev q_X7_givesSecond (u : uk_Mem) (m : Int32) (r : Option Value) (u' : uk_Mem) : Prop := (∃ x : Int32, r = some (.int x) ∧ (x = 0 ∨ x = 1) ∧ (¬ x = 0 → (u.1 62 (32 + m).toNatClampNeg = 0 ∨ (u.1 62 (32 + m).toNatClampNeg = 3 ∧ u.1 62 (8 + m).toNatClampNeg = 1))) ∧ (x = 0 → ¬ (u.1 62 (32 + m).toNatClampNeg = 0 ∨ (u.1 62 (32 + m).toNatClampNeg = 3 ∧ u.1 62 (8 + m).toNatClampNeg = 1)))) ∧ (u' = u)
set_option maxHeartbeats 4000000 in
set_option maxRecDepth 20000 in
theorem c_X7_givesSecond {G : uk_D} (hs : uk_Sep G) {u : uk_Mem} (hu : iv u) (m : Int32) (p0 : 0 ≤ m) (p1 : m ≤ 7) (d : Nat) : uk_Meth G d mX7_givesSecond [.ref (uk_ad G 60), .int m] u (q_X7_givesSecond u m) := by
  refine uk_Meth.of hs (by decide) (Nat.le_of_ble_eq_true rfl) (fun X => ?_)
  refine g_aload_n dX7_givesSecond_0 rfl ?_
  refine f_X7_13 rfl rfl dX7_givesSecond_1 ?_
  refine g_bipush (v := 32) dX7_givesSecond_4 (by decide) ?_
  refine g_iload_n dX7_givesSecond_6 rfl ?_
  refine g_iadd dX7_givesSecond_7 ?_
  refine g_topi (fun x1 ex1 => ?_)
  have v2 : vp_in x1 51 := uk_vin 51 rfl (by first | decide | lia | grind) (by first | decide | lia | grind)
  refine g_iald rfl rfl v2 dX7_givesSecond_8 ?_
  refine g_topi (fun x3 ex3 => ?_)
  have bx3 := uk_cl v2
  refine g_if_eq (tgt := 38) dX7_givesSecond_9 (by decide) (fun c4 => ?_) (fun c4 => ?_)
  · refine g_iconst (v := 1) dX7_givesSecond_38 (by decide) ?_
    refine g_goto (tgt := 43) dX7_givesSecond_39 (by decide) ?_
    exact g_iret (ty := .boolean) dX7_givesSecond_43 rfl rfl ⟨⟨1, rfl, Or.inr rfl, fun _ => by first | trivial | lia | grind, fun q => absurd q (by decide)⟩, rfl⟩
  · refine g_aload_n dX7_givesSecond_12 rfl ?_
    refine f_X7_13 rfl rfl dX7_givesSecond_13 ?_
    refine g_bipush (v := 32) dX7_givesSecond_16 (by decide) ?_
    refine g_iload_n dX7_givesSecond_18 rfl ?_
    refine g_iadd dX7_givesSecond_19 ?_
    refine g_topi (fun x5 ex5 => ?_)
    have v6 : vp_in x5 51 := uk_vin 51 rfl (by first | decide | lia | grind) (by first | decide | lia | grind)
    refine g_iald rfl rfl v6 dX7_givesSecond_20 ?_
    refine g_topi (fun x7 ex7 => ?_)
    have bx7 := uk_cl v6
    refine g_iconst (v := 3) dX7_givesSecond_21 (by decide) ?_
    refine g_icmp_ne (tgt := 42) dX7_givesSecond_22 (by decide) (fun c8 => ?_) (fun c8 => ?_)
    · refine g_iconst (v := 0) dX7_givesSecond_42 (by decide) ?_
      exact g_iret (ty := .boolean) dX7_givesSecond_43 rfl rfl ⟨⟨0, rfl, Or.inl rfl, fun q => absurd rfl q, fun _ => by first | trivial | lia | grind⟩, rfl⟩
    · refine g_aload_n dX7_givesSecond_25 rfl ?_
      refine f_X7_13 rfl rfl dX7_givesSecond_26 ?_
      refine g_bipush (v := 8) dX7_givesSecond_29 (by decide) ?_
      refine g_iload_n dX7_givesSecond_31 rfl ?_
      refine g_iadd dX7_givesSecond_32 ?_
      refine g_topi (fun x9 ex9 => ?_)
      have v10 : vp_in x9 51 := uk_vin 51 rfl (by first | decide | lia | grind) (by first | decide | lia | grind)
      refine g_iald rfl rfl v10 dX7_givesSecond_33 ?_
      refine g_topi (fun x11 ex11 => ?_)
      have bx11 := uk_cl v10
      refine g_iconst (v := 1) dX7_givesSecond_34 (by decide) ?_
      refine g_icmp_ne (tgt := 42) dX7_givesSecond_35 (by decide) (fun c12 => ?_) (fun c12 => ?_)
      · refine g_iconst (v := 0) dX7_givesSecond_42 (by decide) ?_
        exact g_iret (ty := .boolean) dX7_givesSecond_43 rfl rfl ⟨⟨0, rfl, Or.inl rfl, fun q => absurd rfl q, fun _ => by first | trivial | lia | grind⟩, rfl⟩
      · refine g_iconst (v := 1) dX7_givesSecond_38 (by decide) ?_
        refine g_goto (tgt := 43) dX7_givesSecond_39 (by decide) ?_
        exact g_iret (ty := .boolean) dX7_givesSecond_43 rfl rfl ⟨⟨1, rfl, Or.inr rfl, fun _ => by first | trivial | lia | grind, fun q => absurd q (by decide)⟩, rfl⟩
abbrev q_X7_canCook (u : uk_Mem) (m : Int32) (r : Option Value) (u' : uk_Mem) : Prop := (∃ x : Int32, r = some (.int x) ∧ (x = 0 ∨ x = 1) ∧ (¬ x = 0 → 0 ≤ (u.1 64 (m).toNatClampNeg) ∧ (u.1 64 (m).toNatClampNeg) < m ∧ 0 ≤ (u.1 65 (m).toNatClampNeg) ∧ (u.1 65 (m).toNatClampNeg) < m ∧ u.1 62 (m).toNatClampNeg < 40 ∧ ((u.1 64 (m).toNatClampNeg) = (u.1 65 (m).toNatClampNeg) → 2 ≤ u.1 62 (u.1 64 (m).toNatClampNeg).toNatClampNeg) ∧ (¬ (u.1 64 (m).toNatClampNeg) = (u.1 65 (m).toNatClampNeg) → 1 ≤ u.1 62 (u.1 64 (m).toNatClampNeg).toNatClampNeg ∧ 1 ≤ u.1 62 (u.1 65 (m).toNatClampNeg).toNatClampNeg)) ∧ (x = 0 → True)) ∧ (u' = u)
set_option maxHeartbeats 4000000 in
set_option maxRecDepth 20000 in
theorem c_X7_canCook {G : uk_D} (hs : uk_Sep G) {u : uk_Mem} (hu : iv u) (hra : ra u) (m : Int32) (p0 : 0 ≤ m) (p1 : m < u.1 60 3) (p2 : m ≤ 7) (d : Nat) : uk_Meth G d mX7_canCook [.ref (uk_ad G 60), .int m] u (q_X7_canCook u m) := by
  refine uk_Meth.of hs (by decide) (Nat.le_of_ble_eq_true rfl) (fun X => ?_)
  have hk : u.1 62 (32 + m).toNatClampNeg = 4 ∨ (0 ≤ u.1 64 m.toNatClampNeg ∧ u.1 64 m.toNatClampNeg < m ∧ 0 ≤ u.1 65 m.toNatClampNeg ∧ u.1 65 m.toNatClampNeg < m) := hra m p0 p1 p2
  refine g_aload_n dX7_canCook_0 rfl ?_
  refine f_X7_13 rfl rfl dX7_canCook_1 ?_
  refine g_bipush (v := 32) dX7_canCook_4 (by decide) ?_
  refine g_iload_n dX7_canCook_6 rfl ?_
  refine g_iadd dX7_canCook_7 ?_
  refine g_topi (fun x1 ex1 => ?_)
  have v2 : vp_in x1 51 := uk_vin 51 rfl (by first | decide | lia | grind) (by first | decide | lia | grind)
  refine g_iald rfl rfl v2 dX7_canCook_8 ?_
  refine g_topi (fun x3 ex3 => ?_)
  have bx3 := uk_cl v2
  refine g_iconst (v := 4) dX7_canCook_9 (by decide) ?_
  refine g_icmp_eq (tgt := 26) dX7_canCook_10 (by decide) (fun c4 => ?_) (fun c4 => ?_)
  · refine g_iconst (v := 0) dX7_canCook_26 (by decide) ?_
    exact g_iret (ty := .boolean) dX7_canCook_27 rfl rfl ⟨⟨0, rfl, Or.inl rfl, fun q => absurd rfl q, fun _ => by first | trivial | lia | grind⟩, rfl⟩
  · refine g_aload_n dX7_canCook_13 rfl ?_
    refine f_X7_13 rfl rfl dX7_canCook_14 ?_
    refine g_iconst (v := 0) dX7_canCook_17 (by decide) ?_
    refine g_iload_n dX7_canCook_18 rfl ?_
    refine g_iadd dX7_canCook_19 ?_
    refine g_topi (fun x5 ex5 => ?_)
    have ox5 : x5 = m := by rw [ex5, Int32.zero_add]
    have v6 : vp_in x5 51 := uk_vin 51 rfl (by first | decide | lia | grind) (by first | decide | lia | grind)
    refine g_iald rfl rfl v6 dX7_canCook_20 ?_
    refine g_topi (fun x7 ex7 => ?_)
    have bx7 := uk_cl v6
    have rx7 : 0 ≤ x7 ∧ x7 ≤ 40 := by rw [ex7]; exact sg_0 hu (by unfold uk_is51; decide) (by first | lia | grind) (by first | lia | grind)
    refine g_bipush (v := 40) dX7_canCook_21 (by decide) ?_
    refine g_icmp_ne (tgt := 28) dX7_canCook_23 (by decide) (fun c8 => ?_) (fun c8 => ?_)
    · refine g_aload_n dX7_canCook_28 rfl ?_
      refine f_X7_20 rfl rfl dX7_canCook_29 ?_
      refine g_iload_n dX7_canCook_32 rfl ?_
      have v9 : vp_in m 8 := uk_vin 8 rfl (by first | decide | lia | grind) (by first | decide | lia | grind)
      refine g_iald rfl rfl v9 dX7_canCook_33 ?_
      refine g_topi (fun x10 ex10 => ?_)
      have bx10 := uk_cl v9
      have rx10 : (-4) ≤ x10 ∧ x10 ≤ 7 := by rw [ex10]; exact iv_at hu _ _ (uk_pick1 _ (by omega))
      have hp := hk.resolve_left (by grind)
      refine g_istore_n dX7_canCook_34 (by decide) ?_
      refine g_pick (lv' := [(0, .ref (uk_ad G 60)), (1, .int m), (2, .int x10)]) [0, 1, 2] rfl ?_
      refine g_aload_n dX7_canCook_35 rfl ?_
      refine f_X7_23 rfl rfl dX7_canCook_36 ?_
      refine g_iload_n dX7_canCook_39 rfl ?_
      have v11 : vp_in m 8 := uk_vin 8 rfl (by first | decide | lia | grind) (by first | decide | lia | grind)
      refine g_iald rfl rfl v11 dX7_canCook_40 ?_
      refine g_topi (fun x12 ex12 => ?_)
      have bx12 := uk_cl v11
      have rx12 : (-4) ≤ x12 ∧ x12 ≤ 7 := by rw [ex12]; exact iv_at hu _ _ (uk_pick1 _ (by omega))
      refine g_istore_n dX7_canCook_41 (by decide) ?_
      refine g_pick (lv' := [(0, .ref (uk_ad G 60)), (1, .int m), (2, .int x10), (3, .int x12)]) [0, 1, 2, 3] rfl ?_
      refine g_iload_n dX7_canCook_42 rfl ?_
      refine g_iload_n dX7_canCook_43 rfl ?_
      refine g_icmp_ne (tgt := 67) dX7_canCook_44 (by decide) (fun c13 => ?_) (fun c13 => ?_)
      · refine g_aload_n dX7_canCook_67 rfl ?_
        refine f_X7_13 rfl rfl dX7_canCook_68 ?_
        refine g_iconst (v := 0) dX7_canCook_71 (by decide) ?_
        refine g_iload_n dX7_canCook_72 rfl ?_
        refine g_iadd dX7_canCook_73 ?_
        refine g_topi (fun x14 ex14 => ?_)
        have ox14 : x14 = x10 := by rw [ex14, Int32.zero_add]
        have v15 : vp_in x14 51 := uk_vin 51 rfl (by first | decide | lia | grind) (by first | decide | lia | grind)
        refine g_iald rfl rfl v15 dX7_canCook_74 ?_
        refine g_topi (fun x16 ex16 => ?_)
        have bx16 := uk_cl v15
        have rx16 : 0 ≤ x16 ∧ x16 ≤ 40 := by rw [ex16]; exact sg_0 hu (by unfold uk_is51; decide) (by first | lia | grind) (by first | lia | grind)
        refine g_if_le (tgt := 93) dX7_canCook_75 (by decide) (fun c17 => ?_) (fun c17 => ?_)
        · refine g_iconst (v := 0) dX7_canCook_93 (by decide) ?_
          exact g_iret (ty := .boolean) dX7_canCook_94 rfl rfl ⟨⟨0, rfl, Or.inl rfl, fun q => absurd rfl q, fun _ => by first | trivial | lia | grind⟩, rfl⟩
        · refine g_aload_n dX7_canCook_78 rfl ?_
          refine f_X7_13 rfl rfl dX7_canCook_79 ?_
          refine g_iconst (v := 0) dX7_canCook_82 (by decide) ?_
          refine g_iload_n dX7_canCook_83 rfl ?_
          refine g_iadd dX7_canCook_84 ?_
          refine g_topi (fun x18 ex18 => ?_)
          have ox18 : x18 = x12 := by rw [ex18, Int32.zero_add]
          have v19 : vp_in x18 51 := uk_vin 51 rfl (by first | decide | lia | grind) (by first | decide | lia | grind)
          refine g_iald rfl rfl v19 dX7_canCook_85 ?_
          refine g_topi (fun x20 ex20 => ?_)
          have bx20 := uk_cl v19
          have rx20 : 0 ≤ x20 ∧ x20 ≤ 40 := by rw [ex20]; exact sg_0 hu (by unfold uk_is51; decide) (by first | lia | grind) (by first | lia | grind)
          refine g_if_le (tgt := 93) dX7_canCook_86 (by decide) (fun c21 => ?_) (fun c21 => ?_)
          · refine g_iconst (v := 0) dX7_canCook_93 (by decide) ?_
            exact g_iret (ty := .boolean) dX7_canCook_94 rfl rfl ⟨⟨0, rfl, Or.inl rfl, fun q => absurd rfl q, fun _ => by first | trivial | lia | grind⟩, rfl⟩
          · refine g_iconst (v := 1) dX7_canCook_89 (by decide) ?_
            refine g_goto (tgt := 94) dX7_canCook_90 (by decide) ?_
            exact g_iret (ty := .boolean) dX7_canCook_94 rfl rfl ⟨⟨1, rfl, Or.inr rfl, fun _ => ⟨hp.1, hp.2.1, hp.2.2.1, hp.2.2.2, by grind, fun q => by grind, fun q => by grind⟩, fun q => absurd q (by decide)⟩, rfl⟩
      · refine g_aload_n dX7_canCook_47 rfl ?_
        refine f_X7_13 rfl rfl dX7_canCook_48 ?_
        refine g_iconst (v := 0) dX7_canCook_51 (by decide) ?_
        refine g_iload_n dX7_canCook_52 rfl ?_
        refine g_iadd dX7_canCook_53 ?_
        refine g_topi (fun x22 ex22 => ?_)
        have ox22 : x22 = x10 := by rw [ex22, Int32.zero_add]
        have v23 : vp_in x22 51 := uk_vin 51 rfl (by first | decide | lia | grind) (by first | decide | lia | grind)
        refine g_iald rfl rfl v23 dX7_canCook_54 ?_
        refine g_topi (fun x24 ex24 => ?_)
        have bx24 := uk_cl v23
        have rx24 : 0 ≤ x24 ∧ x24 ≤ 40 := by rw [ex24]; exact sg_0 hu (by unfold uk_is51; decide) (by first | lia | grind) (by first | lia | grind)
        refine g_iconst (v := 1) dX7_canCook_55 (by decide) ?_
        refine g_icmp_le (tgt := 63) dX7_canCook_56 (by decide) (fun c25 => ?_) (fun c25 => ?_)
        · refine g_iconst (v := 0) dX7_canCook_63 (by decide) ?_
          refine g_goto (tgt := 94) dX7_canCook_64 (by decide) ?_
          exact g_iret (ty := .boolean) dX7_canCook_94 rfl rfl ⟨⟨0, rfl, Or.inl rfl, fun q => absurd rfl q, fun _ => by first | trivial | lia | grind⟩, rfl⟩
        · refine g_iconst (v := 1) dX7_canCook_59 (by decide) ?_
          refine g_goto (tgt := 94) dX7_canCook_60 (by decide) ?_
          exact g_iret (ty := .boolean) dX7_canCook_94 rfl rfl ⟨⟨1, rfl, Or.inr rfl, fun _ => ⟨hp.1, hp.2.1, hp.2.2.1, hp.2.2.2, by grind, fun q => by grind, fun q => by grind⟩, fun q => absurd q (by decide)⟩, rfl⟩
    · refine g_iconst (v := 0) dX7_canCook_26 (by decide) ?_
      exact g_iret (ty := .boolean) dX7_canCook_27 rfl rfl ⟨⟨0, rfl, Or.inl rfl, fun q => absurd rfl q, fun _ => by first | trivial | lia | grind⟩, rfl⟩
abbrev q_X7_canTurn (u : uk_Mem) (m : Int32) (r : Option Value) (u' : uk_Mem) : Prop := (∃ x : Int32, r = some (.int x) ∧ (x = 0 ∨ x = 1) ∧ (¬ x = 0 → 0 ≤ (u.1 64 (m).toNatClampNeg) ∧ (u.1 64 (m).toNatClampNeg) < m ∧ 0 ≤ (u.1 65 (m).toNatClampNeg) ∧ (u.1 65 (m).toNatClampNeg) < m ∧ 1 ≤ u.1 62 (m).toNatClampNeg ∧ u.1 62 (u.1 64 (m).toNatClampNeg).toNatClampNeg < 40 ∧ ((u.1 62 (32 + m).toNatClampNeg = 0 ∨ (u.1 62 (32 + m).toNatClampNeg = 3 ∧ u.1 62 (8 + m).toNatClampNeg = 1)) → (u.1 64 (m).toNatClampNeg) = (u.1 65 (m).toNatClampNeg) → u.1 62 (u.1 64 (m).toNatClampNeg).toNatClampNeg + 2 ≤ 40) ∧ ((u.1 62 (32 + m).toNatClampNeg = 0 ∨ (u.1 62 (32 + m).toNatClampNeg = 3 ∧ u.1 62 (8 + m).toNatClampNeg = 1)) → ¬ (u.1 64 (m).toNatClampNeg) = (u.1 65 (m).toNatClampNeg) → u.1 62 (u.1 65 (m).toNatClampNeg).toNatClampNeg < 40)) ∧ (x = 0 → True)) ∧ (u' = u)
set_option maxHeartbeats 4000000 in
set_option maxRecDepth 20000 in
theorem c_X7_canTurn {G : uk_D} (hs : uk_Sep G) {u : uk_Mem} (hu : iv u) (hra : ra u) (m : Int32) (p0 : 0 ≤ m) (p1 : m < u.1 60 3) (p2 : m ≤ 7) (d : Nat) : uk_Meth G (d + 1) mX7_canTurn [.ref (uk_ad G 60), .int m] u (q_X7_canTurn u m) := by
  refine uk_Meth.of hs (by decide) (Nat.le_of_ble_eq_true rfl) (fun X => ?_)
  have hk : u.1 62 (32 + m).toNatClampNeg = 4 ∨ (0 ≤ u.1 64 m.toNatClampNeg ∧ u.1 64 m.toNatClampNeg < m ∧ 0 ≤ u.1 65 m.toNatClampNeg ∧ u.1 65 m.toNatClampNeg < m) := hra m p0 p1 p2
  refine g_aload_n dX7_canTurn_0 rfl ?_
  refine f_X7_13 rfl rfl dX7_canTurn_1 ?_
  refine g_bipush (v := 32) dX7_canTurn_4 (by decide) ?_
  refine g_iload_n dX7_canTurn_6 rfl ?_
  refine g_iadd dX7_canTurn_7 ?_
  refine g_topi (fun x1 ex1 => ?_)
  have v2 : vp_in x1 51 := uk_vin 51 rfl (by first | decide | lia | grind) (by first | decide | lia | grind)
  refine g_iald rfl rfl v2 dX7_canTurn_8 ?_
  refine g_topi (fun x3 ex3 => ?_)
  have bx3 := uk_cl v2
  refine g_iconst (v := 4) dX7_canTurn_9 (by decide) ?_
  refine g_icmp_eq (tgt := 37) dX7_canTurn_10 (by decide) (fun c4 => ?_) (fun c4 => ?_)
  · refine g_iconst (v := 0) dX7_canTurn_37 (by decide) ?_
    exact g_iret (ty := .boolean) dX7_canTurn_38 rfl rfl ⟨⟨0, rfl, Or.inl rfl, fun q => absurd rfl q, fun _ => by first | trivial | lia | grind⟩, rfl⟩
  · refine g_aload_n dX7_canTurn_13 rfl ?_
    refine f_X7_13 rfl rfl dX7_canTurn_14 ?_
    refine g_bipush (v := 32) dX7_canTurn_17 (by decide) ?_
    refine g_iload_n dX7_canTurn_19 rfl ?_
    refine g_iadd dX7_canTurn_20 ?_
    refine g_topi (fun x5 ex5 => ?_)
    have v6 : vp_in x5 51 := uk_vin 51 rfl (by first | decide | lia | grind) (by first | decide | lia | grind)
    refine g_iald rfl rfl v6 dX7_canTurn_21 ?_
    refine g_topi (fun x7 ex7 => ?_)
    have bx7 := uk_cl v6
    refine g_iconst (v := 2) dX7_canTurn_22 (by decide) ?_
    refine g_icmp_eq (tgt := 37) dX7_canTurn_23 (by decide) (fun c8 => ?_) (fun c8 => ?_)
    · refine g_iconst (v := 0) dX7_canTurn_37 (by decide) ?_
      exact g_iret (ty := .boolean) dX7_canTurn_38 rfl rfl ⟨⟨0, rfl, Or.inl rfl, fun q => absurd rfl q, fun _ => by first | trivial | lia | grind⟩, rfl⟩
    · refine g_aload_n dX7_canTurn_26 rfl ?_
      refine f_X7_13 rfl rfl dX7_canTurn_27 ?_
      refine g_iconst (v := 0) dX7_canTurn_30 (by decide) ?_
      refine g_iload_n dX7_canTurn_31 rfl ?_
      refine g_iadd dX7_canTurn_32 ?_
      refine g_topi (fun x9 ex9 => ?_)
      have ox9 : x9 = m := by rw [ex9, Int32.zero_add]
      have v10 : vp_in x9 51 := uk_vin 51 rfl (by first | decide | lia | grind) (by first | decide | lia | grind)
      refine g_iald rfl rfl v10 dX7_canTurn_33 ?_
      refine g_topi (fun x11 ex11 => ?_)
      have bx11 := uk_cl v10
      have rx11 : 0 ≤ x11 ∧ x11 ≤ 40 := by rw [ex11]; exact sg_0 hu (by unfold uk_is51; decide) (by first | lia | grind) (by first | lia | grind)
      refine g_if_ne (tgt := 39) dX7_canTurn_34 (by decide) (fun c12 => ?_) (fun c12 => ?_)
      · refine g_aload_n dX7_canTurn_39 rfl ?_
        refine f_X7_20 rfl rfl dX7_canTurn_40 ?_
        refine g_iload_n dX7_canTurn_43 rfl ?_
        have v13 : vp_in m 8 := uk_vin 8 rfl (by first | decide | lia | grind) (by first | decide | lia | grind)
        refine g_iald rfl rfl v13 dX7_canTurn_44 ?_
        refine g_topi (fun x14 ex14 => ?_)
        have bx14 := uk_cl v13
        have rx14 : (-4) ≤ x14 ∧ x14 ≤ 7 := by rw [ex14]; exact iv_at hu _ _ (uk_pick1 _ (by omega))
        have hp := hk.resolve_left (by grind)
        refine g_istore_n dX7_canTurn_45 (by decide) ?_
        refine g_pick (lv' := [(0, .ref (uk_ad G 60)), (1, .int m), (2, .int x14)]) [0, 1, 2] rfl ?_
        refine g_aload_n dX7_canTurn_46 rfl ?_
        refine f_X7_23 rfl rfl dX7_canTurn_47 ?_
        refine g_iload_n dX7_canTurn_50 rfl ?_
        have v15 : vp_in m 8 := uk_vin 8 rfl (by first | decide | lia | grind) (by first | decide | lia | grind)
        refine g_iald rfl rfl v15 dX7_canTurn_51 ?_
        refine g_topi (fun x16 ex16 => ?_)
        have bx16 := uk_cl v15
        have rx16 : (-4) ≤ x16 ∧ x16 ≤ 7 := by rw [ex16]; exact iv_at hu _ _ (uk_pick1 _ (by omega))
        refine g_istore_n dX7_canTurn_52 (by decide) ?_
        refine g_pick (lv' := [(0, .ref (uk_ad G 60)), (1, .int m), (2, .int x14), (3, .int x16)]) [0, 1, 2, 3] rfl ?_
        refine g_aload_n dX7_canTurn_53 rfl ?_
        refine g_iload_n dX7_canTurn_54 rfl ?_
        refine cl_X7_153 (c := 60) (As := [.int m]) rfl (c_X7_givesSecond (G := G) hs hu  m (by first | trivial | decide | lia | grind) (by first | trivial | decide | lia | grind) (d)) rfl (by omega) rfl rfl (Nat.le_of_ble_eq_true rfl) dX7_canTurn_55 (fun r17 u18 q19 => ?_)
        obtain ⟨⟨x20, rfl, tx20, nx20, zx20⟩, mq19⟩ := q19
        rw [mq19]
        refine g_if_eq (tgt := 70) dX7_canTurn_58 (by decide) (fun c21 => ?_) (fun c21 => ?_)
        · have zc21 := zx20 c21
          refine g_iconst (v := 1) dX7_canTurn_70 (by decide) ?_
          refine g_istore dX7_canTurn_71 (by decide) ?_
          refine g_pick (lv' := [(0, .ref (uk_ad G 60)), (1, .int m), (2, .int x14), (3, .int x16), (4, .int 1)]) [0, 1, 2, 3, 4] rfl ?_
          refine g_aload_n dX7_canTurn_73 rfl ?_
          refine f_X7_13 rfl rfl dX7_canTurn_74 ?_
          refine g_iconst (v := 0) dX7_canTurn_77 (by decide) ?_
          refine g_iload_n dX7_canTurn_78 rfl ?_
          refine g_iadd dX7_canTurn_79 ?_
          refine g_topi (fun x22 ex22 => ?_)
          have ox22 : x22 = x14 := by rw [ex22, Int32.zero_add]
          have v23 : vp_in x22 51 := uk_vin 51 rfl (by first | decide | lia | grind) (by first | decide | lia | grind)
          refine g_iald rfl rfl v23 dX7_canTurn_80 ?_
          refine g_topi (fun x24 ex24 => ?_)
          have bx24 := uk_cl v23
          have rx24 : 0 ≤ x24 ∧ x24 ≤ 40 := by rw [ex24]; exact sg_0 hu (by unfold uk_is51; decide) (by first | lia | grind) (by first | lia | grind)
          refine g_iload dX7_canTurn_81 rfl ?_
          refine g_iadd dX7_canTurn_83 ?_
          refine g_topi (fun x25 ex25 => ?_)
          refine g_bipush (v := 40) dX7_canTurn_84 (by decide) ?_
          refine g_icmp_gt (tgt := 119) dX7_canTurn_86 (by decide) (fun c26 => ?_) (fun c26 => ?_)
          · refine g_iconst (v := 0) dX7_canTurn_119 (by decide) ?_
            exact g_iret (ty := .boolean) dX7_canTurn_120 rfl rfl ⟨⟨0, rfl, Or.inl rfl, fun q => absurd rfl q, fun _ => by first | trivial | lia | grind⟩, rfl⟩
          · refine g_aload_n dX7_canTurn_89 rfl ?_
            refine g_iload_n dX7_canTurn_90 rfl ?_
            refine cl_X7_153 (c := 60) (As := [.int m]) rfl (c_X7_givesSecond (G := G) hs hu  m (by first | trivial | decide | lia | grind) (by first | trivial | decide | lia | grind) (d)) rfl (by omega) rfl rfl (Nat.le_of_ble_eq_true rfl) dX7_canTurn_91 (fun r27 u28 q29 => ?_)
            obtain ⟨⟨x30, rfl, tx30, nx30, zx30⟩, mq29⟩ := q29
            rw [mq29]
            refine g_if_eq (tgt := 115) dX7_canTurn_94 (by decide) (fun c31 => ?_) (fun c31 => ?_)
            · have zc31 := zx30 c31
              refine g_iconst (v := 1) dX7_canTurn_115 (by decide) ?_
              refine g_goto (tgt := 120) dX7_canTurn_116 (by decide) ?_
              exact g_iret (ty := .boolean) dX7_canTurn_120 rfl rfl ⟨⟨1, rfl, Or.inr rfl, fun _ => ⟨hp.1, hp.2.1, hp.2.2.1, hp.2.2.2, by grind, by grind, fun q q2 => by grind, fun q q2 => by grind⟩, fun q => absurd q (by decide)⟩, rfl⟩
            · have zc31 := nx30 c31
              refine g_iload_n dX7_canTurn_97 rfl ?_
              refine g_iload_n dX7_canTurn_98 rfl ?_
              refine g_icmp_eq (tgt := 115) dX7_canTurn_99 (by decide) (fun c32 => ?_) (fun c32 => ?_)
              · refine g_iconst (v := 1) dX7_canTurn_115 (by decide) ?_
                refine g_goto (tgt := 120) dX7_canTurn_116 (by decide) ?_
                exact g_iret (ty := .boolean) dX7_canTurn_120 rfl rfl ⟨⟨1, rfl, Or.inr rfl, fun _ => ⟨hp.1, hp.2.1, hp.2.2.1, hp.2.2.2, by grind, by grind, fun q q2 => by grind, fun q q2 => by grind⟩, fun q => absurd q (by decide)⟩, rfl⟩
              · refine g_aload_n dX7_canTurn_102 rfl ?_
                refine f_X7_13 rfl rfl dX7_canTurn_103 ?_
                refine g_iconst (v := 0) dX7_canTurn_106 (by decide) ?_
                refine g_iload_n dX7_canTurn_107 rfl ?_
                refine g_iadd dX7_canTurn_108 ?_
                refine g_topi (fun x33 ex33 => ?_)
                have ox33 : x33 = x16 := by rw [ex33, Int32.zero_add]
                have v34 : vp_in x33 51 := uk_vin 51 rfl (by first | decide | lia | grind) (by first | decide | lia | grind)
                refine g_iald rfl rfl v34 dX7_canTurn_109 ?_
                refine g_topi (fun x35 ex35 => ?_)
                have bx35 := uk_cl v34
                have rx35 : 0 ≤ x35 ∧ x35 ≤ 40 := by rw [ex35]; exact sg_0 hu (by unfold uk_is51; decide) (by first | lia | grind) (by first | lia | grind)
                refine g_bipush (v := 40) dX7_canTurn_110 (by decide) ?_
                refine g_icmp_ge (tgt := 119) dX7_canTurn_112 (by decide) (fun c36 => ?_) (fun c36 => ?_)
                · refine g_iconst (v := 0) dX7_canTurn_119 (by decide) ?_
                  exact g_iret (ty := .boolean) dX7_canTurn_120 rfl rfl ⟨⟨0, rfl, Or.inl rfl, fun q => absurd rfl q, fun _ => by first | trivial | lia | grind⟩, rfl⟩
                · refine g_iconst (v := 1) dX7_canTurn_115 (by decide) ?_
                  refine g_goto (tgt := 120) dX7_canTurn_116 (by decide) ?_
                  exact g_iret (ty := .boolean) dX7_canTurn_120 rfl rfl ⟨⟨1, rfl, Or.inr rfl, fun _ => ⟨hp.1, hp.2.1, hp.2.2.1, hp.2.2.2, by grind, by grind, fun q q2 => by grind, fun q q2 => by grind⟩, fun q => absurd q (by decide)⟩, rfl⟩
        · have zc21 := nx20 c21
          refine g_iload_n dX7_canTurn_61 rfl ?_
          refine g_iload_n dX7_canTurn_62 rfl ?_
          refine g_icmp_ne (tgt := 70) dX7_canTurn_63 (by decide) (fun c37 => ?_) (fun c37 => ?_)
          · refine g_iconst (v := 1) dX7_canTurn_70 (by decide) ?_
            refine g_istore dX7_canTurn_71 (by decide) ?_
            refine g_pick (lv' := [(0, .ref (uk_ad G 60)), (1, .int m), (2, .int x14), (3, .int x16), (4, .int 1)]) [0, 1, 2, 3, 4] rfl ?_
            refine g_aload_n dX7_canTurn_73 rfl ?_
            refine f_X7_13 rfl rfl dX7_canTurn_74 ?_
            refine g_iconst (v := 0) dX7_canTurn_77 (by decide) ?_
            refine g_iload_n dX7_canTurn_78 rfl ?_
            refine g_iadd dX7_canTurn_79 ?_
            refine g_topi (fun x38 ex38 => ?_)
            have ox38 : x38 = x14 := by rw [ex38, Int32.zero_add]
            have v39 : vp_in x38 51 := uk_vin 51 rfl (by first | decide | lia | grind) (by first | decide | lia | grind)
            refine g_iald rfl rfl v39 dX7_canTurn_80 ?_
            refine g_topi (fun x40 ex40 => ?_)
            have bx40 := uk_cl v39
            have rx40 : 0 ≤ x40 ∧ x40 ≤ 40 := by rw [ex40]; exact sg_0 hu (by unfold uk_is51; decide) (by first | lia | grind) (by first | lia | grind)
            refine g_iload dX7_canTurn_81 rfl ?_
            refine g_iadd dX7_canTurn_83 ?_
            refine g_topi (fun x41 ex41 => ?_)
            refine g_bipush (v := 40) dX7_canTurn_84 (by decide) ?_
            refine g_icmp_gt (tgt := 119) dX7_canTurn_86 (by decide) (fun c42 => ?_) (fun c42 => ?_)
            · refine g_iconst (v := 0) dX7_canTurn_119 (by decide) ?_
              exact g_iret (ty := .boolean) dX7_canTurn_120 rfl rfl ⟨⟨0, rfl, Or.inl rfl, fun q => absurd rfl q, fun _ => by first | trivial | lia | grind⟩, rfl⟩
            · refine g_aload_n dX7_canTurn_89 rfl ?_
              refine g_iload_n dX7_canTurn_90 rfl ?_
              refine cl_X7_153 (c := 60) (As := [.int m]) rfl (c_X7_givesSecond (G := G) hs hu  m (by first | trivial | decide | lia | grind) (by first | trivial | decide | lia | grind) (d)) rfl (by omega) rfl rfl (Nat.le_of_ble_eq_true rfl) dX7_canTurn_91 (fun r43 u44 q45 => ?_)
              obtain ⟨⟨x46, rfl, tx46, nx46, zx46⟩, mq45⟩ := q45
              rw [mq45]
              refine g_if_eq (tgt := 115) dX7_canTurn_94 (by decide) (fun c47 => ?_) (fun c47 => ?_)
              · have zc47 := zx46 c47
                refine g_iconst (v := 1) dX7_canTurn_115 (by decide) ?_
                refine g_goto (tgt := 120) dX7_canTurn_116 (by decide) ?_
                exact g_iret (ty := .boolean) dX7_canTurn_120 rfl rfl ⟨⟨1, rfl, Or.inr rfl, fun _ => ⟨hp.1, hp.2.1, hp.2.2.1, hp.2.2.2, by grind, by grind, fun q q2 => by grind, fun q q2 => by grind⟩, fun q => absurd q (by decide)⟩, rfl⟩
              · have zc47 := nx46 c47
                refine g_iload_n dX7_canTurn_97 rfl ?_
                refine g_iload_n dX7_canTurn_98 rfl ?_
                refine g_icmp_eq (tgt := 115) dX7_canTurn_99 (by decide) (fun c48 => ?_) (fun c48 => ?_)
                · refine g_iconst (v := 1) dX7_canTurn_115 (by decide) ?_
                  refine g_goto (tgt := 120) dX7_canTurn_116 (by decide) ?_
                  exact g_iret (ty := .boolean) dX7_canTurn_120 rfl rfl ⟨⟨1, rfl, Or.inr rfl, fun _ => ⟨hp.1, hp.2.1, hp.2.2.1, hp.2.2.2, by grind, by grind, fun q q2 => by grind, fun q q2 => by grind⟩, fun q => absurd q (by decide)⟩, rfl⟩
                · refine g_aload_n dX7_canTurn_102 rfl ?_
                  refine f_X7_13 rfl rfl dX7_canTurn_103 ?_
                  refine g_iconst (v := 0) dX7_canTurn_106 (by decide) ?_
                  refine g_iload_n dX7_canTurn_107 rfl ?_
                  refine g_iadd dX7_canTurn_108 ?_
                  refine g_topi (fun x49 ex49 => ?_)
                  have ox49 : x49 = x16 := by rw [ex49, Int32.zero_add]
                  have v50 : vp_in x49 51 := uk_vin 51 rfl (by first | decide | lia | grind) (by first | decide | lia | grind)
                  refine g_iald rfl rfl v50 dX7_canTurn_109 ?_
                  refine g_topi (fun x51 ex51 => ?_)
                  have bx51 := uk_cl v50
                  have rx51 : 0 ≤ x51 ∧ x51 ≤ 40 := by rw [ex51]; exact sg_0 hu (by unfold uk_is51; decide) (by first | lia | grind) (by first | lia | grind)
                  refine g_bipush (v := 40) dX7_canTurn_110 (by decide) ?_
                  refine g_icmp_ge (tgt := 119) dX7_canTurn_112 (by decide) (fun c52 => ?_) (fun c52 => ?_)
                  · refine g_iconst (v := 0) dX7_canTurn_119 (by decide) ?_
                    exact g_iret (ty := .boolean) dX7_canTurn_120 rfl rfl ⟨⟨0, rfl, Or.inl rfl, fun q => absurd rfl q, fun _ => by first | trivial | lia | grind⟩, rfl⟩
                  · refine g_iconst (v := 1) dX7_canTurn_115 (by decide) ?_
                    refine g_goto (tgt := 120) dX7_canTurn_116 (by decide) ?_
                    exact g_iret (ty := .boolean) dX7_canTurn_120 rfl rfl ⟨⟨1, rfl, Or.inr rfl, fun _ => ⟨hp.1, hp.2.1, hp.2.2.1, hp.2.2.2, by grind, by grind, fun q q2 => by grind, fun q q2 => by grind⟩, fun q => absurd q (by decide)⟩, rfl⟩
          · refine g_iconst (v := 2) dX7_canTurn_66 (by decide) ?_
            refine g_goto (tgt := 71) dX7_canTurn_67 (by decide) ?_
            refine g_istore dX7_canTurn_71 (by decide) ?_
            refine g_pick (lv' := [(0, .ref (uk_ad G 60)), (1, .int m), (2, .int x14), (3, .int x16), (4, .int 2)]) [0, 1, 2, 3, 4] rfl ?_
            refine g_aload_n dX7_canTurn_73 rfl ?_
            refine f_X7_13 rfl rfl dX7_canTurn_74 ?_
            refine g_iconst (v := 0) dX7_canTurn_77 (by decide) ?_
            refine g_iload_n dX7_canTurn_78 rfl ?_
            refine g_iadd dX7_canTurn_79 ?_
            refine g_topi (fun x53 ex53 => ?_)
            have ox53 : x53 = x14 := by rw [ex53, Int32.zero_add]
            have v54 : vp_in x53 51 := uk_vin 51 rfl (by first | decide | lia | grind) (by first | decide | lia | grind)
            refine g_iald rfl rfl v54 dX7_canTurn_80 ?_
            refine g_topi (fun x55 ex55 => ?_)
            have bx55 := uk_cl v54
            have rx55 : 0 ≤ x55 ∧ x55 ≤ 40 := by rw [ex55]; exact sg_0 hu (by unfold uk_is51; decide) (by first | lia | grind) (by first | lia | grind)
            refine g_iload dX7_canTurn_81 rfl ?_
            refine g_iadd dX7_canTurn_83 ?_
            refine g_topi (fun x56 ex56 => ?_)
            refine g_bipush (v := 40) dX7_canTurn_84 (by decide) ?_
            refine g_icmp_gt (tgt := 119) dX7_canTurn_86 (by decide) (fun c57 => ?_) (fun c57 => ?_)
            · refine g_iconst (v := 0) dX7_canTurn_119 (by decide) ?_
              exact g_iret (ty := .boolean) dX7_canTurn_120 rfl rfl ⟨⟨0, rfl, Or.inl rfl, fun q => absurd rfl q, fun _ => by first | trivial | lia | grind⟩, rfl⟩
            · refine g_aload_n dX7_canTurn_89 rfl ?_
              refine g_iload_n dX7_canTurn_90 rfl ?_
              refine cl_X7_153 (c := 60) (As := [.int m]) rfl (c_X7_givesSecond (G := G) hs hu  m (by first | trivial | decide | lia | grind) (by first | trivial | decide | lia | grind) (d)) rfl (by omega) rfl rfl (Nat.le_of_ble_eq_true rfl) dX7_canTurn_91 (fun r58 u59 q60 => ?_)
              obtain ⟨⟨x61, rfl, tx61, nx61, zx61⟩, mq60⟩ := q60
              rw [mq60]
              refine g_if_eq (tgt := 115) dX7_canTurn_94 (by decide) (fun c62 => ?_) (fun c62 => ?_)
              · have zc62 := zx61 c62
                refine g_iconst (v := 1) dX7_canTurn_115 (by decide) ?_
                refine g_goto (tgt := 120) dX7_canTurn_116 (by decide) ?_
                exact g_iret (ty := .boolean) dX7_canTurn_120 rfl rfl ⟨⟨1, rfl, Or.inr rfl, fun _ => ⟨hp.1, hp.2.1, hp.2.2.1, hp.2.2.2, by grind, by grind, fun q q2 => by grind, fun q q2 => by grind⟩, fun q => absurd q (by decide)⟩, rfl⟩
              · have zc62 := nx61 c62
                refine g_iload_n dX7_canTurn_97 rfl ?_
                refine g_iload_n dX7_canTurn_98 rfl ?_
                refine g_icmp_eq (tgt := 115) dX7_canTurn_99 (by decide) (fun c63 => ?_) (fun c63 => ?_)
                · refine g_iconst (v := 1) dX7_canTurn_115 (by decide) ?_
                  refine g_goto (tgt := 120) dX7_canTurn_116 (by decide) ?_
                  exact g_iret (ty := .boolean) dX7_canTurn_120 rfl rfl ⟨⟨1, rfl, Or.inr rfl, fun _ => ⟨hp.1, hp.2.1, hp.2.2.1, hp.2.2.2, by grind, by grind, fun q q2 => by grind, fun q q2 => by grind⟩, fun q => absurd q (by decide)⟩, rfl⟩
                · refine g_aload_n dX7_canTurn_102 rfl ?_
                  refine f_X7_13 rfl rfl dX7_canTurn_103 ?_
                  refine g_iconst (v := 0) dX7_canTurn_106 (by decide) ?_
                  refine g_iload_n dX7_canTurn_107 rfl ?_
                  refine g_iadd dX7_canTurn_108 ?_
                  refine g_topi (fun x64 ex64 => ?_)
                  have ox64 : x64 = x16 := by rw [ex64, Int32.zero_add]
                  have v65 : vp_in x64 51 := uk_vin 51 rfl (by first | decide | lia | grind) (by first | decide | lia | grind)
                  refine g_iald rfl rfl v65 dX7_canTurn_109 ?_
                  refine g_topi (fun x66 ex66 => ?_)
                  have bx66 := uk_cl v65
                  have rx66 : 0 ≤ x66 ∧ x66 ≤ 40 := by rw [ex66]; exact sg_0 hu (by unfold uk_is51; decide) (by first | lia | grind) (by first | lia | grind)
                  refine g_bipush (v := 40) dX7_canTurn_110 (by decide) ?_
                  refine g_icmp_ge (tgt := 119) dX7_canTurn_112 (by decide) (fun c67 => ?_) (fun c67 => ?_)
                  · refine g_iconst (v := 0) dX7_canTurn_119 (by decide) ?_
                    exact g_iret (ty := .boolean) dX7_canTurn_120 rfl rfl ⟨⟨0, rfl, Or.inl rfl, fun q => absurd rfl q, fun _ => by first | trivial | lia | grind⟩, rfl⟩
                  · refine g_iconst (v := 1) dX7_canTurn_115 (by decide) ?_
                    refine g_goto (tgt := 120) dX7_canTurn_116 (by decide) ?_
                    exact g_iret (ty := .boolean) dX7_canTurn_120 rfl rfl ⟨⟨1, rfl, Or.inr rfl, fun _ => ⟨hp.1, hp.2.1, hp.2.2.1, hp.2.2.2, by grind, by grind, fun q q2 => by grind, fun q q2 => by grind⟩, fun q => absurd q (by decide)⟩, rfl⟩
      · refine g_iconst (v := 0) dX7_canTurn_37 (by decide) ?_
        exact g_iret (ty := .boolean) dX7_canTurn_38 rfl rfl ⟨⟨0, rfl, Or.inl rfl, fun q => absurd rfl q, fun _ => by first | trivial | lia | grind⟩, rfl⟩
abbrev q_X7_canDo (u : uk_Mem) (g : Int32) (r : Option Value) (u' : uk_Mem) : Prop := (∃ x : Int32, r = some (.int x) ∧ (x = 0 ∨ x = 1) ∧ (¬ x = 0 → (g < 10 → 0 ≤ (u.1 64 (g).toNatClampNeg) ∧ (u.1 64 (g).toNatClampNeg) < g ∧ 0 ≤ (u.1 65 (g).toNatClampNeg) ∧ (u.1 65 (g).toNatClampNeg) < g ∧ u.1 62 (g).toNatClampNeg < 40 ∧ ((u.1 64 (g).toNatClampNeg) = (u.1 65 (g).toNatClampNeg) → 2 ≤ u.1 62 (u.1 64 (g).toNatClampNeg).toNatClampNeg) ∧ (¬ (u.1 64 (g).toNatClampNeg) = (u.1 65 (g).toNatClampNeg) → 1 ≤ u.1 62 (u.1 64 (g).toNatClampNeg).toNatClampNeg ∧ 1 ≤ u.1 62 (u.1 65 (g).toNatClampNeg).toNatClampNeg)) ∧ (10 ≤ g → 0 ≤ (u.1 64 ((g - 10)).toNatClampNeg) ∧ (u.1 64 ((g - 10)).toNatClampNeg) < (g - 10) ∧ 0 ≤ (u.1 65 ((g - 10)).toNatClampNeg) ∧ (u.1 65 ((g - 10)).toNatClampNeg) < (g - 10) ∧ 1 ≤ u.1 62 ((g - 10)).toNatClampNeg ∧ u.1 62 (u.1 64 ((g - 10)).toNatClampNeg).toNatClampNeg < 40 ∧ ((u.1 62 (32 + (g - 10)).toNatClampNeg = 0 ∨ (u.1 62 (32 + (g - 10)).toNatClampNeg = 3 ∧ u.1 62 (8 + (g - 10)).toNatClampNeg = 1)) → (u.1 64 ((g - 10)).toNatClampNeg) = (u.1 65 ((g - 10)).toNatClampNeg) → u.1 62 (u.1 64 ((g - 10)).toNatClampNeg).toNatClampNeg + 2 ≤ 40) ∧ ((u.1 62 (32 + (g - 10)).toNatClampNeg = 0 ∨ (u.1 62 (32 + (g - 10)).toNatClampNeg = 3 ∧ u.1 62 (8 + (g - 10)).toNatClampNeg = 1)) → ¬ (u.1 64 ((g - 10)).toNatClampNeg) = (u.1 65 ((g - 10)).toNatClampNeg) → u.1 62 (u.1 65 ((g - 10)).toNatClampNeg).toNatClampNeg < 40))) ∧ (x = 0 → True)) ∧ (u' = u)
set_option maxHeartbeats 4000000 in
set_option maxRecDepth 20000 in
theorem c_X7_canDo {G : uk_D} (hs : uk_Sep G) {u : uk_Mem} (hu : iv u) (hra : ra u) (g : Int32) (p0 : ((0 ≤ g ∧ g ≤ 7 ∧ g < u.1 60 3) ∨ (10 ≤ g ∧ g ≤ 17 ∧ g - 10 < u.1 60 3))) (d : Nat) : uk_Meth G (d + 2) mX7_canDo [.ref (uk_ad G 60), .int g] u (q_X7_canDo u g) := by
  refine uk_Meth.of hs (by decide) (Nat.le_of_ble_eq_true rfl) (fun X => ?_)
  refine g_iload_n dX7_canDo_0 rfl ?_
  refine g_bipush (v := 10) dX7_canDo_1 (by decide) ?_
  refine g_icmp_ge (tgt := 14) dX7_canDo_3 (by decide) (fun c1 => ?_) (fun c1 => ?_)
  · refine g_aload_n dX7_canDo_14 rfl ?_
    refine g_iload_n dX7_canDo_15 rfl ?_
    refine g_bipush (v := 10) dX7_canDo_16 (by decide) ?_
    refine g_isub dX7_canDo_18 ?_
    refine g_topi (fun x2 ex2 => ?_)
    refine cl_X7_160 (c := 60) (As := [.int x2]) rfl (c_X7_canTurn (G := G) hs hu hra  x2 (by first | trivial | decide | lia | grind) (by first | trivial | decide | lia | grind) (by first | trivial | decide | lia | grind) (d)) rfl (by omega) rfl rfl (Nat.le_of_ble_eq_true rfl) dX7_canDo_19 (fun r3 u4 q5 => ?_)
    obtain ⟨⟨x6, rfl, tx6, nx6, zx6⟩, mq5⟩ := q5
    rw [mq5]
    exact g_iret (ty := .boolean) dX7_canDo_22 rfl (uk_nb tx6) ⟨⟨_, rfl, tx6, fun q => by first | trivial | (have := nx6 q; first | exact this | grind), fun q => by first | trivial | (have := zx6 q; first | exact this | grind)⟩, rfl⟩
  · refine g_aload_n dX7_canDo_6 rfl ?_
    refine g_iload_n dX7_canDo_7 rfl ?_
    refine cl_X7_157 (c := 60) (As := [.int g]) rfl (c_X7_canCook (G := G) hs hu hra  g (by first | trivial | decide | lia | grind) (by first | trivial | decide | lia | grind) (by first | trivial | decide | lia | grind) (d + 1)) rfl (by omega) rfl rfl (Nat.le_of_ble_eq_true rfl) dX7_canDo_8 (fun r7 u8 q9 => ?_)
    obtain ⟨⟨x10, rfl, tx10, nx10, zx10⟩, mq9⟩ := q9
    rw [mq9]
    refine g_goto (tgt := 22) dX7_canDo_11 (by decide) ?_
    exact g_iret (ty := .boolean) dX7_canDo_22 rfl (uk_nb tx10) ⟨⟨_, rfl, tx10, fun q => by first | trivial | (have := nx10 q; first | exact this | grind), fun q => by first | trivial | (have := zx10 q; first | exact this | grind)⟩, rfl⟩
