abbrev mJ0_length : uk_M := (yJ0_length_8abf5, cJ0_length_8abf5, 1, some .int)
abbrev mJ0_charAt : uk_M := (yJ0_charAt_5068e, cJ0_charAt_5068e, 2, some .char)
abbrev mJ0_coder : uk_M := (yJ0_coder_7d493, cJ0_coder_7d493, 1, some .byte)
abbrev mJ0_isLatin1 : uk_M := (yJ0_isLatin1_aae02, cJ0_isLatin1_aae02, 1, some .boolean)
abbrev mJ0_checkIndex : uk_M := (yJ0_checkIndex_df160, cJ0_checkIndex_df160, 2, none)
abbrev mJ1_charAt : uk_M := (yJ1_charAt_3b067, cJ1_charAt_3b067, 2, some .char)
abbrev mJ3_checkIndex : uk_M := (yJ3_checkIndex_8e157, cJ3_checkIndex_8e157, 3, some .int)
theorem uk_JV : Cond.fieldLink RJ0 9 "java/lang/String" "value" "[B" ∈ uk_w := uk_wI (List.mem_of_getElem? (i := 1182) (by decide +kernel)) rfl
theorem uk_JC : Cond.fieldLink RJ0 15 "java/lang/String" "coder" "B" ∈ uk_w := uk_wI (List.mem_of_getElem? (i := 1183) (by decide +kernel)) rfl
theorem uk_JS : Cond.fieldLink RJ0 38 "java/lang/String" "COMPACT_STRINGS" "Z" ∈ uk_w := uk_wI (List.mem_of_getElem? (i := 320) (by decide +kernel)) rfl
theorem uk_JF : Cond.fieldLink RJ0 1053 "jdk/internal/util/Preconditions" "SIOOBE_FORMATTER" "Ljava/util/function/BiFunction;" ∈ uk_w := uk_wI (List.mem_of_getElem? (i := 336) (by decide +kernel)) rfl
theorem uk_JI0 : Cond.initialized RJ0 ∈ uk_w := uk_wI (List.mem_of_getElem? (i := 9) (by decide +kernel)) rfl
theorem uk_JI1 : Cond.initialized RJ1 ∈ uk_w := uk_wI (List.mem_of_getElem? (i := 10) (by decide +kernel)) rfl
theorem uk_JI3 : Cond.initialized RJ3 ∈ uk_w := uk_wI (List.mem_of_getElem? (i := 11) (by decide +kernel)) rfl
theorem uk_JL335 : Cond.methodLink RJ0 335 mJ0_coder.1 ∈ uk_w := uk_wI (List.mem_of_getElem? (i := 316) (by decide +kernel)) rfl
theorem uk_JL1059 : Cond.methodLink RJ0 1059 mJ3_checkIndex.1 ∈ uk_w := uk_wI (List.mem_of_getElem? (i := 338) (by decide +kernel)) rfl
theorem uk_JL9 : Cond.methodLink RJ1 9 mJ0_checkIndex.1 ∈ uk_w := uk_wI (List.mem_of_getElem? (i := 333) (by decide +kernel)) rfl
theorem uk_JL492 : Cond.methodLink RJ0 492 mJ0_isLatin1.1 ∈ uk_w := uk_wI (List.mem_of_getElem? (i := 326) (by decide +kernel)) rfl
theorem uk_JL495 : Cond.methodLink RJ0 495 mJ1_charAt.1 ∈ uk_w := uk_wI (List.mem_of_getElem? (i := 330) (by decide +kernel)) rfl
theorem uk_JL35 : Cond.methodLink RX4 35 mJ0_length.1 ∈ uk_w := uk_wI (List.mem_of_getElem? (i := 312) (by decide +kernel)) rfl
theorem uk_JL41 : Cond.methodLink RX4 41 mJ0_charAt.1 ∈ uk_w := uk_wI (List.mem_of_getElem? (i := 322) (by decide +kernel)) rfl
theorem uk_JIcoder : Cond.instanceMethod mJ0_coder.1 ∈ uk_w := uk_wI (List.mem_of_getElem? (i := 317) (by decide +kernel)) rfl
theorem uk_JScoder : Cond.selects RJ0 mJ0_coder.1 mJ0_coder.1 ∈ uk_w := uk_wI (List.mem_of_getElem? (i := 318) (by decide +kernel)) rfl
theorem uk_JKcoder : Cond.code mJ0_coder.1 mJ0_coder.2.1 mJ0_coder.2.2.1 mJ0_coder.2.2.2 ∈ uk_w := uk_wI (List.mem_of_getElem? (i := 319) (by decide +kernel)) rfl
theorem uk_JIlatin : Cond.instanceMethod mJ0_isLatin1.1 ∈ uk_w := uk_wI (List.mem_of_getElem? (i := 327) (by decide +kernel)) rfl
theorem uk_JSlatin : Cond.selects RJ0 mJ0_isLatin1.1 mJ0_isLatin1.1 ∈ uk_w := uk_wI (List.mem_of_getElem? (i := 328) (by decide +kernel)) rfl
theorem uk_JKlatin : Cond.code mJ0_isLatin1.1 mJ0_isLatin1.2.1 mJ0_isLatin1.2.2.1 mJ0_isLatin1.2.2.2 ∈ uk_w := uk_wI (List.mem_of_getElem? (i := 329) (by decide +kernel)) rfl
theorem uk_JIlen : Cond.instanceMethod mJ0_length.1 ∈ uk_w := uk_wI (List.mem_of_getElem? (i := 313) (by decide +kernel)) rfl
theorem uk_JSlen : Cond.selects RJ0 mJ0_length.1 mJ0_length.1 ∈ uk_w := uk_wI (List.mem_of_getElem? (i := 314) (by decide +kernel)) rfl
theorem uk_JKlen : Cond.code mJ0_length.1 mJ0_length.2.1 mJ0_length.2.2.1 mJ0_length.2.2.2 ∈ uk_w := uk_wI (List.mem_of_getElem? (i := 315) (by decide +kernel)) rfl
theorem uk_JIchar : Cond.instanceMethod mJ0_charAt.1 ∈ uk_w := uk_wI (List.mem_of_getElem? (i := 323) (by decide +kernel)) rfl
theorem uk_JSchar : Cond.selects RJ0 mJ0_charAt.1 mJ0_charAt.1 ∈ uk_w := uk_wI (List.mem_of_getElem? (i := 324) (by decide +kernel)) rfl
theorem uk_JKchar : Cond.code mJ0_charAt.1 mJ0_charAt.2.1 mJ0_charAt.2.2.1 mJ0_charAt.2.2.2 ∈ uk_w := uk_wI (List.mem_of_getElem? (i := 325) (by decide +kernel)) rfl
theorem uk_JTpre : Cond.static mJ3_checkIndex.1 ∈ uk_w := uk_wI (List.mem_of_getElem? (i := 339) (by decide +kernel)) rfl
theorem uk_JKpre : Cond.code mJ3_checkIndex.1 mJ3_checkIndex.2.1 mJ3_checkIndex.2.2.1 mJ3_checkIndex.2.2.2 ∈ uk_w := uk_wI (List.mem_of_getElem? (i := 340) (by decide +kernel)) rfl
theorem uk_JTcheck : Cond.static mJ0_checkIndex.1 ∈ uk_w := uk_wI (List.mem_of_getElem? (i := 334) (by decide +kernel)) rfl
theorem uk_JKcheck : Cond.code mJ0_checkIndex.1 mJ0_checkIndex.2.1 mJ0_checkIndex.2.2.1 mJ0_checkIndex.2.2.2 ∈ uk_w := uk_wI (List.mem_of_getElem? (i := 335) (by decide +kernel)) rfl
theorem uk_JTchar1 : Cond.static mJ1_charAt.1 ∈ uk_w := uk_wI (List.mem_of_getElem? (i := 331) (by decide +kernel)) rfl
theorem uk_JKchar1 : Cond.code mJ1_charAt.1 mJ1_charAt.2.1 mJ1_charAt.2.2.1 mJ1_charAt.2.2.2 ∈ uk_w := uk_wI (List.mem_of_getElem? (i := 332) (by decide +kernel)) rfl
section UKS
variable {G : uk_D} {X : uk_Cx} {M : uk_M} {d : Nat} {Q : Option Value → uk_Mem → Prop} {pc : Nat} {lv : List (Nat × Value)} {st stk : List Value} {u : uk_Mem}
theorem g_ldcS {j ix : Nat} (hj : j < 6) (hx : uk_sIx.getD j 0 = ix) (hM : M.1.cls = "UncookMill$TextReader") (hd : decode M.2.1 pc = .ok (.ldc ix, 2)) (K : uk_G G X M d Q (pc + 2) lv (.ref (uk_ad G (100 + j)) :: st) u) : uk_G G X M d Q pc lv st u := fun hO ls H locs hl hP hS => by
  have hz := hO.2.2.2.2.2.2.1.2.2.2.2 j hj
  rw [hx] at hz
  exact va_ldcS hO.1 hO.2.1 (by rw [← hM]; exact hO.2.2.2.1) hz hd (K hO ls H locs hl hP hS)
theorem g_strval {j : Nat} (hj : j < 6) (hM : M.1.cls = RJ0) (hd : decode M.2.1 pc = .ok (.getfield 9, 3)) (K : uk_G G X M d Q (pc + 3) lv (.ref (uk_ad G (200 + j)) :: st) u) : uk_G G X M d Q pc lv (.ref (uk_ad G (100 + j)) :: st) u := fun hO ls H locs hl hP hS =>
  vk_getf hO.1 hO.2.1 (hO.2.2.2.2.2.2.1.2.1.1 j hj).2.2.1 hS hO.2.2.2.1 (by rw [hM]; exact hO.2.2.2.2.1 _ uk_JV) (fun _ h => h) hd (K hO ls H locs hl hP hS)
theorem g_strcoder {j : Nat} (hj : j < 6) (hM : M.1.cls = RJ0) (hd : decode M.2.1 pc = .ok (.getfield 15, 3)) (K : uk_G G X M d Q (pc + 3) lv (.int 0 :: st) u) : uk_G G X M d Q pc lv (.ref (uk_ad G (100 + j)) :: st) u := fun hO ls H locs hl hP hS =>
  vk_getf hO.1 hO.2.1 (hO.2.2.2.2.2.2.1.2.1.1 j hj).2.1 hS hO.2.2.2.1 (by rw [hM]; exact hO.2.2.2.2.1 _ uk_JC) (fun _ h => h) hd (K hO ls H locs hl hP hS)
theorem g_compact (hM : M.1.cls = RJ0) (hd : decode M.2.1 pc = .ok (.getstatic 38, 3)) (K : uk_G G X M d Q (pc + 3) lv (.int 1 :: st) u) : uk_G G X M d Q pc lv st u := fun hO ls H locs hl hP hS =>
  va_gets hO.1 hO.2.1 hO.2.2.2.2.2.2.1.2.2.1 hS hO.2.2.2.1 (by rw [hM]; exact hO.2.2.2.2.1 _ uk_JS) (fun _ h => h) hd (K hO ls H locs hl hP hS)
theorem g_sioobe (hM : M.1.cls = RJ0) (hd : decode M.2.1 pc = .ok (.getstatic 1053, 3)) (K : ∀ v : Value, (v = .null ∨ ∃ t, v = .ref t) → uk_G G X M d Q (pc + 3) lv (v :: st) u) : uk_G G X M d Q pc lv st u := fun hO ls H locs hl hP hS => by
  rcases hO.2.2.2.2.2.2.1.2.2.2.1 with hz | ⟨t, hz⟩
  · exact va_gets hO.1 hO.2.1 hz hS hO.2.2.2.1 (by rw [hM]; exact hO.2.2.2.2.1 _ uk_JF) (fun _ h => h) hd (K _ (Or.inl rfl) hO ls H locs hl hP hS)
  · exact va_gets hO.1 hO.2.1 hz hS hO.2.2.2.1 (by rw [hM]; exact hO.2.2.2.2.1 _ uk_JF) (fun _ h => h) hd (K _ (Or.inr ⟨t, rfl⟩) hO ls H locs hl hP hS)
theorem g_tlen {j : Nat} {v : Int32} (hj : j < 6) (hv : Int32.ofNat (uk_sLen.getD j 0) = v) (hd : decode M.2.1 pc = .ok (.arraylength, 1)) (K : uk_G G X M d Q (pc + 1) lv (.int v :: st) u) : uk_G G X M d Q pc lv (.ref (uk_ad G (200 + j)) :: st) u := fun hO ls H locs hl hP hS =>
  va_tlen hO.1 hO.2.1 (hO.2.2.2.2.2.2.1.2.1.1 j hj).2.2.2 hS hv hd (K hO ls H locs hl hP hS)
theorem g_tb {j : Nat} {i : Int32} (hj : j < 6) (hi : vp_in i (uk_sLen.getD j 0)) (hd : decode M.2.1 pc = .ok (.baload, 1)) (K : uk_G G X M d Q (pc + 1) lv (.int ((uk_sByt.getD j []).getD i.toNatClampNeg 0) :: st) u) : uk_G G X M d Q pc lv (.int i :: .ref (uk_ad G (200 + j)) :: st) u := fun hO ls H locs hl hP hS =>
  va_tb hO.1 hO.2.1 (hO.2.2.2.2.2.2.1.2.1.1 j hj).2.2.2 hS hi rfl hd (K hO ls H locs hl hP hS)
theorem g_i2c {x : Int32} (hd : decode M.2.1 pc = .ok (.i2c, 1)) (k : uk_G G X M d Q (pc + 1) lv (.int (x.toUInt32 % 65536).toInt32 :: st) u) : uk_G G X M d Q pc lv (.int x :: st) u := fun hO ls H locs hl hP hS => lv_i2c hO.1 hO.2.1 hd rfl (k hO ls H locs hl hP hS)
/-- a text's own method -/
theorem g_callT {M' : uk_M} {d' idx j nA : Nat} {As : List Value} {Q' : Option Value → uk_Mem → Prop} (hj : j < 6) (hC : M'.1.cls = RJ0) (hy : M'.1.cls ≠ "java/lang/invoke/MethodHandle" ∧ M'.1.cls ≠ "java/lang/invoke/VarHandle" ∧ (parseMethodDescriptor M'.1.desc).map (fun d => d.parameters.length) = some nA) (hn : M'.2.2.1 ≤ 21)
    (w1 : Cond.methodLink M.1.cls idx M'.1 ∈ uk_w) (w2 : Cond.instanceMethod M'.1 ∈ uk_w) (w3 : Cond.selects RJ0 M'.1 M'.1 ∈ uk_w) (w4 : Cond.initialized RJ0 ∈ uk_w) (w5 : Cond.code M'.1 M'.2.1 M'.2.2.1 M'.2.2.2 ∈ uk_w)
    (hA : As.length = nA) (hm : uk_Meth G d' M' (.ref (uk_ad G (100 + j)) :: As) u Q') (hdd : d' + 1 ≤ d) (hst : stk = As.reverse ++ .ref (uk_ad G (100 + j)) :: st) (hc : (st.map fun v => v.category).sum ≤ 8) (hd : decode M.2.1 pc = .ok (.invokevirtual idx, 3))
    (K : ∀ (r : Option Value) (u' : uk_Mem), Q' r u' → uk_G G X M d Q (pc + 3) lv (r.toList ++ st) u') : uk_G G X M d Q pc lv stk u := fun hO ls H locs hl hP hS => by
  have hw := hO.2.2.2.2.1
  have w4' : Cond.initialized M'.1.cls ∈ uk_w := by rw [hC]; exact w4
  exact uk_after (Q' := Q') hO hl hS (a := (Value.ref (uk_ad G (100 + j)) :: As).toArray) (va_runV (As := As) (rest := st) (Ts := uk_w) (C := RJ0) ⟨hO.1, hO.2.1, hO.2.2.1, hO.2.2.2.1, hw⟩ hm ⟨callB_of nA hw (uk_goodIn w5) rfl rfl rfl (hw _ w4') (hw _ w1) hy (uk_room hO hdd hn), hw _ w2, hw _ w3⟩ ⟨uk_blind, vk_recv (adK := fun i => uk_ad G (100 + i)) (adV := fun i => uk_ad G (200 + i)) (i := j) hO.2.2.2.2.2.2.1.2.1 hj hS, uk_pre hO hP hS⟩ rfl hA hl.1 hst (lv_room hc) hd ⟨hO.2.2.2.2.2.2.2.2.1.2.2.1, hO.2.2.2.2.2.2.2.2.1.2.2.2⟩) K
end UKS
theorem cj_coder {G : uk_D} (hs : uk_Sep G) {u : uk_Mem} {j : Nat} (hj : j < 6) (d : Nat) : uk_Meth G d mJ0_coder [.ref (uk_ad G (100 + j))] u (fun r u' => r = some (.int 0) ∧ u' = u) := by
  refine uk_Meth.of hs (by decide) (Nat.le_of_ble_eq_true rfl) (fun X => ?_)
  refine g_compact rfl dJ0_coder_7d493_0 ?_
  refine g_if_eq (tgt := 13) dJ0_coder_7d493_3 (by decide) (fun c => absurd c (by decide)) (fun c => ?_)
  refine g_aload_n dJ0_coder_7d493_6 rfl ?_
  refine g_strcoder hj rfl dJ0_coder_7d493_7 ?_
  refine g_goto (tgt := 14) dJ0_coder_7d493_10 (by decide) ?_
  exact g_iret (ty := .byte) dJ0_coder_7d493_14 rfl rfl ⟨rfl, rfl⟩
theorem cj_isLatin1 {G : uk_D} (hs : uk_Sep G) {u : uk_Mem} {j : Nat} (hj : j < 6) (d : Nat) : uk_Meth G d mJ0_isLatin1 [.ref (uk_ad G (100 + j))] u (fun r u' => r = some (.int 1) ∧ u' = u) := by
  refine uk_Meth.of hs (by decide) (Nat.le_of_ble_eq_true rfl) (fun X => ?_)
  refine g_compact rfl dJ0_isLatin1_aae02_0 ?_
  refine g_if_eq (tgt := 17) dJ0_isLatin1_aae02_3 (by decide) (fun c => absurd c (by decide)) (fun c => ?_)
  refine g_aload_n dJ0_isLatin1_aae02_6 rfl ?_
  refine g_strcoder hj rfl dJ0_isLatin1_aae02_7 ?_
  refine g_if_ne (tgt := 17) dJ0_isLatin1_aae02_10 (by decide) (fun c => absurd rfl c) (fun c => ?_)
  refine g_iconst (v := 1) dJ0_isLatin1_aae02_13 (by decide) ?_
  refine g_goto (tgt := 18) dJ0_isLatin1_aae02_14 (by decide) ?_
  exact g_iret (ty := .boolean) dJ0_isLatin1_aae02_18 rfl rfl ⟨rfl, rfl⟩
theorem cj_length {G : uk_D} (hs : uk_Sep G) {u : uk_Mem} {j : Nat} (hj : j < 6) (d : Nat) : uk_Meth G (d + 1) mJ0_length [.ref (uk_ad G (100 + j))] u (fun r u' => r = some (.int (Int32.ofNat (uk_sLen.getD j 0))) ∧ u' = u) := by
  refine uk_Meth.of hs (by decide) (Nat.le_of_ble_eq_true rfl) (fun X => ?_)
  refine g_aload_n dJ0_length_8abf5_0 rfl ?_
  refine g_strval hj rfl dJ0_length_8abf5_1 ?_
  refine g_tlen hj rfl dJ0_length_8abf5_4 ?_
  refine g_aload_n dJ0_length_8abf5_5 rfl ?_
  refine g_callT (M' := mJ0_coder) (As := []) (nA := 0) hj rfl ⟨by decide +kernel, by decide +kernel, by decide +kernel⟩ (by decide) uk_JL335 uk_JIcoder uk_JScoder uk_JI0 uk_JKcoder rfl (cj_coder hs hj d) (by omega) rfl (Nat.le_of_ble_eq_true rfl) dJ0_length_8abf5_6 (fun r v q => ?_)
  obtain ⟨rfl, q2⟩ := q
  rw [q2]
  refine g_ishr dJ0_length_8abf5_9 (fun z ez => ?_)
  rw [sb_shr0] at ez
  exact g_iret (ty := .int) dJ0_length_8abf5_10 rfl rfl ⟨by rw [ez], rfl⟩
theorem cj_pre {G : uk_D} (hs : uk_Sep G) {u : uk_Mem} {i n : Int32} {v : Value} (hv : v = .null ∨ ∃ t, v = .ref t) (h0 : 0 ≤ i) (h1 : i < n) (d : Nat) : uk_Meth G d mJ3_checkIndex [.int i, .int n, v] u (fun r u' => r = some (.int i) ∧ u' = u) := by
  have hl : (lg_sl [.int i, .int n, v]).length ≤ 3 := by
    rcases hv with rfl | ⟨t, rfl⟩ <;> exact Nat.le_of_ble_eq_true rfl
  have key : ∀ (lv : List (Nat × Value)), uk_lk lv 0 = some (.int i) → uk_lk lv 1 = some (.int n) → ∀ X : uk_Cx, uk_G G X mJ3_checkIndex d (fun r u' => r = some (.int i) ∧ u' = u) 0 lv [] u := by
    intro lv l0 l1 X
    refine g_iload_n dJ3_checkIndex_8e157_0 l0 ?_
    refine g_if_lt (tgt := 9) dJ3_checkIndex_8e157_1 (by decide) (fun c => absurd h0 (by grind)) (fun c => ?_)
    refine g_iload_n dJ3_checkIndex_8e157_4 l0 ?_
    refine g_iload_n dJ3_checkIndex_8e157_5 l1 ?_
    refine g_icmp_lt (tgt := 16) dJ3_checkIndex_8e157_6 (by decide) (fun c => ?_) (fun c => absurd h1 c)
    refine g_iload_n dJ3_checkIndex_8e157_16 l0 ?_
    exact g_iret (ty := .int) dJ3_checkIndex_8e157_17 rfl rfl ⟨rfl, rfl⟩
  refine uk_Meth.of hs (by decide) hl (fun X => ?_)
  rcases hv with rfl | ⟨t, rfl⟩ <;> exact key _ rfl rfl X
theorem cj_check {G : uk_D} (hs : uk_Sep G) {u : uk_Mem} {i n : Int32} (h0 : 0 ≤ i) (h1 : i < n) (d : Nat) : uk_Meth G (d + 1) mJ0_checkIndex [.int i, .int n] u (fun r u' => r = none ∧ u' = u) := by
  refine uk_Meth.of hs (by decide) (Nat.le_of_ble_eq_true rfl) (fun X => ?_)
  refine g_iload_n dJ0_checkIndex_df160_0 rfl ?_
  refine g_iload_n dJ0_checkIndex_df160_1 rfl ?_
  refine g_sioobe rfl dJ0_checkIndex_df160_2 (fun v hv => ?_)
  refine g_callS (M' := mJ3_checkIndex) (nA := 3) (As := [.int i, .int n, v]) ⟨by decide +kernel, by decide +kernel, by decide +kernel⟩ (by decide) uk_JL1059 uk_JTpre uk_JI3 uk_JKpre rfl (cj_pre hs hv h0 h1 d) (by omega) rfl (Nat.le_of_ble_eq_true rfl) dJ0_checkIndex_df160_5 (fun r w q => ?_)
  obtain ⟨rfl, q2⟩ := q
  rw [q2]
  refine g_pop dJ0_checkIndex_df160_8 rfl ?_
  exact g_vret dJ0_checkIndex_df160_9 rfl ⟨rfl, rfl⟩
theorem uk_slen {j : Nat} (hj : j < 6) : (Int32.ofNat (uk_sLen.getD j 0)).toInt = ((uk_sLen.getD j 0 : Nat) : Int) ∧ (Int32.ofNat (uk_sLen.getD j 0) = 3 ∨ Int32.ofNat (uk_sLen.getD j 0) = 4) := by
  rcases (show j = 0 ∨ j = 1 ∨ j = 2 ∨ j = 3 ∨ j = 4 ∨ j = 5 by omega) with rfl | rfl | rfl | rfl | rfl | rfl <;> exact ⟨rfl, by decide⟩
theorem cj_charAt1 {G : uk_D} (hs : uk_Sep G) {u : uk_Mem} {j : Nat} {i : Int32} (hj : j < 6) (h0 : 0 ≤ i) (h1 : i < Int32.ofNat (uk_sLen.getD j 0)) (d : Nat) : uk_Meth G (d + 2) mJ1_charAt [.ref (uk_ad G (200 + j)), .int i] u (fun r u' => r = some (.int (((((uk_sByt.getD j []).getD i.toNatClampNeg 0) &&& 255).toUInt32 % 65536).toInt32)) ∧ u' = u) := by
  refine uk_Meth.of hs (by decide) (Nat.le_of_ble_eq_true rfl) (fun X => ?_)
  refine g_iload_n dJ1_charAt_3b067_0 rfl ?_
  refine g_aload_n dJ1_charAt_3b067_1 rfl ?_
  refine g_tlen hj rfl dJ1_charAt_3b067_2 ?_
  refine g_callS (M' := mJ0_checkIndex) (nA := 2) (As := [.int i, .int (Int32.ofNat (uk_sLen.getD j 0))]) ⟨by decide +kernel, by decide +kernel, by decide +kernel⟩ (by decide) uk_JL9 uk_JTcheck uk_JI0 uk_JKcheck rfl (cj_check hs h0 h1 d) (by omega) rfl (Nat.le_of_ble_eq_true rfl) dJ1_charAt_3b067_3 (fun r w q => ?_)
  obtain ⟨rfl, q2⟩ := q
  rw [q2]
  refine g_aload_n dJ1_charAt_3b067_6 rfl ?_
  refine g_iload_n dJ1_charAt_3b067_7 rfl ?_
  refine g_tb hj (uk_vin _ (uk_slen hj).1 h0 h1) dJ1_charAt_3b067_8 ?_
  refine g_sipush (v := 255) dJ1_charAt_3b067_9 (by decide) ?_
  refine g_iand dJ1_charAt_3b067_12 ?_
  refine g_i2c dJ1_charAt_3b067_13 ?_
  exact g_iret (ty := .char) dJ1_charAt_3b067_14 rfl (pk_nc _) ⟨rfl, rfl⟩
theorem cj_charAt {G : uk_D} (hs : uk_Sep G) {u : uk_Mem} {j : Nat} {i : Int32} (hj : j < 6) (h0 : 0 ≤ i) (h1 : i < Int32.ofNat (uk_sLen.getD j 0)) (d : Nat) : uk_Meth G (d + 3) mJ0_charAt [.ref (uk_ad G (100 + j)), .int i] u (fun r u' => r = some (.int (((((uk_sByt.getD j []).getD i.toNatClampNeg 0) &&& 255).toUInt32 % 65536).toInt32)) ∧ u' = u) := by
  refine uk_Meth.of hs (by decide) (Nat.le_of_ble_eq_true rfl) (fun X => ?_)
  refine g_aload_n dJ0_charAt_5068e_0 rfl ?_
  refine g_callT (M' := mJ0_isLatin1) (As := []) (nA := 0) hj rfl ⟨by decide +kernel, by decide +kernel, by decide +kernel⟩ (by decide) uk_JL492 uk_JIlatin uk_JSlatin uk_JI0 uk_JKlatin rfl (cj_isLatin1 hs hj (d + 2)) (by omega) rfl (Nat.le_of_ble_eq_true rfl) dJ0_charAt_5068e_1 (fun r v q => ?_)
  obtain ⟨rfl, q2⟩ := q
  rw [q2]
  refine g_if_eq (tgt := 16) dJ0_charAt_5068e_4 (by decide) (fun c => absurd c (by decide)) (fun c => ?_)
  refine g_aload_n dJ0_charAt_5068e_7 rfl ?_
  refine g_strval hj rfl dJ0_charAt_5068e_8 ?_
  refine g_iload_n dJ0_charAt_5068e_11 rfl ?_
  refine g_callS (M' := mJ1_charAt) (nA := 2) (As := [.ref (uk_ad G (200 + j)), .int i]) ⟨by decide +kernel, by decide +kernel, by decide +kernel⟩ (by decide) uk_JL495 uk_JTchar1 uk_JI1 uk_JKchar1 rfl (cj_charAt1 hs hj h0 h1 d) (by omega) rfl (Nat.le_of_ble_eq_true rfl) dJ0_charAt_5068e_12 (fun r v q => ?_)
  obtain ⟨rfl, q3⟩ := q
  rw [q3]
  exact g_iret (ty := .char) dJ0_charAt_5068e_15 rfl (pk_nc _) ⟨rfl, rfl⟩
section UKT
variable {G : uk_D} {X : uk_Cx} {M : uk_M} {d : Nat} {Q : Option Value → uk_Mem → Prop} {pc : Nat} {lv : List (Nat × Value)} {st : List Value} {u : uk_Mem}
theorem g_slen {j : Nat} (hs : uk_Sep G) (hj : j < 6) (hM : M.1.cls = RX4) (hdd : 2 ≤ d) (hc : (st.map fun v => v.category).sum ≤ 8) (hd : decode M.2.1 pc = .ok (.invokevirtual 35, 3)) (K : uk_G G X M d Q (pc + 3) lv (.int (Int32.ofNat (uk_sLen.getD j 0)) :: st) u) : uk_G G X M d Q pc lv (.ref (uk_ad G (100 + j)) :: st) u :=
  g_callT (M' := mJ0_length) (As := []) (nA := 0) hj rfl ⟨by decide +kernel, by decide +kernel, by decide +kernel⟩ (by decide) (by rw [hM]; exact uk_JL35) uk_JIlen uk_JSlen uk_JI0 uk_JKlen rfl (cj_length hs hj 0) (by omega) rfl hc hd (fun r v q => by
    obtain ⟨rfl, q2⟩ := q
    rw [q2]
    exact K)
theorem g_schar {j : Nat} {i : Int32} (hs : uk_Sep G) (hj : j < 6) (h0 : 0 ≤ i) (h1 : i < Int32.ofNat (uk_sLen.getD j 0)) (hM : M.1.cls = RX4) (hdd : 4 ≤ d) (hc : (st.map fun v => v.category).sum ≤ 8) (hd : decode M.2.1 pc = .ok (.invokevirtual 41, 3)) (K : uk_G G X M d Q (pc + 3) lv (.int (((((uk_sByt.getD j []).getD i.toNatClampNeg 0) &&& 255).toUInt32 % 65536).toInt32) :: st) u) : uk_G G X M d Q pc lv (.int i :: .ref (uk_ad G (100 + j)) :: st) u :=
  g_callT (M' := mJ0_charAt) (As := [.int i]) (nA := 1) hj rfl ⟨by decide +kernel, by decide +kernel, by decide +kernel⟩ (by decide) (by rw [hM]; exact uk_JL41) uk_JIchar uk_JSchar uk_JI0 uk_JKchar rfl (cj_charAt hs hj h0 h1 0) (by omega) rfl hc hd (fun r v q => by
    obtain ⟨rfl, q2⟩ := q
    rw [q2]
    exact K)
end UKT
