/-! the judgement: from here the method comes to its end, with Q of its answer and of the memory then -/
def uk_ret (rt : Option FieldType) (i : Instr) (st : List Value) (r : Option Value) : Prop :=
  (i = .ireturn ∧ ∃ (v : Int32) (ty : FieldType), st = [.int v] ∧ r = some (.int v) ∧ rt = some ty ∧ narrow ty (.int v) = .int v) ∨
  (i = .return_ ∧ st = [] ∧ r = none ∧ rt = none) ∨
  (i = .lreturn ∧ ∃ v : Int64, st = [.long v] ∧ r = some (.long v) ∧ rt = some .long) ∨
  (i = .areturn ∧ ∃ (a : Nat) (n : String), st = [.ref a] ∧ r = some (.ref a) ∧ rt = some (.object n))
/-! the text reader's words, and what the JDK's own text methods read -/
def uk_sIx : List Nat := [74, 80, 82, 84, 86, 88]
def uk_sTx : List String := ["raw", "mix", "boil", "burn", "salt", "have"]
def uk_sLen : List Nat := [3, 3, 4, 4, 4, 4]
def uk_sByt : List (List Int32) := [[114, 97, 119], [109, 105, 120], [98, 111, 105, 108], [98, 117, 114, 110], [115, 97, 108, 116], [104, 97, 118, 101]]
def uk_E (G : uk_D) (U : State) : Prop := vk_S 6 uk_sLen uk_sByt (fun i => uk_ad G (100 + i)) (fun i => uk_ad G (200 + i)) G.2.2.2.2 U U.heap ∧ va_Z "java/lang/String" "COMPACT_STRINGS" "Z" (.int 1) G.2.2.2.2 U U.heap ∧ va_Zq "jdk/internal/util/Preconditions" "SIOOBE_FORMATTER" "Ljava/util/function/BiFunction;" G.2.2.2.2 U U.heap ∧ ∀ i, i < 6 → vk_R "UncookMill$TextReader" (uk_sIx.getD i 0) (uk_sTx.getD i "") (uk_ad G (100 + i)) U
theorem uk_E.go {G : uk_D} {s U : State} (h : uk_E G s) (hk : ∀ q : Nat, q < s.heap.size → ¬ G.2.2.2.2 q → U.heap[q]? = s.heap[q]?) (hW : s.WarmedH U.vm) : uk_E G U :=
  ⟨vk_S.moved hW.alike (vk_S.kept h.1 hk), va_Z.moved hW.alike (va_Z.kept h.2.1 hk), va_Zq.moved hW.alike (va_Zq.kept h.2.2.1 hk), fun i hi => vk_R.warm hW (h.2.2.2 i hi)⟩
theorem uk_E.same {G : uk_D} {s U : State} (h : uk_E G s) (hh : U.heap = s.heap) (hv : U.vm = s.vm) : uk_E G U := by
  have ha : s.vm.Alike U.vm := by rw [hv]; exact Vm.Alike.refl s.vm
  have hk : ∀ q : Nat, q < s.heap.size → ¬ G.2.2.2.2 q → U.heap[q]? = s.heap[q]? := fun q _ _ => by rw [hh]
  exact ⟨vk_S.moved ha (vk_S.kept h.1 hk), va_Z.moved ha (va_Z.kept h.2.1 hk), va_Zq.moved ha (va_Zq.kept h.2.2.1 hk), fun i hi => vk_R.same hv (h.2.2.2 i hi)⟩
/-- what holds of a state that has the memory u: cells, classes, nest links -/
def uk_B (G : uk_D) (u : uk_Mem) (U : State) : Prop := va_P G.2.1 vwCl (uk_ws G u) U.heap ∧ va_K G.2.1 vwCl (uk_tys G) U ∧ (∀ w ∈ uk_nest, va_Nw w U) ∧ uk_E G U
def uk_Q (G : uk_D) (Q : Option Value → uk_Mem → Prop) : Array Value → State → Outcome → State → Prop := fun _ st oc t => (∃ (r : Option Value) (u : uk_Mem), oc = .returned r ∧ Q r u ∧ uk_B G u t) ∧ va_F G.2.2.2.2 st t
def uk_rm (d : Nat) : Room := { frames := d, cells := 0, slots := 0, locals := 40 * d }
def uk_Meth (G : uk_D) (d : Nat) (M : uk_M) (As : List Value) (u : uk_Mem) (Q : Option Value → uk_Mem → Prop) : Prop :=
  Met G.1 M.1 (.code M.1 M.2.1 M.2.2.1 M.2.2.2 :: uk_w) (uk_rm d) (va_Pc As (uk_B G u)) (uk_Q G Q) 0 0 G.2.2.2.2
/-- the cells are apart, and the system's own -/
def uk_Sep (G : uk_D) : Prop := (∀ i j, i < 78 → j < 78 → uk_ad G i = uk_ad G j → i = j) ∧ ∀ i, i < 78 → G.2.2.2.2 (uk_ad G i)
theorem uk_sepD {G : uk_D} (h : uk_Sep G) (u : uk_Mem) : va_D G.2.2.2.2 (uk_ws G u) := by
  have hlt : ∀ (k : Nat) (q : Nat × va_E), (uk_ws G u)[k]? = some q → k < 78 ∧ q = (uk_ad G k, uk_ent G u k) := by
    intro k q hq
    have hk : k < 78 := by
      have := (List.getElem?_eq_some_iff.mp hq).1
      simpa [uk_ws] using this
    rw [uk_ws_at hk] at hq
    exact ⟨hk, (Option.some.inj hq).symm⟩
  refine ⟨fun i j a b ha hb hab => ?_, fun k q hq => ?_⟩
  · obtain ⟨h1, rfl⟩ := hlt i a ha
    obtain ⟨h2, rfl⟩ := hlt j b hb
    exact h.1 i j h1 h2 hab
  · obtain ⟨h1, rfl⟩ := hlt k q hq
    exact h.2 k h1
def uk_Ret (G : uk_D) (X : uk_Cx) (M : uk_M) (Q : Option Value → uk_Mem → Prop) : Prop :=
  ∀ (i : Instr) (pc : Nat) (ls : Array Slot) (st : List Value) (H : Heap) (locs : List Loc) (u : uk_Mem) (r : Option Value), uk_ret M.2.2.2 i st r → decode M.2.1 pc = .ok (i, 1) → Q r u → va_P G.2.1 vwCl (uk_ws G u) H → va_S G.2.2.2.2 X.2.2.2.1.heap H locs →
    W X.1 G.1 X.2.1 X.2.2.1 X.2.2.2.1 X.2.2.2.2.1 X.2.2.2.2.2.1 X.2.2.2.2.2.2.1 X.2.2.2.2.2.2.2.1 X.2.2.2.2.2.2.2.2.1 H locs X.2.2.2.2.2.2.2.2.2.1 X.2.2.2.2.2.2.2.2.2.2.1 X.2.2.2.2.2.2.2.2.2.2.2 (F0 X.2.2.2.2.1 pc ls st)
def uk_Ok (G : uk_D) (X : uk_Cx) (M : uk_M) (d : Nat) (Q : Option Value → uk_Mem → Prop) : Prop :=
  X.1.tables.exec = Jvm.exec ∧ X.2.2.2.2.2.2.2.2.1.code = M.2.1 ∧ X.2.2.2.2.2.2.2.2.1.maxLocals = M.2.2.1 ∧ X.2.2.2.1.vm.findClass M.1.cls = some X.2.2.2.2.1.cls ∧ (∀ w ∈ uk_w, w.before X.2.2.2.2.2.1 X.2.2.2.1 = true) ∧
  va_K G.2.1 vwCl (uk_tys G) X.2.2.2.1 ∧ ((∀ w ∈ uk_nest, va_Nw w X.2.2.2.1) ∧ uk_E G X.2.2.2.1) ∧ uk_Sep G ∧ (d ≤ X.2.2.1.frames ∧ 40 * d ≤ X.2.2.1.locals ∧ X.2.2.2.2.2.2.2.2.2.1 ≤ X.2.2.1.cells ∧ X.2.2.2.2.2.2.2.2.2.2.1 ≤ X.2.2.1.slots) ∧ uk_Ret G X M Q
def uk_G (G : uk_D) (X : uk_Cx) (M : uk_M) (d : Nat) (Q : Option Value → uk_Mem → Prop) (pc : Nat) (lv : List (Nat × Value)) (st : List Value) (u : uk_Mem) : Prop :=
  uk_Ok G X M d Q → ∀ (ls : Array Slot) (H : Heap) (locs : List Loc), lv_has ls M.2.2.1 lv → va_P G.2.1 vwCl (uk_ws G u) H → va_S G.2.2.2.2 X.2.2.2.1.heap H locs →
    W X.1 G.1 X.2.1 X.2.2.1 X.2.2.2.1 X.2.2.2.2.1 X.2.2.2.2.2.1 X.2.2.2.2.2.2.1 X.2.2.2.2.2.2.2.1 X.2.2.2.2.2.2.2.2.1 H locs X.2.2.2.2.2.2.2.2.2.1 X.2.2.2.2.2.2.2.2.2.2.1 X.2.2.2.2.2.2.2.2.2.2.2 (F0 X.2.2.2.2.1 pc ls st)
/-! locals by their numbers -/
def uk_lk : List (Nat × Value) → Nat → Option Value
  | [], _ => none
  | (j, v) :: r, i => match Nat.beq j i with
    | true => some v
    | false => uk_lk r i
theorem uk_lk_mem : ∀ {l : List (Nat × Value)} {i : Nat} {v : Value}, uk_lk l i = some v → (i, v) ∈ l
  | [], i, v, h => by simp [uk_lk] at h
  | (j, w) :: r, i, v, h => by
    unfold uk_lk at h
    cases hb : Nat.beq j i with
    | true =>
      rw [hb] at h
      have hj : j = i := Nat.eq_of_beq_eq_true hb
      simp only [Option.some.injEq] at h
      subst hj
      subst h
      exact List.mem_cons_self
    | false =>
      rw [hb] at h
      exact List.mem_cons_of_mem _ (uk_lk_mem h)
theorem uk_lv {ls : Array Slot} {n : Nat} {l : List (Nat × Value)} {i : Nat} {v : Value} (h : lv_has ls n l) (hk : uk_lk l i = some v) : ls[i]? = some (.val v) := h.2.2 (i, v) (uk_lk_mem hk)
/-- v goes to local i, in the order of the numbers; what it covers is gone -/
def uk_ins (i : Nat) (v : Value) : List (Nat × Value) → List (Nat × Value)
  | [] => [(i, v)]
  | (j, w) :: r => match Nat.blt j i with
    | true => (j, w) :: uk_ins i v r
    | false => (i, v) :: (j, w) :: r
def uk_flt (i : Nat) (two : Bool) : List (Nat × Value) → List (Nat × Value)
  | [] => []
  | (j, w) :: r => match Nat.beq j i, two && Nat.beq j (i + 1), Nat.beq (j + 1) i && Nat.beq w.category 2 with
    | false, false, false => (j, w) :: uk_flt i two r
    | _, _, _ => uk_flt i two r
def uk_set (l : List (Nat × Value)) (i : Nat) (v : Value) : List (Nat × Value) := uk_ins i v (uk_flt i (Nat.beq v.category 2) l)
theorem uk_ins_mem {i : Nat} {v : Value} {q : Nat × Value} : ∀ {l : List (Nat × Value)}, q ∈ uk_ins i v l → q = (i, v) ∨ q ∈ l
  | [], h => by
    simp [uk_ins] at h
    exact Or.inl h
  | (j, w) :: r, h => by
    unfold uk_ins at h
    cases hb : Nat.blt j i with
    | true =>
      rw [hb] at h
      rcases List.mem_cons.mp h with h | h
      · exact Or.inr (by rw [h]; exact List.mem_cons_self)
      · rcases uk_ins_mem h with h | h
        · exact Or.inl h
        · exact Or.inr (List.mem_cons_of_mem _ h)
    | false =>
      rw [hb] at h
      rcases List.mem_cons.mp h with h | h
      · exact Or.inl h
      · exact Or.inr h
theorem uk_flt_mem {i : Nat} {two : Bool} {q : Nat × Value} : ∀ {l : List (Nat × Value)}, q ∈ uk_flt i two l → q ∈ l ∧ ¬ q.1 = i ∧ (two = true → ¬ q.1 = i + 1) ∧ ¬ (q.1 + 1 = i ∧ q.2.category = 2)
  | [], h => by simp [uk_flt] at h
  | (j, w) :: r, h => by
    unfold uk_flt at h
    have key : ∀ {a b c : Bool}, Nat.beq j i = a → (two && Nat.beq j (i + 1)) = b → (Nat.beq (j + 1) i && Nat.beq w.category 2) = c → (a = false ∧ b = false ∧ c = false) → ¬ j = i ∧ (two = true → ¬ j = i + 1) ∧ ¬ (j + 1 = i ∧ w.category = 2) := by
      intro a b c h1 h2 h3 ⟨ha, hb, hc⟩
      subst ha hb hc
      refine ⟨fun e => ?_, fun ht e => ?_, fun e => ?_⟩
      · rw [e, Nat.beq_refl] at h1
        cases h1
      · rw [ht, e, Nat.beq_refl] at h2
        cases h2
      · rw [e.1, e.2, Nat.beq_refl] at h3
        cases h3
    split at h
    · rename_i h1 h2 h3
      rcases List.mem_cons.mp h with h | h
      · subst h
        exact ⟨List.mem_cons_self, key h1 h2 h3 ⟨rfl, rfl, rfl⟩⟩
      · obtain ⟨a, b⟩ := uk_flt_mem h
        exact ⟨List.mem_cons_of_mem _ a, b⟩
    · obtain ⟨a, b⟩ := uk_flt_mem h
      exact ⟨List.mem_cons_of_mem _ a, b⟩
theorem uk_has1 {ls : Array Slot} {n i : Nat} {l : List (Nat × Value)} {v : Value} (hc : v.category = 1) (h : lv_has ls n ((i, v) :: l.filter (fun q => !(q.1 == i) && !(q.1 + 1 == i && q.2.category == 2)))) : lv_has ls n (uk_set l i v) := by
  refine ⟨h.1, h.2.1, fun q hq => h.2.2 q ?_⟩
  rcases uk_ins_mem hq with hq | hq
  · rw [hq]
    exact List.mem_cons_self
  · obtain ⟨h1, h2, h3, h4⟩ := uk_flt_mem hq
    refine List.mem_cons_of_mem _ (List.mem_filter.mpr ⟨h1, ?_⟩)
    simp only [Bool.and_eq_true, Bool.not_eq_true', beq_eq_false_iff_ne, Bool.and_eq_false_iff, ne_eq]
    exact ⟨h2, (Classical.em (q.1 + 1 = i)).elim (fun a => Or.inr fun b => h4 ⟨a, b⟩) Or.inl⟩
theorem uk_has2 {ls : Array Slot} {n i : Nat} {l : List (Nat × Value)} {v : Value} (hc : v.category = 2) (h : lv_has ls n ((i, v) :: l.filter (fun q => !(q.1 == i) && (!(q.1 == i + 1) && !(q.1 + 1 == i && q.2.category == 2))))) : lv_has ls n (uk_set l i v) := by
  refine ⟨h.1, h.2.1, fun q hq => h.2.2 q ?_⟩
  rcases uk_ins_mem hq with hq | hq
  · rw [hq]
    exact List.mem_cons_self
  · obtain ⟨h1, h2, h3, h4⟩ := uk_flt_mem hq
    refine List.mem_cons_of_mem _ (List.mem_filter.mpr ⟨h1, ?_⟩)
    simp only [Bool.and_eq_true, Bool.not_eq_true', beq_eq_false_iff_ne, Bool.and_eq_false_iff, ne_eq]
    exact ⟨h2, h3 (by rw [hc]; rfl), (Classical.em (q.1 + 1 = i)).elim (fun a => Or.inr fun b => h4 ⟨a, b⟩) Or.inl⟩
section UKR
variable {G : uk_D} {X : uk_Cx} {M : uk_M} {d : Nat} {Q : Option Value → uk_Mem → Prop} {pc : Nat} {lv : List (Nat × Value)} {st : List Value} {u : uk_Mem}
theorem g_iconst {n : Int} {v : Int32} (hd : decode M.2.1 pc = .ok (.iconst n, 1)) (hv : Int32.ofInt n = v) (k : uk_G G X M d Q (pc + 1) lv (.int v :: st) u) : uk_G G X M d Q pc lv st u := fun hO ls H locs hl hP hS => lv_iconst hO.1 hO.2.1 hd hv (k hO ls H locs hl hP hS)
theorem g_bipush {n : Int} {v : Int32} (hd : decode M.2.1 pc = .ok (.bipush n, 2)) (hv : (Int8.ofInt n).toInt32 = v) (k : uk_G G X M d Q (pc + 2) lv (.int v :: st) u) : uk_G G X M d Q pc lv st u := fun hO ls H locs hl hP hS => lv_bipush hO.1 hO.2.1 hd hv (k hO ls H locs hl hP hS)
theorem g_sipush {n : Int} {v : Int32} (hd : decode M.2.1 pc = .ok (.sipush n, 3)) (hv : (Int16.ofInt n).toInt32 = v) (k : uk_G G X M d Q (pc + 3) lv (.int v :: st) u) : uk_G G X M d Q pc lv st u := fun hO ls H locs hl hP hS => lv_sipush hO.1 hO.2.1 hd hv (k hO ls H locs hl hP hS)
theorem g_lconst {n : Fin 2} {v : Int64} (hd : decode M.2.1 pc = .ok (.lconst n, 1)) (hv : Int64.ofNat (n : Nat) = v) (k : uk_G G X M d Q (pc + 1) lv (.long v :: st) u) : uk_G G X M d Q pc lv st u := fun hO ls H locs hl hP hS => lv_lconst hO.1 hO.2.1 hd hv (k hO ls H locs hl hP hS)
theorem g_ldc {index : Nat} {v : Int32} (hw : Cond.constant M.1.cls index v ∈ uk_w) (hd : decode M.2.1 pc = .ok (.ldc index, 2)) (k : uk_G G X M d Q (pc + 2) lv (.int v :: st) u) : uk_G G X M d Q pc lv st u := fun hO ls H locs hl hP hS => lv_ldc hO.1 hO.2.1 hO.2.2.2.1 (hO.2.2.2.2.1 _ hw) hd (k hO ls H locs hl hP hS)
theorem g_ldcw {index : Nat} {v : Int32} (hw : Cond.constant M.1.cls index v ∈ uk_w) (hd : decode M.2.1 pc = .ok (.ldc_w index, 3)) (k : uk_G G X M d Q (pc + 3) lv (.int v :: st) u) : uk_G G X M d Q pc lv st u := fun hO ls H locs hl hP hS => lv_ldcw hO.1 hO.2.1 hO.2.2.2.1 (hO.2.2.2.2.1 _ hw) hd (k hO ls H locs hl hP hS)
theorem g_ldc2 {index : Nat} {v : Int64} (hw : Cond.constantLong M.1.cls index v ∈ uk_w) (hd : decode M.2.1 pc = .ok (.ldc2_w index, 3)) (k : uk_G G X M d Q (pc + 3) lv (.long v :: st) u) : uk_G G X M d Q pc lv st u := fun hO ls H locs hl hP hS => lv_ldc2 hO.1 hO.2.1 hO.2.2.2.1 (hO.2.2.2.2.1 _ hw) hd (k hO ls H locs hl hP hS)
theorem g_iload_n {j : Fin 4} {x : Int32} (hd : decode M.2.1 pc = .ok (.iload_n j, 1)) (hv : uk_lk lv (j : Nat) = some (.int x)) (k : uk_G G X M d Q (pc + 1) lv (.int x :: st) u) : uk_G G X M d Q pc lv st u := fun hO ls H locs hl hP hS => lv_iload_n hO.1 hO.2.1 hd rfl (uk_lv hl hv) (k hO ls H locs hl hP hS)
theorem g_iload {j : Nat} {x : Int32} (hd : decode M.2.1 pc = .ok (.iload j, 2)) (hv : uk_lk lv j = some (.int x)) (k : uk_G G X M d Q (pc + 2) lv (.int x :: st) u) : uk_G G X M d Q pc lv st u := fun hO ls H locs hl hP hS => lv_iload hO.1 hO.2.1 hd (uk_lv hl hv) (k hO ls H locs hl hP hS)
theorem g_lload_n {j : Fin 4} {x : Int64} (hd : decode M.2.1 pc = .ok (.lload_n j, 1)) (hv : uk_lk lv (j : Nat) = some (.long x)) (k : uk_G G X M d Q (pc + 1) lv (.long x :: st) u) : uk_G G X M d Q pc lv st u := fun hO ls H locs hl hP hS => lv_lload_n hO.1 hO.2.1 hd rfl (uk_lv hl hv) (k hO ls H locs hl hP hS)
theorem g_lload {j : Nat} {x : Int64} (hd : decode M.2.1 pc = .ok (.lload j, 2)) (hv : uk_lk lv j = some (.long x)) (k : uk_G G X M d Q (pc + 2) lv (.long x :: st) u) : uk_G G X M d Q pc lv st u := fun hO ls H locs hl hP hS => lv_lload hO.1 hO.2.1 hd (uk_lv hl hv) (k hO ls H locs hl hP hS)
theorem g_aload_n {j : Fin 4} {x : Nat} (hd : decode M.2.1 pc = .ok (.aload_n j, 1)) (hv : uk_lk lv (j : Nat) = some (.ref x)) (k : uk_G G X M d Q (pc + 1) lv (.ref x :: st) u) : uk_G G X M d Q pc lv st u := fun hO ls H locs hl hP hS => lv_aload_n hO.1 hO.2.1 hd rfl (uk_lv hl hv) (k hO ls H locs hl hP hS)
theorem g_istore_n {j : Fin 4} {x : Int32} (hd : decode M.2.1 pc = .ok (.istore_n j, 1)) (hn : (j : Nat) < M.2.2.1) (k : uk_G G X M d Q (pc + 1) (uk_set lv (j : Nat) (.int x)) st u) : uk_G G X M d Q pc lv (.int x :: st) u := fun hO ls H locs hl hP hS => lv_istore_n hO.1 hO.2.1 hd rfl hl hn rfl (fun ls' hl' => k hO ls' H locs (uk_has1 rfl hl') hP hS)
theorem g_istore {j : Nat} {x : Int32} (hd : decode M.2.1 pc = .ok (.istore j, 2)) (hn : j < M.2.2.1) (k : uk_G G X M d Q (pc + 2) (uk_set lv j (.int x)) st u) : uk_G G X M d Q pc lv (.int x :: st) u := fun hO ls H locs hl hP hS => lv_istore hO.1 hO.2.1 hd hl hn rfl (fun ls' hl' => k hO ls' H locs (uk_has1 rfl hl') hP hS)
theorem g_lstore {j : Nat} {x : Int64} (hd : decode M.2.1 pc = .ok (.lstore j, 2)) (hn : j + 1 < M.2.2.1) (k : uk_G G X M d Q (pc + 2) (uk_set lv j (.long x)) st u) : uk_G G X M d Q pc lv (.long x :: st) u := fun hO ls H locs hl hP hS => lv_lstore hO.1 hO.2.1 hd hl hn rfl (fun ls' hl' => k hO ls' H locs (uk_has2 rfl hl') hP hS)
theorem g_iinc {j : Nat} {n : Int} {x v : Int32} (hd : decode M.2.1 pc = .ok (.iinc j n, 3)) (hv : uk_lk lv j = some (.int x)) (he : x + Int32.ofInt n = v) (hn : j < M.2.2.1) (k : uk_G G X M d Q (pc + 3) (uk_set lv j (.int v)) st u) : uk_G G X M d Q pc lv st u := fun hO ls H locs hl hP hS => by
  obtain ⟨q, hq⟩ := List.getElem?_of_mem (uk_lk_mem hv)
  exact lv_iinc hO.1 hO.2.1 hd hl hq he hn rfl (fun ls' hl' => k hO ls' H locs (uk_has1 rfl hl') hP hS)
theorem g_iadd {x y : Int32} (hd : decode M.2.1 pc = .ok (.iadd, 1)) (k : uk_G G X M d Q (pc + 1) lv (.int (x + y) :: st) u) : uk_G G X M d Q pc lv (.int y :: .int x :: st) u := fun hO ls H locs hl hP hS => lv_iadd hO.1 hO.2.1 hd (k hO ls H locs hl hP hS)
theorem g_isub {x y : Int32} (hd : decode M.2.1 pc = .ok (.isub, 1)) (k : uk_G G X M d Q (pc + 1) lv (.int (x - y) :: st) u) : uk_G G X M d Q pc lv (.int y :: .int x :: st) u := fun hO ls H locs hl hP hS => lv_isub hO.1 hO.2.1 hd (k hO ls H locs hl hP hS)
theorem g_imul {x y : Int32} (hd : decode M.2.1 pc = .ok (.imul, 1)) (k : uk_G G X M d Q (pc + 1) lv (.int (x * y) :: st) u) : uk_G G X M d Q pc lv (.int y :: .int x :: st) u := fun hO ls H locs hl hP hS => lv_imul hO.1 hO.2.1 hd (k hO ls H locs hl hP hS)
theorem g_iand {x y : Int32} (hd : decode M.2.1 pc = .ok (.iand, 1)) (k : uk_G G X M d Q (pc + 1) lv (.int (x &&& y) :: st) u) : uk_G G X M d Q pc lv (.int y :: .int x :: st) u := fun hO ls H locs hl hP hS => lv_iand hO.1 hO.2.1 hd (k hO ls H locs hl hP hS)
theorem g_ior {x y : Int32} (hd : decode M.2.1 pc = .ok (.ior, 1)) (k : uk_G G X M d Q (pc + 1) lv (.int (x ||| y) :: st) u) : uk_G G X M d Q pc lv (.int y :: .int x :: st) u := fun hO ls H locs hl hP hS => lv_ior hO.1 hO.2.1 hd (k hO ls H locs hl hP hS)
theorem g_idiv {x y : Int32} (hd : decode M.2.1 pc = .ok (.idiv, 1)) (hne : ¬ y = 0) (k : uk_G G X M d Q (pc + 1) lv (.int (x / y) :: st) u) : uk_G G X M d Q pc lv (.int y :: .int x :: st) u := fun hO ls H locs hl hP hS => lv_idiv hO.1 hO.2.1 hd hne (k hO ls H locs hl hP hS)
theorem g_irem {x y : Int32} (hd : decode M.2.1 pc = .ok (.irem, 1)) (hne : ¬ y = 0) (k : uk_G G X M d Q (pc + 1) lv (.int (x - x / y * y) :: st) u) : uk_G G X M d Q pc lv (.int y :: .int x :: st) u := fun hO ls H locs hl hP hS => lv_irem hO.1 hO.2.1 hd hne (k hO ls H locs hl hP hS)
theorem g_ladd {x y : Int64} (hd : decode M.2.1 pc = .ok (.ladd, 1)) (k : uk_G G X M d Q (pc + 1) lv (.long (x + y) :: st) u) : uk_G G X M d Q pc lv (.long y :: .long x :: st) u := fun hO ls H locs hl hP hS => lv_ladd hO.1 hO.2.1 hd (k hO ls H locs hl hP hS)
theorem g_lmul {x y : Int64} (hd : decode M.2.1 pc = .ok (.lmul, 1)) (k : uk_G G X M d Q (pc + 1) lv (.long (x * y) :: st) u) : uk_G G X M d Q pc lv (.long y :: .long x :: st) u := fun hO ls H locs hl hP hS => lv_lmul hO.1 hO.2.1 hd (k hO ls H locs hl hP hS)
theorem g_ldiv {x y : Int64} (hd : decode M.2.1 pc = .ok (.ldiv, 1)) (hne : ¬ y = 0) (k : uk_G G X M d Q (pc + 1) lv (.long (x / y) :: st) u) : uk_G G X M d Q pc lv (.long y :: .long x :: st) u := fun hO ls H locs hl hP hS => lv_ldiv hO.1 hO.2.1 hd hne (k hO ls H locs hl hP hS)
theorem g_lrem {x y : Int64} (hd : decode M.2.1 pc = .ok (.lrem, 1)) (hne : ¬ y = 0) (k : uk_G G X M d Q (pc + 1) lv (.long (x - x / y * y) :: st) u) : uk_G G X M d Q pc lv (.long y :: .long x :: st) u := fun hO ls H locs hl hP hS => lv_lrem hO.1 hO.2.1 hd hne (k hO ls H locs hl hP hS)
theorem g_ishl {x y : Int32} (hd : decode M.2.1 pc = .ok (.ishl, 1)) (k : ∀ z : Int32, z = x <<< (y &&& 31) → uk_G G X M d Q (pc + 1) lv (.int z :: st) u) : uk_G G X M d Q pc lv (.int y :: .int x :: st) u := fun hO ls H locs hl hP hS => lv_ishl hO.1 hO.2.1 hd (k _ rfl hO ls H locs hl hP hS)
theorem g_ishr {x y : Int32} (hd : decode M.2.1 pc = .ok (.ishr, 1)) (k : ∀ z : Int32, z = x >>> (y &&& 31) → uk_G G X M d Q (pc + 1) lv (.int z :: st) u) : uk_G G X M d Q pc lv (.int y :: .int x :: st) u := fun hO ls H locs hl hP hS => lv_ishr hO.1 hO.2.1 hd (k _ rfl hO ls H locs hl hP hS)
theorem g_iushr {x y : Int32} (hd : decode M.2.1 pc = .ok (.iushr, 1)) (k : ∀ z : Int32, z = (x.toUInt32 >>> (y.toUInt32 &&& Int32.toUInt32 31)).toInt32 → uk_G G X M d Q (pc + 1) lv (.int z :: st) u) : uk_G G X M d Q pc lv (.int y :: .int x :: st) u := fun hO ls H locs hl hP hS => lv_iushr hO.1 hO.2.1 hd rfl (k _ rfl hO ls H locs hl hP hS)
theorem g_i2l {x : Int32} (hd : decode M.2.1 pc = .ok (.i2l, 1)) (k : uk_G G X M d Q (pc + 1) lv (.long x.toInt64 :: st) u) : uk_G G X M d Q pc lv (.int x :: st) u := fun hO ls H locs hl hP hS => lv_i2l hO.1 hO.2.1 hd rfl (k hO ls H locs hl hP hS)
theorem g_i2b {x : Int32} (hd : decode M.2.1 pc = .ok (.i2b, 1)) (k : uk_G G X M d Q (pc + 1) lv (.int x.toInt8.toInt32 :: st) u) : uk_G G X M d Q pc lv (.int x :: st) u := fun hO ls H locs hl hP hS => lv_i2b hO.1 hO.2.1 hd rfl (k hO ls H locs hl hP hS)
theorem g_i2s {x : Int32} (hd : decode M.2.1 pc = .ok (.i2s, 1)) (k : uk_G G X M d Q (pc + 1) lv (.int x.toInt16.toInt32 :: st) u) : uk_G G X M d Q pc lv (.int x :: st) u := fun hO ls H locs hl hP hS => lv_i2s hO.1 hO.2.1 hd rfl (k hO ls H locs hl hP hS)
theorem g_lcmp {x y : Int64} (hd : decode M.2.1 pc = .ok (.lcmp, 1)) (k : uk_G G X M d Q (pc + 1) lv (.int (lg_cmp x y) :: st) u) : uk_G G X M d Q pc lv (.long y :: .long x :: st) u := fun hO ls H locs hl hP hS => W.lcmp hO.1 hO.2.1 hd (k hO ls H locs hl hP hS)
theorem g_dup {v : Value} (hd : decode M.2.1 pc = .ok (.dup, 1)) (hv : v.category = 1) (k : uk_G G X M d Q (pc + 1) lv (v :: v :: st) u) : uk_G G X M d Q pc lv (v :: st) u := fun hO ls H locs hl hP hS => lv_dup hO.1 hO.2.1 hd hv (k hO ls H locs hl hP hS)
theorem g_pop {v : Value} (hd : decode M.2.1 pc = .ok (.pop, 1)) (hv : v.category = 1) (k : uk_G G X M d Q (pc + 1) lv st u) : uk_G G X M d Q pc lv (v :: st) u := fun hO ls H locs hl hP hS => lv_pop hO.1 hO.2.1 hd hv (k hO ls H locs hl hP hS)
theorem g_pop2 {v : Value} (hd : decode M.2.1 pc = .ok (.pop2, 1)) (hv : v.category = 2) (k : uk_G G X M d Q (pc + 1) lv st u) : uk_G G X M d Q pc lv (v :: st) u := fun hO ls H locs hl hP hS => lv_pop2_2 hO.1 hO.2.1 hd hv (k hO ls H locs hl hP hS)
theorem g_dup2 {v w : Value} (hd : decode M.2.1 pc = .ok (.dup2, 1)) (hv : v.category = 1) (hw : w.category = 1) (k : uk_G G X M d Q (pc + 1) lv (v :: w :: v :: w :: st) u) : uk_G G X M d Q pc lv (v :: w :: st) u := fun hO ls H locs hl hP hS => lv_dup2_11 hO.1 hO.2.1 hd hv hw (k hO ls H locs hl hP hS)
theorem g_goto {off : Int} {tgt : Nat} (hd : decode M.2.1 pc = .ok (.goto off, 3)) (ht : (pc : Int) + off = (tgt : Int)) (k : uk_G G X M d Q tgt lv st u) : uk_G G X M d Q pc lv st u := fun hO ls H locs hl hP hS => lv_goto hO.1 hO.2.1 hd ht (k hO ls H locs hl hP hS)
theorem g_if_eq {x : Int32} {off : Int} {tgt : Nat} (hd : decode M.2.1 pc = .ok (.ifCond .eq off, 3)) (ht : (pc : Int) + off = (tgt : Int)) (kt : x = 0 → uk_G G X M d Q tgt lv st u) (kf : ¬ x = 0 → uk_G G X M d Q (pc + 3) lv st u) : uk_G G X M d Q pc lv (.int x :: st) u := fun hO ls H locs hl hP hS => lv_if_eq hO.1 hO.2.1 hd ht (fun h => kt h hO ls H locs hl hP hS) (fun h => kf h hO ls H locs hl hP hS)
theorem g_icmp_eq {x y : Int32} {off : Int} {tgt : Nat} (hd : decode M.2.1 pc = .ok (.if_icmp .eq off, 3)) (ht : (pc : Int) + off = (tgt : Int)) (kt : x = y → uk_G G X M d Q tgt lv st u) (kf : ¬ x = y → uk_G G X M d Q (pc + 3) lv st u) : uk_G G X M d Q pc lv (.int y :: .int x :: st) u := fun hO ls H locs hl hP hS => lv_icmp_eq hO.1 hO.2.1 hd ht (fun h => kt h hO ls H locs hl hP hS) (fun h => kf h hO ls H locs hl hP hS)
theorem g_if_ne {x : Int32} {off : Int} {tgt : Nat} (hd : decode M.2.1 pc = .ok (.ifCond .ne off, 3)) (ht : (pc : Int) + off = (tgt : Int)) (kt : ¬ x = 0 → uk_G G X M d Q tgt lv st u) (kf : x = 0 → uk_G G X M d Q (pc + 3) lv st u) : uk_G G X M d Q pc lv (.int x :: st) u := fun hO ls H locs hl hP hS => lv_if_ne hO.1 hO.2.1 hd ht (fun h => kt h hO ls H locs hl hP hS) (fun h => kf h hO ls H locs hl hP hS)
theorem g_icmp_ne {x y : Int32} {off : Int} {tgt : Nat} (hd : decode M.2.1 pc = .ok (.if_icmp .ne off, 3)) (ht : (pc : Int) + off = (tgt : Int)) (kt : ¬ x = y → uk_G G X M d Q tgt lv st u) (kf : x = y → uk_G G X M d Q (pc + 3) lv st u) : uk_G G X M d Q pc lv (.int y :: .int x :: st) u := fun hO ls H locs hl hP hS => lv_icmp_ne hO.1 hO.2.1 hd ht (fun h => kt h hO ls H locs hl hP hS) (fun h => kf h hO ls H locs hl hP hS)
theorem g_if_lt {x : Int32} {off : Int} {tgt : Nat} (hd : decode M.2.1 pc = .ok (.ifCond .lt off, 3)) (ht : (pc : Int) + off = (tgt : Int)) (kt : x < 0 → uk_G G X M d Q tgt lv st u) (kf : ¬ x < 0 → uk_G G X M d Q (pc + 3) lv st u) : uk_G G X M d Q pc lv (.int x :: st) u := fun hO ls H locs hl hP hS => lv_if_lt hO.1 hO.2.1 hd ht (fun h => kt h hO ls H locs hl hP hS) (fun h => kf h hO ls H locs hl hP hS)
theorem g_icmp_lt {x y : Int32} {off : Int} {tgt : Nat} (hd : decode M.2.1 pc = .ok (.if_icmp .lt off, 3)) (ht : (pc : Int) + off = (tgt : Int)) (kt : x < y → uk_G G X M d Q tgt lv st u) (kf : ¬ x < y → uk_G G X M d Q (pc + 3) lv st u) : uk_G G X M d Q pc lv (.int y :: .int x :: st) u := fun hO ls H locs hl hP hS => lv_icmp_lt hO.1 hO.2.1 hd ht (fun h => kt h hO ls H locs hl hP hS) (fun h => kf h hO ls H locs hl hP hS)
theorem g_if_ge {x : Int32} {off : Int} {tgt : Nat} (hd : decode M.2.1 pc = .ok (.ifCond .ge off, 3)) (ht : (pc : Int) + off = (tgt : Int)) (kt : 0 ≤ x → uk_G G X M d Q tgt lv st u) (kf : ¬ 0 ≤ x → uk_G G X M d Q (pc + 3) lv st u) : uk_G G X M d Q pc lv (.int x :: st) u := fun hO ls H locs hl hP hS => lv_if_ge hO.1 hO.2.1 hd ht (fun h => kt h hO ls H locs hl hP hS) (fun h => kf h hO ls H locs hl hP hS)
theorem g_icmp_ge {x y : Int32} {off : Int} {tgt : Nat} (hd : decode M.2.1 pc = .ok (.if_icmp .ge off, 3)) (ht : (pc : Int) + off = (tgt : Int)) (kt : y ≤ x → uk_G G X M d Q tgt lv st u) (kf : ¬ y ≤ x → uk_G G X M d Q (pc + 3) lv st u) : uk_G G X M d Q pc lv (.int y :: .int x :: st) u := fun hO ls H locs hl hP hS => lv_icmp_ge hO.1 hO.2.1 hd ht (fun h => kt h hO ls H locs hl hP hS) (fun h => kf h hO ls H locs hl hP hS)
theorem g_if_gt {x : Int32} {off : Int} {tgt : Nat} (hd : decode M.2.1 pc = .ok (.ifCond .gt off, 3)) (ht : (pc : Int) + off = (tgt : Int)) (kt : 0 < x → uk_G G X M d Q tgt lv st u) (kf : ¬ 0 < x → uk_G G X M d Q (pc + 3) lv st u) : uk_G G X M d Q pc lv (.int x :: st) u := fun hO ls H locs hl hP hS => lv_if_gt hO.1 hO.2.1 hd ht (fun h => kt h hO ls H locs hl hP hS) (fun h => kf h hO ls H locs hl hP hS)
theorem g_icmp_gt {x y : Int32} {off : Int} {tgt : Nat} (hd : decode M.2.1 pc = .ok (.if_icmp .gt off, 3)) (ht : (pc : Int) + off = (tgt : Int)) (kt : y < x → uk_G G X M d Q tgt lv st u) (kf : ¬ y < x → uk_G G X M d Q (pc + 3) lv st u) : uk_G G X M d Q pc lv (.int y :: .int x :: st) u := fun hO ls H locs hl hP hS => lv_icmp_gt hO.1 hO.2.1 hd ht (fun h => kt h hO ls H locs hl hP hS) (fun h => kf h hO ls H locs hl hP hS)
theorem g_if_le {x : Int32} {off : Int} {tgt : Nat} (hd : decode M.2.1 pc = .ok (.ifCond .le off, 3)) (ht : (pc : Int) + off = (tgt : Int)) (kt : x ≤ 0 → uk_G G X M d Q tgt lv st u) (kf : ¬ x ≤ 0 → uk_G G X M d Q (pc + 3) lv st u) : uk_G G X M d Q pc lv (.int x :: st) u := fun hO ls H locs hl hP hS => lv_if_le hO.1 hO.2.1 hd ht (fun h => kt h hO ls H locs hl hP hS) (fun h => kf h hO ls H locs hl hP hS)
theorem g_icmp_le {x y : Int32} {off : Int} {tgt : Nat} (hd : decode M.2.1 pc = .ok (.if_icmp .le off, 3)) (ht : (pc : Int) + off = (tgt : Int)) (kt : x ≤ y → uk_G G X M d Q tgt lv st u) (kf : ¬ x ≤ y → uk_G G X M d Q (pc + 3) lv st u) : uk_G G X M d Q pc lv (.int y :: .int x :: st) u := fun hO ls H locs hl hP hS => lv_icmp_le hO.1 hO.2.1 hd ht (fun h => kt h hO ls H locs hl hP hS) (fun h => kf h hO ls H locs hl hP hS)
theorem g_tabOut {dflt lo hi : Int} {offs : Array Int} {len : Nat} {x : Int32} {tgt : Nat} (hd : decode M.2.1 pc = .ok (.tableswitch dflt lo hi offs, len)) (h : x.toInt < lo ∨ hi < x.toInt) (ht : (pc : Int) + dflt = (tgt : Int)) (k : uk_G G X M d Q tgt lv st u) : uk_G G X M d Q pc lv (.int x :: st) u := fun hO ls H locs hl hP hS => lv_tableOut hO.1 hO.2.1 hd h ht (k hO ls H locs hl hP hS)
theorem g_tabIn {dflt lo hi : Int} {offs : Array Int} {len : Nat} {x : Int32} {off : Int} {tgt : Nat} (hd : decode M.2.1 pc = .ok (.tableswitch dflt lo hi offs, len)) (h1 : ¬ x.toInt < lo) (h2 : ¬ hi < x.toInt) (ho : offs[(x.toInt - lo).toNat]? = some off) (ht : (pc : Int) + off = (tgt : Int)) (k : uk_G G X M d Q tgt lv st u) : uk_G G X M d Q pc lv (.int x :: st) u := fun hO ls H locs hl hP hS => lv_tableIn hO.1 hO.2.1 hd h1 h2 ho ht (k hO ls H locs hl hP hS)
theorem g_iret {v : Int32} {ty : FieldType} (hd : decode M.2.1 pc = .ok (.ireturn, 1)) (hr : M.2.2.2 = some ty) (hn : narrow ty (.int v) = .int v) (hq : Q (some (.int v)) u) : uk_G G X M d Q pc lv [.int v] u := fun hO ls H locs hl hP hS => hO.2.2.2.2.2.2.2.2.2 _ pc ls _ H locs u _ (Or.inl ⟨rfl, v, ty, rfl, rfl, hr, hn⟩) hd hq hP hS
theorem g_vret (hd : decode M.2.1 pc = .ok (.return_, 1)) (hr : M.2.2.2 = none) (hq : Q none u) : uk_G G X M d Q pc lv [] u := fun hO ls H locs hl hP hS => hO.2.2.2.2.2.2.2.2.2 _ pc ls _ H locs u _ (Or.inr (Or.inl ⟨rfl, rfl, rfl, hr⟩)) hd hq hP hS
theorem g_lret {v : Int64} (hd : decode M.2.1 pc = .ok (.lreturn, 1)) (hr : M.2.2.2 = some .long) (hq : Q (some (.long v)) u) : uk_G G X M d Q pc lv [.long v] u := fun hO ls H locs hl hP hS => hO.2.2.2.2.2.2.2.2.2 _ pc ls _ H locs u _ (Or.inr (Or.inr (Or.inl ⟨rfl, v, rfl, rfl, hr⟩))) hd hq hP hS
theorem g_aret {a : Nat} {n : String} (hd : decode M.2.1 pc = .ok (.areturn, 1)) (hr : M.2.2.2 = some (.object n)) (hq : Q (some (.ref a)) u) : uk_G G X M d Q pc lv [.ref a] u := fun hO ls H locs hl hP hS => hO.2.2.2.2.2.2.2.2.2 _ pc ls _ H locs u _ (Or.inr (Or.inr (Or.inr ⟨rfl, a, n, rfl, rfl, hr⟩))) hd hq hP hS
end UKR
