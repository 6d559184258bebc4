/-! the flat memory of the system: cells by number, their ints and longs -/
abbrev uk_Mem : Type := (Nat → Nat → Int32) × (Nat → Nat → Int64)
abbrev uk_M : Type := MethodName × ByteArray × Nat × Option FieldType
abbrev uk_D : Type := Launch × va_G × (Nat → ClassId) × (Nat → Nat) × (Nat → Prop)
abbrev uk_Cx : Type := Program × Env × Room × State × MethodId × Array Value × List Frame × Method × Code × Nat × Nat × (State → Prop)
def uk_shape : List (Nat × Nat) := [(6, 0), (5, 0), (4, 0), (9, 160), (0, 0), (8, 8), (8, 8), (8, 8), (8, 8), (8, 8), (8, 8), (8, 8), (8, 8), (0, 0), (8, 8), (8, 8), (8, 8), (8, 8), (8, 8), (8, 8), (8, 8), (8, 8), (0, 0), (8, 8), (8, 8), (8, 8), (8, 8), (8, 8), (8, 8), (8, 8), (8, 8), (0, 0), (8, 8), (8, 8), (8, 8), (8, 8), (8, 8), (8, 8), (8, 8), (8, 8), (10, 2), (1, 0), (8, 128), (8, 8), (8, 8), (8, 9), (2, 0), (8, 4), (8, 4), (3, 0), (8, 4), (8, 4), (12, 4), (8, 40), (8, 40), (8, 40), (8, 40), (8, 8), (8, 8), (11, 8), (7, 0), (8, 153), (8, 51), (10, 2), (8, 8), (8, 8), (8, 51), (8, 8), (8, 8), (8, 160), (8, 8), (8, 256), (11, 8), (8, 8), (8, 4), (8, 4), (8, 160), (8, 51)]
def uk_kind (c : Nat) : Nat := (uk_shape.getD c (99, 0)).1
def uk_len (c : Nat) : Nat := (uk_shape.getD c (99, 0)).2
def uk_ftabs : List (List (Option Nat)) := [[none, some 1, some 2, some 3, some 4, some 5, some 6, some 7, some 8, none, none, none], [some 1, none, none, some 2, some 3, some 4, none], [some 1, some 2, none, none, none], [some 1, some 2, some 3], [some 1, none, none, none, none, none], [some 1, some 3, none, none, none], [some 13, some 4, some 2, some 1, some 22, some 31, some 40, some 41, some 46, some 49, some 57, some 58, some 59, none, none], [some 1, some 2, some 3, none, some 4, some 5, some 6, none, some 7, some 8, none, none, some 9, none, none, none, none, none, none, none, some 10, some 11, none, some 12, some 13, some 14, some 15, some 16, none, some 17]]
def uk_ftab (k : Nat) : List (Option Nat) := uk_ftabs.getD k []
/-- the address of a cell -/
def uk_ad (G : uk_D) (c : Nat) : Nat := G.2.2.2.1 c
def uk_fv (G : uk_D) (u : uk_Mem) (c k : Nat) (o : Option Nat) : Value := match o with
  | none => .int (u.1 c k)
  | some o => .ref (uk_ad G (c + o))
def uk_fvs (G : uk_D) (u : uk_Mem) (c : Nat) : Nat → List (Option Nat) → List Value
  | _, [] => []
  | i, o :: r => uk_fv G u c i o :: uk_fvs G u c (i + 1) r
theorem uk_fvs_at (G : uk_D) (u : uk_Mem) (c : Nat) : ∀ (l : List (Option Nat)) (i k : Nat), (uk_fvs G u c i l)[k]? = (l[k]?).map (uk_fv G u c (i + k))
  | [], i, k => by simp [uk_fvs]
  | o :: r, i, 0 => by simp [uk_fvs]
  | o :: r, i, k + 1 => by
    rw [uk_fvs, List.getElem?_cons_succ, List.getElem?_cons_succ, uk_fvs_at G u c r (i + 1) k, show i + 1 + k = i + (k + 1) by omega]
theorem uk_fvs_len (G : uk_D) (u : uk_Mem) (c : Nat) : ∀ (l : List (Option Nat)) (i : Nat), (uk_fvs G u c i l).length = l.length
  | [], i => rfl
  | o :: r, i => by rw [uk_fvs, List.length_cons, List.length_cons, uk_fvs_len G u c r (i + 1)]
def uk_ent (G : uk_D) (u : uk_Mem) (c : Nat) : va_E := match uk_kind c with
  | 8 => .inl (G.2.2.1 8, uk_len c, .inl (u.1 c))
  | 9 => .inl (G.2.2.1 9, uk_len c, .inl (u.1 c))
  | 10 => .inl (G.2.2.1 10, uk_len c, .inl (u.1 c))
  | 11 => .inl (G.2.2.1 11, uk_len c, .inr (.inl (u.2 c)))
  | 12 => .inl (G.2.2.1 12, uk_len c, .inr (.inr (.inr (.inr (fun i => if i < uk_len c then some (uk_ad G (c + 1 + i)) else none)))))
  | k => .inr (k, uk_fvs G u c 0 (uk_ftab k))
def uk_ws (G : uk_D) (u : uk_Mem) : va_W := (List.range 78).map fun c => (uk_ad G c, uk_ent G u c)
def uk_tys (G : uk_D) : List (ClassId × FieldType) := [(G.2.2.1 8, .int), (G.2.2.1 9, .byte), (G.2.2.1 10, .boolean), (G.2.2.1 11, .long), (G.2.2.1 12, .array .int)]
theorem uk_lt {c k : Nat} (h : uk_kind c = k) (hk : k < 99) : c < 78 := by
  rcases Nat.lt_or_ge c 78 with q | q
  · exact q
  · exfalso
    have : uk_kind c = 99 := by
      have h0 : uk_shape[c]? = none := List.getElem?_eq_none_iff.mpr (by simpa [uk_shape] using q)
      unfold uk_kind
      rw [List.getD_eq_getElem?_getD, h0]
      rfl
    omega
theorem uk_ws_at {G : uk_D} {u : uk_Mem} {c : Nat} (h : c < 78) : (uk_ws G u)[c]? = some (uk_ad G c, uk_ent G u c) := by
  simp [uk_ws, h]
theorem uk_ws_set {G : uk_D} {u u' : uk_Mem} {c : Nat} {e : va_E} (h : c < 78) (he : e = uk_ent G u' c) (hn : ∀ b, b ≠ c → uk_ent G u' b = uk_ent G u b) : (uk_ws G u).set c (uk_ad G c, e) = uk_ws G u' := by
  apply List.ext_getElem?
  intro i
  rw [List.getElem?_set]
  by_cases hi : c = i
  · subst hi
    rw [if_pos rfl, uk_ws_at h, if_pos (by simpa [uk_ws] using h), he]
  · rw [if_neg hi]
    by_cases h2 : i < 78
    · rw [uk_ws_at h2, uk_ws_at h2, hn i (fun q => hi q.symm)]
    · have h3 : ∀ v, (uk_ws G v)[i]? = none := fun v => by
        rw [List.getElem?_eq_none_iff]
        simp [uk_ws]
        omega
      rw [h3, h3]
/-- an int is written, a long is written -/
def uk_up (u : uk_Mem) (c i : Nat) (x : Int32) : uk_Mem := (fun b => if b = c then upd (u.1 c) i x else u.1 b, u.2)
def uk_upL (u : uk_Mem) (c i : Nat) (x : Int64) : uk_Mem := (u.1, fun b => if b = c then vp_updL (u.2 c) i x else u.2 b)
theorem uk_up_at (u : uk_Mem) (c i : Nat) (x : Int32) (b j : Nat) : (uk_up u c i x).1 b j = if b = c ∧ j = i then x else u.1 b j := by
  unfold uk_up
  dsimp only
  by_cases h : b = c
  · subst h
    by_cases h2 : j = i
    · simp [h2, upd]
    · simp [h2, upd]
  · simp [h]
theorem uk_fvs_congr (G : uk_D) {u u' : uk_Mem} {c : Nat} (h : u'.1 c = u.1 c) : ∀ (l : List (Option Nat)) (i : Nat), uk_fvs G u' c i l = uk_fvs G u c i l
  | [], i => rfl
  | o :: r, i => by
    rw [uk_fvs, uk_fvs, uk_fvs_congr G h r (i + 1)]
    congr 1
    cases o with
    | none => simp [uk_fv, h]
    | some o => rfl
theorem uk_ent_congr {G : uk_D} {u u' : uk_Mem} {c : Nat} (h : u'.1 c = u.1 c) (h2 : u'.2 c = u.2 c) : uk_ent G u' c = uk_ent G u c := by
  unfold uk_ent
  rw [h, h2]
  split <;> first | rfl | rw [uk_fvs_congr G h]
theorem uk_up_ne {G : uk_D} {u : uk_Mem} {c i : Nat} {x : Int32} : ∀ b, b ≠ c → uk_ent G (uk_up u c i x) b = uk_ent G u b := fun b hb => uk_ent_congr (by simp [uk_up, hb]) rfl
theorem uk_upL_ne {G : uk_D} {u : uk_Mem} {c i : Nat} {x : Int64} : ∀ b, b ≠ c → uk_ent G (uk_upL u c i x) b = uk_ent G u b := fun b hb => uk_ent_congr rfl (by simp [uk_upL, hb])
theorem uk_fvs_set (G : uk_D) (u : uk_Mem) (c : Nat) (x : Int32) : ∀ (l : List (Option Nat)) (i k : Nat), l[k]? = some none → (uk_fvs G u c i l).set k (.int x) = uk_fvs G (uk_up u c (i + k) x) c i l
  | [], i, k, h => by simp at h
  | o :: r, i, 0, h => by
    have ho : o = none := by simpa using h
    subst ho
    rw [uk_fvs, uk_fvs, List.set_cons_zero]
    congr 1
    · simp [uk_fv, uk_up, upd]
    · have : ∀ (l : List (Option Nat)) (j : Nat), i < j → uk_fvs G (uk_up u c (i + 0) x) c j l = uk_fvs G u c j l := by
        intro l
        induction l with
        | nil => intro j _; rfl
        | cons o r ih =>
          intro j hj
          rw [uk_fvs, uk_fvs, ih (j + 1) (by omega)]
          congr 1
          cases o with
          | none => simp [uk_fv, uk_up, upd, show j ≠ i by omega]
          | some o => rfl
      exact (this r (i + 1) (by omega)).symm
  | o :: r, i, k + 1, h => by
    rw [uk_fvs, uk_fvs, List.set_cons_succ, uk_fvs_set G u c x r (i + 1) k (by simpa using h), show i + 1 + k = i + (k + 1) by omega]
    congr 1
    cases o with
    | none => simp [uk_fv, uk_up, upd, show i ≠ i + (k + 1) by omega]
    | some o => rfl
/-! the words that every method keeps: the tables' good ones; the nest links apart -/
def uk_w : List Cond := lw_tbl.filter goodWord
def uk_isNest : Cond → Bool
  | .fieldLinkNest _ _ _ _ _ _ => true
  | .methodLinkNest _ _ _ _ => true
  | _ => false
def uk_nest : List Cond := lw_tbl.filter uk_isNest
theorem uk_wI {w : Cond} (h : w ∈ tables_1) (hg : goodWord w = true) : w ∈ uk_w := List.mem_filter.mpr ⟨List.mem_append_right _ h, hg⟩
theorem uk_wP {w : Cond} (h : w ∈ k2_sels lw_privs) (hg : goodWord w = true) : w ∈ uk_w := List.mem_filter.mpr ⟨List.mem_append_left _ h, hg⟩
theorem uk_nI {w : Cond} (h : w ∈ tables_1) (hg : uk_isNest w = true) : w ∈ uk_nest := List.mem_filter.mpr ⟨List.mem_append_right _ h, hg⟩
theorem uk_w_good {w : Cond} (h : w ∈ uk_w) : (w.onTables && w.keeps) = true ∨ ∃ ty, w = .arrayClass ty := good_of_word (List.mem_filter.mp h).2
theorem uk_goodIn {c : Cond} (h : c ∈ uk_w) : GoodIn uk_w (c :: uk_w) := by
  intro w hw
  rcases List.mem_cons.mp hw with rfl | hw
  · exact ⟨h, uk_w_good h⟩
  · exact ⟨hw, uk_w_good hw⟩
theorem uk_nestW {w : Cond} (hn : uk_isNest w = true) {s U : State} (hW : s.WarmedH U.vm) (h : va_Nw w s) : va_Nw w U := by
  cases w <;> first | exact va_Nw.warmF hW h | exact va_Nw.warmM hW h | (exact absurd hn (by simp [uk_isNest]))
theorem uk_nestC {w : Cond} (hn : uk_isNest w = true) {s U : State} (hv : s.vm = U.vm) (h : va_Nw w s) : va_Nw w U := by
  cases w <;> first | exact va_tabs rfl hv h | (exact absurd hn (by simp [uk_isNest]))
/-! the judgement: from here the method comes to its end, with Q of its answer and of the memory then -/
def uk_ret (rt : Option FieldType) (i : Instr) (st : List Value) (r : Option Value) : Prop :=
  (i = .ireturn ∧ ∃ (v : Int32) (ty : FieldType), st = [.int v] ∧ r = some (.int v) ∧ rt = some ty ∧ narrow ty (.int v) = .int v) ∨
  (i = .return_ ∧ st = [] ∧ r = none ∧ rt = none) ∨
  (i = .lreturn ∧ ∃ v : Int64, st = [.long v] ∧ r = some (.long v) ∧ rt = some .long) ∨
  (i = .areturn ∧ ∃ (a : Nat) (n : String), st = [.ref a] ∧ r = some (.ref a) ∧ rt = some (.object n))
/-! the text reader's words, and what the JDK's own text methods read -/
def uk_sIx : List Nat := [74, 80, 82, 84, 86, 88]
def uk_sTx : List String := ["raw", "mix", "boil", "burn", "salt", "have"]
def uk_sLen : List Nat := [3, 3, 4, 4, 4, 4]
def uk_sByt : List (List Int32) := [[114, 97, 119], [109, 105, 120], [98, 111, 105, 108], [98, 117, 114, 110], [115, 97, 108, 116], [104, 97, 118, 101]]
def uk_E (G : uk_D) (U : State) : Prop := vk_S 6 uk_sLen uk_sByt (fun i => uk_ad G (100 + i)) (fun i => uk_ad G (200 + i)) G.2.2.2.2 U U.heap ∧ va_Z "java/lang/String" "COMPACT_STRINGS" "Z" (.int 1) G.2.2.2.2 U U.heap ∧ va_Zq "jdk/internal/util/Preconditions" "SIOOBE_FORMATTER" "Ljava/util/function/BiFunction;" G.2.2.2.2 U U.heap ∧ ∀ i, i < 6 → vk_R "UncookMill$TextReader" (uk_sIx.getD i 0) (uk_sTx.getD i "") (uk_ad G (100 + i)) U
theorem uk_E.go {G : uk_D} {s U : State} (h : uk_E G s) (hk : ∀ q : Nat, q < s.heap.size → ¬ G.2.2.2.2 q → U.heap[q]? = s.heap[q]?) (hW : s.WarmedH U.vm) : uk_E G U :=
  ⟨vk_S.moved hW.alike (vk_S.kept h.1 hk), va_Z.moved hW.alike (va_Z.kept h.2.1 hk), va_Zq.moved hW.alike (va_Zq.kept h.2.2.1 hk), fun i hi => vk_R.warm hW (h.2.2.2 i hi)⟩
theorem uk_E.same {G : uk_D} {s U : State} (h : uk_E G s) (hh : U.heap = s.heap) (hv : U.vm = s.vm) : uk_E G U := by
  have ha : s.vm.Alike U.vm := by rw [hv]; exact Vm.Alike.refl s.vm
  have hk : ∀ q : Nat, q < s.heap.size → ¬ G.2.2.2.2 q → U.heap[q]? = s.heap[q]? := fun q _ _ => by rw [hh]
  exact ⟨vk_S.moved ha (vk_S.kept h.1 hk), va_Z.moved ha (va_Z.kept h.2.1 hk), va_Zq.moved ha (va_Zq.kept h.2.2.1 hk), fun i hi => vk_R.same hv (h.2.2.2 i hi)⟩
/-- what holds of a state that has the memory u: cells, classes, nest links -/
def uk_B (G : uk_D) (u : uk_Mem) (U : State) : Prop := va_P G.2.1 vwCl (uk_ws G u) U.heap ∧ va_K G.2.1 vwCl (uk_tys G) U ∧ (∀ w ∈ uk_nest, va_Nw w U) ∧ uk_E G U
def uk_Q (G : uk_D) (Q : Option Value → uk_Mem → Prop) : Array Value → State → Outcome → State → Prop := fun _ st oc t => (∃ (r : Option Value) (u : uk_Mem), oc = .returned r ∧ Q r u ∧ uk_B G u t) ∧ va_F G.2.2.2.2 st t
def uk_rm (d : Nat) : Room := { frames := d, cells := 0, slots := 0, locals := 40 * d }
def uk_Meth (G : uk_D) (d : Nat) (M : uk_M) (As : List Value) (u : uk_Mem) (Q : Option Value → uk_Mem → Prop) : Prop :=
  Met G.1 M.1 (.code M.1 M.2.1 M.2.2.1 M.2.2.2 :: uk_w) (uk_rm d) (va_Pc As (uk_B G u)) (uk_Q G Q) 0 0 G.2.2.2.2
/-- the cells are apart, and the system's own -/
def uk_Sep (G : uk_D) : Prop := (∀ i j, i < 78 → j < 78 → uk_ad G i = uk_ad G j → i = j) ∧ ∀ i, i < 78 → G.2.2.2.2 (uk_ad G i)
theorem uk_sepD {G : uk_D} (h : uk_Sep G) (u : uk_Mem) : va_D G.2.2.2.2 (uk_ws G u) := by
  have hlt : ∀ (k : Nat) (q : Nat × va_E), (uk_ws G u)[k]? = some q → k < 78 ∧ q = (uk_ad G k, uk_ent G u k) := by
    intro k q hq
    have hk : k < 78 := by
      have := (List.getElem?_eq_some_iff.mp hq).1
      simpa [uk_ws] using this
    rw [uk_ws_at hk] at hq
    exact ⟨hk, (Option.some.inj hq).symm⟩
  refine ⟨fun i j a b ha hb hab => ?_, fun k q hq => ?_⟩
  · obtain ⟨h1, rfl⟩ := hlt i a ha
    obtain ⟨h2, rfl⟩ := hlt j b hb
    exact h.1 i j h1 h2 hab
  · obtain ⟨h1, rfl⟩ := hlt k q hq
    exact h.2 k h1
def uk_Ret (G : uk_D) (X : uk_Cx) (M : uk_M) (Q : Option Value → uk_Mem → Prop) : Prop :=
  ∀ (i : Instr) (pc : Nat) (ls : Array Slot) (st : List Value) (H : Heap) (locs : List Loc) (u : uk_Mem) (r : Option Value), uk_ret M.2.2.2 i st r → decode M.2.1 pc = .ok (i, 1) → Q r u → va_P G.2.1 vwCl (uk_ws G u) H → va_S G.2.2.2.2 X.2.2.2.1.heap H locs →
    W X.1 G.1 X.2.1 X.2.2.1 X.2.2.2.1 X.2.2.2.2.1 X.2.2.2.2.2.1 X.2.2.2.2.2.2.1 X.2.2.2.2.2.2.2.1 X.2.2.2.2.2.2.2.2.1 H locs X.2.2.2.2.2.2.2.2.2.1 X.2.2.2.2.2.2.2.2.2.2.1 X.2.2.2.2.2.2.2.2.2.2.2 (F0 X.2.2.2.2.1 pc ls st)
def uk_Ok (G : uk_D) (X : uk_Cx) (M : uk_M) (d : Nat) (Q : Option Value → uk_Mem → Prop) : Prop :=
  X.1.tables.exec = Jvm.exec ∧ X.2.2.2.2.2.2.2.2.1.code = M.2.1 ∧ X.2.2.2.2.2.2.2.2.1.maxLocals = M.2.2.1 ∧ X.2.2.2.1.vm.findClass M.1.cls = some X.2.2.2.2.1.cls ∧ (∀ w ∈ uk_w, w.before X.2.2.2.2.2.1 X.2.2.2.1 = true) ∧
  va_K G.2.1 vwCl (uk_tys G) X.2.2.2.1 ∧ ((∀ w ∈ uk_nest, va_Nw w X.2.2.2.1) ∧ uk_E G X.2.2.2.1) ∧ uk_Sep G ∧ (d ≤ X.2.2.1.frames ∧ 40 * d ≤ X.2.2.1.locals ∧ X.2.2.2.2.2.2.2.2.2.1 ≤ X.2.2.1.cells ∧ X.2.2.2.2.2.2.2.2.2.2.1 ≤ X.2.2.1.slots) ∧ uk_Ret G X M Q
def uk_G (G : uk_D) (X : uk_Cx) (M : uk_M) (d : Nat) (Q : Option Value → uk_Mem → Prop) (pc : Nat) (lv : List (Nat × Value)) (st : List Value) (u : uk_Mem) : Prop :=
  uk_Ok G X M d Q → ∀ (ls : Array Slot) (H : Heap) (locs : List Loc), lv_has ls M.2.2.1 lv → va_P G.2.1 vwCl (uk_ws G u) H → va_S G.2.2.2.2 X.2.2.2.1.heap H locs →
    W X.1 G.1 X.2.1 X.2.2.1 X.2.2.2.1 X.2.2.2.2.1 X.2.2.2.2.2.1 X.2.2.2.2.2.2.1 X.2.2.2.2.2.2.2.1 X.2.2.2.2.2.2.2.2.1 H locs X.2.2.2.2.2.2.2.2.2.1 X.2.2.2.2.2.2.2.2.2.2.1 X.2.2.2.2.2.2.2.2.2.2.2 (F0 X.2.2.2.2.1 pc ls st)
/-! locals by their numbers -/
def uk_lk : List (Nat × Value) → Nat → Option Value
  | [], _ => none
  | (j, v) :: r, i => match Nat.beq j i with
    | true => some v
    | false => uk_lk r i
theorem uk_lk_mem : ∀ {l : List (Nat × Value)} {i : Nat} {v : Value}, uk_lk l i = some v → (i, v) ∈ l
  | [], i, v, h => by simp [uk_lk] at h
  | (j, w) :: r, i, v, h => by
    unfold uk_lk at h
    cases hb : Nat.beq j i with
    | true =>
      rw [hb] at h
      have hj : j = i := Nat.eq_of_beq_eq_true hb
      simp only [Option.some.injEq] at h
      subst hj
      subst h
      exact List.mem_cons_self
    | false =>
      rw [hb] at h
      exact List.mem_cons_of_mem _ (uk_lk_mem h)
theorem uk_lv {ls : Array Slot} {n : Nat} {l : List (Nat × Value)} {i : Nat} {v : Value} (h : lv_has ls n l) (hk : uk_lk l i = some v) : ls[i]? = some (.val v) := h.2.2 (i, v) (uk_lk_mem hk)
/-- v goes to local i, in the order of the numbers; what it covers is gone -/
def uk_ins (i : Nat) (v : Value) : List (Nat × Value) → List (Nat × Value)
  | [] => [(i, v)]
  | (j, w) :: r => match Nat.blt j i with
    | true => (j, w) :: uk_ins i v r
    | false => (i, v) :: (j, w) :: r
def uk_flt (i : Nat) (two : Bool) : List (Nat × Value) → List (Nat × Value)
  | [] => []
  | (j, w) :: r => match Nat.beq j i, two && Nat.beq j (i + 1), Nat.beq (j + 1) i && Nat.beq w.category 2 with
    | false, false, false => (j, w) :: uk_flt i two r
    | _, _, _ => uk_flt i two r
def uk_set (l : List (Nat × Value)) (i : Nat) (v : Value) : List (Nat × Value) := uk_ins i v (uk_flt i (Nat.beq v.category 2) l)
theorem uk_ins_mem {i : Nat} {v : Value} {q : Nat × Value} : ∀ {l : List (Nat × Value)}, q ∈ uk_ins i v l → q = (i, v) ∨ q ∈ l
  | [], h => by
    simp [uk_ins] at h
    exact Or.inl h
  | (j, w) :: r, h => by
    unfold uk_ins at h
    cases hb : Nat.blt j i with
    | true =>
      rw [hb] at h
      rcases List.mem_cons.mp h with h | h
      · exact Or.inr (by rw [h]; exact List.mem_cons_self)
      · rcases uk_ins_mem h with h | h
        · exact Or.inl h
        · exact Or.inr (List.mem_cons_of_mem _ h)
    | false =>
      rw [hb] at h
      rcases List.mem_cons.mp h with h | h
      · exact Or.inl h
      · exact Or.inr h
theorem uk_flt_mem {i : Nat} {two : Bool} {q : Nat × Value} : ∀ {l : List (Nat × Value)}, q ∈ uk_flt i two l → q ∈ l ∧ ¬ q.1 = i ∧ (two = true → ¬ q.1 = i + 1) ∧ ¬ (q.1 + 1 = i ∧ q.2.category = 2)
  | [], h => by simp [uk_flt] at h
  | (j, w) :: r, h => by
    unfold uk_flt at h
    have key : ∀ {a b c : Bool}, Nat.beq j i = a → (two && Nat.beq j (i + 1)) = b → (Nat.beq (j + 1) i && Nat.beq w.category 2) = c → (a = false ∧ b = false ∧ c = false) → ¬ j = i ∧ (two = true → ¬ j = i + 1) ∧ ¬ (j + 1 = i ∧ w.category = 2) := by
      intro a b c h1 h2 h3 ⟨ha, hb, hc⟩
      subst ha hb hc
      refine ⟨fun e => ?_, fun ht e => ?_, fun e => ?_⟩
      · rw [e, Nat.beq_refl] at h1
        cases h1
      · rw [ht, e, Nat.beq_refl] at h2
        cases h2
      · rw [e.1, e.2, Nat.beq_refl] at h3
        cases h3
    split at h
    · rename_i h1 h2 h3
      rcases List.mem_cons.mp h with h | h
      · subst h
        exact ⟨List.mem_cons_self, key h1 h2 h3 ⟨rfl, rfl, rfl⟩⟩
      · obtain ⟨a, b⟩ := uk_flt_mem h
        exact ⟨List.mem_cons_of_mem _ a, b⟩
    · obtain ⟨a, b⟩ := uk_flt_mem h
      exact ⟨List.mem_cons_of_mem _ a, b⟩
theorem uk_has1 {ls : Array Slot} {n i : Nat} {l : List (Nat × Value)} {v : Value} (hc : v.category = 1) (h : lv_has ls n ((i, v) :: l.filter (fun q => !(q.1 == i) && !(q.1 + 1 == i && q.2.category == 2)))) : lv_has ls n (uk_set l i v) := by
  refine ⟨h.1, h.2.1, fun q hq => h.2.2 q ?_⟩
  rcases uk_ins_mem hq with hq | hq
  · rw [hq]
    exact List.mem_cons_self
  · obtain ⟨h1, h2, h3, h4⟩ := uk_flt_mem hq
    refine List.mem_cons_of_mem _ (List.mem_filter.mpr ⟨h1, ?_⟩)
    simp only [Bool.and_eq_true, Bool.not_eq_true', beq_eq_false_iff_ne, Bool.and_eq_false_iff, ne_eq]
    exact ⟨h2, (Classical.em (q.1 + 1 = i)).elim (fun a => Or.inr fun b => h4 ⟨a, b⟩) Or.inl⟩
theorem uk_has2 {ls : Array Slot} {n i : Nat} {l : List (Nat × Value)} {v : Value} (hc : v.category = 2) (h : lv_has ls n ((i, v) :: l.filter (fun q => !(q.1 == i) && (!(q.1 == i + 1) && !(q.1 + 1 == i && q.2.category == 2))))) : lv_has ls n (uk_set l i v) := by
  refine ⟨h.1, h.2.1, fun q hq => h.2.2 q ?_⟩
  rcases uk_ins_mem hq with hq | hq
  · rw [hq]
    exact List.mem_cons_self
  · obtain ⟨h1, h2, h3, h4⟩ := uk_flt_mem hq
    refine List.mem_cons_of_mem _ (List.mem_filter.mpr ⟨h1, ?_⟩)
    simp only [Bool.and_eq_true, Bool.not_eq_true', beq_eq_false_iff_ne, Bool.and_eq_false_iff, ne_eq]
    exact ⟨h2, h3 (by rw [hc]; rfl), (Classical.em (q.1 + 1 = i)).elim (fun a => Or.inr fun b => h4 ⟨a, b⟩) Or.inl⟩
section UKR
variable {G : uk_D} {X : uk_Cx} {M : uk_M} {d : Nat} {Q : Option Value → uk_Mem → Prop} {pc : Nat} {lv : List (Nat × Value)} {st : List Value} {u : uk_Mem}
theorem g_iconst {n : Int} {v : Int32} (hd : decode M.2.1 pc = .ok (.iconst n, 1)) (hv : Int32.ofInt n = v) (k : uk_G G X M d Q (pc + 1) lv (.int v :: st) u) : uk_G G X M d Q pc lv st u := fun hO ls H locs hl hP hS => lv_iconst hO.1 hO.2.1 hd hv (k hO ls H locs hl hP hS)
theorem g_bipush {n : Int} {v : Int32} (hd : decode M.2.1 pc = .ok (.bipush n, 2)) (hv : (Int8.ofInt n).toInt32 = v) (k : uk_G G X M d Q (pc + 2) lv (.int v :: st) u) : uk_G G X M d Q pc lv st u := fun hO ls H locs hl hP hS => lv_bipush hO.1 hO.2.1 hd hv (k hO ls H locs hl hP hS)
theorem g_sipush {n : Int} {v : Int32} (hd : decode M.2.1 pc = .ok (.sipush n, 3)) (hv : (Int16.ofInt n).toInt32 = v) (k : uk_G G X M d Q (pc + 3) lv (.int v :: st) u) : uk_G G X M d Q pc lv st u := fun hO ls H locs hl hP hS => lv_sipush hO.1 hO.2.1 hd hv (k hO ls H locs hl hP hS)
theorem g_lconst {n : Fin 2} {v : Int64} (hd : decode M.2.1 pc = .ok (.lconst n, 1)) (hv : Int64.ofNat (n : Nat) = v) (k : uk_G G X M d Q (pc + 1) lv (.long v :: st) u) : uk_G G X M d Q pc lv st u := fun hO ls H locs hl hP hS => lv_lconst hO.1 hO.2.1 hd hv (k hO ls H locs hl hP hS)
theorem g_ldc {index : Nat} {v : Int32} (hw : Cond.constant M.1.cls index v ∈ uk_w) (hd : decode M.2.1 pc = .ok (.ldc index, 2)) (k : uk_G G X M d Q (pc + 2) lv (.int v :: st) u) : uk_G G X M d Q pc lv st u := fun hO ls H locs hl hP hS => lv_ldc hO.1 hO.2.1 hO.2.2.2.1 (hO.2.2.2.2.1 _ hw) hd (k hO ls H locs hl hP hS)
theorem g_ldcw {index : Nat} {v : Int32} (hw : Cond.constant M.1.cls index v ∈ uk_w) (hd : decode M.2.1 pc = .ok (.ldc_w index, 3)) (k : uk_G G X M d Q (pc + 3) lv (.int v :: st) u) : uk_G G X M d Q pc lv st u := fun hO ls H locs hl hP hS => lv_ldcw hO.1 hO.2.1 hO.2.2.2.1 (hO.2.2.2.2.1 _ hw) hd (k hO ls H locs hl hP hS)
theorem g_ldc2 {index : Nat} {v : Int64} (hw : Cond.constantLong M.1.cls index v ∈ uk_w) (hd : decode M.2.1 pc = .ok (.ldc2_w index, 3)) (k : uk_G G X M d Q (pc + 3) lv (.long v :: st) u) : uk_G G X M d Q pc lv st u := fun hO ls H locs hl hP hS => lv_ldc2 hO.1 hO.2.1 hO.2.2.2.1 (hO.2.2.2.2.1 _ hw) hd (k hO ls H locs hl hP hS)
theorem g_iload_n {j : Fin 4} {x : Int32} (hd : decode M.2.1 pc = .ok (.iload_n j, 1)) (hv : uk_lk lv (j : Nat) = some (.int x)) (k : uk_G G X M d Q (pc + 1) lv (.int x :: st) u) : uk_G G X M d Q pc lv st u := fun hO ls H locs hl hP hS => lv_iload_n hO.1 hO.2.1 hd rfl (uk_lv hl hv) (k hO ls H locs hl hP hS)
theorem g_iload {j : Nat} {x : Int32} (hd : decode M.2.1 pc = .ok (.iload j, 2)) (hv : uk_lk lv j = some (.int x)) (k : uk_G G X M d Q (pc + 2) lv (.int x :: st) u) : uk_G G X M d Q pc lv st u := fun hO ls H locs hl hP hS => lv_iload hO.1 hO.2.1 hd (uk_lv hl hv) (k hO ls H locs hl hP hS)
theorem g_lload_n {j : Fin 4} {x : Int64} (hd : decode M.2.1 pc = .ok (.lload_n j, 1)) (hv : uk_lk lv (j : Nat) = some (.long x)) (k : uk_G G X M d Q (pc + 1) lv (.long x :: st) u) : uk_G G X M d Q pc lv st u := fun hO ls H locs hl hP hS => lv_lload_n hO.1 hO.2.1 hd rfl (uk_lv hl hv) (k hO ls H locs hl hP hS)
theorem g_lload {j : Nat} {x : Int64} (hd : decode M.2.1 pc = .ok (.lload j, 2)) (hv : uk_lk lv j = some (.long x)) (k : uk_G G X M d Q (pc + 2) lv (.long x :: st) u) : uk_G G X M d Q pc lv st u := fun hO ls H locs hl hP hS => lv_lload hO.1 hO.2.1 hd (uk_lv hl hv) (k hO ls H locs hl hP hS)
theorem g_aload_n {j : Fin 4} {x : Nat} (hd : decode M.2.1 pc = .ok (.aload_n j, 1)) (hv : uk_lk lv (j : Nat) = some (.ref x)) (k : uk_G G X M d Q (pc + 1) lv (.ref x :: st) u) : uk_G G X M d Q pc lv st u := fun hO ls H locs hl hP hS => lv_aload_n hO.1 hO.2.1 hd rfl (uk_lv hl hv) (k hO ls H locs hl hP hS)
theorem g_istore_n {j : Fin 4} {x : Int32} (hd : decode M.2.1 pc = .ok (.istore_n j, 1)) (hn : (j : Nat) < M.2.2.1) (k : uk_G G X M d Q (pc + 1) (uk_set lv (j : Nat) (.int x)) st u) : uk_G G X M d Q pc lv (.int x :: st) u := fun hO ls H locs hl hP hS => lv_istore_n hO.1 hO.2.1 hd rfl hl hn rfl (fun ls' hl' => k hO ls' H locs (uk_has1 rfl hl') hP hS)
theorem g_istore {j : Nat} {x : Int32} (hd : decode M.2.1 pc = .ok (.istore j, 2)) (hn : j < M.2.2.1) (k : uk_G G X M d Q (pc + 2) (uk_set lv j (.int x)) st u) : uk_G G X M d Q pc lv (.int x :: st) u := fun hO ls H locs hl hP hS => lv_istore hO.1 hO.2.1 hd hl hn rfl (fun ls' hl' => k hO ls' H locs (uk_has1 rfl hl') hP hS)
theorem g_lstore {j : Nat} {x : Int64} (hd : decode M.2.1 pc = .ok (.lstore j, 2)) (hn : j + 1 < M.2.2.1) (k : uk_G G X M d Q (pc + 2) (uk_set lv j (.long x)) st u) : uk_G G X M d Q pc lv (.long x :: st) u := fun hO ls H locs hl hP hS => lv_lstore hO.1 hO.2.1 hd hl hn rfl (fun ls' hl' => k hO ls' H locs (uk_has2 rfl hl') hP hS)
theorem g_iinc {j : Nat} {n : Int} {x v : Int32} (hd : decode M.2.1 pc = .ok (.iinc j n, 3)) (hv : uk_lk lv j = some (.int x)) (he : x + Int32.ofInt n = v) (hn : j < M.2.2.1) (k : uk_G G X M d Q (pc + 3) (uk_set lv j (.int v)) st u) : uk_G G X M d Q pc lv st u := fun hO ls H locs hl hP hS => by
  obtain ⟨q, hq⟩ := List.getElem?_of_mem (uk_lk_mem hv)
  exact lv_iinc hO.1 hO.2.1 hd hl hq he hn rfl (fun ls' hl' => k hO ls' H locs (uk_has1 rfl hl') hP hS)
theorem g_iadd {x y : Int32} (hd : decode M.2.1 pc = .ok (.iadd, 1)) (k : uk_G G X M d Q (pc + 1) lv (.int (x + y) :: st) u) : uk_G G X M d Q pc lv (.int y :: .int x :: st) u := fun hO ls H locs hl hP hS => lv_iadd hO.1 hO.2.1 hd (k hO ls H locs hl hP hS)
theorem g_isub {x y : Int32} (hd : decode M.2.1 pc = .ok (.isub, 1)) (k : uk_G G X M d Q (pc + 1) lv (.int (x - y) :: st) u) : uk_G G X M d Q pc lv (.int y :: .int x :: st) u := fun hO ls H locs hl hP hS => lv_isub hO.1 hO.2.1 hd (k hO ls H locs hl hP hS)
theorem g_imul {x y : Int32} (hd : decode M.2.1 pc = .ok (.imul, 1)) (k : uk_G G X M d Q (pc + 1) lv (.int (x * y) :: st) u) : uk_G G X M d Q pc lv (.int y :: .int x :: st) u := fun hO ls H locs hl hP hS => lv_imul hO.1 hO.2.1 hd (k hO ls H locs hl hP hS)
theorem g_iand {x y : Int32} (hd : decode M.2.1 pc = .ok (.iand, 1)) (k : uk_G G X M d Q (pc + 1) lv (.int (x &&& y) :: st) u) : uk_G G X M d Q pc lv (.int y :: .int x :: st) u := fun hO ls H locs hl hP hS => lv_iand hO.1 hO.2.1 hd (k hO ls H locs hl hP hS)
theorem g_ior {x y : Int32} (hd : decode M.2.1 pc = .ok (.ior, 1)) (k : uk_G G X M d Q (pc + 1) lv (.int (x ||| y) :: st) u) : uk_G G X M d Q pc lv (.int y :: .int x :: st) u := fun hO ls H locs hl hP hS => lv_ior hO.1 hO.2.1 hd (k hO ls H locs hl hP hS)
theorem g_idiv {x y : Int32} (hd : decode M.2.1 pc = .ok (.idiv, 1)) (hne : ¬ y = 0) (k : uk_G G X M d Q (pc + 1) lv (.int (x / y) :: st) u) : uk_G G X M d Q pc lv (.int y :: .int x :: st) u := fun hO ls H locs hl hP hS => lv_idiv hO.1 hO.2.1 hd hne (k hO ls H locs hl hP hS)
theorem g_irem {x y : Int32} (hd : decode M.2.1 pc = .ok (.irem, 1)) (hne : ¬ y = 0) (k : uk_G G X M d Q (pc + 1) lv (.int (x - x / y * y) :: st) u) : uk_G G X M d Q pc lv (.int y :: .int x :: st) u := fun hO ls H locs hl hP hS => lv_irem hO.1 hO.2.1 hd hne (k hO ls H locs hl hP hS)
theorem g_ladd {x y : Int64} (hd : decode M.2.1 pc = .ok (.ladd, 1)) (k : uk_G G X M d Q (pc + 1) lv (.long (x + y) :: st) u) : uk_G G X M d Q pc lv (.long y :: .long x :: st) u := fun hO ls H locs hl hP hS => lv_ladd hO.1 hO.2.1 hd (k hO ls H locs hl hP hS)
theorem g_lmul {x y : Int64} (hd : decode M.2.1 pc = .ok (.lmul, 1)) (k : uk_G G X M d Q (pc + 1) lv (.long (x * y) :: st) u) : uk_G G X M d Q pc lv (.long y :: .long x :: st) u := fun hO ls H locs hl hP hS => lv_lmul hO.1 hO.2.1 hd (k hO ls H locs hl hP hS)
theorem g_ldiv {x y : Int64} (hd : decode M.2.1 pc = .ok (.ldiv, 1)) (hne : ¬ y = 0) (k : uk_G G X M d Q (pc + 1) lv (.long (x / y) :: st) u) : uk_G G X M d Q pc lv (.long y :: .long x :: st) u := fun hO ls H locs hl hP hS => lv_ldiv hO.1 hO.2.1 hd hne (k hO ls H locs hl hP hS)
theorem g_lrem {x y : Int64} (hd : decode M.2.1 pc = .ok (.lrem, 1)) (hne : ¬ y = 0) (k : uk_G G X M d Q (pc + 1) lv (.long (x - x / y * y) :: st) u) : uk_G G X M d Q pc lv (.long y :: .long x :: st) u := fun hO ls H locs hl hP hS => lv_lrem hO.1 hO.2.1 hd hne (k hO ls H locs hl hP hS)
theorem g_ishl {x y : Int32} (hd : decode M.2.1 pc = .ok (.ishl, 1)) (k : ∀ z : Int32, z = x <<< (y &&& 31) → uk_G G X M d Q (pc + 1) lv (.int z :: st) u) : uk_G G X M d Q pc lv (.int y :: .int x :: st) u := fun hO ls H locs hl hP hS => lv_ishl hO.1 hO.2.1 hd (k _ rfl hO ls H locs hl hP hS)
theorem g_ishr {x y : Int32} (hd : decode M.2.1 pc = .ok (.ishr, 1)) (k : ∀ z : Int32, z = x >>> (y &&& 31) → uk_G G X M d Q (pc + 1) lv (.int z :: st) u) : uk_G G X M d Q pc lv (.int y :: .int x :: st) u := fun hO ls H locs hl hP hS => lv_ishr hO.1 hO.2.1 hd (k _ rfl hO ls H locs hl hP hS)
theorem g_iushr {x y : Int32} (hd : decode M.2.1 pc = .ok (.iushr, 1)) (k : ∀ z : Int32, z = (x.toUInt32 >>> (y.toUInt32 &&& Int32.toUInt32 31)).toInt32 → uk_G G X M d Q (pc + 1) lv (.int z :: st) u) : uk_G G X M d Q pc lv (.int y :: .int x :: st) u := fun hO ls H locs hl hP hS => lv_iushr hO.1 hO.2.1 hd rfl (k _ rfl hO ls H locs hl hP hS)
theorem g_i2l {x : Int32} (hd : decode M.2.1 pc = .ok (.i2l, 1)) (k : uk_G G X M d Q (pc + 1) lv (.long x.toInt64 :: st) u) : uk_G G X M d Q pc lv (.int x :: st) u := fun hO ls H locs hl hP hS => lv_i2l hO.1 hO.2.1 hd rfl (k hO ls H locs hl hP hS)
theorem g_i2b {x : Int32} (hd : decode M.2.1 pc = .ok (.i2b, 1)) (k : uk_G G X M d Q (pc + 1) lv (.int x.toInt8.toInt32 :: st) u) : uk_G G X M d Q pc lv (.int x :: st) u := fun hO ls H locs hl hP hS => lv_i2b hO.1 hO.2.1 hd rfl (k hO ls H locs hl hP hS)
theorem g_i2s {x : Int32} (hd : decode M.2.1 pc = .ok (.i2s, 1)) (k : uk_G G X M d Q (pc + 1) lv (.int x.toInt16.toInt32 :: st) u) : uk_G G X M d Q pc lv (.int x :: st) u := fun hO ls H locs hl hP hS => lv_i2s hO.1 hO.2.1 hd rfl (k hO ls H locs hl hP hS)
theorem g_lcmp {x y : Int64} (hd : decode M.2.1 pc = .ok (.lcmp, 1)) (k : uk_G G X M d Q (pc + 1) lv (.int (lg_cmp x y) :: st) u) : uk_G G X M d Q pc lv (.long y :: .long x :: st) u := fun hO ls H locs hl hP hS => W.lcmp hO.1 hO.2.1 hd (k hO ls H locs hl hP hS)
theorem g_dup {v : Value} (hd : decode M.2.1 pc = .ok (.dup, 1)) (hv : v.category = 1) (k : uk_G G X M d Q (pc + 1) lv (v :: v :: st) u) : uk_G G X M d Q pc lv (v :: st) u := fun hO ls H locs hl hP hS => lv_dup hO.1 hO.2.1 hd hv (k hO ls H locs hl hP hS)
theorem g_pop {v : Value} (hd : decode M.2.1 pc = .ok (.pop, 1)) (hv : v.category = 1) (k : uk_G G X M d Q (pc + 1) lv st u) : uk_G G X M d Q pc lv (v :: st) u := fun hO ls H locs hl hP hS => lv_pop hO.1 hO.2.1 hd hv (k hO ls H locs hl hP hS)
theorem g_pop2 {v : Value} (hd : decode M.2.1 pc = .ok (.pop2, 1)) (hv : v.category = 2) (k : uk_G G X M d Q (pc + 1) lv st u) : uk_G G X M d Q pc lv (v :: st) u := fun hO ls H locs hl hP hS => lv_pop2_2 hO.1 hO.2.1 hd hv (k hO ls H locs hl hP hS)
theorem g_dup2 {v w : Value} (hd : decode M.2.1 pc = .ok (.dup2, 1)) (hv : v.category = 1) (hw : w.category = 1) (k : uk_G G X M d Q (pc + 1) lv (v :: w :: v :: w :: st) u) : uk_G G X M d Q pc lv (v :: w :: st) u := fun hO ls H locs hl hP hS => lv_dup2_11 hO.1 hO.2.1 hd hv hw (k hO ls H locs hl hP hS)
theorem g_goto {off : Int} {tgt : Nat} (hd : decode M.2.1 pc = .ok (.goto off, 3)) (ht : (pc : Int) + off = (tgt : Int)) (k : uk_G G X M d Q tgt lv st u) : uk_G G X M d Q pc lv st u := fun hO ls H locs hl hP hS => lv_goto hO.1 hO.2.1 hd ht (k hO ls H locs hl hP hS)
theorem g_if_eq {x : Int32} {off : Int} {tgt : Nat} (hd : decode M.2.1 pc = .ok (.ifCond .eq off, 3)) (ht : (pc : Int) + off = (tgt : Int)) (kt : x = 0 → uk_G G X M d Q tgt lv st u) (kf : ¬ x = 0 → uk_G G X M d Q (pc + 3) lv st u) : uk_G G X M d Q pc lv (.int x :: st) u := fun hO ls H locs hl hP hS => lv_if_eq hO.1 hO.2.1 hd ht (fun h => kt h hO ls H locs hl hP hS) (fun h => kf h hO ls H locs hl hP hS)
theorem g_icmp_eq {x y : Int32} {off : Int} {tgt : Nat} (hd : decode M.2.1 pc = .ok (.if_icmp .eq off, 3)) (ht : (pc : Int) + off = (tgt : Int)) (kt : x = y → uk_G G X M d Q tgt lv st u) (kf : ¬ x = y → uk_G G X M d Q (pc + 3) lv st u) : uk_G G X M d Q pc lv (.int y :: .int x :: st) u := fun hO ls H locs hl hP hS => lv_icmp_eq hO.1 hO.2.1 hd ht (fun h => kt h hO ls H locs hl hP hS) (fun h => kf h hO ls H locs hl hP hS)
theorem g_if_ne {x : Int32} {off : Int} {tgt : Nat} (hd : decode M.2.1 pc = .ok (.ifCond .ne off, 3)) (ht : (pc : Int) + off = (tgt : Int)) (kt : ¬ x = 0 → uk_G G X M d Q tgt lv st u) (kf : x = 0 → uk_G G X M d Q (pc + 3) lv st u) : uk_G G X M d Q pc lv (.int x :: st) u := fun hO ls H locs hl hP hS => lv_if_ne hO.1 hO.2.1 hd ht (fun h => kt h hO ls H locs hl hP hS) (fun h => kf h hO ls H locs hl hP hS)
theorem g_icmp_ne {x y : Int32} {off : Int} {tgt : Nat} (hd : decode M.2.1 pc = .ok (.if_icmp .ne off, 3)) (ht : (pc : Int) + off = (tgt : Int)) (kt : ¬ x = y → uk_G G X M d Q tgt lv st u) (kf : x = y → uk_G G X M d Q (pc + 3) lv st u) : uk_G G X M d Q pc lv (.int y :: .int x :: st) u := fun hO ls H locs hl hP hS => lv_icmp_ne hO.1 hO.2.1 hd ht (fun h => kt h hO ls H locs hl hP hS) (fun h => kf h hO ls H locs hl hP hS)
theorem g_if_lt {x : Int32} {off : Int} {tgt : Nat} (hd : decode M.2.1 pc = .ok (.ifCond .lt off, 3)) (ht : (pc : Int) + off = (tgt : Int)) (kt : x < 0 → uk_G G X M d Q tgt lv st u) (kf : ¬ x < 0 → uk_G G X M d Q (pc + 3) lv st u) : uk_G G X M d Q pc lv (.int x :: st) u := fun hO ls H locs hl hP hS => lv_if_lt hO.1 hO.2.1 hd ht (fun h => kt h hO ls H locs hl hP hS) (fun h => kf h hO ls H locs hl hP hS)
theorem g_icmp_lt {x y : Int32} {off : Int} {tgt : Nat} (hd : decode M.2.1 pc = .ok (.if_icmp .lt off, 3)) (ht : (pc : Int) + off = (tgt : Int)) (kt : x < y → uk_G G X M d Q tgt lv st u) (kf : ¬ x < y → uk_G G X M d Q (pc + 3) lv st u) : uk_G G X M d Q pc lv (.int y :: .int x :: st) u := fun hO ls H locs hl hP hS => lv_icmp_lt hO.1 hO.2.1 hd ht (fun h => kt h hO ls H locs hl hP hS) (fun h => kf h hO ls H locs hl hP hS)
theorem g_if_ge {x : Int32} {off : Int} {tgt : Nat} (hd : decode M.2.1 pc = .ok (.ifCond .ge off, 3)) (ht : (pc : Int) + off = (tgt : Int)) (kt : 0 ≤ x → uk_G G X M d Q tgt lv st u) (kf : ¬ 0 ≤ x → uk_G G X M d Q (pc + 3) lv st u) : uk_G G X M d Q pc lv (.int x :: st) u := fun hO ls H locs hl hP hS => lv_if_ge hO.1 hO.2.1 hd ht (fun h => kt h hO ls H locs hl hP hS) (fun h => kf h hO ls H locs hl hP hS)
theorem g_icmp_ge {x y : Int32} {off : Int} {tgt : Nat} (hd : decode M.2.1 pc = .ok (.if_icmp .ge off, 3)) (ht : (pc : Int) + off = (tgt : Int)) (kt : y ≤ x → uk_G G X M d Q tgt lv st u) (kf : ¬ y ≤ x → uk_G G X M d Q (pc + 3) lv st u) : uk_G G X M d Q pc lv (.int y :: .int x :: st) u := fun hO ls H locs hl hP hS => lv_icmp_ge hO.1 hO.2.1 hd ht (fun h => kt h hO ls H locs hl hP hS) (fun h => kf h hO ls H locs hl hP hS)
theorem g_if_gt {x : Int32} {off : Int} {tgt : Nat} (hd : decode M.2.1 pc = .ok (.ifCond .gt off, 3)) (ht : (pc : Int) + off = (tgt : Int)) (kt : 0 < x → uk_G G X M d Q tgt lv st u) (kf : ¬ 0 < x → uk_G G X M d Q (pc + 3) lv st u) : uk_G G X M d Q pc lv (.int x :: st) u := fun hO ls H locs hl hP hS => lv_if_gt hO.1 hO.2.1 hd ht (fun h => kt h hO ls H locs hl hP hS) (fun h => kf h hO ls H locs hl hP hS)
theorem g_icmp_gt {x y : Int32} {off : Int} {tgt : Nat} (hd : decode M.2.1 pc = .ok (.if_icmp .gt off, 3)) (ht : (pc : Int) + off = (tgt : Int)) (kt : y < x → uk_G G X M d Q tgt lv st u) (kf : ¬ y < x → uk_G G X M d Q (pc + 3) lv st u) : uk_G G X M d Q pc lv (.int y :: .int x :: st) u := fun hO ls H locs hl hP hS => lv_icmp_gt hO.1 hO.2.1 hd ht (fun h => kt h hO ls H locs hl hP hS) (fun h => kf h hO ls H locs hl hP hS)
theorem g_if_le {x : Int32} {off : Int} {tgt : Nat} (hd : decode M.2.1 pc = .ok (.ifCond .le off, 3)) (ht : (pc : Int) + off = (tgt : Int)) (kt : x ≤ 0 → uk_G G X M d Q tgt lv st u) (kf : ¬ x ≤ 0 → uk_G G X M d Q (pc + 3) lv st u) : uk_G G X M d Q pc lv (.int x :: st) u := fun hO ls H locs hl hP hS => lv_if_le hO.1 hO.2.1 hd ht (fun h => kt h hO ls H locs hl hP hS) (fun h => kf h hO ls H locs hl hP hS)
theorem g_icmp_le {x y : Int32} {off : Int} {tgt : Nat} (hd : decode M.2.1 pc = .ok (.if_icmp .le off, 3)) (ht : (pc : Int) + off = (tgt : Int)) (kt : x ≤ y → uk_G G X M d Q tgt lv st u) (kf : ¬ x ≤ y → uk_G G X M d Q (pc + 3) lv st u) : uk_G G X M d Q pc lv (.int y :: .int x :: st) u := fun hO ls H locs hl hP hS => lv_icmp_le hO.1 hO.2.1 hd ht (fun h => kt h hO ls H locs hl hP hS) (fun h => kf h hO ls H locs hl hP hS)
theorem g_tabOut {dflt lo hi : Int} {offs : Array Int} {len : Nat} {x : Int32} {tgt : Nat} (hd : decode M.2.1 pc = .ok (.tableswitch dflt lo hi offs, len)) (h : x.toInt < lo ∨ hi < x.toInt) (ht : (pc : Int) + dflt = (tgt : Int)) (k : uk_G G X M d Q tgt lv st u) : uk_G G X M d Q pc lv (.int x :: st) u := fun hO ls H locs hl hP hS => lv_tableOut hO.1 hO.2.1 hd h ht (k hO ls H locs hl hP hS)
theorem g_tabIn {dflt lo hi : Int} {offs : Array Int} {len : Nat} {x : Int32} {off : Int} {tgt : Nat} (hd : decode M.2.1 pc = .ok (.tableswitch dflt lo hi offs, len)) (h1 : ¬ x.toInt < lo) (h2 : ¬ hi < x.toInt) (ho : offs[(x.toInt - lo).toNat]? = some off) (ht : (pc : Int) + off = (tgt : Int)) (k : uk_G G X M d Q tgt lv st u) : uk_G G X M d Q pc lv (.int x :: st) u := fun hO ls H locs hl hP hS => lv_tableIn hO.1 hO.2.1 hd h1 h2 ho ht (k hO ls H locs hl hP hS)
theorem g_iret {v : Int32} {ty : FieldType} (hd : decode M.2.1 pc = .ok (.ireturn, 1)) (hr : M.2.2.2 = some ty) (hn : narrow ty (.int v) = .int v) (hq : Q (some (.int v)) u) : uk_G G X M d Q pc lv [.int v] u := fun hO ls H locs hl hP hS => hO.2.2.2.2.2.2.2.2.2 _ pc ls _ H locs u _ (Or.inl ⟨rfl, v, ty, rfl, rfl, hr, hn⟩) hd hq hP hS
theorem g_vret (hd : decode M.2.1 pc = .ok (.return_, 1)) (hr : M.2.2.2 = none) (hq : Q none u) : uk_G G X M d Q pc lv [] u := fun hO ls H locs hl hP hS => hO.2.2.2.2.2.2.2.2.2 _ pc ls _ H locs u _ (Or.inr (Or.inl ⟨rfl, rfl, rfl, hr⟩)) hd hq hP hS
theorem g_lret {v : Int64} (hd : decode M.2.1 pc = .ok (.lreturn, 1)) (hr : M.2.2.2 = some .long) (hq : Q (some (.long v)) u) : uk_G G X M d Q pc lv [.long v] u := fun hO ls H locs hl hP hS => hO.2.2.2.2.2.2.2.2.2 _ pc ls _ H locs u _ (Or.inr (Or.inr (Or.inl ⟨rfl, v, rfl, rfl, hr⟩))) hd hq hP hS
theorem g_aret {a : Nat} {n : String} (hd : decode M.2.1 pc = .ok (.areturn, 1)) (hr : M.2.2.2 = some (.object n)) (hq : Q (some (.ref a)) u) : uk_G G X M d Q pc lv [.ref a] u := fun hO ls H locs hl hP hS => hO.2.2.2.2.2.2.2.2.2 _ pc ls _ H locs u _ (Or.inr (Or.inr (Or.inr ⟨rfl, a, n, rfl, rfl, hr⟩))) hd hq hP hS
end UKR
section UKM
variable {G : uk_D} {X : uk_Cx} {M : uk_M} {d : Nat} {Q : Option Value → uk_Mem → Prop} {pc : Nat} {lv : List (Nat × Value)} {st : List Value} {u : uk_Mem}
theorem uk_ent_obj {c ci : Nat} (hk : uk_kind c = ci) (h : ci < 8) : uk_ent G u c = .inr (ci, uk_fvs G u c 0 (uk_ftab ci)) := by
  unfold uk_ent
  rw [hk]
  rcases (show ci = 0 ∨ ci = 1 ∨ ci = 2 ∨ ci = 3 ∨ ci = 4 ∨ ci = 5 ∨ ci = 6 ∨ ci = 7 by omega) with rfl | rfl | rfl | rfl | rfl | rfl | rfl | rfl <;> rfl
theorem uk_ent_8 {c : Nat} (hk : uk_kind c = 8) : uk_ent G u c = .inl (G.2.2.1 8, uk_len c, .inl (u.1 c)) := by
  unfold uk_ent
  rw [hk]
  rfl
theorem uk_ent_9 {c : Nat} (hk : uk_kind c = 9) : uk_ent G u c = .inl (G.2.2.1 9, uk_len c, .inl (u.1 c)) := by
  unfold uk_ent
  rw [hk]
  rfl
theorem uk_ent_10 {c : Nat} (hk : uk_kind c = 10) : uk_ent G u c = .inl (G.2.2.1 10, uk_len c, .inl (u.1 c)) := by
  unfold uk_ent
  rw [hk]
  rfl
theorem uk_ent_11 {c : Nat} (hk : uk_kind c = 11) : uk_ent G u c = .inl (G.2.2.1 11, uk_len c, .inr (.inl (u.2 c))) := by
  unfold uk_ent
  rw [hk]
  rfl
theorem uk_ent_12 {c : Nat} (hk : uk_kind c = 12) : uk_ent G u c = .inl (G.2.2.1 12, uk_len c, .inr (.inr (.inr (.inr (fun i => if i < uk_len c then some (uk_ad G (c + 1 + i)) else none))))) := by
  unfold uk_ent
  rw [hk]
  rfl
theorem uk_obj_at {c ci : Nat} (hk : uk_kind c = ci) (h : ci < 8) : (uk_ws G u)[c]? = some (uk_ad G c, .inr (ci, uk_fvs G u c 0 (uk_ftab ci))) := by
  rw [uk_ws_at (uk_lt hk (by omega)), uk_ent_obj hk h]
theorem g_geti {ci k idx c N : Nat} {C : String} {T : u_T} (hcl : vwCl[ci]? = some (C, T, N)) (hin : ∀ w ∈ u_ws C T N, w ∈ uk_w) (hci : ci < 8) (hkN : k < N) (hf : (uk_ftab ci)[k]? = some none) (hw : Cond.fieldLink M.1.cls idx (T k).1 (T k).2.1 (T k).2.2.1 ∈ uk_w) (hk : uk_kind c = ci) (hd : decode M.2.1 pc = .ok (.getfield idx, 3)) (K : uk_G G X M d Q (pc + 3) lv (.int (u.1 c k) :: st) u) : uk_G G X M d Q pc lv (.ref (uk_ad G c) :: st) u := fun hO ls H locs hl hP hS =>
  va_get (D := G.2.1) (ci := ci) (v := .int (u.1 c k)) (C := C) (T := T) (N := N) hO.1 hO.2.1 hO.2.2.2.2.1 hin hO.2.2.2.1 hO.2.2.2.2.2.1 hP c (uk_obj_at hk hci) hcl k hkN (hO.2.2.2.2.1 _ hw) (fun _ h => h) (by rw [uk_fvs_at, hf]; simp [uk_fv]) hd (K hO ls H locs hl hP hS)
theorem g_getr {ci k idx c N o : Nat} {C : String} {T : u_T} (hcl : vwCl[ci]? = some (C, T, N)) (hin : ∀ w ∈ u_ws C T N, w ∈ uk_w) (hci : ci < 8) (hkN : k < N) (hf : (uk_ftab ci)[k]? = some (some o)) (hw : Cond.fieldLink M.1.cls idx (T k).1 (T k).2.1 (T k).2.2.1 ∈ uk_w) (hk : uk_kind c = ci) (hd : decode M.2.1 pc = .ok (.getfield idx, 3)) (K : uk_G G X M d Q (pc + 3) lv (.ref (uk_ad G (c + o)) :: st) u) : uk_G G X M d Q pc lv (.ref (uk_ad G c) :: st) u := fun hO ls H locs hl hP hS =>
  va_get (D := G.2.1) (ci := ci) (v := .ref (uk_ad G (c + o))) (C := C) (T := T) (N := N) hO.1 hO.2.1 hO.2.2.2.2.1 hin hO.2.2.2.1 hO.2.2.2.2.2.1 hP c (uk_obj_at hk hci) hcl k hkN (hO.2.2.2.2.1 _ hw) (fun _ h => h) (by rw [uk_fvs_at, hf]; simp [uk_fv]) hd (K hO ls H locs hl hP hS)
theorem g_getiN {ci k idx c N : Nat} {C host : String} {T : u_T} (hcl : vwCl[ci]? = some (C, T, N)) (hin : ∀ w ∈ u_ws C T N, w ∈ uk_w) (hci : ci < 8) (hkN : k < N) (hf : (uk_ftab ci)[k]? = some none) (hw : Cond.fieldLinkNest M.1.cls idx (T k).1 (T k).2.1 (T k).2.2.1 host ∈ uk_nest) (hk : uk_kind c = ci) (hd : decode M.2.1 pc = .ok (.getfield idx, 3)) (K : uk_G G X M d Q (pc + 3) lv (.int (u.1 c k) :: st) u) : uk_G G X M d Q pc lv (.ref (uk_ad G c) :: st) u := fun hO ls H locs hl hP hS =>
  va_getN (D := G.2.1) (ci := ci) (v := .int (u.1 c k)) (C := C) (T := T) (N := N) hO.1 hO.2.1 hO.2.2.2.2.1 hin hO.2.2.2.1 hO.2.2.2.2.2.1 hP c (uk_obj_at hk hci) hcl k hkN (va_Nw.use rfl (hO.2.2.2.2.2.2.1.1 _ hw)) (fun _ h => h) (by rw [uk_fvs_at, hf]; simp [uk_fv]) hd (K hO ls H locs hl hP hS)
theorem g_getrN {ci k idx c N o : Nat} {C host : String} {T : u_T} (hcl : vwCl[ci]? = some (C, T, N)) (hin : ∀ w ∈ u_ws C T N, w ∈ uk_w) (hci : ci < 8) (hkN : k < N) (hf : (uk_ftab ci)[k]? = some (some o)) (hw : Cond.fieldLinkNest M.1.cls idx (T k).1 (T k).2.1 (T k).2.2.1 host ∈ uk_nest) (hk : uk_kind c = ci) (hd : decode M.2.1 pc = .ok (.getfield idx, 3)) (K : uk_G G X M d Q (pc + 3) lv (.ref (uk_ad G (c + o)) :: st) u) : uk_G G X M d Q pc lv (.ref (uk_ad G c) :: st) u := fun hO ls H locs hl hP hS =>
  va_getN (D := G.2.1) (ci := ci) (v := .ref (uk_ad G (c + o))) (C := C) (T := T) (N := N) hO.1 hO.2.1 hO.2.2.2.2.1 hin hO.2.2.2.1 hO.2.2.2.2.2.1 hP c (uk_obj_at hk hci) hcl k hkN (va_Nw.use rfl (hO.2.2.2.2.2.2.1.1 _ hw)) (fun _ h => h) (by rw [uk_fvs_at, hf]; simp [uk_fv]) hd (K hO ls H locs hl hP hS)
theorem uk_obj_set {c ci k : Nat} {x : Int32} (hk : uk_kind c = ci) (hci : ci < 8) (hf : (uk_ftab ci)[k]? = some none) : (uk_ws G u).set c (uk_ad G c, .inr (ci, (uk_fvs G u c 0 (uk_ftab ci)).set k (.int x))) = uk_ws G (uk_up u c k x) :=
  uk_ws_set (uk_lt hk (by omega)) (by rw [uk_ent_obj hk hci, uk_fvs_set G u c x _ 0 k hf, Nat.zero_add]) uk_up_ne
theorem g_puti {ci k idx c N : Nat} {C : String} {T : u_T} {ty0 : Nat → FieldType} {x : Int32} (hcl : vwCl[ci]? = some (C, T, N)) (hin : ∀ w ∈ u_ws C T N, w ∈ uk_w) (hci : ci < 8) (hkN : k < N) (hf : (uk_ftab ci)[k]? = some none) (hty : ∀ k, k < N → parseFieldDescriptor (T k).2.2.1 = some (ty0 k)) (hnm : ∀ a, a < N → ∀ b, b < N → a ≠ b → (T a).2.1 ≠ (T b).2.1) (hfin : (T k).2.2.2 = false) (hpd : parseFieldDescriptor (T k).2.2.1 = some .int) (hlen : k < (uk_ftab ci).length) (hw : Cond.fieldLink M.1.cls idx (T k).1 (T k).2.1 (T k).2.2.1 ∈ uk_w) (hk : uk_kind c = ci) (hd : decode M.2.1 pc = .ok (.putfield idx, 3)) (K : uk_G G X M d Q (pc + 3) lv st (uk_up u c k x)) : uk_G G X M d Q pc lv (.int x :: .ref (uk_ad G c) :: st) u := fun hO ls H locs hl hP hS =>
  va_put (D := G.2.1) (ci := ci) (v := .int x) (ty := .int) (C := C) (T := T) (N := N) hO.1 hO.2.1 hO.2.2.2.2.1 hin ty0 hty hnm hO.2.2.2.1 hO.2.2.2.2.2.1 hP (uk_sepD hO.2.2.2.2.2.2.2.1 u) hS c (uk_obj_at hk hci) hcl k hkN (hO.2.2.2.2.1 _ hw) (fun _ h => h) hfin hpd rfl rfl (by rw [uk_fvs_len]; exact hlen) hd (fun H1 locs1 hP1 _ hS1 => K hO ls H1 locs1 hl (by rw [uk_obj_set hk hci hf] at hP1; exact hP1) hS1)
theorem g_putiN {ci k idx c N : Nat} {C host : String} {T : u_T} {ty0 : Nat → FieldType} {x : Int32} (hcl : vwCl[ci]? = some (C, T, N)) (hin : ∀ w ∈ u_ws C T N, w ∈ uk_w) (hci : ci < 8) (hkN : k < N) (hf : (uk_ftab ci)[k]? = some none) (hty : ∀ k, k < N → parseFieldDescriptor (T k).2.2.1 = some (ty0 k)) (hnm : ∀ a, a < N → ∀ b, b < N → a ≠ b → (T a).2.1 ≠ (T b).2.1) (hfin : (T k).2.2.2 = false) (hpd : parseFieldDescriptor (T k).2.2.1 = some .int) (hlen : k < (uk_ftab ci).length) (hw : Cond.fieldLinkNest M.1.cls idx (T k).1 (T k).2.1 (T k).2.2.1 host ∈ uk_nest) (hk : uk_kind c = ci) (hd : decode M.2.1 pc = .ok (.putfield idx, 3)) (K : uk_G G X M d Q (pc + 3) lv st (uk_up u c k x)) : uk_G G X M d Q pc lv (.int x :: .ref (uk_ad G c) :: st) u := fun hO ls H locs hl hP hS =>
  va_putN (D := G.2.1) (ci := ci) (v := .int x) (ty := .int) (C := C) (T := T) (N := N) hO.1 hO.2.1 hO.2.2.2.2.1 hin ty0 hty hnm hO.2.2.2.1 hO.2.2.2.2.2.1 hP (uk_sepD hO.2.2.2.2.2.2.2.1 u) hS c (uk_obj_at hk hci) hcl k hkN (va_Nw.use rfl (hO.2.2.2.2.2.2.1.1 _ hw)) (fun _ h => h) hfin hpd rfl rfl (by rw [uk_fvs_len]; exact hlen) hd (fun H1 locs1 hP1 _ hS1 => K hO ls H1 locs1 hl (by rw [uk_obj_set hk hci hf] at hP1; exact hP1) hS1)
theorem uk_arr_at8 {c n : Nat} (hk : uk_kind c = 8) (hn : uk_len c = n) : (uk_ws G u)[c]? = some (uk_ad G c, .inl (G.2.2.1 8, n, .inl (u.1 c))) := by
  rw [uk_ws_at (uk_lt hk (by omega)), uk_ent_8 hk, hn]
theorem uk_arr_at9 {c n : Nat} (hk : uk_kind c = 9) (hn : uk_len c = n) : (uk_ws G u)[c]? = some (uk_ad G c, .inl (G.2.2.1 9, n, .inl (u.1 c))) := by
  rw [uk_ws_at (uk_lt hk (by omega)), uk_ent_9 hk, hn]
theorem uk_arr_at10 {c n : Nat} (hk : uk_kind c = 10) (hn : uk_len c = n) : (uk_ws G u)[c]? = some (uk_ad G c, .inl (G.2.2.1 10, n, .inl (u.1 c))) := by
  rw [uk_ws_at (uk_lt hk (by omega)), uk_ent_10 hk, hn]
theorem uk_arr_at11 {c n : Nat} (hk : uk_kind c = 11) (hn : uk_len c = n) : (uk_ws G u)[c]? = some (uk_ad G c, .inl (G.2.2.1 11, n, .inr (.inl (u.2 c)))) := by
  rw [uk_ws_at (uk_lt hk (by omega)), uk_ent_11 hk, hn]
theorem uk_up_self (c i : Nat) (x : Int32) : (uk_up u c i x).1 c = upd (u.1 c) i x := by simp [uk_up]
theorem uk_upL_self (c i : Nat) (x : Int64) : (uk_upL u c i x).2 c = vp_updL (u.2 c) i x := by simp [uk_upL]
theorem g_iald {c n : Nat} {i : Int32} (hk : uk_kind c = 8) (hn : uk_len c = n) (hi : vp_in i n) (hd : decode M.2.1 pc = .ok (.iaload, 1)) (K : uk_G G X M d Q (pc + 1) lv (.int (u.1 c i.toNatClampNeg) :: st) u) : uk_G G X M d Q pc lv (.int i :: .ref (uk_ad G c) :: st) u := fun hO ls H locs hl hP hS =>
  va_iald (D := G.2.1) hO.1 hO.2.1 hO.2.2.2.2.2.1 hP c 0 (uk_arr_at8 hk hn) rfl hi hd (K hO ls H locs hl hP hS)
theorem g_bald {c n : Nat} {i : Int32} (hk : uk_kind c = 9) (hn : uk_len c = n) (hi : vp_in i n) (hd : decode M.2.1 pc = .ok (.baload, 1)) (K : uk_G G X M d Q (pc + 1) lv (.int (u.1 c i.toNatClampNeg) :: st) u) : uk_G G X M d Q pc lv (.int i :: .ref (uk_ad G c) :: st) u := fun hO ls H locs hl hP hS =>
  va_bald (D := G.2.1) hO.1 hO.2.1 hO.2.2.2.2.2.1 hP c 1 (uk_arr_at9 hk hn) rfl hi hd (K hO ls H locs hl hP hS)
theorem g_zald {c n : Nat} {i : Int32} (hk : uk_kind c = 10) (hn : uk_len c = n) (hi : vp_in i n) (hd : decode M.2.1 pc = .ok (.baload, 1)) (K : uk_G G X M d Q (pc + 1) lv (.int (u.1 c i.toNatClampNeg) :: st) u) : uk_G G X M d Q pc lv (.int i :: .ref (uk_ad G c) :: st) u := fun hO ls H locs hl hP hS =>
  va_zald (D := G.2.1) hO.1 hO.2.1 hO.2.2.2.2.2.1 hP c 2 (uk_arr_at10 hk hn) rfl hi hd (K hO ls H locs hl hP hS)
theorem g_lald {c n : Nat} {i : Int32} (hk : uk_kind c = 11) (hn : uk_len c = n) (hi : vp_in i n) (hd : decode M.2.1 pc = .ok (.laload, 1)) (K : uk_G G X M d Q (pc + 1) lv (.long (u.2 c i.toNatClampNeg) :: st) u) : uk_G G X M d Q pc lv (.int i :: .ref (uk_ad G c) :: st) u := fun hO ls H locs hl hP hS =>
  va_lald (D := G.2.1) hO.1 hO.2.1 hO.2.2.2.2.2.1 hP c 3 (uk_arr_at11 hk hn) rfl hi hd (K hO ls H locs hl hP hS)
theorem g_iast {c n : Nat} {i x : Int32} (hk : uk_kind c = 8) (hn : uk_len c = n) (hi : vp_in i n) (hd : decode M.2.1 pc = .ok (.iastore, 1)) (K : uk_G G X M d Q (pc + 1) lv st (uk_up u c i.toNatClampNeg x)) : uk_G G X M d Q pc lv (.int x :: .int i :: .ref (uk_ad G c) :: st) u := fun hO ls H locs hl hP hS =>
  va_iast (D := G.2.1) hO.1 hO.2.1 hO.2.2.2.2.2.1 hP (uk_sepD hO.2.2.2.2.2.2.2.1 u) hS c 0 (uk_arr_at8 hk hn) rfl hi hd (fun H1 locs1 hP1 _ hS1 => K hO ls H1 locs1 hl (by rw [uk_ws_set (u' := uk_up u c i.toNatClampNeg x) (uk_lt hk (by omega)) (by rw [uk_ent_8 hk, hn, uk_up_self]) uk_up_ne] at hP1; exact hP1) hS1)
theorem g_bast {c n : Nat} {i x : Int32} (hk : uk_kind c = 9) (hn : uk_len c = n) (hi : vp_in i n) (hd : decode M.2.1 pc = .ok (.bastore, 1)) (K : uk_G G X M d Q (pc + 1) lv st (uk_up u c i.toNatClampNeg (vp_nar .byte x))) : uk_G G X M d Q pc lv (.int x :: .int i :: .ref (uk_ad G c) :: st) u := fun hO ls H locs hl hP hS =>
  va_bast (D := G.2.1) hO.1 hO.2.1 hO.2.2.2.2.2.1 hP (uk_sepD hO.2.2.2.2.2.2.2.1 u) hS c 1 (uk_arr_at9 hk hn) rfl hi hd (fun H1 locs1 hP1 _ hS1 => K hO ls H1 locs1 hl (by rw [uk_ws_set (u' := uk_up u c i.toNatClampNeg (vp_nar .byte x)) (uk_lt hk (by omega)) (by rw [uk_ent_9 hk, hn, uk_up_self]) uk_up_ne] at hP1; exact hP1) hS1)
theorem g_zast {c n : Nat} {i x : Int32} (hk : uk_kind c = 10) (hn : uk_len c = n) (hi : vp_in i n) (hd : decode M.2.1 pc = .ok (.bastore, 1)) (K : uk_G G X M d Q (pc + 1) lv st (uk_up u c i.toNatClampNeg (vp_nar .boolean x))) : uk_G G X M d Q pc lv (.int x :: .int i :: .ref (uk_ad G c) :: st) u := fun hO ls H locs hl hP hS =>
  va_zast (D := G.2.1) hO.1 hO.2.1 hO.2.2.2.2.2.1 hP (uk_sepD hO.2.2.2.2.2.2.2.1 u) hS c 2 (uk_arr_at10 hk hn) rfl hi hd (fun H1 locs1 hP1 _ hS1 => K hO ls H1 locs1 hl (by rw [uk_ws_set (u' := uk_up u c i.toNatClampNeg (vp_nar .boolean x)) (uk_lt hk (by omega)) (by rw [uk_ent_10 hk, hn, uk_up_self]) uk_up_ne] at hP1; exact hP1) hS1)
theorem g_last {c n : Nat} {i : Int32} {x : Int64} (hk : uk_kind c = 11) (hn : uk_len c = n) (hi : vp_in i n) (hd : decode M.2.1 pc = .ok (.lastore, 1)) (K : uk_G G X M d Q (pc + 1) lv st (uk_upL u c i.toNatClampNeg x)) : uk_G G X M d Q pc lv (.long x :: .int i :: .ref (uk_ad G c) :: st) u := fun hO ls H locs hl hP hS =>
  va_last (D := G.2.1) hO.1 hO.2.1 hO.2.2.2.2.2.1 hP (uk_sepD hO.2.2.2.2.2.2.2.1 u) hS c 3 (uk_arr_at11 hk hn) rfl hi hd (fun H1 locs1 hP1 _ hS1 => K hO ls H1 locs1 hl (by rw [uk_ws_set (u' := uk_upL u c i.toNatClampNeg x) (uk_lt hk (by omega)) (by rw [uk_ent_11 hk, hn, uk_upL_self]) uk_upL_ne] at hP1; exact hP1) hS1)
theorem g_alen8 {c n : Nat} {v : Int32} (hk : uk_kind c = 8) (hn : uk_len c = n) (hv : Int32.ofNat n = v) (hd : decode M.2.1 pc = .ok (.arraylength, 1)) (K : uk_G G X M d Q (pc + 1) lv (.int v :: st) u) : uk_G G X M d Q pc lv (.ref (uk_ad G c) :: st) u := fun hO ls H locs hl hP hS =>
  va_alen (D := G.2.1) hO.1 hO.2.1 hO.2.2.2.2.2.1 hP c 0 (uk_arr_at8 hk hn) rfl hv hd (K hO ls H locs hl hP hS)
theorem g_aald {c n : Nat} {i : Int32} (hk : uk_kind c = 12) (hn : uk_len c = n) (hi : vp_in i n) (hd : decode M.2.1 pc = .ok (.aaload, 1)) (K : uk_G G X M d Q (pc + 1) lv (.ref (uk_ad G (c + 1 + i.toNatClampNeg)) :: st) u) : uk_G G X M d Q pc lv (.int i :: .ref (uk_ad G c) :: st) u := fun hO ls H locs hl hP hS => by
  have hlt : i.toNatClampNeg < n := Nat.not_le.mp fun q => hi (Or.inr q)
  have ha : (uk_ws G u)[c]? = some (uk_ad G c, .inl (G.2.2.1 12, n, .inr (.inr (.inr (.inr (fun i => if i < n then some (uk_ad G (c + 1 + i)) else none)))))) := by
    rw [uk_ws_at (uk_lt hk (by omega)), uk_ent_12 hk, hn]
  have hv : va_rf (if i.toNatClampNeg < n then some (uk_ad G (c + 1 + i.toNatClampNeg)) else none) = .ref (uk_ad G (c + 1 + i.toNatClampNeg)) := by
    rw [if_pos hlt]
    rfl
  exact W.aald (v := .ref (uk_ad G (c + 1 + i.toNatClampNeg))) (ty := .array .int) hO.1 hO.2.1 (hP c _ ha) ((hO.2.2.2.2.2.1.2 4 _ rfl).1 n (fun j => va_rf (if j < n then some (uk_ad G (c + 1 + j)) else none))) rfl (fun q => by cases q) (by show ¬ (i < 0 ∨ (arrV _ _ _).slots.size ≤ _); rw [arrV_size]; exact hi) (by show (arrV _ _ _).slots[_]? = _; rw [arrV_read _ _ hlt]; exact congrArg some hv) rfl rfl hd (K hO ls H locs hl hP hS)
end UKM
section UKC
variable {G : uk_D} {X : uk_Cx} {M : uk_M} {d : Nat} {Q : Option Value → uk_Mem → Prop} {pc : Nat} {lv : List (Nat × Value)} {st stk : List Value} {u : uk_Mem}
theorem uk_blind {As : List Value} : FrameBlind (va_Pc As (uk_B G u)) := fun a U g mk q => by
  obtain ⟨q0, qP, qK, qN, qE⟩ := q
  exact ⟨q0, qP, va_K.moved (u := U) (U := U.calling g mk a) (Vm.Alike.refl U.vm) qK, fun w hw => uk_nestC (s := U) (U := U.calling g mk a) (List.mem_filter.mp hw).2 rfl (qN w hw), uk_E.same (U := U.calling g mk a) qE rfl rfl⟩
theorem uk_pre {As : List Value} {H : Heap} {locs : List Loc} (hO : uk_Ok G X M d Q) (hP : va_P G.2.1 vwCl (uk_ws G u) H) (hS : va_S G.2.2.2.2 X.2.2.2.1.heap H locs) : ∀ U : State, U.heap = H → X.2.2.2.1.WarmedH U.vm → va_Pc As (uk_B G u) As.toArray U := fun U hU hW => ⟨rfl, by rw [hU]; exact hP, va_K.moved hW.alike hO.2.2.2.2.2.1, fun w hw => uk_nestW (List.mem_filter.mp hw).2 hW (hO.2.2.2.2.2.2.1.1 w hw), uk_E.go hO.2.2.2.2.2.2.1.2 (by rw [hU]; exact hS.2.1) hW⟩
/-- behind a call -/
theorem uk_after {H : Heap} {locs : List Loc} {ls : Array Slot} {a : Array Value} {Q' : Option Value → uk_Mem → Prop} (hO : uk_Ok G X M d Q) (hl : lv_has ls M.2.2.1 lv) (hS : va_S G.2.2.2.2 X.2.2.2.1.heap H locs)
    (hr : va_Run X.1 G.1 X.2.1 X.2.2.1 X.2.2.2.1 X.2.2.2.2.1 X.2.2.2.2.2.1 X.2.2.2.2.2.2.1 X.2.2.2.2.2.2.2.1 X.2.2.2.2.2.2.2.2.1 H locs X.2.2.2.2.2.2.2.2.2.1 X.2.2.2.2.2.2.2.2.2.2.1 0 0 (F0 X.2.2.2.2.1 pc ls stk) st (uk_Q G Q' a) G.2.2.2.2)
    (K : ∀ (r : Option Value) (u' : uk_Mem), Q' r u' → uk_G G X M d Q (pc + 3) lv (r.toList ++ st) u') :
    W X.1 G.1 X.2.1 X.2.2.1 X.2.2.2.1 X.2.2.2.2.1 X.2.2.2.2.2.1 X.2.2.2.2.2.2.1 X.2.2.2.2.2.2.2.1 X.2.2.2.2.2.2.2.2.1 H locs X.2.2.2.2.2.2.2.2.2.1 X.2.2.2.2.2.2.2.2.2.2.1 X.2.2.2.2.2.2.2.2.2.2.2 (F0 X.2.2.2.2.1 pc ls stk) := by
  intro T hT Y
  obtain ⟨v, st₀, t, T', L, h0, Y', hL, e1, e2, ⟨⟨r, u', hv, hq, hB⟩, hz, hk⟩, stp⟩ := hr T hT Y
  cases hv
  rw [h0] at hz hk
  have hP' : va_P G.2.1 vwCl (uk_ws G u') T'.heap := by rw [e1]; exact hB.1
  have hS' : va_S G.2.2.2.2 X.2.2.2.1.heap T'.heap (locs ++ L) := ⟨Nat.le_trans hS.1 (by rw [e1]; exact hz), fun q h1 h2 => by rw [e1, hk q (Nat.lt_of_lt_of_le h1 hS.1) h2]; exact hS.2.1 q h1 h2, fun q hq => by
      rcases List.mem_append.mp hq with h | h
      · exact hS.2.2 q h
      · exact hL q h⟩
  obtain ⟨t2, a1, b1⟩ := K v u' hq hO ls T'.heap (locs ++ L) hl hP' hS' T' rfl Y'
  exact ⟨t2, stp t2 a1, b1⟩
theorem uk_room {d' n : Nat} (hO : uk_Ok G X M d Q) (h : d' + 1 ≤ d) (hn : n ≤ 21) : (uk_rm d').frames + 1 ≤ X.2.2.1.frames ∧ 8 + (n + 11) + (uk_rm d').locals ≤ X.2.2.1.locals := by
  obtain ⟨h1, h2, -, -⟩ := hO.2.2.2.2.2.2.2.2.1
  refine ⟨Nat.le_trans h h1, Nat.le_trans ?_ h2⟩
  show 8 + (n + 11) + 40 * d' ≤ 40 * d
  omega
/-- a method of the own class, of this object or another -/
theorem g_callV {M' : uk_M} {ci d' idx c N nA : Nat} {C : String} {T : u_T} {As : List Value} {Q' : Option Value → uk_Mem → Prop} (hcl : vwCl[ci]? = some (C, T, N)) (hci : ci < 8) (hC : M'.1.cls = C) (hy : M'.1.cls ≠ "java/lang/invoke/MethodHandle" ∧ M'.1.cls ≠ "java/lang/invoke/VarHandle" ∧ (parseMethodDescriptor M'.1.desc).map (fun d => d.parameters.length) = some nA) (hn : M'.2.2.1 ≤ 21)
    (w1 : Cond.methodLink M.1.cls idx M'.1 ∈ uk_w) (w2 : Cond.instanceMethod M'.1 ∈ uk_w) (w3 : Cond.selects C M'.1 M'.1 ∈ uk_w) (w4 : Cond.initialized C ∈ uk_w) (w5 : Cond.code M'.1 M'.2.1 M'.2.2.1 M'.2.2.2 ∈ uk_w)
    (hA : As.length = nA) (hm : uk_Meth G d' M' (.ref (uk_ad G c) :: As) u Q') (hdd : d' + 1 ≤ d) (hk : uk_kind c = ci) (hst : stk = As.reverse ++ .ref (uk_ad G c) :: st) (hc : (st.map fun v => v.category).sum ≤ 8) (hd : decode M.2.1 pc = .ok (.invokevirtual idx, 3))
    (K : ∀ (r : Option Value) (u' : uk_Mem), Q' r u' → uk_G G X M d Q (pc + 3) lv (r.toList ++ st) u') : uk_G G X M d Q pc lv stk u := fun hO ls H locs hl hP hS => by
  subst hC
  have hw := hO.2.2.2.2.1
  refine uk_after (Q' := Q') hO hl hS (a := (Value.ref (uk_ad G c) :: As).toArray) (va_runV (As := As) (rest := st) (Ts := uk_w) ⟨hO.1, hO.2.1, hO.2.2.1, hO.2.2.2.1, hw⟩ hm ⟨callB_of nA hw (uk_goodIn w5) rfl rfl rfl (hw _ w4) (hw _ w1) hy (uk_room hO hdd hn), hw _ w2, hw _ w3⟩ ⟨uk_blind, va_recv hO.2.2.2.2.2.1 hP hcl (uk_obj_at hk hci), uk_pre hO hP hS⟩ rfl hA hl.1 hst (lv_room hc) hd ⟨hO.2.2.2.2.2.2.2.2.1.2.2.1, hO.2.2.2.2.2.2.2.2.1.2.2.2⟩) K
/-- a nest mate's method -/
theorem g_callVN {M' : uk_M} {ci d' idx c N nA : Nat} {C host : String} {T : u_T} {As : List Value} {Q' : Option Value → uk_Mem → Prop} (hcl : vwCl[ci]? = some (C, T, N)) (hci : ci < 8) (hC : M'.1.cls = C) (hy : M'.1.cls ≠ "java/lang/invoke/MethodHandle" ∧ M'.1.cls ≠ "java/lang/invoke/VarHandle" ∧ (parseMethodDescriptor M'.1.desc).map (fun d => d.parameters.length) = some nA) (hn : M'.2.2.1 ≤ 21)
    (w1 : Cond.methodLinkNest M.1.cls idx M'.1 host ∈ uk_nest) (w2 : Cond.instanceMethod M'.1 ∈ uk_w) (w3 : Cond.selects C M'.1 M'.1 ∈ uk_w) (w4 : Cond.initialized C ∈ uk_w) (w5 : Cond.code M'.1 M'.2.1 M'.2.2.1 M'.2.2.2 ∈ uk_w)
    (hA : As.length = nA) (hm : uk_Meth G d' M' (.ref (uk_ad G c) :: As) u Q') (hdd : d' + 1 ≤ d) (hk : uk_kind c = ci) (hst : stk = As.reverse ++ .ref (uk_ad G c) :: st) (hc : (st.map fun v => v.category).sum ≤ 8) (hd : decode M.2.1 pc = .ok (.invokevirtual idx, 3))
    (K : ∀ (r : Option Value) (u' : uk_Mem), Q' r u' → uk_G G X M d Q (pc + 3) lv (r.toList ++ st) u') : uk_G G X M d Q pc lv stk u := fun hO ls H locs hl hP hS => by
  subst hC
  have hw := hO.2.2.2.2.1
  refine uk_after (Q' := Q') hO hl hS (a := (Value.ref (uk_ad G c) :: As).toArray) (va_runVN (As := As) (rest := st) (Ts := uk_w) ⟨hO.1, hO.2.1, hO.2.2.1, hO.2.2.2.1, hw⟩ hm ⟨va_cnB nA hw (uk_goodIn w5) rfl rfl rfl (hO.2.2.2.2.2.2.1.1 _ w1) (hw _ w4) hy (uk_room hO hdd hn), hw _ w2, hw _ w3⟩ ⟨uk_blind, va_recv hO.2.2.2.2.2.1 hP hcl (uk_obj_at hk hci), uk_pre hO hP hS⟩ rfl hA hl.1 hst (lv_room hc) hd ⟨hO.2.2.2.2.2.2.2.2.1.2.2.1, hO.2.2.2.2.2.2.2.2.1.2.2.2⟩) K
/-- a static method of the own class -/
theorem g_callS {M' : uk_M} {d' idx nA : Nat} {As : List Value} {Q' : Option Value → uk_Mem → Prop} (hy : M'.1.cls ≠ "java/lang/invoke/MethodHandle" ∧ M'.1.cls ≠ "java/lang/invoke/VarHandle" ∧ (parseMethodDescriptor M'.1.desc).map (fun d => d.parameters.length) = some nA) (hn : M'.2.2.1 ≤ 21)
    (w1 : Cond.methodLink M.1.cls idx M'.1 ∈ uk_w) (w2 : Cond.static M'.1 ∈ uk_w) (w4 : Cond.initialized M'.1.cls ∈ uk_w) (w5 : Cond.code M'.1 M'.2.1 M'.2.2.1 M'.2.2.2 ∈ uk_w)
    (hA : As.length = nA) (hm : uk_Meth G d' M' As u Q') (hdd : d' + 1 ≤ d) (hst : stk = As.reverse ++ st) (hc : (st.map fun v => v.category).sum ≤ 8) (hd : decode M.2.1 pc = .ok (.invokestatic idx, 3))
    (K : ∀ (r : Option Value) (u' : uk_Mem), Q' r u' → uk_G G X M d Q (pc + 3) lv (r.toList ++ st) u') : uk_G G X M d Q pc lv stk u := fun hO ls H locs hl hP hS => by
  have hw := hO.2.2.2.2.1
  refine uk_after (Q' := Q') hO hl hS (a := As.toArray) (va_runS (As := As) (rest := st) (Ts := uk_w) ⟨hO.1, hO.2.1, hO.2.2.1, hO.2.2.2.1, hw⟩ hm ⟨callB_of nA hw (uk_goodIn w5) rfl rfl rfl (hw _ w4) (hw _ w1) hy (uk_room hO hdd hn), hw _ w2⟩ ⟨uk_blind, uk_pre hO hP hS⟩ rfl hA hl.1 hst (lv_room hc) hd ⟨hO.2.2.2.2.2.2.2.2.1.2.2.1, hO.2.2.2.2.2.2.2.2.1.2.2.2⟩) K
/-- a nest mate's static method -/
theorem g_callSN {M' : uk_M} {d' idx nA : Nat} {host : String} {As : List Value} {Q' : Option Value → uk_Mem → Prop} (hy : M'.1.cls ≠ "java/lang/invoke/MethodHandle" ∧ M'.1.cls ≠ "java/lang/invoke/VarHandle" ∧ (parseMethodDescriptor M'.1.desc).map (fun d => d.parameters.length) = some nA) (hn : M'.2.2.1 ≤ 21)
    (w1 : Cond.methodLinkNest M.1.cls idx M'.1 host ∈ uk_nest) (w2 : Cond.static M'.1 ∈ uk_w) (w4 : Cond.initialized M'.1.cls ∈ uk_w) (w5 : Cond.code M'.1 M'.2.1 M'.2.2.1 M'.2.2.2 ∈ uk_w)
    (hA : As.length = nA) (hm : uk_Meth G d' M' As u Q') (hdd : d' + 1 ≤ d) (hst : stk = As.reverse ++ st) (hc : (st.map fun v => v.category).sum ≤ 8) (hd : decode M.2.1 pc = .ok (.invokestatic idx, 3))
    (K : ∀ (r : Option Value) (u' : uk_Mem), Q' r u' → uk_G G X M d Q (pc + 3) lv (r.toList ++ st) u') : uk_G G X M d Q pc lv stk u := fun hO ls H locs hl hP hS => by
  have hw := hO.2.2.2.2.1
  refine uk_after (Q' := Q') hO hl hS (a := As.toArray) (va_runSN (As := As) (rest := st) (Ts := uk_w) ⟨hO.1, hO.2.1, hO.2.2.1, hO.2.2.2.1, hw⟩ hm ⟨va_cnB nA hw (uk_goodIn w5) rfl rfl rfl (hO.2.2.2.2.2.2.1.1 _ w1) (hw _ w4) hy (uk_room hO hdd hn), hw _ w2, trivial⟩ ⟨uk_blind, uk_pre hO hP hS⟩ rfl hA hl.1 hst (lv_room hc) hd ⟨hO.2.2.2.2.2.2.2.2.1.2.2.1, hO.2.2.2.2.2.2.2.2.1.2.2.2⟩) K
/-- a method's contract out of its walk -/
theorem uk_Meth.of {As : List Value} (hs : uk_Sep G) (hy : plainName M.1.cls = true) (hn : (lg_sl As).length ≤ M.2.2.1) (h : ∀ X : uk_Cx, uk_G G X M d Q 0 (lv_args 0 As) [] u) : uk_Meth G d M As u Q := by
  refine Met.ofW (cc := M.2.1) (maxL := M.2.2.1) (ret := M.2.2.2) hy rfl ?_
  intro p e s m args below meth c s₁ B hml hv
  obtain ⟨rfl, hP, hK, hN, hE⟩ := hv
  have hts := atoms_spec (ws := .code M.1 M.2.1 M.2.2.1 M.2.2.2 :: uk_w) B.pre
  have hown : s.vm.findClass M.1.cls = some m.cls := findClass_of_methodNamed B.named
  have hlocks : meth.locks = false := B.notSynchronized
  have hr : meth.sig.returnType = M.2.2.2 := B.returns
  have hl := lv_entry As (n := M.2.2.1) hn
  rw [lg_entry_eq]
  refine h (p, e, (headSpec (.code M.1 M.2.1 M.2.2.1 M.2.2.2 :: uk_w) (uk_rm d)).room, s, m, As.toArray, below, meth, c, 0, 0, MQ below (uk_Q G Q) As.toArray s 0 0 G.2.2.2.2) ⟨B.exec, B.bytes, hml, hown, fun w hw => hts w (List.mem_cons_of_mem _ hw), hK, ⟨hN, hE⟩, hs, ⟨Nat.le_refl _, Nat.le_refl _, Nat.zero_le _, Nat.zero_le _⟩, ?_⟩ _ s.heap [] hl hP va_S.rf
  intro i pc ls st H locs u r hi hd hq hP hS
  have fin : ∀ t : State, t.heap = H → s.WarmedH t.vm → uk_Q G Q As.toArray s (.returned r) t := fun t ht hW => ⟨⟨r, u, rfl, hq, by rw [ht]; exact hP, va_K.moved hW.alike hK, fun w hw => uk_nestW (List.mem_filter.mp hw).2 hW (hN w hw), uk_E.go hE (by rw [ht]; exact hS.2.1) hW⟩, hS.F ht⟩
  rcases hi with ⟨rfl, v, ty, rfl, rfl, hty, hnr⟩ | ⟨rfl, rfl, rfl, hty⟩ | ⟨rfl, v, rfl, rfl, hty⟩ | ⟨rfl, a, n, rfl, rfl, hty⟩
  · exact W.zret B.exec B.bytes (hr.trans hty) hnr fin hS.2.2 hd hlocks
  · exact W.vret B.exec B.bytes (hr.trans hty) fin hS.2.2 hd hlocks
  · exact W.lret B.exec B.bytes (hr.trans hty) fin hS.2.2 hd hlocks
  · exact W.aret B.exec B.bytes (hr.trans hty) (Or.inl ⟨n, rfl⟩) (Or.inr ⟨a, rfl⟩) fin hS.2.2 hd hlocks
theorem uk_Meth.imp {As : List Value} {Q' : Option Value → uk_Mem → Prop} (h : uk_Meth G d M As u Q) (hq : ∀ r u', Q r u' → Q' r u') : uk_Meth G d M As u Q' := by
  intro p e ha hc hk s m args below hf hfit hheap hpre
  obtain ⟨k, o, h1, h2, h3, ⟨⟨⟨r, u', e1, e2, e3⟩, e4⟩, e5⟩⟩ := h p e ha hc hk s m args below hf hfit hheap hpre
  exact ⟨k, o, h1, h2, h3, ⟨⟨⟨r, u', e1, hq r u' e2, e3⟩, e4⟩, e5⟩⟩
end UKC
