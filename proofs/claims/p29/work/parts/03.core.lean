/-! the flat memory of the system: cells by number, their ints and longs -/
abbrev uk_Mem : Type := (Nat → Nat → Int32) × (Nat → Nat → Int64)
abbrev uk_M : Type := MethodName × ByteArray × Nat × Option FieldType
abbrev uk_D : Type := Launch × va_G × (Nat → ClassId) × (Nat → Nat) × (Nat → Prop)
abbrev uk_Cx : Type := Program × Env × Room × State × MethodId × Array Value × List Frame × Method × Code × Nat × Nat × (State → Prop)
def uk_shape : List (Nat × Nat) := [(6, 0), (5, 0), (4, 0), (9, 160), (0, 0), (8, 8), (8, 8), (8, 8), (8, 8), (8, 8), (8, 8), (8, 8), (8, 8), (0, 0), (8, 8), (8, 8), (8, 8), (8, 8), (8, 8), (8, 8), (8, 8), (8, 8), (0, 0), (8, 8), (8, 8), (8, 8), (8, 8), (8, 8), (8, 8), (8, 8), (8, 8), (0, 0), (8, 8), (8, 8), (8, 8), (8, 8), (8, 8), (8, 8), (8, 8), (8, 8), (10, 2), (1, 0), (8, 128), (8, 8), (8, 8), (8, 9), (2, 0), (8, 4), (8, 4), (3, 0), (8, 4), (8, 4), (12, 4), (8, 40), (8, 40), (8, 40), (8, 40), (8, 8), (8, 8), (11, 8), (7, 0), (8, 153), (8, 51), (10, 2), (8, 8), (8, 8), (8, 51), (8, 8), (8, 8), (8, 160), (8, 8), (8, 256), (11, 8), (8, 8), (8, 4), (8, 4), (8, 160), (8, 51)]
def uk_kind (c : Nat) : Nat := (uk_shape.getD c (99, 0)).1
def uk_len (c : Nat) : Nat := (uk_shape.getD c (99, 0)).2
def uk_ftabs : List (List (Option Nat)) := [[none, some 1, some 2, some 3, some 4, some 5, some 6, some 7, some 8, none, none, none], [some 1, none, none, some 2, some 3, some 4, none], [some 1, some 2, none, none, none], [some 1, some 2, some 3], [some 1, none, none, none, none, none], [some 1, some 3, none, none, none], [some 13, some 4, some 2, some 1, some 22, some 31, some 40, some 41, some 46, some 49, some 57, some 58, some 59, none, none], [some 1, some 2, some 3, none, some 4, some 5, some 6, none, some 7, some 8, none, none, some 9, none, none, none, none, none, none, none, some 10, some 11, none, some 12, some 13, some 14, some 15, some 16, none, some 17]]
def uk_ftab (k : Nat) : List (Option Nat) := uk_ftabs.getD k []
/-- the address of a cell -/
def uk_ad (G : uk_D) (c : Nat) : Nat := G.2.2.2.1 c
def uk_fv (G : uk_D) (u : uk_Mem) (c k : Nat) (o : Option Nat) : Value := match o with
  | none => .int (u.1 c k)
  | some o => .ref (uk_ad G (c + o))
def uk_fvs (G : uk_D) (u : uk_Mem) (c : Nat) : Nat → List (Option Nat) → List Value
  | _, [] => []
  | i, o :: r => uk_fv G u c i o :: uk_fvs G u c (i + 1) r
theorem uk_fvs_at (G : uk_D) (u : uk_Mem) (c : Nat) : ∀ (l : List (Option Nat)) (i k : Nat), (uk_fvs G u c i l)[k]? = (l[k]?).map (uk_fv G u c (i + k))
  | [], i, k => by simp [uk_fvs]
  | o :: r, i, 0 => by simp [uk_fvs]
  | o :: r, i, k + 1 => by
    rw [uk_fvs, List.getElem?_cons_succ, List.getElem?_cons_succ, uk_fvs_at G u c r (i + 1) k, show i + 1 + k = i + (k + 1) by omega]
theorem uk_fvs_len (G : uk_D) (u : uk_Mem) (c : Nat) : ∀ (l : List (Option Nat)) (i : Nat), (uk_fvs G u c i l).length = l.length
  | [], i => rfl
  | o :: r, i => by rw [uk_fvs, List.length_cons, List.length_cons, uk_fvs_len G u c r (i + 1)]
def uk_ent (G : uk_D) (u : uk_Mem) (c : Nat) : va_E := match uk_kind c with
  | 8 => .inl (G.2.2.1 8, uk_len c, .inl (u.1 c))
  | 9 => .inl (G.2.2.1 9, uk_len c, .inl (u.1 c))
  | 10 => .inl (G.2.2.1 10, uk_len c, .inl (u.1 c))
  | 11 => .inl (G.2.2.1 11, uk_len c, .inr (.inl (u.2 c)))
  | 12 => .inl (G.2.2.1 12, uk_len c, .inr (.inr (.inr (.inr (fun i => if i < uk_len c then some (uk_ad G (c + 1 + i)) else none)))))
  | k => .inr (k, uk_fvs G u c 0 (uk_ftab k))
def uk_ws (G : uk_D) (u : uk_Mem) : va_W := (List.range 78).map fun c => (uk_ad G c, uk_ent G u c)
def uk_tys (G : uk_D) : List (ClassId × FieldType) := [(G.2.2.1 8, .int), (G.2.2.1 9, .byte), (G.2.2.1 10, .boolean), (G.2.2.1 11, .long), (G.2.2.1 12, .array .int)]
theorem uk_lt {c k : Nat} (h : uk_kind c = k) (hk : k < 99) : c < 78 := by
  rcases Nat.lt_or_ge c 78 with q | q
  · exact q
  · exfalso
    have : uk_kind c = 99 := by
      have h0 : uk_shape[c]? = none := List.getElem?_eq_none_iff.mpr (by simpa [uk_shape] using q)
      unfold uk_kind
      rw [List.getD_eq_getElem?_getD, h0]
      rfl
    omega
theorem uk_ws_at {G : uk_D} {u : uk_Mem} {c : Nat} (h : c < 78) : (uk_ws G u)[c]? = some (uk_ad G c, uk_ent G u c) := by
  simp [uk_ws, h]
theorem uk_ws_set {G : uk_D} {u u' : uk_Mem} {c : Nat} {e : va_E} (h : c < 78) (he : e = uk_ent G u' c) (hn : ∀ b, b ≠ c → uk_ent G u' b = uk_ent G u b) : (uk_ws G u).set c (uk_ad G c, e) = uk_ws G u' := by
  apply List.ext_getElem?
  intro i
  rw [List.getElem?_set]
  by_cases hi : c = i
  · subst hi
    rw [if_pos rfl, uk_ws_at h, if_pos (by simpa [uk_ws] using h), he]
  · rw [if_neg hi]
    by_cases h2 : i < 78
    · rw [uk_ws_at h2, uk_ws_at h2, hn i (fun q => hi q.symm)]
    · have h3 : ∀ v, (uk_ws G v)[i]? = none := fun v => by
        rw [List.getElem?_eq_none_iff]
        simp [uk_ws]
        omega
      rw [h3, h3]
/-- an int is written, a long is written -/
def uk_up (u : uk_Mem) (c i : Nat) (x : Int32) : uk_Mem := (fun b => if b = c then upd (u.1 c) i x else u.1 b, u.2)
def uk_upL (u : uk_Mem) (c i : Nat) (x : Int64) : uk_Mem := (u.1, fun b => if b = c then vp_updL (u.2 c) i x else u.2 b)
theorem uk_up_at (u : uk_Mem) (c i : Nat) (x : Int32) (b j : Nat) : (uk_up u c i x).1 b j = if b = c ∧ j = i then x else u.1 b j := by
  unfold uk_up
  dsimp only
  by_cases h : b = c
  · subst h
    by_cases h2 : j = i
    · simp [h2, upd]
    · simp [h2, upd]
  · simp [h]
theorem uk_fvs_congr (G : uk_D) {u u' : uk_Mem} {c : Nat} (h : u'.1 c = u.1 c) : ∀ (l : List (Option Nat)) (i : Nat), uk_fvs G u' c i l = uk_fvs G u c i l
  | [], i => rfl
  | o :: r, i => by
    rw [uk_fvs, uk_fvs, uk_fvs_congr G h r (i + 1)]
    congr 1
    cases o with
    | none => simp [uk_fv, h]
    | some o => rfl
theorem uk_ent_congr {G : uk_D} {u u' : uk_Mem} {c : Nat} (h : u'.1 c = u.1 c) (h2 : u'.2 c = u.2 c) : uk_ent G u' c = uk_ent G u c := by
  unfold uk_ent
  rw [h, h2]
  split <;> first | rfl | rw [uk_fvs_congr G h]
theorem uk_up_ne {G : uk_D} {u : uk_Mem} {c i : Nat} {x : Int32} : ∀ b, b ≠ c → uk_ent G (uk_up u c i x) b = uk_ent G u b := fun b hb => uk_ent_congr (by simp [uk_up, hb]) rfl
theorem uk_upL_ne {G : uk_D} {u : uk_Mem} {c i : Nat} {x : Int64} : ∀ b, b ≠ c → uk_ent G (uk_upL u c i x) b = uk_ent G u b := fun b hb => uk_ent_congr rfl (by simp [uk_upL, hb])
theorem uk_fvs_set (G : uk_D) (u : uk_Mem) (c : Nat) (x : Int32) : ∀ (l : List (Option Nat)) (i k : Nat), l[k]? = some none → (uk_fvs G u c i l).set k (.int x) = uk_fvs G (uk_up u c (i + k) x) c i l
  | [], i, k, h => by simp at h
  | o :: r, i, 0, h => by
    have ho : o = none := by simpa using h
    subst ho
    rw [uk_fvs, uk_fvs, List.set_cons_zero]
    congr 1
    · simp [uk_fv, uk_up, upd]
    · have : ∀ (l : List (Option Nat)) (j : Nat), i < j → uk_fvs G (uk_up u c (i + 0) x) c j l = uk_fvs G u c j l := by
        intro l
        induction l with
        | nil => intro j _; rfl
        | cons o r ih =>
          intro j hj
          rw [uk_fvs, uk_fvs, ih (j + 1) (by omega)]
          congr 1
          cases o with
          | none => simp [uk_fv, uk_up, upd, show j ≠ i by omega]
          | some o => rfl
      exact (this r (i + 1) (by omega)).symm
  | o :: r, i, k + 1, h => by
    rw [uk_fvs, uk_fvs, List.set_cons_succ, uk_fvs_set G u c x r (i + 1) k (by simpa using h), show i + 1 + k = i + (k + 1) by omega]
    congr 1
    cases o with
    | none => simp [uk_fv, uk_up, upd, show i ≠ i + (k + 1) by omega]
    | some o => rfl
/-! the words that every method keeps: the tables' good ones; the nest links apart -/
def uk_w : List Cond := lw_tbl.filter goodWord
def uk_isNest : Cond → Bool
  | .fieldLinkNest _ _ _ _ _ _ => true
  | .methodLinkNest _ _ _ _ => true
  | _ => false
def uk_nest : List Cond := lw_tbl.filter uk_isNest
theorem uk_wI {w : Cond} (h : w ∈ tables_1) (hg : goodWord w = true) : w ∈ uk_w := List.mem_filter.mpr ⟨List.mem_append_right _ h, hg⟩
theorem uk_wP {w : Cond} (h : w ∈ k2_sels lw_privs) (hg : goodWord w = true) : w ∈ uk_w := List.mem_filter.mpr ⟨List.mem_append_left _ h, hg⟩
theorem uk_nI {w : Cond} (h : w ∈ tables_1) (hg : uk_isNest w = true) : w ∈ uk_nest := List.mem_filter.mpr ⟨List.mem_append_right _ h, hg⟩
theorem uk_w_good {w : Cond} (h : w ∈ uk_w) : (w.onTables && w.keeps) = true ∨ ∃ ty, w = .arrayClass ty := good_of_word (List.mem_filter.mp h).2
theorem uk_goodIn {c : Cond} (h : c ∈ uk_w) : GoodIn uk_w (c :: uk_w) := by
  intro w hw
  rcases List.mem_cons.mp hw with rfl | hw
  · exact ⟨h, uk_w_good h⟩
  · exact ⟨hw, uk_w_good hw⟩
theorem uk_nestW {w : Cond} (hn : uk_isNest w = true) {s U : State} (hW : s.WarmedH U.vm) (h : va_Nw w s) : va_Nw w U := by
  cases w <;> first | exact va_Nw.warmF hW h | exact va_Nw.warmM hW h | (exact absurd hn (by simp [uk_isNest]))
theorem uk_nestC {w : Cond} (hn : uk_isNest w = true) {s U : State} (hv : s.vm = U.vm) (h : va_Nw w s) : va_Nw w U := by
  cases w <;> first | exact va_tabs rfl hv h | (exact absurd hn (by simp [uk_isNest]))
