/-! constructors: a world that grows -/
theorem va_AOA.moved {ty : FieldType} {u U : State} (hvm : u.vm.Alike U.vm) (h : va_AOA ty u) : va_AOA ty U := by
  have h1 : (Cond.arrayOver (.array ty)).before #[] (u.setVm U.vm) = true := by
    rw [Cond.arrayOver_setVmC hvm]
    exact h
  exact h1
def ui_K (G : uk_D) (U : State) : Prop := va_K G.2.1 vwCl (uk_tys G) U ∧ (∀ w ∈ uk_nest, va_Nw w U) ∧ va_AOA .int U
theorem ui_K.warm {G : uk_D} {s U : State} (hW : s.WarmedH U.vm) (h : ui_K G s) : ui_K G U := ⟨va_K.moved hW.alike h.1, fun w hw => uk_nestW (List.mem_filter.mp hw).2 hW (h.2.1 w hw), va_AOA.moved hW.alike h.2.2⟩
theorem ui_K.same {G : uk_D} {s U : State} (hv : s.vm = U.vm) (h : ui_K G s) : ui_K G U := by
  have ha : s.vm.Alike U.vm := by rw [hv]; exact Vm.Alike.refl U.vm
  exact ⟨va_K.moved ha h.1, fun w hw => uk_nestC (List.mem_filter.mp hw).2 hv (h.2.1 w hw), va_AOA.moved ha h.2.2⟩
def ui_rm (f mc ms : Nat) : Room := { frames := f, cells := mc, slots := ms, locals := 40 * f }
def ui_Meth (G : uk_D) (E : State → Prop) (f mc ms : Nat) (M : uk_M) (As : List Value) (w0 : va_W) (Q : va_W → Prop) : Prop := ∀ sz : Nat,
  Met G.1 M.1 (.code M.1 M.2.1 M.2.2.1 none :: uk_w) (ui_rm f mc ms) (va_Pc As (fun U => U.heap.size = sz ∧ va_P G.2.1 vwCl w0 U.heap ∧ (ui_K G U ∧ E U) ∧ va_D (fun _ => True) w0)) (va_Qv (fun w : va_W => Q w) (fun w t => va_P G.2.1 vwCl w t.heap ∧ va_D (va_A w0 sz) w) (va_A w0 sz)) mc ms (va_A w0 sz)
def ui_Ret (G : uk_D) (A : Nat → Prop) (X : uk_Cx) (M : uk_M) (mc ms : Nat) (Q : va_W → Prop) : Prop :=
  ∀ (pc : Nat) (ls : Array Slot) (H : Heap) (locs : List Loc) (ws : va_W), decode M.2.1 pc = .ok (.return_, 1) → Q ws → va_P G.2.1 vwCl ws H → va_D A ws → va_S A X.2.2.2.1.heap H locs →
    W X.1 G.1 X.2.1 X.2.2.1 X.2.2.2.1 X.2.2.2.2.1 X.2.2.2.2.2.1 X.2.2.2.2.2.2.1 X.2.2.2.2.2.2.2.1 X.2.2.2.2.2.2.2.2.1 H locs mc ms X.2.2.2.2.2.2.2.2.2.2.2 (F0 X.2.2.2.2.1 pc ls [])
def ui_Ok (G : uk_D) (A : Nat → Prop) (E : State → Prop) (X : uk_Cx) (M : uk_M) (f mc ms : Nat) (Q : va_W → Prop) : Prop :=
  X.1.tables.exec = Jvm.exec ∧ X.2.2.2.2.2.2.2.2.1.code = M.2.1 ∧ X.2.2.2.2.2.2.2.2.1.maxLocals = M.2.2.1 ∧ X.2.2.2.1.vm.findClass M.1.cls = some X.2.2.2.2.1.cls ∧ (∀ w ∈ uk_w, w.before X.2.2.2.2.2.1 X.2.2.2.1 = true) ∧
  (ui_K G X.2.2.2.1 ∧ E X.2.2.2.1) ∧ X.2.2.2.2.2.2.2.1.name = M.1.name ∧ (∀ q, X.2.2.2.1.heap.size ≤ q → A q) ∧ (f ≤ X.2.2.1.frames ∧ 40 * f ≤ X.2.2.1.locals ∧ mc ≤ X.2.2.1.cells ∧ ms ≤ X.2.2.1.slots) ∧ ui_Ret G A X M mc ms Q
def ui_G (G : uk_D) (A : Nat → Prop) (E : State → Prop) (X : uk_Cx) (M : uk_M) (f mc ms : Nat) (Q : va_W → Prop) (k n : Nat) (ws : va_W) (pc : Nat) (lv : List (Nat × Value)) (st : List Value) : Prop :=
  ui_Ok G A E X M f mc ms Q → ∀ (ls : Array Slot) (H : Heap) (locs : List Loc), lv_has ls M.2.2.1 lv → va_P G.2.1 vwCl ws H → va_D A ws → va_S A X.2.2.2.1.heap H locs →
    W X.1 G.1 X.2.1 X.2.2.1 X.2.2.2.1 X.2.2.2.2.1 X.2.2.2.2.2.1 X.2.2.2.2.2.2.1 X.2.2.2.2.2.2.2.1 X.2.2.2.2.2.2.2.2.1 H locs k n X.2.2.2.2.2.2.2.2.2.2.2 (F0 X.2.2.2.2.1 pc ls st)
theorem uk_oI : Cond.instanceMethod Lib.objectInit ∈ uk_w := uk_wI (List.mem_of_getElem? (i := 20) (by decide +kernel)) rfl
theorem uk_oC : Cond.code Lib.objectInit ⟨#[0xb1]⟩ 1 none ∈ uk_w := uk_wI (List.mem_of_getElem? (i := 21) (by decide +kernel)) rfl
section UIR
variable {G : uk_D} {A : Nat → Prop} {E : State → Prop} {X : uk_Cx} {M : uk_M} {f mc ms : Nat} {Q : va_W → Prop} {k n : Nat} {ws ws' : va_W} {pc : Nat} {lv : List (Nat × Value)} {st stk : List Value}
theorem i_aload_n {j : Fin 4} {x : Nat} (hd : decode M.2.1 pc = .ok (.aload_n j, 1)) (hv : uk_lk lv (j : Nat) = some (.ref x)) (K : ui_G G A E X M f mc ms Q k n ws (pc + 1) lv (.ref x :: st)) : ui_G G A E X M f mc ms Q k n ws pc lv st := fun hO ls H locs hl hP hD hS => lv_aload_n hO.1 hO.2.1 hd rfl (uk_lv hl hv) (K hO ls H locs hl hP hD hS)
theorem i_iconst {z : Int} {v : Int32} (hd : decode M.2.1 pc = .ok (.iconst z, 1)) (hv : Int32.ofInt z = v) (K : ui_G G A E X M f mc ms Q k n ws (pc + 1) lv (.int v :: st)) : ui_G G A E X M f mc ms Q k n ws pc lv st := fun hO ls H locs hl hP hD hS => lv_iconst hO.1 hO.2.1 hd hv (K hO ls H locs hl hP hD hS)
theorem i_bipush {z : Int} {v : Int32} (hd : decode M.2.1 pc = .ok (.bipush z, 2)) (hv : (Int8.ofInt z).toInt32 = v) (K : ui_G G A E X M f mc ms Q k n ws (pc + 2) lv (.int v :: st)) : ui_G G A E X M f mc ms Q k n ws pc lv st := fun hO ls H locs hl hP hD hS => lv_bipush hO.1 hO.2.1 hd hv (K hO ls H locs hl hP hD hS)
theorem i_sipush {z : Int} {v : Int32} (hd : decode M.2.1 pc = .ok (.sipush z, 3)) (hv : (Int16.ofInt z).toInt32 = v) (K : ui_G G A E X M f mc ms Q k n ws (pc + 3) lv (.int v :: st)) : ui_G G A E X M f mc ms Q k n ws pc lv st := fun hO ls H locs hl hP hD hS => lv_sipush hO.1 hO.2.1 hd hv (K hO ls H locs hl hP hD hS)
theorem i_dup {v : Value} (hd : decode M.2.1 pc = .ok (.dup, 1)) (hv : v.category = 1) (K : ui_G G A E X M f mc ms Q k n ws (pc + 1) lv (v :: v :: st)) : ui_G G A E X M f mc ms Q k n ws pc lv (v :: st) := fun hO ls H locs hl hP hD hS => lv_dup hO.1 hO.2.1 hd hv (K hO ls H locs hl hP hD hS)
theorem i_astore_n {j : Fin 4} {x : Nat} (hd : decode M.2.1 pc = .ok (.astore_n j, 1)) (hn : (j : Nat) < M.2.2.1) (K : ui_G G A E X M f mc ms Q k n ws (pc + 1) (uk_set lv (j : Nat) (.ref x)) st) : ui_G G A E X M f mc ms Q k n ws pc lv (.ref x :: st) := fun hO ls H locs hl hP hD hS => lv_astore_n hO.1 hO.2.1 hd rfl hl hn rfl (fun ls' hl' => K hO ls' H locs (uk_has1 rfl hl') hP hD hS)
theorem i_obj {idx a : Nat} (hw : Cond.methodLink M.1.cls idx Lib.objectInit ∈ uk_w) (hd : decode M.2.1 pc = .ok (.invokespecial idx, 3)) (hf : 1 ≤ f) (hc : (st.map fun v => v.category).sum ≤ 8) (K : ui_G G A E X M f mc ms Q k n ws (pc + 3) lv st) : ui_G G A E X M f mc ms Q k n ws pc lv (.ref a :: st) := fun hO ls H locs hl hP hD hS => by
  have hr := hO.2.2.2.2.2.2.2.2.1
  refine W.objInit hO.1 hO.2.1 hO.2.2.2.1 (hO.2.2.2.2.1 _ hw) (hO.2.2.2.2.1 _ uk_oI) (hO.2.2.2.2.1 _ uk_oC) rfl (by rw [hO.2.2.1]; exact hl.1) rfl hd (Nat.le_trans hf hr.1) (Nat.le_trans (Nat.add_le_add_right (lv_room hc) 12) (Nat.le_trans (by omega) hr.2.1)) ?_
  exact W.eq (g2 := F0 X.2.2.2.2.1 (pc + 3) ls st) rfl (K hO ls H locs hl hP hD hS)
theorem i_newa {atype : ArrayType} {ty : FieldType} {cA : ClassId} {a0 : vp_A} {n0 : Int32} {N' : Nat} (t0 : Nat) (hw : Cond.arrayClass (newarray.typeOf atype) ∈ uk_w) (hty : newarray.typeOf atype = ty) (ht : (uk_tys G)[t0]? = some (cA, ty)) (hra : ∀ (U : State) (c : ClassId), va_RA U c ty → U.vm.findClass ("[" ++ ty.toString) = some c) (ha : ∀ c : ClassId, vp_cell c a0 = arrV c N' (fun _ => defaultValue ty)) (hn : ¬ n0 < 0) (hN : n0.toNatClampNeg = N') (hb : N' * componentBytes ty ≤ 536870912) (hk : k + 1 ≤ mc) (hs : n + N' ≤ ms) (hd : decode M.2.1 pc = .ok (.newarray atype, 2))
    (K : ∀ q : Nat, ui_G G A E X M f mc ms Q (k + 1) (n + N') (ws ++ [(q, .inl (cA, a0))]) (pc + 2) lv (.ref q :: st)) : ui_G G A E X M f mc ms Q k n ws pc lv (.int n0 :: st) := fun hO ls H locs hl hP hD hS => by
  have hr := hO.2.2.2.2.2.2.2.2.1
  have hK := hO.2.2.2.2.2.1.1.1
  refine va_newa hO.1 hO.2.1 (hO.2.2.2.2.1 _ hw) hty hK hP hD hS hO.2.2.2.2.2.2.2.1 ha hn hN hb (Nat.le_trans hk hr.2.2.1) (Nat.le_trans hs hr.2.2.2) hd (fun q cA' H1 hK1 hP1 hD1 hS1 => ?_)
  have e1 := hra _ _ (hK1.2 (uk_tys G).length (cA', ty) (by simp)).2
  have e2 := hra _ _ (hK.2 t0 _ ht).2
  have e : cA' = cA := Option.some.inj (e1.symm.trans e2)
  subst e
  exact K q hO ls H1 locs hl hP1 hD1 hS1
theorem i_mna {cA cy : ClassId} {n0 k0 : Int32} {idx : Nat} (t0 t1 : Nat) (hcl : Cond.classLink M.1.cls idx "[[I" ∈ uk_w) (hw : Cond.arrayClass .int ∈ uk_w) (ht : (uk_tys G)[t0]? = some (cy, .int)) (ht1 : (uk_tys G)[t1]? = some (cA, .array .int)) (e1 : n0 = 4) (e2 : k0 = 40) (hk : k + 5 ≤ mc) (hs : n + 164 ≤ ms) (hd : decode M.2.1 pc = .ok (.multianewarray idx 2, 4))
    (K : ∀ (q : Nat) (r : Nat → Nat), ui_G G A E X M f mc ms Q (k + 1 + 4) (n + 4 + 4 * 40) (ws ++ [(q, .inl (cA, 4, .inr (.inr (.inr (.inr (fun i => if i < 4 then some (r i) else none)))))), (r 0, .inl (cy, 40, .inl (fun _ => 0))), (r 1, .inl (cy, 40, .inl (fun _ => 0))), (r 2, .inl (cy, 40, .inl (fun _ => 0))), (r 3, .inl (cy, 40, .inl (fun _ => 0)))]) (pc + 4) lv (.ref q :: st)) : ui_G G A E X M f mc ms Q k n ws pc lv (.int k0 :: .int n0 :: st) := fun hO ls H locs hl hP hD hS => by
  have hr := hO.2.2.2.2.2.2.2.2.1
  have hK := hO.2.2.2.2.2.1.1.1
  have hP0 : va_P G.2.1 vwCl (ws ++ va_pl [] (fun _ => .inl (cy, 40, .inl (fun _ => 0)))) H := by
    rw [show ws ++ va_pl [] (fun _ => (.inl (cy, 40, .inl (fun _ => 0)) : va_E)) = ws from List.append_nil ws]
    exact hP
  have hD0 : va_D A (ws ++ va_pl [] (fun _ => .inl (cy, 40, .inl (fun _ => 0)))) := by
    rw [show ws ++ va_pl [] (fun _ => (.inl (cy, 40, .inl (fun _ => 0)) : va_E)) = ws from List.append_nil ws]
    exact hD
  refine va_mna (ty := .int) (cy := cy) (z := (40, .inl (fun _ => 0))) (N' := 4) (K' := 40) hO.1 hO.2.1 hO.2.2.2.1 (hO.2.2.2.2.1 _ hcl) hO.2.2.2.2.2.1.1.2.2 (hO.2.2.2.2.1 _ hw) (hK.2 t0 _ ht).2 hK hP0 hD0 hS hO.2.2.2.2.2.2.2.1 (by rw [e1]; decide) (by rw [e2]; decide) (by rw [e1]; rfl) (by rw [e2]; rfl) (by decide) (by decide) (by decide) rfl rfl (Nat.le_trans hk hr.2.2.1) (Nat.le_trans hs hr.2.2.2) (fun c => ?_) hd (fun q r cA' H1 hinj hnl hK1 hP1 hD1 hS1 => ?_)
  · exact (arrV_new c 40 _)
  · have e3 : X.2.2.2.1.vm.findClass ("[" ++ (FieldType.array .int).toString) = some cA' := (hK1.2 (uk_tys G).length (cA', .array .int) (by simp)).2
    have e4 : X.2.2.2.1.vm.findClass ("[" ++ (FieldType.array .int).toString) = some cA := (hK.2 t1 _ ht1).2
    have e : cA' = cA := Option.some.inj (e3.symm.trans e4)
    subst e
    have ew : ∀ (y : Nat × va_E) (v : va_E), (ws ++ [y]) ++ va_pl ([] ++ (List.range 4).map r) (vr_up (fun _ => v) ((List.range 4).map r) v) = ws ++ [y, (r 0, v), (r 1, v), (r 2, v), (r 3, v)] := by
      intro y v
      have e9 : va_pl ([] ++ (List.range 4).map r) (vr_up (fun _ => v) ((List.range 4).map r) v) = [(r 0, v), (r 1, v), (r 2, v), (r 3, v)] := by
        have h9 : vr_up (fun _ => v) ((List.range 4).map r) v = fun _ => v := by
          funext a
          unfold vr_up
          split <;> rfl
        rw [h9]
        rfl
      rw [e9, List.append_assoc]
      rfl
    rw [ew] at hP1 hD1
    exact K q r hO ls H1 locs hl hP1 hD1 hS1
theorem i_putF {ci j idx a N q0 : Nat} {C : String} {T : u_T} {ty0 : Nat → FieldType} {ty : FieldType} {v : Value} {fs : List Value} (he : ws[q0]? = some (a, .inr (ci, fs))) (hcl : vwCl[ci]? = some (C, T, N)) (hin : ∀ w ∈ u_ws C T N, w ∈ uk_w) (hjN : j < N) (hty : ∀ k, k < N → parseFieldDescriptor (T k).2.2.1 = some (ty0 k)) (hnm : ∀ a, a < N → ∀ b, b < N → a ≠ b → (T a).2.1 ≠ (T b).2.1) (hfin : (T j).2.2.2 = true) (hin2 : M.1.name = "<init>") (hdecl : (T j).1 = M.1.cls) (hpd : parseFieldDescriptor (T j).2.2.1 = some ty) (hnar : narrow ty v = v) (hfit : fits ty v = true) (hl0 : j < fs.length) (hw : Cond.fieldLink M.1.cls idx (T j).1 (T j).2.1 (T j).2.2.1 ∈ uk_w) (hd : decode M.2.1 pc = .ok (.putfield idx, 3)) (hws : ws.set q0 (a, .inr (ci, fs.set j v)) = ws')
    (K : ui_G G A E X M f mc ms Q k n ws' (pc + 3) lv st) : ui_G G A E X M f mc ms Q k n ws pc lv (v :: .ref a :: st) := fun hO ls H locs hl hP hD hS => by
  subst hws
  exact va_putF (own := M.1.cls) hO.1 hO.2.1 hO.2.2.2.2.1 hin ty0 hty hnm hO.2.2.2.1 hO.2.2.2.2.2.1.1.1 hP hD hS q0 he hcl j hjN (hO.2.2.2.2.1 _ hw) (fun _ h => h) hfin (hO.2.2.2.2.2.2.1.trans hin2) hdecl hpd hnar hfit hl0 hd (fun H1 locs1 hP1 hD1 hS1 => K hO ls H1 locs1 hl hP1 hD1 hS1)
theorem i_put {ci j idx a N q0 : Nat} {C : String} {T : u_T} {ty0 : Nat → FieldType} {ty : FieldType} {v : Value} {fs : List Value} (he : ws[q0]? = some (a, .inr (ci, fs))) (hcl : vwCl[ci]? = some (C, T, N)) (hin : ∀ w ∈ u_ws C T N, w ∈ uk_w) (hjN : j < N) (hty : ∀ k, k < N → parseFieldDescriptor (T k).2.2.1 = some (ty0 k)) (hnm : ∀ a, a < N → ∀ b, b < N → a ≠ b → (T a).2.1 ≠ (T b).2.1) (hfin : (T j).2.2.2 = false) (hpd : parseFieldDescriptor (T j).2.2.1 = some ty) (hnar : narrow ty v = v) (hfit : fits ty v = true) (hl0 : j < fs.length) (hw : Cond.fieldLink M.1.cls idx (T j).1 (T j).2.1 (T j).2.2.1 ∈ uk_w) (hd : decode M.2.1 pc = .ok (.putfield idx, 3)) (hws : ws.set q0 (a, .inr (ci, fs.set j v)) = ws')
    (K : ui_G G A E X M f mc ms Q k n ws' (pc + 3) lv st) : ui_G G A E X M f mc ms Q k n ws pc lv (v :: .ref a :: st) := fun hO ls H locs hl hP hD hS => by
  subst hws
  exact va_put (own := M.1.cls) hO.1 hO.2.1 hO.2.2.2.2.1 hin ty0 hty hnm hO.2.2.2.1 hO.2.2.2.2.2.1.1.1 hP hD hS q0 he hcl j hjN (hO.2.2.2.2.1 _ hw) (fun _ h => h) hfin hpd hnar hfit hl0 hd (fun H1 locs1 hP1 hD1 hS1 => K hO ls H1 locs1 hl hP1 hD1 hS1)
theorem i_get {ci j idx a N q0 : Nat} {C : String} {T : u_T} {v : Value} {fs : List Value} (he : ws[q0]? = some (a, .inr (ci, fs))) (hcl : vwCl[ci]? = some (C, T, N)) (hin : ∀ w ∈ u_ws C T N, w ∈ uk_w) (hjN : j < N) (hv : fs[j]? = some v) (hw : Cond.fieldLink M.1.cls idx (T j).1 (T j).2.1 (T j).2.2.1 ∈ uk_w) (hd : decode M.2.1 pc = .ok (.getfield idx, 3))
    (K : ui_G G A E X M f mc ms Q k n ws (pc + 3) lv (v :: st)) : ui_G G A E X M f mc ms Q k n ws pc lv (.ref a :: st) := fun hO ls H locs hl hP hD hS =>
  va_get (own := M.1.cls) hO.1 hO.2.1 hO.2.2.2.2.1 hin hO.2.2.2.1 hO.2.2.2.2.2.1.1.1 hP q0 he hcl j hjN (hO.2.2.2.2.1 _ hw) (fun _ h => h) hv hd (K hO ls H locs hl hP hD hS)
theorem i_iast {a N q0 t0 : Nat} {cA : ClassId} {g : Nat → Int32} {i x : Int32} (he : ws[q0]? = some (a, .inl (cA, N, .inl g))) (ht : (uk_tys G)[t0]? = some (cA, .int)) (hi : vp_in i N) (hd : decode M.2.1 pc = .ok (.iastore, 1)) (hws : ws.set q0 (a, .inl (cA, N, .inl (upd g i.toNatClampNeg x))) = ws')
    (K : ui_G G A E X M f mc ms Q k n ws' (pc + 1) lv st) : ui_G G A E X M f mc ms Q k n ws pc lv (.int x :: .int i :: .ref a :: st) := fun hO ls H locs hl hP hD hS => by
  subst hws
  exact va_iast hO.1 hO.2.1 hO.2.2.2.2.2.1.1.1 hP hD hS q0 t0 he ht hi hd (fun H1 locs1 hP1 hD1 hS1 => K hO ls H1 locs1 hl hP1 hD1 hS1)
theorem i_new {ci idx N : Nat} {C : String} {T : u_T} {ty0 : Nat → FieldType} {fs : List Value} (hcl : vwCl[ci]? = some (C, T, N)) (hin : ∀ w ∈ u_ws C T N, w ∈ uk_w) (hty : ∀ k, k < N → parseFieldDescriptor (T k).2.2.1 = some (ty0 k)) (w1 : Cond.classLink M.1.cls idx C ∈ uk_w) (w2 : Cond.instantiable C N ∈ uk_w) (w3 : Cond.initialized C ∈ uk_w) (hfs : ∀ j, j < N → defaultValue (ty0 j) = vp_V fs j) (hk : k + 1 ≤ mc) (hs : n + N ≤ ms) (hd : decode M.2.1 pc = .ok (.new idx, 3))
    (K : ∀ q : Nat, ui_G G A E X M f mc ms Q (k + 1) (n + N) (ws ++ [(q, .inr (ci, fs))]) (pc + 3) lv (.ref q :: st)) : ui_G G A E X M f mc ms Q k n ws pc lv st := fun hO ls H locs hl hP hD hS => by
  have hr := hO.2.2.2.2.2.2.2.2.1
  exact va_new hO.1 hO.2.1 hO.2.2.2.2.1 hin ty0 hty hO.2.2.2.1 (hO.2.2.2.2.1 _ w1) (hO.2.2.2.2.1 _ w2) (hO.2.2.2.2.1 _ w3) hO.2.2.2.2.2.1.1.1 hP hD hS hO.2.2.2.2.2.2.2.1 hcl hfs (Nat.le_trans hk hr.2.2.1) (Nat.le_trans hs hr.2.2.2) hd (fun q H1 hP1 hD1 hS1 => K q hO ls H1 locs hl hP1 hD1 hS1)
theorem i_call {M' : uk_M} {f' mc' ms' idx nA b : Nat} {host : String} {As : List Value} {w0 wr : va_W} {Q' : va_W → Prop} (isC isR : List Nat) (w1 : Cond.methodLinkNest M.1.cls idx M'.1 host ∈ uk_nest) (w2 : Cond.instanceMethod M'.1 ∈ uk_w) (w4 : Cond.initialized M'.1.cls ∈ uk_w) (w5 : Cond.code M'.1 M'.2.1 M'.2.2.1 none ∈ uk_w) (hi : M'.1.name = "<init>") (hy : M'.1.cls ≠ "java/lang/invoke/MethodHandle" ∧ M'.1.cls ≠ "java/lang/invoke/VarHandle" ∧ (parseMethodDescriptor M'.1.desc).map (fun d => d.parameters.length) = some nA) (hn : M'.2.2.1 ≤ 21)
    (hm : ui_Meth G (fun _ => True) f' mc' ms' M' (.ref b :: As) w0 Q') (hf : f' + 1 ≤ f) (hk : k + mc' ≤ mc) (hs : n + ms' ≤ ms) (hA : As.length = nA) (hst : stk = As.reverse ++ .ref b :: st) (hc : (st.map fun v => v.category).sum ≤ 8) (hd : decode M.2.1 pc = .ok (.invokespecial idx, 3)) (hC : isC.map (fun i => ws[i]?) = w0.map some) (hCf : isC.filterMap (fun i => ws[i]?) = w0) (hnc : va_nd isC = true) (hR : isR.map (fun i => ws[i]?) = wr.map some) (hnd : va_nd isR = true) (hdis : ∀ i ∈ isR, i ∉ isC)
    (K : ∀ w : va_W, Q' w → ui_G G A E X M f mc ms Q (k + mc') (n + ms') (wr ++ w) (pc + 3) lv st) : ui_G G A E X M f mc ms Q k n ws pc lv stk := fun hO ls H locs hl hP hD hS => by
  have hr := hO.2.2.2.2.2.2.2.2.1
  have hw := hO.2.2.2.2.1
  have hPc := hP.sub isC hCf
  have hDc := hD.sub isC hnc hC
  have hFc := va_free (wc := w0) hD hS hO.2.2.2.2.2.2.2.1 isC hC
  refine va_callv (va_runIN (As := As) (rest := st) (Ts := uk_w) ⟨hO.1, hO.2.1, hO.2.2.1, hO.2.2.2.1, hw⟩ (hm H.size) ⟨va_cnB nA hw (uk_goodIn w5) rfl rfl rfl (hO.2.2.2.2.2.1.1.2.1 _ w1) (hw _ w4) hy ⟨Nat.le_trans hf hr.1, Nat.le_trans (by show 8 + (M'.2.2.1 + 11) + 40 * f' ≤ 40 * f; omega) hr.2.1⟩, hi, hw _ w2⟩ ⟨fun a U g mk q => ?_, fun U hU hW => ⟨rfl, by rw [hU], by rw [hU]; exact hPc, ⟨ui_K.warm hW hO.2.2.2.2.2.1.1, trivial⟩, hDc.weaken (fun _ _ _ _ => trivial)⟩⟩ rfl hA hl.1 hst (lv_room hc) hd ⟨Nat.le_trans hk hr.2.2.1, Nat.le_trans hs hr.2.2.2⟩) hS (fun q _ h => hFc q h) hFc (fun w t H1 locs1 ht hvm hq hB hz1 hk1 hS1 => ?_)
  · obtain ⟨q0, q1, qP, qK, qD⟩ := q
    exact ⟨q0, q1, qP, ⟨ui_K.same (s := U) (U := U.calling g mk a) rfl qK.1, trivial⟩, qD⟩
  · obtain ⟨hP1, hD1⟩ := hB
    rw [ht] at hP1
    obtain ⟨hP2, hD2⟩ := va_join (wr := wr) (w1 := w) hP hD isC isR hC hR hnd hdis hk1 hFc hP1 hD1
    exact K w hq hO ls H1 locs1 hl hP2 hD2 hS1
theorem i_ret (hd : decode M.2.1 pc = .ok (.return_, 1)) (hk : k ≤ mc) (hn : n ≤ ms) (hq : Q ws) : ui_G G A E X M f mc ms Q k n ws pc lv [] := fun hO ls H locs hl hP hD hS => W.widen (k := mc) (n := ms) hk hn (hO.2.2.2.2.2.2.2.2.2 pc ls H locs ws hd hq hP hD hS)
theorem i_ws (h : ws = ws') (K : ui_G G A E X M f mc ms Q k n ws' pc lv st) : ui_G G A E X M f mc ms Q k n ws pc lv st := by rw [h]; exact K
/-- the world is re-ordered, or made less -/
theorem i_sub (is : List Nat) (hnd : va_nd is = true) (hC : is.map (fun i => ws[i]?) = ws'.map some) (hCf : is.filterMap (fun i => ws[i]?) = ws') (K : ui_G G A E X M f mc ms Q k n ws' pc lv st) : ui_G G A E X M f mc ms Q k n ws pc lv st := fun hO ls H locs hl hP hD hS => K hO ls H locs hl (hP.sub is hCf) (hD.sub is hnd hC) hS
theorem ui_Meth.of {As : List Value} {w0 : va_W} (hy : plainName M.1.cls = true) (hn : (lg_sl As).length ≤ M.2.2.1) (h : ∀ (A : Nat → Prop) (X : uk_Cx), ui_G G A E X M f mc ms Q 0 0 w0 0 (lv_args 0 As) []) : ui_Meth G E f mc ms M As w0 Q := by
  intro sz
  refine Met.ofW (cc := M.2.1) (maxL := M.2.2.1) (ret := none) hy rfl ?_
  intro p e s m args below meth c s₁ B hml hv
  obtain ⟨rfl, hsz, hP, hK, hD0⟩ := hv
  have hts := atoms_spec (ws := .code M.1 M.2.1 M.2.2.1 none :: uk_w) B.pre
  have hown : s.vm.findClass M.1.cls = some m.cls := findClass_of_methodNamed B.named
  have hlocks : meth.locks = false := B.notSynchronized
  have hr : meth.sig.returnType = none := B.returns
  have hin : meth.name = M.1.name := (name_of_methodNamed B.named B.method).1
  have hl := lv_entry As (n := M.2.2.1) hn
  subst hsz
  have hD := hD0.self (sz := s.heap.size)
  rw [lg_entry_eq]
  refine h (va_A w0 s.heap.size) (p, e, (headSpec (.code M.1 M.2.1 M.2.2.1 none :: uk_w) (ui_rm f mc ms)).room, s, m, As.toArray, below, meth, c, 0, 0, _) ⟨B.exec, B.bytes, hml, hown, fun w hw => hts w (List.mem_cons_of_mem _ hw), hK, hin, fun q hq => Or.inr hq, ⟨Nat.le_refl _, Nat.le_refl _, Nat.le_refl _, Nat.le_refl _⟩, ?_⟩ _ s.heap [] hl hP hD va_S.rf
  intro pc ls H locs ws hd hq hP hD hS
  exact W.vret B.exec B.bytes hr (fun t ht hW => ⟨⟨ws, rfl, hq, by rw [ht]; exact hP, hD⟩, hS.F ht⟩) hS.2.2 hd hlocks
/-- the frame is G's own: what the law calls -/
def ui_MethA (G : uk_D) (E : State → Prop) (f mc ms : Nat) (M : uk_M) (As : List Value) (w0 : va_W) (Q : va_W → Prop) : Prop := ∀ sz : Nat, (∀ q : Nat, sz ≤ q → G.2.2.2.2 q) →
  Met G.1 M.1 (.code M.1 M.2.1 M.2.2.1 none :: uk_w) (ui_rm f mc ms) (va_Pc As (fun U => U.heap.size = sz ∧ va_P G.2.1 vwCl w0 U.heap ∧ (ui_K G U ∧ E U) ∧ va_D G.2.2.2.2 w0)) (va_Qv (fun w : va_W => Q w) (fun w t => va_P G.2.1 vwCl w t.heap ∧ va_D G.2.2.2.2 w) G.2.2.2.2) mc ms G.2.2.2.2
theorem ui_MethA.of {As : List Value} {w0 : va_W} (hy : plainName M.1.cls = true) (hn : (lg_sl As).length ≤ M.2.2.1) (h : ∀ (X : uk_Cx), ui_G G G.2.2.2.2 E X M f mc ms Q 0 0 w0 0 (lv_args 0 As) []) : ui_MethA G E f mc ms M As w0 Q := by
  intro sz hA
  refine Met.ofW (cc := M.2.1) (maxL := M.2.2.1) (ret := none) hy rfl ?_
  intro p e s m args below meth c s₁ B hml hv
  obtain ⟨rfl, hsz, hP, hK, hD⟩ := hv
  have hts := atoms_spec (ws := .code M.1 M.2.1 M.2.2.1 none :: uk_w) B.pre
  have hown : s.vm.findClass M.1.cls = some m.cls := findClass_of_methodNamed B.named
  have hlocks : meth.locks = false := B.notSynchronized
  have hr : meth.sig.returnType = none := B.returns
  have hin : meth.name = M.1.name := (name_of_methodNamed B.named B.method).1
  have hl := lv_entry As (n := M.2.2.1) hn
  subst hsz
  rw [lg_entry_eq]
  refine h (p, e, (headSpec (.code M.1 M.2.1 M.2.2.1 none :: uk_w) (ui_rm f mc ms)).room, s, m, As.toArray, below, meth, c, 0, 0, _) ⟨B.exec, B.bytes, hml, hown, fun w hw => hts w (List.mem_cons_of_mem _ hw), hK, hin, hA, ⟨Nat.le_refl _, Nat.le_refl _, Nat.le_refl _, Nat.le_refl _⟩, ?_⟩ _ s.heap [] hl hP hD va_S.rf
  intro pc ls H locs ws hd hq hP hD hS
  exact W.vret B.exec B.bytes hr (fun t ht hW => ⟨⟨ws, rfl, hq, by rw [ht]; exact hP, hD⟩, hS.F ht⟩) hS.2.2 hd hlocks
theorem i_callA {M' : uk_M} {f' mc' ms' idx nA b : Nat} {As : List Value} {Q' : va_W → Prop} {E' : State → Prop} (w1 : Cond.methodLink M.1.cls idx M'.1 ∈ uk_w) (w2 : Cond.instanceMethod M'.1 ∈ uk_w) (w4 : Cond.initialized M'.1.cls ∈ uk_w) (w5 : Cond.code M'.1 M'.2.1 M'.2.2.1 none ∈ uk_w) (hi : M'.1.name = "<init>") (hy : M'.1.cls ≠ "java/lang/invoke/MethodHandle" ∧ M'.1.cls ≠ "java/lang/invoke/VarHandle" ∧ (parseMethodDescriptor M'.1.desc).map (fun d => d.parameters.length) = some nA) (hn : M'.2.2.1 ≤ 21)
    (hE : ∀ (H : Heap) (locs : List Loc) (U : State), ui_Ok G G.2.2.2.2 E X M f mc ms Q → va_S G.2.2.2.2 X.2.2.2.1.heap H locs → U.heap = H → X.2.2.2.1.WarmedH U.vm → E' U) (hE2 : ∀ (U V : State), U.heap = V.heap → U.vm = V.vm → E' U → E' V)
    (hm : ui_MethA G E' f' mc' ms' M' (.ref b :: As) ws Q') (hf : f' + 1 ≤ f) (hk : k + mc' ≤ mc) (hs : n + ms' ≤ ms) (hA : As.length = nA) (hst : stk = As.reverse ++ .ref b :: st) (hc : (st.map fun v => v.category).sum ≤ 8) (hd : decode M.2.1 pc = .ok (.invokespecial idx, 3))
    (K : ∀ w : va_W, Q' w → ui_G G G.2.2.2.2 E X M f mc ms Q (k + mc') (n + ms') w (pc + 3) lv st) : ui_G G G.2.2.2.2 E X M f mc ms Q k n ws pc lv stk := fun hO ls H locs hl hP hD hS => by
  have hr := hO.2.2.2.2.2.2.2.2.1
  have hw := hO.2.2.2.2.1
  refine va_callv (va_runI (As := As) (rest := st) (Ts := uk_w) ⟨hO.1, hO.2.1, hO.2.2.1, hO.2.2.2.1, hw⟩ (hm H.size (fun q hq => hO.2.2.2.2.2.2.2.1 q (Nat.le_trans hS.1 hq))) (cwI nA hw (uk_goodIn w5) rfl rfl rfl (hw _ w4) (hw _ w1) (hw _ w2) hi hy ⟨Nat.le_trans hf hr.1, Nat.le_trans (by show 8 + (M'.2.2.1 + 11) + 40 * f' ≤ 40 * f; omega) hr.2.1⟩) ⟨fun a U g mk q => ?_, fun U hU hW => ⟨rfl, by rw [hU], by rw [hU]; exact hP, ⟨ui_K.warm hW hO.2.2.2.2.2.1.1, hE H locs U hO hS hU hW⟩, hD⟩⟩ rfl hA hl.1 hst (lv_room hc) hd ⟨Nat.le_trans hk hr.2.2.1, Nat.le_trans hs hr.2.2.2⟩) hS (fun q _ h => h) (fun q h => h) (fun w t H1 locs1 ht hvm hq hB hz1 hk1 hS1 => ?_)
  · obtain ⟨q0, q1, qP, qK, qD⟩ := q
    exact ⟨q0, q1, qP, ⟨ui_K.same (s := U) (U := U.calling g mk a) rfl qK.1, hE2 U (U.calling g mk a) rfl rfl qK.2⟩, qD⟩
  · obtain ⟨hP1, hD1⟩ := hB
    rw [ht] at hP1
    exact K w hq hO ls H1 locs1 hl hP1 hD1 hS1
/-- all cells are there: on with the flat memory -/
theorem i_flat {ad : Nat → Nat} {u : uk_Mem} {d : Nat} (hret : M.2.2.2 = none) (hws : ws = uk_ws (G.1, G.2.1, G.2.2.1, ad, A) u) (hE : ∀ U, E U → uk_E (G.1, G.2.1, G.2.2.1, ad, A) U) (hd : d ≤ f) (hk : k ≤ mc) (hn : n ≤ ms) (K : ∀ X' : uk_Cx, uk_Sep (G.1, G.2.1, G.2.2.1, ad, A) → uk_G (G.1, G.2.1, G.2.2.1, ad, A) X' M d (fun r u' => r = none ∧ Q (uk_ws (G.1, G.2.1, G.2.2.1, ad, A) u')) pc lv st u) : ui_G G A E X M f mc ms Q k n ws pc lv st := fun hO ls H locs hl hP hD hS => by
  subst hws
  have hr := hO.2.2.2.2.2.2.2.2.1
  have hsep : uk_Sep (G.1, G.2.1, G.2.2.1, ad, A) := by
    refine ⟨fun i j hi hj e => hD.1 i j _ _ (uk_ws_at hi) (uk_ws_at hj) e, fun i hi => hD.2 i _ (uk_ws_at hi)⟩
  refine K (X.1, X.2.1, X.2.2.1, X.2.2.2.1, X.2.2.2.2.1, X.2.2.2.2.2.1, X.2.2.2.2.2.2.1, X.2.2.2.2.2.2.2.1, X.2.2.2.2.2.2.2.2.1, k, n, X.2.2.2.2.2.2.2.2.2.2.2) hsep ⟨hO.1, hO.2.1, hO.2.2.1, hO.2.2.2.1, hO.2.2.2.2.1, hO.2.2.2.2.2.1.1.1, ⟨hO.2.2.2.2.2.1.1.2.1, hE _ hO.2.2.2.2.2.1.2⟩, hsep, ⟨Nat.le_trans hd hr.1, Nat.le_trans (Nat.mul_le_mul_left 40 hd) hr.2.1, Nat.le_trans hk hr.2.2.1, Nat.le_trans hn hr.2.2.2⟩, ?_⟩ ls H locs hl hP hS
  intro i pc ls st H locs u r hi hd hq hP hS
  rcases hi with ⟨rfl, v, ty, rfl, rfl, hty, hnr⟩ | ⟨rfl, rfl, rfl, hty⟩ | ⟨rfl, v, rfl, rfl, hty⟩ | ⟨rfl, a, n, rfl, rfl, hty⟩
  · exact absurd (hret.symm.trans hty) (by simp)
  · have hD' : va_D A (uk_ws (G.1, G.2.1, G.2.2.1, ad, A) u) := uk_sepD hsep u
    exact W.widen (k := mc) (n := ms) hk hn (hO.2.2.2.2.2.2.2.2.2 pc ls H locs _ hd hq.2 hP hD' hS)
  · exact absurd (hret.symm.trans hty) (by simp)
  · exact absurd (hret.symm.trans hty) (by simp)
end UIR
set_option maxHeartbeats 4000000 in
set_option maxRecDepth 20000 in
theorem c_X0_init {G : uk_D} (h0 : Nat) : ui_Meth G (fun _ => True) 1 8 64 mX0_init [.ref h0] [(h0, .inr (0, [.int 0, .null, .null, .null, .null, .null, .null, .null, .null, .int 0, .int 0, .int 0]))] (fun w => ∃ (q1 : Nat) (q2 : Nat) (q3 : Nat) (q4 : Nat) (q5 : Nat) (q6 : Nat) (q7 : Nat) (q8 : Nat), w = [(h0, .inr (0, [.int 0, .ref q1, .ref q2, .ref q3, .ref q4, .ref q5, .ref q6, .ref q7, .ref q8, .int 0, .int 0, .int 0])), (q1, .inl (G.2.2.1 8, 8, .inl (fun _ => 0))), (q2, .inl (G.2.2.1 8, 8, .inl (fun _ => 0))), (q3, .inl (G.2.2.1 8, 8, .inl (fun _ => 0))), (q4, .inl (G.2.2.1 8, 8, .inl (fun _ => 0))), (q5, .inl (G.2.2.1 8, 8, .inl (fun _ => 0))), (q6, .inl (G.2.2.1 8, 8, .inl (fun _ => 0))), (q7, .inl (G.2.2.1 8, 8, .inl (fun _ => 0))), (q8, .inl (G.2.2.1 8, 8, .inl (fun _ => 0)))]) := by
  refine ui_Meth.of (by decide) (Nat.le_of_ble_eq_true rfl) (fun A X => ?_)
  refine i_aload_n dX0_init_0 rfl ?_
  refine i_obj (uk_wI (List.mem_of_getElem? (i := 27) (by decide +kernel)) rfl) dX0_init_1 (by decide) (by decide) ?_
  refine i_aload_n dX0_init_4 rfl ?_
  refine i_iconst (v := 0) dX0_init_5 (by decide) ?_
  refine i_put (q0 := 0) (j := 0) (ty := .int) (ws' := [(h0, .inr (0, [.int 0, .null, .null, .null, .null, .null, .null, .null, .null, .int 0, .int 0, .int 0]))]) rfl rfl uk_in0 (by decide) tyX0_ok nmX0 rfl (by decide +kernel) rfl rfl (Nat.le_of_ble_eq_true rfl) (uk_wI (List.mem_of_getElem? (i := 28) (by decide +kernel)) rfl) dX0_init_6 rfl ?_
  refine i_aload_n dX0_init_9 rfl ?_
  refine i_bipush (v := 8) dX0_init_10 (by decide) ?_
  refine i_newa (atype := .int) (ty := .int) (a0 := (8, .inl (fun _ => 0))) 0 (uk_wI (List.mem_of_getElem? (i := 84) (by decide +kernel)) rfl) rfl rfl (fun _ _ h => h) (fun _ => rfl) (by decide) rfl (by decide) (by decide) (by decide) dX0_init_12 (fun q1 => ?_)
  refine i_ws (ws' := [(h0, .inr (0, [.int 0, .null, .null, .null, .null, .null, .null, .null, .null, .int 0, .int 0, .int 0])), (q1, .inl (G.2.2.1 8, 8, .inl (fun _ => 0)))]) rfl ?_
  refine i_putF (q0 := 0) (j := 1) (ty := (.array .int)) (ws' := [(h0, .inr (0, [.int 0, .ref q1, .null, .null, .null, .null, .null, .null, .null, .int 0, .int 0, .int 0])), (q1, .inl (G.2.2.1 8, 8, .inl (fun _ => 0)))]) rfl rfl uk_in0 (by decide) tyX0_ok nmX0 rfl rfl rfl (by decide +kernel) rfl rfl (Nat.le_of_ble_eq_true rfl) (uk_wI (List.mem_of_getElem? (i := 32) (by decide +kernel)) rfl) dX0_init_14 rfl ?_
  refine i_aload_n dX0_init_17 rfl ?_
  refine i_bipush (v := 8) dX0_init_18 (by decide) ?_
  refine i_newa (atype := .int) (ty := .int) (a0 := (8, .inl (fun _ => 0))) 0 (uk_wI (List.mem_of_getElem? (i := 84) (by decide +kernel)) rfl) rfl rfl (fun _ _ h => h) (fun _ => rfl) (by decide) rfl (by decide) (by decide) (by decide) dX0_init_20 (fun q2 => ?_)
  refine i_ws (ws' := [(h0, .inr (0, [.int 0, .ref q1, .null, .null, .null, .null, .null, .null, .null, .int 0, .int 0, .int 0])), (q1, .inl (G.2.2.1 8, 8, .inl (fun _ => 0))), (q2, .inl (G.2.2.1 8, 8, .inl (fun _ => 0)))]) rfl ?_
  refine i_putF (q0 := 0) (j := 2) (ty := (.array .int)) (ws' := [(h0, .inr (0, [.int 0, .ref q1, .ref q2, .null, .null, .null, .null, .null, .null, .int 0, .int 0, .int 0])), (q1, .inl (G.2.2.1 8, 8, .inl (fun _ => 0))), (q2, .inl (G.2.2.1 8, 8, .inl (fun _ => 0)))]) rfl rfl uk_in0 (by decide) tyX0_ok nmX0 rfl rfl rfl (by decide +kernel) rfl rfl (Nat.le_of_ble_eq_true rfl) (uk_wI (List.mem_of_getElem? (i := 35) (by decide +kernel)) rfl) dX0_init_22 rfl ?_
  refine i_aload_n dX0_init_25 rfl ?_
  refine i_bipush (v := 8) dX0_init_26 (by decide) ?_
  refine i_newa (atype := .int) (ty := .int) (a0 := (8, .inl (fun _ => 0))) 0 (uk_wI (List.mem_of_getElem? (i := 84) (by decide +kernel)) rfl) rfl rfl (fun _ _ h => h) (fun _ => rfl) (by decide) rfl (by decide) (by decide) (by decide) dX0_init_28 (fun q3 => ?_)
  refine i_ws (ws' := [(h0, .inr (0, [.int 0, .ref q1, .ref q2, .null, .null, .null, .null, .null, .null, .int 0, .int 0, .int 0])), (q1, .inl (G.2.2.1 8, 8, .inl (fun _ => 0))), (q2, .inl (G.2.2.1 8, 8, .inl (fun _ => 0))), (q3, .inl (G.2.2.1 8, 8, .inl (fun _ => 0)))]) rfl ?_
  refine i_putF (q0 := 0) (j := 3) (ty := (.array .int)) (ws' := [(h0, .inr (0, [.int 0, .ref q1, .ref q2, .ref q3, .null, .null, .null, .null, .null, .int 0, .int 0, .int 0])), (q1, .inl (G.2.2.1 8, 8, .inl (fun _ => 0))), (q2, .inl (G.2.2.1 8, 8, .inl (fun _ => 0))), (q3, .inl (G.2.2.1 8, 8, .inl (fun _ => 0)))]) rfl rfl uk_in0 (by decide) tyX0_ok nmX0 rfl rfl rfl (by decide +kernel) rfl rfl (Nat.le_of_ble_eq_true rfl) (uk_wI (List.mem_of_getElem? (i := 38) (by decide +kernel)) rfl) dX0_init_30 rfl ?_
  refine i_aload_n dX0_init_33 rfl ?_
  refine i_bipush (v := 8) dX0_init_34 (by decide) ?_
  refine i_newa (atype := .int) (ty := .int) (a0 := (8, .inl (fun _ => 0))) 0 (uk_wI (List.mem_of_getElem? (i := 84) (by decide +kernel)) rfl) rfl rfl (fun _ _ h => h) (fun _ => rfl) (by decide) rfl (by decide) (by decide) (by decide) dX0_init_36 (fun q4 => ?_)
  refine i_ws (ws' := [(h0, .inr (0, [.int 0, .ref q1, .ref q2, .ref q3, .null, .null, .null, .null, .null, .int 0, .int 0, .int 0])), (q1, .inl (G.2.2.1 8, 8, .inl (fun _ => 0))), (q2, .inl (G.2.2.1 8, 8, .inl (fun _ => 0))), (q3, .inl (G.2.2.1 8, 8, .inl (fun _ => 0))), (q4, .inl (G.2.2.1 8, 8, .inl (fun _ => 0)))]) rfl ?_
  refine i_putF (q0 := 0) (j := 4) (ty := (.array .int)) (ws' := [(h0, .inr (0, [.int 0, .ref q1, .ref q2, .ref q3, .ref q4, .null, .null, .null, .null, .int 0, .int 0, .int 0])), (q1, .inl (G.2.2.1 8, 8, .inl (fun _ => 0))), (q2, .inl (G.2.2.1 8, 8, .inl (fun _ => 0))), (q3, .inl (G.2.2.1 8, 8, .inl (fun _ => 0))), (q4, .inl (G.2.2.1 8, 8, .inl (fun _ => 0)))]) rfl rfl uk_in0 (by decide) tyX0_ok nmX0 rfl rfl rfl (by decide +kernel) rfl rfl (Nat.le_of_ble_eq_true rfl) (uk_wI (List.mem_of_getElem? (i := 41) (by decide +kernel)) rfl) dX0_init_38 rfl ?_
  refine i_aload_n dX0_init_41 rfl ?_
  refine i_bipush (v := 8) dX0_init_42 (by decide) ?_
  refine i_newa (atype := .int) (ty := .int) (a0 := (8, .inl (fun _ => 0))) 0 (uk_wI (List.mem_of_getElem? (i := 84) (by decide +kernel)) rfl) rfl rfl (fun _ _ h => h) (fun _ => rfl) (by decide) rfl (by decide) (by decide) (by decide) dX0_init_44 (fun q5 => ?_)
  refine i_ws (ws' := [(h0, .inr (0, [.int 0, .ref q1, .ref q2, .ref q3, .ref q4, .null, .null, .null, .null, .int 0, .int 0, .int 0])), (q1, .inl (G.2.2.1 8, 8, .inl (fun _ => 0))), (q2, .inl (G.2.2.1 8, 8, .inl (fun _ => 0))), (q3, .inl (G.2.2.1 8, 8, .inl (fun _ => 0))), (q4, .inl (G.2.2.1 8, 8, .inl (fun _ => 0))), (q5, .inl (G.2.2.1 8, 8, .inl (fun _ => 0)))]) rfl ?_
  refine i_putF (q0 := 0) (j := 5) (ty := (.array .int)) (ws' := [(h0, .inr (0, [.int 0, .ref q1, .ref q2, .ref q3, .ref q4, .ref q5, .null, .null, .null, .int 0, .int 0, .int 0])), (q1, .inl (G.2.2.1 8, 8, .inl (fun _ => 0))), (q2, .inl (G.2.2.1 8, 8, .inl (fun _ => 0))), (q3, .inl (G.2.2.1 8, 8, .inl (fun _ => 0))), (q4, .inl (G.2.2.1 8, 8, .inl (fun _ => 0))), (q5, .inl (G.2.2.1 8, 8, .inl (fun _ => 0)))]) rfl rfl uk_in0 (by decide) tyX0_ok nmX0 rfl rfl rfl (by decide +kernel) rfl rfl (Nat.le_of_ble_eq_true rfl) (uk_wI (List.mem_of_getElem? (i := 43) (by decide +kernel)) rfl) dX0_init_46 rfl ?_
  refine i_aload_n dX0_init_49 rfl ?_
  refine i_bipush (v := 8) dX0_init_50 (by decide) ?_
  refine i_newa (atype := .int) (ty := .int) (a0 := (8, .inl (fun _ => 0))) 0 (uk_wI (List.mem_of_getElem? (i := 84) (by decide +kernel)) rfl) rfl rfl (fun _ _ h => h) (fun _ => rfl) (by decide) rfl (by decide) (by decide) (by decide) dX0_init_52 (fun q6 => ?_)
  refine i_ws (ws' := [(h0, .inr (0, [.int 0, .ref q1, .ref q2, .ref q3, .ref q4, .ref q5, .null, .null, .null, .int 0, .int 0, .int 0])), (q1, .inl (G.2.2.1 8, 8, .inl (fun _ => 0))), (q2, .inl (G.2.2.1 8, 8, .inl (fun _ => 0))), (q3, .inl (G.2.2.1 8, 8, .inl (fun _ => 0))), (q4, .inl (G.2.2.1 8, 8, .inl (fun _ => 0))), (q5, .inl (G.2.2.1 8, 8, .inl (fun _ => 0))), (q6, .inl (G.2.2.1 8, 8, .inl (fun _ => 0)))]) rfl ?_
  refine i_putF (q0 := 0) (j := 6) (ty := (.array .int)) (ws' := [(h0, .inr (0, [.int 0, .ref q1, .ref q2, .ref q3, .ref q4, .ref q5, .ref q6, .null, .null, .int 0, .int 0, .int 0])), (q1, .inl (G.2.2.1 8, 8, .inl (fun _ => 0))), (q2, .inl (G.2.2.1 8, 8, .inl (fun _ => 0))), (q3, .inl (G.2.2.1 8, 8, .inl (fun _ => 0))), (q4, .inl (G.2.2.1 8, 8, .inl (fun _ => 0))), (q5, .inl (G.2.2.1 8, 8, .inl (fun _ => 0))), (q6, .inl (G.2.2.1 8, 8, .inl (fun _ => 0)))]) rfl rfl uk_in0 (by decide) tyX0_ok nmX0 rfl rfl rfl (by decide +kernel) rfl rfl (Nat.le_of_ble_eq_true rfl) (uk_wI (List.mem_of_getElem? (i := 45) (by decide +kernel)) rfl) dX0_init_54 rfl ?_
  refine i_aload_n dX0_init_57 rfl ?_
  refine i_bipush (v := 8) dX0_init_58 (by decide) ?_
  refine i_newa (atype := .int) (ty := .int) (a0 := (8, .inl (fun _ => 0))) 0 (uk_wI (List.mem_of_getElem? (i := 84) (by decide +kernel)) rfl) rfl rfl (fun _ _ h => h) (fun _ => rfl) (by decide) rfl (by decide) (by decide) (by decide) dX0_init_60 (fun q7 => ?_)
  refine i_ws (ws' := [(h0, .inr (0, [.int 0, .ref q1, .ref q2, .ref q3, .ref q4, .ref q5, .ref q6, .null, .null, .int 0, .int 0, .int 0])), (q1, .inl (G.2.2.1 8, 8, .inl (fun _ => 0))), (q2, .inl (G.2.2.1 8, 8, .inl (fun _ => 0))), (q3, .inl (G.2.2.1 8, 8, .inl (fun _ => 0))), (q4, .inl (G.2.2.1 8, 8, .inl (fun _ => 0))), (q5, .inl (G.2.2.1 8, 8, .inl (fun _ => 0))), (q6, .inl (G.2.2.1 8, 8, .inl (fun _ => 0))), (q7, .inl (G.2.2.1 8, 8, .inl (fun _ => 0)))]) rfl ?_
  refine i_putF (q0 := 0) (j := 7) (ty := (.array .int)) (ws' := [(h0, .inr (0, [.int 0, .ref q1, .ref q2, .ref q3, .ref q4, .ref q5, .ref q6, .ref q7, .null, .int 0, .int 0, .int 0])), (q1, .inl (G.2.2.1 8, 8, .inl (fun _ => 0))), (q2, .inl (G.2.2.1 8, 8, .inl (fun _ => 0))), (q3, .inl (G.2.2.1 8, 8, .inl (fun _ => 0))), (q4, .inl (G.2.2.1 8, 8, .inl (fun _ => 0))), (q5, .inl (G.2.2.1 8, 8, .inl (fun _ => 0))), (q6, .inl (G.2.2.1 8, 8, .inl (fun _ => 0))), (q7, .inl (G.2.2.1 8, 8, .inl (fun _ => 0)))]) rfl rfl uk_in0 (by decide) tyX0_ok nmX0 rfl rfl rfl (by decide +kernel) rfl rfl (Nat.le_of_ble_eq_true rfl) (uk_wI (List.mem_of_getElem? (i := 49) (by decide +kernel)) rfl) dX0_init_62 rfl ?_
  refine i_aload_n dX0_init_65 rfl ?_
  refine i_bipush (v := 8) dX0_init_66 (by decide) ?_
  refine i_newa (atype := .int) (ty := .int) (a0 := (8, .inl (fun _ => 0))) 0 (uk_wI (List.mem_of_getElem? (i := 84) (by decide +kernel)) rfl) rfl rfl (fun _ _ h => h) (fun _ => rfl) (by decide) rfl (by decide) (by decide) (by decide) dX0_init_68 (fun q8 => ?_)
  refine i_ws (ws' := [(h0, .inr (0, [.int 0, .ref q1, .ref q2, .ref q3, .ref q4, .ref q5, .ref q6, .ref q7, .null, .int 0, .int 0, .int 0])), (q1, .inl (G.2.2.1 8, 8, .inl (fun _ => 0))), (q2, .inl (G.2.2.1 8, 8, .inl (fun _ => 0))), (q3, .inl (G.2.2.1 8, 8, .inl (fun _ => 0))), (q4, .inl (G.2.2.1 8, 8, .inl (fun _ => 0))), (q5, .inl (G.2.2.1 8, 8, .inl (fun _ => 0))), (q6, .inl (G.2.2.1 8, 8, .inl (fun _ => 0))), (q7, .inl (G.2.2.1 8, 8, .inl (fun _ => 0))), (q8, .inl (G.2.2.1 8, 8, .inl (fun _ => 0)))]) rfl ?_
  refine i_putF (q0 := 0) (j := 8) (ty := (.array .int)) (ws' := [(h0, .inr (0, [.int 0, .ref q1, .ref q2, .ref q3, .ref q4, .ref q5, .ref q6, .ref q7, .ref q8, .int 0, .int 0, .int 0])), (q1, .inl (G.2.2.1 8, 8, .inl (fun _ => 0))), (q2, .inl (G.2.2.1 8, 8, .inl (fun _ => 0))), (q3, .inl (G.2.2.1 8, 8, .inl (fun _ => 0))), (q4, .inl (G.2.2.1 8, 8, .inl (fun _ => 0))), (q5, .inl (G.2.2.1 8, 8, .inl (fun _ => 0))), (q6, .inl (G.2.2.1 8, 8, .inl (fun _ => 0))), (q7, .inl (G.2.2.1 8, 8, .inl (fun _ => 0))), (q8, .inl (G.2.2.1 8, 8, .inl (fun _ => 0)))]) rfl rfl uk_in0 (by decide) tyX0_ok nmX0 rfl rfl rfl (by decide +kernel) rfl rfl (Nat.le_of_ble_eq_true rfl) (uk_wI (List.mem_of_getElem? (i := 51) (by decide +kernel)) rfl) dX0_init_70 rfl ?_
  refine i_aload_n dX0_init_73 rfl ?_
  refine i_iconst (v := 0) dX0_init_74 (by decide) ?_
  refine i_put (q0 := 0) (j := 9) (ty := .int) (ws' := [(h0, .inr (0, [.int 0, .ref q1, .ref q2, .ref q3, .ref q4, .ref q5, .ref q6, .ref q7, .ref q8, .int 0, .int 0, .int 0])), (q1, .inl (G.2.2.1 8, 8, .inl (fun _ => 0))), (q2, .inl (G.2.2.1 8, 8, .inl (fun _ => 0))), (q3, .inl (G.2.2.1 8, 8, .inl (fun _ => 0))), (q4, .inl (G.2.2.1 8, 8, .inl (fun _ => 0))), (q5, .inl (G.2.2.1 8, 8, .inl (fun _ => 0))), (q6, .inl (G.2.2.1 8, 8, .inl (fun _ => 0))), (q7, .inl (G.2.2.1 8, 8, .inl (fun _ => 0))), (q8, .inl (G.2.2.1 8, 8, .inl (fun _ => 0)))]) rfl rfl uk_in0 (by decide) tyX0_ok nmX0 rfl (by decide +kernel) rfl rfl (Nat.le_of_ble_eq_true rfl) (uk_wI (List.mem_of_getElem? (i := 53) (by decide +kernel)) rfl) dX0_init_75 rfl ?_
  refine i_aload_n dX0_init_78 rfl ?_
  refine i_iconst (v := 0) dX0_init_79 (by decide) ?_
  refine i_put (q0 := 0) (j := 10) (ty := .int) (ws' := [(h0, .inr (0, [.int 0, .ref q1, .ref q2, .ref q3, .ref q4, .ref q5, .ref q6, .ref q7, .ref q8, .int 0, .int 0, .int 0])), (q1, .inl (G.2.2.1 8, 8, .inl (fun _ => 0))), (q2, .inl (G.2.2.1 8, 8, .inl (fun _ => 0))), (q3, .inl (G.2.2.1 8, 8, .inl (fun _ => 0))), (q4, .inl (G.2.2.1 8, 8, .inl (fun _ => 0))), (q5, .inl (G.2.2.1 8, 8, .inl (fun _ => 0))), (q6, .inl (G.2.2.1 8, 8, .inl (fun _ => 0))), (q7, .inl (G.2.2.1 8, 8, .inl (fun _ => 0))), (q8, .inl (G.2.2.1 8, 8, .inl (fun _ => 0)))]) rfl rfl uk_in0 (by decide) tyX0_ok nmX0 rfl (by decide +kernel) rfl rfl (Nat.le_of_ble_eq_true rfl) (uk_wI (List.mem_of_getElem? (i := 55) (by decide +kernel)) rfl) dX0_init_80 rfl ?_
  refine i_aload_n dX0_init_83 rfl ?_
  refine i_iconst (v := 0) dX0_init_84 (by decide) ?_
  refine i_put (q0 := 0) (j := 11) (ty := .int) (ws' := [(h0, .inr (0, [.int 0, .ref q1, .ref q2, .ref q3, .ref q4, .ref q5, .ref q6, .ref q7, .ref q8, .int 0, .int 0, .int 0])), (q1, .inl (G.2.2.1 8, 8, .inl (fun _ => 0))), (q2, .inl (G.2.2.1 8, 8, .inl (fun _ => 0))), (q3, .inl (G.2.2.1 8, 8, .inl (fun _ => 0))), (q4, .inl (G.2.2.1 8, 8, .inl (fun _ => 0))), (q5, .inl (G.2.2.1 8, 8, .inl (fun _ => 0))), (q6, .inl (G.2.2.1 8, 8, .inl (fun _ => 0))), (q7, .inl (G.2.2.1 8, 8, .inl (fun _ => 0))), (q8, .inl (G.2.2.1 8, 8, .inl (fun _ => 0)))]) rfl rfl uk_in0 (by decide) tyX0_ok nmX0 rfl (by decide +kernel) rfl rfl (Nat.le_of_ble_eq_true rfl) (uk_wI (List.mem_of_getElem? (i := 57) (by decide +kernel)) rfl) dX0_init_85 rfl ?_
  exact i_ret dX0_init_88 (by decide) (by decide) ⟨q1, q2, q3, q4, q5, q6, q7, q8, rfl⟩
set_option maxHeartbeats 4000000 in
set_option maxRecDepth 20000 in
theorem c_X1_init {G : uk_D} (h0 : Nat) : ui_Meth G (fun _ => True) 1 4 153 mX1_init [.ref h0] [(h0, .inr (1, [.null, .int 0, .int 0, .null, .null, .null, .int 0]))] (fun w => ∃ (q1 : Nat) (q2 : Nat) (q3 : Nat) (q4 : Nat), w = [(h0, .inr (1, [.ref q1, .int 0, .int 0, .ref q2, .ref q3, .ref q4, .int 0])), (q1, .inl (G.2.2.1 8, 128, .inl (fun _ => 0))), (q2, .inl (G.2.2.1 8, 8, .inl (fun _ => 0))), (q3, .inl (G.2.2.1 8, 8, .inl (fun _ => 0))), (q4, .inl (G.2.2.1 8, 9, .inl (fun _ => 0)))]) := by
  refine ui_Meth.of (by decide) (Nat.le_of_ble_eq_true rfl) (fun A X => ?_)
  refine i_aload_n dX1_init_0 rfl ?_
  refine i_obj (uk_wI (List.mem_of_getElem? (i := 145) (by decide +kernel)) rfl) dX1_init_1 (by decide) (by decide) ?_
  refine i_aload_n dX1_init_4 rfl ?_
  refine i_sipush (v := 128) dX1_init_5 (by decide) ?_
  refine i_newa (atype := .int) (ty := .int) (a0 := (128, .inl (fun _ => 0))) 0 (uk_wI (List.mem_of_getElem? (i := 84) (by decide +kernel)) rfl) rfl rfl (fun _ _ h => h) (fun _ => rfl) (by decide) rfl (by decide) (by decide) (by decide) dX1_init_8 (fun q1 => ?_)
  refine i_ws (ws' := [(h0, .inr (1, [.null, .int 0, .int 0, .null, .null, .null, .int 0])), (q1, .inl (G.2.2.1 8, 128, .inl (fun _ => 0)))]) rfl ?_
  refine i_putF (q0 := 0) (j := 0) (ty := (.array .int)) (ws' := [(h0, .inr (1, [.ref q1, .int 0, .int 0, .null, .null, .null, .int 0])), (q1, .inl (G.2.2.1 8, 128, .inl (fun _ => 0)))]) rfl rfl uk_in1 (by decide) tyX1_ok nmX1 rfl rfl rfl (by decide +kernel) rfl rfl (Nat.le_of_ble_eq_true rfl) (uk_wI (List.mem_of_getElem? (i := 146) (by decide +kernel)) rfl) dX1_init_10 rfl ?_
  refine i_aload_n dX1_init_13 rfl ?_
  refine i_iconst (v := 0) dX1_init_14 (by decide) ?_
  refine i_put (q0 := 0) (j := 1) (ty := .int) (ws' := [(h0, .inr (1, [.ref q1, .int 0, .int 0, .null, .null, .null, .int 0])), (q1, .inl (G.2.2.1 8, 128, .inl (fun _ => 0)))]) rfl rfl uk_in1 (by decide) tyX1_ok nmX1 rfl (by decide +kernel) rfl rfl (Nat.le_of_ble_eq_true rfl) (uk_wI (List.mem_of_getElem? (i := 148) (by decide +kernel)) rfl) dX1_init_15 rfl ?_
  refine i_aload_n dX1_init_18 rfl ?_
  refine i_iconst (v := 0) dX1_init_19 (by decide) ?_
  refine i_put (q0 := 0) (j := 2) (ty := .int) (ws' := [(h0, .inr (1, [.ref q1, .int 0, .int 0, .null, .null, .null, .int 0])), (q1, .inl (G.2.2.1 8, 128, .inl (fun _ => 0)))]) rfl rfl uk_in1 (by decide) tyX1_ok nmX1 rfl (by decide +kernel) rfl rfl (Nat.le_of_ble_eq_true rfl) (uk_wI (List.mem_of_getElem? (i := 150) (by decide +kernel)) rfl) dX1_init_20 rfl ?_
  refine i_aload_n dX1_init_23 rfl ?_
  refine i_bipush (v := 8) dX1_init_24 (by decide) ?_
  refine i_newa (atype := .int) (ty := .int) (a0 := (8, .inl (fun _ => 0))) 0 (uk_wI (List.mem_of_getElem? (i := 84) (by decide +kernel)) rfl) rfl rfl (fun _ _ h => h) (fun _ => rfl) (by decide) rfl (by decide) (by decide) (by decide) dX1_init_26 (fun q2 => ?_)
  refine i_ws (ws' := [(h0, .inr (1, [.ref q1, .int 0, .int 0, .null, .null, .null, .int 0])), (q1, .inl (G.2.2.1 8, 128, .inl (fun _ => 0))), (q2, .inl (G.2.2.1 8, 8, .inl (fun _ => 0)))]) rfl ?_
  refine i_putF (q0 := 0) (j := 3) (ty := (.array .int)) (ws' := [(h0, .inr (1, [.ref q1, .int 0, .int 0, .ref q2, .null, .null, .int 0])), (q1, .inl (G.2.2.1 8, 128, .inl (fun _ => 0))), (q2, .inl (G.2.2.1 8, 8, .inl (fun _ => 0)))]) rfl rfl uk_in1 (by decide) tyX1_ok nmX1 rfl rfl rfl (by decide +kernel) rfl rfl (Nat.le_of_ble_eq_true rfl) (uk_wI (List.mem_of_getElem? (i := 152) (by decide +kernel)) rfl) dX1_init_28 rfl ?_
  refine i_aload_n dX1_init_31 rfl ?_
  refine i_bipush (v := 8) dX1_init_32 (by decide) ?_
  refine i_newa (atype := .int) (ty := .int) (a0 := (8, .inl (fun _ => 0))) 0 (uk_wI (List.mem_of_getElem? (i := 84) (by decide +kernel)) rfl) rfl rfl (fun _ _ h => h) (fun _ => rfl) (by decide) rfl (by decide) (by decide) (by decide) dX1_init_34 (fun q3 => ?_)
  refine i_ws (ws' := [(h0, .inr (1, [.ref q1, .int 0, .int 0, .ref q2, .null, .null, .int 0])), (q1, .inl (G.2.2.1 8, 128, .inl (fun _ => 0))), (q2, .inl (G.2.2.1 8, 8, .inl (fun _ => 0))), (q3, .inl (G.2.2.1 8, 8, .inl (fun _ => 0)))]) rfl ?_
  refine i_putF (q0 := 0) (j := 4) (ty := (.array .int)) (ws' := [(h0, .inr (1, [.ref q1, .int 0, .int 0, .ref q2, .ref q3, .null, .int 0])), (q1, .inl (G.2.2.1 8, 128, .inl (fun _ => 0))), (q2, .inl (G.2.2.1 8, 8, .inl (fun _ => 0))), (q3, .inl (G.2.2.1 8, 8, .inl (fun _ => 0)))]) rfl rfl uk_in1 (by decide) tyX1_ok nmX1 rfl rfl rfl (by decide +kernel) rfl rfl (Nat.le_of_ble_eq_true rfl) (uk_wI (List.mem_of_getElem? (i := 154) (by decide +kernel)) rfl) dX1_init_36 rfl ?_
  refine i_aload_n dX1_init_39 rfl ?_
  refine i_bipush (v := 9) dX1_init_40 (by decide) ?_
  refine i_newa (atype := .int) (ty := .int) (a0 := (9, .inl (fun _ => 0))) 0 (uk_wI (List.mem_of_getElem? (i := 84) (by decide +kernel)) rfl) rfl rfl (fun _ _ h => h) (fun _ => rfl) (by decide) rfl (by decide) (by decide) (by decide) dX1_init_42 (fun q4 => ?_)
  refine i_ws (ws' := [(h0, .inr (1, [.ref q1, .int 0, .int 0, .ref q2, .ref q3, .null, .int 0])), (q1, .inl (G.2.2.1 8, 128, .inl (fun _ => 0))), (q2, .inl (G.2.2.1 8, 8, .inl (fun _ => 0))), (q3, .inl (G.2.2.1 8, 8, .inl (fun _ => 0))), (q4, .inl (G.2.2.1 8, 9, .inl (fun _ => 0)))]) rfl ?_
  refine i_putF (q0 := 0) (j := 5) (ty := (.array .int)) (ws' := [(h0, .inr (1, [.ref q1, .int 0, .int 0, .ref q2, .ref q3, .ref q4, .int 0])), (q1, .inl (G.2.2.1 8, 128, .inl (fun _ => 0))), (q2, .inl (G.2.2.1 8, 8, .inl (fun _ => 0))), (q3, .inl (G.2.2.1 8, 8, .inl (fun _ => 0))), (q4, .inl (G.2.2.1 8, 9, .inl (fun _ => 0)))]) rfl rfl uk_in1 (by decide) tyX1_ok nmX1 rfl rfl rfl (by decide +kernel) rfl rfl (Nat.le_of_ble_eq_true rfl) (uk_wI (List.mem_of_getElem? (i := 155) (by decide +kernel)) rfl) dX1_init_44 rfl ?_
  refine i_aload_n dX1_init_47 rfl ?_
  refine i_iconst (v := 0) dX1_init_48 (by decide) ?_
  refine i_put (q0 := 0) (j := 6) (ty := .int) (ws' := [(h0, .inr (1, [.ref q1, .int 0, .int 0, .ref q2, .ref q3, .ref q4, .int 0])), (q1, .inl (G.2.2.1 8, 128, .inl (fun _ => 0))), (q2, .inl (G.2.2.1 8, 8, .inl (fun _ => 0))), (q3, .inl (G.2.2.1 8, 8, .inl (fun _ => 0))), (q4, .inl (G.2.2.1 8, 9, .inl (fun _ => 0)))]) rfl rfl uk_in1 (by decide) tyX1_ok nmX1 rfl (by decide +kernel) rfl rfl (Nat.le_of_ble_eq_true rfl) (uk_wI (List.mem_of_getElem? (i := 156) (by decide +kernel)) rfl) dX1_init_49 rfl ?_
  exact i_ret dX1_init_52 (by decide) (by decide) ⟨q1, q2, q3, q4, rfl⟩
set_option maxHeartbeats 4000000 in
set_option maxRecDepth 20000 in
theorem c_X2_init {G : uk_D} (h0 : Nat) : ui_Meth G (fun _ => True) 1 2 8 mX2_init [.ref h0] [(h0, .inr (2, [.null, .null, .int 0, .int 0, .int 0]))] (fun w => ∃ (q1 : Nat) (q2 : Nat), w = [(h0, .inr (2, [.ref q1, .ref q2, .int 0, .int 0, .int 0])), (q1, .inl (G.2.2.1 8, 4, .inl (fun _ => 0))), (q2, .inl (G.2.2.1 8, 4, .inl (fun _ => 0)))]) := by
  refine ui_Meth.of (by decide) (Nat.le_of_ble_eq_true rfl) (fun A X => ?_)
  refine i_aload_n dX2_init_0 rfl ?_
  refine i_obj (uk_wI (List.mem_of_getElem? (i := 178) (by decide +kernel)) rfl) dX2_init_1 (by decide) (by decide) ?_
  refine i_aload_n dX2_init_4 rfl ?_
  refine i_iconst (v := 4) dX2_init_5 (by decide) ?_
  refine i_newa (atype := .int) (ty := .int) (a0 := (4, .inl (fun _ => 0))) 0 (uk_wI (List.mem_of_getElem? (i := 84) (by decide +kernel)) rfl) rfl rfl (fun _ _ h => h) (fun _ => rfl) (by decide) rfl (by decide) (by decide) (by decide) dX2_init_6 (fun q1 => ?_)
  refine i_ws (ws' := [(h0, .inr (2, [.null, .null, .int 0, .int 0, .int 0])), (q1, .inl (G.2.2.1 8, 4, .inl (fun _ => 0)))]) rfl ?_
  refine i_putF (q0 := 0) (j := 0) (ty := (.array .int)) (ws' := [(h0, .inr (2, [.ref q1, .null, .int 0, .int 0, .int 0])), (q1, .inl (G.2.2.1 8, 4, .inl (fun _ => 0)))]) rfl rfl uk_in2 (by decide) tyX2_ok nmX2 rfl rfl rfl (by decide +kernel) rfl rfl (Nat.le_of_ble_eq_true rfl) (uk_wI (List.mem_of_getElem? (i := 179) (by decide +kernel)) rfl) dX2_init_8 rfl ?_
  refine i_aload_n dX2_init_11 rfl ?_
  refine i_iconst (v := 4) dX2_init_12 (by decide) ?_
  refine i_newa (atype := .int) (ty := .int) (a0 := (4, .inl (fun _ => 0))) 0 (uk_wI (List.mem_of_getElem? (i := 84) (by decide +kernel)) rfl) rfl rfl (fun _ _ h => h) (fun _ => rfl) (by decide) rfl (by decide) (by decide) (by decide) dX2_init_13 (fun q2 => ?_)
  refine i_ws (ws' := [(h0, .inr (2, [.ref q1, .null, .int 0, .int 0, .int 0])), (q1, .inl (G.2.2.1 8, 4, .inl (fun _ => 0))), (q2, .inl (G.2.2.1 8, 4, .inl (fun _ => 0)))]) rfl ?_
  refine i_putF (q0 := 0) (j := 1) (ty := (.array .int)) (ws' := [(h0, .inr (2, [.ref q1, .ref q2, .int 0, .int 0, .int 0])), (q1, .inl (G.2.2.1 8, 4, .inl (fun _ => 0))), (q2, .inl (G.2.2.1 8, 4, .inl (fun _ => 0)))]) rfl rfl uk_in2 (by decide) tyX2_ok nmX2 rfl rfl rfl (by decide +kernel) rfl rfl (Nat.le_of_ble_eq_true rfl) (uk_wI (List.mem_of_getElem? (i := 180) (by decide +kernel)) rfl) dX2_init_15 rfl ?_
  refine i_aload_n dX2_init_18 rfl ?_
  refine i_iconst (v := 0) dX2_init_19 (by decide) ?_
  refine i_put (q0 := 0) (j := 2) (ty := .int) (ws' := [(h0, .inr (2, [.ref q1, .ref q2, .int 0, .int 0, .int 0])), (q1, .inl (G.2.2.1 8, 4, .inl (fun _ => 0))), (q2, .inl (G.2.2.1 8, 4, .inl (fun _ => 0)))]) rfl rfl uk_in2 (by decide) tyX2_ok nmX2 rfl (by decide +kernel) rfl rfl (Nat.le_of_ble_eq_true rfl) (uk_wI (List.mem_of_getElem? (i := 181) (by decide +kernel)) rfl) dX2_init_20 rfl ?_
  refine i_aload_n dX2_init_23 rfl ?_
  refine i_iconst (v := 0) dX2_init_24 (by decide) ?_
  refine i_put (q0 := 0) (j := 3) (ty := .int) (ws' := [(h0, .inr (2, [.ref q1, .ref q2, .int 0, .int 0, .int 0])), (q1, .inl (G.2.2.1 8, 4, .inl (fun _ => 0))), (q2, .inl (G.2.2.1 8, 4, .inl (fun _ => 0)))]) rfl rfl uk_in2 (by decide) tyX2_ok nmX2 rfl (by decide +kernel) rfl rfl (Nat.le_of_ble_eq_true rfl) (uk_wI (List.mem_of_getElem? (i := 183) (by decide +kernel)) rfl) dX2_init_25 rfl ?_
  refine i_aload_n dX2_init_28 rfl ?_
  refine i_iconst (v := 0) dX2_init_29 (by decide) ?_
  refine i_put (q0 := 0) (j := 4) (ty := .int) (ws' := [(h0, .inr (2, [.ref q1, .ref q2, .int 0, .int 0, .int 0])), (q1, .inl (G.2.2.1 8, 4, .inl (fun _ => 0))), (q2, .inl (G.2.2.1 8, 4, .inl (fun _ => 0)))]) rfl rfl uk_in2 (by decide) tyX2_ok nmX2 rfl (by decide +kernel) rfl rfl (Nat.le_of_ble_eq_true rfl) (uk_wI (List.mem_of_getElem? (i := 185) (by decide +kernel)) rfl) dX2_init_30 rfl ?_
  exact i_ret dX2_init_33 (by decide) (by decide) ⟨q1, q2, rfl⟩
set_option maxHeartbeats 4000000 in
set_option maxRecDepth 20000 in
theorem c_X3_init {G : uk_D} (h0 : Nat) : ui_Meth G (fun _ => True) 1 7 172 mX3_init [.ref h0] [(h0, .inr (3, [.null, .null, .null]))] (fun w => ∃ (q1 : Nat) (q2 : Nat) (q3 : Nat) (r4 : Nat → Nat), w = [(h0, .inr (3, [.ref q1, .ref q2, .ref q3])), (q1, .inl (G.2.2.1 8, 4, .inl (upd (upd (upd (upd (fun _ => 0) (0 : Int32).toNatClampNeg (-1)) (1 : Int32).toNatClampNeg (-1)) (2 : Int32).toNatClampNeg (-1)) (3 : Int32).toNatClampNeg (-1)))), (q2, .inl (G.2.2.1 8, 4, .inl (fun _ => 0))), (q3, .inl (G.2.2.1 12, 4, .inr (.inr (.inr (.inr (fun i => if i < 4 then some (r4 i) else none)))))), (r4 0, .inl (G.2.2.1 8, 40, .inl (fun _ => 0))), (r4 1, .inl (G.2.2.1 8, 40, .inl (fun _ => 0))), (r4 2, .inl (G.2.2.1 8, 40, .inl (fun _ => 0))), (r4 3, .inl (G.2.2.1 8, 40, .inl (fun _ => 0)))]) := by
  refine ui_Meth.of (by decide) (Nat.le_of_ble_eq_true rfl) (fun A X => ?_)
  refine i_aload_n dX3_init_0 rfl ?_
  refine i_obj (uk_wI (List.mem_of_getElem? (i := 202) (by decide +kernel)) rfl) dX3_init_1 (by decide) (by decide) ?_
  refine i_aload_n dX3_init_4 rfl ?_
  refine i_iconst (v := 4) dX3_init_5 (by decide) ?_
  refine i_newa (atype := .int) (ty := .int) (a0 := (4, .inl (fun _ => 0))) 0 (uk_wI (List.mem_of_getElem? (i := 84) (by decide +kernel)) rfl) rfl rfl (fun _ _ h => h) (fun _ => rfl) (by decide) rfl (by decide) (by decide) (by decide) dX3_init_6 (fun q1 => ?_)
  refine i_ws (ws' := [(h0, .inr (3, [.null, .null, .null])), (q1, .inl (G.2.2.1 8, 4, .inl (fun _ => 0)))]) rfl ?_
  refine i_dup dX3_init_8 rfl ?_
  refine i_iconst (v := 0) dX3_init_9 (by decide) ?_
  refine i_iconst (v := (-1)) dX3_init_10 (by decide) ?_
  refine i_iast (q0 := 1) (t0 := 0) (ws' := [(h0, .inr (3, [.null, .null, .null])), (q1, .inl (G.2.2.1 8, 4, .inl (upd (fun _ => 0) (0 : Int32).toNatClampNeg (-1))))]) rfl rfl (uk_vin 4 rfl (by decide) (by decide)) dX3_init_11 rfl ?_
  refine i_dup dX3_init_12 rfl ?_
  refine i_iconst (v := 1) dX3_init_13 (by decide) ?_
  refine i_iconst (v := (-1)) dX3_init_14 (by decide) ?_
  refine i_iast (q0 := 1) (t0 := 0) (ws' := [(h0, .inr (3, [.null, .null, .null])), (q1, .inl (G.2.2.1 8, 4, .inl (upd (upd (fun _ => 0) (0 : Int32).toNatClampNeg (-1)) (1 : Int32).toNatClampNeg (-1))))]) rfl rfl (uk_vin 4 rfl (by decide) (by decide)) dX3_init_15 rfl ?_
  refine i_dup dX3_init_16 rfl ?_
  refine i_iconst (v := 2) dX3_init_17 (by decide) ?_
  refine i_iconst (v := (-1)) dX3_init_18 (by decide) ?_
  refine i_iast (q0 := 1) (t0 := 0) (ws' := [(h0, .inr (3, [.null, .null, .null])), (q1, .inl (G.2.2.1 8, 4, .inl (upd (upd (upd (fun _ => 0) (0 : Int32).toNatClampNeg (-1)) (1 : Int32).toNatClampNeg (-1)) (2 : Int32).toNatClampNeg (-1))))]) rfl rfl (uk_vin 4 rfl (by decide) (by decide)) dX3_init_19 rfl ?_
  refine i_dup dX3_init_20 rfl ?_
  refine i_iconst (v := 3) dX3_init_21 (by decide) ?_
  refine i_iconst (v := (-1)) dX3_init_22 (by decide) ?_
  refine i_iast (q0 := 1) (t0 := 0) (ws' := [(h0, .inr (3, [.null, .null, .null])), (q1, .inl (G.2.2.1 8, 4, .inl (upd (upd (upd (upd (fun _ => 0) (0 : Int32).toNatClampNeg (-1)) (1 : Int32).toNatClampNeg (-1)) (2 : Int32).toNatClampNeg (-1)) (3 : Int32).toNatClampNeg (-1))))]) rfl rfl (uk_vin 4 rfl (by decide) (by decide)) dX3_init_23 rfl ?_
  refine i_putF (q0 := 0) (j := 0) (ty := (.array .int)) (ws' := [(h0, .inr (3, [.ref q1, .null, .null])), (q1, .inl (G.2.2.1 8, 4, .inl (upd (upd (upd (upd (fun _ => 0) (0 : Int32).toNatClampNeg (-1)) (1 : Int32).toNatClampNeg (-1)) (2 : Int32).toNatClampNeg (-1)) (3 : Int32).toNatClampNeg (-1))))]) rfl rfl uk_in3 (by decide) tyX3_ok nmX3 rfl rfl rfl (by decide +kernel) rfl rfl (Nat.le_of_ble_eq_true rfl) (uk_wI (List.mem_of_getElem? (i := 205) (by decide +kernel)) rfl) dX3_init_24 rfl ?_
  refine i_aload_n dX3_init_27 rfl ?_
  refine i_iconst (v := 4) dX3_init_28 (by decide) ?_
  refine i_newa (atype := .int) (ty := .int) (a0 := (4, .inl (fun _ => 0))) 0 (uk_wI (List.mem_of_getElem? (i := 84) (by decide +kernel)) rfl) rfl rfl (fun _ _ h => h) (fun _ => rfl) (by decide) rfl (by decide) (by decide) (by decide) dX3_init_29 (fun q2 => ?_)
  refine i_ws (ws' := [(h0, .inr (3, [.ref q1, .null, .null])), (q1, .inl (G.2.2.1 8, 4, .inl (upd (upd (upd (upd (fun _ => 0) (0 : Int32).toNatClampNeg (-1)) (1 : Int32).toNatClampNeg (-1)) (2 : Int32).toNatClampNeg (-1)) (3 : Int32).toNatClampNeg (-1)))), (q2, .inl (G.2.2.1 8, 4, .inl (fun _ => 0)))]) rfl ?_
  refine i_putF (q0 := 0) (j := 1) (ty := (.array .int)) (ws' := [(h0, .inr (3, [.ref q1, .ref q2, .null])), (q1, .inl (G.2.2.1 8, 4, .inl (upd (upd (upd (upd (fun _ => 0) (0 : Int32).toNatClampNeg (-1)) (1 : Int32).toNatClampNeg (-1)) (2 : Int32).toNatClampNeg (-1)) (3 : Int32).toNatClampNeg (-1)))), (q2, .inl (G.2.2.1 8, 4, .inl (fun _ => 0)))]) rfl rfl uk_in3 (by decide) tyX3_ok nmX3 rfl rfl rfl (by decide +kernel) rfl rfl (Nat.le_of_ble_eq_true rfl) (uk_wI (List.mem_of_getElem? (i := 206) (by decide +kernel)) rfl) dX3_init_31 rfl ?_
  refine i_aload_n dX3_init_34 rfl ?_
  refine i_iconst (v := 4) dX3_init_35 (by decide) ?_
  refine i_bipush (v := 40) dX3_init_36 (by decide) ?_
  refine i_mna 0 4 (uk_wI (List.mem_of_getElem? (i := 203) (by decide +kernel)) rfl) (uk_wI (List.mem_of_getElem? (i := 84) (by decide +kernel)) rfl) rfl rfl rfl rfl (by decide) (by decide) dX3_init_38 (fun q3 r4 => ?_)
  refine i_ws (ws' := [(h0, .inr (3, [.ref q1, .ref q2, .null])), (q1, .inl (G.2.2.1 8, 4, .inl (upd (upd (upd (upd (fun _ => 0) (0 : Int32).toNatClampNeg (-1)) (1 : Int32).toNatClampNeg (-1)) (2 : Int32).toNatClampNeg (-1)) (3 : Int32).toNatClampNeg (-1)))), (q2, .inl (G.2.2.1 8, 4, .inl (fun _ => 0))), (q3, .inl (G.2.2.1 12, 4, .inr (.inr (.inr (.inr (fun i => if i < 4 then some (r4 i) else none)))))), (r4 0, .inl (G.2.2.1 8, 40, .inl (fun _ => 0))), (r4 1, .inl (G.2.2.1 8, 40, .inl (fun _ => 0))), (r4 2, .inl (G.2.2.1 8, 40, .inl (fun _ => 0))), (r4 3, .inl (G.2.2.1 8, 40, .inl (fun _ => 0)))]) rfl ?_
  refine i_putF (q0 := 0) (j := 2) (ty := (.array (.array .int))) (ws' := [(h0, .inr (3, [.ref q1, .ref q2, .ref q3])), (q1, .inl (G.2.2.1 8, 4, .inl (upd (upd (upd (upd (fun _ => 0) (0 : Int32).toNatClampNeg (-1)) (1 : Int32).toNatClampNeg (-1)) (2 : Int32).toNatClampNeg (-1)) (3 : Int32).toNatClampNeg (-1)))), (q2, .inl (G.2.2.1 8, 4, .inl (fun _ => 0))), (q3, .inl (G.2.2.1 12, 4, .inr (.inr (.inr (.inr (fun i => if i < 4 then some (r4 i) else none)))))), (r4 0, .inl (G.2.2.1 8, 40, .inl (fun _ => 0))), (r4 1, .inl (G.2.2.1 8, 40, .inl (fun _ => 0))), (r4 2, .inl (G.2.2.1 8, 40, .inl (fun _ => 0))), (r4 3, .inl (G.2.2.1 8, 40, .inl (fun _ => 0)))]) rfl rfl uk_in3 (by decide) tyX3_ok nmX3 rfl rfl rfl (by decide +kernel) rfl rfl (Nat.le_of_ble_eq_true rfl) (uk_wI (List.mem_of_getElem? (i := 208) (by decide +kernel)) rfl) dX3_init_42 rfl ?_
  exact i_ret dX3_init_45 (by decide) (by decide) ⟨q1, q2, q3, r4, rfl⟩
set_option maxHeartbeats 4000000 in
set_option maxRecDepth 20000 in
theorem c_X4_init {G : uk_D} (h0 : Nat) : ui_Meth G (fun _ => True) 1 1 160 mX4_init [.ref h0] [(h0, .inr (4, [.null, .int 0, .int 0, .int 0, .int 0, .int 0]))] (fun w => ∃ (q1 : Nat), w = [(h0, .inr (4, [.ref q1, .int 0, .int 0, .int 0, .int 0, .int 0])), (q1, .inl (G.2.2.1 9, 160, .inl (fun _ => 0)))]) := by
  refine ui_Meth.of (by decide) (Nat.le_of_ble_eq_true rfl) (fun A X => ?_)
  refine i_aload_n dX4_init_0 rfl ?_
  refine i_obj (uk_wI (List.mem_of_getElem? (i := 90) (by decide +kernel)) rfl) dX4_init_1 (by decide) (by decide) ?_
  refine i_aload_n dX4_init_4 rfl ?_
  refine i_sipush (v := 160) dX4_init_5 (by decide) ?_
  refine i_newa (atype := .byte) (ty := .byte) (a0 := (160, .inl (fun _ => 0))) 1 (uk_wI (List.mem_of_getElem? (i := 115) (by decide +kernel)) rfl) rfl rfl (fun _ _ h => h) (fun _ => rfl) (by decide) rfl (by decide) (by decide) (by decide) dX4_init_8 (fun q1 => ?_)
  refine i_ws (ws' := [(h0, .inr (4, [.null, .int 0, .int 0, .int 0, .int 0, .int 0])), (q1, .inl (G.2.2.1 9, 160, .inl (fun _ => 0)))]) rfl ?_
  refine i_putF (q0 := 0) (j := 0) (ty := (.array .byte)) (ws' := [(h0, .inr (4, [.ref q1, .int 0, .int 0, .int 0, .int 0, .int 0])), (q1, .inl (G.2.2.1 9, 160, .inl (fun _ => 0)))]) rfl rfl uk_in4 (by decide) tyX4_ok nmX4 rfl rfl rfl (by decide +kernel) rfl rfl (Nat.le_of_ble_eq_true rfl) (uk_wI (List.mem_of_getElem? (i := 91) (by decide +kernel)) rfl) dX4_init_10 rfl ?_
  refine i_aload_n dX4_init_13 rfl ?_
  refine i_iconst (v := 0) dX4_init_14 (by decide) ?_
  refine i_put (q0 := 0) (j := 1) (ty := .int) (ws' := [(h0, .inr (4, [.ref q1, .int 0, .int 0, .int 0, .int 0, .int 0])), (q1, .inl (G.2.2.1 9, 160, .inl (fun _ => 0)))]) rfl rfl uk_in4 (by decide) tyX4_ok nmX4 rfl (by decide +kernel) rfl rfl (Nat.le_of_ble_eq_true rfl) (uk_wI (List.mem_of_getElem? (i := 92) (by decide +kernel)) rfl) dX4_init_15 rfl ?_
  refine i_aload_n dX4_init_18 rfl ?_
  refine i_iconst (v := 0) dX4_init_19 (by decide) ?_
  refine i_put (q0 := 0) (j := 2) (ty := .int) (ws' := [(h0, .inr (4, [.ref q1, .int 0, .int 0, .int 0, .int 0, .int 0])), (q1, .inl (G.2.2.1 9, 160, .inl (fun _ => 0)))]) rfl rfl uk_in4 (by decide) tyX4_ok nmX4 rfl (by decide +kernel) rfl rfl (Nat.le_of_ble_eq_true rfl) (uk_wI (List.mem_of_getElem? (i := 95) (by decide +kernel)) rfl) dX4_init_20 rfl ?_
  refine i_aload_n dX4_init_23 rfl ?_
  refine i_iconst (v := 0) dX4_init_24 (by decide) ?_
  refine i_put (q0 := 0) (j := 3) (ty := .int) (ws' := [(h0, .inr (4, [.ref q1, .int 0, .int 0, .int 0, .int 0, .int 0])), (q1, .inl (G.2.2.1 9, 160, .inl (fun _ => 0)))]) rfl rfl uk_in4 (by decide) tyX4_ok nmX4 rfl (by decide +kernel) rfl rfl (Nat.le_of_ble_eq_true rfl) (uk_wI (List.mem_of_getElem? (i := 96) (by decide +kernel)) rfl) dX4_init_25 rfl ?_
  refine i_aload_n dX4_init_28 rfl ?_
  refine i_iconst (v := 0) dX4_init_29 (by decide) ?_
  refine i_put (q0 := 0) (j := 4) (ty := .int) (ws' := [(h0, .inr (4, [.ref q1, .int 0, .int 0, .int 0, .int 0, .int 0])), (q1, .inl (G.2.2.1 9, 160, .inl (fun _ => 0)))]) rfl rfl uk_in4 (by decide) tyX4_ok nmX4 rfl (by decide +kernel) rfl rfl (Nat.le_of_ble_eq_true rfl) (uk_wI (List.mem_of_getElem? (i := 98) (by decide +kernel)) rfl) dX4_init_30 rfl ?_
  refine i_aload_n dX4_init_33 rfl ?_
  refine i_iconst (v := 0) dX4_init_34 (by decide) ?_
  refine i_put (q0 := 0) (j := 5) (ty := .int) (ws' := [(h0, .inr (4, [.ref q1, .int 0, .int 0, .int 0, .int 0, .int 0])), (q1, .inl (G.2.2.1 9, 160, .inl (fun _ => 0)))]) rfl rfl uk_in4 (by decide) tyX4_ok nmX4 rfl (by decide +kernel) rfl rfl (Nat.le_of_ble_eq_true rfl) (uk_wI (List.mem_of_getElem? (i := 100) (by decide +kernel)) rfl) dX4_init_35 rfl ?_
  exact i_ret dX4_init_38 (by decide) (by decide) ⟨q1, rfl⟩
set_option maxHeartbeats 4000000 in
set_option maxRecDepth 20000 in
theorem c_X5_init {G : uk_D} (h0 : Nat) (a1 : Nat) (a2 : Nat) : ui_Meth G (fun _ => True) 1 0 0 mX5_init [.ref h0, .ref a1, .ref a2] [(h0, .inr (5, [.null, .null, .int 0, .int 0, .int 0]))] (fun w => w = [(h0, .inr (5, [.ref a1, .ref a2, .int 0, .int 0, .int 0]))]) := by
  refine ui_Meth.of (by decide) (Nat.le_of_ble_eq_true rfl) (fun A X => ?_)
  refine i_aload_n dX5_init_0 rfl ?_
  refine i_obj (uk_wI (List.mem_of_getElem? (i := 121) (by decide +kernel)) rfl) dX5_init_1 (by decide) (by decide) ?_
  refine i_aload_n dX5_init_4 rfl ?_
  refine i_iconst (v := 0) dX5_init_5 (by decide) ?_
  refine i_put (q0 := 0) (j := 2) (ty := .int) (ws' := [(h0, .inr (5, [.null, .null, .int 0, .int 0, .int 0]))]) rfl rfl uk_in5 (by decide) tyX5_ok nmX5 rfl (by decide +kernel) rfl rfl (Nat.le_of_ble_eq_true rfl) (uk_wI (List.mem_of_getElem? (i := 124) (by decide +kernel)) rfl) dX5_init_6 rfl ?_
  refine i_aload_n dX5_init_9 rfl ?_
  refine i_iconst (v := 0) dX5_init_10 (by decide) ?_
  refine i_put (q0 := 0) (j := 3) (ty := .int) (ws' := [(h0, .inr (5, [.null, .null, .int 0, .int 0, .int 0]))]) rfl rfl uk_in5 (by decide) tyX5_ok nmX5 rfl (by decide +kernel) rfl rfl (Nat.le_of_ble_eq_true rfl) (uk_wI (List.mem_of_getElem? (i := 126) (by decide +kernel)) rfl) dX5_init_11 rfl ?_
  refine i_aload_n dX5_init_14 rfl ?_
  refine i_iconst (v := 0) dX5_init_15 (by decide) ?_
  refine i_put (q0 := 0) (j := 4) (ty := .int) (ws' := [(h0, .inr (5, [.null, .null, .int 0, .int 0, .int 0]))]) rfl rfl uk_in5 (by decide) tyX5_ok nmX5 rfl (by decide +kernel) rfl rfl (Nat.le_of_ble_eq_true rfl) (uk_wI (List.mem_of_getElem? (i := 128) (by decide +kernel)) rfl) dX5_init_16 rfl ?_
  refine i_aload_n dX5_init_19 rfl ?_
  refine i_aload_n dX5_init_20 rfl ?_
  refine i_putF (q0 := 0) (j := 0) (ty := (.object "UncookMill$Tape")) (ws' := [(h0, .inr (5, [.ref a1, .null, .int 0, .int 0, .int 0]))]) rfl rfl uk_in5 (by decide) tyX5_ok nmX5 rfl rfl rfl (by decide +kernel) rfl rfl (Nat.le_of_ble_eq_true rfl) (uk_wI (List.mem_of_getElem? (i := 122) (by decide +kernel)) rfl) dX5_init_21 rfl ?_
  refine i_aload_n dX5_init_24 rfl ?_
  refine i_aload_n dX5_init_25 rfl ?_
  refine i_putF (q0 := 0) (j := 1) (ty := (.object "UncookMill$Kitchen")) (ws' := [(h0, .inr (5, [.ref a1, .ref a2, .int 0, .int 0, .int 0]))]) rfl rfl uk_in5 (by decide) tyX5_ok nmX5 rfl rfl rfl (by decide +kernel) rfl rfl (Nat.le_of_ble_eq_true rfl) (uk_wI (List.mem_of_getElem? (i := 123) (by decide +kernel)) rfl) dX5_init_26 rfl ?_
  exact i_ret dX5_init_29 (by decide) (by decide) rfl
