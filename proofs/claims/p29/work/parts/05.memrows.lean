section UKM
variable {G : uk_D} {X : uk_Cx} {M : uk_M} {d : Nat} {Q : Option Value → uk_Mem → Prop} {pc : Nat} {lv : List (Nat × Value)} {st : List Value} {u : uk_Mem}
theorem uk_ent_obj {c ci : Nat} (hk : uk_kind c = ci) (h : ci < 8) : uk_ent G u c = .inr (ci, uk_fvs G u c 0 (uk_ftab ci)) := by
  unfold uk_ent
  rw [hk]
  rcases (show ci = 0 ∨ ci = 1 ∨ ci = 2 ∨ ci = 3 ∨ ci = 4 ∨ ci = 5 ∨ ci = 6 ∨ ci = 7 by omega) with rfl | rfl | rfl | rfl | rfl | rfl | rfl | rfl <;> rfl
theorem uk_ent_8 {c : Nat} (hk : uk_kind c = 8) : uk_ent G u c = .inl (G.2.2.1 8, uk_len c, .inl (u.1 c)) := by
  unfold uk_ent
  rw [hk]
  rfl
theorem uk_ent_9 {c : Nat} (hk : uk_kind c = 9) : uk_ent G u c = .inl (G.2.2.1 9, uk_len c, .inl (u.1 c)) := by
  unfold uk_ent
  rw [hk]
  rfl
theorem uk_ent_10 {c : Nat} (hk : uk_kind c = 10) : uk_ent G u c = .inl (G.2.2.1 10, uk_len c, .inl (u.1 c)) := by
  unfold uk_ent
  rw [hk]
  rfl
theorem uk_ent_11 {c : Nat} (hk : uk_kind c = 11) : uk_ent G u c = .inl (G.2.2.1 11, uk_len c, .inr (.inl (u.2 c))) := by
  unfold uk_ent
  rw [hk]
  rfl
theorem uk_ent_12 {c : Nat} (hk : uk_kind c = 12) : uk_ent G u c = .inl (G.2.2.1 12, uk_len c, .inr (.inr (.inr (.inr (fun i => if i < uk_len c then some (uk_ad G (c + 1 + i)) else none))))) := by
  unfold uk_ent
  rw [hk]
  rfl
theorem uk_obj_at {c ci : Nat} (hk : uk_kind c = ci) (h : ci < 8) : (uk_ws G u)[c]? = some (uk_ad G c, .inr (ci, uk_fvs G u c 0 (uk_ftab ci))) := by
  rw [uk_ws_at (uk_lt hk (by omega)), uk_ent_obj hk h]
theorem g_geti {ci k idx c N : Nat} {C : String} {T : u_T} (hcl : vwCl[ci]? = some (C, T, N)) (hin : ∀ w ∈ u_ws C T N, w ∈ uk_w) (hci : ci < 8) (hkN : k < N) (hf : (uk_ftab ci)[k]? = some none) (hw : Cond.fieldLink M.1.cls idx (T k).1 (T k).2.1 (T k).2.2.1 ∈ uk_w) (hk : uk_kind c = ci) (hd : decode M.2.1 pc = .ok (.getfield idx, 3)) (K : uk_G G X M d Q (pc + 3) lv (.int (u.1 c k) :: st) u) : uk_G G X M d Q pc lv (.ref (uk_ad G c) :: st) u := fun hO ls H locs hl hP hS =>
  va_get (D := G.2.1) (ci := ci) (v := .int (u.1 c k)) (C := C) (T := T) (N := N) hO.1 hO.2.1 hO.2.2.2.2.1 hin hO.2.2.2.1 hO.2.2.2.2.2.1 hP c (uk_obj_at hk hci) hcl k hkN (hO.2.2.2.2.1 _ hw) (fun _ h => h) (by rw [uk_fvs_at, hf]; simp [uk_fv]) hd (K hO ls H locs hl hP hS)
theorem g_getr {ci k idx c N o : Nat} {C : String} {T : u_T} (hcl : vwCl[ci]? = some (C, T, N)) (hin : ∀ w ∈ u_ws C T N, w ∈ uk_w) (hci : ci < 8) (hkN : k < N) (hf : (uk_ftab ci)[k]? = some (some o)) (hw : Cond.fieldLink M.1.cls idx (T k).1 (T k).2.1 (T k).2.2.1 ∈ uk_w) (hk : uk_kind c = ci) (hd : decode M.2.1 pc = .ok (.getfield idx, 3)) (K : uk_G G X M d Q (pc + 3) lv (.ref (uk_ad G (c + o)) :: st) u) : uk_G G X M d Q pc lv (.ref (uk_ad G c) :: st) u := fun hO ls H locs hl hP hS =>
  va_get (D := G.2.1) (ci := ci) (v := .ref (uk_ad G (c + o))) (C := C) (T := T) (N := N) hO.1 hO.2.1 hO.2.2.2.2.1 hin hO.2.2.2.1 hO.2.2.2.2.2.1 hP c (uk_obj_at hk hci) hcl k hkN (hO.2.2.2.2.1 _ hw) (fun _ h => h) (by rw [uk_fvs_at, hf]; simp [uk_fv]) hd (K hO ls H locs hl hP hS)
theorem g_getiN {ci k idx c N : Nat} {C host : String} {T : u_T} (hcl : vwCl[ci]? = some (C, T, N)) (hin : ∀ w ∈ u_ws C T N, w ∈ uk_w) (hci : ci < 8) (hkN : k < N) (hf : (uk_ftab ci)[k]? = some none) (hw : Cond.fieldLinkNest M.1.cls idx (T k).1 (T k).2.1 (T k).2.2.1 host ∈ uk_nest) (hk : uk_kind c = ci) (hd : decode M.2.1 pc = .ok (.getfield idx, 3)) (K : uk_G G X M d Q (pc + 3) lv (.int (u.1 c k) :: st) u) : uk_G G X M d Q pc lv (.ref (uk_ad G c) :: st) u := fun hO ls H locs hl hP hS =>
  va_getN (D := G.2.1) (ci := ci) (v := .int (u.1 c k)) (C := C) (T := T) (N := N) hO.1 hO.2.1 hO.2.2.2.2.1 hin hO.2.2.2.1 hO.2.2.2.2.2.1 hP c (uk_obj_at hk hci) hcl k hkN (va_Nw.use rfl (hO.2.2.2.2.2.2.1.1 _ hw)) (fun _ h => h) (by rw [uk_fvs_at, hf]; simp [uk_fv]) hd (K hO ls H locs hl hP hS)
theorem g_getrN {ci k idx c N o : Nat} {C host : String} {T : u_T} (hcl : vwCl[ci]? = some (C, T, N)) (hin : ∀ w ∈ u_ws C T N, w ∈ uk_w) (hci : ci < 8) (hkN : k < N) (hf : (uk_ftab ci)[k]? = some (some o)) (hw : Cond.fieldLinkNest M.1.cls idx (T k).1 (T k).2.1 (T k).2.2.1 host ∈ uk_nest) (hk : uk_kind c = ci) (hd : decode M.2.1 pc = .ok (.getfield idx, 3)) (K : uk_G G X M d Q (pc + 3) lv (.ref (uk_ad G (c + o)) :: st) u) : uk_G G X M d Q pc lv (.ref (uk_ad G c) :: st) u := fun hO ls H locs hl hP hS =>
  va_getN (D := G.2.1) (ci := ci) (v := .ref (uk_ad G (c + o))) (C := C) (T := T) (N := N) hO.1 hO.2.1 hO.2.2.2.2.1 hin hO.2.2.2.1 hO.2.2.2.2.2.1 hP c (uk_obj_at hk hci) hcl k hkN (va_Nw.use rfl (hO.2.2.2.2.2.2.1.1 _ hw)) (fun _ h => h) (by rw [uk_fvs_at, hf]; simp [uk_fv]) hd (K hO ls H locs hl hP hS)
theorem uk_obj_set {c ci k : Nat} {x : Int32} (hk : uk_kind c = ci) (hci : ci < 8) (hf : (uk_ftab ci)[k]? = some none) : (uk_ws G u).set c (uk_ad G c, .inr (ci, (uk_fvs G u c 0 (uk_ftab ci)).set k (.int x))) = uk_ws G (uk_up u c k x) :=
  uk_ws_set (uk_lt hk (by omega)) (by rw [uk_ent_obj hk hci, uk_fvs_set G u c x _ 0 k hf, Nat.zero_add]) uk_up_ne
theorem g_puti {ci k idx c N : Nat} {C : String} {T : u_T} {ty0 : Nat → FieldType} {x : Int32} (hcl : vwCl[ci]? = some (C, T, N)) (hin : ∀ w ∈ u_ws C T N, w ∈ uk_w) (hci : ci < 8) (hkN : k < N) (hf : (uk_ftab ci)[k]? = some none) (hty : ∀ k, k < N → parseFieldDescriptor (T k).2.2.1 = some (ty0 k)) (hnm : ∀ a, a < N → ∀ b, b < N → a ≠ b → (T a).2.1 ≠ (T b).2.1) (hfin : (T k).2.2.2 = false) (hpd : parseFieldDescriptor (T k).2.2.1 = some .int) (hlen : k < (uk_ftab ci).length) (hw : Cond.fieldLink M.1.cls idx (T k).1 (T k).2.1 (T k).2.2.1 ∈ uk_w) (hk : uk_kind c = ci) (hd : decode M.2.1 pc = .ok (.putfield idx, 3)) (K : uk_G G X M d Q (pc + 3) lv st (uk_up u c k x)) : uk_G G X M d Q pc lv (.int x :: .ref (uk_ad G c) :: st) u := fun hO ls H locs hl hP hS =>
  va_put (D := G.2.1) (ci := ci) (v := .int x) (ty := .int) (C := C) (T := T) (N := N) hO.1 hO.2.1 hO.2.2.2.2.1 hin ty0 hty hnm hO.2.2.2.1 hO.2.2.2.2.2.1 hP (uk_sepD hO.2.2.2.2.2.2.2.1 u) hS c (uk_obj_at hk hci) hcl k hkN (hO.2.2.2.2.1 _ hw) (fun _ h => h) hfin hpd rfl rfl (by rw [uk_fvs_len]; exact hlen) hd (fun H1 locs1 hP1 _ hS1 => K hO ls H1 locs1 hl (by rw [uk_obj_set hk hci hf] at hP1; exact hP1) hS1)
theorem g_putiN {ci k idx c N : Nat} {C host : String} {T : u_T} {ty0 : Nat → FieldType} {x : Int32} (hcl : vwCl[ci]? = some (C, T, N)) (hin : ∀ w ∈ u_ws C T N, w ∈ uk_w) (hci : ci < 8) (hkN : k < N) (hf : (uk_ftab ci)[k]? = some none) (hty : ∀ k, k < N → parseFieldDescriptor (T k).2.2.1 = some (ty0 k)) (hnm : ∀ a, a < N → ∀ b, b < N → a ≠ b → (T a).2.1 ≠ (T b).2.1) (hfin : (T k).2.2.2 = false) (hpd : parseFieldDescriptor (T k).2.2.1 = some .int) (hlen : k < (uk_ftab ci).length) (hw : Cond.fieldLinkNest M.1.cls idx (T k).1 (T k).2.1 (T k).2.2.1 host ∈ uk_nest) (hk : uk_kind c = ci) (hd : decode M.2.1 pc = .ok (.putfield idx, 3)) (K : uk_G G X M d Q (pc + 3) lv st (uk_up u c k x)) : uk_G G X M d Q pc lv (.int x :: .ref (uk_ad G c) :: st) u := fun hO ls H locs hl hP hS =>
  va_putN (D := G.2.1) (ci := ci) (v := .int x) (ty := .int) (C := C) (T := T) (N := N) hO.1 hO.2.1 hO.2.2.2.2.1 hin ty0 hty hnm hO.2.2.2.1 hO.2.2.2.2.2.1 hP (uk_sepD hO.2.2.2.2.2.2.2.1 u) hS c (uk_obj_at hk hci) hcl k hkN (va_Nw.use rfl (hO.2.2.2.2.2.2.1.1 _ hw)) (fun _ h => h) hfin hpd rfl rfl (by rw [uk_fvs_len]; exact hlen) hd (fun H1 locs1 hP1 _ hS1 => K hO ls H1 locs1 hl (by rw [uk_obj_set hk hci hf] at hP1; exact hP1) hS1)
theorem uk_arr_at8 {c n : Nat} (hk : uk_kind c = 8) (hn : uk_len c = n) : (uk_ws G u)[c]? = some (uk_ad G c, .inl (G.2.2.1 8, n, .inl (u.1 c))) := by
  rw [uk_ws_at (uk_lt hk (by omega)), uk_ent_8 hk, hn]
theorem uk_arr_at9 {c n : Nat} (hk : uk_kind c = 9) (hn : uk_len c = n) : (uk_ws G u)[c]? = some (uk_ad G c, .inl (G.2.2.1 9, n, .inl (u.1 c))) := by
  rw [uk_ws_at (uk_lt hk (by omega)), uk_ent_9 hk, hn]
theorem uk_arr_at10 {c n : Nat} (hk : uk_kind c = 10) (hn : uk_len c = n) : (uk_ws G u)[c]? = some (uk_ad G c, .inl (G.2.2.1 10, n, .inl (u.1 c))) := by
  rw [uk_ws_at (uk_lt hk (by omega)), uk_ent_10 hk, hn]
theorem uk_arr_at11 {c n : Nat} (hk : uk_kind c = 11) (hn : uk_len c = n) : (uk_ws G u)[c]? = some (uk_ad G c, .inl (G.2.2.1 11, n, .inr (.inl (u.2 c)))) := by
  rw [uk_ws_at (uk_lt hk (by omega)), uk_ent_11 hk, hn]
theorem uk_up_self (c i : Nat) (x : Int32) : (uk_up u c i x).1 c = upd (u.1 c) i x := by simp [uk_up]
theorem uk_upL_self (c i : Nat) (x : Int64) : (uk_upL u c i x).2 c = vp_updL (u.2 c) i x := by simp [uk_upL]
theorem g_iald {c n : Nat} {i : Int32} (hk : uk_kind c = 8) (hn : uk_len c = n) (hi : vp_in i n) (hd : decode M.2.1 pc = .ok (.iaload, 1)) (K : uk_G G X M d Q (pc + 1) lv (.int (u.1 c i.toNatClampNeg) :: st) u) : uk_G G X M d Q pc lv (.int i :: .ref (uk_ad G c) :: st) u := fun hO ls H locs hl hP hS =>
  va_iald (D := G.2.1) hO.1 hO.2.1 hO.2.2.2.2.2.1 hP c 0 (uk_arr_at8 hk hn) rfl hi hd (K hO ls H locs hl hP hS)
theorem g_bald {c n : Nat} {i : Int32} (hk : uk_kind c = 9) (hn : uk_len c = n) (hi : vp_in i n) (hd : decode M.2.1 pc = .ok (.baload, 1)) (K : uk_G G X M d Q (pc + 1) lv (.int (u.1 c i.toNatClampNeg) :: st) u) : uk_G G X M d Q pc lv (.int i :: .ref (uk_ad G c) :: st) u := fun hO ls H locs hl hP hS =>
  va_bald (D := G.2.1) hO.1 hO.2.1 hO.2.2.2.2.2.1 hP c 1 (uk_arr_at9 hk hn) rfl hi hd (K hO ls H locs hl hP hS)
theorem g_zald {c n : Nat} {i : Int32} (hk : uk_kind c = 10) (hn : uk_len c = n) (hi : vp_in i n) (hd : decode M.2.1 pc = .ok (.baload, 1)) (K : uk_G G X M d Q (pc + 1) lv (.int (u.1 c i.toNatClampNeg) :: st) u) : uk_G G X M d Q pc lv (.int i :: .ref (uk_ad G c) :: st) u := fun hO ls H locs hl hP hS =>
  va_zald (D := G.2.1) hO.1 hO.2.1 hO.2.2.2.2.2.1 hP c 2 (uk_arr_at10 hk hn) rfl hi hd (K hO ls H locs hl hP hS)
theorem g_lald {c n : Nat} {i : Int32} (hk : uk_kind c = 11) (hn : uk_len c = n) (hi : vp_in i n) (hd : decode M.2.1 pc = .ok (.laload, 1)) (K : uk_G G X M d Q (pc + 1) lv (.long (u.2 c i.toNatClampNeg) :: st) u) : uk_G G X M d Q pc lv (.int i :: .ref (uk_ad G c) :: st) u := fun hO ls H locs hl hP hS =>
  va_lald (D := G.2.1) hO.1 hO.2.1 hO.2.2.2.2.2.1 hP c 3 (uk_arr_at11 hk hn) rfl hi hd (K hO ls H locs hl hP hS)
theorem g_iast {c n : Nat} {i x : Int32} (hk : uk_kind c = 8) (hn : uk_len c = n) (hi : vp_in i n) (hd : decode M.2.1 pc = .ok (.iastore, 1)) (K : uk_G G X M d Q (pc + 1) lv st (uk_up u c i.toNatClampNeg x)) : uk_G G X M d Q pc lv (.int x :: .int i :: .ref (uk_ad G c) :: st) u := fun hO ls H locs hl hP hS =>
  va_iast (D := G.2.1) hO.1 hO.2.1 hO.2.2.2.2.2.1 hP (uk_sepD hO.2.2.2.2.2.2.2.1 u) hS c 0 (uk_arr_at8 hk hn) rfl hi hd (fun H1 locs1 hP1 _ hS1 => K hO ls H1 locs1 hl (by rw [uk_ws_set (u' := uk_up u c i.toNatClampNeg x) (uk_lt hk (by omega)) (by rw [uk_ent_8 hk, hn, uk_up_self]) uk_up_ne] at hP1; exact hP1) hS1)
theorem g_bast {c n : Nat} {i x : Int32} (hk : uk_kind c = 9) (hn : uk_len c = n) (hi : vp_in i n) (hd : decode M.2.1 pc = .ok (.bastore, 1)) (K : uk_G G X M d Q (pc + 1) lv st (uk_up u c i.toNatClampNeg (vp_nar .byte x))) : uk_G G X M d Q pc lv (.int x :: .int i :: .ref (uk_ad G c) :: st) u := fun hO ls H locs hl hP hS =>
  va_bast (D := G.2.1) hO.1 hO.2.1 hO.2.2.2.2.2.1 hP (uk_sepD hO.2.2.2.2.2.2.2.1 u) hS c 1 (uk_arr_at9 hk hn) rfl hi hd (fun H1 locs1 hP1 _ hS1 => K hO ls H1 locs1 hl (by rw [uk_ws_set (u' := uk_up u c i.toNatClampNeg (vp_nar .byte x)) (uk_lt hk (by omega)) (by rw [uk_ent_9 hk, hn, uk_up_self]) uk_up_ne] at hP1; exact hP1) hS1)
theorem g_zast {c n : Nat} {i x : Int32} (hk : uk_kind c = 10) (hn : uk_len c = n) (hi : vp_in i n) (hd : decode M.2.1 pc = .ok (.bastore, 1)) (K : uk_G G X M d Q (pc + 1) lv st (uk_up u c i.toNatClampNeg (vp_nar .boolean x))) : uk_G G X M d Q pc lv (.int x :: .int i :: .ref (uk_ad G c) :: st) u := fun hO ls H locs hl hP hS =>
  va_zast (D := G.2.1) hO.1 hO.2.1 hO.2.2.2.2.2.1 hP (uk_sepD hO.2.2.2.2.2.2.2.1 u) hS c 2 (uk_arr_at10 hk hn) rfl hi hd (fun H1 locs1 hP1 _ hS1 => K hO ls H1 locs1 hl (by rw [uk_ws_set (u' := uk_up u c i.toNatClampNeg (vp_nar .boolean x)) (uk_lt hk (by omega)) (by rw [uk_ent_10 hk, hn, uk_up_self]) uk_up_ne] at hP1; exact hP1) hS1)
theorem g_last {c n : Nat} {i : Int32} {x : Int64} (hk : uk_kind c = 11) (hn : uk_len c = n) (hi : vp_in i n) (hd : decode M.2.1 pc = .ok (.lastore, 1)) (K : uk_G G X M d Q (pc + 1) lv st (uk_upL u c i.toNatClampNeg x)) : uk_G G X M d Q pc lv (.long x :: .int i :: .ref (uk_ad G c) :: st) u := fun hO ls H locs hl hP hS =>
  va_last (D := G.2.1) hO.1 hO.2.1 hO.2.2.2.2.2.1 hP (uk_sepD hO.2.2.2.2.2.2.2.1 u) hS c 3 (uk_arr_at11 hk hn) rfl hi hd (fun H1 locs1 hP1 _ hS1 => K hO ls H1 locs1 hl (by rw [uk_ws_set (u' := uk_upL u c i.toNatClampNeg x) (uk_lt hk (by omega)) (by rw [uk_ent_11 hk, hn, uk_upL_self]) uk_upL_ne] at hP1; exact hP1) hS1)
theorem g_alen8 {c n : Nat} {v : Int32} (hk : uk_kind c = 8) (hn : uk_len c = n) (hv : Int32.ofNat n = v) (hd : decode M.2.1 pc = .ok (.arraylength, 1)) (K : uk_G G X M d Q (pc + 1) lv (.int v :: st) u) : uk_G G X M d Q pc lv (.ref (uk_ad G c) :: st) u := fun hO ls H locs hl hP hS =>
  va_alen (D := G.2.1) hO.1 hO.2.1 hO.2.2.2.2.2.1 hP c 0 (uk_arr_at8 hk hn) rfl hv hd (K hO ls H locs hl hP hS)
theorem g_aald {c n : Nat} {i : Int32} (hk : uk_kind c = 12) (hn : uk_len c = n) (hi : vp_in i n) (hd : decode M.2.1 pc = .ok (.aaload, 1)) (K : uk_G G X M d Q (pc + 1) lv (.ref (uk_ad G (c + 1 + i.toNatClampNeg)) :: st) u) : uk_G G X M d Q pc lv (.int i :: .ref (uk_ad G c) :: st) u := fun hO ls H locs hl hP hS => by
  have hlt : i.toNatClampNeg < n := Nat.not_le.mp fun q => hi (Or.inr q)
  have ha : (uk_ws G u)[c]? = some (uk_ad G c, .inl (G.2.2.1 12, n, .inr (.inr (.inr (.inr (fun i => if i < n then some (uk_ad G (c + 1 + i)) else none)))))) := by
    rw [uk_ws_at (uk_lt hk (by omega)), uk_ent_12 hk, hn]
  have hv : va_rf (if i.toNatClampNeg < n then some (uk_ad G (c + 1 + i.toNatClampNeg)) else none) = .ref (uk_ad G (c + 1 + i.toNatClampNeg)) := by
    rw [if_pos hlt]
    rfl
  exact W.aald (v := .ref (uk_ad G (c + 1 + i.toNatClampNeg))) (ty := .array .int) hO.1 hO.2.1 (hP c _ ha) ((hO.2.2.2.2.2.1.2 4 _ rfl).1 n (fun j => va_rf (if j < n then some (uk_ad G (c + 1 + j)) else none))) rfl (fun q => by cases q) (by show ¬ (i < 0 ∨ (arrV _ _ _).slots.size ≤ _); rw [arrV_size]; exact hi) (by show (arrV _ _ _).slots[_]? = _; rw [arrV_read _ _ hlt]; exact congrArg some hv) rfl rfl hd (K hO ls H locs hl hP hS)
end UKM
section UKC
variable {G : uk_D} {X : uk_Cx} {M : uk_M} {d : Nat} {Q : Option Value → uk_Mem → Prop} {pc : Nat} {lv : List (Nat × Value)} {st stk : List Value} {u : uk_Mem}
theorem uk_blind {As : List Value} : FrameBlind (va_Pc As (uk_B G u)) := fun a U g mk q => by
  obtain ⟨q0, qP, qK, qN, qE⟩ := q
  exact ⟨q0, qP, va_K.moved (u := U) (U := U.calling g mk a) (Vm.Alike.refl U.vm) qK, fun w hw => uk_nestC (s := U) (U := U.calling g mk a) (List.mem_filter.mp hw).2 rfl (qN w hw), uk_E.same (U := U.calling g mk a) qE rfl rfl⟩
theorem uk_pre {As : List Value} {H : Heap} {locs : List Loc} (hO : uk_Ok G X M d Q) (hP : va_P G.2.1 vwCl (uk_ws G u) H) (hS : va_S G.2.2.2.2 X.2.2.2.1.heap H locs) : ∀ U : State, U.heap = H → X.2.2.2.1.WarmedH U.vm → va_Pc As (uk_B G u) As.toArray U := fun U hU hW => ⟨rfl, by rw [hU]; exact hP, va_K.moved hW.alike hO.2.2.2.2.2.1, fun w hw => uk_nestW (List.mem_filter.mp hw).2 hW (hO.2.2.2.2.2.2.1.1 w hw), uk_E.go hO.2.2.2.2.2.2.1.2 (by rw [hU]; exact hS.2.1) hW⟩
/-- behind a call -/
theorem uk_after {H : Heap} {locs : List Loc} {ls : Array Slot} {a : Array Value} {Q' : Option Value → uk_Mem → Prop} (hO : uk_Ok G X M d Q) (hl : lv_has ls M.2.2.1 lv) (hS : va_S G.2.2.2.2 X.2.2.2.1.heap H locs)
    (hr : va_Run X.1 G.1 X.2.1 X.2.2.1 X.2.2.2.1 X.2.2.2.2.1 X.2.2.2.2.2.1 X.2.2.2.2.2.2.1 X.2.2.2.2.2.2.2.1 X.2.2.2.2.2.2.2.2.1 H locs X.2.2.2.2.2.2.2.2.2.1 X.2.2.2.2.2.2.2.2.2.2.1 0 0 (F0 X.2.2.2.2.1 pc ls stk) st (uk_Q G Q' a) G.2.2.2.2)
    (K : ∀ (r : Option Value) (u' : uk_Mem), Q' r u' → uk_G G X M d Q (pc + 3) lv (r.toList ++ st) u') :
    W X.1 G.1 X.2.1 X.2.2.1 X.2.2.2.1 X.2.2.2.2.1 X.2.2.2.2.2.1 X.2.2.2.2.2.2.1 X.2.2.2.2.2.2.2.1 X.2.2.2.2.2.2.2.2.1 H locs X.2.2.2.2.2.2.2.2.2.1 X.2.2.2.2.2.2.2.2.2.2.1 X.2.2.2.2.2.2.2.2.2.2.2 (F0 X.2.2.2.2.1 pc ls stk) := by
  intro T hT Y
  obtain ⟨v, st₀, t, T', L, h0, Y', hL, e1, e2, ⟨⟨r, u', hv, hq, hB⟩, hz, hk⟩, stp⟩ := hr T hT Y
  cases hv
  rw [h0] at hz hk
  have hP' : va_P G.2.1 vwCl (uk_ws G u') T'.heap := by rw [e1]; exact hB.1
  have hS' : va_S G.2.2.2.2 X.2.2.2.1.heap T'.heap (locs ++ L) := ⟨Nat.le_trans hS.1 (by rw [e1]; exact hz), fun q h1 h2 => by rw [e1, hk q (Nat.lt_of_lt_of_le h1 hS.1) h2]; exact hS.2.1 q h1 h2, fun q hq => by
      rcases List.mem_append.mp hq with h | h
      · exact hS.2.2 q h
      · exact hL q h⟩
  obtain ⟨t2, a1, b1⟩ := K v u' hq hO ls T'.heap (locs ++ L) hl hP' hS' T' rfl Y'
  exact ⟨t2, stp t2 a1, b1⟩
theorem uk_room {d' n : Nat} (hO : uk_Ok G X M d Q) (h : d' + 1 ≤ d) (hn : n ≤ 21) : (uk_rm d').frames + 1 ≤ X.2.2.1.frames ∧ 8 + (n + 11) + (uk_rm d').locals ≤ X.2.2.1.locals := by
  obtain ⟨h1, h2, -, -⟩ := hO.2.2.2.2.2.2.2.2.1
  refine ⟨Nat.le_trans h h1, Nat.le_trans ?_ h2⟩
  show 8 + (n + 11) + 40 * d' ≤ 40 * d
  omega
/-- a method of the own class, of this object or another -/
theorem g_callV {M' : uk_M} {ci d' idx c N nA : Nat} {C : String} {T : u_T} {As : List Value} {Q' : Option Value → uk_Mem → Prop} (hcl : vwCl[ci]? = some (C, T, N)) (hci : ci < 8) (hC : M'.1.cls = C) (hy : M'.1.cls ≠ "java/lang/invoke/MethodHandle" ∧ M'.1.cls ≠ "java/lang/invoke/VarHandle" ∧ (parseMethodDescriptor M'.1.desc).map (fun d => d.parameters.length) = some nA) (hn : M'.2.2.1 ≤ 21)
    (w1 : Cond.methodLink M.1.cls idx M'.1 ∈ uk_w) (w2 : Cond.instanceMethod M'.1 ∈ uk_w) (w3 : Cond.selects C M'.1 M'.1 ∈ uk_w) (w4 : Cond.initialized C ∈ uk_w) (w5 : Cond.code M'.1 M'.2.1 M'.2.2.1 M'.2.2.2 ∈ uk_w)
    (hA : As.length = nA) (hm : uk_Meth G d' M' (.ref (uk_ad G c) :: As) u Q') (hdd : d' + 1 ≤ d) (hk : uk_kind c = ci) (hst : stk = As.reverse ++ .ref (uk_ad G c) :: st) (hc : (st.map fun v => v.category).sum ≤ 8) (hd : decode M.2.1 pc = .ok (.invokevirtual idx, 3))
    (K : ∀ (r : Option Value) (u' : uk_Mem), Q' r u' → uk_G G X M d Q (pc + 3) lv (r.toList ++ st) u') : uk_G G X M d Q pc lv stk u := fun hO ls H locs hl hP hS => by
  subst hC
  have hw := hO.2.2.2.2.1
  refine uk_after (Q' := Q') hO hl hS (a := (Value.ref (uk_ad G c) :: As).toArray) (va_runV (As := As) (rest := st) (Ts := uk_w) ⟨hO.1, hO.2.1, hO.2.2.1, hO.2.2.2.1, hw⟩ hm ⟨callB_of nA hw (uk_goodIn w5) rfl rfl rfl (hw _ w4) (hw _ w1) hy (uk_room hO hdd hn), hw _ w2, hw _ w3⟩ ⟨uk_blind, va_recv hO.2.2.2.2.2.1 hP hcl (uk_obj_at hk hci), uk_pre hO hP hS⟩ rfl hA hl.1 hst (lv_room hc) hd ⟨hO.2.2.2.2.2.2.2.2.1.2.2.1, hO.2.2.2.2.2.2.2.2.1.2.2.2⟩) K
/-- a nest mate's method -/
theorem g_callVN {M' : uk_M} {ci d' idx c N nA : Nat} {C host : String} {T : u_T} {As : List Value} {Q' : Option Value → uk_Mem → Prop} (hcl : vwCl[ci]? = some (C, T, N)) (hci : ci < 8) (hC : M'.1.cls = C) (hy : M'.1.cls ≠ "java/lang/invoke/MethodHandle" ∧ M'.1.cls ≠ "java/lang/invoke/VarHandle" ∧ (parseMethodDescriptor M'.1.desc).map (fun d => d.parameters.length) = some nA) (hn : M'.2.2.1 ≤ 21)
    (w1 : Cond.methodLinkNest M.1.cls idx M'.1 host ∈ uk_nest) (w2 : Cond.instanceMethod M'.1 ∈ uk_w) (w3 : Cond.selects C M'.1 M'.1 ∈ uk_w) (w4 : Cond.initialized C ∈ uk_w) (w5 : Cond.code M'.1 M'.2.1 M'.2.2.1 M'.2.2.2 ∈ uk_w)
    (hA : As.length = nA) (hm : uk_Meth G d' M' (.ref (uk_ad G c) :: As) u Q') (hdd : d' + 1 ≤ d) (hk : uk_kind c = ci) (hst : stk = As.reverse ++ .ref (uk_ad G c) :: st) (hc : (st.map fun v => v.category).sum ≤ 8) (hd : decode M.2.1 pc = .ok (.invokevirtual idx, 3))
    (K : ∀ (r : Option Value) (u' : uk_Mem), Q' r u' → uk_G G X M d Q (pc + 3) lv (r.toList ++ st) u') : uk_G G X M d Q pc lv stk u := fun hO ls H locs hl hP hS => by
  subst hC
  have hw := hO.2.2.2.2.1
  refine uk_after (Q' := Q') hO hl hS (a := (Value.ref (uk_ad G c) :: As).toArray) (va_runVN (As := As) (rest := st) (Ts := uk_w) ⟨hO.1, hO.2.1, hO.2.2.1, hO.2.2.2.1, hw⟩ hm ⟨va_cnB nA hw (uk_goodIn w5) rfl rfl rfl (hO.2.2.2.2.2.2.1.1 _ w1) (hw _ w4) hy (uk_room hO hdd hn), hw _ w2, hw _ w3⟩ ⟨uk_blind, va_recv hO.2.2.2.2.2.1 hP hcl (uk_obj_at hk hci), uk_pre hO hP hS⟩ rfl hA hl.1 hst (lv_room hc) hd ⟨hO.2.2.2.2.2.2.2.2.1.2.2.1, hO.2.2.2.2.2.2.2.2.1.2.2.2⟩) K
/-- a static method of the own class -/
theorem g_callS {M' : uk_M} {d' idx nA : Nat} {As : List Value} {Q' : Option Value → uk_Mem → Prop} (hy : M'.1.cls ≠ "java/lang/invoke/MethodHandle" ∧ M'.1.cls ≠ "java/lang/invoke/VarHandle" ∧ (parseMethodDescriptor M'.1.desc).map (fun d => d.parameters.length) = some nA) (hn : M'.2.2.1 ≤ 21)
    (w1 : Cond.methodLink M.1.cls idx M'.1 ∈ uk_w) (w2 : Cond.static M'.1 ∈ uk_w) (w4 : Cond.initialized M'.1.cls ∈ uk_w) (w5 : Cond.code M'.1 M'.2.1 M'.2.2.1 M'.2.2.2 ∈ uk_w)
    (hA : As.length = nA) (hm : uk_Meth G d' M' As u Q') (hdd : d' + 1 ≤ d) (hst : stk = As.reverse ++ st) (hc : (st.map fun v => v.category).sum ≤ 8) (hd : decode M.2.1 pc = .ok (.invokestatic idx, 3))
    (K : ∀ (r : Option Value) (u' : uk_Mem), Q' r u' → uk_G G X M d Q (pc + 3) lv (r.toList ++ st) u') : uk_G G X M d Q pc lv stk u := fun hO ls H locs hl hP hS => by
  have hw := hO.2.2.2.2.1
  refine uk_after (Q' := Q') hO hl hS (a := As.toArray) (va_runS (As := As) (rest := st) (Ts := uk_w) ⟨hO.1, hO.2.1, hO.2.2.1, hO.2.2.2.1, hw⟩ hm ⟨callB_of nA hw (uk_goodIn w5) rfl rfl rfl (hw _ w4) (hw _ w1) hy (uk_room hO hdd hn), hw _ w2⟩ ⟨uk_blind, uk_pre hO hP hS⟩ rfl hA hl.1 hst (lv_room hc) hd ⟨hO.2.2.2.2.2.2.2.2.1.2.2.1, hO.2.2.2.2.2.2.2.2.1.2.2.2⟩) K
/-- a nest mate's static method -/
theorem g_callSN {M' : uk_M} {d' idx nA : Nat} {host : String} {As : List Value} {Q' : Option Value → uk_Mem → Prop} (hy : M'.1.cls ≠ "java/lang/invoke/MethodHandle" ∧ M'.1.cls ≠ "java/lang/invoke/VarHandle" ∧ (parseMethodDescriptor M'.1.desc).map (fun d => d.parameters.length) = some nA) (hn : M'.2.2.1 ≤ 21)
    (w1 : Cond.methodLinkNest M.1.cls idx M'.1 host ∈ uk_nest) (w2 : Cond.static M'.1 ∈ uk_w) (w4 : Cond.initialized M'.1.cls ∈ uk_w) (w5 : Cond.code M'.1 M'.2.1 M'.2.2.1 M'.2.2.2 ∈ uk_w)
    (hA : As.length = nA) (hm : uk_Meth G d' M' As u Q') (hdd : d' + 1 ≤ d) (hst : stk = As.reverse ++ st) (hc : (st.map fun v => v.category).sum ≤ 8) (hd : decode M.2.1 pc = .ok (.invokestatic idx, 3))
    (K : ∀ (r : Option Value) (u' : uk_Mem), Q' r u' → uk_G G X M d Q (pc + 3) lv (r.toList ++ st) u') : uk_G G X M d Q pc lv stk u := fun hO ls H locs hl hP hS => by
  have hw := hO.2.2.2.2.1
  refine uk_after (Q' := Q') hO hl hS (a := As.toArray) (va_runSN (As := As) (rest := st) (Ts := uk_w) ⟨hO.1, hO.2.1, hO.2.2.1, hO.2.2.2.1, hw⟩ hm ⟨va_cnB nA hw (uk_goodIn w5) rfl rfl rfl (hO.2.2.2.2.2.2.1.1 _ w1) (hw _ w4) hy (uk_room hO hdd hn), hw _ w2, trivial⟩ ⟨uk_blind, uk_pre hO hP hS⟩ rfl hA hl.1 hst (lv_room hc) hd ⟨hO.2.2.2.2.2.2.2.2.1.2.2.1, hO.2.2.2.2.2.2.2.2.1.2.2.2⟩) K
/-- a method's contract out of its walk -/
theorem uk_Meth.of {As : List Value} (hs : uk_Sep G) (hy : plainName M.1.cls = true) (hn : (lg_sl As).length ≤ M.2.2.1) (h : ∀ X : uk_Cx, uk_G G X M d Q 0 (lv_args 0 As) [] u) : uk_Meth G d M As u Q := by
  refine Met.ofW (cc := M.2.1) (maxL := M.2.2.1) (ret := M.2.2.2) hy rfl ?_
  intro p e s m args below meth c s₁ B hml hv
  obtain ⟨rfl, hP, hK, hN, hE⟩ := hv
  have hts := atoms_spec (ws := .code M.1 M.2.1 M.2.2.1 M.2.2.2 :: uk_w) B.pre
  have hown : s.vm.findClass M.1.cls = some m.cls := findClass_of_methodNamed B.named
  have hlocks : meth.locks = false := B.notSynchronized
  have hr : meth.sig.returnType = M.2.2.2 := B.returns
  have hl := lv_entry As (n := M.2.2.1) hn
  rw [lg_entry_eq]
  refine h (p, e, (headSpec (.code M.1 M.2.1 M.2.2.1 M.2.2.2 :: uk_w) (uk_rm d)).room, s, m, As.toArray, below, meth, c, 0, 0, MQ below (uk_Q G Q) As.toArray s 0 0 G.2.2.2.2) ⟨B.exec, B.bytes, hml, hown, fun w hw => hts w (List.mem_cons_of_mem _ hw), hK, ⟨hN, hE⟩, hs, ⟨Nat.le_refl _, Nat.le_refl _, Nat.zero_le _, Nat.zero_le _⟩, ?_⟩ _ s.heap [] hl hP va_S.rf
  intro i pc ls st H locs u r hi hd hq hP hS
  have fin : ∀ t : State, t.heap = H → s.WarmedH t.vm → uk_Q G Q As.toArray s (.returned r) t := fun t ht hW => ⟨⟨r, u, rfl, hq, by rw [ht]; exact hP, va_K.moved hW.alike hK, fun w hw => uk_nestW (List.mem_filter.mp hw).2 hW (hN w hw), uk_E.go hE (by rw [ht]; exact hS.2.1) hW⟩, hS.F ht⟩
  rcases hi with ⟨rfl, v, ty, rfl, rfl, hty, hnr⟩ | ⟨rfl, rfl, rfl, hty⟩ | ⟨rfl, v, rfl, rfl, hty⟩ | ⟨rfl, a, n, rfl, rfl, hty⟩
  · exact W.zret B.exec B.bytes (hr.trans hty) hnr fin hS.2.2 hd hlocks
  · exact W.vret B.exec B.bytes (hr.trans hty) fin hS.2.2 hd hlocks
  · exact W.lret B.exec B.bytes (hr.trans hty) fin hS.2.2 hd hlocks
  · exact W.aret B.exec B.bytes (hr.trans hty) (Or.inl ⟨n, rfl⟩) (Or.inr ⟨a, rfl⟩) fin hS.2.2 hd hlocks
theorem uk_Meth.imp {As : List Value} {Q' : Option Value → uk_Mem → Prop} (h : uk_Meth G d M As u Q) (hq : ∀ r u', Q r u' → Q' r u') : uk_Meth G d M As u Q' := by
  intro p e ha hc hk s m args below hf hfit hheap hpre
  obtain ⟨k, o, h1, h2, h3, ⟨⟨⟨r, u', e1, e2, e3⟩, e4⟩, e5⟩⟩ := h p e ha hc hk s m args below hf hfit hheap hpre
  exact ⟨k, o, h1, h2, h3, ⟨⟨⟨r, u', e1, hq r u' e2, e3⟩, e4⟩, e5⟩⟩
end UKC
