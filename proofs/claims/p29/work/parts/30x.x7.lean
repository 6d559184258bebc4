theorem iv_z : iv u_z := by
  have key : ∀ (l : List (Nat × Int32 × Int32)) (i : Nat), (l.all fun q => decide (q.2.1 ≤ 0) && decide (0 ≤ q.2.2)) = true → (uk_pick l i).1 ≤ 0 ∧ 0 ≤ (uk_pick l i).2 := by
    intro l
    induction l with
    | nil => intro i _; exact (show (-2147483648 : Int32) ≤ 0 ∧ (0 : Int32) ≤ 2147483647 by decide)
    | cons a l ih =>
      intro i h
      obtain ⟨b, r⟩ := a
      rw [List.all_cons, Bool.and_eq_true] at h
      unfold uk_pick
      split
      · have h1 := h.1
        rw [Bool.and_eq_true] at h1
        exact ⟨of_decide_eq_true h1.1, of_decide_eq_true h1.2⟩
      · exact ih i h.2
  have hall : (uk_rngs.all fun l => l.all fun q => decide (q.2.1 ≤ 0) && decide (0 ≤ q.2.2)) = true := by decide +kernel
  intro c i
  show (uk_pick (uk_rngs.getD c []) i).1 ≤ 0 ∧ 0 ≤ (uk_pick (uk_rngs.getD c []) i).2
  refine key _ i ?_
  rw [List.getD_eq_getElem?_getD]
  cases hc : uk_rngs[c]? with
  | none => rfl
  | some l => exact List.all_eq_true.mp hall l (List.mem_of_getElem? hc)
theorem iv_0 : iv u_0 := iv_upF (iv_upF (iv_upF (iv_upF iv_z rfl) rfl) rfl) rfl
theorem uk_fvs_ad {G G' : uk_D} {u : uk_Mem} {c : Nat} : ∀ (l : List (Option Nat)) (i : Nat), (∀ o ∈ l, ∀ x, o = some x → uk_ad G' (c + x) = uk_ad G (c + x)) → uk_fvs G' u c i l = uk_fvs G u c i l
  | [], i, _ => rfl
  | o :: r, i, h => by
    rw [uk_fvs, uk_fvs, uk_fvs_ad r (i + 1) (fun o ho => h o (List.mem_cons_of_mem _ ho))]
    congr 1
    cases o with
    | none => rfl
    | some x =>
      show Value.ref (uk_ad G' (c + x)) = Value.ref (uk_ad G (c + x))
      rw [h (some x) List.mem_cons_self x rfl]
theorem uk_off : ((List.range 60).all fun c => (uk_ftab (uk_kind c)).all fun o => match o with | none => true | some x => decide (c + x < 60)) = true := by decide +kernel
theorem uk_k12 : ((List.range 60).all fun c => !(uk_kind c == 12) || c == 52) = true := by decide +kernel
theorem uk_ent_ad {G G' : uk_D} {u : uk_Mem} {c : Nat} (hc : c < 60) (hk : G'.2.2.1 = G.2.2.1) (h : ∀ j, j < 60 → uk_ad G' j = uk_ad G j) : uk_ent G' u c = uk_ent G u c := by
  have ho := List.all_eq_true.mp uk_off c (List.mem_range.mpr hc)
  have h12 := List.all_eq_true.mp uk_k12 c (List.mem_range.mpr hc)
  have hf : uk_fvs G' u c 0 (uk_ftab (uk_kind c)) = uk_fvs G u c 0 (uk_ftab (uk_kind c)) := uk_fvs_ad _ 0 (fun o hm x e => by
    subst e
    have := List.all_eq_true.mp ho _ hm
    exact h _ (of_decide_eq_true this))
  unfold uk_ent
  rw [hk]
  generalize hkc : uk_kind c = k at *
  split
  · rfl
  · rfl
  · rfl
  · rfl
  · have : c = 52 := by simpa using h12
    subst this
    have e : (fun i => if i < uk_len 52 then some (uk_ad G' (52 + 1 + i)) else none) = (fun i => if i < uk_len 52 then some (uk_ad G (52 + 1 + i)) else none) := by
      funext i
      by_cases q : i < uk_len 52
      · rw [if_pos q, if_pos q, h _ (by have : uk_len 52 = 4 := rfl; omega)]
      · rw [if_neg q, if_neg q]
    rw [e]
  · rw [hf]
def ad_7 (G : uk_D) (ad : Nat → Nat) (l : List Nat) : Nat → Nat := fun c => if c < 60 then ad c else if c < 78 then l.getD (c - 60) 0 else G.2.2.2.1 c
abbrev G_7 (G : uk_D) (ad : Nat → Nat) (l : List Nat) : uk_D := (G.1, G.2.1, G.2.2.1, ad_7 G ad l, G.2.2.2.2)
theorem ad_7_lo {G : uk_D} {ad : Nat → Nat} {l : List Nat} {c : Nat} (h : c < 60) : ad_7 G ad l c = ad c := by unfold ad_7; rw [if_pos h]
theorem ad_7_hi {G : uk_D} {ad : Nat → Nat} {l : List Nat} {c : Nat} (h : 78 ≤ c) : ad_7 G ad l c = G.2.2.2.1 c := by unfold ad_7; rw [if_neg (by omega), if_neg (by omega)]
theorem uk_E_7 {G : uk_D} {ad : Nat → Nat} {l : List Nat} {U : State} (h : uk_E G U) : uk_E (G_7 G ad l) U := by
  have e1 : (fun i => uk_ad (G_7 G ad l) (100 + i)) = fun i => uk_ad G (100 + i) := by
    funext i
    exact ad_7_hi (by omega)
  have e2 : (fun i => uk_ad (G_7 G ad l) (200 + i)) = fun i => uk_ad G (200 + i) := by
    funext i
    exact ad_7_hi (by omega)
  obtain ⟨h1, h2, h3, h4⟩ := h
  refine ⟨?_, h2, h3, fun i hi => ?_⟩
  · rw [e1, e2]
    exact h1
  · rw [congrFun e1 i]
    exact h4 i hi
theorem w_78 {G : uk_D} {ad : Nat → Nat} {l : List Nat} {u : uk_Mem} : uk_ws (G_7 G ad l) u = (List.range 60).map (fun c => (ad c, uk_ent (G.1, G.2.1, G.2.2.1, ad, fun _ => True) u c)) ++ ([60, 61, 62, 63, 64, 65, 66, 67, 68, 69, 70, 71, 72, 73, 74, 75, 76, 77] : List Nat).map (fun c => (uk_ad (G_7 G ad l) c, uk_ent (G_7 G ad l) u c)) := by
  have e : List.range 78 = List.range 60 ++ ([60, 61, 62, 63, 64, 65, 66, 67, 68, 69, 70, 71, 72, 73, 74, 75, 76, 77] : List Nat) := by decide
  unfold uk_ws
  rw [e, List.map_append]
  congr 1
  refine List.map_congr_left (fun c hc => ?_)
  have hc := List.mem_range.mp hc
  rw [uk_ent_ad (G' := G_7 G ad l) (G := (G.1, G.2.1, G.2.2.1, ad, fun _ => True)) hc rfl (fun j hj => ad_7_lo hj)]
  show (ad_7 G ad l c, _) = _
  rw [ad_7_lo hc]
/-! the sheets: lanes and sizes on both sides -/
def aq (A : Nat → Int32) (v k : Int32) : Prop := ∀ j : Int32, 0 ≤ j → j < k → A j.toNatClampNeg = v
theorem aq_0 {A : Nat → Int32} {v : Int32} : aq A v 0 := fun j h0 h1 => absurd h0 (by grind)
theorem aq_up {A : Nat → Int32} {v k : Int32} (h : aq A v k) (h0 : 0 ≤ k) : aq (upd A k.toNatClampNeg v) v (k + 1) := fun j j0 j1 => by
  by_cases q : j = k
  · rw [upd_at q]
  · rw [upd_ne j0 h0 q]
    exact h j j0 (by grind)
theorem aq_le {A : Nat → Int32} {v k n : Int32} (h : aq A v k) (hn : n ≤ k) : aq A v n := fun j j0 j1 => h j j0 (by grind)
set_option maxHeartbeats 4000000 in
set_option maxRecDepth 20000 in
theorem g7_tail {G : uk_D} {X : uk_Cx} {Q : Option Value → uk_Mem → Prop} (hs : uk_Sep G) {u : uk_Mem} (hu : iv u) (d : Nat) (hQ : ∀ u', iv u' → ri u' → fk [60, 61, 63, 64, 65, 66, 74] [13, 18, 28] u u' → aq (u'.1 74) (-4) 4 → u'.1 60 3 = 0 → (∀ j, j < 51 → u'.1 61 j = 0) → u'.1 63 0 = 0 → u'.1 63 1 = 0 → Q none u') : uk_G G X mX7_init (d + 1) Q 141 [(0, .ref (uk_ad G 60))] [] u := by
  have f0 : fk [60, 61, 63, 64, 65, 66, 74] [13, 18, 28] u u := fk_rf
  refine g_iconst (v := 0) dX7_init_141 (by decide) ?_
  refine g_istore_n dX7_init_142 (by decide) ?_
  refine g_pick (lv' := [(0, .ref (uk_ad G 60)), (1, .int 0)]) [0, 1] rfl ?_
  have L143_0 : ∀ i2 : Int32, 0 ≤ i2 → i2 ≤ 4 → ∀ (u3 : uk_Mem), iv u3 → fk [60, 61, 63, 64, 65, 66, 74] [13, 18, 28] u u3 → aq (u3.1 74) (-4) i2 → uk_G G X mX7_init (d + 1) Q 143 [(0, .ref (uk_ad G 60)), (1, .int i2)] [] u3 := by
    refine uk_upl 4 ?_
    intro i2 ai2 bi2 ihi2  u3 hu3 fu3 ji20
    have C74_u3 : u3.1 74 = u3.1 74 := rfl
    refine g_iload_n dX7_init_143 rfl ?_
    refine g_iconst (v := 4) dX7_init_144 (by decide) ?_
    refine g_icmp_ge (tgt := 162) dX7_init_145 (by decide) (fun c4 => ?_) (fun c4 => ?_)
    · refine g_aload_n dX7_init_162 rfl ?_
      refine cl_X7_63 (c := 60) (As := []) rfl (c_X7_firstDraft_t (G := G) hs hu3    (d)) rfl (by omega) rfl rfl (Nat.le_of_ble_eq_true rfl) dX7_init_163 (fun r5 u6 q7 => ?_)
      obtain ⟨rfl, mq7⟩ := q7
      obtain ⟨hu6, gu6, rfu6, ku60, ku61, ku62, ku63⟩ := mq7
      have fu6 : fk [60, 61, 63, 64, 65, 66, 74] [13, 18, 28] u u6 := fk_tr fu3 gu6 (by decide) (by decide)
      have C8 : u6.1 74 = u3.1 74 := (fk_c gu6 (by decide)).trans C74_u3
      have rdX : rd u6 := rd_0 ku60
      refine g_aload_n dX7_init_166 rfl ?_
      refine cl_X7_66 (c := 60) (As := []) rfl (c_X7_keepDraft_t (G := G) hs hu6 rdX    (d)) rfl (by omega) rfl rfl (Nat.le_of_ble_eq_true rfl) dX7_init_167 (fun r9 u10 q11 => ?_)
      obtain ⟨rfl, mq11⟩ := q11
      obtain ⟨hu10, gu10, riu10, ku100, ku101, ku102, ku103, ku104, ku105⟩ := mq11
      have fu10 : fk [60, 61, 63, 64, 65, 66, 74] [13, 18, 28] u u10 := fk_tr fu6 gu10 (by decide) (by decide)
      have rdu10 : rd u10 := rd_fk rdX gu10 (by decide) (by decide) (by decide) (by decide)
      have C12 : u10.1 74 = u3.1 74 := (fk_c gu10 (by decide)).trans C8
      exact g_vret dX7_init_170 rfl (hQ _ hu10 riu10 fu10 (by rw [C12]; exact aq_le ji20 (by lia)) (ku100.trans ku60) (fun j hj => (cpy_n ku101 (by rw [show (51 : Int32).toNatClampNeg = 51 from rfl]; exact hj) (by decide)).trans (ku63 j hj)) ku104 ku105)
    · refine g_aload_n dX7_init_148 rfl ?_
      refine f_X7_51 rfl rfl dX7_init_149 ?_
      refine g_iload_n dX7_init_152 rfl ?_
      refine g_bipush (v := (-4)) dX7_init_153 (by decide) ?_
      have v13 : vp_in i2 4 := uk_vin 4 rfl (by first | decide | lia | grind) (by first | decide | lia | grind)
      have b14 := uk_cl v13
      refine g_iast rfl rfl v13 dX7_init_155 ?_
      refine g_mem (fun u15 eu15 => ?_)
      have hu15 : iv u15 := by rw [eu15]; exact iv_upF hu3 (uk_pick1 _ (by omega))
      have fu15 : fk [60, 61, 63, 64, 65, 66, 74] [13, 18, 28] u u15 := by rw [eu15]; exact fk_up fu3 (by decide) (fun q => absurd q (by decide))
      have C16 : u15.1 74 = (upd (u3.1 74) (i2 : Int32).toNatClampNeg (-4)) := by rw [eu15, uk_up_self, C74_u3]
      refine g_iinc (v := i2 + 1) dX7_init_156 rfl rfl (by decide) ?_
      refine g_pick (lv' := [(0, .ref (uk_ad G 60)), (1, .int (i2 + 1))]) [0, 1] rfl ?_
      refine g_goto (tgt := 143) dX7_init_159 (by decide) ?_
      refine g_pick (lv' := [(0, .ref (uk_ad G 60)), (1, .int (i2 + 1))]) [0, 1] rfl ?_
      exact ihi2 (by first | lia | grind)  u15 hu15 fu15 (by rw [C16]; exact aq_up ji20 (by lia))
  refine g_pick (lv' := [(0, .ref (uk_ad G 60)), (1, .int 0)]) [0, 1] rfl ?_
  exact L143_0 0 (by first | decide | lia | grind) (by first | decide | lia | grind)  u hu f0 aq_0
