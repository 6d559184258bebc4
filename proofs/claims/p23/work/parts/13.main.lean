theorem uk_lg0 {x : Int64} (h : ¬ lg_cmp x 0 ≤ 0) : ¬ x = 0 := fun q => h (by rw [q]; decide)
abbrev q_X6_isDigit (u : uk_Mem) (v : Int32) (r : Option Value) (u' : uk_Mem) : Prop := (∃ x : Int32, r = some (.int x) ∧ (x = 0 ∨ x = 1) ∧ (¬ x = 0 → 0 ≤ v ∧ v ≤ 9) ∧ (x = 0 → True)) ∧ (u' = u)
set_option maxHeartbeats 4000000 in
set_option maxRecDepth 20000 in
theorem c_X6_isDigit {G : uk_D} (hs : uk_Sep G) {u : uk_Mem} (hu : iv u) (v : Int32) (d : Nat) : uk_Meth G d mX6_isDigit [.int v] u (q_X6_isDigit u v) := by
  refine uk_Meth.of hs (by decide) (Nat.le_of_ble_eq_true rfl) (fun X => ?_)
  refine g_iload_n dX6_isDigit_0 rfl ?_
  refine g_if_lt (tgt := 14) dX6_isDigit_1 (by decide) (fun c1 => ?_) (fun c1 => ?_)
  · refine g_iconst (v := 0) dX6_isDigit_14 (by decide) ?_
    exact g_iret (ty := .boolean) dX6_isDigit_15 rfl rfl ⟨⟨0, rfl, Or.inl rfl, fun q => absurd rfl q, fun _ => by first | trivial | lia | grind⟩, rfl⟩
  · refine g_iload_n dX6_isDigit_4 rfl ?_
    refine g_bipush (v := 9) dX6_isDigit_5 (by decide) ?_
    refine g_icmp_gt (tgt := 14) dX6_isDigit_7 (by decide) (fun c2 => ?_) (fun c2 => ?_)
    · refine g_iconst (v := 0) dX6_isDigit_14 (by decide) ?_
      exact g_iret (ty := .boolean) dX6_isDigit_15 rfl rfl ⟨⟨0, rfl, Or.inl rfl, fun q => absurd rfl q, fun _ => by first | trivial | lia | grind⟩, rfl⟩
    · refine g_iconst (v := 1) dX6_isDigit_10 (by decide) ?_
      refine g_goto (tgt := 15) dX6_isDigit_11 (by decide) ?_
      exact g_iret (ty := .boolean) dX6_isDigit_15 rfl rfl ⟨⟨1, rfl, Or.inr rfl, fun _ => by first | trivial | lia | grind, fun q => absurd q (by decide)⟩, rfl⟩
abbrev q_X6_isFlag (u : uk_Mem) (w : Int32) (r : Option Value) (u' : uk_Mem) : Prop := (∃ x : Int32, r = some (.int x) ∧ (x = 0 ∨ x = 1) ∧ (¬ x = 0 → w = 0 ∨ w = 1) ∧ (x = 0 → True)) ∧ (u' = u)
set_option maxHeartbeats 4000000 in
set_option maxRecDepth 20000 in
theorem c_X6_isFlag {G : uk_D} (hs : uk_Sep G) {u : uk_Mem} (hu : iv u) (w : Int32) (d : Nat) : uk_Meth G d mX6_isFlag [.int w] u (q_X6_isFlag u w) := by
  refine uk_Meth.of hs (by decide) (Nat.le_of_ble_eq_true rfl) (fun X => ?_)
  refine g_iload_n dX6_isFlag_0 rfl ?_
  refine g_if_eq (tgt := 9) dX6_isFlag_1 (by decide) (fun c1 => ?_) (fun c1 => ?_)
  · refine g_iconst (v := 1) dX6_isFlag_9 (by decide) ?_
    refine g_goto (tgt := 14) dX6_isFlag_10 (by decide) ?_
    exact g_iret (ty := .boolean) dX6_isFlag_14 rfl rfl ⟨⟨1, rfl, Or.inr rfl, fun _ => by first | trivial | lia | grind, fun q => absurd q (by decide)⟩, rfl⟩
  · refine g_iload_n dX6_isFlag_4 rfl ?_
    refine g_iconst (v := 1) dX6_isFlag_5 (by decide) ?_
    refine g_icmp_ne (tgt := 13) dX6_isFlag_6 (by decide) (fun c2 => ?_) (fun c2 => ?_)
    · refine g_iconst (v := 0) dX6_isFlag_13 (by decide) ?_
      exact g_iret (ty := .boolean) dX6_isFlag_14 rfl rfl ⟨⟨0, rfl, Or.inl rfl, fun q => absurd rfl q, fun _ => by first | trivial | lia | grind⟩, rfl⟩
    · refine g_iconst (v := 1) dX6_isFlag_9 (by decide) ?_
      refine g_goto (tgt := 14) dX6_isFlag_10 (by decide) ?_
      exact g_iret (ty := .boolean) dX6_isFlag_14 rfl rfl ⟨⟨1, rfl, Or.inr rfl, fun _ => by first | trivial | lia | grind, fun q => absurd q (by decide)⟩, rfl⟩
abbrev q_X6_isImage (u : uk_Mem) (k : Int32) (r : Option Value) (u' : uk_Mem) : Prop := (∃ x : Int32, r = some (.int x) ∧ (x = 0 ∨ x = 1) ∧ (¬ x = 0 → 0 ≤ k ∧ k ≤ 1) ∧ (x = 0 → True)) ∧ (u' = u)
set_option maxHeartbeats 4000000 in
set_option maxRecDepth 20000 in
theorem c_X6_isImage {G : uk_D} (hs : uk_Sep G) {u : uk_Mem} (hu : iv u) (k : Int32) (d : Nat) : uk_Meth G d mX6_isImage [.int k] u (q_X6_isImage u k) := by
  refine uk_Meth.of hs (by decide) (Nat.le_of_ble_eq_true rfl) (fun X => ?_)
  refine g_iload_n dX6_isImage_0 rfl ?_
  refine g_if_lt (tgt := 13) dX6_isImage_1 (by decide) (fun c1 => ?_) (fun c1 => ?_)
  · refine g_iconst (v := 0) dX6_isImage_13 (by decide) ?_
    exact g_iret (ty := .boolean) dX6_isImage_14 rfl rfl ⟨⟨0, rfl, Or.inl rfl, fun q => absurd rfl q, fun _ => by first | trivial | lia | grind⟩, rfl⟩
  · refine g_iload_n dX6_isImage_4 rfl ?_
    refine g_iconst (v := 2) dX6_isImage_5 (by decide) ?_
    refine g_icmp_ge (tgt := 13) dX6_isImage_6 (by decide) (fun c2 => ?_) (fun c2 => ?_)
    · refine g_iconst (v := 0) dX6_isImage_13 (by decide) ?_
      exact g_iret (ty := .boolean) dX6_isImage_14 rfl rfl ⟨⟨0, rfl, Or.inl rfl, fun q => absurd rfl q, fun _ => by first | trivial | lia | grind⟩, rfl⟩
    · refine g_iconst (v := 1) dX6_isImage_9 (by decide) ?_
      refine g_goto (tgt := 14) dX6_isImage_10 (by decide) ?_
      exact g_iret (ty := .boolean) dX6_isImage_14 rfl rfl ⟨⟨1, rfl, Or.inr rfl, fun _ => by first | trivial | lia | grind, fun q => absurd q (by decide)⟩, rfl⟩
abbrev q_X6_isSheet (u : uk_Mem) (k : Int32) (r : Option Value) (u' : uk_Mem) : Prop := (∃ x : Int32, r = some (.int x) ∧ (x = 0 ∨ x = 1) ∧ (¬ x = 0 → 0 ≤ k ∧ k ≤ 3) ∧ (x = 0 → True)) ∧ (u' = u)
set_option maxHeartbeats 4000000 in
set_option maxRecDepth 20000 in
theorem c_X6_isSheet {G : uk_D} (hs : uk_Sep G) {u : uk_Mem} (hu : iv u) (k : Int32) (d : Nat) : uk_Meth G d mX6_isSheet [.int k] u (q_X6_isSheet u k) := by
  refine uk_Meth.of hs (by decide) (Nat.le_of_ble_eq_true rfl) (fun X => ?_)
  refine g_iload_n dX6_isSheet_0 rfl ?_
  refine g_if_lt (tgt := 13) dX6_isSheet_1 (by decide) (fun c1 => ?_) (fun c1 => ?_)
  · refine g_iconst (v := 0) dX6_isSheet_13 (by decide) ?_
    exact g_iret (ty := .boolean) dX6_isSheet_14 rfl rfl ⟨⟨0, rfl, Or.inl rfl, fun q => absurd rfl q, fun _ => by first | trivial | lia | grind⟩, rfl⟩
  · refine g_iload_n dX6_isSheet_4 rfl ?_
    refine g_iconst (v := 4) dX6_isSheet_5 (by decide) ?_
    refine g_icmp_ge (tgt := 13) dX6_isSheet_6 (by decide) (fun c2 => ?_) (fun c2 => ?_)
    · refine g_iconst (v := 0) dX6_isSheet_13 (by decide) ?_
      exact g_iret (ty := .boolean) dX6_isSheet_14 rfl rfl ⟨⟨0, rfl, Or.inl rfl, fun q => absurd rfl q, fun _ => by first | trivial | lia | grind⟩, rfl⟩
    · refine g_iconst (v := 1) dX6_isSheet_9 (by decide) ?_
      refine g_goto (tgt := 14) dX6_isSheet_10 (by decide) ?_
      exact g_iret (ty := .boolean) dX6_isSheet_14 rfl rfl ⟨⟨1, rfl, Or.inr rfl, fun _ => by first | trivial | lia | grind, fun q => absurd q (by decide)⟩, rfl⟩
abbrev q_X6_isLane (u : uk_Mem) (l : Int32) (r : Option Value) (u' : uk_Mem) : Prop := (∃ x : Int32, r = some (.int x) ∧ (x = 0 ∨ x = 1) ∧ (¬ x = 0 → 0 ≤ l ∧ l ≤ 2) ∧ (x = 0 → True)) ∧ (u' = u)
set_option maxHeartbeats 4000000 in
set_option maxRecDepth 20000 in
theorem c_X6_isLane {G : uk_D} (hs : uk_Sep G) {u : uk_Mem} (hu : iv u) (l : Int32) (d : Nat) : uk_Meth G d mX6_isLane [.int l] u (q_X6_isLane u l) := by
  refine uk_Meth.of hs (by decide) (Nat.le_of_ble_eq_true rfl) (fun X => ?_)
  refine g_iload_n dX6_isLane_0 rfl ?_
  refine g_if_lt (tgt := 13) dX6_isLane_1 (by decide) (fun c1 => ?_) (fun c1 => ?_)
  · refine g_iconst (v := 0) dX6_isLane_13 (by decide) ?_
    exact g_iret (ty := .boolean) dX6_isLane_14 rfl rfl ⟨⟨0, rfl, Or.inl rfl, fun q => absurd rfl q, fun _ => by first | trivial | lia | grind⟩, rfl⟩
  · refine g_iload_n dX6_isLane_4 rfl ?_
    refine g_iconst (v := 3) dX6_isLane_5 (by decide) ?_
    refine g_icmp_ge (tgt := 13) dX6_isLane_6 (by decide) (fun c2 => ?_) (fun c2 => ?_)
    · refine g_iconst (v := 0) dX6_isLane_13 (by decide) ?_
      exact g_iret (ty := .boolean) dX6_isLane_14 rfl rfl ⟨⟨0, rfl, Or.inl rfl, fun q => absurd rfl q, fun _ => by first | trivial | lia | grind⟩, rfl⟩
    · refine g_iconst (v := 1) dX6_isLane_9 (by decide) ?_
      refine g_goto (tgt := 14) dX6_isLane_10 (by decide) ?_
      exact g_iret (ty := .boolean) dX6_isLane_14 rfl rfl ⟨⟨1, rfl, Or.inr rfl, fun _ => by first | trivial | lia | grind, fun q => absurd q (by decide)⟩, rfl⟩
abbrev q_X6_imageOf (G : uk_D) (u : uk_Mem) (k : Int32) (r : Option Value) (u' : uk_Mem) : Prop := (∃ x : Nat, r = some (.ref (uk_ad G x)) ∧ (x = 22 ∨ x = 31)) ∧ (u' = u)
set_option maxHeartbeats 4000000 in
set_option maxRecDepth 20000 in
theorem c_X6_imageOf {G : uk_D} (hs : uk_Sep G) {u : uk_Mem} (hu : iv u) (k : Int32) (d : Nat) : uk_Meth G d mX6_imageOf [.ref (uk_ad G 0), .int k] u (q_X6_imageOf G u k) := by
  refine uk_Meth.of hs (by decide) (Nat.le_of_ble_eq_true rfl) (fun X => ?_)
  refine g_iload_n dX6_imageOf_0 rfl ?_
  refine g_if_ne (tgt := 11) dX6_imageOf_1 (by decide) (fun c1 => ?_) (fun c1 => ?_)
  · refine g_aload_n dX6_imageOf_11 rfl ?_
    refine f_X6_38 rfl rfl dX6_imageOf_12 ?_
    exact g_aret (n := "UncookMill$Kitchen") dX6_imageOf_15 rfl ⟨⟨_, rfl, by first | trivial | decide | grind⟩, rfl⟩
  · refine g_aload_n dX6_imageOf_4 rfl ?_
    refine f_X6_35 rfl rfl dX6_imageOf_5 ?_
    refine g_goto (tgt := 15) dX6_imageOf_8 (by decide) ?_
    exact g_aret (n := "UncookMill$Kitchen") dX6_imageOf_15 rfl ⟨⟨_, rfl, by first | trivial | decide | grind⟩, rfl⟩
abbrev q_X6_drawn (u : uk_Mem) (s : Int32) (r : Option Value) (u' : uk_Mem) : Prop := (∃ x : Int32, r = some (.int x) ∧ True) ∧ (u' = u)
set_option maxHeartbeats 4000000 in
set_option maxRecDepth 20000 in
theorem c_X6_drawn {G : uk_D} (hs : uk_Sep G) {u : uk_Mem} (hu : iv u) (s : Int32) (d : Nat) : uk_Meth G d mX6_drawn [.int s] u (q_X6_drawn u s) := by
  refine uk_Meth.of hs (by decide) (Nat.le_of_ble_eq_true rfl) (fun X => ?_)
  refine g_iload_n dX6_drawn_0 rfl ?_
  refine g_bipush (v := 16) dX6_drawn_1 (by decide) ?_
  refine g_iushr dX6_drawn_3 (fun x1 ex1 => ?_)
  refine g_sipush (v := 32767) dX6_drawn_4 (by decide) ?_
  refine g_iand dX6_drawn_7 ?_
  refine g_topi (fun x2 ex2 => ?_)
  exact g_iret (ty := .int) dX6_drawn_8 rfl rfl ⟨⟨_, rfl, by first | trivial | lia | grind⟩, rfl⟩
abbrev q_X6_greatestCommon (u : uk_Mem) (a : Int64) (b : Int64) (r : Option Value) (u' : uk_Mem) : Prop := (∃ x : Int64, r = some (.long x) ∧ ¬ x = 0) ∧ (u' = u)
set_option maxHeartbeats 4000000 in
set_option maxRecDepth 20000 in
theorem c_X6_greatestCommon {G : uk_D} (hs : uk_Sep G) {u : uk_Mem} (hu : iv u) (a : Int64) (b : Int64) (d : Nat) : uk_Meth G d mX6_greatestCommon [.long a, .long b] u (q_X6_greatestCommon u a b) := by
  refine uk_Meth.of hs (by decide) (Nat.le_of_ble_eq_true rfl) (fun X => ?_)
  refine g_lload_n dX6_greatestCommon_0 rfl ?_
  refine g_lstore dX6_greatestCommon_1 (by decide) ?_
  refine g_lload_n dX6_greatestCommon_3 rfl ?_
  refine g_lstore dX6_greatestCommon_4 (by decide) ?_
  refine g_iconst (v := 0) dX6_greatestCommon_6 (by decide) ?_
  refine g_istore dX6_greatestCommon_7 (by decide) ?_
  have L9_0 : ∀ i4 : Int32, 0 ≤ i4 → i4 ≤ 128 → ∀ (w2 : Int64) (w3 : Int64), uk_G G X mX6_greatestCommon d (q_X6_greatestCommon u a b) 9 [(0, .long a), (2, .long b), (4, .long w2), (6, .long w3), (8, .int i4)] [] u := by
    refine uk_upl 128 ?_
    intro i4 ai4 bi4 ihi4 w2 w3
    refine g_iload dX6_greatestCommon_9 rfl ?_
    refine g_sipush (v := 128) dX6_greatestCommon_11 (by decide) ?_
    refine g_icmp_ge (tgt := 45) dX6_greatestCommon_14 (by decide) (fun c5 => ?_) (fun c5 => ?_)
    · refine g_lload dX6_greatestCommon_45 rfl ?_
      refine g_lconst (v := 0) dX6_greatestCommon_47 (by decide) ?_
      refine g_lcmp dX6_greatestCommon_48 ?_
      refine g_if_le (tgt := 57) dX6_greatestCommon_49 (by decide) (fun c6 => ?_) (fun c6 => ?_)
      · refine g_lconst (v := 1) dX6_greatestCommon_57 (by decide) ?_
        exact g_lret dX6_greatestCommon_58 rfl ⟨⟨_, rfl, by first | trivial | decide | exact uk_lg0 (by assumption) | grind⟩, rfl⟩
      · refine g_lload dX6_greatestCommon_52 rfl ?_
        refine g_goto (tgt := 58) dX6_greatestCommon_54 (by decide) ?_
        exact g_lret dX6_greatestCommon_58 rfl ⟨⟨_, rfl, by first | trivial | decide | exact uk_lg0 (by assumption) | grind⟩, rfl⟩
    · refine g_lload dX6_greatestCommon_17 rfl ?_
      refine g_lconst (v := 0) dX6_greatestCommon_19 (by decide) ?_
      refine g_lcmp dX6_greatestCommon_20 ?_
      refine g_if_le (tgt := 45) dX6_greatestCommon_21 (by decide) (fun c7 => ?_) (fun c7 => ?_)
      · refine g_lload dX6_greatestCommon_45 rfl ?_
        refine g_lconst (v := 0) dX6_greatestCommon_47 (by decide) ?_
        refine g_lcmp dX6_greatestCommon_48 ?_
        refine g_if_le (tgt := 57) dX6_greatestCommon_49 (by decide) (fun c8 => ?_) (fun c8 => ?_)
        · refine g_lconst (v := 1) dX6_greatestCommon_57 (by decide) ?_
          exact g_lret dX6_greatestCommon_58 rfl ⟨⟨_, rfl, by first | trivial | decide | exact uk_lg0 (by assumption) | grind⟩, rfl⟩
        · refine g_lload dX6_greatestCommon_52 rfl ?_
          refine g_goto (tgt := 58) dX6_greatestCommon_54 (by decide) ?_
          exact g_lret dX6_greatestCommon_58 rfl ⟨⟨_, rfl, by first | trivial | decide | exact uk_lg0 (by assumption) | grind⟩, rfl⟩
      · refine g_lload dX6_greatestCommon_24 rfl ?_
        refine g_lload dX6_greatestCommon_26 rfl ?_
        refine g_lrem dX6_greatestCommon_28 (by first | decide | assumption | exact uk_lg0 (by assumption) | grind) ?_
        refine g_topl (fun y9 ey9 => ?_)
        refine g_lstore dX6_greatestCommon_29 (by decide) ?_
        refine g_lload dX6_greatestCommon_31 rfl ?_
        refine g_lstore dX6_greatestCommon_33 (by decide) ?_
        refine g_lload dX6_greatestCommon_35 rfl ?_
        refine g_lstore dX6_greatestCommon_37 (by decide) ?_
        refine g_iinc (v := i4 + 1) dX6_greatestCommon_39 rfl rfl (by decide) ?_
        refine g_goto (tgt := 9) dX6_greatestCommon_42 (by decide) ?_
        refine g_pick (lv' := [(0, .long a), (2, .long b), (4, .long w3), (6, .long y9), (8, .int (i4 + 1))]) [0, 1, 2, 3, 4] rfl ?_
        exact ihi4 (by first | lia | grind) w3 y9 
  refine g_pick (lv' := [(0, .long a), (2, .long b), (4, .long b), (6, .long a), (8, .int 0)]) [0, 1, 2, 3, 4] rfl ?_
  exact L9_0 0 (by first | decide | lia | grind) (by first | decide | lia | grind) b a 
abbrev q_X6_scaledMean (u : uk_Mem) (v : Int32) (m : Int32) (x9 : Int32) (r : Option Value) (u' : uk_Mem) : Prop := (∃ x : Int64, r = some (.long x) ∧ True) ∧ (iv u' ∧ fr 59 60 u u')
set_option maxHeartbeats 4000000 in
set_option maxRecDepth 20000 in
theorem c_X6_scaledMean {G : uk_D} (hs : uk_Sep G) {u : uk_Mem} (hu : iv u) (v : Int32) (m : Int32) (x9 : Int32) (p0 : 0 ≤ m) (p1 : m ≤ 7) (d : Nat) : uk_Meth G (d + 1) mX6_scaledMean [.ref (uk_ad G 0), .int v, .int m, .int x9] u (q_X6_scaledMean u v m x9) := by
  refine uk_Meth.of hs (by decide) (Nat.le_of_ble_eq_true rfl) (fun X => ?_)
  have f0 : fr 59 60 u u := fr_rf
  refine g_iconst (v := 0) dX6_scaledMean_0 (by decide) ?_
  refine g_istore dX6_scaledMean_1 (by decide) ?_
  have L3_0 : ∀ i2 : Int32, 0 ≤ i2 → i2 ≤ 8 → ∀ (u3 : uk_Mem), iv u3 → fr 59 60 u u3 → uk_G G X mX6_scaledMean (d + 1) (q_X6_scaledMean u v m x9) 3 [(0, .ref (uk_ad G 0)), (1, .int v), (2, .int m), (3, .int x9), (4, .int i2)] [] u3 := by
    refine uk_upl 8 ?_
    intro i2 ai2 bi2 ihi2  u3 hu3 fu3
    refine g_iload dX6_scaledMean_3 rfl ?_
    refine g_iload_n dX6_scaledMean_5 rfl ?_
    refine g_icmp_gt (tgt := 183) dX6_scaledMean_6 (by decide) (fun c4 => ?_) (fun c4 => ?_)
    · refine g_aload_n dX6_scaledMean_183 rfl ?_
      refine f_X6_73 rfl rfl dX6_scaledMean_184 ?_
      refine g_iload_n dX6_scaledMean_187 rfl ?_
      have v5 : vp_in m 8 := uk_vin 8 rfl (by first | decide | lia | grind) (by first | decide | lia | grind)
      refine g_lald rfl rfl v5 dX6_scaledMean_188 ?_
      refine g_topl (fun y6 ey6 => ?_)
      exact g_lret dX6_scaledMean_189 rfl ⟨⟨_, rfl, by first | trivial | decide | exact uk_lg0 (by assumption) | grind⟩, hu3, fu3⟩
    · refine g_aload_n dX6_scaledMean_9 rfl ?_
      refine f_X6_10 rfl rfl dX6_scaledMean_10 ?_
      refine g_iload dX6_scaledMean_13 rfl ?_
      refine cl_X6_122 (c := 13) (As := [.int i2]) rfl (c_X0_isMade (G := G) hs hu3 uk_isK13 i2 (by first | trivial | decide | lia | grind) (by first | trivial | decide | lia | grind) (d)) rfl (by omega) rfl rfl (Nat.le_of_ble_eq_true rfl) dX6_scaledMean_15 (fun r7 u8 q9 => ?_)
      obtain ⟨⟨x10, rfl, tx10, nx10, zx10⟩, mq9⟩ := q9
      rw [mq9]
      refine g_if_ne (tgt := 44) dX6_scaledMean_18 (by decide) (fun c11 => ?_) (fun c11 => ?_)
      · have zc11 := nx10 c11
        refine g_aload_n dX6_scaledMean_44 rfl ?_
        refine f_X6_73 rfl rfl dX6_scaledMean_45 ?_
        refine g_aload_n dX6_scaledMean_48 rfl ?_
        refine f_X6_10 rfl rfl dX6_scaledMean_49 ?_
        refine f_X6_128 rfl rfl dX6_scaledMean_52 ?_
        refine g_iload dX6_scaledMean_55 rfl ?_
        have v12 : vp_in i2 8 := uk_vin 8 rfl (by first | decide | lia | grind) (by first | decide | lia | grind)
        refine g_iald rfl rfl v12 dX6_scaledMean_57 ?_
        refine g_topi (fun x13 ex13 => ?_)
        have bx13 := uk_cl v12
        have rx13 : 0 ≤ x13 ∧ x13 ≤ 7 := by rw [ex13]; exact iv_at hu3 _ _ (uk_pick1 _ (by omega))
        have v14 : vp_in x13 8 := uk_vin 8 rfl (by first | decide | lia | grind) (by first | decide | lia | grind)
        refine g_lald rfl rfl v14 dX6_scaledMean_58 ?_
        refine g_topl (fun y15 ey15 => ?_)
        refine g_lstore dX6_scaledMean_59 (by decide) ?_
        refine g_aload_n dX6_scaledMean_61 rfl ?_
        refine f_X6_73 rfl rfl dX6_scaledMean_62 ?_
        refine g_aload_n dX6_scaledMean_65 rfl ?_
        refine f_X6_10 rfl rfl dX6_scaledMean_66 ?_
        refine f_X6_131 rfl rfl dX6_scaledMean_69 ?_
        refine g_iload dX6_scaledMean_72 rfl ?_
        have v16 : vp_in i2 8 := uk_vin 8 rfl (by first | decide | lia | grind) (by first | decide | lia | grind)
        refine g_iald rfl rfl v16 dX6_scaledMean_74 ?_
        refine g_topi (fun x17 ex17 => ?_)
        have bx17 := uk_cl v16
        have rx17 : 0 ≤ x17 ∧ x17 ≤ 7 := by rw [ex17]; exact iv_at hu3 _ _ (uk_pick1 _ (by omega))
        have v18 : vp_in x17 8 := uk_vin 8 rfl (by first | decide | lia | grind) (by first | decide | lia | grind)
        refine g_lald rfl rfl v18 dX6_scaledMean_75 ?_
        refine g_topl (fun y19 ey19 => ?_)
        refine g_lstore dX6_scaledMean_76 (by decide) ?_
        refine g_aload_n dX6_scaledMean_78 rfl ?_
        refine f_X6_10 rfl rfl dX6_scaledMean_79 ?_
        refine f_X6_125 rfl rfl dX6_scaledMean_82 ?_
        refine g_iload dX6_scaledMean_85 rfl ?_
        have v20 : vp_in i2 8 := uk_vin 8 rfl (by first | decide | lia | grind) (by first | decide | lia | grind)
        refine g_iald rfl rfl v20 dX6_scaledMean_87 ?_
        refine g_topi (fun x21 ex21 => ?_)
        by_cases c22 : x21 = 0
        · refine g_tabIn (off := (32)) (tgt := 120) dX6_scaledMean_88 (by rw [c22]; decide) (by rw [c22]; decide) (by rw [c22]; rfl) (by decide) ?_
          refine g_aload_n dX6_scaledMean_120 rfl ?_
          refine f_X6_73 rfl rfl dX6_scaledMean_121 ?_
          refine g_iload dX6_scaledMean_124 rfl ?_
          refine g_lload dX6_scaledMean_126 rfl ?_
          refine g_lload dX6_scaledMean_128 rfl ?_
          refine g_ladd dX6_scaledMean_130 ?_
          refine g_topl (fun y23 ey23 => ?_)
          have v24 : vp_in i2 8 := uk_vin 8 rfl (by first | decide | lia | grind) (by first | decide | lia | grind)
          have b25 := uk_cl v24
          refine g_last rfl rfl v24 dX6_scaledMean_131 ?_
          refine g_mem (fun u26 eu26 => ?_)
          have hu26 : iv u26 := by rw [eu26]; exact iv_upL hu3
          have fu26 : fr 59 60 u u26 := by rw [eu26]; exact fr_upL fu3 (by omega) (by omega)
          refine g_goto (tgt := 177) dX6_scaledMean_132 (by decide) ?_
          refine g_iinc (v := i2 + 1) dX6_scaledMean_177 rfl rfl (by decide) ?_
          refine g_goto (tgt := 3) dX6_scaledMean_180 (by decide) ?_
          refine g_pick (lv' := [(0, .ref (uk_ad G 0)), (1, .int v), (2, .int m), (3, .int x9), (4, .int (i2 + 1))]) [0, 1, 2, 3, 4] rfl ?_
          exact ihi2 (by first | lia | grind)  u26 hu26 fu26 
        by_cases c27 : x21 = 1
        · refine g_tabIn (off := (47)) (tgt := 135) dX6_scaledMean_88 (by rw [c27]; decide) (by rw [c27]; decide) (by rw [c27]; rfl) (by decide) ?_
          refine g_aload_n dX6_scaledMean_135 rfl ?_
          refine f_X6_73 rfl rfl dX6_scaledMean_136 ?_
          refine g_iload dX6_scaledMean_139 rfl ?_
          refine g_lload dX6_scaledMean_141 rfl ?_
          have v28 : vp_in i2 8 := uk_vin 8 rfl (by first | decide | lia | grind) (by first | decide | lia | grind)
          have b29 := uk_cl v28
          refine g_last rfl rfl v28 dX6_scaledMean_143 ?_
          refine g_mem (fun u30 eu30 => ?_)
          have hu30 : iv u30 := by rw [eu30]; exact iv_upL hu3
          have fu30 : fr 59 60 u u30 := by rw [eu30]; exact fr_upL fu3 (by omega) (by omega)
          refine g_goto (tgt := 177) dX6_scaledMean_144 (by decide) ?_
          refine g_iinc (v := i2 + 1) dX6_scaledMean_177 rfl rfl (by decide) ?_
          refine g_goto (tgt := 3) dX6_scaledMean_180 (by decide) ?_
          refine g_pick (lv' := [(0, .ref (uk_ad G 0)), (1, .int v), (2, .int m), (3, .int x9), (4, .int (i2 + 1))]) [0, 1, 2, 3, 4] rfl ?_
          exact ihi2 (by first | lia | grind)  u30 hu30 fu30 
        by_cases c31 : x21 = 2
        · refine g_tabIn (off := (81)) (tgt := 169) dX6_scaledMean_88 (by rw [c31]; decide) (by rw [c31]; decide) (by rw [c31]; rfl) (by decide) ?_
          refine g_aload_n dX6_scaledMean_169 rfl ?_
          refine f_X6_73 rfl rfl dX6_scaledMean_170 ?_
          refine g_iload dX6_scaledMean_173 rfl ?_
          refine g_lconst (v := 0) dX6_scaledMean_175 (by decide) ?_
          have v32 : vp_in i2 8 := uk_vin 8 rfl (by first | decide | lia | grind) (by first | decide | lia | grind)
          have b33 := uk_cl v32
          refine g_last rfl rfl v32 dX6_scaledMean_176 ?_
          refine g_mem (fun u34 eu34 => ?_)
          have hu34 : iv u34 := by rw [eu34]; exact iv_upL hu3
          have fu34 : fr 59 60 u u34 := by rw [eu34]; exact fr_upL fu3 (by omega) (by omega)
          refine g_iinc (v := i2 + 1) dX6_scaledMean_177 rfl rfl (by decide) ?_
          refine g_goto (tgt := 3) dX6_scaledMean_180 (by decide) ?_
          refine g_pick (lv' := [(0, .ref (uk_ad G 0)), (1, .int v), (2, .int m), (3, .int x9), (4, .int (i2 + 1))]) [0, 1, 2, 3, 4] rfl ?_
          exact ihi2 (by first | lia | grind)  u34 hu34 fu34 
        by_cases c35 : x21 = 3
        · refine g_tabIn (off := (59)) (tgt := 147) dX6_scaledMean_88 (by rw [c35]; decide) (by rw [c35]; decide) (by rw [c35]; rfl) (by decide) ?_
          refine g_aload_n dX6_scaledMean_147 rfl ?_
          refine f_X6_73 rfl rfl dX6_scaledMean_148 ?_
          refine g_iload dX6_scaledMean_151 rfl ?_
          refine g_lload dX6_scaledMean_153 rfl ?_
          refine g_lload dX6_scaledMean_155 rfl ?_
          refine g_iload_n dX6_scaledMean_157 rfl ?_
          refine g_i2l dX6_scaledMean_158 ?_
          refine g_lmul dX6_scaledMean_159 ?_
          refine g_topl (fun y36 ey36 => ?_)
          refine g_ldc2 (v := 10) k_X6_288 dX6_scaledMean_160 ?_
          refine g_ldiv dX6_scaledMean_163 (by first | decide | assumption | exact uk_lg0 (by assumption) | grind) ?_
          refine g_topl (fun y37 ey37 => ?_)
          refine g_ladd dX6_scaledMean_164 ?_
          refine g_topl (fun y38 ey38 => ?_)
          have v39 : vp_in i2 8 := uk_vin 8 rfl (by first | decide | lia | grind) (by first | decide | lia | grind)
          have b40 := uk_cl v39
          refine g_last rfl rfl v39 dX6_scaledMean_165 ?_
          refine g_mem (fun u41 eu41 => ?_)
          have hu41 : iv u41 := by rw [eu41]; exact iv_upL hu3
          have fu41 : fr 59 60 u u41 := by rw [eu41]; exact fr_upL fu3 (by omega) (by omega)
          refine g_goto (tgt := 177) dX6_scaledMean_166 (by decide) ?_
          refine g_iinc (v := i2 + 1) dX6_scaledMean_177 rfl rfl (by decide) ?_
          refine g_goto (tgt := 3) dX6_scaledMean_180 (by decide) ?_
          refine g_pick (lv' := [(0, .ref (uk_ad G 0)), (1, .int v), (2, .int m), (3, .int x9), (4, .int (i2 + 1))]) [0, 1, 2, 3, 4] rfl ?_
          exact ihi2 (by first | lia | grind)  u41 hu41 fu41 
        refine g_tabOut (tgt := 169) dX6_scaledMean_88 (uk_swo 0 3 rfl rfl (by first | lia | grind)) (by decide) ?_
        refine g_aload_n dX6_scaledMean_169 rfl ?_
        refine f_X6_73 rfl rfl dX6_scaledMean_170 ?_
        refine g_iload dX6_scaledMean_173 rfl ?_
        refine g_lconst (v := 0) dX6_scaledMean_175 (by decide) ?_
        have v42 : vp_in i2 8 := uk_vin 8 rfl (by first | decide | lia | grind) (by first | decide | lia | grind)
        have b43 := uk_cl v42
        refine g_last rfl rfl v42 dX6_scaledMean_176 ?_
        refine g_mem (fun u44 eu44 => ?_)
        have hu44 : iv u44 := by rw [eu44]; exact iv_upL hu3
        have fu44 : fr 59 60 u u44 := by rw [eu44]; exact fr_upL fu3 (by omega) (by omega)
        refine g_iinc (v := i2 + 1) dX6_scaledMean_177 rfl rfl (by decide) ?_
        refine g_goto (tgt := 3) dX6_scaledMean_180 (by decide) ?_
        refine g_pick (lv' := [(0, .ref (uk_ad G 0)), (1, .int v), (2, .int m), (3, .int x9), (4, .int (i2 + 1))]) [0, 1, 2, 3, 4] rfl ?_
        exact ihi2 (by first | lia | grind)  u44 hu44 fu44 
      · have zc11 := zx10 c11
        refine g_aload_n dX6_scaledMean_21 rfl ?_
        refine f_X6_73 rfl rfl dX6_scaledMean_22 ?_
        refine g_iload dX6_scaledMean_25 rfl ?_
        refine g_iload dX6_scaledMean_27 rfl ?_
        refine g_iload_n dX6_scaledMean_29 rfl ?_
        refine g_icmp_ne (tgt := 39) dX6_scaledMean_30 (by decide) (fun c45 => ?_) (fun c45 => ?_)
        · refine g_lconst (v := 0) dX6_scaledMean_39 (by decide) ?_
          have v46 : vp_in i2 8 := uk_vin 8 rfl (by first | decide | lia | grind) (by first | decide | lia | grind)
          have b47 := uk_cl v46
          refine g_last rfl rfl v46 dX6_scaledMean_40 ?_
          refine g_mem (fun u48 eu48 => ?_)
          have hu48 : iv u48 := by rw [eu48]; exact iv_upL hu3
          have fu48 : fr 59 60 u u48 := by rw [eu48]; exact fr_upL fu3 (by omega) (by omega)
          refine g_goto (tgt := 177) dX6_scaledMean_41 (by decide) ?_
          refine g_iinc (v := i2 + 1) dX6_scaledMean_177 rfl rfl (by decide) ?_
          refine g_goto (tgt := 3) dX6_scaledMean_180 (by decide) ?_
          refine g_pick (lv' := [(0, .ref (uk_ad G 0)), (1, .int v), (2, .int m), (3, .int x9), (4, .int (i2 + 1))]) [0, 1, 2, 3, 4] rfl ?_
          exact ihi2 (by first | lia | grind)  u48 hu48 fu48 
        · refine g_ldc2 (v := 10000000) k_X6_202 dX6_scaledMean_33 ?_
          refine g_goto (tgt := 40) dX6_scaledMean_36 (by decide) ?_
          have v49 : vp_in i2 8 := uk_vin 8 rfl (by first | decide | lia | grind) (by first | decide | lia | grind)
          have b50 := uk_cl v49
          refine g_last rfl rfl v49 dX6_scaledMean_40 ?_
          refine g_mem (fun u51 eu51 => ?_)
          have hu51 : iv u51 := by rw [eu51]; exact iv_upL hu3
          have fu51 : fr 59 60 u u51 := by rw [eu51]; exact fr_upL fu3 (by omega) (by omega)
          refine g_goto (tgt := 177) dX6_scaledMean_41 (by decide) ?_
          refine g_iinc (v := i2 + 1) dX6_scaledMean_177 rfl rfl (by decide) ?_
          refine g_goto (tgt := 3) dX6_scaledMean_180 (by decide) ?_
          refine g_pick (lv' := [(0, .ref (uk_ad G 0)), (1, .int v), (2, .int m), (3, .int x9), (4, .int (i2 + 1))]) [0, 1, 2, 3, 4] rfl ?_
          exact ihi2 (by first | lia | grind)  u51 hu51 fu51 
  refine g_pick (lv' := [(0, .ref (uk_ad G 0)), (1, .int v), (2, .int m), (3, .int x9), (4, .int 0)]) [0, 1, 2, 3, 4] rfl ?_
  exact L3_0 0 (by first | decide | lia | grind) (by first | decide | lia | grind)  u hu f0 
abbrev q_X6_fitTogether (u : uk_Mem) (a : Int32) (b : Int32) (r : Option Value) (u' : uk_Mem) : Prop := (∃ x : Int32, r = some (.int x) ∧ (x = 0 ∨ x = 1) ∧ (¬ x = 0 → True) ∧ (x = 0 → True)) ∧ (iv u' ∧ fr 41 59 u u')
set_option maxHeartbeats 4000000 in
set_option maxRecDepth 20000 in
theorem c_X6_fitTogether {G : uk_D} (hs : uk_Sep G) {u : uk_Mem} (hu : iv u) (a : Int32) (b : Int32) (p0 : 0 ≤ a) (p1 : a ≤ 7) (p2 : 0 ≤ b) (p3 : b ≤ 7) (d : Nat) : uk_Meth G (d + 3) mX6_fitTogether [.ref (uk_ad G 0), .int a, .int b] u (q_X6_fitTogether u a b) := by
  refine uk_Meth.of hs (by decide) (Nat.le_of_ble_eq_true rfl) (fun X => ?_)
  have f0 : fr 41 59 u u := fr_rf
  refine g_iconst (v := 0) dX6_fitTogether_0 (by decide) ?_
  refine g_istore_n dX6_fitTogether_1 (by decide) ?_
  have L2_0 : ∀ i2 : Int32, 0 ≤ i2 → i2 ≤ 8 → ∀ (u3 : uk_Mem), iv u3 → fr 41 59 u u3 → uk_G G X mX6_fitTogether (d + 3) (q_X6_fitTogether u a b) 2 [(0, .ref (uk_ad G 0)), (1, .int a), (2, .int b), (3, .int i2)] [] u3 := by
    refine uk_upl 8 ?_
    intro i2 ai2 bi2 ihi2  u3 hu3 fu3
    refine g_iload_n dX6_fitTogether_2 rfl ?_
    refine g_bipush (v := 8) dX6_fitTogether_3 (by decide) ?_
    refine g_icmp_ge (tgt := 21) dX6_fitTogether_5 (by decide) (fun c4 => ?_) (fun c4 => ?_)
    · refine g_iconst (v := 0) dX6_fitTogether_21 (by decide) ?_
      refine g_istore_n dX6_fitTogether_22 (by decide) ?_
      have L23_4 : ∀ i6 : Int32, 0 ≤ i6 → i6 ≤ 8 → ∀ (u7 : uk_Mem), iv u7 → fr 41 59 u u7 → uk_G G X mX6_fitTogether (d + 3) (q_X6_fitTogether u a b) 23 [(0, .ref (uk_ad G 0)), (1, .int a), (2, .int b), (3, .int i6)] [] u7 := by
        refine uk_upl 8 ?_
        intro i6 ai6 bi6 ihi6  u7 hu7 fu7
        refine g_iload_n dX6_fitTogether_23 rfl ?_
        refine g_aload_n dX6_fitTogether_24 rfl ?_
        refine f_X6_10 rfl rfl dX6_fitTogether_25 ?_
        refine f_X6_223 rfl rfl dX6_fitTogether_28 ?_
        refine g_topi (fun x8 ex8 => ?_)
        have rx8 : 0 ≤ x8 ∧ x8 ≤ 8 := by rw [ex8]; exact iv_at hu7 _ _ rfl
        have s9 : u7.1 13 9 = x8 := ex8.symm
        refine g_icmp_ge (tgt := 58) dX6_fitTogether_31 (by decide) (fun c10 => ?_) (fun c10 => ?_)
        · refine g_aload_n dX6_fitTogether_58 rfl ?_
          refine f_X6_48 rfl rfl dX6_fitTogether_59 ?_
          refine g_aload_n dX6_fitTogether_62 rfl ?_
          refine f_X6_10 rfl rfl dX6_fitTogether_63 ?_
          refine g_iload_n dX6_fitTogether_66 rfl ?_
          refine g_bipush (v := 127) dX6_fitTogether_67 (by decide) ?_
          refine cl_X6_177 (c := 41) (As := [.ref (uk_ad G 13), .int a, .int 127]) rfl (c_X1_grind (G := G) hs hu7  a 127 (by first | trivial | decide | lia | grind) (by first | trivial | decide | lia | grind) (d)) rfl (by omega) rfl rfl (Nat.le_of_ble_eq_true rfl) dX6_fitTogether_69 (fun r11 u12 q13 => ?_)
          obtain ⟨rfl, mq13⟩ := q13
          obtain ⟨hu12, gu12⟩ := mq13
          have fu12 : fr 41 59 u u12 := fr_tr fu7 gu12 (by omega) (by omega)
          have s14 : u12.1 13 9 = x8 := (fr_at gu12 (by omega)).trans s9
          refine g_aload_n dX6_fitTogether_72 rfl ?_
          refine f_X6_48 rfl rfl dX6_fitTogether_73 ?_
          refine g_aload_n dX6_fitTogether_76 rfl ?_
          refine f_X6_70 rfl rfl dX6_fitTogether_77 ?_
          refine cl_X6_290 (c := 41) (As := [.ref (uk_ad G 58)]) rfl (c_X1_takeFrom (G := G) hs hu12    (d + 2)) rfl (by omega) rfl rfl (Nat.le_of_ble_eq_true rfl) dX6_fitTogether_80 (fun r15 u16 q17 => ?_)
          obtain ⟨rfl, mq17⟩ := q17
          obtain ⟨hu16, gu16⟩ := mq17
          have fu16 : fr 41 59 u u16 := fr_tr fu12 gu16 (by omega) (by omega)
          have s18 : u16.1 13 9 = x8 := (fr_at gu16 (by omega)).trans s14
          refine g_aload_n dX6_fitTogether_83 rfl ?_
          refine f_X6_48 rfl rfl dX6_fitTogether_84 ?_
          refine g_aload_n dX6_fitTogether_87 rfl ?_
          refine f_X6_10 rfl rfl dX6_fitTogether_88 ?_
          refine g_iload_n dX6_fitTogether_91 rfl ?_
          refine g_bipush (v := 127) dX6_fitTogether_92 (by decide) ?_
          refine cl_X6_177 (c := 41) (As := [.ref (uk_ad G 13), .int b, .int 127]) rfl (c_X1_grind (G := G) hs hu16  b 127 (by first | trivial | decide | lia | grind) (by first | trivial | decide | lia | grind) (d)) rfl (by omega) rfl rfl (Nat.le_of_ble_eq_true rfl) dX6_fitTogether_94 (fun r19 u20 q21 => ?_)
          obtain ⟨rfl, mq21⟩ := q21
          obtain ⟨hu20, gu20⟩ := mq21
          have fu20 : fr 41 59 u u20 := fr_tr fu16 gu20 (by omega) (by omega)
          have s22 : u20.1 13 9 = x8 := (fr_at gu20 (by omega)).trans s18
          refine g_aload_n dX6_fitTogether_97 rfl ?_
          refine f_X6_48 rfl rfl dX6_fitTogether_98 ?_
          refine g_aload_n dX6_fitTogether_101 rfl ?_
          refine f_X6_70 rfl rfl dX6_fitTogether_102 ?_
          refine cl_X6_290 (c := 41) (As := [.ref (uk_ad G 58)]) rfl (c_X1_takeFrom (G := G) hs hu20    (d + 2)) rfl (by omega) rfl rfl (Nat.le_of_ble_eq_true rfl) dX6_fitTogether_105 (fun r23 u24 q25 => ?_)
          obtain ⟨rfl, mq25⟩ := q25
          obtain ⟨hu24, gu24⟩ := mq25
          have fu24 : fr 41 59 u u24 := fr_tr fu20 gu24 (by omega) (by omega)
          have s26 : u24.1 13 9 = x8 := (fr_at gu24 (by omega)).trans s22
          refine g_iconst (v := 0) dX6_fitTogether_108 (by decide) ?_
          refine g_istore_n dX6_fitTogether_109 (by decide) ?_
          have L110_26 : ∀ i28 : Int32, 0 ≤ i28 → i28 ≤ 8 → uk_G G X mX6_fitTogether (d + 3) (q_X6_fitTogether u a b) 110 [(0, .ref (uk_ad G 0)), (1, .int a), (2, .int b), (3, .int i28)] [] u24 := by
            refine uk_upl 8 ?_
            intro i28 ai28 bi28 ihi28 
            refine g_iload_n dX6_fitTogether_110 rfl ?_
            refine g_bipush (v := 8) dX6_fitTogether_111 (by decide) ?_
            refine g_icmp_ge (tgt := 133) dX6_fitTogether_113 (by decide) (fun c29 => ?_) (fun c29 => ?_)
            · refine g_iconst (v := 1) dX6_fitTogether_133 (by decide) ?_
              exact g_iret (ty := .boolean) dX6_fitTogether_134 rfl rfl ⟨⟨1, rfl, Or.inr rfl, fun _ => by first | trivial | lia | grind, fun q => absurd q (by decide)⟩, hu24, fu24⟩
            · refine g_aload_n dX6_fitTogether_116 rfl ?_
              refine f_X6_70 rfl rfl dX6_fitTogether_117 ?_
              refine g_iload_n dX6_fitTogether_120 rfl ?_
              have v30 : vp_in i28 8 := uk_vin 8 rfl (by first | decide | lia | grind) (by first | decide | lia | grind)
              refine g_iald rfl rfl v30 dX6_fitTogether_121 ?_
              refine g_topi (fun x31 ex31 => ?_)
              refine g_if_eq (tgt := 127) dX6_fitTogether_122 (by decide) (fun c32 => ?_) (fun c32 => ?_)
              · refine g_iinc (v := i28 + 1) dX6_fitTogether_127 rfl rfl (by decide) ?_
                refine g_goto (tgt := 110) dX6_fitTogether_130 (by decide) ?_
                refine g_pick (lv' := [(0, .ref (uk_ad G 0)), (1, .int a), (2, .int b), (3, .int (i28 + 1))]) [0, 1, 2, 3] rfl ?_
                exact ihi28 (by first | lia | grind)  
              · refine g_iconst (v := 0) dX6_fitTogether_125 (by decide) ?_
                exact g_iret (ty := .boolean) dX6_fitTogether_126 rfl rfl ⟨⟨0, rfl, Or.inl rfl, fun q => absurd rfl q, fun _ => by first | trivial | lia | grind⟩, hu24, fu24⟩
          refine g_pick (lv' := [(0, .ref (uk_ad G 0)), (1, .int a), (2, .int b), (3, .int 0)]) [0, 1, 2, 3] rfl ?_
          exact L110_26 0 (by first | decide | lia | grind) (by first | decide | lia | grind)  
        · refine g_aload_n dX6_fitTogether_34 rfl ?_
          refine f_X6_70 rfl rfl dX6_fitTogether_35 ?_
          refine g_aload_n dX6_fitTogether_38 rfl ?_
          refine f_X6_10 rfl rfl dX6_fitTogether_39 ?_
          refine f_X6_226 rfl rfl dX6_fitTogether_42 ?_
          refine g_iload_n dX6_fitTogether_45 rfl ?_
          have v33 : vp_in i6 8 := uk_vin 8 rfl (by first | decide | lia | grind) (by first | decide | lia | grind)
          refine g_iald rfl rfl v33 dX6_fitTogether_46 ?_
          refine g_topi (fun x34 ex34 => ?_)
          have bx34 := uk_cl v33
          have rx34 : 0 ≤ x34 ∧ x34 ≤ 7 := by rw [ex34]; exact iv_at hu7 _ _ (uk_pick1 _ (by omega))
          refine g_dup2 dX6_fitTogether_47 rfl rfl ?_
          have v35 : vp_in x34 8 := uk_vin 8 rfl (by first | decide | lia | grind) (by first | decide | lia | grind)
          refine g_iald rfl rfl v35 dX6_fitTogether_48 ?_
          refine g_topi (fun x36 ex36 => ?_)
          refine g_iconst (v := 1) dX6_fitTogether_49 (by decide) ?_
          refine g_iadd dX6_fitTogether_50 ?_
          refine g_topi (fun x37 ex37 => ?_)
          have v38 : vp_in x34 8 := uk_vin 8 rfl (by first | decide | lia | grind) (by first | decide | lia | grind)
          have b39 := uk_cl v38
          refine g_iast rfl rfl v38 dX6_fitTogether_51 ?_
          refine g_mem (fun u40 eu40 => ?_)
          have hu40 : iv u40 := by rw [eu40]; exact iv_upF hu7 (uk_pick1 _ (by omega))
          have fu40 : fr 41 59 u u40 := by rw [eu40]; exact fr_up fu7 (by omega) (by omega)
          refine g_iinc (v := i6 + 1) dX6_fitTogether_52 rfl rfl (by decide) ?_
          refine g_goto (tgt := 23) dX6_fitTogether_55 (by decide) ?_
          refine g_pick (lv' := [(0, .ref (uk_ad G 0)), (1, .int a), (2, .int b), (3, .int (i6 + 1))]) [0, 1, 2, 3] rfl ?_
          exact ihi6 (by first | lia | grind)  u40 hu40 fu40 
      refine g_pick (lv' := [(0, .ref (uk_ad G 0)), (1, .int a), (2, .int b), (3, .int 0)]) [0, 1, 2, 3] rfl ?_
      exact L23_4 0 (by first | decide | lia | grind) (by first | decide | lia | grind)  u3 hu3 fu3 
    · refine g_aload_n dX6_fitTogether_8 rfl ?_
      refine f_X6_70 rfl rfl dX6_fitTogether_9 ?_
      refine g_iload_n dX6_fitTogether_12 rfl ?_
      refine g_iconst (v := 0) dX6_fitTogether_13 (by decide) ?_
      have v41 : vp_in i2 8 := uk_vin 8 rfl (by first | decide | lia | grind) (by first | decide | lia | grind)
      have b42 := uk_cl v41
      refine g_iast rfl rfl v41 dX6_fitTogether_14 ?_
      refine g_mem (fun u43 eu43 => ?_)
      have hu43 : iv u43 := by rw [eu43]; exact iv_upF hu3 (uk_pick1 _ (by omega))
      have fu43 : fr 41 59 u u43 := by rw [eu43]; exact fr_up fu3 (by omega) (by omega)
      refine g_iinc (v := i2 + 1) dX6_fitTogether_15 rfl rfl (by decide) ?_
      refine g_goto (tgt := 2) dX6_fitTogether_18 (by decide) ?_
      refine g_pick (lv' := [(0, .ref (uk_ad G 0)), (1, .int a), (2, .int b), (3, .int (i2 + 1))]) [0, 1, 2, 3] rfl ?_
      exact ihi2 (by first | lia | grind)  u43 hu43 fu43 
  refine g_pick (lv' := [(0, .ref (uk_ad G 0)), (1, .int a), (2, .int b), (3, .int 0)]) [0, 1, 2, 3] rfl ?_
  exact L2_0 0 (by first | decide | lia | grind) (by first | decide | lia | grind)  u hu f0 
abbrev q_X6_feed (u : uk_Mem) (c : Int32) (r : Option Value) (u' : uk_Mem) : Prop := (∃ x : Int32, r = some (.int x) ∧ (((c < 0 ∨ 127 < c) ∧ x = -1 ∧ u'.1 2 1 = u.1 2 1) ∨ (0 ≤ c ∧ c ≤ 127 ∧ 160 ≤ u.1 2 1 ∧ x = -3 ∧ u'.1 2 1 = u.1 2 1) ∨ (0 ≤ c ∧ c ≤ 127 ∧ u.1 2 1 < 160 ∧ x = u.1 2 1 + 1 ∧ u'.1 2 1 = u.1 2 1 + 1))) ∧ (iv u' ∧ fr 2 4 u u')
set_option maxHeartbeats 4000000 in
set_option maxRecDepth 20000 in
theorem c_X6_feed {G : uk_D} (hs : uk_Sep G) {u : uk_Mem} (hu : iv u) (c : Int32) (d : Nat) : uk_Meth G (d + 1) mX6_feed [.ref (uk_ad G 0), .int c] u (q_X6_feed u c) := by
  refine uk_Meth.of hs (by decide) (Nat.le_of_ble_eq_true rfl) (fun X => ?_)
  have f0 : fr 2 4 u u := fr_rf
  refine g_iload_n dX6_feed_0 rfl ?_
  refine g_if_lt (tgt := 10) dX6_feed_1 (by decide) (fun c1 => ?_) (fun c1 => ?_)
  · refine g_iconst (v := (-1)) dX6_feed_10 (by decide) ?_
    exact g_iret (ty := .int) dX6_feed_11 rfl rfl ⟨⟨_, rfl, by first | trivial | lia | grind⟩, hu, f0⟩
  · refine g_iload_n dX6_feed_4 rfl ?_
    refine g_bipush (v := 127) dX6_feed_5 (by decide) ?_
    refine g_icmp_le (tgt := 12) dX6_feed_7 (by decide) (fun c2 => ?_) (fun c2 => ?_)
    · refine g_aload_n dX6_feed_12 rfl ?_
      refine f_X6_22 rfl rfl dX6_feed_13 ?_
      refine f_X6_84 rfl rfl dX6_feed_16 ?_
      refine g_topi (fun x3 ex3 => ?_)
      have rx3 : 0 ≤ x3 ∧ x3 ≤ 160 := by rw [ex3]; exact iv_at hu _ _ rfl
      have s4 : u.1 2 1 = x3 := ex3.symm
      refine g_sipush (v := 160) dX6_feed_19 (by decide) ?_
      refine g_icmp_lt (tgt := 28) dX6_feed_22 (by decide) (fun c5 => ?_) (fun c5 => ?_)
      · refine g_aload_n dX6_feed_28 rfl ?_
        refine f_X6_22 rfl rfl dX6_feed_29 ?_
        refine g_iload_n dX6_feed_32 rfl ?_
        refine cl_X6_87 (c := 2) (As := [.int c]) rfl (c_X4_append (G := G) hs hu  c  (d)) rfl (by omega) rfl rfl (Nat.le_of_ble_eq_true rfl) dX6_feed_33 (fun r6 u7 q8 => ?_)
        obtain ⟨rfl, mq8⟩ := q8
        obtain ⟨hu7, gu7, ku70⟩ := mq8
        have fu7 : fr 2 4 u u7 := fr_tr f0 gu7 (by omega) (by omega)
        refine g_aload_n dX6_feed_36 rfl ?_
        refine f_X6_22 rfl rfl dX6_feed_37 ?_
        refine f_X6_84 rfl rfl dX6_feed_40 ?_
        refine g_topi (fun x9 ex9 => ?_)
        have rx9 : 0 ≤ x9 ∧ x9 ≤ 160 := by rw [ex9]; exact iv_at hu7 _ _ rfl
        have s10 : u7.1 2 1 = x9 := ex9.symm
        exact g_iret (ty := .int) dX6_feed_43 rfl rfl ⟨⟨_, rfl, by first | trivial | lia | grind⟩, hu7, fu7⟩
      · refine g_bipush (v := (-3)) dX6_feed_25 (by decide) ?_
        exact g_iret (ty := .int) dX6_feed_27 rfl rfl ⟨⟨_, rfl, by first | trivial | lia | grind⟩, hu, f0⟩
    · refine g_iconst (v := (-1)) dX6_feed_10 (by decide) ?_
      exact g_iret (ty := .int) dX6_feed_11 rfl rfl ⟨⟨_, rfl, by first | trivial | lia | grind⟩, hu, f0⟩
abbrev q_X6_end (u : uk_Mem) (n : Int32) (r : Option Value) (u' : uk_Mem) : Prop := (∃ x : Int32, r = some (.int x) ∧ (((n < 0 ∨ u.1 2 1 < n) ∧ x = -1 ∧ u'.1 2 1 = u.1 2 1) ∨ (0 ≤ n ∧ n ≤ u.1 2 1 ∧ x = u.1 2 1 ∧ u'.1 2 1 = n))) ∧ (iv u' ∧ fr 2 3 u u')
set_option maxHeartbeats 4000000 in
set_option maxRecDepth 20000 in
theorem c_X6_end {G : uk_D} (hs : uk_Sep G) {u : uk_Mem} (hu : iv u) (n : Int32) (d : Nat) : uk_Meth G d mX6_end [.ref (uk_ad G 0), .int n] u (q_X6_end u n) := by
  refine uk_Meth.of hs (by decide) (Nat.le_of_ble_eq_true rfl) (fun X => ?_)
  have f0 : fr 2 3 u u := fr_rf
  refine g_iload_n dX6_end_0 rfl ?_
  refine g_if_lt (tgt := 15) dX6_end_1 (by decide) (fun c1 => ?_) (fun c1 => ?_)
  · refine g_iconst (v := (-1)) dX6_end_15 (by decide) ?_
    exact g_iret (ty := .int) dX6_end_16 rfl rfl ⟨⟨_, rfl, by first | trivial | lia | grind⟩, hu, f0⟩
  · refine g_iload_n dX6_end_4 rfl ?_
    refine g_aload_n dX6_end_5 rfl ?_
    refine f_X6_22 rfl rfl dX6_end_6 ?_
    refine f_X6_84 rfl rfl dX6_end_9 ?_
    refine g_topi (fun x2 ex2 => ?_)
    have rx2 : 0 ≤ x2 ∧ x2 ≤ 160 := by rw [ex2]; exact iv_at hu _ _ rfl
    have s3 : u.1 2 1 = x2 := ex2.symm
    refine g_icmp_le (tgt := 17) dX6_end_12 (by decide) (fun c4 => ?_) (fun c4 => ?_)
    · refine g_aload_n dX6_end_17 rfl ?_
      refine f_X6_22 rfl rfl dX6_end_18 ?_
      refine f_X6_84 rfl rfl dX6_end_21 ?_
      refine g_topi (fun x5 ex5 => ?_)
      have rx5 : 0 ≤ x5 ∧ x5 ≤ 160 := by rw [ex5]; exact iv_at hu _ _ rfl
      have qx5 : x5 = x2 := by rw [ex5]; exact s3
      refine g_istore_n dX6_end_24 (by decide) ?_
      refine g_aload_n dX6_end_25 rfl ?_
      refine f_X6_22 rfl rfl dX6_end_26 ?_
      refine g_iload_n dX6_end_29 rfl ?_
      refine p_X6_84 rfl rfl dX6_end_30 ?_
      refine g_mem (fun u6 eu6 => ?_)
      have hu6 : iv u6 := by rw [eu6]; exact iv_up hu rfl (by first | lia | grind) (by first | lia | grind)
      have fu6 : fr 2 3 u u6 := by rw [eu6]; exact fr_up f0 (by omega) (by omega)
      have s7 : u6.1 2 1 = n := by rw [eu6, uk_up_at]; exact if_pos ⟨rfl, rfl⟩
      refine g_iload_n dX6_end_33 rfl ?_
      exact g_iret (ty := .int) dX6_end_34 rfl rfl ⟨⟨_, rfl, by first | trivial | lia | grind⟩, hu6, fu6⟩
    · refine g_iconst (v := (-1)) dX6_end_15 (by decide) ?_
      exact g_iret (ty := .int) dX6_end_16 rfl rfl ⟨⟨_, rfl, by first | trivial | lia | grind⟩, hu, f0⟩
abbrev q_X6_text (u : uk_Mem)  (r : Option Value) (u' : uk_Mem) : Prop := (∃ x : Int32, r = some (.int x) ∧ True) ∧ (iv u' ∧ fr 0 41 u u' ∧ u'.1 2 1 = 0)
set_option maxHeartbeats 4000000 in
set_option maxRecDepth 20000 in
theorem c_X6_text {G : uk_D} (hs : uk_Sep G) {u : uk_Mem} (hu : iv u)  (d : Nat) : uk_Meth G (d + 8) mX6_text [.ref (uk_ad G 0)] u (q_X6_text u) := by
  refine uk_Meth.of hs (by decide) (Nat.le_of_ble_eq_true rfl) (fun X => ?_)
  have f0 : fr 0 41 u u := fr_rf
  refine g_aload_n dX6_text_0 rfl ?_
  refine f_X6_31 rfl rfl dX6_text_1 ?_
  refine cl_X6_91 (c := 1) (As := []) rfl (c_X5_readAll (G := G) hs hu    (d)) rfl (by omega) rfl rfl (Nat.le_of_ble_eq_true rfl) dX6_text_4 (fun r1 u2 q3 => ?_)
  obtain ⟨⟨x4, rfl, tx4⟩, mq3⟩ := q3
  obtain ⟨hu2, gu2, ku20⟩ := mq3
  have fu2 : fr 0 41 u u2 := fr_tr f0 gu2 (by omega) (by omega)
  refine g_istore_n dX6_text_7 (by decide) ?_
  refine g_aload_n dX6_text_8 rfl ?_
  refine f_X6_22 rfl rfl dX6_text_9 ?_
  refine g_iconst (v := 0) dX6_text_12 (by decide) ?_
  refine p_X6_84 rfl rfl dX6_text_13 ?_
  refine g_mem (fun u5 eu5 => ?_)
  have hu5 : iv u5 := by rw [eu5]; exact iv_up hu2 rfl (by first | lia | grind) (by first | lia | grind)
  have fu5 : fr 0 41 u u5 := by rw [eu5]; exact fr_up fu2 (by omega) (by omega)
  have s6 : u5.1 2 1 = 0 := by rw [eu5, uk_up_at]; exact if_pos ⟨rfl, rfl⟩
  refine g_aload_n dX6_text_16 rfl ?_
  refine g_aload_n dX6_text_17 rfl ?_
  refine f_X6_31 rfl rfl dX6_text_18 ?_
  refine f_X6_95 rfl rfl dX6_text_21 ?_
  refine g_topi (fun x7 ex7 => ?_)
  have s8 : u5.1 1 2 = x7 := ex7.symm
  refine p_X6_77 rfl rfl dX6_text_24 ?_
  refine g_mem (fun u9 eu9 => ?_)
  have hu9 : iv u9 := by rw [eu9]; exact iv_upF hu5 rfl
  have fu9 : fr 0 41 u u9 := by rw [eu9]; exact fr_up fu5 (by omega) (by omega)
  have s10 : u9.1 0 13 = x7 := by rw [eu9, uk_up_at]; exact if_pos ⟨rfl, rfl⟩
  refine g_aload_n dX6_text_27 rfl ?_
  refine f_X6_77 rfl rfl dX6_text_28 ?_
  refine g_topi (fun x11 ex11 => ?_)
  have qx11 : x11 = x7 := by rw [ex11]; exact s10
  refine g_if_eq (tgt := 45) dX6_text_31 (by decide) (fun c12 => ?_) (fun c12 => ?_)
  · refine g_aload_n dX6_text_45 rfl ?_
    refine f_X6_10 rfl rfl dX6_text_46 ?_
    refine g_aload_n dX6_text_49 rfl ?_
    refine f_X6_16 rfl rfl dX6_text_50 ?_
    refine cl_X6_101 (c := 13) (As := [.ref (uk_ad G 4)]) rfl (c_X0_copyFrom (G := G) hs hu9 uk_isK13 uk_isK4   (d + 7)) rfl (by omega) rfl rfl (Nat.le_of_ble_eq_true rfl) dX6_text_53 (fun r13 u14 q15 => ?_)
    obtain ⟨rfl, mq15⟩ := q15
    obtain ⟨hu14, gu14⟩ := mq15
    have fu14 : fr 0 41 u u14 := fr_tr fu9 gu14 (by omega) (by omega)
    have wu14_2_1 : u14.1 2 1 = u9.1 2 1 := fr_at gu14 (by omega)
    have s16 : u14.1 2 1 = 0 := (fr_at gu14 (by omega)).trans (by simp [eu9, uk_up_at, s6] : u9.1 2 1 = 0)
    have s17 : u14.1 1 2 = x7 := (fr_at gu14 (by omega)).trans (by simp [eu9, uk_up_at, s8] : u9.1 1 2 = x7)
    have s18 : u14.1 0 13 = x7 := (fr_at gu14 (by omega)).trans s10
    refine g_iconst (v := 0) dX6_text_56 (by decide) ?_
    refine g_istore_n dX6_text_57 (by decide) ?_
    have L58_18 : ∀ i20 : Int32, 0 ≤ i20 → i20 ≤ 2 → ∀ (u21 : uk_Mem), iv u21 → fr 0 41 u u21 → u21.1 2 1 = 0 → uk_G G X mX6_text (d + 8) (q_X6_text u) 58 [(0, .ref (uk_ad G 0)), (1, .int x4), (2, .int i20)] [] u21 := by
      refine uk_upl 2 ?_
      intro i20 ai20 bi20 ihi20  u21 hu21 fu21 ji200
      refine g_iload_n dX6_text_58 rfl ?_
      refine g_iconst (v := 2) dX6_text_59 (by decide) ?_
      refine g_icmp_ge (tgt := 76) dX6_text_60 (by decide) (fun c22 => ?_) (fun c22 => ?_)
      · refine g_iload_n dX6_text_76 rfl ?_
        exact g_iret (ty := .int) dX6_text_77 rfl rfl ⟨⟨_, rfl, by first | trivial | lia | grind⟩, hu21, fu21, (by first | rfl | grind | grind [uk_up_at])⟩
      · refine g_aload_n dX6_text_63 rfl ?_
        refine f_X6_41 rfl rfl dX6_text_64 ?_
        refine g_iload_n dX6_text_67 rfl ?_
        refine g_iconst (v := 0) dX6_text_68 (by decide) ?_
        have v23 : vp_in i20 2 := uk_vin 2 rfl (by first | decide | lia | grind) (by first | decide | lia | grind)
        have b24 := uk_cl v23
        refine g_zast rfl rfl v23 dX6_text_69 ?_
        rw [show vp_nar .boolean 0 = 0 from rfl]
        refine g_mem (fun u25 eu25 => ?_)
        have hu25 : iv u25 := by rw [eu25]; exact iv_up hu21 (uk_pick1 _ (by omega)) (by first | lia | grind) (by first | lia | grind)
        have fu25 : fr 0 41 u u25 := by rw [eu25]; exact fr_up fu21 (by omega) (by omega)
        refine g_iinc (v := i20 + 1) dX6_text_70 rfl rfl (by decide) ?_
        refine g_goto (tgt := 58) dX6_text_73 (by decide) ?_
        refine g_pick (lv' := [(0, .ref (uk_ad G 0)), (1, .int x4), (2, .int (i20 + 1))]) [0, 1, 2] rfl ?_
        exact ihi20 (by first | lia | grind)  u25 hu25 fu25 (by first | trivial | lia | grind | grind [uk_up_at] | (simp [eu25, uk_up_at, ji200]; done) | (simp [eu25, uk_up_at]; grind))
    refine g_pick (lv' := [(0, .ref (uk_ad G 0)), (1, .int x4), (2, .int 0)]) [0, 1, 2] rfl ?_
    exact L58_18 0 (by first | decide | lia | grind) (by first | decide | lia | grind)  u14 hu14 fu14 (by first | trivial | lia | grind | grind [uk_up_at] | (simp [uk_up_at, s16, s17, s18]; done) | (simp [uk_up_at]; grind))
  · refine g_bipush (v := (-10)) dX6_text_34 (by decide) ?_
    refine g_aload_n dX6_text_36 rfl ?_
    refine f_X6_31 rfl rfl dX6_text_37 ?_
    refine f_X6_98 rfl rfl dX6_text_40 ?_
    refine g_topi (fun x26 ex26 => ?_)
    have s27 : u9.1 1 3 = x26 := ex26.symm
    refine g_isub dX6_text_43 ?_
    refine g_topi (fun x28 ex28 => ?_)
    exact g_iret (ty := .int) dX6_text_44 rfl rfl ⟨⟨_, rfl, by first | trivial | lia | grind⟩, hu9, fu9, (by first | rfl | grind | grind [uk_up_at])⟩
abbrev q_X6_fault (u : uk_Mem)  (r : Option Value) (u' : uk_Mem) : Prop := (∃ x : Int32, r = some (.int x) ∧ True) ∧ (u' = u)
set_option maxHeartbeats 4000000 in
set_option maxRecDepth 20000 in
theorem c_X6_fault {G : uk_D} (hs : uk_Sep G) {u : uk_Mem} (hu : iv u)  (d : Nat) : uk_Meth G d mX6_fault [.ref (uk_ad G 0)] u (q_X6_fault u) := by
  refine uk_Meth.of hs (by decide) (Nat.le_of_ble_eq_true rfl) (fun X => ?_)
  refine g_aload_n dX6_fault_0 rfl ?_
  refine f_X6_77 rfl rfl dX6_fault_1 ?_
  refine g_topi (fun x1 ex1 => ?_)
  have s2 : u.1 0 13 = x1 := ex1.symm
  exact g_iret (ty := .int) dX6_fault_4 rfl rfl ⟨⟨_, rfl, by first | trivial | lia | grind⟩, rfl⟩
abbrev q_X6_rule (u : uk_Mem) (w : Int32) (r : Option Value) (u' : uk_Mem) : Prop := (∃ x : Int32, r = some (.int x) ∧ True) ∧ (u' = u)
set_option maxHeartbeats 4000000 in
set_option maxRecDepth 20000 in
theorem c_X6_rule {G : uk_D} (hs : uk_Sep G) {u : uk_Mem} (hu : iv u) (w : Int32) (d : Nat) : uk_Meth G (d + 2) mX6_rule [.ref (uk_ad G 0), .int w] u (q_X6_rule u w) := by
  refine uk_Meth.of hs (by decide) (Nat.le_of_ble_eq_true rfl) (fun X => ?_)
  refine g_iload_n dX6_rule_0 rfl ?_
  by_cases c1 : w = 0
  · refine g_tabIn (off := (35)) (tgt := 36) dX6_rule_1 (by rw [c1]; decide) (by rw [c1]; decide) (by rw [c1]; rfl) (by decide) ?_
    refine g_aload_n dX6_rule_36 rfl ?_
    refine f_X6_10 rfl rfl dX6_rule_37 ?_
    refine f_X6_105 rfl rfl dX6_rule_40 ?_
    refine g_topi (fun x2 ex2 => ?_)
    have rx2 : 0 ≤ x2 ∧ x2 ≤ 8 := by rw [ex2]; exact iv_at hu _ _ rfl
    have s3 : u.1 13 0 = x2 := ex2.symm
    exact g_iret (ty := .int) dX6_rule_43 rfl rfl ⟨⟨_, rfl, by first | trivial | lia | grind⟩, rfl⟩
  by_cases c4 : w = 1
  · refine g_tabIn (off := (43)) (tgt := 44) dX6_rule_1 (by rw [c4]; decide) (by rw [c4]; decide) (by rw [c4]; rfl) (by decide) ?_
    refine g_aload_n dX6_rule_44 rfl ?_
    refine f_X6_10 rfl rfl dX6_rule_45 ?_
    refine f_X6_106 rfl rfl dX6_rule_48 ?_
    refine g_topi (fun x5 ex5 => ?_)
    have s6 : u.1 13 10 = x5 := ex5.symm
    exact g_iret (ty := .int) dX6_rule_51 rfl rfl ⟨⟨_, rfl, by first | trivial | lia | grind⟩, rfl⟩
  by_cases c7 : w = 2
  · refine g_tabIn (off := (51)) (tgt := 52) dX6_rule_1 (by rw [c7]; decide) (by rw [c7]; decide) (by rw [c7]; rfl) (by decide) ?_
    refine g_aload_n dX6_rule_52 rfl ?_
    refine f_X6_10 rfl rfl dX6_rule_53 ?_
    refine f_X6_109 rfl rfl dX6_rule_56 ?_
    refine g_topi (fun x8 ex8 => ?_)
    have s9 : u.1 13 11 = x8 := ex8.symm
    exact g_iret (ty := .int) dX6_rule_59 rfl rfl ⟨⟨_, rfl, by first | trivial | lia | grind⟩, rfl⟩
  by_cases c10 : w = 3
  · refine g_tabIn (off := (59)) (tgt := 60) dX6_rule_1 (by rw [c10]; decide) (by rw [c10]; decide) (by rw [c10]; rfl) (by decide) ?_
    refine g_aload_n dX6_rule_60 rfl ?_
    refine f_X6_10 rfl rfl dX6_rule_61 ?_
    refine cl_X6_112 (c := 13) (As := []) rfl (c_X0_rawBits (G := G) hs hu uk_isK13   (d)) rfl (by omega) rfl rfl (Nat.le_of_ble_eq_true rfl) dX6_rule_64 (fun r11 u12 q13 => ?_)
    obtain ⟨⟨x14, rfl, tx14⟩, mq13⟩ := q13
    rw [mq13]
    exact g_iret (ty := .int) dX6_rule_67 rfl rfl ⟨⟨_, rfl, by first | trivial | lia | grind⟩, rfl⟩
  by_cases c15 : w = 4
  · refine g_tabIn (off := (67)) (tgt := 68) dX6_rule_1 (by rw [c15]; decide) (by rw [c15]; decide) (by rw [c15]; rfl) (by decide) ?_
    refine g_aload_n dX6_rule_68 rfl ?_
    refine f_X6_10 rfl rfl dX6_rule_69 ?_
    refine cl_X6_115 (c := 13) (As := []) rfl (c_X0_thereBits (G := G) hs hu uk_isK13   (d + 1)) rfl (by omega) rfl rfl (Nat.le_of_ble_eq_true rfl) dX6_rule_72 (fun r16 u17 q18 => ?_)
    obtain ⟨⟨x19, rfl, tx19⟩, mq18⟩ := q18
    rw [mq18]
    exact g_iret (ty := .int) dX6_rule_75 rfl rfl ⟨⟨_, rfl, by first | trivial | lia | grind⟩, rfl⟩
  refine g_tabOut (tgt := 76) dX6_rule_1 (uk_swo 0 4 rfl rfl (by first | lia | grind)) (by decide) ?_
  refine g_iconst (v := (-1)) dX6_rule_76 (by decide) ?_
  exact g_iret (ty := .int) dX6_rule_77 rfl rfl ⟨⟨_, rfl, by first | trivial | lia | grind⟩, rfl⟩
abbrev q_X6_stuff (u : uk_Mem) (m : Int32) (w : Int32) (r : Option Value) (u' : uk_Mem) : Prop := (∃ x : Int32, r = some (.int x) ∧ True) ∧ (u' = u)
set_option maxHeartbeats 4000000 in
set_option maxRecDepth 20000 in
theorem c_X6_stuff {G : uk_D} (hs : uk_Sep G) {u : uk_Mem} (hu : iv u) (m : Int32) (w : Int32) (d : Nat) : uk_Meth G (d + 1) mX6_stuff [.ref (uk_ad G 0), .int m, .int w] u (q_X6_stuff u m w) := by
  refine uk_Meth.of hs (by decide) (Nat.le_of_ble_eq_true rfl) (fun X => ?_)
  refine g_aload_n dX6_stuff_0 rfl ?_
  refine f_X6_10 rfl rfl dX6_stuff_1 ?_
  refine g_iload_n dX6_stuff_4 rfl ?_
  refine cl_X6_118 (c := 13) (As := [.int m]) rfl (c_X0_hasStuff (G := G) hs hu uk_isK13 m  (d)) rfl (by omega) rfl rfl (Nat.le_of_ble_eq_true rfl) dX6_stuff_5 (fun r1 u2 q3 => ?_)
  obtain ⟨⟨x4, rfl, tx4, nx4, zx4⟩, mq3⟩ := q3
  rw [mq3]
  refine g_if_ne (tgt := 13) dX6_stuff_8 (by decide) (fun c5 => ?_) (fun c5 => ?_)
  · have zc5 := nx4 c5
    refine g_aload_n dX6_stuff_13 rfl ?_
    refine f_X6_10 rfl rfl dX6_stuff_14 ?_
    refine g_iload_n dX6_stuff_17 rfl ?_
    refine cl_X6_122 (c := 13) (As := [.int m]) rfl (c_X0_isMade (G := G) hs hu uk_isK13 m (by first | trivial | decide | lia | grind) (by first | trivial | decide | lia | grind) (d)) rfl (by omega) rfl rfl (Nat.le_of_ble_eq_true rfl) dX6_stuff_18 (fun r6 u7 q8 => ?_)
    obtain ⟨⟨x9, rfl, tx9, nx9, zx9⟩, mq8⟩ := q8
    rw [mq8]
    refine g_istore_n dX6_stuff_21 (by decide) ?_
    refine g_iload_n dX6_stuff_22 rfl ?_
    by_cases c10 : w = 0
    · refine g_tabIn (off := (41)) (tgt := 64) dX6_stuff_23 (by rw [c10]; decide) (by rw [c10]; decide) (by rw [c10]; rfl) (by decide) ?_
      refine g_aload_n dX6_stuff_64 rfl ?_
      refine f_X6_10 rfl rfl dX6_stuff_65 ?_
      refine f_X6_125 rfl rfl dX6_stuff_68 ?_
      refine g_iload_n dX6_stuff_71 rfl ?_
      have v11 : vp_in m 8 := uk_vin 8 rfl (by first | decide | lia | grind) (by first | decide | lia | grind)
      refine g_iald rfl rfl v11 dX6_stuff_72 ?_
      refine g_topi (fun x12 ex12 => ?_)
      exact g_iret (ty := .int) dX6_stuff_73 rfl rfl ⟨⟨_, rfl, by first | trivial | lia | grind⟩, rfl⟩
    by_cases c13 : w = 1
    · refine g_tabIn (off := (51)) (tgt := 74) dX6_stuff_23 (by rw [c13]; decide) (by rw [c13]; decide) (by rw [c13]; rfl) (by decide) ?_
      refine g_iload_n dX6_stuff_74 rfl ?_
      refine g_if_eq (tgt := 90) dX6_stuff_75 (by decide) (fun c14 => ?_) (fun c14 => ?_)
      · have zc14 := zx9 c14
        refine g_bipush (v := (-4)) dX6_stuff_90 (by decide) ?_
        exact g_iret (ty := .int) dX6_stuff_92 rfl rfl ⟨⟨_, rfl, by first | trivial | lia | grind⟩, rfl⟩
      · have zc14 := nx9 c14
        refine g_aload_n dX6_stuff_78 rfl ?_
        refine f_X6_10 rfl rfl dX6_stuff_79 ?_
        refine f_X6_128 rfl rfl dX6_stuff_82 ?_
        refine g_iload_n dX6_stuff_85 rfl ?_
        have v15 : vp_in m 8 := uk_vin 8 rfl (by first | decide | lia | grind) (by first | decide | lia | grind)
        refine g_iald rfl rfl v15 dX6_stuff_86 ?_
        refine g_topi (fun x16 ex16 => ?_)
        have bx16 := uk_cl v15
        have rx16 : 0 ≤ x16 ∧ x16 ≤ 7 := by rw [ex16]; exact iv_at hu _ _ (uk_pick1 _ (by omega))
        refine g_goto (tgt := 92) dX6_stuff_87 (by decide) ?_
        exact g_iret (ty := .int) dX6_stuff_92 rfl rfl ⟨⟨_, rfl, by first | trivial | lia | grind⟩, rfl⟩
    by_cases c17 : w = 2
    · refine g_tabIn (off := (70)) (tgt := 93) dX6_stuff_23 (by rw [c17]; decide) (by rw [c17]; decide) (by rw [c17]; rfl) (by decide) ?_
      refine g_iload_n dX6_stuff_93 rfl ?_
      refine g_if_eq (tgt := 109) dX6_stuff_94 (by decide) (fun c18 => ?_) (fun c18 => ?_)
      · have zc18 := zx9 c18
        refine g_bipush (v := (-4)) dX6_stuff_109 (by decide) ?_
        exact g_iret (ty := .int) dX6_stuff_111 rfl rfl ⟨⟨_, rfl, by first | trivial | lia | grind⟩, rfl⟩
      · have zc18 := nx9 c18
        refine g_aload_n dX6_stuff_97 rfl ?_
        refine f_X6_10 rfl rfl dX6_stuff_98 ?_
        refine f_X6_131 rfl rfl dX6_stuff_101 ?_
        refine g_iload_n dX6_stuff_104 rfl ?_
        have v19 : vp_in m 8 := uk_vin 8 rfl (by first | decide | lia | grind) (by first | decide | lia | grind)
        refine g_iald rfl rfl v19 dX6_stuff_105 ?_
        refine g_topi (fun x20 ex20 => ?_)
        have bx20 := uk_cl v19
        have rx20 : 0 ≤ x20 ∧ x20 ≤ 7 := by rw [ex20]; exact iv_at hu _ _ (uk_pick1 _ (by omega))
        refine g_goto (tgt := 111) dX6_stuff_106 (by decide) ?_
        exact g_iret (ty := .int) dX6_stuff_111 rfl rfl ⟨⟨_, rfl, by first | trivial | lia | grind⟩, rfl⟩
    by_cases c21 : w = 3
    · refine g_tabIn (off := (89)) (tgt := 112) dX6_stuff_23 (by rw [c21]; decide) (by rw [c21]; decide) (by rw [c21]; rfl) (by decide) ?_
      refine g_aload_n dX6_stuff_112 rfl ?_
      refine f_X6_10 rfl rfl dX6_stuff_113 ?_
      refine f_X6_134 rfl rfl dX6_stuff_116 ?_
      refine g_iload_n dX6_stuff_119 rfl ?_
      have v22 : vp_in m 8 := uk_vin 8 rfl (by first | decide | lia | grind) (by first | decide | lia | grind)
      refine g_iald rfl rfl v22 dX6_stuff_120 ?_
      refine g_topi (fun x23 ex23 => ?_)
      exact g_iret (ty := .int) dX6_stuff_121 rfl rfl ⟨⟨_, rfl, by first | trivial | lia | grind⟩, rfl⟩
    by_cases c24 : w = 4
    · refine g_tabIn (off := (99)) (tgt := 122) dX6_stuff_23 (by rw [c24]; decide) (by rw [c24]; decide) (by rw [c24]; rfl) (by decide) ?_
      refine g_iload_n dX6_stuff_122 rfl ?_
      refine g_if_eq (tgt := 131) dX6_stuff_123 (by decide) (fun c25 => ?_) (fun c25 => ?_)
      · have zc25 := zx9 c25
        refine g_aload_n dX6_stuff_131 rfl ?_
        refine f_X6_10 rfl rfl dX6_stuff_132 ?_
        refine f_X6_137 rfl rfl dX6_stuff_135 ?_
        refine g_iload_n dX6_stuff_138 rfl ?_
        have v26 : vp_in m 8 := uk_vin 8 rfl (by first | decide | lia | grind) (by first | decide | lia | grind)
        refine g_iald rfl rfl v26 dX6_stuff_139 ?_
        refine g_topi (fun x27 ex27 => ?_)
        exact g_iret (ty := .int) dX6_stuff_140 rfl rfl ⟨⟨_, rfl, by first | trivial | lia | grind⟩, rfl⟩
      · have zc25 := nx9 c25
        refine g_bipush (v := (-4)) dX6_stuff_126 (by decide) ?_
        refine g_goto (tgt := 140) dX6_stuff_128 (by decide) ?_
        exact g_iret (ty := .int) dX6_stuff_140 rfl rfl ⟨⟨_, rfl, by first | trivial | lia | grind⟩, rfl⟩
    by_cases c28 : w = 5
    · refine g_tabIn (off := (118)) (tgt := 141) dX6_stuff_23 (by rw [c28]; decide) (by rw [c28]; decide) (by rw [c28]; rfl) (by decide) ?_
      refine g_aload_n dX6_stuff_141 rfl ?_
      refine f_X6_10 rfl rfl dX6_stuff_142 ?_
      refine f_X6_140 rfl rfl dX6_stuff_145 ?_
      refine g_iload_n dX6_stuff_148 rfl ?_
      have v29 : vp_in m 8 := uk_vin 8 rfl (by first | decide | lia | grind) (by first | decide | lia | grind)
      refine g_iald rfl rfl v29 dX6_stuff_149 ?_
      refine g_topi (fun x30 ex30 => ?_)
      exact g_iret (ty := .int) dX6_stuff_150 rfl rfl ⟨⟨_, rfl, by first | trivial | lia | grind⟩, rfl⟩
    by_cases c31 : w = 6
    · refine g_tabIn (off := (128)) (tgt := 151) dX6_stuff_23 (by rw [c31]; decide) (by rw [c31]; decide) (by rw [c31]; rfl) (by decide) ?_
      refine g_aload_n dX6_stuff_151 rfl ?_
      refine f_X6_10 rfl rfl dX6_stuff_152 ?_
      refine f_X6_143 rfl rfl dX6_stuff_155 ?_
      refine g_iload_n dX6_stuff_158 rfl ?_
      have v32 : vp_in m 8 := uk_vin 8 rfl (by first | decide | lia | grind) (by first | decide | lia | grind)
      refine g_iald rfl rfl v32 dX6_stuff_159 ?_
      refine g_topi (fun x33 ex33 => ?_)
      exact g_iret (ty := .int) dX6_stuff_160 rfl rfl ⟨⟨_, rfl, by first | trivial | lia | grind⟩, rfl⟩
    refine g_tabOut (tgt := 161) dX6_stuff_23 (uk_swo 0 6 rfl rfl (by first | lia | grind)) (by decide) ?_
    refine g_iconst (v := (-1)) dX6_stuff_161 (by decide) ?_
    exact g_iret (ty := .int) dX6_stuff_162 rfl rfl ⟨⟨_, rfl, by first | trivial | lia | grind⟩, rfl⟩
  · have zc5 := zx4 c5
    refine g_iconst (v := (-1)) dX6_stuff_11 (by decide) ?_
    exact g_iret (ty := .int) dX6_stuff_12 rfl rfl ⟨⟨_, rfl, by first | trivial | lia | grind⟩, rfl⟩
abbrev q_X6_fill (u : uk_Mem) (m : Int32) (n : Int32) (r : Option Value) (u' : uk_Mem) : Prop := (∃ x : Int32, r = some (.int x) ∧ True) ∧ (iv u' ∧ fr 13 22 u u')
set_option maxHeartbeats 4000000 in
set_option maxRecDepth 20000 in
theorem c_X6_fill {G : uk_D} (hs : uk_Sep G) {u : uk_Mem} (hu : iv u) (m : Int32) (n : Int32) (d : Nat) : uk_Meth G (d + 1) mX6_fill [.ref (uk_ad G 0), .int m, .int n] u (q_X6_fill u m n) := by
  refine uk_Meth.of hs (by decide) (Nat.le_of_ble_eq_true rfl) (fun X => ?_)
  have f0 : fr 13 22 u u := fr_rf
  refine g_aload_n dX6_fill_0 rfl ?_
  refine f_X6_10 rfl rfl dX6_fill_1 ?_
  refine g_iload_n dX6_fill_4 rfl ?_
  refine cl_X6_118 (c := 13) (As := [.int m]) rfl (c_X0_hasStuff (G := G) hs hu uk_isK13 m  (d)) rfl (by omega) rfl rfl (Nat.le_of_ble_eq_true rfl) dX6_fill_5 (fun r1 u2 q3 => ?_)
  obtain ⟨⟨x4, rfl, tx4, nx4, zx4⟩, mq3⟩ := q3
  rw [mq3]
  refine g_if_eq (tgt := 21) dX6_fill_8 (by decide) (fun c5 => ?_) (fun c5 => ?_)
  · have zc5 := zx4 c5
    refine g_iconst (v := (-1)) dX6_fill_21 (by decide) ?_
    exact g_iret (ty := .int) dX6_fill_22 rfl rfl ⟨⟨_, rfl, by first | trivial | lia | grind⟩, hu, f0⟩
  · have zc5 := nx4 c5
    refine g_iload_n dX6_fill_11 rfl ?_
    refine g_if_lt (tgt := 21) dX6_fill_12 (by decide) (fun c6 => ?_) (fun c6 => ?_)
    · refine g_iconst (v := (-1)) dX6_fill_21 (by decide) ?_
      exact g_iret (ty := .int) dX6_fill_22 rfl rfl ⟨⟨_, rfl, by first | trivial | lia | grind⟩, hu, f0⟩
    · refine g_iload_n dX6_fill_15 rfl ?_
      refine g_bipush (v := 40) dX6_fill_16 (by decide) ?_
      refine g_icmp_le (tgt := 23) dX6_fill_18 (by decide) (fun c7 => ?_) (fun c7 => ?_)
      · refine g_aload_n dX6_fill_23 rfl ?_
        refine f_X6_10 rfl rfl dX6_fill_24 ?_
        refine f_X6_143 rfl rfl dX6_fill_27 ?_
        refine g_iload_n dX6_fill_30 rfl ?_
        have v8 : vp_in m 8 := uk_vin 8 rfl (by first | decide | lia | grind) (by first | decide | lia | grind)
        refine g_iald rfl rfl v8 dX6_fill_31 ?_
        refine g_topi (fun x9 ex9 => ?_)
        refine g_istore_n dX6_fill_32 (by decide) ?_
        refine g_aload_n dX6_fill_33 rfl ?_
        refine f_X6_10 rfl rfl dX6_fill_34 ?_
        refine f_X6_143 rfl rfl dX6_fill_37 ?_
        refine g_iload_n dX6_fill_40 rfl ?_
        refine g_iload_n dX6_fill_41 rfl ?_
        have v10 : vp_in m 8 := uk_vin 8 rfl (by first | decide | lia | grind) (by first | decide | lia | grind)
        have b11 := uk_cl v10
        refine g_iast rfl rfl v10 dX6_fill_42 ?_
        refine g_mem (fun u12 eu12 => ?_)
        have hu12 : iv u12 := by rw [eu12]; exact iv_upF hu (uk_pick1 _ (by omega))
        have fu12 : fr 13 22 u u12 := by rw [eu12]; exact fr_up f0 (by omega) (by omega)
        refine g_iload_n dX6_fill_43 rfl ?_
        exact g_iret (ty := .int) dX6_fill_44 rfl rfl ⟨⟨_, rfl, by first | trivial | lia | grind⟩, hu12, fu12⟩
      · refine g_iconst (v := (-1)) dX6_fill_21 (by decide) ?_
        exact g_iret (ty := .int) dX6_fill_22 rfl rfl ⟨⟨_, rfl, by first | trivial | lia | grind⟩, hu, f0⟩
abbrev q_X6_feeds (u : uk_Mem) (m : Int32) (v : Int32) (r : Option Value) (u' : uk_Mem) : Prop := (∃ x : Int32, r = some (.int x) ∧ True) ∧ (iv u' ∧ fr 13 22 u u')
set_option maxHeartbeats 4000000 in
set_option maxRecDepth 20000 in
theorem c_X6_feeds {G : uk_D} (hs : uk_Sep G) {u : uk_Mem} (hu : iv u) (m : Int32) (v : Int32) (d : Nat) : uk_Meth G (d + 1) mX6_feeds [.ref (uk_ad G 0), .int m, .int v] u (q_X6_feeds u m v) := by
  refine uk_Meth.of hs (by decide) (Nat.le_of_ble_eq_true rfl) (fun X => ?_)
  have f0 : fr 13 22 u u := fr_rf
  refine g_aload_n dX6_feeds_0 rfl ?_
  refine f_X6_10 rfl rfl dX6_feeds_1 ?_
  refine g_iload_n dX6_feeds_4 rfl ?_
  refine cl_X6_118 (c := 13) (As := [.int m]) rfl (c_X0_hasStuff (G := G) hs hu uk_isK13 m  (d)) rfl (by omega) rfl rfl (Nat.le_of_ble_eq_true rfl) dX6_feeds_5 (fun r1 u2 q3 => ?_)
  obtain ⟨⟨x4, rfl, tx4, nx4, zx4⟩, mq3⟩ := q3
  rw [mq3]
  refine g_if_eq (tgt := 18) dX6_feeds_8 (by decide) (fun c5 => ?_) (fun c5 => ?_)
  · have zc5 := zx4 c5
    refine g_iconst (v := (-1)) dX6_feeds_18 (by decide) ?_
    exact g_iret (ty := .int) dX6_feeds_19 rfl rfl ⟨⟨_, rfl, by first | trivial | lia | grind⟩, hu, f0⟩
  · have zc5 := nx4 c5
    refine g_iload_n dX6_feeds_11 rfl ?_
    refine cl_X6_146 (As := [.int v]) rfl (c_X6_isDigit (G := G) hs hu  v  (d)) rfl (by omega) rfl (Nat.le_of_ble_eq_true rfl) dX6_feeds_12 (fun r6 u7 q8 => ?_)
    obtain ⟨⟨x9, rfl, tx9, nx9, zx9⟩, mq8⟩ := q8
    rw [mq8]
    refine g_if_ne (tgt := 20) dX6_feeds_15 (by decide) (fun c10 => ?_) (fun c10 => ?_)
    · have zc10 := nx9 c10
      refine g_aload_n dX6_feeds_20 rfl ?_
      refine f_X6_10 rfl rfl dX6_feeds_21 ?_
      refine f_X6_134 rfl rfl dX6_feeds_24 ?_
      refine g_iload_n dX6_feeds_27 rfl ?_
      have v11 : vp_in m 8 := uk_vin 8 rfl (by first | decide | lia | grind) (by first | decide | lia | grind)
      refine g_iald rfl rfl v11 dX6_feeds_28 ?_
      refine g_topi (fun x12 ex12 => ?_)
      refine g_istore_n dX6_feeds_29 (by decide) ?_
      refine g_aload_n dX6_feeds_30 rfl ?_
      refine f_X6_10 rfl rfl dX6_feeds_31 ?_
      refine f_X6_134 rfl rfl dX6_feeds_34 ?_
      refine g_iload_n dX6_feeds_37 rfl ?_
      refine g_iload_n dX6_feeds_38 rfl ?_
      have v13 : vp_in m 8 := uk_vin 8 rfl (by first | decide | lia | grind) (by first | decide | lia | grind)
      have b14 := uk_cl v13
      refine g_iast rfl rfl v13 dX6_feeds_39 ?_
      refine g_mem (fun u15 eu15 => ?_)
      have hu15 : iv u15 := by rw [eu15]; exact iv_upF hu (uk_pick1 _ (by omega))
      have fu15 : fr 13 22 u u15 := by rw [eu15]; exact fr_up f0 (by omega) (by omega)
      refine g_iload_n dX6_feeds_40 rfl ?_
      exact g_iret (ty := .int) dX6_feeds_41 rfl rfl ⟨⟨_, rfl, by first | trivial | lia | grind⟩, hu15, fu15⟩
    · have zc10 := zx9 c10
      refine g_iconst (v := (-1)) dX6_feeds_18 (by decide) ?_
      exact g_iret (ty := .int) dX6_feeds_19 rfl rfl ⟨⟨_, rfl, by first | trivial | lia | grind⟩, hu, f0⟩
abbrev q_X6_price (u : uk_Mem) (m : Int32) (v : Int32) (r : Option Value) (u' : uk_Mem) : Prop := (∃ x : Int32, r = some (.int x) ∧ True) ∧ (iv u' ∧ fr 13 22 u u')
set_option maxHeartbeats 4000000 in
set_option maxRecDepth 20000 in
theorem c_X6_price {G : uk_D} (hs : uk_Sep G) {u : uk_Mem} (hu : iv u) (m : Int32) (v : Int32) (d : Nat) : uk_Meth G (d + 1) mX6_price [.ref (uk_ad G 0), .int m, .int v] u (q_X6_price u m v) := by
  refine uk_Meth.of hs (by decide) (Nat.le_of_ble_eq_true rfl) (fun X => ?_)
  have f0 : fr 13 22 u u := fr_rf
  refine g_aload_n dX6_price_0 rfl ?_
  refine f_X6_10 rfl rfl dX6_price_1 ?_
  refine g_iload_n dX6_price_4 rfl ?_
  refine cl_X6_118 (c := 13) (As := [.int m]) rfl (c_X0_hasStuff (G := G) hs hu uk_isK13 m  (d)) rfl (by omega) rfl rfl (Nat.le_of_ble_eq_true rfl) dX6_price_5 (fun r1 u2 q3 => ?_)
  obtain ⟨⟨x4, rfl, tx4, nx4, zx4⟩, mq3⟩ := q3
  rw [mq3]
  refine g_if_eq (tgt := 18) dX6_price_8 (by decide) (fun c5 => ?_) (fun c5 => ?_)
  · have zc5 := zx4 c5
    refine g_iconst (v := (-1)) dX6_price_18 (by decide) ?_
    exact g_iret (ty := .int) dX6_price_19 rfl rfl ⟨⟨_, rfl, by first | trivial | lia | grind⟩, hu, f0⟩
  · have zc5 := nx4 c5
    refine g_iload_n dX6_price_11 rfl ?_
    refine cl_X6_146 (As := [.int v]) rfl (c_X6_isDigit (G := G) hs hu  v  (d)) rfl (by omega) rfl (Nat.le_of_ble_eq_true rfl) dX6_price_12 (fun r6 u7 q8 => ?_)
    obtain ⟨⟨x9, rfl, tx9, nx9, zx9⟩, mq8⟩ := q8
    rw [mq8]
    refine g_if_ne (tgt := 20) dX6_price_15 (by decide) (fun c10 => ?_) (fun c10 => ?_)
    · have zc10 := nx9 c10
      refine g_aload_n dX6_price_20 rfl ?_
      refine f_X6_10 rfl rfl dX6_price_21 ?_
      refine g_iload_n dX6_price_24 rfl ?_
      refine cl_X6_122 (c := 13) (As := [.int m]) rfl (c_X0_isMade (G := G) hs hu uk_isK13 m (by first | trivial | decide | lia | grind) (by first | trivial | decide | lia | grind) (d)) rfl (by omega) rfl rfl (Nat.le_of_ble_eq_true rfl) dX6_price_25 (fun r11 u12 q13 => ?_)
      obtain ⟨⟨x14, rfl, tx14, nx14, zx14⟩, mq13⟩ := q13
      rw [mq13]
      refine g_if_eq (tgt := 34) dX6_price_28 (by decide) (fun c15 => ?_) (fun c15 => ?_)
      · have zc15 := zx14 c15
        refine g_aload_n dX6_price_34 rfl ?_
        refine f_X6_10 rfl rfl dX6_price_35 ?_
        refine f_X6_137 rfl rfl dX6_price_38 ?_
        refine g_iload_n dX6_price_41 rfl ?_
        have v16 : vp_in m 8 := uk_vin 8 rfl (by first | decide | lia | grind) (by first | decide | lia | grind)
        refine g_iald rfl rfl v16 dX6_price_42 ?_
        refine g_topi (fun x17 ex17 => ?_)
        refine g_istore_n dX6_price_43 (by decide) ?_
        refine g_aload_n dX6_price_44 rfl ?_
        refine f_X6_10 rfl rfl dX6_price_45 ?_
        refine f_X6_137 rfl rfl dX6_price_48 ?_
        refine g_iload_n dX6_price_51 rfl ?_
        refine g_iload_n dX6_price_52 rfl ?_
        have v18 : vp_in m 8 := uk_vin 8 rfl (by first | decide | lia | grind) (by first | decide | lia | grind)
        have b19 := uk_cl v18
        refine g_iast rfl rfl v18 dX6_price_53 ?_
        refine g_mem (fun u20 eu20 => ?_)
        have hu20 : iv u20 := by rw [eu20]; exact iv_upF hu (uk_pick1 _ (by omega))
        have fu20 : fr 13 22 u u20 := by rw [eu20]; exact fr_up f0 (by omega) (by omega)
        refine g_iload_n dX6_price_54 rfl ?_
        exact g_iret (ty := .int) dX6_price_55 rfl rfl ⟨⟨_, rfl, by first | trivial | lia | grind⟩, hu20, fu20⟩
      · have zc15 := nx14 c15
        refine g_bipush (v := (-2)) dX6_price_31 (by decide) ?_
        exact g_iret (ty := .int) dX6_price_33 rfl rfl ⟨⟨_, rfl, by first | trivial | lia | grind⟩, hu, f0⟩
    · have zc10 := zx9 c10
      refine g_iconst (v := (-1)) dX6_price_18 (by decide) ?_
      exact g_iret (ty := .int) dX6_price_19 rfl rfl ⟨⟨_, rfl, by first | trivial | lia | grind⟩, hu, f0⟩
abbrev q_X6_kind (u : uk_Mem) (m : Int32) (k : Int32) (r : Option Value) (u' : uk_Mem) : Prop := (∃ x : Int32, r = some (.int x) ∧ True) ∧ (iv u' ∧ fr 13 22 u u')
set_option maxHeartbeats 4000000 in
set_option maxRecDepth 20000 in
theorem c_X6_kind {G : uk_D} (hs : uk_Sep G) {u : uk_Mem} (hu : iv u) (m : Int32) (k : Int32) (d : Nat) : uk_Meth G (d + 1) mX6_kind [.ref (uk_ad G 0), .int m, .int k] u (q_X6_kind u m k) := by
  refine uk_Meth.of hs (by decide) (Nat.le_of_ble_eq_true rfl) (fun X => ?_)
  have f0 : fr 13 22 u u := fr_rf
  refine g_aload_n dX6_kind_0 rfl ?_
  refine f_X6_10 rfl rfl dX6_kind_1 ?_
  refine g_iload_n dX6_kind_4 rfl ?_
  refine cl_X6_118 (c := 13) (As := [.int m]) rfl (c_X0_hasStuff (G := G) hs hu uk_isK13 m  (d)) rfl (by omega) rfl rfl (Nat.le_of_ble_eq_true rfl) dX6_kind_5 (fun r1 u2 q3 => ?_)
  obtain ⟨⟨x4, rfl, tx4, nx4, zx4⟩, mq3⟩ := q3
  rw [mq3]
  refine g_if_eq (tgt := 20) dX6_kind_8 (by decide) (fun c5 => ?_) (fun c5 => ?_)
  · have zc5 := zx4 c5
    refine g_iconst (v := (-1)) dX6_kind_20 (by decide) ?_
    exact g_iret (ty := .int) dX6_kind_21 rfl rfl ⟨⟨_, rfl, by first | trivial | lia | grind⟩, hu, f0⟩
  · have zc5 := nx4 c5
    refine g_iload_n dX6_kind_11 rfl ?_
    refine g_if_lt (tgt := 20) dX6_kind_12 (by decide) (fun c6 => ?_) (fun c6 => ?_)
    · refine g_iconst (v := (-1)) dX6_kind_20 (by decide) ?_
      exact g_iret (ty := .int) dX6_kind_21 rfl rfl ⟨⟨_, rfl, by first | trivial | lia | grind⟩, hu, f0⟩
    · refine g_iload_n dX6_kind_15 rfl ?_
      refine g_iconst (v := 3) dX6_kind_16 (by decide) ?_
      refine g_icmp_le (tgt := 22) dX6_kind_17 (by decide) (fun c7 => ?_) (fun c7 => ?_)
      · refine g_aload_n dX6_kind_22 rfl ?_
        refine f_X6_10 rfl rfl dX6_kind_23 ?_
        refine g_iload_n dX6_kind_26 rfl ?_
        refine cl_X6_122 (c := 13) (As := [.int m]) rfl (c_X0_isMade (G := G) hs hu uk_isK13 m (by first | trivial | decide | lia | grind) (by first | trivial | decide | lia | grind) (d)) rfl (by omega) rfl rfl (Nat.le_of_ble_eq_true rfl) dX6_kind_27 (fun r8 u9 q10 => ?_)
        obtain ⟨⟨x11, rfl, tx11, nx11, zx11⟩, mq10⟩ := q10
        rw [mq10]
        refine g_if_ne (tgt := 36) dX6_kind_30 (by decide) (fun c12 => ?_) (fun c12 => ?_)
        · have zc12 := nx11 c12
          refine g_aload_n dX6_kind_36 rfl ?_
          refine f_X6_10 rfl rfl dX6_kind_37 ?_
          refine f_X6_125 rfl rfl dX6_kind_40 ?_
          refine g_iload_n dX6_kind_43 rfl ?_
          have v13 : vp_in m 8 := uk_vin 8 rfl (by first | decide | lia | grind) (by first | decide | lia | grind)
          refine g_iald rfl rfl v13 dX6_kind_44 ?_
          refine g_topi (fun x14 ex14 => ?_)
          refine g_istore_n dX6_kind_45 (by decide) ?_
          refine g_aload_n dX6_kind_46 rfl ?_
          refine f_X6_10 rfl rfl dX6_kind_47 ?_
          refine f_X6_125 rfl rfl dX6_kind_50 ?_
          refine g_iload_n dX6_kind_53 rfl ?_
          refine g_iload_n dX6_kind_54 rfl ?_
          have v15 : vp_in m 8 := uk_vin 8 rfl (by first | decide | lia | grind) (by first | decide | lia | grind)
          have b16 := uk_cl v15
          refine g_iast rfl rfl v15 dX6_kind_55 ?_
          refine g_mem (fun u17 eu17 => ?_)
          have hu17 : iv u17 := by rw [eu17]; exact iv_upF hu (uk_pick1 _ (by omega))
          have fu17 : fr 13 22 u u17 := by rw [eu17]; exact fr_up f0 (by omega) (by omega)
          refine g_iload_n dX6_kind_56 rfl ?_
          exact g_iret (ty := .int) dX6_kind_57 rfl rfl ⟨⟨_, rfl, by first | trivial | lia | grind⟩, hu17, fu17⟩
        · have zc12 := zx11 c12
          refine g_bipush (v := (-2)) dX6_kind_33 (by decide) ?_
          exact g_iret (ty := .int) dX6_kind_35 rfl rfl ⟨⟨_, rfl, by first | trivial | lia | grind⟩, hu, f0⟩
      · refine g_iconst (v := (-1)) dX6_kind_20 (by decide) ?_
        exact g_iret (ty := .int) dX6_kind_21 rfl rfl ⟨⟨_, rfl, by first | trivial | lia | grind⟩, hu, f0⟩
abbrev q_X6_does (u : uk_Mem) (g : Int32) (r : Option Value) (u' : uk_Mem) : Prop := (∃ x : Int32, r = some (.int x) ∧ True) ∧ (iv u' ∧ fr 13 22 u u')
set_option maxHeartbeats 4000000 in
set_option maxRecDepth 20000 in
theorem c_X6_does {G : uk_D} (hs : uk_Sep G) {u : uk_Mem} (hu : iv u) (g : Int32) (d : Nat) : uk_Meth G (d + 3) mX6_does [.ref (uk_ad G 0), .int g] u (q_X6_does u g) := by
  refine uk_Meth.of hs (by decide) (Nat.le_of_ble_eq_true rfl) (fun X => ?_)
  have f0 : fr 13 22 u u := fr_rf
  refine g_aload_n dX6_does_0 rfl ?_
  refine f_X6_10 rfl rfl dX6_does_1 ?_
  refine g_iload_n dX6_does_4 rfl ?_
  refine cl_X6_149 (c := 13) (As := [.int g]) rfl (c_X0_hasDoing (G := G) hs hu uk_isK13 g  (d + 1)) rfl (by omega) rfl rfl (Nat.le_of_ble_eq_true rfl) dX6_does_5 (fun r1 u2 q3 => ?_)
  obtain ⟨⟨x4, rfl, tx4, nx4, zx4⟩, mq3⟩ := q3
  rw [mq3]
  refine g_if_ne (tgt := 13) dX6_does_8 (by decide) (fun c5 => ?_) (fun c5 => ?_)
  · have zc5 := nx4 c5
    refine g_aload_n dX6_does_13 rfl ?_
    refine f_X6_10 rfl rfl dX6_does_14 ?_
    refine g_iload_n dX6_does_17 rfl ?_
    refine cl_X6_152 (c := 13) (As := [.int g]) rfl (c_X0_isAble (G := G) hs hu uk_isK13 g  (d)) rfl (by omega) rfl rfl (Nat.le_of_ble_eq_true rfl) dX6_does_18 (fun r6 u7 q8 => ?_)
    obtain ⟨⟨x9, rfl, tx9, nx9, zx9⟩, mq8⟩ := q8
    rw [mq8]
    refine g_if_ne (tgt := 27) dX6_does_21 (by decide) (fun c10 => ?_) (fun c10 => ?_)
    · have zc10 := nx9 c10
      refine g_aload_n dX6_does_27 rfl ?_
      refine f_X6_10 rfl rfl dX6_does_28 ?_
      refine g_iload_n dX6_does_31 rfl ?_
      refine cl_X6_155 (c := 13) (As := [.int g]) rfl (c_X0_perform (G := G) hs hu uk_isK13 g (by first | trivial | decide | lia | grind) (d)) rfl (by omega) rfl rfl (Nat.le_of_ble_eq_true rfl) dX6_does_32 (fun r11 u12 q13 => ?_)
      obtain ⟨rfl, mq13⟩ := q13
      obtain ⟨hu12, gu12⟩ := mq13
      have fu12 : fr 13 22 u u12 := fr_tr f0 gu12 (by omega) (by omega)
      refine g_aload_n dX6_does_35 rfl ?_
      refine f_X6_10 rfl rfl dX6_does_36 ?_
      refine f_X6_143 rfl rfl dX6_does_39 ?_
      refine g_iload_n dX6_does_42 rfl ?_
      refine cl_X6_158 (As := [.int g]) rfl (c_X6_stuffOf (G := G) hs hu12  g  (d + 2)) rfl (by omega) rfl (Nat.le_of_ble_eq_true rfl) dX6_does_43 (fun r14 u15 q16 => ?_)
      obtain ⟨⟨x17, rfl, tx17⟩, mq16⟩ := q16
      rw [mq16]
      have v18 : vp_in x17 8 := uk_vin 8 rfl (by first | decide | lia | grind) (by first | decide | lia | grind)
      refine g_iald rfl rfl v18 dX6_does_46 ?_
      refine g_topi (fun x19 ex19 => ?_)
      exact g_iret (ty := .int) dX6_does_47 rfl rfl ⟨⟨_, rfl, by first | trivial | lia | grind⟩, hu12, fu12⟩
    · have zc10 := zx9 c10
      refine g_bipush (v := (-2)) dX6_does_24 (by decide) ?_
      exact g_iret (ty := .int) dX6_does_26 rfl rfl ⟨⟨_, rfl, by first | trivial | lia | grind⟩, hu, f0⟩
  · have zc5 := zx4 c5
    refine g_iconst (v := (-1)) dX6_does_11 (by decide) ?_
    exact g_iret (ty := .int) dX6_does_12 rfl rfl ⟨⟨_, rfl, by first | trivial | lia | grind⟩, hu, f0⟩
abbrev q_X6_eat (u : uk_Mem) (m : Int32) (r : Option Value) (u' : uk_Mem) : Prop := (∃ x : Int32, r = some (.int x) ∧ True) ∧ (iv u' ∧ fr 13 22 u u')
set_option maxHeartbeats 4000000 in
set_option maxRecDepth 20000 in
theorem c_X6_eat {G : uk_D} (hs : uk_Sep G) {u : uk_Mem} (hu : iv u) (m : Int32) (d : Nat) : uk_Meth G (d + 1) mX6_eat [.ref (uk_ad G 0), .int m] u (q_X6_eat u m) := by
  refine uk_Meth.of hs (by decide) (Nat.le_of_ble_eq_true rfl) (fun X => ?_)
  have f0 : fr 13 22 u u := fr_rf
  refine g_aload_n dX6_eat_0 rfl ?_
  refine f_X6_10 rfl rfl dX6_eat_1 ?_
  refine g_iload_n dX6_eat_4 rfl ?_
  refine cl_X6_118 (c := 13) (As := [.int m]) rfl (c_X0_hasStuff (G := G) hs hu uk_isK13 m  (d)) rfl (by omega) rfl rfl (Nat.le_of_ble_eq_true rfl) dX6_eat_5 (fun r1 u2 q3 => ?_)
  obtain ⟨⟨x4, rfl, tx4, nx4, zx4⟩, mq3⟩ := q3
  rw [mq3]
  refine g_if_ne (tgt := 13) dX6_eat_8 (by decide) (fun c5 => ?_) (fun c5 => ?_)
  · have zc5 := nx4 c5
    refine g_aload_n dX6_eat_13 rfl ?_
    refine f_X6_10 rfl rfl dX6_eat_14 ?_
    refine f_X6_143 rfl rfl dX6_eat_17 ?_
    refine g_iload_n dX6_eat_20 rfl ?_
    have v6 : vp_in m 8 := uk_vin 8 rfl (by first | decide | lia | grind) (by first | decide | lia | grind)
    refine g_iald rfl rfl v6 dX6_eat_21 ?_
    refine g_topi (fun x7 ex7 => ?_)
    refine g_if_ne (tgt := 28) dX6_eat_22 (by decide) (fun c8 => ?_) (fun c8 => ?_)
    · refine g_aload_n dX6_eat_28 rfl ?_
      refine f_X6_10 rfl rfl dX6_eat_29 ?_
      refine f_X6_143 rfl rfl dX6_eat_32 ?_
      refine g_iload_n dX6_eat_35 rfl ?_
      refine g_dup2 dX6_eat_36 rfl rfl ?_
      have v9 : vp_in m 8 := uk_vin 8 rfl (by first | decide | lia | grind) (by first | decide | lia | grind)
      refine g_iald rfl rfl v9 dX6_eat_37 ?_
      refine g_topi (fun x10 ex10 => ?_)
      refine g_iconst (v := 1) dX6_eat_38 (by decide) ?_
      refine g_isub dX6_eat_39 ?_
      refine g_topi (fun x11 ex11 => ?_)
      have v12 : vp_in m 8 := uk_vin 8 rfl (by first | decide | lia | grind) (by first | decide | lia | grind)
      have b13 := uk_cl v12
      refine g_iast rfl rfl v12 dX6_eat_40 ?_
      refine g_mem (fun u14 eu14 => ?_)
      have hu14 : iv u14 := by rw [eu14]; exact iv_upF hu (uk_pick1 _ (by omega))
      have fu14 : fr 13 22 u u14 := by rw [eu14]; exact fr_up f0 (by omega) (by omega)
      refine g_aload_n dX6_eat_41 rfl ?_
      refine f_X6_10 rfl rfl dX6_eat_42 ?_
      refine g_dup dX6_eat_45 rfl ?_
      refine f_X6_106 rfl rfl dX6_eat_46 ?_
      refine g_topi (fun x15 ex15 => ?_)
      have s16 : u14.1 13 10 = x15 := ex15.symm
      refine g_aload_n dX6_eat_49 rfl ?_
      refine f_X6_10 rfl rfl dX6_eat_50 ?_
      refine f_X6_134 rfl rfl dX6_eat_53 ?_
      refine g_iload_n dX6_eat_56 rfl ?_
      have v17 : vp_in m 8 := uk_vin 8 rfl (by first | decide | lia | grind) (by first | decide | lia | grind)
      refine g_iald rfl rfl v17 dX6_eat_57 ?_
      refine g_topi (fun x18 ex18 => ?_)
      refine g_iadd dX6_eat_58 ?_
      refine g_topi (fun x19 ex19 => ?_)
      refine p_X6_106 rfl rfl dX6_eat_59 ?_
      refine g_mem (fun u20 eu20 => ?_)
      have hu20 : iv u20 := by rw [eu20]; exact iv_upF hu14 rfl
      have fu20 : fr 13 22 u u20 := by rw [eu20]; exact fr_up fu14 (by omega) (by omega)
      have s21 : u20.1 13 10 = x19 := by rw [eu20, uk_up_at]; exact if_pos ⟨rfl, rfl⟩
      refine g_aload_n dX6_eat_62 rfl ?_
      refine f_X6_10 rfl rfl dX6_eat_63 ?_
      refine f_X6_106 rfl rfl dX6_eat_66 ?_
      refine g_topi (fun x22 ex22 => ?_)
      have qx22 : x22 = x19 := by rw [ex22]; exact s21
      exact g_iret (ty := .int) dX6_eat_69 rfl rfl ⟨⟨_, rfl, by first | trivial | lia | grind⟩, hu20, fu20⟩
    · refine g_bipush (v := (-2)) dX6_eat_25 (by decide) ?_
      exact g_iret (ty := .int) dX6_eat_27 rfl rfl ⟨⟨_, rfl, by first | trivial | lia | grind⟩, hu, f0⟩
  · have zc5 := zx4 c5
    refine g_iconst (v := (-1)) dX6_eat_11 (by decide) ?_
    exact g_iret (ty := .int) dX6_eat_12 rfl rfl ⟨⟨_, rfl, by first | trivial | lia | grind⟩, hu, f0⟩
abbrev q_X6_can (u : uk_Mem) (w : Int32) (r : Option Value) (u' : uk_Mem) : Prop := (∃ x : Int32, r = some (.int x) ∧ True) ∧ (u' = u)
set_option maxHeartbeats 4000000 in
set_option maxRecDepth 20000 in
theorem c_X6_can {G : uk_D} (hs : uk_Sep G) {u : uk_Mem} (hu : iv u) (w : Int32) (d : Nat) : uk_Meth G (d + 3) mX6_can [.ref (uk_ad G 0), .int w] u (q_X6_can u w) := by
  refine uk_Meth.of hs (by decide) (Nat.le_of_ble_eq_true rfl) (fun X => ?_)
  refine g_iload_n dX6_can_0 rfl ?_
  refine cl_X6_162 (As := [.int w]) rfl (c_X6_isFlag (G := G) hs hu  w  (d + 2)) rfl (by omega) rfl (Nat.le_of_ble_eq_true rfl) dX6_can_1 (fun r1 u2 q3 => ?_)
  obtain ⟨⟨x4, rfl, tx4, nx4, zx4⟩, mq3⟩ := q3
  rw [mq3]
  refine g_if_ne (tgt := 9) dX6_can_4 (by decide) (fun c5 => ?_) (fun c5 => ?_)
  · have zc5 := nx4 c5
    refine g_iconst (v := 0) dX6_can_9 (by decide) ?_
    refine g_istore_n dX6_can_10 (by decide) ?_
    refine g_iconst (v := 0) dX6_can_11 (by decide) ?_
    refine g_istore_n dX6_can_12 (by decide) ?_
    have L13_5 : ∀ i8 : Int32, 0 ≤ i8 → i8 ≤ 8 → ∀ (w7 : Int32), uk_G G X mX6_can (d + 3) (q_X6_can u w) 13 [(0, .ref (uk_ad G 0)), (1, .int w), (2, .int w7), (3, .int i8)] [] u := by
      refine uk_upl 8 ?_
      intro i8 ai8 bi8 ihi8 w7
      refine g_iload_n dX6_can_13 rfl ?_
      refine g_aload_n dX6_can_14 rfl ?_
      refine f_X6_10 rfl rfl dX6_can_15 ?_
      refine f_X6_105 rfl rfl dX6_can_18 ?_
      refine g_topi (fun x9 ex9 => ?_)
      have rx9 : 0 ≤ x9 ∧ x9 ≤ 8 := by rw [ex9]; exact iv_at hu _ _ rfl
      have s10 : u.1 13 0 = x9 := ex9.symm
      refine g_icmp_ge (tgt := 52) dX6_can_21 (by decide) (fun c11 => ?_) (fun c11 => ?_)
      · refine g_iload_n dX6_can_52 rfl ?_
        exact g_iret (ty := .int) dX6_can_53 rfl rfl ⟨⟨_, rfl, by first | trivial | lia | grind⟩, rfl⟩
      · refine g_aload_n dX6_can_24 rfl ?_
        refine f_X6_10 rfl rfl dX6_can_25 ?_
        refine g_iload_n dX6_can_28 rfl ?_
        refine g_bipush (v := 10) dX6_can_29 (by decide) ?_
        refine g_imul dX6_can_31 ?_
        refine g_topi (fun x12 ex12 => ?_)
        refine g_iload_n dX6_can_32 rfl ?_
        refine g_iadd dX6_can_33 ?_
        refine g_topi (fun x13 ex13 => ?_)
        refine cl_X6_152 (c := 13) (As := [.int x13]) rfl (c_X0_isAble (G := G) hs hu uk_isK13 x13  (d)) rfl (by omega) rfl rfl (Nat.le_of_ble_eq_true rfl) dX6_can_34 (fun r14 u15 q16 => ?_)
        obtain ⟨⟨x17, rfl, tx17, nx17, zx17⟩, mq16⟩ := q16
        rw [mq16]
        refine g_if_eq (tgt := 46) dX6_can_37 (by decide) (fun c18 => ?_) (fun c18 => ?_)
        · have zc18 := zx17 c18
          refine g_iinc (v := i8 + 1) dX6_can_46 rfl rfl (by decide) ?_
          refine g_goto (tgt := 13) dX6_can_49 (by decide) ?_
          refine g_pick (lv' := [(0, .ref (uk_ad G 0)), (1, .int w), (2, .int w7), (3, .int (i8 + 1))]) [0, 1, 2, 3] rfl ?_
          exact ihi8 (by first | lia | grind) w7 
        · have zc18 := nx17 c18
          refine g_iload_n dX6_can_40 rfl ?_
          refine g_iconst (v := 1) dX6_can_41 (by decide) ?_
          refine g_iload_n dX6_can_42 rfl ?_
          refine g_ishl dX6_can_43 (fun x19 ex19 => ?_)
          refine g_ior dX6_can_44 ?_
          refine g_topi (fun x20 ex20 => ?_)
          refine g_istore_n dX6_can_45 (by decide) ?_
          refine g_iinc (v := i8 + 1) dX6_can_46 rfl rfl (by decide) ?_
          refine g_goto (tgt := 13) dX6_can_49 (by decide) ?_
          refine g_pick (lv' := [(0, .ref (uk_ad G 0)), (1, .int w), (2, .int x20), (3, .int (i8 + 1))]) [0, 1, 2, 3] rfl ?_
          exact ihi8 (by first | lia | grind) x20 
    refine g_pick (lv' := [(0, .ref (uk_ad G 0)), (1, .int w), (2, .int 0), (3, .int 0)]) [0, 1, 2, 3] rfl ?_
    exact L13_5 0 (by first | decide | lia | grind) (by first | decide | lia | grind) 0 
  · have zc5 := zx4 c5
    refine g_iconst (v := (-1)) dX6_can_7 (by decide) ?_
    exact g_iret (ty := .int) dX6_can_8 rfl rfl ⟨⟨_, rfl, by first | trivial | lia | grind⟩, rfl⟩
abbrev q_X6_most (u : uk_Mem) (m : Int32) (r : Option Value) (u' : uk_Mem) : Prop := (∃ x : Int32, r = some (.int x) ∧ True) ∧ (iv u' ∧ fr 57 58 u u')
set_option maxHeartbeats 4000000 in
set_option maxRecDepth 20000 in
theorem c_X6_most {G : uk_D} (hs : uk_Sep G) {u : uk_Mem} (hu : iv u) (m : Int32) (d : Nat) : uk_Meth G (d + 2) mX6_most [.ref (uk_ad G 0), .int m] u (q_X6_most u m) := by
  refine uk_Meth.of hs (by decide) (Nat.le_of_ble_eq_true rfl) (fun X => ?_)
  have f0 : fr 57 58 u u := fr_rf
  refine g_aload_n dX6_most_0 rfl ?_
  refine f_X6_10 rfl rfl dX6_most_1 ?_
  refine g_iload_n dX6_most_4 rfl ?_
  refine cl_X6_118 (c := 13) (As := [.int m]) rfl (c_X0_hasStuff (G := G) hs hu uk_isK13 m  (d + 1)) rfl (by omega) rfl rfl (Nat.le_of_ble_eq_true rfl) dX6_most_5 (fun r1 u2 q3 => ?_)
  obtain ⟨⟨x4, rfl, tx4, nx4, zx4⟩, mq3⟩ := q3
  rw [mq3]
  refine g_if_ne (tgt := 13) dX6_most_8 (by decide) (fun c5 => ?_) (fun c5 => ?_)
  · have zc5 := nx4 c5
    refine g_aload_n dX6_most_13 rfl ?_
    refine f_X6_10 rfl rfl dX6_most_14 ?_
    refine g_iload_n dX6_most_17 rfl ?_
    refine cl_X6_122 (c := 13) (As := [.int m]) rfl (c_X0_isMade (G := G) hs hu uk_isK13 m (by first | trivial | decide | lia | grind) (by first | trivial | decide | lia | grind) (d + 1)) rfl (by omega) rfl rfl (Nat.le_of_ble_eq_true rfl) dX6_most_18 (fun r6 u7 q8 => ?_)
    obtain ⟨⟨x9, rfl, tx9, nx9, zx9⟩, mq8⟩ := q8
    rw [mq8]
    refine g_if_ne (tgt := 27) dX6_most_21 (by decide) (fun c10 => ?_) (fun c10 => ?_)
    · have zc10 := nx9 c10
      refine g_iconst (v := 0) dX6_most_27 (by decide) ?_
      refine g_istore_n dX6_most_28 (by decide) ?_
      have L29_10 : ∀ i12 : Int32, 0 ≤ i12 → i12 ≤ 40 → ∀ (u13 : uk_Mem), iv u13 → fr 57 58 u u13 → uk_G G X mX6_most (d + 2) (q_X6_most u m) 29 [(0, .ref (uk_ad G 0)), (1, .int m), (2, .int i12)] [] u13 := by
        refine uk_upl 40 ?_
        intro i12 ai12 bi12 ihi12  u13 hu13 fu13
        refine g_iload_n dX6_most_29 rfl ?_
        refine g_bipush (v := 40) dX6_most_30 (by decide) ?_
        refine g_icmp_ge (tgt := 59) dX6_most_32 (by decide) (fun c14 => ?_) (fun c14 => ?_)
        · refine g_iload_n dX6_most_59 rfl ?_
          exact g_iret (ty := .int) dX6_most_60 rfl rfl ⟨⟨_, rfl, by first | trivial | lia | grind⟩, hu13, fu13⟩
        · refine g_aload_n dX6_most_35 rfl ?_
          refine f_X6_10 rfl rfl dX6_most_36 ?_
          refine g_iload_n dX6_most_39 rfl ?_
          refine g_iload_n dX6_most_40 rfl ?_
          refine g_iconst (v := 1) dX6_most_41 (by decide) ?_
          refine g_iadd dX6_most_42 ?_
          refine g_topi (fun x15 ex15 => ?_)
          refine g_aload_n dX6_most_43 rfl ?_
          refine f_X6_66 rfl rfl dX6_most_44 ?_
          refine cl_X6_165 (c := 13) (As := [.int m, .int x15, .ref (uk_ad G 57)]) rfl (c_X0_isEnoughFor (G := G) hs hu13 uk_isK13 m x15 (by first | trivial | decide | lia | grind) (by first | trivial | decide | lia | grind) (d)) rfl (by omega) rfl rfl (Nat.le_of_ble_eq_true rfl) dX6_most_47 (fun r16 u17 q18 => ?_)
          obtain ⟨⟨x19, rfl, tx19, nx19, zx19⟩, mq18⟩ := q18
          obtain ⟨hu17, gu17⟩ := mq18
          have fu17 : fr 57 58 u u17 := fr_tr fu13 gu17 (by omega) (by omega)
          refine g_if_eq (tgt := 59) dX6_most_50 (by decide) (fun c20 => ?_) (fun c20 => ?_)
          · have zc20 := zx19 c20
            refine g_iload_n dX6_most_59 rfl ?_
            exact g_iret (ty := .int) dX6_most_60 rfl rfl ⟨⟨_, rfl, by first | trivial | lia | grind⟩, hu17, fu17⟩
          · have zc20 := nx19 c20
            refine g_iinc (v := i12 + 1) dX6_most_53 rfl rfl (by decide) ?_
            refine g_goto (tgt := 29) dX6_most_56 (by decide) ?_
            refine g_pick (lv' := [(0, .ref (uk_ad G 0)), (1, .int m), (2, .int (i12 + 1))]) [0, 1, 2] rfl ?_
            exact ihi12 (by first | lia | grind)  u17 hu17 fu17 
      refine g_pick (lv' := [(0, .ref (uk_ad G 0)), (1, .int m), (2, .int 0)]) [0, 1, 2] rfl ?_
      exact L29_10 0 (by first | decide | lia | grind) (by first | decide | lia | grind)  u hu f0 
    · have zc10 := zx9 c10
      refine g_bipush (v := (-2)) dX6_most_24 (by decide) ?_
      exact g_iret (ty := .int) dX6_most_26 rfl rfl ⟨⟨_, rfl, by first | trivial | lia | grind⟩, hu, f0⟩
  · have zc5 := zx4 c5
    refine g_iconst (v := (-1)) dX6_most_11 (by decide) ?_
    exact g_iret (ty := .int) dX6_most_12 rfl rfl ⟨⟨_, rfl, by first | trivial | lia | grind⟩, hu, f0⟩
abbrev q_X6_holds (u : uk_Mem) (m : Int32) (b : Int32) (r : Option Value) (u' : uk_Mem) : Prop := (∃ x : Int32, r = some (.int x) ∧ True) ∧ (iv u' ∧ fr 57 58 u u')
set_option maxHeartbeats 4000000 in
set_option maxRecDepth 20000 in
theorem c_X6_holds {G : uk_D} (hs : uk_Sep G) {u : uk_Mem} (hu : iv u) (m : Int32) (b : Int32) (d : Nat) : uk_Meth G (d + 2) mX6_holds [.ref (uk_ad G 0), .int m, .int b] u (q_X6_holds u m b) := by
  refine uk_Meth.of hs (by decide) (Nat.le_of_ble_eq_true rfl) (fun X => ?_)
  have f0 : fr 57 58 u u := fr_rf
  refine g_aload_n dX6_holds_0 rfl ?_
  refine f_X6_10 rfl rfl dX6_holds_1 ?_
  refine g_iload_n dX6_holds_4 rfl ?_
  refine cl_X6_118 (c := 13) (As := [.int m]) rfl (c_X0_hasStuff (G := G) hs hu uk_isK13 m  (d + 1)) rfl (by omega) rfl rfl (Nat.le_of_ble_eq_true rfl) dX6_holds_5 (fun r1 u2 q3 => ?_)
  obtain ⟨⟨x4, rfl, tx4, nx4, zx4⟩, mq3⟩ := q3
  rw [mq3]
  refine g_if_eq (tgt := 22) dX6_holds_8 (by decide) (fun c5 => ?_) (fun c5 => ?_)
  · have zc5 := zx4 c5
    refine g_iconst (v := (-1)) dX6_holds_22 (by decide) ?_
    exact g_iret (ty := .int) dX6_holds_23 rfl rfl ⟨⟨_, rfl, by first | trivial | lia | grind⟩, hu, f0⟩
  · have zc5 := nx4 c5
    refine g_aload_n dX6_holds_11 rfl ?_
    refine f_X6_10 rfl rfl dX6_holds_12 ?_
    refine g_iload_n dX6_holds_15 rfl ?_
    refine cl_X6_118 (c := 13) (As := [.int b]) rfl (c_X0_hasStuff (G := G) hs hu uk_isK13 b  (d + 1)) rfl (by omega) rfl rfl (Nat.le_of_ble_eq_true rfl) dX6_holds_16 (fun r6 u7 q8 => ?_)
    obtain ⟨⟨x9, rfl, tx9, nx9, zx9⟩, mq8⟩ := q8
    rw [mq8]
    refine g_if_ne (tgt := 24) dX6_holds_19 (by decide) (fun c10 => ?_) (fun c10 => ?_)
    · have zc10 := nx9 c10
      refine g_aload_n dX6_holds_24 rfl ?_
      refine f_X6_10 rfl rfl dX6_holds_25 ?_
      refine g_iload_n dX6_holds_28 rfl ?_
      refine cl_X6_122 (c := 13) (As := [.int b]) rfl (c_X0_isMade (G := G) hs hu uk_isK13 b (by first | trivial | decide | lia | grind) (by first | trivial | decide | lia | grind) (d + 1)) rfl (by omega) rfl rfl (Nat.le_of_ble_eq_true rfl) dX6_holds_29 (fun r11 u12 q13 => ?_)
      obtain ⟨⟨x14, rfl, tx14, nx14, zx14⟩, mq13⟩ := q13
      rw [mq13]
      refine g_if_eq (tgt := 38) dX6_holds_32 (by decide) (fun c15 => ?_) (fun c15 => ?_)
      · have zc15 := zx14 c15
        refine g_aload_n dX6_holds_38 rfl ?_
        refine f_X6_10 rfl rfl dX6_holds_39 ?_
        refine g_iload_n dX6_holds_42 rfl ?_
        refine g_aload_n dX6_holds_43 rfl ?_
        refine f_X6_66 rfl rfl dX6_holds_44 ?_
        refine cl_X6_169 (c := 13) (As := [.int m, .ref (uk_ad G 57)]) rfl (c_X0_rawNeed (G := G) hs hu uk_isK13 m (by first | trivial | decide | lia | grind) (by first | trivial | decide | lia | grind) (d)) rfl (by omega) rfl rfl (Nat.le_of_ble_eq_true rfl) dX6_holds_47 (fun r16 u17 q18 => ?_)
        obtain ⟨rfl, mq18⟩ := q18
        obtain ⟨hu17, gu17⟩ := mq18
        have fu17 : fr 57 58 u u17 := fr_tr f0 gu17 (by omega) (by omega)
        refine g_aload_n dX6_holds_50 rfl ?_
        refine f_X6_66 rfl rfl dX6_holds_51 ?_
        refine g_iload_n dX6_holds_54 rfl ?_
        have v19 : vp_in b 8 := uk_vin 8 rfl (by first | decide | lia | grind) (by first | decide | lia | grind)
        refine g_iald rfl rfl v19 dX6_holds_55 ?_
        refine g_topi (fun x20 ex20 => ?_)
        exact g_iret (ty := .int) dX6_holds_56 rfl rfl ⟨⟨_, rfl, by first | trivial | lia | grind⟩, hu17, fu17⟩
      · have zc15 := nx14 c15
        refine g_bipush (v := (-2)) dX6_holds_35 (by decide) ?_
        exact g_iret (ty := .int) dX6_holds_37 rfl rfl ⟨⟨_, rfl, by first | trivial | lia | grind⟩, hu, f0⟩
    · have zc10 := zx9 c10
      refine g_iconst (v := (-1)) dX6_holds_22 (by decide) ?_
      exact g_iret (ty := .int) dX6_holds_23 rfl rfl ⟨⟨_, rfl, by first | trivial | lia | grind⟩, hu, f0⟩
abbrev q_X6_cost (u : uk_Mem) (m : Int32) (r : Option Value) (u' : uk_Mem) : Prop := (∃ x : Int32, r = some (.int x) ∧ True) ∧ (iv u' ∧ fr 57 58 u u')
set_option maxHeartbeats 4000000 in
set_option maxRecDepth 20000 in
theorem c_X6_cost {G : uk_D} (hs : uk_Sep G) {u : uk_Mem} (hu : iv u) (m : Int32) (d : Nat) : uk_Meth G (d + 3) mX6_cost [.ref (uk_ad G 0), .int m] u (q_X6_cost u m) := by
  refine uk_Meth.of hs (by decide) (Nat.le_of_ble_eq_true rfl) (fun X => ?_)
  have f0 : fr 57 58 u u := fr_rf
  refine g_aload_n dX6_cost_0 rfl ?_
  refine f_X6_10 rfl rfl dX6_cost_1 ?_
  refine g_iload_n dX6_cost_4 rfl ?_
  refine cl_X6_118 (c := 13) (As := [.int m]) rfl (c_X0_hasStuff (G := G) hs hu uk_isK13 m  (d + 2)) rfl (by omega) rfl rfl (Nat.le_of_ble_eq_true rfl) dX6_cost_5 (fun r1 u2 q3 => ?_)
  obtain ⟨⟨x4, rfl, tx4, nx4, zx4⟩, mq3⟩ := q3
  rw [mq3]
  refine g_if_eq (tgt := 26) dX6_cost_8 (by decide) (fun c5 => ?_) (fun c5 => ?_)
  · have zc5 := zx4 c5
    refine g_iconst (v := (-1)) dX6_cost_26 (by decide) ?_
    exact g_iret (ty := .int) dX6_cost_27 rfl rfl ⟨⟨_, rfl, by first | trivial | lia | grind⟩, hu, f0⟩
  · have zc5 := nx4 c5
    refine g_aload_n dX6_cost_11 rfl ?_
    refine f_X6_10 rfl rfl dX6_cost_12 ?_
    refine g_iload_n dX6_cost_15 rfl ?_
    refine g_aload_n dX6_cost_16 rfl ?_
    refine f_X6_66 rfl rfl dX6_cost_17 ?_
    refine cl_X6_173 (c := 13) (As := [.int m, .ref (uk_ad G 57)]) rfl (c_X0_rawCost (G := G) hs hu uk_isK13 m (by first | trivial | decide | lia | grind) (by first | trivial | decide | lia | grind) (d)) rfl (by omega) rfl rfl (Nat.le_of_ble_eq_true rfl) dX6_cost_20 (fun r6 u7 q8 => ?_)
    obtain ⟨⟨x9, rfl, tx9⟩, mq8⟩ := q8
    obtain ⟨hu7, gu7⟩ := mq8
    have fu7 : fr 57 58 u u7 := fr_tr f0 gu7 (by omega) (by omega)
    refine g_goto (tgt := 27) dX6_cost_23 (by decide) ?_
    exact g_iret (ty := .int) dX6_cost_27 rfl rfl ⟨⟨_, rfl, by first | trivial | lia | grind⟩, hu7, fu7⟩
abbrev q_X6_turns (u : uk_Mem) (m : Int32) (w : Int32) (r : Option Value) (u' : uk_Mem) : Prop := (∃ x : Int32, r = some (.int x) ∧ True) ∧ (iv u' ∧ fr 41 46 u u')
set_option maxHeartbeats 4000000 in
set_option maxRecDepth 20000 in
theorem c_X6_turns {G : uk_D} (hs : uk_Sep G) {u : uk_Mem} (hu : iv u) (m : Int32) (w : Int32) (d : Nat) : uk_Meth G (d + 3) mX6_turns [.ref (uk_ad G 0), .int m, .int w] u (q_X6_turns u m w) := by
  refine uk_Meth.of hs (by decide) (Nat.le_of_ble_eq_true rfl) (fun X => ?_)
  have f0 : fr 41 46 u u := fr_rf
  refine g_aload_n dX6_turns_0 rfl ?_
  refine f_X6_10 rfl rfl dX6_turns_1 ?_
  refine g_iload_n dX6_turns_4 rfl ?_
  refine cl_X6_118 (c := 13) (As := [.int m]) rfl (c_X0_hasStuff (G := G) hs hu uk_isK13 m  (d + 2)) rfl (by omega) rfl rfl (Nat.le_of_ble_eq_true rfl) dX6_turns_5 (fun r1 u2 q3 => ?_)
  obtain ⟨⟨x4, rfl, tx4, nx4, zx4⟩, mq3⟩ := q3
  rw [mq3]
  refine g_if_eq (tgt := 18) dX6_turns_8 (by decide) (fun c5 => ?_) (fun c5 => ?_)
  · have zc5 := zx4 c5
    refine g_iconst (v := (-1)) dX6_turns_18 (by decide) ?_
    exact g_iret (ty := .int) dX6_turns_19 rfl rfl ⟨⟨_, rfl, by first | trivial | lia | grind⟩, hu, f0⟩
  · have zc5 := nx4 c5
    refine g_iload_n dX6_turns_11 rfl ?_
    refine cl_X6_162 (As := [.int w]) rfl (c_X6_isFlag (G := G) hs hu  w  (d + 2)) rfl (by omega) rfl (Nat.le_of_ble_eq_true rfl) dX6_turns_12 (fun r6 u7 q8 => ?_)
    obtain ⟨⟨x9, rfl, tx9, nx9, zx9⟩, mq8⟩ := q8
    rw [mq8]
    refine g_if_ne (tgt := 20) dX6_turns_15 (by decide) (fun c10 => ?_) (fun c10 => ?_)
    · have zc10 := nx9 c10
      refine g_aload_n dX6_turns_20 rfl ?_
      refine f_X6_48 rfl rfl dX6_turns_21 ?_
      refine g_aload_n dX6_turns_24 rfl ?_
      refine f_X6_10 rfl rfl dX6_turns_25 ?_
      refine g_iload_n dX6_turns_28 rfl ?_
      refine g_bipush (v := 127) dX6_turns_29 (by decide) ?_
      refine cl_X6_177 (c := 41) (As := [.ref (uk_ad G 13), .int m, .int 127]) rfl (c_X1_grind (G := G) hs hu  m 127 (by first | trivial | decide | lia | grind) (by first | trivial | decide | lia | grind) (d)) rfl (by omega) rfl rfl (Nat.le_of_ble_eq_true rfl) dX6_turns_31 (fun r11 u12 q13 => ?_)
      obtain ⟨rfl, mq13⟩ := q13
      obtain ⟨hu12, gu12⟩ := mq13
      have fu12 : fr 41 46 u u12 := fr_tr f0 gu12 (by omega) (by omega)
      refine g_iload_n dX6_turns_34 rfl ?_
      refine g_if_ne (tgt := 48) dX6_turns_35 (by decide) (fun c14 => ?_) (fun c14 => ?_)
      · refine g_aload_n dX6_turns_48 rfl ?_
        refine f_X6_48 rfl rfl dX6_turns_49 ?_
        refine f_X6_184 rfl rfl dX6_turns_52 ?_
        refine g_topi (fun x15 ex15 => ?_)
        have rx15 : 0 ≤ x15 ∧ x15 ≤ 128 := by rw [ex15]; exact iv_at hu12 _ _ rfl
        have s16 : u12.1 41 1 = x15 := ex15.symm
        exact g_iret (ty := .int) dX6_turns_55 rfl rfl ⟨⟨_, rfl, by first | trivial | lia | grind⟩, hu12, fu12⟩
      · refine g_aload_n dX6_turns_38 rfl ?_
        refine f_X6_48 rfl rfl dX6_turns_39 ?_
        refine f_X6_181 rfl rfl dX6_turns_42 ?_
        refine g_topi (fun x17 ex17 => ?_)
        have s18 : u12.1 41 2 = x17 := ex17.symm
        refine g_goto (tgt := 55) dX6_turns_45 (by decide) ?_
        exact g_iret (ty := .int) dX6_turns_55 rfl rfl ⟨⟨_, rfl, by first | trivial | lia | grind⟩, hu12, fu12⟩
    · have zc10 := zx9 c10
      refine g_iconst (v := (-1)) dX6_turns_18 (by decide) ?_
      exact g_iret (ty := .int) dX6_turns_19 rfl rfl ⟨⟨_, rfl, by first | trivial | lia | grind⟩, hu, f0⟩
abbrev q_X6_comes (u : uk_Mem) (m : Int32) (i : Int32) (r : Option Value) (u' : uk_Mem) : Prop := (∃ x : Int32, r = some (.int x) ∧ True) ∧ (iv u' ∧ fr 41 46 u u')
set_option maxHeartbeats 4000000 in
set_option maxRecDepth 20000 in
theorem c_X6_comes {G : uk_D} (hs : uk_Sep G) {u : uk_Mem} (hu : iv u) (m : Int32) (i : Int32) (d : Nat) : uk_Meth G (d + 3) mX6_comes [.ref (uk_ad G 0), .int m, .int i] u (q_X6_comes u m i) := by
  refine uk_Meth.of hs (by decide) (Nat.le_of_ble_eq_true rfl) (fun X => ?_)
  have f0 : fr 41 46 u u := fr_rf
  refine g_aload_n dX6_comes_0 rfl ?_
  refine f_X6_10 rfl rfl dX6_comes_1 ?_
  refine g_iload_n dX6_comes_4 rfl ?_
  refine cl_X6_118 (c := 13) (As := [.int m]) rfl (c_X0_hasStuff (G := G) hs hu uk_isK13 m  (d + 2)) rfl (by omega) rfl rfl (Nat.le_of_ble_eq_true rfl) dX6_comes_5 (fun r1 u2 q3 => ?_)
  obtain ⟨⟨x4, rfl, tx4, nx4, zx4⟩, mq3⟩ := q3
  rw [mq3]
  refine g_if_eq (tgt := 15) dX6_comes_8 (by decide) (fun c5 => ?_) (fun c5 => ?_)
  · have zc5 := zx4 c5
    refine g_iconst (v := (-1)) dX6_comes_15 (by decide) ?_
    exact g_iret (ty := .int) dX6_comes_16 rfl rfl ⟨⟨_, rfl, by first | trivial | lia | grind⟩, hu, f0⟩
  · have zc5 := nx4 c5
    refine g_iload_n dX6_comes_11 rfl ?_
    refine g_if_ge (tgt := 17) dX6_comes_12 (by decide) (fun c6 => ?_) (fun c6 => ?_)
    · refine g_aload_n dX6_comes_17 rfl ?_
      refine f_X6_48 rfl rfl dX6_comes_18 ?_
      refine g_aload_n dX6_comes_21 rfl ?_
      refine f_X6_10 rfl rfl dX6_comes_22 ?_
      refine g_iload_n dX6_comes_25 rfl ?_
      refine g_bipush (v := 127) dX6_comes_26 (by decide) ?_
      refine cl_X6_177 (c := 41) (As := [.ref (uk_ad G 13), .int m, .int 127]) rfl (c_X1_grind (G := G) hs hu  m 127 (by first | trivial | decide | lia | grind) (by first | trivial | decide | lia | grind) (d)) rfl (by omega) rfl rfl (Nat.le_of_ble_eq_true rfl) dX6_comes_28 (fun r7 u8 q9 => ?_)
      obtain ⟨rfl, mq9⟩ := q9
      obtain ⟨hu8, gu8⟩ := mq9
      have fu8 : fr 41 46 u u8 := fr_tr f0 gu8 (by omega) (by omega)
      refine g_iload_n dX6_comes_31 rfl ?_
      refine g_aload_n dX6_comes_32 rfl ?_
      refine f_X6_48 rfl rfl dX6_comes_33 ?_
      refine f_X6_184 rfl rfl dX6_comes_36 ?_
      refine g_topi (fun x10 ex10 => ?_)
      have rx10 : 0 ≤ x10 ∧ x10 ≤ 128 := by rw [ex10]; exact iv_at hu8 _ _ rfl
      have s11 : u8.1 41 1 = x10 := ex10.symm
      refine g_icmp_ge (tgt := 54) dX6_comes_39 (by decide) (fun c12 => ?_) (fun c12 => ?_)
      · refine g_bipush (v := (-4)) dX6_comes_54 (by decide) ?_
        exact g_iret (ty := .int) dX6_comes_56 rfl rfl ⟨⟨_, rfl, by first | trivial | lia | grind⟩, hu8, fu8⟩
      · refine g_aload_n dX6_comes_42 rfl ?_
        refine f_X6_48 rfl rfl dX6_comes_43 ?_
        refine f_X6_185 rfl rfl dX6_comes_46 ?_
        refine g_iload_n dX6_comes_49 rfl ?_
        have v13 : vp_in i 128 := uk_vin 128 rfl (by first | decide | lia | grind) (by first | decide | lia | grind)
        refine g_iald rfl rfl v13 dX6_comes_50 ?_
        refine g_topi (fun x14 ex14 => ?_)
        have bx14 := uk_cl v13
        have rx14 : 0 ≤ x14 ∧ x14 ≤ 7 := by rw [ex14]; exact iv_at hu8 _ _ (uk_pick1 _ (by omega))
        refine g_goto (tgt := 56) dX6_comes_51 (by decide) ?_
        exact g_iret (ty := .int) dX6_comes_56 rfl rfl ⟨⟨_, rfl, by first | trivial | lia | grind⟩, hu8, fu8⟩
    · refine g_iconst (v := (-1)) dX6_comes_15 (by decide) ?_
      exact g_iret (ty := .int) dX6_comes_16 rfl rfl ⟨⟨_, rfl, by first | trivial | lia | grind⟩, hu, f0⟩
abbrev q_X6_after (u : uk_Mem) (m : Int32) (n : Int32) (b : Int32) (r : Option Value) (u' : uk_Mem) : Prop := (∃ x : Int32, r = some (.int x) ∧ True) ∧ (iv u' ∧ fr 41 46 u u')
set_option maxHeartbeats 4000000 in
set_option maxRecDepth 20000 in
theorem c_X6_after {G : uk_D} (hs : uk_Sep G) {u : uk_Mem} (hu : iv u) (m : Int32) (n : Int32) (b : Int32) (d : Nat) : uk_Meth G (d + 3) mX6_after [.ref (uk_ad G 0), .int m, .int n, .int b] u (q_X6_after u m n b) := by
  refine uk_Meth.of hs (by decide) (Nat.le_of_ble_eq_true rfl) (fun X => ?_)
  have f0 : fr 41 46 u u := fr_rf
  refine g_aload_n dX6_after_0 rfl ?_
  refine f_X6_10 rfl rfl dX6_after_1 ?_
  refine g_iload_n dX6_after_4 rfl ?_
  refine cl_X6_118 (c := 13) (As := [.int m]) rfl (c_X0_hasStuff (G := G) hs hu uk_isK13 m  (d + 2)) rfl (by omega) rfl rfl (Nat.le_of_ble_eq_true rfl) dX6_after_5 (fun r1 u2 q3 => ?_)
  obtain ⟨⟨x4, rfl, tx4, nx4, zx4⟩, mq3⟩ := q3
  rw [mq3]
  refine g_if_eq (tgt := 32) dX6_after_8 (by decide) (fun c5 => ?_) (fun c5 => ?_)
  · have zc5 := zx4 c5
    refine g_iconst (v := (-1)) dX6_after_32 (by decide) ?_
    exact g_iret (ty := .int) dX6_after_33 rfl rfl ⟨⟨_, rfl, by first | trivial | lia | grind⟩, hu, f0⟩
  · have zc5 := nx4 c5
    refine g_iload_n dX6_after_11 rfl ?_
    refine g_if_lt (tgt := 32) dX6_after_12 (by decide) (fun c6 => ?_) (fun c6 => ?_)
    · refine g_iconst (v := (-1)) dX6_after_32 (by decide) ?_
      exact g_iret (ty := .int) dX6_after_33 rfl rfl ⟨⟨_, rfl, by first | trivial | lia | grind⟩, hu, f0⟩
    · refine g_iload_n dX6_after_15 rfl ?_
      refine g_bipush (v := 127) dX6_after_16 (by decide) ?_
      refine g_icmp_gt (tgt := 32) dX6_after_18 (by decide) (fun c7 => ?_) (fun c7 => ?_)
      · refine g_iconst (v := (-1)) dX6_after_32 (by decide) ?_
        exact g_iret (ty := .int) dX6_after_33 rfl rfl ⟨⟨_, rfl, by first | trivial | lia | grind⟩, hu, f0⟩
      · refine g_aload_n dX6_after_21 rfl ?_
        refine f_X6_10 rfl rfl dX6_after_22 ?_
        refine g_iload_n dX6_after_25 rfl ?_
        refine cl_X6_118 (c := 13) (As := [.int b]) rfl (c_X0_hasStuff (G := G) hs hu uk_isK13 b  (d + 2)) rfl (by omega) rfl rfl (Nat.le_of_ble_eq_true rfl) dX6_after_26 (fun r8 u9 q10 => ?_)
        obtain ⟨⟨x11, rfl, tx11, nx11, zx11⟩, mq10⟩ := q10
        rw [mq10]
        refine g_if_ne (tgt := 34) dX6_after_29 (by decide) (fun c12 => ?_) (fun c12 => ?_)
        · have zc12 := nx11 c12
          refine g_aload_n dX6_after_34 rfl ?_
          refine f_X6_48 rfl rfl dX6_after_35 ?_
          refine g_aload_n dX6_after_38 rfl ?_
          refine f_X6_10 rfl rfl dX6_after_39 ?_
          refine g_iload_n dX6_after_42 rfl ?_
          refine g_iload_n dX6_after_43 rfl ?_
          refine cl_X6_177 (c := 41) (As := [.ref (uk_ad G 13), .int m, .int n]) rfl (c_X1_grind (G := G) hs hu  m n (by first | trivial | decide | lia | grind) (by first | trivial | decide | lia | grind) (d)) rfl (by omega) rfl rfl (Nat.le_of_ble_eq_true rfl) dX6_after_44 (fun r13 u14 q15 => ?_)
          obtain ⟨rfl, mq15⟩ := q15
          obtain ⟨hu14, gu14⟩ := mq15
          have fu14 : fr 41 46 u u14 := fr_tr f0 gu14 (by omega) (by omega)
          refine g_aload_n dX6_after_47 rfl ?_
          refine f_X6_48 rfl rfl dX6_after_48 ?_
          refine g_iload_n dX6_after_51 rfl ?_
          refine cl_X6_188 (c := 41) (As := [.int b]) rfl (c_X1_howManyOf (G := G) hs hu14  b  (d + 2)) rfl (by omega) rfl rfl (Nat.le_of_ble_eq_true rfl) dX6_after_52 (fun r16 u17 q18 => ?_)
          obtain ⟨⟨x19, rfl, tx19⟩, mq18⟩ := q18
          rw [mq18]
          exact g_iret (ty := .int) dX6_after_55 rfl rfl ⟨⟨_, rfl, by first | trivial | lia | grind⟩, hu14, fu14⟩
        · have zc12 := zx11 c12
          refine g_iconst (v := (-1)) dX6_after_32 (by decide) ?_
          exact g_iret (ty := .int) dX6_after_33 rfl rfl ⟨⟨_, rfl, by first | trivial | lia | grind⟩, hu, f0⟩
abbrev q_X6_first (u : uk_Mem) (m : Int32) (b : Int32) (r : Option Value) (u' : uk_Mem) : Prop := (∃ x : Int32, r = some (.int x) ∧ True) ∧ (iv u' ∧ fr 41 46 u u')
set_option maxHeartbeats 4000000 in
set_option maxRecDepth 20000 in
theorem c_X6_first {G : uk_D} (hs : uk_Sep G) {u : uk_Mem} (hu : iv u) (m : Int32) (b : Int32) (d : Nat) : uk_Meth G (d + 3) mX6_first [.ref (uk_ad G 0), .int m, .int b] u (q_X6_first u m b) := by
  refine uk_Meth.of hs (by decide) (Nat.le_of_ble_eq_true rfl) (fun X => ?_)
  have f0 : fr 41 46 u u := fr_rf
  refine g_aload_n dX6_first_0 rfl ?_
  refine f_X6_10 rfl rfl dX6_first_1 ?_
  refine g_iload_n dX6_first_4 rfl ?_
  refine cl_X6_118 (c := 13) (As := [.int m]) rfl (c_X0_hasStuff (G := G) hs hu uk_isK13 m  (d + 2)) rfl (by omega) rfl rfl (Nat.le_of_ble_eq_true rfl) dX6_first_5 (fun r1 u2 q3 => ?_)
  obtain ⟨⟨x4, rfl, tx4, nx4, zx4⟩, mq3⟩ := q3
  rw [mq3]
  refine g_if_eq (tgt := 22) dX6_first_8 (by decide) (fun c5 => ?_) (fun c5 => ?_)
  · have zc5 := zx4 c5
    refine g_iconst (v := (-1)) dX6_first_22 (by decide) ?_
    exact g_iret (ty := .int) dX6_first_23 rfl rfl ⟨⟨_, rfl, by first | trivial | lia | grind⟩, hu, f0⟩
  · have zc5 := nx4 c5
    refine g_aload_n dX6_first_11 rfl ?_
    refine f_X6_10 rfl rfl dX6_first_12 ?_
    refine g_iload_n dX6_first_15 rfl ?_
    refine cl_X6_118 (c := 13) (As := [.int b]) rfl (c_X0_hasStuff (G := G) hs hu uk_isK13 b  (d + 2)) rfl (by omega) rfl rfl (Nat.le_of_ble_eq_true rfl) dX6_first_16 (fun r6 u7 q8 => ?_)
    obtain ⟨⟨x9, rfl, tx9, nx9, zx9⟩, mq8⟩ := q8
    rw [mq8]
    refine g_if_ne (tgt := 24) dX6_first_19 (by decide) (fun c10 => ?_) (fun c10 => ?_)
    · have zc10 := nx9 c10
      refine g_aload_n dX6_first_24 rfl ?_
      refine f_X6_48 rfl rfl dX6_first_25 ?_
      refine g_aload_n dX6_first_28 rfl ?_
      refine f_X6_10 rfl rfl dX6_first_29 ?_
      refine g_iload_n dX6_first_32 rfl ?_
      refine g_bipush (v := 127) dX6_first_33 (by decide) ?_
      refine cl_X6_177 (c := 41) (As := [.ref (uk_ad G 13), .int m, .int 127]) rfl (c_X1_grind (G := G) hs hu  m 127 (by first | trivial | decide | lia | grind) (by first | trivial | decide | lia | grind) (d)) rfl (by omega) rfl rfl (Nat.le_of_ble_eq_true rfl) dX6_first_35 (fun r11 u12 q13 => ?_)
      obtain ⟨rfl, mq13⟩ := q13
      obtain ⟨hu12, gu12⟩ := mq13
      have fu12 : fr 41 46 u u12 := fr_tr f0 gu12 (by omega) (by omega)
      refine g_aload_n dX6_first_38 rfl ?_
      refine f_X6_48 rfl rfl dX6_first_39 ?_
      refine f_X6_191 rfl rfl dX6_first_42 ?_
      refine g_iload_n dX6_first_45 rfl ?_
      have v14 : vp_in b 8 := uk_vin 8 rfl (by first | decide | lia | grind) (by first | decide | lia | grind)
      refine g_iald rfl rfl v14 dX6_first_46 ?_
      refine g_topi (fun x15 ex15 => ?_)
      exact g_iret (ty := .int) dX6_first_47 rfl rfl ⟨⟨_, rfl, by first | trivial | lia | grind⟩, hu12, fu12⟩
    · have zc10 := zx9 c10
      refine g_iconst (v := (-1)) dX6_first_22 (by decide) ?_
      exact g_iret (ty := .int) dX6_first_23 rfl rfl ⟨⟨_, rfl, by first | trivial | lia | grind⟩, hu, f0⟩
abbrev q_X6_loss (u : uk_Mem) (m : Int32) (r : Option Value) (u' : uk_Mem) : Prop := (∃ x : Int32, r = some (.int x) ∧ True) ∧ (iv u' ∧ fr 41 58 u u')
set_option maxHeartbeats 4000000 in
set_option maxRecDepth 20000 in
theorem c_X6_loss {G : uk_D} (hs : uk_Sep G) {u : uk_Mem} (hu : iv u) (m : Int32) (d : Nat) : uk_Meth G (d + 3) mX6_loss [.ref (uk_ad G 0), .int m] u (q_X6_loss u m) := by
  refine uk_Meth.of hs (by decide) (Nat.le_of_ble_eq_true rfl) (fun X => ?_)
  have f0 : fr 41 58 u u := fr_rf
  refine g_aload_n dX6_loss_0 rfl ?_
  refine f_X6_10 rfl rfl dX6_loss_1 ?_
  refine g_iload_n dX6_loss_4 rfl ?_
  refine cl_X6_118 (c := 13) (As := [.int m]) rfl (c_X0_hasStuff (G := G) hs hu uk_isK13 m  (d + 2)) rfl (by omega) rfl rfl (Nat.le_of_ble_eq_true rfl) dX6_loss_5 (fun r1 u2 q3 => ?_)
  obtain ⟨⟨x4, rfl, tx4, nx4, zx4⟩, mq3⟩ := q3
  rw [mq3]
  refine g_if_ne (tgt := 13) dX6_loss_8 (by decide) (fun c5 => ?_) (fun c5 => ?_)
  · have zc5 := nx4 c5
    refine g_aload_n dX6_loss_13 rfl ?_
    refine f_X6_48 rfl rfl dX6_loss_14 ?_
    refine g_aload_n dX6_loss_17 rfl ?_
    refine f_X6_10 rfl rfl dX6_loss_18 ?_
    refine g_iload_n dX6_loss_21 rfl ?_
    refine g_bipush (v := 127) dX6_loss_22 (by decide) ?_
    refine cl_X6_177 (c := 41) (As := [.ref (uk_ad G 13), .int m, .int 127]) rfl (c_X1_grind (G := G) hs hu  m 127 (by first | trivial | decide | lia | grind) (by first | trivial | decide | lia | grind) (d)) rfl (by omega) rfl rfl (Nat.le_of_ble_eq_true rfl) dX6_loss_24 (fun r6 u7 q8 => ?_)
    obtain ⟨rfl, mq8⟩ := q8
    obtain ⟨hu7, gu7⟩ := mq8
    have fu7 : fr 41 58 u u7 := fr_tr f0 gu7 (by omega) (by omega)
    refine g_iconst (v := 0) dX6_loss_27 (by decide) ?_
    refine g_istore_n dX6_loss_28 (by decide) ?_
    refine g_iconst (v := 0) dX6_loss_29 (by decide) ?_
    refine g_istore_n dX6_loss_30 (by decide) ?_
    have L31_8 : ∀ i11 : Int32, 0 ≤ i11 → i11 ≤ 128 → ∀ (w10 : Int32), uk_G G X mX6_loss (d + 3) (q_X6_loss u m) 31 [(0, .ref (uk_ad G 0)), (1, .int m), (2, .int w10), (3, .int i11)] [] u7 := by
      refine uk_upl 128 ?_
      intro i11 ai11 bi11 ihi11 w10
      refine g_iload_n dX6_loss_31 rfl ?_
      refine g_aload_n dX6_loss_32 rfl ?_
      refine f_X6_48 rfl rfl dX6_loss_33 ?_
      refine f_X6_184 rfl rfl dX6_loss_36 ?_
      refine g_topi (fun x12 ex12 => ?_)
      have rx12 : 0 ≤ x12 ∧ x12 ≤ 128 := by rw [ex12]; exact iv_at hu7 _ _ rfl
      have s13 : u7.1 41 1 = x12 := ex12.symm
      refine g_icmp_ge (tgt := 88) dX6_loss_39 (by decide) (fun c14 => ?_) (fun c14 => ?_)
      · refine g_aload_n dX6_loss_88 rfl ?_
        refine f_X6_10 rfl rfl dX6_loss_89 ?_
        refine g_iload_n dX6_loss_92 rfl ?_
        refine g_aload_n dX6_loss_93 rfl ?_
        refine f_X6_66 rfl rfl dX6_loss_94 ?_
        refine cl_X6_173 (c := 13) (As := [.int m, .ref (uk_ad G 57)]) rfl (c_X0_rawCost (G := G) hs hu7 uk_isK13 m (by first | trivial | decide | lia | grind) (by first | trivial | decide | lia | grind) (d)) rfl (by omega) rfl rfl (Nat.le_of_ble_eq_true rfl) dX6_loss_97 (fun r15 u16 q17 => ?_)
        obtain ⟨⟨x18, rfl, tx18⟩, mq17⟩ := q17
        obtain ⟨hu16, gu16⟩ := mq17
        have fu16 : fr 41 58 u u16 := fr_tr fu7 gu16 (by omega) (by omega)
        have s19 : u16.1 41 1 = x12 := (fr_at gu16 (by omega)).trans s13
        refine g_iload_n dX6_loss_100 rfl ?_
        refine g_isub dX6_loss_101 ?_
        refine g_topi (fun x20 ex20 => ?_)
        exact g_iret (ty := .int) dX6_loss_102 rfl rfl ⟨⟨_, rfl, by first | trivial | lia | grind⟩, hu16, fu16⟩
      · refine g_aload_n dX6_loss_42 rfl ?_
        refine f_X6_48 rfl rfl dX6_loss_43 ?_
        refine f_X6_185 rfl rfl dX6_loss_46 ?_
        refine g_iload_n dX6_loss_49 rfl ?_
        have v21 : vp_in i11 128 := uk_vin 128 rfl (by first | decide | lia | grind) (by first | decide | lia | grind)
        refine g_iald rfl rfl v21 dX6_loss_50 ?_
        refine g_topi (fun x22 ex22 => ?_)
        have bx22 := uk_cl v21
        have rx22 : 0 ≤ x22 ∧ x22 ≤ 7 := by rw [ex22]; exact iv_at hu7 _ _ (uk_pick1 _ (by omega))
        refine g_istore dX6_loss_51 (by decide) ?_
        refine g_iload_n dX6_loss_53 rfl ?_
        refine g_aload_n dX6_loss_54 rfl ?_
        refine f_X6_10 rfl rfl dX6_loss_55 ?_
        refine g_iload dX6_loss_58 rfl ?_
        refine cl_X6_122 (c := 13) (As := [.int x22]) rfl (c_X0_isMade (G := G) hs hu7 uk_isK13 x22 (by first | trivial | decide | lia | grind) (by first | trivial | decide | lia | grind) (d + 2)) rfl (by omega) rfl rfl (Nat.le_of_ble_eq_true rfl) dX6_loss_60 (fun r23 u24 q25 => ?_)
        obtain ⟨⟨x26, rfl, tx26, nx26, zx26⟩, mq25⟩ := q25
        rw [mq25]
        refine g_if_eq (tgt := 70) dX6_loss_63 (by decide) (fun c27 => ?_) (fun c27 => ?_)
        · have zc27 := zx26 c27
          refine g_aload_n dX6_loss_70 rfl ?_
          refine f_X6_10 rfl rfl dX6_loss_71 ?_
          refine f_X6_137 rfl rfl dX6_loss_74 ?_
          refine g_iload dX6_loss_77 rfl ?_
          have v28 : vp_in x22 8 := uk_vin 8 rfl (by first | decide | lia | grind) (by first | decide | lia | grind)
          refine g_iald rfl rfl v28 dX6_loss_79 ?_
          refine g_topi (fun x29 ex29 => ?_)
          refine g_iadd dX6_loss_80 ?_
          refine g_topi (fun x30 ex30 => ?_)
          refine g_istore_n dX6_loss_81 (by decide) ?_
          refine g_iinc (v := i11 + 1) dX6_loss_82 rfl rfl (by decide) ?_
          refine g_goto (tgt := 31) dX6_loss_85 (by decide) ?_
          refine g_pick (lv' := [(0, .ref (uk_ad G 0)), (1, .int m), (2, .int x30), (3, .int (i11 + 1))]) [0, 1, 2, 3] rfl ?_
          exact ihi11 (by first | lia | grind) x30 
        · have zc27 := nx26 c27
          refine g_iconst (v := 0) dX6_loss_66 (by decide) ?_
          refine g_goto (tgt := 80) dX6_loss_67 (by decide) ?_
          refine g_iadd dX6_loss_80 ?_
          refine g_topi (fun x31 ex31 => ?_)
          refine g_istore_n dX6_loss_81 (by decide) ?_
          refine g_iinc (v := i11 + 1) dX6_loss_82 rfl rfl (by decide) ?_
          refine g_goto (tgt := 31) dX6_loss_85 (by decide) ?_
          refine g_pick (lv' := [(0, .ref (uk_ad G 0)), (1, .int m), (2, .int x31), (3, .int (i11 + 1))]) [0, 1, 2, 3] rfl ?_
          exact ihi11 (by first | lia | grind) x31 
    refine g_pick (lv' := [(0, .ref (uk_ad G 0)), (1, .int m), (2, .int 0), (3, .int 0)]) [0, 1, 2, 3] rfl ?_
    exact L31_8 0 (by first | decide | lia | grind) (by first | decide | lia | grind) 0 
  · have zc5 := zx4 c5
    refine g_iconst (v := (-1)) dX6_loss_11 (by decide) ?_
    exact g_iret (ty := .int) dX6_loss_12 rfl rfl ⟨⟨_, rfl, by first | trivial | lia | grind⟩, hu, f0⟩
abbrev q_X6_mean (u : uk_Mem) (v : Int32) (m : Int32) (b : Int32) (w : Int32) (r : Option Value) (u' : uk_Mem) : Prop := (∃ x : Int64, r = some (.long x) ∧ True) ∧ (iv u' ∧ fr 59 60 u u')
set_option maxHeartbeats 4000000 in
set_option maxRecDepth 20000 in
theorem c_X6_mean {G : uk_D} (hs : uk_Sep G) {u : uk_Mem} (hu : iv u) (v : Int32) (m : Int32) (b : Int32) (w : Int32) (d : Nat) : uk_Meth G (d + 2) mX6_mean [.ref (uk_ad G 0), .int v, .int m, .int b, .int w] u (q_X6_mean u v m b w) := by
  refine uk_Meth.of hs (by decide) (Nat.le_of_ble_eq_true rfl) (fun X => ?_)
  have f0 : fr 59 60 u u := fr_rf
  refine g_iload_n dX6_mean_0 rfl ?_
  refine g_if_lt (tgt := 40) dX6_mean_1 (by decide) (fun c1 => ?_) (fun c1 => ?_)
  · refine g_ldc2 (v := (-1)) k_X6_194 dX6_mean_40 ?_
    exact g_lret dX6_mean_43 rfl ⟨⟨_, rfl, by first | trivial | decide | exact uk_lg0 (by assumption) | grind⟩, hu, f0⟩
  · refine g_iload_n dX6_mean_4 rfl ?_
    refine g_bipush (v := 10) dX6_mean_5 (by decide) ?_
    refine g_icmp_gt (tgt := 40) dX6_mean_7 (by decide) (fun c2 => ?_) (fun c2 => ?_)
    · refine g_ldc2 (v := (-1)) k_X6_194 dX6_mean_40 ?_
      exact g_lret dX6_mean_43 rfl ⟨⟨_, rfl, by first | trivial | decide | exact uk_lg0 (by assumption) | grind⟩, hu, f0⟩
    · refine g_aload_n dX6_mean_10 rfl ?_
      refine f_X6_10 rfl rfl dX6_mean_11 ?_
      refine g_iload_n dX6_mean_14 rfl ?_
      refine cl_X6_118 (c := 13) (As := [.int m]) rfl (c_X0_hasStuff (G := G) hs hu uk_isK13 m  (d + 1)) rfl (by omega) rfl rfl (Nat.le_of_ble_eq_true rfl) dX6_mean_15 (fun r3 u4 q5 => ?_)
      obtain ⟨⟨x6, rfl, tx6, nx6, zx6⟩, mq5⟩ := q5
      rw [mq5]
      refine g_if_eq (tgt := 40) dX6_mean_18 (by decide) (fun c7 => ?_) (fun c7 => ?_)
      · have zc7 := zx6 c7
        refine g_ldc2 (v := (-1)) k_X6_194 dX6_mean_40 ?_
        exact g_lret dX6_mean_43 rfl ⟨⟨_, rfl, by first | trivial | decide | exact uk_lg0 (by assumption) | grind⟩, hu, f0⟩
      · have zc7 := nx6 c7
        refine g_aload_n dX6_mean_21 rfl ?_
        refine f_X6_10 rfl rfl dX6_mean_22 ?_
        refine g_iload_n dX6_mean_25 rfl ?_
        refine cl_X6_118 (c := 13) (As := [.int b]) rfl (c_X0_hasStuff (G := G) hs hu uk_isK13 b  (d + 1)) rfl (by omega) rfl rfl (Nat.le_of_ble_eq_true rfl) dX6_mean_26 (fun r8 u9 q10 => ?_)
        obtain ⟨⟨x11, rfl, tx11, nx11, zx11⟩, mq10⟩ := q10
        rw [mq10]
        refine g_if_eq (tgt := 40) dX6_mean_29 (by decide) (fun c12 => ?_) (fun c12 => ?_)
        · have zc12 := zx11 c12
          refine g_ldc2 (v := (-1)) k_X6_194 dX6_mean_40 ?_
          exact g_lret dX6_mean_43 rfl ⟨⟨_, rfl, by first | trivial | decide | exact uk_lg0 (by assumption) | grind⟩, hu, f0⟩
        · have zc12 := nx11 c12
          refine g_iload dX6_mean_32 rfl ?_
          refine cl_X6_162 (As := [.int w]) rfl (c_X6_isFlag (G := G) hs hu  w  (d + 1)) rfl (by omega) rfl (Nat.le_of_ble_eq_true rfl) dX6_mean_34 (fun r13 u14 q15 => ?_)
          obtain ⟨⟨x16, rfl, tx16, nx16, zx16⟩, mq15⟩ := q15
          rw [mq15]
          refine g_if_ne (tgt := 44) dX6_mean_37 (by decide) (fun c17 => ?_) (fun c17 => ?_)
          · have zc17 := nx16 c17
            refine g_aload_n dX6_mean_44 rfl ?_
            refine f_X6_10 rfl rfl dX6_mean_45 ?_
            refine g_iload_n dX6_mean_48 rfl ?_
            refine cl_X6_122 (c := 13) (As := [.int b]) rfl (c_X0_isMade (G := G) hs hu uk_isK13 b (by first | trivial | decide | lia | grind) (by first | trivial | decide | lia | grind) (d + 1)) rfl (by omega) rfl rfl (Nat.le_of_ble_eq_true rfl) dX6_mean_49 (fun r18 u19 q20 => ?_)
            obtain ⟨⟨x21, rfl, tx21, nx21, zx21⟩, mq20⟩ := q20
            rw [mq20]
            refine g_if_eq (tgt := 59) dX6_mean_52 (by decide) (fun c22 => ?_) (fun c22 => ?_)
            · have zc22 := zx21 c22
              refine g_aload_n dX6_mean_59 rfl ?_
              refine g_iload_n dX6_mean_60 rfl ?_
              refine g_iload_n dX6_mean_61 rfl ?_
              refine g_iload_n dX6_mean_62 rfl ?_
              refine cl_X6_198 (c := 0) (As := [.int v, .int m, .int b]) rfl (c_X6_scaledMean (G := G) hs hu  v m b (by first | trivial | decide | lia | grind) (by first | trivial | decide | lia | grind) (d)) rfl (by omega) rfl rfl (Nat.le_of_ble_eq_true rfl) dX6_mean_63 (fun r23 u24 q25 => ?_)
              obtain ⟨⟨x26, rfl, tx26⟩, mq25⟩ := q25
              obtain ⟨hu24, gu24⟩ := mq25
              have fu24 : fr 59 60 u u24 := fr_tr f0 gu24 (by omega) (by omega)
              refine g_lstore dX6_mean_66 (by decide) ?_
              refine g_lload dX6_mean_68 rfl ?_
              refine g_ldc2 (v := 10000000) k_X6_202 dX6_mean_70 ?_
              refine cl_X6_204 (As := [.long x26, .long 10000000]) rfl (c_X6_greatestCommon (G := G) hs hu24  x26 10000000  (d + 1)) rfl (by omega) rfl (Nat.le_of_ble_eq_true rfl) dX6_mean_73 (fun r27 u28 q29 => ?_)
              obtain ⟨⟨x30, rfl, tx30⟩, mq29⟩ := q29
              rw [mq29]
              refine g_lstore dX6_mean_76 (by decide) ?_
              refine g_iload dX6_mean_78 rfl ?_
              refine g_if_ne (tgt := 88) dX6_mean_80 (by decide) (fun c31 => ?_) (fun c31 => ?_)
              · refine g_ldc2 (v := 10000000) k_X6_202 dX6_mean_88 ?_
                refine g_lload dX6_mean_91 rfl ?_
                refine g_ldiv dX6_mean_93 (by first | decide | assumption | exact uk_lg0 (by assumption) | grind) ?_
                refine g_topl (fun y32 ey32 => ?_)
                exact g_lret dX6_mean_94 rfl ⟨⟨_, rfl, by first | trivial | decide | exact uk_lg0 (by assumption) | grind⟩, hu24, fu24⟩
              · refine g_lload dX6_mean_83 rfl ?_
                refine g_goto (tgt := 91) dX6_mean_85 (by decide) ?_
                refine g_lload dX6_mean_91 rfl ?_
                refine g_ldiv dX6_mean_93 (by first | decide | assumption | exact uk_lg0 (by assumption) | grind) ?_
                refine g_topl (fun y33 ey33 => ?_)
                exact g_lret dX6_mean_94 rfl ⟨⟨_, rfl, by first | trivial | decide | exact uk_lg0 (by assumption) | grind⟩, hu24, fu24⟩
            · have zc22 := nx21 c22
              refine g_ldc2 (v := (-2)) k_X6_196 dX6_mean_55 ?_
              exact g_lret dX6_mean_58 rfl ⟨⟨_, rfl, by first | trivial | decide | exact uk_lg0 (by assumption) | grind⟩, hu, f0⟩
          · have zc17 := zx16 c17
            refine g_ldc2 (v := (-1)) k_X6_194 dX6_mean_40 ?_
            exact g_lret dX6_mean_43 rfl ⟨⟨_, rfl, by first | trivial | decide | exact uk_lg0 (by assumption) | grind⟩, hu, f0⟩
