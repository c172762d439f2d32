/-! ===== the law's own methods: an answer, or which refusal ===== -/
/-- a handler takes it: the rows ahead don't -/
theorem at_catch {G : pd_G} {mi : pd_MI} {h mc ms cs ss pc : Nat} {lo : List (Option Value)} {st : List Value} {M : pd_M} {Q : pd_O → pd_M → Prop} {E name : String} (pre : List (Nat × Nat × Nat × Nat)) (x : Nat × Nat × Nat × Nat) (suf : List (Nat × Nat × Nat × Nat)) (hsp : mi.2.2.2.2 = pre ++ x :: suf) (hpass : ∀ y ∈ pre, y.2.2.2 ≠ 0 ∧ ∃ nm : String, Cond.classLink mi.1.cls y.2.2.2 nm ∈ pd_TB ∧ Cond.not (Cond.castable E nm) ∈ flatC (Jvm.Cond.and given_1 narrow_1)) (hx : (decide (x.1 ≤ pc) && decide (pc < x.2.1)) = true) (h0 : x.2.2.2 ≠ 0) (hl : Cond.classLink mi.1.cls x.2.2.2 name ∈ pd_TB) (hc : Cond.castable E name ∈ lw_tbl)
    (K : ∀ q : Nat, pd_At G mi h mc ms cs ss x.2.2.1 lo [.ref q] M Q) : pd_Xt G mi h mc ms cs ss pc lo st M Q E := fun d p e s m args below meth c H locs ls q ce hd F hS hW hlv hce hcv hcl =>
  vx_catch F.2.2.2.2.1 (tableOf pre) ⟨x.1, x.2.1, x.2.2.1, x.2.2.2⟩ (tableOf suf) (by rw [F.2.2.2.2.2.2.2.2.2.2.1, hsp]; simp [tableOf]) (fun z hz => by
      obtain ⟨y, hy, rfl⟩ := List.mem_map.mp hz
      obtain ⟨a, nm, b, c2⟩ := hpass y hy
      exact Or.inr ⟨a, nm, F.2.2.2.2.2.1 _ b, va_Nc.moved F.2.2.2.2.2.2.2.2.1.alike (va_Nc.of (pd_given F.2.2.2.2.2.2.2.1 c2))⟩) hx h0 (F.2.2.2.2.2.1 _ hl) (va_tabs rfl rfl (va_Nw.warmC F.2.2.2.2.2.2.2.2.1 (va_Nw.of rfl (F.2.2.2.2.2.2.2.1.2.2.1 _ hc)))) hce hcv hcl (K q d p e s m args below meth c H locs ls hd F hS hW hlv)
set_option maxRecDepth 100000 in
theorem lk_13 : Cond.classLink RL 13 "java/lang/IllegalArgumentException" ∈ pd_TB := pd_tbm (ws := [_]) (by decide +kernel) _ List.mem_cons_self
set_option maxRecDepth 100000 in
theorem lk_23 : Cond.classLink RL 23 "java/util/NoSuchElementException" ∈ pd_TB := pd_tbm (ws := [_]) (by decide +kernel) _ List.mem_cons_self
set_option maxRecDepth 100000 in
theorem lk_28 : Cond.classLink RL 28 "java/lang/IllegalStateException" ∈ pd_TB := pd_tbm (ws := [_]) (by decide +kernel) _ List.mem_cons_self
set_option maxRecDepth 100000 in
theorem ca_9 : Cond.castable (xE 9) "java/lang/IllegalArgumentException" ∈ lw_tbl := (by decide +kernel : Cond.castable "java/lang/IllegalArgumentException" "java/lang/IllegalArgumentException" ∈ lw_tbl)
set_option maxRecDepth 100000 in
theorem ca_8 : Cond.castable (xE 8) "java/util/NoSuchElementException" ∈ lw_tbl := (by decide +kernel : Cond.castable "java/util/NoSuchElementException" "java/util/NoSuchElementException" ∈ lw_tbl)
set_option maxRecDepth 100000 in
theorem ca_10 : Cond.castable (xE 10) "java/lang/IllegalStateException" ∈ lw_tbl := (by decide +kernel : Cond.castable "java/lang/IllegalStateException" "java/lang/IllegalStateException" ∈ lw_tbl)
set_option maxRecDepth 100000 in
theorem nc_98 : Cond.not (Cond.castable (xE 9) "java/util/NoSuchElementException") ∈ flatC (Jvm.Cond.and given_1 narrow_1) := (by decide +kernel : Cond.not (Cond.castable "java/lang/IllegalArgumentException" "java/util/NoSuchElementException") ∈ flatC (Jvm.Cond.and given_1 narrow_1))
set_option maxRecDepth 100000 in
theorem nc_108 : Cond.not (Cond.castable (xE 10) "java/util/NoSuchElementException") ∈ flatC (Jvm.Cond.and given_1 narrow_1) := (by decide +kernel : Cond.not (Cond.castable "java/lang/IllegalStateException" "java/util/NoSuchElementException") ∈ flatC (Jvm.Cond.and given_1 narrow_1))
set_option maxRecDepth 100000 in
theorem nc_109 : Cond.not (Cond.castable (xE 10) "java/lang/IllegalArgumentException") ∈ flatC (Jvm.Cond.and given_1 narrow_1) := (by decide +kernel : Cond.not (Cond.castable "java/lang/IllegalStateException" "java/lang/IllegalArgumentException") ∈ flatC (Jvm.Cond.and given_1 narrow_1))
/-- j 0: 0, the answer laid down; else which refusal -/
def h_x (I : Nat → Nat → Int32) (L : Nat → Nat → Int64) (R : Nat → Nat → Option Nat) (j d : Nat) (v : Int64) (P : (Nat → Nat → Int32) → (Nat → Nat → Int64) → (Nat → Nat → Option Nat) → Prop) : pd_O → pd_M → Prop := fun o M => if j = 0 then o = .inl (some (.int 0)) ∧ ∃ I' L' R', M = (SD, false, I', pd_up L' 137 0 v, R') ∧ P I' L' R' else o = .inl (some (.int (nI (j - d)))) ∧ M = (SD, false, pd_up I 0 j (I 0 j + 1), L, R)
theorem h_yes {I L R} {j d : Nat} {v : Int64} {P} {I' L' R'} (hj : j = 0) (hP : P I' L' R') : h_x I L R j d v P (.inl (some (.int 0))) (SD, false, I', pd_up L' 137 0 v, R') := by
  unfold h_x; rw [if_pos hj]; exact ⟨rfl, I', L', R', rfl, hP⟩
theorem h_no {I L R} {j d : Nat} {v : Int64} {P} {u : Int32} (hj : j ≠ 0) (hu : u = nI (j - d)) : h_x I L R j d v P (.inl (some (.int u))) (SD, false, pd_up I 0 j (I 0 j + 1), L, R) := by
  unfold h_x; rw [if_neg hj]; exact ⟨by rw [hu], rfl⟩
theorem pd_kx {G : pd_G} {mi : pd_MI} {h mc ms cs ss pc : Nat} {lo : List (Option Value)} {st : List Value} {Q : pd_O → pd_M → Prop} {I L R} {j : Nat} {v : Value} {P} (K0 : j = 0 → ∀ I' L' R', P I' L' R' → pd_At G mi h mc ms cs ss (pc + 3) lo (v :: st) (SD, false, I', L', R') Q) (K1 : j ≠ 0 → pd_Xt G mi h mc ms cs ss pc lo st (SD, false, pd_up I 0 j (I 0 j + 1), L, R) Q (xE j)) : ∀ o M', q_x I L R j v P o M' → pd_Kc G mi h mc ms cs ss pc lo st Q o M' := fun o M' hq => by
  unfold q_x at hq
  split at hq
  · rename_i hj
    obtain ⟨rfl, I', L', R', rfl, hP⟩ := hq
    exact K0 hj I' L' R' hP
  · rename_i hj
    obtain ⟨rfl, rfl⟩ := hq
    exact K1 hj
section LAWH
variable {G : pd_G} {I : Nat → Nat → Int32} {L : Nat → Nat → Int64} {R : Nat → Nat → Option Nat} {j : Nat} {P : (Nat → Nat → Int32) → (Nat → Nat → Int64) → (Nat → Nat → Option Nat) → Prop}
theorem ev_L_text (p0 : Int32) {v : Int32} (hE : pd_Ev G mi_X8_text 30 3 18 [.ref (pd_z G + 0), .int p0] (SD, false, I, L, R) (q_x I L R j (.int v) P)) (hj : j = 0 ∨ j = 9) : pd_Ev G mi_L_text 31 3 18 [.ref (pd_z G + 0), .int p0, .ref (pd_z G + 137)] (SD, false, I, L, R) (h_x I L R j 8 (v.toInt64) P) := by
  have hX : j ≠ 0 → pd_Xt G mi_L_text 31 3 18 (0 + 3) (0 + 18) 4 [some (.ref (pd_z G + 0)), some (.int p0), some (.ref (pd_z G + 137)), none] [.int 0, .ref (pd_z G + 137)] (SD, false, pd_up I 0 j (I 0 j + 1), L, R) (h_x I L R j 8 (v.toInt64) P) (xE j) := by
    intro hj0
    rcases hj with rfl | rfl
    · exact absurd rfl hj0
    · refine at_catch [] (0, 9, 12, 13) [] rfl (fun y hy => by cases hy) (by decide) (by decide) lk_13 ca_9 (fun q => ?_)
      refine at_astore_n dL_text_12 rfl (Nat.le_of_ble_eq_true rfl) ?_
      refine at_iconst dL_text_13 pc_i1 ?_
      refine at_iret rfl dL_text_14 ?_
      exact h_no (by decide) rfl
  refine pd_ev 1 (lo := [some (.ref (pd_z G + 0)), some (.int p0), some (.ref (pd_z G + 137)), none]) (by decide +kernel) (Nat.le_of_ble_eq_true rfl) rfl ?_
  refine at_aload_n dL_text_0 rfl ?_
  refine at_iconst dL_text_1 pc_i0 ?_
  refine at_aload_n dL_text_2 rfl ?_
  refine at_iload_n dL_text_3 rfl ?_
  refine at_cv1 cvL_7 sd_0 (hE) (by decide) ⟨Nat.le_of_ble_eq_true rfl, Nat.le_of_ble_eq_true rfl⟩ (Nat.le_of_ble_eq_true rfl) dL_text_4 (pd_kx (fun hj0 I2 L2 R2 hP => ?_) hX)
  refine at_i2l dL_text_7 ?_
  refine at_last sd_137 (vp_in_nI (n := 0) (by decide) (by decide)) dL_text_8 ?_
  refine at_goto (tgt := 15) dL_text_9 (by decide) ?_
  refine at_iconst dL_text_15 pc_i0 ?_
  refine at_iret rfl dL_text_16 ?_
  exact h_yes hj0 hP
theorem ev_L_sample (p0 p1 p2 : Int32) {v : Int32} (hE : pd_Ev G mi_X8_sample 8 3 18 [.ref (pd_z G + 0), .int p0, .int p1, .int p2] (SD, false, I, L, R) (q_x I L R j (.int v) P)) (hj : j = 0 ∨ j = 9) : pd_Ev G mi_L_sample 9 3 18 [.ref (pd_z G + 0), .int p0, .int p1, .int p2, .ref (pd_z G + 137)] (SD, false, I, L, R) (h_x I L R j 8 (v.toInt64) P) := by
  have hX : j ≠ 0 → pd_Xt G mi_L_sample 9 3 18 (0 + 3) (0 + 18) 7 [some (.ref (pd_z G + 0)), some (.int p0), some (.int p1), some (.int p2), some (.ref (pd_z G + 137)), none] [.int 0, .ref (pd_z G + 137)] (SD, false, pd_up I 0 j (I 0 j + 1), L, R) (h_x I L R j 8 (v.toInt64) P) (xE j) := by
    intro hj0
    rcases hj with rfl | rfl
    · exact absurd rfl hj0
    · refine at_catch [] (0, 12, 15, 13) [] rfl (fun y hy => by cases hy) (by decide) (by decide) lk_13 ca_9 (fun q => ?_)
      refine at_astore dL_sample_15 rfl (Nat.le_of_ble_eq_true rfl) ?_
      refine at_iconst dL_sample_17 pc_i1 ?_
      refine at_iret rfl dL_sample_18 ?_
      exact h_no (by decide) rfl
  refine pd_ev 1 (lo := [some (.ref (pd_z G + 0)), some (.int p0), some (.int p1), some (.int p2), some (.ref (pd_z G + 137)), none]) (by decide +kernel) (Nat.le_of_ble_eq_true rfl) rfl ?_
  refine at_aload dL_sample_0 rfl ?_
  refine at_iconst dL_sample_2 pc_i0 ?_
  refine at_aload_n dL_sample_3 rfl ?_
  refine at_iload_n dL_sample_4 rfl ?_
  refine at_iload_n dL_sample_5 rfl ?_
  refine at_iload_n dL_sample_6 rfl ?_
  refine at_cv3 cvL_15 sd_0 (hE) (by decide) ⟨Nat.le_of_ble_eq_true rfl, Nat.le_of_ble_eq_true rfl⟩ (Nat.le_of_ble_eq_true rfl) dL_sample_7 (pd_kx (fun hj0 I2 L2 R2 hP => ?_) hX)
  refine at_i2l dL_sample_10 ?_
  refine at_last sd_137 (vp_in_nI (n := 0) (by decide) (by decide)) dL_sample_11 ?_
  refine at_goto (tgt := 19) dL_sample_12 (by decide) ?_
  refine at_iconst dL_sample_19 pc_i0 ?_
  refine at_iret rfl dL_sample_20 ?_
  exact h_yes hj0 hP
theorem ev_L_strike (p0 p1 : Int32) {v : Int32} (hE : pd_Ev G mi_X8_strike 8 3 18 [.ref (pd_z G + 0), .int p0, .int p1] (SD, false, I, L, R) (q_x I L R j (.int v) P)) (hj : j = 0 ∨ j = 8) : pd_Ev G mi_L_strike 9 3 18 [.ref (pd_z G + 0), .int p0, .int p1, .ref (pd_z G + 137)] (SD, false, I, L, R) (h_x I L R j 7 (v.toInt64) P) := by
  have hX : j ≠ 0 → pd_Xt G mi_L_strike 9 3 18 (0 + 3) (0 + 18) 5 [some (.ref (pd_z G + 0)), some (.int p0), some (.int p1), some (.ref (pd_z G + 137)), none] [.int 0, .ref (pd_z G + 137)] (SD, false, pd_up I 0 j (I 0 j + 1), L, R) (h_x I L R j 7 (v.toInt64) P) (xE j) := by
    intro hj0
    rcases hj with rfl | rfl
    · exact absurd rfl hj0
    · refine at_catch [] (0, 10, 13, 23) [] rfl (fun y hy => by cases hy) (by decide) (by decide) lk_23 ca_8 (fun q => ?_)
      refine at_astore dL_strike_13 rfl (Nat.le_of_ble_eq_true rfl) ?_
      refine at_iconst dL_strike_15 pc_i1 ?_
      refine at_iret rfl dL_strike_16 ?_
      exact h_no (by decide) rfl
  refine pd_ev 1 (lo := [some (.ref (pd_z G + 0)), some (.int p0), some (.int p1), some (.ref (pd_z G + 137)), none]) (by decide +kernel) (Nat.le_of_ble_eq_true rfl) rfl ?_
  refine at_aload_n dL_strike_0 rfl ?_
  refine at_iconst dL_strike_1 pc_i0 ?_
  refine at_aload_n dL_strike_2 rfl ?_
  refine at_iload_n dL_strike_3 rfl ?_
  refine at_iload_n dL_strike_4 rfl ?_
  refine at_cv2 cvL_19 sd_0 (hE) (by decide) ⟨Nat.le_of_ble_eq_true rfl, Nat.le_of_ble_eq_true rfl⟩ (Nat.le_of_ble_eq_true rfl) dL_strike_5 (pd_kx (fun hj0 I2 L2 R2 hP => ?_) hX)
  refine at_i2l dL_strike_8 ?_
  refine at_last sd_137 (vp_in_nI (n := 0) (by decide) (by decide)) dL_strike_9 ?_
  refine at_goto (tgt := 17) dL_strike_10 (by decide) ?_
  refine at_iconst dL_strike_17 pc_i0 ?_
  refine at_iret rfl dL_strike_18 ?_
  exact h_yes hj0 hP
theorem ev_L_sign (p0 p1 p2 : Int32) {v : Int32} (hE : pd_Ev G mi_X8_sign 8 3 18 [.ref (pd_z G + 0), .int p0, .int p1, .int p2] (SD, false, I, L, R) (q_x I L R j (.int v) P)) (hj : j = 0 ∨ j = 8 ∨ j = 9 ∨ j = 10) : pd_Ev G mi_L_sign 9 3 18 [.ref (pd_z G + 0), .int p0, .int p1, .int p2, .ref (pd_z G + 137)] (SD, false, I, L, R) (h_x I L R j 7 (v.toInt64) P) := by
  have hX : j ≠ 0 → pd_Xt G mi_L_sign 9 3 18 (0 + 3) (0 + 18) 7 [some (.ref (pd_z G + 0)), some (.int p0), some (.int p1), some (.int p2), some (.ref (pd_z G + 137)), none] [.int 0, .ref (pd_z G + 137)] (SD, false, pd_up I 0 j (I 0 j + 1), L, R) (h_x I L R j 7 (v.toInt64) P) (xE j) := by
    intro hj0
    rcases hj with rfl | rfl | rfl | rfl
    · exact absurd rfl hj0
    · refine at_catch [] (0, 12, 15, 23) [(0, 12, 19, 13), (0, 12, 23, 28)] rfl (fun y hy => by cases hy) (by decide) (by decide) lk_23 ca_8 (fun q => ?_)
      refine at_astore dL_sign_15 rfl (Nat.le_of_ble_eq_true rfl) ?_
      refine at_iconst dL_sign_17 pc_i1 ?_
      refine at_iret rfl dL_sign_18 ?_
      exact h_no (by decide) rfl
    · refine at_catch [(0, 12, 15, 23)] (0, 12, 19, 13) [(0, 12, 23, 28)] rfl (fun y hy => by
        simp only [List.mem_cons, List.not_mem_nil, or_false] at hy
        rcases hy with rfl
        · exact ⟨by decide, _, lk_23, nc_98⟩) (by decide) (by decide) lk_13 ca_9 (fun q => ?_)
      refine at_astore dL_sign_19 rfl (Nat.le_of_ble_eq_true rfl) ?_
      refine at_iconst dL_sign_21 pc_i2 ?_
      refine at_iret rfl dL_sign_22 ?_
      exact h_no (by decide) rfl
    · refine at_catch [(0, 12, 15, 23), (0, 12, 19, 13)] (0, 12, 23, 28) [] rfl (fun y hy => by
        simp only [List.mem_cons, List.not_mem_nil, or_false] at hy
        rcases hy with rfl | rfl
        · exact ⟨by decide, _, lk_23, nc_108⟩
        · exact ⟨by decide, _, lk_13, nc_109⟩) (by decide) (by decide) lk_28 ca_10 (fun q => ?_)
      refine at_astore dL_sign_23 rfl (Nat.le_of_ble_eq_true rfl) ?_
      refine at_iconst dL_sign_25 pc_i3 ?_
      refine at_iret rfl dL_sign_26 ?_
      exact h_no (by decide) rfl
  refine pd_ev 1 (lo := [some (.ref (pd_z G + 0)), some (.int p0), some (.int p1), some (.int p2), some (.ref (pd_z G + 137)), none]) (by decide +kernel) (Nat.le_of_ble_eq_true rfl) rfl ?_
  refine at_aload dL_sign_0 rfl ?_
  refine at_iconst dL_sign_2 pc_i0 ?_
  refine at_aload_n dL_sign_3 rfl ?_
  refine at_iload_n dL_sign_4 rfl ?_
  refine at_iload_n dL_sign_5 rfl ?_
  refine at_iload_n dL_sign_6 rfl ?_
  refine at_cv3 cvL_25 sd_0 (hE) (by decide) ⟨Nat.le_of_ble_eq_true rfl, Nat.le_of_ble_eq_true rfl⟩ (Nat.le_of_ble_eq_true rfl) dL_sign_7 (pd_kx (fun hj0 I2 L2 R2 hP => ?_) hX)
  refine at_i2l dL_sign_10 ?_
  refine at_last sd_137 (vp_in_nI (n := 0) (by decide) (by decide)) dL_sign_11 ?_
  refine at_goto (tgt := 27) dL_sign_12 (by decide) ?_
  refine at_iconst dL_sign_27 pc_i0 ?_
  refine at_iret rfl dL_sign_28 ?_
  exact h_yes hj0 hP
theorem ev_L_erase (p0 p1 : Int32) {v : Int32} (hE : pd_Ev G mi_X8_erase 8 3 18 [.ref (pd_z G + 0), .int p0, .int p1] (SD, false, I, L, R) (q_x I L R j (.int v) P)) (hj : j = 0 ∨ j = 8) : pd_Ev G mi_L_erase 9 3 18 [.ref (pd_z G + 0), .int p0, .int p1, .ref (pd_z G + 137)] (SD, false, I, L, R) (h_x I L R j 7 (v.toInt64) P) := by
  have hX : j ≠ 0 → pd_Xt G mi_L_erase 9 3 18 (0 + 3) (0 + 18) 5 [some (.ref (pd_z G + 0)), some (.int p0), some (.int p1), some (.ref (pd_z G + 137)), none] [.int 0, .ref (pd_z G + 137)] (SD, false, pd_up I 0 j (I 0 j + 1), L, R) (h_x I L R j 7 (v.toInt64) P) (xE j) := by
    intro hj0
    rcases hj with rfl | rfl
    · exact absurd rfl hj0
    · refine at_catch [] (0, 10, 13, 23) [] rfl (fun y hy => by cases hy) (by decide) (by decide) lk_23 ca_8 (fun q => ?_)
      refine at_astore dL_erase_13 rfl (Nat.le_of_ble_eq_true rfl) ?_
      refine at_iconst dL_erase_15 pc_i1 ?_
      refine at_iret rfl dL_erase_16 ?_
      exact h_no (by decide) rfl
  refine pd_ev 1 (lo := [some (.ref (pd_z G + 0)), some (.int p0), some (.int p1), some (.ref (pd_z G + 137)), none]) (by decide +kernel) (Nat.le_of_ble_eq_true rfl) rfl ?_
  refine at_aload_n dL_erase_0 rfl ?_
  refine at_iconst dL_erase_1 pc_i0 ?_
  refine at_aload_n dL_erase_2 rfl ?_
  refine at_iload_n dL_erase_3 rfl ?_
  refine at_iload_n dL_erase_4 rfl ?_
  refine at_cv2 cvL_30 sd_0 (hE) (by decide) ⟨Nat.le_of_ble_eq_true rfl, Nat.le_of_ble_eq_true rfl⟩ (Nat.le_of_ble_eq_true rfl) dL_erase_5 (pd_kx (fun hj0 I2 L2 R2 hP => ?_) hX)
  refine at_i2l dL_erase_8 ?_
  refine at_last sd_137 (vp_in_nI (n := 0) (by decide) (by decide)) dL_erase_9 ?_
  refine at_goto (tgt := 17) dL_erase_10 (by decide) ?_
  refine at_iconst dL_erase_17 pc_i0 ?_
  refine at_iret rfl dL_erase_18 ?_
  exact h_yes hj0 hP
theorem ev_L_told (p0 : Int32) {v : Int32} (hE : pd_Ev G mi_X8_told 8 3 18 [.ref (pd_z G + 0), .int p0] (SD, false, I, L, R) (q_x I L R j (.int v) P)) (hj : j = 0 ∨ j = 9) : pd_Ev G mi_L_told 9 3 18 [.ref (pd_z G + 0), .int p0, .ref (pd_z G + 137)] (SD, false, I, L, R) (h_x I L R j 8 (v.toInt64) P) := by
  have hX : j ≠ 0 → pd_Xt G mi_L_told 9 3 18 (0 + 3) (0 + 18) 4 [some (.ref (pd_z G + 0)), some (.int p0), some (.ref (pd_z G + 137)), none] [.int 0, .ref (pd_z G + 137)] (SD, false, pd_up I 0 j (I 0 j + 1), L, R) (h_x I L R j 8 (v.toInt64) P) (xE j) := by
    intro hj0
    rcases hj with rfl | rfl
    · exact absurd rfl hj0
    · refine at_catch [] (0, 9, 12, 13) [] rfl (fun y hy => by cases hy) (by decide) (by decide) lk_13 ca_9 (fun q => ?_)
      refine at_astore_n dL_told_12 rfl (Nat.le_of_ble_eq_true rfl) ?_
      refine at_iconst dL_told_13 pc_i1 ?_
      refine at_iret rfl dL_told_14 ?_
      exact h_no (by decide) rfl
  refine pd_ev 1 (lo := [some (.ref (pd_z G + 0)), some (.int p0), some (.ref (pd_z G + 137)), none]) (by decide +kernel) (Nat.le_of_ble_eq_true rfl) rfl ?_
  refine at_aload_n dL_told_0 rfl ?_
  refine at_iconst dL_told_1 pc_i0 ?_
  refine at_aload_n dL_told_2 rfl ?_
  refine at_iload_n dL_told_3 rfl ?_
  refine at_cv1 cvL_34 sd_0 (hE) (by decide) ⟨Nat.le_of_ble_eq_true rfl, Nat.le_of_ble_eq_true rfl⟩ (Nat.le_of_ble_eq_true rfl) dL_told_4 (pd_kx (fun hj0 I2 L2 R2 hP => ?_) hX)
  refine at_i2l dL_told_7 ?_
  refine at_last sd_137 (vp_in_nI (n := 0) (by decide) (by decide)) dL_told_8 ?_
  refine at_goto (tgt := 15) dL_told_9 (by decide) ?_
  refine at_iconst dL_told_15 pc_i0 ?_
  refine at_iret rfl dL_told_16 ?_
  exact h_yes hj0 hP
theorem ev_L_voter (p0 p1 : Int32) {v : Int32} (hE : pd_Ev G mi_X8_voter 8 3 18 [.ref (pd_z G + 0), .int p0, .int p1] (SD, false, I, L, R) (q_x I L R j (.int v) P)) (hj : j = 0 ∨ j = 8 ∨ j = 9) : pd_Ev G mi_L_voter 9 3 18 [.ref (pd_z G + 0), .int p0, .int p1, .ref (pd_z G + 137)] (SD, false, I, L, R) (h_x I L R j 7 (v.toInt64) P) := by
  have hX : j ≠ 0 → pd_Xt G mi_L_voter 9 3 18 (0 + 3) (0 + 18) 5 [some (.ref (pd_z G + 0)), some (.int p0), some (.int p1), some (.ref (pd_z G + 137)), none] [.int 0, .ref (pd_z G + 137)] (SD, false, pd_up I 0 j (I 0 j + 1), L, R) (h_x I L R j 7 (v.toInt64) P) (xE j) := by
    intro hj0
    rcases hj with rfl | rfl | rfl
    · exact absurd rfl hj0
    · refine at_catch [] (0, 10, 13, 23) [(0, 10, 17, 13)] rfl (fun y hy => by cases hy) (by decide) (by decide) lk_23 ca_8 (fun q => ?_)
      refine at_astore dL_voter_13 rfl (Nat.le_of_ble_eq_true rfl) ?_
      refine at_iconst dL_voter_15 pc_i1 ?_
      refine at_iret rfl dL_voter_16 ?_
      exact h_no (by decide) rfl
    · refine at_catch [(0, 10, 13, 23)] (0, 10, 17, 13) [] rfl (fun y hy => by
        simp only [List.mem_cons, List.not_mem_nil, or_false] at hy
        rcases hy with rfl
        · exact ⟨by decide, _, lk_23, nc_98⟩) (by decide) (by decide) lk_13 ca_9 (fun q => ?_)
      refine at_astore dL_voter_17 rfl (Nat.le_of_ble_eq_true rfl) ?_
      refine at_iconst dL_voter_19 pc_i2 ?_
      refine at_iret rfl dL_voter_20 ?_
      exact h_no (by decide) rfl
  refine pd_ev 1 (lo := [some (.ref (pd_z G + 0)), some (.int p0), some (.int p1), some (.ref (pd_z G + 137)), none]) (by decide +kernel) (Nat.le_of_ble_eq_true rfl) rfl ?_
  refine at_aload_n dL_voter_0 rfl ?_
  refine at_iconst dL_voter_1 pc_i0 ?_
  refine at_aload_n dL_voter_2 rfl ?_
  refine at_iload_n dL_voter_3 rfl ?_
  refine at_iload_n dL_voter_4 rfl ?_
  refine at_cv2 cvL_37 sd_0 (hE) (by decide) ⟨Nat.le_of_ble_eq_true rfl, Nat.le_of_ble_eq_true rfl⟩ (Nat.le_of_ble_eq_true rfl) dL_voter_5 (pd_kx (fun hj0 I2 L2 R2 hP => ?_) hX)
  refine at_i2l dL_voter_8 ?_
  refine at_last sd_137 (vp_in_nI (n := 0) (by decide) (by decide)) dL_voter_9 ?_
  refine at_goto (tgt := 21) dL_voter_10 (by decide) ?_
  refine at_iconst dL_voter_21 pc_i0 ?_
  refine at_iret rfl dL_voter_22 ?_
  exact h_yes hj0 hP
theorem ev_L_letter (p0 p1 : Int32) {v : Int32} (hE : pd_Ev G mi_X8_letter 8 3 18 [.ref (pd_z G + 0), .int p0, .int p1] (SD, false, I, L, R) (q_x I L R j (.int v) P)) (hj : j = 0 ∨ j = 8) : pd_Ev G mi_L_letter 9 3 18 [.ref (pd_z G + 0), .int p0, .int p1, .ref (pd_z G + 137)] (SD, false, I, L, R) (h_x I L R j 7 (v.toInt64) P) := by
  have hX : j ≠ 0 → pd_Xt G mi_L_letter 9 3 18 (0 + 3) (0 + 18) 5 [some (.ref (pd_z G + 0)), some (.int p0), some (.int p1), some (.ref (pd_z G + 137)), none] [.int 0, .ref (pd_z G + 137)] (SD, false, pd_up I 0 j (I 0 j + 1), L, R) (h_x I L R j 7 (v.toInt64) P) (xE j) := by
    intro hj0
    rcases hj with rfl | rfl
    · exact absurd rfl hj0
    · refine at_catch [] (0, 10, 13, 23) [] rfl (fun y hy => by cases hy) (by decide) (by decide) lk_23 ca_8 (fun q => ?_)
      refine at_astore dL_letter_13 rfl (Nat.le_of_ble_eq_true rfl) ?_
      refine at_iconst dL_letter_15 pc_i1 ?_
      refine at_iret rfl dL_letter_16 ?_
      exact h_no (by decide) rfl
  refine pd_ev 1 (lo := [some (.ref (pd_z G + 0)), some (.int p0), some (.int p1), some (.ref (pd_z G + 137)), none]) (by decide +kernel) (Nat.le_of_ble_eq_true rfl) rfl ?_
  refine at_aload_n dL_letter_0 rfl ?_
  refine at_iconst dL_letter_1 pc_i0 ?_
  refine at_aload_n dL_letter_2 rfl ?_
  refine at_iload_n dL_letter_3 rfl ?_
  refine at_iload_n dL_letter_4 rfl ?_
  refine at_cv2 cvL_40 sd_0 (hE) (by decide) ⟨Nat.le_of_ble_eq_true rfl, Nat.le_of_ble_eq_true rfl⟩ (Nat.le_of_ble_eq_true rfl) dL_letter_5 (pd_kx (fun hj0 I2 L2 R2 hP => ?_) hX)
  refine at_i2l dL_letter_8 ?_
  refine at_last sd_137 (vp_in_nI (n := 0) (by decide) (by decide)) dL_letter_9 ?_
  refine at_goto (tgt := 17) dL_letter_10 (by decide) ?_
  refine at_iconst dL_letter_17 pc_i0 ?_
  refine at_iret rfl dL_letter_18 ?_
  exact h_yes hj0 hP
theorem ev_L_sheet (p0 p1 : Int32) {v : Int32} (hE : pd_Ev G mi_X8_sheet 8 3 18 [.ref (pd_z G + 0), .int p0, .int p1] (SD, false, I, L, R) (q_x I L R j (.int v) P)) (hj : j = 0 ∨ j = 8 ∨ j = 9) : pd_Ev G mi_L_sheet 9 3 18 [.ref (pd_z G + 0), .int p0, .int p1, .ref (pd_z G + 137)] (SD, false, I, L, R) (h_x I L R j 7 (v.toInt64) P) := by
  have hX : j ≠ 0 → pd_Xt G mi_L_sheet 9 3 18 (0 + 3) (0 + 18) 5 [some (.ref (pd_z G + 0)), some (.int p0), some (.int p1), some (.ref (pd_z G + 137)), none] [.int 0, .ref (pd_z G + 137)] (SD, false, pd_up I 0 j (I 0 j + 1), L, R) (h_x I L R j 7 (v.toInt64) P) (xE j) := by
    intro hj0
    rcases hj with rfl | rfl | rfl
    · exact absurd rfl hj0
    · refine at_catch [] (0, 10, 13, 23) [(0, 10, 17, 13)] rfl (fun y hy => by cases hy) (by decide) (by decide) lk_23 ca_8 (fun q => ?_)
      refine at_astore dL_sheet_13 rfl (Nat.le_of_ble_eq_true rfl) ?_
      refine at_iconst dL_sheet_15 pc_i1 ?_
      refine at_iret rfl dL_sheet_16 ?_
      exact h_no (by decide) rfl
    · refine at_catch [(0, 10, 13, 23)] (0, 10, 17, 13) [] rfl (fun y hy => by
        simp only [List.mem_cons, List.not_mem_nil, or_false] at hy
        rcases hy with rfl
        · exact ⟨by decide, _, lk_23, nc_98⟩) (by decide) (by decide) lk_13 ca_9 (fun q => ?_)
      refine at_astore dL_sheet_17 rfl (Nat.le_of_ble_eq_true rfl) ?_
      refine at_iconst dL_sheet_19 pc_i2 ?_
      refine at_iret rfl dL_sheet_20 ?_
      exact h_no (by decide) rfl
  refine pd_ev 1 (lo := [some (.ref (pd_z G + 0)), some (.int p0), some (.int p1), some (.ref (pd_z G + 137)), none]) (by decide +kernel) (Nat.le_of_ble_eq_true rfl) rfl ?_
  refine at_aload_n dL_sheet_0 rfl ?_
  refine at_iconst dL_sheet_1 pc_i0 ?_
  refine at_aload_n dL_sheet_2 rfl ?_
  refine at_iload_n dL_sheet_3 rfl ?_
  refine at_iload_n dL_sheet_4 rfl ?_
  refine at_cv2 cvL_43 sd_0 (hE) (by decide) ⟨Nat.le_of_ble_eq_true rfl, Nat.le_of_ble_eq_true rfl⟩ (Nat.le_of_ble_eq_true rfl) dL_sheet_5 (pd_kx (fun hj0 I2 L2 R2 hP => ?_) hX)
  refine at_i2l dL_sheet_8 ?_
  refine at_last sd_137 (vp_in_nI (n := 0) (by decide) (by decide)) dL_sheet_9 ?_
  refine at_goto (tgt := 21) dL_sheet_10 (by decide) ?_
  refine at_iconst dL_sheet_21 pc_i0 ?_
  refine at_iret rfl dL_sheet_22 ?_
  exact h_yes hj0 hP
theorem ev_L_line (p0 p1 p2 : Int32) {v : Int32} (hE : pd_Ev G mi_X8_line 8 3 18 [.ref (pd_z G + 0), .int p0, .int p1, .int p2] (SD, false, I, L, R) (q_x I L R j (.int v) P)) (hj : j = 0 ∨ j = 8 ∨ j = 9) : pd_Ev G mi_L_line 9 3 18 [.ref (pd_z G + 0), .int p0, .int p1, .int p2, .ref (pd_z G + 137)] (SD, false, I, L, R) (h_x I L R j 7 (v.toInt64) P) := by
  have hX : j ≠ 0 → pd_Xt G mi_L_line 9 3 18 (0 + 3) (0 + 18) 7 [some (.ref (pd_z G + 0)), some (.int p0), some (.int p1), some (.int p2), some (.ref (pd_z G + 137)), none] [.int 0, .ref (pd_z G + 137)] (SD, false, pd_up I 0 j (I 0 j + 1), L, R) (h_x I L R j 7 (v.toInt64) P) (xE j) := by
    intro hj0
    rcases hj with rfl | rfl | rfl
    · exact absurd rfl hj0
    · refine at_catch [] (0, 12, 15, 23) [(0, 12, 19, 13)] rfl (fun y hy => by cases hy) (by decide) (by decide) lk_23 ca_8 (fun q => ?_)
      refine at_astore dL_line_15 rfl (Nat.le_of_ble_eq_true rfl) ?_
      refine at_iconst dL_line_17 pc_i1 ?_
      refine at_iret rfl dL_line_18 ?_
      exact h_no (by decide) rfl
    · refine at_catch [(0, 12, 15, 23)] (0, 12, 19, 13) [] rfl (fun y hy => by
        simp only [List.mem_cons, List.not_mem_nil, or_false] at hy
        rcases hy with rfl
        · exact ⟨by decide, _, lk_23, nc_98⟩) (by decide) (by decide) lk_13 ca_9 (fun q => ?_)
      refine at_astore dL_line_19 rfl (Nat.le_of_ble_eq_true rfl) ?_
      refine at_iconst dL_line_21 pc_i2 ?_
      refine at_iret rfl dL_line_22 ?_
      exact h_no (by decide) rfl
  refine pd_ev 1 (lo := [some (.ref (pd_z G + 0)), some (.int p0), some (.int p1), some (.int p2), some (.ref (pd_z G + 137)), none]) (by decide +kernel) (Nat.le_of_ble_eq_true rfl) rfl ?_
  refine at_aload dL_line_0 rfl ?_
  refine at_iconst dL_line_2 pc_i0 ?_
  refine at_aload_n dL_line_3 rfl ?_
  refine at_iload_n dL_line_4 rfl ?_
  refine at_iload_n dL_line_5 rfl ?_
  refine at_iload_n dL_line_6 rfl ?_
  refine at_cv3 cvL_46 sd_0 (hE) (by decide) ⟨Nat.le_of_ble_eq_true rfl, Nat.le_of_ble_eq_true rfl⟩ (Nat.le_of_ble_eq_true rfl) dL_line_7 (pd_kx (fun hj0 I2 L2 R2 hP => ?_) hX)
  refine at_i2l dL_line_10 ?_
  refine at_last sd_137 (vp_in_nI (n := 0) (by decide) (by decide)) dL_line_11 ?_
  refine at_goto (tgt := 23) dL_line_12 (by decide) ?_
  refine at_iconst dL_line_23 pc_i0 ?_
  refine at_iret rfl dL_line_24 ?_
  exact h_yes hj0 hP
theorem ev_L_judged (p0 : Int32) {v : Int32} (hE : pd_Ev G mi_X8_judged 8 3 18 [.ref (pd_z G + 0), .int p0] (SD, false, I, L, R) (q_x I L R j (.int v) P)) (hj : j = 0 ∨ j = 9) : pd_Ev G mi_L_judged 9 3 18 [.ref (pd_z G + 0), .int p0, .ref (pd_z G + 137)] (SD, false, I, L, R) (h_x I L R j 8 (v.toInt64) P) := by
  have hX : j ≠ 0 → pd_Xt G mi_L_judged 9 3 18 (0 + 3) (0 + 18) 4 [some (.ref (pd_z G + 0)), some (.int p0), some (.ref (pd_z G + 137)), none] [.int 0, .ref (pd_z G + 137)] (SD, false, pd_up I 0 j (I 0 j + 1), L, R) (h_x I L R j 8 (v.toInt64) P) (xE j) := by
    intro hj0
    rcases hj with rfl | rfl
    · exact absurd rfl hj0
    · refine at_catch [] (0, 9, 12, 13) [] rfl (fun y hy => by cases hy) (by decide) (by decide) lk_13 ca_9 (fun q => ?_)
      refine at_astore_n dL_judged_12 rfl (Nat.le_of_ble_eq_true rfl) ?_
      refine at_iconst dL_judged_13 pc_i1 ?_
      refine at_iret rfl dL_judged_14 ?_
      exact h_no (by decide) rfl
  refine pd_ev 1 (lo := [some (.ref (pd_z G + 0)), some (.int p0), some (.ref (pd_z G + 137)), none]) (by decide +kernel) (Nat.le_of_ble_eq_true rfl) rfl ?_
  refine at_aload_n dL_judged_0 rfl ?_
  refine at_iconst dL_judged_1 pc_i0 ?_
  refine at_aload_n dL_judged_2 rfl ?_
  refine at_iload_n dL_judged_3 rfl ?_
  refine at_cv1 cvL_49 sd_0 (hE) (by decide) ⟨Nat.le_of_ble_eq_true rfl, Nat.le_of_ble_eq_true rfl⟩ (Nat.le_of_ble_eq_true rfl) dL_judged_4 (pd_kx (fun hj0 I2 L2 R2 hP => ?_) hX)
  refine at_i2l dL_judged_7 ?_
  refine at_last sd_137 (vp_in_nI (n := 0) (by decide) (by decide)) dL_judged_8 ?_
  refine at_goto (tgt := 15) dL_judged_9 (by decide) ?_
  refine at_iconst dL_judged_15 pc_i0 ?_
  refine at_iret rfl dL_judged_16 ?_
  exact h_yes hj0 hP
theorem ev_L_drawn (p0 p1 : Int32) {v : Int32} (hE : pd_Ev G mi_X8_drawn 8 3 18 [.ref (pd_z G + 0), .int p0, .int p1] (SD, false, I, L, R) (q_x I L R j (.int v) P)) (hj : j = 0 ∨ j = 9) : pd_Ev G mi_L_drawn 9 3 18 [.ref (pd_z G + 0), .int p0, .int p1, .ref (pd_z G + 137)] (SD, false, I, L, R) (h_x I L R j 8 (v.toInt64) P) := by
  have hX : j ≠ 0 → pd_Xt G mi_L_drawn 9 3 18 (0 + 3) (0 + 18) 5 [some (.ref (pd_z G + 0)), some (.int p0), some (.int p1), some (.ref (pd_z G + 137)), none] [.int 0, .ref (pd_z G + 137)] (SD, false, pd_up I 0 j (I 0 j + 1), L, R) (h_x I L R j 8 (v.toInt64) P) (xE j) := by
    intro hj0
    rcases hj with rfl | rfl
    · exact absurd rfl hj0
    · refine at_catch [] (0, 10, 13, 13) [] rfl (fun y hy => by cases hy) (by decide) (by decide) lk_13 ca_9 (fun q => ?_)
      refine at_astore dL_drawn_13 rfl (Nat.le_of_ble_eq_true rfl) ?_
      refine at_iconst dL_drawn_15 pc_i1 ?_
      refine at_iret rfl dL_drawn_16 ?_
      exact h_no (by decide) rfl
  refine pd_ev 1 (lo := [some (.ref (pd_z G + 0)), some (.int p0), some (.int p1), some (.ref (pd_z G + 137)), none]) (by decide +kernel) (Nat.le_of_ble_eq_true rfl) rfl ?_
  refine at_aload_n dL_drawn_0 rfl ?_
  refine at_iconst dL_drawn_1 pc_i0 ?_
  refine at_aload_n dL_drawn_2 rfl ?_
  refine at_iload_n dL_drawn_3 rfl ?_
  refine at_iload_n dL_drawn_4 rfl ?_
  refine at_cv2 cvL_52 sd_0 (hE) (by decide) ⟨Nat.le_of_ble_eq_true rfl, Nat.le_of_ble_eq_true rfl⟩ (Nat.le_of_ble_eq_true rfl) dL_drawn_5 (pd_kx (fun hj0 I2 L2 R2 hP => ?_) hX)
  refine at_i2l dL_drawn_8 ?_
  refine at_last sd_137 (vp_in_nI (n := 0) (by decide) (by decide)) dL_drawn_9 ?_
  refine at_goto (tgt := 17) dL_drawn_10 (by decide) ?_
  refine at_iconst dL_drawn_17 pc_i0 ?_
  refine at_iret rfl dL_drawn_18 ?_
  exact h_yes hj0 hP
theorem ev_L_estimate (p0 p1 : Int32) {v : Int64} (hE : pd_Ev G mi_X8_estimate 8 3 18 [.ref (pd_z G + 0), .int p0, .int p1] (SD, false, I, L, R) (q_x I L R j (.long v) P)) (hj : j = 0 ∨ j = 9 ∨ j = 10) : pd_Ev G mi_L_estimate 9 3 18 [.ref (pd_z G + 0), .int p0, .int p1, .ref (pd_z G + 137)] (SD, false, I, L, R) (h_x I L R j 8 (v) P) := by
  have hX : j ≠ 0 → pd_Xt G mi_L_estimate 9 3 18 (0 + 3) (0 + 18) 5 [some (.ref (pd_z G + 0)), some (.int p0), some (.int p1), some (.ref (pd_z G + 137)), none] [.int 0, .ref (pd_z G + 137)] (SD, false, pd_up I 0 j (I 0 j + 1), L, R) (h_x I L R j 8 (v) P) (xE j) := by
    intro hj0
    rcases hj with rfl | rfl | rfl
    · exact absurd rfl hj0
    · refine at_catch [] (0, 9, 12, 13) [(0, 9, 16, 28)] rfl (fun y hy => by cases hy) (by decide) (by decide) lk_13 ca_9 (fun q => ?_)
      refine at_astore dL_estimate_12 rfl (Nat.le_of_ble_eq_true rfl) ?_
      refine at_iconst dL_estimate_14 pc_i1 ?_
      refine at_iret rfl dL_estimate_15 ?_
      exact h_no (by decide) rfl
    · refine at_catch [(0, 9, 12, 13)] (0, 9, 16, 28) [] rfl (fun y hy => by
        simp only [List.mem_cons, List.not_mem_nil, or_false] at hy
        rcases hy with rfl
        · exact ⟨by decide, _, lk_13, nc_109⟩) (by decide) (by decide) lk_28 ca_10 (fun q => ?_)
      refine at_astore dL_estimate_16 rfl (Nat.le_of_ble_eq_true rfl) ?_
      refine at_iconst dL_estimate_18 pc_i2 ?_
      refine at_iret rfl dL_estimate_19 ?_
      exact h_no (by decide) rfl
  refine pd_ev 1 (lo := [some (.ref (pd_z G + 0)), some (.int p0), some (.int p1), some (.ref (pd_z G + 137)), none]) (by decide +kernel) (Nat.le_of_ble_eq_true rfl) rfl ?_
  refine at_aload_n dL_estimate_0 rfl ?_
  refine at_iconst dL_estimate_1 pc_i0 ?_
  refine at_aload_n dL_estimate_2 rfl ?_
  refine at_iload_n dL_estimate_3 rfl ?_
  refine at_iload_n dL_estimate_4 rfl ?_
  refine at_cv2 cvL_55 sd_0 (hE) (by decide) ⟨Nat.le_of_ble_eq_true rfl, Nat.le_of_ble_eq_true rfl⟩ (Nat.le_of_ble_eq_true rfl) dL_estimate_5 (pd_kx (fun hj0 I2 L2 R2 hP => ?_) hX)
  refine at_last sd_137 (vp_in_nI (n := 0) (by decide) (by decide)) dL_estimate_8 ?_
  refine at_goto (tgt := 20) dL_estimate_9 (by decide) ?_
  refine at_iconst dL_estimate_20 pc_i0 ?_
  refine at_iret rfl dL_estimate_21 ?_
  exact h_yes hj0 hP
theorem ev_L_unlike (p0 : Int32) {v : Int32} (hE : pd_Ev G mi_X8_unlike 8 3 18 [.ref (pd_z G + 0), .int p0] (SD, false, I, L, R) (q_x I L R j (.int v) P)) (hj : j = 0 ∨ j = 9) : pd_Ev G mi_L_unlike 9 3 18 [.ref (pd_z G + 0), .int p0, .ref (pd_z G + 137)] (SD, false, I, L, R) (h_x I L R j 8 (v.toInt64) P) := by
  have hX : j ≠ 0 → pd_Xt G mi_L_unlike 9 3 18 (0 + 3) (0 + 18) 4 [some (.ref (pd_z G + 0)), some (.int p0), some (.ref (pd_z G + 137)), none] [.int 0, .ref (pd_z G + 137)] (SD, false, pd_up I 0 j (I 0 j + 1), L, R) (h_x I L R j 8 (v.toInt64) P) (xE j) := by
    intro hj0
    rcases hj with rfl | rfl
    · exact absurd rfl hj0
    · refine at_catch [] (0, 9, 12, 13) [] rfl (fun y hy => by cases hy) (by decide) (by decide) lk_13 ca_9 (fun q => ?_)
      refine at_astore_n dL_unlike_12 rfl (Nat.le_of_ble_eq_true rfl) ?_
      refine at_iconst dL_unlike_13 pc_i1 ?_
      refine at_iret rfl dL_unlike_14 ?_
      exact h_no (by decide) rfl
  refine pd_ev 1 (lo := [some (.ref (pd_z G + 0)), some (.int p0), some (.ref (pd_z G + 137)), none]) (by decide +kernel) (Nat.le_of_ble_eq_true rfl) rfl ?_
  refine at_aload_n dL_unlike_0 rfl ?_
  refine at_iconst dL_unlike_1 pc_i0 ?_
  refine at_aload_n dL_unlike_2 rfl ?_
  refine at_iload_n dL_unlike_3 rfl ?_
  refine at_cv1 cvL_59 sd_0 (hE) (by decide) ⟨Nat.le_of_ble_eq_true rfl, Nat.le_of_ble_eq_true rfl⟩ (Nat.le_of_ble_eq_true rfl) dL_unlike_4 (pd_kx (fun hj0 I2 L2 R2 hP => ?_) hX)
  refine at_i2l dL_unlike_7 ?_
  refine at_last sd_137 (vp_in_nI (n := 0) (by decide) (by decide)) dL_unlike_8 ?_
  refine at_goto (tgt := 15) dL_unlike_9 (by decide) ?_
  refine at_iconst dL_unlike_15 pc_i0 ?_
  refine at_iret rfl dL_unlike_16 ?_
  exact h_yes hj0 hP
theorem ev_L_unseen (p0 p1 : Int32) {v : Int64} (hE : pd_Ev G mi_X8_unseen 8 3 18 [.ref (pd_z G + 0), .int p0, .int p1] (SD, false, I, L, R) (q_x I L R j (.long v) P)) (hj : j = 0 ∨ j = 9) : pd_Ev G mi_L_unseen 9 3 18 [.ref (pd_z G + 0), .int p0, .int p1, .ref (pd_z G + 137)] (SD, false, I, L, R) (h_x I L R j 8 (v) P) := by
  have hX : j ≠ 0 → pd_Xt G mi_L_unseen 9 3 18 (0 + 3) (0 + 18) 5 [some (.ref (pd_z G + 0)), some (.int p0), some (.int p1), some (.ref (pd_z G + 137)), none] [.int 0, .ref (pd_z G + 137)] (SD, false, pd_up I 0 j (I 0 j + 1), L, R) (h_x I L R j 8 (v) P) (xE j) := by
    intro hj0
    rcases hj with rfl | rfl
    · exact absurd rfl hj0
    · refine at_catch [] (0, 9, 12, 13) [] rfl (fun y hy => by cases hy) (by decide) (by decide) lk_13 ca_9 (fun q => ?_)
      refine at_astore dL_unseen_12 rfl (Nat.le_of_ble_eq_true rfl) ?_
      refine at_iconst dL_unseen_14 pc_i1 ?_
      refine at_iret rfl dL_unseen_15 ?_
      exact h_no (by decide) rfl
  refine pd_ev 1 (lo := [some (.ref (pd_z G + 0)), some (.int p0), some (.int p1), some (.ref (pd_z G + 137)), none]) (by decide +kernel) (Nat.le_of_ble_eq_true rfl) rfl ?_
  refine at_aload_n dL_unseen_0 rfl ?_
  refine at_iconst dL_unseen_1 pc_i0 ?_
  refine at_aload_n dL_unseen_2 rfl ?_
  refine at_iload_n dL_unseen_3 rfl ?_
  refine at_iload_n dL_unseen_4 rfl ?_
  refine at_cv2 cvL_62 sd_0 (hE) (by decide) ⟨Nat.le_of_ble_eq_true rfl, Nat.le_of_ble_eq_true rfl⟩ (Nat.le_of_ble_eq_true rfl) dL_unseen_5 (pd_kx (fun hj0 I2 L2 R2 hP => ?_) hX)
  refine at_last sd_137 (vp_in_nI (n := 0) (by decide) (by decide)) dL_unseen_8 ?_
  refine at_goto (tgt := 16) dL_unseen_9 (by decide) ?_
  refine at_iconst dL_unseen_16 pc_i0 ?_
  refine at_iret rfl dL_unseen_17 ?_
  exact h_yes hj0 hP
theorem ev_L_worst (p0 p1 : Int32) {v : Int32} (hE : pd_Ev G mi_X8_worst 8 3 18 [.ref (pd_z G + 0), .int p0, .int p1] (SD, false, I, L, R) (q_x I L R j (.int v) P)) (hj : j = 0 ∨ j = 9) : pd_Ev G mi_L_worst 9 3 18 [.ref (pd_z G + 0), .int p0, .int p1, .ref (pd_z G + 137)] (SD, false, I, L, R) (h_x I L R j 8 (v.toInt64) P) := by
  have hX : j ≠ 0 → pd_Xt G mi_L_worst 9 3 18 (0 + 3) (0 + 18) 5 [some (.ref (pd_z G + 0)), some (.int p0), some (.int p1), some (.ref (pd_z G + 137)), none] [.int 0, .ref (pd_z G + 137)] (SD, false, pd_up I 0 j (I 0 j + 1), L, R) (h_x I L R j 8 (v.toInt64) P) (xE j) := by
    intro hj0
    rcases hj with rfl | rfl
    · exact absurd rfl hj0
    · refine at_catch [] (0, 10, 13, 13) [] rfl (fun y hy => by cases hy) (by decide) (by decide) lk_13 ca_9 (fun q => ?_)
      refine at_astore dL_worst_13 rfl (Nat.le_of_ble_eq_true rfl) ?_
      refine at_iconst dL_worst_15 pc_i1 ?_
      refine at_iret rfl dL_worst_16 ?_
      exact h_no (by decide) rfl
  refine pd_ev 1 (lo := [some (.ref (pd_z G + 0)), some (.int p0), some (.int p1), some (.ref (pd_z G + 137)), none]) (by decide +kernel) (Nat.le_of_ble_eq_true rfl) rfl ?_
  refine at_aload_n dL_worst_0 rfl ?_
  refine at_iconst dL_worst_1 pc_i0 ?_
  refine at_aload_n dL_worst_2 rfl ?_
  refine at_iload_n dL_worst_3 rfl ?_
  refine at_iload_n dL_worst_4 rfl ?_
  refine at_cv2 cvL_65 sd_0 (hE) (by decide) ⟨Nat.le_of_ble_eq_true rfl, Nat.le_of_ble_eq_true rfl⟩ (Nat.le_of_ble_eq_true rfl) dL_worst_5 (pd_kx (fun hj0 I2 L2 R2 hP => ?_) hX)
  refine at_i2l dL_worst_8 ?_
  refine at_last sd_137 (vp_in_nI (n := 0) (by decide) (by decide)) dL_worst_9 ?_
  refine at_goto (tgt := 17) dL_worst_10 (by decide) ?_
  refine at_iconst dL_worst_17 pc_i0 ?_
  refine at_iret rfl dL_worst_18 ?_
  exact h_yes hj0 hP
theorem ev_L_cost (p0 : Int32) {v : Int32} (hE : pd_Ev G mi_X8_cost 8 3 18 [.ref (pd_z G + 0), .int p0] (SD, false, I, L, R) (q_x I L R j (.int v) P)) (hj : j = 0 ∨ j = 9) : pd_Ev G mi_L_cost 9 3 18 [.ref (pd_z G + 0), .int p0, .ref (pd_z G + 137)] (SD, false, I, L, R) (h_x I L R j 8 (v.toInt64) P) := by
  have hX : j ≠ 0 → pd_Xt G mi_L_cost 9 3 18 (0 + 3) (0 + 18) 4 [some (.ref (pd_z G + 0)), some (.int p0), some (.ref (pd_z G + 137)), none] [.int 0, .ref (pd_z G + 137)] (SD, false, pd_up I 0 j (I 0 j + 1), L, R) (h_x I L R j 8 (v.toInt64) P) (xE j) := by
    intro hj0
    rcases hj with rfl | rfl
    · exact absurd rfl hj0
    · refine at_catch [] (0, 9, 12, 13) [] rfl (fun y hy => by cases hy) (by decide) (by decide) lk_13 ca_9 (fun q => ?_)
      refine at_astore_n dL_cost_12 rfl (Nat.le_of_ble_eq_true rfl) ?_
      refine at_iconst dL_cost_13 pc_i1 ?_
      refine at_iret rfl dL_cost_14 ?_
      exact h_no (by decide) rfl
  refine pd_ev 1 (lo := [some (.ref (pd_z G + 0)), some (.int p0), some (.ref (pd_z G + 137)), none]) (by decide +kernel) (Nat.le_of_ble_eq_true rfl) rfl ?_
  refine at_aload_n dL_cost_0 rfl ?_
  refine at_iconst dL_cost_1 pc_i0 ?_
  refine at_aload_n dL_cost_2 rfl ?_
  refine at_iload_n dL_cost_3 rfl ?_
  refine at_cv1 cvL_68 sd_0 (hE) (by decide) ⟨Nat.le_of_ble_eq_true rfl, Nat.le_of_ble_eq_true rfl⟩ (Nat.le_of_ble_eq_true rfl) dL_cost_4 (pd_kx (fun hj0 I2 L2 R2 hP => ?_) hX)
  refine at_i2l dL_cost_7 ?_
  refine at_last sd_137 (vp_in_nI (n := 0) (by decide) (by decide)) dL_cost_8 ?_
  refine at_goto (tgt := 15) dL_cost_9 (by decide) ?_
  refine at_iconst dL_cost_15 pc_i0 ?_
  refine at_iret rfl dL_cost_16 ?_
  exact h_yes hj0 hP
end LAWH
