/-! ===== the reference: the easy questions ===== -/
theorem inL_c (x : Int32) {l m : Int64} (l' m' : Int32) (hl : l = l'.toInt64) (hm : m = m'.toInt64) : inL x.toInt64 l m = inR x l' m' := by rw [hl, hm, inL_w]
/-- what a question may change -/
def QK (I : Nat → Nat → Int32) (L : Nat → Nat → Int64) (I' : Nat → Nat → Int32) (L' : Nat → Nat → Int64) : Prop := (∀ x j, x ≠ 133 → x ≠ 134 → x ≠ 135 → ¬ (x = 119 ∧ (j = 0 ∨ j = 19)) → I' x j = I x j) ∧ ∀ x, x ≠ 136 → ∀ j, L' x j = L x j
/-- j 0: it answers v; else it refuses, by the reason j -/
def m_x (I : Nat → Nat → Int32) (L : Nat → Nat → Int64) (R : Nat → Nat → Option Nat) (j d : Nat) (v v0 : Value) (P : (Nat → Nat → Int32) → (Nat → Nat → Int64) → Prop) : pd_O → pd_M → Prop := fun o M => if j = 0 then o = .inl (some v) ∧ ∃ I' L', M = (SD, false, I', L', R) ∧ I' 119 0 = 0 ∧ P I' L' else o = .inl (some v0) ∧ M = (SD, false, m_no (pd_up I 119 0 0) (j - d) (j - 8), L, R)
theorem m_yes {I L R} {j d : Nat} {v v0 v' : Value} {P} {I' L'} (hj : j = 0) (hv : v' = v) (h0 : I' 119 0 = 0) (hP : P I' L') : m_x I L R j d v v0 P (.inl (some v')) (SD, false, I', L', R) := by
  unfold m_x; rw [if_pos hj]; exact ⟨by rw [hv], I', L', rfl, h0, hP⟩
theorem m_rf {I L R} {j d c : Nat} (y : Nat) {v v0 : Value} {P} (hj : j = 8 + y) (hc : c = 8 + y - d) : m_x I L R j d v v0 P (.inl (some v0)) (SD, false, m_no (pd_up I 119 0 0) c y, L, R) := by
  unfold m_x; rw [if_neg (by omega), hj, hc, show 8 + y - 8 = y by omega]; exact ⟨rfl, rfl⟩
theorem JF.mq {I I' : Nat → Nat → Int32} {L : Nat → Nat → Int64} (h : JF (pd_up I 119 0 0) I') : QK I L I' L := ⟨fun x j q1 q2 q3 q4 => by rw [h x j q1 q2 q3 (by omega)]; unfold pd_up; rw [if_neg (by omega)], fun _ _ _ => rfl⟩
theorem JF.t0 {I I' : Nat → Nat → Int32} (h : JF (pd_up I 119 0 0) I') : I' 119 0 = 0 := (h 119 0 (by decide) (by decide) (by decide) (by decide)).trans pd_up_at
theorem up_mq {I : Nat → Nat → Int32} {L : Nat → Nat → Int64} : QK I L (pd_up I 119 0 0) L := ⟨fun x j q1 q2 q3 q4 => by unfold pd_up; rw [if_neg (by omega)], fun _ _ _ => rfl⟩
theorem RQ.up {I : Nat → Nat → Int32} {r : Nat → Int32} {j : Nat} {v : Int32} (h : RQ I 122 r) : RQ (pd_up I 119 j v) 122 r := fun k hk => (pd_up_nb (by decide)).trans (h k hk)
section REF5
variable {G : pd_G} {I : Nat → Nat → Int32} {L : Nat → Nat → Int64} {R : Nat → Nat → Option Nat} {nv ns nl : Nat} {e : List rl_S} {r : Nat → Int32}
theorem ev_X9_isSample {M : pd_M} (x : Int32) : pd_Ev G mi_X9_isSample 2 0 0 [.int x] M (pd_rt (.int (i_of (inR x 0 1))) M) := by
  refine pd_ev 0 (lo := [some (.int x)]) (by decide +kernel) (Nat.le_of_ble_eq_true rfl) rfl ?_
  refine at_iload_n dX9_isSample_0 rfl ?_
  refine at_i2l dX9_isSample_1 ?_
  refine at_lconst dX9_isSample_2 pc_l0 ?_
  refine at_lconst dX9_isSample_3 pc_l1 ?_
  refine at_cs3 csX9_107 (ev_X9_in _ _ _) (by decide) ⟨Nat.le_refl _, Nat.le_refl _⟩ (Nat.le_of_ble_eq_true rfl) dX9_isSample_4 (pd_k1 ?_)
  rw [inL_c x 0 1 (by decide) (by decide)]
  refine at_zret rfl dX9_isSample_7 (by cases inR x 0 1 <;> first | exact Or.inl rfl | exact Or.inr rfl) ?_
  exact ⟨rfl, rfl⟩
theorem ev_X9_isClean (hR : RS R) {f : Nat → Int32} (hf : ∀ k, k < nl → I 133 k = f k) (h40 : nl ≤ 40) {l : Nat} (hl : l < nl) : pd_Ev G mi_X9_isClean 1 0 0 [.ref (pd_z G + 119), .int (nI l)] (SD, false, I, L, R) (pd_rt (.int (i_of (decide (f l = 0) || decide (f l = 5)))) (SD, false, I, L, R)) := by
  have hcl : (nI l).toNatClampNeg = l := nI_clamp (by omega)
  refine pd_ev 0 (lo := [some (.ref (pd_z G + 119)), some (.int (nI l))]) (by decide +kernel) (Nat.le_of_ble_eq_true rfl) rfl ?_
  refine at_aload_n dX9_isClean_0 rfl ?_
  refine at_getr (133) flX9_31 rfl sd_119 (rs_119_16 hR) dX9_isClean_1 ?_
  refine at_iload_n dX9_isClean_4 rfl ?_
  refine at_iald sd_133 (vp_in_nI (by omega) (by decide)) dX9_isClean_5 ?_
  rw [hcl, hf l hl]
  refine at_ifeq (tgt := 19) dX9_isClean_6 (by decide) (fun c6 => ?_) (fun c6 => ?_)
  · -- taken 6
    refine at_iconst dX9_isClean_19 pc_i1 ?_
    refine at_goto (tgt := 24) dX9_isClean_20 (by decide) ?_
    refine at_zret rfl dX9_isClean_24 (by first | exact Or.inl rfl | exact Or.inr rfl | assumption) ?_
    refine ⟨?_, rfl⟩
    first | (rw [decide_eq_true c6, Bool.true_or]; rfl) | (rw [decide_eq_true c16, Bool.or_true]; rfl) | (rw [decide_eq_false c6, decide_eq_false c16]; rfl)
  · -- not taken 6
    refine at_aload_n dX9_isClean_9 rfl ?_
    refine at_getr (133) flX9_31 rfl sd_119 (rs_119_16 hR) dX9_isClean_10 ?_
    refine at_iload_n dX9_isClean_13 rfl ?_
    refine at_iald sd_133 (vp_in_nI (by omega) (by decide)) dX9_isClean_14 ?_
    rw [hcl, hf l hl]
    refine at_iconst dX9_isClean_15 pc_i5 ?_
    refine at_icmpne (tgt := 23) dX9_isClean_16 (by decide) (fun c16 => ?_) (fun c16 => ?_)
    · -- taken 16
      refine at_iconst dX9_isClean_23 pc_i0 ?_
      refine at_zret rfl dX9_isClean_24 (by first | exact Or.inl rfl | exact Or.inr rfl | assumption) ?_
      refine ⟨?_, rfl⟩
      first | (rw [decide_eq_true c6, Bool.true_or]; rfl) | (rw [decide_eq_true c16, Bool.or_true]; rfl) | (rw [decide_eq_false c6, decide_eq_false c16]; rfl)
    · -- not taken 16
      refine at_iconst dX9_isClean_19 pc_i1 ?_
      refine at_goto (tgt := 24) dX9_isClean_20 (by decide) ?_
      refine at_zret rfl dX9_isClean_24 (by first | exact Or.inl rfl | exact Or.inr rfl | assumption) ?_
      refine ⟨?_, rfl⟩
      first | (rw [decide_eq_true c6, Bool.true_or]; rfl) | (rw [decide_eq_true c16, Bool.or_true]; rfl) | (rw [decide_eq_false c6, decide_eq_false c16]; rfl)
theorem ev_X9_isIn (hR : RS R) (hq : RQ I 122 r) {w l : Nat} (hw : w < 2) (hl : l < 40) : pd_Ev G mi_X9_isIn 1 0 0 [.ref (pd_z G + 119), .int (nI w), .int (nI l)] (SD, false, I, L, R) (pd_rt (.int (i_of (sm r w l))) (SD, false, I, L, R)) := by
  have e1 : (225 : Int32) + 40 * nI w + nI l = nI (225 + 40 * w + l) := by rw [show (225 : Int32) = nI 225 from rfl, show (40 : Int32) = nI 40 from rfl, pk_mul, nI_add, nI_add]
  refine pd_ev 0 (lo := [some (.ref (pd_z G + 119)), some (.int (nI w)), some (.int (nI l))]) (by decide +kernel) (Nat.le_of_ble_eq_true rfl) rfl ?_
  refine at_aload_n dX9_isIn_0 rfl ?_
  refine at_getr (122) flX9_20 rfl sd_119 (rs_119_9 hR) dX9_isIn_1 ?_
  refine at_sipush dX9_isIn_4 pc_s225 ?_
  refine at_bipush dX9_isIn_7 pc_b40 ?_
  refine at_iload_n dX9_isIn_9 rfl ?_
  refine at_imul dX9_isIn_10 ?_
  refine at_iadd dX9_isIn_11 ?_
  refine at_iload_n dX9_isIn_12 rfl ?_
  refine at_iadd dX9_isIn_13 ?_
  rw [e1]
  refine at_iald sd_122 (vp_in_nI (by omega) (by decide)) dX9_isIn_14 ?_
  rw [nI_clamp (by omega), hq _ (by omega)]
  refine at_iconst dX9_isIn_15 pc_i1 ?_
  refine at_icmpne (tgt := 23) dX9_isIn_16 (by decide) (fun c16 => ?_) (fun c16 => ?_)
  · -- taken 16
    refine at_iconst dX9_isIn_23 pc_i0 ?_
    refine at_zret rfl dX9_isIn_24 (by first | exact Or.inl rfl | exact Or.inr rfl | assumption) ?_
    refine ⟨?_, rfl⟩
    unfold sm
    first | (rw [decide_eq_true c16]; rfl) | (rw [decide_eq_false c16]; rfl)
  · -- not taken 16
    refine at_iconst dX9_isIn_19 pc_i1 ?_
    refine at_goto (tgt := 24) dX9_isIn_20 (by decide) ?_
    refine at_zret rfl dX9_isIn_24 (by first | exact Or.inl rfl | exact Or.inr rfl | assumption) ?_
    refine ⟨?_, rfl⟩
    unfold sm
    first | (rw [decide_eq_true c16]; rfl) | (rw [decide_eq_false c16]; rfl)
theorem lp_X9_count (hR : RS R) (hq : RQ I 122 r) (hr : Row r nv ns nl e) {f : Nat → Int32} (hf : ∀ k, k < nl → I 133 k = f k) (what : Int32) : ∀ (k i : Nat), i + k = nl → pd_At G mi_X9_count 2 0 0 0 0 4 [some (.ref (pd_z G + 119)), some (.int what), some (.int (nI (fb_ct (fun l => decide (f l = what)) i))), some (.int (nI i))] [] (SD, false, I, L, R) (pd_rt (.int (nI (fb_ct (fun l => decide (f l = what)) nl))) (SD, false, I, L, R)) := by
  have h40 := hr.2.2.1.2
  intro k
  induction k with
  | zero =>
    intro i hi
    have e0 : i = nl := by omega
    subst e0
    refine at_iload_n dX9_count_4 rfl ?_
    refine at_aload_n dX9_count_5 rfl ?_
    refine at_cv0 cvX9_218 sd_119 (ev_X9_lines hR hq hr.2.2.1.1) (by decide) ⟨Nat.le_refl _, Nat.le_refl _⟩ (Nat.le_of_ble_eq_true rfl) dX9_count_6 (pd_k1 ?_)
    refine at_icmpge (tgt := 36) dX9_count_9 (by decide) (fun c9 => ?_) (fun c9 => ?_)
    · -- taken 9
      refine at_iload_n dX9_count_36 rfl ?_
      refine at_iret rfl dX9_count_37 ?_
      exact ⟨rfl, rfl⟩
    · -- not taken 9
      exact absurd (nI_le (Nat.le_refl _) (by omega)) c9
  | succ k ih =>
    intro i hi
    refine at_iload_n dX9_count_4 rfl ?_
    refine at_aload_n dX9_count_5 rfl ?_
    refine at_cv0 cvX9_218 sd_119 (ev_X9_lines hR hq hr.2.2.1.1) (by decide) ⟨Nat.le_refl _, Nat.le_refl _⟩ (Nat.le_of_ble_eq_true rfl) dX9_count_6 (pd_k1 ?_)
    refine at_icmpge (tgt := 36) dX9_count_9 (by decide) (fun c9 => ?_) (fun c9 => ?_)
    · -- taken 9
      exact absurd c9 (nI_ge (by omega) (by omega))
    · -- not taken 9
      refine at_iload_n dX9_count_12 rfl ?_
      refine at_aload_n dX9_count_13 rfl ?_
      refine at_getr (133) flX9_31 rfl sd_119 (rs_119_16 hR) dX9_count_14 ?_
      refine at_iload_n dX9_count_17 rfl ?_
      refine at_iald sd_133 (vp_in_nI (by omega) (by decide)) dX9_count_18 ?_
      rw [nI_clamp (by omega), hf _ (by omega)]
      refine at_iload_n dX9_count_19 rfl ?_
      refine at_icmpne (tgt := 27) dX9_count_20 (by decide) (fun c20 => ?_) (fun c20 => ?_)
      · -- taken 20
        refine at_iconst dX9_count_27 pc_i0 ?_
        refine at_iadd dX9_count_28 ?_
        refine at_istore_n dX9_count_29 rfl (Nat.le_of_ble_eq_true rfl) ?_
        refine at_inc dX9_count_30 rfl pc_i1 rfl (Nat.le_of_ble_eq_true rfl) ?_
        refine at_goto (tgt := 4) dX9_count_33 (by decide) ?_
        first | (rw [ct_t, nI_1 i]; (exact ih (i + 1) (by omega)); (simp [c20]; done)) | (rw [ct_f, nI_1 i]; (exact ih (i + 1) (by omega)); (simp [c20]; done))
      · -- not taken 20
        refine at_iconst dX9_count_23 pc_i1 ?_
        refine at_goto (tgt := 28) dX9_count_24 (by decide) ?_
        refine at_iadd dX9_count_28 ?_
        refine at_istore_n dX9_count_29 rfl (Nat.le_of_ble_eq_true rfl) ?_
        refine at_inc dX9_count_30 rfl pc_i1 rfl (Nat.le_of_ble_eq_true rfl) ?_
        refine at_goto (tgt := 4) dX9_count_33 (by decide) ?_
        first | (rw [ct_t, nI_1 i]; (exact ih (i + 1) (by omega)); (simp [c20]; done)) | (rw [ct_f, nI_1 i]; (exact ih (i + 1) (by omega)); (simp [c20]; done))
theorem ev_X9_count (hR : RS R) (hq : RQ I 122 r) (hr : Row r nv ns nl e) {f : Nat → Int32} (hf : ∀ k, k < nl → I 133 k = f k) (what : Int32) : pd_Ev G mi_X9_count 2 0 0 [.ref (pd_z G + 119), .int what] (SD, false, I, L, R) (pd_rt (.int (nI (fb_ct (fun l => decide (f l = what)) nl))) (SD, false, I, L, R)) := by
  refine pd_ev 2 (lo := [some (.ref (pd_z G + 119)), some (.int what), none, none]) (by decide +kernel) (Nat.le_of_ble_eq_true rfl) rfl ?_
  refine at_iconst dX9_count_0 pc_i0 ?_
  refine at_istore_n dX9_count_1 rfl (Nat.le_of_ble_eq_true rfl) ?_
  refine at_iconst dX9_count_2 pc_i0 ?_
  refine at_istore_n dX9_count_3 rfl (Nat.le_of_ble_eq_true rfl) ?_
  exact lp_X9_count hR hq hr hf what nl 0 (by omega)
theorem lp_X9_sizeOf (hR : RS R) (hq : RQ I 122 r) (hr : Row r nv ns nl e) {w : Nat} (hw : w < 2) : ∀ (k i : Nat), i + k = nl → pd_At G mi_X9_sizeOf 2 0 0 0 0 4 [some (.ref (pd_z G + 119)), some (.int (nI w)), some (.int (nI (fb_ct (sm r w) i))), some (.int (nI i))] [] (SD, false, I, L, R) (pd_rt (.int (nI (smC r nl w))) (SD, false, I, L, R)) := by
  have h40 := hr.2.2.1.2
  intro k
  induction k with
  | zero =>
    intro i hi
    have e0 : i = nl := by omega
    subst e0
    refine at_iload_n dX9_sizeOf_4 rfl ?_
    refine at_aload_n dX9_sizeOf_5 rfl ?_
    refine at_cv0 cvX9_218 sd_119 (ev_X9_lines hR hq hr.2.2.1.1) (by decide) ⟨Nat.le_refl _, Nat.le_refl _⟩ (Nat.le_of_ble_eq_true rfl) dX9_sizeOf_6 (pd_k1 ?_)
    refine at_icmpge (tgt := 35) dX9_sizeOf_9 (by decide) (fun c9 => ?_) (fun c9 => ?_)
    · -- taken 9
      refine at_iload_n dX9_sizeOf_35 rfl ?_
      refine at_iret rfl dX9_sizeOf_36 ?_
      exact ⟨rfl, rfl⟩
    · -- not taken 9
      exact absurd (nI_le (Nat.le_refl _) (by omega)) c9
  | succ k ih =>
    intro i hi
    refine at_iload_n dX9_sizeOf_4 rfl ?_
    refine at_aload_n dX9_sizeOf_5 rfl ?_
    refine at_cv0 cvX9_218 sd_119 (ev_X9_lines hR hq hr.2.2.1.1) (by decide) ⟨Nat.le_refl _, Nat.le_refl _⟩ (Nat.le_of_ble_eq_true rfl) dX9_sizeOf_6 (pd_k1 ?_)
    refine at_icmpge (tgt := 35) dX9_sizeOf_9 (by decide) (fun c9 => ?_) (fun c9 => ?_)
    · -- taken 9
      exact absurd c9 (nI_ge (by omega) (by omega))
    · -- not taken 9
      refine at_iload_n dX9_sizeOf_12 rfl ?_
      refine at_aload_n dX9_sizeOf_13 rfl ?_
      refine at_iload_n dX9_sizeOf_14 rfl ?_
      refine at_iload_n dX9_sizeOf_15 rfl ?_
      refine at_cv2 cvX9_244 sd_119 (ev_X9_isIn hR hq hw (l := i) (by omega)) (by decide) ⟨Nat.le_refl _, Nat.le_refl _⟩ (Nat.le_of_ble_eq_true rfl) dX9_sizeOf_16 (pd_k1 ?_)
      refine at_ifeq (tgt := 26) dX9_sizeOf_19 (by decide) (fun c19 => ?_) (fun c19 => ?_)
      · -- taken 19
        have k19 := i_of0.mp c19
        refine at_iconst dX9_sizeOf_26 pc_i0 ?_
        refine at_iadd dX9_sizeOf_27 ?_
        refine at_istore_n dX9_sizeOf_28 rfl (Nat.le_of_ble_eq_true rfl) ?_
        refine at_inc dX9_sizeOf_29 rfl pc_i1 rfl (Nat.le_of_ble_eq_true rfl) ?_
        refine at_goto (tgt := 4) dX9_sizeOf_32 (by decide) ?_
        first | (rw [ct_t, nI_1 i]; (exact ih (i + 1) (by omega)); (exact k19)) | (rw [ct_f, nI_1 i]; (exact ih (i + 1) (by omega)); (exact k19))
      · -- not taken 19
        have k19 := i_of1.mp c19
        refine at_iconst dX9_sizeOf_22 pc_i1 ?_
        refine at_goto (tgt := 27) dX9_sizeOf_23 (by decide) ?_
        refine at_iadd dX9_sizeOf_27 ?_
        refine at_istore_n dX9_sizeOf_28 rfl (Nat.le_of_ble_eq_true rfl) ?_
        refine at_inc dX9_sizeOf_29 rfl pc_i1 rfl (Nat.le_of_ble_eq_true rfl) ?_
        refine at_goto (tgt := 4) dX9_sizeOf_32 (by decide) ?_
        first | (rw [ct_t, nI_1 i]; (exact ih (i + 1) (by omega)); (exact k19)) | (rw [ct_f, nI_1 i]; (exact ih (i + 1) (by omega)); (exact k19))
theorem ev_X9_sizeOf (hR : RS R) (hq : RQ I 122 r) (hr : Row r nv ns nl e) {w : Nat} (hw : w < 2) : pd_Ev G mi_X9_sizeOf 2 0 0 [.ref (pd_z G + 119), .int (nI w)] (SD, false, I, L, R) (pd_rt (.int (nI (smC r nl w))) (SD, false, I, L, R)) := by
  refine pd_ev 2 (lo := [some (.ref (pd_z G + 119)), some (.int (nI w)), none, none]) (by decide +kernel) (Nat.le_of_ble_eq_true rfl) rfl ?_
  refine at_iconst dX9_sizeOf_0 pc_i0 ?_
  refine at_istore_n dX9_sizeOf_1 rfl (Nat.le_of_ble_eq_true rfl) ?_
  refine at_iconst dX9_sizeOf_2 pc_i0 ?_
  refine at_istore_n dX9_sizeOf_3 rfl (Nat.le_of_ble_eq_true rfl) ?_
  exact lp_X9_sizeOf hR hq hr hw nl 0 (by omega)
theorem rJ_clean (b l : Nat) : (decide (rJ r nv nl e b l = 0) || decide (rJ r nv nl e b l = 5)) = rOk r nv nl e b l := by
  have h1 : rH r nv e l = 0 ∨ rH r nv e l = 1 ∨ rH r nv e l = 2 ∨ rH r nv e l = 3 := by
    unfold rH
    split
    · exact Or.inr (Or.inl rfl)
    · split
      · exact Or.inr (Or.inr (Or.inl rfl))
      · split
        · exact Or.inl rfl
        · exact Or.inr (Or.inr (Or.inr rfl))
  unfold rJ rOk
  rcases h1 with h | h | h | h
  · rw [h]
    simp only [not_true_eq_false, if_false, decide_true, Bool.true_and]
    cases rK r nv nl e b (rSh r l).toNatClampNeg
    · simp only [Bool.false_eq_true, if_false, Bool.not_false]
      split <;> rfl
    · rfl
  · rw [h]; rfl
  · rw [h]; rfl
  · rw [h]; rfl
theorem lp_X9_goodIn (hR : RS R) (hq : RQ I 122 r) (hr : Row r nv ns nl e) (hf : ∀ k, k < nl → I 133 k = rJ r nv nl e 0 k) {w : Nat} (hw : w < 2) : ∀ (k i : Nat), i + k = nl → pd_At G mi_X9_goodIn 2 0 0 0 0 4 [some (.ref (pd_z G + 119)), some (.int (nI w)), some (.int (nI (fb_ct (fun l => sm r w l && rOk r nv nl e 0 l) i))), some (.int (nI i))] [] (SD, false, I, L, R) (pd_rt (.int (nI (smG r nv nl e w))) (SD, false, I, L, R)) := by
  have h40 := hr.2.2.1.2
  intro k
  induction k with
  | zero =>
    intro i hi
    have e0 : i = nl := by omega
    subst e0
    refine at_iload_n dX9_goodIn_4 rfl ?_
    refine at_aload_n dX9_goodIn_5 rfl ?_
    refine at_cv0 cvX9_218 sd_119 (ev_X9_lines hR hq hr.2.2.1.1) (by decide) ⟨Nat.le_refl _, Nat.le_refl _⟩ (Nat.le_of_ble_eq_true rfl) dX9_goodIn_6 (pd_k1 ?_)
    refine at_icmpge (tgt := 43) dX9_goodIn_9 (by decide) (fun c9 => ?_) (fun c9 => ?_)
    · -- taken 9
      refine at_iload_n dX9_goodIn_43 rfl ?_
      refine at_iret rfl dX9_goodIn_44 ?_
      exact ⟨rfl, rfl⟩
    · -- not taken 9
      exact absurd (nI_le (Nat.le_refl _) (by omega)) c9
  | succ k ih =>
    intro i hi
    refine at_iload_n dX9_goodIn_4 rfl ?_
    refine at_aload_n dX9_goodIn_5 rfl ?_
    refine at_cv0 cvX9_218 sd_119 (ev_X9_lines hR hq hr.2.2.1.1) (by decide) ⟨Nat.le_refl _, Nat.le_refl _⟩ (Nat.le_of_ble_eq_true rfl) dX9_goodIn_6 (pd_k1 ?_)
    refine at_icmpge (tgt := 43) dX9_goodIn_9 (by decide) (fun c9 => ?_) (fun c9 => ?_)
    · -- taken 9
      exact absurd c9 (nI_ge (by omega) (by omega))
    · -- not taken 9
      refine at_iload_n dX9_goodIn_12 rfl ?_
      refine at_aload_n dX9_goodIn_13 rfl ?_
      refine at_iload_n dX9_goodIn_14 rfl ?_
      refine at_iload_n dX9_goodIn_15 rfl ?_
      refine at_cv2 cvX9_244 sd_119 (ev_X9_isIn hR hq hw (l := i) (by omega)) (by decide) ⟨Nat.le_refl _, Nat.le_refl _⟩ (Nat.le_of_ble_eq_true rfl) dX9_goodIn_16 (pd_k1 ?_)
      refine at_ifeq (tgt := 34) dX9_goodIn_19 (by decide) (fun c19 => ?_) (fun c19 => ?_)
      · -- taken 19
        have k19 := i_of0.mp c19
        refine at_iconst dX9_goodIn_34 pc_i0 ?_
        refine at_iadd dX9_goodIn_35 ?_
        refine at_istore_n dX9_goodIn_36 rfl (Nat.le_of_ble_eq_true rfl) ?_
        refine at_inc dX9_goodIn_37 rfl pc_i1 rfl (Nat.le_of_ble_eq_true rfl) ?_
        refine at_goto (tgt := 4) dX9_goodIn_40 (by decide) ?_
        first | (rw [ct_t, nI_1 i]; (exact ih (i + 1) (by omega)); (simp [k19, k27]; done)) | (rw [ct_f, nI_1 i]; (exact ih (i + 1) (by omega)); (simp [k19]; done)) | (rw [ct_f, nI_1 i]; (exact ih (i + 1) (by omega)); (simp [k27]; done))
      · -- not taken 19
        have k19 := i_of1.mp c19
        refine at_aload_n dX9_goodIn_22 rfl ?_
        refine at_iload_n dX9_goodIn_23 rfl ?_
        refine at_cv1 cvX9_248 sd_119 (ev_X9_isClean hR hf h40 (l := i) (by omega)) (by decide) ⟨Nat.le_refl _, Nat.le_refl _⟩ (Nat.le_of_ble_eq_true rfl) dX9_goodIn_24 (pd_k1 ?_)
        rw [rJ_clean]
        refine at_ifeq (tgt := 34) dX9_goodIn_27 (by decide) (fun c27 => ?_) (fun c27 => ?_)
        · -- taken 27
          have k27 := i_of0.mp c27
          refine at_iconst dX9_goodIn_34 pc_i0 ?_
          refine at_iadd dX9_goodIn_35 ?_
          refine at_istore_n dX9_goodIn_36 rfl (Nat.le_of_ble_eq_true rfl) ?_
          refine at_inc dX9_goodIn_37 rfl pc_i1 rfl (Nat.le_of_ble_eq_true rfl) ?_
          refine at_goto (tgt := 4) dX9_goodIn_40 (by decide) ?_
          first | (rw [ct_t, nI_1 i]; (exact ih (i + 1) (by omega)); (simp [k19, k27]; done)) | (rw [ct_f, nI_1 i]; (exact ih (i + 1) (by omega)); (simp [k19]; done)) | (rw [ct_f, nI_1 i]; (exact ih (i + 1) (by omega)); (simp [k27]; done))
        · -- not taken 27
          have k27 := i_of1.mp c27
          refine at_iconst dX9_goodIn_30 pc_i1 ?_
          refine at_goto (tgt := 35) dX9_goodIn_31 (by decide) ?_
          refine at_iadd dX9_goodIn_35 ?_
          refine at_istore_n dX9_goodIn_36 rfl (Nat.le_of_ble_eq_true rfl) ?_
          refine at_inc dX9_goodIn_37 rfl pc_i1 rfl (Nat.le_of_ble_eq_true rfl) ?_
          refine at_goto (tgt := 4) dX9_goodIn_40 (by decide) ?_
          first | (rw [ct_t, nI_1 i]; (exact ih (i + 1) (by omega)); (simp [k19, k27]; done)) | (rw [ct_f, nI_1 i]; (exact ih (i + 1) (by omega)); (simp [k19]; done)) | (rw [ct_f, nI_1 i]; (exact ih (i + 1) (by omega)); (simp [k27]; done))
theorem ev_X9_goodIn (hR : RS R) (hq : RQ I 122 r) (hr : Row r nv ns nl e) (hf : ∀ k, k < nl → I 133 k = rJ r nv nl e 0 k) {w : Nat} (hw : w < 2) : pd_Ev G mi_X9_goodIn 2 0 0 [.ref (pd_z G + 119), .int (nI w)] (SD, false, I, L, R) (pd_rt (.int (nI (smG r nv nl e w))) (SD, false, I, L, R)) := by
  refine pd_ev 2 (lo := [some (.ref (pd_z G + 119)), some (.int (nI w)), none, none]) (by decide +kernel) (Nat.le_of_ble_eq_true rfl) rfl ?_
  refine at_iconst dX9_goodIn_0 pc_i0 ?_
  refine at_istore_n dX9_goodIn_1 rfl (Nat.le_of_ble_eq_true rfl) ?_
  refine at_iconst dX9_goodIn_2 pc_i0 ?_
  refine at_istore_n dX9_goodIn_3 rfl (Nat.le_of_ble_eq_true rfl) ?_
  exact lp_X9_goodIn hR hq hr hf hw nl 0 (by omega)
theorem lp_X9_linesOf (hR : RS R) (hq : RQ I 122 r) (hr : Row r nv ns nl e) (s : Int32) : ∀ (k i : Nat), i + k = nl → pd_At G mi_X9_linesOf 2 0 0 0 0 4 [some (.ref (pd_z G + 119)), some (.int s), some (.int (nI (fb_ct (fun l => decide (rSh r l = s)) i))), some (.int (nI i))] [] (SD, false, I, L, R) (pd_rt (.int (nI (fb_ct (fun l => decide (rSh r l = s)) nl))) (SD, false, I, L, R)) := by
  have h40 := hr.2.2.1.2
  intro k
  induction k with
  | zero =>
    intro i hi
    have e0 : i = nl := by omega
    subst e0
    refine at_iload_n dX9_linesOf_4 rfl ?_
    refine at_aload_n dX9_linesOf_5 rfl ?_
    refine at_cv0 cvX9_218 sd_119 (ev_X9_lines hR hq hr.2.2.1.1) (by decide) ⟨Nat.le_refl _, Nat.le_refl _⟩ (Nat.le_of_ble_eq_true rfl) dX9_linesOf_6 (pd_k1 ?_)
    refine at_icmpge (tgt := 40) dX9_linesOf_9 (by decide) (fun c9 => ?_) (fun c9 => ?_)
    · -- taken 9
      refine at_iload_n dX9_linesOf_40 rfl ?_
      refine at_iret rfl dX9_linesOf_41 ?_
      exact ⟨rfl, rfl⟩
    · -- not taken 9
      exact absurd (nI_le (Nat.le_refl _) (by omega)) c9
  | succ k ih =>
    intro i hi
    refine at_iload_n dX9_linesOf_4 rfl ?_
    refine at_aload_n dX9_linesOf_5 rfl ?_
    refine at_cv0 cvX9_218 sd_119 (ev_X9_lines hR hq hr.2.2.1.1) (by decide) ⟨Nat.le_refl _, Nat.le_refl _⟩ (Nat.le_of_ble_eq_true rfl) dX9_linesOf_6 (pd_k1 ?_)
    refine at_icmpge (tgt := 40) dX9_linesOf_9 (by decide) (fun c9 => ?_) (fun c9 => ?_)
    · -- taken 9
      exact absurd c9 (nI_ge (by omega) (by omega))
    · -- not taken 9
      refine at_iload_n dX9_linesOf_12 rfl ?_
      refine at_aload_n dX9_linesOf_13 rfl ?_
      refine at_getr (122) flX9_20 rfl sd_119 (rs_119_9 hR) dX9_linesOf_14 ?_
      refine at_iload_n dX9_linesOf_17 rfl ?_
      refine at_iconst dX9_linesOf_18 pc_i2 ?_
      refine at_cs2 csX9_124 (ev_X9_lineAt i 2 (67 + 4 * i) (by omega)) (by decide) ⟨Nat.le_refl _, Nat.le_refl _⟩ (Nat.le_of_ble_eq_true rfl) dX9_linesOf_19 (pd_k1 ?_)
      refine at_iald sd_122 (vp_in_nI (by omega) (by decide)) dX9_linesOf_22 ?_
      rw [nI_clamp (by omega), hq _ (by omega)]
      refine at_iload_n dX9_linesOf_23 rfl ?_
      refine at_icmpne (tgt := 31) dX9_linesOf_24 (by decide) (fun c24 => ?_) (fun c24 => ?_)
      · -- taken 24
        refine at_iconst dX9_linesOf_31 pc_i0 ?_
        refine at_iadd dX9_linesOf_32 ?_
        refine at_istore_n dX9_linesOf_33 rfl (Nat.le_of_ble_eq_true rfl) ?_
        refine at_inc dX9_linesOf_34 rfl pc_i1 rfl (Nat.le_of_ble_eq_true rfl) ?_
        refine at_goto (tgt := 4) dX9_linesOf_37 (by decide) ?_
        first | (rw [ct_t, nI_1 i]; (exact ih (i + 1) (by omega)); (simp [rSh, c24]; done)) | (rw [ct_f, nI_1 i]; (exact ih (i + 1) (by omega)); (simp [rSh, c24]; done))
      · -- not taken 24
        refine at_iconst dX9_linesOf_27 pc_i1 ?_
        refine at_goto (tgt := 32) dX9_linesOf_28 (by decide) ?_
        refine at_iadd dX9_linesOf_32 ?_
        refine at_istore_n dX9_linesOf_33 rfl (Nat.le_of_ble_eq_true rfl) ?_
        refine at_inc dX9_linesOf_34 rfl pc_i1 rfl (Nat.le_of_ble_eq_true rfl) ?_
        refine at_goto (tgt := 4) dX9_linesOf_37 (by decide) ?_
        first | (rw [ct_t, nI_1 i]; (exact ih (i + 1) (by omega)); (simp [rSh, c24]; done)) | (rw [ct_f, nI_1 i]; (exact ih (i + 1) (by omega)); (simp [rSh, c24]; done))
theorem ev_X9_linesOf (hR : RS R) (hq : RQ I 122 r) (hr : Row r nv ns nl e) (s : Int32) : pd_Ev G mi_X9_linesOf 2 0 0 [.ref (pd_z G + 119), .int s] (SD, false, I, L, R) (pd_rt (.int (nI (fb_ct (fun l => decide (rSh r l = s)) nl))) (SD, false, I, L, R)) := by
  refine pd_ev 2 (lo := [some (.ref (pd_z G + 119)), some (.int s), none, none]) (by decide +kernel) (Nat.le_of_ble_eq_true rfl) rfl ?_
  refine at_iconst dX9_linesOf_0 pc_i0 ?_
  refine at_istore_n dX9_linesOf_1 rfl (Nat.le_of_ble_eq_true rfl) ?_
  refine at_iconst dX9_linesOf_2 pc_i0 ?_
  refine at_istore_n dX9_linesOf_3 rfl (Nat.le_of_ble_eq_true rfl) ?_
  exact lp_X9_linesOf hR hq hr s nl 0 (by omega)
theorem ct_yt {p : Nat → Bool} {i y : Nat} (h : p i = true) : nI (y + fb_ct p i) + 1 = nI (y + fb_ct p (i + 1)) := by rw [nI_1, fb_ct_succ, if_pos h]; rfl
theorem ct_yf {p : Nat → Bool} {i y : Nat} (h : p i = false) : nI (y + fb_ct p i) + 0 = nI (y + fb_ct p (i + 1)) := by
  rw [fb_ct_succ, if_neg (by rw [h]; decide)]; exact nI_add _ 0
theorem lp_X9_spotOf (hR : RS R) (hq : RQ I 122 r) (hr : Row r nv ns nl e) (s : Int32) (y : Nat) : ∀ (k i : Nat), i + k = nl → pd_At G mi_X9_spotOf 2 0 0 0 0 5 [some (.ref (pd_z G + 119)), some (.int s), some (.int (nI y)), some (.int (nI (y + fb_ct (fun l => decide (rSh r l < s)) i))), some (.int (nI i))] [] (SD, false, I, L, R) (pd_rt (.int (nI (y + fb_ct (fun l => decide (rSh r l < s)) nl))) (SD, false, I, L, R)) := by
  have h40 := hr.2.2.1.2
  intro k
  induction k with
  | zero =>
    intro i hi
    have e0 : i = nl := by omega
    subst e0
    refine at_iload dX9_spotOf_5 rfl ?_
    refine at_aload_n dX9_spotOf_7 rfl ?_
    refine at_cv0 cvX9_218 sd_119 (ev_X9_lines hR hq hr.2.2.1.1) (by decide) ⟨Nat.le_refl _, Nat.le_refl _⟩ (Nat.le_of_ble_eq_true rfl) dX9_spotOf_8 (pd_k1 ?_)
    refine at_icmpge (tgt := 43) dX9_spotOf_11 (by decide) (fun c11 => ?_) (fun c11 => ?_)
    · -- taken 11
      refine at_iload_n dX9_spotOf_43 rfl ?_
      refine at_iret rfl dX9_spotOf_44 ?_
      exact ⟨rfl, rfl⟩
    · -- not taken 11
      exact absurd (nI_le (Nat.le_refl _) (by omega)) c11
  | succ k ih =>
    intro i hi
    refine at_iload dX9_spotOf_5 rfl ?_
    refine at_aload_n dX9_spotOf_7 rfl ?_
    refine at_cv0 cvX9_218 sd_119 (ev_X9_lines hR hq hr.2.2.1.1) (by decide) ⟨Nat.le_refl _, Nat.le_refl _⟩ (Nat.le_of_ble_eq_true rfl) dX9_spotOf_8 (pd_k1 ?_)
    refine at_icmpge (tgt := 43) dX9_spotOf_11 (by decide) (fun c11 => ?_) (fun c11 => ?_)
    · -- taken 11
      exact absurd c11 (nI_ge (by omega) (by omega))
    · -- not taken 11
      refine at_iload_n dX9_spotOf_14 rfl ?_
      refine at_aload_n dX9_spotOf_15 rfl ?_
      refine at_getr (122) flX9_20 rfl sd_119 (rs_119_9 hR) dX9_spotOf_16 ?_
      refine at_iload dX9_spotOf_19 rfl ?_
      refine at_iconst dX9_spotOf_21 pc_i2 ?_
      refine at_cs2 csX9_124 (ev_X9_lineAt i 2 (67 + 4 * i) (by omega)) (by decide) ⟨Nat.le_refl _, Nat.le_refl _⟩ (Nat.le_of_ble_eq_true rfl) dX9_spotOf_22 (pd_k1 ?_)
      refine at_iald sd_122 (vp_in_nI (by omega) (by decide)) dX9_spotOf_25 ?_
      rw [nI_clamp (by omega), hq _ (by omega)]
      refine at_iload_n dX9_spotOf_26 rfl ?_
      refine at_icmpge (tgt := 34) dX9_spotOf_27 (by decide) (fun c27 => ?_) (fun c27 => ?_)
      · -- taken 27
        refine at_iconst dX9_spotOf_34 pc_i0 ?_
        refine at_iadd dX9_spotOf_35 ?_
        refine at_istore_n dX9_spotOf_36 rfl (Nat.le_of_ble_eq_true rfl) ?_
        refine at_inc dX9_spotOf_37 rfl pc_i1 rfl (Nat.le_of_ble_eq_true rfl) ?_
        refine at_goto (tgt := 5) dX9_spotOf_40 (by decide) ?_
        first | (rw [ct_yt, nI_1 i]; (exact ih (i + 1) (by omega)); (exact decide_eq_true (fa_of_nle c27))) | (rw [ct_yf, nI_1 i]; (exact ih (i + 1) (by omega)); (exact decide_eq_false (fun q => (fa_of_lt q).2.1 c27)))
      · -- not taken 27
        refine at_iconst dX9_spotOf_30 pc_i1 ?_
        refine at_goto (tgt := 35) dX9_spotOf_31 (by decide) ?_
        refine at_iadd dX9_spotOf_35 ?_
        refine at_istore_n dX9_spotOf_36 rfl (Nat.le_of_ble_eq_true rfl) ?_
        refine at_inc dX9_spotOf_37 rfl pc_i1 rfl (Nat.le_of_ble_eq_true rfl) ?_
        refine at_goto (tgt := 5) dX9_spotOf_40 (by decide) ?_
        first | (rw [ct_yt, nI_1 i]; (exact ih (i + 1) (by omega)); (exact decide_eq_true (fa_of_nle c27))) | (rw [ct_yf, nI_1 i]; (exact ih (i + 1) (by omega)); (exact decide_eq_false (fun q => (fa_of_lt q).2.1 c27)))
theorem ev_X9_spotOf (hR : RS R) (hq : RQ I 122 r) (hr : Row r nv ns nl e) (s : Int32) (y : Nat) : pd_Ev G mi_X9_spotOf 2 0 0 [.ref (pd_z G + 119), .int s, .int (nI y)] (SD, false, I, L, R) (pd_rt (.int (nI (y + fb_ct (fun l => decide (rSh r l < s)) nl))) (SD, false, I, L, R)) := by
  refine pd_ev 2 (lo := [some (.ref (pd_z G + 119)), some (.int s), some (.int (nI y)), none, none]) (by decide +kernel) (Nat.le_of_ble_eq_true rfl) rfl ?_
  refine at_iload_n dX9_spotOf_0 rfl ?_
  refine at_istore_n dX9_spotOf_1 rfl (Nat.le_of_ble_eq_true rfl) ?_
  refine at_iconst dX9_spotOf_2 pc_i0 ?_
  refine at_istore dX9_spotOf_3 rfl (Nat.le_of_ble_eq_true rfl) ?_
  exact lp_X9_spotOf hR hq hr s y nl 0 (by omega)
theorem ev_X9_isLine (hR : RS R) (hq : RQ I 122 r) (hr : Row r nv ns nl e) (x y : Int32) : pd_Ev G mi_X9_isLine 3 0 0 [.ref (pd_z G + 119), .int x, .int y] (SD, false, I, L, R) (pd_rt (.int (i_of (isN x ns && isN y (rN r nl x.toNatClampNeg)))) (SD, false, I, L, R)) := by
  have h8 := hr.2.1.2
  have h40 := hr.2.2.1.2
  have hct : ∀ s : Int32, fb_ct (fun l => decide (rSh r l = s)) nl ≤ nl := fun s => fb_ct_le _ _
  refine pd_ev 0 (lo := [some (.ref (pd_z G + 119)), some (.int x), some (.int y)]) (by decide +kernel) (Nat.le_of_ble_eq_true rfl) rfl ?_
  refine at_aload_n dX9_isLine_0 rfl ?_
  refine at_iload_n dX9_isLine_1 rfl ?_
  refine at_cv1 cvX9_238 sd_119 (ev_X9_isSheet hR hq hr x) (by decide) ⟨Nat.le_refl _, Nat.le_refl _⟩ (Nat.le_of_ble_eq_true rfl) dX9_isLine_2 (pd_k1 ?_)
  refine at_ifeq (tgt := 29) dX9_isLine_5 (by decide) (fun c5 => ?_) (fun c5 => ?_)
  · -- taken 5
    have k5 := i_of0.mp c5
    refine at_iconst dX9_isLine_29 pc_i0 ?_
    refine at_zret rfl dX9_isLine_30 (by first | exact Or.inl rfl | exact Or.inr rfl | assumption) ?_
    refine ⟨?_, rfl⟩
    first | (rw [k5, Bool.false_and]; rfl) | (rw [← e1, k22, Bool.and_false]; rfl) | (rw [← e1, k5, k22]; rfl)
  · -- not taken 5
    have k5 := i_of1.mp c5
    obtain ⟨s, hs, hx⟩ := isN_of (by omega) k5
    have e1 : fb_ct (fun l => decide (rSh r l = x)) nl = rN r nl x.toNatClampNeg := by rw [hx, nI_clamp (by omega)]; rfl
    refine at_iload_n dX9_isLine_8 rfl ?_
    refine at_i2l dX9_isLine_9 ?_
    refine at_lconst dX9_isLine_10 pc_l0 ?_
    refine at_aload_n dX9_isLine_11 rfl ?_
    refine at_iload_n dX9_isLine_12 rfl ?_
    refine at_cv1 cvX9_241 sd_119 (ev_X9_linesOf hR hq hr x) (by decide) ⟨Nat.le_refl _, Nat.le_refl _⟩ (Nat.le_of_ble_eq_true rfl) dX9_isLine_13 (pd_k1 ?_)
    refine at_iconst dX9_isLine_16 pc_i1 ?_
    refine at_isub dX9_isLine_17 ?_
    refine at_i2l dX9_isLine_18 ?_
    refine at_cs3 csX9_107 (ev_X9_in _ _ _) (by decide) ⟨Nat.le_refl _, Nat.le_refl _⟩ (Nat.le_of_ble_eq_true rfl) dX9_isLine_19 (pd_k1 ?_)
    rw [inL_n y (by have := hct x; omega)]
    refine at_ifeq (tgt := 29) dX9_isLine_22 (by decide) (fun c22 => ?_) (fun c22 => ?_)
    · -- taken 22
      have k22 := i_of0.mp c22
      refine at_iconst dX9_isLine_29 pc_i0 ?_
      refine at_zret rfl dX9_isLine_30 (by first | exact Or.inl rfl | exact Or.inr rfl | assumption) ?_
      refine ⟨?_, rfl⟩
      first | (rw [k5, Bool.false_and]; rfl) | (rw [← e1, k22, Bool.and_false]; rfl) | (rw [← e1, k5, k22]; rfl)
    · -- not taken 22
      have k22 := i_of1.mp c22
      refine at_iconst dX9_isLine_25 pc_i1 ?_
      refine at_goto (tgt := 30) dX9_isLine_26 (by decide) ?_
      refine at_zret rfl dX9_isLine_30 (by first | exact Or.inl rfl | exact Or.inr rfl | assumption) ?_
      refine ⟨?_, rfl⟩
      first | (rw [k5, Bool.false_and]; rfl) | (rw [← e1, k22, Bool.and_false]; rfl) | (rw [← e1, k5, k22]; rfl)
theorem ev_X9_fault : pd_Ev G mi_X9_fault 8 0 0 [.ref (pd_z G + 119)] (SD, false, I, L, R) (m_x I L R 0 8 (.int (I 119 5)) (.int 0) (QK I L)) := by
  refine pd_ev 0 (lo := [some (.ref (pd_z G + 119))]) (by decide +kernel) (Nat.le_of_ble_eq_true rfl) rfl ?_
  refine at_aload_n dX9_fault_0 rfl ?_
  refine at_iconst dX9_fault_1 pc_i0 ?_
  refine at_puti flX9_48 rfl sd_119 (fun _ _ _ hq => by cases hq; rfl) dX9_fault_2 ?_
  refine at_aload_n dX9_fault_5 rfl ?_
  refine at_geti flX9_13 rfl sd_119 dX9_fault_6 ?_
  refine at_iret rfl dX9_fault_9 ?_
  exact m_yes rfl (by rw [pd_up_nj (by decide)]) pd_up_at up_mq
theorem ev_X9_status (hR : RS R) (what : Int32) : pd_Ev G mi_X9_status 8 0 0 [.ref (pd_z G + 119), .int what] (SD, false, I, L, R) (m_x I L R 0 8 (.int (stV (I 120 0) (I 120 1) (I 120 2) what)) (.int 0) (QK I L)) := by
  refine pd_ev 0 (lo := [some (.ref (pd_z G + 119)), some (.int what)]) (by decide +kernel) (Nat.le_of_ble_eq_true rfl) rfl ?_
  refine at_aload_n dX9_status_0 rfl ?_
  refine at_iconst dX9_status_1 pc_i0 ?_
  refine at_puti flX9_48 rfl sd_119 (fun _ _ _ hq => by cases hq; rfl) dX9_status_2 ?_
  refine at_iload_n dX9_status_5 rfl ?_
  refine at_i2l dX9_status_6 ?_
  refine at_lconst dX9_status_7 pc_l0 ?_
  refine at_ldc2 coX9_335 dX9_status_8 ?_
  refine at_cs3 csX9_107 (ev_X9_in _ _ _) (by decide) ⟨Nat.le_refl _, Nat.le_refl _⟩ (Nat.le_of_ble_eq_true rfl) dX9_status_11 (pd_k1 ?_)
  rw [inL_c what 0 2 (by decide) (by decide)]
  refine at_ifeq (tgt := 26) dX9_status_14 (by decide) (fun c14 => ?_) (fun c14 => ?_)
  · -- taken 14
    have k14 := i_of0.mp c14
    refine at_iconst dX9_status_26 pc_im1 ?_
    refine at_iret rfl dX9_status_27 ?_
    refine m_yes rfl ?_ pd_up_at up_mq
    first | (rcases (show q = 0 ∨ q = 1 ∨ q = 2 by omega) with rfl | rfl | rfl <;> rfl) | (unfold stV; rw [if_neg (fun q => by rw [q] at k14; exact absurd k14 (by decide)), if_neg (fun q => by rw [q] at k14; exact absurd k14 (by decide)), if_neg (fun q => by rw [q] at k14; exact absurd k14 (by decide))])
  · -- not taken 14
    have k14 := i_of1.mp c14
    obtain ⟨q, hq, rfl⟩ := inR_of (n := 2) (by decide) k14
    refine at_aload_n dX9_status_17 rfl ?_
    refine at_getr (120) flX9_9 rfl sd_119 (rs_119_1 hR) dX9_status_18 ?_
    refine at_iload_n dX9_status_21 rfl ?_
    refine at_iald sd_120 (vp_in_nI (by omega) (by decide)) dX9_status_22 ?_
    rw [nI_clamp (by omega), pd_up_nb (by decide)]
    refine at_goto (tgt := 27) dX9_status_23 (by decide) ?_
    refine at_iret rfl dX9_status_27 ?_
    refine m_yes rfl ?_ pd_up_at up_mq
    first | (rcases (show q = 0 ∨ q = 1 ∨ q = 2 by omega) with rfl | rfl | rfl <;> rfl) | (unfold stV; rw [if_neg (fun q => by rw [q] at k14; exact absurd k14 (by decide)), if_neg (fun q => by rw [q] at k14; exact absurd k14 (by decide)), if_neg (fun q => by rw [q] at k14; exact absurd k14 (by decide))])
theorem ev_X9_judged (hR : RS R) (hq : RQ I 122 r) (hr : Row r nv ns nl e) (how : Int32) : pd_Ev G mi_X9_judged 8 0 0 [.ref (pd_z G + 119), .int how] (SD, false, I, L, R) (m_x I L R (j1 9 (inR how 0 5)) 8 (.int (nI (fb_ct (fun l => decide (rJ r nv nl e 0 l = how)) nl))) (.int 0) (QK I L)) := by
  refine pd_ev 0 (lo := [some (.ref (pd_z G + 119)), some (.int how)]) (by decide +kernel) (Nat.le_of_ble_eq_true rfl) rfl ?_
  refine at_aload_n dX9_judged_0 rfl ?_
  refine at_iconst dX9_judged_1 pc_i0 ?_
  refine at_puti flX9_48 rfl sd_119 (fun _ _ _ hq => by cases hq; rfl) dX9_judged_2 ?_
  refine at_aload_n dX9_judged_5 rfl ?_
  refine at_iload_n dX9_judged_6 rfl ?_
  refine at_i2l dX9_judged_7 ?_
  refine at_lconst dX9_judged_8 pc_l0 ?_
  refine at_ldc2 coX9_285 dX9_judged_9 ?_
  refine at_cs3 csX9_107 (ev_X9_in _ _ _) (by decide) ⟨Nat.le_refl _, Nat.le_refl _⟩ (Nat.le_of_ble_eq_true rfl) dX9_judged_12 (pd_k1 ?_)
  rw [inL_c how 0 5 (by decide) (by decide)]
  refine at_ifne (tgt := 22) dX9_judged_15 (by decide) (fun c15 => ?_) (fun c15 => ?_)
  · -- taken 15
    have k15 := i_of1.mp c15
    refine at_iconst dX9_judged_22 pc_i0 ?_
    refine at_iconst dX9_judged_23 pc_i1 ?_
    refine at_iconst dX9_judged_24 pc_i1 ?_
    refine at_cv3 cvX9_204 sd_119 (ev_X9_bad0 hR (pd_up_at) _ _) (by decide) ⟨Nat.le_refl _, Nat.le_refl _⟩ (Nat.le_of_ble_eq_true rfl) dX9_judged_25 (pd_k1 ?_)
    refine at_ifeq (tgt := 33) dX9_judged_28 (by decide) (fun c28 => ?_) (fun c28 => ?_)
    · -- taken 28
      refine at_aload_n dX9_judged_33 rfl ?_
      refine at_aload_n dX9_judged_34 rfl ?_
      refine at_getr (122) flX9_20 rfl sd_119 (rs_119_9 hR) dX9_judged_35 ?_
      refine at_iconst dX9_judged_38 pc_i0 ?_
      refine at_cv2 cvX9_255 sd_119 (ev_X9_judges (e := e) (bes := 0) hR hq.up hr (by decide)) (by decide) ⟨Nat.le_refl _, Nat.le_refl _⟩ (Nat.le_of_ble_eq_true rfl) dX9_judged_39 (pd_ke fun I2 L2 hj => ?_)
      obtain ⟨rfl, hF, hJ⟩ := hj
      refine at_aload_n dX9_judged_42 rfl ?_
      refine at_iload_n dX9_judged_43 rfl ?_
      refine at_cv1 cvX9_287 sd_119 (ev_X9_count hR (hF.row hq.up) hr hJ.1 how) (by decide) ⟨Nat.le_refl _, Nat.le_refl _⟩ (Nat.le_of_ble_eq_true rfl) dX9_judged_44 (pd_k1 ?_)
      refine at_iret rfl dX9_judged_47 ?_
      exact m_yes (by rw [k15]; rfl) rfl hF.t0 hF.mq
    · -- not taken 28
      exact absurd rfl c28
  · -- not taken 15
    have k15 := i_of0.mp c15
    refine at_iconst dX9_judged_18 pc_i1 ?_
    refine at_goto (tgt := 23) dX9_judged_19 (by decide) ?_
    refine at_iconst dX9_judged_23 pc_i1 ?_
    refine at_iconst dX9_judged_24 pc_i1 ?_
    refine at_cv3 cvX9_204 sd_119 (ev_X9_bad1 hR (pd_up_at) (c := 1) (y := 1) ⟨by decide, by decide⟩ (by decide)) (by decide) ⟨Nat.le_refl _, Nat.le_refl _⟩ (Nat.le_of_ble_eq_true rfl) dX9_judged_25 (pd_k1 ?_)
    refine at_ifeq (tgt := 33) dX9_judged_28 (by decide) (fun c28 => ?_) (fun c28 => ?_)
    · -- taken 28
      exact absurd c28 (by decide)
    · -- not taken 28
      refine at_iconst dX9_judged_31 pc_i0 ?_
      refine at_iret rfl dX9_judged_32 ?_
      exact m_rf 1 (by rw [k15]; rfl) rfl
theorem ev_X9_passes (hR : RS R) (hq : RQ I 122 r) (hr : Row r nv ns nl e) : pd_Ev G mi_X9_passes 8 0 0 [.ref (pd_z G + 119)] (SD, false, I, L, R) (m_x I L R 0 8 (.int (i_of (decide (r 3 ≤ nI (fb_ct (fun l => decide (rJ r nv nl e 0 l = 0)) nl))))) (.int 0) (QK I L)) := by
  refine pd_ev 0 (lo := [some (.ref (pd_z G + 119))]) (by decide +kernel) (Nat.le_of_ble_eq_true rfl) rfl ?_
  refine at_aload_n dX9_passes_0 rfl ?_
  refine at_iconst dX9_passes_1 pc_i0 ?_
  refine at_puti flX9_48 rfl sd_119 (fun _ _ _ hq => by cases hq; rfl) dX9_passes_2 ?_
  refine at_aload_n dX9_passes_5 rfl ?_
  refine at_aload_n dX9_passes_6 rfl ?_
  refine at_getr (122) flX9_20 rfl sd_119 (rs_119_9 hR) dX9_passes_7 ?_
  refine at_iconst dX9_passes_10 pc_i0 ?_
  refine at_cv2 cvX9_255 sd_119 (ev_X9_judges (e := e) (bes := 0) hR hq.up hr (by decide)) (by decide) ⟨Nat.le_refl _, Nat.le_refl _⟩ (Nat.le_of_ble_eq_true rfl) dX9_passes_11 (pd_ke fun I2 L2 hj => ?_)
  obtain ⟨rfl, hF, hJ⟩ := hj
  refine at_aload_n dX9_passes_14 rfl ?_
  refine at_iconst dX9_passes_15 pc_i0 ?_
  refine at_cv1 cvX9_287 sd_119 (ev_X9_count hR (hF.row hq.up) hr hJ.1 0) (by decide) ⟨Nat.le_refl _, Nat.le_refl _⟩ (Nat.le_of_ble_eq_true rfl) dX9_passes_16 (pd_k1 ?_)
  refine at_aload_n dX9_passes_19 rfl ?_
  refine at_getr (122) flX9_20 rfl sd_119 (rs_119_9 hR) dX9_passes_20 ?_
  refine at_iconst dX9_passes_23 pc_i3 ?_
  refine at_iald sd_122 (vp_in_nI (n := 3) (by decide) (by decide)) dX9_passes_24 ?_
  rw [show I2 122 (3 : Int32).toNatClampNeg = r 3 from hF.row hq.up 3 (by decide)]
  refine at_icmplt (tgt := 32) dX9_passes_25 (by decide) (fun c25 => ?_) (fun c25 => ?_)
  · -- taken 25
    refine at_iconst dX9_passes_32 pc_i0 ?_
    refine at_iret rfl dX9_passes_33 ?_
    refine m_yes rfl ?_ hF.t0 hF.mq
    first | (rw [decide_eq_true (fa_of_nlt c25)]; rfl) | (rw [decide_eq_false (fa_of_lt c25).2.1]; rfl)
  · -- not taken 25
    refine at_iconst dX9_passes_28 pc_i1 ?_
    refine at_goto (tgt := 33) dX9_passes_29 (by decide) ?_
    refine at_iret rfl dX9_passes_33 ?_
    refine m_yes rfl ?_ hF.t0 hF.mq
    first | (rw [decide_eq_true (fa_of_nlt c25)]; rfl) | (rw [decide_eq_false (fa_of_lt c25).2.1]; rfl)
theorem ev_X9_told (hR : RS R) (hq : RQ I 122 r) (hr : Row r nv ns nl e) (what : Int32) : pd_Ev G mi_X9_told 8 0 0 [.ref (pd_z G + 119), .int what] (SD, false, I, L, R) (m_x I L R (j1 9 (inR what 0 10)) 8 (.int (tdV r (nI (bsum (rK r nv nl e 0) ns)) (I 119 2) (I 119 12) what)) (.int 0) (QK I L)) := by
  refine pd_ev 0 (lo := [some (.ref (pd_z G + 119)), some (.int what)]) (by decide +kernel) (Nat.le_of_ble_eq_true rfl) rfl ?_
  refine at_aload_n dX9_told_0 rfl ?_
  refine at_iconst dX9_told_1 pc_i0 ?_
  refine at_puti flX9_48 rfl sd_119 (fun _ _ _ hq => by cases hq; rfl) dX9_told_2 ?_
  refine at_aload_n dX9_told_5 rfl ?_
  refine at_iload_n dX9_told_6 rfl ?_
  refine at_i2l dX9_told_7 ?_
  refine at_lconst dX9_told_8 pc_l0 ?_
  refine at_ldc2 coX9_279 dX9_told_9 ?_
  refine at_cs3 csX9_107 (ev_X9_in _ _ _) (by decide) ⟨Nat.le_refl _, Nat.le_refl _⟩ (Nat.le_of_ble_eq_true rfl) dX9_told_12 (pd_k1 ?_)
  rw [inL_c what 0 10 (by decide) (by decide)]
  refine at_ifne (tgt := 22) dX9_told_15 (by decide) (fun c15 => ?_) (fun c15 => ?_)
  · -- taken 15
    have k15 := i_of1.mp c15
    obtain ⟨q, hq10, hx⟩ := inR_of (n := 10) (by decide) k15
    refine at_iconst dX9_told_22 pc_i0 ?_
    refine at_iconst dX9_told_23 pc_i1 ?_
    refine at_iconst dX9_told_24 pc_i1 ?_
    refine at_cv3 cvX9_204 sd_119 (ev_X9_bad0 hR (pd_up_at) _ _) (by decide) ⟨Nat.le_refl _, Nat.le_refl _⟩ (Nat.le_of_ble_eq_true rfl) dX9_told_25 (pd_k1 ?_)
    refine at_ifeq (tgt := 33) dX9_told_28 (by decide) (fun c28 => ?_) (fun c28 => ?_)
    · -- taken 28
      refine at_iload_n dX9_told_33 rfl ?_
      refine at_bipush dX9_told_34 pc_b8 ?_
      refine at_icmpge (tgt := 46) dX9_told_36 (by decide) (fun c36 => ?_) (fun c36 => ?_)
      · -- taken 36
        rw [hx, show (8 : Int32) = nI 8 from rfl, nI_leI (by decide) (by omega)] at c36
        refine at_aload_n dX9_told_46 rfl ?_
        refine at_aload_n dX9_told_47 rfl ?_
        refine at_getr (122) flX9_20 rfl sd_119 (rs_119_9 hR) dX9_told_48 ?_
        refine at_iconst dX9_told_51 pc_i0 ?_
        refine at_cv2 cvX9_255 sd_119 (ev_X9_judges (e := e) (bes := 0) hR hq.up hr (by decide)) (by decide) ⟨Nat.le_refl _, Nat.le_refl _⟩ (Nat.le_of_ble_eq_true rfl) dX9_told_52 (pd_ke fun I2 L2 hj => ?_)
        obtain ⟨rfl, hF, hJ⟩ := hj
        refine at_iload_n dX9_told_55 rfl ?_
        refine at_bipush dX9_told_56 pc_b8 ?_
        refine at_icmpne (tgt := 68) dX9_told_58 (by decide) (fun c58 => ?_) (fun c58 => ?_)
        · -- taken 58
          refine at_iload_n dX9_told_68 rfl ?_
          refine at_bipush dX9_told_69 pc_b9 ?_
          refine at_icmpne (tgt := 81) dX9_told_71 (by decide) (fun c71 => ?_) (fun c71 => ?_)
          · -- taken 71
            refine at_aload_n dX9_told_81 rfl ?_
            refine at_geti flX9_235 rfl sd_119 dX9_told_82 ?_
            refine at_iret rfl dX9_told_85 ?_
            refine m_yes (by rw [k15]; rfl) ?_ hF.t0 hF.mq
            unfold tdV
            first | (rw [if_pos c58, hJ.2.2]; done) | (rw [if_neg c58, if_pos c71, (hF.mq (L := L2)).1 119 2 (by decide) (by decide) (by decide) (by decide)]; done) | (rw [if_neg c58, if_neg c71, if_pos (by have a8 : q ≠ 8 := fun z => c58 (by rw [hx, z]; rfl); have a9 : q ≠ 9 := fun z => c71 (by rw [hx, z]; rfl); rw [hx, show q = 10 by omega]; rfl), (hF.mq (L := L2)).1 119 12 (by decide) (by decide) (by decide) (by decide)]; done)
          · -- not taken 71
            refine at_aload_n dX9_told_74 rfl ?_
            refine at_geti flX9_51 rfl sd_119 dX9_told_75 ?_
            refine at_goto (tgt := 85) dX9_told_78 (by decide) ?_
            refine at_iret rfl dX9_told_85 ?_
            refine m_yes (by rw [k15]; rfl) ?_ hF.t0 hF.mq
            unfold tdV
            first | (rw [if_pos c58, hJ.2.2]; done) | (rw [if_neg c58, if_pos c71, (hF.mq (L := L2)).1 119 2 (by decide) (by decide) (by decide) (by decide)]; done) | (rw [if_neg c58, if_neg c71, if_pos (by have a8 : q ≠ 8 := fun z => c58 (by rw [hx, z]; rfl); have a9 : q ≠ 9 := fun z => c71 (by rw [hx, z]; rfl); rw [hx, show q = 10 by omega]; rfl), (hF.mq (L := L2)).1 119 12 (by decide) (by decide) (by decide) (by decide)]; done)
        · -- not taken 58
          refine at_aload_n dX9_told_61 rfl ?_
          refine at_geti flX9_228 rfl sd_119 dX9_told_62 ?_
          refine at_goto (tgt := 85) dX9_told_65 (by decide) ?_
          refine at_iret rfl dX9_told_85 ?_
          refine m_yes (by rw [k15]; rfl) ?_ hF.t0 hF.mq
          unfold tdV
          first | (rw [if_pos c58, hJ.2.2]; done) | (rw [if_neg c58, if_pos c71, (hF.mq (L := L2)).1 119 2 (by decide) (by decide) (by decide) (by decide)]; done) | (rw [if_neg c58, if_neg c71, if_pos (by have a8 : q ≠ 8 := fun z => c58 (by rw [hx, z]; rfl); have a9 : q ≠ 9 := fun z => c71 (by rw [hx, z]; rfl); rw [hx, show q = 10 by omega]; rfl), (hF.mq (L := L2)).1 119 12 (by decide) (by decide) (by decide) (by decide)]; done)
      · -- not taken 36
        rw [hx, show (8 : Int32) = nI 8 from rfl, nI_leI (by decide) (by omega)] at c36
        refine at_aload_n dX9_told_39 rfl ?_
        refine at_getr (122) flX9_20 rfl sd_119 (rs_119_9 hR) dX9_told_40 ?_
        refine at_iload_n dX9_told_43 rfl ?_
        rw [hx]
        refine at_iald sd_122 (vp_in_nI (by omega) (by decide)) dX9_told_44 ?_
        rw [nI_clamp (by omega), pd_up_nb (by decide), hq _ (by omega)]
        refine at_iret rfl dX9_told_45 ?_
        refine m_yes (by rw [← hx, k15]; rfl) ?_ pd_up_at up_mq
        unfold tdV
        rw [if_neg (fun z => by have := (nI_eq (b := 8) (by omega) (by decide)).mp z; omega), if_neg (fun z => by have := (nI_eq (b := 9) (by omega) (by decide)).mp z; omega), if_neg (fun z => by have := (nI_eq (b := 10) (by omega) (by decide)).mp z; omega), nI_clamp (by omega)]
    · -- not taken 28
      exact absurd rfl c28
  · -- not taken 15
    have k15 := i_of0.mp c15
    refine at_iconst dX9_told_18 pc_i1 ?_
    refine at_goto (tgt := 23) dX9_told_19 (by decide) ?_
    refine at_iconst dX9_told_23 pc_i1 ?_
    refine at_iconst dX9_told_24 pc_i1 ?_
    refine at_cv3 cvX9_204 sd_119 (ev_X9_bad1 hR (pd_up_at) (c := 1) (y := 1) ⟨by decide, by decide⟩ (by decide)) (by decide) ⟨Nat.le_refl _, Nat.le_refl _⟩ (Nat.le_of_ble_eq_true rfl) dX9_told_25 (pd_k1 ?_)
    refine at_ifeq (tgt := 33) dX9_told_28 (by decide) (fun c28 => ?_) (fun c28 => ?_)
    · -- taken 28
      exact absurd c28 (by decide)
    · -- not taken 28
      refine at_iconst dX9_told_31 pc_i0 ?_
      refine at_iret rfl dX9_told_32 ?_
      exact m_rf 1 (by rw [k15]; rfl) rfl
theorem lp_X9_print (hR : RS R) (hq : RQ I 122 r) (hr : Row r nv ns nl e) {f : Nat → Int32} (hf : ∀ k, k < nl → I 133 k = f k) : ∀ (k i : Nat), i + k = nl → pd_At G mi_X9_print 8 0 0 0 0 18 [some (.ref (pd_z G + 119)), some (.long (prV (fun l => r (66 + 4 * l)) f i)), none, some (.int (nI i))] [] (SD, false, I, L, R) (pd_rt (.long (prV (fun l => r (66 + 4 * l)) f nl)) (SD, false, I, L, R)) := by
  have h40 := hr.2.2.1.2
  intro k
  induction k with
  | zero =>
    intro i hi
    have e0 : i = nl := by omega
    subst e0
    refine at_iload_n dX9_print_18 rfl ?_
    refine at_aload_n dX9_print_19 rfl ?_
    refine at_cv0 cvX9_218 sd_119 (ev_X9_lines hR hq hr.2.2.1.1) (by decide) ⟨Nat.le_refl _, Nat.le_refl _⟩ (Nat.le_of_ble_eq_true rfl) dX9_print_20 (pd_k1 ?_)
    refine at_icmpge (tgt := 62) dX9_print_23 (by decide) (fun c23 => ?_) (fun c23 => ?_)
    · -- taken 23
      refine at_lload_n dX9_print_62 rfl ?_
      refine at_lret rfl dX9_print_63 ?_
      exact ⟨rfl, rfl⟩
    · -- not taken 23
      exact absurd (nI_le (Nat.le_refl _) (by omega)) c23
  | succ k ih =>
    intro i hi
    refine at_iload_n dX9_print_18 rfl ?_
    refine at_aload_n dX9_print_19 rfl ?_
    refine at_cv0 cvX9_218 sd_119 (ev_X9_lines hR hq hr.2.2.1.1) (by decide) ⟨Nat.le_refl _, Nat.le_refl _⟩ (Nat.le_of_ble_eq_true rfl) dX9_print_20 (pd_k1 ?_)
    refine at_icmpge (tgt := 62) dX9_print_23 (by decide) (fun c23 => ?_) (fun c23 => ?_)
    · -- taken 23
      exact absurd c23 (nI_ge (by omega) (by omega))
    · -- not taken 23
      refine at_ldc2 coX9_333 dX9_print_26 ?_
      refine at_ldc2 coX9_333 dX9_print_29 ?_
      refine at_lload_n dX9_print_32 rfl ?_
      refine at_lmul dX9_print_33 ?_
      refine at_aload_n dX9_print_34 rfl ?_
      refine at_getr (122) flX9_20 rfl sd_119 (rs_119_9 hR) dX9_print_35 ?_
      refine at_iload_n dX9_print_38 rfl ?_
      refine at_iconst dX9_print_39 pc_i1 ?_
      refine at_cs2 csX9_124 (ev_X9_lineAt i 1 (66 + 4 * i) (by omega)) (by decide) ⟨Nat.le_refl _, Nat.le_refl _⟩ (Nat.le_of_ble_eq_true rfl) dX9_print_40 (pd_k1 ?_)
      refine at_iald sd_122 (vp_in_nI (by omega) (by decide)) dX9_print_43 ?_
      rw [nI_clamp (by omega), hq _ (by omega)]
      refine at_i2l dX9_print_44 ?_
      refine at_ladd dX9_print_45 ?_
      refine at_lmul dX9_print_46 ?_
      refine at_aload_n dX9_print_47 rfl ?_
      refine at_getr (133) flX9_31 rfl sd_119 (rs_119_16 hR) dX9_print_48 ?_
      refine at_iload_n dX9_print_51 rfl ?_
      refine at_iald sd_133 (vp_in_nI (by omega) (by decide)) dX9_print_52 ?_
      rw [nI_clamp (by omega), hf _ (by omega)]
      refine at_i2l dX9_print_53 ?_
      refine at_ladd dX9_print_54 ?_
      refine at_lstore_n dX9_print_55 rfl (Nat.le_of_ble_eq_true rfl) ?_
      refine at_inc dX9_print_56 rfl pc_i1 rfl (Nat.le_of_ble_eq_true rfl) ?_
      refine at_goto (tgt := 18) dX9_print_59 (by decide) ?_
      rw [nI_1]
      exact ih (i + 1) (by omega)
theorem ev_X9_print (hR : RS R) (hq : RQ I 122 r) (hr : Row r nv ns nl e) : pd_Ev G mi_X9_print 8 0 0 [.ref (pd_z G + 119)] (SD, false, I, L, R) (m_x I L R 0 8 (.long (prV (fun l => r (66 + 4 * l)) (rJ r nv nl e 0) nl)) (.long 0) (QK I L)) := by
  refine pd_ev 3 (lo := [some (.ref (pd_z G + 119)), none, none, none]) (by decide +kernel) (Nat.le_of_ble_eq_true rfl) rfl ?_
  refine at_aload_n dX9_print_0 rfl ?_
  refine at_iconst dX9_print_1 pc_i0 ?_
  refine at_puti flX9_48 rfl sd_119 (fun _ _ _ hq => by cases hq; rfl) dX9_print_2 ?_
  refine at_aload_n dX9_print_5 rfl ?_
  refine at_aload_n dX9_print_6 rfl ?_
  refine at_getr (122) flX9_20 rfl sd_119 (rs_119_9 hR) dX9_print_7 ?_
  refine at_iconst dX9_print_10 pc_i0 ?_
  refine at_cv2 cvX9_255 sd_119 (ev_X9_judges (e := e) (bes := 0) hR hq.up hr (by decide)) (by decide) ⟨Nat.le_refl _, Nat.le_refl _⟩ (Nat.le_of_ble_eq_true rfl) dX9_print_11 (pd_ke fun I2 L2 hj => ?_)
  obtain ⟨rfl, hF, hJ⟩ := hj
  refine at_lconst dX9_print_14 pc_l0 ?_
  refine at_lstore_n dX9_print_15 rfl (Nat.le_of_ble_eq_true rfl) ?_
  refine at_iconst dX9_print_16 pc_i0 ?_
  refine at_istore_n dX9_print_17 rfl (Nat.le_of_ble_eq_true rfl) ?_
  refine pd_At_mono (lp_X9_print hR (hF.row hq.up) hr hJ.1 nl 0 (by omega)) ?_
  rintro o M' ⟨rfl, rfl⟩
  exact m_yes rfl rfl hF.t0 hF.mq
theorem ev_X9_cost (hR : RS R) (hq : RQ I 122 r) (hr : Row r nv ns nl e) (x : Int32) : pd_Ev G mi_X9_cost 8 0 0 [.ref (pd_z G + 119), .int x] (SD, false, I, L, R) (m_x I L R (j1 9 (decide (0 ≤ x) && decide (x.toInt64 * (nI nl).toInt64 ≤ 2147483647))) 8 (.int (x * nI nl)) (.int 0) (QK I L)) := by
  refine pd_ev 0 (lo := [some (.ref (pd_z G + 119)), some (.int x)]) (by decide +kernel) (Nat.le_of_ble_eq_true rfl) rfl ?_
  refine at_aload_n dX9_cost_0 rfl ?_
  refine at_iconst dX9_cost_1 pc_i0 ?_
  refine at_puti flX9_48 rfl sd_119 (fun _ _ _ hq => by cases hq; rfl) dX9_cost_2 ?_
  refine at_aload_n dX9_cost_5 rfl ?_
  refine at_iload_n dX9_cost_6 rfl ?_
  refine at_iflt (tgt := 25) dX9_cost_7 (by decide) (fun c7 => ?_) (fun c7 => ?_)
  · -- taken 7
    refine at_iconst dX9_cost_25 pc_i1 ?_
    refine at_goto (tgt := 30) dX9_cost_26 (by decide) ?_
    refine at_iconst dX9_cost_30 pc_i1 ?_
    refine at_iconst dX9_cost_31 pc_i1 ?_
    refine at_cv3 cvX9_204 sd_119 (ev_X9_bad1 hR (pd_up_at) (c := 1) (y := 1) ⟨by decide, by decide⟩ (by decide)) (by decide) ⟨Nat.le_refl _, Nat.le_refl _⟩ (Nat.le_of_ble_eq_true rfl) dX9_cost_32 (pd_k1 ?_)
    refine at_ifeq (tgt := 40) dX9_cost_35 (by decide) (fun c35 => ?_) (fun c35 => ?_)
    · -- taken 35
      exact absurd c35 (by decide)
    · -- not taken 35
      refine at_iconst dX9_cost_38 pc_i0 ?_
      refine at_iret rfl dX9_cost_39 ?_
      first | exact m_rf 1 (by rw [decide_eq_false (fa_of_lt c7).2.1, Bool.false_and]; rfl) rfl | exact m_rf 1 (by rw [decide_eq_false c22, Bool.and_false]; rfl) rfl
  · -- not taken 7
    refine at_iload_n dX9_cost_10 rfl ?_
    refine at_i2l dX9_cost_11 ?_
    refine at_aload_n dX9_cost_12 rfl ?_
    refine at_cv0 cvX9_218 sd_119 (ev_X9_lines hR hq.up hr.2.2.1.1) (by decide) ⟨Nat.le_refl _, Nat.le_refl _⟩ (Nat.le_of_ble_eq_true rfl) dX9_cost_13 (pd_k1 ?_)
    refine at_i2l dX9_cost_16 ?_
    refine at_lmul dX9_cost_17 ?_
    refine at_ldc2 coX9_331 dX9_cost_18 ?_
    refine at_lcmp dX9_cost_21 ?_
    refine at_ifle (tgt := 29) dX9_cost_22 (by decide) (fun c22 => ?_) (fun c22 => ?_)
    · -- taken 22
      rw [lg_cmp_le] at c22
      refine at_iconst dX9_cost_29 pc_i0 ?_
      refine at_iconst dX9_cost_30 pc_i1 ?_
      refine at_iconst dX9_cost_31 pc_i1 ?_
      refine at_cv3 cvX9_204 sd_119 (ev_X9_bad0 hR (pd_up_at) _ _) (by decide) ⟨Nat.le_refl _, Nat.le_refl _⟩ (Nat.le_of_ble_eq_true rfl) dX9_cost_32 (pd_k1 ?_)
      refine at_ifeq (tgt := 40) dX9_cost_35 (by decide) (fun c35 => ?_) (fun c35 => ?_)
      · -- taken 35
        refine at_iload_n dX9_cost_40 rfl ?_
        refine at_aload_n dX9_cost_41 rfl ?_
        refine at_cv0 cvX9_218 sd_119 (ev_X9_lines hR hq.up hr.2.2.1.1) (by decide) ⟨Nat.le_refl _, Nat.le_refl _⟩ (Nat.le_of_ble_eq_true rfl) dX9_cost_42 (pd_k1 ?_)
        refine at_imul dX9_cost_45 ?_
        refine at_iret rfl dX9_cost_46 ?_
        exact m_yes (by rw [decide_eq_true (fa_of_nlt c7), decide_eq_true c22]; rfl) rfl pd_up_at up_mq
      · -- not taken 35
        exact absurd rfl c35
    · -- not taken 22
      rw [lg_cmp_le] at c22
      refine at_iconst dX9_cost_25 pc_i1 ?_
      refine at_goto (tgt := 30) dX9_cost_26 (by decide) ?_
      refine at_iconst dX9_cost_30 pc_i1 ?_
      refine at_iconst dX9_cost_31 pc_i1 ?_
      refine at_cv3 cvX9_204 sd_119 (ev_X9_bad1 hR (pd_up_at) (c := 1) (y := 1) ⟨by decide, by decide⟩ (by decide)) (by decide) ⟨Nat.le_refl _, Nat.le_refl _⟩ (Nat.le_of_ble_eq_true rfl) dX9_cost_32 (pd_k1 ?_)
      refine at_ifeq (tgt := 40) dX9_cost_35 (by decide) (fun c35 => ?_) (fun c35 => ?_)
      · -- taken 35
        exact absurd c35 (by decide)
      · -- not taken 35
        refine at_iconst dX9_cost_38 pc_i0 ?_
        refine at_iret rfl dX9_cost_39 ?_
        first | exact m_rf 1 (by rw [decide_eq_false (fa_of_lt c7).2.1, Bool.false_and]; rfl) rfl | exact m_rf 1 (by rw [decide_eq_false c22, Bool.and_false]; rfl) rfl
end REF5
