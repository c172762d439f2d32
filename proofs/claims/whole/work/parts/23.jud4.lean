/-! ===== Judgement: judge, and what is asked of it ===== -/
section JUD4
variable {G : pd_G} {I : Nat → Nat → Int32} {L : Nat → Nat → Int64} {R : Nat → Nat → Option Nat} {c nv ns nl : Nat} {e : List rl_S} {r : Nat → Int32}
theorem ev_X1_findDoubles (hR : RS R) (hr : Row r nv ns nl e) (hw : JW I r nv nl e) (hk : I 18 3 = nI (bsum (rK r nv nl e 0) ns)) : pd_Ev G mi_X1_findDoubles 2 0 0 [.ref (pd_z G + 18)] (SD, false, I, L, R) (pd_re R fun I2 L2 => L2 = L ∧ DInv I I2 r nv nl e nl) := by
  refine pd_ev 4 (lo := [some (.ref (pd_z G + 18)), none, none, none, none]) (by decide +kernel) (Nat.le_of_ble_eq_true rfl) rfl ?_
  refine at_aload_n dX1_findDoubles_0 rfl ?_
  refine at_getr (22) flX1_21 rfl sd_18 (rs_18_4 hR) dX1_findDoubles_1 ?_
  refine at_iconst dX1_findDoubles_4 pc_i0 ?_
  refine at_cs2 csX1_73 (ev_J7_fill sd_22 (by decide) 0) (by decide) ⟨Nat.le_refl _, Nat.le_refl _⟩ (Nat.le_of_ble_eq_true rfl) dX1_findDoubles_5 (pd_k0 ?_)
  refine at_iconst dX1_findDoubles_8 pc_i0 ?_
  refine at_istore_n dX1_findDoubles_9 rfl (Nat.le_of_ble_eq_true rfl) ?_
  refine at_iconst dX1_findDoubles_10 pc_i0 ?_
  refine at_istore_n dX1_findDoubles_11 rfl (Nat.le_of_ble_eq_true rfl) ?_
  have e0 : dSeen r nv nl e 0 = 0 := rfl
  have h := lp_X1_findDoubles (G := G) (L := L) hR hr hw.1 hk nl 0 (pd_fl I 22 0 8) (by omega) ⟨fun a _ h2 j => by simp [pd_fl, h2], fun l hl => by rw [if_neg (Nat.not_lt_zero _), ← hw.2 l hl]; simp [pd_fl], fun s hs => by simp [pd_fl, hs, fb_ct]; rfl⟩
  rw [e0] at h
  exact h
/-- the judgement is the row's -/
def JO (I : Nat → Nat → Int32) (r : Nat → Int32) (nv ns nl : Nat) (e : List rl_S) : Prop := JV I r nv nl ∧ (∀ l, l < nl → I 20 l = rJ r nv nl e 0 l) ∧ I 18 3 = nI (bsum (rK r nv nl e 0) ns) ∧ ∀ s, s < 8 → I 22 s = nI (rVo r nv nl e 0 s)
theorem ev_X1_judge (hR : RS R) (hc : PB c) (hr : Row r nv ns nl e) (hp : PetRel I L c r nv ns nl e) : pd_Ev G mi_X1_judge 6 0 0 [.ref (pd_z G + 18), .ref (pd_z G + c)] (SD, false, I, L, R) (pd_re R fun I' L' => L' = L ∧ JO I' r nv ns nl e ∧ ∀ a, a < 18 ∨ 24 < a → ∀ j, I' a j = I a j) := by
  have hcx := hc.cl
  have h40 : nl ≤ 40 := hr.2.2.1.2
  have hln : I c 6 = nI nl := hp.1.2.2.1.trans hr.2.2.1.1
  have e1 : (if (40 : Int32) < nI nl then (40 : Int32) else nI nl) = nI nl := if_neg (nI_nlt (a := 40) h40 (by decide))
  have e2 : (if (0 : Int32) < nI nl then nI nl else 0) = nI nl := by
    rcases Nat.eq_zero_or_pos nl with h | h
    · subst h; rfl
    · exact if_pos (nI_lt (a := 0) h (by omega))
  refine pd_ev 0 (lo := [some (.ref (pd_z G + 18)), some (.ref (pd_z G + c))]) (by decide +kernel) (Nat.le_of_ble_eq_true rfl) rfl ?_
  refine at_aload_n dX1_judge_0 rfl ?_
  refine at_iconst dX1_judge_1 pc_i0 ?_
  refine at_aload_n dX1_judge_2 rfl ?_
  refine at_geti flX1_32 rfl (sd_P0 hc) dX1_judge_3 ?_
  rw [hln]
  refine at_bipush dX1_judge_6 pc_b40 ?_
  refine at_min mlX1_38 (by decide) (Nat.le_of_ble_eq_true rfl) dX1_judge_8 ?_
  rw [e1]
  refine at_max mlX1_44 (by decide) (Nat.le_of_ble_eq_true rfl) dX1_judge_11 ?_
  rw [e2]
  refine at_puti flX1_47 rfl sd_18 (fun _ _ _ hq => by cases hq; rfl) dX1_judge_14 ?_
  have hp1 : PetRel (pd_up I 18 7 (nI nl)) L c r nv ns nl e := hp.fr (fun a h1 h2 j => pd_up_nb (by omega)) (fun _ => rfl)
  refine at_aload_n dX1_judge_17 rfl ?_
  refine at_aload_n dX1_judge_18 rfl ?_
  refine at_cv1 cvX1_48 sd_18 (ev_X1_findVoters hR hc hr hp1 (by rw [pd_up_at])) (by decide) ⟨Nat.le_refl _, Nat.le_refl _⟩ (Nat.le_of_ble_eq_true rfl) dX1_judge_19 (pd_k0 ?_)
  refine at_aload_n dX1_judge_22 rfl ?_
  refine at_aload_n dX1_judge_23 rfl ?_
  have hp2 := hp1.fr (I' := pd_fw (pd_fw (pd_up I 18 7 (nI nl)) 19 (rW r nv) nl) 24 (rSh r) nl) (L' := L) (fun a h1 h2 j => by rw [pd_fw_nb (by omega), pd_fw_nb (by omega)]) (fun _ => rfl)
  have hj2 : JV (pd_fw (pd_fw (pd_up I 18 7 (nI nl)) 19 (rW r nv) nl) 24 (rSh r) nl) r nv nl := ⟨by rw [pd_fw_nb (by decide), pd_fw_nb (by decide), pd_up_at], fun l hl => by rw [pd_fw_nb (by decide), pd_fw_at hl], fun l hl => by rw [pd_fw_at hl]⟩
  refine at_cv1 cvX1_52 sd_18 (ev_X1_findWrongs hR hc hr hp2 hj2) (by decide) ⟨Nat.le_refl _, Nat.le_refl _⟩ (Nat.le_of_ble_eq_true rfl) dX1_judge_24 (pd_ke fun I3 L3 h3 => ?_)
  obtain ⟨rfl, h3⟩ := h3
  have hp3 := hp2.fr (I' := I3) (L' := L3) (fun a h1 h2 j => h3.1 a (by omega) (by omega) (by omega) j) (fun _ => rfl)
  have hj3 : JW I3 r nv nl e := ⟨hj2.fr (h3.1 18 (by decide) (by decide) (by decide)) (h3.1 19 (by decide) (by decide) (by decide)) (h3.1 24 (by decide) (by decide) (by decide)), h3.2.1⟩
  refine at_aload_n dX1_judge_27 rfl ?_
  refine at_aload_n dX1_judge_28 rfl ?_
  refine at_cv1 cvX1_55 sd_18 (ev_X1_strikeSheets hR hc hr hj3 hp3) (by decide) ⟨Nat.le_refl _, Nat.le_refl _⟩ (Nat.le_of_ble_eq_true rfl) dX1_judge_29 (pd_k0 ?_)
  refine at_aload_n dX1_judge_32 rfl ?_
  refine at_cv0 cvX1_58 sd_18 (ev_X1_findDoubles hR hr hj3.up (by rw [pd_up_at])) (by decide) ⟨Nat.le_refl _, Nat.le_refl _⟩ (Nat.le_of_ble_eq_true rfl) dX1_judge_33 (pd_ke fun I4 L4 h4 => ?_)
  obtain ⟨rfl, h4⟩ := h4
  refine at_vret rfl dX1_judge_36 ?_
  refine ⟨rfl, _, _, rfl, rfl, ⟨hj3.up.1.fr (h4.1 18 (by decide) (by decide)) (h4.1 19 (by decide) (by decide)) (h4.1 24 (by decide) (by decide)), fun l hl => ?_, ?_, h4.2.2⟩, fun a ha j => ?_⟩
  · rw [h4.2.1 l hl, if_pos hl]
  · rw [h4.1 18 (by decide) (by decide), pd_up_at]
  · rw [h4.1 a (by omega) (by omega), pd_up_nb (by omega), h3.1 a (by omega) (by omega) (by omega), pd_fw_nb (by omega), pd_fw_nb (by omega), pd_up_nb (by omega)]
/-! asked -/
theorem fb_ct_one {p : Nat → Bool} {i : Nat} {b : Bool} (h : p i = b) : fb_ct p (i + 1) = fb_ct p i + (if b then 1 else 0) := by rw [← h]; exact fb_ct_succ _ _
theorem lp_X1_countJudged (hR : RS R) (h40 : nl ≤ 40) (hl : I 18 7 = nI nl) (as first : Int32) {f b : Nat} (hb : b ≤ nl) : ∀ (k i : Nat), f + i + k = b → pd_At G mi_X1_countJudged 2 0 0 0 0 10 [some (.ref (pd_z G + 18)), some (.int as), some (.int first), some (.int (nI b)), some (.int (nI (fb_ct (fun l => decide (I 20 (f + l) = as)) i))), some (.int (nI (f + i)))] [] (SD, false, I, L, R) (pd_rt (.int (nI (fb_ct (fun l => decide (I 20 (f + l) = as)) (b - f)))) (SD, false, I, L, R)) := by
  intro k
  induction k with
  | zero =>
    intro i hi
    refine at_iload dX1_countJudged_10 rfl ?_
    refine at_iload_n dX1_countJudged_12 rfl ?_
    refine at_icmpge (tgt := 52) dX1_countJudged_13 (by decide) (fun c13 => ?_) (fun c13 => ?_)
    · -- taken 13
      refine at_iload dX1_countJudged_52 rfl ?_
      refine at_iret rfl dX1_countJudged_54 ?_
      exact ⟨by rw [show i = b - f by omega], rfl⟩
    · -- not taken 13
      exact absurd (nI_le (by omega) (by omega)) c13
  | succ k ih =>
    intro i hi
    have hin : vp_in (nI (f + i)) 40 := vp_in_nI (by omega) (by decide)
    have hcl : (nI (f + i)).toNatClampNeg = f + i := nI_clamp (by omega)
    have h := ih (i + 1) (by omega)
    have e1 := fun (b : Bool) (hb : decide (I 20 (f + i) = as) = b) => fb_ct_one (p := fun l => decide (I 20 (f + l) = as)) (i := i) hb
    refine at_iload dX1_countJudged_10 rfl ?_
    refine at_iload_n dX1_countJudged_12 rfl ?_
    refine at_icmpge (tgt := 52) dX1_countJudged_13 (by decide) (fun c13 => ?_) (fun c13 => ?_)
    · -- taken 13
      exact absurd c13 (nI_ge (by omega) (by omega))
    · -- not taken 13
      refine at_iload dX1_countJudged_16 rfl ?_
      refine at_aload_n dX1_countJudged_18 rfl ?_
      refine at_geti flX1_47 rfl sd_18 dX1_countJudged_19 ?_
      rw [hl]
      refine at_icmpge (tgt := 52) dX1_countJudged_22 (by decide) (fun c22 => ?_) (fun c22 => ?_)
      · -- taken 22
        exact absurd c22 (nI_ge (by omega) (by omega))
      · -- not taken 22
        refine at_iload dX1_countJudged_25 rfl ?_
        refine at_aload_n dX1_countJudged_27 rfl ?_
        refine at_getr (20) flX1_15 rfl sd_18 (rs_18_1 hR) dX1_countJudged_28 ?_
        refine at_iload dX1_countJudged_31 rfl ?_
        refine at_iald sd_20 (hin) dX1_countJudged_33 ?_
        rw [hcl]
        refine at_iload_n dX1_countJudged_34 rfl ?_
        refine at_icmpne (tgt := 42) dX1_countJudged_35 (by decide) (fun c35 => ?_) (fun c35 => ?_)
        · -- taken 35
          refine at_iconst dX1_countJudged_42 pc_i0 ?_
          refine at_iadd dX1_countJudged_43 ?_
          refine at_istore dX1_countJudged_44 rfl (Nat.le_of_ble_eq_true rfl) ?_
          refine at_inc dX1_countJudged_46 rfl pc_i1 rfl (Nat.le_of_ble_eq_true rfl) ?_
          refine at_goto (tgt := 10) dX1_countJudged_49 (by decide) ?_
          simp only [nI_1, Int32.add_zero]
          rw [show f + i + 1 = f + (i + 1) by omega]
          first | (rw [e1 true (by simp [c35])] at h; exact h) | (rw [e1 false (by simp [c35])] at h; exact h)
        · -- not taken 35
          refine at_iconst dX1_countJudged_38 pc_i1 ?_
          refine at_goto (tgt := 43) dX1_countJudged_39 (by decide) ?_
          refine at_iadd dX1_countJudged_43 ?_
          refine at_istore dX1_countJudged_44 rfl (Nat.le_of_ble_eq_true rfl) ?_
          refine at_inc dX1_countJudged_46 rfl pc_i1 rfl (Nat.le_of_ble_eq_true rfl) ?_
          refine at_goto (tgt := 10) dX1_countJudged_49 (by decide) ?_
          simp only [nI_1, Int32.add_zero]
          rw [show f + i + 1 = f + (i + 1) by omega]
          first | (rw [e1 true (by simp [c35])] at h; exact h) | (rw [e1 false (by simp [c35])] at h; exact h)
/-- lines judged so, from f up to b -/
theorem ev_X1_countJudged (hR : RS R) (h40 : nl ≤ 40) (hl : I 18 7 = nI nl) (as : Int32) {f b : Nat} (hb : b ≤ nl) (hf : f ≤ b) : pd_Ev G mi_X1_countJudged 2 0 0 [.ref (pd_z G + 18), .int as, .int (nI f), .int (nI b)] (SD, false, I, L, R) (pd_rt (.int (nI (fb_ct (fun l => decide (I 20 (f + l) = as)) (b - f)))) (SD, false, I, L, R)) := by
  have e2 : (if (0 : Int32) < nI f then nI f else 0) = nI f := by
    rcases Nat.eq_zero_or_pos f with h | h
    · subst h; rfl
    · exact if_pos (nI_lt (a := 0) h (by omega))
  refine pd_ev 2 (lo := [some (.ref (pd_z G + 18)), some (.int as), some (.int (nI f)), some (.int (nI b)), none, none]) (by decide +kernel) (Nat.le_of_ble_eq_true rfl) rfl ?_
  refine at_iconst dX1_countJudged_0 pc_i0 ?_
  refine at_istore dX1_countJudged_1 rfl (Nat.le_of_ble_eq_true rfl) ?_
  refine at_iconst dX1_countJudged_3 pc_i0 ?_
  refine at_iload_n dX1_countJudged_4 rfl ?_
  refine at_max mlX1_44 (by decide) (Nat.le_of_ble_eq_true rfl) dX1_countJudged_5 ?_
  rw [e2]
  refine at_istore dX1_countJudged_8 rfl (Nat.le_of_ble_eq_true rfl) ?_
  exact lp_X1_countJudged (G := G) (L := L) hR h40 hl as (nI f) hb (b - f) 0 (by omega)
theorem lp_X1_linesOf (hR : RS R) (h40 : nl ≤ 40) (hl : I 18 7 = nI nl) (v : Int32) : ∀ (k i : Nat), i + k = nl → pd_At G mi_X1_linesOf 1 0 0 0 0 4 [some (.ref (pd_z G + 18)), some (.int v), some (.int (nI (fb_ct (fun l => decide (I 19 l = v)) i))), some (.int (nI i))] [] (SD, false, I, L, R) (pd_rt (.int (nI (fb_ct (fun l => decide (I 19 l = v)) nl))) (SD, false, I, L, R)) := by
  intro k
  induction k with
  | zero =>
    intro i hi
    have e0 : i = nl := by omega
    subst e0
    refine at_iload_n dX1_linesOf_4 rfl ?_
    refine at_aload_n dX1_linesOf_5 rfl ?_
    refine at_geti flX1_47 rfl sd_18 dX1_linesOf_6 ?_
    rw [hl]
    refine at_icmpge (tgt := 36) dX1_linesOf_9 (by decide) (fun c9 => ?_) (fun c9 => ?_)
    · -- taken 9
      refine at_iload_n dX1_linesOf_36 rfl ?_
      refine at_iret rfl dX1_linesOf_37 ?_
      exact ⟨rfl, rfl⟩
    · -- not taken 9
      exact absurd (nI_le (by omega) (by omega)) c9
  | succ k ih =>
    intro i hi
    have hin : vp_in (nI i) 40 := vp_in_nI (by omega) (by decide)
    have hcl : (nI i).toNatClampNeg = i := nI_clamp (by omega)
    have h := ih (i + 1) (by omega)
    have e1 := fun (b : Bool) (hb : decide (I 19 i = v) = b) => fb_ct_one (p := fun l => decide (I 19 l = v)) (i := i) hb
    refine at_iload_n dX1_linesOf_4 rfl ?_
    refine at_aload_n dX1_linesOf_5 rfl ?_
    refine at_geti flX1_47 rfl sd_18 dX1_linesOf_6 ?_
    rw [hl]
    refine at_icmpge (tgt := 36) dX1_linesOf_9 (by decide) (fun c9 => ?_) (fun c9 => ?_)
    · -- taken 9
      exact absurd c9 (nI_ge (by omega) (by omega))
    · -- not taken 9
      refine at_iload_n dX1_linesOf_12 rfl ?_
      refine at_aload_n dX1_linesOf_13 rfl ?_
      refine at_getr (19) flX1_9 rfl sd_18 (rs_18_0 hR) dX1_linesOf_14 ?_
      refine at_iload_n dX1_linesOf_17 rfl ?_
      refine at_iald sd_19 (hin) dX1_linesOf_18 ?_
      rw [hcl]
      refine at_iload_n dX1_linesOf_19 rfl ?_
      refine at_icmpne (tgt := 27) dX1_linesOf_20 (by decide) (fun c20 => ?_) (fun c20 => ?_)
      · -- taken 20
        refine at_iconst dX1_linesOf_27 pc_i0 ?_
        refine at_iadd dX1_linesOf_28 ?_
        refine at_istore_n dX1_linesOf_29 rfl (Nat.le_of_ble_eq_true rfl) ?_
        refine at_inc dX1_linesOf_30 rfl pc_i1 rfl (Nat.le_of_ble_eq_true rfl) ?_
        refine at_goto (tgt := 4) dX1_linesOf_33 (by decide) ?_
        simp only [nI_1, Int32.add_zero]
        first | (rw [e1 true (by simp [c20])] at h; exact h) | (rw [e1 false (by simp [c20])] at h; exact h)
      · -- not taken 20
        refine at_iconst dX1_linesOf_23 pc_i1 ?_
        refine at_goto (tgt := 28) dX1_linesOf_24 (by decide) ?_
        refine at_iadd dX1_linesOf_28 ?_
        refine at_istore_n dX1_linesOf_29 rfl (Nat.le_of_ble_eq_true rfl) ?_
        refine at_inc dX1_linesOf_30 rfl pc_i1 rfl (Nat.le_of_ble_eq_true rfl) ?_
        refine at_goto (tgt := 4) dX1_linesOf_33 (by decide) ?_
        simp only [nI_1, Int32.add_zero]
        first | (rw [e1 true (by simp [c20])] at h; exact h) | (rw [e1 false (by simp [c20])] at h; exact h)
theorem ev_X1_linesOf (hR : RS R) (h40 : nl ≤ 40) (hl : I 18 7 = nI nl) (v : Int32) : pd_Ev G mi_X1_linesOf 1 0 0 [.ref (pd_z G + 18), .int v] (SD, false, I, L, R) (pd_rt (.int (nI (fb_ct (fun l => decide (I 19 l = v)) nl))) (SD, false, I, L, R)) := by
  refine pd_ev 2 (lo := [some (.ref (pd_z G + 18)), some (.int v), none, none]) (by decide +kernel) (Nat.le_of_ble_eq_true rfl) rfl ?_
  refine at_iconst dX1_linesOf_0 pc_i0 ?_
  refine at_istore_n dX1_linesOf_1 rfl (Nat.le_of_ble_eq_true rfl) ?_
  refine at_iconst dX1_linesOf_2 pc_i0 ?_
  refine at_istore_n dX1_linesOf_3 rfl (Nat.le_of_ble_eq_true rfl) ?_
  exact lp_X1_linesOf (G := G) (L := L) hR h40 hl v nl 0 (by omega)
theorem lp_X1_trueLinesOf (hR : RS R) (h40 : nl ≤ 40) (hl : I 18 7 = nI nl) (v : Int32) : ∀ (k i : Nat), i + k = nl → pd_At G mi_X1_trueLinesOf 1 0 0 0 0 4 [some (.ref (pd_z G + 18)), some (.int v), some (.int (nI (fb_ct (fun l => decide (I 19 l = v) && decide (I 20 l = 0)) i))), some (.int (nI i))] [] (SD, false, I, L, R) (pd_rt (.int (nI (fb_ct (fun l => decide (I 19 l = v) && decide (I 20 l = 0)) nl))) (SD, false, I, L, R)) := by
  intro k
  induction k with
  | zero =>
    intro i hi
    have e0 : i = nl := by omega
    subst e0
    refine at_iload_n dX1_trueLinesOf_4 rfl ?_
    refine at_aload_n dX1_trueLinesOf_5 rfl ?_
    refine at_geti flX1_47 rfl sd_18 dX1_trueLinesOf_6 ?_
    rw [hl]
    refine at_icmpge (tgt := 45) dX1_trueLinesOf_9 (by decide) (fun c9 => ?_) (fun c9 => ?_)
    · -- taken 9
      refine at_iload_n dX1_trueLinesOf_45 rfl ?_
      refine at_iret rfl dX1_trueLinesOf_46 ?_
      exact ⟨rfl, rfl⟩
    · -- not taken 9
      exact absurd (nI_le (by omega) (by omega)) c9
  | succ k ih =>
    intro i hi
    have hin : vp_in (nI i) 40 := vp_in_nI (by omega) (by decide)
    have hcl : (nI i).toNatClampNeg = i := nI_clamp (by omega)
    have h := ih (i + 1) (by omega)
    have e1 := fun (b : Bool) (hb : (decide (I 19 i = v) && decide (I 20 i = 0)) = b) => fb_ct_one (p := fun l => decide (I 19 l = v) && decide (I 20 l = 0)) (i := i) hb
    refine at_iload_n dX1_trueLinesOf_4 rfl ?_
    refine at_aload_n dX1_trueLinesOf_5 rfl ?_
    refine at_geti flX1_47 rfl sd_18 dX1_trueLinesOf_6 ?_
    rw [hl]
    refine at_icmpge (tgt := 45) dX1_trueLinesOf_9 (by decide) (fun c9 => ?_) (fun c9 => ?_)
    · -- taken 9
      exact absurd c9 (nI_ge (by omega) (by omega))
    · -- not taken 9
      refine at_iload_n dX1_trueLinesOf_12 rfl ?_
      refine at_aload_n dX1_trueLinesOf_13 rfl ?_
      refine at_getr (19) flX1_9 rfl sd_18 (rs_18_0 hR) dX1_trueLinesOf_14 ?_
      refine at_iload_n dX1_trueLinesOf_17 rfl ?_
      refine at_iald sd_19 (hin) dX1_trueLinesOf_18 ?_
      rw [hcl]
      refine at_iload_n dX1_trueLinesOf_19 rfl ?_
      refine at_icmpne (tgt := 36) dX1_trueLinesOf_20 (by decide) (fun c20 => ?_) (fun c20 => ?_)
      · -- taken 20
        refine at_iconst dX1_trueLinesOf_36 pc_i0 ?_
        refine at_iadd dX1_trueLinesOf_37 ?_
        refine at_istore_n dX1_trueLinesOf_38 rfl (Nat.le_of_ble_eq_true rfl) ?_
        refine at_inc dX1_trueLinesOf_39 rfl pc_i1 rfl (Nat.le_of_ble_eq_true rfl) ?_
        refine at_goto (tgt := 4) dX1_trueLinesOf_42 (by decide) ?_
        simp only [nI_1, Int32.add_zero]
        first | (rw [e1 true (by simp [c20, c29])] at h; exact h) | (rw [e1 false (by first | (simp [c20]; done) | (simp [c29]; done))] at h; exact h)
      · -- not taken 20
        refine at_aload_n dX1_trueLinesOf_23 rfl ?_
        refine at_getr (20) flX1_15 rfl sd_18 (rs_18_1 hR) dX1_trueLinesOf_24 ?_
        refine at_iload_n dX1_trueLinesOf_27 rfl ?_
        refine at_iald sd_20 (hin) dX1_trueLinesOf_28 ?_
        rw [hcl]
        refine at_ifne (tgt := 36) dX1_trueLinesOf_29 (by decide) (fun c29 => ?_) (fun c29 => ?_)
        · -- taken 29
          refine at_iconst dX1_trueLinesOf_36 pc_i0 ?_
          refine at_iadd dX1_trueLinesOf_37 ?_
          refine at_istore_n dX1_trueLinesOf_38 rfl (Nat.le_of_ble_eq_true rfl) ?_
          refine at_inc dX1_trueLinesOf_39 rfl pc_i1 rfl (Nat.le_of_ble_eq_true rfl) ?_
          refine at_goto (tgt := 4) dX1_trueLinesOf_42 (by decide) ?_
          simp only [nI_1, Int32.add_zero]
          first | (rw [e1 true (by simp [c20, c29])] at h; exact h) | (rw [e1 false (by first | (simp [c20]; done) | (simp [c29]; done))] at h; exact h)
        · -- not taken 29
          refine at_iconst dX1_trueLinesOf_32 pc_i1 ?_
          refine at_goto (tgt := 37) dX1_trueLinesOf_33 (by decide) ?_
          refine at_iadd dX1_trueLinesOf_37 ?_
          refine at_istore_n dX1_trueLinesOf_38 rfl (Nat.le_of_ble_eq_true rfl) ?_
          refine at_inc dX1_trueLinesOf_39 rfl pc_i1 rfl (Nat.le_of_ble_eq_true rfl) ?_
          refine at_goto (tgt := 4) dX1_trueLinesOf_42 (by decide) ?_
          simp only [nI_1, Int32.add_zero]
          first | (rw [e1 true (by simp [c20, c29])] at h; exact h) | (rw [e1 false (by first | (simp [c20]; done) | (simp [c29]; done))] at h; exact h)
theorem ev_X1_trueLinesOf (hR : RS R) (h40 : nl ≤ 40) (hl : I 18 7 = nI nl) (v : Int32) : pd_Ev G mi_X1_trueLinesOf 1 0 0 [.ref (pd_z G + 18), .int v] (SD, false, I, L, R) (pd_rt (.int (nI (fb_ct (fun l => decide (I 19 l = v) && decide (I 20 l = 0)) nl))) (SD, false, I, L, R)) := by
  refine pd_ev 2 (lo := [some (.ref (pd_z G + 18)), some (.int v), none, none]) (by decide +kernel) (Nat.le_of_ble_eq_true rfl) rfl ?_
  refine at_iconst dX1_trueLinesOf_0 pc_i0 ?_
  refine at_istore_n dX1_trueLinesOf_1 rfl (Nat.le_of_ble_eq_true rfl) ?_
  refine at_iconst dX1_trueLinesOf_2 pc_i0 ?_
  refine at_istore_n dX1_trueLinesOf_3 rfl (Nat.le_of_ble_eq_true rfl) ?_
  exact lp_X1_trueLinesOf (G := G) (L := L) hR h40 hl v nl 0 (by omega)
end JUD4
