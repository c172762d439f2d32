/-! ===== Judgement: wrongs ===== -/
theorem PetRel.fr {I I' : Nat → Nat → Int32} {L L' : Nat → Nat → Int64} {c nv ns nl : Nat} {r : Nat → Int32} {e : List rl_S} (h : PetRel I L c r nv ns nl e) (hI : ∀ a, c ≤ a → a < c + 10 → ∀ j, I' a j = I a j) (hL : ∀ j, L' c j = L c j) : PetRel I' L' c r nv ns nl e := by
  obtain ⟨⟨a0, a1, a2, a3, a4, a5, a6, a7⟩, hv, hl, hb, h17, h18, hn, hle, hs⟩ := h
  have h0 := hI c (Nat.le_refl _) (by omega)
  refine ⟨⟨by rw [h0, a0], by rw [h0, a1], by rw [h0, a2], by rw [h0, a3], by rw [h0, a4], by rw [h0, a5], by rw [h0, a6], by rw [h0, a7]⟩, fun v h => ?_, fun l h => ?_, by rw [h0, hb], by rw [hL, h17], by rw [hL, h18], by rw [hI _ (by omega) (by omega), hn], hle, fun j q hq => by rw [hI _ (by omega) (by omega), hs j q hq]⟩
  · rw [hI _ (by omega) (by omega), hI _ (by omega) (by omega), hI _ (by omega) (by omega)]; exact hv v h
  · rw [hI _ (by omega) (by omega), hI _ (by omega) (by omega), hI _ (by omega) (by omega), hI _ (by omega) (by omega)]; exact hl l h
section JUD2
variable {G : pd_G} {I : Nat → Nat → Int32} {L : Nat → Nat → Int64} {R : Nat → Nat → Option Nat} {c nv ns nl : Nat} {e : List rl_S} {r : Nat → Int32}
theorem rSh_mono (hr : Row r nv ns nl e) : ∀ (d k : Nat), k + d < nl → rSh r k ≤ rSh r (k + d)
  | 0, k, _ => Int32.le_refl _
  | d + 1, k, h => Int32.le_trans (rSh_mono hr d k (by omega)) (hr.2.2.2.2.2.2.1 (k + d) (by omega))
theorem rNo_step (hr : Row r nv ns nl e) {i : Nat} (hi : i + 1 < nl) : rNo r (i + 1) = if rSh r (i + 1) = rSh r i then rNo r i + 1 else 0 := by
  unfold rNo
  rw [fb_ct_succ]
  by_cases h : rSh r (i + 1) = rSh r i
  · rw [if_pos h, h]; simp
  · rw [if_neg h]
    have h1 : ∀ k, k < i → decide (rSh r k = rSh r (i + 1)) = false := fun k hk => by
      apply decide_eq_false
      intro e1
      have m1 := rSh_mono hr (i - k) k (by omega)
      rw [show k + (i - k) = i by omega] at m1
      have m2 := rSh_mono hr 1 i (by omega)
      exact h (Int32.le_antisymm (by rw [← e1]; exact m1) m2)
    rw [fb_ct_zero.mpr h1, if_neg (by simpa using fun e1 => h e1.symm)]
/-- how far the wrongs are found -/
def WInv (I I' : Nat → Nat → Int32) (r : Nat → Int32) (nv : Nat) (e : List rl_S) (i : Nat) : Prop := (∀ a, a ≠ 20 → a ≠ 21 → a ≠ 23 → ∀ j, I' a j = I a j) ∧ (∀ l, l < i → I' 20 l = rH r nv e l) ∧ ∀ v, v < 16 → I' 21 v = nI (fb_ct (fun k => decide (rW r nv k = nI v)) i)
def rNum (r : Nat → Int32) (i : Nat) : Int32 := if i = 0 then 0 else nI (rNo r (i - 1))
theorem JV.fr {I I' : Nat → Nat → Int32} (h : JV I r nv nl) (h18 : ∀ j, I' 18 j = I 18 j) (h19 : ∀ j, I' 19 j = I 19 j) (h24 : ∀ j, I' 24 j = I 24 j) : JV I' r nv nl := ⟨by rw [h18]; exact h.1, fun l hl => by rw [h19]; exact h.2.1 l hl, fun l hl => by rw [h24]; exact h.2.2 l hl⟩
theorem WInv.none {I I' I2 : Nat → Nat → Int32} {i : Nat} (hI : WInv I I' r nv e i) (hfr : ∀ a, a ≠ 23 → ∀ j, I2 a j = I' a j) (hw : rW r nv i = -1) : WInv I (pd_up I2 20 i (rH r nv e i)) r nv e (i + 1) := by
  refine ⟨fun a h1 h2 h3 j => ?_, fun l hl => ?_, fun v hv => ?_⟩
  · rw [pd_up_nb h1, hfr a h3, hI.1 a h1 h2 h3]
  · by_cases h : l = i
    · subst h; rw [pd_up_at]
    · rw [pd_up_nj h, hfr 20 (by decide), hI.2.1 l (by omega)]
  · rw [pd_up_nb (by decide), hfr 21 (by decide), hI.2.2 v hv, fb_ct_succ, if_neg ?_]
    · rfl
    · rw [hw]; simp; intro h; exact nI_pos (n := v) (by omega) (by rw [← h]; decide)
theorem WInv.some {I I' I2 : Nat → Nat → Int32} {i w : Nat} (hI : WInv I I' r nv e i) (hfr : ∀ a, a ≠ 23 → ∀ j, I2 a j = I' a j) (hw16 : w < 16) (hw : rW r nv i = nI w) : WInv I (pd_up (pd_up I2 20 i (rH r nv e i)) 21 w (nI (fb_ct (fun k => decide (rW r nv k = nI w)) i + 1))) r nv e (i + 1) := by
  refine ⟨fun a h1 h2 h3 j => ?_, fun l hl => ?_, fun v hv => ?_⟩
  · rw [pd_up_nb h2, pd_up_nb h1, hfr a h3, hI.1 a h1 h2 h3]
  · rw [pd_up_nb (by decide)]
    by_cases h : l = i
    · subst h; rw [pd_up_at]
    · rw [pd_up_nj h, hfr 20 (by decide), hI.2.1 l (by omega)]
  · rw [fb_ct_succ, hw]
    by_cases h : v = w
    · subst h; rw [pd_up_at]; simp
    · rw [pd_up_nj h, pd_up_nb (by decide), hfr 21 (by decide), hI.2.2 v hv, if_neg ?_]
      · rfl
      · simp; intro h2; exact h ((nI_eq (by omega) (by omega)).mp h2.symm)
theorem lp_X1_findWrongs (hR : RS R) (hc : PB c) (hr : Row r nv ns nl e) (hp : PetRel I L c r nv ns nl e) (hj : JV I r nv nl) : ∀ (k i : Nat) (I' : Nat → Nat → Int32), i + k = nl → WInv I I' r nv e i → pd_At G mi_X1_findWrongs 5 0 0 0 0 12 [some (.ref (pd_z G + 18)), some (.ref (pd_z G + c)), some (.int (rNum r i)), some (.int (nI i))] [] (SD, false, I', L, R) (pd_re R fun I2 L2 => L2 = L ∧ WInv I I2 r nv e nl) := by
  have hcx := hc.cl
  have h40 : nl ≤ 40 := hr.2.2.1.2
  have hv16 : nv ≤ 16 := hr.1.2
  intro k
  induction k with
  | zero =>
    intro i I' hi hI
    have e0 : i = nl := by omega
    subst e0
    refine at_iload_n dX1_findWrongs_12 rfl ?_
    refine at_aload_n dX1_findWrongs_13 rfl ?_
    refine at_geti flX1_47 rfl sd_18 dX1_findWrongs_14 ?_
    rw [hI.1 18 (by decide) (by decide) (by decide), hj.1]
    refine at_icmpge (tgt := 91) dX1_findWrongs_17 (by decide) (fun c17 => ?_) (fun c17 => ?_)
    · -- taken 17
      refine at_vret rfl dX1_findWrongs_91 ?_
      exact ⟨rfl, _, _, rfl, rfl, hI⟩
    · -- not taken 17
      exact absurd (nI_le (Nat.le_refl _) (by omega)) c17
  | succ k ih =>
    intro i I' hi hI
    have hin : vp_in (nI i) 40 := vp_in_nI (by omega) (by decide)
    have hcl : (nI i).toNatClampNeg = i := nI_clamp (by omega)
    have hj' : JV I' r nv nl := hj.fr (hI.1 18 (by decide) (by decide) (by decide)) (hI.1 19 (by decide) (by decide) (by decide)) (hI.1 24 (by decide) (by decide) (by decide))
    have hp' : PetRel I' L c r nv ns nl e := hp.fr (fun a h1 h2 j => hI.1 a (by omega) (by omega) (by omega) j) (fun _ => rfl)
    have hgo : ∀ I3 : Nat → Nat → Int32, WInv I I3 r nv e (i + 1) → pd_At G mi_X1_findWrongs 5 0 0 0 0 12 [some (.ref (pd_z G + 18)), some (.ref (pd_z G + c)), some (.int (nI (rNo r i))), some (.int (nI (i + 1)))] [] (SD, false, I3, L, R) (pd_re R fun I2 L2 => L2 = L ∧ WInv I I2 r nv e nl) := fun I3 h3 => by
      have h := ih (i + 1) I3 (by omega) h3
      rw [rNum, if_neg (by omega), Nat.add_sub_cancel] at h
      exact h
    have body : ∀ n : Int32, n = nI (rNo r i) → pd_At G mi_X1_findWrongs 5 0 0 0 0 49 [some (.ref (pd_z G + 18)), some (.ref (pd_z G + c)), some (.int n), some (.int (nI i))] [] (SD, false, I', L, R) (pd_re R fun I2 L2 => L2 = L ∧ WInv I I2 r nv e nl) := by
      intro n hn
      subst hn
      have htl : ∀ v, v < nv → rW r nv i = nI v → I' 21 v = nI (rAh r nv i) := fun v hv hw => by rw [hI.2.2 v (by omega), rAh, hw]
      refine at_aload_n dX1_findWrongs_49 rfl ?_
      refine at_getr (20) flX1_15 rfl sd_18 (rs_18_1 hR) dX1_findWrongs_50 ?_
      refine at_iload_n dX1_findWrongs_53 rfl ?_
      refine at_aload_n dX1_findWrongs_54 rfl ?_
      refine at_aload_n dX1_findWrongs_55 rfl ?_
      refine at_iload_n dX1_findWrongs_56 rfl ?_
      refine at_iload_n dX1_findWrongs_57 rfl ?_
      refine at_cv3 cvX1_79 sd_18 (ev_X1_wrongOf hR hc hr hp' hj' (by omega) htl) (by decide) ⟨Nat.le_refl _, Nat.le_refl _⟩ (Nat.le_of_ble_eq_true rfl) dX1_findWrongs_58 (pd_ki fun x I2 L2 hq => ?_)
      obtain ⟨rfl, rfl, hfr⟩ := hq
      refine at_iast sd_20 (hin) dX1_findWrongs_61 ?_
      rw [hcl]
      refine at_aload_n dX1_findWrongs_62 rfl ?_
      refine at_iload_n dX1_findWrongs_63 rfl ?_
      refine at_cv1 cvX1_83 sd_18 (ev_X1_hasVoter (r := r) (nv := nv) (nl := nl) hR h40 hv16 (hj'.fr (fun j => by rw [pd_up_nb (by decide), hfr _ (by decide)]) (fun j => by rw [pd_up_nb (by decide), hfr _ (by decide)]) (fun j => by rw [pd_up_nb (by decide), hfr _ (by decide)])) (by omega)) (by decide) ⟨Nat.le_refl _, Nat.le_refl _⟩ (Nat.le_of_ble_eq_true rfl) dX1_findWrongs_64 (pd_k1 ?_)
      refine at_ifeq (tgt := 85) dX1_findWrongs_67 (by decide) (fun c67 => ?_) (fun c67 => ?_)
      · -- taken 67
        have hw : rW r nv i = -1 := Classical.byContradiction fun h => by rw [if_neg h] at c67; exact absurd c67 (by decide)
        try rw [hvc]
        refine at_inc dX1_findWrongs_85 rfl pc_i1 rfl (Nat.le_of_ble_eq_true rfl) ?_
        refine at_goto (tgt := 12) dX1_findWrongs_88 (by decide) ?_
        rw [nI_1]; refine hgo _ ?_
        first | exact WInv.none hI hfr hw | exact WInv.some hI hfr (by omega) hwv
      · -- not taken 67
        have hw : ¬ rW r nv i = -1 := fun h => by rw [if_pos h] at c67; exact absurd rfl c67
        obtain ⟨v, hv, hwv⟩ := (rW_is r nv i).resolve_left hw
        have hvc : (nI v).toNatClampNeg = v := nI_clamp (by omega)
        have hvin : vp_in (nI v) 16 := vp_in_nI (by omega) (by decide)
        refine at_aload_n dX1_findWrongs_70 rfl ?_
        refine at_getr (21) flX1_18 rfl sd_18 (rs_18_2 hR) dX1_findWrongs_71 ?_
        refine at_aload_n dX1_findWrongs_74 rfl ?_
        refine at_getr (19) flX1_9 rfl sd_18 (rs_18_0 hR) dX1_findWrongs_75 ?_
        refine at_iload_n dX1_findWrongs_78 rfl ?_
        refine at_iald sd_19 (hin) dX1_findWrongs_79 ?_
        rw [hcl, pd_up_nb (by decide), hfr _ (by decide), hj'.2.1 i (by omega), hwv]
        refine at_dup2 dX1_findWrongs_80 rfl rfl ?_
        refine at_iald sd_21 (hvin) dX1_findWrongs_81 ?_
        rw [hvc, pd_up_nb (by decide), hfr _ (by decide), hI.2.2 v (by omega)]
        refine at_iconst dX1_findWrongs_82 pc_i1 ?_
        refine at_iadd dX1_findWrongs_83 ?_
        rw [nI_1]
        refine at_iast sd_21 (hvin) dX1_findWrongs_84 ?_
        try rw [hvc]
        refine at_inc dX1_findWrongs_85 rfl pc_i1 rfl (Nat.le_of_ble_eq_true rfl) ?_
        refine at_goto (tgt := 12) dX1_findWrongs_88 (by decide) ?_
        rw [nI_1]; refine hgo _ ?_
        first | exact WInv.none hI hfr hw | exact WInv.some hI hfr (by omega) hwv
    refine at_iload_n dX1_findWrongs_12 rfl ?_
    refine at_aload_n dX1_findWrongs_13 rfl ?_
    refine at_geti flX1_47 rfl sd_18 dX1_findWrongs_14 ?_
    rw [hI.1 18 (by decide) (by decide) (by decide), hj.1]
    refine at_icmpge (tgt := 91) dX1_findWrongs_17 (by decide) (fun c17 => ?_) (fun c17 => ?_)
    · -- taken 17
      exact absurd c17 (nI_ge (by omega) (by omega))
    · -- not taken 17
      refine at_iload_n dX1_findWrongs_20 rfl ?_
      refine at_ifle (tgt := 47) dX1_findWrongs_21 (by decide) (fun c21 => ?_) (fun c21 => ?_)
      · -- taken 21
        have hi0 : i = 0 := Classical.byContradiction fun h => nI_nle (n := i) (by omega) (by omega) c21
        have hns : rNo r i = 0 := by rw [hi0]; rfl
        refine at_iconst dX1_findWrongs_47 pc_i0 ?_
        refine at_istore_n dX1_findWrongs_48 rfl (Nat.le_of_ble_eq_true rfl) ?_
        refine body _ ?_
        first | (rw [hns]; rfl) | (rw [hns, rNum, if_neg (by omega), Nat.add_sub_cancel, nI_1])
      · -- not taken 21
        have hi0 : i ≠ 0 := fun h => c21 (by rw [h]; decide)
        obtain ⟨j, rfl⟩ : ∃ j, i = j + 1 := ⟨i - 1, by omega⟩
        have hns := rNo_step hr (i := j) (by omega)
        have hpm : nI (j + 1) - 1 = nI j := nI_pred j
        have hjc : (nI j).toNatClampNeg = j := nI_clamp (by omega)
        refine at_aload_n dX1_findWrongs_24 rfl ?_
        refine at_getr (24) flX1_29 rfl sd_18 (rs_18_6 hR) dX1_findWrongs_25 ?_
        refine at_iload_n dX1_findWrongs_28 rfl ?_
        refine at_iald sd_24 (hin) dX1_findWrongs_29 ?_
        rw [hcl, hj'.2.2 (j + 1) (by omega)]
        refine at_aload_n dX1_findWrongs_30 rfl ?_
        refine at_getr (24) flX1_29 rfl sd_18 (rs_18_6 hR) dX1_findWrongs_31 ?_
        refine at_iload_n dX1_findWrongs_34 rfl ?_
        refine at_iconst dX1_findWrongs_35 pc_i1 ?_
        refine at_isub dX1_findWrongs_36 ?_
        rw [hpm]
        refine at_iald sd_24 (vp_in_nI (by omega) (by decide)) dX1_findWrongs_37 ?_
        rw [hjc, hj'.2.2 j (by omega)]
        refine at_icmpne (tgt := 47) dX1_findWrongs_38 (by decide) (fun c38 => ?_) (fun c38 => ?_)
        · -- taken 38
          rw [if_neg c38] at hns
          refine at_iconst dX1_findWrongs_47 pc_i0 ?_
          refine at_istore_n dX1_findWrongs_48 rfl (Nat.le_of_ble_eq_true rfl) ?_
          refine body _ ?_
          first | (rw [hns]; rfl) | (rw [hns, rNum, if_neg (by omega), Nat.add_sub_cancel, nI_1])
        · -- not taken 38
          rw [if_pos c38] at hns
          refine at_iload_n dX1_findWrongs_41 rfl ?_
          refine at_iconst dX1_findWrongs_42 pc_i1 ?_
          refine at_iadd dX1_findWrongs_43 ?_
          refine at_goto (tgt := 48) dX1_findWrongs_44 (by decide) ?_
          refine at_istore_n dX1_findWrongs_48 rfl (Nat.le_of_ble_eq_true rfl) ?_
          refine body _ ?_
          first | (rw [hns]; rfl) | (rw [hns, rNum, if_neg (by omega), Nat.add_sub_cancel, nI_1])
theorem ev_X1_findWrongs (hR : RS R) (hc : PB c) (hr : Row r nv ns nl e) (hp : PetRel I L c r nv ns nl e) (hj : JV I r nv nl) : pd_Ev G mi_X1_findWrongs 5 0 0 [.ref (pd_z G + 18), .ref (pd_z G + c)] (SD, false, I, L, R) (pd_re R fun I2 L2 => L2 = L ∧ WInv I I2 r nv e nl) := by
  refine pd_ev 2 (lo := [some (.ref (pd_z G + 18)), some (.ref (pd_z G + c)), none, none]) (by decide +kernel) (Nat.le_of_ble_eq_true rfl) rfl ?_
  refine at_aload_n dX1_findWrongs_0 rfl ?_
  refine at_getr (21) flX1_18 rfl sd_18 (rs_18_2 hR) dX1_findWrongs_1 ?_
  refine at_iconst dX1_findWrongs_4 pc_i0 ?_
  refine at_cs2 csX1_73 (ev_J7_fill sd_21 (by decide) 0) (by decide) ⟨Nat.le_refl _, Nat.le_refl _⟩ (Nat.le_of_ble_eq_true rfl) dX1_findWrongs_5 (pd_k0 ?_)
  refine at_iconst dX1_findWrongs_8 pc_i0 ?_
  refine at_istore_n dX1_findWrongs_9 rfl (Nat.le_of_ble_eq_true rfl) ?_
  refine at_iconst dX1_findWrongs_10 pc_i0 ?_
  refine at_istore_n dX1_findWrongs_11 rfl (Nat.le_of_ble_eq_true rfl) ?_
  refine lp_X1_findWrongs hR hc hr hp hj nl 0 _ (by omega) ⟨fun a _ h2 _ j => ?_, fun l hl => absurd hl (Nat.not_lt_zero _), fun v hv => ?_⟩
  · simp [pd_fl, h2]
  · simp [pd_fl, hv, fb_ct, nI]
end JUD2
