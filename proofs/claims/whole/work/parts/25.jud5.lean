/-! ===== Judgement: samples ===== -/
section JUD5
variable {G : pd_G} {I : Nat → Nat → Int32} {L : Nat → Nat → Int64} {R : Nat → Nat → Option Nat} {c nv ns nl : Nat} {e : List rl_S} {r : Nat → Int32}
theorem rH_is (r : Nat → Int32) (nv : Nat) (e : List rl_S) (l : Nat) : rH r nv e l = 0 ∨ rH r nv e l = 1 ∨ rH r nv e l = 2 ∨ rH r nv e l = 3 := by
  unfold rH; split
  · simp
  · split
    · simp
    · split <;> simp
theorem rJ_good (r : Nat → Int32) (nv nl : Nat) (e : List rl_S) (b l : Nat) : (decide (rJ r nv nl e b l = 0) || decide (rJ r nv nl e b l = 5)) = rOk r nv nl e b l := by
  unfold rJ rOk
  by_cases h : rH r nv e l = 0
  · rw [if_neg (fun q => q h)]
    by_cases hk : rK r nv nl e b (rSh r l).toNatClampNeg = true
    · rw [if_pos hk]; simp [h, hk]
    · rw [if_neg hk]
      have hk' : rK r nv nl e b (rSh r l).toNatClampNeg = false := by simpa using hk
      split <;> simp [h, hk']
  · rw [if_pos h]
    rcases rH_is r nv e l with q | q | q | q
    · exact absurd q h
    all_goals rw [q]; simp
theorem rOk_w {b l : Nat} (h : rOk r nv nl e b l = true) : ¬ rW r nv l = -1 := fun hw => by
  have : rH r nv e l = 1 := by rw [rH, if_pos hw]
  simp [rOk, this] at h
theorem ev_X1_isGood (hR : RS R) (h40 : nl ≤ 40) (hj : JO I r nv ns nl e) {i : Nat} (hi : i < nl) : pd_Ev G mi_X1_isGood 1 0 0 [.ref (pd_z G + 18), .int (nI i)] (SD, false, I, L, R) (pd_rt (.int (i_of (rOk r nv nl e 0 i))) (SD, false, I, L, R)) := by
  have hin : vp_in (nI i) 40 := vp_in_nI (by omega) (by decide)
  have hcl : (nI i).toNatClampNeg = i := nI_clamp (by omega)
  rw [← rJ_good]
  refine pd_ev 0 (lo := [some (.ref (pd_z G + 18)), some (.int (nI i))]) (by decide +kernel) (Nat.le_of_ble_eq_true rfl) rfl ?_
  refine at_aload_n dX1_isGood_0 rfl ?_
  refine at_getr (20) flX1_15 rfl sd_18 (rs_18_1 hR) dX1_isGood_1 ?_
  refine at_iload_n dX1_isGood_4 rfl ?_
  refine at_iald sd_20 (hin) dX1_isGood_5 ?_
  rw [hcl, hj.2.1 i hi]
  refine at_ifeq (tgt := 19) dX1_isGood_6 (by decide) (fun c6 => ?_) (fun c6 => ?_)
  · -- taken 6
    refine at_iconst dX1_isGood_19 pc_i1 ?_
    refine at_goto (tgt := 24) dX1_isGood_20 (by decide) ?_
    refine at_zret rfl dX1_isGood_24 (by first | exact Or.inl rfl | exact Or.inr rfl | assumption) ?_
    first | (refine ⟨?_, rfl⟩; simp [c6, i_of]; done) | (refine ⟨?_, rfl⟩; simp [c6, c16, i_of]; done)
  · -- not taken 6
    refine at_aload_n dX1_isGood_9 rfl ?_
    refine at_getr (20) flX1_15 rfl sd_18 (rs_18_1 hR) dX1_isGood_10 ?_
    refine at_iload_n dX1_isGood_13 rfl ?_
    refine at_iald sd_20 (hin) dX1_isGood_14 ?_
    rw [hcl, hj.2.1 i hi]
    refine at_iconst dX1_isGood_15 pc_i5 ?_
    refine at_icmpne (tgt := 23) dX1_isGood_16 (by decide) (fun c16 => ?_) (fun c16 => ?_)
    · -- taken 16
      refine at_iconst dX1_isGood_23 pc_i0 ?_
      refine at_zret rfl dX1_isGood_24 (by first | exact Or.inl rfl | exact Or.inr rfl | assumption) ?_
      first | (refine ⟨?_, rfl⟩; simp [c6, i_of]; done) | (refine ⟨?_, rfl⟩; simp [c6, c16, i_of]; done)
    · -- not taken 16
      refine at_iconst dX1_isGood_19 pc_i1 ?_
      refine at_goto (tgt := 24) dX1_isGood_20 (by decide) ?_
      refine at_zret rfl dX1_isGood_24 (by first | exact Or.inl rfl | exact Or.inr rfl | assumption) ?_
      first | (refine ⟨?_, rfl⟩; simp [c6, i_of]; done) | (refine ⟨?_, rfl⟩; simp [c6, c16, i_of]; done)
theorem ev_X1_isGoodIn (hR : RS R) (h40 : nl ≤ 40) (hv16 : nv ≤ 16) (hj : JO I r nv ns nl e) {set : Int64} {p : Nat → Bool} {i : Nat} (hi : i < nl) (hb : set >>> ((nI i).toInt64 &&& 63) &&& 1 = 1 ↔ p i = true) : pd_Ev G mi_X1_isGoodIn 2 0 0 [.ref (pd_z G + 18), .long set, .int (nI i)] (SD, false, I, L, R) (pd_rt (.int (i_of (p i && rOk r nv nl e 0 i))) (SD, false, I, L, R)) := by
  refine pd_ev 0 (lo := [some (.ref (pd_z G + 18)), some (.long set), none, some (.int (nI i))]) (by decide +kernel) (Nat.le_of_ble_eq_true rfl) rfl ?_
  refine at_lload_n dX1_isGoodIn_0 rfl ?_
  refine at_iload_n dX1_isGoodIn_1 rfl ?_
  refine at_lshr dX1_isGoodIn_2 ?_
  refine at_lconst dX1_isGoodIn_3 pc_l1 ?_
  refine at_land dX1_isGoodIn_4 ?_
  refine at_lconst dX1_isGoodIn_5 pc_l1 ?_
  refine at_lcmp dX1_isGoodIn_6 ?_
  refine at_ifne (tgt := 30) dX1_isGoodIn_7 (by decide) (fun c7 => ?_) (fun c7 => ?_)
  · -- taken 7
    rw [lg_cmp_eq, hb] at c7
    refine at_iconst dX1_isGoodIn_30 pc_i0 ?_
    refine at_zret rfl dX1_isGoodIn_31 (by first | exact Or.inl rfl | exact Or.inr rfl | assumption) ?_
    first | (refine ⟨?_, rfl⟩; simp [c7, i_of]; done) | (refine ⟨?_, rfl⟩; simp [hok, i_of]; done) | (refine ⟨?_, rfl⟩; simp [c7, hok, i_of]; done)
  · -- not taken 7
    rw [lg_cmp_eq, hb] at c7
    refine at_aload_n dX1_isGoodIn_10 rfl ?_
    refine at_iload_n dX1_isGoodIn_11 rfl ?_
    refine at_cv1 cvX1_119 sd_18 (ev_X1_isGood hR h40 hj hi) (by decide) ⟨Nat.le_refl _, Nat.le_refl _⟩ (Nat.le_of_ble_eq_true rfl) dX1_isGoodIn_12 (pd_k1 ?_)
    refine at_ifeq (tgt := 30) dX1_isGoodIn_15 (by decide) (fun c15 => ?_) (fun c15 => ?_)
    · -- taken 15
      have hok : rOk r nv nl e 0 i = false := by simpa [i_of] using c15
      refine at_iconst dX1_isGoodIn_30 pc_i0 ?_
      refine at_zret rfl dX1_isGoodIn_31 (by first | exact Or.inl rfl | exact Or.inr rfl | assumption) ?_
      first | (refine ⟨?_, rfl⟩; simp [c7, i_of]; done) | (refine ⟨?_, rfl⟩; simp [hok, i_of]; done) | (refine ⟨?_, rfl⟩; simp [c7, hok, i_of]; done)
    · -- not taken 15
      have hok : rOk r nv nl e 0 i = true := by simpa [i_of] using c15
      refine at_aload_n dX1_isGoodIn_18 rfl ?_
      refine at_iload_n dX1_isGoodIn_19 rfl ?_
      refine at_cv1 cvX1_83 sd_18 (ev_X1_hasVoter hR h40 hv16 hj.1 hi) (by decide) ⟨Nat.le_refl _, Nat.le_refl _⟩ (Nat.le_of_ble_eq_true rfl) dX1_isGoodIn_20 (pd_k1 ?_)
      refine at_ifeq (tgt := 30) dX1_isGoodIn_23 (by decide) (fun c23 => ?_) (fun c23 => ?_)
      · -- taken 23
        rw [if_neg (rOk_w hok)] at c23; exact absurd c23 (by decide)
      · -- not taken 23
        refine at_iconst dX1_isGoodIn_26 pc_i1 ?_
        refine at_goto (tgt := 31) dX1_isGoodIn_27 (by decide) ?_
        refine at_zret rfl dX1_isGoodIn_31 (by first | exact Or.inl rfl | exact Or.inr rfl | assumption) ?_
        first | (refine ⟨?_, rfl⟩; simp [c7, i_of]; done) | (refine ⟨?_, rfl⟩; simp [hok, i_of]; done) | (refine ⟨?_, rfl⟩; simp [c7, hok, i_of]; done)
theorem lp_X1_goodIn (hR : RS R) (h40 : nl ≤ 40) (hv16 : nv ≤ 16) (hj : JO I r nv ns nl e) {set : Int64} {p : Nat → Bool} (hb : ∀ i, i < nl → (set >>> ((nI i).toInt64 &&& 63) &&& 1 = 1 ↔ p i = true)) : ∀ (k i : Nat), i + k = nl → pd_At G mi_X1_goodIn 3 0 0 0 0 5 [some (.ref (pd_z G + 18)), some (.long set), none, some (.int (nI (fb_ct (fun l => p l && rOk r nv nl e 0 l) i))), some (.int (nI i))] [] (SD, false, I, L, R) (pd_rt (.int (nI (fb_ct (fun l => p l && rOk r nv nl e 0 l) nl))) (SD, false, I, L, R)) := by
  intro k
  induction k with
  | zero =>
    intro i hi
    have e0 : i = nl := by omega
    subst e0
    refine at_iload dX1_goodIn_5 rfl ?_
    refine at_aload_n dX1_goodIn_7 rfl ?_
    refine at_geti flX1_47 rfl sd_18 dX1_goodIn_8 ?_
    rw [hj.1.1]
    refine at_icmpge (tgt := 38) dX1_goodIn_11 (by decide) (fun c11 => ?_) (fun c11 => ?_)
    · -- taken 11
      refine at_iload_n dX1_goodIn_38 rfl ?_
      refine at_iret rfl dX1_goodIn_39 ?_
      exact ⟨rfl, rfl⟩
    · -- not taken 11
      exact absurd (nI_le (by omega) (by omega)) c11
  | succ k ih =>
    intro i hi
    have h := ih (i + 1) (by omega)
    have e1 := fun (b : Bool) (hb : (p i && rOk r nv nl e 0 i) = b) => fb_ct_one (p := fun l => p l && rOk r nv nl e 0 l) (i := i) hb
    refine at_iload dX1_goodIn_5 rfl ?_
    refine at_aload_n dX1_goodIn_7 rfl ?_
    refine at_geti flX1_47 rfl sd_18 dX1_goodIn_8 ?_
    rw [hj.1.1]
    refine at_icmpge (tgt := 38) dX1_goodIn_11 (by decide) (fun c11 => ?_) (fun c11 => ?_)
    · -- taken 11
      exact absurd c11 (nI_ge (by omega) (by omega))
    · -- not taken 11
      refine at_iload_n dX1_goodIn_14 rfl ?_
      refine at_aload_n dX1_goodIn_15 rfl ?_
      refine at_lload_n dX1_goodIn_16 rfl ?_
      refine at_iload dX1_goodIn_17 rfl ?_
      refine at_cv2 cvX1_122 sd_18 (ev_X1_isGoodIn hR h40 hv16 hj (by omega) (hb i (by omega))) (by decide) ⟨Nat.le_refl _, Nat.le_refl _⟩ (Nat.le_of_ble_eq_true rfl) dX1_goodIn_19 (pd_k1 ?_)
      refine at_ifeq (tgt := 29) dX1_goodIn_22 (by decide) (fun c22 => ?_) (fun c22 => ?_)
      · -- taken 22
        have hp : (p i && rOk r nv nl e 0 i) = false := by simpa [i_of] using c22
        refine at_iconst dX1_goodIn_29 pc_i0 ?_
        refine at_iadd dX1_goodIn_30 ?_
        refine at_istore_n dX1_goodIn_31 rfl (Nat.le_of_ble_eq_true rfl) ?_
        refine at_inc dX1_goodIn_32 rfl pc_i1 rfl (Nat.le_of_ble_eq_true rfl) ?_
        refine at_goto (tgt := 5) dX1_goodIn_35 (by decide) ?_
        simp only [nI_1, Int32.add_zero]
        rw [e1 _ hp] at h
        exact h
      · -- not taken 22
        have hp : (p i && rOk r nv nl e 0 i) = true := by simpa [i_of] using c22
        refine at_iconst dX1_goodIn_25 pc_i1 ?_
        refine at_goto (tgt := 30) dX1_goodIn_26 (by decide) ?_
        refine at_iadd dX1_goodIn_30 ?_
        refine at_istore_n dX1_goodIn_31 rfl (Nat.le_of_ble_eq_true rfl) ?_
        refine at_inc dX1_goodIn_32 rfl pc_i1 rfl (Nat.le_of_ble_eq_true rfl) ?_
        refine at_goto (tgt := 5) dX1_goodIn_35 (by decide) ?_
        simp only [nI_1, Int32.add_zero]
        rw [e1 _ hp] at h
        exact h
theorem ev_X1_goodIn (hR : RS R) (h40 : nl ≤ 40) (hv16 : nv ≤ 16) (hj : JO I r nv ns nl e) {set : Int64} {p : Nat → Bool} (hb : ∀ i, i < nl → (set >>> ((nI i).toInt64 &&& 63) &&& 1 = 1 ↔ p i = true)) : pd_Ev G mi_X1_goodIn 3 0 0 [.ref (pd_z G + 18), .long set] (SD, false, I, L, R) (pd_rt (.int (nI (fb_ct (fun l => p l && rOk r nv nl e 0 l) nl))) (SD, false, I, L, R)) := by
  refine pd_ev 2 (lo := [some (.ref (pd_z G + 18)), some (.long set), none, none, none]) (by decide +kernel) (Nat.le_of_ble_eq_true rfl) rfl ?_
  refine at_iconst dX1_goodIn_0 pc_i0 ?_
  refine at_istore_n dX1_goodIn_1 rfl (Nat.le_of_ble_eq_true rfl) ?_
  refine at_iconst dX1_goodIn_2 pc_i0 ?_
  refine at_istore dX1_goodIn_3 rfl (Nat.le_of_ble_eq_true rfl) ?_
  exact lp_X1_goodIn (G := G) (L := L) hR h40 hv16 hj hb nl 0 (by omega)
/-- tallied so far -/
def TInv (I I' : Nat → Nat → Int32) (q : Nat → Bool) (w : Nat → Int32) (i : Nat) : Prop := (∀ a, a ≠ 21 → ∀ j, I' a j = I a j) ∧ ∀ v, v < 16 → I' 21 v = nI (fb_ct (fun k => q k && decide (w k = nI v)) i)
theorem JO.fr {I I' : Nat → Nat → Int32} (h : JO I r nv ns nl e) (hI : ∀ a, a ≠ 21 → ∀ j, I' a j = I a j) : JO I' r nv ns nl e := ⟨h.1.fr (hI 18 (by decide)) (hI 19 (by decide)) (hI 24 (by decide)), fun l hl => by rw [hI 20 (by decide)]; exact h.2.1 l hl, by rw [hI 18 (by decide)]; exact h.2.2.1, fun s hs => by rw [hI 22 (by decide)]; exact h.2.2.2 s hs⟩
theorem lp_X1_tally (hR : RS R) (h40 : nl ≤ 40) (hv16 : nv ≤ 16) (hj : JO I r nv ns nl e) {set : Int64} {p : Nat → Bool} (hb : ∀ i, i < nl → (set >>> ((nI i).toInt64 &&& 63) &&& 1 = 1 ↔ p i = true)) : ∀ (k i : Nat) (I' : Nat → Nat → Int32), i + k = nl → TInv I I' (fun l => p l && rOk r nv nl e 0 l) (rW r nv) i → pd_At G mi_X1_tallyGood 3 0 0 0 0 10 [some (.ref (pd_z G + 18)), some (.long set), none, some (.int (nI i))] [] (SD, false, I', L, R) (pd_re R fun I2 L2 => L2 = L ∧ TInv I I2 (fun l => p l && rOk r nv nl e 0 l) (rW r nv) nl) := by
  intro k
  induction k with
  | zero =>
    intro i I' hi hI
    have e0 : i = nl := by omega
    subst e0
    refine at_iload_n dX1_tallyGood_10 rfl ?_
    refine at_aload_n dX1_tallyGood_11 rfl ?_
    refine at_geti flX1_47 rfl sd_18 dX1_tallyGood_12 ?_
    rw [hI.1 18 (by decide), hj.1.1]
    refine at_icmpge (tgt := 48) dX1_tallyGood_15 (by decide) (fun c15 => ?_) (fun c15 => ?_)
    · -- taken 15
      refine at_vret rfl dX1_tallyGood_48 ?_
      exact ⟨rfl, _, _, rfl, rfl, hI⟩
    · -- not taken 15
      exact absurd (nI_le (by omega) (by omega)) c15
  | succ k ih =>
    intro i I' hi hI
    have hin : vp_in (nI i) 40 := vp_in_nI (by omega) (by decide)
    have hcl : (nI i).toNatClampNeg = i := nI_clamp (by omega)
    have hj' : JO I' r nv ns nl e := hj.fr hI.1
    have ct := fun v => fb_ct_succ (fun k => (p k && rOk r nv nl e 0 k) && decide (rW r nv k = nI v)) i
    refine at_iload_n dX1_tallyGood_10 rfl ?_
    refine at_aload_n dX1_tallyGood_11 rfl ?_
    refine at_geti flX1_47 rfl sd_18 dX1_tallyGood_12 ?_
    rw [hI.1 18 (by decide), hj.1.1]
    refine at_icmpge (tgt := 48) dX1_tallyGood_15 (by decide) (fun c15 => ?_) (fun c15 => ?_)
    · -- taken 15
      exact absurd c15 (nI_ge (by omega) (by omega))
    · -- not taken 15
      refine at_aload_n dX1_tallyGood_18 rfl ?_
      refine at_lload_n dX1_tallyGood_19 rfl ?_
      refine at_iload_n dX1_tallyGood_20 rfl ?_
      refine at_cv2 cvX1_122 sd_18 (ev_X1_isGoodIn hR h40 hv16 hj' (by omega) (hb i (by omega))) (by decide) ⟨Nat.le_refl _, Nat.le_refl _⟩ (Nat.le_of_ble_eq_true rfl) dX1_tallyGood_21 (pd_k1 ?_)
      refine at_ifeq (tgt := 42) dX1_tallyGood_24 (by decide) (fun c24 => ?_) (fun c24 => ?_)
      · -- taken 24
        have hp : (p i && rOk r nv nl e 0 i) = false := by simpa [i_of] using c24
        refine at_inc dX1_tallyGood_42 rfl pc_i1 rfl (Nat.le_of_ble_eq_true rfl) ?_
        refine at_goto (tgt := 10) dX1_tallyGood_45 (by decide) ?_
        rw [nI_1]; try rw [hvc]
        refine ih (i + 1) _ (by omega) ?_
        first | exact ⟨hI.1, fun v hv => by rw [hI.2 v hv, ct]; simp [hp]⟩ | (refine ⟨fun a ha j => by rw [pd_up_nb ha]; exact hI.1 a ha j, fun u hu => ?_⟩; rw [ct, hw]; by_cases h : u = v; (subst h; rw [pd_up_at]; simp [hp]); (have hne : ¬ nI v = nI u := fun q => h ((nI_eq (by omega) (by omega)).mp q.symm); rw [pd_up_nj h, hI.2 u hu]; simp [hne]))
      · -- not taken 24
        have hp : (p i && rOk r nv nl e 0 i) = true := by simpa [i_of] using c24
        have hok : rOk r nv nl e 0 i = true := by simp at hp; exact hp.2
        obtain ⟨v, hv, hw⟩ := (rW_is r nv i).resolve_left (rOk_w hok)
        have hvc : (nI v).toNatClampNeg = v := nI_clamp (by omega)
        have hvin : vp_in (nI v) 16 := vp_in_nI (by omega) (by decide)
        refine at_aload_n dX1_tallyGood_27 rfl ?_
        refine at_getr (21) flX1_18 rfl sd_18 (rs_18_2 hR) dX1_tallyGood_28 ?_
        refine at_aload_n dX1_tallyGood_31 rfl ?_
        refine at_getr (19) flX1_9 rfl sd_18 (rs_18_0 hR) dX1_tallyGood_32 ?_
        refine at_iload_n dX1_tallyGood_35 rfl ?_
        refine at_iald sd_19 (hin) dX1_tallyGood_36 ?_
        rw [hcl, hj'.1.2.1 i (by omega), hw]
        refine at_dup2 dX1_tallyGood_37 rfl rfl ?_
        refine at_iald sd_21 (hvin) dX1_tallyGood_38 ?_
        rw [hvc, hI.2 v (by omega)]
        refine at_iconst dX1_tallyGood_39 pc_i1 ?_
        refine at_iadd dX1_tallyGood_40 ?_
        rw [nI_1]
        refine at_iast sd_21 (hvin) dX1_tallyGood_41 ?_
        refine at_inc dX1_tallyGood_42 rfl pc_i1 rfl (Nat.le_of_ble_eq_true rfl) ?_
        refine at_goto (tgt := 10) dX1_tallyGood_45 (by decide) ?_
        rw [nI_1]; try rw [hvc]
        refine ih (i + 1) _ (by omega) ?_
        first | exact ⟨hI.1, fun v hv => by rw [hI.2 v hv, ct]; simp [hp]⟩ | (refine ⟨fun a ha j => by rw [pd_up_nb ha]; exact hI.1 a ha j, fun u hu => ?_⟩; rw [ct, hw]; by_cases h : u = v; (subst h; rw [pd_up_at]; simp [hp]); (have hne : ¬ nI v = nI u := fun q => h ((nI_eq (by omega) (by omega)).mp q.symm); rw [pd_up_nj h, hI.2 u hu]; simp [hne]))
theorem ev_X1_tallyGood (hR : RS R) (h40 : nl ≤ 40) (hv16 : nv ≤ 16) (hj : JO I r nv ns nl e) {set : Int64} {p : Nat → Bool} (hb : ∀ i, i < nl → (set >>> ((nI i).toInt64 &&& 63) &&& 1 = 1 ↔ p i = true)) : pd_Ev G mi_X1_tallyGood 3 0 0 [.ref (pd_z G + 18), .long set] (SD, false, I, L, R) (pd_re R fun I2 L2 => L2 = L ∧ TInv I I2 (fun l => p l && rOk r nv nl e 0 l) (rW r nv) nl) := by
  refine pd_ev 1 (lo := [some (.ref (pd_z G + 18)), some (.long set), none, none]) (by decide +kernel) (Nat.le_of_ble_eq_true rfl) rfl ?_
  refine at_aload_n dX1_tallyGood_0 rfl ?_
  refine at_getr (21) flX1_18 rfl sd_18 (rs_18_2 hR) dX1_tallyGood_1 ?_
  refine at_iconst dX1_tallyGood_4 pc_i0 ?_
  refine at_cs2 csX1_73 (ev_J7_fill sd_21 (by decide) 0) (by decide) ⟨Nat.le_refl _, Nat.le_refl _⟩ (Nat.le_of_ble_eq_true rfl) dX1_tallyGood_5 (pd_k0 ?_)
  refine at_iconst dX1_tallyGood_8 pc_i0 ?_
  refine at_istore_n dX1_tallyGood_9 rfl (Nat.le_of_ble_eq_true rfl) ?_
  refine lp_X1_tally hR h40 hv16 hj hb nl 0 _ (by omega) ⟨fun a ha j => ?_, fun v hv => ?_⟩
  · simp [pd_fl, ha]
  · simp [pd_fl, hv, fb_ct, nI]
/-- couples of a number of things -/
def pr2 (t : Nat) : Nat := t * (t - 1) / 2
theorem pr2_i {t : Nat} (h : t ≤ 40) : nI t * (nI t - 1) / 2 = nI (pr2 t) := by
  rcases Nat.eq_zero_or_pos t with h0 | h0
  · subst h0; decide
  · obtain ⟨u, rfl⟩ : ∃ u, t = u + 1 := ⟨t - 1, by omega⟩
    have h1 : (u + 1) * u ≤ 40 * 39 := Nat.mul_le_mul h (by omega)
    rw [nI_pred, pk_mul, show (2 : Int32) = nI 2 from rfl, pk_div (by omega) (by decide) (by decide)]
    rfl
theorem lp_X1_pairs (hR : RS R) {I0 : Nat → Nat → Int32} {f : Nat → Nat} (hf : ∀ v, v < 16 → I 21 v = nI (f v) ∧ f v ≤ 40) (set : Int64) : ∀ (k i : Nat), i + k = 16 → pd_At G mi_X1_pairsIn 4 0 0 0 0 10 [some (.ref (pd_z G + 18)), some (.long set), none, some (.int (nI (fb_sm (fun v => pr2 (f v)) i))), some (.int (nI i))] [] (SD, false, I, L, R) (pd_rt (.int (nI (fb_sm (fun v => pr2 (f v)) 16))) (SD, false, I, L, R)) := by
  intro k
  induction k with
  | zero =>
    intro i hi
    have e0 : i = 16 := by omega
    subst e0
    refine at_iload dX1_pairsIn_10 rfl ?_
    refine at_bipush dX1_pairsIn_12 pc_b16 ?_
    refine at_icmpge (tgt := 45) dX1_pairsIn_14 (by decide) (fun c14 => ?_) (fun c14 => ?_)
    · -- taken 14
      refine at_iload_n dX1_pairsIn_45 rfl ?_
      refine at_iret rfl dX1_pairsIn_46 ?_
      exact ⟨rfl, rfl⟩
    · -- not taken 14
      exact absurd (by decide) c14
  | succ k ih =>
    intro i hi
    have hin : vp_in (nI i) 16 := vp_in_nI (by omega) (by decide)
    have hcl : (nI i).toNatClampNeg = i := nI_clamp (by omega)
    have h := ih (i + 1) (by omega)
    rw [fb_sm_succ] at h
    refine at_iload dX1_pairsIn_10 rfl ?_
    refine at_bipush dX1_pairsIn_12 pc_b16 ?_
    refine at_icmpge (tgt := 45) dX1_pairsIn_14 (by decide) (fun c14 => ?_) (fun c14 => ?_)
    · -- taken 14
      exact absurd c14 (nI_ge (b := 16) (by omega) (by decide))
    · -- not taken 14
      refine at_iload_n dX1_pairsIn_17 rfl ?_
      refine at_aload_n dX1_pairsIn_18 rfl ?_
      refine at_getr (21) flX1_18 rfl sd_18 (rs_18_2 hR) dX1_pairsIn_19 ?_
      refine at_iload dX1_pairsIn_22 rfl ?_
      refine at_iald sd_21 (hin) dX1_pairsIn_24 ?_
      rw [hcl, (hf i (by omega)).1]
      refine at_aload_n dX1_pairsIn_25 rfl ?_
      refine at_getr (21) flX1_18 rfl sd_18 (rs_18_2 hR) dX1_pairsIn_26 ?_
      refine at_iload dX1_pairsIn_29 rfl ?_
      refine at_iald sd_21 (hin) dX1_pairsIn_31 ?_
      rw [hcl, (hf i (by omega)).1]
      refine at_iconst dX1_pairsIn_32 pc_i1 ?_
      refine at_isub dX1_pairsIn_33 ?_
      refine at_imul dX1_pairsIn_34 ?_
      refine at_iconst dX1_pairsIn_35 pc_i2 ?_
      refine at_idiv dX1_pairsIn_36 (by decide) ?_
      rw [pr2_i (hf i (by omega)).2]
      refine at_iadd dX1_pairsIn_37 ?_
      rw [nI_add]
      refine at_istore_n dX1_pairsIn_38 rfl (Nat.le_of_ble_eq_true rfl) ?_
      refine at_inc dX1_pairsIn_39 rfl pc_i1 rfl (Nat.le_of_ble_eq_true rfl) ?_
      refine at_goto (tgt := 10) dX1_pairsIn_42 (by decide) ?_
      rw [nI_1]; exact h
theorem ev_X1_pairsIn (hR : RS R) (h40 : nl ≤ 40) (hv16 : nv ≤ 16) (hj : JO I r nv ns nl e) {set : Int64} {p : Nat → Bool} (hb : ∀ i, i < nl → (set >>> ((nI i).toInt64 &&& 63) &&& 1 = 1 ↔ p i = true)) : pd_Ev G mi_X1_pairsIn 4 0 0 [.ref (pd_z G + 18), .long set] (SD, false, I, L, R) (pd_ri R fun x I2 L2 => x = nI (fb_sm (fun v => pr2 (fb_ct (fun l => (p l && rOk r nv nl e 0 l) && decide (rW r nv l = nI v)) nl)) 16) ∧ L2 = L ∧ ∀ a, a ≠ 21 → ∀ j, I2 a j = I a j) := by
  refine pd_ev 2 (lo := [some (.ref (pd_z G + 18)), some (.long set), none, none, none]) (by decide +kernel) (Nat.le_of_ble_eq_true rfl) rfl ?_
  refine at_aload_n dX1_pairsIn_0 rfl ?_
  refine at_lload_n dX1_pairsIn_1 rfl ?_
  refine at_cv1 cvX1_126 sd_18 (ev_X1_tallyGood hR h40 hv16 hj hb) (by decide) ⟨Nat.le_refl _, Nat.le_refl _⟩ (Nat.le_of_ble_eq_true rfl) dX1_pairsIn_2 (pd_ke fun I2 L2 h2 => ?_)
  obtain ⟨rfl, h2⟩ := h2
  refine at_iconst dX1_pairsIn_5 pc_i0 ?_
  refine at_istore_n dX1_pairsIn_6 rfl (Nat.le_of_ble_eq_true rfl) ?_
  refine at_iconst dX1_pairsIn_7 pc_i0 ?_
  refine at_istore dX1_pairsIn_8 rfl (Nat.le_of_ble_eq_true rfl) ?_
  have h := lp_X1_pairs (G := G) (L := L2) (I0 := I) hR (fun v hv => ⟨h2.2 v hv, Nat.le_trans (fb_ct_le _ _) h40⟩) set 16 0 (by omega)
  exact pd_At_mono h (fun o M' hq => ⟨_, _, _, hq.1, hq.2, rfl, rfl, h2.1⟩)
end JUD5
