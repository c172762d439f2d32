/-! ===== Judgement: voters of a sample, what is left without sheets; Chances: ways without a pair ===== -/
def pd_rj (R : Nat → Nat → Option Nat) (P : Int64 → (Nat → Nat → Int32) → (Nat → Nat → Int64) → Prop) : pd_O → pd_M → Prop := fun o M' => ∃ r I' L', o = .inl (some (.long r)) ∧ M' = (SD, false, I', L', R) ∧ P r I' L'
theorem pd_kj {G : pd_G} {mi : pd_MI} {h mc ms cs ss pc : Nat} {lo : List (Option Value)} {st : List Value} {Q : pd_O → pd_M → Prop} {R P} (K : ∀ r I' L', P r I' L' → pd_At G mi h mc ms cs ss (pc + 3) lo (.long r :: st) (SD, false, I', L', R) Q) : ∀ o M', pd_rj R P o M' → pd_Kc G mi h mc ms cs ss pc lo st Q o M' := fun o M' hq => by
  obtain ⟨r, I', L', rfl, rfl, hp⟩ := hq; exact K r I' L' hp
/-- the voters of the lines that q takes, as bits -/
def bS (q : Nat → Bool) (w : Nat → Int32) (i : Nat) : Nat := bsum (fun v => decide (0 < fb_ct (fun k => q k && decide (w k = nI v)) i)) 16
theorem bS_no {q : Nat → Bool} {w : Nat → Int32} {i : Nat} (h : q i = false) : bS q w (i + 1) = bS q w i := by
  unfold bS
  refine bsum_cong (fun v _ => ?_)
  rw [fb_ct_succ]; simp [h]
theorem bS_yes {q : Nat → Bool} {w : Nat → Int32} {i u : Nat} (h : q i = true) (hw : w i = nI u) (hu : u < 16) : bS q w (i + 1) = bS q w i ||| 2 ^ u := by
  unfold bS
  rw [bsum_set hu]
  refine bsum_cong (fun v hv => ?_)
  rw [fb_ct_succ]
  by_cases h2 : v = u
  · subst h2; simp [h, hw]
  · have : ¬ nI u = nI v := fun e1 => h2 ((nI_eq (by omega) (by omega)).mp e1.symm)
    simp [h, hw, this, h2]
theorem bS_lt (q : Nat → Bool) (w : Nat → Int32) (i : Nat) : bS q w i < 2 ^ 16 := bsum_lt _ _
theorem nI_or0 (a : Nat) : nI a ||| 0 = nI a := by rw [show (0 : Int32) = nI 0 from rfl, fa_or, Nat.or_zero]
section JUD6
variable {G : pd_G} {I : Nat → Nat → Int32} {L : Nat → Nat → Int64} {R : Nat → Nat → Option Nat} {c nv ns nl : Nat} {e : List rl_S} {r : Nat → Int32}
theorem lp_X1_votersIn (hR : RS R) (h40 : nl ≤ 40) (hv16 : nv ≤ 16) (hj : JO I r nv ns nl e) {set : Int64} {p : Nat → Bool} (hb : ∀ i, i < nl → (set >>> ((nI i).toInt64 &&& 63) &&& 1 = 1 ↔ p i = true)) : ∀ (k i : Nat), i + k = nl → pd_At G mi_X1_votersIn 3 0 0 0 0 5 [some (.ref (pd_z G + 18)), some (.long set), none, some (.int (nI (bS (fun l => p l && rOk r nv nl e 0 l) (rW r nv) i))), some (.int (nI i))] [] (SD, false, I, L, R) (pd_rt (.int (nI (bS (fun l => p l && rOk r nv nl e 0 l) (rW r nv) nl))) (SD, false, I, L, R)) := by
  intro k
  induction k with
  | zero =>
    intro i hi
    have e0 : i = nl := by omega
    subst e0
    refine at_iload dX1_votersIn_5 rfl ?_
    refine at_aload_n dX1_votersIn_7 rfl ?_
    refine at_geti flX1_47 rfl sd_18 dX1_votersIn_8 ?_
    rw [hj.1.1]
    refine at_icmpge (tgt := 46) dX1_votersIn_11 (by decide) (fun c11 => ?_) (fun c11 => ?_)
    · -- taken 11
      refine at_iload_n dX1_votersIn_46 rfl ?_
      refine at_iret rfl dX1_votersIn_47 ?_
      exact ⟨rfl, rfl⟩
    · -- not taken 11
      exact absurd (nI_le (by omega) (by omega)) c11
  | succ k ih =>
    intro i hi
    have hin : vp_in (nI i) 40 := vp_in_nI (by omega) (by decide)
    have hcl : (nI i).toNatClampNeg = i := nI_clamp (by omega)
    have h := ih (i + 1) (by omega)
    refine at_iload dX1_votersIn_5 rfl ?_
    refine at_aload_n dX1_votersIn_7 rfl ?_
    refine at_geti flX1_47 rfl sd_18 dX1_votersIn_8 ?_
    rw [hj.1.1]
    refine at_icmpge (tgt := 46) dX1_votersIn_11 (by decide) (fun c11 => ?_) (fun c11 => ?_)
    · -- taken 11
      exact absurd c11 (nI_ge (by omega) (by omega))
    · -- not taken 11
      refine at_iload_n dX1_votersIn_14 rfl ?_
      refine at_aload_n dX1_votersIn_15 rfl ?_
      refine at_lload_n dX1_votersIn_16 rfl ?_
      refine at_iload dX1_votersIn_17 rfl ?_
      refine at_cv2 cvX1_122 sd_18 (ev_X1_isGoodIn hR h40 hv16 hj (by omega) (hb i (by omega))) (by decide) ⟨Nat.le_refl _, Nat.le_refl _⟩ (Nat.le_of_ble_eq_true rfl) dX1_votersIn_19 (pd_k1 ?_)
      refine at_ifeq (tgt := 37) dX1_votersIn_22 (by decide) (fun c22 => ?_) (fun c22 => ?_)
      · -- taken 22
        have hp : (p i && rOk r nv nl e 0 i) = false := by simpa [i_of] using c22
        have hs := bS_no (q := fun l => p l && rOk r nv nl e 0 l) (w := rW r nv) hp
        refine at_iconst dX1_votersIn_37 pc_i0 ?_
        refine at_ior dX1_votersIn_38 ?_
        refine at_istore_n dX1_votersIn_39 rfl (Nat.le_of_ble_eq_true rfl) ?_
        refine at_inc dX1_votersIn_40 rfl pc_i1 rfl (Nat.le_of_ble_eq_true rfl) ?_
        refine at_goto (tgt := 5) dX1_votersIn_43 (by decide) ?_
        simp only [nI_1, nI_or0, fa_or]
        rw [hs] at h
        exact h
      · -- not taken 22
        have hp : (p i && rOk r nv nl e 0 i) = true := by simpa [i_of] using c22
        have hok : rOk r nv nl e 0 i = true := by simp at hp; exact hp.2
        obtain ⟨v, hv, hw⟩ := (rW_is r nv i).resolve_left (rOk_w hok)
        have hs := bS_yes (q := fun l => p l && rOk r nv nl e 0 l) (w := rW r nv) hp hw (by omega)
        refine at_iconst dX1_votersIn_25 pc_i1 ?_
        refine at_aload_n dX1_votersIn_26 rfl ?_
        refine at_getr (19) flX1_9 rfl sd_18 (rs_18_0 hR) dX1_votersIn_27 ?_
        refine at_iload dX1_votersIn_30 rfl ?_
        refine at_iald sd_19 (hin) dX1_votersIn_32 ?_
        rw [hcl, hj.1.2.1 i (by omega), hw]
        refine at_ishl dX1_votersIn_33 ?_
        rw [i_sh1 v (by omega)]
        refine at_goto (tgt := 38) dX1_votersIn_34 (by decide) ?_
        refine at_ior dX1_votersIn_38 ?_
        refine at_istore_n dX1_votersIn_39 rfl (Nat.le_of_ble_eq_true rfl) ?_
        refine at_inc dX1_votersIn_40 rfl pc_i1 rfl (Nat.le_of_ble_eq_true rfl) ?_
        refine at_goto (tgt := 5) dX1_votersIn_43 (by decide) ?_
        simp only [nI_1, nI_or0, fa_or]
        rw [hs] at h
        exact h
theorem ev_X1_votersIn (hR : RS R) (h40 : nl ≤ 40) (hv16 : nv ≤ 16) (hj : JO I r nv ns nl e) {set : Int64} {p : Nat → Bool} (hb : ∀ i, i < nl → (set >>> ((nI i).toInt64 &&& 63) &&& 1 = 1 ↔ p i = true)) : pd_Ev G mi_X1_votersIn 3 0 0 [.ref (pd_z G + 18), .long set] (SD, false, I, L, R) (pd_rt (.int (nI (bS (fun l => p l && rOk r nv nl e 0 l) (rW r nv) nl))) (SD, false, I, L, R)) := by
  refine pd_ev 2 (lo := [some (.ref (pd_z G + 18)), some (.long set), none, none, none]) (by decide +kernel) (Nat.le_of_ble_eq_true rfl) rfl ?_
  refine at_iconst dX1_votersIn_0 pc_i0 ?_
  refine at_istore_n dX1_votersIn_1 rfl (Nat.le_of_ble_eq_true rfl) ?_
  refine at_iconst dX1_votersIn_2 pc_i0 ?_
  refine at_istore dX1_votersIn_3 rfl (Nat.le_of_ble_eq_true rfl) ?_
  exact lp_X1_votersIn (G := G) (L := L) hR h40 hv16 hj hb nl 0 (by omega)
/-- the union of f s over the sheets that m doesn't hold -/
def uS (f : Nat → Nat) (m i : Nat) : Nat := bsum (fun v => decide (0 < fb_ct (fun s => !m.testBit s && (f s).testBit v) i)) 16
theorem uS_no {f : Nat → Nat} {m i : Nat} (h : m.testBit i = true) : uS f m (i + 1) = uS f m i := by
  unfold uS
  refine bsum_cong (fun v _ => ?_)
  rw [fb_ct_succ]; simp [h]
theorem uS_yes {f : Nat → Nat} {m i : Nat} (h : m.testBit i = false) (hf : f i < 2 ^ 16) : uS f m (i + 1) = uS f m i ||| f i := by
  unfold uS
  apply Nat.eq_of_testBit_eq
  intro v
  rw [Nat.testBit_or, bsum_bit, bsum_bit, fb_ct_succ]
  by_cases hv : v < 16
  · cases hb : (f i).testBit v <;> simp [h, hb, hv]
  · have : (f i).testBit v = false := Nat.testBit_lt_two_pow (Nat.lt_of_lt_of_le hf (Nat.pow_le_pow_right (by decide) (by omega)))
    simp [hv, this]
theorem lp_X1_trueWithout (hR : RS R) {f : Nat → Nat} (hf : ∀ s, s < 8 → I 22 s = nI (f s) ∧ f s < 2 ^ 16) {m : Nat} (hm : m < 256) : ∀ (k i : Nat), i + k = 8 → pd_At G mi_X1_trueWithout 2 0 0 0 0 4 [some (.ref (pd_z G + 18)), some (.int (nI m)), some (.int (nI (uS f m i))), some (.int (nI i))] [] (SD, false, I, L, R) (pd_rt (.int (nI (fb_ct (fun v => (uS f m 8).testBit v) 32 % 64))) (SD, false, I, L, R)) := by
  intro k
  induction k with
  | zero =>
    intro i hi
    have e0 : i = 8 := by omega
    subst e0
    refine at_iload_n dX1_trueWithout_4 rfl ?_
    refine at_bipush dX1_trueWithout_5 pc_b8 ?_
    refine at_icmpge (tgt := 37) dX1_trueWithout_7 (by decide) (fun c7 => ?_) (fun c7 => ?_)
    · -- taken 7
      refine at_iload_n dX1_trueWithout_37 rfl ?_
      refine at_cs1 csX1_130 (ev_J6_bitCount (Nat.lt_of_lt_of_le (bsum_lt _ _) (by decide))) (by decide) ⟨Nat.le_refl _, Nat.le_refl _⟩ (Nat.le_of_ble_eq_true rfl) dX1_trueWithout_38 (pd_k1 ?_)
      refine at_iret rfl dX1_trueWithout_41 ?_
      exact ⟨rfl, rfl⟩
    · -- not taken 7
      exact absurd (by decide) c7
  | succ k ih =>
    intro i hi
    have hin : vp_in (nI i) 8 := vp_in_nI (by omega) (by decide)
    have hcl : (nI i).toNatClampNeg = i := nI_clamp (by omega)
    have h := ih (i + 1) (by omega)
    refine at_iload_n dX1_trueWithout_4 rfl ?_
    refine at_bipush dX1_trueWithout_5 pc_b8 ?_
    refine at_icmpge (tgt := 37) dX1_trueWithout_7 (by decide) (fun c7 => ?_) (fun c7 => ?_)
    · -- taken 7
      exact absurd c7 (nI_ge (b := 8) (by omega) (by decide))
    · -- not taken 7
      refine at_iload_n dX1_trueWithout_10 rfl ?_
      refine at_iload_n dX1_trueWithout_11 rfl ?_
      refine at_iload_n dX1_trueWithout_12 rfl ?_
      refine at_ishr dX1_trueWithout_13 ?_
      refine at_iconst dX1_trueWithout_14 pc_i1 ?_
      refine at_iand dX1_trueWithout_15 ?_
      rw [i_tb (by omega) (by omega)]
      refine at_ifne (tgt := 28) dX1_trueWithout_16 (by decide) (fun c16 => ?_) (fun c16 => ?_)
      · -- taken 16
        have hb : m.testBit i = true := by simpa [i_of] using c16
        have hs := uS_no (f := f) hb
        refine at_iconst dX1_trueWithout_28 pc_i0 ?_
        refine at_ior dX1_trueWithout_29 ?_
        refine at_istore_n dX1_trueWithout_30 rfl (Nat.le_of_ble_eq_true rfl) ?_
        refine at_inc dX1_trueWithout_31 rfl pc_i1 rfl (Nat.le_of_ble_eq_true rfl) ?_
        refine at_goto (tgt := 4) dX1_trueWithout_34 (by decide) ?_
        simp only [nI_1, nI_or0, fa_or]
        rw [hs] at h
        exact h
      · -- not taken 16
        have hb : m.testBit i = false := by simpa [i_of] using c16
        have hs := uS_yes hb (hf i (by omega)).2
        refine at_aload_n dX1_trueWithout_19 rfl ?_
        refine at_getr (22) flX1_21 rfl sd_18 (rs_18_4 hR) dX1_trueWithout_20 ?_
        refine at_iload_n dX1_trueWithout_23 rfl ?_
        refine at_iald sd_22 (hin) dX1_trueWithout_24 ?_
        rw [hcl, (hf i (by omega)).1]
        refine at_goto (tgt := 29) dX1_trueWithout_25 (by decide) ?_
        refine at_ior dX1_trueWithout_29 ?_
        refine at_istore_n dX1_trueWithout_30 rfl (Nat.le_of_ble_eq_true rfl) ?_
        refine at_inc dX1_trueWithout_31 rfl pc_i1 rfl (Nat.le_of_ble_eq_true rfl) ?_
        refine at_goto (tgt := 4) dX1_trueWithout_34 (by decide) ?_
        simp only [nI_1, nI_or0, fa_or]
        rw [hs] at h
        exact h
theorem uS_ct (f : Nat → Nat) (m : Nat) : fb_ct (fun v => (uS f m 8).testBit v) 32 % 64 = fb_ct (fun v => decide (0 < fb_ct (fun s => !m.testBit s && (f s).testBit v) 8)) 16 := by
  have e1 : fb_ct (fun v => (uS f m 8).testBit v) 32 = fb_ct (fun v => decide (0 < fb_ct (fun s => !m.testBit s && (f s).testBit v) 8)) 16 := by
    rw [show 32 = 16 + 16 from rfl, fb_ct_split]
    have z : fb_ct (fun k => (uS f m 8).testBit (16 + k)) 16 = 0 := fb_ct_zero.mpr (fun k hk => by rw [uS, bsum_bit, decide_eq_false (by omega), Bool.false_and])
    rw [z, Nat.add_zero]
    refine fb_ct_cong (fun k hk => ?_)
    rw [uS, bsum_bit]; simp [hk]
  have h := fb_ct_le (fun v => decide (0 < fb_ct (fun s => !m.testBit s && (f s).testBit v) 8)) 16
  rw [e1]; omega
theorem ev_X1_trueWithout (hR : RS R) {f : Nat → Nat} (hf : ∀ s, s < 8 → I 22 s = nI (f s) ∧ f s < 2 ^ 16) {m : Nat} (hm : m < 256) : pd_Ev G mi_X1_trueWithout 2 0 0 [.ref (pd_z G + 18), .int (nI m)] (SD, false, I, L, R) (pd_rt (.int (nI (fb_ct (fun v => decide (0 < fb_ct (fun s => !m.testBit s && (f s).testBit v) 8)) 16))) (SD, false, I, L, R)) := by
  rw [← uS_ct]
  refine pd_ev 2 (lo := [some (.ref (pd_z G + 18)), some (.int (nI m)), none, none]) (by decide +kernel) (Nat.le_of_ble_eq_true rfl) rfl ?_
  refine at_iconst dX1_trueWithout_0 pc_i0 ?_
  refine at_istore_n dX1_trueWithout_1 rfl (Nat.le_of_ble_eq_true rfl) ?_
  refine at_iconst dX1_trueWithout_2 pc_i0 ?_
  refine at_istore_n dX1_trueWithout_3 rfl (Nat.le_of_ble_eq_true rfl) ?_
  exact lp_X1_trueWithout (G := G) (L := L) hR hf hm 8 0 (by omega)
/-- coefficients: times (1 + t x) for each of the first i -/
def wp (f t : Nat → Nat) : Nat → Nat → Nat
  | 0, k => f k
  | i + 1, 0 => wp f t i 0
  | i + 1, k + 1 => wp f t i (k + 1) + t i * wp f t i k
/-- the longs of the row at 27 are g's, all else is as it was -/
def W27 (L L' : Nat → Nat → Int64) (g : Nat → Nat) : Prop := (∀ a, a ≠ 27 → ∀ j, L' a j = L a j) ∧ ∀ j, j ≤ 40 → L' 27 j = lN (g j)
theorem lp_X0_w1 (hR : RS R) {t : Nat → Nat} (ht : ∀ v, v < 16 → I 21 v = nI (t v) ∧ t v ≤ 40) (a b : Int32) {all : Nat} : ∀ (k i o : Nat), i + k = 16 → o = all - fb_sm t i → fb_sm t 16 ≤ all → ∀ {Q : pd_O → pd_M → Prop}, pd_At G mi_X0_waysWithoutPair 2 0 0 0 0 40 [some (.ref (pd_z G + 25)), some (.ref (pd_z G + 21)), some (.int a), some (.int b), some (.int (nI (all - fb_sm t 16))), some (.int (nI 16)), none] [] (SD, false, I, L, R) Q →
    pd_At G mi_X0_waysWithoutPair 2 0 0 0 0 18 [some (.ref (pd_z G + 25)), some (.ref (pd_z G + 21)), some (.int a), some (.int b), some (.int (nI o)), some (.int (nI i)), none] [] (SD, false, I, L, R) Q := by
  intro k
  induction k with
  | zero =>
    intro i o hi ho hs Q K
    have e0 : i = 16 := by omega
    subst e0
    subst ho
    refine at_iload dX0_waysWithoutPair_18 rfl ?_
    refine at_aload_n dX0_waysWithoutPair_20 rfl ?_
    refine at_alen sd_21 ⟨by decide, by decide⟩ rfl dX0_waysWithoutPair_21 ?_
    refine at_icmpge (tgt := 40) dX0_waysWithoutPair_22 (by decide) (fun c22 => ?_) (fun c22 => ?_)
    · -- taken 22
      exact K
    · -- not taken 22
      exact absurd (by decide) c22
  | succ k ih =>
    intro i o hi ho hs Q K
    have hin : vp_in (nI i) 16 := vp_in_nI (by omega) (by decide)
    have hcl : (nI i).toNatClampNeg = i := nI_clamp (by omega)
    have hpart := fb_sm_part t (i := i) (n := 16) (by omega)
    have hm := fb_sm_succ t i
    refine at_iload dX0_waysWithoutPair_18 rfl ?_
    refine at_aload_n dX0_waysWithoutPair_20 rfl ?_
    refine at_alen sd_21 ⟨by decide, by decide⟩ rfl dX0_waysWithoutPair_21 ?_
    refine at_icmpge (tgt := 40) dX0_waysWithoutPair_22 (by decide) (fun c22 => ?_) (fun c22 => ?_)
    · -- taken 22
      exact absurd c22 (nI_ge (b := 16) (by omega) (by decide))
    · -- not taken 22
      refine at_iload dX0_waysWithoutPair_25 rfl ?_
      refine at_aload_n dX0_waysWithoutPair_27 rfl ?_
      refine at_iload dX0_waysWithoutPair_28 rfl ?_
      refine at_iald sd_21 (hin) dX0_waysWithoutPair_30 ?_
      rw [hcl, (ht i (by omega)).1]
      refine at_isub dX0_waysWithoutPair_31 ?_
      rw [pk_sub (by omega)]
      refine at_istore dX0_waysWithoutPair_32 rfl (Nat.le_of_ble_eq_true rfl) ?_
      refine at_inc dX0_waysWithoutPair_34 rfl pc_i1 rfl (Nat.le_of_ble_eq_true rfl) ?_
      refine at_goto (tgt := 18) dX0_waysWithoutPair_37 (by decide) ?_
      rw [nI_1]; exact ih (i + 1) _ (by omega) (by rw [hm]; omega) hs K
theorem lp_X0_w2 (hR : RS R) (a b : Int32) {o : Nat} (ho : o ≤ 40) : ∀ (k i : Nat) (L' : Nat → Nat → Int64), i + k = 41 → Tri L → (∀ a, a ≠ 27 → ∀ j, L' a j = L a j) → (∀ j, j < i → L' 27 j = lN (ch o j)) → ∀ {Q : pd_O → pd_M → Prop}, (∀ L2, W27 L L2 (ch o) → pd_At G mi_X0_waysWithoutPair 2 0 0 0 0 71 [some (.ref (pd_z G + 25)), some (.ref (pd_z G + 21)), some (.int a), some (.int b), some (.int (nI o)), some (.int (nI 41)), none] [] (SD, false, I, L2, R) Q) →
    pd_At G mi_X0_waysWithoutPair 2 0 0 0 0 43 [some (.ref (pd_z G + 25)), some (.ref (pd_z G + 21)), some (.int a), some (.int b), some (.int (nI o)), some (.int (nI i)), none] [] (SD, false, I, L', R) Q := by
  intro k
  induction k with
  | zero =>
    intro i L' hi hT hfr hw Q K
    have e0 : i = 41 := by omega
    subst e0
    refine at_iload dX0_waysWithoutPair_43 rfl ?_
    refine at_bipush dX0_waysWithoutPair_45 pc_b41 ?_
    refine at_icmpge (tgt := 71) dX0_waysWithoutPair_47 (by decide) (fun c47 => ?_) (fun c47 => ?_)
    · -- taken 47
      exact K L' ⟨hfr, fun j hj => hw j (by omega)⟩
    · -- not taken 47
      exact absurd (by decide) c47
  | succ k ih =>
    intro i L' hi hT hfr hw Q K
    have hin : vp_in (nI i) 41 := vp_in_nI (by omega) (by decide)
    have hcl : (nI i).toNatClampNeg = i := nI_clamp (by omega)
    have hT' : Tri L' := fun n k h1 h2 => by rw [hfr 26 (by decide)]; exact hT n k h1 h2
    refine at_iload dX0_waysWithoutPair_43 rfl ?_
    refine at_bipush dX0_waysWithoutPair_45 pc_b41 ?_
    refine at_icmpge (tgt := 71) dX0_waysWithoutPair_47 (by decide) (fun c47 => ?_) (fun c47 => ?_)
    · -- taken 47
      exact absurd c47 (nI_ge (b := 41) (by omega) (by decide))
    · -- not taken 47
      refine at_aload_n dX0_waysWithoutPair_50 rfl ?_
      refine at_getr (27) flX0_15 rfl sd_25 (rs_25_1 hR) dX0_waysWithoutPair_51 ?_
      refine at_iload dX0_waysWithoutPair_54 rfl ?_
      refine at_aload_n dX0_waysWithoutPair_56 rfl ?_
      refine at_iload dX0_waysWithoutPair_57 rfl ?_
      refine at_iload dX0_waysWithoutPair_59 rfl ?_
      refine at_cv2 cvX0_18 sd_25 (ev_X0_choose hR hT' ho (by omega)) (by decide) ⟨Nat.le_refl _, Nat.le_refl _⟩ (Nat.le_of_ble_eq_true rfl) dX0_waysWithoutPair_61 (pd_k1 ?_)
      refine at_last sd_27 (hin) dX0_waysWithoutPair_64 ?_
      refine at_inc dX0_waysWithoutPair_65 rfl pc_i1 rfl (Nat.le_of_ble_eq_true rfl) ?_
      refine at_goto (tgt := 43) dX0_waysWithoutPair_68 (by decide) ?_
      rw [nI_1, hcl]
      refine ih (i + 1) _ (by omega) hT (fun a ha j => by rw [pd_up_nb ha]; exact hfr a ha j) (fun j hj => ?_) K
      by_cases h : j = i
      · subst h; rw [pd_up_at]
      · rw [pd_up_nj h]; exact hw j (by omega)
theorem lp_X0_w3 (hR : RS R) {t : Nat → Nat} {f : Nat → Nat} (a b o : Int32) {i : Nat} (hi : i < 16) (ht : I 21 i = nI (t i) ∧ t i ≤ 40) : ∀ (k : Nat) (L' : Nat → Nat → Int64), k ≤ 40 → (∀ a, a ≠ 27 → ∀ j, L' a j = L a j) → (∀ j, j ≤ 40 → L' 27 j = lN (if k < j then wp f t (i + 1) j else wp f t i j)) → ∀ {Q : pd_O → pd_M → Prop}, (∀ L2, W27 L L2 (wp f t (i + 1)) → pd_At G mi_X0_waysWithoutPair 2 0 0 0 0 121 [some (.ref (pd_z G + 25)), some (.ref (pd_z G + 21)), some (.int a), some (.int b), some (.int o), some (.int (nI i)), some (.int (nI 0))] [] (SD, false, I, L2, R) Q) →
    pd_At G mi_X0_waysWithoutPair 2 0 0 0 0 85 [some (.ref (pd_z G + 25)), some (.ref (pd_z G + 21)), some (.int a), some (.int b), some (.int o), some (.int (nI i)), some (.int (nI k))] [] (SD, false, I, L', R) Q := by
  have hiin : vp_in (nI i) 16 := vp_in_nI (by omega) (by decide)
  have hicl : (nI i).toNatClampNeg = i := nI_clamp (by omega)
  intro k
  induction k with
  | zero =>
    intro L' hk hfr hw Q K
    refine at_iload dX0_waysWithoutPair_85 rfl ?_
    refine at_ifle (tgt := 121) dX0_waysWithoutPair_87 (by decide) (fun c87 => ?_) (fun c87 => ?_)
    · -- taken 87
      refine K L' ⟨hfr, fun j hj => ?_⟩
      rw [hw j hj]
      cases j with
      | zero => rfl
      | succ j => rw [if_pos (by omega)]
    · -- not taken 87
      exact absurd (by decide) c87
  | succ k ih =>
    intro L' hk hfr hw Q K
    have hin : vp_in (nI (k + 1)) 41 := vp_in_nI (by omega) (by decide)
    have hcl : (nI (k + 1)).toNatClampNeg = k + 1 := nI_clamp (by omega)
    have hcl0 : (nI k).toNatClampNeg = k := nI_clamp (by omega)
    refine at_iload dX0_waysWithoutPair_85 rfl ?_
    refine at_ifle (tgt := 121) dX0_waysWithoutPair_87 (by decide) (fun c87 => ?_) (fun c87 => ?_)
    · -- taken 87
      exact absurd c87 (nI_nle (by omega) (by omega))
    · -- not taken 87
      refine at_aload_n dX0_waysWithoutPair_90 rfl ?_
      refine at_getr (27) flX0_15 rfl sd_25 (rs_25_1 hR) dX0_waysWithoutPair_91 ?_
      refine at_iload dX0_waysWithoutPair_94 rfl ?_
      refine at_dup2 dX0_waysWithoutPair_96 rfl rfl ?_
      refine at_lald sd_27 (hin) dX0_waysWithoutPair_97 ?_
      rw [hcl, hw (k + 1) hk, if_neg (by omega)]
      refine at_aload_n dX0_waysWithoutPair_98 rfl ?_
      refine at_iload dX0_waysWithoutPair_99 rfl ?_
      refine at_iald sd_21 (hiin) dX0_waysWithoutPair_101 ?_
      rw [hicl, ht.1]
      refine at_i2l dX0_waysWithoutPair_102 ?_
      rw [nI_l (by omega)]
      refine at_aload_n dX0_waysWithoutPair_103 rfl ?_
      refine at_getr (27) flX0_15 rfl sd_25 (rs_25_1 hR) dX0_waysWithoutPair_104 ?_
      refine at_iload dX0_waysWithoutPair_107 rfl ?_
      refine at_iconst dX0_waysWithoutPair_109 pc_i1 ?_
      refine at_isub dX0_waysWithoutPair_110 ?_
      rw [nI_pred]
      refine at_lald sd_27 (vp_in_nI (by omega) (by decide)) dX0_waysWithoutPair_111 ?_
      rw [hcl0, hw k (by omega), if_neg (by omega)]
      refine at_lmul dX0_waysWithoutPair_112 ?_
      refine at_ladd dX0_waysWithoutPair_113 ?_
      rw [lN_mul, lN_add]
      refine at_last sd_27 (hin) dX0_waysWithoutPair_114 ?_
      refine at_inc dX0_waysWithoutPair_115 rfl pc_im1 rfl (Nat.le_of_ble_eq_true rfl) ?_
      refine at_goto (tgt := 85) dX0_waysWithoutPair_118 (by decide) ?_
      rw [hcl, pk_m1]
      refine ih _ (by omega) (fun a ha j => by rw [pd_up_nb ha]; exact hfr a ha j) (fun j hj => ?_) K
      by_cases h : j = k + 1
      · subst h; rw [pd_up_at, if_pos (by omega)]; rfl
      · rw [pd_up_nj h, hw j hj]
        by_cases h2 : k + 1 < j
        · rw [if_pos h2, if_pos (by omega)]
        · rw [if_neg h2, if_neg (by omega)]
theorem lp_X0_w4 (hR : RS R) {t : Nat → Nat} {f : Nat → Nat} (ht : ∀ v, v < 16 → I 21 v = nI (t v) ∧ t v ≤ 40) (a o : Int32) {n : Nat} (hn : n ≤ 40) : ∀ (k i : Nat) (L' : Nat → Nat → Int64), i + k = 16 → W27 L L' (wp f t i) → pd_At G mi_X0_waysWithoutPair 2 0 0 0 0 74 [some (.ref (pd_z G + 25)), some (.ref (pd_z G + 21)), some (.int a), some (.int (nI n)), some (.int o), some (.int (nI i)), none] [] (SD, false, I, L', R) (pd_rj R fun x I2 L2 => x = lN (wp f t 16 n) ∧ I2 = I ∧ ∀ a, a ≠ 27 → ∀ j, L2 a j = L a j) := by
  intro k
  induction k with
  | zero =>
    intro i L' hi hw
    have e0 : i = 16 := by omega
    subst e0
    refine at_iload dX0_waysWithoutPair_74 rfl ?_
    refine at_aload_n dX0_waysWithoutPair_76 rfl ?_
    refine at_alen sd_21 ⟨by decide, by decide⟩ rfl dX0_waysWithoutPair_77 ?_
    refine at_icmpge (tgt := 127) dX0_waysWithoutPair_78 (by decide) (fun c78 => ?_) (fun c78 => ?_)
    · -- taken 78
      refine at_aload_n dX0_waysWithoutPair_127 rfl ?_
      refine at_getr (27) flX0_15 rfl sd_25 (rs_25_1 hR) dX0_waysWithoutPair_128 ?_
      refine at_iload_n dX0_waysWithoutPair_131 rfl ?_
      refine at_lald sd_27 (vp_in_nI (by omega) (by decide)) dX0_waysWithoutPair_132 ?_
      rw [nI_clamp (by omega), hw.2 n hn]
      refine at_lret rfl dX0_waysWithoutPair_133 ?_
      exact ⟨_, _, _, rfl, rfl, rfl, rfl, hw.1⟩
    · -- not taken 78
      exact absurd (by decide) c78
  | succ k ih =>
    intro i L' hi hw
    have step : ∀ L2, W27 L L2 (wp f t (i + 1)) → pd_At G mi_X0_waysWithoutPair 2 0 0 0 0 121 [some (.ref (pd_z G + 25)), some (.ref (pd_z G + 21)), some (.int a), some (.int (nI n)), some (.int o), some (.int (nI i)), some (.int (nI 0))] [] (SD, false, I, L2, R) (pd_rj R fun x I2 L2 => x = lN (wp f t 16 n) ∧ I2 = I ∧ ∀ a, a ≠ 27 → ∀ j, L2 a j = L a j) := by
      intro L2 h2
      refine at_inc dX0_waysWithoutPair_121 rfl pc_i1 rfl (Nat.le_of_ble_eq_true rfl) ?_
      refine at_goto (tgt := 74) dX0_waysWithoutPair_124 (by decide) ?_
      refine at_drop 6 ?_
      rw [nI_1]
      exact ih (i + 1) L2 (by omega) h2
    refine at_iload dX0_waysWithoutPair_74 rfl ?_
    refine at_aload_n dX0_waysWithoutPair_76 rfl ?_
    refine at_alen sd_21 ⟨by decide, by decide⟩ rfl dX0_waysWithoutPair_77 ?_
    refine at_icmpge (tgt := 127) dX0_waysWithoutPair_78 (by decide) (fun c78 => ?_) (fun c78 => ?_)
    · -- taken 78
      exact absurd c78 (nI_ge (b := 16) (by omega) (by decide))
    · -- not taken 78
      refine at_bipush dX0_waysWithoutPair_81 pc_b40 ?_
      refine at_istore dX0_waysWithoutPair_83 rfl (Nat.le_of_ble_eq_true rfl) ?_
      exact lp_X0_w3 hR a (nI n) o (by omega) (ht i (by omega)) 40 L' (Nat.le_refl _) hw.1 (fun j hj => by rw [hw.2 j hj, if_neg (by omega)]) step
theorem ev_X0_waysWithoutPair (hR : RS R) (hT : Tri L) {t : Nat → Nat} (ht : ∀ v, v < 16 → I 21 v = nI (t v) ∧ t v ≤ 40) {all n : Nat} (ha : all ≤ 40) (hs : fb_sm t 16 ≤ all) (hn : n ≤ 40) : pd_Ev G mi_X0_waysWithoutPair 2 0 0 [.ref (pd_z G + 25), .ref (pd_z G + 21), .int (nI all), .int (nI n)] (SD, false, I, L, R) (pd_rj R fun x I2 L2 => x = lN (wp (ch (all - fb_sm t 16)) t 16 n) ∧ I2 = I ∧ ∀ a, a ≠ 27 → ∀ j, L2 a j = L a j) := by
  refine pd_ev 3 (lo := [some (.ref (pd_z G + 25)), some (.ref (pd_z G + 21)), some (.int (nI all)), some (.int (nI n)), none, none, none]) (by decide +kernel) (Nat.le_of_ble_eq_true rfl) rfl ?_
  have h71 : ∀ L2, W27 L L2 (ch (all - fb_sm t 16)) → pd_At G mi_X0_waysWithoutPair 2 0 0 0 0 71 [some (.ref (pd_z G + 25)), some (.ref (pd_z G + 21)), some (.int (nI all)), some (.int (nI n)), some (.int (nI (all - fb_sm t 16))), some (.int (nI 41)), none] [] (SD, false, I, L2, R) (pd_rj R fun x I2 L2 => x = lN (wp (ch (all - fb_sm t 16)) t 16 n) ∧ I2 = I ∧ ∀ a, a ≠ 27 → ∀ j, L2 a j = L a j) := by
    intro L2 h2
    refine at_iconst dX0_waysWithoutPair_71 pc_i0 ?_
    refine at_istore dX0_waysWithoutPair_72 rfl (Nat.le_of_ble_eq_true rfl) ?_
    exact lp_X0_w4 hR ht _ _ hn 16 0 L2 (by omega) ⟨h2.1, fun j hj => h2.2 j hj⟩
  have h40 : pd_At G mi_X0_waysWithoutPair 2 0 0 0 0 40 [some (.ref (pd_z G + 25)), some (.ref (pd_z G + 21)), some (.int (nI all)), some (.int (nI n)), some (.int (nI (all - fb_sm t 16))), some (.int (nI 16)), none] [] (SD, false, I, L, R) (pd_rj R fun x I2 L2 => x = lN (wp (ch (all - fb_sm t 16)) t 16 n) ∧ I2 = I ∧ ∀ a, a ≠ 27 → ∀ j, L2 a j = L a j) := by
    refine at_iconst dX0_waysWithoutPair_40 pc_i0 ?_
    refine at_istore dX0_waysWithoutPair_41 rfl (Nat.le_of_ble_eq_true rfl) ?_
    exact lp_X0_w2 hR _ _ (by omega) 41 0 L (by omega) hT (fun _ _ _ => rfl) (fun j hj => absurd hj (Nat.not_lt_zero _)) h71
  refine at_iload_n dX0_waysWithoutPair_0 rfl ?_
  refine at_iflt (tgt := 10) dX0_waysWithoutPair_1 (by decide) (fun c1 => ?_) (fun c1 => ?_)
  · -- taken 1
    exact absurd c1 (nI_pos (by omega))
  · -- not taken 1
    refine at_iload_n dX0_waysWithoutPair_4 rfl ?_
    refine at_bipush dX0_waysWithoutPair_5 pc_b40 ?_
    refine at_icmple (tgt := 12) dX0_waysWithoutPair_7 (by decide) (fun c7 => ?_) (fun c7 => ?_)
    · -- taken 7
      refine at_iload_n dX0_waysWithoutPair_12 rfl ?_
      refine at_istore dX0_waysWithoutPair_13 rfl (Nat.le_of_ble_eq_true rfl) ?_
      refine at_iconst dX0_waysWithoutPair_15 pc_i0 ?_
      refine at_istore dX0_waysWithoutPair_16 rfl (Nat.le_of_ble_eq_true rfl) ?_
      exact lp_X0_w1 hR ht _ _ 16 0 all (by omega) (by simp [fb_sm]) hs h40
    · -- not taken 7
      exact absurd (nI_le (b := 40) hn (by decide)) c7
end JUD6
