/-! ===== the reference: ways counted, bounds, pairs, terms ===== -/
theorem ch_abs : ∀ n k : Nat, (k + 1) * ch (n + 1) (k + 1) = (n + 1) * ch n k
  | 0, 0 => rfl
  | 0, k + 1 => by simp [ch]
  | n + 1, 0 => by
    have h := ch_abs n 0
    rw [show ch (n + 1 + 1) (0 + 1) = ch (n + 1) 0 + ch (n + 1) (0 + 1) from rfl, ch_0 (n + 1)]
    rw [ch_0 n] at h
    omega
  | n + 1, k + 1 => by
    have h1 := ch_abs n k
    have h2 := ch_abs n (k + 1)
    have h3 : ch (n + 1) (k + 1) = ch n k + ch n (k + 1) := rfl
    have h4 : ch (n + 1 + 1) (k + 1 + 1) = ch (n + 1) (k + 1) + ch (n + 1) (k + 1 + 1) := rfl
    have e1 : (k + 1 + 1) * ch (n + 1) (k + 1) = (k + 1) * ch (n + 1) (k + 1) + ch (n + 1) (k + 1) := by rw [Nat.succ_mul]
    have e2 : (n + 1 + 1) * ch (n + 1) (k + 1) = (n + 1) * ch (n + 1) (k + 1) + ch (n + 1) (k + 1) := by rw [Nat.succ_mul]
    have e3 : (n + 1) * ch (n + 1) (k + 1) = (n + 1) * ch n k + (n + 1) * ch n (k + 1) := by rw [h3, Nat.mul_add]
    rw [h4, Nat.mul_add, e1, h1, h2, e2, e3]
    omega
theorem ch_div (n k : Nat) : ch n k * (n + 1) / (k + 1) = ch (n + 1) (k + 1) := by
  rw [Nat.mul_comm, ← ch_abs n k, Nat.mul_comm]
  exact Nat.mul_div_cancel _ (Nat.succ_pos k)
theorem wsm_top {all n g : Nat} (hg : g ≤ n) : ch all n ≤ wsm all n all g (n + 1 - g) := by
  have e1 : n + 1 - g = (n - g) + 1 := by omega
  unfold wsm
  rw [e1, fb_sm_succ, show g + (n - g) = n by omega, Nat.sub_self, Nat.sub_self]
  show _ ≤ _ + ch all n * 1
  omega
theorem wsm_bot {all n g : Nat} : ch all n ≤ wsm all n 0 0 (g + 1) := by
  have h := fb_sm_part (fun i => ch 0 (0 + i) * ch (all - 0) (n - (0 + i))) (show 0 < g + 1 by omega)
  simp only [Nat.add_zero, Nat.sub_zero, ch_0, Nat.one_mul] at h
  unfold wsm
  simp only [Nat.sub_zero]
  omega
theorem much_of {all n alpha w : Nat} (hn : n ≤ all) (hal : alpha ≤ 499) (hw : ch all n ≤ w) : much all n alpha w = true := by
  have h0 := ch_pos all n hn
  have h1 : alpha * ch all n ≤ 499 * ch all n := Nat.mul_le_mul_right _ hal
  simp only [much, decide_eq_true_eq]
  omega
theorem pr2_s (c : Nat) : pr2 (c + 1) = pr2 c + c := by
  unfold pr2
  rw [Nat.add_sub_cancel]
  cases c with
  | zero => rfl
  | succ d =>
    rw [Nat.add_sub_cancel, show (d + 1 + 1) * (d + 1) = (d + 1) * d + (d + 1) * 2 by rw [← Nat.mul_add, Nat.mul_comm], Nat.add_mul_div_right _ _ (by decide)]
/-- pairs of like ones -/
def pB (q : Nat → Bool) (w : Nat → Int32) : Nat → Nat
  | 0 => 0
  | a + 1 => pB q w a + fb_ct (fun b => (q a && q b) && decide (w a = w b)) a
theorem pB_eq {q : Nat → Bool} {w : Nat → Int32} : ∀ n, (∀ l, l < n → q l = true → ∃ v, v < 16 ∧ w l = nI v) → pB q w n = fb_sm (fun v => pr2 (fb_ct (fun l => q l && decide (w l = nI v)) n)) 16
  | 0, _ => by
    show 0 = fb_sm (fun _ => pr2 0) 16
    rw [fb_sm_const]; rfl
  | n + 1, h => by
    rw [pB, pB_eq n (fun l hl => h l (by omega))]
    cases hq : q n with
    | false =>
      rw [fb_ct_zero.mpr (fun k _ => by simp)]
      rw [Nat.add_zero]
      exact fb_sm_cong (fun v _ => by rw [ct_n (i := n)]; simp [hq])
    | true =>
      obtain ⟨u, hu, hw⟩ := h n (by omega) hq
      have e1 : fb_ct (fun b => (true && q b) && decide (w n = w b)) n = fb_ct (fun l => q l && decide (w l = nI u)) n := fb_ct_cong (fun k _ => by
        rw [Bool.true_and, hw]; congr 1; exact decide_eq_decide.mpr ⟨fun z => z.symm, fun z => z.symm⟩)
      rw [e1]
      have e2 := fb_sm_upd (fun v => pr2 (fb_ct (fun l => q l && decide (w l = nI v)) n)) (pr2 (fb_ct (fun l => q l && decide (w l = nI u)) n + 1)) hu
      have e3 : fb_sm (fun v => pr2 (fb_ct (fun l => q l && decide (w l = nI v)) (n + 1))) 16 = fb_sm (fun k => if k = u then pr2 (fb_ct (fun l => q l && decide (w l = nI u)) n + 1) else pr2 (fb_ct (fun l => q l && decide (w l = nI k)) n)) 16 := fb_sm_cong (fun v hv => by
        by_cases hvu : v = u
        · subst hvu; rw [if_pos rfl, fb_ct_succ, if_pos (by simp [hq, hw])]
        · rw [if_neg hvu, ct_n (i := n)]
          have : ¬ nI u = nI v := fun z => hvu ((nI_eq (by omega) (by omega)).mp z).symm
          simp [hw, this])
      rw [e3]
      rw [pr2_s] at e2 ⊢
      omega
section REF7
variable {G : pd_G} {I : Nat → Nat → Int32} {L : Nat → Nat → Int64} {R : Nat → Nat → Option Nat} {nv ns nl : Nat} {e : List rl_S} {r : Nat → Int32}
theorem lp_X9_ways {M : pd_M} {n k m : Nat} (hn : n ≤ 40) (hm : n = m + k) : ∀ (d j : Nat), j + d = k → pd_At G mi_X9_ways 1 0 0 0 0 16 [some (.int (nI n)), some (.int (nI k)), some (.long (lN (ch (m + j) j))), none, some (.int (nI (j + 1)))] [] M (pd_rt (.long (lN (ch n k))) M) := by
  intro d
  induction d with
  | zero =>
    intro j hj
    have e0 : j = k := by omega
    subst e0
    refine at_iload dX9_ways_16 rfl ?_
    refine at_iload_n dX9_ways_18 rfl ?_
    refine at_icmpgt (tgt := 42) dX9_ways_19 (by decide) (fun c19 => ?_) (fun c19 => ?_)
    · -- taken 19
      refine at_lload_n dX9_ways_42 rfl ?_
      refine at_lret rfl dX9_ways_43 ?_
      exact ⟨by rw [hm], rfl⟩
    · -- not taken 19
      exact absurd (nI_lt (by omega) (by omega)) c19
  | succ d ih =>
    intro j hj
    have hc := ch_le (m + j) j
    have hp : 2 ^ (m + j) ≤ 2 ^ 40 := Nat.pow_le_pow_right (by decide) (by omega)
    have hb : ch (m + j) j * (m + j + 1) ≤ 2 ^ 40 * 41 := Nat.mul_le_mul (by omega) (by omega)
    refine at_iload dX9_ways_16 rfl ?_
    refine at_iload_n dX9_ways_18 rfl ?_
    refine at_icmpgt (tgt := 42) dX9_ways_19 (by decide) (fun c19 => ?_) (fun c19 => ?_)
    · -- taken 19
      exact absurd c19 (nI_nlt (by omega) (by omega))
    · -- not taken 19
      refine at_lload_n dX9_ways_22 rfl ?_
      refine at_iload_n dX9_ways_23 rfl ?_
      refine at_iload_n dX9_ways_24 rfl ?_
      refine at_isub dX9_ways_25 ?_
      rw [pk_sub (by omega), show n - k = m by omega]
      refine at_iload dX9_ways_26 rfl ?_
      refine at_iadd dX9_ways_28 ?_
      rw [nI_add]
      refine at_i2l dX9_ways_29 ?_
      rw [nI_l (by omega), show m + (j + 1) = m + j + 1 by omega]
      refine at_lmul dX9_ways_30 ?_
      rw [lN_mul]
      refine at_iload dX9_ways_31 rfl ?_
      refine at_i2l dX9_ways_33 ?_
      rw [nI_l (by omega)]
      refine at_ldiv dX9_ways_34 (lN_ne0 (by omega) (by omega)) ?_
      rw [pk_lDiv (by omega) (by omega) (by omega), ch_div]
      refine at_lstore_n dX9_ways_35 rfl (Nat.le_of_ble_eq_true rfl) ?_
      refine at_inc dX9_ways_36 rfl pc_i1 rfl (Nat.le_of_ble_eq_true rfl) ?_
      refine at_goto (tgt := 16) dX9_ways_39 (by decide) ?_
      rw [nI_1]
      exact ih (j + 1) (by omega)
theorem ev_X9_ways {M : pd_M} {n k : Nat} (hn : n ≤ 40) (hk : k < 1000) : pd_Ev G mi_X9_ways 1 0 0 [.int (nI n), .int (nI k)] M (pd_rt (.long (lN (ch n k))) M) := by
  refine pd_ev 3 (lo := [some (.int (nI n)), some (.int (nI k)), none, none, none]) (by decide +kernel) (Nat.le_of_ble_eq_true rfl) rfl ?_
  refine at_iload_n dX9_ways_0 rfl ?_
  refine at_iflt (tgt := 9) dX9_ways_1 (by decide) (fun c1 => ?_) (fun c1 => ?_)
  · -- taken 1
    exact absurd c1 (nI_pos (by omega))
  · -- not taken 1
    refine at_iload_n dX9_ways_4 rfl ?_
    refine at_iload_n dX9_ways_5 rfl ?_
    refine at_icmple (tgt := 11) dX9_ways_6 (by decide) (fun c6 => ?_) (fun c6 => ?_)
    · -- taken 6
      rw [nI_leI (by omega) (by omega)] at c6
      refine at_lconst dX9_ways_11 pc_l1 ?_
      refine at_lstore_n dX9_ways_12 rfl (Nat.le_of_ble_eq_true rfl) ?_
      refine at_iconst dX9_ways_13 pc_i1 ?_
      refine at_istore dX9_ways_14 rfl (Nat.le_of_ble_eq_true rfl) ?_
      have h := lp_X9_ways (G := G) (M := M) (k := k) (m := n - k) hn (by omega) k 0 (by omega)
      rw [Nat.add_zero, ch_0] at h
      exact h
    · -- not taken 6
      rw [nI_leI (by omega) (by omega)] at c6
      refine at_lconst dX9_ways_9 pc_l0 ?_
      refine at_lret rfl dX9_ways_10 ?_
      exact ⟨by rw [ch_gt n k (by omega)]; rfl, rfl⟩
theorem lp_X9_waysBy (hR : RS R) (hq : RQ I 122 r) (hr : Row r nv ns nl e) {n m lo hi : Nat} (hm : m ≤ nl) (hn : n ≤ 40) (hh : hi ≤ n) : ∀ (k i : Nat), lo + i + k = hi + 1 → pd_At G mi_X9_waysBy 2 0 0 0 0 6 [some (.ref (pd_z G + 119)), some (.int (nI n)), some (.int (nI m)), some (.int (nI lo)), some (.int (nI hi)), some (.long (lN (wsm nl n m lo i))), none, some (.int (nI (lo + i)))] [] (SD, false, I, L, R) (pd_rt (.long (lN (wsm nl n m lo (i + k)))) (SD, false, I, L, R)) := by
  have h40 := hr.2.2.1.2
  intro k
  induction k with
  | zero =>
    intro i hi'
    refine at_iload dX9_waysBy_6 rfl ?_
    refine at_iload dX9_waysBy_8 rfl ?_
    refine at_icmpgt (tgt := 44) dX9_waysBy_10 (by decide) (fun c10 => ?_) (fun c10 => ?_)
    · -- taken 10
      refine at_lload dX9_waysBy_44 rfl ?_
      refine at_lret rfl dX9_waysBy_46 ?_
      exact ⟨rfl, rfl⟩
    · -- not taken 10
      exact absurd (nI_lt (by omega) (by omega)) c10
  | succ k ih =>
    intro i hi'
    refine at_iload dX9_waysBy_6 rfl ?_
    refine at_iload dX9_waysBy_8 rfl ?_
    refine at_icmpgt (tgt := 44) dX9_waysBy_10 (by decide) (fun c10 => ?_) (fun c10 => ?_)
    · -- taken 10
      exact absurd c10 (nI_nlt (by omega) (by omega))
    · -- not taken 10
      refine at_lload dX9_waysBy_13 rfl ?_
      refine at_iload_n dX9_waysBy_15 rfl ?_
      refine at_iload dX9_waysBy_16 rfl ?_
      refine at_cs2 csX9_290 (ev_X9_ways (by omega) (by omega)) (by decide) ⟨Nat.le_refl _, Nat.le_refl _⟩ (Nat.le_of_ble_eq_true rfl) dX9_waysBy_18 (pd_k1 ?_)
      refine at_aload_n dX9_waysBy_21 rfl ?_
      refine at_cv0 cvX9_218 sd_119 (ev_X9_lines hR hq hr.2.2.1.1) (by decide) ⟨Nat.le_refl _, Nat.le_refl _⟩ (Nat.le_of_ble_eq_true rfl) dX9_waysBy_22 (pd_k1 ?_)
      refine at_iload_n dX9_waysBy_25 rfl ?_
      refine at_isub dX9_waysBy_26 ?_
      rw [pk_sub hm]
      refine at_iload_n dX9_waysBy_27 rfl ?_
      refine at_iload dX9_waysBy_28 rfl ?_
      refine at_isub dX9_waysBy_30 ?_
      rw [pk_sub (by omega)]
      refine at_cs2 csX9_290 (ev_X9_ways (by omega) (by omega)) (by decide) ⟨Nat.le_refl _, Nat.le_refl _⟩ (Nat.le_of_ble_eq_true rfl) dX9_waysBy_31 (pd_k1 ?_)
      refine at_lmul dX9_waysBy_34 ?_
      refine at_ladd dX9_waysBy_35 ?_
      rw [lN_mul, lN_add]
      refine at_lstore dX9_waysBy_36 rfl (Nat.le_of_ble_eq_true rfl) ?_
      refine at_inc dX9_waysBy_38 rfl pc_i1 rfl (Nat.le_of_ble_eq_true rfl) ?_
      refine at_goto (tgt := 6) dX9_waysBy_41 (by decide) ?_
      rw [nI_1]
      have e := ih (i + 1) (by omega)
      rw [show i + 1 + k = i + (k + 1) by omega] at e
      exact e
theorem ev_X9_waysBy (hR : RS R) (hq : RQ I 122 r) (hr : Row r nv ns nl e) {n m lo hi : Nat} (hm : m ≤ nl) (hn : n ≤ 40) (hh : hi ≤ n) (hl : lo ≤ hi + 1) : pd_Ev G mi_X9_waysBy 2 0 0 [.ref (pd_z G + 119), .int (nI n), .int (nI m), .int (nI lo), .int (nI hi)] (SD, false, I, L, R) (pd_rt (.long (lN (wsm nl n m lo (hi + 1 - lo)))) (SD, false, I, L, R)) := by
  refine pd_ev 3 (lo := [some (.ref (pd_z G + 119)), some (.int (nI n)), some (.int (nI m)), some (.int (nI lo)), some (.int (nI hi)), none, none, none]) (by decide +kernel) (Nat.le_of_ble_eq_true rfl) rfl ?_
  refine at_lconst dX9_waysBy_0 pc_l0 ?_
  refine at_lstore dX9_waysBy_1 rfl (Nat.le_of_ble_eq_true rfl) ?_
  refine at_iload_n dX9_waysBy_3 rfl ?_
  refine at_istore dX9_waysBy_4 rfl (Nat.le_of_ble_eq_true rfl) ?_
  have e := lp_X9_waysBy (G := G) (I := I) (L := L) hR hq hr hm hn hh (lo := lo) (hi := hi) (hi + 1 - lo) 0 (by omega)
  rw [Nat.zero_add] at e
  exact e
theorem Row.al (hr : Row r nv ns nl e) : r 7 = nI (rAl r) ∧ rAl r ≤ 499 := by
  obtain ⟨a, h1, h2, h3⟩ := hr.2.2.2.2.1
  have : rAl r = a := by rw [rAl, h3, nI_clamp (by omega)]
  rw [this]; exact ⟨h3, h2⟩
theorem ev_X9_isMuch (hR : RS R) (hq : RQ I 122 r) (hr : Row r nv ns nl e) {n w : Nat} (hn : n ≤ 40) (hw : w ≤ 41 * 2 ^ 40) : pd_Ev G mi_X9_isMuch 2 0 0 [.ref (pd_z G + 119), .long (lN w), .int (nI n)] (SD, false, I, L, R) (pd_rt (.int (i_of (much nl n (rAl r) w))) (SD, false, I, L, R)) := by
  have h40 := hr.2.2.1.2
  have h7 : I 122 (7 : Int32).toNatClampNeg = nI (rAl r) := (hq 7 (by decide)).trans hr.al.1
  have hal := hr.al.2
  refine pd_ev 0 (lo := [some (.ref (pd_z G + 119)), some (.long (lN w)), none, some (.int (nI n))]) (by decide +kernel) (Nat.le_of_ble_eq_true rfl) rfl ?_
  refine at_ldc2 coX9_294 dX9_isMuch_0 ?_
  refine at_lload_n dX9_isMuch_3 rfl ?_
  refine at_lmul dX9_isMuch_4 ?_
  refine at_aload_n dX9_isMuch_5 rfl ?_
  refine at_getr (122) flX9_20 rfl sd_119 (rs_119_9 hR) dX9_isMuch_6 ?_
  refine at_bipush dX9_isMuch_9 pc_b7 ?_
  refine at_iald sd_122 (vp_in_nI (n := 7) (by decide) (by decide)) dX9_isMuch_11 ?_
  rw [h7]
  refine at_i2l dX9_isMuch_12 ?_
  rw [nI_l (by omega)]
  refine at_aload_n dX9_isMuch_13 rfl ?_
  refine at_cv0 cvX9_218 sd_119 (ev_X9_lines hR hq hr.2.2.1.1) (by decide) ⟨Nat.le_refl _, Nat.le_refl _⟩ (Nat.le_of_ble_eq_true rfl) dX9_isMuch_14 (pd_k1 ?_)
  refine at_iload_n dX9_isMuch_17 rfl ?_
  refine at_cs2 csX9_290 (ev_X9_ways h40 (by omega)) (by decide) ⟨Nat.le_refl _, Nat.le_refl _⟩ (Nat.le_of_ble_eq_true rfl) dX9_isMuch_18 (pd_k1 ?_)
  refine at_lmul dX9_isMuch_21 ?_
  refine at_lcmp dX9_isMuch_22 ?_
  refine at_ifle (tgt := 30) dX9_isMuch_23 (by decide) (fun c23 => ?_) (fun c23 => ?_)
  · -- taken 23
    rw [lg_cmp_le, show (1000 : Int64) = lN 1000 from rfl, much_iff h40 hal hw] at c23
    refine at_iconst dX9_isMuch_30 pc_i0 ?_
    refine at_zret rfl dX9_isMuch_31 (by first | exact Or.inl rfl | exact Or.inr rfl | assumption) ?_
    refine ⟨?_, rfl⟩
    first | (rw [c23]; rfl) | (rw [show much nl n (rAl r) w = true from by simpa using c23]; rfl)
  · -- not taken 23
    rw [lg_cmp_le, show (1000 : Int64) = lN 1000 from rfl, much_iff h40 hal hw] at c23
    refine at_iconst dX9_isMuch_26 pc_i1 ?_
    refine at_goto (tgt := 31) dX9_isMuch_27 (by decide) ?_
    refine at_zret rfl dX9_isMuch_31 (by first | exact Or.inl rfl | exact Or.inr rfl | assumption) ?_
    refine ⟨?_, rfl⟩
    first | (rw [c23]; rfl) | (rw [show much nl n (rAl r) w = true from by simpa using c23]; rfl)
theorem wsm_b (hr : Row r nv ns nl e) {n m g k : Nat} (hm : m ≤ nl) (hk : k ≤ 41) : wsm nl n m g k ≤ 41 * 2 ^ 40 := Nat.le_trans (wsm_le hm hr.2.2.1.2 _) (Nat.mul_le_mul hk (Nat.le_refl _))
theorem lp_X9_low (hR : RS R) (hq : RQ I 122 r) (hr : Row r nv ns nl e) {n g : Nat} (hn : n ≤ nl) (hg : g ≤ n) : ∀ (k i : Nat), i + k = nl → pd_At G mi_X9_lowOf 3 0 0 0 0 2 [some (.ref (pd_z G + 119)), some (.int (nI n)), some (.int (nI g)), some (.int (nI i))] [] (SD, false, I, L, R) (pd_rt (.int (nI (pfirst (fun m => !much nl n (rAl r) (wsm nl n m g (n + 1 - g))) k i))) (SD, false, I, L, R)) := by
  have h40 := hr.2.2.1.2
  intro k
  induction k with
  | zero =>
    intro i hi
    have e0 : i = nl := by omega
    subst e0
    have ht := much_of (alpha := rAl r) hn hr.al.2 (wsm_top (all := i) hg)
    refine at_aload_n dX9_lowOf_2 rfl ?_
    refine at_aload_n dX9_lowOf_3 rfl ?_
    refine at_iload_n dX9_lowOf_4 rfl ?_
    refine at_iload_n dX9_lowOf_5 rfl ?_
    refine at_iload_n dX9_lowOf_6 rfl ?_
    refine at_iload_n dX9_lowOf_7 rfl ?_
    refine at_cv4 cvX9_296 sd_119 (ev_X9_waysBy hR hq hr (Nat.le_refl _) (by omega) (Nat.le_refl _) (by omega)) (by decide) ⟨Nat.le_refl _, Nat.le_refl _⟩ (Nat.le_of_ble_eq_true rfl) dX9_lowOf_8 (pd_k1 ?_)
    refine at_iload_n dX9_lowOf_11 rfl ?_
    refine at_cv2 cvX9_300 sd_119 (ev_X9_isMuch hR hq hr (by omega) (wsm_b hr (Nat.le_refl _) (by omega))) (by decide) ⟨Nat.le_refl _, Nat.le_refl _⟩ (Nat.le_of_ble_eq_true rfl) dX9_lowOf_12 (pd_k1 ?_)
    rw [ht]
    refine at_ifne (tgt := 24) dX9_lowOf_15 (by decide) (fun c15 => ?_) (fun c15 => ?_)
    · -- taken 15
      refine at_iload_n dX9_lowOf_24 rfl ?_
      refine at_iret rfl dX9_lowOf_25 ?_
      exact ⟨rfl, rfl⟩
    · -- not taken 15
      exact absurd c15 (by decide)
  | succ k ih =>
    intro i hi
    refine at_aload_n dX9_lowOf_2 rfl ?_
    refine at_aload_n dX9_lowOf_3 rfl ?_
    refine at_iload_n dX9_lowOf_4 rfl ?_
    refine at_iload_n dX9_lowOf_5 rfl ?_
    refine at_iload_n dX9_lowOf_6 rfl ?_
    refine at_iload_n dX9_lowOf_7 rfl ?_
    refine at_cv4 cvX9_296 sd_119 (ev_X9_waysBy hR hq hr (by omega) (by omega) (Nat.le_refl _) (by omega)) (by decide) ⟨Nat.le_refl _, Nat.le_refl _⟩ (Nat.le_of_ble_eq_true rfl) dX9_lowOf_8 (pd_k1 ?_)
    refine at_iload_n dX9_lowOf_11 rfl ?_
    refine at_cv2 cvX9_300 sd_119 (ev_X9_isMuch hR hq hr (by omega) (wsm_b hr (by omega) (by omega))) (by decide) ⟨Nat.le_refl _, Nat.le_refl _⟩ (Nat.le_of_ble_eq_true rfl) dX9_lowOf_12 (pd_k1 ?_)
    refine at_ifne (tgt := 24) dX9_lowOf_15 (by decide) (fun c15 => ?_) (fun c15 => ?_)
    · -- taken 15
      have k15 := i_of1.mp c15
      refine at_iload_n dX9_lowOf_24 rfl ?_
      refine at_iret rfl dX9_lowOf_25 ?_
      exact ⟨by rw [pfirst_no (by rw [k15]; rfl)], rfl⟩
    · -- not taken 15
      have k15 := i_of0.mp c15
      refine at_inc dX9_lowOf_18 rfl pc_i1 rfl (Nat.le_of_ble_eq_true rfl) ?_
      refine at_goto (tgt := 2) dX9_lowOf_21 (by decide) ?_
      rw [nI_1, pfirst_yes (by rw [k15]; rfl)]
      exact ih (i + 1) (by omega)
theorem ev_X9_low (hR : RS R) (hq : RQ I 122 r) (hr : Row r nv ns nl e) {n g : Nat} (hn : n ≤ nl) (hg : g ≤ n) : pd_Ev G mi_X9_lowOf 3 0 0 [.ref (pd_z G + 119), .int (nI n), .int (nI g)] (SD, false, I, L, R) (pd_rt (.int (nI (loB r nl n g))) (SD, false, I, L, R)) := by
  refine pd_ev 1 (lo := [some (.ref (pd_z G + 119)), some (.int (nI n)), some (.int (nI g)), none]) (by decide +kernel) (Nat.le_of_ble_eq_true rfl) rfl ?_
  refine at_iconst dX9_lowOf_0 pc_i0 ?_
  refine at_istore_n dX9_lowOf_1 rfl (Nat.le_of_ble_eq_true rfl) ?_
  exact lp_X9_low hR hq hr hn hg nl 0 (by omega)
theorem lp_X9_high (hR : RS R) (hq : RQ I 122 r) (hr : Row r nv ns nl e) {n g : Nat} (hn : n ≤ nl) (hg : g ≤ n) : ∀ k, k ≤ nl → pd_At G mi_X9_highOf 3 0 0 0 0 5 [some (.ref (pd_z G + 119)), some (.int (nI n)), some (.int (nI g)), some (.int (nI k))] [] (SD, false, I, L, R) (pd_rt (.int (nI (plast (fun m => much nl n (rAl r) (wsm nl n m 0 (g + 1))) k))) (SD, false, I, L, R)) := by
  have h40 := hr.2.2.1.2
  intro k
  induction k with
  | zero =>
    intro hk
    have ht := much_of (alpha := rAl r) hn hr.al.2 (wsm_bot (all := nl) (n := n) (g := g))
    refine at_aload_n dX9_highOf_5 rfl ?_
    refine at_aload_n dX9_highOf_6 rfl ?_
    refine at_iload_n dX9_highOf_7 rfl ?_
    refine at_iload_n dX9_highOf_8 rfl ?_
    refine at_iconst dX9_highOf_9 pc_i0 ?_
    refine at_iload_n dX9_highOf_10 rfl ?_
    refine at_cv4 cvX9_296 sd_119 (ev_X9_waysBy (m := 0) (lo := 0) (hi := g) hR hq hr (by omega) (by omega) hg (by omega)) (by decide) ⟨Nat.le_refl _, Nat.le_refl _⟩ (Nat.le_of_ble_eq_true rfl) dX9_highOf_11 (pd_k1 ?_)
    refine at_iload_n dX9_highOf_14 rfl ?_
    refine at_cv2 cvX9_300 sd_119 (ev_X9_isMuch hR hq hr (by omega) (wsm_b hr (by omega) (by omega))) (by decide) ⟨Nat.le_refl _, Nat.le_refl _⟩ (Nat.le_of_ble_eq_true rfl) dX9_highOf_15 (pd_k1 ?_)
    rw [Nat.sub_zero, ht]
    refine at_ifne (tgt := 27) dX9_highOf_18 (by decide) (fun c18 => ?_) (fun c18 => ?_)
    · -- taken 18
      refine at_iload_n dX9_highOf_27 rfl ?_
      refine at_iret rfl dX9_highOf_28 ?_
      exact ⟨rfl, rfl⟩
    · -- not taken 18
      exact absurd c18 (by decide)
  | succ k ih =>
    intro hk
    refine at_aload_n dX9_highOf_5 rfl ?_
    refine at_aload_n dX9_highOf_6 rfl ?_
    refine at_iload_n dX9_highOf_7 rfl ?_
    refine at_iload_n dX9_highOf_8 rfl ?_
    refine at_iconst dX9_highOf_9 pc_i0 ?_
    refine at_iload_n dX9_highOf_10 rfl ?_
    refine at_cv4 cvX9_296 sd_119 (ev_X9_waysBy (m := k + 1) (lo := 0) (hi := g) hR hq hr (by omega) (by omega) hg (by omega)) (by decide) ⟨Nat.le_refl _, Nat.le_refl _⟩ (Nat.le_of_ble_eq_true rfl) dX9_highOf_11 (pd_k1 ?_)
    refine at_iload_n dX9_highOf_14 rfl ?_
    refine at_cv2 cvX9_300 sd_119 (ev_X9_isMuch hR hq hr (by omega) (wsm_b hr (by omega) (by omega))) (by decide) ⟨Nat.le_refl _, Nat.le_refl _⟩ (Nat.le_of_ble_eq_true rfl) dX9_highOf_15 (pd_k1 ?_)
    rw [Nat.sub_zero]
    refine at_ifne (tgt := 27) dX9_highOf_18 (by decide) (fun c18 => ?_) (fun c18 => ?_)
    · -- taken 18
      have k18 := i_of1.mp c18
      refine at_iload_n dX9_highOf_27 rfl ?_
      refine at_iret rfl dX9_highOf_28 ?_
      exact ⟨by rw [plast, if_pos k18], rfl⟩
    · -- not taken 18
      have k18 := i_of0.mp c18
      refine at_inc dX9_highOf_21 rfl pc_im1 rfl (Nat.le_of_ble_eq_true rfl) ?_
      refine at_goto (tgt := 5) dX9_highOf_24 (by decide) ?_
      rw [pk_m1, plast, if_neg (by rw [k18]; decide)]
      exact ih (by omega)
theorem ev_X9_high (hR : RS R) (hq : RQ I 122 r) (hr : Row r nv ns nl e) {n g : Nat} (hn : n ≤ nl) (hg : g ≤ n) : pd_Ev G mi_X9_highOf 3 0 0 [.ref (pd_z G + 119), .int (nI n), .int (nI g)] (SD, false, I, L, R) (pd_rt (.int (nI (hiB r nl n g))) (SD, false, I, L, R)) := by
  refine pd_ev 1 (lo := [some (.ref (pd_z G + 119)), some (.int (nI n)), some (.int (nI g)), none]) (by decide +kernel) (Nat.le_of_ble_eq_true rfl) rfl ?_
  refine at_aload_n dX9_highOf_0 rfl ?_
  refine at_cv0 cvX9_218 sd_119 (ev_X9_lines hR hq hr.2.2.1.1) (by decide) ⟨Nat.le_refl _, Nat.le_refl _⟩ (Nat.le_of_ble_eq_true rfl) dX9_highOf_1 (pd_k1 ?_)
  refine at_istore_n dX9_highOf_4 rfl (Nat.le_of_ble_eq_true rfl) ?_
  exact lp_X9_high hR hq hr hn hg nl (Nat.le_refl _)
theorem ct_At {p : Nat → Bool} {a b : Nat} (h : p b = true) : nI (a + fb_ct p b) + 1 = nI (a + fb_ct p (b + 1)) := ct_yt h
theorem lp_X9_pairs1 (hR : RS R) (hq : RQ I 122 r) (hr : Row r nv ns nl e) (hf : ∀ k, k < nl → I 133 k = rJ r nv nl e 0 k) (hg : ∀ k, k < nl → I 134 k = rW r nv k) {w a P : Nat} (hw : w < 2) (ha : a < nl) {Q : pd_O → pd_M → Prop} (K : pd_At G mi_X9_pairsIn 2 0 0 0 0 87 [some (.ref (pd_z G + 119)), some (.int (nI w)), some (.int (nI (P + fb_ct (fun b => ((sm r w a && rOk r nv nl e 0 a) && (sm r w b && rOk r nv nl e 0 b)) && decide (rW r nv a = rW r nv b)) a))), some (.int (nI a)), some (.int (nI a))] [] (SD, false, I, L, R) Q) : ∀ (k b : Nat), b + k = a → pd_At G mi_X9_pairsIn 2 0 0 0 0 15 [some (.ref (pd_z G + 119)), some (.int (nI w)), some (.int (nI (P + fb_ct (fun b => ((sm r w a && rOk r nv nl e 0 a) && (sm r w b && rOk r nv nl e 0 b)) && decide (rW r nv a = rW r nv b)) b))), some (.int (nI a)), some (.int (nI b))] [] (SD, false, I, L, R) Q := by
  have h40 := hr.2.2.1.2
  intro k
  induction k with
  | zero =>
    intro b hb
    have e0 : b = a := by omega
    subst e0
    refine at_iload dX9_pairsIn_15 rfl ?_
    refine at_iload_n dX9_pairsIn_17 rfl ?_
    refine at_icmpge (tgt := 87) dX9_pairsIn_18 (by decide) (fun c18 => ?_) (fun c18 => ?_)
    · -- taken 18
      exact K
    · -- not taken 18
      exact absurd (nI_le (Nat.le_refl _) (by omega)) c18
  | succ k ih =>
    intro b hb
    refine at_iload dX9_pairsIn_15 rfl ?_
    refine at_iload_n dX9_pairsIn_17 rfl ?_
    refine at_icmpge (tgt := 87) dX9_pairsIn_18 (by decide) (fun c18 => ?_) (fun c18 => ?_)
    · -- taken 18
      exact absurd c18 (nI_ge (by omega) (by omega))
    · -- not taken 18
      refine at_iload_n dX9_pairsIn_21 rfl ?_
      refine at_aload_n dX9_pairsIn_22 rfl ?_
      refine at_iload_n dX9_pairsIn_23 rfl ?_
      refine at_iload_n dX9_pairsIn_24 rfl ?_
      refine at_cv2 cvX9_244 sd_119 (ev_X9_isIn hR hq hw (l := a) (by omega)) (by decide) ⟨Nat.le_refl _, Nat.le_refl _⟩ (Nat.le_of_ble_eq_true rfl) dX9_pairsIn_25 (pd_k1 ?_)
      refine at_ifeq (tgt := 78) dX9_pairsIn_28 (by decide) (fun c28 => ?_) (fun c28 => ?_)
      · -- taken 28
        have k28 := i_of0.mp c28
        refine at_iconst dX9_pairsIn_78 pc_i0 ?_
        refine at_iadd dX9_pairsIn_79 ?_
        refine at_istore_n dX9_pairsIn_80 rfl (Nat.le_of_ble_eq_true rfl) ?_
        refine at_inc dX9_pairsIn_81 rfl pc_i1 rfl (Nat.le_of_ble_eq_true rfl) ?_
        refine at_goto (tgt := 15) dX9_pairsIn_84 (by decide) ?_
        first | (rw [ct_yt, nI_1 b]; (exact ih (b + 1) (by omega)); (simp [k28, k38, k46, k55, c71]; done)) | (rw [ct_yf, nI_1 b]; (exact ih (b + 1) (by omega)); (first | (simp [k28]; done) | (simp [k38]; done) | (simp [k46]; done) | (simp [k55]; done) | (simp [c71]; done)))
      · -- not taken 28
        have k28 := i_of1.mp c28
        refine at_aload_n dX9_pairsIn_31 rfl ?_
        refine at_iload_n dX9_pairsIn_32 rfl ?_
        refine at_iload dX9_pairsIn_33 rfl ?_
        refine at_cv2 cvX9_244 sd_119 (ev_X9_isIn hR hq hw (l := b) (by omega)) (by decide) ⟨Nat.le_refl _, Nat.le_refl _⟩ (Nat.le_of_ble_eq_true rfl) dX9_pairsIn_35 (pd_k1 ?_)
        refine at_ifeq (tgt := 78) dX9_pairsIn_38 (by decide) (fun c38 => ?_) (fun c38 => ?_)
        · -- taken 38
          have k38 := i_of0.mp c38
          refine at_iconst dX9_pairsIn_78 pc_i0 ?_
          refine at_iadd dX9_pairsIn_79 ?_
          refine at_istore_n dX9_pairsIn_80 rfl (Nat.le_of_ble_eq_true rfl) ?_
          refine at_inc dX9_pairsIn_81 rfl pc_i1 rfl (Nat.le_of_ble_eq_true rfl) ?_
          refine at_goto (tgt := 15) dX9_pairsIn_84 (by decide) ?_
          first | (rw [ct_yt, nI_1 b]; (exact ih (b + 1) (by omega)); (simp [k28, k38, k46, k55, c71]; done)) | (rw [ct_yf, nI_1 b]; (exact ih (b + 1) (by omega)); (first | (simp [k28]; done) | (simp [k38]; done) | (simp [k46]; done) | (simp [k55]; done) | (simp [c71]; done)))
        · -- not taken 38
          have k38 := i_of1.mp c38
          refine at_aload_n dX9_pairsIn_41 rfl ?_
          refine at_iload_n dX9_pairsIn_42 rfl ?_
          refine at_cv1 cvX9_248 sd_119 (ev_X9_isClean hR hf h40 (l := a) (by omega)) (by decide) ⟨Nat.le_refl _, Nat.le_refl _⟩ (Nat.le_of_ble_eq_true rfl) dX9_pairsIn_43 (pd_k1 ?_)
          rw [rJ_clean]
          refine at_ifeq (tgt := 78) dX9_pairsIn_46 (by decide) (fun c46 => ?_) (fun c46 => ?_)
          · -- taken 46
            have k46 := i_of0.mp c46
            refine at_iconst dX9_pairsIn_78 pc_i0 ?_
            refine at_iadd dX9_pairsIn_79 ?_
            refine at_istore_n dX9_pairsIn_80 rfl (Nat.le_of_ble_eq_true rfl) ?_
            refine at_inc dX9_pairsIn_81 rfl pc_i1 rfl (Nat.le_of_ble_eq_true rfl) ?_
            refine at_goto (tgt := 15) dX9_pairsIn_84 (by decide) ?_
            first | (rw [ct_yt, nI_1 b]; (exact ih (b + 1) (by omega)); (simp [k28, k38, k46, k55, c71]; done)) | (rw [ct_yf, nI_1 b]; (exact ih (b + 1) (by omega)); (first | (simp [k28]; done) | (simp [k38]; done) | (simp [k46]; done) | (simp [k55]; done) | (simp [c71]; done)))
          · -- not taken 46
            have k46 := i_of1.mp c46
            refine at_aload_n dX9_pairsIn_49 rfl ?_
            refine at_iload dX9_pairsIn_50 rfl ?_
            refine at_cv1 cvX9_248 sd_119 (ev_X9_isClean hR hf h40 (l := b) (by omega)) (by decide) ⟨Nat.le_refl _, Nat.le_refl _⟩ (Nat.le_of_ble_eq_true rfl) dX9_pairsIn_52 (pd_k1 ?_)
            rw [rJ_clean]
            refine at_ifeq (tgt := 78) dX9_pairsIn_55 (by decide) (fun c55 => ?_) (fun c55 => ?_)
            · -- taken 55
              have k55 := i_of0.mp c55
              refine at_iconst dX9_pairsIn_78 pc_i0 ?_
              refine at_iadd dX9_pairsIn_79 ?_
              refine at_istore_n dX9_pairsIn_80 rfl (Nat.le_of_ble_eq_true rfl) ?_
              refine at_inc dX9_pairsIn_81 rfl pc_i1 rfl (Nat.le_of_ble_eq_true rfl) ?_
              refine at_goto (tgt := 15) dX9_pairsIn_84 (by decide) ?_
              first | (rw [ct_yt, nI_1 b]; (exact ih (b + 1) (by omega)); (simp [k28, k38, k46, k55, c71]; done)) | (rw [ct_yf, nI_1 b]; (exact ih (b + 1) (by omega)); (first | (simp [k28]; done) | (simp [k38]; done) | (simp [k46]; done) | (simp [k55]; done) | (simp [c71]; done)))
            · -- not taken 55
              have k55 := i_of1.mp c55
              refine at_aload_n dX9_pairsIn_58 rfl ?_
              refine at_getr (134) flX9_34 rfl sd_119 (rs_119_17 hR) dX9_pairsIn_59 ?_
              refine at_iload_n dX9_pairsIn_62 rfl ?_
              refine at_iald sd_134 (vp_in_nI (by omega) (by decide)) dX9_pairsIn_63 ?_
              rw [nI_clamp (by omega), hg _ (by omega)]
              refine at_aload_n dX9_pairsIn_64 rfl ?_
              refine at_getr (134) flX9_34 rfl sd_119 (rs_119_17 hR) dX9_pairsIn_65 ?_
              refine at_iload dX9_pairsIn_68 rfl ?_
              refine at_iald sd_134 (vp_in_nI (by omega) (by decide)) dX9_pairsIn_70 ?_
              rw [nI_clamp (by omega), hg _ (by omega)]
              refine at_icmpne (tgt := 78) dX9_pairsIn_71 (by decide) (fun c71 => ?_) (fun c71 => ?_)
              · -- taken 71
                refine at_iconst dX9_pairsIn_78 pc_i0 ?_
                refine at_iadd dX9_pairsIn_79 ?_
                refine at_istore_n dX9_pairsIn_80 rfl (Nat.le_of_ble_eq_true rfl) ?_
                refine at_inc dX9_pairsIn_81 rfl pc_i1 rfl (Nat.le_of_ble_eq_true rfl) ?_
                refine at_goto (tgt := 15) dX9_pairsIn_84 (by decide) ?_
                first | (rw [ct_yt, nI_1 b]; (exact ih (b + 1) (by omega)); (simp [k28, k38, k46, k55, c71]; done)) | (rw [ct_yf, nI_1 b]; (exact ih (b + 1) (by omega)); (first | (simp [k28]; done) | (simp [k38]; done) | (simp [k46]; done) | (simp [k55]; done) | (simp [c71]; done)))
              · -- not taken 71
                refine at_iconst dX9_pairsIn_74 pc_i1 ?_
                refine at_goto (tgt := 79) dX9_pairsIn_75 (by decide) ?_
                refine at_iadd dX9_pairsIn_79 ?_
                refine at_istore_n dX9_pairsIn_80 rfl (Nat.le_of_ble_eq_true rfl) ?_
                refine at_inc dX9_pairsIn_81 rfl pc_i1 rfl (Nat.le_of_ble_eq_true rfl) ?_
                refine at_goto (tgt := 15) dX9_pairsIn_84 (by decide) ?_
                first | (rw [ct_yt, nI_1 b]; (exact ih (b + 1) (by omega)); (simp [k28, k38, k46, k55, c71]; done)) | (rw [ct_yf, nI_1 b]; (exact ih (b + 1) (by omega)); (first | (simp [k28]; done) | (simp [k38]; done) | (simp [k46]; done) | (simp [k55]; done) | (simp [c71]; done)))
theorem lp_X9_pairs (hR : RS R) (hq : RQ I 122 r) (hr : Row r nv ns nl e) (hf : ∀ k, k < nl → I 133 k = rJ r nv nl e 0 k) (hg : ∀ k, k < nl → I 134 k = rW r nv k) {w : Nat} (hw : w < 2) : ∀ (k a : Nat), a + k = nl → ∀ x : Option Value, pd_At G mi_X9_pairsIn 2 0 0 0 0 4 [some (.ref (pd_z G + 119)), some (.int (nI w)), some (.int (nI (pB (fun l => sm r w l && rOk r nv nl e 0 l) (rW r nv) a))), some (.int (nI a)), x] [] (SD, false, I, L, R) (pd_rt (.int (nI (pB (fun l => sm r w l && rOk r nv nl e 0 l) (rW r nv) nl))) (SD, false, I, L, R)) := by
  have h40 := hr.2.2.1.2
  intro k
  induction k with
  | zero =>
    intro i hi x
    have e0 : i = nl := by omega
    subst e0
    refine at_iload_n dX9_pairsIn_4 rfl ?_
    refine at_aload_n dX9_pairsIn_5 rfl ?_
    refine at_cv0 cvX9_218 sd_119 (ev_X9_lines hR hq hr.2.2.1.1) (by decide) ⟨Nat.le_refl _, Nat.le_refl _⟩ (Nat.le_of_ble_eq_true rfl) dX9_pairsIn_6 (pd_k1 ?_)
    refine at_icmpge (tgt := 93) dX9_pairsIn_9 (by decide) (fun c9 => ?_) (fun c9 => ?_)
    · -- taken 9
      refine at_iload_n dX9_pairsIn_93 rfl ?_
      refine at_iret rfl dX9_pairsIn_94 ?_
      exact ⟨rfl, rfl⟩
    · -- not taken 9
      exact absurd (nI_le (Nat.le_refl _) (by omega)) c9
  | succ k ih =>
    intro i hi x
    have key : pd_At G mi_X9_pairsIn 2 0 0 0 0 87 [some (.ref (pd_z G + 119)), some (.int (nI w)), some (.int (nI (pB (fun l => sm r w l && rOk r nv nl e 0 l) (rW r nv) i + fb_ct (fun b => ((sm r w i && rOk r nv nl e 0 i) && (sm r w b && rOk r nv nl e 0 b)) && decide (rW r nv i = rW r nv b)) i))), some (.int (nI i)), some (.int (nI i))] [] (SD, false, I, L, R) (pd_rt (.int (nI (pB (fun l => sm r w l && rOk r nv nl e 0 l) (rW r nv) nl))) (SD, false, I, L, R)) := by
      refine at_inc dX9_pairsIn_87 rfl pc_i1 rfl (Nat.le_of_ble_eq_true rfl) ?_
      refine at_goto (tgt := 4) dX9_pairsIn_90 (by decide) ?_
      rw [nI_1]
      exact ih (i + 1) (by omega) _
    refine at_iload_n dX9_pairsIn_4 rfl ?_
    refine at_aload_n dX9_pairsIn_5 rfl ?_
    refine at_cv0 cvX9_218 sd_119 (ev_X9_lines hR hq hr.2.2.1.1) (by decide) ⟨Nat.le_refl _, Nat.le_refl _⟩ (Nat.le_of_ble_eq_true rfl) dX9_pairsIn_6 (pd_k1 ?_)
    refine at_icmpge (tgt := 93) dX9_pairsIn_9 (by decide) (fun c9 => ?_) (fun c9 => ?_)
    · -- taken 9
      exact absurd c9 (nI_ge (by omega) (by omega))
    · -- not taken 9
      refine at_iconst dX9_pairsIn_12 pc_i0 ?_
      refine at_istore dX9_pairsIn_13 rfl (Nat.le_of_ble_eq_true rfl) ?_
      exact lp_X9_pairs1 hR hq hr hf hg hw (by omega) key i 0 (by omega)
theorem rOk_v (hr : Row r nv ns nl e) {b l : Nat} (h : rOk r nv nl e b l = true) : ∃ v, v < nv ∧ rW r nv l = nI v := by
  refine rW_lt (fun q => ?_)
  rw [rOk, rH, if_pos q] at h
  exact absurd h (by simp)
theorem ev_X9_pairs (hR : RS R) (hq : RQ I 122 r) (hr : Row r nv ns nl e) (hf : ∀ k, k < nl → I 133 k = rJ r nv nl e 0 k) (hg : ∀ k, k < nl → I 134 k = rW r nv k) {w : Nat} (hw : w < 2) : pd_Ev G mi_X9_pairsIn 2 0 0 [.ref (pd_z G + 119), .int (nI w)] (SD, false, I, L, R) (pd_rt (.int (nI (smP r nv nl e w))) (SD, false, I, L, R)) := by
  have hv16 := hr.1.2
  have e1 : smP r nv nl e w = pB (fun l => sm r w l && rOk r nv nl e 0 l) (rW r nv) nl := by
    rw [pB_eq nl (fun l hl h => ?_)]
    · rfl
    · simp only [Bool.and_eq_true] at h
      obtain ⟨v, hv, hwv⟩ := rOk_v hr h.2
      exact ⟨v, by omega, hwv⟩
  rw [e1]
  refine pd_ev 3 (lo := [some (.ref (pd_z G + 119)), some (.int (nI w)), none, none, none]) (by decide +kernel) (Nat.le_of_ble_eq_true rfl) rfl ?_
  refine at_iconst dX9_pairsIn_0 pc_i0 ?_
  refine at_istore_n dX9_pairsIn_1 rfl (Nat.le_of_ble_eq_true rfl) ?_
  refine at_iconst dX9_pairsIn_2 pc_i0 ?_
  refine at_istore_n dX9_pairsIn_3 rfl (Nat.le_of_ble_eq_true rfl) ?_
  exact lp_X9_pairs hR hq hr hf hg hw nl 0 (by omega) _
theorem lp_X9_terms {M : pd_M} (x y : Int64) (what : Int32) : ∀ (b a : Nat), a < 2 ^ 63 → b < 2 ^ 63 → 0 < Nat.gcd a b → pd_At G mi_X9_terms 1 0 0 0 0 17 [some (.long x), none, some (.long y), none, some (.int what), some (.long (lN a)), none, some (.long (lN b)), none, none, none] [] M (pd_rt (.long ((if what = 0 then x else y) / lN (Nat.gcd a b))) M) := by
  intro b
  induction b using Nat.strongRecOn with
  | _ b ih =>
    intro a ha hb hg
    refine at_lload dX9_terms_17 rfl ?_
    refine at_lconst dX9_terms_19 pc_l0 ?_
    refine at_lcmp dX9_terms_20 ?_
    refine at_ifeq (tgt := 42) dX9_terms_21 (by decide) (fun c21 => ?_) (fun c21 => ?_)
    · -- taken 21
      rw [lg_cmp_eq] at c21
      have hb0 : b = 0 := (pk_lEQ (b := 0) hb (by decide)).mp c21
      subst hb0
      rw [Nat.gcd_zero_right] at hg ⊢
      refine at_iload dX9_terms_42 rfl ?_
      refine at_ifne (tgt := 51) dX9_terms_44 (by decide) (fun c44 => ?_) (fun c44 => ?_)
      · -- taken 44
        refine at_lload_n dX9_terms_51 rfl ?_
        refine at_lload dX9_terms_52 rfl ?_
        refine at_ldiv dX9_terms_54 (lN_ne0 (by omega) ha) ?_
        refine at_lret rfl dX9_terms_55 ?_
        first | exact ⟨by rw [if_pos c44], rfl⟩ | exact ⟨by rw [if_neg c44], rfl⟩
      · -- not taken 44
        refine at_lload_n dX9_terms_47 rfl ?_
        refine at_goto (tgt := 52) dX9_terms_48 (by decide) ?_
        refine at_lload dX9_terms_52 rfl ?_
        refine at_ldiv dX9_terms_54 (lN_ne0 (by omega) ha) ?_
        refine at_lret rfl dX9_terms_55 ?_
        first | exact ⟨by rw [if_pos c44], rfl⟩ | exact ⟨by rw [if_neg c44], rfl⟩
    · -- not taken 21
      rw [lg_cmp_eq] at c21
      refine at_lload dX9_terms_24 rfl ?_
      refine at_lload dX9_terms_26 rfl ?_
      refine at_lrem dX9_terms_28 (c21) ?_
      rw [pk_lRem ha (by have : b ≠ 0 := (fun z => c21 (by rw [z]; rfl)); omega) hb]
      refine at_lstore dX9_terms_29 rfl (Nat.le_of_ble_eq_true rfl) ?_
      refine at_lload dX9_terms_31 rfl ?_
      refine at_lstore dX9_terms_33 rfl (Nat.le_of_ble_eq_true rfl) ?_
      refine at_lload dX9_terms_35 rfl ?_
      refine at_lstore dX9_terms_37 rfl (Nat.le_of_ble_eq_true rfl) ?_
      refine at_goto (tgt := 17) dX9_terms_39 (by decide) ?_
      have hb0 : b ≠ 0 := fun z => c21 (by rw [z]; rfl)
      have hlt := Nat.mod_lt a (Nat.pos_of_ne_zero hb0)
      have e1 : Nat.gcd a b = Nat.gcd b (a % b) := by rw [Nat.gcd_comm a b, Nat.gcd_rec b a, Nat.gcd_comm]
      refine at_drop 9 ?_
      rw [e1] at hg ⊢
      exact ih (a % b) hlt b hb (by omega) hg
theorem ev_X9_tm {M : pd_M} {x y : Int64} (hx : -(2 ^ 63) < x.toInt) (hy : 0 < y.toInt) (what : Int32) : pd_Ev G mi_X9_terms 1 0 0 [.long x, .long y, .int what] M (pd_rt (.long (tmV x y what)) M) := by
  obtain ⟨h1, h2⟩ := l_abs hx
  have hyb := Int64.toInt_lt y
  have hye : y = lN y.toInt.natAbs := lN_int (by omega)
  have hgp : 0 < Nat.gcd x.toInt.natAbs y.toInt.natAbs := Nat.gcd_pos_of_pos_right _ (by omega)
  have go : pd_At G mi_X9_terms 1 0 0 0 0 17 [some (.long x), none, some (.long y), none, some (.int what), some (.long (lN x.toInt.natAbs)), none, some (.long y), none, none, none] [] M (pd_rt (.long (tmV x y what)) M) := by
    have h := lp_X9_terms (G := G) (M := M) x y what y.toInt.natAbs x.toInt.natAbs h2 (by omega) hgp
    rw [← hye] at h
    exact h
  refine pd_ev 6 (lo := [some (.long x), none, some (.long y), none, some (.int what), none, none, none, none, none, none]) (by decide +kernel) (Nat.le_of_ble_eq_true rfl) rfl ?_
  refine at_lload_n dX9_terms_0 rfl ?_
  refine at_lconst dX9_terms_1 pc_l0 ?_
  refine at_lcmp dX9_terms_2 ?_
  refine at_ifge (tgt := 11) dX9_terms_3 (by decide) (fun c3 => ?_) (fun c3 => ?_)
  · -- taken 3
    rw [lg_cmp_ge, fa_le64, show (0 : Int64).toInt = 0 from by decide] at c3
    refine at_lload_n dX9_terms_11 rfl ?_
    refine at_lstore dX9_terms_12 rfl (Nat.le_of_ble_eq_true rfl) ?_
    refine at_lload_n dX9_terms_14 rfl ?_
    refine at_lstore dX9_terms_15 rfl (Nat.le_of_ble_eq_true rfl) ?_
    first | (rw [← lN_int c3] at go; exact go) | (rw [if_neg (by rw [fa_lt64, show (0 : Int64).toInt = 0 from by decide]; omega)] at h1; rw [h1]; exact go)
  · -- not taken 3
    rw [lg_cmp_ge, fa_le64, show (0 : Int64).toInt = 0 from by decide] at c3
    refine at_lload_n dX9_terms_6 rfl ?_
    refine at_lneg dX9_terms_7 ?_
    refine at_goto (tgt := 12) dX9_terms_8 (by decide) ?_
    refine at_lstore dX9_terms_12 rfl (Nat.le_of_ble_eq_true rfl) ?_
    refine at_lload_n dX9_terms_14 rfl ?_
    refine at_lstore dX9_terms_15 rfl (Nat.le_of_ble_eq_true rfl) ?_
    first | (rw [← lN_int c3] at go; exact go) | (rw [if_neg (by rw [fa_lt64, show (0 : Int64).toInt = 0 from by decide]; omega)] at h1; rw [h1]; exact go)
end REF7
