/-! ===== Chances ===== -/
def ch : Nat → Nat → Nat
  | _, 0 => 1
  | 0, _ + 1 => 0
  | n + 1, k + 1 => ch n k + ch n (k + 1)
theorem ch_0 (n : Nat) : ch n 0 = 1 := by cases n <;> rfl
theorem ch_gt : ∀ (n k : Nat), n < k → ch n k = 0
  | _, 0, h => absurd h (Nat.not_lt_zero _)
  | 0, k + 1, _ => rfl
  | n + 1, k + 1, h => by rw [ch, ch_gt n k (by omega), ch_gt n (k + 1) (by omega)]
theorem ch_self : ∀ n : Nat, ch n n = 1
  | 0 => rfl
  | n + 1 => by rw [ch, ch_self n, ch_gt n (n + 1) (by omega)]
theorem ch_pair (n : Nat) : ∀ k, ch n k + ch n (k + 1) ≤ 2 ^ (n + 1) ∧ ch n k ≤ 2 ^ n := by
  induction n with
  | zero => intro k; cases k with
    | zero => decide
    | succ k => simp [ch]
  | succ n ih =>
    intro k
    have e : 2 ^ (n + 2) = 2 ^ (n + 1) + 2 ^ (n + 1) := by rw [Nat.pow_succ]; omega
    have e1 : 2 ^ (n + 1) = 2 ^ n + 2 ^ n := by rw [Nat.pow_succ]; omega
    have hp : ∀ j, ch (n + 1) j ≤ 2 ^ (n + 1) := fun j => by
      cases j with
      | zero => rw [ch_0]; exact Nat.one_le_two_pow
      | succ j => rw [ch]; exact (ih j).1
    have h1 := hp k
    have h2 := hp (k + 1)
    exact ⟨by omega, h1⟩
theorem ch_le (n k : Nat) : ch n k ≤ 2 ^ n := (ch_pair n k).2
theorem ch_pos : ∀ (n k : Nat), k ≤ n → 0 < ch n k
  | n, 0, _ => by rw [ch_0]; exact Nat.one_pos
  | 0, k + 1, h => absurd h (by omega)
  | n + 1, k + 1, h => by rw [ch]; have := ch_pos n k (by omega); omega
def Tri (L : Nat → Nat → Int64) : Prop := ∀ n k, n ≤ 40 → k ≤ n → L 26 (n * 41 + k) = lN (ch n k)
theorem ev_X0_choose {G : pd_G} {I L R} (hR : RS R) (hT : Tri L) {n k : Nat} (hn : n ≤ 40) (hk : k ≤ 100000) : pd_Ev G mi_X0_choose 1 0 0 [.ref (pd_z G + 25), .int (nI n), .int (nI k)] (SD, false, I, L, R) (pd_rt (.long (lN (ch n k))) (SD, false, I, L, R)) := by
  refine pd_ev 0 (lo := [some (.ref (pd_z G + 25)), some (.int (nI n)), some (.int (nI k))]) (by decide +kernel) (Nat.le_of_ble_eq_true rfl) rfl ?_
  refine at_iload_n dX0_choose_0 rfl ?_
  refine at_iflt (tgt := 19) dX0_choose_1 (by decide) (fun c1 => ?_) (fun c1 => ?_)
  · -- taken 1
    exact absurd c1 (nI_pos (by omega))
  · -- not taken 1
    refine at_iload_n dX0_choose_4 rfl ?_
    refine at_bipush dX0_choose_5 pc_b40 ?_
    refine at_icmpgt (tgt := 19) dX0_choose_7 (by decide) (fun c7 => ?_) (fun c7 => ?_)
    · -- taken 7
      exact absurd c7 (nI_nlt (a := 40) hn (by decide))
    · -- not taken 7
      refine at_iload_n dX0_choose_10 rfl ?_
      refine at_iflt (tgt := 19) dX0_choose_11 (by decide) (fun c11 => ?_) (fun c11 => ?_)
      · -- taken 11
        exact absurd c11 (nI_pos (by omega))
      · -- not taken 11
        refine at_iload_n dX0_choose_14 rfl ?_
        refine at_iload_n dX0_choose_15 rfl ?_
        refine at_icmple (tgt := 21) dX0_choose_16 (by decide) (fun c16 => ?_) (fun c16 => ?_)
        · -- taken 16
          rw [nI_leI (by omega) (by omega)] at c16
          refine at_aload_n dX0_choose_21 rfl ?_
          refine at_getr (26) flX0_11 rfl sd_25 (rs_25_0 hR) dX0_choose_22 ?_
          refine at_iload_n dX0_choose_25 rfl ?_
          refine at_bipush dX0_choose_26 pc_b41 ?_
          refine at_imul dX0_choose_28 ?_
          refine at_iload_n dX0_choose_29 rfl ?_
          refine at_iadd dX0_choose_30 ?_
          rw [show (41 : Int32) = nI 41 from rfl, pk_mul, nI_add]
          refine at_lald sd_26 (vp_in_nI (by omega) (by decide)) dX0_choose_31 ?_
          rw [nI_clamp (by omega), hT n k hn c16]
          refine at_lret rfl dX0_choose_32 ?_
          exact ⟨rfl, rfl⟩
        · -- not taken 16
          rw [nI_leI (by omega) (by omega)] at c16
          refine at_lconst dX0_choose_19 pc_l0 ?_
          refine at_lret rfl dX0_choose_20 ?_
          exact ⟨by rw [ch_gt n k (by omega)]; rfl, rfl⟩
def wsm (all n m lo k : Nat) : Nat := fb_sm (fun i => ch m (lo + i) * ch (all - m) (n - (lo + i))) k
theorem wsm_le {all n m lo : Nat} (hm : m ≤ all) (ha : all ≤ 40) (k : Nat) : wsm all n m lo k ≤ k * 2 ^ 40 := by
  refine fb_sm_bound (fun i _ => ?_)
  refine Nat.le_trans (Nat.mul_le_mul (ch_le m _) (ch_le (all - m) _)) ?_
  rw [← Nat.pow_add, show m + (all - m) = all by omega]
  exact Nat.pow_le_pow_right (by decide) ha
theorem lp_X0_ways {G : pd_G} {I L R} (hR : RS R) (hT : Tri L) {all n m lo hi : Nat} (ha : all ≤ 40) (hm : m ≤ all) (hn : n ≤ 40) (hh : hi ≤ n) : ∀ (k i : Nat), lo + i + k = hi + 1 → pd_At G mi_X0_waysWithMarked 2 0 0 0 0 7 [some (.ref (pd_z G + 25)), some (.int (nI all)), some (.int (nI n)), some (.int (nI m)), some (.int (nI lo)), some (.int (nI hi)), some (.long (lN (wsm all n m lo i))), none, some (.int (nI (lo + i)))] [] (SD, false, I, L, R) (pd_rt (.long (lN (wsm all n m lo (i + k)))) (SD, false, I, L, R)) := by
  intro k
  induction k with
  | zero =>
    intro i hi'
    refine at_iload dX0_waysWithMarked_7 rfl ?_
    refine at_iload dX0_waysWithMarked_9 rfl ?_
    refine at_icmpgt (tgt := 50) dX0_waysWithMarked_11 (by decide) (fun c11 => ?_) (fun c11 => ?_)
    · -- taken 11
      refine at_lload dX0_waysWithMarked_50 rfl ?_
      refine at_lret rfl dX0_waysWithMarked_52 ?_
      exact ⟨rfl, rfl⟩
    · -- not taken 11
      exact absurd (nI_lt (by omega) (by omega)) c11
  | succ k ih =>
    intro i hi'
    refine at_iload dX0_waysWithMarked_7 rfl ?_
    refine at_iload dX0_waysWithMarked_9 rfl ?_
    refine at_icmpgt (tgt := 50) dX0_waysWithMarked_11 (by decide) (fun c11 => ?_) (fun c11 => ?_)
    · -- taken 11
      exact absurd c11 (nI_nlt (by omega) (by omega))
    · -- not taken 11
      refine at_iload dX0_waysWithMarked_14 rfl ?_
      refine at_iload_n dX0_waysWithMarked_16 rfl ?_
      refine at_icmpgt (tgt := 50) dX0_waysWithMarked_17 (by decide) (fun c17 => ?_) (fun c17 => ?_)
      · -- taken 17
        exact absurd c17 (nI_nlt (by omega) (by omega))
      · -- not taken 17
        refine at_lload dX0_waysWithMarked_20 rfl ?_
        refine at_aload_n dX0_waysWithMarked_22 rfl ?_
        refine at_iload_n dX0_waysWithMarked_23 rfl ?_
        refine at_iload dX0_waysWithMarked_24 rfl ?_
        refine at_cv2 cvX0_18 sd_25 (ev_X0_choose hR hT (by omega) (by omega)) (by decide) ⟨Nat.le_refl _, Nat.le_refl _⟩ (Nat.le_of_ble_eq_true rfl) dX0_waysWithMarked_26 (pd_k1 ?_)
        refine at_aload_n dX0_waysWithMarked_29 rfl ?_
        refine at_iload_n dX0_waysWithMarked_30 rfl ?_
        refine at_iload_n dX0_waysWithMarked_31 rfl ?_
        refine at_isub dX0_waysWithMarked_32 ?_
        rw [pk_sub hm]
        refine at_iload_n dX0_waysWithMarked_33 rfl ?_
        refine at_iload dX0_waysWithMarked_34 rfl ?_
        refine at_isub dX0_waysWithMarked_36 ?_
        rw [pk_sub (by omega)]
        refine at_cv2 cvX0_18 sd_25 (ev_X0_choose hR hT (by omega) (by omega)) (by decide) ⟨Nat.le_refl _, Nat.le_refl _⟩ (Nat.le_of_ble_eq_true rfl) dX0_waysWithMarked_37 (pd_k1 ?_)
        refine at_lmul dX0_waysWithMarked_40 ?_
        refine at_ladd dX0_waysWithMarked_41 ?_
        rw [lN_mul, lN_add]
        refine at_lstore dX0_waysWithMarked_42 rfl (Nat.le_of_ble_eq_true rfl) ?_
        refine at_inc dX0_waysWithMarked_44 rfl pc_i1 rfl (Nat.le_of_ble_eq_true rfl) ?_
        refine at_goto (tgt := 7) dX0_waysWithMarked_47 (by decide) ?_
        rw [nI_1]
        have e := ih (i + 1) (by omega)
        rw [show i + 1 + k = i + (k + 1) by omega] at e
        exact e
theorem ev_X0_ways {G : pd_G} {I L R} (hR : RS R) (hT : Tri L) {all n m lo hi : Nat} (ha : all ≤ 40) (hm : m ≤ all) (hn : n ≤ 40) (hh : hi ≤ n) (hl : lo ≤ hi + 1) : pd_Ev G mi_X0_waysWithMarked 2 0 0 [.ref (pd_z G + 25), .int (nI all), .int (nI n), .int (nI m), .int (nI lo), .int (nI hi)] (SD, false, I, L, R) (pd_rt (.long (lN (wsm all n m lo (hi + 1 - lo)))) (SD, false, I, L, R)) := by
  refine pd_ev 3 (lo := [some (.ref (pd_z G + 25)), some (.int (nI all)), some (.int (nI n)), some (.int (nI m)), some (.int (nI lo)), some (.int (nI hi)), none, none, none]) (by decide +kernel) (Nat.le_of_ble_eq_true rfl) rfl ?_
  refine at_lconst dX0_waysWithMarked_0 pc_l0 ?_
  refine at_lstore dX0_waysWithMarked_1 rfl (Nat.le_of_ble_eq_true rfl) ?_
  refine at_iload dX0_waysWithMarked_3 rfl ?_
  refine at_istore dX0_waysWithMarked_5 rfl (Nat.le_of_ble_eq_true rfl) ?_
  have e := lp_X0_ways (G := G) (I := I) hR hT ha hm hn hh (lo := lo) (hi := hi) (hi + 1 - lo) 0 (by omega)
  rw [Nat.zero_add] at e
  exact e
/-- a thousand times the ways are more than alpha times all -/
def much (all n alpha w : Nat) : Bool := decide (alpha * ch all n < 1000 * w)
theorem much_iff {all n alpha w : Nat} (ha : all ≤ 40) (hal : alpha ≤ 499) (hw : w ≤ 41 * 2 ^ 40) : lN 1000 * lN w ≤ lN alpha * lN (ch all n) ↔ much all n alpha w = false := by
  have h1 := ch_le all n
  have h2 : 2 ^ all ≤ 2 ^ 40 := Nat.pow_le_pow_right (by decide) ha
  have h3 : alpha * ch all n ≤ 499 * 2 ^ 40 := Nat.mul_le_mul hal (Nat.le_trans h1 h2)
  rw [lN_mul, lN_mul, pk_lLE (by omega) (by omega)]
  simp [much]
theorem lp_X0_low {G : pd_G} {I L R} (hR : RS R) (hT : Tri L) {all n g alpha : Nat} (ha : all ≤ 40) (hn : n ≤ 40) (hg : g ≤ n) (hal : alpha ≤ 499) : ∀ (k i : Nat), i + k = all → pd_At G mi_X0_lowBound 3 0 0 0 0 15 [some (.ref (pd_z G + 25)), some (.int (nI all)), some (.int (nI n)), some (.int (nI g)), some (.int (nI alpha)), some (.long (lN alpha * lN (ch all n))), none, some (.int (nI i))] [] (SD, false, I, L, R) (pd_rt (.int (nI (pfirst (fun m => !much all n alpha (wsm all n m g (n + 1 - g))) k i))) (SD, false, I, L, R)) := by
  intro k
  induction k with
  | zero =>
    intro i hi
    have e : i = all := by omega
    subst e
    refine at_iload dX0_lowBound_15 rfl ?_
    refine at_iload_n dX0_lowBound_17 rfl ?_
    refine at_icmpge (tgt := 50) dX0_lowBound_18 (by decide) (fun c18 => ?_) (fun c18 => ?_)
    · -- taken 18
      refine at_iload_n dX0_lowBound_50 rfl ?_
      refine at_iret rfl dX0_lowBound_51 ?_
      exact ⟨rfl, rfl⟩
    · -- not taken 18
      exact absurd (nI_le (by omega) (by omega)) c18
  | succ k ih =>
    intro i hi
    have hb : wsm all n i g (n + 1 - g) ≤ 41 * 2 ^ 40 := Nat.le_trans (wsm_le (by omega) ha _) (Nat.mul_le_mul (by omega) (Nat.le_refl _))
    refine at_iload dX0_lowBound_15 rfl ?_
    refine at_iload_n dX0_lowBound_17 rfl ?_
    refine at_icmpge (tgt := 50) dX0_lowBound_18 (by decide) (fun c18 => ?_) (fun c18 => ?_)
    · -- taken 18
      exact absurd c18 (nI_ge (by omega) (by omega))
    · -- not taken 18
      refine at_ldc2 coX0_22 dX0_lowBound_21 ?_
      refine at_aload_n dX0_lowBound_24 rfl ?_
      refine at_iload_n dX0_lowBound_25 rfl ?_
      refine at_iload_n dX0_lowBound_26 rfl ?_
      refine at_iload dX0_lowBound_27 rfl ?_
      refine at_iload_n dX0_lowBound_29 rfl ?_
      refine at_iload_n dX0_lowBound_30 rfl ?_
      refine at_cv5 cvX0_24 sd_25 (ev_X0_ways (lo := g) (hi := n) hR hT ha (by omega) hn (Nat.le_refl _) (by omega)) (by decide) ⟨Nat.le_refl _, Nat.le_refl _⟩ (Nat.le_of_ble_eq_true rfl) dX0_lowBound_31 (pd_k1 ?_)
      refine at_lmul dX0_lowBound_34 ?_
      refine at_lload dX0_lowBound_35 rfl ?_
      refine at_lcmp dX0_lowBound_37 ?_
      refine at_ifle (tgt := 44) dX0_lowBound_38 (by decide) (fun c38 => ?_) (fun c38 => ?_)
      · -- taken 38
        rw [lg_cmp_le, show (1000 : Int64) = lN 1000 from rfl, much_iff ha hal hb] at c38
        refine at_inc dX0_lowBound_44 rfl pc_i1 rfl (Nat.le_of_ble_eq_true rfl) ?_
        refine at_goto (tgt := 15) dX0_lowBound_47 (by decide) ?_
        rw [nI_1, pfirst_yes (by simp [c38])]; exact ih (i + 1) (by omega)
      · -- not taken 38
        rw [lg_cmp_le, show (1000 : Int64) = lN 1000 from rfl, much_iff ha hal hb] at c38
        refine at_iload dX0_lowBound_41 rfl ?_
        refine at_iret rfl dX0_lowBound_43 ?_
        exact ⟨by rw [pfirst_no (by simpa using c38)], rfl⟩
theorem ev_X0_lowBound {G : pd_G} {I L R} (hR : RS R) (hT : Tri L) {all n g alpha : Nat} (ha : all ≤ 40) (hn : n ≤ 40) (hg : g ≤ n) (hal : alpha ≤ 499) : pd_Ev G mi_X0_lowBound 3 0 0 [.ref (pd_z G + 25), .int (nI all), .int (nI n), .int (nI g), .int (nI alpha)] (SD, false, I, L, R) (pd_rt (.int (nI (pfirst (fun m => !much all n alpha (wsm all n m g (n + 1 - g))) all 0))) (SD, false, I, L, R)) := by
  refine pd_ev 3 (lo := [some (.ref (pd_z G + 25)), some (.int (nI all)), some (.int (nI n)), some (.int (nI g)), some (.int (nI alpha)), none, none, none]) (by decide +kernel) (Nat.le_of_ble_eq_true rfl) rfl ?_
  refine at_iload dX0_lowBound_0 rfl ?_
  refine at_i2l dX0_lowBound_2 ?_
  rw [nI_l (by omega)]
  refine at_aload_n dX0_lowBound_3 rfl ?_
  refine at_iload_n dX0_lowBound_4 rfl ?_
  refine at_iload_n dX0_lowBound_5 rfl ?_
  refine at_cv2 cvX0_18 sd_25 (ev_X0_choose hR hT ha (by omega)) (by decide) ⟨Nat.le_refl _, Nat.le_refl _⟩ (Nat.le_of_ble_eq_true rfl) dX0_lowBound_6 (pd_k1 ?_)
  refine at_lmul dX0_lowBound_9 ?_
  refine at_lstore dX0_lowBound_10 rfl (Nat.le_of_ble_eq_true rfl) ?_
  refine at_iconst dX0_lowBound_12 pc_i0 ?_
  refine at_istore dX0_lowBound_13 rfl (Nat.le_of_ble_eq_true rfl) ?_
  exact lp_X0_low hR hT ha hn hg hal all 0 (by omega)
/-- the last that holds, of k down to 1; or 0 -/
def plast (p : Nat → Bool) : Nat → Nat
  | 0 => 0
  | k + 1 => if p (k + 1) then k + 1 else plast p k
theorem lp_X0_high {G : pd_G} {I L R} (hR : RS R) (hT : Tri L) {all n g alpha : Nat} (ha : all ≤ 40) (hn : n ≤ 40) (hg : g ≤ n) (hal : alpha ≤ 499) : ∀ (k : Nat), k ≤ all → pd_At G mi_X0_highBound 3 0 0 0 0 15 [some (.ref (pd_z G + 25)), some (.int (nI all)), some (.int (nI n)), some (.int (nI g)), some (.int (nI alpha)), some (.long (lN alpha * lN (ch all n))), none, some (.int (nI k))] [] (SD, false, I, L, R) (pd_rt (.int (nI (plast (fun m => much all n alpha (wsm all n m 0 (g + 1))) k))) (SD, false, I, L, R)) := by
  intro k
  induction k with
  | zero =>
    intro hk
    refine at_iload dX0_highBound_15 rfl ?_
    refine at_ifle (tgt := 49) dX0_highBound_17 (by decide) (fun c17 => ?_) (fun c17 => ?_)
    · -- taken 17
      refine at_iconst dX0_highBound_49 pc_i0 ?_
      refine at_iret rfl dX0_highBound_50 ?_
      exact ⟨rfl, rfl⟩
    · -- not taken 17
      exact absurd (by decide) c17
  | succ k ih =>
    intro hk
    have hb : wsm all n (k + 1) 0 (g + 1) ≤ 41 * 2 ^ 40 := Nat.le_trans (wsm_le (by omega) ha _) (Nat.mul_le_mul (by omega) (Nat.le_refl _))
    refine at_iload dX0_highBound_15 rfl ?_
    refine at_ifle (tgt := 49) dX0_highBound_17 (by decide) (fun c17 => ?_) (fun c17 => ?_)
    · -- taken 17
      exact absurd c17 (nI_nle (by omega) (by omega))
    · -- not taken 17
      refine at_ldc2 coX0_22 dX0_highBound_20 ?_
      refine at_aload_n dX0_highBound_23 rfl ?_
      refine at_iload_n dX0_highBound_24 rfl ?_
      refine at_iload_n dX0_highBound_25 rfl ?_
      refine at_iload dX0_highBound_26 rfl ?_
      refine at_iconst dX0_highBound_28 pc_i0 ?_
      refine at_iload_n dX0_highBound_29 rfl ?_
      refine at_cv5 cvX0_24 sd_25 (ev_X0_ways (lo := 0) (hi := g) hR hT ha (by omega) hn hg (by omega)) (by decide) ⟨Nat.le_refl _, Nat.le_refl _⟩ (Nat.le_of_ble_eq_true rfl) dX0_highBound_30 (pd_k1 ?_)
      refine at_lmul dX0_highBound_33 ?_
      refine at_lload dX0_highBound_34 rfl ?_
      refine at_lcmp dX0_highBound_36 ?_
      refine at_ifle (tgt := 43) dX0_highBound_37 (by decide) (fun c37 => ?_) (fun c37 => ?_)
      · -- taken 37
        rw [lg_cmp_le, show (1000 : Int64) = lN 1000 from rfl, Nat.sub_zero, much_iff ha hal hb] at c37
        refine at_inc dX0_highBound_43 rfl pc_im1 rfl (Nat.le_of_ble_eq_true rfl) ?_
        refine at_goto (tgt := 15) dX0_highBound_46 (by decide) ?_
        rw [pk_m1, plast, if_neg (by simp [c37])]; exact ih (by omega)
      · -- not taken 37
        rw [lg_cmp_le, show (1000 : Int64) = lN 1000 from rfl, Nat.sub_zero, much_iff ha hal hb] at c37
        refine at_iload dX0_highBound_40 rfl ?_
        refine at_iret rfl dX0_highBound_42 ?_
        exact ⟨by rw [plast, if_pos (by simpa using c37)], rfl⟩
theorem ev_X0_highBound {G : pd_G} {I L R} (hR : RS R) (hT : Tri L) {all n g alpha : Nat} (ha : all ≤ 40) (hn : n ≤ 40) (hg : g ≤ n) (hal : alpha ≤ 499) : pd_Ev G mi_X0_highBound 3 0 0 [.ref (pd_z G + 25), .int (nI all), .int (nI n), .int (nI g), .int (nI alpha)] (SD, false, I, L, R) (pd_rt (.int (nI (plast (fun m => much all n alpha (wsm all n m 0 (g + 1))) all))) (SD, false, I, L, R)) := by
  refine pd_ev 3 (lo := [some (.ref (pd_z G + 25)), some (.int (nI all)), some (.int (nI n)), some (.int (nI g)), some (.int (nI alpha)), none, none, none]) (by decide +kernel) (Nat.le_of_ble_eq_true rfl) rfl ?_
  refine at_iload dX0_highBound_0 rfl ?_
  refine at_i2l dX0_highBound_2 ?_
  rw [nI_l (by omega)]
  refine at_aload_n dX0_highBound_3 rfl ?_
  refine at_iload_n dX0_highBound_4 rfl ?_
  refine at_iload_n dX0_highBound_5 rfl ?_
  refine at_cv2 cvX0_18 sd_25 (ev_X0_choose hR hT ha (by omega)) (by decide) ⟨Nat.le_refl _, Nat.le_refl _⟩ (Nat.le_of_ble_eq_true rfl) dX0_highBound_6 (pd_k1 ?_)
  refine at_lmul dX0_highBound_9 ?_
  refine at_lstore dX0_highBound_10 rfl (Nat.le_of_ble_eq_true rfl) ?_
  refine at_iload_n dX0_highBound_12 rfl ?_
  refine at_istore dX0_highBound_13 rfl (Nat.le_of_ble_eq_true rfl) ?_
  exact lp_X0_high hR hT ha hn hg hal all (Nat.le_refl _)
/-! Euclid -/
def eu : Nat → Nat → Nat → Nat
  | 0, a, _ => a
  | f + 1, a, b => if b = 0 then a else eu f b (a % b)
theorem eu_gcd : ∀ (k a b f : Nat), b < 2 ^ k → 2 * k ≤ f → eu f a b = Nat.gcd a b
  | 0, a, b, f, hb, _ => by
    have e : b = 0 := by simpa using hb
    subst e
    cases f <;> simp [eu]
  | k + 1, a, b, f, hb, hf => by
    obtain ⟨g, rfl⟩ : ∃ g, f = g + 2 := ⟨f - 2, by omega⟩
    rw [eu]
    by_cases h0 : b = 0
    · rw [if_pos h0, h0]; simp
    · rw [if_neg h0, eu]
      have e1 : Nat.gcd a b = Nat.gcd b (a % b) := by rw [Nat.gcd_comm a b, Nat.gcd_rec b a, Nat.gcd_comm]
      by_cases h1 : a % b = 0
      · rw [if_pos h1, e1, h1]; simp
      · rw [if_neg h1]
        have hr := Nat.mod_lt a (Nat.pos_of_ne_zero h0)
        have h2 : b % (a % b) < a % b := Nat.mod_lt _ (Nat.pos_of_ne_zero h1)
        have h3 : b % (a % b) + (a % b) ≤ b := by
          have h4 := Nat.div_add_mod b (a % b)
          have h5 : 1 ≤ b / (a % b) := (Nat.one_le_div_iff (Nat.pos_of_ne_zero h1)).mpr (Nat.le_of_lt hr)
          have h6 : a % b * 1 ≤ a % b * (b / (a % b)) := Nat.mul_le_mul_left _ h5
          omega
        rw [eu_gcd k (a % b) (b % (a % b)) g (by rw [Nat.pow_succ] at hb; omega) (by omega)]
        rw [e1, Nat.gcd_comm b (a % b), Nat.gcd_rec (a % b) b, Nat.gcd_comm]
theorem lN_ne0 {b : Nat} (h0 : b ≠ 0) (h : b < 2 ^ 63) : ¬ lN b = 0 := fun e => h0 ((pk_lEQ (a := b) (b := 0) h (by decide)).mp e)
theorem lp_X0_gcd {G : pd_G} {M : pd_M} (x y : Int64) : ∀ (k i a b : Nat), i + k = 200 → a < 2 ^ 63 → b < 2 ^ 63 → pd_At G mi_X0_commonDivisor 2 0 0 0 0 15 [some (.long x), none, some (.long y), none, some (.long (lN a)), none, some (.long (lN b)), none, some (.int (nI i)), none, none] [] M (pd_rt (.long (lN (eu k a b))) M) := by
  intro k
  induction k with
  | zero =>
    intro i a b hi ha hb
    refine at_iload dX0_commonDivisor_15 rfl ?_
    refine at_sipush dX0_commonDivisor_17 pc_s200 ?_
    refine at_icmpge (tgt := 51) dX0_commonDivisor_20 (by decide) (fun c20 => ?_) (fun c20 => ?_)
    · -- taken 20
      refine at_lload dX0_commonDivisor_51 rfl ?_
      refine at_lret rfl dX0_commonDivisor_53 ?_
      exact ⟨rfl, rfl⟩
    · -- not taken 20
      exact absurd (nI_le (a := 200) (by omega) (by omega)) c20
  | succ k ih =>
    intro i a b hi ha hb
    refine at_iload dX0_commonDivisor_15 rfl ?_
    refine at_sipush dX0_commonDivisor_17 pc_s200 ?_
    refine at_icmpge (tgt := 51) dX0_commonDivisor_20 (by decide) (fun c20 => ?_) (fun c20 => ?_)
    · -- taken 20
      exact absurd c20 (nI_ge (b := 200) (by omega) (by decide))
    · -- not taken 20
      refine at_lload dX0_commonDivisor_23 rfl ?_
      refine at_lconst dX0_commonDivisor_25 pc_l0 ?_
      refine at_lcmp dX0_commonDivisor_26 ?_
      refine at_ifeq (tgt := 51) dX0_commonDivisor_27 (by decide) (fun c27 => ?_) (fun c27 => ?_)
      · -- taken 27
        rw [lg_cmp_eq] at c27
        refine at_lload dX0_commonDivisor_51 rfl ?_
        refine at_lret rfl dX0_commonDivisor_53 ?_
        exact ⟨by rw [eu, if_pos ((pk_lEQ (b := 0) hb (by decide)).mp c27)], rfl⟩
      · -- not taken 27
        rw [lg_cmp_eq] at c27
        refine at_lload dX0_commonDivisor_30 rfl ?_
        refine at_lload dX0_commonDivisor_32 rfl ?_
        refine at_lrem dX0_commonDivisor_34 (c27) ?_
        rw [pk_lRem ha (by have : b ≠ 0 := (fun e => c27 (by rw [e]; rfl)); omega) hb]
        refine at_lstore dX0_commonDivisor_35 rfl (Nat.le_of_ble_eq_true rfl) ?_
        refine at_lload dX0_commonDivisor_37 rfl ?_
        refine at_lstore dX0_commonDivisor_39 rfl (Nat.le_of_ble_eq_true rfl) ?_
        refine at_lload dX0_commonDivisor_41 rfl ?_
        refine at_lstore dX0_commonDivisor_43 rfl (Nat.le_of_ble_eq_true rfl) ?_
        refine at_inc dX0_commonDivisor_45 rfl pc_i1 rfl (Nat.le_of_ble_eq_true rfl) ?_
        refine at_goto (tgt := 15) dX0_commonDivisor_48 (by decide) ?_
        have hb0 : b ≠ 0 := fun e => c27 (by rw [e]; rfl)
        refine at_drop 9 ?_
        rw [nI_1, eu, if_neg hb0]
        exact ih (i + 1) b (a % b) (by omega) hb (by have := Nat.mod_lt a (Nat.pos_of_ne_zero hb0); omega)
theorem ev_X0_gcd {G : pd_G} {M : pd_M} {x y : Int64} {a b : Nat} (hx : (if 0 < x then x else -x) = lN a) (hy : (if 0 < y then y else -y) = lN b) (ha : a < 2 ^ 63) (hb : b < 2 ^ 63) : pd_Ev G mi_X0_commonDivisor 2 0 0 [.long x, .long y] M (pd_rt (.long (lN (Nat.gcd a b))) M) := by
  refine pd_ev 7 (lo := [some (.long x), none, some (.long y), none, none, none, none, none, none, none, none]) (by decide +kernel) (Nat.le_of_ble_eq_true rfl) rfl ?_
  refine at_lload_n dX0_commonDivisor_0 rfl ?_
  refine at_abs mlX0_28 (by decide) (Nat.le_of_ble_eq_true rfl) dX0_commonDivisor_1 ?_
  rw [hx]
  refine at_lstore dX0_commonDivisor_4 rfl (Nat.le_of_ble_eq_true rfl) ?_
  refine at_lload_n dX0_commonDivisor_6 rfl ?_
  refine at_abs mlX0_28 (by decide) (Nat.le_of_ble_eq_true rfl) dX0_commonDivisor_7 ?_
  rw [hy]
  refine at_lstore dX0_commonDivisor_10 rfl (Nat.le_of_ble_eq_true rfl) ?_
  refine at_iconst dX0_commonDivisor_12 pc_i0 ?_
  refine at_istore dX0_commonDivisor_13 rfl (Nat.le_of_ble_eq_true rfl) ?_
  rw [← eu_gcd 63 a b 200 hb (by decide)]
  exact lp_X0_gcd x y 200 0 a b (by omega) ha hb
theorem ev_X8_terms {G : pd_G} {M : pd_M} {x y : Int64} {a b : Nat} (hx : (if 0 < x then x else -x) = lN a) (hy : (if 0 < y then y else -y) = lN b) (ha : a < 2 ^ 63) (hb : b < 2 ^ 63) (hb0 : 0 < b) (what : Int32) : pd_Ev G mi_X8_inLowestTerms 3 0 0 [.long x, .long y, .int what] M (pd_rt (.long ((if what = 0 then x else y) / lN (Nat.gcd a b))) M) := by
  have hg : 0 < Nat.gcd a b := Nat.gcd_pos_of_pos_right a hb0
  have hg2 : Nat.gcd a b ≤ b := Nat.gcd_le_right a hb0
  have hne : ¬ lN (Nat.gcd a b) = 0 := lN_ne0 (by omega) (by omega)
  refine pd_ev 2 (lo := [some (.long x), none, some (.long y), none, some (.int what), none, none]) (by decide +kernel) (Nat.le_of_ble_eq_true rfl) rfl ?_
  refine at_lload_n dX8_inLowestTerms_0 rfl ?_
  refine at_lload_n dX8_inLowestTerms_1 rfl ?_
  refine at_cs2 csX8_312 (ev_X0_gcd hx hy ha hb) (by decide) ⟨Nat.le_refl _, Nat.le_refl _⟩ (Nat.le_of_ble_eq_true rfl) dX8_inLowestTerms_2 (pd_k1 ?_)
  refine at_lstore dX8_inLowestTerms_5 rfl (Nat.le_of_ble_eq_true rfl) ?_
  refine at_lload dX8_inLowestTerms_7 rfl ?_
  refine at_lconst dX8_inLowestTerms_9 pc_l0 ?_
  refine at_lcmp dX8_inLowestTerms_10 ?_
  refine at_ifne (tgt := 16) dX8_inLowestTerms_11 (by decide) (fun c11 => ?_) (fun c11 => ?_)
  · -- taken 11
    refine at_iload dX8_inLowestTerms_16 rfl ?_
    refine at_ifne (tgt := 25) dX8_inLowestTerms_18 (by decide) (fun c18 => ?_) (fun c18 => ?_)
    · -- taken 18
      refine at_lload_n dX8_inLowestTerms_25 rfl ?_
      refine at_lload dX8_inLowestTerms_26 rfl ?_
      refine at_ldiv dX8_inLowestTerms_28 (hne) ?_
      refine at_lret rfl dX8_inLowestTerms_29 ?_
      first | exact ⟨by rw [if_pos c18], rfl⟩ | exact ⟨by rw [if_neg c18], rfl⟩
    · -- not taken 18
      refine at_lload_n dX8_inLowestTerms_21 rfl ?_
      refine at_goto (tgt := 26) dX8_inLowestTerms_22 (by decide) ?_
      refine at_lload dX8_inLowestTerms_26 rfl ?_
      refine at_ldiv dX8_inLowestTerms_28 (hne) ?_
      refine at_lret rfl dX8_inLowestTerms_29 ?_
      first | exact ⟨by rw [if_pos c18], rfl⟩ | exact ⟨by rw [if_neg c18], rfl⟩
  · -- not taken 11
    exact absurd ((lg_cmp_eq _ _).mp c11) hne
