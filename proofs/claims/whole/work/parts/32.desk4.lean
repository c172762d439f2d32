/-! ===== the desk: estimate, unlike, unseen, fewest, worst ===== -/
/-- the first of each kind are as many as there are kinds -/
theorem ct_firsts {q : Nat → Bool} {w : Nat → Int32} : ∀ n, (∀ l, l < n → q l = true → ∃ v, v < 16 ∧ w l = nI v) → fb_ct (fun l => q l && decide (fb_ct (fun k => q k && decide (w k = w l)) l = 0)) n = fb_ct (fun v => decide (0 < fb_ct (fun l => q l && decide (w l = nI v)) n)) 16
  | 0, _ => by simp [fb_ct]
  | n + 1, h => by
    have ih := ct_firsts (q := q) (w := w) n (fun l hl => h l (by omega))
    rw [fb_ct_succ, ih]
    cases hq : q n with
    | false =>
      simp only [Bool.false_and, Bool.false_eq_true, if_false, Nat.add_zero]
      exact fb_ct_cong (fun v _ => by rw [fb_ct_succ, hq]; simp)
    | true =>
      obtain ⟨u, hu, hw⟩ := h n (by omega) hq
      have e1 : ∀ v, v < 16 → decide (0 < fb_ct (fun l => q l && decide (w l = nI v)) (n + 1)) = if v = u then true else decide (0 < fb_ct (fun l => q l && decide (w l = nI v)) n) := by
        intro v hv
        rw [fb_ct_succ, hq, hw]
        by_cases hvu : v = u
        · subst hvu; simp
        · have : ¬ nI u = nI v := fun q => hvu ((nI_eq (by omega) (by omega)).mp q).symm
          simp [hvu, this]
      rw [fb_ct_cong e1]
      have e2 := fb_ct_upd (fun v => decide (0 < fb_ct (fun l => q l && decide (w l = nI v)) n)) true hu
      rw [hw]
      by_cases hz : fb_ct (fun k => q k && decide (w k = nI u)) n = 0
      · simp only [hz, Nat.lt_irrefl, decide_false, Bool.false_eq_true, if_false, Nat.add_zero, if_true, decide_true, Bool.true_and] at e2 ⊢
        exact e2.symm
      · have hz' : 0 < fb_ct (fun k => q k && decide (w k = nI u)) n := by omega
        simp only [hz', decide_true, if_true, hz, decide_false, Bool.true_and, Bool.false_eq_true, if_false, Nat.add_zero] at e2 ⊢
        omega
section DESK4
variable {G : pd_G} {I : Nat → Nat → Int32} {L : Nat → Nat → Int64} {R : Nat → Nat → Option Nat} {cn nv ns nl : Nat} {e : List rl_S} {r : Nat → Int32}
theorem rW_lt {l : Nat} (h : ¬ rW r nv l = -1) : ∃ v, v < nv ∧ rW r nv l = nI v := by
  unfold rW i_find at h ⊢
  split at h
  · rename_i q
    rw [if_pos q]; exact ⟨_, q, rfl⟩
  · exact absurd rfl h
theorem rJ_first (b l : Nat) : decide (rJ r nv nl e b l = 0) = (rOk r nv nl e b l && decide (fb_ct (fun k => rOk r nv nl e b k && decide (rW r nv k = rW r nv l)) l = 0)) := by
  unfold rJ
  by_cases h : rH r nv e l = 0
  · rw [if_neg (fun q => q h)]
    by_cases hk : rK r nv nl e b (rSh r l).toNatClampNeg = true
    · rw [if_pos hk]; simp [rOk, hk]
    · rw [if_neg hk]
      have hk' : rK r nv nl e b (rSh r l).toNatClampNeg = false := by simpa using hk
      have ho : rOk r nv nl e b l = true := by simp [rOk, h, hk']
      rw [ho, Bool.true_and]
      split
      · rename_i q
        have : ¬ fb_ct (fun k => rOk r nv nl e b k && decide (rW r nv k = rW r nv l)) l = 0 := by omega
        simp [this]
      · rename_i q
        have : fb_ct (fun k => rOk r nv nl e b k && decide (rW r nv k = rW r nv l)) l = 0 := by omega
        simp [this]
  · rw [if_pos h]; simp [rOk, h]
/-- the true lines, some sheets being struck besides: a line for each voter that has a good one -/
theorem rJ_count (hr : Row r nv ns nl e) (b : Nat) : fb_ct (fun l => decide (rJ r nv nl e b l = 0)) nl = fb_ct (fun v => decide (0 < fb_ct (fun l => rOk r nv nl e b l && decide (rW r nv l = nI v)) nl)) 16 := by
  rw [← ct_firsts nl (fun l hl ho => ?_)]
  · exact fb_ct_cong (fun l _ => rJ_first b l)
  · obtain ⟨v, hv, h2⟩ := rW_lt (rOk_w ho)
    exact ⟨v, Nat.lt_of_lt_of_le hv hr.1.2, h2⟩
theorem rOk_bes (hr : Row r nv ns nl e) {b l s : Nat} (hl : rSh r l = nI s) (hs : s < 8) : rOk r nv nl e b l = (rOk r nv nl e 0 l && !b.testBit s) := by
  unfold rOk rK
  rw [hl, nI_clamp (by omega), Nat.zero_testBit]
  generalize decide (r (57 + s) = 1) = a1
  generalize decide (r 6 * nI (rN r nl s) < 100 * nI (rWr r nv nl e s)) = a2
  generalize decide (rH r nv e l = 0) = a3
  generalize b.testBit s = a4
  revert a1 a2 a3 a4; decide
theorem rVo_count (hr : Row r nv ns nl e) (m : Nat) : fb_ct (fun v => decide (0 < fb_ct (fun s => !m.testBit s && (rVo r nv nl e 0 s).testBit v) 8)) 16 = fb_ct (fun l => decide (rJ r nv nl e m l = 0)) nl := by
  rw [rJ_count hr]
  refine fb_ct_cong (fun v hv => decide_eq_decide.mpr ?_)
  rw [fb_ct_pos, fb_ct_pos]
  constructor
  · rintro ⟨s, hs, h⟩
    simp only [Bool.and_eq_true, rVo, bsum_bit, decide_eq_true_eq, fb_ct_pos] at h
    obtain ⟨h1, h2, l, hl, h3, h4, h5⟩ := h
    refine ⟨l, hl, ?_⟩
    rw [rOk_bes hr h4 hs, h3, h1]; simp [h5]
  · rintro ⟨l, hl, h⟩
    simp only [Bool.and_eq_true, decide_eq_true_eq] at h
    obtain ⟨s, hs, h4⟩ := hr.2.2.2.2.2.1 l hl
    have hs8 : s < 8 := Nat.lt_of_lt_of_le hs hr.2.1.2
    rw [rOk_bes hr h4 hs8, Bool.and_eq_true] at h
    refine ⟨s, hs8, ?_⟩
    simp only [Bool.and_eq_true, rVo, bsum_bit, decide_eq_true_eq, fb_ct_pos]
    exact ⟨h.1.2, hv, l, hl, h.1.1, h4, h.2⟩
def esV (r : Nat → Int32) (nv nl : Nat) (e : List rl_S) (w : Nat) (what : Int32) : Int64 := tmV (lN (nl * smG r nv nl e w * (smC r nl w - 1)) - lN (nl * (nl - 1) * smP r nv nl e w)) (lN (smC r nl w * (smC r nl w - 1))) what
theorem smP_le (h40 : nl ≤ 40) (w : Nat) : smP r nv nl e w ≤ 12480 := by
  refine Nat.le_trans (fb_sm_bound (c := 780) (fun v _ => ?_)) (by decide)
  have h : ∀ t, t ≤ 40 → pr2 t ≤ 780 := by decide
  exact h _ (Nat.le_trans (fb_ct_le _ _) h40)
theorem esV_b (h40 : nl ≤ 40) {w : Nat} : nl * smG r nv nl e w * (smC r nl w - 1) < 2 ^ 62 ∧ nl * (nl - 1) * smP r nv nl e w < 2 ^ 62 := by
  have h1 : smC r nl w ≤ nl := fb_ct_le _ _
  have h2 := smG_le (r := r) (nv := nv) (nl := nl) (e := e) w
  have h3 := smP_le (r := r) (nv := nv) (nl := nl) (e := e) h40 w
  constructor
  · have a1 : nl * smG r nv nl e w ≤ 40 * 40 := Nat.mul_le_mul h40 (by omega)
    have a2 : nl * smG r nv nl e w * (smC r nl w - 1) ≤ 40 * 40 * 40 := Nat.mul_le_mul a1 (by omega)
    omega
  · have a1 : nl * (nl - 1) ≤ 40 * 40 := Nat.mul_le_mul h40 (by omega)
    have a2 : nl * (nl - 1) * smP r nv nl e w ≤ 40 * 40 * 12480 := Nat.mul_le_mul a1 h3
    omega
theorem ev_X8_estimate (h : CN I L R cn r nv ns nl e) (x what : Int32) : pd_Ev G mi_X8_estimate 8 3 18 [.ref (pd_z G + 0), .int x, .int what] (SD, false, I, L, R) (q_x I L R (j2 9 (inR x 0 1 && inR what 0 1) 10 (decide (2 ≤ smC r nl x.toNatClampNeg))) (.long (esV r nv nl e x.toNatClampNeg what)) (KS I L R)) := by
  have hC := h
  obtain ⟨hR, hcn, hnow, hr, hp, hj, hT⟩ := h
  have hln := hC.lns
  have h40 := hC.l40
  refine pd_ev 12 (lo := [some (.ref (pd_z G + 0)), some (.int x), some (.int what), none, none, none, none, none, none, none, none, none, none, none, none]) (by decide +kernel) (Nat.le_of_ble_eq_true rfl) rfl ?_
  refine at_aload_n dX8_estimate_0 rfl ?_
  refine at_iload_n dX8_estimate_1 rfl ?_
  refine at_iconst dX8_estimate_2 pc_i0 ?_
  refine at_iconst dX8_estimate_3 pc_i1 ?_
  refine at_cs3 csX8_69 (ev_X8_isFrom x 0 1) (by decide) ⟨Nat.le_of_ble_eq_true rfl, Nat.le_of_ble_eq_true rfl⟩ (Nat.le_of_ble_eq_true rfl) dX8_estimate_4 (pd_k1 ?_)
  refine at_ifeq (tgt := 23) dX8_estimate_7 (by decide) (fun c7 => ?_) (fun c7 => ?_)
  · -- taken 7
    refine at_iconst dX8_estimate_23 pc_i0 ?_
    refine at_cv1 cvX8_73 sd_0 (ev_X8_requireArgument 0) (by decide) ⟨Nat.le_of_ble_eq_true rfl, Nat.le_of_ble_eq_true rfl⟩ (Nat.le_of_ble_eq_true rfl) dX8_estimate_24 (pd_kq rfl (fun _ => ?_) (fun q => absurd rfl q))
    first | exact q_no9 (by rw [i_of0.mp c7]; rfl) | exact q_no9 (by rw [i_of0.mp c16, Bool.and_false]; rfl)
  · -- not taken 7
    refine at_iload_n dX8_estimate_10 rfl ?_
    refine at_iconst dX8_estimate_11 pc_i0 ?_
    refine at_iconst dX8_estimate_12 pc_i1 ?_
    refine at_cs3 csX8_69 (ev_X8_isFrom what 0 1) (by decide) ⟨Nat.le_of_ble_eq_true rfl, Nat.le_of_ble_eq_true rfl⟩ (Nat.le_of_ble_eq_true rfl) dX8_estimate_13 (pd_k1 ?_)
    refine at_ifeq (tgt := 23) dX8_estimate_16 (by decide) (fun c16 => ?_) (fun c16 => ?_)
    · -- taken 16
      refine at_iconst dX8_estimate_23 pc_i0 ?_
      refine at_cv1 cvX8_73 sd_0 (ev_X8_requireArgument 0) (by decide) ⟨Nat.le_of_ble_eq_true rfl, Nat.le_of_ble_eq_true rfl⟩ (Nat.le_of_ble_eq_true rfl) dX8_estimate_24 (pd_kq rfl (fun _ => ?_) (fun q => absurd rfl q))
      first | exact q_no9 (by rw [i_of0.mp c7]; rfl) | exact q_no9 (by rw [i_of0.mp c16, Bool.and_false]; rfl)
    · -- not taken 16
      refine at_iconst dX8_estimate_19 pc_i1 ?_
      refine at_goto (tgt := 24) dX8_estimate_20 (by decide) ?_
      refine at_cv1 cvX8_73 sd_0 (ev_X8_requireArgument 1) (by decide) ⟨Nat.le_of_ble_eq_true rfl, Nat.le_of_ble_eq_true rfl⟩ (Nat.le_of_ble_eq_true rfl) dX8_estimate_24 (pd_kq rfl (fun q => absurd q (by decide)) (fun _ => ?_))
      have k7 := i_of1.mp c7
      obtain ⟨w, hw, hx⟩ := inR_of (n := 1) (by decide) k7
      have hcl : x.toNatClampNeg = w := by rw [hx, nI_clamp (by omega)]
      rw [hcl, k7, i_of1.mp c16]
      subst hx
      have hcC : smC r nl w ≤ nl := fb_ct_le _ _
      have hgC := smG_le (r := r) (nv := nv) (nl := nl) (e := e) w
      have hpC := smP_le (r := r) (nv := nv) (nl := nl) (e := e) h40 w
      refine at_aload_n dX8_estimate_27 rfl ?_
      refine at_iload_n dX8_estimate_28 rfl ?_
      refine at_cv1 cvX8_223 sd_0 (ev_X8_sampleOf hC (w := w) (by omega)) (by decide) ⟨Nat.le_of_ble_eq_true rfl, Nat.le_of_ble_eq_true rfl⟩ (Nat.le_of_ble_eq_true rfl) dX8_estimate_29 (pd_k1 ?_)
      refine at_lstore_n dX8_estimate_32 rfl (Nat.le_of_ble_eq_true rfl) ?_
      refine at_lload_n dX8_estimate_33 rfl ?_
      refine at_cs1 csX8_227 (ev_J13_bitCount (smN_lt r w)) (by decide) ⟨Nat.le_of_ble_eq_true rfl, Nat.le_of_ble_eq_true rfl⟩ (Nat.le_of_ble_eq_true rfl) dX8_estimate_34 (pd_k1 ?_)
      rw [smC_40 hr (by omega)]
      refine at_i2l dX8_estimate_37 ?_
      rw [nI_l (by omega)]
      refine at_lstore dX8_estimate_38 rfl (Nat.le_of_ble_eq_true rfl) ?_
      refine at_aload_n dX8_estimate_40 rfl ?_
      refine at_lload dX8_estimate_41 rfl ?_
      refine at_ldc2 coX8_245 dX8_estimate_43 ?_
      refine at_lcmp dX8_estimate_46 ?_
      refine at_iflt (tgt := 54) dX8_estimate_47 (by decide) (fun c47 => ?_) (fun c47 => ?_)
      · -- taken 47
        rw [lg_cmp_lt, show (2 : Int64) = lN 2 from rfl, lN_lt (by omega) (by decide)] at c47
        refine at_iconst dX8_estimate_54 pc_i0 ?_
        refine at_cv1 cvX8_131 sd_0 (ev_X8_requireState 0) (by decide) ⟨Nat.le_of_ble_eq_true rfl, Nat.le_of_ble_eq_true rfl⟩ (Nat.le_of_ble_eq_true rfl) dX8_estimate_55 (pd_kq rfl (fun _ => ?_) (fun q => absurd rfl q))
        exact q_no10 (by simp [j2, j1]; omega)
      · -- not taken 47
        rw [lg_cmp_lt, show (2 : Int64) = lN 2 from rfl, lN_lt (by omega) (by decide)] at c47
        refine at_iconst dX8_estimate_50 pc_i1 ?_
        refine at_goto (tgt := 55) dX8_estimate_51 (by decide) ?_
        refine at_cv1 cvX8_131 sd_0 (ev_X8_requireState 1) (by decide) ⟨Nat.le_of_ble_eq_true rfl, Nat.le_of_ble_eq_true rfl⟩ (Nat.le_of_ble_eq_true rfl) dX8_estimate_55 (pd_kq rfl (fun q => absurd q (by decide)) (fun _ => ?_))
        refine at_aload_n dX8_estimate_58 rfl ?_
        refine at_getr (cn) flX8_48 rfl sd_0 hnow dX8_estimate_59 ?_
        refine at_geti flX8_98 rfl (sd_P0 hcn) dX8_estimate_62 ?_
        refine at_i2l dX8_estimate_65 ?_
        rw [hln, nI_l (by omega)]
        refine at_lstore dX8_estimate_66 rfl (Nat.le_of_ble_eq_true rfl) ?_
        refine at_aload_n dX8_estimate_68 rfl ?_
        refine at_getr (18) flX8_30 rfl sd_0 (rs_0_2 hR) dX8_estimate_69 ?_
        refine at_lload_n dX8_estimate_72 rfl ?_
        refine at_cv1 cvX8_112 sd_18 (ev_X1_goodIn hR h40 hC.v16 hj (sm_hb h40)) (by decide) ⟨Nat.le_of_ble_eq_true rfl, Nat.le_of_ble_eq_true rfl⟩ (Nat.le_of_ble_eq_true rfl) dX8_estimate_73 (pd_k1 ?_)
        refine at_i2l dX8_estimate_76 ?_
        rw [show fb_ct (fun l => sm r w l && rOk r nv nl e 0 l) nl = smG r nv nl e w from rfl, nI_l (by omega)]
        refine at_lstore dX8_estimate_77 rfl (Nat.le_of_ble_eq_true rfl) ?_
        refine at_aload_n dX8_estimate_79 rfl ?_
        refine at_getr (18) flX8_30 rfl sd_0 (rs_0_2 hR) dX8_estimate_80 ?_
        refine at_lload_n dX8_estimate_83 rfl ?_
        refine at_cv1 cvX8_232 sd_18 (ev_X1_pairsIn hR h40 hC.v16 hj (sm_hb h40)) (by decide) ⟨Nat.le_of_ble_eq_true rfl, Nat.le_of_ble_eq_true rfl⟩ (Nat.le_of_ble_eq_true rfl) dX8_estimate_84 (pd_ki fun x I2 L2 h2 => ?_)
        obtain ⟨rfl, rfl, h2⟩ := h2
        refine at_i2l dX8_estimate_87 ?_
        rw [show fb_sm (fun v => pr2 (fb_ct (fun l => (sm r w l && rOk r nv nl e 0 l) && decide (rW r nv l = nI v)) nl)) 16 = smP r nv nl e w from rfl, nI_l (Nat.lt_of_le_of_lt hpC (by decide))]
        refine at_lstore dX8_estimate_88 rfl (Nat.le_of_ble_eq_true rfl) ?_
        refine at_lload dX8_estimate_90 rfl ?_
        refine at_lload dX8_estimate_92 rfl ?_
        refine at_lmul dX8_estimate_94 ?_
        refine at_lload dX8_estimate_95 rfl ?_
        refine at_lconst dX8_estimate_97 pc_l1 ?_
        refine at_lsub dX8_estimate_98 ?_
        refine at_lmul dX8_estimate_99 ?_
        refine at_lload dX8_estimate_100 rfl ?_
        refine at_lload dX8_estimate_102 rfl ?_
        refine at_lconst dX8_estimate_104 pc_l1 ?_
        refine at_lsub dX8_estimate_105 ?_
        refine at_lmul dX8_estimate_106 ?_
        refine at_lload dX8_estimate_107 rfl ?_
        refine at_lmul dX8_estimate_109 ?_
        refine at_lsub dX8_estimate_110 ?_
        refine at_lstore dX8_estimate_111 rfl (Nat.le_of_ble_eq_true rfl) ?_
        refine at_lload dX8_estimate_113 rfl ?_
        refine at_lload dX8_estimate_115 rfl ?_
        refine at_lload dX8_estimate_117 rfl ?_
        refine at_lconst dX8_estimate_119 pc_l1 ?_
        refine at_lsub dX8_estimate_120 ?_
        refine at_lmul dX8_estimate_121 ?_
        refine at_iload_n dX8_estimate_122 rfl ?_
        rw [show (lN (smC r nl w) - 1 : Int64) = lN (smC r nl w - 1) from lN_sub (b := 1) (by omega), show (lN nl - 1 : Int64) = lN (nl - 1) from lN_sub (b := 1) (by omega), lN_mul, lN_mul, lN_mul, lN_mul, lN_mul]
        refine at_cs3 csX8_247 (ev_X8_tm (by rw [lN_subT (esV_b h40).1 (esV_b (r := r) (nv := nv) (e := e) (w := w) h40).2]; have := (esV_b (r := r) (nv := nv) (e := e) (w := w) h40).2; omega) (tm_pos (Nat.mul_pos (by omega) (by omega)) (Nat.lt_of_le_of_lt (Nat.mul_le_mul (show smC r nl w ≤ 40 by omega) (show smC r nl w - 1 ≤ 40 by omega)) (by decide))) what) (by decide) ⟨Nat.le_of_ble_eq_true rfl, Nat.le_of_ble_eq_true rfl⟩ (Nat.le_of_ble_eq_true rfl) dX8_estimate_123 (pd_k1 ?_)
        refine at_lret rfl dX8_estimate_126 ?_
        exact q_yes (by simp [j2, j1]; omega) rfl ⟨h2, fun _ _ _ => rfl, rfl⟩
def ulS (r : Nat → Int32) (nv nl : Nat) (e : List rl_S) (w : Nat) : Nat := bS (fun l => sm r w l && rOk r nv nl e 0 l) (rW r nv) nl
def ulV (r : Nat → Int32) (nv nl : Nat) (e : List rl_S) (what : Int32) : Int32 := if ulS r nv nl e 0 &&& ulS r nv nl e 1 = 0 then -1 else (tmV (lN (pc16 (ulS r nv nl e 0) * pc16 (ulS r nv nl e 1))) (lN (pc16 (ulS r nv nl e 0 &&& ulS r nv nl e 1))) what).toInt32
theorem ulS_lt (w : Nat) : ulS r nv nl e w < 2 ^ 16 := bS_lt _ _ _
theorem ev_X8_unlike (h : CN I L R cn r nv ns nl e) (what : Int32) : pd_Ev G mi_X8_unlike 8 3 18 [.ref (pd_z G + 0), .int what] (SD, false, I, L, R) (q_x I L R (j1 9 (inR what 0 1)) (.int (ulV r nv nl e what)) (KS I L R)) := by
  have hC := h
  obtain ⟨hR, hcn, hnow, hr, hp, hj, hT⟩ := h
  have h40 := hC.l40
  obtain ⟨A, hA⟩ : ∃ A, A = ulS r nv nl e 0 := ⟨_, rfl⟩
  obtain ⟨B, hB⟩ : ∃ B, B = ulS r nv nl e 1 := ⟨_, rfl⟩
  have a1 : A < 2 ^ 16 := by rw [hA]; exact ulS_lt 0
  have b1 : B < 2 ^ 16 := by rw [hB]; exact ulS_lt 1
  have ab1 : A &&& B < 2 ^ 16 := Nat.lt_of_le_of_lt Nat.and_le_left a1
  have pa := pc16_le A
  have pb := pc16_le B
  have pab := pc16_le (A &&& B)
  have pm : pc16 A * pc16 B ≤ 16 * 16 := Nat.mul_le_mul pa pb
  refine pd_ev 3 (lo := [some (.ref (pd_z G + 0)), some (.int what), none, none, none]) (by decide +kernel) (Nat.le_of_ble_eq_true rfl) rfl ?_
  refine at_aload_n dX8_unlike_0 rfl ?_
  refine at_iload_n dX8_unlike_1 rfl ?_
  refine at_iconst dX8_unlike_2 pc_i0 ?_
  refine at_iconst dX8_unlike_3 pc_i1 ?_
  refine at_cs3 csX8_69 (ev_X8_isFrom what 0 1) (by decide) ⟨Nat.le_of_ble_eq_true rfl, Nat.le_of_ble_eq_true rfl⟩ (Nat.le_of_ble_eq_true rfl) dX8_unlike_4 (pd_k1 ?_)
  refine at_cv1 cvX8_73 sd_0 (ev_X8_requireArgument _) (by decide) ⟨Nat.le_of_ble_eq_true rfl, Nat.le_of_ble_eq_true rfl⟩ (Nat.le_of_ble_eq_true rfl) dX8_unlike_7 (pd_kq rfl (fun q7 => ?_) (fun q7 => ?_))
  · -- refused at 7
    exact q_no9 (by rw [i_of0.mp q7]; rfl)
  refine at_aload_n dX8_unlike_10 rfl ?_
  refine at_getr (18) flX8_30 rfl sd_0 (rs_0_2 hR) dX8_unlike_11 ?_
  refine at_aload_n dX8_unlike_14 rfl ?_
  refine at_getr (cn) flX8_48 rfl sd_0 hnow dX8_unlike_15 ?_
  refine at_getl flX8_105 rfl (sd_P0 hcn) dX8_unlike_18 ?_
  rw [hC.smp.1]
  refine at_cv1 cvX8_251 sd_18 (ev_X1_votersIn hR h40 hC.v16 hj (sm_hb h40)) (by decide) ⟨Nat.le_of_ble_eq_true rfl, Nat.le_of_ble_eq_true rfl⟩ (Nat.le_of_ble_eq_true rfl) dX8_unlike_21 (pd_k1 ?_)
  rw [show bS (fun l => sm r 0 l && rOk r nv nl e 0 l) (rW r nv) nl = A from hA.symm]
  refine at_istore_n dX8_unlike_24 rfl (Nat.le_of_ble_eq_true rfl) ?_
  refine at_aload_n dX8_unlike_25 rfl ?_
  refine at_getr (18) flX8_30 rfl sd_0 (rs_0_2 hR) dX8_unlike_26 ?_
  refine at_aload_n dX8_unlike_29 rfl ?_
  refine at_getr (cn) flX8_48 rfl sd_0 hnow dX8_unlike_30 ?_
  refine at_getl flX8_109 rfl (sd_P0 hcn) dX8_unlike_33 ?_
  rw [hC.smp.2]
  refine at_cv1 cvX8_251 sd_18 (ev_X1_votersIn hR h40 hC.v16 hj (sm_hb h40)) (by decide) ⟨Nat.le_of_ble_eq_true rfl, Nat.le_of_ble_eq_true rfl⟩ (Nat.le_of_ble_eq_true rfl) dX8_unlike_36 (pd_k1 ?_)
  rw [show bS (fun l => sm r 1 l && rOk r nv nl e 0 l) (rW r nv) nl = B from hB.symm]
  refine at_istore_n dX8_unlike_39 rfl (Nat.le_of_ble_eq_true rfl) ?_
  refine at_iload_n dX8_unlike_40 rfl ?_
  refine at_iload_n dX8_unlike_41 rfl ?_
  refine at_iand dX8_unlike_42 ?_
  rw [fa_and]
  refine at_cs1 csX8_254 (ev_J6_bitCount (Nat.lt_trans ab1 (by decide))) (by decide) ⟨Nat.le_of_ble_eq_true rfl, Nat.le_of_ble_eq_true rfl⟩ (Nat.le_of_ble_eq_true rfl) dX8_unlike_43 (pd_k1 ?_)
  rw [pc16_32 ab1]
  refine at_istore dX8_unlike_46 rfl (Nat.le_of_ble_eq_true rfl) ?_
  refine at_iload dX8_unlike_48 rfl ?_
  refine at_ifne (tgt := 55) dX8_unlike_50 (by decide) (fun c50 => ?_) (fun c50 => ?_)
  · -- taken 50
    rw [show nI (pc16 (A &&& B)) = 0 ↔ pc16 (A &&& B) = 0 from nI_eq (b := 0) (by omega) (by decide)] at c50
    refine at_iload_n dX8_unlike_55 rfl ?_
    refine at_cs1 csX8_254 (ev_J6_bitCount (Nat.lt_trans a1 (by decide))) (by decide) ⟨Nat.le_of_ble_eq_true rfl, Nat.le_of_ble_eq_true rfl⟩ (Nat.le_of_ble_eq_true rfl) dX8_unlike_56 (pd_k1 ?_)
    refine at_iload_n dX8_unlike_59 rfl ?_
    refine at_cs1 csX8_254 (ev_J6_bitCount (Nat.lt_trans b1 (by decide))) (by decide) ⟨Nat.le_of_ble_eq_true rfl, Nat.le_of_ble_eq_true rfl⟩ (Nat.le_of_ble_eq_true rfl) dX8_unlike_60 (pd_k1 ?_)
    rw [pc16_32 a1, pc16_32 b1]
    refine at_imul dX8_unlike_63 ?_
    rw [pk_mul]
    refine at_i2l dX8_unlike_64 ?_
    rw [nI_l (by omega)]
    refine at_iload dX8_unlike_65 rfl ?_
    refine at_i2l dX8_unlike_67 ?_
    rw [nI_l (by omega)]
    refine at_iload_n dX8_unlike_68 rfl ?_
    refine at_cs3 csX8_247 (ev_X8_tm (tm_nat (by omega)) (tm_pos (by omega) (by omega)) what) (by decide) ⟨Nat.le_of_ble_eq_true rfl, Nat.le_of_ble_eq_true rfl⟩ (Nat.le_of_ble_eq_true rfl) dX8_unlike_69 (pd_k1 ?_)
    refine at_l2i dX8_unlike_72 ?_
    refine at_iret rfl dX8_unlike_73 ?_
    refine q_yes (by rw [i_of1.mp q7]; rfl) ?_ KS.rf
    rw [ulV, ← hA, ← hB, if_neg (fun q => c50 ((pc16_0 ab1).mpr q))]
  · -- not taken 50
    rw [show nI (pc16 (A &&& B)) = 0 ↔ pc16 (A &&& B) = 0 from nI_eq (b := 0) (by omega) (by decide)] at c50
    refine at_iconst dX8_unlike_53 pc_im1 ?_
    refine at_iret rfl dX8_unlike_54 ?_
    refine q_yes (by rw [i_of1.mp q7]; rfl) ?_ KS.rf
    rw [ulV, ← hA, ← hB, if_pos ((pc16_0 ab1).mp c50)]
def unT (r : Nat → Int32) (nv nl : Nat) (e : List rl_S) (v : Nat) : Nat := fb_ct (fun l => rOk r nv nl e 0 l && decide (rW r nv l = nI v)) nl
theorem unT_le : fb_sm (unT r nv nl e) 16 ≤ nl := Nat.le_trans (sm_part nl) (fb_ct_le _ _)
def unV (r : Nat → Int32) (nv nl : Nat) (e : List rl_S) (n : Nat) (what : Int32) : Int64 := tmV (lN (wp (ch (nl - fb_sm (unT r nv nl e) 16)) (unT r nv nl e) 16 n)) (lN (ch nl n)) what
theorem m1_bit : ∀ i, i < 40 → ((-1 : Int64) >>> ((nI i).toInt64 &&& 63) &&& 1 = 1) := by decide +kernel
theorem ev_X8_unseen (h : CN I L R cn r nv ns nl e) (x what : Int32) : pd_Ev G mi_X8_unseen 8 3 18 [.ref (pd_z G + 0), .int x, .int what] (SD, false, I, L, R) (q_x I L R (j1 9 (inR x 0 (nI nl) && inR what 0 1)) (.long (unV r nv nl e x.toNatClampNeg what)) (KS I L R)) := by
  have hC := h
  obtain ⟨hR, hcn, hnow, hr, hp, hj, hT⟩ := h
  have hln := hC.lns
  have h40 := hC.l40
  have hne : cn ≠ 21 := by rcases hcn with rfl | ⟨i, hi, rfl⟩ <;> omega
  have hw1 := unT_le (r := r) (nv := nv) (nl := nl) (e := e)
  refine pd_ev 2 (lo := [some (.ref (pd_z G + 0)), some (.int x), some (.int what), none, none]) (by decide +kernel) (Nat.le_of_ble_eq_true rfl) rfl ?_
  refine at_aload_n dX8_unseen_0 rfl ?_
  refine at_iload_n dX8_unseen_1 rfl ?_
  refine at_iconst dX8_unseen_2 pc_i0 ?_
  refine at_aload_n dX8_unseen_3 rfl ?_
  refine at_getr (cn) flX8_48 rfl sd_0 hnow dX8_unseen_4 ?_
  refine at_geti flX8_98 rfl (sd_P0 hcn) dX8_unseen_7 ?_
  rw [hln]
  refine at_cs3 csX8_69 (ev_X8_isFrom x 0 (nI nl)) (by decide) ⟨Nat.le_of_ble_eq_true rfl, Nat.le_of_ble_eq_true rfl⟩ (Nat.le_of_ble_eq_true rfl) dX8_unseen_10 (pd_k1 ?_)
  refine at_ifeq (tgt := 29) dX8_unseen_13 (by decide) (fun c13 => ?_) (fun c13 => ?_)
  · -- taken 13
    refine at_iconst dX8_unseen_29 pc_i0 ?_
    refine at_cv1 cvX8_73 sd_0 (ev_X8_requireArgument 0) (by decide) ⟨Nat.le_of_ble_eq_true rfl, Nat.le_of_ble_eq_true rfl⟩ (Nat.le_of_ble_eq_true rfl) dX8_unseen_30 (pd_kq rfl (fun _ => ?_) (fun q => absurd rfl q))
    first | exact q_no9 (by rw [i_of0.mp c13]; rfl) | exact q_no9 (by rw [i_of0.mp c22, Bool.and_false]; rfl)
  · -- not taken 13
    refine at_iload_n dX8_unseen_16 rfl ?_
    refine at_iconst dX8_unseen_17 pc_i0 ?_
    refine at_iconst dX8_unseen_18 pc_i1 ?_
    refine at_cs3 csX8_69 (ev_X8_isFrom what 0 1) (by decide) ⟨Nat.le_of_ble_eq_true rfl, Nat.le_of_ble_eq_true rfl⟩ (Nat.le_of_ble_eq_true rfl) dX8_unseen_19 (pd_k1 ?_)
    refine at_ifeq (tgt := 29) dX8_unseen_22 (by decide) (fun c22 => ?_) (fun c22 => ?_)
    · -- taken 22
      refine at_iconst dX8_unseen_29 pc_i0 ?_
      refine at_cv1 cvX8_73 sd_0 (ev_X8_requireArgument 0) (by decide) ⟨Nat.le_of_ble_eq_true rfl, Nat.le_of_ble_eq_true rfl⟩ (Nat.le_of_ble_eq_true rfl) dX8_unseen_30 (pd_kq rfl (fun _ => ?_) (fun q => absurd rfl q))
      first | exact q_no9 (by rw [i_of0.mp c13]; rfl) | exact q_no9 (by rw [i_of0.mp c22, Bool.and_false]; rfl)
    · -- not taken 22
      refine at_iconst dX8_unseen_25 pc_i1 ?_
      refine at_goto (tgt := 30) dX8_unseen_26 (by decide) ?_
      refine at_cv1 cvX8_73 sd_0 (ev_X8_requireArgument 1) (by decide) ⟨Nat.le_of_ble_eq_true rfl, Nat.le_of_ble_eq_true rfl⟩ (Nat.le_of_ble_eq_true rfl) dX8_unseen_30 (pd_kq rfl (fun q => absurd q (by decide)) (fun _ => ?_))
      have k7 := i_of1.mp c13
      obtain ⟨n, hn, hx⟩ := inR_of (n := nl) (by omega) k7
      have hcl : x.toNatClampNeg = n := by rw [hx, nI_clamp (by omega)]
      rw [hcl, k7, i_of1.mp c22]
      subst hx
      refine at_aload_n dX8_unseen_33 rfl ?_
      refine at_getr (18) flX8_30 rfl sd_0 (rs_0_2 hR) dX8_unseen_34 ?_
      refine at_ldc2 coX8_258 dX8_unseen_37 ?_
      refine at_cv1 cvX8_260 sd_18 (ev_X1_tallyGood hR h40 hC.v16 hj (p := fun _ => true) (fun i hi => ⟨fun _ => rfl, fun _ => m1_bit i (by omega)⟩)) (by decide) ⟨Nat.le_of_ble_eq_true rfl, Nat.le_of_ble_eq_true rfl⟩ (Nat.le_of_ble_eq_true rfl) dX8_unseen_40 (pd_ke fun I2 L2 h2 => ?_)
      obtain ⟨rfl, h2⟩ := h2
      simp only [TInv, Bool.true_and] at h2
      refine at_aload_n dX8_unseen_43 rfl ?_
      refine at_getr (25) flX8_37 rfl sd_0 (rs_0_3 hR) dX8_unseen_44 ?_
      refine at_aload_n dX8_unseen_47 rfl ?_
      refine at_getr (18) flX8_30 rfl sd_0 (rs_0_2 hR) dX8_unseen_48 ?_
      refine at_getr (21) flX8_264 rfl sd_18 (rs_18_2 hR) dX8_unseen_51 ?_
      refine at_aload_n dX8_unseen_54 rfl ?_
      refine at_getr (cn) flX8_48 rfl sd_0 hnow dX8_unseen_55 ?_
      refine at_geti flX8_98 rfl (sd_P0 hcn) dX8_unseen_58 ?_
      refine at_iload_n dX8_unseen_61 rfl ?_
      rw [h2.1 cn hne, hln]
      refine at_cv3 cvX8_267 sd_25 (ev_X0_waysWithoutPair hR hT (t := unT r nv nl e) (fun v hv => ⟨h2.2 v hv, Nat.le_trans (fb_ct_le _ _) h40⟩) h40 hw1 (by omega)) (by decide) ⟨Nat.le_of_ble_eq_true rfl, Nat.le_of_ble_eq_true rfl⟩ (Nat.le_of_ble_eq_true rfl) dX8_unseen_62 (pd_kj fun x I3 L3 h3 => ?_)
      obtain ⟨rfl, rfl, h3⟩ := h3
      refine at_lstore_n dX8_unseen_65 rfl (Nat.le_of_ble_eq_true rfl) ?_
      refine at_lload_n dX8_unseen_66 rfl ?_
      refine at_aload_n dX8_unseen_67 rfl ?_
      refine at_getr (25) flX8_37 rfl sd_0 (rs_0_3 hR) dX8_unseen_68 ?_
      refine at_aload_n dX8_unseen_71 rfl ?_
      refine at_getr (cn) flX8_48 rfl sd_0 hnow dX8_unseen_72 ?_
      refine at_geti flX8_98 rfl (sd_P0 hcn) dX8_unseen_75 ?_
      refine at_iload_n dX8_unseen_78 rfl ?_
      rw [h2.1 cn hne, hln]
      refine at_cv2 cvX8_271 sd_25 (ev_X0_choose hR (fun n k hn hk => by rw [h3 26 (by decide)]; exact hT n k hn hk) h40 (by omega)) (by decide) ⟨Nat.le_of_ble_eq_true rfl, Nat.le_of_ble_eq_true rfl⟩ (Nat.le_of_ble_eq_true rfl) dX8_unseen_79 (pd_k1 ?_)
      refine at_iload_n dX8_unseen_82 rfl ?_
      refine at_cs3 csX8_247 (ev_X8_tm (tm_nat (Nat.lt_of_le_of_lt (Nat.le_trans (wp_le _ _ 16 n) (ch_le _ _)) (Nat.pow_lt_pow_right (by decide) (by omega)))) (tm_pos (ch_pos nl n hn) (Nat.lt_of_le_of_lt (ch_le _ _) (Nat.pow_lt_pow_right (by decide) (by omega)))) what) (by decide) ⟨Nat.le_of_ble_eq_true rfl, Nat.le_of_ble_eq_true rfl⟩ (Nat.le_of_ble_eq_true rfl) dX8_unseen_83 (pd_k1 ?_)
      refine at_lret rfl dX8_unseen_86 ?_
      exact q_yes rfl rfl ⟨h2.1, h3, rfl⟩
def fwF (p : Nat → Bool) : Nat → Nat → Int32
  | 0, _ => -1
  | k + 1, i => if p i then nI (i + 1) else fwF p k (i + 1)
theorem vd1 (n g : Nat) : vdV r nl n g = 1 ↔ r 3 ≤ nI (loB r nl n g) := by
  unfold vdV
  split
  · simp [*]
  · rename_i h
    split <;> simp [h] <;> decide
theorem lp_X8_fewest (h : CN I L R cn r nv ns nl e) : ∀ k i, i + k = nl → pd_At G mi_X8_fewest 8 3 18 0 0 2 [some (.ref (pd_z G + 0)), some (.int (nI (i + 1)))] [] (SD, false, I, L, R) (q_x I L R 0 (.int (fwF (fun n => decide (r 3 ≤ nI (loB r nl (n + 1) (n + 1)))) k i)) (KS I L R)) := by
  have hC := h
  obtain ⟨hR, hcn, hnow, hr, hp, hj, hT⟩ := h
  have hln := hC.lns
  have h40 := hC.l40
  intro k
  induction k with
  | zero =>
    intro i hi
    refine at_iload_n dX8_fewest_2 rfl ?_
    refine at_aload_n dX8_fewest_3 rfl ?_
    refine at_getr (cn) flX8_48 rfl sd_0 hnow dX8_fewest_4 ?_
    refine at_geti flX8_98 rfl (sd_P0 hcn) dX8_fewest_7 ?_
    rw [hln]
    refine at_icmpgt (tgt := 31) dX8_fewest_10 (by decide) (fun c10 => ?_) (fun c10 => ?_)
    · -- taken 10
      refine at_iconst dX8_fewest_31 pc_im1 ?_
      refine at_iret rfl dX8_fewest_32 ?_
      exact q_yes rfl rfl KS.rf
    · -- not taken 10
      exact absurd (nI_lt (by omega) (by omega)) c10
  | succ k ih =>
    intro i hi
    refine at_iload_n dX8_fewest_2 rfl ?_
    refine at_aload_n dX8_fewest_3 rfl ?_
    refine at_getr (cn) flX8_48 rfl sd_0 hnow dX8_fewest_4 ?_
    refine at_geti flX8_98 rfl (sd_P0 hcn) dX8_fewest_7 ?_
    rw [hln]
    refine at_icmpgt (tgt := 31) dX8_fewest_10 (by decide) (fun c10 => ?_) (fun c10 => ?_)
    · -- taken 10
      exact absurd c10 (nI_nlt (by omega) (by omega))
    · -- not taken 10
      refine at_aload_n dX8_fewest_13 rfl ?_
      refine at_iload_n dX8_fewest_14 rfl ?_
      refine at_iload_n dX8_fewest_15 rfl ?_
      refine at_cv2 cvX8_242 sd_0 (ev_X8_verdictOf hC (by omega) (Nat.le_refl _)) (by decide) ⟨Nat.le_of_ble_eq_true rfl, Nat.le_of_ble_eq_true rfl⟩ (Nat.le_of_ble_eq_true rfl) dX8_fewest_16 (pd_k1 ?_)
      refine at_iconst dX8_fewest_19 pc_i1 ?_
      refine at_icmpne (tgt := 25) dX8_fewest_20 (by decide) (fun c20 => ?_) (fun c20 => ?_)
      · -- taken 20
        rw [vd1] at c20
        refine at_inc dX8_fewest_25 rfl pc_i1 rfl (Nat.le_of_ble_eq_true rfl) ?_
        refine at_goto (tgt := 2) dX8_fewest_28 (by decide) ?_
        rw [nI_1]
        have h9 := ih (i + 1) (by omega)
        have e9 : fwF (fun n => decide (r 3 ≤ nI (loB r nl (n + 1) (n + 1)))) (k + 1) i = fwF (fun n => decide (r 3 ≤ nI (loB r nl (n + 1) (n + 1)))) k (i + 1) := by simp [fwF, c20]
        rw [e9]; exact h9
      · -- not taken 20
        rw [vd1] at c20
        refine at_iload_n dX8_fewest_23 rfl ?_
        refine at_iret rfl dX8_fewest_24 ?_
        refine q_yes rfl ?_ KS.rf
        simp [fwF, c20]
theorem ev_X8_fewest (h : CN I L R cn r nv ns nl e) : pd_Ev G mi_X8_fewest 8 3 18 [.ref (pd_z G + 0)] (SD, false, I, L, R) (q_x I L R 0 (.int (fwF (fun n => decide (r 3 ≤ nI (loB r nl (n + 1) (n + 1)))) nl 0)) (KS I L R)) := by
  refine pd_ev 1 (lo := [some (.ref (pd_z G + 0)), none]) (by decide +kernel) (Nat.le_of_ble_eq_true rfl) rfl ?_
  refine at_iconst dX8_fewest_0 pc_i1 ?_
  refine at_istore_n dX8_fewest_1 rfl (Nat.le_of_ble_eq_true rfl) ?_
  exact lp_X8_fewest (G := G) h nl 0 (by omega)
/-- the best of the first n sets -/
def xwB (ok : Nat → Bool) (f : Nat → Nat) : Nat → Option Nat
  | 0 => none
  | n + 1 => match xwB ok f n with
    | none => if ok n then some n else none
    | some b => if ok n && decide (f n < f b) then some n else some b
def xwOk (r : Nat → Int32) (nv ns nl : Nat) (e : List rl_S) (k : Int32) (m : Nat) : Bool := decide (nI (pc16 m) = k) && decide (m &&& bsum (rK r nv nl e 0) ns = 0)
def xwC (r : Nat → Int32) (nv nl : Nat) (e : List rl_S) (m : Nat) : Nat := fb_ct (fun l => decide (rJ r nv nl e m l = 0)) nl
def xwS (q : Option Nat) : Int32 := match q with
  | none => -1
  | some b => nI b
def xwT (f : Nat → Nat) (q : Option Nat) : Int32 := match q with
  | none => -1
  | some b => nI (f b)
def xwV (r : Nat → Int32) (nv ns nl : Nat) (e : List rl_S) (k what : Int32) : Int32 := if what = 0 then xwS (xwB (xwOk r nv ns nl e k) (xwC r nv nl e) (2 ^ ns)) else xwT (xwC r nv nl e) (xwB (xwOk r nv ns nl e k) (xwC r nv nl e) (2 ^ ns))
theorem nI_nm1 {n : Nat} (h : n < 2 ^ 31) : ¬ nI n = -1 := fun q => by
  have := congrArg Int32.toInt q
  rw [nI_toInt h] at this
  have e : (-1 : Int32).toInt = -1 := by decide
  omega
theorem xwB_lt (ok : Nat → Bool) (f : Nat → Nat) : ∀ n b, xwB ok f n = some b → b < n
  | 0, b, h => by cases h
  | n + 1, b, h => by
    unfold xwB at h
    split at h
    · split at h
      · cases h; omega
      · cases h
    · rename_i b' hb'
      have := xwB_lt ok f n b' hb'
      split at h
      · cases h; omega
      · cases h; omega
theorem xwC_le {m : Nat} : xwC r nv nl e m ≤ nl := fb_ct_le _ _
theorem lp_X8_worst (h : CN I L R cn r nv ns nl e) {x what : Int32} (hj1 : inR x 1 8 = true ∧ inR what 0 1 = true) : ∀ k i, i + k = 2 ^ ns → pd_At G mi_X8_worst 8 3 18 1 6 36 [some (.ref (pd_z G + 0)), some (.int x), some (.int what), some (.int (xwS (xwB (xwOk r nv ns nl e x) (xwC r nv nl e) i))), some (.int (xwT (xwC r nv nl e) (xwB (xwOk r nv ns nl e x) (xwC r nv nl e) i))), some (.int (nI i)), none] [] (SD, false, I, L, R) (q_x I L R (j1 9 (inR x 1 8 && inR what 0 1)) (.int (xwV r nv ns nl e x what)) (KS I L R)) := by
  have hC := h
  obtain ⟨hR, hcn, hnow, hr, hp, hj, hT⟩ := h
  have hs8 := hC.s8
  have h40 := hC.l40
  have hns : I cn 4 = nI ns := hp.1.2.1.trans hr.2.1.1
  have h256 : 2 ^ ns ≤ 2 ^ 8 := Nat.pow_le_pow_right (by decide) hs8
  have hsh : (1 : Int32) <<< (I cn 4 &&& 31) = nI (2 ^ ns) := by rw [hns]; exact i_sh1 ns (by omega)
  intro k
  induction k with
  | zero =>
    intro i hi
    have e0 : i = 2 ^ ns := by omega
    subst e0
    refine at_iload dX8_worst_36 rfl ?_
    refine at_iconst dX8_worst_38 pc_i1 ?_
    refine at_aload_n dX8_worst_39 rfl ?_
    refine at_getr (cn) flX8_48 rfl sd_0 hnow dX8_worst_40 ?_
    refine at_geti flX8_171 rfl (sd_P0 hcn) dX8_worst_43 ?_
    refine at_ishl dX8_worst_46 ?_
    rw [hsh]
    refine at_icmpge (tgt := 108) dX8_worst_47 (by decide) (fun c47 => ?_) (fun c47 => ?_)
    · -- taken 47
      refine at_iload_n dX8_worst_108 rfl ?_
      refine at_ifne (tgt := 116) dX8_worst_109 (by decide) (fun c109 => ?_) (fun c109 => ?_)
      · -- taken 109
        refine at_iload dX8_worst_116 rfl ?_
        refine at_iret rfl dX8_worst_118 ?_
        refine q_yes (by rw [hj1.1, hj1.2]; rfl) ?_ KS.rf
        simp [xwV, c109]
      · -- not taken 109
        refine at_iload_n dX8_worst_112 rfl ?_
        refine at_goto (tgt := 118) dX8_worst_113 (by decide) ?_
        refine at_iret rfl dX8_worst_118 ?_
        refine q_yes (by rw [hj1.1, hj1.2]; rfl) ?_ KS.rf
        simp [xwV, c109]
    · -- not taken 47
      exact absurd (nI_le (Nat.le_refl _) (by omega)) c47
  | succ k ih =>
    intro i hi
    have h := ih (i + 1) (by omega)
    have hi8 : i < 2 ^ 16 := by omega
    have hst : I 18 3 = nI (bsum (rK r nv nl e 0) ns) := hj.2.2.1
    have hab : i &&& bsum (rK r nv nl e 0) ns < 2 ^ 16 := Nat.lt_of_le_of_lt Nat.and_le_left hi8
    have e9 : ∀ {o' : Option Nat}, xwB (xwOk r nv ns nl e x) (xwC r nv nl e) (i + 1) = o' → pd_At G mi_X8_worst 8 3 18 1 6 36 [some (.ref (pd_z G + 0)), some (.int x), some (.int what), some (.int (xwS o')), some (.int (xwT (xwC r nv nl e) o')), some (.int (nI (i + 1))), none] [] (SD, false, I, L, R) (q_x I L R (j1 9 (inR x 1 8 && inR what 0 1)) (.int (xwV r nv ns nl e x what)) (KS I L R)) := fun q => by rw [← q]; exact h
    have eU : xwB (xwOk r nv ns nl e x) (xwC r nv nl e) (i + 1) = match xwB (xwOk r nv ns nl e x) (xwC r nv nl e) i with
      | none => if xwOk r nv ns nl e x i then some i else none
      | some b => if xwOk r nv ns nl e x i && decide (xwC r nv nl e i < xwC r nv nl e b) then some i else some b := rfl
    have hlt := fun b hb => xwB_lt (xwOk r nv ns nl e x) (xwC r nv nl e) i b hb
    have skip : xwOk r nv ns nl e x i = false → xwB (xwOk r nv ns nl e x) (xwC r nv nl e) (i + 1) = xwB (xwOk r nv ns nl e x) (xwC r nv nl e) i := fun q => by
      rw [eU, q]; cases xwB (xwOk r nv ns nl e x) (xwC r nv nl e) i <;> simp
    generalize xwB (xwOk r nv ns nl e x) (xwC r nv nl e) i = o at eU hlt skip ⊢
    have hok : nI (pc16 i) = x → nI i &&& nI (bsum (rK r nv nl e 0) ns) = 0 → xwOk r nv ns nl e x i = true := fun q1 q2 => by
      rw [fa_and] at q2
      have : i &&& bsum (rK r nv nl e 0) ns = 0 := (nI_eq (b := 0) (Nat.lt_trans hab (by decide)) (by decide)).mp q2
      simp [xwOk, q1, this]
    have hno : nI (pc16 i) = x → ¬ nI i &&& nI (bsum (rK r nv nl e 0) ns) = 0 → xwOk r nv ns nl e x i = false := fun q1 q2 => by
      rw [fa_and] at q2
      have : ¬ i &&& bsum (rK r nv nl e 0) ns = 0 := fun q => q2 (by rw [q]; rfl)
      simp [xwOk, this]
    skip
    refine at_iload dX8_worst_36 rfl ?_
    refine at_iconst dX8_worst_38 pc_i1 ?_
    refine at_aload_n dX8_worst_39 rfl ?_
    refine at_getr (cn) flX8_48 rfl sd_0 hnow dX8_worst_40 ?_
    refine at_geti flX8_171 rfl (sd_P0 hcn) dX8_worst_43 ?_
    refine at_ishl dX8_worst_46 ?_
    rw [hsh]
    refine at_icmpge (tgt := 108) dX8_worst_47 (by decide) (fun c47 => ?_) (fun c47 => ?_)
    · -- taken 47
      exact absurd c47 (nI_ge (by omega) (by omega))
    · -- not taken 47
      refine at_iload dX8_worst_50 rfl ?_
      refine at_cs1 csX8_254 (ev_J6_bitCount (Nat.lt_trans hi8 (by decide))) (by decide) ⟨Nat.le_of_ble_eq_true rfl, Nat.le_of_ble_eq_true rfl⟩ (Nat.le_of_ble_eq_true rfl) dX8_worst_52 (pd_k1 ?_)
      refine at_iload_n dX8_worst_55 rfl ?_
      rw [pc16_32 hi8]
      refine at_icmpne (tgt := 102) dX8_worst_56 (by decide) (fun c56 => ?_) (fun c56 => ?_)
      · -- taken 56
        have hn : xwOk r nv ns nl e x i = false := by simp [xwOk, c56]
        refine at_inc dX8_worst_102 rfl pc_i1 rfl (Nat.le_of_ble_eq_true rfl) ?_
        refine at_goto (tgt := 36) dX8_worst_105 (by decide) ?_
        rw [nI_1]
        first | exact e9 (skip hn) | exact at_drop 6 (e9 (skip hn)) | exact at_drop 6 (e9 (o' := some b) (by rw [eU, if_neg (by simp; omega)])) | exact at_drop 6 (e9 (o' := some i) (by rw [eU, if_pos (by simp; omega)]))
      · -- not taken 56
        refine at_iload dX8_worst_59 rfl ?_
        refine at_aload_n dX8_worst_61 rfl ?_
        refine at_getr (18) flX8_30 rfl sd_0 (rs_0_2 hR) dX8_worst_62 ?_
        refine at_geti flX8_189 rfl sd_18 dX8_worst_65 ?_
        rw [hst]
        refine at_iand dX8_worst_68 ?_
        refine at_ifne (tgt := 102) dX8_worst_69 (by decide) (fun c69 => ?_) (fun c69 => ?_)
        · -- taken 69
          have hn := hno c56 c69
          refine at_inc dX8_worst_102 rfl pc_i1 rfl (Nat.le_of_ble_eq_true rfl) ?_
          refine at_goto (tgt := 36) dX8_worst_105 (by decide) ?_
          rw [nI_1]
          first | exact e9 (skip hn) | exact at_drop 6 (e9 (skip hn)) | exact at_drop 6 (e9 (o' := some b) (by rw [eU, if_neg (by simp; omega)])) | exact at_drop 6 (e9 (o' := some i) (by rw [eU, if_pos (by simp; omega)]))
        · -- not taken 69
          have hn := hok c56 c69
          refine at_aload_n dX8_worst_72 rfl ?_
          refine at_getr (18) flX8_30 rfl sd_0 (rs_0_2 hR) dX8_worst_73 ?_
          refine at_iload dX8_worst_76 rfl ?_
          refine at_cv1 cvX8_274 sd_18 (ev_X1_trueWithout hR (f := rVo r nv nl e 0) (fun s hs => ⟨hj.2.2.2 s hs, bsum_lt _ _⟩) (by omega)) (by decide) ⟨Nat.le_of_ble_eq_true rfl, Nat.le_of_ble_eq_true rfl⟩ (Nat.le_of_ble_eq_true rfl) dX8_worst_78 (pd_k1 ?_)
          rw [rVo_count hr, show fb_ct (fun l => decide (rJ r nv nl e i l = 0)) nl = xwC r nv nl e i from rfl]
          refine at_istore dX8_worst_81 rfl (Nat.le_of_ble_eq_true rfl) ?_
          refine at_iload_n dX8_worst_83 rfl ?_
          refine at_iconst dX8_worst_84 pc_im1 ?_
          refine at_icmpeq (tgt := 95) dX8_worst_85 (by decide) (fun c85 => ?_) (fun c85 => ?_)
          · -- taken 85
            cases o with
            | none =>
              rw [hn] at eU
              refine at_iload dX8_worst_95 rfl ?_
              refine at_istore_n dX8_worst_97 rfl (Nat.le_of_ble_eq_true rfl) ?_
              refine at_iload dX8_worst_98 rfl ?_
              refine at_istore dX8_worst_100 rfl (Nat.le_of_ble_eq_true rfl) ?_
              refine at_inc dX8_worst_102 rfl pc_i1 rfl (Nat.le_of_ble_eq_true rfl) ?_
              refine at_goto (tgt := 36) dX8_worst_105 (by decide) ?_
              rw [nI_1]
              exact at_drop 6 (e9 (o' := some i) eU)
            | some b =>
              exact absurd c85 (by have := hlt b rfl; show ¬ nI b = -1; exact nI_nm1 (by omega))
          · -- not taken 85
            obtain ⟨b, hb⟩ : ∃ b, o = some b := by
              cases o with
              | none => exact absurd rfl c85
              | some b => exact ⟨b, rfl⟩
            subst hb
            simp only [hn, Bool.true_and] at eU
            refine at_iload dX8_worst_88 rfl ?_
            refine at_iload dX8_worst_90 rfl ?_
            refine at_icmpge (tgt := 102) dX8_worst_92 (by decide) (fun c92 => ?_) (fun c92 => ?_)
            · -- taken 92
              simp only [xwT, nI_leI (Nat.lt_of_le_of_lt xwC_le (show nl < 2 ^ 31 by omega)) (Nat.lt_of_le_of_lt xwC_le (show nl < 2 ^ 31 by omega))] at c92
              refine at_inc dX8_worst_102 rfl pc_i1 rfl (Nat.le_of_ble_eq_true rfl) ?_
              refine at_goto (tgt := 36) dX8_worst_105 (by decide) ?_
              rw [nI_1]
              first | exact e9 (skip hn) | exact at_drop 6 (e9 (skip hn)) | exact at_drop 6 (e9 (o' := some b) (by rw [eU, if_neg (by simp; omega)])) | exact at_drop 6 (e9 (o' := some i) (by rw [eU, if_pos (by simp; omega)]))
            · -- not taken 92
              simp only [xwT, nI_leI (Nat.lt_of_le_of_lt xwC_le (show nl < 2 ^ 31 by omega)) (Nat.lt_of_le_of_lt xwC_le (show nl < 2 ^ 31 by omega))] at c92
              refine at_iload dX8_worst_95 rfl ?_
              refine at_istore_n dX8_worst_97 rfl (Nat.le_of_ble_eq_true rfl) ?_
              refine at_iload dX8_worst_98 rfl ?_
              refine at_istore dX8_worst_100 rfl (Nat.le_of_ble_eq_true rfl) ?_
              refine at_inc dX8_worst_102 rfl pc_i1 rfl (Nat.le_of_ble_eq_true rfl) ?_
              refine at_goto (tgt := 36) dX8_worst_105 (by decide) ?_
              rw [nI_1]
              first | exact e9 (skip hn) | exact at_drop 6 (e9 (skip hn)) | exact at_drop 6 (e9 (o' := some b) (by rw [eU, if_neg (by simp; omega)])) | exact at_drop 6 (e9 (o' := some i) (by rw [eU, if_pos (by simp; omega)]))
theorem ev_X8_worst (h : CN I L R cn r nv ns nl e) (x what : Int32) : pd_Ev G mi_X8_worst 8 3 18 [.ref (pd_z G + 0), .int x, .int what] (SD, false, I, L, R) (q_x I L R (j1 9 (inR x 1 8 && inR what 0 1)) (.int (xwV r nv ns nl e x what)) (KS I L R)) := by
  have hC := h
  obtain ⟨hR, hcn, hnow, hr, hp, hj, hT⟩ := h
  refine pd_ev 4 (lo := [some (.ref (pd_z G + 0)), some (.int x), some (.int what), none, none, none, none]) (by decide +kernel) (Nat.le_of_ble_eq_true rfl) rfl ?_
  refine at_aload_n dX8_worst_0 rfl ?_
  refine at_iload_n dX8_worst_1 rfl ?_
  refine at_iconst dX8_worst_2 pc_i1 ?_
  refine at_bipush dX8_worst_3 pc_b8 ?_
  refine at_cs3 csX8_69 (ev_X8_isFrom x 1 8) (by decide) ⟨Nat.le_of_ble_eq_true rfl, Nat.le_of_ble_eq_true rfl⟩ (Nat.le_of_ble_eq_true rfl) dX8_worst_5 (pd_k1 ?_)
  refine at_ifeq (tgt := 24) dX8_worst_8 (by decide) (fun c8 => ?_) (fun c8 => ?_)
  · -- taken 8
    refine at_iconst dX8_worst_24 pc_i0 ?_
    refine at_cv1 cvX8_73 sd_0 (ev_X8_requireArgument 0) (by decide) ⟨Nat.le_of_ble_eq_true rfl, Nat.le_of_ble_eq_true rfl⟩ (Nat.le_of_ble_eq_true rfl) dX8_worst_25 (pd_kq rfl (fun _ => ?_) (fun q => absurd rfl q))
    first | exact q_no9 (by rw [i_of0.mp c8]; rfl) | exact q_no9 (by rw [i_of0.mp c17, Bool.and_false]; rfl)
  · -- not taken 8
    refine at_iload_n dX8_worst_11 rfl ?_
    refine at_iconst dX8_worst_12 pc_i0 ?_
    refine at_iconst dX8_worst_13 pc_i1 ?_
    refine at_cs3 csX8_69 (ev_X8_isFrom what 0 1) (by decide) ⟨Nat.le_of_ble_eq_true rfl, Nat.le_of_ble_eq_true rfl⟩ (Nat.le_of_ble_eq_true rfl) dX8_worst_14 (pd_k1 ?_)
    refine at_ifeq (tgt := 24) dX8_worst_17 (by decide) (fun c17 => ?_) (fun c17 => ?_)
    · -- taken 17
      refine at_iconst dX8_worst_24 pc_i0 ?_
      refine at_cv1 cvX8_73 sd_0 (ev_X8_requireArgument 0) (by decide) ⟨Nat.le_of_ble_eq_true rfl, Nat.le_of_ble_eq_true rfl⟩ (Nat.le_of_ble_eq_true rfl) dX8_worst_25 (pd_kq rfl (fun _ => ?_) (fun q => absurd rfl q))
      first | exact q_no9 (by rw [i_of0.mp c8]; rfl) | exact q_no9 (by rw [i_of0.mp c17, Bool.and_false]; rfl)
    · -- not taken 17
      refine at_iconst dX8_worst_20 pc_i1 ?_
      refine at_goto (tgt := 25) dX8_worst_21 (by decide) ?_
      refine at_cv1 cvX8_73 sd_0 (ev_X8_requireArgument 1) (by decide) ⟨Nat.le_of_ble_eq_true rfl, Nat.le_of_ble_eq_true rfl⟩ (Nat.le_of_ble_eq_true rfl) dX8_worst_25 (pd_kq rfl (fun q => absurd q (by decide)) (fun _ => ?_))
      refine at_iconst dX8_worst_28 pc_im1 ?_
      refine at_istore_n dX8_worst_29 rfl (Nat.le_of_ble_eq_true rfl) ?_
      refine at_iconst dX8_worst_30 pc_im1 ?_
      refine at_istore dX8_worst_31 rfl (Nat.le_of_ble_eq_true rfl) ?_
      refine at_iconst dX8_worst_33 pc_i0 ?_
      refine at_istore dX8_worst_34 rfl (Nat.le_of_ble_eq_true rfl) ?_
      exact lp_X8_worst (G := G) hC ⟨i_of1.mp c8, i_of1.mp c17⟩ (2 ^ ns) 0 (by omega)
end DESK4
