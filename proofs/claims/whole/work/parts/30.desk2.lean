/-! ===== the desk: voters, letters, sheets, lines ===== -/
theorem l_smod : ∀ s, s < 64 → (((nI s).toInt64 &&& 63).toBitVec.smod 64).toNat = s := by decide +kernel
theorem l_tb {x s : Nat} (hx : x < 2 ^ 62) (hs : s < 64) : lN x >>> ((nI s).toInt64 &&& 63) &&& 1 = lN (if x.testBit s then 1 else 0) := by
  rw [pf_shr (l_smod s hs) hx, g_and1 (Nat.lt_of_le_of_lt (Nat.div_le_self _ _) (by omega)), Nat.testBit_eq_decide_div_mod_eq]
  have := Nat.mod_two_eq_zero_or_one (x / 2 ^ s)
  rcases this with h | h <;> simp [h]
theorem l_tb1 {x s : Nat} (hx : x < 2 ^ 62) (hs : s < 64) : lN x >>> ((nI s).toInt64 &&& 63) &&& 1 = 1 ↔ x.testBit s = true := by
  rw [l_tb hx hs]
  cases x.testBit s <;> decide
def WOK (w : List Nat) : Prop := w ≠ [] ∧ w.length ≤ 5 ∧ ∀ x ∈ w, 1 ≤ x ∧ x ≤ 26
noncomputable def nmW (b : Int32) : List Nat := Classical.epsilon (fun w : List Nat => WOK w ∧ b = nI (n27 0 w))
theorem nmW_eq {w : List Nat} (h : WOK w) : nmW (nI (n27 0 w)) = w := by
  have hx : ∃ w', WOK w' ∧ nI (n27 0 w) = nI (n27 0 w') := ⟨w, h, rfl⟩
  obtain ⟨h1, h2⟩ := Classical.epsilon_spec hx
  show Classical.epsilon _ = w
  generalize Classical.epsilon (fun w' : List Nat => WOK w' ∧ nI (n27 0 w) = nI (n27 0 w')) = u at h1 h2 ⊢
  have q3 := n27_lt w 0 0 (by decide) h.2.2
  have q4 := n27_lt _ 0 0 (by decide) h1.2.2
  have p3 : (27 : Nat) ^ (0 + w.length) ≤ 27 ^ 5 := Nat.pow_le_pow_right (by decide) (by have := h.2.1; omega)
  have p4 : (27 : Nat) ^ (0 + u.length) ≤ 27 ^ 5 := Nat.pow_le_pow_right (by decide) (by have := h1.2.1; omega)
  exact (n27_inj _ w _ (Nat.le_refl _) h.2.2 h1.2.2 ((nI_eq (by omega) (by omega)).mp h2)).symm
theorem n32_get : ∀ (w : List Nat) (i : Nat), (∀ x ∈ w, 1 ≤ x ∧ x ≤ 26) → n32 w / 32 ^ i % 32 = w.getD i 0
  | [], i, _ => by simp [n32]
  | x :: w, 0, h => by
    have := h x List.mem_cons_self
    simp only [n32, Nat.pow_zero, Nat.div_one, List.getD_cons_zero]; omega
  | x :: w, i + 1, h => by
    have h1 := h x List.mem_cons_self
    have := n32_get w i (fun z hz => h z (List.mem_cons_of_mem _ hz))
    rw [n32, Nat.pow_succ, Nat.mul_comm (32 ^ i) 32, ← Nat.div_div_eq_div_mul, show (x + 32 * n32 w) / 32 = n32 w by omega, List.getD_cons_succ]
    exact this
theorem n32_at {w : List Nat} (h : WOK w) {i : Nat} (hi : i < 5) : nI (n32 w) >>> ((5 * nI i) &&& 31) &&& 31 = nI (w.getD i 0) := by
  have hl : n32 w < 32 ^ 5 := Nat.lt_of_lt_of_le (n32_lt w h.2.2) (Nat.pow_le_pow_right (by decide) h.2.1)
  have e1 : 5 * nI i = nI (5 * i) := pk_mul 5 i
  rw [e1, pk_shrN (Nat.lt_trans hl (by decide)) _ (5 * i) (i_smod (5 * i) (by omega)), pk_andN (Nat.lt_of_le_of_lt (Nat.div_le_self _ _) (Nat.lt_trans hl (by decide))) 5 (by decide), ← n32_get w i h.2.2]
  congr 2
  rw [show (2 : Nat) ^ (5 * i) = 32 ^ i by rw [show (32 : Nat) = 2 ^ 5 from rfl, ← Nat.pow_mul]]
theorem n32_len {w : List Nat} (h : WOK w) : i_len (nI (n32 w)) = w.length := by
  unfold i_len
  have key : ∀ k i, i + k = 5 → i ≤ w.length → pfirst (fun j => decide (¬ (nI (n32 w) >>> ((5 * nI j) &&& 31) &&& 31) = 0)) k i = w.length := by
    intro k
    induction k with
    | zero => intro i h1 h2; have := h.2.1; show i = _; omega
    | succ k ih =>
      intro i h1 h2
      have e := n32_at h (i := i) (by omega)
      by_cases hi : i < w.length
      · have hg : w.getD i 0 = w[i] := by rw [List.getD_eq_getElem?_getD, List.getElem?_eq_getElem hi]; rfl
        have hb := h.2.2 w[i] (List.getElem_mem hi)
        rw [pfirst_yes (by rw [e, hg]; simp only [decide_eq_true_eq]; exact nI_ne0 (by omega) (by omega)), ih (i + 1) (by omega) hi]
      · have hg : w.getD i 0 = 0 := by rw [List.getD_eq_getElem?_getD, List.getElem?_eq_none (by omega)]; rfl
        rw [pfirst_no (by rw [e, hg]; decide)]; omega
  exact key 5 0 (by omega) (Nat.zero_le _)
theorem i_mul64 (a b : Int32) : (a.toInt64 * b.toInt64).toInt32 = a * b := by
  rw [Int64.toInt32_mul, Int32.toInt32_toInt64, Int32.toInt32_toInt64]
section DESK2
variable {G : pd_G} {I : Nat → Nat → Int32} {L : Nat → Nat → Int64} {R : Nat → Nat → Option Nat} {cn nv ns nl : Nat} {e : List rl_S} {r : Nat → Int32}
def voV (r : Nat → Int32) (nv nl : Nat) (e : List rl_S) (v : Nat) (what : Int32) : Int32 := if what = 0 then r (10 + 3 * v) else if what = 1 then r (11 + 3 * v) else if what = 2 then nI (fb_ct (fun l => decide (rW r nv l = nI v)) nl) else nI (fb_ct (fun l => decide (rW r nv l = nI v) && decide (rJ r nv nl e 0 l = 0)) nl)
theorem ev_X8_voter (h : CN I L R cn r nv ns nl e) (x what : Int32) : pd_Ev G mi_X8_voter 8 3 18 [.ref (pd_z G + 0), .int x, .int what] (SD, false, I, L, R) (q_x I L R (j2 8 (isN x nv) 9 (inR what 0 3)) (.int (voV r nv nl e x.toNatClampNeg what)) (KS I L R)) := by
  have hC := h
  obtain ⟨hR, hcn, hnow, hr, hp, hj, hT⟩ := h
  have hv16 := hC.v16
  refine pd_ev 0 (lo := [some (.ref (pd_z G + 0)), some (.int x), some (.int what)]) (by decide +kernel) (Nat.le_of_ble_eq_true rfl) rfl ?_
  refine at_aload_n dX8_voter_0 rfl ?_
  refine at_aload_n dX8_voter_1 rfl ?_
  refine at_iload_n dX8_voter_2 rfl ?_
  refine at_cv1 cvX8_128 sd_0 (ev_X8_isVoter hC x) (by decide) ⟨Nat.le_of_ble_eq_true rfl, Nat.le_of_ble_eq_true rfl⟩ (Nat.le_of_ble_eq_true rfl) dX8_voter_3 (pd_k1 ?_)
  refine at_cv1 cvX8_119 sd_0 (ev_X8_requireFound _) (by decide) ⟨Nat.le_of_ble_eq_true rfl, Nat.le_of_ble_eq_true rfl⟩ (Nat.le_of_ble_eq_true rfl) dX8_voter_6 (pd_kq rfl (fun q6 => ?_) (fun q6 => ?_))
  · -- refused at 6
    exact q_no8 (by rw [i_of0.mp q6]; rfl)
  have k6 := i_of1.mp q6
  obtain ⟨v, hv, hx⟩ := isN_of (by omega) k6
  subst hx
  have hcl : (nI v).toNatClampNeg = v := nI_clamp (by omega)
  rw [k6, hcl]
  refine at_aload_n dX8_voter_9 rfl ?_
  refine at_iload_n dX8_voter_10 rfl ?_
  refine at_iconst dX8_voter_11 pc_i0 ?_
  refine at_iconst dX8_voter_12 pc_i3 ?_
  refine at_cs3 csX8_69 (ev_X8_isFrom what 0 3) (by decide) ⟨Nat.le_of_ble_eq_true rfl, Nat.le_of_ble_eq_true rfl⟩ (Nat.le_of_ble_eq_true rfl) dX8_voter_13 (pd_k1 ?_)
  refine at_cv1 cvX8_73 sd_0 (ev_X8_requireArgument _) (by decide) ⟨Nat.le_of_ble_eq_true rfl, Nat.le_of_ble_eq_true rfl⟩ (Nat.le_of_ble_eq_true rfl) dX8_voter_16 (pd_kq rfl (fun q16 => ?_) (fun q16 => ?_))
  · -- refused at 16
    exact q_no9 (by rw [i_of0.mp q16]; rfl)
  have k16 := i_of1.mp q16
  rw [k16]
  refine at_iload_n dX8_voter_19 rfl ?_
  by_cases s20_0 : what = 0
  · -- case 0
    subst s20_0
    refine at_tabIn (tgt := 48) (off := 28) dX8_voter_20 (by decide) (by decide) (by decide) (by decide) ?_
    refine at_aload_n dX8_voter_48 rfl ?_
    refine at_getr (cn) flX8_48 rfl sd_0 hnow dX8_voter_49 ?_
    refine at_getr (cn + 2) flX8_142 rfl (sd_P0 hcn) (rs_P2 hR hcn) dX8_voter_52 ?_
    refine at_iload_n dX8_voter_55 rfl ?_
    refine at_iald (sd_P2 hcn) (vp_in_nI (by omega) (by decide)) dX8_voter_56 ?_
    rw [hcl, (hp.2.1 v hv).2.1]
    refine at_iret rfl dX8_voter_57 ?_
    exact q_yes rfl rfl KS.rf
  by_cases s20_1 : what = 1
  · -- case 1
    subst s20_1
    refine at_tabIn (tgt := 58) (off := 38) dX8_voter_20 (by decide) (by decide) (by decide) (by decide) ?_
    refine at_aload_n dX8_voter_58 rfl ?_
    refine at_getr (cn) flX8_48 rfl sd_0 hnow dX8_voter_59 ?_
    refine at_getr (cn + 3) flX8_192 rfl (sd_P0 hcn) (rs_P3 hR hcn) dX8_voter_62 ?_
    refine at_iload_n dX8_voter_65 rfl ?_
    refine at_iald (sd_P3 hcn) (vp_in_nI (by omega) (by decide)) dX8_voter_66 ?_
    rw [hcl, (hp.2.1 v hv).2.2]
    refine at_iret rfl dX8_voter_67 ?_
    exact q_yes rfl rfl KS.rf
  by_cases s20_2 : what = 2
  · -- case 2
    subst s20_2
    refine at_tabIn (tgt := 68) (off := 48) dX8_voter_20 (by decide) (by decide) (by decide) (by decide) ?_
    refine at_aload_n dX8_voter_68 rfl ?_
    refine at_getr (18) flX8_30 rfl sd_0 (rs_0_2 hR) dX8_voter_69 ?_
    refine at_iload_n dX8_voter_72 rfl ?_
    refine at_cv1 cvX8_195 sd_18 (ev_X1_linesOf hR hC.l40 hj.1.1 (nI v)) (by decide) ⟨Nat.le_of_ble_eq_true rfl, Nat.le_of_ble_eq_true rfl⟩ (Nat.le_of_ble_eq_true rfl) dX8_voter_73 (pd_k1 ?_)
    refine at_iret rfl dX8_voter_76 ?_
    refine q_yes rfl ?_ KS.rf
    show _ = Value.int (nI _)
    congr 2
    exact fb_ct_cong (fun l hl => by rw [hj.1.2.1 l hl])
  refine at_tabOut (tgt := 77) dX8_voter_20 (by have a0 := ti_ne s20_0; have a1 := ti_ne s20_1; have a2 := ti_ne s20_2; simp only [show (0 : Int32).toInt = 0 by decide, show (1 : Int32).toInt = 1 by decide, show (2 : Int32).toInt = 2 by decide] at *; omega) (by decide) ?_
  refine at_aload_n dX8_voter_77 rfl ?_
  refine at_getr (18) flX8_30 rfl sd_0 (rs_0_2 hR) dX8_voter_78 ?_
  refine at_iload_n dX8_voter_81 rfl ?_
  refine at_cv1 cvX8_198 sd_18 (ev_X1_trueLinesOf hR hC.l40 hj.1.1 (nI v)) (by decide) ⟨Nat.le_of_ble_eq_true rfl, Nat.le_of_ble_eq_true rfl⟩ (Nat.le_of_ble_eq_true rfl) dX8_voter_82 (pd_k1 ?_)
  refine at_iret rfl dX8_voter_85 ?_
  refine q_yes rfl ?_ KS.rf
  unfold voV
  rw [if_neg s20_0, if_neg s20_1, if_neg s20_2]
  congr 2
  exact fb_ct_cong (fun l hl => by rw [hj.1.2.1 l hl, hj.2.1 l hl])
theorem ev_X8_letter (h : CN I L R cn r nv ns nl e) (x i : Int32) : pd_Ev G mi_X8_letter 8 3 18 [.ref (pd_z G + 0), .int x, .int i] (SD, false, I, L, R) (q_x I L R (j1 8 (isN x nv && isN i (nmW (r (9 + 3 * x.toNatClampNeg))).length)) (.int (nI (96 + (nmW (r (9 + 3 * x.toNatClampNeg))).getD i.toNatClampNeg 0))) (KS I L R)) := by
  have hC := h
  obtain ⟨hR, hcn, hnow, hr, hp, hj, hT⟩ := h
  have hv16 := hC.v16
  refine pd_ev 0 (lo := [some (.ref (pd_z G + 0)), some (.int x), some (.int i)]) (by decide +kernel) (Nat.le_of_ble_eq_true rfl) rfl ?_
  refine at_aload_n dX8_letter_0 rfl ?_
  refine at_aload_n dX8_letter_1 rfl ?_
  refine at_iload_n dX8_letter_2 rfl ?_
  refine at_cv1 cvX8_128 sd_0 (ev_X8_isVoter hC x) (by decide) ⟨Nat.le_of_ble_eq_true rfl, Nat.le_of_ble_eq_true rfl⟩ (Nat.le_of_ble_eq_true rfl) dX8_letter_3 (pd_k1 ?_)
  refine at_ifeq (tgt := 33) dX8_letter_6 (by decide) (fun c6 => ?_) (fun c6 => ?_)
  · -- taken 6
    have kk := i_of0.mp c6
    refine at_iconst dX8_letter_33 pc_i0 ?_
    refine at_cv1 cvX8_119 sd_0 (ev_X8_requireFound 0) (by decide) ⟨Nat.le_of_ble_eq_true rfl, Nat.le_of_ble_eq_true rfl⟩ (Nat.le_of_ble_eq_true rfl) dX8_letter_34 (pd_kq rfl (fun _ => ?_) (fun q => absurd rfl q))
    first | exact q_no8 (by rw [kk]; rfl) | exact q_no8 (by rw [isN_a c10]; rfl) | exact q_no8 (by rw [isN_b c26]; rfl)
  · -- not taken 6
    have k6 := i_of1.mp c6
    obtain ⟨v, hv, hx⟩ := isN_of (by omega) k6
    subst hx
    have hcl : (nI v).toNatClampNeg = v := nI_clamp (by omega)
    rw [k6, hcl]
    obtain ⟨w, w1, w2, w3, w4, w5⟩ := (hp.2.1 v hv).1
    have hW : WOK w := ⟨w1, w2, w3⟩
    rw [w5, nmW_eq hW]
    have hin : vp_in (nI v) 16 := vp_in_nI (by omega) (by decide)
    refine at_iload_n dX8_letter_9 rfl ?_
    refine at_iflt (tgt := 33) dX8_letter_10 (by decide) (fun c10 => ?_) (fun c10 => ?_)
    · -- taken 10
      refine at_iconst dX8_letter_33 pc_i0 ?_
      refine at_cv1 cvX8_119 sd_0 (ev_X8_requireFound 0) (by decide) ⟨Nat.le_of_ble_eq_true rfl, Nat.le_of_ble_eq_true rfl⟩ (Nat.le_of_ble_eq_true rfl) dX8_letter_34 (pd_kq rfl (fun _ => ?_) (fun q => absurd rfl q))
      first | exact q_no8 (by rw [kk]; rfl) | exact q_no8 (by rw [isN_a c10]; rfl) | exact q_no8 (by rw [isN_b c26]; rfl)
    · -- not taken 10
      refine at_iload_n dX8_letter_13 rfl ?_
      refine at_aload_n dX8_letter_14 rfl ?_
      refine at_getr (cn) flX8_48 rfl sd_0 hnow dX8_letter_15 ?_
      refine at_getr (cn + 1) flX8_138 rfl (sd_P0 hcn) (rs_P1 hR hcn) dX8_letter_18 ?_
      refine at_iload_n dX8_letter_21 rfl ?_
      refine at_iald (sd_P1 hcn) (hin) dX8_letter_22 ?_
      rw [hcl, w4]
      refine at_cs1 csX8_201 (ev_X2_length _) (by decide) ⟨Nat.le_of_ble_eq_true rfl, Nat.le_of_ble_eq_true rfl⟩ (Nat.le_of_ble_eq_true rfl) dX8_letter_23 (pd_k1 ?_)
      rw [n32_len hW]
      refine at_icmpge (tgt := 33) dX8_letter_26 (by decide) (fun c26 => ?_) (fun c26 => ?_)
      · -- taken 26
        refine at_iconst dX8_letter_33 pc_i0 ?_
        refine at_cv1 cvX8_119 sd_0 (ev_X8_requireFound 0) (by decide) ⟨Nat.le_of_ble_eq_true rfl, Nat.le_of_ble_eq_true rfl⟩ (Nat.le_of_ble_eq_true rfl) dX8_letter_34 (pd_kq rfl (fun _ => ?_) (fun q => absurd rfl q))
        first | exact q_no8 (by rw [kk]; rfl) | exact q_no8 (by rw [isN_a c10]; rfl) | exact q_no8 (by rw [isN_b c26]; rfl)
      · -- not taken 26
        refine at_iconst dX8_letter_29 pc_i1 ?_
        refine at_goto (tgt := 34) dX8_letter_30 (by decide) ?_
        refine at_cv1 cvX8_119 sd_0 (ev_X8_requireFound 1) (by decide) ⟨Nat.le_of_ble_eq_true rfl, Nat.le_of_ble_eq_true rfl⟩ (Nat.le_of_ble_eq_true rfl) dX8_letter_34 (pd_kq rfl (fun q => absurd q (by decide)) (fun _ => ?_))
        obtain ⟨k, hk, hx⟩ := isN_of (by omega) (isN_c c10 c26)
        subst hx
        refine at_aload_n dX8_letter_37 rfl ?_
        refine at_getr (cn) flX8_48 rfl sd_0 hnow dX8_letter_38 ?_
        refine at_getr (cn + 1) flX8_138 rfl (sd_P0 hcn) (rs_P1 hR hcn) dX8_letter_41 ?_
        refine at_iload_n dX8_letter_44 rfl ?_
        refine at_iald (sd_P1 hcn) (hin) dX8_letter_45 ?_
        rw [hcl, w4]
        refine at_iload_n dX8_letter_46 rfl ?_
        refine at_cs2 csX8_206 (ev_X2_letterAt _ _) (by decide) ⟨Nat.le_of_ble_eq_true rfl, Nat.le_of_ble_eq_true rfl⟩ (Nat.le_of_ble_eq_true rfl) dX8_letter_47 (pd_k1 ?_)
        refine at_iret rfl dX8_letter_50 ?_
        refine q_yes (by rw [isN_c c10 c26]; rfl) ?_ KS.rf
        rw [n32_at hW (by omega), nI_clamp (by omega), show (96 : Int32) = nI 96 from rfl, nI_add, Nat.add_comm]
def shV (r : Nat → Int32) (nv nl : Nat) (e : List rl_S) (s : Nat) (what : Int32) : Int32 := if what = 0 then nI (rN r nl s) else if what = 1 then i_of (rK r nv nl e 0 s) else if what = 2 then r (57 + s) else nI (fb_ct (fun l => decide (rSh r l = nI s) && decide (rJ r nv nl e 0 l = what - 3)) nl)
theorem CN.hand (h : CN I L R cn r nv ns nl e) {s : Nat} (hs : s < 8) : i_bit (I cn 5) (nI s) = r (57 + s) := by
  obtain ⟨hR, hcn, hnow, hr, hp, hj, hT⟩ := h
  unfold i_bit
  rw [hp.2.2.2.1, i_tb (Nat.lt_trans (bsum_lt _ _) (by decide)) (by omega), bsum_bit]
  rcases hr.2.2.2.2.2.2.2.1 s hs with q | q <;> simp [q, hs, i_of]
theorem ev_X8_sheet (h : CN I L R cn r nv ns nl e) (x what : Int32) : pd_Ev G mi_X8_sheet 8 3 18 [.ref (pd_z G + 0), .int x, .int what] (SD, false, I, L, R) (q_x I L R (j2 8 (isN x ns) 9 (inR what 0 8)) (.int (shV r nv nl e x.toNatClampNeg what)) (KS I L R)) := by
  have hC := h
  obtain ⟨hR, hcn, hnow, hr, hp, hj, hT⟩ := h
  have hs8 := hC.s8
  have h40 := hC.l40
  refine pd_ev 2 (lo := [some (.ref (pd_z G + 0)), some (.int x), some (.int what), none, none]) (by decide +kernel) (Nat.le_of_ble_eq_true rfl) rfl ?_
  refine at_aload_n dX8_sheet_0 rfl ?_
  refine at_aload_n dX8_sheet_1 rfl ?_
  refine at_iload_n dX8_sheet_2 rfl ?_
  refine at_cv1 cvX8_116 sd_0 (ev_X8_isSheet hC x) (by decide) ⟨Nat.le_of_ble_eq_true rfl, Nat.le_of_ble_eq_true rfl⟩ (Nat.le_of_ble_eq_true rfl) dX8_sheet_3 (pd_k1 ?_)
  refine at_cv1 cvX8_119 sd_0 (ev_X8_requireFound _) (by decide) ⟨Nat.le_of_ble_eq_true rfl, Nat.le_of_ble_eq_true rfl⟩ (Nat.le_of_ble_eq_true rfl) dX8_sheet_6 (pd_kq rfl (fun q6 => ?_) (fun q6 => ?_))
  · -- refused at 6
    exact q_no8 (by rw [i_of0.mp q6]; rfl)
  have k6 := i_of1.mp q6
  obtain ⟨s, hs, hx⟩ := isN_of (by omega) k6
  subst hx
  have hcl : (nI s).toNatClampNeg = s := nI_clamp (by omega)
  rw [k6, hcl]
  have f1 := rFo_succ hr (s := s) (by omega)
  have f2 := rFo_le (r := r) (nl := nl) (s + 1)
  refine at_aload_n dX8_sheet_9 rfl ?_
  refine at_iload_n dX8_sheet_10 rfl ?_
  refine at_iconst dX8_sheet_11 pc_i0 ?_
  refine at_bipush dX8_sheet_12 pc_b8 ?_
  refine at_cs3 csX8_69 (ev_X8_isFrom what 0 8) (by decide) ⟨Nat.le_of_ble_eq_true rfl, Nat.le_of_ble_eq_true rfl⟩ (Nat.le_of_ble_eq_true rfl) dX8_sheet_14 (pd_k1 ?_)
  refine at_cv1 cvX8_73 sd_0 (ev_X8_requireArgument _) (by decide) ⟨Nat.le_of_ble_eq_true rfl, Nat.le_of_ble_eq_true rfl⟩ (Nat.le_of_ble_eq_true rfl) dX8_sheet_17 (pd_kq rfl (fun q17 => ?_) (fun q17 => ?_))
  · -- refused at 17
    exact q_no9 (by rw [i_of0.mp q17]; rfl)
  have k17 := i_of1.mp q17
  rw [k17]
  refine at_aload_n dX8_sheet_20 rfl ?_
  refine at_getr (cn) flX8_48 rfl sd_0 hnow dX8_sheet_21 ?_
  refine at_iload_n dX8_sheet_24 rfl ?_
  refine at_cv1 cvX8_156 (sd_P0 hcn) (ev_X3_firstOf hR hcn hC.lns hC.l40 (nI s)) (by decide) ⟨Nat.le_of_ble_eq_true rfl, Nat.le_of_ble_eq_true rfl⟩ (Nat.le_of_ble_eq_true rfl) dX8_sheet_25 (pd_k1 ?_)
  rw [hC.first]
  refine at_istore_n dX8_sheet_28 rfl (Nat.le_of_ble_eq_true rfl) ?_
  refine at_aload_n dX8_sheet_29 rfl ?_
  refine at_getr (cn) flX8_48 rfl sd_0 hnow dX8_sheet_30 ?_
  refine at_iload_n dX8_sheet_33 rfl ?_
  refine at_iconst dX8_sheet_34 pc_i1 ?_
  refine at_iadd dX8_sheet_35 ?_
  rw [nI_1]
  refine at_cv1 cvX8_156 (sd_P0 hcn) (ev_X3_firstOf hR hcn hC.lns hC.l40 (nI (s + 1))) (by decide) ⟨Nat.le_of_ble_eq_true rfl, Nat.le_of_ble_eq_true rfl⟩ (Nat.le_of_ble_eq_true rfl) dX8_sheet_36 (pd_k1 ?_)
  rw [hC.first]
  refine at_istore dX8_sheet_39 rfl (Nat.le_of_ble_eq_true rfl) ?_
  refine at_iload_n dX8_sheet_41 rfl ?_
  by_cases s42_0 : what = 0
  · -- case 0
    subst s42_0
    refine at_tabIn (tgt := 68) (off := 26) dX8_sheet_42 (by decide) (by decide) (by decide) (by decide) ?_
    refine at_iload dX8_sheet_68 rfl ?_
    refine at_iload_n dX8_sheet_70 rfl ?_
    refine at_isub dX8_sheet_71 ?_
    refine at_iret rfl dX8_sheet_72 ?_
    refine q_yes rfl ?_ KS.rf
    rw [pk_sub (by omega)]
    show Value.int (nI _) = Value.int (nI (rN r nl s))
    congr 2
    omega
  by_cases s42_1 : what = 1
  · -- case 1
    subst s42_1
    refine at_tabIn (tgt := 73) (off := 31) dX8_sheet_42 (by decide) (by decide) (by decide) (by decide) ?_
    refine at_aload_n dX8_sheet_73 rfl ?_
    refine at_getr (18) flX8_30 rfl sd_0 (rs_0_2 hR) dX8_sheet_74 ?_
    refine at_geti flX8_189 rfl sd_18 dX8_sheet_77 ?_
    refine at_iload_n dX8_sheet_80 rfl ?_
    refine at_ishr dX8_sheet_81 ?_
    refine at_iconst dX8_sheet_82 pc_i1 ?_
    refine at_iand dX8_sheet_83 ?_
    refine at_iret rfl dX8_sheet_84 ?_
    refine q_yes rfl ?_ KS.rf
    rw [hj.2.2.1, i_tb (Nat.lt_of_lt_of_le (bsum_lt _ _) (Nat.pow_le_pow_right (by decide) (by omega))) (by omega), bsum_bit]
    simp [hs, shV]
  by_cases s42_2 : what = 2
  · -- case 2
    subst s42_2
    refine at_tabIn (tgt := 85) (off := 43) dX8_sheet_42 (by decide) (by decide) (by decide) (by decide) ?_
    refine at_aload_n dX8_sheet_85 rfl ?_
    refine at_getr (cn) flX8_48 rfl sd_0 hnow dX8_sheet_86 ?_
    refine at_iload_n dX8_sheet_89 rfl ?_
    refine at_cv1 cvX8_122 (sd_P0 hcn) (ev_X3_isByHand hcn (nI s)) (by decide) ⟨Nat.le_of_ble_eq_true rfl, Nat.le_of_ble_eq_true rfl⟩ (Nat.le_of_ble_eq_true rfl) dX8_sheet_90 (pd_k1 ?_)
    rw [hC.hand (by omega)]
    refine at_ifeq (tgt := 100) dX8_sheet_93 (by decide) (fun c93 => ?_) (fun c93 => ?_)
    · -- taken 93
      refine at_iconst dX8_sheet_100 pc_i0 ?_
      refine at_iret rfl dX8_sheet_101 ?_
      refine q_yes rfl ?_ KS.rf
      rcases hr.2.2.2.2.2.2.2.1 s (by omega) with q | q
      all_goals first | exact absurd q c93 | exact absurd (q.symm.trans c93) (by decide) | (simp [shV, q]; done)
    · -- not taken 93
      refine at_iconst dX8_sheet_96 pc_i1 ?_
      refine at_goto (tgt := 101) dX8_sheet_97 (by decide) ?_
      refine at_iret rfl dX8_sheet_101 ?_
      refine q_yes rfl ?_ KS.rf
      rcases hr.2.2.2.2.2.2.2.1 s (by omega) with q | q
      all_goals first | exact absurd q c93 | exact absurd (q.symm.trans c93) (by decide) | (simp [shV, q]; done)
  refine at_tabOut (tgt := 102) dX8_sheet_42 (by have a0 := ti_ne s42_0; have a1 := ti_ne s42_1; have a2 := ti_ne s42_2; simp only [show (0 : Int32).toInt = 0 by decide, show (1 : Int32).toInt = 1 by decide, show (2 : Int32).toInt = 2 by decide] at *; omega) (by decide) ?_
  refine at_aload_n dX8_sheet_102 rfl ?_
  refine at_getr (18) flX8_30 rfl sd_0 (rs_0_2 hR) dX8_sheet_103 ?_
  refine at_iload_n dX8_sheet_106 rfl ?_
  refine at_iconst dX8_sheet_107 pc_i3 ?_
  refine at_isub dX8_sheet_108 ?_
  refine at_iload_n dX8_sheet_109 rfl ?_
  refine at_iload dX8_sheet_110 rfl ?_
  refine at_cv3 cvX8_210 sd_18 (ev_X1_countJudged hR h40 hj.1.1 (what - 3) (f := rFo r nl s) (b := rFo r nl (s + 1)) f2 (by omega)) (by decide) ⟨Nat.le_of_ble_eq_true rfl, Nat.le_of_ble_eq_true rfl⟩ (Nat.le_of_ble_eq_true rfl) dX8_sheet_112 (pd_k1 ?_)
  refine at_iret rfl dX8_sheet_115 ?_
  refine q_yes rfl ?_ KS.rf
  unfold shV
  rw [if_neg s42_0, if_neg s42_1, if_neg s42_2, ← rFo_ct hr (by omega) (fun l => decide (rJ r nv nl e 0 l = what - 3))]
  congr 2
  exact fb_ct_cong (fun l hl => by rw [hj.2.1 _ (by omega)])
def lnV (r : Nat → Int32) (nv nl : Nat) (e : List rl_S) (i : Nat) (what : Int32) : Int32 := if what = 0 then r (66 + 4 * i) else if what = 1 then r (68 + 4 * i) else if what = 2 then rW r nv i else if what = 3 then rJ r nv nl e 0 i else if what = 4 then i_of (sm r 0 i) else i_of (sm r 1 i)
theorem sm_bit {w l : Nat} (hl : l < 40) : (smN r w).testBit l = sm r w l := by rw [smN, bsum_bit]; simp [hl]
theorem sm_i {w l : Nat} (hl : l < 40) : (lN (smN r w) >>> ((nI l).toInt64 &&& 63) &&& 1).toInt32 = i_of (sm r w l) := by
  rw [l_tb (Nat.lt_trans (smN_lt r w) (by decide)) (by omega), sm_bit hl]
  cases sm r w l <;> decide
theorem ev_X8_line (h : CN I L R cn r nv ns nl e) (x y what : Int32) : pd_Ev G mi_X8_line 8 3 18 [.ref (pd_z G + 0), .int x, .int y, .int what] (SD, false, I, L, R) (q_x I L R (j2 8 (isN x ns && isN y (rN r nl x.toNatClampNeg)) 9 (inR what 0 5)) (.int (lnV r nv nl e (rFo r nl x.toNatClampNeg + y.toNatClampNeg) what)) (KS I L R)) := by
  have hC := h
  obtain ⟨hR, hcn, hnow, hr, hp, hj, hT⟩ := h
  have hs8 := hC.s8
  have h40 := hC.l40
  refine pd_ev 1 (lo := [some (.ref (pd_z G + 0)), some (.int x), some (.int y), some (.int what), none]) (by decide +kernel) (Nat.le_of_ble_eq_true rfl) rfl ?_
  refine at_aload_n dX8_line_0 rfl ?_
  refine at_aload_n dX8_line_1 rfl ?_
  refine at_iload_n dX8_line_2 rfl ?_
  refine at_iload_n dX8_line_3 rfl ?_
  refine at_cv2 cvX8_152 sd_0 (ev_X8_isLine hC x y) (by decide) ⟨Nat.le_of_ble_eq_true rfl, Nat.le_of_ble_eq_true rfl⟩ (Nat.le_of_ble_eq_true rfl) dX8_line_4 (pd_k1 ?_)
  refine at_cv1 cvX8_119 sd_0 (ev_X8_requireFound _) (by decide) ⟨Nat.le_of_ble_eq_true rfl, Nat.le_of_ble_eq_true rfl⟩ (Nat.le_of_ble_eq_true rfl) dX8_line_7 (pd_kq rfl (fun q7 => ?_) (fun q7 => ?_))
  · -- refused at 7
    exact q_no8 (by rw [i_of0.mp q7]; rfl)
  have k7 := i_of1.mp q7
  rw [k7]
  rw [Bool.and_eq_true] at k7
  obtain ⟨s, hs, hx⟩ := isN_of (by omega) k7.1
  subst hx
  have hcl : (nI s).toNatClampNeg = s := nI_clamp (by omega)
  rw [hcl] at k7 ⊢
  have f1 := rFo_succ hr (s := s) (by omega)
  have f2 := rFo_le (r := r) (nl := nl) (s + 1)
  obtain ⟨l, hl, hy⟩ := isN_of (by omega) k7.2
  subst hy
  rw [nI_clamp (by omega)]
  obtain ⟨i, hi⟩ : ∃ i, i = rFo r nl s + l := ⟨_, rfl⟩
  rw [← hi]
  have hcl2 : (nI i).toNatClampNeg = i := nI_clamp (by omega)
  have hin : vp_in (nI i) 40 := vp_in_nI (by omega) (by decide)
  refine at_aload_n dX8_line_10 rfl ?_
  refine at_iload_n dX8_line_11 rfl ?_
  refine at_iconst dX8_line_12 pc_i0 ?_
  refine at_iconst dX8_line_13 pc_i5 ?_
  refine at_cs3 csX8_69 (ev_X8_isFrom what 0 5) (by decide) ⟨Nat.le_of_ble_eq_true rfl, Nat.le_of_ble_eq_true rfl⟩ (Nat.le_of_ble_eq_true rfl) dX8_line_14 (pd_k1 ?_)
  refine at_cv1 cvX8_73 sd_0 (ev_X8_requireArgument _) (by decide) ⟨Nat.le_of_ble_eq_true rfl, Nat.le_of_ble_eq_true rfl⟩ (Nat.le_of_ble_eq_true rfl) dX8_line_17 (pd_kq rfl (fun q17 => ?_) (fun q17 => ?_))
  · -- refused at 17
    exact q_no9 (by rw [i_of0.mp q17]; rfl)
  have k17 := i_of1.mp q17
  rw [k17]
  refine at_aload_n dX8_line_20 rfl ?_
  refine at_getr (cn) flX8_48 rfl sd_0 hnow dX8_line_21 ?_
  refine at_iload_n dX8_line_24 rfl ?_
  refine at_cv1 cvX8_156 (sd_P0 hcn) (ev_X3_firstOf hR hcn hC.lns hC.l40 (nI s)) (by decide) ⟨Nat.le_of_ble_eq_true rfl, Nat.le_of_ble_eq_true rfl⟩ (Nat.le_of_ble_eq_true rfl) dX8_line_25 (pd_k1 ?_)
  rw [hC.first]
  refine at_iload_n dX8_line_28 rfl ?_
  refine at_iadd dX8_line_29 ?_
  rw [nI_add, ← hi]
  refine at_istore dX8_line_30 rfl (Nat.le_of_ble_eq_true rfl) ?_
  refine at_iload_n dX8_line_32 rfl ?_
  by_cases s33_0 : what = 0
  · -- case 0
    subst s33_0
    refine at_tabIn (tgt := 68) (off := 35) dX8_line_33 (by decide) (by decide) (by decide) (by decide) ?_
    refine at_aload_n dX8_line_68 rfl ?_
    refine at_getr (cn) flX8_48 rfl sd_0 hnow dX8_line_69 ?_
    refine at_getr (cn + 5) flX8_214 rfl (sd_P0 hcn) (rs_P8 hR hcn) dX8_line_72 ?_
    refine at_iload dX8_line_75 rfl ?_
    refine at_iald (sd_P5 hcn) (hin) dX8_line_77 ?_
    rw [hcl2]
    refine at_iret rfl dX8_line_78 ?_
    refine q_yes rfl ?_ KS.rf
    rw [(hp.2.2.1 i (by omega)).2.1]
    rfl
  by_cases s33_1 : what = 1
  · -- case 1
    subst s33_1
    refine at_tabIn (tgt := 79) (off := 46) dX8_line_33 (by decide) (by decide) (by decide) (by decide) ?_
    refine at_aload_n dX8_line_79 rfl ?_
    refine at_getr (cn) flX8_48 rfl sd_0 hnow dX8_line_80 ?_
    refine at_getr (cn + 6) flX8_217 rfl (sd_P0 hcn) (rs_P9 hR hcn) dX8_line_83 ?_
    refine at_iload dX8_line_86 rfl ?_
    refine at_iald (sd_P6 hcn) (hin) dX8_line_88 ?_
    rw [hcl2]
    refine at_iret rfl dX8_line_89 ?_
    refine q_yes rfl ?_ KS.rf
    rw [(hp.2.2.1 i (by omega)).2.2.2]
    rfl
  by_cases s33_2 : what = 2
  · -- case 2
    subst s33_2
    refine at_tabIn (tgt := 90) (off := 57) dX8_line_33 (by decide) (by decide) (by decide) (by decide) ?_
    refine at_aload_n dX8_line_90 rfl ?_
    refine at_getr (18) flX8_30 rfl sd_0 (rs_0_2 hR) dX8_line_91 ?_
    refine at_getr (19) flX8_220 rfl sd_18 (rs_18_0 hR) dX8_line_94 ?_
    refine at_iload dX8_line_97 rfl ?_
    refine at_iald sd_19 (hin) dX8_line_99 ?_
    rw [hcl2]
    refine at_iret rfl dX8_line_100 ?_
    refine q_yes rfl ?_ KS.rf
    rw [hj.1.2.1 i (by omega)]
    rfl
  by_cases s33_3 : what = 3
  · -- case 3
    subst s33_3
    refine at_tabIn (tgt := 101) (off := 68) dX8_line_33 (by decide) (by decide) (by decide) (by decide) ?_
    refine at_aload_n dX8_line_101 rfl ?_
    refine at_getr (18) flX8_30 rfl sd_0 (rs_0_2 hR) dX8_line_102 ?_
    refine at_getr (20) flX8_159 rfl sd_18 (rs_18_1 hR) dX8_line_105 ?_
    refine at_iload dX8_line_108 rfl ?_
    refine at_iald sd_20 (hin) dX8_line_110 ?_
    rw [hcl2]
    refine at_iret rfl dX8_line_111 ?_
    refine q_yes rfl ?_ KS.rf
    rw [hj.2.1 i (by omega)]
    rfl
  by_cases s33_4 : what = 4
  · -- case 4
    subst s33_4
    refine at_tabIn (tgt := 112) (off := 79) dX8_line_33 (by decide) (by decide) (by decide) (by decide) ?_
    refine at_aload_n dX8_line_112 rfl ?_
    refine at_getr (cn) flX8_48 rfl sd_0 hnow dX8_line_113 ?_
    refine at_getl flX8_105 rfl (sd_P0 hcn) dX8_line_116 ?_
    refine at_iload dX8_line_119 rfl ?_
    refine at_lshr dX8_line_121 ?_
    refine at_lconst dX8_line_122 pc_l1 ?_
    refine at_land dX8_line_123 ?_
    refine at_l2i dX8_line_124 ?_
    refine at_iret rfl dX8_line_125 ?_
    refine q_yes rfl ?_ KS.rf
    rw [hC.smp.1]
    exact congrArg Value.int (sm_i (r := r) (w := 0) (l := i) (by omega))
  refine at_tabOut (tgt := 126) dX8_line_33 (by have a0 := ti_ne s33_0; have a1 := ti_ne s33_1; have a2 := ti_ne s33_2; have a3 := ti_ne s33_3; have a4 := ti_ne s33_4; simp only [show (0 : Int32).toInt = 0 by decide, show (1 : Int32).toInt = 1 by decide, show (2 : Int32).toInt = 2 by decide, show (3 : Int32).toInt = 3 by decide, show (4 : Int32).toInt = 4 by decide] at *; omega) (by decide) ?_
  refine at_aload_n dX8_line_126 rfl ?_
  refine at_getr (cn) flX8_48 rfl sd_0 hnow dX8_line_127 ?_
  refine at_getl flX8_109 rfl (sd_P0 hcn) dX8_line_130 ?_
  refine at_iload dX8_line_133 rfl ?_
  refine at_lshr dX8_line_135 ?_
  refine at_lconst dX8_line_136 pc_l1 ?_
  refine at_land dX8_line_137 ?_
  refine at_l2i dX8_line_138 ?_
  refine at_iret rfl dX8_line_139 ?_
  refine q_yes rfl ?_ KS.rf
  rw [hC.smp.2]
  unfold lnV
  rw [if_neg s33_0, if_neg s33_1, if_neg s33_2, if_neg s33_3, if_neg s33_4]
  exact congrArg Value.int (sm_i (r := r) (w := 1) (l := i) (by omega))
theorem ev_X8_cost (h : CN I L R cn r nv ns nl e) (x : Int32) : pd_Ev G mi_X8_cost 8 3 18 [.ref (pd_z G + 0), .int x] (SD, false, I, L, R) (q_x I L R (j1 9 (decide (0 ≤ x) && decide (x.toInt64 * (nI nl).toInt64 ≤ 2147483647))) (.int (x * nI nl)) (KS I L R)) := by
  have hC := h
  obtain ⟨hR, hcn, hnow, hr, hp, hj, hT⟩ := h
  have hln := hC.lns
  refine pd_ev 2 (lo := [some (.ref (pd_z G + 0)), some (.int x), none, none]) (by decide +kernel) (Nat.le_of_ble_eq_true rfl) rfl ?_
  refine at_iload_n dX8_cost_0 rfl ?_
  refine at_i2l dX8_cost_1 ?_
  refine at_aload_n dX8_cost_2 rfl ?_
  refine at_getr (cn) flX8_48 rfl sd_0 hnow dX8_cost_3 ?_
  refine at_geti flX8_98 rfl (sd_P0 hcn) dX8_cost_6 ?_
  rw [hln]
  refine at_i2l dX8_cost_9 ?_
  refine at_lmul dX8_cost_10 ?_
  refine at_lstore_n dX8_cost_11 rfl (Nat.le_of_ble_eq_true rfl) ?_
  refine at_aload_n dX8_cost_12 rfl ?_
  refine at_iload_n dX8_cost_13 rfl ?_
  refine at_iflt (tgt := 29) dX8_cost_14 (by decide) (fun c14 => ?_) (fun c14 => ?_)
  · -- taken 14
    refine at_iconst dX8_cost_29 pc_i0 ?_
    refine at_cv1 cvX8_73 sd_0 (ev_X8_requireArgument 0) (by decide) ⟨Nat.le_of_ble_eq_true rfl, Nat.le_of_ble_eq_true rfl⟩ (Nat.le_of_ble_eq_true rfl) dX8_cost_30 (pd_kq rfl (fun _ => ?_) (fun q => absurd rfl q))
    first | exact q_no9 (by simp [(fa_of_lt c14).2.1]; rfl) | exact q_no9 (by rw [fa_lt64] at c22; have : ¬ x.toInt64 * (nI nl).toInt64 ≤ 2147483647 := (by rw [fa_le64]; omega); simp [this]; rfl)
  · -- not taken 14
    refine at_lload_n dX8_cost_17 rfl ?_
    refine at_ldc2 coX8_277 dX8_cost_18 ?_
    refine at_lcmp dX8_cost_21 ?_
    refine at_ifgt (tgt := 29) dX8_cost_22 (by decide) (fun c22 => ?_) (fun c22 => ?_)
    · -- taken 22
      rw [lg_cmp_gt] at c22
      refine at_iconst dX8_cost_29 pc_i0 ?_
      refine at_cv1 cvX8_73 sd_0 (ev_X8_requireArgument 0) (by decide) ⟨Nat.le_of_ble_eq_true rfl, Nat.le_of_ble_eq_true rfl⟩ (Nat.le_of_ble_eq_true rfl) dX8_cost_30 (pd_kq rfl (fun _ => ?_) (fun q => absurd rfl q))
      first | exact q_no9 (by simp [(fa_of_lt c14).2.1]; rfl) | exact q_no9 (by rw [fa_lt64] at c22; have : ¬ x.toInt64 * (nI nl).toInt64 ≤ 2147483647 := (by rw [fa_le64]; omega); simp [this]; rfl)
    · -- not taken 22
      rw [lg_cmp_gt] at c22
      refine at_iconst dX8_cost_25 pc_i1 ?_
      refine at_goto (tgt := 30) dX8_cost_26 (by decide) ?_
      refine at_cv1 cvX8_73 sd_0 (ev_X8_requireArgument 1) (by decide) ⟨Nat.le_of_ble_eq_true rfl, Nat.le_of_ble_eq_true rfl⟩ (Nat.le_of_ble_eq_true rfl) dX8_cost_30 (pd_kq rfl (fun q => absurd q (by decide)) (fun _ => ?_))
      refine at_lload_n dX8_cost_33 rfl ?_
      refine at_l2i dX8_cost_34 ?_
      refine at_iret rfl dX8_cost_35 ?_
      refine q_yes (by rw [fa_lt64] at c22; have : x.toInt64 * (nI nl).toInt64 ≤ 2147483647 := (by rw [fa_le64]; omega); simp [this, fa_of_nlt c14]; rfl) ?_ KS.rf
      rw [i_mul64]
def prV (f g : Nat → Int32) : Nat → Int64
  | 0 => 0
  | n + 1 => 31 * (31 * prV f g n + (f n).toInt64) + (g n).toInt64
theorem lp_X8_print (h : CN I L R cn r nv ns nl e) : ∀ k i, i + k = nl → pd_At G mi_X8_print 8 3 18 0 0 4 [some (.ref (pd_z G + 0)), some (.long (prV (fun l => r (66 + 4 * l)) (rJ r nv nl e 0) i)), none, some (.int (nI i))] [] (SD, false, I, L, R) (q_x I L R 0 (.long (prV (fun l => r (66 + 4 * l)) (rJ r nv nl e 0) nl)) (KS I L R)) := by
  have hC := h
  obtain ⟨hR, hcn, hnow, hr, hp, hj, hT⟩ := h
  have hln := hC.lns
  have h40 := hC.l40
  intro k
  induction k with
  | zero =>
    intro i hi
    have e0 : i = nl := by omega
    subst e0
    refine at_iload_n dX8_print_4 rfl ?_
    refine at_aload_n dX8_print_5 rfl ?_
    refine at_getr (cn) flX8_48 rfl sd_0 hnow dX8_print_6 ?_
    refine at_geti flX8_98 rfl (sd_P0 hcn) dX8_print_9 ?_
    rw [hln]
    refine at_icmpge (tgt := 55) dX8_print_12 (by decide) (fun c12 => ?_) (fun c12 => ?_)
    · -- taken 12
      refine at_lload_n dX8_print_55 rfl ?_
      refine at_lret rfl dX8_print_56 ?_
      exact q_yes rfl rfl KS.rf
    · -- not taken 12
      exact absurd (nI_le (by omega) (by omega)) c12
  | succ k ih =>
    intro i hi
    have hcl : (nI i).toNatClampNeg = i := nI_clamp (by omega)
    refine at_iload_n dX8_print_4 rfl ?_
    refine at_aload_n dX8_print_5 rfl ?_
    refine at_getr (cn) flX8_48 rfl sd_0 hnow dX8_print_6 ?_
    refine at_geti flX8_98 rfl (sd_P0 hcn) dX8_print_9 ?_
    rw [hln]
    refine at_icmpge (tgt := 55) dX8_print_12 (by decide) (fun c12 => ?_) (fun c12 => ?_)
    · -- taken 12
      exact absurd c12 (nI_ge (by omega) (by omega))
    · -- not taken 12
      refine at_ldc2 coX8_279 dX8_print_15 ?_
      refine at_lload_n dX8_print_18 rfl ?_
      refine at_lmul dX8_print_19 ?_
      refine at_aload_n dX8_print_20 rfl ?_
      refine at_getr (cn) flX8_48 rfl sd_0 hnow dX8_print_21 ?_
      refine at_getr (cn + 5) flX8_214 rfl (sd_P0 hcn) (rs_P8 hR hcn) dX8_print_24 ?_
      refine at_iload_n dX8_print_27 rfl ?_
      refine at_iald (sd_P5 hcn) (vp_in_nI (by omega) (by decide)) dX8_print_28 ?_
      rw [hcl, (hp.2.2.1 i (by omega)).2.1]
      refine at_i2l dX8_print_29 ?_
      refine at_ladd dX8_print_30 ?_
      refine at_lstore_n dX8_print_31 rfl (Nat.le_of_ble_eq_true rfl) ?_
      refine at_ldc2 coX8_279 dX8_print_32 ?_
      refine at_lload_n dX8_print_35 rfl ?_
      refine at_lmul dX8_print_36 ?_
      refine at_aload_n dX8_print_37 rfl ?_
      refine at_getr (18) flX8_30 rfl sd_0 (rs_0_2 hR) dX8_print_38 ?_
      refine at_getr (20) flX8_159 rfl sd_18 (rs_18_1 hR) dX8_print_41 ?_
      refine at_iload_n dX8_print_44 rfl ?_
      refine at_iald sd_20 (vp_in_nI (by omega) (by decide)) dX8_print_45 ?_
      rw [hcl, hj.2.1 i (by omega)]
      refine at_i2l dX8_print_46 ?_
      refine at_ladd dX8_print_47 ?_
      refine at_lstore_n dX8_print_48 rfl (Nat.le_of_ble_eq_true rfl) ?_
      refine at_inc dX8_print_49 rfl pc_i1 rfl (Nat.le_of_ble_eq_true rfl) ?_
      refine at_goto (tgt := 4) dX8_print_52 (by decide) ?_
      rw [nI_1]; exact ih (i + 1) (by omega)
theorem ev_X8_print (h : CN I L R cn r nv ns nl e) : pd_Ev G mi_X8_print 8 3 18 [.ref (pd_z G + 0)] (SD, false, I, L, R) (q_x I L R 0 (.long (prV (fun l => r (66 + 4 * l)) (rJ r nv nl e 0) nl)) (KS I L R)) := by
  refine pd_ev 3 (lo := [some (.ref (pd_z G + 0)), none, none, none]) (by decide +kernel) (Nat.le_of_ble_eq_true rfl) rfl ?_
  refine at_lconst dX8_print_0 pc_l0 ?_
  refine at_lstore_n dX8_print_1 rfl (Nat.le_of_ble_eq_true rfl) ?_
  refine at_iconst dX8_print_2 pc_i0 ?_
  refine at_istore_n dX8_print_3 rfl (Nat.le_of_ble_eq_true rfl) ?_
  exact lp_X8_print (G := G) h nl 0 (by omega)
end DESK2
