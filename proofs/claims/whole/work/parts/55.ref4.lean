/-! ===== the reference: lines judged ===== -/
theorem ct_n {p : Nat → Bool} {i : Nat} (h : p i = false) : fb_ct p (i + 1) = fb_ct p i := by rw [fb_ct_succ, if_neg (by rw [h]; decide), Nat.add_zero]
theorem or_same {x v : Nat} (h : x.testBit v = true) : x ||| 2 ^ v = x := by
  apply Nat.eq_of_testBit_eq
  intro i
  rw [Nat.testBit_or, Nat.testBit_two_pow]
  by_cases hi : v = i
  · subst hi; simp [h]
  · simp [hi]
def JF (I I' : Nat → Nat → Int32) : Prop := ∀ x j, x ≠ 133 → x ≠ 134 → x ≠ 135 → ¬ (x = 119 ∧ j = 19) → I' x j = I x j
def JR (I : Nat → Nat → Int32) (r : Nat → Int32) (nv ns nl : Nat) (e : List rl_S) (bes : Nat) : Prop := (∀ k, k < nl → I 133 k = rJ r nv nl e bes k) ∧ (∀ k, k < nl → I 134 k = rW r nv k) ∧ I 119 19 = nI (bsum (rK r nv nl e bes) ns)
section REF4
variable {G : pd_G} {I : Nat → Nat → Int32} {L : Nat → Nat → Int64} {R : Nat → Nat → Option Nat} {nv ns nl bes : Nat} {e : List rl_S} {r : Nat → Int32} {Q : pd_O → pd_M → Prop}
def J1 (I I' : Nat → Nat → Int32) (r : Nat → Int32) (nv : Nat) (e : List rl_S) (s : Int32) (i : Nat) : Prop := JF I I' ∧ I' 119 19 = s ∧ (∀ k, k < i → I' 134 k = rW r nv k) ∧ ∀ k, k < i → I' 133 k = rH r nv e k
theorem JF.row {I' : Nat → Nat → Int32} (h : JF I I') (hq : RQ I 122 r) : RQ I' 122 r := fun k hk => (h 122 k (by decide) (by decide) (by decide) (by omega)).trans (hq k hk)
theorem J1.step {I' I2 : Nat → Nat → Int32} {i : Nat} {s : Int32} (h : J1 I I' r nv e s i) (hg : GI (pd_up I' 134 i (rW r nv i)) I2) : J1 I (pd_up I2 133 i (rH r nv e i)) r nv e s (i + 1) := by
  obtain ⟨h1, h2, h3, h4⟩ := h
  refine ⟨fun x j q1 q2 q3 q4 => ?_, ?_, fun k hk => ?_, fun k hk => ?_⟩
  · rw [pd_up_nb q1, hg x q3, pd_up_nb q2]; exact h1 x j q1 q2 q3 q4
  · rw [pd_up_nb (by decide), hg 119 (by decide), pd_up_nb (by decide)]; exact h2
  · rw [pd_up_nb (by decide), hg 134 (by decide)]
    by_cases hq : k = i
    · subst hq; exact pd_up_at
    · rw [pd_up_nj hq]; exact h3 k (by omega)
  · by_cases hq : k = i
    · subst hq; exact pd_up_at
    · rw [pd_up_nj hq, hg 133 (by decide), pd_up_nb (by decide)]; exact h4 k (by omega)
theorem lp_X9_j1 (hR : RS R) (hq : RQ I 122 r) (hr : Row r nv ns nl e) {s b : Int32} (K : ∀ I2, J1 I I2 r nv e s nl → pd_At G mi_X9_judges 5 0 0 0 0 121 [some (.ref (pd_z G + 119)), some (.ref (pd_z G + 122)), some (.int b), some (.int (nI nl)), none, none, none] [] (SD, false, I2, L, R) Q) : ∀ (k i : Nat) (I' : Nat → Nat → Int32), i + k = nl → J1 I I' r nv e s i → pd_At G mi_X9_judges 5 0 0 0 0 7 [some (.ref (pd_z G + 119)), some (.ref (pd_z G + 122)), some (.int b), some (.int (nI i)), none, none, none] [] (SD, false, I', L, R) Q := by
  have h40 := hr.2.2.1.2
  have hv16 := hr.1.2
  intro k
  induction k with
  | zero =>
    intro i I' hi hI
    have e0 : i = nl := by omega
    subst e0
    have h2 : I' 122 (2 : Int32).toNatClampNeg = nI i := (hI.1.row hq 2 (by decide)).trans hr.2.2.1.1
    refine at_iload_n dX9_judges_7 rfl ?_
    refine at_aload_n dX9_judges_8 rfl ?_
    refine at_iconst dX9_judges_9 pc_i2 ?_
    refine at_iald sd_122 (vp_in_nI (n := 2) (by decide) (by decide)) dX9_judges_10 ?_
    rw [h2]
    refine at_icmpge (tgt := 121) dX9_judges_11 (by decide) (fun c11 => ?_) (fun c11 => ?_)
    · -- taken 11
      exact K _ hI
    · -- not taken 11
      exact absurd (nI_le (Nat.le_refl _) (by omega)) c11
  | succ k ih =>
    intro i I' hi hI
    have hq' := hI.1.row hq
    have h2 : I' 122 (2 : Int32).toNatClampNeg = nI nl := (hq' 2 (by decide)).trans hr.2.2.1.1
    have fin : ∀ (v : Int32) (I2 : Nat → Nat → Int32) (d : Int32), v = rH r nv e i → GI (pd_up I' 134 i (rW r nv i)) I2 → pd_At G mi_X9_judges 5 0 0 0 0 114 [some (.ref (pd_z G + 119)), some (.ref (pd_z G + 122)), some (.int b), some (.int (nI i)), some (.int (rW r nv i)), some (.int d), none] [.int v, .int (nI i), .ref (pd_z G + 133)] (SD, false, I2, L, R) Q := by
      intro v I2 d hv hg
      subst hv
      refine at_iast sd_133 (vp_in_nI (by omega) (by decide)) dX9_judges_114 ?_
      refine at_inc dX9_judges_115 rfl pc_i1 rfl (Nat.le_of_ble_eq_true rfl) ?_
      refine at_goto (tgt := 7) dX9_judges_118 (by decide) ?_
      refine at_drop 4 ?_
      refine at_drop 5 ?_
      rw [nI_1, nI_clamp (by omega)]
      exact ih (i + 1) _ (by omega) (hI.step hg)
    have hin : vp_in (nI i) 40 := vp_in_nI (by omega) (by decide)
    have hcl : (nI i).toNatClampNeg = i := nI_clamp (by omega)
    have hx : ∀ {v : Int32} {k : Nat}, k < 1105 → pd_up I' 134 i v 122 k = r k := fun {v k} hk => by rw [pd_up_nb (by decide)]; exact hq' k hk
    rcases rW_is r nv i with hw | ⟨v, hv, hw⟩
    · refine at_iload_n dX9_judges_7 rfl ?_
      refine at_aload_n dX9_judges_8 rfl ?_
      refine at_iconst dX9_judges_9 pc_i2 ?_
      refine at_iald sd_122 (vp_in_nI (n := 2) (by decide) (by decide)) dX9_judges_10 ?_
      rw [h2]
      refine at_icmpge (tgt := 121) dX9_judges_11 (by decide) (fun c11 => ?_) (fun c11 => ?_)
      · -- taken 11
        exact absurd c11 (nI_ge (by omega) (by omega))
      · -- not taken 11
        refine at_aload_n dX9_judges_14 rfl ?_
        refine at_aload_n dX9_judges_15 rfl ?_
        refine at_iload_n dX9_judges_16 rfl ?_
        refine at_iconst dX9_judges_17 pc_i0 ?_
        refine at_cs2 csX9_124 (ev_X9_lineAt i 0 (65 + 4 * i) (by omega)) (by decide) ⟨Nat.le_refl _, Nat.le_refl _⟩ (Nat.le_of_ble_eq_true rfl) dX9_judges_18 (pd_k1 ?_)
        refine at_iald sd_122 (vp_in_nI (by omega) (by decide)) dX9_judges_21 ?_
        rw [nI_clamp (by omega), hq' _ (by omega)]
        refine at_aload_n dX9_judges_22 rfl ?_
        refine at_iload_n dX9_judges_23 rfl ?_
        refine at_iconst dX9_judges_24 pc_i1 ?_
        refine at_cs2 csX9_124 (ev_X9_lineAt i 1 (66 + 4 * i) (by omega)) (by decide) ⟨Nat.le_refl _, Nat.le_refl _⟩ (Nat.le_of_ble_eq_true rfl) dX9_judges_25 (pd_k1 ?_)
        refine at_iald sd_122 (vp_in_nI (by omega) (by decide)) dX9_judges_28 ?_
        rw [nI_clamp (by omega), hq' _ (by omega)]
        refine at_cs3 csX9_120 ((show pd_Ev G mi_X9_voterOf 2 0 0 _ _ (pd_rt (.int (rW r nv i)) _) from ev_X9_voterOf sd_122 hq' hr.1.1 hv16 _ _)) (by decide) ⟨Nat.le_refl _, Nat.le_refl _⟩ (Nat.le_of_ble_eq_true rfl) dX9_judges_29 (pd_k1 ?_)
        refine at_istore dX9_judges_32 rfl (Nat.le_of_ble_eq_true rfl) ?_
        refine at_aload_n dX9_judges_34 rfl ?_
        refine at_iload_n dX9_judges_35 rfl ?_
        refine at_iconst dX9_judges_36 pc_i3 ?_
        refine at_cs2 csX9_124 (ev_X9_lineAt i 3 (68 + 4 * i) (by omega)) (by decide) ⟨Nat.le_refl _, Nat.le_refl _⟩ (Nat.le_of_ble_eq_true rfl) dX9_judges_37 (pd_k1 ?_)
        refine at_iald sd_122 (vp_in_nI (by omega) (by decide)) dX9_judges_40 ?_
        rw [nI_clamp (by omega), hq' _ (by omega)]
        refine at_istore dX9_judges_41 rfl (Nat.le_of_ble_eq_true rfl) ?_
        refine at_aload_n dX9_judges_43 rfl ?_
        refine at_getr (134) flX9_34 rfl sd_119 (rs_119_17 hR) dX9_judges_44 ?_
        refine at_iload_n dX9_judges_47 rfl ?_
        refine at_iload dX9_judges_48 rfl ?_
        refine at_iast sd_134 (hin) dX9_judges_50 ?_
        rw [hcl]
        refine at_aload_n dX9_judges_51 rfl ?_
        refine at_getr (133) flX9_31 rfl sd_119 (rs_119_16 hR) dX9_judges_52 ?_
        refine at_iload_n dX9_judges_55 rfl ?_
        refine at_iload dX9_judges_56 rfl ?_
        refine at_iconst dX9_judges_58 pc_im1 ?_
        refine at_icmpne (tgt := 66) dX9_judges_59 (by decide) (fun c59 => ?_) (fun c59 => ?_)
        · -- taken 59
          exact absurd hw c59
        · -- not taken 59
          refine at_iconst dX9_judges_62 pc_i1 ?_
          refine at_goto (tgt := 114) dX9_judges_63 (by decide) ?_
          exact fin _ _ _ (by rw [rH, if_pos hw]) (fun _ _ _ => rfl)
    · rw [hw] at fin
      have hne : ¬ rW r nv i = -1 := fun e1 => nI_pos (n := v) (by omega) (by rw [← hw, e1]; decide)
      have hsi : rSi r nv i = r (11 + 3 * v) := by rw [rSi, hw, nI_clamp (by omega)]
      have h2' : (r (68 + 4 * i) < r 4 ∨ r 5 < r (68 + 4 * i) ∨ r (68 + 4 * i) < r (11 + 3 * v)) → 2 = rH r nv e i := fun h => by rw [rH, if_neg hne, hsi, if_pos h]
      have h3' : ¬ (r (68 + 4 * i) < r 4 ∨ r 5 < r (68 + 4 * i) ∨ r (68 + 4 * i) < r (11 + 3 * v)) → rH r nv e i = if rl_good (rF r nv i) e then 0 else 3 := fun h => by rw [rH, if_neg hne, hsi, if_neg h]
      refine at_iload_n dX9_judges_7 rfl ?_
      refine at_aload_n dX9_judges_8 rfl ?_
      refine at_iconst dX9_judges_9 pc_i2 ?_
      refine at_iald sd_122 (vp_in_nI (n := 2) (by decide) (by decide)) dX9_judges_10 ?_
      rw [h2]
      refine at_icmpge (tgt := 121) dX9_judges_11 (by decide) (fun c11 => ?_) (fun c11 => ?_)
      · -- taken 11
        exact absurd c11 (nI_ge (by omega) (by omega))
      · -- not taken 11
        refine at_aload_n dX9_judges_14 rfl ?_
        refine at_aload_n dX9_judges_15 rfl ?_
        refine at_iload_n dX9_judges_16 rfl ?_
        refine at_iconst dX9_judges_17 pc_i0 ?_
        refine at_cs2 csX9_124 (ev_X9_lineAt i 0 (65 + 4 * i) (by omega)) (by decide) ⟨Nat.le_refl _, Nat.le_refl _⟩ (Nat.le_of_ble_eq_true rfl) dX9_judges_18 (pd_k1 ?_)
        refine at_iald sd_122 (vp_in_nI (by omega) (by decide)) dX9_judges_21 ?_
        rw [nI_clamp (by omega), hq' _ (by omega)]
        refine at_aload_n dX9_judges_22 rfl ?_
        refine at_iload_n dX9_judges_23 rfl ?_
        refine at_iconst dX9_judges_24 pc_i1 ?_
        refine at_cs2 csX9_124 (ev_X9_lineAt i 1 (66 + 4 * i) (by omega)) (by decide) ⟨Nat.le_refl _, Nat.le_refl _⟩ (Nat.le_of_ble_eq_true rfl) dX9_judges_25 (pd_k1 ?_)
        refine at_iald sd_122 (vp_in_nI (by omega) (by decide)) dX9_judges_28 ?_
        rw [nI_clamp (by omega), hq' _ (by omega)]
        refine at_cs3 csX9_120 ((show pd_Ev G mi_X9_voterOf 2 0 0 _ _ (pd_rt (.int (rW r nv i)) _) from ev_X9_voterOf sd_122 hq' hr.1.1 hv16 _ _)) (by decide) ⟨Nat.le_refl _, Nat.le_refl _⟩ (Nat.le_of_ble_eq_true rfl) dX9_judges_29 (pd_k1 ?_)
        rw [hw]
        refine at_istore dX9_judges_32 rfl (Nat.le_of_ble_eq_true rfl) ?_
        refine at_aload_n dX9_judges_34 rfl ?_
        refine at_iload_n dX9_judges_35 rfl ?_
        refine at_iconst dX9_judges_36 pc_i3 ?_
        refine at_cs2 csX9_124 (ev_X9_lineAt i 3 (68 + 4 * i) (by omega)) (by decide) ⟨Nat.le_refl _, Nat.le_refl _⟩ (Nat.le_of_ble_eq_true rfl) dX9_judges_37 (pd_k1 ?_)
        refine at_iald sd_122 (vp_in_nI (by omega) (by decide)) dX9_judges_40 ?_
        rw [nI_clamp (by omega), hq' _ (by omega)]
        refine at_istore dX9_judges_41 rfl (Nat.le_of_ble_eq_true rfl) ?_
        refine at_aload_n dX9_judges_43 rfl ?_
        refine at_getr (134) flX9_34 rfl sd_119 (rs_119_17 hR) dX9_judges_44 ?_
        refine at_iload_n dX9_judges_47 rfl ?_
        refine at_iload dX9_judges_48 rfl ?_
        refine at_iast sd_134 (hin) dX9_judges_50 ?_
        rw [hcl]
        refine at_aload_n dX9_judges_51 rfl ?_
        refine at_getr (133) flX9_31 rfl sd_119 (rs_119_16 hR) dX9_judges_52 ?_
        refine at_iload_n dX9_judges_55 rfl ?_
        refine at_iload dX9_judges_56 rfl ?_
        refine at_iconst dX9_judges_58 pc_im1 ?_
        refine at_icmpne (tgt := 66) dX9_judges_59 (by decide) (fun c59 => ?_) (fun c59 => ?_)
        · -- taken 59
          refine at_iload dX9_judges_66 rfl ?_
          refine at_i2l dX9_judges_68 ?_
          refine at_aload_n dX9_judges_69 rfl ?_
          refine at_iconst dX9_judges_70 pc_i4 ?_
          refine at_iald sd_122 (vp_in_nI (n := 4) (by decide) (by decide)) dX9_judges_71 ?_
          rw [show pd_up I' 134 i (nI v) 122 (4 : Int32).toNatClampNeg = r 4 from hx (by decide)]
          refine at_i2l dX9_judges_72 ?_
          refine at_aload_n dX9_judges_73 rfl ?_
          refine at_iconst dX9_judges_74 pc_i5 ?_
          refine at_iald sd_122 (vp_in_nI (n := 5) (by decide) (by decide)) dX9_judges_75 ?_
          rw [show pd_up I' 134 i (nI v) 122 (5 : Int32).toNatClampNeg = r 5 from hx (by decide)]
          refine at_i2l dX9_judges_76 ?_
          refine at_cs3 csX9_107 (ev_X9_in _ _ _) (by decide) ⟨Nat.le_refl _, Nat.le_refl _⟩ (Nat.le_of_ble_eq_true rfl) dX9_judges_77 (pd_k1 ?_)
          rw [inL_w]
          refine at_ifeq (tgt := 96) dX9_judges_80 (by decide) (fun c80 => ?_) (fun c80 => ?_)
          · -- taken 80
            have k80 := i_of0.mp c80
            simp only [inR, Bool.and_eq_false_iff, decide_eq_false_iff_not] at k80
            refine at_iconst dX9_judges_96 pc_i2 ?_
            refine at_goto (tgt := 114) dX9_judges_97 (by decide) ?_
            first | exact fin _ _ _ h3.symm hg | exact fin _ _ _ (h2' (by rcases k80 with h | h; exact Or.inl (fa_of_nle h); exact Or.inr (Or.inl (fa_of_nle h)))) (fun _ _ _ => rfl) | exact fin _ _ _ (h2' (Or.inr (Or.inr (fa_of_nle c93)))) (fun _ _ _ => rfl)
          · -- not taken 80
            have k80 := i_of1.mp c80
            simp only [inR, Bool.and_eq_true, decide_eq_true_eq] at k80
            refine at_aload_n dX9_judges_83 rfl ?_
            refine at_iload dX9_judges_84 rfl ?_
            refine at_iconst dX9_judges_86 pc_i2 ?_
            refine at_cs2 csX9_111 (ev_X9_voterAt v 2 (11 + 3 * v) (by omega)) (by decide) ⟨Nat.le_refl _, Nat.le_refl _⟩ (Nat.le_of_ble_eq_true rfl) dX9_judges_87 (pd_k1 ?_)
            refine at_iald sd_122 (vp_in_nI (by omega) (by decide)) dX9_judges_90 ?_
            rw [nI_clamp (by omega), hx (by omega)]
            refine at_iload dX9_judges_91 rfl ?_
            refine at_icmple (tgt := 100) dX9_judges_93 (by decide) (fun c93 => ?_) (fun c93 => ?_)
            · -- taken 93
              refine at_aload_n dX9_judges_100 rfl ?_
              refine at_aload_n dX9_judges_101 rfl ?_
              refine at_iload_n dX9_judges_102 rfl ?_
              refine at_cv2 cvX9_231 sd_119 (ev_X9_isGood (e := e) (ns := ns) (nl := nl) (v := v) hR (fun k hk => hx hk) hr (by omega) (by omega) (fun k hk => by by_cases h5 : k = i <;> first | (subst h5; rw [pd_up_at, hw]; done) | (rw [pd_up_nj h5]; exact hI.2.2.1 k (by omega))) hw) (by decide) ⟨Nat.le_refl _, Nat.le_refl _⟩ (Nat.le_of_ble_eq_true rfl) dX9_judges_103 (pd_ki fun x I2 L2 hq => ?_)
              obtain ⟨rfl, rfl, hg⟩ := hq
              have h3 := h3' (fun h => by rcases h with h | h | h <;> first | exact (fa_of_lt h).2.1 k80.1 | exact (fa_of_lt h).2.1 k80.2 | exact (fa_of_lt h).2.1 c93)
              refine at_ifeq (tgt := 113) dX9_judges_106 (by decide) (fun c106 => ?_) (fun c106 => ?_)
              · -- taken 106
                rw [i_of0.mp c106] at h3
                refine at_iconst dX9_judges_113 pc_i3 ?_
                first | exact fin _ _ _ h3.symm hg | exact fin _ _ _ (h2' (by rcases k80 with h | h; exact Or.inl (fa_of_nle h); exact Or.inr (Or.inl (fa_of_nle h)))) (fun _ _ _ => rfl) | exact fin _ _ _ (h2' (Or.inr (Or.inr (fa_of_nle c93)))) (fun _ _ _ => rfl)
              · -- not taken 106
                rw [i_of1.mp c106] at h3
                refine at_iconst dX9_judges_109 pc_i0 ?_
                refine at_goto (tgt := 114) dX9_judges_110 (by decide) ?_
                first | exact fin _ _ _ h3.symm hg | exact fin _ _ _ (h2' (by rcases k80 with h | h; exact Or.inl (fa_of_nle h); exact Or.inr (Or.inl (fa_of_nle h)))) (fun _ _ _ => rfl) | exact fin _ _ _ (h2' (Or.inr (Or.inr (fa_of_nle c93)))) (fun _ _ _ => rfl)
            · -- not taken 93
              refine at_iconst dX9_judges_96 pc_i2 ?_
              refine at_goto (tgt := 114) dX9_judges_97 (by decide) ?_
              first | exact fin _ _ _ h3.symm hg | exact fin _ _ _ (h2' (by rcases k80 with h | h; exact Or.inl (fa_of_nle h); exact Or.inr (Or.inl (fa_of_nle h)))) (fun _ _ _ => rfl) | exact fin _ _ _ (h2' (Or.inr (Or.inr (fa_of_nle c93)))) (fun _ _ _ => rfl)
        · -- not taken 59
          exact absurd c59 (fun e1 => hne (hw.trans e1))
theorem lp_X9_j2i (hR : RS R) (hq : RQ I 122 r) (hr : Row r nv ns nl e) (hh : ∀ k, k < nl → I 133 k = rH r nv e k) {b : Int32} {s : Nat} (K : pd_At G mi_X9_judges 5 0 0 0 0 191 [some (.ref (pd_z G + 119)), some (.ref (pd_z G + 122)), some (.int b), some (.int (nI s)), some (.int (nI (rN r nl s))), some (.int (nI (rWr r nv nl e s))), some (.int (nI nl))] [] (SD, false, I, L, R) Q) : ∀ (k i : Nat), i + k = nl → pd_At G mi_X9_judges 5 0 0 0 0 139 [some (.ref (pd_z G + 119)), some (.ref (pd_z G + 122)), some (.int b), some (.int (nI s)), some (.int (nI (fb_ct (fun l => decide (rSh r l = nI s)) i))), some (.int (nI (fb_ct (fun l => decide (rSh r l = nI s) && decide (¬ rH r nv e l = 0)) i))), some (.int (nI i))] [] (SD, false, I, L, R) Q := by
  have h40 := hr.2.2.1.2
  have h2 : I 122 (2 : Int32).toNatClampNeg = nI nl := (hq 2 (by decide)).trans hr.2.2.1.1
  intro k
  induction k with
  | zero =>
    intro i hi
    have e0 : i = nl := by omega
    subst e0
    refine at_iload dX9_judges_139 rfl ?_
    refine at_aload_n dX9_judges_141 rfl ?_
    refine at_iconst dX9_judges_142 pc_i2 ?_
    refine at_iald sd_122 (vp_in_nI (n := 2) (by decide) (by decide)) dX9_judges_143 ?_
    rw [h2]
    refine at_icmpge (tgt := 191) dX9_judges_144 (by decide) (fun c144 => ?_) (fun c144 => ?_)
    · -- taken 144
      exact K
    · -- not taken 144
      exact absurd (nI_le (Nat.le_refl _) (by omega)) c144
  | succ k ih =>
    intro i hi
    have hsh : r (67 + 4 * i) = rSh r i := rfl
    have h := ih (i + 1) (by omega)
    refine at_iload dX9_judges_139 rfl ?_
    refine at_aload_n dX9_judges_141 rfl ?_
    refine at_iconst dX9_judges_142 pc_i2 ?_
    refine at_iald sd_122 (vp_in_nI (n := 2) (by decide) (by decide)) dX9_judges_143 ?_
    rw [h2]
    refine at_icmpge (tgt := 191) dX9_judges_144 (by decide) (fun c144 => ?_) (fun c144 => ?_)
    · -- taken 144
      exact absurd c144 (nI_ge (by omega) (by omega))
    · -- not taken 144
      refine at_aload_n dX9_judges_147 rfl ?_
      refine at_iload dX9_judges_148 rfl ?_
      refine at_iconst dX9_judges_150 pc_i2 ?_
      refine at_cs2 csX9_124 (ev_X9_lineAt i 2 (67 + 4 * i) (by omega)) (by decide) ⟨Nat.le_refl _, Nat.le_refl _⟩ (Nat.le_of_ble_eq_true rfl) dX9_judges_151 (pd_k1 ?_)
      refine at_iald sd_122 (vp_in_nI (by omega) (by decide)) dX9_judges_154 ?_
      rw [nI_clamp (by omega), hq _ (by omega), hsh]
      refine at_iload_n dX9_judges_155 rfl ?_
      refine at_icmpeq (tgt := 162) dX9_judges_156 (by decide) (fun c156 => ?_) (fun c156 => ?_)
      · -- taken 156
        refine at_inc dX9_judges_162 rfl pc_i1 rfl (Nat.le_of_ble_eq_true rfl) ?_
        refine at_iload dX9_judges_165 rfl ?_
        refine at_aload_n dX9_judges_167 rfl ?_
        refine at_getr (133) flX9_31 rfl sd_119 (rs_119_16 hR) dX9_judges_168 ?_
        refine at_iload dX9_judges_171 rfl ?_
        refine at_iald sd_133 (vp_in_nI (by omega) (by decide)) dX9_judges_173 ?_
        rw [nI_clamp (by omega), hh _ (by omega)]
        refine at_ifne (tgt := 181) dX9_judges_174 (by decide) (fun c174 => ?_) (fun c174 => ?_)
        · -- taken 174
          refine at_iconst dX9_judges_181 pc_i1 ?_
          refine at_iadd dX9_judges_182 ?_
          refine at_istore dX9_judges_183 rfl (Nat.le_of_ble_eq_true rfl) ?_
          refine at_inc dX9_judges_185 rfl pc_i1 rfl (Nat.le_of_ble_eq_true rfl) ?_
          refine at_goto (tgt := 139) dX9_judges_188 (by decide) ?_
          first | (rw [nI_1 i]; rw [ct_n (by simp [c156]), ct_n (by simp [c156])] at h; exact h) | (rw [nI_1 i]; rw [ct_t (by simp [c156]), ct_t (by simp [c156, c174])]; exact h) | (rw [nI_1 i]; rw [ct_t (by simp [c156]), ct_f (by simp [c174])]; exact h)
        · -- not taken 174
          refine at_iconst dX9_judges_177 pc_i0 ?_
          refine at_goto (tgt := 182) dX9_judges_178 (by decide) ?_
          refine at_iadd dX9_judges_182 ?_
          refine at_istore dX9_judges_183 rfl (Nat.le_of_ble_eq_true rfl) ?_
          refine at_inc dX9_judges_185 rfl pc_i1 rfl (Nat.le_of_ble_eq_true rfl) ?_
          refine at_goto (tgt := 139) dX9_judges_188 (by decide) ?_
          first | (rw [nI_1 i]; rw [ct_n (by simp [c156]), ct_n (by simp [c156])] at h; exact h) | (rw [nI_1 i]; rw [ct_t (by simp [c156]), ct_t (by simp [c156, c174])]; exact h) | (rw [nI_1 i]; rw [ct_t (by simp [c156]), ct_f (by simp [c174])]; exact h)
      · -- not taken 156
        refine at_goto (tgt := 185) dX9_judges_159 (by decide) ?_
        refine at_inc dX9_judges_185 rfl pc_i1 rfl (Nat.le_of_ble_eq_true rfl) ?_
        refine at_goto (tgt := 139) dX9_judges_188 (by decide) ?_
        first | (rw [nI_1 i]; rw [ct_n (by simp [c156]), ct_n (by simp [c156])] at h; exact h) | (rw [nI_1 i]; rw [ct_t (by simp [c156]), ct_t (by simp [c156, c174])]; exact h) | (rw [nI_1 i]; rw [ct_t (by simp [c156]), ct_f (by simp [c174])]; exact h)
theorem bsum_y {p : Nat → Bool} {s : Nat} (h : p s = true) (hs : s < 31) : nI (bsum p s) ||| (1 : Int32) <<< (nI s &&& 31) = nI (bsum p (s + 1)) := by rw [i_sh1 s hs, fa_or, bsum_or s h]
theorem bsum_n {p : Nat → Bool} {s : Nat} (h : p s = false) : bsum p (s + 1) = bsum p s := by rw [bsum, if_neg (by rw [h]; decide), Nat.add_zero]
theorem lp_X9_j2 (hR : RS R) (hq : RQ I 122 r) (hr : Row r nv ns nl e) (hbes : bes < 256) (K : ∀ I2, J1 I I2 r nv e (nI (bsum (rK r nv nl e bes) ns)) nl → pd_At G mi_X9_judges 5 0 0 0 0 243 [some (.ref (pd_z G + 119)), some (.ref (pd_z G + 122)), some (.int (nI bes)), some (.int (nI ns)), none, none, none] [] (SD, false, I2, L, R) Q) : ∀ (k s : Nat) (I' : Nat → Nat → Int32), s + k = ns → J1 I I' r nv e (nI (bsum (rK r nv nl e bes) s)) nl → pd_At G mi_X9_judges 5 0 0 0 0 123 [some (.ref (pd_z G + 119)), some (.ref (pd_z G + 122)), some (.int (nI bes)), some (.int (nI s)), none, none, none] [] (SD, false, I', L, R) Q := by
  have h8 := hr.2.1.2
  intro k
  induction k with
  | zero =>
    intro s I' hs hI
    have e0 : s = ns := by omega
    subst e0
    have h2 : I' 122 (1 : Int32).toNatClampNeg = nI s := (hI.1.row hq 1 (by decide)).trans hr.2.1.1
    refine at_iload_n dX9_judges_123 rfl ?_
    refine at_aload_n dX9_judges_124 rfl ?_
    refine at_iconst dX9_judges_125 pc_i1 ?_
    refine at_iald sd_122 (vp_in_nI (n := 1) (by decide) (by decide)) dX9_judges_126 ?_
    rw [h2]
    refine at_icmpge (tgt := 243) dX9_judges_127 (by decide) (fun c127 => ?_) (fun c127 => ?_)
    · -- taken 127
      exact K _ hI
    · -- not taken 127
      exact absurd (nI_le (Nat.le_refl _) (by omega)) c127
  | succ k ih =>
    intro s I' hs hI
    have hq' := hI.1.row hq
    have h2 : I' 122 (1 : Int32).toNatClampNeg = nI ns := (hq' 1 (by decide)).trans hr.2.1.1
    have h6 : I' 122 (6 : Int32).toNatClampNeg = r 6 := hq' 6 (by decide)
    have no : rK r nv nl e bes s = false → pd_At G mi_X9_judges 5 0 0 0 0 237 [some (.ref (pd_z G + 119)), some (.ref (pd_z G + 122)), some (.int (nI bes)), some (.int (nI s)), some (.int (nI (rN r nl s))), some (.int (nI (rWr r nv nl e s))), some (.int (nI nl))] [] (SD, false, I', L, R) Q := by
      intro hk
      refine at_inc dX9_judges_237 rfl pc_i1 rfl (Nat.le_of_ble_eq_true rfl) ?_
      refine at_goto (tgt := 123) dX9_judges_240 (by decide) ?_
      refine at_drop 4 ?_
      refine at_drop 5 ?_
      refine at_drop 6 ?_
      rw [nI_1]
      exact ih (s + 1) _ (by omega) (by rw [bsum_n hk]; exact hI)
    have yes : rK r nv nl e bes s = true → pd_At G mi_X9_judges 5 0 0 0 0 225 [some (.ref (pd_z G + 119)), some (.ref (pd_z G + 122)), some (.int (nI bes)), some (.int (nI s)), some (.int (nI (rN r nl s))), some (.int (nI (rWr r nv nl e s))), some (.int (nI nl))] [] (SD, false, I', L, R) Q := by
      intro hk
      refine at_aload_n dX9_judges_225 rfl ?_
      refine at_dup dX9_judges_226 rfl ?_
      refine at_geti flX9_228 rfl sd_119 dX9_judges_227 ?_
      refine at_iconst dX9_judges_230 pc_i1 ?_
      refine at_iload_n dX9_judges_231 rfl ?_
      refine at_ishl dX9_judges_232 ?_
      refine at_ior dX9_judges_233 ?_
      rw [hI.2.1, bsum_y hk (by omega)]
      refine at_puti flX9_228 rfl sd_119 (fun _ _ _ hq => by cases hq; rfl) dX9_judges_234 ?_
      refine at_inc dX9_judges_237 rfl pc_i1 rfl (Nat.le_of_ble_eq_true rfl) ?_
      refine at_goto (tgt := 123) dX9_judges_240 (by decide) ?_
      refine at_drop 4 ?_
      refine at_drop 5 ?_
      refine at_drop 6 ?_
      rw [nI_1]
      exact ih (s + 1) _ (by omega) ⟨fun x j q1 q2 q3 q4 => by unfold pd_up; rw [if_neg q4]; exact hI.1 x j q1 q2 q3 q4, pd_up_at, fun k hk => by rw [pd_up_nb (by decide)]; exact hI.2.2.1 k hk, fun k hk => by rw [pd_up_nb (by decide)]; exact hI.2.2.2 k hk⟩
    have mid : pd_At G mi_X9_judges 5 0 0 0 0 191 [some (.ref (pd_z G + 119)), some (.ref (pd_z G + 122)), some (.int (nI bes)), some (.int (nI s)), some (.int (nI (rN r nl s))), some (.int (nI (rWr r nv nl e s))), some (.int (nI nl))] [] (SD, false, I', L, R) Q := by
      refine at_aload_n dX9_judges_191 rfl ?_
      refine at_bipush dX9_judges_192 pc_b57 ?_
      refine at_iload_n dX9_judges_194 rfl ?_
      refine at_iadd dX9_judges_195 ?_
      rw [show (57 : Int32) = nI 57 from rfl, nI_add]
      refine at_iald sd_122 (vp_in_nI (by omega) (by decide)) dX9_judges_196 ?_
      rw [nI_clamp (by omega), hq' _ (by omega)]
      refine at_iconst dX9_judges_197 pc_i1 ?_
      refine at_icmpeq (tgt := 225) dX9_judges_198 (by decide) (fun c198 => ?_) (fun c198 => ?_)
      · -- taken 198
        refine yes ?_
        unfold rK
        first | (rw [decide_eq_true c198, Bool.true_or, Bool.true_or]; done) | (rw [k207, Bool.or_true, Bool.true_or]; done) | (rw [decide_eq_true (fa_of_nle c222), Bool.or_true]; done)
      · -- not taken 198
        refine at_iload_n dX9_judges_201 rfl ?_
        refine at_iload_n dX9_judges_202 rfl ?_
        refine at_ishr dX9_judges_203 ?_
        refine at_iconst dX9_judges_204 pc_i1 ?_
        refine at_iand dX9_judges_205 ?_
        rw [i_tb (by omega) (by omega)]
        refine at_iconst dX9_judges_206 pc_i1 ?_
        refine at_icmpeq (tgt := 225) dX9_judges_207 (by decide) (fun c207 => ?_) (fun c207 => ?_)
        · -- taken 207
          have k207 : bes.testBit s = true := i_of1.mp (by rw [c207]; decide)
          refine yes ?_
          unfold rK
          first | (rw [decide_eq_true c198, Bool.true_or, Bool.true_or]; done) | (rw [k207, Bool.or_true, Bool.true_or]; done) | (rw [decide_eq_true (fa_of_nle c222), Bool.or_true]; done)
        · -- not taken 207
          have k207 : bes.testBit s = false := by cases hb : bes.testBit s <;> first | rfl | exact absurd (by rw [hb]; rfl) c207
          refine at_bipush dX9_judges_210 pc_b100 ?_
          refine at_iload dX9_judges_212 rfl ?_
          refine at_imul dX9_judges_214 ?_
          refine at_aload_n dX9_judges_215 rfl ?_
          refine at_bipush dX9_judges_216 pc_b6 ?_
          refine at_iald sd_122 (vp_in_nI (n := 6) (by decide) (by decide)) dX9_judges_218 ?_
          rw [h6]
          refine at_iload dX9_judges_219 rfl ?_
          refine at_imul dX9_judges_221 ?_
          refine at_icmple (tgt := 237) dX9_judges_222 (by decide) (fun c222 => ?_) (fun c222 => ?_)
          · -- taken 222
            refine no ?_
            unfold rK
            rw [decide_eq_false c198, k207, decide_eq_false (fun q => (fa_of_lt q).2.1 c222)]; rfl
          · -- not taken 222
            refine yes ?_
            unfold rK
            first | (rw [decide_eq_true c198, Bool.true_or, Bool.true_or]; done) | (rw [k207, Bool.or_true, Bool.true_or]; done) | (rw [decide_eq_true (fa_of_nle c222), Bool.or_true]; done)
    refine at_iload_n dX9_judges_123 rfl ?_
    refine at_aload_n dX9_judges_124 rfl ?_
    refine at_iconst dX9_judges_125 pc_i1 ?_
    refine at_iald sd_122 (vp_in_nI (n := 1) (by decide) (by decide)) dX9_judges_126 ?_
    rw [h2]
    refine at_icmpge (tgt := 243) dX9_judges_127 (by decide) (fun c127 => ?_) (fun c127 => ?_)
    · -- taken 127
      exact absurd c127 (nI_ge (by omega) (by omega))
    · -- not taken 127
      refine at_iconst dX9_judges_130 pc_i0 ?_
      refine at_istore dX9_judges_131 rfl (Nat.le_of_ble_eq_true rfl) ?_
      refine at_iconst dX9_judges_133 pc_i0 ?_
      refine at_istore dX9_judges_134 rfl (Nat.le_of_ble_eq_true rfl) ?_
      refine at_iconst dX9_judges_136 pc_i0 ?_
      refine at_istore dX9_judges_137 rfl (Nat.le_of_ble_eq_true rfl) ?_
      exact lp_X9_j2i hR hq' hr hI.2.2.2 mid nl 0 (by omega)
def J3 (I I' : Nat → Nat → Int32) (r : Nat → Int32) (nv ns nl : Nat) (e : List rl_S) (bes i : Nat) : Prop := JF I I' ∧ I' 119 19 = nI (bsum (rK r nv nl e bes) ns) ∧ (∀ k, k < nl → I' 134 k = rW r nv k) ∧ ∀ k, k < nl → I' 133 k = if k < i then rJ r nv nl e bes k else rH r nv e k
theorem J3.same {I' : Nat → Nat → Int32} {i : Nat} (h : J3 I I' r nv ns nl e bes i) (hj : rJ r nv nl e bes i = rH r nv e i) : J3 I I' r nv ns nl e bes (i + 1) := ⟨h.1, h.2.1, h.2.2.1, fun k hk => by
  rw [h.2.2.2 k hk]
  by_cases h1 : k < i
  · rw [if_pos h1, if_pos (by omega)]
  · rw [if_neg h1]
    by_cases h2 : k < i + 1
    · rw [if_pos h2, show k = i by omega, hj]
    · rw [if_neg h2]⟩
theorem J3.set {I' : Nat → Nat → Int32} {i : Nat} (h : J3 I I' r nv ns nl e bes i) {v : Int32} (hv : v = rJ r nv nl e bes i) : J3 I (pd_up I' 133 i v) r nv ns nl e bes (i + 1) := ⟨fun x j q1 q2 q3 q4 => by rw [pd_up_nb q1]; exact h.1 x j q1 q2 q3 q4, by rw [pd_up_nb (by decide)]; exact h.2.1, fun k hk => by rw [pd_up_nb (by decide)]; exact h.2.2.1 k hk, fun k hk => by
  by_cases h1 : k = i
  · subst h1; rw [pd_up_at, if_pos (by omega), hv]
  · rw [pd_up_nj h1, h.2.2.2 k hk]
    by_cases h2 : k < i
    · rw [if_pos h2, if_pos (by omega)]
    · rw [if_neg h2, if_neg (by omega)]⟩
theorem lp_X9_j3 (hR : RS R) (hq : RQ I 122 r) (hr : Row r nv ns nl e) {b : Int32} : ∀ (k i : Nat) (I' : Nat → Nat → Int32), i + k = nl → J3 I I' r nv ns nl e bes i → pd_At G mi_X9_judges 5 0 0 0 0 248 [some (.ref (pd_z G + 119)), some (.ref (pd_z G + 122)), some (.int b), some (.int (nI (bS (rOk r nv nl e bes) (rW r nv) i))), some (.int (nI i)), none, none] [] (SD, false, I', L, R) (pd_re R fun I2 L2 => L2 = L ∧ J3 I I2 r nv ns nl e bes nl) := by
  have h40 := hr.2.2.1.2
  have h8 := hr.2.1.2
  have hv16 := hr.1.2
  intro k
  induction k with
  | zero =>
    intro i I' hi hI
    have e0 : i = nl := by omega
    subst e0
    have h2 : I' 122 (2 : Int32).toNatClampNeg = nI i := (hI.1.row hq 2 (by decide)).trans hr.2.2.1.1
    refine at_iload dX9_judges_248 rfl ?_
    refine at_aload_n dX9_judges_250 rfl ?_
    refine at_iconst dX9_judges_251 pc_i2 ?_
    refine at_iald sd_122 (vp_in_nI (n := 2) (by decide) (by decide)) dX9_judges_252 ?_
    rw [h2]
    refine at_icmpge (tgt := 343) dX9_judges_253 (by decide) (fun c253 => ?_) (fun c253 => ?_)
    · -- taken 253
      refine at_vret rfl dX9_judges_343 ?_
      exact ⟨rfl, _, _, rfl, rfl, hI⟩
    · -- not taken 253
      exact absurd (nI_le (Nat.le_refl _) (by omega)) c253
  | succ k ih =>
    intro i I' hi hI
    have hq' := hI.1.row hq
    have h2 : I' 122 (2 : Int32).toNatClampNeg = nI nl := (hq' 2 (by decide)).trans hr.2.2.1.1
    have hhi : I' 133 i = rH r nv e i := by rw [hI.2.2.2 i (by omega), if_neg (by omega)]
    have hcl : (nI i).toNatClampNeg = i := nI_clamp (by omega)
    obtain ⟨t, ht, hsh⟩ := hr.2.2.2.2.2.1 i (by omega)
    have hshc : (rSh r i).toNatClampNeg = t := by rw [hsh, nI_clamp (by omega)]
    have hlt := bsum_lt (rK r nv nl e bes) ns
    have hp8 : 2 ^ ns ≤ 2 ^ 8 := Nat.pow_le_pow_right (by decide) h8
    have hb16 := bS_lt (rOk r nv nl e bes) (rW r nv) i
    have htb : (bsum (rK r nv nl e bes) ns).testBit t = rK r nv nl e bes t := by rw [bsum_bit]; simp [ht]
    by_cases hH : rH r nv e i = 0
    · have hne : ¬ rW r nv i = -1 := fun h => by rw [rH, if_pos h] at hH; exact absurd hH (by decide)
      obtain ⟨v, hv, hw⟩ := (rW_is r nv i).resolve_left hne
      have hvb : (bS (rOk r nv nl e bes) (rW r nv) i).testBit v = decide (0 < fb_ct (fun k => rOk r nv nl e bes k && decide (rW r nv k = rW r nv i)) i) := by
        unfold bS; rw [bsum_bit, hw]; simp; omega
      have hJ : rJ r nv nl e bes i = if rK r nv nl e bes t then 4 else if 0 < fb_ct (fun k => rOk r nv nl e bes k && decide (rW r nv k = rW r nv i)) i then 5 else 0 := by rw [rJ, if_neg (by simpa using hH), hshc]
      have hOk : rOk r nv nl e bes i = !rK r nv nl e bes t := by rw [rOk, decide_eq_true hH, hshc, Bool.true_and]
      refine at_iload dX9_judges_248 rfl ?_
      refine at_aload_n dX9_judges_250 rfl ?_
      refine at_iconst dX9_judges_251 pc_i2 ?_
      refine at_iald sd_122 (vp_in_nI (n := 2) (by decide) (by decide)) dX9_judges_252 ?_
      rw [h2]
      refine at_icmpge (tgt := 343) dX9_judges_253 (by decide) (fun c253 => ?_) (fun c253 => ?_)
      · -- taken 253
        exact absurd c253 (nI_ge (by omega) (by omega))
      · -- not taken 253
        refine at_aload_n dX9_judges_256 rfl ?_
        refine at_getr (133) flX9_31 rfl sd_119 (rs_119_16 hR) dX9_judges_257 ?_
        refine at_iload dX9_judges_260 rfl ?_
        refine at_iald sd_133 (vp_in_nI (by omega) (by decide)) dX9_judges_262 ?_
        rw [hcl, hhi]
        refine at_ifeq (tgt := 269) dX9_judges_263 (by decide) (fun c263 => ?_) (fun c263 => ?_)
        · -- taken 263
          refine at_aload_n dX9_judges_269 rfl ?_
          refine at_geti flX9_228 rfl sd_119 dX9_judges_270 ?_
          refine at_aload_n dX9_judges_273 rfl ?_
          refine at_iload dX9_judges_274 rfl ?_
          refine at_iconst dX9_judges_276 pc_i2 ?_
          refine at_cs2 csX9_124 (ev_X9_lineAt i 2 (67 + 4 * i) (by omega)) (by decide) ⟨Nat.le_refl _, Nat.le_refl _⟩ (Nat.le_of_ble_eq_true rfl) dX9_judges_277 (pd_k1 ?_)
          refine at_iald sd_122 (vp_in_nI (by omega) (by decide)) dX9_judges_280 ?_
          rw [hI.2.1, nI_clamp (by omega), hq' _ (by omega), show r (67 + 4 * i) = nI t from hsh]
          refine at_ishr dX9_judges_281 ?_
          refine at_iconst dX9_judges_282 pc_i1 ?_
          refine at_iand dX9_judges_283 ?_
          rw [i_tb (by omega) (by omega), htb]
          refine at_iconst dX9_judges_284 pc_i1 ?_
          refine at_icmpne (tgt := 299) dX9_judges_285 (by decide) (fun c285 => ?_) (fun c285 => ?_)
          · -- taken 285
            have k285 : rK r nv nl e bes t = false := by cases hb : rK r nv nl e bes t <;> first | rfl | exact absurd (by rw [hb]; rfl) c285
            refine at_iload_n dX9_judges_299 rfl ?_
            refine at_aload_n dX9_judges_300 rfl ?_
            refine at_getr (134) flX9_34 rfl sd_119 (rs_119_17 hR) dX9_judges_301 ?_
            refine at_iload dX9_judges_304 rfl ?_
            refine at_iald sd_134 (vp_in_nI (by omega) (by decide)) dX9_judges_306 ?_
            rw [hcl, hI.2.2.1 i (by omega), hw]
            refine at_ishr dX9_judges_307 ?_
            refine at_iconst dX9_judges_308 pc_i1 ?_
            refine at_iand dX9_judges_309 ?_
            rw [i_tb (by omega) (by omega), hvb]
            refine at_iconst dX9_judges_310 pc_i1 ?_
            refine at_icmpne (tgt := 325) dX9_judges_311 (by decide) (fun c311 => ?_) (fun c311 => ?_)
            · -- taken 311
              have k311 : ¬ 0 < fb_ct (fun k => rOk r nv nl e bes k && decide (rW r nv k = rW r nv i)) i := fun q => c311 (by rw [decide_eq_true q]; rfl)
              refine at_iload_n dX9_judges_325 rfl ?_
              refine at_iconst dX9_judges_326 pc_i1 ?_
              refine at_aload_n dX9_judges_327 rfl ?_
              refine at_getr (134) flX9_34 rfl sd_119 (rs_119_17 hR) dX9_judges_328 ?_
              refine at_iload dX9_judges_331 rfl ?_
              refine at_iald sd_134 (vp_in_nI (by omega) (by decide)) dX9_judges_333 ?_
              rw [hcl, hI.2.2.1 i (by omega), hw]
              refine at_ishl dX9_judges_334 ?_
              refine at_ior dX9_judges_335 ?_
              rw [i_sh1 v (by omega), fa_or]
              refine at_istore_n dX9_judges_336 rfl (Nat.le_of_ble_eq_true rfl) ?_
              refine at_inc dX9_judges_337 rfl pc_i1 rfl (Nat.le_of_ble_eq_true rfl) ?_
              refine at_goto (tgt := 248) dX9_judges_340 (by decide) ?_
              rw [nI_1 i]
              first | (rw [hcl]; rw [← bS_no (i := i) (by rw [hOk, k285]; rfl)]; exact ih (i + 1) _ (by omega) (hI.set (by rw [hJ, k285]; rfl))) | (rw [hcl]; have hbs := bS_yes (q := rOk r nv nl e bes) (i := i) (by rw [hOk, k285]; rfl) hw (by omega); rw [or_same (by rw [hvb]; exact decide_eq_true k311)] at hbs; rw [← hbs]; exact ih (i + 1) _ (by omega) (hI.set (by rw [hJ, k285, if_neg (by decide), if_pos k311]))) | (rw [← bS_yes (q := rOk r nv nl e bes) (i := i) (by rw [hOk, k285]; rfl) hw (by omega)]; exact ih (i + 1) _ (by omega) (hI.same (by rw [hJ, k285, if_neg (by decide), if_neg k311, hH])))
            · -- not taken 311
              have k311 := of_decide_eq_true (i_of1.mp (b := decide (0 < fb_ct (fun k => rOk r nv nl e bes k && decide (rW r nv k = rW r nv i)) i)) (by rw [c311]; decide))
              refine at_aload_n dX9_judges_314 rfl ?_
              refine at_getr (133) flX9_31 rfl sd_119 (rs_119_16 hR) dX9_judges_315 ?_
              refine at_iload dX9_judges_318 rfl ?_
              refine at_iconst dX9_judges_320 pc_i5 ?_
              refine at_iast sd_133 (vp_in_nI (by omega) (by decide)) dX9_judges_321 ?_
              refine at_goto (tgt := 337) dX9_judges_322 (by decide) ?_
              refine at_inc dX9_judges_337 rfl pc_i1 rfl (Nat.le_of_ble_eq_true rfl) ?_
              refine at_goto (tgt := 248) dX9_judges_340 (by decide) ?_
              rw [nI_1 i]
              first | (rw [hcl]; rw [← bS_no (i := i) (by rw [hOk, k285]; rfl)]; exact ih (i + 1) _ (by omega) (hI.set (by rw [hJ, k285]; rfl))) | (rw [hcl]; have hbs := bS_yes (q := rOk r nv nl e bes) (i := i) (by rw [hOk, k285]; rfl) hw (by omega); rw [or_same (by rw [hvb]; exact decide_eq_true k311)] at hbs; rw [← hbs]; exact ih (i + 1) _ (by omega) (hI.set (by rw [hJ, k285, if_neg (by decide), if_pos k311]))) | (rw [← bS_yes (q := rOk r nv nl e bes) (i := i) (by rw [hOk, k285]; rfl) hw (by omega)]; exact ih (i + 1) _ (by omega) (hI.same (by rw [hJ, k285, if_neg (by decide), if_neg k311, hH])))
          · -- not taken 285
            have k285 : rK r nv nl e bes t = true := i_of1.mp (by rw [c285]; decide)
            refine at_aload_n dX9_judges_288 rfl ?_
            refine at_getr (133) flX9_31 rfl sd_119 (rs_119_16 hR) dX9_judges_289 ?_
            refine at_iload dX9_judges_292 rfl ?_
            refine at_iconst dX9_judges_294 pc_i4 ?_
            refine at_iast sd_133 (vp_in_nI (by omega) (by decide)) dX9_judges_295 ?_
            refine at_goto (tgt := 337) dX9_judges_296 (by decide) ?_
            refine at_inc dX9_judges_337 rfl pc_i1 rfl (Nat.le_of_ble_eq_true rfl) ?_
            refine at_goto (tgt := 248) dX9_judges_340 (by decide) ?_
            rw [nI_1 i]
            first | (rw [hcl]; rw [← bS_no (i := i) (by rw [hOk, k285]; rfl)]; exact ih (i + 1) _ (by omega) (hI.set (by rw [hJ, k285]; rfl))) | (rw [hcl]; have hbs := bS_yes (q := rOk r nv nl e bes) (i := i) (by rw [hOk, k285]; rfl) hw (by omega); rw [or_same (by rw [hvb]; exact decide_eq_true k311)] at hbs; rw [← hbs]; exact ih (i + 1) _ (by omega) (hI.set (by rw [hJ, k285, if_neg (by decide), if_pos k311]))) | (rw [← bS_yes (q := rOk r nv nl e bes) (i := i) (by rw [hOk, k285]; rfl) hw (by omega)]; exact ih (i + 1) _ (by omega) (hI.same (by rw [hJ, k285, if_neg (by decide), if_neg k311, hH])))
        · -- not taken 263
          exact absurd hH c263
    · have hJ : rJ r nv nl e bes i = rH r nv e i := by rw [rJ, if_pos hH]
      have hOk : rOk r nv nl e bes i = false := by rw [rOk, decide_eq_false hH, Bool.false_and]
      refine at_iload dX9_judges_248 rfl ?_
      refine at_aload_n dX9_judges_250 rfl ?_
      refine at_iconst dX9_judges_251 pc_i2 ?_
      refine at_iald sd_122 (vp_in_nI (n := 2) (by decide) (by decide)) dX9_judges_252 ?_
      rw [h2]
      refine at_icmpge (tgt := 343) dX9_judges_253 (by decide) (fun c253 => ?_) (fun c253 => ?_)
      · -- taken 253
        exact absurd c253 (nI_ge (by omega) (by omega))
      · -- not taken 253
        refine at_aload_n dX9_judges_256 rfl ?_
        refine at_getr (133) flX9_31 rfl sd_119 (rs_119_16 hR) dX9_judges_257 ?_
        refine at_iload dX9_judges_260 rfl ?_
        refine at_iald sd_133 (vp_in_nI (by omega) (by decide)) dX9_judges_262 ?_
        rw [hcl, hhi]
        refine at_ifeq (tgt := 269) dX9_judges_263 (by decide) (fun c263 => ?_) (fun c263 => ?_)
        · -- taken 263
          exact absurd c263 hH
        · -- not taken 263
          refine at_goto (tgt := 337) dX9_judges_266 (by decide) ?_
          refine at_inc dX9_judges_337 rfl pc_i1 rfl (Nat.le_of_ble_eq_true rfl) ?_
          refine at_goto (tgt := 248) dX9_judges_340 (by decide) ?_
          rw [nI_1 i, ← bS_no (i := i) hOk]
          exact ih (i + 1) _ (by omega) (hI.same hJ)
theorem ev_X9_judges (hR : RS R) (hq : RQ I 122 r) (hr : Row r nv ns nl e) (hbes : bes < 256) : pd_Ev G mi_X9_judges 5 0 0 [.ref (pd_z G + 119), .ref (pd_z G + 122), .int (nI bes)] (SD, false, I, L, R) (pd_re R fun I' L' => L' = L ∧ JF I I' ∧ JR I' r nv ns nl e bes) := by
  have k3 : ∀ I2, J1 I I2 r nv e (nI (bsum (rK r nv nl e bes) ns)) nl → pd_At G mi_X9_judges 5 0 0 0 0 243 [some (.ref (pd_z G + 119)), some (.ref (pd_z G + 122)), some (.int (nI bes)), some (.int (nI ns)), none, none, none] [] (SD, false, I2, L, R) (pd_re R fun I' L' => L' = L ∧ JF I I' ∧ JR I' r nv ns nl e bes) := by
    intro I2 hI
    have z : bS (rOk r nv nl e bes) (rW r nv) 0 = 0 := bsum_none (fun _ _ => rfl)
    refine at_iconst dX9_judges_243 pc_i0 ?_
    refine at_istore_n dX9_judges_244 rfl (Nat.le_of_ble_eq_true rfl) ?_
    refine at_iconst dX9_judges_245 pc_i0 ?_
    refine at_istore dX9_judges_246 rfl (Nat.le_of_ble_eq_true rfl) ?_
    have h := lp_X9_j3 (G := G) (L := L) (I := I) (bes := bes) (b := nI bes) hR hq hr nl 0 I2 (by omega) ⟨hI.1, hI.2.1, hI.2.2.1, fun k hk => by rw [if_neg (by omega)]; exact hI.2.2.2 k hk⟩
    rw [z] at h
    refine pd_At_mono h ?_
    rintro o M' ⟨rfl, I3, L3, rfl, rfl, hJ⟩
    exact ⟨rfl, _, _, rfl, rfl, hJ.1, fun k hk => by rw [hJ.2.2.2 k hk, if_pos hk], hJ.2.2.1, hJ.2.1⟩
  have k2 : ∀ I2, J1 I I2 r nv e 0 nl → pd_At G mi_X9_judges 5 0 0 0 0 121 [some (.ref (pd_z G + 119)), some (.ref (pd_z G + 122)), some (.int (nI bes)), some (.int (nI nl)), none, none, none] [] (SD, false, I2, L, R) (pd_re R fun I' L' => L' = L ∧ JF I I' ∧ JR I' r nv ns nl e bes) := by
    intro I2 hI
    refine at_iconst dX9_judges_121 pc_i0 ?_
    refine at_istore_n dX9_judges_122 rfl (Nat.le_of_ble_eq_true rfl) ?_
    exact lp_X9_j2 hR hq hr hbes k3 ns 0 I2 (by omega) hI
  refine pd_ev 4 (lo := [some (.ref (pd_z G + 119)), some (.ref (pd_z G + 122)), some (.int (nI bes)), none, none, none, none]) (by decide +kernel) (Nat.le_of_ble_eq_true rfl) rfl ?_
  refine at_aload_n dX9_judges_0 rfl ?_
  refine at_iconst dX9_judges_1 pc_i0 ?_
  refine at_puti flX9_228 rfl sd_119 (fun _ _ _ hq => by cases hq; rfl) dX9_judges_2 ?_
  refine at_iconst dX9_judges_5 pc_i0 ?_
  refine at_istore_n dX9_judges_6 rfl (Nat.le_of_ble_eq_true rfl) ?_
  exact lp_X9_j1 hR hq hr k2 nl 0 _ (by omega) ⟨fun x j _ _ _ q4 => by unfold pd_up; rw [if_neg q4], pd_up_at, fun k hk => absurd hk (Nat.not_lt_zero _), fun k hk => absurd hk (Nat.not_lt_zero _)⟩
end REF4
