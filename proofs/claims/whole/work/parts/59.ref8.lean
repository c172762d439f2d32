/-! ===== the reference: samples asked, the odds, the worst ===== -/
theorem ct_of {p : Nat → Bool} {i : Nat} : nI (fb_ct p i) + i_of (p i) = nI (fb_ct p (i + 1)) := by
  cases h : p i with
  | false => exact ct_f h
  | true => exact ct_t h
/-- each has one number: those counted number by number are all -/
theorem sm_all {q : Nat → Bool} {w : Nat → Int32} : ∀ n, (∀ l, l < n → q l = true → ∃ v, v < 16 ∧ w l = nI v) → fb_sm (fun v => fb_ct (fun l => q l && decide (w l = nI v)) n) 16 = fb_ct q n
  | 0, _ => by
    show fb_sm (fun _ => 0) 16 = 0
    rw [fb_sm_const]
  | n + 1, h => by
    have ih := sm_all n (fun l hl => h l (by omega))
    cases hq : q n with
    | false =>
      rw [ct_n hq, ← ih]
      exact fb_sm_cong (fun v _ => by rw [ct_n (i := n)]; simp [hq])
    | true =>
      obtain ⟨u, hu, hw⟩ := h n (by omega) hq
      have e2 := fb_sm_upd (fun v => fb_ct (fun l => q l && decide (w l = nI v)) n) (fb_ct (fun l => q l && decide (w l = nI u)) n + 1) hu
      have e3 : fb_sm (fun v => fb_ct (fun l => q l && decide (w l = nI v)) (n + 1)) 16 = fb_sm (fun k => if k = u then fb_ct (fun l => q l && decide (w l = nI u)) n + 1 else fb_ct (fun l => q l && decide (w l = nI k)) n) 16 := fb_sm_cong (fun v hv => by
        by_cases hvu : v = u
        · subst hvu; rw [if_pos rfl, fb_ct_succ, if_pos (by simp [hq, hw])]
        · rw [if_neg hvu, ct_n (i := n)]
          have : ¬ nI u = nI v := fun z => hvu ((nI_eq (by omega) (by omega)).mp z).symm
          simp [hw, this])
      rw [e3, fb_ct_succ, if_pos hq]
      omega
theorem wp_0 {f t : Nat → Nat} {i : Nat} (h : t i = 0) : ∀ k, wp f t (i + 1) k = wp f t i k
  | 0 => rfl
  | k + 1 => by rw [wp, h, Nat.zero_mul, Nat.add_zero]
theorem wp_0s {f t : Nat → Nat} {i : Nat} : ∀ d, (∀ j, i ≤ j → j < i + d → t j = 0) → ∀ k, wp f t (i + d) k = wp f t i k
  | 0, _, _ => rfl
  | d + 1, h, k => by
    rw [show i + (d + 1) = i + d + 1 by omega, wp_0 (h (i + d) (by omega) (by omega)), wp_0s d (fun j h1 h2 => h j h1 (by omega))]
section REF8
variable {G : pd_G} {I : Nat → Nat → Int32} {L : Nat → Nat → Int64} {R : Nat → Nat → Option Nat} {nv ns nl : Nat} {e : List rl_S} {r : Nat → Int32}
theorem ev_X9_drawn (hR : RS R) (hq : RQ I 122 r) (hr : Row r nv ns nl e) (x what : Int32) : pd_Ev G mi_X9_drawn 8 0 0 [.ref (pd_z G + 119), .int x, .int what] (SD, false, I, L, R) (m_x I L R (j1 9 (inR x 0 1 && inR what 0 5)) 8 (.int (dwV r nv nl e x.toNatClampNeg what)) (.int 0) (QK I L)) := by
  have h40 := hr.2.2.1.2
  refine pd_ev 4 (lo := [some (.ref (pd_z G + 119)), some (.int x), some (.int what), none, none, none, none]) (by decide +kernel) (Nat.le_of_ble_eq_true rfl) rfl ?_
  refine at_aload_n dX9_drawn_0 rfl ?_
  refine at_iconst dX9_drawn_1 pc_i0 ?_
  refine at_puti flX9_48 rfl sd_119 (fun _ _ _ hq => by cases hq; rfl) dX9_drawn_2 ?_
  refine at_aload_n dX9_drawn_5 rfl ?_
  refine at_iload_n dX9_drawn_6 rfl ?_
  refine at_cs1 csX9_251 (ev_X9_isSample x) (by decide) ⟨Nat.le_refl _, Nat.le_refl _⟩ (Nat.le_of_ble_eq_true rfl) dX9_drawn_7 (pd_k1 ?_)
  refine at_ifeq (tgt := 25) dX9_drawn_10 (by decide) (fun c10 => ?_) (fun c10 => ?_)
  · -- taken 10
    have k10 := i_of0.mp c10
    refine at_iconst dX9_drawn_25 pc_i1 ?_
    refine at_goto (tgt := 30) dX9_drawn_26 (by decide) ?_
    refine at_iconst dX9_drawn_30 pc_i1 ?_
    refine at_iconst dX9_drawn_31 pc_i1 ?_
    refine at_cv3 cvX9_204 sd_119 (ev_X9_bad1 hR (pd_up_at) (c := 1) (y := 1) ⟨by decide, by decide⟩ (by decide)) (by decide) ⟨Nat.le_refl _, Nat.le_refl _⟩ (Nat.le_of_ble_eq_true rfl) dX9_drawn_32 (pd_k1 ?_)
    refine at_ifeq (tgt := 40) dX9_drawn_35 (by decide) (fun c35 => ?_) (fun c35 => ?_)
    · -- taken 35
      exact absurd c35 (by decide)
    · -- not taken 35
      refine at_iconst dX9_drawn_38 pc_i0 ?_
      refine at_iret rfl dX9_drawn_39 ?_
      first | exact m_rf 1 (by rw [k10]; rfl) rfl | exact m_rf 1 (by rw [k22, Bool.and_false]; rfl) rfl
  · -- not taken 10
    have k10 := i_of1.mp c10
    refine at_iload_n dX9_drawn_13 rfl ?_
    refine at_i2l dX9_drawn_14 ?_
    refine at_lconst dX9_drawn_15 pc_l0 ?_
    refine at_ldc2 coX9_285 dX9_drawn_16 ?_
    refine at_cs3 csX9_107 (ev_X9_in _ _ _) (by decide) ⟨Nat.le_refl _, Nat.le_refl _⟩ (Nat.le_of_ble_eq_true rfl) dX9_drawn_19 (pd_k1 ?_)
    rw [inL_c what 0 5 (by decide) (by decide)]
    refine at_ifne (tgt := 29) dX9_drawn_22 (by decide) (fun c22 => ?_) (fun c22 => ?_)
    · -- taken 22
      have k22 := i_of1.mp c22
      refine at_iconst dX9_drawn_29 pc_i0 ?_
      refine at_iconst dX9_drawn_30 pc_i1 ?_
      refine at_iconst dX9_drawn_31 pc_i1 ?_
      refine at_cv3 cvX9_204 sd_119 (ev_X9_bad0 hR (pd_up_at) _ _) (by decide) ⟨Nat.le_refl _, Nat.le_refl _⟩ (Nat.le_of_ble_eq_true rfl) dX9_drawn_32 (pd_k1 ?_)
      refine at_ifeq (tgt := 40) dX9_drawn_35 (by decide) (fun c35 => ?_) (fun c35 => ?_)
      · -- taken 35
        have hj : j1 9 (inR x 0 1 && inR what 0 5) = 0 := by rw [k10, k22]; rfl
        obtain ⟨w, hw, rfl⟩ := inR_of (n := 1) (by decide) k10
        rw [nI_clamp (n := w) (by omega)]
        have hcC : smC r nl w ≤ nl := fb_ct_le _ _
        have hgC := smG_le (r := r) (nv := nv) (nl := nl) (e := e) w
        refine at_aload_n dX9_drawn_40 rfl ?_
        refine at_aload_n dX9_drawn_41 rfl ?_
        refine at_getr (122) flX9_20 rfl sd_119 (rs_119_9 hR) dX9_drawn_42 ?_
        refine at_iconst dX9_drawn_45 pc_i0 ?_
        refine at_cv2 cvX9_255 sd_119 (ev_X9_judges (e := e) (bes := 0) hR hq.up hr (by decide)) (by decide) ⟨Nat.le_refl _, Nat.le_refl _⟩ (Nat.le_of_ble_eq_true rfl) dX9_drawn_46 (pd_ke fun I2 L2 hj2 => ?_)
        obtain ⟨rfl, hF, hJ⟩ := hj2
        have hq2 := hF.row hq.up
        refine at_aload_n dX9_drawn_49 rfl ?_
        refine at_iload_n dX9_drawn_50 rfl ?_
        refine at_cv1 cvX9_304 sd_119 (ev_X9_sizeOf hR hq2 hr (w := w) (by omega)) (by decide) ⟨Nat.le_refl _, Nat.le_refl _⟩ (Nat.le_of_ble_eq_true rfl) dX9_drawn_51 (pd_k1 ?_)
        refine at_istore_n dX9_drawn_54 rfl (Nat.le_of_ble_eq_true rfl) ?_
        refine at_aload_n dX9_drawn_55 rfl ?_
        refine at_iload_n dX9_drawn_56 rfl ?_
        refine at_cv1 cvX9_259 sd_119 (ev_X9_goodIn hR hq2 hr hJ.1 (w := w) (by omega)) (by decide) ⟨Nat.le_refl _, Nat.le_refl _⟩ (Nat.le_of_ble_eq_true rfl) dX9_drawn_57 (pd_k1 ?_)
        refine at_istore dX9_drawn_60 rfl (Nat.le_of_ble_eq_true rfl) ?_
        refine at_iload_n dX9_drawn_62 rfl ?_
        refine at_iconst dX9_drawn_63 pc_i3 ?_
        refine at_icmpge (tgt := 91) dX9_drawn_64 (by decide) (fun c64 => ?_) (fun c64 => ?_)
        · -- taken 64
          have a3 : 3 ≤ what ∨ ¬ 3 ≤ what := by first | exact Or.inl c64 | exact Or.inr c64
          refine at_iload_n dX9_drawn_91 rfl ?_
          refine at_ifne (tgt := 97) dX9_drawn_92 (by decide) (fun c92 => ?_) (fun c92 => ?_)
          · -- taken 92
            rw [show nI (smC r nl w) = 0 ↔ smC r nl w = 0 from nI_eq (b := 0) (by omega) (by decide)] at c92
            have n0 : ¬ what = 0 := fun z => by rw [z] at c64; exact absurd c64 (by decide)
            have n1 : ¬ what = 1 := fun z => by rw [z] at c64; exact absurd c64 (by decide)
            have n2 : ¬ what = 2 := fun z => by rw [z] at c64; exact absurd c64 (by decide)
            refine at_aload_n dX9_drawn_97 rfl ?_
            refine at_iload_n dX9_drawn_98 rfl ?_
            refine at_iload dX9_drawn_99 rfl ?_
            refine at_cv2 cvX9_310 sd_119 (ev_X9_low hR hq2 hr hcC hgC) (by decide) ⟨Nat.le_refl _, Nat.le_refl _⟩ (Nat.le_of_ble_eq_true rfl) dX9_drawn_101 (pd_k1 ?_)
            refine at_istore dX9_drawn_104 rfl (Nat.le_of_ble_eq_true rfl) ?_
            refine at_aload_n dX9_drawn_106 rfl ?_
            refine at_iload_n dX9_drawn_107 rfl ?_
            refine at_iload dX9_drawn_108 rfl ?_
            refine at_cv2 cvX9_313 sd_119 (ev_X9_high hR hq2 hr hcC hgC) (by decide) ⟨Nat.le_refl _, Nat.le_refl _⟩ (Nat.le_of_ble_eq_true rfl) dX9_drawn_110 (pd_k1 ?_)
            refine at_istore dX9_drawn_113 rfl (Nat.le_of_ble_eq_true rfl) ?_
            refine at_iload_n dX9_drawn_115 rfl ?_
            refine at_iconst dX9_drawn_116 pc_i3 ?_
            refine at_icmpne (tgt := 125) dX9_drawn_117 (by decide) (fun c117 => ?_) (fun c117 => ?_)
            · -- taken 117
              refine at_iload_n dX9_drawn_125 rfl ?_
              refine at_iconst dX9_drawn_126 pc_i4 ?_
              refine at_icmpne (tgt := 135) dX9_drawn_127 (by decide) (fun c127 => ?_) (fun c127 => ?_)
              · -- taken 127
                refine at_iload dX9_drawn_135 rfl ?_
                refine at_aload_n dX9_drawn_137 rfl ?_
                refine at_getr (122) flX9_20 rfl sd_119 (rs_119_9 hR) dX9_drawn_138 ?_
                refine at_iconst dX9_drawn_141 pc_i3 ?_
                refine at_iald sd_122 (vp_in_nI (n := 3) (by decide) (by decide)) dX9_drawn_142 ?_
                rw [show I2 122 (3 : Int32).toNatClampNeg = r 3 from hq2 3 (by decide)]
                refine at_icmplt (tgt := 150) dX9_drawn_143 (by decide) (fun c143 => ?_) (fun c143 => ?_)
                · -- taken 143
                  refine at_iload dX9_drawn_150 rfl ?_
                  refine at_aload_n dX9_drawn_152 rfl ?_
                  refine at_getr (122) flX9_20 rfl sd_119 (rs_119_9 hR) dX9_drawn_153 ?_
                  refine at_iconst dX9_drawn_156 pc_i3 ?_
                  refine at_iald sd_122 (vp_in_nI (n := 3) (by decide) (by decide)) dX9_drawn_157 ?_
                  rw [show I2 122 (3 : Int32).toNatClampNeg = r 3 from hq2 3 (by decide)]
                  refine at_icmpge (tgt := 165) dX9_drawn_158 (by decide) (fun c158 => ?_) (fun c158 => ?_)
                  · -- taken 158
                    refine at_iconst dX9_drawn_165 pc_i0 ?_
                    refine at_iret rfl dX9_drawn_166 ?_
                    refine m_yes hj ?_ hF.t0 hF.mq
                    rw [dwV, if_neg n0, if_neg n1, if_neg n2, if_neg c92]
                    first | (rw [if_pos c117]; done) | (rw [if_neg c117, if_pos c127]; done) | (rw [if_neg c117, if_neg c127, vdV, if_pos (fa_of_nlt c143)]; done) | (rw [if_neg c117, if_neg c127, vdV, if_neg (fa_of_lt c143).2.1, if_pos (fa_of_nle c158)]; done) | (rw [if_neg c117, if_neg c127, vdV, if_neg (fa_of_lt c143).2.1, if_neg (fun q => (fa_of_lt q).2.1 c158)]; done)
                  · -- not taken 158
                    refine at_iconst dX9_drawn_161 pc_i2 ?_
                    refine at_goto (tgt := 166) dX9_drawn_162 (by decide) ?_
                    refine at_iret rfl dX9_drawn_166 ?_
                    refine m_yes hj ?_ hF.t0 hF.mq
                    rw [dwV, if_neg n0, if_neg n1, if_neg n2, if_neg c92]
                    first | (rw [if_pos c117]; done) | (rw [if_neg c117, if_pos c127]; done) | (rw [if_neg c117, if_neg c127, vdV, if_pos (fa_of_nlt c143)]; done) | (rw [if_neg c117, if_neg c127, vdV, if_neg (fa_of_lt c143).2.1, if_pos (fa_of_nle c158)]; done) | (rw [if_neg c117, if_neg c127, vdV, if_neg (fa_of_lt c143).2.1, if_neg (fun q => (fa_of_lt q).2.1 c158)]; done)
                · -- not taken 143
                  refine at_iconst dX9_drawn_146 pc_i1 ?_
                  refine at_goto (tgt := 166) dX9_drawn_147 (by decide) ?_
                  refine at_iret rfl dX9_drawn_166 ?_
                  refine m_yes hj ?_ hF.t0 hF.mq
                  rw [dwV, if_neg n0, if_neg n1, if_neg n2, if_neg c92]
                  first | (rw [if_pos c117]; done) | (rw [if_neg c117, if_pos c127]; done) | (rw [if_neg c117, if_neg c127, vdV, if_pos (fa_of_nlt c143)]; done) | (rw [if_neg c117, if_neg c127, vdV, if_neg (fa_of_lt c143).2.1, if_pos (fa_of_nle c158)]; done) | (rw [if_neg c117, if_neg c127, vdV, if_neg (fa_of_lt c143).2.1, if_neg (fun q => (fa_of_lt q).2.1 c158)]; done)
              · -- not taken 127
                refine at_iload dX9_drawn_130 rfl ?_
                refine at_goto (tgt := 166) dX9_drawn_132 (by decide) ?_
                refine at_iret rfl dX9_drawn_166 ?_
                refine m_yes hj ?_ hF.t0 hF.mq
                rw [dwV, if_neg n0, if_neg n1, if_neg n2, if_neg c92]
                first | (rw [if_pos c117]; done) | (rw [if_neg c117, if_pos c127]; done) | (rw [if_neg c117, if_neg c127, vdV, if_pos (fa_of_nlt c143)]; done) | (rw [if_neg c117, if_neg c127, vdV, if_neg (fa_of_lt c143).2.1, if_pos (fa_of_nle c158)]; done) | (rw [if_neg c117, if_neg c127, vdV, if_neg (fa_of_lt c143).2.1, if_neg (fun q => (fa_of_lt q).2.1 c158)]; done)
            · -- not taken 117
              refine at_iload dX9_drawn_120 rfl ?_
              refine at_goto (tgt := 166) dX9_drawn_122 (by decide) ?_
              refine at_iret rfl dX9_drawn_166 ?_
              refine m_yes hj ?_ hF.t0 hF.mq
              rw [dwV, if_neg n0, if_neg n1, if_neg n2, if_neg c92]
              first | (rw [if_pos c117]; done) | (rw [if_neg c117, if_pos c127]; done) | (rw [if_neg c117, if_neg c127, vdV, if_pos (fa_of_nlt c143)]; done) | (rw [if_neg c117, if_neg c127, vdV, if_neg (fa_of_lt c143).2.1, if_pos (fa_of_nle c158)]; done) | (rw [if_neg c117, if_neg c127, vdV, if_neg (fa_of_lt c143).2.1, if_neg (fun q => (fa_of_lt q).2.1 c158)]; done)
          · -- not taken 92
            rw [show nI (smC r nl w) = 0 ↔ smC r nl w = 0 from nI_eq (b := 0) (by omega) (by decide)] at c92
            have n0 : ¬ what = 0 := fun z => by rw [z] at c64; exact absurd c64 (by decide)
            have n1 : ¬ what = 1 := fun z => by rw [z] at c64; exact absurd c64 (by decide)
            have n2 : ¬ what = 2 := fun z => by rw [z] at c64; exact absurd c64 (by decide)
            refine at_iconst dX9_drawn_95 pc_im1 ?_
            refine at_iret rfl dX9_drawn_96 ?_
            refine m_yes hj ?_ hF.t0 hF.mq
            rw [dwV, if_neg n0, if_neg n1, if_neg n2, if_pos c92]
        · -- not taken 64
          have a3 : 3 ≤ what ∨ ¬ 3 ≤ what := by first | exact Or.inl c64 | exact Or.inr c64
          refine at_iload_n dX9_drawn_67 rfl ?_
          refine at_ifne (tgt := 75) dX9_drawn_68 (by decide) (fun c68 => ?_) (fun c68 => ?_)
          · -- taken 68
            refine at_iload_n dX9_drawn_75 rfl ?_
            refine at_iconst dX9_drawn_76 pc_i1 ?_
            refine at_icmpne (tgt := 85) dX9_drawn_77 (by decide) (fun c77 => ?_) (fun c77 => ?_)
            · -- taken 77
              refine at_aload_n dX9_drawn_85 rfl ?_
              refine at_iload_n dX9_drawn_86 rfl ?_
              refine at_cv1 cvX9_307 sd_119 (ev_X9_pairs hR hq2 hr hJ.1 hJ.2.1 (w := w) (by omega)) (by decide) ⟨Nat.le_refl _, Nat.le_refl _⟩ (Nat.le_of_ble_eq_true rfl) dX9_drawn_87 (pd_k1 ?_)
              refine at_iret rfl dX9_drawn_90 ?_
              refine m_yes hj ?_ hF.t0 hF.mq
              first | (rw [dwV, if_pos c68]; done) | (rw [dwV, if_neg c68, if_pos c77]; done) | (rw [dwV, if_neg c68, if_neg c77, if_pos]; (obtain ⟨q, hq5, rfl⟩ := inR_of (n := 5) (by decide) k22; have b3 : q < 3 := Nat.not_le.mp (fun z => c64 (nI_le (a := 3) z (by omega))); have b0 : q ≠ 0 := fun z => c68 (by rw [z]; rfl); have b1 : q ≠ 1 := fun z => c77 (by rw [z]; rfl); rw [show q = 2 by omega]; rfl))
            · -- not taken 77
              refine at_iload dX9_drawn_80 rfl ?_
              refine at_goto (tgt := 90) dX9_drawn_82 (by decide) ?_
              refine at_iret rfl dX9_drawn_90 ?_
              refine m_yes hj ?_ hF.t0 hF.mq
              first | (rw [dwV, if_pos c68]; done) | (rw [dwV, if_neg c68, if_pos c77]; done) | (rw [dwV, if_neg c68, if_neg c77, if_pos]; (obtain ⟨q, hq5, rfl⟩ := inR_of (n := 5) (by decide) k22; have b3 : q < 3 := Nat.not_le.mp (fun z => c64 (nI_le (a := 3) z (by omega))); have b0 : q ≠ 0 := fun z => c68 (by rw [z]; rfl); have b1 : q ≠ 1 := fun z => c77 (by rw [z]; rfl); rw [show q = 2 by omega]; rfl))
          · -- not taken 68
            refine at_iload_n dX9_drawn_71 rfl ?_
            refine at_goto (tgt := 90) dX9_drawn_72 (by decide) ?_
            refine at_iret rfl dX9_drawn_90 ?_
            refine m_yes hj ?_ hF.t0 hF.mq
            first | (rw [dwV, if_pos c68]; done) | (rw [dwV, if_neg c68, if_pos c77]; done) | (rw [dwV, if_neg c68, if_neg c77, if_pos]; (obtain ⟨q, hq5, rfl⟩ := inR_of (n := 5) (by decide) k22; have b3 : q < 3 := Nat.not_le.mp (fun z => c64 (nI_le (a := 3) z (by omega))); have b0 : q ≠ 0 := fun z => c68 (by rw [z]; rfl); have b1 : q ≠ 1 := fun z => c77 (by rw [z]; rfl); rw [show q = 2 by omega]; rfl))
      · -- not taken 35
        exact absurd rfl c35
    · -- not taken 22
      have k22 := i_of0.mp c22
      refine at_iconst dX9_drawn_25 pc_i1 ?_
      refine at_goto (tgt := 30) dX9_drawn_26 (by decide) ?_
      refine at_iconst dX9_drawn_30 pc_i1 ?_
      refine at_iconst dX9_drawn_31 pc_i1 ?_
      refine at_cv3 cvX9_204 sd_119 (ev_X9_bad1 hR (pd_up_at) (c := 1) (y := 1) ⟨by decide, by decide⟩ (by decide)) (by decide) ⟨Nat.le_refl _, Nat.le_refl _⟩ (Nat.le_of_ble_eq_true rfl) dX9_drawn_32 (pd_k1 ?_)
      refine at_ifeq (tgt := 40) dX9_drawn_35 (by decide) (fun c35 => ?_) (fun c35 => ?_)
      · -- taken 35
        exact absurd c35 (by decide)
      · -- not taken 35
        refine at_iconst dX9_drawn_38 pc_i0 ?_
        refine at_iret rfl dX9_drawn_39 ?_
        first | exact m_rf 1 (by rw [k10]; rfl) rfl | exact m_rf 1 (by rw [k22, Bool.and_false]; rfl) rfl
theorem ev_X9_estimate (hR : RS R) (hq : RQ I 122 r) (hr : Row r nv ns nl e) (x what : Int32) : pd_Ev G mi_X9_estimate 8 0 0 [.ref (pd_z G + 119), .int x, .int what] (SD, false, I, L, R) (m_x I L R (j2 9 (inR x 0 1 && inR what 0 1) 10 (decide (2 ≤ smC r nl x.toNatClampNeg))) 8 (.long (esV r nv nl e x.toNatClampNeg what)) (.long 0) (QK I L)) := by
  have h40 := hr.2.2.1.2
  by_cases hx : inR x 0 1 = true
  · obtain ⟨w, hw, rfl⟩ := inR_of (n := 1) (by decide) hx
    rw [nI_clamp (n := w) (by omega)]
    have hcC : smC r nl w ≤ nl := fb_ct_le _ _
    have hgC := smG_le (r := r) (nv := nv) (nl := nl) (e := e) w
    have hpC := smP_le (r := r) (nv := nv) (nl := nl) (e := e) h40 w
    refine pd_ev 4 (lo := [some (.ref (pd_z G + 119)), some (.int (nI w)), some (.int what), none, none, none, none]) (by decide +kernel) (Nat.le_of_ble_eq_true rfl) rfl ?_
    refine at_aload_n dX9_estimate_0 rfl ?_
    refine at_iconst dX9_estimate_1 pc_i0 ?_
    refine at_puti flX9_48 rfl sd_119 (fun _ _ _ hq => by cases hq; rfl) dX9_estimate_2 ?_
    refine at_aload_n dX9_estimate_5 rfl ?_
    refine at_iload_n dX9_estimate_6 rfl ?_
    refine at_cs1 csX9_251 (ev_X9_isSample (nI w)) (by decide) ⟨Nat.le_refl _, Nat.le_refl _⟩ (Nat.le_of_ble_eq_true rfl) dX9_estimate_7 (pd_k1 ?_)
    rw [hx]
    refine at_ifeq (tgt := 23) dX9_estimate_10 (by decide) (fun c10 => ?_) (fun c10 => ?_)
    · -- taken 10
      exact absurd c10 (by decide)
    · -- not taken 10
      refine at_iload_n dX9_estimate_13 rfl ?_
      refine at_i2l dX9_estimate_14 ?_
      refine at_lconst dX9_estimate_15 pc_l0 ?_
      refine at_lconst dX9_estimate_16 pc_l1 ?_
      refine at_cs3 csX9_107 (ev_X9_in _ _ _) (by decide) ⟨Nat.le_refl _, Nat.le_refl _⟩ (Nat.le_of_ble_eq_true rfl) dX9_estimate_17 (pd_k1 ?_)
      rw [inL_c what 0 1 (by decide) (by decide)]
      refine at_ifne (tgt := 27) dX9_estimate_20 (by decide) (fun c20 => ?_) (fun c20 => ?_)
      · -- taken 20
        have k20 := i_of1.mp c20
        refine at_iconst dX9_estimate_27 pc_i0 ?_
        refine at_iconst dX9_estimate_28 pc_i1 ?_
        refine at_iconst dX9_estimate_29 pc_i1 ?_
        refine at_cv3 cvX9_204 sd_119 (ev_X9_bad0 hR (pd_up_at) _ _) (by decide) ⟨Nat.le_refl _, Nat.le_refl _⟩ (Nat.le_of_ble_eq_true rfl) dX9_estimate_30 (pd_k1 ?_)
        refine at_ifne (tgt := 70) dX9_estimate_33 (by decide) (fun c33 => ?_) (fun c33 => ?_)
        · -- taken 33
          exact absurd rfl c33
        · -- not taken 33
          refine at_aload_n dX9_estimate_36 rfl ?_
          refine at_aload_n dX9_estimate_37 rfl ?_
          refine at_iload_n dX9_estimate_38 rfl ?_
          refine at_cs1 csX9_251 (ev_X9_isSample (nI w)) (by decide) ⟨Nat.le_refl _, Nat.le_refl _⟩ (Nat.le_of_ble_eq_true rfl) dX9_estimate_39 (pd_k1 ?_)
          rw [hx]
          refine at_ifeq (tgt := 49) dX9_estimate_42 (by decide) (fun c42 => ?_) (fun c42 => ?_)
          · -- taken 42
            exact absurd c42 (by decide)
          · -- not taken 42
            refine at_iload_n dX9_estimate_45 rfl ?_
            refine at_goto (tgt := 50) dX9_estimate_46 (by decide) ?_
            refine at_cv1 cvX9_304 sd_119 (ev_X9_sizeOf hR hq.up hr (w := w) (by omega)) (by decide) ⟨Nat.le_refl _, Nat.le_refl _⟩ (Nat.le_of_ble_eq_true rfl) dX9_estimate_50 (pd_k1 ?_)
            refine at_iconst dX9_estimate_53 pc_i2 ?_
            refine at_icmpge (tgt := 61) dX9_estimate_54 (by decide) (fun c54 => ?_) (fun c54 => ?_)
            · -- taken 54
              rw [show (2 : Int32) = nI 2 from rfl, nI_leI (by decide) (by omega)] at c54
              refine at_iconst dX9_estimate_61 pc_i0 ?_
              refine at_iconst dX9_estimate_62 pc_i2 ?_
              refine at_iconst dX9_estimate_63 pc_i2 ?_
              refine at_cv3 cvX9_204 sd_119 (ev_X9_bad0 hR (pd_up_at) _ _) (by decide) ⟨Nat.le_refl _, Nat.le_refl _⟩ (Nat.le_of_ble_eq_true rfl) dX9_estimate_64 (pd_k1 ?_)
              refine at_ifeq (tgt := 72) dX9_estimate_67 (by decide) (fun c67 => ?_) (fun c67 => ?_)
              · -- taken 67
                refine at_aload_n dX9_estimate_72 rfl ?_
                refine at_aload_n dX9_estimate_73 rfl ?_
                refine at_getr (122) flX9_20 rfl sd_119 (rs_119_9 hR) dX9_estimate_74 ?_
                refine at_iconst dX9_estimate_77 pc_i0 ?_
                refine at_cv2 cvX9_255 sd_119 (ev_X9_judges (e := e) (bes := 0) hR hq.up hr (by decide)) (by decide) ⟨Nat.le_refl _, Nat.le_refl _⟩ (Nat.le_of_ble_eq_true rfl) dX9_estimate_78 (pd_ke fun I2 L2 hj2 => ?_)
                obtain ⟨rfl, hF, hJ⟩ := hj2
                have hq2 := hF.row hq.up
                refine at_aload_n dX9_estimate_81 rfl ?_
                refine at_cv0 cvX9_218 sd_119 (ev_X9_lines hR hq2 hr.2.2.1.1) (by decide) ⟨Nat.le_refl _, Nat.le_refl _⟩ (Nat.le_of_ble_eq_true rfl) dX9_estimate_82 (pd_k1 ?_)
                refine at_i2l dX9_estimate_85 ?_
                rw [nI_l (by omega)]
                refine at_lstore_n dX9_estimate_86 rfl (Nat.le_of_ble_eq_true rfl) ?_
                refine at_aload_n dX9_estimate_87 rfl ?_
                refine at_iload_n dX9_estimate_88 rfl ?_
                refine at_cv1 cvX9_304 sd_119 (ev_X9_sizeOf hR hq2 hr (w := w) (by omega)) (by decide) ⟨Nat.le_refl _, Nat.le_refl _⟩ (Nat.le_of_ble_eq_true rfl) dX9_estimate_89 (pd_k1 ?_)
                refine at_i2l dX9_estimate_92 ?_
                rw [nI_l (by omega)]
                refine at_lstore dX9_estimate_93 rfl (Nat.le_of_ble_eq_true rfl) ?_
                refine at_lload_n dX9_estimate_95 rfl ?_
                refine at_aload_n dX9_estimate_96 rfl ?_
                refine at_iload_n dX9_estimate_97 rfl ?_
                refine at_cv1 cvX9_259 sd_119 (ev_X9_goodIn hR hq2 hr hJ.1 (w := w) (by omega)) (by decide) ⟨Nat.le_refl _, Nat.le_refl _⟩ (Nat.le_of_ble_eq_true rfl) dX9_estimate_98 (pd_k1 ?_)
                refine at_i2l dX9_estimate_101 ?_
                rw [nI_l (by omega)]
                refine at_lmul dX9_estimate_102 ?_
                refine at_lload dX9_estimate_103 rfl ?_
                refine at_lconst dX9_estimate_105 pc_l1 ?_
                refine at_lsub dX9_estimate_106 ?_
                refine at_lmul dX9_estimate_107 ?_
                refine at_lload_n dX9_estimate_108 rfl ?_
                refine at_lload_n dX9_estimate_109 rfl ?_
                refine at_lconst dX9_estimate_110 pc_l1 ?_
                refine at_lsub dX9_estimate_111 ?_
                refine at_lmul dX9_estimate_112 ?_
                refine at_aload_n dX9_estimate_113 rfl ?_
                refine at_iload_n dX9_estimate_114 rfl ?_
                refine at_cv1 cvX9_307 sd_119 (ev_X9_pairs hR hq2 hr hJ.1 hJ.2.1 (w := w) (by omega)) (by decide) ⟨Nat.le_refl _, Nat.le_refl _⟩ (Nat.le_of_ble_eq_true rfl) dX9_estimate_115 (pd_k1 ?_)
                refine at_i2l dX9_estimate_118 ?_
                rw [nI_l (Nat.lt_of_le_of_lt hpC (by decide))]
                refine at_lmul dX9_estimate_119 ?_
                refine at_lsub dX9_estimate_120 ?_
                refine at_lload dX9_estimate_121 rfl ?_
                refine at_lload dX9_estimate_123 rfl ?_
                refine at_lconst dX9_estimate_125 pc_l1 ?_
                refine at_lsub dX9_estimate_126 ?_
                refine at_lmul dX9_estimate_127 ?_
                refine at_iload_n dX9_estimate_128 rfl ?_
                rw [show (lN (smC r nl w) - 1 : Int64) = lN (smC r nl w - 1) from lN_sub (b := 1) (by omega), show (lN nl - 1 : Int64) = lN (nl - 1) from lN_sub (b := 1) (by omega), lN_mul, lN_mul, lN_mul, lN_mul, lN_mul]
                refine at_cs3 csX9_316 (ev_X9_tm (by rw [lN_subT (esV_b h40).1 (esV_b (r := r) (nv := nv) (e := e) (w := w) h40).2]; have := (esV_b (r := r) (nv := nv) (e := e) (w := w) h40).2; omega) (tm_pos (Nat.mul_pos (by omega) (by omega)) (Nat.lt_of_le_of_lt (Nat.mul_le_mul (show smC r nl w ≤ 40 by omega) (show smC r nl w - 1 ≤ 40 by omega)) (by decide))) what) (by decide) ⟨Nat.le_refl _, Nat.le_refl _⟩ (Nat.le_of_ble_eq_true rfl) dX9_estimate_129 (pd_k1 ?_)
                refine at_lret rfl dX9_estimate_132 ?_
                exact m_yes (by rw [k20, decide_eq_true c54]; rfl) rfl hF.t0 hF.mq
              · -- not taken 67
                exact absurd rfl c67
            · -- not taken 54
              rw [show (2 : Int32) = nI 2 from rfl, nI_leI (by decide) (by omega)] at c54
              refine at_iconst dX9_estimate_57 pc_i1 ?_
              refine at_goto (tgt := 62) dX9_estimate_58 (by decide) ?_
              refine at_iconst dX9_estimate_62 pc_i2 ?_
              refine at_iconst dX9_estimate_63 pc_i2 ?_
              refine at_cv3 cvX9_204 sd_119 (ev_X9_bad1 hR (pd_up_at) (c := 2) (y := 2) ⟨by decide, by decide⟩ (by decide)) (by decide) ⟨Nat.le_refl _, Nat.le_refl _⟩ (Nat.le_of_ble_eq_true rfl) dX9_estimate_64 (pd_k1 ?_)
              refine at_ifeq (tgt := 72) dX9_estimate_67 (by decide) (fun c67 => ?_) (fun c67 => ?_)
              · -- taken 67
                exact absurd c67 (by decide)
              · -- not taken 67
                refine at_lconst dX9_estimate_70 pc_l0 ?_
                refine at_lret rfl dX9_estimate_71 ?_
                first | exact m_rf 1 (by rw [k20]; rfl) rfl | exact m_rf 2 (by rw [k20, decide_eq_false c54]; rfl) rfl
      · -- not taken 20
        have k20 := i_of0.mp c20
        refine at_iconst dX9_estimate_23 pc_i1 ?_
        refine at_goto (tgt := 28) dX9_estimate_24 (by decide) ?_
        refine at_iconst dX9_estimate_28 pc_i1 ?_
        refine at_iconst dX9_estimate_29 pc_i1 ?_
        refine at_cv3 cvX9_204 sd_119 (ev_X9_bad1 hR (pd_up_at) (c := 1) (y := 1) ⟨by decide, by decide⟩ (by decide)) (by decide) ⟨Nat.le_refl _, Nat.le_refl _⟩ (Nat.le_of_ble_eq_true rfl) dX9_estimate_30 (pd_k1 ?_)
        refine at_ifne (tgt := 70) dX9_estimate_33 (by decide) (fun c33 => ?_) (fun c33 => ?_)
        · -- taken 33
          refine at_lconst dX9_estimate_70 pc_l0 ?_
          refine at_lret rfl dX9_estimate_71 ?_
          first | exact m_rf 1 (by rw [k20]; rfl) rfl | exact m_rf 2 (by rw [k20, decide_eq_false c54]; rfl) rfl
        · -- not taken 33
          exact absurd c33 (by decide)
  · have hx0 : inR x 0 1 = false := by simpa using hx
    refine pd_ev 4 (lo := [some (.ref (pd_z G + 119)), some (.int x), some (.int what), none, none, none, none]) (by decide +kernel) (Nat.le_of_ble_eq_true rfl) rfl ?_
    refine at_aload_n dX9_estimate_0 rfl ?_
    refine at_iconst dX9_estimate_1 pc_i0 ?_
    refine at_puti flX9_48 rfl sd_119 (fun _ _ _ hq => by cases hq; rfl) dX9_estimate_2 ?_
    refine at_aload_n dX9_estimate_5 rfl ?_
    refine at_iload_n dX9_estimate_6 rfl ?_
    refine at_cs1 csX9_251 (ev_X9_isSample x) (by decide) ⟨Nat.le_refl _, Nat.le_refl _⟩ (Nat.le_of_ble_eq_true rfl) dX9_estimate_7 (pd_k1 ?_)
    rw [hx0]
    refine at_ifeq (tgt := 23) dX9_estimate_10 (by decide) (fun c10 => ?_) (fun c10 => ?_)
    · -- taken 10
      refine at_iconst dX9_estimate_23 pc_i1 ?_
      refine at_goto (tgt := 28) dX9_estimate_24 (by decide) ?_
      refine at_iconst dX9_estimate_28 pc_i1 ?_
      refine at_iconst dX9_estimate_29 pc_i1 ?_
      refine at_cv3 cvX9_204 sd_119 (ev_X9_bad1 hR (pd_up_at) (c := 1) (y := 1) ⟨by decide, by decide⟩ (by decide)) (by decide) ⟨Nat.le_refl _, Nat.le_refl _⟩ (Nat.le_of_ble_eq_true rfl) dX9_estimate_30 (pd_k1 ?_)
      refine at_ifne (tgt := 70) dX9_estimate_33 (by decide) (fun c33 => ?_) (fun c33 => ?_)
      · -- taken 33
        refine at_lconst dX9_estimate_70 pc_l0 ?_
        refine at_lret rfl dX9_estimate_71 ?_
        exact m_rf 1 rfl rfl
      · -- not taken 33
        exact absurd c33 (by decide)
    · -- not taken 10
      exact absurd rfl c10
theorem lp_X9_votersIn (hR : RS R) (hq : RQ I 122 r) (hr : Row r nv ns nl e) (hf : ∀ k, k < nl → I 133 k = rJ r nv nl e 0 k) (hg : ∀ k, k < nl → I 134 k = rW r nv k) {w : Nat} (hw : w < 2) : ∀ (k i : Nat), i + k = nl → pd_At G mi_X9_votersIn 2 0 0 0 0 4 [some (.ref (pd_z G + 119)), some (.int (nI w)), some (.int (nI (bS (fun l => sm r w l && rOk r nv nl e 0 l) (rW r nv) i))), some (.int (nI i))] [] (SD, false, I, L, R) (pd_rt (.int (nI (ulS r nv nl e w))) (SD, false, I, L, R)) := by
  have h40 := hr.2.2.1.2
  have hv16 := hr.1.2
  intro k
  induction k with
  | zero =>
    intro i hi
    have e0 : i = nl := by omega
    subst e0
    refine at_iload_n dX9_votersIn_4 rfl ?_
    refine at_aload_n dX9_votersIn_5 rfl ?_
    refine at_cv0 cvX9_218 sd_119 (ev_X9_lines hR hq hr.2.2.1.1) (by decide) ⟨Nat.le_refl _, Nat.le_refl _⟩ (Nat.le_of_ble_eq_true rfl) dX9_votersIn_6 (pd_k1 ?_)
    refine at_icmpge (tgt := 50) dX9_votersIn_9 (by decide) (fun c9 => ?_) (fun c9 => ?_)
    · -- taken 9
      refine at_iload_n dX9_votersIn_50 rfl ?_
      refine at_iret rfl dX9_votersIn_51 ?_
      exact ⟨rfl, rfl⟩
    · -- not taken 9
      exact absurd (nI_le (Nat.le_refl _) (by omega)) c9
  | succ k ih =>
    intro i hi
    refine at_iload_n dX9_votersIn_4 rfl ?_
    refine at_aload_n dX9_votersIn_5 rfl ?_
    refine at_cv0 cvX9_218 sd_119 (ev_X9_lines hR hq hr.2.2.1.1) (by decide) ⟨Nat.le_refl _, Nat.le_refl _⟩ (Nat.le_of_ble_eq_true rfl) dX9_votersIn_6 (pd_k1 ?_)
    refine at_icmpge (tgt := 50) dX9_votersIn_9 (by decide) (fun c9 => ?_) (fun c9 => ?_)
    · -- taken 9
      exact absurd c9 (nI_ge (by omega) (by omega))
    · -- not taken 9
      refine at_iload_n dX9_votersIn_12 rfl ?_
      refine at_aload_n dX9_votersIn_13 rfl ?_
      refine at_iload_n dX9_votersIn_14 rfl ?_
      refine at_iload_n dX9_votersIn_15 rfl ?_
      refine at_cv2 cvX9_244 sd_119 (ev_X9_isIn hR hq hw (l := i) (by omega)) (by decide) ⟨Nat.le_refl _, Nat.le_refl _⟩ (Nat.le_of_ble_eq_true rfl) dX9_votersIn_16 (pd_k1 ?_)
      refine at_ifeq (tgt := 41) dX9_votersIn_19 (by decide) (fun c19 => ?_) (fun c19 => ?_)
      · -- taken 19
        have hb : (sm r w i && rOk r nv nl e 0 i) = false := by rw [i_of0.mp c19]; rfl
        refine at_iconst dX9_votersIn_41 pc_i0 ?_
        refine at_ior dX9_votersIn_42 ?_
        first | rw [nI_or0] | rw [i_sh1 v (by omega), fa_or]
        refine at_istore_n dX9_votersIn_43 rfl (Nat.le_of_ble_eq_true rfl) ?_
        refine at_inc dX9_votersIn_44 rfl pc_i1 rfl (Nat.le_of_ble_eq_true rfl) ?_
        refine at_goto (tgt := 4) dX9_votersIn_47 (by decide) ?_
        rw [nI_1 i]
        first | (rw [← bS_no (q := fun l => sm r w l && rOk r nv nl e 0 l) (i := i) hb]; exact ih (i + 1) (by omega)) | (rw [← bS_yes (q := fun l => sm r w l && rOk r nv nl e 0 l) (i := i) hb hwv (by omega)]; exact ih (i + 1) (by omega))
      · -- not taken 19
        have k19 := i_of1.mp c19
        refine at_aload_n dX9_votersIn_22 rfl ?_
        refine at_iload_n dX9_votersIn_23 rfl ?_
        refine at_cv1 cvX9_248 sd_119 (ev_X9_isClean hR hf h40 (l := i) (by omega)) (by decide) ⟨Nat.le_refl _, Nat.le_refl _⟩ (Nat.le_of_ble_eq_true rfl) dX9_votersIn_24 (pd_k1 ?_)
        rw [rJ_clean]
        refine at_ifeq (tgt := 41) dX9_votersIn_27 (by decide) (fun c27 => ?_) (fun c27 => ?_)
        · -- taken 27
          have hb : (sm r w i && rOk r nv nl e 0 i) = false := by rw [i_of0.mp c27, Bool.and_false]
          refine at_iconst dX9_votersIn_41 pc_i0 ?_
          refine at_ior dX9_votersIn_42 ?_
          first | rw [nI_or0] | rw [i_sh1 v (by omega), fa_or]
          refine at_istore_n dX9_votersIn_43 rfl (Nat.le_of_ble_eq_true rfl) ?_
          refine at_inc dX9_votersIn_44 rfl pc_i1 rfl (Nat.le_of_ble_eq_true rfl) ?_
          refine at_goto (tgt := 4) dX9_votersIn_47 (by decide) ?_
          rw [nI_1 i]
          first | (rw [← bS_no (q := fun l => sm r w l && rOk r nv nl e 0 l) (i := i) hb]; exact ih (i + 1) (by omega)) | (rw [← bS_yes (q := fun l => sm r w l && rOk r nv nl e 0 l) (i := i) hb hwv (by omega)]; exact ih (i + 1) (by omega))
        · -- not taken 27
          have k27 := i_of1.mp c27
          obtain ⟨v, hv, hwv⟩ := rOk_v hr k27
          have hb : (sm r w i && rOk r nv nl e 0 i) = true := by rw [k19, k27]; rfl
          refine at_iconst dX9_votersIn_30 pc_i1 ?_
          refine at_aload_n dX9_votersIn_31 rfl ?_
          refine at_getr (134) flX9_34 rfl sd_119 (rs_119_17 hR) dX9_votersIn_32 ?_
          refine at_iload_n dX9_votersIn_35 rfl ?_
          refine at_iald sd_134 (vp_in_nI (by omega) (by decide)) dX9_votersIn_36 ?_
          rw [nI_clamp (by omega), hg _ (by omega), hwv]
          refine at_ishl dX9_votersIn_37 ?_
          refine at_goto (tgt := 42) dX9_votersIn_38 (by decide) ?_
          refine at_ior dX9_votersIn_42 ?_
          first | rw [nI_or0] | rw [i_sh1 v (by omega), fa_or]
          refine at_istore_n dX9_votersIn_43 rfl (Nat.le_of_ble_eq_true rfl) ?_
          refine at_inc dX9_votersIn_44 rfl pc_i1 rfl (Nat.le_of_ble_eq_true rfl) ?_
          refine at_goto (tgt := 4) dX9_votersIn_47 (by decide) ?_
          rw [nI_1 i]
          first | (rw [← bS_no (q := fun l => sm r w l && rOk r nv nl e 0 l) (i := i) hb]; exact ih (i + 1) (by omega)) | (rw [← bS_yes (q := fun l => sm r w l && rOk r nv nl e 0 l) (i := i) hb hwv (by omega)]; exact ih (i + 1) (by omega))
theorem ev_X9_votersIn (hR : RS R) (hq : RQ I 122 r) (hr : Row r nv ns nl e) (hf : ∀ k, k < nl → I 133 k = rJ r nv nl e 0 k) (hg : ∀ k, k < nl → I 134 k = rW r nv k) {w : Nat} (hw : w < 2) : pd_Ev G mi_X9_votersIn 2 0 0 [.ref (pd_z G + 119), .int (nI w)] (SD, false, I, L, R) (pd_rt (.int (nI (ulS r nv nl e w))) (SD, false, I, L, R)) := by
  have z : bS (fun l => sm r w l && rOk r nv nl e 0 l) (rW r nv) 0 = 0 := bsum_none (fun _ _ => rfl)
  refine pd_ev 2 (lo := [some (.ref (pd_z G + 119)), some (.int (nI w)), none, none]) (by decide +kernel) (Nat.le_of_ble_eq_true rfl) rfl ?_
  refine at_iconst dX9_votersIn_0 pc_i0 ?_
  refine at_istore_n dX9_votersIn_1 rfl (Nat.le_of_ble_eq_true rfl) ?_
  refine at_iconst dX9_votersIn_2 pc_i0 ?_
  refine at_istore_n dX9_votersIn_3 rfl (Nat.le_of_ble_eq_true rfl) ?_
  have h := lp_X9_votersIn (G := G) (L := L) hR hq hr hf hg hw nl 0 (by omega)
  rw [z] at h
  exact h
theorem lp_X9_ones {M : pd_M} {m : Nat} (hm : m < 2 ^ 16) : ∀ (k i : Nat), i + k = 16 → pd_At G mi_X9_ones 1 0 0 0 0 4 [some (.int (nI m)), some (.int (nI (fb_ct (fun i => m.testBit i) i))), some (.int (nI i))] [] M (pd_rt (.int (nI (pc16 m))) M) := by
  intro k
  induction k with
  | zero =>
    intro i hi
    have e0 : i = 16 := by omega
    subst e0
    refine at_iload_n dX9_ones_4 rfl ?_
    refine at_bipush dX9_ones_5 pc_b16 ?_
    refine at_icmpge (tgt := 24) dX9_ones_7 (by decide) (fun c7 => ?_) (fun c7 => ?_)
    · -- taken 7
      refine at_iload_n dX9_ones_24 rfl ?_
      refine at_iret rfl dX9_ones_25 ?_
      exact ⟨rfl, rfl⟩
    · -- not taken 7
      exact absurd (nI_le (a := 16) (Nat.le_refl _) (by decide)) c7
  | succ k ih =>
    intro i hi
    refine at_iload_n dX9_ones_4 rfl ?_
    refine at_bipush dX9_ones_5 pc_b16 ?_
    refine at_icmpge (tgt := 24) dX9_ones_7 (by decide) (fun c7 => ?_) (fun c7 => ?_)
    · -- taken 7
      exact absurd c7 (nI_ge (b := 16) (by omega) (by decide))
    · -- not taken 7
      refine at_iload_n dX9_ones_10 rfl ?_
      refine at_iload_n dX9_ones_11 rfl ?_
      refine at_iload_n dX9_ones_12 rfl ?_
      refine at_ishr dX9_ones_13 ?_
      refine at_iconst dX9_ones_14 pc_i1 ?_
      refine at_iand dX9_ones_15 ?_
      rw [i_tb (by omega) (by omega)]
      refine at_iadd dX9_ones_16 ?_
      refine at_istore_n dX9_ones_17 rfl (Nat.le_of_ble_eq_true rfl) ?_
      refine at_inc dX9_ones_18 rfl pc_i1 rfl (Nat.le_of_ble_eq_true rfl) ?_
      refine at_goto (tgt := 4) dX9_ones_21 (by decide) ?_
      rw [ct_of (p := fun i => m.testBit i), nI_1 i]
      exact ih (i + 1) (by omega)
theorem ev_X9_ones {M : pd_M} {m : Nat} (hm : m < 2 ^ 16) : pd_Ev G mi_X9_ones 1 0 0 [.int (nI m)] M (pd_rt (.int (nI (pc16 m))) M) := by
  refine pd_ev 2 (lo := [some (.int (nI m)), none, none]) (by decide +kernel) (Nat.le_of_ble_eq_true rfl) rfl ?_
  refine at_iconst dX9_ones_0 pc_i0 ?_
  refine at_istore_n dX9_ones_1 rfl (Nat.le_of_ble_eq_true rfl) ?_
  refine at_iconst dX9_ones_2 pc_i0 ?_
  refine at_istore_n dX9_ones_3 rfl (Nat.le_of_ble_eq_true rfl) ?_
  exact lp_X9_ones hm 16 0 (by omega)
theorem ev_X9_unlike (hR : RS R) (hq : RQ I 122 r) (hr : Row r nv ns nl e) (what : Int32) : pd_Ev G mi_X9_unlike 8 0 0 [.ref (pd_z G + 119), .int what] (SD, false, I, L, R) (m_x I L R (j1 9 (inR what 0 1)) 8 (.int (ulV r nv nl e what)) (.int 0) (QK I L)) := by
  obtain ⟨A, hA⟩ : ∃ A, A = ulS r nv nl e 0 := ⟨_, rfl⟩
  obtain ⟨B, hB⟩ : ∃ B, B = ulS r nv nl e 1 := ⟨_, rfl⟩
  have a1 : A < 2 ^ 16 := by rw [hA]; exact ulS_lt 0
  have b1 : B < 2 ^ 16 := by rw [hB]; exact ulS_lt 1
  have ab1 : A &&& B < 2 ^ 16 := Nat.lt_of_le_of_lt Nat.and_le_left a1
  have pa := pc16_le A
  have pb := pc16_le B
  have pab := pc16_le (A &&& B)
  have pm : pc16 A * pc16 B ≤ 16 * 16 := Nat.mul_le_mul pa pb
  refine pd_ev 2 (lo := [some (.ref (pd_z G + 119)), some (.int what), none, none]) (by decide +kernel) (Nat.le_of_ble_eq_true rfl) rfl ?_
  refine at_aload_n dX9_unlike_0 rfl ?_
  refine at_iconst dX9_unlike_1 pc_i0 ?_
  refine at_puti flX9_48 rfl sd_119 (fun _ _ _ hq => by cases hq; rfl) dX9_unlike_2 ?_
  refine at_aload_n dX9_unlike_5 rfl ?_
  refine at_iload_n dX9_unlike_6 rfl ?_
  refine at_i2l dX9_unlike_7 ?_
  refine at_lconst dX9_unlike_8 pc_l0 ?_
  refine at_lconst dX9_unlike_9 pc_l1 ?_
  refine at_cs3 csX9_107 (ev_X9_in _ _ _) (by decide) ⟨Nat.le_refl _, Nat.le_refl _⟩ (Nat.le_of_ble_eq_true rfl) dX9_unlike_10 (pd_k1 ?_)
  rw [inL_c what 0 1 (by decide) (by decide)]
  refine at_ifne (tgt := 20) dX9_unlike_13 (by decide) (fun c13 => ?_) (fun c13 => ?_)
  · -- taken 13
    have k13 := i_of1.mp c13
    refine at_iconst dX9_unlike_20 pc_i0 ?_
    refine at_iconst dX9_unlike_21 pc_i1 ?_
    refine at_iconst dX9_unlike_22 pc_i1 ?_
    refine at_cv3 cvX9_204 sd_119 (ev_X9_bad0 hR (pd_up_at) _ _) (by decide) ⟨Nat.le_refl _, Nat.le_refl _⟩ (Nat.le_of_ble_eq_true rfl) dX9_unlike_23 (pd_k1 ?_)
    refine at_ifeq (tgt := 31) dX9_unlike_26 (by decide) (fun c26 => ?_) (fun c26 => ?_)
    · -- taken 26
      refine at_aload_n dX9_unlike_31 rfl ?_
      refine at_aload_n dX9_unlike_32 rfl ?_
      refine at_getr (122) flX9_20 rfl sd_119 (rs_119_9 hR) dX9_unlike_33 ?_
      refine at_iconst dX9_unlike_36 pc_i0 ?_
      refine at_cv2 cvX9_255 sd_119 (ev_X9_judges (e := e) (bes := 0) hR hq.up hr (by decide)) (by decide) ⟨Nat.le_refl _, Nat.le_refl _⟩ (Nat.le_of_ble_eq_true rfl) dX9_unlike_37 (pd_ke fun I2 L2 hj2 => ?_)
      obtain ⟨rfl, hF, hJ⟩ := hj2
      have hq2 := hF.row hq.up
      refine at_aload_n dX9_unlike_40 rfl ?_
      refine at_iconst dX9_unlike_41 pc_i0 ?_
      refine at_cv1 cvX9_320 sd_119 (ev_X9_votersIn (w := 0) hR hq2 hr hJ.1 hJ.2.1 (by decide)) (by decide) ⟨Nat.le_refl _, Nat.le_refl _⟩ (Nat.le_of_ble_eq_true rfl) dX9_unlike_42 (pd_k1 ?_)
      rw [← hA]
      refine at_istore_n dX9_unlike_45 rfl (Nat.le_of_ble_eq_true rfl) ?_
      refine at_aload_n dX9_unlike_46 rfl ?_
      refine at_iconst dX9_unlike_47 pc_i1 ?_
      refine at_cv1 cvX9_320 sd_119 (ev_X9_votersIn (w := 1) hR hq2 hr hJ.1 hJ.2.1 (by decide)) (by decide) ⟨Nat.le_refl _, Nat.le_refl _⟩ (Nat.le_of_ble_eq_true rfl) dX9_unlike_48 (pd_k1 ?_)
      rw [← hB]
      refine at_istore_n dX9_unlike_51 rfl (Nat.le_of_ble_eq_true rfl) ?_
      refine at_iload_n dX9_unlike_52 rfl ?_
      refine at_iload_n dX9_unlike_53 rfl ?_
      refine at_iand dX9_unlike_54 ?_
      rw [fa_and]
      refine at_ifne (tgt := 62) dX9_unlike_55 (by decide) (fun c55 => ?_) (fun c55 => ?_)
      · -- taken 55
        rw [show nI (A &&& B) = 0 ↔ A &&& B = 0 from nI_eq (b := 0) (Nat.lt_trans ab1 (by decide)) (by decide)] at c55
        refine at_iload_n dX9_unlike_62 rfl ?_
        refine at_cs1 csX9_323 (ev_X9_ones a1) (by decide) ⟨Nat.le_refl _, Nat.le_refl _⟩ (Nat.le_of_ble_eq_true rfl) dX9_unlike_63 (pd_k1 ?_)
        refine at_iload_n dX9_unlike_66 rfl ?_
        refine at_cs1 csX9_323 (ev_X9_ones b1) (by decide) ⟨Nat.le_refl _, Nat.le_refl _⟩ (Nat.le_of_ble_eq_true rfl) dX9_unlike_67 (pd_k1 ?_)
        refine at_imul dX9_unlike_70 ?_
        rw [pk_mul]
        refine at_i2l dX9_unlike_71 ?_
        rw [nI_l (by omega)]
        refine at_iload_n dX9_unlike_72 rfl ?_
        refine at_iload_n dX9_unlike_73 rfl ?_
        refine at_iand dX9_unlike_74 ?_
        rw [fa_and]
        refine at_cs1 csX9_323 (ev_X9_ones ab1) (by decide) ⟨Nat.le_refl _, Nat.le_refl _⟩ (Nat.le_of_ble_eq_true rfl) dX9_unlike_75 (pd_k1 ?_)
        refine at_i2l dX9_unlike_78 ?_
        rw [nI_l (by omega)]
        refine at_iload_n dX9_unlike_79 rfl ?_
        refine at_cs3 csX9_316 (ev_X9_tm (tm_nat (by omega)) (tm_pos (Nat.pos_of_ne_zero (fun z => c55 ((pc16_0 ab1).mp z))) (by omega)) what) (by decide) ⟨Nat.le_refl _, Nat.le_refl _⟩ (Nat.le_of_ble_eq_true rfl) dX9_unlike_80 (pd_k1 ?_)
        refine at_l2i dX9_unlike_83 ?_
        refine at_iret rfl dX9_unlike_84 ?_
        refine m_yes (by rw [k13]; rfl) ?_ hF.t0 hF.mq
        first | (rw [ulV, ← hA, ← hB, if_pos c55]; done) | (rw [ulV, ← hA, ← hB, if_neg c55]; done)
      · -- not taken 55
        rw [show nI (A &&& B) = 0 ↔ A &&& B = 0 from nI_eq (b := 0) (Nat.lt_trans ab1 (by decide)) (by decide)] at c55
        refine at_iconst dX9_unlike_58 pc_im1 ?_
        refine at_goto (tgt := 84) dX9_unlike_59 (by decide) ?_
        refine at_iret rfl dX9_unlike_84 ?_
        refine m_yes (by rw [k13]; rfl) ?_ hF.t0 hF.mq
        first | (rw [ulV, ← hA, ← hB, if_pos c55]; done) | (rw [ulV, ← hA, ← hB, if_neg c55]; done)
    · -- not taken 26
      exact absurd rfl c26
  · -- not taken 13
    have k13 := i_of0.mp c13
    refine at_iconst dX9_unlike_16 pc_i1 ?_
    refine at_goto (tgt := 21) dX9_unlike_17 (by decide) ?_
    refine at_iconst dX9_unlike_21 pc_i1 ?_
    refine at_iconst dX9_unlike_22 pc_i1 ?_
    refine at_cv3 cvX9_204 sd_119 (ev_X9_bad1 hR (pd_up_at) (c := 1) (y := 1) ⟨by decide, by decide⟩ (by decide)) (by decide) ⟨Nat.le_refl _, Nat.le_refl _⟩ (Nat.le_of_ble_eq_true rfl) dX9_unlike_23 (pd_k1 ?_)
    refine at_ifeq (tgt := 31) dX9_unlike_26 (by decide) (fun c26 => ?_) (fun c26 => ?_)
    · -- taken 26
      exact absurd c26 (by decide)
    · -- not taken 26
      refine at_iconst dX9_unlike_29 pc_i0 ?_
      refine at_iret rfl dX9_unlike_30 ?_
      exact m_rf 1 (by rw [k13]; rfl) rfl
theorem lp_X9_fewest (hR : RS R) (hq : RQ I 122 r) (hr : Row r nv ns nl e) : ∀ k i, i + k = nl → pd_At G mi_X9_fewest 8 0 0 0 0 7 [some (.ref (pd_z G + 119)), some (.int (nI (i + 1)))] [] (SD, false, I, L, R) (pd_rt (.int (fwF (fun n => decide (r 3 ≤ nI (loB r nl (n + 1) (n + 1)))) k i)) (SD, false, I, L, R)) := by
  have h40 := hr.2.2.1.2
  intro k
  induction k with
  | zero =>
    intro i hi
    refine at_iload_n dX9_fewest_7 rfl ?_
    refine at_aload_n dX9_fewest_8 rfl ?_
    refine at_cv0 cvX9_218 sd_119 (ev_X9_lines hR hq hr.2.2.1.1) (by decide) ⟨Nat.le_refl _, Nat.le_refl _⟩ (Nat.le_of_ble_eq_true rfl) dX9_fewest_9 (pd_k1 ?_)
    refine at_icmpgt (tgt := 38) dX9_fewest_12 (by decide) (fun c12 => ?_) (fun c12 => ?_)
    · -- taken 12
      refine at_iconst dX9_fewest_38 pc_im1 ?_
      refine at_iret rfl dX9_fewest_39 ?_
      exact ⟨rfl, rfl⟩
    · -- not taken 12
      exact absurd (nI_lt (by omega) (by omega)) c12
  | succ k ih =>
    intro i hi
    refine at_iload_n dX9_fewest_7 rfl ?_
    refine at_aload_n dX9_fewest_8 rfl ?_
    refine at_cv0 cvX9_218 sd_119 (ev_X9_lines hR hq hr.2.2.1.1) (by decide) ⟨Nat.le_refl _, Nat.le_refl _⟩ (Nat.le_of_ble_eq_true rfl) dX9_fewest_9 (pd_k1 ?_)
    refine at_icmpgt (tgt := 38) dX9_fewest_12 (by decide) (fun c12 => ?_) (fun c12 => ?_)
    · -- taken 12
      exact absurd c12 (nI_nlt (by omega) (by omega))
    · -- not taken 12
      refine at_aload_n dX9_fewest_15 rfl ?_
      refine at_iload_n dX9_fewest_16 rfl ?_
      refine at_iload_n dX9_fewest_17 rfl ?_
      refine at_cv2 cvX9_310 sd_119 (ev_X9_low hR hq hr (by omega) (Nat.le_refl _)) (by decide) ⟨Nat.le_refl _, Nat.le_refl _⟩ (Nat.le_of_ble_eq_true rfl) dX9_fewest_18 (pd_k1 ?_)
      refine at_aload_n dX9_fewest_21 rfl ?_
      refine at_getr (122) flX9_20 rfl sd_119 (rs_119_9 hR) dX9_fewest_22 ?_
      refine at_iconst dX9_fewest_25 pc_i3 ?_
      refine at_iald sd_122 (vp_in_nI (n := 3) (by decide) (by decide)) dX9_fewest_26 ?_
      rw [show I 122 (3 : Int32).toNatClampNeg = r 3 from hq 3 (by decide)]
      refine at_icmplt (tgt := 32) dX9_fewest_27 (by decide) (fun c27 => ?_) (fun c27 => ?_)
      · -- taken 27
        refine at_inc dX9_fewest_32 rfl pc_i1 rfl (Nat.le_of_ble_eq_true rfl) ?_
        refine at_goto (tgt := 7) dX9_fewest_35 (by decide) ?_
        rw [nI_1, fwF, if_neg (by simpa using (fa_of_lt c27).2.1)]
        exact ih (i + 1) (by omega)
      · -- not taken 27
        refine at_iload_n dX9_fewest_30 rfl ?_
        refine at_iret rfl dX9_fewest_31 ?_
        exact ⟨by rw [fwF, if_pos (decide_eq_true (fa_of_nlt c27))], rfl⟩
theorem ev_X9_fewest (hR : RS R) (hq : RQ I 122 r) (hr : Row r nv ns nl e) : pd_Ev G mi_X9_fewest 8 0 0 [.ref (pd_z G + 119)] (SD, false, I, L, R) (m_x I L R 0 8 (.int (fwF (fun n => decide (r 3 ≤ nI (loB r nl (n + 1) (n + 1)))) nl 0)) (.int 0) (QK I L)) := by
  refine pd_ev 1 (lo := [some (.ref (pd_z G + 119)), none]) (by decide +kernel) (Nat.le_of_ble_eq_true rfl) rfl ?_
  refine at_aload_n dX9_fewest_0 rfl ?_
  refine at_iconst dX9_fewest_1 pc_i0 ?_
  refine at_puti flX9_48 rfl sd_119 (fun _ _ _ hq => by cases hq; rfl) dX9_fewest_2 ?_
  refine at_iconst dX9_fewest_5 pc_i1 ?_
  refine at_istore_n dX9_fewest_6 rfl (Nat.le_of_ble_eq_true rfl) ?_
  refine pd_At_mono (lp_X9_fewest hR hq.up hr nl 0 (by omega)) ?_
  rintro o M' ⟨rfl, rfl⟩
  exact m_yes rfl rfl pd_up_at up_mq
/-- a row of ways, one more thing that may be taken in m ways -/
def adL (L : Nat → Nat → Int64) (m t k : Nat) : Nat → Nat → Int64 := fun b j => if b = 136 ∧ k < j ∧ j ≤ t then L 136 j + lN m * L 136 (j - 1) else L b j
theorem lp_X9_adds (hR : RS R) {m t : Nat} (hm : m < 1000) (ht : t ≤ 40) : ∀ k, k ≤ t → pd_At G mi_X9_adds 1 0 0 0 0 2 [some (.ref (pd_z G + 119)), some (.int (nI m)), some (.int (nI t)), some (.int (nI k))] [] (SD, false, I, adL L m t k, R) (pd_rv (SD, false, I, adL L m t 0, R)) := by
  intro k
  induction k with
  | zero =>
    intro hk
    refine at_iload_n dX9_adds_2 rfl ?_
    refine at_ifle (tgt := 32) dX9_adds_3 (by decide) (fun c3 => ?_) (fun c3 => ?_)
    · -- taken 3
      refine at_vret rfl dX9_adds_32 ?_
      exact ⟨rfl, rfl⟩
    · -- not taken 3
      exact absurd (by decide) c3
  | succ k ih =>
    intro hk
    have e1 : adL L m t (k + 1) 136 (k + 1) = L 136 (k + 1) := by unfold adL; rw [if_neg (by omega)]
    have e2 : adL L m t (k + 1) 136 k = L 136 k := by unfold adL; rw [if_neg (by omega)]
    have e3 : pd_up (adL L m t (k + 1)) 136 (k + 1) (L 136 (k + 1) + lN m * L 136 k) = adL L m t k := by
      funext b j
      unfold pd_up adL
      by_cases hb : b = 136
      · subst hb
        by_cases hj : j = k + 1
        · subst hj; rw [if_pos ⟨rfl, rfl⟩, if_pos ⟨rfl, by omega, hk⟩, Nat.add_sub_cancel]
        · rw [if_neg (by omega)]
          by_cases h5 : k + 1 < j ∧ j ≤ t
          · rw [if_pos ⟨rfl, h5⟩, if_pos ⟨rfl, by omega, h5.2⟩]
          · rw [if_neg (by omega), if_neg (by omega)]
      · rw [if_neg (by omega), if_neg (by omega), if_neg (by omega)]
    refine at_iload_n dX9_adds_2 rfl ?_
    refine at_ifle (tgt := 32) dX9_adds_3 (by decide) (fun c3 => ?_) (fun c3 => ?_)
    · -- taken 3
      exact absurd c3 (nI_nle (by omega) (by omega))
    · -- not taken 3
      refine at_aload_n dX9_adds_6 rfl ?_
      refine at_getr (136) flX9_40 rfl sd_119 (rs_119_20 hR) dX9_adds_7 ?_
      refine at_iload_n dX9_adds_10 rfl ?_
      refine at_dup2 dX9_adds_11 rfl rfl ?_
      refine at_lald sd_136 (vp_in_nI (by omega) (by decide)) dX9_adds_12 ?_
      rw [nI_clamp (by omega), e1]
      refine at_iload_n dX9_adds_13 rfl ?_
      refine at_i2l dX9_adds_14 ?_
      rw [nI_l (by omega)]
      refine at_aload_n dX9_adds_15 rfl ?_
      refine at_getr (136) flX9_40 rfl sd_119 (rs_119_20 hR) dX9_adds_16 ?_
      refine at_iload_n dX9_adds_19 rfl ?_
      refine at_iconst dX9_adds_20 pc_i1 ?_
      refine at_isub dX9_adds_21 ?_
      rw [nI_pred]
      refine at_lald sd_136 (vp_in_nI (by omega) (by decide)) dX9_adds_22 ?_
      rw [nI_clamp (by omega), e2]
      refine at_lmul dX9_adds_23 ?_
      refine at_ladd dX9_adds_24 ?_
      refine at_last sd_136 (vp_in_nI (by omega) (by decide)) dX9_adds_25 ?_
      refine at_inc dX9_adds_26 rfl pc_im1 rfl (Nat.le_of_ble_eq_true rfl) ?_
      refine at_goto (tgt := 2) dX9_adds_29 (by decide) ?_
      rw [pk_m1, nI_clamp (by omega), e3]
      exact ih (by omega)
theorem ev_X9_adds (hR : RS R) {m t : Nat} (hm : m < 1000) (ht : t ≤ 40) : pd_Ev G mi_X9_adds 1 0 0 [.ref (pd_z G + 119), .int (nI m), .int (nI t)] (SD, false, I, L, R) (pd_rv (SD, false, I, adL L m t 0, R)) := by
  have e0 : adL L m t t = L := by
    funext b j; unfold adL; rw [if_neg (by omega)]
  refine pd_ev 1 (lo := [some (.ref (pd_z G + 119)), some (.int (nI m)), some (.int (nI t)), none]) (by decide +kernel) (Nat.le_of_ble_eq_true rfl) rfl ?_
  refine at_iload_n dX9_adds_0 rfl ?_
  refine at_istore_n dX9_adds_1 rfl (Nat.le_of_ble_eq_true rfl) ?_
  have h := lp_X9_adds (G := G) (I := I) (L := L) hR hm ht t (Nat.le_refl _)
  rw [e0] at h
  exact h
/-- the ways so far -/
def AP (L L' : Nat → Nat → Int64) (f : Nat → Nat) (n : Nat) : Prop := (∀ x, x ≠ 136 → ∀ j, L' x j = L x j) ∧ ∀ k, k ≤ n → L' 136 k = lN (f k)
theorem AP.add {L' : Nat → Nat → Int64} {f g : Nat → Nat} {n m : Nat} (h : AP L L' f n) (h0 : g 0 = f 0) (hs : ∀ k, g (k + 1) = f (k + 1) + m * f k) : AP L (adL L' m n 0) g n := by
  refine ⟨fun x hx j => ?_, fun k hk => ?_⟩
  · unfold adL; rw [if_neg (by omega)]; exact h.1 x hx j
  · unfold adL
    cases k with
    | zero => rw [if_neg (by omega), h.2 0 hk, h0]
    | succ k => rw [if_pos ⟨rfl, by omega, hk⟩, h.2 _ hk, Nat.add_sub_cancel, h.2 k (by omega), lN_mul, lN_add, hs]
theorem lp_X9_un0 (hR : RS R) {x what : Int32} {Q : pd_O → pd_M → Prop} (K : ∀ L', AP L L' (ch 0) 40 → pd_At G mi_X9_unseen 8 0 0 0 0 83 [some (.ref (pd_z G + 119)), some (.int x), some (.int what), some (.int (nI 41)), none, none] [] (SD, false, I, L', R) Q) : ∀ (k i : Nat) (L' : Nat → Nat → Int64), i + k = 41 → (∀ x, x ≠ 136 → ∀ j, L' x j = L x j) → (∀ j, j < i → L' 136 j = lN (ch 0 j)) → pd_At G mi_X9_unseen 8 0 0 0 0 56 [some (.ref (pd_z G + 119)), some (.int x), some (.int what), some (.int (nI i)), none, none] [] (SD, false, I, L', R) Q := by
  intro k
  induction k with
  | zero =>
    intro i L' hi h1 h2
    have e0 : i = 41 := by omega
    subst e0
    refine at_iload_n dX9_unseen_56 rfl ?_
    refine at_bipush dX9_unseen_57 pc_b40 ?_
    refine at_icmpgt (tgt := 83) dX9_unseen_59 (by decide) (fun c59 => ?_) (fun c59 => ?_)
    · -- taken 59
      exact K _ ⟨h1, fun k hk => h2 k (by omega)⟩
    · -- not taken 59
      exact absurd (nI_lt (a := 40) (b := 41) (by decide) (by decide)) c59
  | succ k ih =>
    intro i L' hi h1 h2
    have fin : ∀ v : Int64, v = lN (ch 0 i) → pd_At G mi_X9_unseen 8 0 0 0 0 56 [some (.ref (pd_z G + 119)), some (.int x), some (.int what), some (.int (nI (i + 1))), none, none] [] (SD, false, I, pd_up L' 136 i v, R) Q := fun v hv => ih (i + 1) _ (by omega) (fun x hx j => by rw [pd_up_nb hx]; exact h1 x hx j) (fun j hj => by
      by_cases hji : j = i
      · subst hji; rw [pd_up_at, hv]
      · rw [pd_up_nj hji]; exact h2 j (by omega))
    refine at_iload_n dX9_unseen_56 rfl ?_
    refine at_bipush dX9_unseen_57 pc_b40 ?_
    refine at_icmpgt (tgt := 83) dX9_unseen_59 (by decide) (fun c59 => ?_) (fun c59 => ?_)
    · -- taken 59
      exact absurd c59 (nI_nlt (a := 40) (by omega) (by decide))
    · -- not taken 59
      refine at_aload_n dX9_unseen_62 rfl ?_
      refine at_getr (136) flX9_40 rfl sd_119 (rs_119_20 hR) dX9_unseen_63 ?_
      refine at_iload_n dX9_unseen_66 rfl ?_
      refine at_iload_n dX9_unseen_67 rfl ?_
      refine at_ifne (tgt := 75) dX9_unseen_68 (by decide) (fun c68 => ?_) (fun c68 => ?_)
      · -- taken 68
        rw [show nI i = 0 ↔ i = 0 from nI_eq (b := 0) (by omega) (by decide)] at c68
        refine at_lconst dX9_unseen_75 pc_l0 ?_
        refine at_last sd_136 (vp_in_nI (by omega) (by decide)) dX9_unseen_76 ?_
        refine at_inc dX9_unseen_77 rfl pc_i1 rfl (Nat.le_of_ble_eq_true rfl) ?_
        refine at_goto (tgt := 56) dX9_unseen_80 (by decide) ?_
        rw [nI_1, nI_clamp (by omega)]
        first | exact fin _ (by rw [c68]; rfl) | exact fin _ (by obtain ⟨q, rfl⟩ : ∃ q, i = q + 1 := ⟨i - 1, by omega⟩; rfl)
      · -- not taken 68
        rw [show nI i = 0 ↔ i = 0 from nI_eq (b := 0) (by omega) (by decide)] at c68
        refine at_lconst dX9_unseen_71 pc_l1 ?_
        refine at_goto (tgt := 76) dX9_unseen_72 (by decide) ?_
        refine at_last sd_136 (vp_in_nI (by omega) (by decide)) dX9_unseen_76 ?_
        refine at_inc dX9_unseen_77 rfl pc_i1 rfl (Nat.le_of_ble_eq_true rfl) ?_
        refine at_goto (tgt := 56) dX9_unseen_80 (by decide) ?_
        rw [nI_1, nI_clamp (by omega)]
        first | exact fin _ (by rw [c68]; rfl) | exact fin _ (by obtain ⟨q, rfl⟩ : ∃ q, i = q + 1 := ⟨i - 1, by omega⟩; rfl)
theorem lp_X9_un1 (hR : RS R) (hq : RQ I 122 r) (hr : Row r nv ns nl e) (hf : ∀ k, k < nl → I 133 k = rJ r nv nl e 0 k) {n : Nat} (hn : n ≤ nl) {what : Int32} {Q : pd_O → pd_M → Prop} (K : ∀ L', AP L L' (ch (fb_ct (fun l => !rOk r nv nl e 0 l) nl)) n → pd_At G mi_X9_unseen 8 0 0 0 0 113 [some (.ref (pd_z G + 119)), some (.int (nI n)), some (.int what), some (.int (nI nl)), none, none] [] (SD, false, I, L', R) Q) : ∀ (k i : Nat) (L' : Nat → Nat → Int64), i + k = nl → AP L L' (ch (fb_ct (fun l => !rOk r nv nl e 0 l) i)) n → pd_At G mi_X9_unseen 8 0 0 0 0 85 [some (.ref (pd_z G + 119)), some (.int (nI n)), some (.int what), some (.int (nI i)), none, none] [] (SD, false, I, L', R) Q := by
  have h40 := hr.2.2.1.2
  intro k
  induction k with
  | zero =>
    intro i L' hi h1
    have e0 : i = nl := by omega
    subst e0
    refine at_iload_n dX9_unseen_85 rfl ?_
    refine at_aload_n dX9_unseen_86 rfl ?_
    refine at_cv0 cvX9_218 sd_119 (ev_X9_lines hR hq hr.2.2.1.1) (by decide) ⟨Nat.le_refl _, Nat.le_refl _⟩ (Nat.le_of_ble_eq_true rfl) dX9_unseen_87 (pd_k1 ?_)
    refine at_icmpge (tgt := 113) dX9_unseen_90 (by decide) (fun c90 => ?_) (fun c90 => ?_)
    · -- taken 90
      exact K _ h1
    · -- not taken 90
      exact absurd (nI_le (Nat.le_refl _) (by omega)) c90
  | succ k ih =>
    intro i L' hi h1
    refine at_iload_n dX9_unseen_85 rfl ?_
    refine at_aload_n dX9_unseen_86 rfl ?_
    refine at_cv0 cvX9_218 sd_119 (ev_X9_lines hR hq hr.2.2.1.1) (by decide) ⟨Nat.le_refl _, Nat.le_refl _⟩ (Nat.le_of_ble_eq_true rfl) dX9_unseen_87 (pd_k1 ?_)
    refine at_icmpge (tgt := 113) dX9_unseen_90 (by decide) (fun c90 => ?_) (fun c90 => ?_)
    · -- taken 90
      exact absurd c90 (nI_ge (by omega) (by omega))
    · -- not taken 90
      refine at_aload_n dX9_unseen_93 rfl ?_
      refine at_iload_n dX9_unseen_94 rfl ?_
      refine at_cv1 cvX9_248 sd_119 (ev_X9_isClean hR hf h40 (l := i) (by omega)) (by decide) ⟨Nat.le_refl _, Nat.le_refl _⟩ (Nat.le_of_ble_eq_true rfl) dX9_unseen_95 (pd_k1 ?_)
      rw [rJ_clean]
      refine at_ifne (tgt := 107) dX9_unseen_98 (by decide) (fun c98 => ?_) (fun c98 => ?_)
      · -- taken 98
        have k98 := i_of1.mp c98
        refine at_inc dX9_unseen_107 rfl pc_i1 rfl (Nat.le_of_ble_eq_true rfl) ?_
        refine at_goto (tgt := 85) dX9_unseen_110 (by decide) ?_
        rw [nI_1]
        first | exact ih (i + 1) _ (by omega) (by rw [ct_n (by rw [k98]; rfl)]; exact h1) | exact ih (i + 1) _ (by omega) (h1.add (by rw [ch_0, ch_0]) (fun k => by rw [fb_ct_succ, if_pos (by rw [k98]; rfl), ch, Nat.one_mul, Nat.add_comm]))
      · -- not taken 98
        have k98 := i_of0.mp c98
        refine at_aload_n dX9_unseen_101 rfl ?_
        refine at_iconst dX9_unseen_102 pc_i1 ?_
        refine at_iload_n dX9_unseen_103 rfl ?_
        refine at_cv2 cvX9_326 sd_119 (ev_X9_adds (m := 1) (t := n) hR (by decide) (by omega)) (by decide) ⟨Nat.le_refl _, Nat.le_refl _⟩ (Nat.le_of_ble_eq_true rfl) dX9_unseen_104 (pd_k0 ?_)
        refine at_inc dX9_unseen_107 rfl pc_i1 rfl (Nat.le_of_ble_eq_true rfl) ?_
        refine at_goto (tgt := 85) dX9_unseen_110 (by decide) ?_
        rw [nI_1]
        first | exact ih (i + 1) _ (by omega) (by rw [ct_n (by rw [k98]; rfl)]; exact h1) | exact ih (i + 1) _ (by omega) (h1.add (by rw [ch_0, ch_0]) (fun k => by rw [fb_ct_succ, if_pos (by rw [k98]; rfl), ch, Nat.one_mul, Nat.add_comm]))
theorem lp_X9_un2i (hR : RS R) (hq : RQ I 122 r) (hr : Row r nv ns nl e) (hf : ∀ k, k < nl → I 133 k = rJ r nv nl e 0 k) (hg : ∀ k, k < nl → I 134 k = rW r nv k) {x what : Int32} {v : Nat} {Q : pd_O → pd_M → Prop} (K : pd_At G mi_X9_unseen 8 0 0 0 0 176 [some (.ref (pd_z G + 119)), some (.int x), some (.int what), some (.int (nI v)), some (.int (nI (unT r nv nl e v))), some (.int (nI nl))] [] (SD, false, I, L, R) Q) : ∀ (k i : Nat), i + k = nl → pd_At G mi_X9_unseen 8 0 0 0 0 131 [some (.ref (pd_z G + 119)), some (.int x), some (.int what), some (.int (nI v)), some (.int (nI (fb_ct (fun l => rOk r nv nl e 0 l && decide (rW r nv l = nI v)) i))), some (.int (nI i))] [] (SD, false, I, L, R) Q := by
  have h40 := hr.2.2.1.2
  intro k
  induction k with
  | zero =>
    intro i hi
    have e0 : i = nl := by omega
    subst e0
    refine at_iload dX9_unseen_131 rfl ?_
    refine at_aload_n dX9_unseen_133 rfl ?_
    refine at_cv0 cvX9_218 sd_119 (ev_X9_lines hR hq hr.2.2.1.1) (by decide) ⟨Nat.le_refl _, Nat.le_refl _⟩ (Nat.le_of_ble_eq_true rfl) dX9_unseen_134 (pd_k1 ?_)
    refine at_icmpge (tgt := 176) dX9_unseen_137 (by decide) (fun c137 => ?_) (fun c137 => ?_)
    · -- taken 137
      exact K
    · -- not taken 137
      exact absurd (nI_le (Nat.le_refl _) (by omega)) c137
  | succ k ih =>
    intro i hi
    refine at_iload dX9_unseen_131 rfl ?_
    refine at_aload_n dX9_unseen_133 rfl ?_
    refine at_cv0 cvX9_218 sd_119 (ev_X9_lines hR hq hr.2.2.1.1) (by decide) ⟨Nat.le_refl _, Nat.le_refl _⟩ (Nat.le_of_ble_eq_true rfl) dX9_unseen_134 (pd_k1 ?_)
    refine at_icmpge (tgt := 176) dX9_unseen_137 (by decide) (fun c137 => ?_) (fun c137 => ?_)
    · -- taken 137
      exact absurd c137 (nI_ge (by omega) (by omega))
    · -- not taken 137
      refine at_iload dX9_unseen_140 rfl ?_
      refine at_aload_n dX9_unseen_142 rfl ?_
      refine at_iload dX9_unseen_143 rfl ?_
      refine at_cv1 cvX9_248 sd_119 (ev_X9_isClean hR hf h40 (l := i) (by omega)) (by decide) ⟨Nat.le_refl _, Nat.le_refl _⟩ (Nat.le_of_ble_eq_true rfl) dX9_unseen_145 (pd_k1 ?_)
      rw [rJ_clean]
      refine at_ifeq (tgt := 166) dX9_unseen_148 (by decide) (fun c148 => ?_) (fun c148 => ?_)
      · -- taken 148
        have k148 := i_of0.mp c148
        refine at_iconst dX9_unseen_166 pc_i0 ?_
        refine at_iadd dX9_unseen_167 ?_
        refine at_istore dX9_unseen_168 rfl (Nat.le_of_ble_eq_true rfl) ?_
        refine at_inc dX9_unseen_170 rfl pc_i1 rfl (Nat.le_of_ble_eq_true rfl) ?_
        refine at_goto (tgt := 131) dX9_unseen_173 (by decide) ?_
        first | (rw [ct_t, nI_1 i]; (exact ih (i + 1) (by omega)); (simp [k148, c159]; done)) | (rw [ct_f, nI_1 i]; (exact ih (i + 1) (by omega)); (first | (simp [k148]; done) | (simp [c159]; done)))
      · -- not taken 148
        have k148 := i_of1.mp c148
        refine at_aload_n dX9_unseen_151 rfl ?_
        refine at_getr (134) flX9_34 rfl sd_119 (rs_119_17 hR) dX9_unseen_152 ?_
        refine at_iload dX9_unseen_155 rfl ?_
        refine at_iald sd_134 (vp_in_nI (by omega) (by decide)) dX9_unseen_157 ?_
        rw [nI_clamp (by omega), hg _ (by omega)]
        refine at_iload_n dX9_unseen_158 rfl ?_
        refine at_icmpne (tgt := 166) dX9_unseen_159 (by decide) (fun c159 => ?_) (fun c159 => ?_)
        · -- taken 159
          refine at_iconst dX9_unseen_166 pc_i0 ?_
          refine at_iadd dX9_unseen_167 ?_
          refine at_istore dX9_unseen_168 rfl (Nat.le_of_ble_eq_true rfl) ?_
          refine at_inc dX9_unseen_170 rfl pc_i1 rfl (Nat.le_of_ble_eq_true rfl) ?_
          refine at_goto (tgt := 131) dX9_unseen_173 (by decide) ?_
          first | (rw [ct_t, nI_1 i]; (exact ih (i + 1) (by omega)); (simp [k148, c159]; done)) | (rw [ct_f, nI_1 i]; (exact ih (i + 1) (by omega)); (first | (simp [k148]; done) | (simp [c159]; done)))
        · -- not taken 159
          refine at_iconst dX9_unseen_162 pc_i1 ?_
          refine at_goto (tgt := 167) dX9_unseen_163 (by decide) ?_
          refine at_iadd dX9_unseen_167 ?_
          refine at_istore dX9_unseen_168 rfl (Nat.le_of_ble_eq_true rfl) ?_
          refine at_inc dX9_unseen_170 rfl pc_i1 rfl (Nat.le_of_ble_eq_true rfl) ?_
          refine at_goto (tgt := 131) dX9_unseen_173 (by decide) ?_
          first | (rw [ct_t, nI_1 i]; (exact ih (i + 1) (by omega)); (simp [k148, c159]; done)) | (rw [ct_f, nI_1 i]; (exact ih (i + 1) (by omega)); (first | (simp [k148]; done) | (simp [c159]; done)))
theorem unT_nv (hr : Row r nv ns nl e) {v : Nat} (h : nv ≤ v) (hv : v < 16) : unT r nv nl e v = 0 := fb_ct_zero.mpr (fun l hl => by
  cases hk : rOk r nv nl e 0 l with
  | false => rfl
  | true =>
    obtain ⟨u, hu, hw⟩ := rOk_v hr hk
    have : ¬ nI u = nI v := fun z => by have := (nI_eq (by omega) (by omega)).mp z; omega
    simp [hw, this])
theorem lp_X9_un2 (hR : RS R) (hq : RQ I 122 r) (hr : Row r nv ns nl e) (hf : ∀ k, k < nl → I 133 k = rJ r nv nl e 0 k) (hg : ∀ k, k < nl → I 134 k = rW r nv k) {n o : Nat} (hn : n ≤ nl) (ho : o + fb_sm (unT r nv nl e) 16 = nl) {what : Int32} : ∀ (k v : Nat) (L' : Nat → Nat → Int64), v + k = nv → AP L L' (wp (ch o) (unT r nv nl e) v) n → pd_At G mi_X9_unseen 8 0 0 0 0 115 [some (.ref (pd_z G + 119)), some (.int (nI n)), some (.int what), some (.int (nI v)), none, none] [] (SD, false, I, L', R) (fun oo M' => oo = .inl (some (.long (tmV (lN (wp (ch o) (unT r nv nl e) nv n)) (lN (ch nl n)) what))) ∧ ∃ L2, M' = (SD, false, I, L2, R) ∧ ∀ x, x ≠ 136 → ∀ j, L2 x j = L x j) := by
  have h40 := hr.2.2.1.2
  have hv16 := hr.1.2
  have h0 : I 122 (0 : Int32).toNatClampNeg = nI nv := (hq 0 (by decide)).trans hr.1.1
  intro k
  induction k with
  | zero =>
    intro v L' hi h1
    have e0 : v = nv := by omega
    subst e0
    have hwp : wp (ch o) (unT r v nl e) v n < 2 ^ 63 := by
      refine Nat.lt_of_le_of_lt (Nat.le_trans (wp_le _ _ v n) (ch_le _ _)) (Nat.pow_lt_pow_right (by decide) ?_)
      have := fb_sm_mono (unT r v nl e) v (16 - v)
      rw [show v + (16 - v) = 16 by omega] at this
      omega
    refine at_iload_n dX9_unseen_115 rfl ?_
    refine at_aload_n dX9_unseen_116 rfl ?_
    refine at_getr (122) flX9_20 rfl sd_119 (rs_119_9 hR) dX9_unseen_117 ?_
    refine at_iconst dX9_unseen_120 pc_i0 ?_
    refine at_iald sd_122 (vp_in_nI (n := 0) (by decide) (by decide)) dX9_unseen_121 ?_
    rw [h0]
    refine at_icmpge (tgt := 189) dX9_unseen_122 (by decide) (fun c122 => ?_) (fun c122 => ?_)
    · -- taken 122
      refine at_aload_n dX9_unseen_189 rfl ?_
      refine at_getr (136) flX9_40 rfl sd_119 (rs_119_20 hR) dX9_unseen_190 ?_
      refine at_iload_n dX9_unseen_193 rfl ?_
      refine at_lald sd_136 (vp_in_nI (by omega) (by decide)) dX9_unseen_194 ?_
      rw [nI_clamp (by omega), h1.2 n (Nat.le_refl _)]
      refine at_aload_n dX9_unseen_195 rfl ?_
      refine at_cv0 cvX9_218 sd_119 (ev_X9_lines hR hq hr.2.2.1.1) (by decide) ⟨Nat.le_refl _, Nat.le_refl _⟩ (Nat.le_of_ble_eq_true rfl) dX9_unseen_196 (pd_k1 ?_)
      refine at_iload_n dX9_unseen_199 rfl ?_
      refine at_cs2 csX9_290 (ev_X9_ways h40 (by omega)) (by decide) ⟨Nat.le_refl _, Nat.le_refl _⟩ (Nat.le_of_ble_eq_true rfl) dX9_unseen_200 (pd_k1 ?_)
      refine at_iload_n dX9_unseen_203 rfl ?_
      refine at_cs3 csX9_316 (ev_X9_tm (tm_nat hwp) (tm_pos (ch_pos nl n hn) (Nat.lt_of_le_of_lt (ch_le _ _) (Nat.pow_lt_pow_right (by decide) (by omega)))) what) (by decide) ⟨Nat.le_refl _, Nat.le_refl _⟩ (Nat.le_of_ble_eq_true rfl) dX9_unseen_204 (pd_k1 ?_)
      refine at_lret rfl dX9_unseen_207 ?_
      exact ⟨rfl, _, rfl, h1.1⟩
    · -- not taken 122
      exact absurd (nI_le (Nat.le_refl _) (by omega)) c122
  | succ k ih =>
    intro v L' hi h1
    have hun : unT r nv nl e v ≤ nl := fb_ct_le _ _
    have key : pd_At G mi_X9_unseen 8 0 0 0 0 176 [some (.ref (pd_z G + 119)), some (.int (nI n)), some (.int what), some (.int (nI v)), some (.int (nI (unT r nv nl e v))), some (.int (nI nl))] [] (SD, false, I, L', R) (fun oo M' => oo = .inl (some (.long (tmV (lN (wp (ch o) (unT r nv nl e) nv n)) (lN (ch nl n)) what))) ∧ ∃ L2, M' = (SD, false, I, L2, R) ∧ ∀ x, x ≠ 136 → ∀ j, L2 x j = L x j) := by
      refine at_aload_n dX9_unseen_176 rfl ?_
      refine at_iload dX9_unseen_177 rfl ?_
      refine at_iload_n dX9_unseen_179 rfl ?_
      refine at_cv2 cvX9_326 sd_119 (ev_X9_adds (m := unT r nv nl e v) (t := n) hR (by omega) (by omega)) (by decide) ⟨Nat.le_refl _, Nat.le_refl _⟩ (Nat.le_of_ble_eq_true rfl) dX9_unseen_180 (pd_k0 ?_)
      refine at_inc dX9_unseen_183 rfl pc_i1 rfl (Nat.le_of_ble_eq_true rfl) ?_
      refine at_goto (tgt := 115) dX9_unseen_186 (by decide) ?_
      refine at_drop 4 ?_
      refine at_drop 5 ?_
      rw [nI_1]
      exact ih (v + 1) _ (by omega) (h1.add rfl (fun k => rfl))
    refine at_iload_n dX9_unseen_115 rfl ?_
    refine at_aload_n dX9_unseen_116 rfl ?_
    refine at_getr (122) flX9_20 rfl sd_119 (rs_119_9 hR) dX9_unseen_117 ?_
    refine at_iconst dX9_unseen_120 pc_i0 ?_
    refine at_iald sd_122 (vp_in_nI (n := 0) (by decide) (by decide)) dX9_unseen_121 ?_
    rw [h0]
    refine at_icmpge (tgt := 189) dX9_unseen_122 (by decide) (fun c122 => ?_) (fun c122 => ?_)
    · -- taken 122
      exact absurd c122 (nI_ge (by omega) (by omega))
    · -- not taken 122
      refine at_iconst dX9_unseen_125 pc_i0 ?_
      refine at_istore dX9_unseen_126 rfl (Nat.le_of_ble_eq_true rfl) ?_
      refine at_iconst dX9_unseen_128 pc_i0 ?_
      refine at_istore dX9_unseen_129 rfl (Nat.le_of_ble_eq_true rfl) ?_
      exact lp_X9_un2i hR hq hr hf hg key nl 0 (by omega)
theorem ev_X9_unseen (hR : RS R) (hq : RQ I 122 r) (hr : Row r nv ns nl e) (x what : Int32) : pd_Ev G mi_X9_unseen 8 0 0 [.ref (pd_z G + 119), .int x, .int what] (SD, false, I, L, R) (m_x I L R (j1 9 (inR x 0 (nI nl) && inR what 0 1)) 8 (.long (unV r nv nl e x.toNatClampNeg what)) (.long 0) (QK I L)) := by
  have h40 := hr.2.2.1.2
  have hv16 := hr.1.2
  have hsum : fb_sm (unT r nv nl e) 16 = fb_ct (rOk r nv nl e 0) nl := sm_all nl (fun l hl h => by
    obtain ⟨v, hv, hw⟩ := rOk_v hr h
    exact ⟨v, by omega, hw⟩)
  have hnot := fb_ct_not (rOk r nv nl e 0) nl
  refine pd_ev 3 (lo := [some (.ref (pd_z G + 119)), some (.int x), some (.int what), none, none, none]) (by decide +kernel) (Nat.le_of_ble_eq_true rfl) rfl ?_
  refine at_aload_n dX9_unseen_0 rfl ?_
  refine at_iconst dX9_unseen_1 pc_i0 ?_
  refine at_puti flX9_48 rfl sd_119 (fun _ _ _ hq => by cases hq; rfl) dX9_unseen_2 ?_
  refine at_aload_n dX9_unseen_5 rfl ?_
  refine at_iload_n dX9_unseen_6 rfl ?_
  refine at_i2l dX9_unseen_7 ?_
  refine at_lconst dX9_unseen_8 pc_l0 ?_
  refine at_aload_n dX9_unseen_9 rfl ?_
  refine at_cv0 cvX9_218 sd_119 (ev_X9_lines hR hq.up hr.2.2.1.1) (by decide) ⟨Nat.le_refl _, Nat.le_refl _⟩ (Nat.le_of_ble_eq_true rfl) dX9_unseen_10 (pd_k1 ?_)
  refine at_i2l dX9_unseen_13 ?_
  refine at_cs3 csX9_107 (ev_X9_in _ _ _) (by decide) ⟨Nat.le_refl _, Nat.le_refl _⟩ (Nat.le_of_ble_eq_true rfl) dX9_unseen_14 (pd_k1 ?_)
  rw [inL_c x 0 (nI nl) (by decide) rfl]
  refine at_ifeq (tgt := 30) dX9_unseen_17 (by decide) (fun c17 => ?_) (fun c17 => ?_)
  · -- taken 17
    have k17 := i_of0.mp c17
    refine at_iconst dX9_unseen_30 pc_i1 ?_
    refine at_goto (tgt := 35) dX9_unseen_31 (by decide) ?_
    refine at_iconst dX9_unseen_35 pc_i1 ?_
    refine at_iconst dX9_unseen_36 pc_i1 ?_
    refine at_cv3 cvX9_204 sd_119 (ev_X9_bad1 hR (pd_up_at) (c := 1) (y := 1) ⟨by decide, by decide⟩ (by decide)) (by decide) ⟨Nat.le_refl _, Nat.le_refl _⟩ (Nat.le_of_ble_eq_true rfl) dX9_unseen_37 (pd_k1 ?_)
    refine at_ifeq (tgt := 45) dX9_unseen_40 (by decide) (fun c40 => ?_) (fun c40 => ?_)
    · -- taken 40
      exact absurd c40 (by decide)
    · -- not taken 40
      refine at_lconst dX9_unseen_43 pc_l0 ?_
      refine at_lret rfl dX9_unseen_44 ?_
      first | exact m_rf 1 (by rw [k17]; rfl) rfl | exact m_rf 1 (by rw [k27, Bool.and_false]; rfl) rfl
  · -- not taken 17
    have k17 := i_of1.mp c17
    refine at_iload_n dX9_unseen_20 rfl ?_
    refine at_i2l dX9_unseen_21 ?_
    refine at_lconst dX9_unseen_22 pc_l0 ?_
    refine at_lconst dX9_unseen_23 pc_l1 ?_
    refine at_cs3 csX9_107 (ev_X9_in _ _ _) (by decide) ⟨Nat.le_refl _, Nat.le_refl _⟩ (Nat.le_of_ble_eq_true rfl) dX9_unseen_24 (pd_k1 ?_)
    rw [inL_c what 0 1 (by decide) (by decide)]
    refine at_ifne (tgt := 34) dX9_unseen_27 (by decide) (fun c27 => ?_) (fun c27 => ?_)
    · -- taken 27
      have k27 := i_of1.mp c27
      refine at_iconst dX9_unseen_34 pc_i0 ?_
      refine at_iconst dX9_unseen_35 pc_i1 ?_
      refine at_iconst dX9_unseen_36 pc_i1 ?_
      refine at_cv3 cvX9_204 sd_119 (ev_X9_bad0 hR (pd_up_at) _ _) (by decide) ⟨Nat.le_refl _, Nat.le_refl _⟩ (Nat.le_of_ble_eq_true rfl) dX9_unseen_37 (pd_k1 ?_)
      refine at_ifeq (tgt := 45) dX9_unseen_40 (by decide) (fun c40 => ?_) (fun c40 => ?_)
      · -- taken 40
        have hj : j1 9 (inR x 0 (nI nl) && inR what 0 1) = 0 := by rw [k17, k27]; rfl
        obtain ⟨n, hn, rfl⟩ := inR_of (n := nl) (by omega) k17
        rw [nI_clamp (n := n) (by omega)]
        refine at_aload_n dX9_unseen_45 rfl ?_
        refine at_aload_n dX9_unseen_46 rfl ?_
        refine at_getr (122) flX9_20 rfl sd_119 (rs_119_9 hR) dX9_unseen_47 ?_
        refine at_iconst dX9_unseen_50 pc_i0 ?_
        refine at_cv2 cvX9_255 sd_119 (ev_X9_judges (e := e) (bes := 0) hR hq.up hr (by decide)) (by decide) ⟨Nat.le_refl _, Nat.le_refl _⟩ (Nat.le_of_ble_eq_true rfl) dX9_unseen_51 (pd_ke fun I2 L2 hj2 => ?_)
        obtain ⟨rfl, hF, hJ⟩ := hj2
        have hq2 := hF.row hq.up
        refine at_iconst dX9_unseen_54 pc_i0 ?_
        refine at_istore_n dX9_unseen_55 rfl (Nat.le_of_ble_eq_true rfl) ?_
        refine lp_X9_un0 (L := L2) hR (fun L3 h3 => ?_) 41 0 L2 (by omega) (fun _ _ _ => rfl) (fun j hj => absurd hj (Nat.not_lt_zero _))
        refine at_iconst dX9_unseen_83 pc_i0 ?_
        refine at_istore_n dX9_unseen_84 rfl (Nat.le_of_ble_eq_true rfl) ?_
        refine lp_X9_un1 (L := L2) hR hq2 hr hJ.1 hn (fun L4 h4 => ?_) nl 0 L3 (by omega) ⟨h3.1, fun k hk => h3.2 k (by omega)⟩
        refine at_iconst dX9_unseen_113 pc_i0 ?_
        refine at_istore_n dX9_unseen_114 rfl (Nat.le_of_ble_eq_true rfl) ?_
        refine pd_At_mono (lp_X9_un2 (L := L2) hR hq2 hr hJ.1 hJ.2.1 hn (o := fb_ct (fun l => !rOk r nv nl e 0 l) nl) (by omega) nv 0 L4 (by omega) h4) ?_
        rintro o M' ⟨rfl, L5, rfl, h5⟩
        refine m_yes hj ?_ hF.t0 ⟨(hF.mq (L := L2)).1, h5⟩
        rw [unV, show nl - fb_sm (unT r nv nl e) 16 = fb_ct (fun l => !rOk r nv nl e 0 l) nl by omega]
        rw [show wp (ch (fb_ct (fun l => !rOk r nv nl e 0 l) nl)) (unT r nv nl e) 16 n = wp (ch (fb_ct (fun l => !rOk r nv nl e 0 l) nl)) (unT r nv nl e) nv n from by rw [show (16 : Nat) = nv + (16 - nv) by omega]; exact wp_0s _ (fun j h1 h2 => unT_nv hr h1 (by omega)) n]
      · -- not taken 40
        exact absurd rfl c40
    · -- not taken 27
      have k27 := i_of0.mp c27
      refine at_iconst dX9_unseen_30 pc_i1 ?_
      refine at_goto (tgt := 35) dX9_unseen_31 (by decide) ?_
      refine at_iconst dX9_unseen_35 pc_i1 ?_
      refine at_iconst dX9_unseen_36 pc_i1 ?_
      refine at_cv3 cvX9_204 sd_119 (ev_X9_bad1 hR (pd_up_at) (c := 1) (y := 1) ⟨by decide, by decide⟩ (by decide)) (by decide) ⟨Nat.le_refl _, Nat.le_refl _⟩ (Nat.le_of_ble_eq_true rfl) dX9_unseen_37 (pd_k1 ?_)
      refine at_ifeq (tgt := 45) dX9_unseen_40 (by decide) (fun c40 => ?_) (fun c40 => ?_)
      · -- taken 40
        exact absurd c40 (by decide)
      · -- not taken 40
        refine at_lconst dX9_unseen_43 pc_l0 ?_
        refine at_lret rfl dX9_unseen_44 ?_
        first | exact m_rf 1 (by rw [k17]; rfl) rfl | exact m_rf 1 (by rw [k27, Bool.and_false]; rfl) rfl
end REF8
