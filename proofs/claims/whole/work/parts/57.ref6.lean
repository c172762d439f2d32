/-! ===== the reference: voters, sheets, lines, letters ===== -/
section REF6
variable {G : pd_G} {I : Nat → Nat → Int32} {L : Nat → Nat → Int64} {R : Nat → Nat → Option Nat} {nv ns nl : Nat} {e : List rl_S} {r : Nat → Int32}
theorem lp_X9_voter (hR : RS R) (hq : RQ I 122 r) (hr : Row r nv ns nl e) {f g : Nat → Int32} (hf : ∀ k, k < nl → I 133 k = f k) (hg : ∀ k, k < nl → I 134 k = g k) (x what : Int32) : ∀ (k i : Nat), i + k = nl → pd_At G mi_X9_voter 8 0 0 0 0 87 [some (.ref (pd_z G + 119)), some (.int x), some (.int what), some (.int (nI (fb_ct (fun l => decide (g l = x) && (decide (what = 2) || decide (f l = 0))) i))), some (.int (nI i))] [] (SD, false, I, L, R) (pd_rt (.int (nI (fb_ct (fun l => decide (g l = x) && (decide (what = 2) || decide (f l = 0))) nl))) (SD, false, I, L, R)) := by
  have h40 := hr.2.2.1.2
  intro k
  induction k with
  | zero =>
    intro i hi
    have e0 : i = nl := by omega
    subst e0
    refine at_iload dX9_voter_87 rfl ?_
    refine at_aload_n dX9_voter_89 rfl ?_
    refine at_cv0 cvX9_218 sd_119 (ev_X9_lines hR hq hr.2.2.1.1) (by decide) ⟨Nat.le_refl _, Nat.le_refl _⟩ (Nat.le_of_ble_eq_true rfl) dX9_voter_90 (pd_k1 ?_)
    refine at_icmpge (tgt := 136) dX9_voter_93 (by decide) (fun c93 => ?_) (fun c93 => ?_)
    · -- taken 93
      refine at_iload_n dX9_voter_136 rfl ?_
      refine at_iret rfl dX9_voter_137 ?_
      exact ⟨rfl, rfl⟩
    · -- not taken 93
      exact absurd (nI_le (Nat.le_refl _) (by omega)) c93
  | succ k ih =>
    intro i hi
    refine at_iload dX9_voter_87 rfl ?_
    refine at_aload_n dX9_voter_89 rfl ?_
    refine at_cv0 cvX9_218 sd_119 (ev_X9_lines hR hq hr.2.2.1.1) (by decide) ⟨Nat.le_refl _, Nat.le_refl _⟩ (Nat.le_of_ble_eq_true rfl) dX9_voter_90 (pd_k1 ?_)
    refine at_icmpge (tgt := 136) dX9_voter_93 (by decide) (fun c93 => ?_) (fun c93 => ?_)
    · -- taken 93
      exact absurd c93 (nI_ge (by omega) (by omega))
    · -- not taken 93
      refine at_iload_n dX9_voter_96 rfl ?_
      refine at_aload_n dX9_voter_97 rfl ?_
      refine at_getr (134) flX9_34 rfl sd_119 (rs_119_17 hR) dX9_voter_98 ?_
      refine at_iload dX9_voter_101 rfl ?_
      refine at_iald sd_134 (vp_in_nI (by omega) (by decide)) dX9_voter_103 ?_
      rw [nI_clamp (by omega), hg _ (by omega)]
      refine at_iload_n dX9_voter_104 rfl ?_
      refine at_icmpne (tgt := 127) dX9_voter_105 (by decide) (fun c105 => ?_) (fun c105 => ?_)
      · -- taken 105
        refine at_iconst dX9_voter_127 pc_i0 ?_
        refine at_iadd dX9_voter_128 ?_
        refine at_istore_n dX9_voter_129 rfl (Nat.le_of_ble_eq_true rfl) ?_
        refine at_inc dX9_voter_130 rfl pc_i1 rfl (Nat.le_of_ble_eq_true rfl) ?_
        refine at_goto (tgt := 87) dX9_voter_133 (by decide) ?_
        first | (rw [ct_t, nI_1 i]; (exact ih (i + 1) (by omega)); (first | (simp [c105, c110]; done) | (simp [c105, c120]; done))) | (rw [ct_f, nI_1 i]; (exact ih (i + 1) (by omega)); (first | (simp [c105]; done) | (simp [c110, c120]; done)))
      · -- not taken 105
        refine at_iload_n dX9_voter_108 rfl ?_
        refine at_iconst dX9_voter_109 pc_i2 ?_
        refine at_icmpeq (tgt := 123) dX9_voter_110 (by decide) (fun c110 => ?_) (fun c110 => ?_)
        · -- taken 110
          refine at_iconst dX9_voter_123 pc_i1 ?_
          refine at_goto (tgt := 128) dX9_voter_124 (by decide) ?_
          refine at_iadd dX9_voter_128 ?_
          refine at_istore_n dX9_voter_129 rfl (Nat.le_of_ble_eq_true rfl) ?_
          refine at_inc dX9_voter_130 rfl pc_i1 rfl (Nat.le_of_ble_eq_true rfl) ?_
          refine at_goto (tgt := 87) dX9_voter_133 (by decide) ?_
          first | (rw [ct_t, nI_1 i]; (exact ih (i + 1) (by omega)); (first | (simp [c105, c110]; done) | (simp [c105, c120]; done))) | (rw [ct_f, nI_1 i]; (exact ih (i + 1) (by omega)); (first | (simp [c105]; done) | (simp [c110, c120]; done)))
        · -- not taken 110
          refine at_aload_n dX9_voter_113 rfl ?_
          refine at_getr (133) flX9_31 rfl sd_119 (rs_119_16 hR) dX9_voter_114 ?_
          refine at_iload dX9_voter_117 rfl ?_
          refine at_iald sd_133 (vp_in_nI (by omega) (by decide)) dX9_voter_119 ?_
          rw [nI_clamp (by omega), hf _ (by omega)]
          refine at_ifne (tgt := 127) dX9_voter_120 (by decide) (fun c120 => ?_) (fun c120 => ?_)
          · -- taken 120
            refine at_iconst dX9_voter_127 pc_i0 ?_
            refine at_iadd dX9_voter_128 ?_
            refine at_istore_n dX9_voter_129 rfl (Nat.le_of_ble_eq_true rfl) ?_
            refine at_inc dX9_voter_130 rfl pc_i1 rfl (Nat.le_of_ble_eq_true rfl) ?_
            refine at_goto (tgt := 87) dX9_voter_133 (by decide) ?_
            first | (rw [ct_t, nI_1 i]; (exact ih (i + 1) (by omega)); (first | (simp [c105, c110]; done) | (simp [c105, c120]; done))) | (rw [ct_f, nI_1 i]; (exact ih (i + 1) (by omega)); (first | (simp [c105]; done) | (simp [c110, c120]; done)))
          · -- not taken 120
            refine at_iconst dX9_voter_123 pc_i1 ?_
            refine at_goto (tgt := 128) dX9_voter_124 (by decide) ?_
            refine at_iadd dX9_voter_128 ?_
            refine at_istore_n dX9_voter_129 rfl (Nat.le_of_ble_eq_true rfl) ?_
            refine at_inc dX9_voter_130 rfl pc_i1 rfl (Nat.le_of_ble_eq_true rfl) ?_
            refine at_goto (tgt := 87) dX9_voter_133 (by decide) ?_
            first | (rw [ct_t, nI_1 i]; (exact ih (i + 1) (by omega)); (first | (simp [c105, c110]; done) | (simp [c105, c120]; done))) | (rw [ct_f, nI_1 i]; (exact ih (i + 1) (by omega)); (first | (simp [c105]; done) | (simp [c110, c120]; done)))
theorem ev_X9_voter (hR : RS R) (hq : RQ I 122 r) (hr : Row r nv ns nl e) (x what : Int32) : pd_Ev G mi_X9_voter 8 0 0 [.ref (pd_z G + 119), .int x, .int what] (SD, false, I, L, R) (m_x I L R (j2 8 (isN x nv) 9 (inR what 0 3)) 7 (.int (voV r nv nl e x.toNatClampNeg what)) (.int 0) (QK I L)) := by
  have hv16 := hr.1.2
  refine pd_ev 2 (lo := [some (.ref (pd_z G + 119)), some (.int x), some (.int what), none, none]) (by decide +kernel) (Nat.le_of_ble_eq_true rfl) rfl ?_
  refine at_aload_n dX9_voter_0 rfl ?_
  refine at_iconst dX9_voter_1 pc_i0 ?_
  refine at_puti flX9_48 rfl sd_119 (fun _ _ _ hq => by cases hq; rfl) dX9_voter_2 ?_
  refine at_aload_n dX9_voter_5 rfl ?_
  refine at_aload_n dX9_voter_6 rfl ?_
  refine at_iload_n dX9_voter_7 rfl ?_
  refine at_cv1 cvX9_262 sd_119 (ev_X9_isVoter hR hq.up hr x) (by decide) ⟨Nat.le_refl _, Nat.le_refl _⟩ (Nat.le_of_ble_eq_true rfl) dX9_voter_8 (pd_k1 ?_)
  refine at_ifne (tgt := 18) dX9_voter_11 (by decide) (fun c11 => ?_) (fun c11 => ?_)
  · -- taken 11
    have k11 := i_of1.mp c11
    refine at_iconst dX9_voter_18 pc_i0 ?_
    refine at_iconst dX9_voter_19 pc_i1 ?_
    refine at_iconst dX9_voter_20 pc_i0 ?_
    refine at_cv3 cvX9_204 sd_119 (ev_X9_bad0 hR (pd_up_at) _ _) (by decide) ⟨Nat.le_refl _, Nat.le_refl _⟩ (Nat.le_of_ble_eq_true rfl) dX9_voter_21 (pd_k1 ?_)
    refine at_ifne (tgt := 53) dX9_voter_24 (by decide) (fun c24 => ?_) (fun c24 => ?_)
    · -- taken 24
      exact absurd rfl c24
    · -- not taken 24
      refine at_aload_n dX9_voter_27 rfl ?_
      refine at_iload_n dX9_voter_28 rfl ?_
      refine at_i2l dX9_voter_29 ?_
      refine at_lconst dX9_voter_30 pc_l0 ?_
      refine at_ldc2 coX9_281 dX9_voter_31 ?_
      refine at_cs3 csX9_107 (ev_X9_in _ _ _) (by decide) ⟨Nat.le_refl _, Nat.le_refl _⟩ (Nat.le_of_ble_eq_true rfl) dX9_voter_34 (pd_k1 ?_)
      rw [inL_c what 0 3 (by decide) (by decide)]
      refine at_ifne (tgt := 44) dX9_voter_37 (by decide) (fun c37 => ?_) (fun c37 => ?_)
      · -- taken 37
        have k37 := i_of1.mp c37
        refine at_iconst dX9_voter_44 pc_i0 ?_
        refine at_iconst dX9_voter_45 pc_i2 ?_
        refine at_iconst dX9_voter_46 pc_i1 ?_
        refine at_cv3 cvX9_204 sd_119 (ev_X9_bad0 hR (pd_up_at) _ _) (by decide) ⟨Nat.le_refl _, Nat.le_refl _⟩ (Nat.le_of_ble_eq_true rfl) dX9_voter_47 (pd_k1 ?_)
        refine at_ifeq (tgt := 55) dX9_voter_50 (by decide) (fun c50 => ?_) (fun c50 => ?_)
        · -- taken 50
          have hj : j2 8 (isN x nv) 9 (inR what 0 3) = 0 := by rw [k11, k37]; rfl
          obtain ⟨v, hv, rfl⟩ := isN_of (n := nv) (by omega) k11
          obtain ⟨q, hq3, rfl⟩ := inR_of (n := 3) (by decide) k37
          rw [nI_clamp (n := v) (by omega)]
          refine at_iload_n dX9_voter_55 rfl ?_
          refine at_iconst dX9_voter_56 pc_i2 ?_
          refine at_icmpge (tgt := 73) dX9_voter_57 (by decide) (fun c57 => ?_) (fun c57 => ?_)
          · -- taken 57
            rw [show (2 : Int32) = nI 2 from rfl, nI_leI (by decide) (by omega)] at c57
            refine at_aload_n dX9_voter_73 rfl ?_
            refine at_aload_n dX9_voter_74 rfl ?_
            refine at_getr (122) flX9_20 rfl sd_119 (rs_119_9 hR) dX9_voter_75 ?_
            refine at_iconst dX9_voter_78 pc_i0 ?_
            refine at_cv2 cvX9_255 sd_119 (ev_X9_judges (e := e) (bes := 0) hR hq.up hr (by decide)) (by decide) ⟨Nat.le_refl _, Nat.le_refl _⟩ (Nat.le_of_ble_eq_true rfl) dX9_voter_79 (pd_ke fun I2 L2 hj => ?_)
            obtain ⟨rfl, hF, hJ⟩ := hj
            refine at_iconst dX9_voter_82 pc_i0 ?_
            refine at_istore_n dX9_voter_83 rfl (Nat.le_of_ble_eq_true rfl) ?_
            refine at_iconst dX9_voter_84 pc_i0 ?_
            refine at_istore dX9_voter_85 rfl (Nat.le_of_ble_eq_true rfl) ?_
            refine pd_At_mono (lp_X9_voter hR (hF.row hq.up) hr hJ.1 hJ.2.1 (nI v) (nI q) nl 0 (by omega)) ?_
            rintro o M' ⟨rfl, rfl⟩
            refine m_yes (by rw [k11, k37]; rfl) ?_ hF.t0 hF.mq
            rcases (show q = 2 ∨ q = 3 by omega) with rfl | rfl
            · rw [voV, if_neg (by decide), if_neg (by decide), if_pos (by decide)]
              congr 2; exact fb_ct_cong (fun l _ => by rw [show decide (nI 2 = 2) = true from rfl, Bool.true_or, Bool.and_true])
            · rw [voV, if_neg (by decide), if_neg (by decide), if_neg (by decide)]
              congr 2
          · -- not taken 57
            rw [show (2 : Int32) = nI 2 from rfl, nI_leI (by decide) (by omega)] at c57
            refine at_aload_n dX9_voter_60 rfl ?_
            refine at_getr (122) flX9_20 rfl sd_119 (rs_119_9 hR) dX9_voter_61 ?_
            refine at_iload_n dX9_voter_64 rfl ?_
            refine at_iconst dX9_voter_65 pc_i1 ?_
            refine at_iload_n dX9_voter_66 rfl ?_
            refine at_iadd dX9_voter_67 ?_
            rw [show (1 : Int32) = nI 1 from rfl, nI_add]
            refine at_cs2 csX9_111 (ev_X9_voterAt v (1 + q) (10 + 3 * v + q) (by omega)) (by decide) ⟨Nat.le_refl _, Nat.le_refl _⟩ (Nat.le_of_ble_eq_true rfl) dX9_voter_68 (pd_k1 ?_)
            refine at_iald sd_122 (vp_in_nI (by omega) (by decide)) dX9_voter_71 ?_
            rw [nI_clamp (by omega), pd_up_nb (by decide), hq _ (by omega)]
            refine at_iret rfl dX9_voter_72 ?_
            refine m_yes hj ?_ pd_up_at up_mq
            rcases (show q = 0 ∨ q = 1 by omega) with rfl | rfl
            · rfl
            · rw [show 10 + 3 * v + 1 = 11 + 3 * v by omega]; rfl
        · -- not taken 50
          exact absurd rfl c50
      · -- not taken 37
        have k37 := i_of0.mp c37
        refine at_iconst dX9_voter_40 pc_i1 ?_
        refine at_goto (tgt := 45) dX9_voter_41 (by decide) ?_
        refine at_iconst dX9_voter_45 pc_i2 ?_
        refine at_iconst dX9_voter_46 pc_i1 ?_
        refine at_cv3 cvX9_204 sd_119 (ev_X9_bad1 hR (pd_up_at) (c := 2) (y := 1) ⟨by decide, by decide⟩ (by decide)) (by decide) ⟨Nat.le_refl _, Nat.le_refl _⟩ (Nat.le_of_ble_eq_true rfl) dX9_voter_47 (pd_k1 ?_)
        refine at_ifeq (tgt := 55) dX9_voter_50 (by decide) (fun c50 => ?_) (fun c50 => ?_)
        · -- taken 50
          exact absurd c50 (by decide)
        · -- not taken 50
          refine at_iconst dX9_voter_53 pc_i0 ?_
          refine at_iret rfl dX9_voter_54 ?_
          first | exact m_rf 0 (by rw [k11]; rfl) rfl | exact m_rf 1 (by rw [k11, k37]; rfl) rfl
  · -- not taken 11
    have k11 := i_of0.mp c11
    refine at_iconst dX9_voter_14 pc_i1 ?_
    refine at_goto (tgt := 19) dX9_voter_15 (by decide) ?_
    refine at_iconst dX9_voter_19 pc_i1 ?_
    refine at_iconst dX9_voter_20 pc_i0 ?_
    refine at_cv3 cvX9_204 sd_119 (ev_X9_bad1 hR (pd_up_at) (c := 1) (y := 0) ⟨by decide, by decide⟩ (by decide)) (by decide) ⟨Nat.le_refl _, Nat.le_refl _⟩ (Nat.le_of_ble_eq_true rfl) dX9_voter_21 (pd_k1 ?_)
    refine at_ifne (tgt := 53) dX9_voter_24 (by decide) (fun c24 => ?_) (fun c24 => ?_)
    · -- taken 24
      refine at_iconst dX9_voter_53 pc_i0 ?_
      refine at_iret rfl dX9_voter_54 ?_
      first | exact m_rf 0 (by rw [k11]; rfl) rfl | exact m_rf 1 (by rw [k11, k37]; rfl) rfl
    · -- not taken 24
      exact absurd c24 (by decide)
theorem lp_X9_sheet (hR : RS R) (hq : RQ I 122 r) (hr : Row r nv ns nl e) {f : Nat → Int32} (hf : ∀ k, k < nl → I 133 k = f k) (x what : Int32) : ∀ (k i : Nat), i + k = nl → pd_At G mi_X9_sheet 8 0 0 0 0 112 [some (.ref (pd_z G + 119)), some (.int x), some (.int what), some (.int (nI (fb_ct (fun l => decide (rSh r l = x) && decide (f l = what - 3)) i))), some (.int (nI i))] [] (SD, false, I, L, R) (pd_rt (.int (nI (fb_ct (fun l => decide (rSh r l = x) && decide (f l = what - 3)) nl))) (SD, false, I, L, R)) := by
  have h40 := hr.2.2.1.2
  intro k
  induction k with
  | zero =>
    intro i hi
    have e0 : i = nl := by omega
    subst e0
    refine at_iload dX9_sheet_112 rfl ?_
    refine at_aload_n dX9_sheet_114 rfl ?_
    refine at_cv0 cvX9_218 sd_119 (ev_X9_lines hR hq hr.2.2.1.1) (by decide) ⟨Nat.le_refl _, Nat.le_refl _⟩ (Nat.le_of_ble_eq_true rfl) dX9_sheet_115 (pd_k1 ?_)
    refine at_icmpge (tgt := 163) dX9_sheet_118 (by decide) (fun c118 => ?_) (fun c118 => ?_)
    · -- taken 118
      refine at_iload_n dX9_sheet_163 rfl ?_
      refine at_iret rfl dX9_sheet_164 ?_
      exact ⟨rfl, rfl⟩
    · -- not taken 118
      exact absurd (nI_le (Nat.le_refl _) (by omega)) c118
  | succ k ih =>
    intro i hi
    refine at_iload dX9_sheet_112 rfl ?_
    refine at_aload_n dX9_sheet_114 rfl ?_
    refine at_cv0 cvX9_218 sd_119 (ev_X9_lines hR hq hr.2.2.1.1) (by decide) ⟨Nat.le_refl _, Nat.le_refl _⟩ (Nat.le_of_ble_eq_true rfl) dX9_sheet_115 (pd_k1 ?_)
    refine at_icmpge (tgt := 163) dX9_sheet_118 (by decide) (fun c118 => ?_) (fun c118 => ?_)
    · -- taken 118
      exact absurd c118 (nI_ge (by omega) (by omega))
    · -- not taken 118
      refine at_iload_n dX9_sheet_121 rfl ?_
      refine at_aload_n dX9_sheet_122 rfl ?_
      refine at_getr (122) flX9_20 rfl sd_119 (rs_119_9 hR) dX9_sheet_123 ?_
      refine at_iload dX9_sheet_126 rfl ?_
      refine at_iconst dX9_sheet_128 pc_i2 ?_
      refine at_cs2 csX9_124 (ev_X9_lineAt i 2 (67 + 4 * i) (by omega)) (by decide) ⟨Nat.le_refl _, Nat.le_refl _⟩ (Nat.le_of_ble_eq_true rfl) dX9_sheet_129 (pd_k1 ?_)
      refine at_iald sd_122 (vp_in_nI (by omega) (by decide)) dX9_sheet_132 ?_
      rw [nI_clamp (by omega), hq _ (by omega)]
      refine at_iload_n dX9_sheet_133 rfl ?_
      refine at_icmpne (tgt := 154) dX9_sheet_134 (by decide) (fun c134 => ?_) (fun c134 => ?_)
      · -- taken 134
        refine at_iconst dX9_sheet_154 pc_i0 ?_
        refine at_iadd dX9_sheet_155 ?_
        refine at_istore_n dX9_sheet_156 rfl (Nat.le_of_ble_eq_true rfl) ?_
        refine at_inc dX9_sheet_157 rfl pc_i1 rfl (Nat.le_of_ble_eq_true rfl) ?_
        refine at_goto (tgt := 112) dX9_sheet_160 (by decide) ?_
        first | (rw [ct_t, nI_1 i]; (exact ih (i + 1) (by omega)); (simp [rSh, c134, c147]; done)) | (rw [ct_f, nI_1 i]; (exact ih (i + 1) (by omega)); (first | (simp [rSh, c134]; done) | (simp [c147]; done)))
      · -- not taken 134
        refine at_aload_n dX9_sheet_137 rfl ?_
        refine at_getr (133) flX9_31 rfl sd_119 (rs_119_16 hR) dX9_sheet_138 ?_
        refine at_iload dX9_sheet_141 rfl ?_
        refine at_iald sd_133 (vp_in_nI (by omega) (by decide)) dX9_sheet_143 ?_
        rw [nI_clamp (by omega), hf _ (by omega)]
        refine at_iload_n dX9_sheet_144 rfl ?_
        refine at_iconst dX9_sheet_145 pc_i3 ?_
        refine at_isub dX9_sheet_146 ?_
        refine at_icmpne (tgt := 154) dX9_sheet_147 (by decide) (fun c147 => ?_) (fun c147 => ?_)
        · -- taken 147
          refine at_iconst dX9_sheet_154 pc_i0 ?_
          refine at_iadd dX9_sheet_155 ?_
          refine at_istore_n dX9_sheet_156 rfl (Nat.le_of_ble_eq_true rfl) ?_
          refine at_inc dX9_sheet_157 rfl pc_i1 rfl (Nat.le_of_ble_eq_true rfl) ?_
          refine at_goto (tgt := 112) dX9_sheet_160 (by decide) ?_
          first | (rw [ct_t, nI_1 i]; (exact ih (i + 1) (by omega)); (simp [rSh, c134, c147]; done)) | (rw [ct_f, nI_1 i]; (exact ih (i + 1) (by omega)); (first | (simp [rSh, c134]; done) | (simp [c147]; done)))
        · -- not taken 147
          refine at_iconst dX9_sheet_150 pc_i1 ?_
          refine at_goto (tgt := 155) dX9_sheet_151 (by decide) ?_
          refine at_iadd dX9_sheet_155 ?_
          refine at_istore_n dX9_sheet_156 rfl (Nat.le_of_ble_eq_true rfl) ?_
          refine at_inc dX9_sheet_157 rfl pc_i1 rfl (Nat.le_of_ble_eq_true rfl) ?_
          refine at_goto (tgt := 112) dX9_sheet_160 (by decide) ?_
          first | (rw [ct_t, nI_1 i]; (exact ih (i + 1) (by omega)); (simp [rSh, c134, c147]; done)) | (rw [ct_f, nI_1 i]; (exact ih (i + 1) (by omega)); (first | (simp [rSh, c134]; done) | (simp [c147]; done)))
theorem ev_X9_sheet (hR : RS R) (hq : RQ I 122 r) (hr : Row r nv ns nl e) (x what : Int32) : pd_Ev G mi_X9_sheet 8 0 0 [.ref (pd_z G + 119), .int x, .int what] (SD, false, I, L, R) (m_x I L R (j2 8 (isN x ns) 9 (inR what 0 8)) 7 (.int (shV r nv nl e x.toNatClampNeg what)) (.int 0) (QK I L)) := by
  have h8 := hr.2.1.2
  have hlt := bsum_lt (rK r nv nl e 0) ns
  have hp8 : 2 ^ ns ≤ 2 ^ 8 := Nat.pow_le_pow_right (by decide) h8
  refine pd_ev 2 (lo := [some (.ref (pd_z G + 119)), some (.int x), some (.int what), none, none]) (by decide +kernel) (Nat.le_of_ble_eq_true rfl) rfl ?_
  refine at_aload_n dX9_sheet_0 rfl ?_
  refine at_iconst dX9_sheet_1 pc_i0 ?_
  refine at_puti flX9_48 rfl sd_119 (fun _ _ _ hq => by cases hq; rfl) dX9_sheet_2 ?_
  refine at_aload_n dX9_sheet_5 rfl ?_
  refine at_aload_n dX9_sheet_6 rfl ?_
  refine at_iload_n dX9_sheet_7 rfl ?_
  refine at_cv1 cvX9_238 sd_119 (ev_X9_isSheet hR hq.up hr x) (by decide) ⟨Nat.le_refl _, Nat.le_refl _⟩ (Nat.le_of_ble_eq_true rfl) dX9_sheet_8 (pd_k1 ?_)
  refine at_ifne (tgt := 18) dX9_sheet_11 (by decide) (fun c11 => ?_) (fun c11 => ?_)
  · -- taken 11
    have k11 := i_of1.mp c11
    refine at_iconst dX9_sheet_18 pc_i0 ?_
    refine at_iconst dX9_sheet_19 pc_i1 ?_
    refine at_iconst dX9_sheet_20 pc_i0 ?_
    refine at_cv3 cvX9_204 sd_119 (ev_X9_bad0 hR (pd_up_at) _ _) (by decide) ⟨Nat.le_refl _, Nat.le_refl _⟩ (Nat.le_of_ble_eq_true rfl) dX9_sheet_21 (pd_k1 ?_)
    refine at_ifne (tgt := 53) dX9_sheet_24 (by decide) (fun c24 => ?_) (fun c24 => ?_)
    · -- taken 24
      exact absurd rfl c24
    · -- not taken 24
      refine at_aload_n dX9_sheet_27 rfl ?_
      refine at_iload_n dX9_sheet_28 rfl ?_
      refine at_i2l dX9_sheet_29 ?_
      refine at_lconst dX9_sheet_30 pc_l0 ?_
      refine at_ldc2 coX9_283 dX9_sheet_31 ?_
      refine at_cs3 csX9_107 (ev_X9_in _ _ _) (by decide) ⟨Nat.le_refl _, Nat.le_refl _⟩ (Nat.le_of_ble_eq_true rfl) dX9_sheet_34 (pd_k1 ?_)
      rw [inL_c what 0 8 (by decide) (by decide)]
      refine at_ifne (tgt := 44) dX9_sheet_37 (by decide) (fun c37 => ?_) (fun c37 => ?_)
      · -- taken 37
        have k37 := i_of1.mp c37
        refine at_iconst dX9_sheet_44 pc_i0 ?_
        refine at_iconst dX9_sheet_45 pc_i2 ?_
        refine at_iconst dX9_sheet_46 pc_i1 ?_
        refine at_cv3 cvX9_204 sd_119 (ev_X9_bad0 hR (pd_up_at) _ _) (by decide) ⟨Nat.le_refl _, Nat.le_refl _⟩ (Nat.le_of_ble_eq_true rfl) dX9_sheet_47 (pd_k1 ?_)
        refine at_ifeq (tgt := 55) dX9_sheet_50 (by decide) (fun c50 => ?_) (fun c50 => ?_)
        · -- taken 50
          have hj : j2 8 (isN x ns) 9 (inR what 0 8) = 0 := by rw [k11, k37]; rfl
          obtain ⟨s, hs, rfl⟩ := isN_of (n := ns) (by omega) k11
          rw [nI_clamp (n := s) (by omega)]
          refine at_aload_n dX9_sheet_55 rfl ?_
          refine at_aload_n dX9_sheet_56 rfl ?_
          refine at_getr (122) flX9_20 rfl sd_119 (rs_119_9 hR) dX9_sheet_57 ?_
          refine at_iconst dX9_sheet_60 pc_i0 ?_
          refine at_cv2 cvX9_255 sd_119 (ev_X9_judges (e := e) (bes := 0) hR hq.up hr (by decide)) (by decide) ⟨Nat.le_refl _, Nat.le_refl _⟩ (Nat.le_of_ble_eq_true rfl) dX9_sheet_61 (pd_ke fun I2 L2 hj2 => ?_)
          obtain ⟨rfl, hF, hJ⟩ := hj2
          have hq2 := hF.row hq.up
          refine at_iload_n dX9_sheet_64 rfl ?_
          refine at_iconst dX9_sheet_65 pc_i3 ?_
          refine at_icmpge (tgt := 107) dX9_sheet_66 (by decide) (fun c66 => ?_) (fun c66 => ?_)
          · -- taken 66
            refine at_iconst dX9_sheet_107 pc_i0 ?_
            refine at_istore_n dX9_sheet_108 rfl (Nat.le_of_ble_eq_true rfl) ?_
            refine at_iconst dX9_sheet_109 pc_i0 ?_
            refine at_istore dX9_sheet_110 rfl (Nat.le_of_ble_eq_true rfl) ?_
            refine pd_At_mono (lp_X9_sheet hR hq2 hr hJ.1 (nI s) what nl 0 (by omega)) ?_
            rintro o M' ⟨rfl, rfl⟩
            refine m_yes hj ?_ hF.t0 hF.mq
            rw [shV, if_neg (fun z => by rw [z] at c66; exact absurd c66 (by decide)), if_neg (fun z => by rw [z] at c66; exact absurd c66 (by decide)), if_neg (fun z => by rw [z] at c66; exact absurd c66 (by decide))]
          · -- not taken 66
            refine at_iload_n dX9_sheet_69 rfl ?_
            refine at_ifne (tgt := 81) dX9_sheet_70 (by decide) (fun c70 => ?_) (fun c70 => ?_)
            · -- taken 70
              refine at_iload_n dX9_sheet_81 rfl ?_
              refine at_iconst dX9_sheet_82 pc_i1 ?_
              refine at_icmpne (tgt := 97) dX9_sheet_83 (by decide) (fun c83 => ?_) (fun c83 => ?_)
              · -- taken 83
                refine at_aload_n dX9_sheet_97 rfl ?_
                refine at_getr (122) flX9_20 rfl sd_119 (rs_119_9 hR) dX9_sheet_98 ?_
                refine at_bipush dX9_sheet_101 pc_b57 ?_
                refine at_iload_n dX9_sheet_103 rfl ?_
                refine at_iadd dX9_sheet_104 ?_
                rw [show (57 : Int32) = nI 57 from rfl, nI_add]
                refine at_iald sd_122 (vp_in_nI (by omega) (by decide)) dX9_sheet_105 ?_
                try rw [nI_clamp (by omega), hq2 _ (by omega)]
                refine at_iret rfl dX9_sheet_106 ?_
                refine m_yes hj ?_ hF.t0 hF.mq
                first | (rw [shV, if_pos c70]; rfl) | (rw [shV, if_neg c70, if_pos c83]; done) | (rw [shV, if_neg c70, if_neg c83, if_pos]; (obtain ⟨q, hq8, rfl⟩ := inR_of (n := 8) (by decide) k37; have a3 : q < 3 := Nat.not_le.mp (fun z => c66 (nI_le (a := 3) z (by omega))); have a0 : q ≠ 0 := fun z => c70 (by rw [z]; rfl); have a1 : q ≠ 1 := fun z => c83 (by rw [z]; rfl); rw [show q = 2 by omega]; rfl))
              · -- not taken 83
                refine at_aload_n dX9_sheet_86 rfl ?_
                refine at_geti flX9_228 rfl sd_119 dX9_sheet_87 ?_
                refine at_iload_n dX9_sheet_90 rfl ?_
                refine at_ishr dX9_sheet_91 ?_
                refine at_iconst dX9_sheet_92 pc_i1 ?_
                refine at_iand dX9_sheet_93 ?_
                rw [hJ.2.2, i_tb (by omega) (by omega), bsum_bit, decide_eq_true hs, Bool.true_and]
                refine at_goto (tgt := 106) dX9_sheet_94 (by decide) ?_
                try rw [nI_clamp (by omega), hq2 _ (by omega)]
                refine at_iret rfl dX9_sheet_106 ?_
                refine m_yes hj ?_ hF.t0 hF.mq
                first | (rw [shV, if_pos c70]; rfl) | (rw [shV, if_neg c70, if_pos c83]; done) | (rw [shV, if_neg c70, if_neg c83, if_pos]; (obtain ⟨q, hq8, rfl⟩ := inR_of (n := 8) (by decide) k37; have a3 : q < 3 := Nat.not_le.mp (fun z => c66 (nI_le (a := 3) z (by omega))); have a0 : q ≠ 0 := fun z => c70 (by rw [z]; rfl); have a1 : q ≠ 1 := fun z => c83 (by rw [z]; rfl); rw [show q = 2 by omega]; rfl))
            · -- not taken 70
              refine at_aload_n dX9_sheet_73 rfl ?_
              refine at_iload_n dX9_sheet_74 rfl ?_
              refine at_cv1 cvX9_241 sd_119 (ev_X9_linesOf hR hq2 hr (nI s)) (by decide) ⟨Nat.le_refl _, Nat.le_refl _⟩ (Nat.le_of_ble_eq_true rfl) dX9_sheet_75 (pd_k1 ?_)
              refine at_goto (tgt := 106) dX9_sheet_78 (by decide) ?_
              try rw [nI_clamp (by omega), hq2 _ (by omega)]
              refine at_iret rfl dX9_sheet_106 ?_
              refine m_yes hj ?_ hF.t0 hF.mq
              first | (rw [shV, if_pos c70]; rfl) | (rw [shV, if_neg c70, if_pos c83]; done) | (rw [shV, if_neg c70, if_neg c83, if_pos]; (obtain ⟨q, hq8, rfl⟩ := inR_of (n := 8) (by decide) k37; have a3 : q < 3 := Nat.not_le.mp (fun z => c66 (nI_le (a := 3) z (by omega))); have a0 : q ≠ 0 := fun z => c70 (by rw [z]; rfl); have a1 : q ≠ 1 := fun z => c83 (by rw [z]; rfl); rw [show q = 2 by omega]; rfl))
        · -- not taken 50
          exact absurd rfl c50
      · -- not taken 37
        have k37 := i_of0.mp c37
        refine at_iconst dX9_sheet_40 pc_i1 ?_
        refine at_goto (tgt := 45) dX9_sheet_41 (by decide) ?_
        refine at_iconst dX9_sheet_45 pc_i2 ?_
        refine at_iconst dX9_sheet_46 pc_i1 ?_
        refine at_cv3 cvX9_204 sd_119 (ev_X9_bad1 hR (pd_up_at) (c := 2) (y := 1) ⟨by decide, by decide⟩ (by decide)) (by decide) ⟨Nat.le_refl _, Nat.le_refl _⟩ (Nat.le_of_ble_eq_true rfl) dX9_sheet_47 (pd_k1 ?_)
        refine at_ifeq (tgt := 55) dX9_sheet_50 (by decide) (fun c50 => ?_) (fun c50 => ?_)
        · -- taken 50
          exact absurd c50 (by decide)
        · -- not taken 50
          refine at_iconst dX9_sheet_53 pc_i0 ?_
          refine at_iret rfl dX9_sheet_54 ?_
          first | exact m_rf 0 (by rw [k11]; rfl) rfl | exact m_rf 1 (by rw [k11, k37]; rfl) rfl
  · -- not taken 11
    have k11 := i_of0.mp c11
    refine at_iconst dX9_sheet_14 pc_i1 ?_
    refine at_goto (tgt := 19) dX9_sheet_15 (by decide) ?_
    refine at_iconst dX9_sheet_19 pc_i1 ?_
    refine at_iconst dX9_sheet_20 pc_i0 ?_
    refine at_cv3 cvX9_204 sd_119 (ev_X9_bad1 hR (pd_up_at) (c := 1) (y := 0) ⟨by decide, by decide⟩ (by decide)) (by decide) ⟨Nat.le_refl _, Nat.le_refl _⟩ (Nat.le_of_ble_eq_true rfl) dX9_sheet_21 (pd_k1 ?_)
    refine at_ifne (tgt := 53) dX9_sheet_24 (by decide) (fun c24 => ?_) (fun c24 => ?_)
    · -- taken 24
      refine at_iconst dX9_sheet_53 pc_i0 ?_
      refine at_iret rfl dX9_sheet_54 ?_
      first | exact m_rf 0 (by rw [k11]; rfl) rfl | exact m_rf 1 (by rw [k11, k37]; rfl) rfl
    · -- not taken 24
      exact absurd c24 (by decide)
theorem ev_X9_line (hR : RS R) (hq : RQ I 122 r) (hr : Row r nv ns nl e) (x y what : Int32) : pd_Ev G mi_X9_line 8 0 0 [.ref (pd_z G + 119), .int x, .int y, .int what] (SD, false, I, L, R) (m_x I L R (j2 8 (isN x ns && isN y (rN r nl x.toNatClampNeg)) 9 (inR what 0 5)) 7 (.int (lnV r nv nl e (rFo r nl x.toNatClampNeg + y.toNatClampNeg) what)) (.int 0) (QK I L)) := by
  have h8 := hr.2.1.2
  have h40 := hr.2.2.1.2
  refine pd_ev 1 (lo := [some (.ref (pd_z G + 119)), some (.int x), some (.int y), some (.int what), none]) (by decide +kernel) (Nat.le_of_ble_eq_true rfl) rfl ?_
  refine at_aload_n dX9_line_0 rfl ?_
  refine at_iconst dX9_line_1 pc_i0 ?_
  refine at_puti flX9_48 rfl sd_119 (fun _ _ _ hq => by cases hq; rfl) dX9_line_2 ?_
  refine at_aload_n dX9_line_5 rfl ?_
  refine at_aload_n dX9_line_6 rfl ?_
  refine at_iload_n dX9_line_7 rfl ?_
  refine at_iload_n dX9_line_8 rfl ?_
  refine at_cv2 cvX9_276 sd_119 (ev_X9_isLine hR hq.up hr x y) (by decide) ⟨Nat.le_refl _, Nat.le_refl _⟩ (Nat.le_of_ble_eq_true rfl) dX9_line_9 (pd_k1 ?_)
  refine at_ifne (tgt := 19) dX9_line_12 (by decide) (fun c12 => ?_) (fun c12 => ?_)
  · -- taken 12
    have k12 := i_of1.mp c12
    refine at_iconst dX9_line_19 pc_i0 ?_
    refine at_iconst dX9_line_20 pc_i1 ?_
    refine at_iconst dX9_line_21 pc_i0 ?_
    refine at_cv3 cvX9_204 sd_119 (ev_X9_bad0 hR (pd_up_at) _ _) (by decide) ⟨Nat.le_refl _, Nat.le_refl _⟩ (Nat.le_of_ble_eq_true rfl) dX9_line_22 (pd_k1 ?_)
    refine at_ifne (tgt := 54) dX9_line_25 (by decide) (fun c25 => ?_) (fun c25 => ?_)
    · -- taken 25
      exact absurd rfl c25
    · -- not taken 25
      refine at_aload_n dX9_line_28 rfl ?_
      refine at_iload_n dX9_line_29 rfl ?_
      refine at_i2l dX9_line_30 ?_
      refine at_lconst dX9_line_31 pc_l0 ?_
      refine at_ldc2 coX9_285 dX9_line_32 ?_
      refine at_cs3 csX9_107 (ev_X9_in _ _ _) (by decide) ⟨Nat.le_refl _, Nat.le_refl _⟩ (Nat.le_of_ble_eq_true rfl) dX9_line_35 (pd_k1 ?_)
      rw [inL_c what 0 5 (by decide) (by decide)]
      refine at_ifne (tgt := 45) dX9_line_38 (by decide) (fun c38 => ?_) (fun c38 => ?_)
      · -- taken 38
        have k38 := i_of1.mp c38
        refine at_iconst dX9_line_45 pc_i0 ?_
        refine at_iconst dX9_line_46 pc_i2 ?_
        refine at_iconst dX9_line_47 pc_i1 ?_
        refine at_cv3 cvX9_204 sd_119 (ev_X9_bad0 hR (pd_up_at) _ _) (by decide) ⟨Nat.le_refl _, Nat.le_refl _⟩ (Nat.le_of_ble_eq_true rfl) dX9_line_48 (pd_k1 ?_)
        refine at_ifeq (tgt := 56) dX9_line_51 (by decide) (fun c51 => ?_) (fun c51 => ?_)
        · -- taken 51
          have hj : j2 8 (isN x ns && isN y (rN r nl x.toNatClampNeg)) 9 (inR what 0 5) = 0 := by rw [k12, k38]; rfl
          simp only [Bool.and_eq_true] at k12
          obtain ⟨s, hs, rfl⟩ := isN_of (n := ns) (by omega) k12.1
          rw [nI_clamp (n := s) (by omega)] at k12 hj ⊢
          have hrn : rN r nl s ≤ nl := fb_ct_le _ _
          obtain ⟨t, ht, rfl⟩ := isN_of (n := rN r nl s) (by omega) k12.2
          rw [nI_clamp (n := t) (by omega)]
          have hfo := rFo_succ hr (s := s) (by omega)
          have hfl := rFo_le (r := r) (nl := nl) (s + 1)
          obtain ⟨l, hl, hll⟩ : ∃ l, l = rFo r nl s + t ∧ l < nl := ⟨_, rfl, by omega⟩
          rw [← hl]
          refine at_aload_n dX9_line_56 rfl ?_
          refine at_aload_n dX9_line_57 rfl ?_
          refine at_getr (122) flX9_20 rfl sd_119 (rs_119_9 hR) dX9_line_58 ?_
          refine at_iconst dX9_line_61 pc_i0 ?_
          refine at_cv2 cvX9_255 sd_119 (ev_X9_judges (e := e) (bes := 0) hR hq.up hr (by decide)) (by decide) ⟨Nat.le_refl _, Nat.le_refl _⟩ (Nat.le_of_ble_eq_true rfl) dX9_line_62 (pd_ke fun I2 L2 hj2 => ?_)
          obtain ⟨rfl, hF, hJ⟩ := hj2
          have hq2 := hF.row hq.up
          refine at_aload_n dX9_line_65 rfl ?_
          refine at_iload_n dX9_line_66 rfl ?_
          refine at_iload_n dX9_line_67 rfl ?_
          refine at_cv2 cvX9_267 sd_119 (ev_X9_spotOf hR hq2 hr (nI s) t) (by decide) ⟨Nat.le_refl _, Nat.le_refl _⟩ (Nat.le_of_ble_eq_true rfl) dX9_line_68 (pd_k1 ?_)
          rw [show t + fb_ct (fun l => decide (rSh r l < nI s)) nl = l by rw [hl, Nat.add_comm]; rfl]
          refine at_istore dX9_line_71 rfl (Nat.le_of_ble_eq_true rfl) ?_
          refine at_iload_n dX9_line_73 rfl ?_
          by_cases s74_0 : what = 0
          · -- case 0
            subst s74_0
            refine at_tabIn (tgt := 104) (off := 30) dX9_line_74 (by decide) (by decide) (by decide) (by decide) ?_
            refine at_aload_n dX9_line_104 rfl ?_
            refine at_getr (122) flX9_20 rfl sd_119 (rs_119_9 hR) dX9_line_105 ?_
            refine at_iload dX9_line_108 rfl ?_
            refine at_iconst dX9_line_110 pc_i1 ?_
            refine at_cs2 csX9_124 (ev_X9_lineAt l 1 (66 + 4 * l) (by omega)) (by decide) ⟨Nat.le_refl _, Nat.le_refl _⟩ (Nat.le_of_ble_eq_true rfl) dX9_line_111 (pd_k1 ?_)
            refine at_iald sd_122 (vp_in_nI (by omega) (by decide)) dX9_line_114 ?_
            rw [nI_clamp (by omega), hq2 _ (by omega)]
            refine at_iret rfl dX9_line_115 ?_
            exact m_yes hj rfl hF.t0 hF.mq
          by_cases s74_1 : what = 1
          · -- case 1
            subst s74_1
            refine at_tabIn (tgt := 116) (off := 42) dX9_line_74 (by decide) (by decide) (by decide) (by decide) ?_
            refine at_aload_n dX9_line_116 rfl ?_
            refine at_getr (122) flX9_20 rfl sd_119 (rs_119_9 hR) dX9_line_117 ?_
            refine at_iload dX9_line_120 rfl ?_
            refine at_iconst dX9_line_122 pc_i3 ?_
            refine at_cs2 csX9_124 (ev_X9_lineAt l 3 (68 + 4 * l) (by omega)) (by decide) ⟨Nat.le_refl _, Nat.le_refl _⟩ (Nat.le_of_ble_eq_true rfl) dX9_line_123 (pd_k1 ?_)
            refine at_iald sd_122 (vp_in_nI (by omega) (by decide)) dX9_line_126 ?_
            rw [nI_clamp (by omega), hq2 _ (by omega)]
            refine at_iret rfl dX9_line_127 ?_
            exact m_yes hj rfl hF.t0 hF.mq
          by_cases s74_2 : what = 2
          · -- case 2
            subst s74_2
            refine at_tabIn (tgt := 128) (off := 54) dX9_line_74 (by decide) (by decide) (by decide) (by decide) ?_
            refine at_aload_n dX9_line_128 rfl ?_
            refine at_getr (134) flX9_34 rfl sd_119 (rs_119_17 hR) dX9_line_129 ?_
            refine at_iload dX9_line_132 rfl ?_
            refine at_iald sd_134 (vp_in_nI (by omega) (by decide)) dX9_line_134 ?_
            rw [nI_clamp (by omega), hJ.2.1 _ hll]
            refine at_iret rfl dX9_line_135 ?_
            exact m_yes hj rfl hF.t0 hF.mq
          by_cases s74_3 : what = 3
          · -- case 3
            subst s74_3
            refine at_tabIn (tgt := 136) (off := 62) dX9_line_74 (by decide) (by decide) (by decide) (by decide) ?_
            refine at_aload_n dX9_line_136 rfl ?_
            refine at_getr (133) flX9_31 rfl sd_119 (rs_119_16 hR) dX9_line_137 ?_
            refine at_iload dX9_line_140 rfl ?_
            refine at_iald sd_133 (vp_in_nI (by omega) (by decide)) dX9_line_142 ?_
            rw [nI_clamp (by omega), hJ.1 _ hll]
            refine at_iret rfl dX9_line_143 ?_
            exact m_yes hj rfl hF.t0 hF.mq
          refine at_tabOut (tgt := 144) dX9_line_74 (by have a0 := ti_ne s74_0; have a1 := ti_ne s74_1; have a2 := ti_ne s74_2; have a3 := ti_ne s74_3; simp only [show (0 : Int32).toInt = 0 by decide, show (1 : Int32).toInt = 1 by decide, show (2 : Int32).toInt = 2 by decide, show (3 : Int32).toInt = 3 by decide] at *; omega) (by decide) ?_
          obtain ⟨q, hq5, rfl⟩ := inR_of (n := 5) (by decide) k38
          have b4 : 4 ≤ q := by
            have a0 : q ≠ 0 := fun z => s74_0 (by rw [z]; rfl)
            have a1 : q ≠ 1 := fun z => s74_1 (by rw [z]; rfl)
            have a2 : q ≠ 2 := fun z => s74_2 (by rw [z]; rfl)
            have a3 : q ≠ 3 := fun z => s74_3 (by rw [z]; rfl)
            omega
          refine at_aload_n dX9_line_144 rfl ?_
          refine at_iload_n dX9_line_145 rfl ?_
          refine at_iconst dX9_line_146 pc_i4 ?_
          refine at_isub dX9_line_147 ?_
          refine at_iload dX9_line_148 rfl ?_
          rw [show (4 : Int32) = nI 4 from rfl, pk_sub b4]
          refine at_cv2 cvX9_244 sd_119 (ev_X9_isIn hR hq2 (w := q - 4) (l := l) (by omega) (by omega)) (by decide) ⟨Nat.le_refl _, Nat.le_refl _⟩ (Nat.le_of_ble_eq_true rfl) dX9_line_150 (pd_k1 ?_)
          refine at_ifeq (tgt := 160) dX9_line_153 (by decide) (fun c153 => ?_) (fun c153 => ?_)
          · -- taken 153
            have k153 := i_of0.mp c153
            refine at_iconst dX9_line_160 pc_i0 ?_
            refine at_iret rfl dX9_line_161 ?_
            refine m_yes hj ?_ hF.t0 hF.mq
            rcases (show q = 4 ∨ q = 5 by omega) with rfl | rfl
            · rw [lnV, if_neg (by decide), if_neg (by decide), if_neg (by decide), if_neg (by decide), if_pos (by decide), show sm r 0 l = _ from k153]; rfl
            · rw [lnV, if_neg (by decide), if_neg (by decide), if_neg (by decide), if_neg (by decide), if_neg (by decide), show sm r 1 l = _ from k153]; rfl
          · -- not taken 153
            have k153 := i_of1.mp c153
            refine at_iconst dX9_line_156 pc_i1 ?_
            refine at_goto (tgt := 161) dX9_line_157 (by decide) ?_
            refine at_iret rfl dX9_line_161 ?_
            refine m_yes hj ?_ hF.t0 hF.mq
            rcases (show q = 4 ∨ q = 5 by omega) with rfl | rfl
            · rw [lnV, if_neg (by decide), if_neg (by decide), if_neg (by decide), if_neg (by decide), if_pos (by decide), show sm r 0 l = _ from k153]; rfl
            · rw [lnV, if_neg (by decide), if_neg (by decide), if_neg (by decide), if_neg (by decide), if_neg (by decide), show sm r 1 l = _ from k153]; rfl
        · -- not taken 51
          exact absurd rfl c51
      · -- not taken 38
        have k38 := i_of0.mp c38
        refine at_iconst dX9_line_41 pc_i1 ?_
        refine at_goto (tgt := 46) dX9_line_42 (by decide) ?_
        refine at_iconst dX9_line_46 pc_i2 ?_
        refine at_iconst dX9_line_47 pc_i1 ?_
        refine at_cv3 cvX9_204 sd_119 (ev_X9_bad1 hR (pd_up_at) (c := 2) (y := 1) ⟨by decide, by decide⟩ (by decide)) (by decide) ⟨Nat.le_refl _, Nat.le_refl _⟩ (Nat.le_of_ble_eq_true rfl) dX9_line_48 (pd_k1 ?_)
        refine at_ifeq (tgt := 56) dX9_line_51 (by decide) (fun c51 => ?_) (fun c51 => ?_)
        · -- taken 51
          exact absurd c51 (by decide)
        · -- not taken 51
          refine at_iconst dX9_line_54 pc_i0 ?_
          refine at_iret rfl dX9_line_55 ?_
          first | exact m_rf 0 (by rw [k12]; rfl) rfl | exact m_rf 1 (by rw [k12, k38]; rfl) rfl
  · -- not taken 12
    have k12 := i_of0.mp c12
    refine at_iconst dX9_line_15 pc_i1 ?_
    refine at_goto (tgt := 20) dX9_line_16 (by decide) ?_
    refine at_iconst dX9_line_20 pc_i1 ?_
    refine at_iconst dX9_line_21 pc_i0 ?_
    refine at_cv3 cvX9_204 sd_119 (ev_X9_bad1 hR (pd_up_at) (c := 1) (y := 0) ⟨by decide, by decide⟩ (by decide)) (by decide) ⟨Nat.le_refl _, Nat.le_refl _⟩ (Nat.le_of_ble_eq_true rfl) dX9_line_22 (pd_k1 ?_)
    refine at_ifne (tgt := 54) dX9_line_25 (by decide) (fun c25 => ?_) (fun c25 => ?_)
    · -- taken 25
      refine at_iconst dX9_line_54 pc_i0 ?_
      refine at_iret rfl dX9_line_55 ?_
      first | exact m_rf 0 (by rw [k12]; rfl) rfl | exact m_rf 1 (by rw [k12, k38]; rfl) rfl
    · -- not taken 25
      exact absurd c25 (by decide)
theorem n27_take {w : List Nat} (h : ∀ x ∈ w, 1 ≤ x ∧ x ≤ 26) {k : Nat} (hk : k < w.length) : n27 0 (w.take (k + 1)) = 27 * n27 0 (w.take k) + w.getD k 0 ∧ 1 ≤ w.getD k 0 ∧ w.getD k 0 ≤ 26 := by
  have e1 : w.take (k + 1) = w.take k ++ [w.getD k 0] := by
    rw [List.take_add_one]
    congr 1
    rw [List.getD_eq_getElem?_getD, List.getElem?_eq_getElem hk]; rfl
  rw [e1, n27_app]
  refine ⟨rfl, h _ ?_⟩
  rw [List.getD_eq_getElem?_getD, List.getElem?_eq_getElem hk]
  exact List.getElem_mem hk
theorem n27_tlt {w : List Nat} (h : WOK w) (k : Nat) : n27 0 (w.take k) < 2 ^ 30 := by
  have h1 := n27_lt (w.take k) 0 0 (by decide) (fun x hx => h.2.2 x (List.mem_of_mem_take hx))
  have h2 : (w.take k).length ≤ 5 := by have := h.2.1; rw [List.length_take]; omega
  have h3 : (27 : Nat) ^ (0 + (w.take k).length) ≤ 27 ^ 5 := Nat.pow_le_pow_right (by decide) (by omega)
  have : (27 : Nat) ^ 5 < 2 ^ 30 := by decide
  omega
theorem lp_X9_len {w : List Nat} (hw : WOK w) {M : pd_M} {x i a3 : Int32} {Q : pd_O → pd_M → Prop} (K : pd_At G mi_X9_letter 8 0 0 0 0 52 [some (.ref (pd_z G + 119)), some (.int x), some (.int i), some (.int a3), some (.int (nI w.length)), some (.int 0)] [] M Q) : ∀ (k : Nat), k ≤ w.length → pd_At G mi_X9_letter 8 0 0 0 0 34 [some (.ref (pd_z G + 119)), some (.int x), some (.int i), some (.int a3), some (.int (nI (w.length - k))), some (.int (nI (n27 0 (w.take k))))] [] M Q := by
  intro k
  induction k with
  | zero =>
    intro hk
    refine at_iload dX9_letter_34 rfl ?_
    refine at_ifle (tgt := 52) dX9_letter_36 (by decide) (fun c36 => ?_) (fun c36 => ?_)
    · -- taken 36
      exact K
    · -- not taken 36
      exact absurd (show nI 0 ≤ 0 by decide) c36
  | succ k ih =>
    intro hk
    obtain ⟨h1, h2, h3⟩ := n27_take hw.2.2 (k := k) (by omega)
    have h4 := n27_tlt hw (k + 1)
    refine at_iload dX9_letter_34 rfl ?_
    refine at_ifle (tgt := 52) dX9_letter_36 (by decide) (fun c36 => ?_) (fun c36 => ?_)
    · -- taken 36
      exact absurd c36 (nI_nle (by omega) (by omega))
    · -- not taken 36
      refine at_inc dX9_letter_39 rfl pc_i1 rfl (Nat.le_of_ble_eq_true rfl) ?_
      refine at_iload dX9_letter_42 rfl ?_
      refine at_bipush dX9_letter_44 pc_b27 ?_
      refine at_idiv dX9_letter_46 (by decide) ?_
      rw [show (27 : Int32) = nI 27 from rfl, pk_div (by omega) (by decide) (by decide), h1, show (27 * n27 0 (w.take k) + w.getD k 0) / 27 = n27 0 (w.take k) by omega]
      refine at_istore dX9_letter_47 rfl (Nat.le_of_ble_eq_true rfl) ?_
      refine at_goto (tgt := 34) dX9_letter_49 (by decide) ?_
      rw [nI_1, show w.length - (k + 1) + 1 = w.length - k by omega]
      exact ih (by omega)
theorem lp_X9_let {w : List Nat} (hw : WOK w) {M : pd_M} {x : Int32} {i : Nat} (hi : i < w.length) : ∀ (d k : Nat), k = i + d → k < w.length → pd_At G mi_X9_letter 8 0 0 0 0 96 [some (.ref (pd_z G + 119)), some (.int x), some (.int (nI i)), some (.int (nI (n27 0 (w.take (k + 1))))), some (.int (nI w.length)), some (.int (nI k))] [] M (pd_rt (.int (nI (96 + w.getD i 0))) M) := by
  have h5 := hw.2.1
  intro d
  induction d with
  | zero =>
    intro k hk hkl
    rw [Nat.add_zero] at hk
    subst hk
    obtain ⟨h1, h2, h3⟩ := n27_take hw.2.2 hi
    have h4 := n27_tlt hw (k + 1)
    refine at_iload dX9_letter_96 rfl ?_
    refine at_iload_n dX9_letter_98 rfl ?_
    refine at_icmple (tgt := 113) dX9_letter_99 (by decide) (fun c99 => ?_) (fun c99 => ?_)
    · -- taken 99
      refine at_bipush dX9_letter_113 pc_b96 ?_
      refine at_iload_n dX9_letter_115 rfl ?_
      refine at_bipush dX9_letter_116 pc_b27 ?_
      refine at_irem dX9_letter_118 (by decide) ?_
      rw [show (27 : Int32) = nI 27 from rfl, pk_rem (by omega) (by decide) (by decide), h1, show (27 * n27 0 (w.take k) + w.getD k 0) % 27 = w.getD k 0 by omega]
      refine at_iadd dX9_letter_119 ?_
      rw [show (96 : Int32) = nI 96 from rfl, nI_add]
      refine at_iret rfl dX9_letter_120 ?_
      exact ⟨rfl, rfl⟩
    · -- not taken 99
      exact absurd (nI_le (Nat.le_refl _) (by omega)) c99
  | succ d ih =>
    intro k hk hkl
    obtain ⟨j, rfl⟩ : ∃ j, k = j + 1 := ⟨k - 1, by omega⟩
    obtain ⟨h1, h2, h3⟩ := n27_take hw.2.2 hkl
    have h4 := n27_tlt hw (j + 1 + 1)
    refine at_iload dX9_letter_96 rfl ?_
    refine at_iload_n dX9_letter_98 rfl ?_
    refine at_icmple (tgt := 113) dX9_letter_99 (by decide) (fun c99 => ?_) (fun c99 => ?_)
    · -- taken 99
      exact absurd c99 (nI_ge (by omega) (by omega))
    · -- not taken 99
      refine at_iload_n dX9_letter_102 rfl ?_
      refine at_bipush dX9_letter_103 pc_b27 ?_
      refine at_idiv dX9_letter_105 (by decide) ?_
      rw [show (27 : Int32) = nI 27 from rfl, pk_div (by omega) (by decide) (by decide), h1, show (27 * n27 0 (w.take (j + 1)) + w.getD (j + 1) 0) / 27 = n27 0 (w.take (j + 1)) by omega]
      refine at_istore_n dX9_letter_106 rfl (Nat.le_of_ble_eq_true rfl) ?_
      refine at_inc dX9_letter_107 rfl pc_im1 rfl (Nat.le_of_ble_eq_true rfl) ?_
      refine at_goto (tgt := 96) dX9_letter_110 (by decide) ?_
      rw [pk_m1]
      exact ih j (by omega) (by omega)
theorem ev_X9_letter (hR : RS R) (hq : RQ I 122 r) (hr : Row r nv ns nl e) (hN : ∀ v, v < nv → ∃ w, WOK w ∧ r (9 + 3 * v) = nI (n27 0 w)) (x i : Int32) : pd_Ev G mi_X9_letter 8 0 0 [.ref (pd_z G + 119), .int x, .int i] (SD, false, I, L, R) (m_x I L R (j1 8 (isN x nv && isN i (nmW (r (9 + 3 * x.toNatClampNeg))).length)) 7 (.int (nI (96 + (nmW (r (9 + 3 * x.toNatClampNeg))).getD i.toNatClampNeg 0))) (.int 0) (QK I L)) := by
  have hv16 := hr.1.2
  by_cases hx : isN x nv = true
  · obtain ⟨v, hv, rfl⟩ := isN_of (n := nv) (by omega) hx
    obtain ⟨w, hw, hwr⟩ := hN v hv
    have h5 := hw.2.1
    have hwl : 1 ≤ w.length := by have := hw.1; cases w with
      | nil => exact absurd rfl this
      | cons a b => simp
    rw [nI_clamp (n := v) (by omega), hwr, nmW_eq hw, hx, Bool.true_and]
    have hrow : pd_up I 119 0 0 122 (9 + 3 * v) = nI (n27 0 (w.take w.length)) := by rw [pd_up_nb (by decide), hq _ (by omega), hwr, List.take_length]
    have key : pd_At G mi_X9_letter 8 0 0 0 0 52 [some (.ref (pd_z G + 119)), some (.int (nI v)), some (.int i), some (.int (nI (n27 0 (w.take w.length)))), some (.int (nI w.length)), some (.int 0)] [] (SD, false, pd_up I 119 0 0, L, R) (m_x I L R (j1 8 (isN i w.length)) 7 (.int (nI (96 + w.getD i.toNatClampNeg 0))) (.int 0) (QK I L)) := by
      refine at_aload_n dX9_letter_52 rfl ?_
      refine at_aload_n dX9_letter_53 rfl ?_
      refine at_iload_n dX9_letter_54 rfl ?_
      refine at_cv1 cvX9_262 sd_119 (ev_X9_isVoter hR hq.up hr (nI v)) (by decide) ⟨Nat.le_refl _, Nat.le_refl _⟩ (Nat.le_of_ble_eq_true rfl) dX9_letter_55 (pd_k1 ?_)
      rw [hx]
      refine at_ifeq (tgt := 75) dX9_letter_58 (by decide) (fun c58 => ?_) (fun c58 => ?_)
      · -- taken 58
        exact absurd c58 (by decide)
      · -- not taken 58
        refine at_iload_n dX9_letter_61 rfl ?_
        refine at_i2l dX9_letter_62 ?_
        refine at_lconst dX9_letter_63 pc_l0 ?_
        refine at_iload dX9_letter_64 rfl ?_
        refine at_iconst dX9_letter_66 pc_i1 ?_
        refine at_isub dX9_letter_67 ?_
        refine at_i2l dX9_letter_68 ?_
        refine at_cs3 csX9_107 (ev_X9_in _ _ _) (by decide) ⟨Nat.le_refl _, Nat.le_refl _⟩ (Nat.le_of_ble_eq_true rfl) dX9_letter_69 (pd_k1 ?_)
        rw [inL_n i (by omega)]
        refine at_ifne (tgt := 79) dX9_letter_72 (by decide) (fun c72 => ?_) (fun c72 => ?_)
        · -- taken 72
          have k72 := i_of1.mp c72
          refine at_iconst dX9_letter_79 pc_i0 ?_
          refine at_iconst dX9_letter_80 pc_i1 ?_
          refine at_iconst dX9_letter_81 pc_i0 ?_
          refine at_cv3 cvX9_204 sd_119 (ev_X9_bad0 hR (pd_up_at) _ _) (by decide) ⟨Nat.le_refl _, Nat.le_refl _⟩ (Nat.le_of_ble_eq_true rfl) dX9_letter_82 (pd_k1 ?_)
          refine at_ifeq (tgt := 90) dX9_letter_85 (by decide) (fun c85 => ?_) (fun c85 => ?_)
          · -- taken 85
            obtain ⟨k, hk, rfl⟩ := isN_of (n := w.length) (by omega) k72
            rw [nI_clamp (n := k) (by omega)]
            obtain ⟨m, hm⟩ : ∃ m, w.length = m + 1 := ⟨w.length - 1, by omega⟩
            refine at_iload dX9_letter_90 rfl ?_
            refine at_iconst dX9_letter_92 pc_i1 ?_
            refine at_isub dX9_letter_93 ?_
            rw [show nI w.length - 1 = nI m by rw [hm, nI_pred]]
            refine at_istore dX9_letter_94 rfl (Nat.le_of_ble_eq_true rfl) ?_
            refine pd_At_mono (by have h := lp_X9_let (G := G) (M := (SD, false, pd_up I 119 0 0, L, R)) (x := nI v) hw hk (m - k) m (by omega) (by omega); rw [← hm] at h; exact h) ?_
            rintro o M' ⟨rfl, rfl⟩
            exact m_yes (by rw [k72]; rfl) rfl pd_up_at up_mq
          · -- not taken 85
            exact absurd rfl c85
        · -- not taken 72
          have k72 := i_of0.mp c72
          refine at_iconst dX9_letter_75 pc_i1 ?_
          refine at_goto (tgt := 80) dX9_letter_76 (by decide) ?_
          refine at_iconst dX9_letter_80 pc_i1 ?_
          refine at_iconst dX9_letter_81 pc_i0 ?_
          refine at_cv3 cvX9_204 sd_119 (ev_X9_bad1 hR (pd_up_at) (c := 1) (y := 0) ⟨by decide, by decide⟩ (by decide)) (by decide) ⟨Nat.le_refl _, Nat.le_refl _⟩ (Nat.le_of_ble_eq_true rfl) dX9_letter_82 (pd_k1 ?_)
          refine at_ifeq (tgt := 90) dX9_letter_85 (by decide) (fun c85 => ?_) (fun c85 => ?_)
          · -- taken 85
            exact absurd c85 (by decide)
          · -- not taken 85
            refine at_iconst dX9_letter_88 pc_i0 ?_
            refine at_iret rfl dX9_letter_89 ?_
            exact m_rf 0 (by rw [k72]; rfl) rfl
    refine pd_ev 3 (lo := [some (.ref (pd_z G + 119)), some (.int (nI v)), some (.int i), none, none, none]) (by decide +kernel) (Nat.le_of_ble_eq_true rfl) rfl ?_
    refine at_aload_n dX9_letter_0 rfl ?_
    refine at_iconst dX9_letter_1 pc_i0 ?_
    refine at_puti flX9_48 rfl sd_119 (fun _ _ _ hq => by cases hq; rfl) dX9_letter_2 ?_
    refine at_aload_n dX9_letter_5 rfl ?_
    refine at_iload_n dX9_letter_6 rfl ?_
    refine at_cv1 cvX9_262 sd_119 (ev_X9_isVoter hR hq.up hr (nI v)) (by decide) ⟨Nat.le_refl _, Nat.le_refl _⟩ (Nat.le_of_ble_eq_true rfl) dX9_letter_7 (pd_k1 ?_)
    rw [hx]
    refine at_ifeq (tgt := 26) dX9_letter_10 (by decide) (fun c10 => ?_) (fun c10 => ?_)
    · -- taken 10
      exact absurd c10 (by decide)
    · -- not taken 10
      refine at_aload_n dX9_letter_13 rfl ?_
      refine at_getr (122) flX9_20 rfl sd_119 (rs_119_9 hR) dX9_letter_14 ?_
      refine at_iload_n dX9_letter_17 rfl ?_
      refine at_iconst dX9_letter_18 pc_i0 ?_
      refine at_cs2 csX9_111 (ev_X9_voterAt v 0 (9 + 3 * v) (by omega)) (by decide) ⟨Nat.le_refl _, Nat.le_refl _⟩ (Nat.le_of_ble_eq_true rfl) dX9_letter_19 (pd_k1 ?_)
      refine at_iald sd_122 (vp_in_nI (by omega) (by decide)) dX9_letter_22 ?_
      rw [nI_clamp (by omega), hrow]
      refine at_goto (tgt := 27) dX9_letter_23 (by decide) ?_
      refine at_istore_n dX9_letter_27 rfl (Nat.le_of_ble_eq_true rfl) ?_
      refine at_iconst dX9_letter_28 pc_i0 ?_
      refine at_istore dX9_letter_29 rfl (Nat.le_of_ble_eq_true rfl) ?_
      refine at_iload_n dX9_letter_31 rfl ?_
      refine at_istore dX9_letter_32 rfl (Nat.le_of_ble_eq_true rfl) ?_
      have h := lp_X9_len (G := G) hw key w.length (Nat.le_refl _)
      rw [Nat.sub_self] at h
      exact h
  · have hx0 : isN x nv = false := by simpa using hx
    rw [hx0, Bool.false_and]
    refine pd_ev 3 (lo := [some (.ref (pd_z G + 119)), some (.int x), some (.int i), none, none, none]) (by decide +kernel) (Nat.le_of_ble_eq_true rfl) rfl ?_
    refine at_aload_n dX9_letter_0 rfl ?_
    refine at_iconst dX9_letter_1 pc_i0 ?_
    refine at_puti flX9_48 rfl sd_119 (fun _ _ _ hq => by cases hq; rfl) dX9_letter_2 ?_
    refine at_aload_n dX9_letter_5 rfl ?_
    refine at_iload_n dX9_letter_6 rfl ?_
    refine at_cv1 cvX9_262 sd_119 (ev_X9_isVoter hR hq.up hr x) (by decide) ⟨Nat.le_refl _, Nat.le_refl _⟩ (Nat.le_of_ble_eq_true rfl) dX9_letter_7 (pd_k1 ?_)
    rw [hx0]
    refine at_ifeq (tgt := 26) dX9_letter_10 (by decide) (fun c10 => ?_) (fun c10 => ?_)
    · -- taken 10
      refine at_iconst dX9_letter_26 pc_i0 ?_
      refine at_istore_n dX9_letter_27 rfl (Nat.le_of_ble_eq_true rfl) ?_
      refine at_iconst dX9_letter_28 pc_i0 ?_
      refine at_istore dX9_letter_29 rfl (Nat.le_of_ble_eq_true rfl) ?_
      refine at_iload_n dX9_letter_31 rfl ?_
      refine at_istore dX9_letter_32 rfl (Nat.le_of_ble_eq_true rfl) ?_
      refine at_iload dX9_letter_34 rfl ?_
      refine at_ifle (tgt := 52) dX9_letter_36 (by decide) (fun c36 => ?_) (fun c36 => ?_)
      · -- taken 36
        refine at_aload_n dX9_letter_52 rfl ?_
        refine at_aload_n dX9_letter_53 rfl ?_
        refine at_iload_n dX9_letter_54 rfl ?_
        refine at_cv1 cvX9_262 sd_119 (ev_X9_isVoter hR hq.up hr x) (by decide) ⟨Nat.le_refl _, Nat.le_refl _⟩ (Nat.le_of_ble_eq_true rfl) dX9_letter_55 (pd_k1 ?_)
        rw [hx0]
        refine at_ifeq (tgt := 75) dX9_letter_58 (by decide) (fun c58 => ?_) (fun c58 => ?_)
        · -- taken 58
          refine at_iconst dX9_letter_75 pc_i1 ?_
          refine at_goto (tgt := 80) dX9_letter_76 (by decide) ?_
          refine at_iconst dX9_letter_80 pc_i1 ?_
          refine at_iconst dX9_letter_81 pc_i0 ?_
          refine at_cv3 cvX9_204 sd_119 (ev_X9_bad1 hR (pd_up_at) (c := 1) (y := 0) ⟨by decide, by decide⟩ (by decide)) (by decide) ⟨Nat.le_refl _, Nat.le_refl _⟩ (Nat.le_of_ble_eq_true rfl) dX9_letter_82 (pd_k1 ?_)
          refine at_ifeq (tgt := 90) dX9_letter_85 (by decide) (fun c85 => ?_) (fun c85 => ?_)
          · -- taken 85
            exact absurd c85 (by decide)
          · -- not taken 85
            refine at_iconst dX9_letter_88 pc_i0 ?_
            refine at_iret rfl dX9_letter_89 ?_
            exact m_rf 0 rfl rfl
        · -- not taken 58
          exact absurd rfl c58
      · -- not taken 36
        exact absurd (by decide) c36
    · -- not taken 10
      exact absurd rfl c10
end REF6
