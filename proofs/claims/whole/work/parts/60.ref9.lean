/-! ===== the reference: the worst, acts ===== -/
theorem MP.up0 {I : Nat → Nat → Int32} {a : Nat} {ps : Nat → RW} (h : MP I a ps) : MP (pd_up I 119 0 0) a ps := ⟨by rw [pd_up_nj (by decide)]; exact h.1, h.2.1, fun i hi k hk => by rw [pd_up_nb (by omega)]; exact h.2.2 i hi k hk⟩
/-- what an act may change -/
def QA (I : Nat → Nat → Int32) (L : Nat → Nat → Int64) (r : Nat → Int32) (a : Nat) (ps : Nat → RW) (I' : Nat → Nat → Int32) (L' : Nat → Nat → Int64) : Prop := L' = L ∧ RQ I' 122 r ∧ MP I' a ps ∧ ∀ x j, x ≠ 122 → (x < 125 ∨ 135 < x) → ¬ (x = 119 ∧ (j = 0 ∨ j = 12 ∨ j = 19)) → I' x j = I x j
/-- the row at 122 is written, no more -/
def O2 (I I' : Nat → Nat → Int32) : Prop := ∀ x j, x ≠ 122 → I' x j = I x j
theorem MP.fr {I I' : Nat → Nat → Int32} {a : Nat} {ps : Nat → RW} (h : MP I a ps) (h1 : I' 119 12 = I 119 12) (h2 : ∀ x j, 125 ≤ x → x ≤ 132 → I' x j = I x j) : MP I' a ps := ⟨h1.trans h.1, h.2.1, fun i hi k hk => by rw [h2 _ _ (by omega) (by have := h.2.1; omega)]; exact h.2.2 i hi k hk⟩
/-- what keeping leaves in the reference -/
def RM9 (I I' : Nat → Nat → Int32) : Prop := ∀ x j, (x < 125 ∨ 132 < x) → ¬ (x = 119 ∧ j = 12) → I' x j = pd_up I 119 0 0 x j
theorem QA.mk' {I I2 I' : Nat → Nat → Int32} {L : Nat → Nat → Int64} {r' : Nat → Int32} {a : Nat} {ps : Nat → RW} (hM : RM9 I I2) (hP : MP I2 a ps) (h1 : ∀ x j, x ≠ 122 → x ≠ 133 → x ≠ 134 → x ≠ 135 → ¬ (x = 119 ∧ j = 19) → I' x j = I2 x j) (hq : RQ I' 122 r') : QA I L r' a ps I' L := ⟨rfl, hq, hP.fr (h1 _ _ (by decide) (by decide) (by decide) (by decide) (by decide)) (fun x j h2 h3 => h1 _ _ (by omega) (by omega) (by omega) (by omega) (by omega)), fun x j h2 h3 h4 => by
  rw [h1 x j h2 (by omega) (by omega) (by omega) (by omega), hM x j (by omega) (by omega)]
  unfold pd_up; rw [if_neg (by omega)]⟩
section REF9
variable {G : pd_G} {I : Nat → Nat → Int32} {L : Nat → Nat → Int64} {R : Nat → Nat → Option Nat} {nv ns nl a : Nat} {e : List rl_S} {r : Nat → Int32} {ps : Nat → RW}
def xwL (f : Nat → Nat) (q : Option Nat) : Int32 := match q with
  | none => 0
  | some b => nI (f b)
theorem lp_X9_worst (hR : RS R) (hq : RQ I 122 r) (hr : Row r nv ns nl e) {x what : Int32} (hj1 : inR x 1 8 = true ∧ inR what 0 1 = true) : ∀ (k i : Nat) (I' : Nat → Nat → Int32), i + k = 2 ^ ns → JF (pd_up I 119 0 0) I' → pd_At G mi_X9_worst 8 0 0 0 0 66 [some (.ref (pd_z G + 119)), some (.int x), some (.int what), some (.int (nI (bsum (rK r nv nl e 0) ns))), some (.int (xwS (xwB (xwOk r nv ns nl e x) (xwC r nv nl e) i))), some (.int (xwL (xwC r nv nl e) (xwB (xwOk r nv ns nl e x) (xwC r nv nl e) i))), some (.int (nI i)), none] [] (SD, false, I', L, R) (m_x I L R (j1 9 (inR x 1 8 && inR what 0 1)) 8 (.int (xwV r nv ns nl e x what)) (.int 0) (QK I L)) := by
  have h8 := hr.2.1.2
  have h40 := hr.2.2.1.2
  have h256 : 2 ^ ns ≤ 2 ^ 8 := Nat.pow_le_pow_right (by decide) h8
  intro k
  induction k with
  | zero =>
    intro i I' hi hF
    have e0 : i = 2 ^ ns := by omega
    have hs : I' 122 (1 : Int32).toNatClampNeg = nI ns := (hF.row hq.up 1 (by decide)).trans hr.2.1.1
    have hlt := fun b hb => xwB_lt (xwOk r nv ns nl e x) (xwC r nv nl e) i b hb
    have hV : xwV r nv ns nl e x what = if what = 0 then xwS (xwB (xwOk r nv ns nl e x) (xwC r nv nl e) i) else xwT (xwC r nv nl e) (xwB (xwOk r nv ns nl e x) (xwC r nv nl e) i) := by rw [e0]; rfl
    generalize xwB (xwOk r nv ns nl e x) (xwC r nv nl e) i = o at hV hlt ⊢
    cases o with
    | none =>
      refine at_iload dX9_worst_66 rfl ?_
      refine at_iconst dX9_worst_68 pc_i1 ?_
      refine at_aload_n dX9_worst_69 rfl ?_
      refine at_getr (122) flX9_20 rfl sd_119 (rs_119_9 hR) dX9_worst_70 ?_
      refine at_iconst dX9_worst_73 pc_i1 ?_
      refine at_iald sd_122 (vp_in_nI (n := 1) (by decide) (by decide)) dX9_worst_74 ?_
      rw [hs]
      refine at_ishl dX9_worst_75 ?_
      rw [i_sh1 ns (by omega)]
      refine at_icmpge (tgt := 145) dX9_worst_76 (by decide) (fun c76 => ?_) (fun c76 => ?_)
      · -- taken 76
        refine at_iload dX9_worst_145 rfl ?_
        refine at_iconst dX9_worst_147 pc_im1 ?_
        refine at_icmpne (tgt := 155) dX9_worst_148 (by decide) (fun c148 => ?_) (fun c148 => ?_)
        · -- taken 148
          exact absurd rfl c148
        · -- not taken 148
          refine at_iconst dX9_worst_151 pc_im1 ?_
          refine at_goto (tgt := 166) dX9_worst_152 (by decide) ?_
          refine at_iret rfl dX9_worst_166 ?_
          refine m_yes (by rw [hj1.1, hj1.2]; rfl) ?_ hF.t0 hF.mq
          rw [hV]; by_cases h : what = 0 <;> simp [h, xwS, xwT]
      · -- not taken 76
        exact absurd (nI_le (by omega) (by omega)) c76
    | some b =>
      have hb := hlt b rfl
      refine at_iload dX9_worst_66 rfl ?_
      refine at_iconst dX9_worst_68 pc_i1 ?_
      refine at_aload_n dX9_worst_69 rfl ?_
      refine at_getr (122) flX9_20 rfl sd_119 (rs_119_9 hR) dX9_worst_70 ?_
      refine at_iconst dX9_worst_73 pc_i1 ?_
      refine at_iald sd_122 (vp_in_nI (n := 1) (by decide) (by decide)) dX9_worst_74 ?_
      rw [hs]
      refine at_ishl dX9_worst_75 ?_
      rw [i_sh1 ns (by omega)]
      refine at_icmpge (tgt := 145) dX9_worst_76 (by decide) (fun c76 => ?_) (fun c76 => ?_)
      · -- taken 76
        refine at_iload dX9_worst_145 rfl ?_
        refine at_iconst dX9_worst_147 pc_im1 ?_
        refine at_icmpne (tgt := 155) dX9_worst_148 (by decide) (fun c148 => ?_) (fun c148 => ?_)
        · -- taken 148
          refine at_iload_n dX9_worst_155 rfl ?_
          refine at_ifne (tgt := 164) dX9_worst_156 (by decide) (fun c156 => ?_) (fun c156 => ?_)
          · -- taken 156
            refine at_iload dX9_worst_164 rfl ?_
            refine at_iret rfl dX9_worst_166 ?_
            refine m_yes (by rw [hj1.1, hj1.2]; rfl) ?_ hF.t0 hF.mq
            rw [hV]
            first | (rw [if_pos c156]; done) | (rw [if_neg c156]; rfl)
          · -- not taken 156
            refine at_iload dX9_worst_159 rfl ?_
            refine at_goto (tgt := 166) dX9_worst_161 (by decide) ?_
            refine at_iret rfl dX9_worst_166 ?_
            refine m_yes (by rw [hj1.1, hj1.2]; rfl) ?_ hF.t0 hF.mq
            rw [hV]
            first | (rw [if_pos c156]; done) | (rw [if_neg c156]; rfl)
        · -- not taken 148
          exact absurd c148 (nI_nm1 (by omega))
      · -- not taken 76
        exact absurd (nI_le (by omega) (by omega)) c76
  | succ k ih =>
    intro i I' hi hF
    have hq2 := hF.row hq.up
    have hs : I' 122 (1 : Int32).toNatClampNeg = nI ns := (hq2 1 (by decide)).trans hr.2.1.1
    have hi8 : i < 2 ^ 16 := by omega
    have hab : i &&& bsum (rK r nv nl e 0) ns < 2 ^ 16 := Nat.lt_of_le_of_lt Nat.and_le_left hi8
    have e9 : ∀ {o' : Option Nat} (I2 : Nat → Nat → Int32) (L2 : Nat → Nat → Int64), L2 = L → JF (pd_up I 119 0 0) I2 → xwB (xwOk r nv ns nl e x) (xwC r nv nl e) (i + 1) = o' → pd_At G mi_X9_worst 8 0 0 0 0 66 [some (.ref (pd_z G + 119)), some (.int x), some (.int what), some (.int (nI (bsum (rK r nv nl e 0) ns))), some (.int (xwS o')), some (.int (xwL (xwC r nv nl e) o')), some (.int (nI (i + 1))), none] [] (SD, false, I2, L2, R) (m_x I L R (j1 9 (inR x 1 8 && inR what 0 1)) 8 (.int (xwV r nv ns nl e x what)) (.int 0) (QK I L)) := fun I2 L2 hL h2 q => by rw [← q, hL]; exact ih (i + 1) I2 (by omega) h2
    have eU : xwB (xwOk r nv ns nl e x) (xwC r nv nl e) (i + 1) = match xwB (xwOk r nv ns nl e x) (xwC r nv nl e) i with
      | none => if xwOk r nv ns nl e x i then some i else none
      | some b => if xwOk r nv ns nl e x i && decide (xwC r nv nl e i < xwC r nv nl e b) then some i else some b := rfl
    have hlt := fun b hb => xwB_lt (xwOk r nv ns nl e x) (xwC r nv nl e) i b hb
    have skip : xwOk r nv ns nl e x i = false → xwB (xwOk r nv ns nl e x) (xwC r nv nl e) (i + 1) = xwB (xwOk r nv ns nl e x) (xwC r nv nl e) i := fun q => by
      rw [eU, q]; cases xwB (xwOk r nv ns nl e x) (xwC r nv nl e) i <;> simp
    generalize xwB (xwOk r nv ns nl e x) (xwC r nv nl e) i = o at eU hlt skip ⊢
    have hand : nI i &&& nI (bsum (rK r nv nl e 0) ns) = 0 ↔ i &&& bsum (rK r nv nl e 0) ns = 0 := by
      rw [fa_and]; exact nI_eq (b := 0) (Nat.lt_trans hab (by decide)) (by decide)
    have hcl : ∀ m, xwC r nv nl e m < 2 ^ 31 := fun m => Nat.lt_of_le_of_lt xwC_le (show nl < 2 ^ 31 by omega)
    cases o with
    | none =>
      refine at_iload dX9_worst_66 rfl ?_
      refine at_iconst dX9_worst_68 pc_i1 ?_
      refine at_aload_n dX9_worst_69 rfl ?_
      refine at_getr (122) flX9_20 rfl sd_119 (rs_119_9 hR) dX9_worst_70 ?_
      refine at_iconst dX9_worst_73 pc_i1 ?_
      refine at_iald sd_122 (vp_in_nI (n := 1) (by decide) (by decide)) dX9_worst_74 ?_
      rw [hs]
      refine at_ishl dX9_worst_75 ?_
      rw [i_sh1 ns (by omega)]
      refine at_icmpge (tgt := 145) dX9_worst_76 (by decide) (fun c76 => ?_) (fun c76 => ?_)
      · -- taken 76
        exact absurd c76 (nI_ge (by omega) (by omega))
      · -- not taken 76
        refine at_iload dX9_worst_79 rfl ?_
        refine at_iload_n dX9_worst_81 rfl ?_
        refine at_iand dX9_worst_82 ?_
        refine at_ifne (tgt := 139) dX9_worst_83 (by decide) (fun c83 => ?_) (fun c83 => ?_)
        · -- taken 83
          rw [hand] at c83
          have hnF : xwOk r nv ns nl e x i = false := by simp [xwOk, c83]
          refine at_inc dX9_worst_139 rfl pc_i1 rfl (Nat.le_of_ble_eq_true rfl) ?_
          refine at_goto (tgt := 66) dX9_worst_142 (by decide) ?_
          rw [nI_1]
          first | (have qF := hnF; exact e9 _ _ rfl hF (skip qF)) | exact at_drop 7 (e9 (o' := some i) _ _ hL2 hF3 (by rw [eU]; exact if_pos hn))
        · -- not taken 83
          rw [hand] at c83
          refine at_iload dX9_worst_86 rfl ?_
          refine at_cs1 csX9_323 (ev_X9_ones hi8) (by decide) ⟨Nat.le_refl _, Nat.le_refl _⟩ (Nat.le_of_ble_eq_true rfl) dX9_worst_88 (pd_k1 ?_)
          refine at_iload_n dX9_worst_91 rfl ?_
          refine at_icmpeq (tgt := 98) dX9_worst_92 (by decide) (fun c92 => ?_) (fun c92 => ?_)
          · -- taken 92
            have hn : xwOk r nv ns nl e x i = true := by simp [xwOk, c92, c83]
            refine at_aload_n dX9_worst_98 rfl ?_
            refine at_aload_n dX9_worst_99 rfl ?_
            refine at_getr (122) flX9_20 rfl sd_119 (rs_119_9 hR) dX9_worst_100 ?_
            refine at_iload dX9_worst_103 rfl ?_
            refine at_cv2 cvX9_255 sd_119 (ev_X9_judges (e := e) (bes := i) hR hq2 hr (by omega)) (by decide) ⟨Nat.le_refl _, Nat.le_refl _⟩ (Nat.le_of_ble_eq_true rfl) dX9_worst_105 (pd_ke fun I2 L2 hj2 => ?_)
            obtain ⟨hL2, hF2, hJ⟩ := hj2
            have hF3 : JF (pd_up I 119 0 0) I2 := fun x j q1 q2 q3 q4 => (hF2 x j q1 q2 q3 q4).trans (hF x j q1 q2 q3 q4)
            refine at_aload_n dX9_worst_108 rfl ?_
            refine at_iconst dX9_worst_109 pc_i0 ?_
            refine at_cv1 cvX9_287 sd_119 (ev_X9_count hR (hF3.row hq.up) hr hJ.1 0) (by decide) ⟨Nat.le_refl _, Nat.le_refl _⟩ (Nat.le_of_ble_eq_true rfl) dX9_worst_110 (pd_k1 ?_)
            refine at_istore dX9_worst_113 rfl (Nat.le_of_ble_eq_true rfl) ?_
            refine at_iload dX9_worst_115 rfl ?_
            refine at_iconst dX9_worst_117 pc_im1 ?_
            refine at_icmpeq (tgt := 131) dX9_worst_118 (by decide) (fun c118 => ?_) (fun c118 => ?_)
            · -- taken 118
              refine at_iload dX9_worst_131 rfl ?_
              refine at_istore dX9_worst_133 rfl (Nat.le_of_ble_eq_true rfl) ?_
              refine at_iload dX9_worst_135 rfl ?_
              refine at_istore dX9_worst_137 rfl (Nat.le_of_ble_eq_true rfl) ?_
              refine at_inc dX9_worst_139 rfl pc_i1 rfl (Nat.le_of_ble_eq_true rfl) ?_
              refine at_goto (tgt := 66) dX9_worst_142 (by decide) ?_
              rw [nI_1]
              first | (have qF := hnF; exact e9 _ _ rfl hF (skip qF)) | exact at_drop 7 (e9 (o' := some i) _ _ hL2 hF3 (by rw [eU]; exact if_pos hn))
            · -- not taken 118
              exact absurd rfl c118
          · -- not taken 92
            have hnF : xwOk r nv ns nl e x i = false := by simp [xwOk, c92]
            refine at_goto (tgt := 139) dX9_worst_95 (by decide) ?_
            refine at_inc dX9_worst_139 rfl pc_i1 rfl (Nat.le_of_ble_eq_true rfl) ?_
            refine at_goto (tgt := 66) dX9_worst_142 (by decide) ?_
            rw [nI_1]
            first | (have qF := hnF; exact e9 _ _ rfl hF (skip qF)) | exact at_drop 7 (e9 (o' := some i) _ _ hL2 hF3 (by rw [eU]; exact if_pos hn))
    | some b =>
      have hb := hlt b rfl
      refine at_iload dX9_worst_66 rfl ?_
      refine at_iconst dX9_worst_68 pc_i1 ?_
      refine at_aload_n dX9_worst_69 rfl ?_
      refine at_getr (122) flX9_20 rfl sd_119 (rs_119_9 hR) dX9_worst_70 ?_
      refine at_iconst dX9_worst_73 pc_i1 ?_
      refine at_iald sd_122 (vp_in_nI (n := 1) (by decide) (by decide)) dX9_worst_74 ?_
      rw [hs]
      refine at_ishl dX9_worst_75 ?_
      rw [i_sh1 ns (by omega)]
      refine at_icmpge (tgt := 145) dX9_worst_76 (by decide) (fun c76 => ?_) (fun c76 => ?_)
      · -- taken 76
        exact absurd c76 (nI_ge (by omega) (by omega))
      · -- not taken 76
        refine at_iload dX9_worst_79 rfl ?_
        refine at_iload_n dX9_worst_81 rfl ?_
        refine at_iand dX9_worst_82 ?_
        refine at_ifne (tgt := 139) dX9_worst_83 (by decide) (fun c83 => ?_) (fun c83 => ?_)
        · -- taken 83
          rw [hand] at c83
          have hnF : xwOk r nv ns nl e x i = false := by simp [xwOk, c83]
          refine at_inc dX9_worst_139 rfl pc_i1 rfl (Nat.le_of_ble_eq_true rfl) ?_
          refine at_goto (tgt := 66) dX9_worst_142 (by decide) ?_
          rw [nI_1]
          first | (have qF := hnF; exact e9 _ _ rfl hF (skip qF)) | exact at_drop 7 (e9 (o' := some i) _ _ hL2 hF3 (by rw [eU]; exact if_pos (decide_eq_true c125))) | exact at_drop 7 (e9 (o' := some b) _ _ hL2 hF3 (by rw [eU]; exact if_neg (by simpa using c125)))
        · -- not taken 83
          rw [hand] at c83
          refine at_iload dX9_worst_86 rfl ?_
          refine at_cs1 csX9_323 (ev_X9_ones hi8) (by decide) ⟨Nat.le_refl _, Nat.le_refl _⟩ (Nat.le_of_ble_eq_true rfl) dX9_worst_88 (pd_k1 ?_)
          refine at_iload_n dX9_worst_91 rfl ?_
          refine at_icmpeq (tgt := 98) dX9_worst_92 (by decide) (fun c92 => ?_) (fun c92 => ?_)
          · -- taken 92
            have hn : xwOk r nv ns nl e x i = true := by simp [xwOk, c92, c83]
            refine at_aload_n dX9_worst_98 rfl ?_
            refine at_aload_n dX9_worst_99 rfl ?_
            refine at_getr (122) flX9_20 rfl sd_119 (rs_119_9 hR) dX9_worst_100 ?_
            refine at_iload dX9_worst_103 rfl ?_
            refine at_cv2 cvX9_255 sd_119 (ev_X9_judges (e := e) (bes := i) hR hq2 hr (by omega)) (by decide) ⟨Nat.le_refl _, Nat.le_refl _⟩ (Nat.le_of_ble_eq_true rfl) dX9_worst_105 (pd_ke fun I2 L2 hj2 => ?_)
            obtain ⟨hL2, hF2, hJ⟩ := hj2
            have hF3 : JF (pd_up I 119 0 0) I2 := fun x j q1 q2 q3 q4 => (hF2 x j q1 q2 q3 q4).trans (hF x j q1 q2 q3 q4)
            simp only [hn, Bool.true_and] at eU
            refine at_aload_n dX9_worst_108 rfl ?_
            refine at_iconst dX9_worst_109 pc_i0 ?_
            refine at_cv1 cvX9_287 sd_119 (ev_X9_count hR (hF3.row hq.up) hr hJ.1 0) (by decide) ⟨Nat.le_refl _, Nat.le_refl _⟩ (Nat.le_of_ble_eq_true rfl) dX9_worst_110 (pd_k1 ?_)
            rw [show fb_ct (fun l => decide (rJ r nv nl e i l = 0)) nl = xwC r nv nl e i from rfl]
            refine at_istore dX9_worst_113 rfl (Nat.le_of_ble_eq_true rfl) ?_
            refine at_iload dX9_worst_115 rfl ?_
            refine at_iconst dX9_worst_117 pc_im1 ?_
            refine at_icmpeq (tgt := 131) dX9_worst_118 (by decide) (fun c118 => ?_) (fun c118 => ?_)
            · -- taken 118
              exact absurd c118 (nI_nm1 (by omega))
            · -- not taken 118
              refine at_iload dX9_worst_121 rfl ?_
              refine at_iload dX9_worst_123 rfl ?_
              refine at_icmplt (tgt := 131) dX9_worst_125 (by decide) (fun c125 => ?_) (fun c125 => ?_)
              · -- taken 125
                rw [show nI (xwC r nv nl e i) < xwL (xwC r nv nl e) (some b) ↔ xwC r nv nl e i < xwC r nv nl e b from nI_ltI (hcl _) (hcl _)] at c125
                refine at_iload dX9_worst_131 rfl ?_
                refine at_istore dX9_worst_133 rfl (Nat.le_of_ble_eq_true rfl) ?_
                refine at_iload dX9_worst_135 rfl ?_
                refine at_istore dX9_worst_137 rfl (Nat.le_of_ble_eq_true rfl) ?_
                refine at_inc dX9_worst_139 rfl pc_i1 rfl (Nat.le_of_ble_eq_true rfl) ?_
                refine at_goto (tgt := 66) dX9_worst_142 (by decide) ?_
                rw [nI_1]
                first | (have qF := hnF; exact e9 _ _ rfl hF (skip qF)) | exact at_drop 7 (e9 (o' := some i) _ _ hL2 hF3 (by rw [eU]; exact if_pos (decide_eq_true c125))) | exact at_drop 7 (e9 (o' := some b) _ _ hL2 hF3 (by rw [eU]; exact if_neg (by simpa using c125)))
              · -- not taken 125
                rw [show nI (xwC r nv nl e i) < xwL (xwC r nv nl e) (some b) ↔ xwC r nv nl e i < xwC r nv nl e b from nI_ltI (hcl _) (hcl _)] at c125
                refine at_goto (tgt := 139) dX9_worst_128 (by decide) ?_
                refine at_inc dX9_worst_139 rfl pc_i1 rfl (Nat.le_of_ble_eq_true rfl) ?_
                refine at_goto (tgt := 66) dX9_worst_142 (by decide) ?_
                rw [nI_1]
                first | (have qF := hnF; exact e9 _ _ rfl hF (skip qF)) | exact at_drop 7 (e9 (o' := some i) _ _ hL2 hF3 (by rw [eU]; exact if_pos (decide_eq_true c125))) | exact at_drop 7 (e9 (o' := some b) _ _ hL2 hF3 (by rw [eU]; exact if_neg (by simpa using c125)))
          · -- not taken 92
            have hnF : xwOk r nv ns nl e x i = false := by simp [xwOk, c92]
            refine at_goto (tgt := 139) dX9_worst_95 (by decide) ?_
            refine at_inc dX9_worst_139 rfl pc_i1 rfl (Nat.le_of_ble_eq_true rfl) ?_
            refine at_goto (tgt := 66) dX9_worst_142 (by decide) ?_
            rw [nI_1]
            first | (have qF := hnF; exact e9 _ _ rfl hF (skip qF)) | exact at_drop 7 (e9 (o' := some i) _ _ hL2 hF3 (by rw [eU]; exact if_pos (decide_eq_true c125))) | exact at_drop 7 (e9 (o' := some b) _ _ hL2 hF3 (by rw [eU]; exact if_neg (by simpa using c125)))
theorem ev_X9_worst (hR : RS R) (hq : RQ I 122 r) (hr : Row r nv ns nl e) (x what : Int32) : pd_Ev G mi_X9_worst 8 0 0 [.ref (pd_z G + 119), .int x, .int what] (SD, false, I, L, R) (m_x I L R (j1 9 (inR x 1 8 && inR what 0 1)) 8 (.int (xwV r nv ns nl e x what)) (.int 0) (QK I L)) := by
  refine pd_ev 5 (lo := [some (.ref (pd_z G + 119)), some (.int x), some (.int what), none, none, none, none, none]) (by decide +kernel) (Nat.le_of_ble_eq_true rfl) rfl ?_
  refine at_aload_n dX9_worst_0 rfl ?_
  refine at_iconst dX9_worst_1 pc_i0 ?_
  refine at_puti flX9_48 rfl sd_119 (fun _ _ _ hq => by cases hq; rfl) dX9_worst_2 ?_
  refine at_aload_n dX9_worst_5 rfl ?_
  refine at_iload_n dX9_worst_6 rfl ?_
  refine at_i2l dX9_worst_7 ?_
  refine at_lconst dX9_worst_8 pc_l1 ?_
  refine at_ldc2 coX9_283 dX9_worst_9 ?_
  refine at_cs3 csX9_107 (ev_X9_in _ _ _) (by decide) ⟨Nat.le_refl _, Nat.le_refl _⟩ (Nat.le_of_ble_eq_true rfl) dX9_worst_12 (pd_k1 ?_)
  rw [inL_c x 1 8 (by decide) (by decide)]
  refine at_ifeq (tgt := 28) dX9_worst_15 (by decide) (fun c15 => ?_) (fun c15 => ?_)
  · -- taken 15
    have k15 := i_of0.mp c15
    refine at_iconst dX9_worst_28 pc_i1 ?_
    refine at_goto (tgt := 33) dX9_worst_29 (by decide) ?_
    refine at_iconst dX9_worst_33 pc_i1 ?_
    refine at_iconst dX9_worst_34 pc_i1 ?_
    refine at_cv3 cvX9_204 sd_119 (ev_X9_bad1 hR (pd_up_at) (c := 1) (y := 1) ⟨by decide, by decide⟩ (by decide)) (by decide) ⟨Nat.le_refl _, Nat.le_refl _⟩ (Nat.le_of_ble_eq_true rfl) dX9_worst_35 (pd_k1 ?_)
    refine at_ifeq (tgt := 43) dX9_worst_38 (by decide) (fun c38 => ?_) (fun c38 => ?_)
    · -- taken 38
      exact absurd c38 (by decide)
    · -- not taken 38
      refine at_iconst dX9_worst_41 pc_i0 ?_
      refine at_iret rfl dX9_worst_42 ?_
      first | exact m_rf 1 (by rw [k15]; rfl) rfl | exact m_rf 1 (by rw [k25, Bool.and_false]; rfl) rfl
  · -- not taken 15
    have k15 := i_of1.mp c15
    refine at_iload_n dX9_worst_18 rfl ?_
    refine at_i2l dX9_worst_19 ?_
    refine at_lconst dX9_worst_20 pc_l0 ?_
    refine at_lconst dX9_worst_21 pc_l1 ?_
    refine at_cs3 csX9_107 (ev_X9_in _ _ _) (by decide) ⟨Nat.le_refl _, Nat.le_refl _⟩ (Nat.le_of_ble_eq_true rfl) dX9_worst_22 (pd_k1 ?_)
    rw [inL_c what 0 1 (by decide) (by decide)]
    refine at_ifne (tgt := 32) dX9_worst_25 (by decide) (fun c25 => ?_) (fun c25 => ?_)
    · -- taken 25
      have k25 := i_of1.mp c25
      refine at_iconst dX9_worst_32 pc_i0 ?_
      refine at_iconst dX9_worst_33 pc_i1 ?_
      refine at_iconst dX9_worst_34 pc_i1 ?_
      refine at_cv3 cvX9_204 sd_119 (ev_X9_bad0 hR (pd_up_at) _ _) (by decide) ⟨Nat.le_refl _, Nat.le_refl _⟩ (Nat.le_of_ble_eq_true rfl) dX9_worst_35 (pd_k1 ?_)
      refine at_ifeq (tgt := 43) dX9_worst_38 (by decide) (fun c38 => ?_) (fun c38 => ?_)
      · -- taken 38
        refine at_aload_n dX9_worst_43 rfl ?_
        refine at_aload_n dX9_worst_44 rfl ?_
        refine at_getr (122) flX9_20 rfl sd_119 (rs_119_9 hR) dX9_worst_45 ?_
        refine at_iconst dX9_worst_48 pc_i0 ?_
        refine at_cv2 cvX9_255 sd_119 (ev_X9_judges (e := e) (bes := 0) hR hq.up hr (by decide)) (by decide) ⟨Nat.le_refl _, Nat.le_refl _⟩ (Nat.le_of_ble_eq_true rfl) dX9_worst_49 (pd_ke fun I2 L2 hj2 => ?_)
        obtain ⟨rfl, hF, hJ⟩ := hj2
        refine at_aload_n dX9_worst_52 rfl ?_
        refine at_geti flX9_228 rfl sd_119 dX9_worst_53 ?_
        rw [hJ.2.2]
        refine at_istore_n dX9_worst_56 rfl (Nat.le_of_ble_eq_true rfl) ?_
        refine at_iconst dX9_worst_57 pc_im1 ?_
        refine at_istore dX9_worst_58 rfl (Nat.le_of_ble_eq_true rfl) ?_
        refine at_iconst dX9_worst_60 pc_i0 ?_
        refine at_istore dX9_worst_61 rfl (Nat.le_of_ble_eq_true rfl) ?_
        refine at_iconst dX9_worst_63 pc_i0 ?_
        refine at_istore dX9_worst_64 rfl (Nat.le_of_ble_eq_true rfl) ?_
        exact lp_X9_worst hR hq hr ⟨k15, k25⟩ (2 ^ ns) 0 I2 (by omega) hF
      · -- not taken 38
        exact absurd rfl c38
    · -- not taken 25
      have k25 := i_of0.mp c25
      refine at_iconst dX9_worst_28 pc_i1 ?_
      refine at_goto (tgt := 33) dX9_worst_29 (by decide) ?_
      refine at_iconst dX9_worst_33 pc_i1 ?_
      refine at_iconst dX9_worst_34 pc_i1 ?_
      refine at_cv3 cvX9_204 sd_119 (ev_X9_bad1 hR (pd_up_at) (c := 1) (y := 1) ⟨by decide, by decide⟩ (by decide)) (by decide) ⟨Nat.le_refl _, Nat.le_refl _⟩ (Nat.le_of_ble_eq_true rfl) dX9_worst_35 (pd_k1 ?_)
      refine at_ifeq (tgt := 43) dX9_worst_38 (by decide) (fun c38 => ?_) (fun c38 => ?_)
      · -- taken 38
        exact absurd c38 (by decide)
      · -- not taken 38
        refine at_iconst dX9_worst_41 pc_i0 ?_
        refine at_iret rfl dX9_worst_42 ?_
        first | exact m_rf 1 (by rw [k15]; rfl) rfl | exact m_rf 1 (by rw [k25, Bool.and_false]; rfl) rfl
theorem ev_X9_strike (hR : RS R) {w : RW} (hq : RQ I 122 w.1) (hr : RwOk w) (hP : MP I a ps) (x : Int32) {b : Int32} (hb : b = 0 ∨ b = 1) : pd_Ev G mi_X9_strike 8 0 0 [.ref (pd_z G + 119), .int x, .int b] (SD, false, I, L, R) (m_x I L R (j1 8 (isN x w.2.2.1)) 7 (.int (if w.1 (57 + x.toNatClampNeg) = b then 0 else 1)) (.int 0) (QA I L (skR w.1 x.toNatClampNeg b) (kA a) (kP a ps w))) := by
  have h8 : w.2.2.1 ≤ 8 := hr.2.1.2
  refine pd_ev 1 (lo := [some (.ref (pd_z G + 119)), some (.int x), some (.int b), none]) (by decide +kernel) (Nat.le_of_ble_eq_true rfl) rfl ?_
  refine at_aload_n dX9_strike_0 rfl ?_
  refine at_iconst dX9_strike_1 pc_i0 ?_
  refine at_puti flX9_48 rfl sd_119 (fun _ _ _ hq => by cases hq; rfl) dX9_strike_2 ?_
  refine at_aload_n dX9_strike_5 rfl ?_
  refine at_aload_n dX9_strike_6 rfl ?_
  refine at_iload_n dX9_strike_7 rfl ?_
  refine at_cv1 cvX9_238 sd_119 (ev_X9_isSheet hR hq.up hr x) (by decide) ⟨Nat.le_refl _, Nat.le_refl _⟩ (Nat.le_of_ble_eq_true rfl) dX9_strike_8 (pd_k1 ?_)
  refine at_ifne (tgt := 18) dX9_strike_11 (by decide) (fun c11 => ?_) (fun c11 => ?_)
  · -- taken 11
    have k11 := i_of1.mp c11
    refine at_iconst dX9_strike_18 pc_i0 ?_
    refine at_iconst dX9_strike_19 pc_i1 ?_
    refine at_iconst dX9_strike_20 pc_i0 ?_
    refine at_cv3 cvX9_204 sd_119 (ev_X9_bad0 hR (pd_up_at) _ _) (by decide) ⟨Nat.le_refl _, Nat.le_refl _⟩ (Nat.le_of_ble_eq_true rfl) dX9_strike_21 (pd_k1 ?_)
    refine at_ifeq (tgt := 29) dX9_strike_24 (by decide) (fun c24 => ?_) (fun c24 => ?_)
    · -- taken 24
      obtain ⟨s, hs, rfl⟩ := isN_of (n := w.2.2.1) (by omega) k11
      rw [nI_clamp (n := s) (by omega)]
      have h01 := hr.2.2.2.2.2.2.2.1 s (by omega)
      have e57 : (57 : Int32) + nI s = nI (57 + s) := nI_add 57 s
      refine at_aload_n dX9_strike_29 rfl ?_
      refine at_cv0 cvX9_211 sd_119 (ev_X9_rem (w := w) hR hP.up0 hq.up) (by decide) ⟨Nat.le_refl _, Nat.le_refl _⟩ (Nat.le_of_ble_eq_true rfl) dX9_strike_30 (pd_ke fun I2 L2 hj2 => ?_)
      obtain ⟨rfl, hP2, hM⟩ := hj2
      have hq2 : RQ I2 122 w.1 := fun k hk => (hM 122 k (by omega) (by omega)).trans (hq.up k hk)
      have h0 : I2 119 0 = 0 := (hM 119 0 (by omega) (by omega)).trans pd_up_at
      refine at_aload_n dX9_strike_33 rfl ?_
      refine at_getr (122) flX9_20 rfl sd_119 (rs_119_9 hR) dX9_strike_34 ?_
      refine at_bipush dX9_strike_37 pc_b57 ?_
      refine at_iload_n dX9_strike_39 rfl ?_
      refine at_iadd dX9_strike_40 ?_
      rw [e57]
      refine at_iald sd_122 (vp_in_nI (by omega) (by decide)) dX9_strike_41 ?_
      rw [nI_clamp (by omega), hq2 _ (by omega)]
      refine at_iconst dX9_strike_42 pc_i1 ?_
      refine at_icmpne (tgt := 50) dX9_strike_43 (by decide) (fun c43 => ?_) (fun c43 => ?_)
      · -- taken 43
        refine at_iconst dX9_strike_50 pc_i0 ?_
        refine at_istore_n dX9_strike_51 rfl (Nat.le_of_ble_eq_true rfl) ?_
        refine at_aload_n dX9_strike_52 rfl ?_
        refine at_getr (122) flX9_20 rfl sd_119 (rs_119_9 hR) dX9_strike_53 ?_
        refine at_bipush dX9_strike_56 pc_b57 ?_
        refine at_iload_n dX9_strike_58 rfl ?_
        refine at_iadd dX9_strike_59 ?_
        rw [e57]
        refine at_iload_n dX9_strike_60 rfl ?_
        refine at_ifeq (tgt := 68) dX9_strike_61 (by decide) (fun c61 => ?_) (fun c61 => ?_)
        · -- taken 61
          refine at_iconst dX9_strike_68 pc_i0 ?_
          refine at_iast sd_122 (vp_in_nI (by omega) (by decide)) dX9_strike_69 ?_
          rw [nI_clamp (n := 57 + s) (by omega)]
          refine at_iload_n dX9_strike_70 rfl ?_
          refine at_iload_n dX9_strike_71 rfl ?_
          refine at_icmpne (tgt := 79) dX9_strike_72 (by decide) (fun c72 => ?_) (fun c72 => ?_)
          · -- taken 72
            refine at_iconst dX9_strike_79 pc_i1 ?_
            refine at_iret rfl dX9_strike_80 ?_
            refine m_yes (by rw [k11]; rfl) ?_ (by rw [pd_up_nb (by decide)]; exact h0) (QA.mk' hM hP2 (fun x j h1 _ _ _ _ => pd_up_nb h1) (fun k hk => ?_))
            · first | (rcases h01 with z | z <;> rcases hb with z2 | z2 <;> subst z2 <;> rw [z] at c43 ⊢ <;> first | rfl | exact absurd c43 (by decide) | exact absurd rfl c43 | exact absurd c72 (by decide) | exact absurd rfl c72 | exact absurd c61 (by decide) | exact absurd rfl c61)
            · have hv : ∀ v : Int32, v = b → pd_up I2 122 (57 + s) v 122 k = skR w.1 s b k := fun v hvb => by
                rw [hvb, skR]
                by_cases hk2 : k = 57 + s
                · subst hk2; rw [pd_up_at, pk_us]
                · rw [pd_up_nj hk2, pk_un hk2, hq2 k hk]
              refine hv _ ?_
              rcases hb with z2 | z2 <;> subst z2 <;> first | rfl | exact absurd c61 (by decide) | exact absurd rfl c61
          · -- not taken 72
            refine at_iconst dX9_strike_75 pc_i0 ?_
            refine at_goto (tgt := 80) dX9_strike_76 (by decide) ?_
            refine at_iret rfl dX9_strike_80 ?_
            refine m_yes (by rw [k11]; rfl) ?_ (by rw [pd_up_nb (by decide)]; exact h0) (QA.mk' hM hP2 (fun x j h1 _ _ _ _ => pd_up_nb h1) (fun k hk => ?_))
            · first | (rcases h01 with z | z <;> rcases hb with z2 | z2 <;> subst z2 <;> rw [z] at c43 ⊢ <;> first | rfl | exact absurd c43 (by decide) | exact absurd rfl c43 | exact absurd c72 (by decide) | exact absurd rfl c72 | exact absurd c61 (by decide) | exact absurd rfl c61)
            · have hv : ∀ v : Int32, v = b → pd_up I2 122 (57 + s) v 122 k = skR w.1 s b k := fun v hvb => by
                rw [hvb, skR]
                by_cases hk2 : k = 57 + s
                · subst hk2; rw [pd_up_at, pk_us]
                · rw [pd_up_nj hk2, pk_un hk2, hq2 k hk]
              refine hv _ ?_
              rcases hb with z2 | z2 <;> subst z2 <;> first | rfl | exact absurd c61 (by decide) | exact absurd rfl c61
        · -- not taken 61
          refine at_iconst dX9_strike_64 pc_i1 ?_
          refine at_goto (tgt := 69) dX9_strike_65 (by decide) ?_
          refine at_iast sd_122 (vp_in_nI (by omega) (by decide)) dX9_strike_69 ?_
          rw [nI_clamp (n := 57 + s) (by omega)]
          refine at_iload_n dX9_strike_70 rfl ?_
          refine at_iload_n dX9_strike_71 rfl ?_
          refine at_icmpne (tgt := 79) dX9_strike_72 (by decide) (fun c72 => ?_) (fun c72 => ?_)
          · -- taken 72
            refine at_iconst dX9_strike_79 pc_i1 ?_
            refine at_iret rfl dX9_strike_80 ?_
            refine m_yes (by rw [k11]; rfl) ?_ (by rw [pd_up_nb (by decide)]; exact h0) (QA.mk' hM hP2 (fun x j h1 _ _ _ _ => pd_up_nb h1) (fun k hk => ?_))
            · first | (rcases h01 with z | z <;> rcases hb with z2 | z2 <;> subst z2 <;> rw [z] at c43 ⊢ <;> first | rfl | exact absurd c43 (by decide) | exact absurd rfl c43 | exact absurd c72 (by decide) | exact absurd rfl c72 | exact absurd c61 (by decide) | exact absurd rfl c61)
            · have hv : ∀ v : Int32, v = b → pd_up I2 122 (57 + s) v 122 k = skR w.1 s b k := fun v hvb => by
                rw [hvb, skR]
                by_cases hk2 : k = 57 + s
                · subst hk2; rw [pd_up_at, pk_us]
                · rw [pd_up_nj hk2, pk_un hk2, hq2 k hk]
              refine hv _ ?_
              rcases hb with z2 | z2 <;> subst z2 <;> first | rfl | exact absurd c61 (by decide) | exact absurd rfl c61
          · -- not taken 72
            refine at_iconst dX9_strike_75 pc_i0 ?_
            refine at_goto (tgt := 80) dX9_strike_76 (by decide) ?_
            refine at_iret rfl dX9_strike_80 ?_
            refine m_yes (by rw [k11]; rfl) ?_ (by rw [pd_up_nb (by decide)]; exact h0) (QA.mk' hM hP2 (fun x j h1 _ _ _ _ => pd_up_nb h1) (fun k hk => ?_))
            · first | (rcases h01 with z | z <;> rcases hb with z2 | z2 <;> subst z2 <;> rw [z] at c43 ⊢ <;> first | rfl | exact absurd c43 (by decide) | exact absurd rfl c43 | exact absurd c72 (by decide) | exact absurd rfl c72 | exact absurd c61 (by decide) | exact absurd rfl c61)
            · have hv : ∀ v : Int32, v = b → pd_up I2 122 (57 + s) v 122 k = skR w.1 s b k := fun v hvb => by
                rw [hvb, skR]
                by_cases hk2 : k = 57 + s
                · subst hk2; rw [pd_up_at, pk_us]
                · rw [pd_up_nj hk2, pk_un hk2, hq2 k hk]
              refine hv _ ?_
              rcases hb with z2 | z2 <;> subst z2 <;> first | rfl | exact absurd c61 (by decide) | exact absurd rfl c61
      · -- not taken 43
        refine at_iconst dX9_strike_46 pc_i1 ?_
        refine at_goto (tgt := 51) dX9_strike_47 (by decide) ?_
        refine at_istore_n dX9_strike_51 rfl (Nat.le_of_ble_eq_true rfl) ?_
        refine at_aload_n dX9_strike_52 rfl ?_
        refine at_getr (122) flX9_20 rfl sd_119 (rs_119_9 hR) dX9_strike_53 ?_
        refine at_bipush dX9_strike_56 pc_b57 ?_
        refine at_iload_n dX9_strike_58 rfl ?_
        refine at_iadd dX9_strike_59 ?_
        rw [e57]
        refine at_iload_n dX9_strike_60 rfl ?_
        refine at_ifeq (tgt := 68) dX9_strike_61 (by decide) (fun c61 => ?_) (fun c61 => ?_)
        · -- taken 61
          refine at_iconst dX9_strike_68 pc_i0 ?_
          refine at_iast sd_122 (vp_in_nI (by omega) (by decide)) dX9_strike_69 ?_
          rw [nI_clamp (n := 57 + s) (by omega)]
          refine at_iload_n dX9_strike_70 rfl ?_
          refine at_iload_n dX9_strike_71 rfl ?_
          refine at_icmpne (tgt := 79) dX9_strike_72 (by decide) (fun c72 => ?_) (fun c72 => ?_)
          · -- taken 72
            refine at_iconst dX9_strike_79 pc_i1 ?_
            refine at_iret rfl dX9_strike_80 ?_
            refine m_yes (by rw [k11]; rfl) ?_ (by rw [pd_up_nb (by decide)]; exact h0) (QA.mk' hM hP2 (fun x j h1 _ _ _ _ => pd_up_nb h1) (fun k hk => ?_))
            · first | (rcases h01 with z | z <;> rcases hb with z2 | z2 <;> subst z2 <;> rw [z] at c43 ⊢ <;> first | rfl | exact absurd c43 (by decide) | exact absurd rfl c43 | exact absurd c72 (by decide) | exact absurd rfl c72 | exact absurd c61 (by decide) | exact absurd rfl c61)
            · have hv : ∀ v : Int32, v = b → pd_up I2 122 (57 + s) v 122 k = skR w.1 s b k := fun v hvb => by
                rw [hvb, skR]
                by_cases hk2 : k = 57 + s
                · subst hk2; rw [pd_up_at, pk_us]
                · rw [pd_up_nj hk2, pk_un hk2, hq2 k hk]
              refine hv _ ?_
              rcases hb with z2 | z2 <;> subst z2 <;> first | rfl | exact absurd c61 (by decide) | exact absurd rfl c61
          · -- not taken 72
            refine at_iconst dX9_strike_75 pc_i0 ?_
            refine at_goto (tgt := 80) dX9_strike_76 (by decide) ?_
            refine at_iret rfl dX9_strike_80 ?_
            refine m_yes (by rw [k11]; rfl) ?_ (by rw [pd_up_nb (by decide)]; exact h0) (QA.mk' hM hP2 (fun x j h1 _ _ _ _ => pd_up_nb h1) (fun k hk => ?_))
            · first | (rcases h01 with z | z <;> rcases hb with z2 | z2 <;> subst z2 <;> rw [z] at c43 ⊢ <;> first | rfl | exact absurd c43 (by decide) | exact absurd rfl c43 | exact absurd c72 (by decide) | exact absurd rfl c72 | exact absurd c61 (by decide) | exact absurd rfl c61)
            · have hv : ∀ v : Int32, v = b → pd_up I2 122 (57 + s) v 122 k = skR w.1 s b k := fun v hvb => by
                rw [hvb, skR]
                by_cases hk2 : k = 57 + s
                · subst hk2; rw [pd_up_at, pk_us]
                · rw [pd_up_nj hk2, pk_un hk2, hq2 k hk]
              refine hv _ ?_
              rcases hb with z2 | z2 <;> subst z2 <;> first | rfl | exact absurd c61 (by decide) | exact absurd rfl c61
        · -- not taken 61
          refine at_iconst dX9_strike_64 pc_i1 ?_
          refine at_goto (tgt := 69) dX9_strike_65 (by decide) ?_
          refine at_iast sd_122 (vp_in_nI (by omega) (by decide)) dX9_strike_69 ?_
          rw [nI_clamp (n := 57 + s) (by omega)]
          refine at_iload_n dX9_strike_70 rfl ?_
          refine at_iload_n dX9_strike_71 rfl ?_
          refine at_icmpne (tgt := 79) dX9_strike_72 (by decide) (fun c72 => ?_) (fun c72 => ?_)
          · -- taken 72
            refine at_iconst dX9_strike_79 pc_i1 ?_
            refine at_iret rfl dX9_strike_80 ?_
            refine m_yes (by rw [k11]; rfl) ?_ (by rw [pd_up_nb (by decide)]; exact h0) (QA.mk' hM hP2 (fun x j h1 _ _ _ _ => pd_up_nb h1) (fun k hk => ?_))
            · first | (rcases h01 with z | z <;> rcases hb with z2 | z2 <;> subst z2 <;> rw [z] at c43 ⊢ <;> first | rfl | exact absurd c43 (by decide) | exact absurd rfl c43 | exact absurd c72 (by decide) | exact absurd rfl c72 | exact absurd c61 (by decide) | exact absurd rfl c61)
            · have hv : ∀ v : Int32, v = b → pd_up I2 122 (57 + s) v 122 k = skR w.1 s b k := fun v hvb => by
                rw [hvb, skR]
                by_cases hk2 : k = 57 + s
                · subst hk2; rw [pd_up_at, pk_us]
                · rw [pd_up_nj hk2, pk_un hk2, hq2 k hk]
              refine hv _ ?_
              rcases hb with z2 | z2 <;> subst z2 <;> first | rfl | exact absurd c61 (by decide) | exact absurd rfl c61
          · -- not taken 72
            refine at_iconst dX9_strike_75 pc_i0 ?_
            refine at_goto (tgt := 80) dX9_strike_76 (by decide) ?_
            refine at_iret rfl dX9_strike_80 ?_
            refine m_yes (by rw [k11]; rfl) ?_ (by rw [pd_up_nb (by decide)]; exact h0) (QA.mk' hM hP2 (fun x j h1 _ _ _ _ => pd_up_nb h1) (fun k hk => ?_))
            · first | (rcases h01 with z | z <;> rcases hb with z2 | z2 <;> subst z2 <;> rw [z] at c43 ⊢ <;> first | rfl | exact absurd c43 (by decide) | exact absurd rfl c43 | exact absurd c72 (by decide) | exact absurd rfl c72 | exact absurd c61 (by decide) | exact absurd rfl c61)
            · have hv : ∀ v : Int32, v = b → pd_up I2 122 (57 + s) v 122 k = skR w.1 s b k := fun v hvb => by
                rw [hvb, skR]
                by_cases hk2 : k = 57 + s
                · subst hk2; rw [pd_up_at, pk_us]
                · rw [pd_up_nj hk2, pk_un hk2, hq2 k hk]
              refine hv _ ?_
              rcases hb with z2 | z2 <;> subst z2 <;> first | rfl | exact absurd c61 (by decide) | exact absurd rfl c61
    · -- not taken 24
      exact absurd rfl c24
  · -- not taken 11
    have k11 := i_of0.mp c11
    refine at_iconst dX9_strike_14 pc_i1 ?_
    refine at_goto (tgt := 19) dX9_strike_15 (by decide) ?_
    refine at_iconst dX9_strike_19 pc_i1 ?_
    refine at_iconst dX9_strike_20 pc_i0 ?_
    refine at_cv3 cvX9_204 sd_119 (ev_X9_bad1 hR (pd_up_at) (c := 1) (y := 0) ⟨by decide, by decide⟩ (by decide)) (by decide) ⟨Nat.le_refl _, Nat.le_refl _⟩ (Nat.le_of_ble_eq_true rfl) dX9_strike_21 (pd_k1 ?_)
    refine at_ifeq (tgt := 29) dX9_strike_24 (by decide) (fun c24 => ?_) (fun c24 => ?_)
    · -- taken 24
      exact absurd c24 (by decide)
    · -- not taken 24
      refine at_iconst dX9_strike_27 pc_i0 ?_
      refine at_iret rfl dX9_strike_28 ?_
      exact m_rf 0 (by rw [k11]; rfl) rfl
end REF9
