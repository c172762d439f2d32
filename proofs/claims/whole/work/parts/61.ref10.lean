/-! ===== the reference: sign, erase, sample ===== -/
/-- the row at 122 is f from s to t -/
def rgR (I : Nat → Nat → Int32) (f : Nat → Int32) (s t : Nat) : Nat → Nat → Int32 := fun b j => if b = 122 ∧ s ≤ j ∧ j < t then f j else I b j
theorem rgR_nb {I : Nat → Nat → Int32} {f : Nat → Int32} {s t b j : Nat} (h : b ≠ 122) : rgR I f s t b j = I b j := if_neg (by omega)
theorem rgR_0 {I : Nat → Nat → Int32} {f : Nat → Int32} {s : Nat} : rgR I f s s = I := by funext b j; exact if_neg (by omega)
theorem rgR_up {I : Nat → Nat → Int32} {f : Nat → Int32} {s t : Nat} (h : s ≤ t) : pd_up (rgR I f s t) 122 t (f t) = rgR I f s (t + 1) := by
  funext b j
  unfold pd_up rgR
  by_cases hb : b = 122
  · subst hb
    by_cases hj : j = t
    · subst hj; rw [if_pos ⟨rfl, rfl⟩, if_pos ⟨rfl, h, by omega⟩]
    · rw [if_neg (by omega)]
      by_cases h5 : s ≤ j ∧ j < t
      · rw [if_pos ⟨rfl, h5⟩, if_pos ⟨rfl, h5.1, by omega⟩]
      · rw [if_neg (by omega), if_neg (by omega)]
  · rw [if_neg (by omega), if_neg (by omega), if_neg (by omega)]
section REF10
variable {G : pd_G} {I : Nat → Nat → Int32} {L : Nat → Nat → Int64} {R : Nat → Nat → Option Nat} {a : Nat} {r : Nat → Int32} {ps : Nat → RW} {w : RW}
theorem lp_X9_empt (hR : RS R) : ∀ (k i : Nat), i + k = 305 → 225 ≤ i → pd_At G mi_X9_emptiesSamples 1 0 0 0 0 4 [some (.ref (pd_z G + 119)), some (.int (nI i))] [] (SD, false, rgR I (fun _ => 0) 225 i, L, R) (pd_rv (SD, false, rgR I (fun _ => 0) 225 305, L, R)) := by
  intro k
  induction k with
  | zero =>
    intro i hi h1
    have e0 : i = 305 := by omega
    subst e0
    refine at_iload_n dX9_emptiesSamples_4 rfl ?_
    refine at_sipush dX9_emptiesSamples_5 pc_s305 ?_
    refine at_icmpge (tgt := 24) dX9_emptiesSamples_8 (by decide) (fun c8 => ?_) (fun c8 => ?_)
    · -- taken 8
      refine at_vret rfl dX9_emptiesSamples_24 ?_
      exact ⟨rfl, rfl⟩
    · -- not taken 8
      exact absurd (nI_le (a := 305) (Nat.le_refl _) (by decide)) c8
  | succ k ih =>
    intro i hi h1
    refine at_iload_n dX9_emptiesSamples_4 rfl ?_
    refine at_sipush dX9_emptiesSamples_5 pc_s305 ?_
    refine at_icmpge (tgt := 24) dX9_emptiesSamples_8 (by decide) (fun c8 => ?_) (fun c8 => ?_)
    · -- taken 8
      exact absurd c8 (nI_ge (b := 305) (by omega) (by decide))
    · -- not taken 8
      refine at_aload_n dX9_emptiesSamples_11 rfl ?_
      refine at_getr (122) flX9_20 rfl sd_119 (rs_119_9 hR) dX9_emptiesSamples_12 ?_
      refine at_iload_n dX9_emptiesSamples_15 rfl ?_
      refine at_iconst dX9_emptiesSamples_16 pc_i0 ?_
      refine at_iast sd_122 (vp_in_nI (by omega) (by decide)) dX9_emptiesSamples_17 ?_
      refine at_inc dX9_emptiesSamples_18 rfl pc_i1 rfl (Nat.le_of_ble_eq_true rfl) ?_
      refine at_goto (tgt := 4) dX9_emptiesSamples_21 (by decide) ?_
      rw [nI_1, nI_clamp (by omega), rgR_up (f := fun _ => 0) h1]
      exact ih (i + 1) (by omega) (by omega)
theorem ev_X9_empt (hR : RS R) : pd_Ev G mi_X9_emptiesSamples 1 0 0 [.ref (pd_z G + 119)] (SD, false, I, L, R) (pd_rv (SD, false, rgR I (fun _ => 0) 225 305, L, R)) := by
  refine pd_ev 1 (lo := [some (.ref (pd_z G + 119)), none]) (by decide +kernel) (Nat.le_of_ble_eq_true rfl) rfl ?_
  refine at_sipush dX9_emptiesSamples_0 pc_s225 ?_
  refine at_istore_n dX9_emptiesSamples_3 rfl (Nat.le_of_ble_eq_true rfl) ?_
  have h := lp_X9_empt (G := G) (I := I) (L := L) hR 80 225 (by omega) (by omega)
  rw [rgR_0] at h
  exact h
theorem lp_X9_moves (hR : RS R) {f t : Nat} (hf : f < 40) (ht : t < 40) (hne : f ≠ t) : ∀ (k i : Nat), i + k = 4 → pd_At G mi_X9_moves 2 0 0 0 0 2 [some (.ref (pd_z G + 119)), some (.int (nI f)), some (.int (nI t)), some (.int (nI i))] [] (SD, false, rgR I (fun j => I 122 (65 + 4 * f + (j - (65 + 4 * t)))) (65 + 4 * t) (65 + 4 * t + i), L, R) (pd_rv (SD, false, rgR I (fun j => I 122 (65 + 4 * f + (j - (65 + 4 * t)))) (65 + 4 * t) (69 + 4 * t), L, R)) := by
  intro k
  induction k with
  | zero =>
    intro i hi
    have e0 : i = 4 := by omega
    subst e0
    refine at_iload_n dX9_moves_2 rfl ?_
    refine at_iconst dX9_moves_3 pc_i4 ?_
    refine at_icmpge (tgt := 33) dX9_moves_4 (by decide) (fun c4 => ?_) (fun c4 => ?_)
    · -- taken 4
      refine at_vret rfl dX9_moves_33 ?_
      exact ⟨rfl, by rw [show 65 + 4 * t + 4 = 69 + 4 * t by omega]⟩
    · -- not taken 4
      exact absurd (nI_le (a := 4) (Nat.le_refl _) (by decide)) c4
  | succ k ih =>
    intro i hi
    have e1 : rgR I (fun j => I 122 (65 + 4 * f + (j - (65 + 4 * t)))) (65 + 4 * t) (65 + 4 * t + i) 122 (65 + 4 * f + i) = I 122 (65 + 4 * f + i) := if_neg (by omega)
    have e2 : I 122 (65 + 4 * f + i) = (fun j => I 122 (65 + 4 * f + (j - (65 + 4 * t)))) (65 + 4 * t + i) := by
      show _ = I 122 (65 + 4 * f + (65 + 4 * t + i - (65 + 4 * t)))
      rw [Nat.add_sub_cancel_left]
    refine at_iload_n dX9_moves_2 rfl ?_
    refine at_iconst dX9_moves_3 pc_i4 ?_
    refine at_icmpge (tgt := 33) dX9_moves_4 (by decide) (fun c4 => ?_) (fun c4 => ?_)
    · -- taken 4
      exact absurd c4 (nI_ge (b := 4) (by omega) (by decide))
    · -- not taken 4
      refine at_aload_n dX9_moves_7 rfl ?_
      refine at_getr (122) flX9_20 rfl sd_119 (rs_119_9 hR) dX9_moves_8 ?_
      refine at_iload_n dX9_moves_11 rfl ?_
      refine at_iload_n dX9_moves_12 rfl ?_
      refine at_cs2 csX9_124 (ev_X9_lineAt t i (65 + 4 * t + i) rfl) (by decide) ⟨Nat.le_refl _, Nat.le_refl _⟩ (Nat.le_of_ble_eq_true rfl) dX9_moves_13 (pd_k1 ?_)
      refine at_aload_n dX9_moves_16 rfl ?_
      refine at_getr (122) flX9_20 rfl sd_119 (rs_119_9 hR) dX9_moves_17 ?_
      refine at_iload_n dX9_moves_20 rfl ?_
      refine at_iload_n dX9_moves_21 rfl ?_
      refine at_cs2 csX9_124 (ev_X9_lineAt f i (65 + 4 * f + i) rfl) (by decide) ⟨Nat.le_refl _, Nat.le_refl _⟩ (Nat.le_of_ble_eq_true rfl) dX9_moves_22 (pd_k1 ?_)
      refine at_iald sd_122 (vp_in_nI (by omega) (by decide)) dX9_moves_25 ?_
      rw [nI_clamp (n := 65 + 4 * f + i) (by omega), e1, e2]
      refine at_iast sd_122 (vp_in_nI (by omega) (by decide)) dX9_moves_26 ?_
      refine at_inc dX9_moves_27 rfl pc_i1 rfl (Nat.le_of_ble_eq_true rfl) ?_
      refine at_goto (tgt := 2) dX9_moves_30 (by decide) ?_
      rw [nI_1, nI_clamp (n := 65 + 4 * t + i) (by omega), rgR_up (by omega)]
      exact ih (i + 1) (by omega)
theorem ev_X9_moves (hR : RS R) {f t : Nat} (hf : f < 40) (ht : t < 40) (hne : f ≠ t) : pd_Ev G mi_X9_moves 2 0 0 [.ref (pd_z G + 119), .int (nI f), .int (nI t)] (SD, false, I, L, R) (pd_rv (SD, false, rgR I (fun j => I 122 (65 + 4 * f + (j - (65 + 4 * t)))) (65 + 4 * t) (69 + 4 * t), L, R)) := by
  refine pd_ev 1 (lo := [some (.ref (pd_z G + 119)), some (.int (nI f)), some (.int (nI t)), none]) (by decide +kernel) (Nat.le_of_ble_eq_true rfl) rfl ?_
  refine at_iconst dX9_moves_0 pc_i0 ?_
  refine at_istore_n dX9_moves_1 rfl (Nat.le_of_ble_eq_true rfl) ?_
  have h := lp_X9_moves (G := G) (I := I) (L := L) hR hf ht hne 4 0 (by omega)
  rw [show 65 + 4 * t + 0 = 65 + 4 * t from rfl, rgR_0] at h
  exact h
/-- the lines from f on moved up, as far as l -/
def upR (r : Nat → Int32) (nl l : Nat) : Nat → Int32 := fun k => if 69 + 4 * l ≤ k ∧ k < 69 + 4 * nl then r (k - 4) else r k
theorem lp_X9_sg (hR : RS R) {nl f : Nat} (h40 : nl < 40) {x y day n : Int32} {Q : pd_O → pd_M → Prop} (K : ∀ I2, O2 I I2 → RQ I2 122 (upR r nl f) → pd_At G mi_X9_sign 8 0 0 0 0 135 [some (.ref (pd_z G + 119)), some (.int x), some (.int y), some (.int day), some (.int n), some (.int (nI f)), some (.int (nI f))] [] (SD, false, I2, L, R) Q) : ∀ (d l : Nat) (I' : Nat → Nat → Int32), f + d = l → l ≤ nl → O2 I I' → RQ I' 122 (upR r nl l) → pd_At G mi_X9_sign 8 0 0 0 0 112 [some (.ref (pd_z G + 119)), some (.int x), some (.int y), some (.int day), some (.int n), some (.int (nI f)), some (.int (nI l))] [] (SD, false, I', L, R) Q := by
  intro d
  induction d with
  | zero =>
    intro l I' hl hn h1 h2
    have e0 : l = f := by omega
    subst e0
    refine at_iload dX9_sign_112 rfl ?_
    refine at_iload dX9_sign_114 rfl ?_
    refine at_icmple (tgt := 135) dX9_sign_116 (by decide) (fun c116 => ?_) (fun c116 => ?_)
    · -- taken 116
      exact K _ h1 h2
    · -- not taken 116
      exact absurd (nI_le (Nat.le_refl _) (by omega)) c116
  | succ d ih =>
    intro l I' hl hn h1 h2
    obtain ⟨m, rfl⟩ : ∃ m, l = m + 1 := ⟨l - 1, by omega⟩
    refine at_iload dX9_sign_112 rfl ?_
    refine at_iload dX9_sign_114 rfl ?_
    refine at_icmple (tgt := 135) dX9_sign_116 (by decide) (fun c116 => ?_) (fun c116 => ?_)
    · -- taken 116
      exact absurd c116 (nI_ge (by omega) (by omega))
    · -- not taken 116
      refine at_aload_n dX9_sign_119 rfl ?_
      refine at_iload dX9_sign_120 rfl ?_
      refine at_iconst dX9_sign_122 pc_i1 ?_
      refine at_isub dX9_sign_123 ?_
      rw [nI_pred]
      refine at_iload dX9_sign_124 rfl ?_
      refine at_cv2 cvX9_270 sd_119 (ev_X9_moves (f := m) (t := m + 1) hR (by omega) (by omega) (by omega)) (by decide) ⟨Nat.le_refl _, Nat.le_refl _⟩ (Nat.le_of_ble_eq_true rfl) dX9_sign_126 (pd_k0 ?_)
      refine at_inc dX9_sign_129 rfl pc_im1 rfl (Nat.le_of_ble_eq_true rfl) ?_
      refine at_goto (tgt := 112) dX9_sign_132 (by decide) ?_
      rw [pk_m1]
      refine ih m _ (by omega) (by omega) (fun x j hx => by rw [rgR_nb hx]; exact h1 x j hx) (fun k hk => ?_)
      unfold rgR
      by_cases hk2 : 65 + 4 * (m + 1) ≤ k ∧ k < 69 + 4 * (m + 1)
      · rw [if_pos ⟨rfl, hk2⟩]
        show I' 122 (65 + 4 * m + (k - (65 + 4 * (m + 1)))) = _
        rw [h2 _ (by omega)]
        unfold upR
        rw [if_neg (by omega), if_pos (by omega)]
        congr 1; omega
      · rw [if_neg (by omega), h2 k hk]
        unfold upR
        by_cases h5 : 69 + 4 * (m + 1) ≤ k ∧ k < 69 + 4 * nl
        · rw [if_pos h5, if_pos (by omega)]
        · rw [if_neg h5, if_neg (by omega)]
theorem sg_fin {I : Nat → Nat → Int32} {nl f : Nat} {s name street day : Int32} (h40 : nl < 40) (hf : f ≤ nl) (h : RQ I 122 (upR r nl f)) : RQ (rgR (pd_up (pd_up (pd_up (pd_up (pd_up I 122 (65 + 4 * f) name) 122 (66 + 4 * f) street) 122 (67 + 4 * f) s) 122 (68 + 4 * f) day) 122 2 (nI (nl + 1))) (fun _ => 0) 225 305) 122 (sgR r nl f s name street day) := by
  intro k hk
  by_cases h1 : 225 ≤ k ∧ k < 305
  · rw [sgR_s h1.1 h1.2]; exact if_pos ⟨rfl, h1⟩
  · rw [show rgR (pd_up (pd_up (pd_up (pd_up (pd_up I 122 (65 + 4 * f) name) 122 (66 + 4 * f) street) 122 (67 + 4 * f) s) 122 (68 + 4 * f) day) 122 2 (nI (nl + 1))) (fun _ => 0) 225 305 122 k = _ from if_neg (by omega)]
    obtain ⟨g1, g2, g3, g4⟩ := sgR_f (r := r) (s := s) (name := name) (street := street) (day := day) h40 hf
    by_cases h2 : k = 2
    · subst h2; rw [pd_up_at, sgR_2]
    · rw [pd_up_nj h2]
      by_cases h3 : k = 68 + 4 * f
      · subst h3; rw [pd_up_at, g4]
      · rw [pd_up_nj h3]
        by_cases h4 : k = 67 + 4 * f
        · subst h4; rw [pd_up_at, g3]
        · rw [pd_up_nj h4]
          by_cases h5 : k = 66 + 4 * f
          · subst h5; rw [pd_up_at, g2]
          · rw [pd_up_nj h5]
            by_cases h6 : k = 65 + 4 * f
            · subst h6; rw [pd_up_at, g1]
            · rw [pd_up_nj h6, h k hk]
              unfold upR sgR
              rw [if_neg h2, if_neg h1, if_neg (c := 65 + 4 * f ≤ k ∧ k < 69 + 4 * f) (by omega)]
theorem ev_X9_sign (hR : RS R) (hq : RQ I 122 w.1) (hr : RwOk w) (hP : MP I a ps) (x y day : Int32) : pd_Ev G mi_X9_sign 8 0 0 [.ref (pd_z G + 119), .int x, .int y, .int day] (SD, false, I, L, R) (m_x I L R (j3 (isN x w.2.2.1 && isN y w.2.1) (inR day 0 999) (decide (w.2.2.2.1 < 40))) 7 (.int (nI (rN w.1 w.2.2.2.1 x.toNatClampNeg))) (.int 0) (QA I L (sgR w.1 w.2.2.2.1 (rFo w.1 w.2.2.2.1 (x.toNatClampNeg + 1)) (nI x.toNatClampNeg) (w.1 (9 + 3 * y.toNatClampNeg)) (w.1 (10 + 3 * y.toNatClampNeg)) day) (kA a) (kP a ps w))) := by
  obtain ⟨r, nv, ns, nl, e⟩ := w
  have hr' : Row r nv ns nl e := hr
  have h8 := hr'.2.1.2
  have h40 := hr'.2.2.1.2
  have hv16 := hr'.1.2
  show pd_Ev G mi_X9_sign 8 0 0 _ _ (m_x I L R (j3 (isN x ns && isN y nv) (inR day 0 999) (decide (nl < 40))) 7 (.int (nI (rN r nl x.toNatClampNeg))) (.int 0) (QA I L (sgR r nl (rFo r nl (x.toNatClampNeg + 1)) (nI x.toNatClampNeg) (r (9 + 3 * y.toNatClampNeg)) (r (10 + 3 * y.toNatClampNeg)) day) (kA a) (kP a ps (r, nv, ns, nl, e))))
  replace hq : RQ I 122 r := hq
  have go : ∀ s v, s < ns → v < nv → nl < 40 → isN (nI s) ns = true → isN (nI v) nv = true → inR day 0 999 = true → pd_At G mi_X9_sign 8 0 0 0 0 86 [some (.ref (pd_z G + 119)), some (.int (nI s)), some (.int (nI v)), some (.int day), none, none, none] [] (SD, false, pd_up I 119 0 0, L, R) (m_x I L R (j3 (isN (nI s) ns && isN (nI v) nv) (inR day 0 999) (decide (nl < 40))) 7 (.int (nI (rN r nl s))) (.int 0) (QA I L (sgR r nl (rFo r nl (s + 1)) (nI s) (r (9 + 3 * v)) (r (10 + 3 * v)) day) (kA a) (kP a ps (r, nv, ns, nl, e)))) := by
    intro s v hs hv hn k1 k2 k3
    have hfo := rFo_succ hr' (s := s) (by omega)
    have hfl := rFo_le (r := r) (nl := nl) (s + 1)
    obtain ⟨f, hf⟩ : ∃ f, f = rFo r nl (s + 1) := ⟨_, rfl⟩
    rw [← hf] at hfo hfl ⊢
    have last : ∀ (I2 I3 : Nat → Nat → Int32), RM9 I I2 → MP I2 (kA a) (kP a ps (r, nv, ns, nl, e)) → O2 I2 I3 → RQ I3 122 (upR r nl f) → pd_At G mi_X9_sign 8 0 0 0 0 135 [some (.ref (pd_z G + 119)), some (.int (nI s)), some (.int (nI v)), some (.int day), some (.int (nI (rN r nl s))), some (.int (nI f)), some (.int (nI f))] [] (SD, false, I3, L, R) (m_x I L R (j3 (isN (nI s) ns && isN (nI v) nv) (inR day 0 999) (decide (nl < 40))) 7 (.int (nI (rN r nl s))) (.int 0) (QA I L (sgR r nl f (nI s) (r (9 + 3 * v)) (r (10 + 3 * v)) day) (kA a) (kP a ps (r, nv, ns, nl, e)))) := by
      intro I2 I3 hM hP2 hO hU
      have u1 : I3 122 (9 + 3 * v) = r (9 + 3 * v) := by rw [hU _ (by omega)]; exact if_neg (by omega)
      have u2 : ∀ z, pd_up I3 122 (65 + 4 * f) z 122 (10 + 3 * v) = r (10 + 3 * v) := fun z => by rw [pd_up_nj (by omega), hU _ (by omega)]; exact if_neg (by omega)
      have u3 : ∀ z1 z2 z3 z4, pd_up (pd_up (pd_up (pd_up I3 122 (65 + 4 * f) z1) 122 (66 + 4 * f) z2) 122 (67 + 4 * f) z3) 122 (68 + 4 * f) z4 122 (2 : Int32).toNatClampNeg = nI nl := fun z1 z2 z3 z4 => by
        show pd_up (pd_up (pd_up (pd_up I3 122 (65 + 4 * f) z1) 122 (66 + 4 * f) z2) 122 (67 + 4 * f) z3) 122 (68 + 4 * f) z4 122 2 = nI nl
        rw [pd_up_nj (by omega), pd_up_nj (by omega), pd_up_nj (by omega), pd_up_nj (by omega), hU 2 (by decide)]
        exact (if_neg (by omega)).trans hr'.2.2.1.1
      refine at_aload_n dX9_sign_135 rfl ?_
      refine at_getr (122) flX9_20 rfl sd_119 (rs_119_9 hR) dX9_sign_136 ?_
      refine at_iload dX9_sign_139 rfl ?_
      refine at_iconst dX9_sign_141 pc_i0 ?_
      refine at_cs2 csX9_124 (ev_X9_lineAt f 0 (65 + 4 * f) (by omega)) (by decide) ⟨Nat.le_refl _, Nat.le_refl _⟩ (Nat.le_of_ble_eq_true rfl) dX9_sign_142 (pd_k1 ?_)
      refine at_aload_n dX9_sign_145 rfl ?_
      refine at_getr (122) flX9_20 rfl sd_119 (rs_119_9 hR) dX9_sign_146 ?_
      refine at_iload_n dX9_sign_149 rfl ?_
      refine at_iconst dX9_sign_150 pc_i0 ?_
      refine at_cs2 csX9_111 (ev_X9_voterAt v 0 (9 + 3 * v) (by omega)) (by decide) ⟨Nat.le_refl _, Nat.le_refl _⟩ (Nat.le_of_ble_eq_true rfl) dX9_sign_151 (pd_k1 ?_)
      refine at_iald sd_122 (vp_in_nI (by omega) (by decide)) dX9_sign_154 ?_
      rw [nI_clamp (n := 9 + 3 * v) (by omega), u1]
      refine at_iast sd_122 (vp_in_nI (by omega) (by decide)) dX9_sign_155 ?_
      rw [nI_clamp (n := 65 + 4 * f) (by omega)]
      refine at_aload_n dX9_sign_156 rfl ?_
      refine at_getr (122) flX9_20 rfl sd_119 (rs_119_9 hR) dX9_sign_157 ?_
      refine at_iload dX9_sign_160 rfl ?_
      refine at_iconst dX9_sign_162 pc_i1 ?_
      refine at_cs2 csX9_124 (ev_X9_lineAt f 1 (66 + 4 * f) (by omega)) (by decide) ⟨Nat.le_refl _, Nat.le_refl _⟩ (Nat.le_of_ble_eq_true rfl) dX9_sign_163 (pd_k1 ?_)
      refine at_aload_n dX9_sign_166 rfl ?_
      refine at_getr (122) flX9_20 rfl sd_119 (rs_119_9 hR) dX9_sign_167 ?_
      refine at_iload_n dX9_sign_170 rfl ?_
      refine at_iconst dX9_sign_171 pc_i1 ?_
      refine at_cs2 csX9_111 (ev_X9_voterAt v 1 (10 + 3 * v) (by omega)) (by decide) ⟨Nat.le_refl _, Nat.le_refl _⟩ (Nat.le_of_ble_eq_true rfl) dX9_sign_172 (pd_k1 ?_)
      refine at_iald sd_122 (vp_in_nI (by omega) (by decide)) dX9_sign_175 ?_
      rw [nI_clamp (n := 10 + 3 * v) (by omega), u2]
      refine at_iast sd_122 (vp_in_nI (by omega) (by decide)) dX9_sign_176 ?_
      rw [nI_clamp (n := 66 + 4 * f) (by omega)]
      refine at_aload_n dX9_sign_177 rfl ?_
      refine at_getr (122) flX9_20 rfl sd_119 (rs_119_9 hR) dX9_sign_178 ?_
      refine at_iload dX9_sign_181 rfl ?_
      refine at_iconst dX9_sign_183 pc_i2 ?_
      refine at_cs2 csX9_124 (ev_X9_lineAt f 2 (67 + 4 * f) (by omega)) (by decide) ⟨Nat.le_refl _, Nat.le_refl _⟩ (Nat.le_of_ble_eq_true rfl) dX9_sign_184 (pd_k1 ?_)
      refine at_iload_n dX9_sign_187 rfl ?_
      refine at_iast sd_122 (vp_in_nI (by omega) (by decide)) dX9_sign_188 ?_
      rw [nI_clamp (n := 67 + 4 * f) (by omega)]
      refine at_aload_n dX9_sign_189 rfl ?_
      refine at_getr (122) flX9_20 rfl sd_119 (rs_119_9 hR) dX9_sign_190 ?_
      refine at_iload dX9_sign_193 rfl ?_
      refine at_iconst dX9_sign_195 pc_i3 ?_
      refine at_cs2 csX9_124 (ev_X9_lineAt f 3 (68 + 4 * f) (by omega)) (by decide) ⟨Nat.le_refl _, Nat.le_refl _⟩ (Nat.le_of_ble_eq_true rfl) dX9_sign_196 (pd_k1 ?_)
      refine at_iload_n dX9_sign_199 rfl ?_
      refine at_iast sd_122 (vp_in_nI (by omega) (by decide)) dX9_sign_200 ?_
      rw [nI_clamp (n := 68 + 4 * f) (by omega)]
      refine at_aload_n dX9_sign_201 rfl ?_
      refine at_getr (122) flX9_20 rfl sd_119 (rs_119_9 hR) dX9_sign_202 ?_
      refine at_iconst dX9_sign_205 pc_i2 ?_
      refine at_dup2 dX9_sign_206 rfl rfl ?_
      refine at_iald sd_122 (vp_in_nI (n := 2) (by decide) (by decide)) dX9_sign_207 ?_
      rw [u3]
      refine at_iconst dX9_sign_208 pc_i1 ?_
      refine at_iadd dX9_sign_209 ?_
      rw [nI_1]
      refine at_iast sd_122 (vp_in_nI (n := 2) (by decide) (by decide)) dX9_sign_210 ?_
      refine at_aload_n dX9_sign_211 rfl ?_
      refine at_cv0 cvX9_273 sd_119 (ev_X9_empt hR) (by decide) ⟨Nat.le_refl _, Nat.le_refl _⟩ (Nat.le_of_ble_eq_true rfl) dX9_sign_212 (pd_k0 ?_)
      refine at_iload dX9_sign_215 rfl ?_
      refine at_iret rfl dX9_sign_217 ?_
      refine m_yes (by rw [k1, k2, k3, decide_eq_true hn]; rfl) rfl ?_ (QA.mk' hM hP2 (fun x j h1 _ _ _ _ => ?_) (sg_fin hn hfl hU))
      · rw [rgR_nb (by decide), pd_up_nb (by decide), pd_up_nb (by decide), pd_up_nb (by decide), pd_up_nb (by decide), pd_up_nb (by decide), hO 119 0 (by decide), hM 119 0 (by omega) (by omega)]; exact pd_up_at
      · rw [rgR_nb h1, pd_up_nb h1, pd_up_nb h1, pd_up_nb h1, pd_up_nb h1, pd_up_nb h1]; exact hO x j h1
    refine at_aload_n dX9_sign_86 rfl ?_
    refine at_cv0 cvX9_211 sd_119 (ev_X9_rem (w := (r, nv, ns, nl, e)) hR hP.up0 hq.up) (by decide) ⟨Nat.le_refl _, Nat.le_refl _⟩ (Nat.le_of_ble_eq_true rfl) dX9_sign_87 (pd_ke fun I2 L2 hj2 => ?_)
    obtain ⟨rfl, hP2, hM⟩ := hj2
    have hq2 : RQ I2 122 r := fun k hk => (hM 122 k (by omega) (by omega)).trans (hq.up k hk)
    refine at_aload_n dX9_sign_90 rfl ?_
    refine at_iload_n dX9_sign_91 rfl ?_
    refine at_cv1 cvX9_241 sd_119 (ev_X9_linesOf hR hq2 hr' (nI s)) (by decide) ⟨Nat.le_refl _, Nat.le_refl _⟩ (Nat.le_of_ble_eq_true rfl) dX9_sign_92 (pd_k1 ?_)
    rw [show fb_ct (fun l => decide (rSh r l = nI s)) nl = rN r nl s from rfl]
    refine at_istore dX9_sign_95 rfl (Nat.le_of_ble_eq_true rfl) ?_
    refine at_aload_n dX9_sign_97 rfl ?_
    refine at_iload_n dX9_sign_98 rfl ?_
    refine at_iload dX9_sign_99 rfl ?_
    refine at_cv2 cvX9_267 sd_119 (ev_X9_spotOf hR hq2 hr' (nI s) (rN r nl s)) (by decide) ⟨Nat.le_refl _, Nat.le_refl _⟩ (Nat.le_of_ble_eq_true rfl) dX9_sign_101 (pd_k1 ?_)
    rw [show rN r nl s + fb_ct (fun l => decide (rSh r l < nI s)) nl = f by rw [hfo, Nat.add_comm]; rfl]
    refine at_istore dX9_sign_104 rfl (Nat.le_of_ble_eq_true rfl) ?_
    refine at_aload_n dX9_sign_106 rfl ?_
    refine at_cv0 cvX9_218 sd_119 (ev_X9_lines hR hq2 hr'.2.2.1.1) (by decide) ⟨Nat.le_refl _, Nat.le_refl _⟩ (Nat.le_of_ble_eq_true rfl) dX9_sign_107 (pd_k1 ?_)
    refine at_istore dX9_sign_110 rfl (Nat.le_of_ble_eq_true rfl) ?_
    refine lp_X9_sg (r := r) hR hn (fun I3 hO hU => last I2 I3 hM hP2 hO hU) (nl - f) nl I2 (by omega) (Nat.le_refl _) (fun _ _ _ => rfl) (fun k hk => ?_)
    unfold upR; rw [if_neg (by omega)]; exact hq2 k hk
  refine pd_ev 3 (lo := [some (.ref (pd_z G + 119)), some (.int x), some (.int y), some (.int day), none, none, none]) (by decide +kernel) (Nat.le_of_ble_eq_true rfl) rfl ?_
  refine at_aload_n dX9_sign_0 rfl ?_
  refine at_iconst dX9_sign_1 pc_i0 ?_
  refine at_puti flX9_48 rfl sd_119 (fun _ _ _ hq => by cases hq; rfl) dX9_sign_2 ?_
  refine at_aload_n dX9_sign_5 rfl ?_
  refine at_aload_n dX9_sign_6 rfl ?_
  refine at_iload_n dX9_sign_7 rfl ?_
  refine at_cv1 cvX9_238 sd_119 (ev_X9_isSheet hR hq.up hr' x) (by decide) ⟨Nat.le_refl _, Nat.le_refl _⟩ (Nat.le_of_ble_eq_true rfl) dX9_sign_8 (pd_k1 ?_)
  refine at_ifeq (tgt := 22) dX9_sign_11 (by decide) (fun c11 => ?_) (fun c11 => ?_)
  · -- taken 11
    have k11 := i_of0.mp c11
    refine at_iconst dX9_sign_22 pc_i1 ?_
    refine at_goto (tgt := 27) dX9_sign_23 (by decide) ?_
    refine at_iconst dX9_sign_27 pc_i1 ?_
    refine at_iconst dX9_sign_28 pc_i0 ?_
    refine at_cv3 cvX9_204 sd_119 (ev_X9_bad1 hR (pd_up_at) (c := 1) (y := 0) ⟨by decide, by decide⟩ (by decide)) (by decide) ⟨Nat.le_refl _, Nat.le_refl _⟩ (Nat.le_of_ble_eq_true rfl) dX9_sign_29 (pd_k1 ?_)
    refine at_ifne (tgt := 84) dX9_sign_32 (by decide) (fun c32 => ?_) (fun c32 => ?_)
    · -- taken 32
      refine at_iconst dX9_sign_84 pc_i0 ?_
      refine at_iret rfl dX9_sign_85 ?_
      first | exact m_rf 0 (by rw [k11]; rfl) rfl | exact m_rf 0 (by rw [k11, k19]; rfl) rfl | exact m_rf 1 (by rw [k11, k19, k45]; rfl) rfl | exact m_rf 2 (by rw [k11, k19, k45, decide_eq_false (by omega)]; rfl) rfl
    · -- not taken 32
      exact absurd c32 (by decide)
  · -- not taken 11
    have k11 := i_of1.mp c11
    refine at_aload_n dX9_sign_14 rfl ?_
    refine at_iload_n dX9_sign_15 rfl ?_
    refine at_cv1 cvX9_262 sd_119 (ev_X9_isVoter hR hq.up hr' y) (by decide) ⟨Nat.le_refl _, Nat.le_refl _⟩ (Nat.le_of_ble_eq_true rfl) dX9_sign_16 (pd_k1 ?_)
    refine at_ifne (tgt := 26) dX9_sign_19 (by decide) (fun c19 => ?_) (fun c19 => ?_)
    · -- taken 19
      have k19 := i_of1.mp c19
      refine at_iconst dX9_sign_26 pc_i0 ?_
      refine at_iconst dX9_sign_27 pc_i1 ?_
      refine at_iconst dX9_sign_28 pc_i0 ?_
      refine at_cv3 cvX9_204 sd_119 (ev_X9_bad0 hR (pd_up_at) _ _) (by decide) ⟨Nat.le_refl _, Nat.le_refl _⟩ (Nat.le_of_ble_eq_true rfl) dX9_sign_29 (pd_k1 ?_)
      refine at_ifne (tgt := 84) dX9_sign_32 (by decide) (fun c32 => ?_) (fun c32 => ?_)
      · -- taken 32
        exact absurd rfl c32
      · -- not taken 32
        refine at_aload_n dX9_sign_35 rfl ?_
        refine at_iload_n dX9_sign_36 rfl ?_
        refine at_i2l dX9_sign_37 ?_
        refine at_lconst dX9_sign_38 pc_l0 ?_
        refine at_ldc2 coX9_265 dX9_sign_39 ?_
        refine at_cs3 csX9_107 (ev_X9_in _ _ _) (by decide) ⟨Nat.le_refl _, Nat.le_refl _⟩ (Nat.le_of_ble_eq_true rfl) dX9_sign_42 (pd_k1 ?_)
        rw [inL_c day 0 999 (by decide) (by decide)]
        refine at_ifne (tgt := 52) dX9_sign_45 (by decide) (fun c45 => ?_) (fun c45 => ?_)
        · -- taken 45
          have k45 := i_of1.mp c45
          refine at_iconst dX9_sign_52 pc_i0 ?_
          refine at_iconst dX9_sign_53 pc_i2 ?_
          refine at_iconst dX9_sign_54 pc_i1 ?_
          refine at_cv3 cvX9_204 sd_119 (ev_X9_bad0 hR (pd_up_at) _ _) (by decide) ⟨Nat.le_refl _, Nat.le_refl _⟩ (Nat.le_of_ble_eq_true rfl) dX9_sign_55 (pd_k1 ?_)
          refine at_ifne (tgt := 84) dX9_sign_58 (by decide) (fun c58 => ?_) (fun c58 => ?_)
          · -- taken 58
            exact absurd rfl c58
          · -- not taken 58
            refine at_aload_n dX9_sign_61 rfl ?_
            refine at_aload_n dX9_sign_62 rfl ?_
            refine at_cv0 cvX9_218 sd_119 (ev_X9_lines hR hq.up hr'.2.2.1.1) (by decide) ⟨Nat.le_refl _, Nat.le_refl _⟩ (Nat.le_of_ble_eq_true rfl) dX9_sign_63 (pd_k1 ?_)
            refine at_bipush dX9_sign_66 pc_b40 ?_
            refine at_icmpne (tgt := 75) dX9_sign_68 (by decide) (fun c68 => ?_) (fun c68 => ?_)
            · -- taken 68
              rw [show nI nl = 40 ↔ nl = 40 from nI_eq (b := 40) (by omega) (by decide)] at c68
              refine at_iconst dX9_sign_75 pc_i0 ?_
              refine at_iconst dX9_sign_76 pc_i3 ?_
              refine at_iconst dX9_sign_77 pc_i2 ?_
              refine at_cv3 cvX9_204 sd_119 (ev_X9_bad0 hR (pd_up_at) _ _) (by decide) ⟨Nat.le_refl _, Nat.le_refl _⟩ (Nat.le_of_ble_eq_true rfl) dX9_sign_78 (pd_k1 ?_)
              refine at_ifeq (tgt := 86) dX9_sign_81 (by decide) (fun c81 => ?_) (fun c81 => ?_)
              · -- taken 81
                obtain ⟨s, hs, rfl⟩ := isN_of (n := ns) (by omega) k11
                obtain ⟨v, hv, rfl⟩ := isN_of (n := nv) (by omega) k19
                rw [nI_clamp (n := s) (by omega), nI_clamp (n := v) (by omega)]
                exact go s v hs hv (by omega) k11 k19 k45
              · -- not taken 81
                exact absurd rfl c81
            · -- not taken 68
              rw [show nI nl = 40 ↔ nl = 40 from nI_eq (b := 40) (by omega) (by decide)] at c68
              refine at_iconst dX9_sign_71 pc_i1 ?_
              refine at_goto (tgt := 76) dX9_sign_72 (by decide) ?_
              refine at_iconst dX9_sign_76 pc_i3 ?_
              refine at_iconst dX9_sign_77 pc_i2 ?_
              refine at_cv3 cvX9_204 sd_119 (ev_X9_bad1 hR (pd_up_at) (c := 3) (y := 2) ⟨by decide, by decide⟩ (by decide)) (by decide) ⟨Nat.le_refl _, Nat.le_refl _⟩ (Nat.le_of_ble_eq_true rfl) dX9_sign_78 (pd_k1 ?_)
              refine at_ifeq (tgt := 86) dX9_sign_81 (by decide) (fun c81 => ?_) (fun c81 => ?_)
              · -- taken 81
                exact absurd c81 (by decide)
              · -- not taken 81
                refine at_iconst dX9_sign_84 pc_i0 ?_
                refine at_iret rfl dX9_sign_85 ?_
                first | exact m_rf 0 (by rw [k11]; rfl) rfl | exact m_rf 0 (by rw [k11, k19]; rfl) rfl | exact m_rf 1 (by rw [k11, k19, k45]; rfl) rfl | exact m_rf 2 (by rw [k11, k19, k45, decide_eq_false (by omega)]; rfl) rfl
        · -- not taken 45
          have k45 := i_of0.mp c45
          refine at_iconst dX9_sign_48 pc_i1 ?_
          refine at_goto (tgt := 53) dX9_sign_49 (by decide) ?_
          refine at_iconst dX9_sign_53 pc_i2 ?_
          refine at_iconst dX9_sign_54 pc_i1 ?_
          refine at_cv3 cvX9_204 sd_119 (ev_X9_bad1 hR (pd_up_at) (c := 2) (y := 1) ⟨by decide, by decide⟩ (by decide)) (by decide) ⟨Nat.le_refl _, Nat.le_refl _⟩ (Nat.le_of_ble_eq_true rfl) dX9_sign_55 (pd_k1 ?_)
          refine at_ifne (tgt := 84) dX9_sign_58 (by decide) (fun c58 => ?_) (fun c58 => ?_)
          · -- taken 58
            refine at_iconst dX9_sign_84 pc_i0 ?_
            refine at_iret rfl dX9_sign_85 ?_
            first | exact m_rf 0 (by rw [k11]; rfl) rfl | exact m_rf 0 (by rw [k11, k19]; rfl) rfl | exact m_rf 1 (by rw [k11, k19, k45]; rfl) rfl | exact m_rf 2 (by rw [k11, k19, k45, decide_eq_false (by omega)]; rfl) rfl
          · -- not taken 58
            exact absurd c58 (by decide)
    · -- not taken 19
      have k19 := i_of0.mp c19
      refine at_iconst dX9_sign_22 pc_i1 ?_
      refine at_goto (tgt := 27) dX9_sign_23 (by decide) ?_
      refine at_iconst dX9_sign_27 pc_i1 ?_
      refine at_iconst dX9_sign_28 pc_i0 ?_
      refine at_cv3 cvX9_204 sd_119 (ev_X9_bad1 hR (pd_up_at) (c := 1) (y := 0) ⟨by decide, by decide⟩ (by decide)) (by decide) ⟨Nat.le_refl _, Nat.le_refl _⟩ (Nat.le_of_ble_eq_true rfl) dX9_sign_29 (pd_k1 ?_)
      refine at_ifne (tgt := 84) dX9_sign_32 (by decide) (fun c32 => ?_) (fun c32 => ?_)
      · -- taken 32
        refine at_iconst dX9_sign_84 pc_i0 ?_
        refine at_iret rfl dX9_sign_85 ?_
        first | exact m_rf 0 (by rw [k11]; rfl) rfl | exact m_rf 0 (by rw [k11, k19]; rfl) rfl | exact m_rf 1 (by rw [k11, k19, k45]; rfl) rfl | exact m_rf 2 (by rw [k11, k19, k45, decide_eq_false (by omega)]; rfl) rfl
      · -- not taken 32
        exact absurd c32 (by decide)
/-- the lines behind f moved down, as far as l; one less is said -/
def dnR (r : Nat → Int32) (nl f l : Nat) : Nat → Int32 := fun k => if k = 2 then nI (nl - 1) else if 65 + 4 * f ≤ k ∧ k < 65 + 4 * l then r (k + 4) else r k
theorem lp_X9_er (hR : RS R) {nl f : Nat} (h40 : nl ≤ 40) {x y n v : Int32} {Q : pd_O → pd_M → Prop} (K : ∀ I2, O2 I I2 → RQ I2 122 (dnR r nl f (nl - 1)) → pd_At G mi_X9_erase 8 0 0 0 0 96 [some (.ref (pd_z G + 119)), some (.int x), some (.int y), some (.int n), some (.int v), some (.int (nI (nl - 1)))] [] (SD, false, I2, L, R) Q) : ∀ (d l : Nat) (I' : Nat → Nat → Int32), l + d = nl - 1 → f ≤ l → O2 I I' → RQ I' 122 (dnR r nl f l) → pd_At G mi_X9_erase 8 0 0 0 0 71 [some (.ref (pd_z G + 119)), some (.int x), some (.int y), some (.int n), some (.int v), some (.int (nI l))] [] (SD, false, I', L, R) Q := by
  intro d
  induction d with
  | zero =>
    intro l I' hl hn h1 h2
    have e0 : l = nl - 1 := by omega
    subst e0
    refine at_iload dX9_erase_71 rfl ?_
    refine at_aload_n dX9_erase_73 rfl ?_
    refine at_cv0 cvX9_218 sd_119 (ev_X9_lines hR h2 (n := nl - 1) (if_pos rfl)) (by decide) ⟨Nat.le_refl _, Nat.le_refl _⟩ (Nat.le_of_ble_eq_true rfl) dX9_erase_74 (pd_k1 ?_)
    refine at_icmpge (tgt := 96) dX9_erase_77 (by decide) (fun c77 => ?_) (fun c77 => ?_)
    · -- taken 77
      exact K _ h1 h2
    · -- not taken 77
      exact absurd (nI_le (Nat.le_refl _) (by omega)) c77
  | succ d ih =>
    intro l I' hl hn h1 h2
    refine at_iload dX9_erase_71 rfl ?_
    refine at_aload_n dX9_erase_73 rfl ?_
    refine at_cv0 cvX9_218 sd_119 (ev_X9_lines hR h2 (n := nl - 1) (if_pos rfl)) (by decide) ⟨Nat.le_refl _, Nat.le_refl _⟩ (Nat.le_of_ble_eq_true rfl) dX9_erase_74 (pd_k1 ?_)
    refine at_icmpge (tgt := 96) dX9_erase_77 (by decide) (fun c77 => ?_) (fun c77 => ?_)
    · -- taken 77
      exact absurd c77 (nI_ge (by omega) (by omega))
    · -- not taken 77
      refine at_aload_n dX9_erase_80 rfl ?_
      refine at_iload dX9_erase_81 rfl ?_
      refine at_iconst dX9_erase_83 pc_i1 ?_
      refine at_iadd dX9_erase_84 ?_
      rw [nI_1]
      refine at_iload dX9_erase_85 rfl ?_
      refine at_cv2 cvX9_270 sd_119 (ev_X9_moves (f := l + 1) (t := l) hR (by omega) (by omega) (by omega)) (by decide) ⟨Nat.le_refl _, Nat.le_refl _⟩ (Nat.le_of_ble_eq_true rfl) dX9_erase_87 (pd_k0 ?_)
      refine at_inc dX9_erase_90 rfl pc_i1 rfl (Nat.le_of_ble_eq_true rfl) ?_
      refine at_goto (tgt := 71) dX9_erase_93 (by decide) ?_
      rw [nI_1]
      refine ih (l + 1) _ (by omega) (by omega) (fun x j hx => by rw [rgR_nb hx]; exact h1 x j hx) (fun k hk => ?_)
      unfold rgR
      by_cases hk2 : 65 + 4 * l ≤ k ∧ k < 69 + 4 * l
      · rw [if_pos ⟨rfl, hk2⟩]
        show I' 122 (65 + 4 * (l + 1) + (k - (65 + 4 * l))) = _
        rw [h2 _ (by omega)]
        unfold dnR
        rw [if_neg (by omega), if_neg (by omega), if_neg (by omega), if_pos (by omega)]
        congr 1; omega
      · rw [if_neg (by omega), h2 k hk]
        unfold dnR
        by_cases h6 : k = 2
        · rw [if_pos h6, if_pos h6]
        · rw [if_neg h6, if_neg h6]
          by_cases h5 : 65 + 4 * f ≤ k ∧ k < 65 + 4 * l
          · rw [if_pos h5, if_pos (by omega)]
          · rw [if_neg h5, if_neg (by omega)]
theorem er_fin {I : Nat → Nat → Int32} {nl f : Nat} (h40 : nl ≤ 40) (hf : f < nl) (h : RQ I 122 (dnR r nl f (nl - 1))) : RQ (rgR I (fun _ => 0) 225 305) 122 (erR r nl f) := by
  intro k hk
  by_cases h1 : 225 ≤ k ∧ k < 305
  · rw [erR_s h1.1 h1.2]; exact if_pos ⟨rfl, h1⟩
  · rw [show rgR I (fun _ => 0) 225 305 122 k = I 122 k from if_neg (by omega), h k hk]
    unfold dnR erR
    by_cases h2 : k = 2
    · rw [if_pos h2, if_pos h2]
    · rw [if_neg h2, if_neg h2, if_neg h1]
      by_cases h5 : 65 + 4 * f ≤ k ∧ k < 61 + 4 * nl
      · rw [if_pos h5, if_pos (by omega)]
      · rw [if_neg h5, if_neg (by omega)]
theorem ev_X9_erase (hR : RS R) (hq : RQ I 122 w.1) (hr : RwOk w) (hP : MP I a ps) (x y : Int32) : pd_Ev G mi_X9_erase 8 0 0 [.ref (pd_z G + 119), .int x, .int y] (SD, false, I, L, R) (m_x I L R (j1 8 (isN x w.2.2.1 && isN y (rN w.1 w.2.2.2.1 x.toNatClampNeg))) 7 (.int (rJ w.1 w.2.1 w.2.2.2.1 w.2.2.2.2 0 (rFo w.1 w.2.2.2.1 x.toNatClampNeg + y.toNatClampNeg))) (.int 0) (QA I L (erR w.1 w.2.2.2.1 (rFo w.1 w.2.2.2.1 x.toNatClampNeg + y.toNatClampNeg)) (kA a) (kP a ps w))) := by
  obtain ⟨r, nv, ns, nl, e⟩ := w
  have hr' : Row r nv ns nl e := hr
  have h8 := hr'.2.1.2
  have h40 := hr'.2.2.1.2
  show pd_Ev G mi_X9_erase 8 0 0 _ _ (m_x I L R (j1 8 (isN x ns && isN y (rN r nl x.toNatClampNeg))) 7 (.int (rJ r nv nl e 0 (rFo r nl x.toNatClampNeg + y.toNatClampNeg))) (.int 0) (QA I L (erR r nl (rFo r nl x.toNatClampNeg + y.toNatClampNeg)) (kA a) (kP a ps (r, nv, ns, nl, e))))
  replace hq : RQ I 122 r := hq
  refine pd_ev 3 (lo := [some (.ref (pd_z G + 119)), some (.int x), some (.int y), none, none, none]) (by decide +kernel) (Nat.le_of_ble_eq_true rfl) rfl ?_
  refine at_aload_n dX9_erase_0 rfl ?_
  refine at_iconst dX9_erase_1 pc_i0 ?_
  refine at_puti flX9_48 rfl sd_119 (fun _ _ _ hq => by cases hq; rfl) dX9_erase_2 ?_
  refine at_aload_n dX9_erase_5 rfl ?_
  refine at_aload_n dX9_erase_6 rfl ?_
  refine at_iload_n dX9_erase_7 rfl ?_
  refine at_iload_n dX9_erase_8 rfl ?_
  refine at_cv2 cvX9_276 sd_119 (ev_X9_isLine hR hq.up hr' x y) (by decide) ⟨Nat.le_refl _, Nat.le_refl _⟩ (Nat.le_of_ble_eq_true rfl) dX9_erase_9 (pd_k1 ?_)
  refine at_ifne (tgt := 19) dX9_erase_12 (by decide) (fun c12 => ?_) (fun c12 => ?_)
  · -- taken 12
    have k12 := i_of1.mp c12
    refine at_iconst dX9_erase_19 pc_i0 ?_
    refine at_iconst dX9_erase_20 pc_i1 ?_
    refine at_iconst dX9_erase_21 pc_i0 ?_
    refine at_cv3 cvX9_204 sd_119 (ev_X9_bad0 hR (pd_up_at) _ _) (by decide) ⟨Nat.le_refl _, Nat.le_refl _⟩ (Nat.le_of_ble_eq_true rfl) dX9_erase_22 (pd_k1 ?_)
    refine at_ifeq (tgt := 30) dX9_erase_25 (by decide) (fun c25 => ?_) (fun c25 => ?_)
    · -- taken 25
      have hj : j1 8 (isN x ns && isN y (rN r nl x.toNatClampNeg)) = 0 := by rw [k12]; rfl
      simp only [Bool.and_eq_true] at k12
      obtain ⟨s, hs, rfl⟩ := isN_of (n := ns) (by omega) k12.1
      rw [nI_clamp (n := s) (by omega)] at k12 hj ⊢
      have hrn : rN r nl s ≤ nl := fb_ct_le _ _
      obtain ⟨t, ht, rfl⟩ := isN_of (n := rN r nl s) (by omega) k12.2
      rw [nI_clamp (n := t) (by omega)]
      have hfo := rFo_succ hr' (s := s) (by omega)
      have hfl := rFo_le (r := r) (nl := nl) (s + 1)
      obtain ⟨l, hl, hll⟩ : ∃ l, l = rFo r nl s + t ∧ l < nl := ⟨_, rfl, by omega⟩
      rw [← hl]
      refine at_aload_n dX9_erase_30 rfl ?_
      refine at_cv0 cvX9_211 sd_119 (ev_X9_rem (w := (r, nv, ns, nl, e)) hR hP.up0 hq.up) (by decide) ⟨Nat.le_refl _, Nat.le_refl _⟩ (Nat.le_of_ble_eq_true rfl) dX9_erase_31 (pd_ke fun I2 L2 hj2 => ?_)
      obtain ⟨rfl, hP2, hM⟩ := hj2
      have hq2 : RQ I2 122 r := fun k hk => (hM 122 k (by omega) (by omega)).trans (hq.up k hk)
      refine at_aload_n dX9_erase_34 rfl ?_
      refine at_aload_n dX9_erase_35 rfl ?_
      refine at_getr (122) flX9_20 rfl sd_119 (rs_119_9 hR) dX9_erase_36 ?_
      refine at_iconst dX9_erase_39 pc_i0 ?_
      refine at_cv2 cvX9_255 sd_119 (ev_X9_judges (e := e) (bes := 0) hR hq2 hr' (by decide)) (by decide) ⟨Nat.le_refl _, Nat.le_refl _⟩ (Nat.le_of_ble_eq_true rfl) dX9_erase_40 (pd_ke fun I3 L3 hj3 => ?_)
      obtain ⟨rfl, hF, hJ⟩ := hj3
      have hq3 := hF.row hq2
      refine at_aload_n dX9_erase_43 rfl ?_
      refine at_iload_n dX9_erase_44 rfl ?_
      refine at_iload_n dX9_erase_45 rfl ?_
      refine at_cv2 cvX9_267 sd_119 (ev_X9_spotOf hR hq3 hr' (nI s) t) (by decide) ⟨Nat.le_refl _, Nat.le_refl _⟩ (Nat.le_of_ble_eq_true rfl) dX9_erase_46 (pd_k1 ?_)
      rw [show t + fb_ct (fun l => decide (rSh r l < nI s)) nl = l by rw [hl, Nat.add_comm]; rfl]
      refine at_istore_n dX9_erase_49 rfl (Nat.le_of_ble_eq_true rfl) ?_
      refine at_aload_n dX9_erase_50 rfl ?_
      refine at_getr (133) flX9_31 rfl sd_119 (rs_119_16 hR) dX9_erase_51 ?_
      refine at_iload_n dX9_erase_54 rfl ?_
      refine at_iald sd_133 (vp_in_nI (by omega) (by decide)) dX9_erase_55 ?_
      rw [nI_clamp (by omega), hJ.1 l hll]
      refine at_istore dX9_erase_56 rfl (Nat.le_of_ble_eq_true rfl) ?_
      refine at_aload_n dX9_erase_58 rfl ?_
      refine at_getr (122) flX9_20 rfl sd_119 (rs_119_9 hR) dX9_erase_59 ?_
      refine at_iconst dX9_erase_62 pc_i2 ?_
      refine at_dup2 dX9_erase_63 rfl rfl ?_
      refine at_iald sd_122 (vp_in_nI (n := 2) (by decide) (by decide)) dX9_erase_64 ?_
      rw [show I3 122 (2 : Int32).toNatClampNeg = nI nl from (hq3 2 (by decide)).trans hr'.2.2.1.1]
      refine at_iconst dX9_erase_65 pc_i1 ?_
      refine at_isub dX9_erase_66 ?_
      rw [show nI nl - 1 = nI (nl - 1) from pk_sub (b := 1) (by omega)]
      refine at_iast sd_122 (vp_in_nI (n := 2) (by decide) (by decide)) dX9_erase_67 ?_
      refine at_iload_n dX9_erase_68 rfl ?_
      refine at_istore dX9_erase_69 rfl (Nat.le_of_ble_eq_true rfl) ?_
      refine lp_X9_er (I := I3) (r := r) (nl := nl) (f := l) hR h40 (fun I4 hO hU => ?_) (nl - 1 - l) l _ (by omega) (Nat.le_refl _) (fun x j hx => pd_up_nb hx) (fun k hk => ?_)
      · refine at_aload_n dX9_erase_96 rfl ?_
        refine at_cv0 cvX9_273 sd_119 (ev_X9_empt hR) (by decide) ⟨Nat.le_refl _, Nat.le_refl _⟩ (Nat.le_of_ble_eq_true rfl) dX9_erase_97 (pd_k0 ?_)
        refine at_iload dX9_erase_100 rfl ?_
        refine at_iret rfl dX9_erase_102 ?_
        refine m_yes hj rfl ?_ (QA.mk' hM hP2 (fun x j h1 h2 h3 h4 h5 => ?_) (er_fin h40 hll hU))
        · rw [rgR_nb (by decide), hO 119 0 (by decide), hF 119 0 (by decide) (by decide) (by decide) (by decide), hM 119 0 (by omega) (by omega)]; exact pd_up_at
        · rw [rgR_nb h1, hO x j h1, hF x j h2 h3 h4 h5]
      · show pd_up I3 122 2 (nI (nl - 1)) 122 k = _
        unfold dnR
        by_cases h6 : k = 2
        · subst h6; rw [pd_up_at, if_pos rfl]
        · rw [pd_up_nj h6, if_neg h6, if_neg (by omega)]; exact hq3 k hk
    · -- not taken 25
      exact absurd rfl c25
  · -- not taken 12
    have k12 := i_of0.mp c12
    refine at_iconst dX9_erase_15 pc_i1 ?_
    refine at_goto (tgt := 20) dX9_erase_16 (by decide) ?_
    refine at_iconst dX9_erase_20 pc_i1 ?_
    refine at_iconst dX9_erase_21 pc_i0 ?_
    refine at_cv3 cvX9_204 sd_119 (ev_X9_bad1 hR (pd_up_at) (c := 1) (y := 0) ⟨by decide, by decide⟩ (by decide)) (by decide) ⟨Nat.le_refl _, Nat.le_refl _⟩ (Nat.le_of_ble_eq_true rfl) dX9_erase_22 (pd_k1 ?_)
    refine at_ifeq (tgt := 30) dX9_erase_25 (by decide) (fun c25 => ?_) (fun c25 => ?_)
    · -- taken 25
      exact absurd c25 (by decide)
    · -- not taken 25
      refine at_iconst dX9_erase_28 pc_i0 ?_
      refine at_iret rfl dX9_erase_29 ?_
      exact m_rf 0 (by rw [k12]; rfl) rfl
end REF10
