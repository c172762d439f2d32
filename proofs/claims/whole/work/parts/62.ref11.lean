/-! ===== the reference: samples drawn ===== -/
theorem i_es (x : Int32) : (x.toUInt32 >>> ((8 : Int32).toUInt32 &&& Int32.toUInt32 31)).toInt32 = nI (x.toBitVec.toNat / 256) := by
  have := pk_ushr x 8 8 (by decide)
  apply Int32.toBitVec_inj.mp
  apply BitVec.eq_of_toNat_eq
  rw [this, pk_tn (by have := x.toBitVec.isLt; omega)]
section REF11
variable {G : pd_G} {I : Nat → Nat → Int32} {L : Nat → Nat → Int64} {R : Nat → Nat → Option Nat} {a : Nat} {r : Nat → Int32} {ps : Nat → RW} {w : RW}
theorem spR_o {D : Nat → Bool} {v k : Nat} (h : k < 225 + 40 * v ∨ 265 + 40 * v ≤ k) : spR r v D k = r k := if_neg (by omega)
theorem lp_X9_s0 (hR : RS R) {v : Nat} (hv : v < 2) {n seed : Int32} {Q : pd_O → pd_M → Prop} (K : pd_At G mi_X9_sample 8 0 0 0 0 79 [some (.ref (pd_z G + 119)), some (.int (nI v)), some (.int n), some (.int seed), some (.int (nI 40)), none, none, none] [] (SD, false, rgR I (fun _ => 0) (225 + 40 * v) (265 + 40 * v), L, R) Q) : ∀ (k i : Nat), i + k = 40 → pd_At G mi_X9_sample 8 0 0 0 0 49 [some (.ref (pd_z G + 119)), some (.int (nI v)), some (.int n), some (.int seed), some (.int (nI i)), none, none, none] [] (SD, false, rgR I (fun _ => 0) (225 + 40 * v) (225 + 40 * v + i), L, R) Q := by
  intro k
  induction k with
  | zero =>
    intro i hi
    have e0 : i = 40 := by omega
    subst e0
    refine at_iload dX9_sample_49 rfl ?_
    refine at_bipush dX9_sample_51 pc_b40 ?_
    refine at_icmpge (tgt := 79) dX9_sample_53 (by decide) (fun c53 => ?_) (fun c53 => ?_)
    · -- taken 53
      rw [show 225 + 40 * v + 40 = 265 + 40 * v by omega]
      exact K
    · -- not taken 53
      exact absurd (nI_le (a := 40) (Nat.le_refl _) (by decide)) c53
  | succ k ih =>
    intro i hi
    have e1 : (225 : Int32) + 40 * nI v + nI i = nI (225 + 40 * v + i) := by rw [show (225 : Int32) = nI 225 from rfl, show (40 : Int32) = nI 40 from rfl, pk_mul, nI_add, nI_add]
    refine at_iload dX9_sample_49 rfl ?_
    refine at_bipush dX9_sample_51 pc_b40 ?_
    refine at_icmpge (tgt := 79) dX9_sample_53 (by decide) (fun c53 => ?_) (fun c53 => ?_)
    · -- taken 53
      exact absurd c53 (nI_ge (b := 40) (by omega) (by decide))
    · -- not taken 53
      refine at_aload_n dX9_sample_56 rfl ?_
      refine at_getr (122) flX9_20 rfl sd_119 (rs_119_9 hR) dX9_sample_57 ?_
      refine at_sipush dX9_sample_60 pc_s225 ?_
      refine at_bipush dX9_sample_63 pc_b40 ?_
      refine at_iload_n dX9_sample_65 rfl ?_
      refine at_imul dX9_sample_66 ?_
      refine at_iadd dX9_sample_67 ?_
      refine at_iload dX9_sample_68 rfl ?_
      refine at_iadd dX9_sample_70 ?_
      rw [e1]
      refine at_iconst dX9_sample_71 pc_i0 ?_
      refine at_iast sd_122 (vp_in_nI (by omega) (by decide)) dX9_sample_72 ?_
      refine at_inc dX9_sample_73 rfl pc_i1 rfl (Nat.le_of_ble_eq_true rfl) ?_
      refine at_goto (tgt := 49) dX9_sample_76 (by decide) ?_
      rw [nI_1, nI_clamp (by omega), rgR_up (f := fun _ => 0) (by omega)]
      exact ih (i + 1) (by omega)
theorem lp_X9_s1 (hR : RS R) {v : Nat} (hv : v < 2) {D : Nat → Bool} (hq : RQ I 122 (spR r v D)) {K m : Nat} (hK : K < 40) (hD : D K = false) (hm : fb_ct (fun j => !D j) K = m) {n seed x : Int32} {i : Nat} {Q : pd_O → pd_M → Prop} (k : pd_At G mi_X9_sample 8 0 0 0 0 161 [some (.ref (pd_z G + 119)), some (.int (nI v)), some (.int n), some (.int seed), some (.int x), some (.int (nI i)), some (.int (nI 0)), some (.int (nI K))] [] (SD, false, I, L, R) Q) : ∀ (d l : Nat), l + d = K → pd_At G mi_X9_sample 8 0 0 0 0 120 [some (.ref (pd_z G + 119)), some (.int (nI v)), some (.int n), some (.int seed), some (.int x), some (.int (nI i)), some (.int (nI (m - fb_ct (fun j => !D j) l))), some (.int (nI l))] [] (SD, false, I, L, R) Q := by
  have hm40 : m ≤ 40 := by rw [← hm]; exact Nat.le_trans (fb_ct_le _ _) (by omega)
  have hsm : ∀ l, l < 40 → sm (spR r v D) v l = D l := fun l hl => by rw [spR_sm hv hv hl, if_pos rfl]
  intro d
  induction d with
  | zero =>
    intro l hl
    have e0 : l = K := by omega
    subst e0
    rw [hm, Nat.sub_self]
    refine at_aload_n dX9_sample_120 rfl ?_
    refine at_iload_n dX9_sample_121 rfl ?_
    refine at_iload dX9_sample_122 rfl ?_
    refine at_cv2 cvX9_244 sd_119 (ev_X9_isIn hR hq hv (l := l) hK) (by decide) ⟨Nat.le_refl _, Nat.le_refl _⟩ (Nat.le_of_ble_eq_true rfl) dX9_sample_124 (pd_k1 ?_)
    rw [hsm l hK, hD]
    refine at_ifne (tgt := 135) dX9_sample_127 (by decide) (fun c127 => ?_) (fun c127 => ?_)
    · -- taken 127
      exact absurd rfl c127
    · -- not taken 127
      refine at_iload dX9_sample_130 rfl ?_
      refine at_ifle (tgt := 161) dX9_sample_132 (by decide) (fun c132 => ?_) (fun c132 => ?_)
      · -- taken 132
        exact k
      · -- not taken 132
        exact absurd (by decide) c132
  | succ d ih =>
    intro l hl
    have hl40 : l < 40 := by omega
    have hmono : fb_ct (fun j => !D j) (l + 1) ≤ m := by rw [← hm]; exact fb_ct_mono _ (by omega)
    cases hDl : D l with
    | true =>
      have e1 : fb_ct (fun j => !D j) (l + 1) = fb_ct (fun j => !D j) l := ct_n (by rw [hDl]; rfl)
      refine at_aload_n dX9_sample_120 rfl ?_
      refine at_iload_n dX9_sample_121 rfl ?_
      refine at_iload dX9_sample_122 rfl ?_
      refine at_cv2 cvX9_244 sd_119 (ev_X9_isIn hR hq hv (l := l) hl40) (by decide) ⟨Nat.le_refl _, Nat.le_refl _⟩ (Nat.le_of_ble_eq_true rfl) dX9_sample_124 (pd_k1 ?_)
      rw [hsm l hl40, hDl]
      refine at_ifne (tgt := 135) dX9_sample_127 (by decide) (fun c127 => ?_) (fun c127 => ?_)
      · -- taken 127
        refine at_iload dX9_sample_135 rfl ?_
        refine at_aload_n dX9_sample_137 rfl ?_
        refine at_iload_n dX9_sample_138 rfl ?_
        refine at_iload dX9_sample_139 rfl ?_
        refine at_cv2 cvX9_244 sd_119 (ev_X9_isIn hR hq hv (l := l) hl40) (by decide) ⟨Nat.le_refl _, Nat.le_refl _⟩ (Nat.le_of_ble_eq_true rfl) dX9_sample_141 (pd_k1 ?_)
        rw [hsm l hl40, hDl]
        refine at_ifeq (tgt := 151) dX9_sample_144 (by decide) (fun c144 => ?_) (fun c144 => ?_)
        · -- taken 144
          exact absurd c144 (by decide)
        · -- not taken 144
          refine at_iconst dX9_sample_147 pc_i0 ?_
          refine at_goto (tgt := 152) dX9_sample_148 (by decide) ?_
          refine at_isub dX9_sample_152 ?_
          rw [show nI (m - fb_ct (fun j => !D j) l) - 0 = nI (m - fb_ct (fun j => !D j) l) from pk_sub (b := 0) (Nat.zero_le _)]
          refine at_istore dX9_sample_153 rfl (Nat.le_of_ble_eq_true rfl) ?_
          refine at_inc dX9_sample_155 rfl pc_i1 rfl (Nat.le_of_ble_eq_true rfl) ?_
          refine at_goto (tgt := 120) dX9_sample_158 (by decide) ?_
          rw [nI_1, ← e1]
          exact ih (l + 1) (by omega)
      · -- not taken 127
        exact absurd c127 (by decide)
    | false =>
      have e1 : fb_ct (fun j => !D j) (l + 1) = fb_ct (fun j => !D j) l + 1 := by rw [fb_ct_succ, if_pos (by rw [hDl]; rfl)]
      refine at_aload_n dX9_sample_120 rfl ?_
      refine at_iload_n dX9_sample_121 rfl ?_
      refine at_iload dX9_sample_122 rfl ?_
      refine at_cv2 cvX9_244 sd_119 (ev_X9_isIn hR hq hv (l := l) hl40) (by decide) ⟨Nat.le_refl _, Nat.le_refl _⟩ (Nat.le_of_ble_eq_true rfl) dX9_sample_124 (pd_k1 ?_)
      rw [hsm l hl40, hDl]
      refine at_ifne (tgt := 135) dX9_sample_127 (by decide) (fun c127 => ?_) (fun c127 => ?_)
      · -- taken 127
        exact absurd rfl c127
      · -- not taken 127
        refine at_iload dX9_sample_130 rfl ?_
        refine at_ifle (tgt := 161) dX9_sample_132 (by decide) (fun c132 => ?_) (fun c132 => ?_)
        · -- taken 132
          exact absurd c132 (nI_nle (by omega) (by omega))
        · -- not taken 132
          refine at_iload dX9_sample_135 rfl ?_
          refine at_aload_n dX9_sample_137 rfl ?_
          refine at_iload_n dX9_sample_138 rfl ?_
          refine at_iload dX9_sample_139 rfl ?_
          refine at_cv2 cvX9_244 sd_119 (ev_X9_isIn hR hq hv (l := l) hl40) (by decide) ⟨Nat.le_refl _, Nat.le_refl _⟩ (Nat.le_of_ble_eq_true rfl) dX9_sample_141 (pd_k1 ?_)
          rw [hsm l hl40, hDl]
          refine at_ifeq (tgt := 151) dX9_sample_144 (by decide) (fun c144 => ?_) (fun c144 => ?_)
          · -- taken 144
            refine at_iconst dX9_sample_151 pc_i1 ?_
            refine at_isub dX9_sample_152 ?_
            rw [show nI (m - fb_ct (fun j => !D j) l) - 1 = nI (m - fb_ct (fun j => !D j) l - 1) from pk_sub (b := 1) (by omega), Nat.sub_sub, ← e1]
            refine at_istore dX9_sample_153 rfl (Nat.le_of_ble_eq_true rfl) ?_
            refine at_inc dX9_sample_155 rfl pc_i1 rfl (Nat.le_of_ble_eq_true rfl) ?_
            refine at_goto (tgt := 120) dX9_sample_158 (by decide) ?_
            rw [nI_1]
            exact ih (l + 1) (by omega)
          · -- not taken 144
            exact absurd rfl c144
theorem lp_X9_s2 (hR : RS R) {nl v n : Nat} (h40 : nl ≤ 40) (h2 : r 2 = nI nl) (hv : v < 2) (hn : n ≤ nl) (seed : Int32) {Q : pd_O → pd_M → Prop} (K : ∀ I2, O2 I I2 → RQ I2 122 (spR r v (drD seed nl n)) → pd_At G mi_X9_sample 8 0 0 0 0 184 [some (.ref (pd_z G + 119)), some (.int (nI v)), some (.int (nI n)), some (.int seed), some (.int (drX seed n)), some (.int (nI n)), none, none] [] (SD, false, I2, L, R) Q) : ∀ (k i : Nat) (I' : Nat → Nat → Int32), i + k = n → O2 I I' → RQ I' 122 (spR r v (drD seed nl i)) → pd_At G mi_X9_sample 8 0 0 0 0 85 [some (.ref (pd_z G + 119)), some (.int (nI v)), some (.int (nI n)), some (.int seed), some (.int (drX seed i)), some (.int (nI i)), none, none] [] (SD, false, I', L, R) Q := by
  intro k
  induction k with
  | zero =>
    intro i I' hi h1 hq
    have e0 : i = n := by omega
    subst e0
    refine at_iload dX9_sample_85 rfl ?_
    refine at_iload_n dX9_sample_87 rfl ?_
    refine at_icmpge (tgt := 184) dX9_sample_88 (by decide) (fun c88 => ?_) (fun c88 => ?_)
    · -- taken 88
      exact K _ h1 hq
    · -- not taken 88
      exact absurd (nI_le (Nat.le_refl _) (by omega)) c88
  | succ k ih =>
    intro i I' hi h1 hq
    obtain ⟨d1, d2⟩ := drD_ok seed nl i (by omega)
    have h3 := fb_ct_not (drD seed nl i) nl
    have hlt : drN seed nl i < nl - i := Nat.mod_lt _ (by omega)
    obtain ⟨k1, k2, k3⟩ := kth_at (p := fun j => !drD seed nl i j) (n := nl) (m := drN seed nl i) (by omega)
    have k2' : drD seed nl i (kth (fun j => !drD seed nl i j) nl (drN seed nl i)) = false := by simpa using k2
    have ex : ∀ x : Int32, nI (x.toBitVec.toNat / 256) - nI (x.toBitVec.toNat / 256) / nI (nl - i) * nI (nl - i) = nI (x.toBitVec.toNat / 256 % (nl - i)) := fun x => pk_rem (by have := x.toBitVec.isLt; omega) (by omega) (by omega)
    have hdr : ∀ l, drD seed nl (i + 1) l = (drD seed nl i l || decide (l = kth (fun j => !drD seed nl i j) nl (drN seed nl i))) := fun l => rfl
    obtain ⟨Z, hZ⟩ : ∃ Z, Z = kth (fun j => !drD seed nl i j) nl (drN seed nl i) := ⟨_, rfl⟩
    rw [← hZ] at k1 k2' k3
    have e1 : (225 : Int32) + 40 * nI v + nI Z = nI (225 + 40 * v + Z) := by rw [show (225 : Int32) = nI 225 from rfl, show (40 : Int32) = nI 40 from rfl, pk_mul, nI_add, nI_add]
    have go : pd_At G mi_X9_sample 8 0 0 0 0 161 [some (.ref (pd_z G + 119)), some (.int (nI v)), some (.int (nI n)), some (.int seed), some (.int (drX seed (i + 1))), some (.int (nI i)), some (.int (nI 0)), some (.int (nI Z))] [] (SD, false, I', L, R) Q := by
      refine at_aload_n dX9_sample_161 rfl ?_
      refine at_getr (122) flX9_20 rfl sd_119 (rs_119_9 hR) dX9_sample_162 ?_
      refine at_sipush dX9_sample_165 pc_s225 ?_
      refine at_bipush dX9_sample_168 pc_b40 ?_
      refine at_iload_n dX9_sample_170 rfl ?_
      refine at_imul dX9_sample_171 ?_
      refine at_iadd dX9_sample_172 ?_
      refine at_iload dX9_sample_173 rfl ?_
      refine at_iadd dX9_sample_175 ?_
      rw [e1]
      refine at_iconst dX9_sample_176 pc_i1 ?_
      refine at_iast sd_122 (vp_in_nI (by omega) (by decide)) dX9_sample_177 ?_
      refine at_inc dX9_sample_178 rfl pc_i1 rfl (Nat.le_of_ble_eq_true rfl) ?_
      refine at_goto (tgt := 85) dX9_sample_181 (by decide) ?_
      refine at_drop 6 ?_
      refine at_drop 7 ?_
      rw [nI_1, nI_clamp (by omega)]
      refine ih (i + 1) _ (by omega) (fun x j hx => by rw [pd_up_nb hx]; exact h1 x j hx) (fun k hk => ?_)
      by_cases hkz : k = 225 + 40 * v + Z
      · subst hkz
        rw [pd_up_at, spR, if_pos (by omega), hdr, show 225 + 40 * v + Z - (225 + 40 * v) = Z by omega, ← hZ, decide_eq_true rfl, Bool.or_true]; rfl
      · rw [pd_up_nj hkz, hq k hk]
        unfold spR
        by_cases hkr : 225 + 40 * v ≤ k ∧ k < 265 + 40 * v
        · rw [if_pos hkr, if_pos hkr, hdr, ← hZ, decide_eq_false (by omega), Bool.or_false]
        · rw [if_neg hkr, if_neg hkr]
    refine at_iload dX9_sample_85 rfl ?_
    refine at_iload_n dX9_sample_87 rfl ?_
    refine at_icmpge (tgt := 184) dX9_sample_88 (by decide) (fun c88 => ?_) (fun c88 => ?_)
    · -- taken 88
      exact absurd c88 (nI_ge (by omega) (by omega))
    · -- not taken 88
      refine at_ldc coX9_254 dX9_sample_91 ?_
      refine at_iload dX9_sample_93 rfl ?_
      refine at_imul dX9_sample_95 ?_
      refine at_sipush dX9_sample_96 pc_s12345 ?_
      rw [Int32.mul_comm]
      refine at_iadd dX9_sample_99 ?_
      rw [show drX seed i * 1103515245 + 12345 = drX seed (i + 1) from rfl]
      refine at_istore dX9_sample_100 rfl (Nat.le_of_ble_eq_true rfl) ?_
      refine at_iload dX9_sample_102 rfl ?_
      refine at_bipush dX9_sample_104 pc_b8 ?_
      refine at_iushr dX9_sample_106 ?_
      rw [i_es]
      refine at_aload_n dX9_sample_107 rfl ?_
      refine at_cv0 cvX9_218 sd_119 (ev_X9_lines hR hq (n := nl) ((spR_o (by omega)).trans h2)) (by decide) ⟨Nat.le_refl _, Nat.le_refl _⟩ (Nat.le_of_ble_eq_true rfl) dX9_sample_108 (pd_k1 ?_)
      refine at_iload dX9_sample_111 rfl ?_
      refine at_isub dX9_sample_113 ?_
      rw [pk_sub (by omega)]
      refine at_irem dX9_sample_114 (nI_ne0 (by omega) (by omega)) ?_
      rw [ex, show (drX seed (i + 1)).toBitVec.toNat / 256 % (nl - i) = drN seed nl i from rfl]
      refine at_istore dX9_sample_115 rfl (Nat.le_of_ble_eq_true rfl) ?_
      refine at_iconst dX9_sample_117 pc_i0 ?_
      refine at_istore dX9_sample_118 rfl (Nat.le_of_ble_eq_true rfl) ?_
      have h9 := lp_X9_s1 hR hv hq (K := Z) (m := drN seed nl i) (by omega) k2' k3 go Z 0 (by omega)
      rw [show fb_ct (fun j => !drD seed nl i j) 0 = 0 from rfl, Nat.sub_zero] at h9
      exact h9
theorem ev_X9_sample (hR : RS R) (hq : RQ I 122 w.1) (hr : RwOk w) (hP : MP I a ps) (x y seed : Int32) : pd_Ev G mi_X9_sample 8 0 0 [.ref (pd_z G + 119), .int x, .int y, .int seed] (SD, false, I, L, R) (m_x I L R (j1 9 (inR x 0 1 && inR y 1 (nI w.2.2.2.1))) 8 (.int (nI (fb_ct (fun l => drD seed w.2.2.2.1 y.toNatClampNeg l && rOk w.1 w.2.1 w.2.2.2.1 w.2.2.2.2 0 l) w.2.2.2.1))) (.int 0) (QA I L (spR w.1 x.toNatClampNeg (drD seed w.2.2.2.1 y.toNatClampNeg)) (kA a) (kP a ps w))) := by
  obtain ⟨r, nv, ns, nl, e⟩ := w
  have hr' : Row r nv ns nl e := hr
  have h40 := hr'.2.2.1.2
  show pd_Ev G mi_X9_sample 8 0 0 _ _ (m_x I L R (j1 9 (inR x 0 1 && inR y 1 (nI nl))) 8 (.int (nI (fb_ct (fun l => drD seed nl y.toNatClampNeg l && rOk r nv nl e 0 l) nl))) (.int 0) (QA I L (spR r x.toNatClampNeg (drD seed nl y.toNatClampNeg)) (kA a) (kP a ps (r, nv, ns, nl, e))))
  replace hq : RQ I 122 r := hq
  have go : ∀ v n, v < 2 → n ≤ nl → j1 9 (inR (nI v) 0 1 && inR (nI n) 1 (nI nl)) = 0 → pd_At G mi_X9_sample 8 0 0 0 0 42 [some (.ref (pd_z G + 119)), some (.int (nI v)), some (.int (nI n)), some (.int seed), none, none, none, none] [] (SD, false, pd_up I 119 0 0, L, R) (m_x I L R (j1 9 (inR (nI v) 0 1 && inR (nI n) 1 (nI nl))) 8 (.int (nI (fb_ct (fun l => drD seed nl n l && rOk r nv nl e 0 l) nl))) (.int 0) (QA I L (spR r v (drD seed nl n)) (kA a) (kP a ps (r, nv, ns, nl, e)))) := by
    intro v n hv hn hj
    have hrow : Row (spR r v (drD seed nl n)) nv ns nl e := spR_row hr' hv (drD_ok seed nl n hn).2
    have last : ∀ (I2 I3 : Nat → Nat → Int32), RM9 I I2 → MP I2 (kA a) (kP a ps (r, nv, ns, nl, e)) → O2 I2 I3 → RQ I3 122 (spR r v (drD seed nl n)) → pd_At G mi_X9_sample 8 0 0 0 0 184 [some (.ref (pd_z G + 119)), some (.int (nI v)), some (.int (nI n)), some (.int seed), some (.int (drX seed n)), some (.int (nI n)), none, none] [] (SD, false, I3, L, R) (m_x I L R (j1 9 (inR (nI v) 0 1 && inR (nI n) 1 (nI nl))) 8 (.int (nI (fb_ct (fun l => drD seed nl n l && rOk r nv nl e 0 l) nl))) (.int 0) (QA I L (spR r v (drD seed nl n)) (kA a) (kP a ps (r, nv, ns, nl, e)))) := by
      intro I2 I3 hM hP2 hO hU
      have eg : smG (spR r v (drD seed nl n)) nv nl e v = fb_ct (fun l => drD seed nl n l && rOk r nv nl e 0 l) nl := fb_ct_cong (fun l hl => by
        rw [spR_sm hv hv (by omega), if_pos rfl, cg_Ok hr' (fun k hk => spR_o (by omega)) 0 hl])
      refine at_aload_n dX9_sample_184 rfl ?_
      refine at_aload_n dX9_sample_185 rfl ?_
      refine at_getr (122) flX9_20 rfl sd_119 (rs_119_9 hR) dX9_sample_186 ?_
      refine at_iconst dX9_sample_189 pc_i0 ?_
      refine at_cv2 cvX9_255 sd_119 (ev_X9_judges (e := e) (bes := 0) hR hU hrow (by decide)) (by decide) ⟨Nat.le_refl _, Nat.le_refl _⟩ (Nat.le_of_ble_eq_true rfl) dX9_sample_190 (pd_ke fun I4 L4 hj4 => ?_)
      obtain ⟨rfl, hF, hJ⟩ := hj4
      refine at_aload_n dX9_sample_193 rfl ?_
      refine at_iload_n dX9_sample_194 rfl ?_
      refine at_cv1 cvX9_259 sd_119 (ev_X9_goodIn hR (hF.row hU) hrow hJ.1 hv) (by decide) ⟨Nat.le_refl _, Nat.le_refl _⟩ (Nat.le_of_ble_eq_true rfl) dX9_sample_195 (pd_k1 ?_)
      refine at_iret rfl dX9_sample_198 ?_
      refine m_yes hj (by rw [eg]) ?_ (QA.mk' hM hP2 (fun x j h1 h2 h3 h4 h5 => ?_) (hF.row hU))
      · rw [hF 119 0 (by decide) (by decide) (by decide) (by decide), hO 119 0 (by decide), hM 119 0 (by omega) (by omega)]; exact pd_up_at
      · rw [hF x j h2 h3 h4 h5]; exact hO x j h1
    refine at_aload_n dX9_sample_42 rfl ?_
    refine at_cv0 cvX9_211 sd_119 (ev_X9_rem (w := (r, nv, ns, nl, e)) hR hP.up0 hq.up) (by decide) ⟨Nat.le_refl _, Nat.le_refl _⟩ (Nat.le_of_ble_eq_true rfl) dX9_sample_43 (pd_ke fun I2 L2 hj2 => ?_)
    obtain ⟨rfl, hP2, hM⟩ := hj2
    have hq2 : RQ I2 122 r := fun k hk => (hM 122 k (by omega) (by omega)).trans (hq.up k hk)
    refine at_iconst dX9_sample_46 pc_i0 ?_
    refine at_istore dX9_sample_47 rfl (Nat.le_of_ble_eq_true rfl) ?_
    have h9 := lp_X9_s0 (G := G) (I := I2) (L := L2) (n := nI n) (seed := seed) (Q := m_x I L2 R (j1 9 (inR (nI v) 0 1 && inR (nI n) 1 (nI nl))) 8 (.int (nI (fb_ct (fun l => drD seed nl n l && rOk r nv nl e 0 l) nl))) (.int 0) (QA I L2 (spR r v (drD seed nl n)) (kA a) (kP a ps (r, nv, ns, nl, e)))) hR hv ?_ 40 0 (by omega)
    · rw [show 225 + 40 * v + 0 = 225 + 40 * v from rfl, rgR_0] at h9
      exact h9
    · refine at_iload_n dX9_sample_79 rfl ?_
      refine at_istore dX9_sample_80 rfl (Nat.le_of_ble_eq_true rfl) ?_
      refine at_iconst dX9_sample_82 pc_i0 ?_
      refine at_istore dX9_sample_83 rfl (Nat.le_of_ble_eq_true rfl) ?_
      refine lp_X9_s2 (I := I2) hR h40 hr'.2.2.1.1 hv hn seed (fun I3 hO hU => last I2 I3 hM hP2 hO hU) n 0 _ (by omega) (fun x j hx => rgR_nb hx) (fun k hk => ?_)
      unfold rgR spR
      by_cases hkr : 225 + 40 * v ≤ k ∧ k < 265 + 40 * v
      · rw [if_pos ⟨rfl, hkr⟩, if_pos hkr]; rfl
      · rw [if_neg (by omega), if_neg hkr]; exact hq2 k hk
  refine pd_ev 4 (lo := [some (.ref (pd_z G + 119)), some (.int x), some (.int y), some (.int seed), none, none, none, none]) (by decide +kernel) (Nat.le_of_ble_eq_true rfl) rfl ?_
  refine at_aload_n dX9_sample_0 rfl ?_
  refine at_iconst dX9_sample_1 pc_i0 ?_
  refine at_puti flX9_48 rfl sd_119 (fun _ _ _ hq => by cases hq; rfl) dX9_sample_2 ?_
  refine at_aload_n dX9_sample_5 rfl ?_
  refine at_iload_n dX9_sample_6 rfl ?_
  refine at_cs1 csX9_251 (ev_X9_isSample x) (by decide) ⟨Nat.le_refl _, Nat.le_refl _⟩ (Nat.le_of_ble_eq_true rfl) dX9_sample_7 (pd_k1 ?_)
  refine at_ifeq (tgt := 27) dX9_sample_10 (by decide) (fun c10 => ?_) (fun c10 => ?_)
  · -- taken 10
    have k10 := i_of0.mp c10
    refine at_iconst dX9_sample_27 pc_i1 ?_
    refine at_goto (tgt := 32) dX9_sample_28 (by decide) ?_
    refine at_iconst dX9_sample_32 pc_i1 ?_
    refine at_iconst dX9_sample_33 pc_i1 ?_
    refine at_cv3 cvX9_204 sd_119 (ev_X9_bad1 hR (pd_up_at) (c := 1) (y := 1) ⟨by decide, by decide⟩ (by decide)) (by decide) ⟨Nat.le_refl _, Nat.le_refl _⟩ (Nat.le_of_ble_eq_true rfl) dX9_sample_34 (pd_k1 ?_)
    refine at_ifeq (tgt := 42) dX9_sample_37 (by decide) (fun c37 => ?_) (fun c37 => ?_)
    · -- taken 37
      exact absurd c37 (by decide)
    · -- not taken 37
      refine at_iconst dX9_sample_40 pc_i0 ?_
      refine at_iret rfl dX9_sample_41 ?_
      first | exact m_rf 1 (by rw [k10]; rfl) rfl | exact m_rf 1 (by rw [k24, Bool.and_false]; rfl) rfl
  · -- not taken 10
    have k10 := i_of1.mp c10
    refine at_iload_n dX9_sample_13 rfl ?_
    refine at_i2l dX9_sample_14 ?_
    refine at_lconst dX9_sample_15 pc_l1 ?_
    refine at_aload_n dX9_sample_16 rfl ?_
    refine at_cv0 cvX9_218 sd_119 (ev_X9_lines hR hq.up hr'.2.2.1.1) (by decide) ⟨Nat.le_refl _, Nat.le_refl _⟩ (Nat.le_of_ble_eq_true rfl) dX9_sample_17 (pd_k1 ?_)
    refine at_i2l dX9_sample_20 ?_
    refine at_cs3 csX9_107 (ev_X9_in _ _ _) (by decide) ⟨Nat.le_refl _, Nat.le_refl _⟩ (Nat.le_of_ble_eq_true rfl) dX9_sample_21 (pd_k1 ?_)
    rw [inL_c y 1 (nI nl) (by decide) rfl]
    refine at_ifne (tgt := 31) dX9_sample_24 (by decide) (fun c24 => ?_) (fun c24 => ?_)
    · -- taken 24
      have k24 := i_of1.mp c24
      refine at_iconst dX9_sample_31 pc_i0 ?_
      refine at_iconst dX9_sample_32 pc_i1 ?_
      refine at_iconst dX9_sample_33 pc_i1 ?_
      refine at_cv3 cvX9_204 sd_119 (ev_X9_bad0 hR (pd_up_at) _ _) (by decide) ⟨Nat.le_refl _, Nat.le_refl _⟩ (Nat.le_of_ble_eq_true rfl) dX9_sample_34 (pd_k1 ?_)
      refine at_ifeq (tgt := 42) dX9_sample_37 (by decide) (fun c37 => ?_) (fun c37 => ?_)
      · -- taken 37
        obtain ⟨v, hv, rfl⟩ := inR_of (n := 1) (by decide) k10
        obtain ⟨n, hn1, hn, rfl⟩ := inR_of1 (n := nl) (by omega) k24
        have hj : j1 9 (inR (nI v) 0 1 && inR (nI n) 1 (nI nl)) = 0 := by rw [k10, k24]; rfl
        rw [nI_clamp (n := v) (by omega), nI_clamp (n := n) (by omega)]
        exact go v n (by omega) hn hj
      · -- not taken 37
        exact absurd rfl c37
    · -- not taken 24
      have k24 := i_of0.mp c24
      refine at_iconst dX9_sample_27 pc_i1 ?_
      refine at_goto (tgt := 32) dX9_sample_28 (by decide) ?_
      refine at_iconst dX9_sample_32 pc_i1 ?_
      refine at_iconst dX9_sample_33 pc_i1 ?_
      refine at_cv3 cvX9_204 sd_119 (ev_X9_bad1 hR (pd_up_at) (c := 1) (y := 1) ⟨by decide, by decide⟩ (by decide)) (by decide) ⟨Nat.le_refl _, Nat.le_refl _⟩ (Nat.le_of_ble_eq_true rfl) dX9_sample_34 (pd_k1 ?_)
      refine at_ifeq (tgt := 42) dX9_sample_37 (by decide) (fun c37 => ?_) (fun c37 => ?_)
      · -- taken 37
        exact absurd c37 (by decide)
      · -- not taken 37
        refine at_iconst dX9_sample_40 pc_i0 ?_
        refine at_iret rfl dX9_sample_41 ?_
        first | exact m_rf 1 (by rw [k10]; rfl) rfl | exact m_rf 1 (by rw [k24, Bool.and_false]; rfl) rfl
end REF11
