/-! ===== the reference reads: parts, chains, choices ===== -/
section PAR5
variable {G : pd_G} {L : Nat → Nat → Int64} {R : Nat → Nat → Option Nat} {B : Nat → Nat} {n : Nat} {r : Nat → Int32}
theorem le_700 {N i l k : Nat} (hT : TOK (tT B n) N) (hn : n ≤ 600) (h : 5 * l ≤ 6 * tq B n i + k) (hk : k ≤ 20) : l < 780 := by
  have := tq_le (B := B) (n := n) i
  omega
/-- all ways of reading at once, by how long it takes -/
def RZ (G : pd_G) (L : Nat → Nat → Int64) (R : Nat → Nat → Option Nat) (B : Nat → Nat) (n : Nat) (r : Nat → Int32) (m d : Nat) (I : Nat → Nat → Int32) (res : (Nat × List rl_S) ⊕ (Nat × Nat)) : Prop :=
  (m = 0 → pd_Ev G mi_X9_part (10 + 3 * (4 - d)) 0 0 [.ref (pd_z G + 119)] (SD, false, I, L, R) (pd_re R (QZ I L B n r d res))) ∧
  (m = 1 → pd_Ev G mi_X9_all (11 + 3 * (4 - d)) 0 0 [.ref (pd_z G + 119)] (SD, false, I, L, R) (pd_re R (QZ I L B n r d res))) ∧
  (m = 2 → pd_Ev G mi_X9_any (12 + 3 * (4 - d)) 0 0 [.ref (pd_z G + 119)] (SD, false, I, L, R) (pd_re R (QZ I L B n r d res))) ∧
  (m = 3 → pd_At G mi_X9_all (11 + 3 * (4 - d)) 0 0 0 0 4 [some (.ref (pd_z G + 119))] [] (SD, false, I, L, R) (pd_re R (QZ I L B n r d res))) ∧
  (m = 4 → pd_At G mi_X9_any (12 + 3 * (4 - d)) 0 0 0 0 4 [some (.ref (pd_z G + 119))] [] (SD, false, I, L, R) (pd_re R (QZ I L B n r d res)))
theorem allF4 (hR : RS R) {I I' : Nat → Nat → Int32} {d h : Nat} (hh : 7 ≤ h) {z : Nat × Nat} (hF : FP I I') (hZ : FZ I' B n 3 z) : pd_At G mi_X9_all h 0 0 0 0 4 [some (.ref (pd_z G + 119))] [] (SD, false, I', L, R) (pd_re R (QZ I L B n r d (.inr z))) := by
  refine at_aload_n dX9_all_4 rfl ?_
  refine at_ldcS sw9_and rfl dX9_all_5 (fun hS5 => ?_)
  refine at_cv1 cvX9_150 sd_119 (ev_X9_takesF hR hZ.nf) (by omega) ⟨Nat.le_refl _, Nat.le_refl _⟩ (Nat.le_of_ble_eq_true rfl) dX9_all_7 (pd_k1 ?_)
  refine at_ifeq (tgt := 26) dX9_all_10 (by decide) (fun c10 => ?_) (fun c10 => ?_)
  · -- taken 10
    refine at_vret rfl dX9_all_26 ?_
    exact ⟨rfl, _, _, rfl, rfl, hF, hZ⟩
  · -- not taken 10
    exact absurd rfl c10
theorem anyF4 (hR : RS R) {I I' : Nat → Nat → Int32} {d h : Nat} (hh : 7 ≤ h) {z : Nat × Nat} (hF : FP I I') (hZ : FZ I' B n 3 z) : pd_At G mi_X9_any h 0 0 0 0 4 [some (.ref (pd_z G + 119))] [] (SD, false, I', L, R) (pd_re R (QZ I L B n r d (.inr z))) := by
  refine at_aload_n dX9_any_4 rfl ?_
  refine at_ldcS sw9_or rfl dX9_any_5 (fun hS5 => ?_)
  refine at_cv1 cvX9_150 sd_119 (ev_X9_takesF hR hZ.nf) (by omega) ⟨Nat.le_refl _, Nat.le_refl _⟩ (Nat.le_of_ble_eq_true rfl) dX9_any_7 (pd_k1 ?_)
  refine at_ifeq (tgt := 26) dX9_any_10 (by decide) (fun c10 => ?_) (fun c10 => ?_)
  · -- taken 10
    refine at_vret rfl dX9_any_26 ?_
    exact ⟨rfl, _, _, rfl, rfl, hF, hZ⟩
  · -- not taken 10
    exact absurd rfl c10
theorem rz (hR : RS R) {N : Nat} (hT : TOK (tT B n) N) (hn : n ≤ 600) : ∀ (f m d i : Nat) (e : List rl_S) (I : Nat → Nat → Int32) (res : (Nat × List rl_S) ⊕ (Nat × Nat)), m ≤ 4 → d ≤ 4 → i ≤ N → GZ I B n r (rl_ks e) d i → 5 * (rl_ks e).length ≤ 6 * tq B n i + (if m < 3 then 0 else 7) → pP (tT B n) f m d i e = some res → RZ G L R B n r m d I res := by
  intro f
  induction f with
  | zero => intro m d i e I res _ _ _ _ _ h; cases h
  | succ f ih =>
    intro m d i e I res hm hd hi hZ hB h
    have hpl : ∀ j, (tT B n).2.2.2 j = tq B n j := fun _ => rfl
    have hkd : ∀ j, (tT B n).1 j = tkK B n (tq B n j) := fun _ => rfl
    have okp : ∀ {m2 d2 i2 : Nat} {e2 : List rl_S} {i' : Nat} {e' : List rl_S}, m2 < 3 → d2 ≤ 4 → i2 ≤ N → 5 * (rl_ks e2).length ≤ 6 * tq B n i2 → pP (tT B n) f m2 d2 i2 e2 = some (.inl (i', e')) → i' ≤ N ∧ 5 * (rl_ks e').length ≤ 6 * tq B n i' + 7 := by
      intro m2 d2 i2 e2 i' e' a1 a2 a3 a4 a5
      obtain ⟨b1, b2, b3, b4, e3, rfl, b5, b6, b7⟩ := pP_ok hT f m2 d2 i2 e2 i' e' (by omega) a2 a3 a5
      rw [if_pos a1, hpl, hpl] at b6
      rw [rl_ks_app, List.length_append]
      exact ⟨b2, by omega⟩
    rw [pP] at h
    by_cases h0 : m = 0
    · subst h0
      simp only [if_true] at h
      rw [if_pos (by decide), Nat.add_zero] at hB
      refine ⟨fun _ => ?_, fun q => absurd q (by decide), fun q => absurd q (by decide), fun q => absurd q (by decide), fun q => absurd q (by decide)⟩
      by_cases h11 : tkK B n (tq B n i) = 11
      · rw [if_pos (show (tT B n).1 i = 11 from h11)] at h
        have hlt := hT.lt hi (show (tT B n).1 i ≠ 0 from by rw [hkd, h11]; decide)
        have hq3 := hT.2.2.2.2.2 i hlt (Or.inr h11)
        rw [hpl, hpl] at hq3
        have hE : tq B n i + 3 = tkE B n (tq B n i) := by
          have : isW B n (tq B n i) (wds.getD 10 []) = true := by rw [kw_iff (by decide), h11]; rfl
          rw [(isW_L (wds_WL 10 (by decide)) this).2.2]; rfl
        have g2 : GZ (pd_up (pd_up I 119 4 (nI (tq B n i))) 119 4 (nI (tq B n i + 3))) B n r (rl_ks e) d (i + 1) := hZ.here.next hE
        by_cases h4 : 4 ≤ d
        · rw [if_pos h4] at h
          cases h
          have hd4 : d = 4 := by omega
          have ho : pd_up I 119 4 (nI (tq B n i)) 119 14 = 4 := by rw [pd_up_nj (by decide), hZ.2.2.2.1, hd4]; rfl
          have hw := hZ.wr (p := tq B n i) (c := 5) (q := tq B n i) (tq_le i) (by decide)
          have hw3 : FZ (pd_up (pd_up (pd_up (pd_up I 119 4 (nI (tq B n i))) 119 6 (nI 5)) 119 7 (nI (tq B n i))) 119 4 (nI (tq B n i + 3))) B n 3 (5, tq B n i) := hw.at (by have := tq_le (B := B) (n := n) i; omega)
          refine pd_ev 2 (lo := [some (.ref (pd_z G + 119)), none, none]) (by decide +kernel) (Nat.le_of_ble_eq_true rfl) rfl ?_
          refine at_aload_n dX9_part_0 rfl ?_
          refine at_cv0 cvX9_87 sd_119 (ev_X9_fine) (by omega) ⟨Nat.le_refl _, Nat.le_refl _⟩ (Nat.le_of_ble_eq_true rfl) dX9_part_1 (pd_k1 ?_)
          rw [decide_eq_true hZ.2.2.1]
          refine at_ifne (tgt := 8) dX9_part_4 (by decide) (fun c4 => ?_) (fun c4 => ?_)
          · -- taken 4
            refine at_aload_n dX9_part_8 rfl ?_
            refine at_ldcS sw9_not rfl dX9_part_9 (fun hS9 => ?_)
            refine at_cv1 cvX9_91 sd_119 (ev_gz_isWord (c := 10) hR hZ (by decide) hS9) (by omega) ⟨Nat.le_refl _, Nat.le_refl _⟩ (Nat.le_of_ble_eq_true rfl) dX9_part_11 (pd_k1 ?_)
            rw [decide_eq_true h11]
            refine at_istore_n dX9_part_14 rfl (Nat.le_of_ble_eq_true rfl) ?_
            refine at_iload_n dX9_part_15 rfl ?_
            refine at_ifne (tgt := 107) dX9_part_16 (by decide) (fun c16 => ?_) (fun c16 => ?_)
            · -- taken 16
              refine at_aload_n dX9_part_107 rfl ?_
              refine at_geti flX9_158 rfl sd_119 dX9_part_108 ?_
              refine at_iconst dX9_part_111 pc_i4 ?_
              rw [ho]
              refine at_icmpne (tgt := 124) dX9_part_112 (by decide) (fun c112 => ?_) (fun c112 => ?_)
              · -- taken 112
                exact absurd rfl c112
              · -- not taken 112
                refine at_aload_n dX9_part_115 rfl ?_
                refine at_iconst dX9_part_116 pc_i5 ?_
                refine at_aload_n dX9_part_117 rfl ?_
                refine at_geti flX9_57 rfl sd_119 dX9_part_118 ?_
                rw [pd_up_at]
                refine at_cv2 cvX9_95 sd_119 (ev_X9_wrong0 (by rw [pd_up_nj (by decide)]; exact hZ.2.2.1) _ _) (by omega) ⟨Nat.le_refl _, Nat.le_refl _⟩ (Nat.le_of_ble_eq_true rfl) dX9_part_121 (pd_k0 ?_)
                refine at_aload_n dX9_part_124 rfl ?_
                refine at_dup dX9_part_125 rfl ?_
                refine at_geti flX9_57 rfl sd_119 dX9_part_126 ?_
                rw [pd_up_nj (by decide), pd_up_nj (by decide), pd_up_at]
                refine at_iload_n dX9_part_129 rfl ?_
                refine at_ifeq (tgt := 137) dX9_part_130 (by decide) (fun c130 => ?_) (fun c130 => ?_)
                · -- taken 130
                  exact absurd c130 (by decide)
                · -- not taken 130
                  refine at_iconst dX9_part_133 pc_i3 ?_
                  refine at_goto (tgt := 138) dX9_part_134 (by decide) ?_
                  refine at_iadd dX9_part_138 ?_
                  rw [show nI (tq B n i) + 3 = nI (tq B n i + 3) from nI_add _ 3]
                  refine at_puti flX9_57 rfl sd_119 (fun _ _ _ hq => by cases hq; rfl) dX9_part_139 ?_
                  refine at_aload_n dX9_part_142 rfl ?_
                  refine at_dup dX9_part_143 rfl ?_
                  refine at_geti flX9_158 rfl sd_119 dX9_part_144 ?_
                  refine at_iconst dX9_part_147 pc_i1 ?_
                  refine at_iadd dX9_part_148 ?_
                  refine at_puti flX9_158 rfl sd_119 (fun _ _ _ hq => by cases hq; rfl) dX9_part_149 ?_
                  refine at_iload_n dX9_part_152 rfl ?_
                  refine at_ifeq (tgt := 169) dX9_part_153 (by decide) (fun c153 => ?_) (fun c153 => ?_)
                  · -- taken 153
                    exact absurd c153 (by decide)
                  · -- not taken 153
                    refine at_aload_n dX9_part_156 rfl ?_
                    refine at_cv0 cvX9_161 sd_119 (ev_X9_partF hR hw3.op.nf) (by omega) ⟨Nat.le_refl _, Nat.le_refl _⟩ (Nat.le_of_ble_eq_true rfl) dX9_part_157 (pd_k0 ?_)
                    refine at_aload_n dX9_part_160 rfl ?_
                    refine at_bipush dX9_part_161 pc_b11 ?_
                    refine at_cv1 cvX9_142 sd_119 (ev_X9_tellsF hR hw3.op.nf _) (by omega) ⟨Nat.le_refl _, Nat.le_refl _⟩ (Nat.le_of_ble_eq_true rfl) dX9_part_163 (pd_k0 ?_)
                    refine at_goto (tgt := 179) dX9_part_166 (by decide) ?_
                    refine at_aload_n dX9_part_179 rfl ?_
                    refine at_dup dX9_part_180 rfl ?_
                    refine at_geti flX9_158 rfl sd_119 dX9_part_181 ?_
                    refine at_iconst dX9_part_184 pc_i1 ?_
                    refine at_isub dX9_part_185 ?_
                    refine at_puti flX9_158 rfl sd_119 (fun _ _ _ hq => by cases hq; rfl) dX9_part_186 ?_
                    refine at_vret rfl dX9_part_189 ?_
                    exact ⟨rfl, _, _, rfl, rfl, ((((((FP.rf.up (by decide)).up (by decide)).up (by decide)).up (by decide)).up (by decide)).up (by decide)), hw3.op.op⟩
            · -- not taken 16
              exact absurd c16 (by decide)
          · -- not taken 4
            exact absurd c4 (by decide)
        · rw [if_neg h4] at h
          have hdd : d + 1 ≤ 4 := by omega
          have ho : pd_up I 119 4 (nI (tq B n i)) 119 14 = nI d := by rw [pd_up_nj (by decide)]; exact hZ.2.2.2.1
          have hon : ¬ nI d = 4 := fun q => by have := (nI_eq (b := 4) (by omega) (by decide)).mp q; omega
          have ho2 : pd_up (pd_up I 119 4 (nI (tq B n i))) 119 4 (nI (tq B n i + 3)) 119 14 = nI d := by rw [pd_up_nj (by decide)]; exact ho
          have hF0 : FP I (pd_up (pd_up (pd_up I 119 4 (nI (tq B n i))) 119 4 (nI (tq B n i + 3))) 119 14 (nI (d + 1))) := ((FP.rf.up (by decide)).up (by decide)).up (by decide)
          cases hx : pP (tT B n) f 0 (d + 1) (i + 1) e with
          | none => rw [hx] at h; cases h
          | some y =>
            rw [hx] at h
            have hrec := (ih 0 (d + 1) (i + 1) e _ y (by omega) hdd (by omega) g2.op (by rw [if_pos (by decide), Nat.add_zero]; omega) hx).1 rfl
            cases y with
            | inr z =>
              cases h
              refine pd_ev 2 (lo := [some (.ref (pd_z G + 119)), none, none]) (by decide +kernel) (Nat.le_of_ble_eq_true rfl) rfl ?_
              refine at_aload_n dX9_part_0 rfl ?_
              refine at_cv0 cvX9_87 sd_119 (ev_X9_fine) (by omega) ⟨Nat.le_refl _, Nat.le_refl _⟩ (Nat.le_of_ble_eq_true rfl) dX9_part_1 (pd_k1 ?_)
              rw [decide_eq_true hZ.2.2.1]
              refine at_ifne (tgt := 8) dX9_part_4 (by decide) (fun c4 => ?_) (fun c4 => ?_)
              · -- taken 4
                refine at_aload_n dX9_part_8 rfl ?_
                refine at_ldcS sw9_not rfl dX9_part_9 (fun hS9 => ?_)
                refine at_cv1 cvX9_91 sd_119 (ev_gz_isWord (c := 10) hR hZ (by decide) hS9) (by omega) ⟨Nat.le_refl _, Nat.le_refl _⟩ (Nat.le_of_ble_eq_true rfl) dX9_part_11 (pd_k1 ?_)
                rw [decide_eq_true h11]
                refine at_istore_n dX9_part_14 rfl (Nat.le_of_ble_eq_true rfl) ?_
                refine at_iload_n dX9_part_15 rfl ?_
                refine at_ifne (tgt := 107) dX9_part_16 (by decide) (fun c16 => ?_) (fun c16 => ?_)
                · -- taken 16
                  refine at_aload_n dX9_part_107 rfl ?_
                  refine at_geti flX9_158 rfl sd_119 dX9_part_108 ?_
                  refine at_iconst dX9_part_111 pc_i4 ?_
                  rw [ho]
                  refine at_icmpne (tgt := 124) dX9_part_112 (by decide) (fun c112 => ?_) (fun c112 => ?_)
                  · -- taken 112
                    refine at_aload_n dX9_part_124 rfl ?_
                    refine at_dup dX9_part_125 rfl ?_
                    refine at_geti flX9_57 rfl sd_119 dX9_part_126 ?_
                    rw [pd_up_at]
                    refine at_iload_n dX9_part_129 rfl ?_
                    refine at_ifeq (tgt := 137) dX9_part_130 (by decide) (fun c130 => ?_) (fun c130 => ?_)
                    · -- taken 130
                      exact absurd c130 (by decide)
                    · -- not taken 130
                      refine at_iconst dX9_part_133 pc_i3 ?_
                      refine at_goto (tgt := 138) dX9_part_134 (by decide) ?_
                      refine at_iadd dX9_part_138 ?_
                      rw [show nI (tq B n i) + 3 = nI (tq B n i + 3) from nI_add _ 3]
                      refine at_puti flX9_57 rfl sd_119 (fun _ _ _ hq => by cases hq; rfl) dX9_part_139 ?_
                      refine at_aload_n dX9_part_142 rfl ?_
                      refine at_dup dX9_part_143 rfl ?_
                      refine at_geti flX9_158 rfl sd_119 dX9_part_144 ?_
                      rw [ho2]
                      refine at_iconst dX9_part_147 pc_i1 ?_
                      refine at_iadd dX9_part_148 ?_
                      rw [nI_1]
                      refine at_puti flX9_158 rfl sd_119 (fun _ _ _ hq => by cases hq; rfl) dX9_part_149 ?_
                      refine at_iload_n dX9_part_152 rfl ?_
                      refine at_ifeq (tgt := 169) dX9_part_153 (by decide) (fun c153 => ?_) (fun c153 => ?_)
                      · -- taken 153
                        exact absurd c153 (by decide)
                      · -- not taken 153
                        refine at_aload_n dX9_part_156 rfl ?_
                        refine at_cv0 cvX9_161 sd_119 (hrec) (by omega) ⟨Nat.le_refl _, Nat.le_refl _⟩ (Nat.le_of_ble_eq_true rfl) dX9_part_157 (pd_ke fun I2 L2 hq => ?_)
                        obtain ⟨rfl, hF2, hZ2⟩ := hq
                        replace hZ2 : FZ I2 B n 3 z := hZ2
                        refine at_aload_n dX9_part_160 rfl ?_
                        refine at_bipush dX9_part_161 pc_b11 ?_
                        refine at_cv1 cvX9_142 sd_119 (ev_X9_tellsF hR hZ2.nf _) (by omega) ⟨Nat.le_refl _, Nat.le_refl _⟩ (Nat.le_of_ble_eq_true rfl) dX9_part_163 (pd_k0 ?_)
                        refine at_goto (tgt := 179) dX9_part_166 (by decide) ?_
                        refine at_aload_n dX9_part_179 rfl ?_
                        refine at_dup dX9_part_180 rfl ?_
                        refine at_geti flX9_158 rfl sd_119 dX9_part_181 ?_
                        refine at_iconst dX9_part_184 pc_i1 ?_
                        refine at_isub dX9_part_185 ?_
                        refine at_puti flX9_158 rfl sd_119 (fun _ _ _ hq => by cases hq; rfl) dX9_part_186 ?_
                        refine at_vret rfl dX9_part_189 ?_
                        exact ⟨rfl, _, _, rfl, rfl, (hF0.tr hF2).up (by decide), hZ2.op⟩
                  · -- not taken 112
                    exact absurd c112 hon
                · -- not taken 16
                  exact absurd c16 (by decide)
              · -- not taken 4
                exact absurd c4 (by decide)
            | inl x =>
              obtain ⟨i', e'⟩ := x
              cases h
              obtain ⟨hi', hB'⟩ := okp (by decide) hdd (by omega) (by omega) hx
              have ek : rl_ks (e' ++ [(3, 0, 0)]) = rl_ks e' ++ [11] := by rw [rl_ks_app]; rfl
              refine pd_ev 2 (lo := [some (.ref (pd_z G + 119)), none, none]) (by decide +kernel) (Nat.le_of_ble_eq_true rfl) rfl ?_
              refine at_aload_n dX9_part_0 rfl ?_
              refine at_cv0 cvX9_87 sd_119 (ev_X9_fine) (by omega) ⟨Nat.le_refl _, Nat.le_refl _⟩ (Nat.le_of_ble_eq_true rfl) dX9_part_1 (pd_k1 ?_)
              rw [decide_eq_true hZ.2.2.1]
              refine at_ifne (tgt := 8) dX9_part_4 (by decide) (fun c4 => ?_) (fun c4 => ?_)
              · -- taken 4
                refine at_aload_n dX9_part_8 rfl ?_
                refine at_ldcS sw9_not rfl dX9_part_9 (fun hS9 => ?_)
                refine at_cv1 cvX9_91 sd_119 (ev_gz_isWord (c := 10) hR hZ (by decide) hS9) (by omega) ⟨Nat.le_refl _, Nat.le_refl _⟩ (Nat.le_of_ble_eq_true rfl) dX9_part_11 (pd_k1 ?_)
                rw [decide_eq_true h11]
                refine at_istore_n dX9_part_14 rfl (Nat.le_of_ble_eq_true rfl) ?_
                refine at_iload_n dX9_part_15 rfl ?_
                refine at_ifne (tgt := 107) dX9_part_16 (by decide) (fun c16 => ?_) (fun c16 => ?_)
                · -- taken 16
                  refine at_aload_n dX9_part_107 rfl ?_
                  refine at_geti flX9_158 rfl sd_119 dX9_part_108 ?_
                  refine at_iconst dX9_part_111 pc_i4 ?_
                  rw [ho]
                  refine at_icmpne (tgt := 124) dX9_part_112 (by decide) (fun c112 => ?_) (fun c112 => ?_)
                  · -- taken 112
                    refine at_aload_n dX9_part_124 rfl ?_
                    refine at_dup dX9_part_125 rfl ?_
                    refine at_geti flX9_57 rfl sd_119 dX9_part_126 ?_
                    rw [pd_up_at]
                    refine at_iload_n dX9_part_129 rfl ?_
                    refine at_ifeq (tgt := 137) dX9_part_130 (by decide) (fun c130 => ?_) (fun c130 => ?_)
                    · -- taken 130
                      exact absurd c130 (by decide)
                    · -- not taken 130
                      refine at_iconst dX9_part_133 pc_i3 ?_
                      refine at_goto (tgt := 138) dX9_part_134 (by decide) ?_
                      refine at_iadd dX9_part_138 ?_
                      rw [show nI (tq B n i) + 3 = nI (tq B n i + 3) from nI_add _ 3]
                      refine at_puti flX9_57 rfl sd_119 (fun _ _ _ hq => by cases hq; rfl) dX9_part_139 ?_
                      refine at_aload_n dX9_part_142 rfl ?_
                      refine at_dup dX9_part_143 rfl ?_
                      refine at_geti flX9_158 rfl sd_119 dX9_part_144 ?_
                      rw [ho2]
                      refine at_iconst dX9_part_147 pc_i1 ?_
                      refine at_iadd dX9_part_148 ?_
                      rw [nI_1]
                      refine at_puti flX9_158 rfl sd_119 (fun _ _ _ hq => by cases hq; rfl) dX9_part_149 ?_
                      refine at_iload_n dX9_part_152 rfl ?_
                      refine at_ifeq (tgt := 169) dX9_part_153 (by decide) (fun c153 => ?_) (fun c153 => ?_)
                      · -- taken 153
                        exact absurd c153 (by decide)
                      · -- not taken 153
                        refine at_aload_n dX9_part_156 rfl ?_
                        refine at_cv0 cvX9_161 sd_119 (hrec) (by omega) ⟨Nat.le_refl _, Nat.le_refl _⟩ (Nat.le_of_ble_eq_true rfl) dX9_part_157 (pd_ke fun I2 L2 hq => ?_)
                        obtain ⟨rfl, hF2, hZ2⟩ := hq
                        replace hZ2 : GZ I2 B n r (rl_ks e') (d + 1) i' := hZ2
                        refine at_aload_n dX9_part_160 rfl ?_
                        refine at_bipush dX9_part_161 pc_b11 ?_
                        refine at_cv1 cvX9_142 sd_119 (ev_gz_tells hR hZ2 (Nat.lt_trans (le_700 hT hn hB' (by decide)) (by decide)) _) (by omega) ⟨Nat.le_refl _, Nat.le_refl _⟩ (Nat.le_of_ble_eq_true rfl) dX9_part_163 (pd_ke fun I3 L3 hq3 => ?_)
                        obtain ⟨rfl, hF3, hZ3⟩ := hq3
                        refine at_goto (tgt := 179) dX9_part_166 (by decide) ?_
                        refine at_aload_n dX9_part_179 rfl ?_
                        refine at_dup dX9_part_180 rfl ?_
                        refine at_geti flX9_158 rfl sd_119 dX9_part_181 ?_
                        rw [hZ3.2.2.2.1]
                        refine at_iconst dX9_part_184 pc_i1 ?_
                        refine at_isub dX9_part_185 ?_
                        rw [nI_pred]
                        refine at_puti flX9_158 rfl sd_119 (fun _ _ _ hq => by cases hq; rfl) dX9_part_186 ?_
                        refine at_vret rfl dX9_part_189 ?_
                        exact ⟨rfl, _, _, rfl, rfl, ((hF0.tr hF2).tr hF3).up (by decide), by show GZ _ B n r (rl_ks (e' ++ [(3, 0, 0)])) d i'; rw [ek]; exact hZ3.op⟩
                  · -- not taken 112
                    exact absurd c112 hon
                · -- not taken 16
                  exact absurd c16 (by decide)
              · -- not taken 4
                exact absurd c4 (by decide)
      · rw [if_neg (show ¬ (tT B n).1 i = 11 from h11)] at h
        by_cases h40 : tkK B n (tq B n i) = 40
        · rw [if_pos (show (tT B n).1 i = 40 from h40)] at h
          have hlt := hT.lt hi (show (tT B n).1 i ≠ 0 from by rw [hkd, h40]; decide)
          have hq3 := hT.2.2.2.1 i hlt
          rw [hpl, hpl] at hq3
          have hsg := (sg_iff (B := B) (n := n) (q := tq B n i) (c := 40) (by decide) (by decide) (by decide) (by decide)).mpr h40
          have hv : fB B n (tq B n i) = 40 := by rw [fB, if_pos hsg.1, hsg.2]; rfl
          have hE : tq B n i + 1 = tkE B n (tq B n i) := (sg_E hsg.1 hsg.2 (by decide) (by decide)).symm
          have g2 : GZ (pd_up (pd_up (pd_up I 119 4 (nI (tq B n i))) 119 4 (nI (tq B n i))) 119 4 (nI (tq B n i + 1))) B n r (rl_ks e) d (i + 1) := hZ.here.here.next hE
          by_cases h4 : 4 ≤ d
          · rw [if_pos h4] at h
            cases h
            have hd4 : d = 4 := by omega
            have ho : pd_up (pd_up I 119 4 (nI (tq B n i))) 119 4 (nI (tq B n i)) 119 14 = 4 := by rw [pd_up_nj (by decide), pd_up_nj (by decide), hZ.2.2.2.1, hd4]; rfl
            have hw := hZ.here.wr (p := tq B n i) (c := 5) (q := tq B n i) (tq_le i) (by decide)
            have hw3 : FZ (pd_up (pd_up (pd_up (pd_up (pd_up I 119 4 (nI (tq B n i))) 119 4 (nI (tq B n i))) 119 6 (nI 5)) 119 7 (nI (tq B n i))) 119 4 (nI (tq B n i + 1))) B n 3 (5, tq B n i) := hw.at (by have := tq_le (B := B) (n := n) i; omega)
            refine pd_ev 2 (lo := [some (.ref (pd_z G + 119)), none, none]) (by decide +kernel) (Nat.le_of_ble_eq_true rfl) rfl ?_
            refine at_aload_n dX9_part_0 rfl ?_
            refine at_cv0 cvX9_87 sd_119 (ev_X9_fine) (by omega) ⟨Nat.le_refl _, Nat.le_refl _⟩ (Nat.le_of_ble_eq_true rfl) dX9_part_1 (pd_k1 ?_)
            rw [decide_eq_true hZ.2.2.1]
            refine at_ifne (tgt := 8) dX9_part_4 (by decide) (fun c4 => ?_) (fun c4 => ?_)
            · -- taken 4
              refine at_aload_n dX9_part_8 rfl ?_
              refine at_ldcS sw9_not rfl dX9_part_9 (fun hS9 => ?_)
              refine at_cv1 cvX9_91 sd_119 (ev_gz_isWord (c := 10) hR hZ (by decide) hS9) (by omega) ⟨Nat.le_refl _, Nat.le_refl _⟩ (Nat.le_of_ble_eq_true rfl) dX9_part_11 (pd_k1 ?_)
              rw [decide_eq_false h11]
              refine at_istore_n dX9_part_14 rfl (Nat.le_of_ble_eq_true rfl) ?_
              refine at_iload_n dX9_part_15 rfl ?_
              refine at_ifne (tgt := 107) dX9_part_16 (by decide) (fun c16 => ?_) (fun c16 => ?_)
              · -- taken 16
                exact absurd rfl c16
              · -- not taken 16
                refine at_aload_n dX9_part_19 rfl ?_
                refine at_cv0 cvX9_70 sd_119 (ev_gz_here hR hZ.here) (by omega) ⟨Nat.le_refl _, Nat.le_refl _⟩ (Nat.le_of_ble_eq_true rfl) dX9_part_20 (pd_k1 ?_)
                refine at_bipush dX9_part_23 pc_b40 ?_
                refine at_icmpeq (tgt := 107) dX9_part_25 (by decide) (fun c25 => ?_) (fun c25 => ?_)
                · -- taken 25
                  refine at_aload_n dX9_part_107 rfl ?_
                  refine at_geti flX9_158 rfl sd_119 dX9_part_108 ?_
                  refine at_iconst dX9_part_111 pc_i4 ?_
                  rw [ho]
                  refine at_icmpne (tgt := 124) dX9_part_112 (by decide) (fun c112 => ?_) (fun c112 => ?_)
                  · -- taken 112
                    exact absurd rfl c112
                  · -- not taken 112
                    refine at_aload_n dX9_part_115 rfl ?_
                    refine at_iconst dX9_part_116 pc_i5 ?_
                    refine at_aload_n dX9_part_117 rfl ?_
                    refine at_geti flX9_57 rfl sd_119 dX9_part_118 ?_
                    rw [pd_up_at]
                    refine at_cv2 cvX9_95 sd_119 (ev_X9_wrong0 (by rw [pd_up_nj (by decide), pd_up_nj (by decide)]; exact hZ.2.2.1) _ _) (by omega) ⟨Nat.le_refl _, Nat.le_refl _⟩ (Nat.le_of_ble_eq_true rfl) dX9_part_121 (pd_k0 ?_)
                    refine at_aload_n dX9_part_124 rfl ?_
                    refine at_dup dX9_part_125 rfl ?_
                    refine at_geti flX9_57 rfl sd_119 dX9_part_126 ?_
                    rw [pd_up_nj (by decide), pd_up_nj (by decide), pd_up_at]
                    refine at_iload_n dX9_part_129 rfl ?_
                    refine at_ifeq (tgt := 137) dX9_part_130 (by decide) (fun c130 => ?_) (fun c130 => ?_)
                    · -- taken 130
                      refine at_iconst dX9_part_137 pc_i1 ?_
                      refine at_iadd dX9_part_138 ?_
                      rw [nI_1]
                      refine at_puti flX9_57 rfl sd_119 (fun _ _ _ hq => by cases hq; rfl) dX9_part_139 ?_
                      refine at_aload_n dX9_part_142 rfl ?_
                      refine at_dup dX9_part_143 rfl ?_
                      refine at_geti flX9_158 rfl sd_119 dX9_part_144 ?_
                      refine at_iconst dX9_part_147 pc_i1 ?_
                      refine at_iadd dX9_part_148 ?_
                      refine at_puti flX9_158 rfl sd_119 (fun _ _ _ hq => by cases hq; rfl) dX9_part_149 ?_
                      refine at_iload_n dX9_part_152 rfl ?_
                      refine at_ifeq (tgt := 169) dX9_part_153 (by decide) (fun c153 => ?_) (fun c153 => ?_)
                      · -- taken 153
                        refine at_aload_n dX9_part_169 rfl ?_
                        refine at_cv0 cvX9_164 sd_119 (ev_X9_anyF hR hw3.op.nf) (by omega) ⟨Nat.le_refl _, Nat.le_refl _⟩ (Nat.le_of_ble_eq_true rfl) dX9_part_170 (pd_k0 ?_)
                        refine at_aload_n dX9_part_173 rfl ?_
                        refine at_bipush dX9_part_174 pc_b41 ?_
                        refine at_cv1 cvX9_167 sd_119 (ev_X9_mustF hR hw3.op.nf _) (by omega) ⟨Nat.le_refl _, Nat.le_refl _⟩ (Nat.le_of_ble_eq_true rfl) dX9_part_176 (pd_k0 ?_)
                        refine at_aload_n dX9_part_179 rfl ?_
                        refine at_dup dX9_part_180 rfl ?_
                        refine at_geti flX9_158 rfl sd_119 dX9_part_181 ?_
                        refine at_iconst dX9_part_184 pc_i1 ?_
                        refine at_isub dX9_part_185 ?_
                        refine at_puti flX9_158 rfl sd_119 (fun _ _ _ hq => by cases hq; rfl) dX9_part_186 ?_
                        refine at_vret rfl dX9_part_189 ?_
                        exact ⟨rfl, _, _, rfl, rfl, (((((((FP.rf.up (by decide)).up (by decide)).up (by decide)).up (by decide)).up (by decide)).up (by decide)).up (by decide)), hw3.op.op⟩
                      · -- not taken 153
                        exact absurd rfl c153
                    · -- not taken 130
                      exact absurd rfl c130
                · -- not taken 25
                  exact absurd hv c25
            · -- not taken 4
              exact absurd c4 (by decide)
          · rw [if_neg h4] at h
            have hdd : d + 1 ≤ 4 := by omega
            have ho : pd_up (pd_up I 119 4 (nI (tq B n i))) 119 4 (nI (tq B n i)) 119 14 = nI d := by rw [pd_up_nj (by decide), pd_up_nj (by decide)]; exact hZ.2.2.2.1
            have hon : ¬ nI d = 4 := fun q => by have := (nI_eq (b := 4) (by omega) (by decide)).mp q; omega
            have ho2 : pd_up (pd_up (pd_up I 119 4 (nI (tq B n i))) 119 4 (nI (tq B n i))) 119 4 (nI (tq B n i + 1)) 119 14 = nI d := by rw [pd_up_nj (by decide)]; exact ho
            have hF0 : FP I (pd_up (pd_up (pd_up (pd_up I 119 4 (nI (tq B n i))) 119 4 (nI (tq B n i))) 119 4 (nI (tq B n i + 1))) 119 14 (nI (d + 1))) := (((FP.rf.up (by decide)).up (by decide)).up (by decide)).up (by decide)
            cases hx : pP (tT B n) f 2 (d + 1) (i + 1) e with
            | none => rw [hx] at h; cases h
            | some y =>
              rw [hx] at h
              have hrec := (ih 2 (d + 1) (i + 1) e _ y (by omega) hdd (by omega) g2.op (by rw [if_pos (by decide), Nat.add_zero]; omega) hx).2.2.1 rfl
              cases y with
              | inr z =>
                cases h
                refine pd_ev 2 (lo := [some (.ref (pd_z G + 119)), none, none]) (by decide +kernel) (Nat.le_of_ble_eq_true rfl) rfl ?_
                refine at_aload_n dX9_part_0 rfl ?_
                refine at_cv0 cvX9_87 sd_119 (ev_X9_fine) (by omega) ⟨Nat.le_refl _, Nat.le_refl _⟩ (Nat.le_of_ble_eq_true rfl) dX9_part_1 (pd_k1 ?_)
                rw [decide_eq_true hZ.2.2.1]
                refine at_ifne (tgt := 8) dX9_part_4 (by decide) (fun c4 => ?_) (fun c4 => ?_)
                · -- taken 4
                  refine at_aload_n dX9_part_8 rfl ?_
                  refine at_ldcS sw9_not rfl dX9_part_9 (fun hS9 => ?_)
                  refine at_cv1 cvX9_91 sd_119 (ev_gz_isWord (c := 10) hR hZ (by decide) hS9) (by omega) ⟨Nat.le_refl _, Nat.le_refl _⟩ (Nat.le_of_ble_eq_true rfl) dX9_part_11 (pd_k1 ?_)
                  rw [decide_eq_false h11]
                  refine at_istore_n dX9_part_14 rfl (Nat.le_of_ble_eq_true rfl) ?_
                  refine at_iload_n dX9_part_15 rfl ?_
                  refine at_ifne (tgt := 107) dX9_part_16 (by decide) (fun c16 => ?_) (fun c16 => ?_)
                  · -- taken 16
                    exact absurd rfl c16
                  · -- not taken 16
                    refine at_aload_n dX9_part_19 rfl ?_
                    refine at_cv0 cvX9_70 sd_119 (ev_gz_here hR hZ.here) (by omega) ⟨Nat.le_refl _, Nat.le_refl _⟩ (Nat.le_of_ble_eq_true rfl) dX9_part_20 (pd_k1 ?_)
                    refine at_bipush dX9_part_23 pc_b40 ?_
                    refine at_icmpeq (tgt := 107) dX9_part_25 (by decide) (fun c25 => ?_) (fun c25 => ?_)
                    · -- taken 25
                      refine at_aload_n dX9_part_107 rfl ?_
                      refine at_geti flX9_158 rfl sd_119 dX9_part_108 ?_
                      refine at_iconst dX9_part_111 pc_i4 ?_
                      rw [ho]
                      refine at_icmpne (tgt := 124) dX9_part_112 (by decide) (fun c112 => ?_) (fun c112 => ?_)
                      · -- taken 112
                        refine at_aload_n dX9_part_124 rfl ?_
                        refine at_dup dX9_part_125 rfl ?_
                        refine at_geti flX9_57 rfl sd_119 dX9_part_126 ?_
                        rw [pd_up_at]
                        refine at_iload_n dX9_part_129 rfl ?_
                        refine at_ifeq (tgt := 137) dX9_part_130 (by decide) (fun c130 => ?_) (fun c130 => ?_)
                        · -- taken 130
                          refine at_iconst dX9_part_137 pc_i1 ?_
                          refine at_iadd dX9_part_138 ?_
                          rw [nI_1]
                          refine at_puti flX9_57 rfl sd_119 (fun _ _ _ hq => by cases hq; rfl) dX9_part_139 ?_
                          refine at_aload_n dX9_part_142 rfl ?_
                          refine at_dup dX9_part_143 rfl ?_
                          refine at_geti flX9_158 rfl sd_119 dX9_part_144 ?_
                          rw [ho2]
                          refine at_iconst dX9_part_147 pc_i1 ?_
                          refine at_iadd dX9_part_148 ?_
                          rw [nI_1]
                          refine at_puti flX9_158 rfl sd_119 (fun _ _ _ hq => by cases hq; rfl) dX9_part_149 ?_
                          refine at_iload_n dX9_part_152 rfl ?_
                          refine at_ifeq (tgt := 169) dX9_part_153 (by decide) (fun c153 => ?_) (fun c153 => ?_)
                          · -- taken 153
                            refine at_aload_n dX9_part_169 rfl ?_
                            refine at_cv0 cvX9_164 sd_119 (hrec) (by omega) ⟨Nat.le_refl _, Nat.le_refl _⟩ (Nat.le_of_ble_eq_true rfl) dX9_part_170 (pd_ke fun I2 L2 hq => ?_)
                            obtain ⟨rfl, hF2, hZ2⟩ := hq
                            replace hZ2 : FZ I2 B n 3 z := hZ2
                            refine at_aload_n dX9_part_173 rfl ?_
                            refine at_bipush dX9_part_174 pc_b41 ?_
                            refine at_cv1 cvX9_167 sd_119 (ev_X9_mustF hR hZ2.nf _) (by omega) ⟨Nat.le_refl _, Nat.le_refl _⟩ (Nat.le_of_ble_eq_true rfl) dX9_part_176 (pd_k0 ?_)
                            refine at_aload_n dX9_part_179 rfl ?_
                            refine at_dup dX9_part_180 rfl ?_
                            refine at_geti flX9_158 rfl sd_119 dX9_part_181 ?_
                            refine at_iconst dX9_part_184 pc_i1 ?_
                            refine at_isub dX9_part_185 ?_
                            refine at_puti flX9_158 rfl sd_119 (fun _ _ _ hq => by cases hq; rfl) dX9_part_186 ?_
                            refine at_vret rfl dX9_part_189 ?_
                            exact ⟨rfl, _, _, rfl, rfl, (hF0.tr hF2).up (by decide), hZ2.op⟩
                          · -- not taken 153
                            exact absurd rfl c153
                        · -- not taken 130
                          exact absurd rfl c130
                      · -- not taken 112
                        exact absurd c112 hon
                    · -- not taken 25
                      exact absurd hv c25
                · -- not taken 4
                  exact absurd c4 (by decide)
              | inl x =>
                obtain ⟨i', e'⟩ := x
                have h' : (if tkK B n (tq B n i') = 41 then some (.inl (i' + 1, e')) else some (.inr (1, tq B n i')) : PR) = some res := h
                by_cases h41 : tkK B n (tq B n i') = 41
                · rw [if_pos h41] at h'
                  cases h'
                  refine pd_ev 2 (lo := [some (.ref (pd_z G + 119)), none, none]) (by decide +kernel) (Nat.le_of_ble_eq_true rfl) rfl ?_
                  refine at_aload_n dX9_part_0 rfl ?_
                  refine at_cv0 cvX9_87 sd_119 (ev_X9_fine) (by omega) ⟨Nat.le_refl _, Nat.le_refl _⟩ (Nat.le_of_ble_eq_true rfl) dX9_part_1 (pd_k1 ?_)
                  rw [decide_eq_true hZ.2.2.1]
                  refine at_ifne (tgt := 8) dX9_part_4 (by decide) (fun c4 => ?_) (fun c4 => ?_)
                  · -- taken 4
                    refine at_aload_n dX9_part_8 rfl ?_
                    refine at_ldcS sw9_not rfl dX9_part_9 (fun hS9 => ?_)
                    refine at_cv1 cvX9_91 sd_119 (ev_gz_isWord (c := 10) hR hZ (by decide) hS9) (by omega) ⟨Nat.le_refl _, Nat.le_refl _⟩ (Nat.le_of_ble_eq_true rfl) dX9_part_11 (pd_k1 ?_)
                    rw [decide_eq_false h11]
                    refine at_istore_n dX9_part_14 rfl (Nat.le_of_ble_eq_true rfl) ?_
                    refine at_iload_n dX9_part_15 rfl ?_
                    refine at_ifne (tgt := 107) dX9_part_16 (by decide) (fun c16 => ?_) (fun c16 => ?_)
                    · -- taken 16
                      exact absurd rfl c16
                    · -- not taken 16
                      refine at_aload_n dX9_part_19 rfl ?_
                      refine at_cv0 cvX9_70 sd_119 (ev_gz_here hR hZ.here) (by omega) ⟨Nat.le_refl _, Nat.le_refl _⟩ (Nat.le_of_ble_eq_true rfl) dX9_part_20 (pd_k1 ?_)
                      refine at_bipush dX9_part_23 pc_b40 ?_
                      refine at_icmpeq (tgt := 107) dX9_part_25 (by decide) (fun c25 => ?_) (fun c25 => ?_)
                      · -- taken 25
                        refine at_aload_n dX9_part_107 rfl ?_
                        refine at_geti flX9_158 rfl sd_119 dX9_part_108 ?_
                        refine at_iconst dX9_part_111 pc_i4 ?_
                        rw [ho]
                        refine at_icmpne (tgt := 124) dX9_part_112 (by decide) (fun c112 => ?_) (fun c112 => ?_)
                        · -- taken 112
                          refine at_aload_n dX9_part_124 rfl ?_
                          refine at_dup dX9_part_125 rfl ?_
                          refine at_geti flX9_57 rfl sd_119 dX9_part_126 ?_
                          rw [pd_up_at]
                          refine at_iload_n dX9_part_129 rfl ?_
                          refine at_ifeq (tgt := 137) dX9_part_130 (by decide) (fun c130 => ?_) (fun c130 => ?_)
                          · -- taken 130
                            refine at_iconst dX9_part_137 pc_i1 ?_
                            refine at_iadd dX9_part_138 ?_
                            rw [nI_1]
                            refine at_puti flX9_57 rfl sd_119 (fun _ _ _ hq => by cases hq; rfl) dX9_part_139 ?_
                            refine at_aload_n dX9_part_142 rfl ?_
                            refine at_dup dX9_part_143 rfl ?_
                            refine at_geti flX9_158 rfl sd_119 dX9_part_144 ?_
                            rw [ho2]
                            refine at_iconst dX9_part_147 pc_i1 ?_
                            refine at_iadd dX9_part_148 ?_
                            rw [nI_1]
                            refine at_puti flX9_158 rfl sd_119 (fun _ _ _ hq => by cases hq; rfl) dX9_part_149 ?_
                            refine at_iload_n dX9_part_152 rfl ?_
                            refine at_ifeq (tgt := 169) dX9_part_153 (by decide) (fun c153 => ?_) (fun c153 => ?_)
                            · -- taken 153
                              refine at_aload_n dX9_part_169 rfl ?_
                              refine at_cv0 cvX9_164 sd_119 (hrec) (by omega) ⟨Nat.le_refl _, Nat.le_refl _⟩ (Nat.le_of_ble_eq_true rfl) dX9_part_170 (pd_ke fun I2 L2 hq => ?_)
                              obtain ⟨rfl, hF2, hZ2⟩ := hq
                              replace hZ2 : GZ I2 B n r (rl_ks e') (d + 1) i' := hZ2
                              refine at_aload_n dX9_part_173 rfl ?_
                              refine at_bipush dX9_part_174 pc_b41 ?_
                              refine at_cv1 cvX9_167 sd_119 (ev_gz_must1 (c := 41) hR hZ2 (by decide) (by decide) (by decide) (by decide) h41) (by omega) ⟨Nat.le_refl _, Nat.le_refl _⟩ (Nat.le_of_ble_eq_true rfl) dX9_part_176 (pd_ke fun I3 L3 hq3 => ?_)
                              obtain ⟨rfl, hF3, hZ3⟩ := hq3
                              refine at_aload_n dX9_part_179 rfl ?_
                              refine at_dup dX9_part_180 rfl ?_
                              refine at_geti flX9_158 rfl sd_119 dX9_part_181 ?_
                              rw [hZ3.2.2.2.1]
                              refine at_iconst dX9_part_184 pc_i1 ?_
                              refine at_isub dX9_part_185 ?_
                              rw [nI_pred]
                              refine at_puti flX9_158 rfl sd_119 (fun _ _ _ hq => by cases hq; rfl) dX9_part_186 ?_
                              refine at_vret rfl dX9_part_189 ?_
                              exact ⟨rfl, _, _, rfl, rfl, ((hF0.tr hF2).tr hF3).up (by decide), hZ3.op⟩
                            · -- not taken 153
                              exact absurd rfl c153
                          · -- not taken 130
                            exact absurd rfl c130
                        · -- not taken 112
                          exact absurd c112 hon
                      · -- not taken 25
                        exact absurd hv c25
                  · -- not taken 4
                    exact absurd c4 (by decide)
                · rw [if_neg h41] at h'
                  cases h'
                  refine pd_ev 2 (lo := [some (.ref (pd_z G + 119)), none, none]) (by decide +kernel) (Nat.le_of_ble_eq_true rfl) rfl ?_
                  refine at_aload_n dX9_part_0 rfl ?_
                  refine at_cv0 cvX9_87 sd_119 (ev_X9_fine) (by omega) ⟨Nat.le_refl _, Nat.le_refl _⟩ (Nat.le_of_ble_eq_true rfl) dX9_part_1 (pd_k1 ?_)
                  rw [decide_eq_true hZ.2.2.1]
                  refine at_ifne (tgt := 8) dX9_part_4 (by decide) (fun c4 => ?_) (fun c4 => ?_)
                  · -- taken 4
                    refine at_aload_n dX9_part_8 rfl ?_
                    refine at_ldcS sw9_not rfl dX9_part_9 (fun hS9 => ?_)
                    refine at_cv1 cvX9_91 sd_119 (ev_gz_isWord (c := 10) hR hZ (by decide) hS9) (by omega) ⟨Nat.le_refl _, Nat.le_refl _⟩ (Nat.le_of_ble_eq_true rfl) dX9_part_11 (pd_k1 ?_)
                    rw [decide_eq_false h11]
                    refine at_istore_n dX9_part_14 rfl (Nat.le_of_ble_eq_true rfl) ?_
                    refine at_iload_n dX9_part_15 rfl ?_
                    refine at_ifne (tgt := 107) dX9_part_16 (by decide) (fun c16 => ?_) (fun c16 => ?_)
                    · -- taken 16
                      exact absurd rfl c16
                    · -- not taken 16
                      refine at_aload_n dX9_part_19 rfl ?_
                      refine at_cv0 cvX9_70 sd_119 (ev_gz_here hR hZ.here) (by omega) ⟨Nat.le_refl _, Nat.le_refl _⟩ (Nat.le_of_ble_eq_true rfl) dX9_part_20 (pd_k1 ?_)
                      refine at_bipush dX9_part_23 pc_b40 ?_
                      refine at_icmpeq (tgt := 107) dX9_part_25 (by decide) (fun c25 => ?_) (fun c25 => ?_)
                      · -- taken 25
                        refine at_aload_n dX9_part_107 rfl ?_
                        refine at_geti flX9_158 rfl sd_119 dX9_part_108 ?_
                        refine at_iconst dX9_part_111 pc_i4 ?_
                        rw [ho]
                        refine at_icmpne (tgt := 124) dX9_part_112 (by decide) (fun c112 => ?_) (fun c112 => ?_)
                        · -- taken 112
                          refine at_aload_n dX9_part_124 rfl ?_
                          refine at_dup dX9_part_125 rfl ?_
                          refine at_geti flX9_57 rfl sd_119 dX9_part_126 ?_
                          rw [pd_up_at]
                          refine at_iload_n dX9_part_129 rfl ?_
                          refine at_ifeq (tgt := 137) dX9_part_130 (by decide) (fun c130 => ?_) (fun c130 => ?_)
                          · -- taken 130
                            refine at_iconst dX9_part_137 pc_i1 ?_
                            refine at_iadd dX9_part_138 ?_
                            rw [nI_1]
                            refine at_puti flX9_57 rfl sd_119 (fun _ _ _ hq => by cases hq; rfl) dX9_part_139 ?_
                            refine at_aload_n dX9_part_142 rfl ?_
                            refine at_dup dX9_part_143 rfl ?_
                            refine at_geti flX9_158 rfl sd_119 dX9_part_144 ?_
                            rw [ho2]
                            refine at_iconst dX9_part_147 pc_i1 ?_
                            refine at_iadd dX9_part_148 ?_
                            rw [nI_1]
                            refine at_puti flX9_158 rfl sd_119 (fun _ _ _ hq => by cases hq; rfl) dX9_part_149 ?_
                            refine at_iload_n dX9_part_152 rfl ?_
                            refine at_ifeq (tgt := 169) dX9_part_153 (by decide) (fun c153 => ?_) (fun c153 => ?_)
                            · -- taken 153
                              refine at_aload_n dX9_part_169 rfl ?_
                              refine at_cv0 cvX9_164 sd_119 (hrec) (by omega) ⟨Nat.le_refl _, Nat.le_refl _⟩ (Nat.le_of_ble_eq_true rfl) dX9_part_170 (pd_ke fun I2 L2 hq => ?_)
                              obtain ⟨rfl, hF2, hZ2⟩ := hq
                              replace hZ2 : GZ I2 B n r (rl_ks e') (d + 1) i' := hZ2
                              refine at_aload_n dX9_part_173 rfl ?_
                              refine at_bipush dX9_part_174 pc_b41 ?_
                              refine at_cv1 cvX9_167 sd_119 (ev_gz_must0 (c := 41) hR hZ2 (by decide) (by decide) (by decide) (by decide) h41) (by omega) ⟨Nat.le_refl _, Nat.le_refl _⟩ (Nat.le_of_ble_eq_true rfl) dX9_part_176 (pd_ke fun I3 L3 hq3 => ?_)
                              obtain ⟨rfl, hF3, hZ3⟩ := hq3
                              refine at_aload_n dX9_part_179 rfl ?_
                              refine at_dup dX9_part_180 rfl ?_
                              refine at_geti flX9_158 rfl sd_119 dX9_part_181 ?_
                              refine at_iconst dX9_part_184 pc_i1 ?_
                              refine at_isub dX9_part_185 ?_
                              refine at_puti flX9_158 rfl sd_119 (fun _ _ _ hq => by cases hq; rfl) dX9_part_186 ?_
                              refine at_vret rfl dX9_part_189 ?_
                              exact ⟨rfl, _, _, rfl, rfl, ((hF0.tr hF2).tr hF3).up (by decide), (hZ3.mono (by decide)).op⟩
                            · -- not taken 153
                              exact absurd rfl c153
                          · -- not taken 130
                            exact absurd rfl c130
                        · -- not taken 112
                          exact absurd c112 hon
                      · -- not taken 25
                        exact absurd hv c25
                  · -- not taken 4
                    exact absurd c4 (by decide)
        · rw [if_neg (show ¬ (tT B n).1 i = 40 from h40)] at h
          have h9 := ev_part_cmp (G := G) (L := L) hR hZ (le_700 (k := 0) (i := i) hT hn (by omega) (by decide)) h11 h40 (hh := 10 + 3 * (4 - d)) (by omega)
          cases hc : pCmp (tT B n) i with
          | inl x => rw [hc] at h h9; cases h; exact h9
          | inr z => rw [hc] at h h9; cases h; exact h9
    · rw [if_neg h0] at h
      by_cases h1 : m = 1
      · subst h1
        simp only [if_true] at h
        rw [if_pos (by decide), Nat.add_zero] at hB
        refine ⟨fun q => absurd q (by decide), fun _ => ?_, fun q => absurd q (by decide), fun q => absurd q (by decide), fun q => absurd q (by decide)⟩
        cases hx : pP (tT B n) f 0 d i e with
        | none => rw [hx] at h; cases h
        | some y =>
          rw [hx] at h
          have hrec := (ih 0 d i e I y (by omega) hd hi hZ (by rw [if_pos (by decide), Nat.add_zero]; exact hB) hx).1 rfl
          cases y with
          | inr z =>
            cases h
            refine pd_ev 0 (lo := [some (.ref (pd_z G + 119))]) (by decide +kernel) (Nat.le_of_ble_eq_true rfl) rfl ?_
            refine at_aload_n dX9_all_0 rfl ?_
            refine at_cv0 cvX9_161 sd_119 (hrec) (by omega) ⟨Nat.le_refl _, Nat.le_refl _⟩ (Nat.le_of_ble_eq_true rfl) dX9_all_1 (pd_ke fun I2 L2 hq => ?_)
            obtain ⟨rfl, hF2, hZ2⟩ := hq
            exact allF4 hR (by omega) hF2 hZ2
          | inl x =>
            obtain ⟨i', e'⟩ := x
            obtain ⟨hi', hB'⟩ := okp (by decide) hd hi hB hx
            have h' : pP (tT B n) f 3 d i' e' = some res := h
            refine pd_ev 0 (lo := [some (.ref (pd_z G + 119))]) (by decide +kernel) (Nat.le_of_ble_eq_true rfl) rfl ?_
            refine at_aload_n dX9_all_0 rfl ?_
            refine at_cv0 cvX9_161 sd_119 (hrec) (by omega) ⟨Nat.le_refl _, Nat.le_refl _⟩ (Nat.le_of_ble_eq_true rfl) dX9_all_1 (pd_ke fun I2 L2 hq => ?_)
            obtain ⟨rfl, hF2, hZ2⟩ := hq
            exact pd_At_mono ((ih 3 d i' e' I2 res (by omega) hd hi' hZ2 (by rw [if_neg (by decide)]; exact hB') h').2.2.2.1 rfl) (fun o M' q => re_pre hF2 q)
      · rw [if_neg h1] at h
        by_cases h2 : m = 2
        · subst h2
          simp only [if_true] at h
          rw [if_pos (by decide), Nat.add_zero] at hB
          refine ⟨fun q => absurd q (by decide), fun q => absurd q (by decide), fun _ => ?_, fun q => absurd q (by decide), fun q => absurd q (by decide)⟩
          cases hx : pP (tT B n) f 1 d i e with
          | none => rw [hx] at h; cases h
          | some y =>
            rw [hx] at h
            have hrec := (ih 1 d i e I y (by omega) hd hi hZ (by rw [if_pos (by decide), Nat.add_zero]; exact hB) hx).2.1 rfl
            cases y with
            | inr z =>
              cases h
              refine pd_ev 0 (lo := [some (.ref (pd_z G + 119))]) (by decide +kernel) (Nat.le_of_ble_eq_true rfl) rfl ?_
              refine at_aload_n dX9_any_0 rfl ?_
              refine at_cv0 cvX9_172 sd_119 (hrec) (by omega) ⟨Nat.le_refl _, Nat.le_refl _⟩ (Nat.le_of_ble_eq_true rfl) dX9_any_1 (pd_ke fun I2 L2 hq => ?_)
              obtain ⟨rfl, hF2, hZ2⟩ := hq
              exact anyF4 hR (by omega) hF2 hZ2
            | inl x =>
              obtain ⟨i', e'⟩ := x
              obtain ⟨hi', hB'⟩ := okp (by decide) hd hi hB hx
              have h' : pP (tT B n) f 4 d i' e' = some res := h
              refine pd_ev 0 (lo := [some (.ref (pd_z G + 119))]) (by decide +kernel) (Nat.le_of_ble_eq_true rfl) rfl ?_
              refine at_aload_n dX9_any_0 rfl ?_
              refine at_cv0 cvX9_172 sd_119 (hrec) (by omega) ⟨Nat.le_refl _, Nat.le_refl _⟩ (Nat.le_of_ble_eq_true rfl) dX9_any_1 (pd_ke fun I2 L2 hq => ?_)
              obtain ⟨rfl, hF2, hZ2⟩ := hq
              exact pd_At_mono ((ih 4 d i' e' I2 res (by omega) hd hi' hZ2 (by rw [if_neg (by decide)]; exact hB') h').2.2.2.2 rfl) (fun o M' q => re_pre hF2 q)
        · rw [if_neg h2] at h
          rw [if_neg (by omega)] at hB
          by_cases h3 : m = 3
          · subst h3
            simp only [if_true] at h
            refine ⟨fun q => absurd q (by decide), fun q => absurd q (by decide), fun q => absurd q (by decide), fun _ => ?_, fun q => absurd q (by decide)⟩
            by_cases hk : tkK B n (tq B n i) = 10
            · rw [if_pos (show (tT B n).1 i = 10 from hk)] at h
              have hlt := hT.lt hi (show (tT B n).1 i ≠ 0 from by rw [hkd, hk]; decide)
              have hq3 := hT.2.2.2.2.2 i hlt (Or.inl hk)
              rw [hpl, hpl] at hq3
              cases hx : pP (tT B n) f 0 d (i + 1) e with
              | none => rw [hx] at h; cases h
              | some y =>
                rw [hx] at h
                have hrec := fun I2 (hZ2 : GZ I2 B n r (rl_ks e) d (i + 1)) => (ih 0 d (i + 1) e I2 y (by omega) hd (by omega) hZ2 (by rw [if_pos (by decide), Nat.add_zero]; omega) hx).1 rfl
                cases y with
                | inr z =>
                  cases h
                  refine at_aload_n dX9_all_4 rfl ?_
                  refine at_ldcS sw9_and rfl dX9_all_5 (fun hS5 => ?_)
                  refine at_cv1 cvX9_150 sd_119 (ev_gz_takes (c := 9) hR hZ (by decide) hS5) (by omega) ⟨Nat.le_refl _, Nat.le_refl _⟩ (Nat.le_of_ble_eq_true rfl) dX9_all_7 (pd_ki fun v I2 L2 hq => ?_)
                  obtain ⟨rfl, rfl, hF2, hZ2, -⟩ := hq
                  rw [if_pos hk] at hZ2
                  rw [decide_eq_true hk]
                  refine at_ifeq (tgt := 26) dX9_all_10 (by decide) (fun c10 => ?_) (fun c10 => ?_)
                  · -- taken 10
                    exact absurd c10 (by decide)
                  · -- not taken 10
                    refine at_aload_n dX9_all_13 rfl ?_
                    refine at_cv0 cvX9_161 sd_119 (hrec _ hZ2) (by omega) ⟨Nat.le_refl _, Nat.le_refl _⟩ (Nat.le_of_ble_eq_true rfl) dX9_all_14 (pd_ke fun I3 L3 hq3 => ?_)
                    obtain ⟨rfl, hF3, hZ3⟩ := hq3
                    replace hZ3 : FZ I3 B n 3 z := hZ3
                    refine at_aload_n dX9_all_17 rfl ?_
                    refine at_bipush dX9_all_18 pc_b12 ?_
                    refine at_cv1 cvX9_142 sd_119 (ev_X9_tellsF hR hZ3.nf _) (by omega) ⟨Nat.le_refl _, Nat.le_refl _⟩ (Nat.le_of_ble_eq_true rfl) dX9_all_20 (pd_k0 ?_)
                    refine at_goto (tgt := 4) dX9_all_23 (by decide) ?_
                    exact allF4 hR (by omega) (hF2.tr hF3) hZ3
                | inl x =>
                  obtain ⟨i', e'⟩ := x
                  obtain ⟨hi', hB'⟩ := okp (by decide) hd (by omega) (by omega) hx
                  obtain ⟨b1, b2, b3, b4, e3, hee, b5, b6, b7⟩ := pP_ok hT f 0 d (i + 1) e i' e' (by omega) hd (by omega) hx
                  rw [if_pos (by decide), hpl, hpl] at b6
                  have h' : pP (tT B n) f 3 d i' (e' ++ [(4, 0, 0)]) = some res := h
                  have ek : rl_ks (e' ++ [(4, 0, 0)]) = rl_ks e' ++ [12] := by rw [rl_ks_app]; rfl
                  have hB3 : 5 * (rl_ks (e' ++ [(4, 0, 0)])).length ≤ 6 * tq B n i' + 7 := by
                    rw [ek, hee, rl_ks_app]; simp; omega
                  refine at_aload_n dX9_all_4 rfl ?_
                  refine at_ldcS sw9_and rfl dX9_all_5 (fun hS5 => ?_)
                  refine at_cv1 cvX9_150 sd_119 (ev_gz_takes (c := 9) hR hZ (by decide) hS5) (by omega) ⟨Nat.le_refl _, Nat.le_refl _⟩ (Nat.le_of_ble_eq_true rfl) dX9_all_7 (pd_ki fun v I2 L2 hq => ?_)
                  obtain ⟨rfl, rfl, hF2, hZ2, -⟩ := hq
                  rw [if_pos hk] at hZ2
                  rw [decide_eq_true hk]
                  refine at_ifeq (tgt := 26) dX9_all_10 (by decide) (fun c10 => ?_) (fun c10 => ?_)
                  · -- taken 10
                    exact absurd c10 (by decide)
                  · -- not taken 10
                    refine at_aload_n dX9_all_13 rfl ?_
                    refine at_cv0 cvX9_161 sd_119 (hrec _ hZ2) (by omega) ⟨Nat.le_refl _, Nat.le_refl _⟩ (Nat.le_of_ble_eq_true rfl) dX9_all_14 (pd_ke fun I3 L3 hq3 => ?_)
                    obtain ⟨rfl, hF3, hZ3⟩ := hq3
                    replace hZ3 : GZ I3 B n r (rl_ks e') d i' := hZ3
                    refine at_aload_n dX9_all_17 rfl ?_
                    refine at_bipush dX9_all_18 pc_b12 ?_
                    refine at_cv1 cvX9_142 sd_119 (ev_gz_tells hR hZ3 (Nat.lt_trans (le_700 hT hn hB' (by decide)) (by decide)) _) (by omega) ⟨Nat.le_refl _, Nat.le_refl _⟩ (Nat.le_of_ble_eq_true rfl) dX9_all_20 (pd_ke fun I4 L4 hq4 => ?_)
                    obtain ⟨rfl, hF4, hZ4⟩ := hq4
                    refine at_goto (tgt := 4) dX9_all_23 (by decide) ?_
                    exact pd_At_mono ((ih 3 d i' (e' ++ [(4, 0, 0)]) I4 res (by omega) hd hi' (by rw [ek]; exact hZ4) (by rw [if_neg (by decide)]; exact hB3) h').2.2.2.1 rfl) (fun o M' q => re_pre ((hF2.tr hF3).tr hF4) q)
            · rw [if_neg (show ¬ (tT B n).1 i = 10 from hk)] at h
              cases h
              refine at_aload_n dX9_all_4 rfl ?_
              refine at_ldcS sw9_and rfl dX9_all_5 (fun hS5 => ?_)
              refine at_cv1 cvX9_150 sd_119 (ev_gz_takes (c := 9) hR hZ (by decide) hS5) (by omega) ⟨Nat.le_refl _, Nat.le_refl _⟩ (Nat.le_of_ble_eq_true rfl) dX9_all_7 (pd_ki fun v I2 L2 hq => ?_)
              obtain ⟨rfl, rfl, hF2, hZ2, -⟩ := hq
              rw [if_neg hk] at hZ2
              rw [decide_eq_false hk]
              refine at_ifeq (tgt := 26) dX9_all_10 (by decide) (fun c10 => ?_) (fun c10 => ?_)
              · -- taken 10
                refine at_vret rfl dX9_all_26 ?_
                exact ⟨rfl, _, _, rfl, rfl, hF2, hZ2⟩
              · -- not taken 10
                exact absurd rfl c10
          · have h4 : m = 4 := by omega
            subst h4
            rw [if_neg (by decide)] at h
            refine ⟨fun q => absurd q (by decide), fun q => absurd q (by decide), fun q => absurd q (by decide), fun q => absurd q (by decide), fun _ => ?_⟩
            by_cases hk : tkK B n (tq B n i) = 9
            · rw [if_pos (show (tT B n).1 i = 9 from hk)] at h
              have hlt := hT.lt hi (show (tT B n).1 i ≠ 0 from by rw [hkd, hk]; decide)
              have hq3 := hT.2.2.2.2.1 i hlt hk
              rw [hpl, hpl] at hq3
              cases hx : pP (tT B n) f 1 d (i + 1) e with
              | none => rw [hx] at h; cases h
              | some y =>
                rw [hx] at h
                have hrec := fun I2 (hZ2 : GZ I2 B n r (rl_ks e) d (i + 1)) => (ih 1 d (i + 1) e I2 y (by omega) hd (by omega) hZ2 (by rw [if_pos (by decide), Nat.add_zero]; omega) hx).2.1 rfl
                cases y with
                | inr z =>
                  cases h
                  refine at_aload_n dX9_any_4 rfl ?_
                  refine at_ldcS sw9_or rfl dX9_any_5 (fun hS5 => ?_)
                  refine at_cv1 cvX9_150 sd_119 (ev_gz_takes (c := 8) hR hZ (by decide) hS5) (by omega) ⟨Nat.le_refl _, Nat.le_refl _⟩ (Nat.le_of_ble_eq_true rfl) dX9_any_7 (pd_ki fun v I2 L2 hq => ?_)
                  obtain ⟨rfl, rfl, hF2, hZ2, -⟩ := hq
                  rw [if_pos hk] at hZ2
                  rw [decide_eq_true hk]
                  refine at_ifeq (tgt := 26) dX9_any_10 (by decide) (fun c10 => ?_) (fun c10 => ?_)
                  · -- taken 10
                    exact absurd c10 (by decide)
                  · -- not taken 10
                    refine at_aload_n dX9_any_13 rfl ?_
                    refine at_cv0 cvX9_172 sd_119 (hrec _ hZ2) (by omega) ⟨Nat.le_refl _, Nat.le_refl _⟩ (Nat.le_of_ble_eq_true rfl) dX9_any_14 (pd_ke fun I3 L3 hq3 => ?_)
                    obtain ⟨rfl, hF3, hZ3⟩ := hq3
                    replace hZ3 : FZ I3 B n 3 z := hZ3
                    refine at_aload_n dX9_any_17 rfl ?_
                    refine at_bipush dX9_any_18 pc_b13 ?_
                    refine at_cv1 cvX9_142 sd_119 (ev_X9_tellsF hR hZ3.nf _) (by omega) ⟨Nat.le_refl _, Nat.le_refl _⟩ (Nat.le_of_ble_eq_true rfl) dX9_any_20 (pd_k0 ?_)
                    refine at_goto (tgt := 4) dX9_any_23 (by decide) ?_
                    exact anyF4 hR (by omega) (hF2.tr hF3) hZ3
                | inl x =>
                  obtain ⟨i', e'⟩ := x
                  obtain ⟨hi', hB'⟩ := okp (by decide) hd (by omega) (by omega) hx
                  obtain ⟨b1, b2, b3, b4, e3, hee, b5, b6, b7⟩ := pP_ok hT f 1 d (i + 1) e i' e' (by omega) hd (by omega) hx
                  rw [if_pos (by decide), hpl, hpl] at b6
                  have h' : pP (tT B n) f 4 d i' (e' ++ [(5, 0, 0)]) = some res := h
                  have ek : rl_ks (e' ++ [(5, 0, 0)]) = rl_ks e' ++ [13] := by rw [rl_ks_app]; rfl
                  have hB3 : 5 * (rl_ks (e' ++ [(5, 0, 0)])).length ≤ 6 * tq B n i' + 7 := by
                    rw [ek, hee, rl_ks_app]; simp; omega
                  refine at_aload_n dX9_any_4 rfl ?_
                  refine at_ldcS sw9_or rfl dX9_any_5 (fun hS5 => ?_)
                  refine at_cv1 cvX9_150 sd_119 (ev_gz_takes (c := 8) hR hZ (by decide) hS5) (by omega) ⟨Nat.le_refl _, Nat.le_refl _⟩ (Nat.le_of_ble_eq_true rfl) dX9_any_7 (pd_ki fun v I2 L2 hq => ?_)
                  obtain ⟨rfl, rfl, hF2, hZ2, -⟩ := hq
                  rw [if_pos hk] at hZ2
                  rw [decide_eq_true hk]
                  refine at_ifeq (tgt := 26) dX9_any_10 (by decide) (fun c10 => ?_) (fun c10 => ?_)
                  · -- taken 10
                    exact absurd c10 (by decide)
                  · -- not taken 10
                    refine at_aload_n dX9_any_13 rfl ?_
                    refine at_cv0 cvX9_172 sd_119 (hrec _ hZ2) (by omega) ⟨Nat.le_refl _, Nat.le_refl _⟩ (Nat.le_of_ble_eq_true rfl) dX9_any_14 (pd_ke fun I3 L3 hq3 => ?_)
                    obtain ⟨rfl, hF3, hZ3⟩ := hq3
                    replace hZ3 : GZ I3 B n r (rl_ks e') d i' := hZ3
                    refine at_aload_n dX9_any_17 rfl ?_
                    refine at_bipush dX9_any_18 pc_b13 ?_
                    refine at_cv1 cvX9_142 sd_119 (ev_gz_tells hR hZ3 (Nat.lt_trans (le_700 hT hn hB' (by decide)) (by decide)) _) (by omega) ⟨Nat.le_refl _, Nat.le_refl _⟩ (Nat.le_of_ble_eq_true rfl) dX9_any_20 (pd_ke fun I4 L4 hq4 => ?_)
                    obtain ⟨rfl, hF4, hZ4⟩ := hq4
                    refine at_goto (tgt := 4) dX9_any_23 (by decide) ?_
                    exact pd_At_mono ((ih 4 d i' (e' ++ [(5, 0, 0)]) I4 res (by omega) hd hi' (by rw [ek]; exact hZ4) (by rw [if_neg (by decide)]; exact hB3) h').2.2.2.2 rfl) (fun o M' q => re_pre ((hF2.tr hF3).tr hF4) q)
            · rw [if_neg (show ¬ (tT B n).1 i = 9 from hk)] at h
              cases h
              refine at_aload_n dX9_any_4 rfl ?_
              refine at_ldcS sw9_or rfl dX9_any_5 (fun hS5 => ?_)
              refine at_cv1 cvX9_150 sd_119 (ev_gz_takes (c := 8) hR hZ (by decide) hS5) (by omega) ⟨Nat.le_refl _, Nat.le_refl _⟩ (Nat.le_of_ble_eq_true rfl) dX9_any_7 (pd_ki fun v I2 L2 hq => ?_)
              obtain ⟨rfl, rfl, hF2, hZ2, -⟩ := hq
              rw [if_neg hk] at hZ2
              rw [decide_eq_false hk]
              refine at_ifeq (tgt := 26) dX9_any_10 (by decide) (fun c10 => ?_) (fun c10 => ?_)
              · -- taken 10
                refine at_vret rfl dX9_any_26 ?_
                exact ⟨rfl, _, _, rfl, rfl, hF2, hZ2⟩
              · -- not taken 10
                exact absurd rfl c10
end PAR5
