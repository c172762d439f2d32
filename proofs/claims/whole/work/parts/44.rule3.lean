/-! ===== the reader: parts, chains, choices ===== -/
section RULE3
variable {G : pd_G} {T : TS} {N : Nat}
/-- what is said of a turn: m as in pP -/
def CP (G : pd_G) (T : TS) (N f : Nat) : Prop := ∀ (m d i : Nat) (e : List rl_S) (res : (Nat × List rl_S) ⊕ (Nat × Nat)) (I : Nat → Nat → Int32) (L : Nat → Nat → Int64) (R : Nat → Nat → Option Nat), d ≤ 4 → RS R → RD I T N i → RU I e → 2 * e.length ≤ T.2.2.2 i → pP T f m d i e = some res →
  (m = 0 → pd_Ev G mi_X6_readPart (6 + 3 * (4 - d)) 0 0 [.ref (pd_z G + 1), .int (nI d)] (SD, false, I, L, R) (QP I L R res)) ∧
  (m = 1 → pd_Ev G mi_X6_readChain (7 + 3 * (4 - d)) 0 0 [.ref (pd_z G + 1), .int (nI d)] (SD, false, I, L, R) (QP I L R res)) ∧
  (m = 2 → pd_Ev G mi_X6_readChoice (8 + 3 * (4 - d)) 0 0 [.ref (pd_z G + 1), .int (nI d)] (SD, false, I, L, R) (QP I L R res)) ∧
  (m = 3 → ∀ mo, mo ≤ i → pd_At G mi_X6_readChain (7 + 3 * (4 - d)) 0 0 0 0 12 [some (.ref (pd_z G + 1)), some (.int (nI d)), some (.int (nI mo))] [] (SD, false, I, L, R) (QP I L R res)) ∧
  (m = 4 → ∀ mo, mo ≤ i → pd_At G mi_X6_readChoice (8 + 3 * (4 - d)) 0 0 0 0 12 [some (.ref (pd_z G + 1)), some (.int (nI d)), some (.int (nI mo))] [] (SD, false, I, L, R) (QP I L R res))
theorem pThen_some {x : PR} {k : Nat → List rl_S → PR} {r : (Nat × List rl_S) ⊕ (Nat × Nat)} (h : pThen x k = some r) : (∃ z, x = some (.inr z) ∧ r = .inr z) ∨ ∃ i e, x = some (.inl (i, e)) ∧ k i e = some r := by
  cases x with
  | none => cases h
  | some y => cases y with
    | inl z => obtain ⟨i, e⟩ := z; exact Or.inr ⟨i, e, rfl, h⟩
    | inr z => exact Or.inl ⟨z, rfl, by cases h; rfl⟩
theorem cp_all (hT : TOK T N) : ∀ f, CP G T N f := by
  intro f
  induction f with
  | zero => intro m d i e res I L R _ _ _ _ _ h; cases h
  | succ f ih =>
    intro m d i e res I L R hd hR h hU he hp
    have hiN := h.2.2
    have h600 := h.1.1
    have hk := h.1.2 i hiN
    have hq600 := hk.2.2.2.1
    have eK := fun (c : Nat) (hc : c < 128) => (nI_eq (a := T.1 i) (b := c) (by omega) (by omega))
    refine ⟨fun hm => ?_, fun hm => ?_, fun hm => ?_, fun hm => ?_, fun hm => ?_⟩
    · subst hm
      rw [pP] at hp
      simp only [if_true] at hp
      refine pd_ev 1 (lo := [some (.ref (pd_z G + 1)), some (.int (nI d)), none]) (by decide +kernel) (Nat.le_of_ble_eq_true rfl) rfl ?_
      by_cases h11 : T.1 i = 11
      · rw [if_pos h11] at hp
        have hlt := hT.lt hiN (by omega)
        have h2 := h.adv hlt
        by_cases h4 : 4 ≤ d
        · rw [if_pos h4] at hp
          cases hp
          refine at_aload_n dX6_readPart_0 rfl ?_
          refine at_cv0 cvX6_29 sd_1 (ev_X6_kind hR h) (by omega) ⟨Nat.le_refl _, Nat.le_refl _⟩ (Nat.le_of_ble_eq_true rfl) dX6_readPart_1 (pd_k1 ?_)
          refine at_bipush dX6_readPart_4 pc_b11 ?_
          refine at_icmpne (tgt := 13) dX6_readPart_6 (by decide) (fun c6 => ?_) (fun c6 => ?_)
          · -- taken 6
            exact absurd ((eK 11 (by decide)).mpr h11) c6
          · -- not taken 6
            refine at_iconst dX6_readPart_9 pc_i1 ?_
            refine at_goto (tgt := 14) dX6_readPart_10 (by decide) ?_
            refine at_istore_n dX6_readPart_14 rfl (Nat.le_of_ble_eq_true rfl) ?_
            refine at_iload_n dX6_readPart_15 rfl ?_
            refine at_ifne (tgt := 33) dX6_readPart_16 (by decide) (fun c16 => ?_) (fun c16 => ?_)
            · -- taken 16
              refine at_iload_n dX6_readPart_33 rfl ?_
              refine at_iconst dX6_readPart_34 pc_i4 ?_
              refine at_icmplt (tgt := 48) dX6_readPart_35 (by decide) (fun c35 => ?_) (fun c35 => ?_)
              · -- taken 35
                exact absurd c35 (nI_nlt (b := 4) h4 (by omega))
              · -- not taken 35
                refine at_aload_n dX6_readPart_38 rfl ?_
                refine at_iconst dX6_readPart_39 pc_i5 ?_
                refine at_aload_n dX6_readPart_40 rfl ?_
                refine at_cv0 cvX6_62 sd_1 (ev_X6_place hR h) (by omega) ⟨Nat.le_refl _, Nat.le_refl _⟩ (Nat.le_of_ble_eq_true rfl) dX6_readPart_41 (pd_k1 ?_)
                refine at_cv2 cvX6_65 sd_1 (ev_X6_refuse 5 _) (by omega) ⟨Nat.le_refl _, Nat.le_refl _⟩ (Nat.le_of_ble_eq_true rfl) dX6_readPart_44 (pd_k1 ?_)
                refine at_zret rfl dX6_readPart_47 (by first | exact Or.inl rfl | exact Or.inr rfl | assumption) ?_
                exact ⟨rfI I (5, T.2.2.2 i), rfl, FB.rf.rfI, rfl, rfI_2.1, rfI_2.2⟩
            · -- not taken 16
              exact absurd c16 (by decide)
        · rw [if_neg h4] at hp
          have hq := hT.2.2.2.2.2 i hlt (Or.inr h11)
          rcases pThen_some hp with ⟨z, hx, rfl⟩ | ⟨j, e1, hx, hk1⟩
          · have c := (ih 0 (d + 1) (i + 1) e _ _ L R (by omega) hR h2 (hU.fr (pd_up_nb (by decide)) (fun j => pd_up_nb (by decide))) (by omega) hx).1 rfl
            refine at_aload_n dX6_readPart_0 rfl ?_
            refine at_cv0 cvX6_29 sd_1 (ev_X6_kind hR h) (by omega) ⟨Nat.le_refl _, Nat.le_refl _⟩ (Nat.le_of_ble_eq_true rfl) dX6_readPart_1 (pd_k1 ?_)
            refine at_bipush dX6_readPart_4 pc_b11 ?_
            refine at_icmpne (tgt := 13) dX6_readPart_6 (by decide) (fun c6 => ?_) (fun c6 => ?_)
            · -- taken 6
              exact absurd ((eK 11 (by decide)).mpr h11) c6
            · -- not taken 6
              refine at_iconst dX6_readPart_9 pc_i1 ?_
              refine at_goto (tgt := 14) dX6_readPart_10 (by decide) ?_
              refine at_istore_n dX6_readPart_14 rfl (Nat.le_of_ble_eq_true rfl) ?_
              refine at_iload_n dX6_readPart_15 rfl ?_
              refine at_ifne (tgt := 33) dX6_readPart_16 (by decide) (fun c16 => ?_) (fun c16 => ?_)
              · -- taken 16
                refine at_iload_n dX6_readPart_33 rfl ?_
                refine at_iconst dX6_readPart_34 pc_i4 ?_
                refine at_icmplt (tgt := 48) dX6_readPart_35 (by decide) (fun c35 => ?_) (fun c35 => ?_)
                · -- taken 35
                  refine at_aload_n dX6_readPart_48 rfl ?_
                  refine at_cv0 cvX6_89 sd_1 (ev_X6_advance h hlt) (by omega) ⟨Nat.le_refl _, Nat.le_refl _⟩ (Nat.le_of_ble_eq_true rfl) dX6_readPart_49 (pd_k0 ?_)
                  refine at_iload_n dX6_readPart_52 rfl ?_
                  refine at_ifne (tgt := 81) dX6_readPart_53 (by decide) (fun c53 => ?_) (fun c53 => ?_)
                  · -- taken 53
                    refine at_aload_n dX6_readPart_81 rfl ?_
                    refine at_iload_n dX6_readPart_82 rfl ?_
                    refine at_iconst dX6_readPart_83 pc_i1 ?_
                    refine at_iadd dX6_readPart_84 ?_
                    rw [nI_1]
                    refine at_cv1 cvX6_143 sd_1 (c) (by omega) ⟨Nat.le_refl _, Nat.le_refl _⟩ (Nat.le_of_ble_eq_true rfl) dX6_readPart_85 (pd_kpr fun I2 hF h2 h3 => ?_)
                    refine at_ifne (tgt := 93) dX6_readPart_88 (by decide) (fun c88 => ?_) (fun c88 => ?_)
                    · -- taken 88
                      exact absurd rfl c88
                    · -- not taken 88
                      refine at_iconst dX6_readPart_91 pc_i0 ?_
                      refine at_zret rfl dX6_readPart_92 (by first | exact Or.inl rfl | exact Or.inr rfl | assumption) ?_
                      exact ⟨_, rfl, FB.rf.up4.tr hF, rfl, h2, h3⟩
                  · -- not taken 53
                    exact absurd c53 (by decide)
                · -- not taken 35
                  exact absurd (nI_lt (b := 4) (by omega) (by decide)) c35
              · -- not taken 16
                exact absurd c16 (by decide)
          · cases hk1
            have c := (ih 0 (d + 1) (i + 1) e _ _ L R (by omega) hR h2 (hU.fr (pd_up_nb (by decide)) (fun j => pd_up_nb (by decide))) (by omega) hx).1 rfl
            obtain ⟨a1, a2, a3, a4, e2, a5, a6, -⟩ := pP_ok hT f 0 (d + 1) (i + 1) e j e1 (by omega) (by omega) hlt hx
            have hj := (h.1.2 j a2).2.2.2.1
            have hlen : e1.length < 600 := by rw [a5, List.length_append]; omega
            refine at_aload_n dX6_readPart_0 rfl ?_
            refine at_cv0 cvX6_29 sd_1 (ev_X6_kind hR h) (by omega) ⟨Nat.le_refl _, Nat.le_refl _⟩ (Nat.le_of_ble_eq_true rfl) dX6_readPart_1 (pd_k1 ?_)
            refine at_bipush dX6_readPart_4 pc_b11 ?_
            refine at_icmpne (tgt := 13) dX6_readPart_6 (by decide) (fun c6 => ?_) (fun c6 => ?_)
            · -- taken 6
              exact absurd ((eK 11 (by decide)).mpr h11) c6
            · -- not taken 6
              refine at_iconst dX6_readPart_9 pc_i1 ?_
              refine at_goto (tgt := 14) dX6_readPart_10 (by decide) ?_
              refine at_istore_n dX6_readPart_14 rfl (Nat.le_of_ble_eq_true rfl) ?_
              refine at_iload_n dX6_readPart_15 rfl ?_
              refine at_ifne (tgt := 33) dX6_readPart_16 (by decide) (fun c16 => ?_) (fun c16 => ?_)
              · -- taken 16
                refine at_iload_n dX6_readPart_33 rfl ?_
                refine at_iconst dX6_readPart_34 pc_i4 ?_
                refine at_icmplt (tgt := 48) dX6_readPart_35 (by decide) (fun c35 => ?_) (fun c35 => ?_)
                · -- taken 35
                  refine at_aload_n dX6_readPart_48 rfl ?_
                  refine at_cv0 cvX6_89 sd_1 (ev_X6_advance h hlt) (by omega) ⟨Nat.le_refl _, Nat.le_refl _⟩ (Nat.le_of_ble_eq_true rfl) dX6_readPart_49 (pd_k0 ?_)
                  refine at_iload_n dX6_readPart_52 rfl ?_
                  refine at_ifne (tgt := 81) dX6_readPart_53 (by decide) (fun c53 => ?_) (fun c53 => ?_)
                  · -- taken 53
                    refine at_aload_n dX6_readPart_81 rfl ?_
                    refine at_iload_n dX6_readPart_82 rfl ?_
                    refine at_iconst dX6_readPart_83 pc_i1 ?_
                    refine at_iadd dX6_readPart_84 ?_
                    rw [nI_1]
                    refine at_cv1 cvX6_143 sd_1 (c) (by omega) ⟨Nat.le_refl _, Nat.le_refl _⟩ (Nat.le_of_ble_eq_true rfl) dX6_readPart_85 (pd_kpl fun I2 hF h2 h3 => ?_)
                    refine at_ifne (tgt := 93) dX6_readPart_88 (by decide) (fun c88 => ?_) (fun c88 => ?_)
                    · -- taken 88
                      refine at_aload_n dX6_readPart_93 rfl ?_
                      refine at_getr (8) flX6_21 rfl sd_1 (rs_1_1 hR) dX6_readPart_94 ?_
                      refine at_getr (8 + 8) flX6_134 rfl (sd_P0 pb_8) (rs_P16 hR pb_8) dX6_readPart_97 ?_
                      refine at_iconst dX6_readPart_100 pc_im1 ?_
                      refine at_cv1 cvX6_140 (sd_P8 pb_8) (ev_X4_add (c := 8) hR pb_8 h3.1 hlen _) (by omega) ⟨Nat.le_refl _, Nat.le_refl _⟩ (Nat.le_of_ble_eq_true rfl) dX6_readPart_101 (pd_k0 ?_)
                      refine at_iconst dX6_readPart_104 pc_i1 ?_
                      refine at_zret rfl dX6_readPart_105 (by first | exact Or.inl rfl | exact Or.inr rfl | assumption) ?_
                      exact ⟨_, rfl, (FB.rf.up4.tr hF).add, rfl, by rw [pd_up_nb (by decide), pd_up_nb (by decide)]; exact h2, h3.add rfl⟩
                    · -- not taken 88
                      exact absurd c88 (by decide)
                  · -- not taken 53
                    exact absurd c53 (by decide)
                · -- not taken 35
                  exact absurd (nI_lt (b := 4) (by omega) (by decide)) c35
              · -- not taken 16
                exact absurd c16 (by decide)
      · rw [if_neg h11] at hp
        by_cases h40 : T.1 i = 40
        · rw [if_pos h40] at hp
          have hlt := hT.lt hiN (by omega)
          have h2 := h.adv hlt
          by_cases h4 : 4 ≤ d
          · rw [if_pos h4] at hp
            cases hp
            refine at_aload_n dX6_readPart_0 rfl ?_
            refine at_cv0 cvX6_29 sd_1 (ev_X6_kind hR h) (by omega) ⟨Nat.le_refl _, Nat.le_refl _⟩ (Nat.le_of_ble_eq_true rfl) dX6_readPart_1 (pd_k1 ?_)
            refine at_bipush dX6_readPart_4 pc_b11 ?_
            refine at_icmpne (tgt := 13) dX6_readPart_6 (by decide) (fun c6 => ?_) (fun c6 => ?_)
            · -- taken 6
              refine at_iconst dX6_readPart_13 pc_i0 ?_
              refine at_istore_n dX6_readPart_14 rfl (Nat.le_of_ble_eq_true rfl) ?_
              refine at_iload_n dX6_readPart_15 rfl ?_
              refine at_ifne (tgt := 33) dX6_readPart_16 (by decide) (fun c16 => ?_) (fun c16 => ?_)
              · -- taken 16
                exact absurd rfl c16
              · -- not taken 16
                refine at_aload_n dX6_readPart_19 rfl ?_
                refine at_cv0 cvX6_29 sd_1 (ev_X6_kind hR h) (by omega) ⟨Nat.le_refl _, Nat.le_refl _⟩ (Nat.le_of_ble_eq_true rfl) dX6_readPart_20 (pd_k1 ?_)
                refine at_bipush dX6_readPart_23 pc_b40 ?_
                refine at_icmpeq (tgt := 33) dX6_readPart_25 (by decide) (fun c25 => ?_) (fun c25 => ?_)
                · -- taken 25
                  refine at_iload_n dX6_readPart_33 rfl ?_
                  refine at_iconst dX6_readPart_34 pc_i4 ?_
                  refine at_icmplt (tgt := 48) dX6_readPart_35 (by decide) (fun c35 => ?_) (fun c35 => ?_)
                  · -- taken 35
                    exact absurd c35 (nI_nlt (b := 4) h4 (by omega))
                  · -- not taken 35
                    refine at_aload_n dX6_readPart_38 rfl ?_
                    refine at_iconst dX6_readPart_39 pc_i5 ?_
                    refine at_aload_n dX6_readPart_40 rfl ?_
                    refine at_cv0 cvX6_62 sd_1 (ev_X6_place hR h) (by omega) ⟨Nat.le_refl _, Nat.le_refl _⟩ (Nat.le_of_ble_eq_true rfl) dX6_readPart_41 (pd_k1 ?_)
                    refine at_cv2 cvX6_65 sd_1 (ev_X6_refuse 5 _) (by omega) ⟨Nat.le_refl _, Nat.le_refl _⟩ (Nat.le_of_ble_eq_true rfl) dX6_readPart_44 (pd_k1 ?_)
                    refine at_zret rfl dX6_readPart_47 (by first | exact Or.inl rfl | exact Or.inr rfl | assumption) ?_
                    exact ⟨rfI I (5, T.2.2.2 i), rfl, FB.rf.rfI, rfl, rfI_2.1, rfI_2.2⟩
                · -- not taken 25
                  exact absurd ((eK 40 (by decide)).mpr h40) c25
            · -- not taken 6
              exact absurd ((eK 11 (by decide)).mp c6) h11
          · rw [if_neg h4] at hp
            have hq := hT.2.2.2.1 i hlt
            rcases pThen_some hp with ⟨z, hx, rfl⟩ | ⟨j, e1, hx, hk1⟩
            · have c := (ih 2 (d + 1) (i + 1) e _ _ L R (by omega) hR h2 (hU.fr (pd_up_nb (by decide)) (fun j => pd_up_nb (by decide))) (by omega) hx).2.2.1 rfl
              refine at_aload_n dX6_readPart_0 rfl ?_
              refine at_cv0 cvX6_29 sd_1 (ev_X6_kind hR h) (by omega) ⟨Nat.le_refl _, Nat.le_refl _⟩ (Nat.le_of_ble_eq_true rfl) dX6_readPart_1 (pd_k1 ?_)
              refine at_bipush dX6_readPart_4 pc_b11 ?_
              refine at_icmpne (tgt := 13) dX6_readPart_6 (by decide) (fun c6 => ?_) (fun c6 => ?_)
              · -- taken 6
                refine at_iconst dX6_readPart_13 pc_i0 ?_
                refine at_istore_n dX6_readPart_14 rfl (Nat.le_of_ble_eq_true rfl) ?_
                refine at_iload_n dX6_readPart_15 rfl ?_
                refine at_ifne (tgt := 33) dX6_readPart_16 (by decide) (fun c16 => ?_) (fun c16 => ?_)
                · -- taken 16
                  exact absurd rfl c16
                · -- not taken 16
                  refine at_aload_n dX6_readPart_19 rfl ?_
                  refine at_cv0 cvX6_29 sd_1 (ev_X6_kind hR h) (by omega) ⟨Nat.le_refl _, Nat.le_refl _⟩ (Nat.le_of_ble_eq_true rfl) dX6_readPart_20 (pd_k1 ?_)
                  refine at_bipush dX6_readPart_23 pc_b40 ?_
                  refine at_icmpeq (tgt := 33) dX6_readPart_25 (by decide) (fun c25 => ?_) (fun c25 => ?_)
                  · -- taken 25
                    refine at_iload_n dX6_readPart_33 rfl ?_
                    refine at_iconst dX6_readPart_34 pc_i4 ?_
                    refine at_icmplt (tgt := 48) dX6_readPart_35 (by decide) (fun c35 => ?_) (fun c35 => ?_)
                    · -- taken 35
                      refine at_aload_n dX6_readPart_48 rfl ?_
                      refine at_cv0 cvX6_89 sd_1 (ev_X6_advance h hlt) (by omega) ⟨Nat.le_refl _, Nat.le_refl _⟩ (Nat.le_of_ble_eq_true rfl) dX6_readPart_49 (pd_k0 ?_)
                      refine at_iload_n dX6_readPart_52 rfl ?_
                      refine at_ifne (tgt := 81) dX6_readPart_53 (by decide) (fun c53 => ?_) (fun c53 => ?_)
                      · -- taken 53
                        exact absurd rfl c53
                      · -- not taken 53
                        refine at_aload_n dX6_readPart_56 rfl ?_
                        refine at_iload_n dX6_readPart_57 rfl ?_
                        refine at_iconst dX6_readPart_58 pc_i1 ?_
                        refine at_iadd dX6_readPart_59 ?_
                        rw [nI_1]
                        refine at_cv1 cvX6_58 sd_1 (c) (by omega) ⟨Nat.le_refl _, Nat.le_refl _⟩ (Nat.le_of_ble_eq_true rfl) dX6_readPart_60 (pd_kpr fun I2 hF h2 h3 => ?_)
                        refine at_ifeq (tgt := 79) dX6_readPart_63 (by decide) (fun c63 => ?_) (fun c63 => ?_)
                        · -- taken 63
                          refine at_iconst dX6_readPart_79 pc_i0 ?_
                          refine at_zret rfl dX6_readPart_80 (by first | exact Or.inl rfl | exact Or.inr rfl | assumption) ?_
                          exact ⟨_, rfl, FB.rf.up4.tr hF, rfl, h2, h3⟩
                        · -- not taken 63
                          exact absurd rfl c63
                    · -- not taken 35
                      exact absurd (nI_lt (b := 4) (by omega) (by decide)) c35
                  · -- not taken 25
                    exact absurd ((eK 40 (by decide)).mpr h40) c25
              · -- not taken 6
                exact absurd ((eK 11 (by decide)).mp c6) h11
            · have c := (ih 2 (d + 1) (i + 1) e _ _ L R (by omega) hR h2 (hU.fr (pd_up_nb (by decide)) (fun j => pd_up_nb (by decide))) (by omega) hx).2.2.1 rfl
              obtain ⟨a1, a2, -⟩ := pP_ok hT f 2 (d + 1) (i + 1) e j e1 (by omega) (by omega) hlt hx
              by_cases h41 : T.1 j = 41
              · rw [if_pos h41] at hk1
                cases hk1
                have cs := fun (I2 : Nat → Nat → Int32) (hF : FB (pd_up I 1 4 (nI (i + 1))) I2) (h2 : I2 1 4 = nI j) => (show pd_Ev G mi_X6_takeSign 2 0 0 [.ref (pd_z G + 1), .int (nI 41)] (SD, false, I2, L, R) (pd_rt (.int 1) (SD, false, pd_up I2 1 4 (nI (j + 1)), L, R)) from by
                  have := ev_X6_takeSign (G := G) (L := L) (c := 41) hR (⟨(h.1.fb FB.rf.up4).fb hF, h2, a2⟩ : RD I2 T N j) (by decide) (by decide) hT
                  simp only [h41, if_true] at this
                  exact this)
                refine at_aload_n dX6_readPart_0 rfl ?_
                refine at_cv0 cvX6_29 sd_1 (ev_X6_kind hR h) (by omega) ⟨Nat.le_refl _, Nat.le_refl _⟩ (Nat.le_of_ble_eq_true rfl) dX6_readPart_1 (pd_k1 ?_)
                refine at_bipush dX6_readPart_4 pc_b11 ?_
                refine at_icmpne (tgt := 13) dX6_readPart_6 (by decide) (fun c6 => ?_) (fun c6 => ?_)
                · -- taken 6
                  refine at_iconst dX6_readPart_13 pc_i0 ?_
                  refine at_istore_n dX6_readPart_14 rfl (Nat.le_of_ble_eq_true rfl) ?_
                  refine at_iload_n dX6_readPart_15 rfl ?_
                  refine at_ifne (tgt := 33) dX6_readPart_16 (by decide) (fun c16 => ?_) (fun c16 => ?_)
                  · -- taken 16
                    exact absurd rfl c16
                  · -- not taken 16
                    refine at_aload_n dX6_readPart_19 rfl ?_
                    refine at_cv0 cvX6_29 sd_1 (ev_X6_kind hR h) (by omega) ⟨Nat.le_refl _, Nat.le_refl _⟩ (Nat.le_of_ble_eq_true rfl) dX6_readPart_20 (pd_k1 ?_)
                    refine at_bipush dX6_readPart_23 pc_b40 ?_
                    refine at_icmpeq (tgt := 33) dX6_readPart_25 (by decide) (fun c25 => ?_) (fun c25 => ?_)
                    · -- taken 25
                      refine at_iload_n dX6_readPart_33 rfl ?_
                      refine at_iconst dX6_readPart_34 pc_i4 ?_
                      refine at_icmplt (tgt := 48) dX6_readPart_35 (by decide) (fun c35 => ?_) (fun c35 => ?_)
                      · -- taken 35
                        refine at_aload_n dX6_readPart_48 rfl ?_
                        refine at_cv0 cvX6_89 sd_1 (ev_X6_advance h hlt) (by omega) ⟨Nat.le_refl _, Nat.le_refl _⟩ (Nat.le_of_ble_eq_true rfl) dX6_readPart_49 (pd_k0 ?_)
                        refine at_iload_n dX6_readPart_52 rfl ?_
                        refine at_ifne (tgt := 81) dX6_readPart_53 (by decide) (fun c53 => ?_) (fun c53 => ?_)
                        · -- taken 53
                          exact absurd rfl c53
                        · -- not taken 53
                          refine at_aload_n dX6_readPart_56 rfl ?_
                          refine at_iload_n dX6_readPart_57 rfl ?_
                          refine at_iconst dX6_readPart_58 pc_i1 ?_
                          refine at_iadd dX6_readPart_59 ?_
                          rw [nI_1]
                          refine at_cv1 cvX6_58 sd_1 (c) (by omega) ⟨Nat.le_refl _, Nat.le_refl _⟩ (Nat.le_of_ble_eq_true rfl) dX6_readPart_60 (pd_kpl fun I2 hF h2 h3 => ?_)
                          refine at_ifeq (tgt := 79) dX6_readPart_63 (by decide) (fun c63 => ?_) (fun c63 => ?_)
                          · -- taken 63
                            exact absurd c63 (by decide)
                          · -- not taken 63
                            refine at_aload_n dX6_readPart_66 rfl ?_
                            refine at_bipush dX6_readPart_67 pc_b41 ?_
                            refine at_cv1 cvX6_69 sd_1 (cs I2 hF h2) (by omega) ⟨Nat.le_refl _, Nat.le_refl _⟩ (Nat.le_of_ble_eq_true rfl) dX6_readPart_69 (pd_k1 ?_)
                            refine at_ifeq (tgt := 79) dX6_readPart_72 (by decide) (fun c72 => ?_) (fun c72 => ?_)
                            · -- taken 72
                              exact absurd c72 (by decide)
                            · -- not taken 72
                              refine at_iconst dX6_readPart_75 pc_i1 ?_
                              refine at_goto (tgt := 80) dX6_readPart_76 (by decide) ?_
                              refine at_zret rfl dX6_readPart_80 (by first | exact Or.inl rfl | exact Or.inr rfl | assumption) ?_
                              exact ⟨_, rfl, (FB.rf.up4.tr hF).up4, rfl, pd_up_at, h3.fr (pd_up_nb (by decide)) (fun j => pd_up_nb (by decide))⟩
                      · -- not taken 35
                        exact absurd (nI_lt (b := 4) (by omega) (by decide)) c35
                    · -- not taken 25
                      exact absurd ((eK 40 (by decide)).mpr h40) c25
                · -- not taken 6
                  exact absurd ((eK 11 (by decide)).mp c6) h11
              · rw [if_neg h41] at hk1
                cases hk1
                have cs := fun (I2 : Nat → Nat → Int32) (hF : FB (pd_up I 1 4 (nI (i + 1))) I2) (h2 : I2 1 4 = nI j) => (show pd_Ev G mi_X6_takeSign 2 0 0 [.ref (pd_z G + 1), .int (nI 41)] (SD, false, I2, L, R) (pd_rt (.int 0) (SD, false, rfI I2 (1, T.2.2.2 j), L, R)) from by
                  have := ev_X6_takeSign (G := G) (L := L) (c := 41) hR (⟨(h.1.fb FB.rf.up4).fb hF, h2, a2⟩ : RD I2 T N j) (by decide) (by decide) hT
                  simp only [h41, if_false] at this
                  exact this)
                refine at_aload_n dX6_readPart_0 rfl ?_
                refine at_cv0 cvX6_29 sd_1 (ev_X6_kind hR h) (by omega) ⟨Nat.le_refl _, Nat.le_refl _⟩ (Nat.le_of_ble_eq_true rfl) dX6_readPart_1 (pd_k1 ?_)
                refine at_bipush dX6_readPart_4 pc_b11 ?_
                refine at_icmpne (tgt := 13) dX6_readPart_6 (by decide) (fun c6 => ?_) (fun c6 => ?_)
                · -- taken 6
                  refine at_iconst dX6_readPart_13 pc_i0 ?_
                  refine at_istore_n dX6_readPart_14 rfl (Nat.le_of_ble_eq_true rfl) ?_
                  refine at_iload_n dX6_readPart_15 rfl ?_
                  refine at_ifne (tgt := 33) dX6_readPart_16 (by decide) (fun c16 => ?_) (fun c16 => ?_)
                  · -- taken 16
                    exact absurd rfl c16
                  · -- not taken 16
                    refine at_aload_n dX6_readPart_19 rfl ?_
                    refine at_cv0 cvX6_29 sd_1 (ev_X6_kind hR h) (by omega) ⟨Nat.le_refl _, Nat.le_refl _⟩ (Nat.le_of_ble_eq_true rfl) dX6_readPart_20 (pd_k1 ?_)
                    refine at_bipush dX6_readPart_23 pc_b40 ?_
                    refine at_icmpeq (tgt := 33) dX6_readPart_25 (by decide) (fun c25 => ?_) (fun c25 => ?_)
                    · -- taken 25
                      refine at_iload_n dX6_readPart_33 rfl ?_
                      refine at_iconst dX6_readPart_34 pc_i4 ?_
                      refine at_icmplt (tgt := 48) dX6_readPart_35 (by decide) (fun c35 => ?_) (fun c35 => ?_)
                      · -- taken 35
                        refine at_aload_n dX6_readPart_48 rfl ?_
                        refine at_cv0 cvX6_89 sd_1 (ev_X6_advance h hlt) (by omega) ⟨Nat.le_refl _, Nat.le_refl _⟩ (Nat.le_of_ble_eq_true rfl) dX6_readPart_49 (pd_k0 ?_)
                        refine at_iload_n dX6_readPart_52 rfl ?_
                        refine at_ifne (tgt := 81) dX6_readPart_53 (by decide) (fun c53 => ?_) (fun c53 => ?_)
                        · -- taken 53
                          exact absurd rfl c53
                        · -- not taken 53
                          refine at_aload_n dX6_readPart_56 rfl ?_
                          refine at_iload_n dX6_readPart_57 rfl ?_
                          refine at_iconst dX6_readPart_58 pc_i1 ?_
                          refine at_iadd dX6_readPart_59 ?_
                          rw [nI_1]
                          refine at_cv1 cvX6_58 sd_1 (c) (by omega) ⟨Nat.le_refl _, Nat.le_refl _⟩ (Nat.le_of_ble_eq_true rfl) dX6_readPart_60 (pd_kpl fun I2 hF h2 h3 => ?_)
                          refine at_ifeq (tgt := 79) dX6_readPart_63 (by decide) (fun c63 => ?_) (fun c63 => ?_)
                          · -- taken 63
                            exact absurd c63 (by decide)
                          · -- not taken 63
                            refine at_aload_n dX6_readPart_66 rfl ?_
                            refine at_bipush dX6_readPart_67 pc_b41 ?_
                            refine at_cv1 cvX6_69 sd_1 (cs I2 hF h2) (by omega) ⟨Nat.le_refl _, Nat.le_refl _⟩ (Nat.le_of_ble_eq_true rfl) dX6_readPart_69 (pd_k1 ?_)
                            refine at_ifeq (tgt := 79) dX6_readPart_72 (by decide) (fun c72 => ?_) (fun c72 => ?_)
                            · -- taken 72
                              refine at_iconst dX6_readPart_79 pc_i0 ?_
                              refine at_zret rfl dX6_readPart_80 (by first | exact Or.inl rfl | exact Or.inr rfl | assumption) ?_
                              exact ⟨_, rfl, (FB.rf.up4.tr hF).rfI, rfl, rfI_2.1, rfI_2.2⟩
                            · -- not taken 72
                              exact absurd rfl c72
                      · -- not taken 35
                        exact absurd (nI_lt (b := 4) (by omega) (by decide)) c35
                    · -- not taken 25
                      exact absurd ((eK 40 (by decide)).mpr h40) c25
                · -- not taken 6
                  exact absurd ((eK 11 (by decide)).mp c6) h11
        · rw [if_neg h40] at hp
          have c := ev_X6_cmp (G := G) (L := L) hR h hT hU (by omega)
          cases hc : pCmp T i with
          | inl z =>
            obtain ⟨z1, z2⟩ := z
            rw [hc] at c hp
            cases hp
            refine at_aload_n dX6_readPart_0 rfl ?_
            refine at_cv0 cvX6_29 sd_1 (ev_X6_kind hR h) (by omega) ⟨Nat.le_refl _, Nat.le_refl _⟩ (Nat.le_of_ble_eq_true rfl) dX6_readPart_1 (pd_k1 ?_)
            refine at_bipush dX6_readPart_4 pc_b11 ?_
            refine at_icmpne (tgt := 13) dX6_readPart_6 (by decide) (fun c6 => ?_) (fun c6 => ?_)
            · -- taken 6
              refine at_iconst dX6_readPart_13 pc_i0 ?_
              refine at_istore_n dX6_readPart_14 rfl (Nat.le_of_ble_eq_true rfl) ?_
              refine at_iload_n dX6_readPart_15 rfl ?_
              refine at_ifne (tgt := 33) dX6_readPart_16 (by decide) (fun c16 => ?_) (fun c16 => ?_)
              · -- taken 16
                exact absurd rfl c16
              · -- not taken 16
                refine at_aload_n dX6_readPart_19 rfl ?_
                refine at_cv0 cvX6_29 sd_1 (ev_X6_kind hR h) (by omega) ⟨Nat.le_refl _, Nat.le_refl _⟩ (Nat.le_of_ble_eq_true rfl) dX6_readPart_20 (pd_k1 ?_)
                refine at_bipush dX6_readPart_23 pc_b40 ?_
                refine at_icmpeq (tgt := 33) dX6_readPart_25 (by decide) (fun c25 => ?_) (fun c25 => ?_)
                · -- taken 25
                  exact absurd ((eK 40 (by decide)).mp c25) h40
                · -- not taken 25
                  refine at_aload_n dX6_readPart_28 rfl ?_
                  refine at_cv0 cvX6_146 sd_1 (c) (by omega) ⟨Nat.le_refl _, Nat.le_refl _⟩ (Nat.le_of_ble_eq_true rfl) dX6_readPart_29 (pd_kpl fun I2 hF h2 h3 => ?_)
                  refine at_zret rfl dX6_readPart_32 (by first | exact Or.inl rfl | exact Or.inr rfl | assumption) ?_
                  exact ⟨_, rfl, hF, rfl, h2, h3⟩
            · -- not taken 6
              exact absurd ((eK 11 (by decide)).mp c6) h11
          | inr z =>
            rw [hc] at c hp
            cases hp
            refine at_aload_n dX6_readPart_0 rfl ?_
            refine at_cv0 cvX6_29 sd_1 (ev_X6_kind hR h) (by omega) ⟨Nat.le_refl _, Nat.le_refl _⟩ (Nat.le_of_ble_eq_true rfl) dX6_readPart_1 (pd_k1 ?_)
            refine at_bipush dX6_readPart_4 pc_b11 ?_
            refine at_icmpne (tgt := 13) dX6_readPart_6 (by decide) (fun c6 => ?_) (fun c6 => ?_)
            · -- taken 6
              refine at_iconst dX6_readPart_13 pc_i0 ?_
              refine at_istore_n dX6_readPart_14 rfl (Nat.le_of_ble_eq_true rfl) ?_
              refine at_iload_n dX6_readPart_15 rfl ?_
              refine at_ifne (tgt := 33) dX6_readPart_16 (by decide) (fun c16 => ?_) (fun c16 => ?_)
              · -- taken 16
                exact absurd rfl c16
              · -- not taken 16
                refine at_aload_n dX6_readPart_19 rfl ?_
                refine at_cv0 cvX6_29 sd_1 (ev_X6_kind hR h) (by omega) ⟨Nat.le_refl _, Nat.le_refl _⟩ (Nat.le_of_ble_eq_true rfl) dX6_readPart_20 (pd_k1 ?_)
                refine at_bipush dX6_readPart_23 pc_b40 ?_
                refine at_icmpeq (tgt := 33) dX6_readPart_25 (by decide) (fun c25 => ?_) (fun c25 => ?_)
                · -- taken 25
                  exact absurd ((eK 40 (by decide)).mp c25) h40
                · -- not taken 25
                  refine at_aload_n dX6_readPart_28 rfl ?_
                  refine at_cv0 cvX6_146 sd_1 (c) (by omega) ⟨Nat.le_refl _, Nat.le_refl _⟩ (Nat.le_of_ble_eq_true rfl) dX6_readPart_29 (pd_kpr fun I2 hF h2 h3 => ?_)
                  refine at_zret rfl dX6_readPart_32 (by first | exact Or.inl rfl | exact Or.inr rfl | assumption) ?_
                  exact ⟨_, rfl, hF, rfl, h2, h3⟩
            · -- not taken 6
              exact absurd ((eK 11 (by decide)).mp c6) h11
    · subst hm
      rw [pP] at hp
      simp only [show ¬ (1 : Nat) = 0 by decide, if_true, if_false] at hp
      refine pd_ev 1 (lo := [some (.ref (pd_z G + 1)), some (.int (nI d)), none]) (by decide +kernel) (Nat.le_of_ble_eq_true rfl) rfl ?_
      rcases pThen_some hp with ⟨z, hx, rfl⟩ | ⟨j, e1, hx, hk1⟩
      · have c := (ih 0 d i e _ _ L R hd hR h hU he hx).1 rfl
        refine at_aload_n dX6_readChain_0 rfl ?_
        refine at_iload_n dX6_readChain_1 rfl ?_
        refine at_cv1 cvX6_143 sd_1 (c) (by omega) ⟨Nat.le_refl _, Nat.le_refl _⟩ (Nat.le_of_ble_eq_true rfl) dX6_readChain_2 (pd_kpr fun I2 hF h2 h3 => ?_)
        refine at_ifne (tgt := 10) dX6_readChain_5 (by decide) (fun c5 => ?_) (fun c5 => ?_)
        · -- taken 5
          exact absurd rfl c5
        · -- not taken 5
          refine at_iconst dX6_readChain_8 pc_i0 ?_
          refine at_zret rfl dX6_readChain_9 (by first | exact Or.inl rfl | exact Or.inr rfl | assumption) ?_
          exact ⟨_, rfl, hF, rfl, h2, h3⟩
      · have c := (ih 0 d i e _ _ L R hd hR h hU he hx).1 rfl
        obtain ⟨a1, a2, a3, a4, e2, a5, a6, -⟩ := pP_ok hT f 0 d i e j e1 (by omega) hd hiN hx
        have hlen : 2 * e1.length ≤ T.2.2.2 j := by rw [a5, List.length_append]; omega
        have c3 := fun (I2 : Nat → Nat → Int32) (hF : FB I I2) (h2 : I2 1 4 = nI j) (h3 : RU I2 e1) => (ih 3 d j e1 res I2 L R hd hR ⟨h.1.fb hF, h2, a2⟩ h3 hlen hk1).2.2.2.1 rfl 0 (by omega)
        refine at_aload_n dX6_readChain_0 rfl ?_
        refine at_iload_n dX6_readChain_1 rfl ?_
        refine at_cv1 cvX6_143 sd_1 (c) (by omega) ⟨Nat.le_refl _, Nat.le_refl _⟩ (Nat.le_of_ble_eq_true rfl) dX6_readChain_2 (pd_kpl fun I2 hF h2 h3 => ?_)
        refine at_ifne (tgt := 10) dX6_readChain_5 (by decide) (fun c5 => ?_) (fun c5 => ?_)
        · -- taken 5
          refine at_iconst dX6_readChain_10 pc_i0 ?_
          refine at_istore_n dX6_readChain_11 rfl (Nat.le_of_ble_eq_true rfl) ?_
          exact pd_At_mono (c3 I2 hF h2 h3) (fun o M' hq => QP.fr hF hq)
        · -- not taken 5
          exact absurd c5 (by decide)
    · subst hm
      rw [pP] at hp
      simp only [show ¬ (2 : Nat) = 0 by decide, show ¬ (2 : Nat) = 1 by decide, if_true, if_false] at hp
      refine pd_ev 1 (lo := [some (.ref (pd_z G + 1)), some (.int (nI d)), none]) (by decide +kernel) (Nat.le_of_ble_eq_true rfl) rfl ?_
      rcases pThen_some hp with ⟨z, hx, rfl⟩ | ⟨j, e1, hx, hk1⟩
      · have c := (ih 1 d i e _ _ L R hd hR h hU he hx).2.1 rfl
        refine at_aload_n dX6_readChoice_0 rfl ?_
        refine at_iload_n dX6_readChoice_1 rfl ?_
        refine at_cv1 cvX6_131 sd_1 (c) (by omega) ⟨Nat.le_refl _, Nat.le_refl _⟩ (Nat.le_of_ble_eq_true rfl) dX6_readChoice_2 (pd_kpr fun I2 hF h2 h3 => ?_)
        refine at_ifne (tgt := 10) dX6_readChoice_5 (by decide) (fun c5 => ?_) (fun c5 => ?_)
        · -- taken 5
          exact absurd rfl c5
        · -- not taken 5
          refine at_iconst dX6_readChoice_8 pc_i0 ?_
          refine at_zret rfl dX6_readChoice_9 (by first | exact Or.inl rfl | exact Or.inr rfl | assumption) ?_
          exact ⟨_, rfl, hF, rfl, h2, h3⟩
      · have c := (ih 1 d i e _ _ L R hd hR h hU he hx).2.1 rfl
        obtain ⟨a1, a2, a3, a4, e2, a5, a6, -⟩ := pP_ok hT f 1 d i e j e1 (by omega) hd hiN hx
        have hlen : 2 * e1.length ≤ T.2.2.2 j := by rw [a5, List.length_append]; omega
        have c3 := fun (I2 : Nat → Nat → Int32) (hF : FB I I2) (h2 : I2 1 4 = nI j) (h3 : RU I2 e1) => (ih 4 d j e1 res I2 L R hd hR ⟨h.1.fb hF, h2, a2⟩ h3 hlen hk1).2.2.2.2 rfl 0 (by omega)
        refine at_aload_n dX6_readChoice_0 rfl ?_
        refine at_iload_n dX6_readChoice_1 rfl ?_
        refine at_cv1 cvX6_131 sd_1 (c) (by omega) ⟨Nat.le_refl _, Nat.le_refl _⟩ (Nat.le_of_ble_eq_true rfl) dX6_readChoice_2 (pd_kpl fun I2 hF h2 h3 => ?_)
        refine at_ifne (tgt := 10) dX6_readChoice_5 (by decide) (fun c5 => ?_) (fun c5 => ?_)
        · -- taken 5
          refine at_iconst dX6_readChoice_10 pc_i0 ?_
          refine at_istore_n dX6_readChoice_11 rfl (Nat.le_of_ble_eq_true rfl) ?_
          exact pd_At_mono (c3 I2 hF h2 h3) (fun o M' hq => QP.fr hF hq)
        · -- not taken 5
          exact absurd c5 (by decide)
    · subst hm
      intro mo hmo
      rw [pP] at hp
      simp only [show ¬ (3 : Nat) = 0 by decide, show ¬ (3 : Nat) = 1 by decide, show ¬ (3 : Nat) = 2 by decide, if_true, if_false] at hp
      by_cases h10 : T.1 i = 10
      · rw [if_pos h10] at hp
        have hlt := hT.lt hiN (by omega)
        have h2 := h.adv hlt
        have hq := hT.2.2.2.2.2 i hlt (Or.inl h10)
        rcases pThen_some hp with ⟨z, hx, rfl⟩ | ⟨j, e1, hx, hk1⟩
        · have c := (ih 0 d (i + 1) e _ _ L R hd hR h2 (hU.fr (pd_up_nb (by decide)) (fun j => pd_up_nb (by decide))) (by omega) hx).1 rfl
          refine at_iload_n dX6_readChain_12 rfl ?_
          refine at_sipush dX6_readChain_13 pc_s600 ?_
          refine at_icmpge (tgt := 60) dX6_readChain_16 (by decide) (fun c16 => ?_) (fun c16 => ?_)
          · -- taken 16
            exact absurd c16 (nI_ge (b := 600) (by omega) (by decide))
          · -- not taken 16
            refine at_aload_n dX6_readChain_19 rfl ?_
            refine at_cv0 cvX6_29 sd_1 (ev_X6_kind hR h) (by omega) ⟨Nat.le_refl _, Nat.le_refl _⟩ (Nat.le_of_ble_eq_true rfl) dX6_readChain_20 (pd_k1 ?_)
            refine at_bipush dX6_readChain_23 pc_b10 ?_
            refine at_icmpne (tgt := 60) dX6_readChain_25 (by decide) (fun c25 => ?_) (fun c25 => ?_)
            · -- taken 25
              exact absurd ((eK 10 (by decide)).mpr h10) c25
            · -- not taken 25
              refine at_aload_n dX6_readChain_28 rfl ?_
              refine at_cv0 cvX6_89 sd_1 (ev_X6_advance h hlt) (by omega) ⟨Nat.le_refl _, Nat.le_refl _⟩ (Nat.le_of_ble_eq_true rfl) dX6_readChain_29 (pd_k0 ?_)
              refine at_aload_n dX6_readChain_32 rfl ?_
              refine at_iload_n dX6_readChain_33 rfl ?_
              refine at_cv1 cvX6_143 sd_1 (c) (by omega) ⟨Nat.le_refl _, Nat.le_refl _⟩ (Nat.le_of_ble_eq_true rfl) dX6_readChain_34 (pd_kpr fun I2 hF h2 h3 => ?_)
              refine at_ifne (tgt := 42) dX6_readChain_37 (by decide) (fun c37 => ?_) (fun c37 => ?_)
              · -- taken 37
                exact absurd rfl c37
              · -- not taken 37
                refine at_iconst dX6_readChain_40 pc_i0 ?_
                refine at_zret rfl dX6_readChain_41 (by first | exact Or.inl rfl | exact Or.inr rfl | assumption) ?_
                exact ⟨_, rfl, FB.rf.up4.tr hF, rfl, h2, h3⟩
        · have c := (ih 0 d (i + 1) e _ _ L R hd hR h2 (hU.fr (pd_up_nb (by decide)) (fun j => pd_up_nb (by decide))) (by omega) hx).1 rfl
          obtain ⟨a1, a2, a3, a4, e2, a5, a6, -⟩ := pP_ok hT f 0 d (i + 1) e j e1 (by omega) hd hlt hx
          have hj := (h.1.2 j a2).2.2.2.1
          have hlen : 2 * (e1.length + 1) ≤ T.2.2.2 j := by rw [a5, List.length_append]; omega
          have c3 := fun (I2 : Nat → Nat → Int32) (hF : FB (pd_up I 1 4 (nI (i + 1))) I2) (h2 : I2 1 4 = nI j) (h3 : RU I2 e1) => (ih 3 d j (e1 ++ [(4, 0, 0)]) res (pd_up (pd_up I2 17 e1.length (-2)) 16 1 (nI (e1.length + 1))) L R hd hR ⟨((h.1.fb FB.rf.up4).fb hF).fb FB.rf.add, by rw [pd_up_nb (by decide), pd_up_nb (by decide)]; exact h2, a2⟩ (h3.add rfl) (by rw [List.length_append]; exact hlen) hk1).2.2.2.1 rfl (mo + 1) (by omega)
          refine at_iload_n dX6_readChain_12 rfl ?_
          refine at_sipush dX6_readChain_13 pc_s600 ?_
          refine at_icmpge (tgt := 60) dX6_readChain_16 (by decide) (fun c16 => ?_) (fun c16 => ?_)
          · -- taken 16
            exact absurd c16 (nI_ge (b := 600) (by omega) (by decide))
          · -- not taken 16
            refine at_aload_n dX6_readChain_19 rfl ?_
            refine at_cv0 cvX6_29 sd_1 (ev_X6_kind hR h) (by omega) ⟨Nat.le_refl _, Nat.le_refl _⟩ (Nat.le_of_ble_eq_true rfl) dX6_readChain_20 (pd_k1 ?_)
            refine at_bipush dX6_readChain_23 pc_b10 ?_
            refine at_icmpne (tgt := 60) dX6_readChain_25 (by decide) (fun c25 => ?_) (fun c25 => ?_)
            · -- taken 25
              exact absurd ((eK 10 (by decide)).mpr h10) c25
            · -- not taken 25
              refine at_aload_n dX6_readChain_28 rfl ?_
              refine at_cv0 cvX6_89 sd_1 (ev_X6_advance h hlt) (by omega) ⟨Nat.le_refl _, Nat.le_refl _⟩ (Nat.le_of_ble_eq_true rfl) dX6_readChain_29 (pd_k0 ?_)
              refine at_aload_n dX6_readChain_32 rfl ?_
              refine at_iload_n dX6_readChain_33 rfl ?_
              refine at_cv1 cvX6_143 sd_1 (c) (by omega) ⟨Nat.le_refl _, Nat.le_refl _⟩ (Nat.le_of_ble_eq_true rfl) dX6_readChain_34 (pd_kpl fun I2 hF h2 h3 => ?_)
              refine at_ifne (tgt := 42) dX6_readChain_37 (by decide) (fun c37 => ?_) (fun c37 => ?_)
              · -- taken 37
                refine at_aload_n dX6_readChain_42 rfl ?_
                refine at_getr (8) flX6_21 rfl sd_1 (rs_1_1 hR) dX6_readChain_43 ?_
                refine at_getr (8 + 8) flX6_134 rfl (sd_P0 pb_8) (rs_P16 hR pb_8) dX6_readChain_46 ?_
                refine at_bipush dX6_readChain_49 pc_bm2 ?_
                refine at_cv1 cvX6_140 (sd_P8 pb_8) (ev_X4_add (c := 8) hR pb_8 h3.1 (show e1.length < 600 by omega) _) (by omega) ⟨Nat.le_refl _, Nat.le_refl _⟩ (Nat.le_of_ble_eq_true rfl) dX6_readChain_51 (pd_k0 ?_)
                refine at_inc dX6_readChain_54 rfl pc_i1 rfl (Nat.le_of_ble_eq_true rfl) ?_
                refine at_goto (tgt := 12) dX6_readChain_57 (by decide) ?_
                rw [nI_1]
                exact pd_At_mono (c3 I2 hF h2 h3) (fun o M' hq => QP.fr (FB.rf.up4.tr hF).add hq)
              · -- not taken 37
                exact absurd c37 (by decide)
      · rw [if_neg h10] at hp
        cases hp
        refine at_iload_n dX6_readChain_12 rfl ?_
        refine at_sipush dX6_readChain_13 pc_s600 ?_
        refine at_icmpge (tgt := 60) dX6_readChain_16 (by decide) (fun c16 => ?_) (fun c16 => ?_)
        · -- taken 16
          refine at_iconst dX6_readChain_60 pc_i1 ?_
          refine at_zret rfl dX6_readChain_61 (by first | exact Or.inl rfl | exact Or.inr rfl | assumption) ?_
          exact ⟨_, rfl, FB.rf, rfl, h.2.1, hU⟩
        · -- not taken 16
          refine at_aload_n dX6_readChain_19 rfl ?_
          refine at_cv0 cvX6_29 sd_1 (ev_X6_kind hR h) (by omega) ⟨Nat.le_refl _, Nat.le_refl _⟩ (Nat.le_of_ble_eq_true rfl) dX6_readChain_20 (pd_k1 ?_)
          refine at_bipush dX6_readChain_23 pc_b10 ?_
          refine at_icmpne (tgt := 60) dX6_readChain_25 (by decide) (fun c25 => ?_) (fun c25 => ?_)
          · -- taken 25
            refine at_iconst dX6_readChain_60 pc_i1 ?_
            refine at_zret rfl dX6_readChain_61 (by first | exact Or.inl rfl | exact Or.inr rfl | assumption) ?_
            exact ⟨_, rfl, FB.rf, rfl, h.2.1, hU⟩
          · -- not taken 25
            exact absurd ((eK 10 (by decide)).mp c25) h10
    · subst hm
      intro mo hmo
      rw [pP] at hp
      simp only [show ¬ (4 : Nat) = 0 by decide, show ¬ (4 : Nat) = 1 by decide, show ¬ (4 : Nat) = 2 by decide, show ¬ (4 : Nat) = 3 by decide, if_false] at hp
      by_cases h9 : T.1 i = 9
      · rw [if_pos h9] at hp
        have hlt := hT.lt hiN (by omega)
        have h2 := h.adv hlt
        have hq := hT.2.2.2.2.1 i hlt h9
        rcases pThen_some hp with ⟨z, hx, rfl⟩ | ⟨j, e1, hx, hk1⟩
        · have c := (ih 1 d (i + 1) e _ _ L R hd hR h2 (hU.fr (pd_up_nb (by decide)) (fun j => pd_up_nb (by decide))) (by omega) hx).2.1 rfl
          refine at_iload_n dX6_readChoice_12 rfl ?_
          refine at_sipush dX6_readChoice_13 pc_s600 ?_
          refine at_icmpge (tgt := 60) dX6_readChoice_16 (by decide) (fun c16 => ?_) (fun c16 => ?_)
          · -- taken 16
            exact absurd c16 (nI_ge (b := 600) (by omega) (by decide))
          · -- not taken 16
            refine at_aload_n dX6_readChoice_19 rfl ?_
            refine at_cv0 cvX6_29 sd_1 (ev_X6_kind hR h) (by omega) ⟨Nat.le_refl _, Nat.le_refl _⟩ (Nat.le_of_ble_eq_true rfl) dX6_readChoice_20 (pd_k1 ?_)
            refine at_bipush dX6_readChoice_23 pc_b9 ?_
            refine at_icmpne (tgt := 60) dX6_readChoice_25 (by decide) (fun c25 => ?_) (fun c25 => ?_)
            · -- taken 25
              exact absurd ((eK 9 (by decide)).mpr h9) c25
            · -- not taken 25
              refine at_aload_n dX6_readChoice_28 rfl ?_
              refine at_cv0 cvX6_89 sd_1 (ev_X6_advance h hlt) (by omega) ⟨Nat.le_refl _, Nat.le_refl _⟩ (Nat.le_of_ble_eq_true rfl) dX6_readChoice_29 (pd_k0 ?_)
              refine at_aload_n dX6_readChoice_32 rfl ?_
              refine at_iload_n dX6_readChoice_33 rfl ?_
              refine at_cv1 cvX6_131 sd_1 (c) (by omega) ⟨Nat.le_refl _, Nat.le_refl _⟩ (Nat.le_of_ble_eq_true rfl) dX6_readChoice_34 (pd_kpr fun I2 hF h2 h3 => ?_)
              refine at_ifne (tgt := 42) dX6_readChoice_37 (by decide) (fun c37 => ?_) (fun c37 => ?_)
              · -- taken 37
                exact absurd rfl c37
              · -- not taken 37
                refine at_iconst dX6_readChoice_40 pc_i0 ?_
                refine at_zret rfl dX6_readChoice_41 (by first | exact Or.inl rfl | exact Or.inr rfl | assumption) ?_
                exact ⟨_, rfl, FB.rf.up4.tr hF, rfl, h2, h3⟩
        · have c := (ih 1 d (i + 1) e _ _ L R hd hR h2 (hU.fr (pd_up_nb (by decide)) (fun j => pd_up_nb (by decide))) (by omega) hx).2.1 rfl
          obtain ⟨a1, a2, a3, a4, e2, a5, a6, -⟩ := pP_ok hT f 1 d (i + 1) e j e1 (by omega) hd hlt hx
          have hj := (h.1.2 j a2).2.2.2.1
          have hlen : 2 * (e1.length + 1) ≤ T.2.2.2 j := by rw [a5, List.length_append]; omega
          have c3 := fun (I2 : Nat → Nat → Int32) (hF : FB (pd_up I 1 4 (nI (i + 1))) I2) (h2 : I2 1 4 = nI j) (h3 : RU I2 e1) => (ih 4 d j (e1 ++ [(5, 0, 0)]) res (pd_up (pd_up I2 17 e1.length (-3)) 16 1 (nI (e1.length + 1))) L R hd hR ⟨((h.1.fb FB.rf.up4).fb hF).fb FB.rf.add, by rw [pd_up_nb (by decide), pd_up_nb (by decide)]; exact h2, a2⟩ (h3.add rfl) (by rw [List.length_append]; exact hlen) hk1).2.2.2.2 rfl (mo + 1) (by omega)
          refine at_iload_n dX6_readChoice_12 rfl ?_
          refine at_sipush dX6_readChoice_13 pc_s600 ?_
          refine at_icmpge (tgt := 60) dX6_readChoice_16 (by decide) (fun c16 => ?_) (fun c16 => ?_)
          · -- taken 16
            exact absurd c16 (nI_ge (b := 600) (by omega) (by decide))
          · -- not taken 16
            refine at_aload_n dX6_readChoice_19 rfl ?_
            refine at_cv0 cvX6_29 sd_1 (ev_X6_kind hR h) (by omega) ⟨Nat.le_refl _, Nat.le_refl _⟩ (Nat.le_of_ble_eq_true rfl) dX6_readChoice_20 (pd_k1 ?_)
            refine at_bipush dX6_readChoice_23 pc_b9 ?_
            refine at_icmpne (tgt := 60) dX6_readChoice_25 (by decide) (fun c25 => ?_) (fun c25 => ?_)
            · -- taken 25
              exact absurd ((eK 9 (by decide)).mpr h9) c25
            · -- not taken 25
              refine at_aload_n dX6_readChoice_28 rfl ?_
              refine at_cv0 cvX6_89 sd_1 (ev_X6_advance h hlt) (by omega) ⟨Nat.le_refl _, Nat.le_refl _⟩ (Nat.le_of_ble_eq_true rfl) dX6_readChoice_29 (pd_k0 ?_)
              refine at_aload_n dX6_readChoice_32 rfl ?_
              refine at_iload_n dX6_readChoice_33 rfl ?_
              refine at_cv1 cvX6_131 sd_1 (c) (by omega) ⟨Nat.le_refl _, Nat.le_refl _⟩ (Nat.le_of_ble_eq_true rfl) dX6_readChoice_34 (pd_kpl fun I2 hF h2 h3 => ?_)
              refine at_ifne (tgt := 42) dX6_readChoice_37 (by decide) (fun c37 => ?_) (fun c37 => ?_)
              · -- taken 37
                refine at_aload_n dX6_readChoice_42 rfl ?_
                refine at_getr (8) flX6_21 rfl sd_1 (rs_1_1 hR) dX6_readChoice_43 ?_
                refine at_getr (8 + 8) flX6_134 rfl (sd_P0 pb_8) (rs_P16 hR pb_8) dX6_readChoice_46 ?_
                refine at_bipush dX6_readChoice_49 pc_bm3 ?_
                refine at_cv1 cvX6_140 (sd_P8 pb_8) (ev_X4_add (c := 8) hR pb_8 h3.1 (show e1.length < 600 by omega) _) (by omega) ⟨Nat.le_refl _, Nat.le_refl _⟩ (Nat.le_of_ble_eq_true rfl) dX6_readChoice_51 (pd_k0 ?_)
                refine at_inc dX6_readChoice_54 rfl pc_i1 rfl (Nat.le_of_ble_eq_true rfl) ?_
                refine at_goto (tgt := 12) dX6_readChoice_57 (by decide) ?_
                rw [nI_1]
                exact pd_At_mono (c3 I2 hF h2 h3) (fun o M' hq => QP.fr (FB.rf.up4.tr hF).add hq)
              · -- not taken 37
                exact absurd c37 (by decide)
      · rw [if_neg h9] at hp
        cases hp
        refine at_iload_n dX6_readChoice_12 rfl ?_
        refine at_sipush dX6_readChoice_13 pc_s600 ?_
        refine at_icmpge (tgt := 60) dX6_readChoice_16 (by decide) (fun c16 => ?_) (fun c16 => ?_)
        · -- taken 16
          refine at_iconst dX6_readChoice_60 pc_i1 ?_
          refine at_zret rfl dX6_readChoice_61 (by first | exact Or.inl rfl | exact Or.inr rfl | assumption) ?_
          exact ⟨_, rfl, FB.rf, rfl, h.2.1, hU⟩
        · -- not taken 16
          refine at_aload_n dX6_readChoice_19 rfl ?_
          refine at_cv0 cvX6_29 sd_1 (ev_X6_kind hR h) (by omega) ⟨Nat.le_refl _, Nat.le_refl _⟩ (Nat.le_of_ble_eq_true rfl) dX6_readChoice_20 (pd_k1 ?_)
          refine at_bipush dX6_readChoice_23 pc_b9 ?_
          refine at_icmpne (tgt := 60) dX6_readChoice_25 (by decide) (fun c25 => ?_) (fun c25 => ?_)
          · -- taken 25
            refine at_iconst dX6_readChoice_60 pc_i1 ?_
            refine at_zret rfl dX6_readChoice_61 (by first | exact Or.inl rfl | exact Or.inr rfl | assumption) ?_
            exact ⟨_, rfl, FB.rf, rfl, h.2.1, hU⟩
          · -- not taken 25
            exact absurd ((eK 9 (by decide)).mp c25) h9
end RULE3
