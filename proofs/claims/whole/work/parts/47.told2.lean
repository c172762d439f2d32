/-! ===== the reader: voters, sheets, lines, settings ===== -/
section TOLD2
variable {G : pd_G} {I : Nat → Nat → Int32} {L : Nat → Nat → Int64} {R : Nat → Nat → Option Nat} {T : TS} {N i m nv ns nl : Nat} {r : Nat → Int32} {e : List rl_S}
theorem up4_out {v : Int32} {a j : Nat} (h : a ≠ 1) : pd_up I 1 4 v a j = I a j := pd_up_nb h
theorem up4_5 {v : Int32} : pd_up I 1 4 v 1 5 = I 1 5 := pd_up_nj (by decide)
theorem RD.word (h : RD I T N i) {w : List Nat} (hp : pName T i = .inl w) : WOK w := by
  obtain ⟨h1, h2, h3⟩ := pName_ok hp
  obtain ⟨-, v2, v3⟩ := (h.1.2 i h.2.2).2.2.2.2.2 h1
  exact ⟨by rw [h2]; exact v2, h3, by rw [h2]; exact v3⟩
theorem dup_eq {I' : Nat → Nat → Int32} (hP : PetRel I L 8 r nv ns nl e) (hI : ∀ j, I' 9 j = I 9 j ∧ I' 10 j = I 10 j) {nm : List Nat} (hnm : WOK nm) {s : Nat} : i_find (fun j => decide (I' 9 j = nI (n32 nm)) && decide (I' 10 j = nI s)) nv = i_find (fun v => decide (r (9 + 3 * v) = nI (n27 0 nm)) && decide (r (10 + 3 * v) = nI s)) nv := by
  unfold i_find
  have e1 : pfirst (fun j => !(decide (I' 9 j = nI (n32 nm)) && decide (I' 10 j = nI s))) nv 0 = pfirst (fun v => !(decide (r (9 + 3 * v) = nI (n27 0 nm)) && decide (r (10 + 3 * v) = nI s))) nv 0 := by
    refine pfirst_cg nv 0 (fun j hj => ?_)
    obtain ⟨h1, h2, h3⟩ := hP.2.1 j (by omega)
    rw [(hI j).1, (hI j).2]
    have h4 : I 9 j = nI (n32 nm) ↔ r (9 + 3 * j) = nI (n27 0 nm) := Nm.eq h1 ⟨nm, hnm.1, hnm.2.1, hnm.2.2, rfl, rfl⟩
    have h5 : I 10 j = r (10 + 3 * j) := h2
    rw [h5, decide_eq_decide.mpr h4]
  rw [e1]
theorem ev_X6_readVoter (hR : RS R) (h : RD I T N i) (hT : TOK T N) (hk : T.1 i ≠ 0) (hm : I 1 5 = nI m) (hP : PetRel I L 8 r nv ns nl e) (hJ : LJ m r nv ns nl e) : pd_Ev G mi_X6_readVoter 3 0 0 [.ref (pd_z G + 1)] (SD, false, I, L, R) (QT I L R (pVoter T i m (r, nv, ns, nl, e))) := by
  have hv : I 8 0 = nI nv := hP.1.1.trans hJ.1.1.1
  have hv16 := hJ.1.1.2
  have h40 := hJ.1.2.2.1.2
  have hlt := hT.lt h.2.2 hk
  have h1 := h.adv hlt
  have cN := ev_X6_takeName (G := G) (L := L) hR h1 hT
  unfold pVoter
  simp only
  refine pd_ev 4 (lo := [some (.ref (pd_z G + 1)), none, none, none, none]) (by decide +kernel) (Nat.le_of_ble_eq_true rfl) rfl ?_
  by_cases hf : 16 ≤ nv
  · rw [if_pos hf]
    refine at_aload_n dX6_readVoter_0 rfl ?_
    refine at_getr (8) flX6_21 rfl sd_1 (rs_1_1 hR) dX6_readVoter_1 ?_
    refine at_geti flX6_86 rfl (sd_P0 pb_8) dX6_readVoter_4 ?_
    rw [hv]
    refine at_bipush dX6_readVoter_7 pc_b16 ?_
    refine at_icmplt (tgt := 22) dX6_readVoter_9 (by decide) (fun c9 => ?_) (fun c9 => ?_)
    · -- taken 9
      exact absurd c9 (nI_nlt (b := 16) hf (by omega))
    · -- not taken 9
      refine at_aload_n dX6_readVoter_12 rfl ?_
      refine at_iconst dX6_readVoter_13 pc_i4 ?_
      refine at_aload_n dX6_readVoter_14 rfl ?_
      refine at_cv0 cvX6_62 sd_1 (ev_X6_place hR h) (by decide) ⟨Nat.le_refl _, Nat.le_refl _⟩ (Nat.le_of_ble_eq_true rfl) dX6_readVoter_15 (pd_k1 ?_)
      refine at_cv2 cvX6_65 sd_1 (ev_X6_refuse 4 _) (by decide) ⟨Nat.le_refl _, Nat.le_refl _⟩ (Nat.le_of_ble_eq_true rfl) dX6_readVoter_18 (pd_k1 ?_)
      refine at_zret rfl dX6_readVoter_21 (by first | exact Or.inl rfl | exact Or.inr rfl | assumption) ?_
      exact QT.badI (z := (4, T.2.2.2 i)) (FC.rf)
  · rw [if_neg hf]
    have hf2 : nI nv < 16 := nI_lt (b := 16) (by omega) (by decide)
    cases hp : pName T (i + 1) with
    | inr z =>
      rw [hp] at cN
      refine at_aload_n dX6_readVoter_0 rfl ?_
      refine at_getr (8) flX6_21 rfl sd_1 (rs_1_1 hR) dX6_readVoter_1 ?_
      refine at_geti flX6_86 rfl (sd_P0 pb_8) dX6_readVoter_4 ?_
      rw [hv]
      refine at_bipush dX6_readVoter_7 pc_b16 ?_
      refine at_icmplt (tgt := 22) dX6_readVoter_9 (by decide) (fun c9 => ?_) (fun c9 => ?_)
      · -- taken 9
        refine at_aload_n dX6_readVoter_22 rfl ?_
        refine at_cv0 cvX6_89 sd_1 (ev_X6_advance h hlt) (by decide) ⟨Nat.le_refl _, Nat.le_refl _⟩ (Nat.le_of_ble_eq_true rfl) dX6_readVoter_23 (pd_k0 ?_)
        refine at_aload_n dX6_readVoter_26 rfl ?_
        refine at_cv0 cvX6_62 sd_1 (ev_X6_place hR h1) (by decide) ⟨Nat.le_refl _, Nat.le_refl _⟩ (Nat.le_of_ble_eq_true rfl) dX6_readVoter_27 (pd_k1 ?_)
        refine at_istore_n dX6_readVoter_30 rfl (Nat.le_of_ble_eq_true rfl) ?_
        refine at_aload_n dX6_readVoter_31 rfl ?_
        refine at_cv0 cvX6_92 sd_1 (cN) (by decide) ⟨Nat.le_refl _, Nat.le_refl _⟩ (Nat.le_of_ble_eq_true rfl) dX6_readVoter_32 (pd_k1 ?_)
        refine at_istore_n dX6_readVoter_35 rfl (Nat.le_of_ble_eq_true rfl) ?_
        refine at_iload_n dX6_readVoter_36 rfl ?_
        refine at_iconst dX6_readVoter_37 pc_im1 ?_
        refine at_icmpne (tgt := 43) dX6_readVoter_38 (by decide) (fun c38 => ?_) (fun c38 => ?_)
        · -- taken 38
          exact absurd rfl c38
        · -- not taken 38
          refine at_iconst dX6_readVoter_41 pc_i0 ?_
          refine at_zret rfl dX6_readVoter_42 (by first | exact Or.inl rfl | exact Or.inr rfl | assumption) ?_
          exact QT.badI (z := z) ((FC.rf.up (by omega)))
      · -- not taken 9
        exact absurd hf2 c9
    | inl nm =>
      rw [hp] at cN
      have hW := h1.word hp
      have hlt1 := hT.lt (i := i + 1) hlt (by have := (pName_ok hp).1; omega)
      have h2 := h1.adv hlt1
      have cS := ev_X6_takeNumber (G := G) (L := L) (lo := 0) (hi := 99) hR h2 hT (by decide) (by decide)
      have hn32 : n32 nm < 2 ^ 31 := Nat.lt_of_lt_of_le (n32_lt _ hW.2.2) (Nat.le_trans (Nat.pow_le_pow_right (by decide) hW.2.1) (by decide))
      cases hs : pNum T (i + 2) 0 99 with
      | inr z =>
        rw [hs] at cS
        refine at_aload_n dX6_readVoter_0 rfl ?_
        refine at_getr (8) flX6_21 rfl sd_1 (rs_1_1 hR) dX6_readVoter_1 ?_
        refine at_geti flX6_86 rfl (sd_P0 pb_8) dX6_readVoter_4 ?_
        rw [hv]
        refine at_bipush dX6_readVoter_7 pc_b16 ?_
        refine at_icmplt (tgt := 22) dX6_readVoter_9 (by decide) (fun c9 => ?_) (fun c9 => ?_)
        · -- taken 9
          refine at_aload_n dX6_readVoter_22 rfl ?_
          refine at_cv0 cvX6_89 sd_1 (ev_X6_advance h hlt) (by decide) ⟨Nat.le_refl _, Nat.le_refl _⟩ (Nat.le_of_ble_eq_true rfl) dX6_readVoter_23 (pd_k0 ?_)
          refine at_aload_n dX6_readVoter_26 rfl ?_
          refine at_cv0 cvX6_62 sd_1 (ev_X6_place hR h1) (by decide) ⟨Nat.le_refl _, Nat.le_refl _⟩ (Nat.le_of_ble_eq_true rfl) dX6_readVoter_27 (pd_k1 ?_)
          refine at_istore_n dX6_readVoter_30 rfl (Nat.le_of_ble_eq_true rfl) ?_
          refine at_aload_n dX6_readVoter_31 rfl ?_
          refine at_cv0 cvX6_92 sd_1 (cN) (by decide) ⟨Nat.le_refl _, Nat.le_refl _⟩ (Nat.le_of_ble_eq_true rfl) dX6_readVoter_32 (pd_k1 ?_)
          refine at_istore_n dX6_readVoter_35 rfl (Nat.le_of_ble_eq_true rfl) ?_
          refine at_iload_n dX6_readVoter_36 rfl ?_
          refine at_iconst dX6_readVoter_37 pc_im1 ?_
          refine at_icmpne (tgt := 43) dX6_readVoter_38 (by decide) (fun c38 => ?_) (fun c38 => ?_)
          · -- taken 38
            refine at_aload_n dX6_readVoter_43 rfl ?_
            refine at_iconst dX6_readVoter_44 pc_i0 ?_
            refine at_bipush dX6_readVoter_45 pc_b99 ?_
            refine at_cv2 cvX6_95 sd_1 (cS) (by decide) ⟨Nat.le_refl _, Nat.le_refl _⟩ (Nat.le_of_ble_eq_true rfl) dX6_readVoter_47 (pd_k1 ?_)
            refine at_istore_n dX6_readVoter_50 rfl (Nat.le_of_ble_eq_true rfl) ?_
            refine at_iload_n dX6_readVoter_51 rfl ?_
            refine at_iconst dX6_readVoter_52 pc_im1 ?_
            refine at_icmpne (tgt := 58) dX6_readVoter_53 (by decide) (fun c53 => ?_) (fun c53 => ?_)
            · -- taken 53
              exact absurd rfl c53
            · -- not taken 53
              refine at_iconst dX6_readVoter_56 pc_i0 ?_
              refine at_zret rfl dX6_readVoter_57 (by first | exact Or.inl rfl | exact Or.inr rfl | assumption) ?_
              exact QT.badI (z := z) (((FC.rf.up (by omega)).up (by omega)))
          · -- not taken 38
            exact absurd c38 (nI_nm1 hn32)
        · -- not taken 9
          exact absurd hf2 c9
      | inl s =>
        rw [hs] at cS
        obtain ⟨s1, s2, s3, -⟩ := pNum_ok hs
        have hlt2 := hT.lt (i := i + 2) hlt1 (by rw [s1]; decide)
        have h3 := h2.adv hlt2
        have cD := ev_X6_takeNumber (G := G) (L := L) (lo := 0) (hi := 999) hR h3 hT (by decide) (by decide)
        have hs31 : s < 2 ^ 31 := by omega
        have eD := dup_eq (I' := pd_up (pd_up (pd_up I 1 4 (nI (i + 1))) 1 4 (nI (i + 1 + 1))) 1 4 (nI (i + 2 + 1))) hP (fun j => ⟨by rw [up4_out (by decide), up4_out (by decide), up4_out (by decide)], by rw [up4_out (by decide), up4_out (by decide), up4_out (by decide)]⟩) hW (s := s)
        have cW := ev_X3_voterWith (G := G) (I := pd_up (pd_up (pd_up I 1 4 (nI (i + 1))) 1 4 (nI (i + 1 + 1))) 1 4 (nI (i + 2 + 1))) (L := L) (c := 8) (n := nv) hR pb_8 (by rw [up4_out (by decide), up4_out (by decide), up4_out (by decide)]; exact hv) hv16 (nI (n32 nm)) (nI s)
        rw [show (8 + 1 : Nat) = 9 from rfl, show (8 + 2 : Nat) = 10 from rfl, eD] at cW
        by_cases hd : pDup r nv nm s = true
        · simp only [hd, if_true]
          have hd2 : ¬ i_find (fun v => decide (r (9 + 3 * v) = nI (n27 0 nm)) && decide (r (10 + 3 * v) = nI s)) nv = -1 := by simpa [pDup] using hd
          refine at_aload_n dX6_readVoter_0 rfl ?_
          refine at_getr (8) flX6_21 rfl sd_1 (rs_1_1 hR) dX6_readVoter_1 ?_
          refine at_geti flX6_86 rfl (sd_P0 pb_8) dX6_readVoter_4 ?_
          rw [hv]
          refine at_bipush dX6_readVoter_7 pc_b16 ?_
          refine at_icmplt (tgt := 22) dX6_readVoter_9 (by decide) (fun c9 => ?_) (fun c9 => ?_)
          · -- taken 9
            refine at_aload_n dX6_readVoter_22 rfl ?_
            refine at_cv0 cvX6_89 sd_1 (ev_X6_advance h hlt) (by decide) ⟨Nat.le_refl _, Nat.le_refl _⟩ (Nat.le_of_ble_eq_true rfl) dX6_readVoter_23 (pd_k0 ?_)
            refine at_aload_n dX6_readVoter_26 rfl ?_
            refine at_cv0 cvX6_62 sd_1 (ev_X6_place hR h1) (by decide) ⟨Nat.le_refl _, Nat.le_refl _⟩ (Nat.le_of_ble_eq_true rfl) dX6_readVoter_27 (pd_k1 ?_)
            refine at_istore_n dX6_readVoter_30 rfl (Nat.le_of_ble_eq_true rfl) ?_
            refine at_aload_n dX6_readVoter_31 rfl ?_
            refine at_cv0 cvX6_92 sd_1 (cN) (by decide) ⟨Nat.le_refl _, Nat.le_refl _⟩ (Nat.le_of_ble_eq_true rfl) dX6_readVoter_32 (pd_k1 ?_)
            refine at_istore_n dX6_readVoter_35 rfl (Nat.le_of_ble_eq_true rfl) ?_
            refine at_iload_n dX6_readVoter_36 rfl ?_
            refine at_iconst dX6_readVoter_37 pc_im1 ?_
            refine at_icmpne (tgt := 43) dX6_readVoter_38 (by decide) (fun c38 => ?_) (fun c38 => ?_)
            · -- taken 38
              refine at_aload_n dX6_readVoter_43 rfl ?_
              refine at_iconst dX6_readVoter_44 pc_i0 ?_
              refine at_bipush dX6_readVoter_45 pc_b99 ?_
              refine at_cv2 cvX6_95 sd_1 (cS) (by decide) ⟨Nat.le_refl _, Nat.le_refl _⟩ (Nat.le_of_ble_eq_true rfl) dX6_readVoter_47 (pd_k1 ?_)
              refine at_istore_n dX6_readVoter_50 rfl (Nat.le_of_ble_eq_true rfl) ?_
              refine at_iload_n dX6_readVoter_51 rfl ?_
              refine at_iconst dX6_readVoter_52 pc_im1 ?_
              refine at_icmpne (tgt := 58) dX6_readVoter_53 (by decide) (fun c53 => ?_) (fun c53 => ?_)
              · -- taken 53
                refine at_aload_n dX6_readVoter_58 rfl ?_
                refine at_getr (8) flX6_21 rfl sd_1 (rs_1_1 hR) dX6_readVoter_59 ?_
                refine at_iload_n dX6_readVoter_62 rfl ?_
                refine at_iload_n dX6_readVoter_63 rfl ?_
                refine at_cv2 cvX6_99 (sd_P0 pb_8) (cW) (by decide) ⟨Nat.le_refl _, Nat.le_refl _⟩ (Nat.le_of_ble_eq_true rfl) dX6_readVoter_64 (pd_k1 ?_)
                refine at_iconst dX6_readVoter_67 pc_im1 ?_
                refine at_icmpeq (tgt := 78) dX6_readVoter_68 (by decide) (fun c68 => ?_) (fun c68 => ?_)
                · -- taken 68
                  exact absurd c68 hd2
                · -- not taken 68
                  refine at_aload_n dX6_readVoter_71 rfl ?_
                  refine at_iconst dX6_readVoter_72 pc_i3 ?_
                  refine at_iload_n dX6_readVoter_73 rfl ?_
                  refine at_cv2 cvX6_65 sd_1 (ev_X6_refuse 3 _) (by decide) ⟨Nat.le_refl _, Nat.le_refl _⟩ (Nat.le_of_ble_eq_true rfl) dX6_readVoter_74 (pd_k1 ?_)
                  refine at_zret rfl dX6_readVoter_77 (by first | exact Or.inl rfl | exact Or.inr rfl | assumption) ?_
                  exact QT.badI (z := (3, T.2.2.2 (i + 1))) ((((FC.rf.up (by omega)).up (by omega)).up (by omega)))
              · -- not taken 53
                exact absurd c53 (nI_nm1 hs31)
            · -- not taken 38
              exact absurd c38 (nI_nm1 hn32)
          · -- not taken 9
            exact absurd hf2 c9
        · simp only [hd, if_false]
          have hd2 : i_find (fun v => decide (r (9 + 3 * v) = nI (n27 0 nm)) && decide (r (10 + 3 * v) = nI s)) nv = -1 := by simpa [pDup] using hd
          cases hy : pNum T (i + 3) 0 999 with
          | inr z =>
            rw [hy] at cD
            refine at_aload_n dX6_readVoter_0 rfl ?_
            refine at_getr (8) flX6_21 rfl sd_1 (rs_1_1 hR) dX6_readVoter_1 ?_
            refine at_geti flX6_86 rfl (sd_P0 pb_8) dX6_readVoter_4 ?_
            rw [hv]
            refine at_bipush dX6_readVoter_7 pc_b16 ?_
            refine at_icmplt (tgt := 22) dX6_readVoter_9 (by decide) (fun c9 => ?_) (fun c9 => ?_)
            · -- taken 9
              refine at_aload_n dX6_readVoter_22 rfl ?_
              refine at_cv0 cvX6_89 sd_1 (ev_X6_advance h hlt) (by decide) ⟨Nat.le_refl _, Nat.le_refl _⟩ (Nat.le_of_ble_eq_true rfl) dX6_readVoter_23 (pd_k0 ?_)
              refine at_aload_n dX6_readVoter_26 rfl ?_
              refine at_cv0 cvX6_62 sd_1 (ev_X6_place hR h1) (by decide) ⟨Nat.le_refl _, Nat.le_refl _⟩ (Nat.le_of_ble_eq_true rfl) dX6_readVoter_27 (pd_k1 ?_)
              refine at_istore_n dX6_readVoter_30 rfl (Nat.le_of_ble_eq_true rfl) ?_
              refine at_aload_n dX6_readVoter_31 rfl ?_
              refine at_cv0 cvX6_92 sd_1 (cN) (by decide) ⟨Nat.le_refl _, Nat.le_refl _⟩ (Nat.le_of_ble_eq_true rfl) dX6_readVoter_32 (pd_k1 ?_)
              refine at_istore_n dX6_readVoter_35 rfl (Nat.le_of_ble_eq_true rfl) ?_
              refine at_iload_n dX6_readVoter_36 rfl ?_
              refine at_iconst dX6_readVoter_37 pc_im1 ?_
              refine at_icmpne (tgt := 43) dX6_readVoter_38 (by decide) (fun c38 => ?_) (fun c38 => ?_)
              · -- taken 38
                refine at_aload_n dX6_readVoter_43 rfl ?_
                refine at_iconst dX6_readVoter_44 pc_i0 ?_
                refine at_bipush dX6_readVoter_45 pc_b99 ?_
                refine at_cv2 cvX6_95 sd_1 (cS) (by decide) ⟨Nat.le_refl _, Nat.le_refl _⟩ (Nat.le_of_ble_eq_true rfl) dX6_readVoter_47 (pd_k1 ?_)
                refine at_istore_n dX6_readVoter_50 rfl (Nat.le_of_ble_eq_true rfl) ?_
                refine at_iload_n dX6_readVoter_51 rfl ?_
                refine at_iconst dX6_readVoter_52 pc_im1 ?_
                refine at_icmpne (tgt := 58) dX6_readVoter_53 (by decide) (fun c53 => ?_) (fun c53 => ?_)
                · -- taken 53
                  refine at_aload_n dX6_readVoter_58 rfl ?_
                  refine at_getr (8) flX6_21 rfl sd_1 (rs_1_1 hR) dX6_readVoter_59 ?_
                  refine at_iload_n dX6_readVoter_62 rfl ?_
                  refine at_iload_n dX6_readVoter_63 rfl ?_
                  refine at_cv2 cvX6_99 (sd_P0 pb_8) (cW) (by decide) ⟨Nat.le_refl _, Nat.le_refl _⟩ (Nat.le_of_ble_eq_true rfl) dX6_readVoter_64 (pd_k1 ?_)
                  refine at_iconst dX6_readVoter_67 pc_im1 ?_
                  refine at_icmpeq (tgt := 78) dX6_readVoter_68 (by decide) (fun c68 => ?_) (fun c68 => ?_)
                  · -- taken 68
                    refine at_aload_n dX6_readVoter_78 rfl ?_
                    refine at_iconst dX6_readVoter_79 pc_i0 ?_
                    refine at_sipush dX6_readVoter_80 pc_s999 ?_
                    refine at_cv2 cvX6_95 sd_1 (cD) (by decide) ⟨Nat.le_refl _, Nat.le_refl _⟩ (Nat.le_of_ble_eq_true rfl) dX6_readVoter_83 (pd_k1 ?_)
                    refine at_istore dX6_readVoter_86 rfl (Nat.le_of_ble_eq_true rfl) ?_
                    refine at_iload dX6_readVoter_88 rfl ?_
                    refine at_iconst dX6_readVoter_90 pc_im1 ?_
                    refine at_icmpne (tgt := 96) dX6_readVoter_91 (by decide) (fun c91 => ?_) (fun c91 => ?_)
                    · -- taken 91
                      exact absurd rfl c91
                    · -- not taken 91
                      refine at_iconst dX6_readVoter_94 pc_i0 ?_
                      refine at_zret rfl dX6_readVoter_95 (by first | exact Or.inl rfl | exact Or.inr rfl | assumption) ?_
                      exact QT.badI (z := z) ((((FC.rf.up (by omega)).up (by omega)).up (by omega)))
                  · -- not taken 68
                    exact absurd hd2 c68
                · -- not taken 53
                  exact absurd c53 (nI_nm1 hs31)
              · -- not taken 38
                exact absurd c38 (nI_nm1 hn32)
            · -- not taken 9
              exact absurd hf2 c9
          | inl d =>
            rw [hy] at cD
            obtain ⟨y1, y2, y3, -⟩ := pNum_ok hy
            have hd31 : d < 2 ^ 31 := by omega
            refine at_aload_n dX6_readVoter_0 rfl ?_
            refine at_getr (8) flX6_21 rfl sd_1 (rs_1_1 hR) dX6_readVoter_1 ?_
            refine at_geti flX6_86 rfl (sd_P0 pb_8) dX6_readVoter_4 ?_
            rw [hv]
            refine at_bipush dX6_readVoter_7 pc_b16 ?_
            refine at_icmplt (tgt := 22) dX6_readVoter_9 (by decide) (fun c9 => ?_) (fun c9 => ?_)
            · -- taken 9
              refine at_aload_n dX6_readVoter_22 rfl ?_
              refine at_cv0 cvX6_89 sd_1 (ev_X6_advance h hlt) (by decide) ⟨Nat.le_refl _, Nat.le_refl _⟩ (Nat.le_of_ble_eq_true rfl) dX6_readVoter_23 (pd_k0 ?_)
              refine at_aload_n dX6_readVoter_26 rfl ?_
              refine at_cv0 cvX6_62 sd_1 (ev_X6_place hR h1) (by decide) ⟨Nat.le_refl _, Nat.le_refl _⟩ (Nat.le_of_ble_eq_true rfl) dX6_readVoter_27 (pd_k1 ?_)
              refine at_istore_n dX6_readVoter_30 rfl (Nat.le_of_ble_eq_true rfl) ?_
              refine at_aload_n dX6_readVoter_31 rfl ?_
              refine at_cv0 cvX6_92 sd_1 (cN) (by decide) ⟨Nat.le_refl _, Nat.le_refl _⟩ (Nat.le_of_ble_eq_true rfl) dX6_readVoter_32 (pd_k1 ?_)
              refine at_istore_n dX6_readVoter_35 rfl (Nat.le_of_ble_eq_true rfl) ?_
              refine at_iload_n dX6_readVoter_36 rfl ?_
              refine at_iconst dX6_readVoter_37 pc_im1 ?_
              refine at_icmpne (tgt := 43) dX6_readVoter_38 (by decide) (fun c38 => ?_) (fun c38 => ?_)
              · -- taken 38
                refine at_aload_n dX6_readVoter_43 rfl ?_
                refine at_iconst dX6_readVoter_44 pc_i0 ?_
                refine at_bipush dX6_readVoter_45 pc_b99 ?_
                refine at_cv2 cvX6_95 sd_1 (cS) (by decide) ⟨Nat.le_refl _, Nat.le_refl _⟩ (Nat.le_of_ble_eq_true rfl) dX6_readVoter_47 (pd_k1 ?_)
                refine at_istore_n dX6_readVoter_50 rfl (Nat.le_of_ble_eq_true rfl) ?_
                refine at_iload_n dX6_readVoter_51 rfl ?_
                refine at_iconst dX6_readVoter_52 pc_im1 ?_
                refine at_icmpne (tgt := 58) dX6_readVoter_53 (by decide) (fun c53 => ?_) (fun c53 => ?_)
                · -- taken 53
                  refine at_aload_n dX6_readVoter_58 rfl ?_
                  refine at_getr (8) flX6_21 rfl sd_1 (rs_1_1 hR) dX6_readVoter_59 ?_
                  refine at_iload_n dX6_readVoter_62 rfl ?_
                  refine at_iload_n dX6_readVoter_63 rfl ?_
                  refine at_cv2 cvX6_99 (sd_P0 pb_8) (cW) (by decide) ⟨Nat.le_refl _, Nat.le_refl _⟩ (Nat.le_of_ble_eq_true rfl) dX6_readVoter_64 (pd_k1 ?_)
                  refine at_iconst dX6_readVoter_67 pc_im1 ?_
                  refine at_icmpeq (tgt := 78) dX6_readVoter_68 (by decide) (fun c68 => ?_) (fun c68 => ?_)
                  · -- taken 68
                    refine at_aload_n dX6_readVoter_78 rfl ?_
                    refine at_iconst dX6_readVoter_79 pc_i0 ?_
                    refine at_sipush dX6_readVoter_80 pc_s999 ?_
                    refine at_cv2 cvX6_95 sd_1 (cD) (by decide) ⟨Nat.le_refl _, Nat.le_refl _⟩ (Nat.le_of_ble_eq_true rfl) dX6_readVoter_83 (pd_k1 ?_)
                    refine at_istore dX6_readVoter_86 rfl (Nat.le_of_ble_eq_true rfl) ?_
                    refine at_iload dX6_readVoter_88 rfl ?_
                    refine at_iconst dX6_readVoter_90 pc_im1 ?_
                    refine at_icmpne (tgt := 96) dX6_readVoter_91 (by decide) (fun c91 => ?_) (fun c91 => ?_)
                    · -- taken 91
                      refine at_aload_n dX6_readVoter_96 rfl ?_
                      refine at_getr (8) flX6_21 rfl sd_1 (rs_1_1 hR) dX6_readVoter_97 ?_
                      refine at_iload_n dX6_readVoter_100 rfl ?_
                      refine at_iload_n dX6_readVoter_101 rfl ?_
                      refine at_iload dX6_readVoter_102 rfl ?_
                      refine at_cv3 cvX6_102 (sd_P0 pb_8) (ev_X3_addVoter (c := 8) (n := nv) hR pb_8 (by rw [up4_out (by decide), up4_out (by decide), up4_out (by decide), up4_out (by decide)]; exact hv) (by omega) _ _ _) (by decide) ⟨Nat.le_refl _, Nat.le_refl _⟩ (Nat.le_of_ble_eq_true rfl) dX6_readVoter_104 (pd_k0 ?_)
                      refine at_iconst dX6_readVoter_107 pc_i1 ?_
                      refine at_zret rfl dX6_readVoter_108 (by first | exact Or.inl rfl | exact Or.inr rfl | assumption) ?_
                      refine ⟨_, rfl, (((((((FC.rf.up (by omega)).up (by omega)).up (by omega)).up (by omega)).up (by omega)).up (by omega)).up (by omega)).up (by omega), rfl, ?_, ?_, PetRel.voter (hP.out (fun a h1 h2 j => by rw [up4_out (by omega), up4_out (by omega), up4_out (by omega), up4_out (by omega)])) (by omega) h40 hW⟩
                      · rw [pd_up_nb (by decide), pd_up_nb (by decide), pd_up_nb (by decide), pd_up_nb (by decide), pd_up_at]
                      · rw [pd_up_nb (by decide), pd_up_nb (by decide), pd_up_nb (by decide), pd_up_nb (by decide), up4_5, up4_5, up4_5, up4_5]; exact hm
                    · -- not taken 91
                      exact absurd c91 (nI_nm1 hd31)
                  · -- not taken 68
                    exact absurd hd2 c68
                · -- not taken 53
                  exact absurd c53 (nI_nm1 hs31)
              · -- not taken 38
                exact absurd c38 (nI_nm1 hn32)
            · -- not taken 9
              exact absurd hf2 c9
theorem ev_X6_readSheet (hR : RS R) (h : RD I T N i) (hT : TOK T N) (hk : T.1 i ≠ 0) (hm : I 1 5 = nI m) (hP : PetRel I L 8 r nv ns nl e) (hJ : LJ m r nv ns nl e) : pd_Ev G mi_X6_readSheet 3 0 0 [.ref (pd_z G + 1)] (SD, false, I, L, R) (QT I L R (pSheet T i m (r, nv, ns, nl, e))) := by
  have hv : I 8 4 = nI ns := hP.1.2.1.trans hJ.1.2.1.1
  have hs8 := hJ.1.2.1.2
  have hlt := hT.lt h.2.2 hk
  unfold pSheet
  simp only
  refine pd_ev 0 (lo := [some (.ref (pd_z G + 1))]) (by decide +kernel) (Nat.le_of_ble_eq_true rfl) rfl ?_
  by_cases hf : 8 ≤ ns
  · rw [if_pos hf]
    refine at_aload_n dX6_readSheet_0 rfl ?_
    refine at_getr (8) flX6_21 rfl sd_1 (rs_1_1 hR) dX6_readSheet_1 ?_
    refine at_geti flX6_106 rfl (sd_P0 pb_8) dX6_readSheet_4 ?_
    rw [hv]
    refine at_bipush dX6_readSheet_7 pc_b8 ?_
    refine at_icmplt (tgt := 22) dX6_readSheet_9 (by decide) (fun c9 => ?_) (fun c9 => ?_)
    · -- taken 9
      exact absurd c9 (nI_nlt (b := 8) hf (by omega))
    · -- not taken 9
      refine at_aload_n dX6_readSheet_12 rfl ?_
      refine at_iconst dX6_readSheet_13 pc_i4 ?_
      refine at_aload_n dX6_readSheet_14 rfl ?_
      refine at_cv0 cvX6_62 sd_1 (ev_X6_place hR h) (by decide) ⟨Nat.le_refl _, Nat.le_refl _⟩ (Nat.le_of_ble_eq_true rfl) dX6_readSheet_15 (pd_k1 ?_)
      refine at_cv2 cvX6_65 sd_1 (ev_X6_refuse 4 _) (by decide) ⟨Nat.le_refl _, Nat.le_refl _⟩ (Nat.le_of_ble_eq_true rfl) dX6_readSheet_18 (pd_k1 ?_)
      refine at_zret rfl dX6_readSheet_21 (by first | exact Or.inl rfl | exact Or.inr rfl | assumption) ?_
      exact QT.badI (z := (4, T.2.2.2 i)) (FC.rf)
  · rw [if_neg hf]
    refine at_aload_n dX6_readSheet_0 rfl ?_
    refine at_getr (8) flX6_21 rfl sd_1 (rs_1_1 hR) dX6_readSheet_1 ?_
    refine at_geti flX6_106 rfl (sd_P0 pb_8) dX6_readSheet_4 ?_
    rw [hv]
    refine at_bipush dX6_readSheet_7 pc_b8 ?_
    refine at_icmplt (tgt := 22) dX6_readSheet_9 (by decide) (fun c9 => ?_) (fun c9 => ?_)
    · -- taken 9
      refine at_aload_n dX6_readSheet_22 rfl ?_
      refine at_cv0 cvX6_89 sd_1 (ev_X6_advance h hlt) (by decide) ⟨Nat.le_refl _, Nat.le_refl _⟩ (Nat.le_of_ble_eq_true rfl) dX6_readSheet_23 (pd_k0 ?_)
      refine at_aload_n dX6_readSheet_26 rfl ?_
      refine at_getr (8) flX6_21 rfl sd_1 (rs_1_1 hR) dX6_readSheet_27 ?_
      refine at_dup dX6_readSheet_30 rfl ?_
      refine at_geti flX6_106 rfl (sd_P0 pb_8) dX6_readSheet_31 ?_
      refine at_iconst dX6_readSheet_34 pc_i1 ?_
      rw [up4_out (by decide), hv]
      refine at_iadd dX6_readSheet_35 ?_
      rw [nI_1]
      refine at_puti flX6_106 rfl (sd_P0 pb_8) (fun _ _ _ hq => by cases hq; rfl) dX6_readSheet_36 ?_
      refine at_iconst dX6_readSheet_39 pc_i1 ?_
      refine at_zret rfl dX6_readSheet_40 (by first | exact Or.inl rfl | exact Or.inr rfl | assumption) ?_
      exact ⟨_, rfl, (FC.rf.up (by omega)).up (by omega), rfl, by rw [pd_up_nb (by decide), pd_up_at], by rw [pd_up_nb (by decide), up4_5]; exact hm, (hP.out (fun a h1 h2 j => up4_out (by omega))).sheet hJ.1.1.2⟩
    · -- not taken 9
      exact absurd (nI_lt (b := 8) (by omega) (by decide)) c9
theorem ev_X6_readSigned (hR : RS R) (h : RD I T N i) (hT : TOK T N) (hk : T.1 i ≠ 0) (hm : I 1 5 = nI m) (hP : PetRel I L 8 r nv ns nl e) (hJ : LJ m r nv ns nl e) : pd_Ev G mi_X6_readSigned 4 0 0 [.ref (pd_z G + 1)] (SD, false, I, L, R) (QT I L R (pSign T i m (r, nv, ns, nl, e))) := by
  have hvs : I 8 4 = nI ns := hP.1.2.1.trans hJ.1.2.1.1
  have hvl : I 8 6 = nI nl := hP.1.2.2.1.trans hJ.1.2.2.1.1
  have hs8 := hJ.1.2.1.2
  have h40 := hJ.1.2.2.1.2
  have hv16 := hJ.1.1.2
  have hlt := hT.lt h.2.2 hk
  have h1 := h.adv hlt
  have cN := ev_X6_takeName (G := G) (L := L) hR h1 hT
  have e0 : nI ns = 0 ↔ ns = 0 := nI_eq (b := 0) (by omega) (by decide)
  unfold pSign
  simp only
  refine pd_ev 3 (lo := [some (.ref (pd_z G + 1)), none, none, none]) (by decide +kernel) (Nat.le_of_ble_eq_true rfl) rfl ?_
  by_cases hz : ns = 0
  · rw [if_pos hz]
    refine at_aload_n dX6_readSigned_0 rfl ?_
    refine at_getr (8) flX6_21 rfl sd_1 (rs_1_1 hR) dX6_readSigned_1 ?_
    refine at_geti flX6_106 rfl (sd_P0 pb_8) dX6_readSigned_4 ?_
    rw [hvs]
    refine at_ifne (tgt := 20) dX6_readSigned_7 (by decide) (fun c7 => ?_) (fun c7 => ?_)
    · -- taken 7
      exact absurd (e0.mpr hz) c7
    · -- not taken 7
      refine at_aload_n dX6_readSigned_10 rfl ?_
      refine at_iconst dX6_readSigned_11 pc_i1 ?_
      refine at_aload_n dX6_readSigned_12 rfl ?_
      refine at_cv0 cvX6_62 sd_1 (ev_X6_place hR h) (by decide) ⟨Nat.le_refl _, Nat.le_refl _⟩ (Nat.le_of_ble_eq_true rfl) dX6_readSigned_13 (pd_k1 ?_)
      refine at_cv2 cvX6_65 sd_1 (ev_X6_refuse 1 _) (by decide) ⟨Nat.le_refl _, Nat.le_refl _⟩ (Nat.le_of_ble_eq_true rfl) dX6_readSigned_16 (pd_k1 ?_)
      refine at_zret rfl dX6_readSigned_19 (by first | exact Or.inl rfl | exact Or.inr rfl | assumption) ?_
      exact QT.badI (z := (1, T.2.2.2 i)) (FC.rf)
  · rw [if_neg hz]
    have hz2 : ¬ nI ns = 0 := fun q => hz (e0.mp q)
    by_cases hf : 40 ≤ nl
    · rw [if_pos hf]
      refine at_aload_n dX6_readSigned_0 rfl ?_
      refine at_getr (8) flX6_21 rfl sd_1 (rs_1_1 hR) dX6_readSigned_1 ?_
      refine at_geti flX6_106 rfl (sd_P0 pb_8) dX6_readSigned_4 ?_
      rw [hvs]
      refine at_ifne (tgt := 20) dX6_readSigned_7 (by decide) (fun c7 => ?_) (fun c7 => ?_)
      · -- taken 7
        refine at_aload_n dX6_readSigned_20 rfl ?_
        refine at_getr (8) flX6_21 rfl sd_1 (rs_1_1 hR) dX6_readSigned_21 ?_
        refine at_geti flX6_109 rfl (sd_P0 pb_8) dX6_readSigned_24 ?_
        rw [hvl]
        refine at_bipush dX6_readSigned_27 pc_b40 ?_
        refine at_icmplt (tgt := 42) dX6_readSigned_29 (by decide) (fun c29 => ?_) (fun c29 => ?_)
        · -- taken 29
          exact absurd c29 (nI_nlt (b := 40) hf (by omega))
        · -- not taken 29
          refine at_aload_n dX6_readSigned_32 rfl ?_
          refine at_iconst dX6_readSigned_33 pc_i4 ?_
          refine at_aload_n dX6_readSigned_34 rfl ?_
          refine at_cv0 cvX6_62 sd_1 (ev_X6_place hR h) (by decide) ⟨Nat.le_refl _, Nat.le_refl _⟩ (Nat.le_of_ble_eq_true rfl) dX6_readSigned_35 (pd_k1 ?_)
          refine at_cv2 cvX6_65 sd_1 (ev_X6_refuse 4 _) (by decide) ⟨Nat.le_refl _, Nat.le_refl _⟩ (Nat.le_of_ble_eq_true rfl) dX6_readSigned_38 (pd_k1 ?_)
          refine at_zret rfl dX6_readSigned_41 (by first | exact Or.inl rfl | exact Or.inr rfl | assumption) ?_
          exact QT.badI (z := (4, T.2.2.2 i)) (FC.rf)
      · -- not taken 7
        exact absurd c7 hz2
    · rw [if_neg hf]
      have hf2 : nI nl < 40 := nI_lt (b := 40) (by omega) (by decide)
      cases hp : pName T (i + 1) with
      | inr z =>
        rw [hp] at cN
        refine at_aload_n dX6_readSigned_0 rfl ?_
        refine at_getr (8) flX6_21 rfl sd_1 (rs_1_1 hR) dX6_readSigned_1 ?_
        refine at_geti flX6_106 rfl (sd_P0 pb_8) dX6_readSigned_4 ?_
        rw [hvs]
        refine at_ifne (tgt := 20) dX6_readSigned_7 (by decide) (fun c7 => ?_) (fun c7 => ?_)
        · -- taken 7
          refine at_aload_n dX6_readSigned_20 rfl ?_
          refine at_getr (8) flX6_21 rfl sd_1 (rs_1_1 hR) dX6_readSigned_21 ?_
          refine at_geti flX6_109 rfl (sd_P0 pb_8) dX6_readSigned_24 ?_
          rw [hvl]
          refine at_bipush dX6_readSigned_27 pc_b40 ?_
          refine at_icmplt (tgt := 42) dX6_readSigned_29 (by decide) (fun c29 => ?_) (fun c29 => ?_)
          · -- taken 29
            refine at_aload_n dX6_readSigned_42 rfl ?_
            refine at_cv0 cvX6_89 sd_1 (ev_X6_advance h hlt) (by decide) ⟨Nat.le_refl _, Nat.le_refl _⟩ (Nat.le_of_ble_eq_true rfl) dX6_readSigned_43 (pd_k0 ?_)
            refine at_aload_n dX6_readSigned_46 rfl ?_
            refine at_cv0 cvX6_92 sd_1 (cN) (by decide) ⟨Nat.le_refl _, Nat.le_refl _⟩ (Nat.le_of_ble_eq_true rfl) dX6_readSigned_47 (pd_k1 ?_)
            refine at_istore_n dX6_readSigned_50 rfl (Nat.le_of_ble_eq_true rfl) ?_
            refine at_iload_n dX6_readSigned_51 rfl ?_
            refine at_iconst dX6_readSigned_52 pc_im1 ?_
            refine at_icmpne (tgt := 58) dX6_readSigned_53 (by decide) (fun c53 => ?_) (fun c53 => ?_)
            · -- taken 53
              exact absurd rfl c53
            · -- not taken 53
              refine at_iconst dX6_readSigned_56 pc_i0 ?_
              refine at_zret rfl dX6_readSigned_57 (by first | exact Or.inl rfl | exact Or.inr rfl | assumption) ?_
              exact QT.badI (z := z) ((FC.rf.up (by omega)))
          · -- not taken 29
            exact absurd hf2 c29
        · -- not taken 7
          exact absurd c7 hz2
      | inl nm =>
        rw [hp] at cN
        have hW := h1.word hp
        have hlt1 := hT.lt (i := i + 1) hlt (by have := (pName_ok hp).1; omega)
        have h2 := h1.adv hlt1
        have cS := ev_X6_takeNumber (G := G) (L := L) (lo := 0) (hi := 99) hR h2 hT (by decide) (by decide)
        have hn32 : n32 nm < 2 ^ 31 := Nat.lt_of_lt_of_le (n32_lt _ hW.2.2) (Nat.le_trans (Nat.pow_le_pow_right (by decide) hW.2.1) (by decide))
        cases hs : pNum T (i + 2) 0 99 with
        | inr z =>
          rw [hs] at cS
          refine at_aload_n dX6_readSigned_0 rfl ?_
          refine at_getr (8) flX6_21 rfl sd_1 (rs_1_1 hR) dX6_readSigned_1 ?_
          refine at_geti flX6_106 rfl (sd_P0 pb_8) dX6_readSigned_4 ?_
          rw [hvs]
          refine at_ifne (tgt := 20) dX6_readSigned_7 (by decide) (fun c7 => ?_) (fun c7 => ?_)
          · -- taken 7
            refine at_aload_n dX6_readSigned_20 rfl ?_
            refine at_getr (8) flX6_21 rfl sd_1 (rs_1_1 hR) dX6_readSigned_21 ?_
            refine at_geti flX6_109 rfl (sd_P0 pb_8) dX6_readSigned_24 ?_
            rw [hvl]
            refine at_bipush dX6_readSigned_27 pc_b40 ?_
            refine at_icmplt (tgt := 42) dX6_readSigned_29 (by decide) (fun c29 => ?_) (fun c29 => ?_)
            · -- taken 29
              refine at_aload_n dX6_readSigned_42 rfl ?_
              refine at_cv0 cvX6_89 sd_1 (ev_X6_advance h hlt) (by decide) ⟨Nat.le_refl _, Nat.le_refl _⟩ (Nat.le_of_ble_eq_true rfl) dX6_readSigned_43 (pd_k0 ?_)
              refine at_aload_n dX6_readSigned_46 rfl ?_
              refine at_cv0 cvX6_92 sd_1 (cN) (by decide) ⟨Nat.le_refl _, Nat.le_refl _⟩ (Nat.le_of_ble_eq_true rfl) dX6_readSigned_47 (pd_k1 ?_)
              refine at_istore_n dX6_readSigned_50 rfl (Nat.le_of_ble_eq_true rfl) ?_
              refine at_iload_n dX6_readSigned_51 rfl ?_
              refine at_iconst dX6_readSigned_52 pc_im1 ?_
              refine at_icmpne (tgt := 58) dX6_readSigned_53 (by decide) (fun c53 => ?_) (fun c53 => ?_)
              · -- taken 53
                refine at_aload_n dX6_readSigned_58 rfl ?_
                refine at_iconst dX6_readSigned_59 pc_i0 ?_
                refine at_bipush dX6_readSigned_60 pc_b99 ?_
                refine at_cv2 cvX6_95 sd_1 (cS) (by decide) ⟨Nat.le_refl _, Nat.le_refl _⟩ (Nat.le_of_ble_eq_true rfl) dX6_readSigned_62 (pd_k1 ?_)
                refine at_istore_n dX6_readSigned_65 rfl (Nat.le_of_ble_eq_true rfl) ?_
                refine at_iload_n dX6_readSigned_66 rfl ?_
                refine at_iconst dX6_readSigned_67 pc_im1 ?_
                refine at_icmpne (tgt := 73) dX6_readSigned_68 (by decide) (fun c68 => ?_) (fun c68 => ?_)
                · -- taken 68
                  exact absurd rfl c68
                · -- not taken 68
                  refine at_iconst dX6_readSigned_71 pc_i0 ?_
                  refine at_zret rfl dX6_readSigned_72 (by first | exact Or.inl rfl | exact Or.inr rfl | assumption) ?_
                  exact QT.badI (z := z) (((FC.rf.up (by omega)).up (by omega)))
              · -- not taken 53
                exact absurd c53 (nI_nm1 hn32)
            · -- not taken 29
              exact absurd hf2 c29
          · -- not taken 7
            exact absurd c7 hz2
        | inl s =>
          rw [hs] at cS
          obtain ⟨s1, s2, s3, -⟩ := pNum_ok hs
          have hlt2 := hT.lt (i := i + 2) hlt1 (by rw [s1]; decide)
          have h3 := h2.adv hlt2
          have cD := ev_X6_takeNumber (G := G) (L := L) (lo := 0) (hi := 999) hR h3 hT (by decide) (by decide)
          have hs31 : s < 2 ^ 31 := by omega
          cases hy : pNum T (i + 3) 0 999 with
          | inr z =>
            rw [hy] at cD
            refine at_aload_n dX6_readSigned_0 rfl ?_
            refine at_getr (8) flX6_21 rfl sd_1 (rs_1_1 hR) dX6_readSigned_1 ?_
            refine at_geti flX6_106 rfl (sd_P0 pb_8) dX6_readSigned_4 ?_
            rw [hvs]
            refine at_ifne (tgt := 20) dX6_readSigned_7 (by decide) (fun c7 => ?_) (fun c7 => ?_)
            · -- taken 7
              refine at_aload_n dX6_readSigned_20 rfl ?_
              refine at_getr (8) flX6_21 rfl sd_1 (rs_1_1 hR) dX6_readSigned_21 ?_
              refine at_geti flX6_109 rfl (sd_P0 pb_8) dX6_readSigned_24 ?_
              rw [hvl]
              refine at_bipush dX6_readSigned_27 pc_b40 ?_
              refine at_icmplt (tgt := 42) dX6_readSigned_29 (by decide) (fun c29 => ?_) (fun c29 => ?_)
              · -- taken 29
                refine at_aload_n dX6_readSigned_42 rfl ?_
                refine at_cv0 cvX6_89 sd_1 (ev_X6_advance h hlt) (by decide) ⟨Nat.le_refl _, Nat.le_refl _⟩ (Nat.le_of_ble_eq_true rfl) dX6_readSigned_43 (pd_k0 ?_)
                refine at_aload_n dX6_readSigned_46 rfl ?_
                refine at_cv0 cvX6_92 sd_1 (cN) (by decide) ⟨Nat.le_refl _, Nat.le_refl _⟩ (Nat.le_of_ble_eq_true rfl) dX6_readSigned_47 (pd_k1 ?_)
                refine at_istore_n dX6_readSigned_50 rfl (Nat.le_of_ble_eq_true rfl) ?_
                refine at_iload_n dX6_readSigned_51 rfl ?_
                refine at_iconst dX6_readSigned_52 pc_im1 ?_
                refine at_icmpne (tgt := 58) dX6_readSigned_53 (by decide) (fun c53 => ?_) (fun c53 => ?_)
                · -- taken 53
                  refine at_aload_n dX6_readSigned_58 rfl ?_
                  refine at_iconst dX6_readSigned_59 pc_i0 ?_
                  refine at_bipush dX6_readSigned_60 pc_b99 ?_
                  refine at_cv2 cvX6_95 sd_1 (cS) (by decide) ⟨Nat.le_refl _, Nat.le_refl _⟩ (Nat.le_of_ble_eq_true rfl) dX6_readSigned_62 (pd_k1 ?_)
                  refine at_istore_n dX6_readSigned_65 rfl (Nat.le_of_ble_eq_true rfl) ?_
                  refine at_iload_n dX6_readSigned_66 rfl ?_
                  refine at_iconst dX6_readSigned_67 pc_im1 ?_
                  refine at_icmpne (tgt := 73) dX6_readSigned_68 (by decide) (fun c68 => ?_) (fun c68 => ?_)
                  · -- taken 68
                    refine at_aload_n dX6_readSigned_73 rfl ?_
                    refine at_iconst dX6_readSigned_74 pc_i0 ?_
                    refine at_sipush dX6_readSigned_75 pc_s999 ?_
                    refine at_cv2 cvX6_95 sd_1 (cD) (by decide) ⟨Nat.le_refl _, Nat.le_refl _⟩ (Nat.le_of_ble_eq_true rfl) dX6_readSigned_78 (pd_k1 ?_)
                    refine at_istore_n dX6_readSigned_81 rfl (Nat.le_of_ble_eq_true rfl) ?_
                    refine at_iload_n dX6_readSigned_82 rfl ?_
                    refine at_iconst dX6_readSigned_83 pc_im1 ?_
                    refine at_icmpne (tgt := 89) dX6_readSigned_84 (by decide) (fun c84 => ?_) (fun c84 => ?_)
                    · -- taken 84
                      exact absurd rfl c84
                    · -- not taken 84
                      refine at_iconst dX6_readSigned_87 pc_i0 ?_
                      refine at_zret rfl dX6_readSigned_88 (by first | exact Or.inl rfl | exact Or.inr rfl | assumption) ?_
                      exact QT.badI (z := z) ((((FC.rf.up (by omega)).up (by omega)).up (by omega)))
                  · -- not taken 68
                    exact absurd c68 (nI_nm1 hs31)
                · -- not taken 53
                  exact absurd c53 (nI_nm1 hn32)
              · -- not taken 29
                exact absurd hf2 c29
            · -- not taken 7
              exact absurd c7 hz2
          | inl d =>
            rw [hy] at cD
            obtain ⟨y1, y2, y3, -⟩ := pNum_ok hy
            have hd31 : d < 2 ^ 31 := by omega
            have hff : pfirst (fun j => decide (pd_up (pd_up (pd_up (pd_up I 1 4 (nI (i + 1))) 1 4 (nI (i + 1 + 1))) 1 4 (nI (i + 2 + 1))) 1 4 (nI (i + 3 + 1)) (8 + 7) j < nI (ns - 1) + 1)) nl 0 = nl := by
              have key : ∀ k j, j + k = nl → pfirst (fun j => decide (pd_up (pd_up (pd_up (pd_up I 1 4 (nI (i + 1))) 1 4 (nI (i + 1 + 1))) 1 4 (nI (i + 2 + 1))) 1 4 (nI (i + 3 + 1)) (8 + 7) j < nI (ns - 1) + 1)) k j = nl := by
                intro k
                induction k with
                | zero => intro j hj; show j = nl; omega
                | succ k ih =>
                  intro j hj
                  obtain ⟨t, ht, h9⟩ := hJ.1.2.2.2.2.2.1 j (by omega)
                  rw [pfirst_yes (by
                    rw [up4_out (by decide), up4_out (by decide), up4_out (by decide), up4_out (by decide), (hP.2.2.1 j (by omega)).2.2.1, h9, nI_1]
                    simp only [decide_eq_true_eq]
                    exact nI_lt (by omega) (by omega)), ih (j + 1) (by omega)]
              exact key nl 0 (by omega)
            refine at_aload_n dX6_readSigned_0 rfl ?_
            refine at_getr (8) flX6_21 rfl sd_1 (rs_1_1 hR) dX6_readSigned_1 ?_
            refine at_geti flX6_106 rfl (sd_P0 pb_8) dX6_readSigned_4 ?_
            rw [hvs]
            refine at_ifne (tgt := 20) dX6_readSigned_7 (by decide) (fun c7 => ?_) (fun c7 => ?_)
            · -- taken 7
              refine at_aload_n dX6_readSigned_20 rfl ?_
              refine at_getr (8) flX6_21 rfl sd_1 (rs_1_1 hR) dX6_readSigned_21 ?_
              refine at_geti flX6_109 rfl (sd_P0 pb_8) dX6_readSigned_24 ?_
              rw [hvl]
              refine at_bipush dX6_readSigned_27 pc_b40 ?_
              refine at_icmplt (tgt := 42) dX6_readSigned_29 (by decide) (fun c29 => ?_) (fun c29 => ?_)
              · -- taken 29
                refine at_aload_n dX6_readSigned_42 rfl ?_
                refine at_cv0 cvX6_89 sd_1 (ev_X6_advance h hlt) (by decide) ⟨Nat.le_refl _, Nat.le_refl _⟩ (Nat.le_of_ble_eq_true rfl) dX6_readSigned_43 (pd_k0 ?_)
                refine at_aload_n dX6_readSigned_46 rfl ?_
                refine at_cv0 cvX6_92 sd_1 (cN) (by decide) ⟨Nat.le_refl _, Nat.le_refl _⟩ (Nat.le_of_ble_eq_true rfl) dX6_readSigned_47 (pd_k1 ?_)
                refine at_istore_n dX6_readSigned_50 rfl (Nat.le_of_ble_eq_true rfl) ?_
                refine at_iload_n dX6_readSigned_51 rfl ?_
                refine at_iconst dX6_readSigned_52 pc_im1 ?_
                refine at_icmpne (tgt := 58) dX6_readSigned_53 (by decide) (fun c53 => ?_) (fun c53 => ?_)
                · -- taken 53
                  refine at_aload_n dX6_readSigned_58 rfl ?_
                  refine at_iconst dX6_readSigned_59 pc_i0 ?_
                  refine at_bipush dX6_readSigned_60 pc_b99 ?_
                  refine at_cv2 cvX6_95 sd_1 (cS) (by decide) ⟨Nat.le_refl _, Nat.le_refl _⟩ (Nat.le_of_ble_eq_true rfl) dX6_readSigned_62 (pd_k1 ?_)
                  refine at_istore_n dX6_readSigned_65 rfl (Nat.le_of_ble_eq_true rfl) ?_
                  refine at_iload_n dX6_readSigned_66 rfl ?_
                  refine at_iconst dX6_readSigned_67 pc_im1 ?_
                  refine at_icmpne (tgt := 73) dX6_readSigned_68 (by decide) (fun c68 => ?_) (fun c68 => ?_)
                  · -- taken 68
                    refine at_aload_n dX6_readSigned_73 rfl ?_
                    refine at_iconst dX6_readSigned_74 pc_i0 ?_
                    refine at_sipush dX6_readSigned_75 pc_s999 ?_
                    refine at_cv2 cvX6_95 sd_1 (cD) (by decide) ⟨Nat.le_refl _, Nat.le_refl _⟩ (Nat.le_of_ble_eq_true rfl) dX6_readSigned_78 (pd_k1 ?_)
                    refine at_istore_n dX6_readSigned_81 rfl (Nat.le_of_ble_eq_true rfl) ?_
                    refine at_iload_n dX6_readSigned_82 rfl ?_
                    refine at_iconst dX6_readSigned_83 pc_im1 ?_
                    refine at_icmpne (tgt := 89) dX6_readSigned_84 (by decide) (fun c84 => ?_) (fun c84 => ?_)
                    · -- taken 84
                      refine at_aload_n dX6_readSigned_89 rfl ?_
                      refine at_getr (8) flX6_21 rfl sd_1 (rs_1_1 hR) dX6_readSigned_90 ?_
                      refine at_aload_n dX6_readSigned_93 rfl ?_
                      refine at_getr (8) flX6_21 rfl sd_1 (rs_1_1 hR) dX6_readSigned_94 ?_
                      refine at_geti flX6_106 rfl (sd_P0 pb_8) dX6_readSigned_97 ?_
                      rw [up4_out (by decide), up4_out (by decide), up4_out (by decide), up4_out (by decide), hvs]
                      refine at_iconst dX6_readSigned_100 pc_i1 ?_
                      refine at_isub dX6_readSigned_101 ?_
                      rw [show (1 : Int32) = nI 1 from rfl, pk_sub (by omega)]
                      refine at_iload_n dX6_readSigned_102 rfl ?_
                      refine at_iload_n dX6_readSigned_103 rfl ?_
                      refine at_iload_n dX6_readSigned_104 rfl ?_
                      refine at_cv4 cvX6_112 (sd_P0 pb_8) (ev_X3_addLine (c := 8) (n := nl) (f := nl) hR pb_8 (by rw [up4_out (by decide), up4_out (by decide), up4_out (by decide), up4_out (by decide)]; exact hvl) (by omega) _ _ _ _ hff) (by decide) ⟨Nat.le_refl _, Nat.le_refl _⟩ (Nat.le_of_ble_eq_true rfl) dX6_readSigned_105 (pd_k0 ?_)
                      refine at_iconst dX6_readSigned_108 pc_i1 ?_
                      refine at_zret rfl dX6_readSigned_109 (by first | exact Or.inl rfl | exact Or.inr rfl | assumption) ?_
                      refine ⟨_, rfl, ?_, rfl, ?_, ?_, PetRel.sign (hP.out (fun a h1 h2 j => by rw [up4_out (by omega), up4_out (by omega), up4_out (by omega), up4_out (by omega)])) hv16 (by omega) hW⟩
                      · intro a j ha hb
                        rw [x_addLine_fr (by omega)]
                        exact ((((FC.rf.up (by omega)).up (by omega)).up (by omega)).up (by omega)) a j ha hb
                      · rw [x_addLine_fr (by decide), pd_up_at]
                      · rw [x_addLine_fr (by decide), up4_5, up4_5, up4_5, up4_5]; exact hm
                    · -- not taken 84
                      exact absurd c84 (nI_nm1 hd31)
                  · -- not taken 68
                    exact absurd c68 (nI_nm1 hs31)
                · -- not taken 53
                  exact absurd c53 (nI_nm1 hn32)
              · -- not taken 29
                exact absurd hf2 c29
            · -- not taken 7
              exact absurd c7 hz2
end TOLD2
