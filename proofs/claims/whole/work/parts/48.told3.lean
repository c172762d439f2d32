/-! ===== the reader: settings, the rule, all of a thing told ===== -/
theorem pd_kT {G : pd_G} {mi : pd_MI} {h mc ms cs ss pc : Nat} {lo : List (Option Value)} {st : List Value} {Q : pd_O → pd_M → Prop} {I L R} {res : LSt ⊕ (Nat × Nat)} (K : ∀ b I', (b = 0 ∨ b = 1) → QT I L R res (.inl (some (.int b))) (SD, false, I', L, R) → pd_At G mi h mc ms cs ss (pc + 3) lo (.int b :: st) (SD, false, I', L, R) Q) : ∀ o M', QT I L R res o M' → pd_Kc G mi h mc ms cs ss pc lo st Q o M' := fun o M' hq => by
  have hq0 := hq
  cases res with
  | inl z =>
    obtain ⟨I', rfl, h1, rfl, h2⟩ := hq
    exact K 1 I' (Or.inr rfl) hq0
  | inr z =>
    obtain ⟨I', rfl, h1, rfl, h2⟩ := hq
    exact K 0 I' (Or.inl rfl) hq0
section TOLD3
variable {G : pd_G} {I : Nat → Nat → Int32} {L : Nat → Nat → Int64} {R : Nat → Nat → Option Nat} {T : TS} {N i m nv ns nl : Nat} {r : Nat → Int32} {e : List rl_S}
theorem cO_no (hR : RS R) (h : RD I T N i) (hT : TOK T N) (hm : I 1 5 = nI m) (hm5 : m < 512) (hk : 1 ≤ T.1 i ∧ T.1 i ≤ 8) (hb : m.testBit (T.1 i) = true) : pd_Ev G mi_X6_takeOnce 2 0 0 [.ref (pd_z G + 1)] (SD, false, I, L, R) (pd_rt (.int 0) (SD, false, rfI I (1, T.2.2.2 i), L, R)) := by
  have := ev_X6_takeOnce (G := G) (L := L) hR h hT hm hm5 hk
  simp only [hb, if_true] at this
  exact this
theorem cO_yes (hR : RS R) (h : RD I T N i) (hT : TOK T N) (hm : I 1 5 = nI m) (hm5 : m < 512) (hk : 1 ≤ T.1 i ∧ T.1 i ≤ 8) (hb : ¬ m.testBit (T.1 i) = true) : pd_Ev G mi_X6_takeOnce 2 0 0 [.ref (pd_z G + 1)] (SD, false, I, L, R) (pd_rt (.int 1) (SD, false, pd_up (pd_up I 1 5 (nI (m ||| 2 ^ T.1 i))) 1 4 (nI (i + 1)), L, R)) := by
  have := ev_X6_takeOnce (G := G) (L := L) hR h hT hm hm5 hk
  simp only [hb, if_false] at this
  exact this
theorem RD.once (h : RD I T N i) (hlt : i < N) {v : Int32} : RD (pd_up (pd_up I 1 5 v) 1 4 (nI (i + 1))) T N (i + 1) := ⟨h.1.fr (fun a h1 h2 j => by rw [pd_up_nb (by omega), pd_up_nb (by omega)]), pd_up_at, hlt⟩
theorem ev_X6_readNeed (hR : RS R) (h : RD I T N i) (hT : TOK T N) (hk : T.1 i = 4) (hm : I 1 5 = nI m) (hP : PetRel I L 8 r nv ns nl e) (hJ : LJ m r nv ns nl e) : pd_Ev G mi_X6_readNeed 3 0 0 [.ref (pd_z G + 1)] (SD, false, I, L, R) (QT I L R (pOne T i m (r, nv, ns, nl, e) 3 0 40)) := by
  have hlt := hT.lt h.2.2 (by omega)
  unfold pOne
  simp only
  refine pd_ev 0 (lo := [some (.ref (pd_z G + 1))]) (by decide +kernel) (Nat.le_of_ble_eq_true rfl) rfl ?_
  by_cases hb : m.testBit (T.1 i) = true
  · rw [if_pos hb]
    refine at_aload_n dX6_readNeed_0 rfl ?_
    refine at_cv0 cvX6_55 sd_1 (cO_no hR h hT hm hJ.2.1 (by omega) hb) (by decide) ⟨Nat.le_refl _, Nat.le_refl _⟩ (Nat.le_of_ble_eq_true rfl) dX6_readNeed_1 (pd_k1 ?_)
    refine at_ifne (tgt := 9) dX6_readNeed_4 (by decide) (fun c4 => ?_) (fun c4 => ?_)
    · -- taken 4
      exact absurd rfl c4
    · -- not taken 4
      refine at_iconst dX6_readNeed_7 pc_i0 ?_
      refine at_zret rfl dX6_readNeed_8 (by first | exact Or.inl rfl | exact Or.inr rfl | assumption) ?_
      exact QT.badI FC.rf
  · rw [if_neg hb]
    have h1 := h.once hlt (v := nI (m ||| 2 ^ T.1 i))
    have cN := ev_X6_takeNumber (G := G) (L := L) (lo := 0) (hi := 40) hR h1 hT (by decide) (by decide)
    cases hp : pNum T (i + 1) 0 40 with
    | inr z =>
      rw [hp] at cN
      refine at_aload_n dX6_readNeed_0 rfl ?_
      refine at_cv0 cvX6_55 sd_1 (cO_yes hR h hT hm hJ.2.1 (by omega) hb) (by decide) ⟨Nat.le_refl _, Nat.le_refl _⟩ (Nat.le_of_ble_eq_true rfl) dX6_readNeed_1 (pd_k1 ?_)
      refine at_ifne (tgt := 9) dX6_readNeed_4 (by decide) (fun c4 => ?_) (fun c4 => ?_)
      · -- taken 4
        refine at_aload_n dX6_readNeed_9 rfl ?_
        refine at_getr (8) flX6_21 rfl sd_1 (rs_1_1 hR) dX6_readNeed_10 ?_
        refine at_aload_n dX6_readNeed_13 rfl ?_
        refine at_iconst dX6_readNeed_14 pc_i0 ?_
        refine at_bipush dX6_readNeed_15 pc_b40 ?_
        refine at_cv2 cvX6_95 sd_1 (cN) (by decide) ⟨Nat.le_refl _, Nat.le_refl _⟩ (Nat.le_of_ble_eq_true rfl) dX6_readNeed_17 (pd_k1 ?_)
        refine at_puti flX6_116 rfl (sd_P0 pb_8) (fun _ _ _ hq => by cases hq; rfl) dX6_readNeed_20 ?_
        refine at_aload_n dX6_readNeed_23 rfl ?_
        refine at_getr (8) flX6_21 rfl sd_1 (rs_1_1 hR) dX6_readNeed_24 ?_
        skip
        refine at_geti flX6_116 rfl (sd_P0 pb_8) dX6_readNeed_27 ?_
        refine at_iconst dX6_readNeed_30 pc_im1 ?_
        rw [pd_up_at]
        refine at_icmpeq (tgt := 38) dX6_readNeed_31 (by decide) (fun c31 => ?_) (fun c31 => ?_)
        · -- taken 31
          refine at_iconst dX6_readNeed_38 pc_i0 ?_
          refine at_zret rfl dX6_readNeed_39 (by first | exact Or.inl rfl | exact Or.inr rfl | assumption) ?_
          exact QT.bad ((((FC.rf.up (by omega)).up (by omega)).rfI).up (by omega)) (by rw [pd_up_nb (by decide)]; exact rfI_2.1) (by rw [pd_up_nb (by decide)]; exact rfI_2.2)
        · -- not taken 31
          exact absurd rfl c31
      · -- not taken 4
        exact absurd c4 (by decide)
    | inl v =>
      rw [hp] at cN
      obtain ⟨s1, s2, s3, -⟩ := pNum_ok hp
      refine at_aload_n dX6_readNeed_0 rfl ?_
      refine at_cv0 cvX6_55 sd_1 (cO_yes hR h hT hm hJ.2.1 (by omega) hb) (by decide) ⟨Nat.le_refl _, Nat.le_refl _⟩ (Nat.le_of_ble_eq_true rfl) dX6_readNeed_1 (pd_k1 ?_)
      refine at_ifne (tgt := 9) dX6_readNeed_4 (by decide) (fun c4 => ?_) (fun c4 => ?_)
      · -- taken 4
        refine at_aload_n dX6_readNeed_9 rfl ?_
        refine at_getr (8) flX6_21 rfl sd_1 (rs_1_1 hR) dX6_readNeed_10 ?_
        refine at_aload_n dX6_readNeed_13 rfl ?_
        refine at_iconst dX6_readNeed_14 pc_i0 ?_
        refine at_bipush dX6_readNeed_15 pc_b40 ?_
        refine at_cv2 cvX6_95 sd_1 (cN) (by decide) ⟨Nat.le_refl _, Nat.le_refl _⟩ (Nat.le_of_ble_eq_true rfl) dX6_readNeed_17 (pd_k1 ?_)
        refine at_puti flX6_116 rfl (sd_P0 pb_8) (fun _ _ _ hq => by cases hq; rfl) dX6_readNeed_20 ?_
        refine at_aload_n dX6_readNeed_23 rfl ?_
        refine at_getr (8) flX6_21 rfl sd_1 (rs_1_1 hR) dX6_readNeed_24 ?_
        refine at_geti flX6_116 rfl (sd_P0 pb_8) dX6_readNeed_27 ?_
        refine at_iconst dX6_readNeed_30 pc_im1 ?_
        rw [pd_up_at]
        refine at_icmpeq (tgt := 38) dX6_readNeed_31 (by decide) (fun c31 => ?_) (fun c31 => ?_)
        · -- taken 31
          exact absurd c31 (nI_nm1 (show v < 2 ^ 31 by omega))
        · -- not taken 31
          refine at_iconst dX6_readNeed_34 pc_i1 ?_
          refine at_goto (tgt := 39) dX6_readNeed_35 (by decide) ?_
          refine at_zret rfl dX6_readNeed_39 (by first | exact Or.inl rfl | exact Or.inr rfl | assumption) ?_
          exact ⟨_, rfl, (((FC.rf.up (by omega)).up (by omega)).up (by omega)).up (by omega), rfl, by rw [pd_up_nb (by decide), pd_up_at], by rw [pd_up_nb (by decide), up4_5, up4_5, pd_up_at], (hP.out (fun a h1 h2 j => by rw [pd_up_nb (by omega), pd_up_nb (by omega), pd_up_nb (by omega)])).fld (nI v) (by omega) hJ.1.1.2⟩
      · -- not taken 4
        exact absurd c4 (by decide)
theorem ev_X6_readSpoilt (hR : RS R) (h : RD I T N i) (hT : TOK T N) (hk : T.1 i = 6) (hm : I 1 5 = nI m) (hP : PetRel I L 8 r nv ns nl e) (hJ : LJ m r nv ns nl e) : pd_Ev G mi_X6_readSpoilt 3 0 0 [.ref (pd_z G + 1)] (SD, false, I, L, R) (QT I L R (pOne T i m (r, nv, ns, nl, e) 6 0 100)) := by
  have hlt := hT.lt h.2.2 (by omega)
  unfold pOne
  simp only
  refine pd_ev 0 (lo := [some (.ref (pd_z G + 1))]) (by decide +kernel) (Nat.le_of_ble_eq_true rfl) rfl ?_
  by_cases hb : m.testBit (T.1 i) = true
  · rw [if_pos hb]
    refine at_aload_n dX6_readSpoilt_0 rfl ?_
    refine at_cv0 cvX6_55 sd_1 (cO_no hR h hT hm hJ.2.1 (by omega) hb) (by decide) ⟨Nat.le_refl _, Nat.le_refl _⟩ (Nat.le_of_ble_eq_true rfl) dX6_readSpoilt_1 (pd_k1 ?_)
    refine at_ifne (tgt := 9) dX6_readSpoilt_4 (by decide) (fun c4 => ?_) (fun c4 => ?_)
    · -- taken 4
      exact absurd rfl c4
    · -- not taken 4
      refine at_iconst dX6_readSpoilt_7 pc_i0 ?_
      refine at_zret rfl dX6_readSpoilt_8 (by first | exact Or.inl rfl | exact Or.inr rfl | assumption) ?_
      exact QT.badI FC.rf
  · rw [if_neg hb]
    have h1 := h.once hlt (v := nI (m ||| 2 ^ T.1 i))
    have cN := ev_X6_takeNumber (G := G) (L := L) (lo := 0) (hi := 100) hR h1 hT (by decide) (by decide)
    cases hp : pNum T (i + 1) 0 100 with
    | inr z =>
      rw [hp] at cN
      refine at_aload_n dX6_readSpoilt_0 rfl ?_
      refine at_cv0 cvX6_55 sd_1 (cO_yes hR h hT hm hJ.2.1 (by omega) hb) (by decide) ⟨Nat.le_refl _, Nat.le_refl _⟩ (Nat.le_of_ble_eq_true rfl) dX6_readSpoilt_1 (pd_k1 ?_)
      refine at_ifne (tgt := 9) dX6_readSpoilt_4 (by decide) (fun c4 => ?_) (fun c4 => ?_)
      · -- taken 4
        refine at_aload_n dX6_readSpoilt_9 rfl ?_
        refine at_getr (8) flX6_21 rfl sd_1 (rs_1_1 hR) dX6_readSpoilt_10 ?_
        refine at_aload_n dX6_readSpoilt_13 rfl ?_
        refine at_iconst dX6_readSpoilt_14 pc_i0 ?_
        refine at_bipush dX6_readSpoilt_15 pc_b100 ?_
        refine at_cv2 cvX6_95 sd_1 (cN) (by decide) ⟨Nat.le_refl _, Nat.le_refl _⟩ (Nat.le_of_ble_eq_true rfl) dX6_readSpoilt_17 (pd_k1 ?_)
        refine at_puti flX6_125 rfl (sd_P0 pb_8) (fun _ _ _ hq => by cases hq; rfl) dX6_readSpoilt_20 ?_
        refine at_aload_n dX6_readSpoilt_23 rfl ?_
        refine at_getr (8) flX6_21 rfl sd_1 (rs_1_1 hR) dX6_readSpoilt_24 ?_
        refine at_geti flX6_125 rfl (sd_P0 pb_8) dX6_readSpoilt_27 ?_
        refine at_iconst dX6_readSpoilt_30 pc_im1 ?_
        rw [pd_up_at]
        refine at_icmpeq (tgt := 38) dX6_readSpoilt_31 (by decide) (fun c31 => ?_) (fun c31 => ?_)
        · -- taken 31
          refine at_iconst dX6_readSpoilt_38 pc_i0 ?_
          refine at_zret rfl dX6_readSpoilt_39 (by first | exact Or.inl rfl | exact Or.inr rfl | assumption) ?_
          exact QT.bad ((((FC.rf.up (by omega)).up (by omega)).rfI).up (by omega)) (by rw [pd_up_nb (by decide)]; exact rfI_2.1) (by rw [pd_up_nb (by decide)]; exact rfI_2.2)
        · -- not taken 31
          exact absurd rfl c31
      · -- not taken 4
        exact absurd c4 (by decide)
    | inl v =>
      rw [hp] at cN
      obtain ⟨s1, s2, s3, -⟩ := pNum_ok hp
      refine at_aload_n dX6_readSpoilt_0 rfl ?_
      refine at_cv0 cvX6_55 sd_1 (cO_yes hR h hT hm hJ.2.1 (by omega) hb) (by decide) ⟨Nat.le_refl _, Nat.le_refl _⟩ (Nat.le_of_ble_eq_true rfl) dX6_readSpoilt_1 (pd_k1 ?_)
      refine at_ifne (tgt := 9) dX6_readSpoilt_4 (by decide) (fun c4 => ?_) (fun c4 => ?_)
      · -- taken 4
        refine at_aload_n dX6_readSpoilt_9 rfl ?_
        refine at_getr (8) flX6_21 rfl sd_1 (rs_1_1 hR) dX6_readSpoilt_10 ?_
        refine at_aload_n dX6_readSpoilt_13 rfl ?_
        refine at_iconst dX6_readSpoilt_14 pc_i0 ?_
        refine at_bipush dX6_readSpoilt_15 pc_b100 ?_
        refine at_cv2 cvX6_95 sd_1 (cN) (by decide) ⟨Nat.le_refl _, Nat.le_refl _⟩ (Nat.le_of_ble_eq_true rfl) dX6_readSpoilt_17 (pd_k1 ?_)
        refine at_puti flX6_125 rfl (sd_P0 pb_8) (fun _ _ _ hq => by cases hq; rfl) dX6_readSpoilt_20 ?_
        refine at_aload_n dX6_readSpoilt_23 rfl ?_
        refine at_getr (8) flX6_21 rfl sd_1 (rs_1_1 hR) dX6_readSpoilt_24 ?_
        refine at_geti flX6_125 rfl (sd_P0 pb_8) dX6_readSpoilt_27 ?_
        refine at_iconst dX6_readSpoilt_30 pc_im1 ?_
        rw [pd_up_at]
        refine at_icmpeq (tgt := 38) dX6_readSpoilt_31 (by decide) (fun c31 => ?_) (fun c31 => ?_)
        · -- taken 31
          exact absurd c31 (nI_nm1 (show v < 2 ^ 31 by omega))
        · -- not taken 31
          refine at_iconst dX6_readSpoilt_34 pc_i1 ?_
          refine at_goto (tgt := 39) dX6_readSpoilt_35 (by decide) ?_
          refine at_zret rfl dX6_readSpoilt_39 (by first | exact Or.inl rfl | exact Or.inr rfl | assumption) ?_
          exact ⟨_, rfl, (((FC.rf.up (by omega)).up (by omega)).up (by omega)).up (by omega), rfl, by rw [pd_up_nb (by decide), pd_up_at], by rw [pd_up_nb (by decide), up4_5, up4_5, pd_up_at], (hP.out (fun a h1 h2 j => by rw [pd_up_nb (by omega), pd_up_nb (by omega), pd_up_nb (by omega)])).fld (nI v) (by omega) hJ.1.1.2⟩
      · -- not taken 4
        exact absurd c4 (by decide)
theorem ev_X6_readAlpha (hR : RS R) (h : RD I T N i) (hT : TOK T N) (hk : T.1 i = 7) (hm : I 1 5 = nI m) (hP : PetRel I L 8 r nv ns nl e) (hJ : LJ m r nv ns nl e) : pd_Ev G mi_X6_readAlpha 3 0 0 [.ref (pd_z G + 1)] (SD, false, I, L, R) (QT I L R (pOne T i m (r, nv, ns, nl, e) 7 1 499)) := by
  have hlt := hT.lt h.2.2 (by omega)
  unfold pOne
  simp only
  refine pd_ev 0 (lo := [some (.ref (pd_z G + 1))]) (by decide +kernel) (Nat.le_of_ble_eq_true rfl) rfl ?_
  by_cases hb : m.testBit (T.1 i) = true
  · rw [if_pos hb]
    refine at_aload_n dX6_readAlpha_0 rfl ?_
    refine at_cv0 cvX6_55 sd_1 (cO_no hR h hT hm hJ.2.1 (by omega) hb) (by decide) ⟨Nat.le_refl _, Nat.le_refl _⟩ (Nat.le_of_ble_eq_true rfl) dX6_readAlpha_1 (pd_k1 ?_)
    refine at_ifne (tgt := 9) dX6_readAlpha_4 (by decide) (fun c4 => ?_) (fun c4 => ?_)
    · -- taken 4
      exact absurd rfl c4
    · -- not taken 4
      refine at_iconst dX6_readAlpha_7 pc_i0 ?_
      refine at_zret rfl dX6_readAlpha_8 (by first | exact Or.inl rfl | exact Or.inr rfl | assumption) ?_
      exact QT.badI FC.rf
  · rw [if_neg hb]
    have h1 := h.once hlt (v := nI (m ||| 2 ^ T.1 i))
    have cN := ev_X6_takeNumber (G := G) (L := L) (lo := 1) (hi := 499) hR h1 hT (by decide) (by decide)
    cases hp : pNum T (i + 1) 1 499 with
    | inr z =>
      rw [hp] at cN
      refine at_aload_n dX6_readAlpha_0 rfl ?_
      refine at_cv0 cvX6_55 sd_1 (cO_yes hR h hT hm hJ.2.1 (by omega) hb) (by decide) ⟨Nat.le_refl _, Nat.le_refl _⟩ (Nat.le_of_ble_eq_true rfl) dX6_readAlpha_1 (pd_k1 ?_)
      refine at_ifne (tgt := 9) dX6_readAlpha_4 (by decide) (fun c4 => ?_) (fun c4 => ?_)
      · -- taken 4
        refine at_aload_n dX6_readAlpha_9 rfl ?_
        refine at_getr (8) flX6_21 rfl sd_1 (rs_1_1 hR) dX6_readAlpha_10 ?_
        refine at_aload_n dX6_readAlpha_13 rfl ?_
        refine at_iconst dX6_readAlpha_14 pc_i1 ?_
        refine at_sipush dX6_readAlpha_15 pc_s499 ?_
        refine at_cv2 cvX6_95 sd_1 (cN) (by decide) ⟨Nat.le_refl _, Nat.le_refl _⟩ (Nat.le_of_ble_eq_true rfl) dX6_readAlpha_18 (pd_k1 ?_)
        refine at_puti flX6_128 rfl (sd_P0 pb_8) (fun _ _ _ hq => by cases hq; rfl) dX6_readAlpha_21 ?_
        refine at_aload_n dX6_readAlpha_24 rfl ?_
        refine at_getr (8) flX6_21 rfl sd_1 (rs_1_1 hR) dX6_readAlpha_25 ?_
        refine at_geti flX6_128 rfl (sd_P0 pb_8) dX6_readAlpha_28 ?_
        refine at_iconst dX6_readAlpha_31 pc_im1 ?_
        rw [pd_up_at]
        refine at_icmpeq (tgt := 39) dX6_readAlpha_32 (by decide) (fun c32 => ?_) (fun c32 => ?_)
        · -- taken 32
          refine at_iconst dX6_readAlpha_39 pc_i0 ?_
          refine at_zret rfl dX6_readAlpha_40 (by first | exact Or.inl rfl | exact Or.inr rfl | assumption) ?_
          exact QT.bad ((((FC.rf.up (by omega)).up (by omega)).rfI).up (by omega)) (by rw [pd_up_nb (by decide)]; exact rfI_2.1) (by rw [pd_up_nb (by decide)]; exact rfI_2.2)
        · -- not taken 32
          exact absurd rfl c32
      · -- not taken 4
        exact absurd c4 (by decide)
    | inl v =>
      rw [hp] at cN
      obtain ⟨s1, s2, s3, -⟩ := pNum_ok hp
      refine at_aload_n dX6_readAlpha_0 rfl ?_
      refine at_cv0 cvX6_55 sd_1 (cO_yes hR h hT hm hJ.2.1 (by omega) hb) (by decide) ⟨Nat.le_refl _, Nat.le_refl _⟩ (Nat.le_of_ble_eq_true rfl) dX6_readAlpha_1 (pd_k1 ?_)
      refine at_ifne (tgt := 9) dX6_readAlpha_4 (by decide) (fun c4 => ?_) (fun c4 => ?_)
      · -- taken 4
        refine at_aload_n dX6_readAlpha_9 rfl ?_
        refine at_getr (8) flX6_21 rfl sd_1 (rs_1_1 hR) dX6_readAlpha_10 ?_
        refine at_aload_n dX6_readAlpha_13 rfl ?_
        refine at_iconst dX6_readAlpha_14 pc_i1 ?_
        refine at_sipush dX6_readAlpha_15 pc_s499 ?_
        refine at_cv2 cvX6_95 sd_1 (cN) (by decide) ⟨Nat.le_refl _, Nat.le_refl _⟩ (Nat.le_of_ble_eq_true rfl) dX6_readAlpha_18 (pd_k1 ?_)
        refine at_puti flX6_128 rfl (sd_P0 pb_8) (fun _ _ _ hq => by cases hq; rfl) dX6_readAlpha_21 ?_
        refine at_aload_n dX6_readAlpha_24 rfl ?_
        refine at_getr (8) flX6_21 rfl sd_1 (rs_1_1 hR) dX6_readAlpha_25 ?_
        refine at_geti flX6_128 rfl (sd_P0 pb_8) dX6_readAlpha_28 ?_
        refine at_iconst dX6_readAlpha_31 pc_im1 ?_
        rw [pd_up_at]
        refine at_icmpeq (tgt := 39) dX6_readAlpha_32 (by decide) (fun c32 => ?_) (fun c32 => ?_)
        · -- taken 32
          exact absurd c32 (nI_nm1 (show v < 2 ^ 31 by omega))
        · -- not taken 32
          refine at_iconst dX6_readAlpha_35 pc_i1 ?_
          refine at_goto (tgt := 40) dX6_readAlpha_36 (by decide) ?_
          refine at_zret rfl dX6_readAlpha_40 (by first | exact Or.inl rfl | exact Or.inr rfl | assumption) ?_
          exact ⟨_, rfl, (((FC.rf.up (by omega)).up (by omega)).up (by omega)).up (by omega), rfl, by rw [pd_up_nb (by decide), pd_up_at], by rw [pd_up_nb (by decide), up4_5, up4_5, pd_up_at], (hP.out (fun a h1 h2 j => by rw [pd_up_nb (by omega), pd_up_nb (by omega), pd_up_nb (by omega)])).fld (nI v) (by omega) hJ.1.1.2⟩
      · -- not taken 4
        exact absurd c4 (by decide)
theorem ev_X6_readSpan (hR : RS R) (h : RD I T N i) (hT : TOK T N) (hk : T.1 i = 5) (hm : I 1 5 = nI m) (hP : PetRel I L 8 r nv ns nl e) (hJ : LJ m r nv ns nl e) : pd_Ev G mi_X6_readSpan 3 0 0 [.ref (pd_z G + 1)] (SD, false, I, L, R) (QT I L R (pSpan T i m (r, nv, ns, nl, e))) := by
  have hlt := hT.lt h.2.2 (by omega)
  unfold pSpan
  simp only
  refine pd_ev 0 (lo := [some (.ref (pd_z G + 1))]) (by decide +kernel) (Nat.le_of_ble_eq_true rfl) rfl ?_
  by_cases hb : m.testBit (T.1 i) = true
  · rw [if_pos hb]
    refine at_aload_n dX6_readSpan_0 rfl ?_
    refine at_cv0 cvX6_55 sd_1 (cO_no hR h hT hm hJ.2.1 (by omega) hb) (by decide) ⟨Nat.le_refl _, Nat.le_refl _⟩ (Nat.le_of_ble_eq_true rfl) dX6_readSpan_1 (pd_k1 ?_)
    refine at_ifne (tgt := 9) dX6_readSpan_4 (by decide) (fun c4 => ?_) (fun c4 => ?_)
    · -- taken 4
      exact absurd rfl c4
    · -- not taken 4
      refine at_iconst dX6_readSpan_7 pc_i0 ?_
      refine at_zret rfl dX6_readSpan_8 (by first | exact Or.inl rfl | exact Or.inr rfl | assumption) ?_
      exact QT.badI FC.rf
  · rw [if_neg hb]
    have h1 := h.once hlt (v := nI (m ||| 2 ^ T.1 i))
    have cN := ev_X6_takeNumber (G := G) (L := L) (lo := 0) (hi := 999) hR h1 hT (by decide) (by decide)
    cases hp : pNum T (i + 1) 0 999 with
    | inr z =>
      rw [hp] at cN
      refine at_aload_n dX6_readSpan_0 rfl ?_
      refine at_cv0 cvX6_55 sd_1 (cO_yes hR h hT hm hJ.2.1 (by omega) hb) (by decide) ⟨Nat.le_refl _, Nat.le_refl _⟩ (Nat.le_of_ble_eq_true rfl) dX6_readSpan_1 (pd_k1 ?_)
      refine at_ifne (tgt := 9) dX6_readSpan_4 (by decide) (fun c4 => ?_) (fun c4 => ?_)
      · -- taken 4
        refine at_aload_n dX6_readSpan_9 rfl ?_
        refine at_getr (8) flX6_21 rfl sd_1 (rs_1_1 hR) dX6_readSpan_10 ?_
        refine at_aload_n dX6_readSpan_13 rfl ?_
        refine at_iconst dX6_readSpan_14 pc_i0 ?_
        refine at_sipush dX6_readSpan_15 pc_s999 ?_
        refine at_cv2 cvX6_95 sd_1 (cN) (by decide) ⟨Nat.le_refl _, Nat.le_refl _⟩ (Nat.le_of_ble_eq_true rfl) dX6_readSpan_18 (pd_k1 ?_)
        refine at_puti flX6_119 rfl (sd_P0 pb_8) (fun _ _ _ hq => by cases hq; rfl) dX6_readSpan_21 ?_
        refine at_aload_n dX6_readSpan_24 rfl ?_
        refine at_getr (8) flX6_21 rfl sd_1 (rs_1_1 hR) dX6_readSpan_25 ?_
        refine at_geti flX6_119 rfl (sd_P0 pb_8) dX6_readSpan_28 ?_
        refine at_iconst dX6_readSpan_31 pc_im1 ?_
        rw [pd_up_at]
        refine at_icmpne (tgt := 37) dX6_readSpan_32 (by decide) (fun c32 => ?_) (fun c32 => ?_)
        · -- taken 32
          exact absurd rfl c32
        · -- not taken 32
          refine at_iconst dX6_readSpan_35 pc_i0 ?_
          refine at_zret rfl dX6_readSpan_36 (by first | exact Or.inl rfl | exact Or.inr rfl | assumption) ?_
          exact QT.bad ((((FC.rf.up (by omega)).up (by omega)).rfI).up (by omega)) (by rw [pd_up_nb (by decide)]; exact rfI_2.1) (by rw [pd_up_nb (by decide)]; exact rfI_2.2)
      · -- not taken 4
        exact absurd c4 (by decide)
    | inl v =>
      rw [hp] at cN
      obtain ⟨s1, s2, s3, -⟩ := pNum_ok hp
      dsimp only
      have hlt1 := hT.lt (i := i + 1) hlt (by rw [s1]; decide)
      have h2 : RD (pd_up (pd_up (pd_up (pd_up I 1 5 (nI (m ||| 2 ^ T.1 i))) 1 4 (nI (i + 1))) 1 4 (nI (i + 1 + 1))) 8 12 (nI v)) T N (i + 2) := ⟨(h1.adv hlt1).1.fr (fun a h1 h2 j => pd_up_nb (by omega)), by rw [pd_up_nb (by decide), pd_up_at], hlt1⟩
      have cU := ev_X6_takeNumber (G := G) (L := L) (lo := v) (hi := 999) hR h2 hT (by omega) (by decide)
      cases hq : pNum T (i + 2) v 999 with
      | inr z =>
        rw [hq] at cU
        refine at_aload_n dX6_readSpan_0 rfl ?_
        refine at_cv0 cvX6_55 sd_1 (cO_yes hR h hT hm hJ.2.1 (by omega) hb) (by decide) ⟨Nat.le_refl _, Nat.le_refl _⟩ (Nat.le_of_ble_eq_true rfl) dX6_readSpan_1 (pd_k1 ?_)
        refine at_ifne (tgt := 9) dX6_readSpan_4 (by decide) (fun c4 => ?_) (fun c4 => ?_)
        · -- taken 4
          refine at_aload_n dX6_readSpan_9 rfl ?_
          refine at_getr (8) flX6_21 rfl sd_1 (rs_1_1 hR) dX6_readSpan_10 ?_
          refine at_aload_n dX6_readSpan_13 rfl ?_
          refine at_iconst dX6_readSpan_14 pc_i0 ?_
          refine at_sipush dX6_readSpan_15 pc_s999 ?_
          refine at_cv2 cvX6_95 sd_1 (cN) (by decide) ⟨Nat.le_refl _, Nat.le_refl _⟩ (Nat.le_of_ble_eq_true rfl) dX6_readSpan_18 (pd_k1 ?_)
          refine at_puti flX6_119 rfl (sd_P0 pb_8) (fun _ _ _ hq => by cases hq; rfl) dX6_readSpan_21 ?_
          refine at_aload_n dX6_readSpan_24 rfl ?_
          refine at_getr (8) flX6_21 rfl sd_1 (rs_1_1 hR) dX6_readSpan_25 ?_
          refine at_geti flX6_119 rfl (sd_P0 pb_8) dX6_readSpan_28 ?_
          refine at_iconst dX6_readSpan_31 pc_im1 ?_
          rw [pd_up_at]
          refine at_icmpne (tgt := 37) dX6_readSpan_32 (by decide) (fun c32 => ?_) (fun c32 => ?_)
          · -- taken 32
            refine at_aload_n dX6_readSpan_37 rfl ?_
            refine at_getr (8) flX6_21 rfl sd_1 (rs_1_1 hR) dX6_readSpan_38 ?_
            refine at_aload_n dX6_readSpan_41 rfl ?_
            refine at_aload_n dX6_readSpan_42 rfl ?_
            refine at_getr (8) flX6_21 rfl sd_1 (rs_1_1 hR) dX6_readSpan_43 ?_
            refine at_geti flX6_119 rfl (sd_P0 pb_8) dX6_readSpan_46 ?_
            rw [pd_up_at]
            refine at_sipush dX6_readSpan_49 pc_s999 ?_
            refine at_cv2 cvX6_95 sd_1 (cU) (by decide) ⟨Nat.le_refl _, Nat.le_refl _⟩ (Nat.le_of_ble_eq_true rfl) dX6_readSpan_52 (pd_k1 ?_)
            refine at_puti flX6_122 rfl (sd_P0 pb_8) (fun _ _ _ hq => by cases hq; rfl) dX6_readSpan_55 ?_
            refine at_aload_n dX6_readSpan_58 rfl ?_
            refine at_getr (8) flX6_21 rfl sd_1 (rs_1_1 hR) dX6_readSpan_59 ?_
            refine at_geti flX6_122 rfl (sd_P0 pb_8) dX6_readSpan_62 ?_
            refine at_iconst dX6_readSpan_65 pc_im1 ?_
            rw [pd_up_at]
            refine at_icmpeq (tgt := 73) dX6_readSpan_66 (by decide) (fun c66 => ?_) (fun c66 => ?_)
            · -- taken 66
              refine at_iconst dX6_readSpan_73 pc_i0 ?_
              refine at_zret rfl dX6_readSpan_74 (by first | exact Or.inl rfl | exact Or.inr rfl | assumption) ?_
              exact QT.bad ((((((FC.rf.up (by omega)).up (by omega)).up (by omega)).up (by omega)).rfI).up (by omega)) (by rw [pd_up_nb (by decide)]; exact rfI_2.1) (by rw [pd_up_nb (by decide)]; exact rfI_2.2)
            · -- not taken 66
              exact absurd rfl c66
          · -- not taken 32
            exact absurd c32 (nI_nm1 (show v < 2 ^ 31 by omega))
        · -- not taken 4
          exact absurd c4 (by decide)
      | inl u =>
        rw [hq] at cU
        obtain ⟨t1, t2, t3, -⟩ := pNum_ok hq
        refine at_aload_n dX6_readSpan_0 rfl ?_
        refine at_cv0 cvX6_55 sd_1 (cO_yes hR h hT hm hJ.2.1 (by omega) hb) (by decide) ⟨Nat.le_refl _, Nat.le_refl _⟩ (Nat.le_of_ble_eq_true rfl) dX6_readSpan_1 (pd_k1 ?_)
        refine at_ifne (tgt := 9) dX6_readSpan_4 (by decide) (fun c4 => ?_) (fun c4 => ?_)
        · -- taken 4
          refine at_aload_n dX6_readSpan_9 rfl ?_
          refine at_getr (8) flX6_21 rfl sd_1 (rs_1_1 hR) dX6_readSpan_10 ?_
          refine at_aload_n dX6_readSpan_13 rfl ?_
          refine at_iconst dX6_readSpan_14 pc_i0 ?_
          refine at_sipush dX6_readSpan_15 pc_s999 ?_
          refine at_cv2 cvX6_95 sd_1 (cN) (by decide) ⟨Nat.le_refl _, Nat.le_refl _⟩ (Nat.le_of_ble_eq_true rfl) dX6_readSpan_18 (pd_k1 ?_)
          refine at_puti flX6_119 rfl (sd_P0 pb_8) (fun _ _ _ hq => by cases hq; rfl) dX6_readSpan_21 ?_
          refine at_aload_n dX6_readSpan_24 rfl ?_
          refine at_getr (8) flX6_21 rfl sd_1 (rs_1_1 hR) dX6_readSpan_25 ?_
          refine at_geti flX6_119 rfl (sd_P0 pb_8) dX6_readSpan_28 ?_
          refine at_iconst dX6_readSpan_31 pc_im1 ?_
          rw [pd_up_at]
          refine at_icmpne (tgt := 37) dX6_readSpan_32 (by decide) (fun c32 => ?_) (fun c32 => ?_)
          · -- taken 32
            refine at_aload_n dX6_readSpan_37 rfl ?_
            refine at_getr (8) flX6_21 rfl sd_1 (rs_1_1 hR) dX6_readSpan_38 ?_
            refine at_aload_n dX6_readSpan_41 rfl ?_
            refine at_aload_n dX6_readSpan_42 rfl ?_
            refine at_getr (8) flX6_21 rfl sd_1 (rs_1_1 hR) dX6_readSpan_43 ?_
            refine at_geti flX6_119 rfl (sd_P0 pb_8) dX6_readSpan_46 ?_
            rw [pd_up_at]
            refine at_sipush dX6_readSpan_49 pc_s999 ?_
            refine at_cv2 cvX6_95 sd_1 (cU) (by decide) ⟨Nat.le_refl _, Nat.le_refl _⟩ (Nat.le_of_ble_eq_true rfl) dX6_readSpan_52 (pd_k1 ?_)
            refine at_puti flX6_122 rfl (sd_P0 pb_8) (fun _ _ _ hq => by cases hq; rfl) dX6_readSpan_55 ?_
            refine at_aload_n dX6_readSpan_58 rfl ?_
            refine at_getr (8) flX6_21 rfl sd_1 (rs_1_1 hR) dX6_readSpan_59 ?_
            refine at_geti flX6_122 rfl (sd_P0 pb_8) dX6_readSpan_62 ?_
            refine at_iconst dX6_readSpan_65 pc_im1 ?_
            rw [pd_up_at]
            refine at_icmpeq (tgt := 73) dX6_readSpan_66 (by decide) (fun c66 => ?_) (fun c66 => ?_)
            · -- taken 66
              exact absurd c66 (nI_nm1 (show u < 2 ^ 31 by omega))
            · -- not taken 66
              refine at_iconst dX6_readSpan_69 pc_i1 ?_
              refine at_goto (tgt := 74) dX6_readSpan_70 (by decide) ?_
              refine at_zret rfl dX6_readSpan_74 (by first | exact Or.inl rfl | exact Or.inr rfl | assumption) ?_
              refine ⟨_, rfl, (((((FC.rf.up (by omega)).up (by omega)).up (by omega)).up (by omega)).up (by omega)).up (by omega), rfl, by rw [pd_up_nb (by decide), pd_up_at], by rw [pd_up_nb (by decide), up4_5, pd_up_nb (by decide), up4_5, up4_5, pd_up_at], ?_⟩
              refine PetRel.fld (PetRel.out (PetRel.fld (hP.out (fun a h1 h2 j => by rw [pd_up_nb (by omega), pd_up_nb (by omega), pd_up_nb (by omega)])) (nI v) (k := 12) (kk := 4) (by omega) hJ.1.1.2) (fun a h1 h2 j => pd_up_nb (by omega))) (nI u) (by omega) hJ.1.1.2
          · -- not taken 32
            exact absurd c32 (nI_nm1 (show v < 2 ^ 31 by omega))
        · -- not taken 4
          exact absurd c4 (by decide)
end TOLD3
