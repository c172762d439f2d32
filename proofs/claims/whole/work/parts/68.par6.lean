/-! ===== the reference reads: a voter, a line signed, a word that stands once ===== -/
theorem ckR_self {r : Nat → Int32} {nv ns nl : Nat} {e : List rl_S} (h : Row r nv ns nl e) : ckR r (rl_ks e) = r := by
  funext k
  unfold ckR
  by_cases hk : 305 ≤ k ∧ k < 305 + (rl_ks e).length
  · rw [if_pos hk]
    have hj : k - 305 < (rl_ks e).length := by omega
    have := h.2.2.2.2.2.2.2.2.2.2.2.2.1 (k - 305) ((rl_ks e)[k - 305]) (List.getElem?_eq_getElem hj)
    rw [show 305 + (k - 305) = k by omega] at this
    rw [this, List.getD_eq_getElem?_getD, List.getElem?_eq_getElem hj]; rfl
  · rw [if_neg hk]
/-- what reading one thing gives -/
def LQ (K : Nat → Nat → Int32) (L : Nat → Nat → Int64) (B : Nat → Nat) (n : Nat) (res : LSt ⊕ (Nat × Nat)) (I' : Nat → Nat → Int32) (L' : Nat → Nat → Int64) : Prop := L' = L ∧ FP K I' ∧ match res with
  | .inl z => GZ I' B n z.2.2.1 (rl_ks z.2.2.2.2.2.2) 0 z.1
  | .inr z => FZ I' B n 3 z
theorem GZ.row {I I' : Nat → Nat → Int32} {B : Nat → Nat} {n d i : Nat} {r r' : Nat → Int32} {ks : List Int32} (h : GZ I B n r ks d i) (hI : ∀ x j, x ≠ 123 → I' x j = I x j) (hq : RQ I' 123 (ckR r' ks)) : GZ I' B n r' ks d i := by
  obtain ⟨h1, ⟨p, a1, a2, a3⟩, h3, h4, h5, h6, h7⟩ := h
  exact ⟨h1.fr (hI _ _ (by decide)) (fun j => hI _ _ (by decide)), ⟨p, (hI _ _ (by decide)).trans a1, a2, a3⟩, (hI _ _ (by decide)).trans h3, (hI _ _ (by decide)).trans h4, (hI _ _ (by decide)).trans h5, hq, (hI _ _ (by decide)).trans h7⟩
section PAR6
variable {G : pd_G} {L : Nat → Nat → Int64} {R : Nat → Nat → Option Nat} {B : Nat → Nat} {n : Nat}
variable {K : Nat → Nat → Int32} {m i nv ns nl : Nat} {r : Nat → Int32} {e : List rl_S}
theorem ev_gz_voter (hR : RS R) (h : GZ K B n r (rl_ks e) 0 (i + 1)) (hJ : LJ m r nv ns nl e) : pd_Ev G mi_X9_readsVoter 5 0 0 [.ref (pd_z G + 119), .int (nI (tq B n i))] (SD, false, K, L, R) (pd_re R (LQ K L B n (pVoter (tT B n) i m (r, nv, ns, nl, e)))) := by
  have hr := hJ.1
  have hv16 := hr.1.2
  have hse := ckR_self hr
  have hpl : ∀ j, (tT B n).2.2.2 j = tq B n j := fun _ => rfl
  have h0 : K 123 (0 : Int32).toNatClampNeg = nI nv := by
    have := h.2.2.2.2.2.1 0 (by decide)
    rw [hse] at this
    exact this.trans hr.1.1
  unfold pVoter
  dsimp only
  by_cases hn16 : 16 ≤ nv
  · rw [if_pos hn16]
    have e16 : nv = 16 := by omega
    obtain ⟨p, p1, p2, -⟩ := h.2.1
    have hw := h.wr (p := p) (c := 4) (q := tq B n i) p2 (by decide)
    rw [pd_up_same p1] at hw
    have hF1 : FP K (pd_up (pd_up K 119 6 (nI 4)) 119 7 (nI (tq B n i))) := (FP.rf.up (by decide)).up (by decide)
    refine pd_ev 5 (lo := [some (.ref (pd_z G + 119)), some (.int (nI (tq B n i))), none, none, none, none, none]) (by decide +kernel) (Nat.le_of_ble_eq_true rfl) rfl ?_
    refine at_aload_n dX9_readsVoter_0 rfl ?_
    refine at_getr (123) flX9_23 rfl sd_119 (rs_119_10 hR) dX9_readsVoter_1 ?_
    refine at_iconst dX9_readsVoter_4 pc_i0 ?_
    refine at_iald sd_123 (vp_in_nI (n := 0) (by decide) (by decide)) dX9_readsVoter_5 ?_
    rw [h0, e16]
    refine at_bipush dX9_readsVoter_6 pc_b16 ?_
    refine at_icmpne (tgt := 17) dX9_readsVoter_8 (by decide) (fun c8 => ?_) (fun c8 => ?_)
    · -- taken 8
      exact absurd rfl c8
    · -- not taken 8
      refine at_aload_n dX9_readsVoter_11 rfl ?_
      refine at_iconst dX9_readsVoter_12 pc_i4 ?_
      refine at_iload_n dX9_readsVoter_13 rfl ?_
      refine at_cv2 cvX9_95 sd_119 (ev_X9_wrong0 h.2.2.1 _ _) (by decide) ⟨Nat.le_refl _, Nat.le_refl _⟩ (Nat.le_of_ble_eq_true rfl) dX9_readsVoter_14 (pd_k0 ?_)
      refine at_aload_n dX9_readsVoter_17 rfl ?_
      refine at_cv0 cvX9_70 sd_119 (ev_fz_here hR (by decide) hw) (by decide) ⟨Nat.le_refl _, Nat.le_refl _⟩ (Nat.le_of_ble_eq_true rfl) dX9_readsVoter_18 (pd_ki fun v I2 L2 hq => ?_)
      obtain ⟨rfl, hF2, hZ2⟩ := hq
      refine at_pop dX9_readsVoter_21 rfl ?_
      refine at_aload_n dX9_readsVoter_22 rfl ?_
      refine at_geti flX9_57 rfl sd_119 dX9_readsVoter_23 ?_
      refine at_istore_n dX9_readsVoter_26 rfl (Nat.le_of_ble_eq_true rfl) ?_
      refine at_aload_n dX9_readsVoter_27 rfl ?_
      refine at_cv0 cvX9_114 sd_119 (ev_X9_nameF hR hZ2.nf) (by decide) ⟨Nat.le_refl _, Nat.le_refl _⟩ (Nat.le_of_ble_eq_true rfl) dX9_readsVoter_28 (pd_k1 ?_)
      refine at_istore_n dX9_readsVoter_31 rfl (Nat.le_of_ble_eq_true rfl) ?_
      refine at_aload_n dX9_readsVoter_32 rfl ?_
      refine at_iconst dX9_readsVoter_33 pc_i0 ?_
      refine at_bipush dX9_readsVoter_34 pc_b99 ?_
      refine at_cv2 cvX9_117 sd_119 (ev_X9_numberF hR hZ2.nf _ _) (by decide) ⟨Nat.le_refl _, Nat.le_refl _⟩ (Nat.le_of_ble_eq_true rfl) dX9_readsVoter_36 (pd_k1 ?_)
      refine at_istore dX9_readsVoter_39 rfl (Nat.le_of_ble_eq_true rfl) ?_
      refine at_aload_n dX9_readsVoter_41 rfl ?_
      refine at_cv0 cvX9_87 sd_119 (ev_X9_fine) (by decide) ⟨Nat.le_refl _, Nat.le_refl _⟩ (Nat.le_of_ble_eq_true rfl) dX9_readsVoter_42 (pd_k1 ?_)
      rw [decide_eq_false hZ2.nf]
      refine at_ifeq (tgt := 68) dX9_readsVoter_45 (by decide) (fun c45 => ?_) (fun c45 => ?_)
      · -- taken 45
        refine at_aload_n dX9_readsVoter_68 rfl ?_
        refine at_iconst dX9_readsVoter_69 pc_i0 ?_
        refine at_sipush dX9_readsVoter_70 pc_s999 ?_
        refine at_cv2 cvX9_117 sd_119 (ev_X9_numberF hR hZ2.nf _ _) (by decide) ⟨Nat.le_refl _, Nat.le_refl _⟩ (Nat.le_of_ble_eq_true rfl) dX9_readsVoter_73 (pd_k1 ?_)
        refine at_istore dX9_readsVoter_76 rfl (Nat.le_of_ble_eq_true rfl) ?_
        refine at_aload_n dX9_readsVoter_78 rfl ?_
        refine at_getr (123) flX9_23 rfl sd_119 (rs_119_10 hR) dX9_readsVoter_79 ?_
        refine at_iconst dX9_readsVoter_82 pc_i0 ?_
        refine at_iald sd_123 (vp_in_nI (n := 0) (by decide) (by decide)) dX9_readsVoter_83 ?_
        refine at_istore dX9_readsVoter_84 rfl (Nat.le_of_ble_eq_true rfl) ?_
        refine at_aload_n dX9_readsVoter_86 rfl ?_
        refine at_cv0 cvX9_87 sd_119 (ev_X9_fine) (by decide) ⟨Nat.le_refl _, Nat.le_refl _⟩ (Nat.le_of_ble_eq_true rfl) dX9_readsVoter_87 (pd_k1 ?_)
        rw [decide_eq_false hZ2.nf]
        refine at_ifne (tgt := 94) dX9_readsVoter_90 (by decide) (fun c90 => ?_) (fun c90 => ?_)
        · -- taken 90
          exact absurd rfl c90
        · -- not taken 90
          refine at_vret rfl dX9_readsVoter_93 ?_
          exact ⟨rfl, _, _, rfl, rfl, hF1.tr hF2, hZ2.mono (by decide)⟩
      · -- not taken 45
        exact absurd rfl c45
  · rw [if_neg hn16]
    have en : ¬ nI nv = 16 := fun q => by have := (nI_eq (b := 16) (by omega) (by decide)).mp q; omega
    cases hN : pName (tT B n) (i + 1) with
    | inr z =>
      refine pd_ev 5 (lo := [some (.ref (pd_z G + 119)), some (.int (nI (tq B n i))), none, none, none, none, none]) (by decide +kernel) (Nat.le_of_ble_eq_true rfl) rfl ?_
      refine at_aload_n dX9_readsVoter_0 rfl ?_
      refine at_getr (123) flX9_23 rfl sd_119 (rs_119_10 hR) dX9_readsVoter_1 ?_
      refine at_iconst dX9_readsVoter_4 pc_i0 ?_
      refine at_iald sd_123 (vp_in_nI (n := 0) (by decide) (by decide)) dX9_readsVoter_5 ?_
      rw [h0]
      refine at_bipush dX9_readsVoter_6 pc_b16 ?_
      refine at_icmpne (tgt := 17) dX9_readsVoter_8 (by decide) (fun c8 => ?_) (fun c8 => ?_)
      · -- taken 8
        refine at_aload_n dX9_readsVoter_17 rfl ?_
        refine at_cv0 cvX9_70 sd_119 (ev_gz_here hR h) (by decide) ⟨Nat.le_refl _, Nat.le_refl _⟩ (Nat.le_of_ble_eq_true rfl) dX9_readsVoter_18 (pd_k1 ?_)
        refine at_pop dX9_readsVoter_21 rfl ?_
        refine at_aload_n dX9_readsVoter_22 rfl ?_
        refine at_geti flX9_57 rfl sd_119 dX9_readsVoter_23 ?_
        refine at_istore_n dX9_readsVoter_26 rfl (Nat.le_of_ble_eq_true rfl) ?_
        refine at_aload_n dX9_readsVoter_27 rfl ?_
        refine at_cv0 cvX9_114 sd_119 (ev_gz_name0 hR h.here hN) (by decide) ⟨Nat.le_refl _, Nat.le_refl _⟩ (Nat.le_of_ble_eq_true rfl) dX9_readsVoter_28 (pd_ki fun v I2 L2 hq => ?_)
        obtain ⟨rfl, hF2, hZ2⟩ := hq
        refine at_istore_n dX9_readsVoter_31 rfl (Nat.le_of_ble_eq_true rfl) ?_
        refine at_aload_n dX9_readsVoter_32 rfl ?_
        refine at_iconst dX9_readsVoter_33 pc_i0 ?_
        refine at_bipush dX9_readsVoter_34 pc_b99 ?_
        refine at_cv2 cvX9_117 sd_119 (ev_X9_numberF hR hZ2.nf _ _) (by decide) ⟨Nat.le_refl _, Nat.le_refl _⟩ (Nat.le_of_ble_eq_true rfl) dX9_readsVoter_36 (pd_k1 ?_)
        refine at_istore dX9_readsVoter_39 rfl (Nat.le_of_ble_eq_true rfl) ?_
        refine at_aload_n dX9_readsVoter_41 rfl ?_
        refine at_cv0 cvX9_87 sd_119 (ev_X9_fine) (by decide) ⟨Nat.le_refl _, Nat.le_refl _⟩ (Nat.le_of_ble_eq_true rfl) dX9_readsVoter_42 (pd_k1 ?_)
        rw [decide_eq_false hZ2.nf]
        refine at_ifeq (tgt := 68) dX9_readsVoter_45 (by decide) (fun c45 => ?_) (fun c45 => ?_)
        · -- taken 45
          refine at_aload_n dX9_readsVoter_68 rfl ?_
          refine at_iconst dX9_readsVoter_69 pc_i0 ?_
          refine at_sipush dX9_readsVoter_70 pc_s999 ?_
          refine at_cv2 cvX9_117 sd_119 (ev_X9_numberF hR hZ2.nf _ _) (by decide) ⟨Nat.le_refl _, Nat.le_refl _⟩ (Nat.le_of_ble_eq_true rfl) dX9_readsVoter_73 (pd_k1 ?_)
          refine at_istore dX9_readsVoter_76 rfl (Nat.le_of_ble_eq_true rfl) ?_
          refine at_aload_n dX9_readsVoter_78 rfl ?_
          refine at_getr (123) flX9_23 rfl sd_119 (rs_119_10 hR) dX9_readsVoter_79 ?_
          refine at_iconst dX9_readsVoter_82 pc_i0 ?_
          refine at_iald sd_123 (vp_in_nI (n := 0) (by decide) (by decide)) dX9_readsVoter_83 ?_
          refine at_istore dX9_readsVoter_84 rfl (Nat.le_of_ble_eq_true rfl) ?_
          refine at_aload_n dX9_readsVoter_86 rfl ?_
          refine at_cv0 cvX9_87 sd_119 (ev_X9_fine) (by decide) ⟨Nat.le_refl _, Nat.le_refl _⟩ (Nat.le_of_ble_eq_true rfl) dX9_readsVoter_87 (pd_k1 ?_)
          rw [decide_eq_false hZ2.nf]
          refine at_ifne (tgt := 94) dX9_readsVoter_90 (by decide) (fun c90 => ?_) (fun c90 => ?_)
          · -- taken 90
            exact absurd rfl c90
          · -- not taken 90
            refine at_vret rfl dX9_readsVoter_93 ?_
            exact ⟨rfl, _, _, rfl, rfl, (FP.rf.up (by decide)).tr hF2, hZ2.mono (by decide)⟩
        · -- not taken 45
          exact absurd rfl c45
      · -- not taken 8
        exact absurd c8 en
    | inl nm =>
      dsimp only
      cases hS : pNum (tT B n) (i + 2) 0 99 with
      | inr z =>
        refine pd_ev 5 (lo := [some (.ref (pd_z G + 119)), some (.int (nI (tq B n i))), none, none, none, none, none]) (by decide +kernel) (Nat.le_of_ble_eq_true rfl) rfl ?_
        refine at_aload_n dX9_readsVoter_0 rfl ?_
        refine at_getr (123) flX9_23 rfl sd_119 (rs_119_10 hR) dX9_readsVoter_1 ?_
        refine at_iconst dX9_readsVoter_4 pc_i0 ?_
        refine at_iald sd_123 (vp_in_nI (n := 0) (by decide) (by decide)) dX9_readsVoter_5 ?_
        rw [h0]
        refine at_bipush dX9_readsVoter_6 pc_b16 ?_
        refine at_icmpne (tgt := 17) dX9_readsVoter_8 (by decide) (fun c8 => ?_) (fun c8 => ?_)
        · -- taken 8
          refine at_aload_n dX9_readsVoter_17 rfl ?_
          refine at_cv0 cvX9_70 sd_119 (ev_gz_here hR h) (by decide) ⟨Nat.le_refl _, Nat.le_refl _⟩ (Nat.le_of_ble_eq_true rfl) dX9_readsVoter_18 (pd_k1 ?_)
          refine at_pop dX9_readsVoter_21 rfl ?_
          refine at_aload_n dX9_readsVoter_22 rfl ?_
          refine at_geti flX9_57 rfl sd_119 dX9_readsVoter_23 ?_
          refine at_istore_n dX9_readsVoter_26 rfl (Nat.le_of_ble_eq_true rfl) ?_
          refine at_aload_n dX9_readsVoter_27 rfl ?_
          refine at_cv0 cvX9_114 sd_119 (ev_gz_name1 hR h.here hN) (by decide) ⟨Nat.le_refl _, Nat.le_refl _⟩ (Nat.le_of_ble_eq_true rfl) dX9_readsVoter_28 (pd_ki fun v I2 L2 hq => ?_)
          obtain ⟨rfl, rfl, hF2, hZ2⟩ := hq
          refine at_istore_n dX9_readsVoter_31 rfl (Nat.le_of_ble_eq_true rfl) ?_
          refine at_aload_n dX9_readsVoter_32 rfl ?_
          refine at_iconst dX9_readsVoter_33 pc_i0 ?_
          refine at_bipush dX9_readsVoter_34 pc_b99 ?_
          refine at_cv2 cvX9_117 sd_119 (ev_gz_num0 (lo := 0) (hi := 99) hR hZ2 (by decide) (by decide) hS) (by decide) ⟨Nat.le_refl _, Nat.le_refl _⟩ (Nat.le_of_ble_eq_true rfl) dX9_readsVoter_36 (pd_ki fun v I3 L3 hq3 => ?_)
          obtain ⟨rfl, hF3, hZ3⟩ := hq3
          refine at_istore dX9_readsVoter_39 rfl (Nat.le_of_ble_eq_true rfl) ?_
          refine at_aload_n dX9_readsVoter_41 rfl ?_
          refine at_cv0 cvX9_87 sd_119 (ev_X9_fine) (by decide) ⟨Nat.le_refl _, Nat.le_refl _⟩ (Nat.le_of_ble_eq_true rfl) dX9_readsVoter_42 (pd_k1 ?_)
          rw [decide_eq_false hZ3.nf]
          refine at_ifeq (tgt := 68) dX9_readsVoter_45 (by decide) (fun c45 => ?_) (fun c45 => ?_)
          · -- taken 45
            refine at_aload_n dX9_readsVoter_68 rfl ?_
            refine at_iconst dX9_readsVoter_69 pc_i0 ?_
            refine at_sipush dX9_readsVoter_70 pc_s999 ?_
            refine at_cv2 cvX9_117 sd_119 (ev_X9_numberF hR hZ3.nf _ _) (by decide) ⟨Nat.le_refl _, Nat.le_refl _⟩ (Nat.le_of_ble_eq_true rfl) dX9_readsVoter_73 (pd_k1 ?_)
            refine at_istore dX9_readsVoter_76 rfl (Nat.le_of_ble_eq_true rfl) ?_
            refine at_aload_n dX9_readsVoter_78 rfl ?_
            refine at_getr (123) flX9_23 rfl sd_119 (rs_119_10 hR) dX9_readsVoter_79 ?_
            refine at_iconst dX9_readsVoter_82 pc_i0 ?_
            refine at_iald sd_123 (vp_in_nI (n := 0) (by decide) (by decide)) dX9_readsVoter_83 ?_
            refine at_istore dX9_readsVoter_84 rfl (Nat.le_of_ble_eq_true rfl) ?_
            refine at_aload_n dX9_readsVoter_86 rfl ?_
            refine at_cv0 cvX9_87 sd_119 (ev_X9_fine) (by decide) ⟨Nat.le_refl _, Nat.le_refl _⟩ (Nat.le_of_ble_eq_true rfl) dX9_readsVoter_87 (pd_k1 ?_)
            rw [decide_eq_false hZ3.nf]
            refine at_ifne (tgt := 94) dX9_readsVoter_90 (by decide) (fun c90 => ?_) (fun c90 => ?_)
            · -- taken 90
              exact absurd rfl c90
            · -- not taken 90
              refine at_vret rfl dX9_readsVoter_93 ?_
              exact ⟨rfl, _, _, rfl, rfl, ((FP.rf.up (by decide)).tr hF2).tr hF3, hZ3.mono (by decide)⟩
          · -- not taken 45
            exact absurd rfl c45
        · -- not taken 8
          exact absurd c8 en
      | inl s =>
        dsimp only
        have qv : ∀ I3 : Nat → Nat → Int32, GZ I3 B n r (rl_ks e) 0 (i + 3) → RQ I3 123 r := fun I3 hZ3 => by have := hZ3.2.2.2.2.2.1; rwa [hse] at this
        by_cases hD : pDup r nv nm s = true
        · rw [if_pos hD]
          have hD' : ¬ i_find (fun v => decide (r (9 + 3 * v) = nI (n27 0 nm)) && decide (r (10 + 3 * v) = nI s)) nv = -1 := by simpa [pDup] using hD
          have wf : ∀ I3 : Nat → Nat → Int32, GZ I3 B n r (rl_ks e) 0 (i + 3) → FZ (pd_up (pd_up I3 119 6 (nI 3)) 119 7 (nI (tq B n (i + 1)))) B n 0 (3, tq B n (i + 1)) := fun I3 hZ3 => by
            obtain ⟨p, p1, p2, -⟩ := hZ3.2.1
            have hw := hZ3.wr (p := p) (c := 3) (q := tq B n (i + 1)) p2 (by decide)
            rwa [pd_up_same p1] at hw
          refine pd_ev 5 (lo := [some (.ref (pd_z G + 119)), some (.int (nI (tq B n i))), none, none, none, none, none]) (by decide +kernel) (Nat.le_of_ble_eq_true rfl) rfl ?_
          refine at_aload_n dX9_readsVoter_0 rfl ?_
          refine at_getr (123) flX9_23 rfl sd_119 (rs_119_10 hR) dX9_readsVoter_1 ?_
          refine at_iconst dX9_readsVoter_4 pc_i0 ?_
          refine at_iald sd_123 (vp_in_nI (n := 0) (by decide) (by decide)) dX9_readsVoter_5 ?_
          rw [h0]
          refine at_bipush dX9_readsVoter_6 pc_b16 ?_
          refine at_icmpne (tgt := 17) dX9_readsVoter_8 (by decide) (fun c8 => ?_) (fun c8 => ?_)
          · -- taken 8
            refine at_aload_n dX9_readsVoter_17 rfl ?_
            refine at_cv0 cvX9_70 sd_119 (ev_gz_here hR h) (by decide) ⟨Nat.le_refl _, Nat.le_refl _⟩ (Nat.le_of_ble_eq_true rfl) dX9_readsVoter_18 (pd_k1 ?_)
            refine at_pop dX9_readsVoter_21 rfl ?_
            refine at_aload_n dX9_readsVoter_22 rfl ?_
            refine at_geti flX9_57 rfl sd_119 dX9_readsVoter_23 ?_
            rw [pd_up_at]
            refine at_istore_n dX9_readsVoter_26 rfl (Nat.le_of_ble_eq_true rfl) ?_
            refine at_aload_n dX9_readsVoter_27 rfl ?_
            refine at_cv0 cvX9_114 sd_119 (ev_gz_name1 hR h.here hN) (by decide) ⟨Nat.le_refl _, Nat.le_refl _⟩ (Nat.le_of_ble_eq_true rfl) dX9_readsVoter_28 (pd_ki fun v I2 L2 hq => ?_)
            obtain ⟨rfl, rfl, hF2, hZ2⟩ := hq
            refine at_istore_n dX9_readsVoter_31 rfl (Nat.le_of_ble_eq_true rfl) ?_
            refine at_aload_n dX9_readsVoter_32 rfl ?_
            refine at_iconst dX9_readsVoter_33 pc_i0 ?_
            refine at_bipush dX9_readsVoter_34 pc_b99 ?_
            refine at_cv2 cvX9_117 sd_119 (ev_gz_num1 (lo := 0) (hi := 99) hR hZ2 (by decide) (by decide) hS) (by decide) ⟨Nat.le_refl _, Nat.le_refl _⟩ (Nat.le_of_ble_eq_true rfl) dX9_readsVoter_36 (pd_ki fun v I3 L3 hq3 => ?_)
            obtain ⟨rfl, rfl, hF3, hZ3⟩ := hq3
            have hZF := wf _ hZ3
            refine at_istore dX9_readsVoter_39 rfl (Nat.le_of_ble_eq_true rfl) ?_
            refine at_aload_n dX9_readsVoter_41 rfl ?_
            refine at_cv0 cvX9_87 sd_119 (ev_X9_fine) (by decide) ⟨Nat.le_refl _, Nat.le_refl _⟩ (Nat.le_of_ble_eq_true rfl) dX9_readsVoter_42 (pd_k1 ?_)
            rw [decide_eq_true hZ3.2.2.1]
            refine at_ifeq (tgt := 68) dX9_readsVoter_45 (by decide) (fun c45 => ?_) (fun c45 => ?_)
            · -- taken 45
              exact absurd c45 (by decide)
            · -- not taken 45
              refine at_aload_n dX9_readsVoter_48 rfl ?_
              refine at_getr (123) flX9_23 rfl sd_119 (rs_119_10 hR) dX9_readsVoter_49 ?_
              refine at_iload_n dX9_readsVoter_52 rfl ?_
              refine at_iload dX9_readsVoter_53 rfl ?_
              refine at_cs3 csX9_120 (ev_X9_voterOf sd_123 (qv _ hZ3) hr.1.1 hv16 _ _) (by decide) ⟨Nat.le_refl _, Nat.le_refl _⟩ (Nat.le_of_ble_eq_true rfl) dX9_readsVoter_55 (pd_k1 ?_)
              refine at_iconst dX9_readsVoter_58 pc_im1 ?_
              refine at_icmpeq (tgt := 68) dX9_readsVoter_59 (by decide) (fun c59 => ?_) (fun c59 => ?_)
              · -- taken 59
                exact absurd c59 hD'
              · -- not taken 59
                refine at_aload_n dX9_readsVoter_62 rfl ?_
                refine at_iconst dX9_readsVoter_63 pc_i3 ?_
                refine at_iload_n dX9_readsVoter_64 rfl ?_
                refine at_cv2 cvX9_95 sd_119 (ev_X9_wrong0 hZ3.2.2.1 _ _) (by decide) ⟨Nat.le_refl _, Nat.le_refl _⟩ (Nat.le_of_ble_eq_true rfl) dX9_readsVoter_65 (pd_k0 ?_)
                refine at_aload_n dX9_readsVoter_68 rfl ?_
                refine at_iconst dX9_readsVoter_69 pc_i0 ?_
                refine at_sipush dX9_readsVoter_70 pc_s999 ?_
                refine at_cv2 cvX9_117 sd_119 (ev_X9_numberF hR hZF.nf _ _) (by decide) ⟨Nat.le_refl _, Nat.le_refl _⟩ (Nat.le_of_ble_eq_true rfl) dX9_readsVoter_73 (pd_k1 ?_)
                refine at_istore dX9_readsVoter_76 rfl (Nat.le_of_ble_eq_true rfl) ?_
                refine at_aload_n dX9_readsVoter_78 rfl ?_
                refine at_getr (123) flX9_23 rfl sd_119 (rs_119_10 hR) dX9_readsVoter_79 ?_
                refine at_iconst dX9_readsVoter_82 pc_i0 ?_
                refine at_iald sd_123 (vp_in_nI (n := 0) (by decide) (by decide)) dX9_readsVoter_83 ?_
                refine at_istore dX9_readsVoter_84 rfl (Nat.le_of_ble_eq_true rfl) ?_
                refine at_aload_n dX9_readsVoter_86 rfl ?_
                refine at_cv0 cvX9_87 sd_119 (ev_X9_fine) (by decide) ⟨Nat.le_refl _, Nat.le_refl _⟩ (Nat.le_of_ble_eq_true rfl) dX9_readsVoter_87 (pd_k1 ?_)
                rw [decide_eq_false hZF.nf]
                refine at_ifne (tgt := 94) dX9_readsVoter_90 (by decide) (fun c90 => ?_) (fun c90 => ?_)
                · -- taken 90
                  exact absurd rfl c90
                · -- not taken 90
                  refine at_vret rfl dX9_readsVoter_93 ?_
                  exact ⟨rfl, _, _, rfl, rfl, ((((FP.rf.up (by decide)).tr hF2).tr hF3).up (by decide)).up (by decide), hZF.mono (by decide)⟩
          · -- not taken 8
            exact absurd c8 en
        · rw [if_neg hD]
          have hD' : i_find (fun v => decide (r (9 + 3 * v) = nI (n27 0 nm)) && decide (r (10 + 3 * v) = nI s)) nv = -1 := by
            have : pDup r nv nm s = false := by simpa using hD
            simpa [pDup] using this
          cases hY : pNum (tT B n) (i + 3) 0 999 with
          | inr z =>
            refine pd_ev 5 (lo := [some (.ref (pd_z G + 119)), some (.int (nI (tq B n i))), none, none, none, none, none]) (by decide +kernel) (Nat.le_of_ble_eq_true rfl) rfl ?_
            refine at_aload_n dX9_readsVoter_0 rfl ?_
            refine at_getr (123) flX9_23 rfl sd_119 (rs_119_10 hR) dX9_readsVoter_1 ?_
            refine at_iconst dX9_readsVoter_4 pc_i0 ?_
            refine at_iald sd_123 (vp_in_nI (n := 0) (by decide) (by decide)) dX9_readsVoter_5 ?_
            rw [h0]
            refine at_bipush dX9_readsVoter_6 pc_b16 ?_
            refine at_icmpne (tgt := 17) dX9_readsVoter_8 (by decide) (fun c8 => ?_) (fun c8 => ?_)
            · -- taken 8
              refine at_aload_n dX9_readsVoter_17 rfl ?_
              refine at_cv0 cvX9_70 sd_119 (ev_gz_here hR h) (by decide) ⟨Nat.le_refl _, Nat.le_refl _⟩ (Nat.le_of_ble_eq_true rfl) dX9_readsVoter_18 (pd_k1 ?_)
              refine at_pop dX9_readsVoter_21 rfl ?_
              refine at_aload_n dX9_readsVoter_22 rfl ?_
              refine at_geti flX9_57 rfl sd_119 dX9_readsVoter_23 ?_
              rw [pd_up_at]
              refine at_istore_n dX9_readsVoter_26 rfl (Nat.le_of_ble_eq_true rfl) ?_
              refine at_aload_n dX9_readsVoter_27 rfl ?_
              refine at_cv0 cvX9_114 sd_119 (ev_gz_name1 hR h.here hN) (by decide) ⟨Nat.le_refl _, Nat.le_refl _⟩ (Nat.le_of_ble_eq_true rfl) dX9_readsVoter_28 (pd_ki fun v I2 L2 hq => ?_)
              obtain ⟨rfl, rfl, hF2, hZ2⟩ := hq
              refine at_istore_n dX9_readsVoter_31 rfl (Nat.le_of_ble_eq_true rfl) ?_
              refine at_aload_n dX9_readsVoter_32 rfl ?_
              refine at_iconst dX9_readsVoter_33 pc_i0 ?_
              refine at_bipush dX9_readsVoter_34 pc_b99 ?_
              refine at_cv2 cvX9_117 sd_119 (ev_gz_num1 (lo := 0) (hi := 99) hR hZ2 (by decide) (by decide) hS) (by decide) ⟨Nat.le_refl _, Nat.le_refl _⟩ (Nat.le_of_ble_eq_true rfl) dX9_readsVoter_36 (pd_ki fun v I3 L3 hq3 => ?_)
              obtain ⟨rfl, rfl, hF3, hZ3⟩ := hq3
              refine at_istore dX9_readsVoter_39 rfl (Nat.le_of_ble_eq_true rfl) ?_
              refine at_aload_n dX9_readsVoter_41 rfl ?_
              refine at_cv0 cvX9_87 sd_119 (ev_X9_fine) (by decide) ⟨Nat.le_refl _, Nat.le_refl _⟩ (Nat.le_of_ble_eq_true rfl) dX9_readsVoter_42 (pd_k1 ?_)
              rw [decide_eq_true hZ3.2.2.1]
              refine at_ifeq (tgt := 68) dX9_readsVoter_45 (by decide) (fun c45 => ?_) (fun c45 => ?_)
              · -- taken 45
                exact absurd c45 (by decide)
              · -- not taken 45
                refine at_aload_n dX9_readsVoter_48 rfl ?_
                refine at_getr (123) flX9_23 rfl sd_119 (rs_119_10 hR) dX9_readsVoter_49 ?_
                refine at_iload_n dX9_readsVoter_52 rfl ?_
                refine at_iload dX9_readsVoter_53 rfl ?_
                refine at_cs3 csX9_120 (ev_X9_voterOf sd_123 (qv _ hZ3) hr.1.1 hv16 _ _) (by decide) ⟨Nat.le_refl _, Nat.le_refl _⟩ (Nat.le_of_ble_eq_true rfl) dX9_readsVoter_55 (pd_k1 ?_)
                refine at_iconst dX9_readsVoter_58 pc_im1 ?_
                refine at_icmpeq (tgt := 68) dX9_readsVoter_59 (by decide) (fun c59 => ?_) (fun c59 => ?_)
                · -- taken 59
                  refine at_aload_n dX9_readsVoter_68 rfl ?_
                  refine at_iconst dX9_readsVoter_69 pc_i0 ?_
                  refine at_sipush dX9_readsVoter_70 pc_s999 ?_
                  refine at_cv2 cvX9_117 sd_119 (ev_gz_num0 (lo := 0) (hi := 999) hR hZ3 (by decide) (by decide) hY) (by decide) ⟨Nat.le_refl _, Nat.le_refl _⟩ (Nat.le_of_ble_eq_true rfl) dX9_readsVoter_73 (pd_ki fun v I4 L4 hq4 => ?_)
                  obtain ⟨rfl, hF4, hZ4⟩ := hq4
                  refine at_istore dX9_readsVoter_76 rfl (Nat.le_of_ble_eq_true rfl) ?_
                  refine at_aload_n dX9_readsVoter_78 rfl ?_
                  refine at_getr (123) flX9_23 rfl sd_119 (rs_119_10 hR) dX9_readsVoter_79 ?_
                  refine at_iconst dX9_readsVoter_82 pc_i0 ?_
                  refine at_iald sd_123 (vp_in_nI (n := 0) (by decide) (by decide)) dX9_readsVoter_83 ?_
                  refine at_istore dX9_readsVoter_84 rfl (Nat.le_of_ble_eq_true rfl) ?_
                  refine at_aload_n dX9_readsVoter_86 rfl ?_
                  refine at_cv0 cvX9_87 sd_119 (ev_X9_fine) (by decide) ⟨Nat.le_refl _, Nat.le_refl _⟩ (Nat.le_of_ble_eq_true rfl) dX9_readsVoter_87 (pd_k1 ?_)
                  rw [decide_eq_false hZ4.nf]
                  refine at_ifne (tgt := 94) dX9_readsVoter_90 (by decide) (fun c90 => ?_) (fun c90 => ?_)
                  · -- taken 90
                    exact absurd rfl c90
                  · -- not taken 90
                    refine at_vret rfl dX9_readsVoter_93 ?_
                    exact ⟨rfl, _, _, rfl, rfl, (((FP.rf.up (by decide)).tr hF2).tr hF3).tr hF4, hZ4.mono (by decide)⟩
                · -- not taken 59
                  exact absurd hD' c59
            · -- not taken 8
              exact absurd c8 en
          | inl dy =>
            have hrow := (hJ.voter (nm := nm) (s := s) (d := dy) (by omega)).1
            refine pd_ev 5 (lo := [some (.ref (pd_z G + 119)), some (.int (nI (tq B n i))), none, none, none, none, none]) (by decide +kernel) (Nat.le_of_ble_eq_true rfl) rfl ?_
            refine at_aload_n dX9_readsVoter_0 rfl ?_
            refine at_getr (123) flX9_23 rfl sd_119 (rs_119_10 hR) dX9_readsVoter_1 ?_
            refine at_iconst dX9_readsVoter_4 pc_i0 ?_
            refine at_iald sd_123 (vp_in_nI (n := 0) (by decide) (by decide)) dX9_readsVoter_5 ?_
            rw [h0]
            refine at_bipush dX9_readsVoter_6 pc_b16 ?_
            refine at_icmpne (tgt := 17) dX9_readsVoter_8 (by decide) (fun c8 => ?_) (fun c8 => ?_)
            · -- taken 8
              refine at_aload_n dX9_readsVoter_17 rfl ?_
              refine at_cv0 cvX9_70 sd_119 (ev_gz_here hR h) (by decide) ⟨Nat.le_refl _, Nat.le_refl _⟩ (Nat.le_of_ble_eq_true rfl) dX9_readsVoter_18 (pd_k1 ?_)
              refine at_pop dX9_readsVoter_21 rfl ?_
              refine at_aload_n dX9_readsVoter_22 rfl ?_
              refine at_geti flX9_57 rfl sd_119 dX9_readsVoter_23 ?_
              rw [pd_up_at]
              refine at_istore_n dX9_readsVoter_26 rfl (Nat.le_of_ble_eq_true rfl) ?_
              refine at_aload_n dX9_readsVoter_27 rfl ?_
              refine at_cv0 cvX9_114 sd_119 (ev_gz_name1 hR h.here hN) (by decide) ⟨Nat.le_refl _, Nat.le_refl _⟩ (Nat.le_of_ble_eq_true rfl) dX9_readsVoter_28 (pd_ki fun v I2 L2 hq => ?_)
              obtain ⟨rfl, rfl, hF2, hZ2⟩ := hq
              refine at_istore_n dX9_readsVoter_31 rfl (Nat.le_of_ble_eq_true rfl) ?_
              refine at_aload_n dX9_readsVoter_32 rfl ?_
              refine at_iconst dX9_readsVoter_33 pc_i0 ?_
              refine at_bipush dX9_readsVoter_34 pc_b99 ?_
              refine at_cv2 cvX9_117 sd_119 (ev_gz_num1 (lo := 0) (hi := 99) hR hZ2 (by decide) (by decide) hS) (by decide) ⟨Nat.le_refl _, Nat.le_refl _⟩ (Nat.le_of_ble_eq_true rfl) dX9_readsVoter_36 (pd_ki fun v I3 L3 hq3 => ?_)
              obtain ⟨rfl, rfl, hF3, hZ3⟩ := hq3
              refine at_istore dX9_readsVoter_39 rfl (Nat.le_of_ble_eq_true rfl) ?_
              refine at_aload_n dX9_readsVoter_41 rfl ?_
              refine at_cv0 cvX9_87 sd_119 (ev_X9_fine) (by decide) ⟨Nat.le_refl _, Nat.le_refl _⟩ (Nat.le_of_ble_eq_true rfl) dX9_readsVoter_42 (pd_k1 ?_)
              rw [decide_eq_true hZ3.2.2.1]
              refine at_ifeq (tgt := 68) dX9_readsVoter_45 (by decide) (fun c45 => ?_) (fun c45 => ?_)
              · -- taken 45
                exact absurd c45 (by decide)
              · -- not taken 45
                refine at_aload_n dX9_readsVoter_48 rfl ?_
                refine at_getr (123) flX9_23 rfl sd_119 (rs_119_10 hR) dX9_readsVoter_49 ?_
                refine at_iload_n dX9_readsVoter_52 rfl ?_
                refine at_iload dX9_readsVoter_53 rfl ?_
                refine at_cs3 csX9_120 (ev_X9_voterOf sd_123 (qv _ hZ3) hr.1.1 hv16 _ _) (by decide) ⟨Nat.le_refl _, Nat.le_refl _⟩ (Nat.le_of_ble_eq_true rfl) dX9_readsVoter_55 (pd_k1 ?_)
                refine at_iconst dX9_readsVoter_58 pc_im1 ?_
                refine at_icmpeq (tgt := 68) dX9_readsVoter_59 (by decide) (fun c59 => ?_) (fun c59 => ?_)
                · -- taken 59
                  refine at_aload_n dX9_readsVoter_68 rfl ?_
                  refine at_iconst dX9_readsVoter_69 pc_i0 ?_
                  refine at_sipush dX9_readsVoter_70 pc_s999 ?_
                  refine at_cv2 cvX9_117 sd_119 (ev_gz_num1 (lo := 0) (hi := 999) hR hZ3 (by decide) (by decide) hY) (by decide) ⟨Nat.le_refl _, Nat.le_refl _⟩ (Nat.le_of_ble_eq_true rfl) dX9_readsVoter_73 (pd_ki fun v I4 L4 hq4 => ?_)
                  obtain ⟨rfl, rfl, hF4, hZ4⟩ := hq4
                  have q4 : RQ I4 123 r := by have := hZ4.2.2.2.2.2.1; rwa [hse] at this
                  refine at_istore dX9_readsVoter_76 rfl (Nat.le_of_ble_eq_true rfl) ?_
                  refine at_aload_n dX9_readsVoter_78 rfl ?_
                  refine at_getr (123) flX9_23 rfl sd_119 (rs_119_10 hR) dX9_readsVoter_79 ?_
                  refine at_iconst dX9_readsVoter_82 pc_i0 ?_
                  refine at_iald sd_123 (vp_in_nI (n := 0) (by decide) (by decide)) dX9_readsVoter_83 ?_
                  rw [show I4 123 (0 : Int32).toNatClampNeg = nI nv from (q4 0 (by decide)).trans hr.1.1]
                  refine at_istore dX9_readsVoter_84 rfl (Nat.le_of_ble_eq_true rfl) ?_
                  refine at_aload_n dX9_readsVoter_86 rfl ?_
                  refine at_cv0 cvX9_87 sd_119 (ev_X9_fine) (by decide) ⟨Nat.le_refl _, Nat.le_refl _⟩ (Nat.le_of_ble_eq_true rfl) dX9_readsVoter_87 (pd_k1 ?_)
                  rw [decide_eq_true hZ4.2.2.1]
                  refine at_ifne (tgt := 94) dX9_readsVoter_90 (by decide) (fun c90 => ?_) (fun c90 => ?_)
                  · -- taken 90
                    refine at_aload_n dX9_readsVoter_94 rfl ?_
                    refine at_getr (123) flX9_23 rfl sd_119 (rs_119_10 hR) dX9_readsVoter_95 ?_
                    refine at_iload dX9_readsVoter_98 rfl ?_
                    refine at_iconst dX9_readsVoter_100 pc_i0 ?_
                    refine at_cs2 csX9_111 (ev_X9_voterAt nv 0 (9 + 3 * nv) (by omega)) (by decide) ⟨Nat.le_refl _, Nat.le_refl _⟩ (Nat.le_of_ble_eq_true rfl) dX9_readsVoter_101 (pd_k1 ?_)
                    refine at_iload_n dX9_readsVoter_104 rfl ?_
                    refine at_iast sd_123 (vp_in_nI (by omega) (by decide)) dX9_readsVoter_105 ?_
                    rw [nI_clamp (n := 9 + 3 * nv) (by omega)]
                    refine at_aload_n dX9_readsVoter_106 rfl ?_
                    refine at_getr (123) flX9_23 rfl sd_119 (rs_119_10 hR) dX9_readsVoter_107 ?_
                    refine at_iload dX9_readsVoter_110 rfl ?_
                    refine at_iconst dX9_readsVoter_112 pc_i1 ?_
                    refine at_cs2 csX9_111 (ev_X9_voterAt nv 1 (10 + 3 * nv) (by omega)) (by decide) ⟨Nat.le_refl _, Nat.le_refl _⟩ (Nat.le_of_ble_eq_true rfl) dX9_readsVoter_113 (pd_k1 ?_)
                    refine at_iload dX9_readsVoter_116 rfl ?_
                    refine at_iast sd_123 (vp_in_nI (by omega) (by decide)) dX9_readsVoter_118 ?_
                    rw [nI_clamp (n := 10 + 3 * nv) (by omega)]
                    refine at_aload_n dX9_readsVoter_119 rfl ?_
                    refine at_getr (123) flX9_23 rfl sd_119 (rs_119_10 hR) dX9_readsVoter_120 ?_
                    refine at_iload dX9_readsVoter_123 rfl ?_
                    refine at_iconst dX9_readsVoter_125 pc_i2 ?_
                    refine at_cs2 csX9_111 (ev_X9_voterAt nv 2 (11 + 3 * nv) (by omega)) (by decide) ⟨Nat.le_refl _, Nat.le_refl _⟩ (Nat.le_of_ble_eq_true rfl) dX9_readsVoter_126 (pd_k1 ?_)
                    refine at_iload dX9_readsVoter_129 rfl ?_
                    refine at_iast sd_123 (vp_in_nI (by omega) (by decide)) dX9_readsVoter_131 ?_
                    rw [nI_clamp (n := 11 + 3 * nv) (by omega)]
                    refine at_aload_n dX9_readsVoter_132 rfl ?_
                    refine at_getr (123) flX9_23 rfl sd_119 (rs_119_10 hR) dX9_readsVoter_133 ?_
                    refine at_iconst dX9_readsVoter_136 pc_i0 ?_
                    refine at_dup2 dX9_readsVoter_137 rfl rfl ?_
                    refine at_iald sd_123 (vp_in_nI (n := 0) (by decide) (by decide)) dX9_readsVoter_138 ?_
                    rw [show pd_up (pd_up (pd_up I4 123 (9 + 3 * nv) (nI (n27 0 nm))) 123 (10 + 3 * nv) (nI s)) 123 (11 + 3 * nv) (nI dy) 123 (0 : Int32).toNatClampNeg = nI nv from by show pd_up (pd_up (pd_up I4 123 (9 + 3 * nv) (nI (n27 0 nm))) 123 (10 + 3 * nv) (nI s)) 123 (11 + 3 * nv) (nI dy) 123 0 = nI nv; rw [pd_up_nj (by omega), pd_up_nj (by omega), pd_up_nj (by omega)]; exact (q4 0 (by decide)).trans hr.1.1]
                    refine at_iconst dX9_readsVoter_139 pc_i1 ?_
                    refine at_iadd dX9_readsVoter_140 ?_
                    rw [nI_1]
                    refine at_iast sd_123 (vp_in_nI (n := 0) (by decide) (by decide)) dX9_readsVoter_141 ?_
                    refine at_vret rfl dX9_readsVoter_142 ?_
                    refine ⟨rfl, _, _, rfl, rfl, (((((((FP.rf.up (by decide)).tr hF2).tr hF3).tr hF4).up3).up3).up3).up3, ?_⟩
                    show GZ _ B n (vtR r nv nm s dy) (rl_ks e) 0 (i + 4)
                    refine hZ4.row (fun x j hx => by rw [pd_up_nb hx, pd_up_nb hx, pd_up_nb hx, pd_up_nb hx]) ?_
                    rw [ckR_self hrow]
                    intro k hk
                    show pd_up (pd_up (pd_up (pd_up I4 123 (9 + 3 * nv) (nI (n27 0 nm))) 123 (10 + 3 * nv) (nI s)) 123 (11 + 3 * nv) (nI dy)) 123 0 (nI (nv + 1)) 123 k = _
                    rw [pd_up_row, pd_up_row, pd_up_row, pd_up_row]
                    unfold vtR upd
                    rw [q4 k hk]
                  · -- not taken 90
                    exact absurd c90 (by decide)
                · -- not taken 59
                  exact absurd hD' c59
            · -- not taken 8
              exact absurd c8 en
theorem ev_gz_sign (hR : RS R) (h : GZ K B n r (rl_ks e) 0 (i + 1)) (hJ : LJ m r nv ns nl e) : pd_Ev G mi_X9_readsSign 5 0 0 [.ref (pd_z G + 119), .int (nI (tq B n i))] (SD, false, K, L, R) (pd_re R (LQ K L B n (pSign (tT B n) i m (r, nv, ns, nl, e)))) := by
  have hr := hJ.1
  have hs8 := hr.2.1.2
  have h40 := hr.2.2.1.2
  have hse := ckR_self hr
  have q0 : RQ K 123 r := by have := h.2.2.2.2.2.1; rwa [hse] at this
  have h1 : K 123 (1 : Int32).toNatClampNeg = nI ns := (q0 1 (by decide)).trans hr.2.1.1
  have h2 : K 123 (2 : Int32).toNatClampNeg = nI nl := (q0 2 (by decide)).trans hr.2.2.1.1
  have wf : ∀ c, 1 ≤ c ∧ c ≤ 5 → FZ (pd_up (pd_up K 119 6 (nI c)) 119 7 (nI (tq B n i))) B n 0 (c, tq B n i) := fun c hc => by
    obtain ⟨p, p1, p2, -⟩ := h.2.1
    have hw := h.wr (p := p) (c := c) (q := tq B n i) p2 hc
    rwa [pd_up_same p1] at hw
  unfold pSign
  dsimp only
  by_cases hs0 : ns = 0
  · rw [if_pos hs0]
    have hZ := wf 1 (by decide)
    have hF1 : FP K (pd_up (pd_up K 119 6 (nI 1)) 119 7 (nI (tq B n i))) := (FP.rf.up (by decide)).up (by decide)
    refine pd_ev 4 (lo := [some (.ref (pd_z G + 119)), some (.int (nI (tq B n i))), none, none, none, none]) (by decide +kernel) (Nat.le_of_ble_eq_true rfl) rfl ?_
    refine at_aload_n dX9_readsSign_0 rfl ?_
    refine at_getr (123) flX9_23 rfl sd_119 (rs_119_10 hR) dX9_readsSign_1 ?_
    refine at_iconst dX9_readsSign_4 pc_i1 ?_
    refine at_iald sd_123 (vp_in_nI (n := 1) (by decide) (by decide)) dX9_readsSign_5 ?_
    rw [h1, hs0]
    refine at_ifne (tgt := 15) dX9_readsSign_6 (by decide) (fun c6 => ?_) (fun c6 => ?_)
    · -- taken 6
      exact absurd rfl c6
    · -- not taken 6
      refine at_aload_n dX9_readsSign_9 rfl ?_
      refine at_iconst dX9_readsSign_10 pc_i1 ?_
      refine at_iload_n dX9_readsSign_11 rfl ?_
      refine at_cv2 cvX9_95 sd_119 (ev_X9_wrong0 h.2.2.1 _ _) (by decide) ⟨Nat.le_refl _, Nat.le_refl _⟩ (Nat.le_of_ble_eq_true rfl) dX9_readsSign_12 (pd_k0 ?_)
      refine at_aload_n dX9_readsSign_15 rfl ?_
      refine at_getr (123) flX9_23 rfl sd_119 (rs_119_10 hR) dX9_readsSign_16 ?_
      refine at_iconst dX9_readsSign_19 pc_i2 ?_
      refine at_iald sd_123 (vp_in_nI (n := 2) (by decide) (by decide)) dX9_readsSign_20 ?_
      refine at_bipush dX9_readsSign_21 pc_b40 ?_
      refine at_icmpne (tgt := 32) dX9_readsSign_23 (by decide) (fun c23 => ?_) (fun c23 => ?_)
      · -- taken 23
        refine at_aload_n dX9_readsSign_32 rfl ?_
        refine at_cv0 cvX9_114 sd_119 (ev_X9_nameF hR hZ.nf) (by decide) ⟨Nat.le_refl _, Nat.le_refl _⟩ (Nat.le_of_ble_eq_true rfl) dX9_readsSign_33 (pd_k1 ?_)
        refine at_istore_n dX9_readsSign_36 rfl (Nat.le_of_ble_eq_true rfl) ?_
        refine at_aload_n dX9_readsSign_37 rfl ?_
        refine at_iconst dX9_readsSign_38 pc_i0 ?_
        refine at_bipush dX9_readsSign_39 pc_b99 ?_
        refine at_cv2 cvX9_117 sd_119 (ev_X9_numberF hR hZ.nf _ _) (by decide) ⟨Nat.le_refl _, Nat.le_refl _⟩ (Nat.le_of_ble_eq_true rfl) dX9_readsSign_41 (pd_k1 ?_)
        refine at_istore_n dX9_readsSign_44 rfl (Nat.le_of_ble_eq_true rfl) ?_
        refine at_aload_n dX9_readsSign_45 rfl ?_
        refine at_iconst dX9_readsSign_46 pc_i0 ?_
        refine at_sipush dX9_readsSign_47 pc_s999 ?_
        refine at_cv2 cvX9_117 sd_119 (ev_X9_numberF hR hZ.nf _ _) (by decide) ⟨Nat.le_refl _, Nat.le_refl _⟩ (Nat.le_of_ble_eq_true rfl) dX9_readsSign_50 (pd_k1 ?_)
        refine at_istore dX9_readsSign_53 rfl (Nat.le_of_ble_eq_true rfl) ?_
        refine at_aload_n dX9_readsSign_55 rfl ?_
        refine at_getr (123) flX9_23 rfl sd_119 (rs_119_10 hR) dX9_readsSign_56 ?_
        refine at_iconst dX9_readsSign_59 pc_i2 ?_
        refine at_iald sd_123 (vp_in_nI (n := 2) (by decide) (by decide)) dX9_readsSign_60 ?_
        refine at_istore dX9_readsSign_61 rfl (Nat.le_of_ble_eq_true rfl) ?_
        refine at_aload_n dX9_readsSign_63 rfl ?_
        refine at_cv0 cvX9_87 sd_119 (ev_X9_fine) (by decide) ⟨Nat.le_refl _, Nat.le_refl _⟩ (Nat.le_of_ble_eq_true rfl) dX9_readsSign_64 (pd_k1 ?_)
        rw [decide_eq_false hZ.nf]
        refine at_ifne (tgt := 71) dX9_readsSign_67 (by decide) (fun c67 => ?_) (fun c67 => ?_)
        · -- taken 67
          exact absurd rfl c67
        · -- not taken 67
          refine at_vret rfl dX9_readsSign_70 ?_
          exact ⟨rfl, _, _, rfl, rfl, hF1, hZ.mono (by decide)⟩
      · -- not taken 23
        refine at_aload_n dX9_readsSign_26 rfl ?_
        refine at_iconst dX9_readsSign_27 pc_i4 ?_
        refine at_iload_n dX9_readsSign_28 rfl ?_
        refine at_cv2 cvX9_95 sd_119 (ev_X9_wrong1 hZ.nf _ _) (by decide) ⟨Nat.le_refl _, Nat.le_refl _⟩ (Nat.le_of_ble_eq_true rfl) dX9_readsSign_29 (pd_k0 ?_)
        refine at_aload_n dX9_readsSign_32 rfl ?_
        refine at_cv0 cvX9_114 sd_119 (ev_X9_nameF hR hZ.nf) (by decide) ⟨Nat.le_refl _, Nat.le_refl _⟩ (Nat.le_of_ble_eq_true rfl) dX9_readsSign_33 (pd_k1 ?_)
        refine at_istore_n dX9_readsSign_36 rfl (Nat.le_of_ble_eq_true rfl) ?_
        refine at_aload_n dX9_readsSign_37 rfl ?_
        refine at_iconst dX9_readsSign_38 pc_i0 ?_
        refine at_bipush dX9_readsSign_39 pc_b99 ?_
        refine at_cv2 cvX9_117 sd_119 (ev_X9_numberF hR hZ.nf _ _) (by decide) ⟨Nat.le_refl _, Nat.le_refl _⟩ (Nat.le_of_ble_eq_true rfl) dX9_readsSign_41 (pd_k1 ?_)
        refine at_istore_n dX9_readsSign_44 rfl (Nat.le_of_ble_eq_true rfl) ?_
        refine at_aload_n dX9_readsSign_45 rfl ?_
        refine at_iconst dX9_readsSign_46 pc_i0 ?_
        refine at_sipush dX9_readsSign_47 pc_s999 ?_
        refine at_cv2 cvX9_117 sd_119 (ev_X9_numberF hR hZ.nf _ _) (by decide) ⟨Nat.le_refl _, Nat.le_refl _⟩ (Nat.le_of_ble_eq_true rfl) dX9_readsSign_50 (pd_k1 ?_)
        refine at_istore dX9_readsSign_53 rfl (Nat.le_of_ble_eq_true rfl) ?_
        refine at_aload_n dX9_readsSign_55 rfl ?_
        refine at_getr (123) flX9_23 rfl sd_119 (rs_119_10 hR) dX9_readsSign_56 ?_
        refine at_iconst dX9_readsSign_59 pc_i2 ?_
        refine at_iald sd_123 (vp_in_nI (n := 2) (by decide) (by decide)) dX9_readsSign_60 ?_
        refine at_istore dX9_readsSign_61 rfl (Nat.le_of_ble_eq_true rfl) ?_
        refine at_aload_n dX9_readsSign_63 rfl ?_
        refine at_cv0 cvX9_87 sd_119 (ev_X9_fine) (by decide) ⟨Nat.le_refl _, Nat.le_refl _⟩ (Nat.le_of_ble_eq_true rfl) dX9_readsSign_64 (pd_k1 ?_)
        rw [decide_eq_false hZ.nf]
        refine at_ifne (tgt := 71) dX9_readsSign_67 (by decide) (fun c67 => ?_) (fun c67 => ?_)
        · -- taken 67
          exact absurd rfl c67
        · -- not taken 67
          refine at_vret rfl dX9_readsSign_70 ?_
          exact ⟨rfl, _, _, rfl, rfl, hF1, hZ.mono (by decide)⟩
  · rw [if_neg hs0]
    have n0 : ¬ nI ns = 0 := nI_ne0 (by omega) (by omega)
    by_cases hl40 : 40 ≤ nl
    · rw [if_pos hl40]
      have e40 : nl = 40 := by omega
      have hZ := wf 4 (by decide)
      have hF1 : FP K (pd_up (pd_up K 119 6 (nI 4)) 119 7 (nI (tq B n i))) := (FP.rf.up (by decide)).up (by decide)
      refine pd_ev 4 (lo := [some (.ref (pd_z G + 119)), some (.int (nI (tq B n i))), none, none, none, none]) (by decide +kernel) (Nat.le_of_ble_eq_true rfl) rfl ?_
      refine at_aload_n dX9_readsSign_0 rfl ?_
      refine at_getr (123) flX9_23 rfl sd_119 (rs_119_10 hR) dX9_readsSign_1 ?_
      refine at_iconst dX9_readsSign_4 pc_i1 ?_
      refine at_iald sd_123 (vp_in_nI (n := 1) (by decide) (by decide)) dX9_readsSign_5 ?_
      rw [h1]
      refine at_ifne (tgt := 15) dX9_readsSign_6 (by decide) (fun c6 => ?_) (fun c6 => ?_)
      · -- taken 6
        refine at_aload_n dX9_readsSign_15 rfl ?_
        refine at_getr (123) flX9_23 rfl sd_119 (rs_119_10 hR) dX9_readsSign_16 ?_
        refine at_iconst dX9_readsSign_19 pc_i2 ?_
        refine at_iald sd_123 (vp_in_nI (n := 2) (by decide) (by decide)) dX9_readsSign_20 ?_
        rw [h2, e40]
        refine at_bipush dX9_readsSign_21 pc_b40 ?_
        refine at_icmpne (tgt := 32) dX9_readsSign_23 (by decide) (fun c23 => ?_) (fun c23 => ?_)
        · -- taken 23
          exact absurd rfl c23
        · -- not taken 23
          refine at_aload_n dX9_readsSign_26 rfl ?_
          refine at_iconst dX9_readsSign_27 pc_i4 ?_
          refine at_iload_n dX9_readsSign_28 rfl ?_
          refine at_cv2 cvX9_95 sd_119 (ev_X9_wrong0 h.2.2.1 _ _) (by decide) ⟨Nat.le_refl _, Nat.le_refl _⟩ (Nat.le_of_ble_eq_true rfl) dX9_readsSign_29 (pd_k0 ?_)
          refine at_aload_n dX9_readsSign_32 rfl ?_
          refine at_cv0 cvX9_114 sd_119 (ev_X9_nameF hR hZ.nf) (by decide) ⟨Nat.le_refl _, Nat.le_refl _⟩ (Nat.le_of_ble_eq_true rfl) dX9_readsSign_33 (pd_k1 ?_)
          refine at_istore_n dX9_readsSign_36 rfl (Nat.le_of_ble_eq_true rfl) ?_
          refine at_aload_n dX9_readsSign_37 rfl ?_
          refine at_iconst dX9_readsSign_38 pc_i0 ?_
          refine at_bipush dX9_readsSign_39 pc_b99 ?_
          refine at_cv2 cvX9_117 sd_119 (ev_X9_numberF hR hZ.nf _ _) (by decide) ⟨Nat.le_refl _, Nat.le_refl _⟩ (Nat.le_of_ble_eq_true rfl) dX9_readsSign_41 (pd_k1 ?_)
          refine at_istore_n dX9_readsSign_44 rfl (Nat.le_of_ble_eq_true rfl) ?_
          refine at_aload_n dX9_readsSign_45 rfl ?_
          refine at_iconst dX9_readsSign_46 pc_i0 ?_
          refine at_sipush dX9_readsSign_47 pc_s999 ?_
          refine at_cv2 cvX9_117 sd_119 (ev_X9_numberF hR hZ.nf _ _) (by decide) ⟨Nat.le_refl _, Nat.le_refl _⟩ (Nat.le_of_ble_eq_true rfl) dX9_readsSign_50 (pd_k1 ?_)
          refine at_istore dX9_readsSign_53 rfl (Nat.le_of_ble_eq_true rfl) ?_
          refine at_aload_n dX9_readsSign_55 rfl ?_
          refine at_getr (123) flX9_23 rfl sd_119 (rs_119_10 hR) dX9_readsSign_56 ?_
          refine at_iconst dX9_readsSign_59 pc_i2 ?_
          refine at_iald sd_123 (vp_in_nI (n := 2) (by decide) (by decide)) dX9_readsSign_60 ?_
          refine at_istore dX9_readsSign_61 rfl (Nat.le_of_ble_eq_true rfl) ?_
          refine at_aload_n dX9_readsSign_63 rfl ?_
          refine at_cv0 cvX9_87 sd_119 (ev_X9_fine) (by decide) ⟨Nat.le_refl _, Nat.le_refl _⟩ (Nat.le_of_ble_eq_true rfl) dX9_readsSign_64 (pd_k1 ?_)
          rw [decide_eq_false hZ.nf]
          refine at_ifne (tgt := 71) dX9_readsSign_67 (by decide) (fun c67 => ?_) (fun c67 => ?_)
          · -- taken 67
            exact absurd rfl c67
          · -- not taken 67
            refine at_vret rfl dX9_readsSign_70 ?_
            exact ⟨rfl, _, _, rfl, rfl, hF1, hZ.mono (by decide)⟩
      · -- not taken 6
        exact absurd c6 n0
    · rw [if_neg hl40]
      have en : ¬ nI nl = 40 := fun q => by have := (nI_eq (b := 40) (by omega) (by decide)).mp q; omega
      cases hN : pName (tT B n) (i + 1) with
      | inr z =>
        refine pd_ev 4 (lo := [some (.ref (pd_z G + 119)), some (.int (nI (tq B n i))), none, none, none, none]) (by decide +kernel) (Nat.le_of_ble_eq_true rfl) rfl ?_
        refine at_aload_n dX9_readsSign_0 rfl ?_
        refine at_getr (123) flX9_23 rfl sd_119 (rs_119_10 hR) dX9_readsSign_1 ?_
        refine at_iconst dX9_readsSign_4 pc_i1 ?_
        refine at_iald sd_123 (vp_in_nI (n := 1) (by decide) (by decide)) dX9_readsSign_5 ?_
        rw [h1]
        refine at_ifne (tgt := 15) dX9_readsSign_6 (by decide) (fun c6 => ?_) (fun c6 => ?_)
        · -- taken 6
          refine at_aload_n dX9_readsSign_15 rfl ?_
          refine at_getr (123) flX9_23 rfl sd_119 (rs_119_10 hR) dX9_readsSign_16 ?_
          refine at_iconst dX9_readsSign_19 pc_i2 ?_
          refine at_iald sd_123 (vp_in_nI (n := 2) (by decide) (by decide)) dX9_readsSign_20 ?_
          rw [h2]
          refine at_bipush dX9_readsSign_21 pc_b40 ?_
          refine at_icmpne (tgt := 32) dX9_readsSign_23 (by decide) (fun c23 => ?_) (fun c23 => ?_)
          · -- taken 23
            refine at_aload_n dX9_readsSign_32 rfl ?_
            refine at_cv0 cvX9_114 sd_119 (ev_gz_name0 hR h hN) (by decide) ⟨Nat.le_refl _, Nat.le_refl _⟩ (Nat.le_of_ble_eq_true rfl) dX9_readsSign_33 (pd_ki fun v I2 L2 hq => ?_)
            obtain ⟨rfl, hF2, hZ2⟩ := hq
            refine at_istore_n dX9_readsSign_36 rfl (Nat.le_of_ble_eq_true rfl) ?_
            refine at_aload_n dX9_readsSign_37 rfl ?_
            refine at_iconst dX9_readsSign_38 pc_i0 ?_
            refine at_bipush dX9_readsSign_39 pc_b99 ?_
            refine at_cv2 cvX9_117 sd_119 (ev_X9_numberF hR hZ2.nf _ _) (by decide) ⟨Nat.le_refl _, Nat.le_refl _⟩ (Nat.le_of_ble_eq_true rfl) dX9_readsSign_41 (pd_k1 ?_)
            refine at_istore_n dX9_readsSign_44 rfl (Nat.le_of_ble_eq_true rfl) ?_
            refine at_aload_n dX9_readsSign_45 rfl ?_
            refine at_iconst dX9_readsSign_46 pc_i0 ?_
            refine at_sipush dX9_readsSign_47 pc_s999 ?_
            refine at_cv2 cvX9_117 sd_119 (ev_X9_numberF hR hZ2.nf _ _) (by decide) ⟨Nat.le_refl _, Nat.le_refl _⟩ (Nat.le_of_ble_eq_true rfl) dX9_readsSign_50 (pd_k1 ?_)
            refine at_istore dX9_readsSign_53 rfl (Nat.le_of_ble_eq_true rfl) ?_
            refine at_aload_n dX9_readsSign_55 rfl ?_
            refine at_getr (123) flX9_23 rfl sd_119 (rs_119_10 hR) dX9_readsSign_56 ?_
            refine at_iconst dX9_readsSign_59 pc_i2 ?_
            refine at_iald sd_123 (vp_in_nI (n := 2) (by decide) (by decide)) dX9_readsSign_60 ?_
            refine at_istore dX9_readsSign_61 rfl (Nat.le_of_ble_eq_true rfl) ?_
            refine at_aload_n dX9_readsSign_63 rfl ?_
            refine at_cv0 cvX9_87 sd_119 (ev_X9_fine) (by decide) ⟨Nat.le_refl _, Nat.le_refl _⟩ (Nat.le_of_ble_eq_true rfl) dX9_readsSign_64 (pd_k1 ?_)
            rw [decide_eq_false hZ2.nf]
            refine at_ifne (tgt := 71) dX9_readsSign_67 (by decide) (fun c67 => ?_) (fun c67 => ?_)
            · -- taken 67
              exact absurd rfl c67
            · -- not taken 67
              refine at_vret rfl dX9_readsSign_70 ?_
              exact ⟨rfl, _, _, rfl, rfl, hF2, hZ2.mono (by decide)⟩
          · -- not taken 23
            exact absurd c23 en
        · -- not taken 6
          exact absurd c6 n0
      | inl nm =>
        dsimp only
        cases hS : pNum (tT B n) (i + 2) 0 99 with
        | inr z =>
          refine pd_ev 4 (lo := [some (.ref (pd_z G + 119)), some (.int (nI (tq B n i))), none, none, none, none]) (by decide +kernel) (Nat.le_of_ble_eq_true rfl) rfl ?_
          refine at_aload_n dX9_readsSign_0 rfl ?_
          refine at_getr (123) flX9_23 rfl sd_119 (rs_119_10 hR) dX9_readsSign_1 ?_
          refine at_iconst dX9_readsSign_4 pc_i1 ?_
          refine at_iald sd_123 (vp_in_nI (n := 1) (by decide) (by decide)) dX9_readsSign_5 ?_
          rw [h1]
          refine at_ifne (tgt := 15) dX9_readsSign_6 (by decide) (fun c6 => ?_) (fun c6 => ?_)
          · -- taken 6
            refine at_aload_n dX9_readsSign_15 rfl ?_
            refine at_getr (123) flX9_23 rfl sd_119 (rs_119_10 hR) dX9_readsSign_16 ?_
            refine at_iconst dX9_readsSign_19 pc_i2 ?_
            refine at_iald sd_123 (vp_in_nI (n := 2) (by decide) (by decide)) dX9_readsSign_20 ?_
            rw [h2]
            refine at_bipush dX9_readsSign_21 pc_b40 ?_
            refine at_icmpne (tgt := 32) dX9_readsSign_23 (by decide) (fun c23 => ?_) (fun c23 => ?_)
            · -- taken 23
              refine at_aload_n dX9_readsSign_32 rfl ?_
              refine at_cv0 cvX9_114 sd_119 (ev_gz_name1 hR h hN) (by decide) ⟨Nat.le_refl _, Nat.le_refl _⟩ (Nat.le_of_ble_eq_true rfl) dX9_readsSign_33 (pd_ki fun v I2 L2 hq => ?_)
              obtain ⟨rfl, rfl, hF2, hZ2⟩ := hq
              refine at_istore_n dX9_readsSign_36 rfl (Nat.le_of_ble_eq_true rfl) ?_
              refine at_aload_n dX9_readsSign_37 rfl ?_
              refine at_iconst dX9_readsSign_38 pc_i0 ?_
              refine at_bipush dX9_readsSign_39 pc_b99 ?_
              refine at_cv2 cvX9_117 sd_119 (ev_gz_num0 (lo := 0) (hi := 99) hR hZ2 (by decide) (by decide) hS) (by decide) ⟨Nat.le_refl _, Nat.le_refl _⟩ (Nat.le_of_ble_eq_true rfl) dX9_readsSign_41 (pd_ki fun v I3 L3 hq3 => ?_)
              obtain ⟨rfl, hF3, hZ3⟩ := hq3
              refine at_istore_n dX9_readsSign_44 rfl (Nat.le_of_ble_eq_true rfl) ?_
              refine at_aload_n dX9_readsSign_45 rfl ?_
              refine at_iconst dX9_readsSign_46 pc_i0 ?_
              refine at_sipush dX9_readsSign_47 pc_s999 ?_
              refine at_cv2 cvX9_117 sd_119 (ev_X9_numberF hR hZ3.nf _ _) (by decide) ⟨Nat.le_refl _, Nat.le_refl _⟩ (Nat.le_of_ble_eq_true rfl) dX9_readsSign_50 (pd_k1 ?_)
              refine at_istore dX9_readsSign_53 rfl (Nat.le_of_ble_eq_true rfl) ?_
              refine at_aload_n dX9_readsSign_55 rfl ?_
              refine at_getr (123) flX9_23 rfl sd_119 (rs_119_10 hR) dX9_readsSign_56 ?_
              refine at_iconst dX9_readsSign_59 pc_i2 ?_
              refine at_iald sd_123 (vp_in_nI (n := 2) (by decide) (by decide)) dX9_readsSign_60 ?_
              refine at_istore dX9_readsSign_61 rfl (Nat.le_of_ble_eq_true rfl) ?_
              refine at_aload_n dX9_readsSign_63 rfl ?_
              refine at_cv0 cvX9_87 sd_119 (ev_X9_fine) (by decide) ⟨Nat.le_refl _, Nat.le_refl _⟩ (Nat.le_of_ble_eq_true rfl) dX9_readsSign_64 (pd_k1 ?_)
              rw [decide_eq_false hZ3.nf]
              refine at_ifne (tgt := 71) dX9_readsSign_67 (by decide) (fun c67 => ?_) (fun c67 => ?_)
              · -- taken 67
                exact absurd rfl c67
              · -- not taken 67
                refine at_vret rfl dX9_readsSign_70 ?_
                exact ⟨rfl, _, _, rfl, rfl, hF2.tr hF3, hZ3.mono (by decide)⟩
            · -- not taken 23
              exact absurd c23 en
          · -- not taken 6
            exact absurd c6 n0
        | inl s =>
          dsimp only
          cases hY : pNum (tT B n) (i + 3) 0 999 with
          | inr z =>
            refine pd_ev 4 (lo := [some (.ref (pd_z G + 119)), some (.int (nI (tq B n i))), none, none, none, none]) (by decide +kernel) (Nat.le_of_ble_eq_true rfl) rfl ?_
            refine at_aload_n dX9_readsSign_0 rfl ?_
            refine at_getr (123) flX9_23 rfl sd_119 (rs_119_10 hR) dX9_readsSign_1 ?_
            refine at_iconst dX9_readsSign_4 pc_i1 ?_
            refine at_iald sd_123 (vp_in_nI (n := 1) (by decide) (by decide)) dX9_readsSign_5 ?_
            rw [h1]
            refine at_ifne (tgt := 15) dX9_readsSign_6 (by decide) (fun c6 => ?_) (fun c6 => ?_)
            · -- taken 6
              refine at_aload_n dX9_readsSign_15 rfl ?_
              refine at_getr (123) flX9_23 rfl sd_119 (rs_119_10 hR) dX9_readsSign_16 ?_
              refine at_iconst dX9_readsSign_19 pc_i2 ?_
              refine at_iald sd_123 (vp_in_nI (n := 2) (by decide) (by decide)) dX9_readsSign_20 ?_
              rw [h2]
              refine at_bipush dX9_readsSign_21 pc_b40 ?_
              refine at_icmpne (tgt := 32) dX9_readsSign_23 (by decide) (fun c23 => ?_) (fun c23 => ?_)
              · -- taken 23
                refine at_aload_n dX9_readsSign_32 rfl ?_
                refine at_cv0 cvX9_114 sd_119 (ev_gz_name1 hR h hN) (by decide) ⟨Nat.le_refl _, Nat.le_refl _⟩ (Nat.le_of_ble_eq_true rfl) dX9_readsSign_33 (pd_ki fun v I2 L2 hq => ?_)
                obtain ⟨rfl, rfl, hF2, hZ2⟩ := hq
                refine at_istore_n dX9_readsSign_36 rfl (Nat.le_of_ble_eq_true rfl) ?_
                refine at_aload_n dX9_readsSign_37 rfl ?_
                refine at_iconst dX9_readsSign_38 pc_i0 ?_
                refine at_bipush dX9_readsSign_39 pc_b99 ?_
                refine at_cv2 cvX9_117 sd_119 (ev_gz_num1 (lo := 0) (hi := 99) hR hZ2 (by decide) (by decide) hS) (by decide) ⟨Nat.le_refl _, Nat.le_refl _⟩ (Nat.le_of_ble_eq_true rfl) dX9_readsSign_41 (pd_ki fun v I3 L3 hq3 => ?_)
                obtain ⟨rfl, rfl, hF3, hZ3⟩ := hq3
                refine at_istore_n dX9_readsSign_44 rfl (Nat.le_of_ble_eq_true rfl) ?_
                refine at_aload_n dX9_readsSign_45 rfl ?_
                refine at_iconst dX9_readsSign_46 pc_i0 ?_
                refine at_sipush dX9_readsSign_47 pc_s999 ?_
                refine at_cv2 cvX9_117 sd_119 (ev_gz_num0 (lo := 0) (hi := 999) hR hZ3 (by decide) (by decide) hY) (by decide) ⟨Nat.le_refl _, Nat.le_refl _⟩ (Nat.le_of_ble_eq_true rfl) dX9_readsSign_50 (pd_ki fun v I4 L4 hq4 => ?_)
                obtain ⟨rfl, hF4, hZ4⟩ := hq4
                refine at_istore dX9_readsSign_53 rfl (Nat.le_of_ble_eq_true rfl) ?_
                refine at_aload_n dX9_readsSign_55 rfl ?_
                refine at_getr (123) flX9_23 rfl sd_119 (rs_119_10 hR) dX9_readsSign_56 ?_
                refine at_iconst dX9_readsSign_59 pc_i2 ?_
                refine at_iald sd_123 (vp_in_nI (n := 2) (by decide) (by decide)) dX9_readsSign_60 ?_
                refine at_istore dX9_readsSign_61 rfl (Nat.le_of_ble_eq_true rfl) ?_
                refine at_aload_n dX9_readsSign_63 rfl ?_
                refine at_cv0 cvX9_87 sd_119 (ev_X9_fine) (by decide) ⟨Nat.le_refl _, Nat.le_refl _⟩ (Nat.le_of_ble_eq_true rfl) dX9_readsSign_64 (pd_k1 ?_)
                rw [decide_eq_false hZ4.nf]
                refine at_ifne (tgt := 71) dX9_readsSign_67 (by decide) (fun c67 => ?_) (fun c67 => ?_)
                · -- taken 67
                  exact absurd rfl c67
                · -- not taken 67
                  refine at_vret rfl dX9_readsSign_70 ?_
                  exact ⟨rfl, _, _, rfl, rfl, (hF2.tr hF3).tr hF4, hZ4.mono (by decide)⟩
              · -- not taken 23
                exact absurd c23 en
            · -- not taken 6
              exact absurd c6 n0
          | inl dy =>
            have hrow := (hJ.sign (nm := nm) (s := s) (d := dy) hs0 (by omega)).1
            have f1 : ∀ (I4 : Nat → Nat → Int32) (z1 z2 : Int32), RQ I4 123 r → pd_up (pd_up I4 123 (65 + 4 * nl) z1) 123 (66 + 4 * nl) z2 123 (1 : Int32).toNatClampNeg = nI ns := fun I4 z1 z2 q4 => by
              show pd_up (pd_up I4 123 (65 + 4 * nl) z1) 123 (66 + 4 * nl) z2 123 1 = nI ns
              rw [pd_up_nj (by omega), pd_up_nj (by omega)]; exact (q4 1 (by decide)).trans hr.2.1.1
            have f2 : ∀ (I4 : Nat → Nat → Int32) (z1 z2 z3 z4 : Int32), RQ I4 123 r → pd_up (pd_up (pd_up (pd_up I4 123 (65 + 4 * nl) z1) 123 (66 + 4 * nl) z2) 123 (67 + 4 * nl) z3) 123 (68 + 4 * nl) z4 123 (2 : Int32).toNatClampNeg = nI nl := fun I4 z1 z2 z3 z4 q4 => by
              show pd_up (pd_up (pd_up (pd_up I4 123 (65 + 4 * nl) z1) 123 (66 + 4 * nl) z2) 123 (67 + 4 * nl) z3) 123 (68 + 4 * nl) z4 123 2 = nI nl
              rw [pd_up_nj (by omega), pd_up_nj (by omega), pd_up_nj (by omega), pd_up_nj (by omega)]; exact (q4 2 (by decide)).trans hr.2.2.1.1
            refine pd_ev 4 (lo := [some (.ref (pd_z G + 119)), some (.int (nI (tq B n i))), none, none, none, none]) (by decide +kernel) (Nat.le_of_ble_eq_true rfl) rfl ?_
            refine at_aload_n dX9_readsSign_0 rfl ?_
            refine at_getr (123) flX9_23 rfl sd_119 (rs_119_10 hR) dX9_readsSign_1 ?_
            refine at_iconst dX9_readsSign_4 pc_i1 ?_
            refine at_iald sd_123 (vp_in_nI (n := 1) (by decide) (by decide)) dX9_readsSign_5 ?_
            rw [h1]
            refine at_ifne (tgt := 15) dX9_readsSign_6 (by decide) (fun c6 => ?_) (fun c6 => ?_)
            · -- taken 6
              refine at_aload_n dX9_readsSign_15 rfl ?_
              refine at_getr (123) flX9_23 rfl sd_119 (rs_119_10 hR) dX9_readsSign_16 ?_
              refine at_iconst dX9_readsSign_19 pc_i2 ?_
              refine at_iald sd_123 (vp_in_nI (n := 2) (by decide) (by decide)) dX9_readsSign_20 ?_
              rw [h2]
              refine at_bipush dX9_readsSign_21 pc_b40 ?_
              refine at_icmpne (tgt := 32) dX9_readsSign_23 (by decide) (fun c23 => ?_) (fun c23 => ?_)
              · -- taken 23
                refine at_aload_n dX9_readsSign_32 rfl ?_
                refine at_cv0 cvX9_114 sd_119 (ev_gz_name1 hR h hN) (by decide) ⟨Nat.le_refl _, Nat.le_refl _⟩ (Nat.le_of_ble_eq_true rfl) dX9_readsSign_33 (pd_ki fun v I2 L2 hq => ?_)
                obtain ⟨rfl, rfl, hF2, hZ2⟩ := hq
                refine at_istore_n dX9_readsSign_36 rfl (Nat.le_of_ble_eq_true rfl) ?_
                refine at_aload_n dX9_readsSign_37 rfl ?_
                refine at_iconst dX9_readsSign_38 pc_i0 ?_
                refine at_bipush dX9_readsSign_39 pc_b99 ?_
                refine at_cv2 cvX9_117 sd_119 (ev_gz_num1 (lo := 0) (hi := 99) hR hZ2 (by decide) (by decide) hS) (by decide) ⟨Nat.le_refl _, Nat.le_refl _⟩ (Nat.le_of_ble_eq_true rfl) dX9_readsSign_41 (pd_ki fun v I3 L3 hq3 => ?_)
                obtain ⟨rfl, rfl, hF3, hZ3⟩ := hq3
                refine at_istore_n dX9_readsSign_44 rfl (Nat.le_of_ble_eq_true rfl) ?_
                refine at_aload_n dX9_readsSign_45 rfl ?_
                refine at_iconst dX9_readsSign_46 pc_i0 ?_
                refine at_sipush dX9_readsSign_47 pc_s999 ?_
                refine at_cv2 cvX9_117 sd_119 (ev_gz_num1 (lo := 0) (hi := 999) hR hZ3 (by decide) (by decide) hY) (by decide) ⟨Nat.le_refl _, Nat.le_refl _⟩ (Nat.le_of_ble_eq_true rfl) dX9_readsSign_50 (pd_ki fun v I4 L4 hq4 => ?_)
                obtain ⟨rfl, rfl, hF4, hZ4⟩ := hq4
                have q4 : RQ I4 123 r := by have := hZ4.2.2.2.2.2.1; rwa [hse] at this
                refine at_istore dX9_readsSign_53 rfl (Nat.le_of_ble_eq_true rfl) ?_
                refine at_aload_n dX9_readsSign_55 rfl ?_
                refine at_getr (123) flX9_23 rfl sd_119 (rs_119_10 hR) dX9_readsSign_56 ?_
                refine at_iconst dX9_readsSign_59 pc_i2 ?_
                refine at_iald sd_123 (vp_in_nI (n := 2) (by decide) (by decide)) dX9_readsSign_60 ?_
                rw [show I4 123 (2 : Int32).toNatClampNeg = nI nl from (q4 2 (by decide)).trans hr.2.2.1.1]
                refine at_istore dX9_readsSign_61 rfl (Nat.le_of_ble_eq_true rfl) ?_
                refine at_aload_n dX9_readsSign_63 rfl ?_
                refine at_cv0 cvX9_87 sd_119 (ev_X9_fine) (by decide) ⟨Nat.le_refl _, Nat.le_refl _⟩ (Nat.le_of_ble_eq_true rfl) dX9_readsSign_64 (pd_k1 ?_)
                rw [decide_eq_true hZ4.2.2.1]
                refine at_ifne (tgt := 71) dX9_readsSign_67 (by decide) (fun c67 => ?_) (fun c67 => ?_)
                · -- taken 67
                  refine at_aload_n dX9_readsSign_71 rfl ?_
                  refine at_getr (123) flX9_23 rfl sd_119 (rs_119_10 hR) dX9_readsSign_72 ?_
                  refine at_iload dX9_readsSign_75 rfl ?_
                  refine at_iconst dX9_readsSign_77 pc_i0 ?_
                  refine at_cs2 csX9_124 (ev_X9_lineAt nl 0 (65 + 4 * nl) (by omega)) (by decide) ⟨Nat.le_refl _, Nat.le_refl _⟩ (Nat.le_of_ble_eq_true rfl) dX9_readsSign_78 (pd_k1 ?_)
                  refine at_iload_n dX9_readsSign_81 rfl ?_
                  refine at_iast sd_123 (vp_in_nI (by omega) (by decide)) dX9_readsSign_82 ?_
                  rw [nI_clamp (n := 65 + 4 * nl) (by omega)]
                  refine at_aload_n dX9_readsSign_83 rfl ?_
                  refine at_getr (123) flX9_23 rfl sd_119 (rs_119_10 hR) dX9_readsSign_84 ?_
                  refine at_iload dX9_readsSign_87 rfl ?_
                  refine at_iconst dX9_readsSign_89 pc_i1 ?_
                  refine at_cs2 csX9_124 (ev_X9_lineAt nl 1 (66 + 4 * nl) (by omega)) (by decide) ⟨Nat.le_refl _, Nat.le_refl _⟩ (Nat.le_of_ble_eq_true rfl) dX9_readsSign_90 (pd_k1 ?_)
                  refine at_iload_n dX9_readsSign_93 rfl ?_
                  refine at_iast sd_123 (vp_in_nI (by omega) (by decide)) dX9_readsSign_94 ?_
                  rw [nI_clamp (n := 66 + 4 * nl) (by omega)]
                  refine at_aload_n dX9_readsSign_95 rfl ?_
                  refine at_getr (123) flX9_23 rfl sd_119 (rs_119_10 hR) dX9_readsSign_96 ?_
                  refine at_iload dX9_readsSign_99 rfl ?_
                  refine at_iconst dX9_readsSign_101 pc_i2 ?_
                  refine at_cs2 csX9_124 (ev_X9_lineAt nl 2 (67 + 4 * nl) (by omega)) (by decide) ⟨Nat.le_refl _, Nat.le_refl _⟩ (Nat.le_of_ble_eq_true rfl) dX9_readsSign_102 (pd_k1 ?_)
                  refine at_aload_n dX9_readsSign_105 rfl ?_
                  refine at_getr (123) flX9_23 rfl sd_119 (rs_119_10 hR) dX9_readsSign_106 ?_
                  refine at_iconst dX9_readsSign_109 pc_i1 ?_
                  refine at_iald sd_123 (vp_in_nI (n := 1) (by decide) (by decide)) dX9_readsSign_110 ?_
                  rw [f1 _ _ _ q4]
                  refine at_iconst dX9_readsSign_111 pc_i1 ?_
                  refine at_isub dX9_readsSign_112 ?_
                  rw [show nI ns - 1 = nI (ns - 1) from pk_sub (b := 1) (by omega)]
                  refine at_iast sd_123 (vp_in_nI (by omega) (by decide)) dX9_readsSign_113 ?_
                  rw [nI_clamp (n := 67 + 4 * nl) (by omega)]
                  refine at_aload_n dX9_readsSign_114 rfl ?_
                  refine at_getr (123) flX9_23 rfl sd_119 (rs_119_10 hR) dX9_readsSign_115 ?_
                  refine at_iload dX9_readsSign_118 rfl ?_
                  refine at_iconst dX9_readsSign_120 pc_i3 ?_
                  refine at_cs2 csX9_124 (ev_X9_lineAt nl 3 (68 + 4 * nl) (by omega)) (by decide) ⟨Nat.le_refl _, Nat.le_refl _⟩ (Nat.le_of_ble_eq_true rfl) dX9_readsSign_121 (pd_k1 ?_)
                  refine at_iload dX9_readsSign_124 rfl ?_
                  refine at_iast sd_123 (vp_in_nI (by omega) (by decide)) dX9_readsSign_126 ?_
                  rw [nI_clamp (n := 68 + 4 * nl) (by omega)]
                  refine at_aload_n dX9_readsSign_127 rfl ?_
                  refine at_getr (123) flX9_23 rfl sd_119 (rs_119_10 hR) dX9_readsSign_128 ?_
                  refine at_iconst dX9_readsSign_131 pc_i2 ?_
                  refine at_dup2 dX9_readsSign_132 rfl rfl ?_
                  refine at_iald sd_123 (vp_in_nI (n := 2) (by decide) (by decide)) dX9_readsSign_133 ?_
                  rw [f2 _ _ _ _ _ q4]
                  refine at_iconst dX9_readsSign_134 pc_i1 ?_
                  refine at_iadd dX9_readsSign_135 ?_
                  rw [nI_1]
                  refine at_iast sd_123 (vp_in_nI (n := 2) (by decide) (by decide)) dX9_readsSign_136 ?_
                  refine at_vret rfl dX9_readsSign_137 ?_
                  refine ⟨rfl, _, _, rfl, rfl, (((((((hF2.tr hF3).tr hF4).up3).up3).up3).up3).up3), ?_⟩
                  show GZ _ B n (lnR r ns nl nm s dy) (rl_ks e) 0 (i + 4)
                  refine hZ4.row (fun x j hx => by rw [pd_up_nb hx, pd_up_nb hx, pd_up_nb hx, pd_up_nb hx, pd_up_nb hx]) ?_
                  rw [ckR_self hrow]
                  intro k hk
                  show pd_up (pd_up (pd_up (pd_up (pd_up I4 123 (65 + 4 * nl) (nI (n27 0 nm))) 123 (66 + 4 * nl) (nI s)) 123 (67 + 4 * nl) (nI (ns - 1))) 123 (68 + 4 * nl) (nI dy)) 123 2 (nI (nl + 1)) 123 k = _
                  rw [pd_up_row, pd_up_row, pd_up_row, pd_up_row, pd_up_row]
                  unfold lnR upd
                  rw [q4 k hk]
                · -- not taken 67
                  exact absurd c67 (by decide)
              · -- not taken 23
                exact absurd c23 en
            · -- not taken 6
              exact absurd c6 n0
end PAR6
