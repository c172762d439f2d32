/-! ===== the reference reads: a rule ===== -/
/-- what reading a rule gives -/
def QZ (I : Nat → Nat → Int32) (L : Nat → Nat → Int64) (B : Nat → Nat) (n : Nat) (r : Nat → Int32) (d : Nat) (res : (Nat × List rl_S) ⊕ (Nat × Nat)) (I' : Nat → Nat → Int32) (L' : Nat → Nat → Int64) : Prop := L' = L ∧ FP I I' ∧ match res with
  | .inl x => GZ I' B n r (rl_ks x.2) d x.1
  | .inr z => FZ I' B n 3 z
theorem QZ.pre {I I1 I' : Nat → Nat → Int32} {L L' : Nat → Nat → Int64} {B : Nat → Nat} {n d : Nat} {r : Nat → Int32} {res} (hF : FP I I1) (h : QZ I1 L B n r d res I' L') : QZ I L B n r d res I' L' := ⟨h.1, hF.tr h.2.1, h.2.2⟩
theorem re_pre {I I1 : Nat → Nat → Int32} {L : Nat → Nat → Int64} {R : Nat → Nat → Option Nat} {B : Nat → Nat} {n d : Nat} {r : Nat → Int32} {res} {o : pd_O} {M : pd_M} (hF : FP I I1) (h : pd_re R (QZ I1 L B n r d res) o M) : pd_re R (QZ I L B n r d res) o M := by
  obtain ⟨h1, I', L', h2, h3⟩ := h
  exact ⟨h1, I', L', h2, h3.pre hF⟩
section PAR4
variable {G : pd_G} {L : Nat → Nat → Int64} {R : Nat → Nat → Option Nat} {B : Nat → Nat} {n : Nat} {r : Nat → Int32}
theorem rl_kA : rl_ks [(3, 0, 0)] = [nI 11] ∧ rl_ks [(4, 0, 0)] = [nI 12] ∧ rl_ks [(5, 0, 0)] = [nI 13] := ⟨rfl, rfl, rfl⟩
/-- behind the first operand, a fault found -/
theorem tl_cmpF (hR : RS R) {I I' : Nat → Nat → Int32} {d h : Nat} (hh : 9 ≤ h) {z : Nat × Nat} (hF : FP I I') (hZ : FZ I' B n 0 z) (a1 v : Int32) : pd_At G mi_X9_part h 0 0 0 0 64 [some (.ref (pd_z G + 119)), some (.int a1), some (.int v)] [] (SD, false, I', L, R) (pd_re R (QZ I L B n r d (.inr z))) := by
  obtain ⟨p, p1, p2⟩ := hZ.2.1
  have hn := hZ.1.2.1
  have hZ1 : FZ (pd_up I' 119 4 (nI (p + 1))) B n 3 z := hZ.at (by omega)
  have hF1 : FP I (pd_up I' 119 4 (nI (p + 1))) := hF.up (by decide)
  refine at_aload_n dX9_part_64 rfl ?_
  refine at_dup dX9_part_65 rfl ?_
  refine at_geti flX9_57 rfl sd_119 dX9_part_66 ?_
  rw [p1]
  refine at_iconst dX9_part_69 pc_i1 ?_
  refine at_iadd dX9_part_70 ?_
  rw [nI_1]
  refine at_puti flX9_57 rfl sd_119 (fun _ _ _ hq => by cases hq; rfl) dX9_part_71 ?_
  refine at_aload_n dX9_part_74 rfl ?_
  refine at_cv0 cvX9_155 sd_119 (ev_X9_sideF hR hZ1.nf) (by omega) ⟨Nat.le_refl _, Nat.le_refl _⟩ (Nat.le_of_ble_eq_true rfl) dX9_part_75 (pd_k0 ?_)
  refine at_aload_n dX9_part_78 rfl ?_
  refine at_iload_n dX9_part_79 rfl ?_
  refine at_bipush dX9_part_80 pc_b60 ?_
  refine at_icmpne (tgt := 90) dX9_part_82 (by decide) (fun c82 => ?_) (fun c82 => ?_)
  · -- taken 82
    refine at_iload_n dX9_part_90 rfl ?_
    refine at_bipush dX9_part_91 pc_b61 ?_
    refine at_icmpne (tgt := 101) dX9_part_93 (by decide) (fun c93 => ?_) (fun c93 => ?_)
    · -- taken 93
      refine at_bipush dX9_part_101 pc_b10 ?_
      refine at_cv1 cvX9_142 sd_119 (ev_X9_tellsF hR hZ1.nf _) (by omega) ⟨Nat.le_refl _, Nat.le_refl _⟩ (Nat.le_of_ble_eq_true rfl) dX9_part_103 (pd_k0 ?_)
      refine at_vret rfl dX9_part_106 ?_
      exact ⟨rfl, _, _, rfl, rfl, hF1, hZ1⟩
    · -- not taken 93
      refine at_bipush dX9_part_96 pc_b9 ?_
      refine at_goto (tgt := 103) dX9_part_98 (by decide) ?_
      refine at_cv1 cvX9_142 sd_119 (ev_X9_tellsF hR hZ1.nf _) (by omega) ⟨Nat.le_refl _, Nat.le_refl _⟩ (Nat.le_of_ble_eq_true rfl) dX9_part_103 (pd_k0 ?_)
      refine at_vret rfl dX9_part_106 ?_
      exact ⟨rfl, _, _, rfl, rfl, hF1, hZ1⟩
  · -- not taken 82
    refine at_bipush dX9_part_85 pc_b8 ?_
    refine at_goto (tgt := 103) dX9_part_87 (by decide) ?_
    refine at_cv1 cvX9_142 sd_119 (ev_X9_tellsF hR hZ1.nf _) (by omega) ⟨Nat.le_refl _, Nat.le_refl _⟩ (Nat.le_of_ble_eq_true rfl) dX9_part_103 (pd_k0 ?_)
    refine at_vret rfl dX9_part_106 ?_
    exact ⟨rfl, _, _, rfl, rfl, hF1, hZ1⟩
theorem ev_part_cmp (hR : RS R) {I : Nat → Nat → Int32} {e : List rl_S} {d i : Nat} (h : GZ I B n r (rl_ks e) d i) (hk : (rl_ks e).length < 780) (h11 : ¬ tkK B n (tq B n i) = 11) (h40 : ¬ tkK B n (tq B n i) = 40) {hh : Nat} (hhh : 10 ≤ hh) : pd_Ev G mi_X9_part hh 0 0 [.ref (pd_z G + 119)] (SD, false, I, L, R) (pd_re R (QZ I L B n r d (match pCmp (tT B n) i with
    | .inl x => .inl (x.1, e ++ x.2)
    | .inr z => .inr z))) := by
  have hb : ¬ fB B n (tq B n i) = 40 := fun q => h40 ((sg_iff (by decide) (by decide) (by decide) (by decide)).mp ((fB_eq h.1 (c := 40) (by decide)).mp q))
  have f2 : FP I (pd_up (pd_up I 119 4 (nI (tq B n i))) 119 4 (nI (tq B n i))) := (FP.rf.up (by decide)).up (by decide)
  have g2 : GZ (pd_up (pd_up I 119 4 (nI (tq B n i))) 119 4 (nI (tq B n i))) B n r (rl_ks e) d i := h.here.here
  unfold pCmp
  cases hO : pOp (tT B n) i with
  | inr x =>
    refine pd_ev 2 (lo := [some (.ref (pd_z G + 119)), none, none]) (by decide +kernel) (Nat.le_of_ble_eq_true rfl) rfl ?_
    refine at_aload_n dX9_part_0 rfl ?_
    refine at_cv0 cvX9_87 sd_119 (ev_X9_fine) (by omega) ⟨Nat.le_refl _, Nat.le_refl _⟩ (Nat.le_of_ble_eq_true rfl) dX9_part_1 (pd_k1 ?_)
    rw [decide_eq_true h.2.2.1]
    refine at_ifne (tgt := 8) dX9_part_4 (by decide) (fun c4 => ?_) (fun c4 => ?_)
    · -- taken 4
      refine at_aload_n dX9_part_8 rfl ?_
      refine at_ldcS sw9_not rfl dX9_part_9 (fun hS9 => ?_)
      refine at_cv1 cvX9_91 sd_119 (ev_gz_isWord (c := 10) hR h (by decide) hS9) (by omega) ⟨Nat.le_refl _, Nat.le_refl _⟩ (Nat.le_of_ble_eq_true rfl) dX9_part_11 (pd_k1 ?_)
      rw [decide_eq_false h11]
      refine at_istore_n dX9_part_14 rfl (Nat.le_of_ble_eq_true rfl) ?_
      refine at_iload_n dX9_part_15 rfl ?_
      refine at_ifne (tgt := 107) dX9_part_16 (by decide) (fun c16 => ?_) (fun c16 => ?_)
      · -- taken 16
        exact absurd rfl c16
      · -- not taken 16
        refine at_aload_n dX9_part_19 rfl ?_
        refine at_cv0 cvX9_70 sd_119 (ev_gz_here hR h.here) (by omega) ⟨Nat.le_refl _, Nat.le_refl _⟩ (Nat.le_of_ble_eq_true rfl) dX9_part_20 (pd_k1 ?_)
        refine at_bipush dX9_part_23 pc_b40 ?_
        refine at_icmpeq (tgt := 107) dX9_part_25 (by decide) (fun c25 => ?_) (fun c25 => ?_)
        · -- taken 25
          exact absurd c25 hb
        · -- not taken 25
          refine at_aload_n dX9_part_28 rfl ?_
          refine at_cv0 cvX9_155 sd_119 (ev_gz_side0 hR g2 (by omega) hO) (by omega) ⟨Nat.le_refl _, Nat.le_refl _⟩ (Nat.le_of_ble_eq_true rfl) dX9_part_29 (pd_ke fun I2 L2 hq => ?_)
          obtain ⟨rfl, hF2, hZ2⟩ := hq
          refine at_aload_n dX9_part_32 rfl ?_
          refine at_cv0 cvX9_70 sd_119 (ev_fz_here hR (by decide) hZ2) (by omega) ⟨Nat.le_refl _, Nat.le_refl _⟩ (Nat.le_of_ble_eq_true rfl) dX9_part_33 (pd_ki fun v I3 L3 hq3 => ?_)
          obtain ⟨rfl, hF3, hZ3⟩ := hq3
          refine at_istore_n dX9_part_36 rfl (Nat.le_of_ble_eq_true rfl) ?_
          refine at_iload_n dX9_part_37 rfl ?_
          refine at_bipush dX9_part_38 pc_b60 ?_
          refine at_icmpeq (tgt := 64) dX9_part_40 (by decide) (fun c40 => ?_) (fun c40 => ?_)
          · -- taken 40
            exact tl_cmpF hR (by omega) ((f2.tr hF2).tr hF3) hZ3 _ _
          · -- not taken 40
            refine at_iload_n dX9_part_43 rfl ?_
            refine at_bipush dX9_part_44 pc_b61 ?_
            refine at_icmpeq (tgt := 64) dX9_part_46 (by decide) (fun c46 => ?_) (fun c46 => ?_)
            · -- taken 46
              exact tl_cmpF hR (by omega) ((f2.tr hF2).tr hF3) hZ3 _ _
            · -- not taken 46
              refine at_iload_n dX9_part_49 rfl ?_
              refine at_bipush dX9_part_50 pc_b62 ?_
              refine at_icmpeq (tgt := 64) dX9_part_52 (by decide) (fun c52 => ?_) (fun c52 => ?_)
              · -- taken 52
                exact tl_cmpF hR (by omega) ((f2.tr hF2).tr hF3) hZ3 _ _
              · -- not taken 52
                refine at_aload_n dX9_part_55 rfl ?_
                refine at_iconst dX9_part_56 pc_i1 ?_
                refine at_aload_n dX9_part_57 rfl ?_
                refine at_geti flX9_57 rfl sd_119 dX9_part_58 ?_
                refine at_cv2 cvX9_95 sd_119 (ev_X9_wrong1 hZ3.nf _ _) (by omega) ⟨Nat.le_refl _, Nat.le_refl _⟩ (Nat.le_of_ble_eq_true rfl) dX9_part_61 (pd_k0 ?_)
                exact tl_cmpF hR (by omega) ((f2.tr hF2).tr hF3) hZ3 _ _
    · -- not taken 4
      exact absurd c4 (by decide)
  | inl a =>
    have la : (rl_o a).length ≤ 2 := by unfold rl_o; split <;> simp
    by_cases hs : 60 ≤ tkK B n (tq B n (i + 1)) ∧ tkK B n (tq B n (i + 1)) ≤ 62
    · have hs' : 60 ≤ (tT B n).1 (i + 1) ∧ (tT B n).1 (i + 1) ≤ 62 := hs
      obtain ⟨c, hc⟩ : ∃ c, c = tkK B n (tq B n (i + 1)) := ⟨_, rfl⟩
      have hc' : (tT B n).1 (i + 1) = c := hc.symm
      rw [← hc] at hs
      have hsg := (sg_iff (B := B) (n := n) (q := tq B n (i + 1)) (c := c) (by omega) (by omega) (by omega) (by omega)).mpr hc.symm
      have hv : fB B n (tq B n (i + 1)) = nI c := by rw [fB, if_pos hsg.1, hsg.2]
      simp only [hc', if_pos hs]
      have go : ∀ (I3 : Nat → Nat → Int32), FP I I3 → GZ I3 B n r (rl_ks e ++ rl_o a) d (i + 1) → pd_At G mi_X9_part hh 0 0 0 0 64 [some (.ref (pd_z G + 119)), some (.int (i_of false)), some (.int (nI c))] [] (SD, false, pd_up I3 119 4 (nI (tq B n (i + 1))), L, R) (pd_re R (QZ I L B n r d (match (match pOp (tT B n) (i + 2) with
          | .inr x => .inr x
          | .inl b => .inl (i + 3, [(c - 60, a, b)]) : (Nat × List rl_S) ⊕ (Nat × Nat)) with
          | .inl x => .inl (x.1, e ++ x.2)
          | .inr z => .inr z))) := by
        intro I3 hF3 hZ3
        have hZ4 : GZ (pd_up (pd_up I3 119 4 (nI (tq B n (i + 1)))) 119 4 (nI (tq B n (i + 1) + 1))) B n r (rl_ks e ++ rl_o a) d (i + 2) := hZ3.here.next (sg_E hsg.1 hsg.2 (by omega) (by omega)).symm
        have hF4 : FP I (pd_up (pd_up I3 119 4 (nI (tq B n (i + 1)))) 119 4 (nI (tq B n (i + 1) + 1))) := (hF3.up (by decide)).up (by decide)
        cases hO2 : pOp (tT B n) (i + 2) with
        | inr x =>
          refine at_aload_n dX9_part_64 rfl ?_
          refine at_dup dX9_part_65 rfl ?_
          refine at_geti flX9_57 rfl sd_119 dX9_part_66 ?_
          rw [pd_up_at]
          refine at_iconst dX9_part_69 pc_i1 ?_
          refine at_iadd dX9_part_70 ?_
          rw [nI_1]
          refine at_puti flX9_57 rfl sd_119 (fun _ _ _ hq => by cases hq; rfl) dX9_part_71 ?_
          refine at_aload_n dX9_part_74 rfl ?_
          refine at_cv0 cvX9_155 sd_119 (ev_gz_side0 hR hZ4 (by simp; omega) hO2) (by omega) ⟨Nat.le_refl _, Nat.le_refl _⟩ (Nat.le_of_ble_eq_true rfl) dX9_part_75 (pd_ke fun I5 L5 hq => ?_)
          obtain ⟨rfl, hF5, hZ5⟩ := hq
          refine at_aload_n dX9_part_78 rfl ?_
          refine at_iload_n dX9_part_79 rfl ?_
          refine at_bipush dX9_part_80 pc_b60 ?_
          refine at_icmpne (tgt := 90) dX9_part_82 (by decide) (fun c82 => ?_) (fun c82 => ?_)
          · -- taken 82
            refine at_iload_n dX9_part_90 rfl ?_
            refine at_bipush dX9_part_91 pc_b61 ?_
            refine at_icmpne (tgt := 101) dX9_part_93 (by decide) (fun c93 => ?_) (fun c93 => ?_)
            · -- taken 93
              refine at_bipush dX9_part_101 pc_b10 ?_
              refine at_cv1 cvX9_142 sd_119 (ev_X9_tellsF hR hZ5.nf _) (by omega) ⟨Nat.le_refl _, Nat.le_refl _⟩ (Nat.le_of_ble_eq_true rfl) dX9_part_103 (pd_k0 ?_)
              refine at_vret rfl dX9_part_106 ?_
              exact ⟨rfl, _, _, rfl, rfl, hF4.tr hF5, hZ5.mono (by decide)⟩
            · -- not taken 93
              refine at_bipush dX9_part_96 pc_b9 ?_
              refine at_goto (tgt := 103) dX9_part_98 (by decide) ?_
              refine at_cv1 cvX9_142 sd_119 (ev_X9_tellsF hR hZ5.nf _) (by omega) ⟨Nat.le_refl _, Nat.le_refl _⟩ (Nat.le_of_ble_eq_true rfl) dX9_part_103 (pd_k0 ?_)
              refine at_vret rfl dX9_part_106 ?_
              exact ⟨rfl, _, _, rfl, rfl, hF4.tr hF5, hZ5.mono (by decide)⟩
          · -- not taken 82
            refine at_bipush dX9_part_85 pc_b8 ?_
            refine at_goto (tgt := 103) dX9_part_87 (by decide) ?_
            refine at_cv1 cvX9_142 sd_119 (ev_X9_tellsF hR hZ5.nf _) (by omega) ⟨Nat.le_refl _, Nat.le_refl _⟩ (Nat.le_of_ble_eq_true rfl) dX9_part_103 (pd_k0 ?_)
            refine at_vret rfl dX9_part_106 ?_
            exact ⟨rfl, _, _, rfl, rfl, hF4.tr hF5, hZ5.mono (by decide)⟩
        | inl b =>
          have lb : (rl_o b).length ≤ 2 := by unfold rl_o; split <;> simp
          have ek : rl_ks (e ++ [(c - 60, a, b)]) = rl_ks e ++ rl_o a ++ rl_o b ++ [nI (8 + (c - 60))] := by
            rw [rl_ks_app, rl_ks_one, rl_k, if_pos (show c - 60 < 3 by omega)]; simp
          have fin : ∀ (I5 : Nat → Nat → Int32) (u : Int32), u = nI (8 + (c - 60)) → FP I I5 → GZ I5 B n r (rl_ks e ++ rl_o a ++ rl_o b) d (i + 3) → pd_At G mi_X9_part hh 0 0 0 0 103 [some (.ref (pd_z G + 119)), some (.int (i_of false)), some (.int (nI c))] [.int u, .ref (pd_z G + 119)] (SD, false, I5, L, R) (pd_re R (QZ I L B n r d (.inl (i + 3, e ++ [(c - 60, a, b)])))) := by
            intro I5 u hu hF5 hZ5
            subst hu
            refine at_cv1 cvX9_142 sd_119 (ev_gz_tells hR hZ5 (by simp; omega) _) (by omega) ⟨Nat.le_refl _, Nat.le_refl _⟩ (Nat.le_of_ble_eq_true rfl) dX9_part_103 (pd_ke fun I6 L6 hq => ?_)
            obtain ⟨rfl, hF6, hZ6⟩ := hq
            refine at_vret rfl dX9_part_106 ?_
            exact ⟨rfl, _, _, rfl, rfl, hF5.tr hF6, by show GZ _ B n r (rl_ks (e ++ [(c - 60, a, b)])) d (i + 3); rw [ek]; exact hZ6⟩
          refine at_aload_n dX9_part_64 rfl ?_
          refine at_dup dX9_part_65 rfl ?_
          refine at_geti flX9_57 rfl sd_119 dX9_part_66 ?_
          rw [pd_up_at]
          refine at_iconst dX9_part_69 pc_i1 ?_
          refine at_iadd dX9_part_70 ?_
          rw [nI_1]
          refine at_puti flX9_57 rfl sd_119 (fun _ _ _ hq => by cases hq; rfl) dX9_part_71 ?_
          refine at_aload_n dX9_part_74 rfl ?_
          refine at_cv0 cvX9_155 sd_119 (ev_gz_side1 hR hZ4 (by simp; omega) hO2) (by omega) ⟨Nat.le_refl _, Nat.le_refl _⟩ (Nat.le_of_ble_eq_true rfl) dX9_part_75 (pd_ke fun I5 L5 hq => ?_)
          obtain ⟨rfl, hF5, hZ5⟩ := hq
          refine at_aload_n dX9_part_78 rfl ?_
          refine at_iload_n dX9_part_79 rfl ?_
          refine at_bipush dX9_part_80 pc_b60 ?_
          refine at_icmpne (tgt := 90) dX9_part_82 (by decide) (fun c82 => ?_) (fun c82 => ?_)
          · -- taken 82
            rw [show nI c = 60 ↔ c = 60 from nI_eq (b := 60) (by omega) (by decide)] at c82
            refine at_iload_n dX9_part_90 rfl ?_
            refine at_bipush dX9_part_91 pc_b61 ?_
            refine at_icmpne (tgt := 101) dX9_part_93 (by decide) (fun c93 => ?_) (fun c93 => ?_)
            · -- taken 93
              rw [show nI c = 61 ↔ c = 61 from nI_eq (b := 61) (by omega) (by decide)] at c93
              refine at_bipush dX9_part_101 pc_b10 ?_
              first | exact fin _ _ (by rw [c82]; rfl) (hF4.tr hF5) hZ5 | exact fin _ _ (by rw [c93]; rfl) (hF4.tr hF5) hZ5 | exact fin _ _ (by rw [show c = 62 by omega]; rfl) (hF4.tr hF5) hZ5
            · -- not taken 93
              rw [show nI c = 61 ↔ c = 61 from nI_eq (b := 61) (by omega) (by decide)] at c93
              refine at_bipush dX9_part_96 pc_b9 ?_
              refine at_goto (tgt := 103) dX9_part_98 (by decide) ?_
              first | exact fin _ _ (by rw [c82]; rfl) (hF4.tr hF5) hZ5 | exact fin _ _ (by rw [c93]; rfl) (hF4.tr hF5) hZ5 | exact fin _ _ (by rw [show c = 62 by omega]; rfl) (hF4.tr hF5) hZ5
          · -- not taken 82
            rw [show nI c = 60 ↔ c = 60 from nI_eq (b := 60) (by omega) (by decide)] at c82
            refine at_bipush dX9_part_85 pc_b8 ?_
            refine at_goto (tgt := 103) dX9_part_87 (by decide) ?_
            first | exact fin _ _ (by rw [c82]; rfl) (hF4.tr hF5) hZ5 | exact fin _ _ (by rw [c93]; rfl) (hF4.tr hF5) hZ5 | exact fin _ _ (by rw [show c = 62 by omega]; rfl) (hF4.tr hF5) hZ5
      refine pd_ev 2 (lo := [some (.ref (pd_z G + 119)), none, none]) (by decide +kernel) (Nat.le_of_ble_eq_true rfl) rfl ?_
      refine at_aload_n dX9_part_0 rfl ?_
      refine at_cv0 cvX9_87 sd_119 (ev_X9_fine) (by omega) ⟨Nat.le_refl _, Nat.le_refl _⟩ (Nat.le_of_ble_eq_true rfl) dX9_part_1 (pd_k1 ?_)
      rw [decide_eq_true h.2.2.1]
      refine at_ifne (tgt := 8) dX9_part_4 (by decide) (fun c4 => ?_) (fun c4 => ?_)
      · -- taken 4
        refine at_aload_n dX9_part_8 rfl ?_
        refine at_ldcS sw9_not rfl dX9_part_9 (fun hS9 => ?_)
        refine at_cv1 cvX9_91 sd_119 (ev_gz_isWord (c := 10) hR h (by decide) hS9) (by omega) ⟨Nat.le_refl _, Nat.le_refl _⟩ (Nat.le_of_ble_eq_true rfl) dX9_part_11 (pd_k1 ?_)
        rw [decide_eq_false h11]
        refine at_istore_n dX9_part_14 rfl (Nat.le_of_ble_eq_true rfl) ?_
        refine at_iload_n dX9_part_15 rfl ?_
        refine at_ifne (tgt := 107) dX9_part_16 (by decide) (fun c16 => ?_) (fun c16 => ?_)
        · -- taken 16
          exact absurd rfl c16
        · -- not taken 16
          refine at_aload_n dX9_part_19 rfl ?_
          refine at_cv0 cvX9_70 sd_119 (ev_gz_here hR h.here) (by omega) ⟨Nat.le_refl _, Nat.le_refl _⟩ (Nat.le_of_ble_eq_true rfl) dX9_part_20 (pd_k1 ?_)
          refine at_bipush dX9_part_23 pc_b40 ?_
          refine at_icmpeq (tgt := 107) dX9_part_25 (by decide) (fun c25 => ?_) (fun c25 => ?_)
          · -- taken 25
            exact absurd c25 hb
          · -- not taken 25
            refine at_aload_n dX9_part_28 rfl ?_
            refine at_cv0 cvX9_155 sd_119 (ev_gz_side1 hR g2 (by omega) hO) (by omega) ⟨Nat.le_refl _, Nat.le_refl _⟩ (Nat.le_of_ble_eq_true rfl) dX9_part_29 (pd_ke fun I2 L2 hq => ?_)
            obtain ⟨rfl, hF2, hZ2⟩ := hq
            refine at_aload_n dX9_part_32 rfl ?_
            refine at_cv0 cvX9_70 sd_119 (ev_gz_here hR hZ2) (by omega) ⟨Nat.le_refl _, Nat.le_refl _⟩ (Nat.le_of_ble_eq_true rfl) dX9_part_33 (pd_k1 ?_)
            rw [hv]
            refine at_istore_n dX9_part_36 rfl (Nat.le_of_ble_eq_true rfl) ?_
            refine at_iload_n dX9_part_37 rfl ?_
            refine at_bipush dX9_part_38 pc_b60 ?_
            refine at_icmpeq (tgt := 64) dX9_part_40 (by decide) (fun c40 => ?_) (fun c40 => ?_)
            · -- taken 40
              rw [show nI c = 60 ↔ c = 60 from nI_eq (b := 60) (by omega) (by decide)] at c40
              exact go _ (f2.tr hF2) hZ2
            · -- not taken 40
              rw [show nI c = 60 ↔ c = 60 from nI_eq (b := 60) (by omega) (by decide)] at c40
              refine at_iload_n dX9_part_43 rfl ?_
              refine at_bipush dX9_part_44 pc_b61 ?_
              refine at_icmpeq (tgt := 64) dX9_part_46 (by decide) (fun c46 => ?_) (fun c46 => ?_)
              · -- taken 46
                rw [show nI c = 61 ↔ c = 61 from nI_eq (b := 61) (by omega) (by decide)] at c46
                exact go _ (f2.tr hF2) hZ2
              · -- not taken 46
                rw [show nI c = 61 ↔ c = 61 from nI_eq (b := 61) (by omega) (by decide)] at c46
                refine at_iload_n dX9_part_49 rfl ?_
                refine at_bipush dX9_part_50 pc_b62 ?_
                refine at_icmpeq (tgt := 64) dX9_part_52 (by decide) (fun c52 => ?_) (fun c52 => ?_)
                · -- taken 52
                  rw [show nI c = 62 ↔ c = 62 from nI_eq (b := 62) (by omega) (by decide)] at c52
                  exact go _ (f2.tr hF2) hZ2
                · -- not taken 52
                  exact absurd ((nI_eq (b := 62) (by omega) (by decide)).mpr (show c = 62 by omega)) c52
      · -- not taken 4
        exact absurd c4 (by decide)
    · have hs' : ¬ (60 ≤ (tT B n).1 (i + 1) ∧ (tT B n).1 (i + 1) ≤ 62) := hs
      simp only [if_neg hs']
      have hv : ∀ c, 60 ≤ c → c ≤ 62 → ¬ fB B n (tq B n (i + 1)) = nI c := fun c q1 q2 q => by
        have := (sg_iff (B := B) (n := n) (q := tq B n (i + 1)) (c := c) (by omega) (by omega) (by omega) (by omega)).mp ((fB_eq h.1 (c := c) (by omega)).mp q)
        omega
      refine pd_ev 2 (lo := [some (.ref (pd_z G + 119)), none, none]) (by decide +kernel) (Nat.le_of_ble_eq_true rfl) rfl ?_
      refine at_aload_n dX9_part_0 rfl ?_
      refine at_cv0 cvX9_87 sd_119 (ev_X9_fine) (by omega) ⟨Nat.le_refl _, Nat.le_refl _⟩ (Nat.le_of_ble_eq_true rfl) dX9_part_1 (pd_k1 ?_)
      rw [decide_eq_true h.2.2.1]
      refine at_ifne (tgt := 8) dX9_part_4 (by decide) (fun c4 => ?_) (fun c4 => ?_)
      · -- taken 4
        refine at_aload_n dX9_part_8 rfl ?_
        refine at_ldcS sw9_not rfl dX9_part_9 (fun hS9 => ?_)
        refine at_cv1 cvX9_91 sd_119 (ev_gz_isWord (c := 10) hR h (by decide) hS9) (by omega) ⟨Nat.le_refl _, Nat.le_refl _⟩ (Nat.le_of_ble_eq_true rfl) dX9_part_11 (pd_k1 ?_)
        rw [decide_eq_false h11]
        refine at_istore_n dX9_part_14 rfl (Nat.le_of_ble_eq_true rfl) ?_
        refine at_iload_n dX9_part_15 rfl ?_
        refine at_ifne (tgt := 107) dX9_part_16 (by decide) (fun c16 => ?_) (fun c16 => ?_)
        · -- taken 16
          exact absurd rfl c16
        · -- not taken 16
          refine at_aload_n dX9_part_19 rfl ?_
          refine at_cv0 cvX9_70 sd_119 (ev_gz_here hR h.here) (by omega) ⟨Nat.le_refl _, Nat.le_refl _⟩ (Nat.le_of_ble_eq_true rfl) dX9_part_20 (pd_k1 ?_)
          refine at_bipush dX9_part_23 pc_b40 ?_
          refine at_icmpeq (tgt := 107) dX9_part_25 (by decide) (fun c25 => ?_) (fun c25 => ?_)
          · -- taken 25
            exact absurd c25 hb
          · -- not taken 25
            refine at_aload_n dX9_part_28 rfl ?_
            refine at_cv0 cvX9_155 sd_119 (ev_gz_side1 hR g2 (by omega) hO) (by omega) ⟨Nat.le_refl _, Nat.le_refl _⟩ (Nat.le_of_ble_eq_true rfl) dX9_part_29 (pd_ke fun I2 L2 hq => ?_)
            obtain ⟨rfl, hF2, hZ2⟩ := hq
            refine at_aload_n dX9_part_32 rfl ?_
            refine at_cv0 cvX9_70 sd_119 (ev_gz_here hR hZ2) (by omega) ⟨Nat.le_refl _, Nat.le_refl _⟩ (Nat.le_of_ble_eq_true rfl) dX9_part_33 (pd_k1 ?_)
            refine at_istore_n dX9_part_36 rfl (Nat.le_of_ble_eq_true rfl) ?_
            refine at_iload_n dX9_part_37 rfl ?_
            refine at_bipush dX9_part_38 pc_b60 ?_
            refine at_icmpeq (tgt := 64) dX9_part_40 (by decide) (fun c40 => ?_) (fun c40 => ?_)
            · -- taken 40
              exact absurd c40 (hv 60 (by decide) (by decide))
            · -- not taken 40
              refine at_iload_n dX9_part_43 rfl ?_
              refine at_bipush dX9_part_44 pc_b61 ?_
              refine at_icmpeq (tgt := 64) dX9_part_46 (by decide) (fun c46 => ?_) (fun c46 => ?_)
              · -- taken 46
                exact absurd c46 (hv 61 (by decide) (by decide))
              · -- not taken 46
                refine at_iload_n dX9_part_49 rfl ?_
                refine at_bipush dX9_part_50 pc_b62 ?_
                refine at_icmpeq (tgt := 64) dX9_part_52 (by decide) (fun c52 => ?_) (fun c52 => ?_)
                · -- taken 52
                  exact absurd c52 (hv 62 (by decide) (by decide))
                · -- not taken 52
                  refine at_aload_n dX9_part_55 rfl ?_
                  refine at_iconst dX9_part_56 pc_i1 ?_
                  refine at_aload_n dX9_part_57 rfl ?_
                  refine at_geti flX9_57 rfl sd_119 dX9_part_58 ?_
                  rw [pd_up_at]
                  refine at_cv2 cvX9_95 sd_119 (ev_X9_wrong0 (by rw [pd_up_nj (by decide)]; exact hZ2.2.2.1) _ _) (by omega) ⟨Nat.le_refl _, Nat.le_refl _⟩ (Nat.le_of_ble_eq_true rfl) dX9_part_61 (pd_k0 ?_)
                  exact tl_cmpF hR (by omega) ((((f2.tr hF2).up (by decide)).up (by decide)).up (by decide)) (hZ2.wr (p := tq B n (i + 1)) (c := 1) (q := tq B n (i + 1)) (tq_le _) (by decide)) _ _
      · -- not taken 4
        exact absurd c4 (by decide)
end PAR4
