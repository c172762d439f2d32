/-! ===== the reference: a text ===== -/
theorem tkK_0 {B : Nat → Nat} {n q : Nat} : tkK B n q = 0 ↔ n ≤ q := by
  unfold tkK
  constructor
  · intro h
    refine Nat.not_lt.mp (fun hq => ?_)
    rw [if_neg (by omega)] at h
    have := (kwF_17 B n q).1
    repeat' split at h
    all_goals omega
  · intro h; rw [if_pos h]
/-- what a text leaves in the reference -/
def TQ (I : Nat → Nat → Int32) (L : Nat → Nat → Int64) (res : RW ⊕ (Nat × Nat)) (w : RW) (a : Nat) (ps : Nat → RW) (I' : Nat → Nat → Int32) (L' : Nat → Nat → Int64) : Prop := L' = L ∧ RQ I' 122 (txW res w).1 ∧ MP I' (txA res a) (txP res a ps w) ∧ I' 119 2 = 0 ∧ I' 119 5 = txF res ∧ ∀ x j, x ≠ 119 → x ≠ 122 → x ≠ 123 → (x < 125 ∨ 132 < x) → I' x j = I x j
section PAR8
variable {G : pd_G} {I : Nat → Nat → Int32} {L : Nat → Nat → Int64} {R : Nat → Nat → Option Nat} {B : Nat → Nat} {n t a : Nat} {w : RW} {ps : Nat → RW}
theorem lp_X9_text (hR : RS R) {N f : Nat} (hT : TOK (tT B n) N) (hn : n ≤ 600) {I1 : Nat → Nat → Int32} {x : Int32} {res : RW ⊕ (Nat × Nat)} {Q : pd_O → pd_M → Prop} (K1 : ∀ I2 m2 w2 i2, FO I1 I2 → LZ I2 B n m2 w2 i2 → LI m2 w2 → res = .inl w2 → pd_At G mi_X9_text 30 0 0 0 0 104 [some (.ref (pd_z G + 119)), some (.int x)] [] (SD, false, I2, L, R) Q) (K0 : ∀ I2 z, FO I1 I2 → FZ I2 B n 3 z → res = .inr z → pd_At G mi_X9_text 30 0 0 0 0 104 [some (.ref (pd_z G + 119)), some (.int x)] [] (SD, false, I2, L, R) Q) : ∀ (g i m : Nat) (w' : RW) (I' : Nat → Nat → Int32), i ≤ N → LZ I' B n m w' i → LI m w' → FO I1 I' → pText (tT B n) f g i m w' = some res → pd_At G mi_X9_text 30 0 0 0 0 82 [some (.ref (pd_z G + 119)), some (.int x)] [] (SD, false, I', L, R) Q := by
  intro g
  induction g with
  | zero => intro i m w' I' _ _ _ _ h; cases h
  | succ g ih =>
    intro i m w' I' hi hZ hJ hF h
    rw [pText] at h
    have hkd : (tT B n).1 i = tkK B n (tq B n i) := rfl
    rw [hkd] at h
    by_cases h0 : tkK B n (tq B n i) = 0
    · rw [if_pos h0] at h
      have e1 : fB B n (tq B n i) = -1 := if_neg (by have := tkK_0.mp h0; omega)
      have hl : LZ (pd_up I' 119 4 (nI (tq B n i))) B n m w' i := ⟨hZ.1.here, by rw [pd_up_nj (by decide)]; exact hZ.2⟩
      refine at_aload_n dX9_text_82 rfl ?_
      refine at_cv0 cvX9_87 sd_119 (ev_X9_fine) (by decide) ⟨Nat.le_refl _, Nat.le_refl _⟩ (Nat.le_of_ble_eq_true rfl) dX9_text_83 (pd_k1 ?_)
      rw [decide_eq_true hZ.1.2.2.1]
      refine at_ifeq (tgt := 104) dX9_text_86 (by decide) (fun c86 => ?_) (fun c86 => ?_)
      · -- taken 86
        exact absurd c86 (by decide)
      · -- not taken 86
        refine at_aload_n dX9_text_89 rfl ?_
        refine at_cv0 cvX9_70 sd_119 (ev_gz_here hR hZ.1) (by decide) ⟨Nat.le_refl _, Nat.le_refl _⟩ (Nat.le_of_ble_eq_true rfl) dX9_text_90 (pd_k1 ?_)
        rw [e1]
        refine at_iconst dX9_text_93 pc_im1 ?_
        refine at_icmpeq (tgt := 104) dX9_text_94 (by decide) (fun c94 => ?_) (fun c94 => ?_)
        · -- taken 94
          exact K1 _ m w' i (hF.up (by decide)) hl hJ (by cases h; rfl)
        · -- not taken 94
          exact absurd rfl c94
    · rw [if_neg h0] at h
      have hq : tq B n i < n := Nat.not_le.mp (fun q => h0 (tkK_0.mpr q))
      have e1 : ¬ fB B n (tq B n i) = -1 := by rw [fB, if_pos hq]; exact nI_nm1 (by have := (hZ.1.1.2.2 _ hq).1; omega)
      have h15 : pd_up I' 119 4 (nI (tq B n i)) 119 15 = nI (m / 16) := by rw [pd_up_nj (by decide)]; exact hZ.2
      cases hL : pLine (tT B n) f i m w' with
      | none => rw [hL] at h; cases h
      | some y =>
        rw [hL] at h
        obtain ⟨r', nv', ns', nl', e'⟩ := w'
        have hrec := ev_readsLine (G := G) (L := L) hR hT hn hi hZ.1.here h15 hJ hL
        cases y with
        | inr z =>
          refine at_aload_n dX9_text_82 rfl ?_
          refine at_cv0 cvX9_87 sd_119 (ev_X9_fine) (by decide) ⟨Nat.le_refl _, Nat.le_refl _⟩ (Nat.le_of_ble_eq_true rfl) dX9_text_83 (pd_k1 ?_)
          rw [decide_eq_true hZ.1.2.2.1]
          refine at_ifeq (tgt := 104) dX9_text_86 (by decide) (fun c86 => ?_) (fun c86 => ?_)
          · -- taken 86
            exact absurd c86 (by decide)
          · -- not taken 86
            refine at_aload_n dX9_text_89 rfl ?_
            refine at_cv0 cvX9_70 sd_119 (ev_gz_here hR hZ.1) (by decide) ⟨Nat.le_refl _, Nat.le_refl _⟩ (Nat.le_of_ble_eq_true rfl) dX9_text_90 (pd_k1 ?_)
            refine at_iconst dX9_text_93 pc_im1 ?_
            refine at_icmpeq (tgt := 104) dX9_text_94 (by decide) (fun c94 => ?_) (fun c94 => ?_)
            · -- taken 94
              exact absurd c94 e1
            · -- not taken 94
              refine at_aload_n dX9_text_97 rfl ?_
              refine at_cv0 cvX9_208 sd_119 (hrec) (by decide) ⟨Nat.le_refl _, Nat.le_refl _⟩ (Nat.le_of_ble_eq_true rfl) dX9_text_98 (pd_ke fun I2 L2 hq2 => ?_)
              obtain ⟨rfl, hF2, hZ2⟩ := hq2
              replace hZ2 : FZ I2 B n 3 z := hZ2
              refine at_goto (tgt := 82) dX9_text_101 (by decide) ?_
              refine at_aload_n dX9_text_82 rfl ?_
              refine at_cv0 cvX9_87 sd_119 ev_X9_fine (by decide) ⟨Nat.le_refl _, Nat.le_refl _⟩ (Nat.le_of_ble_eq_true rfl) dX9_text_83 (pd_k1 ?_)
              rw [decide_eq_false hZ2.nf]
              refine at_ifeq (tgt := 104) dX9_text_86 (by decide) (fun c86 => ?_) (fun c86 => absurd rfl c86)
              exact K0 _ z ((hF.up (by decide)).tr hF2) hZ2 (by cases h; rfl)
        | inl z =>
          obtain ⟨b1, b2, b3⟩ := pLine_ok hT hi hJ hL
          refine at_aload_n dX9_text_82 rfl ?_
          refine at_cv0 cvX9_87 sd_119 (ev_X9_fine) (by decide) ⟨Nat.le_refl _, Nat.le_refl _⟩ (Nat.le_of_ble_eq_true rfl) dX9_text_83 (pd_k1 ?_)
          rw [decide_eq_true hZ.1.2.2.1]
          refine at_ifeq (tgt := 104) dX9_text_86 (by decide) (fun c86 => ?_) (fun c86 => ?_)
          · -- taken 86
            exact absurd c86 (by decide)
          · -- not taken 86
            refine at_aload_n dX9_text_89 rfl ?_
            refine at_cv0 cvX9_70 sd_119 (ev_gz_here hR hZ.1) (by decide) ⟨Nat.le_refl _, Nat.le_refl _⟩ (Nat.le_of_ble_eq_true rfl) dX9_text_90 (pd_k1 ?_)
            refine at_iconst dX9_text_93 pc_im1 ?_
            refine at_icmpeq (tgt := 104) dX9_text_94 (by decide) (fun c94 => ?_) (fun c94 => ?_)
            · -- taken 94
              exact absurd c94 e1
            · -- not taken 94
              refine at_aload_n dX9_text_97 rfl ?_
              refine at_cv0 cvX9_208 sd_119 (hrec) (by decide) ⟨Nat.le_refl _, Nat.le_refl _⟩ (Nat.le_of_ble_eq_true rfl) dX9_text_98 (pd_ke fun I2 L2 hq2 => ?_)
              obtain ⟨rfl, hF2, hZ2⟩ := hq2
              replace hZ2 : LZ I2 B n z.2.1 z.2.2 z.1 := hZ2
              refine at_goto (tgt := 82) dX9_text_101 (by decide) ?_
              exact ih z.1 z.2.1 z.2.2 I2 b2 hZ2 b3 ((hF.up (by decide)).tr hF2) h
theorem ev_X9_text (hR : RS R) (hq : RQ I 122 w.1) (hP : MP I a ps) (hM : MT I B t) (x : Int32) : pd_Ev G mi_X9_text 30 0 0 [.ref (pd_z G + 119), .int x] (SD, false, I, L, R) (m_x I L R (j1 9 (inR x 0 (nI t))) 8 (.int (txV (rdT B x.toNatClampNeg))) (.int 0) (TQ I L (rdT B x.toNatClampNeg) w a ps)) := by
  obtain ⟨m1, m2, m3⟩ := hM
  refine pd_ev 0 (lo := [some (.ref (pd_z G + 119)), some (.int x)]) (by decide +kernel) (Nat.le_of_ble_eq_true rfl) rfl ?_
  have go : ∀ n, n ≤ t → j1 9 (inR (nI n) 0 (nI t)) = 0 → pd_At G mi_X9_text 30 0 0 0 0 82 [some (.ref (pd_z G + 119)), some (.int (nI n))] [] (SD, false, pd_fw (pd_up (pd_up (pd_up (pd_up (pd_up (pd_up (pd_up (pd_up (pd_up I 119 0 0) 119 2 0) 119 3 (nI n)) 119 4 0) 119 6 0) 119 7 (-1)) 119 13 0) 119 14 0) 119 15 0) 123 r00 1105, L, R) (m_x I L R (j1 9 (inR (nI n) 0 (nI t))) 8 (.int (txV (rdT B n))) (.int 0) (TQ I L (rdT B n) w a ps)) := by
    intro n hnt hj
    have hn : n ≤ 600 := by omega
    obtain ⟨c, c1, c2, c3⟩ := tq_end B n
    have hT := tT_ok hn c2 c3 c1
    have hrd := rdT_eq hT
    obtain ⟨I1, hI1⟩ : ∃ I1, I1 = pd_fw (pd_up (pd_up (pd_up (pd_up (pd_up (pd_up (pd_up (pd_up (pd_up I 119 0 0) 119 2 0) 119 3 (nI n)) 119 4 0) 119 6 0) 119 7 (-1)) 119 13 0) 119 14 0) 119 15 0) 123 r00 1105 := ⟨_, rfl⟩
    rw [← hI1]
    have f0 : I1 119 0 = 0 := by rw [hI1, pd_fw_nb (by decide)]; simp [pd_up]
    have f2 : I1 119 2 = 0 := by rw [hI1, pd_fw_nb (by decide)]; simp [pd_up]
    have f12 : I1 119 12 = I 119 12 := by rw [hI1, pd_fw_nb (by decide)]; simp [pd_up]
    have fo : ∀ x j, x ≠ 119 → x ≠ 123 → I1 x j = I x j := fun x j h1 h2 => by rw [hI1, pd_fw_nb h2]; simp [pd_up, h1]
    have hZ0 : LZ I1 B n 0 w00 0 := by
      refine ⟨⟨⟨?_, hn, fun k hk => ⟨(m3 k (by omega)).1, ?_⟩⟩, ⟨0, ?_, Nat.zero_le _, rfl⟩, ?_, ?_, ?_, ?_, ?_⟩, ?_⟩
      · rw [hI1, pd_fw_nb (by decide)]; simp [pd_up]
      · rw [fo 121 k (by decide) (by decide)]; exact (m3 k (by omega)).2
      · rw [hI1, pd_fw_nb (by decide)]; simp [pd_up]; rfl
      · rw [hI1, pd_fw_nb (by decide)]; simp [pd_up]
      · rw [hI1, pd_fw_nb (by decide)]; simp [pd_up]; rfl
      · rw [hI1, pd_fw_nb (by decide)]; simp [pd_up]; rfl
      · rw [hI1]
        show RQ _ 123 (ckR r00 [])
        rw [ckR_nil]; exact pd_fw_row
      · rw [hI1, pd_fw_nb (by decide)]; simp [pd_up]
      · rw [hI1, pd_fw_nb (by decide)]; simp [pd_up]; rfl
    have q1 : ∀ I2, FO I1 I2 → RQ I2 122 w.1 := fun I2 hF k hk => by rw [hF.1 122 k (by decide) (by decide), fo 122 k (by decide) (by decide)]; exact hq k hk
    have p1 : ∀ I2, FO I1 I2 → MP I2 a ps := fun I2 hF => hP.fr (by rw [hF.2 12 (by decide) (by decide) (by decide) (by decide) (by decide) (by decide), f12]) (fun x j h1 h2 => by rw [hF.1 x j (by omega) (by omega), fo x j (by omega) (by omega)])
    refine lp_X9_text hR hT hn ?_ ?_ 700 0 0 w00 I1 (Nat.zero_le _) hZ0 LI.w00 FO.rf hrd
    · intro I2 m2' w2 i2 hF hZ hJ hres
      rw [hres]
      have hse := ckR_self hJ.1
      have q2 : RQ I2 123 w2.1 := by have := hZ.1.2.2.2.2.2.1; rwa [hse] at this
      have h7 := hZ.1.2.2.2.2.2.2
      refine at_aload_n dX9_text_104 rfl ?_
      refine at_aload_n dX9_text_105 rfl ?_
      refine at_geti flX9_67 rfl sd_119 dX9_text_106 ?_
      rw [h7]
      refine at_puti flX9_13 rfl sd_119 (fun _ _ _ hq => by cases hq; rfl) dX9_text_109 ?_
      refine at_aload_n dX9_text_112 rfl ?_
      refine at_cv0 cvX9_87 sd_119 (ev_X9_fine) (by decide) ⟨Nat.le_refl _, Nat.le_refl _⟩ (Nat.le_of_ble_eq_true rfl) dX9_text_113 (pd_k1 ?_)
      rw [decide_eq_true (by rw [pd_up_nj (by decide)]; exact hZ.1.2.2.1)]
      refine at_ifne (tgt := 127) dX9_text_116 (by decide) (fun c116 => ?_) (fun c116 => ?_)
      · -- taken 116
        refine at_aload_n dX9_text_127 rfl ?_
        refine at_cv0 cvX9_211 sd_119 (ev_X9_rem (w := w) (a := a) (ps := ps) hR ((p1 I2 hF).fr (pd_up_nj (by decide)) (fun x j h1 h2 => pd_up_nb (by omega))) (fun k hk => by rw [pd_up_nb (by decide)]; exact q1 I2 hF k hk)) (by decide) ⟨Nat.le_refl _, Nat.le_refl _⟩ (Nat.le_of_ble_eq_true rfl) dX9_text_128 (pd_ke fun I3 L3 hq3 => ?_)
        obtain ⟨rfl, hP3, hM3⟩ := hq3
        have q3 : RQ I3 123 w2.1 := fun k hk => by rw [hM3 123 k (by omega) (by omega), pd_up_nb (by decide)]; exact q2 k hk
        refine at_aload_n dX9_text_131 rfl ?_
        refine at_getr (123) flX9_23 rfl sd_119 (rs_119_10 hR) dX9_text_132 ?_
        refine at_aload_n dX9_text_135 rfl ?_
        refine at_getr (122) flX9_20 rfl sd_119 (rs_119_9 hR) dX9_text_136 ?_
        refine at_cs2 csX9_214 (ev_X9_copies sd_123 sd_122 (by decide)) (by decide) ⟨Nat.le_refl _, Nat.le_refl _⟩ (Nat.le_of_ble_eq_true rfl) dX9_text_139 (pd_k0 ?_)
        refine at_aload_n dX9_text_142 rfl ?_
        refine at_cv0 cvX9_218 sd_119 (ev_X9_lines hR (r := w2.1) (n := w2.2.2.2.1) (fun k hk => by rw [pd_fw_at hk]; exact q3 k hk) hJ.1.2.2.1.1) (by decide) ⟨Nat.le_refl _, Nat.le_refl _⟩ (Nat.le_of_ble_eq_true rfl) dX9_text_143 (pd_k1 ?_)
        refine at_iret rfl dX9_text_146 ?_
        refine m_yes hj rfl ?_ ⟨rfl, fun k hk => ?_, hP3.fr (pd_fw_nb (by decide)) (fun x j h1 h2 => pd_fw_nb (by omega)), ?_, ?_, fun x j h1 h2 h3 h4 => ?_⟩
        · rw [pd_fw_nb (by decide), hM3 119 0 (by omega) (by omega), pd_up_nj (by decide), hF.2 0 (by decide) (by decide) (by decide) (by decide) (by decide) (by decide)]; exact f0
        · rw [pd_fw_at hk]; exact q3 k hk
        · rw [pd_fw_nb (by decide), hM3 119 2 (by omega) (by omega), pd_up_nj (by decide), hF.2 2 (by decide) (by decide) (by decide) (by decide) (by decide) (by decide)]; exact f2
        · rw [pd_fw_nb (by decide), hM3 119 5 (by omega) (by omega), pd_up_at]; rfl
        · rw [pd_fw_nb h2, hM3 x j h4 (by omega), pd_up_nb h1, hF.1 x j h1 h3, fo x j h1 h3]
      · -- not taken 116
        exact absurd c116 (by decide)
    · intro I2 z hF hZ hres
      rw [hres]
      refine at_aload_n dX9_text_104 rfl ?_
      refine at_aload_n dX9_text_105 rfl ?_
      refine at_geti flX9_67 rfl sd_119 dX9_text_106 ?_
      rw [hZ.2.2.2.2]
      refine at_puti flX9_13 rfl sd_119 (fun _ _ _ hq => by cases hq; rfl) dX9_text_109 ?_
      refine at_aload_n dX9_text_112 rfl ?_
      refine at_cv0 cvX9_87 sd_119 (ev_X9_fine) (by decide) ⟨Nat.le_refl _, Nat.le_refl _⟩ (Nat.le_of_ble_eq_true rfl) dX9_text_113 (pd_k1 ?_)
      rw [decide_eq_false (by rw [pd_up_nj (by decide)]; exact hZ.nf)]
      refine at_ifne (tgt := 127) dX9_text_116 (by decide) (fun c116 => ?_) (fun c116 => ?_)
      · -- taken 116
        exact absurd rfl c116
      · -- not taken 116
        refine at_aload_n dX9_text_119 rfl ?_
        refine at_geti flX9_64 rfl sd_119 dX9_text_120 ?_
        rw [pd_up_nj (by decide), hZ.2.2.1]
        refine at_bipush dX9_text_123 pc_b10 ?_
        refine at_isub dX9_text_125 ?_
        refine at_iret rfl dX9_text_126 ?_
        refine m_yes hj rfl ?_ ⟨rfl, fun k hk => ?_, (p1 I2 hF).fr (pd_up_nj (by decide)) (fun x j h1 h2 => pd_up_nb (by omega)), ?_, ?_, fun x j h1 h2 h3 h4 => ?_⟩
        · rw [pd_up_nj (by decide), hF.2 0 (by decide) (by decide) (by decide) (by decide) (by decide) (by decide)]; exact f0
        · rw [pd_up_nb (by decide)]; exact q1 I2 hF k hk
        · rw [pd_up_nj (by decide), hF.2 2 (by decide) (by decide) (by decide) (by decide) (by decide) (by decide)]; exact f2
        · rw [pd_up_at]; rfl
        · rw [pd_up_nb h1, hF.1 x j h1 h3, fo x j h1 h3]
  refine at_aload_n dX9_text_0 rfl ?_
  refine at_iconst dX9_text_1 pc_i0 ?_
  refine at_puti flX9_48 rfl sd_119 (fun _ _ _ hq => by cases hq; rfl) dX9_text_2 ?_
  refine at_aload_n dX9_text_5 rfl ?_
  refine at_iload_n dX9_text_6 rfl ?_
  refine at_i2l dX9_text_7 ?_
  refine at_lconst dX9_text_8 pc_l0 ?_
  refine at_aload_n dX9_text_9 rfl ?_
  refine at_geti flX9_51 rfl sd_119 dX9_text_10 ?_
  rw [pd_up_nj (by decide), m1]
  refine at_i2l dX9_text_13 ?_
  refine at_cs3 csX9_107 (ev_X9_in _ _ _) (by decide) ⟨Nat.le_refl _, Nat.le_refl _⟩ (Nat.le_of_ble_eq_true rfl) dX9_text_14 (pd_k1 ?_)
  rw [inL_c x 0 (nI t) (by decide) rfl]
  refine at_ifne (tgt := 24) dX9_text_17 (by decide) (fun c17 => ?_) (fun c17 => ?_)
  · -- taken 17
    have k17 := i_of1.mp c17
    refine at_iconst dX9_text_24 pc_i0 ?_
    refine at_iconst dX9_text_25 pc_i1 ?_
    refine at_iconst dX9_text_26 pc_i1 ?_
    refine at_cv3 cvX9_204 sd_119 (ev_X9_bad0 hR (pd_up_at) _ _) (by decide) ⟨Nat.le_refl _, Nat.le_refl _⟩ (Nat.le_of_ble_eq_true rfl) dX9_text_27 (pd_k1 ?_)
    refine at_ifeq (tgt := 35) dX9_text_30 (by decide) (fun c30 => ?_) (fun c30 => ?_)
    · -- taken 30
      refine at_aload_n dX9_text_35 rfl ?_
      refine at_iconst dX9_text_36 pc_i0 ?_
      refine at_puti flX9_51 rfl sd_119 (fun _ _ _ hq => by cases hq; rfl) dX9_text_37 ?_
      refine at_aload_n dX9_text_40 rfl ?_
      refine at_iload_n dX9_text_41 rfl ?_
      refine at_puti flX9_54 rfl sd_119 (fun _ _ _ hq => by cases hq; rfl) dX9_text_42 ?_
      refine at_aload_n dX9_text_45 rfl ?_
      refine at_iconst dX9_text_46 pc_i0 ?_
      refine at_puti flX9_57 rfl sd_119 (fun _ _ _ hq => by cases hq; rfl) dX9_text_47 ?_
      refine at_aload_n dX9_text_50 rfl ?_
      refine at_iconst dX9_text_51 pc_i0 ?_
      refine at_puti flX9_64 rfl sd_119 (fun _ _ _ hq => by cases hq; rfl) dX9_text_52 ?_
      refine at_aload_n dX9_text_55 rfl ?_
      refine at_iconst dX9_text_56 pc_im1 ?_
      refine at_puti flX9_67 rfl sd_119 (fun _ _ _ hq => by cases hq; rfl) dX9_text_57 ?_
      refine at_aload_n dX9_text_60 rfl ?_
      refine at_iconst dX9_text_61 pc_i0 ?_
      refine at_puti flX9_127 rfl sd_119 (fun _ _ _ hq => by cases hq; rfl) dX9_text_62 ?_
      refine at_aload_n dX9_text_65 rfl ?_
      refine at_iconst dX9_text_66 pc_i0 ?_
      refine at_puti flX9_158 rfl sd_119 (fun _ _ _ hq => by cases hq; rfl) dX9_text_67 ?_
      refine at_aload_n dX9_text_70 rfl ?_
      refine at_iconst dX9_text_71 pc_i0 ?_
      refine at_puti flX9_177 rfl sd_119 (fun _ _ _ hq => by cases hq; rfl) dX9_text_72 ?_
      refine at_aload_n dX9_text_75 rfl ?_
      refine at_getr (123) flX9_23 rfl sd_119 (rs_119_10 hR) dX9_text_76 ?_
      refine at_cs1 csX9_44 (ev_X9_begins sd_123) (by decide) ⟨Nat.le_refl _, Nat.le_refl _⟩ (Nat.le_of_ble_eq_true rfl) dX9_text_79 (pd_k0 ?_)
      obtain ⟨n, hnt, rfl⟩ := inR_of (n := t) (by omega) k17
      rw [nI_clamp (n := n) (by omega)]
      exact go n hnt (by rw [k17]; rfl)
    · -- not taken 30
      exact absurd rfl c30
  · -- not taken 17
    have k17 := i_of0.mp c17
    refine at_iconst dX9_text_20 pc_i1 ?_
    refine at_goto (tgt := 25) dX9_text_21 (by decide) ?_
    refine at_iconst dX9_text_25 pc_i1 ?_
    refine at_iconst dX9_text_26 pc_i1 ?_
    refine at_cv3 cvX9_204 sd_119 (ev_X9_bad1 hR (pd_up_at) (c := 1) (y := 1) ⟨by decide, by decide⟩ (by decide)) (by decide) ⟨Nat.le_refl _, Nat.le_refl _⟩ (Nat.le_of_ble_eq_true rfl) dX9_text_27 (pd_k1 ?_)
    refine at_ifeq (tgt := 35) dX9_text_30 (by decide) (fun c30 => ?_) (fun c30 => ?_)
    · -- taken 30
      exact absurd c30 (by decide)
    · -- not taken 30
      refine at_iconst dX9_text_33 pc_i0 ?_
      refine at_iret rfl dX9_text_34 ?_
      exact m_rf 1 (by rw [k17]; rfl) rfl
end PAR8
