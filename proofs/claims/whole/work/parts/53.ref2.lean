/-! ===== the reference: bytes fed, rows kept and taken back, sheets and lines ===== -/
theorem fd_by (x : Int32) {n : Nat} (hn : n ≤ 24) : (x >>> (nI n &&& 31)) &&& 255 = nI (x.toBitVec.toNat / 2 ^ n % 256) := by
  refine b_ext (fun i hi => ?_)
  rw [b_and, b_255, b_sshr n (by omega) x hi]
  have e : bt (nI (x.toBitVec.toNat / 2 ^ n % 256)) i = (x.toBitVec.toNat / 2 ^ n % 2 ^ 8).testBit i := by
    show (BitVec.ofNat 32 _).getLsbD i = _
    rw [BitVec.getLsbD_ofNat]; simp [hi]
  rw [e, Nat.testBit_mod_two_pow, Nat.testBit_div_two_pow]
  by_cases h : i < 8
  · rw [if_pos (by omega)]; simp [h, bt, BitVec.getLsbD, Nat.add_comm]
  · simp [h]
theorem inL_n (x : Int32) {n : Nat} (hn : n < 2 ^ 30) : inL x.toInt64 0 (nI n - 1).toInt64 = isN x n := by
  rw [show (0 : Int64) = (0 : Int32).toInt64 from by decide, inL_w]
  unfold inR isN
  congr 1
  refine decide_eq_decide.mpr ?_
  rw [fa_le, fa_lt, show (1 : Int32) = nI 1 from rfl, pk_sub_toInt hn (by decide), nI_toInt (by omega)]
  omega
/-- the tape and the rows behind, in the reference -/
def MP (I : Nat → Nat → Int32) (a : Nat) (ps : Nat → RW) : Prop := I 119 12 = nI a ∧ a ≤ 8 ∧ ∀ i, i < a → RQ I (125 + i) (ps i).1
def MT (I : Nat → Nat → Int32) (B : Nat → Nat) (t : Nat) : Prop := I 119 2 = nI t ∧ t ≤ 600 ∧ ∀ k, k < t → B k < 256 ∧ I 121 k = nI (B k)
section REF2
variable {G : pd_G} {I : Nat → Nat → Int32} {L : Nat → Nat → Int64} {R : Nat → Nat → Option Nat} {B : Nat → Nat} {t a : Nat} {ps : Nat → RW} {w : RW}
def FI (B : Nat → Nat) (t : Nat) (x0 x1 x2 x3 x4 : Int32) (I I' : Nat → Nat → Int32) (k : Nat) : Prop := (∀ x j, x ≠ 121 → ¬ (x = 119 ∧ j = 2) → I' x j = I x j) ∧ I' 119 2 = nI (t + k) ∧ ∀ j, I' 121 j = if t ≤ j ∧ j < t + k then nI (fdB B t x0 x1 x2 x3 x4 j) else I 121 j
theorem FI.step {x0 x1 x2 x3 x4 v : Int32} {I I' : Nat → Nat → Int32} {i : Nat} (h : FI B t x0 x1 x2 x3 x4 I I' i) (hi : i < 20) (hv : v = if i / 4 = 0 then x0 else if i / 4 = 1 then x1 else if i / 4 = 2 then x2 else if i / 4 = 3 then x3 else x4) : FI B t x0 x1 x2 x3 x4 I (pd_up (pd_up I' 121 (t + i) (nI (v.toBitVec.toNat / 2 ^ (24 - 8 * (i % 4)) % 256))) 119 2 (nI (t + i + 1))) (i + 1) := by
  refine ⟨fun x j h1 h2 => ?_, ?_, fun j => ?_⟩
  · have : pd_up (pd_up I' 121 (t + i) (nI (v.toBitVec.toNat / 2 ^ (24 - 8 * (i % 4)) % 256))) 119 2 (nI (t + i + 1)) x j = I' x j := by
      unfold pd_up; rw [if_neg h2, if_neg (by omega)]
    rw [this]; exact h.1 x j h1 h2
  · rw [pd_up_at]; rfl
  · rw [pd_up_nb (by decide)]
    by_cases hj : j = t + i
    · subst hj
      rw [pd_up_at, if_pos (by omega)]
      unfold fdB
      rw [if_pos (by omega), show t + i - t = i by omega, ← hv]; rfl
    · rw [pd_up_nj hj, h.2.2 j]
      by_cases q : t ≤ j ∧ j < t + i
      · rw [if_pos q, if_pos (by omega)]
      · rw [if_neg q, if_neg (by omega)]
theorem lp_X9_feed (hR : RS R) (ht : t + 20 ≤ 600) (x0 x1 x2 x3 x4 : Int32) : ∀ (k i : Nat) (I' : Nat → Nat → Int32), i + k = 20 → FI B t x0 x1 x2 x3 x4 I I' i → pd_At G mi_X9_feed 1 0 0 0 0 23 [some (.ref (pd_z G + 119)), some (.int x0), some (.int x1), some (.int x2), some (.int x3), some (.int x4), some (.int (nI i)), none] [] (SD, false, I', L, R) (pd_ri R fun v I2 L2 => L2 = L ∧ v = nI (t + 20) ∧ FI B t x0 x1 x2 x3 x4 I I2 20) := by
  intro k
  induction k with
  | zero =>
    intro i I' hi hI
    have e : i = 20 := by omega
    subst e
    refine at_iload dX9_feed_23 rfl ?_
    refine at_bipush dX9_feed_25 pc_b20 ?_
    refine at_icmpge (tgt := 120) dX9_feed_27 (by decide) (fun c27 => ?_) (fun c27 => ?_)
    · -- taken 27
      refine at_aload_n dX9_feed_120 rfl ?_
      refine at_geti flX9_51 rfl sd_119 dX9_feed_121 ?_
      refine at_iret rfl dX9_feed_124 ?_
      exact ⟨_, _, _, rfl, rfl, rfl, hI.2.1, hI⟩
    · -- not taken 27
      exact absurd (nI_le (a := 20) (Nat.le_refl _) (by decide)) c27
  | succ k ih =>
    intro i I' hi hI
    have body : ∀ v : Int32, (v = if i / 4 = 0 then x0 else if i / 4 = 1 then x1 else if i / 4 = 2 then x2 else if i / 4 = 3 then x3 else x4) → pd_At G mi_X9_feed 1 0 0 0 0 76 [some (.ref (pd_z G + 119)), some (.int x0), some (.int x1), some (.int x2), some (.int x3), some (.int x4), some (.int (nI i)), none] [.int v] (SD, false, I', L, R) (pd_ri R fun v I2 L2 => L2 = L ∧ v = nI (t + 20) ∧ FI B t x0 x1 x2 x3 x4 I I2 20) := by
      intro v hv
      refine at_istore dX9_feed_76 rfl (Nat.le_of_ble_eq_true rfl) ?_
      refine at_aload_n dX9_feed_78 rfl ?_
      refine at_getr (121) flX9_17 rfl sd_119 (rs_119_8 hR) dX9_feed_79 ?_
      refine at_aload_n dX9_feed_82 rfl ?_
      refine at_geti flX9_51 rfl sd_119 dX9_feed_83 ?_
      rw [hI.2.1]
      refine at_iload dX9_feed_86 rfl ?_
      refine at_bipush dX9_feed_88 pc_b24 ?_
      refine at_bipush dX9_feed_90 pc_b8 ?_
      refine at_iload dX9_feed_92 rfl ?_
      refine at_iconst dX9_feed_94 pc_i4 ?_
      refine at_irem dX9_feed_95 (by decide) ?_
      rw [show (4 : Int32) = nI 4 from rfl, pk_rem (by omega) (by decide) (by decide)]
      refine at_imul dX9_feed_96 ?_
      rw [show (8 : Int32) = nI 8 from rfl, pk_mul]
      refine at_isub dX9_feed_97 ?_
      rw [show (24 : Int32) = nI 24 from rfl, pk_sub (by omega)]
      refine at_ishr dX9_feed_98 ?_
      refine at_sipush dX9_feed_99 pc_s255 ?_
      refine at_iand dX9_feed_102 ?_
      rw [fd_by v (by omega)]
      refine at_iast sd_121 (vp_in_nI (by omega) (by decide)) dX9_feed_103 ?_
      refine at_aload_n dX9_feed_104 rfl ?_
      refine at_dup dX9_feed_105 rfl ?_
      refine at_geti flX9_51 rfl sd_119 dX9_feed_106 ?_
      rw [nI_clamp (by omega), pd_up_nb (by decide), hI.2.1]
      refine at_iconst dX9_feed_109 pc_i1 ?_
      refine at_iadd dX9_feed_110 ?_
      rw [nI_1]
      refine at_puti flX9_51 rfl sd_119 (fun _ _ _ hq => by cases hq; rfl) dX9_feed_111 ?_
      refine at_inc dX9_feed_114 rfl pc_i1 rfl (Nat.le_of_ble_eq_true rfl) ?_
      refine at_goto (tgt := 23) dX9_feed_117 (by decide) ?_
      refine at_drop 7 ?_
      rw [nI_1]
      exact ih (i + 1) _ (by omega) (hI.step (by omega) hv)
    refine at_iload dX9_feed_23 rfl ?_
    refine at_bipush dX9_feed_25 pc_b20 ?_
    refine at_icmpge (tgt := 120) dX9_feed_27 (by decide) (fun c27 => ?_) (fun c27 => ?_)
    · -- taken 27
      exact absurd c27 (nI_ge (b := 20) (by omega) (by decide))
    · -- not taken 27
      refine at_iload dX9_feed_30 rfl ?_
      refine at_iconst dX9_feed_32 pc_i4 ?_
      refine at_icmpge (tgt := 40) dX9_feed_33 (by decide) (fun c33 => ?_) (fun c33 => ?_)
      · -- taken 33
        rw [show (4 : Int32) = nI 4 from rfl, nI_leI (by decide) (by omega)] at c33
        refine at_iload dX9_feed_40 rfl ?_
        refine at_bipush dX9_feed_42 pc_b8 ?_
        refine at_icmpge (tgt := 51) dX9_feed_44 (by decide) (fun c44 => ?_) (fun c44 => ?_)
        · -- taken 44
          rw [show (8 : Int32) = nI 8 from rfl, nI_leI (by decide) (by omega)] at c44
          refine at_iload dX9_feed_51 rfl ?_
          refine at_bipush dX9_feed_53 pc_b12 ?_
          refine at_icmpge (tgt := 62) dX9_feed_55 (by decide) (fun c55 => ?_) (fun c55 => ?_)
          · -- taken 55
            rw [show (12 : Int32) = nI 12 from rfl, nI_leI (by decide) (by omega)] at c55
            refine at_iload dX9_feed_62 rfl ?_
            refine at_bipush dX9_feed_64 pc_b16 ?_
            refine at_icmpge (tgt := 74) dX9_feed_66 (by decide) (fun c66 => ?_) (fun c66 => ?_)
            · -- taken 66
              rw [show (16 : Int32) = nI 16 from rfl, nI_leI (by decide) (by omega)] at c66
              refine at_iload dX9_feed_74 rfl ?_
              refine body _ ?_
              first | (rw [show i / 4 = 0 by omega]; rfl) | (rw [show i / 4 = 1 by omega]; rfl) | (rw [show i / 4 = 2 by omega]; rfl) | (rw [show i / 4 = 3 by omega]; rfl) | (rw [show i / 4 = 4 by omega]; rfl)
            · -- not taken 66
              rw [show (16 : Int32) = nI 16 from rfl, nI_leI (by decide) (by omega)] at c66
              refine at_iload dX9_feed_69 rfl ?_
              refine at_goto (tgt := 76) dX9_feed_71 (by decide) ?_
              refine body _ ?_
              first | (rw [show i / 4 = 0 by omega]; rfl) | (rw [show i / 4 = 1 by omega]; rfl) | (rw [show i / 4 = 2 by omega]; rfl) | (rw [show i / 4 = 3 by omega]; rfl) | (rw [show i / 4 = 4 by omega]; rfl)
          · -- not taken 55
            rw [show (12 : Int32) = nI 12 from rfl, nI_leI (by decide) (by omega)] at c55
            refine at_iload_n dX9_feed_58 rfl ?_
            refine at_goto (tgt := 76) dX9_feed_59 (by decide) ?_
            refine body _ ?_
            first | (rw [show i / 4 = 0 by omega]; rfl) | (rw [show i / 4 = 1 by omega]; rfl) | (rw [show i / 4 = 2 by omega]; rfl) | (rw [show i / 4 = 3 by omega]; rfl) | (rw [show i / 4 = 4 by omega]; rfl)
        · -- not taken 44
          rw [show (8 : Int32) = nI 8 from rfl, nI_leI (by decide) (by omega)] at c44
          refine at_iload_n dX9_feed_47 rfl ?_
          refine at_goto (tgt := 76) dX9_feed_48 (by decide) ?_
          refine body _ ?_
          first | (rw [show i / 4 = 0 by omega]; rfl) | (rw [show i / 4 = 1 by omega]; rfl) | (rw [show i / 4 = 2 by omega]; rfl) | (rw [show i / 4 = 3 by omega]; rfl) | (rw [show i / 4 = 4 by omega]; rfl)
      · -- not taken 33
        rw [show (4 : Int32) = nI 4 from rfl, nI_leI (by decide) (by omega)] at c33
        refine at_iload_n dX9_feed_36 rfl ?_
        refine at_goto (tgt := 76) dX9_feed_37 (by decide) ?_
        refine body _ ?_
        first | (rw [show i / 4 = 0 by omega]; rfl) | (rw [show i / 4 = 1 by omega]; rfl) | (rw [show i / 4 = 2 by omega]; rfl) | (rw [show i / 4 = 3 by omega]; rfl) | (rw [show i / 4 = 4 by omega]; rfl)
theorem ev_X9_feed (hR : RS R) (h : MT I B t) (x0 x1 x2 x3 x4 : Int32) : pd_Ev G mi_X9_feed 1 0 0 [.ref (pd_z G + 119), .int x0, .int x1, .int x2, .int x3, .int x4] (SD, false, I, L, R) (pd_ri R fun v I' L' => L' = L ∧ v = (if t + 20 ≤ 600 then nI (t + 20) else -1) ∧ I' 119 0 = 0 ∧ (∀ x j, x ≠ 121 → ¬ (x = 119 ∧ (j = 0 ∨ j = 2)) → I' x j = I x j) ∧ MT I' (if t + 20 ≤ 600 then fdB B t x0 x1 x2 x3 x4 else B) (if t + 20 ≤ 600 then t + 20 else t)) := by
  obtain ⟨h1, h2, h3⟩ := h
  have ht : nI t + 20 = nI (t + 20) := nI_add t 20
  refine pd_ev 2 (lo := [some (.ref (pd_z G + 119)), some (.int x0), some (.int x1), some (.int x2), some (.int x3), some (.int x4), none, none]) (by decide +kernel) (Nat.le_of_ble_eq_true rfl) rfl ?_
  refine at_aload_n dX9_feed_0 rfl ?_
  refine at_iconst dX9_feed_1 pc_i0 ?_
  refine at_puti flX9_48 rfl sd_119 (fun _ _ _ hq => by cases hq; rfl) dX9_feed_2 ?_
  refine at_aload_n dX9_feed_5 rfl ?_
  refine at_geti flX9_51 rfl sd_119 dX9_feed_6 ?_
  refine at_bipush dX9_feed_9 pc_b20 ?_
  rw [pd_up_nj (by decide), h1]
  refine at_iadd dX9_feed_11 ?_
  refine at_sipush dX9_feed_12 pc_s600 ?_
  rw [ht]
  refine at_icmple (tgt := 20) dX9_feed_15 (by decide) (fun c15 => ?_) (fun c15 => ?_)
  · -- taken 15
    rw [show (600 : Int32) = nI 600 from rfl, nI_leI (by omega) (by decide)] at c15
    refine at_iconst dX9_feed_20 pc_i0 ?_
    refine at_istore dX9_feed_21 rfl (Nat.le_of_ble_eq_true rfl) ?_
    refine pd_At_mono (lp_X9_feed (B := B) hR c15 x0 x1 x2 x3 x4 20 0 _ (by omega) ⟨fun _ _ _ _ => rfl, by rw [pd_up_nj (by decide)]; exact h1, fun j => by rw [if_neg (by omega)]⟩) ?_
    rintro o M' ⟨v, I', L', rfl, rfl, rfl, rfl, hF⟩
    refine ⟨_, _, _, rfl, rfl, rfl, by rw [if_pos c15], by rw [hF.1 119 0 (by decide) (by decide)]; exact pd_up_at, fun x j q1 q2 => ?_, ?_, by rw [if_pos c15]; exact c15, fun k hk => ?_⟩
    · rw [hF.1 x j q1 (by omega)]; unfold pd_up; rw [if_neg (by omega)]
    · rw [if_pos c15]; exact hF.2.1
    · rw [if_pos c15] at hk ⊢
      rw [hF.2.2 k]
      by_cases q : t ≤ k
      · rw [if_pos ⟨q, hk⟩]
        refine ⟨?_, rfl⟩
        unfold fdB; rw [if_pos ⟨q, hk⟩]; exact byN_lt _ _
      · rw [if_neg (by omega), pd_up_nb (by decide)]
        have := h3 k (by omega)
        unfold fdB; rw [if_neg (by omega)]; exact this
  · -- not taken 15
    rw [show (600 : Int32) = nI 600 from rfl, nI_leI (by omega) (by decide)] at c15
    refine at_iconst dX9_feed_18 pc_im1 ?_
    refine at_iret rfl dX9_feed_19 ?_
    exact ⟨_, _, _, rfl, rfl, rfl, by rw [if_neg c15], pd_up_at, fun x j q1 q2 => by unfold pd_up; rw [if_neg (by omega)], by rw [pd_up_nj (by decide), if_neg c15]; exact h1, by rw [if_neg c15]; exact h2, fun k hk => by rw [if_neg c15] at hk ⊢; rw [pd_up_nb (by decide)]; exact h3 k hk⟩
theorem tl_X9_rem (hR : RS R) (ha : a < 8) (hb : I 119 12 = nI a) {v1 : Option Value} : pd_At G mi_X9_remembers 2 0 0 0 0 50 [some (.ref (pd_z G + 119)), v1] [] (SD, false, I, L, R) (pd_rv (SD, false, pd_up (pd_fw I (125 + a) (I 122) 1105) 119 12 (nI (a + 1)), L, R)) := by
  refine at_aload_n dX9_remembers_50 rfl ?_
  refine at_getr (122) flX9_20 rfl sd_119 (rs_119_9 hR) dX9_remembers_51 ?_
  refine at_aload_n dX9_remembers_54 rfl ?_
  refine at_getr (124) flX9_28 rfl sd_119 (rs_119_11 hR) dX9_remembers_55 ?_
  refine at_aload_n dX9_remembers_58 rfl ?_
  refine at_geti flX9_235 rfl sd_119 dX9_remembers_59 ?_
  rw [hb]
  refine at_aald2 (125 + a) sd_124 (vp_in_nI ha (by decide)) ((by rw [nI_clamp (by omega)]; exact rs_past hR ha)) dX9_remembers_62 ?_
  refine at_cs2 csX9_214 (ev_X9_copies sd_122 (sd_past ha) (by omega)) (by decide) ⟨Nat.le_refl _, Nat.le_refl _⟩ (Nat.le_of_ble_eq_true rfl) dX9_remembers_63 (pd_k0 ?_)
  refine at_aload_n dX9_remembers_66 rfl ?_
  refine at_dup dX9_remembers_67 rfl ?_
  refine at_geti flX9_235 rfl sd_119 dX9_remembers_68 ?_
  rw [pd_fw_nb (by omega), hb]
  refine at_iconst dX9_remembers_71 pc_i1 ?_
  refine at_iadd dX9_remembers_72 ?_
  rw [nI_1]
  refine at_puti flX9_235 rfl sd_119 (fun _ _ _ hq => by cases hq; rfl) dX9_remembers_73 ?_
  refine at_vret rfl dX9_remembers_76 ?_
  exact ⟨rfl, rfl⟩
/-- the rows moved down so far -/
def MV (I I' : Nat → Nat → Int32) (k : Nat) : Prop := (∀ x j, (x < 125 ∨ 132 < x) → I' x j = I x j) ∧ ∀ i j, i < 8 → I' (125 + i) j = if i + 1 < k ∧ j < 1105 then I (126 + i) j else I (125 + i) j
theorem lp_X9_rem (hR : RS R) {Q : pd_O → pd_M → Prop} (K : ∀ I2, MV I I2 8 → pd_At G mi_X9_remembers 2 0 0 0 0 40 [some (.ref (pd_z G + 119)), some (.int (nI 8))] [] (SD, false, I2, L, R) Q) : ∀ (k i : Nat) (I' : Nat → Nat → Int32), i + k = 8 → 1 ≤ i → MV I I' i → pd_At G mi_X9_remembers 2 0 0 0 0 11 [some (.ref (pd_z G + 119)), some (.int (nI i))] [] (SD, false, I', L, R) Q := by
  intro k
  induction k with
  | zero =>
    intro i I' hi h1 hI
    have e : i = 8 := by omega
    subst e
    refine at_iload_n dX9_remembers_11 rfl ?_
    refine at_bipush dX9_remembers_12 pc_b8 ?_
    refine at_icmpge (tgt := 40) dX9_remembers_14 (by decide) (fun c14 => ?_) (fun c14 => ?_)
    · -- taken 14
      exact K _ hI
    · -- not taken 14
      exact absurd (nI_le (a := 8) (Nat.le_refl _) (by decide)) c14
  | succ k ih =>
    intro i I' hi h1 hI
    obtain ⟨j, rfl⟩ : ∃ j, i = j + 1 := ⟨i - 1, by omega⟩
    have hj1 : j + 1 < 8 := by omega
    have hj : j < 8 := by omega
    refine at_iload_n dX9_remembers_11 rfl ?_
    refine at_bipush dX9_remembers_12 pc_b8 ?_
    refine at_icmpge (tgt := 40) dX9_remembers_14 (by decide) (fun c14 => ?_) (fun c14 => ?_)
    · -- taken 14
      exact absurd c14 (nI_ge (b := 8) (by omega) (by decide))
    · -- not taken 14
      refine at_aload_n dX9_remembers_17 rfl ?_
      refine at_getr (124) flX9_28 rfl sd_119 (rs_119_11 hR) dX9_remembers_18 ?_
      refine at_iload_n dX9_remembers_21 rfl ?_
      refine at_aald2 (125 + (j + 1)) sd_124 (vp_in_nI hj1 (by decide)) ((by rw [nI_clamp (by omega)]; exact rs_past hR hj1)) dX9_remembers_22 ?_
      refine at_aload_n dX9_remembers_23 rfl ?_
      refine at_getr (124) flX9_28 rfl sd_119 (rs_119_11 hR) dX9_remembers_24 ?_
      refine at_iload_n dX9_remembers_27 rfl ?_
      refine at_iconst dX9_remembers_28 pc_i1 ?_
      refine at_isub dX9_remembers_29 ?_
      rw [nI_pred]
      refine at_aald2 (125 + j) sd_124 (vp_in_nI hj (by decide)) ((by rw [nI_clamp (by omega)]; exact rs_past hR hj)) dX9_remembers_30 ?_
      refine at_cs2 csX9_214 (ev_X9_copies (sd_past hj1) (sd_past hj) (by omega)) (by decide) ⟨Nat.le_refl _, Nat.le_refl _⟩ (Nat.le_of_ble_eq_true rfl) dX9_remembers_31 (pd_k0 ?_)
      refine at_inc dX9_remembers_34 rfl pc_i1 rfl (Nat.le_of_ble_eq_true rfl) ?_
      refine at_goto (tgt := 11) dX9_remembers_37 (by decide) ?_
      rw [nI_1]
      refine ih (j + 1 + 1) _ (by omega) (by omega) ⟨fun x y hx => ?_, fun i y hi8 => ?_⟩
      · rw [pd_fw_nb (by omega)]; exact hI.1 x y hx
      · by_cases hq : i = j
        · subst hq
          by_cases hy : y < 1105
          · rw [pd_fw_at hy, hI.2 (i + 1) y hj1, if_neg (by omega), if_pos ⟨by omega, hy⟩, show 125 + (i + 1) = 126 + i by omega]
          · rw [if_neg (by omega)]
            have : pd_fw I' (125 + i) (I' (125 + (i + 1))) 1105 (125 + i) y = I' (125 + i) y := by unfold pd_fw; rw [if_neg (by omega)]
            rw [this, hI.2 i y hi8, if_neg (by omega)]
        · rw [pd_fw_nb (by omega), hI.2 i y hi8]
          by_cases h5 : i + 1 < j + 1 ∧ y < 1105
          · rw [if_pos h5, if_pos ⟨by omega, h5.2⟩]
          · rw [if_neg h5, if_neg (by omega)]
theorem ev_X9_rem (hR : RS R) (hP : MP I a ps) (hw : RQ I 122 w.1) : pd_Ev G mi_X9_remembers 2 0 0 [.ref (pd_z G + 119)] (SD, false, I, L, R) (pd_re R fun I' L' => L' = L ∧ MP I' (kA a) (kP a ps w) ∧ ∀ x j, (x < 125 ∨ 132 < x) → ¬ (x = 119 ∧ j = 12) → I' x j = I x j) := by
  obtain ⟨h1, h2, h3⟩ := hP
  refine pd_ev 1 (lo := [some (.ref (pd_z G + 119)), none]) (by decide +kernel) (Nat.le_of_ble_eq_true rfl) rfl ?_
  by_cases ha : a = 8
  · subst ha
    have key : ∀ I2, MV I I2 8 → pd_At G mi_X9_remembers 2 0 0 0 0 40 [some (.ref (pd_z G + 119)), some (.int (nI 8))] [] (SD, false, I2, L, R) (pd_re R fun I' L' => L' = L ∧ MP I' (kA 8) (kP 8 ps w) ∧ ∀ x j, (x < 125 ∨ 132 < x) → ¬ (x = 119 ∧ j = 12) → I' x j = I x j) := by
      intro I2 hV
      have hb2 : I2 119 12 = nI 8 := (hV.1 119 12 (by omega)).trans h1
      refine at_aload_n dX9_remembers_40 rfl ?_
      refine at_dup dX9_remembers_41 rfl ?_
      refine at_geti flX9_235 rfl sd_119 dX9_remembers_42 ?_
      rw [hb2]
      refine at_iconst dX9_remembers_45 pc_i1 ?_
      refine at_isub dX9_remembers_46 ?_
      rw [show nI 8 - 1 = nI 7 from nI_pred 7]
      refine at_puti flX9_235 rfl sd_119 (fun _ _ _ hq => by cases hq; rfl) dX9_remembers_47 ?_
      refine pd_At_mono (tl_X9_rem (a := 7) hR (by decide) pd_up_at) ?_
      rintro o M' ⟨rfl, rfl⟩
      refine ⟨rfl, _, _, rfl, rfl, ⟨pd_up_at, by decide, fun i hi k hk => ?_⟩, fun x j hx hn => ?_⟩
      · rw [pd_up_nb (by omega)]
        have hk8 : kP 8 ps w i = if i < 7 then ps (i + 1) else w := rfl
        rw [hk8]
        by_cases hi7 : i < 7
        · rw [if_pos hi7, pd_fw_nb (by omega), pd_up_nb (by omega), hV.2 i k (by omega), if_pos ⟨by omega, hk⟩, show 126 + i = 125 + (i + 1) by omega]
          exact h3 (i + 1) (by omega) k hk
        · have e7 : i = 7 := by simp [kA] at hi; omega
          subst e7
          rw [if_neg (by decide), pd_fw_at hk, pd_up_nb (by decide), hV.1 122 k (by omega)]
          exact hw k hk
      · have e1 : pd_up (pd_fw (pd_up I2 119 12 (nI 7)) (125 + 7) (pd_up I2 119 12 (nI 7) 122) 1105) 119 12 (nI (7 + 1)) x j = I2 x j := by
          rw [show pd_up (pd_fw (pd_up I2 119 12 (nI 7)) (125 + 7) (pd_up I2 119 12 (nI 7) 122) 1105) 119 12 (nI (7 + 1)) x j = pd_fw (pd_up I2 119 12 (nI 7)) (125 + 7) (pd_up I2 119 12 (nI 7) 122) 1105 x j from if_neg hn, pd_fw_nb (by omega)]
          exact if_neg hn
        rw [e1]; exact hV.1 x j hx
    refine at_aload_n dX9_remembers_0 rfl ?_
    refine at_geti flX9_235 rfl sd_119 dX9_remembers_1 ?_
    refine at_bipush dX9_remembers_4 pc_b8 ?_
    rw [h1]
    refine at_icmpne (tgt := 50) dX9_remembers_6 (by decide) (fun c6 => ?_) (fun c6 => ?_)
    · -- taken 6
      exact absurd rfl c6
    · -- not taken 6
      refine at_iconst dX9_remembers_9 pc_i1 ?_
      refine at_istore_n dX9_remembers_10 rfl (Nat.le_of_ble_eq_true rfl) ?_
      exact lp_X9_rem (I := I) hR key 7 1 I (by omega) (by omega) ⟨fun _ _ _ => rfl, fun i j _ => by rw [if_neg (by omega)]⟩
  · have ha8 : a < 8 := by omega
    refine at_aload_n dX9_remembers_0 rfl ?_
    refine at_geti flX9_235 rfl sd_119 dX9_remembers_1 ?_
    refine at_bipush dX9_remembers_4 pc_b8 ?_
    rw [h1]
    refine at_icmpne (tgt := 50) dX9_remembers_6 (by decide) (fun c6 => ?_) (fun c6 => ?_)
    · -- taken 6
      refine pd_At_mono (tl_X9_rem hR ha8 h1) ?_
      rintro o M' ⟨rfl, rfl⟩
      refine ⟨rfl, _, _, rfl, rfl, ⟨?_, ?_, fun i hi k hk => ?_⟩, fun x j hx hn => ?_⟩
      · rw [pd_up_at, kA, if_neg ha]
      · rw [kA, if_neg ha]; omega
      · rw [kA, if_neg ha] at hi
        rw [pd_up_nb (by omega)]
        have hkP : kP a ps w i = if i = a then w else ps i := by unfold kP; rw [if_neg ha]
        rw [hkP]
        by_cases hq : i = a
        · subst hq; rw [if_pos rfl, pd_fw_at hk]; exact hw k hk
        · rw [if_neg hq, pd_fw_nb (by omega)]; exact h3 i (by omega) k hk
      · rw [show pd_up (pd_fw I (125 + a) (I 122) 1105) 119 12 (nI (a + 1)) x j = pd_fw I (125 + a) (I 122) 1105 x j from if_neg hn, pd_fw_nb (by omega)]
    · -- not taken 6
      exact absurd ((nI_eq (b := 8) (by omega) (by decide)).mp c6) ha
theorem ev_X9_undo (hR : RS R) (hP : MP I a ps) (hw : RQ I 122 w.1) : pd_Ev G mi_X9_undo 2 0 0 [.ref (pd_z G + 119)] (SD, false, I, L, R) (pd_ri R fun v I' L' => L' = L ∧ v = (if a = 0 then -1 else nI (a - 1)) ∧ I' 119 0 = 0 ∧ RQ I' 122 (if a = 0 then w else ps (a - 1)).1 ∧ MP I' (a - 1) ps ∧ ∀ x j, x ≠ 122 → ¬ (x = 119 ∧ (j = 0 ∨ j = 12)) → I' x j = I x j) := by
  obtain ⟨h1, h2, h3⟩ := hP
  refine pd_ev 0 (lo := [some (.ref (pd_z G + 119))]) (by decide +kernel) (Nat.le_of_ble_eq_true rfl) rfl ?_
  by_cases ha : a = 0
  · subst ha
    refine at_aload_n dX9_undo_0 rfl ?_
    refine at_iconst dX9_undo_1 pc_i0 ?_
    refine at_puti flX9_48 rfl sd_119 (fun _ _ _ hq => by cases hq; rfl) dX9_undo_2 ?_
    refine at_aload_n dX9_undo_5 rfl ?_
    refine at_geti flX9_235 rfl sd_119 dX9_undo_6 ?_
    rw [pd_up_nj (by decide), h1]
    refine at_ifne (tgt := 14) dX9_undo_9 (by decide) (fun c9 => ?_) (fun c9 => ?_)
    · -- taken 9
      exact absurd rfl c9
    · -- not taken 9
      refine at_iconst dX9_undo_12 pc_im1 ?_
      refine at_iret rfl dX9_undo_13 ?_
      exact ⟨_, _, _, rfl, rfl, rfl, rfl, pd_up_at, fun k hk => by rw [pd_up_nb (by decide)]; exact hw k hk, ⟨by rw [pd_up_nj (by decide)]; exact h1, by decide, fun i hi => absurd hi (Nat.not_lt_zero _)⟩, fun x j q1 q2 => by unfold pd_up; rw [if_neg (by omega)]⟩
  · obtain ⟨b, rfl⟩ : ∃ b, a = b + 1 := ⟨a - 1, by omega⟩
    have hb8 : b < 8 := by omega
    refine at_aload_n dX9_undo_0 rfl ?_
    refine at_iconst dX9_undo_1 pc_i0 ?_
    refine at_puti flX9_48 rfl sd_119 (fun _ _ _ hq => by cases hq; rfl) dX9_undo_2 ?_
    refine at_aload_n dX9_undo_5 rfl ?_
    refine at_geti flX9_235 rfl sd_119 dX9_undo_6 ?_
    rw [pd_up_nj (by decide), h1]
    refine at_ifne (tgt := 14) dX9_undo_9 (by decide) (fun c9 => ?_) (fun c9 => ?_)
    · -- taken 9
      refine at_aload_n dX9_undo_14 rfl ?_
      refine at_dup dX9_undo_15 rfl ?_
      refine at_geti flX9_235 rfl sd_119 dX9_undo_16 ?_
      rw [pd_up_nj (by decide), h1]
      refine at_iconst dX9_undo_19 pc_i1 ?_
      refine at_isub dX9_undo_20 ?_
      rw [nI_pred]
      refine at_puti flX9_235 rfl sd_119 (fun _ _ _ hq => by cases hq; rfl) dX9_undo_21 ?_
      refine at_aload_n dX9_undo_24 rfl ?_
      refine at_getr (124) flX9_28 rfl sd_119 (rs_119_11 hR) dX9_undo_25 ?_
      refine at_aload_n dX9_undo_28 rfl ?_
      refine at_geti flX9_235 rfl sd_119 dX9_undo_29 ?_
      rw [pd_up_at]
      refine at_aald2 (125 + b) sd_124 (vp_in_nI hb8 (by decide)) ((by rw [nI_clamp (by omega)]; exact rs_past hR hb8)) dX9_undo_32 ?_
      refine at_aload_n dX9_undo_33 rfl ?_
      refine at_getr (122) flX9_20 rfl sd_119 (rs_119_9 hR) dX9_undo_34 ?_
      refine at_cs2 csX9_214 (ev_X9_copies (sd_past hb8) sd_122 (by omega)) (by decide) ⟨Nat.le_refl _, Nat.le_refl _⟩ (Nat.le_of_ble_eq_true rfl) dX9_undo_37 (pd_k0 ?_)
      refine at_aload_n dX9_undo_40 rfl ?_
      refine at_geti flX9_235 rfl sd_119 dX9_undo_41 ?_
      rw [pd_fw_nb (by decide), pd_up_at]
      refine at_iret rfl dX9_undo_44 ?_
      refine ⟨_, _, _, rfl, rfl, rfl, rfl, ?_, fun k hk => ?_, ⟨?_, by omega, fun i hi k hk => ?_⟩, fun x j q1 q2 => ?_⟩
      · rw [pd_fw_nb (by decide), pd_up_nj (by decide), pd_up_at]
      · rw [pd_fw_at hk, pd_up_nb (by omega), pd_up_nb (by omega), if_neg (by omega)]; exact h3 b (by omega) k hk
      · rw [pd_fw_nb (by decide), pd_up_at]; rfl
      · rw [pd_fw_nb (by omega), pd_up_nb (by omega), pd_up_nb (by omega)]; exact h3 i (by omega) k hk
      · rw [pd_fw_nb q1]; unfold pd_up; rw [if_neg (by omega), if_neg (by omega)]
    · -- not taken 9
      exact absurd c9 (nI_ne0 (by omega) (by omega))
variable {nv ns nl : Nat} {e : List rl_S} {r : Nat → Int32}
theorem ev_X9_isSheet (hR : RS R) (hq : RQ I 122 r) (hr : Row r nv ns nl e) (x : Int32) : pd_Ev G mi_X9_isSheet 2 0 0 [.ref (pd_z G + 119), .int x] (SD, false, I, L, R) (pd_rt (.int (i_of (isN x ns))) (SD, false, I, L, R)) := by
  have h8 := hr.2.1.2
  refine pd_ev 0 (lo := [some (.ref (pd_z G + 119)), some (.int x)]) (by decide +kernel) (Nat.le_of_ble_eq_true rfl) rfl ?_
  refine at_iload_n dX9_isSheet_0 rfl ?_
  refine at_i2l dX9_isSheet_1 ?_
  refine at_lconst dX9_isSheet_2 pc_l0 ?_
  refine at_aload_n dX9_isSheet_3 rfl ?_
  refine at_getr (122) flX9_20 rfl sd_119 (rs_119_9 hR) dX9_isSheet_4 ?_
  refine at_iconst dX9_isSheet_7 pc_i1 ?_
  refine at_iald sd_122 (vp_in_nI (n := 1) (by decide) (by decide)) dX9_isSheet_8 ?_
  rw [show I 122 (1 : Int32).toNatClampNeg = nI ns from (hq 1 (by decide)).trans hr.2.1.1]
  refine at_iconst dX9_isSheet_9 pc_i1 ?_
  refine at_isub dX9_isSheet_10 ?_
  refine at_i2l dX9_isSheet_11 ?_
  refine at_cs3 csX9_107 (ev_X9_in _ _ _) (by decide) ⟨Nat.le_refl _, Nat.le_refl _⟩ (Nat.le_of_ble_eq_true rfl) dX9_isSheet_12 (pd_k1 ?_)
  rw [inL_n x (by omega)]
  refine at_zret rfl dX9_isSheet_15 (by cases isN x ns <;> first | exact Or.inl rfl | exact Or.inr rfl) ?_
  exact ⟨rfl, rfl⟩
theorem ev_X9_isVoter (hR : RS R) (hq : RQ I 122 r) (hr : Row r nv ns nl e) (x : Int32) : pd_Ev G mi_X9_isVoter 2 0 0 [.ref (pd_z G + 119), .int x] (SD, false, I, L, R) (pd_rt (.int (i_of (isN x nv))) (SD, false, I, L, R)) := by
  have h8 := hr.1.2
  refine pd_ev 0 (lo := [some (.ref (pd_z G + 119)), some (.int x)]) (by decide +kernel) (Nat.le_of_ble_eq_true rfl) rfl ?_
  refine at_iload_n dX9_isVoter_0 rfl ?_
  refine at_i2l dX9_isVoter_1 ?_
  refine at_lconst dX9_isVoter_2 pc_l0 ?_
  refine at_aload_n dX9_isVoter_3 rfl ?_
  refine at_getr (122) flX9_20 rfl sd_119 (rs_119_9 hR) dX9_isVoter_4 ?_
  refine at_iconst dX9_isVoter_7 pc_i0 ?_
  refine at_iald sd_122 (vp_in_nI (n := 0) (by decide) (by decide)) dX9_isVoter_8 ?_
  rw [show I 122 (0 : Int32).toNatClampNeg = nI nv from (hq 0 (by decide)).trans hr.1.1]
  refine at_iconst dX9_isVoter_9 pc_i1 ?_
  refine at_isub dX9_isVoter_10 ?_
  refine at_i2l dX9_isVoter_11 ?_
  refine at_cs3 csX9_107 (ev_X9_in _ _ _) (by decide) ⟨Nat.le_refl _, Nat.le_refl _⟩ (Nat.le_of_ble_eq_true rfl) dX9_isVoter_12 (pd_k1 ?_)
  rw [inL_n x (by omega)]
  refine at_zret rfl dX9_isVoter_15 (by cases isN x nv <;> first | exact Or.inl rfl | exact Or.inr rfl) ?_
  exact ⟨rfl, rfl⟩
end REF2
