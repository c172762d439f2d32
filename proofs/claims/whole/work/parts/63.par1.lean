/-! ===== the reference reads: bytes, words, numbers, names ===== -/
/-- small letters, as many as may be -/
def WL (w : List Nat) : Prop := w ≠ [] ∧ w.length ≤ 10 ∧ ∀ c ∈ w, 97 ≤ c ∧ c ≤ 122
theorem pd_up_same {f : Nat → Nat → Int32} {a k : Nat} {v : Int32} (h : f a k = v) : pd_up f a k v = f := by
  funext b j
  unfold pd_up
  by_cases hb : b = a ∧ j = k
  · rw [if_pos hb, hb.1, hb.2, h]
  · rw [if_neg hb]
theorem sc_nI : ∀ c, c < 128 → sc_c (nI c) = nI c := by decide +kernel
/-- the text's bytes and how many, in the reference -/
def PX (I : Nat → Nat → Int32) (B : Nat → Nat) (n : Nat) : Prop := I 119 3 = nI n ∧ n ≤ 600 ∧ ∀ k, k < n → B k < 256 ∧ I 121 k = nI (B k)
theorem PX.fr {I I' : Nat → Nat → Int32} {B : Nat → Nat} {n : Nat} (h : PX I B n) (h1 : I' 119 3 = I 119 3) (h2 : ∀ j, I' 121 j = I 121 j) : PX I' B n := ⟨h1.trans h.1, h.2.1, fun k hk => ⟨(h.2.2 k hk).1, (h2 k).trans (h.2.2 k hk).2⟩⟩
theorem PX.up {I : Nat → Nat → Int32} {B : Nat → Nat} {n j : Nat} {v : Int32} (h : PX I B n) (hj : j ≠ 3) : PX (pd_up I 119 j v) B n := h.fr (pd_up_nj (Ne.symm hj)) (fun _ => pd_up_nb (by decide))
theorem PX.up2 {I : Nat → Nat → Int32} {B : Nat → Nat} {n j : Nat} {v : Int32} (h : PX I B n) : PX (pd_up I 123 j v) B n := h.fr (pd_up_nb (by decide)) (fun _ => pd_up_nb (by decide))
def fB (B : Nat → Nat) (n k : Nat) : Int32 := if k < n then nI (B k) else -1
section BY
variable {I : Nat → Nat → Int32} {B : Nat → Nat} {n : Nat}
theorem fB_in (h : PX I B n) (k : Nat) {l m : Nat} (hl : l < 256) (hm : m < 256) : inR (fB B n k) (nI l) (nI m) = (decide (k < n) && (decide (l ≤ B k) && decide (B k ≤ m))) := by
  unfold fB
  by_cases hk : k < n
  · have hb := (h.2.2 k hk).1
    rw [if_pos hk]
    by_cases h1 : l ≤ B k
    · by_cases h2 : B k ≤ m
      · simp [inR, nI_le h1 (show B k < 2 ^ 31 by omega), nI_le h2 (by omega), hk, h1, h2]
      · have : ¬ nI (B k) ≤ nI m := nI_ge (by omega) (by omega)
        simp [inR, this, h2]
    · have : ¬ nI l ≤ nI (B k) := fun q => by
        have := (nI_leI (a := l) (b := B k) (by omega) (by omega)).mp q
        omega
      simp [inR, this, h1]
  · rw [if_neg hk]
    have : ¬ nI l ≤ -1 := fun q => by
      rw [fa_le, nI_toInt (by omega)] at q
      have : (-1 : Int32).toInt = -1 := by decide
      omega
    simp [inR, this, hk]
theorem fB_L (h : PX I B n) (k : Nat) : inR (fB B n k) 97 122 = isL B n k := by
  exact fB_in h k (l := 97) (m := 122) (by decide) (by decide)
theorem fB_D (h : PX I B n) (k : Nat) : inR (fB B n k) 48 57 = isD B n k := fB_in h k (l := 48) (m := 57) (by decide) (by decide)
theorem fB_eq (h : PX I B n) {k c : Nat} (hc : c < 256) : fB B n k = nI c ↔ k < n ∧ B k = c := by
  unfold fB
  by_cases hk : k < n
  · have hb := (h.2.2 k hk).1
    rw [if_pos hk, nI_eq (by omega) (by omega)]
    exact ⟨fun q => ⟨hk, q⟩, fun q => q.2⟩
  · rw [if_neg hk]
    exact ⟨fun q => absurd q.symm (nI_nm1 (by omega)), fun q => absurd q.1 hk⟩
end BY
section PAR
variable {G : pd_G} {I : Nat → Nat → Int32} {L : Nat → Nat → Int64} {R : Nat → Nat → Option Nat} {B : Nat → Nat} {n : Nat}
theorem ev_X9_byteAt (hR : RS R) (h : PX I B n) {k : Nat} (hk : k < 2 ^ 31) : pd_Ev G mi_X9_byteAt 1 0 0 [.ref (pd_z G + 119), .int (nI k)] (SD, false, I, L, R) (pd_rt (.int (fB B n k)) (SD, false, I, L, R)) := by
  have hn := h.2.1
  refine pd_ev 0 (lo := [some (.ref (pd_z G + 119)), some (.int (nI k))]) (by decide +kernel) (Nat.le_of_ble_eq_true rfl) rfl ?_
  refine at_iload_n dX9_byteAt_0 rfl ?_
  refine at_aload_n dX9_byteAt_1 rfl ?_
  refine at_geti flX9_54 rfl sd_119 dX9_byteAt_2 ?_
  rw [h.1]
  refine at_icmplt (tgt := 12) dX9_byteAt_5 (by decide) (fun c5 => ?_) (fun c5 => ?_)
  · -- taken 5
    rw [nI_ltI hk (by omega)] at c5
    refine at_aload_n dX9_byteAt_12 rfl ?_
    refine at_getr (121) flX9_17 rfl sd_119 (rs_119_8 hR) dX9_byteAt_13 ?_
    refine at_iload_n dX9_byteAt_16 rfl ?_
    refine at_iald sd_121 (vp_in_nI (by omega) (by decide)) dX9_byteAt_17 ?_
    try rw [nI_clamp (by omega), (h.2.2 k c5).2]
    refine at_iret rfl dX9_byteAt_18 ?_
    refine ⟨?_, rfl⟩
    unfold fB
    first | (rw [if_pos c5]; done) | (rw [if_neg c5]; done)
  · -- not taken 5
    rw [nI_ltI hk (by omega)] at c5
    refine at_iconst dX9_byteAt_8 pc_im1 ?_
    refine at_goto (tgt := 18) dX9_byteAt_9 (by decide) ?_
    try rw [nI_clamp (by omega), (h.2.2 k c5).2]
    refine at_iret rfl dX9_byteAt_18 ?_
    refine ⟨?_, rfl⟩
    unfold fB
    first | (rw [if_pos c5]; done) | (rw [if_neg c5]; done)
theorem lp_X9_here (hR : RS R) (h : PX I B n) : ∀ (k p : Nat), n - p = k → p < 2 ^ 30 → pd_At G mi_X9_here 2 0 0 0 0 0 [some (.ref (pd_z G + 119))] [] (SD, false, pd_up I 119 4 (nI p), L, R) (pd_rt (.int (fB B n (sk B n p))) (SD, false, pd_up I 119 4 (nI (sk B n p)), L, R)) := by
  have hn := h.2.1
  intro k
  induction k with
  | zero =>
    intro p hp hp2
    have e1 : sk B n p = p := sk_at (isB_n (by omega))
    have e2 : fB B n p = -1 := if_neg (by omega)
    rw [e1]
    refine at_aload_n dX9_here_0 rfl ?_
    refine at_aload_n dX9_here_1 rfl ?_
    refine at_geti flX9_57 rfl sd_119 dX9_here_2 ?_
    rw [pd_up_at]
    refine at_cv1 cvX9_60 sd_119 (ev_X9_byteAt hR (h.up (by decide)) (k := p) (by omega)) (by decide) ⟨Nat.le_refl _, Nat.le_refl _⟩ (Nat.le_of_ble_eq_true rfl) dX9_here_5 (pd_k1 ?_)
    rw [e2]
    refine at_bipush dX9_here_8 pc_b32 ?_
    refine at_icmpne (tgt := 26) dX9_here_10 (by decide) (fun c10 => ?_) (fun c10 => ?_)
    · -- taken 10
      refine at_aload_n dX9_here_26 rfl ?_
      refine at_aload_n dX9_here_27 rfl ?_
      refine at_geti flX9_57 rfl sd_119 dX9_here_28 ?_
      rw [pd_up_at]
      refine at_cv1 cvX9_60 sd_119 (ev_X9_byteAt hR (h.up (by decide)) (k := p) (by omega)) (by decide) ⟨Nat.le_refl _, Nat.le_refl _⟩ (Nat.le_of_ble_eq_true rfl) dX9_here_31 (pd_k1 ?_)
      refine at_iret rfl dX9_here_34 ?_
      exact ⟨by rw [e2], rfl⟩
    · -- not taken 10
      exact absurd c10 (by decide)
  | succ k ih =>
    intro p hp hp2
    have key := fB_eq h (k := p) (c := 32) (by decide)
    have h32 : (32 : Int32) = nI 32 := rfl
    by_cases hb : isB B n p = true
    · have e1 : sk B n p = sk B n (p + 1) := rnE_yes (by omega) hb
      have e2 : fB B n p = nI 32 := key.mpr (isB_b hb)
      rw [e1]
      refine at_aload_n dX9_here_0 rfl ?_
      refine at_aload_n dX9_here_1 rfl ?_
      refine at_geti flX9_57 rfl sd_119 dX9_here_2 ?_
      rw [pd_up_at]
      refine at_cv1 cvX9_60 sd_119 (ev_X9_byteAt hR (h.up (by decide)) (k := p) (by omega)) (by decide) ⟨Nat.le_refl _, Nat.le_refl _⟩ (Nat.le_of_ble_eq_true rfl) dX9_here_5 (pd_k1 ?_)
      rw [e2]
      refine at_bipush dX9_here_8 pc_b32 ?_
      refine at_icmpne (tgt := 26) dX9_here_10 (by decide) (fun c10 => ?_) (fun c10 => ?_)
      · -- taken 10
        exact absurd rfl c10
      · -- not taken 10
        refine at_aload_n dX9_here_13 rfl ?_
        refine at_dup dX9_here_14 rfl ?_
        refine at_geti flX9_57 rfl sd_119 dX9_here_15 ?_
        rw [pd_up_at]
        refine at_iconst dX9_here_18 pc_i1 ?_
        refine at_iadd dX9_here_19 ?_
        rw [nI_1]
        refine at_puti flX9_57 rfl sd_119 (fun _ _ _ hq => by cases hq; rfl) dX9_here_20 ?_
        refine at_goto (tgt := 0) dX9_here_23 (by decide) ?_
        rw [pd_up_up]
        exact ih (p + 1) (by omega) (by omega)
    · have hb0 : isB B n p = false := by simpa using hb
      have e1 : sk B n p = p := sk_at hb0
      have e2 : ¬ fB B n p = 32 := fun q => by
        have := key.mp q
        simp [isB, this.1, this.2] at hb0
      rw [e1]
      refine at_aload_n dX9_here_0 rfl ?_
      refine at_aload_n dX9_here_1 rfl ?_
      refine at_geti flX9_57 rfl sd_119 dX9_here_2 ?_
      rw [pd_up_at]
      refine at_cv1 cvX9_60 sd_119 (ev_X9_byteAt hR (h.up (by decide)) (k := p) (by omega)) (by decide) ⟨Nat.le_refl _, Nat.le_refl _⟩ (Nat.le_of_ble_eq_true rfl) dX9_here_5 (pd_k1 ?_)
      refine at_bipush dX9_here_8 pc_b32 ?_
      refine at_icmpne (tgt := 26) dX9_here_10 (by decide) (fun c10 => ?_) (fun c10 => ?_)
      · -- taken 10
        refine at_aload_n dX9_here_26 rfl ?_
        refine at_aload_n dX9_here_27 rfl ?_
        refine at_geti flX9_57 rfl sd_119 dX9_here_28 ?_
        rw [pd_up_at]
        refine at_cv1 cvX9_60 sd_119 (ev_X9_byteAt hR (h.up (by decide)) (k := p) (by omega)) (by decide) ⟨Nat.le_refl _, Nat.le_refl _⟩ (Nat.le_of_ble_eq_true rfl) dX9_here_31 (pd_k1 ?_)
        refine at_iret rfl dX9_here_34 ?_
        exact ⟨rfl, rfl⟩
      · -- not taken 10
        exact absurd c10 e2
theorem ev_X9_here (hR : RS R) (h : PX I B n) {p : Nat} (hp : I 119 4 = nI p) (hp2 : p < 2 ^ 30) : pd_Ev G mi_X9_here 2 0 0 [.ref (pd_z G + 119)] (SD, false, I, L, R) (pd_rt (.int (fB B n (sk B n p))) (SD, false, pd_up I 119 4 (nI (sk B n p)), L, R)) := by
  have h9 := lp_X9_here (G := G) (L := L) hR h (n - p) p rfl hp2
  rw [pd_up_same hp] at h9
  refine pd_ev 0 (lo := [some (.ref (pd_z G + 119))]) (by decide +kernel) (Nat.le_of_ble_eq_true rfl) rfl ?_
  exact h9
theorem lp_X9_isWord (hR : RS R) (h : PX I B n) {q a : Nat} {w : List Nat} (hq : q ≤ 700) (hw : WL w) (hS : SI G a (w.map nI)) (hat : I 119 4 = nI q) : ∀ (rest : List Nat) (k : Nat), k + rest.length = w.length → w.drop k = rest → isW B n q w = isW B n (q + k) rest → pd_At G mi_X9_isWord 5 0 0 0 0 7 [some (.ref (pd_z G + 119)), some (.ref a), some (.int (nI k))] [] (SD, false, I, L, R) (pd_rt (.int (i_of (isW B n q w))) (SD, false, I, L, R)) := by
  have hlen : (w.map nI).length = w.length := List.length_map ..
  have hw2 := hw.2.1
  intro rest
  induction rest with
  | nil =>
    intro k hk hd he
    have e0 : k = w.length := by simpa using hk
    rw [he]
    refine at_iload_n dX9_isWord_7 rfl ?_
    refine at_aload_n dX9_isWord_8 rfl ?_
    refine at_callT (As := []) cb_J0_length_8abf5 mlX9_74 im_J0_length_8abf5 se_J0_length_8abf5 rfl rfl hS (ev_J0_length hS) (by decide) ⟨Nat.le_of_ble_eq_true rfl, Nat.le_of_ble_eq_true rfl⟩ (Nat.le_of_ble_eq_true rfl) dX9_isWord_9 (pd_k1 ?_)
    rw [hlen, ← e0]
    refine at_icmpge (tgt := 39) dX9_isWord_12 (by decide) (fun c12 => ?_) (fun c12 => ?_)
    · -- taken 12
      refine at_iload_n dX9_isWord_39 rfl ?_
      refine at_aload_n dX9_isWord_40 rfl ?_
      refine at_callT (As := []) cb_J0_length_8abf5 mlX9_74 im_J0_length_8abf5 se_J0_length_8abf5 rfl rfl hS (ev_J0_length hS) (by decide) ⟨Nat.le_of_ble_eq_true rfl, Nat.le_of_ble_eq_true rfl⟩ (Nat.le_of_ble_eq_true rfl) dX9_isWord_41 (pd_k1 ?_)
      rw [hlen, ← e0]
      refine at_icmpne (tgt := 67) dX9_isWord_44 (by decide) (fun c44 => ?_) (fun c44 => ?_)
      · -- taken 44
        exact absurd rfl c44
      · -- not taken 44
        refine at_aload_n dX9_isWord_47 rfl ?_
        refine at_aload_n dX9_isWord_48 rfl ?_
        refine at_geti flX9_57 rfl sd_119 dX9_isWord_49 ?_
        refine at_iload_n dX9_isWord_52 rfl ?_
        refine at_iadd dX9_isWord_53 ?_
        rw [hat, nI_add]
        refine at_cv1 cvX9_60 sd_119 (ev_X9_byteAt hR h (by omega)) (by decide) ⟨Nat.le_refl _, Nat.le_refl _⟩ (Nat.le_of_ble_eq_true rfl) dX9_isWord_54 (pd_k1 ?_)
        refine at_cs1 csX9_83 (ev_X9_isSmall _) (by decide) ⟨Nat.le_refl _, Nat.le_refl _⟩ (Nat.le_of_ble_eq_true rfl) dX9_isWord_57 (pd_k1 ?_)
        rw [fB_L h]
        refine at_ifne (tgt := 67) dX9_isWord_60 (by decide) (fun c60 => ?_) (fun c60 => ?_)
        · -- taken 60
          have k60 := i_of1.mp c60
          refine at_iconst dX9_isWord_67 pc_i0 ?_
          refine at_zret rfl dX9_isWord_68 (by first | exact Or.inl rfl | exact Or.inr rfl | assumption) ?_
          refine ⟨?_, rfl⟩
          rw [isW, k60]; rfl
        · -- not taken 60
          have k60 := i_of0.mp c60
          refine at_iconst dX9_isWord_63 pc_i1 ?_
          refine at_goto (tgt := 68) dX9_isWord_64 (by decide) ?_
          refine at_zret rfl dX9_isWord_68 (by first | exact Or.inl rfl | exact Or.inr rfl | assumption) ?_
          refine ⟨?_, rfl⟩
          rw [isW, k60]; rfl
    · -- not taken 12
      exact absurd (nI_le (Nat.le_refl _) (by omega)) c12
  | cons c rest ih =>
    intro k hk hd he
    have hkl : k < w.length := by simp at hk; omega
    have hd2 : w.drop (k + 1) = rest := by rw [← List.tail_drop, hd]; rfl
    have hgc : w.getD k 0 = c := by
      have := List.drop_eq_getElem_cons hkl
      rw [hd] at this
      rw [List.getD_eq_getElem?_getD, List.getElem?_eq_getElem hkl]
      exact (List.cons.inj this).1.symm
    have hcw : 97 ≤ c ∧ c ≤ 122 := by
      refine hw.2.2 c ?_
      rw [← hgc, List.getD_eq_getElem?_getD, List.getElem?_eq_getElem hkl]
      exact List.getElem_mem hkl
    have hmc : (w.map nI).getD k 0 = nI c := by
      rw [List.getD_eq_getElem?_getD, List.getElem?_map, List.getElem?_eq_getElem hkl]
      rw [List.getD_eq_getElem?_getD, List.getElem?_eq_getElem hkl] at hgc
      show nI _ = nI c
      congr 1
    have key := fB_eq h (k := q + k) (c := c) (by omega)
    refine at_iload_n dX9_isWord_7 rfl ?_
    refine at_aload_n dX9_isWord_8 rfl ?_
    refine at_callT (As := []) cb_J0_length_8abf5 mlX9_74 im_J0_length_8abf5 se_J0_length_8abf5 rfl rfl hS (ev_J0_length hS) (by decide) ⟨Nat.le_of_ble_eq_true rfl, Nat.le_of_ble_eq_true rfl⟩ (Nat.le_of_ble_eq_true rfl) dX9_isWord_9 (pd_k1 ?_)
    rw [hlen]
    refine at_icmpge (tgt := 39) dX9_isWord_12 (by decide) (fun c12 => ?_) (fun c12 => ?_)
    · -- taken 12
      exact absurd c12 (nI_ge (by omega) (by omega))
    · -- not taken 12
      refine at_aload_n dX9_isWord_15 rfl ?_
      refine at_aload_n dX9_isWord_16 rfl ?_
      refine at_geti flX9_57 rfl sd_119 dX9_isWord_17 ?_
      refine at_iload_n dX9_isWord_20 rfl ?_
      refine at_iadd dX9_isWord_21 ?_
      rw [hat, nI_add]
      refine at_cv1 cvX9_60 sd_119 (ev_X9_byteAt hR h (by omega)) (by decide) ⟨Nat.le_refl _, Nat.le_refl _⟩ (Nat.le_of_ble_eq_true rfl) dX9_isWord_22 (pd_k1 ?_)
      refine at_aload_n dX9_isWord_25 rfl ?_
      refine at_iload_n dX9_isWord_26 rfl ?_
      refine at_callT (As := [.int (nI k)]) cb_J0_charAt_5068e mlX9_79 im_J0_charAt_5068e se_J0_charAt_5068e rfl rfl hS (ev_J0_charAt hS (i := k) (by rw [hlen]; exact hkl)) (by decide) ⟨Nat.le_of_ble_eq_true rfl, Nat.le_of_ble_eq_true rfl⟩ (Nat.le_of_ble_eq_true rfl) dX9_isWord_27 (pd_k1 ?_)
      rw [hmc, sc_nI c (by omega)]
      refine at_icmpne (tgt := 39) dX9_isWord_30 (by decide) (fun c30 => ?_) (fun c30 => ?_)
      · -- taken 30
        rw [key] at c30
        refine at_iload_n dX9_isWord_39 rfl ?_
        refine at_aload_n dX9_isWord_40 rfl ?_
        refine at_callT (As := []) cb_J0_length_8abf5 mlX9_74 im_J0_length_8abf5 se_J0_length_8abf5 rfl rfl hS (ev_J0_length hS) (by decide) ⟨Nat.le_of_ble_eq_true rfl, Nat.le_of_ble_eq_true rfl⟩ (Nat.le_of_ble_eq_true rfl) dX9_isWord_41 (pd_k1 ?_)
        rw [hlen]
        refine at_icmpne (tgt := 67) dX9_isWord_44 (by decide) (fun c44 => ?_) (fun c44 => ?_)
        · -- taken 44
          refine at_iconst dX9_isWord_67 pc_i0 ?_
          refine at_zret rfl dX9_isWord_68 (by first | exact Or.inl rfl | exact Or.inr rfl | assumption) ?_
          refine ⟨?_, rfl⟩
          rw [he, isW]
          rcases Nat.lt_or_ge (q + k) n with z | z
          · have z2 : ¬ B (q + k) = c := fun z3 => c30 ⟨z, z3⟩
            simp [z2]; rfl
          · have z2 : ¬ q + k < n := by omega
            simp [z2]; rfl
        · -- not taken 44
          exact absurd ((nI_eq (by omega) (by omega)).mp c44) (by omega)
      · -- not taken 30
        rw [key] at c30
        refine at_inc dX9_isWord_33 rfl pc_i1 rfl (Nat.le_of_ble_eq_true rfl) ?_
        refine at_goto (tgt := 7) dX9_isWord_36 (by decide) ?_
        rw [nI_1]
        refine ih (k + 1) (by simp at hk; omega) hd2 ?_
        rw [he, isW, decide_eq_true c30.1, decide_eq_true c30.2, Bool.true_and, Bool.true_and, Nat.add_assoc]
theorem ev_X9_isWord (hR : RS R) (h : PX I B n) {p a : Nat} {w : List Nat} (hat : I 119 4 = nI p) (hp : p ≤ 700) (hw : WL w) (hS : SI G a (w.map nI)) : pd_Ev G mi_X9_isWord 5 0 0 [.ref (pd_z G + 119), .ref a] (SD, false, I, L, R) (pd_rt (.int (i_of (isW B n (sk B n p) w))) (SD, false, pd_up I 119 4 (nI (sk B n p)), L, R)) := by
  have hq : sk B n p ≤ 700 := by
    rcases Nat.lt_or_ge n p with z | z
    · rw [sk_at (isB_n (by omega))]; exact hp
    · have := sk_le (B := B) z; have := h.2.1; omega
  refine pd_ev 1 (lo := [some (.ref (pd_z G + 119)), some (.ref a), none]) (by decide +kernel) (Nat.le_of_ble_eq_true rfl) rfl ?_
  refine at_aload_n dX9_isWord_0 rfl ?_
  refine at_cv0 cvX9_70 sd_119 (ev_X9_here hR h hat (by omega)) (by decide) ⟨Nat.le_refl _, Nat.le_refl _⟩ (Nat.le_of_ble_eq_true rfl) dX9_isWord_1 (pd_k1 ?_)
  refine at_pop dX9_isWord_4 rfl ?_
  refine at_iconst dX9_isWord_5 pc_i0 ?_
  refine at_istore_n dX9_isWord_6 rfl (Nat.le_of_ble_eq_true rfl) ?_
  exact lp_X9_isWord hR (h.up (by decide)) hq hw hS pd_up_at w 0 (by omega) rfl rfl
theorem ev_X9_takes (hR : RS R) (h : PX I B n) {p a : Nat} {w : List Nat} (hat : I 119 4 = nI p) (hp : p ≤ 700) (hf : I 119 6 = 0) (hw : WL w) (hS : SI G a (w.map nI)) : pd_Ev G mi_X9_takes 6 0 0 [.ref (pd_z G + 119), .ref a] (SD, false, I, L, R) (pd_rt (.int (i_of (isW B n (sk B n p) w))) (SD, false, pd_up I 119 4 (nI (if isW B n (sk B n p) w then sk B n p + w.length else sk B n p)), L, R)) := by
  have hlen : (w.map nI).length = w.length := List.length_map ..
  refine pd_ev 0 (lo := [some (.ref (pd_z G + 119)), some (.ref a)]) (by decide +kernel) (Nat.le_of_ble_eq_true rfl) rfl ?_
  refine at_aload_n dX9_takes_0 rfl ?_
  refine at_cv0 cvX9_87 sd_119 (ev_X9_fine) (by decide) ⟨Nat.le_refl _, Nat.le_refl _⟩ (Nat.le_of_ble_eq_true rfl) dX9_takes_1 (pd_k1 ?_)
  rw [decide_eq_true hf]
  refine at_ifeq (tgt := 15) dX9_takes_4 (by decide) (fun c4 => ?_) (fun c4 => ?_)
  · -- taken 4
    exact absurd c4 (by decide)
  · -- not taken 4
    refine at_aload_n dX9_takes_7 rfl ?_
    refine at_aload_n dX9_takes_8 rfl ?_
    refine at_cv1 cvX9_91 sd_119 (ev_X9_isWord hR h hat hp hw hS) (by decide) ⟨Nat.le_refl _, Nat.le_refl _⟩ (Nat.le_of_ble_eq_true rfl) dX9_takes_9 (pd_k1 ?_)
    refine at_ifne (tgt := 17) dX9_takes_12 (by decide) (fun c12 => ?_) (fun c12 => ?_)
    · -- taken 12
      have k12 := i_of1.mp c12
      rw [k12]
      refine at_aload_n dX9_takes_17 rfl ?_
      refine at_dup dX9_takes_18 rfl ?_
      refine at_geti flX9_57 rfl sd_119 dX9_takes_19 ?_
      rw [pd_up_at]
      refine at_aload_n dX9_takes_22 rfl ?_
      refine at_callT (As := []) cb_J0_length_8abf5 mlX9_74 im_J0_length_8abf5 se_J0_length_8abf5 rfl rfl hS (ev_J0_length hS) (by decide) ⟨Nat.le_of_ble_eq_true rfl, Nat.le_of_ble_eq_true rfl⟩ (Nat.le_of_ble_eq_true rfl) dX9_takes_23 (pd_k1 ?_)
      rw [hlen]
      refine at_iadd dX9_takes_26 ?_
      rw [nI_add]
      refine at_puti flX9_57 rfl sd_119 (fun _ _ _ hq => by cases hq; rfl) dX9_takes_27 ?_
      refine at_iconst dX9_takes_30 pc_i1 ?_
      refine at_zret rfl dX9_takes_31 (by first | exact Or.inl rfl | exact Or.inr rfl | assumption) ?_
      first | exact ⟨rfl, by rw [if_neg (by decide)]⟩ | exact ⟨rfl, by rw [if_pos rfl, pd_up_up]⟩
    · -- not taken 12
      have k12 := i_of0.mp c12
      rw [k12]
      refine at_iconst dX9_takes_15 pc_i0 ?_
      refine at_zret rfl dX9_takes_16 (by first | exact Or.inl rfl | exact Or.inr rfl | assumption) ?_
      first | exact ⟨rfl, by rw [if_neg (by decide)]⟩ | exact ⟨rfl, by rw [if_pos rfl, pd_up_up]⟩
theorem ev_X9_takesF {a : Nat} (hR : RS R) (hf : ¬ I 119 6 = 0) : pd_Ev G mi_X9_takes 6 0 0 [.ref (pd_z G + 119), .ref a] (SD, false, I, L, R) (pd_rt (.int 0) (SD, false, I, L, R)) := by
  refine pd_ev 0 (lo := [some (.ref (pd_z G + 119)), some (.ref a)]) (by decide +kernel) (Nat.le_of_ble_eq_true rfl) rfl ?_
  refine at_aload_n dX9_takes_0 rfl ?_
  refine at_cv0 cvX9_87 sd_119 (ev_X9_fine) (by decide) ⟨Nat.le_refl _, Nat.le_refl _⟩ (Nat.le_of_ble_eq_true rfl) dX9_takes_1 (pd_k1 ?_)
  rw [decide_eq_false hf]
  refine at_ifeq (tgt := 15) dX9_takes_4 (by decide) (fun c4 => ?_) (fun c4 => ?_)
  · -- taken 4
    refine at_iconst dX9_takes_15 pc_i0 ?_
    refine at_zret rfl dX9_takes_16 (by first | exact Or.inl rfl | exact Or.inr rfl | assumption) ?_
    exact ⟨rfl, rfl⟩
  · -- not taken 4
    exact absurd rfl c4
theorem ev_X9_must (hR : RS R) (h : PX I B n) {p c : Nat} (hat : I 119 4 = nI p) (hp : p ≤ 700) (hf : I 119 6 = 0) (hc : c < 256) : pd_Ev G mi_X9_must 3 0 0 [.ref (pd_z G + 119), .int (nI c)] (SD, false, I, L, R) (pd_rv (SD, false, if sk B n p < n ∧ B (sk B n p) = c then pd_up I 119 4 (nI (sk B n p + 1)) else pd_up (pd_up (pd_up I 119 4 (nI (sk B n p))) 119 6 (nI 1)) 119 7 (nI (sk B n p)), L, R)) := by
  have key := fB_eq h (k := sk B n p) hc
  refine pd_ev 0 (lo := [some (.ref (pd_z G + 119)), some (.int (nI c))]) (by decide +kernel) (Nat.le_of_ble_eq_true rfl) rfl ?_
  refine at_aload_n dX9_must_0 rfl ?_
  refine at_cv0 cvX9_87 sd_119 (ev_X9_fine) (by decide) ⟨Nat.le_refl _, Nat.le_refl _⟩ (Nat.le_of_ble_eq_true rfl) dX9_must_1 (pd_k1 ?_)
  rw [decide_eq_true hf]
  refine at_ifne (tgt := 8) dX9_must_4 (by decide) (fun c4 => ?_) (fun c4 => ?_)
  · -- taken 4
    refine at_aload_n dX9_must_8 rfl ?_
    refine at_cv0 cvX9_70 sd_119 (ev_X9_here hR h hat (by omega)) (by decide) ⟨Nat.le_refl _, Nat.le_refl _⟩ (Nat.le_of_ble_eq_true rfl) dX9_must_9 (pd_k1 ?_)
    refine at_iload_n dX9_must_12 rfl ?_
    refine at_icmpne (tgt := 29) dX9_must_13 (by decide) (fun c13 => ?_) (fun c13 => ?_)
    · -- taken 13
      rw [key] at c13
      refine at_aload_n dX9_must_29 rfl ?_
      refine at_iconst dX9_must_30 pc_i1 ?_
      refine at_aload_n dX9_must_31 rfl ?_
      refine at_geti flX9_57 rfl sd_119 dX9_must_32 ?_
      rw [pd_up_at]
      refine at_cv2 cvX9_95 sd_119 (ev_X9_wrong0 (by rw [pd_up_nj (by decide)]; exact hf) _ _) (by decide) ⟨Nat.le_refl _, Nat.le_refl _⟩ (Nat.le_of_ble_eq_true rfl) dX9_must_35 (pd_k0 ?_)
      refine at_vret rfl dX9_must_38 ?_
      first | exact ⟨rfl, by rw [if_neg c13]; rfl⟩ | exact ⟨rfl, by rw [if_pos c13, pd_up_up]⟩
    · -- not taken 13
      rw [key] at c13
      refine at_aload_n dX9_must_16 rfl ?_
      refine at_dup dX9_must_17 rfl ?_
      refine at_geti flX9_57 rfl sd_119 dX9_must_18 ?_
      rw [pd_up_at]
      refine at_iconst dX9_must_21 pc_i1 ?_
      refine at_iadd dX9_must_22 ?_
      rw [nI_1]
      refine at_puti flX9_57 rfl sd_119 (fun _ _ _ hq => by cases hq; rfl) dX9_must_23 ?_
      refine at_goto (tgt := 38) dX9_must_26 (by decide) ?_
      refine at_vret rfl dX9_must_38 ?_
      first | exact ⟨rfl, by rw [if_neg c13]; rfl⟩ | exact ⟨rfl, by rw [if_pos c13, pd_up_up]⟩
  · -- not taken 4
    exact absurd c4 (by decide)
theorem ev_X9_mustF (hR : RS R) (hf : ¬ I 119 6 = 0) (c : Int32) : pd_Ev G mi_X9_must 3 0 0 [.ref (pd_z G + 119), .int c] (SD, false, I, L, R) (pd_rv (SD, false, I, L, R)) := by
  refine pd_ev 0 (lo := [some (.ref (pd_z G + 119)), some (.int c)]) (by decide +kernel) (Nat.le_of_ble_eq_true rfl) rfl ?_
  refine at_aload_n dX9_must_0 rfl ?_
  refine at_cv0 cvX9_87 sd_119 (ev_X9_fine) (by decide) ⟨Nat.le_refl _, Nat.le_refl _⟩ (Nat.le_of_ble_eq_true rfl) dX9_must_1 (pd_k1 ?_)
  rw [decide_eq_false hf]
  refine at_ifne (tgt := 8) dX9_must_4 (by decide) (fun c4 => ?_) (fun c4 => ?_)
  · -- taken 4
    exact absurd rfl c4
  · -- not taken 4
    refine at_vret rfl dX9_must_7 ?_
    exact ⟨rfl, rfl⟩
theorem ev_X9_tellsF (hR : RS R) (hf : ¬ I 119 6 = 0) (c : Int32) : pd_Ev G mi_X9_tells 2 0 0 [.ref (pd_z G + 119), .int c] (SD, false, I, L, R) (pd_rv (SD, false, I, L, R)) := by
  refine pd_ev 0 (lo := [some (.ref (pd_z G + 119)), some (.int c)]) (by decide +kernel) (Nat.le_of_ble_eq_true rfl) rfl ?_
  refine at_aload_n dX9_tells_0 rfl ?_
  refine at_cv0 cvX9_87 sd_119 (ev_X9_fine) (by decide) ⟨Nat.le_refl _, Nat.le_refl _⟩ (Nat.le_of_ble_eq_true rfl) dX9_tells_1 (pd_k1 ?_)
  rw [decide_eq_false hf]
  refine at_ifne (tgt := 8) dX9_tells_4 (by decide) (fun c4 => ?_) (fun c4 => ?_)
  · -- taken 4
    exact absurd rfl c4
  · -- not taken 4
    refine at_vret rfl dX9_tells_7 ?_
    exact ⟨rfl, rfl⟩
theorem ev_X9_tells (hR : RS R) (hf : I 119 6 = 0) {k : Nat} (hk : I 119 13 = nI k) (h8 : k < 800) (c : Int32) : pd_Ev G mi_X9_tells 2 0 0 [.ref (pd_z G + 119), .int c] (SD, false, I, L, R) (pd_rv (SD, false, pd_up (pd_up I 123 (305 + k) c) 119 13 (nI (k + 1)), L, R)) := by
  refine pd_ev 0 (lo := [some (.ref (pd_z G + 119)), some (.int c)]) (by decide +kernel) (Nat.le_of_ble_eq_true rfl) rfl ?_
  refine at_aload_n dX9_tells_0 rfl ?_
  refine at_cv0 cvX9_87 sd_119 (ev_X9_fine) (by decide) ⟨Nat.le_refl _, Nat.le_refl _⟩ (Nat.le_of_ble_eq_true rfl) dX9_tells_1 (pd_k1 ?_)
  rw [decide_eq_true hf]
  refine at_ifne (tgt := 8) dX9_tells_4 (by decide) (fun c4 => ?_) (fun c4 => ?_)
  · -- taken 4
    refine at_aload_n dX9_tells_8 rfl ?_
    refine at_getr (123) flX9_23 rfl sd_119 (rs_119_10 hR) dX9_tells_9 ?_
    refine at_sipush dX9_tells_12 pc_s305 ?_
    refine at_aload_n dX9_tells_15 rfl ?_
    refine at_geti flX9_127 rfl sd_119 dX9_tells_16 ?_
    rw [hk]
    refine at_iadd dX9_tells_19 ?_
    rw [show (305 : Int32) = nI 305 from rfl, nI_add]
    refine at_iload_n dX9_tells_20 rfl ?_
    refine at_iast sd_123 (vp_in_nI (by omega) (by decide)) dX9_tells_21 ?_
    refine at_aload_n dX9_tells_22 rfl ?_
    refine at_dup dX9_tells_23 rfl ?_
    refine at_geti flX9_127 rfl sd_119 dX9_tells_24 ?_
    rw [nI_clamp (by omega), pd_up_nb (by decide), hk]
    refine at_iconst dX9_tells_27 pc_i1 ?_
    refine at_iadd dX9_tells_28 ?_
    rw [nI_1]
    refine at_puti flX9_127 rfl sd_119 (fun _ _ _ hq => by cases hq; rfl) dX9_tells_29 ?_
    refine at_vret rfl dX9_tells_32 ?_
    exact ⟨rfl, rfl⟩
  · -- not taken 4
    exact absurd c4 (by decide)
/-- the number at q as the reference counts it -/
def dvG (B : Nat → Nat) : Nat → Nat → Nat → Nat
  | 0, _, a => a
  | c + 1, p, a => dvG B c (p + 1) (min 100000 (10 * a + (B p - 48)))
theorem dvG_F (B : Nat → Nat) : ∀ c p a, (∀ j, p ≤ j → j < p + c → 48 ≤ B j ∧ B j ≤ 57) → a ≤ 100000 → dvG B c p a ≤ 100000 ∧ dvF B c p (min 1000 a) = min 1000 (dvG B c p a)
  | 0, p, a, _, ha => ⟨ha, rfl⟩
  | c + 1, p, a, h, ha => by
    have hp := h p (Nat.le_refl _) (by omega)
    have ih := dvG_F B c (p + 1) (min 100000 (10 * a + (B p - 48))) (fun j h1 h2 => h j (by omega) (by omega)) (Nat.min_le_left _ _)
    refine ⟨ih.1, ?_⟩
    rw [dvF, dvG, ← ih.2]
    congr 1
    omega
theorem lp_X9_number (hR : RS R) (h : PX I B n) {b : Nat} {lo hi : Int32} {Q : pd_O → pd_M → Prop} (K : ∀ x e, e = rnE (isD B n) n b → x = dvG B (e - b) b 0 → pd_At G mi_X9_number 3 0 0 0 0 89 [some (.ref (pd_z G + 119)), some (.int lo), some (.int hi), some (.int (nI b)), some (.int (nI x))] [] (SD, false, pd_up I 119 4 (nI e), L, R) Q) : ∀ (k p a : Nat), n - p = k → p ≤ n → b ≤ p → a ≤ 100000 → rnE (isD B n) n b = rnE (isD B n) n p → dvG B (rnE (isD B n) n b - b) b 0 = dvG B (rnE (isD B n) n p - p) p a → pd_At G mi_X9_number 3 0 0 0 0 38 [some (.ref (pd_z G + 119)), some (.int lo), some (.int hi), some (.int (nI b)), some (.int (nI a))] [] (SD, false, pd_up I 119 4 (nI p), L, R) Q := by
  have hn := h.2.1
  intro k
  induction k with
  | zero =>
    intro p a hp hpn hbp ha he hv
    have e0 : isD B n p = false := isD_n (by omega)
    have e1 : rnE (isD B n) n p = p := rnE_no e0
    refine at_aload_n dX9_number_38 rfl ?_
    refine at_aload_n dX9_number_39 rfl ?_
    refine at_geti flX9_57 rfl sd_119 dX9_number_40 ?_
    rw [pd_up_at]
    refine at_cv1 cvX9_60 sd_119 (ev_X9_byteAt hR (h.up (by decide)) (k := p) (by omega)) (by decide) ⟨Nat.le_refl _, Nat.le_refl _⟩ (Nat.le_of_ble_eq_true rfl) dX9_number_43 (pd_k1 ?_)
    refine at_cs1 csX9_99 (ev_X9_isDigit _) (by decide) ⟨Nat.le_refl _, Nat.le_refl _⟩ (Nat.le_of_ble_eq_true rfl) dX9_number_46 (pd_k1 ?_)
    rw [fB_D h, e0]
    refine at_ifeq (tgt := 89) dX9_number_49 (by decide) (fun c49 => ?_) (fun c49 => ?_)
    · -- taken 49
      refine K a p (by rw [he, e1]) ?_
      rw [e1, Nat.sub_self] at hv
      rw [he, e1] at hv
      exact hv.symm
    · -- not taken 49
      exact absurd rfl c49
  | succ k ih =>
    intro p a hp hpn hbp ha he hv
    cases e0 : isD B n p with
    | false =>
      have e1 : rnE (isD B n) n p = p := rnE_no e0
      refine at_aload_n dX9_number_38 rfl ?_
      refine at_aload_n dX9_number_39 rfl ?_
      refine at_geti flX9_57 rfl sd_119 dX9_number_40 ?_
      rw [pd_up_at]
      refine at_cv1 cvX9_60 sd_119 (ev_X9_byteAt hR (h.up (by decide)) (k := p) (by omega)) (by decide) ⟨Nat.le_refl _, Nat.le_refl _⟩ (Nat.le_of_ble_eq_true rfl) dX9_number_43 (pd_k1 ?_)
      refine at_cs1 csX9_99 (ev_X9_isDigit _) (by decide) ⟨Nat.le_refl _, Nat.le_refl _⟩ (Nat.le_of_ble_eq_true rfl) dX9_number_46 (pd_k1 ?_)
      rw [fB_D h, e0]
      refine at_ifeq (tgt := 89) dX9_number_49 (by decide) (fun c49 => ?_) (fun c49 => ?_)
      · -- taken 49
        refine K a p (by rw [he, e1]) ?_
        rw [e1, Nat.sub_self] at hv
        rw [he, e1] at hv
        exact hv.symm
      · -- not taken 49
        exact absurd rfl c49
    | true =>
      have hd := isD_b e0
      have e1 : rnE (isD B n) n p = rnE (isD B n) n (p + 1) := rnE_yes (by omega) e0
      have e2 := rnE_ge (isD B n) n (p + 1)
      have e3 : fB B n p = nI (B p) := if_pos (by omega)
      have e4 : (10 : Int32) * nI a + nI (B p) - 48 = nI (10 * a + (B p - 48)) := by
        rw [show (10 : Int32) = nI 10 from rfl, pk_mul, nI_add, show (48 : Int32) = nI 48 from rfl, pk_sub (by omega)]
        congr 1; omega
      have e5 : (if (100000 : Int32) < nI (10 * a + (B p - 48)) then (100000 : Int32) else nI (10 * a + (B p - 48))) = nI (min 100000 (10 * a + (B p - 48))) := by
        have q : ((100000 : Int32) < nI (10 * a + (B p - 48))) ↔ 100000 < 10 * a + (B p - 48) := nI_ltI (a := 100000) (by decide) (by omega)
        by_cases z : 100000 < 10 * a + (B p - 48)
        · rw [if_pos (q.mpr z), show min 100000 (10 * a + (B p - 48)) = 100000 by omega]; rfl
        · rw [if_neg (fun t => z (q.mp t)), show min 100000 (10 * a + (B p - 48)) = 10 * a + (B p - 48) by omega]
      refine at_aload_n dX9_number_38 rfl ?_
      refine at_aload_n dX9_number_39 rfl ?_
      refine at_geti flX9_57 rfl sd_119 dX9_number_40 ?_
      rw [pd_up_at]
      refine at_cv1 cvX9_60 sd_119 (ev_X9_byteAt hR (h.up (by decide)) (k := p) (by omega)) (by decide) ⟨Nat.le_refl _, Nat.le_refl _⟩ (Nat.le_of_ble_eq_true rfl) dX9_number_43 (pd_k1 ?_)
      refine at_cs1 csX9_99 (ev_X9_isDigit _) (by decide) ⟨Nat.le_refl _, Nat.le_refl _⟩ (Nat.le_of_ble_eq_true rfl) dX9_number_46 (pd_k1 ?_)
      rw [fB_D h, e0]
      refine at_ifeq (tgt := 89) dX9_number_49 (by decide) (fun c49 => ?_) (fun c49 => ?_)
      · -- taken 49
        exact absurd c49 (by decide)
      · -- not taken 49
        refine at_ldc coX9_102 dX9_number_52 ?_
        refine at_bipush dX9_number_54 pc_b10 ?_
        refine at_iload dX9_number_56 rfl ?_
        refine at_imul dX9_number_58 ?_
        refine at_aload_n dX9_number_59 rfl ?_
        refine at_aload_n dX9_number_60 rfl ?_
        refine at_geti flX9_57 rfl sd_119 dX9_number_61 ?_
        rw [pd_up_at]
        refine at_cv1 cvX9_60 sd_119 (ev_X9_byteAt hR (h.up (by decide)) (k := p) (by omega)) (by decide) ⟨Nat.le_refl _, Nat.le_refl _⟩ (Nat.le_of_ble_eq_true rfl) dX9_number_64 (pd_k1 ?_)
        rw [e3]
        refine at_iadd dX9_number_67 ?_
        refine at_bipush dX9_number_68 pc_b48 ?_
        refine at_isub dX9_number_70 ?_
        rw [e4]
        refine at_cs2 csX9_103 (ev_X9_less _ _) (by decide) ⟨Nat.le_refl _, Nat.le_refl _⟩ (Nat.le_of_ble_eq_true rfl) dX9_number_71 (pd_k1 ?_)
        rw [e5]
        refine at_istore dX9_number_74 rfl (Nat.le_of_ble_eq_true rfl) ?_
        refine at_aload_n dX9_number_76 rfl ?_
        refine at_dup dX9_number_77 rfl ?_
        refine at_geti flX9_57 rfl sd_119 dX9_number_78 ?_
        rw [pd_up_at]
        refine at_iconst dX9_number_81 pc_i1 ?_
        refine at_iadd dX9_number_82 ?_
        rw [nI_1]
        refine at_puti flX9_57 rfl sd_119 (fun _ _ _ hq => by cases hq; rfl) dX9_number_83 ?_
        refine at_goto (tgt := 38) dX9_number_86 (by decide) ?_
        rw [pd_up_up]
        refine ih (p + 1) _ (by omega) (by omega) (by omega) (Nat.min_le_left _ _) (by rw [he, e1]) ?_
        rw [hv, e1, show rnE (isD B n) n (p + 1) - p = (rnE (isD B n) n (p + 1) - (p + 1)) + 1 by omega, dvG]
/-- what a number says, and what it leaves -/
def nuI (I : Nat → Nat → Int32) (B : Nat → Nat) (n q lo hi : Nat) : Nat → Nat → Int32 := if isD B n q = true then (if lo ≤ tkN B n q ∧ tkN B n q ≤ hi then pd_up I 119 4 (nI (tkE B n q)) else pd_up (pd_up (pd_up I 119 4 (nI (tkE B n q))) 119 6 (nI 2)) 119 7 (nI q)) else pd_up (pd_up (pd_up I 119 4 (nI q)) 119 6 (nI 1)) 119 7 (nI q)
theorem ev_X9_number (hR : RS R) (h : PX I B n) {p lo hi : Nat} (hat : I 119 4 = nI p) (hp : p ≤ n) (hf : I 119 6 = 0) (hlo : lo ≤ 999) (hhi : hi ≤ 999) : pd_Ev G mi_X9_number 3 0 0 [.ref (pd_z G + 119), .int (nI lo), .int (nI hi)] (SD, false, I, L, R) (fun o M' => M' = (SD, false, nuI I B n (sk B n p) lo hi, L, R) ∧ ∃ x : Nat, o = .inl (some (.int (nI x))) ∧ (isD B n (sk B n p) = true → tkN B n (sk B n p) ≤ hi → x = tkN B n (sk B n p))) := by
  have hn := h.2.1
  have hsn := sk_le (B := B) hp
  obtain ⟨q, hq⟩ : ∃ q, q = sk B n p := ⟨_, rfl⟩
  rw [← hq] at hsn ⊢
  cases hD : isD B n q with
  | false =>
    refine pd_ev 2 (lo := [some (.ref (pd_z G + 119)), some (.int (nI lo)), some (.int (nI hi)), none, none]) (by decide +kernel) (Nat.le_of_ble_eq_true rfl) rfl ?_
    refine at_aload_n dX9_number_0 rfl ?_
    refine at_cv0 cvX9_87 sd_119 (ev_X9_fine) (by decide) ⟨Nat.le_refl _, Nat.le_refl _⟩ (Nat.le_of_ble_eq_true rfl) dX9_number_1 (pd_k1 ?_)
    rw [decide_eq_true hf]
    refine at_ifne (tgt := 9) dX9_number_4 (by decide) (fun c4 => ?_) (fun c4 => ?_)
    · -- taken 4
      refine at_aload_n dX9_number_9 rfl ?_
      refine at_cv0 cvX9_70 sd_119 (ev_X9_here hR h hat (by omega)) (by decide) ⟨Nat.le_refl _, Nat.le_refl _⟩ (Nat.le_of_ble_eq_true rfl) dX9_number_10 (pd_k1 ?_)
      rw [← hq]
      refine at_cs1 csX9_99 (ev_X9_isDigit _) (by decide) ⟨Nat.le_refl _, Nat.le_refl _⟩ (Nat.le_of_ble_eq_true rfl) dX9_number_13 (pd_k1 ?_)
      rw [fB_D h, hD]
      refine at_ifne (tgt := 30) dX9_number_16 (by decide) (fun c16 => ?_) (fun c16 => ?_)
      · -- taken 16
        exact absurd rfl c16
      · -- not taken 16
        refine at_aload_n dX9_number_19 rfl ?_
        refine at_iconst dX9_number_20 pc_i1 ?_
        refine at_aload_n dX9_number_21 rfl ?_
        refine at_geti flX9_57 rfl sd_119 dX9_number_22 ?_
        rw [pd_up_at]
        refine at_cv2 cvX9_95 sd_119 (ev_X9_wrong0 (by rw [pd_up_nj (by decide)]; exact hf) _ _) (by decide) ⟨Nat.le_refl _, Nat.le_refl _⟩ (Nat.le_of_ble_eq_true rfl) dX9_number_25 (pd_k0 ?_)
        refine at_iconst dX9_number_28 pc_i0 ?_
        refine at_iret rfl dX9_number_29 ?_
        exact ⟨by rw [nuI, hD, if_neg (by decide)]; rfl, 0, rfl, fun z => by cases z⟩
    · -- not taken 4
      exact absurd c4 (by decide)
  | true =>
    have hd := isD_b hD
    have hL0 : isL B n q = false := (isD_L hD).1
    have hE : tkE B n q = rnE (isD B n) n q := by rw [tkE, if_neg (by omega), hL0, if_neg (by decide), hD, if_pos rfl]
    have last : ∀ x e, e = rnE (isD B n) n q → x = dvG B (e - q) q 0 → pd_At G mi_X9_number 3 0 0 0 0 89 [some (.ref (pd_z G + 119)), some (.int (nI lo)), some (.int (nI hi)), some (.int (nI q)), some (.int (nI x))] [] (SD, false, pd_up (pd_up I 119 4 (nI q)) 119 4 (nI e), L, R) (fun o M' => M' = (SD, false, nuI I B n q lo hi, L, R) ∧ ∃ x : Nat, o = .inl (some (.int (nI x))) ∧ (true = true → tkN B n q ≤ hi → x = tkN B n q)) := by
      intro x e he hx
      have hg := dvG_F B (e - q) q 0 (fun j h1 h2 => by
        have h3 := rnE_ge (isD B n) n q
        have := isD_b (rnE_in (isD B n) (k := q) (j := j) (n := n) h1 (by omega))
        exact ⟨this.2.1, this.2.2⟩) (by decide)
      rw [← hx] at hg
      have hT : tkN B n q = min 1000 x := by rw [← hg.2, tkN, ← he]; rfl
      have hin : inR (nI x) (nI lo) (nI hi) = decide (lo ≤ tkN B n q ∧ tkN B n q ≤ hi) := by
        unfold inR
        rw [decide_eq_decide.mpr (nI_leI (a := lo) (b := x) (by omega) (by omega)), decide_eq_decide.mpr (nI_leI (a := x) (b := hi) (by omega) (by omega)), hT]
        by_cases z1 : lo ≤ x
        · by_cases z2 : x ≤ hi
          · rw [decide_eq_true z1, decide_eq_true z2, decide_eq_true (by omega)]; rfl
          · rw [decide_eq_true z1, decide_eq_false z2, decide_eq_false (by omega)]; rfl
        · rw [decide_eq_false z1, Bool.false_and]; exact (decide_eq_false (by omega)).symm
      rw [pd_up_up]
      refine at_iload dX9_number_89 rfl ?_
      refine at_i2l dX9_number_91 ?_
      refine at_iload_n dX9_number_92 rfl ?_
      refine at_i2l dX9_number_93 ?_
      refine at_iload_n dX9_number_94 rfl ?_
      refine at_i2l dX9_number_95 ?_
      refine at_cs3 csX9_107 (ev_X9_in _ _ _) (by decide) ⟨Nat.le_refl _, Nat.le_refl _⟩ (Nat.le_of_ble_eq_true rfl) dX9_number_96 (pd_k1 ?_)
      rw [inL_w, hin]
      refine at_ifne (tgt := 108) dX9_number_99 (by decide) (fun c99 => ?_) (fun c99 => ?_)
      · -- taken 99
        have k99 := of_decide_eq_true (i_of1.mp c99)
        refine at_iload dX9_number_108 rfl ?_
        refine at_iret rfl dX9_number_110 ?_
        first | exact ⟨by rw [nuI, if_pos hD, if_pos k99, hE, he], x, rfl, fun _ z => by omega⟩ | exact ⟨by rw [nuI, if_pos hD, if_neg k99, hE, he]; rfl, x, rfl, fun _ z => by omega⟩
      · -- not taken 99
        have k99 := of_decide_eq_false (i_of0.mp c99)
        refine at_aload_n dX9_number_102 rfl ?_
        refine at_iconst dX9_number_103 pc_i2 ?_
        refine at_iload_n dX9_number_104 rfl ?_
        refine at_cv2 cvX9_95 sd_119 (ev_X9_wrong0 (by rw [pd_up_nj (by decide)]; exact hf) _ _) (by decide) ⟨Nat.le_refl _, Nat.le_refl _⟩ (Nat.le_of_ble_eq_true rfl) dX9_number_105 (pd_k0 ?_)
        refine at_iload dX9_number_108 rfl ?_
        refine at_iret rfl dX9_number_110 ?_
        first | exact ⟨by rw [nuI, if_pos hD, if_pos k99, hE, he], x, rfl, fun _ z => by omega⟩ | exact ⟨by rw [nuI, if_pos hD, if_neg k99, hE, he]; rfl, x, rfl, fun _ z => by omega⟩
    refine pd_ev 2 (lo := [some (.ref (pd_z G + 119)), some (.int (nI lo)), some (.int (nI hi)), none, none]) (by decide +kernel) (Nat.le_of_ble_eq_true rfl) rfl ?_
    refine at_aload_n dX9_number_0 rfl ?_
    refine at_cv0 cvX9_87 sd_119 (ev_X9_fine) (by decide) ⟨Nat.le_refl _, Nat.le_refl _⟩ (Nat.le_of_ble_eq_true rfl) dX9_number_1 (pd_k1 ?_)
    rw [decide_eq_true hf]
    refine at_ifne (tgt := 9) dX9_number_4 (by decide) (fun c4 => ?_) (fun c4 => ?_)
    · -- taken 4
      refine at_aload_n dX9_number_9 rfl ?_
      refine at_cv0 cvX9_70 sd_119 (ev_X9_here hR h hat (by omega)) (by decide) ⟨Nat.le_refl _, Nat.le_refl _⟩ (Nat.le_of_ble_eq_true rfl) dX9_number_10 (pd_k1 ?_)
      rw [← hq]
      refine at_cs1 csX9_99 (ev_X9_isDigit _) (by decide) ⟨Nat.le_refl _, Nat.le_refl _⟩ (Nat.le_of_ble_eq_true rfl) dX9_number_13 (pd_k1 ?_)
      rw [fB_D h, hD]
      refine at_ifne (tgt := 30) dX9_number_16 (by decide) (fun c16 => ?_) (fun c16 => ?_)
      · -- taken 16
        refine at_aload_n dX9_number_30 rfl ?_
        refine at_geti flX9_57 rfl sd_119 dX9_number_31 ?_
        rw [pd_up_at]
        refine at_istore_n dX9_number_34 rfl (Nat.le_of_ble_eq_true rfl) ?_
        refine at_iconst dX9_number_35 pc_i0 ?_
        refine at_istore dX9_number_36 rfl (Nat.le_of_ble_eq_true rfl) ?_
        have h9 := lp_X9_number (G := G) (L := L) (b := q) (lo := nI lo) (hi := nI hi) hR (h.up (j := 4) (v := nI q) (by decide)) last (n - q) q 0 rfl (by omega) (Nat.le_refl _) (by decide) rfl rfl
        rw [pd_up_same pd_up_at] at h9
        exact h9
      · -- not taken 16
        exact absurd c16 (by decide)
    · -- not taken 4
      exact absurd c4 (by decide)
theorem ev_X9_numberF (hR : RS R) (hf : ¬ I 119 6 = 0) (x y : Int32) : pd_Ev G mi_X9_number 3 0 0 [.ref (pd_z G + 119), .int x, .int y] (SD, false, I, L, R) (pd_rt (.int 0) (SD, false, I, L, R)) := by
  refine pd_ev 2 (lo := [some (.ref (pd_z G + 119)), some (.int x), some (.int y), none, none]) (by decide +kernel) (Nat.le_of_ble_eq_true rfl) rfl ?_
  refine at_aload_n dX9_number_0 rfl ?_
  refine at_cv0 cvX9_87 sd_119 (ev_X9_fine) (by decide) ⟨Nat.le_refl _, Nat.le_refl _⟩ (Nat.le_of_ble_eq_true rfl) dX9_number_1 (pd_k1 ?_)
  rw [decide_eq_false hf]
  refine at_ifne (tgt := 9) dX9_number_4 (by decide) (fun c4 => ?_) (fun c4 => ?_)
  · -- taken 4
    exact absurd rfl c4
  · -- not taken 4
    refine at_iconst dX9_number_7 pc_i0 ?_
    refine at_iret rfl dX9_number_8 ?_
    exact ⟨rfl, rfl⟩
theorem ev_X9_nameF (hR : RS R) (hf : ¬ I 119 6 = 0) : pd_Ev G mi_X9_name 3 0 0 [.ref (pd_z G + 119)] (SD, false, I, L, R) (pd_rt (.int 0) (SD, false, I, L, R)) := by
  refine pd_ev 2 (lo := [some (.ref (pd_z G + 119)), none, none]) (by decide +kernel) (Nat.le_of_ble_eq_true rfl) rfl ?_
  refine at_aload_n dX9_name_0 rfl ?_
  refine at_cv0 cvX9_87 sd_119 (ev_X9_fine) (by decide) ⟨Nat.le_refl _, Nat.le_refl _⟩ (Nat.le_of_ble_eq_true rfl) dX9_name_1 (pd_k1 ?_)
  rw [decide_eq_false hf]
  refine at_ifne (tgt := 9) dX9_name_4 (by decide) (fun c4 => ?_) (fun c4 => ?_)
  · -- taken 4
    exact absurd rfl c4
  · -- not taken 4
    refine at_iconst dX9_name_7 pc_i0 ?_
    refine at_iret rfl dX9_name_8 ?_
    exact ⟨rfl, rfl⟩
end PAR
