/-! ===== the reference reads: names, what stands at a word, an operand ===== -/
section TK
variable {B : Nat → Nat} {n : Nat}
theorem isW_inj : ∀ (w v : List Nat) (k : Nat), (∀ c ∈ w, 97 ≤ c ∧ c ≤ 122) → (∀ c ∈ v, 97 ≤ c ∧ c ≤ 122) → isW B n k w = true → isW B n k v = true → w = v
  | [], [], _, _, _, _, _ => rfl
  | [], y :: v, k, _, hv, h1, h2 => by
    rw [isW] at h1
    rw [isW] at h2
    simp only [Bool.and_eq_true, decide_eq_true_eq] at h2
    have hy := hv y List.mem_cons_self
    have : isL B n k = true := by simp [isL, h2.1.1, h2.1.2, hy]
    rw [this] at h1; cases h1
  | x :: w, [], k, hw, _, h1, h2 => by
    rw [isW] at h1
    rw [isW] at h2
    simp only [Bool.and_eq_true, decide_eq_true_eq] at h1
    have hx := hw x List.mem_cons_self
    have : isL B n k = true := by simp [isL, h1.1.1, h1.1.2, hx]
    rw [this] at h2; cases h2
  | x :: w, y :: v, k, hw, hv, h1, h2 => by
    rw [isW] at h1
    rw [isW] at h2
    simp only [Bool.and_eq_true, decide_eq_true_eq] at h1 h2
    have e : x = y := h1.1.2.symm.trans h2.1.2
    subst e
    rw [isW_inj w v (k + 1) (fun c hc => hw c (List.mem_cons_of_mem _ hc)) (fun c hc => hv c (List.mem_cons_of_mem _ hc)) h1.2 h2.2]
theorem kwF_hit : ∀ (ws : List (List Nat)) (c k : Nat), (∃ w ∈ ws, isW B n k w = true) → kwF B n k ws c < c + ws.length
  | [], _, _, h => by obtain ⟨w, hw, _⟩ := h; cases hw
  | v :: ws, c, k, h => by
    unfold kwF
    split
    · simp
    · rename_i hv
      obtain ⟨w, hw, h2⟩ := h
      rcases List.mem_cons.mp hw with rfl | hw
      · exact absurd h2 hv
      · have := kwF_hit ws (c + 1) k ⟨w, hw, h2⟩
        simp; omega
theorem wds_WL : ∀ c, c < 16 → WL (wds.getD c []) := by
  intro c hc
  have : (wds.getD c []).length ≤ 10 ∧ (wds.getD c []).isEmpty = false ∧ (wds.getD c []).all (fun x => decide (97 ≤ x) && decide (x ≤ 122)) = true := (by decide : ∀ c, c < 16 → (wds.getD c []).length ≤ 10 ∧ (wds.getD c []).isEmpty = false ∧ (wds.getD c []).all (fun x => decide (97 ≤ x) && decide (x ≤ 122)) = true) c hc
  refine ⟨fun q => by rw [q] at this; exact absurd this.2.1 (by decide), this.1, fun x hx => ?_⟩
  have h := List.all_eq_true.mp this.2.2 x hx
  simpa using h
theorem wds_inj : ∀ a, a < 16 → ∀ b, b < 16 → wds.getD a [] = wds.getD b [] → a = b := by decide
theorem wds_mem : ∀ a, a < 16 → wds.getD a [] ∈ wds := by decide
theorem isW_L {q : Nat} {w : List Nat} (hw : WL w) (h : isW B n q w = true) : isL B n q = true ∧ q < n ∧ tkE B n q = q + w.length := by
  obtain ⟨h1, h2, h3⟩ := hw
  have h4 := isW_in w q h3 h
  have hq := h4.2 h1
  have hl : isL B n q = true := by
    cases w with
    | nil => exact absurd rfl h1
    | cons c w =>
      rw [isW] at h
      simp only [Bool.and_eq_true, decide_eq_true_eq] at h
      have := h3 c List.mem_cons_self
      simp [isL, h.1.1, h.1.2, this]
  exact ⟨hl, hq, by rw [tkE, if_neg (by omega), if_pos hl, h4.1]⟩
/-- a word stands there just when the kind is its own -/
theorem kw_iff {q c : Nat} (hc : c < 16) : isW B n q (wds.getD c []) = decide (tkK B n q = c + 1) := by
  by_cases h : isW B n q (wds.getD c []) = true
  · obtain ⟨hl, hq, -⟩ := isW_L (wds_WL c hc) h
    have hk : tkK B n q = kwF B n q wds 1 := by rw [tkK, if_neg (by omega), if_pos hl]
    have hlt := kwF_hit wds 1 q ⟨_, wds_mem c hc, h⟩
    have hb := (kwF_17 B n q).1
    have hl16 : wds.length = 16 := by decide
    have hat := kwF_at wds 1 (kwF B n q wds 1) rfl hlt
    have e := isW_inj _ _ q (wds_WL c hc).2.2 (wds_WL (kwF B n q wds 1 - 1) (by omega)).2.2 h hat
    have := wds_inj c hc (kwF B n q wds 1 - 1) (by omega) e
    rw [h, hk, decide_eq_true (by omega)]
  · have h0 : isW B n q (wds.getD c []) = false := by simpa using h
    rw [h0]
    symm
    apply decide_eq_false
    intro hk
    have hq : q < n := Nat.not_le.mp (fun z => by rw [tkK, if_pos z] at hk; omega)
    obtain ⟨hl, hw⟩ := tkK_w hq hk (by omega) (by omega)
    have := kwF_at wds 1 (c + 1) hw (by have hl16 : wds.length = 16 := by decide
                                        omega)
    rw [Nat.add_sub_cancel] at this
    exact h this
theorem sg_iff {q c : Nat} (h1 : 33 ≤ c) (h2 : c < 128) (h3 : c < 48 ∨ 57 < c) (h4 : c < 97 ∨ 122 < c) : (q < n ∧ B q = c) ↔ tkK B n q = c := by
  unfold tkK
  constructor
  · rintro ⟨a, b⟩
    have hl : isL B n q = false := by simp [isL, b]; omega
    have hd : isD B n q = false := by simp [isD, b]; omega
    rw [if_neg (by omega), hl, if_neg (by decide), hd, if_neg (by decide), if_pos (by omega), b]
  · intro h
    by_cases hq : n ≤ q
    · rw [if_pos hq] at h; omega
    · rw [if_neg hq] at h
      refine ⟨by omega, ?_⟩
      by_cases hl : isL B n q = true
      · rw [if_pos hl] at h
        have := (kwF_17 B n q).2
        omega
      · rw [if_neg hl] at h
        by_cases hd : isD B n q = true
        · rw [if_pos hd] at h; omega
        · rw [if_neg hd] at h
          split at h <;> omega
theorem sg_E {q c : Nat} (hq : q < n) (hb : B q = c) (h3 : c < 48 ∨ 57 < c) (h4 : c < 97 ∨ 122 < c) : tkE B n q = q + 1 := by
  have hl : isL B n q = false := by simp [isL, hb]; omega
  have hd : isD B n q = false := by simp [isD, hb]; omega
  rw [tkE, if_neg (by omega), hl, if_neg (by decide), hd, if_neg (by decide)]
theorem tkK_18 {q : Nat} : isD B n q = true ↔ tkK B n q = 18 := by
  constructor
  · intro h
    have hq := (isD_b h).1
    rw [tkK, if_neg (by omega), (isD_L h).1, if_neg (by decide), h, if_pos rfl]
  · intro h
    have hq : q < n := Nat.not_le.mp (fun z => by rw [tkK, if_pos z] at h; omega)
    exact tkK_D hq h
theorem tkK_17 {q : Nat} : isL B n q = true ↔ (1 ≤ tkK B n q ∧ tkK B n q ≤ 17) := by
  constructor
  · intro h
    have hq := (isL_b h).1
    rw [tkK, if_neg (by omega), if_pos h]
    exact kwF_17 B n q
  · intro h
    have hq : q < n := Nat.not_le.mp (fun z => by rw [tkK, if_pos z] at h; omega)
    exact tkK_L hq h
end TK
/-- at the i-th word -/
def TZ (I : Nat → Nat → Int32) (B : Nat → Nat) (n i : Nat) : Prop := ∃ p, I 119 4 = nI p ∧ p ≤ n ∧ sk B n p = tq B n i
/-- the codes of the rule laid so far -/
def ckR (r : Nat → Int32) (ks : List Int32) : Nat → Int32 := fun k => if 305 ≤ k ∧ k < 305 + ks.length then ks.getD (k - 305) 0 else r k
theorem ckR_nil (r : Nat → Int32) : ckR r [] = r := by funext k; exact if_neg (by simp)
theorem ckR_app (r : Nat → Int32) (ks : List Int32) (c : Int32) : ckR r (ks ++ [c]) = upd (ckR r ks) (305 + ks.length) c := by
  funext k
  unfold ckR upd
  by_cases hk : k = 305 + ks.length
  · subst hk
    rw [if_pos ⟨by omega, by simp⟩, if_pos rfl, Nat.add_sub_cancel_left, List.getD_eq_getElem?_getD, List.getElem?_append_right (Nat.le_refl _), Nat.sub_self]; rfl
  · rw [if_neg hk]
    dsimp only
    by_cases h5 : 305 ≤ k ∧ k < 305 + ks.length
    · rw [if_pos ⟨h5.1, by simp; omega⟩, if_pos h5, List.getD_eq_getElem?_getD, List.getElem?_append_left (by omega), ← List.getD_eq_getElem?_getD]
    · rw [if_neg (by simp; omega), if_neg h5]
/-- reading goes well, at the i-th word, d deep -/
def GZ (I : Nat → Nat → Int32) (B : Nat → Nat) (n : Nat) (r : Nat → Int32) (ks : List Int32) (d i : Nat) : Prop := PX I B n ∧ TZ I B n i ∧ I 119 6 = 0 ∧ I 119 14 = nI d ∧ I 119 13 = nI ks.length ∧ RQ I 123 (ckR r ks) ∧ I 119 7 = -1
/-- a fault is found -/
def FZ (I : Nat → Nat → Int32) (B : Nat → Nat) (n b : Nat) (z : Nat × Nat) : Prop := PX I B n ∧ (∃ p, I 119 4 = nI p ∧ p ≤ n + b) ∧ I 119 6 = nI z.1 ∧ (1 ≤ z.1 ∧ z.1 ≤ 5) ∧ I 119 7 = nI z.2
/-- what reading leaves -/
def FP (I I' : Nat → Nat → Int32) : Prop := (∀ x j, x ≠ 119 → x ≠ 123 → I' x j = I x j) ∧ ∀ j, j ≠ 4 → j ≠ 6 → j ≠ 7 → j ≠ 13 → j ≠ 14 → I' 119 j = I 119 j
theorem FP.rf {I : Nat → Nat → Int32} : FP I I := ⟨fun _ _ _ _ => rfl, fun _ _ _ _ _ _ => rfl⟩
theorem FP.tr {I I' I2 : Nat → Nat → Int32} (h : FP I I') (h2 : FP I' I2) : FP I I2 := ⟨fun x j a b => (h2.1 x j a b).trans (h.1 x j a b), fun j a b c d e => (h2.2 j a b c d e).trans (h.2 j a b c d e)⟩
theorem FP.up {I I' : Nat → Nat → Int32} {k : Nat} {v : Int32} (h : FP I I') (hk : k = 4 ∨ k = 6 ∨ k = 7 ∨ k = 13 ∨ k = 14) : FP I (pd_up I' 119 k v) := ⟨fun x j a b => by rw [pd_up_nb a]; exact h.1 x j a b, fun j a b c d e => by rw [pd_up_nj (by omega)]; exact h.2 j a b c d e⟩
theorem FP.up3 {I I' : Nat → Nat → Int32} {k : Nat} {v : Int32} (h : FP I I') : FP I (pd_up I' 123 k v) := ⟨fun x j a b => by rw [pd_up_nb b]; exact h.1 x j a b, fun j a b c d e => by rw [pd_up_nb (by decide)]; exact h.2 j a b c d e⟩
theorem FZ.nf {I : Nat → Nat → Int32} {B : Nat → Nat} {n b : Nat} {z : Nat × Nat} (h : FZ I B n b z) : ¬ I 119 6 = 0 := by rw [h.2.2.1]; exact nI_ne0 (by have := h.2.2.2.1; omega) (by have := h.2.2.2.1; omega)
theorem FZ.mono {I : Nat → Nat → Int32} {B : Nat → Nat} {n b b2 : Nat} {z : Nat × Nat} (h : FZ I B n b z) (hb : b ≤ b2) : FZ I B n b2 z := ⟨h.1, by obtain ⟨p, h1, h2⟩ := h.2.1; exact ⟨p, h1, by omega⟩, h.2.2⟩
theorem GZ.at {I : Nat → Nat → Int32} {B : Nat → Nat} {n d i : Nat} {r : Nat → Int32} {ks : List Int32} (h : GZ I B n r ks d i) {j p : Nat} (hp : p ≤ n) (hj : sk B n p = tq B n j) : GZ (pd_up I 119 4 (nI p)) B n r ks d j := ⟨h.1.up (by decide), ⟨p, pd_up_at, hp, hj⟩, by rw [pd_up_nj (by decide)]; exact h.2.2.1, by rw [pd_up_nj (by decide)]; exact h.2.2.2.1, by rw [pd_up_nj (by decide)]; exact h.2.2.2.2.1, fun k hk => by rw [pd_up_nb (by decide)]; exact h.2.2.2.2.2.1 k hk, by rw [pd_up_nj (by decide)]; exact h.2.2.2.2.2.2⟩
theorem sk_tq {B : Nat → Nat} {n i : Nat} : sk B n (tq B n i) = tq B n i := sk_at (tq_nb i)
theorem GZ.here {I : Nat → Nat → Int32} {B : Nat → Nat} {n d i : Nat} {r : Nat → Int32} {ks : List Int32} (h : GZ I B n r ks d i) : GZ (pd_up I 119 4 (nI (tq B n i))) B n r ks d i := h.at (tq_le i) sk_tq
theorem GZ.next {I : Nat → Nat → Int32} {B : Nat → Nat} {n d i : Nat} {r : Nat → Int32} {ks : List Int32} (h : GZ I B n r ks d i) {p : Nat} (hp : p = tkE B n (tq B n i)) : GZ (pd_up I 119 4 (nI p)) B n r ks d (i + 1) := h.at (by rw [hp]; exact tkE_le (tq_le i)) (by rw [hp]; rfl)
theorem GZ.wr {I : Nat → Nat → Int32} {B : Nat → Nat} {n d i : Nat} {r : Nat → Int32} {ks : List Int32} (h : GZ I B n r ks d i) {p c q : Nat} (hp : p ≤ n) (hc : 1 ≤ c ∧ c ≤ 5) : FZ (pd_up (pd_up (pd_up I 119 4 (nI p)) 119 6 (nI c)) 119 7 (nI q)) B n 0 (c, q) := ⟨((h.1.up (by decide)).up (by decide)).up (by decide), ⟨p, by rw [pd_up_nj (by decide), pd_up_nj (by decide), pd_up_at], by omega⟩, by rw [pd_up_nj (by decide), pd_up_at], hc, pd_up_at⟩
theorem GZ.tell {I : Nat → Nat → Int32} {B : Nat → Nat} {n d i : Nat} {r : Nat → Int32} {ks : List Int32} (h : GZ I B n r ks d i) (c : Int32) : GZ (pd_up (pd_up I 123 (305 + ks.length) c) 119 13 (nI (ks.length + 1))) B n r (ks ++ [c]) d i := by
  obtain ⟨h1, ⟨p, a1, a2, a3⟩, h3, h4, h5, h6, h7⟩ := h
  refine ⟨h1.up2.up (by decide), ⟨p, by rw [pd_up_nj (by decide), pd_up_nb (by decide)]; exact a1, a2, a3⟩, by rw [pd_up_nj (by decide), pd_up_nb (by decide)]; exact h3, by rw [pd_up_nj (by decide), pd_up_nb (by decide)]; exact h4, by rw [pd_up_at]; simp, fun k hk => ?_, by rw [pd_up_nj (by decide), pd_up_nb (by decide)]; exact h7⟩
  rw [pd_up_nb (by decide), ckR_app]
  by_cases hq : k = 305 + ks.length
  · subst hq; rw [pd_up_at, pk_us]
  · rw [pd_up_nj hq, pk_un hq]; exact h6 k hk
section PAR2
variable {G : pd_G} {I : Nat → Nat → Int32} {L : Nat → Nat → Int64} {R : Nat → Nat → Option Nat} {B : Nat → Nat} {n d i : Nat} {r : Nat → Int32} {ks : List Int32}
theorem lp_X9_name (hR : RS R) (h : PX I B n) {q : Nat} (hq : q ≤ n) (hf : I 119 6 = 0) : ∀ (k i : Nat), i + k = 5 → (∀ j, j < i → isL B n (q + j) = true) → q + i ≤ n → pd_At G mi_X9_name 3 0 0 0 0 21 [some (.ref (pd_z G + 119)), some (.int (nI q)), some (.int (nI (n27 0 (pfx B q i))))] [] (SD, false, pd_up I 119 4 (nI (q + i)), L, R) (fun o M' => if isL B n q = true ∧ (tkW B n q).length ≤ 5 then o = .inl (some (.int (nI (n27 0 (tkW B n q))))) ∧ M' = (SD, false, pd_up I 119 4 (nI (tkE B n q)), L, R) else ∃ x p, p ≤ n ∧ o = .inl (some (.int x)) ∧ M' = (SD, false, pd_up (pd_up (pd_up I 119 4 (nI p)) 119 6 (nI 1)) 119 7 (nI q), L, R)) := by
  have hn := h.2.1
  have fin : ∀ i, i ≤ 5 → (∀ j, j < i → isL B n (q + j) = true) → q + i ≤ n → (isL B n (q + i) = true → i = 5) → pd_At G mi_X9_name 3 0 0 0 0 77 [some (.ref (pd_z G + 119)), some (.int (nI q)), some (.int (nI (n27 0 (pfx B q i))))] [] (SD, false, pd_up I 119 4 (nI (q + i)), L, R) (fun o M' => if isL B n q = true ∧ (tkW B n q).length ≤ 5 then o = .inl (some (.int (nI (n27 0 (tkW B n q))))) ∧ M' = (SD, false, pd_up I 119 4 (nI (tkE B n q)), L, R) else ∃ x p, p ≤ n ∧ o = .inl (some (.int x)) ∧ M' = (SD, false, pd_up (pd_up (pd_up I 119 4 (nI p)) 119 6 (nI 1)) 119 7 (nI q), L, R)) := by
    intro i hi hj hqi h5
    refine at_aload_n dX9_name_77 rfl ?_
    refine at_geti flX9_57 rfl sd_119 dX9_name_78 ?_
    rw [pd_up_at]
    refine at_iload_n dX9_name_81 rfl ?_
    refine at_icmpeq (tgt := 99) dX9_name_82 (by decide) (fun c82 => ?_) (fun c82 => ?_)
    · -- taken 82
      rw [nI_eq (by omega) (by omega)] at c82
      refine at_aload_n dX9_name_99 rfl ?_
      refine at_iconst dX9_name_100 pc_i1 ?_
      refine at_iload_n dX9_name_101 rfl ?_
      refine at_cv2 cvX9_95 sd_119 (ev_X9_wrong0 (by rw [pd_up_nj (by decide)]; exact hf) _ _) (by decide) ⟨Nat.le_refl _, Nat.le_refl _⟩ (Nat.le_of_ble_eq_true rfl) dX9_name_102 (pd_k0 ?_)
      refine at_iload_n dX9_name_105 rfl ?_
      refine at_iret rfl dX9_name_106 ?_
      first | (have hz := k96; have hi0 : i ≠ 0 := fun z => c82 (by omega); have hL0 : isL B n q = true := hj 0 (by omega); have hqn := (isL_b hL0).1; first | (have hW := tkW_at (B := B) (n := n) hqn hj hz; refine (if_pos ⟨hL0, by rw [hW, pfx_len]; exact hi⟩).mpr ⟨by rw [hW], ?_⟩; rw [tkE, if_neg (by omega), if_pos hL0, show rnE (isL B n) n q = q + i from by have h8 := congrArg List.length hW; rw [pfx_len] at h8; simp only [tkW, List.length_map, List.length_range] at h8; have := rnE_ge (isL B n) n q; omega]) | (have i5 := h5 hz; refine (if_neg (fun z => by have := tkW_long (B := B) (n := n) (q := q) (i := i) (fun j hj2 => (Nat.lt_or_eq_of_le hj2).elim (fun z2 => hj j z2) (fun z2 => z2 ▸ hz)); omega)).mpr ⟨_, q + i, hqi, rfl, rfl⟩)) | (refine (if_neg (fun z => ?_)).mpr ⟨_, q + i, hqi, rfl, rfl⟩; have hi0 : i = 0 := (by omega); subst hi0; have h9 := h5 z.1; omega)
    · -- not taken 82
      rw [nI_eq (by omega) (by omega)] at c82
      refine at_aload_n dX9_name_85 rfl ?_
      refine at_aload_n dX9_name_86 rfl ?_
      refine at_geti flX9_57 rfl sd_119 dX9_name_87 ?_
      rw [pd_up_at]
      refine at_cv1 cvX9_60 sd_119 (ev_X9_byteAt hR (h.up (by decide)) (k := q + i) (by omega)) (by decide) ⟨Nat.le_refl _, Nat.le_refl _⟩ (Nat.le_of_ble_eq_true rfl) dX9_name_90 (pd_k1 ?_)
      refine at_cs1 csX9_83 (ev_X9_isSmall _) (by decide) ⟨Nat.le_refl _, Nat.le_refl _⟩ (Nat.le_of_ble_eq_true rfl) dX9_name_93 (pd_k1 ?_)
      rw [fB_L h]
      refine at_ifeq (tgt := 105) dX9_name_96 (by decide) (fun c96 => ?_) (fun c96 => ?_)
      · -- taken 96
        have k96 := i_of0.mp c96
        refine at_iload_n dX9_name_105 rfl ?_
        refine at_iret rfl dX9_name_106 ?_
        first | (have hz := k96; have hi0 : i ≠ 0 := fun z => c82 (by omega); have hL0 : isL B n q = true := hj 0 (by omega); have hqn := (isL_b hL0).1; first | (have hW := tkW_at (B := B) (n := n) hqn hj hz; refine (if_pos ⟨hL0, by rw [hW, pfx_len]; exact hi⟩).mpr ⟨by rw [hW], ?_⟩; rw [tkE, if_neg (by omega), if_pos hL0, show rnE (isL B n) n q = q + i from by have h8 := congrArg List.length hW; rw [pfx_len] at h8; simp only [tkW, List.length_map, List.length_range] at h8; have := rnE_ge (isL B n) n q; omega]) | (have i5 := h5 hz; refine (if_neg (fun z => by have := tkW_long (B := B) (n := n) (q := q) (i := i) (fun j hj2 => (Nat.lt_or_eq_of_le hj2).elim (fun z2 => hj j z2) (fun z2 => z2 ▸ hz)); omega)).mpr ⟨_, q + i, hqi, rfl, rfl⟩)) | (refine (if_neg (fun z => ?_)).mpr ⟨_, q + i, hqi, rfl, rfl⟩; have hi0 : i = 0 := (by omega); subst hi0; have h9 := h5 z.1; omega)
      · -- not taken 96
        have k96 := i_of1.mp c96
        refine at_aload_n dX9_name_99 rfl ?_
        refine at_iconst dX9_name_100 pc_i1 ?_
        refine at_iload_n dX9_name_101 rfl ?_
        refine at_cv2 cvX9_95 sd_119 (ev_X9_wrong0 (by rw [pd_up_nj (by decide)]; exact hf) _ _) (by decide) ⟨Nat.le_refl _, Nat.le_refl _⟩ (Nat.le_of_ble_eq_true rfl) dX9_name_102 (pd_k0 ?_)
        refine at_iload_n dX9_name_105 rfl ?_
        refine at_iret rfl dX9_name_106 ?_
        first | (have hz := k96; have hi0 : i ≠ 0 := fun z => c82 (by omega); have hL0 : isL B n q = true := hj 0 (by omega); have hqn := (isL_b hL0).1; first | (have hW := tkW_at (B := B) (n := n) hqn hj hz; refine (if_pos ⟨hL0, by rw [hW, pfx_len]; exact hi⟩).mpr ⟨by rw [hW], ?_⟩; rw [tkE, if_neg (by omega), if_pos hL0, show rnE (isL B n) n q = q + i from by have h8 := congrArg List.length hW; rw [pfx_len] at h8; simp only [tkW, List.length_map, List.length_range] at h8; have := rnE_ge (isL B n) n q; omega]) | (have i5 := h5 hz; refine (if_neg (fun z => by have := tkW_long (B := B) (n := n) (q := q) (i := i) (fun j hj2 => (Nat.lt_or_eq_of_le hj2).elim (fun z2 => hj j z2) (fun z2 => z2 ▸ hz)); omega)).mpr ⟨_, q + i, hqi, rfl, rfl⟩)) | (refine (if_neg (fun z => ?_)).mpr ⟨_, q + i, hqi, rfl, rfl⟩; have hi0 : i = 0 := (by omega); subst hi0; have h9 := h5 z.1; omega)
  intro k
  induction k with
  | zero =>
    intro i hi hj hqi
    have e0 : i = 5 := by omega
    subst e0
    have hfin := fin 5 (Nat.le_refl _) hj hqi (fun _ => rfl)
    refine at_aload_n dX9_name_21 rfl ?_
    refine at_aload_n dX9_name_22 rfl ?_
    refine at_geti flX9_57 rfl sd_119 dX9_name_23 ?_
    rw [pd_up_at]
    refine at_cv1 cvX9_60 sd_119 (ev_X9_byteAt hR (h.up (by decide)) (k := q + 5) (by omega)) (by decide) ⟨Nat.le_refl _, Nat.le_refl _⟩ (Nat.le_of_ble_eq_true rfl) dX9_name_26 (pd_k1 ?_)
    refine at_cs1 csX9_83 (ev_X9_isSmall _) (by decide) ⟨Nat.le_refl _, Nat.le_refl _⟩ (Nat.le_of_ble_eq_true rfl) dX9_name_29 (pd_k1 ?_)
    rw [fB_L h]
    refine at_ifeq (tgt := 77) dX9_name_32 (by decide) (fun c32 => ?_) (fun c32 => ?_)
    · -- taken 32
      exact hfin
    · -- not taken 32
      refine at_aload_n dX9_name_35 rfl ?_
      refine at_geti flX9_57 rfl sd_119 dX9_name_36 ?_
      rw [pd_up_at]
      refine at_iload_n dX9_name_39 rfl ?_
      refine at_isub dX9_name_40 ?_
      refine at_iconst dX9_name_41 pc_i5 ?_
      rw [pk_sub (by omega), Nat.add_sub_cancel_left]
      refine at_icmpge (tgt := 77) dX9_name_42 (by decide) (fun c42 => ?_) (fun c42 => ?_)
      · -- taken 42
        exact hfin
      · -- not taken 42
        exact absurd (nI_le (a := 5) (Nat.le_refl _) (by decide)) c42
  | succ k ih =>
    intro i hi hj hqi
    cases hL : isL B n (q + i) with
    | false =>
      have hfin := fin i (by omega) hj hqi (fun z => by rw [hL] at z; cases z)
      refine at_aload_n dX9_name_21 rfl ?_
      refine at_aload_n dX9_name_22 rfl ?_
      refine at_geti flX9_57 rfl sd_119 dX9_name_23 ?_
      rw [pd_up_at]
      refine at_cv1 cvX9_60 sd_119 (ev_X9_byteAt hR (h.up (by decide)) (k := q + i) (by omega)) (by decide) ⟨Nat.le_refl _, Nat.le_refl _⟩ (Nat.le_of_ble_eq_true rfl) dX9_name_26 (pd_k1 ?_)
      refine at_cs1 csX9_83 (ev_X9_isSmall _) (by decide) ⟨Nat.le_refl _, Nat.le_refl _⟩ (Nat.le_of_ble_eq_true rfl) dX9_name_29 (pd_k1 ?_)
      rw [fB_L h, hL]
      refine at_ifeq (tgt := 77) dX9_name_32 (by decide) (fun c32 => ?_) (fun c32 => ?_)
      · -- taken 32
        exact hfin
      · -- not taken 32
        exact absurd rfl c32
    | true =>
      have hlb := isL_b hL
      have e3 : fB B n (q + i) = nI (B (q + i)) := if_pos (by omega)
      have hlt := n27_lt (pfx B q i) 0 0 (by decide) (pfx_ok hj)
      rw [pfx_len] at hlt
      have hp5 : (27 : Nat) ^ (0 + i) ≤ 27 ^ 5 := Nat.pow_le_pow_right (by decide) (by omega)
      have h275 : (27 : Nat) ^ 5 < 2 ^ 24 := by decide
      have e4 : (27 : Int32) * nI (n27 0 (pfx B q i)) + nI (B (q + i)) - 97 + 1 = nI (n27 0 (pfx B q (i + 1))) := by
        rw [pfx_succ, n27_app, show (27 : Int32) = nI 27 from rfl, pk_mul, nI_add, show (97 : Int32) = nI 97 from rfl, pk_sub (by omega), nI_1]
        congr 1; omega
      refine at_aload_n dX9_name_21 rfl ?_
      refine at_aload_n dX9_name_22 rfl ?_
      refine at_geti flX9_57 rfl sd_119 dX9_name_23 ?_
      rw [pd_up_at]
      refine at_cv1 cvX9_60 sd_119 (ev_X9_byteAt hR (h.up (by decide)) (k := q + i) (by omega)) (by decide) ⟨Nat.le_refl _, Nat.le_refl _⟩ (Nat.le_of_ble_eq_true rfl) dX9_name_26 (pd_k1 ?_)
      refine at_cs1 csX9_83 (ev_X9_isSmall _) (by decide) ⟨Nat.le_refl _, Nat.le_refl _⟩ (Nat.le_of_ble_eq_true rfl) dX9_name_29 (pd_k1 ?_)
      rw [fB_L h, hL]
      refine at_ifeq (tgt := 77) dX9_name_32 (by decide) (fun c32 => ?_) (fun c32 => ?_)
      · -- taken 32
        exact absurd c32 (by decide)
      · -- not taken 32
        refine at_aload_n dX9_name_35 rfl ?_
        refine at_geti flX9_57 rfl sd_119 dX9_name_36 ?_
        rw [pd_up_at]
        refine at_iload_n dX9_name_39 rfl ?_
        refine at_isub dX9_name_40 ?_
        refine at_iconst dX9_name_41 pc_i5 ?_
        rw [pk_sub (by omega), Nat.add_sub_cancel_left]
        refine at_icmpge (tgt := 77) dX9_name_42 (by decide) (fun c42 => ?_) (fun c42 => ?_)
        · -- taken 42
          exact absurd c42 (nI_ge (b := 5) (by omega) (by decide))
        · -- not taken 42
          refine at_bipush dX9_name_45 pc_b27 ?_
          refine at_iload_n dX9_name_47 rfl ?_
          refine at_imul dX9_name_48 ?_
          refine at_aload_n dX9_name_49 rfl ?_
          refine at_aload_n dX9_name_50 rfl ?_
          refine at_geti flX9_57 rfl sd_119 dX9_name_51 ?_
          rw [pd_up_at]
          refine at_cv1 cvX9_60 sd_119 (ev_X9_byteAt hR (h.up (by decide)) (k := q + i) (by omega)) (by decide) ⟨Nat.le_refl _, Nat.le_refl _⟩ (Nat.le_of_ble_eq_true rfl) dX9_name_54 (pd_k1 ?_)
          rw [e3]
          refine at_iadd dX9_name_57 ?_
          refine at_bipush dX9_name_58 pc_b97 ?_
          refine at_isub dX9_name_60 ?_
          refine at_iconst dX9_name_61 pc_i1 ?_
          refine at_iadd dX9_name_62 ?_
          rw [e4]
          refine at_istore_n dX9_name_63 rfl (Nat.le_of_ble_eq_true rfl) ?_
          refine at_aload_n dX9_name_64 rfl ?_
          refine at_dup dX9_name_65 rfl ?_
          refine at_geti flX9_57 rfl sd_119 dX9_name_66 ?_
          rw [pd_up_at]
          refine at_iconst dX9_name_69 pc_i1 ?_
          refine at_iadd dX9_name_70 ?_
          rw [nI_1]
          refine at_puti flX9_57 rfl sd_119 (fun _ _ _ hq => by cases hq; rfl) dX9_name_71 ?_
          refine at_goto (tgt := 21) dX9_name_74 (by decide) ?_
          rw [pd_up_up, Nat.add_assoc]
          exact ih (i + 1) (by omega) (fun j hj2 => (Nat.lt_or_eq_of_le (Nat.le_of_lt_succ hj2)).elim (fun z => hj j z) (fun z => z ▸ hL)) (by omega)
theorem ev_X9_name (hR : RS R) (h : PX I B n) {p : Nat} (hat : I 119 4 = nI p) (hp : p ≤ n) (hf : I 119 6 = 0) : pd_Ev G mi_X9_name 3 0 0 [.ref (pd_z G + 119)] (SD, false, I, L, R) (fun o M' => if isL B n (sk B n p) = true ∧ (tkW B n (sk B n p)).length ≤ 5 then o = .inl (some (.int (nI (n27 0 (tkW B n (sk B n p)))))) ∧ M' = (SD, false, pd_up I 119 4 (nI (tkE B n (sk B n p))), L, R) else ∃ x p', p' ≤ n ∧ o = .inl (some (.int x)) ∧ M' = (SD, false, pd_up (pd_up (pd_up I 119 4 (nI p')) 119 6 (nI 1)) 119 7 (nI (sk B n p)), L, R)) := by
  have hn := h.2.1
  have hsn := sk_le (B := B) hp
  refine pd_ev 2 (lo := [some (.ref (pd_z G + 119)), none, none]) (by decide +kernel) (Nat.le_of_ble_eq_true rfl) rfl ?_
  refine at_aload_n dX9_name_0 rfl ?_
  refine at_cv0 cvX9_87 sd_119 (ev_X9_fine) (by decide) ⟨Nat.le_refl _, Nat.le_refl _⟩ (Nat.le_of_ble_eq_true rfl) dX9_name_1 (pd_k1 ?_)
  rw [decide_eq_true hf]
  refine at_ifne (tgt := 9) dX9_name_4 (by decide) (fun c4 => ?_) (fun c4 => ?_)
  · -- taken 4
    refine at_aload_n dX9_name_9 rfl ?_
    refine at_cv0 cvX9_70 sd_119 (ev_X9_here hR h hat (by omega)) (by decide) ⟨Nat.le_refl _, Nat.le_refl _⟩ (Nat.le_of_ble_eq_true rfl) dX9_name_10 (pd_k1 ?_)
    refine at_pop dX9_name_13 rfl ?_
    refine at_aload_n dX9_name_14 rfl ?_
    refine at_geti flX9_57 rfl sd_119 dX9_name_15 ?_
    rw [pd_up_at]
    refine at_istore_n dX9_name_18 rfl (Nat.le_of_ble_eq_true rfl) ?_
    refine at_iconst dX9_name_19 pc_i0 ?_
    refine at_istore_n dX9_name_20 rfl (Nat.le_of_ble_eq_true rfl) ?_
    exact lp_X9_name hR h hsn hf 5 0 (by omega) (fun j hj => absurd hj (Nat.not_lt_zero _)) (by omega)
  · -- not taken 4
    exact absurd c4 (by decide)
end PAR2
