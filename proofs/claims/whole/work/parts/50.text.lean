/-! ===== the reader and the desk: a text ===== -/
theorem pd_kTl {G : pd_G} {mi : pd_MI} {h mc ms cs ss pc : Nat} {lo : List (Option Value)} {st : List Value} {Q : pd_O → pd_M → Prop} {I L R} {z : LSt} (K : ∀ I', FC I I' → I' 1 4 = nI z.1 → I' 1 5 = nI z.2.1 → RwP I' L 8 z.2.2 → pd_At G mi h mc ms cs ss (pc + 3) lo (.int 1 :: st) (SD, false, I', L, R) Q) : ∀ o M', QT I L R (.inl z) o M' → pd_Kc G mi h mc ms cs ss pc lo st Q o M' := fun o M' hq => by
  obtain ⟨I', rfl, h1, rfl, h2, h3, h4⟩ := hq
  exact K I' h1 h2 h3 h4
theorem pd_kTr {G : pd_G} {mi : pd_MI} {h mc ms cs ss pc : Nat} {lo : List (Option Value)} {st : List Value} {Q : pd_O → pd_M → Prop} {I L R} {z : Nat × Nat} (K : ∀ I', FC I I' → I' 1 2 = nI z.1 → I' 1 3 = nI z.2 → pd_At G mi h mc ms cs ss (pc + 3) lo (.int 0 :: st) (SD, false, I', L, R) Q) : ∀ o M', QT I L R (.inr z) o M' → pd_Kc G mi h mc ms cs ss pc lo st Q o M' := fun o M' hq => by
  obtain ⟨I', rfl, h1, rfl, h2, h3⟩ := hq
  exact K I' h1 h2 h3
def QR (I : Nat → Nat → Int32) (L : Nat → Nat → Int64) (R : Nat → Nat → Option Nat) (res : RW ⊕ (Nat × Nat)) : pd_O → pd_M → Prop := fun o M => ∃ I', M = (SD, false, I', L, R) ∧ FC I I' ∧ match res with
  | .inl w => o = .inl (some (.int 1)) ∧ RwP I' L 8 w
  | .inr z => o = .inl (some (.int 0)) ∧ I' 1 2 = nI z.1 ∧ I' 1 3 = nI z.2
theorem QR.fr {I I1 : Nat → Nat → Int32} {L : Nat → Nat → Int64} {R : Nat → Nat → Option Nat} {res} {o : pd_O} {M : pd_M} (hF : FC I I1) (h : QR I1 L R res o M) : QR I L R res o M := by
  obtain ⟨I', h1, h2, h3⟩ := h
  exact ⟨I', h1, hF.tr h2, h3⟩
section TEXT
variable {G : pd_G} {I : Nat → Nat → Int32} {L : Nat → Nat → Int64} {R : Nat → Nat → Option Nat} {T : TS} {N i m : Nat} {w : RW}
theorem lp_X6_read (hT : TOK T N) (hR : RS R) {f : Nat} {b : Int32} {res : RW ⊕ (Nat × Nat)} : ∀ (g i m : Nat) (w : RW) (I : Nat → Nat → Int32) (k : Nat), k ≤ i → RD I T N i → I 1 5 = nI m → RwP I L 8 w → LI m w → pText T f g i m w = some res → pd_At G mi_X6_read 22 0 0 0 0 9 [some (.ref (pd_z G + 1)), some (.int b), some (.int 1), some (.int (nI k))] [] (SD, false, I, L, R) (QR I L R res)
  | 0, i, m, w, I, k, _, _, _, _, _, hp => by cases hp
  | g + 1, i, m, w, I, k, hki, h, hm, hP, hJ, hp => by
    have h600 := h.1.1
    have hk := h.1.2 i h.2.2
    have hiN := h.2.2
    have e0 : nI (T.1 i) = 0 ↔ T.1 i = 0 := nI_eq (b := 0) (by omega) (by decide)
    unfold pText at hp
    by_cases k0 : T.1 i = 0
    · rw [if_pos k0] at hp
      cases hp
      refine at_iload_n dX6_read_9 rfl ?_
      refine at_sipush dX6_read_10 pc_s600 ?_
      refine at_icmpge (tgt := 191) dX6_read_13 (by decide) (fun c13 => ?_) (fun c13 => ?_)
      · -- taken 13
        refine at_iload_n dX6_read_191 rfl ?_
        refine at_zret rfl dX6_read_192 (by first | exact Or.inl rfl | exact Or.inr rfl | assumption) ?_
        exact ⟨I, rfl, FC.rf, rfl, hP⟩
      · -- not taken 13
        refine at_iload_n dX6_read_16 rfl ?_
        refine at_ifeq (tgt := 191) dX6_read_17 (by decide) (fun c17 => ?_) (fun c17 => ?_)
        · -- taken 17
          exact absurd c17 (by decide)
        · -- not taken 17
          refine at_aload_n dX6_read_20 rfl ?_
          refine at_cv0 cvX6_29 sd_1 (ev_X6_kind hR h) (by decide) ⟨Nat.le_refl _, Nat.le_refl _⟩ (Nat.le_of_ble_eq_true rfl) dX6_read_21 (pd_k1 ?_)
          refine at_ifeq (tgt := 191) dX6_read_24 (by decide) (fun c24 => ?_) (fun c24 => ?_)
          · -- taken 24
            refine at_iload_n dX6_read_191 rfl ?_
            refine at_zret rfl dX6_read_192 (by first | exact Or.inl rfl | exact Or.inr rfl | assumption) ?_
            exact ⟨I, rfl, FC.rf, rfl, hP⟩
          · -- not taken 24
            exact absurd (e0.mpr k0) c24
    · rw [if_neg k0] at hp
      have hlt := hT.lt hiN k0
      have t31 : ¬ (600 : Int32) ≤ nI k := nI_ge (b := 600) (by omega) (by decide)
      unfold pLine at hp
      cases hy : pTold T f i m w with
      | none => rw [hy] at hp; cases hp
      | some y =>
        rw [hy] at hp
        have key : pd_At G mi_X6_read 22 0 0 0 0 27 [some (.ref (pd_z G + 1)), some (.int b), some (.int 1), some (.int (nI k))] [] (SD, false, I, L, R) (QR I L R res) := by
          refine at_told hR h hT hm hP hJ hy (fun x I2 hq => ?_)
          cases y with
          | inr z =>
            cases hp
            obtain ⟨rfl, hF, h2, h3⟩ := hq.r
            refine at_iload_n dX6_read_166 rfl ?_
            refine at_ifeq (tgt := 183) dX6_read_167 (by decide) (fun c167 => ?_) (fun c167 => ?_)
            · -- taken 167
              refine at_iconst dX6_read_183 pc_i0 ?_
              refine at_istore_n dX6_read_184 rfl (Nat.le_of_ble_eq_true rfl) ?_
              refine at_inc dX6_read_185 rfl pc_i1 rfl (Nat.le_of_ble_eq_true rfl) ?_
              refine at_goto (tgt := 9) dX6_read_188 (by decide) ?_
              refine at_iload_n dX6_read_9 rfl ?_
              refine at_sipush dX6_read_10 pc_s600 ?_
              refine at_icmpge (tgt := 191) dX6_read_13 (by decide) (fun c13 => ?_) (fun c13 => ?_)
              · -- taken 13
                refine at_iload_n dX6_read_191 rfl ?_
                refine at_zret rfl dX6_read_192 (by first | exact Or.inl rfl | exact Or.inr rfl | assumption) ?_
                exact ⟨I2, rfl, hF, rfl, h2, h3⟩
              · -- not taken 13
                refine at_iload_n dX6_read_16 rfl ?_
                refine at_ifeq (tgt := 191) dX6_read_17 (by decide) (fun c17 => ?_) (fun c17 => ?_)
                · -- taken 17
                  refine at_iload_n dX6_read_191 rfl ?_
                  refine at_zret rfl dX6_read_192 (by first | exact Or.inl rfl | exact Or.inr rfl | assumption) ?_
                  exact ⟨I2, rfl, hF, rfl, h2, h3⟩
                · -- not taken 17
                  exact absurd rfl c17
            · -- not taken 167
              exact absurd rfl c167
          | inl y =>
            obtain ⟨a1, a2, a3⟩ := pTold_ok hT hiN hJ hy
            obtain ⟨rfl, hF, h2, h3, h4⟩ := hq.l
            by_cases k59 : T.1 y.1 = 59
            · simp only [k59, if_true] at hp
              have hlt2 := hT.lt a2 (by omega)
              have cs := (show pd_Ev G mi_X6_takeSign 2 0 0 [.ref (pd_z G + 1), .int (nI 59)] (SD, false, I2, L, R) (pd_rt (.int 1) (SD, false, pd_up I2 1 4 (nI (y.1 + 1)), L, R)) from by
                have := ev_X6_takeSign (G := G) (L := L) (c := 59) hR (⟨h.1.fc hF, h2, a2⟩ : RD I2 T N y.1) (by decide) (by decide) hT
                simp only [k59, if_true] at this
                exact this)
              have ih := lp_X6_read (b := b) hT hR g (y.1 + 1) y.2.1 y.2.2 (pd_up I2 1 4 (nI (y.1 + 1))) (k + 1) (by omega) ⟨(h.1.fc hF).fc (FC.rf.up (by omega)), pd_up_at, hlt2⟩ (by rw [up4_5]; exact h3) (RwP.fr h4 (fun a h1 h2 j => up4_out (by omega)) (fun _ => rfl)) a3 hp
              refine at_iload_n dX6_read_166 rfl ?_
              refine at_ifeq (tgt := 183) dX6_read_167 (by decide) (fun c167 => ?_) (fun c167 => ?_)
              · -- taken 167
                exact absurd c167 (by decide)
              · -- not taken 167
                refine at_aload_n dX6_read_170 rfl ?_
                refine at_bipush dX6_read_171 pc_b59 ?_
                refine at_cv1 cvX6_69 sd_1 (cs) (by decide) ⟨Nat.le_refl _, Nat.le_refl _⟩ (Nat.le_of_ble_eq_true rfl) dX6_read_173 (pd_k1 ?_)
                refine at_ifeq (tgt := 183) dX6_read_176 (by decide) (fun c176 => ?_) (fun c176 => ?_)
                · -- taken 176
                  exact absurd c176 (by decide)
                · -- not taken 176
                  refine at_iconst dX6_read_179 pc_i1 ?_
                  refine at_goto (tgt := 184) dX6_read_180 (by decide) ?_
                  refine at_istore_n dX6_read_184 rfl (Nat.le_of_ble_eq_true rfl) ?_
                  refine at_inc dX6_read_185 rfl pc_i1 rfl (Nat.le_of_ble_eq_true rfl) ?_
                  refine at_goto (tgt := 9) dX6_read_188 (by decide) ?_
                  rw [nI_1]
                  exact pd_At_mono ih (fun o M' hq => QR.fr (hF.up (by omega)) hq)
            · simp only [k59, if_false] at hp
              cases hp
              have cs := (show pd_Ev G mi_X6_takeSign 2 0 0 [.ref (pd_z G + 1), .int (nI 59)] (SD, false, I2, L, R) (pd_rt (.int 0) (SD, false, rfI I2 (1, T.2.2.2 y.1), L, R)) from by
                have := ev_X6_takeSign (G := G) (L := L) (c := 59) hR (⟨h.1.fc hF, h2, a2⟩ : RD I2 T N y.1) (by decide) (by decide) hT
                simp only [k59, if_false] at this
                exact this)
              refine at_iload_n dX6_read_166 rfl ?_
              refine at_ifeq (tgt := 183) dX6_read_167 (by decide) (fun c167 => ?_) (fun c167 => ?_)
              · -- taken 167
                exact absurd c167 (by decide)
              · -- not taken 167
                refine at_aload_n dX6_read_170 rfl ?_
                refine at_bipush dX6_read_171 pc_b59 ?_
                refine at_cv1 cvX6_69 sd_1 (cs) (by decide) ⟨Nat.le_refl _, Nat.le_refl _⟩ (Nat.le_of_ble_eq_true rfl) dX6_read_173 (pd_k1 ?_)
                refine at_ifeq (tgt := 183) dX6_read_176 (by decide) (fun c176 => ?_) (fun c176 => ?_)
                · -- taken 176
                  refine at_iconst dX6_read_183 pc_i0 ?_
                  refine at_istore_n dX6_read_184 rfl (Nat.le_of_ble_eq_true rfl) ?_
                  refine at_inc dX6_read_185 rfl pc_i1 rfl (Nat.le_of_ble_eq_true rfl) ?_
                  refine at_goto (tgt := 9) dX6_read_188 (by decide) ?_
                  refine at_iload_n dX6_read_9 rfl ?_
                  refine at_sipush dX6_read_10 pc_s600 ?_
                  refine at_icmpge (tgt := 191) dX6_read_13 (by decide) (fun c13 => ?_) (fun c13 => ?_)
                  · -- taken 13
                    refine at_iload_n dX6_read_191 rfl ?_
                    refine at_zret rfl dX6_read_192 (by first | exact Or.inl rfl | exact Or.inr rfl | assumption) ?_
                    exact ⟨_, rfl, hF.rfI, rfl, rfI_2.1, rfI_2.2⟩
                  · -- not taken 13
                    refine at_iload_n dX6_read_16 rfl ?_
                    refine at_ifeq (tgt := 191) dX6_read_17 (by decide) (fun c17 => ?_) (fun c17 => ?_)
                    · -- taken 17
                      refine at_iload_n dX6_read_191 rfl ?_
                      refine at_zret rfl dX6_read_192 (by first | exact Or.inl rfl | exact Or.inr rfl | assumption) ?_
                      exact ⟨_, rfl, hF.rfI, rfl, rfI_2.1, rfI_2.2⟩
                    · -- not taken 17
                      exact absurd rfl c17
                · -- not taken 176
                  exact absurd rfl c176
        refine at_iload_n dX6_read_9 rfl ?_
        refine at_sipush dX6_read_10 pc_s600 ?_
        refine at_icmpge (tgt := 191) dX6_read_13 (by decide) (fun c13 => ?_) (fun c13 => ?_)
        · -- taken 13
          exact absurd c13 t31
        · -- not taken 13
          refine at_iload_n dX6_read_16 rfl ?_
          refine at_ifeq (tgt := 191) dX6_read_17 (by decide) (fun c17 => ?_) (fun c17 => ?_)
          · -- taken 17
            exact absurd c17 (by decide)
          · -- not taken 17
            refine at_aload_n dX6_read_20 rfl ?_
            refine at_cv0 cvX6_29 sd_1 (ev_X6_kind hR h) (by decide) ⟨Nat.le_refl _, Nat.le_refl _⟩ (Nat.le_of_ble_eq_true rfl) dX6_read_21 (pd_k1 ?_)
            refine at_ifeq (tgt := 191) dX6_read_24 (by decide) (fun c24 => ?_) (fun c24 => ?_)
            · -- taken 24
              exact absurd (e0.mp c24) k0
            · -- not taken 24
              exact key
end TEXT
/-! what stands on the tape, word by word -/
def tT (B : Nat → Nat) (n : Nat) : TS := (fun i => tkK B n (tq B n i), fun i => tkN B n (tq B n i), fun i => tkW B n (tq B n i), tq B n)
theorem kwF_b (B : Nat → Nat) (n k : Nat) : ∀ (ws : List (List Nat)) (c : Nat), c ≤ kwF B n k ws c ∧ kwF B n k ws c ≤ c + ws.length
  | [], c => by simp [kwF]
  | w :: ws, c => by
    unfold kwF
    split
    · simp
    · have := kwF_b B n k ws (c + 1)
      simp; omega
theorem kwF_17 (B : Nat → Nat) (n k : Nat) : 1 ≤ kwF B n k wds 1 ∧ kwF B n k wds 1 ≤ 17 := kwF_b B n k wds 1
theorem kwF_at {B : Nat → Nat} {n k : Nat} : ∀ (ws : List (List Nat)) (c r : Nat), kwF B n k ws c = r → r < c + ws.length → isW B n k (ws.getD (r - c) []) = true
  | [], c, r, h, h2 => by simp [kwF] at h h2; omega
  | w :: ws, c, r, h, h2 => by
    unfold kwF at h
    split at h
    · rename_i hw
      subst h; rw [Nat.sub_self]; exact hw
    · have hb := kwF_b B n k ws (c + 1)
      have := kwF_at ws (c + 1) r h (by simp at h2; omega)
      rw [show r - c = (r - (c + 1)) + 1 by omega, List.getD_cons_succ]
      exact this
theorem isW_in {B : Nat → Nat} {n : Nat} : ∀ (w : List Nat) (k : Nat), (∀ c ∈ w, 97 ≤ c ∧ c ≤ 122) → isW B n k w = true → rnE (isL B n) n k = k + w.length ∧ (w ≠ [] → k < n)
  | [], k, _, h => by
    rw [isW] at h
    have : isL B n k = false := by simpa using h
    exact ⟨by rw [rnE_no this]; rfl, fun q => absurd rfl q⟩
  | c :: w, k, hw, h => by
    rw [isW] at h
    simp only [Bool.and_eq_true, decide_eq_true_eq] at h
    obtain ⟨⟨h1, h2⟩, h3⟩ := h
    have hc := hw c List.mem_cons_self
    have hl : isL B n k = true := by simp [isL, h1, h2, hc]
    have := isW_in w (k + 1) (fun x hx => hw x (List.mem_cons_of_mem _ hx)) h3
    exact ⟨by rw [rnE_yes h1 hl, this.1, List.length_cons]; omega, fun _ => h1⟩
section TOKS
variable {B : Nat → Nat} {n : Nat}
theorem tkK_L {k : Nat} (hk : k < n) (h : 1 ≤ tkK B n k ∧ tkK B n k ≤ 17) : isL B n k = true := by
  unfold tkK at h
  rw [if_neg (by omega)] at h
  by_cases hl : isL B n k = true
  · exact hl
  · rw [if_neg hl] at h
    by_cases hd : isD B n k = true
    · rw [if_pos hd] at h; omega
    · rw [if_neg hd] at h
      split at h <;> omega
theorem tkK_D {k : Nat} (hk : k < n) (h : tkK B n k = 18) : isD B n k = true := by
  unfold tkK at h
  rw [if_neg (by omega)] at h
  by_cases hl : isL B n k = true
  · rw [if_pos hl] at h
    have := kwF_17 B n k
    omega
  · rw [if_neg hl] at h
    by_cases hd : isD B n k = true
    · exact hd
    · rw [if_neg hd] at h
      split at h <;> omega
theorem tkK_lt (k : Nat) : tkK B n k < 128 := by
  unfold tkK
  have := kwF_17 B n k
  repeat' split
  all_goals omega
theorem tkK_w {k c : Nat} (hk : k < n) (h : tkK B n k = c) (h1 : 1 ≤ c) (h2 : c ≤ 17) : isL B n k = true ∧ kwF B n k wds 1 = c := by
  have hl := tkK_L (B := B) hk (by omega)
  unfold tkK at h
  rw [if_neg (by omega), if_pos hl] at h
  exact ⟨hl, h⟩
theorem kw_9 {k : Nat} (h : kwF B n k wds 1 = 9) : isW B n k [111, 114] = true := kwF_at wds 1 9 h (by decide)
theorem kw_10 {k : Nat} (h : kwF B n k wds 1 = 10) : isW B n k [97, 110, 100] = true := kwF_at wds 1 10 h (by decide)
theorem kw_11 {k : Nat} (h : kwF B n k wds 1 = 11) : isW B n k [110, 111, 116] = true := kwF_at wds 1 11 h (by decide)
theorem tT_ok {c : Nat} (hn : n ≤ 600) (h1 : tq B n c = n) (h2 : ∀ i, i < c → tq B n i < n) (h3 : c ≤ n) : TOK (tT B n) c := by
  have hE : ∀ i w, i < c → isL B n (tq B n i) = true → (∀ x ∈ w, 97 ≤ x ∧ x ≤ 122) → isW B n (tq B n i) w = true → tq B n i + w.length ≤ tq B n (i + 1) := by
    intro i w hi hl hw hW
    have e1 := (isW_in w _ hw hW).1
    have e2 : tkE B n (tq B n i) = tq B n i + w.length := by
      unfold tkE
      rw [if_neg (by have := h2 i hi; omega), if_pos hl, e1]
    show _ ≤ sk B n (tkE B n (tq B n i))
    rw [e2]; exact sk_ge _
  refine ⟨by omega, ?_, by show tq B n c ≤ 600; omega, fun i hi => tq_gt (h2 i hi), fun i hi hk => ?_, fun i hi hk => ?_⟩
  · show tkK B n (tq B n c) = 0
    rw [h1, tkK, if_pos (Nat.le_refl _)]
  · obtain ⟨hl, hw⟩ := tkK_w (h2 i hi) hk (by omega) (by omega)
    exact hE i [111, 114] hi hl (by decide) (kw_9 hw)
  · rcases hk with hk | hk
    · obtain ⟨hl, hw⟩ := tkK_w (h2 i hi) hk (by omega) (by omega)
      exact hE i [97, 110, 100] hi hl (by decide) (kw_10 hw)
    · obtain ⟨hl, hw⟩ := tkK_w (h2 i hi) hk (by omega) (by omega)
      exact hE i [110, 111, 116] hi hl (by decide) (kw_11 hw)
theorem tkW_ok {k : Nat} (h : isL B n k = true) : tkW B n k ≠ [] ∧ ∀ x ∈ tkW B n k, 1 ≤ x ∧ x ≤ 26 := by
  have h1 := tkW_long (B := B) (n := n) (q := k) (i := 0) (fun j hj => by rw [show j = 0 by omega]; exact h)
  refine ⟨fun q => by rw [q] at h1; exact absurd h1 (Nat.not_lt_zero _), fun x hx => ?_⟩
  simp only [tkW, List.mem_map, List.mem_range] at hx
  obtain ⟨j, hj, rfl⟩ := hx
  have := isL_b (rnE_in (isL B n) (n := n) (k := k) (j := k + j) (by omega) (by omega))
  omega
theorem tT_rt {I : Nat → Nat → Int32} {c : Nat} (hn : n ≤ 600) (h1 : tq B n c = n) (h2 : ∀ i, i < c → tq B n i < n) (h3 : c ≤ n) (h4 : TA I B n (c + 1)) : RT I (tT B n) c := by
  refine ⟨by omega, fun j hj => ?_⟩
  obtain ⟨a1, a2, a3⟩ := h4 j (by omega)
  refine ⟨a1, a2, tkK_lt _, Nat.le_trans (tq_le j) hn, fun q => ?_, fun q => ?_⟩
  · have hlt : tq B n j < n := by
      rcases Nat.lt_or_eq_of_le hj with q2 | rfl
      · exact h2 j q2
      · have q : tkK B n (tq B n j) = 18 := q
        rw [h1, tkK, if_pos (Nat.le_refl _)] at q; cases q
    exact a3.2 (tkK_D hlt q)
  · have hlt : tq B n j < n := by
      rcases Nat.lt_or_eq_of_le hj with q2 | rfl
      · exact h2 j q2
      · have q : 1 ≤ tkK B n (tq B n j) ∧ _ := q
        rw [h1, tkK, if_pos (Nat.le_refl _)] at q; omega
    have hl := tkK_L hlt q
    exact ⟨a3.1 hl, tkW_ok hl⟩
end TOKS
/-- nothing told -/
def r00 : Nat → Int32 := fun k => if k = 3 then 1 else if k = 5 then 999 else if k = 6 then 100 else if k = 7 then 50 else 0
def w00 : RW := (r00, 0, 0, 0, [])
theorem LI.w00 : LI 0 w00 := by
  have o : ∀ k, 8 ≤ k → r00 k = 0 := fun k hk => by unfold r00; rw [if_neg (by omega), if_neg (by omega), if_neg (by omega), if_neg (by omega)]
  refine ⟨⟨⟨rfl, by decide⟩, ⟨rfl, by decide⟩, ⟨rfl, by decide⟩, ⟨1, by decide, rfl⟩, ⟨50, by decide, by decide, rfl⟩, fun l hl => absurd hl (Nat.not_lt_zero _), fun l hl => absurd hl (Nat.not_lt_zero _), fun s hs => Or.inl (o _ (by omega)), fun s h1 h2 => o _ (by omega), fun k hk => Or.inl (o _ (by omega)), fun w l h1 h2 h3 => o _ (by omega), rfl, fun j x hj => (by cases hj), rfl, by decide, Or.inl rfl⟩, by decide, fun _ => ⟨rfl, fun k h1 h2 => o k (by omega)⟩, fun s hs => o _ (by omega), fun k h1 h2 => o k (by omega)⟩
/-- what a text says -/
def rdT (B : Nat → Nat) (n : Nat) : RW ⊕ (Nat × Nat) := match pText (tT B n) 3100 700 0 0 w00 with
  | some r => r
  | none => .inr (0, 0)
theorem rdT_eq {B : Nat → Nat} {n c : Nat} (hT : TOK (tT B n) c) : pText (tT B n) 3100 700 0 0 w00 = some (rdT B n) := by
  have h6 := hT.1
  have := pText_ends hT (f := 3100) (by omega) 700 0 0 w00 (Nat.zero_le _) LI.w00 (by omega)
  unfold rdT
  cases h : pText (tT B n) 3100 700 0 0 w00 with
  | none => exact absurd h this
  | some r => rfl
theorem x_clear_pet {I : Nat → Nat → Int32} {L : Nat → Nat → Int64} : PetRel (x_clear I 8) (pd_up (pd_up L 8 17 0) 8 18 0) 8 r00 0 0 0 [] := by
  have c : ∀ j, x_clear I 8 8 j = if j = 15 then 50 else if j = 14 then 100 else if j = 13 then 999 else if j = 12 then 0 else if j = 11 then 1 else if j = 6 then 0 else if j = 5 then 0 else if j = 4 then 0 else if j = 0 then 0 else I 8 j := fun j => by simp [x_clear, pd_up]
  refine ⟨⟨by rw [c]; rfl, by rw [c]; rfl, by rw [c]; rfl, by rw [c]; rfl, by rw [c]; rfl, by rw [c]; rfl, by rw [c]; rfl, by rw [c]; rfl⟩, fun v hv => absurd hv (Nat.not_lt_zero _), fun l hl => absurd hl (Nat.not_lt_zero _), ?_, ?_, ?_, by simp [x_clear, pd_up, nI], by decide, fun j q hq => by cases hq⟩
  · rw [c, bsum_none (fun s hs => ?_)]
    · rfl
    · have : r00 (57 + s) = 0 := by unfold r00; rw [if_neg (by omega), if_neg (by omega), if_neg (by omega), if_neg (by omega)]
      rw [this]; decide
  · rw [pd_up_nj (by decide), pd_up_at, bsum_none (fun s hs => ?_)]
    · rfl
    · have : r00 (225 + s) = 0 := by unfold r00; rw [if_neg (by omega), if_neg (by omega), if_neg (by omega), if_neg (by omega)]
      rw [this]; decide
  · rw [pd_up_at, bsum_none (fun s hs => ?_)]
    · rfl
    · have : r00 (265 + s) = 0 := by unfold r00; rw [if_neg (by omega), if_neg (by omega), if_neg (by omega), if_neg (by omega)]
      rw [this]; decide
section TEXT2
variable {G : pd_G} {I : Nat → Nat → Int32} {L : Nat → Nat → Int64} {R : Nat → Nat → Option Nat} {B : Nat → Nat} {n : Nat}
/-- a text is read -/
def QX (I : Nat → Nat → Int32) (L : Nat → Nat → Int64) (R : Nat → Nat → Option Nat) (res : RW ⊕ (Nat × Nat)) : pd_O → pd_M → Prop := fun o M => ∃ I', M = (SD, false, I', pd_up (pd_up L 8 17 0) 8 18 0, R) ∧ (∀ a j, a = 0 ∨ (6 ≤ a ∧ a < 8) ∨ 17 < a → I' a j = I a j) ∧ match res with
  | .inl w => o = .inl (some (.int 1)) ∧ RwP I' (pd_up (pd_up L 8 17 0) 8 18 0) 8 w
  | .inr z => o = .inl (some (.int 0)) ∧ I' 1 2 = nI z.1 ∧ I' 1 3 = nI z.2
theorem ev_X6_begin (hR : RS R) (hB : ∀ k, k < n → B k < 256 ∧ I 7 k = sb (B k)) (hn : n ≤ 600) : pd_Ev G mi_X6_begin 7 0 0 [.ref (pd_z G + 1), .int (nI n)] (SD, false, I, L, R) (pd_re R fun I3 L3 => ∃ I2 L2, SOut I B n I2 L L2 ∧ I3 = pd_up (pd_up (x_clear I2 8) 1 4 0) 1 5 0 ∧ L3 = pd_up (pd_up L2 8 17 0) 8 18 0) := by
  refine pd_ev 0 (lo := [some (.ref (pd_z G + 1)), some (.int (nI n))]) (by decide +kernel) (Nat.le_of_ble_eq_true rfl) rfl ?_
  refine at_aload_n dX6_begin_0 rfl ?_
  refine at_getr (2) flX6_12 rfl sd_1 (rs_1_0 hR) dX6_begin_1 ?_
  refine at_iload_n dX6_begin_4 rfl ?_
  refine at_cv1 cvX6_73 sd_2 (ev_X7_scan (B := B) hR hB hn) (by decide) ⟨Nat.le_refl _, Nat.le_refl _⟩ (Nat.le_of_ble_eq_true rfl) dX6_begin_5 (pd_ke fun I2 L2 h2 => ?_)
  refine at_aload_n dX6_begin_8 rfl ?_
  refine at_getr (8) flX6_21 rfl sd_1 (rs_1_1 hR) dX6_begin_9 ?_
  refine at_cv0 cvX6_76 (sd_P0 pb_8) (ev_X3_clear hR pb_8) (by decide) ⟨Nat.le_refl _, Nat.le_refl _⟩ (Nat.le_of_ble_eq_true rfl) dX6_begin_12 (pd_k0 ?_)
  refine at_aload_n dX6_begin_15 rfl ?_
  refine at_iconst dX6_begin_16 pc_i0 ?_
  refine at_puti flX6_79 rfl sd_1 (fun _ _ _ hq => by cases hq; rfl) dX6_begin_17 ?_
  refine at_aload_n dX6_begin_20 rfl ?_
  refine at_iconst dX6_begin_21 pc_i0 ?_
  refine at_puti flX6_83 rfl sd_1 (fun _ _ _ hq => by cases hq; rfl) dX6_begin_22 ?_
  refine at_vret rfl dX6_begin_25 ?_
  exact ⟨rfl, _, _, rfl, I2, L2, h2, rfl, rfl⟩
theorem ev_X6_read (hR : RS R) (hB : ∀ k, k < n → B k < 256 ∧ I 7 k = sb (B k)) (hn : n ≤ 600) : pd_Ev G mi_X6_read 22 0 0 [.ref (pd_z G + 1), .int (nI n)] (SD, false, I, L, R) (QX I L R (rdT B n)) := by
  refine pd_ev 2 (lo := [some (.ref (pd_z G + 1)), some (.int (nI n)), none, none]) (by decide +kernel) (Nat.le_of_ble_eq_true rfl) rfl ?_
  refine at_aload_n dX6_read_0 rfl ?_
  refine at_iload_n dX6_read_1 rfl ?_
  refine at_cv1 cvX6_25 sd_1 (ev_X6_begin (B := B) hR hB hn) (by decide) ⟨Nat.le_refl _, Nat.le_refl _⟩ (Nat.le_of_ble_eq_true rfl) dX6_read_2 (pd_ke fun I3 L3 h3 => ?_)
  obtain ⟨I2, L2, ⟨rfl, hSF, hTB, c, hc1, hc2, hc3, hTA⟩, rfl, rfl⟩ := h3
  refine at_iconst dX6_read_5 pc_i1 ?_
  refine at_istore_n dX6_read_6 rfl (Nat.le_of_ble_eq_true rfl) ?_
  refine at_iconst dX6_read_7 pc_i0 ?_
  refine at_istore_n dX6_read_8 rfl (Nat.le_of_ble_eq_true rfl) ?_
  skip
  have hTok := tT_ok (B := B) hn hc2 hc3 hc1
  have hcl : ∀ a j, a < 8 ∨ 17 < a → x_clear I2 8 a j = I2 a j := fun a j ha => by
    unfold x_clear
    simp (disch := omega) only [pd_up_nb]
  have hRT : RT (pd_up (pd_up (x_clear I2 8) 1 4 0) 1 5 0) (tT B n) c := (tT_rt hn hc2 hc3 hc1 hTA).fr (fun a h1 h2 j => by rw [pd_up_nb (by omega), pd_up_nb (by omega), hcl a j (by omega)])
  have h := lp_X6_read (G := G) (L := pd_up (pd_up L2 8 17 0) 8 18 0) (b := nI n) hTok hR 700 0 0 w00 (pd_up (pd_up (x_clear I2 8) 1 4 0) 1 5 0) 0 (Nat.le_refl _) ⟨hRT, by rw [pd_up_nj (by decide), pd_up_at]; rfl, Nat.zero_le _⟩ pd_up_at (RwP.fr (w := w00) (show PetRel _ _ 8 r00 0 0 0 [] from x_clear_pet (I := I2) (L := L2)) (fun a h1 h2 j => by rw [pd_up_nb (by omega), pd_up_nb (by omega)]) (fun _ => rfl)) LI.w00 (rdT_eq hTok)
  refine pd_At_mono h ?_
  rintro o M' ⟨I', h1, h2, h3⟩
  refine ⟨I', h1, fun a j ha => ?_, h3⟩
  rw [h2 a j (by omega) (by omega), pd_up_nb (by omega), pd_up_nb (by omega), hcl a j (by omega)]
  exact hSF a (by omega) j
end TEXT2
