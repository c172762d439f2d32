/-! ===== the reader: all of a text ===== -/
section PURE
variable {T : TS} {N : Nat}
theorem pTold_ok (hT : TOK T N) {f i m : Nat} {w : RW} (hi : i ≤ N) (hJ : LI m w) {z : LSt} (h : pTold T f i m w = some (.inl z)) : i < z.1 ∧ z.1 ≤ N ∧ LI z.2.1 z.2.2 := by
  obtain ⟨r, nv, ns, nl, e⟩ := w
  have hJ : LJ m r nv ns nl e := hJ
  have key : ∀ {lo up k v : Nat}, 3 ≤ k ∧ k ≤ 7 → (k = 3 → up ≤ 40) → (k = 7 → 1 ≤ lo ∧ up ≤ 499) → 4 ≤ T.1 i ∧ T.1 i ≤ 7 → pOne T i m (r, nv, ns, nl, e) k lo up = .inl z → i < z.1 ∧ z.1 ≤ N ∧ LI z.2.1 z.2.2 := by
    intro lo up k v hk h3 h7 hki hp
    unfold pOne at hp
    split at hp
    · cases hp
    · rename_i hb
      split at hp
      · cases hp
      · rename_i v hv
        cases hp
        obtain ⟨s1, s2, s3, -⟩ := pNum_ok hv
        have l1 := hT.lt hi (by omega)
        have l2 := hT.lt (i := i + 1) l1 (by omega)
        exact ⟨by show i < i + 2; omega, l2, LJ.few hJ hk (fun q => Nat.le_trans s3 (h3 q)) (fun q => ⟨Nat.le_trans (h7 q).1 s2, Nat.le_trans s3 (h7 q).2⟩) (or_lt hJ.2.1 (by omega)) (by rw [or_bit]; simp; intro q; omega)⟩
  unfold pTold at h
  split at h
  · rename_i hk
    simp only [Option.some.injEq] at h
    unfold pVoter at h
    split at h
    · cases h
    · rename_i hv
      split at h
      · cases h
      · rename_i nm hn
        split at h
        · cases h
        · rename_i s hs
          split at h
          · cases h
          · split at h
            · cases h
            · rename_i d hd
              cases h
              have l1 := hT.lt hi (by omega)
              have l2 := hT.lt (i := i + 1) l1 (by have := (pName_ok hn).1; omega)
              have l3 := hT.lt (i := i + 2) l2 (by have := (pNum_ok hs).1; omega)
              have l4 := hT.lt (i := i + 3) l3 (by have := (pNum_ok hd).1; omega)
              exact ⟨by show i < i + 4; omega, l4, LJ.voter hJ (Nat.not_le.mp hv)⟩
  · split at h
    · rename_i hk
      simp only [Option.some.injEq] at h
      unfold pSheet at h
      split at h
      · cases h
      · rename_i hv
        cases h
        have l1 := hT.lt hi (by omega)
        exact ⟨by show i < i + 1; omega, l1, LJ.sheet hJ (Nat.not_le.mp hv)⟩
    · split at h
      · rename_i hk
        simp only [Option.some.injEq] at h
        unfold pSign at h
        split at h
        · cases h
        · rename_i hz
          split at h
          · cases h
          · rename_i hv
            split at h
            · cases h
            · rename_i nm hn
              split at h
              · cases h
              · rename_i s hs
                split at h
                · cases h
                · rename_i d hd
                  cases h
                  have l1 := hT.lt hi (by omega)
                  have l2 := hT.lt (i := i + 1) l1 (by have := (pName_ok hn).1; omega)
                  have l3 := hT.lt (i := i + 2) l2 (by have := (pNum_ok hs).1; omega)
                  have l4 := hT.lt (i := i + 3) l3 (by have := (pNum_ok hd).1; omega)
                  exact ⟨by show i < i + 4; omega, l4, LJ.sign hJ hz (Nat.not_le.mp hv)⟩
      · split at h
        · rename_i hk
          simp only [Option.some.injEq] at h
          exact key (v := 0) (by omega) (by omega) (by omega) (by omega) h
        · split at h
          · rename_i hk
            simp only [Option.some.injEq] at h
            unfold pSpan at h
            split at h
            · cases h
            · split at h
              · cases h
              · rename_i v hv
                split at h
                · cases h
                · rename_i u hu
                  cases h
                  obtain ⟨s1, s2, s3, -⟩ := pNum_ok hv
                  obtain ⟨t1, t2, t3, -⟩ := pNum_ok hu
                  have l1 := hT.lt hi (by omega)
                  have l2 := hT.lt (i := i + 1) l1 (by omega)
                  have l3 := hT.lt (i := i + 2) l2 (by omega)
                  have hm := or_lt (k := T.1 i) hJ.2.1 (by omega)
                  have hb : (m ||| 2 ^ T.1 i).testBit 8 = m.testBit 8 := by rw [or_bit]; simp; intro q; omega
                  exact ⟨by show i < i + 3; omega, l3, LJ.few (LJ.few hJ (by omega) (fun q => by omega) (fun q => by omega) hJ.2.1 rfl) (by omega) (fun q => by omega) (fun q => by omega) hm hb⟩
          · split at h
            · rename_i hk
              simp only [Option.some.injEq] at h
              exact key (v := 0) (by omega) (by omega) (by omega) (by omega) h
            · split at h
              · rename_i hk
                simp only [Option.some.injEq] at h
                exact key (v := 0) (by omega) (by omega) (by omega) (by omega) h
              · split at h
                · rename_i hk
                  unfold pGood at h
                  split at h
                  · cases h
                  · rename_i hb
                    split at h
                    · cases h
                    · cases h
                    · rename_i y hy
                      cases h
                      obtain ⟨j, e'⟩ := y
                      have l1 := hT.lt hi (by omega)
                      obtain ⟨a1, a2, a3, a4, e2, a5, a6, a7, a8⟩ := pP_ok hT f 2 0 (i + 1) [] j e' (by omega) (by omega) l1 hy
                      rw [List.nil_append] at a5
                      subst a5
                      simp only [show (2 : Nat) < 3 by decide, if_true] at a7 a8
                      have hQ : T.2.2.2 j ≤ 600 := by
                        have h1 := hT.2.2.1
                        have key : ∀ d, d ≤ N → T.2.2.2 (N - d) ≤ 600 := by
                          intro d
                          induction d with
                          | zero => intro _; exact h1
                          | succ d ih =>
                            intro hd
                            have := hT.2.2.2.1 (N - (d + 1)) (by omega)
                            rw [show N - (d + 1) + 1 = N - d by omega] at this
                            have := ih (by omega)
                            omega
                        have := key (N - j) (by omega)
                        rwa [show N - (N - j) = j by omega] at this
                      have hok : rl_ok e' 0 := by
                        have := a8 [] 0 (by simp [kap]) rfl
                        rwa [List.append_nil] at this
                      rw [hk] at hb ⊢
                      exact ⟨by show i < j; omega, a2, LJ.good hJ (by simpa using hb) (show (rl_ks e').length < 800 by omega) hok (or_lt hJ.2.1 (by omega)) (by rw [or_bit]; simp)⟩
                · cases h
theorem pLine_ok (hT : TOK T N) {f i m : Nat} {w : RW} (hi : i ≤ N) (hJ : LI m w) {z : LSt} (h : pLine T f i m w = some (.inl z)) : i < z.1 ∧ z.1 ≤ N ∧ LI z.2.1 z.2.2 := by
  unfold pLine at h
  split at h
  · cases h
  · cases h
  · rename_i y hy
    obtain ⟨a1, a2, a3⟩ := pTold_ok hT hi hJ hy
    split at h
    · rename_i hk
      cases h
      have := hT.lt a2 (by omega)
      exact ⟨by show i < y.1 + 1; omega, this, a3⟩
    · cases h
theorem pTold_ends (hT : TOK T N) {f i m : Nat} {w : RW} (hi : i ≤ N) (hf : 5 * (N + 1) + 3 ≤ f) : pTold T f i m w ≠ none := by
  intro h
  unfold pTold at h
  repeat' split at h
  all_goals first | (cases h; done) | skip
  rename_i hk
  have l1 := hT.lt hi (by omega)
  unfold pGood at h
  split at h
  · cases h
  · split at h
    · rename_i hy
      exact pP_ends hT f 2 0 (i + 1) [] (by omega) (by omega) l1 (by simp [fneed]; omega) hy
    · cases h
    · cases h
theorem pText_ends (hT : TOK T N) {f : Nat} (hf : 5 * (N + 1) + 3 ≤ f) : ∀ (g i m : Nat) (w : RW), i ≤ N → LI m w → N + 1 - i ≤ g → pText T f g i m w ≠ none
  | 0, i, m, w, hi, _, hg => by omega
  | g + 1, i, m, w, hi, hJ, hg => by
    intro h
    unfold pText at h
    split at h
    · cases h
    · split at h
      · rename_i hl
        unfold pLine at hl
        split at hl
        · rename_i ht
          exact pTold_ends hT hi hf ht
        · cases hl
        · split at hl <;> cases hl
      · cases h
      · rename_i z hz
        obtain ⟨a1, a2, a3⟩ := pLine_ok hT hi hJ hz
        exact pText_ends hT hf g z.1 z.2.1 z.2.2 a2 a3 (by omega) h
end PURE
section READ2
variable {G : pd_G} {I : Nat → Nat → Int32} {L : Nat → Nat → Int64} {R : Nat → Nat → Option Nat} {T : TS} {N i m : Nat} {w : RW}
theorem QT.l {z : LSt} {x : Int32} {I2 : Nat → Nat → Int32} (h : QT I L R (.inl z) (.inl (some (.int x))) (SD, false, I2, L, R)) : x = 1 ∧ FC I I2 ∧ I2 1 4 = nI z.1 ∧ I2 1 5 = nI z.2.1 ∧ RwP I2 L 8 z.2.2 := by
  obtain ⟨I', h0, h1, h5, h2, h3, h4⟩ := h
  have h0 : I2 = I' := congrArg (fun M : pd_M => M.2.2.1) h0
  subst h0
  cases h5
  exact ⟨rfl, h1, h2, h3, h4⟩
theorem QT.r {z : Nat × Nat} {x : Int32} {I2 : Nat → Nat → Int32} (h : QT I L R (.inr z) (.inl (some (.int x))) (SD, false, I2, L, R)) : x = 0 ∧ FC I I2 ∧ I2 1 2 = nI z.1 ∧ I2 1 3 = nI z.2 := by
  obtain ⟨I', h0, h1, h5, h2, h3⟩ := h
  have h0 : I2 = I' := congrArg (fun M : pd_M => M.2.2.1) h0
  subst h0
  cases h5
  exact ⟨rfl, h1, h2, h3⟩
/-- one sentence of a text, inside read -/
theorem at_told (hR : RS R) (h : RD I T N i) (hT : TOK T N) (hm : I 1 5 = nI m) (hP : RwP I L 8 w) (hJ : LI m w) {f : Nat} {res : LSt ⊕ (Nat × Nat)} (hp : pTold T f i m w = some res) {b k0 : Int32} {Q : pd_O → pd_M → Prop} (K : ∀ x I2, QT I L R res (.inl (some (.int x))) (SD, false, I2, L, R) → pd_At G mi_X6_read 22 0 0 0 0 166 [some (.ref (pd_z G + 1)), some (.int b), some (.int x), some (.int k0)] [] (SD, false, I2, L, R) Q) : pd_At G mi_X6_read 22 0 0 0 0 27 [some (.ref (pd_z G + 1)), some (.int b), some (.int 1), some (.int k0)] [] (SD, false, I, L, R) Q := by
  obtain ⟨r, nv, ns, nl, e⟩ := w
  have hJ : LJ m r nv ns nl e := hJ
  have hP : PetRel I L 8 r nv ns nl e := hP
  have hk := h.1.2 i h.2.2
  unfold pTold at hp
  refine at_aload_n dX6_read_27 rfl ?_
  refine at_cv0 cvX6_29 sd_1 (ev_X6_kind hR h) (by decide) ⟨Nat.le_refl _, Nat.le_refl _⟩ (Nat.le_of_ble_eq_true rfl) dX6_read_28 (pd_k1 ?_)
  skip
  by_cases k1 : T.1 i = 1
  · rw [if_pos k1] at hp
    have hp : pVoter T i m (r, nv, ns, nl, e) = res := Option.some.inj hp
    have c := ev_X6_readVoter (G := G) hR h hT (by omega) hm hP hJ
    rw [hp] at c
    rw [k1]
    refine at_tabIn (tgt := 76) (off := 45) dX6_read_31 (by decide) (by decide) (by decide) (by decide) ?_
    refine at_aload_n dX6_read_76 rfl ?_
    refine at_cv0 cvX6_33 sd_1 (c) (by decide) ⟨Nat.le_refl _, Nat.le_refl _⟩ (Nat.le_of_ble_eq_true rfl) dX6_read_77 (pd_kT fun x I2 hb hq => ?_)
    refine at_istore_n dX6_read_80 rfl (Nat.le_of_ble_eq_true rfl) ?_
    refine at_goto (tgt := 166) dX6_read_81 (by decide) ?_
    exact K _ _ hq
  rw [if_neg k1] at hp
  by_cases k2 : T.1 i = 2
  · rw [if_pos k2] at hp
    have hp : pSheet T i m (r, nv, ns, nl, e) = res := Option.some.inj hp
    have c := ev_X6_readSheet (G := G) hR h hT (by omega) hm hP hJ
    rw [hp] at c
    rw [k2]
    refine at_tabIn (tgt := 84) (off := 53) dX6_read_31 (by decide) (by decide) (by decide) (by decide) ?_
    refine at_aload_n dX6_read_84 rfl ?_
    refine at_cv0 cvX6_37 sd_1 (c) (by decide) ⟨Nat.le_refl _, Nat.le_refl _⟩ (Nat.le_of_ble_eq_true rfl) dX6_read_85 (pd_kT fun x I2 hb hq => ?_)
    refine at_istore_n dX6_read_88 rfl (Nat.le_of_ble_eq_true rfl) ?_
    refine at_goto (tgt := 166) dX6_read_89 (by decide) ?_
    exact K _ _ hq
  rw [if_neg k2] at hp
  by_cases k3 : T.1 i = 3
  · rw [if_pos k3] at hp
    have hp : pSign T i m (r, nv, ns, nl, e) = res := Option.some.inj hp
    have c := ev_X6_readSigned (G := G) hR h hT (by omega) hm hP hJ
    rw [hp] at c
    rw [k3]
    refine at_tabIn (tgt := 92) (off := 61) dX6_read_31 (by decide) (by decide) (by decide) (by decide) ?_
    refine at_aload_n dX6_read_92 rfl ?_
    refine at_cv0 cvX6_40 sd_1 (c) (by decide) ⟨Nat.le_refl _, Nat.le_refl _⟩ (Nat.le_of_ble_eq_true rfl) dX6_read_93 (pd_kT fun x I2 hb hq => ?_)
    refine at_istore_n dX6_read_96 rfl (Nat.le_of_ble_eq_true rfl) ?_
    refine at_goto (tgt := 166) dX6_read_97 (by decide) ?_
    exact K _ _ hq
  rw [if_neg k3] at hp
  by_cases k4 : T.1 i = 4
  · rw [if_pos k4] at hp
    have hp : pOne T i m (r, nv, ns, nl, e) 3 0 40 = res := Option.some.inj hp
    have c := ev_X6_readNeed (G := G) hR h hT k4 hm hP hJ
    rw [hp] at c
    rw [k4]
    refine at_tabIn (tgt := 100) (off := 69) dX6_read_31 (by decide) (by decide) (by decide) (by decide) ?_
    refine at_aload_n dX6_read_100 rfl ?_
    refine at_cv0 cvX6_43 sd_1 (c) (by decide) ⟨Nat.le_refl _, Nat.le_refl _⟩ (Nat.le_of_ble_eq_true rfl) dX6_read_101 (pd_kT fun x I2 hb hq => ?_)
    refine at_istore_n dX6_read_104 rfl (Nat.le_of_ble_eq_true rfl) ?_
    refine at_goto (tgt := 166) dX6_read_105 (by decide) ?_
    exact K _ _ hq
  rw [if_neg k4] at hp
  by_cases k5 : T.1 i = 5
  · rw [if_pos k5] at hp
    have hp : pSpan T i m (r, nv, ns, nl, e) = res := Option.some.inj hp
    have c := ev_X6_readSpan (G := G) hR h hT k5 hm hP hJ
    rw [hp] at c
    rw [k5]
    refine at_tabIn (tgt := 108) (off := 77) dX6_read_31 (by decide) (by decide) (by decide) (by decide) ?_
    refine at_aload_n dX6_read_108 rfl ?_
    refine at_cv0 cvX6_46 sd_1 (c) (by decide) ⟨Nat.le_refl _, Nat.le_refl _⟩ (Nat.le_of_ble_eq_true rfl) dX6_read_109 (pd_kT fun x I2 hb hq => ?_)
    refine at_istore_n dX6_read_112 rfl (Nat.le_of_ble_eq_true rfl) ?_
    refine at_goto (tgt := 166) dX6_read_113 (by decide) ?_
    exact K _ _ hq
  rw [if_neg k5] at hp
  by_cases k6 : T.1 i = 6
  · rw [if_pos k6] at hp
    have hp : pOne T i m (r, nv, ns, nl, e) 6 0 100 = res := Option.some.inj hp
    have c := ev_X6_readSpoilt (G := G) hR h hT k6 hm hP hJ
    rw [hp] at c
    rw [k6]
    refine at_tabIn (tgt := 116) (off := 85) dX6_read_31 (by decide) (by decide) (by decide) (by decide) ?_
    refine at_aload_n dX6_read_116 rfl ?_
    refine at_cv0 cvX6_49 sd_1 (c) (by decide) ⟨Nat.le_refl _, Nat.le_refl _⟩ (Nat.le_of_ble_eq_true rfl) dX6_read_117 (pd_kT fun x I2 hb hq => ?_)
    refine at_istore_n dX6_read_120 rfl (Nat.le_of_ble_eq_true rfl) ?_
    refine at_goto (tgt := 166) dX6_read_121 (by decide) ?_
    exact K _ _ hq
  rw [if_neg k6] at hp
  by_cases k7 : T.1 i = 7
  · rw [if_pos k7] at hp
    have hp : pOne T i m (r, nv, ns, nl, e) 7 1 499 = res := Option.some.inj hp
    have c := ev_X6_readAlpha (G := G) hR h hT k7 hm hP hJ
    rw [hp] at c
    rw [k7]
    refine at_tabIn (tgt := 124) (off := 93) dX6_read_31 (by decide) (by decide) (by decide) (by decide) ?_
    refine at_aload_n dX6_read_124 rfl ?_
    refine at_cv0 cvX6_52 sd_1 (c) (by decide) ⟨Nat.le_refl _, Nat.le_refl _⟩ (Nat.le_of_ble_eq_true rfl) dX6_read_125 (pd_kT fun x I2 hb hq => ?_)
    refine at_istore_n dX6_read_128 rfl (Nat.le_of_ble_eq_true rfl) ?_
    refine at_goto (tgt := 166) dX6_read_129 (by decide) ?_
    exact K _ _ hq
  rw [if_neg k7] at hp
  by_cases k8 : T.1 i = 8
  · rw [if_pos k8] at hp
    have e8 : nI (T.1 i) = 8 := by rw [k8]; rfl
    rw [e8]
    refine at_tabIn (tgt := 132) (off := 101) dX6_read_31 (by decide) (by decide) (by decide) (by decide) ?_
    have hlt := hT.lt h.2.2 (by omega)
    unfold pGood at hp
    by_cases hb : m.testBit (T.1 i) = true
    · rw [if_pos hb] at hp
      cases hp
      refine at_aload_n dX6_read_132 rfl ?_
      refine at_cv0 cvX6_55 sd_1 (cO_no hR h hT hm hJ.2.1 (by omega) hb) (by decide) ⟨Nat.le_refl _, Nat.le_refl _⟩ (Nat.le_of_ble_eq_true rfl) dX6_read_133 (pd_k1 ?_)
      refine at_ifeq (tgt := 151) dX6_read_136 (by decide) (fun c136 => ?_) (fun c136 => ?_)
      · -- taken 136
        refine at_iconst dX6_read_151 pc_i0 ?_
        refine at_istore_n dX6_read_152 rfl (Nat.le_of_ble_eq_true rfl) ?_
        refine at_goto (tgt := 166) dX6_read_153 (by decide) ?_
        exact K _ _ (QT.badI FC.rf)
      · -- not taken 136
        exact absurd rfl c136
    · rw [if_neg hb] at hp
      have hb8 : m.testBit 8 = false := by rw [k8] at hb; simpa using hb
      have h1 := h.once hlt (v := nI (m ||| 2 ^ T.1 i))
      have he : e = [] := (hJ.2.2.1 hb8).1
      have hU : RU (pd_up (pd_up I 1 5 (nI (m ||| 2 ^ T.1 i))) 1 4 (nI (i + 1))) [] := by
        refine ⟨?_, fun j q hq => by cases hq⟩
        rw [pd_up_nb (by decide), pd_up_nb (by decide)]
        have := hP.2.2.2.2.2.2.1
        rw [he] at this; exact this
      cases hy : pP T f 2 0 (i + 1) [] with
      | none => rw [hy] at hp; cases hp
      | some y =>
        rw [hy] at hp
        have c := (cp_all (G := G) hT f 2 0 (i + 1) [] y _ L R (by omega) hR h1 hU (by simp) hy).2.2.1 rfl
        cases y with
        | inr z =>
          cases hp
          refine at_aload_n dX6_read_132 rfl ?_
          refine at_cv0 cvX6_55 sd_1 (cO_yes hR h hT hm hJ.2.1 (by omega) hb) (by decide) ⟨Nat.le_refl _, Nat.le_refl _⟩ (Nat.le_of_ble_eq_true rfl) dX6_read_133 (pd_k1 ?_)
          refine at_ifeq (tgt := 151) dX6_read_136 (by decide) (fun c136 => ?_) (fun c136 => ?_)
          · -- taken 136
            exact absurd c136 (by decide)
          · -- not taken 136
            refine at_aload_n dX6_read_139 rfl ?_
            refine at_iconst dX6_read_140 pc_i0 ?_
            refine at_cv1 cvX6_58 sd_1 (c) (by decide) ⟨Nat.le_refl _, Nat.le_refl _⟩ (Nat.le_of_ble_eq_true rfl) dX6_read_141 (pd_kpr fun I2 hF h2 h3 => ?_)
            refine at_ifeq (tgt := 151) dX6_read_144 (by decide) (fun c144 => ?_) (fun c144 => ?_)
            · -- taken 144
              refine at_iconst dX6_read_151 pc_i0 ?_
              refine at_istore_n dX6_read_152 rfl (Nat.le_of_ble_eq_true rfl) ?_
              refine at_goto (tgt := 166) dX6_read_153 (by decide) ?_
              exact K _ _ (QT.bad (((FC.rf.up (by omega)).up (by omega)).tr hF.fc) h2 h3)
            · -- not taken 144
              exact absurd rfl c144
        | inl z =>
          cases hp
          obtain ⟨j, e'⟩ := z
          obtain ⟨a1, a2, a3, a4, e2, a5, a6, -⟩ := pP_ok hT f 2 0 (i + 1) [] j e' (by omega) (by omega) hlt hy
          have hj := (h.1.2 j a2).2.2.2.1
          rw [List.nil_append] at a5
          subst a5
          refine at_aload_n dX6_read_132 rfl ?_
          refine at_cv0 cvX6_55 sd_1 (cO_yes hR h hT hm hJ.2.1 (by omega) hb) (by decide) ⟨Nat.le_refl _, Nat.le_refl _⟩ (Nat.le_of_ble_eq_true rfl) dX6_read_133 (pd_k1 ?_)
          refine at_ifeq (tgt := 151) dX6_read_136 (by decide) (fun c136 => ?_) (fun c136 => ?_)
          · -- taken 136
            exact absurd c136 (by decide)
          · -- not taken 136
            refine at_aload_n dX6_read_139 rfl ?_
            refine at_iconst dX6_read_140 pc_i0 ?_
            refine at_cv1 cvX6_58 sd_1 (c) (by decide) ⟨Nat.le_refl _, Nat.le_refl _⟩ (Nat.le_of_ble_eq_true rfl) dX6_read_141 (pd_kpl fun I2 hF h2 h3 => ?_)
            refine at_ifeq (tgt := 151) dX6_read_144 (by decide) (fun c144 => ?_) (fun c144 => ?_)
            · -- taken 144
              exact absurd c144 (by decide)
            · -- not taken 144
              refine at_iconst dX6_read_147 pc_i1 ?_
              refine at_goto (tgt := 152) dX6_read_148 (by decide) ?_
              refine at_istore_n dX6_read_152 rfl (Nat.le_of_ble_eq_true rfl) ?_
              refine at_goto (tgt := 166) dX6_read_153 (by decide) ?_
              exact K _ _ ⟨_, rfl, ((FC.rf.up (by omega)).up (by omega)).tr hF.fc, rfl, h2, by rw [hF 1 5 (by omega) (by omega) (by omega), pd_up_nj (by decide), pd_up_at], PetRel.good hP hJ.1.1.2 hJ.1.2.2.1.2 (fun a j h1 h2 => by rw [hF a j (by omega) (by omega) (by omega), pd_up_nb (by omega), pd_up_nb (by omega)]) h3 (show e'.length ≤ 600 by omega)⟩
  rw [if_neg k8] at hp
  cases hp
  refine at_tabOut (tgt := 156) dX6_read_31 (by rw [nI_toInt (by omega)]; omega) (by decide) ?_
  refine at_aload_n dX6_read_156 rfl ?_
  refine at_iconst dX6_read_157 pc_i1 ?_
  refine at_aload_n dX6_read_158 rfl ?_
  refine at_cv0 cvX6_62 sd_1 (ev_X6_place hR h) (by decide) ⟨Nat.le_refl _, Nat.le_refl _⟩ (Nat.le_of_ble_eq_true rfl) dX6_read_159 (pd_k1 ?_)
  refine at_cv2 cvX6_65 sd_1 (ev_X6_refuse 1 _) (by decide) ⟨Nat.le_refl _, Nat.le_refl _⟩ (Nat.le_of_ble_eq_true rfl) dX6_read_162 (pd_k1 ?_)
  refine at_istore_n dX6_read_165 rfl (Nat.le_of_ble_eq_true rfl) ?_
  exact K _ _ (QT.badI (z := (1, T.2.2.2 i)) FC.rf)
end READ2
