/-! ===== the reader: the rule ===== -/
/-- the steps laid down so far -/
def RU (I : Nat → Nat → Int32) (e : List rl_S) : Prop := I 16 1 = nI e.length ∧ ∀ j q, e[j]? = some q → I 17 j = rl_32 q
/-- what reading a rule leaves as it was -/
def FB (I I' : Nat → Nat → Int32) : Prop := ∀ a j, ¬ (a = 1 ∧ 2 ≤ j ∧ j ≤ 4) → ¬ (a = 16 ∧ j = 1) → a ≠ 17 → I' a j = I a j
theorem FB.rf {I : Nat → Nat → Int32} : FB I I := fun _ _ _ _ _ => rfl
theorem FB.tr {I I1 I2 : Nat → Nat → Int32} (h : FB I I1) (h2 : FB I1 I2) : FB I I2 := fun a j h3 h4 h5 => by rw [h2 a j h3 h4 h5]; exact h a j h3 h4 h5
theorem FB.up4 {I I1 : Nat → Nat → Int32} (h : FB I I1) {v : Int32} : FB I (pd_up I1 1 4 v) := fun a j h3 h4 h5 => by
  show (if a = 1 ∧ j = 4 then v else I1 a j) = _
  rw [if_neg (by omega)]; exact h a j h3 h4 h5
theorem FB.rfI {I I1 : Nat → Nat → Int32} (h : FB I I1) {z : Nat × Nat} : FB I (rfI I1 z) := fun a j h3 h4 h5 => by
  show (if a = 1 ∧ j = 3 then _ else (if a = 1 ∧ j = 2 then _ else I1 a j)) = _
  rw [if_neg (by omega), if_neg (by omega)]; exact h a j h3 h4 h5
theorem FB.add {I I1 : Nat → Nat → Int32} (h : FB I I1) {n : Nat} {x y : Int32} : FB I (pd_up (pd_up I1 17 n x) 16 1 y) := fun a j h3 h4 h5 => by
  show (if a = 16 ∧ j = 1 then _ else (if a = 17 ∧ j = n then _ else I1 a j)) = _
  rw [if_neg h4, if_neg (by omega)]; exact h a j h3 h4 h5
theorem RT.fb {I I' : Nat → Nat → Int32} {T : TS} {N : Nat} (h : RT I T N) (hF : FB I I') : RT I' T N := h.fr (fun a h1 h2 j => hF a j (by omega) (by omega) (by omega))
theorem RU.fr {I I' : Nat → Nat → Int32} {e : List rl_S} (h : RU I e) (h1 : I' 16 1 = I 16 1) (h2 : ∀ j, I' 17 j = I 17 j) : RU I' e := ⟨h1.trans h.1, fun j q hq => by rw [h2]; exact h.2 j q hq⟩
theorem RU.add {I : Nat → Nat → Int32} {e : List rl_S} (h : RU I e) {q : rl_S} {x : Int32} (hx : x = rl_32 q) : RU (pd_up (pd_up I 17 e.length x) 16 1 (nI (e.length + 1))) (e ++ [q]) := by
  refine ⟨by rw [pd_up_at, List.length_append]; rfl, fun j y hj => ?_⟩
  rw [pd_up_nb (by decide)]
  by_cases hq : j = e.length
  · subst hq
    rw [pd_up_at, hx]
    rw [List.getElem?_append_right (Nat.le_refl _), Nat.sub_self] at hj
    cases hj; rfl
  · rw [pd_up_nj hq]
    have hlt : j < e.length := by
      have := (List.getElem?_eq_some_iff.mp hj).1
      simp at this; omega
    rw [List.getElem?_append_left hlt] at hj
    exact h.2 j y hj
/-- a rule's piece read, or a fault -/
def QP (I : Nat → Nat → Int32) (L : Nat → Nat → Int64) (R : Nat → Nat → Option Nat) (res : (Nat × List rl_S) ⊕ (Nat × Nat)) : pd_O → pd_M → Prop := fun o M => ∃ I', M = (SD, false, I', L, R) ∧ FB I I' ∧ match res with
  | .inl z => o = .inl (some (.int 1)) ∧ I' 1 4 = nI z.1 ∧ RU I' z.2
  | .inr z => o = .inl (some (.int 0)) ∧ I' 1 2 = nI z.1 ∧ I' 1 3 = nI z.2
theorem pd_kpl {G : pd_G} {mi : pd_MI} {h mc ms cs ss pc : Nat} {lo : List (Option Value)} {st : List Value} {Q : pd_O → pd_M → Prop} {I L R} {z : Nat × List rl_S} (K : ∀ I', FB I I' → I' 1 4 = nI z.1 → RU I' z.2 → pd_At G mi h mc ms cs ss (pc + 3) lo (.int 1 :: st) (SD, false, I', L, R) Q) : ∀ o M', QP I L R (.inl z) o M' → pd_Kc G mi h mc ms cs ss pc lo st Q o M' := fun o M' hq => by
  obtain ⟨I', rfl, h1, rfl, h2, h3⟩ := hq
  exact K I' h1 h2 h3
theorem pd_kpr {G : pd_G} {mi : pd_MI} {h mc ms cs ss pc : Nat} {lo : List (Option Value)} {st : List Value} {Q : pd_O → pd_M → Prop} {I L R} {z : Nat × Nat} (K : ∀ I', FB I I' → I' 1 2 = nI z.1 → I' 1 3 = nI z.2 → pd_At G mi h mc ms cs ss (pc + 3) lo (.int 0 :: st) (SD, false, I', L, R) Q) : ∀ o M', QP I L R (.inr z) o M' → pd_Kc G mi h mc ms cs ss pc lo st Q o M' := fun o M' hq => by
  obtain ⟨I', rfl, h1, rfl, h2, h3⟩ := hq
  exact K I' h1 h2 h3
theorem QP.fr {I I1 : Nat → Nat → Int32} {L : Nat → Nat → Int64} {R : Nat → Nat → Option Nat} {res} {o : pd_O} {M : pd_M} (hF : FB I I1) (h : QP I1 L R res o M) : QP I L R res o M := by
  obtain ⟨I', h1, h2, h3⟩ := h
  exact ⟨I', h1, hF.tr h2, h3⟩
theorem rfI_2 {I : Nat → Nat → Int32} {z : Nat × Nat} : rfI I z 1 2 = nI z.1 ∧ rfI I z 1 3 = nI z.2 := ⟨by rw [rfI, pd_up_nj (by decide), pd_up_at], by rw [rfI, pd_up_at]⟩
theorem rl_enc {o a b : Nat} (ho : o < 3) (ha : a < 2048) (hb : b < 2048) : (((nI (o + 60) - 61 + 1) <<< ((11 : Int32) &&& 31)) ||| nI a) <<< ((11 : Int32) &&& 31) ||| nI b = rl_32 (o, a, b) := by
  have h0 : nI (o + 60) - 61 + 1 = nI o := by
    rcases (show o = 0 ∨ o = 1 ∨ o = 2 by omega) with rfl | rfl | rfl <;> decide
  rw [h0, pk_shlN _ 11 (by decide) (by omega), show o * 2 ^ 11 = 2 ^ 11 * o by omega, fa_or_sum o (show a < 2 ^ 11 by omega), pk_shlN _ 11 (by decide) (by omega), show (2 ^ 11 * o + a) * 2 ^ 11 = 2 ^ 11 * (2 ^ 11 * o + a) by omega, fa_or_sum _ (show b < 2 ^ 11 by omega)]
  unfold rl_32
  rw [if_pos ho]
  congr 1; show _ = o * 4194304 + a * 2048 + b; omega
theorem rl_enc2 {k a b : Nat} (h1 : 60 ≤ k) (h2 : k ≤ 62) (ha : a < 2048) (hb : b < 2048) : (((nI k - 61 + 1) <<< ((11 : Int32) &&& 31)) ||| nI a) <<< ((11 : Int32) &&& 31) ||| nI b = rl_32 (k - 60, a, b) := by
  have := rl_enc (o := k - 60) (a := a) (b := b) (by omega) ha hb
  rw [show k - 60 + 60 = k by omega] at this
  exact this
section RULE2
variable {G : pd_G} {I : Nat → Nat → Int32} {L : Nat → Nat → Int64} {R : Nat → Nat → Option Nat} {T : TS} {N i : Nat} {e : List rl_S}
theorem ev_X6_cmp (hR : RS R) (h : RD I T N i) (hT : TOK T N) (hU : RU I e) (he : e.length < 600) : pd_Ev G mi_X6_readComparison 4 0 0 [.ref (pd_z G + 1)] (SD, false, I, L, R) (QP I L R (match pCmp T i with
    | .inl z => .inl (z.1, e ++ z.2)
    | .inr z => .inr z)) := by
  have hop := ev_X6_takeOperand (G := G) (L := L) hR h hT
  refine pd_ev 3 (lo := [some (.ref (pd_z G + 1)), none, none, none]) (by decide +kernel) (Nat.le_of_ble_eq_true rfl) rfl ?_
  unfold pCmp
  cases h1 : pOp T i with
  | inr z =>
    rw [h1] at hop
    refine at_aload_n dX6_readComparison_0 rfl ?_
    refine at_cv0 cvX6_149 sd_1 (hop) (by decide) ⟨Nat.le_refl _, Nat.le_refl _⟩ (Nat.le_of_ble_eq_true rfl) dX6_readComparison_1 (pd_k1 ?_)
    refine at_istore_n dX6_readComparison_4 rfl (Nat.le_of_ble_eq_true rfl) ?_
    refine at_iload_n dX6_readComparison_5 rfl ?_
    refine at_iconst dX6_readComparison_6 pc_im1 ?_
    refine at_icmpne (tgt := 12) dX6_readComparison_7 (by decide) (fun c7 => ?_) (fun c7 => ?_)
    · -- taken 7
      exact absurd rfl c7
    · -- not taken 7
      refine at_iconst dX6_readComparison_10 pc_i0 ?_
      refine at_zret rfl dX6_readComparison_11 (by first | exact Or.inl rfl | exact Or.inr rfl | assumption) ?_
      exact ⟨_, rfl, FB.rf.rfI, rfl, rfI_2.1, rfI_2.2⟩
  | inl a =>
    rw [h1] at hop
    obtain ⟨ha, hz⟩ := pOp_lt h1
    have hl1 := hT.lt h.2.2 hz
    have h2 := h.adv hl1
    have hk2 := h2.1.2 (i + 1) hl1
    have e60 : nI (T.1 (i + 1)) = 60 ↔ T.1 (i + 1) = 60 := nI_eq (b := 60) (by omega) (by decide)
    have e61 : nI (T.1 (i + 1)) = 61 ↔ T.1 (i + 1) = 61 := nI_eq (b := 61) (by omega) (by decide)
    have e62 : nI (T.1 (i + 1)) = 62 ↔ T.1 (i + 1) = 62 := nI_eq (b := 62) (by omega) (by decide)
    by_cases hs : 60 ≤ T.1 (i + 1) ∧ T.1 (i + 1) ≤ 62
    · simp only [if_pos hs]
      have hl2 := hT.lt (i := i + 1) hl1 (by omega)
      have h3 := h2.adv hl2
      have hop2 := ev_X6_takeOperand (G := G) (L := L) hR h3 hT
      have K45 : pd_At G mi_X6_readComparison 4 0 0 0 0 45 [some (.ref (pd_z G + 1)), some (.int (nI a)), some (.int (nI (T.1 (i + 1)))), none] [] (SD, false, pd_up I 1 4 (nI (i + 1)), L, R) (QP I L R (match (match pOp T (i + 2) with
          | .inr x => .inr x
          | .inl b => .inl (i + 3, [(T.1 (i + 1) - 60, a, b)]) : (Nat × List rl_S) ⊕ (Nat × Nat)) with
          | .inl z => .inl (z.1, e ++ z.2)
          | .inr z => .inr z)) := by
        cases h4 : pOp T (i + 2) with
        | inr z =>
          rw [h4] at hop2
          refine at_aload_n dX6_readComparison_45 rfl ?_
          refine at_cv0 cvX6_89 sd_1 (ev_X6_advance h2 hl2) (by decide) ⟨Nat.le_refl _, Nat.le_refl _⟩ (Nat.le_of_ble_eq_true rfl) dX6_readComparison_46 (pd_k0 ?_)
          refine at_aload_n dX6_readComparison_49 rfl ?_
          refine at_cv0 cvX6_149 sd_1 (hop2) (by decide) ⟨Nat.le_refl _, Nat.le_refl _⟩ (Nat.le_of_ble_eq_true rfl) dX6_readComparison_50 (pd_k1 ?_)
          refine at_istore_n dX6_readComparison_53 rfl (Nat.le_of_ble_eq_true rfl) ?_
          refine at_iload_n dX6_readComparison_54 rfl ?_
          refine at_iconst dX6_readComparison_55 pc_im1 ?_
          refine at_icmpne (tgt := 61) dX6_readComparison_56 (by decide) (fun c56 => ?_) (fun c56 => ?_)
          · -- taken 56
            exact absurd rfl c56
          · -- not taken 56
            refine at_iconst dX6_readComparison_59 pc_i0 ?_
            refine at_zret rfl dX6_readComparison_60 (by first | exact Or.inl rfl | exact Or.inr rfl | assumption) ?_
            exact ⟨_, rfl, (FB.rf.up4.up4).rfI, rfl, rfI_2.1, rfI_2.2⟩
        | inl b =>
          rw [h4] at hop2
          obtain ⟨hb, hz2⟩ := pOp_lt h4
          refine at_aload_n dX6_readComparison_45 rfl ?_
          refine at_cv0 cvX6_89 sd_1 (ev_X6_advance h2 hl2) (by decide) ⟨Nat.le_refl _, Nat.le_refl _⟩ (Nat.le_of_ble_eq_true rfl) dX6_readComparison_46 (pd_k0 ?_)
          refine at_aload_n dX6_readComparison_49 rfl ?_
          refine at_cv0 cvX6_149 sd_1 (hop2) (by decide) ⟨Nat.le_refl _, Nat.le_refl _⟩ (Nat.le_of_ble_eq_true rfl) dX6_readComparison_50 (pd_k1 ?_)
          refine at_istore_n dX6_readComparison_53 rfl (Nat.le_of_ble_eq_true rfl) ?_
          refine at_iload_n dX6_readComparison_54 rfl ?_
          refine at_iconst dX6_readComparison_55 pc_im1 ?_
          refine at_icmpne (tgt := 61) dX6_readComparison_56 (by decide) (fun c56 => ?_) (fun c56 => ?_)
          · -- taken 56
            refine at_aload_n dX6_readComparison_61 rfl ?_
            refine at_getr (8) flX6_21 rfl sd_1 (rs_1_1 hR) dX6_readComparison_62 ?_
            refine at_getr (8 + 8) flX6_134 rfl (sd_P0 pb_8) (rs_P16 hR pb_8) dX6_readComparison_65 ?_
            refine at_iload_n dX6_readComparison_68 rfl ?_
            refine at_iload_n dX6_readComparison_69 rfl ?_
            refine at_bipush dX6_readComparison_70 pc_b61 ?_
            refine at_isub dX6_readComparison_72 ?_
            refine at_iload_n dX6_readComparison_73 rfl ?_
            refine at_cv3 cvX6_152 (sd_P8 pb_8) (ev_X4_addComparison (c := 8) hR pb_8 (n := e.length) (by rw [pd_up_nb (by decide), pd_up_nb (by decide), pd_up_nb (by decide)]; exact hU.1) he _ _ _) (by decide) ⟨Nat.le_refl _, Nat.le_refl _⟩ (Nat.le_of_ble_eq_true rfl) dX6_readComparison_74 (pd_k0 ?_)
            refine at_iconst dX6_readComparison_77 pc_i1 ?_
            refine at_zret rfl dX6_readComparison_78 (by first | exact Or.inl rfl | exact Or.inr rfl | assumption) ?_
            refine ⟨_, rfl, FB.rf.up4.up4.up4.add, rfl, ?_, (RU.fr hU (I' := pd_up (pd_up (pd_up I 1 4 (nI (i + 1))) 1 4 (nI (i + 1 + 1))) 1 4 (nI (i + 2 + 1))) (by rw [pd_up_nb (by decide), pd_up_nb (by decide), pd_up_nb (by decide)]) (fun j => by rw [pd_up_nb (by decide), pd_up_nb (by decide), pd_up_nb (by decide)])).add (rl_enc2 hs.1 hs.2 (by show a < 2048; omega) (by show b < 2048; omega))⟩
            rw [pd_up_nb (by decide), pd_up_nb (by decide), pd_up_at]
          · -- not taken 56
            exact absurd c56 (nI_nm1 (show b < 2 ^ 31 by omega))
      refine at_aload_n dX6_readComparison_0 rfl ?_
      refine at_cv0 cvX6_149 sd_1 (hop) (by decide) ⟨Nat.le_refl _, Nat.le_refl _⟩ (Nat.le_of_ble_eq_true rfl) dX6_readComparison_1 (pd_k1 ?_)
      refine at_istore_n dX6_readComparison_4 rfl (Nat.le_of_ble_eq_true rfl) ?_
      refine at_iload_n dX6_readComparison_5 rfl ?_
      refine at_iconst dX6_readComparison_6 pc_im1 ?_
      refine at_icmpne (tgt := 12) dX6_readComparison_7 (by decide) (fun c7 => ?_) (fun c7 => ?_)
      · -- taken 7
        refine at_aload_n dX6_readComparison_12 rfl ?_
        refine at_cv0 cvX6_29 sd_1 (ev_X6_kind hR h2) (by decide) ⟨Nat.le_refl _, Nat.le_refl _⟩ (Nat.le_of_ble_eq_true rfl) dX6_readComparison_13 (pd_k1 ?_)
        refine at_istore_n dX6_readComparison_16 rfl (Nat.le_of_ble_eq_true rfl) ?_
        refine at_iload_n dX6_readComparison_17 rfl ?_
        refine at_bipush dX6_readComparison_18 pc_b60 ?_
        refine at_icmpeq (tgt := 45) dX6_readComparison_20 (by decide) (fun c20 => ?_) (fun c20 => ?_)
        · -- taken 20
          exact K45
        · -- not taken 20
          refine at_iload_n dX6_readComparison_23 rfl ?_
          refine at_bipush dX6_readComparison_24 pc_b61 ?_
          refine at_icmpeq (tgt := 45) dX6_readComparison_26 (by decide) (fun c26 => ?_) (fun c26 => ?_)
          · -- taken 26
            exact K45
          · -- not taken 26
            refine at_iload_n dX6_readComparison_29 rfl ?_
            refine at_bipush dX6_readComparison_30 pc_b62 ?_
            refine at_icmpeq (tgt := 45) dX6_readComparison_32 (by decide) (fun c32 => ?_) (fun c32 => ?_)
            · -- taken 32
              exact K45
            · -- not taken 32
              exfalso
              rw [e60] at c20; rw [e61] at c26; rw [e62] at c32; omega
      · -- not taken 7
        exact absurd c7 (nI_nm1 (show a < 2 ^ 31 by omega))
    · simp only [if_neg hs]
      refine at_aload_n dX6_readComparison_0 rfl ?_
      refine at_cv0 cvX6_149 sd_1 (hop) (by decide) ⟨Nat.le_refl _, Nat.le_refl _⟩ (Nat.le_of_ble_eq_true rfl) dX6_readComparison_1 (pd_k1 ?_)
      refine at_istore_n dX6_readComparison_4 rfl (Nat.le_of_ble_eq_true rfl) ?_
      refine at_iload_n dX6_readComparison_5 rfl ?_
      refine at_iconst dX6_readComparison_6 pc_im1 ?_
      refine at_icmpne (tgt := 12) dX6_readComparison_7 (by decide) (fun c7 => ?_) (fun c7 => ?_)
      · -- taken 7
        refine at_aload_n dX6_readComparison_12 rfl ?_
        refine at_cv0 cvX6_29 sd_1 (ev_X6_kind hR h2) (by decide) ⟨Nat.le_refl _, Nat.le_refl _⟩ (Nat.le_of_ble_eq_true rfl) dX6_readComparison_13 (pd_k1 ?_)
        refine at_istore_n dX6_readComparison_16 rfl (Nat.le_of_ble_eq_true rfl) ?_
        refine at_iload_n dX6_readComparison_17 rfl ?_
        refine at_bipush dX6_readComparison_18 pc_b60 ?_
        refine at_icmpeq (tgt := 45) dX6_readComparison_20 (by decide) (fun c20 => ?_) (fun c20 => ?_)
        · -- taken 20
          exfalso; rw [e60] at c20; omega
        · -- not taken 20
          refine at_iload_n dX6_readComparison_23 rfl ?_
          refine at_bipush dX6_readComparison_24 pc_b61 ?_
          refine at_icmpeq (tgt := 45) dX6_readComparison_26 (by decide) (fun c26 => ?_) (fun c26 => ?_)
          · -- taken 26
            exfalso; rw [e61] at c26; omega
          · -- not taken 26
            refine at_iload_n dX6_readComparison_29 rfl ?_
            refine at_bipush dX6_readComparison_30 pc_b62 ?_
            refine at_icmpeq (tgt := 45) dX6_readComparison_32 (by decide) (fun c32 => ?_) (fun c32 => ?_)
            · -- taken 32
              exfalso; rw [e62] at c32; omega
            · -- not taken 32
              refine at_aload_n dX6_readComparison_35 rfl ?_
              refine at_iconst dX6_readComparison_36 pc_i1 ?_
              refine at_aload_n dX6_readComparison_37 rfl ?_
              refine at_cv0 cvX6_62 sd_1 (ev_X6_place hR h2) (by decide) ⟨Nat.le_refl _, Nat.le_refl _⟩ (Nat.le_of_ble_eq_true rfl) dX6_readComparison_38 (pd_k1 ?_)
              refine at_cv2 cvX6_65 sd_1 (ev_X6_refuse 1 _) (by decide) ⟨Nat.le_refl _, Nat.le_refl _⟩ (Nat.le_of_ble_eq_true rfl) dX6_readComparison_41 (pd_k1 ?_)
              refine at_zret rfl dX6_readComparison_44 (by first | exact Or.inl rfl | exact Or.inr rfl | assumption) ?_
              exact ⟨rfI (pd_up I 1 4 (nI (i + 1))) (1, T.2.2.2 (i + 1)), rfl, FB.rf.up4.rfI, rfl, rfI_2.1, rfI_2.2⟩
      · -- not taken 7
        exact absurd c7 (nI_nm1 (show a < 2 ^ 31 by omega))
end RULE2
