/-! ===== the reader: small steps ===== -/
/-- the words in their rows, the reader at the i-th -/
def RT (I : Nat → Nat → Int32) (T : TS) (N : Nat) : Prop := N ≤ 600 ∧ ∀ j, j ≤ N → I 3 j = nI (T.1 j) ∧ I 4 j = nI (T.2.2.2 j) ∧ T.1 j < 128 ∧ T.2.2.2 j ≤ 600 ∧ (T.1 j = 18 → nR (I 5 j) (T.2.1 j)) ∧ (1 ≤ T.1 j ∧ T.1 j ≤ 17 → I 5 j = (if (T.2.2.1 j).length ≤ 5 then nI (n32 (T.2.2.1 j)) else -1) ∧ T.2.2.1 j ≠ [] ∧ ∀ x ∈ T.2.2.1 j, 1 ≤ x ∧ x ≤ 26)
def RD (I : Nat → Nat → Int32) (T : TS) (N i : Nat) : Prop := RT I T N ∧ I 1 4 = nI i ∧ i ≤ N
section READ
variable {G : pd_G} {I : Nat → Nat → Int32} {L : Nat → Nat → Int64} {R : Nat → Nat → Option Nat} {T : TS} {N i : Nat}
theorem RT.fr {I' : Nat → Nat → Int32} (h : RT I T N) (hI : ∀ a, 3 ≤ a → a ≤ 5 → ∀ j, I' a j = I a j) : RT I' T N := ⟨h.1, fun j hj => by rw [hI 3 (by omega) (by omega), hI 4 (by omega) (by omega), hI 5 (by omega) (by omega)]; exact h.2 j hj⟩
theorem RD.adv (h : RD I T N i) (hi : i < N) : RD (pd_up I 1 4 (nI (i + 1))) T N (i + 1) := ⟨h.1.fr (fun a h1 h2 j => pd_up_nb (by omega)), pd_up_at, hi⟩
theorem RD.ref (h : RD I T N i) {k p : Int32} : RD (pd_up (pd_up I 1 2 k) 1 3 p) T N i := ⟨h.1.fr (fun a h1 h2 j => by rw [pd_up_nb (by omega), pd_up_nb (by omega)]), by rw [pd_up_nj (by decide), pd_up_nj (by decide)]; exact h.2.1, h.2.2⟩
theorem ev_X6_kind (hR : RS R) (h : RD I T N i) : pd_Ev G mi_X6_kind 1 0 0 [.ref (pd_z G + 1)] (SD, false, I, L, R) (pd_rt (.int (nI (T.1 i))) (SD, false, I, L, R)) := by
  obtain ⟨⟨h1, h2⟩, h3, h4⟩ := h
  refine pd_ev 0 (lo := [some (.ref (pd_z G + 1))]) (by decide +kernel) (Nat.le_of_ble_eq_true rfl) rfl ?_
  refine at_aload_n dX6_kind_0 rfl ?_
  refine at_getr (2) flX6_12 rfl sd_1 (rs_1_0 hR) dX6_kind_1 ?_
  refine at_getr (3) flX6_169 rfl sd_2 (rs_2_0 hR) dX6_kind_4 ?_
  refine at_aload_n dX6_kind_7 rfl ?_
  refine at_geti flX6_79 rfl sd_1 dX6_kind_8 ?_
  rw [h3]
  refine at_iald sd_3 (vp_in_nI (by omega) (by decide)) dX6_kind_11 ?_
  rw [nI_clamp (by omega), (h2 i h4).1]
  refine at_iret rfl dX6_kind_12 ?_
  exact ⟨rfl, rfl⟩
theorem ev_X6_place (hR : RS R) (h : RD I T N i) : pd_Ev G mi_X6_place 1 0 0 [.ref (pd_z G + 1)] (SD, false, I, L, R) (pd_rt (.int (nI (T.2.2.2 i))) (SD, false, I, L, R)) := by
  obtain ⟨⟨h1, h2⟩, h3, h4⟩ := h
  refine pd_ev 0 (lo := [some (.ref (pd_z G + 1))]) (by decide +kernel) (Nat.le_of_ble_eq_true rfl) rfl ?_
  refine at_aload_n dX6_place_0 rfl ?_
  refine at_getr (2) flX6_12 rfl sd_1 (rs_1_0 hR) dX6_place_1 ?_
  refine at_getr (4) flX6_172 rfl sd_2 (rs_2_1 hR) dX6_place_4 ?_
  refine at_aload_n dX6_place_7 rfl ?_
  refine at_geti flX6_79 rfl sd_1 dX6_place_8 ?_
  rw [h3]
  refine at_iald sd_4 (vp_in_nI (by omega) (by decide)) dX6_place_11 ?_
  rw [nI_clamp (by omega), (h2 i h4).2.1]
  refine at_iret rfl dX6_place_12 ?_
  exact ⟨rfl, rfl⟩
theorem ev_X6_advance (h : RD I T N i) (hi : i < N) : pd_Ev G mi_X6_advance 1 0 0 [.ref (pd_z G + 1)] (SD, false, I, L, R) (pd_rv (SD, false, pd_up I 1 4 (nI (i + 1)), L, R)) := by
  obtain ⟨⟨h1, h2⟩, h3, h4⟩ := h
  refine pd_ev 0 (lo := [some (.ref (pd_z G + 1))]) (by decide +kernel) (Nat.le_of_ble_eq_true rfl) rfl ?_
  refine at_aload_n dX6_advance_0 rfl ?_
  refine at_geti flX6_79 rfl sd_1 dX6_advance_1 ?_
  refine at_sipush dX6_advance_4 pc_s600 ?_
  rw [h3]
  refine at_icmpge (tgt := 20) dX6_advance_7 (by decide) (fun c7 => ?_) (fun c7 => ?_)
  · -- taken 7
    exact absurd c7 (nI_ge (b := 600) (by omega) (by decide))
  · -- not taken 7
    refine at_aload_n dX6_advance_10 rfl ?_
    refine at_dup dX6_advance_11 rfl ?_
    refine at_geti flX6_79 rfl sd_1 dX6_advance_12 ?_
    rw [h3]
    refine at_iconst dX6_advance_15 pc_i1 ?_
    refine at_iadd dX6_advance_16 ?_
    rw [nI_1]
    refine at_puti flX6_79 rfl sd_1 (fun _ _ _ hq => by cases hq; rfl) dX6_advance_17 ?_
    refine at_vret rfl dX6_advance_20 ?_
    exact ⟨rfl, rfl⟩
theorem ev_X6_refuse (k p : Int32) : pd_Ev G mi_X6_refuse 1 0 0 [.ref (pd_z G + 1), .int k, .int p] (SD, false, I, L, R) (pd_rt (.int 0) (SD, false, pd_up (pd_up I 1 2 k) 1 3 p, L, R)) := by
  refine pd_ev 0 (lo := [some (.ref (pd_z G + 1)), some (.int k), some (.int p)]) (by decide +kernel) (Nat.le_of_ble_eq_true rfl) rfl ?_
  refine at_aload_n dX6_refuse_0 rfl ?_
  refine at_iload_n dX6_refuse_1 rfl ?_
  refine at_puti flX6_163 rfl sd_1 (fun _ _ _ hq => by cases hq; rfl) dX6_refuse_2 ?_
  refine at_aload_n dX6_refuse_5 rfl ?_
  refine at_iload_n dX6_refuse_6 rfl ?_
  refine at_puti flX6_166 rfl sd_1 (fun _ _ _ hq => by cases hq; rfl) dX6_refuse_7 ?_
  refine at_iconst dX6_refuse_10 pc_i0 ?_
  refine at_zret rfl dX6_refuse_11 (by first | exact Or.inl rfl | exact Or.inr rfl | assumption) ?_
  exact ⟨rfl, rfl⟩
/-- a fault laid down -/
def rfI (I : Nat → Nat → Int32) (z : Nat × Nat) : Nat → Nat → Int32 := pd_up (pd_up I 1 2 (nI z.1)) 1 3 (nI z.2)
theorem ev_X6_takeSign (hR : RS R) (h : RD I T N i) {c : Nat} (hc : c < 128) (hc0 : c ≠ 0) (hT : TOK T N) : pd_Ev G mi_X6_takeSign 2 0 0 [.ref (pd_z G + 1), .int (nI c)] (SD, false, I, L, R) (fun o M => if T.1 i = c then pd_rt (.int 1) (SD, false, pd_up I 1 4 (nI (i + 1)), L, R) o M else pd_rt (.int 0) (SD, false, rfI I (1, T.2.2.2 i), L, R) o M) := by
  have hk := h.1.2 i h.2.2
  have e1 : nI (T.1 i) = nI c ↔ T.1 i = c := nI_eq (by omega) (by omega)
  refine pd_ev 0 (lo := [some (.ref (pd_z G + 1)), some (.int (nI c))]) (by decide +kernel) (Nat.le_of_ble_eq_true rfl) rfl ?_
  refine at_aload_n dX6_takeSign_0 rfl ?_
  refine at_cv0 cvX6_29 sd_1 (ev_X6_kind hR h) (by decide) ⟨Nat.le_refl _, Nat.le_refl _⟩ (Nat.le_of_ble_eq_true rfl) dX6_takeSign_1 (pd_k1 ?_)
  refine at_iload_n dX6_takeSign_4 rfl ?_
  refine at_icmpeq (tgt := 18) dX6_takeSign_5 (by decide) (fun c5 => ?_) (fun c5 => ?_)
  · -- taken 5
    rw [e1] at c5
    refine at_aload_n dX6_takeSign_18 rfl ?_
    refine at_cv0 cvX6_89 sd_1 (ev_X6_advance h (hT.lt h.2.2 (by omega))) (by decide) ⟨Nat.le_refl _, Nat.le_refl _⟩ (Nat.le_of_ble_eq_true rfl) dX6_takeSign_19 (pd_k0 ?_)
    refine at_iconst dX6_takeSign_22 pc_i1 ?_
    refine at_zret rfl dX6_takeSign_23 (by first | exact Or.inl rfl | exact Or.inr rfl | assumption) ?_
    rw [if_pos c5]; exact ⟨rfl, rfl⟩
  · -- not taken 5
    rw [e1] at c5
    refine at_aload_n dX6_takeSign_8 rfl ?_
    refine at_iconst dX6_takeSign_9 pc_i1 ?_
    refine at_aload_n dX6_takeSign_10 rfl ?_
    refine at_cv0 cvX6_62 sd_1 (ev_X6_place hR h) (by decide) ⟨Nat.le_refl _, Nat.le_refl _⟩ (Nat.le_of_ble_eq_true rfl) dX6_takeSign_11 (pd_k1 ?_)
    refine at_cv2 cvX6_65 sd_1 (ev_X6_refuse 1 _) (by decide) ⟨Nat.le_refl _, Nat.le_refl _⟩ (Nat.le_of_ble_eq_true rfl) dX6_takeSign_14 (pd_k1 ?_)
    refine at_zret rfl dX6_takeSign_17 (by first | exact Or.inl rfl | exact Or.inr rfl | assumption) ?_
    rw [if_neg c5]; exact ⟨rfl, rfl⟩
def pNum (T : TS) (i lo hi : Nat) : Nat ⊕ (Nat × Nat) := if T.1 i = 18 then (if lo ≤ T.2.1 i ∧ T.2.1 i ≤ hi then .inl (T.2.1 i) else .inr (2, T.2.2.2 i)) else .inr (1, T.2.2.2 i)
def pName (T : TS) (i : Nat) : List Nat ⊕ (Nat × Nat) := if (1 ≤ T.1 i ∧ T.1 i ≤ 17) ∧ (T.2.2.1 i).length ≤ 5 then .inl (T.2.2.1 i) else .inr (1, T.2.2.2 i)
/-- a number taken, or a fault -/
def QN (I : Nat → Nat → Int32) (L : Nat → Nat → Int64) (R : Nat → Nat → Option Nat) (i : Nat) (f : Nat → Nat) (res : Nat ⊕ (Nat × Nat)) : pd_O → pd_M → Prop := match res with
  | .inl a => pd_rt (.int (nI (f a))) (SD, false, pd_up I 1 4 (nI (i + 1)), L, R)
  | .inr z => pd_rt (.int (-1)) (SD, false, rfI I z, L, R)
theorem ev_X6_takeNumber (hR : RS R) (h : RD I T N i) (hT : TOK T N) {lo hi : Nat} (hlo : lo ≤ 1000) (hhi : hi ≤ 999) : pd_Ev G mi_X6_takeNumber 2 0 0 [.ref (pd_z G + 1), .int (nI lo), .int (nI hi)] (SD, false, I, L, R) (QN I L R i id (pNum T i lo hi)) := by
  have hk := h.1.2 i h.2.2
  have h600 := h.1.1
  have e1 : nI (T.1 i) = 18 ↔ T.1 i = 18 := nI_eq (b := 18) (by omega) (by decide)
  have hi6 : i ≤ 600 := by have := h.2.2; omega
  unfold pNum
  refine pd_ev 1 (lo := [some (.ref (pd_z G + 1)), some (.int (nI lo)), some (.int (nI hi)), none]) (by decide +kernel) (Nat.le_of_ble_eq_true rfl) rfl ?_
  refine at_aload_n dX6_takeNumber_0 rfl ?_
  refine at_cv0 cvX6_29 sd_1 (ev_X6_kind hR h) (by decide) ⟨Nat.le_refl _, Nat.le_refl _⟩ (Nat.le_of_ble_eq_true rfl) dX6_takeNumber_1 (pd_k1 ?_)
  refine at_bipush dX6_takeNumber_4 pc_b18 ?_
  refine at_icmpeq (tgt := 21) dX6_takeNumber_6 (by decide) (fun c6 => ?_) (fun c6 => ?_)
  · -- taken 6
    rw [e1] at c6
    rw [if_pos c6]
    obtain ⟨n1, n2, n3⟩ := hk.2.2.2.2.1 c6
    refine at_aload_n dX6_takeNumber_21 rfl ?_
    refine at_getr (2) flX6_12 rfl sd_1 (rs_1_0 hR) dX6_takeNumber_22 ?_
    refine at_getr (5) flX6_155 rfl sd_2 (rs_2_2 hR) dX6_takeNumber_25 ?_
    refine at_aload_n dX6_takeNumber_28 rfl ?_
    refine at_geti flX6_79 rfl sd_1 dX6_takeNumber_29 ?_
    rw [h.2.1]
    refine at_iald sd_5 (vp_in_nI (by omega) (by decide)) dX6_takeNumber_32 ?_
    rw [nI_clamp (by omega)]
    refine at_istore_n dX6_takeNumber_33 rfl (Nat.le_of_ble_eq_true rfl) ?_
    refine at_iload_n dX6_takeNumber_34 rfl ?_
    refine at_iload_n dX6_takeNumber_35 rfl ?_
    refine at_icmplt (tgt := 44) dX6_takeNumber_36 (by decide) (fun c36 => ?_) (fun c36 => ?_)
    · -- taken 36
      refine at_aload_n dX6_takeNumber_44 rfl ?_
      refine at_iconst dX6_takeNumber_45 pc_i2 ?_
      refine at_aload_n dX6_takeNumber_46 rfl ?_
      refine at_cv0 cvX6_62 sd_1 (ev_X6_place hR h) (by decide) ⟨Nat.le_refl _, Nat.le_refl _⟩ (Nat.le_of_ble_eq_true rfl) dX6_takeNumber_47 (pd_k1 ?_)
      refine at_cv2 cvX6_65 sd_1 (ev_X6_refuse 2 _) (by decide) ⟨Nat.le_refl _, Nat.le_refl _⟩ (Nat.le_of_ble_eq_true rfl) dX6_takeNumber_50 (pd_k1 ?_)
      refine at_pop dX6_takeNumber_53 rfl ?_
      refine at_iconst dX6_takeNumber_54 pc_im1 ?_
      refine at_iret rfl dX6_takeNumber_55 ?_
      rw [if_neg (fun q => ?_)]
      · exact ⟨rfl, rfl⟩
      · rw [n2 (by omega)] at *
        first | exact nI_nlt q.1 (by omega) c36 | exact c41 (nI_le q.2 (by omega))
    · -- not taken 36
      refine at_iload_n dX6_takeNumber_39 rfl ?_
      refine at_iload_n dX6_takeNumber_40 rfl ?_
      refine at_icmple (tgt := 56) dX6_takeNumber_41 (by decide) (fun c41 => ?_) (fun c41 => ?_)
      · -- taken 41
        refine at_aload_n dX6_takeNumber_56 rfl ?_
        refine at_cv0 cvX6_89 sd_1 (ev_X6_advance h (hT.lt h.2.2 (by omega))) (by decide) ⟨Nat.le_refl _, Nat.le_refl _⟩ (Nat.le_of_ble_eq_true rfl) dX6_takeNumber_57 (pd_k0 ?_)
        refine at_iload_n dX6_takeNumber_60 rfl ?_
        refine at_iret rfl dX6_takeNumber_61 ?_
        rcases Nat.lt_or_ge (T.2.1 i) 1000 with q | q
        · rw [n2 q] at *
          rw [if_pos ⟨by rcases Nat.lt_or_ge (T.2.1 i) lo with q2 | q2; exact absurd (nI_lt q2 (by omega)) c36; exact q2, by rcases Nat.lt_or_ge hi (T.2.1 i) with q2 | q2; exact absurd c41 (nI_ge q2 (by omega)); exact q2⟩]
          exact ⟨rfl, rfl⟩
        · obtain ⟨y, y1, y2, y3⟩ := n3 (by omega)
          rw [y3] at c41
          exact absurd c41 (nI_ge (by omega) y2)
      · -- not taken 41
        refine at_aload_n dX6_takeNumber_44 rfl ?_
        refine at_iconst dX6_takeNumber_45 pc_i2 ?_
        refine at_aload_n dX6_takeNumber_46 rfl ?_
        refine at_cv0 cvX6_62 sd_1 (ev_X6_place hR h) (by decide) ⟨Nat.le_refl _, Nat.le_refl _⟩ (Nat.le_of_ble_eq_true rfl) dX6_takeNumber_47 (pd_k1 ?_)
        refine at_cv2 cvX6_65 sd_1 (ev_X6_refuse 2 _) (by decide) ⟨Nat.le_refl _, Nat.le_refl _⟩ (Nat.le_of_ble_eq_true rfl) dX6_takeNumber_50 (pd_k1 ?_)
        refine at_pop dX6_takeNumber_53 rfl ?_
        refine at_iconst dX6_takeNumber_54 pc_im1 ?_
        refine at_iret rfl dX6_takeNumber_55 ?_
        rw [if_neg (fun q => ?_)]
        · exact ⟨rfl, rfl⟩
        · rw [n2 (by omega)] at *
          first | exact nI_nlt q.1 (by omega) c36 | exact c41 (nI_le q.2 (by omega))
  · -- not taken 6
    rw [e1] at c6
    rw [if_neg c6]
    refine at_aload_n dX6_takeNumber_9 rfl ?_
    refine at_iconst dX6_takeNumber_10 pc_i1 ?_
    refine at_aload_n dX6_takeNumber_11 rfl ?_
    refine at_cv0 cvX6_62 sd_1 (ev_X6_place hR h) (by decide) ⟨Nat.le_refl _, Nat.le_refl _⟩ (Nat.le_of_ble_eq_true rfl) dX6_takeNumber_12 (pd_k1 ?_)
    refine at_cv2 cvX6_65 sd_1 (ev_X6_refuse 1 _) (by decide) ⟨Nat.le_refl _, Nat.le_refl _⟩ (Nat.le_of_ble_eq_true rfl) dX6_takeNumber_15 (pd_k1 ?_)
    refine at_pop dX6_takeNumber_18 rfl ?_
    refine at_iconst dX6_takeNumber_19 pc_im1 ?_
    refine at_iret rfl dX6_takeNumber_20 ?_
    exact ⟨rfl, rfl⟩
theorem ev_X6_takeName (hR : RS R) (h : RD I T N i) (hT : TOK T N) : pd_Ev G mi_X6_takeName 2 0 0 [.ref (pd_z G + 1)] (SD, false, I, L, R) (match pName T i with
    | .inl w => pd_rt (.int (nI (n32 w))) (SD, false, pd_up I 1 4 (nI (i + 1)), L, R)
    | .inr z => pd_rt (.int (-1)) (SD, false, rfI I z, L, R)) := by
  have hk := h.1.2 i h.2.2
  have h600 := h.1.1
  have hi6 : i ≤ 600 := by have := h.2.2; omega
  have e1 : nI (T.1 i) < 1 ↔ T.1 i < 1 := nI_ltI (b := 1) (by omega) (by decide)
  have e2 : 17 < nI (T.1 i) ↔ 17 < T.1 i := nI_ltI (a := 17) (by decide) (by omega)
  unfold pName
  refine pd_ev 2 (lo := [some (.ref (pd_z G + 1)), none, none]) (by decide +kernel) (Nat.le_of_ble_eq_true rfl) rfl ?_
  by_cases hw : 1 ≤ T.1 i ∧ T.1 i ≤ 17
  · obtain ⟨v1, v2, v3⟩ := hk.2.2.2.2.2 hw
    by_cases hl : (T.2.2.1 i).length ≤ 5
    · rw [if_pos hl] at v1
      rw [if_pos ⟨hw, hl⟩]
      have hlt : n32 (T.2.2.1 i) < 2 ^ 31 := Nat.lt_of_lt_of_le (n32_lt _ v3) (Nat.le_trans (Nat.pow_le_pow_right (by decide) hl) (by decide))
      refine at_aload_n dX6_takeName_0 rfl ?_
      refine at_cv0 cvX6_29 sd_1 (ev_X6_kind hR h) (by decide) ⟨Nat.le_refl _, Nat.le_refl _⟩ (Nat.le_of_ble_eq_true rfl) dX6_takeName_1 (pd_k1 ?_)
      refine at_iconst dX6_takeName_4 pc_i1 ?_
      refine at_icmplt (tgt := 21) dX6_takeName_5 (by decide) (fun c5 => ?_) (fun c5 => ?_)
      · -- taken 5
        rw [e1] at c5; omega
      · -- not taken 5
        refine at_aload_n dX6_takeName_8 rfl ?_
        refine at_cv0 cvX6_29 sd_1 (ev_X6_kind hR h) (by decide) ⟨Nat.le_refl _, Nat.le_refl _⟩ (Nat.le_of_ble_eq_true rfl) dX6_takeName_9 (pd_k1 ?_)
        refine at_bipush dX6_takeName_12 pc_b17 ?_
        refine at_icmpgt (tgt := 21) dX6_takeName_14 (by decide) (fun c14 => ?_) (fun c14 => ?_)
        · -- taken 14
          rw [e2] at c14; omega
        · -- not taken 14
          refine at_iconst dX6_takeName_17 pc_i1 ?_
          refine at_goto (tgt := 22) dX6_takeName_18 (by decide) ?_
          refine at_istore_n dX6_takeName_22 rfl (Nat.le_of_ble_eq_true rfl) ?_
          refine at_iload_n dX6_takeName_23 rfl ?_
          refine at_ifeq (tgt := 43) dX6_takeName_24 (by decide) (fun c24 => ?_) (fun c24 => ?_)
          · -- taken 24
            exact absurd c24 (by decide)
          · -- not taken 24
            refine at_aload_n dX6_takeName_27 rfl ?_
            refine at_getr (2) flX6_12 rfl sd_1 (rs_1_0 hR) dX6_takeName_28 ?_
            refine at_getr (5) flX6_155 rfl sd_2 (rs_2_2 hR) dX6_takeName_31 ?_
            refine at_aload_n dX6_takeName_34 rfl ?_
            refine at_geti flX6_79 rfl sd_1 dX6_takeName_35 ?_
            rw [h.2.1]
            refine at_iald sd_5 (vp_in_nI (by omega) (by decide)) dX6_takeName_38 ?_
            rw [nI_clamp (by omega), v1]
            refine at_iconst dX6_takeName_39 pc_im1 ?_
            refine at_icmpne (tgt := 55) dX6_takeName_40 (by decide) (fun c40 => ?_) (fun c40 => ?_)
            · -- taken 40
              refine at_aload_n dX6_takeName_55 rfl ?_
              refine at_getr (2) flX6_12 rfl sd_1 (rs_1_0 hR) dX6_takeName_56 ?_
              refine at_getr (5) flX6_155 rfl sd_2 (rs_2_2 hR) dX6_takeName_59 ?_
              refine at_aload_n dX6_takeName_62 rfl ?_
              refine at_geti flX6_79 rfl sd_1 dX6_takeName_63 ?_
              rw [h.2.1]
              refine at_iald sd_5 (vp_in_nI (by omega) (by decide)) dX6_takeName_66 ?_
              rw [nI_clamp (by omega), v1]
              refine at_istore_n dX6_takeName_67 rfl (Nat.le_of_ble_eq_true rfl) ?_
              refine at_aload_n dX6_takeName_68 rfl ?_
              refine at_cv0 cvX6_89 sd_1 (ev_X6_advance h (hT.lt h.2.2 (by omega))) (by decide) ⟨Nat.le_refl _, Nat.le_refl _⟩ (Nat.le_of_ble_eq_true rfl) dX6_takeName_69 (pd_k0 ?_)
              refine at_iload_n dX6_takeName_72 rfl ?_
              refine at_iret rfl dX6_takeName_73 ?_
              exact ⟨rfl, rfl⟩
            · -- not taken 40
              exact absurd c40 (nI_nm1 hlt)
    · rw [if_neg hl] at v1
      rw [if_neg (fun q => hl q.2)]
      refine at_aload_n dX6_takeName_0 rfl ?_
      refine at_cv0 cvX6_29 sd_1 (ev_X6_kind hR h) (by decide) ⟨Nat.le_refl _, Nat.le_refl _⟩ (Nat.le_of_ble_eq_true rfl) dX6_takeName_1 (pd_k1 ?_)
      refine at_iconst dX6_takeName_4 pc_i1 ?_
      refine at_icmplt (tgt := 21) dX6_takeName_5 (by decide) (fun c5 => ?_) (fun c5 => ?_)
      · -- taken 5
        rw [e1] at c5; omega
      · -- not taken 5
        refine at_aload_n dX6_takeName_8 rfl ?_
        refine at_cv0 cvX6_29 sd_1 (ev_X6_kind hR h) (by decide) ⟨Nat.le_refl _, Nat.le_refl _⟩ (Nat.le_of_ble_eq_true rfl) dX6_takeName_9 (pd_k1 ?_)
        refine at_bipush dX6_takeName_12 pc_b17 ?_
        refine at_icmpgt (tgt := 21) dX6_takeName_14 (by decide) (fun c14 => ?_) (fun c14 => ?_)
        · -- taken 14
          rw [e2] at c14; omega
        · -- not taken 14
          refine at_iconst dX6_takeName_17 pc_i1 ?_
          refine at_goto (tgt := 22) dX6_takeName_18 (by decide) ?_
          refine at_istore_n dX6_takeName_22 rfl (Nat.le_of_ble_eq_true rfl) ?_
          refine at_iload_n dX6_takeName_23 rfl ?_
          refine at_ifeq (tgt := 43) dX6_takeName_24 (by decide) (fun c24 => ?_) (fun c24 => ?_)
          · -- taken 24
            exact absurd c24 (by decide)
          · -- not taken 24
            refine at_aload_n dX6_takeName_27 rfl ?_
            refine at_getr (2) flX6_12 rfl sd_1 (rs_1_0 hR) dX6_takeName_28 ?_
            refine at_getr (5) flX6_155 rfl sd_2 (rs_2_2 hR) dX6_takeName_31 ?_
            refine at_aload_n dX6_takeName_34 rfl ?_
            refine at_geti flX6_79 rfl sd_1 dX6_takeName_35 ?_
            rw [h.2.1]
            refine at_iald sd_5 (vp_in_nI (by omega) (by decide)) dX6_takeName_38 ?_
            rw [nI_clamp (by omega), v1]
            refine at_iconst dX6_takeName_39 pc_im1 ?_
            refine at_icmpne (tgt := 55) dX6_takeName_40 (by decide) (fun c40 => ?_) (fun c40 => ?_)
            · -- taken 40
              exact absurd rfl c40
            · -- not taken 40
              refine at_aload_n dX6_takeName_43 rfl ?_
              refine at_iconst dX6_takeName_44 pc_i1 ?_
              refine at_aload_n dX6_takeName_45 rfl ?_
              refine at_cv0 cvX6_62 sd_1 (ev_X6_place hR h) (by decide) ⟨Nat.le_refl _, Nat.le_refl _⟩ (Nat.le_of_ble_eq_true rfl) dX6_takeName_46 (pd_k1 ?_)
              refine at_cv2 cvX6_65 sd_1 (ev_X6_refuse 1 _) (by decide) ⟨Nat.le_refl _, Nat.le_refl _⟩ (Nat.le_of_ble_eq_true rfl) dX6_takeName_49 (pd_k1 ?_)
              refine at_pop dX6_takeName_52 rfl ?_
              refine at_iconst dX6_takeName_53 pc_im1 ?_
              refine at_iret rfl dX6_takeName_54 ?_
              exact ⟨rfl, rfl⟩
  · rw [if_neg (fun q => hw q.1)]
    refine at_aload_n dX6_takeName_0 rfl ?_
    refine at_cv0 cvX6_29 sd_1 (ev_X6_kind hR h) (by decide) ⟨Nat.le_refl _, Nat.le_refl _⟩ (Nat.le_of_ble_eq_true rfl) dX6_takeName_1 (pd_k1 ?_)
    refine at_iconst dX6_takeName_4 pc_i1 ?_
    refine at_icmplt (tgt := 21) dX6_takeName_5 (by decide) (fun c5 => ?_) (fun c5 => ?_)
    · -- taken 5
      rw [e1] at c5
      refine at_iconst dX6_takeName_21 pc_i0 ?_
      refine at_istore_n dX6_takeName_22 rfl (Nat.le_of_ble_eq_true rfl) ?_
      refine at_iload_n dX6_takeName_23 rfl ?_
      refine at_ifeq (tgt := 43) dX6_takeName_24 (by decide) (fun c24 => ?_) (fun c24 => ?_)
      · -- taken 24
        refine at_aload_n dX6_takeName_43 rfl ?_
        refine at_iconst dX6_takeName_44 pc_i1 ?_
        refine at_aload_n dX6_takeName_45 rfl ?_
        refine at_cv0 cvX6_62 sd_1 (ev_X6_place hR h) (by decide) ⟨Nat.le_refl _, Nat.le_refl _⟩ (Nat.le_of_ble_eq_true rfl) dX6_takeName_46 (pd_k1 ?_)
        refine at_cv2 cvX6_65 sd_1 (ev_X6_refuse 1 _) (by decide) ⟨Nat.le_refl _, Nat.le_refl _⟩ (Nat.le_of_ble_eq_true rfl) dX6_takeName_49 (pd_k1 ?_)
        refine at_pop dX6_takeName_52 rfl ?_
        refine at_iconst dX6_takeName_53 pc_im1 ?_
        refine at_iret rfl dX6_takeName_54 ?_
        exact ⟨rfl, rfl⟩
      · -- not taken 24
        exact absurd rfl c24
    · -- not taken 5
      rw [e1] at c5
      refine at_aload_n dX6_takeName_8 rfl ?_
      refine at_cv0 cvX6_29 sd_1 (ev_X6_kind hR h) (by decide) ⟨Nat.le_refl _, Nat.le_refl _⟩ (Nat.le_of_ble_eq_true rfl) dX6_takeName_9 (pd_k1 ?_)
      refine at_bipush dX6_takeName_12 pc_b17 ?_
      refine at_icmpgt (tgt := 21) dX6_takeName_14 (by decide) (fun c14 => ?_) (fun c14 => ?_)
      · -- taken 14
        refine at_iconst dX6_takeName_21 pc_i0 ?_
        refine at_istore_n dX6_takeName_22 rfl (Nat.le_of_ble_eq_true rfl) ?_
        refine at_iload_n dX6_takeName_23 rfl ?_
        refine at_ifeq (tgt := 43) dX6_takeName_24 (by decide) (fun c24 => ?_) (fun c24 => ?_)
        · -- taken 24
          refine at_aload_n dX6_takeName_43 rfl ?_
          refine at_iconst dX6_takeName_44 pc_i1 ?_
          refine at_aload_n dX6_takeName_45 rfl ?_
          refine at_cv0 cvX6_62 sd_1 (ev_X6_place hR h) (by decide) ⟨Nat.le_refl _, Nat.le_refl _⟩ (Nat.le_of_ble_eq_true rfl) dX6_takeName_46 (pd_k1 ?_)
          refine at_cv2 cvX6_65 sd_1 (ev_X6_refuse 1 _) (by decide) ⟨Nat.le_refl _, Nat.le_refl _⟩ (Nat.le_of_ble_eq_true rfl) dX6_takeName_49 (pd_k1 ?_)
          refine at_pop dX6_takeName_52 rfl ?_
          refine at_iconst dX6_takeName_53 pc_im1 ?_
          refine at_iret rfl dX6_takeName_54 ?_
          exact ⟨rfl, rfl⟩
        · -- not taken 24
          exact absurd rfl c24
      · -- not taken 14
        rw [e2] at c14; exact absurd ⟨by omega, by omega⟩ hw
def fcI (k : Nat) : Int32 := match fcOf k with
  | some f => nI f
  | none => -1
theorem ev_X6_factOf {M : pd_M} {k : Nat} (hk : k < 128) : pd_Ev G mi_X6_factOf 1 0 0 [.int (nI k)] M (pd_rt (.int (fcI k)) M) := by
  have e := fun (c : Nat) (hc : c < 128) => (nI_eq (a := k) (b := c) (by omega) (by omega))
  refine pd_ev 0 (lo := [some (.int (nI k))]) (by decide +kernel) (Nat.le_of_ble_eq_true rfl) rfl ?_
  refine at_iload_n dX6_factOf_0 rfl ?_
  by_cases h : 2 ≤ k ∧ k ≤ 16
  · rcases (show k = 2 ∨ k = 3 ∨ k = 4 ∨ k = 5 ∨ k = 6 ∨ k = 7 ∨ k = 8 ∨ k = 9 ∨ k = 10 ∨ k = 11 ∨ k = 12 ∨ k = 13 ∨ k = 14 ∨ k = 15 ∨ k = 16 by omega) with rfl | rfl | rfl | rfl | rfl | rfl | rfl | rfl | rfl | rfl | rfl | rfl | rfl | rfl | rfl
    · refine at_tabIn (tgt := 82) (off := 81) dX6_factOf_1 (by decide) (by decide) (by decide) (by decide) ?_
      refine at_iconst dX6_factOf_82 pc_i3 ?_
      refine at_iret rfl dX6_factOf_83 ?_
      exact ⟨rfl, rfl⟩
    · refine at_tabIn (tgt := 88) (off := 87) dX6_factOf_1 (by decide) (by decide) (by decide) (by decide) ?_
      refine at_iconst dX6_factOf_88 pc_im1 ?_
      refine at_iret rfl dX6_factOf_89 ?_
      exact ⟨rfl, rfl⟩
    · refine at_tabIn (tgt := 88) (off := 87) dX6_factOf_1 (by decide) (by decide) (by decide) (by decide) ?_
      refine at_iconst dX6_factOf_88 pc_im1 ?_
      refine at_iret rfl dX6_factOf_89 ?_
      exact ⟨rfl, rfl⟩
    · refine at_tabIn (tgt := 88) (off := 87) dX6_factOf_1 (by decide) (by decide) (by decide) (by decide) ?_
      refine at_iconst dX6_factOf_88 pc_im1 ?_
      refine at_iret rfl dX6_factOf_89 ?_
      exact ⟨rfl, rfl⟩
    · refine at_tabIn (tgt := 88) (off := 87) dX6_factOf_1 (by decide) (by decide) (by decide) (by decide) ?_
      refine at_iconst dX6_factOf_88 pc_im1 ?_
      refine at_iret rfl dX6_factOf_89 ?_
      exact ⟨rfl, rfl⟩
    · refine at_tabIn (tgt := 88) (off := 87) dX6_factOf_1 (by decide) (by decide) (by decide) (by decide) ?_
      refine at_iconst dX6_factOf_88 pc_im1 ?_
      refine at_iret rfl dX6_factOf_89 ?_
      exact ⟨rfl, rfl⟩
    · refine at_tabIn (tgt := 88) (off := 87) dX6_factOf_1 (by decide) (by decide) (by decide) (by decide) ?_
      refine at_iconst dX6_factOf_88 pc_im1 ?_
      refine at_iret rfl dX6_factOf_89 ?_
      exact ⟨rfl, rfl⟩
    · refine at_tabIn (tgt := 88) (off := 87) dX6_factOf_1 (by decide) (by decide) (by decide) (by decide) ?_
      refine at_iconst dX6_factOf_88 pc_im1 ?_
      refine at_iret rfl dX6_factOf_89 ?_
      exact ⟨rfl, rfl⟩
    · refine at_tabIn (tgt := 88) (off := 87) dX6_factOf_1 (by decide) (by decide) (by decide) (by decide) ?_
      refine at_iconst dX6_factOf_88 pc_im1 ?_
      refine at_iret rfl dX6_factOf_89 ?_
      exact ⟨rfl, rfl⟩
    · refine at_tabIn (tgt := 88) (off := 87) dX6_factOf_1 (by decide) (by decide) (by decide) (by decide) ?_
      refine at_iconst dX6_factOf_88 pc_im1 ?_
      refine at_iret rfl dX6_factOf_89 ?_
      exact ⟨rfl, rfl⟩
    · refine at_tabIn (tgt := 76) (off := 75) dX6_factOf_1 (by decide) (by decide) (by decide) (by decide) ?_
      refine at_iconst dX6_factOf_76 pc_i0 ?_
      refine at_iret rfl dX6_factOf_77 ?_
      exact ⟨rfl, rfl⟩
    · refine at_tabIn (tgt := 78) (off := 77) dX6_factOf_1 (by decide) (by decide) (by decide) (by decide) ?_
      refine at_iconst dX6_factOf_78 pc_i1 ?_
      refine at_iret rfl dX6_factOf_79 ?_
      exact ⟨rfl, rfl⟩
    · refine at_tabIn (tgt := 80) (off := 79) dX6_factOf_1 (by decide) (by decide) (by decide) (by decide) ?_
      refine at_iconst dX6_factOf_80 pc_i2 ?_
      refine at_iret rfl dX6_factOf_81 ?_
      exact ⟨rfl, rfl⟩
    · refine at_tabIn (tgt := 84) (off := 83) dX6_factOf_1 (by decide) (by decide) (by decide) (by decide) ?_
      refine at_iconst dX6_factOf_84 pc_i4 ?_
      refine at_iret rfl dX6_factOf_85 ?_
      exact ⟨rfl, rfl⟩
    · refine at_tabIn (tgt := 86) (off := 85) dX6_factOf_1 (by decide) (by decide) (by decide) (by decide) ?_
      refine at_iconst dX6_factOf_86 pc_i5 ?_
      refine at_iret rfl dX6_factOf_87 ?_
      exact ⟨rfl, rfl⟩
  · refine at_tabOut (tgt := 88) dX6_factOf_1 (by rw [nI_toInt (by omega)]; omega) (by decide) ?_
    have hf : fcI k = -1 := by
      unfold fcI fcOf
      rw [if_neg (by omega), if_neg (by omega), if_neg (by omega), if_neg (by omega), if_neg (by omega), if_neg (by omega)]
    rw [hf]
    refine at_iconst dX6_factOf_88 pc_im1 ?_
    refine at_iret rfl dX6_factOf_89 ?_
    exact ⟨rfl, rfl⟩
theorem ev_X6_takeOperand (hR : RS R) (h : RD I T N i) (hT : TOK T N) : pd_Ev G mi_X6_takeOperand 3 0 0 [.ref (pd_z G + 1)] (SD, false, I, L, R) (QN I L R i id (pOp T i)) := by
  have hk := h.1.2 i h.2.2
  have h600 := h.1.1
  have hi6 : i ≤ 600 := by have := h.2.2; omega
  have e1 : nI (T.1 i) = 18 ↔ T.1 i = 18 := nI_eq (b := 18) (by omega) (by decide)
  refine pd_ev 2 (lo := [some (.ref (pd_z G + 1)), none, none]) (by decide +kernel) (Nat.le_of_ble_eq_true rfl) rfl ?_
  by_cases h18 : T.1 i = 18
  · obtain ⟨n1, n2, n3⟩ := hk.2.2.2.2.1 h18
    by_cases h9 : T.2.1 i ≤ 999
    · have eO : pOp T i = .inl (T.2.1 i) := by simp [pOp, h18, h9]
      have hv := n2 (by omega)
      rw [eO]
      refine at_aload_n dX6_takeOperand_0 rfl ?_
      refine at_cv0 cvX6_29 sd_1 (ev_X6_kind hR h) (by decide) ⟨Nat.le_refl _, Nat.le_refl _⟩ (Nat.le_of_ble_eq_true rfl) dX6_takeOperand_1 (pd_k1 ?_)
      refine at_bipush dX6_takeOperand_4 pc_b18 ?_
      refine at_icmpne (tgt := 13) dX6_takeOperand_6 (by decide) (fun c6 => ?_) (fun c6 => ?_)
      · -- taken 6
        exact absurd (e1.mpr h18) c6
      · -- not taken 6
        refine at_iconst dX6_takeOperand_9 pc_i1 ?_
        refine at_goto (tgt := 14) dX6_takeOperand_10 (by decide) ?_
        refine at_istore_n dX6_takeOperand_14 rfl (Nat.le_of_ble_eq_true rfl) ?_
        refine at_iload_n dX6_takeOperand_15 rfl ?_
        refine at_ifeq (tgt := 34) dX6_takeOperand_16 (by decide) (fun c16 => ?_) (fun c16 => ?_)
        · -- taken 16
          exact absurd c16 (by decide)
        · -- not taken 16
          refine at_aload_n dX6_takeOperand_19 rfl ?_
          refine at_getr (2) flX6_12 rfl sd_1 (rs_1_0 hR) dX6_takeOperand_20 ?_
          refine at_getr (5) flX6_155 rfl sd_2 (rs_2_2 hR) dX6_takeOperand_23 ?_
          refine at_aload_n dX6_takeOperand_26 rfl ?_
          refine at_geti flX6_79 rfl sd_1 dX6_takeOperand_27 ?_
          rw [h.2.1]
          refine at_iald sd_5 (vp_in_nI (by omega) (by decide)) dX6_takeOperand_30 ?_
          rw [nI_clamp (by omega), hv]
          refine at_goto (tgt := 41) dX6_takeOperand_31 (by decide) ?_
          refine at_istore_n dX6_takeOperand_41 rfl (Nat.le_of_ble_eq_true rfl) ?_
          refine at_iload_n dX6_takeOperand_42 rfl ?_
          refine at_iconst dX6_takeOperand_43 pc_im1 ?_
          refine at_icmpne (tgt := 59) dX6_takeOperand_44 (by decide) (fun c44 => ?_) (fun c44 => ?_)
          · -- taken 44
            refine at_iload_n dX6_takeOperand_59 rfl ?_
            refine at_ifeq (tgt := 82) dX6_takeOperand_60 (by decide) (fun c60 => ?_) (fun c60 => ?_)
            · -- taken 60
              exact absurd c60 (by decide)
            · -- not taken 60
              refine at_iload_n dX6_takeOperand_63 rfl ?_
              refine at_sipush dX6_takeOperand_64 pc_s1000 ?_
              refine at_icmplt (tgt := 82) dX6_takeOperand_67 (by decide) (fun c67 => ?_) (fun c67 => ?_)
              · -- taken 67
                refine at_aload_n dX6_takeOperand_82 rfl ?_
                refine at_cv0 cvX6_89 sd_1 (ev_X6_advance h (hT.lt h.2.2 (by omega))) (by decide) ⟨Nat.le_refl _, Nat.le_refl _⟩ (Nat.le_of_ble_eq_true rfl) dX6_takeOperand_83 (pd_k0 ?_)
                refine at_iload_n dX6_takeOperand_86 rfl ?_
                refine at_ifeq (tgt := 94) dX6_takeOperand_87 (by decide) (fun c87 => ?_) (fun c87 => ?_)
                · -- taken 87
                  exact absurd c87 (by decide)
                · -- not taken 87
                  refine at_iload_n dX6_takeOperand_90 rfl ?_
                  refine at_goto (tgt := 99) dX6_takeOperand_91 (by decide) ?_
                  refine at_iret rfl dX6_takeOperand_99 ?_
                  exact ⟨rfl, rfl⟩
              · -- not taken 67
                exact absurd (nI_lt (a := T.2.1 i) (b := 1000) (by omega) (by decide)) c67
          · -- not taken 44
            exact absurd c44 (nI_nm1 (by omega))
    · have eO : pOp T i = .inr (2, T.2.2.2 i) := by simp [pOp, h18, h9]
      obtain ⟨y, y1, y2, y3⟩ := n3 (by omega)
      rw [eO]
      refine at_aload_n dX6_takeOperand_0 rfl ?_
      refine at_cv0 cvX6_29 sd_1 (ev_X6_kind hR h) (by decide) ⟨Nat.le_refl _, Nat.le_refl _⟩ (Nat.le_of_ble_eq_true rfl) dX6_takeOperand_1 (pd_k1 ?_)
      refine at_bipush dX6_takeOperand_4 pc_b18 ?_
      refine at_icmpne (tgt := 13) dX6_takeOperand_6 (by decide) (fun c6 => ?_) (fun c6 => ?_)
      · -- taken 6
        exact absurd (e1.mpr h18) c6
      · -- not taken 6
        refine at_iconst dX6_takeOperand_9 pc_i1 ?_
        refine at_goto (tgt := 14) dX6_takeOperand_10 (by decide) ?_
        refine at_istore_n dX6_takeOperand_14 rfl (Nat.le_of_ble_eq_true rfl) ?_
        refine at_iload_n dX6_takeOperand_15 rfl ?_
        refine at_ifeq (tgt := 34) dX6_takeOperand_16 (by decide) (fun c16 => ?_) (fun c16 => ?_)
        · -- taken 16
          exact absurd c16 (by decide)
        · -- not taken 16
          refine at_aload_n dX6_takeOperand_19 rfl ?_
          refine at_getr (2) flX6_12 rfl sd_1 (rs_1_0 hR) dX6_takeOperand_20 ?_
          refine at_getr (5) flX6_155 rfl sd_2 (rs_2_2 hR) dX6_takeOperand_23 ?_
          refine at_aload_n dX6_takeOperand_26 rfl ?_
          refine at_geti flX6_79 rfl sd_1 dX6_takeOperand_27 ?_
          rw [h.2.1]
          refine at_iald sd_5 (vp_in_nI (by omega) (by decide)) dX6_takeOperand_30 ?_
          rw [nI_clamp (by omega), y3]
          refine at_goto (tgt := 41) dX6_takeOperand_31 (by decide) ?_
          refine at_istore_n dX6_takeOperand_41 rfl (Nat.le_of_ble_eq_true rfl) ?_
          refine at_iload_n dX6_takeOperand_42 rfl ?_
          refine at_iconst dX6_takeOperand_43 pc_im1 ?_
          refine at_icmpne (tgt := 59) dX6_takeOperand_44 (by decide) (fun c44 => ?_) (fun c44 => ?_)
          · -- taken 44
            refine at_iload_n dX6_takeOperand_59 rfl ?_
            refine at_ifeq (tgt := 82) dX6_takeOperand_60 (by decide) (fun c60 => ?_) (fun c60 => ?_)
            · -- taken 60
              exact absurd c60 (by decide)
            · -- not taken 60
              refine at_iload_n dX6_takeOperand_63 rfl ?_
              refine at_sipush dX6_takeOperand_64 pc_s1000 ?_
              refine at_icmplt (tgt := 82) dX6_takeOperand_67 (by decide) (fun c67 => ?_) (fun c67 => ?_)
              · -- taken 67
                exact absurd c67 (nI_nlt (a := y) (b := 1000) y1 y2)
              · -- not taken 67
                refine at_aload_n dX6_takeOperand_70 rfl ?_
                refine at_iconst dX6_takeOperand_71 pc_i2 ?_
                refine at_aload_n dX6_takeOperand_72 rfl ?_
                refine at_cv0 cvX6_62 sd_1 (ev_X6_place hR h) (by decide) ⟨Nat.le_refl _, Nat.le_refl _⟩ (Nat.le_of_ble_eq_true rfl) dX6_takeOperand_73 (pd_k1 ?_)
                refine at_cv2 cvX6_65 sd_1 (ev_X6_refuse 2 _) (by decide) ⟨Nat.le_refl _, Nat.le_refl _⟩ (Nat.le_of_ble_eq_true rfl) dX6_takeOperand_76 (pd_k1 ?_)
                refine at_pop dX6_takeOperand_79 rfl ?_
                refine at_iconst dX6_takeOperand_80 pc_im1 ?_
                refine at_iret rfl dX6_takeOperand_81 ?_
                exact ⟨rfl, rfl⟩
          · -- not taken 44
            exact absurd c44 (nI_nm1 y2)
  · cases hf : fcOf (T.1 i) with
    | none =>
      have eO : pOp T i = .inr (1, T.2.2.2 i) := by simp [pOp, h18, hf]
      have eF : fcI (T.1 i) = -1 := by simp [fcI, hf]
      rw [eO]
      refine at_aload_n dX6_takeOperand_0 rfl ?_
      refine at_cv0 cvX6_29 sd_1 (ev_X6_kind hR h) (by decide) ⟨Nat.le_refl _, Nat.le_refl _⟩ (Nat.le_of_ble_eq_true rfl) dX6_takeOperand_1 (pd_k1 ?_)
      refine at_bipush dX6_takeOperand_4 pc_b18 ?_
      refine at_icmpne (tgt := 13) dX6_takeOperand_6 (by decide) (fun c6 => ?_) (fun c6 => ?_)
      · -- taken 6
        refine at_iconst dX6_takeOperand_13 pc_i0 ?_
        refine at_istore_n dX6_takeOperand_14 rfl (Nat.le_of_ble_eq_true rfl) ?_
        refine at_iload_n dX6_takeOperand_15 rfl ?_
        refine at_ifeq (tgt := 34) dX6_takeOperand_16 (by decide) (fun c16 => ?_) (fun c16 => ?_)
        · -- taken 16
          refine at_aload_n dX6_takeOperand_34 rfl ?_
          refine at_cv0 cvX6_29 sd_1 (ev_X6_kind hR h) (by decide) ⟨Nat.le_refl _, Nat.le_refl _⟩ (Nat.le_of_ble_eq_true rfl) dX6_takeOperand_35 (pd_k1 ?_)
          refine at_cs1 csX6_159 (ev_X6_factOf hk.2.2.1) (by decide) ⟨Nat.le_refl _, Nat.le_refl _⟩ (Nat.le_of_ble_eq_true rfl) dX6_takeOperand_38 (pd_k1 ?_)
          rw [eF]
          refine at_istore_n dX6_takeOperand_41 rfl (Nat.le_of_ble_eq_true rfl) ?_
          refine at_iload_n dX6_takeOperand_42 rfl ?_
          refine at_iconst dX6_takeOperand_43 pc_im1 ?_
          refine at_icmpne (tgt := 59) dX6_takeOperand_44 (by decide) (fun c44 => ?_) (fun c44 => ?_)
          · -- taken 44
            exact absurd rfl c44
          · -- not taken 44
            refine at_aload_n dX6_takeOperand_47 rfl ?_
            refine at_iconst dX6_takeOperand_48 pc_i1 ?_
            refine at_aload_n dX6_takeOperand_49 rfl ?_
            refine at_cv0 cvX6_62 sd_1 (ev_X6_place hR h) (by decide) ⟨Nat.le_refl _, Nat.le_refl _⟩ (Nat.le_of_ble_eq_true rfl) dX6_takeOperand_50 (pd_k1 ?_)
            refine at_cv2 cvX6_65 sd_1 (ev_X6_refuse 1 _) (by decide) ⟨Nat.le_refl _, Nat.le_refl _⟩ (Nat.le_of_ble_eq_true rfl) dX6_takeOperand_53 (pd_k1 ?_)
            refine at_pop dX6_takeOperand_56 rfl ?_
            refine at_iconst dX6_takeOperand_57 pc_im1 ?_
            refine at_iret rfl dX6_takeOperand_58 ?_
            exact ⟨rfl, rfl⟩
        · -- not taken 16
          exact absurd rfl c16
      · -- not taken 6
        exact absurd (e1.mp c6) h18
    | some f =>
      have eO : pOp T i = .inl (1000 + f) := by simp [pOp, h18, hf]
      have eF : fcI (T.1 i) = nI f := by simp [fcI, hf]
      have hf6 := fcOf_lt hf
      rw [eO]
      refine at_aload_n dX6_takeOperand_0 rfl ?_
      refine at_cv0 cvX6_29 sd_1 (ev_X6_kind hR h) (by decide) ⟨Nat.le_refl _, Nat.le_refl _⟩ (Nat.le_of_ble_eq_true rfl) dX6_takeOperand_1 (pd_k1 ?_)
      refine at_bipush dX6_takeOperand_4 pc_b18 ?_
      refine at_icmpne (tgt := 13) dX6_takeOperand_6 (by decide) (fun c6 => ?_) (fun c6 => ?_)
      · -- taken 6
        refine at_iconst dX6_takeOperand_13 pc_i0 ?_
        refine at_istore_n dX6_takeOperand_14 rfl (Nat.le_of_ble_eq_true rfl) ?_
        refine at_iload_n dX6_takeOperand_15 rfl ?_
        refine at_ifeq (tgt := 34) dX6_takeOperand_16 (by decide) (fun c16 => ?_) (fun c16 => ?_)
        · -- taken 16
          refine at_aload_n dX6_takeOperand_34 rfl ?_
          refine at_cv0 cvX6_29 sd_1 (ev_X6_kind hR h) (by decide) ⟨Nat.le_refl _, Nat.le_refl _⟩ (Nat.le_of_ble_eq_true rfl) dX6_takeOperand_35 (pd_k1 ?_)
          refine at_cs1 csX6_159 (ev_X6_factOf hk.2.2.1) (by decide) ⟨Nat.le_refl _, Nat.le_refl _⟩ (Nat.le_of_ble_eq_true rfl) dX6_takeOperand_38 (pd_k1 ?_)
          rw [eF]
          refine at_istore_n dX6_takeOperand_41 rfl (Nat.le_of_ble_eq_true rfl) ?_
          refine at_iload_n dX6_takeOperand_42 rfl ?_
          refine at_iconst dX6_takeOperand_43 pc_im1 ?_
          refine at_icmpne (tgt := 59) dX6_takeOperand_44 (by decide) (fun c44 => ?_) (fun c44 => ?_)
          · -- taken 44
            refine at_iload_n dX6_takeOperand_59 rfl ?_
            refine at_ifeq (tgt := 82) dX6_takeOperand_60 (by decide) (fun c60 => ?_) (fun c60 => ?_)
            · -- taken 60
              refine at_aload_n dX6_takeOperand_82 rfl ?_
              refine at_cv0 cvX6_89 sd_1 (ev_X6_advance h (hT.lt h.2.2 hf6.2)) (by decide) ⟨Nat.le_refl _, Nat.le_refl _⟩ (Nat.le_of_ble_eq_true rfl) dX6_takeOperand_83 (pd_k0 ?_)
              refine at_iload_n dX6_takeOperand_86 rfl ?_
              refine at_ifeq (tgt := 94) dX6_takeOperand_87 (by decide) (fun c87 => ?_) (fun c87 => ?_)
              · -- taken 87
                refine at_sipush dX6_takeOperand_94 pc_s1000 ?_
                refine at_iload_n dX6_takeOperand_97 rfl ?_
                refine at_iadd dX6_takeOperand_98 ?_
                rw [show (1000 : Int32) = nI 1000 from rfl, nI_add]
                refine at_iret rfl dX6_takeOperand_99 ?_
                exact ⟨rfl, rfl⟩
              · -- not taken 87
                exact absurd rfl c87
            · -- not taken 60
              exact absurd rfl c60
          · -- not taken 44
            exact absurd c44 (nI_nm1 (by omega))
        · -- not taken 16
          exact absurd rfl c16
      · -- not taken 6
        exact absurd (e1.mp c6) h18
end READ
