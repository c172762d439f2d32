/-! ===== the reference: facts of a line, the rule ===== -/
theorem ct_t {p : Nat → Bool} {i : Nat} (h : p i = true) : nI (fb_ct p i) + 1 = nI (fb_ct p (i + 1)) := by rw [nI_1, fb_ct_succ, if_pos h]
theorem ct_f {p : Nat → Bool} {i : Nat} (h : p i = false) : nI (fb_ct p i) + 0 = nI (fb_ct p (i + 1)) := by
  rw [fb_ct_succ, if_neg (by rw [h]; decide)]; exact nI_add _ 0
theorem i_of_t {p : Prop} [Decidable p] (h : p) : (1 : Int32) = i_of (decide p) := by rw [decide_eq_true h]; rfl
theorem i_of_f {p : Prop} [Decidable p] (h : ¬ p) : (0 : Int32) = i_of (decide p) := by rw [decide_eq_false h]; rfl
def fcV (r : Nat → Int32) (nv l : Nat) (what : Int32) : Int32 := if what = 0 then r (68 + 4 * l) else if what = 1 then r (66 + 4 * l) else if what = 2 then nI (rNo r l) else if what = 3 then rSh r l else if what = 4 then rSi r nv l else nI (rAh r nv l)
theorem fcV_nI (r : Nat → Int32) (nv l q : Nat) (h : q < 6) : fcV r nv l (nI q) = rF r nv l q := by
  rcases (show q = 0 ∨ q = 1 ∨ q = 2 ∨ q = 3 ∨ q = 4 ∨ q = 5 by omega) with rfl | rfl | rfl | rfl | rfl | rfl <;> rfl
section REF3
variable {G : pd_G} {I : Nat → Nat → Int32} {L : Nat → Nat → Int64} {R : Nat → Nat → Option Nat} {nv ns nl : Nat} {e : List rl_S} {r : Nat → Int32}
theorem lp_X9_numberOf {l : Nat} (hq : RQ I 122 r) (hl : l < 40) : ∀ (k i : Nat), i + k = l → pd_At G mi_X9_numberOf 2 0 0 0 0 4 [some (.ref (pd_z G + 122)), some (.int (nI l)), some (.int (nI (fb_ct (fun k => decide (rSh r k = rSh r l)) i))), some (.int (nI i))] [] (SD, false, I, L, R) (pd_rt (.int (nI (rNo r l))) (SD, false, I, L, R)) := by
  intro k
  induction k with
  | zero =>
    intro i hi
    have e : i = l := by omega
    subst e
    refine at_iload_n dX9_numberOf_4 rfl ?_
    refine at_iload_n dX9_numberOf_5 rfl ?_
    refine at_icmpge (tgt := 40) dX9_numberOf_6 (by decide) (fun c6 => ?_) (fun c6 => ?_)
    · -- taken 6
      refine at_iload_n dX9_numberOf_40 rfl ?_
      refine at_iret rfl dX9_numberOf_41 ?_
      exact ⟨rfl, rfl⟩
    · -- not taken 6
      exact absurd (nI_le (Nat.le_refl _) (by omega)) c6
  | succ k ih =>
    intro i hi
    refine at_iload_n dX9_numberOf_4 rfl ?_
    refine at_iload_n dX9_numberOf_5 rfl ?_
    refine at_icmpge (tgt := 40) dX9_numberOf_6 (by decide) (fun c6 => ?_) (fun c6 => ?_)
    · -- taken 6
      exact absurd c6 (nI_ge (by omega) (by omega))
    · -- not taken 6
      refine at_iload_n dX9_numberOf_9 rfl ?_
      refine at_aload_n dX9_numberOf_10 rfl ?_
      refine at_iload_n dX9_numberOf_11 rfl ?_
      refine at_iconst dX9_numberOf_12 pc_i2 ?_
      refine at_cs2 csX9_124 (ev_X9_lineAt i 2 (67 + 4 * i) (by omega)) (by decide) ⟨Nat.le_refl _, Nat.le_refl _⟩ (Nat.le_of_ble_eq_true rfl) dX9_numberOf_13 (pd_k1 ?_)
      refine at_iald sd_122 (vp_in_nI (by omega) (by decide)) dX9_numberOf_16 ?_
      rw [nI_clamp (by omega), hq _ (by omega)]
      refine at_aload_n dX9_numberOf_17 rfl ?_
      refine at_iload_n dX9_numberOf_18 rfl ?_
      refine at_iconst dX9_numberOf_19 pc_i2 ?_
      refine at_cs2 csX9_124 (ev_X9_lineAt l 2 (67 + 4 * l) (by omega)) (by decide) ⟨Nat.le_refl _, Nat.le_refl _⟩ (Nat.le_of_ble_eq_true rfl) dX9_numberOf_20 (pd_k1 ?_)
      refine at_iald sd_122 (vp_in_nI (by omega) (by decide)) dX9_numberOf_23 ?_
      rw [nI_clamp (by omega), hq _ (by omega)]
      refine at_icmpne (tgt := 31) dX9_numberOf_24 (by decide) (fun c24 => ?_) (fun c24 => ?_)
      · -- taken 24
        refine at_iconst dX9_numberOf_31 pc_i0 ?_
        refine at_iadd dX9_numberOf_32 ?_
        refine at_istore_n dX9_numberOf_33 rfl (Nat.le_of_ble_eq_true rfl) ?_
        refine at_inc dX9_numberOf_34 rfl pc_i1 rfl (Nat.le_of_ble_eq_true rfl) ?_
        refine at_goto (tgt := 4) dX9_numberOf_37 (by decide) ?_
        first | (rw [ct_t, nI_1 i]; (exact ih (i + 1) (by omega)); (simp [rSh, c24]; done)) | (rw [ct_f, nI_1 i]; (exact ih (i + 1) (by omega)); (simp [rSh, c24]; done))
      · -- not taken 24
        refine at_iconst dX9_numberOf_27 pc_i1 ?_
        refine at_goto (tgt := 32) dX9_numberOf_28 (by decide) ?_
        refine at_iadd dX9_numberOf_32 ?_
        refine at_istore_n dX9_numberOf_33 rfl (Nat.le_of_ble_eq_true rfl) ?_
        refine at_inc dX9_numberOf_34 rfl pc_i1 rfl (Nat.le_of_ble_eq_true rfl) ?_
        refine at_goto (tgt := 4) dX9_numberOf_37 (by decide) ?_
        first | (rw [ct_t, nI_1 i]; (exact ih (i + 1) (by omega)); (simp [rSh, c24]; done)) | (rw [ct_f, nI_1 i]; (exact ih (i + 1) (by omega)); (simp [rSh, c24]; done))
theorem ev_X9_numberOf {l : Nat} (hq : RQ I 122 r) (hl : l < 40) : pd_Ev G mi_X9_numberOf 2 0 0 [.ref (pd_z G + 122), .int (nI l)] (SD, false, I, L, R) (pd_rt (.int (nI (rNo r l))) (SD, false, I, L, R)) := by
  refine pd_ev 2 (lo := [some (.ref (pd_z G + 122)), some (.int (nI l)), none, none]) (by decide +kernel) (Nat.le_of_ble_eq_true rfl) rfl ?_
  refine at_iconst dX9_numberOf_0 pc_i0 ?_
  refine at_istore_n dX9_numberOf_1 rfl (Nat.le_of_ble_eq_true rfl) ?_
  refine at_iconst dX9_numberOf_2 pc_i0 ?_
  refine at_istore_n dX9_numberOf_3 rfl (Nat.le_of_ble_eq_true rfl) ?_
  exact lp_X9_numberOf hq hl l 0 (by omega)
theorem lp_X9_fact (hR : RS R) {l : Nat} (hl : l < 40) (hw : ∀ k, k ≤ l → I 134 k = rW r nv k) {what : Int32} {Q : pd_O → pd_M → Prop} (K : pd_At G mi_X9_fact 3 0 0 0 0 44 [some (.ref (pd_z G + 119)), some (.ref (pd_z G + 122)), some (.int (nI l)), some (.int what), some (.int (nI (rAh r nv l))), some (.int (nI l))] [] (SD, false, I, L, R) Q) : ∀ (k i : Nat), i + k = l → pd_At G mi_X9_fact 3 0 0 0 0 6 [some (.ref (pd_z G + 119)), some (.ref (pd_z G + 122)), some (.int (nI l)), some (.int what), some (.int (nI (fb_ct (fun k => decide (rW r nv k = rW r nv l)) i))), some (.int (nI i))] [] (SD, false, I, L, R) Q := by
  intro k
  induction k with
  | zero =>
    intro i hi
    have e : i = l := by omega
    subst e
    refine at_iload dX9_fact_6 rfl ?_
    refine at_iload_n dX9_fact_8 rfl ?_
    refine at_icmpge (tgt := 44) dX9_fact_9 (by decide) (fun c9 => ?_) (fun c9 => ?_)
    · -- taken 9
      exact K
    · -- not taken 9
      exact absurd (nI_le (Nat.le_refl _) (by omega)) c9
  | succ k ih =>
    intro i hi
    refine at_iload dX9_fact_6 rfl ?_
    refine at_iload_n dX9_fact_8 rfl ?_
    refine at_icmpge (tgt := 44) dX9_fact_9 (by decide) (fun c9 => ?_) (fun c9 => ?_)
    · -- taken 9
      exact absurd c9 (nI_ge (by omega) (by omega))
    · -- not taken 9
      refine at_iload dX9_fact_12 rfl ?_
      refine at_aload_n dX9_fact_14 rfl ?_
      refine at_getr (134) flX9_34 rfl sd_119 (rs_119_17 hR) dX9_fact_15 ?_
      refine at_iload dX9_fact_18 rfl ?_
      refine at_iald sd_134 (vp_in_nI (by omega) (by decide)) dX9_fact_20 ?_
      rw [nI_clamp (by omega), hw _ (by omega)]
      refine at_aload_n dX9_fact_21 rfl ?_
      refine at_getr (134) flX9_34 rfl sd_119 (rs_119_17 hR) dX9_fact_22 ?_
      refine at_iload_n dX9_fact_25 rfl ?_
      refine at_iald sd_134 (vp_in_nI (by omega) (by decide)) dX9_fact_26 ?_
      rw [nI_clamp (by omega), hw _ (by omega)]
      refine at_icmpne (tgt := 34) dX9_fact_27 (by decide) (fun c27 => ?_) (fun c27 => ?_)
      · -- taken 27
        refine at_iconst dX9_fact_34 pc_i0 ?_
        refine at_iadd dX9_fact_35 ?_
        refine at_istore dX9_fact_36 rfl (Nat.le_of_ble_eq_true rfl) ?_
        refine at_inc dX9_fact_38 rfl pc_i1 rfl (Nat.le_of_ble_eq_true rfl) ?_
        refine at_goto (tgt := 6) dX9_fact_41 (by decide) ?_
        first | (rw [ct_t, nI_1 i]; (exact ih (i + 1) (by omega)); (simp [c27]; done)) | (rw [ct_f, nI_1 i]; (exact ih (i + 1) (by omega)); (simp [c27]; done))
      · -- not taken 27
        refine at_iconst dX9_fact_30 pc_i1 ?_
        refine at_goto (tgt := 35) dX9_fact_31 (by decide) ?_
        refine at_iadd dX9_fact_35 ?_
        refine at_istore dX9_fact_36 rfl (Nat.le_of_ble_eq_true rfl) ?_
        refine at_inc dX9_fact_38 rfl pc_i1 rfl (Nat.le_of_ble_eq_true rfl) ?_
        refine at_goto (tgt := 6) dX9_fact_41 (by decide) ?_
        first | (rw [ct_t, nI_1 i]; (exact ih (i + 1) (by omega)); (simp [c27]; done)) | (rw [ct_f, nI_1 i]; (exact ih (i + 1) (by omega)); (simp [c27]; done))
theorem ev_X9_fact (hR : RS R) (hq : RQ I 122 r) {l v : Nat} (hl : l < 40) (hv16 : v < 16) (hw : ∀ k, k ≤ l → I 134 k = rW r nv k) (hv : rW r nv l = nI v) (what : Int32) : pd_Ev G mi_X9_fact 3 0 0 [.ref (pd_z G + 119), .ref (pd_z G + 122), .int (nI l), .int what] (SD, false, I, L, R) (pd_rt (.int (fcV r nv l what)) (SD, false, I, L, R)) := by
  have hvl : I 134 l = nI v := (hw l (Nat.le_refl _)).trans hv
  have hsi : rSi r nv l = r (11 + 3 * v) := by rw [rSi, hv, nI_clamp (by omega)]
  have key : pd_At G mi_X9_fact 3 0 0 0 0 44 [some (.ref (pd_z G + 119)), some (.ref (pd_z G + 122)), some (.int (nI l)), some (.int what), some (.int (nI (rAh r nv l))), some (.int (nI l))] [] (SD, false, I, L, R) (pd_rt (.int (fcV r nv l what)) (SD, false, I, L, R)) := by
    refine at_iload_n dX9_fact_44 rfl ?_
    by_cases s45_0 : what = 0
    · -- case 0
      subst s45_0
      refine at_tabIn (tgt := 80) (off := 35) dX9_fact_45 (by decide) (by decide) (by decide) (by decide) ?_
      refine at_aload_n dX9_fact_80 rfl ?_
      refine at_iload_n dX9_fact_81 rfl ?_
      refine at_iconst dX9_fact_82 pc_i3 ?_
      refine at_cs2 csX9_124 (ev_X9_lineAt l 3 (68 + 4 * l) (by omega)) (by decide) ⟨Nat.le_refl _, Nat.le_refl _⟩ (Nat.le_of_ble_eq_true rfl) dX9_fact_83 (pd_k1 ?_)
      refine at_iald sd_122 (vp_in_nI (by omega) (by decide)) dX9_fact_86 ?_
      rw [nI_clamp (by omega), hq _ (by omega)]
      refine at_iret rfl dX9_fact_87 ?_
      first | exact ⟨rfl, rfl⟩ | (refine ⟨?_, rfl⟩; rw [fcV, if_neg s45_0, if_neg s45_1, if_neg s45_2, if_neg s45_3, if_neg s45_4])
    by_cases s45_1 : what = 1
    · -- case 1
      subst s45_1
      refine at_tabIn (tgt := 88) (off := 43) dX9_fact_45 (by decide) (by decide) (by decide) (by decide) ?_
      refine at_aload_n dX9_fact_88 rfl ?_
      refine at_iload_n dX9_fact_89 rfl ?_
      refine at_iconst dX9_fact_90 pc_i1 ?_
      refine at_cs2 csX9_124 (ev_X9_lineAt l 1 (66 + 4 * l) (by omega)) (by decide) ⟨Nat.le_refl _, Nat.le_refl _⟩ (Nat.le_of_ble_eq_true rfl) dX9_fact_91 (pd_k1 ?_)
      refine at_iald sd_122 (vp_in_nI (by omega) (by decide)) dX9_fact_94 ?_
      rw [nI_clamp (by omega), hq _ (by omega)]
      refine at_iret rfl dX9_fact_95 ?_
      first | exact ⟨rfl, rfl⟩ | (refine ⟨?_, rfl⟩; rw [fcV, if_neg s45_0, if_neg s45_1, if_neg s45_2, if_neg s45_3, if_neg s45_4])
    by_cases s45_2 : what = 2
    · -- case 2
      subst s45_2
      refine at_tabIn (tgt := 96) (off := 51) dX9_fact_45 (by decide) (by decide) (by decide) (by decide) ?_
      refine at_aload_n dX9_fact_96 rfl ?_
      refine at_iload_n dX9_fact_97 rfl ?_
      refine at_cs2 csX9_221 (ev_X9_numberOf hq hl) (by decide) ⟨Nat.le_refl _, Nat.le_refl _⟩ (Nat.le_of_ble_eq_true rfl) dX9_fact_98 (pd_k1 ?_)
      refine at_iret rfl dX9_fact_101 ?_
      first | exact ⟨rfl, rfl⟩ | (refine ⟨?_, rfl⟩; rw [fcV, if_neg s45_0, if_neg s45_1, if_neg s45_2, if_neg s45_3, if_neg s45_4])
    by_cases s45_3 : what = 3
    · -- case 3
      subst s45_3
      refine at_tabIn (tgt := 102) (off := 57) dX9_fact_45 (by decide) (by decide) (by decide) (by decide) ?_
      refine at_aload_n dX9_fact_102 rfl ?_
      refine at_iload_n dX9_fact_103 rfl ?_
      refine at_iconst dX9_fact_104 pc_i2 ?_
      refine at_cs2 csX9_124 (ev_X9_lineAt l 2 (67 + 4 * l) (by omega)) (by decide) ⟨Nat.le_refl _, Nat.le_refl _⟩ (Nat.le_of_ble_eq_true rfl) dX9_fact_105 (pd_k1 ?_)
      refine at_iald sd_122 (vp_in_nI (by omega) (by decide)) dX9_fact_108 ?_
      rw [nI_clamp (by omega), hq _ (by omega)]
      refine at_iret rfl dX9_fact_109 ?_
      first | exact ⟨rfl, rfl⟩ | (refine ⟨?_, rfl⟩; rw [fcV, if_neg s45_0, if_neg s45_1, if_neg s45_2, if_neg s45_3, if_neg s45_4])
    by_cases s45_4 : what = 4
    · -- case 4
      subst s45_4
      refine at_tabIn (tgt := 110) (off := 65) dX9_fact_45 (by decide) (by decide) (by decide) (by decide) ?_
      refine at_aload_n dX9_fact_110 rfl ?_
      refine at_aload_n dX9_fact_111 rfl ?_
      refine at_getr (134) flX9_34 rfl sd_119 (rs_119_17 hR) dX9_fact_112 ?_
      refine at_iload_n dX9_fact_115 rfl ?_
      refine at_iald sd_134 (vp_in_nI (by omega) (by decide)) dX9_fact_116 ?_
      rw [nI_clamp (by omega), hvl]
      refine at_iconst dX9_fact_117 pc_i2 ?_
      refine at_cs2 csX9_111 (ev_X9_voterAt v 2 (11 + 3 * v) (by omega)) (by decide) ⟨Nat.le_refl _, Nat.le_refl _⟩ (Nat.le_of_ble_eq_true rfl) dX9_fact_118 (pd_k1 ?_)
      refine at_iald sd_122 (vp_in_nI (by omega) (by decide)) dX9_fact_121 ?_
      rw [nI_clamp (by omega), hq _ (by omega), ← hsi]
      refine at_iret rfl dX9_fact_122 ?_
      first | exact ⟨rfl, rfl⟩ | (refine ⟨?_, rfl⟩; rw [fcV, if_neg s45_0, if_neg s45_1, if_neg s45_2, if_neg s45_3, if_neg s45_4])
    refine at_tabOut (tgt := 123) dX9_fact_45 (by have a0 := ti_ne s45_0; have a1 := ti_ne s45_1; have a2 := ti_ne s45_2; have a3 := ti_ne s45_3; have a4 := ti_ne s45_4; simp only [show (0 : Int32).toInt = 0 by decide, show (1 : Int32).toInt = 1 by decide, show (2 : Int32).toInt = 2 by decide, show (3 : Int32).toInt = 3 by decide, show (4 : Int32).toInt = 4 by decide] at *; omega) (by decide) ?_
    refine at_iload dX9_fact_123 rfl ?_
    refine at_iret rfl dX9_fact_125 ?_
    first | exact ⟨rfl, rfl⟩ | (refine ⟨?_, rfl⟩; rw [fcV, if_neg s45_0, if_neg s45_1, if_neg s45_2, if_neg s45_3, if_neg s45_4])
  refine pd_ev 2 (lo := [some (.ref (pd_z G + 119)), some (.ref (pd_z G + 122)), some (.int (nI l)), some (.int what), none, none]) (by decide +kernel) (Nat.le_of_ble_eq_true rfl) rfl ?_
  refine at_iconst dX9_fact_0 pc_i0 ?_
  refine at_istore dX9_fact_1 rfl (Nat.le_of_ble_eq_true rfl) ?_
  refine at_iconst dX9_fact_3 pc_i0 ?_
  refine at_istore dX9_fact_4 rfl (Nat.le_of_ble_eq_true rfl) ?_
  exact lp_X9_fact hR hl hw key l 0 (by omega)
/-- the stack, the latest first -/
def Stk (f : Nat → Int32) : List Bool → Prop
  | [] => True
  | b :: t => f t.length = i_of b ∧ Stk f t
theorem Stk.fr {f g : Nat → Int32} : ∀ {s : List Bool}, Stk f s → (∀ k, k < s.length → g k = f k) → Stk g s
  | [], _, _ => trivial
  | b :: t, h, hg => ⟨(hg t.length (by simp)).trans h.1, h.2.fr (fun k hk => hg k (by simp; omega))⟩
def GI (I I' : Nat → Nat → Int32) : Prop := ∀ x, x ≠ 135 → ∀ j, I' x j = I x j
theorem GI.up {I I' : Nat → Nat → Int32} {d : Nat} {v : Int32} (h : GI I I') : GI I (pd_up I' 135 d v) := fun x hx j => by rw [pd_up_nb hx]; exact h x hx j
def binV (c : Nat) (x y : Int32) : Bool := if c = 8 then decide (x < y) else if c = 9 then decide (x = y) else if c = 10 then decide (y < x) else if c = 12 then decide (x + y = 2) else decide (0 < x + y)
theorem bin12 : ∀ a b : Bool, binV 12 (i_of a) (i_of b) = (a && b) := by decide
theorem bin13 : ∀ a b : Bool, binV 13 (i_of a) (i_of b) = (a || b) := by decide
theorem i_not : ∀ b : Bool, 1 - i_of b = i_of (!b) := by decide
section RULE
variable {l : Nat} {Q : pd_O → pd_M → Prop}
theorem st_bin (hR : RS R) (hq : RQ I 122 r) {i d c : Nat} (hi : i < 1105) (hd : d < 100) (hci : r i = nI c) (hc : c = 8 ∨ c = 9 ∨ c = 10 ∨ c = 12 ∨ c = 13)
    (K : pd_At G mi_X9_isGood 4 0 0 0 0 16 [some (.ref (pd_z G + 119)), some (.ref (pd_z G + 122)), some (.int (nI l)), some (.int (nI (d + 1))), some (.int (nI (i + 1))), none, none, none] [] (SD, false, pd_up I 135 d (i_of (binV c (I 135 d) (I 135 (d + 1)))), L, R) Q) : pd_At G mi_X9_isGood 4 0 0 0 0 16 [some (.ref (pd_z G + 119)), some (.ref (pd_z G + 122)), some (.int (nI l)), some (.int (nI (d + 2))), some (.int (nI i)), none, none, none] [] (SD, false, I, L, R) Q := by
  have fin : ∀ v, v = i_of (binV c (I 135 d) (I 135 (d + 1))) → pd_At G mi_X9_isGood 4 0 0 0 0 222 [some (.ref (pd_z G + 119)), some (.ref (pd_z G + 122)), some (.int (nI l)), some (.int (nI (d + 1))), some (.int (nI i)), some (.int (nI c)), some (.int (I 135 d)), some (.int (I 135 (d + 1)))] [.int v, .int (nI d), .ref (pd_z G + 135)] (SD, false, I, L, R) Q := by
    intro v hv
    subst hv
    refine at_iast sd_135 (vp_in_nI (by omega) (by decide)) dX9_isGood_222 ?_
    refine at_inc dX9_isGood_223 rfl pc_i1 rfl (Nat.le_of_ble_eq_true rfl) ?_
    refine at_goto (tgt := 16) dX9_isGood_226 (by decide) ?_
    refine at_drop 5 ?_
    refine at_drop 6 ?_
    refine at_drop 7 ?_
    rw [nI_1, nI_clamp (by omega)]
    exact K
  refine at_aload_n dX9_isGood_16 rfl ?_
  refine at_iload dX9_isGood_17 rfl ?_
  refine at_iald sd_122 (vp_in_nI hi (by decide)) dX9_isGood_19 ?_
  rw [nI_clamp (by omega), hq _ hi, hci]
  refine at_ifeq (tgt := 229) dX9_isGood_20 (by decide) (fun c20 => ?_) (fun c20 => ?_)
  · -- taken 20
    exact absurd c20 (nI_ne0 (by omega) (by omega))
  · -- not taken 20
    refine at_aload_n dX9_isGood_23 rfl ?_
    refine at_iload dX9_isGood_24 rfl ?_
    refine at_iald sd_122 (vp_in_nI hi (by decide)) dX9_isGood_26 ?_
    rw [nI_clamp (by omega), hq _ hi, hci]
    refine at_istore dX9_isGood_27 rfl (Nat.le_of_ble_eq_true rfl) ?_
    refine at_iload dX9_isGood_29 rfl ?_
    refine at_iconst dX9_isGood_31 pc_i1 ?_
    refine at_icmpne (tgt := 54) dX9_isGood_32 (by decide) (fun c32 => ?_) (fun c32 => ?_)
    · -- taken 32
      refine at_iload dX9_isGood_54 rfl ?_
      refine at_bipush dX9_isGood_56 pc_b8 ?_
      refine at_icmpge (tgt := 83) dX9_isGood_58 (by decide) (fun c58 => ?_) (fun c58 => ?_)
      · -- taken 58
        refine at_iload dX9_isGood_83 rfl ?_
        refine at_bipush dX9_isGood_85 pc_b11 ?_
        refine at_icmpne (tgt := 111) dX9_isGood_87 (by decide) (fun c87 => ?_) (fun c87 => ?_)
        · -- taken 87
          refine at_inc dX9_isGood_111 rfl pc_im1 rfl (Nat.le_of_ble_eq_true rfl) ?_
          rw [pk_m1]
          refine at_aload_n dX9_isGood_114 rfl ?_
          refine at_getr (135) flX9_37 rfl sd_119 (rs_119_18 hR) dX9_isGood_115 ?_
          refine at_iload_n dX9_isGood_118 rfl ?_
          refine at_iconst dX9_isGood_119 pc_i1 ?_
          refine at_isub dX9_isGood_120 ?_
          rw [nI_pred]
          refine at_iald sd_135 (vp_in_nI (by omega) (by decide)) dX9_isGood_121 ?_
          rw [nI_clamp (by omega)]
          refine at_istore dX9_isGood_122 rfl (Nat.le_of_ble_eq_true rfl) ?_
          refine at_aload_n dX9_isGood_124 rfl ?_
          refine at_getr (135) flX9_37 rfl sd_119 (rs_119_18 hR) dX9_isGood_125 ?_
          refine at_iload_n dX9_isGood_128 rfl ?_
          refine at_iald sd_135 (vp_in_nI (by omega) (by decide)) dX9_isGood_129 ?_
          rw [nI_clamp (by omega)]
          refine at_istore dX9_isGood_130 rfl (Nat.le_of_ble_eq_true rfl) ?_
          refine at_aload_n dX9_isGood_132 rfl ?_
          refine at_getr (135) flX9_37 rfl sd_119 (rs_119_18 hR) dX9_isGood_133 ?_
          refine at_iload_n dX9_isGood_136 rfl ?_
          refine at_iconst dX9_isGood_137 pc_i1 ?_
          refine at_isub dX9_isGood_138 ?_
          rw [nI_pred]
          refine at_iload dX9_isGood_139 rfl ?_
          refine at_bipush dX9_isGood_141 pc_b8 ?_
          refine at_icmpne (tgt := 156) dX9_isGood_143 (by decide) (fun c143 => ?_) (fun c143 => ?_)
          · -- taken 143
            rw [show (8 : Int32) = nI 8 from rfl, nI_eq (by omega) (by decide)] at c143
            refine at_iload dX9_isGood_156 rfl ?_
            refine at_bipush dX9_isGood_158 pc_b9 ?_
            refine at_icmpne (tgt := 173) dX9_isGood_160 (by decide) (fun c160 => ?_) (fun c160 => ?_)
            · -- taken 160
              rw [show (9 : Int32) = nI 9 from rfl, nI_eq (by omega) (by decide)] at c160
              refine at_iload dX9_isGood_173 rfl ?_
              refine at_bipush dX9_isGood_175 pc_b10 ?_
              refine at_icmpne (tgt := 190) dX9_isGood_177 (by decide) (fun c177 => ?_) (fun c177 => ?_)
              · -- taken 177
                rw [show (10 : Int32) = nI 10 from rfl, nI_eq (by omega) (by decide)] at c177
                refine at_iload dX9_isGood_190 rfl ?_
                refine at_bipush dX9_isGood_192 pc_b12 ?_
                refine at_icmpne (tgt := 209) dX9_isGood_194 (by decide) (fun c194 => ?_) (fun c194 => ?_)
                · -- taken 194
                  rw [show (12 : Int32) = nI 12 from rfl, nI_eq (by omega) (by decide)] at c194
                  refine at_iload dX9_isGood_209 rfl ?_
                  refine at_iload dX9_isGood_211 rfl ?_
                  refine at_iadd dX9_isGood_213 ?_
                  refine at_ifle (tgt := 221) dX9_isGood_214 (by decide) (fun c214 => ?_) (fun c214 => ?_)
                  · -- taken 214
                    refine at_iconst dX9_isGood_221 pc_i0 ?_
                    refine fin _ ?_
                    first | (rw [binV, if_pos c143]; first | exact i_of_t (fa_of_nle c150) | exact i_of_f (fun q => (fa_of_lt q).2.1 c150)) | (rw [binV, if_neg c143, if_pos c160]; first | exact i_of_t c167 | exact i_of_f c167) | (rw [binV, if_neg c143, if_neg c160, if_pos c177]; first | exact i_of_t (fa_of_nle c184) | exact i_of_f (fun q => (fa_of_lt q).2.1 c184)) | (rw [binV, if_neg c143, if_neg c160, if_neg c177, if_pos c194]; first | exact i_of_t c203 | exact i_of_f c203) | (rw [binV, if_neg c143, if_neg c160, if_neg c177, if_neg c194]; first | exact i_of_t (fa_of_nle c214) | exact i_of_f (fun q => (fa_of_lt q).2.1 c214))
                  · -- not taken 214
                    refine at_iconst dX9_isGood_217 pc_i1 ?_
                    refine at_goto (tgt := 222) dX9_isGood_218 (by decide) ?_
                    refine fin _ ?_
                    first | (rw [binV, if_pos c143]; first | exact i_of_t (fa_of_nle c150) | exact i_of_f (fun q => (fa_of_lt q).2.1 c150)) | (rw [binV, if_neg c143, if_pos c160]; first | exact i_of_t c167 | exact i_of_f c167) | (rw [binV, if_neg c143, if_neg c160, if_pos c177]; first | exact i_of_t (fa_of_nle c184) | exact i_of_f (fun q => (fa_of_lt q).2.1 c184)) | (rw [binV, if_neg c143, if_neg c160, if_neg c177, if_pos c194]; first | exact i_of_t c203 | exact i_of_f c203) | (rw [binV, if_neg c143, if_neg c160, if_neg c177, if_neg c194]; first | exact i_of_t (fa_of_nle c214) | exact i_of_f (fun q => (fa_of_lt q).2.1 c214))
                · -- not taken 194
                  rw [show (12 : Int32) = nI 12 from rfl, nI_eq (by omega) (by decide)] at c194
                  refine at_iload dX9_isGood_197 rfl ?_
                  refine at_iload dX9_isGood_199 rfl ?_
                  refine at_iadd dX9_isGood_201 ?_
                  refine at_iconst dX9_isGood_202 pc_i2 ?_
                  refine at_icmpne (tgt := 221) dX9_isGood_203 (by decide) (fun c203 => ?_) (fun c203 => ?_)
                  · -- taken 203
                    refine at_iconst dX9_isGood_221 pc_i0 ?_
                    refine fin _ ?_
                    first | (rw [binV, if_pos c143]; first | exact i_of_t (fa_of_nle c150) | exact i_of_f (fun q => (fa_of_lt q).2.1 c150)) | (rw [binV, if_neg c143, if_pos c160]; first | exact i_of_t c167 | exact i_of_f c167) | (rw [binV, if_neg c143, if_neg c160, if_pos c177]; first | exact i_of_t (fa_of_nle c184) | exact i_of_f (fun q => (fa_of_lt q).2.1 c184)) | (rw [binV, if_neg c143, if_neg c160, if_neg c177, if_pos c194]; first | exact i_of_t c203 | exact i_of_f c203) | (rw [binV, if_neg c143, if_neg c160, if_neg c177, if_neg c194]; first | exact i_of_t (fa_of_nle c214) | exact i_of_f (fun q => (fa_of_lt q).2.1 c214))
                  · -- not taken 203
                    refine at_goto (tgt := 217) dX9_isGood_206 (by decide) ?_
                    refine at_iconst dX9_isGood_217 pc_i1 ?_
                    refine at_goto (tgt := 222) dX9_isGood_218 (by decide) ?_
                    refine fin _ ?_
                    first | (rw [binV, if_pos c143]; first | exact i_of_t (fa_of_nle c150) | exact i_of_f (fun q => (fa_of_lt q).2.1 c150)) | (rw [binV, if_neg c143, if_pos c160]; first | exact i_of_t c167 | exact i_of_f c167) | (rw [binV, if_neg c143, if_neg c160, if_pos c177]; first | exact i_of_t (fa_of_nle c184) | exact i_of_f (fun q => (fa_of_lt q).2.1 c184)) | (rw [binV, if_neg c143, if_neg c160, if_neg c177, if_pos c194]; first | exact i_of_t c203 | exact i_of_f c203) | (rw [binV, if_neg c143, if_neg c160, if_neg c177, if_neg c194]; first | exact i_of_t (fa_of_nle c214) | exact i_of_f (fun q => (fa_of_lt q).2.1 c214))
              · -- not taken 177
                rw [show (10 : Int32) = nI 10 from rfl, nI_eq (by omega) (by decide)] at c177
                refine at_iload dX9_isGood_180 rfl ?_
                refine at_iload dX9_isGood_182 rfl ?_
                refine at_icmple (tgt := 221) dX9_isGood_184 (by decide) (fun c184 => ?_) (fun c184 => ?_)
                · -- taken 184
                  refine at_iconst dX9_isGood_221 pc_i0 ?_
                  refine fin _ ?_
                  first | (rw [binV, if_pos c143]; first | exact i_of_t (fa_of_nle c150) | exact i_of_f (fun q => (fa_of_lt q).2.1 c150)) | (rw [binV, if_neg c143, if_pos c160]; first | exact i_of_t c167 | exact i_of_f c167) | (rw [binV, if_neg c143, if_neg c160, if_pos c177]; first | exact i_of_t (fa_of_nle c184) | exact i_of_f (fun q => (fa_of_lt q).2.1 c184)) | (rw [binV, if_neg c143, if_neg c160, if_neg c177, if_pos c194]; first | exact i_of_t c203 | exact i_of_f c203) | (rw [binV, if_neg c143, if_neg c160, if_neg c177, if_neg c194]; first | exact i_of_t (fa_of_nle c214) | exact i_of_f (fun q => (fa_of_lt q).2.1 c214))
                · -- not taken 184
                  refine at_goto (tgt := 217) dX9_isGood_187 (by decide) ?_
                  refine at_iconst dX9_isGood_217 pc_i1 ?_
                  refine at_goto (tgt := 222) dX9_isGood_218 (by decide) ?_
                  refine fin _ ?_
                  first | (rw [binV, if_pos c143]; first | exact i_of_t (fa_of_nle c150) | exact i_of_f (fun q => (fa_of_lt q).2.1 c150)) | (rw [binV, if_neg c143, if_pos c160]; first | exact i_of_t c167 | exact i_of_f c167) | (rw [binV, if_neg c143, if_neg c160, if_pos c177]; first | exact i_of_t (fa_of_nle c184) | exact i_of_f (fun q => (fa_of_lt q).2.1 c184)) | (rw [binV, if_neg c143, if_neg c160, if_neg c177, if_pos c194]; first | exact i_of_t c203 | exact i_of_f c203) | (rw [binV, if_neg c143, if_neg c160, if_neg c177, if_neg c194]; first | exact i_of_t (fa_of_nle c214) | exact i_of_f (fun q => (fa_of_lt q).2.1 c214))
            · -- not taken 160
              rw [show (9 : Int32) = nI 9 from rfl, nI_eq (by omega) (by decide)] at c160
              refine at_iload dX9_isGood_163 rfl ?_
              refine at_iload dX9_isGood_165 rfl ?_
              refine at_icmpne (tgt := 221) dX9_isGood_167 (by decide) (fun c167 => ?_) (fun c167 => ?_)
              · -- taken 167
                refine at_iconst dX9_isGood_221 pc_i0 ?_
                refine fin _ ?_
                first | (rw [binV, if_pos c143]; first | exact i_of_t (fa_of_nle c150) | exact i_of_f (fun q => (fa_of_lt q).2.1 c150)) | (rw [binV, if_neg c143, if_pos c160]; first | exact i_of_t c167 | exact i_of_f c167) | (rw [binV, if_neg c143, if_neg c160, if_pos c177]; first | exact i_of_t (fa_of_nle c184) | exact i_of_f (fun q => (fa_of_lt q).2.1 c184)) | (rw [binV, if_neg c143, if_neg c160, if_neg c177, if_pos c194]; first | exact i_of_t c203 | exact i_of_f c203) | (rw [binV, if_neg c143, if_neg c160, if_neg c177, if_neg c194]; first | exact i_of_t (fa_of_nle c214) | exact i_of_f (fun q => (fa_of_lt q).2.1 c214))
              · -- not taken 167
                refine at_goto (tgt := 217) dX9_isGood_170 (by decide) ?_
                refine at_iconst dX9_isGood_217 pc_i1 ?_
                refine at_goto (tgt := 222) dX9_isGood_218 (by decide) ?_
                refine fin _ ?_
                first | (rw [binV, if_pos c143]; first | exact i_of_t (fa_of_nle c150) | exact i_of_f (fun q => (fa_of_lt q).2.1 c150)) | (rw [binV, if_neg c143, if_pos c160]; first | exact i_of_t c167 | exact i_of_f c167) | (rw [binV, if_neg c143, if_neg c160, if_pos c177]; first | exact i_of_t (fa_of_nle c184) | exact i_of_f (fun q => (fa_of_lt q).2.1 c184)) | (rw [binV, if_neg c143, if_neg c160, if_neg c177, if_pos c194]; first | exact i_of_t c203 | exact i_of_f c203) | (rw [binV, if_neg c143, if_neg c160, if_neg c177, if_neg c194]; first | exact i_of_t (fa_of_nle c214) | exact i_of_f (fun q => (fa_of_lt q).2.1 c214))
          · -- not taken 143
            rw [show (8 : Int32) = nI 8 from rfl, nI_eq (by omega) (by decide)] at c143
            refine at_iload dX9_isGood_146 rfl ?_
            refine at_iload dX9_isGood_148 rfl ?_
            refine at_icmpge (tgt := 221) dX9_isGood_150 (by decide) (fun c150 => ?_) (fun c150 => ?_)
            · -- taken 150
              refine at_iconst dX9_isGood_221 pc_i0 ?_
              refine fin _ ?_
              first | (rw [binV, if_pos c143]; first | exact i_of_t (fa_of_nle c150) | exact i_of_f (fun q => (fa_of_lt q).2.1 c150)) | (rw [binV, if_neg c143, if_pos c160]; first | exact i_of_t c167 | exact i_of_f c167) | (rw [binV, if_neg c143, if_neg c160, if_pos c177]; first | exact i_of_t (fa_of_nle c184) | exact i_of_f (fun q => (fa_of_lt q).2.1 c184)) | (rw [binV, if_neg c143, if_neg c160, if_neg c177, if_pos c194]; first | exact i_of_t c203 | exact i_of_f c203) | (rw [binV, if_neg c143, if_neg c160, if_neg c177, if_neg c194]; first | exact i_of_t (fa_of_nle c214) | exact i_of_f (fun q => (fa_of_lt q).2.1 c214))
            · -- not taken 150
              refine at_goto (tgt := 217) dX9_isGood_153 (by decide) ?_
              refine at_iconst dX9_isGood_217 pc_i1 ?_
              refine at_goto (tgt := 222) dX9_isGood_218 (by decide) ?_
              refine fin _ ?_
              first | (rw [binV, if_pos c143]; first | exact i_of_t (fa_of_nle c150) | exact i_of_f (fun q => (fa_of_lt q).2.1 c150)) | (rw [binV, if_neg c143, if_pos c160]; first | exact i_of_t c167 | exact i_of_f c167) | (rw [binV, if_neg c143, if_neg c160, if_pos c177]; first | exact i_of_t (fa_of_nle c184) | exact i_of_f (fun q => (fa_of_lt q).2.1 c184)) | (rw [binV, if_neg c143, if_neg c160, if_neg c177, if_pos c194]; first | exact i_of_t c203 | exact i_of_f c203) | (rw [binV, if_neg c143, if_neg c160, if_neg c177, if_neg c194]; first | exact i_of_t (fa_of_nle c214) | exact i_of_f (fun q => (fa_of_lt q).2.1 c214))
        · -- not taken 87
          exact absurd ((nI_eq (b := 11) (by omega) (by decide)).mp c87) (by omega)
      · -- not taken 58
        exact absurd (nI_le (a := 8) (by omega) (by omega)) c58
    · -- not taken 32
      exact absurd ((nI_eq (b := 1) (by omega) (by decide)).mp c32) (by omega)
theorem st_not (hR : RS R) (hq : RQ I 122 r) {i d : Nat} (hi : i < 1105) (hd : d < 100) (hci : r i = nI 11)
    (K : pd_At G mi_X9_isGood 4 0 0 0 0 16 [some (.ref (pd_z G + 119)), some (.ref (pd_z G + 122)), some (.int (nI l)), some (.int (nI (d + 1))), some (.int (nI (i + 1))), none, none, none] [] (SD, false, pd_up I 135 d (1 - I 135 d), L, R) Q) : pd_At G mi_X9_isGood 4 0 0 0 0 16 [some (.ref (pd_z G + 119)), some (.ref (pd_z G + 122)), some (.int (nI l)), some (.int (nI (d + 1))), some (.int (nI i)), none, none, none] [] (SD, false, I, L, R) Q := by
  refine at_aload_n dX9_isGood_16 rfl ?_
  refine at_iload dX9_isGood_17 rfl ?_
  refine at_iald sd_122 (vp_in_nI hi (by decide)) dX9_isGood_19 ?_
  rw [nI_clamp (by omega), hq _ hi, hci]
  refine at_ifeq (tgt := 229) dX9_isGood_20 (by decide) (fun c20 => ?_) (fun c20 => ?_)
  · -- taken 20
    exact absurd c20 (by decide)
  · -- not taken 20
    refine at_aload_n dX9_isGood_23 rfl ?_
    refine at_iload dX9_isGood_24 rfl ?_
    refine at_iald sd_122 (vp_in_nI hi (by decide)) dX9_isGood_26 ?_
    rw [nI_clamp (by omega), hq _ hi, hci]
    refine at_istore dX9_isGood_27 rfl (Nat.le_of_ble_eq_true rfl) ?_
    refine at_iload dX9_isGood_29 rfl ?_
    refine at_iconst dX9_isGood_31 pc_i1 ?_
    refine at_icmpne (tgt := 54) dX9_isGood_32 (by decide) (fun c32 => ?_) (fun c32 => ?_)
    · -- taken 32
      refine at_iload dX9_isGood_54 rfl ?_
      refine at_bipush dX9_isGood_56 pc_b8 ?_
      refine at_icmpge (tgt := 83) dX9_isGood_58 (by decide) (fun c58 => ?_) (fun c58 => ?_)
      · -- taken 58
        refine at_iload dX9_isGood_83 rfl ?_
        refine at_bipush dX9_isGood_85 pc_b11 ?_
        refine at_icmpne (tgt := 111) dX9_isGood_87 (by decide) (fun c87 => ?_) (fun c87 => ?_)
        · -- taken 87
          exact absurd rfl c87
        · -- not taken 87
          refine at_aload_n dX9_isGood_90 rfl ?_
          refine at_getr (135) flX9_37 rfl sd_119 (rs_119_18 hR) dX9_isGood_91 ?_
          refine at_iload_n dX9_isGood_94 rfl ?_
          refine at_iconst dX9_isGood_95 pc_i1 ?_
          refine at_isub dX9_isGood_96 ?_
          rw [nI_pred]
          refine at_iconst dX9_isGood_97 pc_i1 ?_
          refine at_aload_n dX9_isGood_98 rfl ?_
          refine at_getr (135) flX9_37 rfl sd_119 (rs_119_18 hR) dX9_isGood_99 ?_
          refine at_iload_n dX9_isGood_102 rfl ?_
          refine at_iconst dX9_isGood_103 pc_i1 ?_
          refine at_isub dX9_isGood_104 ?_
          rw [nI_pred]
          refine at_iald sd_135 (vp_in_nI (by omega) (by decide)) dX9_isGood_105 ?_
          rw [nI_clamp (by omega)]
          refine at_isub dX9_isGood_106 ?_
          refine at_iast sd_135 (vp_in_nI (by omega) (by decide)) dX9_isGood_107 ?_
          refine at_goto (tgt := 223) dX9_isGood_108 (by decide) ?_
          refine at_inc dX9_isGood_223 rfl pc_i1 rfl (Nat.le_of_ble_eq_true rfl) ?_
          refine at_goto (tgt := 16) dX9_isGood_226 (by decide) ?_
          refine at_drop 5 ?_
          rw [nI_1 i, nI_clamp (by omega)]
          exact K
      · -- not taken 58
        exact absurd (by decide) c58
    · -- not taken 32
      exact absurd c32 (by decide)
theorem st_op (hR : RS R) (hq : RQ I 122 r) (hl : l < 40) {v : Nat} (hv16 : v < 16) (hw : ∀ k, k ≤ l → I 134 k = rW r nv k) (hv : rW r nv l = nI v) {i d o : Nat} (ho : o < 1006) (hi : i + (rl_o o).length < 1105) (hd : d < 100) (hci : ∀ j x, (rl_o o)[j]? = some x → r (i + j) = x)
    (K : pd_At G mi_X9_isGood 4 0 0 0 0 16 [some (.ref (pd_z G + 119)), some (.ref (pd_z G + 122)), some (.int (nI l)), some (.int (nI (d + 1))), some (.int (nI (i + (rl_o o).length))), none, none, none] [] (SD, false, pd_up I 135 d (rl_v (rF r nv l) o), L, R) Q) : pd_At G mi_X9_isGood 4 0 0 0 0 16 [some (.ref (pd_z G + 119)), some (.ref (pd_z G + 122)), some (.int (nI l)), some (.int (nI d)), some (.int (nI i)), none, none, none] [] (SD, false, I, L, R) Q := by
  by_cases h1 : o < 1000
  · have e1 : rl_o o = [1, nI o] := by rw [rl_o, if_pos h1]
    have e2 : rl_v (rF r nv l) o = nI o := by rw [rl_v, if_neg (by omega)]
    rw [e1] at hi hci K
    rw [e2] at K
    have c0 : r i = 1 := hci 0 1 rfl
    have c1' : r (i + 1) = nI o := hci 1 _ rfl
    have hi2 : i + 2 < 1105 := hi
    refine at_aload_n dX9_isGood_16 rfl ?_
    refine at_iload dX9_isGood_17 rfl ?_
    refine at_iald sd_122 (vp_in_nI (by omega) (by decide)) dX9_isGood_19 ?_
    rw [nI_clamp (by omega), hq _ (by omega), c0]
    refine at_ifeq (tgt := 229) dX9_isGood_20 (by decide) (fun c20 => ?_) (fun c20 => ?_)
    · -- taken 20
      exact absurd c20 (by decide)
    · -- not taken 20
      refine at_aload_n dX9_isGood_23 rfl ?_
      refine at_iload dX9_isGood_24 rfl ?_
      refine at_iald sd_122 (vp_in_nI (by omega) (by decide)) dX9_isGood_26 ?_
      rw [nI_clamp (by omega), hq _ (by omega), c0]
      refine at_istore dX9_isGood_27 rfl (Nat.le_of_ble_eq_true rfl) ?_
      refine at_iload dX9_isGood_29 rfl ?_
      refine at_iconst dX9_isGood_31 pc_i1 ?_
      refine at_icmpne (tgt := 54) dX9_isGood_32 (by decide) (fun c32 => ?_) (fun c32 => ?_)
      · -- taken 32
        exact absurd rfl c32
      · -- not taken 32
        refine at_inc dX9_isGood_35 rfl pc_i1 rfl (Nat.le_of_ble_eq_true rfl) ?_
        refine at_aload_n dX9_isGood_38 rfl ?_
        refine at_getr (135) flX9_37 rfl sd_119 (rs_119_18 hR) dX9_isGood_39 ?_
        refine at_iload_n dX9_isGood_42 rfl ?_
        refine at_aload_n dX9_isGood_43 rfl ?_
        refine at_iload dX9_isGood_44 rfl ?_
        rw [nI_1 i]
        refine at_iald sd_122 (vp_in_nI (by omega) (by decide)) dX9_isGood_46 ?_
        rw [nI_clamp (by omega), hq _ (by omega), c1']
        refine at_iast sd_135 (vp_in_nI (by omega) (by decide)) dX9_isGood_47 ?_
        refine at_inc dX9_isGood_48 rfl pc_i1 rfl (Nat.le_of_ble_eq_true rfl) ?_
        refine at_goto (tgt := 223) dX9_isGood_51 (by decide) ?_
        refine at_inc dX9_isGood_223 rfl pc_i1 rfl (Nat.le_of_ble_eq_true rfl) ?_
        refine at_goto (tgt := 16) dX9_isGood_226 (by decide) ?_
        refine at_drop 5 ?_
        rw [nI_1 d, nI_1 (i + 1), nI_clamp (n := d) (by omega)]
        exact K
  · have e1 : rl_o o = [nI (2 + (o - 1000))] := by rw [rl_o, if_neg h1]
    have e2 : rl_v (rF r nv l) o = rF r nv l (o - 1000) := by rw [rl_v, if_pos ⟨by omega, by omega⟩]
    rw [e1] at hi hci K
    rw [e2] at K
    have c0 : r i = nI (2 + (o - 1000)) := hci 0 _ rfl
    have hi2 : i + 1 < 1105 := hi
    refine at_aload_n dX9_isGood_16 rfl ?_
    refine at_iload dX9_isGood_17 rfl ?_
    refine at_iald sd_122 (vp_in_nI (by omega) (by decide)) dX9_isGood_19 ?_
    rw [nI_clamp (by omega), hq _ (by omega), c0]
    refine at_ifeq (tgt := 229) dX9_isGood_20 (by decide) (fun c20 => ?_) (fun c20 => ?_)
    · -- taken 20
      exact absurd c20 (nI_ne0 (by omega) (by omega))
    · -- not taken 20
      refine at_aload_n dX9_isGood_23 rfl ?_
      refine at_iload dX9_isGood_24 rfl ?_
      refine at_iald sd_122 (vp_in_nI (by omega) (by decide)) dX9_isGood_26 ?_
      rw [nI_clamp (by omega), hq _ (by omega), c0]
      refine at_istore dX9_isGood_27 rfl (Nat.le_of_ble_eq_true rfl) ?_
      refine at_iload dX9_isGood_29 rfl ?_
      refine at_iconst dX9_isGood_31 pc_i1 ?_
      refine at_icmpne (tgt := 54) dX9_isGood_32 (by decide) (fun c32 => ?_) (fun c32 => ?_)
      · -- taken 32
        refine at_iload dX9_isGood_54 rfl ?_
        refine at_bipush dX9_isGood_56 pc_b8 ?_
        refine at_icmpge (tgt := 83) dX9_isGood_58 (by decide) (fun c58 => ?_) (fun c58 => ?_)
        · -- taken 58
          exact absurd c58 (nI_ge (b := 8) (by omega) (by omega))
        · -- not taken 58
          refine at_aload_n dX9_isGood_61 rfl ?_
          refine at_getr (135) flX9_37 rfl sd_119 (rs_119_18 hR) dX9_isGood_62 ?_
          refine at_iload_n dX9_isGood_65 rfl ?_
          refine at_aload_n dX9_isGood_66 rfl ?_
          refine at_aload_n dX9_isGood_67 rfl ?_
          refine at_iload_n dX9_isGood_68 rfl ?_
          refine at_iload dX9_isGood_69 rfl ?_
          refine at_iconst dX9_isGood_71 pc_i2 ?_
          refine at_isub dX9_isGood_72 ?_
          rw [show (2 : Int32) = nI 2 from rfl, pk_sub (by omega), show 2 + (o - 1000) - 2 = o - 1000 by omega]
          refine at_cv3 cvX9_225 sd_119 (ev_X9_fact hR hq hl hv16 hw hv _) (by decide) ⟨Nat.le_refl _, Nat.le_refl _⟩ (Nat.le_of_ble_eq_true rfl) dX9_isGood_73 (pd_k1 ?_)
          rw [fcV_nI _ _ _ _ (by omega)]
          refine at_iast sd_135 (vp_in_nI (by omega) (by decide)) dX9_isGood_76 ?_
          refine at_inc dX9_isGood_77 rfl pc_i1 rfl (Nat.le_of_ble_eq_true rfl) ?_
          refine at_goto (tgt := 223) dX9_isGood_80 (by decide) ?_
          refine at_inc dX9_isGood_223 rfl pc_i1 rfl (Nat.le_of_ble_eq_true rfl) ?_
          refine at_goto (tgt := 16) dX9_isGood_226 (by decide) ?_
          refine at_drop 5 ?_
          rw [nI_1 d, nI_clamp (n := d) (by omega), nI_1 i]
          exact K
      · -- not taken 32
        exact absurd ((nI_eq (b := 1) (by omega) (by decide)).mp c32) (by omega)
end RULE
theorem Stk.push {f : Nat → Int32} {s : List Bool} {b : Bool} (h : Stk f s) (hb : f s.length = i_of b) : Stk f (b :: s) := ⟨hb, h⟩
theorem lp_X9_isGood (hR : RS R) (hq : RQ I 122 r) {l v : Nat} (hl : l < 40) (hv16 : v < 16) (hw : ∀ k, k ≤ l → I 134 k = rW r nv k) (hv : rW r nv l = nI v) : ∀ (e2 : List rl_S) (i : Nat) (s : List Bool) (I' : Nat → Nat → Int32), (∀ j x, (rl_ks e2)[j]? = some x → r (i + j) = x) → r (i + (rl_ks e2).length) = 0 → i + (rl_ks e2).length < 1105 → s.length ≤ 30 → rl_ok e2 s.length → Stk (I' 135) s → GI I I' → pd_At G mi_X9_isGood 4 0 0 0 0 16 [some (.ref (pd_z G + 119)), some (.ref (pd_z G + 122)), some (.int (nI l)), some (.int (nI s.length)), some (.int (nI i)), none, none, none] [] (SD, false, I', L, R) (pd_ri R fun x I2 L2 => L2 = L ∧ x = i_of ((rl_ev (rF r nv l) e2 s).headD false) ∧ GI I I2) := by
  intro e2
  induction e2 with
  | nil =>
    intro i s I' hc h0 hi hs30 hok hs hg
    have hq' : RQ I' 122 r := fun k hk => (hg 122 (by decide) k).trans (hq k hk)
    have hl1 : s.length = 1 := hok
    obtain ⟨b, rfl⟩ := List.length_eq_one_iff.mp hl1
    have hb : I' 135 0 = i_of b := hs.1
    have h00 : r i = 0 := h0
    have hi2 : i < 1105 := hi
    refine at_aload_n dX9_isGood_16 rfl ?_
    refine at_iload dX9_isGood_17 rfl ?_
    refine at_iald sd_122 (vp_in_nI hi2 (by decide)) dX9_isGood_19 ?_
    rw [nI_clamp (by omega), hq' _ hi2, h00]
    refine at_ifeq (tgt := 229) dX9_isGood_20 (by decide) (fun c20 => ?_) (fun c20 => ?_)
    · -- taken 20
      refine at_aload_n dX9_isGood_229 rfl ?_
      refine at_getr (135) flX9_37 rfl sd_119 (rs_119_18 hR) dX9_isGood_230 ?_
      refine at_iconst dX9_isGood_233 pc_i0 ?_
      refine at_iald sd_135 (vp_in_nI (n := 0) (by decide) (by decide)) dX9_isGood_234 ?_
      rw [show I' 135 (0 : Int32).toNatClampNeg = i_of b from hb]
      refine at_iconst dX9_isGood_235 pc_i1 ?_
      refine at_icmpne (tgt := 243) dX9_isGood_236 (by decide) (fun c236 => ?_) (fun c236 => ?_)
      · -- taken 236
        refine at_iconst dX9_isGood_243 pc_i0 ?_
        refine at_zret rfl dX9_isGood_244 (by first | exact Or.inl rfl | exact Or.inr rfl | assumption) ?_
        refine ⟨_, _, _, rfl, rfl, rfl, ?_, hg⟩
        cases b <;> first | rfl | exact absurd c236 (by decide) | exact absurd rfl c236
      · -- not taken 236
        refine at_iconst dX9_isGood_239 pc_i1 ?_
        refine at_goto (tgt := 244) dX9_isGood_240 (by decide) ?_
        refine at_zret rfl dX9_isGood_244 (by first | exact Or.inl rfl | exact Or.inr rfl | assumption) ?_
        refine ⟨_, _, _, rfl, rfl, rfl, ?_, hg⟩
        cases b <;> first | rfl | exact absurd c236 (by decide) | exact absurd rfl c236
    · -- not taken 20
      exact absurd rfl c20
  | cons q e2 ih =>
    intro i s I' hc h0 hi hs30 hok hs hg
    have hq' : RQ I' 122 r := fun k hk => (hg 122 (by decide) k).trans (hq k hk)
    have hw' : ∀ k, k ≤ l → I' 134 k = rW r nv k := fun k hk => (hg 134 (by decide) k).trans (hw k hk)
    have hks : rl_ks (q :: e2) = rl_k q ++ rl_ks e2 := rfl
    rw [hks] at hc h0 hi
    rw [List.length_append] at h0 hi
    have hcA : ∀ j x, (rl_k q)[j]? = some x → r (i + j) = x := fun j x hj => hc j x (by rw [List.getElem?_append_left (List.getElem?_eq_some_iff.mp hj).1]; exact hj)
    have hcB : ∀ j x, (rl_ks e2)[j]? = some x → r (i + (rl_k q).length + j) = x := fun j x hj => by
      have := hc ((rl_k q).length + j) x (by rw [List.getElem?_append_right (by omega), Nat.add_sub_cancel_left]; exact hj)
      rwa [← Nat.add_assoc] at this
    obtain ⟨h6, hok⟩ := hok
    by_cases h3 : q.1 < 3
    · rw [if_pos h3] at hok
      obtain ⟨ha, hb, hd, hok2⟩ := hok
      have hk : rl_k q = rl_o q.2.1 ++ (rl_o q.2.2 ++ [nI (8 + q.1)]) := by rw [rl_k, if_pos h3]
      have hlen : (rl_k q).length = (rl_o q.2.1).length + ((rl_o q.2.2).length + 1) := by rw [hk]; simp
      have hA1 : ∀ j x, (rl_o q.2.1)[j]? = some x → r (i + j) = x := fun j x hj => hcA j x (by rw [hk, List.getElem?_append_left (List.getElem?_eq_some_iff.mp hj).1]; exact hj)
      have hA2 : ∀ j x, (rl_o q.2.2)[j]? = some x → r (i + (rl_o q.2.1).length + j) = x := fun j x hj => by
        have := hcA ((rl_o q.2.1).length + j) x (by rw [hk, List.getElem?_append_right (by omega), Nat.add_sub_cancel_left, List.getElem?_append_left (List.getElem?_eq_some_iff.mp hj).1]; exact hj)
        rwa [← Nat.add_assoc] at this
      have hA3 : r (i + (rl_o q.2.1).length + (rl_o q.2.2).length) = nI (8 + q.1) := by
        have := hcA ((rl_o q.2.1).length + (rl_o q.2.2).length) (nI (8 + q.1)) (by rw [hk, List.getElem?_append_right (by omega), Nat.add_sub_cancel_left, List.getElem?_append_right (by omega), Nat.sub_self]; rfl)
        rwa [← Nat.add_assoc] at this
      refine st_op hR hq' hl hv16 hw' hv ha (by omega) (by omega) hA1 ?_
      have g1 := hg.up (d := s.length) (v := rl_v (rF r nv l) q.2.1)
      refine st_op hR (fun k hk => (g1 122 (by decide) k).trans (hq k hk)) hl hv16 (fun k hk => (g1 134 (by decide) k).trans (hw k hk)) hv hb (by omega) (by omega) hA2 ?_
      have g2 := g1.up (d := s.length + 1) (v := rl_v (rF r nv l) q.2.2)
      refine st_bin hR (fun k hk => (g2 122 (by decide) k).trans (hq k hk)) (by omega) (by omega) hA3 (by omega) ?_
      have x1 : pd_up (pd_up I' 135 s.length (rl_v (rF r nv l) q.2.1)) 135 (s.length + 1) (rl_v (rF r nv l) q.2.2) 135 s.length = rl_v (rF r nv l) q.2.1 := by rw [pd_up_nj (by omega), pd_up_at]
      have x2 : pd_up (pd_up I' 135 s.length (rl_v (rF r nv l) q.2.1)) 135 (s.length + 1) (rl_v (rF r nv l) q.2.2) 135 (s.length + 1) = rl_v (rF r nv l) q.2.2 := pd_up_at
      rw [x1, x2]
      have hbin : binV (8 + q.1) (rl_v (rF r nv l) q.2.1) (rl_v (rF r nv l) q.2.2) = rl_c (rF r nv l) q := by
        rcases (show q.1 = 0 ∨ q.1 = 1 ∨ q.1 = 2 by omega) with z | z | z
        · rw [rl_c, if_pos z, z, binV, if_pos rfl]
        · rw [rl_c, if_neg (by omega), if_pos z, z, binV, if_neg (by decide), if_pos rfl]
        · rw [rl_c, if_neg (by omega), if_neg (by omega), z, binV, if_neg (by decide), if_neg (by decide), if_pos rfl]
      rw [hbin]
      have hev : rl_ev (rF r nv l) (q :: e2) s = rl_ev (rF r nv l) e2 (rl_c (rF r nv l) q :: s) := by rw [rl_ev]; unfold rl_st; rw [if_pos h3]
      rw [hev, show i + (rl_o q.2.1).length + (rl_o q.2.2).length + 1 = i + (rl_k q).length by omega]
      refine ih _ (rl_c (rF r nv l) q :: s) _ hcB (by rw [Nat.add_assoc]; exact h0) (by omega) (by simp; omega) hok2 (Stk.push (hs.fr fun k hk => ?_) pd_up_at) g2.up
      rw [pd_up_nj (by omega), pd_up_nj (by omega), pd_up_nj (by omega)]
    · rw [if_neg h3] at hok
      have hk : rl_k q = [nI (8 + q.1)] := by rw [rl_k, if_neg h3]
      have hA0 : r i = nI (8 + q.1) := hcA 0 _ (by rw [hk]; rfl)
      rw [hk] at hcB h0 hi
      have hi1 : i + 1 + (rl_ks e2).length < 1105 := by simp at hi; omega
      have h01 : r (i + 1 + (rl_ks e2).length) = 0 := by rw [Nat.add_assoc]; exact h0
      by_cases h4 : q.1 = 3
      · rw [if_pos h4] at hok
        cases s with
        | nil => exact absurd hok.1 (by simp)
        | cons b t =>
          rw [h4] at hA0
          refine st_not hR hq' (by omega) (by simp at hs30; omega) hA0 ?_
          have hev : rl_ev (rF r nv l) (q :: e2) (b :: t) = rl_ev (rF r nv l) e2 ((!b) :: t) := by rw [rl_ev]; unfold rl_st; rw [if_neg h3, if_pos h4]
          rw [hev]
          refine ih _ ((!b) :: t) _ hcB h01 hi1 hs30 hok.2 (Stk.push (hs.2.fr fun k hk => pd_up_nj (by omega)) ?_) hg.up
          rw [pd_up_at, hs.1]; exact i_not b
      · rw [if_neg h4] at hok
        cases s with
        | nil => exact absurd hok.1 (by simp)
        | cons b s1 =>
          cases s1 with
          | nil => exact absurd hok.1 (by simp)
          | cons a t =>
            have hs1 := hs.1
            have hs2 := hs.2.1
            simp only [List.length_cons] at hs1 hs30
            refine st_bin hR hq' (by omega) (d := t.length) (by omega) hA0 (by omega) ?_
            rw [hs1, hs2]
            have hbin : binV (8 + q.1) (i_of a) (i_of b) = if q.1 = 4 then (a && b) else (a || b) := by
              rcases (show q.1 = 4 ∨ q.1 = 5 by omega) with z | z
              · rw [z, if_pos rfl]; exact bin12 a b
              · rw [z, if_neg (by decide)]; exact bin13 a b
            have hev : rl_ev (rF r nv l) (q :: e2) (b :: a :: t) = rl_ev (rF r nv l) e2 ((if q.1 = 4 then (a && b) else (a || b)) :: t) := by
              rw [rl_ev]; unfold rl_st; rw [if_neg h3, if_neg h4]
              by_cases h5 : q.1 = 4
              · rw [if_pos h5, if_pos h5]
              · rw [if_neg h5, if_neg h5]
            rw [hbin, hev]
            exact ih _ ((if q.1 = 4 then (a && b) else (a || b)) :: t) _ hcB h01 hi1 (by simp; omega) hok.2 (Stk.push (hs.2.2.fr fun k hk => pd_up_nj (by omega)) pd_up_at) hg.up
theorem ev_X9_isGood (hR : RS R) (hq : RQ I 122 r) (hr : Row r nv ns nl e) {l v : Nat} (hl : l < 40) (hv16 : v < 16) (hw : ∀ k, k ≤ l → I 134 k = rW r nv k) (hv : rW r nv l = nI v) : pd_Ev G mi_X9_isGood 4 0 0 [.ref (pd_z G + 119), .ref (pd_z G + 122), .int (nI l)] (SD, false, I, L, R) (pd_ri R fun x I2 L2 => L2 = L ∧ x = i_of (rl_good (rF r nv l) e) ∧ GI I I2) := by
  obtain ⟨-, -, -, -, -, -, -, -, -, -, -, a12, a13, a14, a15, a16⟩ := hr
  have h8 : I 122 (8 : Int32).toNatClampNeg = r 8 := hq 8 (by decide)
  refine pd_ev 5 (lo := [some (.ref (pd_z G + 119)), some (.ref (pd_z G + 122)), some (.int (nI l)), none, none, none, none, none]) (by decide +kernel) (Nat.le_of_ble_eq_true rfl) rfl ?_
  by_cases he : e = []
  · rw [if_pos he] at a12
    refine at_aload_n dX9_isGood_0 rfl ?_
    refine at_bipush dX9_isGood_1 pc_b8 ?_
    refine at_iald sd_122 (vp_in_nI (n := 8) (by decide) (by decide)) dX9_isGood_3 ?_
    rw [h8, a12]
    refine at_ifne (tgt := 9) dX9_isGood_4 (by decide) (fun c4 => ?_) (fun c4 => ?_)
    · -- taken 4
      exact absurd rfl c4
    · -- not taken 4
      refine at_iconst dX9_isGood_7 pc_i1 ?_
      refine at_zret rfl dX9_isGood_8 (by first | exact Or.inl rfl | exact Or.inr rfl | assumption) ?_
      exact ⟨_, _, _, rfl, rfl, rfl, by rw [rl_good, if_pos he]; rfl, fun _ _ _ => rfl⟩
  · rw [if_neg he] at a12
    have hg : rl_good (rF r nv l) e = (rl_ev (rF r nv l) e []).headD false := by rw [rl_good, if_neg he]
    refine at_aload_n dX9_isGood_0 rfl ?_
    refine at_bipush dX9_isGood_1 pc_b8 ?_
    refine at_iald sd_122 (vp_in_nI (n := 8) (by decide) (by decide)) dX9_isGood_3 ?_
    rw [h8, a12]
    refine at_ifne (tgt := 9) dX9_isGood_4 (by decide) (fun c4 => ?_) (fun c4 => ?_)
    · -- taken 4
      refine at_iconst dX9_isGood_9 pc_i0 ?_
      refine at_istore_n dX9_isGood_10 rfl (Nat.le_of_ble_eq_true rfl) ?_
      refine at_sipush dX9_isGood_11 pc_s305 ?_
      refine at_istore dX9_isGood_14 rfl (Nat.le_of_ble_eq_true rfl) ?_
      rw [hg]
      exact lp_X9_isGood hR hq hl hv16 hw hv e 305 [] I a13 a14 (by omega) (by simp) (a16.resolve_left he) trivial (fun _ _ _ => rfl)
    · -- not taken 4
      exact absurd c4 (by decide)
end REF3
