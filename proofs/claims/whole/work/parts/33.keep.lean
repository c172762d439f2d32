/-! ===== what stood ahead of the acts: kept, taken back ===== -/
/-- a row with its numbers and its rule -/
abbrev RW : Type := (Nat → Int32) × Nat × Nat × Nat × List rl_S
def RwOk (w : RW) : Prop := Row w.1 w.2.1 w.2.2.1 w.2.2.2.1 w.2.2.2.2
def RwP (I : Nat → Nat → Int32) (L : Nat → Nat → Int64) (c : Nat) (w : RW) : Prop := PetRel I L c w.1 w.2.1 w.2.2.1 w.2.2.2.1 w.2.2.2.2
theorem RwP.fr {I I' : Nat → Nat → Int32} {L L' : Nat → Nat → Int64} {c : Nat} {w : RW} (h : RwP I L c w) (hI : ∀ a, c ≤ a → a < c + 10 → ∀ j, I' a j = I a j) (hL : ∀ j, L' c j = L c j) : RwP I' L' c w := PetRel.fr h hI hL
theorem RwP.cp {I I' : Nat → Nat → Int32} {L L' : Nat → Nat → Int64} {c c' : Nat} {w : RW} (hw : RwOk w) (h : RwP I L c w) (he : PetEq I L c I' L' c') : RwP I' L' c' w := by
  obtain ⟨⟨a0, a1, a2, a3, a4, a5, a6, a7⟩, hv, hl, hb, h17, h18, hn, hle, hs⟩ := h
  obtain ⟨e0, e1, e2, e3, e4, e5, e6⟩ := he
  have v16 := hw.1.2
  have l40 := hw.2.2.1.2
  refine ⟨⟨(e0 0 (by decide) (by decide) (by decide)).trans a0, (e0 4 (by decide) (by decide) (by decide)).trans a1, (e0 6 (by decide) (by decide) (by decide)).trans a2, (e0 11 (by decide) (by decide) (by decide)).trans a3, (e0 12 (by decide) (by decide) (by decide)).trans a4, (e0 13 (by decide) (by decide) (by decide)).trans a5, (e0 14 (by decide) (by decide) (by decide)).trans a6, (e0 15 (by decide) (by decide) (by decide)).trans a7⟩, fun v h => ?_, fun l h => ?_, (e0 5 (by decide) (by decide) (by decide)).trans hb, e5.trans h17, e6.trans h18, e3.trans hn, hle, fun j q hq => ?_⟩
  · rw [e1 1 (by decide) (by decide) v (by omega), e1 2 (by decide) (by decide) v (by omega), e1 3 (by decide) (by decide) v (by omega)]; exact hv v h
  · rw [e2 4 (by decide) (by decide) l (by omega), e2 5 (by decide) (by decide) l (by omega), e2 6 (by decide) (by decide) l (by omega), e2 7 (by decide) (by decide) l (by omega)]; exact hl l h
  · have hj : j < w.2.2.2.2.length := (List.getElem?_eq_some_iff.mp hq).1
    rw [e4 _ hn hle j hj]; exact hs j q hq
/-- the rows behind 'now', and where they lie -/
def CA (I : Nat → Nat → Int32) (L : Nat → Nat → Int64) (R : Nat → Nat → Option Nat) (cn : Nat) (cp : Nat → Nat) (a : Nat) (ps : Nat → RW) : Prop :=
  (RS R ∧ PB cn ∧ cn ≠ 8 ∧ R 0 6 = some cn) ∧ (∀ i, i < 8 → R 28 i = some (cp i) ∧ PB (cp i) ∧ cp i ≠ 8 ∧ cp i ≠ cn) ∧ (∀ i j, i < 8 → j < 8 → cp i = cp j → i = j) ∧ I 0 5 = nI a ∧ a ≤ 8 ∧ ∀ i, i < a → RwOk (ps i) ∧ RwP I L (cp i) (ps i)
/-- it ends, with nothing to give -/
def pd_rw (P : (Nat → Nat → Int32) → (Nat → Nat → Int64) → (Nat → Nat → Option Nat) → Prop) : pd_O → pd_M → Prop := fun o M => ∃ I' L' R', o = .inl none ∧ M = (SD, false, I', L', R') ∧ P I' L' R'
theorem pd_kw {G : pd_G} {mi : pd_MI} {h mc ms cs ss pc : Nat} {lo : List (Option Value)} {st : List Value} {Q : pd_O → pd_M → Prop} {P} (K : ∀ I' L' R', P I' L' R' → pd_At G mi h mc ms cs ss (pc + 3) lo st (SD, false, I', L', R') Q) : ∀ o M', pd_rw P o M' → pd_Kc G mi h mc ms cs ss pc lo st Q o M' := fun o M' hq => by
  obtain ⟨I', L', R', rfl, rfl, h⟩ := hq
  exact K I' L' R' h
/-- how many acts, and the rows, behind one more -/
def kA (a : Nat) : Nat := if a = 8 then 8 else a + 1
def kP (a : Nat) (ps : Nat → RW) (w : RW) : Nat → RW := if a = 8 then fun i => if i < 7 then ps (i + 1) else w else fun i => if i = a then w else ps i
/-- what keeping leaves as it was -/
def KK (I : Nat → Nat → Int32) (L : Nat → Nat → Int64) (R : Nat → Nat → Option Nat) (cn : Nat) (I' : Nat → Nat → Int32) (L' : Nat → Nat → Int64) (R' : Nat → Nat → Option Nat) : Prop :=
  (∀ x, x < 29 ∨ 119 ≤ x ∨ (cn ≤ x ∧ x < cn + 10) → (∀ j, ¬ (x = 0 ∧ j = 5) → I' x j = I x j) ∧ ∀ j, L' x j = L x j) ∧ RF R R'
theorem PB.hi2 {c : Nat} (h : PB c) (h8 : c ≠ 8) : 29 ≤ c ∧ c + 10 ≤ 119 := by
  rcases h with rfl | ⟨i, hi, rfl⟩
  · exact absurd rfl h8
  · omega
section KEEP
variable {G : pd_G} {I : Nat → Nat → Int32} {L : Nat → Nat → Int64} {R : Nat → Nat → Option Nat} {cn a : Nat} {cp : Nat → Nat} {ps : Nat → RW} {w : RW}
theorem tl_X8_keep (hA : CA I L R cn cp a ps) (ha : a < 8) (hw : RwOk w) (hp : RwP I L cn w) : pd_At G mi_X8_keepForUndo 5 0 0 0 0 58 [some (.ref (pd_z G + 0)), none, none] [] (SD, false, I, L, R) (pd_rw fun I' L' R' => CA I' L' R' cn cp (a + 1) (fun i => if i = a then w else ps i) ∧ KK I L R cn I' L' R') := by
  obtain ⟨⟨hR, hcn, h8, hnow⟩, hcp, hinj, h5, ha8, hps⟩ := hA
  obtain ⟨q1, q2, q3, q4⟩ := hcp a ha
  have hcl : (nI a).toNatClampNeg = a := nI_clamp (by omega)
  have hi := PB.hi2 q2 q3
  have hi2 := PB.hi2 hcn h8
  refine at_aload_n dX8_keepForUndo_58 rfl ?_
  refine at_getr (28) flX8_43 rfl sd_0 (rs_0_4 hR) dX8_keepForUndo_59 ?_
  refine at_aload_n dX8_keepForUndo_62 rfl ?_
  refine at_geti flX8_165 rfl sd_0 dX8_keepForUndo_63 ?_
  rw [h5]
  refine at_aald (cp a) sd_28 (vp_in_nI ha (by decide)) (by rw [hcl]; exact q1) dX8_keepForUndo_66 ?_
  refine at_aload_n dX8_keepForUndo_67 rfl ?_
  refine at_getr (cn) flX8_48 rfl sd_0 hnow dX8_keepForUndo_68 ?_
  refine at_cv1 cvX8_91 (sd_P0 q2) (ev_X3_copyFrom hR q2 hcn q4 hp.2.2.2.2.2.2.1 hp.2.2.2.2.2.2.2.1) (by decide) ⟨Nat.le_of_ble_eq_true rfl, Nat.le_of_ble_eq_true rfl⟩ (Nat.le_of_ble_eq_true rfl) dX8_keepForUndo_71 (pd_ke fun I2 L2 h2 => ?_)
  obtain ⟨hE, hF⟩ := h2
  refine at_aload_n dX8_keepForUndo_74 rfl ?_
  refine at_dup dX8_keepForUndo_75 rfl ?_
  refine at_geti flX8_165 rfl sd_0 dX8_keepForUndo_76 ?_
  refine at_iconst dX8_keepForUndo_79 pc_i1 ?_
  refine at_iadd dX8_keepForUndo_80 ?_
  rw [(hF 0 (by omega)).1, h5, nI_1]
  refine at_puti flX8_165 rfl sd_0 (fun _ _ _ hq => by cases hq; rfl) dX8_keepForUndo_81 ?_
  refine at_vret rfl dX8_keepForUndo_84 ?_
  refine ⟨_, _, _, rfl, rfl, ⟨⟨hR, hcn, h8, hnow⟩, hcp, hinj, pd_up_at, by omega, fun i hi' => ?_⟩, fun x hx => ⟨fun j hj => ?_, fun j => ?_⟩, RF.rf _⟩
  · have fr : ∀ c', PB c' → c' ≠ 8 → ∀ x, c' ≤ x → x < c' + 10 → ∀ j, pd_up I2 0 5 (nI (a + 1)) x j = I2 x j := fun c' hc' h8' x h1 h2 j => by
      have := PB.hi2 hc' h8'
      rw [pd_up_nb (by omega)]
    by_cases hia : i = a
    · subst hia
      simp only [if_true]
      exact ⟨hw, RwP.fr (RwP.cp hw hp hE) (fr _ q2 q3) (fun _ => rfl)⟩
    · simp only [if_neg hia]
      obtain ⟨b1, b2⟩ := hps i (by omega)
      obtain ⟨p1, p2, p3, p4⟩ := hcp i (by omega)
      have hne : cp i ≠ cp a := fun q => hia (hinj i a (by omega) ha q)
      have hap := PB.apart p2 q2 hne
      refine ⟨b1, RwP.fr (RwP.fr b2 (fun x h1 h2 j => (hF x (by omega)).1 j) (fun j => (hF _ (by omega)).2 j)) (fr _ p2 p3) (fun _ => rfl)⟩
  · have hap := PB.apart hcn q2 (Ne.symm q4)
    by_cases hx0 : x = 0
    · subst hx0
      rw [pd_up_nj (fun q => hj ⟨rfl, q⟩)]
      exact (hF 0 (by omega)).1 j
    · rw [pd_up_nb hx0]
      exact (hF x (by omega)).1 j
  · have hap := PB.apart hcn q2 (Ne.symm q4)
    exact (hF x (by omega)).2 j
/-- the rows moved down so far -/
def RM (R R' : Nat → Nat → Option Nat) (i : Nat) : Prop := (∀ x j, x ≠ 28 → R' x j = R x j) ∧ ∀ j, R' 28 j = if j + 1 < i then R 28 (j + 1) else R 28 j
theorem lp_X8_keep (hA : CA I L R cn cp 8 ps) {v1 : Nat} : ∀ (k i : Nat) (R' : Nat → Nat → Option Nat), i + k = 8 → 1 ≤ i → RM R R' i → ∀ {Q : pd_O → pd_M → Prop}, (∀ R2, RM R R2 8 → pd_At G mi_X8_keepForUndo 5 0 0 0 0 44 [some (.ref (pd_z G + 0)), some (.ref v1), some (.int (nI 8))] [] (SD, false, I, L, R2) Q) → pd_At G mi_X8_keepForUndo 5 0 0 0 0 18 [some (.ref (pd_z G + 0)), some (.ref v1), some (.int (nI i))] [] (SD, false, I, L, R') Q := by
  obtain ⟨⟨hR, hcn, h8, hnow⟩, hcp, hinj, h5, ha8, hps⟩ := hA
  intro k
  induction k with
  | zero =>
    intro i R' hi h1 hM Q K
    have e0 : i = 8 := by omega
    subst e0
    refine at_iload_n dX8_keepForUndo_18 rfl ?_
    refine at_bipush dX8_keepForUndo_19 pc_b8 ?_
    refine at_icmpge (tgt := 44) dX8_keepForUndo_21 (by decide) (fun c21 => ?_) (fun c21 => ?_)
    · -- taken 21
      exact K R' hM
    · -- not taken 21
      exact absurd (by decide) c21
  | succ k ih =>
    intro i R' hi h1 hM Q K
    have hRo := hR
    have hR : RS R' := RS.fr hRo (fun x j h _ => hM.1 x j h)
    obtain ⟨q1, q2, q3, q4⟩ := hcp i (by omega)
    have hcl : (nI i).toNatClampNeg = i := nI_clamp (by omega)
    have e1 : nI i - 1 = nI (i - 1) := by rw [show i = (i - 1) + 1 by omega, nI_pred]; rfl
    have hcl2 : (nI (i - 1)).toNatClampNeg = i - 1 := nI_clamp (by omega)
    refine at_iload_n dX8_keepForUndo_18 rfl ?_
    refine at_bipush dX8_keepForUndo_19 pc_b8 ?_
    refine at_icmpge (tgt := 44) dX8_keepForUndo_21 (by decide) (fun c21 => ?_) (fun c21 => ?_)
    · -- taken 21
      exact absurd c21 (nI_ge (b := 8) (by omega) (by decide))
    · -- not taken 21
      refine at_aload_n dX8_keepForUndo_24 rfl ?_
      refine at_getr (28) flX8_43 rfl sd_0 (rs_0_4 hR) dX8_keepForUndo_25 ?_
      refine at_iload_n dX8_keepForUndo_28 rfl ?_
      refine at_iconst dX8_keepForUndo_29 pc_i1 ?_
      refine at_isub dX8_keepForUndo_30 ?_
      refine at_aload_n dX8_keepForUndo_31 rfl ?_
      refine at_getr (28) flX8_43 rfl sd_0 (rs_0_4 hR) dX8_keepForUndo_32 ?_
      refine at_iload_n dX8_keepForUndo_35 rfl ?_
      refine at_aald (cp i) sd_28 (vp_in_nI (by omega) (by decide)) (by rw [hcl, hM.2 i, if_neg (by omega)]; exact q1) dX8_keepForUndo_36 ?_
      rw [e1]
      refine at_aast sd_28 (sd_P0 q2) (vp_in_nI (by omega) (by decide)) dX8_keepForUndo_37 ?_
      refine at_inc dX8_keepForUndo_38 rfl pc_i1 rfl (Nat.le_of_ble_eq_true rfl) ?_
      refine at_goto (tgt := 18) dX8_keepForUndo_41 (by decide) ?_
      rw [nI_1, hcl2]
      refine ih (i + 1) _ (by omega) (by omega) ⟨fun x j hx => ?_, fun j => ?_⟩ K
      · rw [pd_up_ne hx]; exact hM.1 x j hx
      · by_cases hj : j = i - 1
        · subst hj
          rw [pd_up_at, if_pos (by omega), show i - 1 + 1 = i by omega]; exact q1.symm
        · rw [pd_up_nj hj, hM.2 j]
          by_cases hj2 : j + 1 < i
          · rw [if_pos hj2, if_pos (by omega)]
          · rw [if_neg hj2, if_neg (by omega)]
theorem CA.fr {I I' : Nat → Nat → Int32} {L L' : Nat → Nat → Int64} (hA : CA I L R cn cp a ps) (h5 : I' 0 5 = nI a) (hI : ∀ x, 29 ≤ x → x < 119 → ¬ (cn ≤ x ∧ x < cn + 10) → (∀ j, I' x j = I x j) ∧ ∀ j, L' x j = L x j) : CA I' L' R cn cp a ps := by
  obtain ⟨h1, hcp, hinj, -, ha8, hps⟩ := hA
  refine ⟨h1, hcp, hinj, h5, ha8, fun i hi => ⟨(hps i hi).1, ?_⟩⟩
  obtain ⟨q1, q2, q3, q4⟩ := hcp i (by omega)
  have hh := PB.hi2 q2 q3
  have hap := PB.apart q2 h1.2.1 q4
  exact RwP.fr (hps i hi).2 (fun x h1 h2 j => (hI x (by omega) (by omega) (by omega)).1 j) (fun j => (hI _ (by omega) (by omega) (by omega)).2 j)
theorem ev_X8_keepForUndo (hA : CA I L R cn cp a ps) (hw : RwOk w) (hp : RwP I L cn w) : pd_Ev G mi_X8_keepForUndo 5 0 0 [.ref (pd_z G + 0)] (SD, false, I, L, R) (pd_rw fun I' L' R' => ∃ cp', CA I' L' R' cn cp' (kA a) (kP a ps w) ∧ KK I L R cn I' L' R') := by
  have hA0 := hA
  obtain ⟨⟨hR, hcn, h8, hnow⟩, hcp, hinj, h5, ha8, hps⟩ := hA
  refine pd_ev 2 (lo := [some (.ref (pd_z G + 0)), none, none]) (by decide +kernel) (Nat.le_of_ble_eq_true rfl) rfl ?_
  by_cases h : a = 8
  · subst h
    obtain ⟨q1, q2, q3, q4⟩ := hcp 0 (by decide)
    have K44 : ∀ R2, RM R R2 8 → pd_At G mi_X8_keepForUndo 5 0 0 0 0 44 [some (.ref (pd_z G + 0)), some (.ref (pd_z G + cp 0)), some (.int (nI 8))] [] (SD, false, I, L, R2) (pd_rw fun I' L' R' => ∃ cp', CA I' L' R' cn cp' (kA 8) (kP 8 ps w) ∧ KK I L R cn I' L' R') := by
      intro R2 hM
      have hRo := hR
      have hR : RS R2 := RS.fr hRo (fun x j h _ => hM.1 x j h)
      refine at_aload_n dX8_keepForUndo_44 rfl ?_
      refine at_getr (28) flX8_43 rfl sd_0 (rs_0_4 hR) dX8_keepForUndo_45 ?_
      refine at_bipush dX8_keepForUndo_48 pc_b7 ?_
      refine at_aload_n dX8_keepForUndo_50 rfl ?_
      refine at_aast sd_28 (sd_P0 q2) (by unfold vp_in; decide) dX8_keepForUndo_51 ?_
      refine at_aload_n dX8_keepForUndo_52 rfl ?_
      refine at_bipush dX8_keepForUndo_53 pc_b7 ?_
      refine at_puti flX8_165 rfl sd_0 (fun _ _ _ hq => by cases hq; rfl) dX8_keepForUndo_55 ?_
      refine at_drop 2 (at_drop 1 ?_)
      have hA2 : CA (pd_up I 0 5 7) L (pd_up R2 28 (7 : Int32).toNatClampNeg (some (cp 0))) cn (fun j => if j < 7 then cp (j + 1) else cp 0) 7 (fun i => ps (i + 1)) := by
        have e7 : (7 : Int32).toNatClampNeg = 7 := by decide
        rw [e7]
        refine ⟨⟨RS.fr hRo (fun x j h _ => by rw [pd_up_ne h]; exact hM.1 x j h), hcn, h8, ?_⟩, fun i hi => ?_, fun i j hi hj => ?_, pd_up_at, by decide, fun i hi => ?_⟩
        · rw [pd_up_ne (by decide), hM.1 0 6 (by decide)]; exact hnow
        · by_cases h7 : i < 7
          · simp only [if_pos h7]
            rw [pd_up_nj (by omega), hM.2 i, if_pos (by omega)]
            exact hcp (i + 1) (by omega)
          · have e : i = 7 := by omega
            subst e
            simp only [if_neg h7]
            exact ⟨pd_up_at, (hcp 0 (by decide)).2⟩
        · intro hq
          by_cases h7 : i < 7 <;> by_cases g7 : j < 7 <;> simp only [h7, g7, if_true, if_false] at hq
          · have := hinj _ _ (by omega) (by omega) hq; omega
          · have := hinj _ _ (by omega) (by omega) hq; omega
          · have := hinj _ _ (by omega) (by omega) hq; omega
          · omega
        · simp only [if_pos hi]
          obtain ⟨b1, b2⟩ := hps (i + 1) (by omega)
          obtain ⟨p1, p2, p3, p4⟩ := hcp (i + 1) (by omega)
          have := PB.hi2 p2 p3
          exact ⟨b1, RwP.fr b2 (fun x h1 h2 j => pd_up_nb (by omega)) (fun _ => rfl)⟩
      have hi2 := PB.hi2 hcn h8
      refine pd_At_mono (tl_X8_keep (G := G) (w := w) hA2 (by decide) hw (RwP.fr hp (fun x h1 h2 j => pd_up_nb (by omega)) (fun _ => rfl))) ?_
      rintro o M' ⟨I', L', R', rfl, rfl, h1, h2⟩
      refine ⟨I', L', R', rfl, rfl, (fun j => if j < 7 then cp (j + 1) else cp 0), ?_, fun x hx => ⟨fun j hj => ?_, fun j => ?_⟩, fun x j hx h0 => ?_⟩
      · have e : (fun i => if i = 7 then w else ps (i + 1)) = fun i => if i < 7 then ps (i + 1) else if i = 7 then w else ps (i + 1) := by
          funext i
          by_cases h7 : i < 7
          · rw [if_neg (by omega), if_pos h7]
          · rw [if_neg h7]
        obtain ⟨z1, z2, z3, z4, z5, z6⟩ := h1
        refine ⟨z1, z2, z3, z4, z5, fun i hi => ?_⟩
        have h9 := z6 i hi
        have e9 : kP 8 ps w i = if i = 7 then w else ps (i + 1) := by
          show (if i < 7 then ps (i + 1) else w) = _
          have : i < 8 := hi
          by_cases h7 : i < 7
          · rw [if_pos h7, if_neg (by omega)]
          · rw [if_neg h7, if_pos (by omega)]
        rw [e9]; exact h9
      · rw [(h2.1 x hx).1 j hj]
        by_cases hx0 : x = 0
        · subst hx0; rw [pd_up_nj (fun q => hj ⟨rfl, q⟩)]
        · rw [pd_up_nb hx0]
      · exact (h2.1 x hx).2 j
      · rw [h2.2 x j hx h0, pd_up_ne hx]; exact hM.1 x j hx
    refine at_aload_n dX8_keepForUndo_0 rfl ?_
    refine at_geti flX8_165 rfl sd_0 dX8_keepForUndo_1 ?_
    refine at_bipush dX8_keepForUndo_4 pc_b8 ?_
    rw [h5]
    refine at_icmplt (tgt := 58) dX8_keepForUndo_6 (by decide) (fun c6 => ?_) (fun c6 => ?_)
    · -- taken 6
      exact absurd c6 (by decide)
    · -- not taken 6
      refine at_aload_n dX8_keepForUndo_9 rfl ?_
      refine at_getr (28) flX8_43 rfl sd_0 (rs_0_4 hR) dX8_keepForUndo_10 ?_
      refine at_iconst dX8_keepForUndo_13 pc_i0 ?_
      refine at_aald (cp 0) sd_28 (by unfold vp_in; decide) (q1) dX8_keepForUndo_14 ?_
      refine at_astore_n dX8_keepForUndo_15 rfl (Nat.le_of_ble_eq_true rfl) ?_
      refine at_iconst dX8_keepForUndo_16 pc_i1 ?_
      refine at_istore_n dX8_keepForUndo_17 rfl (Nat.le_of_ble_eq_true rfl) ?_
      exact lp_X8_keep (G := G) hA0 7 1 R (by omega) (by omega) ⟨fun _ _ _ => rfl, fun j => by rw [if_neg (by omega)]⟩ K44
  · have hlt : a < 8 := by omega
    have K58 : pd_At G mi_X8_keepForUndo 5 0 0 0 0 58 [some (.ref (pd_z G + 0)), none, none] [] (SD, false, I, L, R) (pd_rw fun I' L' R' => ∃ cp', CA I' L' R' cn cp' (kA a) (kP a ps w) ∧ KK I L R cn I' L' R') := by
      refine pd_At_mono (tl_X8_keep (G := G) (w := w) hA0 hlt hw hp) ?_
      rintro o M' ⟨I', L', R', rfl, rfl, h1, h2⟩
      refine ⟨I', L', R', rfl, rfl, cp, ?_, h2⟩
      unfold kA kP
      rw [if_neg h, if_neg h]; exact h1
    refine at_aload_n dX8_keepForUndo_0 rfl ?_
    refine at_geti flX8_165 rfl sd_0 dX8_keepForUndo_1 ?_
    refine at_bipush dX8_keepForUndo_4 pc_b8 ?_
    rw [h5]
    refine at_icmplt (tgt := 58) dX8_keepForUndo_6 (by decide) (fun c6 => ?_) (fun c6 => ?_)
    · -- taken 6
      exact K58
    · -- not taken 6
      exact absurd (nI_lt (b := 8) hlt (by decide)) c6
end KEEP
