/-! ===== Petition ===== -/
theorem at_copyN {G : pd_G} {mi : pd_MI} {h mc ms cs ss pc : Nat} {lo : List (Option Value)} {st : List Value} {Q : pd_O → pd_M → Prop} {S : List (Nat × Nat)} {I L R} {idx a0 a n0 n1 : Nat} {sp dp n : Int32} (hl : Cond.methodLink mi.1.cls idx arraycopyName ∈ pd_TB) (hs0 : S[a0]? = some (9, n0)) (hs1 : S[a]? = some (9, n1)) (s1 d1 m1 : Nat) (esp : sp = nI s1) (edp : dp = nI d1) (en : n = nI m1) (h4 : s1 + m1 ≤ n0 ∧ n0 < 2 ^ 31) (h5 : d1 + m1 ≤ n1 ∧ n1 < 2 ^ 31) (hh : 1 ≤ h) (hst : (st.map fun v => v.category).sum ≤ 8) (hdg : decode mi.2.1 pc = .ok (.invokestatic idx, 3))
    (K : pd_At G mi h mc ms cs ss (pc + 3) lo st (S, false, pd_cp I a0 a s1 d1 m1, L, R) Q) : pd_At G mi h mc ms cs ss pc lo (.int n :: .int dp :: .ref (pd_z G + a) :: .int sp :: .ref (pd_z G + a0) :: st) (S, false, I, L, R) Q := by
  have c1 : sp.toNatClampNeg = s1 := by rw [esp]; exact nI_clamp (by omega)
  have c2 : dp.toNatClampNeg = d1 := by rw [edp]; exact nI_clamp (by omega)
  have c3 : n.toNatClampNeg = m1 := by rw [en]; exact nI_clamp (by omega)
  refine at_copy hl hs0 hs1 (by rw [esp]; exact nI_pos (by omega)) (by rw [edp]; exact nI_pos (by omega)) (by rw [en]; exact nI_pos (by omega)) (by rw [c1, c3]; exact h4.1) (by rw [c2, c3]; exact h5.1) hh hst hdg ?_
  rw [c1, c2, c3]; exact K
theorem pd_up_nb {α : Type} {f : Nat → Nat → α} {a k b j : Nat} {v : α} (h : b ≠ a) : pd_up f a k v b j = f b j := by simp [pd_up, h]
theorem pd_cp_nb {I : Nat → Nat → Int32} {a0 a sp dp n b j : Nat} (h : b ≠ a) : pd_cp I a0 a sp dp n b j = I b j := by simp [pd_cp, h]
theorem pd_cp_at {I : Nat → Nat → Int32} {a0 a sp dp n j : Nat} (h : dp ≤ j ∧ j < dp + n) : pd_cp I a0 a sp dp n a j = I a0 (sp + (j - dp)) := by simp [pd_cp, h]
theorem pd_cp_at0 {I : Nat → Nat → Int32} {a0 a n j : Nat} (h : j < n) : pd_cp I a0 a 0 0 n a j = I a0 j := by simp [pd_cp, h]
theorem pd_cp_out {I : Nat → Nat → Int32} {a0 a sp dp n b j : Nat} (h : j < dp ∨ dp + n ≤ j) : pd_cp I a0 a sp dp n b j = I b j := by
  unfold pd_cp
  rw [if_neg (by omega)]
def pfirst (p : Nat → Bool) : Nat → Nat → Nat
  | 0, i => i
  | k + 1, i => if p i then pfirst p k (i + 1) else i
theorem pfirst_yes {p : Nat → Bool} {k i : Nat} (h : p i = true) : pfirst p (k + 1) i = pfirst p k (i + 1) := by rw [pfirst, if_pos h]
theorem pfirst_no {p : Nat → Bool} {k i : Nat} (h : p i = false) : pfirst p (k + 1) i = i := by rw [pfirst, if_neg (by rw [h]; decide)]
theorem nI_in2 {i n N : Nat} (h : i < n) (hN : n ≤ N) (hb : N < 2 ^ 31) : vp_in (nI i) N := vp_in_nI (by omega) hb
theorem lp_X3_firstOf {G : pd_G} {I L R} {c n : Nat} (hR : RS R) (hc : PB c) (hn : I c 6 = nI n) (h40 : n ≤ 40) (sheet : Int32) : ∀ (k i : Nat), i + k = n → pd_At G mi_X3_firstOf 1 0 0 0 0 2 [some (.ref (pd_z G + c)), some (.int sheet), some (.int (nI i))] [] (SD, false, I, L, R) (pd_rt (.int (nI (pfirst (fun j => decide (I (c + 7) j < sheet)) k i))) (SD, false, I, L, R)) := by
  intro k
  induction k with
  | zero =>
    intro i hi
    refine at_iload_n dX3_firstOf_2 rfl ?_
    refine at_aload_n dX3_firstOf_3 rfl ?_
    refine at_geti flX3_62 rfl (sd_P0 hc) dX3_firstOf_4 ?_
    refine at_icmpge (tgt := 26) dX3_firstOf_7 (by decide) (fun c7 => ?_) (fun c7 => ?_)
    · -- taken 7
      refine at_iload_n dX3_firstOf_26 rfl ?_
      refine at_iret rfl dX3_firstOf_27 ?_
      exact ⟨rfl, rfl⟩
    · -- not taken 7
      exact absurd (by rw [hn]; exact nI_le (by omega) (by omega)) c7
  | succ k ih =>
    intro i hi
    refine at_iload_n dX3_firstOf_2 rfl ?_
    refine at_aload_n dX3_firstOf_3 rfl ?_
    refine at_geti flX3_62 rfl (sd_P0 hc) dX3_firstOf_4 ?_
    refine at_icmpge (tgt := 26) dX3_firstOf_7 (by decide) (fun c7 => ?_) (fun c7 => ?_)
    · -- taken 7
      exact absurd (by rw [hn] at c7; exact c7) (nI_ge (by omega) (by omega))
    · -- not taken 7
      refine at_aload_n dX3_firstOf_10 rfl ?_
      refine at_getr (c + 7) flX3_30 rfl (sd_P0 hc) (rs_P10 hR hc) dX3_firstOf_11 ?_
      refine at_iload_n dX3_firstOf_14 rfl ?_
      refine at_iald (sd_P7 hc) (nI_in2 (n := n) (by omega) h40 (by decide)) dX3_firstOf_15 ?_
      refine at_iload_n dX3_firstOf_16 rfl ?_
      refine at_icmpge (tgt := 26) dX3_firstOf_17 (by decide) (fun c17 => ?_) (fun c17 => ?_)
      · -- taken 17
        rw [nI_clamp (by omega)] at c17
        refine at_iload_n dX3_firstOf_26 rfl ?_
        refine at_iret rfl dX3_firstOf_27 ?_
        exact ⟨by rw [pfirst, if_neg (by simpa using Int32.not_lt.mpr c17)], rfl⟩
      · -- not taken 17
        rw [nI_clamp (by omega)] at c17
        refine at_inc dX3_firstOf_20 rfl pc_i1 rfl (Nat.le_of_ble_eq_true rfl) ?_
        refine at_goto (tgt := 2) dX3_firstOf_23 (by decide) ?_
        rw [nI_1]; have e := ih (i + 1) (by omega); rw [pfirst, if_pos (by simpa using Int32.not_le.mp c17)]; exact e
theorem ev_X3_firstOf {G : pd_G} {I L R} {c n : Nat} (hR : RS R) (hc : PB c) (hn : I c 6 = nI n) (h40 : n ≤ 40) (sheet : Int32) : pd_Ev G mi_X3_firstOf 1 0 0 [.ref (pd_z G + c), .int sheet] (SD, false, I, L, R) (pd_rt (.int (nI (pfirst (fun j => decide (I (c + 7) j < sheet)) n 0))) (SD, false, I, L, R)) := by
  refine pd_ev 1 (lo := [some (.ref (pd_z G + c)), some (.int sheet), none]) (by decide +kernel) (Nat.le_of_ble_eq_true rfl) rfl ?_
  refine at_iconst dX3_firstOf_0 pc_i0 ?_
  refine at_istore_n dX3_firstOf_1 rfl (Nat.le_of_ble_eq_true rfl) ?_
  exact lp_X3_firstOf hR hc hn h40 sheet n 0 (by omega)
theorem ev_X3_linesOn {G : pd_G} {I L R} {c n : Nat} (hR : RS R) (hc : PB c) (hn : I c 6 = nI n) (h40 : n ≤ 40) (sheet : Int32) : pd_Ev G mi_X3_linesOn 2 0 0 [.ref (pd_z G + c), .int sheet] (SD, false, I, L, R) (pd_rt (.int (nI (pfirst (fun j => decide (I (c + 7) j < sheet + 1)) n 0) - nI (pfirst (fun j => decide (I (c + 7) j < sheet)) n 0))) (SD, false, I, L, R)) := by
  refine pd_ev 0 (lo := [some (.ref (pd_z G + c)), some (.int sheet)]) (by decide +kernel) (Nat.le_of_ble_eq_true rfl) rfl ?_
  refine at_aload_n dX3_linesOn_0 rfl ?_
  refine at_iload_n dX3_linesOn_1 rfl ?_
  refine at_iconst dX3_linesOn_2 pc_i1 ?_
  refine at_iadd dX3_linesOn_3 ?_
  refine at_cv1 cvX3_91 (sd_P0 hc) (ev_X3_firstOf hR hc hn h40 _) (by decide) ⟨Nat.le_refl _, Nat.le_refl _⟩ (Nat.le_of_ble_eq_true rfl) dX3_linesOn_4 (pd_k1 ?_)
  refine at_aload_n dX3_linesOn_7 rfl ?_
  refine at_iload_n dX3_linesOn_8 rfl ?_
  refine at_cv1 cvX3_91 (sd_P0 hc) (ev_X3_firstOf hR hc hn h40 _) (by decide) ⟨Nat.le_refl _, Nat.le_refl _⟩ (Nat.le_of_ble_eq_true rfl) dX3_linesOn_9 (pd_k1 ?_)
  refine at_isub dX3_linesOn_12 ?_
  refine at_iret rfl dX3_linesOn_13 ?_
  exact ⟨rfl, rfl⟩
theorem ev_X3_emptySamples {G : pd_G} {I L R} {c : Nat} (hc : PB c) : pd_Ev G mi_X3_emptySamples 1 0 0 [.ref (pd_z G + c)] (SD, false, I, L, R) (pd_rv (SD, false, I, pd_up (pd_up L c 17 0) c 18 0, R)) := by
  refine pd_ev 0 (lo := [some (.ref (pd_z G + c))]) (by decide +kernel) (Nat.le_of_ble_eq_true rfl) rfl ?_
  refine at_aload_n dX3_emptySamples_0 rfl ?_
  refine at_lconst dX3_emptySamples_1 pc_l0 ?_
  refine at_putl flX3_84 rfl (sd_P0 hc) (fun _ _ _ hq => by cases hq; rfl) dX3_emptySamples_2 ?_
  refine at_aload_n dX3_emptySamples_5 rfl ?_
  refine at_lconst dX3_emptySamples_6 pc_l0 ?_
  refine at_putl flX3_88 rfl (sd_P0 hc) (fun _ _ _ hq => by cases hq; rfl) dX3_emptySamples_7 ?_
  refine at_vret rfl dX3_emptySamples_10 ?_
  exact ⟨rfl, rfl⟩
def x_clear (I : Nat → Nat → Int32) (c : Nat) : Nat → Nat → Int32 := pd_up (pd_up (pd_up (pd_up (pd_up (pd_up (pd_up (pd_up (pd_up (pd_up I c 0 0) c 4 0) c 5 0) c 6 0) c 11 1) c 12 0) c 13 999) c 14 100) c 15 50) (c + 8) 1 0
theorem ev_X3_clear {G : pd_G} {I L R} {c : Nat} (hR : RS R) (hc : PB c) : pd_Ev G mi_X3_clear 2 0 0 [.ref (pd_z G + c)] (SD, false, I, L, R) (pd_rv (SD, false, x_clear I c, pd_up (pd_up L c 17 0) c 18 0, R)) := by
  refine pd_ev 0 (lo := [some (.ref (pd_z G + c))]) (by decide +kernel) (Nat.le_of_ble_eq_true rfl) rfl ?_
  refine at_aload_n dX3_clear_0 rfl ?_
  refine at_iconst dX3_clear_1 pc_i0 ?_
  refine at_puti flX3_53 rfl (sd_P0 hc) (fun _ _ _ hq => by cases hq; rfl) dX3_clear_2 ?_
  refine at_aload_n dX3_clear_5 rfl ?_
  refine at_iconst dX3_clear_6 pc_i0 ?_
  refine at_puti flX3_56 rfl (sd_P0 hc) (fun _ _ _ hq => by cases hq; rfl) dX3_clear_7 ?_
  refine at_aload_n dX3_clear_10 rfl ?_
  refine at_iconst dX3_clear_11 pc_i0 ?_
  refine at_puti flX3_59 rfl (sd_P0 hc) (fun _ _ _ hq => by cases hq; rfl) dX3_clear_12 ?_
  refine at_aload_n dX3_clear_15 rfl ?_
  refine at_iconst dX3_clear_16 pc_i0 ?_
  refine at_puti flX3_62 rfl (sd_P0 hc) (fun _ _ _ hq => by cases hq; rfl) dX3_clear_17 ?_
  refine at_aload_n dX3_clear_20 rfl ?_
  refine at_iconst dX3_clear_21 pc_i1 ?_
  refine at_puti flX3_33 rfl (sd_P0 hc) (fun _ _ _ hq => by cases hq; rfl) dX3_clear_22 ?_
  refine at_aload_n dX3_clear_25 rfl ?_
  refine at_iconst dX3_clear_26 pc_i0 ?_
  refine at_puti flX3_65 rfl (sd_P0 hc) (fun _ _ _ hq => by cases hq; rfl) dX3_clear_27 ?_
  refine at_aload_n dX3_clear_30 rfl ?_
  refine at_sipush dX3_clear_31 pc_s999 ?_
  refine at_puti flX3_37 rfl (sd_P0 hc) (fun _ _ _ hq => by cases hq; rfl) dX3_clear_34 ?_
  refine at_aload_n dX3_clear_37 rfl ?_
  refine at_bipush dX3_clear_38 pc_b100 ?_
  refine at_puti flX3_40 rfl (sd_P0 hc) (fun _ _ _ hq => by cases hq; rfl) dX3_clear_40 ?_
  refine at_aload_n dX3_clear_43 rfl ?_
  refine at_bipush dX3_clear_44 pc_b50 ?_
  refine at_puti flX3_43 rfl (sd_P0 hc) (fun _ _ _ hq => by cases hq; rfl) dX3_clear_46 ?_
  refine at_aload_n dX3_clear_49 rfl ?_
  refine at_getr (c + 8) flX3_49 rfl (sd_P0 hc) (rs_P16 hR hc) dX3_clear_50 ?_
  refine at_iconst dX3_clear_53 pc_i0 ?_
  refine at_puti flX3_68 rfl (sd_P8 hc) (fun _ _ _ hq => by cases hq; rfl) dX3_clear_54 ?_
  refine at_aload_n dX3_clear_57 rfl ?_
  refine at_cv0 cvX3_71 (sd_P0 hc) (ev_X3_emptySamples hc) (by decide) ⟨Nat.le_refl _, Nat.le_refl _⟩ (Nat.le_of_ble_eq_true rfl) dX3_clear_58 (pd_k0 ?_)
  refine at_vret rfl dX3_clear_61 ?_
  exact ⟨rfl, rfl⟩
/-- b's bit at s: 1 or 0 -/
def i_bit (x s : Int32) : Int32 := if x >>> (s &&& 31) &&& 1 = 1 then 1 else 0
theorem ev_X3_isByHand {G : pd_G} {I L R} {c : Nat} (hc : PB c) (sheet : Int32) : pd_Ev G mi_X3_isByHand 1 0 0 [.ref (pd_z G + c), .int sheet] (SD, false, I, L, R) (pd_rt (.int (i_bit (I c 5) sheet)) (SD, false, I, L, R)) := by
  refine pd_ev 0 (lo := [some (.ref (pd_z G + c)), some (.int sheet)]) (by decide +kernel) (Nat.le_of_ble_eq_true rfl) rfl ?_
  refine at_aload_n dX3_isByHand_0 rfl ?_
  refine at_geti flX3_59 rfl (sd_P0 hc) dX3_isByHand_1 ?_
  refine at_iload_n dX3_isByHand_4 rfl ?_
  refine at_ishr dX3_isByHand_5 ?_
  refine at_iconst dX3_isByHand_6 pc_i1 ?_
  refine at_iand dX3_isByHand_7 ?_
  refine at_iconst dX3_isByHand_8 pc_i1 ?_
  refine at_icmpne (tgt := 16) dX3_isByHand_9 (by decide) (fun c9 => ?_) (fun c9 => ?_)
  · -- taken 9
    refine at_iconst dX3_isByHand_16 pc_i0 ?_
    refine at_zret rfl dX3_isByHand_17 (by first | exact Or.inl rfl | exact Or.inr rfl | assumption) ?_
    first | exact ⟨by rw [i_bit, if_pos (by simpa using c9)], rfl⟩ | exact ⟨by rw [i_bit, if_neg (by simpa using c9)], rfl⟩
  · -- not taken 9
    refine at_iconst dX3_isByHand_12 pc_i1 ?_
    refine at_goto (tgt := 17) dX3_isByHand_13 (by decide) ?_
    refine at_zret rfl dX3_isByHand_17 (by first | exact Or.inl rfl | exact Or.inr rfl | assumption) ?_
    first | exact ⟨by rw [i_bit, if_pos (by simpa using c9)], rfl⟩ | exact ⟨by rw [i_bit, if_neg (by simpa using c9)], rfl⟩
/-- the first index, or -1 -/
def i_find (p : Nat → Bool) (n : Nat) : Int32 := if pfirst (fun j => !p j) n 0 < n then nI (pfirst (fun j => !p j) n 0) else -1
theorem pfirst_le (p : Nat → Bool) : ∀ k i, i ≤ pfirst p k i ∧ pfirst p k i ≤ i + k
  | 0, i => ⟨Nat.le_refl _, Nat.le_refl _⟩
  | k + 1, i => by
    rw [pfirst]
    split
    · have := pfirst_le p k (i + 1); omega
    · omega
theorem lp_X3_voterWith {G : pd_G} {I L R} {c n : Nat} (hR : RS R) (hc : PB c) (hn : I c 0 = nI n) (h16 : n ≤ 16) (name street : Int32) : ∀ (k i : Nat), i + k = n → pd_At G mi_X3_voterWith 1 0 0 0 0 2 [some (.ref (pd_z G + c)), some (.int name), some (.int street), some (.int (nI i))] [] (SD, false, I, L, R) (pd_rt (.int (if pfirst (fun j => !(decide (I (c + 1) j = name) && decide (I (c + 2) j = street))) k i < n then nI (pfirst (fun j => !(decide (I (c + 1) j = name) && decide (I (c + 2) j = street))) k i) else -1)) (SD, false, I, L, R)) := by
  intro k
  induction k with
  | zero =>
    intro i hi
    refine at_iload_n dX3_voterWith_2 rfl ?_
    refine at_aload_n dX3_voterWith_3 rfl ?_
    refine at_geti flX3_53 rfl (sd_P0 hc) dX3_voterWith_4 ?_
    refine at_icmpge (tgt := 38) dX3_voterWith_7 (by decide) (fun c7 => ?_) (fun c7 => ?_)
    · -- taken 7
      refine at_iconst dX3_voterWith_38 pc_im1 ?_
      refine at_iret rfl dX3_voterWith_39 ?_
      exact ⟨by rw [pfirst, if_neg (by omega)], rfl⟩
    · -- not taken 7
      exact absurd (by rw [hn]; exact nI_le (by omega) (by omega)) c7
  | succ k ih =>
    intro i hi
    refine at_iload_n dX3_voterWith_2 rfl ?_
    refine at_aload_n dX3_voterWith_3 rfl ?_
    refine at_geti flX3_53 rfl (sd_P0 hc) dX3_voterWith_4 ?_
    refine at_icmpge (tgt := 38) dX3_voterWith_7 (by decide) (fun c7 => ?_) (fun c7 => ?_)
    · -- taken 7
      exact absurd (by rw [hn] at c7; exact c7) (nI_ge (by omega) (by omega))
    · -- not taken 7
      refine at_aload_n dX3_voterWith_10 rfl ?_
      refine at_getr (c + 1) flX3_9 rfl (sd_P0 hc) (rs_P1 hR hc) dX3_voterWith_11 ?_
      refine at_iload_n dX3_voterWith_14 rfl ?_
      refine at_iald (sd_P1 hc) (nI_in2 (n := n) (by omega) h16 (by decide)) dX3_voterWith_15 ?_
      refine at_iload_n dX3_voterWith_16 rfl ?_
      refine at_icmpne (tgt := 32) dX3_voterWith_17 (by decide) (fun c17 => ?_) (fun c17 => ?_)
      · -- taken 17
        rw [nI_clamp (by omega)] at c17
        refine at_inc dX3_voterWith_32 rfl pc_i1 rfl (Nat.le_of_ble_eq_true rfl) ?_
        refine at_goto (tgt := 2) dX3_voterWith_35 (by decide) ?_
        rw [nI_1]; have e := ih (i + 1) (by omega)
        rw [pfirst_yes (by first | (simp [c17]; done) | (simp [c27]; done))]; exact e
      · -- not taken 17
        rw [nI_clamp (by omega)] at c17
        refine at_aload_n dX3_voterWith_20 rfl ?_
        refine at_getr (c + 2) flX3_15 rfl (sd_P0 hc) (rs_P2 hR hc) dX3_voterWith_21 ?_
        refine at_iload_n dX3_voterWith_24 rfl ?_
        refine at_iald (sd_P2 hc) (nI_in2 (n := n) (by omega) h16 (by decide)) dX3_voterWith_25 ?_
        refine at_iload_n dX3_voterWith_26 rfl ?_
        refine at_icmpne (tgt := 32) dX3_voterWith_27 (by decide) (fun c27 => ?_) (fun c27 => ?_)
        · -- taken 27
          rw [nI_clamp (by omega)] at c27
          refine at_inc dX3_voterWith_32 rfl pc_i1 rfl (Nat.le_of_ble_eq_true rfl) ?_
          refine at_goto (tgt := 2) dX3_voterWith_35 (by decide) ?_
          rw [nI_1]; have e := ih (i + 1) (by omega)
          rw [pfirst_yes (by first | (simp [c17]; done) | (simp [c27]; done))]; exact e
        · -- not taken 27
          rw [nI_clamp (by omega)] at c27
          refine at_iload_n dX3_voterWith_30 rfl ?_
          refine at_iret rfl dX3_voterWith_31 ?_
          exact ⟨by rw [pfirst_no (by simp [c17, c27]), if_pos (by omega)], rfl⟩
theorem ev_X3_voterWith {G : pd_G} {I L R} {c n : Nat} (hR : RS R) (hc : PB c) (hn : I c 0 = nI n) (h16 : n ≤ 16) (name street : Int32) : pd_Ev G mi_X3_voterWith 1 0 0 [.ref (pd_z G + c), .int name, .int street] (SD, false, I, L, R) (pd_rt (.int (i_find (fun j => decide (I (c + 1) j = name) && decide (I (c + 2) j = street)) n)) (SD, false, I, L, R)) := by
  refine pd_ev 1 (lo := [some (.ref (pd_z G + c)), some (.int name), some (.int street), none]) (by decide +kernel) (Nat.le_of_ble_eq_true rfl) rfl ?_
  refine at_iconst dX3_voterWith_0 pc_i0 ?_
  refine at_istore_n dX3_voterWith_1 rfl (Nat.le_of_ble_eq_true rfl) ?_
  exact lp_X3_voterWith hR hc hn h16 name street n 0 (by omega)
theorem ev_X3_addVoter {G : pd_G} {I L R} {c n : Nat} (hR : RS R) (hc : PB c) (hn : I c 0 = nI n) (h16 : n < 16) (name street day : Int32) : pd_Ev G mi_X3_addVoter 1 0 0 [.ref (pd_z G + c), .int name, .int street, .int day] (SD, false, I, L, R) (pd_rv (SD, false, pd_up (pd_up (pd_up (pd_up I (c + 1) n name) (c + 2) n street) (c + 3) n day) c 0 (nI (n + 1)), L, R)) := by
  have hlt : ∀ {b k : Nat}, vp_in (nI n) 16 := fun {b k} => vp_in_nI h16 (by decide)
  have hcl : (nI n).toNatClampNeg = n := nI_clamp (by omega)
  refine pd_ev 0 (lo := [some (.ref (pd_z G + c)), some (.int name), some (.int street), some (.int day)]) (by decide +kernel) (Nat.le_of_ble_eq_true rfl) rfl ?_
  refine at_aload_n dX3_addVoter_0 rfl ?_
  refine at_geti flX3_53 rfl (sd_P0 hc) dX3_addVoter_1 ?_
  refine at_iflt (tgt := 16) dX3_addVoter_4 (by decide) (fun c4 => ?_) (fun c4 => ?_)
  · -- taken 4
    exact absurd (by rw [hn] at c4; exact c4) (nI_pos (by omega))
  · -- not taken 4
    refine at_aload_n dX3_addVoter_7 rfl ?_
    refine at_geti flX3_53 rfl (sd_P0 hc) dX3_addVoter_8 ?_
    refine at_bipush dX3_addVoter_11 pc_b16 ?_
    refine at_icmplt (tgt := 17) dX3_addVoter_13 (by decide) (fun c13 => ?_) (fun c13 => ?_)
    · -- taken 13
      refine at_aload_n dX3_addVoter_17 rfl ?_
      refine at_getr (c + 1) flX3_9 rfl (sd_P0 hc) (rs_P1 hR hc) dX3_addVoter_18 ?_
      refine at_aload_n dX3_addVoter_21 rfl ?_
      refine at_geti flX3_53 rfl (sd_P0 hc) dX3_addVoter_22 ?_
      rw [hn]
      refine at_iload_n dX3_addVoter_25 rfl ?_
      refine at_iast (sd_P1 hc) (hlt (b := 0) (k := 0)) dX3_addVoter_26 ?_
      refine at_aload_n dX3_addVoter_27 rfl ?_
      refine at_getr (c + 2) flX3_15 rfl (sd_P0 hc) (rs_P2 hR hc) dX3_addVoter_28 ?_
      refine at_aload_n dX3_addVoter_31 rfl ?_
      refine at_geti flX3_53 rfl (sd_P0 hc) dX3_addVoter_32 ?_
      rw [pd_up_nb (by omega), hn]
      refine at_iload_n dX3_addVoter_35 rfl ?_
      refine at_iast (sd_P2 hc) (hlt (b := 0) (k := 0)) dX3_addVoter_36 ?_
      refine at_aload_n dX3_addVoter_37 rfl ?_
      refine at_getr (c + 3) flX3_18 rfl (sd_P0 hc) (rs_P3 hR hc) dX3_addVoter_38 ?_
      refine at_aload_n dX3_addVoter_41 rfl ?_
      refine at_geti flX3_53 rfl (sd_P0 hc) dX3_addVoter_42 ?_
      rw [pd_up_nb (by omega), pd_up_nb (by omega), hn]
      refine at_iload_n dX3_addVoter_45 rfl ?_
      refine at_iast (sd_P3 hc) (hlt (b := 0) (k := 0)) dX3_addVoter_46 ?_
      refine at_aload_n dX3_addVoter_47 rfl ?_
      refine at_dup dX3_addVoter_48 rfl ?_
      refine at_geti flX3_53 rfl (sd_P0 hc) dX3_addVoter_49 ?_
      rw [pd_up_nb (by omega), pd_up_nb (by omega), pd_up_nb (by omega), hn, hcl]
      refine at_iconst dX3_addVoter_52 pc_i1 ?_
      refine at_iadd dX3_addVoter_53 ?_
      refine at_puti flX3_53 rfl (sd_P0 hc) (fun _ _ _ hq => by cases hq; rfl) dX3_addVoter_54 ?_
      refine at_vret rfl dX3_addVoter_57 ?_
      exact ⟨rfl, by rw [nI_1]⟩
    · -- not taken 13
      exact absurd (by rw [hn]; exact nI_lt (b := 16) h16 (by decide)) c13
