/-! ===== the reference: small methods, rows copied ===== -/
theorem la_eq (l w : Nat) : (65 : Int32) + 4 * nI l + nI w = nI (65 + 4 * l + w) := by
  rw [show (65 : Int32) = nI 65 from rfl, show (4 : Int32) = nI 4 from rfl, pk_mul, nI_add, nI_add]
theorem va_eq (l w : Nat) : (9 : Int32) + 3 * nI l + nI w = nI (9 + 3 * l + w) := by
  rw [show (9 : Int32) = nI 9 from rfl, show (3 : Int32) = nI 3 from rfl, pk_mul, nI_add, nI_add]
def inL (v l m : Int64) : Bool := decide (l ≤ v) && decide (v ≤ m)
theorem inL_w (x l m : Int32) : inL x.toInt64 l.toInt64 m.toInt64 = inR x l m := by
  unfold inL inR
  rw [decide_eq_decide.mpr (fa_wide_le l x), decide_eq_decide.mpr (fa_wide_le x m)]
theorem rs_past {R : Nat → Nat → Option Nat} (h : RS R) {i : Nat} (hi : i < 8) : R 124 i = some (125 + i) := by
  rcases (show i = 0 ∨ i = 1 ∨ i = 2 ∨ i = 3 ∨ i = 4 ∨ i = 5 ∨ i = 6 ∨ i = 7 by omega) with rfl | rfl | rfl | rfl | rfl | rfl | rfl | rfl
  · exact rs_124_0 h
  · exact rs_124_1 h
  · exact rs_124_2 h
  · exact rs_124_3 h
  · exact rs_124_4 h
  · exact rs_124_5 h
  · exact rs_124_6 h
  · exact rs_124_7 h
theorem sd_past {i : Nat} (hi : i < 8) : SD[125 + i]? = some (9, 1105) := by
  rcases (show i = 0 ∨ i = 1 ∨ i = 2 ∨ i = 3 ∨ i = 4 ∨ i = 5 ∨ i = 6 ∨ i = 7 by omega) with rfl | rfl | rfl | rfl | rfl | rfl | rfl | rfl <;> rfl
/-- the row lies at c -/
def RQ (I : Nat → Nat → Int32) (c : Nat) (r : Nat → Int32) : Prop := ∀ k, k < 1105 → I c k = r k
theorem pd_fw_row {I : Nat → Nat → Int32} {a : Nat} {f : Nat → Int32} : RQ (pd_fw I a f 1105) a f := fun k hk => pd_fw_at hk
section REF
variable {G : pd_G} {I : Nat → Nat → Int32} {L : Nat → Nat → Int64} {R : Nat → Nat → Option Nat} {M : pd_M}
theorem ev_X9_in (v l m : Int64) : pd_Ev G mi_X9_in 1 0 0 [.long v, .long l, .long m] M (pd_rt (.int (i_of (inL v l m))) M) := by
  refine pd_ev 0 (lo := [some (.long v), none, some (.long l), none, some (.long m), none]) (by decide +kernel) (Nat.le_of_ble_eq_true rfl) rfl ?_
  refine at_lload_n dX9_in_0 rfl ?_
  refine at_lload_n dX9_in_1 rfl ?_
  refine at_lcmp dX9_in_2 ?_
  refine at_iflt (tgt := 17) dX9_in_3 (by decide) (fun c3 => ?_) (fun c3 => ?_)
  · -- taken 3
    rw [lg_cmp_lt, fa_lt64] at c3
    refine at_iconst dX9_in_17 pc_i0 ?_
    refine at_zret rfl dX9_in_18 (by first | exact Or.inl rfl | exact Or.inr rfl | assumption) ?_
    refine ⟨?_, rfl⟩
    unfold inL
    simp only [fa_le64]
    first | (rw [decide_eq_false (by omega : ¬ l.toInt ≤ v.toInt)]; rfl) | (rw [decide_eq_false (by omega : ¬ v.toInt ≤ m.toInt), Bool.and_false]; rfl) | (rw [decide_eq_true (by omega : l.toInt ≤ v.toInt), decide_eq_true (by omega : v.toInt ≤ m.toInt)]; rfl)
  · -- not taken 3
    rw [lg_cmp_lt, fa_lt64] at c3
    refine at_lload_n dX9_in_6 rfl ?_
    refine at_lload dX9_in_7 rfl ?_
    refine at_lcmp dX9_in_9 ?_
    refine at_ifgt (tgt := 17) dX9_in_10 (by decide) (fun c10 => ?_) (fun c10 => ?_)
    · -- taken 10
      rw [lg_cmp_gt, fa_lt64] at c10
      refine at_iconst dX9_in_17 pc_i0 ?_
      refine at_zret rfl dX9_in_18 (by first | exact Or.inl rfl | exact Or.inr rfl | assumption) ?_
      refine ⟨?_, rfl⟩
      unfold inL
      simp only [fa_le64]
      first | (rw [decide_eq_false (by omega : ¬ l.toInt ≤ v.toInt)]; rfl) | (rw [decide_eq_false (by omega : ¬ v.toInt ≤ m.toInt), Bool.and_false]; rfl) | (rw [decide_eq_true (by omega : l.toInt ≤ v.toInt), decide_eq_true (by omega : v.toInt ≤ m.toInt)]; rfl)
    · -- not taken 10
      rw [lg_cmp_gt, fa_lt64] at c10
      refine at_iconst dX9_in_13 pc_i1 ?_
      refine at_goto (tgt := 18) dX9_in_14 (by decide) ?_
      refine at_zret rfl dX9_in_18 (by first | exact Or.inl rfl | exact Or.inr rfl | assumption) ?_
      refine ⟨?_, rfl⟩
      unfold inL
      simp only [fa_le64]
      first | (rw [decide_eq_false (by omega : ¬ l.toInt ≤ v.toInt)]; rfl) | (rw [decide_eq_false (by omega : ¬ v.toInt ≤ m.toInt), Bool.and_false]; rfl) | (rw [decide_eq_true (by omega : l.toInt ≤ v.toInt), decide_eq_true (by omega : v.toInt ≤ m.toInt)]; rfl)
theorem ev_X9_less (x y : Int32) : pd_Ev G mi_X9_less 1 0 0 [.int x, .int y] M (pd_rt (.int (if x < y then x else y)) M) := by
  refine pd_ev 0 (lo := [some (.int x), some (.int y)]) (by decide +kernel) (Nat.le_of_ble_eq_true rfl) rfl ?_
  refine at_iload_n dX9_less_0 rfl ?_
  refine at_iload_n dX9_less_1 rfl ?_
  refine at_icmpge (tgt := 9) dX9_less_2 (by decide) (fun c2 => ?_) (fun c2 => ?_)
  · -- taken 2
    refine at_iload_n dX9_less_9 rfl ?_
    refine at_iret rfl dX9_less_10 ?_
    first | exact ⟨by rw [if_neg (fun q => (fa_of_lt q).2.1 c2)], rfl⟩ | exact ⟨by rw [if_pos (fa_of_nle c2)], rfl⟩
  · -- not taken 2
    refine at_iload_n dX9_less_5 rfl ?_
    refine at_goto (tgt := 10) dX9_less_6 (by decide) ?_
    refine at_iret rfl dX9_less_10 ?_
    first | exact ⟨by rw [if_neg (fun q => (fa_of_lt q).2.1 c2)], rfl⟩ | exact ⟨by rw [if_pos (fa_of_nle c2)], rfl⟩
theorem ev_X9_lineAt (l w k : Nat) (h : 65 + 4 * l + w = k) : pd_Ev G mi_X9_lineAt 1 0 0 [.int (nI l), .int (nI w)] M (pd_rt (.int (nI k)) M) := by
  refine pd_ev 0 (lo := [some (.int (nI l)), some (.int (nI w))]) (by decide +kernel) (Nat.le_of_ble_eq_true rfl) rfl ?_
  refine at_bipush dX9_lineAt_0 pc_b65 ?_
  refine at_iconst dX9_lineAt_2 pc_i4 ?_
  refine at_iload_n dX9_lineAt_3 rfl ?_
  refine at_imul dX9_lineAt_4 ?_
  refine at_iadd dX9_lineAt_5 ?_
  refine at_iload_n dX9_lineAt_6 rfl ?_
  refine at_iadd dX9_lineAt_7 ?_
  refine at_iret rfl dX9_lineAt_8 ?_
  exact ⟨by rw [la_eq, h], rfl⟩
theorem ev_X9_voterAt (l w k : Nat) (h : 9 + 3 * l + w = k) : pd_Ev G mi_X9_voterAt 1 0 0 [.int (nI l), .int (nI w)] M (pd_rt (.int (nI k)) M) := by
  refine pd_ev 0 (lo := [some (.int (nI l)), some (.int (nI w))]) (by decide +kernel) (Nat.le_of_ble_eq_true rfl) rfl ?_
  refine at_bipush dX9_voterAt_0 pc_b9 ?_
  refine at_iconst dX9_voterAt_2 pc_i3 ?_
  refine at_iload_n dX9_voterAt_3 rfl ?_
  refine at_imul dX9_voterAt_4 ?_
  refine at_iadd dX9_voterAt_5 ?_
  refine at_iload_n dX9_voterAt_6 rfl ?_
  refine at_iadd dX9_voterAt_7 ?_
  refine at_iret rfl dX9_voterAt_8 ?_
  exact ⟨by rw [va_eq, h], rfl⟩
theorem ev_X9_isSmall (x : Int32) : pd_Ev G mi_X9_isSmall 1 0 0 [.int x] M (pd_rt (.int (i_of (inR x 97 122))) M) := by
  refine pd_ev 0 (lo := [some (.int x)]) (by decide +kernel) (Nat.le_of_ble_eq_true rfl) rfl ?_
  refine at_iload_n dX9_isSmall_0 rfl ?_
  refine at_bipush dX9_isSmall_1 pc_b97 ?_
  refine at_icmplt (tgt := 16) dX9_isSmall_3 (by decide) (fun c3 => ?_) (fun c3 => ?_)
  · -- taken 3
    refine at_iconst dX9_isSmall_16 pc_i0 ?_
    refine at_zret rfl dX9_isSmall_17 (by first | exact Or.inl rfl | exact Or.inr rfl | assumption) ?_
    first | (rw [inR_a c3]; exact ⟨rfl, rfl⟩; done) | (rw [inR_b c9]; exact ⟨rfl, rfl⟩; done) | (rw [inR_c c3 c9]; exact ⟨rfl, rfl⟩; done)
  · -- not taken 3
    refine at_iload_n dX9_isSmall_6 rfl ?_
    refine at_bipush dX9_isSmall_7 pc_b122 ?_
    refine at_icmpgt (tgt := 16) dX9_isSmall_9 (by decide) (fun c9 => ?_) (fun c9 => ?_)
    · -- taken 9
      refine at_iconst dX9_isSmall_16 pc_i0 ?_
      refine at_zret rfl dX9_isSmall_17 (by first | exact Or.inl rfl | exact Or.inr rfl | assumption) ?_
      first | (rw [inR_a c3]; exact ⟨rfl, rfl⟩; done) | (rw [inR_b c9]; exact ⟨rfl, rfl⟩; done) | (rw [inR_c c3 c9]; exact ⟨rfl, rfl⟩; done)
    · -- not taken 9
      refine at_iconst dX9_isSmall_12 pc_i1 ?_
      refine at_goto (tgt := 17) dX9_isSmall_13 (by decide) ?_
      refine at_zret rfl dX9_isSmall_17 (by first | exact Or.inl rfl | exact Or.inr rfl | assumption) ?_
      first | (rw [inR_a c3]; exact ⟨rfl, rfl⟩; done) | (rw [inR_b c9]; exact ⟨rfl, rfl⟩; done) | (rw [inR_c c3 c9]; exact ⟨rfl, rfl⟩; done)
theorem ev_X9_isDigit (x : Int32) : pd_Ev G mi_X9_isDigit 1 0 0 [.int x] M (pd_rt (.int (i_of (inR x 48 57))) M) := by
  refine pd_ev 0 (lo := [some (.int x)]) (by decide +kernel) (Nat.le_of_ble_eq_true rfl) rfl ?_
  refine at_iload_n dX9_isDigit_0 rfl ?_
  refine at_bipush dX9_isDigit_1 pc_b48 ?_
  refine at_icmplt (tgt := 16) dX9_isDigit_3 (by decide) (fun c3 => ?_) (fun c3 => ?_)
  · -- taken 3
    refine at_iconst dX9_isDigit_16 pc_i0 ?_
    refine at_zret rfl dX9_isDigit_17 (by first | exact Or.inl rfl | exact Or.inr rfl | assumption) ?_
    first | (rw [inR_a c3]; exact ⟨rfl, rfl⟩; done) | (rw [inR_b c9]; exact ⟨rfl, rfl⟩; done) | (rw [inR_c c3 c9]; exact ⟨rfl, rfl⟩; done)
  · -- not taken 3
    refine at_iload_n dX9_isDigit_6 rfl ?_
    refine at_bipush dX9_isDigit_7 pc_b57 ?_
    refine at_icmpgt (tgt := 16) dX9_isDigit_9 (by decide) (fun c9 => ?_) (fun c9 => ?_)
    · -- taken 9
      refine at_iconst dX9_isDigit_16 pc_i0 ?_
      refine at_zret rfl dX9_isDigit_17 (by first | exact Or.inl rfl | exact Or.inr rfl | assumption) ?_
      first | (rw [inR_a c3]; exact ⟨rfl, rfl⟩; done) | (rw [inR_b c9]; exact ⟨rfl, rfl⟩; done) | (rw [inR_c c3 c9]; exact ⟨rfl, rfl⟩; done)
    · -- not taken 9
      refine at_iconst dX9_isDigit_12 pc_i1 ?_
      refine at_goto (tgt := 17) dX9_isDigit_13 (by decide) ?_
      refine at_zret rfl dX9_isDigit_17 (by first | exact Or.inl rfl | exact Or.inr rfl | assumption) ?_
      first | (rw [inR_a c3]; exact ⟨rfl, rfl⟩; done) | (rw [inR_b c9]; exact ⟨rfl, rfl⟩; done) | (rw [inR_c c3 c9]; exact ⟨rfl, rfl⟩; done)
theorem ev_X9_thrown : pd_Ev G mi_X9_thrown 1 0 0 [.ref (pd_z G + 119)] (SD, false, I, L, R) (pd_rt (.int (I 119 0)) (SD, false, I, L, R)) := by
  refine pd_ev 0 (lo := [some (.ref (pd_z G + 119))]) (by decide +kernel) (Nat.le_of_ble_eq_true rfl) rfl ?_
  refine at_aload_n dX9_thrown_0 rfl ?_
  refine at_geti flX9_48 rfl sd_119 dX9_thrown_1 ?_
  refine at_iret rfl dX9_thrown_4 ?_
  exact ⟨rfl, rfl⟩
theorem ev_X9_fine : pd_Ev G mi_X9_fine 1 0 0 [.ref (pd_z G + 119)] (SD, false, I, L, R) (pd_rt (.int (i_of (decide (I 119 6 = 0)))) (SD, false, I, L, R)) := by
  refine pd_ev 0 (lo := [some (.ref (pd_z G + 119))]) (by decide +kernel) (Nat.le_of_ble_eq_true rfl) rfl ?_
  refine at_aload_n dX9_fine_0 rfl ?_
  refine at_geti flX9_64 rfl sd_119 dX9_fine_1 ?_
  refine at_ifne (tgt := 11) dX9_fine_4 (by decide) (fun c4 => ?_) (fun c4 => ?_)
  · -- taken 4
    refine at_iconst dX9_fine_11 pc_i0 ?_
    refine at_zret rfl dX9_fine_12 (by first | exact Or.inl rfl | exact Or.inr rfl | assumption) ?_
    first | exact ⟨by rw [decide_eq_true c4]; rfl, rfl⟩ | exact ⟨by rw [decide_eq_false c4]; rfl, rfl⟩
  · -- not taken 4
    refine at_iconst dX9_fine_7 pc_i1 ?_
    refine at_goto (tgt := 12) dX9_fine_8 (by decide) ?_
    refine at_zret rfl dX9_fine_12 (by first | exact Or.inl rfl | exact Or.inr rfl | assumption) ?_
    first | exact ⟨by rw [decide_eq_true c4]; rfl, rfl⟩ | exact ⟨by rw [decide_eq_false c4]; rfl, rfl⟩
theorem ev_X9_wrong0 (h : I 119 6 = 0) (x y : Int32) : pd_Ev G mi_X9_wrong 1 0 0 [.ref (pd_z G + 119), .int x, .int y] (SD, false, I, L, R) (pd_rv (SD, false, pd_up (pd_up I 119 6 x) 119 7 y, L, R)) := by
  refine pd_ev 0 (lo := [some (.ref (pd_z G + 119)), some (.int x), some (.int y)]) (by decide +kernel) (Nat.le_of_ble_eq_true rfl) rfl ?_
  refine at_aload_n dX9_wrong_0 rfl ?_
  refine at_geti flX9_64 rfl sd_119 dX9_wrong_1 ?_
  refine at_ifne (tgt := 17) dX9_wrong_4 (by decide) (fun c4 => ?_) (fun c4 => ?_)
  · -- taken 4
    exact absurd h c4
  · -- not taken 4
    refine at_aload_n dX9_wrong_7 rfl ?_
    refine at_iload_n dX9_wrong_8 rfl ?_
    refine at_puti flX9_64 rfl sd_119 (fun _ _ _ hq => by cases hq; rfl) dX9_wrong_9 ?_
    refine at_aload_n dX9_wrong_12 rfl ?_
    refine at_iload_n dX9_wrong_13 rfl ?_
    refine at_puti flX9_67 rfl sd_119 (fun _ _ _ hq => by cases hq; rfl) dX9_wrong_14 ?_
    refine at_vret rfl dX9_wrong_17 ?_
    exact ⟨rfl, rfl⟩
theorem ev_X9_wrong1 (h : ¬ I 119 6 = 0) (x y : Int32) : pd_Ev G mi_X9_wrong 1 0 0 [.ref (pd_z G + 119), .int x, .int y] (SD, false, I, L, R) (pd_rv (SD, false, I, L, R)) := by
  refine pd_ev 0 (lo := [some (.ref (pd_z G + 119)), some (.int x), some (.int y)]) (by decide +kernel) (Nat.le_of_ble_eq_true rfl) rfl ?_
  refine at_aload_n dX9_wrong_0 rfl ?_
  refine at_geti flX9_64 rfl sd_119 dX9_wrong_1 ?_
  refine at_ifne (tgt := 17) dX9_wrong_4 (by decide) (fun c4 => ?_) (fun c4 => ?_)
  · -- taken 4
    refine at_vret rfl dX9_wrong_17 ?_
    exact ⟨rfl, rfl⟩
  · -- not taken 4
    exact absurd c4 h
theorem ev_X9_bad0 (hR : RS R) (h : I 119 0 = 0) (x y : Int32) : pd_Ev G mi_X9_bad 1 0 0 [.ref (pd_z G + 119), .int 0, .int x, .int y] (SD, false, I, L, R) (pd_rt (.int 0) (SD, false, I, L, R)) := by
  refine pd_ev 0 (lo := [some (.ref (pd_z G + 119)), some (.int 0), some (.int x), some (.int y)]) (by decide +kernel) (Nat.le_of_ble_eq_true rfl) rfl ?_
  refine at_iload_n dX9_bad_0 rfl ?_
  refine at_ifeq (tgt := 26) dX9_bad_1 (by decide) (fun c1 => ?_) (fun c1 => ?_)
  · -- taken 1
    refine at_aload_n dX9_bad_26 rfl ?_
    refine at_geti flX9_48 rfl sd_119 dX9_bad_27 ?_
    refine at_ifeq (tgt := 37) dX9_bad_30 (by decide) (fun c30 => ?_) (fun c30 => ?_)
    · -- taken 30
      refine at_iconst dX9_bad_37 pc_i0 ?_
      refine at_zret rfl dX9_bad_38 (by first | exact Or.inl rfl | exact Or.inr rfl | assumption) ?_
      exact ⟨rfl, rfl⟩
    · -- not taken 30
      exact absurd h c30
  · -- not taken 1
    exact absurd rfl c1
/-- what a refusal leaves -/
def m_no (I : Nat → Nat → Int32) (c y : Nat) : Nat → Nat → Int32 := pd_up (pd_up I 119 0 (nI c)) 120 y (I 120 y + 1)
theorem ev_X9_bad1 (hR : RS R) (h : I 119 0 = 0) {c y : Nat} (hc : 1 ≤ c ∧ c < 4) (hy : y < 3) : pd_Ev G mi_X9_bad 1 0 0 [.ref (pd_z G + 119), .int 1, .int (nI c), .int (nI y)] (SD, false, I, L, R) (pd_rt (.int 1) (SD, false, m_no I c y, L, R)) := by
  have hin : vp_in (nI y) 3 := vp_in_nI hy (by decide)
  have hcl : (nI y).toNatClampNeg = y := nI_clamp (by omega)
  have hc0 : ¬ nI c = 0 := nI_ne0 (by omega) (by omega)
  refine pd_ev 0 (lo := [some (.ref (pd_z G + 119)), some (.int 1), some (.int (nI c)), some (.int (nI y))]) (by decide +kernel) (Nat.le_of_ble_eq_true rfl) rfl ?_
  refine at_iload_n dX9_bad_0 rfl ?_
  refine at_ifeq (tgt := 26) dX9_bad_1 (by decide) (fun c1 => ?_) (fun c1 => ?_)
  · -- taken 1
    exact absurd c1 (by decide)
  · -- not taken 1
    refine at_aload_n dX9_bad_4 rfl ?_
    refine at_geti flX9_48 rfl sd_119 dX9_bad_5 ?_
    refine at_ifne (tgt := 26) dX9_bad_8 (by decide) (fun c8 => ?_) (fun c8 => ?_)
    · -- taken 8
      exact absurd h c8
    · -- not taken 8
      refine at_aload_n dX9_bad_11 rfl ?_
      refine at_iload_n dX9_bad_12 rfl ?_
      refine at_puti flX9_48 rfl sd_119 (fun _ _ _ hq => by cases hq; rfl) dX9_bad_13 ?_
      refine at_aload_n dX9_bad_16 rfl ?_
      refine at_getr (120) flX9_9 rfl sd_119 (rs_119_1 hR) dX9_bad_17 ?_
      refine at_iload_n dX9_bad_20 rfl ?_
      refine at_dup2 dX9_bad_21 rfl rfl ?_
      refine at_iald sd_120 (hin) dX9_bad_22 ?_
      rw [hcl, pd_up_nb (by decide)]
      refine at_iconst dX9_bad_23 pc_i1 ?_
      refine at_iadd dX9_bad_24 ?_
      refine at_iast sd_120 (hin) dX9_bad_25 ?_
      rw [hcl]
      refine at_aload_n dX9_bad_26 rfl ?_
      refine at_geti flX9_48 rfl sd_119 dX9_bad_27 ?_
      refine at_ifeq (tgt := 37) dX9_bad_30 (by decide) (fun c30 => ?_) (fun c30 => ?_)
      · -- taken 30
        exact absurd (by simp [pd_up] at c30; exact c30) hc0
      · -- not taken 30
        refine at_iconst dX9_bad_33 pc_i1 ?_
        refine at_goto (tgt := 38) dX9_bad_34 (by decide) ?_
        refine at_zret rfl dX9_bad_38 (by first | exact Or.inl rfl | exact Or.inr rfl | assumption) ?_
        exact ⟨rfl, rfl⟩
theorem lp_X9_copies {a b : Nat} (ha : SD[a]? = some (9, 1105)) (hb : SD[b]? = some (9, 1105)) (hab : a ≠ b) : ∀ k i, i + k = 1105 → pd_At G mi_X9_copies 1 0 0 0 0 2 [some (.ref (pd_z G + a)), some (.ref (pd_z G + b)), some (.int (nI i))] [] (SD, false, pd_fw I b (I a) i, L, R) (pd_rv (SD, false, pd_fw I b (I a) 1105, L, R)) := by
  intro k
  induction k with
  | zero =>
    intro i hi
    have e : i = 1105 := by omega
    subst e
    refine at_iload_n dX9_copies_2 rfl ?_
    refine at_sipush dX9_copies_3 pc_s1105 ?_
    refine at_icmpge (tgt := 21) dX9_copies_6 (by decide) (fun c6 => ?_) (fun c6 => ?_)
    · -- taken 6
      refine at_vret rfl dX9_copies_21 ?_
      exact ⟨rfl, rfl⟩
    · -- not taken 6
      exact absurd (nI_le (a := 1105) (Nat.le_refl _) (by decide)) c6
  | succ k ih =>
    intro i hi
    have hin : vp_in (nI i) 1105 := vp_in_nI (by omega) (by decide)
    have hcl : (nI i).toNatClampNeg = i := nI_clamp (by omega)
    refine at_iload_n dX9_copies_2 rfl ?_
    refine at_sipush dX9_copies_3 pc_s1105 ?_
    refine at_icmpge (tgt := 21) dX9_copies_6 (by decide) (fun c6 => ?_) (fun c6 => ?_)
    · -- taken 6
      exact absurd c6 (nI_ge (b := 1105) (by omega) (by decide))
    · -- not taken 6
      refine at_aload_n dX9_copies_9 rfl ?_
      refine at_iload_n dX9_copies_10 rfl ?_
      refine at_aload_n dX9_copies_11 rfl ?_
      refine at_iload_n dX9_copies_12 rfl ?_
      refine at_iald ha (hin) dX9_copies_13 ?_
      rw [hcl, pd_fw_nb hab]
      refine at_iast hb (hin) dX9_copies_14 ?_
      refine at_inc dX9_copies_15 rfl pc_i1 rfl (Nat.le_of_ble_eq_true rfl) ?_
      refine at_goto (tgt := 2) dX9_copies_18 (by decide) ?_
      rw [nI_1, hcl, pd_fw_up]; exact ih (i + 1) (by omega)
theorem ev_X9_copies {a b : Nat} (ha : SD[a]? = some (9, 1105)) (hb : SD[b]? = some (9, 1105)) (hab : a ≠ b) : pd_Ev G mi_X9_copies 1 0 0 [.ref (pd_z G + a), .ref (pd_z G + b)] (SD, false, I, L, R) (pd_rv (SD, false, pd_fw I b (I a) 1105, L, R)) := by
  refine pd_ev 1 (lo := [some (.ref (pd_z G + a)), some (.ref (pd_z G + b)), none]) (by decide +kernel) (Nat.le_of_ble_eq_true rfl) rfl ?_
  refine at_iconst dX9_copies_0 pc_i0 ?_
  refine at_istore_n dX9_copies_1 rfl (Nat.le_of_ble_eq_true rfl) ?_
  have h := lp_X9_copies (G := G) (I := I) (L := L) (R := R) ha hb hab 1105 0 (by omega)
  rw [pd_fw_0] at h
  exact h
theorem begins_eq {c : Nat} : pd_up (pd_up (pd_up (pd_up (pd_fw I c (fun _ => 0) 1105) c 3 1) c 5 999) c 6 100) c 7 50 = pd_fw I c r00 1105 := by
  funext b j
  unfold pd_up pd_fw r00
  by_cases hb : b = c
  · subst hb
    by_cases h3 : j = 3
    · subst h3; simp
    · by_cases h5 : j = 5
      · subst h5; simp
      · by_cases h6 : j = 6
        · subst h6; simp
        · by_cases h7 : j = 7
          · subst h7; simp
          · simp [h3, h5, h6, h7]
  · simp [hb]
theorem lp_X9_begins {c : Nat} (hc : SD[c]? = some (9, 1105)) : ∀ k i, i + k = 1105 → pd_At G mi_X9_begins 1 0 0 0 0 2 [some (.ref (pd_z G + c)), some (.int (nI i))] [] (SD, false, pd_fw I c (fun _ => 0) i, L, R) (pd_rv (SD, false, pd_fw I c r00 1105, L, R)) := by
  intro k
  induction k with
  | zero =>
    intro i hi
    have e : i = 1105 := by omega
    subst e
    refine at_iload_n dX9_begins_2 rfl ?_
    refine at_sipush dX9_begins_3 pc_s1105 ?_
    refine at_icmpge (tgt := 19) dX9_begins_6 (by decide) (fun c6 => ?_) (fun c6 => ?_)
    · -- taken 6
      refine at_aload_n dX9_begins_19 rfl ?_
      refine at_iconst dX9_begins_20 pc_i3 ?_
      refine at_iconst dX9_begins_21 pc_i1 ?_
      refine at_iast hc (vp_in_nI (n := 3) (by decide) (by decide)) dX9_begins_22 ?_
      refine at_aload_n dX9_begins_23 rfl ?_
      refine at_iconst dX9_begins_24 pc_i5 ?_
      refine at_sipush dX9_begins_25 pc_s999 ?_
      refine at_iast hc (vp_in_nI (n := 5) (by decide) (by decide)) dX9_begins_28 ?_
      refine at_aload_n dX9_begins_29 rfl ?_
      refine at_bipush dX9_begins_30 pc_b6 ?_
      refine at_bipush dX9_begins_32 pc_b100 ?_
      refine at_iast hc (vp_in_nI (n := 6) (by decide) (by decide)) dX9_begins_34 ?_
      refine at_aload_n dX9_begins_35 rfl ?_
      refine at_bipush dX9_begins_36 pc_b7 ?_
      refine at_bipush dX9_begins_38 pc_b50 ?_
      refine at_iast hc (vp_in_nI (n := 7) (by decide) (by decide)) dX9_begins_40 ?_
      refine at_vret rfl dX9_begins_41 ?_
      refine ⟨rfl, ?_⟩
      rw [← begins_eq]
      rfl
    · -- not taken 6
      exact absurd (nI_le (a := 1105) (Nat.le_refl _) (by decide)) c6
  | succ k ih =>
    intro i hi
    have hin : vp_in (nI i) 1105 := vp_in_nI (by omega) (by decide)
    have hcl : (nI i).toNatClampNeg = i := nI_clamp (by omega)
    refine at_iload_n dX9_begins_2 rfl ?_
    refine at_sipush dX9_begins_3 pc_s1105 ?_
    refine at_icmpge (tgt := 19) dX9_begins_6 (by decide) (fun c6 => ?_) (fun c6 => ?_)
    · -- taken 6
      exact absurd c6 (nI_ge (b := 1105) (by omega) (by decide))
    · -- not taken 6
      refine at_aload_n dX9_begins_9 rfl ?_
      refine at_iload_n dX9_begins_10 rfl ?_
      refine at_iconst dX9_begins_11 pc_i0 ?_
      refine at_iast hc (hin) dX9_begins_12 ?_
      refine at_inc dX9_begins_13 rfl pc_i1 rfl (Nat.le_of_ble_eq_true rfl) ?_
      refine at_goto (tgt := 2) dX9_begins_16 (by decide) ?_
      rw [nI_1, hcl, pd_fw_up (f := fun _ => 0)]; exact ih (i + 1) (by omega)
theorem ev_X9_begins {c : Nat} (hc : SD[c]? = some (9, 1105)) : pd_Ev G mi_X9_begins 1 0 0 [.ref (pd_z G + c)] (SD, false, I, L, R) (pd_rv (SD, false, pd_fw I c r00 1105, L, R)) := by
  refine pd_ev 1 (lo := [some (.ref (pd_z G + c)), none]) (by decide +kernel) (Nat.le_of_ble_eq_true rfl) rfl ?_
  refine at_iconst dX9_begins_0 pc_i0 ?_
  refine at_istore_n dX9_begins_1 rfl (Nat.le_of_ble_eq_true rfl) ?_
  have h := lp_X9_begins (G := G) (I := I) (L := L) (R := R) hc 1105 0 (by omega)
  rw [pd_fw_0] at h
  exact h
theorem lp_X9_voterOf {c n : Nat} {r : Nat → Int32} (hc : SD[c]? = some (9, 1105)) (hq : RQ I c r) (hn : r 0 = nI n) (h16 : n ≤ 16) (name street : Int32) : ∀ (k i : Nat), i + k = n → pd_At G mi_X9_voterOf 2 0 0 0 0 2 [some (.ref (pd_z G + c)), some (.int name), some (.int street), some (.int (nI i))] [] (SD, false, I, L, R) (pd_rt (.int (if pfirst (fun v => !(decide (r (9 + 3 * v) = name) && decide (r (10 + 3 * v) = street))) k i < n then nI (pfirst (fun v => !(decide (r (9 + 3 * v) = name) && decide (r (10 + 3 * v) = street))) k i) else -1)) (SD, false, I, L, R)) := by
  have h0 : I c (0 : Int32).toNatClampNeg = nI n := (hq 0 (by decide)).trans hn
  intro k
  induction k with
  | zero =>
    intro i hi
    refine at_iload_n dX9_voterOf_2 rfl ?_
    refine at_aload_n dX9_voterOf_3 rfl ?_
    refine at_iconst dX9_voterOf_4 pc_i0 ?_
    refine at_iald hc (vp_in_nI (n := 0) (by decide) (by decide)) dX9_voterOf_5 ?_
    rw [h0]
    refine at_icmpge (tgt := 39) dX9_voterOf_6 (by decide) (fun c6 => ?_) (fun c6 => ?_)
    · -- taken 6
      refine at_iconst dX9_voterOf_39 pc_im1 ?_
      refine at_iret rfl dX9_voterOf_40 ?_
      exact ⟨by rw [pfirst, if_neg (by omega)], rfl⟩
    · -- not taken 6
      exact absurd (nI_le (by omega) (by omega)) c6
  | succ k ih =>
    intro i hi
    refine at_iload_n dX9_voterOf_2 rfl ?_
    refine at_aload_n dX9_voterOf_3 rfl ?_
    refine at_iconst dX9_voterOf_4 pc_i0 ?_
    refine at_iald hc (vp_in_nI (n := 0) (by decide) (by decide)) dX9_voterOf_5 ?_
    rw [h0]
    refine at_icmpge (tgt := 39) dX9_voterOf_6 (by decide) (fun c6 => ?_) (fun c6 => ?_)
    · -- taken 6
      exact absurd c6 (nI_ge (by omega) (by omega))
    · -- not taken 6
      refine at_aload_n dX9_voterOf_9 rfl ?_
      refine at_iload_n dX9_voterOf_10 rfl ?_
      refine at_iconst dX9_voterOf_11 pc_i0 ?_
      refine at_cs2 csX9_111 (ev_X9_voterAt i 0 (9 + 3 * i) (by omega)) (by decide) ⟨Nat.le_refl _, Nat.le_refl _⟩ (Nat.le_of_ble_eq_true rfl) dX9_voterOf_12 (pd_k1 ?_)
      refine at_iald hc (vp_in_nI (by omega) (by decide)) dX9_voterOf_15 ?_
      rw [nI_clamp (by omega), hq _ (by omega)]
      refine at_iload_n dX9_voterOf_16 rfl ?_
      refine at_icmpne (tgt := 33) dX9_voterOf_17 (by decide) (fun c17 => ?_) (fun c17 => ?_)
      · -- taken 17
        refine at_inc dX9_voterOf_33 rfl pc_i1 rfl (Nat.le_of_ble_eq_true rfl) ?_
        refine at_goto (tgt := 2) dX9_voterOf_36 (by decide) ?_
        rw [nI_1]; have e := ih (i + 1) (by omega)
        rw [pfirst_yes (by first | (simp [c17]; done) | (simp [c28]; done))]; exact e
      · -- not taken 17
        refine at_aload_n dX9_voterOf_20 rfl ?_
        refine at_iload_n dX9_voterOf_21 rfl ?_
        refine at_iconst dX9_voterOf_22 pc_i1 ?_
        refine at_cs2 csX9_111 (ev_X9_voterAt i 1 (10 + 3 * i) (by omega)) (by decide) ⟨Nat.le_refl _, Nat.le_refl _⟩ (Nat.le_of_ble_eq_true rfl) dX9_voterOf_23 (pd_k1 ?_)
        refine at_iald hc (vp_in_nI (by omega) (by decide)) dX9_voterOf_26 ?_
        rw [nI_clamp (by omega), hq _ (by omega)]
        refine at_iload_n dX9_voterOf_27 rfl ?_
        refine at_icmpne (tgt := 33) dX9_voterOf_28 (by decide) (fun c28 => ?_) (fun c28 => ?_)
        · -- taken 28
          refine at_inc dX9_voterOf_33 rfl pc_i1 rfl (Nat.le_of_ble_eq_true rfl) ?_
          refine at_goto (tgt := 2) dX9_voterOf_36 (by decide) ?_
          rw [nI_1]; have e := ih (i + 1) (by omega)
          rw [pfirst_yes (by first | (simp [c17]; done) | (simp [c28]; done))]; exact e
        · -- not taken 28
          refine at_iload_n dX9_voterOf_31 rfl ?_
          refine at_iret rfl dX9_voterOf_32 ?_
          exact ⟨by rw [pfirst_no (by simp [c17, c28]), if_pos (by omega)], rfl⟩
theorem ev_X9_voterOf {c n : Nat} {r : Nat → Int32} (hc : SD[c]? = some (9, 1105)) (hq : RQ I c r) (hn : r 0 = nI n) (h16 : n ≤ 16) (name street : Int32) : pd_Ev G mi_X9_voterOf 2 0 0 [.ref (pd_z G + c), .int name, .int street] (SD, false, I, L, R) (pd_rt (.int (i_find (fun v => decide (r (9 + 3 * v) = name) && decide (r (10 + 3 * v) = street)) n)) (SD, false, I, L, R)) := by
  refine pd_ev 1 (lo := [some (.ref (pd_z G + c)), some (.int name), some (.int street), none]) (by decide +kernel) (Nat.le_of_ble_eq_true rfl) rfl ?_
  refine at_iconst dX9_voterOf_0 pc_i0 ?_
  refine at_istore_n dX9_voterOf_1 rfl (Nat.le_of_ble_eq_true rfl) ?_
  exact lp_X9_voterOf hc hq hn h16 name street n 0 (by omega)
theorem ev_X9_lines (hR : RS R) {r : Nat → Int32} (hq : RQ I 122 r) {n : Nat} (hn : r 2 = nI n) : pd_Ev G mi_X9_lines 1 0 0 [.ref (pd_z G + 119)] (SD, false, I, L, R) (pd_rt (.int (nI n)) (SD, false, I, L, R)) := by
  refine pd_ev 0 (lo := [some (.ref (pd_z G + 119))]) (by decide +kernel) (Nat.le_of_ble_eq_true rfl) rfl ?_
  refine at_aload_n dX9_lines_0 rfl ?_
  refine at_getr (122) flX9_20 rfl sd_119 (rs_119_9 hR) dX9_lines_1 ?_
  refine at_iconst dX9_lines_4 pc_i2 ?_
  refine at_iald sd_122 (vp_in_nI (n := 2) (by decide) (by decide)) dX9_lines_5 ?_
  refine at_iret rfl dX9_lines_6 ?_
  exact ⟨by rw [show I 122 (2 : Int32).toNatClampNeg = nI n from (hq 2 (by decide)).trans hn], rfl⟩
end REF
