/-! ===== Rule.holds ===== -/
theorem rl_32_pos {q : rl_S} (h : q.1 < 3) (ha : q.2.1 < 1006) (hb : q.2.2 < 1006) : ¬ rl_32 q = -1 ∧ ¬ rl_32 q = -2 ∧ ¬ rl_32 q = -3 := by
  have e : rl_32 q = nI (q.1 * 4194304 + q.2.1 * 2048 + q.2.2) := by rw [rl_32, if_pos h]
  have hp : ¬ rl_32 q < 0 := by rw [e]; exact nI_pos (by omega)
  refine ⟨fun z => hp ?_, fun z => hp ?_, fun z => hp ?_⟩ <;> rw [z] <;> decide
theorem rl_push1 {s : List Bool} (h : s.length ≤ 31) : lN (rl_n s) <<< ((1 : Int32).toInt64 &&& 63) ||| (1 : Int32).toInt64 = lN (rl_n (true :: s)) := (congrArg (fun z => lN (rl_n s) <<< ((1 : Int32).toInt64 &&& 63) ||| z) (show (1 : Int32).toInt64 = lN (if true then 1 else 0) by decide)).trans (rl_push h)
theorem rl_push0 {s : List Bool} (h : s.length ≤ 31) : lN (rl_n s) <<< ((1 : Int32).toInt64 &&& 63) ||| (0 : Int32).toInt64 = lN (rl_n (false :: s)) := (congrArg (fun z => lN (rl_n s) <<< ((1 : Int32).toInt64 &&& 63) ||| z) (show (0 : Int32).toInt64 = lN (if false then 1 else 0) by decide)).trans (rl_push h)
theorem lp_X4_holds {G : pd_G} {I L R} {c n : Nat} (hR : RS R) (hc : PB c) (hn : I (c + 8) 1 = nI n) (h6 : n ≤ 600) : ∀ (e : List rl_S) (i : Nat) (s : List Bool), i + e.length = n → (∀ j q, e[j]? = some q → I (c + 9) (i + j) = rl_32 q) → rl_ok e s.length → s.length ≤ 30 →
    pd_At G mi_X4_holds 3 0 0 0 0 14 [some (.ref (pd_z G + (c + 8))), some (.ref (pd_z G + 23)), some (.long (lN (rl_n s))), none, some (.int (nI i)), none] [] (SD, false, I, L, R) (pd_rt (.int (i_of ((rl_ev (I 23) e s).headD false))) (SD, false, I, L, R)) := by
  intro e
  induction e with
  | nil =>
    intro i s hi hst hok hs
    match s, hok with
    | [b], _ =>
      have hb : lN (if b = true then 1 else 0) = (1 : Int64) ↔ b = true := by cases b <;> decide
      refine at_iload dX4_holds_14 rfl ?_
      refine at_aload_n dX4_holds_16 rfl ?_
      refine at_geti flX4_15 rfl (sd_P8 hc) dX4_holds_17 ?_
      refine at_icmpge (tgt := 119) dX4_holds_20 (by decide) (fun c20 => ?_) (fun c20 => ?_)
      · -- taken 20
        refine at_lload_n dX4_holds_119 rfl ?_
        refine at_lconst dX4_holds_120 pc_l1 ?_
        refine at_land dX4_holds_121 ?_
        refine at_lconst dX4_holds_122 pc_l1 ?_
        rw [rl_lo]
        refine at_lcmp dX4_holds_123 ?_
        refine at_ifne (tgt := 131) dX4_holds_124 (by decide) (fun c124 => ?_) (fun c124 => ?_)
        · -- taken 124
          rw [lg_cmp_eq, hb] at c124
          refine at_iconst dX4_holds_131 pc_i0 ?_
          refine at_zret rfl dX4_holds_132 (by first | exact Or.inl rfl | exact Or.inr rfl | assumption) ?_
          first | exact ⟨by simp [rl_ev, i_of, c124], rfl⟩
        · -- not taken 124
          rw [lg_cmp_eq, hb] at c124
          refine at_iconst dX4_holds_127 pc_i1 ?_
          refine at_goto (tgt := 132) dX4_holds_128 (by decide) ?_
          refine at_zret rfl dX4_holds_132 (by first | exact Or.inl rfl | exact Or.inr rfl | assumption) ?_
          first | exact ⟨by simp [rl_ev, i_of, c124], rfl⟩
      · -- not taken 20
        exact absurd (by rw [hn]; exact nI_le (by simp at hi; omega) (by omega)) c20
  | cons q e ih =>
    intro i s hi hst hok hs
    simp only [List.length_cons] at hi
    obtain ⟨hq6, hok⟩ := hok
    have h0 : I (c + 9) i = rl_32 q := hst 0 q rfl
    have hst' : ∀ j q, e[j]? = some q → I (c + 9) (i + 1 + j) = rl_32 q := fun j q hj => by rw [show i + 1 + j = i + (j + 1) by omega]; exact hst (j + 1) q hj
    have hlt : ¬ I (c + 8) 1 ≤ nI i := by rw [hn]; exact nI_ge (by omega) (by omega)
    have hl6 : ¬ (600 : Int32) ≤ nI i := nI_ge (b := 600) (by omega) (by decide)
    have hcl : (nI i).toNatClampNeg = i := nI_clamp (by omega)
    by_cases h3 : q.1 < 3
    · rw [if_pos h3] at hok
      obtain ⟨n1, n2, n3⟩ := rl_32_pos h3 hok.1 hok.2.1
      have hgo := fun b => ih (i + 1) (b :: s) (by omega) hst' (by simpa using hok.2.2.2) (by simp; omega)
      have hev : rl_ev (I 23) (q :: e) s = rl_ev (I 23) e (rl_c (I 23) q :: s) := by rw [rl_ev]; simp [rl_st, h3]
      refine at_iload dX4_holds_14 rfl ?_
      refine at_aload_n dX4_holds_16 rfl ?_
      refine at_geti flX4_15 rfl (sd_P8 hc) dX4_holds_17 ?_
      refine at_icmpge (tgt := 119) dX4_holds_20 (by decide) (fun c20 => ?_) (fun c20 => ?_)
      · -- taken 20
        exact absurd c20 hlt
      · -- not taken 20
        refine at_iload dX4_holds_23 rfl ?_
        refine at_sipush dX4_holds_25 pc_s600 ?_
        refine at_icmpge (tgt := 119) dX4_holds_28 (by decide) (fun c28 => ?_) (fun c28 => ?_)
        · -- taken 28
          exact absurd c28 hl6
        · -- not taken 28
          refine at_aload_n dX4_holds_31 rfl ?_
          refine at_getr (c + 9) flX4_9 rfl (sd_P8 hc) (rs_Q0 hR hc) dX4_holds_32 ?_
          refine at_iload dX4_holds_35 rfl ?_
          refine at_iald (sd_P9 hc) (vp_in_nI (by omega) (by decide)) dX4_holds_37 ?_
          rw [hcl, h0]
          refine at_istore dX4_holds_38 rfl (Nat.le_of_ble_eq_true rfl) ?_
          refine at_iload dX4_holds_40 rfl ?_
          refine at_iconst dX4_holds_42 pc_im1 ?_
          refine at_icmpne (tgt := 53) dX4_holds_43 (by decide) (fun c43 => ?_) (fun c43 => ?_)
          · -- taken 43
            refine at_iload dX4_holds_53 rfl ?_
            refine at_bipush dX4_holds_55 pc_bm2 ?_
            refine at_icmpne (tgt := 75) dX4_holds_57 (by decide) (fun c57 => ?_) (fun c57 => ?_)
            · -- taken 57
              refine at_iload dX4_holds_75 rfl ?_
              refine at_bipush dX4_holds_77 pc_bm3 ?_
              refine at_icmpne (tgt := 93) dX4_holds_79 (by decide) (fun c79 => ?_) (fun c79 => ?_)
              · -- taken 79
                refine at_lload_n dX4_holds_93 rfl ?_
                refine at_iconst dX4_holds_94 pc_i1 ?_
                refine at_lshl dX4_holds_95 ?_
                refine at_iload dX4_holds_96 rfl ?_
                refine at_aload_n dX4_holds_98 rfl ?_
                refine at_cs2 csX4_31 (ev_X4_compares h3 (by omega) (by omega)) (by decide) ⟨Nat.le_refl _, Nat.le_refl _⟩ (Nat.le_of_ble_eq_true rfl) dX4_holds_99 (pd_k1 ?_)
                refine at_ifeq (tgt := 109) dX4_holds_102 (by decide) (fun c102 => ?_) (fun c102 => ?_)
                · -- taken 102
                  have e1 : rl_c (I 23) q = false := by simpa [i_of] using c102
                  refine at_iconst dX4_holds_109 pc_i0 ?_
                  refine at_i2l dX4_holds_110 ?_
                  refine at_lor dX4_holds_111 ?_
                  refine at_lstore_n dX4_holds_112 rfl (Nat.le_of_ble_eq_true rfl) ?_
                  refine at_inc dX4_holds_113 rfl pc_i1 rfl (Nat.le_of_ble_eq_true rfl) ?_
                  refine at_goto (tgt := 14) dX4_holds_116 (by decide) ?_
                  refine at_drop 5 ?_
                  rw [nI_1, hev, e1]
                  first | (rw [rl_push1 (by omega)]; exact hgo true) | (rw [rl_push0 (by omega)]; exact hgo false)
                · -- not taken 102
                  have e1 : rl_c (I 23) q = true := by simpa [i_of] using c102
                  refine at_iconst dX4_holds_105 pc_i1 ?_
                  refine at_goto (tgt := 110) dX4_holds_106 (by decide) ?_
                  refine at_i2l dX4_holds_110 ?_
                  refine at_lor dX4_holds_111 ?_
                  refine at_lstore_n dX4_holds_112 rfl (Nat.le_of_ble_eq_true rfl) ?_
                  refine at_inc dX4_holds_113 rfl pc_i1 rfl (Nat.le_of_ble_eq_true rfl) ?_
                  refine at_goto (tgt := 14) dX4_holds_116 (by decide) ?_
                  refine at_drop 5 ?_
                  rw [nI_1, hev, e1]
                  first | (rw [rl_push1 (by omega)]; exact hgo true) | (rw [rl_push0 (by omega)]; exact hgo false)
              · -- not taken 79
                exact absurd c79 n3
            · -- not taken 57
              exact absurd c57 n2
          · -- not taken 43
            exact absurd c43 n1
    · rw [if_neg h3] at hok
      rcases (show q.1 = 3 ∨ q.1 = 4 ∨ q.1 = 5 by omega) with h4 | h4 | h4
      · rw [if_pos h4] at hok
        have e32 : rl_32 q = -1 := by rw [rl_32, if_neg h3, if_pos h4]
        match s, hok with
        | b :: s, hok =>
          have hgo := ih (i + 1) ((!b) :: s) (by omega) hst' (by simpa using hok.2) (by simpa using hs)
          have hev : rl_ev (I 23) (q :: e) (b :: s) = rl_ev (I 23) e ((!b) :: s) := by rw [rl_ev]; simp [rl_st, h4]
          refine at_iload dX4_holds_14 rfl ?_
          refine at_aload_n dX4_holds_16 rfl ?_
          refine at_geti flX4_15 rfl (sd_P8 hc) dX4_holds_17 ?_
          refine at_icmpge (tgt := 119) dX4_holds_20 (by decide) (fun c20 => ?_) (fun c20 => ?_)
          · -- taken 20
            exact absurd c20 hlt
          · -- not taken 20
            refine at_iload dX4_holds_23 rfl ?_
            refine at_sipush dX4_holds_25 pc_s600 ?_
            refine at_icmpge (tgt := 119) dX4_holds_28 (by decide) (fun c28 => ?_) (fun c28 => ?_)
            · -- taken 28
              exact absurd c28 hl6
            · -- not taken 28
              refine at_aload_n dX4_holds_31 rfl ?_
              refine at_getr (c + 9) flX4_9 rfl (sd_P8 hc) (rs_Q0 hR hc) dX4_holds_32 ?_
              refine at_iload dX4_holds_35 rfl ?_
              refine at_iald (sd_P9 hc) (vp_in_nI (by omega) (by decide)) dX4_holds_37 ?_
              rw [hcl, h0]
              refine at_istore dX4_holds_38 rfl (Nat.le_of_ble_eq_true rfl) ?_
              refine at_iload dX4_holds_40 rfl ?_
              refine at_iconst dX4_holds_42 pc_im1 ?_
              refine at_icmpne (tgt := 53) dX4_holds_43 (by decide) (fun c43 => ?_) (fun c43 => ?_)
              · -- taken 43
                exact absurd e32 c43
              · -- not taken 43
                refine at_lload_n dX4_holds_46 rfl ?_
                refine at_lconst dX4_holds_47 pc_l1 ?_
                refine at_lxor dX4_holds_48 ?_
                refine at_lstore_n dX4_holds_49 rfl (Nat.le_of_ble_eq_true rfl) ?_
                refine at_goto (tgt := 113) dX4_holds_50 (by decide) ?_
                refine at_inc dX4_holds_113 rfl pc_i1 rfl (Nat.le_of_ble_eq_true rfl) ?_
                refine at_goto (tgt := 14) dX4_holds_116 (by decide) ?_
                refine at_drop 5 ?_
                rw [nI_1, hev, rl_not]
                exact hgo
      · rw [if_neg (by omega)] at hok
        have e32 : rl_32 q = -2 := by rw [rl_32, if_neg h3, if_neg (by omega), if_pos h4]
        match s, hok with
        | b :: a :: s, hok =>
          have hgo := ih (i + 1) ((a && b) :: s) (by omega) hst' (by simpa using hok.2) (by simp at hs ⊢; omega)
          have hev : rl_ev (I 23) (q :: e) (b :: a :: s) = rl_ev (I 23) e ((a && b) :: s) := by rw [rl_ev]; simp [rl_st, h4]
          refine at_iload dX4_holds_14 rfl ?_
          refine at_aload_n dX4_holds_16 rfl ?_
          refine at_geti flX4_15 rfl (sd_P8 hc) dX4_holds_17 ?_
          refine at_icmpge (tgt := 119) dX4_holds_20 (by decide) (fun c20 => ?_) (fun c20 => ?_)
          · -- taken 20
            exact absurd c20 hlt
          · -- not taken 20
            refine at_iload dX4_holds_23 rfl ?_
            refine at_sipush dX4_holds_25 pc_s600 ?_
            refine at_icmpge (tgt := 119) dX4_holds_28 (by decide) (fun c28 => ?_) (fun c28 => ?_)
            · -- taken 28
              exact absurd c28 hl6
            · -- not taken 28
              refine at_aload_n dX4_holds_31 rfl ?_
              refine at_getr (c + 9) flX4_9 rfl (sd_P8 hc) (rs_Q0 hR hc) dX4_holds_32 ?_
              refine at_iload dX4_holds_35 rfl ?_
              refine at_iald (sd_P9 hc) (vp_in_nI (by omega) (by decide)) dX4_holds_37 ?_
              rw [hcl, h0]
              refine at_istore dX4_holds_38 rfl (Nat.le_of_ble_eq_true rfl) ?_
              refine at_iload dX4_holds_40 rfl ?_
              refine at_iconst dX4_holds_42 pc_im1 ?_
              refine at_icmpne (tgt := 53) dX4_holds_43 (by decide) (fun c43 => ?_) (fun c43 => ?_)
              · -- taken 43
                refine at_iload dX4_holds_53 rfl ?_
                refine at_bipush dX4_holds_55 pc_bm2 ?_
                refine at_icmpne (tgt := 75) dX4_holds_57 (by decide) (fun c57 => ?_) (fun c57 => ?_)
                · -- taken 57
                  exact absurd e32 c57
                · -- not taken 57
                  refine at_lload_n dX4_holds_60 rfl ?_
                  refine at_iconst dX4_holds_61 pc_i1 ?_
                  refine at_lushr dX4_holds_62 ?_
                  refine at_lload_n dX4_holds_63 rfl ?_
                  refine at_lconst dX4_holds_64 pc_l1 ?_
                  refine at_land dX4_holds_65 ?_
                  refine at_ldc2 coX4_29 dX4_holds_66 ?_
                  refine at_lor dX4_holds_69 ?_
                  refine at_land dX4_holds_70 ?_
                  refine at_lstore_n dX4_holds_71 rfl (Nat.le_of_ble_eq_true rfl) ?_
                  refine at_goto (tgt := 113) dX4_holds_72 (by decide) ?_
                  refine at_inc dX4_holds_113 rfl pc_i1 rfl (Nat.le_of_ble_eq_true rfl) ?_
                  refine at_goto (tgt := 14) dX4_holds_116 (by decide) ?_
                  refine at_drop 5 ?_
                  rw [nI_1, hev, rl_shr (by omega), rl_lo, rl_and]
                  exact hgo
              · -- not taken 43
                exact absurd c43 (by rw [e32]; decide)
        | [b], hok => exact absurd hok.1 (by simp)
        | [], hok => exact absurd hok.1 (by simp)
      · rw [if_neg (by omega)] at hok
        have e32 : rl_32 q = -3 := by rw [rl_32, if_neg h3, if_neg (by omega), if_neg (by omega)]
        match s, hok with
        | b :: a :: s, hok =>
          have hgo := ih (i + 1) ((a || b) :: s) (by omega) hst' (by simpa using hok.2) (by simp at hs ⊢; omega)
          have hev : rl_ev (I 23) (q :: e) (b :: a :: s) = rl_ev (I 23) e ((a || b) :: s) := by rw [rl_ev]; simp [rl_st, h4]
          refine at_iload dX4_holds_14 rfl ?_
          refine at_aload_n dX4_holds_16 rfl ?_
          refine at_geti flX4_15 rfl (sd_P8 hc) dX4_holds_17 ?_
          refine at_icmpge (tgt := 119) dX4_holds_20 (by decide) (fun c20 => ?_) (fun c20 => ?_)
          · -- taken 20
            exact absurd c20 hlt
          · -- not taken 20
            refine at_iload dX4_holds_23 rfl ?_
            refine at_sipush dX4_holds_25 pc_s600 ?_
            refine at_icmpge (tgt := 119) dX4_holds_28 (by decide) (fun c28 => ?_) (fun c28 => ?_)
            · -- taken 28
              exact absurd c28 hl6
            · -- not taken 28
              refine at_aload_n dX4_holds_31 rfl ?_
              refine at_getr (c + 9) flX4_9 rfl (sd_P8 hc) (rs_Q0 hR hc) dX4_holds_32 ?_
              refine at_iload dX4_holds_35 rfl ?_
              refine at_iald (sd_P9 hc) (vp_in_nI (by omega) (by decide)) dX4_holds_37 ?_
              rw [hcl, h0]
              refine at_istore dX4_holds_38 rfl (Nat.le_of_ble_eq_true rfl) ?_
              refine at_iload dX4_holds_40 rfl ?_
              refine at_iconst dX4_holds_42 pc_im1 ?_
              refine at_icmpne (tgt := 53) dX4_holds_43 (by decide) (fun c43 => ?_) (fun c43 => ?_)
              · -- taken 43
                refine at_iload dX4_holds_53 rfl ?_
                refine at_bipush dX4_holds_55 pc_bm2 ?_
                refine at_icmpne (tgt := 75) dX4_holds_57 (by decide) (fun c57 => ?_) (fun c57 => ?_)
                · -- taken 57
                  refine at_iload dX4_holds_75 rfl ?_
                  refine at_bipush dX4_holds_77 pc_bm3 ?_
                  refine at_icmpne (tgt := 93) dX4_holds_79 (by decide) (fun c79 => ?_) (fun c79 => ?_)
                  · -- taken 79
                    exact absurd e32 c79
                  · -- not taken 79
                    refine at_lload_n dX4_holds_82 rfl ?_
                    refine at_iconst dX4_holds_83 pc_i1 ?_
                    refine at_lushr dX4_holds_84 ?_
                    refine at_lload_n dX4_holds_85 rfl ?_
                    refine at_lconst dX4_holds_86 pc_l1 ?_
                    refine at_land dX4_holds_87 ?_
                    refine at_lor dX4_holds_88 ?_
                    refine at_lstore_n dX4_holds_89 rfl (Nat.le_of_ble_eq_true rfl) ?_
                    refine at_goto (tgt := 113) dX4_holds_90 (by decide) ?_
                    refine at_inc dX4_holds_113 rfl pc_i1 rfl (Nat.le_of_ble_eq_true rfl) ?_
                    refine at_goto (tgt := 14) dX4_holds_116 (by decide) ?_
                    refine at_drop 5 ?_
                    rw [nI_1, hev, rl_shr (by omega), rl_lo, rl_or]
                    exact hgo
                · -- not taken 57
                  exact absurd c57 (by rw [e32]; decide)
              · -- not taken 43
                exact absurd c43 (by rw [e32]; decide)
        | [b], hok => exact absurd hok.1 (by simp)
        | [], hok => exact absurd hok.1 (by simp)
theorem ev_X4_holds {G : pd_G} {I L R} {c : Nat} {e : List rl_S} (hR : RS R) (hc : PB c) (hn : I (c + 8) 1 = nI e.length) (h6 : e.length ≤ 600) (hst : ∀ j q, e[j]? = some q → I (c + 9) j = rl_32 q) (hok : e = [] ∨ rl_ok e 0) : pd_Ev G mi_X4_holds 3 0 0 [.ref (pd_z G + (c + 8)), .ref (pd_z G + 23)] (SD, false, I, L, R) (pd_rt (.int (i_of (rl_good (I 23) e))) (SD, false, I, L, R)) := by
  refine pd_ev 4 (lo := [some (.ref (pd_z G + (c + 8))), some (.ref (pd_z G + 23)), none, none, none, none]) (by decide +kernel) (Nat.le_of_ble_eq_true rfl) rfl ?_
  by_cases he : e = []
  · subst he
    refine at_aload_n dX4_holds_0 rfl ?_
    refine at_geti flX4_15 rfl (sd_P8 hc) dX4_holds_1 ?_
    refine at_ifne (tgt := 9) dX4_holds_4 (by decide) (fun c4 => ?_) (fun c4 => ?_)
    · -- taken 4
      exact absurd hn c4
    · -- not taken 4
      refine at_iconst dX4_holds_7 pc_i1 ?_
      refine at_zret rfl dX4_holds_8 (by first | exact Or.inl rfl | exact Or.inr rfl | assumption) ?_
      exact ⟨rfl, rfl⟩
  · have hl : 0 < e.length := List.length_pos_iff.mpr he
    refine at_aload_n dX4_holds_0 rfl ?_
    refine at_geti flX4_15 rfl (sd_P8 hc) dX4_holds_1 ?_
    refine at_ifne (tgt := 9) dX4_holds_4 (by decide) (fun c4 => ?_) (fun c4 => ?_)
    · -- taken 4
      refine at_lconst dX4_holds_9 pc_l0 ?_
      refine at_lstore_n dX4_holds_10 rfl (Nat.le_of_ble_eq_true rfl) ?_
      refine at_iconst dX4_holds_11 pc_i0 ?_
      refine at_istore dX4_holds_12 rfl (Nat.le_of_ble_eq_true rfl) ?_
      have h := lp_X4_holds (G := G) (L := L) hR hc hn h6 e 0 [] (by omega) (fun j q hj => by rw [Nat.zero_add]; exact hst j q hj) (hok.resolve_left he) (by simp)
      rw [rl_good, if_neg he]
      exact h
    · -- not taken 4
      exact absurd (hn.symm.trans c4) (nI_ne0 hl (by omega))
