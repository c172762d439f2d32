/-! ===== the law's loop ===== -/
section LLP
variable {G : pd_G} {h mc ms n : Nat} {Q : pd_O → pd_M → Prop} {xs : Nat → Int32}
theorem li_add {i k : Nat} (c : Int32) (hc : c = nI k) (h : i + k < n) (hn : n < 2 ^ 31) : vp_in (nI i + c) n := by
  rw [hc, nI_add]
  exact vp_in_nI h hn
theorem li_nl {i n : Nat} (hi : i ≤ n) (hn : n ≤ 3072) (c : ¬ nI n - 6 < nI i) : i + 6 ≤ n := by
  apply Nat.le_of_not_lt
  intro hlt
  apply c
  rw [Int32.lt_iff_toInt_lt, Int32.toInt_sub, nI_toInt (by omega), nI_toInt (by omega), show (6 : Int32).toInt = 6 by decide, Int.bmod_eq_of_le (by omega) (by omega)]
  omega
theorem li_lt {i n : Nat} (hi : i ≤ n) (h : n < i + 6) (hn : n ≤ 3072) : nI n - 6 < nI i := by
  rw [Int32.lt_iff_toInt_lt, Int32.toInt_sub, nI_toInt (by omega), nI_toInt (by omega), show (6 : Int32).toInt = 6 by decide, Int.bmod_eq_of_le (by omega) (by omega)]
  omega
theorem lp_L_law (hX : XS G n xs) (hn : n ≤ 3072) (hh : 40 ≤ h) (hQ : ∀ I L R, Q (.inl (some (.int 1))) (SD, false, I, L, R)) : ∀ (k i cs ss : Nat) (o5 o6 o7 : Option Value) I L R w a ps B t, n < i + 6 * k + 6 → i ≤ n → cs + 3 * k ≤ mc → ss + 18 * k ≤ ms → SM I L R w a ps B t → pd_At G mi_L_law h mc ms cs ss 23 [some (.ref G.2.2.2.2), some (.ref (pd_z G + 0)), some (.ref (pd_z G + 119)), some (.ref (pd_z G + 137)), some (.int (nI i)), o5, o6, o7] [] (SD, false, I, L, R) Q := by
  intro k
  induction k with
  | zero =>
    intro i cs ss o5 o6 o7 I L R w a ps B t h1 h2 h3 h4 hM
    refine at_iload dL_law_23 rfl ?_
    refine at_aload_n dL_law_25 rfl ?_
    refine at_scrn hX dL_law_26 ?_
    refine at_bipush dL_law_27 pc_b6 ?_
    refine at_isub dL_law_29 ?_
    refine at_icmpgt (tgt := 1468) dL_law_30 (by decide) (fun c30 => ?_) (fun c30 => ?_)
    · refine at_iconst dL_law_1468 pc_i1 ?_
      refine at_zret rfl dL_law_1469 (Or.inr rfl) ?_
      exact hQ _ _ _
    · exact absurd (li_lt (by omega) (by omega) hn) c30
  | succ k ih =>
    intro i cs ss o5 o6 o7 I L R w a ps B t h1 h2 h3 h4 hM
    refine at_iload dL_law_23 rfl ?_
    refine at_aload_n dL_law_25 rfl ?_
    refine at_scrn hX dL_law_26 ?_
    refine at_bipush dL_law_27 pc_b6 ?_
    refine at_isub dL_law_29 ?_
    refine at_icmpgt (tgt := 1468) dL_law_30 (by decide) (fun c30 => ?_) (fun c30 => ?_)
    · refine at_iconst dL_law_1468 pc_i1 ?_
      refine at_zret rfl dL_law_1469 (Or.inr rfl) ?_
      exact hQ _ _ _
    · have hi : i + 6 ≤ n := li_nl h2 hn c30
      have q0 : vp_in (nI i) n := vp_in_nI (by omega) (by omega)
      have q1 : vp_in (nI i + 1) n := li_add (k := 1) 1 (by decide) (by omega) (by omega)
      have q2 : vp_in (nI i + 2) n := li_add (k := 2) 2 (by decide) (by omega) (by omega)
      have q3 : vp_in (nI i + 3) n := li_add (k := 3) 3 (by decide) (by omega) (by omega)
      have q4 : vp_in (nI i + 4) n := li_add (k := 4) 4 (by decide) (by omega) (by omega)
      have q5 : vp_in (nI i + 5) n := li_add (k := 5) 5 (by decide) (by omega) (by omega)
      have hb : cs + 3 ≤ mc ∧ ss + 18 ≤ ms := ⟨by omega, by omega⟩
      have K : ∀ cs' ss', cs' ≤ cs + 3 → ss' ≤ ss + 18 → LK G h mc ms cs' ss' i Q := by
        intro cs' ss' hc1 hc2 p5 p6 p7 I' L' R' w' a' ps' B' t' hM'
        refine at_inc dL_law_1462 rfl pc_i6 rfl (Nat.le_of_ble_eq_true rfl) ?_
        refine at_goto (tgt := 23) dL_law_1465 (by decide) ?_
        have e6 : nI i + 6 = nI (i + 6) := by rw [show (6 : Int32) = nI 6 by decide, ← nI_add]
        rw [e6]
        exact ih (i + 6) cs' ss' p5 p6 p7 I' L' R' w' a' ps' B' t' (by omega) hi (by omega) (by omega) hM'
      have K3 := K (cs + 3) (ss + 18) (Nat.le_refl _) (Nat.le_refl _)
      refine at_aload_n dL_law_33 rfl ?_
      refine at_iload dL_law_34 rfl ?_
      refine at_scr hX q0 dL_law_36 ?_
      refine at_bipush dL_law_37 pc_b31 ?_
      refine at_iand dL_law_39 ?_
      generalize xs (nI i).toNatClampNeg &&& 31 = z
      by_cases s0 : z = 0
      · subst s0
        refine at_tabIn (tgt := 152) (off := 112) dL_law_40 (by decide) (by decide) (by decide) (by decide) ?_
        exact lc_feed hX q1 q2 q3 q4 q5 hM hh hb K3
      by_cases s1 : z = 1
      · subst s1
        refine at_tabIn (tgt := 225) (off := 185) dL_law_40 (by decide) (by decide) (by decide) (by decide) ?_
        exact lc_text hX q1 q2 q3 q4 q5 hM hh hb K3
      by_cases s2 : z = 2
      · subst s2
        refine at_tabIn (tgt := 281) (off := 241) dL_law_40 (by decide) (by decide) (by decide) (by decide) ?_
        exact lc_fault hX q1 q2 q3 q4 q5 hM hh hb K3
      by_cases s3 : z = 3
      · subst s3
        refine at_tabIn (tgt := 294) (off := 254) dL_law_40 (by decide) (by decide) (by decide) (by decide) ?_
        exact lc_sample hX q1 q2 q3 q4 q5 hM hh hb K3
      by_cases s4 : z = 4
      · subst s4
        refine at_tabIn (tgt := 374) (off := 334) dL_law_40 (by decide) (by decide) (by decide) (by decide) ?_
        exact lc_strike hX q1 q2 q3 q4 q5 hM hh hb K3
      by_cases s5 : z = 5
      · subst s5
        refine at_tabIn (tgt := 458) (off := 418) dL_law_40 (by decide) (by decide) (by decide) (by decide) ?_
        exact lc_sign hX q1 q2 q3 q4 q5 hM hh hb K3
      by_cases s6 : z = 6
      · subst s6
        refine at_tabIn (tgt := 538) (off := 498) dL_law_40 (by decide) (by decide) (by decide) (by decide) ?_
        exact lc_erase hX q1 q2 q3 q4 q5 hM hh hb K3
      by_cases s7 : z = 7
      · subst s7
        refine at_tabIn (tgt := 606) (off := 566) dL_law_40 (by decide) (by decide) (by decide) (by decide) ?_
        exact lc_undo hX q1 q2 q3 q4 q5 hM hh hb K3
      by_cases s8 : z = 8
      · subst s8
        refine at_tabIn (tgt := 619) (off := 579) dL_law_40 (by decide) (by decide) (by decide) (by decide) ?_
        exact lc_told hX q1 q2 q3 q4 q5 hM hh hb K3
      by_cases s9 : z = 9
      · subst s9
        refine at_tabIn (tgt := 675) (off := 635) dL_law_40 (by decide) (by decide) (by decide) (by decide) ?_
        exact lc_voter hX q1 q2 q3 q4 q5 hM hh hb K3
      by_cases s10 : z = 10
      · subst s10
        refine at_tabIn (tgt := 743) (off := 703) dL_law_40 (by decide) (by decide) (by decide) (by decide) ?_
        exact lc_letter hX q1 q2 q3 q4 q5 hM hh hb K3
      by_cases s11 : z = 11
      · subst s11
        refine at_tabIn (tgt := 811) (off := 771) dL_law_40 (by decide) (by decide) (by decide) (by decide) ?_
        exact lc_sheet hX q1 q2 q3 q4 q5 hM hh hb K3
      by_cases s12 : z = 12
      · subst s12
        refine at_tabIn (tgt := 879) (off := 839) dL_law_40 (by decide) (by decide) (by decide) (by decide) ?_
        exact lc_line hX q1 q2 q3 q4 q5 hM hh hb K3
      by_cases s13 : z = 13
      · subst s13
        refine at_tabIn (tgt := 959) (off := 919) dL_law_40 (by decide) (by decide) (by decide) (by decide) ?_
        exact lc_judged hX q1 q2 q3 q4 q5 hM hh hb K3
      by_cases s14 : z = 14
      · subst s14
        refine at_tabIn (tgt := 1015) (off := 975) dL_law_40 (by decide) (by decide) (by decide) (by decide) ?_
        exact lc_passes hX q1 q2 q3 q4 q5 hM hh hb K3
      by_cases s15 : z = 15
      · subst s15
        refine at_tabIn (tgt := 1028) (off := 988) dL_law_40 (by decide) (by decide) (by decide) (by decide) ?_
        exact lc_drawn hX q1 q2 q3 q4 q5 hM hh hb K3
      by_cases s16 : z = 16
      · subst s16
        refine at_tabIn (tgt := 1096) (off := 1056) dL_law_40 (by decide) (by decide) (by decide) (by decide) ?_
        exact lc_estimate hX q1 q2 q3 q4 q5 hM hh hb K3
      by_cases s17 : z = 17
      · subst s17
        refine at_tabIn (tgt := 1163) (off := 1123) dL_law_40 (by decide) (by decide) (by decide) (by decide) ?_
        exact lc_unlike hX q1 q2 q3 q4 q5 hM hh hb K3
      by_cases s18 : z = 18
      · subst s18
        refine at_tabIn (tgt := 1219) (off := 1179) dL_law_40 (by decide) (by decide) (by decide) (by decide) ?_
        exact lc_unseen hX q1 q2 q3 q4 q5 hM hh hb K3
      by_cases s19 : z = 19
      · subst s19
        refine at_tabIn (tgt := 1286) (off := 1246) dL_law_40 (by decide) (by decide) (by decide) (by decide) ?_
        exact lc_fewest hX q1 q2 q3 q4 q5 hM hh hb K3
      by_cases s20 : z = 20
      · subst s20
        refine at_tabIn (tgt := 1299) (off := 1259) dL_law_40 (by decide) (by decide) (by decide) (by decide) ?_
        exact lc_worst hX q1 q2 q3 q4 q5 hM hh hb K3
      by_cases s21 : z = 21
      · subst s21
        refine at_tabIn (tgt := 1367) (off := 1327) dL_law_40 (by decide) (by decide) (by decide) (by decide) ?_
        exact lc_cost hX q1 q2 q3 q4 q5 hM hh hb K3
      by_cases s22 : z = 22
      · subst s22
        refine at_tabIn (tgt := 1423) (off := 1383) dL_law_40 (by decide) (by decide) (by decide) (by decide) ?_
        exact lc_print hX q1 q2 q3 q4 q5 hM hh hb K3
      by_cases s23 : z = 23
      · subst s23
        refine at_tabIn (tgt := 1437) (off := 1397) dL_law_40 (by decide) (by decide) (by decide) (by decide) ?_
        exact lc_status hX q1 q2 q3 q4 q5 hM hh hb K3
      refine at_tabOut (tgt := 1462) dL_law_40 (by have a0 := ti_ne s0; have a1 := ti_ne s1; have a2 := ti_ne s2; have a3 := ti_ne s3; have a4 := ti_ne s4; have a5 := ti_ne s5; have a6 := ti_ne s6; have a7 := ti_ne s7; have a8 := ti_ne s8; have a9 := ti_ne s9; have a10 := ti_ne s10; have a11 := ti_ne s11; have a12 := ti_ne s12; have a13 := ti_ne s13; have a14 := ti_ne s14; have a15 := ti_ne s15; have a16 := ti_ne s16; have a17 := ti_ne s17; have a18 := ti_ne s18; have a19 := ti_ne s19; have a20 := ti_ne s20; have a21 := ti_ne s21; have a22 := ti_ne s22; have a23 := ti_ne s23; simp only [show (0 : Int32).toInt = 0 by decide, show (1 : Int32).toInt = 1 by decide, show (2 : Int32).toInt = 2 by decide, show (3 : Int32).toInt = 3 by decide, show (4 : Int32).toInt = 4 by decide, show (5 : Int32).toInt = 5 by decide, show (6 : Int32).toInt = 6 by decide, show (7 : Int32).toInt = 7 by decide, show (8 : Int32).toInt = 8 by decide, show (9 : Int32).toInt = 9 by decide, show (10 : Int32).toInt = 10 by decide, show (11 : Int32).toInt = 11 by decide, show (12 : Int32).toInt = 12 by decide, show (13 : Int32).toInt = 13 by decide, show (14 : Int32).toInt = 14 by decide, show (15 : Int32).toInt = 15 by decide, show (16 : Int32).toInt = 16 by decide, show (17 : Int32).toInt = 17 by decide, show (18 : Int32).toInt = 18 by decide, show (19 : Int32).toInt = 19 by decide, show (20 : Int32).toInt = 20 by decide, show (21 : Int32).toInt = 21 by decide, show (22 : Int32).toInt = 22 by decide, show (23 : Int32).toInt = 23 by decide] at *; omega) (by decide) ?_
      exact K cs ss (by omega) (by omega) _ _ _ _ _ _ _ _ _ _ _ hM
end LLP
