/-! ===== Petition: lines moved, copied ===== -/
def x_mv (I : Nat → Nat → Int32) (c f t k : Nat) : Nat → Nat → Int32 := pd_cp (pd_cp (pd_cp (pd_cp I (c + 4) (c + 4) f t k) (c + 5) (c + 5) f t k) (c + 6) (c + 6) f t k) (c + 7) (c + 7) f t k
theorem pd_cp_0 (I : Nat → Nat → Int32) (a b f t : Nat) : pd_cp I a b f t 0 = I := by
  funext x j; unfold pd_cp; rw [if_neg (by omega)]
theorem x_mv_0 (I : Nat → Nat → Int32) (c f t : Nat) : x_mv I c f t 0 = I := by simp [x_mv, pd_cp_0]
theorem ev_X3_moveLines {G : pd_G} {I L R} {c f t k : Nat} (hR : RS R) (hc : PB c) (hf : f + k ≤ 40) (ht : t + k ≤ 40) : pd_Ev G mi_X3_moveLines 2 0 0 [.ref (pd_z G + c), .int (nI f), .int (nI t), .int (nI k)] (SD, false, I, L, R) (pd_rv (SD, false, x_mv I c f t k, L, R)) := by
  refine pd_ev 0 (lo := [some (.ref (pd_z G + c)), some (.int (nI f)), some (.int (nI t)), some (.int (nI k))]) (by decide +kernel) (Nat.le_of_ble_eq_true rfl) rfl ?_
  rcases Nat.eq_zero_or_pos k with rfl | hk
  · refine at_iload_n dX3_moveLines_0 rfl ?_
    refine at_ifle (tgt := 24) dX3_moveLines_1 (by decide) (fun c1 => ?_) (fun c1 => ?_)
    · -- taken 1
      refine at_vret rfl dX3_moveLines_24 ?_
      exact ⟨rfl, by rw [x_mv_0]⟩
    · -- not taken 1
      exact absurd (by decide) c1
  · refine at_iload_n dX3_moveLines_0 rfl ?_
    refine at_ifle (tgt := 24) dX3_moveLines_1 (by decide) (fun c1 => ?_) (fun c1 => ?_)
    · -- taken 1
      exact absurd c1 (nI_nle hk (by omega))
    · -- not taken 1
      refine at_iload_n dX3_moveLines_4 rfl ?_
      refine at_iflt (tgt := 24) dX3_moveLines_5 (by decide) (fun c5 => ?_) (fun c5 => ?_)
      · -- taken 5
        exact absurd c5 (nI_pos (by omega))
      · -- not taken 5
        refine at_iload_n dX3_moveLines_8 rfl ?_
        refine at_iflt (tgt := 24) dX3_moveLines_9 (by decide) (fun c9 => ?_) (fun c9 => ?_)
        · -- taken 9
          exact absurd c9 (nI_pos (by omega))
        · -- not taken 9
          refine at_iload_n dX3_moveLines_12 rfl ?_
          refine at_iload_n dX3_moveLines_13 rfl ?_
          refine at_max mlX3_99 (by decide) (Nat.le_of_ble_eq_true rfl) dX3_moveLines_14 ?_
          refine at_iload_n dX3_moveLines_17 rfl ?_
          refine at_iadd dX3_moveLines_18 ?_
          refine at_bipush dX3_moveLines_19 pc_b40 ?_
          refine at_icmple (tgt := 25) dX3_moveLines_21 (by decide) (fun c21 => ?_) (fun c21 => ?_)
          · -- taken 21
            refine at_aload_n dX3_moveLines_25 rfl ?_
            refine at_getr (c + 4) flX3_21 rfl (sd_P0 hc) (rs_P7 hR hc) dX3_moveLines_26 ?_
            refine at_iload_n dX3_moveLines_29 rfl ?_
            refine at_aload_n dX3_moveLines_30 rfl ?_
            refine at_getr (c + 4) flX3_21 rfl (sd_P0 hc) (rs_P7 hR hc) dX3_moveLines_31 ?_
            refine at_iload_n dX3_moveLines_34 rfl ?_
            refine at_iload_n dX3_moveLines_35 rfl ?_
            refine at_copyN mcX3_74 (sd_P4 hc) (sd_P4 hc) (f) (t) (k) (rfl) (rfl) (rfl) (by omega) (by omega) (by decide) (Nat.le_of_ble_eq_true rfl) dX3_moveLines_36 ?_
            refine at_aload_n dX3_moveLines_39 rfl ?_
            refine at_getr (c + 5) flX3_24 rfl (sd_P0 hc) (rs_P8 hR hc) dX3_moveLines_40 ?_
            refine at_iload_n dX3_moveLines_43 rfl ?_
            refine at_aload_n dX3_moveLines_44 rfl ?_
            refine at_getr (c + 5) flX3_24 rfl (sd_P0 hc) (rs_P8 hR hc) dX3_moveLines_45 ?_
            refine at_iload_n dX3_moveLines_48 rfl ?_
            refine at_iload_n dX3_moveLines_49 rfl ?_
            refine at_copyN mcX3_74 (sd_P5 hc) (sd_P5 hc) (f) (t) (k) (rfl) (rfl) (rfl) (by omega) (by omega) (by decide) (Nat.le_of_ble_eq_true rfl) dX3_moveLines_50 ?_
            refine at_aload_n dX3_moveLines_53 rfl ?_
            refine at_getr (c + 6) flX3_27 rfl (sd_P0 hc) (rs_P9 hR hc) dX3_moveLines_54 ?_
            refine at_iload_n dX3_moveLines_57 rfl ?_
            refine at_aload_n dX3_moveLines_58 rfl ?_
            refine at_getr (c + 6) flX3_27 rfl (sd_P0 hc) (rs_P9 hR hc) dX3_moveLines_59 ?_
            refine at_iload_n dX3_moveLines_62 rfl ?_
            refine at_iload_n dX3_moveLines_63 rfl ?_
            refine at_copyN mcX3_74 (sd_P6 hc) (sd_P6 hc) (f) (t) (k) (rfl) (rfl) (rfl) (by omega) (by omega) (by decide) (Nat.le_of_ble_eq_true rfl) dX3_moveLines_64 ?_
            refine at_aload_n dX3_moveLines_67 rfl ?_
            refine at_getr (c + 7) flX3_30 rfl (sd_P0 hc) (rs_P10 hR hc) dX3_moveLines_68 ?_
            refine at_iload_n dX3_moveLines_71 rfl ?_
            refine at_aload_n dX3_moveLines_72 rfl ?_
            refine at_getr (c + 7) flX3_30 rfl (sd_P0 hc) (rs_P10 hR hc) dX3_moveLines_73 ?_
            refine at_iload_n dX3_moveLines_76 rfl ?_
            refine at_iload_n dX3_moveLines_77 rfl ?_
            refine at_copyN mcX3_74 (sd_P7 hc) (sd_P7 hc) (f) (t) (k) (rfl) (rfl) (rfl) (by omega) (by omega) (by decide) (Nat.le_of_ble_eq_true rfl) dX3_moveLines_78 ?_
            refine at_vret rfl dX3_moveLines_81 ?_
            exact ⟨rfl, rfl⟩
          · -- not taken 21
            exact absurd (by rw [show (if nI f < nI t then nI t else nI f) = nI (if f < t then t else f) by rw [apply_ite nI]; simp only [nI_ltI (show f < 2 ^ 31 by omega) (show t < 2 ^ 31 by omega)], nI_add]; exact nI_le (b := 40) (by split <;> omega) (by decide)) c21
def x_addLine (I : Nat → Nat → Int32) (c f n : Nat) (sheet name street day : Int32) : Nat → Nat → Int32 := pd_up (pd_up (pd_up (pd_up (pd_up (x_mv I c f (f + 1) (n - f)) (c + 4) f name) (c + 5) f street) (c + 6) f day) (c + 7) f sheet) c 6 (nI (n + 1))
theorem x_mv_nb {I : Nat → Nat → Int32} {c f t k b j : Nat} (h : b < c + 4 ∨ c + 7 < b) : x_mv I c f t k b j = I b j := by
  unfold x_mv
  rw [pd_cp_nb (by omega), pd_cp_nb (by omega), pd_cp_nb (by omega), pd_cp_nb (by omega)]
theorem ev_X3_addLine {G : pd_G} {I L R} {c n f : Nat} (hR : RS R) (hc : PB c) (hn : I c 6 = nI n) (h40 : n < 40) (sheet name street day : Int32) (hf : pfirst (fun j => decide (I (c + 7) j < sheet + 1)) n 0 = f) : pd_Ev G mi_X3_addLine 3 0 0 [.ref (pd_z G + c), .int sheet, .int name, .int street, .int day] (SD, false, I, L, R) (pd_rv (SD, false, x_addLine I c f n sheet name street day, L, R)) := by
  have hfn : f ≤ n := by have := pfirst_le (fun j => decide (I (c + 7) j < sheet + 1)) n 0; rw [hf] at this; omega
  have hin : vp_in (nI f) 40 := vp_in_nI (by omega) (by decide)
  have hcl : (nI f).toNatClampNeg = f := nI_clamp (by omega)
  refine pd_ev 1 (lo := [some (.ref (pd_z G + c)), some (.int sheet), some (.int name), some (.int street), some (.int day), none]) (by decide +kernel) (Nat.le_of_ble_eq_true rfl) rfl ?_
  refine at_aload_n dX3_addLine_0 rfl ?_
  refine at_geti flX3_62 rfl (sd_P0 hc) dX3_addLine_1 ?_
  refine at_iflt (tgt := 16) dX3_addLine_4 (by decide) (fun c4 => ?_) (fun c4 => ?_)
  · -- taken 4
    exact absurd (by rw [hn] at c4; exact c4) (nI_pos (by omega))
  · -- not taken 4
    refine at_aload_n dX3_addLine_7 rfl ?_
    refine at_geti flX3_62 rfl (sd_P0 hc) dX3_addLine_8 ?_
    refine at_bipush dX3_addLine_11 pc_b40 ?_
    refine at_icmplt (tgt := 17) dX3_addLine_13 (by decide) (fun c13 => ?_) (fun c13 => ?_)
    · -- taken 13
      refine at_aload_n dX3_addLine_17 rfl ?_
      refine at_iload_n dX3_addLine_18 rfl ?_
      refine at_iconst dX3_addLine_19 pc_i1 ?_
      refine at_iadd dX3_addLine_20 ?_
      refine at_cv1 cvX3_91 (sd_P0 hc) (ev_X3_firstOf hR hc hn (by omega) _) (by decide) ⟨Nat.le_refl _, Nat.le_refl _⟩ (Nat.le_of_ble_eq_true rfl) dX3_addLine_21 (pd_k1 ?_)
      rw [hf]
      refine at_istore dX3_addLine_24 rfl (Nat.le_of_ble_eq_true rfl) ?_
      refine at_aload_n dX3_addLine_26 rfl ?_
      refine at_iload dX3_addLine_27 rfl ?_
      refine at_iload dX3_addLine_29 rfl ?_
      refine at_iconst dX3_addLine_31 pc_i1 ?_
      refine at_iadd dX3_addLine_32 ?_
      refine at_aload_n dX3_addLine_33 rfl ?_
      refine at_geti flX3_62 rfl (sd_P0 hc) dX3_addLine_34 ?_
      rw [hn]
      refine at_iload dX3_addLine_37 rfl ?_
      refine at_isub dX3_addLine_39 ?_
      rw [pk_sub hfn, nI_1]
      refine at_cv3 cvX3_95 (sd_P0 hc) (ev_X3_moveLines (f := f) (t := f + 1) (k := n - f) hR hc (by omega) (by omega)) (by decide) ⟨Nat.le_refl _, Nat.le_refl _⟩ (Nat.le_of_ble_eq_true rfl) dX3_addLine_40 (pd_k0 ?_)
      refine at_aload_n dX3_addLine_43 rfl ?_
      refine at_getr (c + 4) flX3_21 rfl (sd_P0 hc) (rs_P7 hR hc) dX3_addLine_44 ?_
      refine at_iload dX3_addLine_47 rfl ?_
      refine at_iload_n dX3_addLine_49 rfl ?_
      refine at_iast (sd_P4 hc) (hin) dX3_addLine_50 ?_
      refine at_aload_n dX3_addLine_51 rfl ?_
      refine at_getr (c + 5) flX3_24 rfl (sd_P0 hc) (rs_P8 hR hc) dX3_addLine_52 ?_
      refine at_iload dX3_addLine_55 rfl ?_
      refine at_iload_n dX3_addLine_57 rfl ?_
      refine at_iast (sd_P5 hc) (hin) dX3_addLine_58 ?_
      refine at_aload_n dX3_addLine_59 rfl ?_
      refine at_getr (c + 6) flX3_27 rfl (sd_P0 hc) (rs_P9 hR hc) dX3_addLine_60 ?_
      refine at_iload dX3_addLine_63 rfl ?_
      refine at_iload dX3_addLine_65 rfl ?_
      refine at_iast (sd_P6 hc) (hin) dX3_addLine_67 ?_
      refine at_aload_n dX3_addLine_68 rfl ?_
      refine at_getr (c + 7) flX3_30 rfl (sd_P0 hc) (rs_P10 hR hc) dX3_addLine_69 ?_
      refine at_iload dX3_addLine_72 rfl ?_
      refine at_iload_n dX3_addLine_74 rfl ?_
      refine at_iast (sd_P7 hc) (hin) dX3_addLine_75 ?_
      refine at_aload_n dX3_addLine_76 rfl ?_
      refine at_dup dX3_addLine_77 rfl ?_
      refine at_geti flX3_62 rfl (sd_P0 hc) dX3_addLine_78 ?_
      rw [hcl, pd_up_nb (by omega), pd_up_nb (by omega), pd_up_nb (by omega), pd_up_nb (by omega), x_mv_nb (by omega), hn]
      refine at_iconst dX3_addLine_81 pc_i1 ?_
      refine at_iadd dX3_addLine_82 ?_
      refine at_puti flX3_62 rfl (sd_P0 hc) (fun _ _ _ hq => by cases hq; rfl) dX3_addLine_83 ?_
      refine at_vret rfl dX3_addLine_86 ?_
      exact ⟨rfl, by rw [nI_1]; rfl⟩
    · -- not taken 13
      exact absurd (by rw [hn]; exact nI_lt (b := 40) h40 (by decide)) c13
def x_rmLine (I : Nat → Nat → Int32) (c f n : Nat) : Nat → Nat → Int32 := pd_up (x_mv I c (f + 1) f (n - f - 1)) c 6 (nI (n - 1))
theorem ev_X3_removeLine {G : pd_G} {I L R} {c n f : Nat} (hR : RS R) (hc : PB c) (hn : I c 6 = nI n) (h40 : n ≤ 40) (hf : f < n) : pd_Ev G mi_X3_removeLine 3 0 0 [.ref (pd_z G + c), .int (nI f)] (SD, false, I, L, R) (pd_rv (SD, false, x_rmLine I c f n, L, R)) := by
  refine pd_ev 0 (lo := [some (.ref (pd_z G + c)), some (.int (nI f))]) (by decide +kernel) (Nat.le_of_ble_eq_true rfl) rfl ?_
  refine at_iload_n dX3_removeLine_0 rfl ?_
  refine at_iflt (tgt := 12) dX3_removeLine_1 (by decide) (fun c1 => ?_) (fun c1 => ?_)
  · -- taken 1
    exact absurd c1 (nI_pos (by omega))
  · -- not taken 1
    refine at_iload_n dX3_removeLine_4 rfl ?_
    refine at_aload_n dX3_removeLine_5 rfl ?_
    refine at_geti flX3_62 rfl (sd_P0 hc) dX3_removeLine_6 ?_
    refine at_icmplt (tgt := 13) dX3_removeLine_9 (by decide) (fun c9 => ?_) (fun c9 => ?_)
    · -- taken 9
      refine at_aload_n dX3_removeLine_13 rfl ?_
      refine at_iload_n dX3_removeLine_14 rfl ?_
      refine at_iconst dX3_removeLine_15 pc_i1 ?_
      refine at_iadd dX3_removeLine_16 ?_
      refine at_iload_n dX3_removeLine_17 rfl ?_
      refine at_aload_n dX3_removeLine_18 rfl ?_
      refine at_geti flX3_62 rfl (sd_P0 hc) dX3_removeLine_19 ?_
      rw [hn]
      refine at_iload_n dX3_removeLine_22 rfl ?_
      refine at_isub dX3_removeLine_23 ?_
      refine at_iconst dX3_removeLine_24 pc_i1 ?_
      refine at_isub dX3_removeLine_25 ?_
      rw [pk_sub (by omega), show (1 : Int32) = nI 1 from rfl, pk_sub (by omega), nI_add]
      refine at_cv3 cvX3_95 (sd_P0 hc) (ev_X3_moveLines (f := f + 1) (t := f) (k := n - f - 1) hR hc (by omega) (by omega)) (by decide) ⟨Nat.le_refl _, Nat.le_refl _⟩ (Nat.le_of_ble_eq_true rfl) dX3_removeLine_26 (pd_k0 ?_)
      refine at_aload_n dX3_removeLine_29 rfl ?_
      refine at_dup dX3_removeLine_30 rfl ?_
      refine at_geti flX3_62 rfl (sd_P0 hc) dX3_removeLine_31 ?_
      rw [x_mv_nb (by omega), hn]
      refine at_iconst dX3_removeLine_34 pc_i1 ?_
      refine at_isub dX3_removeLine_35 ?_
      refine at_puti flX3_62 rfl (sd_P0 hc) (fun _ _ _ hq => by cases hq; rfl) dX3_removeLine_36 ?_
      refine at_vret rfl dX3_removeLine_39 ?_
      exact ⟨rfl, by rw [show (1 : Int32) = nI 1 from rfl, pk_sub (by omega)]; rfl⟩
    · -- not taken 9
      exact absurd (by rw [hn]; exact nI_lt hf (by omega)) c9
/-! Rule -/
theorem ev_X4_add {G : pd_G} {I L R} {c n : Nat} (hR : RS R) (hc : PB c) (hn : I (c + 8) 1 = nI n) (h6 : n < 600) (x : Int32) : pd_Ev G mi_X4_add 1 0 0 [.ref (pd_z G + (c + 8)), .int x] (SD, false, I, L, R) (pd_rv (SD, false, pd_up (pd_up I (c + 9) n x) (c + 8) 1 (nI (n + 1)), L, R)) := by
  refine pd_ev 0 (lo := [some (.ref (pd_z G + (c + 8))), some (.int x)]) (by decide +kernel) (Nat.le_of_ble_eq_true rfl) rfl ?_
  refine at_aload_n dX4_add_0 rfl ?_
  refine at_geti flX4_15 rfl (sd_P8 hc) dX4_add_1 ?_
  refine at_iflt (tgt := 37) dX4_add_4 (by decide) (fun c4 => ?_) (fun c4 => ?_)
  · -- taken 4
    exact absurd (by rw [hn] at c4; exact c4) (nI_pos (by omega))
  · -- not taken 4
    refine at_aload_n dX4_add_7 rfl ?_
    refine at_geti flX4_15 rfl (sd_P8 hc) dX4_add_8 ?_
    refine at_sipush dX4_add_11 pc_s600 ?_
    refine at_icmpge (tgt := 37) dX4_add_14 (by decide) (fun c14 => ?_) (fun c14 => ?_)
    · -- taken 14
      exact absurd (by rw [hn] at c14; exact c14) (nI_ge (b := 600) h6 (by decide))
    · -- not taken 14
      refine at_aload_n dX4_add_17 rfl ?_
      refine at_getr (c + 9) flX4_9 rfl (sd_P8 hc) (rs_Q0 hR hc) dX4_add_18 ?_
      refine at_aload_n dX4_add_21 rfl ?_
      refine at_geti flX4_15 rfl (sd_P8 hc) dX4_add_22 ?_
      rw [hn]
      refine at_iload_n dX4_add_25 rfl ?_
      refine at_iast (sd_P9 hc) (vp_in_nI h6 (by decide)) dX4_add_26 ?_
      refine at_aload_n dX4_add_27 rfl ?_
      refine at_dup dX4_add_28 rfl ?_
      refine at_geti flX4_15 rfl (sd_P8 hc) dX4_add_29 ?_
      rw [pd_up_nb (by omega), hn, nI_clamp (by omega)]
      refine at_iconst dX4_add_32 pc_i1 ?_
      refine at_iadd dX4_add_33 ?_
      refine at_puti flX4_15 rfl (sd_P8 hc) (fun _ _ _ hq => by cases hq; rfl) dX4_add_34 ?_
      refine at_vret rfl dX4_add_37 ?_
      exact ⟨rfl, by rw [nI_1]⟩
theorem ev_X4_addComparison {G : pd_G} {I L R} {c n : Nat} (hR : RS R) (hc : PB c) (hn : I (c + 8) 1 = nI n) (h6 : n < 600) (a o b : Int32) : pd_Ev G mi_X4_addComparison 2 0 0 [.ref (pd_z G + (c + 8)), .int a, .int o, .int b] (SD, false, I, L, R) (pd_rv (SD, false, pd_up (pd_up I (c + 9) n ((((o + 1) <<< ((11 : Int32) &&& 31)) ||| a) <<< ((11 : Int32) &&& 31) ||| b)) (c + 8) 1 (nI (n + 1)), L, R)) := by
  refine pd_ev 0 (lo := [some (.ref (pd_z G + (c + 8))), some (.int a), some (.int o), some (.int b)]) (by decide +kernel) (Nat.le_of_ble_eq_true rfl) rfl ?_
  refine at_aload_n dX4_addComparison_0 rfl ?_
  refine at_iload_n dX4_addComparison_1 rfl ?_
  refine at_iconst dX4_addComparison_2 pc_i1 ?_
  refine at_iadd dX4_addComparison_3 ?_
  refine at_bipush dX4_addComparison_4 pc_b11 ?_
  refine at_ishl dX4_addComparison_6 ?_
  refine at_iload_n dX4_addComparison_7 rfl ?_
  refine at_ior dX4_addComparison_8 ?_
  refine at_bipush dX4_addComparison_9 pc_b11 ?_
  refine at_ishl dX4_addComparison_11 ?_
  refine at_iload_n dX4_addComparison_12 rfl ?_
  refine at_ior dX4_addComparison_13 ?_
  refine at_cv1 cvX4_19 (sd_P8 hc) (ev_X4_add hR hc hn h6 _) (by decide) ⟨Nat.le_refl _, Nat.le_refl _⟩ (Nat.le_of_ble_eq_true rfl) dX4_addComparison_14 (pd_k0 ?_)
  refine at_vret rfl dX4_addComparison_17 ?_
  exact ⟨rfl, rfl⟩
theorem ev_X4_copyFrom {G : pd_G} {I L R} {c o n : Nat} (hR : RS R) (hc : PB c) (ho : PB o) (hco : c ≠ o) (hn : I (o + 8) 1 = nI n) (h6 : n ≤ 600) : pd_Ev G mi_X4_copyFrom 2 0 0 [.ref (pd_z G + (c + 8)), .ref (pd_z G + (o + 8))] (SD, false, I, L, R) (pd_rv (SD, false, pd_cp (pd_up I (c + 8) 1 (nI n)) (o + 9) (c + 9) 0 0 n, L, R)) := by
  have hd : c + 10 ≤ o ∨ o + 10 ≤ c := by
    rcases hc with rfl | ⟨i, hi, rfl⟩ <;> rcases ho with rfl | ⟨j, hj, rfl⟩ <;> omega
  refine pd_ev 0 (lo := [some (.ref (pd_z G + (c + 8))), some (.ref (pd_z G + (o + 8)))]) (by decide +kernel) (Nat.le_of_ble_eq_true rfl) rfl ?_
  rcases Nat.eq_zero_or_pos n with rfl | hk
  · refine at_aload_n dX4_copyFrom_0 rfl ?_
    refine at_aload_n dX4_copyFrom_1 rfl ?_
    refine at_geti flX4_15 rfl (sd_P8 ho) dX4_copyFrom_2 ?_
    rw [hn]
    refine at_puti flX4_15 rfl (sd_P8 hc) (fun _ _ _ hq => by cases hq; rfl) dX4_copyFrom_5 ?_
    refine at_aload_n dX4_copyFrom_8 rfl ?_
    refine at_geti flX4_15 rfl (sd_P8 hc) dX4_copyFrom_9 ?_
    rw [pd_up_at]
    refine at_ifle (tgt := 42) dX4_copyFrom_12 (by decide) (fun c12 => ?_) (fun c12 => ?_)
    · -- taken 12
      refine at_vret rfl dX4_copyFrom_42 ?_
      exact ⟨rfl, by rw [pd_cp_0]⟩
    · -- not taken 12
      exact absurd (by decide) c12
  · refine at_aload_n dX4_copyFrom_0 rfl ?_
    refine at_aload_n dX4_copyFrom_1 rfl ?_
    refine at_geti flX4_15 rfl (sd_P8 ho) dX4_copyFrom_2 ?_
    rw [hn]
    refine at_puti flX4_15 rfl (sd_P8 hc) (fun _ _ _ hq => by cases hq; rfl) dX4_copyFrom_5 ?_
    refine at_aload_n dX4_copyFrom_8 rfl ?_
    refine at_geti flX4_15 rfl (sd_P8 hc) dX4_copyFrom_9 ?_
    rw [pd_up_at]
    refine at_ifle (tgt := 42) dX4_copyFrom_12 (by decide) (fun c12 => ?_) (fun c12 => ?_)
    · -- taken 12
      exact absurd c12 (nI_nle hk (by omega))
    · -- not taken 12
      refine at_aload_n dX4_copyFrom_15 rfl ?_
      refine at_geti flX4_15 rfl (sd_P8 hc) dX4_copyFrom_16 ?_
      rw [pd_up_at]
      refine at_sipush dX4_copyFrom_19 pc_s600 ?_
      refine at_icmpgt (tgt := 42) dX4_copyFrom_22 (by decide) (fun c22 => ?_) (fun c22 => ?_)
      · -- taken 22
        exact absurd c22 (nI_nlt (a := 600) h6 (by decide))
      · -- not taken 22
        refine at_aload_n dX4_copyFrom_25 rfl ?_
        refine at_getr (o + 9) flX4_9 rfl (sd_P8 ho) (rs_Q0 hR ho) dX4_copyFrom_26 ?_
        refine at_iconst dX4_copyFrom_29 pc_i0 ?_
        refine at_aload_n dX4_copyFrom_30 rfl ?_
        refine at_getr (c + 9) flX4_9 rfl (sd_P8 hc) (rs_Q0 hR hc) dX4_copyFrom_31 ?_
        refine at_iconst dX4_copyFrom_34 pc_i0 ?_
        refine at_aload_n dX4_copyFrom_35 rfl ?_
        refine at_geti flX4_15 rfl (sd_P8 hc) dX4_copyFrom_36 ?_
        rw [pd_up_at]
        refine at_copyN mcX4_23 (sd_P9 ho) (sd_P9 hc) (0) (0) (n) (rfl) (rfl) (rfl) (by omega) (by omega) (by decide) (Nat.le_of_ble_eq_true rfl) dX4_copyFrom_39 ?_
        refine at_vret rfl dX4_copyFrom_42 ?_
        exact ⟨rfl, rfl⟩
theorem PB.apart {c o : Nat} (hc : PB c) (ho : PB o) (hco : c ≠ o) : c + 10 ≤ o ∨ o + 10 ≤ c := by
  rcases hc with rfl | ⟨i, hi, rfl⟩ <;> rcases ho with rfl | ⟨j, hj, rfl⟩ <;> omega
/-- the petition at c' is as that at c was -/
def PetEq (I : Nat → Nat → Int32) (L : Nat → Nat → Int64) (c : Nat) (I' : Nat → Nat → Int32) (L' : Nat → Nat → Int64) (c' : Nat) : Prop :=
  (∀ j, j < 16 → (j < 1 ∨ 3 < j) → (j < 7 ∨ 10 < j) → I' c' j = I c j) ∧ (∀ k, 1 ≤ k → k ≤ 3 → ∀ j, j < 16 → I' (c' + k) j = I (c + k) j) ∧ (∀ k, 4 ≤ k → k ≤ 7 → ∀ j, j < 40 → I' (c' + k) j = I (c + k) j) ∧ I' (c' + 8) 1 = I (c + 8) 1 ∧ (∀ n, I (c + 8) 1 = nI n → n ≤ 600 → ∀ j, j < n → I' (c' + 9) j = I (c + 9) j) ∧ L' c' 17 = L c 17 ∧ L' c' 18 = L c 18
/-- nothing but the petition at c has changed -/
def PetFr (I : Nat → Nat → Int32) (L : Nat → Nat → Int64) (I' : Nat → Nat → Int32) (L' : Nat → Nat → Int64) (c : Nat) : Prop := ∀ a, a < c ∨ c + 10 ≤ a → (∀ j, I' a j = I a j) ∧ ∀ j, L' a j = L a j
theorem ev_X3_copyFrom {G : pd_G} {I L R} {c o n : Nat} (hR : RS R) (hc : PB c) (ho : PB o) (hco : c ≠ o) (hn : I (o + 8) 1 = nI n) (h6 : n ≤ 600) : pd_Ev G mi_X3_copyFrom 3 0 0 [.ref (pd_z G + c), .ref (pd_z G + o)] (SD, false, I, L, R) (pd_re R fun I' L' => PetEq I L o I' L' c ∧ PetFr I L I' L' c) := by
  have hd := PB.apart hc ho hco
  refine pd_ev 0 (lo := [some (.ref (pd_z G + c)), some (.ref (pd_z G + o))]) (by decide +kernel) (Nat.le_of_ble_eq_true rfl) rfl ?_
  refine at_aload_n dX3_copyFrom_0 rfl ?_
  refine at_aload_n dX3_copyFrom_1 rfl ?_
  refine at_geti flX3_53 rfl (sd_P0 ho) dX3_copyFrom_2 ?_
  refine at_puti flX3_53 rfl (sd_P0 hc) (fun _ _ _ hq => by cases hq; rfl) dX3_copyFrom_5 ?_
  refine at_aload_n dX3_copyFrom_8 rfl ?_
  refine at_getr (o + 1) flX3_9 rfl (sd_P0 ho) (rs_P1 hR ho) dX3_copyFrom_9 ?_
  refine at_iconst dX3_copyFrom_12 pc_i0 ?_
  refine at_aload_n dX3_copyFrom_13 rfl ?_
  refine at_getr (c + 1) flX3_9 rfl (sd_P0 hc) (rs_P1 hR hc) dX3_copyFrom_14 ?_
  refine at_iconst dX3_copyFrom_17 pc_i0 ?_
  refine at_bipush dX3_copyFrom_18 pc_b16 ?_
  refine at_copyN mcX3_74 (sd_P1 ho) (sd_P1 hc) (0) (0) (16) (rfl) (rfl) (rfl) (by decide) (by decide) (by decide) (Nat.le_of_ble_eq_true rfl) dX3_copyFrom_20 ?_
  refine at_aload_n dX3_copyFrom_23 rfl ?_
  refine at_getr (o + 2) flX3_15 rfl (sd_P0 ho) (rs_P2 hR ho) dX3_copyFrom_24 ?_
  refine at_iconst dX3_copyFrom_27 pc_i0 ?_
  refine at_aload_n dX3_copyFrom_28 rfl ?_
  refine at_getr (c + 2) flX3_15 rfl (sd_P0 hc) (rs_P2 hR hc) dX3_copyFrom_29 ?_
  refine at_iconst dX3_copyFrom_32 pc_i0 ?_
  refine at_bipush dX3_copyFrom_33 pc_b16 ?_
  refine at_copyN mcX3_74 (sd_P2 ho) (sd_P2 hc) (0) (0) (16) (rfl) (rfl) (rfl) (by decide) (by decide) (by decide) (Nat.le_of_ble_eq_true rfl) dX3_copyFrom_35 ?_
  refine at_aload_n dX3_copyFrom_38 rfl ?_
  refine at_getr (o + 3) flX3_18 rfl (sd_P0 ho) (rs_P3 hR ho) dX3_copyFrom_39 ?_
  refine at_iconst dX3_copyFrom_42 pc_i0 ?_
  refine at_aload_n dX3_copyFrom_43 rfl ?_
  refine at_getr (c + 3) flX3_18 rfl (sd_P0 hc) (rs_P3 hR hc) dX3_copyFrom_44 ?_
  refine at_iconst dX3_copyFrom_47 pc_i0 ?_
  refine at_bipush dX3_copyFrom_48 pc_b16 ?_
  refine at_copyN mcX3_74 (sd_P3 ho) (sd_P3 hc) (0) (0) (16) (rfl) (rfl) (rfl) (by decide) (by decide) (by decide) (Nat.le_of_ble_eq_true rfl) dX3_copyFrom_50 ?_
  refine at_aload_n dX3_copyFrom_53 rfl ?_
  refine at_aload_n dX3_copyFrom_54 rfl ?_
  refine at_geti flX3_56 rfl (sd_P0 ho) dX3_copyFrom_55 ?_
  refine at_puti flX3_56 rfl (sd_P0 hc) (fun _ _ _ hq => by cases hq; rfl) dX3_copyFrom_58 ?_
  refine at_aload_n dX3_copyFrom_61 rfl ?_
  refine at_aload_n dX3_copyFrom_62 rfl ?_
  refine at_geti flX3_59 rfl (sd_P0 ho) dX3_copyFrom_63 ?_
  refine at_puti flX3_59 rfl (sd_P0 hc) (fun _ _ _ hq => by cases hq; rfl) dX3_copyFrom_66 ?_
  refine at_aload_n dX3_copyFrom_69 rfl ?_
  refine at_aload_n dX3_copyFrom_70 rfl ?_
  refine at_geti flX3_62 rfl (sd_P0 ho) dX3_copyFrom_71 ?_
  refine at_puti flX3_62 rfl (sd_P0 hc) (fun _ _ _ hq => by cases hq; rfl) dX3_copyFrom_74 ?_
  refine at_aload_n dX3_copyFrom_77 rfl ?_
  refine at_getr (o + 4) flX3_21 rfl (sd_P0 ho) (rs_P7 hR ho) dX3_copyFrom_78 ?_
  refine at_iconst dX3_copyFrom_81 pc_i0 ?_
  refine at_aload_n dX3_copyFrom_82 rfl ?_
  refine at_getr (c + 4) flX3_21 rfl (sd_P0 hc) (rs_P7 hR hc) dX3_copyFrom_83 ?_
  refine at_iconst dX3_copyFrom_86 pc_i0 ?_
  refine at_bipush dX3_copyFrom_87 pc_b40 ?_
  refine at_copyN mcX3_74 (sd_P4 ho) (sd_P4 hc) (0) (0) (40) (rfl) (rfl) (rfl) (by decide) (by decide) (by decide) (Nat.le_of_ble_eq_true rfl) dX3_copyFrom_89 ?_
  refine at_aload_n dX3_copyFrom_92 rfl ?_
  refine at_getr (o + 5) flX3_24 rfl (sd_P0 ho) (rs_P8 hR ho) dX3_copyFrom_93 ?_
  refine at_iconst dX3_copyFrom_96 pc_i0 ?_
  refine at_aload_n dX3_copyFrom_97 rfl ?_
  refine at_getr (c + 5) flX3_24 rfl (sd_P0 hc) (rs_P8 hR hc) dX3_copyFrom_98 ?_
  refine at_iconst dX3_copyFrom_101 pc_i0 ?_
  refine at_bipush dX3_copyFrom_102 pc_b40 ?_
  refine at_copyN mcX3_74 (sd_P5 ho) (sd_P5 hc) (0) (0) (40) (rfl) (rfl) (rfl) (by decide) (by decide) (by decide) (Nat.le_of_ble_eq_true rfl) dX3_copyFrom_104 ?_
  refine at_aload_n dX3_copyFrom_107 rfl ?_
  refine at_getr (o + 6) flX3_27 rfl (sd_P0 ho) (rs_P9 hR ho) dX3_copyFrom_108 ?_
  refine at_iconst dX3_copyFrom_111 pc_i0 ?_
  refine at_aload_n dX3_copyFrom_112 rfl ?_
  refine at_getr (c + 6) flX3_27 rfl (sd_P0 hc) (rs_P9 hR hc) dX3_copyFrom_113 ?_
  refine at_iconst dX3_copyFrom_116 pc_i0 ?_
  refine at_bipush dX3_copyFrom_117 pc_b40 ?_
  refine at_copyN mcX3_74 (sd_P6 ho) (sd_P6 hc) (0) (0) (40) (rfl) (rfl) (rfl) (by decide) (by decide) (by decide) (Nat.le_of_ble_eq_true rfl) dX3_copyFrom_119 ?_
  refine at_aload_n dX3_copyFrom_122 rfl ?_
  refine at_getr (o + 7) flX3_30 rfl (sd_P0 ho) (rs_P10 hR ho) dX3_copyFrom_123 ?_
  refine at_iconst dX3_copyFrom_126 pc_i0 ?_
  refine at_aload_n dX3_copyFrom_127 rfl ?_
  refine at_getr (c + 7) flX3_30 rfl (sd_P0 hc) (rs_P10 hR hc) dX3_copyFrom_128 ?_
  refine at_iconst dX3_copyFrom_131 pc_i0 ?_
  refine at_bipush dX3_copyFrom_132 pc_b40 ?_
  refine at_copyN mcX3_74 (sd_P7 ho) (sd_P7 hc) (0) (0) (40) (rfl) (rfl) (rfl) (by decide) (by decide) (by decide) (Nat.le_of_ble_eq_true rfl) dX3_copyFrom_134 ?_
  refine at_aload_n dX3_copyFrom_137 rfl ?_
  refine at_aload_n dX3_copyFrom_138 rfl ?_
  refine at_geti flX3_33 rfl (sd_P0 ho) dX3_copyFrom_139 ?_
  refine at_puti flX3_33 rfl (sd_P0 hc) (fun _ _ _ hq => by cases hq; rfl) dX3_copyFrom_142 ?_
  refine at_aload_n dX3_copyFrom_145 rfl ?_
  refine at_aload_n dX3_copyFrom_146 rfl ?_
  refine at_geti flX3_65 rfl (sd_P0 ho) dX3_copyFrom_147 ?_
  refine at_puti flX3_65 rfl (sd_P0 hc) (fun _ _ _ hq => by cases hq; rfl) dX3_copyFrom_150 ?_
  refine at_aload_n dX3_copyFrom_153 rfl ?_
  refine at_aload_n dX3_copyFrom_154 rfl ?_
  refine at_geti flX3_37 rfl (sd_P0 ho) dX3_copyFrom_155 ?_
  refine at_puti flX3_37 rfl (sd_P0 hc) (fun _ _ _ hq => by cases hq; rfl) dX3_copyFrom_158 ?_
  refine at_aload_n dX3_copyFrom_161 rfl ?_
  refine at_aload_n dX3_copyFrom_162 rfl ?_
  refine at_geti flX3_40 rfl (sd_P0 ho) dX3_copyFrom_163 ?_
  refine at_puti flX3_40 rfl (sd_P0 hc) (fun _ _ _ hq => by cases hq; rfl) dX3_copyFrom_166 ?_
  refine at_aload_n dX3_copyFrom_169 rfl ?_
  refine at_aload_n dX3_copyFrom_170 rfl ?_
  refine at_geti flX3_43 rfl (sd_P0 ho) dX3_copyFrom_171 ?_
  refine at_puti flX3_43 rfl (sd_P0 hc) (fun _ _ _ hq => by cases hq; rfl) dX3_copyFrom_174 ?_
  refine at_aload_n dX3_copyFrom_177 rfl ?_
  refine at_getr (c + 8) flX3_49 rfl (sd_P0 hc) (rs_P16 hR hc) dX3_copyFrom_178 ?_
  refine at_aload_n dX3_copyFrom_181 rfl ?_
  refine at_getr (o + 8) flX3_49 rfl (sd_P0 ho) (rs_P16 hR ho) dX3_copyFrom_182 ?_
  refine at_cv1 cvX3_80 (sd_P8 hc) (ev_X4_copyFrom (n := n) hR hc ho hco (by simp (disch := omega) only [pd_up_nb, pd_cp_nb]; exact hn) h6) (by decide) ⟨Nat.le_refl _, Nat.le_refl _⟩ (Nat.le_of_ble_eq_true rfl) dX3_copyFrom_185 (pd_k0 ?_)
  refine at_aload_n dX3_copyFrom_188 rfl ?_
  refine at_aload_n dX3_copyFrom_189 rfl ?_
  refine at_getl flX3_84 rfl (sd_P0 ho) dX3_copyFrom_190 ?_
  refine at_putl flX3_84 rfl (sd_P0 hc) (fun _ _ _ hq => by cases hq; rfl) dX3_copyFrom_193 ?_
  refine at_aload_n dX3_copyFrom_196 rfl ?_
  refine at_aload_n dX3_copyFrom_197 rfl ?_
  refine at_getl flX3_88 rfl (sd_P0 ho) dX3_copyFrom_198 ?_
  refine at_putl flX3_88 rfl (sd_P0 hc) (fun _ _ _ hq => by cases hq; rfl) dX3_copyFrom_201 ?_
  refine at_vret rfl dX3_copyFrom_204 ?_
  refine ⟨rfl, _, _, rfl, ⟨fun j h1 h2 h3 => ?_, fun k h1 h2 j hj => ?_, fun k h1 h2 j hj => ?_, ?_, fun m e1 h1 j hj => ?_, ?_, ?_⟩, fun a ha => ⟨fun j => ?_, fun j => ?_⟩⟩
  · rcases (show j = 0 ∨ j = 4 ∨ j = 5 ∨ j = 6 ∨ j = 11 ∨ j = 12 ∨ j = 13 ∨ j = 14 ∨ j = 15 by omega) with rfl | rfl | rfl | rfl | rfl | rfl | rfl | rfl | rfl <;> simp (disch := omega) only [pd_up_at, pd_up_nb, pd_up_nj, pd_cp_nb]
  · rcases (show k = 1 ∨ k = 2 ∨ k = 3 by omega) with rfl | rfl | rfl <;> simp (disch := omega) only [pd_up_nb, pd_cp_nb, pd_cp_at0]
  · rcases (show k = 4 ∨ k = 5 ∨ k = 6 ∨ k = 7 by omega) with rfl | rfl | rfl | rfl <;> simp (disch := omega) only [pd_up_nb, pd_cp_nb, pd_cp_at0]
  · simp (disch := omega) only [pd_up_at, pd_up_nb, pd_cp_nb]; exact hn.symm
  · have e2 : m = n := (nI_eq (by omega) (by omega)).mp (e1.symm.trans hn)
    subst e2; simp (disch := omega) only [pd_up_nb, pd_cp_nb, pd_cp_at0]
  · simp (disch := omega) only [pd_up_at, pd_up_nj, pd_up_nb]
  · simp (disch := omega) only [pd_up_at, pd_up_nj, pd_up_nb]
  · simp (disch := omega) only [pd_up_nb, pd_cp_nb]
  · simp (disch := omega) only [pd_up_nb]
/-! Names, Tape -/
theorem ev_X2_withLetter {G : pd_G} {M : pd_M} (a i b : Int32) : pd_Ev G mi_X2_withLetter 1 0 0 [.int a, .int i, .int b] M (pd_rt (.int (a ||| (b - 96) <<< ((5 * i) &&& 31))) M) := by
  refine pd_ev 0 (lo := [some (.int a), some (.int i), some (.int b)]) (by decide +kernel) (Nat.le_of_ble_eq_true rfl) rfl ?_
  refine at_iload_n dX2_withLetter_0 rfl ?_
  refine at_iload_n dX2_withLetter_1 rfl ?_
  refine at_bipush dX2_withLetter_2 pc_b96 ?_
  refine at_isub dX2_withLetter_4 ?_
  refine at_iconst dX2_withLetter_5 pc_i5 ?_
  refine at_iload_n dX2_withLetter_6 rfl ?_
  refine at_imul dX2_withLetter_7 ?_
  refine at_ishl dX2_withLetter_8 ?_
  refine at_ior dX2_withLetter_9 ?_
  refine at_iret rfl dX2_withLetter_10 ?_
  exact ⟨rfl, rfl⟩
theorem ev_X2_letterAt {G : pd_G} {M : pd_M} (a i : Int32) : pd_Ev G mi_X2_letterAt 1 0 0 [.int a, .int i] M (pd_rt (.int ((a >>> ((5 * i) &&& 31) &&& 31) + 96)) M) := by
  refine pd_ev 0 (lo := [some (.int a), some (.int i)]) (by decide +kernel) (Nat.le_of_ble_eq_true rfl) rfl ?_
  refine at_iload_n dX2_letterAt_0 rfl ?_
  refine at_iconst dX2_letterAt_1 pc_i5 ?_
  refine at_iload_n dX2_letterAt_2 rfl ?_
  refine at_imul dX2_letterAt_3 ?_
  refine at_ishr dX2_letterAt_4 ?_
  refine at_bipush dX2_letterAt_5 pc_b31 ?_
  refine at_iand dX2_letterAt_7 ?_
  refine at_bipush dX2_letterAt_8 pc_b96 ?_
  refine at_iadd dX2_letterAt_10 ?_
  refine at_iret rfl dX2_letterAt_11 ?_
  exact ⟨rfl, rfl⟩
/-- the letters of a name in bits: up to the first five that are zero -/
def i_len (a : Int32) : Nat := pfirst (fun j => decide (¬ (a >>> ((5 * nI j) &&& 31) &&& 31) = 0)) 5 0
theorem lp_X2_length {G : pd_G} {M : pd_M} (a : Int32) : ∀ (k i : Nat), i + k = 5 → pd_At G mi_X2_length 1 0 0 0 0 2 [some (.int a), some (.int (nI i))] [] M (pd_rt (.int (nI (pfirst (fun j => decide (¬ (a >>> ((5 * nI j) &&& 31) &&& 31) = 0)) k i))) M) := by
  intro k
  induction k with
  | zero =>
    intro i hi
    refine at_iload_n dX2_length_2 rfl ?_
    refine at_iconst dX2_length_3 pc_i5 ?_
    refine at_icmpge (tgt := 24) dX2_length_4 (by decide) (fun c4 => ?_) (fun c4 => ?_)
    · -- taken 4
      refine at_iload_n dX2_length_24 rfl ?_
      refine at_iret rfl dX2_length_25 ?_
      exact ⟨rfl, rfl⟩
    · -- not taken 4
      exact absurd (nI_le (a := 5) (by omega) (by omega)) c4
  | succ k ih =>
    intro i hi
    refine at_iload_n dX2_length_2 rfl ?_
    refine at_iconst dX2_length_3 pc_i5 ?_
    refine at_icmpge (tgt := 24) dX2_length_4 (by decide) (fun c4 => ?_) (fun c4 => ?_)
    · -- taken 4
      exact absurd c4 (nI_ge (b := 5) (by omega) (by decide))
    · -- not taken 4
      refine at_iload_n dX2_length_7 rfl ?_
      refine at_iconst dX2_length_8 pc_i5 ?_
      refine at_iload_n dX2_length_9 rfl ?_
      refine at_imul dX2_length_10 ?_
      refine at_ishr dX2_length_11 ?_
      refine at_bipush dX2_length_12 pc_b31 ?_
      refine at_iand dX2_length_14 ?_
      refine at_ifeq (tgt := 24) dX2_length_15 (by decide) (fun c15 => ?_) (fun c15 => ?_)
      · -- taken 15
        refine at_iload_n dX2_length_24 rfl ?_
        refine at_iret rfl dX2_length_25 ?_
        exact ⟨by rw [pfirst_no (by simp [c15])], rfl⟩
      · -- not taken 15
        refine at_inc dX2_length_18 rfl pc_i1 rfl (Nat.le_of_ble_eq_true rfl) ?_
        refine at_goto (tgt := 2) dX2_length_21 (by decide) ?_
        rw [nI_1, pfirst_yes (by simp [c15])]; exact ih (i + 1) (by omega)
theorem ev_X2_length {G : pd_G} {M : pd_M} (a : Int32) : pd_Ev G mi_X2_length 1 0 0 [.int a] M (pd_rt (.int (nI (i_len a))) M) := by
  refine pd_ev 1 (lo := [some (.int a), none]) (by decide +kernel) (Nat.le_of_ble_eq_true rfl) rfl ?_
  refine at_iconst dX2_length_0 pc_i0 ?_
  refine at_istore_n dX2_length_1 rfl (Nat.le_of_ble_eq_true rfl) ?_
  exact lp_X2_length a 5 0 (by omega)
theorem ev_X5_hasRoom {G : pd_G} {I L R} {n : Nat} (hn : I 6 1 = nI n) (h6 : n ≤ 600) : pd_Ev G mi_X5_hasRoom 1 0 0 [.ref (pd_z G + 6)] (SD, false, I, L, R) (pd_rt (.int (if n + 20 ≤ 600 then 1 else 0)) (SD, false, I, L, R)) := by
  have e : I 6 1 + 20 = nI (n + 20) := by rw [hn, show (20 : Int32) = nI 20 from rfl, nI_add]
  refine pd_ev 0 (lo := [some (.ref (pd_z G + 6))]) (by decide +kernel) (Nat.le_of_ble_eq_true rfl) rfl ?_
  refine at_aload_n dX5_hasRoom_0 rfl ?_
  refine at_geti flX5_15 rfl sd_6 dX5_hasRoom_1 ?_
  refine at_bipush dX5_hasRoom_4 pc_b20 ?_
  refine at_iadd dX5_hasRoom_6 ?_
  rw [e]
  refine at_sipush dX5_hasRoom_7 pc_s600 ?_
  refine at_icmpgt (tgt := 17) dX5_hasRoom_10 (by decide) (fun c10 => ?_) (fun c10 => ?_)
  · -- taken 10
    rw [show (600 : Int32) = nI 600 from rfl, nI_ltI (by omega) (by omega)] at c10
    refine at_iconst dX5_hasRoom_17 pc_i0 ?_
    refine at_zret rfl dX5_hasRoom_18 (by first | exact Or.inl rfl | exact Or.inr rfl | assumption) ?_
    first | exact ⟨by rw [if_neg (by omega)], rfl⟩ | exact ⟨by rw [if_pos (by omega)], rfl⟩
  · -- not taken 10
    rw [show (600 : Int32) = nI 600 from rfl, nI_ltI (by omega) (by omega)] at c10
    refine at_iconst dX5_hasRoom_13 pc_i1 ?_
    refine at_goto (tgt := 18) dX5_hasRoom_14 (by decide) ?_
    refine at_zret rfl dX5_hasRoom_18 (by first | exact Or.inl rfl | exact Or.inr rfl | assumption) ?_
    first | exact ⟨by rw [if_neg (by omega)], rfl⟩ | exact ⟨by rw [if_pos (by omega)], rfl⟩
/-- four bytes come behind n others -/
def x_put (I : Nat → Nat → Int32) (n : Nat) (v : Int32) : Nat → Nat → Int32 := pd_up (pd_up (pd_up (pd_up (pd_up I 7 n (v.toUInt32 >>> ((24 : Int32).toUInt32 &&& Int32.toUInt32 31)).toInt32.toInt8.toInt32.toInt8.toInt32) 7 (n + 1) (v.toUInt32 >>> ((16 : Int32).toUInt32 &&& Int32.toUInt32 31)).toInt32.toInt8.toInt32.toInt8.toInt32) 7 (n + 2) (v.toUInt32 >>> ((8 : Int32).toUInt32 &&& Int32.toUInt32 31)).toInt32.toInt8.toInt32.toInt8.toInt32) 7 (n + 3) v.toInt8.toInt32.toInt8.toInt32) 6 1 (nI (n + 4))
theorem ev_X5_put {G : pd_G} {I L R} {n : Nat} (hR : RS R) (hn : I 6 1 = nI n) (h6 : n + 4 ≤ 600) (v : Int32) : pd_Ev G mi_X5_put 1 0 0 [.ref (pd_z G + 6), .int v] (SD, false, I, L, R) (pd_rv (SD, false, x_put I n v, L, R)) := by
  have e1 : nI n + 1 = nI (n + 1) := nI_1 n
  have e2 : nI n + 2 = nI (n + 2) := by rw [show (2 : Int32) = nI 2 from rfl, nI_add]
  have e3 : nI n + 3 = nI (n + 3) := by rw [show (3 : Int32) = nI 3 from rfl, nI_add]
  have e4 : nI n + 4 = nI (n + 4) := by rw [show (4 : Int32) = nI 4 from rfl, nI_add]
  have k0 : (nI n).toNatClampNeg = n := nI_clamp (by omega)
  have k1 : (nI (n + 1)).toNatClampNeg = n + 1 := nI_clamp (by omega)
  have k2 : (nI (n + 2)).toNatClampNeg = n + 2 := nI_clamp (by omega)
  have k3 : (nI (n + 3)).toNatClampNeg = n + 3 := nI_clamp (by omega)
  refine pd_ev 0 (lo := [some (.ref (pd_z G + 6)), some (.int v)]) (by decide +kernel) (Nat.le_of_ble_eq_true rfl) rfl ?_
  refine at_aload_n dX5_put_0 rfl ?_
  refine at_geti flX5_15 rfl sd_6 dX5_put_1 ?_
  refine at_iflt (tgt := 19) dX5_put_4 (by decide) (fun c4 => ?_) (fun c4 => ?_)
  · -- taken 4
    exact absurd (by rw [hn] at c4; exact c4) (nI_pos (by omega))
  · -- not taken 4
    refine at_aload_n dX5_put_7 rfl ?_
    refine at_geti flX5_15 rfl sd_6 dX5_put_8 ?_
    refine at_iconst dX5_put_11 pc_i4 ?_
    refine at_iadd dX5_put_12 ?_
    refine at_sipush dX5_put_13 pc_s600 ?_
    refine at_icmple (tgt := 20) dX5_put_16 (by decide) (fun c16 => ?_) (fun c16 => ?_)
    · -- taken 16
      refine at_aload_n dX5_put_20 rfl ?_
      refine at_getr (7) flX5_9 rfl sd_6 (rs_6_0 hR) dX5_put_21 ?_
      refine at_aload_n dX5_put_24 rfl ?_
      refine at_geti flX5_15 rfl sd_6 dX5_put_25 ?_
      rw [hn]
      refine at_iload_n dX5_put_28 rfl ?_
      refine at_bipush dX5_put_29 pc_b24 ?_
      refine at_iushr dX5_put_31 ?_
      refine at_i2b dX5_put_32 ?_
      refine at_bast sd_7 (vp_in_nI (by omega) (by decide)) dX5_put_33 ?_
      refine at_aload_n dX5_put_34 rfl ?_
      refine at_getr (7) flX5_9 rfl sd_6 (rs_6_0 hR) dX5_put_35 ?_
      refine at_aload_n dX5_put_38 rfl ?_
      refine at_geti flX5_15 rfl sd_6 dX5_put_39 ?_
      rw [pd_up_nb (by decide), hn]
      refine at_iconst dX5_put_42 pc_i1 ?_
      refine at_iadd dX5_put_43 ?_
      rw [e1]
      refine at_iload_n dX5_put_44 rfl ?_
      refine at_bipush dX5_put_45 pc_b16 ?_
      refine at_iushr dX5_put_47 ?_
      refine at_i2b dX5_put_48 ?_
      refine at_bast sd_7 (vp_in_nI (by omega) (by decide)) dX5_put_49 ?_
      refine at_aload_n dX5_put_50 rfl ?_
      refine at_getr (7) flX5_9 rfl sd_6 (rs_6_0 hR) dX5_put_51 ?_
      refine at_aload_n dX5_put_54 rfl ?_
      refine at_geti flX5_15 rfl sd_6 dX5_put_55 ?_
      rw [pd_up_nb (by decide), pd_up_nb (by decide), hn]
      refine at_iconst dX5_put_58 pc_i2 ?_
      refine at_iadd dX5_put_59 ?_
      rw [e2]
      refine at_iload_n dX5_put_60 rfl ?_
      refine at_bipush dX5_put_61 pc_b8 ?_
      refine at_iushr dX5_put_63 ?_
      refine at_i2b dX5_put_64 ?_
      refine at_bast sd_7 (vp_in_nI (by omega) (by decide)) dX5_put_65 ?_
      refine at_aload_n dX5_put_66 rfl ?_
      refine at_getr (7) flX5_9 rfl sd_6 (rs_6_0 hR) dX5_put_67 ?_
      refine at_aload_n dX5_put_70 rfl ?_
      refine at_geti flX5_15 rfl sd_6 dX5_put_71 ?_
      rw [pd_up_nb (by decide), pd_up_nb (by decide), pd_up_nb (by decide), hn]
      refine at_iconst dX5_put_74 pc_i3 ?_
      refine at_iadd dX5_put_75 ?_
      rw [e3]
      refine at_iload_n dX5_put_76 rfl ?_
      refine at_i2b dX5_put_77 ?_
      refine at_bast sd_7 (vp_in_nI (by omega) (by decide)) dX5_put_78 ?_
      refine at_aload_n dX5_put_79 rfl ?_
      refine at_dup dX5_put_80 rfl ?_
      refine at_geti flX5_15 rfl sd_6 dX5_put_81 ?_
      rw [k0, k1, k2, k3, pd_up_nb (by decide), pd_up_nb (by decide), pd_up_nb (by decide), pd_up_nb (by decide), hn]
      refine at_iconst dX5_put_84 pc_i4 ?_
      refine at_iadd dX5_put_85 ?_
      rw [e4]
      refine at_puti flX5_15 rfl sd_6 (fun _ _ _ hq => by cases hq; rfl) dX5_put_86 ?_
      refine at_vret rfl dX5_put_89 ?_
      exact ⟨rfl, rfl⟩
    · -- not taken 16
      exact absurd (by rw [hn, e4]; exact nI_le (b := 600) h6 (by decide)) c16
