/-! ===== Petition ===== -/
def pfirst (p : Nat → Bool) : Nat → Nat → Nat
  | 0, i => i
  | k + 1, i => if p i then pfirst p k (i + 1) else i
theorem nI_in2 {i n N : Nat} (h : i < n) (hN : n ≤ N) (hb : N < 2 ^ 31) : vp_in (nI i) N := vp_in_nI (by omega) hb
theorem lp_X3_firstOf {G : pd_G} {I L R} {c n : Nat} (hR : RS R) (hc : PB c) (hn : I c 6 = nI n) (h40 : n ≤ 40) (sheet : Int32) : ∀ (k i : Nat), i + k = n → pd_At G mi_X3_firstOf 1 0 0 0 0 2 [some (.ref (pd_z G + c)), some (.int sheet), some (.int (nI i))] [] (SD, false, I, L, R) (pd_rt (.int (nI (pfirst (fun j => decide (I (c + 7) j < sheet)) k i))) (SD, false, I, L, R)) := by
  intro k
  induction k with
  | zero =>
    intro i hi
    refine at_iload_n dX3_firstOf_2 rfl ?_
    refine at_aload_n dX3_firstOf_3 rfl ?_
    refine at_geti flX3_62 rfl (sd_P0 hc) dX3_firstOf_4 ?_
    refine at_icmpge (tgt := 26) dX3_firstOf_7 (by decide) (fun c7 => ?_) (fun c7 => ?_)
    · -- taken 7
      refine at_iload_n dX3_firstOf_26 rfl ?_
      refine at_iret rfl dX3_firstOf_27 ?_
      exact ⟨rfl, rfl⟩
    · -- not taken 7
      exact absurd (by rw [hn]; exact nI_le (by omega) (by omega)) c7
  | succ k ih =>
    intro i hi
    refine at_iload_n dX3_firstOf_2 rfl ?_
    refine at_aload_n dX3_firstOf_3 rfl ?_
    refine at_geti flX3_62 rfl (sd_P0 hc) dX3_firstOf_4 ?_
    refine at_icmpge (tgt := 26) dX3_firstOf_7 (by decide) (fun c7 => ?_) (fun c7 => ?_)
    · -- taken 7
      exact absurd (by rw [hn] at c7; exact c7) (nI_ge (by omega) (by omega))
    · -- not taken 7
      refine at_aload_n dX3_firstOf_10 rfl ?_
      refine at_getr (c + 7) flX3_30 rfl (sd_P0 hc) (rs_P10 hR hc) dX3_firstOf_11 ?_
      refine at_iload_n dX3_firstOf_14 rfl ?_
      refine at_iald (sd_P7 hc) (nI_in2 (n := n) (by omega) h40 (by decide)) dX3_firstOf_15 ?_
      refine at_iload_n dX3_firstOf_16 rfl ?_
      refine at_icmpge (tgt := 26) dX3_firstOf_17 (by decide) (fun c17 => ?_) (fun c17 => ?_)
      · -- taken 17
        rw [nI_clamp (by omega)] at c17
        refine at_iload_n dX3_firstOf_26 rfl ?_
        refine at_iret rfl dX3_firstOf_27 ?_
        exact ⟨by rw [pfirst, if_neg (by simpa using Int32.not_lt.mpr c17)], rfl⟩
      · -- not taken 17
        rw [nI_clamp (by omega)] at c17
        refine at_inc dX3_firstOf_20 rfl pc_i1 rfl (Nat.le_of_ble_eq_true rfl) ?_
        refine at_goto (tgt := 2) dX3_firstOf_23 (by decide) ?_
        rw [nI_1]; have e := ih (i + 1) (by omega); rw [pfirst, if_pos (by simpa using Int32.not_le.mp c17)]; exact e
theorem ev_X3_firstOf {G : pd_G} {I L R} {c n : Nat} (hR : RS R) (hc : PB c) (hn : I c 6 = nI n) (h40 : n ≤ 40) (sheet : Int32) : pd_Ev G mi_X3_firstOf 1 0 0 [.ref (pd_z G + c), .int sheet] (SD, false, I, L, R) (pd_rt (.int (nI (pfirst (fun j => decide (I (c + 7) j < sheet)) n 0))) (SD, false, I, L, R)) := by
  refine pd_ev 1 (lo := [some (.ref (pd_z G + c)), some (.int sheet), none]) (by decide +kernel) (Nat.le_of_ble_eq_true rfl) rfl ?_
  refine at_iconst dX3_firstOf_0 pc_i0 ?_
  refine at_istore_n dX3_firstOf_1 rfl (Nat.le_of_ble_eq_true rfl) ?_
  exact lp_X3_firstOf hR hc hn h40 sheet n 0 (by omega)
