/-! ===== Math, Arrays.fill ===== -/
def pd_fl (I : Nat → Nat → Int32) (k : Nat) (v : Int32) (n : Nat) : Nat → Nat → Int32 := fun a j => if a = k ∧ j < n then v else I a j
theorem pd_fl_succ (I : Nat → Nat → Int32) (k : Nat) (v : Int32) (n : Nat) : pd_up (pd_fl I k v n) k n v = pd_fl I k v (n + 1) := by
  funext a j
  unfold pd_up pd_fl
  by_cases ha : a = k
  · subst ha
    by_cases hj : j = n
    · subst hj; simp
    · by_cases h2 : j < n
      · simp [hj, h2, Nat.lt_succ_of_lt h2]
      · have : ¬ j < n + 1 := by omega
        simp [hj, h2, this]
  · simp [ha]
theorem pd_fl_0 (I : Nat → Nat → Int32) (k : Nat) (v : Int32) : pd_fl I k v 0 = I := by funext a j; simp [pd_fl]
theorem lp_J7_fill {G : pd_G} {S : List (Nat × Nat)} {fx : Bool} {I L R} {k n : Nat} (hs : S[k]? = some (9, n)) (hn : n < 2 ^ 31) (v : Int32) : ∀ (m i : Nat), i + m = n → pd_At G mi_J7_fill_53178 1 0 0 0 0 5 [some (.ref (pd_z G + k)), some (.int v), some (.int (nI i)), some (.int (nI n))] [] (S, fx, pd_fl I k v i, L, R) (pd_rv (S, fx, pd_fl I k v n, L, R)) := by
  intro m
  induction m with
  | zero =>
    intro i hi
    have e : i = n := by omega
    subst e
    refine at_iload_n dJ7_fill_53178_5 rfl ?_
    refine at_iload_n dJ7_fill_53178_6 rfl ?_
    refine at_icmpge (tgt := 20) dJ7_fill_53178_7 (by decide) (fun c7 => ?_) (fun c7 => ?_)
    · -- taken 7
      refine at_vret rfl dJ7_fill_53178_20 ?_
      exact ⟨rfl, rfl⟩
    · -- not taken 7
      exact absurd (nI_le (Nat.le_refl _) hn) c7
  | succ m ih =>
    intro i hi
    refine at_iload_n dJ7_fill_53178_5 rfl ?_
    refine at_iload_n dJ7_fill_53178_6 rfl ?_
    refine at_icmpge (tgt := 20) dJ7_fill_53178_7 (by decide) (fun c7 => ?_) (fun c7 => ?_)
    · -- taken 7
      exact absurd c7 (nI_ge (by omega) hn)
    · -- not taken 7
      refine at_aload_n dJ7_fill_53178_10 rfl ?_
      refine at_iload_n dJ7_fill_53178_11 rfl ?_
      refine at_iload_n dJ7_fill_53178_12 rfl ?_
      refine at_iast hs (vp_in_nI (by omega) hn) dJ7_fill_53178_13 ?_
      refine at_inc dJ7_fill_53178_14 rfl pc_i1 rfl (Nat.le_of_ble_eq_true rfl) ?_
      refine at_goto (tgt := 5) dJ7_fill_53178_17 (by decide) ?_
      rw [nI_1, nI_clamp (by omega), pd_fl_succ]; exact ih (i + 1) (by omega)
theorem ev_J7_fill {G : pd_G} {S : List (Nat × Nat)} {fx : Bool} {I L R} {k n : Nat} (hs : S[k]? = some (9, n)) (hn : n < 2 ^ 31) (v : Int32) : pd_Ev G mi_J7_fill_53178 1 0 0 [.ref (pd_z G + k), .int v] (S, fx, I, L, R) (pd_rv (S, fx, pd_fl I k v n, L, R)) := by
  refine pd_ev 2 (lo := [some (.ref (pd_z G + k)), some (.int v), none, none]) (by decide +kernel) (Nat.le_of_ble_eq_true rfl) rfl ?_
  refine at_iconst dJ7_fill_53178_0 pc_i0 ?_
  refine at_istore_n dJ7_fill_53178_1 rfl (Nat.le_of_ble_eq_true rfl) ?_
  refine at_aload_n dJ7_fill_53178_2 rfl ?_
  refine at_alen hs ⟨by decide, by decide⟩ rfl dJ7_fill_53178_3 ?_
  refine at_istore_n dJ7_fill_53178_4 rfl (Nat.le_of_ble_eq_true rfl) ?_
  have e := lp_J7_fill (G := G) (I := I) (L := L) (R := R) (fx := fx) hs hn v n 0 (by omega)
  rw [pd_fl_0] at e
  exact e
