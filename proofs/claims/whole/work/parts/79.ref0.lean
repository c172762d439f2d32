/-! ===== the reference's constructor ===== -/
section RF0
variable {G : pd_G} {I : Nat → Nat → Int32} {L : Nat → Nat → Int64} {R : Nat → Nat → Option Nat} {S : List (Nat × Nat)} {fx : Bool}
theorem lp_X9_begins0 {c : Nat} (hc : S[c]? = some (9, 1105)) : ∀ k i, i + k = 1105 → pd_At G mi_X9_begins 1 0 0 0 0 2 [some (.ref (pd_z G + c)), some (.int (nI i))] [] (S, fx, pd_fw I c (fun _ => 0) i, L, R) (pd_rv (S, fx, pd_fw I c r00 1105, L, R)) := by
  intro k
  induction k with
  | zero =>
    intro i hi
    have e : i = 1105 := by omega
    subst e
    refine at_iload_n dX9_begins_2 rfl ?_
    refine at_sipush dX9_begins_3 pc_s1105 ?_
    refine at_icmpge (tgt := 19) dX9_begins_6 (by decide) (fun c6 => ?_) (fun c6 => ?_)
    · -- taken 6
      refine at_aload_n dX9_begins_19 rfl ?_
      refine at_iconst dX9_begins_20 pc_i3 ?_
      refine at_iconst dX9_begins_21 pc_i1 ?_
      refine at_iast hc (vp_in_nI (n := 3) (by decide) (by decide)) dX9_begins_22 ?_
      refine at_aload_n dX9_begins_23 rfl ?_
      refine at_iconst dX9_begins_24 pc_i5 ?_
      refine at_sipush dX9_begins_25 pc_s999 ?_
      refine at_iast hc (vp_in_nI (n := 5) (by decide) (by decide)) dX9_begins_28 ?_
      refine at_aload_n dX9_begins_29 rfl ?_
      refine at_bipush dX9_begins_30 pc_b6 ?_
      refine at_bipush dX9_begins_32 pc_b100 ?_
      refine at_iast hc (vp_in_nI (n := 6) (by decide) (by decide)) dX9_begins_34 ?_
      refine at_aload_n dX9_begins_35 rfl ?_
      refine at_bipush dX9_begins_36 pc_b7 ?_
      refine at_bipush dX9_begins_38 pc_b50 ?_
      refine at_iast hc (vp_in_nI (n := 7) (by decide) (by decide)) dX9_begins_40 ?_
      refine at_vret rfl dX9_begins_41 ?_
      refine ⟨rfl, ?_⟩
      rw [← begins_eq]
      rfl
    · -- not taken 6
      exact absurd (nI_le (a := 1105) (Nat.le_refl _) (by decide)) c6
  | succ k ih =>
    intro i hi
    have hin : vp_in (nI i) 1105 := vp_in_nI (by omega) (by decide)
    have hcl : (nI i).toNatClampNeg = i := nI_clamp (by omega)
    refine at_iload_n dX9_begins_2 rfl ?_
    refine at_sipush dX9_begins_3 pc_s1105 ?_
    refine at_icmpge (tgt := 19) dX9_begins_6 (by decide) (fun c6 => ?_) (fun c6 => ?_)
    · -- taken 6
      exact absurd c6 (nI_ge (b := 1105) (by omega) (by decide))
    · -- not taken 6
      refine at_aload_n dX9_begins_9 rfl ?_
      refine at_iload_n dX9_begins_10 rfl ?_
      refine at_iconst dX9_begins_11 pc_i0 ?_
      refine at_iast hc (hin) dX9_begins_12 ?_
      refine at_inc dX9_begins_13 rfl pc_i1 rfl (Nat.le_of_ble_eq_true rfl) ?_
      refine at_goto (tgt := 2) dX9_begins_16 (by decide) ?_
      rw [nI_1, hcl, pd_fw_up (f := fun _ => 0)]; exact ih (i + 1) (by omega)
theorem ev_X9_begins0 {c : Nat} (hc : S[c]? = some (9, 1105)) : pd_Ev G mi_X9_begins 1 0 0 [.ref (pd_z G + c)] (S, fx, I, L, R) (pd_rv (S, fx, pd_fw I c r00 1105, L, R)) := by
  refine pd_ev 1 (lo := [some (.ref (pd_z G + c)), none]) (by decide +kernel) (Nat.le_of_ble_eq_true rfl) rfl ?_
  refine at_iconst dX9_begins_0 pc_i0 ?_
  refine at_istore_n dX9_begins_1 rfl (Nat.le_of_ble_eq_true rfl) ?_
  have h := lp_X9_begins0 (G := G) (I := I) (L := L) (R := R) (S := S) (fx := fx) hc 1105 0 (by omega)
  rw [pd_fw_0] at h
  exact h
/-- new int[8][1105] in the reference's constructor: the outer row, then the inner ones (open: a row of its own shall prove it) -/
def MNW (G : pd_G) : Prop := ∀ (h mc ms cs ss : Nat) (lo : List (Option Value)) (st : List Value) (Q : pd_O → pd_M → Prop) (S : List (Nat × Nat)) (I : Nat → Nat → Int32) (L : Nat → Nat → Int64) (R : Nat → Nat → Option Nat), pd_fresh S I L R → (cs + 9 ≤ mc ∧ ss + 8848 ≤ ms) → pd_At G mi_X9_init h mc ms (cs + 9) (ss + 8848) 53 lo (.ref (pd_z G + S.length) :: st) (S ++ (13, 8) :: List.replicate 8 (9, 1105), true, I, L, fun a j => if a = S.length ∧ j < 8 then some (S.length + 1 + j) else R a j) Q → pd_At G mi_X9_init h mc ms cs ss 49 lo (.int 1105 :: .int 8 :: st) (S, true, I, L, R) Q
end RF0
