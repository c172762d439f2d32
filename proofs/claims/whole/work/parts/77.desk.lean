/-! ===== the desk's constructor ===== -/
def S_ps (S : List (Nat × Nat)) : Nat → List (Nat × Nat)
  | 0 => S
  | k + 1 => S_X3 (S_ps S k ++ [(2, 0)])
def I_ps (I : Nat → Nat → Int32) : Nat → Nat → Nat → Int32
  | 0 => I
  | k + 1 => I_X3 (I_ps I k) (29 + 10 * k + 1) (29 + 10 * k)
def R_ps (R : Nat → Nat → Option Nat) : Nat → Nat → Nat → Option Nat
  | 0 => R
  | k + 1 => pd_up (R_X3 (R_ps R k) (29 + 10 * k + 1) (29 + 10 * k)) 28 k (some (29 + 10 * k))
section DSK
variable {G : pd_G} {S : List (Nat × Nat)} {I : Nat → Nat → Int32} {L : Nat → Nat → Int64} {R : Nat → Nat → Option Nat} {Q : pd_O → pd_M → Prop}
def PSk (S : List (Nat × Nat)) (I : Nat → Nat → Int32) (L : Nat → Nat → Int64) (R : Nat → Nat → Option Nat) (k : Nat) : Prop := S.length = 29 + 10 * k ∧ S[0]? = some (7, 0) ∧ S[28]? = some (12, 8) ∧ R 0 4 = some 28 ∧ pd_fresh S I L R
theorem R_X3_0 {m n b j : Nat} (h1 : b < m) (h2 : m < n) : R_X3 R n m b j = R b j := by
  unfold R_X3 R_X4 pd_up
  repeat rw [if_neg (by omega)]
theorem PSk.next {k : Nat} (h : PSk S I L R k) : PSk (S_X3 (S ++ [(2, 0)])) (I_X3 I (29 + 10 * k + 1) (29 + 10 * k)) L (pd_up (R_X3 R (29 + 10 * k + 1) (29 + 10 * k)) 28 k (some (29 + 10 * k))) (k + 1) := by
  obtain ⟨h1, h2, h3, h4, h5⟩ := h
  refine ⟨(sl_X3 (sx_len h1)).trans (by omega), sg_X3 (sx_get h2), sg_X3 (sx_get h3), ?_, fr_R (sf_X3 (sx_len h1) (sx_new h1) (fr_push h5)) (sg_X3 (sx_get h3))⟩
  rw [pd_up_nb (by decide), R_X3_0 (by omega) (by omega)]
  exact h4
theorem PSk.at_k (h : PSk S I L R 0) : ∀ k, PSk (S_ps S k) (I_ps I k) L (R_ps R k) k
  | 0 => h
  | k + 1 => (PSk.at_k h k).next
theorem lp_X8_init (h : PSk S I L R 0) (K : pd_At G mi_X8_init 4 118 12597 (28 + 10 * 8) (5136 + 829 * 8) 87 [some (.ref (pd_z G + 0)), some (.int (nI 8))] [] (S_ps S 8, true, I_ps I 8, L, R_ps R 8) Q) : ∀ j k, k + j = 8 → pd_At G mi_X8_init 4 118 12597 (28 + 10 * k) (5136 + 829 * k) 62 [some (.ref (pd_z G + 0)), some (.int (nI k))] [] (S_ps S k, true, I_ps I k, L, R_ps R k) Q := by
  intro j
  induction j with
  | zero =>
    intro k hk
    have e : k = 8 := by omega
    subst e
    refine at_iload_n dX8_init_62 rfl ?_
    refine at_bipush dX8_init_63 pc_b8 ?_
    refine at_icmpge (tgt := 87) dX8_init_65 (by decide) (fun c => ?_) (fun c => ?_)
    · exact K
    · exact absurd (by decide) c
  | succ j ih =>
    intro k hk
    obtain ⟨h1, h2, h3, h4, h5⟩ := PSk.at_k h k
    refine at_iload_n dX8_init_62 rfl ?_
    refine at_bipush dX8_init_63 pc_b8 ?_
    refine at_icmpge (tgt := 87) dX8_init_65 (by decide) (fun c => ?_) (fun c => ?_)
    · rw [show (8 : Int32) = nI 8 from rfl, nI_leI (by omega) (by omega)] at c
      omega
    · refine at_aload_n dX8_init_68 rfl ?_
      refine at_getr 28 flX8_43 rfl h2 h4 dX8_init_69 ?_
      refine at_iload_n dX8_init_72 rfl ?_
      refine at_nw (ci := 2) h1 klX8_41 niX3 in_X3_init rfl h5 ⟨by omega, by omega⟩ dX8_init_73 ?_
      refine at_dup dX8_init_76 rfl ?_
      refine at_cn0 cb_X3_init rfl mnX8_47 rfl im_X3_init (ev_X3_init (n := 29 + 10 * k + 1) (sx_len h1) (sx_new h1) (fr_push h5)) (by decide) ⟨by omega, by omega⟩ (Nat.le_of_ble_eq_true rfl) dX8_init_77 (pd_k0 ?_)
      refine at_aast (sg_X3 (sx_get h3)) (sg_X3 (sx_new h1)) (vp_in_nI (by omega) (by decide)) dX8_init_80 ?_
      rw [nI_clamp (by omega)]
      refine at_inc dX8_init_81 rfl pc_i1 rfl (Nat.le_of_ble_eq_true rfl) ?_
      refine at_goto (tgt := 62) dX8_init_84 (by decide) ?_
      rw [nI_1]
      have e := ih (k + 1) (by omega)
      rw [show 28 + 10 * (k + 1) = 28 + 10 * k + 1 + 9 by omega, show 5136 + 829 * (k + 1) = 5136 + 829 * k + 19 + 810 by omega] at e
      exact e
end DSK
