/-! ===== the triangle ===== -/
section TRI
variable {G : pd_G} {n a : Nat} {S : List (Nat × Nat)} {I : Nat → Nat → Int32} {L : Nat → Nat → Int64} {R : Nat → Nat → Option Nat}
/-- rows ahead of r are done, of row r the first c -/
def TI (n : Nat) (L L' : Nat → Nat → Int64) (r c : Nat) : Prop := (∀ b, b ≠ n → ∀ j, L' b j = L b j) ∧ ∀ p k, p < 41 → k < 41 → L' n (p * 41 + k) = if p < r ∨ (p = r ∧ k < c) then lN (ch p k) else 0
theorem TI.put {L' : Nat → Nat → Int64} {r c : Nat} (h : TI n L L' r c) (hr : r < 41) (hc : c < 41) {v : Int64} (hv : v = lN (ch r c)) : TI n L (pd_up L' n (r * 41 + c) v) r (c + 1) := by
  refine ⟨fun b hb j => by rw [pd_up_nb hb]; exact h.1 b hb j, fun p k hp hk => ?_⟩
  by_cases e : p * 41 + k = r * 41 + c
  · have e1 : p = r := by omega
    have e2 : k = c := by omega
    subst e1 e2
    rw [pd_up_at, if_pos (Or.inr ⟨rfl, by omega⟩)]
    exact hv
  · have : pd_up L' n (r * 41 + c) v n (p * 41 + k) = L' n (p * 41 + k) := by
      unfold pd_up
      rw [if_neg (by omega)]
    rw [this, h.2 p k hp hk]
    by_cases q : p < r ∨ (p = r ∧ k < c)
    · rw [if_pos q, if_pos (by omega)]
    · rw [if_neg q, if_neg (by omega)]
theorem TI.next {L' : Nat → Nat → Int64} {r : Nat} (h : TI n L L' r (r + 1)) : TI n L L' (r + 1) 0 := by
  refine ⟨h.1, fun p k hp hk => ?_⟩
  rw [h.2 p k hp hk]
  by_cases q : p < r ∨ (p = r ∧ k < r + 1)
  · rw [if_pos q, if_pos (by omega)]
  · rw [if_neg q]
    by_cases q2 : p = r
    · rw [if_pos (by omega), ch_gt p k (by omega)]
      rfl
    · rw [if_neg (by omega)]
theorem lp_X0_in {Q : pd_O → pd_M → Prop} {r : Nat} (hS0 : S[a]? = some (0, 0)) (hS1 : S[n]? = some (11, 1681)) (hRn : R a 0 = some n) (hr : r + 1 < 41) (K : ∀ L' o2, TI n L L' (r + 1) (r + 2) → pd_At G mi_X0_init 1 2 1722 2 1722 92 [some (.ref (pd_z G + a)), some (.int (nI (r + 1))), o2] [] (S, true, I, L', R) Q) : ∀ (k j : Nat) (L' : Nat → Nat → Int64), j + k = r + 2 → 1 ≤ j → TI n L L' (r + 1) j → pd_At G mi_X0_init 1 2 1722 2 1722 41 [some (.ref (pd_z G + a)), some (.int (nI (r + 1))), some (.int (nI j))] [] (S, true, I, L', R) Q := by
  intro k
  induction k with
  | zero =>
    intro j L' hj h1 hT
    refine at_iload_n dX0_init_41 rfl ?_
    refine at_iload_n dX0_init_42 rfl ?_
    refine at_icmpgt (tgt := 92) dX0_init_43 (by decide) (fun c => ?_) (fun c => ?_)
    · refine K L' _ ?_
      rw [show r + 2 = j by omega]; exact hT
    · exact absurd (nI_lt (by omega) (by omega)) c
  | succ k ih =>
    intro j L' hj h1 hT
    refine at_iload_n dX0_init_41 rfl ?_
    refine at_iload_n dX0_init_42 rfl ?_
    refine at_icmpgt (tgt := 92) dX0_init_43 (by decide) (fun c => ?_) (fun c => ?_)
    · exact absurd c (nI_nlt (by omega) (by omega))
    · refine at_aload_n dX0_init_46 rfl ?_
      refine at_getr n flX0_11 rfl hS0 hRn dX0_init_47 ?_
      refine at_iload_n dX0_init_50 rfl ?_
      refine at_bipush dX0_init_51 pc_b41 ?_
      refine at_imul dX0_init_53 ?_
      refine at_iload_n dX0_init_54 rfl ?_
      refine at_iadd dX0_init_55 ?_
      refine at_aload_n dX0_init_56 rfl ?_
      refine at_getr n flX0_11 rfl hS0 hRn dX0_init_57 ?_
      refine at_iload_n dX0_init_60 rfl ?_
      refine at_iconst dX0_init_61 pc_i1 ?_
      refine at_isub dX0_init_62 ?_
      refine at_bipush dX0_init_63 pc_b41 ?_
      refine at_imul dX0_init_65 ?_
      refine at_iload_n dX0_init_66 rfl ?_
      refine at_iadd dX0_init_67 ?_
      refine at_iconst dX0_init_68 pc_i1 ?_
      refine at_isub dX0_init_69 ?_
      have e1 : (nI (r + 1) - 1) * 41 + nI j - 1 = nI (r * 41 + (j - 1)) := by
        rw [show (1 : Int32) = nI 1 from rfl, show (41 : Int32) = nI 41 from rfl, pk_sub (by omega), pk_mul, nI_add, pk_sub (by omega)]
        congr 1; omega
      have e2 : (nI (r + 1) - 1) * 41 + nI j = nI (r * 41 + j) := by
        rw [show (1 : Int32) = nI 1 from rfl, show (41 : Int32) = nI 41 from rfl, pk_sub (by omega), pk_mul, nI_add]
        congr 1
      have e3 : nI (r + 1) * 41 + nI j = nI ((r + 1) * 41 + j) := by
        rw [show (41 : Int32) = nI 41 from rfl, pk_mul, nI_add]
      rw [e1, e3]
      refine at_lald hS1 (vp_in_nI (by omega) (by decide)) dX0_init_70 ?_
      refine at_aload_n dX0_init_71 rfl ?_
      refine at_getr n flX0_11 rfl hS0 hRn dX0_init_72 ?_
      refine at_iload_n dX0_init_75 rfl ?_
      refine at_iconst dX0_init_76 pc_i1 ?_
      refine at_isub dX0_init_77 ?_
      refine at_bipush dX0_init_78 pc_b41 ?_
      refine at_imul dX0_init_80 ?_
      refine at_iload_n dX0_init_81 rfl ?_
      refine at_iadd dX0_init_82 ?_
      rw [e2]
      refine at_lald hS1 (vp_in_nI (by omega) (by decide)) dX0_init_83 ?_
      refine at_ladd dX0_init_84 ?_
      refine at_last hS1 (vp_in_nI (by omega) (by decide)) dX0_init_85 ?_
      rw [nI_clamp (by omega), nI_clamp (by omega), nI_clamp (by omega)]
      refine at_inc dX0_init_86 rfl pc_i1 rfl (Nat.le_of_ble_eq_true rfl) ?_
      refine at_goto (tgt := 41) dX0_init_89 (by decide) ?_
      rw [nI_1]
      refine ih (j + 1) _ (by omega) (by omega) (hT.put (by omega) (by omega) ?_)
      rw [hT.2 r (j - 1) (by omega) (by omega), hT.2 r j (by omega) (by omega), if_pos (by omega), if_pos (by omega), lN_add]
      cases j with
      | zero => omega
      | succ j => rfl
theorem lp_X0_out {Q : pd_O → pd_M → Prop} (hS0 : S[a]? = some (0, 0)) (hS1 : S[n]? = some (11, 1681)) (hRn : R a 0 = some n) (K : ∀ L', TI n L L' 41 0 → Q (.inl none) (S, true, I, L', R)) : ∀ (k r : Nat) (L' : Nat → Nat → Int64) (o2 : Option Value), r + k = 41 → TI n L L' r 0 → pd_At G mi_X0_init 1 2 1722 2 1722 23 [some (.ref (pd_z G + a)), some (.int (nI r)), o2] [] (S, true, I, L', R) Q := by
  intro k
  induction k with
  | zero =>
    intro r L' o2 hr hT
    refine at_iload_n dX0_init_23 rfl ?_
    refine at_bipush dX0_init_24 pc_b41 ?_
    refine at_icmpge (tgt := 98) dX0_init_26 (by decide) (fun c => ?_) (fun c => ?_)
    · refine at_vret rfl dX0_init_98 ?_
      rw [show r = 41 by omega] at hT
      exact K L' hT
    · rw [show r = 41 by omega] at c
      exact absurd (by decide) c
  | succ k ih =>
    intro r L' o2 hr hT
    refine at_iload_n dX0_init_23 rfl ?_
    refine at_bipush dX0_init_24 pc_b41 ?_
    refine at_icmpge (tgt := 98) dX0_init_26 (by decide) (fun c => ?_) (fun c => ?_)
    · rw [show (41 : Int32) = nI 41 from rfl, nI_leI (by omega) (by omega)] at c
      omega
    · refine at_aload_n dX0_init_29 rfl ?_
      refine at_getr n flX0_11 rfl hS0 hRn dX0_init_30 ?_
      refine at_iload_n dX0_init_33 rfl ?_
      refine at_bipush dX0_init_34 pc_b41 ?_
      refine at_imul dX0_init_36 ?_
      refine at_lconst dX0_init_37 pc_l1 ?_
      rw [show nI r * 41 = nI (r * 41 + 0) by rw [show (41 : Int32) = nI 41 from rfl, pk_mul, Nat.add_zero]]
      refine at_last hS1 (vp_in_nI (by omega) (by decide)) dX0_init_38 ?_
      rw [nI_clamp (by omega)]
      refine at_iconst dX0_init_39 pc_i1 ?_
      refine at_istore_n dX0_init_40 rfl (Nat.le_of_ble_eq_true rfl) ?_
      have h1 := hT.put (v := 1) (show r < 41 by omega) (by decide) (by rw [ch_0]; rfl)
      have fin : ∀ L2 p2, TI n L L2 r (r + 1) → pd_At G mi_X0_init 1 2 1722 2 1722 92 [some (.ref (pd_z G + a)), some (.int (nI r)), p2] [] (S, true, I, L2, R) Q := fun L2 p2 h2 => by
        refine at_inc dX0_init_92 rfl pc_i1 rfl (Nat.le_of_ble_eq_true rfl) ?_
        refine at_goto (tgt := 23) dX0_init_95 (by decide) ?_
        rw [nI_1]
        exact ih (r + 1) L2 p2 (by omega) h2.next
      cases r with
      | zero =>
        refine at_iload_n dX0_init_41 rfl ?_
        refine at_iload_n dX0_init_42 rfl ?_
        refine at_icmpgt (tgt := 92) dX0_init_43 (by decide) (fun c => ?_) (fun c => ?_)
        · exact fin _ _ h1
        · exact absurd (by decide) c
      | succ r => exact lp_X0_in hS0 hS1 hRn (by omega) (fun L2 p2 h2 => fin L2 p2 h2) (r + 1) 1 _ (by omega) (by decide) h1
end TRI
section TRI2
variable {G : pd_G} {n a : Nat} {S : List (Nat × Nat)} {I : Nat → Nat → Int32} {L : Nat → Nat → Int64} {R : Nat → Nat → Option Nat}
def S_X0 (S : List (Nat × Nat)) : List (Nat × Nat) := S ++ [(11, 1681)] ++ [(11, 41)]
def R_X0 (R : Nat → Nat → Option Nat) (n a : Nat) : Nat → Nat → Option Nat := pd_up (pd_up R a 0 (some n)) a 1 (some (n + 1))
theorem ev_X0_init (hl : S.length = n) (ha : S[a]? = some (0, 0)) (hf : pd_fresh S I L R) : pd_Ev G mi_X0_init 1 2 1722 [.ref (pd_z G + a)] (S, true, I, L, R) (fun o M => o = .inl none ∧ ∃ L', M = (S_X0 S, true, I, L', R_X0 R n a) ∧ TI n L L' 41 0) := by
  refine pd_ev 2 (lo := [some (.ref (pd_z G + a)), none, none]) (by decide +kernel) (Nat.le_of_ble_eq_true rfl) rfl ?_
  refine at_aload_n dX0_init_0 rfl ?_
  refine at_oinit moX0_3 pd_oi.1 pd_oi.2 (by decide) (Nat.le_of_ble_eq_true rfl) dX0_init_1 ?_
  refine at_aload_n dX0_init_4 rfl ?_
  refine at_sipush dX0_init_5 pc_s1681 ?_
  refine at_na 11 1681 hl (Or.inr (Or.inr ⟨rfl, rfl⟩)) ac_long (by decide) (by decide) (by decide) hf ⟨Nat.le_of_ble_eq_true rfl, Nat.le_of_ble_eq_true rfl⟩ dX0_init_8 ?_
  have l1 := sx_len (x := (11, 1681)) hl
  have g1 := sx_get (x := (11, 1681)) ha
  have f1 := fr_push (x := (11, 1681)) hf
  refine at_putr flX0_11 rfl g1 (fun _ _ _ hq => by cases hq; first | exact Or.inl rfl | exact Or.inr ⟨rfl, rfl, rfl⟩) dX0_init_10 ?_
  have f2 := fr_R (j := 0) (v := some n) f1 g1
  refine at_aload_n dX0_init_13 rfl ?_
  refine at_bipush dX0_init_14 pc_b41 ?_
  refine at_na 11 41 l1 (Or.inr (Or.inr ⟨rfl, rfl⟩)) ac_long (by decide) (by decide) (by decide) f2 ⟨Nat.le_of_ble_eq_true rfl, Nat.le_of_ble_eq_true rfl⟩ dX0_init_16 ?_
  have g3 := sx_get (x := (11, 41)) g1
  refine at_putr flX0_15 rfl g3 (fun _ _ _ hq => by cases hq; first | exact Or.inl rfl | exact Or.inr ⟨rfl, rfl, rfl⟩) dX0_init_18 ?_
  refine at_iconst dX0_init_21 pc_i0 ?_
  refine at_istore_n dX0_init_22 rfl (Nat.le_of_ble_eq_true rfl) ?_
  refine lp_X0_out (L := L) g3 (sx_get (x := (11, 41)) (sx_new (x := (11, 1681)) hl)) ?_ (fun L' hT => ⟨rfl, L', rfl, hT⟩) 41 0 L none rfl ⟨fun _ _ _ => rfl, fun p k hp hk => ?_⟩
  · unfold pd_up
    rw [if_neg (by omega), if_pos ⟨rfl, rfl⟩]
  · rw [if_neg (by omega)]
    exact (hf n (by omega)).2.1 _
end TRI2
