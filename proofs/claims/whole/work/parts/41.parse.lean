/-! ===== the text read, word by word: what both do ===== -/
/-- kinds, numbers, words, places -/
abbrev TS : Type := (Nat → Nat) × (Nat → Nat) × (Nat → List Nat) × (Nat → Nat)
def fcOf (k : Nat) : Option Nat := if k = 12 then some 0 else if k = 13 then some 1 else if k = 14 then some 2 else if k = 2 then some 3 else if k = 15 then some 4 else if k = 16 then some 5 else none
def pOp (T : TS) (i : Nat) : Nat ⊕ (Nat × Nat) := if T.1 i = 18 then (if T.2.1 i ≤ 999 then .inl (T.2.1 i) else .inr (2, T.2.2.2 i)) else match fcOf (T.1 i) with
  | some f => .inl (1000 + f)
  | none => .inr (1, T.2.2.2 i)
def pCmp (T : TS) (i : Nat) : (Nat × List rl_S) ⊕ (Nat × Nat) := match pOp T i with
  | .inr x => .inr x
  | .inl a => if 60 ≤ T.1 (i + 1) ∧ T.1 (i + 1) ≤ 62 then (match pOp T (i + 2) with
    | .inr x => .inr x
    | .inl b => .inl (i + 3, [(T.1 (i + 1) - 60, a, b)])) else .inr (1, T.2.2.2 (i + 1))
/-- a result: none, it took too long; a fault; where it stands, and the rule's steps -/
abbrev PR : Type := Option ((Nat × List rl_S) ⊕ (Nat × Nat))
def pThen (x : PR) (k : Nat → List rl_S → PR) : PR := match x with
  | some (.inl (i, e)) => k i e
  | some (.inr z) => some (.inr z)
  | none => none
/-- 0 a part, 1 a chain, 2 a choice, 3 a chain's rest, 4 a choice's rest -/
def pP (T : TS) : Nat → Nat → Nat → Nat → List rl_S → PR
  | 0, _, _, _, _ => none
  | f + 1, m, d, i, e =>
    if m = 0 then
      if T.1 i = 11 then (if 4 ≤ d then some (.inr (5, T.2.2.2 i)) else pThen (pP T f 0 (d + 1) (i + 1) e) (fun i' e' => some (.inl (i', e' ++ [(3, 0, 0)]))))
      else if T.1 i = 40 then (if 4 ≤ d then some (.inr (5, T.2.2.2 i)) else pThen (pP T f 2 (d + 1) (i + 1) e) (fun i' e' => if T.1 i' = 41 then some (.inl (i' + 1, e')) else some (.inr (1, T.2.2.2 i'))))
      else match pCmp T i with
        | .inl (i', c) => some (.inl (i', e ++ c))
        | .inr z => some (.inr z)
    else if m = 1 then pThen (pP T f 0 d i e) (fun i' e' => pP T f 3 d i' e')
    else if m = 2 then pThen (pP T f 1 d i e) (fun i' e' => pP T f 4 d i' e')
    else if m = 3 then (if T.1 i = 10 then pThen (pP T f 0 d (i + 1) e) (fun i' e' => pP T f 3 d i' (e' ++ [(4, 0, 0)])) else some (.inl (i, e)))
    else (if T.1 i = 9 then pThen (pP T f 1 d (i + 1) e) (fun i' e' => pP T f 4 d i' (e' ++ [(5, 0, 0)])) else some (.inl (i, e)))
/-- what is known of the row of words: N is its end -/
def TOK (T : TS) (N : Nat) : Prop := N ≤ 600 ∧ T.1 N = 0 ∧ T.2.2.2 N ≤ 600 ∧ (∀ i, i < N → T.2.2.2 i < T.2.2.2 (i + 1)) ∧ (∀ i, i < N → T.1 i = 9 → T.2.2.2 i + 2 ≤ T.2.2.2 (i + 1)) ∧ (∀ i, i < N → T.1 i = 10 ∨ T.1 i = 11 → T.2.2.2 i + 3 ≤ T.2.2.2 (i + 1))
theorem TOK.lt {T : TS} {N i : Nat} (h : TOK T N) (hi : i ≤ N) (hk : T.1 i ≠ 0) : i < N := by
  rcases Nat.lt_or_eq_of_le hi with q | rfl
  · exact q
  · exact absurd h.2.1 hk
theorem fcOf_lt {k f : Nat} (h : fcOf k = some f) : f < 6 ∧ k ≠ 0 := by
  unfold fcOf at h
  repeat' split at h
  all_goals first | (cases h; omega) | cases h
theorem pOp_lt {T : TS} {i a : Nat} (h : pOp T i = .inl a) : a < 1006 ∧ T.1 i ≠ 0 := by
  unfold pOp at h
  split at h
  · rename_i h1
    split at h
    · cases h; omega
    · cases h
  · split at h
    · rename_i f hf
      cases h
      have := fcOf_lt hf
      omega
    · cases h
theorem pCmp_ok {T : TS} {i i' : Nat} {c : List rl_S} (h : pCmp T i = .inl (i', c)) : i' = i + 3 ∧ ∃ o a b, c = [(o, a, b)] ∧ o < 3 ∧ a < 1006 ∧ b < 1006 ∧ T.1 i ≠ 0 ∧ T.1 (i + 1) ≠ 0 ∧ T.1 (i + 2) ≠ 0 := by
  unfold pCmp at h
  split at h
  · cases h
  · rename_i a ha
    split at h
    · rename_i h2
      split at h
      · cases h
      · rename_i b hb
        cases h
        have h3 := pOp_lt ha
        have h4 := pOp_lt hb
        exact ⟨rfl, _, a, b, rfl, by omega, h3.1, h4.1, h3.2, by omega, h4.2⟩
    · cases h
/-- steps that lay one value on the rest, at most k more at once -/
def sg (e : List rl_S) (k : Nat) : Prop := ∀ t D, D + k ≤ 30 → rl_ok t (D + 1) → rl_ok (e ++ t) D
/-- steps that leave one value as one -/
def sl (e : List rl_S) (k : Nat) : Prop := ∀ t D, D + k ≤ 30 → rl_ok t (D + 1) → rl_ok (e ++ t) (D + 1)
theorem rl_kL (o a b : Nat) : (rl_k (o, a, b)).length ≤ 5 := by
  unfold rl_k rl_o
  by_cases h : o < 3 <;> by_cases h1 : a < 1000 <;> by_cases h2 : b < 1000 <;> simp [h, h1, h2]
theorem rl_kJ (o : Nat) (h : 3 ≤ o) : (rl_k (o, 0, 0)).length = 1 := by
  unfold rl_k; rw [if_neg (by omega)]; rfl
theorem rl_ks_app (a b : List rl_S) : rl_ks (a ++ b) = rl_ks a ++ rl_ks b := by simp [rl_ks]
theorem rl_ks_one (q : rl_S) : rl_ks [q] = rl_k q := by simp [rl_ks]
theorem pThen_ok {x : PR} {k : Nat → List rl_S → PR} {z : Nat × List rl_S} (h : pThen x k = some (.inl z)) : ∃ i e, x = some (.inl (i, e)) ∧ k i e = some (.inl z) := by
  cases x with
  | none => cases h
  | some y => cases y with
    | inl z => obtain ⟨i, e⟩ := z; exact ⟨i, e, rfl, h⟩
    | inr z => cases h
theorem pThen_none {x : PR} {k : Nat → List rl_S → PR} (h : pThen x k = none) : x = none ∨ ∃ i e, x = some (.inl (i, e)) ∧ k i e = none := by
  cases x with
  | none => exact Or.inl rfl
  | some y => cases y with
    | inl z => obtain ⟨i, e⟩ := z; exact Or.inr ⟨i, e, rfl, h⟩
    | inr z => cases h
def kap (m d : Nat) : Nat := if m = 0 then 1 + 2 * (4 - d) else if m = 1 ∨ m = 3 then 2 + 2 * (4 - d) else 3 + 2 * (4 - d)
/-- what a good end says -/
theorem pP_ok {T : TS} {N : Nat} (hT : TOK T N) : ∀ (f m d i : Nat) (e : List rl_S) (i' : Nat) (e' : List rl_S), m ≤ 4 → d ≤ 4 → i ≤ N → pP T f m d i e = some (.inl (i', e')) →
    i ≤ i' ∧ i' ≤ N ∧ (m < 3 → i < i') ∧ T.2.2.2 i ≤ T.2.2.2 i' ∧ ∃ e2, e' = e ++ e2 ∧ T.2.2.2 i + 2 * e2.length ≤ T.2.2.2 i' ∧ 6 * T.2.2.2 i + 5 * (rl_ks e2).length ≤ 6 * T.2.2.2 i' + (if m < 3 then 7 else 0) ∧ (if m < 3 then sg e2 (kap m d) else sl e2 (kap m d)) := by
  intro f
  induction f with
  | zero => intro m d i e i' e' _ _ _ h; cases h
  | succ f ih =>
    intro m d i e i' e' hm hd hi h
    rw [pP] at h
    by_cases h0 : m = 0
    · subst h0
      simp only [if_true] at h
      by_cases h1 : T.1 i = 11
      · rw [if_pos h1] at h
        by_cases h2 : 4 ≤ d
        · rw [if_pos h2] at h; cases h
        · rw [if_neg h2] at h
          have hlt := hT.lt hi (by omega)
          have hq := hT.2.2.2.2.2 i hlt (Or.inr h1)
          obtain ⟨j, e1, hx, h3⟩ := pThen_ok h
          cases h3
          obtain ⟨a1, a2, a3, a4, e2, rfl, a5, a6, a7⟩ := ih 0 (d + 1) (i + 1) e i' e1 (by omega) (by omega) hlt hx
          refine ⟨by omega, a2, fun _ => by omega, by omega, e2 ++ [(3, 0, 0)], by simp, by simp; omega, ?_, ?_⟩
          · rw [rl_ks_app, rl_ks_one, List.length_append, rl_kJ 3 (by omega)]
            simp at a6 ⊢; omega
          · simp only [show (0 : Nat) < 3 by decide, if_true] at a7 ⊢
            intro t D hD ht
            rw [List.append_assoc]
            refine a7 _ D (by simp only [kap, if_true] at hD ⊢; omega) ?_
            exact ⟨by decide, by simp only [show ¬ (3 : Nat) < 3 by decide, if_false, if_true]; exact ⟨by omega, ht⟩⟩
      · rw [if_neg h1] at h
        by_cases h2 : T.1 i = 40
        · rw [if_pos h2] at h
          by_cases h3 : 4 ≤ d
          · rw [if_pos h3] at h; cases h
          · rw [if_neg h3] at h
            have hlt := hT.lt hi (by omega)
            have hq := hT.2.2.2.1 i hlt
            obtain ⟨j, e1, hx, h4⟩ := pThen_ok h
            by_cases h5 : T.1 j = 41
            · rw [if_pos h5] at h4
              simp only [Option.some.injEq, Sum.inl.injEq, Prod.mk.injEq] at h4
              obtain ⟨rfl, h6⟩ := h4
              rw [← h6]
              obtain ⟨a1, a2, a3, a4, e2, rfl, a5, a6, a7⟩ := ih 2 (d + 1) (i + 1) e j e1 (by omega) (by omega) hlt hx
              have hlt2 := hT.lt a2 (by omega)
              have hq2 := hT.2.2.2.1 j hlt2
              refine ⟨by omega, hlt2, fun _ => by omega, by omega, e2, rfl, by omega, ?_, ?_⟩
              · simp at a6 ⊢; omega
              · simp only [show (0 : Nat) < 3 by decide, show (2 : Nat) < 3 by decide, if_true] at a7 ⊢
                intro t D hD ht
                exact a7 t D (by simp [kap] at hD ⊢; omega) ht
            · rw [if_neg h5] at h4; cases h4
        · rw [if_neg h2] at h
          split at h
          · rename_i j c hc
            cases h
            obtain ⟨rfl, o, a, b, rfl, b1, b2, b3, b4, b5, b6⟩ := pCmp_ok hc
            have l1 := hT.lt hi b4
            have l2 := hT.lt (i := i + 1) l1 b5
            have l3 := hT.lt (i := i + 2) l2 b6
            have q1 := hT.2.2.2.1 i l1
            have q2 : T.2.2.2 (i + 1) < T.2.2.2 (i + 2) := hT.2.2.2.1 (i + 1) l2
            have q3 : T.2.2.2 (i + 2) < T.2.2.2 (i + 3) := hT.2.2.2.1 (i + 2) l3
            refine ⟨by omega, l3, fun _ => by omega, by omega, _, rfl, by simp; omega, ?_, ?_⟩
            · rw [rl_ks_one]
              have := rl_kL o a b
              simp; omega
            · simp only [show (0 : Nat) < 3 by decide, if_true]
              intro t D hD ht
              exact ⟨by show o < 6; omega, by simp only [b1, if_true]; exact ⟨b2, b3, by simp [kap] at hD; omega, ht⟩⟩
          · cases h
    · rw [if_neg h0] at h
      by_cases h1 : m = 1
      · subst h1
        simp only [if_true] at h
        obtain ⟨j, e1, hx, h2⟩ := pThen_ok h
        obtain ⟨a1, a2, a3, a4, e2, rfl, a5, a6, a7⟩ := ih 0 d i e j e1 (by omega) hd hi hx
        obtain ⟨c1, c2, c3, c4, e3, rfl, c5, c6, c7⟩ := ih 3 d j _ i' e' (by omega) hd a2 h2
        have a3 := a3 (by omega)
        refine ⟨by omega, c2, fun _ => by omega, by omega, e2 ++ e3, by simp, by simp; omega, ?_, ?_⟩
        · rw [rl_ks_app, List.length_append]; simp at a6 c6 ⊢; omega
        · simp only [show (0 : Nat) < 3 by decide, show (1 : Nat) < 3 by decide, show ¬ (3 : Nat) < 3 by decide, if_true, if_false] at a7 c7 ⊢
          intro t D hD ht
          rw [List.append_assoc]
          refine a7 _ D (by simp [kap] at hD ⊢; omega) (c7 t D (by simp [kap] at hD ⊢; omega) ht)
      · rw [if_neg h1] at h
        by_cases h2 : m = 2
        · subst h2
          simp only [if_true] at h
          obtain ⟨j, e1, hx, h2⟩ := pThen_ok h
          obtain ⟨a1, a2, a3, a4, e2, rfl, a5, a6, a7⟩ := ih 1 d i e j e1 (by omega) hd hi hx
          obtain ⟨c1, c2, c3, c4, e3, rfl, c5, c6, c7⟩ := ih 4 d j _ i' e' (by omega) hd a2 h2
          have a3 := a3 (by omega)
          refine ⟨by omega, c2, fun _ => by omega, by omega, e2 ++ e3, by simp, by simp; omega, ?_, ?_⟩
          · rw [rl_ks_app, List.length_append]; simp at a6 c6 ⊢; omega
          · simp only [show (2 : Nat) < 3 by decide, show (1 : Nat) < 3 by decide, show ¬ (4 : Nat) < 3 by decide, if_true, if_false] at a7 c7 ⊢
            intro t D hD ht
            rw [List.append_assoc]
            refine a7 _ D (by simp [kap] at hD ⊢; omega) (c7 t D (by simp [kap] at hD ⊢; omega) ht)
        · rw [if_neg h2] at h
          by_cases h3 : m = 3
          · subst h3
            simp only [if_true] at h
            by_cases h4 : T.1 i = 10
            · rw [if_pos h4] at h
              have hlt := hT.lt hi (by omega)
              have hq := hT.2.2.2.2.2 i hlt (Or.inl h4)
              obtain ⟨j, e1, hx, h5⟩ := pThen_ok h
              obtain ⟨a1, a2, a3, a4, e2, rfl, a5, a6, a7⟩ := ih 0 d (i + 1) e j e1 (by omega) hd hlt hx
              obtain ⟨c1, c2, c3, c4, e3, rfl, c5, c6, c7⟩ := ih 3 d j _ i' e' (by omega) hd a2 h5
              refine ⟨by omega, c2, fun q => by omega, by omega, e2 ++ [(4, 0, 0)] ++ e3, by simp, by simp; omega, ?_, ?_⟩
              · rw [rl_ks_app, rl_ks_app, rl_ks_one, List.length_append, List.length_append, rl_kJ 4 (by omega)]; simp at a6 c6 ⊢; omega
              · simp only [show (0 : Nat) < 3 by decide, show ¬ (3 : Nat) < 3 by decide, if_true, if_false] at a7 c7 ⊢
                intro t D hD ht
                rw [List.append_assoc, List.append_assoc]
                refine a7 _ (D + 1) (by simp [kap] at hD ⊢; omega) ?_
                refine ⟨by decide, ?_⟩
                simp only [show ¬ (4 : Nat) < 3 by decide, show ¬ (4 : Nat) = 3 by decide, if_false]
                exact ⟨by omega, c7 t D (by simp [kap] at hD ⊢; omega) ht⟩
            · rw [if_neg h4] at h
              cases h
              refine ⟨Nat.le_refl _, hi, fun q => by omega, Nat.le_refl _, [], by simp, by simp, by simp [rl_ks], ?_⟩
              simp only [show ¬ (3 : Nat) < 3 by decide, if_false]
              intro t D _ ht; exact ht
          · rw [if_neg h3] at h
            have h4 : m = 4 := by omega
            subst h4
            by_cases h5 : T.1 i = 9
            · rw [if_pos h5] at h
              have hlt := hT.lt hi (by omega)
              have hq := hT.2.2.2.2.1 i hlt h5
              obtain ⟨j, e1, hx, h6⟩ := pThen_ok h
              obtain ⟨a1, a2, a3, a4, e2, rfl, a5, a6, a7⟩ := ih 1 d (i + 1) e j e1 (by omega) hd hlt hx
              obtain ⟨c1, c2, c3, c4, e3, rfl, c5, c6, c7⟩ := ih 4 d j _ i' e' (by omega) hd a2 h6
              refine ⟨by omega, c2, fun q => by omega, by omega, e2 ++ [(5, 0, 0)] ++ e3, by simp, by simp; omega, ?_, ?_⟩
              · rw [rl_ks_app, rl_ks_app, rl_ks_one, List.length_append, List.length_append, rl_kJ 5 (by omega)]; simp at a6 c6 ⊢; omega
              · simp only [show (1 : Nat) < 3 by decide, show ¬ (4 : Nat) < 3 by decide, if_true, if_false] at a7 c7 ⊢
                intro t D hD ht
                rw [List.append_assoc, List.append_assoc]
                refine a7 _ (D + 1) (by simp [kap] at hD ⊢; omega) ?_
                refine ⟨by decide, ?_⟩
                simp only [show ¬ (5 : Nat) < 3 by decide, show ¬ (5 : Nat) = 3 by decide, if_false]
                exact ⟨by omega, c7 t D (by simp [kap] at hD ⊢; omega) ht⟩
            · rw [if_neg h5] at h
              cases h
              refine ⟨Nat.le_refl _, hi, fun q => by omega, Nat.le_refl _, [], by simp, by simp, by simp [rl_ks], ?_⟩
              simp only [show ¬ (4 : Nat) < 3 by decide, if_false]
              intro t D _ ht; exact ht
/-- so many turns are enough -/
def fneed (N m i : Nat) : Nat := 5 * (N + 1 - i) + (if m = 0 then 1 else if m = 1 ∨ m = 3 then 2 else 3)
theorem pP_ends {T : TS} {N : Nat} (hT : TOK T N) : ∀ (f m d i : Nat) (e : List rl_S), m ≤ 4 → d ≤ 4 → i ≤ N → fneed N m i ≤ f → pP T f m d i e ≠ none := by
  intro f
  induction f with
  | zero => intro m d i e hm hd hi hf; unfold fneed at hf; split at hf <;> omega
  | succ f ih =>
    intro m d i e hm hd hi hf h
    rw [pP] at h
    by_cases h0 : m = 0
    · subst h0
      simp only [if_true] at h
      simp only [fneed, if_true] at hf
      by_cases h1 : T.1 i = 11
      · rw [if_pos h1] at h
        have hlt := hT.lt hi (by omega)
        by_cases h2 : 4 ≤ d
        · rw [if_pos h2] at h; cases h
        · rw [if_neg h2] at h
          rcases pThen_none h with q | ⟨j, e1, -, q⟩
          · exact ih 0 (d + 1) (i + 1) e (by omega) (by omega) hlt (by simp [fneed]; omega) q
          · cases q
      · rw [if_neg h1] at h
        by_cases h2 : T.1 i = 40
        · rw [if_pos h2] at h
          have hlt := hT.lt hi (by omega)
          by_cases h3 : 4 ≤ d
          · rw [if_pos h3] at h; cases h
          · rw [if_neg h3] at h
            rcases pThen_none h with q | ⟨j, e1, -, q⟩
            · exact ih 2 (d + 1) (i + 1) e (by omega) (by omega) hlt (by simp [fneed]; omega) q
            · split at q <;> cases q
        · rw [if_neg h2] at h
          split at h <;> cases h
    · rw [if_neg h0] at h
      by_cases h1 : m = 1
      · subst h1
        simp only [if_true] at h
        simp [fneed] at hf
        rcases pThen_none h with q | ⟨j, e1, hx, q⟩
        · exact ih 0 d i e (by omega) hd hi (by simp [fneed]; omega) q
        · obtain ⟨a1, a2, a3, -⟩ := pP_ok hT f 0 d i e j e1 (by omega) hd hi hx
          have := a3 (by omega)
          exact ih 3 d j e1 (by omega) hd a2 (by simp [fneed]; omega) q
      · rw [if_neg h1] at h
        by_cases h2 : m = 2
        · subst h2
          simp only [if_true] at h
          simp [fneed] at hf
          rcases pThen_none h with q | ⟨j, e1, hx, q⟩
          · exact ih 1 d i e (by omega) hd hi (by simp [fneed]; omega) q
          · obtain ⟨a1, a2, a3, -⟩ := pP_ok hT f 1 d i e j e1 (by omega) hd hi hx
            have := a3 (by omega)
            exact ih 4 d j e1 (by omega) hd a2 (by simp [fneed]; omega) q
        · rw [if_neg h2] at h
          by_cases h3 : m = 3
          · subst h3
            simp only [if_true] at h
            simp [fneed] at hf
            by_cases h4 : T.1 i = 10
            · rw [if_pos h4] at h
              have hlt := hT.lt hi (by omega)
              rcases pThen_none h with q | ⟨j, e1, hx, q⟩
              · exact ih 0 d (i + 1) e (by omega) hd hlt (by simp [fneed]; omega) q
              · obtain ⟨a1, a2, a3, -⟩ := pP_ok hT f 0 d (i + 1) e j e1 (by omega) hd hlt hx
                exact ih 3 d j _ (by omega) hd a2 (by simp [fneed]; omega) q
            · rw [if_neg h4] at h; cases h
          · rw [if_neg h3] at h
            have h4 : m = 4 := by omega
            subst h4
            simp [fneed] at hf
            by_cases h5 : T.1 i = 9
            · rw [if_pos h5] at h
              have hlt := hT.lt hi (by omega)
              rcases pThen_none h with q | ⟨j, e1, hx, q⟩
              · exact ih 1 d (i + 1) e (by omega) hd hlt (by simp [fneed]; omega) q
              · obtain ⟨a1, a2, a3, -⟩ := pP_ok hT f 1 d (i + 1) e j e1 (by omega) hd hlt hx
                exact ih 4 d j _ (by omega) hd a2 (by simp [fneed]; omega) q
            · rw [if_neg h5] at h; cases h
