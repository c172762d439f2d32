/-! ===== the array of petitions is written; what stays then ===== -/
theorem pb_n28 {c : Nat} (hc : PB c) (k : Nat := 0) (hk : k < 10 := by decide) : c + k ≠ 28 := by
  rcases hc with rfl | ⟨i, hi, rfl⟩ <;> omega
theorem pb_n0 {c : Nat} (hc : PB c) : 8 ≤ c := by
  rcases hc with rfl | ⟨i, hi, rfl⟩ <;> omega
/-- only 'now' and the rows behind it differ -/
def RF (R R' : Nat → Nat → Option Nat) : Prop := ∀ a j, a ≠ 28 → ¬ (a = 0 ∧ j = 6) → R' a j = R a j
theorem RS.fr {R R' : Nat → Nat → Option Nat} (h : RS R) (hf : RF R R') : RS R' := by
  have k : ∀ a j q, a ≠ 28 → ¬ (a = 0 ∧ j = 6) → R a j = some q → R' a j = some q := fun a j q h1 h2 h3 => by rw [hf a j h1 h2]; exact h3
  exact ⟨⟨k 0 0 _ (by decide) (by decide) (h.1.1),
    k 0 1 _ (by decide) (by decide) (h.1.2.1),
    k 0 2 _ (by decide) (by decide) (h.1.2.2.1),
    k 0 3 _ (by decide) (by decide) (h.1.2.2.2.1),
    k 0 4 _ (by decide) (by decide) (h.1.2.2.2.2.1),
    k 1 0 _ (by decide) (by decide) (h.1.2.2.2.2.2.1),
    k 1 1 _ (by decide) (by decide) (h.1.2.2.2.2.2.2.1),
    k 2 0 _ (by decide) (by decide) (h.1.2.2.2.2.2.2.2.1),
    k 2 1 _ (by decide) (by decide) (h.1.2.2.2.2.2.2.2.2.1),
    k 2 2 _ (by decide) (by decide) (h.1.2.2.2.2.2.2.2.2.2.1),
    k 2 3 _ (by decide) (by decide) (h.1.2.2.2.2.2.2.2.2.2.2.1),
    k 6 0 _ (by decide) (by decide) (h.1.2.2.2.2.2.2.2.2.2.2.2.1),
    k 18 0 _ (by decide) (by decide) (h.1.2.2.2.2.2.2.2.2.2.2.2.2.1),
    k 18 1 _ (by decide) (by decide) (h.1.2.2.2.2.2.2.2.2.2.2.2.2.2.1),
    k 18 2 _ (by decide) (by decide) (h.1.2.2.2.2.2.2.2.2.2.2.2.2.2.2.1),
    k 18 4 _ (by decide) (by decide) (h.1.2.2.2.2.2.2.2.2.2.2.2.2.2.2.2.1),
    k 18 5 _ (by decide) (by decide) (h.1.2.2.2.2.2.2.2.2.2.2.2.2.2.2.2.2.1),
    k 18 6 _ (by decide) (by decide) (h.1.2.2.2.2.2.2.2.2.2.2.2.2.2.2.2.2.2.1),
    k 25 0 _ (by decide) (by decide) (h.1.2.2.2.2.2.2.2.2.2.2.2.2.2.2.2.2.2.2.1),
    k 25 1 _ (by decide) (by decide) (h.1.2.2.2.2.2.2.2.2.2.2.2.2.2.2.2.2.2.2.2.1),
    k 119 1 _ (by decide) (by decide) (h.1.2.2.2.2.2.2.2.2.2.2.2.2.2.2.2.2.2.2.2.2.1),
    k 119 8 _ (by decide) (by decide) (h.1.2.2.2.2.2.2.2.2.2.2.2.2.2.2.2.2.2.2.2.2.2.1),
    k 119 9 _ (by decide) (by decide) (h.1.2.2.2.2.2.2.2.2.2.2.2.2.2.2.2.2.2.2.2.2.2.2.1),
    k 119 10 _ (by decide) (by decide) (h.1.2.2.2.2.2.2.2.2.2.2.2.2.2.2.2.2.2.2.2.2.2.2.2.1),
    k 119 11 _ (by decide) (by decide) (h.1.2.2.2.2.2.2.2.2.2.2.2.2.2.2.2.2.2.2.2.2.2.2.2.2.1),
    k 119 16 _ (by decide) (by decide) (h.1.2.2.2.2.2.2.2.2.2.2.2.2.2.2.2.2.2.2.2.2.2.2.2.2.2.1),
    k 119 17 _ (by decide) (by decide) (h.1.2.2.2.2.2.2.2.2.2.2.2.2.2.2.2.2.2.2.2.2.2.2.2.2.2.2.1),
    k 119 18 _ (by decide) (by decide) (h.1.2.2.2.2.2.2.2.2.2.2.2.2.2.2.2.2.2.2.2.2.2.2.2.2.2.2.2.1),
    k 119 20 _ (by decide) (by decide) (h.1.2.2.2.2.2.2.2.2.2.2.2.2.2.2.2.2.2.2.2.2.2.2.2.2.2.2.2.2.1),
    k 124 0 _ (by decide) (by decide) (h.1.2.2.2.2.2.2.2.2.2.2.2.2.2.2.2.2.2.2.2.2.2.2.2.2.2.2.2.2.2.1),
    k 124 1 _ (by decide) (by decide) (h.1.2.2.2.2.2.2.2.2.2.2.2.2.2.2.2.2.2.2.2.2.2.2.2.2.2.2.2.2.2.2.1),
    k 124 2 _ (by decide) (by decide) (h.1.2.2.2.2.2.2.2.2.2.2.2.2.2.2.2.2.2.2.2.2.2.2.2.2.2.2.2.2.2.2.2.1),
    k 124 3 _ (by decide) (by decide) (h.1.2.2.2.2.2.2.2.2.2.2.2.2.2.2.2.2.2.2.2.2.2.2.2.2.2.2.2.2.2.2.2.2.1),
    k 124 4 _ (by decide) (by decide) (h.1.2.2.2.2.2.2.2.2.2.2.2.2.2.2.2.2.2.2.2.2.2.2.2.2.2.2.2.2.2.2.2.2.2.1),
    k 124 5 _ (by decide) (by decide) (h.1.2.2.2.2.2.2.2.2.2.2.2.2.2.2.2.2.2.2.2.2.2.2.2.2.2.2.2.2.2.2.2.2.2.2.1),
    k 124 6 _ (by decide) (by decide) (h.1.2.2.2.2.2.2.2.2.2.2.2.2.2.2.2.2.2.2.2.2.2.2.2.2.2.2.2.2.2.2.2.2.2.2.2.1),
    k 124 7 _ (by decide) (by decide) (h.1.2.2.2.2.2.2.2.2.2.2.2.2.2.2.2.2.2.2.2.2.2.2.2.2.2.2.2.2.2.2.2.2.2.2.2.2)⟩,
    fun c hc => ⟨k c 1 _ (pb_n28 hc) (fun q => by have := pb_n0 hc; omega) ((h.2 c hc).1),
    k c 2 _ (pb_n28 hc) (fun q => by have := pb_n0 hc; omega) ((h.2 c hc).2.1),
    k c 3 _ (pb_n28 hc) (fun q => by have := pb_n0 hc; omega) ((h.2 c hc).2.2.1),
    k c 7 _ (pb_n28 hc) (fun q => by have := pb_n0 hc; omega) ((h.2 c hc).2.2.2.1),
    k c 8 _ (pb_n28 hc) (fun q => by have := pb_n0 hc; omega) ((h.2 c hc).2.2.2.2.1),
    k c 9 _ (pb_n28 hc) (fun q => by have := pb_n0 hc; omega) ((h.2 c hc).2.2.2.2.2.1),
    k c 10 _ (pb_n28 hc) (fun q => by have := pb_n0 hc; omega) ((h.2 c hc).2.2.2.2.2.2.1),
    k c 16 _ (pb_n28 hc) (fun q => by have := pb_n0 hc; omega) ((h.2 c hc).2.2.2.2.2.2.2.1),
    k (c + 8) 0 _ (pb_n28 hc 8 (by decide)) (fun q => by omega) ((h.2 c hc).2.2.2.2.2.2.2.2)⟩⟩
theorem RF.rf (R : Nat → Nat → Option Nat) : RF R R := fun _ _ _ _ => rfl
theorem RF.up6 {R R' : Nat → Nat → Option Nat} {v} (h : RF R R') : RF R (pd_up R' 0 6 v) := fun a j h1 h2 => by
  show (if a = 0 ∧ j = 6 then v else R' a j) = _
  rw [if_neg h2]; exact h a j h1 h2
theorem RF.up28 {R R' : Nat → Nat → Option Nat} {v} {i : Nat} (h : RF R R') : RF R (pd_up R' 28 i v) := fun a j h1 h2 => by
  rw [pd_up_ne h1]; exact h a j h1 h2
theorem at_aast {G : pd_G} {mi : pd_MI} {h mc ms cs ss pc : Nat} {lo : List (Option Value)} {st : List Value} {Q : pd_O → pd_M → Prop} {S : List (Nat × Nat)} {fx : Bool} {I L R} {k n v n2 : Nat} {i : Int32} (hs : S[k]? = some (12, n)) (hv : S[v]? = some (2, n2)) (hin : vp_in i n) (hdg : decode mi.2.1 pc = .ok (.aastore, 1)) (K : pd_At G mi h mc ms cs ss (pc + 1) lo st (S, fx, I, L, pd_up R k i.toNatClampNeg (some v)) Q) : pd_At G mi h mc ms cs ss pc lo (.ref (pd_z G + v) :: .int i :: .ref (pd_z G + k) :: st) (S, fx, I, L, R) Q := by
  intro d p e s m args below meth c H locs ls hd F hS hW hlv
  have hlt : i.toNatClampNeg < n := Nat.not_le.mp fun q => hin (Or.inr q)
  have h0 : ¬ i < 0 := fun q => hin (Or.inl q)
  have he := pd_ws_get (G := G) (I := I) (L := L) (R := R) hv
  rw [pd_ce_obj (by decide)] at he
  obtain ⟨r', hr', cellV, g1, g2, g3, -⟩ := hW.1 v _ he
  have hK := F.2.2.2.2.2.2.2.2.2.1
  have hcls := (hK.1 2 _ rfl).2
  obtain ⟨kA, comp, k1, k2, k3, -⟩ := (hK.2 3 _ rfl).2
  have hcomp : comp = G.2.1.1 2 := Option.some.inj (k3.symm.trans hcls.1)
  subst hcomp
  obtain ⟨kC, hkC, -⟩ := hcls.2
  refine W.aast F.1 F.2.1 (hW.1 k _ (pd_ws_get hs)) (fun q h => by cases h) (fun h => by cases h) k1 k2 rfl hkC ⟨h0, by show _ < (arrV _ _ _).slots.size; rw [arrV_size]; exact hlt⟩ g1 (fun q h => by rw [g3] at h; cases h) (by rw [g2]; exact hkC) (by rw [g2]; exact va_assign hcls) rfl rfl hdg fun H1 e1 z oq => ?_
  refine K d p e s m args below meth c H1 _ ls hd F (hS.put z oq (Nat.le_add_right _ _)) (pd_Wd_set hW hs ?_ (fun _ _ => rfl) (fun _ _ => rfl) (fun a ha => pd_up_ne ha) z oq) hlv
  show H1[pd_z G + k]? = some (vp_cell _ _)
  rw [e1]
  rw [vp_cell_q, vp_cell_q, arrV_store]
  congr 2
  funext q
  by_cases hq : q = i.toNatClampNeg
  · subst hq
    simp [updV, pd_up, pd_rr, va_rf]
  · simp [updV, pd_up, hq, pd_rr]
