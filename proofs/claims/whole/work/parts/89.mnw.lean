/-! ===== new int[8][1105] in the reference's constructor ===== -/
section MNW2
theorem aw_ii : Cond.arrayOver (.array .int) ∈ lw_tbl := by decide +kernel
theorem at_mnew {G : pd_G} {mi : pd_MI} {h mc ms cs ss pc : Nat} {lo : List (Option Value)} {st : List Value} {Q : pd_O → pd_M → Prop} {S : List (Nat × Nat)} {I L R} {idx : Nat} {n k : Int32} (N Kn : Nat) (hkl : Cond.classLink mi.1.cls idx "[[I" ∈ pd_TB) (hn0 : ¬ n < 0) (hne : (n == 0) = false) (hk0 : ¬ k < 0) (hN : n.toNatClampNeg = N) (hKn : k.toNatClampNeg = Kn) (hN2 : N ≤ 100000) (hK2 : Kn ≤ 100000) (hf : pd_fresh S I L R) (hb : cs + 1 + N ≤ mc ∧ ss + N + N * Kn ≤ ms) (hdg : decode mi.2.1 pc = .ok (.multianewarray idx 2, 4))
    (K : pd_At G mi h mc ms (cs + 1 + N) (ss + N + N * Kn) (pc + 4) lo (.ref (pd_z G + S.length) :: st) (S ++ (13, N) :: List.replicate N (9, Kn), true, I, L, fun a j => if a = S.length ∧ j < N then some (S.length + 1 + j) else R a j) Q) : pd_At G mi h mc ms cs ss pc lo (.int k :: .int n :: st) (S, true, I, L, R) Q := by
  intro d p e s m args below meth c H locs ls hd F hS hW hlv
  have hts := F.2.2.2.2.2.1
  have hK := F.2.2.2.2.2.2.2.2.2.1
  have hsz : H.size = pd_z G + S.length := hW.2.2.2 rfl
  have hal := F.2.2.2.2.2.2.2.2.1.alike
  obtain ⟨comp, cA, kA, hcomp, hidx, hkA, hkindA, hnameA⟩ := arrayOverA_spec (F.2.2.2.2.2.2.2.1.2.2.1 _ aw_ii)
  obtain ⟨kA1, hkA1, he⟩ := hal.2.2 _ _ hkA
  have hcompS : s.vm.findClass "[I" = some comp := by rw [hal.findClass]; exact hcomp
  have hnameS : s.vm.findClass "[[I" = some cA := by rw [hal.findClass]; exact hnameA
  have e0 : comp = G.2.2.1 0 := Option.some.inj (hcompS.symm.trans (hK.2 0 _ rfl).2)
  have e4 : cA = G.2.2.1 4 := Option.some.inj (hnameS.symm.trans (hK.2 4 _ rfl).2)
  subst e0
  subst e4
  obtain ⟨-, kI, hkI, compI, hkindI⟩ := (hK.2 0 _ rfl).1 0 (fun _ => .null)
  have hkindA1 : kA1.kind = .array (G.2.2.1 0) (.array .int) := by rw [he]; exact hkindA
  refine mn_W (N := N) (K := Kn) F.1 F.2.1 F.2.2.2.2.1 (hts _ hkl) hnameS hkA1 hkindA1 hkI hkindI rfl hdg rfl hn0 hne hk0 hN hKn hN2 hK2 hb.1 hb.2 fun H' locs' hl hz ho hO hI => ?_
  rw [hsz]
  refine K d p e s m args below meth c H' locs' ls hd F ⟨Nat.le_trans hS.1 (by omega), fun x h1 h2 => (ho x (Nat.lt_of_lt_of_le h1 hS.1)).trans (hS.2.1 x h1 h2), fun q hq => (hl q hq).elim (hS.2.2 q) (fun h => by rw [h]; show pd_z G ≤ H.size; omega)⟩ ⟨?_, fun q hq => (ho q (by omega)).trans (hW.2.1 q hq), ?_, fun _ => ?_⟩ hlv
  · intro k q hk
    have hlen := (pd_ws_of hk).1
    have hlen2 : k < S.length + (N + 1) := by simpa using hlen
    by_cases h1 : k < S.length
    · have hx : S[k]? = some S[k] := List.getElem?_eq_getElem h1
      have hx2 : (S ++ (13, N) :: List.replicate N (9, Kn))[k]? = some S[k] := by rw [List.getElem?_append_left h1]; exact hx
      have e1 := pd_ws_get (G := G) (I := I) (L := L) (R := fun a j => if a = S.length ∧ j < N then some (S.length + 1 + j) else R a j) hx2
      cases Option.some.inj (e1.symm.trans hk)
      have e2 : (fun j => if k = S.length ∧ j < N then some (S.length + 1 + j) else R k j) = R k := by
        funext j; rw [if_neg (fun h => by omega)]
      rw [e2]
      exact (hW.1.kept (fun k q hk => ho q.1 ((hW.1 k q hk).lt))) k _ (pd_ws_get hx)
    · by_cases h2 : k = S.length
      · subst h2
        have hx2 : (S ++ (13, N) :: List.replicate N (9, Kn))[S.length]? = some (13, N) := by rw [List.getElem?_append_right (Nat.le_refl _), Nat.sub_self]; rfl
        have e1 := pd_ws_get (G := G) (I := I) (L := L) (R := fun a j => if a = S.length ∧ j < N then some (S.length + 1 + j) else R a j) hx2
        cases Option.some.inj (e1.symm.trans hk)
        show H'[pd_z G + S.length]? = some (vp_cell _ _)
        rw [← hsz, hO, vp_cell_q]
        congr 2
        funext j
        have hR := (hf S.length (Nat.le_refl _)).2.2 j
        by_cases hj : j < N
        · rw [if_pos hj]
          simp only [pd_rr, hj, and_self, if_true, Option.map_some, va_rf]
          exact congrArg Value.ref (show (H.size + 1 + j : Nat) = pd_z G + (S.length + 1 + j) by omega)
        · rw [if_neg hj]
          simp only [pd_rr, hj, and_false, if_false, hR, Option.map_none, va_rf]
      · have hi : k = S.length + 1 + (k - S.length - 1) := by omega
        generalize k - S.length - 1 = i at hi
        subst hi
        have hi8 : i < N := by omega
        have hx2 : (S ++ (13, N) :: List.replicate N (9, Kn))[S.length + 1 + i]? = some (9, Kn) := by
          rw [List.getElem?_append_right (by omega), show S.length + 1 + i - S.length = i + 1 by omega, List.getElem?_cons_succ, List.getElem?_replicate, if_pos hi8]
        have e1 := pd_ws_get (G := G) (I := I) (L := L) (R := fun a j => if a = S.length ∧ j < N then some (S.length + 1 + j) else R a j) hx2
        cases Option.some.inj (e1.symm.trans hk)
        show H'[pd_z G + (S.length + 1 + i)]? = some (vp_cell _ _)
        rw [show pd_z G + (S.length + 1 + i) = H.size + 1 + i by omega, hI i hi8, vp_cell_i]
        congr 2
        funext j
        rw [(hf (S.length + 1 + i) (by omega)).1 j]
  · show pd_z G + (S ++ (13, N) :: List.replicate N (9, Kn)).length ≤ _
    rw [List.length_append, hz, hsz]; simp; omega
  · show _ = pd_z G + (S ++ (13, N) :: List.replicate N (9, Kn)).length
    rw [List.length_append, hz, hsz]; simp; omega
theorem mnw (G : pd_G) : MNW G := by
  intro h mc ms cs ss lo st Q S I L R hf hb K
  refine at_mnew (mi := mi_X9_init) 8 1105 klX9_26 (by decide) (by decide) (by decide) (by decide) (by decide) (by decide) (by decide) hf ⟨by omega, by omega⟩ dX9_init_49 ?_
  rw [show cs + 1 + 8 = cs + 9 by omega, show ss + 8 + 8 * 1105 = ss + 8848 by omega]
  exact K
end MNW2
