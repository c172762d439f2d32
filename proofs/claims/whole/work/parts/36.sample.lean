/-! ===== the desk: samples drawn ===== -/
theorem pfirst_cg {p q : Nat → Bool} : ∀ (k i : Nat), (∀ j, j < i + k → p j = q j) → pfirst p k i = pfirst q k i
  | 0, _, _ => rfl
  | k + 1, i, h => by
    have h0 := h i (by omega)
    by_cases hpi : p i = true
    · rw [pfirst_yes hpi, pfirst_yes (h0 ▸ hpi), pfirst_cg k (i + 1) (fun j hj => h j (by omega))]
    · have hpf : p i = false := by simpa using hpi
      rw [pfirst_no hpf, pfirst_no (h0 ▸ hpf)]
section CONG
variable {r r' : Nat → Int32} {nv ns nl : Nat} {e : List rl_S}
/-- what is judged of the lines doesn't see what lies behind them -/
theorem cg_W (h : ∀ k, k < 225 → r' k = r k) (hv : nv ≤ 16) {l : Nat} (hl : l < 40) : rW r' nv l = rW r nv l := by
  unfold rW i_find
  rw [pfirst_cg (q := fun j => !(decide (r (9 + 3 * j) = r (65 + 4 * l)) && decide (r (10 + 3 * j) = r (66 + 4 * l)))) nv 0 (fun j hj => by simp only [h _ (show 9 + 3 * j < 225 by omega), h _ (show 10 + 3 * j < 225 by omega), h _ (show 65 + 4 * l < 225 by omega), h _ (show 66 + 4 * l < 225 by omega)])]
theorem cg_S (h : ∀ k, k < 225 → r' k = r k) {l : Nat} (hl : l < 39) : rSh r' l = rSh r l := h _ (by omega)
theorem cg_S' (h : ∀ k, k < 225 → r' k = r k) {l : Nat} (hl : l < 40) : rSh r' l = rSh r l := h _ (by omega)
theorem cg_No (h : ∀ k, k < 225 → r' k = r k) {l : Nat} (hl : l < 40) : rNo r' l = rNo r l := fb_ct_cong (fun k hk => by rw [cg_S' h (by omega), cg_S' h hl])
theorem cg_Ah (h : ∀ k, k < 225 → r' k = r k) (hv : nv ≤ 16) {l : Nat} (hl : l < 40) : rAh r' nv l = rAh r nv l := fb_ct_cong (fun k hk => by rw [cg_W h hv (by omega), cg_W h hv hl])
theorem rW_16 (hv : nv ≤ 16) (l : Nat) : (rW r nv l).toNatClampNeg ≤ 16 := by
  by_cases hq : rW r nv l = -1
  · rw [hq]; decide
  · obtain ⟨v, h1, h2⟩ := rW_lt hq
    rw [h2, nI_clamp (by omega)]; omega
theorem cg_Si (h : ∀ k, k < 225 → r' k = r k) (hv : nv ≤ 16) {l : Nat} (hl : l < 40) : rSi r' nv l = rSi r nv l := by
  unfold rSi
  have := rW_16 (r := r) hv l
  rw [cg_W h hv hl, h _ (by omega)]
theorem cg_F (h : ∀ k, k < 225 → r' k = r k) (hv : nv ≤ 16) {l : Nat} (hl : l < 40) : rF r' nv l = rF r nv l := by
  funext k
  unfold rF
  rw [h _ (by omega), h _ (by omega), cg_No h hl, cg_S' h hl, cg_Si h hv hl, cg_Ah h hv hl]
theorem cg_H (h : ∀ k, k < 225 → r' k = r k) (hv : nv ≤ 16) {l : Nat} (hl : l < 40) : rH r' nv e l = rH r nv e l := by
  unfold rH
  rw [cg_W h hv hl, h (68 + 4 * l) (by omega), h 4 (by omega), h 5 (by omega), cg_Si h hv hl, cg_F h hv hl]
theorem cg_N (h : ∀ k, k < 225 → r' k = r k) (h40 : nl ≤ 40) (s : Nat) : rN r' nl s = rN r nl s := fb_ct_cong (fun k hk => by rw [cg_S' h (by omega)])
theorem cg_Fo (h : ∀ k, k < 225 → r' k = r k) (h40 : nl ≤ 40) (s : Nat) : rFo r' nl s = rFo r nl s := fb_ct_cong (fun k hk => by rw [cg_S' h (by omega)])
theorem cg_Wr (h : ∀ k, k < 225 → r' k = r k) (hv : nv ≤ 16) (h40 : nl ≤ 40) (s : Nat) : rWr r' nv nl e s = rWr r nv nl e s := fb_ct_cong (fun k hk => by rw [cg_S' h (by omega), cg_H h hv (by omega)])
theorem cg_K (h : ∀ k, k < 225 → r' k = r k) (hv : nv ≤ 16) (h40 : nl ≤ 40) (b : Nat) {s : Nat} (hs : s < 100) : rK r' nv nl e b s = rK r nv nl e b s := by
  unfold rK
  rw [h _ (by omega), h 6 (by omega), cg_N h h40, cg_Wr h hv h40]
theorem cg_Ok (hr : Row r nv ns nl e) (h : ∀ k, k < 225 → r' k = r k) (b : Nat) {l : Nat} (hl : l < nl) : rOk r' nv nl e b l = rOk r nv nl e b l := by
  have hv := hr.1.2
  have h40 := hr.2.2.1.2
  obtain ⟨t, ht, h2⟩ := hr.2.2.2.2.2.1 l hl
  have hs8 := hr.2.1.2
  unfold rOk
  rw [cg_H h hv (by omega), cg_S' h (by omega), h2, nI_clamp (by omega), cg_K h hv h40 b (by omega)]
theorem cg_J (hr : Row r nv ns nl e) (h : ∀ k, k < 225 → r' k = r k) (b : Nat) {l : Nat} (hl : l < nl) : rJ r' nv nl e b l = rJ r nv nl e b l := by
  have hv := hr.1.2
  have h40 := hr.2.2.1.2
  obtain ⟨t, ht, h2⟩ := hr.2.2.2.2.2.1 l hl
  have hs8 := hr.2.1.2
  have e1 : fb_ct (fun k => rOk r' nv nl e b k && decide (rW r' nv k = rW r' nv l)) l = fb_ct (fun k => rOk r nv nl e b k && decide (rW r nv k = rW r nv l)) l := fb_ct_cong (fun k hk => by rw [cg_Ok hr h b (by omega), cg_W h hv (by omega), cg_W h hv (by omega)])
  unfold rJ
  rw [e1, cg_H h hv (by omega), cg_S' h (by omega), h2, nI_clamp (by omega), cg_K h hv h40 b (by omega)]
theorem cg_Vo (hr : Row r nv ns nl e) (h : ∀ k, k < 225 → r' k = r k) (b s : Nat) : rVo r' nv nl e b s = rVo r nv nl e b s := by
  have hv := hr.1.2
  have h40 := hr.2.2.1.2
  unfold rVo
  refine bsum_cong (fun v _ => ?_)
  rw [fb_ct_cong (q := fun l => rOk r nv nl e b l && (decide (rSh r l = nI s) && decide (rW r nv l = nI v))) (fun l hl => by rw [cg_Ok hr h b hl, cg_S' h (by omega), cg_W h hv (by omega)])]
theorem cg_JO {I : Nat → Nat → Int32} (hr : Row r nv ns nl e) (h : ∀ k, k < 225 → r' k = r k) (hj : JO I r nv ns nl e) : JO I r' nv ns nl e := by
  have hv := hr.1.2
  have h40 := hr.2.2.1.2
  have hs8 := hr.2.1.2
  refine ⟨⟨hj.1.1, fun l hl => by rw [cg_W h hv (by omega)]; exact hj.1.2.1 l hl, fun l hl => by rw [cg_S' h (by omega)]; exact hj.1.2.2 l hl⟩, fun l hl => by rw [cg_J hr h 0 hl]; exact hj.2.1 l hl, ?_, fun s hs => by rw [cg_Vo hr h]; exact hj.2.2.2 s hs⟩
  rw [hj.2.2.1]; congr 1
  exact bsum_cong (fun s hs => (cg_K h hv h40 0 (by omega)).symm)
end CONG
theorem lN_or (a b : Nat) : lN a ||| lN b = lN (a ||| b) := by
  apply Int64.toBitVec_inj.mp; rw [Int64.toBitVec_or, lN_bv, lN_bv, lN_bv]; apply BitVec.eq_of_getLsbD_eq; intro i hi; simp [BitVec.getLsbD_ofNat, Nat.testBit_or, hi]
theorem l_sh1 : ∀ s, s < 62 → (1 : Int64) <<< ((nI s).toInt64 &&& 63) = lN (2 ^ s) := by decide +kernel
theorem l_tb0 {x s : Nat} (hx : x < 2 ^ 62) (hs : s < 64) : lN x >>> ((nI s).toInt64 &&& 63) &&& 1 = 0 ↔ x.testBit s = false := by
  rw [l_tb hx hs]
  cases x.testBit s <;> decide
/-- the m-th of those that are p, from 0 -/
def kth (p : Nat → Bool) (n m : Nat) : Nat := pfirst (fun j => !(p j && decide (fb_ct p j = m))) n 0
theorem kth_at {p : Nat → Bool} {n m : Nat} (h : m < fb_ct p n) : kth p n m < n ∧ p (kth p n m) = true ∧ fb_ct p (kth p n m) = m := by
  obtain ⟨i, hi, h1, h2⟩ := fb_ct_kth h
  unfold kth
  rcases pfirst_out (fun j => !(p j && decide (fb_ct p j = m))) n 0 with q | q
  · have hq : p (pfirst (fun j => !(p j && decide (fb_ct p j = m))) n 0) = true ∧ fb_ct p (pfirst (fun j => !(p j && decide (fb_ct p j = m))) n 0) = m := by simpa using q
    refine ⟨?_, hq⟩
    rcases Nat.lt_or_ge (pfirst (fun j => !(p j && decide (fb_ct p j = m))) n 0) n with q2 | q2
    · exact q2
    · have := pfirst_in (fun j => !(p j && decide (fb_ct p j = m))) n 0 i (Nat.zero_le _) (by omega)
      simp [h1, h2] at this
  · have := pfirst_in (fun j => !(p j && decide (fb_ct p j = m))) n 0 i (Nat.zero_le _) (by omega)
    simp [h1, h2] at this
/-- the lines drawn -/
def drX (seed : Int32) : Nat → Int32
  | 0 => seed
  | k + 1 => drX seed k * 1103515245 + 12345
def drN (seed : Int32) (nl k : Nat) : Nat := (drX seed (k + 1)).toBitVec.toNat / 256 % (nl - k)
def drD (seed : Int32) (nl : Nat) : Nat → Nat → Bool
  | 0 => fun _ => false
  | k + 1 => fun l => drD seed nl k l || decide (l = kth (fun j => !drD seed nl k j) nl (drN seed nl k))
theorem drD_ok (seed : Int32) (nl : Nat) : ∀ k, k ≤ nl → fb_ct (drD seed nl k) nl = k ∧ ∀ l, nl ≤ l → drD seed nl k l = false
  | 0, _ => ⟨fb_ct_zero.mpr (fun _ _ => rfl), fun _ _ => rfl⟩
  | k + 1, h => by
    obtain ⟨h1, h2⟩ := drD_ok seed nl k (by omega)
    have h3 := fb_ct_not (drD seed nl k) nl
    have hlt : drN seed nl k < nl - k := Nat.mod_lt _ (by omega)
    obtain ⟨k1, k2, k3⟩ := kth_at (p := fun j => !drD seed nl k j) (n := nl) (m := drN seed nl k) (by omega)
    have k2' : drD seed nl k (kth (fun j => !drD seed nl k j) nl (drN seed nl k)) = false := by simpa using k2
    constructor
    · have e1 := fb_ct_upd (drD seed nl k) true k1
      rw [k2', h1] at e1
      simp only [Bool.false_eq_true, if_false, if_true, Nat.add_zero] at e1
      refine Eq.trans (fb_ct_cong (fun l _ => ?_)) e1
      show (drD seed nl k l || decide (l = _)) = _
      by_cases hq : l = kth (fun j => !drD seed nl k j) nl (drN seed nl k)
      · simp [hq]
      · simp [hq]
    · intro l hl
      show (drD seed nl k l || decide (l = _)) = false
      rw [h2 l hl]
      have : ¬ l = kth (fun j => !drD seed nl k j) nl (drN seed nl k) := by omega
      simp [this]
section SAMPLE
variable {G : pd_G} {I : Nat → Nat → Int32} {L : Nat → Nat → Int64} {R : Nat → Nat → Option Nat} {cn a nv ns nl : Nat} {cp : Nat → Nat} {ps : Nat → RW} {w : RW} {e : List rl_S} {r : Nat → Int32}
theorem lp_X8_index (h : CN I L R cn r nv ns nl e) {D : Nat → Bool} {K m : Nat} (hK : K < nl) (hD : D K = false) (hm : fb_ct (fun j => !D j) K = m) : ∀ (k i : Nat), i + k = K → pd_At G mi_X8_indexOfUndrawn 1 0 0 0 0 6 [some (.ref (pd_z G + 0)), some (.long (lN (bsum D 40))), none, some (.int (nI m)), some (.int (nI (fb_ct (fun j => !D j) i))), some (.int (nI i))] [] (SD, false, I, L, R) (pd_rt (.int (nI K)) (SD, false, I, L, R)) := by
  have hC := h
  obtain ⟨hR, hcn, hnow, hr, hp, hj, hT⟩ := h
  have hln := hC.lns
  have h40 := hC.l40
  have hx : bsum D 40 < 2 ^ 62 := Nat.lt_trans (bsum_lt _ _) (by decide)
  have hb : ∀ i, i < 40 → (bsum D 40).testBit i = D i := fun i hi => by rw [bsum_bit]; simp [hi]
  intro k
  induction k with
  | zero =>
    intro i hi
    have e0 : i = K := by omega
    subst e0
    rw [hm]
    refine at_iload dX8_indexOfUndrawn_6 rfl ?_
    refine at_aload_n dX8_indexOfUndrawn_8 rfl ?_
    refine at_getr (cn) flX8_48 rfl sd_0 hnow dX8_indexOfUndrawn_9 ?_
    refine at_geti flX8_98 rfl (sd_P0 hcn) dX8_indexOfUndrawn_12 ?_
    rw [hln]
    refine at_icmpge (tgt := 47) dX8_indexOfUndrawn_15 (by decide) (fun c15 => ?_) (fun c15 => ?_)
    · -- taken 15
      exact absurd c15 (nI_ge (by omega) (by omega))
    · -- not taken 15
      refine at_lload_n dX8_indexOfUndrawn_18 rfl ?_
      refine at_iload dX8_indexOfUndrawn_19 rfl ?_
      refine at_lshr dX8_indexOfUndrawn_21 ?_
      refine at_lconst dX8_indexOfUndrawn_22 pc_l1 ?_
      refine at_land dX8_indexOfUndrawn_23 ?_
      refine at_lconst dX8_indexOfUndrawn_24 pc_l0 ?_
      refine at_lcmp dX8_indexOfUndrawn_25 ?_
      refine at_ifne (tgt := 41) dX8_indexOfUndrawn_26 (by decide) (fun c26 => ?_) (fun c26 => ?_)
      · -- taken 26
        rw [lg_cmp_eq, l_tb0 hx (by omega), hb _ (by omega)] at c26; exact absurd hD c26
      · -- not taken 26
        refine at_iload dX8_indexOfUndrawn_29 rfl ?_
        refine at_iload_n dX8_indexOfUndrawn_31 rfl ?_
        refine at_icmpne (tgt := 38) dX8_indexOfUndrawn_32 (by decide) (fun c32 => ?_) (fun c32 => ?_)
        · -- taken 32
          exact absurd rfl c32
        · -- not taken 32
          refine at_iload dX8_indexOfUndrawn_35 rfl ?_
          refine at_iret rfl dX8_indexOfUndrawn_37 ?_
          exact ⟨rfl, rfl⟩
  | succ k ih =>
    intro i hi
    have h9 := ih (i + 1) (by omega)
    have hcl := fb_ct_le (fun j => !D j) i
    have hcm := fb_ct_le (fun j => !D j) K
    have e1 := fun (b : Bool) (hb : D i = b) => fb_ct_one (p := fun j => !D j) (i := i) (b := !b) (by show (!D i) = _; rw [hb])
    refine at_iload dX8_indexOfUndrawn_6 rfl ?_
    refine at_aload_n dX8_indexOfUndrawn_8 rfl ?_
    refine at_getr (cn) flX8_48 rfl sd_0 hnow dX8_indexOfUndrawn_9 ?_
    refine at_geti flX8_98 rfl (sd_P0 hcn) dX8_indexOfUndrawn_12 ?_
    rw [hln]
    refine at_icmpge (tgt := 47) dX8_indexOfUndrawn_15 (by decide) (fun c15 => ?_) (fun c15 => ?_)
    · -- taken 15
      exact absurd c15 (nI_ge (by omega) (by omega))
    · -- not taken 15
      refine at_lload_n dX8_indexOfUndrawn_18 rfl ?_
      refine at_iload dX8_indexOfUndrawn_19 rfl ?_
      refine at_lshr dX8_indexOfUndrawn_21 ?_
      refine at_lconst dX8_indexOfUndrawn_22 pc_l1 ?_
      refine at_land dX8_indexOfUndrawn_23 ?_
      refine at_lconst dX8_indexOfUndrawn_24 pc_l0 ?_
      refine at_lcmp dX8_indexOfUndrawn_25 ?_
      refine at_ifne (tgt := 41) dX8_indexOfUndrawn_26 (by decide) (fun c26 => ?_) (fun c26 => ?_)
      · -- taken 26
        rw [lg_cmp_eq, l_tb0 hx (by omega), hb _ (by omega)] at c26
        refine at_inc dX8_indexOfUndrawn_41 rfl pc_i1 rfl (Nat.le_of_ble_eq_true rfl) ?_
        refine at_goto (tgt := 6) dX8_indexOfUndrawn_44 (by decide) ?_
        first | (rw [e1 false c26] at h9; simp only [nI_1]; exact h9) | (have c27 : D i = true := (by simpa using c26); rw [e1 true c27] at h9; simp only [nI_1]; exact h9)
      · -- not taken 26
        rw [lg_cmp_eq, l_tb0 hx (by omega), hb _ (by omega)] at c26
        refine at_iload dX8_indexOfUndrawn_29 rfl ?_
        refine at_iload_n dX8_indexOfUndrawn_31 rfl ?_
        refine at_icmpne (tgt := 38) dX8_indexOfUndrawn_32 (by decide) (fun c32 => ?_) (fun c32 => ?_)
        · -- taken 32
          refine at_inc dX8_indexOfUndrawn_38 rfl pc_i1 rfl (Nat.le_of_ble_eq_true rfl) ?_
          refine at_inc dX8_indexOfUndrawn_41 rfl pc_i1 rfl (Nat.le_of_ble_eq_true rfl) ?_
          refine at_goto (tgt := 6) dX8_indexOfUndrawn_44 (by decide) ?_
          first | (rw [e1 false c26] at h9; simp only [nI_1]; exact h9) | (have c27 : D i = true := (by simpa using c26); rw [e1 true c27] at h9; simp only [nI_1]; exact h9)
        · -- not taken 32
          exfalso
          have q1 := (nI_eq (by omega) (by omega)).mp c32
          have q2 := fb_ct_kth_one (p := fun j => !D j) (i := i) (j := K) (by simp [c26]) (by simp [hD]) (by omega)
          omega
theorem ev_X8_indexOfUndrawn (h : CN I L R cn r nv ns nl e) {D : Nat → Bool} {K m : Nat} (hK : K < nl) (hD : D K = false) (hm : fb_ct (fun j => !D j) K = m) : pd_Ev G mi_X8_indexOfUndrawn 1 0 0 [.ref (pd_z G + 0), .long (lN (bsum D 40)), .int (nI m)] (SD, false, I, L, R) (pd_rt (.int (nI K)) (SD, false, I, L, R)) := by
  refine pd_ev 2 (lo := [some (.ref (pd_z G + 0)), some (.long (lN (bsum D 40))), none, some (.int (nI m)), none, none]) (by decide +kernel) (Nat.le_of_ble_eq_true rfl) rfl ?_
  refine at_iconst dX8_indexOfUndrawn_0 pc_i0 ?_
  refine at_istore dX8_indexOfUndrawn_1 rfl (Nat.le_of_ble_eq_true rfl) ?_
  refine at_iconst dX8_indexOfUndrawn_3 pc_i0 ?_
  refine at_istore dX8_indexOfUndrawn_4 rfl (Nat.le_of_ble_eq_true rfl) ?_
  exact lp_X8_index (G := G) h hK hD hm K 0 (by omega)
theorem lp_X8_draw (h : CN I L R cn r nv ns nl e) {n : Nat} (hn : n ≤ nl) (seed : Int32) : ∀ (k i : Nat), i + k = n → pd_At G mi_X8_drawLines 2 0 0 0 0 14 [some (.ref (pd_z G + 0)), some (.int (nI n)), some (.int seed), some (.long (lN (bsum (drD seed nl i) 40))), none, some (.int (drX seed i)), some (.int (nI (nl - i)))] [] (SD, false, I, L, R) (pd_rt (.long (lN (bsum (drD seed nl n) 40))) (SD, false, I, L, R)) := by
  have hC := h
  obtain ⟨hR, hcn, hnow, hr, hp, hj, hT⟩ := h
  have hln := hC.lns
  have h40 := hC.l40
  intro k
  induction k with
  | zero =>
    intro i hi
    have e0 : i = n := by omega
    subst e0
    refine at_iload dX8_drawLines_14 rfl ?_
    refine at_ifle (tgt := 69) dX8_drawLines_16 (by decide) (fun c16 => ?_) (fun c16 => ?_)
    · -- taken 16
      refine at_lload_n dX8_drawLines_69 rfl ?_
      refine at_lret rfl dX8_drawLines_70 ?_
      exact ⟨rfl, rfl⟩
    · -- not taken 16
      refine at_iload dX8_drawLines_19 rfl ?_
      refine at_aload_n dX8_drawLines_21 rfl ?_
      refine at_getr (cn) flX8_48 rfl sd_0 hnow dX8_drawLines_22 ?_
      refine at_geti flX8_98 rfl (sd_P0 hcn) dX8_drawLines_25 ?_
      refine at_iload_n dX8_drawLines_28 rfl ?_
      refine at_isub dX8_drawLines_29 ?_
      rw [hln, pk_sub hn]
      refine at_icmple (tgt := 69) dX8_drawLines_30 (by decide) (fun c30 => ?_) (fun c30 => ?_)
      · -- taken 30
        refine at_lload_n dX8_drawLines_69 rfl ?_
        refine at_lret rfl dX8_drawLines_70 ?_
        exact ⟨rfl, rfl⟩
      · -- not taken 30
        exact absurd (nI_le (Nat.le_refl _) (by omega)) c30
  | succ k ih =>
    intro i hi
    have h9 := ih (i + 1) (by omega)
    obtain ⟨d1, d2⟩ := drD_ok seed nl i (by omega)
    have h3 := fb_ct_not (drD seed nl i) nl
    have hlt : drN seed nl i < nl - i := Nat.mod_lt _ (by omega)
    obtain ⟨k1, k2, k3⟩ := kth_at (p := fun j => !drD seed nl i j) (n := nl) (m := drN seed nl i) (by omega)
    have k2' : drD seed nl i (kth (fun j => !drD seed nl i j) nl (drN seed nl i)) = false := by simpa using k2
    have ex : ∀ x : Int32, nI (x.toBitVec.toNat / 256) - nI (x.toBitVec.toNat / 256) / nI (nl - i) * nI (nl - i) = nI (x.toBitVec.toNat / 256 % (nl - i)) := fun x => pk_rem (by have := x.toBitVec.isLt; omega) (by omega) (by omega)
    have es : ∀ x : Int32, (x.toUInt32 >>> ((8 : Int32).toUInt32 &&& Int32.toUInt32 31)).toInt32 = nI (x.toBitVec.toNat / 256) := fun x => by
      have := pk_ushr x 8 8 (by decide)
      apply Int32.toBitVec_inj.mp
      apply BitVec.eq_of_toNat_eq
      rw [this, pk_tn (by have := x.toBitVec.isLt; omega)]
    have eD : bsum (drD seed nl i) 40 ||| 2 ^ (kth (fun j => !drD seed nl i j) nl (drN seed nl i)) = bsum (drD seed nl (i + 1)) 40 := bsum_set (by omega)
    refine at_iload dX8_drawLines_14 rfl ?_
    refine at_ifle (tgt := 69) dX8_drawLines_16 (by decide) (fun c16 => ?_) (fun c16 => ?_)
    · -- taken 16
      exact absurd c16 (nI_nle (by omega) (by omega))
    · -- not taken 16
      refine at_iload dX8_drawLines_19 rfl ?_
      refine at_aload_n dX8_drawLines_21 rfl ?_
      refine at_getr (cn) flX8_48 rfl sd_0 hnow dX8_drawLines_22 ?_
      refine at_geti flX8_98 rfl (sd_P0 hcn) dX8_drawLines_25 ?_
      refine at_iload_n dX8_drawLines_28 rfl ?_
      refine at_isub dX8_drawLines_29 ?_
      rw [hln, pk_sub hn]
      refine at_icmple (tgt := 69) dX8_drawLines_30 (by decide) (fun c30 => ?_) (fun c30 => ?_)
      · -- taken 30
        exact absurd c30 (nI_ge (by omega) (by omega))
      · -- not taken 30
        refine at_iload dX8_drawLines_33 rfl ?_
        refine at_ldcw coX8_307 dX8_drawLines_35 ?_
        refine at_imul dX8_drawLines_38 ?_
        refine at_sipush dX8_drawLines_39 pc_s12345 ?_
        refine at_iadd dX8_drawLines_42 ?_
        refine at_istore dX8_drawLines_43 rfl (Nat.le_of_ble_eq_true rfl) ?_
        refine at_lload_n dX8_drawLines_45 rfl ?_
        refine at_lconst dX8_drawLines_46 pc_l1 ?_
        refine at_aload_n dX8_drawLines_47 rfl ?_
        refine at_lload_n dX8_drawLines_48 rfl ?_
        refine at_iload dX8_drawLines_49 rfl ?_
        refine at_bipush dX8_drawLines_51 pc_b8 ?_
        refine at_iushr dX8_drawLines_53 ?_
        rw [es]
        refine at_iload dX8_drawLines_54 rfl ?_
        refine at_irem dX8_drawLines_56 (nI_ne0 (by omega) (by omega)) ?_
        rw [ex, show drX seed i * 1103515245 + 12345 = drX seed (i + 1) from rfl, show (drX seed (i + 1)).toBitVec.toNat / 256 % (nl - i) = drN seed nl i from rfl]
        refine at_cv2 cvX8_308 sd_0 (ev_X8_indexOfUndrawn hC k1 k2' k3) (by decide) ⟨Nat.le_of_ble_eq_true rfl, Nat.le_of_ble_eq_true rfl⟩ (Nat.le_of_ble_eq_true rfl) dX8_drawLines_57 (pd_k1 ?_)
        refine at_lshl dX8_drawLines_60 ?_
        rw [l_sh1 _ (by omega)]
        refine at_lor dX8_drawLines_61 ?_
        rw [lN_or, eD]
        refine at_lstore_n dX8_drawLines_62 rfl (Nat.le_of_ble_eq_true rfl) ?_
        refine at_inc dX8_drawLines_63 rfl pc_im1 rfl (Nat.le_of_ble_eq_true rfl) ?_
        refine at_goto (tgt := 14) dX8_drawLines_66 (by decide) ?_
        rw [show nl - i = (nl - (i + 1)) + 1 by omega, pk_m1]; exact h9
theorem ev_X8_drawLines (h : CN I L R cn r nv ns nl e) {n : Nat} (hn : n ≤ nl) (seed : Int32) : pd_Ev G mi_X8_drawLines 2 0 0 [.ref (pd_z G + 0), .int (nI n), .int seed] (SD, false, I, L, R) (pd_rt (.long (lN (bsum (drD seed nl n) 40))) (SD, false, I, L, R)) := by
  have hC := h
  obtain ⟨hR, hcn, hnow, hr, hp, hj, hT⟩ := h
  have hln := hC.lns
  have z : bsum (drD seed nl 0) 40 = 0 := bsum_none (fun _ _ => rfl)
  have h9 := lp_X8_draw (G := G) hC hn seed n 0 (by omega)
  rw [z] at h9
  refine pd_ev 4 (lo := [some (.ref (pd_z G + 0)), some (.int (nI n)), some (.int seed), none, none, none, none]) (by decide +kernel) (Nat.le_of_ble_eq_true rfl) rfl ?_
  refine at_lconst dX8_drawLines_0 pc_l0 ?_
  refine at_lstore_n dX8_drawLines_1 rfl (Nat.le_of_ble_eq_true rfl) ?_
  refine at_iload_n dX8_drawLines_2 rfl ?_
  refine at_istore dX8_drawLines_3 rfl (Nat.le_of_ble_eq_true rfl) ?_
  refine at_aload_n dX8_drawLines_5 rfl ?_
  refine at_getr (cn) flX8_48 rfl sd_0 hnow dX8_drawLines_6 ?_
  refine at_geti flX8_98 rfl (sd_P0 hcn) dX8_drawLines_9 ?_
  rw [hln]
  refine at_istore dX8_drawLines_12 rfl (Nat.le_of_ble_eq_true rfl) ?_
  exact h9
/-- a sample laid into the row -/
def spR (r : Nat → Int32) (w : Nat) (D : Nat → Bool) : Nat → Int32 := fun k => if 225 + 40 * w ≤ k ∧ k < 265 + 40 * w then i_of (D (k - (225 + 40 * w))) else r k
theorem spR_row (hr : Row r nv ns nl e) {w : Nat} (hw : w < 2) {D : Nat → Bool} (hD : ∀ l, nl ≤ l → D l = false) : Row (spR r w D) nv ns nl e := by
  obtain ⟨a1, a2, a3, a4, a5, a6, a7, a8, a9, a10, a11, a12, a13, a14, a15, a16⟩ := hr
  have o : ∀ k, k < 225 ∨ 305 ≤ k → spR r w D k = r k := fun k hk => if_neg (by omega)
  have h40 := a3.2
  refine ⟨by rw [o 0 (by omega)]; exact a1, by rw [o 1 (by omega)]; exact a2, by rw [o 2 (by omega)]; exact a3, by rw [o 3 (by omega)]; exact a4, by rw [o 7 (by omega)]; exact a5, fun l hl => ?_, fun l hl => ?_, fun t ht => by rw [o _ (by omega)]; exact a8 t ht, fun t h1 h2 => by rw [o _ (by omega)]; exact a9 t h1 h2, fun k hk => ?_, fun w2 l h1 h2 h3 => ?_, by rw [o 8 (by omega)]; exact a12, fun j x hj => by rw [o _ (by omega)]; exact a13 j x hj, by rw [o _ (by omega)]; exact a14, a15, a16⟩
  · unfold rSh; rw [o _ (by omega)]; exact a6 l hl
  · unfold rSh; rw [o _ (by omega), o _ (by omega)]; exact a7 l hl
  · unfold spR
    split
    · cases D (225 + k - (225 + 40 * w)) <;> simp [i_of]
    · exact a10 k hk
  · unfold spR
    split
    · rw [hD _ (by omega)]; rfl
    · exact a11 w2 l h1 h2 h3
theorem spR_sm {w : Nat} (hw : w < 2) {D : Nat → Bool} {w2 l : Nat} (hw2 : w2 < 2) (hl : l < 40) : sm (spR r w D) w2 l = if w2 = w then D l else sm r w2 l := by
  unfold sm spR
  by_cases h : w2 = w
  · subst h
    rw [if_pos (by omega), if_pos rfl, show 225 + 40 * w2 + l - (225 + 40 * w2) = l by omega]
    cases D l <;> decide
  · rw [if_neg (by omega), if_neg h]
theorem spR_pet (hr : Row r nv ns nl e) {I' : Nat → Nat → Int32} {L' : Nat → Nat → Int64} (hp : PetRel I L cn r nv ns nl e) {w : Nat} (hw : w < 2) {D : Nat → Bool} (hL1 : L' cn (17 + w) = lN (bsum D 40)) (hL2 : ∀ w2, w2 < 2 → w2 ≠ w → L' cn (17 + w2) = L cn (17 + w2)) : PetRel I L' cn (spR r w D) nv ns nl e := by
  obtain ⟨⟨a0, a1, a2, a3, a4, a5, a6, a7⟩, hvv, hl, hb, h17, h18, hn, hle, hs⟩ := hp
  have hv16 := hr.1.2
  have h40 := hr.2.2.1.2
  have o : ∀ k, k < 225 ∨ 305 ≤ k → spR r w D k = r k := fun k hk => if_neg (by omega)
  refine ⟨⟨by rw [o 0 (by omega)]; exact a0, by rw [o 1 (by omega)]; exact a1, by rw [o 2 (by omega)]; exact a2, by rw [o 3 (by omega)]; exact a3, by rw [o 4 (by omega)]; exact a4, by rw [o 5 (by omega)]; exact a5, by rw [o 6 (by omega)]; exact a6, by rw [o 7 (by omega)]; exact a7⟩, fun v h => by rw [o _ (by omega), o _ (by omega), o _ (by omega)]; exact hvv v h, fun l h => ?_, ?_, ?_, ?_, hn, hle, hs⟩
  · unfold rSh; rw [o _ (by omega), o _ (by omega), o _ (by omega), o _ (by omega)]; exact hl l h
  · rw [hb]; congr 1; exact bsum_cong (fun s hs => by rw [o _ (by omega)])
  · have e1 : bsum (fun l => decide (spR r w D (225 + l) = 1)) 40 = bsum (fun l => sm (spR r w D) 0 l) 40 := rfl
    rw [e1]
    by_cases hq : 0 = w
    · subst hq
      rw [hL1]; congr 1
      exact bsum_cong (fun l hl => by rw [spR_sm (by decide) (by decide) hl, if_pos rfl])
    · rw [hL2 0 (by decide) hq, h17]; congr 1
      exact bsum_cong (fun l hl => by rw [spR_sm hw (by decide) hl, if_neg hq]; rfl)
  · have e1 : bsum (fun l => decide (spR r w D (265 + l) = 1)) 40 = bsum (fun l => sm (spR r w D) 1 l) 40 := rfl
    rw [e1]
    by_cases hq : 1 = w
    · subst hq
      rw [hL1]; congr 1
      exact bsum_cong (fun l hl => by rw [spR_sm (by decide) (by decide) hl, if_pos rfl])
    · rw [hL2 1 (by decide) hq, h18]; congr 1
      exact bsum_cong (fun l hl => by rw [spR_sm hw (by decide) hl, if_neg hq]; rfl)
theorem inR_of1 {x : Int32} {n : Nat} (hn : n < 2 ^ 31) (h : inR x 1 (nI n) = true) : ∃ k, 1 ≤ k ∧ k ≤ n ∧ x = nI k := by
  simp only [inR, Bool.and_eq_true, decide_eq_true_eq, fa_le] at h
  have e1 : (1 : Int32).toInt = 1 := by decide
  have e0 : (0 : Int32).toInt = 0 := by decide
  obtain ⟨j, hj, rfl⟩ := nI_of (x := x) (fun q => by rw [fa_lt] at q; omega)
  rw [nI_toInt hj, nI_toInt hn] at h
  exact ⟨j, by omega, by omega, rfl⟩
theorem ev_X8_sample (hC : CW I L R w a ps) (x y seed : Int32) : pd_Ev G mi_X8_sample 8 3 18 [.ref (pd_z G + 0), .int x, .int y, .int seed] (SD, false, I, L, R) (q_x I L R (j1 9 (inR x 0 1 && inR y 1 (nI w.2.2.2.1))) (.int (nI (fb_ct (fun l => drD seed w.2.2.2.1 y.toNatClampNeg l && rOk w.1 w.2.1 w.2.2.2.1 w.2.2.2.2 0 l) w.2.2.2.1))) (fun I' L' R' => CW I' L' R' (spR w.1 x.toNatClampNeg (drD seed w.2.2.2.1 y.toNatClampNeg), w.2) (kA a) (kP a ps w) ∧ FD I L I' L')) := by
  obtain ⟨cn, cp, hN, hA⟩ := hC
  obtain ⟨r, nv, ns, nl, e⟩ := w
  have hN0 : CN I L R cn r nv ns nl e := hN
  obtain ⟨hR, hcn, hnow, hr, hp, hj, hT⟩ := hN
  have h8 := hA.1.2.2.1
  have hi := PB.hi2 hcn h8
  have h40 : nl ≤ 40 := hN0.l40
  have hln := hN0.lns
  show pd_Ev G mi_X8_sample 8 3 18 _ _ (q_x I L R (j1 9 (inR x 0 1 && inR y 1 (nI nl))) (.int (nI (fb_ct (fun l => drD seed nl y.toNatClampNeg l && rOk r nv nl e 0 l) nl))) (fun I' L' R' => CW I' L' R' (spR r x.toNatClampNeg (drD seed nl y.toNatClampNeg), nv, ns, nl, e) (kA a) (kP a ps (r, nv, ns, nl, e)) ∧ FD I L I' L'))
  have fin : ∀ {n w : Nat} {I2 : Nat → Nat → Int32} {L2 : Nat → Nat → Int64} {R2 : Nat → Nat → Option Nat} {cp2 : Nat → Nat}, n ≤ nl → w < 2 → CN I2 L2 R2 cn r nv ns nl e → CA I2 L2 R2 cn cp2 (kA a) (kP a ps (r, nv, ns, nl, e)) → KK I L R cn I2 L2 R2 → CW I2 (pd_up L2 cn (17 + w) (lN (bsum (drD seed nl n) 40))) R2 (spR r w (drD seed nl n), nv, ns, nl, e) (kA a) (kP a ps (r, nv, ns, nl, e)) ∧ FD I L I2 (pd_up L2 cn (17 + w) (lN (bsum (drD seed nl n) 40))) := by
    intro n w I2 L2 R2 cp2 hn hw hN2 hA2 hK
    obtain ⟨hR, hcn, hnow, hr, hp, hj, hT⟩ := hN2
    refine ⟨⟨cn, cp2, ⟨hR, hcn, hnow, spR_row hr hw (drD_ok seed nl n hn).2, spR_pet (I' := I2) hr hp hw pd_up_at (fun w2 h1 h2 => pd_up_nj (by omega)), cg_JO hr (fun k hk => if_neg (by omega)) hj, fun n k hn hk => by rw [pd_up_nb (by omega)]; exact hT n k hn hk⟩, hA2.fr hA2.2.2.2.1 (fun x h1 h2 h3 => ⟨fun j => rfl, fun j => pd_up_nb (by omega)⟩)⟩, hK.fd.tr (fun _ _ _ => rfl) (fun x hx j => pd_up_nb (by omega))⟩
  refine pd_ev 2 (lo := [some (.ref (pd_z G + 0)), some (.int x), some (.int y), some (.int seed), none, none]) (by decide +kernel) (Nat.le_of_ble_eq_true rfl) rfl ?_
  refine at_aload_n dX8_sample_0 rfl ?_
  refine at_iload_n dX8_sample_1 rfl ?_
  refine at_iconst dX8_sample_2 pc_i0 ?_
  refine at_iconst dX8_sample_3 pc_i1 ?_
  refine at_cs3 csX8_69 (ev_X8_isFrom x 0 1) (by decide) ⟨Nat.le_of_ble_eq_true rfl, Nat.le_of_ble_eq_true rfl⟩ (Nat.le_of_ble_eq_true rfl) dX8_sample_4 (pd_k1 ?_)
  refine at_ifeq (tgt := 29) dX8_sample_7 (by decide) (fun c7 => ?_) (fun c7 => ?_)
  · -- taken 7
    refine at_iconst dX8_sample_29 pc_i0 ?_
    refine at_cv1 cvX8_73 sd_0 (ev_X8_requireArgument 0) (by decide) ⟨Nat.le_of_ble_eq_true rfl, Nat.le_of_ble_eq_true rfl⟩ (Nat.le_of_ble_eq_true rfl) dX8_sample_30 (pd_kq rfl (fun _ => ?_) (fun q => absurd rfl q))
    first | exact q_no9 (by rw [i_of0.mp c7]; rfl) | exact q_no9 (by rw [i_of0.mp c22, Bool.and_false]; rfl)
  · -- not taken 7
    refine at_iload_n dX8_sample_10 rfl ?_
    refine at_iconst dX8_sample_11 pc_i1 ?_
    refine at_aload_n dX8_sample_12 rfl ?_
    refine at_getr (cn) flX8_48 rfl sd_0 hnow dX8_sample_13 ?_
    refine at_geti flX8_98 rfl (sd_P0 hcn) dX8_sample_16 ?_
    rw [hln]
    refine at_cs3 csX8_69 (ev_X8_isFrom y 1 (nI nl)) (by decide) ⟨Nat.le_of_ble_eq_true rfl, Nat.le_of_ble_eq_true rfl⟩ (Nat.le_of_ble_eq_true rfl) dX8_sample_19 (pd_k1 ?_)
    refine at_ifeq (tgt := 29) dX8_sample_22 (by decide) (fun c22 => ?_) (fun c22 => ?_)
    · -- taken 22
      refine at_iconst dX8_sample_29 pc_i0 ?_
      refine at_cv1 cvX8_73 sd_0 (ev_X8_requireArgument 0) (by decide) ⟨Nat.le_of_ble_eq_true rfl, Nat.le_of_ble_eq_true rfl⟩ (Nat.le_of_ble_eq_true rfl) dX8_sample_30 (pd_kq rfl (fun _ => ?_) (fun q => absurd rfl q))
      first | exact q_no9 (by rw [i_of0.mp c7]; rfl) | exact q_no9 (by rw [i_of0.mp c22, Bool.and_false]; rfl)
    · -- not taken 22
      refine at_iconst dX8_sample_25 pc_i1 ?_
      refine at_goto (tgt := 30) dX8_sample_26 (by decide) ?_
      refine at_cv1 cvX8_73 sd_0 (ev_X8_requireArgument 1) (by decide) ⟨Nat.le_of_ble_eq_true rfl, Nat.le_of_ble_eq_true rfl⟩ (Nat.le_of_ble_eq_true rfl) dX8_sample_30 (pd_kq rfl (fun q => absurd q (by decide)) (fun _ => ?_))
      have k7 := i_of1.mp c7
      have k22 := i_of1.mp c22
      obtain ⟨w, hw, hx⟩ := inR_of (n := 1) (by decide) k7
      obtain ⟨n, hn1, hn, hy⟩ := inR_of1 (by omega) k22
      rw [k7, k22]
      subst hx hy
      rw [nI_clamp (show w < 2 ^ 31 by omega), nI_clamp (show n < 2 ^ 31 by omega)]
      refine at_aload_n dX8_sample_33 rfl ?_
      refine at_cv0 cvX8_85 sd_0 (ev_X8_keepForUndo hA hr hp) (by decide) ⟨Nat.le_of_ble_eq_true rfl, Nat.le_of_ble_eq_true rfl⟩ (Nat.le_of_ble_eq_true rfl) dX8_sample_34 (pd_kw fun I2 L2 R2 h2 => ?_)
      obtain ⟨cp2, hA2, hK⟩ := h2
      have hN2 : CN I2 L2 R2 cn r nv ns nl e := KK.now (w := (r, nv, ns, nl, e)) hK hA2 hN0
      obtain ⟨hR, hcn, hnow, hr, hp, hj, hT⟩ := (show CN I2 L2 R2 cn r nv ns nl e from hN2)
      refine at_aload_n dX8_sample_37 rfl ?_
      refine at_iload_n dX8_sample_38 rfl ?_
      refine at_iload_n dX8_sample_39 rfl ?_
      refine at_cv2 cvX8_101 sd_0 (ev_X8_drawLines hN2 hn seed) (by decide) ⟨Nat.le_of_ble_eq_true rfl, Nat.le_of_ble_eq_true rfl⟩ (Nat.le_of_ble_eq_true rfl) dX8_sample_40 (pd_k1 ?_)
      refine at_lstore dX8_sample_43 rfl (Nat.le_of_ble_eq_true rfl) ?_
      refine at_iload_n dX8_sample_45 rfl ?_
      refine at_ifne (tgt := 61) dX8_sample_46 (by decide) (fun c46 => ?_) (fun c46 => ?_)
      · -- taken 46
        have hw1 : w = 1 := by
          rcases (show w = 0 ∨ w = 1 by omega) with rfl | rfl
          · exact absurd rfl c46
          · rfl
        subst hw1
        refine at_aload_n dX8_sample_61 rfl ?_
        refine at_getr (cn) flX8_48 rfl sd_0 hnow dX8_sample_62 ?_
        refine at_lload dX8_sample_65 rfl ?_
        refine at_putl flX8_109 rfl (sd_P0 hcn) (fun _ _ _ hq => by cases hq; rfl) dX8_sample_67 ?_
        refine at_aload_n dX8_sample_70 rfl ?_
        refine at_getr (18) flX8_30 rfl sd_0 (rs_0_2 hR) dX8_sample_71 ?_
        refine at_lload dX8_sample_74 rfl ?_
        refine at_cv1 cvX8_112 sd_18 (ev_X1_goodIn hR h40 hN2.v16 hj (p := drD seed nl n) (fun i hi => by rw [l_tb1 (Nat.lt_trans (bsum_lt _ _) (by decide)) (by omega), bsum_bit]; simp; omega)) (by decide) ⟨Nat.le_of_ble_eq_true rfl, Nat.le_of_ble_eq_true rfl⟩ (Nat.le_of_ble_eq_true rfl) dX8_sample_76 (pd_k1 ?_)
        refine at_iret rfl dX8_sample_79 ?_
        first | exact q_yes rfl rfl (fin (w := 0) hn (by decide) hN2 hA2 hK) | exact q_yes rfl rfl (fin (w := 1) hn (by decide) hN2 hA2 hK)
      · -- not taken 46
        have hw0 : w = 0 := (nI_eq (b := 0) (by omega) (by decide)).mp c46
        subst hw0
        refine at_aload_n dX8_sample_49 rfl ?_
        refine at_getr (cn) flX8_48 rfl sd_0 hnow dX8_sample_50 ?_
        refine at_lload dX8_sample_53 rfl ?_
        refine at_putl flX8_105 rfl (sd_P0 hcn) (fun _ _ _ hq => by cases hq; rfl) dX8_sample_55 ?_
        refine at_goto (tgt := 70) dX8_sample_58 (by decide) ?_
        refine at_aload_n dX8_sample_70 rfl ?_
        refine at_getr (18) flX8_30 rfl sd_0 (rs_0_2 hR) dX8_sample_71 ?_
        refine at_lload dX8_sample_74 rfl ?_
        refine at_cv1 cvX8_112 sd_18 (ev_X1_goodIn hR h40 hN2.v16 hj (p := drD seed nl n) (fun i hi => by rw [l_tb1 (Nat.lt_trans (bsum_lt _ _) (by decide)) (by omega), bsum_bit]; simp; omega)) (by decide) ⟨Nat.le_of_ble_eq_true rfl, Nat.le_of_ble_eq_true rfl⟩ (Nat.le_of_ble_eq_true rfl) dX8_sample_76 (pd_k1 ?_)
        refine at_iret rfl dX8_sample_79 ?_
        first | exact q_yes rfl rfl (fin (w := 0) hn (by decide) hN2 hA2 hK) | exact q_yes rfl rfl (fin (w := 1) hn (by decide) hN2 hA2 hK)
end SAMPLE
