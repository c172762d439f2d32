/-! ===== Judgement ===== -/
def pd_fw (I : Nat → Nat → Int32) (a : Nat) (f : Nat → Int32) (n : Nat) : Nat → Nat → Int32 := fun b j => if b = a ∧ j < n then f j else I b j
theorem pd_fw_nb {I : Nat → Nat → Int32} {a b n j : Nat} {f : Nat → Int32} (h : b ≠ a) : pd_fw I a f n b j = I b j := by simp [pd_fw, h]
theorem pd_fw_at {I : Nat → Nat → Int32} {a n j : Nat} {f : Nat → Int32} (h : j < n) : pd_fw I a f n a j = f j := by simp [pd_fw, h]
theorem pd_fw_0 (I : Nat → Nat → Int32) (a : Nat) (f : Nat → Int32) : pd_fw I a f 0 = I := by funext b j; simp [pd_fw]
theorem pd_fw_up {I : Nat → Nat → Int32} {a n : Nat} {f : Nat → Int32} : pd_up (pd_fw I a f n) a n (f n) = pd_fw I a f (n + 1) := by
  funext b j
  unfold pd_up pd_fw
  by_cases hb : b = a
  · subst hb
    by_cases hj : j = n
    · subst hj; simp
    · by_cases h2 : j < n
      · simp [hj, h2, Nat.lt_succ_of_lt h2]
      · have : ¬ j < n + 1 := by omega
        simp [hj, h2, this]
  · simp [hb]
theorem pd_fw_comm {I : Nat → Nat → Int32} {a b k n : Nat} {f : Nat → Int32} {v : Int32} (h : b ≠ a) : pd_up (pd_fw I a f n) b k v = pd_fw (pd_up I b k v) a f n := by
  funext x j
  unfold pd_up pd_fw
  by_cases hx : x = a
  · subst hx
    have : ¬ x = b := fun e => h e.symm
    simp [this]
  · simp [hx]
theorem pfirst_cong {p q : Nat → Bool} : ∀ (k i : Nat), (∀ j, i ≤ j → j < i + k → p j = q j) → pfirst p k i = pfirst q k i
  | 0, _, _ => rfl
  | k + 1, i, h => by
    rw [pfirst, pfirst, h i (Nat.le_refl _) (by omega), pfirst_cong k (i + 1) (fun j h1 h2 => h j (by omega) (by omega))]
theorem i_find_cong {p q : Nat → Bool} {n : Nat} (h : ∀ j, j < n → p j = q j) : i_find p n = i_find q n := by
  unfold i_find
  rw [pfirst_cong n 0 (fun j _ h2 => by rw [h j (by omega)])]
theorem i_find_is (p : Nat → Bool) (n : Nat) : i_find p n = -1 ∨ ∃ v, v < n ∧ i_find p n = nI v := by
  unfold i_find
  split
  · rename_i h; exact Or.inr ⟨_, h, rfl⟩
  · exact Or.inl rfl
theorem PB.cl {c : Nat} (h : PB c) : c + 10 ≤ 18 ∨ 29 ≤ c := by rcases h with rfl | ⟨i, hi, rfl⟩ <;> omega
theorem PB.hi {c : Nat} (h : PB c) : c + 10 ≤ 119 := by rcases h with rfl | ⟨i, hi, rfl⟩ <;> omega
section JUD
variable {G : pd_G} {I : Nat → Nat → Int32} {L : Nat → Nat → Int64} {R : Nat → Nat → Option Nat} {c nv ns nl : Nat} {e : List rl_S} {r : Nat → Int32}
theorem rW_is (r : Nat → Int32) (nv l : Nat) : rW r nv l = -1 ∨ ∃ v, v < nv ∧ rW r nv l = nI v := i_find_is _ _
theorem lp_X1_findVoters (hR : RS R) (hc : PB c) (hr : Row r nv ns nl e) (hp : PetRel I L c r nv ns nl e) (hl : I 18 7 = nI nl) : ∀ (k i : Nat), i + k = nl → pd_At G mi_X1_findVoters 2 0 0 0 0 2 [some (.ref (pd_z G + 18)), some (.ref (pd_z G + c)), some (.int (nI i))] [] (SD, false, pd_fw (pd_fw I 19 (rW r nv) i) 24 (rSh r) i, L, R) (pd_rv (SD, false, pd_fw (pd_fw I 19 (rW r nv) nl) 24 (rSh r) nl, L, R)) := by
  have hcx := hc.cl
  have h40 : nl ≤ 40 := hr.2.2.1.2
  have hv16 : nv ≤ 16 := hr.1.2
  intro k
  induction k with
  | zero =>
    intro i hi
    have e : i = nl := by omega
    subst e
    refine at_iload_n dX1_findVoters_2 rfl ?_
    refine at_aload_n dX1_findVoters_3 rfl ?_
    refine at_geti flX1_47 rfl sd_18 dX1_findVoters_4 ?_
    rw [pd_fw_nb (by decide), pd_fw_nb (by decide), hl]
    refine at_icmpge (tgt := 50) dX1_findVoters_7 (by decide) (fun c7 => ?_) (fun c7 => ?_)
    · -- taken 7
      refine at_vret rfl dX1_findVoters_50 ?_
      exact ⟨rfl, rfl⟩
    · -- not taken 7
      exact absurd (nI_le (Nat.le_refl _) (by omega)) c7
  | succ k ih =>
    intro i hi
    have hin : vp_in (nI i) 40 := vp_in_nI (by omega) (by decide)
    have hcl : (nI i).toNatClampNeg = i := nI_clamp (by omega)
    have hln := hp.2.2.1 i (by omega)
    have hw : i_find (fun j => decide ((pd_fw (pd_fw I 19 (rW r nv) i) 24 (rSh r) i) (c + 1) j = I (c + 4) i) && decide ((pd_fw (pd_fw I 19 (rW r nv) i) 24 (rSh r) i) (c + 2) j = I (c + 5) i)) nv = rW r nv i := by
      refine i_find_cong (fun j hj => ?_)
      have hv := hp.2.1 j hj
      rw [pd_fw_nb (by omega), pd_fw_nb (by omega), pd_fw_nb (by omega), pd_fw_nb (by omega), hv.2.1, hln.2.1]
      congr 1
      exact decide_eq_decide.mpr (hv.1.eq hln.1)
    refine at_iload_n dX1_findVoters_2 rfl ?_
    refine at_aload_n dX1_findVoters_3 rfl ?_
    refine at_geti flX1_47 rfl sd_18 dX1_findVoters_4 ?_
    rw [pd_fw_nb (by decide), pd_fw_nb (by decide), hl]
    refine at_icmpge (tgt := 50) dX1_findVoters_7 (by decide) (fun c7 => ?_) (fun c7 => ?_)
    · -- taken 7
      exact absurd c7 (nI_ge (by omega) (by omega))
    · -- not taken 7
      refine at_aload_n dX1_findVoters_10 rfl ?_
      refine at_getr (19) flX1_9 rfl sd_18 (rs_18_0 hR) dX1_findVoters_11 ?_
      refine at_iload_n dX1_findVoters_14 rfl ?_
      refine at_aload_n dX1_findVoters_15 rfl ?_
      refine at_aload_n dX1_findVoters_16 rfl ?_
      refine at_getr (c + 4) flX1_61 rfl (sd_P0 hc) (rs_P7 hR hc) dX1_findVoters_17 ?_
      refine at_iload_n dX1_findVoters_20 rfl ?_
      refine at_iald (sd_P4 hc) (hin) dX1_findVoters_21 ?_
      rw [hcl, pd_fw_nb (by omega), pd_fw_nb (by omega)]
      refine at_aload_n dX1_findVoters_22 rfl ?_
      refine at_getr (c + 5) flX1_64 rfl (sd_P0 hc) (rs_P8 hR hc) dX1_findVoters_23 ?_
      refine at_iload_n dX1_findVoters_26 rfl ?_
      refine at_iald (sd_P5 hc) (hin) dX1_findVoters_27 ?_
      rw [hcl, pd_fw_nb (by omega), pd_fw_nb (by omega)]
      refine at_cv2 cvX1_67 (sd_P0 hc) (ev_X3_voterWith hR hc (n := nv) (by rw [pd_fw_nb (by omega), pd_fw_nb (by omega), hp.1.1]; exact hr.1.1) hv16 _ _) (by decide) ⟨Nat.le_refl _, Nat.le_refl _⟩ (Nat.le_of_ble_eq_true rfl) dX1_findVoters_28 (pd_k1 ?_)
      rw [hw]
      refine at_iast sd_19 (hin) dX1_findVoters_31 ?_
      refine at_aload_n dX1_findVoters_32 rfl ?_
      refine at_getr (24) flX1_29 rfl sd_18 (rs_18_6 hR) dX1_findVoters_33 ?_
      refine at_iload_n dX1_findVoters_36 rfl ?_
      refine at_aload_n dX1_findVoters_37 rfl ?_
      refine at_getr (c + 7) flX1_70 rfl (sd_P0 hc) (rs_P10 hR hc) dX1_findVoters_38 ?_
      refine at_iload_n dX1_findVoters_41 rfl ?_
      refine at_iald (sd_P7 hc) (hin) dX1_findVoters_42 ?_
      rw [hcl, pd_up_nb (by omega), pd_fw_nb (by omega), pd_fw_nb (by omega), hln.2.2.1]
      refine at_iast sd_24 (hin) dX1_findVoters_43 ?_
      refine at_inc dX1_findVoters_44 rfl pc_i1 rfl (Nat.le_of_ble_eq_true rfl) ?_
      refine at_goto (tgt := 2) dX1_findVoters_47 (by decide) ?_
      rw [nI_1, hcl, pd_fw_comm (by decide), pd_fw_up, pd_fw_up]; exact ih (i + 1) (by omega)
theorem ev_X1_findVoters (hR : RS R) (hc : PB c) (hr : Row r nv ns nl e) (hp : PetRel I L c r nv ns nl e) (hl : I 18 7 = nI nl) : pd_Ev G mi_X1_findVoters 2 0 0 [.ref (pd_z G + 18), .ref (pd_z G + c)] (SD, false, I, L, R) (pd_rv (SD, false, pd_fw (pd_fw I 19 (rW r nv) nl) 24 (rSh r) nl, L, R)) := by
  refine pd_ev 1 (lo := [some (.ref (pd_z G + 18)), some (.ref (pd_z G + c)), none]) (by decide +kernel) (Nat.le_of_ble_eq_true rfl) rfl ?_
  refine at_iconst dX1_findVoters_0 pc_i0 ?_
  refine at_istore_n dX1_findVoters_1 rfl (Nat.le_of_ble_eq_true rfl) ?_
  have h := lp_X1_findVoters (G := G) hR hc hr hp hl nl 0 (by omega)
  rw [pd_fw_0, pd_fw_0] at h
  exact h
/-- voterOf and sheetOf are the row's -/
def JV (I : Nat → Nat → Int32) (r : Nat → Int32) (nv nl : Nat) : Prop := I 18 7 = nI nl ∧ (∀ l, l < nl → I 19 l = rW r nv l) ∧ ∀ l, l < nl → I 24 l = rSh r l
theorem ev_X1_hasVoter (hR : RS R) (h40 : nl ≤ 40) (hv16 : nv ≤ 16) (hj : JV I r nv nl) {i : Nat} (hi : i < nl) : pd_Ev G mi_X1_hasVoter 1 0 0 [.ref (pd_z G + 18), .int (nI i)] (SD, false, I, L, R) (pd_rt (.int (if rW r nv i = -1 then 0 else 1)) (SD, false, I, L, R)) := by
  have hin : vp_in (nI i) 40 := vp_in_nI (by omega) (by decide)
  have hcl : (nI i).toNatClampNeg = i := nI_clamp (by omega)
  refine pd_ev 0 (lo := [some (.ref (pd_z G + 18)), some (.int (nI i))]) (by decide +kernel) (Nat.le_of_ble_eq_true rfl) rfl ?_
  rcases rW_is r nv i with hw | ⟨v, hv, hw⟩
  · refine at_aload_n dX1_hasVoter_0 rfl ?_
    refine at_getr (19) flX1_9 rfl sd_18 (rs_18_0 hR) dX1_hasVoter_1 ?_
    refine at_iload_n dX1_hasVoter_4 rfl ?_
    refine at_iald sd_19 (hin) dX1_hasVoter_5 ?_
    rw [hcl, hj.2.1 i hi, hw]
    refine at_iflt (tgt := 24) dX1_hasVoter_6 (by decide) (fun c6 => ?_) (fun c6 => ?_)
    · -- taken 6
      refine at_iconst dX1_hasVoter_24 pc_i0 ?_
      refine at_zret rfl dX1_hasVoter_25 (by first | exact Or.inl rfl | exact Or.inr rfl | assumption) ?_
      exact ⟨by rw [if_pos rfl], rfl⟩
    · -- not taken 6
      exact absurd (by decide) c6
  · have hne : ¬ nI v = -1 := fun e => nI_pos (n := v) (by omega) (by rw [e]; decide)
    refine at_aload_n dX1_hasVoter_0 rfl ?_
    refine at_getr (19) flX1_9 rfl sd_18 (rs_18_0 hR) dX1_hasVoter_1 ?_
    refine at_iload_n dX1_hasVoter_4 rfl ?_
    refine at_iald sd_19 (hin) dX1_hasVoter_5 ?_
    rw [hcl, hj.2.1 i hi, hw]
    refine at_iflt (tgt := 24) dX1_hasVoter_6 (by decide) (fun c6 => ?_) (fun c6 => ?_)
    · -- taken 6
      exact absurd c6 (nI_pos (by omega))
    · -- not taken 6
      refine at_aload_n dX1_hasVoter_9 rfl ?_
      refine at_getr (19) flX1_9 rfl sd_18 (rs_18_0 hR) dX1_hasVoter_10 ?_
      refine at_iload_n dX1_hasVoter_13 rfl ?_
      refine at_iald sd_19 (hin) dX1_hasVoter_14 ?_
      rw [hcl, hj.2.1 i hi, hw]
      refine at_bipush dX1_hasVoter_15 pc_b16 ?_
      refine at_icmpge (tgt := 24) dX1_hasVoter_17 (by decide) (fun c17 => ?_) (fun c17 => ?_)
      · -- taken 17
        exact absurd c17 (nI_ge (b := 16) (by omega) (by decide))
      · -- not taken 17
        refine at_iconst dX1_hasVoter_20 pc_i1 ?_
        refine at_goto (tgt := 25) dX1_hasVoter_21 (by decide) ?_
        refine at_zret rfl dX1_hasVoter_25 (by first | exact Or.inl rfl | exact Or.inr rfl | assumption) ?_
        exact ⟨by rw [if_neg hne], rfl⟩
theorem rl_v_cong {f g : Nat → Int32} (h : ∀ k, k < 6 → f k = g k) (o : Nat) : rl_v f o = rl_v g o := by
  unfold rl_v
  split
  · rename_i h1; exact h _ (by omega)
  · rfl
theorem rl_ev_cong {f g : Nat → Int32} (h : ∀ k, k < 6 → f k = g k) : ∀ (e : List rl_S) (s : List Bool), rl_ev f e s = rl_ev g e s
  | [], _ => rfl
  | q :: e, s => by
    rw [rl_ev, rl_ev]
    have : rl_st f q s = rl_st g q s := by
      unfold rl_st rl_c
      rw [rl_v_cong h, rl_v_cong h]
    rw [this, rl_ev_cong h e]
theorem rl_good_cong {f g : Nat → Int32} (h : ∀ k, k < 6 → f k = g k) (e : List rl_S) : rl_good f e = rl_good g e := by
  unfold rl_good
  rw [rl_ev_cong h]
theorem ev_X1_wrongOf (hR : RS R) (hc : PB c) (hr : Row r nv ns nl e) (hp : PetRel I L c r nv ns nl e) (hj : JV I r nv nl) {i : Nat} (hi : i < nl) (ht : ∀ v, v < nv → rW r nv i = nI v → I 21 v = nI (rAh r nv i)) : pd_Ev G mi_X1_wrongOf 4 0 0 [.ref (pd_z G + 18), .ref (pd_z G + c), .int (nI i), .int (nI (rNo r i))] (SD, false, I, L, R) (pd_ri R fun x I' L' => x = rH r nv e i ∧ L' = L ∧ ∀ a, a ≠ 23 → ∀ j, I' a j = I a j) := by
  have hcx := hc.cl
  have h40 : nl ≤ 40 := hr.2.2.1.2
  have hv16 : nv ≤ 16 := hr.1.2
  have hin : vp_in (nI i) 40 := vp_in_nI (by omega) (by decide)
  have hcl : (nI i).toNatClampNeg = i := nI_clamp (by omega)
  have hln := hp.2.2.1 i hi
  have hpf := hp.1
  refine pd_ev 2 (lo := [some (.ref (pd_z G + 18)), some (.ref (pd_z G + c)), some (.int (nI i)), some (.int (nI (rNo r i))), none, none]) (by decide +kernel) (Nat.le_of_ble_eq_true rfl) rfl ?_
  rcases rW_is r nv i with hw | ⟨v, hv, hw⟩
  · refine at_aload_n dX1_wrongOf_0 rfl ?_
    refine at_iload_n dX1_wrongOf_1 rfl ?_
    refine at_cv1 cvX1_83 sd_18 (ev_X1_hasVoter hR h40 hv16 hj hi) (by decide) ⟨Nat.le_refl _, Nat.le_refl _⟩ (Nat.le_of_ble_eq_true rfl) dX1_wrongOf_2 (pd_k1 ?_)
    rw [if_pos hw]
    refine at_ifne (tgt := 10) dX1_wrongOf_5 (by decide) (fun c5 => ?_) (fun c5 => ?_)
    · -- taken 5
      exact absurd rfl c5
    · -- not taken 5
      refine at_iconst dX1_wrongOf_8 pc_i1 ?_
      refine at_iret rfl dX1_wrongOf_9 ?_
      exact ⟨_, _, _, rfl, rfl, by rw [rH, if_pos hw], rfl, fun _ _ _ => rfl⟩
  · have hne : ¬ rW r nv i = -1 := fun e => nI_pos (n := v) (by omega) (by rw [← hw, e]; decide)
    have hvc : (nI v).toNatClampNeg = v := nI_clamp (by omega)
    have hsi : rSi r nv i = r (11 + 3 * v) := by rw [rSi, hw, hvc]
    have hrow := hp.2.1 v hv
    have hvin : vp_in (nI v) 16 := vp_in_nI (by omega) (by decide)
    have hwa := hj.2.1 i hi
    rw [hw] at hwa
    have h2 : (r (68 + 4 * i) < r 4 ∨ r 5 < r (68 + 4 * i) ∨ r (68 + 4 * i) < rSi r nv i) → rH r nv e i = 2 := fun h => by rw [rH, if_neg hne, if_pos h]
    refine at_aload_n dX1_wrongOf_0 rfl ?_
    refine at_iload_n dX1_wrongOf_1 rfl ?_
    refine at_cv1 cvX1_83 sd_18 (ev_X1_hasVoter hR h40 hv16 hj hi) (by decide) ⟨Nat.le_refl _, Nat.le_refl _⟩ (Nat.le_of_ble_eq_true rfl) dX1_wrongOf_2 (pd_k1 ?_)
    rw [if_neg hne]
    refine at_ifne (tgt := 10) dX1_wrongOf_5 (by decide) (fun c5 => ?_) (fun c5 => ?_)
    · -- taken 5
      refine at_aload_n dX1_wrongOf_10 rfl ?_
      refine at_getr (c + 6) flX1_87 rfl (sd_P0 hc) (rs_P9 hR hc) dX1_wrongOf_11 ?_
      refine at_iload_n dX1_wrongOf_14 rfl ?_
      refine at_iald (sd_P6 hc) (hin) dX1_wrongOf_15 ?_
      rw [hcl, hln.2.2.2]
      refine at_istore dX1_wrongOf_16 rfl (Nat.le_of_ble_eq_true rfl) ?_
      refine at_aload_n dX1_wrongOf_18 rfl ?_
      refine at_getr (c + 3) flX1_90 rfl (sd_P0 hc) (rs_P3 hR hc) dX1_wrongOf_19 ?_
      refine at_aload_n dX1_wrongOf_22 rfl ?_
      refine at_getr (19) flX1_9 rfl sd_18 (rs_18_0 hR) dX1_wrongOf_23 ?_
      refine at_iload_n dX1_wrongOf_26 rfl ?_
      refine at_iald sd_19 (hin) dX1_wrongOf_27 ?_
      rw [hcl, hwa]
      refine at_iald (sd_P3 hc) (hvin) dX1_wrongOf_28 ?_
      rw [hvc, hrow.2.2, ← hsi]
      refine at_istore dX1_wrongOf_29 rfl (Nat.le_of_ble_eq_true rfl) ?_
      refine at_iload dX1_wrongOf_31 rfl ?_
      refine at_aload_n dX1_wrongOf_33 rfl ?_
      refine at_geti flX1_93 rfl (sd_P0 hc) dX1_wrongOf_34 ?_
      rw [hpf.2.2.2.2.1]
      refine at_icmplt (tgt := 56) dX1_wrongOf_37 (by decide) (fun c37 => ?_) (fun c37 => ?_)
      · -- taken 37
        refine at_iconst dX1_wrongOf_56 pc_i2 ?_
        refine at_iret rfl dX1_wrongOf_57 ?_
        first | exact ⟨_, _, _, rfl, rfl, (h2 (Or.inl c37)).symm, rfl, fun _ _ _ => rfl⟩ | exact ⟨_, _, _, rfl, rfl, (h2 (Or.inr (Or.inl c46))).symm, rfl, fun _ _ _ => rfl⟩ | exact ⟨_, _, _, rfl, rfl, (h2 (Or.inr (Or.inr (Int32.not_le.mp c53)))).symm, rfl, fun _ _ _ => rfl⟩
      · -- not taken 37
        refine at_iload dX1_wrongOf_40 rfl ?_
        refine at_aload_n dX1_wrongOf_42 rfl ?_
        refine at_geti flX1_96 rfl (sd_P0 hc) dX1_wrongOf_43 ?_
        rw [hpf.2.2.2.2.2.1]
        refine at_icmpgt (tgt := 56) dX1_wrongOf_46 (by decide) (fun c46 => ?_) (fun c46 => ?_)
        · -- taken 46
          refine at_iconst dX1_wrongOf_56 pc_i2 ?_
          refine at_iret rfl dX1_wrongOf_57 ?_
          first | exact ⟨_, _, _, rfl, rfl, (h2 (Or.inl c37)).symm, rfl, fun _ _ _ => rfl⟩ | exact ⟨_, _, _, rfl, rfl, (h2 (Or.inr (Or.inl c46))).symm, rfl, fun _ _ _ => rfl⟩ | exact ⟨_, _, _, rfl, rfl, (h2 (Or.inr (Or.inr (Int32.not_le.mp c53)))).symm, rfl, fun _ _ _ => rfl⟩
        · -- not taken 46
          refine at_iload dX1_wrongOf_49 rfl ?_
          refine at_iload dX1_wrongOf_51 rfl ?_
          refine at_icmple (tgt := 58) dX1_wrongOf_53 (by decide) (fun c53 => ?_) (fun c53 => ?_)
          · -- taken 53
            refine at_aload_n dX1_wrongOf_58 rfl ?_
            refine at_getr (23) flX1_26 rfl sd_18 (rs_18_5 hR) dX1_wrongOf_59 ?_
            refine at_iconst dX1_wrongOf_62 pc_i0 ?_
            refine at_iload dX1_wrongOf_63 rfl ?_
            refine at_iast sd_23 (by unfold vp_in; decide) dX1_wrongOf_65 ?_
            refine at_aload_n dX1_wrongOf_66 rfl ?_
            refine at_getr (23) flX1_26 rfl sd_18 (rs_18_5 hR) dX1_wrongOf_67 ?_
            refine at_iconst dX1_wrongOf_70 pc_i1 ?_
            refine at_aload_n dX1_wrongOf_71 rfl ?_
            refine at_getr (c + 5) flX1_64 rfl (sd_P0 hc) (rs_P8 hR hc) dX1_wrongOf_72 ?_
            refine at_iload_n dX1_wrongOf_75 rfl ?_
            refine at_iald (sd_P5 hc) (hin) dX1_wrongOf_76 ?_
            rw [hcl, pd_up_nb (by omega), hln.2.1]
            refine at_iast sd_23 (by unfold vp_in; decide) dX1_wrongOf_77 ?_
            refine at_aload_n dX1_wrongOf_78 rfl ?_
            refine at_getr (23) flX1_26 rfl sd_18 (rs_18_5 hR) dX1_wrongOf_79 ?_
            refine at_iconst dX1_wrongOf_82 pc_i2 ?_
            refine at_iload_n dX1_wrongOf_83 rfl ?_
            refine at_iast sd_23 (by unfold vp_in; decide) dX1_wrongOf_84 ?_
            refine at_aload_n dX1_wrongOf_85 rfl ?_
            refine at_getr (23) flX1_26 rfl sd_18 (rs_18_5 hR) dX1_wrongOf_86 ?_
            refine at_iconst dX1_wrongOf_89 pc_i3 ?_
            refine at_aload_n dX1_wrongOf_90 rfl ?_
            refine at_getr (24) flX1_29 rfl sd_18 (rs_18_6 hR) dX1_wrongOf_91 ?_
            refine at_iload_n dX1_wrongOf_94 rfl ?_
            refine at_iald sd_24 (hin) dX1_wrongOf_95 ?_
            rw [hcl, pd_up_nb (by omega), pd_up_nb (by omega), pd_up_nb (by omega), hj.2.2 i hi]
            refine at_iast sd_23 (by unfold vp_in; decide) dX1_wrongOf_96 ?_
            refine at_aload_n dX1_wrongOf_97 rfl ?_
            refine at_getr (23) flX1_26 rfl sd_18 (rs_18_5 hR) dX1_wrongOf_98 ?_
            refine at_iconst dX1_wrongOf_101 pc_i4 ?_
            refine at_iload dX1_wrongOf_102 rfl ?_
            refine at_iast sd_23 (by unfold vp_in; decide) dX1_wrongOf_104 ?_
            refine at_aload_n dX1_wrongOf_105 rfl ?_
            refine at_getr (23) flX1_26 rfl sd_18 (rs_18_5 hR) dX1_wrongOf_106 ?_
            refine at_iconst dX1_wrongOf_109 pc_i5 ?_
            refine at_aload_n dX1_wrongOf_110 rfl ?_
            refine at_getr (21) flX1_18 rfl sd_18 (rs_18_2 hR) dX1_wrongOf_111 ?_
            refine at_aload_n dX1_wrongOf_114 rfl ?_
            refine at_getr (19) flX1_9 rfl sd_18 (rs_18_0 hR) dX1_wrongOf_115 ?_
            refine at_iload_n dX1_wrongOf_118 rfl ?_
            refine at_iald sd_19 (hin) dX1_wrongOf_119 ?_
            rw [hcl, pd_up_nb (by omega), pd_up_nb (by omega), pd_up_nb (by omega), pd_up_nb (by omega), pd_up_nb (by omega), hwa]
            refine at_iald sd_21 (hvin) dX1_wrongOf_120 ?_
            rw [hvc, pd_up_nb (by omega), pd_up_nb (by omega), pd_up_nb (by omega), pd_up_nb (by omega), pd_up_nb (by omega), ht v hv hw]
            refine at_iast sd_23 (by unfold vp_in; decide) dX1_wrongOf_121 ?_
            refine at_aload_n dX1_wrongOf_122 rfl ?_
            refine at_getr (c + 8) flX1_99 rfl (sd_P0 hc) (rs_P16 hR hc) dX1_wrongOf_123 ?_
            refine at_aload_n dX1_wrongOf_126 rfl ?_
            refine at_getr (23) flX1_26 rfl sd_18 (rs_18_5 hR) dX1_wrongOf_127 ?_
            refine at_cv1 cvX1_103 (sd_P8 hc) (ev_X4_holds (e := e) hR hc (by simp (disch := omega) only [pd_up_nb]; exact hp.2.2.2.2.2.2.1) hp.2.2.2.2.2.2.2.1 (fun j q hq => by simp (disch := omega) only [pd_up_nb]; exact hp.2.2.2.2.2.2.2.2 j q hq) hr.2.2.2.2.2.2.2.2.2.2.2.2.2.2.2) (by decide) ⟨Nat.le_refl _, Nat.le_refl _⟩ (Nat.le_of_ble_eq_true rfl) dX1_wrongOf_130 (pd_k1 ?_)
            rw [rl_good_cong (g := rF r nv i) (fun k hk => by rcases (show k = 0 ∨ k = 1 ∨ k = 2 ∨ k = 3 ∨ k = 4 ∨ k = 5 by omega) with rfl | rfl | rfl | rfl | rfl | rfl <;> simp [pd_up, rF])]
            refine at_ifeq (tgt := 140) dX1_wrongOf_133 (by decide) (fun c133 => ?_) (fun c133 => ?_)
            · -- taken 133
              have hg : rl_good (rF r nv i) e = false := by simpa [i_of] using c133
              refine at_iconst dX1_wrongOf_140 pc_i3 ?_
              refine at_iret rfl dX1_wrongOf_141 ?_
              refine ⟨_, _, _, rfl, rfl, ?_, rfl, fun a ha j => ?_⟩
              · rw [rH, if_neg hne, if_neg (by intro h; rcases h with h | h | h <;> first | exact c37 h | exact c46 h | exact Int32.not_le.mpr h c53)]; simp [hg]
              · simp (disch := assumption) only [pd_up_nb]
            · -- not taken 133
              have hg : rl_good (rF r nv i) e = true := by simpa [i_of] using c133
              refine at_iconst dX1_wrongOf_136 pc_i0 ?_
              refine at_goto (tgt := 141) dX1_wrongOf_137 (by decide) ?_
              refine at_iret rfl dX1_wrongOf_141 ?_
              refine ⟨_, _, _, rfl, rfl, ?_, rfl, fun a ha j => ?_⟩
              · rw [rH, if_neg hne, if_neg (by intro h; rcases h with h | h | h <;> first | exact c37 h | exact c46 h | exact Int32.not_le.mpr h c53)]; simp [hg]
              · simp (disch := assumption) only [pd_up_nb]
          · -- not taken 53
            refine at_iconst dX1_wrongOf_56 pc_i2 ?_
            refine at_iret rfl dX1_wrongOf_57 ?_
            first | exact ⟨_, _, _, rfl, rfl, (h2 (Or.inl c37)).symm, rfl, fun _ _ _ => rfl⟩ | exact ⟨_, _, _, rfl, rfl, (h2 (Or.inr (Or.inl c46))).symm, rfl, fun _ _ _ => rfl⟩ | exact ⟨_, _, _, rfl, rfl, (h2 (Or.inr (Or.inr (Int32.not_le.mp c53)))).symm, rfl, fun _ _ _ => rfl⟩
    · -- not taken 5
      exact absurd c5 (by decide)
end JUD
