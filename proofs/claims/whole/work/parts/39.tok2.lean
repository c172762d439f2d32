/-! ===== names, words, all that stands on the tape ===== -/
theorem n32_app : ∀ (w : List Nat) (x : Nat), n32 (w ++ [x]) = n32 w + x * 32 ^ w.length
  | [], x => by simp [n32]
  | y :: w, x => by
    rw [List.cons_append, n32, n32, n32_app w x, List.length_cons, Nat.pow_succ, Nat.mul_add]
    have : 32 * (x * 32 ^ w.length) = x * (32 ^ w.length * 32) := by rw [Nat.mul_comm 32, Nat.mul_assoc]
    omega
def pfx (B : Nat → Nat) (q i : Nat) : List Nat := (List.range i).map (fun j => B (q + j) - 96)
theorem pfx_len (B : Nat → Nat) (q i : Nat) : (pfx B q i).length = i := by simp [pfx]
theorem pfx_succ (B : Nat → Nat) (q i : Nat) : pfx B q (i + 1) = pfx B q i ++ [B (q + i) - 96] := by simp [pfx, List.range_succ]
theorem pfx_ok {B : Nat → Nat} {n q i : Nat} (h : ∀ j, j < i → isL B n (q + j) = true) : ∀ x ∈ pfx B q i, 1 ≤ x ∧ x ≤ 26 := by
  intro x hx
  simp only [pfx, List.mem_map, List.mem_range] at hx
  obtain ⟨j, hj, rfl⟩ := hx
  have := isL_b (h j hj)
  omega
theorem i_smod5 : ∀ i, i < 5 → (((5 * nI i) &&& 31).toBitVec.smod 32).toNat = 5 * i := by decide +kernel
theorem wl_step {w : List Nat} (hw : ∀ x ∈ w, 1 ≤ x ∧ x ≤ 26) (hl : w.length < 5) {x : Nat} (hx : x ≤ 26) : nI (n32 w) ||| (nI x) <<< ((5 * nI w.length) &&& 31) = nI (n32 (w ++ [x])) := by
  have h1 := n32_lt w hw
  have e1 : (32 : Nat) ^ w.length = 2 ^ (5 * w.length) := by rw [show (32 : Nat) = 2 ^ 5 from rfl, ← Nat.pow_mul]
  have h2 : (2 : Nat) ^ (5 * w.length) ≤ 2 ^ 20 := Nat.pow_le_pow_right (by decide) (by omega)
  have h3 : x * 2 ^ (5 * w.length) ≤ 26 * 2 ^ 20 := Nat.mul_le_mul hx h2
  rw [pk_shlN _ (5 * w.length) (i_smod5 _ hl) (by omega), n32_app, e1, fa_or, Nat.or_comm]
  have h4 : 2 ^ (5 * w.length) * x ||| n32 w = 2 ^ (5 * w.length) * x + n32 w := (Nat.two_pow_add_eq_or_of_lt (by rw [← e1]; exact h1) x).symm
  rw [Nat.mul_comm x, h4, Nat.add_comm]
def nameV (B : Nat → Nat) (n q : Nat) : Int32 := if (tkW B n q).length ≤ 5 then nI (n32 (tkW B n q)) else -1
def wdl : List Nat := [118, 111, 116, 101, 114, 32, 115, 104, 101, 101, 116, 32, 115, 105, 103, 110, 32, 110, 101, 101, 100, 32, 115, 112, 97, 110, 32, 115, 112, 111, 105, 108, 116, 32, 97, 108, 112, 104, 97, 32, 103, 111, 111, 100, 32, 111, 114, 32, 97, 110, 100, 32, 110, 111, 116, 32, 100, 97, 121, 32, 115, 116, 114, 101, 101, 116, 32, 108, 105, 110, 101, 32, 115, 105, 110, 99, 101, 32, 97, 104, 101, 97, 100, 32]
def wdb : List Int32 := wdl.map (fun c => nI c)
theorem wd_sc : ∀ j, j < 84 → sc_c (wdb.getD j 0) = nI (wdl.getD j 0) ∧ wdl.getD j 0 < 128 := by decide +kernel
theorem wd_len : wdb.length = 84 ∧ wdl.length = 84 := by decide
set_option maxRecDepth 100000 in
theorem wd_sw : pd_sw RX7 "voter sheet sign need span spoilt alpha good or and not day street line since ahead " 68 wdb := ⟨by decide +kernel, by decide, by decide +kernel, by decide +kernel, by decide +kernel, by decide +kernel, by decide +kernel⟩
/-- words tried one after another -/
def kwS (B : Nat → Nat) (n q : Nat) : List Nat → Nat → Option Nat → Nat
  | [], _, _ => 17
  | c :: cs, k, none => if c = 32 then kwS B n q cs (k + 1) (some 0) else kwS B n q cs k none
  | c :: cs, k, some a => if c = 32 then (if isL B n (q + a) then kwS B n q cs (k + 1) (some 0) else k) else kwS B n q cs k (if q + a < n ∧ B (q + a) = c then some (a + 1) else none)
theorem kwS_none (B : Nat → Nat) (n q : Nat) : ∀ (w rest : List Nat) (k : Nat), (∀ c ∈ w, c ≠ 32) → kwS B n q (w ++ 32 :: rest) k none = kwS B n q rest (k + 1) (some 0)
  | [], rest, k, _ => by rw [List.nil_append, kwS, if_pos rfl]
  | c :: w, rest, k, h => by
    rw [List.cons_append, kwS, if_neg (h c List.mem_cons_self)]
    exact kwS_none B n q w rest k (fun x hx => h x (List.mem_cons_of_mem _ hx))
theorem kwS_some (B : Nat → Nat) (n q : Nat) : ∀ (w rest : List Nat) (k a : Nat), (∀ c ∈ w, c ≠ 32) → kwS B n q (w ++ 32 :: rest) k (some a) = if isW B n (q + a) w then k else kwS B n q rest (k + 1) (some 0)
  | [], rest, k, a, _ => by
    rw [List.nil_append, kwS, if_pos rfl, isW]
    cases isL B n (q + a) <;> simp
  | c :: w, rest, k, a, h => by
    rw [List.cons_append, kwS, if_neg (h c List.mem_cons_self), isW]
    by_cases hq : q + a < n ∧ B (q + a) = c
    · rw [if_pos hq, kwS_some B n q w rest k (a + 1) (fun x hx => h x (List.mem_cons_of_mem _ hx))]
      simp [hq.1, hq.2, Nat.add_assoc]
    · rw [if_neg hq, kwS_none B n q w rest k (fun x hx => h x (List.mem_cons_of_mem _ hx))]
      have : (decide (q + a < n) && decide (B (q + a) = c)) = false := by
        rw [Bool.and_eq_false_iff]
        by_cases h1 : q + a < n
        · exact Or.inr (by simp; exact fun h2 => hq ⟨h1, h2⟩)
        · exact Or.inl (by simp; omega)
      rw [this]; simp
theorem kwS_all (B : Nat → Nat) (n q : Nat) : ∀ (ws : List (List Nat)) (k : Nat), (∀ w ∈ ws, ∀ c ∈ w, c ≠ 32) → k + ws.length = 17 → kwS B n q (ws.flatMap (fun w => w ++ [32])) k (some 0) = kwF B n q ws k
  | [], k, _, hk => by rw [kwF]; simp at hk; rw [hk]; rfl
  | w :: ws, k, h, hk => by
    rw [List.flatMap_cons, List.append_assoc, List.singleton_append, kwS_some B n q w _ k 0 (h w List.mem_cons_self), kwF, Nat.add_zero, kwS_all B n q ws (k + 1) (fun x hx => h x (List.mem_cons_of_mem _ hx)) (by simp at hk; omega)]
theorem kwS_is (B : Nat → Nat) (n q : Nat) : kwS B n q wdl 1 (some 0) = kwF B n q wds 1 := by
  rw [← kwS_all B n q wds 1 (by decide) (by decide)]
  rfl
def aI (o : Option Nat) : Int32 := match o with
  | none => -1
  | some a => nI a
section TOK2
variable {G : pd_G} {I : Nat → Nat → Int32} {L : Nat → Nat → Int64} {R : Nat → Nat → Option Nat} {B : Nat → Nat} {n : Nat}
theorem tkW_at {q i : Nat} (hq : q < n) (h : ∀ j, j < i → isL B n (q + j) = true) (hi : isL B n (q + i) = false) : tkW B n q = pfx B q i := by
  have key : ∀ k, k ≤ i → rnE (isL B n) n (q + (i - k)) = q + i := by
    intro k
    induction k with
    | zero => intro _; rw [Nat.sub_zero]; exact rnE_no hi
    | succ k ih =>
      intro hk
      have h1 := h (i - (k + 1)) (by omega)
      have h2 := (isL_b h1).1
      rw [rnE_yes h2 h1, show q + (i - (k + 1)) + 1 = q + (i - k) by omega]
      exact ih (by omega)
  have h0 := key i (Nat.le_refl _)
  rw [Nat.sub_self, Nat.add_zero] at h0
  unfold tkW pfx
  rw [h0, show q + i - q = i by omega]
theorem tkW_long {q i : Nat} (h : ∀ j, j ≤ i → isL B n (q + j) = true) : i < (tkW B n q).length := by
  have key : ∀ k, k ≤ i + 1 → q + (i + 1) ≤ rnE (isL B n) n (q + (i + 1 - k)) := by
    intro k
    induction k with
    | zero => intro _; rw [Nat.sub_zero]; exact rnE_ge _ _ _
    | succ k ih =>
      intro hk
      have h1 := h (i + 1 - (k + 1)) (by omega)
      rw [rnE_yes (isL_b h1).1 h1, show q + (i + 1 - (k + 1)) + 1 = q + (i + 1 - k) by omega]
      exact ih (by omega)
  have h0 := key (i + 1) (Nat.le_refl _)
  simp only [Nat.sub_self, Nat.add_zero] at h0
  simp only [tkW, List.length_map, List.length_range]
  omega
theorem cB_eq (hT : TB I B n) {k c : Nat} (hc : c < 128) : cB B n k = nI c ↔ k < n ∧ B k = c := by
  unfold cB
  by_cases hk : k < n
  · rw [if_pos hk]
    obtain ⟨h1, -⟩ := hT.2.2 k hk
    by_cases hb : B k < 128
    · rw [sb_lo hb, nI_eq (by omega) (by omega)]; simp [hk]
    · have h2 := sb_hi h1 (by omega)
      constructor
      · intro q; rw [q] at h2; exact absurd h2 (nI_pos (by omega))
      · intro q; omega
  · rw [if_neg hk]
    constructor
    · intro q; exact absurd q.symm (nI_nm1 (by omega))
    · intro q; omega
theorem lp_X7_nameAt (hR : RS R) (hT : TB I B n) {q : Nat} (hq : q < n) : ∀ (k i : Nat), i + k = 5 → (∀ j, j < i → isL B n (q + j) = true) → pd_At G mi_X7_nameAt 3 0 0 0 0 4 [some (.ref (pd_z G + 2)), some (.int (nI q)), some (.int (nI (n32 (pfx B q i)))), some (.int (nI i))] [] (SD, false, I, L, R) (pd_rt (.int (nameV B n q)) (SD, false, I, L, R)) := by
  have h6 := hT.2.1
  have fin : ∀ i, i ≤ 5 → (∀ j, j < i → isL B n (q + j) = true) → isL B n (q + i) = false → nameV B n q = nI (n32 (pfx B q i)) := by
    intro i hi h1 h2
    unfold nameV
    rw [tkW_at hq h1 h2, pfx_len, if_pos hi]
  intro k
  induction k with
  | zero =>
    intro i hi h
    have e0 : i = 5 := by omega
    subst e0
    refine at_iload_n dX7_nameAt_4 rfl ?_
    refine at_iconst dX7_nameAt_5 pc_i5 ?_
    refine at_icmpge (tgt := 38) dX7_nameAt_6 (by decide) (fun c6 => ?_) (fun c6 => ?_)
    · -- taken 6
      refine at_aload_n dX7_nameAt_38 rfl ?_
      refine at_iload_n dX7_nameAt_39 rfl ?_
      refine at_iload_n dX7_nameAt_40 rfl ?_
      refine at_iadd dX7_nameAt_41 ?_
      rw [nI_add]
      refine at_cv1 cvX7_44 sd_2 (ev_X7_isLetter hR hT (by omega)) (by decide) ⟨Nat.le_refl _, Nat.le_refl _⟩ (Nat.le_of_ble_eq_true rfl) dX7_nameAt_42 (pd_k1 ?_)
      refine at_ifeq (tgt := 52) dX7_nameAt_45 (by decide) (fun c45 => ?_) (fun c45 => ?_)
      · -- taken 45
        refine at_iload_n dX7_nameAt_52 rfl ?_
        refine at_iret rfl dX7_nameAt_53 ?_
        first | (refine ⟨?_, rfl⟩; rw [fin 5 (by omega) h (i_of0.mp c45)]; done) | (have h5 := i_of1.mp c45; have h9 := tkW_long (B := B) (n := n) (q := q) (i := 5) (fun j hj => by rcases Nat.lt_or_eq_of_le hj with q | rfl; exact h j q; exact h5); refine ⟨?_, rfl⟩; rw [nameV, if_neg (by omega)])
      · -- not taken 45
        refine at_iconst dX7_nameAt_48 pc_im1 ?_
        refine at_goto (tgt := 53) dX7_nameAt_49 (by decide) ?_
        refine at_iret rfl dX7_nameAt_53 ?_
        first | (refine ⟨?_, rfl⟩; rw [fin 5 (by omega) h (i_of0.mp c45)]; done) | (have h5 := i_of1.mp c45; have h9 := tkW_long (B := B) (n := n) (q := q) (i := 5) (fun j hj => by rcases Nat.lt_or_eq_of_le hj with q | rfl; exact h j q; exact h5); refine ⟨?_, rfl⟩; rw [nameV, if_neg (by omega)])
    · -- not taken 6
      exact absurd (by decide) c6
  | succ k ih =>
    intro i hi h
    have h9 := ih (i + 1) (by omega)
    refine at_iload_n dX7_nameAt_4 rfl ?_
    refine at_iconst dX7_nameAt_5 pc_i5 ?_
    refine at_icmpge (tgt := 38) dX7_nameAt_6 (by decide) (fun c6 => ?_) (fun c6 => ?_)
    · -- taken 6
      exact absurd c6 (nI_ge (b := 5) (by omega) (by decide))
    · -- not taken 6
      refine at_aload_n dX7_nameAt_9 rfl ?_
      refine at_iload_n dX7_nameAt_10 rfl ?_
      refine at_iload_n dX7_nameAt_11 rfl ?_
      refine at_iadd dX7_nameAt_12 ?_
      rw [nI_add]
      refine at_cv1 cvX7_44 sd_2 (ev_X7_isLetter hR hT (by omega)) (by decide) ⟨Nat.le_refl _, Nat.le_refl _⟩ (Nat.le_of_ble_eq_true rfl) dX7_nameAt_13 (pd_k1 ?_)
      refine at_ifeq (tgt := 38) dX7_nameAt_16 (by decide) (fun c16 => ?_) (fun c16 => ?_)
      · -- taken 16
        have h0 := i_of0.mp c16
        refine at_aload_n dX7_nameAt_38 rfl ?_
        refine at_iload_n dX7_nameAt_39 rfl ?_
        refine at_iload_n dX7_nameAt_40 rfl ?_
        refine at_iadd dX7_nameAt_41 ?_
        rw [nI_add]
        refine at_cv1 cvX7_44 sd_2 (ev_X7_isLetter hR hT (by omega)) (by decide) ⟨Nat.le_refl _, Nat.le_refl _⟩ (Nat.le_of_ble_eq_true rfl) dX7_nameAt_42 (pd_k1 ?_)
        refine at_ifeq (tgt := 52) dX7_nameAt_45 (by decide) (fun _ => ?_) (fun c => absurd (i_of1.mp c) (by rw [h0]; decide))
        refine at_iload_n dX7_nameAt_52 rfl ?_
        refine at_iret rfl dX7_nameAt_53 ?_
        exact ⟨by rw [fin i (by omega) h h0], rfl⟩
      · -- not taken 16
        have hl := i_of1.mp c16
        obtain ⟨l1, l2, l3⟩ := isL_b hl
        have eB : cB B n (q + i) = nI (B (q + i)) := by rw [cB, if_pos l1, sb_lo (by omega)]
        have hall : ∀ j, j < i + 1 → isL B n (q + j) = true := fun j hj => by
          rcases Nat.lt_or_eq_of_le (Nat.lt_succ_iff.mp hj) with q | rfl
          · exact h j q
          · exact hl
        have eS := wl_step (w := pfx B q i) (x := B (q + i) - 96) (pfx_ok h) (by rw [pfx_len]; omega) (by omega)
        rw [pfx_len, ← pfx_succ] at eS
        refine at_iload_n dX7_nameAt_19 rfl ?_
        refine at_iload_n dX7_nameAt_20 rfl ?_
        refine at_aload_n dX7_nameAt_21 rfl ?_
        refine at_iload_n dX7_nameAt_22 rfl ?_
        refine at_iload_n dX7_nameAt_23 rfl ?_
        refine at_iadd dX7_nameAt_24 ?_
        rw [nI_add]
        refine at_cv1 cvX7_65 sd_2 (ev_X7_byteAt hR hT (by omega)) (by decide) ⟨Nat.le_refl _, Nat.le_refl _⟩ (Nat.le_of_ble_eq_true rfl) dX7_nameAt_25 (pd_k1 ?_)
        rw [eB]
        refine at_cs3 csX7_79 (ev_X2_withLetter _ _ _) (by decide) ⟨Nat.le_refl _, Nat.le_refl _⟩ (Nat.le_of_ble_eq_true rfl) dX7_nameAt_28 (pd_k1 ?_)
        rw [show (96 : Int32) = nI 96 from rfl, pk_sub (by omega), eS]
        refine at_istore_n dX7_nameAt_31 rfl (Nat.le_of_ble_eq_true rfl) ?_
        refine at_inc dX7_nameAt_32 rfl pc_i1 rfl (Nat.le_of_ble_eq_true rfl) ?_
        refine at_goto (tgt := 4) dX7_nameAt_35 (by decide) ?_
        rw [nI_1]; exact h9 hall
theorem ev_X7_nameAt (hR : RS R) (hT : TB I B n) {q : Nat} (hq : q < n) : pd_Ev G mi_X7_nameAt 3 0 0 [.ref (pd_z G + 2), .int (nI q)] (SD, false, I, L, R) (pd_rt (.int (nameV B n q)) (SD, false, I, L, R)) := by
  have h6 := hT.2.1
  refine pd_ev 2 (lo := [some (.ref (pd_z G + 2)), some (.int (nI q)), none, none]) (by decide +kernel) (Nat.le_of_ble_eq_true rfl) rfl ?_
  refine at_iconst dX7_nameAt_0 pc_i0 ?_
  refine at_istore_n dX7_nameAt_1 rfl (Nat.le_of_ble_eq_true rfl) ?_
  refine at_iconst dX7_nameAt_2 pc_i0 ?_
  refine at_istore_n dX7_nameAt_3 rfl (Nat.le_of_ble_eq_true rfl) ?_
  exact lp_X7_nameAt (G := G) (L := L) hR hT hq 5 0 (by omega) (fun j hj => by omega)
theorem lp_X7_kind (hR : RS R) (hT : TB I B n) {q : Nat} (hq : q < n) : ∀ (m i : Nat), i + m = 84 → ∀ (c : Nat) (o : Option Nat), c ≤ i + 1 → (∀ a, o = some a → a ≤ i) → pd_At G mi_X7_kindOfWord 5 0 0 0 0 7 [some (.ref (pd_z G + 2)), some (.int (nI q)), some (.int (nI c)), some (.int (aI o)), some (.int (nI i)), none] [] (SD, false, I, L, R) (pd_rt (.int (nI (kwS B n q (wdl.drop i) c o))) (SD, false, I, L, R)) := by
  have h6 := hT.2.1
  intro m
  induction m with
  | zero =>
    intro i hi c o hc ho
    have e0 : i = 84 := by omega
    subst e0
    refine at_iload dX7_kindOfWord_7 rfl ?_
    refine at_ldcS wd_sw rfl dX7_kindOfWord_9 (fun hS9 => ?_)
    refine at_callT (As := []) cb_J0_length_8abf5 mlX7_70 im_J0_length_8abf5 se_J0_length_8abf5 rfl rfl hS9 (ev_J0_length hS9) (by decide) ⟨Nat.le_of_ble_eq_true rfl, Nat.le_of_ble_eq_true rfl⟩ (Nat.le_of_ble_eq_true rfl) dX7_kindOfWord_11 (pd_k1 ?_)
    rw [wd_len.1]
    refine at_icmpge (tgt := 89) dX7_kindOfWord_14 (by decide) (fun c14 => ?_) (fun c14 => ?_)
    · -- taken 14
      refine at_bipush dX7_kindOfWord_89 pc_b17 ?_
      refine at_iret rfl dX7_kindOfWord_91 ?_
      exact ⟨rfl, rfl⟩
    · -- not taken 14
      exact absurd (by decide) c14
  | succ m ih =>
    intro i hi c o hc ho
    obtain ⟨x, hx⟩ : ∃ x, x = wdl.getD i 0 := ⟨_, rfl⟩
    have hd : wdl.drop i = x :: wdl.drop (i + 1) := by
      have hi2 : i < wdl.length := by rw [wd_len.2]; omega
      rw [List.drop_eq_getElem_cons hi2, hx, List.getD_eq_getElem?_getD, List.getElem?_eq_getElem hi2]; rfl
    obtain ⟨w1, w2⟩ := wd_sc i (by omega)
    rw [← hx] at w1 w2
    have e32 : nI x = 32 ↔ x = 32 := nI_eq (b := 32) (by omega) (by decide)
    rw [hd]
    refine at_iload dX7_kindOfWord_7 rfl ?_
    refine at_ldcS wd_sw rfl dX7_kindOfWord_9 (fun hS9 => ?_)
    refine at_callT (As := []) cb_J0_length_8abf5 mlX7_70 im_J0_length_8abf5 se_J0_length_8abf5 rfl rfl hS9 (ev_J0_length hS9) (by decide) ⟨Nat.le_of_ble_eq_true rfl, Nat.le_of_ble_eq_true rfl⟩ (Nat.le_of_ble_eq_true rfl) dX7_kindOfWord_11 (pd_k1 ?_)
    rw [wd_len.1]
    refine at_icmpge (tgt := 89) dX7_kindOfWord_14 (by decide) (fun c14 => ?_) (fun c14 => ?_)
    · -- taken 14
      exact absurd c14 (nI_ge (b := 84) (by omega) (by decide))
    · -- not taken 14
      refine at_ldcS wd_sw rfl dX7_kindOfWord_17 (fun hS17 => ?_)
      refine at_iload dX7_kindOfWord_19 rfl ?_
      refine at_callT (As := [.int (nI i)]) cb_J0_charAt_5068e mlX7_75 im_J0_charAt_5068e se_J0_charAt_5068e rfl rfl hS17 (ev_J0_charAt hS17 (by rw [wd_len.1]; omega)) (by decide) ⟨Nat.le_of_ble_eq_true rfl, Nat.le_of_ble_eq_true rfl⟩ (Nat.le_of_ble_eq_true rfl) dX7_kindOfWord_21 (pd_k1 ?_)
      rw [w1]
      refine at_istore dX7_kindOfWord_24 rfl (Nat.le_of_ble_eq_true rfl) ?_
      refine at_iload dX7_kindOfWord_26 rfl ?_
      refine at_bipush dX7_kindOfWord_28 pc_b32 ?_
      refine at_icmpeq (tgt := 61) dX7_kindOfWord_30 (by decide) (fun c30 => ?_) (fun c30 => ?_)
      · -- taken 30
        rw [e32] at c30
        refine at_iload_n dX7_kindOfWord_61 rfl ?_
        refine at_iconst dX7_kindOfWord_62 pc_im1 ?_
        refine at_icmpeq (tgt := 78) dX7_kindOfWord_63 (by decide) (fun c63 => ?_) (fun c63 => ?_)
        · -- taken 63
          have h0 : o = none := by
            cases o with
            | none => rfl
            | some a => exact absurd c63 (nI_nm1 (by have := ho a rfl; omega))
          subst h0
          rw [kwS, if_pos c30]
          refine at_inc dX7_kindOfWord_78 rfl pc_i1 rfl (Nat.le_of_ble_eq_true rfl) ?_
          refine at_iconst dX7_kindOfWord_81 pc_i0 ?_
          refine at_istore_n dX7_kindOfWord_82 rfl (Nat.le_of_ble_eq_true rfl) ?_
          refine at_inc dX7_kindOfWord_83 rfl pc_i1 rfl (Nat.le_of_ble_eq_true rfl) ?_
          refine at_goto (tgt := 7) dX7_kindOfWord_86 (by decide) ?_
          simp only [nI_1]
          exact at_drop 5 (ih (i + 1) (by omega) (c + 1) (some 0) (by omega) (fun a h => by cases h; omega))
        · -- not taken 63
          obtain ⟨a, h0⟩ : ∃ a, o = some a := by
            cases o with
            | none => exact absurd rfl c63
            | some a => exact ⟨a, rfl⟩
          subst h0
          have ha := ho a rfl
          rw [kwS, if_pos c30]
          simp only [aI]
          refine at_aload_n dX7_kindOfWord_66 rfl ?_
          refine at_iload_n dX7_kindOfWord_67 rfl ?_
          refine at_iload_n dX7_kindOfWord_68 rfl ?_
          refine at_iadd dX7_kindOfWord_69 ?_
          rw [nI_add]
          refine at_cv1 cvX7_44 sd_2 (ev_X7_isLetter hR hT (by omega)) (by decide) ⟨Nat.le_refl _, Nat.le_refl _⟩ (Nat.le_of_ble_eq_true rfl) dX7_kindOfWord_70 (pd_k1 ?_)
          refine at_ifne (tgt := 78) dX7_kindOfWord_73 (by decide) (fun c73 => ?_) (fun c73 => ?_)
          · -- taken 73
            rw [if_pos (i_of1.mp c73)]
            refine at_inc dX7_kindOfWord_78 rfl pc_i1 rfl (Nat.le_of_ble_eq_true rfl) ?_
            refine at_iconst dX7_kindOfWord_81 pc_i0 ?_
            refine at_istore_n dX7_kindOfWord_82 rfl (Nat.le_of_ble_eq_true rfl) ?_
            refine at_inc dX7_kindOfWord_83 rfl pc_i1 rfl (Nat.le_of_ble_eq_true rfl) ?_
            refine at_goto (tgt := 7) dX7_kindOfWord_86 (by decide) ?_
            simp only [nI_1]
            first | (rw [if_pos c47]; exact at_drop 5 (ih (i + 1) (by omega) c (some (a + 1)) (by omega) (fun a' h => by cases h; omega))) | (rw [if_neg c47]; exact at_drop 5 (ih (i + 1) (by omega) c none (by omega) (fun a' h => by cases h))) | exact at_drop 5 (ih (i + 1) (by omega) (c + 1) (some 0) (by omega) (fun a' h => by cases h; omega))
          · -- not taken 73
            refine at_iload_n dX7_kindOfWord_76 rfl ?_
            refine at_iret rfl dX7_kindOfWord_77 ?_
            refine ⟨?_, rfl⟩
            rw [i_of0.mp c73]; rfl
      · -- not taken 30
        rw [e32] at c30
        refine at_iload_n dX7_kindOfWord_33 rfl ?_
        refine at_iconst dX7_kindOfWord_34 pc_im1 ?_
        refine at_icmpeq (tgt := 56) dX7_kindOfWord_35 (by decide) (fun c35 => ?_) (fun c35 => ?_)
        · -- taken 35
          have h0 : o = none := by
            cases o with
            | none => rfl
            | some a => exact absurd c35 (nI_nm1 (by have := ho a rfl; omega))
          subst h0
          rw [kwS, if_neg c30]
          refine at_iconst dX7_kindOfWord_56 pc_im1 ?_
          refine at_istore_n dX7_kindOfWord_57 rfl (Nat.le_of_ble_eq_true rfl) ?_
          refine at_goto (tgt := 83) dX7_kindOfWord_58 (by decide) ?_
          refine at_inc dX7_kindOfWord_83 rfl pc_i1 rfl (Nat.le_of_ble_eq_true rfl) ?_
          refine at_goto (tgt := 7) dX7_kindOfWord_86 (by decide) ?_
          rw [nI_1]
          exact at_drop 5 (ih (i + 1) (by omega) c none (by omega) (fun a h => by cases h))
        · -- not taken 35
          obtain ⟨a, h0⟩ : ∃ a, o = some a := by
            cases o with
            | none => exact absurd rfl c35
            | some a => exact ⟨a, rfl⟩
          subst h0
          have ha := ho a rfl
          rw [kwS, if_neg c30]
          simp only [aI]
          refine at_aload_n dX7_kindOfWord_38 rfl ?_
          refine at_iload_n dX7_kindOfWord_39 rfl ?_
          refine at_iload_n dX7_kindOfWord_40 rfl ?_
          refine at_iadd dX7_kindOfWord_41 ?_
          rw [nI_add]
          refine at_cv1 cvX7_65 sd_2 (ev_X7_byteAt hR hT (by omega)) (by decide) ⟨Nat.le_refl _, Nat.le_refl _⟩ (Nat.le_of_ble_eq_true rfl) dX7_kindOfWord_42 (pd_k1 ?_)
          refine at_iload dX7_kindOfWord_45 rfl ?_
          refine at_icmpne (tgt := 56) dX7_kindOfWord_47 (by decide) (fun c47 => ?_) (fun c47 => ?_)
          · -- taken 47
            rw [cB_eq hT w2] at c47
            refine at_iconst dX7_kindOfWord_56 pc_im1 ?_
            refine at_istore_n dX7_kindOfWord_57 rfl (Nat.le_of_ble_eq_true rfl) ?_
            refine at_goto (tgt := 83) dX7_kindOfWord_58 (by decide) ?_
            refine at_inc dX7_kindOfWord_83 rfl pc_i1 rfl (Nat.le_of_ble_eq_true rfl) ?_
            refine at_goto (tgt := 7) dX7_kindOfWord_86 (by decide) ?_
            simp only [nI_1]
            first | (rw [if_pos c47]; exact at_drop 5 (ih (i + 1) (by omega) c (some (a + 1)) (by omega) (fun a' h => by cases h; omega))) | (rw [if_neg c47]; exact at_drop 5 (ih (i + 1) (by omega) c none (by omega) (fun a' h => by cases h))) | exact at_drop 5 (ih (i + 1) (by omega) (c + 1) (some 0) (by omega) (fun a' h => by cases h; omega))
          · -- not taken 47
            rw [cB_eq hT w2] at c47
            refine at_iload_n dX7_kindOfWord_50 rfl ?_
            refine at_iconst dX7_kindOfWord_51 pc_i1 ?_
            refine at_iadd dX7_kindOfWord_52 ?_
            refine at_goto (tgt := 57) dX7_kindOfWord_53 (by decide) ?_
            refine at_istore_n dX7_kindOfWord_57 rfl (Nat.le_of_ble_eq_true rfl) ?_
            refine at_goto (tgt := 83) dX7_kindOfWord_58 (by decide) ?_
            refine at_inc dX7_kindOfWord_83 rfl pc_i1 rfl (Nat.le_of_ble_eq_true rfl) ?_
            refine at_goto (tgt := 7) dX7_kindOfWord_86 (by decide) ?_
            simp only [nI_1]
            first | (rw [if_pos c47]; exact at_drop 5 (ih (i + 1) (by omega) c (some (a + 1)) (by omega) (fun a' h => by cases h; omega))) | (rw [if_neg c47]; exact at_drop 5 (ih (i + 1) (by omega) c none (by omega) (fun a' h => by cases h))) | exact at_drop 5 (ih (i + 1) (by omega) (c + 1) (some 0) (by omega) (fun a' h => by cases h; omega))
theorem ev_X7_kindOfWord (hR : RS R) (hT : TB I B n) {q : Nat} (hq : q < n) : pd_Ev G mi_X7_kindOfWord 5 0 0 [.ref (pd_z G + 2), .int (nI q)] (SD, false, I, L, R) (pd_rt (.int (nI (kwF B n q wds 1))) (SD, false, I, L, R)) := by
  have h9 := lp_X7_kind (G := G) (L := L) hR hT hq 84 0 (by omega) 1 (some 0) (by omega) (fun a h => by cases h; omega)
  rw [List.drop_zero, kwS_is] at h9
  refine pd_ev 4 (lo := [some (.ref (pd_z G + 2)), some (.int (nI q)), none, none, none, none]) (by decide +kernel) (Nat.le_of_ble_eq_true rfl) rfl ?_
  refine at_iconst dX7_kindOfWord_0 pc_i1 ?_
  refine at_istore_n dX7_kindOfWord_1 rfl (Nat.le_of_ble_eq_true rfl) ?_
  refine at_iconst dX7_kindOfWord_2 pc_i0 ?_
  refine at_istore_n dX7_kindOfWord_3 rfl (Nat.le_of_ble_eq_true rfl) ?_
  refine at_iconst dX7_kindOfWord_4 pc_i0 ?_
  refine at_istore dX7_kindOfWord_5 rfl (Nat.le_of_ble_eq_true rfl) ?_
  exact h9
end TOK2
