/-! ===== all that stands on the tape, laid out in rows ===== -/
section SCAN
variable {G : pd_G} {I : Nat → Nat → Int32} {L : Nat → Nat → Int64} {R : Nat → Nat → Option Nat} {B : Nat → Nat} {n : Nat}
theorem sk_ge (k : Nat) : k ≤ sk B n k := rnE_ge _ _ _
theorem sk_le {k : Nat} (h : k ≤ n) : sk B n k ≤ n := rnE_le _ h
theorem sk_nb {k : Nat} (h : k ≤ n) : isB B n (sk B n k) = false := rnE_out h (fun _ hj => isB_n hj)
theorem sk_b {k j : Nat} (h1 : k ≤ j) (h2 : j < sk B n k) : isB B n j = true := rnE_in _ h1 h2
theorem sk_at {k : Nat} (h : isB B n k = false) : sk B n k = k := rnE_no h
theorem tkE_gt {q : Nat} (h : q < n) : q < tkE B n q ∧ tkE B n q ≤ n := by
  unfold tkE
  rw [if_neg (by omega)]
  by_cases hl : isL B n q = true
  · rw [if_pos hl, rnE_yes h hl]
    exact ⟨rnE_ge _ _ _, rnE_le _ h⟩
  · rw [if_neg hl]
    by_cases hd : isD B n q = true
    · rw [if_pos hd, rnE_yes h hd]
      exact ⟨rnE_ge _ _ _, rnE_le _ h⟩
    · rw [if_neg hd]; omega
theorem tkE_le {q : Nat} (h : q ≤ n) : tkE B n q ≤ n := by
  rcases Nat.lt_or_eq_of_le h with q1 | rfl
  · exact (tkE_gt q1).2
  · unfold tkE; rw [if_pos (Nat.le_refl _)]; exact Nat.le_refl _
theorem tq_le : ∀ i, tq B n i ≤ n
  | 0 => sk_le (Nat.zero_le _)
  | i + 1 => sk_le (tkE_le (tq_le i))
theorem tq_nb : ∀ i, isB B n (tq B n i) = false
  | 0 => sk_nb (Nat.zero_le _)
  | i + 1 => sk_nb (tkE_le (tq_le i))
theorem tq_gt {i : Nat} (h : tq B n i < n) : tq B n i < tq B n (i + 1) := Nat.lt_of_lt_of_le (tkE_gt h).1 (sk_ge _)
theorem tq_n {i : Nat} (h : tq B n i = n) : ∀ d, tq B n (i + d) = n
  | 0 => h
  | d + 1 => by
    have := tq_n h d
    rw [show i + (d + 1) = (i + d) + 1 by omega, tq, this, tkE, if_pos (Nat.le_refl _)]
    exact sk_at (isB_n (Nat.le_refl _))
/-- behind the c-th -/
def tqE (B : Nat → Nat) (n : Nat) : Nat → Nat
  | 0 => 0
  | c + 1 => tkE B n (tq B n c)
theorem tq_E (c : Nat) : tq B n c = sk B n (tqE B n c) := by cases c <;> rfl
theorem tqE_le (c : Nat) : tqE B n c ≤ n := by
  cases c with
  | zero => exact Nat.zero_le _
  | succ c => exact tkE_le (tq_le c)
theorem isL_D {k : Nat} (h : isL B n k = true) : isD B n k = false ∧ isB B n k = false := by
  obtain ⟨h1, h2, h3⟩ := isL_b h
  have a : ¬ B k ≤ 57 := by omega
  have b : ¬ B k = 32 := by omega
  exact ⟨by simp [isD, a], by simp [isB, b]⟩
theorem isD_L {k : Nat} (h : isD B n k = true) : isL B n k = false ∧ isB B n k = false := by
  obtain ⟨h1, h2, h3⟩ := isD_b h
  have a : ¬ 97 ≤ B k := by omega
  have b : ¬ B k = 32 := by omega
  exact ⟨by simp [isL, a], by simp [isB, b]⟩
theorem isB_L {k : Nat} (h : isB B n k = true) : isL B n k = false ∧ isD B n k = false := by
  obtain ⟨h1, h2⟩ := isB_b h
  have a : ¬ 97 ≤ B k := by omega
  have b : ¬ 48 ≤ B k := by omega
  exact ⟨by simp [isL, a], by simp [isD, b]⟩
/-- inside a run: the one ahead is of its kind -/
theorem mid_run {c p : Nat} (hc : ∀ i, i < c → tq B n i < p) (h : p < tqE B n c) : (isL B n p = true ∧ isL B n (p - 1) = true ∧ 1 ≤ p) ∨ (isL B n p = false ∧ isD B n p = true ∧ isD B n (p - 1) = true ∧ 1 ≤ p) := by
  cases c with
  | zero => exact absurd h (Nat.not_lt_zero _)
  | succ c =>
    have hq := hc c (by omega)
    have hn := tqE_le (B := B) (n := n) (c + 1)
    simp only [tqE] at h hn
    have h2 := h
    unfold tkE at h2
    rw [if_neg (by omega)] at h2
    by_cases hl : isL B n (tq B n c) = true
    · rw [if_pos hl] at h2
      exact Or.inl ⟨rnE_in _ (by omega) h2, rnE_in (isL B n) (k := tq B n c) (n := n) (by omega) (by omega), by omega⟩
    · rw [if_neg hl] at h2
      by_cases hd : isD B n (tq B n c) = true
      · rw [if_pos hd] at h2
        have h3 := rnE_in (isD B n) (k := tq B n c) (n := n) (j := p) (by omega) h2
        exact Or.inr ⟨(isD_L h3).1, h3, rnE_in (isD B n) (k := tq B n c) (n := n) (by omega) (by omega), by omega⟩
      · rw [if_neg hd] at h2; omega
/-- at a run's beginning: the one ahead is of another kind -/
theorem at_run {c p : Nat} (hc : ∀ i, i < c → tq B n i < p) (h : p = tq B n c) (hp : 1 ≤ p) (hpn : p < n) : (isL B n p = true → isL B n (p - 1) = false) ∧ (isD B n p = true → isD B n (p - 1) = false) := by
  have hE := tq_E (B := B) (n := n) c
  rw [← h] at hE
  by_cases h1 : tqE B n c ≤ p - 1
  · have hb := sk_b (B := B) (n := n) h1 (by rw [← hE]; omega)
    exact ⟨fun _ => (isB_L hb).1, fun _ => (isB_L hb).2⟩
  · have hge := sk_ge (B := B) (n := n) (tqE B n c)
    rw [← hE] at hge
    have hpE : p = tqE B n c := by omega
    cases c with
    | zero => exact absurd hpE (by show ¬ p = 0; omega)
    | succ c =>
      have hq := hc c (by omega)
      simp only [tqE] at hpE
      have h2 := hpE
      unfold tkE at h2
      rw [if_neg (by omega)] at h2
      by_cases hl : isL B n (tq B n c) = true
      · rw [if_pos hl] at h2
        have o := rnE_out (p := isL B n) (n := n) (k := tq B n c) (by omega) (fun _ hj => isL_n hj)
        rw [← h2] at o
        have i := rnE_in (isL B n) (k := tq B n c) (n := n) (j := p - 1) (by omega) (by omega)
        exact ⟨fun q => (by rw [o] at q; cases q), fun _ => (isL_D i).1⟩
      · rw [if_neg hl] at h2
        by_cases hd : isD B n (tq B n c) = true
        · rw [if_pos hd] at h2
          have o := rnE_out (p := isD B n) (n := n) (k := tq B n c) (by omega) (fun _ hj => isD_n hj)
          rw [← h2] at o
          have i := rnE_in (isD B n) (k := tq B n c) (n := n) (j := p - 1) (by omega) (by omega)
          exact ⟨fun _ => (isD_L i).1, fun q => (by rw [o] at q; cases q)⟩
        · rw [if_neg hd] at h2
          rw [show p - 1 = tq B n c by omega]
          exact ⟨fun _ => by simpa using hl, fun _ => by simpa using hd⟩
/-- the value of what stands at q -/
def vR (B : Nat → Nat) (n : Nat) (x : Int32) (q : Nat) : Prop := (isL B n q = true → x = nameV B n q) ∧ (isD B n q = true → nR x (tkN B n q))
def TA (I : Nat → Nat → Int32) (B : Nat → Nat) (n c : Nat) : Prop := ∀ i, i < c → I 3 i = nI (tkK B n (tq B n i)) ∧ I 4 i = nI (tq B n i) ∧ vR B n (I 5 i) (tq B n i)
/-- what scanning leaves -/
def SF (I I' : Nat → Nat → Int32) : Prop := ∀ a, (a < 2 ∨ 5 < a) → ∀ j, I' a j = I a j
def SInv (I I' : Nat → Nat → Int32) (B : Nat → Nat) (n c p : Nat) : Prop := SF I I' ∧ TB I' B n ∧ I' 2 5 = nI c ∧ TA I' B n c ∧ (∀ i, i < c → tq B n i < p) ∧ p ≤ tq B n c ∧ c ≤ p
theorem ad_3 {I' : Nat → Nat → Int32} {c i : Nat} {x y z v : Int32} : pd_up (pd_up (pd_up (pd_up I' 3 c x) 4 c y) 5 c z) 2 5 v 3 i = if i = c then x else I' 3 i := by simp [pd_up]
theorem ad_4 {I' : Nat → Nat → Int32} {c i : Nat} {x y z v : Int32} : pd_up (pd_up (pd_up (pd_up I' 3 c x) 4 c y) 5 c z) 2 5 v 4 i = if i = c then y else I' 4 i := by simp [pd_up]
theorem ad_5 {I' : Nat → Nat → Int32} {c i : Nat} {x y z v : Int32} : pd_up (pd_up (pd_up (pd_up I' 3 c x) 4 c y) 5 c z) 2 5 v 5 i = if i = c then z else I' 5 i := by simp [pd_up]
theorem SInv.add {I' : Nat → Nat → Int32} {c p : Nat} (h : SInv I I' B n c p) (hp : p = tq B n c) (hpn : p < n) {x y z : Int32} (hx : x = nI (tkK B n p)) (hy : y = nI p) (hz : vR B n z p) : SInv I (pd_up (pd_up (pd_up (pd_up I' 3 c x) 4 c y) 5 c z) 2 5 (nI (c + 1))) B n (c + 1) (p + 1) := by
  obtain ⟨h1, h2, h3, h4, h5, h6, h7⟩ := h
  refine ⟨fun a ha j => ?_, ⟨?_, h2.2.1, fun k hk => ⟨(h2.2.2 k hk).1, ?_⟩⟩, pd_up_at, fun i hi => ?_, fun i hi => ?_, ?_, by omega⟩
  · rw [pd_up_nb (by omega), pd_up_nb (by omega), pd_up_nb (by omega), pd_up_nb (by omega)]; exact h1 a ha j
  · rw [pd_up_nj (by decide), pd_up_nb (by decide), pd_up_nb (by decide), pd_up_nb (by decide)]; exact h2.1
  · rw [pd_up_nb (by decide), pd_up_nb (by decide), pd_up_nb (by decide), pd_up_nb (by decide)]; exact (h2.2.2 k hk).2
  · rw [ad_3, ad_4, ad_5]
    by_cases hic : i = c
    · subst hic
      rw [if_pos rfl, if_pos rfl, if_pos rfl, ← hp]
      exact ⟨hx, hy, hz⟩
    · rw [if_neg hic, if_neg hic, if_neg hic]
      exact h4 i (by omega)
  · rcases Nat.lt_or_eq_of_le (Nat.lt_succ_iff.mp hi) with q | rfl
    · have := h5 i q; omega
    · omega
  · have := tq_gt (B := B) (n := n) (i := c) (by omega)
    omega
theorem SInv.skip {I' : Nat → Nat → Int32} {c p : Nat} (h : SInv I I' B n c p) (hp : p < tq B n c) : SInv I I' B n c (p + 1) := by
  obtain ⟨h1, h2, h3, h4, h5, h6, h7⟩ := h
  exact ⟨h1, h2, h3, h4, fun i hi => by have := h5 i hi; omega, by omega, by omega⟩
theorem ev_X7_isLetterP (hR : RS R) (hT : TB I B n) {p : Nat} (hp : p < 2 ^ 31) : pd_Ev G mi_X7_isLetter 2 0 0 [.ref (pd_z G + 2), .int (nI p - 1)] (SD, false, I, L, R) (pd_rt (.int (i_of (decide (1 ≤ p) && isL B n (p - 1)))) (SD, false, I, L, R)) := by
  cases p with
  | zero => exact ev_X7_isLetterN hR
  | succ p =>
    rw [nI_pred]
    have : (decide (1 ≤ p + 1) && isL B n (p + 1 - 1)) = isL B n p := by simp
    rw [this]; exact ev_X7_isLetter hR hT (by omega)
theorem ev_X7_isDigitP (hR : RS R) (hT : TB I B n) {p : Nat} (hp : p < 2 ^ 31) : pd_Ev G mi_X7_isDigit 2 0 0 [.ref (pd_z G + 2), .int (nI p - 1)] (SD, false, I, L, R) (pd_rt (.int (i_of (decide (1 ≤ p) && isD B n (p - 1)))) (SD, false, I, L, R)) := by
  cases p with
  | zero => exact ev_X7_isDigitN hR
  | succ p =>
    rw [nI_pred]
    have : (decide (1 ≤ p + 1) && isD B n (p + 1 - 1)) = isD B n p := by simp
    rw [this]; exact ev_X7_isDigit hR hT (by omega)
theorem pd_kn {G : pd_G} {mi : pd_MI} {h mc ms cs ss pc : Nat} {lo : List (Option Value)} {st : List Value} {Q : pd_O → pd_M → Prop} {M : pd_M} {P : Int32 → Prop} (K : ∀ x, P x → pd_At G mi h mc ms cs ss (pc + 3) lo (.int x :: st) M Q) : ∀ o M', (M' = M ∧ ∃ x, o = .inl (some (.int x)) ∧ P x) → pd_Kc G mi h mc ms cs ss pc lo st Q o M' := fun o M' hq => by
  obtain ⟨rfl, x, rfl, hx⟩ := hq
  exact K x hx
/-- what scanning gives -/
def SOut (I : Nat → Nat → Int32) (B : Nat → Nat) (n : Nat) (I' : Nat → Nat → Int32) (L L' : Nat → Nat → Int64) : Prop := L' = L ∧ SF I I' ∧ TB I' B n ∧ ∃ c, c ≤ n ∧ tq B n c = n ∧ (∀ i, i < c → tq B n i < n) ∧ TA I' B n (c + 1)
theorem lp_X7_scan (hR : RS R) (m : Int32) : ∀ (k p c : Nat) (I' : Nat → Nat → Int32), p + k = n → SInv I I' B n c p → pd_At G mi_X7_scan 6 0 0 0 0 22 [some (.ref (pd_z G + 2)), some (.int m), some (.int (nI p))] [] (SD, false, I', L, R) (pd_re R fun I2 L2 => SOut I B n I2 L L2) := by
  intro k
  induction k with
  | zero =>
    intro p c I' hp hI
    have e0 : p = n := by omega
    subst e0
    have h0 := hI
    obtain ⟨h1, h2, h3, h4, h5, h6, h7⟩ := hI
    have htq : tq B p c = p := Nat.le_antisymm (tq_le c) h6
    refine at_iload_n dX7_scan_22 rfl ?_
    refine at_aload_n dX7_scan_23 rfl ?_
    refine at_geti flX7_37 rfl sd_2 dX7_scan_24 ?_
    rw [h2.1]
    refine at_icmpge (tgt := 141) dX7_scan_27 (by decide) (fun c27 => ?_) (fun c27 => ?_)
    · -- taken 27
      refine at_aload_n dX7_scan_141 rfl ?_
      refine at_iconst dX7_scan_142 pc_i0 ?_
      refine at_aload_n dX7_scan_143 rfl ?_
      refine at_geti flX7_37 rfl sd_2 dX7_scan_144 ?_
      refine at_iconst dX7_scan_147 pc_im1 ?_
      rw [h2.1]
      refine at_cv3 cvX7_55 sd_2 (ev_X7_add hR h3 (by have := h2.2.1; omega) _ _ _) (by decide) ⟨Nat.le_refl _, Nat.le_refl _⟩ (Nat.le_of_ble_eq_true rfl) dX7_scan_148 (pd_k0 ?_)
      refine at_vret rfl dX7_scan_151 ?_
      refine ⟨rfl, _, _, rfl, rfl, fun a ha j => ?_, ⟨?_, h2.2.1, fun k hk => ⟨(h2.2.2 k hk).1, ?_⟩⟩, c, h7, htq, h5, fun i hi => ?_⟩
      · rw [pd_up_nb (by omega), pd_up_nb (by omega), pd_up_nb (by omega), pd_up_nb (by omega)]; exact h1 a ha j
      · rw [pd_up_nj (by decide), pd_up_nb (by decide), pd_up_nb (by decide), pd_up_nb (by decide)]; exact h2.1
      · rw [pd_up_nb (by decide), pd_up_nb (by decide), pd_up_nb (by decide), pd_up_nb (by decide)]; exact (h2.2.2 k hk).2
      · rw [ad_3, ad_4, ad_5]
        by_cases hic : i = c
        · subst hic
          rw [if_pos rfl, if_pos rfl, if_pos rfl, htq]
          refine ⟨?_, rfl, fun q => ?_, fun q => ?_⟩
          · rw [tkK, if_pos (Nat.le_refl _)]; rfl
          · rw [isL_n (Nat.le_refl _)] at q; cases q
          · rw [isD_n (Nat.le_refl _)] at q; cases q
        · rw [if_neg hic, if_neg hic, if_neg hic]
          exact h4 i (by omega)
    · -- not taken 27
      exact absurd (nI_le (Nat.le_refl _) (by have := h2.2.1; omega)) c27
  | succ k ih =>
    intro p c I' hp hI
    have h0 := hI
    obtain ⟨h1, h2, h3, h4, h5, h6, h7⟩ := hI
    have h600 := h2.2.1
    have hpn : p < n := by omega
    have hskip : p < tq B n c → pd_At G mi_X7_scan 6 0 0 0 0 22 [some (.ref (pd_z G + 2)), some (.int m), some (.int (nI (p + 1)))] [] (SD, false, I', L, R) (pd_re R fun I2 L2 => SOut I B n I2 L L2) := fun q => ih (p + 1) c I' (by omega) (h0.skip q)
    have hadd : p = tq B n c → ∀ {x y z : Int32}, x = nI (tkK B n p) → y = nI p → vR B n z p → pd_At G mi_X7_scan 6 0 0 0 0 22 [some (.ref (pd_z G + 2)), some (.int m), some (.int (nI (p + 1)))] [] (SD, false, pd_up (pd_up (pd_up (pd_up I' 3 c x) 4 c y) 5 c z) 2 5 (nI (c + 1)), L, R) (pd_re R fun I2 L2 => SOut I B n I2 L L2) := fun q _ _ _ hx hy hz => ih (p + 1) (c + 1) _ (by omega) (h0.add q hpn hx hy hz)
    have hmid : p < tq B n c → (isL B n p = true ∧ isL B n (p - 1) = true ∧ 1 ≤ p) ∨ (isL B n p = false ∧ isD B n p = true ∧ isD B n (p - 1) = true ∧ 1 ≤ p) ∨ isB B n p = true := by
      intro q
      rcases Nat.lt_or_ge p (tqE B n c) with q2 | q2
      · rcases mid_run h5 q2 with q3 | q3
        · exact Or.inl q3
        · exact Or.inr (Or.inl q3)
      · exact Or.inr (Or.inr (sk_b q2 (by rw [← tq_E]; exact q)))
    have hrun : p = tq B n c → (isL B n p = true → (decide (1 ≤ p) && isL B n (p - 1)) = false) ∧ (isD B n p = true → (decide (1 ≤ p) && isD B n (p - 1)) = false) := by
      intro q
      rcases Nat.lt_or_ge p 1 with q2 | q2
      · have : ¬ 1 ≤ p := by omega
        simp [this]
      · have := at_run h5 q q2 hpn
        exact ⟨fun z => by rw [this.1 z, Bool.and_false], fun z => by rw [this.2 z, Bool.and_false]⟩
    have hnb : p = tq B n c → isB B n p = false := fun q => by rw [q]; exact tq_nb c
    have hcase : p < tq B n c ∨ p = tq B n c := by omega
    have eK : tkK B n p = if isL B n p then kwF B n p wds 1 else if isD B n p then 18 else if 32 < B p ∧ B p < 128 then B p else 19 := by unfold tkK; rw [if_neg (by omega)]
    obtain ⟨hb1, hb2⟩ := h2.2.2 p hpn
    have eB : cB B n p = sb (B p) := by rw [cB, if_pos hpn]
    have e32 : cB B n p = 32 ↔ isB B n p = true := by
      rw [show (32 : Int32) = nI 32 from rfl, cB_eq h2 (by decide)]; simp [isB]
    have hgt : cB B n p ≤ 32 ↔ ¬ (32 < B p ∧ B p < 128) := by
      rw [eB]
      by_cases hq : B p < 128
      · rw [sb_lo hq, show (32 : Int32) = nI 32 from rfl, nI_leI (by omega) (by decide)]; omega
      · have h8 := sb_hi hb1 (by omega)
        have e2 : (0 : Int32).toInt = 0 := by decide
        have e3 : (32 : Int32).toInt = 32 := by decide
        rw [fa_lt] at h8; rw [fa_le]
        constructor
        · intro _; omega
        · intro _; omega
    have hs1 := fun (g1 : isL B n p = true) (g2 : (decide (1 ≤ p) && isL B n (p - 1)) = true) => hskip (hcase.resolve_right (fun q => by rw [(hrun q).1 g1] at g2; cases g2))
    have hs2 := fun (g3 : isD B n p = true) (g4 : (decide (1 ≤ p) && isD B n (p - 1)) = true) => hskip (hcase.resolve_right (fun q => by rw [(hrun q).2 g3] at g4; cases g4))
    have hs3 := fun (g : isB B n p = true) => hskip (hcase.resolve_right (fun q => by rw [hnb q] at g; cases g))
    have ha1 := fun (g1 : isL B n p = true) (g2 : (decide (1 ≤ p) && isL B n (p - 1)) = false) => hadd (x := nI (kwF B n p wds 1)) (y := nI p) (z := nameV B n p) (hcase.resolve_left (fun q => by
      rcases hmid q with z | z | z
      · rw [z.2.1] at g2; simp at g2; omega
      · rw [z.1] at g1; cases g1
      · rw [(isB_L z).1] at g1; cases g1)) (by rw [eK, if_pos g1]) rfl ⟨fun _ => rfl, fun z => by rw [(isL_D g1).1] at z; cases z⟩
    have ha2 := fun (g1 : isL B n p = false) (g3 : isD B n p = true) (g4 : (decide (1 ≤ p) && isD B n (p - 1)) = false) {x : Int32} (hx : nR x (tkN B n p)) => hadd (x := 18) (y := nI p) (z := x) (hcase.resolve_left (fun q => by
      rcases hmid q with z | z | z
      · rw [z.1] at g1; cases g1
      · rw [z.2.2.1] at g4; simp at g4; omega
      · rw [(isB_L z).2] at g3; cases g3)) (by rw [eK, g1, g3]; rfl) rfl ⟨fun z => (by rw [g1] at z; cases z), fun _ => hx⟩
    have hl3 := fun (g1 : isL B n p = false) (g3 : isD B n p = false) (c106 : ¬ isB B n p = true) => hcase.resolve_left (fun q => by
      rcases hmid q with z | z | z
      · rw [z.1] at g1; cases g1
      · rw [z.2.1] at g3; cases g3
      · exact c106 z)
    have ha3 := fun (g1 : isL B n p = false) (g3 : isD B n p = false) (c106 : ¬ isB B n p = true) (c117 : ¬ (32 < B p ∧ B p < 128)) => hadd (x := 19) (y := nI p) (z := -1) (hl3 g1 g3 c106) (by rw [eK, g1, g3]; simp only [Bool.false_eq_true, if_false]; rw [if_neg c117]; rfl) rfl ⟨fun z => (by rw [g1] at z; cases z), fun z => by rw [g3] at z; cases z⟩
    have ha4 := fun (g1 : isL B n p = false) (g3 : isD B n p = false) (c106 : ¬ isB B n p = true) (c117 : ¬ ¬ (32 < B p ∧ B p < 128)) => hadd (x := cB B n p) (y := nI p) (z := -1) (hl3 g1 g3 c106) (by
      have c9 : 32 < B p ∧ B p < 128 := Classical.not_not.mp c117
      rw [eK, g1, g3]; simp only [Bool.false_eq_true, if_false]; rw [if_pos c9, eB, sb_lo c9.2]) rfl ⟨fun z => (by rw [g1] at z; cases z), fun z => by rw [g3] at z; cases z⟩
    refine at_iload_n dX7_scan_22 rfl ?_
    refine at_aload_n dX7_scan_23 rfl ?_
    refine at_geti flX7_37 rfl sd_2 dX7_scan_24 ?_
    rw [h2.1]
    refine at_icmpge (tgt := 141) dX7_scan_27 (by decide) (fun c27 => ?_) (fun c27 => ?_)
    · -- taken 27
      exact absurd c27 (nI_ge hpn (by omega))
    · -- not taken 27
      refine at_aload_n dX7_scan_30 rfl ?_
      refine at_iload_n dX7_scan_31 rfl ?_
      refine at_cv1 cvX7_44 sd_2 (ev_X7_isLetter hR h2 (by omega)) (by decide) ⟨Nat.le_refl _, Nat.le_refl _⟩ (Nat.le_of_ble_eq_true rfl) dX7_scan_32 (pd_k1 ?_)
      refine at_ifeq (tgt := 66) dX7_scan_35 (by decide) (fun c35 => ?_) (fun c35 => ?_)
      · -- taken 35
        have g1 := i_of0.mp c35
        refine at_aload_n dX7_scan_66 rfl ?_
        refine at_iload_n dX7_scan_67 rfl ?_
        refine at_cv1 cvX7_59 sd_2 (ev_X7_isDigit hR h2 (by omega)) (by decide) ⟨Nat.le_refl _, Nat.le_refl _⟩ (Nat.le_of_ble_eq_true rfl) dX7_scan_68 (pd_k1 ?_)
        refine at_ifeq (tgt := 99) dX7_scan_71 (by decide) (fun c71 => ?_) (fun c71 => ?_)
        · -- taken 71
          have g3 := i_of0.mp c71
          refine at_aload_n dX7_scan_99 rfl ?_
          refine at_iload_n dX7_scan_100 rfl ?_
          refine at_cv1 cvX7_65 sd_2 (ev_X7_byteAt hR h2 (by omega)) (by decide) ⟨Nat.le_refl _, Nat.le_refl _⟩ (Nat.le_of_ble_eq_true rfl) dX7_scan_101 (pd_k1 ?_)
          refine at_bipush dX7_scan_104 pc_b32 ?_
          refine at_icmpeq (tgt := 135) dX7_scan_106 (by decide) (fun c106 => ?_) (fun c106 => ?_)
          · -- taken 106
            rw [e32] at c106
            have hfin := hs3 c106
            refine at_inc dX7_scan_135 rfl pc_i1 rfl (Nat.le_of_ble_eq_true rfl) ?_
            refine at_goto (tgt := 22) dX7_scan_138 (by decide) ?_
            rw [nI_1]
            exact hfin
          · -- not taken 106
            rw [e32] at c106
            refine at_aload_n dX7_scan_109 rfl ?_
            refine at_aload_n dX7_scan_110 rfl ?_
            refine at_iload_n dX7_scan_111 rfl ?_
            refine at_cv1 cvX7_65 sd_2 (ev_X7_byteAt hR h2 (by omega)) (by decide) ⟨Nat.le_refl _, Nat.le_refl _⟩ (Nat.le_of_ble_eq_true rfl) dX7_scan_112 (pd_k1 ?_)
            refine at_bipush dX7_scan_115 pc_b32 ?_
            refine at_icmple (tgt := 128) dX7_scan_117 (by decide) (fun c117 => ?_) (fun c117 => ?_)
            · -- taken 117
              rw [hgt] at c117
              have hfin := ha3 g1 g3 c106 c117
              refine at_bipush dX7_scan_128 pc_b19 ?_
              refine at_iload_n dX7_scan_130 rfl ?_
              refine at_iconst dX7_scan_131 pc_im1 ?_
              refine at_cv3 cvX7_55 sd_2 (ev_X7_add hR h3 (by omega) _ _ _) (by decide) ⟨Nat.le_refl _, Nat.le_refl _⟩ (Nat.le_of_ble_eq_true rfl) dX7_scan_132 (pd_k0 ?_)
              refine at_inc dX7_scan_135 rfl pc_i1 rfl (Nat.le_of_ble_eq_true rfl) ?_
              refine at_goto (tgt := 22) dX7_scan_138 (by decide) ?_
              rw [nI_1]
              exact hfin
            · -- not taken 117
              rw [hgt] at c117
              have hfin := ha4 g1 g3 c106 c117
              refine at_aload_n dX7_scan_120 rfl ?_
              refine at_iload_n dX7_scan_121 rfl ?_
              refine at_cv1 cvX7_65 sd_2 (ev_X7_byteAt hR h2 (by omega)) (by decide) ⟨Nat.le_refl _, Nat.le_refl _⟩ (Nat.le_of_ble_eq_true rfl) dX7_scan_122 (pd_k1 ?_)
              refine at_goto (tgt := 130) dX7_scan_125 (by decide) ?_
              refine at_iload_n dX7_scan_130 rfl ?_
              refine at_iconst dX7_scan_131 pc_im1 ?_
              refine at_cv3 cvX7_55 sd_2 (ev_X7_add hR h3 (by omega) _ _ _) (by decide) ⟨Nat.le_refl _, Nat.le_refl _⟩ (Nat.le_of_ble_eq_true rfl) dX7_scan_132 (pd_k0 ?_)
              refine at_inc dX7_scan_135 rfl pc_i1 rfl (Nat.le_of_ble_eq_true rfl) ?_
              refine at_goto (tgt := 22) dX7_scan_138 (by decide) ?_
              rw [nI_1]
              exact hfin
        · -- not taken 71
          have g3 := i_of1.mp c71
          refine at_aload_n dX7_scan_74 rfl ?_
          refine at_iload_n dX7_scan_75 rfl ?_
          refine at_iconst dX7_scan_76 pc_i1 ?_
          refine at_isub dX7_scan_77 ?_
          refine at_cv1 cvX7_59 sd_2 (ev_X7_isDigitP hR h2 (by omega)) (by decide) ⟨Nat.le_refl _, Nat.le_refl _⟩ (Nat.le_of_ble_eq_true rfl) dX7_scan_78 (pd_k1 ?_)
          refine at_ifne (tgt := 135) dX7_scan_81 (by decide) (fun c81 => ?_) (fun c81 => ?_)
          · -- taken 81
            have g4 := i_of1.mp c81
            have hfin := hs2 g3 g4
            refine at_inc dX7_scan_135 rfl pc_i1 rfl (Nat.le_of_ble_eq_true rfl) ?_
            refine at_goto (tgt := 22) dX7_scan_138 (by decide) ?_
            rw [nI_1]
            exact hfin
          · -- not taken 81
            have g4 := i_of0.mp c81
            refine at_aload_n dX7_scan_84 rfl ?_
            refine at_bipush dX7_scan_85 pc_b18 ?_
            refine at_iload_n dX7_scan_87 rfl ?_
            refine at_aload_n dX7_scan_88 rfl ?_
            refine at_iload_n dX7_scan_89 rfl ?_
            refine at_cv1 cvX7_62 sd_2 (ev_X7_numberAt hR h2 hpn) (by decide) ⟨Nat.le_refl _, Nat.le_refl _⟩ (Nat.le_of_ble_eq_true rfl) dX7_scan_90 (pd_kn fun x hx => ?_)
            have hfin := ha2 g1 g3 g4 hx
            refine at_cv3 cvX7_55 sd_2 (ev_X7_add hR h3 (by omega) _ _ _) (by decide) ⟨Nat.le_refl _, Nat.le_refl _⟩ (Nat.le_of_ble_eq_true rfl) dX7_scan_93 (pd_k0 ?_)
            refine at_goto (tgt := 135) dX7_scan_96 (by decide) ?_
            refine at_inc dX7_scan_135 rfl pc_i1 rfl (Nat.le_of_ble_eq_true rfl) ?_
            refine at_goto (tgt := 22) dX7_scan_138 (by decide) ?_
            rw [nI_1]
            exact hfin
      · -- not taken 35
        have g1 := i_of1.mp c35
        refine at_aload_n dX7_scan_38 rfl ?_
        refine at_iload_n dX7_scan_39 rfl ?_
        refine at_iconst dX7_scan_40 pc_i1 ?_
        refine at_isub dX7_scan_41 ?_
        refine at_cv1 cvX7_44 sd_2 (ev_X7_isLetterP hR h2 (by omega)) (by decide) ⟨Nat.le_refl _, Nat.le_refl _⟩ (Nat.le_of_ble_eq_true rfl) dX7_scan_42 (pd_k1 ?_)
        refine at_ifne (tgt := 135) dX7_scan_45 (by decide) (fun c45 => ?_) (fun c45 => ?_)
        · -- taken 45
          have g2 := i_of1.mp c45
          have hfin := hs1 g1 g2
          refine at_inc dX7_scan_135 rfl pc_i1 rfl (Nat.le_of_ble_eq_true rfl) ?_
          refine at_goto (tgt := 22) dX7_scan_138 (by decide) ?_
          rw [nI_1]
          exact hfin
        · -- not taken 45
          have g2 := i_of0.mp c45
          have hfin := ha1 g1 g2
          refine at_aload_n dX7_scan_48 rfl ?_
          refine at_aload_n dX7_scan_49 rfl ?_
          refine at_iload_n dX7_scan_50 rfl ?_
          refine at_cv1 cvX7_48 sd_2 (ev_X7_kindOfWord hR h2 hpn) (by decide) ⟨Nat.le_refl _, Nat.le_refl _⟩ (Nat.le_of_ble_eq_true rfl) dX7_scan_51 (pd_k1 ?_)
          refine at_iload_n dX7_scan_54 rfl ?_
          refine at_aload_n dX7_scan_55 rfl ?_
          refine at_iload_n dX7_scan_56 rfl ?_
          refine at_cv1 cvX7_52 sd_2 (ev_X7_nameAt hR h2 hpn) (by decide) ⟨Nat.le_refl _, Nat.le_refl _⟩ (Nat.le_of_ble_eq_true rfl) dX7_scan_57 (pd_k1 ?_)
          refine at_cv3 cvX7_55 sd_2 (ev_X7_add hR h3 (by omega) _ _ _) (by decide) ⟨Nat.le_refl _, Nat.le_refl _⟩ (Nat.le_of_ble_eq_true rfl) dX7_scan_60 (pd_k0 ?_)
          refine at_goto (tgt := 135) dX7_scan_63 (by decide) ?_
          refine at_inc dX7_scan_135 rfl pc_i1 rfl (Nat.le_of_ble_eq_true rfl) ?_
          refine at_goto (tgt := 22) dX7_scan_138 (by decide) ?_
          rw [nI_1]
          exact hfin
theorem ev_X7_scan (hR : RS R) {m : Nat} (hB : ∀ k, k < m → B k < 256 ∧ I 7 k = sb (B k)) (hm : m ≤ 600) : pd_Ev G mi_X7_scan 6 0 0 [.ref (pd_z G + 2), .int (nI m)] (SD, false, I, L, R) (pd_re R fun I2 L2 => SOut I B m I2 L L2) := by
  have e1 : (if (600 : Int32) < nI m then (600 : Int32) else nI m) = nI m := if_neg (nI_nlt (a := 600) hm (by decide))
  have e2 : (if (0 : Int32) < nI m then nI m else 0) = nI m := by
    rcases Nat.eq_zero_or_pos m with h | h
    · subst h; rfl
    · exact if_pos (nI_lt (a := 0) h (by omega))
  refine pd_ev 1 (lo := [some (.ref (pd_z G + 2)), some (.int (nI m)), none]) (by decide +kernel) (Nat.le_of_ble_eq_true rfl) rfl ?_
  refine at_aload_n dX7_scan_0 rfl ?_
  refine at_iconst dX7_scan_1 pc_i0 ?_
  refine at_iload_n dX7_scan_2 rfl ?_
  refine at_sipush dX7_scan_3 pc_s600 ?_
  refine at_min mlX7_28 (by decide) (Nat.le_of_ble_eq_true rfl) dX7_scan_6 ?_
  rw [e1]
  refine at_max mlX7_34 (by decide) (Nat.le_of_ble_eq_true rfl) dX7_scan_9 ?_
  rw [e2]
  refine at_puti flX7_37 rfl sd_2 (fun _ _ _ hq => by cases hq; rfl) dX7_scan_12 ?_
  refine at_aload_n dX7_scan_15 rfl ?_
  refine at_iconst dX7_scan_16 pc_i0 ?_
  refine at_puti flX7_41 rfl sd_2 (fun _ _ _ hq => by cases hq; rfl) dX7_scan_17 ?_
  refine at_iconst dX7_scan_20 pc_i0 ?_
  refine at_istore_n dX7_scan_21 rfl (Nat.le_of_ble_eq_true rfl) ?_
  refine lp_X7_scan (G := G) hR (nI m) m 0 0 _ (by omega) ⟨fun a ha j => ?_, ⟨?_, hm, fun k hk => ⟨(hB k hk).1, ?_⟩⟩, pd_up_at, fun i hi => by omega, fun i hi => by omega, Nat.zero_le _, Nat.le_refl _⟩
  · rw [pd_up_nb (by omega), pd_up_nb (by omega)]
  · rw [pd_up_nj (by decide), pd_up_at]
  · rw [pd_up_nb (by decide), pd_up_nb (by decide)]; exact (hB k hk).2
end SCAN
