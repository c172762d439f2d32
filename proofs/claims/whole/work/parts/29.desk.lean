/-! ===== the desk: refusals, what stands, the easy questions ===== -/
theorem i_of0 {b : Bool} : i_of b = 0 ↔ b = false := by cases b <;> decide
theorem i_of1 {b : Bool} : ¬ i_of b = 0 ↔ b = true := by cases b <;> decide
theorem ti_ne {x k : Int32} (h : ¬ x = k) : x.toInt ≠ k.toInt := fun e => h (Int32.toInt_inj.mp e)
def inR (x l m : Int32) : Bool := decide (l ≤ x) && decide (x ≤ m)
theorem inR_a {x l m : Int32} (h : x < l) : inR x l m = false := by
  have : ¬ l ≤ x := (fa_of_lt h).2.1
  simp [inR, this]
theorem inR_b {x l m : Int32} (h : m < x) : inR x l m = false := by
  have : ¬ x ≤ m := (fa_of_lt h).2.1
  simp [inR, this]
theorem inR_c {x l m : Int32} (h : ¬ x < l) (h2 : ¬ m < x) : inR x l m = true := by
  simp [inR, fa_of_nlt h, fa_of_nlt h2]
def isN (x : Int32) (n : Nat) : Bool := decide (0 ≤ x) && decide (x < nI n)
theorem isN_a {x : Int32} {n : Nat} (h : x < 0) : isN x n = false := by
  have : ¬ 0 ≤ x := (fa_of_lt h).2.1
  simp [isN, this]
theorem isN_b {x : Int32} {n : Nat} (h : nI n ≤ x) : isN x n = false := by
  have : ¬ x < nI n := fun q => (fa_of_lt q).2.1 h
  simp [isN, this]
theorem isN_c {x : Int32} {n : Nat} (h : ¬ x < 0) (h2 : ¬ nI n ≤ x) : isN x n = true := by
  simp [isN, fa_of_nlt h, fa_of_nle h2]
theorem isN_of {x : Int32} {n : Nat} (hn : n < 2 ^ 31) (h : isN x n = true) : ∃ k, k < n ∧ x = nI k := by
  simp only [isN, Bool.and_eq_true, decide_eq_true_eq] at h
  obtain ⟨j, hj, rfl⟩ := nI_of (x := x) (fun q => (fa_of_lt q).2.1 h.1)
  exact ⟨j, (nI_ltI hj hn).mp h.2, rfl⟩
theorem isN_nI {k n : Nat} (hk : k < 2 ^ 31) (hn : n < 2 ^ 31) : isN (nI k) n = decide (k < n) := by
  by_cases h : k < n
  · simp [isN, nI_pos' hk, nI_lt h hn, h]
  · simp [isN, nI_nlt (Nat.not_lt.mp h) hk, h]
theorem inR_of {x : Int32} {n : Nat} (hn : n < 2 ^ 31) (h : inR x 0 (nI n) = true) : ∃ k, k ≤ n ∧ x = nI k := by
  simp only [inR, Bool.and_eq_true, decide_eq_true_eq] at h
  obtain ⟨j, hj, rfl⟩ := nI_of (x := x) (fun q => (fa_of_lt q).2.1 h.1)
  exact ⟨j, (nI_leI hj hn).mp h.2, rfl⟩
/-- which refusal -/
def xE (j : Nat) : String := if j = 8 then "java/util/NoSuchElementException" else if j = 9 then "java/lang/IllegalArgumentException" else "java/lang/IllegalStateException"
theorem pd_kq {G : pd_G} {mi : pd_MI} {h mc ms cs ss pc : Nat} {lo : List (Option Value)} {st : List Value} {Q : pd_O → pd_M → Prop} {b : Int32} {E : String} {M M2 : pd_M} (hout : mi.2.2.2.2 = []) (hx : b = 0 → Q (.inr E) M2) (K : ¬ b = 0 → pd_At G mi h mc ms cs ss (pc + 3) lo st M Q) (hc : cs ≤ mc := by first | exact Nat.le_refl _ | exact Nat.le_of_ble_eq_true rfl | omega) (hs : ss ≤ ms := by first | exact Nat.le_refl _ | exact Nat.le_of_ble_eq_true rfl | omega) : ∀ o M', pd_rq b E M M2 o M' → pd_Kc G mi h mc ms cs ss pc lo st Q o M' := fun o M' hq => by
  unfold pd_rq at hq
  split at hq
  · rename_i hb
    obtain ⟨rfl, rfl⟩ := hq
    exact at_out hout (hx hb) hc hs
  · rename_i hb
    obtain ⟨rfl, rfl⟩ := hq
    exact K hb
/-- j 0: it answers v; else it refuses, by the reason j -/
def q_x (I : Nat → Nat → Int32) (L : Nat → Nat → Int64) (R : Nat → Nat → Option Nat) (j : Nat) (v : Value) (P : (Nat → Nat → Int32) → (Nat → Nat → Int64) → (Nat → Nat → Option Nat) → Prop) : pd_O → pd_M → Prop := fun o M => if j = 0 then o = .inl (some v) ∧ ∃ I' L' R', M = (SD, false, I', L', R') ∧ P I' L' R' else o = .inr (xE j) ∧ M = (SD, false, pd_up I 0 j (I 0 j + 1), L, R)
theorem q_yes {I L R} {j : Nat} {v v' : Value} {P} {I' L' R'} (hj : j = 0) (hv : v' = v) (hP : P I' L' R') : q_x I L R j v P (.inl (some v')) (SD, false, I', L', R') := by
  unfold q_x; rw [if_pos hj]; exact ⟨by rw [hv], I', L', R', rfl, hP⟩
theorem q_no8 {I L R} {j : Nat} {v : Value} {P} (hj : j = 8) : q_x I L R j v P (.inr "java/util/NoSuchElementException") (SD, false, pd_up I 0 8 (I 0 8 + 1), L, R) := by
  subst hj; exact (if_neg (by decide)).mpr ⟨rfl, rfl⟩
theorem q_no9 {I L R} {j : Nat} {v : Value} {P} (hj : j = 9) : q_x I L R j v P (.inr "java/lang/IllegalArgumentException") (SD, false, pd_up I 0 9 (I 0 9 + 1), L, R) := by
  subst hj; exact (if_neg (by decide)).mpr ⟨rfl, rfl⟩
theorem q_no10 {I L R} {j : Nat} {v : Value} {P} (hj : j = 10) : q_x I L R j v P (.inr "java/lang/IllegalStateException") (SD, false, pd_up I 0 10 (I 0 10 + 1), L, R) := by
  subst hj; exact (if_neg (by decide)).mpr ⟨rfl, rfl⟩
/-- the first refusal that is due -/
def j1 (a : Nat) (b : Bool) : Nat := if b then 0 else a
def j2 (a : Nat) (b : Bool) (a' : Nat) (b' : Bool) : Nat := if b then j1 a' b' else a
def j3 (b b' b'' : Bool) : Nat := if b then j2 9 b' 10 b'' else 8
/-- where lines of a sheet begin -/
def rFo (r : Nat → Int32) (nl s : Nat) : Nat := fb_ct (fun l => decide (rSh r l < nI s)) nl
theorem pfirst_out (p : Nat → Bool) : ∀ k i, p (pfirst p k i) = false ∨ pfirst p k i = i + k
  | 0, i => Or.inr rfl
  | k + 1, i => by
    by_cases h : p i = true
    · rw [pfirst_yes h]
      rcases pfirst_out p k (i + 1) with q | q
      · exact Or.inl q
      · right; rw [q]; omega
    · have h' : p i = false := by simpa using h
      rw [pfirst_no h']; exact Or.inl h'
theorem pfirst_in (p : Nat → Bool) : ∀ k i j, i ≤ j → j < pfirst p k i → p j = true
  | 0, i, j, h1, h2 => by rw [show pfirst p 0 i = i from rfl] at h2; omega
  | k + 1, i, j, h1, h2 => by
    by_cases h : p i = true
    · rw [pfirst_yes h] at h2
      by_cases e : j = i
      · rw [e]; exact h
      · exact pfirst_in p k (i + 1) j (by omega) h2
    · rw [pfirst_no (by simpa using h)] at h2; omega
theorem pfirst_ct {p : Nat → Bool} {n : Nat} (h : ∀ j, j + 1 < n → p (j + 1) = true → p j = true) : pfirst p n 0 = fb_ct p n := by
  obtain ⟨f, hf⟩ : ∃ f, f = pfirst p n 0 := ⟨_, rfl⟩
  have hle := (pfirst_le p n 0).2
  rw [← hf] at hle ⊢
  have h1 : ∀ j, j < f → p j = true := fun j hj => pfirst_in p n 0 j (Nat.zero_le _) (by omega)
  have h2 : ∀ k, f + k < n → p (f + k) = false := by
    intro k
    induction k with
    | zero =>
      intro hk
      rcases pfirst_out p n 0 with q | q
      · rw [Nat.add_zero, hf]; exact q
      · omega
    | succ k ih =>
      intro hk
      have := ih (by omega)
      cases hq : p (f + (k + 1)) with
      | false => rfl
      | true => rw [h (f + k) (by omega) hq] at this; cases this
  have e : n = f + (n - f) := by omega
  rw [e, fb_ct_split, fb_ct_all.mpr h1, fb_ct_zero.mpr (fun k hk => h2 k (by omega))]; omega
theorem fb_ct_congN {p q : Nat → Bool} {n : Nat} (h : ∀ k, k < n → p k = q k) : fb_ct p n = fb_ct q n := fb_ct_cong h
section DESK
variable {G : pd_G} {I : Nat → Nat → Int32} {L : Nat → Nat → Int64} {R : Nat → Nat → Option Nat} {cn nv ns nl : Nat} {e : List rl_S} {r : Nat → Int32}
theorem Row.mono (hr : Row r nv ns nl e) : ∀ d l, l + d < nl → rSh r l ≤ rSh r (l + d)
  | 0, l, _ => by rw [Nat.add_zero, fa_le]; exact Int.le_refl _
  | d + 1, l, h => by
    have h1 := Row.mono hr d l (by omega)
    have h2 := hr.2.2.2.2.2.2.1 (l + d) (by omega)
    rw [fa_le] at h1 h2 ⊢
    rw [show l + (d + 1) = l + d + 1 by omega]; omega
theorem rFo_first (hr : Row r nv ns nl e) (s : Nat) : pfirst (fun j => decide (rSh r j < nI s)) nl 0 = rFo r nl s := by
  refine pfirst_ct (fun j hj h => ?_)
  have := hr.2.2.2.2.2.2.1 j hj
  simp only [decide_eq_true_eq, fa_lt, fa_le] at h this ⊢
  omega
theorem rFo_le (s : Nat) : rFo r nl s ≤ nl := fb_ct_le _ _
theorem rFo_succ (hr : Row r nv ns nl e) {s : Nat} (hs : s < 100) : rFo r nl (s + 1) = rFo r nl s + rN r nl s := by
  unfold rFo rN
  rw [← fb_ct_or]
  · refine fb_ct_cong (fun l hl => ?_)
    obtain ⟨t, ht, h2⟩ := hr.2.2.2.2.2.1 l hl
    have := hr.2.1.2
    rw [h2]
    have e1 : (nI t < nI (s + 1)) ↔ (t < s + 1) := nI_ltI (by omega) (by omega)
    have e2 : (nI t < nI s) ↔ (t < s) := nI_ltI (by omega) (by omega)
    have e3 : (nI t = nI s) ↔ (t = s) := nI_eq (by omega) (by omega)
    have d1 : decide (nI t < nI (s + 1)) = decide (t < s + 1) := decide_eq_decide.mpr e1
    have d2 : decide (nI t < nI s) = decide (t < s) := decide_eq_decide.mpr e2
    have d3 : decide (nI t = nI s) = decide (t = s) := decide_eq_decide.mpr e3
    rw [d1, d2, d3]
    by_cases h5 : t < s
    · simp [h5]; omega
    · by_cases h6 : t = s
      · simp [h6]
      · simp [h5, h6]; omega
  · intro l hl h
    simp only [decide_eq_true_eq] at h
    rw [h.2] at h
    exact absurd h.1 (nI_nlt (Nat.le_refl _) (by omega))
/-- the lines of a sheet are those from its first on -/
theorem rFo_at (hr : Row r nv ns nl e) {s l : Nat} (hs : s < 100) (hl : l < nl) : rSh r l = nI s ↔ rFo r nl s ≤ l ∧ l < rFo r nl (s + 1) := by
  have h1 := rFo_first hr s
  have h2 := rFo_first hr (s + 1)
  obtain ⟨t, ht, h3⟩ := hr.2.2.2.2.2.1 l hl
  have hn8 := hr.2.1.2
  have key : ∀ u, u < 101 → (l < rFo r nl u ↔ t < u) := by
    intro u hu
    have hu1 := rFo_first hr u
    constructor
    · intro q
      have := pfirst_in (fun j => decide (rSh r j < nI u)) nl 0 l (Nat.zero_le _) (by rw [hu1]; exact q)
      simp only [decide_eq_true_eq] at this
      rw [h3] at this
      exact (nI_ltI (by omega) (by omega)).mp this
    · intro q
      rcases Nat.lt_or_ge l (rFo r nl u) with q2 | q2
      · exact q2
      · exfalso
        rcases pfirst_out (fun j => decide (rSh r j < nI u)) nl 0 with q3 | q3
        · rw [hu1] at q3
          simp only [decide_eq_false_iff_not] at q3
          have hm := Row.mono hr (l - rFo r nl u) (rFo r nl u) (by omega)
          rw [show rFo r nl u + (l - rFo r nl u) = l by omega, h3] at hm
          have hq : nI t < nI u := nI_lt q (by omega)
          rw [fa_lt] at q3 hq; rw [fa_le] at hm; omega
        · rw [hu1] at q3; omega
  rw [h3, nI_eq (by omega) (by omega)]
  have k1 := key s (by omega)
  have k2 := key (s + 1) (by omega)
  omega
/-- a sheet's lines counted, from its first on, or among all -/
theorem rFo_ct (hr : Row r nv ns nl e) {s : Nat} (hs : s < 100) (p : Nat → Bool) : fb_ct (fun l => p (rFo r nl s + l)) (rFo r nl (s + 1) - rFo r nl s) = fb_ct (fun l => decide (rSh r l = nI s) && p l) nl := by
  have h1 := rFo_succ hr hs
  have h2 := rFo_le (r := r) (nl := nl) (s + 1)
  have e1 : nl = rFo r nl s + ((rFo r nl (s + 1) - rFo r nl s) + (nl - rFo r nl (s + 1))) := by omega
  have h3 : fb_ct (fun l => decide (rSh r l = nI s) && p l) nl = fb_ct (fun l => decide (rSh r l = nI s) && p l) (rFo r nl s + ((rFo r nl (s + 1) - rFo r nl s) + (nl - rFo r nl (s + 1)))) := by rw [← e1]
  rw [h3, fb_ct_split, fb_ct_split]
  have z1 : fb_ct (fun l => decide (rSh r l = nI s) && p l) (rFo r nl s) = 0 := fb_ct_zero.mpr (fun k hk => by
    have : ¬ rSh r k = nI s := fun q => by have := (rFo_at hr hs (by omega)).mp q; omega
    simp [this])
  have z2 : fb_ct (fun k => decide (rSh r (rFo r nl s + (rFo r nl (s + 1) - rFo r nl s + k)) = nI s) && p (rFo r nl s + (rFo r nl (s + 1) - rFo r nl s + k))) (nl - rFo r nl (s + 1)) = 0 := fb_ct_zero.mpr (fun k hk => by
    have : ¬ rSh r (rFo r nl s + (rFo r nl (s + 1) - rFo r nl s + k)) = nI s := fun q => by have := (rFo_at hr hs (by omega)).mp q; omega
    simp [this])
  rw [z1, z2, Nat.zero_add, Nat.add_zero]
  refine fb_ct_cong (fun k hk => ?_)
  have : rSh r (rFo r nl s + k) = nI s := (rFo_at hr hs (by omega)).mpr (by omega)
  simp [this]
/-- what stands: 'now' at cn says the row r, and it is judged -/
def CN (I : Nat → Nat → Int32) (L : Nat → Nat → Int64) (R : Nat → Nat → Option Nat) (cn : Nat) (r : Nat → Int32) (nv ns nl : Nat) (e : List rl_S) : Prop := RS R ∧ PB cn ∧ R 0 6 = some cn ∧ Row r nv ns nl e ∧ PetRel I L cn r nv ns nl e ∧ JO I r nv ns nl e ∧ Tri L
/-- only what is scratch differs -/
def KS (I : Nat → Nat → Int32) (L : Nat → Nat → Int64) (R : Nat → Nat → Option Nat) : (Nat → Nat → Int32) → (Nat → Nat → Int64) → (Nat → Nat → Option Nat) → Prop := fun I' L' R' => (∀ a, a ≠ 21 → ∀ j, I' a j = I a j) ∧ (∀ a, a ≠ 27 → ∀ j, L' a j = L a j) ∧ R' = R
theorem KS.rf : KS I L R I L R := ⟨fun _ _ _ => rfl, fun _ _ _ => rfl, rfl⟩
theorem ev_X8_isFrom {M : pd_M} (x l m : Int32) : pd_Ev G mi_X8_isFrom 1 0 0 [.int x, .int l, .int m] M (pd_rt (.int (i_of (inR x l m))) M) := by
  refine pd_ev 0 (lo := [some (.int x), some (.int l), some (.int m)]) (by decide +kernel) (Nat.le_of_ble_eq_true rfl) rfl ?_
  refine at_iload_n dX8_isFrom_0 rfl ?_
  refine at_iload_n dX8_isFrom_1 rfl ?_
  refine at_icmplt (tgt := 14) dX8_isFrom_2 (by decide) (fun c2 => ?_) (fun c2 => ?_)
  · -- taken 2
    refine at_iconst dX8_isFrom_14 pc_i0 ?_
    refine at_zret rfl dX8_isFrom_15 (by first | exact Or.inl rfl | exact Or.inr rfl | assumption) ?_
    first | (rw [inR_a c2]; exact ⟨rfl, rfl⟩; done) | (rw [inR_b c7]; exact ⟨rfl, rfl⟩; done) | (rw [inR_c c2 c7]; exact ⟨rfl, rfl⟩; done)
  · -- not taken 2
    refine at_iload_n dX8_isFrom_5 rfl ?_
    refine at_iload_n dX8_isFrom_6 rfl ?_
    refine at_icmpgt (tgt := 14) dX8_isFrom_7 (by decide) (fun c7 => ?_) (fun c7 => ?_)
    · -- taken 7
      refine at_iconst dX8_isFrom_14 pc_i0 ?_
      refine at_zret rfl dX8_isFrom_15 (by first | exact Or.inl rfl | exact Or.inr rfl | assumption) ?_
      first | (rw [inR_a c2]; exact ⟨rfl, rfl⟩; done) | (rw [inR_b c7]; exact ⟨rfl, rfl⟩; done) | (rw [inR_c c2 c7]; exact ⟨rfl, rfl⟩; done)
    · -- not taken 7
      refine at_iconst dX8_isFrom_10 pc_i1 ?_
      refine at_goto (tgt := 15) dX8_isFrom_11 (by decide) ?_
      refine at_zret rfl dX8_isFrom_15 (by first | exact Or.inl rfl | exact Or.inr rfl | assumption) ?_
      first | (rw [inR_a c2]; exact ⟨rfl, rfl⟩; done) | (rw [inR_b c7]; exact ⟨rfl, rfl⟩; done) | (rw [inR_c c2 c7]; exact ⟨rfl, rfl⟩; done)
theorem ev_X8_isVoter (h : CN I L R cn r nv ns nl e) (x : Int32) : pd_Ev G mi_X8_isVoter 1 0 0 [.ref (pd_z G + 0), .int x] (SD, false, I, L, R) (pd_rt (.int (i_of (isN x nv))) (SD, false, I, L, R)) := by
  obtain ⟨hR, hcn, hnow, hr, hp, hj, hT⟩ := h
  have hv : I cn 0 = nI nv := hp.1.1.trans hr.1.1
  refine pd_ev 0 (lo := [some (.ref (pd_z G + 0)), some (.int x)]) (by decide +kernel) (Nat.le_of_ble_eq_true rfl) rfl ?_
  refine at_iload_n dX8_isVoter_0 rfl ?_
  refine at_iflt (tgt := 19) dX8_isVoter_1 (by decide) (fun c1 => ?_) (fun c1 => ?_)
  · -- taken 1
    refine at_iconst dX8_isVoter_19 pc_i0 ?_
    refine at_zret rfl dX8_isVoter_20 (by first | exact Or.inl rfl | exact Or.inr rfl | assumption) ?_
    first | (rw [isN_a c1]; exact ⟨rfl, rfl⟩; done) | (rw [isN_b c12]; exact ⟨rfl, rfl⟩; done) | (rw [isN_c c1 c12]; exact ⟨rfl, rfl⟩; done)
  · -- not taken 1
    refine at_iload_n dX8_isVoter_4 rfl ?_
    refine at_aload_n dX8_isVoter_5 rfl ?_
    refine at_getr (cn) flX8_48 rfl sd_0 hnow dX8_isVoter_6 ?_
    refine at_geti flX8_168 rfl (sd_P0 hcn) dX8_isVoter_9 ?_
    rw [hv]
    refine at_icmpge (tgt := 19) dX8_isVoter_12 (by decide) (fun c12 => ?_) (fun c12 => ?_)
    · -- taken 12
      refine at_iconst dX8_isVoter_19 pc_i0 ?_
      refine at_zret rfl dX8_isVoter_20 (by first | exact Or.inl rfl | exact Or.inr rfl | assumption) ?_
      first | (rw [isN_a c1]; exact ⟨rfl, rfl⟩; done) | (rw [isN_b c12]; exact ⟨rfl, rfl⟩; done) | (rw [isN_c c1 c12]; exact ⟨rfl, rfl⟩; done)
    · -- not taken 12
      refine at_iconst dX8_isVoter_15 pc_i1 ?_
      refine at_goto (tgt := 20) dX8_isVoter_16 (by decide) ?_
      refine at_zret rfl dX8_isVoter_20 (by first | exact Or.inl rfl | exact Or.inr rfl | assumption) ?_
      first | (rw [isN_a c1]; exact ⟨rfl, rfl⟩; done) | (rw [isN_b c12]; exact ⟨rfl, rfl⟩; done) | (rw [isN_c c1 c12]; exact ⟨rfl, rfl⟩; done)
theorem ev_X8_isSheet (h : CN I L R cn r nv ns nl e) (x : Int32) : pd_Ev G mi_X8_isSheet 1 0 0 [.ref (pd_z G + 0), .int x] (SD, false, I, L, R) (pd_rt (.int (i_of (isN x ns))) (SD, false, I, L, R)) := by
  obtain ⟨hR, hcn, hnow, hr, hp, hj, hT⟩ := h
  have hv : I cn 4 = nI ns := hp.1.2.1.trans hr.2.1.1
  refine pd_ev 0 (lo := [some (.ref (pd_z G + 0)), some (.int x)]) (by decide +kernel) (Nat.le_of_ble_eq_true rfl) rfl ?_
  refine at_iload_n dX8_isSheet_0 rfl ?_
  refine at_iflt (tgt := 19) dX8_isSheet_1 (by decide) (fun c1 => ?_) (fun c1 => ?_)
  · -- taken 1
    refine at_iconst dX8_isSheet_19 pc_i0 ?_
    refine at_zret rfl dX8_isSheet_20 (by first | exact Or.inl rfl | exact Or.inr rfl | assumption) ?_
    first | (rw [isN_a c1]; exact ⟨rfl, rfl⟩; done) | (rw [isN_b c12]; exact ⟨rfl, rfl⟩; done) | (rw [isN_c c1 c12]; exact ⟨rfl, rfl⟩; done)
  · -- not taken 1
    refine at_iload_n dX8_isSheet_4 rfl ?_
    refine at_aload_n dX8_isSheet_5 rfl ?_
    refine at_getr (cn) flX8_48 rfl sd_0 hnow dX8_isSheet_6 ?_
    refine at_geti flX8_171 rfl (sd_P0 hcn) dX8_isSheet_9 ?_
    rw [hv]
    refine at_icmpge (tgt := 19) dX8_isSheet_12 (by decide) (fun c12 => ?_) (fun c12 => ?_)
    · -- taken 12
      refine at_iconst dX8_isSheet_19 pc_i0 ?_
      refine at_zret rfl dX8_isSheet_20 (by first | exact Or.inl rfl | exact Or.inr rfl | assumption) ?_
      first | (rw [isN_a c1]; exact ⟨rfl, rfl⟩; done) | (rw [isN_b c12]; exact ⟨rfl, rfl⟩; done) | (rw [isN_c c1 c12]; exact ⟨rfl, rfl⟩; done)
    · -- not taken 12
      refine at_iconst dX8_isSheet_15 pc_i1 ?_
      refine at_goto (tgt := 20) dX8_isSheet_16 (by decide) ?_
      refine at_zret rfl dX8_isSheet_20 (by first | exact Or.inl rfl | exact Or.inr rfl | assumption) ?_
      first | (rw [isN_a c1]; exact ⟨rfl, rfl⟩; done) | (rw [isN_b c12]; exact ⟨rfl, rfl⟩; done) | (rw [isN_c c1 c12]; exact ⟨rfl, rfl⟩; done)
theorem CN.first (h : CN I L R cn r nv ns nl e) {s : Nat} : pfirst (fun j => decide (I (cn + 7) j < nI s)) nl 0 = rFo r nl s := by
  obtain ⟨hR, hcn, hnow, hr, hp, hj, hT⟩ := h
  rw [← rFo_first hr s]
  have hcg : ∀ (p q : Nat → Bool) (k i : Nat), (∀ j, j < i + k → p j = q j) → pfirst p k i = pfirst q k i := by
    intro p q k
    induction k with
    | zero => intro i _; rfl
    | succ k ih =>
      intro i h
      have h0 := h i (by omega)
      by_cases hpi : p i = true
      · rw [pfirst_yes hpi, pfirst_yes (h0 ▸ hpi), ih (i + 1) (fun j hj => h j (by omega))]
      · have hpf : p i = false := by simpa using hpi
        rw [pfirst_no hpf, pfirst_no (h0 ▸ hpf)]
  exact hcg _ _ nl 0 (fun j hj => by rw [(hp.2.2.1 j (by omega)).2.2.1])
theorem CN.lns (h : CN I L R cn r nv ns nl e) : I cn 6 = nI nl := h.2.2.2.2.1.1.2.2.1.trans h.2.2.2.1.2.2.1.1
theorem CN.l40 (h : CN I L R cn r nv ns nl e) : nl ≤ 40 := h.2.2.2.1.2.2.1.2
theorem CN.s8 (h : CN I L R cn r nv ns nl e) : ns ≤ 8 := h.2.2.2.1.2.1.2
theorem CN.v16 (h : CN I L R cn r nv ns nl e) : nv ≤ 16 := h.2.2.2.1.1.2
theorem ev_X8_isLine (h : CN I L R cn r nv ns nl e) (x y : Int32) : pd_Ev G mi_X8_isLine 3 0 0 [.ref (pd_z G + 0), .int x, .int y] (SD, false, I, L, R) (pd_rt (.int (i_of (isN x ns && isN y (rN r nl x.toNatClampNeg)))) (SD, false, I, L, R)) := by
  have hC := h
  obtain ⟨hR, hcn, hnow, hr, hp, hj, hT⟩ := h
  refine pd_ev 0 (lo := [some (.ref (pd_z G + 0)), some (.int x), some (.int y)]) (by decide +kernel) (Nat.le_of_ble_eq_true rfl) rfl ?_
  refine at_aload_n dX8_isLine_0 rfl ?_
  refine at_iload_n dX8_isLine_1 rfl ?_
  refine at_cv1 cvX8_116 sd_0 (ev_X8_isSheet hC x) (by decide) ⟨Nat.le_of_ble_eq_true rfl, Nat.le_of_ble_eq_true rfl⟩ (Nat.le_of_ble_eq_true rfl) dX8_isLine_2 (pd_k1 ?_)
  refine at_ifeq (tgt := 28) dX8_isLine_5 (by decide) (fun c5 => ?_) (fun c5 => ?_)
  · -- taken 5
    have k5 := i_of0.mp c5
    refine at_iconst dX8_isLine_28 pc_i0 ?_
    refine at_zret rfl dX8_isLine_29 (by first | exact Or.inl rfl | exact Or.inr rfl | assumption) ?_
    first | (rw [k5]; exact ⟨rfl, rfl⟩; done) | (rw [isN_a c9, Bool.and_false]; exact ⟨rfl, rfl⟩; done) | (rw [isN_b c21, Bool.and_false]; exact ⟨rfl, rfl⟩; done) | (rw [isN_c c9 c21, k5]; exact ⟨rfl, rfl⟩; done)
  · -- not taken 5
    have k5 := i_of1.mp c5
    obtain ⟨s, hs, hx⟩ := isN_of (by have := hC.s8; omega) k5
    have hs8 := hC.s8
    have e1 : rN r nl x.toNatClampNeg = rN r nl s := by rw [hx, nI_clamp (by omega)]
    have e2 : nI (pfirst (fun j => decide (I (cn + 7) j < x + 1)) nl 0) - nI (pfirst (fun j => decide (I (cn + 7) j < x)) nl 0) = nI (rN r nl s) := by
      rw [hx, nI_1, hC.first, hC.first, rFo_succ hr (by omega), pk_sub (by omega)]; congr 1; omega
    rw [e1]
    refine at_iload_n dX8_isLine_8 rfl ?_
    refine at_iflt (tgt := 28) dX8_isLine_9 (by decide) (fun c9 => ?_) (fun c9 => ?_)
    · -- taken 9
      refine at_iconst dX8_isLine_28 pc_i0 ?_
      refine at_zret rfl dX8_isLine_29 (by first | exact Or.inl rfl | exact Or.inr rfl | assumption) ?_
      first | (rw [k5]; exact ⟨rfl, rfl⟩; done) | (rw [isN_a c9, Bool.and_false]; exact ⟨rfl, rfl⟩; done) | (rw [isN_b c21, Bool.and_false]; exact ⟨rfl, rfl⟩; done) | (rw [isN_c c9 c21, k5]; exact ⟨rfl, rfl⟩; done)
    · -- not taken 9
      refine at_iload_n dX8_isLine_12 rfl ?_
      refine at_aload_n dX8_isLine_13 rfl ?_
      refine at_getr (cn) flX8_48 rfl sd_0 hnow dX8_isLine_14 ?_
      refine at_iload_n dX8_isLine_17 rfl ?_
      refine at_cv1 cvX8_134 (sd_P0 hcn) (ev_X3_linesOn hR hcn hC.lns hC.l40 x) (by decide) ⟨Nat.le_of_ble_eq_true rfl, Nat.le_of_ble_eq_true rfl⟩ (Nat.le_of_ble_eq_true rfl) dX8_isLine_18 (pd_k1 ?_)
      rw [e2]
      refine at_icmpge (tgt := 28) dX8_isLine_21 (by decide) (fun c21 => ?_) (fun c21 => ?_)
      · -- taken 21
        refine at_iconst dX8_isLine_28 pc_i0 ?_
        refine at_zret rfl dX8_isLine_29 (by first | exact Or.inl rfl | exact Or.inr rfl | assumption) ?_
        first | (rw [k5]; exact ⟨rfl, rfl⟩; done) | (rw [isN_a c9, Bool.and_false]; exact ⟨rfl, rfl⟩; done) | (rw [isN_b c21, Bool.and_false]; exact ⟨rfl, rfl⟩; done) | (rw [isN_c c9 c21, k5]; exact ⟨rfl, rfl⟩; done)
      · -- not taken 21
        refine at_iconst dX8_isLine_24 pc_i1 ?_
        refine at_goto (tgt := 29) dX8_isLine_25 (by decide) ?_
        refine at_zret rfl dX8_isLine_29 (by first | exact Or.inl rfl | exact Or.inr rfl | assumption) ?_
        first | (rw [k5]; exact ⟨rfl, rfl⟩; done) | (rw [isN_a c9, Bool.and_false]; exact ⟨rfl, rfl⟩; done) | (rw [isN_b c21, Bool.and_false]; exact ⟨rfl, rfl⟩; done) | (rw [isN_c c9 c21, k5]; exact ⟨rfl, rfl⟩; done)
/-- which lines are in the sample -/
def sm (r : Nat → Int32) (w l : Nat) : Bool := decide (r (225 + 40 * w + l) = 1)
def smN (r : Nat → Int32) (w : Nat) : Nat := bsum (sm r w) 40
theorem smN_lt (r : Nat → Int32) (w : Nat) : smN r w < 2 ^ 40 := bsum_lt _ _
theorem CN.smp (h : CN I L R cn r nv ns nl e) : L cn 17 = lN (smN r 0) ∧ L cn 18 = lN (smN r 1) := by
  obtain ⟨hR, hcn, hnow, hr, hp, hj, hT⟩ := h
  exact ⟨hp.2.2.2.2.1, hp.2.2.2.2.2.1⟩
theorem ev_X8_sampleOf (h : CN I L R cn r nv ns nl e) {w : Nat} (hw : w < 2) : pd_Ev G mi_X8_sampleOf 1 0 0 [.ref (pd_z G + 0), .int (nI w)] (SD, false, I, L, R) (pd_rt (.long (lN (smN r w))) (SD, false, I, L, R)) := by
  have hC := h
  obtain ⟨hR, hcn, hnow, hr, hp, hj, hT⟩ := h
  rcases (show w = 0 ∨ w = 1 by omega) with rfl | rfl
  · refine pd_ev 0 (lo := [some (.ref (pd_z G + 0)), some (.int (nI 0))]) (by decide +kernel) (Nat.le_of_ble_eq_true rfl) rfl ?_
    refine at_iload_n dX8_sampleOf_0 rfl ?_
    refine at_ifne (tgt := 14) dX8_sampleOf_1 (by decide) (fun c1 => ?_) (fun c1 => ?_)
    · -- taken 1
      exact absurd rfl c1
    · -- not taken 1
      refine at_aload_n dX8_sampleOf_4 rfl ?_
      refine at_getr (cn) flX8_48 rfl sd_0 hnow dX8_sampleOf_5 ?_
      refine at_getl flX8_105 rfl (sd_P0 hcn) dX8_sampleOf_8 ?_
      refine at_goto (tgt := 21) dX8_sampleOf_11 (by decide) ?_
      refine at_lret rfl dX8_sampleOf_21 ?_
      rw [hC.smp.1]; exact ⟨rfl, rfl⟩
  · refine pd_ev 0 (lo := [some (.ref (pd_z G + 0)), some (.int (nI 1))]) (by decide +kernel) (Nat.le_of_ble_eq_true rfl) rfl ?_
    refine at_iload_n dX8_sampleOf_0 rfl ?_
    refine at_ifne (tgt := 14) dX8_sampleOf_1 (by decide) (fun c1 => ?_) (fun c1 => ?_)
    · -- taken 1
      refine at_aload_n dX8_sampleOf_14 rfl ?_
      refine at_getr (cn) flX8_48 rfl sd_0 hnow dX8_sampleOf_15 ?_
      refine at_getl flX8_109 rfl (sd_P0 hcn) dX8_sampleOf_18 ?_
      refine at_lret rfl dX8_sampleOf_21 ?_
      rw [hC.smp.2]; exact ⟨rfl, rfl⟩
    · -- not taken 1
      exact absurd c1 (by decide)
theorem ev_X8_fault : pd_Ev G mi_X8_fault 8 3 18 [.ref (pd_z G + 0)] (SD, false, I, L, R) (q_x I L R 0 (.int (I 0 7)) (KS I L R)) := by
  refine pd_ev 0 (lo := [some (.ref (pd_z G + 0))]) (by decide +kernel) (Nat.le_of_ble_eq_true rfl) rfl ?_
  refine at_aload_n dX8_fault_0 rfl ?_
  refine at_geti flX8_52 rfl sd_0 dX8_fault_1 ?_
  refine at_iret rfl dX8_fault_4 ?_
  exact q_yes rfl rfl KS.rf
def stV (a b c what : Int32) : Int32 := if what = 0 then a else if what = 1 then b else if what = 2 then c else -1
theorem ev_X8_status (what : Int32) : pd_Ev G mi_X8_status 8 3 18 [.ref (pd_z G + 0), .int what] (SD, false, I, L, R) (q_x I L R 0 (.int (stV (I 0 8) (I 0 9) (I 0 10) what)) (KS I L R)) := by
  refine pd_ev 0 (lo := [some (.ref (pd_z G + 0)), some (.int what)]) (by decide +kernel) (Nat.le_of_ble_eq_true rfl) rfl ?_
  refine at_iload_n dX8_status_0 rfl ?_
  by_cases s1_0 : what = 0
  · -- case 0
    subst s1_0
    refine at_tabIn (tgt := 28) (off := 27) dX8_status_1 (by decide) (by decide) (by decide) (by decide) ?_
    refine at_aload_n dX8_status_28 rfl ?_
    refine at_geti flX8_281 rfl sd_0 dX8_status_29 ?_
    refine at_iret rfl dX8_status_32 ?_
    first | exact q_yes rfl rfl KS.rf | (refine q_yes rfl ?_ KS.rf; simp [stV, s1_0, s1_1, s1_2]; done)
  by_cases s1_1 : what = 1
  · -- case 1
    subst s1_1
    refine at_tabIn (tgt := 33) (off := 32) dX8_status_1 (by decide) (by decide) (by decide) (by decide) ?_
    refine at_aload_n dX8_status_33 rfl ?_
    refine at_geti flX8_284 rfl sd_0 dX8_status_34 ?_
    refine at_iret rfl dX8_status_37 ?_
    first | exact q_yes rfl rfl KS.rf | (refine q_yes rfl ?_ KS.rf; simp [stV, s1_0, s1_1, s1_2]; done)
  by_cases s1_2 : what = 2
  · -- case 2
    subst s1_2
    refine at_tabIn (tgt := 38) (off := 37) dX8_status_1 (by decide) (by decide) (by decide) (by decide) ?_
    refine at_aload_n dX8_status_38 rfl ?_
    refine at_geti flX8_287 rfl sd_0 dX8_status_39 ?_
    refine at_iret rfl dX8_status_42 ?_
    first | exact q_yes rfl rfl KS.rf | (refine q_yes rfl ?_ KS.rf; simp [stV, s1_0, s1_1, s1_2]; done)
  refine at_tabOut (tgt := 43) dX8_status_1 (by have a0 := ti_ne s1_0; have a1 := ti_ne s1_1; have a2 := ti_ne s1_2; simp only [show (0 : Int32).toInt = 0 by decide, show (1 : Int32).toInt = 1 by decide, show (2 : Int32).toInt = 2 by decide] at *; omega) (by decide) ?_
  refine at_iconst dX8_status_43 pc_im1 ?_
  refine at_iret rfl dX8_status_44 ?_
  first | exact q_yes rfl rfl KS.rf | (refine q_yes rfl ?_ KS.rf; simp [stV, s1_0, s1_1, s1_2]; done)
def tdV (r : Nat → Int32) (k t a what : Int32) : Int32 := if what = 8 then k else if what = 9 then t else if what = 10 then a else r what.toNatClampNeg
theorem ev_X8_told (h : CN I L R cn r nv ns nl e) (what : Int32) : pd_Ev G mi_X8_told 8 3 18 [.ref (pd_z G + 0), .int what] (SD, false, I, L, R) (q_x I L R (j1 9 (inR what 0 10)) (.int (tdV r (nI (bsum (rK r nv nl e 0) ns)) (I 6 1) (I 0 5) what)) (KS I L R)) := by
  obtain ⟨hR, hcn, hnow, hr, hp, hj, hT⟩ := h
  obtain ⟨a0, a1, a2, a3, a4, a5, a6, a7⟩ := hp.1
  refine pd_ev 0 (lo := [some (.ref (pd_z G + 0)), some (.int what)]) (by decide +kernel) (Nat.le_of_ble_eq_true rfl) rfl ?_
  refine at_aload_n dX8_told_0 rfl ?_
  refine at_iload_n dX8_told_1 rfl ?_
  refine at_iconst dX8_told_2 pc_i0 ?_
  refine at_bipush dX8_told_3 pc_b10 ?_
  refine at_cs3 csX8_69 (ev_X8_isFrom what 0 10) (by decide) ⟨Nat.le_of_ble_eq_true rfl, Nat.le_of_ble_eq_true rfl⟩ (Nat.le_of_ble_eq_true rfl) dX8_told_5 (pd_k1 ?_)
  refine at_cv1 cvX8_73 sd_0 (ev_X8_requireArgument _) (by decide) ⟨Nat.le_of_ble_eq_true rfl, Nat.le_of_ble_eq_true rfl⟩ (Nat.le_of_ble_eq_true rfl) dX8_told_8 (pd_kq rfl (fun q8 => ?_) (fun q8 => ?_))
  · -- refused at 8
    exact q_no9 (by rw [i_of0.mp q8]; rfl)
  have k8 := i_of1.mp q8
  rw [k8]
  refine at_iload_n dX8_told_11 rfl ?_
  by_cases s12_0 : what = 0
  · -- case 0
    subst s12_0
    refine at_tabIn (tgt := 68) (off := 56) dX8_told_12 (by decide) (by decide) (by decide) (by decide) ?_
    refine at_aload_n dX8_told_68 rfl ?_
    refine at_getr (cn) flX8_48 rfl sd_0 hnow dX8_told_69 ?_
    refine at_geti flX8_168 rfl (sd_P0 hcn) dX8_told_72 ?_
    refine at_iret rfl dX8_told_75 ?_
    first | exact q_yes rfl rfl KS.rf | (refine q_yes rfl ?_ KS.rf; (first | rw [a0] | rw [a1] | rw [a2] | rw [a3] | rw [a4] | rw [a5] | rw [a6] | rw [a7] | rw [hj.2.2.1]); rfl)
  by_cases s12_1 : what = 1
  · -- case 1
    subst s12_1
    refine at_tabIn (tgt := 76) (off := 64) dX8_told_12 (by decide) (by decide) (by decide) (by decide) ?_
    refine at_aload_n dX8_told_76 rfl ?_
    refine at_getr (cn) flX8_48 rfl sd_0 hnow dX8_told_77 ?_
    refine at_geti flX8_171 rfl (sd_P0 hcn) dX8_told_80 ?_
    refine at_iret rfl dX8_told_83 ?_
    first | exact q_yes rfl rfl KS.rf | (refine q_yes rfl ?_ KS.rf; (first | rw [a0] | rw [a1] | rw [a2] | rw [a3] | rw [a4] | rw [a5] | rw [a6] | rw [a7] | rw [hj.2.2.1]); rfl)
  by_cases s12_2 : what = 2
  · -- case 2
    subst s12_2
    refine at_tabIn (tgt := 84) (off := 72) dX8_told_12 (by decide) (by decide) (by decide) (by decide) ?_
    refine at_aload_n dX8_told_84 rfl ?_
    refine at_getr (cn) flX8_48 rfl sd_0 hnow dX8_told_85 ?_
    refine at_geti flX8_98 rfl (sd_P0 hcn) dX8_told_88 ?_
    refine at_iret rfl dX8_told_91 ?_
    first | exact q_yes rfl rfl KS.rf | (refine q_yes rfl ?_ KS.rf; (first | rw [a0] | rw [a1] | rw [a2] | rw [a3] | rw [a4] | rw [a5] | rw [a6] | rw [a7] | rw [hj.2.2.1]); rfl)
  by_cases s12_3 : what = 3
  · -- case 3
    subst s12_3
    refine at_tabIn (tgt := 92) (off := 80) dX8_told_12 (by decide) (by decide) (by decide) (by decide) ?_
    refine at_aload_n dX8_told_92 rfl ?_
    refine at_getr (cn) flX8_48 rfl sd_0 hnow dX8_told_93 ?_
    refine at_geti flX8_174 rfl (sd_P0 hcn) dX8_told_96 ?_
    refine at_iret rfl dX8_told_99 ?_
    first | exact q_yes rfl rfl KS.rf | (refine q_yes rfl ?_ KS.rf; (first | rw [a0] | rw [a1] | rw [a2] | rw [a3] | rw [a4] | rw [a5] | rw [a6] | rw [a7] | rw [hj.2.2.1]); rfl)
  by_cases s12_4 : what = 4
  · -- case 4
    subst s12_4
    refine at_tabIn (tgt := 100) (off := 88) dX8_told_12 (by decide) (by decide) (by decide) (by decide) ?_
    refine at_aload_n dX8_told_100 rfl ?_
    refine at_getr (cn) flX8_48 rfl sd_0 hnow dX8_told_101 ?_
    refine at_geti flX8_177 rfl (sd_P0 hcn) dX8_told_104 ?_
    refine at_iret rfl dX8_told_107 ?_
    first | exact q_yes rfl rfl KS.rf | (refine q_yes rfl ?_ KS.rf; (first | rw [a0] | rw [a1] | rw [a2] | rw [a3] | rw [a4] | rw [a5] | rw [a6] | rw [a7] | rw [hj.2.2.1]); rfl)
  by_cases s12_5 : what = 5
  · -- case 5
    subst s12_5
    refine at_tabIn (tgt := 108) (off := 96) dX8_told_12 (by decide) (by decide) (by decide) (by decide) ?_
    refine at_aload_n dX8_told_108 rfl ?_
    refine at_getr (cn) flX8_48 rfl sd_0 hnow dX8_told_109 ?_
    refine at_geti flX8_180 rfl (sd_P0 hcn) dX8_told_112 ?_
    refine at_iret rfl dX8_told_115 ?_
    first | exact q_yes rfl rfl KS.rf | (refine q_yes rfl ?_ KS.rf; (first | rw [a0] | rw [a1] | rw [a2] | rw [a3] | rw [a4] | rw [a5] | rw [a6] | rw [a7] | rw [hj.2.2.1]); rfl)
  by_cases s12_6 : what = 6
  · -- case 6
    subst s12_6
    refine at_tabIn (tgt := 116) (off := 104) dX8_told_12 (by decide) (by decide) (by decide) (by decide) ?_
    refine at_aload_n dX8_told_116 rfl ?_
    refine at_getr (cn) flX8_48 rfl sd_0 hnow dX8_told_117 ?_
    refine at_geti flX8_183 rfl (sd_P0 hcn) dX8_told_120 ?_
    refine at_iret rfl dX8_told_123 ?_
    first | exact q_yes rfl rfl KS.rf | (refine q_yes rfl ?_ KS.rf; (first | rw [a0] | rw [a1] | rw [a2] | rw [a3] | rw [a4] | rw [a5] | rw [a6] | rw [a7] | rw [hj.2.2.1]); rfl)
  by_cases s12_7 : what = 7
  · -- case 7
    subst s12_7
    refine at_tabIn (tgt := 124) (off := 112) dX8_told_12 (by decide) (by decide) (by decide) (by decide) ?_
    refine at_aload_n dX8_told_124 rfl ?_
    refine at_getr (cn) flX8_48 rfl sd_0 hnow dX8_told_125 ?_
    refine at_geti flX8_186 rfl (sd_P0 hcn) dX8_told_128 ?_
    refine at_iret rfl dX8_told_131 ?_
    first | exact q_yes rfl rfl KS.rf | (refine q_yes rfl ?_ KS.rf; (first | rw [a0] | rw [a1] | rw [a2] | rw [a3] | rw [a4] | rw [a5] | rw [a6] | rw [a7] | rw [hj.2.2.1]); rfl)
  by_cases s12_8 : what = 8
  · -- case 8
    subst s12_8
    refine at_tabIn (tgt := 132) (off := 120) dX8_told_12 (by decide) (by decide) (by decide) (by decide) ?_
    refine at_aload_n dX8_told_132 rfl ?_
    refine at_getr (18) flX8_30 rfl sd_0 (rs_0_2 hR) dX8_told_133 ?_
    refine at_geti flX8_189 rfl sd_18 dX8_told_136 ?_
    refine at_iret rfl dX8_told_139 ?_
    first | exact q_yes rfl rfl KS.rf | (refine q_yes rfl ?_ KS.rf; (first | rw [a0] | rw [a1] | rw [a2] | rw [a3] | rw [a4] | rw [a5] | rw [a6] | rw [a7] | rw [hj.2.2.1]); rfl)
  by_cases s12_9 : what = 9
  · -- case 9
    subst s12_9
    refine at_tabIn (tgt := 140) (off := 128) dX8_told_12 (by decide) (by decide) (by decide) (by decide) ?_
    refine at_aload_n dX8_told_140 rfl ?_
    refine at_getr (6) flX8_26 rfl sd_0 (rs_0_1 hR) dX8_told_141 ?_
    refine at_geti flX8_66 rfl sd_6 dX8_told_144 ?_
    refine at_iret rfl dX8_told_147 ?_
    first | exact q_yes rfl rfl KS.rf | (refine q_yes rfl ?_ KS.rf; (first | rw [a0] | rw [a1] | rw [a2] | rw [a3] | rw [a4] | rw [a5] | rw [a6] | rw [a7] | rw [hj.2.2.1]); rfl)
  refine at_tabOut (tgt := 148) dX8_told_12 (by have a0 := ti_ne s12_0; have a1 := ti_ne s12_1; have a2 := ti_ne s12_2; have a3 := ti_ne s12_3; have a4 := ti_ne s12_4; have a5 := ti_ne s12_5; have a6 := ti_ne s12_6; have a7 := ti_ne s12_7; have a8 := ti_ne s12_8; have a9 := ti_ne s12_9; simp only [show (0 : Int32).toInt = 0 by decide, show (1 : Int32).toInt = 1 by decide, show (2 : Int32).toInt = 2 by decide, show (3 : Int32).toInt = 3 by decide, show (4 : Int32).toInt = 4 by decide, show (5 : Int32).toInt = 5 by decide, show (6 : Int32).toInt = 6 by decide, show (7 : Int32).toInt = 7 by decide, show (8 : Int32).toInt = 8 by decide, show (9 : Int32).toInt = 9 by decide] at *; omega) (by decide) ?_
  obtain ⟨k, hk, hx⟩ := inR_of (n := 10) (by decide) k8
  have hx : what = 10 := by
    subst hx
    rcases (show k = 0 ∨ k = 1 ∨ k = 2 ∨ k = 3 ∨ k = 4 ∨ k = 5 ∨ k = 6 ∨ k = 7 ∨ k = 8 ∨ k = 9 ∨ k = 10 by omega) with rfl | rfl | rfl | rfl | rfl | rfl | rfl | rfl | rfl | rfl | rfl
    all_goals first | rfl | contradiction
  subst hx
  refine at_aload_n dX8_told_148 rfl ?_
  refine at_geti flX8_165 rfl sd_0 dX8_told_149 ?_
  refine at_iret rfl dX8_told_152 ?_
  first | exact q_yes rfl rfl KS.rf | (refine q_yes rfl ?_ KS.rf; (first | rw [a0] | rw [a1] | rw [a2] | rw [a3] | rw [a4] | rw [a5] | rw [a6] | rw [a7] | rw [hj.2.2.1]); rfl)
theorem ev_X8_judged (h : CN I L R cn r nv ns nl e) (how : Int32) : pd_Ev G mi_X8_judged 8 3 18 [.ref (pd_z G + 0), .int how] (SD, false, I, L, R) (q_x I L R (j1 9 (inR how 0 5)) (.int (nI (fb_ct (fun l => decide (rJ r nv nl e 0 l = how)) nl))) (KS I L R)) := by
  have hC := h
  obtain ⟨hR, hcn, hnow, hr, hp, hj, hT⟩ := h
  have hln := hC.lns
  refine pd_ev 0 (lo := [some (.ref (pd_z G + 0)), some (.int how)]) (by decide +kernel) (Nat.le_of_ble_eq_true rfl) rfl ?_
  refine at_aload_n dX8_judged_0 rfl ?_
  refine at_iload_n dX8_judged_1 rfl ?_
  refine at_iconst dX8_judged_2 pc_i0 ?_
  refine at_iconst dX8_judged_3 pc_i5 ?_
  refine at_cs3 csX8_69 (ev_X8_isFrom how 0 5) (by decide) ⟨Nat.le_of_ble_eq_true rfl, Nat.le_of_ble_eq_true rfl⟩ (Nat.le_of_ble_eq_true rfl) dX8_judged_4 (pd_k1 ?_)
  refine at_cv1 cvX8_73 sd_0 (ev_X8_requireArgument _) (by decide) ⟨Nat.le_of_ble_eq_true rfl, Nat.le_of_ble_eq_true rfl⟩ (Nat.le_of_ble_eq_true rfl) dX8_judged_7 (pd_kq rfl (fun q7 => ?_) (fun q7 => ?_))
  · -- refused at 7
    exact q_no9 (by rw [i_of0.mp q7]; rfl)
  refine at_aload_n dX8_judged_10 rfl ?_
  refine at_getr (18) flX8_30 rfl sd_0 (rs_0_2 hR) dX8_judged_11 ?_
  refine at_iload_n dX8_judged_14 rfl ?_
  refine at_iconst dX8_judged_15 pc_i0 ?_
  refine at_aload_n dX8_judged_16 rfl ?_
  refine at_getr (cn) flX8_48 rfl sd_0 hnow dX8_judged_17 ?_
  refine at_geti flX8_98 rfl (sd_P0 hcn) dX8_judged_20 ?_
  rw [hln]
  refine at_cv3 cvX8_210 sd_18 (ev_X1_countJudged hR hC.l40 hj.1.1 how (f := 0) (Nat.le_refl _) (Nat.zero_le _)) (by decide) ⟨Nat.le_of_ble_eq_true rfl, Nat.le_of_ble_eq_true rfl⟩ (Nat.le_of_ble_eq_true rfl) dX8_judged_23 (pd_k1 ?_)
  refine at_iret rfl dX8_judged_26 ?_
  refine q_yes (by rw [i_of1.mp q7]; rfl) ?_ KS.rf
  congr 2
  rw [Nat.sub_zero]
  exact fb_ct_cong (fun l hl => by rw [Nat.zero_add, hj.2.1 l hl])
theorem ev_X8_passes (h : CN I L R cn r nv ns nl e) : pd_Ev G mi_X8_passes 8 3 18 [.ref (pd_z G + 0)] (SD, false, I, L, R) (q_x I L R 0 (.int (i_of (decide (r 3 ≤ nI (fb_ct (fun l => decide (rJ r nv nl e 0 l = 0)) nl))))) (KS I L R)) := by
  have hC := h
  obtain ⟨hR, hcn, hnow, hr, hp, hj, hT⟩ := h
  have hln := hC.lns
  have e1 : fb_ct (fun l => decide (I 20 (0 + l) = 0)) (nl - 0) = fb_ct (fun l => decide (rJ r nv nl e 0 l = 0)) nl := by
    rw [Nat.sub_zero]; exact fb_ct_cong (fun l hl => by rw [Nat.zero_add, hj.2.1 l hl])
  refine pd_ev 0 (lo := [some (.ref (pd_z G + 0))]) (by decide +kernel) (Nat.le_of_ble_eq_true rfl) rfl ?_
  refine at_aload_n dX8_passes_0 rfl ?_
  refine at_getr (18) flX8_30 rfl sd_0 (rs_0_2 hR) dX8_passes_1 ?_
  refine at_iconst dX8_passes_4 pc_i0 ?_
  refine at_iconst dX8_passes_5 pc_i0 ?_
  refine at_aload_n dX8_passes_6 rfl ?_
  refine at_getr (cn) flX8_48 rfl sd_0 hnow dX8_passes_7 ?_
  refine at_geti flX8_98 rfl (sd_P0 hcn) dX8_passes_10 ?_
  rw [hln]
  refine at_cv3 cvX8_210 sd_18 (ev_X1_countJudged hR hC.l40 hj.1.1 0 (f := 0) (Nat.le_refl _) (Nat.zero_le _)) (by decide) ⟨Nat.le_of_ble_eq_true rfl, Nat.le_of_ble_eq_true rfl⟩ (Nat.le_of_ble_eq_true rfl) dX8_passes_13 (pd_k1 ?_)
  refine at_aload_n dX8_passes_16 rfl ?_
  refine at_getr (cn) flX8_48 rfl sd_0 hnow dX8_passes_17 ?_
  refine at_geti flX8_174 rfl (sd_P0 hcn) dX8_passes_20 ?_
  rw [e1, hp.1.2.2.2.1]
  refine at_icmplt (tgt := 30) dX8_passes_23 (by decide) (fun c23 => ?_) (fun c23 => ?_)
  · -- taken 23
    refine at_iconst dX8_passes_30 pc_i0 ?_
    refine at_iret rfl dX8_passes_31 ?_
    first | (refine q_yes rfl ?_ KS.rf; simp [i_of, (fa_of_lt c23).2.1]; done) | (refine q_yes rfl ?_ KS.rf; simp [i_of, fa_of_nlt c23]; done)
  · -- not taken 23
    refine at_iconst dX8_passes_26 pc_i1 ?_
    refine at_goto (tgt := 31) dX8_passes_27 (by decide) ?_
    refine at_iret rfl dX8_passes_31 ?_
    first | (refine q_yes rfl ?_ KS.rf; simp [i_of, (fa_of_lt c23).2.1]; done) | (refine q_yes rfl ?_ KS.rf; simp [i_of, fa_of_nlt c23]; done)
end DESK
