/-! ===== what a row of the reference says: lines judged ===== -/
def rSh (r : Nat → Int32) (l : Nat) : Int32 := r (67 + 4 * l)
def rW (r : Nat → Int32) (nv l : Nat) : Int32 := i_find (fun v => decide (r (9 + 3 * v) = r (65 + 4 * l)) && decide (r (10 + 3 * v) = r (66 + 4 * l))) nv
def rNo (r : Nat → Int32) (l : Nat) : Nat := fb_ct (fun k => decide (rSh r k = rSh r l)) l
def rAh (r : Nat → Int32) (nv l : Nat) : Nat := fb_ct (fun k => decide (rW r nv k = rW r nv l)) l
def rSi (r : Nat → Int32) (nv l : Nat) : Int32 := r (11 + 3 * (rW r nv l).toNatClampNeg)
def rF (r : Nat → Int32) (nv l : Nat) : Nat → Int32 := fun k => if k = 0 then r (68 + 4 * l) else if k = 1 then r (66 + 4 * l) else if k = 2 then nI (rNo r l) else if k = 3 then rSh r l else if k = 4 then rSi r nv l else nI (rAh r nv l)
/-- 1 nobody, 2 late, 3 wrong, else 0 -/
def rH (r : Nat → Int32) (nv : Nat) (e : List rl_S) (l : Nat) : Int32 := if rW r nv l = -1 then 1 else if r (68 + 4 * l) < r 4 ∨ r 5 < r (68 + 4 * l) ∨ r (68 + 4 * l) < rSi r nv l then 2 else if rl_good (rF r nv l) e then 0 else 3
def rN (r : Nat → Int32) (nl s : Nat) : Nat := fb_ct (fun l => decide (rSh r l = nI s)) nl
def rWr (r : Nat → Int32) (nv nl : Nat) (e : List rl_S) (s : Nat) : Nat := fb_ct (fun l => decide (rSh r l = nI s) && decide (¬ rH r nv e l = 0)) nl
/-- the sheet is struck, by hand, besides, or by its wrongs -/
def rK (r : Nat → Int32) (nv nl : Nat) (e : List rl_S) (bes s : Nat) : Bool := decide (r (57 + s) = 1) || bes.testBit s || decide (r 6 * nI (rN r nl s) < 100 * nI (rWr r nv nl e s))
def bsum (p : Nat → Bool) : Nat → Nat
  | 0 => 0
  | n + 1 => bsum p n + if p n then 2 ^ n else 0
theorem bsum_lt (p : Nat → Bool) : ∀ n, bsum p n < 2 ^ n
  | 0 => by simp [bsum]
  | n + 1 => by
    have := bsum_lt p n
    rw [bsum, Nat.pow_succ]
    split <;> omega
theorem bsum_or {p : Nat → Bool} (n : Nat) (h : p n = true) : bsum p n ||| 2 ^ n = bsum p (n + 1) := by
  have h1 := bsum_lt p n
  rw [bsum, if_pos h]
  have := Nat.two_pow_add_eq_or_of_lt h1 1
  rw [Nat.mul_one] at this
  rw [Nat.or_comm, ← this]; omega
theorem bsum_bit (p : Nat → Bool) : ∀ n i, (bsum p n).testBit i = (decide (i < n) && p i)
  | 0, i => by simp [bsum]
  | n + 1, i => by
    have h1 := bsum_lt p n
    by_cases hp : p n = true
    · rw [← bsum_or n hp, Nat.testBit_or, bsum_bit p n i, Nat.testBit_two_pow]
      by_cases hi : n = i
      · subst hi; simp [hp]
      · have : decide (i < n + 1) = decide (i < n) := by
          by_cases h2 : i < n
          · simp [h2]; omega
          · simp [h2]; omega
        simp [hi, this]
    · rw [bsum, if_neg hp, Nat.add_zero, bsum_bit p n i]
      by_cases hi : i = n
      · subst hi; simp [hp]
      · have : decide (i < n + 1) = decide (i < n) := by
          by_cases h2 : i < n
          · simp [h2]; omega
          · simp [h2]; omega
        rw [this]
theorem bsum_cong {p q : Nat → Bool} : ∀ {n : Nat}, (∀ i, i < n → p i = q i) → bsum p n = bsum q n
  | 0, _ => rfl
  | n + 1, h => by rw [bsum, bsum, bsum_cong (fun i hi => h i (by omega)), h n (by omega)]
theorem bsum_of {m n : Nat} (h : m < 2 ^ n) : bsum (fun i => m.testBit i) n = m := by
  apply Nat.eq_of_testBit_eq
  intro i
  rw [bsum_bit]
  by_cases hi : i < n
  · simp [hi]
  · have : m.testBit i = false := Nat.testBit_lt_two_pow (Nat.lt_of_lt_of_le h (Nat.pow_le_pow_right (by decide) (by omega)))
    simp [this]
/-- a line that is none of 1 to 4 -/
def rOk (r : Nat → Int32) (nv nl : Nat) (e : List rl_S) (bes l : Nat) : Bool := decide (rH r nv e l = 0) && !rK r nv nl e bes (rSh r l).toNatClampNeg
def rJ (r : Nat → Int32) (nv nl : Nat) (e : List rl_S) (bes l : Nat) : Int32 := if ¬ rH r nv e l = 0 then rH r nv e l else if rK r nv nl e bes (rSh r l).toNatClampNeg then 4 else if 0 < fb_ct (fun k => rOk r nv nl e bes k && decide (rW r nv k = rW r nv l)) l then 5 else 0
/-- the voters with a good line on the sheet -/
def rVo (r : Nat → Int32) (nv nl : Nat) (e : List rl_S) (bes s : Nat) : Nat := bsum (fun v => decide (0 < fb_ct (fun l => rOk r nv nl e bes l && (decide (rSh r l = nI s) && decide (rW r nv l = nI v))) nl)) 16
/-- the codes of a step in the reference's row -/
def rl_o (o : Nat) : List Int32 := if o < 1000 then [1, nI o] else [nI (2 + (o - 1000))]
def rl_k (q : rl_S) : List Int32 := if q.1 < 3 then rl_o q.2.1 ++ (rl_o q.2.2 ++ [nI (8 + q.1)]) else [nI (8 + q.1)]
def rl_ks (e : List rl_S) : List Int32 := e.flatMap rl_k
/-- the row is one that texts and acts make -/
def Row (r : Nat → Int32) (nv ns nl : Nat) (e : List rl_S) : Prop :=
  (r 0 = nI nv ∧ nv ≤ 16) ∧ (r 1 = nI ns ∧ ns ≤ 8) ∧ (r 2 = nI nl ∧ nl ≤ 40) ∧ (∃ n, n ≤ 40 ∧ r 3 = nI n) ∧ (∃ a, 1 ≤ a ∧ a ≤ 499 ∧ r 7 = nI a) ∧
  (∀ l, l < nl → ∃ s, s < ns ∧ rSh r l = nI s) ∧ (∀ l, l + 1 < nl → rSh r l ≤ rSh r (l + 1)) ∧ (∀ s, s < 8 → r (57 + s) = 0 ∨ r (57 + s) = 1) ∧ (∀ s, ns ≤ s → s < 8 → r (57 + s) = 0) ∧
  (∀ k, k < 80 → r (225 + k) = 0 ∨ r (225 + k) = 1) ∧ (∀ w l, w < 2 → nl ≤ l → l < 40 → r (225 + 40 * w + l) = 0) ∧
  (r 8 = if e = [] then 0 else 1) ∧ (∀ j x, (rl_ks e)[j]? = some x → r (305 + j) = x) ∧ r (305 + (rl_ks e).length) = 0 ∧ (rl_ks e).length < 800 ∧ (e = [] ∨ rl_ok e 0)
/-- a name in the class and in the reference -/
def n32 : List Nat → Nat
  | [] => 0
  | x :: w => x + 32 * n32 w
def n27 : Nat → List Nat → Nat
  | a, [] => a
  | a, x :: w => n27 (27 * a + x) w
def Nm (a b : Int32) : Prop := ∃ w : List Nat, w ≠ [] ∧ w.length ≤ 5 ∧ (∀ x ∈ w, 1 ≤ x ∧ x ≤ 26) ∧ a = nI (n32 w) ∧ b = nI (n27 0 w)
/-- the petition at c says what the row says -/
def PetRel (I : Nat → Nat → Int32) (L : Nat → Nat → Int64) (c : Nat) (r : Nat → Int32) (nv ns nl : Nat) (e : List rl_S) : Prop :=
  (I c 0 = r 0 ∧ I c 4 = r 1 ∧ I c 6 = r 2 ∧ I c 11 = r 3 ∧ I c 12 = r 4 ∧ I c 13 = r 5 ∧ I c 14 = r 6 ∧ I c 15 = r 7) ∧
  (∀ v, v < nv → Nm (I (c + 1) v) (r (9 + 3 * v)) ∧ I (c + 2) v = r (10 + 3 * v) ∧ I (c + 3) v = r (11 + 3 * v)) ∧
  (∀ l, l < nl → Nm (I (c + 4) l) (r (65 + 4 * l)) ∧ I (c + 5) l = r (66 + 4 * l) ∧ I (c + 7) l = rSh r l ∧ I (c + 6) l = r (68 + 4 * l)) ∧
  I c 5 = nI (bsum (fun s => decide (r (57 + s) = 1)) 8) ∧ L c 17 = lN (bsum (fun l => decide (r (225 + l) = 1)) 40) ∧ L c 18 = lN (bsum (fun l => decide (r (265 + l) = 1)) 40) ∧
  I (c + 8) 1 = nI e.length ∧ e.length ≤ 600 ∧ ∀ j q, e[j]? = some q → I (c + 9) j = rl_32 q
theorem n32_inj : ∀ (w v : List Nat), (∀ x ∈ w, 1 ≤ x ∧ x ≤ 26) → (∀ x ∈ v, 1 ≤ x ∧ x ≤ 26) → n32 w = n32 v → w = v
  | [], [], _, _, _ => rfl
  | [], y :: v, _, hv, h => by have := hv y List.mem_cons_self; simp only [n32] at h; omega
  | x :: w, [], hw, _, h => by have := hw x List.mem_cons_self; simp only [n32] at h; omega
  | x :: w, y :: v, hw, hv, h => by
    have h1 := hw x List.mem_cons_self
    have h2 := hv y List.mem_cons_self
    simp only [n32] at h
    have e : x = y := by omega
    subst e
    rw [n32_inj w v (fun z hz => hw z (List.mem_cons_of_mem _ hz)) (fun z hz => hv z (List.mem_cons_of_mem _ hz)) (by omega)]
theorem n27_app (a : Nat) : ∀ (w : List Nat) (x : Nat), n27 a (w ++ [x]) = 27 * n27 a w + x
  | [], x => rfl
  | y :: w, x => by rw [List.cons_append, n27, n27, n27_app (27 * a + y) w x]
theorem n27_inj : ∀ (n : Nat) (w v : List Nat), w.length ≤ n → (∀ x ∈ w, 1 ≤ x ∧ x ≤ 26) → (∀ x ∈ v, 1 ≤ x ∧ x ≤ 26) → n27 0 w = n27 0 v → w = v := by
  intro n
  induction n with
  | zero =>
    intro w v hl hw hv h
    have e : w = [] := List.length_eq_zero_iff.mp (by omega)
    subst e
    rcases List.eq_nil_or_concat v with rfl | ⟨v', y, rfl⟩
    · rfl
    · rw [List.concat_eq_append, n27_app] at h
      have := hv y (by simp)
      simp only [n27] at h; omega
  | succ n ih =>
    intro w v hl hw hv h
    rcases List.eq_nil_or_concat w with rfl | ⟨w', x, rfl⟩
    · rcases List.eq_nil_or_concat v with rfl | ⟨v', y, rfl⟩
      · rfl
      · rw [List.concat_eq_append, n27_app] at h
        have := hv y (by simp)
        simp only [n27] at h; omega
    · rcases List.eq_nil_or_concat v with rfl | ⟨v', y, rfl⟩
      · rw [List.concat_eq_append, n27_app] at h
        have := hw x (by simp)
        simp only [n27] at h; omega
      · simp only [List.concat_eq_append] at h hw hv hl ⊢
        rw [n27_app, n27_app] at h
        have h1 := hw x (by simp)
        have h2 := hv y (by simp)
        have e : x = y := by omega
        subst e
        rw [ih w' v' (by simp at hl; omega) (fun z hz => hw z (by simp [hz])) (fun z hz => hv z (by simp [hz])) (by omega)]
theorem n32_lt : ∀ w : List Nat, (∀ x ∈ w, 1 ≤ x ∧ x ≤ 26) → n32 w < 32 ^ w.length
  | [], _ => by decide
  | x :: w, h => by
    have h1 := h x List.mem_cons_self
    have h2 := n32_lt w (fun z hz => h z (List.mem_cons_of_mem _ hz))
    rw [n32, List.length_cons, Nat.pow_succ]; omega
theorem n27_lt : ∀ (w : List Nat) (a k : Nat), a < 27 ^ k → (∀ x ∈ w, 1 ≤ x ∧ x ≤ 26) → n27 a w < 27 ^ (k + w.length)
  | [], a, k, ha, _ => by simpa [n27] using ha
  | x :: w, a, k, ha, h => by
    have h1 := h x List.mem_cons_self
    have := n27_lt w (27 * a + x) (k + 1) (by rw [Nat.pow_succ]; omega) (fun z hz => h z (List.mem_cons_of_mem _ hz))
    rw [n27, List.length_cons, show k + (w.length + 1) = k + 1 + w.length by omega]; exact this
theorem Nm.eq {a b a' b' : Int32} (h : Nm a b) (h' : Nm a' b') : a = a' ↔ b = b' := by
  obtain ⟨w, -, hl, hw, rfl, rfl⟩ := h
  obtain ⟨v, -, hl', hv, rfl, rfl⟩ := h'
  have p1 : (32 : Nat) ^ w.length ≤ 32 ^ 5 := Nat.pow_le_pow_right (by decide) hl
  have p2 : (32 : Nat) ^ v.length ≤ 32 ^ 5 := Nat.pow_le_pow_right (by decide) hl'
  have p3 : (27 : Nat) ^ (0 + w.length) ≤ 27 ^ 5 := Nat.pow_le_pow_right (by decide) (by omega)
  have p4 : (27 : Nat) ^ (0 + v.length) ≤ 27 ^ 5 := Nat.pow_le_pow_right (by decide) (by omega)
  have q1 := n32_lt w hw
  have q2 := n32_lt v hv
  have q3 := n27_lt w 0 0 (by decide) hw
  have q4 := n27_lt v 0 0 (by decide) hv
  rw [nI_eq (by omega) (by omega), nI_eq (by omega) (by omega)]
  constructor
  · intro h; rw [n32_inj w v hw hv h]
  · intro h; rw [n27_inj _ w v (Nat.le_refl _) hw hv h]
