/-! ===== the words, numbers and signs of a text ===== -/
def sb (b : Nat) : Int32 := (nI b).toInt8.toInt32
theorem sb_all : ∀ b, b < 256 → (b < 128 → sb b = nI b) ∧ (128 ≤ b → sb b < 0) := by decide +kernel
theorem sb_lo {b : Nat} (h : b < 128) : sb b = nI b := (sb_all b (by omega)).1 h
theorem sb_hi {b : Nat} (h : b < 256) (h2 : 128 ≤ b) : sb b < 0 := (sb_all b h).2 h2
theorem rg_a {l x m : Int32} {b : Bool} (h : (l ≤ x ∧ x ≤ m) ↔ b = true) (h1 : x < l) : b = false := by
  rw [← Bool.not_eq_true, ← h]; intro q; exact (fa_of_lt h1).2.1 q.1
theorem rg_b {l x m : Int32} {b : Bool} (h : (l ≤ x ∧ x ≤ m) ↔ b = true) (h1 : m < x) : b = false := by
  rw [← Bool.not_eq_true, ← h]; intro q; exact (fa_of_lt h1).2.1 q.2
def isL (B : Nat → Nat) (n k : Nat) : Bool := decide (k < n) && (decide (97 ≤ B k) && decide (B k ≤ 122))
def isD (B : Nat → Nat) (n k : Nat) : Bool := decide (k < n) && (decide (48 ≤ B k) && decide (B k ≤ 57))
def isB (B : Nat → Nat) (n k : Nat) : Bool := decide (k < n) && decide (B k = 32)
theorem isL_b {B n k} (h : isL B n k = true) : k < n ∧ 97 ≤ B k ∧ B k ≤ 122 := by simpa [isL] using h
theorem isD_b {B n k} (h : isD B n k = true) : k < n ∧ 48 ≤ B k ∧ B k ≤ 57 := by simpa [isD] using h
theorem isB_b {B n k} (h : isB B n k = true) : k < n ∧ B k = 32 := by simpa [isB] using h
/-- where a run ends -/
def rnE (p : Nat → Bool) (n k : Nat) : Nat := pfirst p (n - k) k
theorem rnE_ge (p : Nat → Bool) (n k : Nat) : k ≤ rnE p n k := (pfirst_le p (n - k) k).1
theorem rnE_le (p : Nat → Bool) {n k : Nat} (h : k ≤ n) : rnE p n k ≤ n := by have := (pfirst_le p (n - k) k).2; unfold rnE; omega
theorem rnE_in (p : Nat → Bool) {n k j : Nat} (h1 : k ≤ j) (h2 : j < rnE p n k) : p j = true := pfirst_in p (n - k) k j h1 h2
theorem rnE_out {p : Nat → Bool} {n k : Nat} (h : k ≤ n) (hp : ∀ j, n ≤ j → p j = false) : p (rnE p n k) = false := by
  rcases pfirst_out p (n - k) k with q | q
  · exact q
  · unfold rnE; rw [q]; exact hp _ (by omega)
theorem rnE_yes {p : Nat → Bool} {n k : Nat} (hk : k < n) (h : p k = true) : rnE p n k = rnE p n (k + 1) := by
  unfold rnE
  rw [show n - k = (n - (k + 1)) + 1 by omega, pfirst_yes h]
theorem rnE_no {p : Nat → Bool} {n k : Nat} (h : p k = false) : rnE p n k = k := by
  unfold rnE
  cases h2 : n - k with
  | zero => rfl
  | succ m => exact pfirst_no h
theorem isL_n {B n j} (h : n ≤ j) : isL B n j = false := by have : ¬ j < n := by omega
                                                            simp [isL, this]
theorem isD_n {B n j} (h : n ≤ j) : isD B n j = false := by have : ¬ j < n := by omega
                                                            simp [isD, this]
theorem isB_n {B n j} (h : n ≤ j) : isB B n j = false := by have : ¬ j < n := by omega
                                                            simp [isB, this]
/-- behind the spaces -/
def sk (B : Nat → Nat) (n k : Nat) : Nat := rnE (isB B n) n k
/-- behind the word, number or sign at k -/
def tkE (B : Nat → Nat) (n k : Nat) : Nat := if n ≤ k then k else if isL B n k then rnE (isL B n) n k else if isD B n k then rnE (isD B n) n k else k + 1
/-- the word w stands at k, and no letter behind -/
def isW (B : Nat → Nat) (n : Nat) : Nat → List Nat → Bool
  | k, [] => !isL B n k
  | k, c :: w => (decide (k < n) && decide (B k = c)) && isW B n (k + 1) w
def wds : List (List Nat) := [[118, 111, 116, 101, 114], [115, 104, 101, 101, 116], [115, 105, 103, 110], [110, 101, 101, 100], [115, 112, 97, 110], [115, 112, 111, 105, 108, 116], [97, 108, 112, 104, 97], [103, 111, 111, 100], [111, 114], [97, 110, 100], [110, 111, 116], [100, 97, 121], [115, 116, 114, 101, 101, 116], [108, 105, 110, 101], [115, 105, 110, 99, 101], [97, 104, 101, 97, 100]]
def kwF (B : Nat → Nat) (n k : Nat) : List (List Nat) → Nat → Nat
  | [], c => c
  | w :: ws, c => if isW B n k w then c else kwF B n k ws (c + 1)
/-- the kind of what stands at k -/
def tkK (B : Nat → Nat) (n k : Nat) : Nat := if n ≤ k then 0 else if isL B n k then kwF B n k wds 1 else if isD B n k then 18 else if 32 < B k ∧ B k < 128 then B k else 19
/-- a word's letters, a number as far as it counts -/
def tkW (B : Nat → Nat) (n k : Nat) : List Nat := (List.range (rnE (isL B n) n k - k)).map (fun j => B (k + j) - 96)
def dvF (B : Nat → Nat) : Nat → Nat → Nat → Nat
  | 0, _, a => a
  | c + 1, p, a => dvF B c (p + 1) (min 1000 (10 * a + (B p - 48)))
def tkN (B : Nat → Nat) (n k : Nat) : Nat := dvF B (rnE (isD B n) n k - k) k 0
/-- the places, one after another -/
def tq (B : Nat → Nat) (n : Nat) : Nat → Nat
  | 0 => sk B n 0
  | i + 1 => sk B n (tkE B n (tq B n i))
section TOK
variable {G : pd_G} {I : Nat → Nat → Int32} {L : Nat → Nat → Int64} {R : Nat → Nat → Option Nat} {B : Nat → Nat} {n : Nat}
/-- the bytes on the tape -/
def TB (I : Nat → Nat → Int32) (B : Nat → Nat) (n : Nat) : Prop := I 2 4 = nI n ∧ n ≤ 600 ∧ ∀ k, k < n → B k < 256 ∧ I 7 k = sb (B k)
def cB (B : Nat → Nat) (n k : Nat) : Int32 := if k < n then sb (B k) else -1
theorem ev_X7_byteAt (hR : RS R) (hT : TB I B n) {k : Nat} (hk : k < 2 ^ 31) : pd_Ev G mi_X7_byteAt 1 0 0 [.ref (pd_z G + 2), .int (nI k)] (SD, false, I, L, R) (pd_rt (.int (cB B n k)) (SD, false, I, L, R)) := by
  obtain ⟨h1, h2, h3⟩ := hT
  have hcl : (nI k).toNatClampNeg = k := nI_clamp hk
  refine pd_ev 0 (lo := [some (.ref (pd_z G + 2)), some (.int (nI k))]) (by decide +kernel) (Nat.le_of_ble_eq_true rfl) rfl ?_
  by_cases hkn : k < n
  · refine at_iload_n dX7_byteAt_0 rfl ?_
    refine at_iflt (tgt := 24) dX7_byteAt_1 (by decide) (fun c1 => ?_) (fun c1 => ?_)
    · -- taken 1
      exact absurd c1 (nI_pos hk)
    · -- not taken 1
      refine at_iload_n dX7_byteAt_4 rfl ?_
      refine at_aload_n dX7_byteAt_5 rfl ?_
      refine at_geti flX7_37 rfl sd_2 dX7_byteAt_6 ?_
      rw [h1]
      refine at_icmpge (tgt := 24) dX7_byteAt_9 (by decide) (fun c9 => ?_) (fun c9 => ?_)
      · -- taken 9
        exact absurd c9 (nI_ge hkn (by omega))
      · -- not taken 9
        refine at_aload_n dX7_byteAt_12 rfl ?_
        refine at_getr (6) flX7_24 rfl sd_2 (rs_2_3 hR) dX7_byteAt_13 ?_
        refine at_getr (7) flX7_85 rfl sd_6 (rs_6_0 hR) dX7_byteAt_16 ?_
        refine at_iload_n dX7_byteAt_19 rfl ?_
        refine at_bald sd_7 (vp_in_nI (by omega) (by decide)) dX7_byteAt_20 ?_
        rw [hcl, (h3 k hkn).2]
        refine at_goto (tgt := 25) dX7_byteAt_21 (by decide) ?_
        refine at_iret rfl dX7_byteAt_25 ?_
        exact ⟨by rw [cB, if_pos hkn], rfl⟩
  · refine at_iload_n dX7_byteAt_0 rfl ?_
    refine at_iflt (tgt := 24) dX7_byteAt_1 (by decide) (fun c1 => ?_) (fun c1 => ?_)
    · -- taken 1
      refine at_iconst dX7_byteAt_24 pc_im1 ?_
      refine at_iret rfl dX7_byteAt_25 ?_
      exact ⟨by rw [cB, if_neg hkn], rfl⟩
    · -- not taken 1
      refine at_iload_n dX7_byteAt_4 rfl ?_
      refine at_aload_n dX7_byteAt_5 rfl ?_
      refine at_geti flX7_37 rfl sd_2 dX7_byteAt_6 ?_
      rw [h1]
      refine at_icmpge (tgt := 24) dX7_byteAt_9 (by decide) (fun c9 => ?_) (fun c9 => ?_)
      · -- taken 9
        refine at_iconst dX7_byteAt_24 pc_im1 ?_
        refine at_iret rfl dX7_byteAt_25 ?_
        exact ⟨by rw [cB, if_neg hkn], rfl⟩
      · -- not taken 9
        exact absurd (nI_le (by omega) hk) c9
theorem ev_X7_byteAtN : pd_Ev G mi_X7_byteAt 1 0 0 [.ref (pd_z G + 2), .int (-1)] (SD, false, I, L, R) (pd_rt (.int (-1)) (SD, false, I, L, R)) := by
  refine pd_ev 0 (lo := [some (.ref (pd_z G + 2)), some (.int (-1))]) (by decide +kernel) (Nat.le_of_ble_eq_true rfl) rfl ?_
  refine at_iload_n dX7_byteAt_0 rfl ?_
  refine at_iflt (tgt := 24) dX7_byteAt_1 (by decide) (fun c1 => ?_) (fun c1 => ?_)
  · -- taken 1
    refine at_iconst dX7_byteAt_24 pc_im1 ?_
    refine at_iret rfl dX7_byteAt_25 ?_
    exact ⟨rfl, rfl⟩
  · -- not taken 1
    exact absurd (by decide) c1
theorem cB_L (hT : TB I B n) (k : Nat) : (97 ≤ cB B n k ∧ cB B n k ≤ 122) ↔ isL B n k = true := by
  unfold cB isL
  by_cases hk : k < n
  · rw [if_pos hk]
    obtain ⟨h1, -⟩ := hT.2.2 k hk
    by_cases hb : B k < 128
    · rw [sb_lo hb, show (97 : Int32) = nI 97 from rfl, show (122 : Int32) = nI 122 from rfl, nI_leI (by decide) (by omega), nI_leI (by omega) (by decide)]
      simp [hk]
    · have := sb_hi h1 (by omega)
      have h0 : ¬ (97 : Int32) ≤ sb (B k) := by
        rw [fa_lt] at this; rw [fa_le]
        have e1 : (97 : Int32).toInt = 97 := by decide
        have e2 : (0 : Int32).toInt = 0 := by decide
        omega
      simp [hk, h0]; omega
  · rw [if_neg hk]
    have h0 : ¬ (97 : Int32) ≤ -1 := by decide
    simp [hk, h0]
theorem cB_D (hT : TB I B n) (k : Nat) : (48 ≤ cB B n k ∧ cB B n k ≤ 57) ↔ isD B n k = true := by
  unfold cB isD
  by_cases hk : k < n
  · rw [if_pos hk]
    obtain ⟨h1, -⟩ := hT.2.2 k hk
    by_cases hb : B k < 128
    · rw [sb_lo hb, show (48 : Int32) = nI 48 from rfl, show (57 : Int32) = nI 57 from rfl, nI_leI (by decide) (by omega), nI_leI (by omega) (by decide)]
      simp [hk]
    · have := sb_hi h1 (by omega)
      have h0 : ¬ (48 : Int32) ≤ sb (B k) := by
        rw [fa_lt] at this; rw [fa_le]
        have e1 : (48 : Int32).toInt = 48 := by decide
        have e2 : (0 : Int32).toInt = 0 := by decide
        omega
      simp [hk, h0]; omega
  · rw [if_neg hk]
    have h0 : ¬ (48 : Int32) ≤ -1 := by decide
    simp [hk, h0]
theorem ev_X7_isLetter (hR : RS R) (hT : TB I B n) {k : Nat} (hk : k < 2 ^ 31) : pd_Ev G mi_X7_isLetter 2 0 0 [.ref (pd_z G + 2), .int (nI k)] (SD, false, I, L, R) (pd_rt (.int (i_of (isL B n k))) (SD, false, I, L, R)) := by
  have hb := cB_L hT k
  refine pd_ev 0 (lo := [some (.ref (pd_z G + 2)), some (.int (nI k))]) (by decide +kernel) (Nat.le_of_ble_eq_true rfl) rfl ?_
  refine at_aload_n dX7_isLetter_0 rfl ?_
  refine at_iload_n dX7_isLetter_1 rfl ?_
  refine at_cv1 cvX7_65 sd_2 (ev_X7_byteAt hR hT hk) (by decide) ⟨Nat.le_refl _, Nat.le_refl _⟩ (Nat.le_of_ble_eq_true rfl) dX7_isLetter_2 (pd_k1 ?_)
  refine at_bipush dX7_isLetter_5 pc_b97 ?_
  refine at_icmplt (tgt := 24) dX7_isLetter_7 (by decide) (fun c7 => ?_) (fun c7 => ?_)
  · -- taken 7
    refine at_iconst dX7_isLetter_24 pc_i0 ?_
    refine at_zret rfl dX7_isLetter_25 (by first | exact Or.inl rfl | exact Or.inr rfl | assumption) ?_
    first | (rw [rg_a hb c7]; exact ⟨rfl, rfl⟩) | (rw [rg_b hb c17]; exact ⟨rfl, rfl⟩) | (rw [hb.mp ⟨fa_of_nlt c7, fa_of_nlt c17⟩]; exact ⟨rfl, rfl⟩)
  · -- not taken 7
    refine at_aload_n dX7_isLetter_10 rfl ?_
    refine at_iload_n dX7_isLetter_11 rfl ?_
    refine at_cv1 cvX7_65 sd_2 (ev_X7_byteAt hR hT hk) (by decide) ⟨Nat.le_refl _, Nat.le_refl _⟩ (Nat.le_of_ble_eq_true rfl) dX7_isLetter_12 (pd_k1 ?_)
    refine at_bipush dX7_isLetter_15 pc_b122 ?_
    refine at_icmpgt (tgt := 24) dX7_isLetter_17 (by decide) (fun c17 => ?_) (fun c17 => ?_)
    · -- taken 17
      refine at_iconst dX7_isLetter_24 pc_i0 ?_
      refine at_zret rfl dX7_isLetter_25 (by first | exact Or.inl rfl | exact Or.inr rfl | assumption) ?_
      first | (rw [rg_a hb c7]; exact ⟨rfl, rfl⟩) | (rw [rg_b hb c17]; exact ⟨rfl, rfl⟩) | (rw [hb.mp ⟨fa_of_nlt c7, fa_of_nlt c17⟩]; exact ⟨rfl, rfl⟩)
    · -- not taken 17
      refine at_iconst dX7_isLetter_20 pc_i1 ?_
      refine at_goto (tgt := 25) dX7_isLetter_21 (by decide) ?_
      refine at_zret rfl dX7_isLetter_25 (by first | exact Or.inl rfl | exact Or.inr rfl | assumption) ?_
      first | (rw [rg_a hb c7]; exact ⟨rfl, rfl⟩) | (rw [rg_b hb c17]; exact ⟨rfl, rfl⟩) | (rw [hb.mp ⟨fa_of_nlt c7, fa_of_nlt c17⟩]; exact ⟨rfl, rfl⟩)
theorem ev_X7_isLetterN (hR : RS R) : pd_Ev G mi_X7_isLetter 2 0 0 [.ref (pd_z G + 2), .int (-1)] (SD, false, I, L, R) (pd_rt (.int (i_of false)) (SD, false, I, L, R)) := by
  refine pd_ev 0 (lo := [some (.ref (pd_z G + 2)), some (.int (-1))]) (by decide +kernel) (Nat.le_of_ble_eq_true rfl) rfl ?_
  refine at_aload_n dX7_isLetter_0 rfl ?_
  refine at_iload_n dX7_isLetter_1 rfl ?_
  refine at_cv1 cvX7_65 sd_2 (ev_X7_byteAtN) (by decide) ⟨Nat.le_refl _, Nat.le_refl _⟩ (Nat.le_of_ble_eq_true rfl) dX7_isLetter_2 (pd_k1 ?_)
  refine at_bipush dX7_isLetter_5 pc_b97 ?_
  refine at_icmplt (tgt := 24) dX7_isLetter_7 (by decide) (fun c7 => ?_) (fun c7 => ?_)
  · -- taken 7
    refine at_iconst dX7_isLetter_24 pc_i0 ?_
    refine at_zret rfl dX7_isLetter_25 (by first | exact Or.inl rfl | exact Or.inr rfl | assumption) ?_
    exact ⟨rfl, rfl⟩
  · -- not taken 7
    exact absurd (by decide) c7
theorem ev_X7_isDigit (hR : RS R) (hT : TB I B n) {k : Nat} (hk : k < 2 ^ 31) : pd_Ev G mi_X7_isDigit 2 0 0 [.ref (pd_z G + 2), .int (nI k)] (SD, false, I, L, R) (pd_rt (.int (i_of (isD B n k))) (SD, false, I, L, R)) := by
  have hb := cB_D hT k
  refine pd_ev 0 (lo := [some (.ref (pd_z G + 2)), some (.int (nI k))]) (by decide +kernel) (Nat.le_of_ble_eq_true rfl) rfl ?_
  refine at_aload_n dX7_isDigit_0 rfl ?_
  refine at_iload_n dX7_isDigit_1 rfl ?_
  refine at_cv1 cvX7_65 sd_2 (ev_X7_byteAt hR hT hk) (by decide) ⟨Nat.le_refl _, Nat.le_refl _⟩ (Nat.le_of_ble_eq_true rfl) dX7_isDigit_2 (pd_k1 ?_)
  refine at_bipush dX7_isDigit_5 pc_b48 ?_
  refine at_icmplt (tgt := 24) dX7_isDigit_7 (by decide) (fun c7 => ?_) (fun c7 => ?_)
  · -- taken 7
    refine at_iconst dX7_isDigit_24 pc_i0 ?_
    refine at_zret rfl dX7_isDigit_25 (by first | exact Or.inl rfl | exact Or.inr rfl | assumption) ?_
    first | (rw [rg_a hb c7]; exact ⟨rfl, rfl⟩) | (rw [rg_b hb c17]; exact ⟨rfl, rfl⟩) | (rw [hb.mp ⟨fa_of_nlt c7, fa_of_nlt c17⟩]; exact ⟨rfl, rfl⟩)
  · -- not taken 7
    refine at_aload_n dX7_isDigit_10 rfl ?_
    refine at_iload_n dX7_isDigit_11 rfl ?_
    refine at_cv1 cvX7_65 sd_2 (ev_X7_byteAt hR hT hk) (by decide) ⟨Nat.le_refl _, Nat.le_refl _⟩ (Nat.le_of_ble_eq_true rfl) dX7_isDigit_12 (pd_k1 ?_)
    refine at_bipush dX7_isDigit_15 pc_b57 ?_
    refine at_icmpgt (tgt := 24) dX7_isDigit_17 (by decide) (fun c17 => ?_) (fun c17 => ?_)
    · -- taken 17
      refine at_iconst dX7_isDigit_24 pc_i0 ?_
      refine at_zret rfl dX7_isDigit_25 (by first | exact Or.inl rfl | exact Or.inr rfl | assumption) ?_
      first | (rw [rg_a hb c7]; exact ⟨rfl, rfl⟩) | (rw [rg_b hb c17]; exact ⟨rfl, rfl⟩) | (rw [hb.mp ⟨fa_of_nlt c7, fa_of_nlt c17⟩]; exact ⟨rfl, rfl⟩)
    · -- not taken 17
      refine at_iconst dX7_isDigit_20 pc_i1 ?_
      refine at_goto (tgt := 25) dX7_isDigit_21 (by decide) ?_
      refine at_zret rfl dX7_isDigit_25 (by first | exact Or.inl rfl | exact Or.inr rfl | assumption) ?_
      first | (rw [rg_a hb c7]; exact ⟨rfl, rfl⟩) | (rw [rg_b hb c17]; exact ⟨rfl, rfl⟩) | (rw [hb.mp ⟨fa_of_nlt c7, fa_of_nlt c17⟩]; exact ⟨rfl, rfl⟩)
theorem ev_X7_isDigitN (hR : RS R) : pd_Ev G mi_X7_isDigit 2 0 0 [.ref (pd_z G + 2), .int (-1)] (SD, false, I, L, R) (pd_rt (.int (i_of false)) (SD, false, I, L, R)) := by
  refine pd_ev 0 (lo := [some (.ref (pd_z G + 2)), some (.int (-1))]) (by decide +kernel) (Nat.le_of_ble_eq_true rfl) rfl ?_
  refine at_aload_n dX7_isDigit_0 rfl ?_
  refine at_iload_n dX7_isDigit_1 rfl ?_
  refine at_cv1 cvX7_65 sd_2 (ev_X7_byteAtN) (by decide) ⟨Nat.le_refl _, Nat.le_refl _⟩ (Nat.le_of_ble_eq_true rfl) dX7_isDigit_2 (pd_k1 ?_)
  refine at_bipush dX7_isDigit_5 pc_b48 ?_
  refine at_icmplt (tgt := 24) dX7_isDigit_7 (by decide) (fun c7 => ?_) (fun c7 => ?_)
  · -- taken 7
    refine at_iconst dX7_isDigit_24 pc_i0 ?_
    refine at_zret rfl dX7_isDigit_25 (by first | exact Or.inl rfl | exact Or.inr rfl | assumption) ?_
    exact ⟨rfl, rfl⟩
  · -- not taken 7
    exact absurd (by decide) c7
theorem ev_X7_add (hR : RS R) {c : Nat} (hc : I 2 5 = nI c) (h6 : c ≤ 600) (x y z : Int32) : pd_Ev G mi_X7_add 1 0 0 [.ref (pd_z G + 2), .int x, .int y, .int z] (SD, false, I, L, R) (pd_rv (SD, false, pd_up (pd_up (pd_up (pd_up I 3 c x) 4 c y) 5 c z) 2 5 (nI (c + 1)), L, R)) := by
  have hcl : (nI c).toNatClampNeg = c := nI_clamp (by omega)
  refine pd_ev 0 (lo := [some (.ref (pd_z G + 2)), some (.int x), some (.int y), some (.int z)]) (by decide +kernel) (Nat.le_of_ble_eq_true rfl) rfl ?_
  refine at_aload_n dX7_add_0 rfl ?_
  refine at_geti flX7_41 rfl sd_2 dX7_add_1 ?_
  rw [hc]
  refine at_iflt (tgt := 17) dX7_add_4 (by decide) (fun c4 => ?_) (fun c4 => ?_)
  · -- taken 4
    exact absurd c4 (nI_pos (by omega))
  · -- not taken 4
    refine at_aload_n dX7_add_7 rfl ?_
    refine at_geti flX7_41 rfl sd_2 dX7_add_8 ?_
    refine at_sipush dX7_add_11 pc_s600 ?_
    rw [hc]
    refine at_icmple (tgt := 18) dX7_add_14 (by decide) (fun c14 => ?_) (fun c14 => ?_)
    · -- taken 14
      refine at_aload_n dX7_add_18 rfl ?_
      refine at_getr (3) flX7_9 rfl sd_2 (rs_2_0 hR) dX7_add_19 ?_
      refine at_aload_n dX7_add_22 rfl ?_
      refine at_geti flX7_41 rfl sd_2 dX7_add_23 ?_
      rw [hc]
      refine at_iload_n dX7_add_26 rfl ?_
      refine at_iast sd_3 (vp_in_nI (by omega) (by decide)) dX7_add_27 ?_
      refine at_aload_n dX7_add_28 rfl ?_
      refine at_getr (4) flX7_15 rfl sd_2 (rs_2_1 hR) dX7_add_29 ?_
      refine at_aload_n dX7_add_32 rfl ?_
      refine at_geti flX7_41 rfl sd_2 dX7_add_33 ?_
      rw [pd_up_nb (by decide), hc]
      refine at_iload_n dX7_add_36 rfl ?_
      refine at_iast sd_4 (vp_in_nI (by omega) (by decide)) dX7_add_37 ?_
      refine at_aload_n dX7_add_38 rfl ?_
      refine at_getr (5) flX7_18 rfl sd_2 (rs_2_2 hR) dX7_add_39 ?_
      refine at_aload_n dX7_add_42 rfl ?_
      refine at_geti flX7_41 rfl sd_2 dX7_add_43 ?_
      rw [pd_up_nb (by decide), pd_up_nb (by decide), hc]
      refine at_iload_n dX7_add_46 rfl ?_
      refine at_iast sd_5 (vp_in_nI (by omega) (by decide)) dX7_add_47 ?_
      refine at_aload_n dX7_add_48 rfl ?_
      refine at_dup dX7_add_49 rfl ?_
      refine at_geti flX7_41 rfl sd_2 dX7_add_50 ?_
      rw [pd_up_nb (by decide), pd_up_nb (by decide), pd_up_nb (by decide), hc, hcl]
      refine at_iconst dX7_add_53 pc_i1 ?_
      refine at_iadd dX7_add_54 ?_
      refine at_puti flX7_41 rfl sd_2 (fun _ _ _ hq => by cases hq; rfl) dX7_add_55 ?_
      refine at_vret rfl dX7_add_58 ?_
      exact ⟨rfl, by rw [nI_1]⟩
    · -- not taken 14
      exact absurd (nI_le (b := 600) h6 (by decide)) c14
/-- numbers -/
def nR (x : Int32) (c : Nat) : Prop := c ≤ 1000 ∧ (c < 1000 → x = nI c) ∧ (c = 1000 → ∃ y, 1000 ≤ y ∧ y < 2 ^ 31 ∧ x = nI y)
theorem dvF_1000 (B : Nat → Nat) : ∀ c p, dvF B c p 1000 = 1000
  | 0, _ => rfl
  | c + 1, p => by rw [dvF, show min 1000 (10 * 1000 + (B p - 48)) = 1000 by omega]; exact dvF_1000 B c (p + 1)
theorem dvF_le (B : Nat → Nat) : ∀ c p a, a ≤ 1000 → dvF B c p a ≤ 1000
  | 0, _, a, h => h
  | c + 1, p, a, h => dvF_le B c (p + 1) _ (Nat.min_le_left _ _)
theorem lp_X7_numberAt (hR : RS R) (hT : TB I B n) {q : Nat} (hq : q < n) : ∀ (k i : Nat), i + k = n → q ≤ i → ∀ a, (a < 1000 ∨ (1000 ≤ a ∧ a < 10000)) → pd_At G mi_X7_numberAt 3 0 0 0 0 4 [some (.ref (pd_z G + 2)), some (.int (nI q)), some (.int (nI a)), some (.int (nI i))] [] (SD, false, I, L, R) (fun o M' => M' = (SD, false, I, L, R) ∧ ∃ x, o = .inl (some (.int x)) ∧ nR x (dvF B (rnE (isD B n) n i - i) i (min 1000 a))) := by
  have h1 := hT.1
  have h6 := hT.2.1
  intro k
  induction k with
  | zero =>
    intro i hi hqi a ha
    have e0 : i = n := by omega
    subst e0
    have e1 : rnE (isD B i) i i - i = 0 := by rw [rnE_no (isD_n (Nat.le_refl _))]; omega
    refine at_iload_n dX7_numberAt_4 rfl ?_
    refine at_aload_n dX7_numberAt_5 rfl ?_
    refine at_geti flX7_37 rfl sd_2 dX7_numberAt_6 ?_
    rw [h1]
    refine at_icmpge (tgt := 47) dX7_numberAt_9 (by decide) (fun c9 => ?_) (fun c9 => ?_)
    · -- taken 9
      refine at_iload_n dX7_numberAt_47 rfl ?_
      refine at_iret rfl dX7_numberAt_48 ?_
      refine ⟨rfl, _, rfl, ?_⟩
      rw [e1]
      show nR (nI a) (min 1000 a)
      refine ⟨by omega, fun h => by rw [show min 1000 a = a by omega], fun h => ⟨a, by omega, by omega, rfl⟩⟩
    · -- not taken 9
      exact absurd (nI_le (Nat.le_refl _) (by omega)) c9
  | succ k ih =>
    intro i hi hqi a ha
    have stop : isD B n i = false ∨ 1000 ≤ a → nR (nI a) (dvF B (rnE (isD B n) n i - i) i (min 1000 a)) := by
      intro h
      rcases Nat.lt_or_ge a 1000 with h2 | h2
      · have hd : isD B n i = false := h.resolve_right (by omega)
        rw [rnE_no hd, Nat.sub_self]
        show nR (nI a) (min 1000 a)
        rw [show min 1000 a = a by omega]
        exact ⟨by omega, fun _ => rfl, fun h => by omega⟩
      · rw [show min 1000 a = 1000 by omega, dvF_1000]
        exact ⟨by omega, fun h => by omega, fun _ => ⟨a, h2, by omega, rfl⟩⟩
    refine at_iload_n dX7_numberAt_4 rfl ?_
    refine at_aload_n dX7_numberAt_5 rfl ?_
    refine at_geti flX7_37 rfl sd_2 dX7_numberAt_6 ?_
    rw [h1]
    refine at_icmpge (tgt := 47) dX7_numberAt_9 (by decide) (fun c9 => ?_) (fun c9 => ?_)
    · -- taken 9
      exact absurd c9 (nI_ge (by omega) (by omega))
    · -- not taken 9
      refine at_aload_n dX7_numberAt_12 rfl ?_
      refine at_iload_n dX7_numberAt_13 rfl ?_
      refine at_cv1 cvX7_59 sd_2 (ev_X7_isDigit hR hT (by omega)) (by decide) ⟨Nat.le_refl _, Nat.le_refl _⟩ (Nat.le_of_ble_eq_true rfl) dX7_numberAt_14 (pd_k1 ?_)
      refine at_ifeq (tgt := 47) dX7_numberAt_17 (by decide) (fun c17 => ?_) (fun c17 => ?_)
      · -- taken 17
        refine at_iload_n dX7_numberAt_47 rfl ?_
        refine at_iret rfl dX7_numberAt_48 ?_
        refine ⟨rfl, _, rfl, ?_⟩
        first | exact stop (Or.inl (i_of0.mp c17)) | exact stop (Or.inr c24)
      · -- not taken 17
        have hd := i_of1.mp c17
        obtain ⟨d1, d2, d3⟩ := isD_b hd
        have eB : cB B n i = nI (B i) := by rw [cB, if_pos d1, sb_lo (by omega)]
        refine at_iload_n dX7_numberAt_20 rfl ?_
        refine at_sipush dX7_numberAt_21 pc_s1000 ?_
        refine at_icmpge (tgt := 47) dX7_numberAt_24 (by decide) (fun c24 => ?_) (fun c24 => ?_)
        · -- taken 24
          rw [show (1000 : Int32) = nI 1000 from rfl, nI_leI (by decide) (by omega)] at c24
          refine at_iload_n dX7_numberAt_47 rfl ?_
          refine at_iret rfl dX7_numberAt_48 ?_
          refine ⟨rfl, _, rfl, ?_⟩
          first | exact stop (Or.inl (i_of0.mp c17)) | exact stop (Or.inr c24)
        · -- not taken 24
          rw [show (1000 : Int32) = nI 1000 from rfl, nI_leI (by decide) (by omega)] at c24
          refine at_iload_n dX7_numberAt_27 rfl ?_
          refine at_bipush dX7_numberAt_28 pc_b10 ?_
          refine at_imul dX7_numberAt_30 ?_
          refine at_aload_n dX7_numberAt_31 rfl ?_
          refine at_iload_n dX7_numberAt_32 rfl ?_
          refine at_cv1 cvX7_65 sd_2 (ev_X7_byteAt hR hT (by omega)) (by decide) ⟨Nat.le_refl _, Nat.le_refl _⟩ (Nat.le_of_ble_eq_true rfl) dX7_numberAt_33 (pd_k1 ?_)
          refine at_iadd dX7_numberAt_36 ?_
          refine at_bipush dX7_numberAt_37 pc_b48 ?_
          rw [eB]
          refine at_isub dX7_numberAt_39 ?_
          rw [show (10 : Int32) = nI 10 from rfl, show (48 : Int32) = nI 48 from rfl, pk_mul, nI_add, pk_sub (by omega), show a * 10 + B i - 48 = 10 * a + (B i - 48) by omega]
          refine at_istore_n dX7_numberAt_40 rfl (Nat.le_of_ble_eq_true rfl) ?_
          refine at_inc dX7_numberAt_41 rfl pc_i1 rfl (Nat.le_of_ble_eq_true rfl) ?_
          refine at_goto (tgt := 4) dX7_numberAt_44 (by decide) ?_
          rw [nI_1]
          have h9 := ih (i + 1) (by omega) (by omega) (10 * a + (B i - 48)) (by omega)
          have e9 : dvF B (rnE (isD B n) n i - i) i (min 1000 a) = dvF B (rnE (isD B n) n (i + 1) - (i + 1)) (i + 1) (min 1000 (10 * a + (B i - 48))) := by
            have hge := rnE_ge (isD B n) n (i + 1)
            rw [rnE_yes (by omega) hd, show rnE (isD B n) n (i + 1) - i = (rnE (isD B n) n (i + 1) - (i + 1)) + 1 by omega, dvF, show min 1000 a = a by omega]
          rw [e9]; exact h9
theorem ev_X7_numberAt (hR : RS R) (hT : TB I B n) {q : Nat} (hq : q < n) : pd_Ev G mi_X7_numberAt 3 0 0 [.ref (pd_z G + 2), .int (nI q)] (SD, false, I, L, R) (fun o M' => M' = (SD, false, I, L, R) ∧ ∃ x, o = .inl (some (.int x)) ∧ nR x (tkN B n q)) := by
  have h6 := hT.2.1
  refine pd_ev 2 (lo := [some (.ref (pd_z G + 2)), some (.int (nI q)), none, none]) (by decide +kernel) (Nat.le_of_ble_eq_true rfl) rfl ?_
  refine at_iconst dX7_numberAt_0 pc_i0 ?_
  refine at_istore_n dX7_numberAt_1 rfl (Nat.le_of_ble_eq_true rfl) ?_
  refine at_iload_n dX7_numberAt_2 rfl ?_
  refine at_istore_n dX7_numberAt_3 rfl (Nat.le_of_ble_eq_true rfl) ?_
  exact lp_X7_numberAt (G := G) (L := L) hR hT hq (n - q) q (by omega) (Nat.le_refl _) 0 (by omega)
end TOK
