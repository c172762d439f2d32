/-! ===== one thing told ===== -/
abbrev LSt : Type := Nat × Nat × RW
def vtR (r : Nat → Int32) (nv : Nat) (nm : List Nat) (s d : Nat) : Nat → Int32 := upd (upd (upd (upd r (9 + 3 * nv) (nI (n27 0 nm))) (10 + 3 * nv) (nI s)) (11 + 3 * nv) (nI d)) 0 (nI (nv + 1))
def shR (r : Nat → Int32) (ns : Nat) : Nat → Int32 := upd r 1 (nI (ns + 1))
def lnR (r : Nat → Int32) (ns nl : Nat) (nm : List Nat) (s d : Nat) : Nat → Int32 := upd (upd (upd (upd (upd r (65 + 4 * nl) (nI (n27 0 nm))) (66 + 4 * nl) (nI s)) (67 + 4 * nl) (nI (ns - 1))) (68 + 4 * nl) (nI d)) 2 (nI (nl + 1))
def gdR (r : Nat → Int32) (e : List rl_S) : Nat → Int32 := fun k => if k = 8 then 1 else if 305 ≤ k ∧ k < 305 + (rl_ks e).length then (rl_ks e).getD (k - 305) 0 else r k
def pDup (r : Nat → Int32) (nv : Nat) (nm : List Nat) (s : Nat) : Bool := !decide (i_find (fun v => decide (r (9 + 3 * v) = nI (n27 0 nm)) && decide (r (10 + 3 * v) = nI s)) nv = -1)
def pVoter (T : TS) (i m : Nat) (w : RW) : LSt ⊕ (Nat × Nat) := if 16 ≤ w.2.1 then .inr (4, T.2.2.2 i) else match pName T (i + 1) with
  | .inr z => .inr z
  | .inl nm => match pNum T (i + 2) 0 99 with
    | .inr z => .inr z
    | .inl s => if pDup w.1 w.2.1 nm s = true then .inr (3, T.2.2.2 (i + 1)) else match pNum T (i + 3) 0 999 with
      | .inr z => .inr z
      | .inl d => .inl (i + 4, m, vtR w.1 w.2.1 nm s d, w.2.1 + 1, w.2.2)
def pSheet (T : TS) (i m : Nat) (w : RW) : LSt ⊕ (Nat × Nat) := if 8 ≤ w.2.2.1 then .inr (4, T.2.2.2 i) else .inl (i + 1, m, shR w.1 w.2.2.1, w.2.1, w.2.2.1 + 1, w.2.2.2)
def pSign (T : TS) (i m : Nat) (w : RW) : LSt ⊕ (Nat × Nat) := if w.2.2.1 = 0 then .inr (1, T.2.2.2 i) else if 40 ≤ w.2.2.2.1 then .inr (4, T.2.2.2 i) else match pName T (i + 1) with
  | .inr z => .inr z
  | .inl nm => match pNum T (i + 2) 0 99 with
    | .inr z => .inr z
    | .inl s => match pNum T (i + 3) 0 999 with
      | .inr z => .inr z
      | .inl d => .inl (i + 4, m, lnR w.1 w.2.2.1 w.2.2.2.1 nm s d, w.2.1, w.2.2.1, w.2.2.2.1 + 1, w.2.2.2.2)
def pOne (T : TS) (i m : Nat) (w : RW) (k lo hi : Nat) : LSt ⊕ (Nat × Nat) := if m.testBit (T.1 i) = true then .inr (1, T.2.2.2 i) else match pNum T (i + 1) lo hi with
  | .inr z => .inr z
  | .inl v => .inl (i + 2, m ||| 2 ^ T.1 i, upd w.1 k (nI v), w.2)
def pSpan (T : TS) (i m : Nat) (w : RW) : LSt ⊕ (Nat × Nat) := if m.testBit (T.1 i) = true then .inr (1, T.2.2.2 i) else match pNum T (i + 1) 0 999 with
  | .inr z => .inr z
  | .inl v => match pNum T (i + 2) v 999 with
    | .inr z => .inr z
    | .inl u => .inl (i + 3, m ||| 2 ^ T.1 i, upd (upd w.1 4 (nI v)) 5 (nI u), w.2)
def pGood (T : TS) (f i m : Nat) (w : RW) : Option (LSt ⊕ (Nat × Nat)) := if m.testBit (T.1 i) = true then some (.inr (1, T.2.2.2 i)) else match pP T f 2 0 (i + 1) [] with
  | none => none
  | some (.inr z) => some (.inr z)
  | some (.inl z) => some (.inl (z.1, m ||| 2 ^ T.1 i, gdR w.1 z.2, w.2.1, w.2.2.1, w.2.2.2.1, z.2))
def pTold (T : TS) (f i m : Nat) (w : RW) : Option (LSt ⊕ (Nat × Nat)) :=
  if T.1 i = 1 then some (pVoter T i m w) else if T.1 i = 2 then some (pSheet T i m w) else if T.1 i = 3 then some (pSign T i m w) else if T.1 i = 4 then some (pOne T i m w 3 0 40) else if T.1 i = 5 then some (pSpan T i m w) else if T.1 i = 6 then some (pOne T i m w 6 0 100) else if T.1 i = 7 then some (pOne T i m w 7 1 499) else if T.1 i = 8 then pGood T f i m w else some (.inr (1, T.2.2.2 i))
/-- with its end -/
def pLine (T : TS) (f i m : Nat) (w : RW) : Option (LSt ⊕ (Nat × Nat)) := match pTold T f i m w with
  | none => none
  | some (.inr z) => some (.inr z)
  | some (.inl z) => if T.1 z.1 = 59 then some (.inl (z.1 + 1, z.2)) else some (.inr (1, T.2.2.2 z.1))
/-- all of it -/
def pText (T : TS) (f : Nat) : Nat → Nat → Nat → RW → Option (RW ⊕ (Nat × Nat))
  | 0, _, _, _ => none
  | g + 1, i, m, w => if T.1 i = 0 then some (.inl w) else match pLine T f i m w with
    | none => none
    | some (.inr z) => some (.inr z)
    | some (.inl z) => pText T f g z.1 z.2.1 z.2.2
/-- what holds of what was told so far -/
def LJ (m : Nat) (r : Nat → Int32) (nv ns nl : Nat) (e : List rl_S) : Prop := Row r nv ns nl e ∧ m < 512 ∧ (m.testBit 8 = false → e = [] ∧ ∀ k, 305 ≤ k → k < 1105 → r k = 0) ∧ (∀ s, s < 8 → r (57 + s) = 0) ∧ ∀ k, 225 ≤ k → k < 305 → r k = 0
def LI (m : Nat) (w : RW) : Prop := LJ m w.1 w.2.1 w.2.2.1 w.2.2.2.1 w.2.2.2.2
theorem pNum_ok {T : TS} {i lo hi a : Nat} (h : pNum T i lo hi = .inl a) : T.1 i = 18 ∧ lo ≤ a ∧ a ≤ hi ∧ a = T.2.1 i := by
  unfold pNum at h
  split at h
  · split at h
    · rename_i h1 h2
      cases h; exact ⟨h1, h2.1, h2.2, rfl⟩
    · cases h
  · cases h
theorem pName_ok {T : TS} {i : Nat} {w : List Nat} (h : pName T i = .inl w) : (1 ≤ T.1 i ∧ T.1 i ≤ 17) ∧ w = T.2.2.1 i ∧ w.length ≤ 5 := by
  unfold pName at h
  split at h
  · rename_i h1
    cases h; exact ⟨h1.1, rfl, h1.2⟩
  · cases h
section LINE
variable {T : TS} {N i m m' i' nv ns nl : Nat} {r : Nat → Int32} {e : List rl_S}
theorem or_bit {k : Nat} : (m ||| 2 ^ k).testBit 8 = (m.testBit 8 || decide (k = 8)) := by rw [Nat.testBit_or, Nat.testBit_two_pow]
theorem or_lt {k : Nat} (h : m < 512) (hk : k < 9) : m ||| 2 ^ k < 512 := Nat.or_lt_two_pow (n := 9) h (Nat.pow_lt_pow_right (by decide) hk)
/-- values of the row outside a few places -/
theorem Row.few {r r' : Nat → Int32} {nv ns nl : Nat} {e : List rl_S} (hr : Row r nv ns nl e) (h : ∀ k, (k < 3 ∨ 8 ≤ k) → r' k = r k) (h3 : ∃ n, n ≤ 40 ∧ r' 3 = nI n) (h7 : ∃ a, 1 ≤ a ∧ a ≤ 499 ∧ r' 7 = nI a) : Row r' nv ns nl e := by
  obtain ⟨a1, a2, a3, a4, a5, a6, a7, a8, a9, a10, a11, a12, a13, a14, a15, a16⟩ := hr
  refine ⟨by rw [h 0 (by omega)]; exact a1, by rw [h 1 (by omega)]; exact a2, by rw [h 2 (by omega)]; exact a3, h3, h7, fun l hl => ?_, fun l hl => ?_, fun s hs => by rw [h _ (by omega)]; exact a8 s hs, fun s h1 h2 => by rw [h _ (by omega)]; exact a9 s h1 h2, fun k hk => by rw [h _ (by omega)]; exact a10 k hk, fun u l h1 h2 h3 => by rw [h _ (by omega)]; exact a11 u l h1 h2 h3, by rw [h 8 (by omega)]; exact a12, fun j x hj => by rw [h _ (by omega)]; exact a13 j x hj, by rw [h _ (by omega)]; exact a14, a15, a16⟩
  · unfold rSh; rw [h _ (by omega)]; exact a6 l hl
  · unfold rSh; rw [h _ (by omega), h _ (by omega)]; exact a7 l hl
theorem LJ.few {k : Nat} {v : Nat} (h : LJ m r nv ns nl e) (hk : 3 ≤ k ∧ k ≤ 7) (h3 : k = 3 → v ≤ 40) (h7 : k = 7 → 1 ≤ v ∧ v ≤ 499) (hm : m' < 512) (hb : m'.testBit 8 = m.testBit 8) : LJ m' (upd r k (nI v)) nv ns nl e := by
  obtain ⟨h1, h2, h4, h5, h6⟩ := h
  have o : ∀ j, j ≠ k → upd r k (nI v) j = r j := fun j hj => pk_un hj
  refine ⟨Row.few h1 (fun j hj => o j (by omega)) ?_ ?_, hm, fun q => ⟨(h4 (hb ▸ q)).1, fun j h1 h2 => (o j (by omega)).trans ((h4 (hb ▸ q)).2 j h1 h2)⟩, fun s hs => (o _ (by omega)).trans (h5 s hs), fun j h1 h2 => (o _ (by omega)).trans (h6 j h1 h2)⟩
  · by_cases hq : k = 3
    · subst hq; exact ⟨v, h3 rfl, pk_us⟩
    · rw [show upd r k (nI v) 3 = r 3 from o 3 (by omega)]; exact h1.2.2.2.1
  · by_cases hq : k = 7
    · subst hq; exact ⟨v, (h7 rfl).1, (h7 rfl).2, pk_us⟩
    · rw [show upd r k (nI v) 7 = r 7 from o 7 (by omega)]; exact h1.2.2.2.2.1
theorem LJ.voter {nm : List Nat} {s d : Nat} (h : LJ m r nv ns nl e) (hv : nv < 16) : LJ m (vtR r nv nm s d) (nv + 1) ns nl e := by
  obtain ⟨h1, h2, h4, h5, h6⟩ := h
  have o : ∀ j, j ≠ 0 → (j < 9 ∨ 57 ≤ j) → vtR r nv nm s d j = r j := fun j h0 hj => by
    unfold vtR; rw [pk_un h0, pk_un (by omega), pk_un (by omega), pk_un (by omega)]
  obtain ⟨a1, a2, a3, a4, a5, a6, a7, a8, a9, a10, a11, a12, a13, a14, a15, a16⟩ := h1
  refine ⟨⟨⟨pk_us, hv⟩, by rw [o 1 (by omega) (by omega)]; exact a2, by rw [o 2 (by omega) (by omega)]; exact a3, by rw [o 3 (by omega) (by omega)]; exact a4, by rw [o 7 (by omega) (by omega)]; exact a5, fun l hl => ?_, fun l hl => ?_, fun s hs => by rw [o _ (by omega) (by omega)]; exact a8 s hs, fun s h1 h2 => by rw [o _ (by omega) (by omega)]; exact a9 s h1 h2, fun k hk => by rw [o _ (by omega) (by omega)]; exact a10 k hk, fun u l h1 h2 h3 => by rw [o _ (by omega) (by omega)]; exact a11 u l h1 h2 h3, by rw [o 8 (by omega) (by omega)]; exact a12, fun j x hj => by rw [o _ (by omega) (by omega)]; exact a13 j x hj, by rw [o _ (by omega) (by omega)]; exact a14, a15, a16⟩, h2, fun q => ⟨(h4 q).1, fun j h1 h2 => (o j (by omega) (by omega)).trans ((h4 q).2 j h1 h2)⟩, fun s hs => (o _ (by omega) (by omega)).trans (h5 s hs), fun j h1 h2 => (o _ (by omega) (by omega)).trans (h6 j h1 h2)⟩
  · unfold rSh; rw [o _ (by omega) (by omega)]; exact a6 l hl
  · unfold rSh; rw [o _ (by omega) (by omega), o _ (by omega) (by omega)]; exact a7 l hl
theorem LJ.sheet (h : LJ m r nv ns nl e) (hv : ns < 8) : LJ m (shR r ns) nv (ns + 1) nl e := by
  obtain ⟨h1, h2, h4, h5, h6⟩ := h
  have o : ∀ j, j ≠ 1 → shR r ns j = r j := fun j h0 => pk_un h0
  obtain ⟨a1, a2, a3, a4, a5, a6, a7, a8, a9, a10, a11, a12, a13, a14, a15, a16⟩ := h1
  refine ⟨⟨by rw [o 0 (by omega)]; exact a1, ⟨pk_us, hv⟩, by rw [o 2 (by omega)]; exact a3, by rw [o 3 (by omega)]; exact a4, by rw [o 7 (by omega)]; exact a5, fun l hl => ?_, fun l hl => ?_, fun s hs => by rw [o _ (by omega)]; exact a8 s hs, fun s h1 h2 => by rw [o _ (by omega)]; exact h5 s h2, fun k hk => by rw [o _ (by omega)]; exact a10 k hk, fun u l h1 h2 h3 => by rw [o _ (by omega)]; exact a11 u l h1 h2 h3, by rw [o 8 (by omega)]; exact a12, fun j x hj => by rw [o _ (by omega)]; exact a13 j x hj, by rw [o _ (by omega)]; exact a14, a15, a16⟩, h2, fun q => ⟨(h4 q).1, fun j h1 h2 => (o j (by omega)).trans ((h4 q).2 j h1 h2)⟩, fun s hs => (o _ (by omega)).trans (h5 s hs), fun j h1 h2 => (o _ (by omega)).trans (h6 j h1 h2)⟩
  · unfold rSh; rw [o _ (by omega)]
    obtain ⟨t, ht, h9⟩ := a6 l hl
    exact ⟨t, by omega, h9⟩
  · unfold rSh; rw [o _ (by omega), o _ (by omega)]; exact a7 l hl
theorem LJ.sign {nm : List Nat} {s d : Nat} (h : LJ m r nv ns nl e) (hs : ns ≠ 0) (hv : nl < 40) : LJ m (lnR r ns nl nm s d) nv ns (nl + 1) e := by
  obtain ⟨h1, h2, h4, h5, h6⟩ := h
  have o : ∀ j, j ≠ 2 → (j < 65 + 4 * nl ∨ 69 + 4 * nl ≤ j) → lnR r ns nl nm s d j = r j := fun j h0 hj => by
    unfold lnR; rw [pk_un h0, pk_un (by omega), pk_un (by omega), pk_un (by omega), pk_un (by omega)]
  have oS : lnR r ns nl nm s d (67 + 4 * nl) = nI (ns - 1) := by
    unfold lnR; rw [pk_un (by omega), pk_un (by omega), pk_us]
  obtain ⟨a1, a2, a3, a4, a5, a6, a7, a8, a9, a10, a11, a12, a13, a14, a15, a16⟩ := h1
  have hns := a2.2
  refine ⟨⟨by rw [o 0 (by omega) (by omega)]; exact a1, by rw [o 1 (by omega) (by omega)]; exact a2, ⟨pk_us, hv⟩, by rw [o 3 (by omega) (by omega)]; exact a4, by rw [o 7 (by omega) (by omega)]; exact a5, fun l hl => ?_, fun l hl => ?_, fun s hs => by rw [o _ (by omega) (by omega)]; exact a8 s hs, fun s h1 h2 => by rw [o _ (by omega) (by omega)]; exact a9 s h1 h2, fun k hk => by rw [o _ (by omega) (by omega)]; exact a10 k hk, fun u l h1 h2 h3 => by rw [o _ (by omega) (by omega)]; exact a11 u l h1 (by omega) h3, by rw [o 8 (by omega) (by omega)]; exact a12, fun j x hj => by rw [o _ (by omega) (by omega)]; exact a13 j x hj, by rw [o _ (by omega) (by omega)]; exact a14, a15, a16⟩, h2, fun q => ⟨(h4 q).1, fun j h1 h2 => (o j (by omega) (by omega)).trans ((h4 q).2 j h1 h2)⟩, fun s hs => (o _ (by omega) (by omega)).trans (h5 s hs), fun j h1 h2 => (o _ (by omega) (by omega)).trans (h6 j h1 h2)⟩
  · unfold rSh
    by_cases hq : l = nl
    · subst hq; rw [oS]; exact ⟨ns - 1, by omega, rfl⟩
    · rw [o _ (by omega) (by omega)]; exact a6 l (by omega)
  · unfold rSh
    by_cases hq : l + 1 = nl
    · rw [hq, oS, o _ (by omega) (by omega)]
      obtain ⟨t, ht, h9⟩ := a6 l (by omega)
      show rSh r l ≤ _
      rw [h9]; exact nI_le (by omega) (by omega)
    · rw [o _ (by omega) (by omega), o _ (by omega) (by omega)]; exact a7 l (by omega)
theorem LJ.good {e' : List rl_S} (h : LJ m r nv ns nl e) (h8 : m.testBit 8 = false) (hl : (rl_ks e').length < 800) (hok : rl_ok e' 0) (hm : m' < 512) (hb : m'.testBit 8 = true) : LJ m' (gdR r e') nv ns nl e' := by
  obtain ⟨h1, h2, h4, h5, h6⟩ := h
  have o : ∀ j, j ≠ 8 → j < 305 → gdR r e' j = r j := fun j h0 hj => by
    unfold gdR; rw [if_neg h0, if_neg (by omega)]
  obtain ⟨a1, a2, a3, a4, a5, a6, a7, a8, a9, a10, a11, a12, a13, a14, a15, a16⟩ := h1
  have he : e' ≠ [] := fun q => by rw [q] at hok; exact absurd hok (by show ¬ (0 = 1); decide)
  refine ⟨⟨by rw [o 0 (by omega) (by omega)]; exact a1, by rw [o 1 (by omega) (by omega)]; exact a2, by rw [o 2 (by omega) (by omega)]; exact a3, by rw [o 3 (by omega) (by omega)]; exact a4, by rw [o 7 (by omega) (by omega)]; exact a5, fun l hl => ?_, fun l hl => ?_, fun s hs => by rw [o _ (by omega) (by omega)]; exact a8 s hs, fun s h1 h2 => by rw [o _ (by omega) (by omega)]; exact a9 s h1 h2, fun k hk => by rw [o _ (by omega) (by omega)]; exact a10 k hk, fun u l h1 h2 h3 => by rw [o _ (by omega) (by omega)]; exact a11 u l h1 h2 h3, ?_, fun j x hj => ?_, ?_, hl, Or.inr hok⟩, hm, fun q => (by rw [hb] at q; cases q), fun s hs => (o _ (by omega) (by omega)).trans (h5 s hs), fun j h1 h2 => (o _ (by omega) (by omega)).trans (h6 j h1 h2)⟩
  · have h40 := a3.2
    unfold rSh; rw [o _ (by omega) (by omega)]; exact a6 l hl
  · have h40 := a3.2
    unfold rSh; rw [o _ (by omega) (by omega), o _ (by omega) (by omega)]; exact a7 l hl
  · show gdR r e' 8 = if e' = [] then 0 else 1
    rw [if_neg he, gdR, if_pos rfl]
  · have hj2 := (List.getElem?_eq_some_iff.mp hj).1
    show gdR r e' (305 + j) = x
    unfold gdR
    rw [if_neg (by omega), if_pos (by omega), show 305 + j - 305 = j by omega, List.getD_eq_getElem?_getD]
    rw [hj]; rfl
  · show gdR r e' (305 + (rl_ks e').length) = 0
    unfold gdR
    rw [if_neg (by omega), if_neg (by omega)]
    exact (h4 h8).2 _ (by omega) (by omega)
end LINE
