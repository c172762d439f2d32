/-! ===== class and reference side by side ===== -/
section SM
variable {I I1 I2 : Nat → Nat → Int32} {L L1 L2 : Nat → Nat → Int64} {R R1 : Nat → Nat → Option Nat} {w w' : RW} {a a' t t' : Nat} {ps ps' : Nat → RW} {B B' : Nat → Nat} {v : Int64}
def SM (I : Nat → Nat → Int32) (L : Nat → Nat → Int64) (R : Nat → Nat → Option Nat) (w : RW) (a : Nat) (ps : Nat → RW) (B : Nat → Nat) (t : Nat) : Prop := CW I L R w a ps ∧ TP I B t ∧ RQ I 122 w.1 ∧ MP I a ps ∧ MT I B t ∧ I 0 7 = I 119 5 ∧ I 0 8 = I 120 0 ∧ I 0 9 = I 120 1 ∧ I 0 10 = I 120 2
theorem CW.fr2 (h : CW I L R w a ps) (h5 : I1 0 5 = I 0 5) (hI : ∀ x, 18 ≤ x → x < 119 → x ≠ 21 → ∀ j, I1 x j = I x j) (hL : ∀ x, 18 ≤ x → x < 119 → x ≠ 27 → ∀ j, L1 x j = L x j) : CW I1 L1 R w a ps := by
  obtain ⟨cn, cp, hN, hA⟩ := h
  obtain ⟨hR, hcn, hnow, hr, hp, hj, hT⟩ := hN
  have hi := PB.hi2 hcn hA.1.2.2.1
  refine ⟨cn, cp, ⟨hR, hcn, hnow, hr, PetRel.fr hp (fun x h1 h2 j => hI x (by omega) (by omega) (by omega) j) (fun j => hL cn (by omega) (by omega) (by omega) j), ⟨hj.1.fr (hI 18 (by omega) (by omega) (by omega)) (hI 19 (by omega) (by omega) (by omega)) (hI 24 (by omega) (by omega) (by omega)), fun l hl => by rw [hI 20 (by omega) (by omega) (by omega)]; exact hj.2.1 l hl, by rw [hI 18 (by omega) (by omega) (by omega)]; exact hj.2.2.1, fun s hs => by rw [hI 22 (by omega) (by omega) (by omega)]; exact hj.2.2.2 s hs⟩, fun n k hn hk => by rw [hL 26 (by omega) (by omega) (by omega)]; exact hT n k hn hk⟩, ?_⟩
  refine ⟨hA.1, hA.2.1, hA.2.2.1, by rw [h5]; exact hA.2.2.2.1, hA.2.2.2.2.1, fun i hi2 => ⟨(hA.2.2.2.2.2 i hi2).1, ?_⟩⟩
  obtain ⟨q1, q2, q3, q4⟩ := hA.2.1 i (by have := hA.2.2.2.2.1; omega)
  have hh := PB.hi2 q2 q3
  exact RwP.fr (hA.2.2.2.2.2 i hi2).2 (fun x h1 h2 j => hI x (by omega) (by omega) (by omega) j) (fun j => hL _ (by omega) (by omega) (by omega) j)
theorem CW.rs (h : CW I L R w a ps) : RS R := by obtain ⟨cn, cp, hN, -⟩ := h; exact hN.1
theorem CW.row (h : CW I L R w a ps) : RwOk w := by obtain ⟨cn, cp, hN, -⟩ := h; exact hN.2.2.2.1
theorem CW.names (h : CW I L R w a ps) : ∀ v, v < w.2.1 → ∃ u, WOK u ∧ w.1 (9 + 3 * v) = nI (n27 0 u) := by
  obtain ⟨cn, cp, hN, -⟩ := h
  intro v hv
  obtain ⟨u, u1, u2, u3, u4, u5⟩ := (hN.2.2.2.2.1.2.1 v hv).1
  exact ⟨u, ⟨u1, u2, u3⟩, u5⟩
theorem TP.fr (h : TP I B t) (h1 : I1 6 1 = I 6 1) (h2 : ∀ j, I1 7 j = I 7 j) : TP I1 B t := ⟨h1.trans h.1, h.2.1, fun k hk => ⟨(h.2.2 k hk).1, (h2 k).trans (h.2.2 k hk).2⟩⟩
theorem MT.fr (h : MT I B t) (h1 : I1 119 2 = I 119 2) (h2 : ∀ j, I1 121 j = I 121 j) : MT I1 B t := ⟨h1.trans h.1, h.2.1, fun k hk => ⟨(h.2.2 k hk).1, (h2 k).trans (h.2.2 k hk).2⟩⟩
/-- a question of the class -/
theorem SM.cq (h : SM I L R w a ps B t) (hk : KS I L R I1 L1 R1) : SM I1 (pd_up L1 137 0 v) R1 w a ps B t := by
  obtain ⟨h1, h2, h3, h4, h5, h6, h7, h8, h9⟩ := h
  obtain ⟨k1, k2, rfl⟩ := hk
  exact ⟨h1.fr2 (k1 _ (by decide) _) (fun x _ _ q j => k1 x q j) (fun x _ q2 q j => by rw [pd_up_nb (by omega)]; exact k2 x q j), h2.fr (k1 _ (by decide) _) (k1 _ (by decide)), fun k hk => (k1 _ (by decide) _).trans (h3 k hk), h4.fr (k1 _ (by decide) _) (fun x j q _ => k1 x (by omega) j), h5.fr (k1 _ (by decide) _) (k1 _ (by decide)), by rw [k1 _ (by decide), k1 _ (by decide)]; exact h6, by rw [k1 _ (by decide), k1 _ (by decide)]; exact h7, by rw [k1 _ (by decide), k1 _ (by decide)]; exact h8, by rw [k1 _ (by decide), k1 _ (by decide)]; exact h9⟩
theorem SM.cq0 (h : SM I L R w a ps B t) (hk : KS I L R I1 L1 R1) : SM I1 L1 R1 w a ps B t := by
  obtain ⟨h1, h2, h3, h4, h5, h6, h7, h8, h9⟩ := h
  obtain ⟨k1, k2, rfl⟩ := hk
  exact ⟨h1.fr2 (k1 _ (by decide) _) (fun x _ _ q j => k1 x q j) (fun x _ q2 q j => k2 x q j), h2.fr (k1 _ (by decide) _) (k1 _ (by decide)), fun k hk => (k1 _ (by decide) _).trans (h3 k hk), h4.fr (k1 _ (by decide) _) (fun x j q _ => k1 x (by omega) j), h5.fr (k1 _ (by decide) _) (k1 _ (by decide)), by rw [k1 _ (by decide), k1 _ (by decide)]; exact h6, by rw [k1 _ (by decide), k1 _ (by decide)]; exact h7, by rw [k1 _ (by decide), k1 _ (by decide)]; exact h8, by rw [k1 _ (by decide), k1 _ (by decide)]; exact h9⟩
/-- a question of the reference -/
theorem SM.rq (h : SM I L R w a ps B t) (hk : QK I L I1 L1) : SM I1 L1 R w a ps B t := by
  obtain ⟨h1, h2, h3, h4, h5, h6, h7, h8, h9⟩ := h
  obtain ⟨k1, k2⟩ := hk
  have lo : ∀ x, x < 119 → ∀ j, I1 x j = I x j := fun x hx j => k1 x j (by omega) (by omega) (by omega) (by omega)
  have mi : ∀ x, 120 ≤ x → x < 133 → ∀ j, I1 x j = I x j := fun x h1 h2 j => k1 x j (by omega) (by omega) (by omega) (by omega)
  have fi : ∀ j, j ≠ 0 → j ≠ 19 → I1 119 j = I 119 j := fun j h1 h2 => k1 119 j (by decide) (by decide) (by decide) (by omega)
  exact ⟨h1.fr2 (lo _ (by decide) _) (fun x _ q _ j => lo x q j) (fun x _ q2 q j => k2 x (by omega) j), h2.fr (lo _ (by decide) _) (lo _ (by decide)), fun k hk => (mi _ (by decide) (by decide) _).trans (h3 k hk), h4.fr (fi _ (by decide) (by decide)) (fun x j q q2 => mi x (by omega) (by omega) j), h5.fr (fi _ (by decide) (by decide)) (mi _ (by decide) (by decide)), by rw [lo _ (by decide), fi _ (by decide) (by decide)]; exact h6, by rw [lo _ (by decide), mi _ (by decide) (by decide)]; exact h7, by rw [lo _ (by decide), mi _ (by decide) (by decide)]; exact h8, by rw [lo _ (by decide), mi _ (by decide) (by decide)]; exact h9⟩
/-- both refuse -/
theorem SM.no (h : SM I L R w a ps B t) {j c : Nat} (hj : j = 8 ∨ j = 9 ∨ j = 10) : SM (m_no (pd_up (pd_up I 0 j (I 0 j + 1)) 119 0 0) c (j - 8)) L R w a ps B t := by
  obtain ⟨h1, h2, h3, h4, h5, h6, h7, h8, h9⟩ := h
  have o : ∀ x k, ¬ (x = 0 ∧ k = j) → ¬ (x = 119 ∧ k = 0) → ¬ (x = 120 ∧ k = j - 8) → m_no (pd_up (pd_up I 0 j (I 0 j + 1)) 119 0 0) c (j - 8) x k = I x k := fun x k q1 q2 q3 => by
    unfold m_no pd_up; rw [if_neg q3, if_neg q2, if_neg q2, if_neg q1]
  have e0 : m_no (pd_up (pd_up I 0 j (I 0 j + 1)) 119 0 0) c (j - 8) 0 j = I 0 j + 1 := by
    unfold m_no; rw [pd_up_nb (by decide), pd_up_nb (by decide), pd_up_nb (by decide), pd_up_at]
  have e1 : m_no (pd_up (pd_up I 0 j (I 0 j + 1)) 119 0 0) c (j - 8) 120 (j - 8) = I 120 (j - 8) + 1 := by
    unfold m_no; rw [pd_up_at, pd_up_nb (by decide), pd_up_nb (by decide)]
  refine ⟨h1.fr2 (o _ _ (by omega) (by omega) (by omega)) (fun x q1 q2 _ k => o x k (by omega) (by omega) (by omega)) (fun _ _ _ _ _ => rfl), h2.fr (o _ _ (by omega) (by omega) (by omega)) (fun k => o _ _ (by omega) (by omega) (by omega)), fun k hk => (o _ _ (by omega) (by omega) (by omega)).trans (h3 k hk), h4.fr (o _ _ (by omega) (by omega) (by omega)) (fun x k q q2 => o x k (by omega) (by omega) (by omega)), h5.fr (o _ _ (by omega) (by omega) (by omega)) (fun k => o _ _ (by omega) (by omega) (by omega)), by rw [o 0 7 (by omega) (by omega) (by omega), o 119 5 (by omega) (by omega) (by omega)]; exact h6, ?_, ?_, ?_⟩
  · rcases hj with rfl | rfl | rfl
    · exact e0.trans ((by rw [h7] : I 0 8 + 1 = I 120 0 + 1).trans e1.symm)
    · rw [o 0 8 (by omega) (by omega) (by omega), o 120 0 (by omega) (by omega) (by omega)]; exact h7
    · rw [o 0 8 (by omega) (by omega) (by omega), o 120 0 (by omega) (by omega) (by omega)]; exact h7
  · rcases hj with rfl | rfl | rfl
    · rw [o 0 9 (by omega) (by omega) (by omega), o 120 1 (by omega) (by omega) (by omega)]; exact h8
    · exact e0.trans ((by rw [h8] : I 0 9 + 1 = I 120 1 + 1).trans e1.symm)
    · rw [o 0 9 (by omega) (by omega) (by omega), o 120 1 (by omega) (by omega) (by omega)]; exact h8
  · rcases hj with rfl | rfl | rfl
    · rw [o 0 10 (by omega) (by omega) (by omega), o 120 2 (by omega) (by omega) (by omega)]; exact h9
    · rw [o 0 10 (by omega) (by omega) (by omega), o 120 2 (by omega) (by omega) (by omega)]; exact h9
    · exact e0.trans ((by rw [h9] : I 0 10 + 1 = I 120 2 + 1).trans e1.symm)
/-- an act of the class: the reference is as it was -/
theorem SM.mid (h : SM I L R w a ps B t) (hF : FD I L I1 L1) : RQ I1 122 w.1 ∧ MP I1 a ps ∧ MT I1 B t := by
  obtain ⟨h1, h2, h3, h4, h5, h6, h7, h8, h9⟩ := h
  exact ⟨fun k hk => (hF.1 122 (by omega) k (by omega)).trans (h3 k hk), h4.fr (hF.1 119 (by omega) _ (by omega)) (fun x j q q2 => hF.1 x (by omega) j (by omega)), h5.fr (hF.1 119 (by omega) _ (by omega)) (fun j => hF.1 121 (by omega) j (by omega))⟩
theorem SM.act (h : SM I L R w a ps B t) (hC : CW I1 L1 R1 w' a' ps') (hF : FD I L I1 L1) (hA : QA I1 (pd_up L1 137 0 v) w'.1 a' ps' I2 L2) : SM I2 L2 R1 w' a' ps' B t := by
  obtain ⟨h1, h2, h3, h4, h5, h6, h7, h8, h9⟩ := h
  obtain ⟨rfl, q1, q2, q3⟩ := hA
  have lo : ∀ x, x < 119 → ∀ j, I2 x j = I1 x j := fun x hx j => q3 x j (by omega) (by omega) (by omega)
  have hi : ∀ x j, 119 ≤ x → x < 122 → ¬ (x = 119 ∧ (j = 0 ∨ j = 12 ∨ j = 19)) → I2 x j = I x j := fun x j z1 z2 z3 => by rw [q3 x j (by omega) (by omega) z3]; exact hF.1 x (by omega) j (by omega)
  have l8 : ∀ x j, x < 8 → ¬ (x = 0 ∧ j = 5) → I2 x j = I x j := fun x j z1 z2 => by rw [lo x (by omega)]; exact hF.1 x (by omega) j z2
  exact ⟨hC.fr2 (lo _ (by decide) _) (fun x _ z _ j => lo x z j) (fun x _ z2 _ j => pd_up_nb (by omega)), h2.fr (l8 _ _ (by omega) (by omega)) (fun j => l8 _ _ (by omega) (by omega)), q1, q2, h5.fr (hi _ _ (by omega) (by omega) (by omega)) (fun j => hi _ _ (by omega) (by omega) (by omega)), by rw [l8 _ _ (by omega) (by omega), hi _ _ (by omega) (by omega) (by omega)]; exact h6, by rw [l8 _ _ (by omega) (by omega), hi _ _ (by omega) (by omega) (by omega)]; exact h7, by rw [l8 _ _ (by omega) (by omega), hi _ _ (by omega) (by omega) (by omega)]; exact h8, by rw [l8 _ _ (by omega) (by omega), hi _ _ (by omega) (by omega) (by omega)]; exact h9⟩
end SM
/-! the script -/
def XS (G : pd_G) (n : Nat) (xs : Nat → Int32) : Prop := va_T .int G.2.2.2.2 n (fun j => .int (xs j)) (fun q => pd_z G ≤ q) G.2.2.2.1 G.2.2.2.1.heap
section SCR
variable {G : pd_G} {mi : pd_MI} {h mc ms cs ss pc : Nat} {lo : List (Option Value)} {st : List Value} {M : pd_M} {Q : pd_O → pd_M → Prop} {n : Nat} {xs : Nat → Int32}
theorem at_scr {i : Int32} (hX : XS G n xs) (hin : vp_in i n) (hdg : decode mi.2.1 pc = .ok (.iaload, 1)) (K : pd_At G mi h mc ms cs ss (pc + 1) lo (.int (xs i.toNatClampNeg) :: st) M Q) : pd_At G mi h mc ms cs ss pc lo (.int i :: .ref G.2.2.2.2 :: st) M Q := fun d' p e s m args below meth c H locs ls hd F hS hW hlv =>
  va_ti F.1 F.2.1 (va_T.moved F.2.2.2.2.2.2.2.2.1.alike (va_T.kept hX (pd_keptq F))) hS hin rfl hdg (K d' p e s m args below meth c H locs ls hd F hS hW hlv)
theorem at_scrn (hX : XS G n xs) (hdg : decode mi.2.1 pc = .ok (.arraylength, 1)) (K : pd_At G mi h mc ms cs ss (pc + 1) lo (.int (nI n) :: st) M Q) : pd_At G mi h mc ms cs ss pc lo (.ref G.2.2.2.2 :: st) M Q := fun d' p e s m args below meth c H locs ls hd F hS hW hlv =>
  va_tlen F.1 F.2.1 (va_T.moved F.2.2.2.2.2.2.2.2.1.alike (va_T.kept hX (pd_keptq F))) hS rfl hdg (K d' p e s m args below meth c H locs ls hd F hS hW hlv)
end SCR
