/-! ===== the reader: one thing told ===== -/
section TOLD
variable {G : pd_G} {I : Nat → Nat → Int32} {L : Nat → Nat → Int64} {R : Nat → Nat → Option Nat} {T : TS} {N i m nv ns nl : Nat} {r : Nat → Int32} {e : List rl_S}
/-- what reading leaves as it was -/
def FC (I I' : Nat → Nat → Int32) : Prop := ∀ a j, (a < 8 ∨ 17 < a) → ¬ (a = 1 ∧ 2 ≤ j ∧ j ≤ 5) → I' a j = I a j
theorem FC.rf : FC I I := fun _ _ _ _ => rfl
theorem FC.tr {I I1 I2 : Nat → Nat → Int32} (h : FC I I1) (h2 : FC I1 I2) : FC I I2 := fun a j h3 h4 => by rw [h2 a j h3 h4]; exact h a j h3 h4
theorem FC.up {I I1 : Nat → Nat → Int32} (h : FC I I1) {a k : Nat} {v : Int32} (hk : (8 ≤ a ∧ a ≤ 17) ∨ (a = 1 ∧ 2 ≤ k ∧ k ≤ 5)) : FC I (pd_up I1 a k v) := fun b j h3 h4 => by
  show (if b = a ∧ j = k then v else I1 b j) = _
  rw [if_neg (by omega)]; exact h b j h3 h4
theorem FC.rfI {I I1 : Nat → Nat → Int32} (h : FC I I1) {z : Nat × Nat} : FC I (rfI I1 z) := (h.up (by omega)).up (by omega)
theorem FB.fc {I I1 : Nat → Nat → Int32} (h : FB I I1) : FC I I1 := fun a j h3 h4 => h a j (by omega) (by omega) (by omega)
theorem RT.fc {I' : Nat → Nat → Int32} (h : RT I T N) (hF : FC I I') : RT I' T N := h.fr (fun a h1 h2 j => hF a j (by omega) (by omega))
/-- one thing told is read: where, what was told once, the draft; or a fault -/
def QT (I : Nat → Nat → Int32) (L : Nat → Nat → Int64) (R : Nat → Nat → Option Nat) (res : LSt ⊕ (Nat × Nat)) : pd_O → pd_M → Prop := fun o M => ∃ I', M = (SD, false, I', L, R) ∧ FC I I' ∧ match res with
  | .inl z => o = .inl (some (.int 1)) ∧ I' 1 4 = nI z.1 ∧ I' 1 5 = nI z.2.1 ∧ RwP I' L 8 z.2.2
  | .inr z => o = .inl (some (.int 0)) ∧ I' 1 2 = nI z.1 ∧ I' 1 3 = nI z.2
theorem QT.bad {z : Nat × Nat} {I1 : Nat → Nat → Int32} (h : FC I I1) (h2 : I1 1 2 = nI z.1) (h3 : I1 1 3 = nI z.2) : QT I L R (.inr z) (.inl (some (.int 0))) (SD, false, I1, L, R) := ⟨I1, rfl, h, rfl, h2, h3⟩
theorem QT.badI {z : Nat × Nat} {I1 : Nat → Nat → Int32} (h : FC I I1) : QT I L R (.inr z) (.inl (some (.int 0))) (SD, false, rfI I1 z, L, R) := QT.bad h.rfI rfI_2.1 rfI_2.2
theorem PetRel.out {I' : Nat → Nat → Int32} (h : PetRel I L 8 r nv ns nl e) (hI : ∀ a, 8 ≤ a → a < 18 → ∀ j, I' a j = I a j) : PetRel I' L 8 r nv ns nl e := h.fr (fun a h1 h2 j => hI a h1 (by omega) j) (fun _ => rfl)
theorem ev_X6_takeOnce (hR : RS R) (h : RD I T N i) (hT : TOK T N) (hm : I 1 5 = nI m) (hm5 : m < 512) (hk : 1 ≤ T.1 i ∧ T.1 i ≤ 8) : pd_Ev G mi_X6_takeOnce 2 0 0 [.ref (pd_z G + 1)] (SD, false, I, L, R) (fun o M => if m.testBit (T.1 i) = true then pd_rt (.int 0) (SD, false, rfI I (1, T.2.2.2 i), L, R) o M else pd_rt (.int 1) (SD, false, pd_up (pd_up I 1 5 (nI (m ||| 2 ^ T.1 i))) 1 4 (nI (i + 1)), L, R) o M) := by
  have e1 : (1 : Int32) <<< (nI (T.1 i) &&& 31) = nI (2 ^ T.1 i) := i_sh1 _ (by omega)
  have e2 : nI m &&& nI (2 ^ T.1 i) = 0 ↔ m.testBit (T.1 i) = false := fa_bit (by omega)
  have hlt := hT.lt h.2.2 (by omega)
  refine pd_ev 1 (lo := [some (.ref (pd_z G + 1)), none]) (by decide +kernel) (Nat.le_of_ble_eq_true rfl) rfl ?_
  refine at_iconst dX6_takeOnce_0 pc_i1 ?_
  refine at_aload_n dX6_takeOnce_1 rfl ?_
  refine at_cv0 cvX6_29 sd_1 (ev_X6_kind hR h) (by decide) ⟨Nat.le_refl _, Nat.le_refl _⟩ (Nat.le_of_ble_eq_true rfl) dX6_takeOnce_2 (pd_k1 ?_)
  refine at_ishl dX6_takeOnce_5 ?_
  rw [e1]
  refine at_istore_n dX6_takeOnce_6 rfl (Nat.le_of_ble_eq_true rfl) ?_
  refine at_aload_n dX6_takeOnce_7 rfl ?_
  refine at_geti flX6_83 rfl sd_1 dX6_takeOnce_8 ?_
  rw [hm]
  refine at_iload_n dX6_takeOnce_11 rfl ?_
  refine at_iand dX6_takeOnce_12 ?_
  refine at_ifeq (tgt := 26) dX6_takeOnce_13 (by decide) (fun c13 => ?_) (fun c13 => ?_)
  · -- taken 13
    rw [e2] at c13
    refine at_aload_n dX6_takeOnce_26 rfl ?_
    refine at_dup dX6_takeOnce_27 rfl ?_
    refine at_geti flX6_83 rfl sd_1 dX6_takeOnce_28 ?_
    rw [hm]
    refine at_iload_n dX6_takeOnce_31 rfl ?_
    refine at_ior dX6_takeOnce_32 ?_
    rw [fa_or]
    refine at_puti flX6_83 rfl sd_1 (fun _ _ _ hq => by cases hq; rfl) dX6_takeOnce_33 ?_
    refine at_aload_n dX6_takeOnce_36 rfl ?_
    refine at_cv0 cvX6_89 sd_1 (ev_X6_advance ⟨h.1.fr (fun a h1 h2 j => pd_up_nb (by omega)), by rw [pd_up_nj (by decide)]; exact h.2.1, h.2.2⟩ hlt) (by decide) ⟨Nat.le_refl _, Nat.le_refl _⟩ (Nat.le_of_ble_eq_true rfl) dX6_takeOnce_37 (pd_k0 ?_)
    refine at_iconst dX6_takeOnce_40 pc_i1 ?_
    refine at_zret rfl dX6_takeOnce_41 (by first | exact Or.inl rfl | exact Or.inr rfl | assumption) ?_
    rw [if_neg (by rw [c13]; decide)]; exact ⟨rfl, rfl⟩
  · -- not taken 13
    rw [e2] at c13
    refine at_aload_n dX6_takeOnce_16 rfl ?_
    refine at_iconst dX6_takeOnce_17 pc_i1 ?_
    refine at_aload_n dX6_takeOnce_18 rfl ?_
    refine at_cv0 cvX6_62 sd_1 (ev_X6_place hR h) (by decide) ⟨Nat.le_refl _, Nat.le_refl _⟩ (Nat.le_of_ble_eq_true rfl) dX6_takeOnce_19 (pd_k1 ?_)
    refine at_cv2 cvX6_65 sd_1 (ev_X6_refuse 1 _) (by decide) ⟨Nat.le_refl _, Nat.le_refl _⟩ (Nat.le_of_ble_eq_true rfl) dX6_takeOnce_22 (pd_k1 ?_)
    refine at_zret rfl dX6_takeOnce_25 (by first | exact Or.inl rfl | exact Or.inr rfl | assumption) ?_
    rw [if_pos (by simpa using c13)]; exact ⟨rfl, rfl⟩
/-- the draft's fields -/
theorem PetRel.fld (h : PetRel I L 8 r nv ns nl e) {k kk : Nat} (v : Int32) (hk : (k = 11 ∧ kk = 3) ∨ (k = 12 ∧ kk = 4) ∨ (k = 13 ∧ kk = 5) ∨ (k = 14 ∧ kk = 6) ∨ (k = 15 ∧ kk = 7)) (hv : nv ≤ 16) : PetRel (pd_up I 8 k v) L 8 (upd r kk v) nv ns nl e := by
  obtain ⟨⟨a0, a1, a2, a3, a4, a5, a6, a7⟩, hvv, hl, hb, h17, h18, hn, hle, hs⟩ := h
  have o : ∀ j, j ≠ kk → upd r kk v j = r j := fun j hj => pk_un hj
  have q : ∀ j, j ≠ k → pd_up I 8 k v 8 j = I 8 j := fun j hj => pd_up_nj hj
  have u : ∀ a j, a ≠ 8 → pd_up I 8 k v a j = I a j := fun a j ha => pd_up_nb ha
  have f : ∀ (j jj : Nat), ((j = 11 ∧ jj = 3) ∨ (j = 12 ∧ jj = 4) ∨ (j = 13 ∧ jj = 5) ∨ (j = 14 ∧ jj = 6) ∨ (j = 15 ∧ jj = 7)) → I 8 j = r jj → pd_up I 8 k v 8 j = upd r kk v jj := fun j jj hj hI => by
    by_cases hq : j = k
    · have : jj = kk := by omega
      subst hq this
      rw [pd_up_at, pk_us]
    · rw [q j hq, o jj (by omega)]; exact hI
  refine ⟨⟨by rw [q 0 (by omega), o 0 (by omega)]; exact a0, by rw [q 4 (by omega), o 1 (by omega)]; exact a1, by rw [q 6 (by omega), o 2 (by omega)]; exact a2, f 11 3 (by omega) a3, f 12 4 (by omega) a4, f 13 5 (by omega) a5, f 14 6 (by omega) a6, f 15 7 (by omega) a7⟩, fun x hx => ?_, fun l hll => ?_, ?_, ?_, ?_, by rw [u _ _ (by omega)]; exact hn, hle, fun j x hx => by rw [u _ _ (by omega)]; exact hs j x hx⟩
  · rw [u _ _ (by omega), u _ _ (by omega), u _ _ (by omega), o _ (by omega), o _ (by omega), o _ (by omega)]; exact hvv x hx
  · unfold rSh; rw [u _ _ (by omega), u _ _ (by omega), u _ _ (by omega), u _ _ (by omega), o _ (by omega), o _ (by omega), o _ (by omega), o _ (by omega)]; exact hl l hll
  · rw [q 5 (by omega), hb]; exact congrArg nI (bsum_cong (fun s hs => by rw [o _ (by omega)]))
  · rw [h17]; exact congrArg lN (bsum_cong (fun s hs => by rw [o _ (by omega)]))
  · rw [h18]; exact congrArg lN (bsum_cong (fun s hs => by rw [o _ (by omega)]))
theorem PetRel.voter (h : PetRel I L 8 r nv ns nl e) (hv : nv < 16) (h40 : nl ≤ 40) {nm : List Nat} (hnm : WOK nm) {s d : Nat} : PetRel (pd_up (pd_up (pd_up (pd_up I 9 nv (nI (n32 nm))) 10 nv (nI s)) 11 nv (nI d)) 8 0 (nI (nv + 1))) L 8 (vtR r nv nm s d) (nv + 1) ns nl e := by
  obtain ⟨⟨a0, a1, a2, a3, a4, a5, a6, a7⟩, hvv, hl, hb, h17, h18, hn, hle, hs⟩ := h
  have o : ∀ j, j ≠ 0 → (j < 9 ∨ 57 ≤ j) → vtR r nv nm s d j = r j := fun j h0 hj => by
    unfold vtR; rw [pk_un h0, pk_un (by omega), pk_un (by omega), pk_un (by omega)]
  have q : ∀ j, j ≠ 0 → pd_up (pd_up (pd_up (pd_up I 9 nv (nI (n32 nm))) 10 nv (nI s)) 11 nv (nI d)) 8 0 (nI (nv + 1)) 8 j = I 8 j := fun j hj => by rw [pd_up_nj hj, pd_up_nb (by decide), pd_up_nb (by decide), pd_up_nb (by decide)]
  have u : ∀ a j, a ≠ 8 → (a < 9 ∨ 11 < a) → pd_up (pd_up (pd_up (pd_up I 9 nv (nI (n32 nm))) 10 nv (nI s)) 11 nv (nI d)) 8 0 (nI (nv + 1)) a j = I a j := fun a j h0 ha => by rw [pd_up_nb h0, pd_up_nb (by omega), pd_up_nb (by omega), pd_up_nb (by omega)]
  refine ⟨⟨by rw [pd_up_at, vtR, pk_us], by rw [q 4 (by omega), o 1 (by omega) (by omega)]; exact a1, by rw [q 6 (by omega), o 2 (by omega) (by omega)]; exact a2, by rw [q 11 (by omega), o 3 (by omega) (by omega)]; exact a3, by rw [q 12 (by omega), o 4 (by omega) (by omega)]; exact a4, by rw [q 13 (by omega), o 5 (by omega) (by omega)]; exact a5, by rw [q 14 (by omega), o 6 (by omega) (by omega)]; exact a6, by rw [q 15 (by omega), o 7 (by omega) (by omega)]; exact a7⟩, fun x hx => ?_, fun l hll => ?_, ?_, ?_, ?_, by rw [u _ _ (by omega) (by omega)]; exact hn, hle, fun j x hx => by rw [u _ _ (by omega) (by omega)]; exact hs j x hx⟩
  · by_cases hq : x = nv
    · subst hq
      refine ⟨?_, ?_, ?_⟩
      · have e1 : vtR r x nm s d (9 + 3 * x) = nI (n27 0 nm) := by unfold vtR; rw [pk_un (by omega), pk_un (by omega), pk_un (by omega), pk_us]
        rw [e1]; simp (disch := omega) only [pd_up_nb, pd_up_at]
        exact ⟨nm, hnm.1, hnm.2.1, hnm.2.2, rfl, rfl⟩
      · have e1 : vtR r x nm s d (10 + 3 * x) = nI s := by unfold vtR; rw [pk_un (by omega), pk_un (by omega), pk_us]
        rw [e1]; simp (disch := omega) only [pd_up_nb, pd_up_at]
      · have e1 : vtR r x nm s d (11 + 3 * x) = nI d := by unfold vtR; rw [pk_un (by omega), pk_us]
        rw [e1]; simp (disch := omega) only [pd_up_nb, pd_up_at]
    · have o2 : ∀ j, 9 ≤ j → j < 9 + 3 * nv → vtR r nv nm s d j = r j := fun j h1 h2 => by unfold vtR; rw [pk_un (by omega), pk_un (by omega), pk_un (by omega), pk_un (by omega)]
      rw [o2 _ (by omega) (by omega), o2 _ (by omega) (by omega), o2 _ (by omega) (by omega)]
      have u2 : ∀ a, 9 ≤ a → a ≤ 11 → pd_up (pd_up (pd_up (pd_up I 9 nv (nI (n32 nm))) 10 nv (nI s)) 11 nv (nI d)) 8 0 (nI (nv + 1)) a x = I a x := fun a h1 h2 => by rw [pd_up_nb (by omega), pd_up_nj hq, pd_up_nj hq, pd_up_nj hq]
      rw [u2 _ (by omega) (by omega), u2 _ (by omega) (by omega), u2 _ (by omega) (by omega)]
      exact hvv x (by omega)
  · unfold rSh; rw [u _ _ (by omega) (by omega), u _ _ (by omega) (by omega), u _ _ (by omega) (by omega), u _ _ (by omega) (by omega), o _ (by omega) (by omega), o _ (by omega) (by omega), o _ (by omega) (by omega), o _ (by omega) (by omega)]; exact hl l hll
  · rw [q 5 (by omega), hb]; exact congrArg nI (bsum_cong (fun s hs => by rw [o _ (by omega) (by omega)]))
  · rw [h17]; exact congrArg lN (bsum_cong (fun s hs => by rw [o _ (by omega) (by omega)]))
  · rw [h18]; exact congrArg lN (bsum_cong (fun s hs => by rw [o _ (by omega) (by omega)]))
theorem PetRel.sheet (h : PetRel I L 8 r nv ns nl e) (hv : nv ≤ 16) : PetRel (pd_up I 8 4 (nI (ns + 1))) L 8 (shR r ns) nv (ns + 1) nl e := by
  obtain ⟨⟨a0, a1, a2, a3, a4, a5, a6, a7⟩, hvv, hl, hb, h17, h18, hn, hle, hs⟩ := h
  have o : ∀ j, j ≠ 1 → shR r ns j = r j := fun j h0 => pk_un h0
  have q : ∀ j, j ≠ 4 → pd_up I 8 4 (nI (ns + 1)) 8 j = I 8 j := fun j hj => pd_up_nj hj
  have u : ∀ a j, a ≠ 8 → pd_up I 8 4 (nI (ns + 1)) a j = I a j := fun a j ha => pd_up_nb ha
  refine ⟨⟨by rw [q 0 (by omega), o 0 (by omega)]; exact a0, by rw [pd_up_at, shR, pk_us], by rw [q 6 (by omega), o 2 (by omega)]; exact a2, by rw [q 11 (by omega), o 3 (by omega)]; exact a3, by rw [q 12 (by omega), o 4 (by omega)]; exact a4, by rw [q 13 (by omega), o 5 (by omega)]; exact a5, by rw [q 14 (by omega), o 6 (by omega)]; exact a6, by rw [q 15 (by omega), o 7 (by omega)]; exact a7⟩, fun x hx => ?_, fun l hll => ?_, ?_, ?_, ?_, by rw [u _ _ (by omega)]; exact hn, hle, fun j x hx => by rw [u _ _ (by omega)]; exact hs j x hx⟩
  · rw [u _ _ (by omega), u _ _ (by omega), u _ _ (by omega), o _ (by omega), o _ (by omega), o _ (by omega)]; exact hvv x hx
  · unfold rSh; rw [u _ _ (by omega), u _ _ (by omega), u _ _ (by omega), u _ _ (by omega), o _ (by omega), o _ (by omega), o _ (by omega), o _ (by omega)]; exact hl l hll
  · rw [q 5 (by omega), hb]; exact congrArg nI (bsum_cong (fun s hs => by rw [o _ (by omega)]))
  · rw [h17]; exact congrArg lN (bsum_cong (fun s hs => by rw [o _ (by omega)]))
  · rw [h18]; exact congrArg lN (bsum_cong (fun s hs => by rw [o _ (by omega)]))
theorem PetRel.sign (h : PetRel I L 8 r nv ns nl e) (hv : nv ≤ 16) (h40 : nl < 40) {nm : List Nat} (hnm : WOK nm) {s d : Nat} : PetRel (x_addLine I 8 nl nl (nI (ns - 1)) (nI (n32 nm)) (nI s) (nI d)) L 8 (lnR r ns nl nm s d) nv ns (nl + 1) e := by
  obtain ⟨⟨a0, a1, a2, a3, a4, a5, a6, a7⟩, hvv, hl, hb, h17, h18, hn, hle, hs⟩ := h
  have o : ∀ j, j ≠ 2 → (j < 65 + 4 * nl ∨ 69 + 4 * nl ≤ j) → lnR r ns nl nm s d j = r j := fun j h0 hj => by
    unfold lnR; rw [pk_un h0, pk_un (by omega), pk_un (by omega), pk_un (by omega), pk_un (by omega)]
  have ex : x_addLine I 8 nl nl (nI (ns - 1)) (nI (n32 nm)) (nI s) (nI d) = pd_up (pd_up (pd_up (pd_up (pd_up I 12 nl (nI (n32 nm))) 13 nl (nI s)) 14 nl (nI d)) 15 nl (nI (ns - 1))) 8 6 (nI (nl + 1)) := by
    unfold x_addLine; rw [Nat.sub_self, x_mv_0]
  rw [ex]
  have q : ∀ j, j ≠ 6 → pd_up (pd_up (pd_up (pd_up (pd_up I 12 nl (nI (n32 nm))) 13 nl (nI s)) 14 nl (nI d)) 15 nl (nI (ns - 1))) 8 6 (nI (nl + 1)) 8 j = I 8 j := fun j hj => by rw [pd_up_nj hj, pd_up_nb (by decide), pd_up_nb (by decide), pd_up_nb (by decide), pd_up_nb (by decide)]
  have u : ∀ a j, a ≠ 8 → (a < 12 ∨ 15 < a) → pd_up (pd_up (pd_up (pd_up (pd_up I 12 nl (nI (n32 nm))) 13 nl (nI s)) 14 nl (nI d)) 15 nl (nI (ns - 1))) 8 6 (nI (nl + 1)) a j = I a j := fun a j h0 ha => by rw [pd_up_nb h0, pd_up_nb (by omega), pd_up_nb (by omega), pd_up_nb (by omega), pd_up_nb (by omega)]
  refine ⟨⟨by rw [q 0 (by omega), o 0 (by omega) (by omega)]; exact a0, by rw [q 4 (by omega), o 1 (by omega) (by omega)]; exact a1, by rw [pd_up_at, lnR, pk_us], by rw [q 11 (by omega), o 3 (by omega) (by omega)]; exact a3, by rw [q 12 (by omega), o 4 (by omega) (by omega)]; exact a4, by rw [q 13 (by omega), o 5 (by omega) (by omega)]; exact a5, by rw [q 14 (by omega), o 6 (by omega) (by omega)]; exact a6, by rw [q 15 (by omega), o 7 (by omega) (by omega)]; exact a7⟩, fun x hx => ?_, fun l hll => ?_, ?_, ?_, ?_, by rw [u _ _ (by omega) (by omega)]; exact hn, hle, fun j x hx => by rw [u _ _ (by omega) (by omega)]; exact hs j x hx⟩
  · rw [u _ _ (by omega) (by omega), u _ _ (by omega) (by omega), u _ _ (by omega) (by omega), o _ (by omega) (by omega), o _ (by omega) (by omega), o _ (by omega) (by omega)]; exact hvv x hx
  · unfold rSh
    by_cases hq : l = nl
    · subst hq
      have e0 : lnR r ns l nm s d (65 + 4 * l) = nI (n27 0 nm) := by unfold lnR; rw [pk_un (by omega), pk_un (by omega), pk_un (by omega), pk_un (by omega), pk_us]
      have e1 : lnR r ns l nm s d (66 + 4 * l) = nI s := by unfold lnR; rw [pk_un (by omega), pk_un (by omega), pk_un (by omega), pk_us]
      have e2 : lnR r ns l nm s d (67 + 4 * l) = nI (ns - 1) := by unfold lnR; rw [pk_un (by omega), pk_un (by omega), pk_us]
      have e3 : lnR r ns l nm s d (68 + 4 * l) = nI d := by unfold lnR; rw [pk_un (by omega), pk_us]
      rw [e0, e1, e2, e3]
      simp (disch := omega) only [pd_up_nb, pd_up_at]
      exact ⟨⟨nm, hnm.1, hnm.2.1, hnm.2.2, rfl, rfl⟩, trivial, trivial, trivial⟩
    · have u2 : ∀ a, 12 ≤ a → a ≤ 15 → pd_up (pd_up (pd_up (pd_up (pd_up I 12 nl (nI (n32 nm))) 13 nl (nI s)) 14 nl (nI d)) 15 nl (nI (ns - 1))) 8 6 (nI (nl + 1)) a l = I a l := fun a h1 h2 => by rw [pd_up_nb (by omega), pd_up_nj hq, pd_up_nj hq, pd_up_nj hq, pd_up_nj hq]
      rw [u2 _ (by omega) (by omega), u2 _ (by omega) (by omega), u2 _ (by omega) (by omega), u2 _ (by omega) (by omega), o _ (by omega) (by omega), o _ (by omega) (by omega), o _ (by omega) (by omega), o _ (by omega) (by omega)]
      exact hl l (by omega)
  · rw [q 5 (by omega), hb]; exact congrArg nI (bsum_cong (fun s hs => by rw [o _ (by omega) (by omega)]))
  · rw [h17]; exact congrArg lN (bsum_cong (fun s hs => by rw [o _ (by omega) (by omega)]))
  · rw [h18]; exact congrArg lN (bsum_cong (fun s hs => by rw [o _ (by omega) (by omega)]))
theorem PetRel.good {I' : Nat → Nat → Int32} {e' : List rl_S} (h : PetRel I L 8 r nv ns nl e) (hv : nv ≤ 16) (h40 : nl ≤ 40) (hI : ∀ a j, 8 ≤ a → a < 16 → I' a j = I a j) (hU : RU I' e') (he : e'.length ≤ 600) : PetRel I' L 8 (gdR r e') nv ns nl e' := by
  obtain ⟨⟨a0, a1, a2, a3, a4, a5, a6, a7⟩, hvv, hl, hb, h17, h18, hn, hle, hs⟩ := h
  have o : ∀ j, j ≠ 8 → j < 305 → gdR r e' j = r j := fun j h0 hj => by
    unfold gdR; rw [if_neg h0, if_neg (by omega)]
  refine ⟨⟨by rw [hI 8 _ (by omega) (by omega), o 0 (by omega) (by omega)]; exact a0, by rw [hI 8 _ (by omega) (by omega), o 1 (by omega) (by omega)]; exact a1, by rw [hI 8 _ (by omega) (by omega), o 2 (by omega) (by omega)]; exact a2, by rw [hI 8 _ (by omega) (by omega), o 3 (by omega) (by omega)]; exact a3, by rw [hI 8 _ (by omega) (by omega), o 4 (by omega) (by omega)]; exact a4, by rw [hI 8 _ (by omega) (by omega), o 5 (by omega) (by omega)]; exact a5, by rw [hI 8 _ (by omega) (by omega), o 6 (by omega) (by omega)]; exact a6, by rw [hI 8 _ (by omega) (by omega), o 7 (by omega) (by omega)]; exact a7⟩, fun x hx => ?_, fun l hll => ?_, ?_, ?_, ?_, hU.1, he, hU.2⟩
  · rw [hI _ _ (by omega) (by omega), hI _ _ (by omega) (by omega), hI _ _ (by omega) (by omega), o _ (by omega) (by omega), o _ (by omega) (by omega), o _ (by omega) (by omega)]; exact hvv x hx
  · unfold rSh; rw [hI _ _ (by omega) (by omega), hI _ _ (by omega) (by omega), hI _ _ (by omega) (by omega), hI _ _ (by omega) (by omega), o _ (by omega) (by omega), o _ (by omega) (by omega), o _ (by omega) (by omega), o _ (by omega) (by omega)]; exact hl l hll
  · rw [hI 8 _ (by omega) (by omega), hb]; exact congrArg nI (bsum_cong (fun s hs => by rw [o _ (by omega) (by omega)]))
  · rw [h17]; exact congrArg lN (bsum_cong (fun s hs => by rw [o _ (by omega) (by omega)]))
  · rw [h18]; exact congrArg lN (bsum_cong (fun s hs => by rw [o _ (by omega) (by omega)]))
end TOLD
