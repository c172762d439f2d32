/-! ===== the reference reads: one thing told, a text ===== -/
def FO (I I' : Nat → Nat → Int32) : Prop := (∀ x j, x ≠ 119 → x ≠ 123 → I' x j = I x j) ∧ ∀ j, j ≠ 4 → j ≠ 6 → j ≠ 7 → j ≠ 13 → j ≠ 14 → j ≠ 15 → I' 119 j = I 119 j
theorem FO.rf {I : Nat → Nat → Int32} : FO I I := ⟨fun _ _ _ _ => rfl, fun _ _ _ _ _ _ _ => rfl⟩
theorem FO.tr {I I' I2 : Nat → Nat → Int32} (h : FO I I') (h2 : FO I' I2) : FO I I2 := ⟨fun x j a b => (h2.1 x j a b).trans (h.1 x j a b), fun j a b c d e f => (h2.2 j a b c d e f).trans (h.2 j a b c d e f)⟩
theorem FP.fo {I I' : Nat → Nat → Int32} (h : FP I I') : FO I I' := ⟨h.1, fun j a b c d e _ => h.2 j a b c d e⟩
theorem FO.up {I I' : Nat → Nat → Int32} {k : Nat} {v : Int32} (h : FO I I') (hk : k = 4 ∨ k = 6 ∨ k = 7 ∨ k = 13 ∨ k = 14 ∨ k = 15) : FO I (pd_up I' 119 k v) := ⟨fun x j a b => by rw [pd_up_nb a]; exact h.1 x j a b, fun j a b c d e f => by rw [pd_up_nj (by omega)]; exact h.2 j a b c d e f⟩
theorem FO.up3 {I I' : Nat → Nat → Int32} {k : Nat} {v : Int32} (h : FO I I') : FO I (pd_up I' 123 k v) := ⟨fun x j a b => by rw [pd_up_nb b]; exact h.1 x j a b, fun j a b c d e f => by rw [pd_up_nb (by decide)]; exact h.2 j a b c d e f⟩
theorem FZ.up3 {I : Nat → Nat → Int32} {B : Nat → Nat} {n b k : Nat} {z : Nat × Nat} {v : Int32} (h : FZ I B n b z) : FZ (pd_up I 123 k v) B n b z := by
  obtain ⟨h1, ⟨p, a1, a2⟩, h3, h4, h5⟩ := h
  exact ⟨h1.up2, ⟨p, by rw [pd_up_nb (by decide)]; exact a1, a2⟩, by rw [pd_up_nb (by decide)]; exact h3, h4, by rw [pd_up_nb (by decide)]; exact h5⟩
theorem GZ.on {I : Nat → Nat → Int32} {B : Nat → Nat} {n d i : Nat} {r : Nat → Int32} {ks : List Int32} {v : Int32} (h : GZ I B n r ks d i) : GZ (pd_up I 119 15 v) B n r ks d i := by
  obtain ⟨h1, ⟨p, a1, a2, a3⟩, h3, h4, h5, h6, h7⟩ := h
  exact ⟨h1.up (by decide), ⟨p, by rw [pd_up_nj (by decide)]; exact a1, a2, a3⟩, by rw [pd_up_nj (by decide)]; exact h3, by rw [pd_up_nj (by decide)]; exact h4, by rw [pd_up_nj (by decide)]; exact h5, fun k hk => by rw [pd_up_nb (by decide)]; exact h6 k hk, by rw [pd_up_nj (by decide)]; exact h7⟩
def LZ (I : Nat → Nat → Int32) (B : Nat → Nat) (n m : Nat) (w : RW) (i : Nat) : Prop := GZ I B n w.1 (rl_ks w.2.2.2.2) 0 i ∧ I 119 15 = nI (m / 16)
theorem m16_bit {m b : Nat} : (m / 16).testBit b = m.testBit (b + 4) := by
  rw [show (16 : Nat) = 2 ^ 4 from rfl, Nat.testBit_div_two_pow]
theorem m16_or {m b : Nat} : m / 16 ||| 2 ^ b = (m ||| 2 ^ (b + 4)) / 16 := by
  apply Nat.eq_of_testBit_eq
  intro j
  rw [m16_bit, Nat.testBit_or, Nat.testBit_or, m16_bit, Nat.testBit_two_pow, Nat.testBit_two_pow]
  congr 1
  exact decide_eq_decide.mpr ⟨fun q => by omega, fun q => by omega⟩
/-- what reading one thing with its end gives -/
def LL (I : Nat → Nat → Int32) (L : Nat → Nat → Int64) (B : Nat → Nat) (n : Nat) (res : LSt ⊕ (Nat × Nat)) (I' : Nat → Nat → Int32) (L' : Nat → Nat → Int64) : Prop := L' = L ∧ FO I I' ∧ match res with
  | .inl z => LZ I' B n z.2.1 z.2.2 z.1
  | .inr z => FZ I' B n 3 z
theorem pVoter_m {T : TS} {i m : Nat} {w : RW} {z : LSt} (h : pVoter T i m w = .inl z) : z.2.1 = m := by
  unfold pVoter at h
  repeat' split at h
  all_goals first | (cases h; rfl) | cases h
theorem pSign_m {T : TS} {i m : Nat} {w : RW} {z : LSt} (h : pSign T i m w = .inl z) : z.2.1 = m := by
  unfold pSign at h
  repeat' split at h
  all_goals first | (cases h; rfl) | cases h
section PAR7
variable {G : pd_G} {L : Nat → Nat → Int64} {R : Nat → Nat → Option Nat} {B : Nat → Nat} {n : Nat}
variable {J : Nat → Nat → Int32} {d i : Nat} {r : Nat → Int32} {ks : List Int32}
theorem ev_tkN (hR : RS R) (h : GZ J B n r ks d i) (hA : J 119 4 = nI (tq B n i)) {a : Nat} (c : Nat) (hc : c < 16) (hS : SI G a ((wds.getD c []).map nI)) (hk : ¬ tkK B n (tq B n i) = c + 1) : pd_Ev G mi_X9_takes 6 0 0 [.ref (pd_z G + 119), .ref a] (SD, false, J, L, R) (pd_rt (.int 0) (SD, false, J, L, R)) := by
  refine pd_Ev_mono (ev_X9_takes hR h.1 hA (by have := h.1.2.1; have := tq_le (B := B) (n := n) i; omega) h.2.2.1 (wds_WL c hc) hS) ?_
  rintro o M' ⟨rfl, rfl⟩
  rw [sk_tq, kw_iff hc, decide_eq_false hk, if_neg (by decide), pd_up_same hA]
  exact ⟨rfl, rfl⟩
theorem ev_tkY (hR : RS R) (h : GZ J B n r ks d i) (hA : J 119 4 = nI (tq B n i)) {a : Nat} (c : Nat) (hc : c < 16) (hS : SI G a ((wds.getD c []).map nI)) (hk : tkK B n (tq B n i) = c + 1) : pd_Ev G mi_X9_takes 6 0 0 [.ref (pd_z G + 119), .ref a] (SD, false, J, L, R) (pd_rt (.int 1) (SD, false, pd_up J 119 4 (nI (tkE B n (tq B n i))), L, R)) := by
  refine pd_Ev_mono (ev_X9_takes hR h.1 hA (by have := h.1.2.1; have := tq_le (B := B) (n := n) i; omega) h.2.2.1 (wds_WL c hc) hS) ?_
  rintro o M' ⟨rfl, rfl⟩
  have hw : isW B n (tq B n i) (wds.getD c []) = true := by rw [kw_iff hc, decide_eq_true hk]
  rw [sk_tq, hw, if_pos rfl, ← (isW_L (wds_WL c hc) hw).2.2]
  exact ⟨rfl, rfl⟩
theorem ev_onN (hR : RS R) (h : GZ J B n r ks d i) (hA : J 119 4 = nI (tq B n i)) {o : Nat} (ho : J 119 15 = nI o) (ho2 : o < 32) {a : Nat} (c b : Nat) (hc : c < 16) (hb : b < 5) (hS : SI G a ((wds.getD c []).map nI)) (hk : o.testBit b = true ∨ ¬ tkK B n (tq B n i) = c + 1) : pd_Ev G mi_X9_takesOnce 7 0 0 [.ref (pd_z G + 119), .ref a, .int (nI b)] (SD, false, J, L, R) (pd_rt (.int 0) (SD, false, J, L, R)) := by
  refine pd_ev 0 (lo := [some (.ref (pd_z G + 119)), some (.ref a), some (.int (nI b))]) (by decide +kernel) (Nat.le_of_ble_eq_true rfl) rfl ?_
  cases hob : o.testBit b with
  | true =>
    refine at_aload_n dX9_takesOnce_0 rfl ?_
    refine at_geti flX9_177 rfl sd_119 dX9_takesOnce_1 ?_
    refine at_iload_n dX9_takesOnce_4 rfl ?_
    refine at_ishr dX9_takesOnce_5 ?_
    refine at_iconst dX9_takesOnce_6 pc_i1 ?_
    refine at_iand dX9_takesOnce_7 ?_
    rw [ho, i_tb (by omega) (by omega), hob]
    refine at_iconst dX9_takesOnce_8 pc_i1 ?_
    refine at_icmpeq (tgt := 20) dX9_takesOnce_9 (by decide) (fun c9 => ?_) (fun c9 => ?_)
    · -- taken 9
      refine at_iconst dX9_takesOnce_20 pc_i0 ?_
      refine at_zret rfl dX9_takesOnce_21 (by first | exact Or.inl rfl | exact Or.inr rfl | assumption) ?_
      exact ⟨rfl, rfl⟩
    · -- not taken 9
      exact absurd rfl c9
  | false =>
    have hk2 : ¬ tkK B n (tq B n i) = c + 1 := hk.resolve_left (by rw [hob]; decide)
    refine at_aload_n dX9_takesOnce_0 rfl ?_
    refine at_geti flX9_177 rfl sd_119 dX9_takesOnce_1 ?_
    refine at_iload_n dX9_takesOnce_4 rfl ?_
    refine at_ishr dX9_takesOnce_5 ?_
    refine at_iconst dX9_takesOnce_6 pc_i1 ?_
    refine at_iand dX9_takesOnce_7 ?_
    rw [ho, i_tb (by omega) (by omega), hob]
    refine at_iconst dX9_takesOnce_8 pc_i1 ?_
    refine at_icmpeq (tgt := 20) dX9_takesOnce_9 (by decide) (fun c9 => ?_) (fun c9 => ?_)
    · -- taken 9
      exact absurd c9 (by decide)
    · -- not taken 9
      refine at_aload_n dX9_takesOnce_12 rfl ?_
      refine at_aload_n dX9_takesOnce_13 rfl ?_
      refine at_cv1 cvX9_150 sd_119 (ev_tkN hR h hA c hc hS hk2) (by decide) ⟨Nat.le_refl _, Nat.le_refl _⟩ (Nat.le_of_ble_eq_true rfl) dX9_takesOnce_14 (pd_k1 ?_)
      refine at_ifne (tgt := 22) dX9_takesOnce_17 (by decide) (fun c17 => ?_) (fun c17 => ?_)
      · -- taken 17
        exact absurd rfl c17
      · -- not taken 17
        refine at_iconst dX9_takesOnce_20 pc_i0 ?_
        refine at_zret rfl dX9_takesOnce_21 (by first | exact Or.inl rfl | exact Or.inr rfl | assumption) ?_
        exact ⟨rfl, rfl⟩
theorem ev_onY (hR : RS R) (h : GZ J B n r ks d i) (hA : J 119 4 = nI (tq B n i)) {o : Nat} (ho : J 119 15 = nI o) (ho2 : o < 32) {a : Nat} (c b : Nat) (hc : c < 16) (hb : b < 5) (hS : SI G a ((wds.getD c []).map nI)) (hob : o.testBit b = false) (hk : tkK B n (tq B n i) = c + 1) : pd_Ev G mi_X9_takesOnce 7 0 0 [.ref (pd_z G + 119), .ref a, .int (nI b)] (SD, false, J, L, R) (pd_rt (.int 1) (SD, false, pd_up (pd_up J 119 4 (nI (tkE B n (tq B n i)))) 119 15 (nI (o ||| 2 ^ b)), L, R)) := by
  refine pd_ev 0 (lo := [some (.ref (pd_z G + 119)), some (.ref a), some (.int (nI b))]) (by decide +kernel) (Nat.le_of_ble_eq_true rfl) rfl ?_
  refine at_aload_n dX9_takesOnce_0 rfl ?_
  refine at_geti flX9_177 rfl sd_119 dX9_takesOnce_1 ?_
  refine at_iload_n dX9_takesOnce_4 rfl ?_
  refine at_ishr dX9_takesOnce_5 ?_
  refine at_iconst dX9_takesOnce_6 pc_i1 ?_
  refine at_iand dX9_takesOnce_7 ?_
  rw [ho, i_tb (by omega) (by omega), hob]
  refine at_iconst dX9_takesOnce_8 pc_i1 ?_
  refine at_icmpeq (tgt := 20) dX9_takesOnce_9 (by decide) (fun c9 => ?_) (fun c9 => ?_)
  · -- taken 9
    exact absurd c9 (by decide)
  · -- not taken 9
    refine at_aload_n dX9_takesOnce_12 rfl ?_
    refine at_aload_n dX9_takesOnce_13 rfl ?_
    refine at_cv1 cvX9_150 sd_119 (ev_tkY hR h hA c hc hS hk) (by decide) ⟨Nat.le_refl _, Nat.le_refl _⟩ (Nat.le_of_ble_eq_true rfl) dX9_takesOnce_14 (pd_k1 ?_)
    refine at_ifne (tgt := 22) dX9_takesOnce_17 (by decide) (fun c17 => ?_) (fun c17 => ?_)
    · -- taken 17
      refine at_aload_n dX9_takesOnce_22 rfl ?_
      refine at_dup dX9_takesOnce_23 rfl ?_
      refine at_geti flX9_177 rfl sd_119 dX9_takesOnce_24 ?_
      rw [pd_up_nj (by decide), ho]
      refine at_iconst dX9_takesOnce_27 pc_i1 ?_
      refine at_iload_n dX9_takesOnce_28 rfl ?_
      refine at_ishl dX9_takesOnce_29 ?_
      refine at_ior dX9_takesOnce_30 ?_
      rw [i_sh1 b (by omega), fa_or]
      refine at_puti flX9_177 rfl sd_119 (fun _ _ _ hq => by cases hq; rfl) dX9_takesOnce_31 ?_
      refine at_iconst dX9_takesOnce_34 pc_i1 ?_
      refine at_zret rfl dX9_takesOnce_35 (by first | exact Or.inl rfl | exact Or.inr rfl | assumption) ?_
      exact ⟨rfl, rfl⟩
    · -- not taken 17
      exact absurd c17 (by decide)
theorem ev_readsLine (hR : RS R) {N f m : Nat} (hT : TOK (tT B n) N) (hn : n ≤ 600) {I : Nat → Nat → Int32} {nv ns nl : Nat} {e : List rl_S} (hi : i ≤ N) (hZ : GZ I B n r (rl_ks e) 0 i) (ho : I 119 15 = nI (m / 16)) (hJ : LJ m r nv ns nl e) {res : LSt ⊕ (Nat × Nat)} (hp : pLine (tT B n) f i m (r, nv, ns, nl, e) = some res) : pd_Ev G mi_X9_readsLine 26 0 0 [.ref (pd_z G + 119)] (SD, false, I, L, R) (pd_re R (LL I L B n res)) := by
  have hr := hJ.1
  have hm := hJ.2.1
  have hse := ckR_self hr
  have hkd : ∀ j, (tT B n).1 j = tkK B n (tq B n j) := fun _ => rfl
  have hfG : ∀ (I' : Nat → Nat → Int32) (z : LSt), FO I I' → GZ I' B n z.2.2.1 (rl_ks z.2.2.2.2.2.2) 0 z.1 → I' 119 15 = nI (z.2.1 / 16) → pTold (tT B n) f i m (r, nv, ns, nl, e) = some (.inl z) → pd_At G mi_X9_readsLine 26 0 0 0 0 244 [some (.ref (pd_z G + 119)), some (.int (nI (tq B n i)))] [] (SD, false, I', L, R) (pd_re R (LL I L B n res)) := by
    intro I' z hF hG h15 ht
    unfold pLine at hp
    rw [ht] at hp
    dsimp only at hp
    rw [hkd] at hp
    by_cases h59 : tkK B n (tq B n z.1) = 59
    · rw [if_pos h59] at hp
      cases hp
      refine at_aload_n dX9_readsLine_244 rfl ?_
      refine at_bipush dX9_readsLine_245 pc_b59 ?_
      refine at_cv1 cvX9_167 sd_119 (ev_gz_must1 (c := 59) hR hG (by decide) (by decide) (by decide) (by decide) h59) (by decide) ⟨Nat.le_refl _, Nat.le_refl _⟩ (Nat.le_of_ble_eq_true rfl) dX9_readsLine_247 (pd_ke fun I3 L3 hq3 => ?_)
      obtain ⟨rfl, hF3, hZ3⟩ := hq3
      refine at_vret rfl dX9_readsLine_250 ?_
      exact ⟨rfl, _, _, rfl, rfl, hF.tr hF3.fo, hZ3, by rw [hF3.2 15 (by decide) (by decide) (by decide) (by decide) (by decide)]; exact h15⟩
    · rw [if_neg h59] at hp
      cases hp
      refine at_aload_n dX9_readsLine_244 rfl ?_
      refine at_bipush dX9_readsLine_245 pc_b59 ?_
      refine at_cv1 cvX9_167 sd_119 (ev_gz_must0 (c := 59) hR hG (by decide) (by decide) (by decide) (by decide) h59) (by decide) ⟨Nat.le_refl _, Nat.le_refl _⟩ (Nat.le_of_ble_eq_true rfl) dX9_readsLine_247 (pd_ke fun I3 L3 hq3 => ?_)
      obtain ⟨rfl, hF3, hZ3⟩ := hq3
      refine at_vret rfl dX9_readsLine_250 ?_
      exact ⟨rfl, _, _, rfl, rfl, hF.tr hF3.fo, hZ3.mono (by decide)⟩
  have hfF : ∀ (I' : Nat → Nat → Int32) (z : Nat × Nat), FO I I' → FZ I' B n 3 z → pTold (tT B n) f i m (r, nv, ns, nl, e) = some (.inr z) → pd_At G mi_X9_readsLine 26 0 0 0 0 244 [some (.ref (pd_z G + 119)), some (.int (nI (tq B n i)))] [] (SD, false, I', L, R) (pd_re R (LL I L B n res)) := by
    intro I' z hF hG ht
    unfold pLine at hp
    rw [ht] at hp
    cases hp
    refine at_aload_n dX9_readsLine_244 rfl ?_
    refine at_bipush dX9_readsLine_245 pc_b59 ?_
    refine at_cv1 cvX9_167 sd_119 (ev_X9_mustF hR hG.nf _) (by decide) ⟨Nat.le_refl _, Nat.le_refl _⟩ (Nat.le_of_ble_eq_true rfl) dX9_readsLine_247 (pd_k0 ?_)
    refine at_vret rfl dX9_readsLine_250 ?_
    exact ⟨rfl, _, _, rfl, rfl, hF, hG⟩
  obtain ⟨K, hK⟩ : ∃ K, K = pd_up I 119 4 (nI (tq B n i)) := ⟨_, rfl⟩
  have hKZ : GZ K B n r (rl_ks e) 0 i := by rw [hK]; exact hZ.here
  have hKA : K 119 4 = nI (tq B n i) := by rw [hK]; exact pd_up_at
  have hK15 : K 119 15 = nI (m / 16) := by rw [hK, pd_up_nj (by decide)]; exact ho
  have hKF : FO I K := by rw [hK]; exact FO.rf.up (by decide)
  have hNX : GZ (pd_up K 119 4 (nI (tkE B n (tq B n i)))) B n r (rl_ks e) 0 (i + 1) := hKZ.next rfl
  have h32 : m / 16 < 32 := by omega
  have hKw : ∀ c, 1 ≤ c ∧ c ≤ 5 → FZ (pd_up (pd_up K 119 6 (nI c)) 119 7 (nI (tq B n i))) B n 3 (c, tq B n i) := fun c hc => by
    have hw := hKZ.wr (p := tq B n i) (c := c) (q := tq B n i) (tq_le i) hc
    rw [pd_up_same hKA] at hw
    exact hw.mono (by decide)
  have hKq : RQ K 123 r := by have := hKZ.2.2.2.2.2.1; rwa [hse] at this
  refine pd_ev 1 (lo := [some (.ref (pd_z G + 119)), none]) (by decide +kernel) (Nat.le_of_ble_eq_true rfl) rfl ?_
  by_cases k1 : tkK B n (tq B n i) = 1
  · have hk := k1
    cases hv : pVoter (tT B n) i m (r, nv, ns, nl, e) with
    | inl z =>
      refine at_aload_n dX9_readsLine_0 rfl ?_
      refine at_cv0 cvX9_70 sd_119 (ev_gz_here hR hZ) (by decide) ⟨Nat.le_refl _, Nat.le_refl _⟩ (Nat.le_of_ble_eq_true rfl) dX9_readsLine_1 (pd_k1 ?_)
      rw [← hK]
      refine at_pop dX9_readsLine_4 rfl ?_
      refine at_aload_n dX9_readsLine_5 rfl ?_
      refine at_geti flX9_57 rfl sd_119 dX9_readsLine_6 ?_
      rw [hKA]
      refine at_istore_n dX9_readsLine_9 rfl (Nat.le_of_ble_eq_true rfl) ?_
      refine at_aload_n dX9_readsLine_10 rfl ?_
      refine at_ldcS sw9_voter rfl dX9_readsLine_11 (fun hS11 => ?_)
      refine at_cv1 cvX9_150 sd_119 (ev_tkY hR hKZ hKA 0 (by decide) hS11 hk) (by decide) ⟨Nat.le_refl _, Nat.le_refl _⟩ (Nat.le_of_ble_eq_true rfl) dX9_readsLine_13 (pd_k1 ?_)
      refine at_ifeq (tgt := 27) dX9_readsLine_16 (by decide) (fun c16 => ?_) (fun c16 => ?_)
      · -- taken 16
        exact absurd c16 (by decide)
      · -- not taken 16
        refine at_aload_n dX9_readsLine_19 rfl ?_
        refine at_iload_n dX9_readsLine_20 rfl ?_
        refine at_cv1 cvX9_182 sd_119 (ev_gz_voter (m := m) hR hNX hJ) (by decide) ⟨Nat.le_refl _, Nat.le_refl _⟩ (Nat.le_of_ble_eq_true rfl) dX9_readsLine_21 (pd_ke fun I2 L2 hq => ?_)
        obtain ⟨rfl, hF2, hZ2⟩ := hq
        rw [hv] at hZ2
        refine at_goto (tgt := 244) dX9_readsLine_24 (by decide) ?_
        exact hfG _ z (((hKF.up (by decide))).tr hF2.fo) hZ2 (by rw [hF2.2 15 (by decide) (by decide) (by decide) (by decide) (by decide), pd_up_nj (by decide), hK15, pVoter_m hv]) (by rw [pTold, if_pos (show (tT B n).1 i = 1 from hk), hv])
    | inr z =>
      refine at_aload_n dX9_readsLine_0 rfl ?_
      refine at_cv0 cvX9_70 sd_119 (ev_gz_here hR hZ) (by decide) ⟨Nat.le_refl _, Nat.le_refl _⟩ (Nat.le_of_ble_eq_true rfl) dX9_readsLine_1 (pd_k1 ?_)
      rw [← hK]
      refine at_pop dX9_readsLine_4 rfl ?_
      refine at_aload_n dX9_readsLine_5 rfl ?_
      refine at_geti flX9_57 rfl sd_119 dX9_readsLine_6 ?_
      rw [hKA]
      refine at_istore_n dX9_readsLine_9 rfl (Nat.le_of_ble_eq_true rfl) ?_
      refine at_aload_n dX9_readsLine_10 rfl ?_
      refine at_ldcS sw9_voter rfl dX9_readsLine_11 (fun hS11 => ?_)
      refine at_cv1 cvX9_150 sd_119 (ev_tkY hR hKZ hKA 0 (by decide) hS11 hk) (by decide) ⟨Nat.le_refl _, Nat.le_refl _⟩ (Nat.le_of_ble_eq_true rfl) dX9_readsLine_13 (pd_k1 ?_)
      refine at_ifeq (tgt := 27) dX9_readsLine_16 (by decide) (fun c16 => ?_) (fun c16 => ?_)
      · -- taken 16
        exact absurd c16 (by decide)
      · -- not taken 16
        refine at_aload_n dX9_readsLine_19 rfl ?_
        refine at_iload_n dX9_readsLine_20 rfl ?_
        refine at_cv1 cvX9_182 sd_119 (ev_gz_voter (m := m) hR hNX hJ) (by decide) ⟨Nat.le_refl _, Nat.le_refl _⟩ (Nat.le_of_ble_eq_true rfl) dX9_readsLine_21 (pd_ke fun I2 L2 hq => ?_)
        obtain ⟨rfl, hF2, hZ2⟩ := hq
        rw [hv] at hZ2
        refine at_goto (tgt := 244) dX9_readsLine_24 (by decide) ?_
        exact hfF _ z (((hKF.up (by decide))).tr hF2.fo) hZ2 (by rw [pTold, if_pos (show (tT B n).1 i = 1 from hk), hv])
  by_cases k2 : tkK B n (tq B n i) = 2
  · have hk := k2
    have q1 : pd_up K 119 4 (nI (tkE B n (tq B n i))) 123 (1 : Int32).toNatClampNeg = nI ns := by rw [pd_up_nb (by decide)]; exact (hKq 1 (by decide)).trans hr.2.1.1
    have hs8 := hr.2.1.2
    by_cases h8 : 8 ≤ ns
    · have e8 : ns = 8 := by omega
      have hw := hNX.wr (p := tkE B n (tq B n i)) (c := 4) (q := tq B n i) (tkE_le (tq_le i)) (by decide)
      rw [pd_up_same pd_up_at] at hw
      refine at_aload_n dX9_readsLine_0 rfl ?_
      refine at_cv0 cvX9_70 sd_119 (ev_gz_here hR hZ) (by decide) ⟨Nat.le_refl _, Nat.le_refl _⟩ (Nat.le_of_ble_eq_true rfl) dX9_readsLine_1 (pd_k1 ?_)
      rw [← hK]
      refine at_pop dX9_readsLine_4 rfl ?_
      refine at_aload_n dX9_readsLine_5 rfl ?_
      refine at_geti flX9_57 rfl sd_119 dX9_readsLine_6 ?_
      rw [hKA]
      refine at_istore_n dX9_readsLine_9 rfl (Nat.le_of_ble_eq_true rfl) ?_
      refine at_aload_n dX9_readsLine_10 rfl ?_
      refine at_ldcS sw9_voter rfl dX9_readsLine_11 (fun hS11 => ?_)
      refine at_cv1 cvX9_150 sd_119 (ev_tkN hR hKZ hKA 0 (by decide) hS11 (by rw [hk]; decide)) (by decide) ⟨Nat.le_refl _, Nat.le_refl _⟩ (Nat.le_of_ble_eq_true rfl) dX9_readsLine_13 (pd_k1 ?_)
      refine at_ifeq (tgt := 27) dX9_readsLine_16 (by decide) (fun c16 => ?_) (fun c16 => ?_)
      · -- taken 16
        refine at_aload_n dX9_readsLine_27 rfl ?_
        refine at_ldcS sw9_sheet rfl dX9_readsLine_28 (fun hS28 => ?_)
        refine at_cv1 cvX9_150 sd_119 (ev_tkY hR hKZ hKA 1 (by decide) hS28 hk) (by decide) ⟨Nat.le_refl _, Nat.le_refl _⟩ (Nat.le_of_ble_eq_true rfl) dX9_readsLine_30 (pd_k1 ?_)
        refine at_ifeq (tgt := 69) dX9_readsLine_33 (by decide) (fun c33 => ?_) (fun c33 => ?_)
        · -- taken 33
          exact absurd c33 (by decide)
        · -- not taken 33
          refine at_aload_n dX9_readsLine_36 rfl ?_
          refine at_getr (123) flX9_23 rfl sd_119 (rs_119_10 hR) dX9_readsLine_37 ?_
          refine at_iconst dX9_readsLine_40 pc_i1 ?_
          refine at_iald sd_123 (vp_in_nI (n := 1) (by decide) (by decide)) dX9_readsLine_41 ?_
          rw [q1, e8]
          refine at_bipush dX9_readsLine_42 pc_b8 ?_
          refine at_icmpne (tgt := 56) dX9_readsLine_44 (by decide) (fun c44 => ?_) (fun c44 => ?_)
          · -- taken 44
            exact absurd rfl c44
          · -- not taken 44
            refine at_aload_n dX9_readsLine_47 rfl ?_
            refine at_iconst dX9_readsLine_48 pc_i4 ?_
            refine at_iload_n dX9_readsLine_49 rfl ?_
            refine at_cv2 cvX9_95 sd_119 (ev_X9_wrong0 hNX.2.2.1 _ _) (by decide) ⟨Nat.le_refl _, Nat.le_refl _⟩ (Nat.le_of_ble_eq_true rfl) dX9_readsLine_50 (pd_k0 ?_)
            refine at_goto (tgt := 244) dX9_readsLine_53 (by decide) ?_
            exact hfF _ (4, tq B n i) (((hKF.up (by decide)).up (by decide)).up (by decide)) (hw.mono (by decide)) (by rw [pTold, if_neg (show ¬ (tT B n).1 i = 1 from by rw [hkd, hk]; decide), if_pos (show (tT B n).1 i = 2 from hk), pSheet, if_pos h8]; rfl)
      · -- not taken 16
        exact absurd rfl c16
    · have hrow := (hJ.sheet (by omega)).1
      have en : ¬ nI ns = 8 := fun q => by have := (nI_eq (b := 8) (by omega) (by decide)).mp q; omega
      have hG2 : GZ (pd_up (pd_up K 119 4 (nI (tkE B n (tq B n i)))) 123 1 (nI (ns + 1))) B n (shR r ns) (rl_ks e) 0 (i + 1) := hNX.row (fun x j hx => pd_up_nb hx) (by
        rw [ckR_self hrow]
        intro k hk2
        unfold shR upd
        by_cases hk3 : k = 1
        · subst hk3; rw [pd_up_at, if_pos rfl]
        · rw [pd_up_nj hk3, if_neg hk3, pd_up_nb (by decide)]; exact hKq k hk2)
      refine at_aload_n dX9_readsLine_0 rfl ?_
      refine at_cv0 cvX9_70 sd_119 (ev_gz_here hR hZ) (by decide) ⟨Nat.le_refl _, Nat.le_refl _⟩ (Nat.le_of_ble_eq_true rfl) dX9_readsLine_1 (pd_k1 ?_)
      rw [← hK]
      refine at_pop dX9_readsLine_4 rfl ?_
      refine at_aload_n dX9_readsLine_5 rfl ?_
      refine at_geti flX9_57 rfl sd_119 dX9_readsLine_6 ?_
      rw [hKA]
      refine at_istore_n dX9_readsLine_9 rfl (Nat.le_of_ble_eq_true rfl) ?_
      refine at_aload_n dX9_readsLine_10 rfl ?_
      refine at_ldcS sw9_voter rfl dX9_readsLine_11 (fun hS11 => ?_)
      refine at_cv1 cvX9_150 sd_119 (ev_tkN hR hKZ hKA 0 (by decide) hS11 (by rw [hk]; decide)) (by decide) ⟨Nat.le_refl _, Nat.le_refl _⟩ (Nat.le_of_ble_eq_true rfl) dX9_readsLine_13 (pd_k1 ?_)
      refine at_ifeq (tgt := 27) dX9_readsLine_16 (by decide) (fun c16 => ?_) (fun c16 => ?_)
      · -- taken 16
        refine at_aload_n dX9_readsLine_27 rfl ?_
        refine at_ldcS sw9_sheet rfl dX9_readsLine_28 (fun hS28 => ?_)
        refine at_cv1 cvX9_150 sd_119 (ev_tkY hR hKZ hKA 1 (by decide) hS28 hk) (by decide) ⟨Nat.le_refl _, Nat.le_refl _⟩ (Nat.le_of_ble_eq_true rfl) dX9_readsLine_30 (pd_k1 ?_)
        refine at_ifeq (tgt := 69) dX9_readsLine_33 (by decide) (fun c33 => ?_) (fun c33 => ?_)
        · -- taken 33
          exact absurd c33 (by decide)
        · -- not taken 33
          refine at_aload_n dX9_readsLine_36 rfl ?_
          refine at_getr (123) flX9_23 rfl sd_119 (rs_119_10 hR) dX9_readsLine_37 ?_
          refine at_iconst dX9_readsLine_40 pc_i1 ?_
          refine at_iald sd_123 (vp_in_nI (n := 1) (by decide) (by decide)) dX9_readsLine_41 ?_
          rw [q1]
          refine at_bipush dX9_readsLine_42 pc_b8 ?_
          refine at_icmpne (tgt := 56) dX9_readsLine_44 (by decide) (fun c44 => ?_) (fun c44 => ?_)
          · -- taken 44
            refine at_aload_n dX9_readsLine_56 rfl ?_
            refine at_getr (123) flX9_23 rfl sd_119 (rs_119_10 hR) dX9_readsLine_57 ?_
            refine at_iconst dX9_readsLine_60 pc_i1 ?_
            refine at_dup2 dX9_readsLine_61 rfl rfl ?_
            refine at_iald sd_123 (vp_in_nI (n := 1) (by decide) (by decide)) dX9_readsLine_62 ?_
            rw [q1]
            refine at_iconst dX9_readsLine_63 pc_i1 ?_
            refine at_iadd dX9_readsLine_64 ?_
            rw [nI_1]
            refine at_iast sd_123 (vp_in_nI (n := 1) (by decide) (by decide)) dX9_readsLine_65 ?_
            refine at_goto (tgt := 244) dX9_readsLine_66 (by decide) ?_
            exact hfG _ (i + 1, m, shR r ns, nv, ns + 1, nl, e) ((hKF.up (by decide)).up3) hG2 (by rw [pd_up_nb (by decide), pd_up_nj (by decide)]; exact hK15) (by rw [pTold, if_neg (show ¬ (tT B n).1 i = 1 from by rw [hkd, hk]; decide), if_pos (show (tT B n).1 i = 2 from hk), pSheet, if_neg h8])
          · -- not taken 44
            exact absurd c44 en
      · -- not taken 16
        exact absurd rfl c16
  by_cases k3 : tkK B n (tq B n i) = 3
  · have hk := k3
    cases hv : pSign (tT B n) i m (r, nv, ns, nl, e) with
    | inl z =>
      refine at_aload_n dX9_readsLine_0 rfl ?_
      refine at_cv0 cvX9_70 sd_119 (ev_gz_here hR hZ) (by decide) ⟨Nat.le_refl _, Nat.le_refl _⟩ (Nat.le_of_ble_eq_true rfl) dX9_readsLine_1 (pd_k1 ?_)
      rw [← hK]
      refine at_pop dX9_readsLine_4 rfl ?_
      refine at_aload_n dX9_readsLine_5 rfl ?_
      refine at_geti flX9_57 rfl sd_119 dX9_readsLine_6 ?_
      rw [hKA]
      refine at_istore_n dX9_readsLine_9 rfl (Nat.le_of_ble_eq_true rfl) ?_
      refine at_aload_n dX9_readsLine_10 rfl ?_
      refine at_ldcS sw9_voter rfl dX9_readsLine_11 (fun hS11 => ?_)
      refine at_cv1 cvX9_150 sd_119 (ev_tkN hR hKZ hKA 0 (by decide) hS11 (by rw [hk]; decide)) (by decide) ⟨Nat.le_refl _, Nat.le_refl _⟩ (Nat.le_of_ble_eq_true rfl) dX9_readsLine_13 (pd_k1 ?_)
      refine at_ifeq (tgt := 27) dX9_readsLine_16 (by decide) (fun c16 => ?_) (fun c16 => ?_)
      · -- taken 16
        refine at_aload_n dX9_readsLine_27 rfl ?_
        refine at_ldcS sw9_sheet rfl dX9_readsLine_28 (fun hS28 => ?_)
        refine at_cv1 cvX9_150 sd_119 (ev_tkN hR hKZ hKA 1 (by decide) hS28 (by rw [hk]; decide)) (by decide) ⟨Nat.le_refl _, Nat.le_refl _⟩ (Nat.le_of_ble_eq_true rfl) dX9_readsLine_30 (pd_k1 ?_)
        refine at_ifeq (tgt := 69) dX9_readsLine_33 (by decide) (fun c33 => ?_) (fun c33 => ?_)
        · -- taken 33
          refine at_aload_n dX9_readsLine_69 rfl ?_
          refine at_ldcS sw9_sign rfl dX9_readsLine_70 (fun hS70 => ?_)
          refine at_cv1 cvX9_150 sd_119 (ev_tkY hR hKZ hKA 2 (by decide) hS70 hk) (by decide) ⟨Nat.le_refl _, Nat.le_refl _⟩ (Nat.le_of_ble_eq_true rfl) dX9_readsLine_72 (pd_k1 ?_)
          refine at_ifeq (tgt := 86) dX9_readsLine_75 (by decide) (fun c75 => ?_) (fun c75 => ?_)
          · -- taken 75
            exact absurd c75 (by decide)
          · -- not taken 75
            refine at_aload_n dX9_readsLine_78 rfl ?_
            refine at_iload_n dX9_readsLine_79 rfl ?_
            refine at_cv1 cvX9_187 sd_119 (ev_gz_sign (m := m) hR hNX hJ) (by decide) ⟨Nat.le_refl _, Nat.le_refl _⟩ (Nat.le_of_ble_eq_true rfl) dX9_readsLine_80 (pd_ke fun I2 L2 hq => ?_)
            obtain ⟨rfl, hF2, hZ2⟩ := hq
            rw [hv] at hZ2
            refine at_goto (tgt := 244) dX9_readsLine_83 (by decide) ?_
            exact hfG _ z (((hKF.up (by decide))).tr hF2.fo) hZ2 (by rw [hF2.2 15 (by decide) (by decide) (by decide) (by decide) (by decide), pd_up_nj (by decide), hK15, pSign_m hv]) (by rw [pTold, if_neg (show ¬ (tT B n).1 i = 1 from by rw [hkd, hk]; decide), if_neg (show ¬ (tT B n).1 i = 2 from by rw [hkd, hk]; decide), if_pos (show (tT B n).1 i = 3 from hk), hv])
        · -- not taken 33
          exact absurd rfl c33
      · -- not taken 16
        exact absurd rfl c16
    | inr z =>
      refine at_aload_n dX9_readsLine_0 rfl ?_
      refine at_cv0 cvX9_70 sd_119 (ev_gz_here hR hZ) (by decide) ⟨Nat.le_refl _, Nat.le_refl _⟩ (Nat.le_of_ble_eq_true rfl) dX9_readsLine_1 (pd_k1 ?_)
      rw [← hK]
      refine at_pop dX9_readsLine_4 rfl ?_
      refine at_aload_n dX9_readsLine_5 rfl ?_
      refine at_geti flX9_57 rfl sd_119 dX9_readsLine_6 ?_
      rw [hKA]
      refine at_istore_n dX9_readsLine_9 rfl (Nat.le_of_ble_eq_true rfl) ?_
      refine at_aload_n dX9_readsLine_10 rfl ?_
      refine at_ldcS sw9_voter rfl dX9_readsLine_11 (fun hS11 => ?_)
      refine at_cv1 cvX9_150 sd_119 (ev_tkN hR hKZ hKA 0 (by decide) hS11 (by rw [hk]; decide)) (by decide) ⟨Nat.le_refl _, Nat.le_refl _⟩ (Nat.le_of_ble_eq_true rfl) dX9_readsLine_13 (pd_k1 ?_)
      refine at_ifeq (tgt := 27) dX9_readsLine_16 (by decide) (fun c16 => ?_) (fun c16 => ?_)
      · -- taken 16
        refine at_aload_n dX9_readsLine_27 rfl ?_
        refine at_ldcS sw9_sheet rfl dX9_readsLine_28 (fun hS28 => ?_)
        refine at_cv1 cvX9_150 sd_119 (ev_tkN hR hKZ hKA 1 (by decide) hS28 (by rw [hk]; decide)) (by decide) ⟨Nat.le_refl _, Nat.le_refl _⟩ (Nat.le_of_ble_eq_true rfl) dX9_readsLine_30 (pd_k1 ?_)
        refine at_ifeq (tgt := 69) dX9_readsLine_33 (by decide) (fun c33 => ?_) (fun c33 => ?_)
        · -- taken 33
          refine at_aload_n dX9_readsLine_69 rfl ?_
          refine at_ldcS sw9_sign rfl dX9_readsLine_70 (fun hS70 => ?_)
          refine at_cv1 cvX9_150 sd_119 (ev_tkY hR hKZ hKA 2 (by decide) hS70 hk) (by decide) ⟨Nat.le_refl _, Nat.le_refl _⟩ (Nat.le_of_ble_eq_true rfl) dX9_readsLine_72 (pd_k1 ?_)
          refine at_ifeq (tgt := 86) dX9_readsLine_75 (by decide) (fun c75 => ?_) (fun c75 => ?_)
          · -- taken 75
            exact absurd c75 (by decide)
          · -- not taken 75
            refine at_aload_n dX9_readsLine_78 rfl ?_
            refine at_iload_n dX9_readsLine_79 rfl ?_
            refine at_cv1 cvX9_187 sd_119 (ev_gz_sign (m := m) hR hNX hJ) (by decide) ⟨Nat.le_refl _, Nat.le_refl _⟩ (Nat.le_of_ble_eq_true rfl) dX9_readsLine_80 (pd_ke fun I2 L2 hq => ?_)
            obtain ⟨rfl, hF2, hZ2⟩ := hq
            rw [hv] at hZ2
            refine at_goto (tgt := 244) dX9_readsLine_83 (by decide) ?_
            exact hfF _ z (((hKF.up (by decide))).tr hF2.fo) hZ2 (by rw [pTold, if_neg (show ¬ (tT B n).1 i = 1 from by rw [hkd, hk]; decide), if_neg (show ¬ (tT B n).1 i = 2 from by rw [hkd, hk]; decide), if_pos (show (tT B n).1 i = 3 from hk), hv])
        · -- not taken 33
          exact absurd rfl c33
      · -- not taken 16
        exact absurd rfl c16
  by_cases k4 : tkK B n (tq B n i) = 4
  · have hk := k4
    cases hbt : m.testBit 4 with
    | true =>
      refine at_aload_n dX9_readsLine_0 rfl ?_
      refine at_cv0 cvX9_70 sd_119 (ev_gz_here hR hZ) (by decide) ⟨Nat.le_refl _, Nat.le_refl _⟩ (Nat.le_of_ble_eq_true rfl) dX9_readsLine_1 (pd_k1 ?_)
      rw [← hK]
      refine at_pop dX9_readsLine_4 rfl ?_
      refine at_aload_n dX9_readsLine_5 rfl ?_
      refine at_geti flX9_57 rfl sd_119 dX9_readsLine_6 ?_
      rw [hKA]
      refine at_istore_n dX9_readsLine_9 rfl (Nat.le_of_ble_eq_true rfl) ?_
      refine at_aload_n dX9_readsLine_10 rfl ?_
      refine at_ldcS sw9_voter rfl dX9_readsLine_11 (fun hS11 => ?_)
      refine at_cv1 cvX9_150 sd_119 (ev_tkN hR hKZ hKA 0 (by decide) hS11 (by rw [hk]; decide)) (by decide) ⟨Nat.le_refl _, Nat.le_refl _⟩ (Nat.le_of_ble_eq_true rfl) dX9_readsLine_13 (pd_k1 ?_)
      refine at_ifeq (tgt := 27) dX9_readsLine_16 (by decide) (fun c16 => ?_) (fun c16 => ?_)
      · -- taken 16
        refine at_aload_n dX9_readsLine_27 rfl ?_
        refine at_ldcS sw9_sheet rfl dX9_readsLine_28 (fun hS28 => ?_)
        refine at_cv1 cvX9_150 sd_119 (ev_tkN hR hKZ hKA 1 (by decide) hS28 (by rw [hk]; decide)) (by decide) ⟨Nat.le_refl _, Nat.le_refl _⟩ (Nat.le_of_ble_eq_true rfl) dX9_readsLine_30 (pd_k1 ?_)
        refine at_ifeq (tgt := 69) dX9_readsLine_33 (by decide) (fun c33 => ?_) (fun c33 => ?_)
        · -- taken 33
          refine at_aload_n dX9_readsLine_69 rfl ?_
          refine at_ldcS sw9_sign rfl dX9_readsLine_70 (fun hS70 => ?_)
          refine at_cv1 cvX9_150 sd_119 (ev_tkN hR hKZ hKA 2 (by decide) hS70 (by rw [hk]; decide)) (by decide) ⟨Nat.le_refl _, Nat.le_refl _⟩ (Nat.le_of_ble_eq_true rfl) dX9_readsLine_72 (pd_k1 ?_)
          refine at_ifeq (tgt := 86) dX9_readsLine_75 (by decide) (fun c75 => ?_) (fun c75 => ?_)
          · -- taken 75
            refine at_aload_n dX9_readsLine_86 rfl ?_
            refine at_ldcS sw9_need rfl dX9_readsLine_87 (fun hS87 => ?_)
            refine at_iconst dX9_readsLine_89 pc_i0 ?_
            refine at_cv2 cvX9_192 sd_119 (ev_onN hR hKZ hKA hK15 h32 3 0 (by decide) (by decide) hS87 (Or.inl (by rw [m16_bit]; exact hbt))) (by decide) ⟨Nat.le_refl _, Nat.le_refl _⟩ (Nat.le_of_ble_eq_true rfl) dX9_readsLine_90 (pd_k1 ?_)
            refine at_ifeq (tgt := 112) dX9_readsLine_93 (by decide) (fun c93 => ?_) (fun c93 => ?_)
            · -- taken 93
              refine at_aload_n dX9_readsLine_112 rfl ?_
              refine at_ldcS sw9_span rfl dX9_readsLine_113 (fun hS113 => ?_)
              refine at_iconst dX9_readsLine_115 pc_i1 ?_
              refine at_cv2 cvX9_192 sd_119 (ev_onN hR hKZ hKA hK15 h32 4 1 (by decide) (by decide) hS113 (Or.inr (by rw [hk]; decide))) (by decide) ⟨Nat.le_refl _, Nat.le_refl _⟩ (Nat.le_of_ble_eq_true rfl) dX9_readsLine_116 (pd_k1 ?_)
              refine at_ifeq (tgt := 158) dX9_readsLine_119 (by decide) (fun c119 => ?_) (fun c119 => ?_)
              · -- taken 119
                refine at_aload_n dX9_readsLine_158 rfl ?_
                refine at_ldcS sw9_spoilt rfl dX9_readsLine_159 (fun hS159 => ?_)
                refine at_iconst dX9_readsLine_161 pc_i2 ?_
                refine at_cv2 cvX9_192 sd_119 (ev_onN hR hKZ hKA hK15 h32 5 2 (by decide) (by decide) hS159 (Or.inr (by rw [hk]; decide))) (by decide) ⟨Nat.le_refl _, Nat.le_refl _⟩ (Nat.le_of_ble_eq_true rfl) dX9_readsLine_162 (pd_k1 ?_)
                refine at_ifeq (tgt := 185) dX9_readsLine_165 (by decide) (fun c165 => ?_) (fun c165 => ?_)
                · -- taken 165
                  refine at_aload_n dX9_readsLine_185 rfl ?_
                  refine at_ldcS sw9_alpha rfl dX9_readsLine_186 (fun hS186 => ?_)
                  refine at_iconst dX9_readsLine_188 pc_i3 ?_
                  refine at_cv2 cvX9_192 sd_119 (ev_onN hR hKZ hKA hK15 h32 6 3 (by decide) (by decide) hS186 (Or.inr (by rw [hk]; decide))) (by decide) ⟨Nat.le_refl _, Nat.le_refl _⟩ (Nat.le_of_ble_eq_true rfl) dX9_readsLine_189 (pd_k1 ?_)
                  refine at_ifeq (tgt := 213) dX9_readsLine_192 (by decide) (fun c192 => ?_) (fun c192 => ?_)
                  · -- taken 192
                    refine at_aload_n dX9_readsLine_213 rfl ?_
                    refine at_ldcS sw9_good rfl dX9_readsLine_214 (fun hS214 => ?_)
                    refine at_iconst dX9_readsLine_216 pc_i4 ?_
                    refine at_cv2 cvX9_192 sd_119 (ev_onN hR hKZ hKA hK15 h32 7 4 (by decide) (by decide) hS214 (Or.inr (by rw [hk]; decide))) (by decide) ⟨Nat.le_refl _, Nat.le_refl _⟩ (Nat.le_of_ble_eq_true rfl) dX9_readsLine_217 (pd_k1 ?_)
                    refine at_ifeq (tgt := 238) dX9_readsLine_220 (by decide) (fun c220 => ?_) (fun c220 => ?_)
                    · -- taken 220
                      refine at_aload_n dX9_readsLine_238 rfl ?_
                      refine at_iconst dX9_readsLine_239 pc_i1 ?_
                      refine at_iload_n dX9_readsLine_240 rfl ?_
                      refine at_cv2 cvX9_95 sd_119 (ev_X9_wrong0 hKZ.2.2.1 _ _) (by decide) ⟨Nat.le_refl _, Nat.le_refl _⟩ (Nat.le_of_ble_eq_true rfl) dX9_readsLine_241 (pd_k0 ?_)
                      exact hfF _ (1, tq B n i) ((hKF.up (by decide)).up (by decide)) (hKw 1 (by decide)) (by rw [pTold, if_neg (show ¬ (tT B n).1 i = 1 from by rw [hkd, hk]; decide), if_neg (show ¬ (tT B n).1 i = 2 from by rw [hkd, hk]; decide), if_neg (show ¬ (tT B n).1 i = 3 from by rw [hkd, hk]; decide), if_pos (show (tT B n).1 i = 4 from hk), pOne, hkd, hk, if_pos hbt]; rfl)
                    · -- not taken 220
                      exact absurd rfl c220
                  · -- not taken 192
                    exact absurd rfl c192
                · -- not taken 165
                  exact absurd rfl c165
              · -- not taken 119
                exact absurd rfl c119
            · -- not taken 93
              exact absurd rfl c93
          · -- not taken 75
            exact absurd rfl c75
        · -- not taken 33
          exact absurd rfl c33
      · -- not taken 16
        exact absurd rfl c16
    | false =>
      have hbf := hbt
      have hG1 : GZ (pd_up (pd_up K 119 4 (nI (tkE B n (tq B n i)))) 119 15 (nI ((m ||| 2 ^ 4) / 16))) B n r (rl_ks e) 0 (i + 1) := hNX.on
      have hF1 : FO I (pd_up (pd_up K 119 4 (nI (tkE B n (tq B n i)))) 119 15 (nI ((m ||| 2 ^ 4) / 16))) := (hKF.up (by decide)).up (by decide)
      cases hN : pNum (tT B n) (i + 1) 0 40 with
      | inr z =>
        refine at_aload_n dX9_readsLine_0 rfl ?_
        refine at_cv0 cvX9_70 sd_119 (ev_gz_here hR hZ) (by decide) ⟨Nat.le_refl _, Nat.le_refl _⟩ (Nat.le_of_ble_eq_true rfl) dX9_readsLine_1 (pd_k1 ?_)
        rw [← hK]
        refine at_pop dX9_readsLine_4 rfl ?_
        refine at_aload_n dX9_readsLine_5 rfl ?_
        refine at_geti flX9_57 rfl sd_119 dX9_readsLine_6 ?_
        rw [hKA]
        refine at_istore_n dX9_readsLine_9 rfl (Nat.le_of_ble_eq_true rfl) ?_
        refine at_aload_n dX9_readsLine_10 rfl ?_
        refine at_ldcS sw9_voter rfl dX9_readsLine_11 (fun hS11 => ?_)
        refine at_cv1 cvX9_150 sd_119 (ev_tkN hR hKZ hKA 0 (by decide) hS11 (by rw [hk]; decide)) (by decide) ⟨Nat.le_refl _, Nat.le_refl _⟩ (Nat.le_of_ble_eq_true rfl) dX9_readsLine_13 (pd_k1 ?_)
        refine at_ifeq (tgt := 27) dX9_readsLine_16 (by decide) (fun c16 => ?_) (fun c16 => ?_)
        · -- taken 16
          refine at_aload_n dX9_readsLine_27 rfl ?_
          refine at_ldcS sw9_sheet rfl dX9_readsLine_28 (fun hS28 => ?_)
          refine at_cv1 cvX9_150 sd_119 (ev_tkN hR hKZ hKA 1 (by decide) hS28 (by rw [hk]; decide)) (by decide) ⟨Nat.le_refl _, Nat.le_refl _⟩ (Nat.le_of_ble_eq_true rfl) dX9_readsLine_30 (pd_k1 ?_)
          refine at_ifeq (tgt := 69) dX9_readsLine_33 (by decide) (fun c33 => ?_) (fun c33 => ?_)
          · -- taken 33
            refine at_aload_n dX9_readsLine_69 rfl ?_
            refine at_ldcS sw9_sign rfl dX9_readsLine_70 (fun hS70 => ?_)
            refine at_cv1 cvX9_150 sd_119 (ev_tkN hR hKZ hKA 2 (by decide) hS70 (by rw [hk]; decide)) (by decide) ⟨Nat.le_refl _, Nat.le_refl _⟩ (Nat.le_of_ble_eq_true rfl) dX9_readsLine_72 (pd_k1 ?_)
            refine at_ifeq (tgt := 86) dX9_readsLine_75 (by decide) (fun c75 => ?_) (fun c75 => ?_)
            · -- taken 75
              refine at_aload_n dX9_readsLine_86 rfl ?_
              refine at_ldcS sw9_need rfl dX9_readsLine_87 (fun hS87 => ?_)
              refine at_iconst dX9_readsLine_89 pc_i0 ?_
              refine at_cv2 cvX9_192 sd_119 (ev_onY hR hKZ hKA hK15 h32 3 0 (by decide) (by decide) hS87 (by rw [m16_bit]; exact hbf) hk) (by decide) ⟨Nat.le_refl _, Nat.le_refl _⟩ (Nat.le_of_ble_eq_true rfl) dX9_readsLine_90 (pd_k1 ?_)
              rw [m16_or]
              refine at_ifeq (tgt := 112) dX9_readsLine_93 (by decide) (fun c93 => ?_) (fun c93 => ?_)
              · -- taken 93
                exact absurd c93 (by decide)
              · -- not taken 93
                refine at_aload_n dX9_readsLine_96 rfl ?_
                refine at_getr (123) flX9_23 rfl sd_119 (rs_119_10 hR) dX9_readsLine_97 ?_
                refine at_iconst dX9_readsLine_100 pc_i3 ?_
                refine at_aload_n dX9_readsLine_101 rfl ?_
                refine at_iconst dX9_readsLine_102 pc_i0 ?_
                refine at_bipush dX9_readsLine_103 pc_b40 ?_
                refine at_cv2 cvX9_117 sd_119 (ev_gz_num0 (lo := 0) (hi := 40) hR hG1 (by decide) (by decide) hN) (by decide) ⟨Nat.le_refl _, Nat.le_refl _⟩ (Nat.le_of_ble_eq_true rfl) dX9_readsLine_105 (pd_ki fun v I2 L2 hq => ?_)
                obtain ⟨rfl, hF2, hZ2⟩ := hq
                refine at_iast sd_123 (vp_in_nI (n := 3) (by decide) (by decide)) dX9_readsLine_108 ?_
                refine at_goto (tgt := 244) dX9_readsLine_109 (by decide) ?_
                exact hfF _ z ((hF1.tr hF2.fo).up3) (hZ2.mono (by decide)).up3 (by rw [pTold, if_neg (show ¬ (tT B n).1 i = 1 from by rw [hkd, hk]; decide), if_neg (show ¬ (tT B n).1 i = 2 from by rw [hkd, hk]; decide), if_neg (show ¬ (tT B n).1 i = 3 from by rw [hkd, hk]; decide), if_pos (show (tT B n).1 i = 4 from hk), pOne, hkd, hk, hbt, if_neg (by decide), hN])
            · -- not taken 75
              exact absurd rfl c75
          · -- not taken 33
            exact absurd rfl c33
        · -- not taken 16
          exact absurd rfl c16
      | inl v =>
        obtain ⟨n1, n2, n3, n4⟩ := pNum_ok hN
        have hrow := (LJ.few (k := 3) (v := v) (m' := m ||| 2 ^ 4) hJ (by decide) (fun q => by omega) (fun q => by omega) (or_lt hm (by decide)) (by rw [or_bit, decide_eq_false (by decide), Bool.or_false])).1
        refine at_aload_n dX9_readsLine_0 rfl ?_
        refine at_cv0 cvX9_70 sd_119 (ev_gz_here hR hZ) (by decide) ⟨Nat.le_refl _, Nat.le_refl _⟩ (Nat.le_of_ble_eq_true rfl) dX9_readsLine_1 (pd_k1 ?_)
        rw [← hK]
        refine at_pop dX9_readsLine_4 rfl ?_
        refine at_aload_n dX9_readsLine_5 rfl ?_
        refine at_geti flX9_57 rfl sd_119 dX9_readsLine_6 ?_
        rw [hKA]
        refine at_istore_n dX9_readsLine_9 rfl (Nat.le_of_ble_eq_true rfl) ?_
        refine at_aload_n dX9_readsLine_10 rfl ?_
        refine at_ldcS sw9_voter rfl dX9_readsLine_11 (fun hS11 => ?_)
        refine at_cv1 cvX9_150 sd_119 (ev_tkN hR hKZ hKA 0 (by decide) hS11 (by rw [hk]; decide)) (by decide) ⟨Nat.le_refl _, Nat.le_refl _⟩ (Nat.le_of_ble_eq_true rfl) dX9_readsLine_13 (pd_k1 ?_)
        refine at_ifeq (tgt := 27) dX9_readsLine_16 (by decide) (fun c16 => ?_) (fun c16 => ?_)
        · -- taken 16
          refine at_aload_n dX9_readsLine_27 rfl ?_
          refine at_ldcS sw9_sheet rfl dX9_readsLine_28 (fun hS28 => ?_)
          refine at_cv1 cvX9_150 sd_119 (ev_tkN hR hKZ hKA 1 (by decide) hS28 (by rw [hk]; decide)) (by decide) ⟨Nat.le_refl _, Nat.le_refl _⟩ (Nat.le_of_ble_eq_true rfl) dX9_readsLine_30 (pd_k1 ?_)
          refine at_ifeq (tgt := 69) dX9_readsLine_33 (by decide) (fun c33 => ?_) (fun c33 => ?_)
          · -- taken 33
            refine at_aload_n dX9_readsLine_69 rfl ?_
            refine at_ldcS sw9_sign rfl dX9_readsLine_70 (fun hS70 => ?_)
            refine at_cv1 cvX9_150 sd_119 (ev_tkN hR hKZ hKA 2 (by decide) hS70 (by rw [hk]; decide)) (by decide) ⟨Nat.le_refl _, Nat.le_refl _⟩ (Nat.le_of_ble_eq_true rfl) dX9_readsLine_72 (pd_k1 ?_)
            refine at_ifeq (tgt := 86) dX9_readsLine_75 (by decide) (fun c75 => ?_) (fun c75 => ?_)
            · -- taken 75
              refine at_aload_n dX9_readsLine_86 rfl ?_
              refine at_ldcS sw9_need rfl dX9_readsLine_87 (fun hS87 => ?_)
              refine at_iconst dX9_readsLine_89 pc_i0 ?_
              refine at_cv2 cvX9_192 sd_119 (ev_onY hR hKZ hKA hK15 h32 3 0 (by decide) (by decide) hS87 (by rw [m16_bit]; exact hbf) hk) (by decide) ⟨Nat.le_refl _, Nat.le_refl _⟩ (Nat.le_of_ble_eq_true rfl) dX9_readsLine_90 (pd_k1 ?_)
              rw [m16_or]
              refine at_ifeq (tgt := 112) dX9_readsLine_93 (by decide) (fun c93 => ?_) (fun c93 => ?_)
              · -- taken 93
                exact absurd c93 (by decide)
              · -- not taken 93
                refine at_aload_n dX9_readsLine_96 rfl ?_
                refine at_getr (123) flX9_23 rfl sd_119 (rs_119_10 hR) dX9_readsLine_97 ?_
                refine at_iconst dX9_readsLine_100 pc_i3 ?_
                refine at_aload_n dX9_readsLine_101 rfl ?_
                refine at_iconst dX9_readsLine_102 pc_i0 ?_
                refine at_bipush dX9_readsLine_103 pc_b40 ?_
                refine at_cv2 cvX9_117 sd_119 (ev_gz_num1 (lo := 0) (hi := 40) hR hG1 (by decide) (by decide) hN) (by decide) ⟨Nat.le_refl _, Nat.le_refl _⟩ (Nat.le_of_ble_eq_true rfl) dX9_readsLine_105 (pd_ki fun v2 I2 L2 hq => ?_)
                obtain ⟨rfl, rfl, hF2, hZ2⟩ := hq
                refine at_iast sd_123 (vp_in_nI (n := 3) (by decide) (by decide)) dX9_readsLine_108 ?_
                refine at_goto (tgt := 244) dX9_readsLine_109 (by decide) ?_
                exact hfG _ (i + 2, m ||| 2 ^ 4, upd r 3 (nI v), nv, ns, nl, e) ((hF1.tr hF2.fo).up3) (hZ2.row (fun x j hx => pd_up_nb hx) (by
                  show RQ (pd_up I2 123 3 (nI v)) 123 _
                  rw [ckR_self hrow]
                  have q2 : RQ I2 123 r := by have := hZ2.2.2.2.2.2.1; rwa [hse] at this
                  intro k hk2
                  unfold upd
                  by_cases hk3 : k = 3
                  · subst hk3; rw [pd_up_at, if_pos rfl]
                  · rw [pd_up_nj hk3, if_neg hk3]; exact q2 k hk2)) (by rw [pd_up_nb (by decide), hF2.2 15 (by decide) (by decide) (by decide) (by decide) (by decide)]; exact pd_up_at) (by rw [pTold, if_neg (show ¬ (tT B n).1 i = 1 from by rw [hkd, hk]; decide), if_neg (show ¬ (tT B n).1 i = 2 from by rw [hkd, hk]; decide), if_neg (show ¬ (tT B n).1 i = 3 from by rw [hkd, hk]; decide), if_pos (show (tT B n).1 i = 4 from hk), pOne, hkd, hk, hbt, if_neg (by decide), hN])
            · -- not taken 75
              exact absurd rfl c75
          · -- not taken 33
            exact absurd rfl c33
        · -- not taken 16
          exact absurd rfl c16
  by_cases k5 : tkK B n (tq B n i) = 5
  · have hk := k5
    cases hbt : m.testBit 5 with
    | true =>
      refine at_aload_n dX9_readsLine_0 rfl ?_
      refine at_cv0 cvX9_70 sd_119 (ev_gz_here hR hZ) (by decide) ⟨Nat.le_refl _, Nat.le_refl _⟩ (Nat.le_of_ble_eq_true rfl) dX9_readsLine_1 (pd_k1 ?_)
      rw [← hK]
      refine at_pop dX9_readsLine_4 rfl ?_
      refine at_aload_n dX9_readsLine_5 rfl ?_
      refine at_geti flX9_57 rfl sd_119 dX9_readsLine_6 ?_
      rw [hKA]
      refine at_istore_n dX9_readsLine_9 rfl (Nat.le_of_ble_eq_true rfl) ?_
      refine at_aload_n dX9_readsLine_10 rfl ?_
      refine at_ldcS sw9_voter rfl dX9_readsLine_11 (fun hS11 => ?_)
      refine at_cv1 cvX9_150 sd_119 (ev_tkN hR hKZ hKA 0 (by decide) hS11 (by rw [hk]; decide)) (by decide) ⟨Nat.le_refl _, Nat.le_refl _⟩ (Nat.le_of_ble_eq_true rfl) dX9_readsLine_13 (pd_k1 ?_)
      refine at_ifeq (tgt := 27) dX9_readsLine_16 (by decide) (fun c16 => ?_) (fun c16 => ?_)
      · -- taken 16
        refine at_aload_n dX9_readsLine_27 rfl ?_
        refine at_ldcS sw9_sheet rfl dX9_readsLine_28 (fun hS28 => ?_)
        refine at_cv1 cvX9_150 sd_119 (ev_tkN hR hKZ hKA 1 (by decide) hS28 (by rw [hk]; decide)) (by decide) ⟨Nat.le_refl _, Nat.le_refl _⟩ (Nat.le_of_ble_eq_true rfl) dX9_readsLine_30 (pd_k1 ?_)
        refine at_ifeq (tgt := 69) dX9_readsLine_33 (by decide) (fun c33 => ?_) (fun c33 => ?_)
        · -- taken 33
          refine at_aload_n dX9_readsLine_69 rfl ?_
          refine at_ldcS sw9_sign rfl dX9_readsLine_70 (fun hS70 => ?_)
          refine at_cv1 cvX9_150 sd_119 (ev_tkN hR hKZ hKA 2 (by decide) hS70 (by rw [hk]; decide)) (by decide) ⟨Nat.le_refl _, Nat.le_refl _⟩ (Nat.le_of_ble_eq_true rfl) dX9_readsLine_72 (pd_k1 ?_)
          refine at_ifeq (tgt := 86) dX9_readsLine_75 (by decide) (fun c75 => ?_) (fun c75 => ?_)
          · -- taken 75
            refine at_aload_n dX9_readsLine_86 rfl ?_
            refine at_ldcS sw9_need rfl dX9_readsLine_87 (fun hS87 => ?_)
            refine at_iconst dX9_readsLine_89 pc_i0 ?_
            refine at_cv2 cvX9_192 sd_119 (ev_onN hR hKZ hKA hK15 h32 3 0 (by decide) (by decide) hS87 (Or.inr (by rw [hk]; decide))) (by decide) ⟨Nat.le_refl _, Nat.le_refl _⟩ (Nat.le_of_ble_eq_true rfl) dX9_readsLine_90 (pd_k1 ?_)
            refine at_ifeq (tgt := 112) dX9_readsLine_93 (by decide) (fun c93 => ?_) (fun c93 => ?_)
            · -- taken 93
              refine at_aload_n dX9_readsLine_112 rfl ?_
              refine at_ldcS sw9_span rfl dX9_readsLine_113 (fun hS113 => ?_)
              refine at_iconst dX9_readsLine_115 pc_i1 ?_
              refine at_cv2 cvX9_192 sd_119 (ev_onN hR hKZ hKA hK15 h32 4 1 (by decide) (by decide) hS113 (Or.inl (by rw [m16_bit]; exact hbt))) (by decide) ⟨Nat.le_refl _, Nat.le_refl _⟩ (Nat.le_of_ble_eq_true rfl) dX9_readsLine_116 (pd_k1 ?_)
              refine at_ifeq (tgt := 158) dX9_readsLine_119 (by decide) (fun c119 => ?_) (fun c119 => ?_)
              · -- taken 119
                refine at_aload_n dX9_readsLine_158 rfl ?_
                refine at_ldcS sw9_spoilt rfl dX9_readsLine_159 (fun hS159 => ?_)
                refine at_iconst dX9_readsLine_161 pc_i2 ?_
                refine at_cv2 cvX9_192 sd_119 (ev_onN hR hKZ hKA hK15 h32 5 2 (by decide) (by decide) hS159 (Or.inr (by rw [hk]; decide))) (by decide) ⟨Nat.le_refl _, Nat.le_refl _⟩ (Nat.le_of_ble_eq_true rfl) dX9_readsLine_162 (pd_k1 ?_)
                refine at_ifeq (tgt := 185) dX9_readsLine_165 (by decide) (fun c165 => ?_) (fun c165 => ?_)
                · -- taken 165
                  refine at_aload_n dX9_readsLine_185 rfl ?_
                  refine at_ldcS sw9_alpha rfl dX9_readsLine_186 (fun hS186 => ?_)
                  refine at_iconst dX9_readsLine_188 pc_i3 ?_
                  refine at_cv2 cvX9_192 sd_119 (ev_onN hR hKZ hKA hK15 h32 6 3 (by decide) (by decide) hS186 (Or.inr (by rw [hk]; decide))) (by decide) ⟨Nat.le_refl _, Nat.le_refl _⟩ (Nat.le_of_ble_eq_true rfl) dX9_readsLine_189 (pd_k1 ?_)
                  refine at_ifeq (tgt := 213) dX9_readsLine_192 (by decide) (fun c192 => ?_) (fun c192 => ?_)
                  · -- taken 192
                    refine at_aload_n dX9_readsLine_213 rfl ?_
                    refine at_ldcS sw9_good rfl dX9_readsLine_214 (fun hS214 => ?_)
                    refine at_iconst dX9_readsLine_216 pc_i4 ?_
                    refine at_cv2 cvX9_192 sd_119 (ev_onN hR hKZ hKA hK15 h32 7 4 (by decide) (by decide) hS214 (Or.inr (by rw [hk]; decide))) (by decide) ⟨Nat.le_refl _, Nat.le_refl _⟩ (Nat.le_of_ble_eq_true rfl) dX9_readsLine_217 (pd_k1 ?_)
                    refine at_ifeq (tgt := 238) dX9_readsLine_220 (by decide) (fun c220 => ?_) (fun c220 => ?_)
                    · -- taken 220
                      refine at_aload_n dX9_readsLine_238 rfl ?_
                      refine at_iconst dX9_readsLine_239 pc_i1 ?_
                      refine at_iload_n dX9_readsLine_240 rfl ?_
                      refine at_cv2 cvX9_95 sd_119 (ev_X9_wrong0 hKZ.2.2.1 _ _) (by decide) ⟨Nat.le_refl _, Nat.le_refl _⟩ (Nat.le_of_ble_eq_true rfl) dX9_readsLine_241 (pd_k0 ?_)
                      exact hfF _ (1, tq B n i) ((hKF.up (by decide)).up (by decide)) (hKw 1 (by decide)) (by rw [pTold, if_neg (show ¬ (tT B n).1 i = 1 from by rw [hkd, hk]; decide), if_neg (show ¬ (tT B n).1 i = 2 from by rw [hkd, hk]; decide), if_neg (show ¬ (tT B n).1 i = 3 from by rw [hkd, hk]; decide), if_neg (show ¬ (tT B n).1 i = 4 from by rw [hkd, hk]; decide), if_pos (show (tT B n).1 i = 5 from hk), pSpan, hkd, hk, if_pos hbt]; rfl)
                    · -- not taken 220
                      exact absurd rfl c220
                  · -- not taken 192
                    exact absurd rfl c192
                · -- not taken 165
                  exact absurd rfl c165
              · -- not taken 119
                exact absurd rfl c119
            · -- not taken 93
              exact absurd rfl c93
          · -- not taken 75
            exact absurd rfl c75
        · -- not taken 33
          exact absurd rfl c33
      · -- not taken 16
        exact absurd rfl c16
    | false =>
      have hbf := hbt
      have hG1 : GZ (pd_up (pd_up K 119 4 (nI (tkE B n (tq B n i)))) 119 15 (nI ((m ||| 2 ^ 5) / 16))) B n r (rl_ks e) 0 (i + 1) := hNX.on
      have hF1 : FO I (pd_up (pd_up K 119 4 (nI (tkE B n (tq B n i)))) 119 15 (nI ((m ||| 2 ^ 5) / 16))) := (hKF.up (by decide)).up (by decide)
      cases hN : pNum (tT B n) (i + 1) 0 999 with
      | inr z =>
        refine at_aload_n dX9_readsLine_0 rfl ?_
        refine at_cv0 cvX9_70 sd_119 (ev_gz_here hR hZ) (by decide) ⟨Nat.le_refl _, Nat.le_refl _⟩ (Nat.le_of_ble_eq_true rfl) dX9_readsLine_1 (pd_k1 ?_)
        rw [← hK]
        refine at_pop dX9_readsLine_4 rfl ?_
        refine at_aload_n dX9_readsLine_5 rfl ?_
        refine at_geti flX9_57 rfl sd_119 dX9_readsLine_6 ?_
        rw [hKA]
        refine at_istore_n dX9_readsLine_9 rfl (Nat.le_of_ble_eq_true rfl) ?_
        refine at_aload_n dX9_readsLine_10 rfl ?_
        refine at_ldcS sw9_voter rfl dX9_readsLine_11 (fun hS11 => ?_)
        refine at_cv1 cvX9_150 sd_119 (ev_tkN hR hKZ hKA 0 (by decide) hS11 (by rw [hk]; decide)) (by decide) ⟨Nat.le_refl _, Nat.le_refl _⟩ (Nat.le_of_ble_eq_true rfl) dX9_readsLine_13 (pd_k1 ?_)
        refine at_ifeq (tgt := 27) dX9_readsLine_16 (by decide) (fun c16 => ?_) (fun c16 => ?_)
        · -- taken 16
          refine at_aload_n dX9_readsLine_27 rfl ?_
          refine at_ldcS sw9_sheet rfl dX9_readsLine_28 (fun hS28 => ?_)
          refine at_cv1 cvX9_150 sd_119 (ev_tkN hR hKZ hKA 1 (by decide) hS28 (by rw [hk]; decide)) (by decide) ⟨Nat.le_refl _, Nat.le_refl _⟩ (Nat.le_of_ble_eq_true rfl) dX9_readsLine_30 (pd_k1 ?_)
          refine at_ifeq (tgt := 69) dX9_readsLine_33 (by decide) (fun c33 => ?_) (fun c33 => ?_)
          · -- taken 33
            refine at_aload_n dX9_readsLine_69 rfl ?_
            refine at_ldcS sw9_sign rfl dX9_readsLine_70 (fun hS70 => ?_)
            refine at_cv1 cvX9_150 sd_119 (ev_tkN hR hKZ hKA 2 (by decide) hS70 (by rw [hk]; decide)) (by decide) ⟨Nat.le_refl _, Nat.le_refl _⟩ (Nat.le_of_ble_eq_true rfl) dX9_readsLine_72 (pd_k1 ?_)
            refine at_ifeq (tgt := 86) dX9_readsLine_75 (by decide) (fun c75 => ?_) (fun c75 => ?_)
            · -- taken 75
              refine at_aload_n dX9_readsLine_86 rfl ?_
              refine at_ldcS sw9_need rfl dX9_readsLine_87 (fun hS87 => ?_)
              refine at_iconst dX9_readsLine_89 pc_i0 ?_
              refine at_cv2 cvX9_192 sd_119 (ev_onN hR hKZ hKA hK15 h32 3 0 (by decide) (by decide) hS87 (Or.inr (by rw [hk]; decide))) (by decide) ⟨Nat.le_refl _, Nat.le_refl _⟩ (Nat.le_of_ble_eq_true rfl) dX9_readsLine_90 (pd_k1 ?_)
              refine at_ifeq (tgt := 112) dX9_readsLine_93 (by decide) (fun c93 => ?_) (fun c93 => ?_)
              · -- taken 93
                refine at_aload_n dX9_readsLine_112 rfl ?_
                refine at_ldcS sw9_span rfl dX9_readsLine_113 (fun hS113 => ?_)
                refine at_iconst dX9_readsLine_115 pc_i1 ?_
                refine at_cv2 cvX9_192 sd_119 (ev_onY hR hKZ hKA hK15 h32 4 1 (by decide) (by decide) hS113 (by rw [m16_bit]; exact hbf) hk) (by decide) ⟨Nat.le_refl _, Nat.le_refl _⟩ (Nat.le_of_ble_eq_true rfl) dX9_readsLine_116 (pd_k1 ?_)
                rw [m16_or]
                refine at_ifeq (tgt := 158) dX9_readsLine_119 (by decide) (fun c119 => ?_) (fun c119 => ?_)
                · -- taken 119
                  exact absurd c119 (by decide)
                · -- not taken 119
                  refine at_aload_n dX9_readsLine_122 rfl ?_
                  refine at_getr (123) flX9_23 rfl sd_119 (rs_119_10 hR) dX9_readsLine_123 ?_
                  refine at_iconst dX9_readsLine_126 pc_i4 ?_
                  refine at_aload_n dX9_readsLine_127 rfl ?_
                  refine at_iconst dX9_readsLine_128 pc_i0 ?_
                  refine at_sipush dX9_readsLine_129 pc_s999 ?_
                  refine at_cv2 cvX9_117 sd_119 (ev_gz_num0 (lo := 0) (hi := 999) hR hG1 (by decide) (by decide) hN) (by decide) ⟨Nat.le_refl _, Nat.le_refl _⟩ (Nat.le_of_ble_eq_true rfl) dX9_readsLine_132 (pd_ki fun v I2 L2 hq => ?_)
                  obtain ⟨rfl, hF2, hZ2⟩ := hq
                  refine at_iast sd_123 (vp_in_nI (n := 4) (by decide) (by decide)) dX9_readsLine_135 ?_
                  refine at_aload_n dX9_readsLine_136 rfl ?_
                  refine at_getr (123) flX9_23 rfl sd_119 (rs_119_10 hR) dX9_readsLine_137 ?_
                  refine at_iconst dX9_readsLine_140 pc_i5 ?_
                  refine at_aload_n dX9_readsLine_141 rfl ?_
                  refine at_aload_n dX9_readsLine_142 rfl ?_
                  refine at_getr (123) flX9_23 rfl sd_119 (rs_119_10 hR) dX9_readsLine_143 ?_
                  refine at_iconst dX9_readsLine_146 pc_i4 ?_
                  refine at_iald sd_123 (vp_in_nI (n := 4) (by decide) (by decide)) dX9_readsLine_147 ?_
                  refine at_sipush dX9_readsLine_148 pc_s999 ?_
                  refine at_cv2 cvX9_117 sd_119 (ev_X9_numberF hR hZ2.up3.nf _ _) (by decide) ⟨Nat.le_refl _, Nat.le_refl _⟩ (Nat.le_of_ble_eq_true rfl) dX9_readsLine_151 (pd_k1 ?_)
                  refine at_iast sd_123 (vp_in_nI (n := 5) (by decide) (by decide)) dX9_readsLine_154 ?_
                  refine at_goto (tgt := 244) dX9_readsLine_155 (by decide) ?_
                  exact hfF _ z (((hF1.tr hF2.fo).up3).up3) ((hZ2.mono (by decide)).up3).up3 (by rw [pTold, if_neg (show ¬ (tT B n).1 i = 1 from by rw [hkd, hk]; decide), if_neg (show ¬ (tT B n).1 i = 2 from by rw [hkd, hk]; decide), if_neg (show ¬ (tT B n).1 i = 3 from by rw [hkd, hk]; decide), if_neg (show ¬ (tT B n).1 i = 4 from by rw [hkd, hk]; decide), if_pos (show (tT B n).1 i = 5 from hk), pSpan, hkd, hk, hbt, if_neg (by decide), hN])
              · -- not taken 93
                exact absurd rfl c93
            · -- not taken 75
              exact absurd rfl c75
          · -- not taken 33
            exact absurd rfl c33
        · -- not taken 16
          exact absurd rfl c16
      | inl v =>
        obtain ⟨n1, n2, n3, n4⟩ := pNum_ok hN
        have hJ1 := LJ.few (k := 4) (v := v) (m' := m ||| 2 ^ 5) hJ (by decide) (fun q => by omega) (fun q => by omega) (or_lt hm (by decide)) (by rw [or_bit, decide_eq_false (by decide), Bool.or_false])
        have hst : ∀ I2 : Nat → Nat → Int32, GZ I2 B n r (rl_ks e) 0 (i + 2) → GZ (pd_up I2 123 4 (nI v)) B n (upd r 4 (nI v)) (rl_ks e) 0 (i + 2) := fun I2 hZ2 => hZ2.row (fun x j hx => pd_up_nb hx) (by
          rw [ckR_self hJ1.1]
          have q2 : RQ I2 123 r := by have := hZ2.2.2.2.2.2.1; rwa [hse] at this
          intro k hk2
          unfold upd
          by_cases hk3 : k = 4
          · subst hk3; rw [pd_up_at, if_pos rfl]
          · rw [pd_up_nj hk3, if_neg hk3]; exact q2 k hk2)
        cases hN2 : pNum (tT B n) (i + 2) v 999 with
        | inr z =>
          refine at_aload_n dX9_readsLine_0 rfl ?_
          refine at_cv0 cvX9_70 sd_119 (ev_gz_here hR hZ) (by decide) ⟨Nat.le_refl _, Nat.le_refl _⟩ (Nat.le_of_ble_eq_true rfl) dX9_readsLine_1 (pd_k1 ?_)
          rw [← hK]
          refine at_pop dX9_readsLine_4 rfl ?_
          refine at_aload_n dX9_readsLine_5 rfl ?_
          refine at_geti flX9_57 rfl sd_119 dX9_readsLine_6 ?_
          rw [hKA]
          refine at_istore_n dX9_readsLine_9 rfl (Nat.le_of_ble_eq_true rfl) ?_
          refine at_aload_n dX9_readsLine_10 rfl ?_
          refine at_ldcS sw9_voter rfl dX9_readsLine_11 (fun hS11 => ?_)
          refine at_cv1 cvX9_150 sd_119 (ev_tkN hR hKZ hKA 0 (by decide) hS11 (by rw [hk]; decide)) (by decide) ⟨Nat.le_refl _, Nat.le_refl _⟩ (Nat.le_of_ble_eq_true rfl) dX9_readsLine_13 (pd_k1 ?_)
          refine at_ifeq (tgt := 27) dX9_readsLine_16 (by decide) (fun c16 => ?_) (fun c16 => ?_)
          · -- taken 16
            refine at_aload_n dX9_readsLine_27 rfl ?_
            refine at_ldcS sw9_sheet rfl dX9_readsLine_28 (fun hS28 => ?_)
            refine at_cv1 cvX9_150 sd_119 (ev_tkN hR hKZ hKA 1 (by decide) hS28 (by rw [hk]; decide)) (by decide) ⟨Nat.le_refl _, Nat.le_refl _⟩ (Nat.le_of_ble_eq_true rfl) dX9_readsLine_30 (pd_k1 ?_)
            refine at_ifeq (tgt := 69) dX9_readsLine_33 (by decide) (fun c33 => ?_) (fun c33 => ?_)
            · -- taken 33
              refine at_aload_n dX9_readsLine_69 rfl ?_
              refine at_ldcS sw9_sign rfl dX9_readsLine_70 (fun hS70 => ?_)
              refine at_cv1 cvX9_150 sd_119 (ev_tkN hR hKZ hKA 2 (by decide) hS70 (by rw [hk]; decide)) (by decide) ⟨Nat.le_refl _, Nat.le_refl _⟩ (Nat.le_of_ble_eq_true rfl) dX9_readsLine_72 (pd_k1 ?_)
              refine at_ifeq (tgt := 86) dX9_readsLine_75 (by decide) (fun c75 => ?_) (fun c75 => ?_)
              · -- taken 75
                refine at_aload_n dX9_readsLine_86 rfl ?_
                refine at_ldcS sw9_need rfl dX9_readsLine_87 (fun hS87 => ?_)
                refine at_iconst dX9_readsLine_89 pc_i0 ?_
                refine at_cv2 cvX9_192 sd_119 (ev_onN hR hKZ hKA hK15 h32 3 0 (by decide) (by decide) hS87 (Or.inr (by rw [hk]; decide))) (by decide) ⟨Nat.le_refl _, Nat.le_refl _⟩ (Nat.le_of_ble_eq_true rfl) dX9_readsLine_90 (pd_k1 ?_)
                refine at_ifeq (tgt := 112) dX9_readsLine_93 (by decide) (fun c93 => ?_) (fun c93 => ?_)
                · -- taken 93
                  refine at_aload_n dX9_readsLine_112 rfl ?_
                  refine at_ldcS sw9_span rfl dX9_readsLine_113 (fun hS113 => ?_)
                  refine at_iconst dX9_readsLine_115 pc_i1 ?_
                  refine at_cv2 cvX9_192 sd_119 (ev_onY hR hKZ hKA hK15 h32 4 1 (by decide) (by decide) hS113 (by rw [m16_bit]; exact hbf) hk) (by decide) ⟨Nat.le_refl _, Nat.le_refl _⟩ (Nat.le_of_ble_eq_true rfl) dX9_readsLine_116 (pd_k1 ?_)
                  rw [m16_or]
                  refine at_ifeq (tgt := 158) dX9_readsLine_119 (by decide) (fun c119 => ?_) (fun c119 => ?_)
                  · -- taken 119
                    exact absurd c119 (by decide)
                  · -- not taken 119
                    refine at_aload_n dX9_readsLine_122 rfl ?_
                    refine at_getr (123) flX9_23 rfl sd_119 (rs_119_10 hR) dX9_readsLine_123 ?_
                    refine at_iconst dX9_readsLine_126 pc_i4 ?_
                    refine at_aload_n dX9_readsLine_127 rfl ?_
                    refine at_iconst dX9_readsLine_128 pc_i0 ?_
                    refine at_sipush dX9_readsLine_129 pc_s999 ?_
                    refine at_cv2 cvX9_117 sd_119 (ev_gz_num1 (lo := 0) (hi := 999) hR hG1 (by decide) (by decide) hN) (by decide) ⟨Nat.le_refl _, Nat.le_refl _⟩ (Nat.le_of_ble_eq_true rfl) dX9_readsLine_132 (pd_ki fun v2 I2 L2 hq => ?_)
                    obtain ⟨rfl, rfl, hF2, hZ2⟩ := hq
                    have hZ3 := hst _ hZ2
                    refine at_iast sd_123 (vp_in_nI (n := 4) (by decide) (by decide)) dX9_readsLine_135 ?_
                    refine at_aload_n dX9_readsLine_136 rfl ?_
                    refine at_getr (123) flX9_23 rfl sd_119 (rs_119_10 hR) dX9_readsLine_137 ?_
                    refine at_iconst dX9_readsLine_140 pc_i5 ?_
                    refine at_aload_n dX9_readsLine_141 rfl ?_
                    refine at_aload_n dX9_readsLine_142 rfl ?_
                    refine at_getr (123) flX9_23 rfl sd_119 (rs_119_10 hR) dX9_readsLine_143 ?_
                    refine at_iconst dX9_readsLine_146 pc_i4 ?_
                    refine at_iald sd_123 (vp_in_nI (n := 4) (by decide) (by decide)) dX9_readsLine_147 ?_
                    rw [show pd_up I2 123 (4 : Int32).toNatClampNeg (nI v) 123 (4 : Int32).toNatClampNeg = nI v from pd_up_at]
                    refine at_sipush dX9_readsLine_148 pc_s999 ?_
                    refine at_cv2 cvX9_117 sd_119 (ev_gz_num0 (lo := v) (hi := 999) hR hZ3 (by omega) (by decide) hN2) (by decide) ⟨Nat.le_refl _, Nat.le_refl _⟩ (Nat.le_of_ble_eq_true rfl) dX9_readsLine_151 (pd_ki fun v4 I4 L4 hq4 => ?_)
                    obtain ⟨rfl, hF4, hZ4⟩ := hq4
                    refine at_iast sd_123 (vp_in_nI (n := 5) (by decide) (by decide)) dX9_readsLine_154 ?_
                    refine at_goto (tgt := 244) dX9_readsLine_155 (by decide) ?_
                    exact hfF _ z ((((hF1.tr hF2.fo).up3).tr hF4.fo).up3) (hZ4.mono (by decide)).up3 (by rw [pTold, if_neg (show ¬ (tT B n).1 i = 1 from by rw [hkd, hk]; decide), if_neg (show ¬ (tT B n).1 i = 2 from by rw [hkd, hk]; decide), if_neg (show ¬ (tT B n).1 i = 3 from by rw [hkd, hk]; decide), if_neg (show ¬ (tT B n).1 i = 4 from by rw [hkd, hk]; decide), if_pos (show (tT B n).1 i = 5 from hk), pSpan, hkd, hk, hbt, if_neg (by decide), hN]; dsimp only; rw [hN2])
                · -- not taken 93
                  exact absurd rfl c93
              · -- not taken 75
                exact absurd rfl c75
            · -- not taken 33
              exact absurd rfl c33
          · -- not taken 16
            exact absurd rfl c16
        | inl u =>
          obtain ⟨u1, u2, u3, u4⟩ := pNum_ok hN2
          have hrow := (LJ.few (k := 5) (v := u) (m' := m ||| 2 ^ 5) hJ1 (by decide) (fun q => by omega) (fun q => by omega) (or_lt hm (by decide)) rfl).1
          refine at_aload_n dX9_readsLine_0 rfl ?_
          refine at_cv0 cvX9_70 sd_119 (ev_gz_here hR hZ) (by decide) ⟨Nat.le_refl _, Nat.le_refl _⟩ (Nat.le_of_ble_eq_true rfl) dX9_readsLine_1 (pd_k1 ?_)
          rw [← hK]
          refine at_pop dX9_readsLine_4 rfl ?_
          refine at_aload_n dX9_readsLine_5 rfl ?_
          refine at_geti flX9_57 rfl sd_119 dX9_readsLine_6 ?_
          rw [hKA]
          refine at_istore_n dX9_readsLine_9 rfl (Nat.le_of_ble_eq_true rfl) ?_
          refine at_aload_n dX9_readsLine_10 rfl ?_
          refine at_ldcS sw9_voter rfl dX9_readsLine_11 (fun hS11 => ?_)
          refine at_cv1 cvX9_150 sd_119 (ev_tkN hR hKZ hKA 0 (by decide) hS11 (by rw [hk]; decide)) (by decide) ⟨Nat.le_refl _, Nat.le_refl _⟩ (Nat.le_of_ble_eq_true rfl) dX9_readsLine_13 (pd_k1 ?_)
          refine at_ifeq (tgt := 27) dX9_readsLine_16 (by decide) (fun c16 => ?_) (fun c16 => ?_)
          · -- taken 16
            refine at_aload_n dX9_readsLine_27 rfl ?_
            refine at_ldcS sw9_sheet rfl dX9_readsLine_28 (fun hS28 => ?_)
            refine at_cv1 cvX9_150 sd_119 (ev_tkN hR hKZ hKA 1 (by decide) hS28 (by rw [hk]; decide)) (by decide) ⟨Nat.le_refl _, Nat.le_refl _⟩ (Nat.le_of_ble_eq_true rfl) dX9_readsLine_30 (pd_k1 ?_)
            refine at_ifeq (tgt := 69) dX9_readsLine_33 (by decide) (fun c33 => ?_) (fun c33 => ?_)
            · -- taken 33
              refine at_aload_n dX9_readsLine_69 rfl ?_
              refine at_ldcS sw9_sign rfl dX9_readsLine_70 (fun hS70 => ?_)
              refine at_cv1 cvX9_150 sd_119 (ev_tkN hR hKZ hKA 2 (by decide) hS70 (by rw [hk]; decide)) (by decide) ⟨Nat.le_refl _, Nat.le_refl _⟩ (Nat.le_of_ble_eq_true rfl) dX9_readsLine_72 (pd_k1 ?_)
              refine at_ifeq (tgt := 86) dX9_readsLine_75 (by decide) (fun c75 => ?_) (fun c75 => ?_)
              · -- taken 75
                refine at_aload_n dX9_readsLine_86 rfl ?_
                refine at_ldcS sw9_need rfl dX9_readsLine_87 (fun hS87 => ?_)
                refine at_iconst dX9_readsLine_89 pc_i0 ?_
                refine at_cv2 cvX9_192 sd_119 (ev_onN hR hKZ hKA hK15 h32 3 0 (by decide) (by decide) hS87 (Or.inr (by rw [hk]; decide))) (by decide) ⟨Nat.le_refl _, Nat.le_refl _⟩ (Nat.le_of_ble_eq_true rfl) dX9_readsLine_90 (pd_k1 ?_)
                refine at_ifeq (tgt := 112) dX9_readsLine_93 (by decide) (fun c93 => ?_) (fun c93 => ?_)
                · -- taken 93
                  refine at_aload_n dX9_readsLine_112 rfl ?_
                  refine at_ldcS sw9_span rfl dX9_readsLine_113 (fun hS113 => ?_)
                  refine at_iconst dX9_readsLine_115 pc_i1 ?_
                  refine at_cv2 cvX9_192 sd_119 (ev_onY hR hKZ hKA hK15 h32 4 1 (by decide) (by decide) hS113 (by rw [m16_bit]; exact hbf) hk) (by decide) ⟨Nat.le_refl _, Nat.le_refl _⟩ (Nat.le_of_ble_eq_true rfl) dX9_readsLine_116 (pd_k1 ?_)
                  rw [m16_or]
                  refine at_ifeq (tgt := 158) dX9_readsLine_119 (by decide) (fun c119 => ?_) (fun c119 => ?_)
                  · -- taken 119
                    exact absurd c119 (by decide)
                  · -- not taken 119
                    refine at_aload_n dX9_readsLine_122 rfl ?_
                    refine at_getr (123) flX9_23 rfl sd_119 (rs_119_10 hR) dX9_readsLine_123 ?_
                    refine at_iconst dX9_readsLine_126 pc_i4 ?_
                    refine at_aload_n dX9_readsLine_127 rfl ?_
                    refine at_iconst dX9_readsLine_128 pc_i0 ?_
                    refine at_sipush dX9_readsLine_129 pc_s999 ?_
                    refine at_cv2 cvX9_117 sd_119 (ev_gz_num1 (lo := 0) (hi := 999) hR hG1 (by decide) (by decide) hN) (by decide) ⟨Nat.le_refl _, Nat.le_refl _⟩ (Nat.le_of_ble_eq_true rfl) dX9_readsLine_132 (pd_ki fun v2 I2 L2 hq => ?_)
                    obtain ⟨rfl, rfl, hF2, hZ2⟩ := hq
                    have hZ3 := hst _ hZ2
                    refine at_iast sd_123 (vp_in_nI (n := 4) (by decide) (by decide)) dX9_readsLine_135 ?_
                    refine at_aload_n dX9_readsLine_136 rfl ?_
                    refine at_getr (123) flX9_23 rfl sd_119 (rs_119_10 hR) dX9_readsLine_137 ?_
                    refine at_iconst dX9_readsLine_140 pc_i5 ?_
                    refine at_aload_n dX9_readsLine_141 rfl ?_
                    refine at_aload_n dX9_readsLine_142 rfl ?_
                    refine at_getr (123) flX9_23 rfl sd_119 (rs_119_10 hR) dX9_readsLine_143 ?_
                    refine at_iconst dX9_readsLine_146 pc_i4 ?_
                    refine at_iald sd_123 (vp_in_nI (n := 4) (by decide) (by decide)) dX9_readsLine_147 ?_
                    rw [show pd_up I2 123 (4 : Int32).toNatClampNeg (nI v) 123 (4 : Int32).toNatClampNeg = nI v from pd_up_at]
                    refine at_sipush dX9_readsLine_148 pc_s999 ?_
                    refine at_cv2 cvX9_117 sd_119 (ev_gz_num1 (lo := v) (hi := 999) hR hZ3 (by omega) (by decide) hN2) (by decide) ⟨Nat.le_refl _, Nat.le_refl _⟩ (Nat.le_of_ble_eq_true rfl) dX9_readsLine_151 (pd_ki fun v4 I4 L4 hq4 => ?_)
                    obtain ⟨rfl, rfl, hF4, hZ4⟩ := hq4
                    refine at_iast sd_123 (vp_in_nI (n := 5) (by decide) (by decide)) dX9_readsLine_154 ?_
                    refine at_goto (tgt := 244) dX9_readsLine_155 (by decide) ?_
                    exact hfG _ (i + 3, m ||| 2 ^ 5, upd (upd r 4 (nI v)) 5 (nI u), nv, ns, nl, e) ((((hF1.tr hF2.fo).up3).tr hF4.fo).up3) (hZ4.row (fun x j hx => pd_up_nb hx) (by
                      show RQ (pd_up I4 123 5 (nI u)) 123 _
                      rw [ckR_self hrow]
                      have q2 : RQ I4 123 (upd r 4 (nI v)) := by have := hZ4.2.2.2.2.2.1; rwa [ckR_self hJ1.1] at this
                      intro k hk2
                      rw [show upd (upd r 4 (nI v)) 5 (nI u) k = if k = 5 then nI u else upd r 4 (nI v) k from rfl]
                      by_cases hk3 : k = 5
                      · subst hk3; rw [pd_up_at, if_pos rfl]
                      · rw [pd_up_nj hk3, if_neg hk3]; exact q2 k hk2)) (by rw [pd_up_nb (by decide), hF4.2 15 (by decide) (by decide) (by decide) (by decide) (by decide), pd_up_nb (by decide), hF2.2 15 (by decide) (by decide) (by decide) (by decide) (by decide)]; exact pd_up_at) (by rw [pTold, if_neg (show ¬ (tT B n).1 i = 1 from by rw [hkd, hk]; decide), if_neg (show ¬ (tT B n).1 i = 2 from by rw [hkd, hk]; decide), if_neg (show ¬ (tT B n).1 i = 3 from by rw [hkd, hk]; decide), if_neg (show ¬ (tT B n).1 i = 4 from by rw [hkd, hk]; decide), if_pos (show (tT B n).1 i = 5 from hk), pSpan, hkd, hk, hbt, if_neg (by decide), hN]; dsimp only; rw [hN2])
                · -- not taken 93
                  exact absurd rfl c93
              · -- not taken 75
                exact absurd rfl c75
            · -- not taken 33
              exact absurd rfl c33
          · -- not taken 16
            exact absurd rfl c16
  by_cases k6 : tkK B n (tq B n i) = 6
  · have hk := k6
    cases hbt : m.testBit 6 with
    | true =>
      refine at_aload_n dX9_readsLine_0 rfl ?_
      refine at_cv0 cvX9_70 sd_119 (ev_gz_here hR hZ) (by decide) ⟨Nat.le_refl _, Nat.le_refl _⟩ (Nat.le_of_ble_eq_true rfl) dX9_readsLine_1 (pd_k1 ?_)
      rw [← hK]
      refine at_pop dX9_readsLine_4 rfl ?_
      refine at_aload_n dX9_readsLine_5 rfl ?_
      refine at_geti flX9_57 rfl sd_119 dX9_readsLine_6 ?_
      rw [hKA]
      refine at_istore_n dX9_readsLine_9 rfl (Nat.le_of_ble_eq_true rfl) ?_
      refine at_aload_n dX9_readsLine_10 rfl ?_
      refine at_ldcS sw9_voter rfl dX9_readsLine_11 (fun hS11 => ?_)
      refine at_cv1 cvX9_150 sd_119 (ev_tkN hR hKZ hKA 0 (by decide) hS11 (by rw [hk]; decide)) (by decide) ⟨Nat.le_refl _, Nat.le_refl _⟩ (Nat.le_of_ble_eq_true rfl) dX9_readsLine_13 (pd_k1 ?_)
      refine at_ifeq (tgt := 27) dX9_readsLine_16 (by decide) (fun c16 => ?_) (fun c16 => ?_)
      · -- taken 16
        refine at_aload_n dX9_readsLine_27 rfl ?_
        refine at_ldcS sw9_sheet rfl dX9_readsLine_28 (fun hS28 => ?_)
        refine at_cv1 cvX9_150 sd_119 (ev_tkN hR hKZ hKA 1 (by decide) hS28 (by rw [hk]; decide)) (by decide) ⟨Nat.le_refl _, Nat.le_refl _⟩ (Nat.le_of_ble_eq_true rfl) dX9_readsLine_30 (pd_k1 ?_)
        refine at_ifeq (tgt := 69) dX9_readsLine_33 (by decide) (fun c33 => ?_) (fun c33 => ?_)
        · -- taken 33
          refine at_aload_n dX9_readsLine_69 rfl ?_
          refine at_ldcS sw9_sign rfl dX9_readsLine_70 (fun hS70 => ?_)
          refine at_cv1 cvX9_150 sd_119 (ev_tkN hR hKZ hKA 2 (by decide) hS70 (by rw [hk]; decide)) (by decide) ⟨Nat.le_refl _, Nat.le_refl _⟩ (Nat.le_of_ble_eq_true rfl) dX9_readsLine_72 (pd_k1 ?_)
          refine at_ifeq (tgt := 86) dX9_readsLine_75 (by decide) (fun c75 => ?_) (fun c75 => ?_)
          · -- taken 75
            refine at_aload_n dX9_readsLine_86 rfl ?_
            refine at_ldcS sw9_need rfl dX9_readsLine_87 (fun hS87 => ?_)
            refine at_iconst dX9_readsLine_89 pc_i0 ?_
            refine at_cv2 cvX9_192 sd_119 (ev_onN hR hKZ hKA hK15 h32 3 0 (by decide) (by decide) hS87 (Or.inr (by rw [hk]; decide))) (by decide) ⟨Nat.le_refl _, Nat.le_refl _⟩ (Nat.le_of_ble_eq_true rfl) dX9_readsLine_90 (pd_k1 ?_)
            refine at_ifeq (tgt := 112) dX9_readsLine_93 (by decide) (fun c93 => ?_) (fun c93 => ?_)
            · -- taken 93
              refine at_aload_n dX9_readsLine_112 rfl ?_
              refine at_ldcS sw9_span rfl dX9_readsLine_113 (fun hS113 => ?_)
              refine at_iconst dX9_readsLine_115 pc_i1 ?_
              refine at_cv2 cvX9_192 sd_119 (ev_onN hR hKZ hKA hK15 h32 4 1 (by decide) (by decide) hS113 (Or.inr (by rw [hk]; decide))) (by decide) ⟨Nat.le_refl _, Nat.le_refl _⟩ (Nat.le_of_ble_eq_true rfl) dX9_readsLine_116 (pd_k1 ?_)
              refine at_ifeq (tgt := 158) dX9_readsLine_119 (by decide) (fun c119 => ?_) (fun c119 => ?_)
              · -- taken 119
                refine at_aload_n dX9_readsLine_158 rfl ?_
                refine at_ldcS sw9_spoilt rfl dX9_readsLine_159 (fun hS159 => ?_)
                refine at_iconst dX9_readsLine_161 pc_i2 ?_
                refine at_cv2 cvX9_192 sd_119 (ev_onN hR hKZ hKA hK15 h32 5 2 (by decide) (by decide) hS159 (Or.inl (by rw [m16_bit]; exact hbt))) (by decide) ⟨Nat.le_refl _, Nat.le_refl _⟩ (Nat.le_of_ble_eq_true rfl) dX9_readsLine_162 (pd_k1 ?_)
                refine at_ifeq (tgt := 185) dX9_readsLine_165 (by decide) (fun c165 => ?_) (fun c165 => ?_)
                · -- taken 165
                  refine at_aload_n dX9_readsLine_185 rfl ?_
                  refine at_ldcS sw9_alpha rfl dX9_readsLine_186 (fun hS186 => ?_)
                  refine at_iconst dX9_readsLine_188 pc_i3 ?_
                  refine at_cv2 cvX9_192 sd_119 (ev_onN hR hKZ hKA hK15 h32 6 3 (by decide) (by decide) hS186 (Or.inr (by rw [hk]; decide))) (by decide) ⟨Nat.le_refl _, Nat.le_refl _⟩ (Nat.le_of_ble_eq_true rfl) dX9_readsLine_189 (pd_k1 ?_)
                  refine at_ifeq (tgt := 213) dX9_readsLine_192 (by decide) (fun c192 => ?_) (fun c192 => ?_)
                  · -- taken 192
                    refine at_aload_n dX9_readsLine_213 rfl ?_
                    refine at_ldcS sw9_good rfl dX9_readsLine_214 (fun hS214 => ?_)
                    refine at_iconst dX9_readsLine_216 pc_i4 ?_
                    refine at_cv2 cvX9_192 sd_119 (ev_onN hR hKZ hKA hK15 h32 7 4 (by decide) (by decide) hS214 (Or.inr (by rw [hk]; decide))) (by decide) ⟨Nat.le_refl _, Nat.le_refl _⟩ (Nat.le_of_ble_eq_true rfl) dX9_readsLine_217 (pd_k1 ?_)
                    refine at_ifeq (tgt := 238) dX9_readsLine_220 (by decide) (fun c220 => ?_) (fun c220 => ?_)
                    · -- taken 220
                      refine at_aload_n dX9_readsLine_238 rfl ?_
                      refine at_iconst dX9_readsLine_239 pc_i1 ?_
                      refine at_iload_n dX9_readsLine_240 rfl ?_
                      refine at_cv2 cvX9_95 sd_119 (ev_X9_wrong0 hKZ.2.2.1 _ _) (by decide) ⟨Nat.le_refl _, Nat.le_refl _⟩ (Nat.le_of_ble_eq_true rfl) dX9_readsLine_241 (pd_k0 ?_)
                      exact hfF _ (1, tq B n i) ((hKF.up (by decide)).up (by decide)) (hKw 1 (by decide)) (by rw [pTold, if_neg (show ¬ (tT B n).1 i = 1 from by rw [hkd, hk]; decide), if_neg (show ¬ (tT B n).1 i = 2 from by rw [hkd, hk]; decide), if_neg (show ¬ (tT B n).1 i = 3 from by rw [hkd, hk]; decide), if_neg (show ¬ (tT B n).1 i = 4 from by rw [hkd, hk]; decide), if_neg (show ¬ (tT B n).1 i = 5 from by rw [hkd, hk]; decide), if_pos (show (tT B n).1 i = 6 from hk), pOne, hkd, hk, if_pos hbt]; rfl)
                    · -- not taken 220
                      exact absurd rfl c220
                  · -- not taken 192
                    exact absurd rfl c192
                · -- not taken 165
                  exact absurd rfl c165
              · -- not taken 119
                exact absurd rfl c119
            · -- not taken 93
              exact absurd rfl c93
          · -- not taken 75
            exact absurd rfl c75
        · -- not taken 33
          exact absurd rfl c33
      · -- not taken 16
        exact absurd rfl c16
    | false =>
      have hbf := hbt
      have hG1 : GZ (pd_up (pd_up K 119 4 (nI (tkE B n (tq B n i)))) 119 15 (nI ((m ||| 2 ^ 6) / 16))) B n r (rl_ks e) 0 (i + 1) := hNX.on
      have hF1 : FO I (pd_up (pd_up K 119 4 (nI (tkE B n (tq B n i)))) 119 15 (nI ((m ||| 2 ^ 6) / 16))) := (hKF.up (by decide)).up (by decide)
      cases hN : pNum (tT B n) (i + 1) 0 100 with
      | inr z =>
        refine at_aload_n dX9_readsLine_0 rfl ?_
        refine at_cv0 cvX9_70 sd_119 (ev_gz_here hR hZ) (by decide) ⟨Nat.le_refl _, Nat.le_refl _⟩ (Nat.le_of_ble_eq_true rfl) dX9_readsLine_1 (pd_k1 ?_)
        rw [← hK]
        refine at_pop dX9_readsLine_4 rfl ?_
        refine at_aload_n dX9_readsLine_5 rfl ?_
        refine at_geti flX9_57 rfl sd_119 dX9_readsLine_6 ?_
        rw [hKA]
        refine at_istore_n dX9_readsLine_9 rfl (Nat.le_of_ble_eq_true rfl) ?_
        refine at_aload_n dX9_readsLine_10 rfl ?_
        refine at_ldcS sw9_voter rfl dX9_readsLine_11 (fun hS11 => ?_)
        refine at_cv1 cvX9_150 sd_119 (ev_tkN hR hKZ hKA 0 (by decide) hS11 (by rw [hk]; decide)) (by decide) ⟨Nat.le_refl _, Nat.le_refl _⟩ (Nat.le_of_ble_eq_true rfl) dX9_readsLine_13 (pd_k1 ?_)
        refine at_ifeq (tgt := 27) dX9_readsLine_16 (by decide) (fun c16 => ?_) (fun c16 => ?_)
        · -- taken 16
          refine at_aload_n dX9_readsLine_27 rfl ?_
          refine at_ldcS sw9_sheet rfl dX9_readsLine_28 (fun hS28 => ?_)
          refine at_cv1 cvX9_150 sd_119 (ev_tkN hR hKZ hKA 1 (by decide) hS28 (by rw [hk]; decide)) (by decide) ⟨Nat.le_refl _, Nat.le_refl _⟩ (Nat.le_of_ble_eq_true rfl) dX9_readsLine_30 (pd_k1 ?_)
          refine at_ifeq (tgt := 69) dX9_readsLine_33 (by decide) (fun c33 => ?_) (fun c33 => ?_)
          · -- taken 33
            refine at_aload_n dX9_readsLine_69 rfl ?_
            refine at_ldcS sw9_sign rfl dX9_readsLine_70 (fun hS70 => ?_)
            refine at_cv1 cvX9_150 sd_119 (ev_tkN hR hKZ hKA 2 (by decide) hS70 (by rw [hk]; decide)) (by decide) ⟨Nat.le_refl _, Nat.le_refl _⟩ (Nat.le_of_ble_eq_true rfl) dX9_readsLine_72 (pd_k1 ?_)
            refine at_ifeq (tgt := 86) dX9_readsLine_75 (by decide) (fun c75 => ?_) (fun c75 => ?_)
            · -- taken 75
              refine at_aload_n dX9_readsLine_86 rfl ?_
              refine at_ldcS sw9_need rfl dX9_readsLine_87 (fun hS87 => ?_)
              refine at_iconst dX9_readsLine_89 pc_i0 ?_
              refine at_cv2 cvX9_192 sd_119 (ev_onN hR hKZ hKA hK15 h32 3 0 (by decide) (by decide) hS87 (Or.inr (by rw [hk]; decide))) (by decide) ⟨Nat.le_refl _, Nat.le_refl _⟩ (Nat.le_of_ble_eq_true rfl) dX9_readsLine_90 (pd_k1 ?_)
              refine at_ifeq (tgt := 112) dX9_readsLine_93 (by decide) (fun c93 => ?_) (fun c93 => ?_)
              · -- taken 93
                refine at_aload_n dX9_readsLine_112 rfl ?_
                refine at_ldcS sw9_span rfl dX9_readsLine_113 (fun hS113 => ?_)
                refine at_iconst dX9_readsLine_115 pc_i1 ?_
                refine at_cv2 cvX9_192 sd_119 (ev_onN hR hKZ hKA hK15 h32 4 1 (by decide) (by decide) hS113 (Or.inr (by rw [hk]; decide))) (by decide) ⟨Nat.le_refl _, Nat.le_refl _⟩ (Nat.le_of_ble_eq_true rfl) dX9_readsLine_116 (pd_k1 ?_)
                refine at_ifeq (tgt := 158) dX9_readsLine_119 (by decide) (fun c119 => ?_) (fun c119 => ?_)
                · -- taken 119
                  refine at_aload_n dX9_readsLine_158 rfl ?_
                  refine at_ldcS sw9_spoilt rfl dX9_readsLine_159 (fun hS159 => ?_)
                  refine at_iconst dX9_readsLine_161 pc_i2 ?_
                  refine at_cv2 cvX9_192 sd_119 (ev_onY hR hKZ hKA hK15 h32 5 2 (by decide) (by decide) hS159 (by rw [m16_bit]; exact hbf) hk) (by decide) ⟨Nat.le_refl _, Nat.le_refl _⟩ (Nat.le_of_ble_eq_true rfl) dX9_readsLine_162 (pd_k1 ?_)
                  rw [m16_or]
                  refine at_ifeq (tgt := 185) dX9_readsLine_165 (by decide) (fun c165 => ?_) (fun c165 => ?_)
                  · -- taken 165
                    exact absurd c165 (by decide)
                  · -- not taken 165
                    refine at_aload_n dX9_readsLine_168 rfl ?_
                    refine at_getr (123) flX9_23 rfl sd_119 (rs_119_10 hR) dX9_readsLine_169 ?_
                    refine at_bipush dX9_readsLine_172 pc_b6 ?_
                    refine at_aload_n dX9_readsLine_174 rfl ?_
                    refine at_iconst dX9_readsLine_175 pc_i0 ?_
                    refine at_bipush dX9_readsLine_176 pc_b100 ?_
                    refine at_cv2 cvX9_117 sd_119 (ev_gz_num0 (lo := 0) (hi := 100) hR hG1 (by decide) (by decide) hN) (by decide) ⟨Nat.le_refl _, Nat.le_refl _⟩ (Nat.le_of_ble_eq_true rfl) dX9_readsLine_178 (pd_ki fun v I2 L2 hq => ?_)
                    obtain ⟨rfl, hF2, hZ2⟩ := hq
                    refine at_iast sd_123 (vp_in_nI (n := 6) (by decide) (by decide)) dX9_readsLine_181 ?_
                    refine at_goto (tgt := 244) dX9_readsLine_182 (by decide) ?_
                    exact hfF _ z ((hF1.tr hF2.fo).up3) (hZ2.mono (by decide)).up3 (by rw [pTold, if_neg (show ¬ (tT B n).1 i = 1 from by rw [hkd, hk]; decide), if_neg (show ¬ (tT B n).1 i = 2 from by rw [hkd, hk]; decide), if_neg (show ¬ (tT B n).1 i = 3 from by rw [hkd, hk]; decide), if_neg (show ¬ (tT B n).1 i = 4 from by rw [hkd, hk]; decide), if_neg (show ¬ (tT B n).1 i = 5 from by rw [hkd, hk]; decide), if_pos (show (tT B n).1 i = 6 from hk), pOne, hkd, hk, hbt, if_neg (by decide), hN])
                · -- not taken 119
                  exact absurd rfl c119
              · -- not taken 93
                exact absurd rfl c93
            · -- not taken 75
              exact absurd rfl c75
          · -- not taken 33
            exact absurd rfl c33
        · -- not taken 16
          exact absurd rfl c16
      | inl v =>
        obtain ⟨n1, n2, n3, n4⟩ := pNum_ok hN
        have hrow := (LJ.few (k := 6) (v := v) (m' := m ||| 2 ^ 6) hJ (by decide) (fun q => by omega) (fun q => by omega) (or_lt hm (by decide)) (by rw [or_bit, decide_eq_false (by decide), Bool.or_false])).1
        refine at_aload_n dX9_readsLine_0 rfl ?_
        refine at_cv0 cvX9_70 sd_119 (ev_gz_here hR hZ) (by decide) ⟨Nat.le_refl _, Nat.le_refl _⟩ (Nat.le_of_ble_eq_true rfl) dX9_readsLine_1 (pd_k1 ?_)
        rw [← hK]
        refine at_pop dX9_readsLine_4 rfl ?_
        refine at_aload_n dX9_readsLine_5 rfl ?_
        refine at_geti flX9_57 rfl sd_119 dX9_readsLine_6 ?_
        rw [hKA]
        refine at_istore_n dX9_readsLine_9 rfl (Nat.le_of_ble_eq_true rfl) ?_
        refine at_aload_n dX9_readsLine_10 rfl ?_
        refine at_ldcS sw9_voter rfl dX9_readsLine_11 (fun hS11 => ?_)
        refine at_cv1 cvX9_150 sd_119 (ev_tkN hR hKZ hKA 0 (by decide) hS11 (by rw [hk]; decide)) (by decide) ⟨Nat.le_refl _, Nat.le_refl _⟩ (Nat.le_of_ble_eq_true rfl) dX9_readsLine_13 (pd_k1 ?_)
        refine at_ifeq (tgt := 27) dX9_readsLine_16 (by decide) (fun c16 => ?_) (fun c16 => ?_)
        · -- taken 16
          refine at_aload_n dX9_readsLine_27 rfl ?_
          refine at_ldcS sw9_sheet rfl dX9_readsLine_28 (fun hS28 => ?_)
          refine at_cv1 cvX9_150 sd_119 (ev_tkN hR hKZ hKA 1 (by decide) hS28 (by rw [hk]; decide)) (by decide) ⟨Nat.le_refl _, Nat.le_refl _⟩ (Nat.le_of_ble_eq_true rfl) dX9_readsLine_30 (pd_k1 ?_)
          refine at_ifeq (tgt := 69) dX9_readsLine_33 (by decide) (fun c33 => ?_) (fun c33 => ?_)
          · -- taken 33
            refine at_aload_n dX9_readsLine_69 rfl ?_
            refine at_ldcS sw9_sign rfl dX9_readsLine_70 (fun hS70 => ?_)
            refine at_cv1 cvX9_150 sd_119 (ev_tkN hR hKZ hKA 2 (by decide) hS70 (by rw [hk]; decide)) (by decide) ⟨Nat.le_refl _, Nat.le_refl _⟩ (Nat.le_of_ble_eq_true rfl) dX9_readsLine_72 (pd_k1 ?_)
            refine at_ifeq (tgt := 86) dX9_readsLine_75 (by decide) (fun c75 => ?_) (fun c75 => ?_)
            · -- taken 75
              refine at_aload_n dX9_readsLine_86 rfl ?_
              refine at_ldcS sw9_need rfl dX9_readsLine_87 (fun hS87 => ?_)
              refine at_iconst dX9_readsLine_89 pc_i0 ?_
              refine at_cv2 cvX9_192 sd_119 (ev_onN hR hKZ hKA hK15 h32 3 0 (by decide) (by decide) hS87 (Or.inr (by rw [hk]; decide))) (by decide) ⟨Nat.le_refl _, Nat.le_refl _⟩ (Nat.le_of_ble_eq_true rfl) dX9_readsLine_90 (pd_k1 ?_)
              refine at_ifeq (tgt := 112) dX9_readsLine_93 (by decide) (fun c93 => ?_) (fun c93 => ?_)
              · -- taken 93
                refine at_aload_n dX9_readsLine_112 rfl ?_
                refine at_ldcS sw9_span rfl dX9_readsLine_113 (fun hS113 => ?_)
                refine at_iconst dX9_readsLine_115 pc_i1 ?_
                refine at_cv2 cvX9_192 sd_119 (ev_onN hR hKZ hKA hK15 h32 4 1 (by decide) (by decide) hS113 (Or.inr (by rw [hk]; decide))) (by decide) ⟨Nat.le_refl _, Nat.le_refl _⟩ (Nat.le_of_ble_eq_true rfl) dX9_readsLine_116 (pd_k1 ?_)
                refine at_ifeq (tgt := 158) dX9_readsLine_119 (by decide) (fun c119 => ?_) (fun c119 => ?_)
                · -- taken 119
                  refine at_aload_n dX9_readsLine_158 rfl ?_
                  refine at_ldcS sw9_spoilt rfl dX9_readsLine_159 (fun hS159 => ?_)
                  refine at_iconst dX9_readsLine_161 pc_i2 ?_
                  refine at_cv2 cvX9_192 sd_119 (ev_onY hR hKZ hKA hK15 h32 5 2 (by decide) (by decide) hS159 (by rw [m16_bit]; exact hbf) hk) (by decide) ⟨Nat.le_refl _, Nat.le_refl _⟩ (Nat.le_of_ble_eq_true rfl) dX9_readsLine_162 (pd_k1 ?_)
                  rw [m16_or]
                  refine at_ifeq (tgt := 185) dX9_readsLine_165 (by decide) (fun c165 => ?_) (fun c165 => ?_)
                  · -- taken 165
                    exact absurd c165 (by decide)
                  · -- not taken 165
                    refine at_aload_n dX9_readsLine_168 rfl ?_
                    refine at_getr (123) flX9_23 rfl sd_119 (rs_119_10 hR) dX9_readsLine_169 ?_
                    refine at_bipush dX9_readsLine_172 pc_b6 ?_
                    refine at_aload_n dX9_readsLine_174 rfl ?_
                    refine at_iconst dX9_readsLine_175 pc_i0 ?_
                    refine at_bipush dX9_readsLine_176 pc_b100 ?_
                    refine at_cv2 cvX9_117 sd_119 (ev_gz_num1 (lo := 0) (hi := 100) hR hG1 (by decide) (by decide) hN) (by decide) ⟨Nat.le_refl _, Nat.le_refl _⟩ (Nat.le_of_ble_eq_true rfl) dX9_readsLine_178 (pd_ki fun v2 I2 L2 hq => ?_)
                    obtain ⟨rfl, rfl, hF2, hZ2⟩ := hq
                    refine at_iast sd_123 (vp_in_nI (n := 6) (by decide) (by decide)) dX9_readsLine_181 ?_
                    refine at_goto (tgt := 244) dX9_readsLine_182 (by decide) ?_
                    exact hfG _ (i + 2, m ||| 2 ^ 6, upd r 6 (nI v), nv, ns, nl, e) ((hF1.tr hF2.fo).up3) (hZ2.row (fun x j hx => pd_up_nb hx) (by
                      show RQ (pd_up I2 123 6 (nI v)) 123 _
                      rw [ckR_self hrow]
                      have q2 : RQ I2 123 r := by have := hZ2.2.2.2.2.2.1; rwa [hse] at this
                      intro k hk2
                      unfold upd
                      by_cases hk3 : k = 6
                      · subst hk3; rw [pd_up_at, if_pos rfl]
                      · rw [pd_up_nj hk3, if_neg hk3]; exact q2 k hk2)) (by rw [pd_up_nb (by decide), hF2.2 15 (by decide) (by decide) (by decide) (by decide) (by decide)]; exact pd_up_at) (by rw [pTold, if_neg (show ¬ (tT B n).1 i = 1 from by rw [hkd, hk]; decide), if_neg (show ¬ (tT B n).1 i = 2 from by rw [hkd, hk]; decide), if_neg (show ¬ (tT B n).1 i = 3 from by rw [hkd, hk]; decide), if_neg (show ¬ (tT B n).1 i = 4 from by rw [hkd, hk]; decide), if_neg (show ¬ (tT B n).1 i = 5 from by rw [hkd, hk]; decide), if_pos (show (tT B n).1 i = 6 from hk), pOne, hkd, hk, hbt, if_neg (by decide), hN])
                · -- not taken 119
                  exact absurd rfl c119
              · -- not taken 93
                exact absurd rfl c93
            · -- not taken 75
              exact absurd rfl c75
          · -- not taken 33
            exact absurd rfl c33
        · -- not taken 16
          exact absurd rfl c16
  by_cases k7 : tkK B n (tq B n i) = 7
  · have hk := k7
    cases hbt : m.testBit 7 with
    | true =>
      refine at_aload_n dX9_readsLine_0 rfl ?_
      refine at_cv0 cvX9_70 sd_119 (ev_gz_here hR hZ) (by decide) ⟨Nat.le_refl _, Nat.le_refl _⟩ (Nat.le_of_ble_eq_true rfl) dX9_readsLine_1 (pd_k1 ?_)
      rw [← hK]
      refine at_pop dX9_readsLine_4 rfl ?_
      refine at_aload_n dX9_readsLine_5 rfl ?_
      refine at_geti flX9_57 rfl sd_119 dX9_readsLine_6 ?_
      rw [hKA]
      refine at_istore_n dX9_readsLine_9 rfl (Nat.le_of_ble_eq_true rfl) ?_
      refine at_aload_n dX9_readsLine_10 rfl ?_
      refine at_ldcS sw9_voter rfl dX9_readsLine_11 (fun hS11 => ?_)
      refine at_cv1 cvX9_150 sd_119 (ev_tkN hR hKZ hKA 0 (by decide) hS11 (by rw [hk]; decide)) (by decide) ⟨Nat.le_refl _, Nat.le_refl _⟩ (Nat.le_of_ble_eq_true rfl) dX9_readsLine_13 (pd_k1 ?_)
      refine at_ifeq (tgt := 27) dX9_readsLine_16 (by decide) (fun c16 => ?_) (fun c16 => ?_)
      · -- taken 16
        refine at_aload_n dX9_readsLine_27 rfl ?_
        refine at_ldcS sw9_sheet rfl dX9_readsLine_28 (fun hS28 => ?_)
        refine at_cv1 cvX9_150 sd_119 (ev_tkN hR hKZ hKA 1 (by decide) hS28 (by rw [hk]; decide)) (by decide) ⟨Nat.le_refl _, Nat.le_refl _⟩ (Nat.le_of_ble_eq_true rfl) dX9_readsLine_30 (pd_k1 ?_)
        refine at_ifeq (tgt := 69) dX9_readsLine_33 (by decide) (fun c33 => ?_) (fun c33 => ?_)
        · -- taken 33
          refine at_aload_n dX9_readsLine_69 rfl ?_
          refine at_ldcS sw9_sign rfl dX9_readsLine_70 (fun hS70 => ?_)
          refine at_cv1 cvX9_150 sd_119 (ev_tkN hR hKZ hKA 2 (by decide) hS70 (by rw [hk]; decide)) (by decide) ⟨Nat.le_refl _, Nat.le_refl _⟩ (Nat.le_of_ble_eq_true rfl) dX9_readsLine_72 (pd_k1 ?_)
          refine at_ifeq (tgt := 86) dX9_readsLine_75 (by decide) (fun c75 => ?_) (fun c75 => ?_)
          · -- taken 75
            refine at_aload_n dX9_readsLine_86 rfl ?_
            refine at_ldcS sw9_need rfl dX9_readsLine_87 (fun hS87 => ?_)
            refine at_iconst dX9_readsLine_89 pc_i0 ?_
            refine at_cv2 cvX9_192 sd_119 (ev_onN hR hKZ hKA hK15 h32 3 0 (by decide) (by decide) hS87 (Or.inr (by rw [hk]; decide))) (by decide) ⟨Nat.le_refl _, Nat.le_refl _⟩ (Nat.le_of_ble_eq_true rfl) dX9_readsLine_90 (pd_k1 ?_)
            refine at_ifeq (tgt := 112) dX9_readsLine_93 (by decide) (fun c93 => ?_) (fun c93 => ?_)
            · -- taken 93
              refine at_aload_n dX9_readsLine_112 rfl ?_
              refine at_ldcS sw9_span rfl dX9_readsLine_113 (fun hS113 => ?_)
              refine at_iconst dX9_readsLine_115 pc_i1 ?_
              refine at_cv2 cvX9_192 sd_119 (ev_onN hR hKZ hKA hK15 h32 4 1 (by decide) (by decide) hS113 (Or.inr (by rw [hk]; decide))) (by decide) ⟨Nat.le_refl _, Nat.le_refl _⟩ (Nat.le_of_ble_eq_true rfl) dX9_readsLine_116 (pd_k1 ?_)
              refine at_ifeq (tgt := 158) dX9_readsLine_119 (by decide) (fun c119 => ?_) (fun c119 => ?_)
              · -- taken 119
                refine at_aload_n dX9_readsLine_158 rfl ?_
                refine at_ldcS sw9_spoilt rfl dX9_readsLine_159 (fun hS159 => ?_)
                refine at_iconst dX9_readsLine_161 pc_i2 ?_
                refine at_cv2 cvX9_192 sd_119 (ev_onN hR hKZ hKA hK15 h32 5 2 (by decide) (by decide) hS159 (Or.inr (by rw [hk]; decide))) (by decide) ⟨Nat.le_refl _, Nat.le_refl _⟩ (Nat.le_of_ble_eq_true rfl) dX9_readsLine_162 (pd_k1 ?_)
                refine at_ifeq (tgt := 185) dX9_readsLine_165 (by decide) (fun c165 => ?_) (fun c165 => ?_)
                · -- taken 165
                  refine at_aload_n dX9_readsLine_185 rfl ?_
                  refine at_ldcS sw9_alpha rfl dX9_readsLine_186 (fun hS186 => ?_)
                  refine at_iconst dX9_readsLine_188 pc_i3 ?_
                  refine at_cv2 cvX9_192 sd_119 (ev_onN hR hKZ hKA hK15 h32 6 3 (by decide) (by decide) hS186 (Or.inl (by rw [m16_bit]; exact hbt))) (by decide) ⟨Nat.le_refl _, Nat.le_refl _⟩ (Nat.le_of_ble_eq_true rfl) dX9_readsLine_189 (pd_k1 ?_)
                  refine at_ifeq (tgt := 213) dX9_readsLine_192 (by decide) (fun c192 => ?_) (fun c192 => ?_)
                  · -- taken 192
                    refine at_aload_n dX9_readsLine_213 rfl ?_
                    refine at_ldcS sw9_good rfl dX9_readsLine_214 (fun hS214 => ?_)
                    refine at_iconst dX9_readsLine_216 pc_i4 ?_
                    refine at_cv2 cvX9_192 sd_119 (ev_onN hR hKZ hKA hK15 h32 7 4 (by decide) (by decide) hS214 (Or.inr (by rw [hk]; decide))) (by decide) ⟨Nat.le_refl _, Nat.le_refl _⟩ (Nat.le_of_ble_eq_true rfl) dX9_readsLine_217 (pd_k1 ?_)
                    refine at_ifeq (tgt := 238) dX9_readsLine_220 (by decide) (fun c220 => ?_) (fun c220 => ?_)
                    · -- taken 220
                      refine at_aload_n dX9_readsLine_238 rfl ?_
                      refine at_iconst dX9_readsLine_239 pc_i1 ?_
                      refine at_iload_n dX9_readsLine_240 rfl ?_
                      refine at_cv2 cvX9_95 sd_119 (ev_X9_wrong0 hKZ.2.2.1 _ _) (by decide) ⟨Nat.le_refl _, Nat.le_refl _⟩ (Nat.le_of_ble_eq_true rfl) dX9_readsLine_241 (pd_k0 ?_)
                      exact hfF _ (1, tq B n i) ((hKF.up (by decide)).up (by decide)) (hKw 1 (by decide)) (by rw [pTold, if_neg (show ¬ (tT B n).1 i = 1 from by rw [hkd, hk]; decide), if_neg (show ¬ (tT B n).1 i = 2 from by rw [hkd, hk]; decide), if_neg (show ¬ (tT B n).1 i = 3 from by rw [hkd, hk]; decide), if_neg (show ¬ (tT B n).1 i = 4 from by rw [hkd, hk]; decide), if_neg (show ¬ (tT B n).1 i = 5 from by rw [hkd, hk]; decide), if_neg (show ¬ (tT B n).1 i = 6 from by rw [hkd, hk]; decide), if_pos (show (tT B n).1 i = 7 from hk), pOne, hkd, hk, if_pos hbt]; rfl)
                    · -- not taken 220
                      exact absurd rfl c220
                  · -- not taken 192
                    exact absurd rfl c192
                · -- not taken 165
                  exact absurd rfl c165
              · -- not taken 119
                exact absurd rfl c119
            · -- not taken 93
              exact absurd rfl c93
          · -- not taken 75
            exact absurd rfl c75
        · -- not taken 33
          exact absurd rfl c33
      · -- not taken 16
        exact absurd rfl c16
    | false =>
      have hbf := hbt
      have hG1 : GZ (pd_up (pd_up K 119 4 (nI (tkE B n (tq B n i)))) 119 15 (nI ((m ||| 2 ^ 7) / 16))) B n r (rl_ks e) 0 (i + 1) := hNX.on
      have hF1 : FO I (pd_up (pd_up K 119 4 (nI (tkE B n (tq B n i)))) 119 15 (nI ((m ||| 2 ^ 7) / 16))) := (hKF.up (by decide)).up (by decide)
      cases hN : pNum (tT B n) (i + 1) 1 499 with
      | inr z =>
        refine at_aload_n dX9_readsLine_0 rfl ?_
        refine at_cv0 cvX9_70 sd_119 (ev_gz_here hR hZ) (by decide) ⟨Nat.le_refl _, Nat.le_refl _⟩ (Nat.le_of_ble_eq_true rfl) dX9_readsLine_1 (pd_k1 ?_)
        rw [← hK]
        refine at_pop dX9_readsLine_4 rfl ?_
        refine at_aload_n dX9_readsLine_5 rfl ?_
        refine at_geti flX9_57 rfl sd_119 dX9_readsLine_6 ?_
        rw [hKA]
        refine at_istore_n dX9_readsLine_9 rfl (Nat.le_of_ble_eq_true rfl) ?_
        refine at_aload_n dX9_readsLine_10 rfl ?_
        refine at_ldcS sw9_voter rfl dX9_readsLine_11 (fun hS11 => ?_)
        refine at_cv1 cvX9_150 sd_119 (ev_tkN hR hKZ hKA 0 (by decide) hS11 (by rw [hk]; decide)) (by decide) ⟨Nat.le_refl _, Nat.le_refl _⟩ (Nat.le_of_ble_eq_true rfl) dX9_readsLine_13 (pd_k1 ?_)
        refine at_ifeq (tgt := 27) dX9_readsLine_16 (by decide) (fun c16 => ?_) (fun c16 => ?_)
        · -- taken 16
          refine at_aload_n dX9_readsLine_27 rfl ?_
          refine at_ldcS sw9_sheet rfl dX9_readsLine_28 (fun hS28 => ?_)
          refine at_cv1 cvX9_150 sd_119 (ev_tkN hR hKZ hKA 1 (by decide) hS28 (by rw [hk]; decide)) (by decide) ⟨Nat.le_refl _, Nat.le_refl _⟩ (Nat.le_of_ble_eq_true rfl) dX9_readsLine_30 (pd_k1 ?_)
          refine at_ifeq (tgt := 69) dX9_readsLine_33 (by decide) (fun c33 => ?_) (fun c33 => ?_)
          · -- taken 33
            refine at_aload_n dX9_readsLine_69 rfl ?_
            refine at_ldcS sw9_sign rfl dX9_readsLine_70 (fun hS70 => ?_)
            refine at_cv1 cvX9_150 sd_119 (ev_tkN hR hKZ hKA 2 (by decide) hS70 (by rw [hk]; decide)) (by decide) ⟨Nat.le_refl _, Nat.le_refl _⟩ (Nat.le_of_ble_eq_true rfl) dX9_readsLine_72 (pd_k1 ?_)
            refine at_ifeq (tgt := 86) dX9_readsLine_75 (by decide) (fun c75 => ?_) (fun c75 => ?_)
            · -- taken 75
              refine at_aload_n dX9_readsLine_86 rfl ?_
              refine at_ldcS sw9_need rfl dX9_readsLine_87 (fun hS87 => ?_)
              refine at_iconst dX9_readsLine_89 pc_i0 ?_
              refine at_cv2 cvX9_192 sd_119 (ev_onN hR hKZ hKA hK15 h32 3 0 (by decide) (by decide) hS87 (Or.inr (by rw [hk]; decide))) (by decide) ⟨Nat.le_refl _, Nat.le_refl _⟩ (Nat.le_of_ble_eq_true rfl) dX9_readsLine_90 (pd_k1 ?_)
              refine at_ifeq (tgt := 112) dX9_readsLine_93 (by decide) (fun c93 => ?_) (fun c93 => ?_)
              · -- taken 93
                refine at_aload_n dX9_readsLine_112 rfl ?_
                refine at_ldcS sw9_span rfl dX9_readsLine_113 (fun hS113 => ?_)
                refine at_iconst dX9_readsLine_115 pc_i1 ?_
                refine at_cv2 cvX9_192 sd_119 (ev_onN hR hKZ hKA hK15 h32 4 1 (by decide) (by decide) hS113 (Or.inr (by rw [hk]; decide))) (by decide) ⟨Nat.le_refl _, Nat.le_refl _⟩ (Nat.le_of_ble_eq_true rfl) dX9_readsLine_116 (pd_k1 ?_)
                refine at_ifeq (tgt := 158) dX9_readsLine_119 (by decide) (fun c119 => ?_) (fun c119 => ?_)
                · -- taken 119
                  refine at_aload_n dX9_readsLine_158 rfl ?_
                  refine at_ldcS sw9_spoilt rfl dX9_readsLine_159 (fun hS159 => ?_)
                  refine at_iconst dX9_readsLine_161 pc_i2 ?_
                  refine at_cv2 cvX9_192 sd_119 (ev_onN hR hKZ hKA hK15 h32 5 2 (by decide) (by decide) hS159 (Or.inr (by rw [hk]; decide))) (by decide) ⟨Nat.le_refl _, Nat.le_refl _⟩ (Nat.le_of_ble_eq_true rfl) dX9_readsLine_162 (pd_k1 ?_)
                  refine at_ifeq (tgt := 185) dX9_readsLine_165 (by decide) (fun c165 => ?_) (fun c165 => ?_)
                  · -- taken 165
                    refine at_aload_n dX9_readsLine_185 rfl ?_
                    refine at_ldcS sw9_alpha rfl dX9_readsLine_186 (fun hS186 => ?_)
                    refine at_iconst dX9_readsLine_188 pc_i3 ?_
                    refine at_cv2 cvX9_192 sd_119 (ev_onY hR hKZ hKA hK15 h32 6 3 (by decide) (by decide) hS186 (by rw [m16_bit]; exact hbf) hk) (by decide) ⟨Nat.le_refl _, Nat.le_refl _⟩ (Nat.le_of_ble_eq_true rfl) dX9_readsLine_189 (pd_k1 ?_)
                    rw [m16_or]
                    refine at_ifeq (tgt := 213) dX9_readsLine_192 (by decide) (fun c192 => ?_) (fun c192 => ?_)
                    · -- taken 192
                      exact absurd c192 (by decide)
                    · -- not taken 192
                      refine at_aload_n dX9_readsLine_195 rfl ?_
                      refine at_getr (123) flX9_23 rfl sd_119 (rs_119_10 hR) dX9_readsLine_196 ?_
                      refine at_bipush dX9_readsLine_199 pc_b7 ?_
                      refine at_aload_n dX9_readsLine_201 rfl ?_
                      refine at_iconst dX9_readsLine_202 pc_i1 ?_
                      refine at_sipush dX9_readsLine_203 pc_s499 ?_
                      refine at_cv2 cvX9_117 sd_119 (ev_gz_num0 (lo := 1) (hi := 499) hR hG1 (by decide) (by decide) hN) (by decide) ⟨Nat.le_refl _, Nat.le_refl _⟩ (Nat.le_of_ble_eq_true rfl) dX9_readsLine_206 (pd_ki fun v I2 L2 hq => ?_)
                      obtain ⟨rfl, hF2, hZ2⟩ := hq
                      refine at_iast sd_123 (vp_in_nI (n := 7) (by decide) (by decide)) dX9_readsLine_209 ?_
                      refine at_goto (tgt := 244) dX9_readsLine_210 (by decide) ?_
                      exact hfF _ z ((hF1.tr hF2.fo).up3) (hZ2.mono (by decide)).up3 (by rw [pTold, if_neg (show ¬ (tT B n).1 i = 1 from by rw [hkd, hk]; decide), if_neg (show ¬ (tT B n).1 i = 2 from by rw [hkd, hk]; decide), if_neg (show ¬ (tT B n).1 i = 3 from by rw [hkd, hk]; decide), if_neg (show ¬ (tT B n).1 i = 4 from by rw [hkd, hk]; decide), if_neg (show ¬ (tT B n).1 i = 5 from by rw [hkd, hk]; decide), if_neg (show ¬ (tT B n).1 i = 6 from by rw [hkd, hk]; decide), if_pos (show (tT B n).1 i = 7 from hk), pOne, hkd, hk, hbt, if_neg (by decide), hN])
                  · -- not taken 165
                    exact absurd rfl c165
                · -- not taken 119
                  exact absurd rfl c119
              · -- not taken 93
                exact absurd rfl c93
            · -- not taken 75
              exact absurd rfl c75
          · -- not taken 33
            exact absurd rfl c33
        · -- not taken 16
          exact absurd rfl c16
      | inl v =>
        obtain ⟨n1, n2, n3, n4⟩ := pNum_ok hN
        have hrow := (LJ.few (k := 7) (v := v) (m' := m ||| 2 ^ 7) hJ (by decide) (fun q => by omega) (fun q => by omega) (or_lt hm (by decide)) (by rw [or_bit, decide_eq_false (by decide), Bool.or_false])).1
        refine at_aload_n dX9_readsLine_0 rfl ?_
        refine at_cv0 cvX9_70 sd_119 (ev_gz_here hR hZ) (by decide) ⟨Nat.le_refl _, Nat.le_refl _⟩ (Nat.le_of_ble_eq_true rfl) dX9_readsLine_1 (pd_k1 ?_)
        rw [← hK]
        refine at_pop dX9_readsLine_4 rfl ?_
        refine at_aload_n dX9_readsLine_5 rfl ?_
        refine at_geti flX9_57 rfl sd_119 dX9_readsLine_6 ?_
        rw [hKA]
        refine at_istore_n dX9_readsLine_9 rfl (Nat.le_of_ble_eq_true rfl) ?_
        refine at_aload_n dX9_readsLine_10 rfl ?_
        refine at_ldcS sw9_voter rfl dX9_readsLine_11 (fun hS11 => ?_)
        refine at_cv1 cvX9_150 sd_119 (ev_tkN hR hKZ hKA 0 (by decide) hS11 (by rw [hk]; decide)) (by decide) ⟨Nat.le_refl _, Nat.le_refl _⟩ (Nat.le_of_ble_eq_true rfl) dX9_readsLine_13 (pd_k1 ?_)
        refine at_ifeq (tgt := 27) dX9_readsLine_16 (by decide) (fun c16 => ?_) (fun c16 => ?_)
        · -- taken 16
          refine at_aload_n dX9_readsLine_27 rfl ?_
          refine at_ldcS sw9_sheet rfl dX9_readsLine_28 (fun hS28 => ?_)
          refine at_cv1 cvX9_150 sd_119 (ev_tkN hR hKZ hKA 1 (by decide) hS28 (by rw [hk]; decide)) (by decide) ⟨Nat.le_refl _, Nat.le_refl _⟩ (Nat.le_of_ble_eq_true rfl) dX9_readsLine_30 (pd_k1 ?_)
          refine at_ifeq (tgt := 69) dX9_readsLine_33 (by decide) (fun c33 => ?_) (fun c33 => ?_)
          · -- taken 33
            refine at_aload_n dX9_readsLine_69 rfl ?_
            refine at_ldcS sw9_sign rfl dX9_readsLine_70 (fun hS70 => ?_)
            refine at_cv1 cvX9_150 sd_119 (ev_tkN hR hKZ hKA 2 (by decide) hS70 (by rw [hk]; decide)) (by decide) ⟨Nat.le_refl _, Nat.le_refl _⟩ (Nat.le_of_ble_eq_true rfl) dX9_readsLine_72 (pd_k1 ?_)
            refine at_ifeq (tgt := 86) dX9_readsLine_75 (by decide) (fun c75 => ?_) (fun c75 => ?_)
            · -- taken 75
              refine at_aload_n dX9_readsLine_86 rfl ?_
              refine at_ldcS sw9_need rfl dX9_readsLine_87 (fun hS87 => ?_)
              refine at_iconst dX9_readsLine_89 pc_i0 ?_
              refine at_cv2 cvX9_192 sd_119 (ev_onN hR hKZ hKA hK15 h32 3 0 (by decide) (by decide) hS87 (Or.inr (by rw [hk]; decide))) (by decide) ⟨Nat.le_refl _, Nat.le_refl _⟩ (Nat.le_of_ble_eq_true rfl) dX9_readsLine_90 (pd_k1 ?_)
              refine at_ifeq (tgt := 112) dX9_readsLine_93 (by decide) (fun c93 => ?_) (fun c93 => ?_)
              · -- taken 93
                refine at_aload_n dX9_readsLine_112 rfl ?_
                refine at_ldcS sw9_span rfl dX9_readsLine_113 (fun hS113 => ?_)
                refine at_iconst dX9_readsLine_115 pc_i1 ?_
                refine at_cv2 cvX9_192 sd_119 (ev_onN hR hKZ hKA hK15 h32 4 1 (by decide) (by decide) hS113 (Or.inr (by rw [hk]; decide))) (by decide) ⟨Nat.le_refl _, Nat.le_refl _⟩ (Nat.le_of_ble_eq_true rfl) dX9_readsLine_116 (pd_k1 ?_)
                refine at_ifeq (tgt := 158) dX9_readsLine_119 (by decide) (fun c119 => ?_) (fun c119 => ?_)
                · -- taken 119
                  refine at_aload_n dX9_readsLine_158 rfl ?_
                  refine at_ldcS sw9_spoilt rfl dX9_readsLine_159 (fun hS159 => ?_)
                  refine at_iconst dX9_readsLine_161 pc_i2 ?_
                  refine at_cv2 cvX9_192 sd_119 (ev_onN hR hKZ hKA hK15 h32 5 2 (by decide) (by decide) hS159 (Or.inr (by rw [hk]; decide))) (by decide) ⟨Nat.le_refl _, Nat.le_refl _⟩ (Nat.le_of_ble_eq_true rfl) dX9_readsLine_162 (pd_k1 ?_)
                  refine at_ifeq (tgt := 185) dX9_readsLine_165 (by decide) (fun c165 => ?_) (fun c165 => ?_)
                  · -- taken 165
                    refine at_aload_n dX9_readsLine_185 rfl ?_
                    refine at_ldcS sw9_alpha rfl dX9_readsLine_186 (fun hS186 => ?_)
                    refine at_iconst dX9_readsLine_188 pc_i3 ?_
                    refine at_cv2 cvX9_192 sd_119 (ev_onY hR hKZ hKA hK15 h32 6 3 (by decide) (by decide) hS186 (by rw [m16_bit]; exact hbf) hk) (by decide) ⟨Nat.le_refl _, Nat.le_refl _⟩ (Nat.le_of_ble_eq_true rfl) dX9_readsLine_189 (pd_k1 ?_)
                    rw [m16_or]
                    refine at_ifeq (tgt := 213) dX9_readsLine_192 (by decide) (fun c192 => ?_) (fun c192 => ?_)
                    · -- taken 192
                      exact absurd c192 (by decide)
                    · -- not taken 192
                      refine at_aload_n dX9_readsLine_195 rfl ?_
                      refine at_getr (123) flX9_23 rfl sd_119 (rs_119_10 hR) dX9_readsLine_196 ?_
                      refine at_bipush dX9_readsLine_199 pc_b7 ?_
                      refine at_aload_n dX9_readsLine_201 rfl ?_
                      refine at_iconst dX9_readsLine_202 pc_i1 ?_
                      refine at_sipush dX9_readsLine_203 pc_s499 ?_
                      refine at_cv2 cvX9_117 sd_119 (ev_gz_num1 (lo := 1) (hi := 499) hR hG1 (by decide) (by decide) hN) (by decide) ⟨Nat.le_refl _, Nat.le_refl _⟩ (Nat.le_of_ble_eq_true rfl) dX9_readsLine_206 (pd_ki fun v2 I2 L2 hq => ?_)
                      obtain ⟨rfl, rfl, hF2, hZ2⟩ := hq
                      refine at_iast sd_123 (vp_in_nI (n := 7) (by decide) (by decide)) dX9_readsLine_209 ?_
                      refine at_goto (tgt := 244) dX9_readsLine_210 (by decide) ?_
                      exact hfG _ (i + 2, m ||| 2 ^ 7, upd r 7 (nI v), nv, ns, nl, e) ((hF1.tr hF2.fo).up3) (hZ2.row (fun x j hx => pd_up_nb hx) (by
                        show RQ (pd_up I2 123 7 (nI v)) 123 _
                        rw [ckR_self hrow]
                        have q2 : RQ I2 123 r := by have := hZ2.2.2.2.2.2.1; rwa [hse] at this
                        intro k hk2
                        unfold upd
                        by_cases hk3 : k = 7
                        · subst hk3; rw [pd_up_at, if_pos rfl]
                        · rw [pd_up_nj hk3, if_neg hk3]; exact q2 k hk2)) (by rw [pd_up_nb (by decide), hF2.2 15 (by decide) (by decide) (by decide) (by decide) (by decide)]; exact pd_up_at) (by rw [pTold, if_neg (show ¬ (tT B n).1 i = 1 from by rw [hkd, hk]; decide), if_neg (show ¬ (tT B n).1 i = 2 from by rw [hkd, hk]; decide), if_neg (show ¬ (tT B n).1 i = 3 from by rw [hkd, hk]; decide), if_neg (show ¬ (tT B n).1 i = 4 from by rw [hkd, hk]; decide), if_neg (show ¬ (tT B n).1 i = 5 from by rw [hkd, hk]; decide), if_neg (show ¬ (tT B n).1 i = 6 from by rw [hkd, hk]; decide), if_pos (show (tT B n).1 i = 7 from hk), pOne, hkd, hk, hbt, if_neg (by decide), hN])
                  · -- not taken 165
                    exact absurd rfl c165
                · -- not taken 119
                  exact absurd rfl c119
              · -- not taken 93
                exact absurd rfl c93
            · -- not taken 75
              exact absurd rfl c75
          · -- not taken 33
            exact absurd rfl c33
        · -- not taken 16
          exact absurd rfl c16
  by_cases k8 : tkK B n (tq B n i) = 8
  · have hk := k8
    cases hbt : m.testBit 8 with
    | true =>
      refine at_aload_n dX9_readsLine_0 rfl ?_
      refine at_cv0 cvX9_70 sd_119 (ev_gz_here hR hZ) (by decide) ⟨Nat.le_refl _, Nat.le_refl _⟩ (Nat.le_of_ble_eq_true rfl) dX9_readsLine_1 (pd_k1 ?_)
      rw [← hK]
      refine at_pop dX9_readsLine_4 rfl ?_
      refine at_aload_n dX9_readsLine_5 rfl ?_
      refine at_geti flX9_57 rfl sd_119 dX9_readsLine_6 ?_
      rw [hKA]
      refine at_istore_n dX9_readsLine_9 rfl (Nat.le_of_ble_eq_true rfl) ?_
      refine at_aload_n dX9_readsLine_10 rfl ?_
      refine at_ldcS sw9_voter rfl dX9_readsLine_11 (fun hS11 => ?_)
      refine at_cv1 cvX9_150 sd_119 (ev_tkN hR hKZ hKA 0 (by decide) hS11 (by rw [hk]; decide)) (by decide) ⟨Nat.le_refl _, Nat.le_refl _⟩ (Nat.le_of_ble_eq_true rfl) dX9_readsLine_13 (pd_k1 ?_)
      refine at_ifeq (tgt := 27) dX9_readsLine_16 (by decide) (fun c16 => ?_) (fun c16 => ?_)
      · -- taken 16
        refine at_aload_n dX9_readsLine_27 rfl ?_
        refine at_ldcS sw9_sheet rfl dX9_readsLine_28 (fun hS28 => ?_)
        refine at_cv1 cvX9_150 sd_119 (ev_tkN hR hKZ hKA 1 (by decide) hS28 (by rw [hk]; decide)) (by decide) ⟨Nat.le_refl _, Nat.le_refl _⟩ (Nat.le_of_ble_eq_true rfl) dX9_readsLine_30 (pd_k1 ?_)
        refine at_ifeq (tgt := 69) dX9_readsLine_33 (by decide) (fun c33 => ?_) (fun c33 => ?_)
        · -- taken 33
          refine at_aload_n dX9_readsLine_69 rfl ?_
          refine at_ldcS sw9_sign rfl dX9_readsLine_70 (fun hS70 => ?_)
          refine at_cv1 cvX9_150 sd_119 (ev_tkN hR hKZ hKA 2 (by decide) hS70 (by rw [hk]; decide)) (by decide) ⟨Nat.le_refl _, Nat.le_refl _⟩ (Nat.le_of_ble_eq_true rfl) dX9_readsLine_72 (pd_k1 ?_)
          refine at_ifeq (tgt := 86) dX9_readsLine_75 (by decide) (fun c75 => ?_) (fun c75 => ?_)
          · -- taken 75
            refine at_aload_n dX9_readsLine_86 rfl ?_
            refine at_ldcS sw9_need rfl dX9_readsLine_87 (fun hS87 => ?_)
            refine at_iconst dX9_readsLine_89 pc_i0 ?_
            refine at_cv2 cvX9_192 sd_119 (ev_onN hR hKZ hKA hK15 h32 3 0 (by decide) (by decide) hS87 (Or.inr (by rw [hk]; decide))) (by decide) ⟨Nat.le_refl _, Nat.le_refl _⟩ (Nat.le_of_ble_eq_true rfl) dX9_readsLine_90 (pd_k1 ?_)
            refine at_ifeq (tgt := 112) dX9_readsLine_93 (by decide) (fun c93 => ?_) (fun c93 => ?_)
            · -- taken 93
              refine at_aload_n dX9_readsLine_112 rfl ?_
              refine at_ldcS sw9_span rfl dX9_readsLine_113 (fun hS113 => ?_)
              refine at_iconst dX9_readsLine_115 pc_i1 ?_
              refine at_cv2 cvX9_192 sd_119 (ev_onN hR hKZ hKA hK15 h32 4 1 (by decide) (by decide) hS113 (Or.inr (by rw [hk]; decide))) (by decide) ⟨Nat.le_refl _, Nat.le_refl _⟩ (Nat.le_of_ble_eq_true rfl) dX9_readsLine_116 (pd_k1 ?_)
              refine at_ifeq (tgt := 158) dX9_readsLine_119 (by decide) (fun c119 => ?_) (fun c119 => ?_)
              · -- taken 119
                refine at_aload_n dX9_readsLine_158 rfl ?_
                refine at_ldcS sw9_spoilt rfl dX9_readsLine_159 (fun hS159 => ?_)
                refine at_iconst dX9_readsLine_161 pc_i2 ?_
                refine at_cv2 cvX9_192 sd_119 (ev_onN hR hKZ hKA hK15 h32 5 2 (by decide) (by decide) hS159 (Or.inr (by rw [hk]; decide))) (by decide) ⟨Nat.le_refl _, Nat.le_refl _⟩ (Nat.le_of_ble_eq_true rfl) dX9_readsLine_162 (pd_k1 ?_)
                refine at_ifeq (tgt := 185) dX9_readsLine_165 (by decide) (fun c165 => ?_) (fun c165 => ?_)
                · -- taken 165
                  refine at_aload_n dX9_readsLine_185 rfl ?_
                  refine at_ldcS sw9_alpha rfl dX9_readsLine_186 (fun hS186 => ?_)
                  refine at_iconst dX9_readsLine_188 pc_i3 ?_
                  refine at_cv2 cvX9_192 sd_119 (ev_onN hR hKZ hKA hK15 h32 6 3 (by decide) (by decide) hS186 (Or.inr (by rw [hk]; decide))) (by decide) ⟨Nat.le_refl _, Nat.le_refl _⟩ (Nat.le_of_ble_eq_true rfl) dX9_readsLine_189 (pd_k1 ?_)
                  refine at_ifeq (tgt := 213) dX9_readsLine_192 (by decide) (fun c192 => ?_) (fun c192 => ?_)
                  · -- taken 192
                    refine at_aload_n dX9_readsLine_213 rfl ?_
                    refine at_ldcS sw9_good rfl dX9_readsLine_214 (fun hS214 => ?_)
                    refine at_iconst dX9_readsLine_216 pc_i4 ?_
                    refine at_cv2 cvX9_192 sd_119 (ev_onN hR hKZ hKA hK15 h32 7 4 (by decide) (by decide) hS214 (Or.inl (by rw [m16_bit]; exact hbt))) (by decide) ⟨Nat.le_refl _, Nat.le_refl _⟩ (Nat.le_of_ble_eq_true rfl) dX9_readsLine_217 (pd_k1 ?_)
                    refine at_ifeq (tgt := 238) dX9_readsLine_220 (by decide) (fun c220 => ?_) (fun c220 => ?_)
                    · -- taken 220
                      refine at_aload_n dX9_readsLine_238 rfl ?_
                      refine at_iconst dX9_readsLine_239 pc_i1 ?_
                      refine at_iload_n dX9_readsLine_240 rfl ?_
                      refine at_cv2 cvX9_95 sd_119 (ev_X9_wrong0 hKZ.2.2.1 _ _) (by decide) ⟨Nat.le_refl _, Nat.le_refl _⟩ (Nat.le_of_ble_eq_true rfl) dX9_readsLine_241 (pd_k0 ?_)
                      exact hfF _ (1, tq B n i) ((hKF.up (by decide)).up (by decide)) (hKw 1 (by decide)) (by rw [pTold, if_neg (show ¬ (tT B n).1 i = 1 from by rw [hkd, hk]; decide), if_neg (show ¬ (tT B n).1 i = 2 from by rw [hkd, hk]; decide), if_neg (show ¬ (tT B n).1 i = 3 from by rw [hkd, hk]; decide), if_neg (show ¬ (tT B n).1 i = 4 from by rw [hkd, hk]; decide), if_neg (show ¬ (tT B n).1 i = 5 from by rw [hkd, hk]; decide), if_neg (show ¬ (tT B n).1 i = 6 from by rw [hkd, hk]; decide), if_neg (show ¬ (tT B n).1 i = 7 from by rw [hkd, hk]; decide), if_pos (show (tT B n).1 i = 8 from hk), pGood, hkd, hk, if_pos hbt]; rfl)
                    · -- not taken 220
                      exact absurd rfl c220
                  · -- not taken 192
                    exact absurd rfl c192
                · -- not taken 165
                  exact absurd rfl c165
              · -- not taken 119
                exact absurd rfl c119
            · -- not taken 93
              exact absurd rfl c93
          · -- not taken 75
            exact absurd rfl c75
        · -- not taken 33
          exact absurd rfl c33
      · -- not taken 16
        exact absurd rfl c16
    | false =>
      have hbf := hbt
      have he : e = [] := (hJ.2.2.1 hbt).1
      subst he
      have hG1 : GZ (pd_up (pd_up K 119 4 (nI (tkE B n (tq B n i)))) 119 15 (nI ((m ||| 2 ^ 8) / 16))) B n r (rl_ks []) 0 (i + 1) := hNX.on
      have hF1 : FO I (pd_up (pd_up K 119 4 (nI (tkE B n (tq B n i)))) 119 15 (nI ((m ||| 2 ^ 8) / 16))) := (hKF.up (by decide)).up (by decide)
      have hlt := hT.lt hi (show (tT B n).1 i ≠ 0 from by rw [hkd, hk]; decide)
      cases hP : pP (tT B n) f 2 0 (i + 1) [] with
      | none =>
        unfold pLine at hp
        rw [show pTold (tT B n) f i m (r, nv, ns, nl, []) = none from (by rw [pTold, if_neg (show ¬ (tT B n).1 i = 1 from by rw [hkd, hk]; decide), if_neg (show ¬ (tT B n).1 i = 2 from by rw [hkd, hk]; decide), if_neg (show ¬ (tT B n).1 i = 3 from by rw [hkd, hk]; decide), if_neg (show ¬ (tT B n).1 i = 4 from by rw [hkd, hk]; decide), if_neg (show ¬ (tT B n).1 i = 5 from by rw [hkd, hk]; decide), if_neg (show ¬ (tT B n).1 i = 6 from by rw [hkd, hk]; decide), if_neg (show ¬ (tT B n).1 i = 7 from by rw [hkd, hk]; decide), if_pos (show (tT B n).1 i = 8 from hk), pGood, hkd, hk, hbt, if_neg (by decide), hP])] at hp
        cases hp
      | some y =>
        have hrec := (rz (G := G) (L := L) (r := r) hR hT hn f 2 0 (i + 1) [] _ y (by decide) (by decide) (by omega) hG1 (by simp [rl_ks]) hP).2.2.1 rfl
        cases y with
        | inr z =>
          refine at_aload_n dX9_readsLine_0 rfl ?_
          refine at_cv0 cvX9_70 sd_119 (ev_gz_here hR hZ) (by decide) ⟨Nat.le_refl _, Nat.le_refl _⟩ (Nat.le_of_ble_eq_true rfl) dX9_readsLine_1 (pd_k1 ?_)
          rw [← hK]
          refine at_pop dX9_readsLine_4 rfl ?_
          refine at_aload_n dX9_readsLine_5 rfl ?_
          refine at_geti flX9_57 rfl sd_119 dX9_readsLine_6 ?_
          rw [hKA]
          refine at_istore_n dX9_readsLine_9 rfl (Nat.le_of_ble_eq_true rfl) ?_
          refine at_aload_n dX9_readsLine_10 rfl ?_
          refine at_ldcS sw9_voter rfl dX9_readsLine_11 (fun hS11 => ?_)
          refine at_cv1 cvX9_150 sd_119 (ev_tkN hR hKZ hKA 0 (by decide) hS11 (by rw [hk]; decide)) (by decide) ⟨Nat.le_refl _, Nat.le_refl _⟩ (Nat.le_of_ble_eq_true rfl) dX9_readsLine_13 (pd_k1 ?_)
          refine at_ifeq (tgt := 27) dX9_readsLine_16 (by decide) (fun c16 => ?_) (fun c16 => ?_)
          · -- taken 16
            refine at_aload_n dX9_readsLine_27 rfl ?_
            refine at_ldcS sw9_sheet rfl dX9_readsLine_28 (fun hS28 => ?_)
            refine at_cv1 cvX9_150 sd_119 (ev_tkN hR hKZ hKA 1 (by decide) hS28 (by rw [hk]; decide)) (by decide) ⟨Nat.le_refl _, Nat.le_refl _⟩ (Nat.le_of_ble_eq_true rfl) dX9_readsLine_30 (pd_k1 ?_)
            refine at_ifeq (tgt := 69) dX9_readsLine_33 (by decide) (fun c33 => ?_) (fun c33 => ?_)
            · -- taken 33
              refine at_aload_n dX9_readsLine_69 rfl ?_
              refine at_ldcS sw9_sign rfl dX9_readsLine_70 (fun hS70 => ?_)
              refine at_cv1 cvX9_150 sd_119 (ev_tkN hR hKZ hKA 2 (by decide) hS70 (by rw [hk]; decide)) (by decide) ⟨Nat.le_refl _, Nat.le_refl _⟩ (Nat.le_of_ble_eq_true rfl) dX9_readsLine_72 (pd_k1 ?_)
              refine at_ifeq (tgt := 86) dX9_readsLine_75 (by decide) (fun c75 => ?_) (fun c75 => ?_)
              · -- taken 75
                refine at_aload_n dX9_readsLine_86 rfl ?_
                refine at_ldcS sw9_need rfl dX9_readsLine_87 (fun hS87 => ?_)
                refine at_iconst dX9_readsLine_89 pc_i0 ?_
                refine at_cv2 cvX9_192 sd_119 (ev_onN hR hKZ hKA hK15 h32 3 0 (by decide) (by decide) hS87 (Or.inr (by rw [hk]; decide))) (by decide) ⟨Nat.le_refl _, Nat.le_refl _⟩ (Nat.le_of_ble_eq_true rfl) dX9_readsLine_90 (pd_k1 ?_)
                refine at_ifeq (tgt := 112) dX9_readsLine_93 (by decide) (fun c93 => ?_) (fun c93 => ?_)
                · -- taken 93
                  refine at_aload_n dX9_readsLine_112 rfl ?_
                  refine at_ldcS sw9_span rfl dX9_readsLine_113 (fun hS113 => ?_)
                  refine at_iconst dX9_readsLine_115 pc_i1 ?_
                  refine at_cv2 cvX9_192 sd_119 (ev_onN hR hKZ hKA hK15 h32 4 1 (by decide) (by decide) hS113 (Or.inr (by rw [hk]; decide))) (by decide) ⟨Nat.le_refl _, Nat.le_refl _⟩ (Nat.le_of_ble_eq_true rfl) dX9_readsLine_116 (pd_k1 ?_)
                  refine at_ifeq (tgt := 158) dX9_readsLine_119 (by decide) (fun c119 => ?_) (fun c119 => ?_)
                  · -- taken 119
                    refine at_aload_n dX9_readsLine_158 rfl ?_
                    refine at_ldcS sw9_spoilt rfl dX9_readsLine_159 (fun hS159 => ?_)
                    refine at_iconst dX9_readsLine_161 pc_i2 ?_
                    refine at_cv2 cvX9_192 sd_119 (ev_onN hR hKZ hKA hK15 h32 5 2 (by decide) (by decide) hS159 (Or.inr (by rw [hk]; decide))) (by decide) ⟨Nat.le_refl _, Nat.le_refl _⟩ (Nat.le_of_ble_eq_true rfl) dX9_readsLine_162 (pd_k1 ?_)
                    refine at_ifeq (tgt := 185) dX9_readsLine_165 (by decide) (fun c165 => ?_) (fun c165 => ?_)
                    · -- taken 165
                      refine at_aload_n dX9_readsLine_185 rfl ?_
                      refine at_ldcS sw9_alpha rfl dX9_readsLine_186 (fun hS186 => ?_)
                      refine at_iconst dX9_readsLine_188 pc_i3 ?_
                      refine at_cv2 cvX9_192 sd_119 (ev_onN hR hKZ hKA hK15 h32 6 3 (by decide) (by decide) hS186 (Or.inr (by rw [hk]; decide))) (by decide) ⟨Nat.le_refl _, Nat.le_refl _⟩ (Nat.le_of_ble_eq_true rfl) dX9_readsLine_189 (pd_k1 ?_)
                      refine at_ifeq (tgt := 213) dX9_readsLine_192 (by decide) (fun c192 => ?_) (fun c192 => ?_)
                      · -- taken 192
                        refine at_aload_n dX9_readsLine_213 rfl ?_
                        refine at_ldcS sw9_good rfl dX9_readsLine_214 (fun hS214 => ?_)
                        refine at_iconst dX9_readsLine_216 pc_i4 ?_
                        refine at_cv2 cvX9_192 sd_119 (ev_onY hR hKZ hKA hK15 h32 7 4 (by decide) (by decide) hS214 (by rw [m16_bit]; exact hbf) hk) (by decide) ⟨Nat.le_refl _, Nat.le_refl _⟩ (Nat.le_of_ble_eq_true rfl) dX9_readsLine_217 (pd_k1 ?_)
                        rw [m16_or]
                        refine at_ifeq (tgt := 238) dX9_readsLine_220 (by decide) (fun c220 => ?_) (fun c220 => ?_)
                        · -- taken 220
                          exact absurd c220 (by decide)
                        · -- not taken 220
                          refine at_aload_n dX9_readsLine_223 rfl ?_
                          refine at_cv0 cvX9_164 sd_119 (hrec) (by decide) ⟨Nat.le_refl _, Nat.le_refl _⟩ (Nat.le_of_ble_eq_true rfl) dX9_readsLine_224 (pd_ke fun I2 L2 hq => ?_)
                          obtain ⟨rfl, hF2, hZ2⟩ := hq
                          replace hZ2 : FZ I2 B n 3 z := hZ2
                          refine at_aload_n dX9_readsLine_227 rfl ?_
                          refine at_getr (123) flX9_23 rfl sd_119 (rs_119_10 hR) dX9_readsLine_228 ?_
                          refine at_bipush dX9_readsLine_231 pc_b8 ?_
                          refine at_iconst dX9_readsLine_233 pc_i1 ?_
                          refine at_iast sd_123 (vp_in_nI (n := 8) (by decide) (by decide)) dX9_readsLine_234 ?_
                          refine at_goto (tgt := 244) dX9_readsLine_235 (by decide) ?_
                          exact hfF _ z ((hF1.tr hF2.fo).up3) hZ2.up3 (by rw [pTold, if_neg (show ¬ (tT B n).1 i = 1 from by rw [hkd, hk]; decide), if_neg (show ¬ (tT B n).1 i = 2 from by rw [hkd, hk]; decide), if_neg (show ¬ (tT B n).1 i = 3 from by rw [hkd, hk]; decide), if_neg (show ¬ (tT B n).1 i = 4 from by rw [hkd, hk]; decide), if_neg (show ¬ (tT B n).1 i = 5 from by rw [hkd, hk]; decide), if_neg (show ¬ (tT B n).1 i = 6 from by rw [hkd, hk]; decide), if_neg (show ¬ (tT B n).1 i = 7 from by rw [hkd, hk]; decide), if_pos (show (tT B n).1 i = 8 from hk), pGood, hkd, hk, hbt, if_neg (by decide), hP])
                      · -- not taken 192
                        exact absurd rfl c192
                    · -- not taken 165
                      exact absurd rfl c165
                  · -- not taken 119
                    exact absurd rfl c119
                · -- not taken 93
                  exact absurd rfl c93
              · -- not taken 75
                exact absurd rfl c75
            · -- not taken 33
              exact absurd rfl c33
          · -- not taken 16
            exact absurd rfl c16
        | inl x =>
          have hrow : Row (gdR r x.2) nv ns nl x.2 := by
            have h9 := (pTold_ok hT (f := f) (m := m) (w := (r, nv, ns, nl, [])) (z := (x.1, m ||| 2 ^ 8, gdR r x.2, nv, ns, nl, x.2)) hi hJ (by rw [pTold, if_neg (show ¬ (tT B n).1 i = 1 from by rw [hkd, hk]; decide), if_neg (show ¬ (tT B n).1 i = 2 from by rw [hkd, hk]; decide), if_neg (show ¬ (tT B n).1 i = 3 from by rw [hkd, hk]; decide), if_neg (show ¬ (tT B n).1 i = 4 from by rw [hkd, hk]; decide), if_neg (show ¬ (tT B n).1 i = 5 from by rw [hkd, hk]; decide), if_neg (show ¬ (tT B n).1 i = 6 from by rw [hkd, hk]; decide), if_neg (show ¬ (tT B n).1 i = 7 from by rw [hkd, hk]; decide), if_pos (show (tT B n).1 i = 8 from hk), pGood, hkd, hk, hbt, if_neg (by decide), hP])).2.2
            exact h9.1
          refine at_aload_n dX9_readsLine_0 rfl ?_
          refine at_cv0 cvX9_70 sd_119 (ev_gz_here hR hZ) (by decide) ⟨Nat.le_refl _, Nat.le_refl _⟩ (Nat.le_of_ble_eq_true rfl) dX9_readsLine_1 (pd_k1 ?_)
          rw [← hK]
          refine at_pop dX9_readsLine_4 rfl ?_
          refine at_aload_n dX9_readsLine_5 rfl ?_
          refine at_geti flX9_57 rfl sd_119 dX9_readsLine_6 ?_
          rw [hKA]
          refine at_istore_n dX9_readsLine_9 rfl (Nat.le_of_ble_eq_true rfl) ?_
          refine at_aload_n dX9_readsLine_10 rfl ?_
          refine at_ldcS sw9_voter rfl dX9_readsLine_11 (fun hS11 => ?_)
          refine at_cv1 cvX9_150 sd_119 (ev_tkN hR hKZ hKA 0 (by decide) hS11 (by rw [hk]; decide)) (by decide) ⟨Nat.le_refl _, Nat.le_refl _⟩ (Nat.le_of_ble_eq_true rfl) dX9_readsLine_13 (pd_k1 ?_)
          refine at_ifeq (tgt := 27) dX9_readsLine_16 (by decide) (fun c16 => ?_) (fun c16 => ?_)
          · -- taken 16
            refine at_aload_n dX9_readsLine_27 rfl ?_
            refine at_ldcS sw9_sheet rfl dX9_readsLine_28 (fun hS28 => ?_)
            refine at_cv1 cvX9_150 sd_119 (ev_tkN hR hKZ hKA 1 (by decide) hS28 (by rw [hk]; decide)) (by decide) ⟨Nat.le_refl _, Nat.le_refl _⟩ (Nat.le_of_ble_eq_true rfl) dX9_readsLine_30 (pd_k1 ?_)
            refine at_ifeq (tgt := 69) dX9_readsLine_33 (by decide) (fun c33 => ?_) (fun c33 => ?_)
            · -- taken 33
              refine at_aload_n dX9_readsLine_69 rfl ?_
              refine at_ldcS sw9_sign rfl dX9_readsLine_70 (fun hS70 => ?_)
              refine at_cv1 cvX9_150 sd_119 (ev_tkN hR hKZ hKA 2 (by decide) hS70 (by rw [hk]; decide)) (by decide) ⟨Nat.le_refl _, Nat.le_refl _⟩ (Nat.le_of_ble_eq_true rfl) dX9_readsLine_72 (pd_k1 ?_)
              refine at_ifeq (tgt := 86) dX9_readsLine_75 (by decide) (fun c75 => ?_) (fun c75 => ?_)
              · -- taken 75
                refine at_aload_n dX9_readsLine_86 rfl ?_
                refine at_ldcS sw9_need rfl dX9_readsLine_87 (fun hS87 => ?_)
                refine at_iconst dX9_readsLine_89 pc_i0 ?_
                refine at_cv2 cvX9_192 sd_119 (ev_onN hR hKZ hKA hK15 h32 3 0 (by decide) (by decide) hS87 (Or.inr (by rw [hk]; decide))) (by decide) ⟨Nat.le_refl _, Nat.le_refl _⟩ (Nat.le_of_ble_eq_true rfl) dX9_readsLine_90 (pd_k1 ?_)
                refine at_ifeq (tgt := 112) dX9_readsLine_93 (by decide) (fun c93 => ?_) (fun c93 => ?_)
                · -- taken 93
                  refine at_aload_n dX9_readsLine_112 rfl ?_
                  refine at_ldcS sw9_span rfl dX9_readsLine_113 (fun hS113 => ?_)
                  refine at_iconst dX9_readsLine_115 pc_i1 ?_
                  refine at_cv2 cvX9_192 sd_119 (ev_onN hR hKZ hKA hK15 h32 4 1 (by decide) (by decide) hS113 (Or.inr (by rw [hk]; decide))) (by decide) ⟨Nat.le_refl _, Nat.le_refl _⟩ (Nat.le_of_ble_eq_true rfl) dX9_readsLine_116 (pd_k1 ?_)
                  refine at_ifeq (tgt := 158) dX9_readsLine_119 (by decide) (fun c119 => ?_) (fun c119 => ?_)
                  · -- taken 119
                    refine at_aload_n dX9_readsLine_158 rfl ?_
                    refine at_ldcS sw9_spoilt rfl dX9_readsLine_159 (fun hS159 => ?_)
                    refine at_iconst dX9_readsLine_161 pc_i2 ?_
                    refine at_cv2 cvX9_192 sd_119 (ev_onN hR hKZ hKA hK15 h32 5 2 (by decide) (by decide) hS159 (Or.inr (by rw [hk]; decide))) (by decide) ⟨Nat.le_refl _, Nat.le_refl _⟩ (Nat.le_of_ble_eq_true rfl) dX9_readsLine_162 (pd_k1 ?_)
                    refine at_ifeq (tgt := 185) dX9_readsLine_165 (by decide) (fun c165 => ?_) (fun c165 => ?_)
                    · -- taken 165
                      refine at_aload_n dX9_readsLine_185 rfl ?_
                      refine at_ldcS sw9_alpha rfl dX9_readsLine_186 (fun hS186 => ?_)
                      refine at_iconst dX9_readsLine_188 pc_i3 ?_
                      refine at_cv2 cvX9_192 sd_119 (ev_onN hR hKZ hKA hK15 h32 6 3 (by decide) (by decide) hS186 (Or.inr (by rw [hk]; decide))) (by decide) ⟨Nat.le_refl _, Nat.le_refl _⟩ (Nat.le_of_ble_eq_true rfl) dX9_readsLine_189 (pd_k1 ?_)
                      refine at_ifeq (tgt := 213) dX9_readsLine_192 (by decide) (fun c192 => ?_) (fun c192 => ?_)
                      · -- taken 192
                        refine at_aload_n dX9_readsLine_213 rfl ?_
                        refine at_ldcS sw9_good rfl dX9_readsLine_214 (fun hS214 => ?_)
                        refine at_iconst dX9_readsLine_216 pc_i4 ?_
                        refine at_cv2 cvX9_192 sd_119 (ev_onY hR hKZ hKA hK15 h32 7 4 (by decide) (by decide) hS214 (by rw [m16_bit]; exact hbf) hk) (by decide) ⟨Nat.le_refl _, Nat.le_refl _⟩ (Nat.le_of_ble_eq_true rfl) dX9_readsLine_217 (pd_k1 ?_)
                        rw [m16_or]
                        refine at_ifeq (tgt := 238) dX9_readsLine_220 (by decide) (fun c220 => ?_) (fun c220 => ?_)
                        · -- taken 220
                          exact absurd c220 (by decide)
                        · -- not taken 220
                          refine at_aload_n dX9_readsLine_223 rfl ?_
                          refine at_cv0 cvX9_164 sd_119 (hrec) (by decide) ⟨Nat.le_refl _, Nat.le_refl _⟩ (Nat.le_of_ble_eq_true rfl) dX9_readsLine_224 (pd_ke fun I2 L2 hq => ?_)
                          obtain ⟨rfl, hF2, hZ2⟩ := hq
                          replace hZ2 : GZ I2 B n r (rl_ks x.2) 0 x.1 := hZ2
                          refine at_aload_n dX9_readsLine_227 rfl ?_
                          refine at_getr (123) flX9_23 rfl sd_119 (rs_119_10 hR) dX9_readsLine_228 ?_
                          refine at_bipush dX9_readsLine_231 pc_b8 ?_
                          refine at_iconst dX9_readsLine_233 pc_i1 ?_
                          refine at_iast sd_123 (vp_in_nI (n := 8) (by decide) (by decide)) dX9_readsLine_234 ?_
                          refine at_goto (tgt := 244) dX9_readsLine_235 (by decide) ?_
                          exact hfG _ (x.1, m ||| 2 ^ 8, gdR r x.2, nv, ns, nl, x.2) ((hF1.tr hF2.fo).up3) (hZ2.row (fun x j hx => pd_up_nb hx) (by
                            show RQ (pd_up I2 123 8 1) 123 _
                            rw [ckR_self hrow]
                            have q2 := hZ2.2.2.2.2.2.1
                            intro k hk2
                            unfold gdR
                            by_cases hk3 : k = 8
                            · subst hk3; rw [pd_up_at, if_pos rfl]
                            · rw [pd_up_nj hk3, if_neg hk3]; exact q2 k hk2)) (by rw [pd_up_nb (by decide), hF2.2 15 (by decide) (by decide) (by decide) (by decide) (by decide)]; exact pd_up_at) (by rw [pTold, if_neg (show ¬ (tT B n).1 i = 1 from by rw [hkd, hk]; decide), if_neg (show ¬ (tT B n).1 i = 2 from by rw [hkd, hk]; decide), if_neg (show ¬ (tT B n).1 i = 3 from by rw [hkd, hk]; decide), if_neg (show ¬ (tT B n).1 i = 4 from by rw [hkd, hk]; decide), if_neg (show ¬ (tT B n).1 i = 5 from by rw [hkd, hk]; decide), if_neg (show ¬ (tT B n).1 i = 6 from by rw [hkd, hk]; decide), if_neg (show ¬ (tT B n).1 i = 7 from by rw [hkd, hk]; decide), if_pos (show (tT B n).1 i = 8 from hk), pGood, hkd, hk, hbt, if_neg (by decide), hP])
                      · -- not taken 192
                        exact absurd rfl c192
                    · -- not taken 165
                      exact absurd rfl c165
                  · -- not taken 119
                    exact absurd rfl c119
                · -- not taken 93
                  exact absurd rfl c93
              · -- not taken 75
                exact absurd rfl c75
            · -- not taken 33
              exact absurd rfl c33
          · -- not taken 16
            exact absurd rfl c16
  refine at_aload_n dX9_readsLine_0 rfl ?_
  refine at_cv0 cvX9_70 sd_119 (ev_gz_here hR hZ) (by decide) ⟨Nat.le_refl _, Nat.le_refl _⟩ (Nat.le_of_ble_eq_true rfl) dX9_readsLine_1 (pd_k1 ?_)
  rw [← hK]
  refine at_pop dX9_readsLine_4 rfl ?_
  refine at_aload_n dX9_readsLine_5 rfl ?_
  refine at_geti flX9_57 rfl sd_119 dX9_readsLine_6 ?_
  rw [hKA]
  refine at_istore_n dX9_readsLine_9 rfl (Nat.le_of_ble_eq_true rfl) ?_
  refine at_aload_n dX9_readsLine_10 rfl ?_
  refine at_ldcS sw9_voter rfl dX9_readsLine_11 (fun hS11 => ?_)
  refine at_cv1 cvX9_150 sd_119 (ev_tkN hR hKZ hKA 0 (by decide) hS11 k1) (by decide) ⟨Nat.le_refl _, Nat.le_refl _⟩ (Nat.le_of_ble_eq_true rfl) dX9_readsLine_13 (pd_k1 ?_)
  refine at_ifeq (tgt := 27) dX9_readsLine_16 (by decide) (fun c16 => ?_) (fun c16 => ?_)
  · -- taken 16
    refine at_aload_n dX9_readsLine_27 rfl ?_
    refine at_ldcS sw9_sheet rfl dX9_readsLine_28 (fun hS28 => ?_)
    refine at_cv1 cvX9_150 sd_119 (ev_tkN hR hKZ hKA 1 (by decide) hS28 k2) (by decide) ⟨Nat.le_refl _, Nat.le_refl _⟩ (Nat.le_of_ble_eq_true rfl) dX9_readsLine_30 (pd_k1 ?_)
    refine at_ifeq (tgt := 69) dX9_readsLine_33 (by decide) (fun c33 => ?_) (fun c33 => ?_)
    · -- taken 33
      refine at_aload_n dX9_readsLine_69 rfl ?_
      refine at_ldcS sw9_sign rfl dX9_readsLine_70 (fun hS70 => ?_)
      refine at_cv1 cvX9_150 sd_119 (ev_tkN hR hKZ hKA 2 (by decide) hS70 k3) (by decide) ⟨Nat.le_refl _, Nat.le_refl _⟩ (Nat.le_of_ble_eq_true rfl) dX9_readsLine_72 (pd_k1 ?_)
      refine at_ifeq (tgt := 86) dX9_readsLine_75 (by decide) (fun c75 => ?_) (fun c75 => ?_)
      · -- taken 75
        refine at_aload_n dX9_readsLine_86 rfl ?_
        refine at_ldcS sw9_need rfl dX9_readsLine_87 (fun hS87 => ?_)
        refine at_iconst dX9_readsLine_89 pc_i0 ?_
        refine at_cv2 cvX9_192 sd_119 (ev_onN hR hKZ hKA hK15 h32 3 0 (by decide) (by decide) hS87 (Or.inr k4)) (by decide) ⟨Nat.le_refl _, Nat.le_refl _⟩ (Nat.le_of_ble_eq_true rfl) dX9_readsLine_90 (pd_k1 ?_)
        refine at_ifeq (tgt := 112) dX9_readsLine_93 (by decide) (fun c93 => ?_) (fun c93 => ?_)
        · -- taken 93
          refine at_aload_n dX9_readsLine_112 rfl ?_
          refine at_ldcS sw9_span rfl dX9_readsLine_113 (fun hS113 => ?_)
          refine at_iconst dX9_readsLine_115 pc_i1 ?_
          refine at_cv2 cvX9_192 sd_119 (ev_onN hR hKZ hKA hK15 h32 4 1 (by decide) (by decide) hS113 (Or.inr k5)) (by decide) ⟨Nat.le_refl _, Nat.le_refl _⟩ (Nat.le_of_ble_eq_true rfl) dX9_readsLine_116 (pd_k1 ?_)
          refine at_ifeq (tgt := 158) dX9_readsLine_119 (by decide) (fun c119 => ?_) (fun c119 => ?_)
          · -- taken 119
            refine at_aload_n dX9_readsLine_158 rfl ?_
            refine at_ldcS sw9_spoilt rfl dX9_readsLine_159 (fun hS159 => ?_)
            refine at_iconst dX9_readsLine_161 pc_i2 ?_
            refine at_cv2 cvX9_192 sd_119 (ev_onN hR hKZ hKA hK15 h32 5 2 (by decide) (by decide) hS159 (Or.inr k6)) (by decide) ⟨Nat.le_refl _, Nat.le_refl _⟩ (Nat.le_of_ble_eq_true rfl) dX9_readsLine_162 (pd_k1 ?_)
            refine at_ifeq (tgt := 185) dX9_readsLine_165 (by decide) (fun c165 => ?_) (fun c165 => ?_)
            · -- taken 165
              refine at_aload_n dX9_readsLine_185 rfl ?_
              refine at_ldcS sw9_alpha rfl dX9_readsLine_186 (fun hS186 => ?_)
              refine at_iconst dX9_readsLine_188 pc_i3 ?_
              refine at_cv2 cvX9_192 sd_119 (ev_onN hR hKZ hKA hK15 h32 6 3 (by decide) (by decide) hS186 (Or.inr k7)) (by decide) ⟨Nat.le_refl _, Nat.le_refl _⟩ (Nat.le_of_ble_eq_true rfl) dX9_readsLine_189 (pd_k1 ?_)
              refine at_ifeq (tgt := 213) dX9_readsLine_192 (by decide) (fun c192 => ?_) (fun c192 => ?_)
              · -- taken 192
                refine at_aload_n dX9_readsLine_213 rfl ?_
                refine at_ldcS sw9_good rfl dX9_readsLine_214 (fun hS214 => ?_)
                refine at_iconst dX9_readsLine_216 pc_i4 ?_
                refine at_cv2 cvX9_192 sd_119 (ev_onN hR hKZ hKA hK15 h32 7 4 (by decide) (by decide) hS214 (Or.inr k8)) (by decide) ⟨Nat.le_refl _, Nat.le_refl _⟩ (Nat.le_of_ble_eq_true rfl) dX9_readsLine_217 (pd_k1 ?_)
                refine at_ifeq (tgt := 238) dX9_readsLine_220 (by decide) (fun c220 => ?_) (fun c220 => ?_)
                · -- taken 220
                  refine at_aload_n dX9_readsLine_238 rfl ?_
                  refine at_iconst dX9_readsLine_239 pc_i1 ?_
                  refine at_iload_n dX9_readsLine_240 rfl ?_
                  refine at_cv2 cvX9_95 sd_119 (ev_X9_wrong0 hKZ.2.2.1 _ _) (by decide) ⟨Nat.le_refl _, Nat.le_refl _⟩ (Nat.le_of_ble_eq_true rfl) dX9_readsLine_241 (pd_k0 ?_)
                  exact hfF _ (1, tq B n i) ((hKF.up (by decide)).up (by decide)) (hKw 1 (by decide)) (by rw [pTold, if_neg (show ¬ (tT B n).1 i = 1 from k1), if_neg (show ¬ (tT B n).1 i = 2 from k2), if_neg (show ¬ (tT B n).1 i = 3 from k3), if_neg (show ¬ (tT B n).1 i = 4 from k4), if_neg (show ¬ (tT B n).1 i = 5 from k5), if_neg (show ¬ (tT B n).1 i = 6 from k6), if_neg (show ¬ (tT B n).1 i = 7 from k7), if_neg (show ¬ (tT B n).1 i = 8 from k8)]; rfl)
                · -- not taken 220
                  exact absurd rfl c220
              · -- not taken 192
                exact absurd rfl c192
            · -- not taken 165
              exact absurd rfl c165
          · -- not taken 119
            exact absurd rfl c119
        · -- not taken 93
          exact absurd rfl c93
      · -- not taken 75
        exact absurd rfl c75
    · -- not taken 33
      exact absurd rfl c33
  · -- not taken 16
    exact absurd rfl c16
end PAR7
