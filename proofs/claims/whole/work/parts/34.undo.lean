/-! ===== the desk: undo, strike ===== -/
theorem nI_xor (a b : Nat) : nI a ^^^ nI b = nI (a ^^^ b) := by
  apply Int32.toBitVec_inj.mp
  show BitVec.ofNat 32 a ^^^ BitVec.ofNat 32 b = BitVec.ofNat 32 (a ^^^ b)
  apply BitVec.eq_of_toNat_eq
  rw [BitVec.toNat_xor, BitVec.toNat_ofNat, BitVec.toNat_ofNat, BitVec.toNat_ofNat, Nat.xor_mod_two_pow]
theorem bsum_xor {p : Nat → Bool} {n v : Nat} (hv : v < n) : bsum p n ^^^ 2 ^ v = bsum (fun i => p i ^^ decide (i = v)) n := by
  apply Nat.eq_of_testBit_eq
  intro i
  rw [Nat.testBit_xor, bsum_bit, bsum_bit, Nat.testBit_two_pow]
  by_cases h : v = i
  · subst h; simp [hv]
  · have : ¬ i = v := fun e => h e.symm
    simp [h, this]
theorem Row.hand {r r' : Nat → Int32} {nv ns nl : Nat} {e : List rl_S} (hr : Row r nv ns nl e) (h : ∀ k, k < 57 ∨ 65 ≤ k → r' k = r k) (h1 : ∀ s, s < 8 → r' (57 + s) = 0 ∨ r' (57 + s) = 1) (h2 : ∀ s, ns ≤ s → s < 8 → r' (57 + s) = 0) : Row r' nv ns nl e := by
  obtain ⟨a1, a2, a3, a4, a5, a6, a7, a8, a9, a10, a11, a12, a13, a14, a15, a16⟩ := hr
  refine ⟨by rw [h 0 (by omega)]; exact a1, by rw [h 1 (by omega)]; exact a2, by rw [h 2 (by omega)]; exact a3, by rw [h 3 (by omega)]; exact a4, by rw [h 7 (by omega)]; exact a5, fun l hl => ?_, fun l hl => ?_, h1, h2, fun k hk => by rw [h _ (by omega)]; exact a10 k hk, fun w l h1 h2 h3 => by rw [h _ (by omega)]; exact a11 w l h1 h2 h3, by rw [h 8 (by omega)]; exact a12, fun j x hj => by rw [h _ (by omega)]; exact a13 j x hj, by rw [h _ (by omega)]; exact a14, a15, a16⟩
  · unfold rSh; rw [h _ (by omega)]; exact a6 l hl
  · unfold rSh; rw [h _ (by omega), h _ (by omega)]; exact a7 l hl
section UNDO
variable {G : pd_G} {I : Nat → Nat → Int32} {L : Nat → Nat → Int64} {R : Nat → Nat → Option Nat} {cn a : Nat} {cp : Nat → Nat} {ps : Nat → RW} {w : RW}
def CNw (I : Nat → Nat → Int32) (L : Nat → Nat → Int64) (R : Nat → Nat → Option Nat) (cn : Nat) (w : RW) : Prop := CN I L R cn w.1 w.2.1 w.2.2.1 w.2.2.2.1 w.2.2.2.2
/-- all that stands in the desk of petitions -/
def CW (I : Nat → Nat → Int32) (L : Nat → Nat → Int64) (R : Nat → Nat → Option Nat) (w : RW) (a : Nat) (ps : Nat → RW) : Prop := ∃ cn cp, CNw I L R cn w ∧ CA I L R cn cp a ps
/-- what an act leaves as it was -/
def FD (I : Nat → Nat → Int32) (L : Nat → Nat → Int64) (I' : Nat → Nat → Int32) (L' : Nat → Nat → Int64) : Prop := (∀ x, x < 8 ∨ 119 ≤ x → ∀ j, ¬ (x = 0 ∧ j = 5) → I' x j = I x j) ∧ ∀ x, 119 ≤ x → ∀ j, L' x j = L x j
theorem FD.rf : FD I L I L := ⟨fun _ _ _ _ => rfl, fun _ _ _ => rfl⟩
/-- 'now' is judged: all is well again -/
theorem CW.mk' {I I' : Nat → Nat → Int32} {L : Nat → Nat → Int64} (hA : CA I L R cn cp a ps) (hw : RwOk w) (hp : RwP I L cn w) (hT : Tri L) (hj : JO I' w.1 w.2.1 w.2.2.1 w.2.2.2.1 w.2.2.2.2) (hI : ∀ x, x < 18 ∨ 24 < x → ∀ j, I' x j = I x j) : CW I' L R w a ps := by
  have hi := PB.hi2 hA.1.2.1 hA.1.2.2.1
  refine ⟨cn, cp, ⟨hA.1.1, hA.1.2.1, hA.1.2.2.2, hw, RwP.fr hp (fun x h1 h2 j => hI x (by omega) j) (fun _ => rfl), hj, hT⟩, hA.fr ?_ (fun x h1 h2 h3 => ⟨fun j => hI x (by omega) j, fun j => rfl⟩)⟩
  rw [hI 0 (by omega)]; exact hA.2.2.2.1
theorem ev_X8_undo (hC : CW I L R w a ps) : pd_Ev G mi_X8_undo 8 3 18 [.ref (pd_z G + 0)] (SD, false, I, L, R) (q_x I L R 0 (.int (if a = 0 then -1 else nI (a - 1))) (fun I' L' R' => CW I' L' R' (if a = 0 then w else ps (a - 1)) (a - 1) ps ∧ FD I L I' L')) := by
  obtain ⟨cn, cp, hN, hA⟩ := hC
  have hA0 := hA
  obtain ⟨⟨hR, hcn, h8, hnow⟩, hcp, hinj, h5, ha8, hps⟩ := hA
  refine pd_ev 1 (lo := [some (.ref (pd_z G + 0)), none]) (by decide +kernel) (Nat.le_of_ble_eq_true rfl) rfl ?_
  rcases Nat.eq_zero_or_pos a with rfl | h0
  · refine at_aload_n dX8_undo_0 rfl ?_
    refine at_geti flX8_165 rfl sd_0 dX8_undo_1 ?_
    rw [h5]
    refine at_ifgt (tgt := 9) dX8_undo_4 (by decide) (fun c4 => ?_) (fun c4 => ?_)
    · -- taken 4
      exact absurd c4 (by decide)
    · -- not taken 4
      refine at_iconst dX8_undo_7 pc_im1 ?_
      refine at_iret rfl dX8_undo_8 ?_
      exact q_yes rfl rfl ⟨⟨cn, cp, hN, hA0⟩, FD.rf⟩
  · obtain ⟨b, rfl⟩ : ∃ b, a = b + 1 := ⟨a - 1, by omega⟩
    obtain ⟨q1, q2, q3, q4⟩ := hcp b (by omega)
    have hcl : (nI b).toNatClampNeg = b := nI_clamp (by omega)
    obtain ⟨w1, w2⟩ := hps b (by omega)
    have hi := PB.hi2 q2 q3
    have hA2 : CA (pd_up I 0 5 (nI b)) L (pd_up (pd_up R 0 6 (some (cp b))) 28 b (some cn)) (cp b) (fun i => if i = b then cn else cp i) b ps := by
      refine ⟨⟨RS.fr hR (RF.up28 (RF.up6 (RF.rf _))), q2, q3, by rw [pd_up_ne (by decide), pd_up_at]⟩, fun i hi => ?_, fun i j hi hj hq => ?_, pd_up_at, by omega, fun i hi => ?_⟩
      · by_cases hib : i = b
        · subst hib; simp only [if_true]; exact ⟨pd_up_at, hcn, h8, Ne.symm q4⟩
        · simp only [if_neg hib]
          obtain ⟨p1, p2, p3, p4⟩ := hcp i hi
          exact ⟨by rw [pd_up_nj hib, pd_up_ne (by decide)]; exact p1, p2, p3, fun q => hib (hinj i b hi (by omega) q)⟩
      · by_cases hib : i = b <;> by_cases hjb : j = b <;> simp only [hib, hjb, if_true, if_false] at hq
        · omega
        · exact absurd hq.symm (hcp j hj).2.2.2
        · exact absurd hq (hcp i hi).2.2.2
        · exact hinj i j hi hj hq
      · obtain ⟨b1, b2⟩ := hps i (by omega)
        obtain ⟨p1, p2, p3, p4⟩ := hcp i (by omega)
        have := PB.hi2 p2 p3
        simp only [if_neg (show ¬ i = b by omega)]
        exact ⟨b1, RwP.fr b2 (fun x h1 h2 j => pd_up_nb (by omega)) (fun _ => rfl)⟩
    have hp2 : RwP (pd_up I 0 5 (nI b)) L (cp b) (ps b) := RwP.fr w2 (fun x h1 h2 j => pd_up_nb (by omega)) (fun _ => rfl)
    have hRo := hR
    refine at_aload_n dX8_undo_0 rfl ?_
    refine at_geti flX8_165 rfl sd_0 dX8_undo_1 ?_
    rw [h5]
    refine at_ifgt (tgt := 9) dX8_undo_4 (by decide) (fun c4 => ?_) (fun c4 => ?_)
    · -- taken 4
      refine at_aload_n dX8_undo_9 rfl ?_
      refine at_dup dX8_undo_10 rfl ?_
      refine at_geti flX8_165 rfl sd_0 dX8_undo_11 ?_
      refine at_iconst dX8_undo_14 pc_i1 ?_
      rw [h5]
      refine at_isub dX8_undo_15 ?_
      rw [nI_pred]
      refine at_puti flX8_165 rfl sd_0 (fun _ _ _ hq => by cases hq; rfl) dX8_undo_16 ?_
      refine at_aload_n dX8_undo_19 rfl ?_
      refine at_getr (cn) flX8_48 rfl sd_0 hnow dX8_undo_20 ?_
      refine at_astore_n dX8_undo_23 rfl (Nat.le_of_ble_eq_true rfl) ?_
      refine at_aload_n dX8_undo_24 rfl ?_
      refine at_aload_n dX8_undo_25 rfl ?_
      refine at_getr (28) flX8_43 rfl sd_0 (rs_0_4 hR) dX8_undo_26 ?_
      refine at_aload_n dX8_undo_29 rfl ?_
      refine at_geti flX8_165 rfl sd_0 dX8_undo_30 ?_
      rw [pd_up_at]
      refine at_aald (cp b) sd_28 (vp_in_nI (by omega) (by decide)) (by rw [hcl]; exact q1) dX8_undo_33 ?_
      refine at_putr flX8_48 rfl sd_0 (fun _ _ _ hq => by cases hq; first | exact Or.inl rfl | exact Or.inr ⟨rfl, rfl, rfl⟩) dX8_undo_34 ?_
      have hR := RS.fr hRo (RF.up6 (v := some (cp b)) (RF.rf R))
      refine at_aload_n dX8_undo_37 rfl ?_
      refine at_getr (28) flX8_43 rfl sd_0 (rs_0_4 hR) dX8_undo_38 ?_
      refine at_aload_n dX8_undo_41 rfl ?_
      refine at_geti flX8_165 rfl sd_0 dX8_undo_42 ?_
      rw [pd_up_at]
      refine at_aload_n dX8_undo_45 rfl ?_
      refine at_aast sd_28 (sd_P0 hcn) (vp_in_nI (by omega) (by decide)) dX8_undo_46 ?_
      rw [hcl]
      have hR := hA2.1.1
      refine at_aload_n dX8_undo_47 rfl ?_
      refine at_getr (18) flX8_30 rfl sd_0 (rs_0_2 hR) dX8_undo_48 ?_
      refine at_aload_n dX8_undo_51 rfl ?_
      refine at_getr ((cp b)) flX8_48 rfl sd_0 (by rw [pd_up_ne (by decide), pd_up_at]) dX8_undo_52 ?_
      refine at_cv1 cvX8_95 sd_18 (ev_X1_judge hR q2 w1 hp2) (by decide) ⟨Nat.le_of_ble_eq_true rfl, Nat.le_of_ble_eq_true rfl⟩ (Nat.le_of_ble_eq_true rfl) dX8_undo_55 (pd_ke fun I2 L2 h2 => ?_)
      obtain ⟨rfl, hj, hI⟩ := h2
      refine at_aload_n dX8_undo_58 rfl ?_
      refine at_geti flX8_165 rfl sd_0 dX8_undo_59 ?_
      rw [hI 0 (by omega), pd_up_at]
      refine at_iret rfl dX8_undo_62 ?_
      refine q_yes rfl ?_ ⟨?_, fun x hx j hj5 => ?_, fun x hx j => rfl⟩
      · rw [if_neg (by omega)]; rfl
      · rw [if_neg (by omega)]
        exact CW.mk' hA2 w1 hp2 hN.2.2.2.2.2.2 hj hI
      · rw [hI x (by omega)]
        by_cases hx0 : x = 0
        · subst hx0; exact pd_up_nj (fun q => hj5 ⟨rfl, q⟩)
        · exact pd_up_nb hx0
    · -- not taken 4
      exact absurd (nI_lt (a := 0) h0 (by omega)) c4
/-- what keeping leaves -/
theorem KK.now {I I' : Nat → Nat → Int32} {L L' : Nat → Nat → Int64} {R R' : Nat → Nat → Option Nat} (hK : KK I L R cn I' L' R') (hA' : CA I' L' R' cn cp a ps) (hN : CNw I L R cn w) : CNw I' L' R' cn w := by
  obtain ⟨hR, hcn, hnow, hr, hp, hj, hT⟩ := hN
  refine ⟨hA'.1.1, hcn, hA'.1.2.2.2, hr, PetRel.fr hp (fun x h1 h2 j => (hK.1 x (by omega)).1 j (by have := pb_n0 hcn; omega)) (fun j => (hK.1 cn (by omega)).2 j), ?_, fun n k hn hk => by rw [(hK.1 26 (by omega)).2]; exact hT n k hn hk⟩
  have f := fun x (h : 18 ≤ x ∧ x ≤ 24) j => (hK.1 x (by omega)).1 j (by omega)
  exact ⟨hj.1.fr (f 18 (by omega)) (f 19 (by omega)) (f 24 (by omega)), fun l hl => by rw [f 20 (by omega)]; exact hj.2.1 l hl, by rw [f 18 (by omega)]; exact hj.2.2.1, fun s hs => by rw [f 22 (by omega)]; exact hj.2.2.2 s hs⟩
theorem KK.fd {I I' : Nat → Nat → Int32} {L L' : Nat → Nat → Int64} {R R' : Nat → Nat → Option Nat} (hK : KK I L R cn I' L' R') : FD I L I' L' := ⟨fun x hx j hj => (hK.1 x (by omega)).1 j hj, fun x hx j => (hK.1 x (by omega)).2 j⟩
/-- what comes behind what keeping leaves -/
theorem FD.tr {I I' I2 : Nat → Nat → Int32} {L L' L2 : Nat → Nat → Int64} (h : FD I L I' L') (h1 : ∀ x, x < 8 ∨ 119 ≤ x → ∀ j, I2 x j = I' x j) (h2 : ∀ x, 119 ≤ x → ∀ j, L2 x j = L' x j) : FD I L I2 L2 := ⟨fun x hx j hj => by rw [h1 x hx]; exact h.1 x hx j hj, fun x hx j => by rw [h2 x hx]; exact h.2 x hx j⟩
def skR (r : Nat → Int32) (s : Nat) (b : Int32) : Nat → Int32 := upd r (57 + s) b
theorem ev_X8_strike (hC : CW I L R w a ps) (x : Int32) {b : Int32} (hb : b = 0 ∨ b = 1) : pd_Ev G mi_X8_strike 8 3 18 [.ref (pd_z G + 0), .int x, .int b] (SD, false, I, L, R) (q_x I L R (j1 8 (isN x w.2.2.1)) (.int (if w.1 (57 + x.toNatClampNeg) = b then 0 else 1)) (fun I' L' R' => CW I' L' R' (skR w.1 x.toNatClampNeg b, w.2) (kA a) (kP a ps w) ∧ FD I L I' L')) := by
  obtain ⟨cn, cp, hN, hA⟩ := hC
  obtain ⟨r, nv, ns, nl, e⟩ := w
  have hN0 := hN
  obtain ⟨hR, hcn, hnow, hr, hp, hj, hT⟩ := hN
  have h8 := hA.1.2.2.1
  have hi := PB.hi2 hcn h8
  refine pd_ev 1 (lo := [some (.ref (pd_z G + 0)), some (.int x), some (.int b), none]) (by decide +kernel) (Nat.le_of_ble_eq_true rfl) rfl ?_
  refine at_aload_n dX8_strike_0 rfl ?_
  refine at_aload_n dX8_strike_1 rfl ?_
  refine at_iload_n dX8_strike_2 rfl ?_
  refine at_cv1 cvX8_116 sd_0 (ev_X8_isSheet hN0 x) (by decide) ⟨Nat.le_of_ble_eq_true rfl, Nat.le_of_ble_eq_true rfl⟩ (Nat.le_of_ble_eq_true rfl) dX8_strike_3 (pd_k1 ?_)
  refine at_cv1 cvX8_119 sd_0 (ev_X8_requireFound _) (by decide) ⟨Nat.le_of_ble_eq_true rfl, Nat.le_of_ble_eq_true rfl⟩ (Nat.le_of_ble_eq_true rfl) dX8_strike_6 (pd_kq rfl (fun q6 => ?_) (fun q6 => ?_))
  · -- refused at 6
    exact q_no8 (by show j1 8 (isN x ns) = 8; rw [i_of0.mp q6]; rfl)
  have k6 := i_of1.mp q6
  have hs8 := CN.s8 hN0
  obtain ⟨s, hs, hx⟩ := isN_of (show ns < 2 ^ 31 by have : ns ≤ 8 := hs8; omega) k6
  have hs8 : s < 8 := by have : ns ≤ 8 := hs8; omega
  have hcl : x.toNatClampNeg = s := by rw [hx, nI_clamp (by omega)]
  rw [hcl]
  subst hx
  refine at_aload_n dX8_strike_9 rfl ?_
  refine at_cv0 cvX8_85 sd_0 (ev_X8_keepForUndo hA hr hp) (by decide) ⟨Nat.le_of_ble_eq_true rfl, Nat.le_of_ble_eq_true rfl⟩ (Nat.le_of_ble_eq_true rfl) dX8_strike_10 (pd_kw fun I2 L2 R2 h2 => ?_)
  obtain ⟨cp2, hA2, hK⟩ := h2
  have hN2 : CN I2 L2 R2 cn r nv ns nl e := KK.now hK hA2 hN0
  obtain ⟨hR, hcn, hnow, hr, hp, hj, hT⟩ := hN2
  have hj0 : j1 8 (isN (nI s) ns) = 0 := by rw [k6]; rfl
  refine at_aload_n dX8_strike_13 rfl ?_
  refine at_getr (cn) flX8_48 rfl sd_0 hnow dX8_strike_14 ?_
  refine at_iload_n dX8_strike_17 rfl ?_
  refine at_cv1 cvX8_122 (sd_P0 hcn) (ev_X3_isByHand hcn (nI s)) (by decide) ⟨Nat.le_of_ble_eq_true rfl, Nat.le_of_ble_eq_true rfl⟩ (Nat.le_of_ble_eq_true rfl) dX8_strike_18 (pd_k1 ?_)
  rw [CN.hand (cn := cn) (L := L2) (R := R2) ⟨hR, hcn, hnow, hr, hp, hj, hT⟩ hs8]
  refine at_istore_n dX8_strike_21 rfl (Nat.le_of_ble_eq_true rfl) ?_
  refine at_iload_n dX8_strike_22 rfl ?_
  refine at_iload_n dX8_strike_23 rfl ?_
  refine at_icmpne (tgt := 29) dX8_strike_24 (by decide) (fun c24 => ?_) (fun c24 => ?_)
  · -- taken 24
    refine at_aload_n dX8_strike_29 rfl ?_
    refine at_getr (cn) flX8_48 rfl sd_0 hnow dX8_strike_30 ?_
    refine at_dup dX8_strike_33 rfl ?_
    refine at_geti flX8_125 rfl (sd_P0 hcn) dX8_strike_34 ?_
    refine at_iconst dX8_strike_37 pc_i1 ?_
    refine at_iload_n dX8_strike_38 rfl ?_
    refine at_ishl dX8_strike_39 ?_
    refine at_ixor dX8_strike_40 ?_
    refine at_puti flX8_125 rfl (sd_P0 hcn) (fun _ _ _ hq => by cases hq; rfl) dX8_strike_41 ?_
    have hr2 : Row (skR r s b) nv ns nl e := hr.hand (fun k hk => pk_un (by omega)) (fun t ht => by
      by_cases hts : t = s
      · subst hts; rw [skR, pk_us]; exact hb
      · rw [skR, pk_un (by omega)]; exact hr.2.2.2.2.2.2.2.1 t ht) (fun t h1 h2 => by rw [skR, pk_un (by omega)]; exact hr.2.2.2.2.2.2.2.2.1 t h1 h2)
    have hp2 : PetRel (pd_up I2 cn 5 (I2 cn 5 ^^^ (1 : Int32) <<< (nI s &&& 31))) L2 cn (skR r s b) nv ns nl e := by
      obtain ⟨⟨a0, a1, a2, a3, a4, a5, a6, a7⟩, hv, hl, hb5, h17, h18, hn, hle, hst⟩ := hp
      refine ⟨⟨?_, ?_, ?_, ?_, ?_, ?_, ?_, ?_⟩, fun v h => ?_, fun l h => ?_, ?_, ?_, ?_, ?_, hle, fun j q hq => ?_⟩
      · rw [pd_up_nj (by decide), skR, pk_un (by omega)]; exact a0
      · rw [pd_up_nj (by decide), skR, pk_un (by omega)]; exact a1
      · rw [pd_up_nj (by decide), skR, pk_un (by omega)]; exact a2
      · rw [pd_up_nj (by decide), skR, pk_un (by omega)]; exact a3
      · rw [pd_up_nj (by decide), skR, pk_un (by omega)]; exact a4
      · rw [pd_up_nj (by decide), skR, pk_un (by omega)]; exact a5
      · rw [pd_up_nj (by decide), skR, pk_un (by omega)]; exact a6
      · rw [pd_up_nj (by decide), skR, pk_un (by omega)]; exact a7
      · have hv16 := hr.1.2
        rw [pd_up_nb (by omega), pd_up_nb (by omega), pd_up_nb (by omega), skR, pk_un (by omega), pk_un (by omega), pk_un (by omega)]; exact hv v h
      · rw [pd_up_nb (by omega), pd_up_nb (by omega), pd_up_nb (by omega), pd_up_nb (by omega)]
        unfold rSh skR
        rw [pk_un (by omega), pk_un (by omega), pk_un (by omega), pk_un (by omega)]; exact hl l h
      · rw [pd_up_at, hb5, i_sh1 s (by omega), nI_xor, bsum_xor hs8]
        congr 1
        refine bsum_cong (fun t ht => ?_)
        by_cases hts : t = s
        · subst hts
          rw [skR, pk_us]
          rcases hr.2.2.2.2.2.2.2.1 t ht with q | q <;> rcases hb with q2 | q2 <;> simp [q, q2] at c24 ⊢
        · rw [skR, pk_un (by omega)]; simp [hts]
      · rw [h17]; congr 1; exact bsum_cong (fun t ht => by rw [skR, pk_un (by omega)])
      · rw [h18]; congr 1; exact bsum_cong (fun t ht => by rw [skR, pk_un (by omega)])
      · rw [pd_up_nb (by omega)]; exact hn
      · rw [pd_up_nb (by omega)]; exact hst j q hq
    refine at_aload_n dX8_strike_44 rfl ?_
    refine at_getr (18) flX8_30 rfl sd_0 (rs_0_2 hR) dX8_strike_45 ?_
    refine at_aload_n dX8_strike_48 rfl ?_
    refine at_getr (cn) flX8_48 rfl sd_0 hnow dX8_strike_49 ?_
    refine at_cv1 cvX8_95 sd_18 (ev_X1_judge hR hcn hr2 hp2) (by decide) ⟨Nat.le_of_ble_eq_true rfl, Nat.le_of_ble_eq_true rfl⟩ (Nat.le_of_ble_eq_true rfl) dX8_strike_52 (pd_ke fun I3 L3 h3 => ?_)
    obtain ⟨rfl, hj3, hI3⟩ := h3
    refine at_iconst dX8_strike_55 pc_i1 ?_
    refine at_iret rfl dX8_strike_56 ?_
    refine q_yes hj0 ?_ ⟨?_, hK.fd.tr (fun x hx j => ?_) (fun x hx j => rfl)⟩
    · show Value.int 1 = Value.int (if r (57 + s) = b then 0 else 1)
      rw [if_neg c24]
    · have hA3 : CA (pd_up I2 cn 5 (I2 cn 5 ^^^ (1 : Int32) <<< (nI s &&& 31))) L3 R2 cn cp2 (kA a) (kP a ps (r, nv, ns, nl, e)) := hA2.fr (by rw [pd_up_nb (by omega)]; exact hA2.2.2.2.1) (fun x h1 h2 h3 => ⟨fun j => pd_up_nb (by omega), fun j => rfl⟩)
      exact CW.mk' (w := (skR r s b, nv, ns, nl, e)) hA3 hr2 hp2 hT hj3 hI3
    · rw [hI3 x (by omega), pd_up_nb (by omega)]
  · -- not taken 24
    refine at_iconst dX8_strike_27 pc_i0 ?_
    refine at_iret rfl dX8_strike_28 ?_
    refine q_yes hj0 ?_ ⟨⟨cn, cp2, ?_, hA2⟩, hK.fd⟩
    · show Value.int 0 = Value.int (if r (57 + s) = b then 0 else 1)
      rw [if_pos c24]
    · show CN I2 L2 R2 cn (upd r (57 + s) b) nv ns nl e
      rw [fa_upd_same c24]; exact ⟨hR, hcn, hnow, hr, hp, hj, hT⟩
end UNDO
