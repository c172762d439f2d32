/-! ===== the desk: feed, text ===== -/
section TEXT3
variable {G : pd_G} {I : Nat → Nat → Int32} {L : Nat → Nat → Int64} {R : Nat → Nat → Option Nat} {B : Nat → Nat} {t a : Nat} {w : RW} {ps : Nat → RW}
/-- the tape holds t bytes -/
def TP (I : Nat → Nat → Int32) (B : Nat → Nat) (t : Nat) : Prop := I 6 1 = nI t ∧ t ≤ 600 ∧ ∀ k, k < t → B k < 256 ∧ I 7 k = sb (B k)
theorem CW.fr {I' : Nat → Nat → Int32} {L' : Nat → Nat → Int64} (h : CW I L R w a ps) (h5 : I' 0 5 = I 0 5) (hI : ∀ x, 18 ≤ x → x < 119 → ∀ j, I' x j = I x j) (hL : ∀ x, 18 ≤ x → x < 119 → ∀ j, L' x j = L x j) : CW I' L' R w a ps := by
  obtain ⟨cn, cp, hN, hA⟩ := h
  obtain ⟨hR, hcn, hnow, hr, hp, hj, hT⟩ := hN
  have hi := PB.hi2 hcn hA.1.2.2.1
  refine ⟨cn, cp, ⟨hR, hcn, hnow, hr, PetRel.fr hp (fun x h1 h2 j => hI x (by omega) (by omega) j) (fun j => hL cn (by omega) (by omega) j), ⟨hj.1.fr (hI 18 (by omega) (by omega)) (hI 19 (by omega) (by omega)) (hI 24 (by omega) (by omega)), fun l hl => by rw [hI 20 (by omega) (by omega)]; exact hj.2.1 l hl, by rw [hI 18 (by omega) (by omega)]; exact hj.2.2.1, fun s hs => by rw [hI 22 (by omega) (by omega)]; exact hj.2.2.2 s hs⟩, fun n k hn hk => by rw [hL 26 (by omega) (by omega)]; exact hT n k hn hk⟩, ?_⟩
  refine ⟨hA.1, hA.2.1, hA.2.2.1, by rw [h5]; exact hA.2.2.2.1, hA.2.2.2.2.1, fun i hi2 => ⟨(hA.2.2.2.2.2 i hi2).1, ?_⟩⟩
  obtain ⟨q1, q2, q3, q4⟩ := hA.2.1 i (by have := hA.2.2.2.2.1; omega)
  have hh := PB.hi2 q2 q3
  exact RwP.fr (hA.2.2.2.2.2 i hi2).2 (fun x h1 h2 j => hI x (by omega) (by omega) j) (fun j => hL _ (by omega) (by omega) j)
/-- a number's byte -/
def byN (x : Int32) (k : Nat) : Nat := x.toBitVec.toNat / 2 ^ (24 - 8 * k) % 256
theorem byN_lt (x : Int32) (k : Nat) : byN x k < 256 := Nat.mod_lt _ (by decide)
theorem by_low (x : Int32) : x.toInt8.toInt32.toInt8.toInt32 = sb (x.toBitVec.toNat % 256) := by
  unfold sb
  have e1 : x &&& 255 = nI (x.toBitVec.toNat % 256) := pk_and x 8 (by decide)
  rw [← e1, fa_byte_low]
  simp
theorem by_ushr (x s : Int32) (k : Nat) (hs : ((s.toUInt32 &&& Int32.toUInt32 31).toBitVec % 32).toNat = k) : (x.toUInt32 >>> (s.toUInt32 &&& Int32.toUInt32 31)).toInt32.toInt8.toInt32.toInt8.toInt32 = sb (x.toBitVec.toNat / 2 ^ k % 256) := by
  rw [by_low, pk_ushr x s k hs]
theorem x_put_7 {n : Nat} {x : Int32} (j : Nat) : x_put I n x 7 j = if n ≤ j ∧ j < n + 4 then sb (byN x (j - n)) else I 7 j := by
  unfold x_put
  rw [pd_up_nb (by decide)]
  have e0 := by_ushr x 24 24 (by decide)
  have e1 := by_ushr x 16 16 (by decide)
  have e2 := by_ushr x 8 8 (by decide)
  have e3 := by_low x
  rw [e0, e1, e2, e3]
  by_cases h3 : j = n + 3
  · subst h3
    rw [pd_up_at, if_pos (by omega), show n + 3 - n = 3 by omega]
    simp [byN]
  · rw [pd_up_nj h3]
    by_cases h2 : j = n + 2
    · subst h2
      rw [pd_up_at, if_pos (by omega), show n + 2 - n = 2 by omega]
      rfl
    · rw [pd_up_nj h2]
      by_cases h1 : j = n + 1
      · subst h1
        rw [pd_up_at, if_pos (by omega), show n + 1 - n = 1 by omega]
        rfl
      · rw [pd_up_nj h1]
        by_cases h0 : j = n
        · subst h0
          rw [pd_up_at, if_pos (by omega), Nat.sub_self]
          rfl
        · rw [pd_up_nj h0, if_neg (by omega)]
theorem x_put_o {n : Nat} {x : Int32} {c j : Nat} (h6 : ¬ (c = 6 ∧ j = 1)) (h7 : c ≠ 7) : x_put I n x c j = I c j := by
  unfold x_put
  show (if c = 6 ∧ j = 1 then _ else _) = _
  rw [if_neg h6, pd_up_nb h7, pd_up_nb h7, pd_up_nb h7, pd_up_nb h7]
theorem x_put_6 {n : Nat} {x : Int32} : x_put I n x 6 1 = nI (n + 4) := pd_up_at
/-- bytes fed -/
def fdB (B : Nat → Nat) (t : Nat) (x0 x1 x2 x3 x4 : Int32) : Nat → Nat := fun j => if t ≤ j ∧ j < t + 20 then byN (if (j - t) / 4 = 0 then x0 else if (j - t) / 4 = 1 then x1 else if (j - t) / 4 = 2 then x2 else if (j - t) / 4 = 3 then x3 else x4) ((j - t) % 4) else B j
/-- all else stays -/
def FF (I I' : Nat → Nat → Int32) : Prop := ∀ c j, ¬ (c = 6 ∧ j = 1) → c ≠ 7 → I' c j = I c j
theorem ev_X8_feed (hR : RS R) (h : TP I B t) (x0 x1 x2 x3 x4 : Int32) : pd_Ev G mi_X8_feed 8 3 18 [.ref (pd_z G + 0), .int x0, .int x1, .int x2, .int x3, .int x4] (SD, false, I, L, R) (q_x I L R 0 (.int (if t + 20 ≤ 600 then nI (t + 20) else -1)) (fun I' L' R' => L' = L ∧ R' = R ∧ FF I I' ∧ if t + 20 ≤ 600 then TP I' (fdB B t x0 x1 x2 x3 x4) (t + 20) else I' = I)) := by
  obtain ⟨h1, h2, h3⟩ := h
  refine pd_ev 0 (lo := [some (.ref (pd_z G + 0)), some (.int x0), some (.int x1), some (.int x2), some (.int x3), some (.int x4)]) (by decide +kernel) (Nat.le_of_ble_eq_true rfl) rfl ?_
  by_cases hr : t + 20 ≤ 600
  · have e1 : (if t + 20 ≤ 600 then (1 : Int32) else 0) = 1 := if_pos hr
    refine at_aload_n dX8_feed_0 rfl ?_
    refine at_getr (6) flX8_26 rfl sd_0 (rs_0_1 hR) dX8_feed_1 ?_
    refine at_cv0 cvX8_56 sd_6 (ev_X5_hasRoom h1 h2) (by decide) ⟨Nat.le_of_ble_eq_true rfl, Nat.le_of_ble_eq_true rfl⟩ (Nat.le_of_ble_eq_true rfl) dX8_feed_4 (pd_k1 ?_)
    rw [e1]
    refine at_ifne (tgt := 12) dX8_feed_7 (by decide) (fun c7 => ?_) (fun c7 => ?_)
    · -- taken 7
      refine at_aload_n dX8_feed_12 rfl ?_
      refine at_getr (6) flX8_26 rfl sd_0 (rs_0_1 hR) dX8_feed_13 ?_
      refine at_iload_n dX8_feed_16 rfl ?_
      refine at_cv1 cvX8_62 sd_6 (ev_X5_put hR h1 (by omega) x0) (by decide) ⟨Nat.le_of_ble_eq_true rfl, Nat.le_of_ble_eq_true rfl⟩ (Nat.le_of_ble_eq_true rfl) dX8_feed_17 (pd_k0 ?_)
      refine at_aload_n dX8_feed_20 rfl ?_
      refine at_getr (6) flX8_26 rfl sd_0 (rs_0_1 hR) dX8_feed_21 ?_
      refine at_iload_n dX8_feed_24 rfl ?_
      refine at_cv1 cvX8_62 sd_6 (ev_X5_put hR x_put_6 (by omega) x1) (by decide) ⟨Nat.le_of_ble_eq_true rfl, Nat.le_of_ble_eq_true rfl⟩ (Nat.le_of_ble_eq_true rfl) dX8_feed_25 (pd_k0 ?_)
      refine at_aload_n dX8_feed_28 rfl ?_
      refine at_getr (6) flX8_26 rfl sd_0 (rs_0_1 hR) dX8_feed_29 ?_
      refine at_iload_n dX8_feed_32 rfl ?_
      refine at_cv1 cvX8_62 sd_6 (ev_X5_put hR x_put_6 (by omega) x2) (by decide) ⟨Nat.le_of_ble_eq_true rfl, Nat.le_of_ble_eq_true rfl⟩ (Nat.le_of_ble_eq_true rfl) dX8_feed_33 (pd_k0 ?_)
      refine at_aload_n dX8_feed_36 rfl ?_
      refine at_getr (6) flX8_26 rfl sd_0 (rs_0_1 hR) dX8_feed_37 ?_
      refine at_iload dX8_feed_40 rfl ?_
      refine at_cv1 cvX8_62 sd_6 (ev_X5_put hR x_put_6 (by omega) x3) (by decide) ⟨Nat.le_of_ble_eq_true rfl, Nat.le_of_ble_eq_true rfl⟩ (Nat.le_of_ble_eq_true rfl) dX8_feed_42 (pd_k0 ?_)
      refine at_aload_n dX8_feed_45 rfl ?_
      refine at_getr (6) flX8_26 rfl sd_0 (rs_0_1 hR) dX8_feed_46 ?_
      refine at_iload dX8_feed_49 rfl ?_
      refine at_cv1 cvX8_62 sd_6 (ev_X5_put hR x_put_6 (by omega) x4) (by decide) ⟨Nat.le_of_ble_eq_true rfl, Nat.le_of_ble_eq_true rfl⟩ (Nat.le_of_ble_eq_true rfl) dX8_feed_51 (pd_k0 ?_)
      refine at_aload_n dX8_feed_54 rfl ?_
      refine at_getr (6) flX8_26 rfl sd_0 (rs_0_1 hR) dX8_feed_55 ?_
      refine at_geti flX8_66 rfl sd_6 dX8_feed_58 ?_
      rw [x_put_6]
      refine at_iret rfl dX8_feed_61 ?_
      refine q_yes rfl ?_ ⟨rfl, rfl, fun c j g1 g2 => ?_, ?_⟩
      · rw [if_pos hr]
      · rw [x_put_o g1 g2, x_put_o g1 g2, x_put_o g1 g2, x_put_o g1 g2, x_put_o g1 g2]
      · rw [if_pos hr]
        refine ⟨x_put_6, hr, fun k hk => ?_⟩
        rw [x_put_7, x_put_7, x_put_7, x_put_7, x_put_7]
        unfold fdB
        by_cases g : t ≤ k
        · rw [if_pos ⟨g, hk⟩]
          refine ⟨byN_lt _ _, ?_⟩
          by_cases g0 : k < t + 4
          · rw [if_neg (by omega), if_neg (by omega), if_neg (by omega), if_neg (by omega), if_pos (by omega), if_pos (by omega), show (k - t) % 4 = k - t by omega]
          · by_cases g1 : k < t + 8
            · rw [if_neg (by omega), if_neg (by omega), if_neg (by omega), if_pos (by omega), if_neg (by omega), if_pos (by omega), show (k - t) % 4 = k - (t + 4) by omega]
            · by_cases g2 : k < t + 12
              · rw [if_neg (by omega), if_neg (by omega), if_pos (by omega), if_neg (by omega), if_neg (by omega), if_pos (by omega), show (k - t) % 4 = k - (t + 4 + 4) by omega]
              · by_cases g3 : k < t + 16
                · rw [if_neg (by omega), if_pos (by omega), if_neg (by omega), if_neg (by omega), if_neg (by omega), if_pos (by omega), show (k - t) % 4 = k - (t + 4 + 4 + 4) by omega]
                · rw [if_pos (by omega), if_neg (by omega), if_neg (by omega), if_neg (by omega), if_neg (by omega), show (k - t) % 4 = k - (t + 4 + 4 + 4 + 4) by omega]
        · rw [if_neg (by omega), if_neg (by omega), if_neg (by omega), if_neg (by omega), if_neg (by omega), if_neg (by omega)]
          exact h3 k (by omega)
    · -- not taken 7
      exact absurd c7 (by decide)
  · have e1 : (if t + 20 ≤ 600 then (1 : Int32) else 0) = 0 := if_neg hr
    refine at_aload_n dX8_feed_0 rfl ?_
    refine at_getr (6) flX8_26 rfl sd_0 (rs_0_1 hR) dX8_feed_1 ?_
    refine at_cv0 cvX8_56 sd_6 (ev_X5_hasRoom h1 h2) (by decide) ⟨Nat.le_of_ble_eq_true rfl, Nat.le_of_ble_eq_true rfl⟩ (Nat.le_of_ble_eq_true rfl) dX8_feed_4 (pd_k1 ?_)
    rw [e1]
    refine at_ifne (tgt := 12) dX8_feed_7 (by decide) (fun c7 => ?_) (fun c7 => ?_)
    · -- taken 7
      exact absurd rfl c7
    · -- not taken 7
      refine at_iconst dX8_feed_10 pc_im1 ?_
      refine at_iret rfl dX8_feed_11 ?_
      refine q_yes rfl ?_ ⟨rfl, rfl, fun _ _ _ _ => rfl, ?_⟩
      · rw [if_neg hr]
      · rw [if_neg hr]
/-- what a text answers; what stands then -/
def txV (res : RW ⊕ (Nat × Nat)) : Int32 := match res with
  | .inl w => nI w.2.2.2.1
  | .inr z => nI z.1 - 10
def txF (res : RW ⊕ (Nat × Nat)) : Int32 := match res with
  | .inl _ => -1
  | .inr z => nI z.2
def txW (res : RW ⊕ (Nat × Nat)) (w : RW) : RW := match res with
  | .inl w' => w'
  | .inr _ => w
def txA (res : RW ⊕ (Nat × Nat)) (a : Nat) : Nat := match res with
  | .inl _ => kA a
  | .inr _ => a
def txP (res : RW ⊕ (Nat × Nat)) (a : Nat) (ps : Nat → RW) (w : RW) : Nat → RW := match res with
  | .inl _ => kP a ps w
  | .inr _ => ps
theorem tx_ok {T : TS} {N f : Nat} (hT : TOK T N) : ∀ (g i m : Nat) (w w' : RW), i ≤ N → LI m w → pText T f g i m w = some (.inl w') → RwOk w'
  | 0, _, _, _, _, _, _, h => by cases h
  | g + 1, i, m, w, w', hi, hJ, h => by
    unfold pText at h
    split at h
    · cases h; exact hJ.1
    · split at h
      · cases h
      · cases h
      · rename_i z hz
        obtain ⟨a1, a2, a3⟩ := pLine_ok hT hi hJ hz
        exact tx_ok hT g z.1 z.2.1 z.2.2 w' a2 a3 h
theorem tq_end (B : Nat → Nat) (n : Nat) : ∃ c, c ≤ n ∧ tq B n c = n ∧ ∀ i, i < c → tq B n i < n := by
  have key : ∀ k, k ≤ n → (∃ c, c ≤ k ∧ tq B n c = n) ∨ k ≤ tq B n k := by
    intro k
    induction k with
    | zero => intro _; exact Or.inr (Nat.zero_le _)
    | succ k ih =>
      intro hk
      rcases ih (by omega) with ⟨c, h1, h2⟩ | h
      · exact Or.inl ⟨c, by omega, h2⟩
      · rcases Nat.lt_or_eq_of_le (tq_le (B := B) (n := n) k) with q | q
        · have := tq_gt q
          exact Or.inr (by omega)
        · exact Or.inl ⟨k, by omega, q⟩
  have hex : ∃ c, tq B n c = n := by
    rcases key n (Nat.le_refl _) with ⟨c, -, h⟩ | h
    · exact ⟨c, h⟩
    · exact ⟨n, Nat.le_antisymm (tq_le n) h⟩
  obtain ⟨c, h1, h2⟩ := pk_least (fun c => tq B n c = n) hex
  refine ⟨c, ?_, h1, fun i hi => Nat.lt_of_le_of_ne (tq_le i) (h2 i hi)⟩
  rcases key n (Nat.le_refl _) with ⟨c', h3, h4⟩ | h
  · rcases Nat.lt_or_ge c' c with q | q
    · exact absurd h4 (h2 c' q)
    · omega
  · rcases Nat.lt_or_ge n c with q | q
    · exact absurd (Nat.le_antisymm (tq_le n) h) (h2 n q)
    · exact q
theorem rdT_ok {n : Nat} (hn : n ≤ 600) {w' : RW} (h : rdT B n = .inl w') : RwOk w' := by
  obtain ⟨c, h1, h2, h3⟩ := tq_end B n
  have hT := tT_ok (B := B) hn h2 h3 h1
  have := rdT_eq hT
  rw [h] at this
  exact tx_ok hT 700 0 0 w00 w' (Nat.zero_le _) LI.w00 this
theorem pd_kXr {mi : pd_MI} {h mc ms cs ss pc : Nat} {lo : List (Option Value)} {st : List Value} {Q : pd_O → pd_M → Prop} {z : Nat × Nat} (K : ∀ I', (∀ a j, a = 0 ∨ (6 ≤ a ∧ a < 8) ∨ 17 < a → I' a j = I a j) → I' 1 2 = nI z.1 → I' 1 3 = nI z.2 → pd_At G mi h mc ms cs ss (pc + 3) lo (.int 0 :: st) (SD, false, I', pd_up (pd_up L 8 17 0) 8 18 0, R) Q) : ∀ o M', QX I L R (.inr z) o M' → pd_Kc G mi h mc ms cs ss pc lo st Q o M' := fun o M' hq => by
  obtain ⟨I2, rfl, hF, rfl, g1, g2⟩ := hq
  exact K I2 hF g1 g2
theorem pd_kXl {mi : pd_MI} {h mc ms cs ss pc : Nat} {lo : List (Option Value)} {st : List Value} {Q : pd_O → pd_M → Prop} {z : RW} (K : ∀ I', (∀ a j, a = 0 ∨ (6 ≤ a ∧ a < 8) ∨ 17 < a → I' a j = I a j) → RwP I' (pd_up (pd_up L 8 17 0) 8 18 0) 8 z → pd_At G mi h mc ms cs ss (pc + 3) lo (.int 1 :: st) (SD, false, I', pd_up (pd_up L 8 17 0) 8 18 0, R) Q) : ∀ o M', QX I L R (.inl z) o M' → pd_Kc G mi h mc ms cs ss pc lo st Q o M' := fun o M' hq => by
  obtain ⟨I2, rfl, hF, rfl, g1⟩ := hq
  exact K I2 hF g1
theorem ev_X8_text (hC : CW I L R w a ps) (h : TP I B t) (x : Int32) : pd_Ev G mi_X8_text 30 3 18 [.ref (pd_z G + 0), .int x] (SD, false, I, L, R) (q_x I L R (j1 9 (inR x 0 (nI t))) (.int (txV (rdT B x.toNatClampNeg))) (fun I' L' R' => CW I' L' R' (txW (rdT B x.toNatClampNeg) w) (txA (rdT B x.toNatClampNeg) a) (txP (rdT B x.toNatClampNeg) a ps w) ∧ I' 6 1 = 0 ∧ I' 0 7 = txF (rdT B x.toNatClampNeg) ∧ (∀ j, j ≠ 5 → j ≠ 7 → I' 0 j = I 0 j) ∧ (∀ c, 119 ≤ c → ∀ j, I' c j = I c j) ∧ ∀ c, 119 ≤ c → ∀ j, L' c j = L c j)) := by
  have hC0 := hC
  obtain ⟨cn, cp, hN, hA⟩ := hC
  have hR := hN.1
  obtain ⟨h1, h2, h3⟩ := h
  have hnow := hN.2.2.1
  have hcn := hN.2.1
  have hi := PB.hi2 hcn hA.1.2.2.1
  refine pd_ev 1 (lo := [some (.ref (pd_z G + 0)), some (.int x), none]) (by decide +kernel) (Nat.le_of_ble_eq_true rfl) rfl ?_
  cases hres : rdT B x.toNatClampNeg with
  | inr z =>
    have cR := fun (n : Nat) (hn : n ≤ t) (hx : x = nI n) => (show pd_Ev G mi_X6_read 22 0 0 [.ref (pd_z G + 1), .int (nI n)] (SD, false, I, L, R) (QX I L R (.inr z)) from by
      have := ev_X6_read (G := G) (L := L) (B := B) (n := n) hR (fun k hk => h3 k (by omega)) (by omega)
      rw [hx, nI_clamp (by omega)] at hres
      rw [hres] at this; exact this)
    refine at_aload_n dX8_text_0 rfl ?_
    refine at_iload_n dX8_text_1 rfl ?_
    refine at_iconst dX8_text_2 pc_i0 ?_
    refine at_aload_n dX8_text_3 rfl ?_
    refine at_getr (6) flX8_26 rfl sd_0 (rs_0_1 hR) dX8_text_4 ?_
    refine at_geti flX8_66 rfl sd_6 dX8_text_7 ?_
    rw [h1]
    refine at_cs3 csX8_69 (ev_X8_isFrom x 0 (nI t)) (by decide) ⟨Nat.le_of_ble_eq_true rfl, Nat.le_of_ble_eq_true rfl⟩ (Nat.le_of_ble_eq_true rfl) dX8_text_10 (pd_k1 ?_)
    refine at_cv1 cvX8_73 sd_0 (ev_X8_requireArgument _) (by decide) ⟨Nat.le_of_ble_eq_true rfl, Nat.le_of_ble_eq_true rfl⟩ (Nat.le_of_ble_eq_true rfl) dX8_text_13 (pd_kq rfl (fun q13 => ?_) (fun q13 => ?_))
    · -- refused at 13
      exact q_no9 (by rw [i_of0.mp q13]; rfl)
    have k13 := i_of1.mp q13
    obtain ⟨n, hn, hx⟩ := inR_of (by omega) k13
    rw [k13]
    have cR := cR n hn hx
    rw [hx]
    refine at_aload_n dX8_text_16 rfl ?_
    refine at_getr (1) flX8_10 rfl sd_0 (rs_0_0 hR) dX8_text_17 ?_
    refine at_iload_n dX8_text_20 rfl ?_
    refine at_cv1 cvX8_77 sd_1 (cR) (by decide) ⟨Nat.le_of_ble_eq_true rfl, Nat.le_of_ble_eq_true rfl⟩ (Nat.le_of_ble_eq_true rfl) dX8_text_21 (pd_kXr fun I2 hF g1 g2 => ?_)
    skip
    refine at_istore_n dX8_text_24 rfl (Nat.le_of_ble_eq_true rfl) ?_
    refine at_aload_n dX8_text_25 rfl ?_
    refine at_getr (6) flX8_26 rfl sd_0 (rs_0_1 hR) dX8_text_26 ?_
    refine at_iconst dX8_text_29 pc_i0 ?_
    refine at_puti flX8_66 rfl sd_6 (fun _ _ _ hq => by cases hq; rfl) dX8_text_30 ?_
    refine at_iload_n dX8_text_33 rfl ?_
    refine at_ifne (tgt := 59) dX8_text_34 (by decide) (fun c34 => ?_) (fun c34 => ?_)
    · -- taken 34
      exact absurd rfl c34
    · -- not taken 34
      refine at_aload_n dX8_text_37 rfl ?_
      refine at_aload_n dX8_text_38 rfl ?_
      refine at_getr (1) flX8_10 rfl sd_0 (rs_0_0 hR) dX8_text_39 ?_
      skip
      refine at_geti flX8_81 rfl sd_1 dX8_text_42 ?_
      refine at_puti flX8_52 rfl sd_0 (fun _ _ _ hq => by cases hq; rfl) dX8_text_45 ?_
      refine at_aload_n dX8_text_48 rfl ?_
      refine at_getr (1) flX8_10 rfl sd_0 (rs_0_0 hR) dX8_text_49 ?_
      refine at_geti flX8_82 rfl sd_1 dX8_text_52 ?_
      refine at_bipush dX8_text_55 pc_b10 ?_
      refine at_isub dX8_text_57 ?_
      refine at_iret rfl dX8_text_58 ?_
      refine q_yes rfl ?_ ⟨hC0.fr ?_ (fun c h1 h2 j => ?_) (fun c h1 h2 j => ?_), ?_, ?_, fun j g5 g7 => ?_, fun c hc j => ?_, fun c hc j => ?_⟩
      · show Value.int (_ - 10) = Value.int (nI z.1 - 10)
        rw [pd_up_nb (by decide), pd_up_nb (by decide), g1]
      · rw [pd_up_nj (by decide), pd_up_nb (by decide)]; exact hF 0 5 (by omega)
      · rw [pd_up_nb (by omega), pd_up_nb (by omega)]; exact hF c j (by omega)
      · rw [pd_up_nb (by omega), pd_up_nb (by omega)]
      · rw [pd_up_nb (by decide), pd_up_at]
      · rw [pd_up_at, pd_up_nb (by decide), g2]; rfl
      · rw [pd_up_nj g7, pd_up_nb (by decide)]; exact hF 0 j (by omega)
      · rw [pd_up_nb (by omega), pd_up_nb (by omega)]; exact hF c j (by omega)
      · rw [pd_up_nb (by omega), pd_up_nb (by omega)]
  | inl w' =>
    have cR := fun (n : Nat) (hn : n ≤ t) (hx : x = nI n) => (show pd_Ev G mi_X6_read 22 0 0 [.ref (pd_z G + 1), .int (nI n)] (SD, false, I, L, R) (QX I L R (.inl w')) ∧ RwOk w' from by
      have := ev_X6_read (G := G) (L := L) (B := B) (n := n) hR (fun k hk => h3 k (by omega)) (by omega)
      rw [hx, nI_clamp (by omega)] at hres
      rw [hres] at this; exact ⟨this, rdT_ok (by omega) hres⟩)
    refine at_aload_n dX8_text_0 rfl ?_
    refine at_iload_n dX8_text_1 rfl ?_
    refine at_iconst dX8_text_2 pc_i0 ?_
    refine at_aload_n dX8_text_3 rfl ?_
    refine at_getr (6) flX8_26 rfl sd_0 (rs_0_1 hR) dX8_text_4 ?_
    refine at_geti flX8_66 rfl sd_6 dX8_text_7 ?_
    rw [h1]
    refine at_cs3 csX8_69 (ev_X8_isFrom x 0 (nI t)) (by decide) ⟨Nat.le_of_ble_eq_true rfl, Nat.le_of_ble_eq_true rfl⟩ (Nat.le_of_ble_eq_true rfl) dX8_text_10 (pd_k1 ?_)
    refine at_cv1 cvX8_73 sd_0 (ev_X8_requireArgument _) (by decide) ⟨Nat.le_of_ble_eq_true rfl, Nat.le_of_ble_eq_true rfl⟩ (Nat.le_of_ble_eq_true rfl) dX8_text_13 (pd_kq rfl (fun q13 => ?_) (fun q13 => ?_))
    · -- refused at 13
      exact q_no9 (by rw [i_of0.mp q13]; rfl)
    have k13 := i_of1.mp q13
    obtain ⟨n, hn, hx⟩ := inR_of (by omega) k13
    rw [k13]
    obtain ⟨cR, hw'⟩ := cR n hn hx
    rw [hx]
    refine at_aload_n dX8_text_16 rfl ?_
    refine at_getr (1) flX8_10 rfl sd_0 (rs_0_0 hR) dX8_text_17 ?_
    refine at_iload_n dX8_text_20 rfl ?_
    refine at_cv1 cvX8_77 sd_1 (cR) (by decide) ⟨Nat.le_of_ble_eq_true rfl, Nat.le_of_ble_eq_true rfl⟩ (Nat.le_of_ble_eq_true rfl) dX8_text_21 (pd_kXl fun I2 hF g1 => ?_)
    refine at_istore_n dX8_text_24 rfl (Nat.le_of_ble_eq_true rfl) ?_
    refine at_aload_n dX8_text_25 rfl ?_
    refine at_getr (6) flX8_26 rfl sd_0 (rs_0_1 hR) dX8_text_26 ?_
    refine at_iconst dX8_text_29 pc_i0 ?_
    refine at_puti flX8_66 rfl sd_6 (fun _ _ _ hq => by cases hq; rfl) dX8_text_30 ?_
    refine at_iload_n dX8_text_33 rfl ?_
    refine at_ifne (tgt := 59) dX8_text_34 (by decide) (fun c34 => ?_) (fun c34 => ?_)
    · -- taken 34
      refine at_aload_n dX8_text_59 rfl ?_
      refine at_iconst dX8_text_60 pc_im1 ?_
      refine at_puti flX8_52 rfl sd_0 (fun _ _ _ hq => by cases hq; rfl) dX8_text_61 ?_
      have hC3 : CW (pd_up (pd_up I2 6 1 0) 0 7 (-1)) (pd_up (pd_up L 8 17 0) 8 18 0) R w a ps := hC0.fr (by rw [pd_up_nj (by decide), pd_up_nb (by decide)]; exact hF 0 5 (by omega)) (fun c h1 h2 j => by rw [pd_up_nb (by omega), pd_up_nb (by omega)]; exact hF c j (by omega)) (fun c h1 h2 j => by rw [pd_up_nb (by omega), pd_up_nb (by omega)])
      clear hnow hcn hi hN hA
      obtain ⟨cn, cp, hN, hA⟩ := hC3
      have hnow := hN.2.2.1
      have hcn := hN.2.1
      have h8 := hA.1.2.2.1
      have hi := PB.hi2 hcn h8
      refine at_aload_n dX8_text_64 rfl ?_
      refine at_cv0 cvX8_85 sd_0 (ev_X8_keepForUndo hA hN.2.2.2.1 hN.2.2.2.2.1) (by decide) ⟨Nat.le_of_ble_eq_true rfl, Nat.le_of_ble_eq_true rfl⟩ (Nat.le_of_ble_eq_true rfl) dX8_text_65 (pd_kw fun I4 L4 R4 h4 => ?_)
      obtain ⟨cp4, hA4, hK⟩ := h4
      have hR := hA4.1.1
      have hnow := hA4.1.2.2.2
      have hP8 : RwP I4 L4 8 w' := RwP.fr g1 (fun c h1 h2 j => by rw [(hK.1 c (by omega)).1 j (by omega), pd_up_nb (by omega), pd_up_nb (by omega)]) (fun j => (hK.1 8 (by omega)).2 j)
      refine at_aload_n dX8_text_68 rfl ?_
      refine at_getr (cn) flX8_48 rfl sd_0 hnow dX8_text_69 ?_
      refine at_aload_n dX8_text_72 rfl ?_
      refine at_getr (1) flX8_10 rfl sd_0 (rs_0_0 hR) dX8_text_73 ?_
      refine at_getr (8) flX8_88 rfl sd_1 (rs_1_1 hR) dX8_text_76 ?_
      refine at_cv1 cvX8_91 (sd_P0 hcn) (ev_X3_copyFrom hR hcn pb_8 h8 hP8.2.2.2.2.2.2.1 hP8.2.2.2.2.2.2.2.1) (by decide) ⟨Nat.le_of_ble_eq_true rfl, Nat.le_of_ble_eq_true rfl⟩ (Nat.le_of_ble_eq_true rfl) dX8_text_79 (pd_ke fun I5 L5 h5 => ?_)
      obtain ⟨hE, hPF⟩ := h5
      have hp5 : RwP I5 L5 cn w' := RwP.cp hw' hP8 hE
      have hA5 : CA I5 L5 R4 cn cp4 (kA a) (kP a ps w) := hA4.fr (by rw [(hPF 0 (by omega)).1]; exact hA4.2.2.2.1) (fun c h1 h2 h3 => hPF c (by omega))
      refine at_aload_n dX8_text_82 rfl ?_
      refine at_getr (18) flX8_30 rfl sd_0 (rs_0_2 hR) dX8_text_83 ?_
      refine at_aload_n dX8_text_86 rfl ?_
      refine at_getr (cn) flX8_48 rfl sd_0 hnow dX8_text_87 ?_
      refine at_cv1 cvX8_95 sd_18 (ev_X1_judge hR hcn hw' hp5) (by decide) ⟨Nat.le_of_ble_eq_true rfl, Nat.le_of_ble_eq_true rfl⟩ (Nat.le_of_ble_eq_true rfl) dX8_text_90 (pd_ke fun I6 L6 h6 => ?_)
      obtain ⟨rfl, hj6, hI6⟩ := h6
      refine at_aload_n dX8_text_93 rfl ?_
      refine at_getr (cn) flX8_48 rfl sd_0 hnow dX8_text_94 ?_
      refine at_geti flX8_98 rfl (sd_P0 hcn) dX8_text_97 ?_
      refine at_iret rfl dX8_text_100 ?_
      refine q_yes rfl ?_ ⟨CW.mk' hA5 hw' hp5 ?_ hj6 hI6, ?_, ?_, fun j g5 g7 => ?_, fun c hc j => ?_, fun c hc j => ?_⟩
      · show Value.int (I6 cn 6) = Value.int (nI w'.2.2.2.1)
        rw [hI6 cn (by omega)]
        exact congrArg Value.int (hp5.1.2.2.1.trans hw'.2.2.1.1)
      · intro n k hn hk
        rw [(hPF 26 (by omega)).2, (hK.1 26 (by omega)).2]
        exact hN.2.2.2.2.2.2 n k hn hk
      · rw [hI6 6 (by omega), (hPF 6 (by omega)).1, (hK.1 6 (by omega)).1 1 (by omega), pd_up_nb (by decide), pd_up_at]
      · rw [hI6 0 (by omega), (hPF 0 (by omega)).1, (hK.1 0 (by omega)).1 7 (by omega), pd_up_at]; rfl
      · rw [hI6 0 (by omega), (hPF 0 (by omega)).1, (hK.1 0 (by omega)).1 j (by omega), pd_up_nj g7, pd_up_nb (by decide)]; exact hF 0 j (by omega)
      · rw [hI6 c (by omega), (hPF c (by omega)).1, (hK.1 c (by omega)).1 j (by omega), pd_up_nb (by omega), pd_up_nb (by omega)]; exact hF c j (by omega)
      · rw [(hPF c (by omega)).2, (hK.1 c (by omega)).2, pd_up_nb (by omega), pd_up_nb (by omega)]
    · -- not taken 34
      exact absurd c34 (by decide)
end TEXT3
