/-! ===== the desk: samples asked ===== -/
/-- a fraction in lowest terms -/
def tmV (x y : Int64) (what : Int32) : Int64 := (if what = 0 then x else y) / lN (Nat.gcd x.toInt.natAbs y.toInt.natAbs)
theorem lN_int {z : Int64} (h : 0 ≤ z.toInt) : z = lN z.toInt.natAbs := by
  have h1 := Int64.toInt_lt z
  rw [fa_eq64, pk_lT (by omega)]; omega
theorem l_abs {x : Int64} (h : -(2 ^ 63) < x.toInt) : (if 0 < x then x else -x) = lN x.toInt.natAbs ∧ x.toInt.natAbs < 2 ^ 63 := by
  have h1 := Int64.toInt_lt x
  refine ⟨?_, by omega⟩
  have h0 : (0 : Int64).toInt = 0 := by decide
  split
  · rename_i q
    rw [fa_lt64, h0] at q
    exact lN_int (by omega)
  · rename_i q
    rw [fa_lt64, h0] at q
    have e : (-x).toInt = -x.toInt := by
      rw [Int64.toInt_neg]
      apply Int.bmod_eq_of_le <;> omega
    have := lN_int (z := -x) (by rw [e]; omega)
    rw [this, e]; congr 1; omega
theorem lN_subT {a b : Nat} (ha : a < 2 ^ 62) (hb : b < 2 ^ 62) : (lN a - lN b).toInt = (a : Int) - b := by
  rw [Int64.toInt_sub, pk_lT (by omega), pk_lT (by omega)]
  apply Int.bmod_eq_of_le <;> omega
theorem ev_X8_tm {G : pd_G} {M : pd_M} {x y : Int64} (hx : -(2 ^ 63) < x.toInt) (hy : 0 < y.toInt) (what : Int32) : pd_Ev G mi_X8_inLowestTerms 3 0 0 [.long x, .long y, .int what] M (pd_rt (.long (tmV x y what)) M) := by
  have h1 := l_abs hx
  have h2 := l_abs (x := y) (by omega)
  exact ev_X8_terms h1.1 h2.1 h1.2 h2.2 (by omega) what
theorem tm_pos {a : Nat} (h0 : 0 < a) (h : a < 2 ^ 63) : 0 < (lN a).toInt := by rw [pk_lT h]; omega
theorem tm_nat {a : Nat} (h : a < 2 ^ 63) : -(2 ^ 63) < (lN a).toInt := by rw [pk_lT h]; omega
def pc16 (x : Nat) : Nat := fb_ct (fun i => x.testBit i) 16
theorem pc16_le (x : Nat) : pc16 x ≤ 16 := fb_ct_le _ _
theorem pc16_32 {x : Nat} (h : x < 2 ^ 16) : fb_ct (fun i => x.testBit i) 32 % 64 = pc16 x := by
  have : fb_ct (fun i => x.testBit i) (16 + 16) = pc16 x + 0 := by
    rw [fb_ct_split]; congr 1
    refine fb_ct_zero.mpr (fun k hk => ?_)
    exact Nat.testBit_lt_two_pow (Nat.lt_of_lt_of_le h (Nat.pow_le_pow_right (by decide) (by omega)))
  rw [show (32 : Nat) = 16 + 16 from rfl, this]
  have := pc16_le x
  omega
theorem pc16_0 {x : Nat} (h : x < 2 ^ 16) : pc16 x = 0 ↔ x = 0 := by
  constructor
  · intro q
    apply Nat.eq_of_testBit_eq
    intro i
    rw [Nat.zero_testBit]
    by_cases hi : i < 16
    · exact fb_ct_zero.mp q i hi
    · exact Nat.testBit_lt_two_pow (Nat.lt_of_lt_of_le h (Nat.pow_le_pow_right (by decide) (by omega)))
  · rintro rfl; decide
/-- each thing has one number, so those that are counted number by number are no more than all -/
theorem sm_part {q : Nat → Bool} {w : Nat → Int32} (n : Nat) : fb_sm (fun v => fb_ct (fun l => q l && decide (w l = nI v)) n) 16 ≤ fb_ct q n := by
  induction n with
  | zero =>
    show fb_sm (fun _ => 0) 16 ≤ 0
    rw [fb_sm_const]; decide
  | succ n ih =>
    have h1 : fb_sm (fun v => fb_ct (fun l => q l && decide (w l = nI v)) (n + 1)) 16 = fb_sm (fun v => fb_ct (fun l => q l && decide (w l = nI v)) n) 16 + fb_sm (fun v => if (q n && decide (w n = nI v)) = true then 1 else 0) 16 := by
      rw [← fb_sm_add]; exact fb_sm_cong (fun v _ => fb_ct_succ _ _)
    have h2 : fb_sm (fun v => if (q n && decide (w n = nI v)) = true then 1 else 0) 16 ≤ if q n = true then 1 else 0 := by
      cases hq : q n with
      | false => simp [fb_sm_const]
      | true =>
        have key : ∀ m, m ≤ 16 → fb_sm (fun v => if (true && decide (w n = nI v)) = true then 1 else 0) m ≤ (if (∃ v, v < m ∧ w n = nI v) then 1 else 0) := by
          intro m
          induction m with
          | zero => intro _; simp [fb_sm]
          | succ m ihm =>
            intro hm
            have h3 := ihm (by omega)
            rw [fb_sm_succ]
            by_cases hw : w n = nI m
            · have hno : ¬ ∃ v, v < m ∧ w n = nI v := by
                rintro ⟨v, hv, hv2⟩
                rw [hw] at hv2
                have := (nI_eq (by omega) (by omega)).mp hv2
                omega
              rw [if_neg hno] at h3
              have hy : ∃ v, v < m + 1 ∧ w n = nI v := ⟨m, by omega, hw⟩
              have h4 : (if (true && decide (w n = nI m)) = true then 1 else 0) = 1 := by simp [hw]
              rw [if_pos hy, h4]; omega
            · by_cases hyes : ∃ v, v < m ∧ w n = nI v
              · rw [if_pos hyes] at h3
                have hy : ∃ v, v < m + 1 ∧ w n = nI v := hyes.imp fun v hv => ⟨by omega, hv.2⟩
                have h4 : (if (true && decide (w n = nI m)) = true then 1 else 0) = 0 := by simp [hw]
                rw [if_pos hy, h4]; omega
              · rw [if_neg hyes] at h3
                have h4 : (if (true && decide (w n = nI m)) = true then 1 else 0) = 0 := by simp [hw]
                rw [h4]; omega
        have := key 16 (Nat.le_refl _)
        simp only [if_true] at this ⊢
        refine Nat.le_trans this ?_
        split <;> omega
    rw [h1, fb_ct_succ]
    omega
theorem ch_mono (k m : Nat) : ∀ t, ch m k ≤ ch (m + t) k
  | 0 => Nat.le_refl _
  | t + 1 => by
    cases k with
    | zero => rw [ch_0, ch_0]; exact Nat.le_refl _
    | succ k =>
      have := ch_mono (k + 1) m t
      show _ ≤ ch (m + t) k + ch (m + t) (k + 1)
      omega
theorem ch_addm (m k : Nat) : ∀ t, ch m (k + 1) + t * ch m k ≤ ch (m + t) (k + 1)
  | 0 => by simp
  | t + 1 => by
    have h1 := ch_addm m k t
    have h2 := ch_mono k m t
    show _ ≤ ch (m + t) k + ch (m + t) (k + 1)
    rw [Nat.succ_mul]; omega
theorem wp_le (o : Nat) (t : Nat → Nat) : ∀ i k, wp (ch o) t i k ≤ ch (o + fb_sm t i) k
  | 0, k => by simp [wp, fb_sm]
  | i + 1, 0 => by rw [wp, ch_0]; have := wp_le o t i 0; rwa [ch_0] at this
  | i + 1, k + 1 => by
    have h1 := wp_le o t i (k + 1)
    have h2 := wp_le o t i k
    have h3 := ch_addm (o + fb_sm t i) k (t i)
    rw [wp, fb_sm_succ, ← Nat.add_assoc]
    have h4 := Nat.mul_le_mul_left (t i) h2
    omega
section DESK3
variable {G : pd_G} {I : Nat → Nat → Int32} {L : Nat → Nat → Int64} {R : Nat → Nat → Option Nat} {cn nv ns nl : Nat} {e : List rl_S} {r : Nat → Int32}
def smC (r : Nat → Int32) (nl w : Nat) : Nat := fb_ct (sm r w) nl
def smG (r : Nat → Int32) (nv nl : Nat) (e : List rl_S) (w : Nat) : Nat := fb_ct (fun l => sm r w l && rOk r nv nl e 0 l) nl
def smP (r : Nat → Int32) (nv nl : Nat) (e : List rl_S) (w : Nat) : Nat := fb_sm (fun v => pr2 (fb_ct (fun l => (sm r w l && rOk r nv nl e 0 l) && decide (rW r nv l = nI v)) nl)) 16
theorem smG_le (w : Nat) : smG r nv nl e w ≤ smC r nl w := fb_ct_sub (fun k _ h => by simp only [Bool.and_eq_true] at h; exact h.1)
theorem smC_40 (hr : Row r nv ns nl e) {w : Nat} (hw : w < 2) : fb_ct (fun i => (smN r w).testBit i) 40 = smC r nl w := by
  have h40 := hr.2.2.1.2
  have e1 : (40 : Nat) = nl + (40 - nl) := by omega
  rw [fb_ct_cong (q := sm r w) (fun k hk => sm_bit hk), e1, fb_ct_split]
  rw [show fb_ct (fun k => sm r w (nl + k)) (40 - nl) = 0 from fb_ct_zero.mpr (fun k hk => by
    have := hr.2.2.2.2.2.2.2.2.2.2.1 w (nl + k) hw (by omega) (by omega)
    simp [sm, this])]
  rfl
theorem sm_hb {w : Nat} (h40 : nl ≤ 40) : ∀ i, i < nl → (lN (smN r w) >>> ((nI i).toInt64 &&& 63) &&& 1 = 1 ↔ sm r w i = true) := fun i hi => by
  rw [l_tb1 (Nat.lt_trans (smN_lt r w) (by decide)) (by omega), sm_bit (by omega)]
def rAl (r : Nat → Int32) : Nat := (r 7).toNatClampNeg
theorem CN.al (h : CN I L R cn r nv ns nl e) : I cn 15 = nI (rAl r) ∧ rAl r ≤ 499 := by
  obtain ⟨hR, hcn, hnow, hr, hp, hj, hT⟩ := h
  obtain ⟨a, h1, h2, h3⟩ := hr.2.2.2.2.1
  have : rAl r = a := by unfold rAl; rw [h3, nI_clamp (by omega)]
  rw [this]
  exact ⟨hp.1.2.2.2.2.2.2.2.trans h3, h2⟩
def loB (r : Nat → Int32) (nl n g : Nat) : Nat := pfirst (fun m => !much nl n (rAl r) (wsm nl n m g (n + 1 - g))) nl 0
def hiB (r : Nat → Int32) (nl n g : Nat) : Nat := plast (fun m => much nl n (rAl r) (wsm nl n m 0 (g + 1))) nl
def vdV (r : Nat → Int32) (nl n g : Nat) : Int32 := if r 3 ≤ nI (loB r nl n g) then 1 else if nI (hiB r nl n g) < r 3 then 2 else 0
theorem ev_X8_verdictOf (h : CN I L R cn r nv ns nl e) {n g : Nat} (hn : n ≤ 40) (hg : g ≤ n) : pd_Ev G mi_X8_verdictOf 5 0 0 [.ref (pd_z G + 0), .int (nI n), .int (nI g)] (SD, false, I, L, R) (pd_rt (.int (vdV r nl n g)) (SD, false, I, L, R)) := by
  have hC := h
  obtain ⟨hR, hcn, hnow, hr, hp, hj, hT⟩ := h
  have hln := hC.lns
  have ha := hC.al
  refine pd_ev 0 (lo := [some (.ref (pd_z G + 0)), some (.int (nI n)), some (.int (nI g))]) (by decide +kernel) (Nat.le_of_ble_eq_true rfl) rfl ?_
  refine at_aload_n dX8_verdictOf_0 rfl ?_
  refine at_getr (25) flX8_37 rfl sd_0 (rs_0_3 hR) dX8_verdictOf_1 ?_
  refine at_aload_n dX8_verdictOf_4 rfl ?_
  refine at_getr (cn) flX8_48 rfl sd_0 hnow dX8_verdictOf_5 ?_
  refine at_geti flX8_98 rfl (sd_P0 hcn) dX8_verdictOf_8 ?_
  refine at_iload_n dX8_verdictOf_11 rfl ?_
  refine at_iload_n dX8_verdictOf_12 rfl ?_
  refine at_aload_n dX8_verdictOf_13 rfl ?_
  refine at_getr (cn) flX8_48 rfl sd_0 hnow dX8_verdictOf_14 ?_
  refine at_geti flX8_186 rfl (sd_P0 hcn) dX8_verdictOf_17 ?_
  rw [hln, ha.1]
  refine at_cv4 cvX8_235 sd_25 (ev_X0_lowBound hR hT hC.l40 hn hg ha.2) (by decide) ⟨Nat.le_of_ble_eq_true rfl, Nat.le_of_ble_eq_true rfl⟩ (Nat.le_of_ble_eq_true rfl) dX8_verdictOf_20 (pd_k1 ?_)
  refine at_aload_n dX8_verdictOf_23 rfl ?_
  refine at_getr (cn) flX8_48 rfl sd_0 hnow dX8_verdictOf_24 ?_
  refine at_geti flX8_174 rfl (sd_P0 hcn) dX8_verdictOf_27 ?_
  rw [hp.1.2.2.2.1]
  refine at_icmplt (tgt := 35) dX8_verdictOf_30 (by decide) (fun c30 => ?_) (fun c30 => ?_)
  · -- taken 30
    refine at_aload_n dX8_verdictOf_35 rfl ?_
    refine at_getr (25) flX8_37 rfl sd_0 (rs_0_3 hR) dX8_verdictOf_36 ?_
    refine at_aload_n dX8_verdictOf_39 rfl ?_
    refine at_getr (cn) flX8_48 rfl sd_0 hnow dX8_verdictOf_40 ?_
    refine at_geti flX8_98 rfl (sd_P0 hcn) dX8_verdictOf_43 ?_
    refine at_iload_n dX8_verdictOf_46 rfl ?_
    refine at_iload_n dX8_verdictOf_47 rfl ?_
    refine at_aload_n dX8_verdictOf_48 rfl ?_
    refine at_getr (cn) flX8_48 rfl sd_0 hnow dX8_verdictOf_49 ?_
    refine at_geti flX8_186 rfl (sd_P0 hcn) dX8_verdictOf_52 ?_
    rw [hln, ha.1]
    refine at_cv4 cvX8_239 sd_25 (ev_X0_highBound hR hT hC.l40 hn hg ha.2) (by decide) ⟨Nat.le_of_ble_eq_true rfl, Nat.le_of_ble_eq_true rfl⟩ (Nat.le_of_ble_eq_true rfl) dX8_verdictOf_55 (pd_k1 ?_)
    refine at_aload_n dX8_verdictOf_58 rfl ?_
    refine at_getr (cn) flX8_48 rfl sd_0 hnow dX8_verdictOf_59 ?_
    refine at_geti flX8_174 rfl (sd_P0 hcn) dX8_verdictOf_62 ?_
    rw [hp.1.2.2.2.1]
    refine at_icmpge (tgt := 72) dX8_verdictOf_65 (by decide) (fun c65 => ?_) (fun c65 => ?_)
    · -- taken 65
      refine at_iconst dX8_verdictOf_72 pc_i0 ?_
      refine at_iret rfl dX8_verdictOf_73 ?_
      refine ⟨?_, rfl⟩
      have h1 : ¬ r 3 ≤ nI (loB r nl n g) := (fa_of_lt c30).2.1
      first | (have h2 : nI (hiB r nl n g) < r 3 := fa_of_nle c65; simp [vdV, h1, h2]; done) | (have h2 : ¬ nI (hiB r nl n g) < r 3 := fun q => (fa_of_lt q).2.1 c65; simp [vdV, h1, h2]; done)
    · -- not taken 65
      refine at_iconst dX8_verdictOf_68 pc_i2 ?_
      refine at_goto (tgt := 73) dX8_verdictOf_69 (by decide) ?_
      refine at_iret rfl dX8_verdictOf_73 ?_
      refine ⟨?_, rfl⟩
      have h1 : ¬ r 3 ≤ nI (loB r nl n g) := (fa_of_lt c30).2.1
      first | (have h2 : nI (hiB r nl n g) < r 3 := fa_of_nle c65; simp [vdV, h1, h2]; done) | (have h2 : ¬ nI (hiB r nl n g) < r 3 := fun q => (fa_of_lt q).2.1 c65; simp [vdV, h1, h2]; done)
  · -- not taken 30
    refine at_iconst dX8_verdictOf_33 pc_i1 ?_
    refine at_iret rfl dX8_verdictOf_34 ?_
    refine ⟨?_, rfl⟩
    have : r 3 ≤ nI (loB r nl n g) := fa_of_nlt c30
    simp [vdV, this]
def dwV (r : Nat → Int32) (nv nl : Nat) (e : List rl_S) (w : Nat) (what : Int32) : Int32 := if what = 0 then nI (smC r nl w) else if what = 1 then nI (smG r nv nl e w) else if what = 2 then nI (smP r nv nl e w) else if smC r nl w = 0 then -1 else if what = 3 then nI (loB r nl (smC r nl w) (smG r nv nl e w)) else if what = 4 then nI (hiB r nl (smC r nl w) (smG r nv nl e w)) else vdV r nl (smC r nl w) (smG r nv nl e w)
theorem ev_X8_drawn (h : CN I L R cn r nv ns nl e) (x what : Int32) : pd_Ev G mi_X8_drawn 8 3 18 [.ref (pd_z G + 0), .int x, .int what] (SD, false, I, L, R) (q_x I L R (j1 9 (inR x 0 1 && inR what 0 5)) (.int (dwV r nv nl e x.toNatClampNeg what)) (KS I L R)) := by
  have hC := h
  obtain ⟨hR, hcn, hnow, hr, hp, hj, hT⟩ := h
  have hln := hC.lns
  have ha := hC.al
  have h40 := hC.l40
  refine pd_ev 4 (lo := [some (.ref (pd_z G + 0)), some (.int x), some (.int what), none, none, none, none]) (by decide +kernel) (Nat.le_of_ble_eq_true rfl) rfl ?_
  refine at_aload_n dX8_drawn_0 rfl ?_
  refine at_iload_n dX8_drawn_1 rfl ?_
  refine at_iconst dX8_drawn_2 pc_i0 ?_
  refine at_iconst dX8_drawn_3 pc_i1 ?_
  refine at_cs3 csX8_69 (ev_X8_isFrom x 0 1) (by decide) ⟨Nat.le_of_ble_eq_true rfl, Nat.le_of_ble_eq_true rfl⟩ (Nat.le_of_ble_eq_true rfl) dX8_drawn_4 (pd_k1 ?_)
  refine at_ifeq (tgt := 23) dX8_drawn_7 (by decide) (fun c7 => ?_) (fun c7 => ?_)
  · -- taken 7
    refine at_iconst dX8_drawn_23 pc_i0 ?_
    refine at_cv1 cvX8_73 sd_0 (ev_X8_requireArgument 0) (by decide) ⟨Nat.le_of_ble_eq_true rfl, Nat.le_of_ble_eq_true rfl⟩ (Nat.le_of_ble_eq_true rfl) dX8_drawn_24 (pd_kq rfl (fun _ => ?_) (fun q => absurd rfl q))
    first | exact q_no9 (by rw [i_of0.mp c7]; rfl) | exact q_no9 (by rw [i_of0.mp c16, Bool.and_false]; rfl)
  · -- not taken 7
    refine at_iload_n dX8_drawn_10 rfl ?_
    refine at_iconst dX8_drawn_11 pc_i0 ?_
    refine at_iconst dX8_drawn_12 pc_i5 ?_
    refine at_cs3 csX8_69 (ev_X8_isFrom what 0 5) (by decide) ⟨Nat.le_of_ble_eq_true rfl, Nat.le_of_ble_eq_true rfl⟩ (Nat.le_of_ble_eq_true rfl) dX8_drawn_13 (pd_k1 ?_)
    refine at_ifeq (tgt := 23) dX8_drawn_16 (by decide) (fun c16 => ?_) (fun c16 => ?_)
    · -- taken 16
      refine at_iconst dX8_drawn_23 pc_i0 ?_
      refine at_cv1 cvX8_73 sd_0 (ev_X8_requireArgument 0) (by decide) ⟨Nat.le_of_ble_eq_true rfl, Nat.le_of_ble_eq_true rfl⟩ (Nat.le_of_ble_eq_true rfl) dX8_drawn_24 (pd_kq rfl (fun _ => ?_) (fun q => absurd rfl q))
      first | exact q_no9 (by rw [i_of0.mp c7]; rfl) | exact q_no9 (by rw [i_of0.mp c16, Bool.and_false]; rfl)
    · -- not taken 16
      refine at_iconst dX8_drawn_19 pc_i1 ?_
      refine at_goto (tgt := 24) dX8_drawn_20 (by decide) ?_
      refine at_cv1 cvX8_73 sd_0 (ev_X8_requireArgument 1) (by decide) ⟨Nat.le_of_ble_eq_true rfl, Nat.le_of_ble_eq_true rfl⟩ (Nat.le_of_ble_eq_true rfl) dX8_drawn_24 (pd_kq rfl (fun q => absurd q (by decide)) (fun _ => ?_))
      have k7 := i_of1.mp c7
      obtain ⟨w, hw, hx⟩ := inR_of (n := 1) (by decide) k7
      have hcl : x.toNatClampNeg = w := by rw [hx, nI_clamp (by omega)]
      rw [hcl, k7, i_of1.mp c16]
      subst hx
      have hcC : smC r nl w ≤ nl := fb_ct_le _ _
      have hgC := smG_le (r := r) (nv := nv) (nl := nl) (e := e) w
      refine at_aload_n dX8_drawn_27 rfl ?_
      refine at_iload_n dX8_drawn_28 rfl ?_
      refine at_cv1 cvX8_223 sd_0 (ev_X8_sampleOf hC (w := w) (by omega)) (by decide) ⟨Nat.le_of_ble_eq_true rfl, Nat.le_of_ble_eq_true rfl⟩ (Nat.le_of_ble_eq_true rfl) dX8_drawn_29 (pd_k1 ?_)
      refine at_lstore_n dX8_drawn_32 rfl (Nat.le_of_ble_eq_true rfl) ?_
      refine at_lload_n dX8_drawn_33 rfl ?_
      refine at_cs1 csX8_227 (ev_J13_bitCount (smN_lt r w)) (by decide) ⟨Nat.le_of_ble_eq_true rfl, Nat.le_of_ble_eq_true rfl⟩ (Nat.le_of_ble_eq_true rfl) dX8_drawn_34 (pd_k1 ?_)
      rw [smC_40 hr (by omega)]
      refine at_istore dX8_drawn_37 rfl (Nat.le_of_ble_eq_true rfl) ?_
      refine at_aload_n dX8_drawn_39 rfl ?_
      refine at_getr (18) flX8_30 rfl sd_0 (rs_0_2 hR) dX8_drawn_40 ?_
      refine at_lload_n dX8_drawn_43 rfl ?_
      refine at_cv1 cvX8_112 sd_18 (ev_X1_goodIn hR h40 hC.v16 hj (sm_hb h40)) (by decide) ⟨Nat.le_of_ble_eq_true rfl, Nat.le_of_ble_eq_true rfl⟩ (Nat.le_of_ble_eq_true rfl) dX8_drawn_44 (pd_k1 ?_)
      refine at_istore dX8_drawn_47 rfl (Nat.le_of_ble_eq_true rfl) ?_
      refine at_iload_n dX8_drawn_49 rfl ?_
      refine at_ifne (tgt := 56) dX8_drawn_50 (by decide) (fun c50 => ?_) (fun c50 => ?_)
      · -- taken 50
        refine at_iload_n dX8_drawn_56 rfl ?_
        refine at_iconst dX8_drawn_57 pc_i1 ?_
        refine at_icmpne (tgt := 64) dX8_drawn_58 (by decide) (fun c58 => ?_) (fun c58 => ?_)
        · -- taken 58
          refine at_iload_n dX8_drawn_64 rfl ?_
          refine at_iconst dX8_drawn_65 pc_i2 ?_
          refine at_icmpne (tgt := 78) dX8_drawn_66 (by decide) (fun c66 => ?_) (fun c66 => ?_)
          · -- taken 66
            refine at_iload dX8_drawn_78 rfl ?_
            refine at_ifne (tgt := 85) dX8_drawn_80 (by decide) (fun c80 => ?_) (fun c80 => ?_)
            · -- taken 80
              have kz : nI (smC r nl w) = 0 ↔ smC r nl w = 0 := nI_eq (b := 0) (by omega) (by decide)
              rw [kz] at c80
              refine at_iload_n dX8_drawn_85 rfl ?_
              refine at_iconst dX8_drawn_86 pc_i3 ?_
              refine at_icmpne (tgt := 116) dX8_drawn_87 (by decide) (fun c87 => ?_) (fun c87 => ?_)
              · -- taken 87
                refine at_iload_n dX8_drawn_116 rfl ?_
                refine at_iconst dX8_drawn_117 pc_i4 ?_
                refine at_icmpne (tgt := 147) dX8_drawn_118 (by decide) (fun c118 => ?_) (fun c118 => ?_)
                · -- taken 118
                  refine at_aload_n dX8_drawn_147 rfl ?_
                  refine at_iload dX8_drawn_148 rfl ?_
                  refine at_iload dX8_drawn_150 rfl ?_
                  refine at_cv2 cvX8_242 sd_0 (ev_X8_verdictOf hC (by omega) hgC) (by decide) ⟨Nat.le_of_ble_eq_true rfl, Nat.le_of_ble_eq_true rfl⟩ (Nat.le_of_ble_eq_true rfl) dX8_drawn_152 (pd_k1 ?_)
                  refine at_iret rfl dX8_drawn_155 ?_
                  refine q_yes rfl ?_ KS.rf
                  rw [dwV, if_neg c50, if_neg c58, if_neg c66, if_neg c80, if_neg c87, if_neg c118]
                  rfl
                · -- not taken 118
                  refine at_aload_n dX8_drawn_121 rfl ?_
                  refine at_getr (25) flX8_37 rfl sd_0 (rs_0_3 hR) dX8_drawn_122 ?_
                  refine at_aload_n dX8_drawn_125 rfl ?_
                  refine at_getr (cn) flX8_48 rfl sd_0 hnow dX8_drawn_126 ?_
                  refine at_geti flX8_98 rfl (sd_P0 hcn) dX8_drawn_129 ?_
                  refine at_iload dX8_drawn_132 rfl ?_
                  refine at_iload dX8_drawn_134 rfl ?_
                  refine at_aload_n dX8_drawn_136 rfl ?_
                  refine at_getr (cn) flX8_48 rfl sd_0 hnow dX8_drawn_137 ?_
                  refine at_geti flX8_186 rfl (sd_P0 hcn) dX8_drawn_140 ?_
                  rw [hln, ha.1]
                  refine at_cv4 cvX8_239 sd_25 (ev_X0_highBound hR hT h40 (by omega) hgC ha.2) (by decide) ⟨Nat.le_of_ble_eq_true rfl, Nat.le_of_ble_eq_true rfl⟩ (Nat.le_of_ble_eq_true rfl) dX8_drawn_143 (pd_k1 ?_)
                  refine at_iret rfl dX8_drawn_146 ?_
                  refine q_yes rfl ?_ KS.rf
                  rw [dwV, if_neg c50, if_neg c58, if_neg c66, if_neg c80, if_neg c87, if_pos c118]
                  rfl
              · -- not taken 87
                refine at_aload_n dX8_drawn_90 rfl ?_
                refine at_getr (25) flX8_37 rfl sd_0 (rs_0_3 hR) dX8_drawn_91 ?_
                refine at_aload_n dX8_drawn_94 rfl ?_
                refine at_getr (cn) flX8_48 rfl sd_0 hnow dX8_drawn_95 ?_
                refine at_geti flX8_98 rfl (sd_P0 hcn) dX8_drawn_98 ?_
                refine at_iload dX8_drawn_101 rfl ?_
                refine at_iload dX8_drawn_103 rfl ?_
                refine at_aload_n dX8_drawn_105 rfl ?_
                refine at_getr (cn) flX8_48 rfl sd_0 hnow dX8_drawn_106 ?_
                refine at_geti flX8_186 rfl (sd_P0 hcn) dX8_drawn_109 ?_
                rw [hln, ha.1]
                refine at_cv4 cvX8_235 sd_25 (ev_X0_lowBound hR hT h40 (by omega) hgC ha.2) (by decide) ⟨Nat.le_of_ble_eq_true rfl, Nat.le_of_ble_eq_true rfl⟩ (Nat.le_of_ble_eq_true rfl) dX8_drawn_112 (pd_k1 ?_)
                refine at_iret rfl dX8_drawn_115 ?_
                refine q_yes rfl ?_ KS.rf
                rw [dwV, if_neg c50, if_neg c58, if_neg c66, if_neg c80, if_pos c87]
                rfl
            · -- not taken 80
              have kz : nI (smC r nl w) = 0 ↔ smC r nl w = 0 := nI_eq (b := 0) (by omega) (by decide)
              rw [kz] at c80
              refine at_iconst dX8_drawn_83 pc_im1 ?_
              refine at_iret rfl dX8_drawn_84 ?_
              refine q_yes rfl ?_ KS.rf
              simp only [dwV, if_neg c50, if_neg c58, if_neg c66, if_pos c80]
          · -- not taken 66
            refine at_aload_n dX8_drawn_69 rfl ?_
            refine at_getr (18) flX8_30 rfl sd_0 (rs_0_2 hR) dX8_drawn_70 ?_
            refine at_lload_n dX8_drawn_73 rfl ?_
            refine at_cv1 cvX8_232 sd_18 (ev_X1_pairsIn hR h40 hC.v16 hj (sm_hb h40)) (by decide) ⟨Nat.le_of_ble_eq_true rfl, Nat.le_of_ble_eq_true rfl⟩ (Nat.le_of_ble_eq_true rfl) dX8_drawn_74 (pd_ki fun x I2 L2 h2 => ?_)
            obtain ⟨rfl, rfl, h2⟩ := h2
            refine at_iret rfl dX8_drawn_77 ?_
            refine q_yes rfl ?_ ⟨h2, fun _ _ _ => rfl, rfl⟩
            simp [dwV, c66, smP]
        · -- not taken 58
          refine at_iload dX8_drawn_61 rfl ?_
          refine at_iret rfl dX8_drawn_63 ?_
          refine q_yes rfl ?_ KS.rf
          simp [dwV, c58, smG]
      · -- not taken 50
        refine at_iload dX8_drawn_53 rfl ?_
        refine at_iret rfl dX8_drawn_55 ?_
        refine q_yes rfl ?_ KS.rf
        simp only [dwV, c50, if_true]
end DESK3
