/-! ===== Judgement: sheets struck, doubles ===== -/
theorem pd_up_up {α : Type} {f : Nat → Nat → α} {a k : Nat} {v w : α} : pd_up (pd_up f a k v) a k w = pd_up f a k w := by
  funext b j; unfold pd_up; by_cases h : b = a ∧ j = k <;> simp [h]
theorem i_sh1 : ∀ s, s < 31 → (1 : Int32) <<< (nI s &&& 31) = nI (2 ^ s) := by decide +kernel
theorem i_smod : ∀ s, s < 32 → ((nI s &&& 31).toBitVec.smod 32).toNat = s := by decide +kernel
theorem i_tb {x s : Nat} (hx : x < 2 ^ 31) (hs : s < 32) : nI x >>> (nI s &&& 31) &&& 1 = i_of (x.testBit s) := by
  rw [pk_shrN hx _ s (i_smod s hs), pk_andN (Nat.lt_of_le_of_lt (Nat.div_le_self _ _) (by omega)) 1 (by decide), Nat.testBit_eq_decide_div_mod_eq]
  have := Nat.mod_two_eq_zero_or_one (x / 2 ^ s)
  rcases this with h | h <;> simp [h, i_of, nI]
theorem bsum_set {p : Nat → Bool} {n v : Nat} (hv : v < n) : bsum p n ||| 2 ^ v = bsum (fun i => p i || decide (i = v)) n := by
  apply Nat.eq_of_testBit_eq
  intro i
  rw [Nat.testBit_or, bsum_bit, bsum_bit, Nat.testBit_two_pow]
  by_cases h : v = i
  · subst h; simp [hv]
  · have : ¬ i = v := fun e => h e.symm
    simp [h, this]
section JUD3
variable {G : pd_G} {I : Nat → Nat → Int32} {L : Nat → Nat → Int64} {R : Nat → Nat → Option Nat} {c nv ns nl : Nat} {e : List rl_S} {r : Nat → Int32}
/-- struck so far: the first s sheets by all, the others by hand -/
def kS (r : Nat → Int32) (nv nl : Nat) (e : List rl_S) (s : Nat) : Nat := bsum (fun t => if t < s then rK r nv nl e 0 t else decide (r (57 + t) = 1)) 8
theorem kS_end (hr : Row r nv ns nl e) : kS r nv nl e ns = bsum (rK r nv nl e 0) ns := by
  have h8 : ns ≤ 8 := hr.2.1.2
  unfold kS
  apply Nat.eq_of_testBit_eq
  intro i
  rw [bsum_bit, bsum_bit]
  by_cases h : i < ns
  · have : i < 8 := by omega
    simp [h, this]
  · by_cases h2 : i < 8
    · have h0 := hr.2.2.2.2.2.2.2.2.1 i (by omega) h2
      simp [h, h0]
    · simp [h, h2]
theorem kS_step {s : Nat} (hs : s < 8) : kS r nv nl e (s + 1) = if r 6 * nI (rN r nl s) < 100 * nI (rWr r nv nl e s) then kS r nv nl e s ||| 2 ^ s else kS r nv nl e s := by
  have hk : rK r nv nl e 0 s = (decide (r (57 + s) = 1) || decide (r 6 * nI (rN r nl s) < 100 * nI (rWr r nv nl e s))) := by simp [rK]
  split
  · rename_i h
    unfold kS
    rw [bsum_set hs]
    refine bsum_cong (fun i hi => ?_)
    by_cases h1 : i = s
    · subst h1; rw [if_pos (by omega), hk]; simp [h]
    · by_cases h2 : i < s
      · rw [if_pos (by omega), if_pos h2]; simp [h1]
      · rw [if_neg (by omega), if_neg h2]; simp [h1]
  · rename_i h
    unfold kS
    refine bsum_cong (fun i hi => ?_)
    by_cases h1 : i = s
    · subst h1; rw [if_pos (by omega), if_neg (by omega), hk]; simp [h]
    · by_cases h2 : i < s
      · rw [if_pos (by omega), if_pos h2]
      · rw [if_neg (by omega), if_neg h2]
def JW (I : Nat → Nat → Int32) (r : Nat → Int32) (nv nl : Nat) (e : List rl_S) : Prop := JV I r nv nl ∧ ∀ l, l < nl → I 20 l = rH r nv e l
theorem JW.up {v : Int32} (h : JW I r nv nl e) : JW (pd_up I 18 3 v) r nv nl e := ⟨⟨by rw [pd_up_nj (by decide)]; exact h.1.1, fun l hl => by rw [pd_up_nb (by decide)]; exact h.1.2.1 l hl, fun l hl => by rw [pd_up_nb (by decide)]; exact h.1.2.2 l hl⟩, fun l hl => by rw [pd_up_nb (by decide)]; exact h.2 l hl⟩
theorem lp_X1_strike1 (hR : RS R) (hc : PB c) (h40 : nl ≤ 40) (hw : JW I r nv nl e) (s : Nat) {Q : pd_O → pd_M → Prop} (K : pd_At G mi_X1_strikeSheets 1 0 0 0 0 75 [some (.ref (pd_z G + 18)), some (.ref (pd_z G + c)), some (.int (nI s)), some (.int (nI (rN r nl s))), some (.int (nI (rWr r nv nl e s))), some (.int (nI nl))] [] (SD, false, I, L, R) Q) :
    ∀ (k i : Nat), i + k = nl → pd_At G mi_X1_strikeSheets 1 0 0 0 0 26 [some (.ref (pd_z G + 18)), some (.ref (pd_z G + c)), some (.int (nI s)), some (.int (nI (rN r i s))), some (.int (nI (fb_ct (fun l => decide (rSh r l = nI s) && decide (¬ rH r nv e l = 0)) i))), some (.int (nI i))] [] (SD, false, I, L, R) Q := by
  intro k
  induction k with
  | zero =>
    intro i hi
    have e0 : i = nl := by omega
    subst e0
    refine at_iload dX1_strikeSheets_26 rfl ?_
    refine at_aload_n dX1_strikeSheets_28 rfl ?_
    refine at_geti flX1_47 rfl sd_18 dX1_strikeSheets_29 ?_
    rw [hw.1.1]
    refine at_icmpge (tgt := 75) dX1_strikeSheets_32 (by decide) (fun c32 => ?_) (fun c32 => ?_)
    · -- taken 32
      exact K
    · -- not taken 32
      exact absurd (nI_le (Nat.le_refl _) (by omega)) c32
  | succ k ih =>
    intro i hi
    have hin : vp_in (nI i) 40 := vp_in_nI (by omega) (by decide)
    have hcl : (nI i).toNatClampNeg = i := nI_clamp (by omega)
    have h := ih (i + 1) (by omega)
    have e1 : ∀ b, decide (rSh r i = nI s) = b → rN r (i + 1) s = rN r i s + (if b then 1 else 0) := fun b hb => by rw [← hb]; exact fb_ct_succ _ _
    have e2 : ∀ b, (decide (rSh r i = nI s) && decide (¬ rH r nv e i = 0)) = b → fb_ct (fun l => decide (rSh r l = nI s) && decide (¬ rH r nv e l = 0)) (i + 1) = fb_ct (fun l => decide (rSh r l = nI s) && decide (¬ rH r nv e l = 0)) i + (if b then 1 else 0) := fun b hb => by rw [← hb]; exact fb_ct_succ _ _
    refine at_iload dX1_strikeSheets_26 rfl ?_
    refine at_aload_n dX1_strikeSheets_28 rfl ?_
    refine at_geti flX1_47 rfl sd_18 dX1_strikeSheets_29 ?_
    rw [hw.1.1]
    refine at_icmpge (tgt := 75) dX1_strikeSheets_32 (by decide) (fun c32 => ?_) (fun c32 => ?_)
    · -- taken 32
      exact absurd c32 (nI_ge (by omega) (by omega))
    · -- not taken 32
      refine at_aload_n dX1_strikeSheets_35 rfl ?_
      refine at_getr (24) flX1_29 rfl sd_18 (rs_18_6 hR) dX1_strikeSheets_36 ?_
      refine at_iload dX1_strikeSheets_39 rfl ?_
      refine at_iald sd_24 (hin) dX1_strikeSheets_41 ?_
      rw [hcl, hw.1.2.2 i (by omega)]
      refine at_iload_n dX1_strikeSheets_42 rfl ?_
      refine at_icmpne (tgt := 69) dX1_strikeSheets_43 (by decide) (fun c43 => ?_) (fun c43 => ?_)
      · -- taken 43
        refine at_inc dX1_strikeSheets_69 rfl pc_i1 rfl (Nat.le_of_ble_eq_true rfl) ?_
        refine at_goto (tgt := 26) dX1_strikeSheets_72 (by decide) ?_
        simp only [nI_1, Int32.add_zero]
        first | (rw [e1 false (by simp [c43]), e2 false (by simp [c43])] at h; exact h) | (rw [e1 true (by simp [c43]), e2 false (by simp [c43, c58])] at h; exact h) | (rw [e1 true (by simp [c43]), e2 true (by simp [c43, c58])] at h; exact h)
      · -- not taken 43
        refine at_inc dX1_strikeSheets_46 rfl pc_i1 rfl (Nat.le_of_ble_eq_true rfl) ?_
        refine at_iload dX1_strikeSheets_49 rfl ?_
        refine at_aload_n dX1_strikeSheets_51 rfl ?_
        refine at_getr (20) flX1_15 rfl sd_18 (rs_18_1 hR) dX1_strikeSheets_52 ?_
        refine at_iload dX1_strikeSheets_55 rfl ?_
        refine at_iald sd_20 (hin) dX1_strikeSheets_57 ?_
        rw [hcl, hw.2 i (by omega)]
        refine at_ifne (tgt := 65) dX1_strikeSheets_58 (by decide) (fun c58 => ?_) (fun c58 => ?_)
        · -- taken 58
          refine at_iconst dX1_strikeSheets_65 pc_i1 ?_
          refine at_iadd dX1_strikeSheets_66 ?_
          refine at_istore dX1_strikeSheets_67 rfl (Nat.le_of_ble_eq_true rfl) ?_
          refine at_inc dX1_strikeSheets_69 rfl pc_i1 rfl (Nat.le_of_ble_eq_true rfl) ?_
          refine at_goto (tgt := 26) dX1_strikeSheets_72 (by decide) ?_
          simp only [nI_1, Int32.add_zero]
          first | (rw [e1 false (by simp [c43]), e2 false (by simp [c43])] at h; exact h) | (rw [e1 true (by simp [c43]), e2 false (by simp [c43, c58])] at h; exact h) | (rw [e1 true (by simp [c43]), e2 true (by simp [c43, c58])] at h; exact h)
        · -- not taken 58
          refine at_iconst dX1_strikeSheets_61 pc_i0 ?_
          refine at_goto (tgt := 66) dX1_strikeSheets_62 (by decide) ?_
          refine at_iadd dX1_strikeSheets_66 ?_
          refine at_istore dX1_strikeSheets_67 rfl (Nat.le_of_ble_eq_true rfl) ?_
          refine at_inc dX1_strikeSheets_69 rfl pc_i1 rfl (Nat.le_of_ble_eq_true rfl) ?_
          refine at_goto (tgt := 26) dX1_strikeSheets_72 (by decide) ?_
          simp only [nI_1, Int32.add_zero]
          first | (rw [e1 false (by simp [c43]), e2 false (by simp [c43])] at h; exact h) | (rw [e1 true (by simp [c43]), e2 false (by simp [c43, c58])] at h; exact h) | (rw [e1 true (by simp [c43]), e2 true (by simp [c43, c58])] at h; exact h)
theorem lp_X1_strike (hR : RS R) (hc : PB c) (hr : Row r nv ns nl e) (hw : JW I r nv nl e) (hp : PetRel I L c r nv ns nl e) : ∀ (k s : Nat), s + k = ns → pd_At G mi_X1_strikeSheets 1 0 0 0 0 10 [some (.ref (pd_z G + 18)), some (.ref (pd_z G + c)), some (.int (nI s)), none, none, none] [] (SD, false, pd_up I 18 3 (nI (kS r nv nl e s)), L, R) (pd_rv (SD, false, pd_up I 18 3 (nI (kS r nv nl e ns)), L, R)) := by
  have hcx := hc.cl
  have h40 : nl ≤ 40 := hr.2.2.1.2
  have h8 : ns ≤ 8 := hr.2.1.2
  have hsn : I c 4 = nI ns := hp.1.2.1.trans hr.2.1.1
  intro k
  induction k with
  | zero =>
    intro s hs
    have e0 : s = ns := by omega
    subst e0
    refine at_iload_n dX1_strikeSheets_10 rfl ?_
    refine at_aload_n dX1_strikeSheets_11 rfl ?_
    refine at_geti flX1_113 rfl (sd_P0 hc) dX1_strikeSheets_12 ?_
    rw [pd_up_nb (by omega), hsn]
    refine at_icmpge (tgt := 107) dX1_strikeSheets_15 (by decide) (fun c15 => ?_) (fun c15 => ?_)
    · -- taken 15
      refine at_vret rfl dX1_strikeSheets_107 ?_
      exact ⟨rfl, rfl⟩
    · -- not taken 15
      exact absurd (nI_le (Nat.le_refl _) (by omega)) c15
  | succ k ih =>
    intro s hs
    have h := ih (s + 1) (by omega)
    have hm : nI (rWr r nv nl e s) * 100 = 100 * nI (rWr r nv nl e s) := Int32.mul_comm _ _
    rw [kS_step (by omega)] at h
    have tail : pd_At G mi_X1_strikeSheets 1 0 0 0 0 75 [some (.ref (pd_z G + 18)), some (.ref (pd_z G + c)), some (.int (nI s)), some (.int (nI (rN r nl s))), some (.int (nI (rWr r nv nl e s))), some (.int (nI nl))] [] (SD, false, pd_up I 18 3 (nI (kS r nv nl e s)), L, R) (pd_rv (SD, false, pd_up I 18 3 (nI (kS r nv nl e ns)), L, R)) := by
      refine at_iload dX1_strikeSheets_75 rfl ?_
      refine at_bipush dX1_strikeSheets_77 pc_b100 ?_
      refine at_imul dX1_strikeSheets_79 ?_
      refine at_aload_n dX1_strikeSheets_80 rfl ?_
      refine at_geti flX1_116 rfl (sd_P0 hc) dX1_strikeSheets_81 ?_
      rw [pd_up_nb (by omega), hp.1.2.2.2.2.2.2.1]
      refine at_iload_n dX1_strikeSheets_84 rfl ?_
      refine at_imul dX1_strikeSheets_85 ?_
      refine at_icmple (tgt := 101) dX1_strikeSheets_86 (by decide) (fun c86 => ?_) (fun c86 => ?_)
      · -- taken 86
        rw [hm] at c86
        refine at_inc dX1_strikeSheets_101 rfl pc_i1 rfl (Nat.le_of_ble_eq_true rfl) ?_
        refine at_goto (tgt := 10) dX1_strikeSheets_104 (by decide) ?_
        refine at_drop 3 (at_drop 4 (at_drop 5 ?_))
        rw [nI_1]
        first | (rw [if_neg (Int32.not_lt.mpr c86)] at h; exact h) | (rw [if_pos (Int32.not_le.mp c86)] at h; rw [pd_up_up]; exact h)
      · -- not taken 86
        rw [hm] at c86
        refine at_aload_n dX1_strikeSheets_89 rfl ?_
        refine at_dup dX1_strikeSheets_90 rfl ?_
        refine at_geti flX1_110 rfl sd_18 dX1_strikeSheets_91 ?_
        rw [pd_up_at]
        refine at_iconst dX1_strikeSheets_94 pc_i1 ?_
        refine at_iload_n dX1_strikeSheets_95 rfl ?_
        refine at_ishl dX1_strikeSheets_96 ?_
        rw [i_sh1 s (by omega)]
        refine at_ior dX1_strikeSheets_97 ?_
        rw [fa_or]
        refine at_puti flX1_110 rfl sd_18 (fun _ _ _ hq => by cases hq; rfl) dX1_strikeSheets_98 ?_
        refine at_inc dX1_strikeSheets_101 rfl pc_i1 rfl (Nat.le_of_ble_eq_true rfl) ?_
        refine at_goto (tgt := 10) dX1_strikeSheets_104 (by decide) ?_
        refine at_drop 3 (at_drop 4 (at_drop 5 ?_))
        rw [nI_1]
        first | (rw [if_neg (Int32.not_lt.mpr c86)] at h; exact h) | (rw [if_pos (Int32.not_le.mp c86)] at h; rw [pd_up_up]; exact h)
    refine at_iload_n dX1_strikeSheets_10 rfl ?_
    refine at_aload_n dX1_strikeSheets_11 rfl ?_
    refine at_geti flX1_113 rfl (sd_P0 hc) dX1_strikeSheets_12 ?_
    rw [pd_up_nb (by omega), hsn]
    refine at_icmpge (tgt := 107) dX1_strikeSheets_15 (by decide) (fun c15 => ?_) (fun c15 => ?_)
    · -- taken 15
      exact absurd c15 (nI_ge (by omega) (by omega))
    · -- not taken 15
      refine at_iconst dX1_strikeSheets_18 pc_i0 ?_
      refine at_istore_n dX1_strikeSheets_19 rfl (Nat.le_of_ble_eq_true rfl) ?_
      refine at_iconst dX1_strikeSheets_20 pc_i0 ?_
      refine at_istore dX1_strikeSheets_21 rfl (Nat.le_of_ble_eq_true rfl) ?_
      refine at_iconst dX1_strikeSheets_23 pc_i0 ?_
      refine at_istore dX1_strikeSheets_24 rfl (Nat.le_of_ble_eq_true rfl) ?_
      exact lp_X1_strike1 hR hc h40 hw.up s tail nl 0 (by omega)
theorem ev_X1_strikeSheets (hR : RS R) (hc : PB c) (hr : Row r nv ns nl e) (hw : JW I r nv nl e) (hp : PetRel I L c r nv ns nl e) : pd_Ev G mi_X1_strikeSheets 1 0 0 [.ref (pd_z G + 18), .ref (pd_z G + c)] (SD, false, I, L, R) (pd_rv (SD, false, pd_up I 18 3 (nI (bsum (rK r nv nl e 0) ns)), L, R)) := by
  refine pd_ev 4 (lo := [some (.ref (pd_z G + 18)), some (.ref (pd_z G + c)), none, none, none, none]) (by decide +kernel) (Nat.le_of_ble_eq_true rfl) rfl ?_
  refine at_aload_n dX1_strikeSheets_0 rfl ?_
  refine at_aload_n dX1_strikeSheets_1 rfl ?_
  refine at_geti flX1_107 rfl (sd_P0 hc) dX1_strikeSheets_2 ?_
  rw [hp.2.2.2.1]
  refine at_puti flX1_110 rfl sd_18 (fun _ _ _ hq => by cases hq; rfl) dX1_strikeSheets_5 ?_
  refine at_iconst dX1_strikeSheets_8 pc_i0 ?_
  refine at_istore_n dX1_strikeSheets_9 rfl (Nat.le_of_ble_eq_true rfl) ?_
  rw [← kS_end hr]
  exact lp_X1_strike hR hc hr hw hp ns 0 (by omega)
/-- the doubles: how far -/
def DInv (I I' : Nat → Nat → Int32) (r : Nat → Int32) (nv nl : Nat) (e : List rl_S) (i : Nat) : Prop := (∀ a, a ≠ 20 → a ≠ 22 → ∀ j, I' a j = I a j) ∧ (∀ l, l < nl → I' 20 l = if l < i then rJ r nv nl e 0 l else rH r nv e l) ∧
  ∀ s, s < 8 → I' 22 s = nI (bsum (fun v => decide (0 < fb_ct (fun l => rOk r nv nl e 0 l && (decide (rSh r l = nI s) && decide (rW r nv l = nI v))) i)) 16)
def dSeen (r : Nat → Int32) (nv nl : Nat) (e : List rl_S) (i : Nat) : Nat := bsum (fun v => decide (0 < fb_ct (fun k => rOk r nv nl e 0 k && decide (rW r nv k = nI v)) i)) 16
theorem dSeen_no {i : Nat} (h : rOk r nv nl e 0 i = false) : dSeen r nv nl e (i + 1) = dSeen r nv nl e i := by
  unfold dSeen
  refine bsum_cong (fun v _ => ?_)
  rw [fb_ct_succ]; simp [h]
theorem dSeen_yes {i w : Nat} (h : rOk r nv nl e 0 i = true) (hw : rW r nv i = nI w) (hw16 : w < 16) : dSeen r nv nl e (i + 1) = dSeen r nv nl e i ||| 2 ^ w := by
  unfold dSeen
  rw [bsum_set hw16]
  refine bsum_cong (fun v hv => ?_)
  rw [fb_ct_succ]
  by_cases h2 : v = w
  · subst h2; simp [h, hw]
  · have : ¬ nI w = nI v := fun e1 => h2 ((nI_eq (by omega) (by omega)).mp e1.symm)
    simp [h, hw, this, h2]
theorem dSeen_bit {i w : Nat} (hw16 : w < 16) (hw : rW r nv i = nI w) : (dSeen r nv nl e i).testBit w = decide (0 < fb_ct (fun k => rOk r nv nl e 0 k && decide (rW r nv k = rW r nv i)) i) := by
  unfold dSeen
  rw [bsum_bit, hw]; simp [hw16]
theorem dSeen_lt {i : Nat} : dSeen r nv nl e i < 2 ^ 16 := bsum_lt _ _
theorem DInv.no {I I' : Nat → Nat → Int32} {i : Nat} {x : Int32} (h : DInv I I' r nv nl e i) (hok : rOk r nv nl e 0 i = false) (hx : x = rJ r nv nl e 0 i) : DInv I (pd_up I' 20 i x) r nv nl e (i + 1) := by
  refine ⟨fun a h1 h2 j => by rw [pd_up_nb h1]; exact h.1 a h1 h2 j, fun l hl => ?_, fun s hs => ?_⟩
  · by_cases h1 : l = i
    · subst h1; rw [pd_up_at, if_pos (by omega)]; exact hx
    · rw [pd_up_nj h1, h.2.1 l hl]
      by_cases h2 : l < i
      · rw [if_pos h2, if_pos (by omega)]
      · rw [if_neg h2, if_neg (by omega)]
  · rw [pd_up_nb (by decide), h.2.2 s hs]
    congr 1
    refine bsum_cong (fun v _ => ?_)
    rw [fb_ct_succ]; simp [hok]
theorem DInv.keep {I I' : Nat → Nat → Int32} {i : Nat} (h : DInv I I' r nv nl e i) (hi : i < nl) (hne : ¬ rH r nv e i = 0) : DInv I I' r nv nl e (i + 1) := by
  have hok : rOk r nv nl e 0 i = false := by simp [rOk, hne]
  have h2 := h.no (x := I' 20 i) hok (by rw [h.2.1 i hi, if_neg (by omega), rJ, if_pos hne])
  have e1 : pd_up I' 20 i (I' 20 i) = I' := by funext b j; unfold pd_up; by_cases h : b = 20 ∧ j = i <;> simp [h]
  rwa [e1] at h2
theorem DInv.yes {I I' : Nat → Nat → Int32} {i w s0 : Nat} {x : Int32} (h : DInv I I' r nv nl e i) (hok : rOk r nv nl e 0 i = true) (hx : x = rJ r nv nl e 0 i) (hw : rW r nv i = nI w) (hw16 : w < 16) (hs0 : rSh r i = nI s0) (hs8 : s0 < 8) : DInv I (pd_up (pd_up I' 20 i x) 22 s0 (nI (bsum (fun v => decide (0 < fb_ct (fun l => rOk r nv nl e 0 l && (decide (rSh r l = nI s0) && decide (rW r nv l = nI v))) i)) 16 ||| 2 ^ w))) r nv nl e (i + 1) := by
  refine ⟨fun a h1 h2 j => by rw [pd_up_nb h2, pd_up_nb h1]; exact h.1 a h1 h2 j, fun l hl => ?_, fun s hs => ?_⟩
  · rw [pd_up_nb (by decide)]
    by_cases h1 : l = i
    · subst h1; rw [pd_up_at, if_pos (by omega)]; exact hx
    · rw [pd_up_nj h1, h.2.1 l hl]
      by_cases h2 : l < i
      · rw [if_pos h2, if_pos (by omega)]
      · rw [if_neg h2, if_neg (by omega)]
  · by_cases h1 : s = s0
    · subst h1
      rw [pd_up_at, bsum_set hw16]
      congr 1
      refine bsum_cong (fun v hv => ?_)
      rw [fb_ct_succ]
      by_cases h2 : v = w
      · subst h2; simp [hok, hw, hs0]
      · have : ¬ nI w = nI v := fun e1 => h2 ((nI_eq (by omega) (by omega)).mp e1.symm)
        simp [hok, hw, this, h2]
    · have hn : ¬ nI s0 = nI s := fun e1 => h1 ((nI_eq (by omega) (by omega)).mp e1.symm)
      rw [pd_up_nj h1, pd_up_nb (by decide), h.2.2 s hs]
      congr 1
      refine bsum_cong (fun v _ => ?_)
      rw [fb_ct_succ]; simp [hs0, hn]
theorem lp_X1_findDoubles (hR : RS R) (hr : Row r nv ns nl e) (hw : JV I r nv nl) (hk : I 18 3 = nI (bsum (rK r nv nl e 0) ns)) : ∀ (k i : Nat) (I' : Nat → Nat → Int32), i + k = nl → DInv I I' r nv nl e i → pd_At G mi_X1_findDoubles 2 0 0 0 0 12 [some (.ref (pd_z G + 18)), some (.int (nI (dSeen r nv nl e i))), some (.int (nI i)), none, none] [] (SD, false, I', L, R) (pd_re R fun I2 L2 => L2 = L ∧ DInv I I2 r nv nl e nl) := by
  have h40 : nl ≤ 40 := hr.2.2.1.2
  have hv16 : nv ≤ 16 := hr.1.2
  have h8 : ns ≤ 8 := hr.2.1.2
  intro k
  induction k with
  | zero =>
    intro i I' hi hI
    have e0 : i = nl := by omega
    subst e0
    refine at_iload_n dX1_findDoubles_12 rfl ?_
    refine at_aload_n dX1_findDoubles_13 rfl ?_
    refine at_geti flX1_47 rfl sd_18 dX1_findDoubles_14 ?_
    rw [hI.1 18 (by decide) (by decide), hw.1]
    refine at_icmpge (tgt := 118) dX1_findDoubles_17 (by decide) (fun c17 => ?_) (fun c17 => ?_)
    · -- taken 17
      refine at_vret rfl dX1_findDoubles_118 ?_
      exact ⟨rfl, _, _, rfl, rfl, hI⟩
    · -- not taken 17
      exact absurd (nI_le (Nat.le_refl _) (by omega)) c17
  | succ k ih =>
    intro i I' hi hI
    have hin : vp_in (nI i) 40 := vp_in_nI (by omega) (by decide)
    have hcl : (nI i).toNatClampNeg = i := nI_clamp (by omega)
    have hhow : I' 20 i = rH r nv e i := by rw [hI.2.1 i (by omega), if_neg (by omega)]
    obtain ⟨s0, hs0n, hs0⟩ := hr.2.2.2.2.2.1 i (by omega)
    have hs0c : (rSh r i).toNatClampNeg = s0 := by rw [hs0]; exact nI_clamp (by omega)
    have hbl : bsum (rK r nv nl e 0) ns < 2 ^ 31 := Nat.lt_of_lt_of_le (bsum_lt _ _) (Nat.pow_le_pow_right (by decide) (by omega))
    have hbit : (bsum (rK r nv nl e 0) ns).testBit s0 = rK r nv nl e 0 s0 := by rw [bsum_bit]; simp [hs0n]
    have hgo : ∀ (I3 : Nat → Nat → Int32) (sn : Nat), sn = dSeen r nv nl e (i + 1) → DInv I I3 r nv nl e (i + 1) → pd_At G mi_X1_findDoubles 2 0 0 0 0 12 [some (.ref (pd_z G + 18)), some (.int (nI sn)), some (.int (nI (i + 1))), none, none] [] (SD, false, I3, L, R) (pd_re R fun I2 L2 => L2 = L ∧ DInv I I2 r nv nl e nl) := fun I3 sn hsn h3 => by rw [hsn]; exact ih (i + 1) I3 (by omega) h3
    by_cases h0 : rH r nv e i = 0
    · have hwn : ¬ rW r nv i = -1 := fun h => by rw [rH, if_pos h] at h0; exact absurd h0 (by decide)
      obtain ⟨w, hwv, hww⟩ := (rW_is r nv i).resolve_left hwn
      have hwl : I' 19 i = nI w := by rw [hI.1 19 (by decide) (by decide), hw.2.1 i (by omega), hww]
      have hsl : I' 24 i = nI s0 := by rw [hI.1 24 (by decide) (by decide), hw.2.2 i (by omega), hs0]
      have hsin : vp_in (nI s0) 8 := vp_in_nI (by omega) (by decide)
      have hs0cl : (nI s0).toNatClampNeg = s0 := nI_clamp (by omega)
      have hok : rOk r nv nl e 0 i = !rK r nv nl e 0 s0 := by simp [rOk, h0, hs0c]
      have hsb := dSeen_bit (r := r) (nv := nv) (nl := nl) (e := e) (i := i) (w := w) (by omega) hww
      refine at_iload_n dX1_findDoubles_12 rfl ?_
      refine at_aload_n dX1_findDoubles_13 rfl ?_
      refine at_geti flX1_47 rfl sd_18 dX1_findDoubles_14 ?_
      rw [hI.1 18 (by decide) (by decide), hw.1]
      refine at_icmpge (tgt := 118) dX1_findDoubles_17 (by decide) (fun c17 => ?_) (fun c17 => ?_)
      · -- taken 17
        exact absurd c17 (nI_ge (by omega) (by omega))
      · -- not taken 17
        refine at_aload_n dX1_findDoubles_20 rfl ?_
        refine at_getr (20) flX1_15 rfl sd_18 (rs_18_1 hR) dX1_findDoubles_21 ?_
        refine at_iload_n dX1_findDoubles_24 rfl ?_
        refine at_iald sd_20 (hin) dX1_findDoubles_25 ?_
        rw [hcl, hhow]
        refine at_ifne (tgt := 112) dX1_findDoubles_26 (by decide) (fun c26 => ?_) (fun c26 => ?_)
        · -- taken 26
          exact absurd h0 c26
        · -- not taken 26
          refine at_aload_n dX1_findDoubles_29 rfl ?_
          refine at_getr (24) flX1_29 rfl sd_18 (rs_18_6 hR) dX1_findDoubles_30 ?_
          refine at_iload_n dX1_findDoubles_33 rfl ?_
          refine at_iald sd_24 (hin) dX1_findDoubles_34 ?_
          rw [hcl, hsl]
          refine at_istore_n dX1_findDoubles_35 rfl (Nat.le_of_ble_eq_true rfl) ?_
          refine at_iconst dX1_findDoubles_36 pc_i1 ?_
          refine at_aload_n dX1_findDoubles_37 rfl ?_
          refine at_getr (19) flX1_9 rfl sd_18 (rs_18_0 hR) dX1_findDoubles_38 ?_
          refine at_iload_n dX1_findDoubles_41 rfl ?_
          refine at_iald sd_19 (hin) dX1_findDoubles_42 ?_
          rw [hcl, hwl]
          refine at_ishl dX1_findDoubles_43 ?_
          rw [i_sh1 w (by omega)]
          refine at_istore dX1_findDoubles_44 rfl (Nat.le_of_ble_eq_true rfl) ?_
          refine at_aload_n dX1_findDoubles_46 rfl ?_
          refine at_geti flX1_110 rfl sd_18 dX1_findDoubles_47 ?_
          rw [hI.1 18 (by decide) (by decide), hk]
          refine at_iload_n dX1_findDoubles_50 rfl ?_
          refine at_ishr dX1_findDoubles_51 ?_
          refine at_iconst dX1_findDoubles_52 pc_i1 ?_
          refine at_iand dX1_findDoubles_53 ?_
          rw [i_tb hbl (by omega), hbit]
          refine at_iconst dX1_findDoubles_54 pc_i1 ?_
          refine at_icmpne (tgt := 68) dX1_findDoubles_55 (by decide) (fun c55 => ?_) (fun c55 => ?_)
          · -- taken 55
            have hkk : rK r nv nl e 0 s0 = false := by simpa [i_of] using c55
            rw [hkk] at hok
            have hseen := dSeen_yes (r := r) (nl := nl) (e := e) hok hww (by omega)
            have hfin := fun (x : Int32) (hx : x = rJ r nv nl e 0 i) => hI.yes (x := x) hok hx hww (by omega) hs0 (by omega)
            refine at_iload_n dX1_findDoubles_68 rfl ?_
            refine at_iflt (tgt := 112) dX1_findDoubles_69 (by decide) (fun c69 => ?_) (fun c69 => ?_)
            · -- taken 69
              exact absurd c69 (nI_nlt (a := s0) (b := 0) (Nat.zero_le _) (by omega))
            · -- not taken 69
              refine at_iload_n dX1_findDoubles_72 rfl ?_
              refine at_bipush dX1_findDoubles_73 pc_b8 ?_
              refine at_icmpge (tgt := 112) dX1_findDoubles_75 (by decide) (fun c75 => ?_) (fun c75 => ?_)
              · -- taken 75
                exact absurd c75 (nI_ge (b := 8) (by omega) (by decide))
              · -- not taken 75
                refine at_aload_n dX1_findDoubles_78 rfl ?_
                refine at_getr (20) flX1_15 rfl sd_18 (rs_18_1 hR) dX1_findDoubles_79 ?_
                refine at_iload_n dX1_findDoubles_82 rfl ?_
                refine at_iload_n dX1_findDoubles_83 rfl ?_
                refine at_iload dX1_findDoubles_84 rfl ?_
                refine at_iand dX1_findDoubles_86 ?_
                refine at_ifne (tgt := 94) dX1_findDoubles_87 (by decide) (fun c87 => ?_) (fun c87 => ?_)
                · -- taken 87
                  rw [fa_bit (by omega), hsb] at c87
                  refine at_iconst dX1_findDoubles_94 pc_i5 ?_
                  refine at_iast sd_20 (hin) dX1_findDoubles_95 ?_
                  refine at_iload_n dX1_findDoubles_96 rfl ?_
                  refine at_iload dX1_findDoubles_97 rfl ?_
                  refine at_ior dX1_findDoubles_99 ?_
                  rw [fa_or]
                  refine at_istore_n dX1_findDoubles_100 rfl (Nat.le_of_ble_eq_true rfl) ?_
                  refine at_aload_n dX1_findDoubles_101 rfl ?_
                  refine at_getr (22) flX1_21 rfl sd_18 (rs_18_4 hR) dX1_findDoubles_102 ?_
                  refine at_iload_n dX1_findDoubles_105 rfl ?_
                  refine at_dup2 dX1_findDoubles_106 rfl rfl ?_
                  refine at_iald sd_22 (hsin) dX1_findDoubles_107 ?_
                  rw [hs0cl, pd_up_nb (by decide), hI.2.2 s0 (by omega)]
                  refine at_iload dX1_findDoubles_108 rfl ?_
                  refine at_ior dX1_findDoubles_110 ?_
                  rw [fa_or]
                  refine at_iast sd_22 (hsin) dX1_findDoubles_111 ?_
                  refine at_inc dX1_findDoubles_112 rfl pc_i1 rfl (Nat.le_of_ble_eq_true rfl) ?_
                  refine at_goto (tgt := 12) dX1_findDoubles_115 (by decide) ?_
                  refine at_drop 3 (at_drop 4 ?_)
                  rw [nI_1]
                  simp only [hcl, hs0cl]
                  refine hgo _ _ hseen.symm (hfin _ ?_)
                  rw [rJ, if_neg (fun q => q h0), hs0c]
                  first | rw [if_pos hkk] | (rw [if_neg (by rw [hkk]; decide)]; first | rw [if_pos (Nat.pos_of_ne_zero (by simpa using c87))] | rw [if_neg (by simp at c87; omega)])
                · -- not taken 87
                  rw [fa_bit (by omega), hsb] at c87
                  refine at_iconst dX1_findDoubles_90 pc_i0 ?_
                  refine at_goto (tgt := 95) dX1_findDoubles_91 (by decide) ?_
                  refine at_iast sd_20 (hin) dX1_findDoubles_95 ?_
                  refine at_iload_n dX1_findDoubles_96 rfl ?_
                  refine at_iload dX1_findDoubles_97 rfl ?_
                  refine at_ior dX1_findDoubles_99 ?_
                  rw [fa_or]
                  refine at_istore_n dX1_findDoubles_100 rfl (Nat.le_of_ble_eq_true rfl) ?_
                  refine at_aload_n dX1_findDoubles_101 rfl ?_
                  refine at_getr (22) flX1_21 rfl sd_18 (rs_18_4 hR) dX1_findDoubles_102 ?_
                  refine at_iload_n dX1_findDoubles_105 rfl ?_
                  refine at_dup2 dX1_findDoubles_106 rfl rfl ?_
                  refine at_iald sd_22 (hsin) dX1_findDoubles_107 ?_
                  rw [hs0cl, pd_up_nb (by decide), hI.2.2 s0 (by omega)]
                  refine at_iload dX1_findDoubles_108 rfl ?_
                  refine at_ior dX1_findDoubles_110 ?_
                  rw [fa_or]
                  refine at_iast sd_22 (hsin) dX1_findDoubles_111 ?_
                  refine at_inc dX1_findDoubles_112 rfl pc_i1 rfl (Nat.le_of_ble_eq_true rfl) ?_
                  refine at_goto (tgt := 12) dX1_findDoubles_115 (by decide) ?_
                  refine at_drop 3 (at_drop 4 ?_)
                  rw [nI_1]
                  simp only [hcl, hs0cl]
                  refine hgo _ _ hseen.symm (hfin _ ?_)
                  rw [rJ, if_neg (fun q => q h0), hs0c]
                  first | rw [if_pos hkk] | (rw [if_neg (by rw [hkk]; decide)]; first | rw [if_pos (Nat.pos_of_ne_zero (by simpa using c87))] | rw [if_neg (by simp at c87; omega)])
          · -- not taken 55
            have hkk : rK r nv nl e 0 s0 = true := by simpa [i_of] using c55
            rw [hkk] at hok
            have hseen := dSeen_no (r := r) (nv := nv) (nl := nl) (e := e) (i := i) hok
            have hfin := fun (x : Int32) (hx : x = rJ r nv nl e 0 i) => hI.no (x := x) hok hx
            refine at_aload_n dX1_findDoubles_58 rfl ?_
            refine at_getr (20) flX1_15 rfl sd_18 (rs_18_1 hR) dX1_findDoubles_59 ?_
            refine at_iload_n dX1_findDoubles_62 rfl ?_
            refine at_iconst dX1_findDoubles_63 pc_i4 ?_
            refine at_iast sd_20 (hin) dX1_findDoubles_64 ?_
            refine at_goto (tgt := 112) dX1_findDoubles_65 (by decide) ?_
            refine at_inc dX1_findDoubles_112 rfl pc_i1 rfl (Nat.le_of_ble_eq_true rfl) ?_
            refine at_goto (tgt := 12) dX1_findDoubles_115 (by decide) ?_
            refine at_drop 3 (at_drop 4 ?_)
            rw [nI_1]
            simp only [hcl, hs0cl]
            refine hgo _ _ hseen.symm (hfin _ ?_)
            rw [rJ, if_neg (fun q => q h0), hs0c]
            first | rw [if_pos hkk] | (rw [if_neg (by rw [hkk]; decide)]; first | rw [if_pos (Nat.pos_of_ne_zero (by simpa using c87))] | rw [if_neg (by simp at c87; omega)])
    · have hok : rOk r nv nl e 0 i = false := by simp [rOk, h0]
      have hseen := dSeen_no (r := r) (nv := nv) (nl := nl) (e := e) (i := i) hok
      have h := ih (i + 1) I' (by omega) (hI.keep (by omega) h0)
      rw [hseen] at h
      refine at_iload_n dX1_findDoubles_12 rfl ?_
      refine at_aload_n dX1_findDoubles_13 rfl ?_
      refine at_geti flX1_47 rfl sd_18 dX1_findDoubles_14 ?_
      rw [hI.1 18 (by decide) (by decide), hw.1]
      refine at_icmpge (tgt := 118) dX1_findDoubles_17 (by decide) (fun c17 => ?_) (fun c17 => ?_)
      · -- taken 17
        exact absurd c17 (nI_ge (by omega) (by omega))
      · -- not taken 17
        refine at_aload_n dX1_findDoubles_20 rfl ?_
        refine at_getr (20) flX1_15 rfl sd_18 (rs_18_1 hR) dX1_findDoubles_21 ?_
        refine at_iload_n dX1_findDoubles_24 rfl ?_
        refine at_iald sd_20 (hin) dX1_findDoubles_25 ?_
        rw [hcl, hhow]
        refine at_ifne (tgt := 112) dX1_findDoubles_26 (by decide) (fun c26 => ?_) (fun c26 => ?_)
        · -- taken 26
          refine at_inc dX1_findDoubles_112 rfl pc_i1 rfl (Nat.le_of_ble_eq_true rfl) ?_
          refine at_goto (tgt := 12) dX1_findDoubles_115 (by decide) ?_
          rw [nI_1]; exact h
        · -- not taken 26
          exact absurd c26 h0
end JUD3
