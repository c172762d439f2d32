/-! ===== the rule: steps, their meaning, the class's reading of them ===== -/
abbrev rl_S : Type := Nat × Nat × Nat
/-- an operand: below 1000 itself, from 1000 on a fact -/
def rl_v (f : Nat → Int32) (o : Nat) : Int32 := if 1000 ≤ o ∧ o < 1006 then f (o - 1000) else nI o
def rl_c (f : Nat → Int32) (q : rl_S) : Bool := if q.1 = 0 then decide (rl_v f q.2.1 < rl_v f q.2.2) else if q.1 = 1 then decide (rl_v f q.2.1 = rl_v f q.2.2) else decide (rl_v f q.2.2 < rl_v f q.2.1)
/-- one step over the stack: 0, 1, 2 compare, 3 not, 4 and, 5 or -/
def rl_st (f : Nat → Int32) (q : rl_S) (s : List Bool) : List Bool :=
  if q.1 < 3 then rl_c f q :: s
  else if q.1 = 3 then (match s with | b :: t => (!b) :: t | [] => [])
  else if q.1 = 4 then (match s with | b :: a :: t => (a && b) :: t | _ => [])
  else (match s with | b :: a :: t => (a || b) :: t | _ => [])
def rl_ev (f : Nat → Int32) : List rl_S → List Bool → List Bool
  | [], s => s
  | q :: e, s => rl_ev f e (rl_st f q s)
/-- the depths: never below what a step takes, never over 30 -/
def rl_ok : List rl_S → Nat → Prop
  | [], d => d = 1
  | q :: e, d => q.1 < 6 ∧ (if q.1 < 3 then q.2.1 < 1006 ∧ q.2.2 < 1006 ∧ d < 30 ∧ rl_ok e (d + 1) else if q.1 = 3 then 1 ≤ d ∧ rl_ok e d else 2 ≤ d ∧ rl_ok e (d - 1))
def rl_good (f : Nat → Int32) (e : List rl_S) : Bool := if e = [] then true else (rl_ev f e []).headD false
def rl_32 (q : rl_S) : Int32 := if q.1 < 3 then nI (q.1 * 4194304 + q.2.1 * 2048 + q.2.2) else if q.1 = 3 then -1 else if q.1 = 4 then -2 else -3
def i_of (b : Bool) : Int32 := if b then 1 else 0
theorem ev_X4_valueOf {G : pd_G} {I L R} {o : Nat} (ho : o < 2048) : pd_Ev G mi_X4_valueOf 1 0 0 [.int (nI o), .ref (pd_z G + 23)] (SD, false, I, L, R) (pd_rt (.int (rl_v (I 23) o)) (SD, false, I, L, R)) := by
  refine pd_ev 1 (lo := [some (.int (nI o)), some (.ref (pd_z G + 23)), none]) (by decide +kernel) (Nat.le_of_ble_eq_true rfl) rfl ?_
  by_cases h : 1000 ≤ o
  · have e : nI o - 1000 = nI (o - 1000) := pk_sub (b := 1000) h
    refine at_iload_n dX4_valueOf_0 rfl ?_
    refine at_sipush dX4_valueOf_1 pc_s1000 ?_
    refine at_isub dX4_valueOf_4 ?_
    rw [e]
    refine at_istore_n dX4_valueOf_5 rfl (Nat.le_of_ble_eq_true rfl) ?_
    refine at_iload_n dX4_valueOf_6 rfl ?_
    refine at_iflt (tgt := 22) dX4_valueOf_7 (by decide) (fun c7 => ?_) (fun c7 => ?_)
    · -- taken 7
      exact absurd c7 (nI_pos (by omega))
    · -- not taken 7
      refine at_iload_n dX4_valueOf_10 rfl ?_
      refine at_aload_n dX4_valueOf_11 rfl ?_
      refine at_alen sd_23 ⟨by decide, by decide⟩ rfl dX4_valueOf_12 ?_
      refine at_icmpge (tgt := 22) dX4_valueOf_13 (by decide) (fun c13 => ?_) (fun c13 => ?_)
      · -- taken 13
        rw [show Int32.ofNat 6 = nI 6 from rfl, nI_leI (by omega) (by omega)] at c13
        refine at_iload_n dX4_valueOf_22 rfl ?_
        refine at_iret rfl dX4_valueOf_23 ?_
        first | exact ⟨by rw [rl_v, if_neg (by omega)], rfl⟩ | exact ⟨by rw [rl_v, if_pos ⟨h, by omega⟩], rfl⟩
      · -- not taken 13
        rw [show Int32.ofNat 6 = nI 6 from rfl, nI_leI (by omega) (by omega)] at c13
        refine at_aload_n dX4_valueOf_16 rfl ?_
        refine at_iload_n dX4_valueOf_17 rfl ?_
        refine at_iald sd_23 (vp_in_nI (by omega) (by decide)) dX4_valueOf_18 ?_
        rw [nI_clamp (by omega)]
        refine at_goto (tgt := 23) dX4_valueOf_19 (by decide) ?_
        refine at_iret rfl dX4_valueOf_23 ?_
        first | exact ⟨by rw [rl_v, if_neg (by omega)], rfl⟩ | exact ⟨by rw [rl_v, if_pos ⟨h, by omega⟩], rfl⟩
  · have e : nI o - 1000 < 0 := pk_sneg (b := 1000) (by decide) (by omega)
    refine at_iload_n dX4_valueOf_0 rfl ?_
    refine at_sipush dX4_valueOf_1 pc_s1000 ?_
    refine at_isub dX4_valueOf_4 ?_
    refine at_istore_n dX4_valueOf_5 rfl (Nat.le_of_ble_eq_true rfl) ?_
    refine at_iload_n dX4_valueOf_6 rfl ?_
    refine at_iflt (tgt := 22) dX4_valueOf_7 (by decide) (fun c7 => ?_) (fun c7 => ?_)
    · -- taken 7
      refine at_iload_n dX4_valueOf_22 rfl ?_
      refine at_iret rfl dX4_valueOf_23 ?_
      exact ⟨by rw [rl_v, if_neg (by omega)], rfl⟩
    · -- not taken 7
      exact absurd e c7
theorem rl_32a {q : rl_S} (h : q.1 < 3) (ha : q.2.1 < 2048) (hb : q.2.2 < 2048) : (rl_32 q >>> ((11 : Int32) &&& 31)) &&& 2047 = nI q.2.1 ∧ rl_32 q &&& 2047 = nI q.2.2 ∧ rl_32 q >>> ((22 : Int32) &&& 31) = nI q.1 := by
  unfold rl_32
  rw [if_pos h]
  refine ⟨?_, ?_, ?_⟩
  · rw [pk_shrN (by omega) _ 11 (by decide), pk_andN (by omega) 11 (by decide)]
    congr 1
    omega
  · rw [pk_andN (by omega) 11 (by decide)]
    congr 1
    omega
  · rw [pk_shrN (by omega) _ 22 (by decide)]
    congr 1
    omega
theorem ev_X4_compares {G : pd_G} {I L R} {q : rl_S} (h : q.1 < 3) (ha : q.2.1 < 2048) (hb : q.2.2 < 2048) : pd_Ev G mi_X4_compares 2 0 0 [.int (rl_32 q), .ref (pd_z G + 23)] (SD, false, I, L, R) (pd_rt (.int (i_of (rl_c (I 23) q))) (SD, false, I, L, R)) := by
  obtain ⟨e1, e2, e3⟩ := rl_32a h ha hb
  refine pd_ev 3 (lo := [some (.int (rl_32 q)), some (.ref (pd_z G + 23)), none, none, none]) (by decide +kernel) (Nat.le_of_ble_eq_true rfl) rfl ?_
  rcases (show q.1 = 0 ∨ q.1 = 1 ∨ q.1 = 2 by omega) with h0 | h0 | h0
  · refine at_iload_n dX4_compares_0 rfl ?_
    refine at_bipush dX4_compares_1 pc_b11 ?_
    refine at_ishr dX4_compares_3 ?_
    refine at_sipush dX4_compares_4 pc_s2047 ?_
    refine at_iand dX4_compares_7 ?_
    refine at_aload_n dX4_compares_8 rfl ?_
    rw [e1]
    refine at_cs2 csX4_35 (ev_X4_valueOf ha) (by decide) ⟨Nat.le_refl _, Nat.le_refl _⟩ (Nat.le_of_ble_eq_true rfl) dX4_compares_9 (pd_k1 ?_)
    refine at_istore_n dX4_compares_12 rfl (Nat.le_of_ble_eq_true rfl) ?_
    refine at_iload_n dX4_compares_13 rfl ?_
    refine at_sipush dX4_compares_14 pc_s2047 ?_
    refine at_iand dX4_compares_17 ?_
    refine at_aload_n dX4_compares_18 rfl ?_
    rw [e2]
    refine at_cs2 csX4_35 (ev_X4_valueOf hb) (by decide) ⟨Nat.le_refl _, Nat.le_refl _⟩ (Nat.le_of_ble_eq_true rfl) dX4_compares_19 (pd_k1 ?_)
    refine at_istore_n dX4_compares_22 rfl (Nat.le_of_ble_eq_true rfl) ?_
    refine at_iload_n dX4_compares_23 rfl ?_
    refine at_bipush dX4_compares_24 pc_b22 ?_
    refine at_ishr dX4_compares_26 ?_
    rw [e3, h0]
    refine at_iconst dX4_compares_27 pc_i1 ?_
    refine at_isub dX4_compares_28 ?_
    refine at_istore dX4_compares_29 rfl (Nat.le_of_ble_eq_true rfl) ?_
    refine at_iload dX4_compares_31 rfl ?_
    refine at_ifne (tgt := 47) dX4_compares_33 (by decide) (fun c33 => ?_) (fun c33 => ?_)
    · -- taken 33
      refine at_iload dX4_compares_47 rfl ?_
      refine at_ifge (tgt := 65) dX4_compares_49 (by decide) (fun c49 => ?_) (fun c49 => ?_)
      · -- taken 49
        exact absurd c49 (by decide)
      · -- not taken 49
        refine at_iload_n dX4_compares_52 rfl ?_
        refine at_iload_n dX4_compares_53 rfl ?_
        refine at_icmpge (tgt := 61) dX4_compares_54 (by decide) (fun c54 => ?_) (fun c54 => ?_)
        · -- taken 54
          refine at_iconst dX4_compares_61 pc_i0 ?_
          refine at_goto (tgt := 75) dX4_compares_62 (by decide) ?_
          refine at_zret rfl dX4_compares_75 (by first | exact Or.inl rfl | exact Or.inr rfl | assumption) ?_
          first | exact ⟨by rw [rl_c, if_pos h0, decide_eq_false (Int32.not_lt.mpr c54)]; rfl, rfl⟩ | exact ⟨by rw [rl_c, if_pos h0, decide_eq_true (Int32.not_le.mp c54)]; rfl, rfl⟩
        · -- not taken 54
          refine at_iconst dX4_compares_57 pc_i1 ?_
          refine at_goto (tgt := 75) dX4_compares_58 (by decide) ?_
          refine at_zret rfl dX4_compares_75 (by first | exact Or.inl rfl | exact Or.inr rfl | assumption) ?_
          first | exact ⟨by rw [rl_c, if_pos h0, decide_eq_false (Int32.not_lt.mpr c54)]; rfl, rfl⟩ | exact ⟨by rw [rl_c, if_pos h0, decide_eq_true (Int32.not_le.mp c54)]; rfl, rfl⟩
    · -- not taken 33
      exact absurd c33 (by decide)
  · refine at_iload_n dX4_compares_0 rfl ?_
    refine at_bipush dX4_compares_1 pc_b11 ?_
    refine at_ishr dX4_compares_3 ?_
    refine at_sipush dX4_compares_4 pc_s2047 ?_
    refine at_iand dX4_compares_7 ?_
    refine at_aload_n dX4_compares_8 rfl ?_
    rw [e1]
    refine at_cs2 csX4_35 (ev_X4_valueOf ha) (by decide) ⟨Nat.le_refl _, Nat.le_refl _⟩ (Nat.le_of_ble_eq_true rfl) dX4_compares_9 (pd_k1 ?_)
    refine at_istore_n dX4_compares_12 rfl (Nat.le_of_ble_eq_true rfl) ?_
    refine at_iload_n dX4_compares_13 rfl ?_
    refine at_sipush dX4_compares_14 pc_s2047 ?_
    refine at_iand dX4_compares_17 ?_
    refine at_aload_n dX4_compares_18 rfl ?_
    rw [e2]
    refine at_cs2 csX4_35 (ev_X4_valueOf hb) (by decide) ⟨Nat.le_refl _, Nat.le_refl _⟩ (Nat.le_of_ble_eq_true rfl) dX4_compares_19 (pd_k1 ?_)
    refine at_istore_n dX4_compares_22 rfl (Nat.le_of_ble_eq_true rfl) ?_
    refine at_iload_n dX4_compares_23 rfl ?_
    refine at_bipush dX4_compares_24 pc_b22 ?_
    refine at_ishr dX4_compares_26 ?_
    rw [e3, h0]
    refine at_iconst dX4_compares_27 pc_i1 ?_
    refine at_isub dX4_compares_28 ?_
    refine at_istore dX4_compares_29 rfl (Nat.le_of_ble_eq_true rfl) ?_
    refine at_iload dX4_compares_31 rfl ?_
    refine at_ifne (tgt := 47) dX4_compares_33 (by decide) (fun c33 => ?_) (fun c33 => ?_)
    · -- taken 33
      exact absurd (by decide) c33
    · -- not taken 33
      refine at_iload_n dX4_compares_36 rfl ?_
      refine at_iload_n dX4_compares_37 rfl ?_
      refine at_icmpne (tgt := 45) dX4_compares_38 (by decide) (fun c38 => ?_) (fun c38 => ?_)
      · -- taken 38
        refine at_iconst dX4_compares_45 pc_i0 ?_
        refine at_zret rfl dX4_compares_46 (by first | exact Or.inl rfl | exact Or.inr rfl | assumption) ?_
        first | exact ⟨by rw [rl_c, if_neg (by omega), if_pos h0, decide_eq_true c38]; rfl, rfl⟩ | exact ⟨by rw [rl_c, if_neg (by omega), if_pos h0, decide_eq_false c38]; rfl, rfl⟩
      · -- not taken 38
        refine at_iconst dX4_compares_41 pc_i1 ?_
        refine at_goto (tgt := 46) dX4_compares_42 (by decide) ?_
        refine at_zret rfl dX4_compares_46 (by first | exact Or.inl rfl | exact Or.inr rfl | assumption) ?_
        first | exact ⟨by rw [rl_c, if_neg (by omega), if_pos h0, decide_eq_true c38]; rfl, rfl⟩ | exact ⟨by rw [rl_c, if_neg (by omega), if_pos h0, decide_eq_false c38]; rfl, rfl⟩
  · refine at_iload_n dX4_compares_0 rfl ?_
    refine at_bipush dX4_compares_1 pc_b11 ?_
    refine at_ishr dX4_compares_3 ?_
    refine at_sipush dX4_compares_4 pc_s2047 ?_
    refine at_iand dX4_compares_7 ?_
    refine at_aload_n dX4_compares_8 rfl ?_
    rw [e1]
    refine at_cs2 csX4_35 (ev_X4_valueOf ha) (by decide) ⟨Nat.le_refl _, Nat.le_refl _⟩ (Nat.le_of_ble_eq_true rfl) dX4_compares_9 (pd_k1 ?_)
    refine at_istore_n dX4_compares_12 rfl (Nat.le_of_ble_eq_true rfl) ?_
    refine at_iload_n dX4_compares_13 rfl ?_
    refine at_sipush dX4_compares_14 pc_s2047 ?_
    refine at_iand dX4_compares_17 ?_
    refine at_aload_n dX4_compares_18 rfl ?_
    rw [e2]
    refine at_cs2 csX4_35 (ev_X4_valueOf hb) (by decide) ⟨Nat.le_refl _, Nat.le_refl _⟩ (Nat.le_of_ble_eq_true rfl) dX4_compares_19 (pd_k1 ?_)
    refine at_istore_n dX4_compares_22 rfl (Nat.le_of_ble_eq_true rfl) ?_
    refine at_iload_n dX4_compares_23 rfl ?_
    refine at_bipush dX4_compares_24 pc_b22 ?_
    refine at_ishr dX4_compares_26 ?_
    rw [e3, h0]
    refine at_iconst dX4_compares_27 pc_i1 ?_
    refine at_isub dX4_compares_28 ?_
    refine at_istore dX4_compares_29 rfl (Nat.le_of_ble_eq_true rfl) ?_
    refine at_iload dX4_compares_31 rfl ?_
    refine at_ifne (tgt := 47) dX4_compares_33 (by decide) (fun c33 => ?_) (fun c33 => ?_)
    · -- taken 33
      refine at_iload dX4_compares_47 rfl ?_
      refine at_ifge (tgt := 65) dX4_compares_49 (by decide) (fun c49 => ?_) (fun c49 => ?_)
      · -- taken 49
        refine at_iload_n dX4_compares_65 rfl ?_
        refine at_iload_n dX4_compares_66 rfl ?_
        refine at_icmple (tgt := 74) dX4_compares_67 (by decide) (fun c67 => ?_) (fun c67 => ?_)
        · -- taken 67
          refine at_iconst dX4_compares_74 pc_i0 ?_
          refine at_zret rfl dX4_compares_75 (by first | exact Or.inl rfl | exact Or.inr rfl | assumption) ?_
          first | exact ⟨by rw [rl_c, if_neg (by omega), if_neg (by omega), decide_eq_false (Int32.not_lt.mpr c67)]; rfl, rfl⟩ | exact ⟨by rw [rl_c, if_neg (by omega), if_neg (by omega), decide_eq_true (Int32.not_le.mp c67)]; rfl, rfl⟩
        · -- not taken 67
          refine at_iconst dX4_compares_70 pc_i1 ?_
          refine at_goto (tgt := 75) dX4_compares_71 (by decide) ?_
          refine at_zret rfl dX4_compares_75 (by first | exact Or.inl rfl | exact Or.inr rfl | assumption) ?_
          first | exact ⟨by rw [rl_c, if_neg (by omega), if_neg (by omega), decide_eq_false (Int32.not_lt.mpr c67)]; rfl, rfl⟩ | exact ⟨by rw [rl_c, if_neg (by omega), if_neg (by omega), decide_eq_true (Int32.not_le.mp c67)]; rfl, rfl⟩
      · -- not taken 49
        exact absurd (by decide) c49
    · -- not taken 33
      exact absurd c33 (by decide)
/-- the stack in the bits of a number, the latest lowest -/
def rl_n : List Bool → Nat
  | [] => 0
  | b :: s => (if b then 1 else 0) + 2 * rl_n s
theorem rl_n_lt : ∀ s : List Bool, rl_n s < 2 ^ s.length
  | [] => by decide
  | b :: s => by
    have := rl_n_lt s
    rw [rl_n, List.length_cons, Nat.pow_succ]
    split <;> omega
theorem bt_0 (b : Bool) (m : Nat) : ((if b then 1 else 0) + 2 * m).testBit 0 = b := by
  cases b
  · simp [Nat.testBit_zero]
  · simp [Nat.testBit_zero]
theorem bt_s (b : Bool) (m i : Nat) : ((if b then 1 else 0) + 2 * m).testBit (i + 1) = m.testBit i := by
  rw [Nat.testBit_succ]
  congr 1
  split <;> omega
theorem bt_ext {b c : Bool} {m n x : Nat} (h0 : x.testBit 0 = c) (hs : ∀ i, x.testBit (i + 1) = n.testBit i) : x = (if c then 1 else 0) + 2 * n := by
  apply Nat.eq_of_testBit_eq
  intro i
  cases i with
  | zero => rw [h0, bt_0]
  | succ i => rw [hs i, bt_s]
theorem bt_one (i : Nat) : (1 : Nat).testBit (i + 1) = false := by rw [Nat.testBit_succ]; simp
theorem rl_not {b : Bool} {s : List Bool} : lN (rl_n (b :: s)) ^^^ 1 = lN (rl_n ((!b) :: s)) := by
  rw [show (1 : Int64) = lN 1 from rfl, fb_xorL]
  congr 1
  refine bt_ext (b := b) (m := 0) ?_ (fun i => ?_)
  · rw [Nat.testBit_xor, rl_n, bt_0]; simp
  · rw [Nat.testBit_xor, rl_n, bt_s, bt_one]; simp
theorem rl_shr {b : Bool} {s : List Bool} (h : (b :: s).length ≤ 31) : ((lN (rl_n (b :: s))).toUInt64 >>> ((1 : Int32).toInt64.toUInt64 &&& Int64.toUInt64 63)).toInt64 = lN (rl_n s) := by
  have h1 := rl_n_lt (b :: s)
  have h2 : 2 ^ (b :: s).length ≤ 2 ^ 31 := Nat.pow_le_pow_right (by decide) h
  rw [g_ushr (k := 1) (p := 2) (by decide) (by decide) (by decide) (by omega)]
  congr 1
  rw [rl_n]
  split <;> omega
theorem rl_lo {b : Bool} {s : List Bool} : lN (rl_n (b :: s)) &&& 1 = lN (if b then 1 else 0) := by
  rw [show (1 : Int64) = lN 1 from rfl, fb_andL]
  congr 1
  refine (bt_ext (b := b) (m := 0) (n := 0) (c := b) ?_ (fun i => ?_)).trans (by simp)
  · rw [Nat.testBit_and, rl_n, bt_0]; simp
  · rw [Nat.testBit_and, rl_n, bt_s, bt_one]; simp
theorem rl_or {a b : Bool} {s : List Bool} : lN (rl_n (a :: s)) ||| lN (if b then 1 else 0) = lN (rl_n ((a || b) :: s)) := by
  rw [fb_orL]
  congr 1
  refine bt_ext (b := b) (m := 0) ?_ (fun i => ?_)
  · rw [Nat.testBit_or, rl_n, bt_0]; cases b <;> simp
  · rw [Nat.testBit_or, rl_n, bt_s]; cases b <;> simp [bt_one]
theorem rl_and {a b : Bool} {s : List Bool} : lN (rl_n (a :: s)) &&& (lN (if b then 1 else 0) ||| (-2)) = lN (rl_n ((a && b) :: s)) := by
  cases b
  · rw [show lN (if false = true then 1 else 0) ||| (-2 : Int64) = -2 from by decide]
    apply Int64.toBitVec_inj.mp
    rw [Int64.toBitVec_and, lN_bv, lN_bv]
    apply BitVec.eq_of_getLsbD_eq
    intro i hi
    rw [BitVec.getLsbD_and, BitVec.getLsbD_ofNat, BitVec.getLsbD_ofNat, rl_n, rl_n]
    have hm : ∀ i < 64, (-2 : Int64).toBitVec.getLsbD i = decide (i ≠ 0) := by decide
    rw [hm i hi]
    cases i with
    | zero => rw [bt_0, bt_0]; simp
    | succ i => rw [bt_s, bt_s]; simp
  · rw [show lN (if true = true then 1 else 0) ||| (-2 : Int64) = -1 from by decide]
    have e : ∀ x : Int64, x &&& (-1) = x := fun x => by
      apply Int64.toBitVec_inj.mp
      rw [Int64.toBitVec_and, show (-1 : Int64).toBitVec = BitVec.allOnes 64 from by decide, BitVec.and_allOnes]
    rw [e, Bool.and_true]
theorem rl_push {b : Bool} {s : List Bool} (h : s.length ≤ 31) : lN (rl_n s) <<< ((1 : Int32).toInt64 &&& 63) ||| lN (if b then 1 else 0) = lN (rl_n (b :: s)) := by
  have h1 := rl_n_lt s
  have h2 : 2 ^ s.length ≤ 2 ^ 31 := Nat.pow_le_pow_right (by decide) h
  rw [g_shl (k := 1) (p := 2) (by decide) (by decide) (by decide) (by omega), fb_orL]
  congr 1
  have e : rl_n s * 2 = rl_n (false :: s) := by simp [rl_n]; omega
  rw [e]
  refine bt_ext (b := b) (m := 0) ?_ (fun i => ?_)
  · rw [Nat.testBit_or, rl_n, bt_0]; cases b <;> simp
  · rw [Nat.testBit_or, rl_n, bt_s]; cases b <;> simp [bt_one]
