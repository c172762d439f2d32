/-! ===== bitCount ===== -/
def bm (d : Nat) : Nat → Nat
  | 0 => 0
  | k + 1 => d + 256 * bm d k
theorem bm_s (d k : Nat) : bm d (k + 1) = d + 256 * bm d k := rfl
theorem and_split {a b c d : Nat} (hb : b < 256) (hd : d < 256) : (b + 256 * a) &&& (d + 256 * c) = (b &&& d) + 256 * (a &&& c) := by
  apply Nat.eq_of_testBit_eq
  intro i
  have e : ∀ x y : Nat, x < 256 → (x + 256 * y).testBit i = if i < 8 then x.testBit i else y.testBit (i - 8) := fun x y hx => by
    rw [Nat.add_comm, show 256 * y = 2 ^ 8 * y from rfl, Nat.testBit_two_pow_mul_add _ hx]
  rw [Nat.testBit_and, e b a hb, e d c hd, e (b &&& d) (a &&& c) (Nat.lt_of_le_of_lt Nat.and_le_left hb)]
  split <;> rw [Nat.testBit_and]
def bs1 (k x : Nat) : Nat := x - ((x / 2) &&& bm 85 k)
def bs2 (k y : Nat) : Nat := (y &&& bm 51 k) + ((y / 4) &&& bm 51 k)
def bs3 (k z : Nat) : Nat := (z + z / 16) &&& bm 15 k
def pc8 (b : Nat) : Nat := fb_ct (fun i => b.testBit i) 8
def g1 (b : Nat) : Nat := b - (b / 2 &&& 85)
def g2 (c : Nat) : Nat := (c &&& 51) + (c / 4 &&& 51)
theorem bk1 : ∀ u, u < 2 → ∀ b, b < 256 → (b / 2 + 128 * u) &&& 85 = b / 2 &&& 85 := by decide +kernel
theorem bk2 : ∀ u, u < 4 → ∀ b, b < 256 → (b / 4 + 64 * u) &&& 51 = b / 4 &&& 51 := by decide +kernel
theorem bk3 : ∀ b, b < 256 → g2 (g1 b) % 16 ≤ 4 ∧ g2 (g1 b) ≤ 68 ∧ (g2 (g1 b) + g2 (g1 b) / 16) % 16 = pc8 b ∧ g1 b < 256 ∧ pc8 b ≤ 8 := by decide +kernel
theorem bs1_s (k x b : Nat) (hb : b < 256) : bs1 (k + 1) (b + 256 * x) = g1 b + 256 * bs1 k x := by
  unfold bs1 g1
  rw [bm_s, show (b + 256 * x) / 2 = (b / 2 + 128 * (x % 2)) + 256 * (x / 2) by omega, and_split (by omega) (by decide), bk1 (x % 2) (Nat.mod_lt _ (by decide)) b hb]
  have h1 : x / 2 &&& bm 85 k ≤ x / 2 := Nat.and_le_left
  have h2 : b / 2 &&& 85 ≤ b / 2 := Nat.and_le_left
  omega
theorem bs2_s (k y c : Nat) (hc : c < 256) : bs2 (k + 1) (c + 256 * y) = g2 c + 256 * bs2 k y := by
  unfold bs2 g2
  rw [bm_s, show (c + 256 * y) / 4 = (c / 4 + 64 * (y % 4)) + 256 * (y / 4) by omega, and_split hc (by decide), and_split (by omega) (by decide), bk2 (y % 4) (Nat.mod_lt _ (by decide)) c hc]
  omega
theorem and15 (t : Nat) : t &&& 15 = t % 16 := Nat.and_two_pow_sub_one_eq_mod t 4
theorem bs3_s (k z d : Nat) (hd : d ≤ 68) (hz : z % 16 ≤ 4) : bs3 (k + 1) (d + 256 * z) = (d + d / 16) % 16 + 256 * bs3 k z := by
  unfold bs3
  rw [bm_s, show d + 256 * z + (d + 256 * z) / 16 = (d + d / 16 + 16 * (z % 16)) + 256 * (z + z / 16) by omega, and_split (by omega) (by decide), and15]
  omega
def bp (k x : Nat) : Nat := match k with
  | 0 => 0
  | k + 1 => pc8 (x % 256) + 256 * bp k (x / 256)
theorem bs_all : ∀ k x, x < 256 ^ k → bs3 k (bs2 k (bs1 k x)) = bp k x ∧ bs2 k (bs1 k x) % 16 ≤ 4 ∧ bs1 k x ≤ x
  | 0, x, _ => by simp [bs3, bm, bp, bs2, bs1]
  | k + 1, x, h => by
    have e : x = x % 256 + 256 * (x / 256) := by omega
    have hb : x % 256 < 256 := Nat.mod_lt _ (by decide)
    obtain ⟨h1, h2, h3⟩ := bs_all k (x / 256) (by rw [Nat.pow_succ] at h; omega)
    obtain ⟨q1, q2, q3, q4, q5⟩ := bk3 (x % 256) hb
    have e1 : bs1 (k + 1) x = g1 (x % 256) + 256 * bs1 k (x / 256) := by
      conv => lhs; rw [e]
      exact bs1_s k _ _ hb
    have e2 : bs2 (k + 1) (bs1 (k + 1) x) = g2 (g1 (x % 256)) + 256 * bs2 k (bs1 k (x / 256)) := by rw [e1, bs2_s k _ _ q4]
    refine ⟨?_, ?_, ?_⟩
    · rw [e2, bs3_s k _ _ q2 h2, h1, q3, bp]
    · rw [e2, show 256 * bs2 k (bs1 k (x / 256)) = 16 * (16 * bs2 k (bs1 k (x / 256))) by omega, Nat.add_mul_mod_self_left]; exact q1
    · unfold bs1; exact Nat.sub_le _ _
theorem ct_bytes (x : Nat) : ∀ k, fb_ct (fun i => x.testBit i) (8 * (k + 1)) = pc8 (x % 256) + fb_ct (fun i => (x / 256).testBit i) (8 * k) := by
  intro k
  rw [show 8 * (k + 1) = 8 + 8 * k by omega, fb_ct_split]
  congr 1
  · unfold pc8
    refine fb_ct_cong (fun i hi => ?_)
    rw [show 256 = 2 ^ 8 from rfl, Nat.testBit_mod_two_pow]; simp [hi]
  · refine fb_ct_cong (fun i _ => ?_)
    rw [show 256 = 2 ^ 8 from rfl, Nat.testBit_div_two_pow]
    congr 1; omega
theorem pc8_le (b : Nat) (h : b < 256) : pc8 b ≤ 8 := (bk3 b h).2.2.2.2
theorem bp4 {x : Nat} (hx : x < 2 ^ 32) : (bp 4 x + bp 4 x / 256 + (bp 4 x + bp 4 x / 256) / 65536) % 64 = fb_ct (fun i => x.testBit i) 32 % 64 ∧ bp 4 x < 2 ^ 28 := by
  have h0 := pc8_le (x % 256) (Nat.mod_lt _ (by decide))
  have h1 := pc8_le (x / 256 % 256) (Nat.mod_lt _ (by decide))
  have h2 := pc8_le (x / 256 / 256 % 256) (Nat.mod_lt _ (by decide))
  have h3 := pc8_le (x / 256 / 256 / 256 % 256) (Nat.mod_lt _ (by decide))
  have e1 : fb_ct (fun i => x.testBit i) 32 = _ + fb_ct _ 24 := ct_bytes x 3
  have e2 : fb_ct (fun i => (x / 256).testBit i) 24 = _ + fb_ct _ 16 := ct_bytes (x / 256) 2
  have e3 : fb_ct (fun i => (x / 256 / 256).testBit i) 16 = _ + fb_ct _ 8 := ct_bytes (x / 256 / 256) 1
  have e4 : fb_ct (fun i => (x / 256 / 256 / 256).testBit i) 8 = _ + 0 := ct_bytes (x / 256 / 256 / 256) 0
  have eb : bp 4 x = pc8 (x % 256) + 256 * (pc8 (x / 256 % 256) + 256 * (pc8 (x / 256 / 256 % 256) + 256 * (pc8 (x / 256 / 256 / 256 % 256) + 256 * 0))) := rfl
  generalize pc8 (x % 256) = p0 at *
  generalize pc8 (x / 256 % 256) = p1 at *
  generalize pc8 (x / 256 / 256 % 256) = p2 at *
  generalize pc8 (x / 256 / 256 / 256 % 256) = p3 at *
  generalize bp 4 x = v at *
  generalize fb_ct (fun i => x.testBit i) 32 = t at *
  have v1 : v + v / 256 = (p0 + p1) + 256 * (p1 + p2 + 256 * (p2 + p3 + 256 * p3)) := by omega
  have v2 : (v + v / 256) / 65536 = p2 + p3 + 256 * p3 := by omega
  rw [v2, v1]
  omega
theorem bp8 {x : Nat} (hx : x < 2 ^ 40) : (bp 8 x + bp 8 x / 256 + (bp 8 x + bp 8 x / 256) / 65536 + (bp 8 x + bp 8 x / 256 + (bp 8 x + bp 8 x / 256) / 65536) / 4294967296) % 128 = fb_ct (fun i => x.testBit i) 40 ∧ bp 8 x < 2 ^ 60 := by
  have h0 := pc8_le (x % 256) (Nat.mod_lt _ (by decide))
  have h1 := pc8_le (x / 256 % 256) (Nat.mod_lt _ (by decide))
  have h2 := pc8_le (x / 256 / 256 % 256) (Nat.mod_lt _ (by decide))
  have h3 := pc8_le (x / 256 / 256 / 256 % 256) (Nat.mod_lt _ (by decide))
  have h4 := pc8_le (x / 256 / 256 / 256 / 256 % 256) (Nat.mod_lt _ (by decide))
  have e1 : fb_ct (fun i => x.testBit i) 40 = _ + fb_ct _ 32 := ct_bytes x 4
  have e2 : fb_ct (fun i => (x / 256).testBit i) 32 = _ + fb_ct _ 24 := ct_bytes (x / 256) 3
  have e3 : fb_ct (fun i => (x / 256 / 256).testBit i) 24 = _ + fb_ct _ 16 := ct_bytes (x / 256 / 256) 2
  have e4 : fb_ct (fun i => (x / 256 / 256 / 256).testBit i) 16 = _ + fb_ct _ 8 := ct_bytes (x / 256 / 256 / 256) 1
  have e5 : fb_ct (fun i => (x / 256 / 256 / 256 / 256).testBit i) 8 = _ + 0 := ct_bytes (x / 256 / 256 / 256 / 256) 0
  have z : x / 256 / 256 / 256 / 256 / 256 = 0 := by omega
  have z3 : bp 3 0 = 0 := by decide
  have eb : bp 8 x = pc8 (x % 256) + 256 * (pc8 (x / 256 % 256) + 256 * (pc8 (x / 256 / 256 % 256) + 256 * (pc8 (x / 256 / 256 / 256 % 256) + 256 * (pc8 (x / 256 / 256 / 256 / 256 % 256) + 256 * bp 3 (x / 256 / 256 / 256 / 256 / 256))))) := rfl
  rw [z, z3] at eb
  generalize pc8 (x % 256) = p0 at *
  generalize pc8 (x / 256 % 256) = p1 at *
  generalize pc8 (x / 256 / 256 % 256) = p2 at *
  generalize pc8 (x / 256 / 256 / 256 % 256) = p3 at *
  generalize pc8 (x / 256 / 256 / 256 / 256 % 256) = p4 at *
  generalize bp 8 x = v at *
  generalize fb_ct (fun i => x.testBit i) 40 = t at *
  have v1 : v + v / 256 = (p0 + p1) + 256 * (p1 + p2 + 256 * (p2 + p3 + 256 * (p3 + p4 + 256 * p4))) := by omega
  have v2 : (v + v / 256) / 65536 = p2 + p3 + 256 * (p3 + p4 + 256 * p4) := by omega
  have v3 : (v + v / 256 + (v + v / 256) / 65536) / 4294967296 = p4 := by rw [v2, v1]; omega
  rw [v3, v2, v1]
  omega
theorem g_ushr' {a k p : Nat} {s : Int32} (hs : (s.toInt64.toUInt64 &&& Int64.toUInt64 63) = UInt64.ofNat k) (hk : k < 64) (hp : 2 ^ k = p) (ha : a < 2 ^ 64) : ((lN a).toUInt64 >>> (s.toInt64.toUInt64 &&& Int64.toUInt64 63)).toInt64 = lN (a / p) := g_ushr hs hk hp ha
theorem bs2_le (k y : Nat) : bs2 k y ≤ y + y / 4 := by
  unfold bs2
  have h1 : y &&& bm 51 k ≤ y := Nat.and_le_left
  have h2 : y / 4 &&& bm 51 k ≤ y / 4 := Nat.and_le_left
  omega
theorem ev_J13_bitCount {G : pd_G} {M : pd_M} {x : Nat} (hx : x < 2 ^ 40) : pd_Ev G mi_J13_bitCount_95d88 1 0 0 [.long (lN x)] M (pd_rt (.int (nI (fb_ct (fun i => x.testBit i) 40))) M) := by
  obtain ⟨a1, a2, a3⟩ := bs_all 8 x (by have : (256 : Nat) ^ 8 = 2 ^ 64 := by decide
                                        omega)
  have hb2 := bs2_le 8 (bs1 8 x)
  obtain ⟨p1, p2⟩ := bp8 hx
  have m1 : bm 85 8 = 6148914691236517205 := by decide
  have m2 : bm 51 8 = 3689348814741910323 := by decide
  have m3 : bm 15 8 = 1085102592571150095 := by decide
  have c1 : lN x - (lN (x / 2) &&& lN 6148914691236517205) = lN (bs1 8 x) := by
    rw [fb_andL, ← m1, lN_sub (Nat.le_trans Nat.and_le_left (Nat.div_le_self _ _))]; rfl
  have c2 : (lN (bs1 8 x) &&& lN 3689348814741910323) + (lN (bs1 8 x / 4) &&& lN 3689348814741910323) = lN (bs2 8 (bs1 8 x)) := by
    rw [fb_andL, fb_andL, ← m2, lN_add]; rfl
  have c3 : lN (bs2 8 (bs1 8 x)) + lN (bs2 8 (bs1 8 x) / 16) &&& lN 1085102592571150095 = lN (bp 8 x) := by
    rw [lN_add, fb_andL, ← m3, ← a1]; rfl
  refine pd_ev 0 (lo := [some (.long (lN x)), none]) (by decide +kernel) (Nat.le_of_ble_eq_true rfl) rfl ?_
  refine at_lload_n dJ13_bitCount_95d88_0 rfl ?_
  refine at_lload_n dJ13_bitCount_95d88_1 rfl ?_
  refine at_iconst dJ13_bitCount_95d88_2 pc_i1 ?_
  refine at_lushr dJ13_bitCount_95d88_3 ?_
  rw [g_ushr' (k := 1) (p := 2) (by decide) (by decide) (by decide) (by omega)]
  refine at_ldc2 coJ13_314 dJ13_bitCount_95d88_4 ?_
  refine at_land dJ13_bitCount_95d88_7 ?_
  refine at_lsub dJ13_bitCount_95d88_8 ?_
  rw [show (6148914691236517205 : Int64) = lN 6148914691236517205 from rfl, c1]
  refine at_lstore_n dJ13_bitCount_95d88_9 rfl (Nat.le_of_ble_eq_true rfl) ?_
  refine at_lload_n dJ13_bitCount_95d88_10 rfl ?_
  refine at_ldc2 coJ13_316 dJ13_bitCount_95d88_11 ?_
  refine at_land dJ13_bitCount_95d88_14 ?_
  refine at_lload_n dJ13_bitCount_95d88_15 rfl ?_
  refine at_iconst dJ13_bitCount_95d88_16 pc_i2 ?_
  refine at_lushr dJ13_bitCount_95d88_17 ?_
  rw [g_ushr' (k := 2) (p := 4) (by decide) (by decide) (by decide) (by omega)]
  refine at_ldc2 coJ13_316 dJ13_bitCount_95d88_18 ?_
  refine at_land dJ13_bitCount_95d88_21 ?_
  refine at_ladd dJ13_bitCount_95d88_22 ?_
  rw [show (3689348814741910323 : Int64) = lN 3689348814741910323 from rfl, c2]
  refine at_lstore_n dJ13_bitCount_95d88_23 rfl (Nat.le_of_ble_eq_true rfl) ?_
  refine at_lload_n dJ13_bitCount_95d88_24 rfl ?_
  refine at_lload_n dJ13_bitCount_95d88_25 rfl ?_
  refine at_iconst dJ13_bitCount_95d88_26 pc_i4 ?_
  refine at_lushr dJ13_bitCount_95d88_27 ?_
  rw [g_ushr' (k := 4) (p := 16) (by decide) (by decide) (by decide) (by omega)]
  refine at_ladd dJ13_bitCount_95d88_28 ?_
  refine at_ldc2 coJ13_318 dJ13_bitCount_95d88_29 ?_
  refine at_land dJ13_bitCount_95d88_32 ?_
  rw [show (1085102592571150095 : Int64) = lN 1085102592571150095 from rfl, c3]
  refine at_lstore_n dJ13_bitCount_95d88_33 rfl (Nat.le_of_ble_eq_true rfl) ?_
  refine at_lload_n dJ13_bitCount_95d88_34 rfl ?_
  refine at_lload_n dJ13_bitCount_95d88_35 rfl ?_
  refine at_bipush dJ13_bitCount_95d88_36 pc_b8 ?_
  refine at_lushr dJ13_bitCount_95d88_38 ?_
  rw [g_ushr' (k := 8) (p := 256) (by decide) (by decide) (by decide) (by omega)]
  refine at_ladd dJ13_bitCount_95d88_39 ?_
  rw [lN_add]
  refine at_lstore_n dJ13_bitCount_95d88_40 rfl (Nat.le_of_ble_eq_true rfl) ?_
  refine at_lload_n dJ13_bitCount_95d88_41 rfl ?_
  refine at_lload_n dJ13_bitCount_95d88_42 rfl ?_
  refine at_bipush dJ13_bitCount_95d88_43 pc_b16 ?_
  refine at_lushr dJ13_bitCount_95d88_45 ?_
  rw [g_ushr' (k := 16) (p := 65536) (by decide) (by decide) (by decide) (by omega)]
  refine at_ladd dJ13_bitCount_95d88_46 ?_
  rw [lN_add]
  refine at_lstore_n dJ13_bitCount_95d88_47 rfl (Nat.le_of_ble_eq_true rfl) ?_
  refine at_lload_n dJ13_bitCount_95d88_48 rfl ?_
  refine at_lload_n dJ13_bitCount_95d88_49 rfl ?_
  refine at_bipush dJ13_bitCount_95d88_50 pc_b32 ?_
  refine at_lushr dJ13_bitCount_95d88_52 ?_
  rw [g_ushr' (k := 32) (p := 4294967296) (by decide) (by decide) (by decide) (by omega)]
  refine at_ladd dJ13_bitCount_95d88_53 ?_
  rw [lN_add]
  refine at_lstore_n dJ13_bitCount_95d88_54 rfl (Nat.le_of_ble_eq_true rfl) ?_
  refine at_lload_n dJ13_bitCount_95d88_55 rfl ?_
  refine at_l2i dJ13_bitCount_95d88_56 ?_
  rw [lN_i]
  refine at_bipush dJ13_bitCount_95d88_57 pc_b127 ?_
  refine at_iand dJ13_bitCount_95d88_59 ?_
  rw [show (127 : Int32) = nI (2 ^ 7 - 1) from rfl, fa_mask, p1]
  refine at_iret rfl dJ13_bitCount_95d88_60 ?_
  exact ⟨rfl, rfl⟩
theorem ev_J6_bitCount {G : pd_G} {M : pd_M} {x : Nat} (hx : x < 2 ^ 31) : pd_Ev G mi_J6_bitCount_0f7a4 1 0 0 [.int (nI x)] M (pd_rt (.int (nI (fb_ct (fun i => x.testBit i) 32 % 64))) M) := by
  obtain ⟨a1, a2, a3⟩ := bs_all 4 x (by have : (256 : Nat) ^ 4 = 2 ^ 32 := by decide
                                        omega)
  have hb2 := bs2_le 4 (bs1 4 x)
  obtain ⟨p1, p2⟩ := bp4 (x := x) (by omega)
  have m1 : bm 85 4 = 1431655765 := by decide
  have m2 : bm 51 4 = 858993459 := by decide
  have m3 : bm 15 4 = 252645135 := by decide
  have c1 : nI x - (nI (x / 2) &&& nI 1431655765) = nI (bs1 4 x) := by
    rw [fa_and, ← m1, pk_sub (Nat.le_trans Nat.and_le_left (Nat.div_le_self _ _))]; rfl
  have c2 : (nI (bs1 4 x) &&& nI 858993459) + (nI (bs1 4 x / 4) &&& nI 858993459) = nI (bs2 4 (bs1 4 x)) := by
    rw [fa_and, fa_and, ← m2, nI_add]; rfl
  have c3 : nI (bs2 4 (bs1 4 x)) + nI (bs2 4 (bs1 4 x) / 16) &&& nI 252645135 = nI (bp 4 x) := by
    rw [nI_add, fa_and, ← m3, ← a1]; rfl
  refine pd_ev 0 (lo := [some (.int (nI x))]) (by decide +kernel) (Nat.le_of_ble_eq_true rfl) rfl ?_
  refine at_iload_n dJ6_bitCount_0f7a4_0 rfl ?_
  refine at_iload_n dJ6_bitCount_0f7a4_1 rfl ?_
  refine at_iconst dJ6_bitCount_0f7a4_2 pc_i1 ?_
  refine at_iushr dJ6_bitCount_0f7a4_3 ?_
  rw [pk_ushrN (by omega) _ 1 (by decide)]
  refine at_ldcw coJ6_265 dJ6_bitCount_0f7a4_4 ?_
  refine at_iand dJ6_bitCount_0f7a4_7 ?_
  refine at_isub dJ6_bitCount_0f7a4_8 ?_
  rw [show (1431655765 : Int32) = nI 1431655765 from rfl, show x / 2 ^ 1 = x / 2 from rfl, c1]
  refine at_istore_n dJ6_bitCount_0f7a4_9 rfl (Nat.le_of_ble_eq_true rfl) ?_
  refine at_iload_n dJ6_bitCount_0f7a4_10 rfl ?_
  refine at_ldcw coJ6_266 dJ6_bitCount_0f7a4_11 ?_
  refine at_iand dJ6_bitCount_0f7a4_14 ?_
  refine at_iload_n dJ6_bitCount_0f7a4_15 rfl ?_
  refine at_iconst dJ6_bitCount_0f7a4_16 pc_i2 ?_
  refine at_iushr dJ6_bitCount_0f7a4_17 ?_
  rw [pk_ushrN (by omega) _ 2 (by decide)]
  refine at_ldcw coJ6_266 dJ6_bitCount_0f7a4_18 ?_
  refine at_iand dJ6_bitCount_0f7a4_21 ?_
  refine at_iadd dJ6_bitCount_0f7a4_22 ?_
  rw [show (858993459 : Int32) = nI 858993459 from rfl, show bs1 4 x / 2 ^ 2 = bs1 4 x / 4 from rfl, c2]
  refine at_istore_n dJ6_bitCount_0f7a4_23 rfl (Nat.le_of_ble_eq_true rfl) ?_
  refine at_iload_n dJ6_bitCount_0f7a4_24 rfl ?_
  refine at_iload_n dJ6_bitCount_0f7a4_25 rfl ?_
  refine at_iconst dJ6_bitCount_0f7a4_26 pc_i4 ?_
  refine at_iushr dJ6_bitCount_0f7a4_27 ?_
  rw [pk_ushrN (by omega) _ 4 (by decide)]
  refine at_iadd dJ6_bitCount_0f7a4_28 ?_
  refine at_ldcw coJ6_267 dJ6_bitCount_0f7a4_29 ?_
  refine at_iand dJ6_bitCount_0f7a4_32 ?_
  rw [show (252645135 : Int32) = nI 252645135 from rfl, show bs2 4 (bs1 4 x) / 2 ^ 4 = bs2 4 (bs1 4 x) / 16 from rfl, c3]
  refine at_istore_n dJ6_bitCount_0f7a4_33 rfl (Nat.le_of_ble_eq_true rfl) ?_
  refine at_iload_n dJ6_bitCount_0f7a4_34 rfl ?_
  refine at_iload_n dJ6_bitCount_0f7a4_35 rfl ?_
  refine at_bipush dJ6_bitCount_0f7a4_36 pc_b8 ?_
  refine at_iushr dJ6_bitCount_0f7a4_38 ?_
  rw [pk_ushrN (by omega) _ 8 (by decide)]
  refine at_iadd dJ6_bitCount_0f7a4_39 ?_
  rw [nI_add, show bp 4 x / 2 ^ 8 = bp 4 x / 256 from rfl]
  refine at_istore_n dJ6_bitCount_0f7a4_40 rfl (Nat.le_of_ble_eq_true rfl) ?_
  refine at_iload_n dJ6_bitCount_0f7a4_41 rfl ?_
  refine at_iload_n dJ6_bitCount_0f7a4_42 rfl ?_
  refine at_bipush dJ6_bitCount_0f7a4_43 pc_b16 ?_
  refine at_iushr dJ6_bitCount_0f7a4_45 ?_
  rw [pk_ushrN (by omega) _ 16 (by decide)]
  refine at_iadd dJ6_bitCount_0f7a4_46 ?_
  rw [nI_add, show (bp 4 x + bp 4 x / 256) / 2 ^ 16 = (bp 4 x + bp 4 x / 256) / 65536 from rfl]
  refine at_istore_n dJ6_bitCount_0f7a4_47 rfl (Nat.le_of_ble_eq_true rfl) ?_
  refine at_iload_n dJ6_bitCount_0f7a4_48 rfl ?_
  refine at_bipush dJ6_bitCount_0f7a4_49 pc_b63 ?_
  refine at_iand dJ6_bitCount_0f7a4_51 ?_
  rw [show (63 : Int32) = nI (2 ^ 6 - 1) from rfl, fa_mask, show (2 : Nat) ^ 6 = 64 from rfl, p1]
  refine at_iret rfl dJ6_bitCount_0f7a4_52 ?_
  exact ⟨rfl, rfl⟩
