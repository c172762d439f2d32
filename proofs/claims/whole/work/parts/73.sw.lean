/-! ===== the law's switch, a case each ===== -/
def LO (G : pd_G) (i : Nat) (o5 o6 o7 : Option Value) : List (Option Value) := [some (.ref G.2.2.2.2), some (.ref (pd_z G + 0)), some (.ref (pd_z G + 119)), some (.ref (pd_z G + 137)), some (.int (nI i)), o5, o6, o7]
/-- what the place behind the switch asks -/
def LK (G : pd_G) (h mc ms cs ss i : Nat) (Q : pd_O → pd_M → Prop) : Prop := ∀ (o5 o6 o7 : Option Value) I L R w a ps B t, SM I L R w a ps B t → pd_At G mi_L_law h mc ms cs ss 1462 [some (.ref G.2.2.2.2), some (.ref (pd_z G + 0)), some (.ref (pd_z G + 119)), some (.ref (pd_z G + 137)), some (.int (nI i)), o5, o6, o7] [] (SD, false, I, L, R) Q
section LSW
variable {G : pd_G} {mi : pd_MI} {h mc ms cs ss pc n i : Nat} {lo : List (Option Value)} {st : List Value} {Q : pd_O → pd_M → Prop} {xs : Nat → Int32} {o5 o6 o7 : Option Value}
variable {I I1 I2 : Nat → Nat → Int32} {L L1 L2 : Nat → Nat → Int64} {R R1 : Nat → Nat → Option Nat} {w w' : RW} {a a' t t' : Nat} {ps ps' : Nat → RW} {B B' : Nat → Nat} {v : Int64}
theorem SM.rs (h : SM I L R w a ps B t) : RS R := h.1.rs
theorem SM.up (h : SM I L R w a ps B t) {j : Nat} {u : Int32} : RQ (pd_up I 0 j u) 122 w.1 ∧ MP (pd_up I 0 j u) a ps ∧ MT (pd_up I 0 j u) B t := ⟨fun k hk => (pd_up_nb (by decide)).trans (h.2.2.1 k hk), h.2.2.2.1.fr (pd_up_nb (by decide)) (fun x k q1 q2 => pd_up_nb (by omega)), h.2.2.2.2.1.fr (pd_up_nb (by decide)) (fun k => pd_up_nb (by decide))⟩
theorem j1_or {x : Nat} {b : Bool} : j1 x b = 0 ∨ j1 x b = x := by unfold j1; cases b; exact Or.inr rfl; exact Or.inl rfl
theorem j2_or {x y : Nat} {b c : Bool} : j2 x b y c = 0 ∨ j2 x b y c = x ∨ j2 x b y c = y := by
  unfold j2
  cases b
  · exact Or.inr (Or.inl rfl)
  · rcases j1_or (x := y) (b := c) with e | e
    · exact Or.inl e
    · exact Or.inr (Or.inr e)
theorem j3_or {b c d : Bool} : j3 b c d = 0 ∨ j3 b c d = 8 ∨ j3 b c d = 9 ∨ j3 b c d = 10 := by
  unfold j3
  cases b
  · exact Or.inr (Or.inl rfl)
  · rcases j2_or (x := 9) (y := 10) (b := c) (c := d) with e | e | e
    · exact Or.inl e
    · exact Or.inr (Or.inr (Or.inl e))
    · exact Or.inr (Or.inr (Or.inr e))
theorem lgz {x y : Int64} (h : x = y) : lg_cmp x y = 0 := by subst h; simp [lg_cmp]
theorem m_no0 {c y : Nat} : m_no I c y 119 0 = nI c := by unfold m_no; rw [pd_up_nb (by decide), pd_up_at]
theorem at_bz {M : pd_M} {x : Int32} (h1 : decode mi.2.1 pc = .ok (.ifCond .eq 7, 3)) (h2 : decode mi.2.1 (pc + 3) = .ok (.iconst 1, 1)) (h3 : decode mi.2.1 (pc + 4) = .ok (.goto 4, 3)) (h4 : decode mi.2.1 (pc + 7) = .ok (.iconst 0, 1)) (K : pd_At G mi h mc ms cs ss (pc + 8) lo (.int (if x = 0 then 0 else 1) :: st) M Q) : pd_At G mi h mc ms cs ss pc lo (.int x :: st) M Q := by
  refine at_ifeq (tgt := pc + 7) h1 (by omega) (fun c => ?_) (fun c => ?_)
  · refine at_iconst h4 pc_i0 ?_
    rw [if_pos c] at K
    exact K
  · refine at_iconst h2 pc_i1 ?_
    refine at_goto (tgt := pc + 8) h3 (by omega) ?_
    rw [if_neg c] at K
    exact K
theorem pd_m0 {j d : Nat} {v v0 : Value} {P} (hj : j = 0) (K : ∀ I' L', I' 119 0 = 0 → P I' L' → pd_At G mi h mc ms cs ss (pc + 3) lo (v :: st) (SD, false, I', L', R) Q) : ∀ o M', m_x I L R j d v v0 P o M' → pd_Kc G mi h mc ms cs ss pc lo st Q o M' := fun o M' hq => by
  unfold m_x at hq
  rw [if_pos hj] at hq
  obtain ⟨rfl, I', L', rfl, h0, hP⟩ := hq
  exact K I' L' h0 hP
theorem pd_m1 {j d : Nat} {v v0 : Value} {P} (hj : j ≠ 0) (K : pd_At G mi h mc ms cs ss (pc + 3) lo (v0 :: st) (SD, false, m_no (pd_up I 119 0 0) (j - d) (j - 8), L, R) Q) : ∀ o M', m_x I L R j d v v0 P o M' → pd_Kc G mi h mc ms cs ss pc lo st Q o M' := fun o M' hq => by
  unfold m_x at hq
  rw [if_neg hj] at hq
  obtain ⟨rfl, rfl⟩ := hq
  exact K
theorem pd_mri {P : Int32 → (Nat → Nat → Int32) → (Nat → Nat → Int64) → Prop} (K : ∀ v I' L', P v I' L' → pd_At G mi h mc ms cs ss (pc + 3) lo (.int v :: st) (SD, false, I', L', R) Q) : ∀ o M', pd_ri R P o M' → pd_Kc G mi h mc ms cs ss pc lo st Q o M' := fun o M' hq => by
  obtain ⟨v, I', L', rfl, rfl, hP⟩ := hq
  exact K v I' L' hP
theorem pd_hk {j d : Nat} {P} (K0 : j = 0 → ∀ I' L' R', P I' L' R' → pd_At G mi h mc ms cs ss (pc + 3) lo (.int 0 :: st) (SD, false, I', pd_up L' 137 0 v, R') Q) (K1 : j ≠ 0 → pd_At G mi h mc ms cs ss (pc + 3) lo (.int (nI (j - d)) :: st) (SD, false, pd_up I 0 j (I 0 j + 1), L, R) Q) : ∀ o M', h_x I L R j d v P o M' → pd_Kc G mi h mc ms cs ss pc lo st Q o M' := fun o M' hq => by
  unfold h_x at hq
  split at hq
  · rename_i hj
    obtain ⟨rfl, I', L', R', rfl, hP⟩ := hq
    exact K0 hj I' L' R' hP
  · rename_i hj
    obtain ⟨rfl, rfl⟩ := hq
    exact K1 hj
theorem at_hx3 {mi' : pd_MI} {h' mc' ms' idx j d : Nat} {a0 a1 a2 : Value} {P} (hhd : pd_hd mi' ∈ pd_TB) (hh2 : mi'.2.2.2.2 ≠ []) (hini : Cond.initialized mi'.1.cls ∈ pd_TB) (hd0 : mi'.1.cls ≠ "java/lang/invoke/MethodHandle" ∧ mi'.1.cls ≠ "java/lang/invoke/VarHandle" ∧ (parseMethodDescriptor mi'.1.desc).map (fun d => d.parameters.length) = some 3) (hmx : mi'.2.2.1 ≤ 80) (hl : Cond.methodLink mi.1.cls idx mi'.1 ∈ pd_TB) (hstt : Cond.static mi'.1 ∈ pd_TB) (hE : pd_Ev G mi' h' mc' ms' [a0, a1, a2] (SD, false, I, L, R) (h_x I L R j d v P)) (hh : h' + 1 ≤ h) (hb : cs + mc' ≤ mc ∧ ss + ms' ≤ ms) (hst : (st.map fun v => v.category).sum ≤ 8) (hdg : decode mi.2.1 pc = .ok (.invokestatic idx, 3)) (K0 : j = 0 → ∀ I' L' R', P I' L' R' → pd_At G mi h mc ms (cs + mc') (ss + ms') (pc + 3) lo (.int 0 :: st) (SD, false, I', pd_up L' 137 0 v, R') Q) (K1 : j ≠ 0 → pd_At G mi h mc ms (cs + mc') (ss + ms') (pc + 3) lo (.int (nI (j - d)) :: st) (SD, false, pd_up I 0 j (I 0 j + 1), L, R) Q) : pd_At G mi h mc ms cs ss pc lo (a2 :: a1 :: a0 :: st) (SD, false, I, L, R) Q := at_callSX (As := [a0, a1, a2]) hhd hh2 hini hd0 hmx hl hstt rfl hE hh hb hst hdg (pd_hk K0 K1)
theorem at_hx4 {mi' : pd_MI} {h' mc' ms' idx j d : Nat} {a0 a1 a2 a3 : Value} {P} (hhd : pd_hd mi' ∈ pd_TB) (hh2 : mi'.2.2.2.2 ≠ []) (hini : Cond.initialized mi'.1.cls ∈ pd_TB) (hd0 : mi'.1.cls ≠ "java/lang/invoke/MethodHandle" ∧ mi'.1.cls ≠ "java/lang/invoke/VarHandle" ∧ (parseMethodDescriptor mi'.1.desc).map (fun d => d.parameters.length) = some 4) (hmx : mi'.2.2.1 ≤ 80) (hl : Cond.methodLink mi.1.cls idx mi'.1 ∈ pd_TB) (hstt : Cond.static mi'.1 ∈ pd_TB) (hE : pd_Ev G mi' h' mc' ms' [a0, a1, a2, a3] (SD, false, I, L, R) (h_x I L R j d v P)) (hh : h' + 1 ≤ h) (hb : cs + mc' ≤ mc ∧ ss + ms' ≤ ms) (hst : (st.map fun v => v.category).sum ≤ 8) (hdg : decode mi.2.1 pc = .ok (.invokestatic idx, 3)) (K0 : j = 0 → ∀ I' L' R', P I' L' R' → pd_At G mi h mc ms (cs + mc') (ss + ms') (pc + 3) lo (.int 0 :: st) (SD, false, I', pd_up L' 137 0 v, R') Q) (K1 : j ≠ 0 → pd_At G mi h mc ms (cs + mc') (ss + ms') (pc + 3) lo (.int (nI (j - d)) :: st) (SD, false, pd_up I 0 j (I 0 j + 1), L, R) Q) : pd_At G mi h mc ms cs ss pc lo (a3 :: a2 :: a1 :: a0 :: st) (SD, false, I, L, R) Q := at_callSX (As := [a0, a1, a2, a3]) hhd hh2 hini hd0 hmx hl hstt rfl hE hh hb hst hdg (pd_hk K0 K1)
theorem at_hx5 {mi' : pd_MI} {h' mc' ms' idx j d : Nat} {a0 a1 a2 a3 a4 : Value} {P} (hhd : pd_hd mi' ∈ pd_TB) (hh2 : mi'.2.2.2.2 ≠ []) (hini : Cond.initialized mi'.1.cls ∈ pd_TB) (hd0 : mi'.1.cls ≠ "java/lang/invoke/MethodHandle" ∧ mi'.1.cls ≠ "java/lang/invoke/VarHandle" ∧ (parseMethodDescriptor mi'.1.desc).map (fun d => d.parameters.length) = some 5) (hmx : mi'.2.2.1 ≤ 80) (hl : Cond.methodLink mi.1.cls idx mi'.1 ∈ pd_TB) (hstt : Cond.static mi'.1 ∈ pd_TB) (hE : pd_Ev G mi' h' mc' ms' [a0, a1, a2, a3, a4] (SD, false, I, L, R) (h_x I L R j d v P)) (hh : h' + 1 ≤ h) (hb : cs + mc' ≤ mc ∧ ss + ms' ≤ ms) (hst : (st.map fun v => v.category).sum ≤ 8) (hdg : decode mi.2.1 pc = .ok (.invokestatic idx, 3)) (K0 : j = 0 → ∀ I' L' R', P I' L' R' → pd_At G mi h mc ms (cs + mc') (ss + ms') (pc + 3) lo (.int 0 :: st) (SD, false, I', pd_up L' 137 0 v, R') Q) (K1 : j ≠ 0 → pd_At G mi h mc ms (cs + mc') (ss + ms') (pc + 3) lo (.int (nI (j - d)) :: st) (SD, false, pd_up I 0 j (I 0 j + 1), L, R) Q) : pd_At G mi h mc ms cs ss pc lo (a4 :: a3 :: a2 :: a1 :: a0 :: st) (SD, false, I, L, R) Q := at_callSX (As := [a0, a1, a2, a3, a4]) hhd hh2 hini hd0 hmx hl hstt rfl hE hh hb hst hdg (pd_hk K0 K1)
theorem nz_k {k : Nat} (h1 : 0 < k) (h2 : k < 11) : nI k ≠ 0 := by
  have : k = 1 ∨ k = 2 ∨ k = 3 ∨ k = 4 ∨ k = 5 ∨ k = 6 ∨ k = 7 ∨ k = 8 ∨ k = 9 ∨ k = 10 := by omega
  rcases this with rfl | rfl | rfl | rfl | rfl | rfl | rfl | rfl | rfl | rfl <;> decide
theorem nz_j1 {x d : Nat} {b : Bool} (hd : d < x ∧ x < 11) (h0 : j1 x b ≠ 0) (ho : j1 x b = 0 ∨ j1 x b = x) : nI (j1 x b - d) ≠ 0 := by
  rcases ho with e | e
  · exact absurd e h0
  · rw [e]; exact nz_k (by omega) (by omega)
theorem nz_j2 {x y d : Nat} {b c : Bool} (hd : d < x ∧ x < 11 ∧ d < y ∧ y < 11) (h0 : j2 x b y c ≠ 0) (ho : j2 x b y c = 0 ∨ j2 x b y c = x ∨ j2 x b y c = y) : nI (j2 x b y c - d) ≠ 0 := by
  rcases ho with e | e | e
  · exact absurd e h0
  · rw [e]; exact nz_k (by omega) (by omega)
  · rw [e]; exact nz_k (by omega) (by omega)
theorem nz_j3 {d : Nat} {b c f : Bool} (hd : d < 8) (h0 : j3 b c f ≠ 0) (ho : j3 b c f = 0 ∨ j3 b c f = 8 ∨ j3 b c f = 9 ∨ j3 b c f = 10) : nI (j3 b c f - d) ≠ 0 := by
  rcases ho with e | e | e | e
  · exact absurd e h0
  · rw [e]; exact nz_k (by omega) (by omega)
  · rw [e]; exact nz_k (by omega) (by omega)
  · rw [e]; exact nz_k (by omega) (by omega)
theorem jn_j1 {x : Nat} {b : Bool} (h0 : j1 x b ≠ 0) (ho : j1 x b = 0 ∨ j1 x b = x) (hx : x = 8 ∨ x = 9 ∨ x = 10 := by decide) : j1 x b = 8 ∨ j1 x b = 9 ∨ j1 x b = 10 := by omega
theorem jn_j2 {x y : Nat} {b c : Bool} (h0 : j2 x b y c ≠ 0) (ho : j2 x b y c = 0 ∨ j2 x b y c = x ∨ j2 x b y c = y) (hx : x = 8 ∨ x = 9 ∨ x = 10 := by decide) (hy : y = 8 ∨ y = 9 ∨ y = 10 := by decide) : j2 x b y c = 8 ∨ j2 x b y c = 9 ∨ j2 x b y c = 10 := by omega
theorem jn_j3 {b c f : Bool} (h0 : j3 b c f ≠ 0) (ho : j3 b c f = 0 ∨ j3 b c f = 8 ∨ j3 b c f = 9 ∨ j3 b c f = 10) : j3 b c f = 8 ∨ j3 b c f = 9 ∨ j3 b c f = 10 := by omega
theorem lc_told (hX : XS G n xs) (q1 : vp_in (nI i + 1) n) (q2 : vp_in (nI i + 2) n) (q3 : vp_in (nI i + 3) n) (q4 : vp_in (nI i + 4) n) (q5 : vp_in (nI i + 5) n) (hM : SM I L R w a ps B t) (hh : 40 ≤ h) (hb : cs + 3 ≤ mc ∧ ss + 18 ≤ ms) (K : LK G h mc ms (cs + 3) (ss + 18) i Q) : pd_At G mi_L_law h mc ms cs ss 619 [some (.ref G.2.2.2.2), some (.ref (pd_z G + 0)), some (.ref (pd_z G + 119)), some (.ref (pd_z G + 137)), some (.int (nI i)), o5, o6, o7] [] (SD, false, I, L, R) Q := by
  have hrw := hM.1.row
  obtain ⟨cn, cp, hN, hA⟩ := hM.1
  refine at_aload_n dL_law_619 rfl ?_
  refine at_aload_n dL_law_620 rfl ?_
  refine at_iload dL_law_621 rfl ?_
  refine at_iconst dL_law_623 pc_i1 ?_
  refine at_iadd dL_law_624 ?_
  refine at_scr hX q1 dL_law_625 ?_
  refine at_aload_n dL_law_626 rfl ?_
  refine at_hx3 hd_L_told (by decide) in_L_told ⟨by decide, by decide, by decide +kernel⟩ (by decide) mlL_113 st_L_told (ev_L_told _ (ev_X8_told hN _) (j1_or)) (by omega) hb (Nat.le_of_ble_eq_true rfl) dL_law_627 (fun hj0 I2 L2 R2 hP => ?_) (fun hj0 => ?_)
  have hS2 := fun v => SM.cq (v := v) hM hP
  refine at_istore dL_law_630 rfl (Nat.le_of_ble_eq_true rfl) ?_
  refine at_aload_n dL_law_632 rfl ?_
  refine at_aload_n dL_law_633 rfl ?_
  refine at_iload dL_law_634 rfl ?_
  refine at_iconst dL_law_636 pc_i1 ?_
  refine at_iadd dL_law_637 ?_
  refine at_scr hX q1 dL_law_638 ?_
  refine at_cv1 cvL_115 sd_119 (ev_X9_told (hS2 0).rs (hS2 0).2.2.1 hrw _) (by omega) hb (Nat.le_of_ble_eq_true rfl) dL_law_639 (pd_m0 hj0 (fun I3 L3 z3 hP3 => ?_))
  refine at_istore dL_law_642 rfl (Nat.le_of_ble_eq_true rfl) ?_
  refine at_aload_n dL_law_644 rfl ?_
  refine at_cv0 cvL_86 sd_119 (ev_X9_thrown) (by omega) hb (Nat.le_of_ble_eq_true rfl) dL_law_645 (pd_k1 ?_)
  refine at_iload dL_law_648 rfl ?_
  refine at_icmpeq (tgt := 655) dL_law_650 (by decide) (fun c650 => ?_) (fun c650 => ?_)
  · -- taken 650
    refine at_iload dL_law_655 rfl ?_
    refine at_ifne (tgt := 672) dL_law_657 (by decide) (fun c657 => ?_) (fun c657 => ?_)
    · -- taken 657
      exact absurd rfl c657
    · -- not taken 657
      refine at_aload_n dL_law_660 rfl ?_
      refine at_iconst dL_law_661 pc_i0 ?_
      refine at_lald sd_137 (vp_in_nI (n := 0) (by decide) (by decide)) dL_law_662 ?_
      refine at_iload dL_law_663 rfl ?_
      refine at_i2l dL_law_665 ?_
      refine at_lcmp dL_law_666 ?_
      refine at_ifeq (tgt := 672) dL_law_667 (by decide) (fun c667 => ?_) (fun c667 => ?_)
      · -- taken 667
        refine at_goto (tgt := 1462) dL_law_672 (by decide) ?_
        exact K _ _ _ _ _ _ _ _ _ _ _ ((hS2 _).rq hP3)
      · -- not taken 667
        exact absurd (lgz (((hP3.2 137 (by decide) 0).trans pd_up_at).trans (by rw [(hS2 0).2.2.2.2.1.1, (hS2 0).2.2.2.1.1, hM.2.1.1, hA.2.2.2.1]))) c667
  · -- not taken 650
    exact absurd z3 c650
  refine at_istore dL_law_630 rfl (Nat.le_of_ble_eq_true rfl) ?_
  refine at_aload_n dL_law_632 rfl ?_
  refine at_aload_n dL_law_633 rfl ?_
  refine at_iload dL_law_634 rfl ?_
  refine at_iconst dL_law_636 pc_i1 ?_
  refine at_iadd dL_law_637 ?_
  refine at_scr hX q1 dL_law_638 ?_
  refine at_cv1 cvL_115 sd_119 (ev_X9_told hM.rs hM.up.1 hrw _) (by omega) hb (Nat.le_of_ble_eq_true rfl) dL_law_639 (pd_m1 hj0 ?_)
  refine at_istore dL_law_642 rfl (Nat.le_of_ble_eq_true rfl) ?_
  refine at_aload_n dL_law_644 rfl ?_
  refine at_cv0 cvL_86 sd_119 (ev_X9_thrown) (by omega) hb (Nat.le_of_ble_eq_true rfl) dL_law_645 (pd_k1 ?_)
  refine at_iload dL_law_648 rfl ?_
  refine at_icmpeq (tgt := 655) dL_law_650 (by decide) (fun c650 => ?_) (fun c650 => ?_)
  · -- taken 650
    refine at_iload dL_law_655 rfl ?_
    refine at_ifne (tgt := 672) dL_law_657 (by decide) (fun c657 => ?_) (fun c657 => ?_)
    · -- taken 657
      refine at_goto (tgt := 1462) dL_law_672 (by decide) ?_
      exact K _ _ _ _ _ _ _ _ _ _ _ (hM.no (jn_j1 hj0 (j1_or)))
    · -- not taken 657
      exact absurd c657 (nz_j1 (by decide) hj0 (j1_or))
  · -- not taken 650
    exact absurd m_no0 c650
theorem lc_voter (hX : XS G n xs) (q1 : vp_in (nI i + 1) n) (q2 : vp_in (nI i + 2) n) (q3 : vp_in (nI i + 3) n) (q4 : vp_in (nI i + 4) n) (q5 : vp_in (nI i + 5) n) (hM : SM I L R w a ps B t) (hh : 40 ≤ h) (hb : cs + 3 ≤ mc ∧ ss + 18 ≤ ms) (K : LK G h mc ms (cs + 3) (ss + 18) i Q) : pd_At G mi_L_law h mc ms cs ss 675 [some (.ref G.2.2.2.2), some (.ref (pd_z G + 0)), some (.ref (pd_z G + 119)), some (.ref (pd_z G + 137)), some (.int (nI i)), o5, o6, o7] [] (SD, false, I, L, R) Q := by
  have hrw := hM.1.row
  obtain ⟨cn, cp, hN, hA⟩ := hM.1
  refine at_aload_n dL_law_675 rfl ?_
  refine at_aload_n dL_law_676 rfl ?_
  refine at_iload dL_law_677 rfl ?_
  refine at_iconst dL_law_679 pc_i1 ?_
  refine at_iadd dL_law_680 ?_
  refine at_scr hX q1 dL_law_681 ?_
  refine at_aload_n dL_law_682 rfl ?_
  refine at_iload dL_law_683 rfl ?_
  refine at_iconst dL_law_685 pc_i2 ?_
  refine at_iadd dL_law_686 ?_
  refine at_scr hX q2 dL_law_687 ?_
  refine at_aload_n dL_law_688 rfl ?_
  refine at_hx4 hd_L_voter (by decide) in_L_voter ⟨by decide, by decide, by decide +kernel⟩ (by decide) mlL_116 st_L_voter (ev_L_voter _ _ (ev_X8_voter hN _ _) (j2_or)) (by omega) hb (Nat.le_of_ble_eq_true rfl) dL_law_689 (fun hj0 I2 L2 R2 hP => ?_) (fun hj0 => ?_)
  have hS2 := fun v => SM.cq (v := v) hM hP
  refine at_istore dL_law_692 rfl (Nat.le_of_ble_eq_true rfl) ?_
  refine at_aload_n dL_law_694 rfl ?_
  refine at_aload_n dL_law_695 rfl ?_
  refine at_iload dL_law_696 rfl ?_
  refine at_iconst dL_law_698 pc_i1 ?_
  refine at_iadd dL_law_699 ?_
  refine at_scr hX q1 dL_law_700 ?_
  refine at_aload_n dL_law_701 rfl ?_
  refine at_iload dL_law_702 rfl ?_
  refine at_iconst dL_law_704 pc_i2 ?_
  refine at_iadd dL_law_705 ?_
  refine at_scr hX q2 dL_law_706 ?_
  refine at_cv2 cvL_118 sd_119 (ev_X9_voter (hS2 0).rs (hS2 0).2.2.1 hrw _ _) (by omega) hb (Nat.le_of_ble_eq_true rfl) dL_law_707 (pd_m0 hj0 (fun I3 L3 z3 hP3 => ?_))
  refine at_istore dL_law_710 rfl (Nat.le_of_ble_eq_true rfl) ?_
  refine at_aload_n dL_law_712 rfl ?_
  refine at_cv0 cvL_86 sd_119 (ev_X9_thrown) (by omega) hb (Nat.le_of_ble_eq_true rfl) dL_law_713 (pd_k1 ?_)
  refine at_iload dL_law_716 rfl ?_
  refine at_icmpeq (tgt := 723) dL_law_718 (by decide) (fun c718 => ?_) (fun c718 => ?_)
  · -- taken 718
    refine at_iload dL_law_723 rfl ?_
    refine at_ifne (tgt := 740) dL_law_725 (by decide) (fun c725 => ?_) (fun c725 => ?_)
    · -- taken 725
      exact absurd rfl c725
    · -- not taken 725
      refine at_aload_n dL_law_728 rfl ?_
      refine at_iconst dL_law_729 pc_i0 ?_
      refine at_lald sd_137 (vp_in_nI (n := 0) (by decide) (by decide)) dL_law_730 ?_
      refine at_iload dL_law_731 rfl ?_
      refine at_i2l dL_law_733 ?_
      refine at_lcmp dL_law_734 ?_
      refine at_ifeq (tgt := 740) dL_law_735 (by decide) (fun c735 => ?_) (fun c735 => ?_)
      · -- taken 735
        refine at_goto (tgt := 1462) dL_law_740 (by decide) ?_
        exact K _ _ _ _ _ _ _ _ _ _ _ ((hS2 _).rq hP3)
      · -- not taken 735
        exact absurd (lgz (((hP3.2 137 (by decide) 0).trans pd_up_at).trans (rfl))) c735
  · -- not taken 718
    exact absurd z3 c718
  refine at_istore dL_law_692 rfl (Nat.le_of_ble_eq_true rfl) ?_
  refine at_aload_n dL_law_694 rfl ?_
  refine at_aload_n dL_law_695 rfl ?_
  refine at_iload dL_law_696 rfl ?_
  refine at_iconst dL_law_698 pc_i1 ?_
  refine at_iadd dL_law_699 ?_
  refine at_scr hX q1 dL_law_700 ?_
  refine at_aload_n dL_law_701 rfl ?_
  refine at_iload dL_law_702 rfl ?_
  refine at_iconst dL_law_704 pc_i2 ?_
  refine at_iadd dL_law_705 ?_
  refine at_scr hX q2 dL_law_706 ?_
  refine at_cv2 cvL_118 sd_119 (ev_X9_voter hM.rs hM.up.1 hrw _ _) (by omega) hb (Nat.le_of_ble_eq_true rfl) dL_law_707 (pd_m1 hj0 ?_)
  refine at_istore dL_law_710 rfl (Nat.le_of_ble_eq_true rfl) ?_
  refine at_aload_n dL_law_712 rfl ?_
  refine at_cv0 cvL_86 sd_119 (ev_X9_thrown) (by omega) hb (Nat.le_of_ble_eq_true rfl) dL_law_713 (pd_k1 ?_)
  refine at_iload dL_law_716 rfl ?_
  refine at_icmpeq (tgt := 723) dL_law_718 (by decide) (fun c718 => ?_) (fun c718 => ?_)
  · -- taken 718
    refine at_iload dL_law_723 rfl ?_
    refine at_ifne (tgt := 740) dL_law_725 (by decide) (fun c725 => ?_) (fun c725 => ?_)
    · -- taken 725
      refine at_goto (tgt := 1462) dL_law_740 (by decide) ?_
      exact K _ _ _ _ _ _ _ _ _ _ _ (hM.no (jn_j2 hj0 (j2_or)))
    · -- not taken 725
      exact absurd c725 (nz_j2 (by decide) hj0 (j2_or))
  · -- not taken 718
    exact absurd m_no0 c718
theorem lc_letter (hX : XS G n xs) (q1 : vp_in (nI i + 1) n) (q2 : vp_in (nI i + 2) n) (q3 : vp_in (nI i + 3) n) (q4 : vp_in (nI i + 4) n) (q5 : vp_in (nI i + 5) n) (hM : SM I L R w a ps B t) (hh : 40 ≤ h) (hb : cs + 3 ≤ mc ∧ ss + 18 ≤ ms) (K : LK G h mc ms (cs + 3) (ss + 18) i Q) : pd_At G mi_L_law h mc ms cs ss 743 [some (.ref G.2.2.2.2), some (.ref (pd_z G + 0)), some (.ref (pd_z G + 119)), some (.ref (pd_z G + 137)), some (.int (nI i)), o5, o6, o7] [] (SD, false, I, L, R) Q := by
  have hrw := hM.1.row
  obtain ⟨cn, cp, hN, hA⟩ := hM.1
  refine at_aload_n dL_law_743 rfl ?_
  refine at_aload_n dL_law_744 rfl ?_
  refine at_iload dL_law_745 rfl ?_
  refine at_iconst dL_law_747 pc_i1 ?_
  refine at_iadd dL_law_748 ?_
  refine at_scr hX q1 dL_law_749 ?_
  refine at_aload_n dL_law_750 rfl ?_
  refine at_iload dL_law_751 rfl ?_
  refine at_iconst dL_law_753 pc_i2 ?_
  refine at_iadd dL_law_754 ?_
  refine at_scr hX q2 dL_law_755 ?_
  refine at_aload_n dL_law_756 rfl ?_
  refine at_hx4 hd_L_letter (by decide) in_L_letter ⟨by decide, by decide, by decide +kernel⟩ (by decide) mlL_119 st_L_letter (ev_L_letter _ _ (ev_X8_letter hN _ _) (j1_or)) (by omega) hb (Nat.le_of_ble_eq_true rfl) dL_law_757 (fun hj0 I2 L2 R2 hP => ?_) (fun hj0 => ?_)
  have hS2 := fun v => SM.cq (v := v) hM hP
  refine at_istore dL_law_760 rfl (Nat.le_of_ble_eq_true rfl) ?_
  refine at_aload_n dL_law_762 rfl ?_
  refine at_aload_n dL_law_763 rfl ?_
  refine at_iload dL_law_764 rfl ?_
  refine at_iconst dL_law_766 pc_i1 ?_
  refine at_iadd dL_law_767 ?_
  refine at_scr hX q1 dL_law_768 ?_
  refine at_aload_n dL_law_769 rfl ?_
  refine at_iload dL_law_770 rfl ?_
  refine at_iconst dL_law_772 pc_i2 ?_
  refine at_iadd dL_law_773 ?_
  refine at_scr hX q2 dL_law_774 ?_
  refine at_cv2 cvL_121 sd_119 (ev_X9_letter (hS2 0).rs (hS2 0).2.2.1 hrw hM.1.names _ _) (by omega) hb (Nat.le_of_ble_eq_true rfl) dL_law_775 (pd_m0 hj0 (fun I3 L3 z3 hP3 => ?_))
  refine at_istore dL_law_778 rfl (Nat.le_of_ble_eq_true rfl) ?_
  refine at_aload_n dL_law_780 rfl ?_
  refine at_cv0 cvL_86 sd_119 (ev_X9_thrown) (by omega) hb (Nat.le_of_ble_eq_true rfl) dL_law_781 (pd_k1 ?_)
  refine at_iload dL_law_784 rfl ?_
  refine at_icmpeq (tgt := 791) dL_law_786 (by decide) (fun c786 => ?_) (fun c786 => ?_)
  · -- taken 786
    refine at_iload dL_law_791 rfl ?_
    refine at_ifne (tgt := 808) dL_law_793 (by decide) (fun c793 => ?_) (fun c793 => ?_)
    · -- taken 793
      exact absurd rfl c793
    · -- not taken 793
      refine at_aload_n dL_law_796 rfl ?_
      refine at_iconst dL_law_797 pc_i0 ?_
      refine at_lald sd_137 (vp_in_nI (n := 0) (by decide) (by decide)) dL_law_798 ?_
      refine at_iload dL_law_799 rfl ?_
      refine at_i2l dL_law_801 ?_
      refine at_lcmp dL_law_802 ?_
      refine at_ifeq (tgt := 808) dL_law_803 (by decide) (fun c803 => ?_) (fun c803 => ?_)
      · -- taken 803
        refine at_goto (tgt := 1462) dL_law_808 (by decide) ?_
        exact K _ _ _ _ _ _ _ _ _ _ _ ((hS2 _).rq hP3)
      · -- not taken 803
        exact absurd (lgz (((hP3.2 137 (by decide) 0).trans pd_up_at).trans (rfl))) c803
  · -- not taken 786
    exact absurd z3 c786
  refine at_istore dL_law_760 rfl (Nat.le_of_ble_eq_true rfl) ?_
  refine at_aload_n dL_law_762 rfl ?_
  refine at_aload_n dL_law_763 rfl ?_
  refine at_iload dL_law_764 rfl ?_
  refine at_iconst dL_law_766 pc_i1 ?_
  refine at_iadd dL_law_767 ?_
  refine at_scr hX q1 dL_law_768 ?_
  refine at_aload_n dL_law_769 rfl ?_
  refine at_iload dL_law_770 rfl ?_
  refine at_iconst dL_law_772 pc_i2 ?_
  refine at_iadd dL_law_773 ?_
  refine at_scr hX q2 dL_law_774 ?_
  refine at_cv2 cvL_121 sd_119 (ev_X9_letter hM.rs hM.up.1 hrw hM.1.names _ _) (by omega) hb (Nat.le_of_ble_eq_true rfl) dL_law_775 (pd_m1 hj0 ?_)
  refine at_istore dL_law_778 rfl (Nat.le_of_ble_eq_true rfl) ?_
  refine at_aload_n dL_law_780 rfl ?_
  refine at_cv0 cvL_86 sd_119 (ev_X9_thrown) (by omega) hb (Nat.le_of_ble_eq_true rfl) dL_law_781 (pd_k1 ?_)
  refine at_iload dL_law_784 rfl ?_
  refine at_icmpeq (tgt := 791) dL_law_786 (by decide) (fun c786 => ?_) (fun c786 => ?_)
  · -- taken 786
    refine at_iload dL_law_791 rfl ?_
    refine at_ifne (tgt := 808) dL_law_793 (by decide) (fun c793 => ?_) (fun c793 => ?_)
    · -- taken 793
      refine at_goto (tgt := 1462) dL_law_808 (by decide) ?_
      exact K _ _ _ _ _ _ _ _ _ _ _ (hM.no (jn_j1 hj0 (j1_or)))
    · -- not taken 793
      exact absurd c793 (nz_j1 (by decide) hj0 (j1_or))
  · -- not taken 786
    exact absurd m_no0 c786
theorem lc_sheet (hX : XS G n xs) (q1 : vp_in (nI i + 1) n) (q2 : vp_in (nI i + 2) n) (q3 : vp_in (nI i + 3) n) (q4 : vp_in (nI i + 4) n) (q5 : vp_in (nI i + 5) n) (hM : SM I L R w a ps B t) (hh : 40 ≤ h) (hb : cs + 3 ≤ mc ∧ ss + 18 ≤ ms) (K : LK G h mc ms (cs + 3) (ss + 18) i Q) : pd_At G mi_L_law h mc ms cs ss 811 [some (.ref G.2.2.2.2), some (.ref (pd_z G + 0)), some (.ref (pd_z G + 119)), some (.ref (pd_z G + 137)), some (.int (nI i)), o5, o6, o7] [] (SD, false, I, L, R) Q := by
  have hrw := hM.1.row
  obtain ⟨cn, cp, hN, hA⟩ := hM.1
  refine at_aload_n dL_law_811 rfl ?_
  refine at_aload_n dL_law_812 rfl ?_
  refine at_iload dL_law_813 rfl ?_
  refine at_iconst dL_law_815 pc_i1 ?_
  refine at_iadd dL_law_816 ?_
  refine at_scr hX q1 dL_law_817 ?_
  refine at_aload_n dL_law_818 rfl ?_
  refine at_iload dL_law_819 rfl ?_
  refine at_iconst dL_law_821 pc_i2 ?_
  refine at_iadd dL_law_822 ?_
  refine at_scr hX q2 dL_law_823 ?_
  refine at_aload_n dL_law_824 rfl ?_
  refine at_hx4 hd_L_sheet (by decide) in_L_sheet ⟨by decide, by decide, by decide +kernel⟩ (by decide) mlL_122 st_L_sheet (ev_L_sheet _ _ (ev_X8_sheet hN _ _) (j2_or)) (by omega) hb (Nat.le_of_ble_eq_true rfl) dL_law_825 (fun hj0 I2 L2 R2 hP => ?_) (fun hj0 => ?_)
  have hS2 := fun v => SM.cq (v := v) hM hP
  refine at_istore dL_law_828 rfl (Nat.le_of_ble_eq_true rfl) ?_
  refine at_aload_n dL_law_830 rfl ?_
  refine at_aload_n dL_law_831 rfl ?_
  refine at_iload dL_law_832 rfl ?_
  refine at_iconst dL_law_834 pc_i1 ?_
  refine at_iadd dL_law_835 ?_
  refine at_scr hX q1 dL_law_836 ?_
  refine at_aload_n dL_law_837 rfl ?_
  refine at_iload dL_law_838 rfl ?_
  refine at_iconst dL_law_840 pc_i2 ?_
  refine at_iadd dL_law_841 ?_
  refine at_scr hX q2 dL_law_842 ?_
  refine at_cv2 cvL_124 sd_119 (ev_X9_sheet (hS2 0).rs (hS2 0).2.2.1 hrw _ _) (by omega) hb (Nat.le_of_ble_eq_true rfl) dL_law_843 (pd_m0 hj0 (fun I3 L3 z3 hP3 => ?_))
  refine at_istore dL_law_846 rfl (Nat.le_of_ble_eq_true rfl) ?_
  refine at_aload_n dL_law_848 rfl ?_
  refine at_cv0 cvL_86 sd_119 (ev_X9_thrown) (by omega) hb (Nat.le_of_ble_eq_true rfl) dL_law_849 (pd_k1 ?_)
  refine at_iload dL_law_852 rfl ?_
  refine at_icmpeq (tgt := 859) dL_law_854 (by decide) (fun c854 => ?_) (fun c854 => ?_)
  · -- taken 854
    refine at_iload dL_law_859 rfl ?_
    refine at_ifne (tgt := 876) dL_law_861 (by decide) (fun c861 => ?_) (fun c861 => ?_)
    · -- taken 861
      exact absurd rfl c861
    · -- not taken 861
      refine at_aload_n dL_law_864 rfl ?_
      refine at_iconst dL_law_865 pc_i0 ?_
      refine at_lald sd_137 (vp_in_nI (n := 0) (by decide) (by decide)) dL_law_866 ?_
      refine at_iload dL_law_867 rfl ?_
      refine at_i2l dL_law_869 ?_
      refine at_lcmp dL_law_870 ?_
      refine at_ifeq (tgt := 876) dL_law_871 (by decide) (fun c871 => ?_) (fun c871 => ?_)
      · -- taken 871
        refine at_goto (tgt := 1462) dL_law_876 (by decide) ?_
        exact K _ _ _ _ _ _ _ _ _ _ _ ((hS2 _).rq hP3)
      · -- not taken 871
        exact absurd (lgz (((hP3.2 137 (by decide) 0).trans pd_up_at).trans (rfl))) c871
  · -- not taken 854
    exact absurd z3 c854
  refine at_istore dL_law_828 rfl (Nat.le_of_ble_eq_true rfl) ?_
  refine at_aload_n dL_law_830 rfl ?_
  refine at_aload_n dL_law_831 rfl ?_
  refine at_iload dL_law_832 rfl ?_
  refine at_iconst dL_law_834 pc_i1 ?_
  refine at_iadd dL_law_835 ?_
  refine at_scr hX q1 dL_law_836 ?_
  refine at_aload_n dL_law_837 rfl ?_
  refine at_iload dL_law_838 rfl ?_
  refine at_iconst dL_law_840 pc_i2 ?_
  refine at_iadd dL_law_841 ?_
  refine at_scr hX q2 dL_law_842 ?_
  refine at_cv2 cvL_124 sd_119 (ev_X9_sheet hM.rs hM.up.1 hrw _ _) (by omega) hb (Nat.le_of_ble_eq_true rfl) dL_law_843 (pd_m1 hj0 ?_)
  refine at_istore dL_law_846 rfl (Nat.le_of_ble_eq_true rfl) ?_
  refine at_aload_n dL_law_848 rfl ?_
  refine at_cv0 cvL_86 sd_119 (ev_X9_thrown) (by omega) hb (Nat.le_of_ble_eq_true rfl) dL_law_849 (pd_k1 ?_)
  refine at_iload dL_law_852 rfl ?_
  refine at_icmpeq (tgt := 859) dL_law_854 (by decide) (fun c854 => ?_) (fun c854 => ?_)
  · -- taken 854
    refine at_iload dL_law_859 rfl ?_
    refine at_ifne (tgt := 876) dL_law_861 (by decide) (fun c861 => ?_) (fun c861 => ?_)
    · -- taken 861
      refine at_goto (tgt := 1462) dL_law_876 (by decide) ?_
      exact K _ _ _ _ _ _ _ _ _ _ _ (hM.no (jn_j2 hj0 (j2_or)))
    · -- not taken 861
      exact absurd c861 (nz_j2 (by decide) hj0 (j2_or))
  · -- not taken 854
    exact absurd m_no0 c854
theorem lc_line (hX : XS G n xs) (q1 : vp_in (nI i + 1) n) (q2 : vp_in (nI i + 2) n) (q3 : vp_in (nI i + 3) n) (q4 : vp_in (nI i + 4) n) (q5 : vp_in (nI i + 5) n) (hM : SM I L R w a ps B t) (hh : 40 ≤ h) (hb : cs + 3 ≤ mc ∧ ss + 18 ≤ ms) (K : LK G h mc ms (cs + 3) (ss + 18) i Q) : pd_At G mi_L_law h mc ms cs ss 879 [some (.ref G.2.2.2.2), some (.ref (pd_z G + 0)), some (.ref (pd_z G + 119)), some (.ref (pd_z G + 137)), some (.int (nI i)), o5, o6, o7] [] (SD, false, I, L, R) Q := by
  have hrw := hM.1.row
  obtain ⟨cn, cp, hN, hA⟩ := hM.1
  refine at_aload_n dL_law_879 rfl ?_
  refine at_aload_n dL_law_880 rfl ?_
  refine at_iload dL_law_881 rfl ?_
  refine at_iconst dL_law_883 pc_i1 ?_
  refine at_iadd dL_law_884 ?_
  refine at_scr hX q1 dL_law_885 ?_
  refine at_aload_n dL_law_886 rfl ?_
  refine at_iload dL_law_887 rfl ?_
  refine at_iconst dL_law_889 pc_i2 ?_
  refine at_iadd dL_law_890 ?_
  refine at_scr hX q2 dL_law_891 ?_
  refine at_aload_n dL_law_892 rfl ?_
  refine at_iload dL_law_893 rfl ?_
  refine at_iconst dL_law_895 pc_i3 ?_
  refine at_iadd dL_law_896 ?_
  refine at_scr hX q3 dL_law_897 ?_
  refine at_aload_n dL_law_898 rfl ?_
  refine at_hx5 hd_L_line (by decide) in_L_line ⟨by decide, by decide, by decide +kernel⟩ (by decide) mlL_125 st_L_line (ev_L_line _ _ _ (ev_X8_line hN _ _ _) (j2_or)) (by omega) hb (Nat.le_of_ble_eq_true rfl) dL_law_899 (fun hj0 I2 L2 R2 hP => ?_) (fun hj0 => ?_)
  have hS2 := fun v => SM.cq (v := v) hM hP
  refine at_istore dL_law_902 rfl (Nat.le_of_ble_eq_true rfl) ?_
  refine at_aload_n dL_law_904 rfl ?_
  refine at_aload_n dL_law_905 rfl ?_
  refine at_iload dL_law_906 rfl ?_
  refine at_iconst dL_law_908 pc_i1 ?_
  refine at_iadd dL_law_909 ?_
  refine at_scr hX q1 dL_law_910 ?_
  refine at_aload_n dL_law_911 rfl ?_
  refine at_iload dL_law_912 rfl ?_
  refine at_iconst dL_law_914 pc_i2 ?_
  refine at_iadd dL_law_915 ?_
  refine at_scr hX q2 dL_law_916 ?_
  refine at_aload_n dL_law_917 rfl ?_
  refine at_iload dL_law_918 rfl ?_
  refine at_iconst dL_law_920 pc_i3 ?_
  refine at_iadd dL_law_921 ?_
  refine at_scr hX q3 dL_law_922 ?_
  refine at_cv3 cvL_127 sd_119 (ev_X9_line (hS2 0).rs (hS2 0).2.2.1 hrw _ _ _) (by omega) hb (Nat.le_of_ble_eq_true rfl) dL_law_923 (pd_m0 hj0 (fun I3 L3 z3 hP3 => ?_))
  refine at_istore dL_law_926 rfl (Nat.le_of_ble_eq_true rfl) ?_
  refine at_aload_n dL_law_928 rfl ?_
  refine at_cv0 cvL_86 sd_119 (ev_X9_thrown) (by omega) hb (Nat.le_of_ble_eq_true rfl) dL_law_929 (pd_k1 ?_)
  refine at_iload dL_law_932 rfl ?_
  refine at_icmpeq (tgt := 939) dL_law_934 (by decide) (fun c934 => ?_) (fun c934 => ?_)
  · -- taken 934
    refine at_iload dL_law_939 rfl ?_
    refine at_ifne (tgt := 956) dL_law_941 (by decide) (fun c941 => ?_) (fun c941 => ?_)
    · -- taken 941
      exact absurd rfl c941
    · -- not taken 941
      refine at_aload_n dL_law_944 rfl ?_
      refine at_iconst dL_law_945 pc_i0 ?_
      refine at_lald sd_137 (vp_in_nI (n := 0) (by decide) (by decide)) dL_law_946 ?_
      refine at_iload dL_law_947 rfl ?_
      refine at_i2l dL_law_949 ?_
      refine at_lcmp dL_law_950 ?_
      refine at_ifeq (tgt := 956) dL_law_951 (by decide) (fun c951 => ?_) (fun c951 => ?_)
      · -- taken 951
        refine at_goto (tgt := 1462) dL_law_956 (by decide) ?_
        exact K _ _ _ _ _ _ _ _ _ _ _ ((hS2 _).rq hP3)
      · -- not taken 951
        exact absurd (lgz (((hP3.2 137 (by decide) 0).trans pd_up_at).trans (rfl))) c951
  · -- not taken 934
    exact absurd z3 c934
  refine at_istore dL_law_902 rfl (Nat.le_of_ble_eq_true rfl) ?_
  refine at_aload_n dL_law_904 rfl ?_
  refine at_aload_n dL_law_905 rfl ?_
  refine at_iload dL_law_906 rfl ?_
  refine at_iconst dL_law_908 pc_i1 ?_
  refine at_iadd dL_law_909 ?_
  refine at_scr hX q1 dL_law_910 ?_
  refine at_aload_n dL_law_911 rfl ?_
  refine at_iload dL_law_912 rfl ?_
  refine at_iconst dL_law_914 pc_i2 ?_
  refine at_iadd dL_law_915 ?_
  refine at_scr hX q2 dL_law_916 ?_
  refine at_aload_n dL_law_917 rfl ?_
  refine at_iload dL_law_918 rfl ?_
  refine at_iconst dL_law_920 pc_i3 ?_
  refine at_iadd dL_law_921 ?_
  refine at_scr hX q3 dL_law_922 ?_
  refine at_cv3 cvL_127 sd_119 (ev_X9_line hM.rs hM.up.1 hrw _ _ _) (by omega) hb (Nat.le_of_ble_eq_true rfl) dL_law_923 (pd_m1 hj0 ?_)
  refine at_istore dL_law_926 rfl (Nat.le_of_ble_eq_true rfl) ?_
  refine at_aload_n dL_law_928 rfl ?_
  refine at_cv0 cvL_86 sd_119 (ev_X9_thrown) (by omega) hb (Nat.le_of_ble_eq_true rfl) dL_law_929 (pd_k1 ?_)
  refine at_iload dL_law_932 rfl ?_
  refine at_icmpeq (tgt := 939) dL_law_934 (by decide) (fun c934 => ?_) (fun c934 => ?_)
  · -- taken 934
    refine at_iload dL_law_939 rfl ?_
    refine at_ifne (tgt := 956) dL_law_941 (by decide) (fun c941 => ?_) (fun c941 => ?_)
    · -- taken 941
      refine at_goto (tgt := 1462) dL_law_956 (by decide) ?_
      exact K _ _ _ _ _ _ _ _ _ _ _ (hM.no (jn_j2 hj0 (j2_or)))
    · -- not taken 941
      exact absurd c941 (nz_j2 (by decide) hj0 (j2_or))
  · -- not taken 934
    exact absurd m_no0 c934
theorem lc_judged (hX : XS G n xs) (q1 : vp_in (nI i + 1) n) (q2 : vp_in (nI i + 2) n) (q3 : vp_in (nI i + 3) n) (q4 : vp_in (nI i + 4) n) (q5 : vp_in (nI i + 5) n) (hM : SM I L R w a ps B t) (hh : 40 ≤ h) (hb : cs + 3 ≤ mc ∧ ss + 18 ≤ ms) (K : LK G h mc ms (cs + 3) (ss + 18) i Q) : pd_At G mi_L_law h mc ms cs ss 959 [some (.ref G.2.2.2.2), some (.ref (pd_z G + 0)), some (.ref (pd_z G + 119)), some (.ref (pd_z G + 137)), some (.int (nI i)), o5, o6, o7] [] (SD, false, I, L, R) Q := by
  have hrw := hM.1.row
  obtain ⟨cn, cp, hN, hA⟩ := hM.1
  refine at_aload_n dL_law_959 rfl ?_
  refine at_aload_n dL_law_960 rfl ?_
  refine at_iload dL_law_961 rfl ?_
  refine at_iconst dL_law_963 pc_i1 ?_
  refine at_iadd dL_law_964 ?_
  refine at_scr hX q1 dL_law_965 ?_
  refine at_aload_n dL_law_966 rfl ?_
  refine at_hx3 hd_L_judged (by decide) in_L_judged ⟨by decide, by decide, by decide +kernel⟩ (by decide) mlL_128 st_L_judged (ev_L_judged _ (ev_X8_judged hN _) (j1_or)) (by omega) hb (Nat.le_of_ble_eq_true rfl) dL_law_967 (fun hj0 I2 L2 R2 hP => ?_) (fun hj0 => ?_)
  have hS2 := fun v => SM.cq (v := v) hM hP
  refine at_istore dL_law_970 rfl (Nat.le_of_ble_eq_true rfl) ?_
  refine at_aload_n dL_law_972 rfl ?_
  refine at_aload_n dL_law_973 rfl ?_
  refine at_iload dL_law_974 rfl ?_
  refine at_iconst dL_law_976 pc_i1 ?_
  refine at_iadd dL_law_977 ?_
  refine at_scr hX q1 dL_law_978 ?_
  refine at_cv1 cvL_130 sd_119 (ev_X9_judged (hS2 0).rs (hS2 0).2.2.1 hrw _) (by omega) hb (Nat.le_of_ble_eq_true rfl) dL_law_979 (pd_m0 hj0 (fun I3 L3 z3 hP3 => ?_))
  refine at_istore dL_law_982 rfl (Nat.le_of_ble_eq_true rfl) ?_
  refine at_aload_n dL_law_984 rfl ?_
  refine at_cv0 cvL_86 sd_119 (ev_X9_thrown) (by omega) hb (Nat.le_of_ble_eq_true rfl) dL_law_985 (pd_k1 ?_)
  refine at_iload dL_law_988 rfl ?_
  refine at_icmpeq (tgt := 995) dL_law_990 (by decide) (fun c990 => ?_) (fun c990 => ?_)
  · -- taken 990
    refine at_iload dL_law_995 rfl ?_
    refine at_ifne (tgt := 1012) dL_law_997 (by decide) (fun c997 => ?_) (fun c997 => ?_)
    · -- taken 997
      exact absurd rfl c997
    · -- not taken 997
      refine at_aload_n dL_law_1000 rfl ?_
      refine at_iconst dL_law_1001 pc_i0 ?_
      refine at_lald sd_137 (vp_in_nI (n := 0) (by decide) (by decide)) dL_law_1002 ?_
      refine at_iload dL_law_1003 rfl ?_
      refine at_i2l dL_law_1005 ?_
      refine at_lcmp dL_law_1006 ?_
      refine at_ifeq (tgt := 1012) dL_law_1007 (by decide) (fun c1007 => ?_) (fun c1007 => ?_)
      · -- taken 1007
        refine at_goto (tgt := 1462) dL_law_1012 (by decide) ?_
        exact K _ _ _ _ _ _ _ _ _ _ _ ((hS2 _).rq hP3)
      · -- not taken 1007
        exact absurd (lgz (((hP3.2 137 (by decide) 0).trans pd_up_at).trans (rfl))) c1007
  · -- not taken 990
    exact absurd z3 c990
  refine at_istore dL_law_970 rfl (Nat.le_of_ble_eq_true rfl) ?_
  refine at_aload_n dL_law_972 rfl ?_
  refine at_aload_n dL_law_973 rfl ?_
  refine at_iload dL_law_974 rfl ?_
  refine at_iconst dL_law_976 pc_i1 ?_
  refine at_iadd dL_law_977 ?_
  refine at_scr hX q1 dL_law_978 ?_
  refine at_cv1 cvL_130 sd_119 (ev_X9_judged hM.rs hM.up.1 hrw _) (by omega) hb (Nat.le_of_ble_eq_true rfl) dL_law_979 (pd_m1 hj0 ?_)
  refine at_istore dL_law_982 rfl (Nat.le_of_ble_eq_true rfl) ?_
  refine at_aload_n dL_law_984 rfl ?_
  refine at_cv0 cvL_86 sd_119 (ev_X9_thrown) (by omega) hb (Nat.le_of_ble_eq_true rfl) dL_law_985 (pd_k1 ?_)
  refine at_iload dL_law_988 rfl ?_
  refine at_icmpeq (tgt := 995) dL_law_990 (by decide) (fun c990 => ?_) (fun c990 => ?_)
  · -- taken 990
    refine at_iload dL_law_995 rfl ?_
    refine at_ifne (tgt := 1012) dL_law_997 (by decide) (fun c997 => ?_) (fun c997 => ?_)
    · -- taken 997
      refine at_goto (tgt := 1462) dL_law_1012 (by decide) ?_
      exact K _ _ _ _ _ _ _ _ _ _ _ (hM.no (jn_j1 hj0 (j1_or)))
    · -- not taken 997
      exact absurd c997 (nz_j1 (by decide) hj0 (j1_or))
  · -- not taken 990
    exact absurd m_no0 c990
theorem lc_drawn (hX : XS G n xs) (q1 : vp_in (nI i + 1) n) (q2 : vp_in (nI i + 2) n) (q3 : vp_in (nI i + 3) n) (q4 : vp_in (nI i + 4) n) (q5 : vp_in (nI i + 5) n) (hM : SM I L R w a ps B t) (hh : 40 ≤ h) (hb : cs + 3 ≤ mc ∧ ss + 18 ≤ ms) (K : LK G h mc ms (cs + 3) (ss + 18) i Q) : pd_At G mi_L_law h mc ms cs ss 1028 [some (.ref G.2.2.2.2), some (.ref (pd_z G + 0)), some (.ref (pd_z G + 119)), some (.ref (pd_z G + 137)), some (.int (nI i)), o5, o6, o7] [] (SD, false, I, L, R) Q := by
  have hrw := hM.1.row
  obtain ⟨cn, cp, hN, hA⟩ := hM.1
  refine at_aload_n dL_law_1028 rfl ?_
  refine at_aload_n dL_law_1029 rfl ?_
  refine at_iload dL_law_1030 rfl ?_
  refine at_iconst dL_law_1032 pc_i1 ?_
  refine at_iadd dL_law_1033 ?_
  refine at_scr hX q1 dL_law_1034 ?_
  refine at_aload_n dL_law_1035 rfl ?_
  refine at_iload dL_law_1036 rfl ?_
  refine at_iconst dL_law_1038 pc_i2 ?_
  refine at_iadd dL_law_1039 ?_
  refine at_scr hX q2 dL_law_1040 ?_
  refine at_aload_n dL_law_1041 rfl ?_
  refine at_hx4 hd_L_drawn (by decide) in_L_drawn ⟨by decide, by decide, by decide +kernel⟩ (by decide) mlL_135 st_L_drawn (ev_L_drawn _ _ (ev_X8_drawn hN _ _) (j1_or)) (by omega) hb (Nat.le_of_ble_eq_true rfl) dL_law_1042 (fun hj0 I2 L2 R2 hP => ?_) (fun hj0 => ?_)
  have hS2 := fun v => SM.cq (v := v) hM hP
  refine at_istore dL_law_1045 rfl (Nat.le_of_ble_eq_true rfl) ?_
  refine at_aload_n dL_law_1047 rfl ?_
  refine at_aload_n dL_law_1048 rfl ?_
  refine at_iload dL_law_1049 rfl ?_
  refine at_iconst dL_law_1051 pc_i1 ?_
  refine at_iadd dL_law_1052 ?_
  refine at_scr hX q1 dL_law_1053 ?_
  refine at_aload_n dL_law_1054 rfl ?_
  refine at_iload dL_law_1055 rfl ?_
  refine at_iconst dL_law_1057 pc_i2 ?_
  refine at_iadd dL_law_1058 ?_
  refine at_scr hX q2 dL_law_1059 ?_
  refine at_cv2 cvL_137 sd_119 (ev_X9_drawn (hS2 0).rs (hS2 0).2.2.1 hrw _ _) (by omega) hb (Nat.le_of_ble_eq_true rfl) dL_law_1060 (pd_m0 hj0 (fun I3 L3 z3 hP3 => ?_))
  refine at_istore dL_law_1063 rfl (Nat.le_of_ble_eq_true rfl) ?_
  refine at_aload_n dL_law_1065 rfl ?_
  refine at_cv0 cvL_86 sd_119 (ev_X9_thrown) (by omega) hb (Nat.le_of_ble_eq_true rfl) dL_law_1066 (pd_k1 ?_)
  refine at_iload dL_law_1069 rfl ?_
  refine at_icmpeq (tgt := 1076) dL_law_1071 (by decide) (fun c1071 => ?_) (fun c1071 => ?_)
  · -- taken 1071
    refine at_iload dL_law_1076 rfl ?_
    refine at_ifne (tgt := 1093) dL_law_1078 (by decide) (fun c1078 => ?_) (fun c1078 => ?_)
    · -- taken 1078
      exact absurd rfl c1078
    · -- not taken 1078
      refine at_aload_n dL_law_1081 rfl ?_
      refine at_iconst dL_law_1082 pc_i0 ?_
      refine at_lald sd_137 (vp_in_nI (n := 0) (by decide) (by decide)) dL_law_1083 ?_
      refine at_iload dL_law_1084 rfl ?_
      refine at_i2l dL_law_1086 ?_
      refine at_lcmp dL_law_1087 ?_
      refine at_ifeq (tgt := 1093) dL_law_1088 (by decide) (fun c1088 => ?_) (fun c1088 => ?_)
      · -- taken 1088
        refine at_goto (tgt := 1462) dL_law_1093 (by decide) ?_
        exact K _ _ _ _ _ _ _ _ _ _ _ ((hS2 _).rq hP3)
      · -- not taken 1088
        exact absurd (lgz (((hP3.2 137 (by decide) 0).trans pd_up_at).trans (rfl))) c1088
  · -- not taken 1071
    exact absurd z3 c1071
  refine at_istore dL_law_1045 rfl (Nat.le_of_ble_eq_true rfl) ?_
  refine at_aload_n dL_law_1047 rfl ?_
  refine at_aload_n dL_law_1048 rfl ?_
  refine at_iload dL_law_1049 rfl ?_
  refine at_iconst dL_law_1051 pc_i1 ?_
  refine at_iadd dL_law_1052 ?_
  refine at_scr hX q1 dL_law_1053 ?_
  refine at_aload_n dL_law_1054 rfl ?_
  refine at_iload dL_law_1055 rfl ?_
  refine at_iconst dL_law_1057 pc_i2 ?_
  refine at_iadd dL_law_1058 ?_
  refine at_scr hX q2 dL_law_1059 ?_
  refine at_cv2 cvL_137 sd_119 (ev_X9_drawn hM.rs hM.up.1 hrw _ _) (by omega) hb (Nat.le_of_ble_eq_true rfl) dL_law_1060 (pd_m1 hj0 ?_)
  refine at_istore dL_law_1063 rfl (Nat.le_of_ble_eq_true rfl) ?_
  refine at_aload_n dL_law_1065 rfl ?_
  refine at_cv0 cvL_86 sd_119 (ev_X9_thrown) (by omega) hb (Nat.le_of_ble_eq_true rfl) dL_law_1066 (pd_k1 ?_)
  refine at_iload dL_law_1069 rfl ?_
  refine at_icmpeq (tgt := 1076) dL_law_1071 (by decide) (fun c1071 => ?_) (fun c1071 => ?_)
  · -- taken 1071
    refine at_iload dL_law_1076 rfl ?_
    refine at_ifne (tgt := 1093) dL_law_1078 (by decide) (fun c1078 => ?_) (fun c1078 => ?_)
    · -- taken 1078
      refine at_goto (tgt := 1462) dL_law_1093 (by decide) ?_
      exact K _ _ _ _ _ _ _ _ _ _ _ (hM.no (jn_j1 hj0 (j1_or)))
    · -- not taken 1078
      exact absurd c1078 (nz_j1 (by decide) hj0 (j1_or))
  · -- not taken 1071
    exact absurd m_no0 c1071
theorem lc_estimate (hX : XS G n xs) (q1 : vp_in (nI i + 1) n) (q2 : vp_in (nI i + 2) n) (q3 : vp_in (nI i + 3) n) (q4 : vp_in (nI i + 4) n) (q5 : vp_in (nI i + 5) n) (hM : SM I L R w a ps B t) (hh : 40 ≤ h) (hb : cs + 3 ≤ mc ∧ ss + 18 ≤ ms) (K : LK G h mc ms (cs + 3) (ss + 18) i Q) : pd_At G mi_L_law h mc ms cs ss 1096 [some (.ref G.2.2.2.2), some (.ref (pd_z G + 0)), some (.ref (pd_z G + 119)), some (.ref (pd_z G + 137)), some (.int (nI i)), o5, o6, o7] [] (SD, false, I, L, R) Q := by
  have hrw := hM.1.row
  obtain ⟨cn, cp, hN, hA⟩ := hM.1
  refine at_aload_n dL_law_1096 rfl ?_
  refine at_aload_n dL_law_1097 rfl ?_
  refine at_iload dL_law_1098 rfl ?_
  refine at_iconst dL_law_1100 pc_i1 ?_
  refine at_iadd dL_law_1101 ?_
  refine at_scr hX q1 dL_law_1102 ?_
  refine at_aload_n dL_law_1103 rfl ?_
  refine at_iload dL_law_1104 rfl ?_
  refine at_iconst dL_law_1106 pc_i2 ?_
  refine at_iadd dL_law_1107 ?_
  refine at_scr hX q2 dL_law_1108 ?_
  refine at_aload_n dL_law_1109 rfl ?_
  refine at_hx4 hd_L_estimate (by decide) in_L_estimate ⟨by decide, by decide, by decide +kernel⟩ (by decide) mlL_138 st_L_estimate (ev_L_estimate _ _ (ev_X8_estimate hN _ _) (j2_or)) (by omega) hb (Nat.le_of_ble_eq_true rfl) dL_law_1110 (fun hj0 I2 L2 R2 hP => ?_) (fun hj0 => ?_)
  have hS2 := fun v => SM.cq (v := v) hM hP
  refine at_istore dL_law_1113 rfl (Nat.le_of_ble_eq_true rfl) ?_
  refine at_aload_n dL_law_1115 rfl ?_
  refine at_aload_n dL_law_1116 rfl ?_
  refine at_iload dL_law_1117 rfl ?_
  refine at_iconst dL_law_1119 pc_i1 ?_
  refine at_iadd dL_law_1120 ?_
  refine at_scr hX q1 dL_law_1121 ?_
  refine at_aload_n dL_law_1122 rfl ?_
  refine at_iload dL_law_1123 rfl ?_
  refine at_iconst dL_law_1125 pc_i2 ?_
  refine at_iadd dL_law_1126 ?_
  refine at_scr hX q2 dL_law_1127 ?_
  refine at_cv2 cvL_140 sd_119 (ev_X9_estimate (hS2 0).rs (hS2 0).2.2.1 hrw _ _) (by omega) hb (Nat.le_of_ble_eq_true rfl) dL_law_1128 (pd_m0 hj0 (fun I3 L3 z3 hP3 => ?_))
  refine at_lstore dL_law_1131 rfl (Nat.le_of_ble_eq_true rfl) ?_
  refine at_aload_n dL_law_1133 rfl ?_
  refine at_cv0 cvL_86 sd_119 (ev_X9_thrown) (by omega) hb (Nat.le_of_ble_eq_true rfl) dL_law_1134 (pd_k1 ?_)
  refine at_iload dL_law_1137 rfl ?_
  refine at_icmpeq (tgt := 1144) dL_law_1139 (by decide) (fun c1139 => ?_) (fun c1139 => ?_)
  · -- taken 1139
    refine at_iload dL_law_1144 rfl ?_
    refine at_ifne (tgt := 1160) dL_law_1146 (by decide) (fun c1146 => ?_) (fun c1146 => ?_)
    · -- taken 1146
      exact absurd rfl c1146
    · -- not taken 1146
      refine at_aload_n dL_law_1149 rfl ?_
      refine at_iconst dL_law_1150 pc_i0 ?_
      refine at_lald sd_137 (vp_in_nI (n := 0) (by decide) (by decide)) dL_law_1151 ?_
      refine at_lload dL_law_1152 rfl ?_
      refine at_lcmp dL_law_1154 ?_
      refine at_ifeq (tgt := 1160) dL_law_1155 (by decide) (fun c1155 => ?_) (fun c1155 => ?_)
      · -- taken 1155
        refine at_goto (tgt := 1462) dL_law_1160 (by decide) ?_
        exact K _ _ _ _ _ _ _ _ _ _ _ ((hS2 _).rq hP3)
      · -- not taken 1155
        exact absurd (lgz (((hP3.2 137 (by decide) 0).trans pd_up_at).trans (rfl))) c1155
  · -- not taken 1139
    exact absurd z3 c1139
  refine at_istore dL_law_1113 rfl (Nat.le_of_ble_eq_true rfl) ?_
  refine at_aload_n dL_law_1115 rfl ?_
  refine at_aload_n dL_law_1116 rfl ?_
  refine at_iload dL_law_1117 rfl ?_
  refine at_iconst dL_law_1119 pc_i1 ?_
  refine at_iadd dL_law_1120 ?_
  refine at_scr hX q1 dL_law_1121 ?_
  refine at_aload_n dL_law_1122 rfl ?_
  refine at_iload dL_law_1123 rfl ?_
  refine at_iconst dL_law_1125 pc_i2 ?_
  refine at_iadd dL_law_1126 ?_
  refine at_scr hX q2 dL_law_1127 ?_
  refine at_cv2 cvL_140 sd_119 (ev_X9_estimate hM.rs hM.up.1 hrw _ _) (by omega) hb (Nat.le_of_ble_eq_true rfl) dL_law_1128 (pd_m1 hj0 ?_)
  refine at_lstore dL_law_1131 rfl (Nat.le_of_ble_eq_true rfl) ?_
  refine at_aload_n dL_law_1133 rfl ?_
  refine at_cv0 cvL_86 sd_119 (ev_X9_thrown) (by omega) hb (Nat.le_of_ble_eq_true rfl) dL_law_1134 (pd_k1 ?_)
  refine at_iload dL_law_1137 rfl ?_
  refine at_icmpeq (tgt := 1144) dL_law_1139 (by decide) (fun c1139 => ?_) (fun c1139 => ?_)
  · -- taken 1139
    refine at_iload dL_law_1144 rfl ?_
    refine at_ifne (tgt := 1160) dL_law_1146 (by decide) (fun c1146 => ?_) (fun c1146 => ?_)
    · -- taken 1146
      refine at_goto (tgt := 1462) dL_law_1160 (by decide) ?_
      exact K _ _ _ _ _ _ _ _ _ _ _ (hM.no (jn_j2 hj0 (j2_or)))
    · -- not taken 1146
      exact absurd c1146 (nz_j2 (by decide) hj0 (j2_or))
  · -- not taken 1139
    exact absurd m_no0 c1139
theorem lc_unlike (hX : XS G n xs) (q1 : vp_in (nI i + 1) n) (q2 : vp_in (nI i + 2) n) (q3 : vp_in (nI i + 3) n) (q4 : vp_in (nI i + 4) n) (q5 : vp_in (nI i + 5) n) (hM : SM I L R w a ps B t) (hh : 40 ≤ h) (hb : cs + 3 ≤ mc ∧ ss + 18 ≤ ms) (K : LK G h mc ms (cs + 3) (ss + 18) i Q) : pd_At G mi_L_law h mc ms cs ss 1163 [some (.ref G.2.2.2.2), some (.ref (pd_z G + 0)), some (.ref (pd_z G + 119)), some (.ref (pd_z G + 137)), some (.int (nI i)), o5, o6, o7] [] (SD, false, I, L, R) Q := by
  have hrw := hM.1.row
  obtain ⟨cn, cp, hN, hA⟩ := hM.1
  refine at_aload_n dL_law_1163 rfl ?_
  refine at_aload_n dL_law_1164 rfl ?_
  refine at_iload dL_law_1165 rfl ?_
  refine at_iconst dL_law_1167 pc_i1 ?_
  refine at_iadd dL_law_1168 ?_
  refine at_scr hX q1 dL_law_1169 ?_
  refine at_aload_n dL_law_1170 rfl ?_
  refine at_hx3 hd_L_unlike (by decide) in_L_unlike ⟨by decide, by decide, by decide +kernel⟩ (by decide) mlL_141 st_L_unlike (ev_L_unlike _ (ev_X8_unlike hN _) (j1_or)) (by omega) hb (Nat.le_of_ble_eq_true rfl) dL_law_1171 (fun hj0 I2 L2 R2 hP => ?_) (fun hj0 => ?_)
  have hS2 := fun v => SM.cq (v := v) hM hP
  refine at_istore dL_law_1174 rfl (Nat.le_of_ble_eq_true rfl) ?_
  refine at_aload_n dL_law_1176 rfl ?_
  refine at_aload_n dL_law_1177 rfl ?_
  refine at_iload dL_law_1178 rfl ?_
  refine at_iconst dL_law_1180 pc_i1 ?_
  refine at_iadd dL_law_1181 ?_
  refine at_scr hX q1 dL_law_1182 ?_
  refine at_cv1 cvL_143 sd_119 (ev_X9_unlike (hS2 0).rs (hS2 0).2.2.1 hrw _) (by omega) hb (Nat.le_of_ble_eq_true rfl) dL_law_1183 (pd_m0 hj0 (fun I3 L3 z3 hP3 => ?_))
  refine at_istore dL_law_1186 rfl (Nat.le_of_ble_eq_true rfl) ?_
  refine at_aload_n dL_law_1188 rfl ?_
  refine at_cv0 cvL_86 sd_119 (ev_X9_thrown) (by omega) hb (Nat.le_of_ble_eq_true rfl) dL_law_1189 (pd_k1 ?_)
  refine at_iload dL_law_1192 rfl ?_
  refine at_icmpeq (tgt := 1199) dL_law_1194 (by decide) (fun c1194 => ?_) (fun c1194 => ?_)
  · -- taken 1194
    refine at_iload dL_law_1199 rfl ?_
    refine at_ifne (tgt := 1216) dL_law_1201 (by decide) (fun c1201 => ?_) (fun c1201 => ?_)
    · -- taken 1201
      exact absurd rfl c1201
    · -- not taken 1201
      refine at_aload_n dL_law_1204 rfl ?_
      refine at_iconst dL_law_1205 pc_i0 ?_
      refine at_lald sd_137 (vp_in_nI (n := 0) (by decide) (by decide)) dL_law_1206 ?_
      refine at_iload dL_law_1207 rfl ?_
      refine at_i2l dL_law_1209 ?_
      refine at_lcmp dL_law_1210 ?_
      refine at_ifeq (tgt := 1216) dL_law_1211 (by decide) (fun c1211 => ?_) (fun c1211 => ?_)
      · -- taken 1211
        refine at_goto (tgt := 1462) dL_law_1216 (by decide) ?_
        exact K _ _ _ _ _ _ _ _ _ _ _ ((hS2 _).rq hP3)
      · -- not taken 1211
        exact absurd (lgz (((hP3.2 137 (by decide) 0).trans pd_up_at).trans (rfl))) c1211
  · -- not taken 1194
    exact absurd z3 c1194
  refine at_istore dL_law_1174 rfl (Nat.le_of_ble_eq_true rfl) ?_
  refine at_aload_n dL_law_1176 rfl ?_
  refine at_aload_n dL_law_1177 rfl ?_
  refine at_iload dL_law_1178 rfl ?_
  refine at_iconst dL_law_1180 pc_i1 ?_
  refine at_iadd dL_law_1181 ?_
  refine at_scr hX q1 dL_law_1182 ?_
  refine at_cv1 cvL_143 sd_119 (ev_X9_unlike hM.rs hM.up.1 hrw _) (by omega) hb (Nat.le_of_ble_eq_true rfl) dL_law_1183 (pd_m1 hj0 ?_)
  refine at_istore dL_law_1186 rfl (Nat.le_of_ble_eq_true rfl) ?_
  refine at_aload_n dL_law_1188 rfl ?_
  refine at_cv0 cvL_86 sd_119 (ev_X9_thrown) (by omega) hb (Nat.le_of_ble_eq_true rfl) dL_law_1189 (pd_k1 ?_)
  refine at_iload dL_law_1192 rfl ?_
  refine at_icmpeq (tgt := 1199) dL_law_1194 (by decide) (fun c1194 => ?_) (fun c1194 => ?_)
  · -- taken 1194
    refine at_iload dL_law_1199 rfl ?_
    refine at_ifne (tgt := 1216) dL_law_1201 (by decide) (fun c1201 => ?_) (fun c1201 => ?_)
    · -- taken 1201
      refine at_goto (tgt := 1462) dL_law_1216 (by decide) ?_
      exact K _ _ _ _ _ _ _ _ _ _ _ (hM.no (jn_j1 hj0 (j1_or)))
    · -- not taken 1201
      exact absurd c1201 (nz_j1 (by decide) hj0 (j1_or))
  · -- not taken 1194
    exact absurd m_no0 c1194
theorem lc_unseen (hX : XS G n xs) (q1 : vp_in (nI i + 1) n) (q2 : vp_in (nI i + 2) n) (q3 : vp_in (nI i + 3) n) (q4 : vp_in (nI i + 4) n) (q5 : vp_in (nI i + 5) n) (hM : SM I L R w a ps B t) (hh : 40 ≤ h) (hb : cs + 3 ≤ mc ∧ ss + 18 ≤ ms) (K : LK G h mc ms (cs + 3) (ss + 18) i Q) : pd_At G mi_L_law h mc ms cs ss 1219 [some (.ref G.2.2.2.2), some (.ref (pd_z G + 0)), some (.ref (pd_z G + 119)), some (.ref (pd_z G + 137)), some (.int (nI i)), o5, o6, o7] [] (SD, false, I, L, R) Q := by
  have hrw := hM.1.row
  obtain ⟨cn, cp, hN, hA⟩ := hM.1
  refine at_aload_n dL_law_1219 rfl ?_
  refine at_aload_n dL_law_1220 rfl ?_
  refine at_iload dL_law_1221 rfl ?_
  refine at_iconst dL_law_1223 pc_i1 ?_
  refine at_iadd dL_law_1224 ?_
  refine at_scr hX q1 dL_law_1225 ?_
  refine at_aload_n dL_law_1226 rfl ?_
  refine at_iload dL_law_1227 rfl ?_
  refine at_iconst dL_law_1229 pc_i2 ?_
  refine at_iadd dL_law_1230 ?_
  refine at_scr hX q2 dL_law_1231 ?_
  refine at_aload_n dL_law_1232 rfl ?_
  refine at_hx4 hd_L_unseen (by decide) in_L_unseen ⟨by decide, by decide, by decide +kernel⟩ (by decide) mlL_144 st_L_unseen (ev_L_unseen _ _ (ev_X8_unseen hN _ _) (j1_or)) (by omega) hb (Nat.le_of_ble_eq_true rfl) dL_law_1233 (fun hj0 I2 L2 R2 hP => ?_) (fun hj0 => ?_)
  have hS2 := fun v => SM.cq (v := v) hM hP
  refine at_istore dL_law_1236 rfl (Nat.le_of_ble_eq_true rfl) ?_
  refine at_aload_n dL_law_1238 rfl ?_
  refine at_aload_n dL_law_1239 rfl ?_
  refine at_iload dL_law_1240 rfl ?_
  refine at_iconst dL_law_1242 pc_i1 ?_
  refine at_iadd dL_law_1243 ?_
  refine at_scr hX q1 dL_law_1244 ?_
  refine at_aload_n dL_law_1245 rfl ?_
  refine at_iload dL_law_1246 rfl ?_
  refine at_iconst dL_law_1248 pc_i2 ?_
  refine at_iadd dL_law_1249 ?_
  refine at_scr hX q2 dL_law_1250 ?_
  refine at_cv2 cvL_146 sd_119 (ev_X9_unseen (hS2 0).rs (hS2 0).2.2.1 hrw _ _) (by omega) hb (Nat.le_of_ble_eq_true rfl) dL_law_1251 (pd_m0 hj0 (fun I3 L3 z3 hP3 => ?_))
  refine at_lstore dL_law_1254 rfl (Nat.le_of_ble_eq_true rfl) ?_
  refine at_aload_n dL_law_1256 rfl ?_
  refine at_cv0 cvL_86 sd_119 (ev_X9_thrown) (by omega) hb (Nat.le_of_ble_eq_true rfl) dL_law_1257 (pd_k1 ?_)
  refine at_iload dL_law_1260 rfl ?_
  refine at_icmpeq (tgt := 1267) dL_law_1262 (by decide) (fun c1262 => ?_) (fun c1262 => ?_)
  · -- taken 1262
    refine at_iload dL_law_1267 rfl ?_
    refine at_ifne (tgt := 1283) dL_law_1269 (by decide) (fun c1269 => ?_) (fun c1269 => ?_)
    · -- taken 1269
      exact absurd rfl c1269
    · -- not taken 1269
      refine at_aload_n dL_law_1272 rfl ?_
      refine at_iconst dL_law_1273 pc_i0 ?_
      refine at_lald sd_137 (vp_in_nI (n := 0) (by decide) (by decide)) dL_law_1274 ?_
      refine at_lload dL_law_1275 rfl ?_
      refine at_lcmp dL_law_1277 ?_
      refine at_ifeq (tgt := 1283) dL_law_1278 (by decide) (fun c1278 => ?_) (fun c1278 => ?_)
      · -- taken 1278
        refine at_goto (tgt := 1462) dL_law_1283 (by decide) ?_
        exact K _ _ _ _ _ _ _ _ _ _ _ ((hS2 _).rq hP3)
      · -- not taken 1278
        exact absurd (lgz (((hP3.2 137 (by decide) 0).trans pd_up_at).trans (rfl))) c1278
  · -- not taken 1262
    exact absurd z3 c1262
  refine at_istore dL_law_1236 rfl (Nat.le_of_ble_eq_true rfl) ?_
  refine at_aload_n dL_law_1238 rfl ?_
  refine at_aload_n dL_law_1239 rfl ?_
  refine at_iload dL_law_1240 rfl ?_
  refine at_iconst dL_law_1242 pc_i1 ?_
  refine at_iadd dL_law_1243 ?_
  refine at_scr hX q1 dL_law_1244 ?_
  refine at_aload_n dL_law_1245 rfl ?_
  refine at_iload dL_law_1246 rfl ?_
  refine at_iconst dL_law_1248 pc_i2 ?_
  refine at_iadd dL_law_1249 ?_
  refine at_scr hX q2 dL_law_1250 ?_
  refine at_cv2 cvL_146 sd_119 (ev_X9_unseen hM.rs hM.up.1 hrw _ _) (by omega) hb (Nat.le_of_ble_eq_true rfl) dL_law_1251 (pd_m1 hj0 ?_)
  refine at_lstore dL_law_1254 rfl (Nat.le_of_ble_eq_true rfl) ?_
  refine at_aload_n dL_law_1256 rfl ?_
  refine at_cv0 cvL_86 sd_119 (ev_X9_thrown) (by omega) hb (Nat.le_of_ble_eq_true rfl) dL_law_1257 (pd_k1 ?_)
  refine at_iload dL_law_1260 rfl ?_
  refine at_icmpeq (tgt := 1267) dL_law_1262 (by decide) (fun c1262 => ?_) (fun c1262 => ?_)
  · -- taken 1262
    refine at_iload dL_law_1267 rfl ?_
    refine at_ifne (tgt := 1283) dL_law_1269 (by decide) (fun c1269 => ?_) (fun c1269 => ?_)
    · -- taken 1269
      refine at_goto (tgt := 1462) dL_law_1283 (by decide) ?_
      exact K _ _ _ _ _ _ _ _ _ _ _ (hM.no (jn_j1 hj0 (j1_or)))
    · -- not taken 1269
      exact absurd c1269 (nz_j1 (by decide) hj0 (j1_or))
  · -- not taken 1262
    exact absurd m_no0 c1262
theorem lc_worst (hX : XS G n xs) (q1 : vp_in (nI i + 1) n) (q2 : vp_in (nI i + 2) n) (q3 : vp_in (nI i + 3) n) (q4 : vp_in (nI i + 4) n) (q5 : vp_in (nI i + 5) n) (hM : SM I L R w a ps B t) (hh : 40 ≤ h) (hb : cs + 3 ≤ mc ∧ ss + 18 ≤ ms) (K : LK G h mc ms (cs + 3) (ss + 18) i Q) : pd_At G mi_L_law h mc ms cs ss 1299 [some (.ref G.2.2.2.2), some (.ref (pd_z G + 0)), some (.ref (pd_z G + 119)), some (.ref (pd_z G + 137)), some (.int (nI i)), o5, o6, o7] [] (SD, false, I, L, R) Q := by
  have hrw := hM.1.row
  obtain ⟨cn, cp, hN, hA⟩ := hM.1
  refine at_aload_n dL_law_1299 rfl ?_
  refine at_aload_n dL_law_1300 rfl ?_
  refine at_iload dL_law_1301 rfl ?_
  refine at_iconst dL_law_1303 pc_i1 ?_
  refine at_iadd dL_law_1304 ?_
  refine at_scr hX q1 dL_law_1305 ?_
  refine at_aload_n dL_law_1306 rfl ?_
  refine at_iload dL_law_1307 rfl ?_
  refine at_iconst dL_law_1309 pc_i2 ?_
  refine at_iadd dL_law_1310 ?_
  refine at_scr hX q2 dL_law_1311 ?_
  refine at_aload_n dL_law_1312 rfl ?_
  refine at_hx4 hd_L_worst (by decide) in_L_worst ⟨by decide, by decide, by decide +kernel⟩ (by decide) mlL_151 st_L_worst (ev_L_worst _ _ (ev_X8_worst hN _ _) (j1_or)) (by omega) hb (Nat.le_of_ble_eq_true rfl) dL_law_1313 (fun hj0 I2 L2 R2 hP => ?_) (fun hj0 => ?_)
  have hS2 := fun v => SM.cq (v := v) hM hP
  refine at_istore dL_law_1316 rfl (Nat.le_of_ble_eq_true rfl) ?_
  refine at_aload_n dL_law_1318 rfl ?_
  refine at_aload_n dL_law_1319 rfl ?_
  refine at_iload dL_law_1320 rfl ?_
  refine at_iconst dL_law_1322 pc_i1 ?_
  refine at_iadd dL_law_1323 ?_
  refine at_scr hX q1 dL_law_1324 ?_
  refine at_aload_n dL_law_1325 rfl ?_
  refine at_iload dL_law_1326 rfl ?_
  refine at_iconst dL_law_1328 pc_i2 ?_
  refine at_iadd dL_law_1329 ?_
  refine at_scr hX q2 dL_law_1330 ?_
  refine at_cv2 cvL_153 sd_119 (ev_X9_worst (hS2 0).rs (hS2 0).2.2.1 hrw _ _) (by omega) hb (Nat.le_of_ble_eq_true rfl) dL_law_1331 (pd_m0 hj0 (fun I3 L3 z3 hP3 => ?_))
  refine at_istore dL_law_1334 rfl (Nat.le_of_ble_eq_true rfl) ?_
  refine at_aload_n dL_law_1336 rfl ?_
  refine at_cv0 cvL_86 sd_119 (ev_X9_thrown) (by omega) hb (Nat.le_of_ble_eq_true rfl) dL_law_1337 (pd_k1 ?_)
  refine at_iload dL_law_1340 rfl ?_
  refine at_icmpeq (tgt := 1347) dL_law_1342 (by decide) (fun c1342 => ?_) (fun c1342 => ?_)
  · -- taken 1342
    refine at_iload dL_law_1347 rfl ?_
    refine at_ifne (tgt := 1364) dL_law_1349 (by decide) (fun c1349 => ?_) (fun c1349 => ?_)
    · -- taken 1349
      exact absurd rfl c1349
    · -- not taken 1349
      refine at_aload_n dL_law_1352 rfl ?_
      refine at_iconst dL_law_1353 pc_i0 ?_
      refine at_lald sd_137 (vp_in_nI (n := 0) (by decide) (by decide)) dL_law_1354 ?_
      refine at_iload dL_law_1355 rfl ?_
      refine at_i2l dL_law_1357 ?_
      refine at_lcmp dL_law_1358 ?_
      refine at_ifeq (tgt := 1364) dL_law_1359 (by decide) (fun c1359 => ?_) (fun c1359 => ?_)
      · -- taken 1359
        refine at_goto (tgt := 1462) dL_law_1364 (by decide) ?_
        exact K _ _ _ _ _ _ _ _ _ _ _ ((hS2 _).rq hP3)
      · -- not taken 1359
        exact absurd (lgz (((hP3.2 137 (by decide) 0).trans pd_up_at).trans (rfl))) c1359
  · -- not taken 1342
    exact absurd z3 c1342
  refine at_istore dL_law_1316 rfl (Nat.le_of_ble_eq_true rfl) ?_
  refine at_aload_n dL_law_1318 rfl ?_
  refine at_aload_n dL_law_1319 rfl ?_
  refine at_iload dL_law_1320 rfl ?_
  refine at_iconst dL_law_1322 pc_i1 ?_
  refine at_iadd dL_law_1323 ?_
  refine at_scr hX q1 dL_law_1324 ?_
  refine at_aload_n dL_law_1325 rfl ?_
  refine at_iload dL_law_1326 rfl ?_
  refine at_iconst dL_law_1328 pc_i2 ?_
  refine at_iadd dL_law_1329 ?_
  refine at_scr hX q2 dL_law_1330 ?_
  refine at_cv2 cvL_153 sd_119 (ev_X9_worst hM.rs hM.up.1 hrw _ _) (by omega) hb (Nat.le_of_ble_eq_true rfl) dL_law_1331 (pd_m1 hj0 ?_)
  refine at_istore dL_law_1334 rfl (Nat.le_of_ble_eq_true rfl) ?_
  refine at_aload_n dL_law_1336 rfl ?_
  refine at_cv0 cvL_86 sd_119 (ev_X9_thrown) (by omega) hb (Nat.le_of_ble_eq_true rfl) dL_law_1337 (pd_k1 ?_)
  refine at_iload dL_law_1340 rfl ?_
  refine at_icmpeq (tgt := 1347) dL_law_1342 (by decide) (fun c1342 => ?_) (fun c1342 => ?_)
  · -- taken 1342
    refine at_iload dL_law_1347 rfl ?_
    refine at_ifne (tgt := 1364) dL_law_1349 (by decide) (fun c1349 => ?_) (fun c1349 => ?_)
    · -- taken 1349
      refine at_goto (tgt := 1462) dL_law_1364 (by decide) ?_
      exact K _ _ _ _ _ _ _ _ _ _ _ (hM.no (jn_j1 hj0 (j1_or)))
    · -- not taken 1349
      exact absurd c1349 (nz_j1 (by decide) hj0 (j1_or))
  · -- not taken 1342
    exact absurd m_no0 c1342
theorem lc_cost (hX : XS G n xs) (q1 : vp_in (nI i + 1) n) (q2 : vp_in (nI i + 2) n) (q3 : vp_in (nI i + 3) n) (q4 : vp_in (nI i + 4) n) (q5 : vp_in (nI i + 5) n) (hM : SM I L R w a ps B t) (hh : 40 ≤ h) (hb : cs + 3 ≤ mc ∧ ss + 18 ≤ ms) (K : LK G h mc ms (cs + 3) (ss + 18) i Q) : pd_At G mi_L_law h mc ms cs ss 1367 [some (.ref G.2.2.2.2), some (.ref (pd_z G + 0)), some (.ref (pd_z G + 119)), some (.ref (pd_z G + 137)), some (.int (nI i)), o5, o6, o7] [] (SD, false, I, L, R) Q := by
  have hrw := hM.1.row
  obtain ⟨cn, cp, hN, hA⟩ := hM.1
  refine at_aload_n dL_law_1367 rfl ?_
  refine at_aload_n dL_law_1368 rfl ?_
  refine at_iload dL_law_1369 rfl ?_
  refine at_iconst dL_law_1371 pc_i1 ?_
  refine at_iadd dL_law_1372 ?_
  refine at_scr hX q1 dL_law_1373 ?_
  refine at_aload_n dL_law_1374 rfl ?_
  refine at_hx3 hd_L_cost (by decide) in_L_cost ⟨by decide, by decide, by decide +kernel⟩ (by decide) mlL_154 st_L_cost (ev_L_cost _ (ev_X8_cost hN _) (j1_or)) (by omega) hb (Nat.le_of_ble_eq_true rfl) dL_law_1375 (fun hj0 I2 L2 R2 hP => ?_) (fun hj0 => ?_)
  have hS2 := fun v => SM.cq (v := v) hM hP
  refine at_istore dL_law_1378 rfl (Nat.le_of_ble_eq_true rfl) ?_
  refine at_aload_n dL_law_1380 rfl ?_
  refine at_aload_n dL_law_1381 rfl ?_
  refine at_iload dL_law_1382 rfl ?_
  refine at_iconst dL_law_1384 pc_i1 ?_
  refine at_iadd dL_law_1385 ?_
  refine at_scr hX q1 dL_law_1386 ?_
  refine at_cv1 cvL_156 sd_119 (ev_X9_cost (hS2 0).rs (hS2 0).2.2.1 hrw _) (by omega) hb (Nat.le_of_ble_eq_true rfl) dL_law_1387 (pd_m0 hj0 (fun I3 L3 z3 hP3 => ?_))
  refine at_istore dL_law_1390 rfl (Nat.le_of_ble_eq_true rfl) ?_
  refine at_aload_n dL_law_1392 rfl ?_
  refine at_cv0 cvL_86 sd_119 (ev_X9_thrown) (by omega) hb (Nat.le_of_ble_eq_true rfl) dL_law_1393 (pd_k1 ?_)
  refine at_iload dL_law_1396 rfl ?_
  refine at_icmpeq (tgt := 1403) dL_law_1398 (by decide) (fun c1398 => ?_) (fun c1398 => ?_)
  · -- taken 1398
    refine at_iload dL_law_1403 rfl ?_
    refine at_ifne (tgt := 1420) dL_law_1405 (by decide) (fun c1405 => ?_) (fun c1405 => ?_)
    · -- taken 1405
      exact absurd rfl c1405
    · -- not taken 1405
      refine at_aload_n dL_law_1408 rfl ?_
      refine at_iconst dL_law_1409 pc_i0 ?_
      refine at_lald sd_137 (vp_in_nI (n := 0) (by decide) (by decide)) dL_law_1410 ?_
      refine at_iload dL_law_1411 rfl ?_
      refine at_i2l dL_law_1413 ?_
      refine at_lcmp dL_law_1414 ?_
      refine at_ifeq (tgt := 1420) dL_law_1415 (by decide) (fun c1415 => ?_) (fun c1415 => ?_)
      · -- taken 1415
        refine at_goto (tgt := 1462) dL_law_1420 (by decide) ?_
        exact K _ _ _ _ _ _ _ _ _ _ _ ((hS2 _).rq hP3)
      · -- not taken 1415
        exact absurd (lgz (((hP3.2 137 (by decide) 0).trans pd_up_at).trans (rfl))) c1415
  · -- not taken 1398
    exact absurd z3 c1398
  refine at_istore dL_law_1378 rfl (Nat.le_of_ble_eq_true rfl) ?_
  refine at_aload_n dL_law_1380 rfl ?_
  refine at_aload_n dL_law_1381 rfl ?_
  refine at_iload dL_law_1382 rfl ?_
  refine at_iconst dL_law_1384 pc_i1 ?_
  refine at_iadd dL_law_1385 ?_
  refine at_scr hX q1 dL_law_1386 ?_
  refine at_cv1 cvL_156 sd_119 (ev_X9_cost hM.rs hM.up.1 hrw _) (by omega) hb (Nat.le_of_ble_eq_true rfl) dL_law_1387 (pd_m1 hj0 ?_)
  refine at_istore dL_law_1390 rfl (Nat.le_of_ble_eq_true rfl) ?_
  refine at_aload_n dL_law_1392 rfl ?_
  refine at_cv0 cvL_86 sd_119 (ev_X9_thrown) (by omega) hb (Nat.le_of_ble_eq_true rfl) dL_law_1393 (pd_k1 ?_)
  refine at_iload dL_law_1396 rfl ?_
  refine at_icmpeq (tgt := 1403) dL_law_1398 (by decide) (fun c1398 => ?_) (fun c1398 => ?_)
  · -- taken 1398
    refine at_iload dL_law_1403 rfl ?_
    refine at_ifne (tgt := 1420) dL_law_1405 (by decide) (fun c1405 => ?_) (fun c1405 => ?_)
    · -- taken 1405
      refine at_goto (tgt := 1462) dL_law_1420 (by decide) ?_
      exact K _ _ _ _ _ _ _ _ _ _ _ (hM.no (jn_j1 hj0 (j1_or)))
    · -- not taken 1405
      exact absurd c1405 (nz_j1 (by decide) hj0 (j1_or))
  · -- not taken 1398
    exact absurd m_no0 c1398
theorem bz_or {x : Int32} : (if x = 0 then (0 : Int32) else 1) = 0 ∨ (if x = 0 then (0 : Int32) else 1) = 1 := by by_cases e : x = 0; exact Or.inl (if_pos e); exact Or.inr (if_neg e)
theorem lc_sample (hX : XS G n xs) (q1 : vp_in (nI i + 1) n) (q2 : vp_in (nI i + 2) n) (q3 : vp_in (nI i + 3) n) (q4 : vp_in (nI i + 4) n) (q5 : vp_in (nI i + 5) n) (hM : SM I L R w a ps B t) (hh : 40 ≤ h) (hb : cs + 3 ≤ mc ∧ ss + 18 ≤ ms) (K : LK G h mc ms (cs + 3) (ss + 18) i Q) : pd_At G mi_L_law h mc ms cs ss 294 [some (.ref G.2.2.2.2), some (.ref (pd_z G + 0)), some (.ref (pd_z G + 119)), some (.ref (pd_z G + 137)), some (.int (nI i)), o5, o6, o7] [] (SD, false, I, L, R) Q := by
  have hrw := hM.1.row
  obtain ⟨cn, cp, hN, hA⟩ := hM.1
  refine at_aload_n dL_law_294 rfl ?_
  refine at_aload_n dL_law_295 rfl ?_
  refine at_iload dL_law_296 rfl ?_
  refine at_iconst dL_law_298 pc_i1 ?_
  refine at_iadd dL_law_299 ?_
  refine at_scr hX q1 dL_law_300 ?_
  refine at_aload_n dL_law_301 rfl ?_
  refine at_iload dL_law_302 rfl ?_
  refine at_iconst dL_law_304 pc_i2 ?_
  refine at_iadd dL_law_305 ?_
  refine at_scr hX q2 dL_law_306 ?_
  refine at_aload_n dL_law_307 rfl ?_
  refine at_iload dL_law_308 rfl ?_
  refine at_iconst dL_law_310 pc_i3 ?_
  refine at_iadd dL_law_311 ?_
  refine at_scr hX q3 dL_law_312 ?_
  refine at_aload_n dL_law_313 rfl ?_
  refine at_hx5 hd_L_sample (by decide) in_L_sample ⟨by decide, by decide, by decide +kernel⟩ (by decide) mlL_94 st_L_sample (ev_L_sample _ _ _ (ev_X8_sample hM.1 _ _ _) (j1_or)) (by omega) hb (Nat.le_of_ble_eq_true rfl) dL_law_314 (fun hj0 I2 L2 R2 hP => ?_) (fun hj0 => ?_)
  obtain ⟨hC2, hF2⟩ := hP
  have hS2 := SM.mid hM hF2
  refine at_istore dL_law_317 rfl (Nat.le_of_ble_eq_true rfl) ?_
  refine at_aload_n dL_law_319 rfl ?_
  refine at_aload_n dL_law_320 rfl ?_
  refine at_iload dL_law_321 rfl ?_
  refine at_iconst dL_law_323 pc_i1 ?_
  refine at_iadd dL_law_324 ?_
  refine at_scr hX q1 dL_law_325 ?_
  refine at_aload_n dL_law_326 rfl ?_
  refine at_iload dL_law_327 rfl ?_
  refine at_iconst dL_law_329 pc_i2 ?_
  refine at_iadd dL_law_330 ?_
  refine at_scr hX q2 dL_law_331 ?_
  refine at_aload_n dL_law_332 rfl ?_
  refine at_iload dL_law_333 rfl ?_
  refine at_iconst dL_law_335 pc_i3 ?_
  refine at_iadd dL_law_336 ?_
  refine at_scr hX q3 dL_law_337 ?_
  refine at_cv3 cvL_97 sd_119 (ev_X9_sample hC2.rs hS2.1 hrw hS2.2.1 _ _ _) (by omega) hb (Nat.le_of_ble_eq_true rfl) dL_law_338 (pd_m0 hj0 (fun I3 L3 z3 hP3 => ?_))
  refine at_istore dL_law_341 rfl (Nat.le_of_ble_eq_true rfl) ?_
  refine at_aload_n dL_law_343 rfl ?_
  refine at_cv0 cvL_86 sd_119 (ev_X9_thrown) (by omega) hb (Nat.le_of_ble_eq_true rfl) dL_law_344 (pd_k1 ?_)
  refine at_iload dL_law_347 rfl ?_
  refine at_icmpeq (tgt := 354) dL_law_349 (by decide) (fun c349 => ?_) (fun c349 => ?_)
  · -- taken 349
    refine at_iload dL_law_354 rfl ?_
    refine at_ifne (tgt := 371) dL_law_356 (by decide) (fun c356 => ?_) (fun c356 => ?_)
    · -- taken 356
      exact absurd rfl c356
    · -- not taken 356
      refine at_aload_n dL_law_359 rfl ?_
      refine at_iconst dL_law_360 pc_i0 ?_
      refine at_lald sd_137 (vp_in_nI (n := 0) (by decide) (by decide)) dL_law_361 ?_
      refine at_iload dL_law_362 rfl ?_
      refine at_i2l dL_law_364 ?_
      refine at_lcmp dL_law_365 ?_
      refine at_ifeq (tgt := 371) dL_law_366 (by decide) (fun c366 => ?_) (fun c366 => ?_)
      · -- taken 366
        refine at_goto (tgt := 1462) dL_law_371 (by decide) ?_
        exact K _ _ _ _ _ _ _ _ _ _ _ (hM.act hC2 hF2 hP3)
      · -- not taken 366
        exact absurd (lgz (((congrFun (congrFun hP3.1 137) 0).trans pd_up_at).trans (rfl))) c366
  · -- not taken 349
    exact absurd z3 c349
  refine at_istore dL_law_317 rfl (Nat.le_of_ble_eq_true rfl) ?_
  refine at_aload_n dL_law_319 rfl ?_
  refine at_aload_n dL_law_320 rfl ?_
  refine at_iload dL_law_321 rfl ?_
  refine at_iconst dL_law_323 pc_i1 ?_
  refine at_iadd dL_law_324 ?_
  refine at_scr hX q1 dL_law_325 ?_
  refine at_aload_n dL_law_326 rfl ?_
  refine at_iload dL_law_327 rfl ?_
  refine at_iconst dL_law_329 pc_i2 ?_
  refine at_iadd dL_law_330 ?_
  refine at_scr hX q2 dL_law_331 ?_
  refine at_aload_n dL_law_332 rfl ?_
  refine at_iload dL_law_333 rfl ?_
  refine at_iconst dL_law_335 pc_i3 ?_
  refine at_iadd dL_law_336 ?_
  refine at_scr hX q3 dL_law_337 ?_
  refine at_cv3 cvL_97 sd_119 (ev_X9_sample hM.rs hM.up.1 hrw hM.up.2.1 _ _ _) (by omega) hb (Nat.le_of_ble_eq_true rfl) dL_law_338 (pd_m1 hj0 ?_)
  refine at_istore dL_law_341 rfl (Nat.le_of_ble_eq_true rfl) ?_
  refine at_aload_n dL_law_343 rfl ?_
  refine at_cv0 cvL_86 sd_119 (ev_X9_thrown) (by omega) hb (Nat.le_of_ble_eq_true rfl) dL_law_344 (pd_k1 ?_)
  refine at_iload dL_law_347 rfl ?_
  refine at_icmpeq (tgt := 354) dL_law_349 (by decide) (fun c349 => ?_) (fun c349 => ?_)
  · -- taken 349
    refine at_iload dL_law_354 rfl ?_
    refine at_ifne (tgt := 371) dL_law_356 (by decide) (fun c356 => ?_) (fun c356 => ?_)
    · -- taken 356
      refine at_goto (tgt := 1462) dL_law_371 (by decide) ?_
      exact K _ _ _ _ _ _ _ _ _ _ _ (hM.no (jn_j1 hj0 (j1_or)))
    · -- not taken 356
      exact absurd c356 (nz_j1 (by decide) hj0 (j1_or))
  · -- not taken 349
    exact absurd m_no0 c349
theorem lc_strike (hX : XS G n xs) (q1 : vp_in (nI i + 1) n) (q2 : vp_in (nI i + 2) n) (q3 : vp_in (nI i + 3) n) (q4 : vp_in (nI i + 4) n) (q5 : vp_in (nI i + 5) n) (hM : SM I L R w a ps B t) (hh : 40 ≤ h) (hb : cs + 3 ≤ mc ∧ ss + 18 ≤ ms) (K : LK G h mc ms (cs + 3) (ss + 18) i Q) : pd_At G mi_L_law h mc ms cs ss 374 [some (.ref G.2.2.2.2), some (.ref (pd_z G + 0)), some (.ref (pd_z G + 119)), some (.ref (pd_z G + 137)), some (.int (nI i)), o5, o6, o7] [] (SD, false, I, L, R) Q := by
  have hrw := hM.1.row
  obtain ⟨cn, cp, hN, hA⟩ := hM.1
  refine at_aload_n dL_law_374 rfl ?_
  refine at_aload_n dL_law_375 rfl ?_
  refine at_iload dL_law_376 rfl ?_
  refine at_iconst dL_law_378 pc_i1 ?_
  refine at_iadd dL_law_379 ?_
  refine at_scr hX q1 dL_law_380 ?_
  refine at_aload_n dL_law_381 rfl ?_
  refine at_iload dL_law_382 rfl ?_
  refine at_iconst dL_law_384 pc_i2 ?_
  refine at_iadd dL_law_385 ?_
  refine at_scr hX q2 dL_law_386 ?_
  refine at_bz dL_law_387 dL_law_390 dL_law_391 dL_law_394 ?_
  refine at_aload_n dL_law_395 rfl ?_
  refine at_hx4 hd_L_strike (by decide) in_L_strike ⟨by decide, by decide, by decide +kernel⟩ (by decide) mlL_98 st_L_strike (ev_L_strike _ _ (ev_X8_strike hM.1 _ bz_or) (j1_or)) (by omega) hb (Nat.le_of_ble_eq_true rfl) dL_law_396 (fun hj0 I2 L2 R2 hP => ?_) (fun hj0 => ?_)
  obtain ⟨hC2, hF2⟩ := hP
  have hS2 := SM.mid hM hF2
  refine at_istore dL_law_399 rfl (Nat.le_of_ble_eq_true rfl) ?_
  refine at_aload_n dL_law_401 rfl ?_
  refine at_aload_n dL_law_402 rfl ?_
  refine at_iload dL_law_403 rfl ?_
  refine at_iconst dL_law_405 pc_i1 ?_
  refine at_iadd dL_law_406 ?_
  refine at_scr hX q1 dL_law_407 ?_
  refine at_aload_n dL_law_408 rfl ?_
  refine at_iload dL_law_409 rfl ?_
  refine at_iconst dL_law_411 pc_i2 ?_
  refine at_iadd dL_law_412 ?_
  refine at_scr hX q2 dL_law_413 ?_
  refine at_bz dL_law_414 dL_law_417 dL_law_418 dL_law_421 ?_
  refine at_cv2 cvL_101 sd_119 (ev_X9_strike hC2.rs hS2.1 hrw hS2.2.1 _ bz_or) (by omega) hb (Nat.le_of_ble_eq_true rfl) dL_law_422 (pd_m0 hj0 (fun I3 L3 z3 hP3 => ?_))
  refine at_istore dL_law_425 rfl (Nat.le_of_ble_eq_true rfl) ?_
  refine at_aload_n dL_law_427 rfl ?_
  refine at_cv0 cvL_86 sd_119 (ev_X9_thrown) (by omega) hb (Nat.le_of_ble_eq_true rfl) dL_law_428 (pd_k1 ?_)
  refine at_iload dL_law_431 rfl ?_
  refine at_icmpeq (tgt := 438) dL_law_433 (by decide) (fun c433 => ?_) (fun c433 => ?_)
  · -- taken 433
    refine at_iload dL_law_438 rfl ?_
    refine at_ifne (tgt := 455) dL_law_440 (by decide) (fun c440 => ?_) (fun c440 => ?_)
    · -- taken 440
      exact absurd rfl c440
    · -- not taken 440
      refine at_aload_n dL_law_443 rfl ?_
      refine at_iconst dL_law_444 pc_i0 ?_
      refine at_lald sd_137 (vp_in_nI (n := 0) (by decide) (by decide)) dL_law_445 ?_
      refine at_iload dL_law_446 rfl ?_
      refine at_i2l dL_law_448 ?_
      refine at_lcmp dL_law_449 ?_
      refine at_ifeq (tgt := 455) dL_law_450 (by decide) (fun c450 => ?_) (fun c450 => ?_)
      · -- taken 450
        refine at_goto (tgt := 1462) dL_law_455 (by decide) ?_
        exact K _ _ _ _ _ _ _ _ _ _ _ (hM.act hC2 hF2 hP3)
      · -- not taken 450
        exact absurd (lgz (((congrFun (congrFun hP3.1 137) 0).trans pd_up_at).trans (rfl))) c450
  · -- not taken 433
    exact absurd z3 c433
  refine at_istore dL_law_399 rfl (Nat.le_of_ble_eq_true rfl) ?_
  refine at_aload_n dL_law_401 rfl ?_
  refine at_aload_n dL_law_402 rfl ?_
  refine at_iload dL_law_403 rfl ?_
  refine at_iconst dL_law_405 pc_i1 ?_
  refine at_iadd dL_law_406 ?_
  refine at_scr hX q1 dL_law_407 ?_
  refine at_aload_n dL_law_408 rfl ?_
  refine at_iload dL_law_409 rfl ?_
  refine at_iconst dL_law_411 pc_i2 ?_
  refine at_iadd dL_law_412 ?_
  refine at_scr hX q2 dL_law_413 ?_
  refine at_bz dL_law_414 dL_law_417 dL_law_418 dL_law_421 ?_
  refine at_cv2 cvL_101 sd_119 (ev_X9_strike hM.rs hM.up.1 hrw hM.up.2.1 _ bz_or) (by omega) hb (Nat.le_of_ble_eq_true rfl) dL_law_422 (pd_m1 hj0 ?_)
  refine at_istore dL_law_425 rfl (Nat.le_of_ble_eq_true rfl) ?_
  refine at_aload_n dL_law_427 rfl ?_
  refine at_cv0 cvL_86 sd_119 (ev_X9_thrown) (by omega) hb (Nat.le_of_ble_eq_true rfl) dL_law_428 (pd_k1 ?_)
  refine at_iload dL_law_431 rfl ?_
  refine at_icmpeq (tgt := 438) dL_law_433 (by decide) (fun c433 => ?_) (fun c433 => ?_)
  · -- taken 433
    refine at_iload dL_law_438 rfl ?_
    refine at_ifne (tgt := 455) dL_law_440 (by decide) (fun c440 => ?_) (fun c440 => ?_)
    · -- taken 440
      refine at_goto (tgt := 1462) dL_law_455 (by decide) ?_
      exact K _ _ _ _ _ _ _ _ _ _ _ (hM.no (jn_j1 hj0 (j1_or)))
    · -- not taken 440
      exact absurd c440 (nz_j1 (by decide) hj0 (j1_or))
  · -- not taken 433
    exact absurd m_no0 c433
theorem lc_sign (hX : XS G n xs) (q1 : vp_in (nI i + 1) n) (q2 : vp_in (nI i + 2) n) (q3 : vp_in (nI i + 3) n) (q4 : vp_in (nI i + 4) n) (q5 : vp_in (nI i + 5) n) (hM : SM I L R w a ps B t) (hh : 40 ≤ h) (hb : cs + 3 ≤ mc ∧ ss + 18 ≤ ms) (K : LK G h mc ms (cs + 3) (ss + 18) i Q) : pd_At G mi_L_law h mc ms cs ss 458 [some (.ref G.2.2.2.2), some (.ref (pd_z G + 0)), some (.ref (pd_z G + 119)), some (.ref (pd_z G + 137)), some (.int (nI i)), o5, o6, o7] [] (SD, false, I, L, R) Q := by
  have hrw := hM.1.row
  obtain ⟨cn, cp, hN, hA⟩ := hM.1
  refine at_aload_n dL_law_458 rfl ?_
  refine at_aload_n dL_law_459 rfl ?_
  refine at_iload dL_law_460 rfl ?_
  refine at_iconst dL_law_462 pc_i1 ?_
  refine at_iadd dL_law_463 ?_
  refine at_scr hX q1 dL_law_464 ?_
  refine at_aload_n dL_law_465 rfl ?_
  refine at_iload dL_law_466 rfl ?_
  refine at_iconst dL_law_468 pc_i2 ?_
  refine at_iadd dL_law_469 ?_
  refine at_scr hX q2 dL_law_470 ?_
  refine at_aload_n dL_law_471 rfl ?_
  refine at_iload dL_law_472 rfl ?_
  refine at_iconst dL_law_474 pc_i3 ?_
  refine at_iadd dL_law_475 ?_
  refine at_scr hX q3 dL_law_476 ?_
  refine at_aload_n dL_law_477 rfl ?_
  refine at_hx5 hd_L_sign (by decide) in_L_sign ⟨by decide, by decide, by decide +kernel⟩ (by decide) mlL_102 st_L_sign (ev_L_sign _ _ _ (ev_X8_sign hM.1 _ _ _) (j3_or)) (by omega) hb (Nat.le_of_ble_eq_true rfl) dL_law_478 (fun hj0 I2 L2 R2 hP => ?_) (fun hj0 => ?_)
  obtain ⟨hC2, hF2⟩ := hP
  have hS2 := SM.mid hM hF2
  refine at_istore dL_law_481 rfl (Nat.le_of_ble_eq_true rfl) ?_
  refine at_aload_n dL_law_483 rfl ?_
  refine at_aload_n dL_law_484 rfl ?_
  refine at_iload dL_law_485 rfl ?_
  refine at_iconst dL_law_487 pc_i1 ?_
  refine at_iadd dL_law_488 ?_
  refine at_scr hX q1 dL_law_489 ?_
  refine at_aload_n dL_law_490 rfl ?_
  refine at_iload dL_law_491 rfl ?_
  refine at_iconst dL_law_493 pc_i2 ?_
  refine at_iadd dL_law_494 ?_
  refine at_scr hX q2 dL_law_495 ?_
  refine at_aload_n dL_law_496 rfl ?_
  refine at_iload dL_law_497 rfl ?_
  refine at_iconst dL_law_499 pc_i3 ?_
  refine at_iadd dL_law_500 ?_
  refine at_scr hX q3 dL_law_501 ?_
  refine at_cv3 cvL_104 sd_119 (ev_X9_sign hC2.rs hS2.1 hrw hS2.2.1 _ _ _) (by omega) hb (Nat.le_of_ble_eq_true rfl) dL_law_502 (pd_m0 hj0 (fun I3 L3 z3 hP3 => ?_))
  refine at_istore dL_law_505 rfl (Nat.le_of_ble_eq_true rfl) ?_
  refine at_aload_n dL_law_507 rfl ?_
  refine at_cv0 cvL_86 sd_119 (ev_X9_thrown) (by omega) hb (Nat.le_of_ble_eq_true rfl) dL_law_508 (pd_k1 ?_)
  refine at_iload dL_law_511 rfl ?_
  refine at_icmpeq (tgt := 518) dL_law_513 (by decide) (fun c513 => ?_) (fun c513 => ?_)
  · -- taken 513
    refine at_iload dL_law_518 rfl ?_
    refine at_ifne (tgt := 535) dL_law_520 (by decide) (fun c520 => ?_) (fun c520 => ?_)
    · -- taken 520
      exact absurd rfl c520
    · -- not taken 520
      refine at_aload_n dL_law_523 rfl ?_
      refine at_iconst dL_law_524 pc_i0 ?_
      refine at_lald sd_137 (vp_in_nI (n := 0) (by decide) (by decide)) dL_law_525 ?_
      refine at_iload dL_law_526 rfl ?_
      refine at_i2l dL_law_528 ?_
      refine at_lcmp dL_law_529 ?_
      refine at_ifeq (tgt := 535) dL_law_530 (by decide) (fun c530 => ?_) (fun c530 => ?_)
      · -- taken 530
        refine at_goto (tgt := 1462) dL_law_535 (by decide) ?_
        exact K _ _ _ _ _ _ _ _ _ _ _ (hM.act hC2 hF2 hP3)
      · -- not taken 530
        exact absurd (lgz (((congrFun (congrFun hP3.1 137) 0).trans pd_up_at).trans (rfl))) c530
  · -- not taken 513
    exact absurd z3 c513
  refine at_istore dL_law_481 rfl (Nat.le_of_ble_eq_true rfl) ?_
  refine at_aload_n dL_law_483 rfl ?_
  refine at_aload_n dL_law_484 rfl ?_
  refine at_iload dL_law_485 rfl ?_
  refine at_iconst dL_law_487 pc_i1 ?_
  refine at_iadd dL_law_488 ?_
  refine at_scr hX q1 dL_law_489 ?_
  refine at_aload_n dL_law_490 rfl ?_
  refine at_iload dL_law_491 rfl ?_
  refine at_iconst dL_law_493 pc_i2 ?_
  refine at_iadd dL_law_494 ?_
  refine at_scr hX q2 dL_law_495 ?_
  refine at_aload_n dL_law_496 rfl ?_
  refine at_iload dL_law_497 rfl ?_
  refine at_iconst dL_law_499 pc_i3 ?_
  refine at_iadd dL_law_500 ?_
  refine at_scr hX q3 dL_law_501 ?_
  refine at_cv3 cvL_104 sd_119 (ev_X9_sign hM.rs hM.up.1 hrw hM.up.2.1 _ _ _) (by omega) hb (Nat.le_of_ble_eq_true rfl) dL_law_502 (pd_m1 hj0 ?_)
  refine at_istore dL_law_505 rfl (Nat.le_of_ble_eq_true rfl) ?_
  refine at_aload_n dL_law_507 rfl ?_
  refine at_cv0 cvL_86 sd_119 (ev_X9_thrown) (by omega) hb (Nat.le_of_ble_eq_true rfl) dL_law_508 (pd_k1 ?_)
  refine at_iload dL_law_511 rfl ?_
  refine at_icmpeq (tgt := 518) dL_law_513 (by decide) (fun c513 => ?_) (fun c513 => ?_)
  · -- taken 513
    refine at_iload dL_law_518 rfl ?_
    refine at_ifne (tgt := 535) dL_law_520 (by decide) (fun c520 => ?_) (fun c520 => ?_)
    · -- taken 520
      refine at_goto (tgt := 1462) dL_law_535 (by decide) ?_
      exact K _ _ _ _ _ _ _ _ _ _ _ (hM.no (jn_j3 hj0 (j3_or)))
    · -- not taken 520
      exact absurd c520 (nz_j3 (by decide) hj0 (j3_or))
  · -- not taken 513
    exact absurd m_no0 c513
theorem lc_erase (hX : XS G n xs) (q1 : vp_in (nI i + 1) n) (q2 : vp_in (nI i + 2) n) (q3 : vp_in (nI i + 3) n) (q4 : vp_in (nI i + 4) n) (q5 : vp_in (nI i + 5) n) (hM : SM I L R w a ps B t) (hh : 40 ≤ h) (hb : cs + 3 ≤ mc ∧ ss + 18 ≤ ms) (K : LK G h mc ms (cs + 3) (ss + 18) i Q) : pd_At G mi_L_law h mc ms cs ss 538 [some (.ref G.2.2.2.2), some (.ref (pd_z G + 0)), some (.ref (pd_z G + 119)), some (.ref (pd_z G + 137)), some (.int (nI i)), o5, o6, o7] [] (SD, false, I, L, R) Q := by
  have hrw := hM.1.row
  obtain ⟨cn, cp, hN, hA⟩ := hM.1
  refine at_aload_n dL_law_538 rfl ?_
  refine at_aload_n dL_law_539 rfl ?_
  refine at_iload dL_law_540 rfl ?_
  refine at_iconst dL_law_542 pc_i1 ?_
  refine at_iadd dL_law_543 ?_
  refine at_scr hX q1 dL_law_544 ?_
  refine at_aload_n dL_law_545 rfl ?_
  refine at_iload dL_law_546 rfl ?_
  refine at_iconst dL_law_548 pc_i2 ?_
  refine at_iadd dL_law_549 ?_
  refine at_scr hX q2 dL_law_550 ?_
  refine at_aload_n dL_law_551 rfl ?_
  refine at_hx4 hd_L_erase (by decide) in_L_erase ⟨by decide, by decide, by decide +kernel⟩ (by decide) mlL_105 st_L_erase (ev_L_erase _ _ (ev_X8_erase hM.1 _ _) (j1_or)) (by omega) hb (Nat.le_of_ble_eq_true rfl) dL_law_552 (fun hj0 I2 L2 R2 hP => ?_) (fun hj0 => ?_)
  obtain ⟨hC2, hF2⟩ := hP
  have hS2 := SM.mid hM hF2
  refine at_istore dL_law_555 rfl (Nat.le_of_ble_eq_true rfl) ?_
  refine at_aload_n dL_law_557 rfl ?_
  refine at_aload_n dL_law_558 rfl ?_
  refine at_iload dL_law_559 rfl ?_
  refine at_iconst dL_law_561 pc_i1 ?_
  refine at_iadd dL_law_562 ?_
  refine at_scr hX q1 dL_law_563 ?_
  refine at_aload_n dL_law_564 rfl ?_
  refine at_iload dL_law_565 rfl ?_
  refine at_iconst dL_law_567 pc_i2 ?_
  refine at_iadd dL_law_568 ?_
  refine at_scr hX q2 dL_law_569 ?_
  refine at_cv2 cvL_108 sd_119 (ev_X9_erase hC2.rs hS2.1 hrw hS2.2.1 _ _) (by omega) hb (Nat.le_of_ble_eq_true rfl) dL_law_570 (pd_m0 hj0 (fun I3 L3 z3 hP3 => ?_))
  refine at_istore dL_law_573 rfl (Nat.le_of_ble_eq_true rfl) ?_
  refine at_aload_n dL_law_575 rfl ?_
  refine at_cv0 cvL_86 sd_119 (ev_X9_thrown) (by omega) hb (Nat.le_of_ble_eq_true rfl) dL_law_576 (pd_k1 ?_)
  refine at_iload dL_law_579 rfl ?_
  refine at_icmpeq (tgt := 586) dL_law_581 (by decide) (fun c581 => ?_) (fun c581 => ?_)
  · -- taken 581
    refine at_iload dL_law_586 rfl ?_
    refine at_ifne (tgt := 603) dL_law_588 (by decide) (fun c588 => ?_) (fun c588 => ?_)
    · -- taken 588
      exact absurd rfl c588
    · -- not taken 588
      refine at_aload_n dL_law_591 rfl ?_
      refine at_iconst dL_law_592 pc_i0 ?_
      refine at_lald sd_137 (vp_in_nI (n := 0) (by decide) (by decide)) dL_law_593 ?_
      refine at_iload dL_law_594 rfl ?_
      refine at_i2l dL_law_596 ?_
      refine at_lcmp dL_law_597 ?_
      refine at_ifeq (tgt := 603) dL_law_598 (by decide) (fun c598 => ?_) (fun c598 => ?_)
      · -- taken 598
        refine at_goto (tgt := 1462) dL_law_603 (by decide) ?_
        exact K _ _ _ _ _ _ _ _ _ _ _ (hM.act hC2 hF2 hP3)
      · -- not taken 598
        exact absurd (lgz (((congrFun (congrFun hP3.1 137) 0).trans pd_up_at).trans (rfl))) c598
  · -- not taken 581
    exact absurd z3 c581
  refine at_istore dL_law_555 rfl (Nat.le_of_ble_eq_true rfl) ?_
  refine at_aload_n dL_law_557 rfl ?_
  refine at_aload_n dL_law_558 rfl ?_
  refine at_iload dL_law_559 rfl ?_
  refine at_iconst dL_law_561 pc_i1 ?_
  refine at_iadd dL_law_562 ?_
  refine at_scr hX q1 dL_law_563 ?_
  refine at_aload_n dL_law_564 rfl ?_
  refine at_iload dL_law_565 rfl ?_
  refine at_iconst dL_law_567 pc_i2 ?_
  refine at_iadd dL_law_568 ?_
  refine at_scr hX q2 dL_law_569 ?_
  refine at_cv2 cvL_108 sd_119 (ev_X9_erase hM.rs hM.up.1 hrw hM.up.2.1 _ _) (by omega) hb (Nat.le_of_ble_eq_true rfl) dL_law_570 (pd_m1 hj0 ?_)
  refine at_istore dL_law_573 rfl (Nat.le_of_ble_eq_true rfl) ?_
  refine at_aload_n dL_law_575 rfl ?_
  refine at_cv0 cvL_86 sd_119 (ev_X9_thrown) (by omega) hb (Nat.le_of_ble_eq_true rfl) dL_law_576 (pd_k1 ?_)
  refine at_iload dL_law_579 rfl ?_
  refine at_icmpeq (tgt := 586) dL_law_581 (by decide) (fun c581 => ?_) (fun c581 => ?_)
  · -- taken 581
    refine at_iload dL_law_586 rfl ?_
    refine at_ifne (tgt := 603) dL_law_588 (by decide) (fun c588 => ?_) (fun c588 => ?_)
    · -- taken 588
      refine at_goto (tgt := 1462) dL_law_603 (by decide) ?_
      exact K _ _ _ _ _ _ _ _ _ _ _ (hM.no (jn_j1 hj0 (j1_or)))
    · -- not taken 588
      exact absurd c588 (nz_j1 (by decide) hj0 (j1_or))
  · -- not taken 581
    exact absurd m_no0 c581
theorem SM.tmid (h : SM I L R w a ps B t) (e9 : ∀ c, 119 ≤ c → ∀ j, I1 c j = I c j) : RQ I1 122 w.1 ∧ MP I1 a ps ∧ MT I1 B t := ⟨fun k hk => (e9 _ (by decide) _).trans (h.2.2.1 k hk), h.2.2.2.1.fr (e9 _ (by decide) _) (fun x j q q2 => e9 x (by omega) j), h.2.2.2.2.1.fr (e9 _ (by decide) _) (e9 _ (by decide))⟩
theorem SM.tx {res : RW ⊕ (Nat × Nat)} (h : SM I L R w a ps B t) (hC : CW I1 L1 R1 (txW res w) (txA res a) (txP res a ps w)) (e6 : I1 6 1 = 0) (e7 : I1 0 7 = txF res) (e0 : ∀ j, j ≠ 5 → j ≠ 7 → I1 0 j = I 0 j) (e9 : ∀ c, 119 ≤ c → ∀ j, I1 c j = I c j) (hT : TQ I1 (pd_up L1 137 0 v) res w a ps I2 L2) : SM I2 L2 R1 (txW res w) (txA res a) (txP res a ps w) B 0 := by
  obtain ⟨h1, h2, h3, h4, h5, h6, h7, h8, h9⟩ := h
  obtain ⟨rfl, q1, q2, q3, q4, q5⟩ := hT
  have lo : ∀ x, x < 119 → ∀ j, I2 x j = I1 x j := fun x hx j => q5 x j (by omega) (by omega) (by omega) (by omega)
  have re : ∀ j, I2 120 j = I 120 j := fun j => (q5 120 j (by decide) (by decide) (by decide) (by decide)).trans (e9 120 (by decide) j)
  exact ⟨hC.fr2 (lo _ (by decide) _) (fun x _ z _ j => lo x z j) (fun x _ z2 _ j => pd_up_nb (by omega)), ⟨(lo _ (by decide) _).trans e6, by decide, fun k hk => absurd hk (Nat.not_lt_zero k)⟩, q1, q2, ⟨q3, by decide, fun k hk => absurd hk (Nat.not_lt_zero k)⟩, ((lo _ (by decide) _).trans e7).trans q4.symm, by rw [lo _ (by decide), e0 _ (by decide) (by decide), re]; exact h7, by rw [lo _ (by decide), e0 _ (by decide) (by decide), re]; exact h8, by rw [lo _ (by decide), e0 _ (by decide) (by decide), re]; exact h9⟩
theorem lc_text (hX : XS G n xs) (q1 : vp_in (nI i + 1) n) (q2 : vp_in (nI i + 2) n) (q3 : vp_in (nI i + 3) n) (q4 : vp_in (nI i + 4) n) (q5 : vp_in (nI i + 5) n) (hM : SM I L R w a ps B t) (hh : 40 ≤ h) (hb : cs + 3 ≤ mc ∧ ss + 18 ≤ ms) (K : LK G h mc ms (cs + 3) (ss + 18) i Q) : pd_At G mi_L_law h mc ms cs ss 225 [some (.ref G.2.2.2.2), some (.ref (pd_z G + 0)), some (.ref (pd_z G + 119)), some (.ref (pd_z G + 137)), some (.int (nI i)), o5, o6, o7] [] (SD, false, I, L, R) Q := by
  have hrw := hM.1.row
  obtain ⟨cn, cp, hN, hA⟩ := hM.1
  refine at_aload_n dL_law_225 rfl ?_
  refine at_aload_n dL_law_226 rfl ?_
  refine at_iload dL_law_227 rfl ?_
  refine at_iconst dL_law_229 pc_i1 ?_
  refine at_iadd dL_law_230 ?_
  refine at_scr hX q1 dL_law_231 ?_
  refine at_aload_n dL_law_232 rfl ?_
  refine at_hx3 hd_L_text (by decide) in_L_text ⟨by decide, by decide, by decide +kernel⟩ (by decide) mlL_80 st_L_text (ev_L_text _ (ev_X8_text hM.1 hM.2.1 _) (j1_or)) (by omega) hb (Nat.le_of_ble_eq_true rfl) dL_law_233 (fun hj0 I2 L2 R2 hP => ?_) (fun hj0 => ?_)
  obtain ⟨hC2, e6, e7, e0, e9, eL⟩ := hP
  have hS2 := SM.tmid hM e9
  refine at_istore dL_law_236 rfl (Nat.le_of_ble_eq_true rfl) ?_
  refine at_aload_n dL_law_238 rfl ?_
  refine at_aload_n dL_law_239 rfl ?_
  refine at_iload dL_law_240 rfl ?_
  refine at_iconst dL_law_242 pc_i1 ?_
  refine at_iadd dL_law_243 ?_
  refine at_scr hX q1 dL_law_244 ?_
  refine at_cv1 cvL_85 sd_119 (ev_X9_text hC2.rs hS2.1 hS2.2.1 hS2.2.2 _) (by omega) hb (Nat.le_of_ble_eq_true rfl) dL_law_245 (pd_m0 hj0 (fun I3 L3 z3 hP3 => ?_))
  refine at_istore dL_law_248 rfl (Nat.le_of_ble_eq_true rfl) ?_
  refine at_aload_n dL_law_250 rfl ?_
  refine at_cv0 cvL_86 sd_119 (ev_X9_thrown) (by omega) hb (Nat.le_of_ble_eq_true rfl) dL_law_251 (pd_k1 ?_)
  refine at_iload dL_law_254 rfl ?_
  refine at_icmpeq (tgt := 261) dL_law_256 (by decide) (fun c256 => ?_) (fun c256 => ?_)
  · -- taken 256
    refine at_iload dL_law_261 rfl ?_
    refine at_ifne (tgt := 278) dL_law_263 (by decide) (fun c263 => ?_) (fun c263 => ?_)
    · -- taken 263
      exact absurd rfl c263
    · -- not taken 263
      refine at_aload_n dL_law_266 rfl ?_
      refine at_iconst dL_law_267 pc_i0 ?_
      refine at_lald sd_137 (vp_in_nI (n := 0) (by decide) (by decide)) dL_law_268 ?_
      refine at_iload dL_law_269 rfl ?_
      refine at_i2l dL_law_271 ?_
      refine at_lcmp dL_law_272 ?_
      refine at_ifeq (tgt := 278) dL_law_273 (by decide) (fun c273 => ?_) (fun c273 => ?_)
      · -- taken 273
        refine at_goto (tgt := 1462) dL_law_278 (by decide) ?_
        exact K _ _ _ _ _ _ _ _ _ _ _ (hM.tx hC2 e6 e7 e0 e9 hP3)
      · -- not taken 273
        exact absurd (lgz (((congrFun (congrFun hP3.1 137) 0).trans pd_up_at).trans (rfl))) c273
  · -- not taken 256
    exact absurd z3 c256
  refine at_istore dL_law_236 rfl (Nat.le_of_ble_eq_true rfl) ?_
  refine at_aload_n dL_law_238 rfl ?_
  refine at_aload_n dL_law_239 rfl ?_
  refine at_iload dL_law_240 rfl ?_
  refine at_iconst dL_law_242 pc_i1 ?_
  refine at_iadd dL_law_243 ?_
  refine at_scr hX q1 dL_law_244 ?_
  refine at_cv1 cvL_85 sd_119 (ev_X9_text hM.rs hM.up.1 hM.up.2.1 hM.up.2.2 _) (by omega) hb (Nat.le_of_ble_eq_true rfl) dL_law_245 (pd_m1 hj0 ?_)
  refine at_istore dL_law_248 rfl (Nat.le_of_ble_eq_true rfl) ?_
  refine at_aload_n dL_law_250 rfl ?_
  refine at_cv0 cvL_86 sd_119 (ev_X9_thrown) (by omega) hb (Nat.le_of_ble_eq_true rfl) dL_law_251 (pd_k1 ?_)
  refine at_iload dL_law_254 rfl ?_
  refine at_icmpeq (tgt := 261) dL_law_256 (by decide) (fun c256 => ?_) (fun c256 => ?_)
  · -- taken 256
    refine at_iload dL_law_261 rfl ?_
    refine at_ifne (tgt := 278) dL_law_263 (by decide) (fun c263 => ?_) (fun c263 => ?_)
    · -- taken 263
      refine at_goto (tgt := 1462) dL_law_278 (by decide) ?_
      exact K _ _ _ _ _ _ _ _ _ _ _ (hM.no (jn_j1 hj0 (j1_or)))
    · -- not taken 263
      exact absurd c263 (nz_j1 (by decide) hj0 (j1_or))
  · -- not taken 256
    exact absurd m_no0 c256
theorem lc_fault (hX : XS G n xs) (q1 : vp_in (nI i + 1) n) (q2 : vp_in (nI i + 2) n) (q3 : vp_in (nI i + 3) n) (q4 : vp_in (nI i + 4) n) (q5 : vp_in (nI i + 5) n) (hM : SM I L R w a ps B t) (hh : 40 ≤ h) (hb : cs + 3 ≤ mc ∧ ss + 18 ≤ ms) (K : LK G h mc ms (cs + 3) (ss + 18) i Q) : pd_At G mi_L_law h mc ms cs ss 281 [some (.ref G.2.2.2.2), some (.ref (pd_z G + 0)), some (.ref (pd_z G + 119)), some (.ref (pd_z G + 137)), some (.int (nI i)), o5, o6, o7] [] (SD, false, I, L, R) Q := by
  have hrw := hM.1.row
  obtain ⟨cn, cp, hN, hA⟩ := hM.1
  refine at_aload_n dL_law_281 rfl ?_
  refine at_cv0 cvL_90 sd_0 (ev_X8_fault) (by omega) hb (Nat.le_of_ble_eq_true rfl) dL_law_282 (pd_kx (fun _ I2 L2 R2 hP => ?_) (fun q => absurd rfl q))
  have hS2 := SM.cq0 hM hP
  refine at_aload_n dL_law_285 rfl ?_
  refine at_cv0 cvL_93 sd_119 (ev_X9_fault) (by omega) hb (Nat.le_of_ble_eq_true rfl) dL_law_286 (pd_m0 rfl (fun I3 L3 z3 hP3 => ?_))
  refine at_icmpeq (tgt := 1462) dL_law_289 (by decide) (fun c289 => ?_) (fun c289 => ?_)
  · -- taken 289
    exact K _ _ _ _ _ _ _ _ _ _ _ (hS2.rq hP3)
  · -- not taken 289
    exact absurd (hM.2.2.2.2.2.1.trans (hP.1 119 (by decide) 5).symm) c289
theorem lc_passes (hX : XS G n xs) (q1 : vp_in (nI i + 1) n) (q2 : vp_in (nI i + 2) n) (q3 : vp_in (nI i + 3) n) (q4 : vp_in (nI i + 4) n) (q5 : vp_in (nI i + 5) n) (hM : SM I L R w a ps B t) (hh : 40 ≤ h) (hb : cs + 3 ≤ mc ∧ ss + 18 ≤ ms) (K : LK G h mc ms (cs + 3) (ss + 18) i Q) : pd_At G mi_L_law h mc ms cs ss 1015 [some (.ref G.2.2.2.2), some (.ref (pd_z G + 0)), some (.ref (pd_z G + 119)), some (.ref (pd_z G + 137)), some (.int (nI i)), o5, o6, o7] [] (SD, false, I, L, R) Q := by
  have hrw := hM.1.row
  obtain ⟨cn, cp, hN, hA⟩ := hM.1
  refine at_aload_n dL_law_1015 rfl ?_
  refine at_cv0 cvL_131 sd_0 (ev_X8_passes hN) (by omega) hb (Nat.le_of_ble_eq_true rfl) dL_law_1016 (pd_kx (fun _ I2 L2 R2 hP => ?_) (fun q => absurd rfl q))
  have hS2 := SM.cq0 hM hP
  refine at_aload_n dL_law_1019 rfl ?_
  refine at_cv0 cvL_134 sd_119 (ev_X9_passes hS2.rs hS2.2.2.1 hrw) (by omega) hb (Nat.le_of_ble_eq_true rfl) dL_law_1020 (pd_m0 rfl (fun I3 L3 z3 hP3 => ?_))
  refine at_icmpeq (tgt := 1462) dL_law_1023 (by decide) (fun c1023 => ?_) (fun c1023 => ?_)
  · -- taken 1023
    exact K _ _ _ _ _ _ _ _ _ _ _ (hS2.rq hP3)
  · -- not taken 1023
    exact absurd (rfl) c1023
theorem lc_fewest (hX : XS G n xs) (q1 : vp_in (nI i + 1) n) (q2 : vp_in (nI i + 2) n) (q3 : vp_in (nI i + 3) n) (q4 : vp_in (nI i + 4) n) (q5 : vp_in (nI i + 5) n) (hM : SM I L R w a ps B t) (hh : 40 ≤ h) (hb : cs + 3 ≤ mc ∧ ss + 18 ≤ ms) (K : LK G h mc ms (cs + 3) (ss + 18) i Q) : pd_At G mi_L_law h mc ms cs ss 1286 [some (.ref G.2.2.2.2), some (.ref (pd_z G + 0)), some (.ref (pd_z G + 119)), some (.ref (pd_z G + 137)), some (.int (nI i)), o5, o6, o7] [] (SD, false, I, L, R) Q := by
  have hrw := hM.1.row
  obtain ⟨cn, cp, hN, hA⟩ := hM.1
  refine at_aload_n dL_law_1286 rfl ?_
  refine at_cv0 cvL_147 sd_0 (ev_X8_fewest hN) (by omega) hb (Nat.le_of_ble_eq_true rfl) dL_law_1287 (pd_kx (fun _ I2 L2 R2 hP => ?_) (fun q => absurd rfl q))
  have hS2 := SM.cq0 hM hP
  refine at_aload_n dL_law_1290 rfl ?_
  refine at_cv0 cvL_150 sd_119 (ev_X9_fewest hS2.rs hS2.2.2.1 hrw) (by omega) hb (Nat.le_of_ble_eq_true rfl) dL_law_1291 (pd_m0 rfl (fun I3 L3 z3 hP3 => ?_))
  refine at_icmpeq (tgt := 1462) dL_law_1294 (by decide) (fun c1294 => ?_) (fun c1294 => ?_)
  · -- taken 1294
    exact K _ _ _ _ _ _ _ _ _ _ _ (hS2.rq hP3)
  · -- not taken 1294
    exact absurd (rfl) c1294
theorem lc_print (hX : XS G n xs) (q1 : vp_in (nI i + 1) n) (q2 : vp_in (nI i + 2) n) (q3 : vp_in (nI i + 3) n) (q4 : vp_in (nI i + 4) n) (q5 : vp_in (nI i + 5) n) (hM : SM I L R w a ps B t) (hh : 40 ≤ h) (hb : cs + 3 ≤ mc ∧ ss + 18 ≤ ms) (K : LK G h mc ms (cs + 3) (ss + 18) i Q) : pd_At G mi_L_law h mc ms cs ss 1423 [some (.ref G.2.2.2.2), some (.ref (pd_z G + 0)), some (.ref (pd_z G + 119)), some (.ref (pd_z G + 137)), some (.int (nI i)), o5, o6, o7] [] (SD, false, I, L, R) Q := by
  have hrw := hM.1.row
  obtain ⟨cn, cp, hN, hA⟩ := hM.1
  refine at_aload_n dL_law_1423 rfl ?_
  refine at_cv0 cvL_157 sd_0 (ev_X8_print hN) (by omega) hb (Nat.le_of_ble_eq_true rfl) dL_law_1424 (pd_kx (fun _ I2 L2 R2 hP => ?_) (fun q => absurd rfl q))
  have hS2 := SM.cq0 hM hP
  refine at_aload_n dL_law_1427 rfl ?_
  refine at_cv0 cvL_161 sd_119 (ev_X9_print hS2.rs hS2.2.2.1 hrw) (by omega) hb (Nat.le_of_ble_eq_true rfl) dL_law_1428 (pd_m0 rfl (fun I3 L3 z3 hP3 => ?_))
  refine at_lcmp dL_law_1431 ?_
  refine at_ifeq (tgt := 1462) dL_law_1432 (by decide) (fun c1432 => ?_) (fun c1432 => ?_)
  · -- taken 1432
    exact K _ _ _ _ _ _ _ _ _ _ _ (hS2.rq hP3)
  · -- not taken 1432
    exact absurd (lgz (rfl)) c1432
theorem lc_status (hX : XS G n xs) (q1 : vp_in (nI i + 1) n) (q2 : vp_in (nI i + 2) n) (q3 : vp_in (nI i + 3) n) (q4 : vp_in (nI i + 4) n) (q5 : vp_in (nI i + 5) n) (hM : SM I L R w a ps B t) (hh : 40 ≤ h) (hb : cs + 3 ≤ mc ∧ ss + 18 ≤ ms) (K : LK G h mc ms (cs + 3) (ss + 18) i Q) : pd_At G mi_L_law h mc ms cs ss 1437 [some (.ref G.2.2.2.2), some (.ref (pd_z G + 0)), some (.ref (pd_z G + 119)), some (.ref (pd_z G + 137)), some (.int (nI i)), o5, o6, o7] [] (SD, false, I, L, R) Q := by
  have hrw := hM.1.row
  obtain ⟨cn, cp, hN, hA⟩ := hM.1
  refine at_aload_n dL_law_1437 rfl ?_
  refine at_aload_n dL_law_1438 rfl ?_
  refine at_iload dL_law_1439 rfl ?_
  refine at_iconst dL_law_1441 pc_i1 ?_
  refine at_iadd dL_law_1442 ?_
  refine at_scr hX q1 dL_law_1443 ?_
  refine at_cv1 cvL_162 sd_0 (ev_X8_status _) (by omega) hb (Nat.le_of_ble_eq_true rfl) dL_law_1444 (pd_kx (fun _ I2 L2 R2 hP => ?_) (fun q => absurd rfl q))
  have hS2 := SM.cq0 hM hP
  refine at_aload_n dL_law_1447 rfl ?_
  refine at_aload_n dL_law_1448 rfl ?_
  refine at_iload dL_law_1449 rfl ?_
  refine at_iconst dL_law_1451 pc_i1 ?_
  refine at_iadd dL_law_1452 ?_
  refine at_scr hX q1 dL_law_1453 ?_
  refine at_cv1 cvL_165 sd_119 (ev_X9_status hS2.rs _) (by omega) hb (Nat.le_of_ble_eq_true rfl) dL_law_1454 (pd_m0 rfl (fun I3 L3 z3 hP3 => ?_))
  refine at_icmpeq (tgt := 1462) dL_law_1457 (by decide) (fun c1457 => ?_) (fun c1457 => ?_)
  · -- taken 1457
    exact K _ _ _ _ _ _ _ _ _ _ _ (hS2.rq hP3)
  · -- not taken 1457
    exact absurd (by rw [hM.2.2.2.2.2.2.1, hM.2.2.2.2.2.2.2.1, hM.2.2.2.2.2.2.2.2, hP.1 120 (by decide), hP.1 120 (by decide), hP.1 120 (by decide)]) c1457
theorem SM.fmid (h : SM I L R w a ps B t) (hf : FF I I1) : MT I1 B t := h.2.2.2.2.1.fr (hf _ _ (by decide) (by decide)) (fun j => hf _ _ (by omega) (by decide))
theorem SM.fd (h : SM I L R w a ps B t) (hf : FF I I1) (hT : if t + 20 ≤ 600 then TP I1 B' (t + 20) else I1 = I) (hq : ∀ x j, x ≠ 121 → ¬ (x = 119 ∧ (j = 0 ∨ j = 2)) → I2 x j = I1 x j) (hm : MT I2 (if t + 20 ≤ 600 then B' else B) (if t + 20 ≤ 600 then t + 20 else t)) : SM I2 L R w a ps (if t + 20 ≤ 600 then B' else B) (if t + 20 ≤ 600 then t + 20 else t) := by
  obtain ⟨h1, h2, h3, h4, h5, h6, h7, h8, h9⟩ := h
  have ot : ∀ x j, x ≠ 6 → x ≠ 7 → x ≠ 121 → ¬ (x = 119 ∧ (j = 0 ∨ j = 2)) → I2 x j = I x j := fun x j z1 z2 z3 z4 => (hq x j z3 z4).trans (hf x j (by omega) z2)
  have hp : TP I2 (if t + 20 ≤ 600 then B' else B) (if t + 20 ≤ 600 then t + 20 else t) := by
    by_cases c : t + 20 ≤ 600
    · rw [if_pos c] at hT ⊢
      rw [if_pos c]
      exact hT.fr (hq _ _ (by decide) (by decide)) (fun j => hq _ _ (by decide) (by omega))
    · rw [if_neg c] at hT ⊢
      rw [if_neg c]
      subst hT
      exact h2.fr (hq _ _ (by decide) (by decide)) (fun j => hq _ _ (by decide) (by omega))
  exact ⟨h1.fr2 (ot _ _ (by decide) (by decide) (by decide) (by decide)) (fun x z1 z2 _ j => ot x j (by omega) (by omega) (by omega) (by omega)) (fun _ _ _ _ _ => rfl), hp, fun k hk => (ot _ _ (by decide) (by decide) (by decide) (by omega)).trans (h3 k hk), h4.fr (ot _ _ (by decide) (by decide) (by decide) (by decide)) (fun x j z1 z2 => ot x j (by omega) (by omega) (by omega) (by omega)), hm, by rw [ot 0 7 (by decide) (by decide) (by decide) (by decide), ot 119 5 (by decide) (by decide) (by decide) (by decide)]; exact h6, by rw [ot 0 8 (by decide) (by decide) (by decide) (by decide), ot 120 0 (by decide) (by decide) (by decide) (by decide)]; exact h7, by rw [ot 0 9 (by decide) (by decide) (by decide) (by decide), ot 120 1 (by decide) (by decide) (by decide) (by decide)]; exact h8, by rw [ot 0 10 (by decide) (by decide) (by decide) (by decide), ot 120 2 (by decide) (by decide) (by decide) (by decide)]; exact h9⟩
theorem SM.ud (h : SM I L R w a ps B t) (hC : CW I1 L1 R1 w' a' ps') (hF : FD I L I1 L1) (q1 : RQ I2 122 w'.1) (q2 : MP I2 a' ps') (q3 : ∀ x j, x ≠ 122 → ¬ (x = 119 ∧ (j = 0 ∨ j = 12)) → I2 x j = I1 x j) : SM I2 L1 R1 w' a' ps' B t := by
  obtain ⟨h1, h2, h3, h4, h5, h6, h7, h8, h9⟩ := h
  have lo : ∀ x, x < 119 → ∀ j, I2 x j = I1 x j := fun x hx j => q3 x j (by omega) (by omega)
  have hi : ∀ x j, 119 ≤ x → x < 122 → ¬ (x = 119 ∧ (j = 0 ∨ j = 12)) → I2 x j = I x j := fun x j z1 z2 z3 => by rw [q3 x j (by omega) z3]; exact hF.1 x (by omega) j (by omega)
  have l8 : ∀ x j, x < 8 → ¬ (x = 0 ∧ j = 5) → I2 x j = I x j := fun x j z1 z2 => by rw [lo x (by omega)]; exact hF.1 x (by omega) j z2
  exact ⟨hC.fr2 (lo _ (by decide) _) (fun x _ z _ j => lo x z j) (fun _ _ _ _ _ => rfl), h2.fr (l8 _ _ (by omega) (by omega)) (fun j => l8 _ _ (by omega) (by omega)), q1, q2, h5.fr (hi _ _ (by omega) (by omega) (by omega)) (fun j => hi _ _ (by omega) (by omega) (by omega)), by rw [l8 _ _ (by omega) (by omega), hi _ _ (by omega) (by omega) (by omega)]; exact h6, by rw [l8 _ _ (by omega) (by omega), hi _ _ (by omega) (by omega) (by omega)]; exact h7, by rw [l8 _ _ (by omega) (by omega), hi _ _ (by omega) (by omega) (by omega)]; exact h8, by rw [l8 _ _ (by omega) (by omega), hi _ _ (by omega) (by omega) (by omega)]; exact h9⟩
theorem lc_feed (hX : XS G n xs) (q1 : vp_in (nI i + 1) n) (q2 : vp_in (nI i + 2) n) (q3 : vp_in (nI i + 3) n) (q4 : vp_in (nI i + 4) n) (q5 : vp_in (nI i + 5) n) (hM : SM I L R w a ps B t) (hh : 40 ≤ h) (hb : cs + 3 ≤ mc ∧ ss + 18 ≤ ms) (K : LK G h mc ms (cs + 3) (ss + 18) i Q) : pd_At G mi_L_law h mc ms cs ss 152 [some (.ref G.2.2.2.2), some (.ref (pd_z G + 0)), some (.ref (pd_z G + 119)), some (.ref (pd_z G + 137)), some (.int (nI i)), o5, o6, o7] [] (SD, false, I, L, R) Q := by
  have hrw := hM.1.row
  obtain ⟨cn, cp, hN, hA⟩ := hM.1
  refine at_aload_n dL_law_152 rfl ?_
  refine at_aload_n dL_law_153 rfl ?_
  refine at_iload dL_law_154 rfl ?_
  refine at_iconst dL_law_156 pc_i1 ?_
  refine at_iadd dL_law_157 ?_
  refine at_scr hX q1 dL_law_158 ?_
  refine at_aload_n dL_law_159 rfl ?_
  refine at_iload dL_law_160 rfl ?_
  refine at_iconst dL_law_162 pc_i2 ?_
  refine at_iadd dL_law_163 ?_
  refine at_scr hX q2 dL_law_164 ?_
  refine at_aload_n dL_law_165 rfl ?_
  refine at_iload dL_law_166 rfl ?_
  refine at_iconst dL_law_168 pc_i3 ?_
  refine at_iadd dL_law_169 ?_
  refine at_scr hX q3 dL_law_170 ?_
  refine at_aload_n dL_law_171 rfl ?_
  refine at_iload dL_law_172 rfl ?_
  refine at_iconst dL_law_174 pc_i4 ?_
  refine at_iadd dL_law_175 ?_
  refine at_scr hX q4 dL_law_176 ?_
  refine at_aload_n dL_law_177 rfl ?_
  refine at_iload dL_law_178 rfl ?_
  refine at_iconst dL_law_180 pc_i5 ?_
  refine at_iadd dL_law_181 ?_
  refine at_scr hX q5 dL_law_182 ?_
  refine at_cv5 cvL_75 sd_0 (ev_X8_feed hM.rs hM.2.1 _ _ _ _ _) (by omega) hb (Nat.le_of_ble_eq_true rfl) dL_law_183 (pd_kx (fun _ I2 L2 R2 hP => ?_) (fun q => absurd rfl q))
  obtain ⟨rfl, rfl, hf, hT⟩ := hP
  refine at_aload_n dL_law_186 rfl ?_
  refine at_aload_n dL_law_187 rfl ?_
  refine at_iload dL_law_188 rfl ?_
  refine at_iconst dL_law_190 pc_i1 ?_
  refine at_iadd dL_law_191 ?_
  refine at_scr hX q1 dL_law_192 ?_
  refine at_aload_n dL_law_193 rfl ?_
  refine at_iload dL_law_194 rfl ?_
  refine at_iconst dL_law_196 pc_i2 ?_
  refine at_iadd dL_law_197 ?_
  refine at_scr hX q2 dL_law_198 ?_
  refine at_aload_n dL_law_199 rfl ?_
  refine at_iload dL_law_200 rfl ?_
  refine at_iconst dL_law_202 pc_i3 ?_
  refine at_iadd dL_law_203 ?_
  refine at_scr hX q3 dL_law_204 ?_
  refine at_aload_n dL_law_205 rfl ?_
  refine at_iload dL_law_206 rfl ?_
  refine at_iconst dL_law_208 pc_i4 ?_
  refine at_iadd dL_law_209 ?_
  refine at_scr hX q4 dL_law_210 ?_
  refine at_aload_n dL_law_211 rfl ?_
  refine at_iload dL_law_212 rfl ?_
  refine at_iconst dL_law_214 pc_i5 ?_
  refine at_iadd dL_law_215 ?_
  refine at_scr hX q5 dL_law_216 ?_
  refine at_cv5 cvL_79 sd_119 (ev_X9_feed hM.rs (hM.fmid hf) _ _ _ _ _) (by omega) hb (Nat.le_of_ble_eq_true rfl) dL_law_217 (pd_mri (fun v3 I3 L3 hP3 => ?_))
  obtain ⟨rfl, hP3⟩ := hP3
  refine at_icmpeq (tgt := 1462) dL_law_220 (by decide) (fun c220 => ?_) (fun c220 => ?_)
  · -- taken 220
    exact K _ _ _ _ _ _ _ _ _ _ _ (hM.fd hf hT hP3.2.2.1 hP3.2.2.2)
  · -- not taken 220
    exact absurd (hP3.1.symm) c220
theorem lc_undo (hX : XS G n xs) (q1 : vp_in (nI i + 1) n) (q2 : vp_in (nI i + 2) n) (q3 : vp_in (nI i + 3) n) (q4 : vp_in (nI i + 4) n) (q5 : vp_in (nI i + 5) n) (hM : SM I L R w a ps B t) (hh : 40 ≤ h) (hb : cs + 3 ≤ mc ∧ ss + 18 ≤ ms) (K : LK G h mc ms (cs + 3) (ss + 18) i Q) : pd_At G mi_L_law h mc ms cs ss 606 [some (.ref G.2.2.2.2), some (.ref (pd_z G + 0)), some (.ref (pd_z G + 119)), some (.ref (pd_z G + 137)), some (.int (nI i)), o5, o6, o7] [] (SD, false, I, L, R) Q := by
  have hrw := hM.1.row
  obtain ⟨cn, cp, hN, hA⟩ := hM.1
  refine at_aload_n dL_law_606 rfl ?_
  refine at_cv0 cvL_109 sd_0 (ev_X8_undo hM.1) (by omega) hb (Nat.le_of_ble_eq_true rfl) dL_law_607 (pd_kx (fun _ I2 L2 R2 hP => ?_) (fun q => absurd rfl q))
  obtain ⟨hC2, hF2⟩ := hP
  have hS2 := SM.mid hM hF2
  refine at_aload_n dL_law_610 rfl ?_
  refine at_cv0 cvL_112 sd_119 (ev_X9_undo (w := w) hC2.rs hS2.2.1 hS2.1) (by omega) hb (Nat.le_of_ble_eq_true rfl) dL_law_611 (pd_mri (fun v3 I3 L3 hP3 => ?_))
  obtain ⟨rfl, hP3⟩ := hP3
  refine at_icmpeq (tgt := 1462) dL_law_614 (by decide) (fun c614 => ?_) (fun c614 => ?_)
  · -- taken 614
    exact K _ _ _ _ _ _ _ _ _ _ _ (hM.ud hC2 hF2 hP3.2.2.1 hP3.2.2.2.1 hP3.2.2.2.2)
  · -- not taken 614
    exact absurd (hP3.1.symm) c614
end LSW
