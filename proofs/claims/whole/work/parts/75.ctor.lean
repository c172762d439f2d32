/-! ===== constructors: what they make, behind the last ===== -/
section CTR
variable {G : pd_G} {mi : pd_MI} {h mc ms cs ss pc n a : Nat} {lo : List (Option Value)} {st : List Value} {Q : pd_O → pd_M → Prop} {S : List (Nat × Nat)} {I : Nat → Nat → Int32} {L : Nat → Nat → Int64} {R : Nat → Nat → Option Nat} {x y : Nat × Nat}
theorem sx_len (h : S.length = n) : (S ++ [x]).length = n + 1 := by simp [h]
theorem sx_get {b : Nat} (h : S[b]? = some y) : (S ++ [x])[b]? = some y := by rw [List.getElem?_append_left (List.getElem?_eq_some_iff.mp h).1]; exact h
theorem sx_new (h : S.length = n) : (S ++ [x])[n]? = some x := by subst h; simp
theorem sx_lt {b : Nat} (h : S[b]? = some y) : b < S.length := (List.getElem?_eq_some_iff.mp h).1
theorem fr_push (hf : pd_fresh S I L R) : pd_fresh (S ++ [x]) I L R := fun b hb => hf b (by simp at hb; omega)
theorem fr_R {b j : Nat} {v : Option Nat} (hf : pd_fresh S I L R) (h : S[b]? = some y) : pd_fresh S I L (pd_up R b j v) := fun c hc => ⟨(hf c hc).1, (hf c hc).2.1, fun k => by have := sx_lt h; rw [pd_up_nb (by omega)]; exact (hf c hc).2.2 k⟩
theorem fr_I {b j : Nat} {v : Int32} (hf : pd_fresh S I L R) (h : S[b]? = some y) : pd_fresh S (pd_up I b j v) L R := fun c hc => ⟨fun k => by have := sx_lt h; rw [pd_up_nb (by omega)]; exact (hf c hc).1 k, (hf c hc).2⟩
theorem fr_L {L' : Nat → Nat → Int64} {b : Nat} (hf : pd_fresh S I L R) (h : S[b]? = some y) (hL : ∀ c, c ≠ b → ∀ j, L' c j = L c j) : pd_fresh S I L' R := fun c hc => ⟨(hf c hc).1, fun k => by have := sx_lt h; rw [hL c (by omega)]; exact (hf c hc).2.1 k, (hf c hc).2.2⟩
set_option maxRecDepth 100000 in
theorem ac_int : Cond.arrayClass (newarray.typeOf .int) ∈ pd_TB := pd_tbm (ws := [_]) (by decide +kernel) _ List.mem_cons_self
set_option maxRecDepth 100000 in
theorem ac_byte : Cond.arrayClass (newarray.typeOf .byte) ∈ pd_TB := pd_tbm (ws := [_]) (by decide +kernel) _ List.mem_cons_self
set_option maxRecDepth 100000 in
theorem ac_long : Cond.arrayClass (newarray.typeOf .long) ∈ pd_TB := pd_tbm (ws := [_]) (by decide +kernel) _ List.mem_cons_self
theorem at_na {atype : ArrayType} {m : Int32} (t N : Nat) (hl : S.length = n) (ht : (t = 9 ∧ atype = .int) ∨ (t = 10 ∧ atype = .byte) ∨ (t = 11 ∧ atype = .long)) (ha : Cond.arrayClass (newarray.typeOf atype) ∈ pd_TB) (hn0 : ¬ m < 0) (hN : m.toNatClampNeg = N) (hN2 : N ≤ 100000) (hf : pd_fresh S I L R) (hb : cs + 1 ≤ mc ∧ ss + N ≤ ms) (hdg : decode mi.2.1 pc = .ok (.newarray atype, 2))
    (K : pd_At G mi h mc ms (cs + 1) (ss + N) (pc + 2) lo (.ref (pd_z G + n) :: st) (S ++ [(t, N)], true, I, L, R) Q) : pd_At G mi h mc ms cs ss pc lo (.int m :: st) (S, true, I, L, R) Q := at_newa t N ht ha hn0 hN hN2 hf hb hdg (by rw [hl]; exact K)
theorem at_nw {idx ci N : Nat} {C : String} {T : u_T} (hl : S.length = n) (hk : Cond.classLink mi.1.cls idx C ∈ pd_TB) (hi : Cond.instantiable C N ∈ pd_TB) (hn : Cond.initialized C ∈ pd_TB) (hc : pd_cl[ci]? = some (C, T, N)) (hf : pd_fresh S I L R) (hb : cs + 1 ≤ mc ∧ ss + N ≤ ms) (hdg : decode mi.2.1 pc = .ok (.new idx, 3))
    (K : pd_At G mi h mc ms (cs + 1) (ss + N) (pc + 3) lo (.ref (pd_z G + n) :: st) (S ++ [(ci, 0)], true, I, L, R) Q) : pd_At G mi h mc ms cs ss pc lo st (S, true, I, L, R) Q := at_new hk hi hn hc hf hb hdg (by rw [hl]; exact K)
theorem at_cn0 {mi' : pd_MI} {h' mc' ms' idx : Nat} {M : pd_M} {host : String} {Q' : pd_O → pd_M → Prop} (hcb : pd_CB mi' 0) (hret : mi'.2.2.2.1 = none) (hl : Cond.methodLinkNest mi.1.cls idx mi'.1 host ∈ lw_tbl) (hy : mi'.1.name = "<init>") (hi : Cond.instanceMethod mi'.1 ∈ pd_TB) (hE : pd_Ev G mi' h' mc' ms' [.ref a] M Q') (hh : h' + 1 ≤ h) (hb : cs + mc' ≤ mc ∧ ss + ms' ≤ ms) (hst : (st.map fun v => v.category).sum ≤ 8) (hdg : decode mi.2.1 pc = .ok (.invokespecial idx, 3))
    (K : ∀ o M', Q' o M' → pd_Kc G mi h mc ms (cs + mc') (ss + ms') pc lo st Q o M') : pd_At G mi h mc ms cs ss pc lo (.ref a :: st) M Q := at_callIN (As := []) hcb hret hl hy hi rfl hE hh hb hst hdg K
theorem at_ci0 {mi' : pd_MI} {h' mc' ms' idx : Nat} {M : pd_M} {Q' : pd_O → pd_M → Prop} (hcb : pd_CB mi' 0) (hret : mi'.2.2.2.1 = none) (hl : Cond.methodLink mi.1.cls idx mi'.1 ∈ pd_TB) (hy : mi'.1.name = "<init>") (hi : Cond.instanceMethod mi'.1 ∈ pd_TB) (hE : pd_Ev G mi' h' mc' ms' [.ref a] M Q') (hh : h' + 1 ≤ h) (hb : cs + mc' ≤ mc ∧ ss + ms' ≤ ms) (hst : (st.map fun v => v.category).sum ≤ 8) (hdg : decode mi.2.1 pc = .ok (.invokespecial idx, 3))
    (K : ∀ o M', Q' o M' → pd_Kc G mi h mc ms (cs + mc') (ss + ms') pc lo st Q o M') : pd_At G mi h mc ms cs ss pc lo (.ref a :: st) M Q := at_callI (As := []) hcb hret hl hy hi rfl hE hh hb hst hdg K
def S_X5 (S : List (Nat × Nat)) : List (Nat × Nat) := (S ++ [(10, 600)])
def I_X5 (I : Nat → Nat → Int32) (n a : Nat) : Nat → Nat → Int32 := I
def R_X5 (R : Nat → Nat → Option Nat) (n a : Nat) : Nat → Nat → Option Nat := (pd_up R a 0 (some n))
theorem sl_X5 (hl : S.length = n) : (S_X5 S).length = n + 1 := by
  have l1 := sx_len (x := (10, 600)) hl
  exact l1
theorem sg_X5 {b : Nat} {y : Nat × Nat} (ha : S[b]? = some y) : (S_X5 S)[b]? = some y := by
  have g1 := sx_get (x := (10, 600)) ha
  exact g1
theorem sf_X5 (hl : S.length = n) (ha : S[a]? = some (4, 0)) (hf : pd_fresh S I L R) : pd_fresh (S_X5 S) (I_X5 I n a) L (R_X5 R n a) := by
  have l1 := sx_len (x := (10, 600)) hl
  have g1 := sx_get (x := (10, 600)) ha
  have f1 := fr_push (x := (10, 600)) hf
  have f2 := fr_R (j := 0) (v := some n) f1 g1
  exact f2
theorem ev_X5_init (hl : S.length = n) (ha : S[a]? = some (4, 0)) (hf : pd_fresh S I L R) : pd_Ev G mi_X5_init 1 1 600 [.ref (pd_z G + a)] (S, true, I, L, R) (pd_rv (S_X5 S, true, I_X5 I n a, L, R_X5 R n a)) := by
  refine pd_ev 0 (lo := [some (.ref (pd_z G + a))]) (by decide +kernel) (Nat.le_of_ble_eq_true rfl) rfl ?_
  refine at_aload_n dX5_init_0 rfl ?_
  refine at_oinit moX5_3 pd_oi.1 pd_oi.2 (by decide) (Nat.le_of_ble_eq_true rfl) dX5_init_1 ?_
  refine at_aload_n dX5_init_4 rfl ?_
  refine at_sipush dX5_init_5 pc_s600 ?_
  refine at_na 10 600 hl (Or.inr (Or.inl ⟨rfl, rfl⟩)) ac_byte (by decide) (by decide) (by decide) hf ⟨Nat.le_of_ble_eq_true rfl, Nat.le_of_ble_eq_true rfl⟩ dX5_init_8 ?_
  have l1 := sx_len (x := (10, 600)) hl
  have g1 := sx_get (x := (10, 600)) ha
  have f1 := fr_push (x := (10, 600)) hf
  refine at_putr flX5_9 rfl g1 (fun _ _ _ hq => by cases hq; first | exact Or.inl rfl | exact Or.inr ⟨rfl, rfl, rfl⟩) dX5_init_10 ?_
  have f2 := fr_R (j := 0) (v := some n) f1 g1
  refine at_vret rfl dX5_init_13 ?_
  exact ⟨rfl, rfl⟩
def S_X4 (S : List (Nat × Nat)) : List (Nat × Nat) := (S ++ [(9, 600)])
def I_X4 (I : Nat → Nat → Int32) (n a : Nat) : Nat → Nat → Int32 := I
def R_X4 (R : Nat → Nat → Option Nat) (n a : Nat) : Nat → Nat → Option Nat := (pd_up R a 0 (some n))
theorem sl_X4 (hl : S.length = n) : (S_X4 S).length = n + 1 := by
  have l1 := sx_len (x := (9, 600)) hl
  exact l1
theorem sg_X4 {b : Nat} {y : Nat × Nat} (ha : S[b]? = some y) : (S_X4 S)[b]? = some y := by
  have g1 := sx_get (x := (9, 600)) ha
  exact g1
theorem sf_X4 (hl : S.length = n) (ha : S[a]? = some (3, 0)) (hf : pd_fresh S I L R) : pd_fresh (S_X4 S) (I_X4 I n a) L (R_X4 R n a) := by
  have l1 := sx_len (x := (9, 600)) hl
  have g1 := sx_get (x := (9, 600)) ha
  have f1 := fr_push (x := (9, 600)) hf
  have f2 := fr_R (j := 0) (v := some n) f1 g1
  exact f2
theorem ev_X4_init (hl : S.length = n) (ha : S[a]? = some (3, 0)) (hf : pd_fresh S I L R) : pd_Ev G mi_X4_init 1 1 600 [.ref (pd_z G + a)] (S, true, I, L, R) (pd_rv (S_X4 S, true, I_X4 I n a, L, R_X4 R n a)) := by
  refine pd_ev 0 (lo := [some (.ref (pd_z G + a))]) (by decide +kernel) (Nat.le_of_ble_eq_true rfl) rfl ?_
  refine at_aload_n dX4_init_0 rfl ?_
  refine at_oinit moX4_3 pd_oi.1 pd_oi.2 (by decide) (Nat.le_of_ble_eq_true rfl) dX4_init_1 ?_
  refine at_aload_n dX4_init_4 rfl ?_
  refine at_sipush dX4_init_5 pc_s600 ?_
  refine at_na 9 600 hl (Or.inl ⟨rfl, rfl⟩) ac_int (by decide) (by decide) (by decide) hf ⟨Nat.le_of_ble_eq_true rfl, Nat.le_of_ble_eq_true rfl⟩ dX4_init_8 ?_
  have l1 := sx_len (x := (9, 600)) hl
  have g1 := sx_get (x := (9, 600)) ha
  have f1 := fr_push (x := (9, 600)) hf
  refine at_putr flX4_9 rfl g1 (fun _ _ _ hq => by cases hq; first | exact Or.inl rfl | exact Or.inr ⟨rfl, rfl, rfl⟩) dX4_init_10 ?_
  have f2 := fr_R (j := 0) (v := some n) f1 g1
  refine at_vret rfl dX4_init_13 ?_
  exact ⟨rfl, rfl⟩
def S_X7 (S : List (Nat × Nat)) : List (Nat × Nat) := (S_X5 ((((S ++ [(9, 601)]) ++ [(9, 601)]) ++ [(9, 601)]) ++ [(4, 0)]))
def I_X7 (I : Nat → Nat → Int32) (n a : Nat) : Nat → Nat → Int32 := (I_X5 I (n + 4) (n + 3))
def R_X7 (R : Nat → Nat → Option Nat) (n a : Nat) : Nat → Nat → Option Nat := (pd_up (R_X5 (pd_up (pd_up (pd_up R a 0 (some n)) a 1 (some (n + 1))) a 2 (some (n + 2))) (n + 4) (n + 3)) a 3 (some (n + 3)))
theorem sl_X7 (hl : S.length = n) : (S_X7 S).length = n + 5 := by
  have l1 := sx_len (x := (9, 601)) hl
  have l3 := sx_len (x := (9, 601)) l1
  have l5 := sx_len (x := (9, 601)) l3
  have l7 := sx_len (x := (4, 0)) l5
  have l8 := sl_X5 l7
  exact l8
theorem sg_X7 {b : Nat} {y : Nat × Nat} (ha : S[b]? = some y) : (S_X7 S)[b]? = some y := by
  have g1 := sx_get (x := (9, 601)) ha
  have g3 := sx_get (x := (9, 601)) g1
  have g5 := sx_get (x := (9, 601)) g3
  have g7 := sx_get (x := (4, 0)) g5
  have g8 := sg_X5 g7
  exact g8
theorem sf_X7 (hl : S.length = n) (ha : S[a]? = some (6, 0)) (hf : pd_fresh S I L R) : pd_fresh (S_X7 S) (I_X7 I n a) L (R_X7 R n a) := by
  have l1 := sx_len (x := (9, 601)) hl
  have g1 := sx_get (x := (9, 601)) ha
  have f1 := fr_push (x := (9, 601)) hf
  have f2 := fr_R (j := 0) (v := some n) f1 g1
  have l3 := sx_len (x := (9, 601)) l1
  have g3 := sx_get (x := (9, 601)) g1
  have f3 := fr_push (x := (9, 601)) f2
  have f4 := fr_R (j := 1) (v := some (n + 1)) f3 g3
  have l5 := sx_len (x := (9, 601)) l3
  have g5 := sx_get (x := (9, 601)) g3
  have f5 := fr_push (x := (9, 601)) f4
  have f6 := fr_R (j := 2) (v := some (n + 2)) f5 g5
  have o7 := sx_new (x := (4, 0)) l5
  have l7 := sx_len (x := (4, 0)) l5
  have g7 := sx_get (x := (4, 0)) g5
  have f7 := fr_push (x := (4, 0)) f6
  have l8 := sl_X5 l7
  have g8 := sg_X5 g7
  have f8 := sf_X5 (n := (n + 4)) l7 o7 f7
  have f9 := fr_R (j := 3) (v := some (n + 3)) f8 g8
  exact f9
theorem ev_X7_init (hl : S.length = n) (ha : S[a]? = some (6, 0)) (hf : pd_fresh S I L R) : pd_Ev G mi_X7_init 2 5 2405 [.ref (pd_z G + a)] (S, true, I, L, R) (pd_rv (S_X7 S, true, I_X7 I n a, L, R_X7 R n a)) := by
  refine pd_ev 0 (lo := [some (.ref (pd_z G + a))]) (by decide +kernel) (Nat.le_of_ble_eq_true rfl) rfl ?_
  refine at_aload_n dX7_init_0 rfl ?_
  refine at_oinit moX7_3 pd_oi.1 pd_oi.2 (by decide) (Nat.le_of_ble_eq_true rfl) dX7_init_1 ?_
  refine at_aload_n dX7_init_4 rfl ?_
  refine at_sipush dX7_init_5 pc_s601 ?_
  refine at_na 9 601 hl (Or.inl ⟨rfl, rfl⟩) ac_int (by decide) (by decide) (by decide) hf ⟨Nat.le_of_ble_eq_true rfl, Nat.le_of_ble_eq_true rfl⟩ dX7_init_8 ?_
  have l1 := sx_len (x := (9, 601)) hl
  have g1 := sx_get (x := (9, 601)) ha
  have f1 := fr_push (x := (9, 601)) hf
  refine at_putr flX7_9 rfl g1 (fun _ _ _ hq => by cases hq; first | exact Or.inl rfl | exact Or.inr ⟨rfl, rfl, rfl⟩) dX7_init_10 ?_
  have f2 := fr_R (j := 0) (v := some n) f1 g1
  refine at_aload_n dX7_init_13 rfl ?_
  refine at_sipush dX7_init_14 pc_s601 ?_
  refine at_na 9 601 l1 (Or.inl ⟨rfl, rfl⟩) ac_int (by decide) (by decide) (by decide) f2 ⟨Nat.le_of_ble_eq_true rfl, Nat.le_of_ble_eq_true rfl⟩ dX7_init_17 ?_
  have l3 := sx_len (x := (9, 601)) l1
  have g3 := sx_get (x := (9, 601)) g1
  have f3 := fr_push (x := (9, 601)) f2
  refine at_putr flX7_15 rfl g3 (fun _ _ _ hq => by cases hq; first | exact Or.inl rfl | exact Or.inr ⟨rfl, rfl, rfl⟩) dX7_init_19 ?_
  have f4 := fr_R (j := 1) (v := some (n + 1)) f3 g3
  refine at_aload_n dX7_init_22 rfl ?_
  refine at_sipush dX7_init_23 pc_s601 ?_
  refine at_na 9 601 l3 (Or.inl ⟨rfl, rfl⟩) ac_int (by decide) (by decide) (by decide) f4 ⟨Nat.le_of_ble_eq_true rfl, Nat.le_of_ble_eq_true rfl⟩ dX7_init_26 ?_
  have l5 := sx_len (x := (9, 601)) l3
  have g5 := sx_get (x := (9, 601)) g3
  have f5 := fr_push (x := (9, 601)) f4
  refine at_putr flX7_18 rfl g5 (fun _ _ _ hq => by cases hq; first | exact Or.inl rfl | exact Or.inr ⟨rfl, rfl, rfl⟩) dX7_init_28 ?_
  have f6 := fr_R (j := 2) (v := some (n + 2)) f5 g5
  refine at_aload_n dX7_init_31 rfl ?_
  refine at_nw (ci := 4) l5 klX7_21 niX5 in_X5_init rfl f6 ⟨Nat.le_of_ble_eq_true rfl, Nat.le_of_ble_eq_true rfl⟩ dX7_init_32 ?_
  have o7 := sx_new (x := (4, 0)) l5
  have l7 := sx_len (x := (4, 0)) l5
  have g7 := sx_get (x := (4, 0)) g5
  have f7 := fr_push (x := (4, 0)) f6
  refine at_dup dX7_init_35 rfl ?_
  refine at_cn0 cb_X5_init rfl mnX7_23 rfl im_X5_init (ev_X5_init (n := (n + 4)) l7 o7 f7) (by decide) ⟨Nat.le_of_ble_eq_true rfl, Nat.le_of_ble_eq_true rfl⟩ (Nat.le_of_ble_eq_true rfl) dX7_init_36 (pd_k0 ?_)
  have l8 := sl_X5 l7
  have g8 := sg_X5 g7
  have f8 := sf_X5 (n := (n + 4)) l7 o7 f7
  refine at_putr flX7_24 rfl g8 (fun _ _ _ hq => by cases hq; first | exact Or.inl rfl | exact Or.inr ⟨rfl, rfl, rfl⟩) dX7_init_39 ?_
  have f9 := fr_R (j := 3) (v := some (n + 3)) f8 g8
  refine at_vret rfl dX7_init_42 ?_
  exact ⟨rfl, rfl⟩
def S_X1 (S : List (Nat × Nat)) : List (Nat × Nat) := ((((((S ++ [(9, 40)]) ++ [(9, 40)]) ++ [(9, 16)]) ++ [(9, 8)]) ++ [(9, 6)]) ++ [(9, 40)])
def I_X1 (I : Nat → Nat → Int32) (n a : Nat) : Nat → Nat → Int32 := I
def R_X1 (R : Nat → Nat → Option Nat) (n a : Nat) : Nat → Nat → Option Nat := (pd_up (pd_up (pd_up (pd_up (pd_up (pd_up R a 0 (some n)) a 1 (some (n + 1))) a 2 (some (n + 2))) a 4 (some (n + 3))) a 5 (some (n + 4))) a 6 (some (n + 5)))
theorem sl_X1 (hl : S.length = n) : (S_X1 S).length = n + 6 := by
  have l1 := sx_len (x := (9, 40)) hl
  have l3 := sx_len (x := (9, 40)) l1
  have l5 := sx_len (x := (9, 16)) l3
  have l7 := sx_len (x := (9, 8)) l5
  have l9 := sx_len (x := (9, 6)) l7
  have l11 := sx_len (x := (9, 40)) l9
  exact l11
theorem sg_X1 {b : Nat} {y : Nat × Nat} (ha : S[b]? = some y) : (S_X1 S)[b]? = some y := by
  have g1 := sx_get (x := (9, 40)) ha
  have g3 := sx_get (x := (9, 40)) g1
  have g5 := sx_get (x := (9, 16)) g3
  have g7 := sx_get (x := (9, 8)) g5
  have g9 := sx_get (x := (9, 6)) g7
  have g11 := sx_get (x := (9, 40)) g9
  exact g11
theorem sf_X1 (hl : S.length = n) (ha : S[a]? = some (1, 0)) (hf : pd_fresh S I L R) : pd_fresh (S_X1 S) (I_X1 I n a) L (R_X1 R n a) := by
  have l1 := sx_len (x := (9, 40)) hl
  have g1 := sx_get (x := (9, 40)) ha
  have f1 := fr_push (x := (9, 40)) hf
  have f2 := fr_R (j := 0) (v := some n) f1 g1
  have l3 := sx_len (x := (9, 40)) l1
  have g3 := sx_get (x := (9, 40)) g1
  have f3 := fr_push (x := (9, 40)) f2
  have f4 := fr_R (j := 1) (v := some (n + 1)) f3 g3
  have l5 := sx_len (x := (9, 16)) l3
  have g5 := sx_get (x := (9, 16)) g3
  have f5 := fr_push (x := (9, 16)) f4
  have f6 := fr_R (j := 2) (v := some (n + 2)) f5 g5
  have l7 := sx_len (x := (9, 8)) l5
  have g7 := sx_get (x := (9, 8)) g5
  have f7 := fr_push (x := (9, 8)) f6
  have f8 := fr_R (j := 4) (v := some (n + 3)) f7 g7
  have l9 := sx_len (x := (9, 6)) l7
  have g9 := sx_get (x := (9, 6)) g7
  have f9 := fr_push (x := (9, 6)) f8
  have f10 := fr_R (j := 5) (v := some (n + 4)) f9 g9
  have l11 := sx_len (x := (9, 40)) l9
  have g11 := sx_get (x := (9, 40)) g9
  have f11 := fr_push (x := (9, 40)) f10
  have f12 := fr_R (j := 6) (v := some (n + 5)) f11 g11
  exact f12
theorem ev_X1_init (hl : S.length = n) (ha : S[a]? = some (1, 0)) (hf : pd_fresh S I L R) : pd_Ev G mi_X1_init 1 6 150 [.ref (pd_z G + a)] (S, true, I, L, R) (pd_rv (S_X1 S, true, I_X1 I n a, L, R_X1 R n a)) := by
  refine pd_ev 0 (lo := [some (.ref (pd_z G + a))]) (by decide +kernel) (Nat.le_of_ble_eq_true rfl) rfl ?_
  refine at_aload_n dX1_init_0 rfl ?_
  refine at_oinit moX1_3 pd_oi.1 pd_oi.2 (by decide) (Nat.le_of_ble_eq_true rfl) dX1_init_1 ?_
  refine at_aload_n dX1_init_4 rfl ?_
  refine at_bipush dX1_init_5 pc_b40 ?_
  refine at_na 9 40 hl (Or.inl ⟨rfl, rfl⟩) ac_int (by decide) (by decide) (by decide) hf ⟨Nat.le_of_ble_eq_true rfl, Nat.le_of_ble_eq_true rfl⟩ dX1_init_7 ?_
  have l1 := sx_len (x := (9, 40)) hl
  have g1 := sx_get (x := (9, 40)) ha
  have f1 := fr_push (x := (9, 40)) hf
  refine at_putr flX1_9 rfl g1 (fun _ _ _ hq => by cases hq; first | exact Or.inl rfl | exact Or.inr ⟨rfl, rfl, rfl⟩) dX1_init_9 ?_
  have f2 := fr_R (j := 0) (v := some n) f1 g1
  refine at_aload_n dX1_init_12 rfl ?_
  refine at_bipush dX1_init_13 pc_b40 ?_
  refine at_na 9 40 l1 (Or.inl ⟨rfl, rfl⟩) ac_int (by decide) (by decide) (by decide) f2 ⟨Nat.le_of_ble_eq_true rfl, Nat.le_of_ble_eq_true rfl⟩ dX1_init_15 ?_
  have l3 := sx_len (x := (9, 40)) l1
  have g3 := sx_get (x := (9, 40)) g1
  have f3 := fr_push (x := (9, 40)) f2
  refine at_putr flX1_15 rfl g3 (fun _ _ _ hq => by cases hq; first | exact Or.inl rfl | exact Or.inr ⟨rfl, rfl, rfl⟩) dX1_init_17 ?_
  have f4 := fr_R (j := 1) (v := some (n + 1)) f3 g3
  refine at_aload_n dX1_init_20 rfl ?_
  refine at_bipush dX1_init_21 pc_b16 ?_
  refine at_na 9 16 l3 (Or.inl ⟨rfl, rfl⟩) ac_int (by decide) (by decide) (by decide) f4 ⟨Nat.le_of_ble_eq_true rfl, Nat.le_of_ble_eq_true rfl⟩ dX1_init_23 ?_
  have l5 := sx_len (x := (9, 16)) l3
  have g5 := sx_get (x := (9, 16)) g3
  have f5 := fr_push (x := (9, 16)) f4
  refine at_putr flX1_18 rfl g5 (fun _ _ _ hq => by cases hq; first | exact Or.inl rfl | exact Or.inr ⟨rfl, rfl, rfl⟩) dX1_init_25 ?_
  have f6 := fr_R (j := 2) (v := some (n + 2)) f5 g5
  refine at_aload_n dX1_init_28 rfl ?_
  refine at_bipush dX1_init_29 pc_b8 ?_
  refine at_na 9 8 l5 (Or.inl ⟨rfl, rfl⟩) ac_int (by decide) (by decide) (by decide) f6 ⟨Nat.le_of_ble_eq_true rfl, Nat.le_of_ble_eq_true rfl⟩ dX1_init_31 ?_
  have l7 := sx_len (x := (9, 8)) l5
  have g7 := sx_get (x := (9, 8)) g5
  have f7 := fr_push (x := (9, 8)) f6
  refine at_putr flX1_21 rfl g7 (fun _ _ _ hq => by cases hq; first | exact Or.inl rfl | exact Or.inr ⟨rfl, rfl, rfl⟩) dX1_init_33 ?_
  have f8 := fr_R (j := 4) (v := some (n + 3)) f7 g7
  refine at_aload_n dX1_init_36 rfl ?_
  refine at_bipush dX1_init_37 pc_b6 ?_
  refine at_na 9 6 l7 (Or.inl ⟨rfl, rfl⟩) ac_int (by decide) (by decide) (by decide) f8 ⟨Nat.le_of_ble_eq_true rfl, Nat.le_of_ble_eq_true rfl⟩ dX1_init_39 ?_
  have l9 := sx_len (x := (9, 6)) l7
  have g9 := sx_get (x := (9, 6)) g7
  have f9 := fr_push (x := (9, 6)) f8
  refine at_putr flX1_26 rfl g9 (fun _ _ _ hq => by cases hq; first | exact Or.inl rfl | exact Or.inr ⟨rfl, rfl, rfl⟩) dX1_init_41 ?_
  have f10 := fr_R (j := 5) (v := some (n + 4)) f9 g9
  refine at_aload_n dX1_init_44 rfl ?_
  refine at_bipush dX1_init_45 pc_b40 ?_
  refine at_na 9 40 l9 (Or.inl ⟨rfl, rfl⟩) ac_int (by decide) (by decide) (by decide) f10 ⟨Nat.le_of_ble_eq_true rfl, Nat.le_of_ble_eq_true rfl⟩ dX1_init_47 ?_
  have l11 := sx_len (x := (9, 40)) l9
  have g11 := sx_get (x := (9, 40)) g9
  have f11 := fr_push (x := (9, 40)) f10
  refine at_putr flX1_29 rfl g11 (fun _ _ _ hq => by cases hq; first | exact Or.inl rfl | exact Or.inr ⟨rfl, rfl, rfl⟩) dX1_init_49 ?_
  have f12 := fr_R (j := 6) (v := some (n + 5)) f11 g11
  refine at_vret rfl dX1_init_52 ?_
  exact ⟨rfl, rfl⟩
def S_X3 (S : List (Nat × Nat)) : List (Nat × Nat) := (S_X4 ((((((((S ++ [(9, 16)]) ++ [(9, 16)]) ++ [(9, 16)]) ++ [(9, 40)]) ++ [(9, 40)]) ++ [(9, 40)]) ++ [(9, 40)]) ++ [(3, 0)]))
def I_X3 (I : Nat → Nat → Int32) (n a : Nat) : Nat → Nat → Int32 := (I_X4 (pd_up (pd_up (pd_up (pd_up I a 11 1) a 13 999) a 14 100) a 15 50) (n + 8) (n + 7))
def R_X3 (R : Nat → Nat → Option Nat) (n a : Nat) : Nat → Nat → Option Nat := (pd_up (R_X4 (pd_up (pd_up (pd_up (pd_up (pd_up (pd_up (pd_up R a 1 (some n)) a 2 (some (n + 1))) a 3 (some (n + 2))) a 7 (some (n + 3))) a 8 (some (n + 4))) a 9 (some (n + 5))) a 10 (some (n + 6))) (n + 8) (n + 7)) a 16 (some (n + 7)))
theorem sl_X3 (hl : S.length = n) : (S_X3 S).length = n + 9 := by
  have l1 := sx_len (x := (9, 16)) hl
  have l3 := sx_len (x := (9, 16)) l1
  have l5 := sx_len (x := (9, 16)) l3
  have l7 := sx_len (x := (9, 40)) l5
  have l9 := sx_len (x := (9, 40)) l7
  have l11 := sx_len (x := (9, 40)) l9
  have l13 := sx_len (x := (9, 40)) l11
  have l19 := sx_len (x := (3, 0)) l13
  have l20 := sl_X4 l19
  exact l20
theorem sg_X3 {b : Nat} {y : Nat × Nat} (ha : S[b]? = some y) : (S_X3 S)[b]? = some y := by
  have g1 := sx_get (x := (9, 16)) ha
  have g3 := sx_get (x := (9, 16)) g1
  have g5 := sx_get (x := (9, 16)) g3
  have g7 := sx_get (x := (9, 40)) g5
  have g9 := sx_get (x := (9, 40)) g7
  have g11 := sx_get (x := (9, 40)) g9
  have g13 := sx_get (x := (9, 40)) g11
  have g19 := sx_get (x := (3, 0)) g13
  have g20 := sg_X4 g19
  exact g20
theorem sf_X3 (hl : S.length = n) (ha : S[a]? = some (2, 0)) (hf : pd_fresh S I L R) : pd_fresh (S_X3 S) (I_X3 I n a) L (R_X3 R n a) := by
  have l1 := sx_len (x := (9, 16)) hl
  have g1 := sx_get (x := (9, 16)) ha
  have f1 := fr_push (x := (9, 16)) hf
  have f2 := fr_R (j := 1) (v := some n) f1 g1
  have l3 := sx_len (x := (9, 16)) l1
  have g3 := sx_get (x := (9, 16)) g1
  have f3 := fr_push (x := (9, 16)) f2
  have f4 := fr_R (j := 2) (v := some (n + 1)) f3 g3
  have l5 := sx_len (x := (9, 16)) l3
  have g5 := sx_get (x := (9, 16)) g3
  have f5 := fr_push (x := (9, 16)) f4
  have f6 := fr_R (j := 3) (v := some (n + 2)) f5 g5
  have l7 := sx_len (x := (9, 40)) l5
  have g7 := sx_get (x := (9, 40)) g5
  have f7 := fr_push (x := (9, 40)) f6
  have f8 := fr_R (j := 7) (v := some (n + 3)) f7 g7
  have l9 := sx_len (x := (9, 40)) l7
  have g9 := sx_get (x := (9, 40)) g7
  have f9 := fr_push (x := (9, 40)) f8
  have f10 := fr_R (j := 8) (v := some (n + 4)) f9 g9
  have l11 := sx_len (x := (9, 40)) l9
  have g11 := sx_get (x := (9, 40)) g9
  have f11 := fr_push (x := (9, 40)) f10
  have f12 := fr_R (j := 9) (v := some (n + 5)) f11 g11
  have l13 := sx_len (x := (9, 40)) l11
  have g13 := sx_get (x := (9, 40)) g11
  have f13 := fr_push (x := (9, 40)) f12
  have f14 := fr_R (j := 10) (v := some (n + 6)) f13 g13
  have f15 := fr_I (j := 11) (v := 1) f14 g13
  have f16 := fr_I (j := 13) (v := 999) f15 g13
  have f17 := fr_I (j := 14) (v := 100) f16 g13
  have f18 := fr_I (j := 15) (v := 50) f17 g13
  have o19 := sx_new (x := (3, 0)) l13
  have l19 := sx_len (x := (3, 0)) l13
  have g19 := sx_get (x := (3, 0)) g13
  have f19 := fr_push (x := (3, 0)) f18
  have l20 := sl_X4 l19
  have g20 := sg_X4 g19
  have f20 := sf_X4 (n := (n + 8)) l19 o19 f19
  have f21 := fr_R (j := 16) (v := some (n + 7)) f20 g20
  exact f21
theorem ev_X3_init (hl : S.length = n) (ha : S[a]? = some (2, 0)) (hf : pd_fresh S I L R) : pd_Ev G mi_X3_init 2 9 810 [.ref (pd_z G + a)] (S, true, I, L, R) (pd_rv (S_X3 S, true, I_X3 I n a, L, R_X3 R n a)) := by
  refine pd_ev 0 (lo := [some (.ref (pd_z G + a))]) (by decide +kernel) (Nat.le_of_ble_eq_true rfl) rfl ?_
  refine at_aload_n dX3_init_0 rfl ?_
  refine at_oinit moX3_3 pd_oi.1 pd_oi.2 (by decide) (Nat.le_of_ble_eq_true rfl) dX3_init_1 ?_
  refine at_aload_n dX3_init_4 rfl ?_
  refine at_bipush dX3_init_5 pc_b16 ?_
  refine at_na 9 16 hl (Or.inl ⟨rfl, rfl⟩) ac_int (by decide) (by decide) (by decide) hf ⟨Nat.le_of_ble_eq_true rfl, Nat.le_of_ble_eq_true rfl⟩ dX3_init_7 ?_
  have l1 := sx_len (x := (9, 16)) hl
  have g1 := sx_get (x := (9, 16)) ha
  have f1 := fr_push (x := (9, 16)) hf
  refine at_putr flX3_9 rfl g1 (fun _ _ _ hq => by cases hq; first | exact Or.inl rfl | exact Or.inr ⟨rfl, rfl, rfl⟩) dX3_init_9 ?_
  have f2 := fr_R (j := 1) (v := some n) f1 g1
  refine at_aload_n dX3_init_12 rfl ?_
  refine at_bipush dX3_init_13 pc_b16 ?_
  refine at_na 9 16 l1 (Or.inl ⟨rfl, rfl⟩) ac_int (by decide) (by decide) (by decide) f2 ⟨Nat.le_of_ble_eq_true rfl, Nat.le_of_ble_eq_true rfl⟩ dX3_init_15 ?_
  have l3 := sx_len (x := (9, 16)) l1
  have g3 := sx_get (x := (9, 16)) g1
  have f3 := fr_push (x := (9, 16)) f2
  refine at_putr flX3_15 rfl g3 (fun _ _ _ hq => by cases hq; first | exact Or.inl rfl | exact Or.inr ⟨rfl, rfl, rfl⟩) dX3_init_17 ?_
  have f4 := fr_R (j := 2) (v := some (n + 1)) f3 g3
  refine at_aload_n dX3_init_20 rfl ?_
  refine at_bipush dX3_init_21 pc_b16 ?_
  refine at_na 9 16 l3 (Or.inl ⟨rfl, rfl⟩) ac_int (by decide) (by decide) (by decide) f4 ⟨Nat.le_of_ble_eq_true rfl, Nat.le_of_ble_eq_true rfl⟩ dX3_init_23 ?_
  have l5 := sx_len (x := (9, 16)) l3
  have g5 := sx_get (x := (9, 16)) g3
  have f5 := fr_push (x := (9, 16)) f4
  refine at_putr flX3_18 rfl g5 (fun _ _ _ hq => by cases hq; first | exact Or.inl rfl | exact Or.inr ⟨rfl, rfl, rfl⟩) dX3_init_25 ?_
  have f6 := fr_R (j := 3) (v := some (n + 2)) f5 g5
  refine at_aload_n dX3_init_28 rfl ?_
  refine at_bipush dX3_init_29 pc_b40 ?_
  refine at_na 9 40 l5 (Or.inl ⟨rfl, rfl⟩) ac_int (by decide) (by decide) (by decide) f6 ⟨Nat.le_of_ble_eq_true rfl, Nat.le_of_ble_eq_true rfl⟩ dX3_init_31 ?_
  have l7 := sx_len (x := (9, 40)) l5
  have g7 := sx_get (x := (9, 40)) g5
  have f7 := fr_push (x := (9, 40)) f6
  refine at_putr flX3_21 rfl g7 (fun _ _ _ hq => by cases hq; first | exact Or.inl rfl | exact Or.inr ⟨rfl, rfl, rfl⟩) dX3_init_33 ?_
  have f8 := fr_R (j := 7) (v := some (n + 3)) f7 g7
  refine at_aload_n dX3_init_36 rfl ?_
  refine at_bipush dX3_init_37 pc_b40 ?_
  refine at_na 9 40 l7 (Or.inl ⟨rfl, rfl⟩) ac_int (by decide) (by decide) (by decide) f8 ⟨Nat.le_of_ble_eq_true rfl, Nat.le_of_ble_eq_true rfl⟩ dX3_init_39 ?_
  have l9 := sx_len (x := (9, 40)) l7
  have g9 := sx_get (x := (9, 40)) g7
  have f9 := fr_push (x := (9, 40)) f8
  refine at_putr flX3_24 rfl g9 (fun _ _ _ hq => by cases hq; first | exact Or.inl rfl | exact Or.inr ⟨rfl, rfl, rfl⟩) dX3_init_41 ?_
  have f10 := fr_R (j := 8) (v := some (n + 4)) f9 g9
  refine at_aload_n dX3_init_44 rfl ?_
  refine at_bipush dX3_init_45 pc_b40 ?_
  refine at_na 9 40 l9 (Or.inl ⟨rfl, rfl⟩) ac_int (by decide) (by decide) (by decide) f10 ⟨Nat.le_of_ble_eq_true rfl, Nat.le_of_ble_eq_true rfl⟩ dX3_init_47 ?_
  have l11 := sx_len (x := (9, 40)) l9
  have g11 := sx_get (x := (9, 40)) g9
  have f11 := fr_push (x := (9, 40)) f10
  refine at_putr flX3_27 rfl g11 (fun _ _ _ hq => by cases hq; first | exact Or.inl rfl | exact Or.inr ⟨rfl, rfl, rfl⟩) dX3_init_49 ?_
  have f12 := fr_R (j := 9) (v := some (n + 5)) f11 g11
  refine at_aload_n dX3_init_52 rfl ?_
  refine at_bipush dX3_init_53 pc_b40 ?_
  refine at_na 9 40 l11 (Or.inl ⟨rfl, rfl⟩) ac_int (by decide) (by decide) (by decide) f12 ⟨Nat.le_of_ble_eq_true rfl, Nat.le_of_ble_eq_true rfl⟩ dX3_init_55 ?_
  have l13 := sx_len (x := (9, 40)) l11
  have g13 := sx_get (x := (9, 40)) g11
  have f13 := fr_push (x := (9, 40)) f12
  refine at_putr flX3_30 rfl g13 (fun _ _ _ hq => by cases hq; first | exact Or.inl rfl | exact Or.inr ⟨rfl, rfl, rfl⟩) dX3_init_57 ?_
  have f14 := fr_R (j := 10) (v := some (n + 6)) f13 g13
  refine at_aload_n dX3_init_60 rfl ?_
  refine at_iconst dX3_init_61 pc_i1 ?_
  refine at_puti flX3_33 rfl g13 (fun _ _ _ hq => by cases hq; rfl) dX3_init_62 ?_
  have f15 := fr_I (j := 11) (v := 1) f14 g13
  refine at_aload_n dX3_init_65 rfl ?_
  refine at_sipush dX3_init_66 pc_s999 ?_
  refine at_puti flX3_37 rfl g13 (fun _ _ _ hq => by cases hq; rfl) dX3_init_69 ?_
  have f16 := fr_I (j := 13) (v := 999) f15 g13
  refine at_aload_n dX3_init_72 rfl ?_
  refine at_bipush dX3_init_73 pc_b100 ?_
  refine at_puti flX3_40 rfl g13 (fun _ _ _ hq => by cases hq; rfl) dX3_init_75 ?_
  have f17 := fr_I (j := 14) (v := 100) f16 g13
  refine at_aload_n dX3_init_78 rfl ?_
  refine at_bipush dX3_init_79 pc_b50 ?_
  refine at_puti flX3_43 rfl g13 (fun _ _ _ hq => by cases hq; rfl) dX3_init_81 ?_
  have f18 := fr_I (j := 15) (v := 50) f17 g13
  refine at_aload_n dX3_init_84 rfl ?_
  refine at_nw (ci := 3) l13 klX3_46 niX4 in_X4_init rfl f18 ⟨Nat.le_of_ble_eq_true rfl, Nat.le_of_ble_eq_true rfl⟩ dX3_init_85 ?_
  have o19 := sx_new (x := (3, 0)) l13
  have l19 := sx_len (x := (3, 0)) l13
  have g19 := sx_get (x := (3, 0)) g13
  have f19 := fr_push (x := (3, 0)) f18
  refine at_dup dX3_init_88 rfl ?_
  refine at_cn0 cb_X4_init rfl mnX3_48 rfl im_X4_init (ev_X4_init (n := (n + 8)) l19 o19 f19) (by decide) ⟨Nat.le_of_ble_eq_true rfl, Nat.le_of_ble_eq_true rfl⟩ (Nat.le_of_ble_eq_true rfl) dX3_init_89 (pd_k0 ?_)
  have l20 := sl_X4 l19
  have g20 := sg_X4 g19
  have f20 := sf_X4 (n := (n + 8)) l19 o19 f19
  refine at_putr flX3_49 rfl g20 (fun _ _ _ hq => by cases hq; first | exact Or.inl rfl | exact Or.inr ⟨rfl, rfl, rfl⟩) dX3_init_92 ?_
  have f21 := fr_R (j := 16) (v := some (n + 7)) f20 g20
  refine at_vret rfl dX3_init_95 ?_
  exact ⟨rfl, rfl⟩
def S_X6 (S : List (Nat × Nat)) : List (Nat × Nat) := (S_X3 ((S_X7 (S ++ [(6, 0)])) ++ [(2, 0)]))
def I_X6 (I : Nat → Nat → Int32) (n a : Nat) : Nat → Nat → Int32 := (I_X3 (I_X7 I (n + 1) n) (n + 7) (n + 6))
def R_X6 (R : Nat → Nat → Option Nat) (n a : Nat) : Nat → Nat → Option Nat := (pd_up (R_X3 (pd_up (R_X7 R (n + 1) n) a 0 (some n)) (n + 7) (n + 6)) a 1 (some (n + 6)))
theorem sl_X6 (hl : S.length = n) : (S_X6 S).length = n + 16 := by
  have l1 := sx_len (x := (6, 0)) hl
  have l2 := sl_X7 l1
  have l4 := sx_len (x := (2, 0)) l2
  have l5 := sl_X3 l4
  exact l5
theorem sg_X6 {b : Nat} {y : Nat × Nat} (ha : S[b]? = some y) : (S_X6 S)[b]? = some y := by
  have g1 := sx_get (x := (6, 0)) ha
  have g2 := sg_X7 g1
  have g4 := sx_get (x := (2, 0)) g2
  have g5 := sg_X3 g4
  exact g5
theorem sf_X6 (hl : S.length = n) (ha : S[a]? = some (5, 0)) (hf : pd_fresh S I L R) : pd_fresh (S_X6 S) (I_X6 I n a) L (R_X6 R n a) := by
  have o1 := sx_new (x := (6, 0)) hl
  have l1 := sx_len (x := (6, 0)) hl
  have g1 := sx_get (x := (6, 0)) ha
  have f1 := fr_push (x := (6, 0)) hf
  have l2 := sl_X7 l1
  have g2 := sg_X7 g1
  have f2 := sf_X7 (n := (n + 1)) l1 o1 f1
  have f3 := fr_R (j := 0) (v := some n) f2 g2
  have o4 := sx_new (x := (2, 0)) l2
  have l4 := sx_len (x := (2, 0)) l2
  have g4 := sx_get (x := (2, 0)) g2
  have f4 := fr_push (x := (2, 0)) f3
  have l5 := sl_X3 l4
  have g5 := sg_X3 g4
  have f5 := sf_X3 (n := (n + 7)) l4 o4 f4
  have f6 := fr_R (j := 1) (v := some (n + 6)) f5 g5
  exact f6
theorem ev_X6_init (hl : S.length = n) (ha : S[a]? = some (5, 0)) (hf : pd_fresh S I L R) : pd_Ev G mi_X6_init 3 16 3240 [.ref (pd_z G + a)] (S, true, I, L, R) (pd_rv (S_X6 S, true, I_X6 I n a, L, R_X6 R n a)) := by
  refine pd_ev 0 (lo := [some (.ref (pd_z G + a))]) (by decide +kernel) (Nat.le_of_ble_eq_true rfl) rfl ?_
  refine at_aload_n dX6_init_0 rfl ?_
  refine at_oinit moX6_3 pd_oi.1 pd_oi.2 (by decide) (Nat.le_of_ble_eq_true rfl) dX6_init_1 ?_
  refine at_aload_n dX6_init_4 rfl ?_
  refine at_nw (ci := 6) hl klX6_9 niX7 in_X7_init rfl hf ⟨Nat.le_of_ble_eq_true rfl, Nat.le_of_ble_eq_true rfl⟩ dX6_init_5 ?_
  have o1 := sx_new (x := (6, 0)) hl
  have l1 := sx_len (x := (6, 0)) hl
  have g1 := sx_get (x := (6, 0)) ha
  have f1 := fr_push (x := (6, 0)) hf
  refine at_dup dX6_init_8 rfl ?_
  refine at_cn0 cb_X7_init rfl mnX6_11 rfl im_X7_init (ev_X7_init (n := (n + 1)) l1 o1 f1) (by decide) ⟨Nat.le_of_ble_eq_true rfl, Nat.le_of_ble_eq_true rfl⟩ (Nat.le_of_ble_eq_true rfl) dX6_init_9 (pd_k0 ?_)
  have l2 := sl_X7 l1
  have g2 := sg_X7 g1
  have f2 := sf_X7 (n := (n + 1)) l1 o1 f1
  refine at_putr flX6_12 rfl g2 (fun _ _ _ hq => by cases hq; first | exact Or.inl rfl | exact Or.inr ⟨rfl, rfl, rfl⟩) dX6_init_12 ?_
  have f3 := fr_R (j := 0) (v := some n) f2 g2
  refine at_aload_n dX6_init_15 rfl ?_
  refine at_nw (ci := 2) l2 klX6_18 niX3 in_X3_init rfl f3 ⟨Nat.le_of_ble_eq_true rfl, Nat.le_of_ble_eq_true rfl⟩ dX6_init_16 ?_
  have o4 := sx_new (x := (2, 0)) l2
  have l4 := sx_len (x := (2, 0)) l2
  have g4 := sx_get (x := (2, 0)) g2
  have f4 := fr_push (x := (2, 0)) f3
  refine at_dup dX6_init_19 rfl ?_
  refine at_cn0 cb_X3_init rfl mnX6_20 rfl im_X3_init (ev_X3_init (n := (n + 7)) l4 o4 f4) (by decide) ⟨Nat.le_of_ble_eq_true rfl, Nat.le_of_ble_eq_true rfl⟩ (Nat.le_of_ble_eq_true rfl) dX6_init_20 (pd_k0 ?_)
  have l5 := sl_X3 l4
  have g5 := sg_X3 g4
  have f5 := sf_X3 (n := (n + 7)) l4 o4 f4
  refine at_putr flX6_21 rfl g5 (fun _ _ _ hq => by cases hq; first | exact Or.inl rfl | exact Or.inr ⟨rfl, rfl, rfl⟩) dX6_init_23 ?_
  have f6 := fr_R (j := 1) (v := some (n + 6)) f5 g5
  refine at_vret rfl dX6_init_26 ?_
  exact ⟨rfl, rfl⟩
end CTR
