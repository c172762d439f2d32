/-! ===== the reference's constructor, whole ===== -/
def R_mn (R : Nat → Nat → Option Nat) : Nat → Nat → Option Nat := fun a j => if a = 124 ∧ j < 8 then some (124 + 1 + j) else R a j
def S_X9 (S : List (Nat × Nat)) : List (Nat × Nat) := (((((((((S ++ [(9, 3)]) ++ [(9, 600)]) ++ [(9, 1105)]) ++ [(9, 1105)]) ++ (13, 8) :: List.replicate 8 (9, 1105)) ++ [(9, 40)]) ++ [(9, 40)]) ++ [(9, 800)]) ++ [(11, 41)])
def I_X9 (I : Nat → Nat → Int32) : Nat → Nat → Int32 := (pd_fw (pd_up I 119 5 (-1)) 122 r00 1105)
def R_X9 (R : Nat → Nat → Option Nat) : Nat → Nat → Option Nat := (pd_up (pd_up (pd_up (pd_up (pd_up (R_mn (pd_up (pd_up (pd_up (pd_up R 119 1 (some 120)) 119 8 (some 121)) 119 9 (some 122)) 119 10 (some 123))) 119 11 (some 124)) 119 16 (some 133)) 119 17 (some 134)) 119 18 (some 135)) 119 20 (some 136))
section RF1
variable {G : pd_G} {I : Nat → Nat → Int32} {L : Nat → Nat → Int64} {R : Nat → Nat → Option Nat} {S : List (Nat × Nat)}
theorem sm_len (h : S.length = 124) : (S ++ (13, 8) :: List.replicate 8 (9, 1105)).length = 133 := by simp [h]
theorem sm_get {b : Nat} {y : Nat × Nat} (h : S[b]? = some y) : (S ++ (13, 8) :: List.replicate 8 (9, 1105))[b]? = some y := by rw [List.getElem?_append_left (sx_lt h)]; exact h
theorem sm_fr (hl : S.length = 124) (hf : pd_fresh S I L R) : pd_fresh (S ++ (13, 8) :: List.replicate 8 (9, 1105)) I L (R_mn R) := fun c hc => by
  rw [sm_len hl] at hc
  refine ⟨(hf c (by omega)).1, (hf c (by omega)).2.1, fun j => ?_⟩
  unfold R_mn
  rw [if_neg (by omega)]
  exact (hf c (by omega)).2.2 j
/-- over the open row: new int[8][1105] -/
theorem ev_X9_init_open (hm : MNW G) (hl : S.length = 120) (ha : S[119]? = some (8, 0)) (hf : pd_fresh S I L R) : pd_Ev G mi_X9_init 2 17 12582 [.ref (pd_z G + 119)] (S, true, I, L, R) (pd_rv (S_X9 S, true, I_X9 I, L, R_X9 R)) := by
  refine pd_ev 0 (lo := [some (.ref (pd_z G + 119))]) (by decide +kernel) (Nat.le_of_ble_eq_true rfl) rfl ?_
  refine at_aload_n dX9_init_0 rfl ?_
  refine at_oinit moX9_3 pd_oi.1 pd_oi.2 (by decide) (Nat.le_of_ble_eq_true rfl) dX9_init_1 ?_
  refine at_aload_n dX9_init_4 rfl ?_
  refine at_iconst dX9_init_5 pc_i3 ?_
  refine at_na (n := 120) 9 3 hl (Or.inl ⟨rfl, rfl⟩) ac_int (by decide) (by decide) (by decide) hf ⟨Nat.le_of_ble_eq_true rfl, Nat.le_of_ble_eq_true rfl⟩ dX9_init_6 ?_
  have l1 := sx_len (x := (9, 3)) hl
  have g1 := sx_get (x := (9, 3)) ha
  have e1 := fr_push (x := (9, 3)) hf
  refine at_putr flX9_9 rfl g1 (fun _ _ _ hq => by cases hq; first | exact Or.inl rfl | exact Or.inr ⟨rfl, rfl, rfl⟩) dX9_init_8 ?_
  have f1 := fr_R (j := 1) (v := some 120) e1 g1
  refine at_aload_n dX9_init_11 rfl ?_
  refine at_iconst dX9_init_12 pc_im1 ?_
  refine at_puti flX9_13 rfl g1 (fun _ _ _ hq => by cases hq; rfl) dX9_init_13 ?_
  have fI := fr_I (j := 5) (v := -1) f1 g1
  refine at_aload_n dX9_init_16 rfl ?_
  refine at_sipush dX9_init_17 pc_s600 ?_
  refine at_na (n := 121) 9 600 l1 (Or.inl ⟨rfl, rfl⟩) ac_int (by decide) (by decide) (by decide) fI ⟨Nat.le_of_ble_eq_true rfl, Nat.le_of_ble_eq_true rfl⟩ dX9_init_20 ?_
  have l2 := sx_len (x := (9, 600)) l1
  have g2 := sx_get (x := (9, 600)) g1
  have e2 := fr_push (x := (9, 600)) fI
  refine at_putr flX9_17 rfl g2 (fun _ _ _ hq => by cases hq; first | exact Or.inl rfl | exact Or.inr ⟨rfl, rfl, rfl⟩) dX9_init_22 ?_
  have f2 := fr_R (j := 8) (v := some 121) e2 g2
  refine at_aload_n dX9_init_25 rfl ?_
  refine at_sipush dX9_init_26 pc_s1105 ?_
  refine at_na (n := 122) 9 1105 l2 (Or.inl ⟨rfl, rfl⟩) ac_int (by decide) (by decide) (by decide) f2 ⟨Nat.le_of_ble_eq_true rfl, Nat.le_of_ble_eq_true rfl⟩ dX9_init_29 ?_
  have l3 := sx_len (x := (9, 1105)) l2
  have g3 := sx_get (x := (9, 1105)) g2
  have e3 := fr_push (x := (9, 1105)) f2
  have w0 := sx_new (x := (9, 1105)) l2
  refine at_putr flX9_20 rfl g3 (fun _ _ _ hq => by cases hq; first | exact Or.inl rfl | exact Or.inr ⟨rfl, rfl, rfl⟩) dX9_init_31 ?_
  have f3 := fr_R (j := 9) (v := some 122) e3 g3
  refine at_aload_n dX9_init_34 rfl ?_
  refine at_sipush dX9_init_35 pc_s1105 ?_
  refine at_na (n := 123) 9 1105 l3 (Or.inl ⟨rfl, rfl⟩) ac_int (by decide) (by decide) (by decide) f3 ⟨Nat.le_of_ble_eq_true rfl, Nat.le_of_ble_eq_true rfl⟩ dX9_init_38 ?_
  have l4 := sx_len (x := (9, 1105)) l3
  have g4 := sx_get (x := (9, 1105)) g3
  have e4 := fr_push (x := (9, 1105)) f3
  have w4 := sx_get (x := (9, 1105)) w0
  refine at_putr flX9_23 rfl g4 (fun _ _ _ hq => by cases hq; first | exact Or.inl rfl | exact Or.inr ⟨rfl, rfl, rfl⟩) dX9_init_40 ?_
  have f4 := fr_R (j := 10) (v := some 123) e4 g4
  refine at_aload_n dX9_init_43 rfl ?_
  refine at_bipush dX9_init_44 pc_b8 ?_
  refine at_sipush dX9_init_46 pc_s1105 ?_
  refine hm _ _ _ _ _ _ _ _ _ _ _ _ f4 ⟨Nat.le_of_ble_eq_true rfl, Nat.le_of_ble_eq_true rfl⟩ ?_
  rw [l4]
  have lm := sm_len l4
  have gm := sm_get g4
  have wm := sm_get w4
  have em := sm_fr l4 f4
  refine at_putr flX9_28 rfl gm (fun _ _ _ hq => by cases hq; first | exact Or.inl rfl | exact Or.inr ⟨rfl, rfl, rfl⟩) dX9_init_53 ?_
  have fm := fr_R (j := 11) (v := some 124) em gm
  refine at_aload_n dX9_init_56 rfl ?_
  refine at_bipush dX9_init_57 pc_b40 ?_
  refine at_na (n := 133) 9 40 lm (Or.inl ⟨rfl, rfl⟩) ac_int (by decide) (by decide) (by decide) fm ⟨Nat.le_of_ble_eq_true rfl, Nat.le_of_ble_eq_true rfl⟩ dX9_init_59 ?_
  have l5 := sx_len (x := (9, 40)) lm
  have g5 := sx_get (x := (9, 40)) gm
  have e5 := fr_push (x := (9, 40)) fm
  have w5 := sx_get (x := (9, 40)) wm
  refine at_putr flX9_31 rfl g5 (fun _ _ _ hq => by cases hq; first | exact Or.inl rfl | exact Or.inr ⟨rfl, rfl, rfl⟩) dX9_init_61 ?_
  have f5 := fr_R (j := 16) (v := some 133) e5 g5
  refine at_aload_n dX9_init_64 rfl ?_
  refine at_bipush dX9_init_65 pc_b40 ?_
  refine at_na (n := 134) 9 40 l5 (Or.inl ⟨rfl, rfl⟩) ac_int (by decide) (by decide) (by decide) f5 ⟨Nat.le_of_ble_eq_true rfl, Nat.le_of_ble_eq_true rfl⟩ dX9_init_67 ?_
  have l6 := sx_len (x := (9, 40)) l5
  have g6 := sx_get (x := (9, 40)) g5
  have e6 := fr_push (x := (9, 40)) f5
  have w6 := sx_get (x := (9, 40)) w5
  refine at_putr flX9_34 rfl g6 (fun _ _ _ hq => by cases hq; first | exact Or.inl rfl | exact Or.inr ⟨rfl, rfl, rfl⟩) dX9_init_69 ?_
  have f6 := fr_R (j := 17) (v := some 134) e6 g6
  refine at_aload_n dX9_init_72 rfl ?_
  refine at_sipush dX9_init_73 pc_s800 ?_
  refine at_na (n := 135) 9 800 l6 (Or.inl ⟨rfl, rfl⟩) ac_int (by decide) (by decide) (by decide) f6 ⟨Nat.le_of_ble_eq_true rfl, Nat.le_of_ble_eq_true rfl⟩ dX9_init_76 ?_
  have l7 := sx_len (x := (9, 800)) l6
  have g7 := sx_get (x := (9, 800)) g6
  have e7 := fr_push (x := (9, 800)) f6
  have w7 := sx_get (x := (9, 800)) w6
  refine at_putr flX9_37 rfl g7 (fun _ _ _ hq => by cases hq; first | exact Or.inl rfl | exact Or.inr ⟨rfl, rfl, rfl⟩) dX9_init_78 ?_
  have f7 := fr_R (j := 18) (v := some 135) e7 g7
  refine at_aload_n dX9_init_81 rfl ?_
  refine at_bipush dX9_init_82 pc_b41 ?_
  refine at_na (n := 136) 11 41 l7 (Or.inr (Or.inr ⟨rfl, rfl⟩)) ac_long (by decide) (by decide) (by decide) f7 ⟨Nat.le_of_ble_eq_true rfl, Nat.le_of_ble_eq_true rfl⟩ dX9_init_84 ?_
  have l8 := sx_len (x := (11, 41)) l7
  have g8 := sx_get (x := (11, 41)) g7
  have e8 := fr_push (x := (11, 41)) f7
  have w8 := sx_get (x := (11, 41)) w7
  refine at_putr flX9_40 rfl g8 (fun _ _ _ hq => by cases hq; first | exact Or.inl rfl | exact Or.inr ⟨rfl, rfl, rfl⟩) dX9_init_86 ?_
  have f8 := fr_R (j := 20) (v := some 136) e8 g8
  refine at_aload_n dX9_init_89 rfl ?_
  refine at_getr 122 flX9_20 rfl g8 rfl dX9_init_90 ?_
  refine at_cs1 csX9_44 (ev_X9_begins0 w8) (by decide) ⟨Nat.le_of_ble_eq_true rfl, Nat.le_of_ble_eq_true rfl⟩ (Nat.le_of_ble_eq_true rfl) dX9_init_93 (pd_k0 ?_)
  refine at_vret rfl dX9_init_96 ?_
  exact ⟨rfl, rfl⟩
theorem fr_fw {f : Nat → Int32} {c k : Nat} {y : Nat × Nat} (hf : pd_fresh S I L R) (h : S[c]? = some y) : pd_fresh S (pd_fw I c f k) L R := fun b hb => ⟨fun j => by
  have := sx_lt h
  unfold pd_fw
  rw [if_neg (by omega)]
  exact (hf b hb).1 j, (hf b hb).2⟩
theorem sf_X9 (hl : S.length = 120) (ha : S[119]? = some (8, 0)) (hf : pd_fresh S I L R) : pd_fresh (S_X9 S) (I_X9 I) L (R_X9 R) := by
  have l1 := sx_len (x := (9, 3)) hl
  have g1 := sx_get (x := (9, 3)) ha
  have e1 := fr_push (x := (9, 3)) hf
  have f1 := fr_R (j := 1) (v := some 120) e1 g1
  have fI := fr_I (j := 5) (v := -1) f1 g1
  have l2 := sx_len (x := (9, 600)) l1
  have g2 := sx_get (x := (9, 600)) g1
  have e2 := fr_push (x := (9, 600)) fI
  have f2 := fr_R (j := 8) (v := some 121) e2 g2
  have l3 := sx_len (x := (9, 1105)) l2
  have g3 := sx_get (x := (9, 1105)) g2
  have e3 := fr_push (x := (9, 1105)) f2
  have w0 := sx_new (x := (9, 1105)) l2
  have f3 := fr_R (j := 9) (v := some 122) e3 g3
  have l4 := sx_len (x := (9, 1105)) l3
  have g4 := sx_get (x := (9, 1105)) g3
  have e4 := fr_push (x := (9, 1105)) f3
  have w4 := sx_get (x := (9, 1105)) w0
  have f4 := fr_R (j := 10) (v := some 123) e4 g4
  have lm := sm_len l4
  have gm := sm_get g4
  have wm := sm_get w4
  have em := sm_fr l4 f4
  have fm := fr_R (j := 11) (v := some 124) em gm
  have l5 := sx_len (x := (9, 40)) lm
  have g5 := sx_get (x := (9, 40)) gm
  have e5 := fr_push (x := (9, 40)) fm
  have w5 := sx_get (x := (9, 40)) wm
  have f5 := fr_R (j := 16) (v := some 133) e5 g5
  have l6 := sx_len (x := (9, 40)) l5
  have g6 := sx_get (x := (9, 40)) g5
  have e6 := fr_push (x := (9, 40)) f5
  have w6 := sx_get (x := (9, 40)) w5
  have f6 := fr_R (j := 17) (v := some 134) e6 g6
  have l7 := sx_len (x := (9, 800)) l6
  have g7 := sx_get (x := (9, 800)) g6
  have e7 := fr_push (x := (9, 800)) f6
  have w7 := sx_get (x := (9, 800)) w6
  have f7 := fr_R (j := 18) (v := some 135) e7 g7
  have l8 := sx_len (x := (11, 41)) l7
  have g8 := sx_get (x := (11, 41)) g7
  have e8 := fr_push (x := (11, 41)) f7
  have w8 := sx_get (x := (11, 41)) w7
  have f8 := fr_R (j := 20) (v := some 136) e8 g8
  exact fr_fw f8 w8
end RF1
