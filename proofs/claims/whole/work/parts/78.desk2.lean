/-! ===== the desk's constructor, whole ===== -/
def s8a : List (Nat × Nat) := S_X6 ([(7, 0)] ++ [(5, 0)])
def s8b : List (Nat × Nat) := S_X1 (s8a ++ [(1, 0)])
def s8c : List (Nat × Nat) := S_X0 (s8b ++ [(0, 0)])
def s8d : List (Nat × Nat) := s8c ++ [(12, 8)]
def s8e : List (Nat × Nat) := S_X3 (S_ps s8d 8 ++ [(2, 0)])
def r8a (R : Nat → Nat → Option Nat) : Nat → Nat → Option Nat := pd_up (pd_up (R_X6 R 2 1) 0 0 (some 1)) 0 1 (some 6)
def r8b (R : Nat → Nat → Option Nat) : Nat → Nat → Option Nat := pd_up (R_X1 (r8a R) 19 18) 0 2 (some 18)
def r8c (R : Nat → Nat → Option Nat) : Nat → Nat → Option Nat := pd_up (R_X0 (r8b R) 26 25) 0 3 (some 25)
def r8d (R : Nat → Nat → Option Nat) : Nat → Nat → Option Nat := pd_up (r8c R) 0 4 (some 28)
def r8e (R : Nat → Nat → Option Nat) : Nat → Nat → Option Nat := pd_up (R_X3 (R_ps (r8d R) 8) 110 109) 0 6 (some 109)
def i8b (I : Nat → Nat → Int32) : Nat → Nat → Int32 := I_X1 (I_X6 I 2 1) 19 18
def i8e (I : Nat → Nat → Int32) : Nat → Nat → Int32 := pd_up (I_X3 (I_ps (i8b I) 8) 110 109) 0 7 (-1)
section DSK2
variable {G : pd_G} {I : Nat → Nat → Int32} {L : Nat → Nat → Int64} {R : Nat → Nat → Option Nat}
theorem ev_X8_init (hf : pd_fresh [(7, 0)] I L R) : pd_Ev G mi_X8_init 4 118 12597 [.ref (pd_z G + 0)] ([(7, 0)], true, I, L, R) (fun o M => o = .inl none ∧ ∃ L', M = (s8e, true, i8e I, L', r8e R) ∧ TI 26 L L' 41 0 ∧ pd_fresh s8e (i8e I) L' (r8e R)) := by
  refine pd_ev 1 (lo := [some (.ref (pd_z G + 0)), none]) (by decide +kernel) (Nat.le_of_ble_eq_true rfl) rfl ?_
  refine at_aload_n dX8_init_0 rfl ?_
  refine at_oinit moX8_1 pd_oi.1 pd_oi.2 (by decide) (Nat.le_of_ble_eq_true rfl) dX8_init_1 ?_
  refine at_aload_n dX8_init_4 rfl ?_
  refine at_nw (ci := 5) (n := 1) rfl klX8_7 niX6 in_X6_init rfl hf ⟨Nat.le_of_ble_eq_true rfl, Nat.le_of_ble_eq_true rfl⟩ dX8_init_5 ?_
  refine at_dup dX8_init_8 rfl ?_
  refine at_cn0 cb_X6_init rfl mnX8_9 rfl im_X6_init (ev_X6_init (n := 2) (a := 1) rfl rfl (fr_push hf)) (by decide) ⟨Nat.le_of_ble_eq_true rfl, Nat.le_of_ble_eq_true rfl⟩ (Nat.le_of_ble_eq_true rfl) dX8_init_9 (pd_k0 ?_)
  have fa := sf_X6 (n := 2) (a := 1) (S := [(7, 0)] ++ [(5, 0)]) rfl rfl (fr_push hf)
  have ga : s8a[0]? = some (7, 0) := rfl
  refine at_putr flX8_10 rfl ga (fun _ _ _ hq => by cases hq; first | exact Or.inl rfl | exact Or.inr ⟨rfl, rfl, rfl⟩) dX8_init_12 ?_
  refine at_aload_n dX8_init_15 rfl ?_
  refine at_aload_n dX8_init_16 rfl ?_
  refine at_getr 1 flX8_10 rfl ga rfl dX8_init_17 ?_
  refine at_getr 2 flX8_16 rfl (show s8a[1]? = some (5, 0) from rfl) rfl dX8_init_20 ?_
  refine at_getr 6 flX8_20 rfl (show s8a[2]? = some (6, 0) from rfl) rfl dX8_init_23 ?_
  refine at_putr flX8_26 rfl ga (fun _ _ _ hq => by cases hq; first | exact Or.inl rfl | exact Or.inr ⟨rfl, rfl, rfl⟩) dX8_init_26 ?_
  have fb : pd_fresh s8a (I_X6 I 2 1) L (r8a R) := fr_R (fr_R fa ga) ga
  refine at_aload_n dX8_init_29 rfl ?_
  refine at_nw (ci := 1) (n := 18) rfl klX8_27 niX1 in_X1_init rfl fb ⟨Nat.le_of_ble_eq_true rfl, Nat.le_of_ble_eq_true rfl⟩ dX8_init_30 ?_
  refine at_dup dX8_init_33 rfl ?_
  refine at_cn0 cb_X1_init rfl mnX8_29 rfl im_X1_init (ev_X1_init (n := 19) (a := 18) rfl rfl (fr_push fb)) (by decide) ⟨Nat.le_of_ble_eq_true rfl, Nat.le_of_ble_eq_true rfl⟩ (Nat.le_of_ble_eq_true rfl) dX8_init_34 (pd_k0 ?_)
  have gb : s8b[0]? = some (7, 0) := rfl
  have fc : pd_fresh s8b (i8b I) L (r8b R) := fr_R (sf_X1 (n := 19) (a := 18) (S := s8a ++ [(1, 0)]) rfl rfl (fr_push fb)) gb
  refine at_putr flX8_30 rfl gb (fun _ _ _ hq => by cases hq; first | exact Or.inl rfl | exact Or.inr ⟨rfl, rfl, rfl⟩) dX8_init_37 ?_
  refine at_aload_n dX8_init_40 rfl ?_
  refine at_nw (ci := 0) (n := 25) rfl klX8_34 niX0 in_X0_init rfl fc ⟨Nat.le_of_ble_eq_true rfl, Nat.le_of_ble_eq_true rfl⟩ dX8_init_41 ?_
  refine at_dup dX8_init_44 rfl ?_
  refine at_ci0 cb_X0_init rfl mlX8_36 rfl im_X0_init (ev_X0_init (n := 26) (a := 25) rfl rfl (fr_push fc)) (by decide) ⟨Nat.le_of_ble_eq_true rfl, Nat.le_of_ble_eq_true rfl⟩ (Nat.le_of_ble_eq_true rfl) dX8_init_45 (fun o M hq => ?_)
  obtain ⟨rfl, L', rfl, hT⟩ := hq
  have gc : s8c[0]? = some (7, 0) := rfl
  have fd : pd_fresh s8c (i8b I) L' (r8c R) := fr_R (fr_L (b := 26) (y := (11, 1681)) (L := L) (fun c hc => by
    have hc2 : 28 ≤ c := hc
    refine ⟨(fc c (by show 25 ≤ c; omega)).1, (fc c (by show 25 ≤ c; omega)).2.1, fun k => ?_⟩
    show R_X0 (r8b R) 26 25 c k = none
    unfold R_X0
    rw [pd_up_nb (by omega), pd_up_nb (by omega)]
    exact (fc c (by show 25 ≤ c; omega)).2.2 k) rfl hT.1) gc
  refine at_putr flX8_37 rfl gc (fun _ _ _ hq => by cases hq; first | exact Or.inl rfl | exact Or.inr ⟨rfl, rfl, rfl⟩) dX8_init_48 ?_
  refine at_aload_n dX8_init_51 rfl ?_
  refine at_bipush dX8_init_52 pc_b8 ?_
  refine at_anew 8 klX8_41 (by decide +kernel) (by decide) (by decide) (by decide) fd ⟨Nat.le_of_ble_eq_true rfl, Nat.le_of_ble_eq_true rfl⟩ dX8_init_54 ?_
  have gd : s8d[0]? = some (7, 0) := rfl
  refine at_putr (q := 28) flX8_43 rfl gd (fun _ _ _ hq => by cases hq; first | exact Or.inl rfl | exact Or.inr ⟨rfl, rfl, rfl⟩) dX8_init_57 ?_
  have fe : pd_fresh s8d (i8b I) L' (r8d R) := fr_R (fr_push fd) gd
  refine at_iconst dX8_init_60 pc_i0 ?_
  refine at_istore_n dX8_init_61 rfl (Nat.le_of_ble_eq_true rfl) ?_
  have hP : PSk s8d (i8b I) L' (r8d R) 0 := ⟨rfl, gd, rfl, rfl, fe⟩
  refine lp_X8_init hP ?_ 8 0 rfl
  obtain ⟨h1, h2, h3, h4, h5⟩ := PSk.at_k hP 8
  refine at_aload_n dX8_init_87 rfl ?_
  refine at_nw (ci := 2) (n := 109) h1 klX8_41 niX3 in_X3_init rfl h5 ⟨Nat.le_of_ble_eq_true rfl, Nat.le_of_ble_eq_true rfl⟩ dX8_init_88 ?_
  refine at_dup dX8_init_91 rfl ?_
  refine at_cn0 cb_X3_init rfl mnX8_47 rfl im_X3_init (ev_X3_init (n := 110) (a := 109) (sx_len h1) (sx_new h1) (fr_push h5)) (by decide) ⟨Nat.le_of_ble_eq_true rfl, Nat.le_of_ble_eq_true rfl⟩ (Nat.le_of_ble_eq_true rfl) dX8_init_92 (pd_k0 ?_)
  have ge := sg_X3 (sx_get (x := (2, 0)) h2)
  refine at_putr flX8_48 rfl ge (fun _ _ _ hq => by cases hq; first | exact Or.inl rfl | exact Or.inr ⟨rfl, rfl, rfl⟩) dX8_init_95 ?_
  refine at_aload_n dX8_init_98 rfl ?_
  refine at_iconst dX8_init_99 pc_im1 ?_
  refine at_puti flX8_52 rfl ge (fun _ _ _ hq => by cases hq; rfl) dX8_init_100 ?_
  refine at_vret rfl dX8_init_103 ?_
  exact ⟨rfl, L', rfl, hT, fr_I (fr_R (sf_X3 (n := 110) (a := 109) (sx_len h1) (sx_new h1) (fr_push h5)) ge) ge⟩
end DSK2
