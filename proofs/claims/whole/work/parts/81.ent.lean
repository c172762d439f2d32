/-! ===== the law's entry ===== -/
def s9f : List (Nat × Nat) := S_X9 (s8e ++ [(8, 0)]) ++ [(11, 1)]
set_option maxRecDepth 100000 in
theorem s9f_SD : s9f = SD := by decide +kernel
def i9f (I : Nat → Nat → Int32) : Nat → Nat → Int32 := I_X9 (i8e I)
def r9f (R : Nat → Nat → Option Nat) : Nat → Nat → Option Nat := R_X9 (r8e R)
section ENT
variable {G : pd_G} {n : Nat} {xs : Nat → Int32} {Q : pd_O → pd_M → Prop}
theorem s8e_len : s8e.length = 119 := by decide +kernel
theorem fr_of {S : List (Nat × Nat)} : pd_fresh S (fun _ _ => 0) (fun _ _ => 0) (fun _ _ => none) := fun _ _ => ⟨fun _ => rfl, fun _ => rfl, fun _ => rfl⟩
/-- over what is still open: the row of rows, the relation at the start -/
theorem at_law_open (hm : MNW G) (hX : XS G n xs) (hn : n ≤ 3072) (hQ : ∀ I L R, Q (.inl (some (.int 1))) (SD, false, I, L, R)) (hs : ∀ L', TI 26 (fun _ _ => 0) L' 41 0 → SM (i9f fun _ _ => 0) L' (r9f fun _ _ => none) w00 0 (fun _ => w00) (fun _ => 0) 0) : pd_At G mi_L_law 840 601024 7293034 0 0 0 [some (.ref G.2.2.2.2), none, none, none, none, none, none, none] [] ([], true, fun _ _ => 0, fun _ _ => 0, fun _ _ => none) Q := by
  refine at_nw (ci := 7) (n := 0) rfl klL_8 niX8 in_X8_init rfl fr_of ⟨Nat.le_of_ble_eq_true rfl, Nat.le_of_ble_eq_true rfl⟩ dL_law_0 ?_
  refine at_dup dL_law_3 rfl ?_
  refine at_ci0 cb_X8_init rfl mlL_71 rfl im_X8_init (ev_X8_init fr_of) (by decide) ⟨Nat.le_of_ble_eq_true rfl, Nat.le_of_ble_eq_true rfl⟩ (Nat.le_of_ble_eq_true rfl) dL_law_4 (fun o M hq => ?_)
  obtain ⟨rfl, L', rfl, hT, hf8⟩ := hq
  refine at_astore_n dL_law_7 rfl (Nat.le_of_ble_eq_true rfl) ?_
  refine at_nw (ci := 8) (n := 119) s8e_len klL_72 niX9 in_X9_init rfl hf8 ⟨Nat.le_of_ble_eq_true rfl, Nat.le_of_ble_eq_true rfl⟩ dL_law_8 ?_
  refine at_dup dL_law_11 rfl ?_
  refine at_ci0 cb_X9_init rfl mlL_74 rfl im_X9_init (ev_X9_init_open hm (sx_len s8e_len) (sx_new s8e_len) (fr_push hf8)) (by decide) ⟨Nat.le_of_ble_eq_true rfl, Nat.le_of_ble_eq_true rfl⟩ (Nat.le_of_ble_eq_true rfl) dL_law_12 (pd_k0 ?_)
  refine at_astore_n dL_law_15 rfl (Nat.le_of_ble_eq_true rfl) ?_
  refine at_iconst dL_law_16 pc_i1 ?_
  refine at_na (n := 137) 11 1 (by decide +kernel) (Or.inr (Or.inr ⟨rfl, rfl⟩)) ac_long (by decide) (by decide) (by decide) (sf_X9 (sx_len s8e_len) (sx_new s8e_len) (fr_push hf8)) ⟨Nat.le_of_ble_eq_true rfl, Nat.le_of_ble_eq_true rfl⟩ dL_law_17 ?_
  refine at_astore_n dL_law_19 rfl (Nat.le_of_ble_eq_true rfl) ?_
  refine at_iconst dL_law_20 pc_i0 ?_
  refine at_istore dL_law_21 rfl (Nat.le_of_ble_eq_true rfl) ?_
  refine at_loose ?_
  have e := lp_L_law (G := G) (h := 840) (mc := 601024) (ms := 7293034) hX hn (by decide) hQ 512 0 138 25212 none none none _ _ _ _ _ _ _ _ (by omega) (by omega) (by decide) (by decide) (hs L' hT)
  rw [← s9f_SD] at e
  exact e
end ENT
